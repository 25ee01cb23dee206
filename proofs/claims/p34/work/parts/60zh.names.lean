/-! names as numbers -/
theorem n_bm64 {t : Int} (h1 : -9223372036854775808 ≤ t) (h2 : t ≤ 9223372036854775807) : t.bmod (2 ^ 64) = t := by
  rw [Int.bmod_def]
  split <;> omega
theorem n_lmul {x y z : Int64} (h : z = x * y) (h1 : -9223372036854775808 ≤ x.toInt * y.toInt) (h2 : x.toInt * y.toInt ≤ 9223372036854775807) : z.toInt = x.toInt * y.toInt := by
  rw [h, Int64.toInt_mul]
  exact n_bm64 h1 h2
theorem n_ladd {x y z : Int64} (h : z = x + y) (h1 : -9223372036854775808 ≤ x.toInt + y.toInt) (h2 : x.toInt + y.toInt ≤ 9223372036854775807) : z.toInt = x.toInt + y.toInt := by
  rw [h, Int64.toInt_add]
  exact n_bm64 h1 h2
theorem n_lsub {x y z : Int64} (h : z = x - y) (h1 : -9223372036854775808 ≤ x.toInt - y.toInt) (h2 : x.toInt - y.toInt ≤ 9223372036854775807) : z.toInt = x.toInt - y.toInt := by
  rw [h, Int64.toInt_sub]
  exact n_bm64 h1 h2
theorem n_lmulK {x y z : Int64} {k : Int} (h : z = x * y) (hx : x.toInt = k) (h1 : -9223372036854775808 ≤ k * y.toInt) (h2 : k * y.toInt ≤ 9223372036854775807) : z.toInt = k * y.toInt := by
  have := n_lmul h (by rw [hx]; exact h1) (by rw [hx]; exact h2)
  rw [this, hx]
def oqVf (f : Nat → Int) : Nat → Int
  | 0 => 0
  | k + 1 => if f k = 0 then oqVf f k else 27 * oqVf f k + f k
/-- letters, then nothing -/
def oqNmL (f : Nat → Int) : Prop := (∀ k : Nat, k < 6 → 0 ≤ f k ∧ f k ≤ 26) ∧ ∀ k : Nat, k < 5 → f k = 0 → f (k + 1) = 0
theorem oqVf_y {f : Nat → Int} {k : Nat} (h : f k ≠ 0) : oqVf f (k + 1) = 27 * oqVf f k + f k := if_neg h
theorem oqVf_n {f : Nat → Int} {k : Nat} (h : f k = 0) : oqVf f (k + 1) = oqVf f k := if_pos h
theorem oqVf_ge {f : Nat → Int} (h : oqNmL f) : ∀ {k : Nat}, k ≤ 6 → 0 ≤ oqVf f k
  | 0, _ => Int.le_refl 0
  | k + 1, hk => by
    have h1 := oqVf_ge h (k := k) (by omega)
    have h2 := h.1 k (by omega)
    by_cases h3 : f k = 0
    · rw [oqVf_n h3]; exact h1
    · rw [oqVf_y h3]; omega
theorem oqVf_cg {f h : Nat → Int} : ∀ {n : Nat}, (∀ k, k < n → f k = h k) → oqVf f n = oqVf h n
  | 0, _ => rfl
  | n + 1, e => by
    show (if f n = 0 then oqVf f n else 27 * oqVf f n + f n) = (if h n = 0 then oqVf h n else 27 * oqVf h n + h n)
    rw [oqVf_cg (n := n) (fun k hk => e k (by omega)), e n (by omega)]
theorem oqVf_L {f : Nat → Int} (h : oqNmL f) : ∀ {n : Nat}, n ≤ 6 → ∃ L, L ≤ n ∧ (∀ k, k < L → f k ≠ 0) ∧ (∀ k, L ≤ k → k < n → f k = 0) ∧ oqVf f n = oqVf f L
  | 0, _ => ⟨0, Nat.le_refl _, fun k hk => by omega, fun k h1 h2 => by omega, rfl⟩
  | n + 1, hn => by
    obtain ⟨L, h1, h2, h3, h4⟩ := oqVf_L h (n := n) (by omega)
    by_cases h5 : f n = 0
    · refine ⟨L, by omega, h2, fun k q1 q2 => ?_, by rw [oqVf_n h5]; exact h4⟩
      by_cases e : k = n
      · rw [e]; exact h5
      · exact h3 k q1 (by omega)
    · have hL : L = n := by
        by_cases e : L = n
        · exact e
        · exfalso
          have h6 := h3 (n - 1) (by omega) (by omega)
          have h7 := h.2 (n - 1) (by omega) h6
          rw [show n - 1 + 1 = n by omega] at h7
          exact h5 h7
      refine ⟨n + 1, Nat.le_refl _, fun k hk => ?_, fun k q1 q2 => by omega, rfl⟩
      by_cases e : k = n
      · rw [e]; exact h5
      · exact h2 k (by omega)
theorem oqVf_ij {f h : Nat → Int} (hf : oqNmL f) (hh : oqNmL h) : ∀ {i j : Nat}, i ≤ 6 → j ≤ 6 → (∀ k, k < i → f k ≠ 0) → (∀ k, k < j → h k ≠ 0) → oqVf f i = oqVf h j → i = j ∧ ∀ k, k < i → f k = h k
  | 0, 0, _, _, _, _, _ => ⟨rfl, fun k hk => by omega⟩
  | 0, j + 1, _, hj, _, h2, e => by
    exfalso
    have q1 := oqVf_ge hh (k := j) (by omega)
    have q2 := hh.1 j (by omega)
    have q3 := h2 j (by omega)
    rw [oqVf_y q3] at e
    have e' : (0 : Int) = 27 * oqVf h j + h j := e
    omega
  | i + 1, 0, hi, _, h1, _, e => by
    exfalso
    have q1 := oqVf_ge hf (k := i) (by omega)
    have q2 := hf.1 i (by omega)
    have q3 := h1 i (by omega)
    rw [oqVf_y q3] at e
    have e' : 27 * oqVf f i + f i = (0 : Int) := e
    omega
  | i + 1, j + 1, hi, hj, h1, h2, e => by
    have q1 := oqVf_ge hf (k := i) (by omega)
    have q2 := hf.1 i (by omega)
    have q3 := h1 i (by omega)
    have r1 := oqVf_ge hh (k := j) (by omega)
    have r2 := hh.1 j (by omega)
    have r3 := h2 j (by omega)
    rw [oqVf_y q3, oqVf_y r3] at e
    have e1 : oqVf f i = oqVf h j := by omega
    have e2 : f i = h j := by omega
    obtain ⟨s1, s2⟩ := oqVf_ij hf hh (i := i) (j := j) (by omega) (by omega) (fun k hk => h1 k (by omega)) (fun k hk => h2 k (by omega)) e1
    subst s1
    refine ⟨rfl, fun k hk => ?_⟩
    by_cases ek : k = i
    · rw [ek]; exact e2
    · exact s2 k (by omega)
theorem oqVf_inj {f h : Nat → Int} (hf : oqNmL f) (hh : oqNmL h) (e : oqVf f 6 = oqVf h 6) : ∀ k, k < 6 → f k = h k := by
  obtain ⟨L, l1, l2, l3, l4⟩ := oqVf_L hf (n := 6) (Nat.le_refl _)
  obtain ⟨K, k1, k2, k3, k4⟩ := oqVf_L hh (n := 6) (Nat.le_refl _)
  obtain ⟨s1, s2⟩ := oqVf_ij hf hh l1 k1 l2 k2 (by rw [← l4, ← k4]; exact e)
  subst s1
  intro k hk
  by_cases h1 : k < L
  · exact s2 k h1
  · rw [l3 k (by omega) hk, k3 k (by omega) hk]
theorem oqWeF_run {g : Int → Int} : ∀ (k : Nat) (a j : Int), a ≤ j → j < oqWeF g k a → 97 ≤ g j ∧ g j ≤ 122
  | 0, a, j, h1, h2 => by
    have h2' : j < a := h2
    omega
  | k + 1, a, j, h1, h2 => by
    have h2' : j < (if 97 ≤ g a ∧ g a ≤ 122 then oqWeF g k (a + 1) else a) := h2
    by_cases h3 : 97 ≤ g a ∧ g a ≤ 122
    · rw [if_pos h3] at h2'
      by_cases e : j = a
      · rw [e]; exact h3
      · exact oqWeF_run k (a + 1) j (by omega) h2'
    · rw [if_neg h3] at h2'
      omega
theorem oqN6_nm (g : Int → Int) (A : Int) : oqNmL (oqN6 g A) := by
  refine ⟨fun k hk => ?_, fun k hk h0 => ?_⟩
  · by_cases h : A + k < oqWe g A
    · rw [oqN6_in h]
      have := oqWeF_run 1601 A (A + k) (by omega) h
      omega
    · rw [oqN6_out h]
      omega
  · by_cases h : A + k < oqWe g A
    · rw [oqN6_in h] at h0
      have := oqWeF_run 1601 A (A + k) (by omega) h
      omega
    · rw [oqN6_out (by omega)]
/-- the value of what is read so far -/
def oqVa6 (g : Int → Int) (A : Int) (n : Int) : Int := oqVf (fun k => g (A + k) - 96) n.toNat
theorem oqVa6_0 {g : Int → Int} {A n : Int} (h : n = 0) : oqVa6 g A n = 0 := by
  unfold oqVa6
  rw [h]
  rfl
theorem oqVa6_nx {g : Int → Int} {A n m b : Int} (h0 : 0 ≤ n) (hm : m = n + 1) (hb : b = A + n) (hg : 97 ≤ g b ∧ g b ≤ 122) : oqVa6 g A m = 27 * oqVa6 g A n + g b - 96 := by
  unfold oqVa6
  have e : A + (n.toNat : Int) = b := by omega
  rw [show m.toNat = n.toNat + 1 by omega]
  show (if g (A + (n.toNat : Int)) - 96 = 0 then _ else 27 * oqVf (fun k => g (A + k) - 96) n.toNat + (g (A + (n.toNat : Int)) - 96)) = _
  rw [e, if_neg (by omega)]
  omega
theorem oqVa6_end {g : Int → Int} {A n : Int} (h0 : 0 ≤ n) (h6 : n ≤ 6) (hw : oqWe g A = A + n) : oqVa6 g A n = oqVf (oqN6 g A) 6 := by
  unfold oqVa6
  have key : ∀ m : Nat, n.toNat + m ≤ 6 → oqVf (oqN6 g A) (n.toNat + m) = oqVf (oqN6 g A) n.toNat := fun m => by
    induction m with
    | zero => exact fun _ => rfl
    | succ m ihm =>
      intro hm
      rw [show n.toNat + (m + 1) = (n.toNat + m) + 1 by omega, oqVf_n (oqN6_out (by omega)), ihm (by omega)]
  have h := key (6 - n.toNat) (by omega)
  rw [show n.toNat + (6 - n.toNat) = 6 by omega] at h
  rw [h]
  exact (oqVf_cg (fun k hk => oqN6_in (by omega))).symm
/-- the names that the reference has told -/
def oqNR (N : Nat → Nat → Int) (M : Int) (t : oS) : Prop := ∀ m : Nat, (m : Int) < M → oqNmL (N m) ∧ (t.2.1 107 (6 + m)).toInt = oqVf (N m) 6
theorem oqNR_fr {MM : List (Nat × Nat)} {s u : oS} {N : Nat → Nat → Int} {M : Int} (hf : oFr MM s u) (hm : oinK MM 83 = false) (h : oqNR N M s) : oqNR N M u := fun m hm2 => by
  rw [(hf 107 (6 + m) (oinK_in hm _)).2.1]
  exact h m hm2
theorem oqNR_0 {N : Nat → Nat → Int} {M : Int} {t : oS} (h : M = 0) : oqNR N M t := fun m hm => by omega
theorem oqNR_nx {N : Nat → Nat → Int} {M : Int} {s : oS} {i : Int32} {v : Int64} {g : Int → Int} {A : Int} (h : oqNR N M s) (h0 : 0 ≤ M) (hi : i.toInt = 6 + M) (hv : v.toInt = oqVf (oqN6 g A) 6) : oqNR (oqNx N M (oqN6 g A)) (M + 1) (pL s 107 i.toNatClampNeg v) := fun m hm => by
  have e1 := n_nat i
  by_cases e : (m : Int) = M
  · have ef : oqNx N M (oqN6 g A) m = oqN6 g A := by
      funext k
      exact if_pos e
    rw [ef, show 6 + m = i.toNatClampNeg by omega, pL_self]
    exact ⟨oqN6_nm g A, hv⟩
  · have ef : oqNx N M (oqN6 g A) m = N m := by
      funext k
      exact if_neg e
    rw [ef]
    refine ⟨(h m (by omega)).1, ?_⟩
    have e2 : (pL s 107 i.toNatClampNeg v).2.1 107 (6 + m) = s.2.1 107 (6 + m) := by
      show (if (107 : Nat) = 107 then (if 6 + m = i.toNatClampNeg then v else s.2.1 107 (6 + m)) else s.2.1 107 (6 + m)) = _
      rw [if_pos rfl, if_neg (by omega)]
    rw [e2]
    exact (h m (by omega)).2
/-- none of the first x names is that one -/
def oqNo6 (g : Int → Int) (A : Int) (N : Nat → Nat → Int) (x : Int) : Prop := ∀ m : Nat, (m : Int) < x → ¬ ∀ k : Nat, k < 6 → N m k = oqN6 g A k
theorem oqNo6_0 {g : Int → Int} {A x : Int} {N : Nat → Nat → Int} (h : x = 0) : oqNo6 g A N x := fun m hm => by omega
theorem oqNo6_nx {g : Int → Int} {A x y : Int} {N : Nat → Nat → Int} {j : Nat} (h : oqNo6 g A N x) (hj : x = (j : Int)) (hy : y = x + 1) (hn : ¬ ∀ k : Nat, k < 6 → N j k = oqN6 g A k) : oqNo6 g A N y := fun m hm => by
  by_cases e : m = j
  · rw [e]; exact hn
  · exact h m (by omega)
theorem oqNo6_t {g : Int → Int} {A M x : Int} {N : Nat → Nat → Int} (h : oqNo6 g A N x) (hx : M ≤ x) : ¬ oqTkn g A N M := fun ⟨m, h1, h2⟩ => h m (by omega) h2
theorem oqNR_eq {N : Nat → Nat → Int} {M : Int} {s : oS} {i : Int32} {v w : Int64} {g : Int → Int} {A : Int} {j : Nat} (h : oqNR N M s) (hj : (j : Int) < M) (hi : i.toInt = 6 + (j : Int)) (e : s.2.1 107 i.toNatClampNeg = v) (hw : w.toInt = oqVf (oqN6 g A) 6) : v.toInt = w.toInt ↔ ∀ k : Nat, k < 6 → N j k = oqN6 g A k := by
  have e1 := n_nat i
  obtain ⟨h1, h2⟩ := h j hj
  rw [show 6 + j = i.toNatClampNeg by omega, e] at h2
  rw [h2, hw]
  constructor
  · exact oqVf_inj h1 (oqN6_nm g A)
  · exact fun h3 => oqVf_cg h3
/-! when TEST, ahead of ; -/
def oqVs (g : Int → Int) (p q w : Int) (t : oS) : Prop := ((t.1 71 5).toInt = 0 → oqH g w w 6 = 1 ∧ oqVc g p q w = (8, oqSk g (t.1 71 2).toInt, (t.1 71 4).toInt, (t.1 71 48).toInt, [])) ∧ ((t.1 71 5).toInt ≠ 0 → oqVk g p q w ≠ 0 ∧ (t.1 71 5).toInt = oqVk g p q w ∧ (t.1 71 6).toInt = oqVp g p q w)
theorem oqVs_fr {g : Int → Int} {p q w : Int} {M : List (Nat × Nat)} {s u : oS} (hf : oFr M s u) (hm : (oin M 12 2 || (oin M 12 4 || (oin M 12 5 || (oin M 12 6 || oin M 12 48)))) = false) (h : oqVs g p q w s) : oqVs g p q w u := by
  simp only [Bool.or_eq_false_iff] at hm
  unfold oqVs
  rw [(hf 71 2 hm.1).1, (hf 71 4 hm.2.1).1, (hf 71 5 hm.2.2.1).1, (hf 71 6 hm.2.2.2.1).1, (hf 71 48 hm.2.2.2.2).1]
  exact h
theorem oqV_cf {g : Int → Int} {p q w k pl : Int} (h : oqH g w w 6 = 1) (e : oqVc g p q w = (9, pl, k, 0, [])) : oqVk g p q w = k ∧ oqVp g p q w = pl := by
  have c1 : ¬ (oqH g w w 6 ≠ 1) := by omega
  have c2 : (oqVc g p q w).1 ≠ 8 := by rw [e]; show (9 : Nat) ≠ 8; decide
  refine ⟨(if_neg c1).trans ((if_pos c2).trans (by rw [e])), (if_neg c1).trans ((if_pos c2).trans (by rw [e]))⟩
theorem oqV_c8 {g : Int → Int} {p q w x y o : Int} (h : oqH g w w 6 = 1) (e : oqVc g p q w = (8, x, y, o, [])) : (g (oqSk g x) ≠ 59 → oqVk g p q w = 1 ∧ oqVp g p q w = oqSk g x) ∧ (g (oqSk g x) = 59 → oqVk g p q w = 0 ∧ oqVa g p q w = oqSk g x + 1 ∧ oqVb g p q w = y) := by
  have c1 : ¬ (oqH g w w 6 ≠ 1) := by omega
  have c2 : ¬ ((oqVc g p q w).1 ≠ 8) := by rw [e]; exact fun h => h rfl
  refine ⟨fun hs => ?_, fun hs => ?_⟩
  · have c3 : g (oqSk g (oqVc g p q w).2.1) ≠ 59 := by rw [e]; exact hs
    exact ⟨(if_neg c1).trans ((if_neg c2).trans (if_pos c3)), (if_neg c1).trans ((if_neg c2).trans (by rw [e]))⟩
  · have c3 : ¬ (g (oqSk g (oqVc g p q w).2.1) ≠ 59) := by rw [e]; exact fun h => h hs
    refine ⟨(if_neg c1).trans ((if_neg c2).trans (if_neg c3)), ?_, ?_⟩
    · unfold oqVa; rw [e]
    · unfold oqVb; rw [e]
theorem oqVs_w {g : Int → Int} {p q w : Int} {u : oS} (h : oqH g w w 6 = 0) (hb : (u.1 71 5).toInt = 1) (hp : (u.1 71 6).toInt = oqSk g w) : oqVs g p q w u := by
  have e := oqV_1 (p := p) (q := q) h
  exact ⟨fun h9 => by omega, fun _ => ⟨by omega, by omega, by omega⟩⟩
theorem oqVs_t {g : Int → Int} {p q w : Int} {u : oS} (h : oqH g w w 6 = 1) (h8 : oqE8 g p q (0, oqSk g (oqHa g w 6), oqHa g w 6, 0, []) u) : oqVs g p q w u := by
  refine ⟨fun hb => ⟨h, oqTf_of (h8.1 hb) (by show 4 ≤ 8; omega)⟩, fun hb => ?_⟩
  have e : oqVc g p q w = (9, (u.1 71 6).toInt, (u.1 71 5).toInt, 0, []) := oqTf_of (h8.2 hb) (by show 4 ≤ 9; omega)
  have e2 := oqV_cf h e
  exact ⟨by omega, by omega, by omega⟩
/-- .. and ; -/
theorem oqVs_59 {g : Int → Int} {p q w a : Int} {s u : oS} (h : oqVs g p q w s) (ha : (s.1 71 5).toInt = 0 → (s.1 71 2).toInt = a) (hnb : (s.1 71 5).toInt = 0 → g (oqSk g a) ≠ 32 ∧ g (oqSk g a) ≠ 10) (h1 : (u.1 71 5).toInt = 0 → (s.1 71 5).toInt = 0 ∧ g (oqSk g a) = 59 ∧ (u.1 71 2).toInt = oqSk g a + 1 ∧ (u.1 71 4).toInt = (s.1 71 4).toInt) (h0 : (u.1 71 5).toInt ≠ 0 → ((s.1 71 5).toInt = 0 ∧ g (oqSk g a) ≠ 59 ∧ (u.1 71 5).toInt = 1 ∧ (u.1 71 6).toInt = oqSk g a) ∨ ((s.1 71 5).toInt ≠ 0 ∧ (u.1 71 5).toInt = (s.1 71 5).toInt ∧ (u.1 71 6).toInt = (s.1 71 6).toInt)) : ((u.1 71 5).toInt = 0 → oqVk g p q w = 0 ∧ (u.1 71 2).toInt = oqVa g p q w ∧ (u.1 71 4).toInt = oqVb g p q w) ∧ ((u.1 71 5).toInt ≠ 0 → oqVk g p q w ≠ 0 ∧ (u.1 71 5).toInt = oqVk g p q w ∧ (u.1 71 6).toInt = oqVp g p q w) := by
  refine ⟨fun hb => ?_, fun hb => ?_⟩
  · obtain ⟨q1, q2, q3, q4⟩ := h1 hb
    obtain ⟨r1, r2⟩ := h.1 q1
    have e := oqV_c8 r1 r2
    have es := oqSk_sk (hnb q1)
    rw [ha q1, es] at e
    have e2 := e.2 q2
    omega
  · rcases h0 hb with ⟨q1, q2, q3, q4⟩ | ⟨q1, q2, q3⟩
    · obtain ⟨r1, r2⟩ := h.1 q1
      have e := oqV_c8 r1 r2
      have es := oqSk_sk (hnb q1)
      rw [ha q1, es] at e
      have e2 := e.1 q2
      omega
    · have e := h.2 q1
      omega
/-- the reference on its way along the book -/
def oqRS (g : Int → Int) (t : oS) : Prop := ((t.1 71 5).toInt = 0 ∧ (t.1 71 6).toInt = -1 ∧ ∃ R M N, (t.1 104 2).toInt = R ∧ (t.1 104 3).toInt = M ∧ oqNR N M t ∧ oqBu g (t.1 71 2).toInt (t.1 71 4).toInt R M N (t.1 71 37).toInt ∧ (0 ≤ R ∧ R ≤ 12 ∧ 0 ≤ M ∧ M ≤ 6)) ∨ ((t.1 71 5).toInt ≠ 0 ∧ oqB1 g = -1 ∧ oqB2 g = (t.1 71 5).toInt ∧ oqB3 g = (t.1 71 6).toInt)
theorem oqRS_bad {g : Int → Int} {t : oS} (h : oqRS g t) (hb : (t.1 71 5).toInt ≠ 0) : oqB1 g = -1 ∧ oqB2 g = (t.1 71 5).toInt ∧ oqB3 g = (t.1 71 6).toInt := by
  rcases h with h | h
  · exact absurd h.1 hb
  · exact h.2
theorem oqRS_0 {g : Int → Int} {t : oS} (h1 : (t.1 71 5).toInt = 0) (h2 : (t.1 71 6).toInt = -1) (h3 : (t.1 71 2).toInt = 0) (h4 : (t.1 71 4).toInt = -1) (h5 : (t.1 71 37).toInt = 0) (h6 : (t.1 104 2).toInt = 0) (h7 : (t.1 104 3).toInt = 0) : oqRS g t := Or.inl ⟨h1, h2, 0, 0, fun _ _ => 0, h6, h7, oqNR_0 rfl, oqBu_0 h3 h4 h5, by omega, by omega, by omega, by omega⟩
theorem oqRS_nx {g : Int → Int} {u : oS} {a b R M n : Int} {N : Nat → Nat → Int} (H : oqBu g a b R M N n) (hne : g (oqSk g a) ≠ -1) (hr : 0 ≤ R ∧ R ≤ 12 ∧ 0 ≤ M ∧ M ≤ 6) (p60 : n = 60 → (u.1 71 5).toInt = 5 ∧ (u.1 71 6).toInt = oqSk g a) (p1 : n < 60 → (u.1 71 5).toInt = 0 → (oqBk g (oqSk g a) b R M N = 0 ∧ (u.1 71 2).toInt = oqBa g (oqSk g a) b ∧ (u.1 71 4).toInt = oqBb g (oqSk g a) b ∧ (u.1 71 6).toInt = -1 ∧ (u.1 104 2).toInt = oqBR g (oqSk g a) b R ∧ (u.1 104 3).toInt = oqBM g (oqSk g a) b M)) (p0 : n < 60 → (u.1 71 5).toInt ≠ 0 → (oqBk g (oqSk g a) b R M N ≠ 0 ∧ (u.1 71 5).toInt = oqBk g (oqSk g a) b R M N ∧ (u.1 71 6).toInt = oqBp g (oqSk g a) b R M N)) (pN : n < 60 → (u.1 71 5).toInt = 0 → oqNR (oqBN g (oqSk g a) b N M) (oqBM g (oqSk g a) b M) u) (ps : (u.1 71 5).toInt = 0 → (u.1 71 37).toInt = n + 1) : oqRS g u := by
  have hn := H.2.1
  by_cases h60 : n = 60
  · obtain ⟨h1, h2⟩ := p60 h60
    have h := oqBu_5 H hne h60
    exact Or.inr ⟨by omega, by omega, by omega, by omega⟩
  · by_cases hb : (u.1 71 5).toInt = 0
    · obtain ⟨h1, h2, h3, h4, h5, h6⟩ := p1 (by omega) hb
      exact Or.inl ⟨hb, h4, _, _, _, h5, h6, pN (by omega) hb, oqBu_nx H hne (by omega) h1 h2 h3 (ps hb), oqBk_rg h1 hr⟩
    · obtain ⟨h0, h1, h2⟩ := p0 (by omega) hb
      have h := oqBu_bad H hne (by omega) h0
      exact Or.inr ⟨hb, h.1, by omega, by omega⟩
theorem oqWeF_ge {g : Int → Int} : ∀ (k : Nat) (a : Int), a ≤ oqWeF g k a
  | 0, a => Int.le_refl _
  | k + 1, a => by
    show a ≤ (if 97 ≤ g a ∧ g a ≤ 122 then oqWeF g k (a + 1) else a)
    split
    · have := oqWeF_ge (g := g) k (a + 1)
      omega
    · omega
theorem oqWeF_gt {g : Int → Int} {w : Int} (hw : 97 ≤ g w ∧ g w ≤ 122) : ∀ (k : Nat) (a : Int), a ≤ w → w - a < k → oqRun g a w → w < oqWeF g k a
  | 0, a, h1, h2, _ => by omega
  | k + 1, a, h1, h2, h3 => by
    show w < (if 97 ≤ g a ∧ g a ≤ 122 then oqWeF g k (a + 1) else a)
    by_cases e : a = w
    · rw [e, if_pos hw]
      have := oqWeF_ge (g := g) k (w + 1)
      omega
    · rw [if_pos (h3 a (Int.le_refl _) (by omega))]
      exact oqWeF_gt hw k (a + 1) (by omega) (by omega) (fun j q1 q2 => h3 j (by omega) q2)
theorem oqWe_gt {g : Int → Int} {A w : Int} (h : oqRun g A w) (hw : 97 ≤ g w ∧ g w ≤ 122) (h0 : A ≤ w) (h1 : w - A ≤ 1600) : w < oqWe g A := oqWeF_gt hw 1601 A h0 (by omega) h
theorem oMny23 {s : oS} {i z : Int32} : (i.toInt = 2 → ((pI s 104 i.toNatClampNeg z).1 104 2).toInt = z.toInt ∧ ((pI s 104 i.toNatClampNeg z).1 104 3).toInt = (s.1 104 3).toInt) ∧ (i.toInt = 3 → ((pI s 104 i.toNatClampNeg z).1 104 3).toInt = z.toInt ∧ ((pI s 104 i.toNatClampNeg z).1 104 2).toInt = (s.1 104 2).toInt) := by
  have e1 := n_nat i
  refine ⟨fun h => ?_, fun h => ?_⟩
  · have e : i.toNatClampNeg = 2 := by omega
    rw [e, pI_self, pI_ne s z (Or.inr (by decide))]
    exact ⟨rfl, rfl⟩
  · have e : i.toNatClampNeg = 3 := by omega
    rw [e, pI_self, pI_ne s z (Or.inr (by decide))]
    exact ⟨rfl, rfl⟩
theorem oqTt_0 {g : Int → Int} {p q w : Int} {t : oS} (hb : (t.1 71 5).toInt = 0) (hw : (t.1 71 47).toInt = 0) (ho : (t.1 71 48).toInt = 0) (ha : (t.1 71 2).toInt = oqHa g w 6) (he : (t.1 71 4).toInt = oqHa g w 6) : oqTt g p q (0, oqSk g (oqHa g w 6), oqHa g w 6, 0, []) 0 t := by
  have e1 := n_nat (t.1 71 47)
  refine ⟨fun _ => ?_, fun h9 => absurd hb h9⟩
  rw [show (t.1 71 47).toNatClampNeg = 0 by omega, ho, ha, he]
  exact ⟨oqTo.rf, fun j hj => by omega⟩
/-! what a statement gives, from what its pieces give -/
section BT
variable {g : Int → Int} {a b R M bs ps as es bu pu au eu : Int} {N : Nat → Nat → Int}
theorem oqBh_i {i : Nat} (h : oqWi g a b = (i : Int)) : oqBh g a b = oqHa g a i := by
  unfold oqBh
  rw [h, Int.toNat_natCast]
theorem oqBt_m (hW : oqWi g a b = 3) (U1 : bs = 0 → oqNk g (oqHa g a 3) (oqHa g a 3) 2 12 = 0 ∧ as = oqNa g (oqHa g a 3) ∧ es = oqNa g (oqHa g a 3)) (U0 : bs ≠ 0 → oqNk g (oqHa g a 3) (oqHa g a 3) 2 12 ≠ 0 ∧ bs = oqNk g (oqHa g a 3) (oqHa g a 3) 2 12 ∧ ps = oqNp g (oqHa g a 3) (oqHa g a 3)) (R1 : bu = 0 → bs = 0 ∧ g (oqSk g as) = 59 ∧ au = oqSk g as + 1 ∧ eu = es) (R0 : bu ≠ 0 → (bs = 0 ∧ g (oqSk g as) ≠ 59 ∧ bu = 1 ∧ pu = oqSk g as) ∨ (bs ≠ 0 ∧ bu = bs ∧ pu = ps)) : (bu = 0 → oqBk g a b R M N = 0 ∧ au = oqBa g a b ∧ eu = oqBb g a b) ∧ (bu ≠ 0 → oqBk g a b R M N ≠ 0 ∧ bu = oqBk g a b R M N ∧ pu = oqBp g a b R M N) := by
  have hB : oqBh g a b = oqHa g a 3 := oqBh_i (i := 3) hW
  refine ⟨fun hb => ?_, fun hb => ?_⟩
  · obtain ⟨q1, q2, q3, q4⟩ := R1 hb
    obtain ⟨r1, r2, r3⟩ := U1 q1
    rw [r2] at q2 q3
    have e := oqB_m0 (R := R) (M := M) (N := N) hW (by rw [hB]; exact r1) (by rw [hB]; exact q2)
    rw [hB] at e
    omega
  · rcases R0 hb with ⟨q1, q2, q3, q4⟩ | ⟨q1, q2, q3⟩
    · obtain ⟨r1, r2, r3⟩ := U1 q1
      rw [r2] at q2 q4
      have e := oqB_m2 (R := R) (M := M) (N := N) hW (by rw [hB]; exact r1) (by rw [hB]; exact q2)
      rw [hB] at e
      omega
    · obtain ⟨r1, r2, r3⟩ := U0 q1
      have e := oqB_m1 (R := R) (M := M) (N := N) hW (by rw [hB]; exact r1)
      rw [hB] at e
      omega
theorem oqBt_r (hW : oqWi g a b = 4) (hR : R < 12) (V : (bu = 0 → oqVk g 11 19 (oqHa g a 4) = 0 ∧ au = oqVa g 11 19 (oqHa g a 4) ∧ eu = oqVb g 11 19 (oqHa g a 4)) ∧ (bu ≠ 0 → oqVk g 11 19 (oqHa g a 4) ≠ 0 ∧ bu = oqVk g 11 19 (oqHa g a 4) ∧ pu = oqVp g 11 19 (oqHa g a 4))) : (bu = 0 → oqBk g a b R M N = 0 ∧ au = oqBa g a b ∧ eu = oqBb g a b) ∧ (bu ≠ 0 → oqBk g a b R M N ≠ 0 ∧ bu = oqBk g a b R M N ∧ pu = oqBp g a b R M N) := by
  have e := oqB_r (M := M) (N := N) hW hR
  rw [oqBh_i (i := 4) hW] at e
  obtain ⟨e1, e2, e3, e4⟩ := e
  rw [e1, e2, e3, e4]
  exact V
theorem oqBt_o (hW : oqWi g a b = 5) (hM : M < 6) (hn : oqMk g (oqHa g a 5) N M = 0) (V : (bu = 0 → oqVk g 19 24 (oqWe g (oqSk g (oqHa g a 5))) = 0 ∧ au = oqVa g 19 24 (oqWe g (oqSk g (oqHa g a 5))) ∧ eu = oqVb g 19 24 (oqWe g (oqSk g (oqHa g a 5)))) ∧ (bu ≠ 0 → oqVk g 19 24 (oqWe g (oqSk g (oqHa g a 5))) ≠ 0 ∧ bu = oqVk g 19 24 (oqWe g (oqSk g (oqHa g a 5))) ∧ pu = oqVp g 19 24 (oqWe g (oqSk g (oqHa g a 5))))) : (bu = 0 → oqBk g a b R M N = 0 ∧ au = oqBa g a b ∧ eu = oqBb g a b) ∧ (bu ≠ 0 → oqBk g a b R M N ≠ 0 ∧ bu = oqBk g a b R M N ∧ pu = oqBp g a b R M N) := by
  have hB := oqBh_i (i := 5) hW
  have e := oqB_o (R := R) (N := N) hW hM (by rw [hB]; exact hn)
  unfold oqBn at e
  rw [hB] at e
  obtain ⟨e1, e2, e3, e4⟩ := e
  rw [e1, e2, e3, e4]
  exact V
/-- a fault that stood ahead of the ; -/
theorem oqBt_x {k pl : Int} (hk : oqBk g a b R M N = k) (hp : oqBp g a b R M N = pl) (h0 : k ≠ 0) (hb : bu = k) (hpu : pu = pl) : (bu = 0 → oqBk g a b R M N = 0 ∧ au = oqBa g a b ∧ eu = oqBb g a b) ∧ (bu ≠ 0 → oqBk g a b R M N ≠ 0 ∧ bu = oqBk g a b R M N ∧ pu = oqBp g a b R M N) := by
  refine ⟨fun h => by omega, fun h => by omega⟩
end BT
