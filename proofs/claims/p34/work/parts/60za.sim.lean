/-! the reference's stack of what waits, as the machine has it -/
def oqCd (v : Int) : List Nat := if v = 20 then [0] else if v = 21 ∨ v = 22 then [1] else if v = 23 ∨ v = 24 then [2] else if v = 25 then [3] else if v = 16 then [4] else []
theorem oqCd_20 {v : Int} (h : v = 20) : oqCd v = [0] := if_pos h
theorem oqCd_21 {v : Int} (h : v = 21 ∨ v = 22) : oqCd v = [1] := (if_neg (by omega)).trans (if_pos h)
theorem oqCd_23 {v : Int} (h : v = 23 ∨ v = 24) : oqCd v = [2] := (if_neg (by omega)).trans ((if_neg (by omega)).trans (if_pos h))
theorem oqCd_25 {v : Int} (h : v = 25) : oqCd v = [3] := (if_neg (by omega)).trans ((if_neg (by omega)).trans ((if_neg (by omega)).trans (if_pos h)))
theorem oqCd_16 {v : Int} (h : v = 16) : oqCd v = [4] := (if_neg (by omega)).trans ((if_neg (by omega)).trans ((if_neg (by omega)).trans ((if_neg (by omega)).trans (if_pos h))))
theorem oqCd_no {v : Int} (h : v < 16 ∨ (16 < v ∧ v < 20) ∨ 25 < v) : oqCd v = [] := (if_neg (by omega)).trans ((if_neg (by omega)).trans ((if_neg (by omega)).trans ((if_neg (by omega)).trans (if_neg (by omega)))))
def oqSg (w : Nat → Int32) (a : Nat) : Nat → List Nat
  | 0 => []
  | n + 1 => oqCd (w (a + n)).toInt ++ oqSg w a n
theorem oqSg_s {w : Nat → Int32} {a n : Nat} : oqSg w a (n + 1) = oqCd (w (a + n)).toInt ++ oqSg w a n := rfl
theorem oqSg_cg {w w' : Nat → Int32} {a : Nat} : ∀ {n : Nat}, (∀ j, j < a + n → w j = w' j) → oqSg w a n = oqSg w' a n
  | 0, _ => rfl
  | n + 1, h => by
    rw [oqSg_s, oqSg_s, oqSg_cg (n := n) (fun j hj => h j (by omega)), h (a + n) (by omega)]
theorem oqSg_no {w : Nat → Int32} {a k : Nat} : ∀ {n : Nat}, (∀ j, a + k ≤ j → j < a + k + n → oqCd (w j).toInt = []) → oqSg w a (k + n) = oqSg w a k
  | 0, _ => rfl
  | n + 1, h => by
    rw [show k + (n + 1) = (k + n) + 1 by omega, oqSg_s, h (a + (k + n)) (by omega) (by omega), List.nil_append]
    exact oqSg_no (fun j h1 h2 => h j h1 (by omega))
/-- what waits in a sum that began at B, x, and what waits below -/
def oqSt (w : Nat → Int32) (x B W : Nat) : List Nat := oqSg w B (W - B) ++ x :: oqSg w 0 B
theorem oqSt_up {w : Nat → Int32} {x B W : Nat} (h : B ≤ W) : oqSt w x B (W + 1) = oqCd (w W).toInt ++ oqSt w x B W := by
  unfold oqSt
  rw [show W + 1 - B = (W - B) + 1 by omega, oqSg_s, show B + (W - B) = W by omega, List.append_assoc]
theorem oqSt_cg {w w' : Nat → Int32} {x B W : Nat} (h : ∀ j, j < W → w j = w' j) (hB : B ≤ W) : oqSt w x B W = oqSt w' x B W := by
  unfold oqSt
  rw [oqSg_cg (w := w) (w' := w') (a := B) (n := W - B) (fun j hj => h j (by omega)), oqSg_cg (w := w) (w' := w') (a := 0) (n := B) (fun j hj => h j (by omega))]
theorem oqSt_pu {w : Nat → Int32} {x B W : Nat} {v : Int32} (h : B ≤ W) : oqSt (oU w W v) x B (W + 1) = oqCd v.toInt ++ oqSt w x B W := by
  rw [oqSt_up h, oU_self, oqSt_cg (w := oU w W v) (w' := w) (fun j hj => oU_ne (by omega)) h]
theorem oqSt_BB {w : Nat → Int32} {x B W : Nat} (h : W = B) : oqSt w x B W = x :: oqSg w 0 B := by
  unfold oqSt
  rw [h, Nat.sub_self]
  rfl
theorem oqSg_pu {w : Nat → Int32} {W : Nat} {v : Int32} : oqSg (oU w W v) 0 (W + 1) = oqCd v.toInt ++ oqSg w 0 W := by
  rw [oqSg_s, show 0 + W = W by omega, oU_self, oqSg_cg (w := oU w W v) (w' := w) (a := 0) (n := W) (fun j hj => oU_ne (by omega))]
theorem oqSg_up {w : Nat → Int32} {W : Nat} : oqSg w 0 (W + 1) = oqCd (w W).toInt ++ oqSg w 0 W := by
  rw [oqSg_s, show 0 + W = W by omega]
/-- ahead of a not comes a not or [ -/
def oqNW (w : Nat → Int32) (N : Nat) : Prop := ∀ j : Nat, j + 1 < N → (w j).toInt = 16 → (w (j + 1)).toInt = 16 ∨ (w (j + 1)).toInt = 25
theorem oqNW_cg {w w' : Nat → Int32} {N : Nat} (h : ∀ j, j < N → w j = w' j) (hN : oqNW w N) : oqNW w' N := fun j hj h1 => by
  rw [← h j (by omega)] at h1
  rw [← h (j + 1) (by omega)]
  exact hN j hj h1
theorem oqNW_le {w : Nat → Int32} {N N' : Nat} (h : N' ≤ N) (hN : oqNW w N) : oqNW w N' := fun j hj h1 => hN j (by omega) h1
theorem oqNW_pu {w : Nat → Int32} {N : Nat} {v : Int32} (hN : oqNW w N) (hv : v.toInt = 16 ∨ v.toInt = 25 ∨ N = 0 ∨ (w (N - 1)).toInt ≠ 16) : oqNW (oU w N v) (N + 1) := fun j hj h1 => by
  rw [oU_ne (by omega)] at h1
  by_cases e : j + 1 = N
  · rw [e, oU_self]
    rcases hv with h | h | h | h
    · exact Or.inl h
    · exact Or.inr h
    · omega
    · rw [show N - 1 = j by omega] at h
      exact absurd h1 h
  · rw [oU_ne e]
    exact hN j (by omega) h1
theorem oqSg_nn {w : Nat → Int32} : ∀ {n : Nat}, oqNW w n → (n = 0 ∨ (w (n - 1)).toInt ≠ 16) → oqNN (oqSg w 0 n)
  | 0, _, _ => oqNN_0
  | n + 1, hN, ht => by
    have h0 : (w n).toInt ≠ 16 := by
      rcases ht with h | h
      · omega
      · exact h
    rw [oqSg_up]
    by_cases c1 : (w n).toInt = 20
    · rw [oqCd_20 c1]; exact fun L h => by injection h with h1 h2; omega
    · by_cases c2 : (w n).toInt = 21 ∨ (w n).toInt = 22
      · rw [oqCd_21 c2]; exact fun L h => by injection h with h1 h2; omega
      · by_cases c3 : (w n).toInt = 23 ∨ (w n).toInt = 24
        · rw [oqCd_23 c3]; exact fun L h => by injection h with h1 h2; omega
        · by_cases c4 : (w n).toInt = 25
          · rw [oqCd_25 c4]; exact fun L h => by injection h with h1 h2; omega
          · rw [oqCd_no (by omega), List.nil_append]
            refine oqSg_nn (oqNW_le (by omega) hN) ?_
            by_cases hn : n = 0
            · exact Or.inl hn
            · refine Or.inr (fun h16 => ?_)
              have h9 := hN (n - 1) (by omega) h16
              rw [show n - 1 + 1 = n by omega] at h9
              omega
theorem oqSg_sq {w : Nat → Int32} : ∀ {n : Nat}, oqNW w n → (n = 0 ∨ (w (n - 1)).toInt ≠ 16) → (∀ j, j < n → (w j).toInt = 14 ∨ (w j).toInt = 15 ∨ (w j).toInt = 16 ∨ (w j).toInt = 25) → (∃ j, j < n ∧ (w j).toInt = 25) → ∃ L, oqSg w 0 n = 3 :: L
  | 0, _, _, _, h => by
    obtain ⟨j, h1, _⟩ := h
    omega
  | n + 1, hN, ht, hi, hs => by
    have h0 : (w n).toInt ≠ 16 := by
      rcases ht with h | h
      · omega
      · exact h
    rw [oqSg_up]
    by_cases c4 : (w n).toInt = 25
    · exact ⟨oqSg w 0 n, by rw [oqCd_25 c4]; rfl⟩
    · have h8 := hi n (by omega)
      rw [oqCd_no (by omega), List.nil_append]
      obtain ⟨j, h1, h2⟩ := hs
      have hj : j ≠ n := fun e => by rw [e] at h2; omega
      refine oqSg_sq (oqNW_le (by omega) hN) ?_ (fun i h => hi i (by omega)) ⟨j, by omega, h2⟩
      refine Or.inr (fun h16 => ?_)
      have h9 := hN (n - 1) (by omega) h16
      rw [show n - 1 + 1 = n by omega] at h9
      omega
def oqJ (g : Int → Int) (p q : Int) (c0 : oqCf) (x B m : Nat) (t : oS) : Prop := ((t.1 71 5).toInt = 0 → oqTo g p q c0 (m, oqSk g (t.1 71 2).toInt, (t.1 71 4).toInt, (t.1 71 48).toInt, oqSt (t.1 103) x B (t.1 71 47).toNatClampNeg) ∧ oqNW (t.1 103) B ∧ B ≤ (t.1 71 47).toNatClampNeg) ∧ ((t.1 71 5).toInt ≠ 0 → oqTo g p q c0 (9, (t.1 71 6).toInt, (t.1 71 5).toInt, 0, []))
/-- .. between facts -/
def oqTt (g : Int → Int) (p q : Int) (c0 : oqCf) (m : Nat) (t : oS) : Prop := ((t.1 71 5).toInt = 0 → oqTo g p q c0 (m, oqSk g (t.1 71 2).toInt, (t.1 71 4).toInt, (t.1 71 48).toInt, oqSg (t.1 103) 0 (t.1 71 47).toNatClampNeg) ∧ oqNW (t.1 103) (t.1 71 47).toNatClampNeg) ∧ ((t.1 71 5).toInt ≠ 0 → oqTo g p q c0 (9, (t.1 71 6).toInt, (t.1 71 5).toInt, 0, []))
section SIM
variable {g : Int → Int} {p q : Int} {c0 : oqCf} {x B m m' : Nat} {s u : oS}
theorem oqJ_fr {M : List (Nat × Nat)} (hf : oFr M s u) (hm : (oin M 12 2 || (oin M 12 4 || (oin M 12 5 || (oin M 12 6 || (oin M 12 47 || (oin M 12 48 || oinK M 79)))))) = false) (h : oqJ g p q c0 x B m s) : oqJ g p q c0 x B m u := by
  simp only [Bool.or_eq_false_iff] at hm
  unfold oqJ
  rw [(hf 71 2 hm.1).1, (hf 71 4 hm.2.1).1, (hf 71 5 hm.2.2.1).1, (hf 71 6 hm.2.2.2.1).1, (hf 71 47 hm.2.2.2.2.1).1, (hf 71 48 hm.2.2.2.2.2.1).1, oFr_row hf (c := 103) rfl hm.2.2.2.2.2.2]
  exact h
theorem oqTt_fr {M : List (Nat × Nat)} (hf : oFr M s u) (hm : (oin M 12 2 || (oin M 12 4 || (oin M 12 5 || (oin M 12 6 || (oin M 12 47 || (oin M 12 48 || oinK M 79)))))) = false) (h : oqTt g p q c0 m s) : oqTt g p q c0 m u := by
  simp only [Bool.or_eq_false_iff] at hm
  unfold oqTt
  rw [(hf 71 2 hm.1).1, (hf 71 4 hm.2.1).1, (hf 71 5 hm.2.2.1).1, (hf 71 6 hm.2.2.2.1).1, (hf 71 47 hm.2.2.2.2.1).1, (hf 71 48 hm.2.2.2.2.2.1).1, oFr_row hf (c := 103) rfl hm.2.2.2.2.2.2]
  exact h
theorem oqW_eq (hw : (u.1 71 47).toInt = (s.1 71 47).toInt) : (u.1 71 47).toNatClampNeg = (s.1 71 47).toNatClampNeg := by
  have h1 := n_nat (u.1 71 47)
  have h2 := n_nat (s.1 71 47)
  omega
theorem oqJ_go {A b o A' b' o' : Int} (h : oqJ g p q c0 x B m s) (hs : (s.1 71 5).toInt = 0) (hb : (u.1 71 5).toInt = 0) (hr : u.1 103 = s.1 103) (hw : (u.1 71 47).toInt = (s.1 71 47).toInt) (H : oqGo g p q m A b o m' A' b' o') (e1 : A = oqSk g (s.1 71 2).toInt) (e2 : b = (s.1 71 4).toInt) (e3 : o = (s.1 71 48).toInt) (e4 : A' = oqSk g (u.1 71 2).toInt) (e5 : b' = (u.1 71 4).toInt) (e6 : o' = (u.1 71 48).toInt) : oqJ g p q c0 x B m' u := by
  obtain ⟨h1, h2, h3⟩ := h.1 hs
  refine ⟨fun _ => ?_, fun h9 => absurd hb h9⟩
  rw [hr, oqW_eq hw, ← e4, ← e5, ← e6]
  rw [← e1, ← e2, ← e3] at h1
  exact ⟨h1.tr (H _), h2, h3⟩
theorem oqJ_id (h : oqJ g p q c0 x B m s) (hr : u.1 103 = s.1 103) (hb : (u.1 71 5).toInt = (s.1 71 5).toInt) (hw : (u.1 71 47).toInt = (s.1 71 47).toInt) (ha : oqSk g (u.1 71 2).toInt = oqSk g (s.1 71 2).toInt) (he : (u.1 71 4).toInt = (s.1 71 4).toInt) (ho : (u.1 71 48).toInt = (s.1 71 48).toInt) (hp : (u.1 71 6).toInt = (s.1 71 6).toInt) : oqJ g p q c0 x B m u := by
  unfold oqJ
  rw [hr, hb, oqW_eq hw, ha, he, ho, hp]
  exact h
theorem oqJ_flt {A b o k pl : Int} (h : oqJ g p q c0 x B m s) (hs : (s.1 71 5).toInt = 0) (hb : (u.1 71 5).toInt ≠ 0) (H : oqFa g p q m A b o k pl) (e1 : A = oqSk g (s.1 71 2).toInt) (e2 : b = (s.1 71 4).toInt) (e3 : o = (s.1 71 48).toInt) (e4 : k = (u.1 71 5).toInt) (e5 : pl = (u.1 71 6).toInt) : oqJ g p q c0 x B m' u := by
  obtain ⟨h1, h2, h3⟩ := h.1 hs
  refine ⟨fun h9 => absurd h9 hb, fun _ => ?_⟩
  rw [← e4, ← e5]
  rw [← e1, ← e2, ← e3] at h1
  exact h1.tr (H _)
theorem oqJ_kp {x' B' : Nat} (h : oqJ g p q c0 x B m s) (hs : (s.1 71 5).toInt ≠ 0) (hb : (u.1 71 5).toInt = (s.1 71 5).toInt) (hp : (u.1 71 6).toInt = (s.1 71 6).toInt) : oqJ g p q c0 x' B' m' u := by
  refine ⟨fun h9 => absurd (hb.symm.trans h9) hs, fun _ => ?_⟩
  rw [hb, hp]
  exact h.2 hs
theorem oqJ_drop (h : oqJ g p q c0 x B m s) (hd : oDrop s u) (h1 : 1 ≤ (s.1 71 47).toInt) (hB : (s.1 71 5).toInt = 0 → (B : Int) < (s.1 71 47).toInt) (ht : (s.1 71 5).toInt = 0 → oqCd (oTop s) = []) : oqJ g p q c0 x B m u := by
  obtain ⟨z, z', hz, hz', rfl⟩ := hd
  have e1 := n_nat z
  have e4 := n_nat (s.1 71 47)
  have ew : (s.1 71 47).toNatClampNeg = z.toNatClampNeg + 1 := by omega
  have et : oTop s = (s.1 103 z.toNatClampNeg).toInt := by unfold oTop; rw [← hz, e1]
  refine ⟨fun hb => ?_, fun hb => h.2 hb⟩
  have hb' : (s.1 71 5).toInt = 0 := hb
  obtain ⟨q1, q2, q3⟩ := h.1 hb'
  have q4 := hB hb'
  show oqTo g p q c0 (m, oqSk g (s.1 71 2).toInt, (s.1 71 4).toInt, (s.1 71 48).toInt, oqSt (s.1 103) x B z.toNatClampNeg) ∧ oqNW (s.1 103) B ∧ B ≤ z.toNatClampNeg
  rw [ew, oqSt_up (by omega), ← et, ht hb', List.nil_append] at q1
  exact ⟨q1, q2, by omega⟩
theorem oqJ_push {v w z : Int32} (h : oqJ g p q c0 x B m s) (e : s.1 71 47 = w) (h0 : 0 ≤ w.toInt) (hz : z.toInt = w.toInt + 1) (hv : v.toInt < 16) : oqJ g p q c0 x B m (pI (pI s 103 w.toNatClampNeg v) 71 47 z) := by
  subst e
  have e2 := n_nat z
  have e3 := n_nat (s.1 71 47)
  have ez : z.toNatClampNeg = (s.1 71 47).toNatClampNeg + 1 := by omega
  refine ⟨fun hb => ?_, fun hb => h.2 hb⟩
  have hb' : (s.1 71 5).toInt = 0 := hb
  obtain ⟨q1, q2, q3⟩ := h.1 hb'
  show oqTo g p q c0 (m, oqSk g (s.1 71 2).toInt, (s.1 71 4).toInt, (s.1 71 48).toInt, oqSt (oU (s.1 103) (s.1 71 47).toNatClampNeg v) x B z.toNatClampNeg) ∧ oqNW (oU (s.1 103) (s.1 71 47).toNatClampNeg v) B ∧ B ≤ z.toNatClampNeg
  rw [ez, oqSt_pu q3, oqCd_no (by omega), List.nil_append]
  exact ⟨q1, oqNW_cg (fun j hj => (oU_ne (by omega)).symm) q2, by omega⟩
/-- ( is open -/
theorem oqJ_par {v z : Int32} (h : oqJ g p q c0 x B 1 s) (hs : (s.1 71 5).toInt = 0) (hO : (u.1 71 5).toInt = 0 → oOpn s v u) (hv : v.toInt = 20) (hA : oqSk g (s.1 71 2).toInt = (s.1 71 2).toInt) (hg : g (s.1 71 2).toInt = 40) (h0 : 0 ≤ (s.1 71 47).toInt) (hz : z.toInt = (s.1 71 2).toInt + 1) (ho : (u.1 71 5).toInt = 0 → (s.1 71 48).toInt ≤ 5) (hF : (u.1 71 5).toInt ≠ 0 → 6 ≤ (s.1 71 48).toInt ∧ (u.1 71 5).toInt = 4 ∧ (u.1 71 6).toInt = (s.1 71 2).toInt) : oqJ g p q c0 x B 1 (pI u 71 2 z) := by
  obtain ⟨q1, q2, q3⟩ := h.1 hs
  rw [hA] at q1
  refine ⟨fun hb => ?_, fun hb => ?_⟩
  · have hb' : (u.1 71 5).toInt = 0 := hb
    have ho' := ho hb'
    obtain ⟨z1, z2, e1, e2, rfl⟩ := hO hb'
    have n1 := n_nat z2
    have n2 := n_nat (s.1 71 47)
    have ez : z2.toNatClampNeg = (s.1 71 47).toNatClampNeg + 1 := by omega
    show oqTo g p q c0 (1, oqSk g z.toInt, (s.1 71 4).toInt, z1.toInt, oqSt (oU (s.1 103) (s.1 71 47).toNatClampNeg v) x B z2.toNatClampNeg) ∧ oqNW (oU (s.1 103) (s.1 71 47).toNatClampNeg v) B ∧ B ≤ z2.toNatClampNeg
    rw [ez, oqSt_pu q3, oqCd_20 hv, hz, e1]
    exact ⟨q1.tr (oqp_par hg (by omega)), oqNW_cg (fun j hj => (oU_ne (by omega)).symm) q2, by omega⟩
  · have hb' : (u.1 71 5).toInt ≠ 0 := hb
    obtain ⟨f1, f2, f3⟩ := hF hb'
    show oqTo g p q c0 (9, (u.1 71 6).toInt, (u.1 71 5).toInt, 0, [])
    rw [f2, f3]
    exact q1.tr (oqp_deep hg f1 _)
/-- behind min or max -/
def oqM (g : Int → Int) (p q : Int) (c0 : oqCf) (x B j : Nat) (t : oS) : Prop := (t.1 71 5).toInt = 0 → ∃ A b' : Int, g A ≠ 40 ∧ oqWi g A b' = (j : Int) ∧ oqSk g (t.1 71 2).toInt = oqSk g (oqHa g A j) ∧ (t.1 71 4).toInt = oqHa g A j ∧ oqTo g p q c0 (1, A, b', (t.1 71 48).toInt, oqSt (t.1 103) x B (t.1 71 47).toNatClampNeg) ∧ oqNW (t.1 103) B ∧ B ≤ (t.1 71 47).toNatClampNeg
theorem oqM_of {j : Nat} (h : oqJ g p q c0 x B 1 s) (hs : (s.1 71 5).toInt = 0) (hr : u.1 103 = s.1 103) (hw : (u.1 71 47).toInt = (s.1 71 47).toInt) (ho : (u.1 71 48).toInt = (s.1 71 48).toInt) (hA : oqSk g (s.1 71 2).toInt = (s.1 71 2).toInt) (hg : g (s.1 71 2).toInt ≠ 40) (hj : oqWi g (s.1 71 2).toInt (s.1 71 4).toInt = (j : Int)) (ha : (u.1 71 2).toInt = oqHa g (s.1 71 2).toInt j) (he : (u.1 71 4).toInt = oqHa g (s.1 71 2).toInt j) : oqM g p q c0 x B j u := fun _ => by
  obtain ⟨q1, q2, q3⟩ := h.1 hs
  rw [hA] at q1
  refine ⟨(s.1 71 2).toInt, (s.1 71 4).toInt, hg, hj, by rw [ha], he, ?_⟩
  rw [hr, oqW_eq hw, ho]
  exact ⟨q1, q2, q3⟩
theorem oqM_lk {j : Nat} (h : oqM g p q c0 x B j s) (hs : (s.1 71 5).toInt = 0) (hr : u.1 103 = s.1 103) (hw : (u.1 71 47).toInt = (s.1 71 47).toInt) (ho : (u.1 71 48).toInt = (s.1 71 48).toInt) (he : (u.1 71 4).toInt = (s.1 71 4).toInt) (ha : oqSk g (u.1 71 2).toInt = oqSk g (s.1 71 2).toInt) : oqM g p q c0 x B j u := fun _ => by
  obtain ⟨A, b', h1, h2, h3, h4, h5⟩ := h hs
  refine ⟨A, b', h1, h2, ha.trans h3, he.trans h4, ?_⟩
  rw [hr, oqW_eq hw, ho]
  exact h5
def oqM2 (g : Int → Int) (p q : Int) (c0 : oqCf) (x B : Nat) (t : oS) : Prop := ((t.1 71 5).toInt = 0 → oqSk g (t.1 71 2).toInt = (t.1 71 2).toInt ∧ oqNW (t.1 103) B ∧ B ≤ (t.1 71 47).toNatClampNeg ∧ ((g (t.1 71 2).toInt = 40 ∧ oqTo g p q c0 (1, oqSk g ((t.1 71 2).toInt + 1), (t.1 71 4).toInt, (t.1 71 48).toInt, oqSt (t.1 103) x B (t.1 71 47).toNatClampNeg)) ∨ (g (t.1 71 2).toInt ≠ 40 ∧ oqTo g p q c0 (9, (t.1 71 2).toInt, 1, 0, [])))) ∧ ((t.1 71 5).toInt ≠ 0 → oqTo g p q c0 (9, (t.1 71 6).toInt, (t.1 71 5).toInt, 0, []))
theorem oqP1_mm {a b o : Int} {j : Nat} {K : List Nat} (h : g a ≠ 40) (hj : oqWi g a b = (j : Int)) (hm : j = 24 ∨ j = 25) : oqPs g p q (1, a, b, o, K) = if g (oqSk g (oqHa g a j)) ≠ 40 then (9, oqSk g (oqHa g a j), 1, 0, []) else if 6 ≤ o then (9, oqSk g (oqHa g a j), 4, 0, []) else (1, oqSk g (oqSk g (oqHa g a j) + 1), oqHa g a j, o + 1, 1 :: K) := by
  rw [oqPs_1]
  unfold oqP1
  rw [if_neg h, if_pos (by omega), hj, Int.toNat_natCast]
theorem oqM_no {j : Nat} (h : oqM g p q c0 x B j s) (hj : j = 24 ∨ j = 25) (hs : (s.1 71 5).toInt = 0) (hA : oqSk g (s.1 71 2).toInt = (s.1 71 2).toInt) (hg : g (s.1 71 2).toInt ≠ 40) : oqM2 g p q c0 x B s := by
  obtain ⟨A, b', h1, h2, h3, h4, h5, h6, h7⟩ := h hs
  rw [hA] at h3
  refine ⟨fun _ => ⟨hA, h6, h7, Or.inr ⟨hg, h5.tr (oqTo.one ?_)⟩⟩, fun h9 => absurd hs h9⟩
  rw [oqP1_mm h1 h2 hj, ← h3, if_pos hg]
theorem oqM_op {j : Nat} {v : Int32} (h : oqM g p q c0 x B j s) (hs : (s.1 71 5).toInt = 0) (hO : (u.1 71 5).toInt = 0 → oOpn s v u) (hv : (j = 24 ∧ v.toInt = 21) ∨ (j = 25 ∧ v.toInt = 22)) (hA : oqSk g (s.1 71 2).toInt = (s.1 71 2).toInt) (hg : g (s.1 71 2).toInt = 40) (h0 : 0 ≤ (s.1 71 47).toInt) (ho : (u.1 71 5).toInt = 0 → (s.1 71 48).toInt ≤ 5) (hF : (u.1 71 5).toInt ≠ 0 → 6 ≤ (s.1 71 48).toInt ∧ (u.1 71 5).toInt = 4 ∧ (u.1 71 6).toInt = (s.1 71 2).toInt) : oqM2 g p q c0 x B u := by
  obtain ⟨A, b', h1, h2, h3, h4, h5, h6, h7⟩ := h hs
  rw [hA] at h3
  refine ⟨fun hb => ?_, fun hb => ?_⟩
  · have ho' := ho hb
    obtain ⟨z1, z2, e1, e2, rfl⟩ := hO hb
    have n1 := n_nat z2
    have n2 := n_nat (s.1 71 47)
    have ez : z2.toNatClampNeg = (s.1 71 47).toNatClampNeg + 1 := by omega
    show oqSk g (s.1 71 2).toInt = (s.1 71 2).toInt ∧ oqNW (oU (s.1 103) (s.1 71 47).toNatClampNeg v) B ∧ B ≤ z2.toNatClampNeg ∧ ((g (s.1 71 2).toInt = 40 ∧ oqTo g p q c0 (1, oqSk g ((s.1 71 2).toInt + 1), (s.1 71 4).toInt, z1.toInt, oqSt (oU (s.1 103) (s.1 71 47).toNatClampNeg v) x B z2.toNatClampNeg)) ∨ (g (s.1 71 2).toInt ≠ 40 ∧ oqTo g p q c0 (9, (s.1 71 2).toInt, 1, 0, [])))
    refine ⟨hA, oqNW_cg (fun j hj => (oU_ne (by omega)).symm) h6, by omega, Or.inl ⟨hg, ?_⟩⟩
    rw [ez, oqSt_pu h7, oqCd_21 (by omega), e1, h4]
    refine h5.tr (oqTo.one ?_)
    rw [oqP1_mm h1 h2 (by omega), ← h3, if_neg (by omega), if_neg (by omega)]
    rfl
  · obtain ⟨f1, f2, f3⟩ := hF hb
    rw [f2, f3]
    refine h5.tr (oqTo.one ?_)
    rw [oqP1_mm h1 h2 (by omega), ← h3, if_neg (by omega), if_pos f1]
theorem oqM2_J (h : oqM2 g p q c0 x B s) (hr : u.1 103 = s.1 103) (hw : (u.1 71 47).toInt = (s.1 71 47).toInt) (ho : (u.1 71 48).toInt = (s.1 71 48).toInt) (he : (u.1 71 4).toInt = (s.1 71 4).toInt) (h1 : (u.1 71 5).toInt = 0 → (s.1 71 5).toInt = 0 ∧ g (oqSk g (s.1 71 2).toInt) = 40 ∧ (u.1 71 2).toInt = oqSk g (s.1 71 2).toInt + 1) (h0 : (u.1 71 5).toInt ≠ 0 → ((s.1 71 5).toInt = 0 ∧ g (oqSk g (s.1 71 2).toInt) ≠ 40 ∧ (u.1 71 5).toInt = 1 ∧ (u.1 71 6).toInt = oqSk g (s.1 71 2).toInt) ∨ ((s.1 71 5).toInt ≠ 0 ∧ (u.1 71 5).toInt = (s.1 71 5).toInt ∧ (u.1 71 6).toInt = (s.1 71 6).toInt)) : oqJ g p q c0 x B 1 u := by
  refine ⟨fun hb => ?_, fun hb => ?_⟩
  · obtain ⟨q1, q2, q3⟩ := h1 hb
    obtain ⟨r1, r2, r3, r4⟩ := h.1 q1
    rw [r1] at q2 q3
    rw [hr, oqW_eq hw, ho, he, q3]
    rcases r4 with r4 | r4
    · exact ⟨r4.2, r2, r3⟩
    · exact absurd q2 r4.1
  · rcases h0 hb with ⟨q1, q2, q3, q4⟩ | ⟨q1, q2, q3⟩
    · obtain ⟨r1, r2, r3, r4⟩ := h.1 q1
      rw [r1] at q2 q4
      rw [q3, q4]
      rcases r4 with r4 | r4
      · exact absurd r4.1 q2
      · exact r4.2
    · rw [q2, q3]
      exact h.2 q1
/-! the head of what waits in the sum -/
def oqHd : List Nat → Int
  | [] => -1
  | k :: _ => (k : Int)
def oqHs (B : Nat) (t : oS) : Int := oqHd (oqSg (t.1 103) B ((t.1 71 47).toNatClampNeg - B))
def oqHq (B : Nat) (k : Int) (t : oS) : Prop := oqHs B t = k
theorem oqHq_fr {k : Int} {M : List (Nat × Nat)} (hf : oFr M s u) (hm : (oin M 12 47 || oinK M 79) = false) (h : oqHq B k s) : oqHq B k u := by
  simp only [Bool.or_eq_false_iff] at hm
  unfold oqHq oqHs
  rw [(hf 71 47 hm.1).1, oFr_row hf (c := 103) rfl hm.2]
  exact h
theorem oqHs_mk {mm : Int} (hQ : oQ B x s) (hb : (s.1 71 5).toInt = 0) (h : oMk mm s) (hB : (s.1 71 55).toInt = (B : Int)) (h9 : B < 9999) (h0 : 0 ≤ (s.1 71 47).toInt) : (mm = -1 ∧ oqHs B s = -1) ∨ (mm = 20 ∧ oqHs B s = 0) ∨ ((mm = 21 ∨ mm = 22) ∧ oqHs B s = 1) ∨ ((mm = 23 ∨ mm = 24) ∧ oqHs B s = 2) := by
  have e3 := n_nat (s.1 71 47)
  obtain ⟨g1, g2, g3, g4, g5, g6, g7⟩ := (hQ.2 hb).2
  have hW : B ≤ (s.1 71 47).toNatClampNeg := by omega
  have key : ∀ j : Nat, B ≤ j → j < (s.1 71 47).toNatClampNeg → ¬ (20 ≤ (s.1 103 j).toInt ∧ (s.1 103 j).toInt ≤ 24) → oqCd (s.1 103 j).toInt = [] := fun j h1 h2 h3 => by
    have h4 := (g3 j h2).2 h1
    exact oqCd_no (by omega)
  unfold oqHs
  rcases h with ⟨hm, h⟩ | ⟨hm1, hm2, k, k1, k2, k3, k4⟩
  · left
    refine ⟨hm, ?_⟩
    have e := oqSg_no (w := s.1 103) (a := B) (k := 0) (n := (s.1 71 47).toNatClampNeg - B) (fun j h1 h2 => key j (by omega) (by omega) (h j (by omega) (by omega)))
    rw [Nat.zero_add] at e
    rw [e]
    rfl
  · right
    have e := oqSg_no (w := s.1 103) (a := B) (k := k - B + 1) (n := (s.1 71 47).toNatClampNeg - k - 1) (fun j h1 h2 => key j (by omega) (by omega) (k4 j (by omega) (by omega)))
    rw [show k - B + 1 + ((s.1 71 47).toNatClampNeg - k - 1) = (s.1 71 47).toNatClampNeg - B by omega, oqSg_s, show B + (k - B) = k by omega, k3] at e
    rw [e]
    by_cases c1 : mm = 20
    · left
      rw [oqCd_20 c1]
      exact ⟨c1, rfl⟩
    · by_cases c2 : mm = 21 ∨ mm = 22
      · right; left
        rw [oqCd_21 c2]
        exact ⟨c2, rfl⟩
      · right; right
        have c3 : mm = 23 ∨ mm = 24 := by omega
        rw [oqCd_23 c3]
        exact ⟨c3, rfl⟩
def oqK (B : Nat) (L : List Nat) (t : oS) : Prop := oqSg (t.1 103) B ((t.1 71 47).toNatClampNeg - B) = L
theorem oqK_fr {L : List Nat} {M : List (Nat × Nat)} (hf : oFr M s u) (hm : (oin M 12 47 || oinK M 79) = false) (h : oqK B L s) : oqK B L u := by
  simp only [Bool.or_eq_false_iff] at hm
  unfold oqK
  rw [(hf 71 47 hm.1).1, oFr_row hf (c := 103) rfl hm.2]
  exact h
theorem oqK_drop {L : List Nat} (h : oqK B L s) (hd : oDrop s u) (hB : (B : Int) < (s.1 71 47).toInt) (ht : oTop s < 16) : oqK B L u := by
  obtain ⟨z, z', hz, hz', rfl⟩ := hd
  have e1 := n_nat z
  have e4 := n_nat (s.1 71 47)
  have et : oTop s = (s.1 103 z.toNatClampNeg).toInt := by unfold oTop; rw [← hz, e1]
  have ew : (s.1 71 47).toNatClampNeg - B = (z.toNatClampNeg - B) + 1 := by omega
  show oqSg (s.1 103) B (z.toNatClampNeg - B) = L
  unfold oqK at h
  rw [ew, oqSg_s, show B + (z.toNatClampNeg - B) = z.toNatClampNeg by omega, ← et, oqCd_no (by omega), List.nil_append] at h
  exact h
theorem oqHd_St {w : Nat → Int32} {W : Nat} {k : Int} (h : oqHd (oqSg w B (W - B)) = k) (hk : 0 ≤ k) : ∃ L, oqSt w x B W = k.toNat :: L := by
  unfold oqSt
  cases hL : oqSg w B (W - B) with
  | nil =>
    rw [hL] at h
    have h' : (-1 : Int) = k := h
    omega
  | cons k' L' =>
    rw [hL] at h
    have h' : (k' : Int) = k := h
    exact ⟨L' ++ x :: oqSg w 0 B, by rw [← h', Int.toNat_natCast]; rfl⟩
/-- ) -/
theorem oqJ_cl {z2 z3 : Int32} (h : oqJ g p q c0 x B 3 s) (hs : (s.1 71 5).toInt = 0) (hA : oqSk g (s.1 71 2).toInt = (s.1 71 2).toInt) (hg : g (s.1 71 2).toInt = 41) (hr : u.1 103 = s.1 103) (hb : (u.1 71 5).toInt = 0) (ha : (u.1 71 2).toInt = (s.1 71 2).toInt + 1) (he : (u.1 71 4).toInt = (s.1 71 4).toInt) (ho : (u.1 71 48).toInt = (s.1 71 48).toInt) (hK : oqK B (oqSg (s.1 103) B ((s.1 71 47).toNatClampNeg - B)) u) (hW : (B : Int) < (u.1 71 47).toInt) (hT : oTop u = 20 ∨ oTop u = 23 ∨ oTop u = 24) (hz2 : z2.toInt = (u.1 71 47).toInt - 1) (hz3 : z3.toInt = (u.1 71 48).toInt - 1) : oqJ g p q c0 x B 3 (pI (pI u 71 47 z2) 71 48 z3) := by
  obtain ⟨q1, q2, q3⟩ := h.1 hs
  have n1 := n_nat z2
  have n2 := n_nat (u.1 71 47)
  have et : oTop u = (u.1 103 z2.toNatClampNeg).toInt := by unfold oTop; rw [← hz2, n1]
  have ew : (u.1 71 47).toNatClampNeg = z2.toNatClampNeg + 1 := by omega
  have eS : oqSt (s.1 103) x B (s.1 71 47).toNatClampNeg = oqCd (oTop u) ++ oqSt (u.1 103) x B z2.toNatClampNeg := by
    rw [et, ← oqSt_up (by omega), ← ew]
    unfold oqSt
    rw [← hK, hr]
  rw [hA, eS] at q1
  refine ⟨fun _ => ?_, fun h9 => absurd hb h9⟩
  show oqTo g p q c0 (3, oqSk g (u.1 71 2).toInt, (u.1 71 4).toInt, z3.toInt, oqSt (u.1 103) x B z2.toNatClampNeg) ∧ oqNW (u.1 103) B ∧ B ≤ z2.toNatClampNeg
  have hno : ¬ oqOp g (s.1 71 2).toInt := oqOp_no (by omega)
  rw [hr, ha, he, hz3, ho]
  refine ⟨q1.tr (oqTo.one ?_), q2, by omega⟩
  rw [oqPs_3n hno, hr]
  rcases hT with hT | hT
  · rw [oqCd_20 hT]
    exact if_pos hg
  · rw [oqCd_23 hT]
    exact if_pos hg
/-- , -/
theorem oqJ_cm {i z : Int32} (h : oqJ g p q c0 x B 3 s) (hs : (s.1 71 5).toInt = 0) (hg : g (oqSk g (s.1 71 2).toInt) = 44) (hr : u.1 103 = s.1 103) (hb : (u.1 71 5).toInt = 0) (ha : (u.1 71 2).toInt = oqSk g (s.1 71 2).toInt + 1) (he : (u.1 71 4).toInt = (s.1 71 4).toInt) (ho : (u.1 71 48).toInt = (s.1 71 48).toInt) (hK : oqK B (oqSg (s.1 103) B ((s.1 71 47).toNatClampNeg - B)) u) (hW : (B : Int) < (u.1 71 47).toInt) (hT : oTop u = 21 ∨ oTop u = 22) (hi : i.toInt = (u.1 71 47).toInt - 1) (hz : z.toInt = oTop u + 2) : oqJ g p q c0 x B 1 (pI u 103 i.toNatClampNeg z) := by
  obtain ⟨q1, q2, q3⟩ := h.1 hs
  have n1 := n_nat i
  have n2 := n_nat (u.1 71 47)
  have et : oTop u = (u.1 103 i.toNatClampNeg).toInt := by unfold oTop; rw [← hi, n1]
  have ew : (u.1 71 47).toNatClampNeg = i.toNatClampNeg + 1 := by omega
  have eS : oqSt (s.1 103) x B (s.1 71 47).toNatClampNeg = oqCd (oTop u) ++ oqSt (u.1 103) x B i.toNatClampNeg := by
    rw [et, ← oqSt_up (by omega), ← ew]
    unfold oqSt
    rw [← hK, hr]
  rw [eS, oqCd_21 hT] at q1
  refine ⟨fun _ => ?_, fun h9 => absurd hb h9⟩
  show oqTo g p q c0 (1, oqSk g (u.1 71 2).toInt, (u.1 71 4).toInt, (u.1 71 48).toInt, oqSt (oU (u.1 103) i.toNatClampNeg z) x B (u.1 71 47).toNatClampNeg) ∧ oqNW (oU (u.1 103) i.toNatClampNeg z) B ∧ B ≤ (u.1 71 47).toNatClampNeg
  have hno : ¬ oqOp g (oqSk g (s.1 71 2).toInt) := oqOp_no (by omega)
  rw [ew, oqSt_pu (by omega), oqCd_23 (by omega), ha, he, ho]
  refine ⟨q1.tr (oqTo.one ?_), oqNW_cg (fun j hj => by rw [oU_ne (by omega), hr]) q2, by omega⟩
  rw [oqPs_3n hno]
  exact if_pos hg
theorem oqJ_opF (h : oqJ g p q c0 x B 3 s) (hs : (s.1 71 5).toInt = 0) (hno : ¬ oqOp g (oqSk g (s.1 71 2).toInt)) (hk : ((oqHs B s = 0 ∨ oqHs B s = 2) ∧ g (oqSk g (s.1 71 2).toInt) ≠ 41) ∨ (oqHs B s = 1 ∧ g (oqSk g (s.1 71 2).toInt) ≠ 44)) (hb : (u.1 71 5).toInt = 1) (hp : (u.1 71 6).toInt = oqSk g (s.1 71 2).toInt) : oqJ g p q c0 x B m' u := by
  obtain ⟨q1, q2, q3⟩ := h.1 hs
  refine ⟨fun h9 => by omega, fun _ => ?_⟩
  rw [hb, hp]
  have hh : oqHs B s = 0 ∨ oqHs B s = 1 ∨ oqHs B s = 2 := by omega
  rcases hh with hh | hh | hh
  · obtain ⟨L, hL⟩ := oqHd_St (x := x) hh (by decide)
    rw [hL] at q1
    refine q1.tr (oqTo.one ?_)
    rw [oqPs_3n hno]
    exact if_neg (by omega)
  · obtain ⟨L, hL⟩ := oqHd_St (x := x) hh (by decide)
    rw [hL] at q1
    refine q1.tr (oqTo.one ?_)
    rw [oqPs_3n hno]
    exact if_neg (by omega)
  · obtain ⟨L, hL⟩ := oqHd_St (x := x) hh (by decide)
    rw [hL] at q1
    refine q1.tr (oqTo.one ?_)
    rw [oqPs_3n hno]
    exact if_neg (by omega)
theorem oQ_bB {b : Nat} (h : oQ b x s) (hb : (s.1 71 5).toInt = 0) (h9 : (b : Int) ≤ 1700) (h1 : 1 ≤ (s.1 71 47).toInt) (ht : oTop s < 14) : (b : Int) < (s.1 71 47).toInt := by
  have e3 := n_nat (s.1 71 47)
  obtain ⟨g1, g2, g3, g4, g5, g6, g7⟩ := (h.2 hb).2
  by_cases hB : (b : Int) < (s.1 71 47).toInt
  · exact hB
  · exfalso
    have h4 := (g3 ((s.1 71 47).toInt - 1).toNat (by omega)).1 (by omega)
    unfold oTop at ht
    omega
theorem oMk_u {mm mm' : Int} (h : oMk mm s) (h' : oMk mm' s) : mm = mm' := by
  rcases h with ⟨h1, h2⟩ | ⟨h1, h2, k, k1, k2, k3, k4⟩
  · rcases h' with ⟨i1, i2⟩ | ⟨i1, i2, j, j1, j2, j3, j4⟩
    · omega
    · exact absurd (by omega) (h2 j j1 j2)
  · rcases h' with ⟨i1, i2⟩ | ⟨i1, i2, j, j1, j2, j3, j4⟩
    · exact absurd (by omega) (i2 k k1 k2)
    · by_cases c1 : k < j
      · exact absurd (by omega) (k4 j c1 j2)
      · by_cases c2 : j < k
        · exact absurd (by omega) (j4 k c2 k2)
        · have e : k = j := by omega
          rw [e] at k3
          omega
theorem oqs_op {a b o : Int} (h : oqOp g a) : oqGo g p q 3 a b o 1 (oqSk g (a + 1)) b o := fun K => oqTo.one (oqPs_3y h)
end SIM
