/-! blanks, words and numbers of the text -/
def oqSF (g : Int → Int) : Nat → Int → Int
  | 0, a => a
  | k + 1, a => if g a = 32 ∨ g a = 10 then oqSF g k (a + 1) else a
/-- behind the blanks -/
def oqSk (g : Int → Int) (a : Int) : Int := oqSF g 1601 a
theorem oqSF_of {g : Int → Int} {b : Int} (h3 : ¬ (g b = 32 ∨ g b = 10)) : ∀ (k : Nat) (a : Int), a ≤ b → b - a < k → (∀ j, a ≤ j → j < b → g j = 32 ∨ g j = 10) → oqSF g k a = b
  | 0, a, h1, h4, _ => by omega
  | k + 1, a, h1, h4, h2 => by
    show (if g a = 32 ∨ g a = 10 then oqSF g k (a + 1) else a) = b
    by_cases hab : a = b
    · rw [hab, if_neg h3]
    · rw [if_pos (h2 a (Int.le_refl _) (by omega))]
      exact oqSF_of h3 k (a + 1) (by omega) (by omega) (fun j q1 q2 => h2 j (by omega) q2)
theorem oqSk_of {g : Int → Int} {a b : Int} (h1 : a ≤ b) (h2 : ∀ j, a ≤ j → j < b → g j = 32 ∨ g j = 10) (h3 : ¬ (g b = 32 ∨ g b = 10)) (h4 : b - a ≤ 1600) : oqSk g a = b := oqSF_of h3 1601 a h1 (by omega) h2
theorem oqSk_id {g : Int → Int} {b : Int} (h3 : ¬ (g b = 32 ∨ g b = 10)) : oqSk g b = b := oqSk_of (Int.le_refl _) (fun j q1 q2 => by omega) h3 (by omega)
/-- so far blanks alone -/
def oqBl (g : Int → Int) (a b : Int) : Prop := ∀ j, a ≤ j → j < b → g j = 32 ∨ g j = 10
theorem oqBl_0 {g : Int → Int} {a : Int} : oqBl g a a := fun j h1 h2 => by omega
theorem oqBl_nx {g : Int → Int} {a b c : Int} (h : oqBl g a b) (hb : g b = 32 ∨ g b = 10) (hc : c = b + 1) : oqBl g a c := fun j h1 h2 => by
  by_cases hj : j = b
  · rw [hj]; exact hb
  · exact h j h1 (by omega)
theorem oqBl_sk {g : Int → Int} {a b : Int} (h : oqBl g a b) (h1 : a ≤ b) (h3 : ¬ (g b = 32 ∨ g b = 10)) (h4 : b - a ≤ 1600) : b = oqSk g a := (oqSk_of h1 h h3 h4).symm
/-- the text that the reference reads -/
def oqZ (g : Int → Int) (t : oS) : Prop := ∀ a, oqT (t.1 72) (t.1 71 3).toInt a = g a
theorem oqZ_fr {M : List (Nat × Nat)} {s u : oS} {g : Int → Int} (hf : oFr M s u) (hm : (oin M 12 3 || oinK M 48) = false) (h : oqZ g s) : oqZ g u := by
  simp only [Bool.or_eq_false_iff] at hm
  have e1 : u.1 71 3 = s.1 71 3 := (hf 71 3 hm.1).1
  unfold oqZ
  rw [e1, oFr_row hf (c := 72) rfl hm.2]
  exact h
theorem oqZ_at {g : Int → Int} {t : oS} {i v : Int32} (h : oqZ g t) (e : t.1 72 i.toNatClampNeg = v) (a : Int) (ha : i.toInt = a) (h0 : 0 ≤ a) (h1 : a < (t.1 71 3).toInt) : g a = v.toInt := by
  rw [← h a]
  unfold oqT
  rw [if_pos ⟨h0, h1⟩, ← ha, n_nat, e]
theorem oqZ_no {g : Int → Int} {t : oS} (h : oqZ g t) {a : Int} (h1 : a < 0 ∨ (t.1 71 3).toInt ≤ a) : g a = -1 := by
  rw [← h a]
  unfold oqT
  rw [if_neg (by omega)]
theorem oqZ_of {g : Int → Int} {nn : Int} {t : oS} (h : oqY g nn t) (h1 : (t.1 71 3).toInt = nn) : oqZ g t := fun a => by rw [h1]; exact h a
/-- the own words -/
def oqWt : List (List Nat) := [[115, 116, 101, 112], [102, 111, 114], [114, 101, 115, 116], [109, 101, 97, 115, 117, 114, 101], [98, 97, 100], [109, 111, 116, 116, 111], [119, 104, 101, 110], [111, 114], [97, 110, 100], [110, 111, 116], [97, 108, 108], [103, 97, 112], [115, 111, 114, 116], [117, 110, 100, 101, 114], [98, 101, 97, 116], [114, 105, 115, 101], [99, 108, 105, 109, 98], [119, 97, 115], [108, 97, 115, 116], [100, 101, 108, 97, 121], [104, 105, 103, 104], [109, 105, 114, 114, 111, 114], [98, 97, 99, 107], [112, 97, 99, 101], [109, 105, 110], [109, 97, 120]]
def oqWl (i : Nat) : Nat := (oqWt.getD i []).length
def oqWc (i j : Nat) : Int := (((oqWt.getD i []).getD j 0 : Nat) : Int)
def oqWp (i j : Nat) : Int := if j < oqWl i then oqWc i j else 32
def oqIs (g : Int → Int) (a : Int) (i : Nat) : Prop := (∀ j : Nat, j < oqWl i → g (a + j) = oqWc i j) ∧ ¬ (97 ≤ g (a + oqWl i) ∧ g (a + oqWl i) ≤ 122)
theorem oq_w1 : ∀ i : Nat, i < 26 → 2 ≤ oqWl i ∧ oqWl i ≤ 7 := by decide +kernel
theorem oq_w2 : ∀ i : Nat, i < 26 → ∀ j : Nat, j < 7 → j < oqWl i → 97 ≤ oqWc i j ∧ oqWc i j ≤ 122 := by decide +kernel
theorem oq_w3b : ((List.range 26).all fun i => (List.range 26).all fun k => (i == k) || ((List.range 7).any fun j => decide (j < oqWl i) && (decide (j < oqWl k) && !decide (oqWc i j = oqWc k j)))) = true := by decide +kernel
theorem oq_w3 (i : Nat) (hi : i < 26) (k : Nat) (hk : k < 26) (hik : i ≠ k) : ∃ j : Nat, j < oqWl i ∧ j < oqWl k ∧ oqWc i j ≠ oqWc k j := by
  have h := List.all_eq_true.mp (List.all_eq_true.mp oq_w3b i (List.mem_range.mpr hi)) k (List.mem_range.mpr hk)
  rw [Bool.or_eq_true] at h
  rcases h with h | h
  · exact absurd (beq_iff_eq.mp h) hik
  · obtain ⟨j, -, hj⟩ := List.any_eq_true.mp h
    simp only [Bool.and_eq_true, decide_eq_true_eq, Bool.not_eq_true', decide_eq_false_iff_not] at hj
    exact ⟨j, hj.1, hj.2.1, hj.2.2⟩
theorem oq_w4 : ∀ i : Nat, i < 26 → ∀ j : Nat, j < 7 → (oXb.getD (7 * i + j) 0 &&& 255).toInt = oqWp i j := by decide +kernel
theorem oqIs_one {g : Int → Int} {a : Int} {i k : Nat} (hi : i < 26) (hk : k < 26) (h1 : oqIs g a i) (h2 : oqIs g a k) : i = k := by
  by_cases h : i = k
  · exact h
  · obtain ⟨j, q1, q2, q3⟩ := oq_w3 i hi k hk h
    exact absurd ((h1.1 j q1).symm.trans (h2.1 j q2)) q3
theorem oqIs_let {g : Int → Int} {a : Int} {i : Nat} (hi : i < 26) (h : oqIs g a i) : 97 ≤ g a ∧ g a ≤ 122 := by
  have h1 := oq_w1 i hi
  have h2 := h.1 0 (by omega)
  have h3 := oq_w2 i hi 0 (by omega) (by omega)
  rw [show a + ((0 : Nat) : Int) = a by omega] at h2
  omega
/-- a run of letters -/
def oqRun (g : Int → Int) (a w : Int) : Prop := ∀ j, a ≤ j → j < w → 97 ≤ g j ∧ g j ≤ 122
theorem oqRun_0 {g : Int → Int} {a : Int} : oqRun g a a := fun j h1 h2 => by omega
theorem oqRun_nx {g : Int → Int} {a w v : Int} (h : oqRun g a w) (hw : 97 ≤ g w ∧ g w ≤ 122) (hv : v = w + 1) : oqRun g a v := fun j h1 h2 => by
  by_cases hj : j = w
  · rw [hj]; exact hw
  · exact h j h1 (by omega)
theorem oqIs_W {g : Int → Int} {a w : Int} {i : Nat} (hi : i < 26) (h : oqIs g a i) (hr : oqRun g a w) (hw : ¬ (97 ≤ g w ∧ g w ≤ 122)) (haw : a ≤ w) : w = a + oqWl i := by
  have h7 := oq_w1 i hi
  by_cases h1 : a + oqWl i < w
  · exact absurd (hr (a + oqWl i) (by omega) h1) h.2
  · by_cases h2 : w < a + oqWl i
    · obtain ⟨j, hj⟩ : ∃ j : Nat, w = a + j := ⟨(w - a).toNat, by omega⟩
      have h3 := h.1 j (by omega)
      have h4 := oq_w2 i hi j (by omega) (by omega)
      rw [hj] at hw
      omega
    · omega
/-- so many letters of word i, filled up with blanks, stand there -/
def oqMt (g : Int → Int) (a w : Int) (i : Nat) (m : Int) : Prop := ∀ j : Nat, (j : Int) < m → oqWp i j = if a + j < w then g (a + j) else 32
theorem oqMt_0 {g : Int → Int} {a w : Int} {i : Nat} {m : Int} (hm : m = 0) : oqMt g a w i m := fun j hj => by omega
theorem oqMt_nx {g : Int → Int} {a w : Int} {i : Nat} {m m' : Int} {k : Nat} (h : oqMt g a w i m) (hk : m = (k : Int)) (hm : m' = m + 1) (he : oqWp i k = if a + k < w then g (a + k) else 32) : oqMt g a w i m' := fun j hj => by
  by_cases hjk : j = k
  · rw [hjk]; exact he
  · exact h j (by omega)
theorem oqMt_is {g : Int → Int} {a w m : Int} {i : Nat} (hi : i < 26) (h : oqMt g a w i m) (hm : m = 7) (hr : oqRun g a w) (hw : ¬ (97 ≤ g w ∧ g w ≤ 122)) (haw : a ≤ w) (h7 : w - a ≤ 7) : oqIs g a i := by
  have hl := oq_w1 i hi
  have key : ∀ j : Nat, j < oqWl i → a + j < w ∧ g (a + j) = oqWc i j := fun j hj => by
    have h1 := h j (by omega)
    have h2 := oq_w2 i hi j (by omega) hj
    unfold oqWp at h1
    rw [if_pos hj] at h1
    by_cases h3 : a + j < w
    · rw [if_pos h3] at h1
      exact ⟨h3, h1.symm⟩
    · rw [if_neg h3] at h1
      omega
  have hW : w = a + oqWl i := by
    have h1 := (key (oqWl i - 1) (by omega)).1
    by_cases h2 : oqWl i = 7
    · omega
    · have h3 := h (oqWl i) (by omega)
      unfold oqWp at h3
      rw [if_neg (by omega)] at h3
      by_cases h4 : a + oqWl i < w
      · rw [if_pos h4] at h3
        have h5 := hr _ (by omega) h4
        omega
      · omega
  refine ⟨fun j hj => (key j hj).2, ?_⟩
  rw [← hW]
  exact hw
theorem oqIs_mt {g : Int → Int} {a w : Int} {i j : Nat} (hi : i < 26) (hj : j < 7) (h : oqIs g a i) (hr : oqRun g a w) (hw : ¬ (97 ≤ g w ∧ g w ≤ 122)) (haw : a ≤ w) : oqWp i j = if a + j < w then g (a + j) else 32 := by
  have hW := oqIs_W hi h hr hw haw
  unfold oqWp
  by_cases h1 : j < oqWl i
  · rw [if_pos h1, if_pos (by omega)]
    exact (h.1 j h1).symm
  · rw [if_neg h1, if_neg (by omega)]
theorem oq_ch {r v : Int32} {i j : Nat} (h : r = oXb.getD v.toNatClampNeg 0 &&& 255) (hv : v.toInt = 7 * (i : Int) + j) (hi : i < 26) (hj : j < 7) : r.toInt = oqWp i j := by
  rw [h, ← oq_w4 i hi j hj, show v.toNatClampNeg = 7 * i + j by have := n_nat v; omega]
/-- word i stands next, and may begin there -/
def oqHp (g : Int → Int) (a b : Int) (i : Nat) : Prop := oqIs g (oqSk g a) i ∧ oqSk g a ≠ b
noncomputable def oqH (g : Int → Int) (a b : Int) (i : Nat) : Int := @ite Int (oqHp g a b i) (Classical.propDecidable _) 1 0
def oqHa (g : Int → Int) (a : Int) (i : Nat) : Int := oqSk g a + oqWl i
theorem oqH_1 {g : Int → Int} {a b : Int} {i : Nat} (h : oqIs g (oqSk g a) i) (hb : oqSk g a ≠ b) : oqH g a b i = 1 := if_pos ⟨h, hb⟩
theorem oqH_0 {g : Int → Int} {a b : Int} {i : Nat} (h : ¬ (oqIs g (oqSk g a) i ∧ oqSk g a ≠ b)) : oqH g a b i = 0 := if_neg h
theorem oqH_is {g : Int → Int} {a b : Int} {i : Nat} (h : oqH g a b i = 1) : oqIs g (oqSk g a) i ∧ oqSk g a ≠ b := by
  by_cases h1 : oqIs g (oqSk g a) i ∧ oqSk g a ≠ b
  · exact h1
  · rw [oqH_0 h1] at h
    omega
theorem oqH_01 (g : Int → Int) (a b : Int) (i : Nat) : oqH g a b i = 0 ∨ oqH g a b i = 1 := by
  by_cases h1 : oqIs g (oqSk g a) i ∧ oqSk g a ≠ b
  · right; exact oqH_1 h1.1 h1.2
  · left; exact oqH_0 h1
def oqDn (g : Int → Int) (a : Int) : Int := if 48 ≤ g a ∧ g a ≤ 57 then (if 48 ≤ g (a + 1) ∧ g (a + 1) ≤ 57 then (if 48 ≤ g (a + 2) ∧ g (a + 2) ≤ 57 then (if 48 ≤ g (a + 3) ∧ g (a + 3) ≤ 57 then (if 48 ≤ g (a + 4) ∧ g (a + 4) ≤ 57 then 5 else 4) else 3) else 2) else 1) else 0
def oqDv (g : Int → Int) (a : Int) : Nat → Int
  | 0 => 0
  | n + 1 => 10 * oqDv g a n + g (a + n) - 48
def oqDs (g : Int → Int) (a : Int) (n : Int) : Prop := ∀ j : Nat, (j : Int) < n → 48 ≤ g (a + j) ∧ g (a + j) ≤ 57
theorem oqDs_0 {g : Int → Int} {a n : Int} (h : n = 0) : oqDs g a n := fun j hj => by omega
theorem oqDs_nx {g : Int → Int} {a n m b : Int} (h : oqDs g a n) (h0 : 0 ≤ n) (hm : m = n + 1) (hb : b = a + n) (hd : 48 ≤ g b ∧ g b ≤ 57) : oqDs g a m := fun j hj => by
  by_cases hjn : (j : Int) = n
  · rw [hjn, ← hb]; exact hd
  · exact h j (by omega)
theorem oqDn_of {g : Int → Int} {a n : Int} (h : oqDs g a n) (h0 : 0 ≤ n) (h4 : n ≤ 4) (hn : ¬ (48 ≤ g (a + n) ∧ g (a + n) ≤ 57)) : oqDn g a = n := by
  have q0 := h 0
  have q1 := h 1
  have q2 := h 2
  have q3 := h 3
  rw [show a + ((0 : Nat) : Int) = a by omega] at q0
  rw [show a + ((1 : Nat) : Int) = a + 1 by omega] at q1
  rw [show a + ((2 : Nat) : Int) = a + 2 by omega] at q2
  rw [show a + ((3 : Nat) : Int) = a + 3 by omega] at q3
  have hc : n = 0 ∨ n = 1 ∨ n = 2 ∨ n = 3 ∨ n = 4 := by omega
  unfold oqDn
  rcases hc with rfl | rfl | rfl | rfl | rfl
  · rw [show a + 0 = a by omega] at hn
    rw [if_neg hn]
  · rw [if_pos (q0 (by omega)), if_neg hn]
  · rw [if_pos (q0 (by omega)), if_pos (q1 (by omega)), if_neg hn]
  · rw [if_pos (q0 (by omega)), if_pos (q1 (by omega)), if_pos (q2 (by omega)), if_neg hn]
  · rw [if_pos (q0 (by omega)), if_pos (q1 (by omega)), if_pos (q2 (by omega)), if_pos (q3 (by omega)), if_neg hn]
theorem oqDn_5 {g : Int → Int} {a n : Int} (h : oqDs g a n) (h4 : n = 4) (hn : 48 ≤ g (a + n) ∧ g (a + n) ≤ 57) : oqDn g a = 5 := by
  have q0 := h 0
  have q1 := h 1
  have q2 := h 2
  have q3 := h 3
  rw [show a + ((0 : Nat) : Int) = a by omega] at q0
  rw [show a + ((1 : Nat) : Int) = a + 1 by omega] at q1
  rw [show a + ((2 : Nat) : Int) = a + 2 by omega] at q2
  rw [show a + ((3 : Nat) : Int) = a + 3 by omega] at q3
  rw [h4] at hn
  unfold oqDn
  rw [if_pos (q0 (by omega)), if_pos (q1 (by omega)), if_pos (q2 (by omega)), if_pos (q3 (by omega)), if_pos hn]
theorem oqDn_rg (g : Int → Int) (a : Int) : 0 ≤ oqDn g a ∧ oqDn g a ≤ 5 ∧ (oqDn g a = 0 ↔ ¬ (48 ≤ g a ∧ g a ≤ 57)) := by
  unfold oqDn
  repeat' split
  all_goals omega
theorem oqDv_0 {g : Int → Int} {a : Int} {x : Int32} (h : x.toInt = 0) : oqDv g a x.toNatClampNeg = 0 := by
  rw [show x.toNatClampNeg = 0 by have := n_nat x; omega]
  rfl
theorem oqDv_nx {g : Int → Int} {a b : Int} {x y : Int32} (h0 : 0 ≤ x.toInt) (hy : y.toInt = x.toInt + 1) (hb : b = a + x.toInt) : oqDv g a y.toNatClampNeg = 10 * oqDv g a x.toNatClampNeg + g b - 48 := by
  rw [show y.toNatClampNeg = x.toNatClampNeg + 1 by have := n_nat x; have := n_nat y; omega, show b = a + (x.toNatClampNeg : Int) by have := n_nat x; omega]
  rfl
/-- a number that may be lo .. hi, read from a on, glue b: its fault (0 without), the place of it, what it is, where it ends -/
def oqNv (g : Int → Int) (a : Int) : Int := oqDv g (oqSk g a) (oqDn g (oqSk g a)).toNat
def oqNa (g : Int → Int) (a : Int) : Int := oqSk g a + oqDn g (oqSk g a)
def oqNk (g : Int → Int) (a b lo hi : Int) : Int := if oqDn g (oqSk g a) = 0 ∨ oqSk g a = b then 1 else if oqDn g (oqSk g a) = 5 then 1 else if oqNv g a < lo ∨ hi < oqNv g a then 2 else 0
def oqNp (g : Int → Int) (a b : Int) : Int := if oqDn g (oqSk g a) = 0 ∨ oqSk g a = b then oqSk g a else if oqDn g (oqSk g a) = 5 then oqSk g a + 4 else oqSk g a
theorem oqN_1 {g : Int → Int} {a b lo hi : Int} (h : oqDn g (oqSk g a) = 0 ∨ oqSk g a = b) : oqNk g a b lo hi = 1 ∧ oqNp g a b = oqSk g a := ⟨if_pos h, if_pos h⟩
theorem oqN_5 {g : Int → Int} {a b lo hi : Int} (h1 : oqSk g a ≠ b) (h : oqDn g (oqSk g a) = 5) : oqNk g a b lo hi = 1 ∧ oqNp g a b = oqSk g a + 4 := by
  have c1 : ¬ (oqDn g (oqSk g a) = 0 ∨ oqSk g a = b) := by omega
  exact ⟨(if_neg c1).trans (if_pos h), (if_neg c1).trans (if_pos h)⟩
theorem oqN_2 {g : Int → Int} {a b lo hi d : Int} (h1 : oqSk g a ≠ b) (h : oqDn g (oqSk g a) = d) (hd : 1 ≤ d ∧ d ≤ 4) (hv : oqNv g a < lo ∨ hi < oqNv g a) : oqNk g a b lo hi = 2 ∧ oqNp g a b = oqSk g a := by
  have c1 : ¬ (oqDn g (oqSk g a) = 0 ∨ oqSk g a = b) := by omega
  have c2 : ¬ oqDn g (oqSk g a) = 5 := by omega
  exact ⟨(if_neg c1).trans ((if_neg c2).trans (if_pos hv)), (if_neg c1).trans (if_neg c2)⟩
theorem oqN_0 {g : Int → Int} {a b lo hi d : Int} (h1 : oqSk g a ≠ b) (h : oqDn g (oqSk g a) = d) (hd : 1 ≤ d ∧ d ≤ 4) (hv : lo ≤ oqNv g a ∧ oqNv g a ≤ hi) : oqNk g a b lo hi = 0 := by
  have c1 : ¬ (oqDn g (oqSk g a) = 0 ∨ oqSk g a = b) := by omega
  have c2 : ¬ oqDn g (oqSk g a) = 5 := by omega
  have c3 : ¬ (oqNv g a < lo ∨ hi < oqNv g a) := by omega
  exact (if_neg c1).trans ((if_neg c2).trans (if_neg c3))
theorem oqNv_of {g : Int → Int} {a A : Int} {x : Int32} {v : Int} (hA : A = oqSk g a) (h0 : 0 ≤ x.toInt) (h : oqDn g A = x.toInt) (hv : v = oqDv g A x.toNatClampNeg) : oqNv g a = v := by
  unfold oqNv
  rw [← hA, h, hv, n_nat]
/-- a smaller bound above -/
theorem oqNk_cap {g : Int → Int} {a b lo h1 h2 : Int} (h : h2 ≤ h1) : (oqNk g a b lo h2 = 0 → oqNk g a b lo h1 = 0 ∧ oqNv g a ≤ h2) ∧ (oqNk g a b lo h1 = 0 → oqNv g a ≤ h2 → oqNk g a b lo h2 = 0) ∧ (oqNk g a b lo h1 ≠ 0 → oqNk g a b lo h2 = oqNk g a b lo h1) ∧ (oqNk g a b lo h1 = 0 → h2 < oqNv g a → oqNk g a b lo h2 = 2 ∧ oqNp g a b = oqSk g a) := by
  refine ⟨?_, ?_, ?_, ?_⟩
  · simp only [oqNk]
    (repeat' split) <;> (intros; omega)
  · simp only [oqNk]
    (repeat' split) <;> (intros; omega)
  · simp only [oqNk]
    (repeat' split) <;> (intros; omega)
  · simp only [oqNk, oqNp]
    (repeat' split) <;> (intros; omega)
theorem oqNk_rg (g : Int → Int) (a b lo hi : Int) : 0 ≤ oqNk g a b lo hi ∧ oqNk g a b lo hi ≤ 2 ∧ (oqNk g a b lo hi = 0 → lo ≤ oqNv g a ∧ oqNv g a ≤ hi) := by
  unfold oqNk
  repeat' split
  all_goals omega
