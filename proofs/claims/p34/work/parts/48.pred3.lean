/-- 1 where nothing is bad -/
def oB1 (x : Int32) : Int := if x.toInt = 0 then 1 else 0
theorem oB1_f (x : Int32) : (x.toInt = 0 ∧ oB1 x = 1) ∨ (x.toInt ≠ 0 ∧ oB1 x = 0) := by
  unfold oB1
  by_cases h : x.toInt = 0
  · left; exact ⟨h, if_pos h⟩
  · right; exact ⟨h, if_neg h⟩
theorem n_nat (x : Int32) : x.toInt.toNat = x.toNatClampNeg := rfl
theorem n_divL {x y z : Int64} {k : Int} (h : z = x / y) (hy : y.toInt = k) (hk : 2 ≤ k) : 0 < x.toInt → 0 ≤ z.toInt ∧ z.toInt < x.toInt := by
  intro h0
  have h2 := Int64.toInt_lt x
  rw [h, Int64.toInt_div, hy, Int.tdiv_eq_ediv_of_nonneg (by omega)]
  have a : x.toInt / k < x.toInt := Int.ediv_lt_of_lt_mul (by omega) (by
    have : x.toInt * 2 ≤ x.toInt * k := Int.mul_le_mul_of_nonneg_left hk (by omega)
    omega)
  have b : 0 ≤ x.toInt / k := Int.ediv_nonneg (by omega) (by omega)
  have e : (x.toInt / k).bmod (2 ^ 64) = x.toInt / k := by
    rw [Int.bmod_def]
    split <;> omega
  rw [e]
  exact ⟨b, a⟩
/-- a row of steps as a number -/
def oVl (f : Nat → Int32) : Nat → Int
  | 0 => 0
  | n + 1 => 30 * oVl f n + (f n).toInt
def oDg (s : oS) : Prop := ∀ j : Nat, j < (s.1 71 38).toNatClampNeg → 0 ≤ (s.1 99 j).toInt ∧ (s.1 99 j).toInt ≤ 4
theorem oDg_fr {M : List (Nat × Nat)} {s u : oS} (hf : oFr M s u) (hm : (oin M 12 38 || oinK M 75) = false) (h : oDg s) : oDg u := by
  simp only [Bool.or_eq_false_iff] at hm
  have e1 : u.1 71 38 = s.1 71 38 := (hf 71 38 hm.1).1
  have e2 : u.1 99 = s.1 99 := by funext k; exact (hf 99 k (oinK_in hm.2 k)).1
  unfold oDg
  rw [e1, e2]
  exact h
def oVe (v : Int) (s : oS) : Prop := oVl (s.1 99) (s.1 71 38).toNatClampNeg = v
theorem oVe_fr {M : List (Nat × Nat)} {v : Int} {s u : oS} (hf : oFr M s u) (hm : (oin M 12 38 || oinK M 75) = false) (h : oVe v s) : oVe v u := by
  simp only [Bool.or_eq_false_iff] at hm
  have e1 : u.1 71 38 = s.1 71 38 := (hf 71 38 hm.1).1
  have e2 : u.1 99 = s.1 99 := by funext k; exact (hf 99 k (oinK_in hm.2 k)).1
  unfold oVe
  rw [e1, e2]
  exact h
def oVg (v : Int) (s : oS) : Prop := v < oVl (s.1 99) (s.1 71 38).toNatClampNeg
theorem oVg_fr {M : List (Nat × Nat)} {v : Int} {s u : oS} (hf : oFr M s u) (hm : (oin M 12 38 || oinK M 75) = false) (h : oVg v s) : oVg v u := by
  simp only [Bool.or_eq_false_iff] at hm
  have e1 : u.1 71 38 = s.1 71 38 := (hf 71 38 hm.1).1
  have e2 : u.1 99 = s.1 99 := by funext k; exact (hf 99 k (oinK_in hm.2 k)).1
  unfold oVg
  rw [e1, e2]
  exact h
theorem oVl_bd {f : Nat → Int32} : ∀ {n : Nat}, (∀ j, j < n → 0 ≤ (f j).toInt ∧ (f j).toInt ≤ 4) → 0 ≤ oVl f n ∧ oVl f n + 1 ≤ 30 ^ n
  | 0, _ => by simp [oVl]
  | n + 1, h => by
    have := oVl_bd (f := f) (n := n) (fun j hj => h j (by omega))
    have h1 := h n (by omega)
    show 0 ≤ 30 * oVl f n + (f n).toInt ∧ 30 * oVl f n + (f n).toInt + 1 ≤ 30 ^ (n + 1)
    have e : (30 : Int) ^ (n + 1) = 30 * 30 ^ n := by rw [Int.pow_succ]; omega
    rw [e]
    omega
theorem oDg_bd {s : oS} (h : oDg s) (hn : (s.1 71 38).toInt ≤ 6) : 0 ≤ oVl (s.1 99) (s.1 71 38).toNatClampNeg ∧ oVl (s.1 99) (s.1 71 38).toNatClampNeg < 729000000 := by
  have e1 := n_nat (s.1 71 38)
  have a := oVl_bd h
  have b : (30 : Int) ^ (s.1 71 38).toNatClampNeg ≤ 30 ^ 6 := by
    have h1 : (30 : Nat) ^ (s.1 71 38).toNatClampNeg ≤ 30 ^ 6 := Nat.pow_le_pow_right (by decide) (by omega)
    exact_mod_cast h1
  have c : (30 : Int) ^ 6 = 729000000 := by decide
  omega
theorem oVl_gt {f g : Nat → Int32} {k : Nat} (hs : ∀ j, j < k → g j = f j) (hk : (f k).toInt < (g k).toInt) : ∀ {n : Nat}, k < n → (∀ j, j < n → 0 ≤ (f j).toInt ∧ (f j).toInt ≤ 4) → (∀ j, j < n → 0 ≤ (g j).toInt) → oVl f n < oVl g n
  | 0, h, _, _ => by omega
  | n + 1, h, hf, hg => by
    show 30 * oVl f n + (f n).toInt < 30 * oVl g n + (g n).toInt
    have h1 := hf n (by omega)
    have h2 := hg n (by omega)
    by_cases e : k = n
    · subst e
      have : ∀ m, m ≤ k → oVl g m = oVl f m := by
        intro m
        induction m with
        | zero => intro _; rfl
        | succ m ih =>
          intro hm
          show 30 * oVl g m + (g m).toInt = 30 * oVl f m + (f m).toInt
          rw [ih (by omega), hs m (by omega)]
      have h3 := this k (Nat.le_refl _)
      omega
    · have := oVl_gt hs hk (n := n) (by omega) (fun j hj => hf j (by omega)) (fun j hj => hg j (by omega))
      omega
/-- the steps up to x are those of s -/
def oNj (s : oS) (x : Int32) (t : oS) : Prop := ∀ j : Nat, (j : Int) ≤ x.toInt → t.1 99 j = s.1 99 j
theorem oNj_at {s t : oS} {x : Int32} (h : oNj s x t) (hd : oDg s) (h0 : 0 ≤ x.toInt) (h1 : x.toInt < (s.1 71 38).toInt) : (t.1 99 x.toNatClampNeg).toInt = (s.1 99 x.toNatClampNeg).toInt ∧ 0 ≤ (t.1 99 x.toNatClampNeg).toInt ∧ (t.1 99 x.toNatClampNeg).toInt ≤ 4 := by
  have e1 := n_nat x
  have e2 := n_nat (s.1 71 38)
  have a := h x.toNatClampNeg (by omega)
  have b := hd x.toNatClampNeg (by omega)
  rw [a]
  exact ⟨rfl, b⟩
theorem oNj_1 {s t : oS} {x y w : Int32} (h : oNj s x t) (h0 : 0 ≤ x.toInt) (hy : y.toInt = x.toInt - 1) : oNj s y (pI t 99 x.toNatClampNeg w) := fun j hj => by
  have e1 := n_nat x
  rw [pI_ne t w (Or.inr (by omega))]
  exact h j (by omega)
theorem oNj_2 {s t : oS} {x y w w' : Int32} (h : oNj s x t) (h0 : 0 ≤ x.toInt) (hy : y.toInt = x.toInt - 1) : oNj s y (pI (pI t 99 x.toNatClampNeg w) 99 x.toNatClampNeg w') := fun j hj => by
  have e1 := n_nat x
  rw [pI_ne _ w' (Or.inr (by omega)), pI_ne t w (Or.inr (by omega))]
  exact h j (by omega)
/-- one step is greater than in s, those ahead are as in s, all up to x are steps -/
def oNm (s : oS) (x : Int32) (t : oS) : Prop := (∃ k : Nat, (k : Int) < x.toInt ∧ (∀ j, j < k → t.1 99 j = s.1 99 j) ∧ (s.1 99 k).toInt < (t.1 99 k).toInt) ∧ ∀ j : Nat, (j : Int) < x.toInt → 0 ≤ (t.1 99 j).toInt ∧ (t.1 99 j).toInt ≤ 4
theorem oNm_of {s t : oS} {x y : Int32} (hs : ∀ j : Nat, (j : Int) < x.toInt → t.1 99 j = s.1 99 j) (hd : oDg s) (h0 : 0 ≤ x.toInt) (hx : x.toInt < (s.1 71 38).toInt) (hy : y.toInt = x.toInt + 1) (hk : (s.1 99 x.toNatClampNeg).toInt < (t.1 99 x.toNatClampNeg).toInt) (h4 : (t.1 99 x.toNatClampNeg).toInt ≤ 4) : oNm s y t := by
  have e1 := n_nat x
  have e2 := n_nat (s.1 71 38)
  refine ⟨⟨x.toNatClampNeg, by omega, fun j hj => hs j (by omega), hk⟩, fun j hj => ?_⟩
  by_cases e : j = x.toNatClampNeg
  · subst e
    have := hd x.toNatClampNeg (by omega)
    omega
  · rw [hs j (by omega)]
    exact hd j (by omega)
theorem oNm_of1 {s t : oS} {x y w : Int32} (h : oNj s x t) (hd : oDg s) (h0 : 0 ≤ x.toInt) (hx : x.toInt < (s.1 71 38).toInt) (hy : y.toInt = x.toInt + 1) (hk : (s.1 99 x.toNatClampNeg).toInt < w.toInt) (h4 : w.toInt ≤ 4) : oNm s y (pI t 99 x.toNatClampNeg w) := by
  have e1 := n_nat x
  exact oNm_of (fun j hj => by rw [pI_ne t w (Or.inr (by omega))]; exact h j (by omega)) hd h0 hx hy (by rw [pI_self]; exact hk) (by rw [pI_self]; exact h4)
theorem oNm_of2 {s t : oS} {x y w w' : Int32} (h : oNj s x t) (hd : oDg s) (h0 : 0 ≤ x.toInt) (hx : x.toInt < (s.1 71 38).toInt) (hy : y.toInt = x.toInt + 1) (hk : (s.1 99 x.toNatClampNeg).toInt < w.toInt) (h4 : w.toInt ≤ 4) : oNm s y (pI (pI t 99 x.toNatClampNeg w') 99 x.toNatClampNeg w) := by
  have e1 := n_nat x
  exact oNm_of (fun j hj => by rw [pI_ne _ w (Or.inr (by omega)), pI_ne t w' (Or.inr (by omega))]; exact h j (by omega)) hd h0 hx hy (by rw [pI_self]; exact hk) (by rw [pI_self]; exact h4)
theorem oNm_step {s t : oS} {x y w : Int32} (h : oNm s x t) (h0 : 0 ≤ x.toInt) (hy : y.toInt = x.toInt + 1) (hw : 0 ≤ w.toInt ∧ w.toInt ≤ 4) : oNm s y (pI t 99 x.toNatClampNeg w) := by
  have e1 := n_nat x
  obtain ⟨⟨k, h1, h2, h3⟩, h4⟩ := h
  refine ⟨⟨k, by omega, fun j hj => ?_, ?_⟩, fun j hj => ?_⟩
  · rw [pI_ne t w (Or.inr (by omega))]; exact h2 j hj
  · rw [pI_ne t w (Or.inr (by omega))]; exact h3
  · by_cases e : j = x.toNatClampNeg
    · subst e; rw [pI_self]; exact hw
    · rw [pI_ne t w (Or.inr e)]; exact h4 j (by omega)
theorem oNm_dg {s t : oS} {x : Int32} (h : oNm s x t) (hx : (t.1 71 38).toInt ≤ x.toInt) : oDg t := fun j hj => by
  have e2 := n_nat (t.1 71 38)
  exact h.2 j (by omega)
theorem oNm_vg {s t : oS} {x : Int32} {v : Int} (h : oNm s x t) (hx : (t.1 71 38).toInt = x.toInt) (hn : (t.1 71 38).toInt = (s.1 71 38).toInt) (hd : oDg s) (hv : oVe v s) : oVg v t := by
  have e2 := n_nat (t.1 71 38)
  have e3 := n_nat (s.1 71 38)
  have e4 : (t.1 71 38).toNatClampNeg = (s.1 71 38).toNatClampNeg := by omega
  obtain ⟨⟨k, h1, h2, h3⟩, h4⟩ := h
  unfold oVg
  unfold oVe at hv
  rw [← hv, e4]
  exact oVl_gt h2 h3 (by omega) hd (fun j hj => (h4 j (by omega)).1)
/-- a measure for the search over lines -/
def oMM (x : Int32) (s : oS) : Int := if x.toInt = 1 then 729000001 - oVl (s.1 99) (s.1 71 38).toNatClampNeg else 0
theorem oMM_1 {x : Int32} {s : oS} (h : x.toInt = 1) : oMM x s = 729000001 - oVl (s.1 99) (s.1 71 38).toNatClampNeg := if_pos h
theorem oMM_0 {x : Int32} {s : oS} (h : x.toInt = 0) : oMM x s = 0 := if_neg (by omega)
theorem oMM_f {x : Int32} {s : oS} (h01 : 0 ≤ x.toInt ∧ x.toInt ≤ 1) (hn : (s.1 71 38).toInt ≤ 6) (hd : x.toInt = 1 → oDg s) : 0 ≤ oMM x s := by
  by_cases h : x.toInt = 1
  · have := oDg_bd (hd h) hn
    rw [oMM_1 h]
    omega
  · rw [oMM_0 (by omega)]
    omega
theorem oMM_lt {x y : Int32} {s t : oS} (hx : x.toInt = 1) (hd : oDg s) (hn : (s.1 71 38).toInt ≤ 6) (h01 : 0 ≤ y.toInt ∧ y.toInt ≤ 1) (hv : y.toInt = 1 → oDg t ∧ oVg (oVl (s.1 99) (s.1 71 38).toNatClampNeg) t) : oMM y t < oMM x s := by
  have := oDg_bd hd hn
  rw [oMM_1 hx]
  by_cases h : y.toInt = 1
  · rw [oMM_1 h]
    have := (hv h).2
    unfold oVg at this
    omega
  · rw [oMM_0 (by omega)]
    omega
/-- the draft's ticks, where nothing is bad -/
def oDT (s : oS) : Prop := (s.1 71 5).toInt = 0 → oSm (fun j => s.1 100 (24 + j)) (s.1 71 37).toNatClampNeg ≤ 96 ∧ ∀ k, k < (s.1 71 37).toNatClampNeg → 1 ≤ (s.1 100 (24 + k)).toInt
theorem oDT_frb {M : List (Nat × Nat)} {s u : oS} (hf : oFr M s u) (hm : (oin M 12 37 || oinK M 76) = false) (hb : (u.1 71 5).toInt = 0 → (s.1 71 5).toInt = 0) (h : oDT s) : oDT u := fun h0 => by
  simp only [Bool.or_eq_false_iff] at hm
  have e1 : u.1 71 37 = s.1 71 37 := (hf 71 37 hm.1).1
  have e2 : u.1 100 = s.1 100 := by funext k; exact (hf 100 k (oinK_in hm.2 k)).1
  rw [e1, e2]
  exact h (hb h0)
theorem oDT_fr {M : List (Nat × Nat)} {s u : oS} (hf : oFr M s u) (hm : (oin M 12 5 || (oin M 12 37 || oinK M 76)) = false) (h : oDT s) : oDT u := by
  rw [Bool.or_eq_false_iff] at hm
  have e1 : u.1 71 5 = s.1 71 5 := (hf 71 5 hm.1).1
  exact oDT_frb hf hm.2 (by rw [e1]; exact id) h
theorem oDT_0 {s : oS} (h : (s.1 71 37).toInt = 0) : oDT s := fun _ => by
  have e := n_nat (s.1 71 37)
  have e0 : (s.1 71 37).toNatClampNeg = 0 := by omega
  rw [e0]
  exact ⟨by simp [oSm], fun k hk => by omega⟩
/-- the same with the note at hand -/
def oDU (s : oS) : Prop := (s.1 71 5).toInt = 0 → oSm (fun j => s.1 100 (24 + j)) ((s.1 71 37).toNatClampNeg + 1) ≤ 96 ∧ ∀ k, k < (s.1 71 37).toNatClampNeg + 1 → 1 ≤ (s.1 100 (24 + k)).toInt
theorem oDU_frb {M : List (Nat × Nat)} {s u : oS} (hf : oFr M s u) (hm : (oin M 12 37 || oinK M 76) = false) (hb : (u.1 71 5).toInt = 0 → (s.1 71 5).toInt = 0) (h : oDU s) : oDU u := fun h0 => by
  simp only [Bool.or_eq_false_iff] at hm
  have e1 : u.1 71 37 = s.1 71 37 := (hf 71 37 hm.1).1
  have e2 : u.1 100 = s.1 100 := by funext k; exact (hf 100 k (oinK_in hm.2 k)).1
  rw [e1, e2]
  exact h (hb h0)
theorem oDU_of {s : oS} {x n : Int32} (h : oDT s) (hx : x.toInt = 24 + (s.1 71 37).toInt) (h0 : 0 ≤ (s.1 71 37).toInt) (hn : (s.1 71 5).toInt = 0 → 1 ≤ n.toInt ∧ n.toInt + oSm (fun j => s.1 100 (24 + j)) (s.1 71 37).toNatClampNeg ≤ 96) : oDU (pI s 100 x.toNatClampNeg n) := fun hb => by
  have e := n_nat (s.1 71 37)
  have ex := n_nat x
  have ek : x.toNatClampNeg = 24 + (s.1 71 37).toNatClampNeg := by omega
  have e1 : (pI s 100 x.toNatClampNeg n).1 71 37 = s.1 71 37 := pI_ne s n (Or.inl (by decide))
  have e5 : (pI s 100 x.toNatClampNeg n).1 71 5 = s.1 71 5 := pI_ne s n (Or.inl (by decide))
  rw [e5] at hb
  obtain ⟨h1, h2⟩ := h hb
  obtain ⟨h3, h4⟩ := hn hb
  rw [e1]
  have e3 : oSm (fun j => (pI s 100 x.toNatClampNeg n).1 100 (24 + j)) (s.1 71 37).toNatClampNeg = oSm (fun j => s.1 100 (24 + j)) (s.1 71 37).toNatClampNeg := oSm_congr (fun k hk => pI_ne s n (Or.inr (by omega)))
  have e4 : (pI s 100 x.toNatClampNeg n).1 100 (24 + (s.1 71 37).toNatClampNeg) = n := by rw [← ek]; exact pI_self _ _ _ _
  refine ⟨?_, fun k hk => ?_⟩
  · show oSm _ (s.1 71 37).toNatClampNeg + ((pI s 100 x.toNatClampNeg n).1 100 (24 + (s.1 71 37).toNatClampNeg)).toInt ≤ 96
    rw [e3, e4]
    omega
  · by_cases hk2 : k = (s.1 71 37).toNatClampNeg
    · subst hk2; rw [e4]; exact h3
    · rw [pI_ne s n (Or.inr (by omega))]; exact h2 k (by omega)
theorem oDT_of {s : oS} {z : Int32} (h : oDU s) (h0 : 0 ≤ (s.1 71 37).toInt) (hz : z.toInt = (s.1 71 37).toInt + 1) : oDT (pI s 71 37 z) := fun hb => by
  have e := n_nat (s.1 71 37)
  have ez := n_nat z
  have e1 : (pI s 71 37 z).1 71 37 = z := pI_self _ _ _ _
  have e5 : (pI s 71 37 z).1 71 5 = s.1 71 5 := pI_ne s z (Or.inr (by decide))
  have e2 : (pI s 71 37 z).1 100 = s.1 100 := by funext k; exact pI_ne s z (Or.inl (by decide))
  have e3 : z.toNatClampNeg = (s.1 71 37).toNatClampNeg + 1 := by omega
  rw [e5] at hb
  rw [e1, e2, e3]
  exact h hb
theorem oDT_lo {s : oS} {x w : Int32} (h : oDT s) (hx : 0 ≤ x.toInt ∧ x.toInt < 24) : oDT (pI s 100 x.toNatClampNeg w) := fun hb => by
  have ex := n_nat x
  have e1 : (pI s 100 x.toNatClampNeg w).1 71 37 = s.1 71 37 := pI_ne s w (Or.inl (by decide))
  have e5 : (pI s 100 x.toNatClampNeg w).1 71 5 = s.1 71 5 := pI_ne s w (Or.inl (by decide))
  have e2 : ∀ k, (pI s 100 x.toNatClampNeg w).1 100 (24 + k) = s.1 100 (24 + k) := fun k => pI_ne s w (Or.inr (by omega))
  rw [e5] at hb
  rw [e1]
  simp only [e2]
  exact h hb
theorem oSd_at0 {f : Nat → Int32} {x : Int32} (h : x.toInt = 24) : oSm f (x.toInt - 24).toNat = 0 := by
  rw [h]
  rfl
theorem oSd_succ {f : Nat → Int32} {x y : Int32} (h0 : 24 ≤ x.toInt) (h : y.toInt = x.toInt + 1) : oSm (fun j => f (24 + j)) (y.toInt - 24).toNat = oSm (fun j => f (24 + j)) (x.toInt - 24).toNat + (f x.toNatClampNeg).toInt := by
  have e := n_nat x
  have e1 : (y.toInt - 24).toNat = (x.toInt - 24).toNat + 1 := by omega
  have e2 : 24 + (x.toInt - 24).toNat = x.toNatClampNeg := by omega
  rw [e1]
  show _ + (f (24 + (x.toInt - 24).toNat)).toInt = _
  rw [e2]
/-- the first x ticks are those of the draft -/
def oCd (x : Int32) (s : oS) : Prop := ∀ j : Nat, j < x.toNatClampNeg → s.1 100 j = s.1 100 (24 + j)
theorem oCd_0 {x : Int32} {s : oS} (h : x.toInt = 0) : oCd x s := fun j hj => by
  have e := n_nat x
  omega
theorem oCd_fr {M : List (Nat × Nat)} {x : Int32} {s u : oS} (hf : oFr M s u) (hm : oinK M 76 = false) (h : oCd x s) : oCd x u := fun j hj => by
  rw [(hf 100 j (oinK_in hm j)).1, (hf 100 (24 + j) (oinK_in hm _)).1]
  exact h j hj
theorem oCd_step {x y w : Int32} {s : oS} (h : oCd x s) (h0 : 0 ≤ x.toInt ∧ x.toInt < 24) (hy : y.toInt = x.toInt + 1) (hw : s.1 100 (24 + x.toNatClampNeg) = w) : oCd y (pI s 100 x.toNatClampNeg w) := fun j hj => by
  have e1 := n_nat x
  have e2 := n_nat y
  by_cases hjx : j = x.toNatClampNeg
  · rw [hjx, pI_self, pI_ne s w (Or.inr (by omega)), hw]
  · rw [pI_ne s w (Or.inr hjx), pI_ne s w (Or.inr (by omega))]
    exact h j (by omega)
theorem oLT_ofD {x : Int32} {s : oS} (h : oCd x s) (hd : oDT s) (hb : (s.1 71 5).toInt = 0) (hx : x.toInt = (s.1 71 37).toInt) (hn : (s.1 71 38).toInt = (s.1 71 37).toInt) : oLT s := by
  have e1 := n_nat x
  have e2 := n_nat (s.1 71 37)
  have e3 := n_nat (s.1 71 38)
  have e4 : (s.1 71 38).toNatClampNeg = (s.1 71 37).toNatClampNeg := by omega
  have e5 : x.toNatClampNeg = (s.1 71 37).toNatClampNeg := by omega
  obtain ⟨h1, h2⟩ := hd hb
  unfold oLT
  unfold oCd at h
  rw [e5] at h
  rw [e4]
  exact ⟨by rw [oSm_congr (g := fun j => s.1 100 (24 + j)) h]; exact h1, fun k hk => by rw [h k hk]; exact h2 k hk⟩
theorem oLT_hi {s : oS} {x w : Int32} (h : oLT s) (h0 : 0 ≤ (s.1 71 38).toInt ∧ (s.1 71 38).toInt ≤ 24) (hx : 24 ≤ x.toInt) : oLT (pI s 100 x.toNatClampNeg w) := by
  have e1 := n_nat x
  have e2 := n_nat (s.1 71 38)
  have e3 : (pI s 100 x.toNatClampNeg w).1 71 38 = s.1 71 38 := pI_ne s w (Or.inl (by decide))
  have e4 : ∀ k, k < (s.1 71 38).toNatClampNeg → (pI s 100 x.toNatClampNeg w).1 100 k = s.1 100 k := fun k hk => pI_ne s w (Or.inr (by omega))
  unfold oLT
  rw [e3]
  exact ⟨by rw [oSm_congr e4]; exact h.1, fun k hk => by rw [e4 k hk]; exact h.2 k hk⟩
/-- the tape tells an image -/
def oTT (s : oS) : Prop := (s.1 72 0).toInt ≤ 24 ∧ oSm (fun j => s.1 72 (2 + 2 * j)) (s.1 72 0).toNatClampNeg ≤ 96 ∧ ∀ j : Nat, j < (s.1 72 0).toNatClampNeg → 1 ≤ (s.1 72 (2 + 2 * j)).toInt
theorem oTT_fr {M : List (Nat × Nat)} {s u : oS} (hf : oFr M s u) (hm : oinK M (okd 72) = false) (h : oTT s) : oTT u := by
  have e2 : u.1 72 = s.1 72 := by funext k; exact (hf 72 k (oinK_in hm k)).1
  unfold oTT
  rw [e2]
  exact h
def oTs (x : Int32) (s : oS) : Prop := ∀ j : Nat, j < x.toNatClampNeg → 1 ≤ (s.1 72 (2 + 2 * j)).toInt
theorem oTs_0 {x : Int32} {s : oS} (h : x.toInt = 0) : oTs x s := fun j hj => by
  have e := n_nat x
  omega
theorem oTs_step {x y : Int32} {s : oS} (h : oTs x s) (h0 : 0 ≤ x.toInt) (hy : y.toInt = x.toInt + 1) (hw : 1 ≤ (s.1 72 (2 + 2 * x.toNatClampNeg)).toInt) : oTs y s := fun j hj => by
  have e1 := n_nat x
  have e2 := n_nat y
  by_cases hjx : j = x.toNatClampNeg
  · rw [hjx]; exact hw
  · exact h j (by omega)
theorem oSt_succ {s : oS} {x y : Int32} (h0 : 0 ≤ x.toInt) (h : y.toInt = x.toInt + 1) : oSm (fun j => s.1 72 (2 + 2 * j)) y.toNatClampNeg = oSm (fun j => s.1 72 (2 + 2 * j)) x.toNatClampNeg + (s.1 72 (2 + 2 * x.toNatClampNeg)).toInt := by
  have e1 := n_nat x
  have e2 := n_nat y
  have e4 : y.toNatClampNeg = x.toNatClampNeg + 1 := by omega
  rw [e4]
  rfl
theorem oIx72 {s : oS} {i x w : Int32} (h : s.1 72 i.toNatClampNeg = w) (h0 : 0 ≤ x.toInt) (hi : i.toInt = 2 + 2 * x.toInt) : s.1 72 (2 + 2 * x.toNatClampNeg) = w := by
  have e1 := n_nat x
  have e3 := n_nat i
  rw [← h, show 2 + 2 * x.toNatClampNeg = i.toNatClampNeg by omega]
theorem oIx24 {s : oS} {i x w : Int32} (h : s.1 100 i.toNatClampNeg = w) (h0 : 0 ≤ x.toInt) (hi : i.toInt = 24 + x.toInt) : s.1 100 (24 + x.toNatClampNeg) = w := by
  have e1 := n_nat x
  have e3 := n_nat i
  rw [← h, show 24 + x.toNatClampNeg = i.toNatClampNeg by omega]
theorem oIx0 {s : oS} {i w : Int32} {a : Nat} (h : s.1 a i.toNatClampNeg = w) (h0 : i.toInt = 0) : (s.1 a 0).toInt = w.toInt := by
  have e3 := n_nat i
  rw [← h, show i.toNatClampNeg = 0 by omega]
/-- as many notes as the tape's first byte says -/
def oN0 (s : oS) : Prop := (s.1 71 38).toInt = (s.1 72 0).toInt
theorem oN0_fr {M : List (Nat × Nat)} {s u : oS} (hf : oFr M s u) (hm : (oin M 12 38 || oinK M (okd 72)) = false) (h : oN0 s) : oN0 u := by
  simp only [Bool.or_eq_false_iff] at hm
  have e1 : u.1 71 38 = s.1 71 38 := (hf 71 38 hm.1).1
  have e2 : u.1 72 0 = s.1 72 0 := (hf 72 0 (oinK_in hm.2 0)).1
  unfold oN0
  rw [e1, e2]
  exact h
theorem oN0_put {s : oS} {v : Int32} (h : (s.1 72 0).toInt = v.toInt) : oN0 (pI s 71 38 v) := by
  unfold oN0
  rw [pI_self, pI_ne s v (Or.inl (by decide)), h]
theorem oTT_of {s : oS} {x : Int32} (h : oTs x s) (hx : x.toInt = (s.1 72 0).toInt) (h24 : (s.1 72 0).toInt ≤ 24) (hs : oSm (fun j => s.1 72 (2 + 2 * j)) x.toNatClampNeg ≤ 96) : oTT s := by
  have e1 := n_nat x
  have e2 := n_nat (s.1 72 0)
  have e3 : x.toNatClampNeg = (s.1 72 0).toNatClampNeg := by omega
  unfold oTs at h
  rw [e3] at h hs
  exact ⟨h24, hs, h⟩
/-- the first x ticks are those of the image -/
def oTc (x : Int32) (s : oS) : Prop := ∀ j : Nat, j < x.toNatClampNeg → s.1 100 j = s.1 72 (2 + 2 * j)
theorem oTc_0 {x : Int32} {s : oS} (h : x.toInt = 0) : oTc x s := fun j hj => by
  have e := n_nat x
  omega
theorem oTc_fr {M : List (Nat × Nat)} {x : Int32} {s u : oS} (hf : oFr M s u) (hm : (oinK M 76 || oinK M (okd 72)) = false) (h : oTc x s) : oTc x u := fun j hj => by
  simp only [Bool.or_eq_false_iff] at hm
  rw [(hf 100 j (oinK_in hm.1 j)).1, (hf 72 _ (oinK_in hm.2 _)).1]
  exact h j hj
theorem oTc_step {x y w : Int32} {s : oS} (h : oTc x s) (h0 : 0 ≤ x.toInt) (hy : y.toInt = x.toInt + 1) (hw : s.1 72 (2 + 2 * x.toNatClampNeg) = w) : oTc y (pI s 100 x.toNatClampNeg w) := fun j hj => by
  have e1 := n_nat x
  have e2 := n_nat y
  rw [pI_ne s w (a := 72) (Or.inl (by decide))]
  by_cases hjx : j = x.toNatClampNeg
  · rw [hjx, pI_self, hw]
  · rw [pI_ne s w (Or.inr hjx)]
    exact h j (by omega)
theorem oLT_ofT {x : Int32} {s : oS} (h : oTc x s) (hd : oTT s) (hx : x.toInt = (s.1 71 38).toInt) (hn : (s.1 71 38).toInt = (s.1 72 0).toInt) : oLT s := by
  have e1 := n_nat x
  have e2 := n_nat (s.1 71 38)
  have e3 := n_nat (s.1 72 0)
  have e4 : (s.1 71 38).toNatClampNeg = (s.1 72 0).toNatClampNeg := by omega
  have e5 : x.toNatClampNeg = (s.1 72 0).toNatClampNeg := by omega
  obtain ⟨h0, h1, h2⟩ := hd
  unfold oLT
  unfold oTc at h
  rw [e5] at h
  rw [e4]
  exact ⟨by rw [oSm_congr (g := fun j => s.1 72 (2 + 2 * j)) h]; exact h1, fun k hk => by rw [h k hk]; exact h2 k hk⟩
def oP0 (x : Int64) : Int := if 0 < x.toInt then x.toInt else 0
theorem oP0_f (x : Int64) : (0 < x.toInt ∧ oP0 x = x.toInt) ∨ (x.toInt ≤ 0 ∧ oP0 x = 0) := by
  unfold oP0
  by_cases h : 0 < x.toInt
  · left; exact ⟨h, if_pos h⟩
  · right; exact ⟨by omega, if_neg h⟩
