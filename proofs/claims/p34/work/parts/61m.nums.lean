/-! numbers of the tests, as both machines reckon them -/
theorem oqFlr_t {x y q r : Int} (hy : y ≠ 0) (hq : q = x.tdiv y) (h1 : (x < 0 ↔ y < 0) ∨ q * y = x → r = q) (h2 : ¬ (x < 0 ↔ y < 0) → q * y ≠ x → r = q - 1) : r = oqFlr x y := by
  unfold oqFlr
  rw [if_neg hy, Int.fdiv_eq_tdiv, ← hq]
  by_cases hd : y ∣ x
  · rw [if_pos hd, h1 (Or.inr (by rw [hq]; exact Int.tdiv_mul_cancel hd))]
    omega
  · rw [if_neg hd]
    have hn : q * y ≠ x := fun e => hd ⟨q, by rw [Int.mul_comm]; exact e.symm⟩
    by_cases hx : 0 ≤ x
    · rw [if_pos hx]
      by_cases h0 : 0 ≤ y
      · rw [if_pos h0, h1 (Or.inl (by omega))]
        omega
      · rw [if_neg h0, h2 (by omega) hn]
    · rw [if_neg hx]
      by_cases h0 : 0 ≤ y
      · rw [if_pos h0, Int.sign_eq_one_of_pos (by omega), h2 (by omega) hn]
      · rw [if_neg h0, Int.sign_eq_neg_one_of_neg (by omega), h1 (Or.inl (by omega))]
        omega
theorem oqTdv_b {x y : Int} : (x.tdiv y).natAbs ≤ x.natAbs ∧ (x.tdiv y * y).natAbs ≤ x.natAbs := by
  rw [Int.natAbs_mul, Int.natAbs_tdiv]
  exact ⟨Nat.div_le_self _ _, Nat.div_mul_le_self _ _⟩
theorem n_divV {x y z : Int32} (h : z = x / y) (h1 : -1000000 ≤ x.toInt) (h2 : x.toInt ≤ 1000000) : z.toInt = x.toInt.tdiv y.toInt := by
  have hb := (oqTdv_b (x := x.toInt) (y := y.toInt)).1
  rw [h, Int32.toInt_div, Int.bmod_def]
  split <;> omega
theorem n_mulQ {q x y z : Int32} (h : z = q * y) (hq : q.toInt = x.toInt.tdiv y.toInt) (h1 : -1000000 ≤ x.toInt) (h2 : x.toInt ≤ 1000000) : z.toInt = x.toInt.tdiv y.toInt * y.toInt := by
  have hb := (oqTdv_b (x := x.toInt) (y := y.toInt)).2
  rw [h, Int32.toInt_mul, hq]
  generalize x.toInt.tdiv y.toInt * y.toInt = k at hb ⊢
  rw [Int.bmod_def]
  split <;> omega
theorem n_ldivV {x y z : Int64} (h : z = x / y) (h1 : -1000000 ≤ x.toInt) (h2 : x.toInt ≤ 1000000) : z.toInt = x.toInt.tdiv y.toInt := by
  have hb := (oqTdv_b (x := x.toInt) (y := y.toInt)).1
  rw [h, Int64.toInt_div]
  exact n_bm64 (by omega) (by omega)
theorem n_lremV {x y z : Int64} (h : z = x - x / y * y) (h1 : -1000000 ≤ x.toInt) (h2 : x.toInt ≤ 1000000) : z.toInt = x.toInt - x.toInt.tdiv y.toInt * y.toInt := by
  have hb := (oqTdv_b (x := x.toInt) (y := y.toInt)).2
  have q := n_ldivV (z := x / y) rfl h1 h2
  have m : (x / y * y).toInt = x.toInt.tdiv y.toInt * y.toInt := by
    rw [Int64.toInt_mul, q]
    generalize x.toInt.tdiv y.toInt * y.toInt = k at hb ⊢
    exact n_bm64 (by omega) (by omega)
  have r := n_lsub (x := x) (y := x / y * y) h (by rw [m]; generalize x.toInt.tdiv y.toInt * y.toInt = k at hb ⊢; omega) (by rw [m]; generalize x.toInt.tdiv y.toInt * y.toInt = k at hb ⊢; omega)
  rw [r, m]
theorem oqMul_b {a b : Int} (ha : -1000000 ≤ a ∧ a ≤ 1000000) (hb : -1000000 ≤ b ∧ b ≤ 1000000) : -1000000000000 ≤ a * b ∧ a * b ≤ 1000000000000 := by
  have h : (a * b).natAbs ≤ 1000000 * 1000000 := by
    rw [Int.natAbs_mul]
    exact Nat.mul_le_mul (by omega) (by omega)
  omega
theorem n_lmulB {x y z : Int64} (h : z = x * y) (ha : -1000000 ≤ x.toInt ∧ x.toInt ≤ 1000000) (hb : -1000000 ≤ y.toInt ∧ y.toInt ≤ 1000000) : z.toInt = x.toInt * y.toInt := by
  have := oqMul_b ha hb
  exact n_lmul h (by omega) (by omega)
theorem oqBit {x : Int32} (h : x.toInt = 0 ∨ x.toInt = 1) : x = 0 ∨ x = 1 := by
  rcases h with h | h
  · exact Or.inl (n_eq (by rw [h]; rfl))
  · exact Or.inr (n_eq (by rw [h]; rfl))
theorem oqOr01 {x y z : Int32} (h : z = x ||| y) (hx : x.toInt = 0 ∨ x.toInt = 1) (hy : y.toInt = 0 ∨ y.toInt = 1) : z.toInt = oqJn 15 x.toInt y.toInt := by
  rcases oqBit hx with e | e <;> rcases oqBit hy with e2 | e2 <;> (subst h e e2; decide)
theorem oqAnd01 {x y z : Int32} (h : z = x &&& y) (hx : x.toInt = 0 ∨ x.toInt = 1) (hy : y.toInt = 0 ∨ y.toInt = 1) : z.toInt = oqJn 14 x.toInt y.toInt := by
  rcases oqBit hx with e | e <;> rcases oqBit hy with e2 | e2 <;> (subst h e e2; decide)
def oqJo (t : Int) : Prop := (1 ≤ t ∧ t ≤ 6) ∨ (11 ≤ t ∧ t ≤ 15)
theorem oqTau_iv {t v : Int} (h : oqJo t) (hv : v = oqTau t) : (v = 10021 → t = 15) ∧ (v = 10022 → t = 14) ∧ (10023 ≤ v → v ≤ 10025 → t = v - 10012) ∧ (10026 ≤ v → v ≤ 10031 → t = v - 10025) ∧ 10021 ≤ v ∧ v ≤ 10031 := by
  unfold oqJo at h
  unfold oqTau at hv
  rw [if_neg (by omega), if_neg (by omega), if_neg (by omega), if_neg (by omega)] at hv
  by_cases h15 : t = 15
  · rw [if_pos h15] at hv; omega
  · rw [if_neg h15] at hv
    by_cases h14 : t = 14
    · rw [if_pos h14] at hv; omega
    · rw [if_neg h14] at hv
      by_cases h11 : 11 ≤ t
      · rw [if_pos h11] at hv; omega
      · rw [if_neg h11] at hv; omega
theorem oqJn_1 {a b : Int} : oqJn 1 a b = oqClp (a + b) := by
  unfold oqJn
  rw [if_pos rfl]
theorem oqJn_2 {a b : Int} : oqJn 2 a b = oqClp (a - b) := by
  unfold oqJn
  rw [if_neg (by decide), if_pos rfl]
theorem oqJn_3 {a b : Int} : oqJn 3 a b = oqClp (a * b) := by
  unfold oqJn
  rw [if_neg (by decide), if_neg (by decide), if_pos rfl]
theorem oqJn_4 {a b : Int} : oqJn 4 a b = oqFlr a b := rfl
theorem oqJn_5 {a b : Int} : oqJn 5 a b = if a ≤ b then a else b := rfl
theorem oqJn_6 {a b : Int} : oqJn 6 a b = if a ≤ b then b else a := rfl
theorem oqJn_11 {a b : Int} : oqJn 11 a b = if a < b then 1 else 0 := rfl
theorem oqJn_12 {a b : Int} : oqJn 12 a b = if b < a then 1 else 0 := rfl
theorem oqJn_13 {a b : Int} : oqJn 13 a b = if a = b then 1 else 0 := rfl
theorem oqJn_e14 {a b : Int} : oqJn 14 a b = a * b := rfl
theorem oqJn_e15 {a b : Int} : oqJn 15 a b = if 0 < a + b then 1 else 0 := rfl
theorem oqClp_1 {v : Int} (h : 1000000 < v) : oqClp v = 1000000 := if_pos h
theorem oqClp_2 {v : Int} (h : v < -1000000) : oqClp v = -1000000 := (if_neg (by omega)).trans (if_pos h)
theorem oqClp_3 {v : Int} (h1 : -1000000 ≤ v) (h2 : v ≤ 1000000) : oqClp v = v := (if_neg (by omega)).trans (if_neg (by omega))
theorem n_l2j {x : Int64} {z : Int32} (h : x.toInt32 = z) (h1 : -2147483648 ≤ x.toInt) (h2 : x.toInt ≤ 2147483647) : z.toInt = x.toInt := by
  rw [← h, Int64.toInt_toInt32, Int.bmod_def]
  split <;> omega
