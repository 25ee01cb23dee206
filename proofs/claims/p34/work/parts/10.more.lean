theorem n_and {x y z : Int32} (h : z = x &&& y) : (0 ≤ y.toInt → 0 ≤ z.toInt ∧ z.toInt ≤ y.toInt) ∧ (0 ≤ x.toInt → 0 ≤ z.toInt ∧ z.toInt ≤ x.toInt) := by
  have key : ∀ a b : Int32, 0 ≤ b.toInt → 0 ≤ (a &&& b).toInt ∧ (a &&& b).toInt ≤ b.toInt := fun a b hb => by
    have hb2 : b.toBitVec.toInt = b.toInt := rfl
    have hm : b.toBitVec.msb = false := by
      rw [BitVec.msb_eq_toInt]
      simp
      omega
    have e1 : (a &&& b).toInt = ((a &&& b).toBitVec).toInt := rfl
    rw [e1, Int32.toBitVec_and]
    have hm2 : (a.toBitVec &&& b.toBitVec).msb = false := by simp [hm]
    rw [BitVec.toInt_eq_toNat_of_msb hm2, ← hb2, BitVec.toInt_eq_toNat_of_msb hm, BitVec.toNat_and]
    have := Nat.and_le_right (n := a.toBitVec.toNat) (m := b.toBitVec.toNat)
    omega
  refine ⟨fun hy => by rw [h]; exact key x y hy, fun hx => ?_⟩
  rw [h, Int32.and_comm]
  exact key y x hx
theorem n_i2l {x : Int32} {z : Int64} (h : x.toInt64 = z) : z.toInt = x.toInt := by
  rw [← h]
  exact Int32.toInt_toInt64 x
theorem n_lcmp {x y : Int64} {z : Int32} (h : z = lg_cmp x y) : (z.toInt < 0 ↔ x.toInt < y.toInt) ∧ (z.toInt = 0 ↔ x.toInt = y.toInt) ∧ (0 < z.toInt ↔ y.toInt < x.toInt) := by
  unfold lg_cmp at h
  by_cases h1 : x > y
  · have g : y.toInt < x.toInt := Int64.lt_iff_toInt_lt.mp h1
    rw [if_pos h1] at h
    have e : z.toInt = 1 := by rw [h]; rfl
    omega
  · have n1 : ¬ y.toInt < x.toInt := fun w => h1 (Int64.lt_iff_toInt_lt.mpr w)
    rw [if_neg h1] at h
    by_cases h2 : x = y
    · rw [if_pos h2] at h
      have e : z.toInt = 0 := by rw [h]; rfl
      rw [h2]
      omega
    · have n2 : ¬ x.toInt = y.toInt := fun w => h2 (Int64.toInt_inj.mp w)
      rw [if_neg h2] at h
      have e : z.toInt = -1 := by rw [h]; rfl
      omega
theorem n_ofNat {n : Nat} {z : Int32} (h : Int32.ofNat n = z) (hn : n < 2147483648) : z.toInt = (n : Int) := by
  rw [← h]
  exact nI_toInt (by omega)
theorem n_nar {x : Int32} (h : x.toInt = 0 ∨ x.toInt = 1) : vp_nar .boolean x = x := by
  rcases h with h | h
  · have : x = 0 := Int32.toInt_inj.mp (by rw [h]; rfl)
    subst this; rfl
  · have : x = 1 := Int32.toInt_inj.mp (by rw [h]; rfl)
    subst this; rfl
theorem kr4_1 {c : Nat} (h : okd c = 4) : okd (c + 1) = 16 := (by decide +kernel : ∀ c : Nat, c < oN → okd c = 4 → okd (c + 1) = 16) c (okd_lt h (by decide)) h
theorem kr4_2 {c : Nat} (h : okd c = 4) : okd (c + 2) = 17 := (by decide +kernel : ∀ c : Nat, c < oN → okd c = 4 → okd (c + 2) = 17) c (okd_lt h (by decide)) h
theorem kr4_3 {c : Nat} (h : okd c = 4) : okd (c + 3) = 18 := (by decide +kernel : ∀ c : Nat, c < oN → okd c = 4 → okd (c + 3) = 18) c (okd_lt h (by decide)) h
theorem kr4_4 {c : Nat} (h : okd c = 4) : okd (c + 4) = 19 := (by decide +kernel : ∀ c : Nat, c < oN → okd c = 4 → okd (c + 4) = 19) c (okd_lt h (by decide)) h
theorem kr0_1 {c : Nat} (h : okd c = 0) : okd (c + 1) = 20 := (by decide +kernel : ∀ c : Nat, c < oN → okd c = 0 → okd (c + 1) = 20) c (okd_lt h (by decide)) h
theorem kr0_2 {c : Nat} (h : okd c = 0) : okd (c + 2) = 21 := (by decide +kernel : ∀ c : Nat, c < oN → okd c = 0 → okd (c + 2) = 21) c (okd_lt h (by decide)) h
theorem kr0_3 {c : Nat} (h : okd c = 0) : okd (c + 3) = 22 := (by decide +kernel : ∀ c : Nat, c < oN → okd c = 0 → okd (c + 3) = 22) c (okd_lt h (by decide)) h
theorem kr0_4 {c : Nat} (h : okd c = 0) : okd (c + 4) = 23 := (by decide +kernel : ∀ c : Nat, c < oN → okd c = 0 → okd (c + 4) = 23) c (okd_lt h (by decide)) h
theorem kr0_5 {c : Nat} (h : okd c = 0) : okd (c + 5) = 24 := (by decide +kernel : ∀ c : Nat, c < oN → okd c = 0 → okd (c + 5) = 24) c (okd_lt h (by decide)) h
theorem kr6_1 {c : Nat} (h : okd c = 6) : okd (c + 1) = 46 := (by decide +kernel : ∀ c : Nat, c < oN → okd c = 6 → okd (c + 1) = 46) c (okd_lt h (by decide)) h
theorem kr6_2 {c : Nat} (h : okd c = 6) : okd (c + 2) = 47 := (by decide +kernel : ∀ c : Nat, c < oN → okd c = 6 → okd (c + 2) = 47) c (okd_lt h (by decide)) h
theorem kr6_3 {c : Nat} (h : okd c = 6) : okd (c + 3) = 9 := (by decide +kernel : ∀ c : Nat, c < oN → okd c = 6 → okd (c + 3) = 9) c (okd_lt h (by decide)) h
theorem ks0 : ∀ x, x ∈ ost 0 → okd x = 4 := by decide +kernel
theorem ks1 : ∀ x, x ∈ ost 1 → okd x = 0 := by decide +kernel
theorem oRok_S {a q k j b : Nat} (hq : okd a = q) (hm : ort q k = (2, j)) (h : b ∈ ost j) : oRok a k (b + 1) := by
  unfold oRok
  rw [hq, hm]
  exact ⟨b, h, rfl⟩
