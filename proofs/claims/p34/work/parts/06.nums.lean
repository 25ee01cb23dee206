theorem n_rng (x : Int32) : -2147483648 ≤ x.toInt ∧ x.toInt ≤ 2147483647 := by
  have h1 := Int32.le_toInt x
  have h2 := Int32.toInt_lt x
  omega
theorem n_bm {t : Int} (h1 : -2147483648 ≤ t) (h2 : t ≤ 2147483647) : t.bmod (2 ^ 32) = t := by
  rw [Int.bmod_def]
  split <;> omega
theorem n_add {x y z : Int32} (h : z = x + y) (h1 : -2147483648 ≤ x.toInt + y.toInt) (h2 : x.toInt + y.toInt ≤ 2147483647) : z.toInt = x.toInt + y.toInt := by
  rw [h, Int32.toInt_add]
  exact n_bm h1 h2
theorem n_sub {x y z : Int32} (h : z = x - y) (h1 : -2147483648 ≤ x.toInt - y.toInt) (h2 : x.toInt - y.toInt ≤ 2147483647) : z.toInt = x.toInt - y.toInt := by
  rw [h, Int32.toInt_sub]
  exact n_bm h1 h2
theorem n_mul {x y z : Int32} (h : z = x * y) (h1 : -2147483648 ≤ x.toInt * y.toInt) (h2 : x.toInt * y.toInt ≤ 2147483647) : z.toInt = x.toInt * y.toInt := by
  rw [h, Int32.toInt_mul]
  exact n_bm h1 h2
theorem n_mulK {x y z : Int32} (k : Int) (h : z = x * y) (hy : y.toInt = k) (h1 : -2147483648 ≤ x.toInt * k) (h2 : x.toInt * k ≤ 2147483647) : z.toInt = x.toInt * k := by
  have := n_mul h (by rw [hy]; exact h1) (by rw [hy]; exact h2)
  rw [this, hy]
theorem n_mulK' {x y z : Int32} (k : Int) (h : z = x * y) (hx : x.toInt = k) (h1 : -2147483648 ≤ k * y.toInt) (h2 : k * y.toInt ≤ 2147483647) : z.toInt = k * y.toInt := by
  have := n_mul h (by rw [hx]; exact h1) (by rw [hx]; exact h2)
  rw [this, hx]
theorem n_neg {x z : Int32} (h : z = -x) (h1 : -2147483647 ≤ x.toInt) : z.toInt = -x.toInt := by
  rw [h, Int32.toInt_neg]
  have := n_rng x
  exact n_bm (by omega) (by omega)
theorem n_inc {x z : Int32} {k : Int} {n : Int} (h : x + Int32.ofInt n = z) (hk : (Int32.ofInt n).toInt = k) (h1 : -2147483648 ≤ x.toInt + k) (h2 : x.toInt + k ≤ 2147483647) : z.toInt = x.toInt + k := by
  have := n_add h.symm (by rw [hk]; exact h1) (by rw [hk]; exact h2)
  rw [this, hk]
theorem n_ne0 {y : Int32} (h : y.toInt ≠ 0) : ¬ y = 0 := fun z => h (by rw [z]; rfl)
theorem n_div {x y z : Int32} {k : Int} (h : z = x / y) (hy : y.toInt = k) (hk : 1 ≤ k) : z.toInt = x.toInt.tdiv k := by
  have h1 := n_rng x
  rw [h, Int32.toInt_div, hy]
  have h3 : x.toInt.tdiv k = if 0 ≤ x.toInt then x.toInt / k else -((-x.toInt) / k) := by
    split
    · rw [Int.tdiv_eq_ediv_of_nonneg (by assumption)]
    · have : x.toInt = -(-x.toInt) := by omega
      rw [this, Int.neg_tdiv, Int.tdiv_eq_ediv_of_nonneg (by omega)]
      simp
  have h4 : ∀ t : Int, 0 ≤ t → t / k ≤ t ∧ 0 ≤ t / k := fun t ht => ⟨Int.ediv_le_self k ht, Int.ediv_nonneg ht (by omega)⟩
  rw [h3]
  split
  · have := h4 x.toInt (by assumption)
    exact n_bm (by omega) (by omega)
  · have := h4 (-x.toInt) (by omega)
    exact n_bm (by omega) (by omega)
theorem n_divP {x y z : Int32} {k : Int} (h : z = x / y) (hy : y.toInt = k) (hk : 1 ≤ k) : (0 ≤ x.toInt → z.toInt = x.toInt / k) ∧ (x.toInt < 0 → z.toInt = -((-x.toInt) / k)) := by
  have h1 := n_div h hy hk
  refine ⟨fun h2 => by rw [h1, Int.tdiv_eq_ediv_of_nonneg h2], fun h2 => ?_⟩
  have : x.toInt = -(-x.toInt) := by omega
  rw [h1, this, Int.neg_tdiv, Int.tdiv_eq_ediv_of_nonneg (by omega)]
  simp
theorem n_rem {x y z : Int32} {k : Int} (h : z = x - x / y * y) (hy : y.toInt = k) (hk : 1 ≤ k) : (0 ≤ x.toInt → z.toInt = x.toInt % k) ∧ (x.toInt < 0 → z.toInt = -((-x.toInt) % k)) := by
  obtain ⟨q, hq⟩ : ∃ q, q = x / y := ⟨_, rfl⟩
  obtain ⟨t, ht⟩ : ∃ t, t = q * y := ⟨_, rfl⟩
  obtain ⟨hp, hn⟩ := n_divP hq hy hk
  have hx := n_rng x
  rw [← hq, ← ht] at h
  have key : ∀ a : Int, 0 ≤ a → k * (a / k) + a % k = a ∧ 0 ≤ a % k ∧ 0 ≤ k * (a / k) := fun a ha => ⟨Int.mul_ediv_add_emod a k, Int.emod_nonneg a (by omega), Int.mul_nonneg (by omega) (Int.ediv_nonneg ha (by omega))⟩
  refine ⟨fun h0 => ?_, fun h0 => ?_⟩
  · obtain ⟨k1, k2, k3⟩ := key x.toInt h0
    have e1 : q.toInt * y.toInt = k * (x.toInt / k) := by rw [hp h0, hy, Int.mul_comm]
    have e2 := n_mul ht (by rw [e1]; omega) (by rw [e1]; omega)
    rw [e1] at e2
    have e3 := n_sub h (by rw [e2]; omega) (by rw [e2]; omega)
    omega
  · obtain ⟨k1, k2, k3⟩ := key (-x.toInt) (by omega)
    have e1 : q.toInt * y.toInt = -(k * ((-x.toInt) / k)) := by rw [hn h0, hy, Int.mul_comm, Int.mul_neg]
    have e2 := n_mul ht (by rw [e1]; omega) (by rw [e1]; omega)
    rw [e1] at e2
    have e3 := n_sub h (by rw [e2]; omega) (by rw [e2]; omega)
    omega
theorem n_bool {x : Int32} (h : x.toInt = 0 ∨ x.toInt = 1) : narrow .boolean (.int x) = .int x := by
  rcases h with h | h
  · have : x = 0 := Int32.toInt_inj.mp (by rw [h]; rfl)
    subst this; rfl
  · have : x = 1 := Int32.toInt_inj.mp (by rw [h]; rfl)
    subst this; rfl
theorem okd_ne {a b p q : Nat} (h1 : okd a = p) (h2 : okd b = q) (h : p ≠ q) : a ≠ b := fun e => h (by rw [← h1, e, h2])
theorem n_eq {x : Int32} {k : Int32} (h : x.toInt = k.toInt) : x = k := Int32.toInt_inj.mp h
