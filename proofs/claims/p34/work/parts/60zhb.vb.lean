theorem oqVf_b {f : Nat → Int} : ∀ {k : Nat}, (∀ i, i < k → 1 ≤ f i ∧ f i ≤ 26) → 0 ≤ oqVf f k ∧ oqVf f k < 27 ^ k
  | 0, _ => ⟨Int.le_refl 0, by show (0 : Int) < 27 ^ 0; decide⟩
  | k + 1, h => by
    have h1 := oqVf_b (k := k) (fun i hi => h i (by omega))
    have h2 := h k (by omega)
    rw [oqVf_y (by omega), Int.pow_succ]
    omega
theorem oqVa6_b {g : Int → Int} {A n b : Int} (h : oqRun g A b) (hb : b = A + n) (h0 : 0 ≤ n) (h6 : n ≤ 6) : 0 ≤ oqVa6 g A n ∧ oqVa6 g A n ≤ 387420488 := by
  have h1 := oqVf_b (f := fun k => g (A + k) - 96) (k := n.toNat) (fun i hi => by
    have h2 := h (A + i) (by omega) (by omega)
    show 1 ≤ g (A + i) - 96 ∧ g (A + i) - 96 ≤ 26
    omega)
  have h7 : n.toNat = 0 ∨ n.toNat = 1 ∨ n.toNat = 2 ∨ n.toNat = 3 ∨ n.toNat = 4 ∨ n.toNat = 5 ∨ n.toNat = 6 := by omega
  have h8 : (27 : Int) ^ n.toNat ≤ 387420489 := by
    rcases h7 with e | e | e | e | e | e | e <;> (rw [e]; decide)
  unfold oqVa6
  omega
