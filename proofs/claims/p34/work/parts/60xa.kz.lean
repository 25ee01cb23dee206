/-! a fault is never 0 -/
def oqOk9 (c : oqCf) : Prop := c.1 = 9 → c.2.2.1 ≠ 0
section KZ
variable {g : Int → Int} {p q : Int}
theorem oqOk9_4 {a : Int} : oqOk9 (9, a, 4, 0, []) := fun _ => show (4 : Int) ≠ 0 by decide
theorem oqOk9_1 {a : Int} : oqOk9 (9, a, 1, 0, []) := fun _ => show (1 : Int) ≠ 0 by decide
theorem oqOk9_k {a k : Int} (h : k ≠ 0) : oqOk9 (9, a, k, 0, []) := fun _ => h
theorem oqOk9_n {m : Nat} {a b o : Int} {K : List Nat} (h : m ≠ 9) : oqOk9 (m, a, b, o, K) := fun h9 => absurd h9 h
theorem oqP0_9 {a b o : Int} {K : List Nat} : oqOk9 (oqP0 g a b o K) := by
  unfold oqP0
  repeat' split
  all_goals first | exact oqOk9_4 | exact oqOk9_n (by decide)
theorem oqP1_9 {a b o : Int} {K : List Nat} : oqOk9 (oqP1 g p q a b o K) := by
  unfold oqP1
  repeat' split
  all_goals first | exact oqOk9_4 | exact oqOk9_1 | exact oqOk9_k (by assumption) | exact oqOk9_n (by decide)
theorem oqP3_9 {a b o : Int} : ∀ {K : List Nat}, oqOk9 (oqP3 g a b o K) := fun {K} => by
  unfold oqP3
  repeat' split
  all_goals first | exact oqOk9_1 | exact oqOk9_n (by decide)
theorem oqP2e_9 {a b o : Int} {K : List Nat} : oqOk9 (oqP2e g a b o K) := by
  unfold oqP2e
  repeat' split
  all_goals first | exact oqOk9_1 | exact oqOk9_n (by decide)
theorem oqP2m_9 {a b o : Int} {K : List Nat} : oqOk9 (oqP2m g a b o K) := by
  unfold oqP2m
  repeat' split
  all_goals first | exact oqP2e_9 | exact oqOk9_n (by decide)
theorem oqP2_9 {a b o : Int} {K : List Nat} : oqOk9 (oqP2 g a b o K) := by
  unfold oqP2
  repeat' split
  all_goals first | exact oqP2m_9 | exact oqOk9_n (by decide)
theorem oqPs_9 {c : oqCf} (h : oqOk9 c) : oqOk9 (oqPs g p q c) := by
  unfold oqPs
  by_cases h0 : c.1 = 0
  · rw [if_pos h0]; exact oqP0_9
  · rw [if_neg h0]
    by_cases h1 : c.1 = 1
    · rw [if_pos h1]; exact oqP1_9
    · rw [if_neg h1]
      by_cases h2 : c.1 = 2
      · rw [if_pos h2]; exact oqP2_9
      · rw [if_neg h2]
        by_cases h3 : c.1 = 3
        · rw [if_pos h3]
          by_cases h4 : oqOp g c.2.1
          · rw [if_pos h4]; exact oqOk9_n (by decide)
          · rw [if_neg h4]; exact oqP3_9
        · rw [if_neg h3]; exact h
theorem oqIt_9 : ∀ (n : Nat) {c : oqCf}, oqOk9 c → oqOk9 (oqIt g p q n c)
  | 0, _, h => h
  | n + 1, c, h => oqIt_9 n (c := oqPs g p q c) (oqPs_9 h)
theorem oqFn_k {a b o k pl : Int} (h : oqFn g p q a b o k pl) : k ≠ 0 := by
  obtain ⟨n, e⟩ := h [] oqNN_0
  have h9 := oqIt_9 (g := g) (p := p) (q := q) n (c := (0, a, b, o, [])) (oqOk9_n (by decide))
  rw [e] at h9
  exact h9 rfl
end KZ
