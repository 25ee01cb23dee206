/-- how far the least was sought: n is the next -/
def owSq (R : Int) (W : Nat → List Int) (me c r n v : Int) : Prop := (v = -1 ∧ ∀ m : Int, 2 ≤ m → m < n → owMd m r (owAg R W me c m) 0) ∨ (2 ≤ v ∧ v < n ∧ owMd v r (owAg R W me c v) 1 ∧ ∀ m : Int, 2 ≤ m → m < v → owMd m r (owAg R W me c m) 0)
/-- what shortest answers -/
def owSh (R : Int) (W : Nat → List Int) (me c r v : Int) : Prop := if (0 ≤ c ∧ c ≤ 4499 ∧ c ≠ 84) ∧ (0 ≤ r ∧ r ≤ 4) then owSq R W me c r 7 v else v = -1
theorem owSq_0 {R : Int} {W : Nat → List Int} {me c r n v : Int} (hn : n ≤ 2) (hv : v = -1) : owSq R W me c r n v := Or.inl ⟨hv, fun m h1 h2 => by omega⟩
theorem owSq_n {R : Int} {W : Nat → List Int} {me c r n v n' v' : Int} (h : owSq R W me c r n v) (hv : v = -1) (h0 : owMd n r (owAg R W me c n) 0) (hn : n' = n + 1) (hw : v' = -1) : owSq R W me c r n' v' := by
  rcases h with ⟨-, h⟩ | ⟨h, -⟩
  · refine Or.inl ⟨hw, fun m h1 h2 => ?_⟩
    by_cases q : m = n
    · rw [q]; exact h0
    · exact h m h1 (by omega)
  · omega
theorem owSq_y {R : Int} {W : Nat → List Int} {me c r n v n' v' : Int} (h : owSq R W me c r n v) (hv : v = -1) (h1 : owMd n r (owAg R W me c n) 1) (h2 : 2 ≤ n) (hn : n' = n + 1) (hw : v' = n) : owSq R W me c r n' v' := by
  rcases h with ⟨-, h⟩ | ⟨h, -⟩
  · subst hw
    exact Or.inr ⟨h2, by omega, h1, h⟩
  · omega
theorem owSq_m {R : Int} {W : Nat → List Int} {me c r n v n' : Int} (h : owSq R W me c r n v) (hv : v ≠ -1) (hn : n ≤ n') : owSq R W me c r n' v := by
  rcases h with ⟨h, -⟩ | ⟨h, h1, h2, h3⟩
  · omega
  · exact Or.inr ⟨h, by omega, h2, h3⟩
theorem owSq_det {R : Int} {W : Nat → List Int} {me c r n v w : Int} (h : owSq R W me c r n v) (h' : owSq R W me c r n w) : v = w := by
  rcases h with ⟨h, h1⟩ | ⟨h, h1, h2, h3⟩ <;> rcases h' with ⟨g, g1⟩ | ⟨g, g1, g2, g3⟩
  · omega
  · exfalso; exact absurd (owMd_det (h1 w g g1) g2) (by decide)
  · exfalso; exact absurd (owMd_det (g1 v h h1) h2) (by decide)
  · rcases Int.lt_trichotomy v w with q | q | q
    · exfalso; exact absurd (owMd_det (g3 v h q) h2) (by decide)
    · exact q
    · exfalso; exact absurd (owMd_det (h3 w g q) g2) (by decide)
theorem owSh_n {R : Int} {W : Nat → List Int} {me c r v : Int} (h : ¬ ((0 ≤ c ∧ c ≤ 4499 ∧ c ≠ 84) ∧ (0 ≤ r ∧ r ≤ 4))) (h2 : v = -1) : owSh R W me c r v := by
  unfold owSh
  rw [if_neg h]
  exact h2
theorem owSh_y {R : Int} {W : Nat → List Int} {me c r v : Int} (h : (0 ≤ c ∧ c ≤ 4499 ∧ c ≠ 84) ∧ (0 ≤ r ∧ r ≤ 4)) (h2 : owSq R W me c r 7 v) : owSh R W me c r v := by
  unfold owSh
  rw [if_pos h]
  exact h2
theorem owSh_f {R : Int} {W : Nat → List Int} {me c r n v : Int} (h : (0 ≤ c ∧ c ≤ 4499 ∧ c ≠ 84) ∧ (0 ≤ r ∧ r ≤ 4)) (h2 : owSq R W me c r n (-1)) (h3 : owMd n r (owAg R W me c n) 1) (hn : 2 ≤ n ∧ n ≤ 6) (hv : v = n) : owSh R W me c r v :=
  owSh_y h (owSq_m (owSq_y (n' := n + 1) h2 rfl h3 hn.1 rfl hv) (by omega) (by omega))
theorem owSh_e {R : Int} {W : Nat → List Int} {me c r n v w : Int} (h : (0 ≤ c ∧ c ≤ 4499 ∧ c ≠ 84) ∧ (0 ≤ r ∧ r ≤ 4)) (h2 : owSq R W me c r n v) (hn : n = 7 ∨ (v ≠ -1 ∧ n ≤ 7)) (hv : w = v) : owSh R W me c r w := by
  subst hv
  refine owSh_y h ?_
  rcases hn with rfl | ⟨h3, h4⟩
  · exact h2
  · exact owSq_m h2 h3 h4
theorem owSh_det {R : Int} {W : Nat → List Int} {me c r v w : Int} (h : owSh R W me c r v) (h' : owSh R W me c r w) : v = w := by
  unfold owSh at h h'
  by_cases hc : (0 ≤ c ∧ c ≤ 4499 ∧ c ≠ 84) ∧ (0 ≤ r ∧ r ≤ 4)
  · rw [if_pos hc] at h h'
    exact owSq_det h h'
  · rw [if_neg hc] at h h'
    omega
