theorem owBb_rg {D S K d h k : Int} (hB : 0 ≤ D ∧ D ≤ 24 ∧ 0 ≤ S ∧ S ≤ 7 ∧ 0 ≤ K ∧ K ≤ 15) : 0 ≤ owBb D d d h k ∧ owBb D d d h k ≤ 24 ∧ 0 ≤ owBb S h d h k ∧ owBb S h d h k ≤ 7 ∧ 0 ≤ owBb K k d h k ∧ owBb K k d h k ≤ 15 := by
  unfold owBb
  by_cases q : 0 ≤ d ∧ d ≤ 24 ∧ 0 ≤ h ∧ h ≤ 7 ∧ 0 ≤ k ∧ k ≤ 15
  · simp only [if_pos q]; omega
  · simp only [if_neg q]; exact hB
/-- the tapes are alike, the words are there, the books mean the same, the bounds are the same -/
def oqET (t : oS) : Prop := oqER t ∧ owCZ t ∧ ∃ D S K : Int, owBW D S K t ∧ owBY D S K t ∧ (0 ≤ D ∧ D ≤ 24 ∧ 0 ≤ S ∧ S ≤ 7 ∧ 0 ≤ K ∧ K ≤ 15)
theorem oqET_fr {M : List (Nat × Nat)} {s u : oS} (hf : oFr M s u) (hm : (((((oin M 8 1 || (oinK M 15 || (oin M 12 1 || oinK M 48))) || ((List.range 26).any fun i => oinK M (49 + i))) || ((((oin M 11 4 || oin M 11 5) || oin M 0 6) || (((oin M 2 3 || oin M 0 7) || (oinK M 20 || (oinK M 21 || oinK M 22))) || (oinK M 25 || oinK M 26))) || (oin M 4 6 || oinK M 16))) || (((oinK M 29 || (oinK M 30 || oinK M 31)) || (oinK M 80 || (oinK M 78 || (oinK M 81 || oinK M 82)))) || (oin M 12 53 || oin M 12 64))) || ((oin M 11 1 || (oin M 11 2 || oin M 11 3)) || ((oin M 10 0 || (oin M 10 1 || oin M 10 2)) || (oin M 12 66 || (oin M 12 67 || oin M 12 68))))) = false) (h : oqET s) : oqET u := by
  rw [Bool.or_eq_false_iff] at hm
  obtain ⟨hm1, hm2⟩ := hm
  rw [Bool.or_eq_false_iff] at hm2
  obtain ⟨hm2, hm3⟩ := hm2
  rw [Bool.or_eq_false_iff] at hm3
  obtain ⟨h1, h2, D, S, K, h3, h4, h5⟩ := h
  exact ⟨oqER_fr hf hm1 h1, owCZ_fr hf hm2 h2, D, S, K, owBW_fr hf hm3.1 h3, owBY_fr hf hm3.2 h4, h5⟩
