theorem oqET_F (h : oqE oSF) : oqET oSF := by
  have h1 : oSF.2.2 0 3 = 14 ∧ oSF.2.2 0 1 ≠ 14 ∧ oSF.2.2 0 2 ≠ 14 := by decide +kernel
  have h2 : oSF.1 43 0 = 8 ∧ oSF.1 43 1 = 4 ∧ oSF.1 43 2 = 0 := by decide +kernel
  have h3 : oSF.1 71 66 = 8 ∧ oSF.1 71 67 = 4 ∧ oSF.1 71 68 = 0 := by decide +kernel
  refine ⟨oqER_F h, h1, 8, 4, 0, ?_, ?_, by decide⟩
  · unfold owBW
    rw [h2.1, h2.2.1, h2.2.2]
    decide
  · unfold owBY
    rw [h3.1, h3.2.1, h3.2.2]
    decide
