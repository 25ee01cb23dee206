theorem oqFE_F : oqFE oSF := by
  have h : oSF.1 30 8 = 0 ∧ oSF.1 30 9 = -1 ∧ oSF.1 71 7 = 0 ∧ oSF.1 71 8 = -1 := by decide +kernel
  unfold oqFE
  rw [h.1, h.2.1, h.2.2.1, h.2.2.2]
  exact ⟨rfl, rfl⟩
