theorem oqNC_F : oqNC 0 (fun _ _ => 0) oSF := by
  have h : oSF.2.2 0 4 = 19 ∧ oSF.2.2 0 5 = 25 ∧ oSF.1 18 8 = 0 := by decide +kernel
  refine ⟨18, 24, ⟨h.1, h.2.1, by decide +kernel, by decide +kernel, by decide⟩, ?_, fun m hm => by omega⟩
  rw [h.2.2]
  rfl
theorem oqNE_F : oqNE 0 (fun _ _ => 0) oSF := by
  have h : oSF.1 104 1 = 0 := by decide +kernel
  refine ⟨by decide, ?_, fun m hm => by omega⟩
  rw [h]
  rfl
