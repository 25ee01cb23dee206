set_option maxRecDepth 100000 in
set_option maxHeartbeats 4000000 in
theorem owF_l4 (i : Nat) : oSF.1 4 i = 0 := rfl
set_option maxRecDepth 100000 in
set_option maxHeartbeats 4000000 in
theorem owF_l9 (i : Nat) : oSF.1 9 i = 0 := rfl
set_option maxRecDepth 100000 in
set_option maxHeartbeats 4000000 in
theorem owF_l14 (i : Nat) : oSF.1 14 i = 0 := rfl
set_option maxRecDepth 100000 in
set_option maxHeartbeats 4000000 in
theorem owF_d37 (i : Nat) : oSF.1 37 i = 0 := rfl
set_option maxRecDepth 100000 in
set_option maxHeartbeats 4000000 in
theorem owF_d38 (i : Nat) : oSF.1 38 i = 0 := rfl
set_option maxRecDepth 100000 in
set_option maxHeartbeats 4000000 in
theorem owF_d39 (i : Nat) : oSF.1 39 i = 0 := rfl
set_option maxRecDepth 100000 in
set_option maxHeartbeats 4000000 in
theorem owF_k (j : Nat) : oSF.1 32 j = if j < 4096 then -1 else 0 := rfl
theorem owF_c4 : ∀ c : Nat, c < 118 → okd c = 4 → c = 3 ∨ c = 8 ∨ c = 13 := by decide +kernel
theorem owBX_F : owBX 0 (fun _ => []) 4 oSF := by
  have h : oSF.2.2 0 4 = 19 ∧ oSF.2.2 0 5 = 25 ∧ oSF.2.2 31 3 = 19 ∧ oSF.1 18 7 = 0 ∧ oSF.1 18 6 = 4 := by decide +kernel
  refine ⟨18, 24, ⟨h.1, h.2.1, by decide +kernel, by decide +kernel, by decide⟩, ⟨by decide +kernel, h.2.2.1, by rw [h.2.2.2.1]; rfl, fun k hk => by omega⟩, ⟨by decide +kernel, by rw [h.2.2.2.2]; rfl⟩, ?_⟩
  intro j hj a w m hr hk
  exfalso
  have h1 := owKy_b hr
  rw [owF_k, if_pos hj] at hk
  have h2 : (-1 : Int32).toInt = -1 := rfl
  omega
theorem owDN_F : owDN oSF := by
  intro i
  rw [owF_d37, owF_d38, owF_d39]
  decide
theorem owLN_F : owLN oSF := by
  have h : oSF.1 3 6 = -1 ∧ oSF.1 8 6 = -1 ∧ oSF.1 13 6 = -1 := by decide +kernel
  intro c hc
  have hlt : c < 118 := okd_lt hc (by omega)
  rcases owF_c4 c hlt hc with rfl | rfl | rfl
  · rw [h.1]; exact ⟨by decide, fun i => by rw [show 3 + 1 = 4 from rfl, owF_l4]; decide⟩
  · rw [h.2.1]; exact ⟨by decide, fun i => by rw [show 8 + 1 = 9 from rfl, owF_l9]; decide⟩
  · rw [h.2.2]; exact ⟨by decide, fun i => by rw [show 13 + 1 = 14 from rfl, owF_l14]; decide⟩
theorem owMR_F : owBE 0 (fun _ => []) oSF ∧ owMM 4 oSF ∧ owLO oSF := by
  have h : oSF.1 104 0 = 0 ∧ oSF.1 71 53 = 4 ∧ oSF.1 71 64 = -1 := by decide +kernel
  refine ⟨⟨by rw [h.1]; rfl, fun k hk => by omega⟩, ?_, ?_⟩
  · unfold owMM; rw [h.2.1]; rfl
  · unfold owLO; rw [h.2.2]; rfl
theorem oqER_F (h : oqE oSF) : oqER oSF := ⟨h, oqWd_F, 0, (fun _ => []), 4, owBX_F, owLN_F, owDN_F, owMR_F.1, owMR_F.2.1, owMR_F.2.2⟩
