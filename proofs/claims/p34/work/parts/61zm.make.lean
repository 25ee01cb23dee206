set_option maxHeartbeats 4000000 in
set_option maxRecDepth 100000 in
theorem ct9_X12_make (l : Launch) (E : oE) (s : oS) (a1 : Int32) (a2 : Int32) (a3 : Int32) (R : Int) (W : Nat → List Int) (me : Int) (hp0 : oBI s) (hp1 : oLT s) (hp2 : 1 ≤ (s.1 71 38).toInt → 1 ≤ (s.1 71 42).toInt) (hp3 : owBE R W s) (hp4 : owMM me s) (hp5 : owLO s) : oMet l 8 yX12_make cX12_make 4 (some .int) [(12, 38), (12, 42), (12, 43), (12, 58), (12, 60), (12, 61), (12, 62), (12, 63), (12, 65), (12, 69), (12, 77), (75, 9999), (76, 9999), (77, 9999), (84, 9999), (85, 9999), (90, 9999), (91, 9999)] E s [.ref (oad E 71), .int a1, .int a2, .int a3] (oPi (fun r u => (oLT u) ∧ (1 ≤ (u.1 71 38).toInt → 1 ≤ (u.1 71 42).toInt) ∧ (owMr R W me a1.toInt a2.toInt a3.toInt r.toInt))) := by
  refine oMet.of (lv := [(0, .ref (oad E 71)), (1, .int a1), (2, .int a2), (3, .int a3)]) (by decide +kernel) (Nat.le_of_ble_eq_true rfl) rfl (fun J C hT => ?_)
  have C : oC l 8 cX12_make RX12 4 (some .int) [(12, 38), (12, 42), (12, 43), (12, 58), (12, 60), (12, 61), (12, 62), (12, 63), (12, 65), (12, 69), (12, 77), (75, 9999), (76, 9999), (77, 9999), (84, 9999), (85, 9999), (90, 9999), (91, 9999)] E s (oPi (fun r u => (oLT u) ∧ (1 ≤ (u.1 71 38).toInt → 1 ≤ (u.1 71 42).toInt) ∧ (owMr R W me a1.toInt a2.toInt a3.toInt r.toInt))) J := C
  obtain ⟨km1, qkm1⟩ : ∃ z : Int32, z = (-1) := ⟨_, rfl⟩
  have ekm1 : km1.toInt = (-1) := by rw [qkm1]; rfl
  obtain ⟨k0, qk0⟩ : ∃ z : Int32, z = 0 := ⟨_, rfl⟩
  have ek0 : k0.toInt = 0 := by rw [qk0]; rfl
  obtain ⟨k1, qk1⟩ : ∃ z : Int32, z = 1 := ⟨_, rfl⟩
  have ek1 : k1.toInt = 1 := by rw [qk1]; rfl
  obtain ⟨j0, qj0⟩ : ∃ z : Int64, z = 0 := ⟨_, rfl⟩
  have ej0 : j0.toInt = 0 := by rw [qj0]; rfl
  obtain ⟨j1, qj1⟩ : ∃ z : Int64, z = 1 := ⟨_, rfl⟩
  have ej1 : j1.toInt = 1 := by rw [qj1]; rfl
  obtain ⟨j4, qj4⟩ : ∃ z : Int64, z = 4 := ⟨_, rfl⟩
  have ej4 : j4.toInt = 4 := by rw [qj4]; rfl
  obtain ⟨j6, qj6⟩ : ∃ z : Int64, z = 6 := ⟨_, rfl⟩
  have ej6 : j6.toInt = 6 := by rw [qj6]; rfl
  have rg1 := n_rng a1
  have rg2 := n_rng a2
  have rg3 := n_rng a3
  have hme9 : 2 ≤ me ∧ me ≤ 12 := by have h9 : (2 : Int) ≤ (s.1 71 53).toInt ∧ (s.1 71 53).toInt ≤ 12 := hT.1 71 53; have h8 : (s.1 71 53).toInt = me := hp4; omega
  refine r_iload_n C (j := 1) (oDec_at oX12_make 0 rfl) rfl rfl ?_
  refine r_callSi C miX12_isFollower mlX12_554 (ct9_X12_isFollower l E (s) a1 ) (by decide) rfl rfl rfl (Nat.le_of_ble_eq_true rfl) (oDec_at oX12_make 1 rfl) (fun r2 u1 pu1 fu1 => ?_)
  try dsimp only at pu1
  obtain ⟨pu1_0, pu1_1, pu1_2⟩ := pu1
  have hxu1 := oFr_nil fu1; subst hxu1
  have rr2 := n_rng r2
  refine r_if_eq C 31 (oDec_at oX12_make 2 rfl) (by decide) (fun cd3 => ?_) (fun cd3 => ?_)
  · skip
    clear pu1_1
    refine r_iconst C (oDec_at oX12_make 15 rfl) (v := km1) (by rw [qkm1]; rfl) ?_
    exact r_iret C (oDec_at oX12_make 16 rfl) ⟨_, rfl, ⟨hp1, by omega, owMr_n (by omega) (by omega)⟩⟩
  · skip
    replace pu1_1 := pu1_1 (by omega)
    refine r_iload_n C (j := 2) (oDec_at oX12_make 3 rfl) rfl rfl ?_
    obtain ⟨v4, ev4⟩ : ∃ z : Int64, a2.toInt64 = z := ⟨_, rfl⟩
    have hv4 : v4.toInt = a2.toInt := n_i2l ev4
    refine r_i2l C v4 (oDec_at oX12_make 4 rfl) ev4 ?_
    refine r_lconst C (oDec_at oX12_make 5 rfl) (v := j1) (by rw [qj1]; rfl) ?_
    refine r_ldc2 C (v := j6) (by rw [qj6]; exact klX12_557) (oDec_at oX12_make 6 rfl) ?_
    refine r_callSi C miX12_isIn mlX12_216 (ct_X12_isIn l E (s) v4 j1 j6 ) (by decide) rfl rfl rfl (Nat.le_of_ble_eq_true rfl) (oDec_at oX12_make 7 rfl) (fun r6 u5 pu5 fu5 => ?_)
    try dsimp only at pu5
    obtain ⟨pu5_0, pu5_1⟩ := pu5
    have hxu5 := oFr_nil fu5; subst hxu5
    have rr6 := n_rng r6
    refine r_if_eq C 31 (oDec_at oX12_make 8 rfl) (by decide) (fun cd7 => ?_) (fun cd7 => ?_)
    · skip
      refine r_iconst C (oDec_at oX12_make 15 rfl) (v := km1) (by rw [qkm1]; rfl) ?_
      exact r_iret C (oDec_at oX12_make 16 rfl) ⟨_, rfl, ⟨hp1, by omega, owMr_n (by omega) (by omega)⟩⟩
    · skip
      refine r_iload_n C (j := 3) (oDec_at oX12_make 9 rfl) rfl rfl ?_
      obtain ⟨v8, ev8⟩ : ∃ z : Int64, a3.toInt64 = z := ⟨_, rfl⟩
      have hv8 : v8.toInt = a3.toInt := n_i2l ev8
      refine r_i2l C v8 (oDec_at oX12_make 10 rfl) ev8 ?_
      refine r_lconst C (oDec_at oX12_make 11 rfl) (v := j0) (by rw [qj0]; rfl) ?_
      refine r_ldc2 C (v := j4) (by rw [qj4]; exact klX12_493) (oDec_at oX12_make 12 rfl) ?_
      refine r_callSi C miX12_isIn mlX12_216 (ct_X12_isIn l E (s) v8 j0 j4 ) (by decide) rfl rfl rfl (Nat.le_of_ble_eq_true rfl) (oDec_at oX12_make 13 rfl) (fun r10 u9 pu9 fu9 => ?_)
      try dsimp only at pu9
      obtain ⟨pu9_0, pu9_1⟩ := pu9
      have hxu9 := oFr_nil fu9; subst hxu9
      have rr10 := n_rng r10
      refine r_if_ne C 33 (oDec_at oX12_make 14 rfl) (by decide) (fun cd11 => ?_) (fun cd11 => ?_)
      · skip
        refine r_aload_n C (j := 0) (oDec_at oX12_make 17 rfl) rfl rfl ?_
        refine r_callVv C oCl12 rfl miX12_putsAside mlX12_559 (ct_X12_putsAside l E (s)  hp1) (by decide) rfl rfl rfl (Nat.le_of_ble_eq_true rfl) (oDec_at oX12_make 18 rfl) (fun u12 pu12 fu12 => ?_)
        try dsimp only at pu12
        obtain ⟨pu12_0, pu12_1, pu12_2⟩ := pu12
        have lu14 : ((u12).1 71 38).toInt = (s.1 71 38).toInt := congrArg Int32.toInt ((fu12 71 38 rfl).1)
        refine r_aload_n C (j := 0) (oDec_at oX12_make 19 rfl) rfl rfl ?_
        refine r_iload_n C (j := 1) (oDec_at oX12_make 20 rfl) rfl rfl ?_
        refine r_iload_n C (j := 2) (oDec_at oX12_make 21 rfl) rfl rfl ?_
        refine r_iload_n C (j := 3) (oDec_at oX12_make 22 rfl) rfl rfl ?_
        refine r_pc C 41 rfl ?_
        refine r_callVi C oCl12 rfl miX12_makes mlX12_562 (ct9_X12_makes l E (u12) a1 a2 a3 (R) (W) (me) (oBI_fr fu12 rfl hp0) (by omega) (by omega) (by omega) (owBE_fr fu12 rfl hp3) (owMM_fr fu12 rfl hp4) (owLO_fr fu12 rfl hp5) (by omega) (by omega)) (by decide) rfl rfl rfl (Nat.le_of_ble_eq_true rfl) (oDec_at oX12_make 23 rfl) (fun r16 u15 pu15 fu15 => ?_)
        try dsimp only at pu15
        obtain ⟨pu15_0, pu15_1, pu15_2, pu15_3, pu15_4⟩ := pu15
        have rr16 := n_rng r16
        have hm19 := pu15_3
        have hm09 := pu15_4
        refine r_if_eq C 49 (oDec_at oX12_make 24 rfl) (by decide) (fun cd17 => ?_) (fun cd17 => ?_)
        · skip
          clear pu15_3
          replace pu15_4 := pu15_4 (by omega)
          refine r_aload_n C (j := 0) (oDec_at oX12_make 27 rfl) rfl rfl ?_
          refine r_callVv C oCl12 rfl miX12_takesBack mlX12_565 (ct_X12_takesBack l E (u15)  (oAT_fr fu15 rfl pu12_1)) (by decide) rfl rfl rfl (Nat.le_of_ble_eq_true rfl) (oDec_at oX12_make 28 rfl) (fun u18 pu18 fu18 => ?_)
          try dsimp only at pu18
          obtain ⟨pu18_0, pu18_1, pu18_2⟩ := pu18
          refine r_iconst C (oDec_at oX12_make 29 rfl) (v := k0) (by rw [qk0]; rfl) ?_
          exact r_iret C (oDec_at oX12_make 30 rfl) ⟨_, rfl, ⟨pu18_0, by omega, owMr_y (by omega) ((show k0.toInt = 0 by omega) ▸ hm09 (by omega))⟩⟩
        · skip
          replace pu15_3 := pu15_3 (by omega)
          clear pu15_4
          refine r_iconst C (oDec_at oX12_make 25 rfl) (v := k1) (by rw [qk1]; rfl) ?_
          exact r_iret C (oDec_at oX12_make 26 rfl) ⟨_, rfl, ⟨pu15_1, by omega, owMr_y (by omega) ((show k1.toInt = 1 by omega) ▸ hm19 (by omega))⟩⟩
      · skip
        refine r_iconst C (oDec_at oX12_make 15 rfl) (v := km1) (by rw [qkm1]; rfl) ?_
        exact r_iret C (oDec_at oX12_make 16 rfl) ⟨_, rfl, ⟨hp1, by omega, owMr_n (by omega) (by omega)⟩⟩
