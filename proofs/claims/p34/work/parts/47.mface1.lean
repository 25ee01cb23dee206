set_option maxHeartbeats 4000000 in
set_option maxRecDepth 100000 in
theorem ct_X12_sings (l : Launch) (E : oE) (s : oS) (a1 : Int32) (a2 : Int32)  : oMet l 5 yX12_sings cX12_sings 3 (some .int) [] E s [.ref (oad E 71), .int a1, .int a2] (oPi (fun r u => True)) := by
  refine oMet.of (lv := [(0, .ref (oad E 71)), (1, .int a1), (2, .int a2)]) (by decide +kernel) (Nat.le_of_ble_eq_true rfl) rfl (fun J C hT => ?_)
  have C : oC l 5 cX12_sings RX12 3 (some .int) [] E s (oPi (fun r u => True)) J := C
  obtain ⟨km1000000000, qkm1000000000⟩ : ∃ z : Int32, z = (-1000000000) := ⟨_, rfl⟩
  have ekm1000000000 : km1000000000.toInt = (-1000000000) := by rw [qkm1000000000]; rfl
  obtain ⟨j0, qj0⟩ : ∃ z : Int64, z = 0 := ⟨_, rfl⟩
  have ej0 : j0.toInt = 0 := by rw [qj0]; rfl
  obtain ⟨j999, qj999⟩ : ∃ z : Int64, z = 999 := ⟨_, rfl⟩
  have ej999 : j999.toInt = 999 := by rw [qj999]; rfl
  have rg1 := n_rng a1
  have rg2 := n_rng a2
  refine r_iload_n C (j := 1) (oDec_at oX12_sings 0 rfl) rfl rfl ?_
  refine r_callSi C miX12_isCode mlX12_423 (ct_X12_isCode l E (s) a1 ) (by decide) rfl rfl rfl (Nat.le_of_ble_eq_true rfl) (oDec_at oX12_sings 1 rfl) (fun r2 u1 pu1 fu1 => ?_)
  try dsimp only at pu1
  obtain ⟨pu1_0, pu1_1⟩ := pu1
  have hxu1 := oFr_nil fu1; subst hxu1
  have rr2 := n_rng r2
  refine r_if_eq C 36 (oDec_at oX12_sings 2 rfl) (by decide) (fun cd3 => ?_) (fun cd3 => ?_)
  · skip
    refine r_ldcw C (v := km1000000000) (by rw [qkm1000000000]; exact kcX12_398) (oDec_at oX12_sings 18 rfl) ?_
    exact r_iret C (oDec_at oX12_sings 19 rfl) ⟨_, rfl, trivial⟩
  · skip
    refine r_aload_n C (j := 0) (oDec_at oX12_sings 3 rfl) rfl rfl ?_
    refine r_iload_n C (j := 1) (oDec_at oX12_sings 4 rfl) rfl rfl ?_
    refine r_callVi C oCl12 rfl miX12_canBe mlX12_426 (ct_X12_canBe l E (s) a1 (by omega)) (by decide) rfl rfl rfl (Nat.le_of_ble_eq_true rfl) (oDec_at oX12_sings 5 rfl) (fun r5 u4 pu4 fu4 => ?_)
    try dsimp only at pu4
    have hxu4 := oFr_nil fu4; subst hxu4
    have rr5 := n_rng r5
    refine r_if_eq C 36 (oDec_at oX12_sings 6 rfl) (by decide) (fun cd6 => ?_) (fun cd6 => ?_)
    · skip
      refine r_ldcw C (v := km1000000000) (by rw [qkm1000000000]; exact kcX12_398) (oDec_at oX12_sings 18 rfl) ?_
      exact r_iret C (oDec_at oX12_sings 19 rfl) ⟨_, rfl, trivial⟩
    · skip
      refine r_iload_n C (j := 2) (oDec_at oX12_sings 7 rfl) rfl rfl ?_
      obtain ⟨v7, ev7⟩ : ∃ z : Int64, a2.toInt64 = z := ⟨_, rfl⟩
      have hv7 : v7.toInt = a2.toInt := n_i2l ev7
      refine r_i2l C v7 (oDec_at oX12_sings 8 rfl) ev7 ?_
      refine r_lconst C (oDec_at oX12_sings 9 rfl) (v := j0) (by rw [qj0]; rfl) ?_
      refine r_ldc2 C (v := j999) (by rw [qj999]; exact klX12_429) (oDec_at oX12_sings 10 rfl) ?_
      refine r_callSi C miX12_isIn mlX12_216 (ct_X12_isIn l E (s) v7 j0 j999 ) (by decide) rfl rfl rfl (Nat.le_of_ble_eq_true rfl) (oDec_at oX12_sings 11 rfl) (fun r9 u8 pu8 fu8 => ?_)
      try dsimp only at pu8
      obtain ⟨pu8_0, pu8_1⟩ := pu8
      have hxu8 := oFr_nil fu8; subst hxu8
      have rr9 := n_rng r9
      refine r_if_eq C 36 (oDec_at oX12_sings 12 rfl) (by decide) (fun cd10 => ?_) (fun cd10 => ?_)
      · skip
        refine r_ldcw C (v := km1000000000) (by rw [qkm1000000000]; exact kcX12_398) (oDec_at oX12_sings 18 rfl) ?_
        exact r_iret C (oDec_at oX12_sings 19 rfl) ⟨_, rfl, trivial⟩
      · skip
        refine r_aload_n C (j := 0) (oDec_at oX12_sings 13 rfl) rfl rfl ?_
        refine r_iload_n C (j := 1) (oDec_at oX12_sings 14 rfl) rfl rfl ?_
        refine r_iload_n C (j := 2) (oDec_at oX12_sings 15 rfl) rfl rfl ?_
        refine r_callVi C oCl12 rfl miX12_singsIn mlX12_431 (ct_X12_singsIn l E (s) a1 a2 (by omega) (by omega)) (by decide) rfl rfl rfl (Nat.le_of_ble_eq_true rfl) (oDec_at oX12_sings 16 rfl) (fun r12 u11 pu11 fu11 => ?_)
        try dsimp only at pu11
        have hxu11 := oFr_nil fu11; subst hxu11
        have rr12 := n_rng r12
        refine r_goto C (tgt := 39) (oDec_at oX12_sings 17 rfl) (by decide) ?_
        exact r_iret C (oDec_at oX12_sings 19 rfl) ⟨_, rfl, trivial⟩
set_option maxHeartbeats 4000000 in
set_option maxRecDepth 100000 in
theorem ct_X12_follower (l : Launch) (E : oE) (s : oS) (a1 : Int32) (a2 : Int32)  : oMet l 3 yX12_follower cX12_follower 3 (some .int) [] E s [.ref (oad E 71), .int a1, .int a2] (oPi (fun r u => True)) := by
  refine oMet.of (lv := [(0, .ref (oad E 71)), (1, .int a1), (2, .int a2)]) (by decide +kernel) (Nat.le_of_ble_eq_true rfl) rfl (fun J C hT => ?_)
  have C : oC l 3 cX12_follower RX12 3 (some .int) [] E s (oPi (fun r u => True)) J := C
  obtain ⟨km1000000000, qkm1000000000⟩ : ∃ z : Int32, z = (-1000000000) := ⟨_, rfl⟩
  have ekm1000000000 : km1000000000.toInt = (-1000000000) := by rw [qkm1000000000]; rfl
  obtain ⟨km1, qkm1⟩ : ∃ z : Int32, z = (-1) := ⟨_, rfl⟩
  have ekm1 : km1.toInt = (-1) := by rw [qkm1]; rfl
  obtain ⟨k0, qk0⟩ : ∃ z : Int32, z = 0 := ⟨_, rfl⟩
  have ek0 : k0.toInt = 0 := by rw [qk0]; rfl
  obtain ⟨k1, qk1⟩ : ∃ z : Int32, z = 1 := ⟨_, rfl⟩
  have ek1 : k1.toInt = 1 := by rw [qk1]; rfl
  have rg1 := n_rng a1
  have rg2 := n_rng a2
  refine r_iload_n C (j := 1) (oDec_at oX12_follower 0 rfl) rfl rfl ?_
  refine r_callSi C miX12_isCode mlX12_423 (ct_X12_isCode l E (s) a1 ) (by decide) rfl rfl rfl (Nat.le_of_ble_eq_true rfl) (oDec_at oX12_follower 1 rfl) (fun r2 u1 pu1 fu1 => ?_)
  try dsimp only at pu1
  obtain ⟨pu1_0, pu1_1⟩ := pu1
  have hxu1 := oFr_nil fu1; subst hxu1
  have rr2 := n_rng r2
  refine r_if_ne C 11 (oDec_at oX12_follower 2 rfl) (by decide) (fun cd3 => ?_) (fun cd3 => ?_)
  · skip
    refine r_iload_n C (j := 2) (oDec_at oX12_follower 5 rfl) rfl rfl ?_
    by_cases cd4_0 : a2.toInt = 0
    · refine r_tableIn C 56 (oDec_at oX12_follower 6 rfl) (by omega) (by omega) (by rw [cd4_0]; rfl) (by decide) ?_
      refine r_iload_n C (j := 1) (oDec_at oX12_follower 7 rfl) rfl rfl ?_
      refine r_callSi C miX12_delayOf mlX12_389 (ct_X12_delayOf l E (s) a1 (by omega)) (by decide) rfl rfl rfl (Nat.le_of_ble_eq_true rfl) (oDec_at oX12_follower 8 rfl) (fun r6 u5 pu5 fu5 => ?_)
      try dsimp only at pu5
      have hxu5 := oFr_nil fu5; subst hxu5
      have rr6 := n_rng r6
      exact r_iret C (oDec_at oX12_follower 9 rfl) ⟨_, rfl, trivial⟩
    by_cases cd4_1 : a2.toInt = 1
    · refine r_tableIn C 61 (oDec_at oX12_follower 6 rfl) (by omega) (by omega) (by rw [cd4_1]; rfl) (by decide) ?_
      refine r_iload_n C (j := 1) (oDec_at oX12_follower 10 rfl) rfl rfl ?_
      refine r_callSi C miX12_highOf mlX12_402 (ct_X12_highOf l E (s) a1 (by omega)) (by decide) rfl rfl rfl (Nat.le_of_ble_eq_true rfl) (oDec_at oX12_follower 11 rfl) (fun r8 u7 pu7 fu7 => ?_)
      try dsimp only at pu7
      obtain ⟨pu7_0, pu7_1⟩ := pu7
      have hxu7 := oFr_nil fu7; subst hxu7
      have rr8 := n_rng r8
      exact r_iret C (oDec_at oX12_follower 12 rfl) ⟨_, rfl, trivial⟩
    by_cases cd4_2 : a2.toInt = 2
    · refine r_tableIn C 66 (oDec_at oX12_follower 6 rfl) (by omega) (by omega) (by rw [cd4_2]; rfl) (by decide) ?_
      refine r_iload_n C (j := 1) (oDec_at oX12_follower 13 rfl) rfl rfl ?_
      refine r_callSi C miX12_mirrorOf mlX12_399 (ct_X12_mirrorOf l E (s) a1 (by omega)) (by decide) rfl rfl rfl (Nat.le_of_ble_eq_true rfl) (oDec_at oX12_follower 14 rfl) (fun r10 u9 pu9 fu9 => ?_)
      try dsimp only at pu9
      have hxu9 := oFr_nil fu9; subst hxu9
      have rr10 := n_rng r10
      exact r_iret C (oDec_at oX12_follower 15 rfl) ⟨_, rfl, trivial⟩
    by_cases cd4_3 : a2.toInt = 3
    · refine r_tableIn C 71 (oDec_at oX12_follower 6 rfl) (by omega) (by omega) (by rw [cd4_3]; rfl) (by decide) ?_
      refine r_iload_n C (j := 1) (oDec_at oX12_follower 16 rfl) rfl rfl ?_
      refine r_callSi C miX12_backOf mlX12_395 (ct_X12_backOf l E (s) a1 (by omega)) (by decide) rfl rfl rfl (Nat.le_of_ble_eq_true rfl) (oDec_at oX12_follower 17 rfl) (fun r12 u11 pu11 fu11 => ?_)
      try dsimp only at pu11
      have hxu11 := oFr_nil fu11; subst hxu11
      have rr12 := n_rng r12
      exact r_iret C (oDec_at oX12_follower 18 rfl) ⟨_, rfl, trivial⟩
    by_cases cd4_4 : a2.toInt = 4
    · refine r_tableIn C 76 (oDec_at oX12_follower 6 rfl) (by omega) (by omega) (by rw [cd4_4]; rfl) (by decide) ?_
      refine r_iload_n C (j := 1) (oDec_at oX12_follower 19 rfl) rfl rfl ?_
      refine r_callSi C miX12_paceOf mlX12_385 (ct_X12_paceOf l E (s) a1 (by omega)) (by decide) rfl rfl rfl (Nat.le_of_ble_eq_true rfl) (oDec_at oX12_follower 20 rfl) (fun r14 u13 pu13 fu13 => ?_)
      try dsimp only at pu13
      have hxu13 := oFr_nil fu13; subst hxu13
      have rr14 := n_rng r14
      exact r_iret C (oDec_at oX12_follower 21 rfl) ⟨_, rfl, trivial⟩
    by_cases cd4_5 : a2.toInt = 5
    · refine r_tableIn C 81 (oDec_at oX12_follower 6 rfl) (by omega) (by omega) (by rw [cd4_5]; rfl) (by decide) ?_
      refine r_aload_n C (j := 0) (oDec_at oX12_follower 22 rfl) rfl rfl ?_
      refine r_iload_n C (j := 1) (oDec_at oX12_follower 23 rfl) rfl rfl ?_
      refine r_callVi C oCl12 rfl miX12_canBe mlX12_426 (ct_X12_canBe l E (s) a1 (by omega)) (by decide) rfl rfl rfl (Nat.le_of_ble_eq_true rfl) (oDec_at oX12_follower 24 rfl) (fun r16 u15 pu15 fu15 => ?_)
      try dsimp only at pu15
      have hxu15 := oFr_nil fu15; subst hxu15
      have rr16 := n_rng r16
      refine r_if_eq C 93 (oDec_at oX12_follower 25 rfl) (by decide) (fun cd17 => ?_) (fun cd17 => ?_)
      · skip
        refine r_iconst C (oDec_at oX12_follower 28 rfl) (v := k0) (by rw [qk0]; rfl) ?_
        exact r_iret C (oDec_at oX12_follower 29 rfl) ⟨_, rfl, trivial⟩
      · skip
        refine r_iconst C (oDec_at oX12_follower 26 rfl) (v := k1) (by rw [qk1]; rfl) ?_
        refine r_goto C (tgt := 94) (oDec_at oX12_follower 27 rfl) (by decide) ?_
        exact r_iret C (oDec_at oX12_follower 29 rfl) ⟨_, rfl, trivial⟩
    by_cases cd4_6 : a2.toInt = 6
    · refine r_tableIn C 95 (oDec_at oX12_follower 6 rfl) (by omega) (by omega) (by rw [cd4_6]; rfl) (by decide) ?_
      refine r_aload_n C (j := 0) (oDec_at oX12_follower 30 rfl) rfl rfl ?_
      refine r_iload_n C (j := 1) (oDec_at oX12_follower 31 rfl) rfl rfl ?_
      refine r_callVi C oCl12 rfl miX12_canBe mlX12_426 (ct_X12_canBe l E (s) a1 (by omega)) (by decide) rfl rfl rfl (Nat.le_of_ble_eq_true rfl) (oDec_at oX12_follower 32 rfl) (fun r19 u18 pu18 fu18 => ?_)
      try dsimp only at pu18
      have hxu18 := oFr_nil fu18; subst hxu18
      have rr19 := n_rng r19
      refine r_if_eq C 111 (oDec_at oX12_follower 33 rfl) (by decide) (fun cd20 => ?_) (fun cd20 => ?_)
      · skip
        refine r_iconst C (oDec_at oX12_follower 38 rfl) (v := km1) (by rw [qkm1]; rfl) ?_
        exact r_iret C (oDec_at oX12_follower 39 rfl) ⟨_, rfl, trivial⟩
      · skip
        refine r_aload_n C (j := 0) (oDec_at oX12_follower 34 rfl) rfl rfl ?_
        refine r_iload_n C (j := 1) (oDec_at oX12_follower 35 rfl) rfl rfl ?_
        refine r_callVi C oCl12 rfl miX12_overAt mlX12_392 (ct_X12_overAt l E (s) a1 (by omega)) (by decide) rfl rfl rfl (Nat.le_of_ble_eq_true rfl) (oDec_at oX12_follower 36 rfl) (fun r22 u21 pu21 fu21 => ?_)
        try dsimp only at pu21
        obtain ⟨pu21_0, pu21_1, pu21_2⟩ := pu21
        have hxu21 := oFr_nil fu21; subst hxu21
        have rr22 := n_rng r22
        refine r_goto C (tgt := 112) (oDec_at oX12_follower 37 rfl) (by decide) ?_
        exact r_iret C (oDec_at oX12_follower 39 rfl) ⟨_, rfl, trivial⟩
    refine r_tableOut C 113 (oDec_at oX12_follower 6 rfl) (by omega) (by decide) ?_
    refine r_ldcw C (v := km1000000000) (by rw [qkm1000000000]; exact kcX12_398) (oDec_at oX12_follower 40 rfl) ?_
    exact r_iret C (oDec_at oX12_follower 41 rfl) ⟨_, rfl, trivial⟩
  · skip
    refine r_ldcw C (v := km1000000000) (by rw [qkm1000000000]; exact kcX12_398) (oDec_at oX12_follower 3 rfl) ?_
    exact r_iret C (oDec_at oX12_follower 4 rfl) ⟨_, rfl, trivial⟩
set_option maxHeartbeats 4000000 in
set_option maxRecDepth 100000 in
theorem ct_X12_apart (l : Launch) (E : oE) (s : oS) (a0 : Int32) (a1 : Int32)  : oMet l 1 yX12_apart cX12_apart 2 (some .int) [] E s [.int a0, .int a1] (oPi (fun r u => True)) := by
  refine oMet.of (lv := [(0, .int a0), (1, .int a1)]) (by decide +kernel) (Nat.le_of_ble_eq_true rfl) rfl (fun J C hT => ?_)
  have C : oC l 1 cX12_apart RX12 2 (some .int) [] E s (oPi (fun r u => True)) J := C
  have rg0 := n_rng a0
  have rg1 := n_rng a1
  refine r_iload_n C (j := 0) (oDec_at oX12_apart 0 rfl) rfl rfl ?_
  refine r_iload_n C (j := 1) (oDec_at oX12_apart 1 rfl) rfl rfl ?_
  refine r_icmp_le C 11 (oDec_at oX12_apart 2 rfl) (by decide) (fun cd1 => ?_) (fun cd1 => ?_)
  · skip
    refine r_iload_n C (j := 1) (oDec_at oX12_apart 7 rfl) rfl rfl ?_
    refine r_iload_n C (j := 0) (oDec_at oX12_apart 8 rfl) rfl rfl ?_
    obtain ⟨v2, ev2⟩ : ∃ z : Int32, z = a1 - a0 := ⟨_, rfl⟩
    have rv2 := n_rng v2
    refine r_isub C v2 (oDec_at oX12_apart 9 rfl) ev2 ?_
    exact r_iret C (oDec_at oX12_apart 10 rfl) ⟨_, rfl, trivial⟩
  · skip
    refine r_iload_n C (j := 0) (oDec_at oX12_apart 3 rfl) rfl rfl ?_
    refine r_iload_n C (j := 1) (oDec_at oX12_apart 4 rfl) rfl rfl ?_
    obtain ⟨v3, ev3⟩ : ∃ z : Int32, z = a0 - a1 := ⟨_, rfl⟩
    have rv3 := n_rng v3
    refine r_isub C v3 (oDec_at oX12_apart 5 rfl) ev3 ?_
    refine r_goto C (tgt := 14) (oDec_at oX12_apart 6 rfl) (by decide) ?_
    exact r_iret C (oDec_at oX12_apart 10 rfl) ⟨_, rfl, trivial⟩
set_option maxHeartbeats 4000000 in
set_option maxRecDepth 100000 in
theorem ct_X12_isFirst (l : Launch) (E : oE) (s : oS) (a0 : Int32) (a1 : Int32)  : oMet l 1 yX12_isFirst cX12_isFirst 2 (some .boolean) [] E s [.int a0, .int a1] (oPi (fun r u => (0 ≤ r.toInt ∧ r.toInt ≤ 1))) := by
  refine oMet.of (lv := [(0, .int a0), (1, .int a1)]) (by decide +kernel) (Nat.le_of_ble_eq_true rfl) rfl (fun J C hT => ?_)
  have C : oC l 1 cX12_isFirst RX12 2 (some .boolean) [] E s (oPi (fun r u => (0 ≤ r.toInt ∧ r.toInt ≤ 1))) J := C
  obtain ⟨k0, qk0⟩ : ∃ z : Int32, z = 0 := ⟨_, rfl⟩
  have ek0 : k0.toInt = 0 := by rw [qk0]; rfl
  obtain ⟨k1, qk1⟩ : ∃ z : Int32, z = 1 := ⟨_, rfl⟩
  have ek1 : k1.toInt = 1 := by rw [qk1]; rfl
  obtain ⟨k84, qk84⟩ : ∃ z : Int32, z = 84 := ⟨_, rfl⟩
  have ek84 : k84.toInt = 84 := by rw [qk84]; rfl
  have rg0 := n_rng a0
  have rg1 := n_rng a1
  refine r_iload_n C (j := 0) (oDec_at oX12_isFirst 0 rfl) rfl rfl ?_
  refine r_bipush C (oDec_at oX12_isFirst 1 rfl) (v := k84) (by rw [qk84]; rfl) ?_
  refine r_icmp_eq C 17 (oDec_at oX12_isFirst 2 rfl) (by decide) (fun cd1 => ?_) (fun cd1 => ?_)
  · skip
    refine r_iconst C (oDec_at oX12_isFirst 9 rfl) (v := k1) (by rw [qk1]; rfl) ?_
    refine r_goto C (tgt := 22) (oDec_at oX12_isFirst 10 rfl) (by decide) ?_
    exact r_zret C (n_bool (by omega)) (oDec_at oX12_isFirst 12 rfl) ⟨_, rfl, by omega⟩
  · skip
    refine r_iload_n C (j := 1) (oDec_at oX12_isFirst 3 rfl) rfl rfl ?_
    refine r_bipush C (oDec_at oX12_isFirst 4 rfl) (v := k84) (by rw [qk84]; rfl) ?_
    refine r_icmp_eq C 21 (oDec_at oX12_isFirst 5 rfl) (by decide) (fun cd2 => ?_) (fun cd2 => ?_)
    · skip
      refine r_iconst C (oDec_at oX12_isFirst 11 rfl) (v := k0) (by rw [qk0]; rfl) ?_
      exact r_zret C (n_bool (by omega)) (oDec_at oX12_isFirst 12 rfl) ⟨_, rfl, by omega⟩
    · skip
      refine r_iload_n C (j := 0) (oDec_at oX12_isFirst 6 rfl) rfl rfl ?_
      refine r_iload_n C (j := 1) (oDec_at oX12_isFirst 7 rfl) rfl rfl ?_
      refine r_icmp_ge C 21 (oDec_at oX12_isFirst 8 rfl) (by decide) (fun cd3 => ?_) (fun cd3 => ?_)
      · skip
        refine r_iconst C (oDec_at oX12_isFirst 11 rfl) (v := k0) (by rw [qk0]; rfl) ?_
        exact r_zret C (n_bool (by omega)) (oDec_at oX12_isFirst 12 rfl) ⟨_, rfl, by omega⟩
      · skip
        refine r_iconst C (oDec_at oX12_isFirst 9 rfl) (v := k1) (by rw [qk1]; rfl) ?_
        refine r_goto C (tgt := 22) (oDec_at oX12_isFirst 10 rfl) (by decide) ?_
        exact r_zret C (n_bool (by omega)) (oDec_at oX12_isFirst 12 rfl) ⟨_, rfl, by omega⟩
set_option maxHeartbeats 4000000 in
set_option maxRecDepth 100000 in
theorem ct_X12_areTwo (l : Launch) (E : oE) (s : oS) (a1 : Int32) (a2 : Int32)  : oMet l 3 yX12_areTwo cX12_areTwo 3 (some .boolean) [] E s [.ref (oad E 71), .int a1, .int a2] (oPi (fun r u => (0 ≤ r.toInt ∧ r.toInt ≤ 1) ∧ (r.toInt = 1 → (0 ≤ a1.toInt ∧ a1.toInt ≤ 4499 ∧ 0 ≤ a2.toInt ∧ a2.toInt ≤ 4499)))) := by
  refine oMet.of (lv := [(0, .ref (oad E 71)), (1, .int a1), (2, .int a2)]) (by decide +kernel) (Nat.le_of_ble_eq_true rfl) rfl (fun J C hT => ?_)
  have C : oC l 3 cX12_areTwo RX12 3 (some .boolean) [] E s (oPi (fun r u => (0 ≤ r.toInt ∧ r.toInt ≤ 1) ∧ (r.toInt = 1 → (0 ≤ a1.toInt ∧ a1.toInt ≤ 4499 ∧ 0 ≤ a2.toInt ∧ a2.toInt ≤ 4499)))) J := C
  obtain ⟨k0, qk0⟩ : ∃ z : Int32, z = 0 := ⟨_, rfl⟩
  have ek0 : k0.toInt = 0 := by rw [qk0]; rfl
  obtain ⟨k1, qk1⟩ : ∃ z : Int32, z = 1 := ⟨_, rfl⟩
  have ek1 : k1.toInt = 1 := by rw [qk1]; rfl
  have rg1 := n_rng a1
  have rg2 := n_rng a2
  refine r_iload_n C (j := 1) (oDec_at oX12_areTwo 0 rfl) rfl rfl ?_
  refine r_callSi C miX12_isCode mlX12_423 (ct_X12_isCode l E (s) a1 ) (by decide) rfl rfl rfl (Nat.le_of_ble_eq_true rfl) (oDec_at oX12_areTwo 1 rfl) (fun r2 u1 pu1 fu1 => ?_)
  try dsimp only at pu1
  obtain ⟨pu1_0, pu1_1⟩ := pu1
  have hxu1 := oFr_nil fu1; subst hxu1
  have rr2 := n_rng r2
  refine r_if_eq C 39 (oDec_at oX12_areTwo 2 rfl) (by decide) (fun cd3 => ?_) (fun cd3 => ?_)
  · skip
    refine r_iconst C (oDec_at oX12_areTwo 19 rfl) (v := k0) (by rw [qk0]; rfl) ?_
    exact r_zret C (n_bool (by omega)) (oDec_at oX12_areTwo 20 rfl) ⟨_, rfl, ⟨by omega, by omega⟩⟩
  · skip
    refine r_iload_n C (j := 2) (oDec_at oX12_areTwo 3 rfl) rfl rfl ?_
    refine r_callSi C miX12_isCode mlX12_423 (ct_X12_isCode l E (s) a2 ) (by decide) rfl rfl rfl (Nat.le_of_ble_eq_true rfl) (oDec_at oX12_areTwo 4 rfl) (fun r5 u4 pu4 fu4 => ?_)
    try dsimp only at pu4
    obtain ⟨pu4_0, pu4_1⟩ := pu4
    have hxu4 := oFr_nil fu4; subst hxu4
    have rr5 := n_rng r5
    refine r_if_eq C 39 (oDec_at oX12_areTwo 5 rfl) (by decide) (fun cd6 => ?_) (fun cd6 => ?_)
    · skip
      refine r_iconst C (oDec_at oX12_areTwo 19 rfl) (v := k0) (by rw [qk0]; rfl) ?_
      exact r_zret C (n_bool (by omega)) (oDec_at oX12_areTwo 20 rfl) ⟨_, rfl, ⟨by omega, by omega⟩⟩
    · skip
      refine r_iload_n C (j := 1) (oDec_at oX12_areTwo 6 rfl) rfl rfl ?_
      refine r_iload_n C (j := 2) (oDec_at oX12_areTwo 7 rfl) rfl rfl ?_
      refine r_icmp_eq C 39 (oDec_at oX12_areTwo 8 rfl) (by decide) (fun cd7 => ?_) (fun cd7 => ?_)
      · skip
        refine r_iconst C (oDec_at oX12_areTwo 19 rfl) (v := k0) (by rw [qk0]; rfl) ?_
        exact r_zret C (n_bool (by omega)) (oDec_at oX12_areTwo 20 rfl) ⟨_, rfl, ⟨by omega, by omega⟩⟩
      · skip
        refine r_aload_n C (j := 0) (oDec_at oX12_areTwo 9 rfl) rfl rfl ?_
        refine r_iload_n C (j := 1) (oDec_at oX12_areTwo 10 rfl) rfl rfl ?_
        refine r_callVi C oCl12 rfl miX12_canBe mlX12_426 (ct_X12_canBe l E (s) a1 (by omega)) (by decide) rfl rfl rfl (Nat.le_of_ble_eq_true rfl) (oDec_at oX12_areTwo 11 rfl) (fun r9 u8 pu8 fu8 => ?_)
        try dsimp only at pu8
        have hxu8 := oFr_nil fu8; subst hxu8
        have rr9 := n_rng r9
        refine r_if_eq C 39 (oDec_at oX12_areTwo 12 rfl) (by decide) (fun cd10 => ?_) (fun cd10 => ?_)
        · skip
          refine r_iconst C (oDec_at oX12_areTwo 19 rfl) (v := k0) (by rw [qk0]; rfl) ?_
          exact r_zret C (n_bool (by omega)) (oDec_at oX12_areTwo 20 rfl) ⟨_, rfl, ⟨by omega, by omega⟩⟩
        · skip
          refine r_aload_n C (j := 0) (oDec_at oX12_areTwo 13 rfl) rfl rfl ?_
          refine r_iload_n C (j := 2) (oDec_at oX12_areTwo 14 rfl) rfl rfl ?_
          refine r_callVi C oCl12 rfl miX12_canBe mlX12_426 (ct_X12_canBe l E (s) a2 (by omega)) (by decide) rfl rfl rfl (Nat.le_of_ble_eq_true rfl) (oDec_at oX12_areTwo 15 rfl) (fun r12 u11 pu11 fu11 => ?_)
          try dsimp only at pu11
          have hxu11 := oFr_nil fu11; subst hxu11
          have rr12 := n_rng r12
          refine r_if_eq C 39 (oDec_at oX12_areTwo 16 rfl) (by decide) (fun cd13 => ?_) (fun cd13 => ?_)
          · skip
            refine r_iconst C (oDec_at oX12_areTwo 19 rfl) (v := k0) (by rw [qk0]; rfl) ?_
            exact r_zret C (n_bool (by omega)) (oDec_at oX12_areTwo 20 rfl) ⟨_, rfl, ⟨by omega, by omega⟩⟩
          · skip
            refine r_iconst C (oDec_at oX12_areTwo 17 rfl) (v := k1) (by rw [qk1]; rfl) ?_
            refine r_goto C (tgt := 40) (oDec_at oX12_areTwo 18 rfl) (by decide) ?_
            exact r_zret C (n_bool (by omega)) (oDec_at oX12_areTwo 20 rfl) ⟨_, rfl, ⟨by omega, by omega⟩⟩
set_option maxHeartbeats 4000000 in
set_option maxRecDepth 100000 in
theorem ct_X12_asksAll (l : Launch) (E : oE) (s : oS) (a1 : Int32) (a2 : Int32) (hp0 : 0 ≤ a2.toInt ∧ a2.toInt ≤ 1) : oMet l 2 yX12_asksAll cX12_asksAll 3 none [(85, 9999)] E s [.ref (oad E 71), .int a1, .int a2] (oPv (fun u => True)) := by
  refine oMet.of (lv := [(0, .ref (oad E 71)), (1, .int a1), (2, .int a2)]) (by decide +kernel) (Nat.le_of_ble_eq_true rfl) rfl (fun J C hT => ?_)
  have C : oC l 2 cX12_asksAll RX12 3 none [(85, 9999)] E s (oPv (fun u => True)) J := C
  obtain ⟨km1000000000, qkm1000000000⟩ : ∃ z : Int32, z = (-1000000000) := ⟨_, rfl⟩
  have ekm1000000000 : km1000000000.toInt = (-1000000000) := by rw [qkm1000000000]; rfl
  obtain ⟨k0, qk0⟩ : ∃ z : Int32, z = 0 := ⟨_, rfl⟩
  have ek0 : k0.toInt = 0 := by rw [qk0]; rfl
  obtain ⟨k1, qk1⟩ : ∃ z : Int32, z = 1 := ⟨_, rfl⟩
  have ek1 : k1.toInt = 1 := by rw [qk1]; rfl
  obtain ⟨k2, qk2⟩ : ∃ z : Int32, z = 2 := ⟨_, rfl⟩
  have ek2 : k2.toInt = 2 := by rw [qk2]; rfl
  obtain ⟨k3, qk3⟩ : ∃ z : Int32, z = 3 := ⟨_, rfl⟩
  have ek3 : k3.toInt = 3 := by rw [qk3]; rfl
  obtain ⟨k4, qk4⟩ : ∃ z : Int32, z = 4 := ⟨_, rfl⟩
  have ek4 : k4.toInt = 4 := by rw [qk4]; rfl
  obtain ⟨k5, qk5⟩ : ∃ z : Int32, z = 5 := ⟨_, rfl⟩
  have ek5 : k5.toInt = 5 := by rw [qk5]; rfl
  obtain ⟨k6, qk6⟩ : ∃ z : Int32, z = 6 := ⟨_, rfl⟩
  have ek6 : k6.toInt = 6 := by rw [qk6]; rfl
  obtain ⟨k7, qk7⟩ : ∃ z : Int32, z = 7 := ⟨_, rfl⟩
  have ek7 : k7.toInt = 7 := by rw [qk7]; rfl
  have rg1 := n_rng a1
  have rg2 := n_rng a2
  refine r_aload_n C (j := 0) (oDec_at oX12_asksAll 0 rfl) rfl rfl ?_
  refine r_getF (k := 59) (b := 109) C oCl12 rfl (by decide) flX12_133 rfl rfl rfl (oDec_at oX12_asksAll 1 rfl) ?_
  refine r_iconst C (oDec_at oX12_asksAll 2 rfl) (v := k0) (by rw [qk0]; rfl) ?_
  refine r_aload_n C (j := 0) (oDec_at oX12_asksAll 3 rfl) rfl rfl ?_
  obtain ⟨v1, ev1⟩ : ∃ z : Int32, (s).1 71 60 = z := ⟨_, rfl⟩
  have gv1 : (s.1 71 60).toInt = v1.toInt := congrArg Int32.toInt (ev1)
  have rv1 := n_rng v1
  refine r_geti (k := 60) (lo := (-2147483648)) (hi := 2147483647) C v1 oCl12 rfl (by decide) flX12_434 rfl rfl (ev1) rfl rfl (oDec_at oX12_asksAll 4 rfl) (fun _ _ => ?_)
  refine r_aload_n C (j := 0) (oDec_at oX12_asksAll 5 rfl) rfl rfl ?_
  refine r_pc C 10 rfl ?_
  obtain ⟨v2, ev2⟩ : ∃ z : Int32, (s).1 71 61 = z := ⟨_, rfl⟩
  have gv2 : (s.1 71 61).toInt = v2.toInt := congrArg Int32.toInt (ev2)
  have rv2 := n_rng v2
  refine r_geti (k := 61) (lo := (-2147483648)) (hi := 2147483647) C v2 oCl12 rfl (by decide) flX12_437 rfl rfl (ev2) rfl rfl (oDec_at oX12_asksAll 6 rfl) (fun _ _ => ?_)
  refine r_callSi C miX12_apart mlX12_440 (ct_X12_apart l E (s) v1 v2 ) (by decide) rfl rfl rfl (Nat.le_of_ble_eq_true rfl) (oDec_at oX12_asksAll 7 rfl) (fun r4 u3 pu3 fu3 => ?_)
  try dsimp only at pu3
  have hxu3 := oFr_nil fu3; subst hxu3
  have rr4 := n_rng r4
  refine r_iast (n := 8) (lo := (-2147483648)) (hi := 2147483647) C rfl (by decide) rfl rfl ⟨by omega, by omega⟩ (by decide) rfl rfl rfl rfl (n_rng _) (oDec_at oX12_asksAll 8 rfl) ?_
  refine r_aload_n C (j := 0) (oDec_at oX12_asksAll 9 rfl) rfl rfl ?_
  refine r_getF (k := 59) (b := 109) C oCl12 rfl (by decide) flX12_133 rfl rfl rfl (oDec_at oX12_asksAll 10 rfl) ?_
  refine r_iconst C (oDec_at oX12_asksAll 11 rfl) (v := k1) (by rw [qk1]; rfl) ?_
  refine r_pc C 22 rfl ?_
  refine r_aload_n C (j := 0) (oDec_at oX12_asksAll 12 rfl) rfl rfl ?_
  refine r_getF (k := 59) (b := 109) C oCl12 rfl (by decide) flX12_133 rfl rfl rfl (oDec_at oX12_asksAll 13 rfl) ?_
  refine r_iconst C (oDec_at oX12_asksAll 14 rfl) (v := k0) (by rw [qk0]; rfl) ?_
  obtain ⟨v6, ev6⟩ : ∃ z : Int32, ((pI s 109 k0.toNatClampNeg r4)).1 109 k0.toNatClampNeg = z := ⟨_, rfl⟩
  have gv6 : (((pI s 109 k0.toNatClampNeg r4)).1 109 k0.toNatClampNeg).toInt = v6.toInt := congrArg Int32.toInt (ev6)
  have rv6 := n_rng v6
  refine r_iald (n := 8) (lo := (-2147483648)) (hi := 2147483647) C v6 rfl (by decide) rfl rfl ⟨by omega, by omega⟩ (by decide) ev6 rfl rfl (oDec_at oX12_asksAll 15 rfl) (fun _ _ => ?_)
  refine r_bipush C (oDec_at oX12_asksAll 16 rfl) (v := k7) (by rw [qk7]; rfl) ?_
  obtain ⟨v7, ev7⟩ : ∃ z : Int32, z = v6 - v6 / k7 * k7 := ⟨_, rfl⟩
  have hv7 := n_rem (k := 7) ev7 ek7 (by decide)
  have rv7 := n_rng v7
  refine r_irem C v7 (oDec_at oX12_asksAll 17 rfl) (n_ne0 (by omega)) ev7 ?_
  refine r_pc C 31 rfl ?_
  refine r_iast (n := 8) (lo := (-2147483648)) (hi := 2147483647) C rfl (by decide) rfl rfl ⟨by omega, by omega⟩ (by decide) rfl rfl rfl rfl (n_rng _) (oDec_at oX12_asksAll 18 rfl) ?_
  refine r_aload_n C (j := 0) (oDec_at oX12_asksAll 19 rfl) rfl rfl ?_
  refine r_getF (k := 59) (b := 109) C oCl12 rfl (by decide) flX12_133 rfl rfl rfl (oDec_at oX12_asksAll 20 rfl) ?_
  refine r_iconst C (oDec_at oX12_asksAll 21 rfl) (v := k2) (by rw [qk2]; rfl) ?_
  refine r_aload_n C (j := 0) (oDec_at oX12_asksAll 22 rfl) rfl rfl ?_
  refine r_geti (k := 61) (lo := (-2147483648)) (hi := 2147483647) C v2 oCl12 rfl (by decide) flX12_437 rfl rfl (((pI_ne (a := 71) (b := 61) (c := 109) _ _ (Or.inl (by decide)))).trans (((pI_ne (a := 71) (b := 61) (c := 109) _ _ (Or.inl (by decide)))).trans (ev2))) rfl rfl (oDec_at oX12_asksAll 23 rfl) (fun _ _ => ?_)
  refine r_pc C 41 rfl ?_
  refine r_aload_n C (j := 0) (oDec_at oX12_asksAll 24 rfl) rfl rfl ?_
  refine r_geti (k := 60) (lo := (-2147483648)) (hi := 2147483647) C v1 oCl12 rfl (by decide) flX12_434 rfl rfl (((pI_ne (a := 71) (b := 60) (c := 109) _ _ (Or.inl (by decide)))).trans (((pI_ne (a := 71) (b := 60) (c := 109) _ _ (Or.inl (by decide)))).trans (ev1))) rfl rfl (oDec_at oX12_asksAll 25 rfl) (fun _ _ => ?_)
  refine r_icmp_ge C 52 (oDec_at oX12_asksAll 26 rfl) (by decide) (fun cd8 => ?_) (fun cd8 => ?_)
  · skip
    refine r_iconst C (oDec_at oX12_asksAll 29 rfl) (v := k0) (by rw [qk0]; rfl) ?_
    refine r_iast (n := 8) (lo := (-2147483648)) (hi := 2147483647) C rfl (by decide) rfl rfl ⟨by omega, by omega⟩ (by decide) rfl rfl rfl rfl (n_rng _) (oDec_at oX12_asksAll 30 rfl) ?_
    refine r_aload_n C (j := 0) (oDec_at oX12_asksAll 31 rfl) rfl rfl ?_
    refine r_getF (k := 59) (b := 109) C oCl12 rfl (by decide) flX12_133 rfl rfl rfl (oDec_at oX12_asksAll 32 rfl) ?_
    refine r_iconst C (oDec_at oX12_asksAll 33 rfl) (v := k3) (by rw [qk3]; rfl) ?_
    refine r_iload_n C (j := 1) (oDec_at oX12_asksAll 34 rfl) rfl rfl ?_
    refine r_pc C 60 rfl ?_
    refine r_aload_n C (j := 0) (oDec_at oX12_asksAll 35 rfl) rfl rfl ?_
    obtain ⟨v9, ev9⟩ : ∃ z : Int32, ((pI (pI (pI s 109 k0.toNatClampNeg r4) 109 k1.toNatClampNeg v7) 109 k2.toNatClampNeg k0)).1 71 53 = z := ⟨_, rfl⟩
    have gv9 : (s.1 71 53).toInt = v9.toInt := congrArg Int32.toInt ((((pI_ne (a := 71) (b := 53) (c := 109) _ _ (Or.inl (by decide)))).trans (((pI_ne (a := 71) (b := 53) (c := 109) _ _ (Or.inl (by decide)))).trans ((pI_ne (a := 71) (b := 53) (c := 109) _ _ (Or.inl (by decide)))))).symm.trans ev9)
    refine r_geti (k := 53) (lo := 2) (hi := 12) C v9 oCl12 rfl (by decide) flX12_127 rfl rfl (ev9) rfl rfl (oDec_at oX12_asksAll 36 rfl) (fun b10 b10h => ?_)
    obtain ⟨v11, ev11⟩ : ∃ z : Int32, z = a1 - a1 / v9 * v9 := ⟨_, rfl⟩
    have rv11 := n_rng v11
    refine r_irem C v11 (oDec_at oX12_asksAll 37 rfl) (n_ne0 (by omega)) ev11 ?_
    refine r_iast (n := 8) (lo := (-2147483648)) (hi := 2147483647) C rfl (by decide) rfl rfl ⟨by omega, by omega⟩ (by decide) rfl rfl rfl rfl (n_rng _) (oDec_at oX12_asksAll 38 rfl) ?_
    refine r_aload_n C (j := 0) (oDec_at oX12_asksAll 39 rfl) rfl rfl ?_
    refine r_getF (k := 59) (b := 109) C oCl12 rfl (by decide) flX12_133 rfl rfl rfl (oDec_at oX12_asksAll 40 rfl) ?_
    refine r_pc C 70 rfl ?_
    refine r_iconst C (oDec_at oX12_asksAll 41 rfl) (v := k4) (by rw [qk4]; rfl) ?_
    refine r_aload_n C (j := 0) (oDec_at oX12_asksAll 42 rfl) rfl rfl ?_
    obtain ⟨v12, ev12⟩ : ∃ z : Int32, ((pI (pI (pI (pI s 109 k0.toNatClampNeg r4) 109 k1.toNatClampNeg v7) 109 k2.toNatClampNeg k0) 109 k3.toNatClampNeg v11)).1 71 62 = z := ⟨_, rfl⟩
    have gv12 : (s.1 71 62).toInt = v12.toInt := congrArg Int32.toInt ((((pI_ne (a := 71) (b := 62) (c := 109) _ _ (Or.inl (by decide)))).trans (((pI_ne (a := 71) (b := 62) (c := 109) _ _ (Or.inl (by decide)))).trans (((pI_ne (a := 71) (b := 62) (c := 109) _ _ (Or.inl (by decide)))).trans ((pI_ne (a := 71) (b := 62) (c := 109) _ _ (Or.inl (by decide))))))).symm.trans ev12)
    have rv12 := n_rng v12
    refine r_geti (k := 62) (lo := (-2147483648)) (hi := 2147483647) C v12 oCl12 rfl (by decide) flX12_443 rfl rfl (ev12) rfl rfl (oDec_at oX12_asksAll 43 rfl) (fun _ _ => ?_)
    refine r_ldcw C (v := km1000000000) (by rw [qkm1000000000]; exact kcX12_398) (oDec_at oX12_asksAll 44 rfl) ?_
    refine r_icmp_ne C 85 (oDec_at oX12_asksAll 45 rfl) (by decide) (fun cd13 => ?_) (fun cd13 => ?_)
    · skip
      refine r_aload_n C (j := 0) (oDec_at oX12_asksAll 48 rfl) rfl rfl ?_
      refine r_geti (k := 60) (lo := (-2147483648)) (hi := 2147483647) C v1 oCl12 rfl (by decide) flX12_434 rfl rfl (((pI_ne (a := 71) (b := 60) (c := 109) _ _ (Or.inl (by decide)))).trans (((pI_ne (a := 71) (b := 60) (c := 109) _ _ (Or.inl (by decide)))).trans (((pI_ne (a := 71) (b := 60) (c := 109) _ _ (Or.inl (by decide)))).trans (((pI_ne (a := 71) (b := 60) (c := 109) _ _ (Or.inl (by decide)))).trans (ev1))))) rfl rfl (oDec_at oX12_asksAll 49 rfl) (fun _ _ => ?_)
      refine r_aload_n C (j := 0) (oDec_at oX12_asksAll 50 rfl) rfl rfl ?_
      refine r_geti (k := 62) (lo := (-2147483648)) (hi := 2147483647) C v12 oCl12 rfl (by decide) flX12_443 rfl rfl (ev12) rfl rfl (oDec_at oX12_asksAll 51 rfl) (fun _ _ => ?_)
      obtain ⟨v14, ev14⟩ : ∃ z : Int32, z = v1 - v12 := ⟨_, rfl⟩
      have rv14 := n_rng v14
      refine r_isub C v14 (oDec_at oX12_asksAll 52 rfl) ev14 ?_
      refine r_iast (n := 8) (lo := (-2147483648)) (hi := 2147483647) C rfl (by decide) rfl rfl ⟨by omega, by omega⟩ (by decide) rfl rfl rfl rfl (n_rng _) (oDec_at oX12_asksAll 53 rfl) ?_
      refine r_pc C 95 rfl ?_
      refine r_aload_n C (j := 0) (oDec_at oX12_asksAll 54 rfl) rfl rfl ?_
      refine r_getF (k := 59) (b := 109) C oCl12 rfl (by decide) flX12_133 rfl rfl rfl (oDec_at oX12_asksAll 55 rfl) ?_
      refine r_iconst C (oDec_at oX12_asksAll 56 rfl) (v := k5) (by rw [qk5]; rfl) ?_
      refine r_aload_n C (j := 0) (oDec_at oX12_asksAll 57 rfl) rfl rfl ?_
      obtain ⟨v15, ev15⟩ : ∃ z : Int32, ((pI (pI (pI (pI (pI s 109 k0.toNatClampNeg r4) 109 k1.toNatClampNeg v7) 109 k2.toNatClampNeg k0) 109 k3.toNatClampNeg v11) 109 k4.toNatClampNeg v14)).1 71 63 = z := ⟨_, rfl⟩
      have gv15 : (s.1 71 63).toInt = v15.toInt := congrArg Int32.toInt ((((pI_ne (a := 71) (b := 63) (c := 109) _ _ (Or.inl (by decide)))).trans (((pI_ne (a := 71) (b := 63) (c := 109) _ _ (Or.inl (by decide)))).trans (((pI_ne (a := 71) (b := 63) (c := 109) _ _ (Or.inl (by decide)))).trans (((pI_ne (a := 71) (b := 63) (c := 109) _ _ (Or.inl (by decide)))).trans ((pI_ne (a := 71) (b := 63) (c := 109) _ _ (Or.inl (by decide)))))))).symm.trans ev15)
      have rv15 := n_rng v15
      refine r_geti (k := 63) (lo := (-2147483648)) (hi := 2147483647) C v15 oCl12 rfl (by decide) flX12_446 rfl rfl (ev15) rfl rfl (oDec_at oX12_asksAll 58 rfl) (fun _ _ => ?_)
      refine r_ldcw C (v := km1000000000) (by rw [qkm1000000000]; exact kcX12_398) (oDec_at oX12_asksAll 59 rfl) ?_
      refine r_pc C 107 rfl ?_
      refine r_icmp_ne C 114 (oDec_at oX12_asksAll 60 rfl) (by decide) (fun cd16 => ?_) (fun cd16 => ?_)
      · skip
        refine r_aload_n C (j := 0) (oDec_at oX12_asksAll 63 rfl) rfl rfl ?_
        refine r_geti (k := 61) (lo := (-2147483648)) (hi := 2147483647) C v2 oCl12 rfl (by decide) flX12_437 rfl rfl (((pI_ne (a := 71) (b := 61) (c := 109) _ _ (Or.inl (by decide)))).trans (((pI_ne (a := 71) (b := 61) (c := 109) _ _ (Or.inl (by decide)))).trans (((pI_ne (a := 71) (b := 61) (c := 109) _ _ (Or.inl (by decide)))).trans (((pI_ne (a := 71) (b := 61) (c := 109) _ _ (Or.inl (by decide)))).trans (((pI_ne (a := 71) (b := 61) (c := 109) _ _ (Or.inl (by decide)))).trans (ev2)))))) rfl rfl (oDec_at oX12_asksAll 64 rfl) (fun _ _ => ?_)
        refine r_aload_n C (j := 0) (oDec_at oX12_asksAll 65 rfl) rfl rfl ?_
        refine r_geti (k := 63) (lo := (-2147483648)) (hi := 2147483647) C v15 oCl12 rfl (by decide) flX12_446 rfl rfl (ev15) rfl rfl (oDec_at oX12_asksAll 66 rfl) (fun _ _ => ?_)
        obtain ⟨v17, ev17⟩ : ∃ z : Int32, z = v2 - v15 := ⟨_, rfl⟩
        have rv17 := n_rng v17
        refine r_isub C v17 (oDec_at oX12_asksAll 67 rfl) ev17 ?_
        refine r_iast (n := 8) (lo := (-2147483648)) (hi := 2147483647) C rfl (by decide) rfl rfl ⟨by omega, by omega⟩ (by decide) rfl rfl rfl rfl (n_rng _) (oDec_at oX12_asksAll 68 rfl) ?_
        refine r_pc C 124 rfl ?_
        refine r_aload_n C (j := 0) (oDec_at oX12_asksAll 69 rfl) rfl rfl ?_
        refine r_getF (k := 59) (b := 109) C oCl12 rfl (by decide) flX12_133 rfl rfl rfl (oDec_at oX12_asksAll 70 rfl) ?_
        refine r_bipush C (oDec_at oX12_asksAll 71 rfl) (v := k6) (by rw [qk6]; rfl) ?_
        refine r_aload_n C (j := 0) (oDec_at oX12_asksAll 72 rfl) rfl rfl ?_
        refine r_geti (k := 62) (lo := (-2147483648)) (hi := 2147483647) C v12 oCl12 rfl (by decide) flX12_443 rfl rfl (((pI_ne (a := 71) (b := 62) (c := 109) _ _ (Or.inl (by decide)))).trans (((pI_ne (a := 71) (b := 62) (c := 109) _ _ (Or.inl (by decide)))).trans (ev12))) rfl rfl (oDec_at oX12_asksAll 73 rfl) (fun _ _ => ?_)
        refine r_ldcw C (v := km1000000000) (by rw [qkm1000000000]; exact kcX12_398) (oDec_at oX12_asksAll 74 rfl) ?_
        refine r_pc C 137 rfl ?_
        refine r_icmp_eq C 150 (oDec_at oX12_asksAll 75 rfl) (by decide) (fun cd18 => ?_) (fun cd18 => ?_)
        · omega
        · skip
          refine r_aload_n C (j := 0) (oDec_at oX12_asksAll 76 rfl) rfl rfl ?_
          refine r_geti (k := 63) (lo := (-2147483648)) (hi := 2147483647) C v15 oCl12 rfl (by decide) flX12_446 rfl rfl (((pI_ne (a := 71) (b := 63) (c := 109) _ _ (Or.inl (by decide)))).trans (ev15)) rfl rfl (oDec_at oX12_asksAll 77 rfl) (fun _ _ => ?_)
          refine r_ldcw C (v := km1000000000) (by rw [qkm1000000000]; exact kcX12_398) (oDec_at oX12_asksAll 78 rfl) ?_
          refine r_icmp_ne C 155 (oDec_at oX12_asksAll 79 rfl) (by decide) (fun cd19 => ?_) (fun cd19 => ?_)
          · skip
            refine r_aload_n C (j := 0) (oDec_at oX12_asksAll 82 rfl) rfl rfl ?_
            refine r_geti (k := 62) (lo := (-2147483648)) (hi := 2147483647) C v12 oCl12 rfl (by decide) flX12_443 rfl rfl (((pI_ne (a := 71) (b := 62) (c := 109) _ _ (Or.inl (by decide)))).trans (((pI_ne (a := 71) (b := 62) (c := 109) _ _ (Or.inl (by decide)))).trans (ev12))) rfl rfl (oDec_at oX12_asksAll 83 rfl) (fun _ _ => ?_)
            refine r_aload_n C (j := 0) (oDec_at oX12_asksAll 84 rfl) rfl rfl ?_
            refine r_geti (k := 63) (lo := (-2147483648)) (hi := 2147483647) C v15 oCl12 rfl (by decide) flX12_446 rfl rfl (((pI_ne (a := 71) (b := 63) (c := 109) _ _ (Or.inl (by decide)))).trans (ev15)) rfl rfl (oDec_at oX12_asksAll 85 rfl) (fun _ _ => ?_)
            refine r_callSi C miX12_apart mlX12_440 (ct_X12_apart l E ((pI (pI (pI (pI (pI (pI s 109 k0.toNatClampNeg r4) 109 k1.toNatClampNeg v7) 109 k2.toNatClampNeg k0) 109 k3.toNatClampNeg v11) 109 k4.toNatClampNeg v14) 109 k5.toNatClampNeg v17)) v12 v15 ) (by decide) rfl rfl rfl (Nat.le_of_ble_eq_true rfl) (oDec_at oX12_asksAll 86 rfl) (fun r21 u20 pu20 fu20 => ?_)
            try dsimp only at pu20
            have hxu20 := oFr_nil fu20; subst hxu20
            have rr21 := n_rng r21
            refine r_bipush C (oDec_at oX12_asksAll 87 rfl) (v := k7) (by rw [qk7]; rfl) ?_
            refine r_pc C 168 rfl ?_
            obtain ⟨v22, ev22⟩ : ∃ z : Int32, z = r21 - r21 / k7 * k7 := ⟨_, rfl⟩
            have hv22 := n_rem (k := 7) ev22 ek7 (by decide)
            have rv22 := n_rng v22
            refine r_irem C v22 (oDec_at oX12_asksAll 88 rfl) (n_ne0 (by omega)) ev22 ?_
            refine r_iast (n := 8) (lo := (-2147483648)) (hi := 2147483647) C rfl (by decide) rfl rfl ⟨by omega, by omega⟩ (by decide) rfl rfl rfl rfl (n_rng _) (oDec_at oX12_asksAll 89 rfl) ?_
            refine r_aload_n C (j := 0) (oDec_at oX12_asksAll 90 rfl) rfl rfl ?_
            refine r_getF (k := 59) (b := 109) C oCl12 rfl (by decide) flX12_133 rfl rfl rfl (oDec_at oX12_asksAll 91 rfl) ?_
            refine r_bipush C (oDec_at oX12_asksAll 92 rfl) (v := k7) (by rw [qk7]; rfl) ?_
            refine r_iload_n C (j := 2) (oDec_at oX12_asksAll 93 rfl) rfl rfl ?_
            refine r_pc C 177 rfl ?_
            refine r_if_eq C 184 (oDec_at oX12_asksAll 94 rfl) (by decide) (fun cd23 => ?_) (fun cd23 => ?_)
            · skip
              refine r_iconst C (oDec_at oX12_asksAll 97 rfl) (v := k0) (by rw [qk0]; rfl) ?_
              refine r_iast (n := 8) (lo := (-2147483648)) (hi := 2147483647) C rfl (by decide) rfl rfl ⟨by omega, by omega⟩ (by decide) rfl rfl rfl rfl (n_rng _) (oDec_at oX12_asksAll 98 rfl) ?_
              exact r_vret C (oDec_at oX12_asksAll 99 rfl) ⟨rfl, trivial⟩
            · skip
              refine r_iconst C (oDec_at oX12_asksAll 95 rfl) (v := k1) (by rw [qk1]; rfl) ?_
              refine r_goto C (tgt := 185) (oDec_at oX12_asksAll 96 rfl) (by decide) ?_
              refine r_iast (n := 8) (lo := (-2147483648)) (hi := 2147483647) C rfl (by decide) rfl rfl ⟨by omega, by omega⟩ (by decide) rfl rfl rfl rfl (n_rng _) (oDec_at oX12_asksAll 98 rfl) ?_
              exact r_vret C (oDec_at oX12_asksAll 99 rfl) ⟨rfl, trivial⟩
          · omega
      · skip
        refine r_iconst C (oDec_at oX12_asksAll 61 rfl) (v := k0) (by rw [qk0]; rfl) ?_
        refine r_goto C (tgt := 123) (oDec_at oX12_asksAll 62 rfl) (by decide) ?_
        refine r_iast (n := 8) (lo := (-2147483648)) (hi := 2147483647) C rfl (by decide) rfl rfl ⟨by omega, by omega⟩ (by decide) rfl rfl rfl rfl (n_rng _) (oDec_at oX12_asksAll 68 rfl) ?_
        refine r_aload_n C (j := 0) (oDec_at oX12_asksAll 69 rfl) rfl rfl ?_
        refine r_getF (k := 59) (b := 109) C oCl12 rfl (by decide) flX12_133 rfl rfl rfl (oDec_at oX12_asksAll 70 rfl) ?_
        refine r_bipush C (oDec_at oX12_asksAll 71 rfl) (v := k6) (by rw [qk6]; rfl) ?_
        refine r_aload_n C (j := 0) (oDec_at oX12_asksAll 72 rfl) rfl rfl ?_
        refine r_pc C 131 rfl ?_
        refine r_geti (k := 62) (lo := (-2147483648)) (hi := 2147483647) C v12 oCl12 rfl (by decide) flX12_443 rfl rfl (((pI_ne (a := 71) (b := 62) (c := 109) _ _ (Or.inl (by decide)))).trans (((pI_ne (a := 71) (b := 62) (c := 109) _ _ (Or.inl (by decide)))).trans (ev12))) rfl rfl (oDec_at oX12_asksAll 73 rfl) (fun _ _ => ?_)
        refine r_ldcw C (v := km1000000000) (by rw [qkm1000000000]; exact kcX12_398) (oDec_at oX12_asksAll 74 rfl) ?_
        refine r_icmp_eq C 150 (oDec_at oX12_asksAll 75 rfl) (by decide) (fun cd24 => ?_) (fun cd24 => ?_)
        · omega
        · skip
          refine r_aload_n C (j := 0) (oDec_at oX12_asksAll 76 rfl) rfl rfl ?_
          refine r_geti (k := 63) (lo := (-2147483648)) (hi := 2147483647) C v15 oCl12 rfl (by decide) flX12_446 rfl rfl (((pI_ne (a := 71) (b := 63) (c := 109) _ _ (Or.inl (by decide)))).trans (ev15)) rfl rfl (oDec_at oX12_asksAll 77 rfl) (fun _ _ => ?_)
          refine r_ldcw C (v := km1000000000) (by rw [qkm1000000000]; exact kcX12_398) (oDec_at oX12_asksAll 78 rfl) ?_
          refine r_icmp_ne C 155 (oDec_at oX12_asksAll 79 rfl) (by decide) (fun cd25 => ?_) (fun cd25 => ?_)
          · omega
          · skip
            refine r_bipush C (oDec_at oX12_asksAll 80 rfl) (v := k7) (by rw [qk7]; rfl) ?_
            refine r_goto C (tgt := 169) (oDec_at oX12_asksAll 81 rfl) (by decide) ?_
            refine r_iast (n := 8) (lo := (-2147483648)) (hi := 2147483647) C rfl (by decide) rfl rfl ⟨by omega, by omega⟩ (by decide) rfl rfl rfl rfl (n_rng _) (oDec_at oX12_asksAll 89 rfl) ?_
            refine r_aload_n C (j := 0) (oDec_at oX12_asksAll 90 rfl) rfl rfl ?_
            refine r_getF (k := 59) (b := 109) C oCl12 rfl (by decide) flX12_133 rfl rfl rfl (oDec_at oX12_asksAll 91 rfl) ?_
            refine r_bipush C (oDec_at oX12_asksAll 92 rfl) (v := k7) (by rw [qk7]; rfl) ?_
            refine r_iload_n C (j := 2) (oDec_at oX12_asksAll 93 rfl) rfl rfl ?_
            refine r_pc C 177 rfl ?_
            refine r_if_eq C 184 (oDec_at oX12_asksAll 94 rfl) (by decide) (fun cd26 => ?_) (fun cd26 => ?_)
            · skip
              refine r_iconst C (oDec_at oX12_asksAll 97 rfl) (v := k0) (by rw [qk0]; rfl) ?_
              refine r_iast (n := 8) (lo := (-2147483648)) (hi := 2147483647) C rfl (by decide) rfl rfl ⟨by omega, by omega⟩ (by decide) rfl rfl rfl rfl (n_rng _) (oDec_at oX12_asksAll 98 rfl) ?_
              exact r_vret C (oDec_at oX12_asksAll 99 rfl) ⟨rfl, trivial⟩
            · skip
              refine r_iconst C (oDec_at oX12_asksAll 95 rfl) (v := k1) (by rw [qk1]; rfl) ?_
              refine r_goto C (tgt := 185) (oDec_at oX12_asksAll 96 rfl) (by decide) ?_
              refine r_iast (n := 8) (lo := (-2147483648)) (hi := 2147483647) C rfl (by decide) rfl rfl ⟨by omega, by omega⟩ (by decide) rfl rfl rfl rfl (n_rng _) (oDec_at oX12_asksAll 98 rfl) ?_
              exact r_vret C (oDec_at oX12_asksAll 99 rfl) ⟨rfl, trivial⟩
    · skip
      refine r_iconst C (oDec_at oX12_asksAll 46 rfl) (v := k0) (by rw [qk0]; rfl) ?_
      refine r_goto C (tgt := 94) (oDec_at oX12_asksAll 47 rfl) (by decide) ?_
      refine r_iast (n := 8) (lo := (-2147483648)) (hi := 2147483647) C rfl (by decide) rfl rfl ⟨by omega, by omega⟩ (by decide) rfl rfl rfl rfl (n_rng _) (oDec_at oX12_asksAll 53 rfl) ?_
      refine r_aload_n C (j := 0) (oDec_at oX12_asksAll 54 rfl) rfl rfl ?_
      refine r_getF (k := 59) (b := 109) C oCl12 rfl (by decide) flX12_133 rfl rfl rfl (oDec_at oX12_asksAll 55 rfl) ?_
      refine r_iconst C (oDec_at oX12_asksAll 56 rfl) (v := k5) (by rw [qk5]; rfl) ?_
      refine r_aload_n C (j := 0) (oDec_at oX12_asksAll 57 rfl) rfl rfl ?_
      refine r_pc C 101 rfl ?_
      obtain ⟨v27, ev27⟩ : ∃ z : Int32, ((pI (pI (pI (pI (pI s 109 k0.toNatClampNeg r4) 109 k1.toNatClampNeg v7) 109 k2.toNatClampNeg k0) 109 k3.toNatClampNeg v11) 109 k4.toNatClampNeg k0)).1 71 63 = z := ⟨_, rfl⟩
      have gv27 : (s.1 71 63).toInt = v27.toInt := congrArg Int32.toInt ((((pI_ne (a := 71) (b := 63) (c := 109) _ _ (Or.inl (by decide)))).trans (((pI_ne (a := 71) (b := 63) (c := 109) _ _ (Or.inl (by decide)))).trans (((pI_ne (a := 71) (b := 63) (c := 109) _ _ (Or.inl (by decide)))).trans (((pI_ne (a := 71) (b := 63) (c := 109) _ _ (Or.inl (by decide)))).trans ((pI_ne (a := 71) (b := 63) (c := 109) _ _ (Or.inl (by decide)))))))).symm.trans ev27)
      have rv27 := n_rng v27
      refine r_geti (k := 63) (lo := (-2147483648)) (hi := 2147483647) C v27 oCl12 rfl (by decide) flX12_446 rfl rfl (ev27) rfl rfl (oDec_at oX12_asksAll 58 rfl) (fun _ _ => ?_)
      refine r_ldcw C (v := km1000000000) (by rw [qkm1000000000]; exact kcX12_398) (oDec_at oX12_asksAll 59 rfl) ?_
      refine r_icmp_ne C 114 (oDec_at oX12_asksAll 60 rfl) (by decide) (fun cd28 => ?_) (fun cd28 => ?_)
      · skip
        refine r_aload_n C (j := 0) (oDec_at oX12_asksAll 63 rfl) rfl rfl ?_
        refine r_geti (k := 61) (lo := (-2147483648)) (hi := 2147483647) C v2 oCl12 rfl (by decide) flX12_437 rfl rfl (((pI_ne (a := 71) (b := 61) (c := 109) _ _ (Or.inl (by decide)))).trans (((pI_ne (a := 71) (b := 61) (c := 109) _ _ (Or.inl (by decide)))).trans (((pI_ne (a := 71) (b := 61) (c := 109) _ _ (Or.inl (by decide)))).trans (((pI_ne (a := 71) (b := 61) (c := 109) _ _ (Or.inl (by decide)))).trans (((pI_ne (a := 71) (b := 61) (c := 109) _ _ (Or.inl (by decide)))).trans (ev2)))))) rfl rfl (oDec_at oX12_asksAll 64 rfl) (fun _ _ => ?_)
        refine r_aload_n C (j := 0) (oDec_at oX12_asksAll 65 rfl) rfl rfl ?_
        refine r_geti (k := 63) (lo := (-2147483648)) (hi := 2147483647) C v27 oCl12 rfl (by decide) flX12_446 rfl rfl (ev27) rfl rfl (oDec_at oX12_asksAll 66 rfl) (fun _ _ => ?_)
        obtain ⟨v29, ev29⟩ : ∃ z : Int32, z = v2 - v27 := ⟨_, rfl⟩
        have rv29 := n_rng v29
        refine r_isub C v29 (oDec_at oX12_asksAll 67 rfl) ev29 ?_
        refine r_iast (n := 8) (lo := (-2147483648)) (hi := 2147483647) C rfl (by decide) rfl rfl ⟨by omega, by omega⟩ (by decide) rfl rfl rfl rfl (n_rng _) (oDec_at oX12_asksAll 68 rfl) ?_
        refine r_pc C 124 rfl ?_
        refine r_aload_n C (j := 0) (oDec_at oX12_asksAll 69 rfl) rfl rfl ?_
        refine r_getF (k := 59) (b := 109) C oCl12 rfl (by decide) flX12_133 rfl rfl rfl (oDec_at oX12_asksAll 70 rfl) ?_
        refine r_bipush C (oDec_at oX12_asksAll 71 rfl) (v := k6) (by rw [qk6]; rfl) ?_
        refine r_aload_n C (j := 0) (oDec_at oX12_asksAll 72 rfl) rfl rfl ?_
        refine r_geti (k := 62) (lo := (-2147483648)) (hi := 2147483647) C v12 oCl12 rfl (by decide) flX12_443 rfl rfl (((pI_ne (a := 71) (b := 62) (c := 109) _ _ (Or.inl (by decide)))).trans (((pI_ne (a := 71) (b := 62) (c := 109) _ _ (Or.inl (by decide)))).trans (ev12))) rfl rfl (oDec_at oX12_asksAll 73 rfl) (fun _ _ => ?_)
        refine r_ldcw C (v := km1000000000) (by rw [qkm1000000000]; exact kcX12_398) (oDec_at oX12_asksAll 74 rfl) ?_
        refine r_pc C 137 rfl ?_
        refine r_icmp_eq C 150 (oDec_at oX12_asksAll 75 rfl) (by decide) (fun cd30 => ?_) (fun cd30 => ?_)
        · skip
          refine r_bipush C (oDec_at oX12_asksAll 80 rfl) (v := k7) (by rw [qk7]; rfl) ?_
          refine r_goto C (tgt := 169) (oDec_at oX12_asksAll 81 rfl) (by decide) ?_
          refine r_iast (n := 8) (lo := (-2147483648)) (hi := 2147483647) C rfl (by decide) rfl rfl ⟨by omega, by omega⟩ (by decide) rfl rfl rfl rfl (n_rng _) (oDec_at oX12_asksAll 89 rfl) ?_
          refine r_aload_n C (j := 0) (oDec_at oX12_asksAll 90 rfl) rfl rfl ?_
          refine r_getF (k := 59) (b := 109) C oCl12 rfl (by decide) flX12_133 rfl rfl rfl (oDec_at oX12_asksAll 91 rfl) ?_
          refine r_bipush C (oDec_at oX12_asksAll 92 rfl) (v := k7) (by rw [qk7]; rfl) ?_
          refine r_iload_n C (j := 2) (oDec_at oX12_asksAll 93 rfl) rfl rfl ?_
          refine r_pc C 177 rfl ?_
          refine r_if_eq C 184 (oDec_at oX12_asksAll 94 rfl) (by decide) (fun cd31 => ?_) (fun cd31 => ?_)
          · skip
            refine r_iconst C (oDec_at oX12_asksAll 97 rfl) (v := k0) (by rw [qk0]; rfl) ?_
            refine r_iast (n := 8) (lo := (-2147483648)) (hi := 2147483647) C rfl (by decide) rfl rfl ⟨by omega, by omega⟩ (by decide) rfl rfl rfl rfl (n_rng _) (oDec_at oX12_asksAll 98 rfl) ?_
            exact r_vret C (oDec_at oX12_asksAll 99 rfl) ⟨rfl, trivial⟩
          · skip
            refine r_iconst C (oDec_at oX12_asksAll 95 rfl) (v := k1) (by rw [qk1]; rfl) ?_
            refine r_goto C (tgt := 185) (oDec_at oX12_asksAll 96 rfl) (by decide) ?_
            refine r_iast (n := 8) (lo := (-2147483648)) (hi := 2147483647) C rfl (by decide) rfl rfl ⟨by omega, by omega⟩ (by decide) rfl rfl rfl rfl (n_rng _) (oDec_at oX12_asksAll 98 rfl) ?_
            exact r_vret C (oDec_at oX12_asksAll 99 rfl) ⟨rfl, trivial⟩
        · omega
      · skip
        refine r_iconst C (oDec_at oX12_asksAll 61 rfl) (v := k0) (by rw [qk0]; rfl) ?_
        refine r_goto C (tgt := 123) (oDec_at oX12_asksAll 62 rfl) (by decide) ?_
        refine r_iast (n := 8) (lo := (-2147483648)) (hi := 2147483647) C rfl (by decide) rfl rfl ⟨by omega, by omega⟩ (by decide) rfl rfl rfl rfl (n_rng _) (oDec_at oX12_asksAll 68 rfl) ?_
        refine r_aload_n C (j := 0) (oDec_at oX12_asksAll 69 rfl) rfl rfl ?_
        refine r_getF (k := 59) (b := 109) C oCl12 rfl (by decide) flX12_133 rfl rfl rfl (oDec_at oX12_asksAll 70 rfl) ?_
        refine r_bipush C (oDec_at oX12_asksAll 71 rfl) (v := k6) (by rw [qk6]; rfl) ?_
        refine r_aload_n C (j := 0) (oDec_at oX12_asksAll 72 rfl) rfl rfl ?_
        refine r_pc C 131 rfl ?_
        refine r_geti (k := 62) (lo := (-2147483648)) (hi := 2147483647) C v12 oCl12 rfl (by decide) flX12_443 rfl rfl (((pI_ne (a := 71) (b := 62) (c := 109) _ _ (Or.inl (by decide)))).trans (((pI_ne (a := 71) (b := 62) (c := 109) _ _ (Or.inl (by decide)))).trans (ev12))) rfl rfl (oDec_at oX12_asksAll 73 rfl) (fun _ _ => ?_)
        refine r_ldcw C (v := km1000000000) (by rw [qkm1000000000]; exact kcX12_398) (oDec_at oX12_asksAll 74 rfl) ?_
        refine r_icmp_eq C 150 (oDec_at oX12_asksAll 75 rfl) (by decide) (fun cd32 => ?_) (fun cd32 => ?_)
        · skip
          refine r_bipush C (oDec_at oX12_asksAll 80 rfl) (v := k7) (by rw [qk7]; rfl) ?_
          refine r_goto C (tgt := 169) (oDec_at oX12_asksAll 81 rfl) (by decide) ?_
          refine r_iast (n := 8) (lo := (-2147483648)) (hi := 2147483647) C rfl (by decide) rfl rfl ⟨by omega, by omega⟩ (by decide) rfl rfl rfl rfl (n_rng _) (oDec_at oX12_asksAll 89 rfl) ?_
          refine r_aload_n C (j := 0) (oDec_at oX12_asksAll 90 rfl) rfl rfl ?_
          refine r_getF (k := 59) (b := 109) C oCl12 rfl (by decide) flX12_133 rfl rfl rfl (oDec_at oX12_asksAll 91 rfl) ?_
          refine r_bipush C (oDec_at oX12_asksAll 92 rfl) (v := k7) (by rw [qk7]; rfl) ?_
          refine r_iload_n C (j := 2) (oDec_at oX12_asksAll 93 rfl) rfl rfl ?_
          refine r_pc C 177 rfl ?_
          refine r_if_eq C 184 (oDec_at oX12_asksAll 94 rfl) (by decide) (fun cd33 => ?_) (fun cd33 => ?_)
          · skip
            refine r_iconst C (oDec_at oX12_asksAll 97 rfl) (v := k0) (by rw [qk0]; rfl) ?_
            refine r_iast (n := 8) (lo := (-2147483648)) (hi := 2147483647) C rfl (by decide) rfl rfl ⟨by omega, by omega⟩ (by decide) rfl rfl rfl rfl (n_rng _) (oDec_at oX12_asksAll 98 rfl) ?_
            exact r_vret C (oDec_at oX12_asksAll 99 rfl) ⟨rfl, trivial⟩
          · skip
            refine r_iconst C (oDec_at oX12_asksAll 95 rfl) (v := k1) (by rw [qk1]; rfl) ?_
            refine r_goto C (tgt := 185) (oDec_at oX12_asksAll 96 rfl) (by decide) ?_
            refine r_iast (n := 8) (lo := (-2147483648)) (hi := 2147483647) C rfl (by decide) rfl rfl ⟨by omega, by omega⟩ (by decide) rfl rfl rfl rfl (n_rng _) (oDec_at oX12_asksAll 98 rfl) ?_
            exact r_vret C (oDec_at oX12_asksAll 99 rfl) ⟨rfl, trivial⟩
        · omega
  · skip
    refine r_iconst C (oDec_at oX12_asksAll 27 rfl) (v := k1) (by rw [qk1]; rfl) ?_
    refine r_goto C (tgt := 53) (oDec_at oX12_asksAll 28 rfl) (by decide) ?_
    refine r_iast (n := 8) (lo := (-2147483648)) (hi := 2147483647) C rfl (by decide) rfl rfl ⟨by omega, by omega⟩ (by decide) rfl rfl rfl rfl (n_rng _) (oDec_at oX12_asksAll 30 rfl) ?_
    refine r_aload_n C (j := 0) (oDec_at oX12_asksAll 31 rfl) rfl rfl ?_
    refine r_getF (k := 59) (b := 109) C oCl12 rfl (by decide) flX12_133 rfl rfl rfl (oDec_at oX12_asksAll 32 rfl) ?_
    refine r_iconst C (oDec_at oX12_asksAll 33 rfl) (v := k3) (by rw [qk3]; rfl) ?_
    refine r_iload_n C (j := 1) (oDec_at oX12_asksAll 34 rfl) rfl rfl ?_
    refine r_pc C 60 rfl ?_
    refine r_aload_n C (j := 0) (oDec_at oX12_asksAll 35 rfl) rfl rfl ?_
    obtain ⟨v34, ev34⟩ : ∃ z : Int32, ((pI (pI (pI s 109 k0.toNatClampNeg r4) 109 k1.toNatClampNeg v7) 109 k2.toNatClampNeg k1)).1 71 53 = z := ⟨_, rfl⟩
    have gv34 : (s.1 71 53).toInt = v34.toInt := congrArg Int32.toInt ((((pI_ne (a := 71) (b := 53) (c := 109) _ _ (Or.inl (by decide)))).trans (((pI_ne (a := 71) (b := 53) (c := 109) _ _ (Or.inl (by decide)))).trans ((pI_ne (a := 71) (b := 53) (c := 109) _ _ (Or.inl (by decide)))))).symm.trans ev34)
    refine r_geti (k := 53) (lo := 2) (hi := 12) C v34 oCl12 rfl (by decide) flX12_127 rfl rfl (ev34) rfl rfl (oDec_at oX12_asksAll 36 rfl) (fun b35 b35h => ?_)
    obtain ⟨v36, ev36⟩ : ∃ z : Int32, z = a1 - a1 / v34 * v34 := ⟨_, rfl⟩
    have rv36 := n_rng v36
    refine r_irem C v36 (oDec_at oX12_asksAll 37 rfl) (n_ne0 (by omega)) ev36 ?_
    refine r_iast (n := 8) (lo := (-2147483648)) (hi := 2147483647) C rfl (by decide) rfl rfl ⟨by omega, by omega⟩ (by decide) rfl rfl rfl rfl (n_rng _) (oDec_at oX12_asksAll 38 rfl) ?_
    refine r_aload_n C (j := 0) (oDec_at oX12_asksAll 39 rfl) rfl rfl ?_
    refine r_getF (k := 59) (b := 109) C oCl12 rfl (by decide) flX12_133 rfl rfl rfl (oDec_at oX12_asksAll 40 rfl) ?_
    refine r_pc C 70 rfl ?_
    refine r_iconst C (oDec_at oX12_asksAll 41 rfl) (v := k4) (by rw [qk4]; rfl) ?_
    refine r_aload_n C (j := 0) (oDec_at oX12_asksAll 42 rfl) rfl rfl ?_
    obtain ⟨v37, ev37⟩ : ∃ z : Int32, ((pI (pI (pI (pI s 109 k0.toNatClampNeg r4) 109 k1.toNatClampNeg v7) 109 k2.toNatClampNeg k1) 109 k3.toNatClampNeg v36)).1 71 62 = z := ⟨_, rfl⟩
    have gv37 : (s.1 71 62).toInt = v37.toInt := congrArg Int32.toInt ((((pI_ne (a := 71) (b := 62) (c := 109) _ _ (Or.inl (by decide)))).trans (((pI_ne (a := 71) (b := 62) (c := 109) _ _ (Or.inl (by decide)))).trans (((pI_ne (a := 71) (b := 62) (c := 109) _ _ (Or.inl (by decide)))).trans ((pI_ne (a := 71) (b := 62) (c := 109) _ _ (Or.inl (by decide))))))).symm.trans ev37)
    have rv37 := n_rng v37
    refine r_geti (k := 62) (lo := (-2147483648)) (hi := 2147483647) C v37 oCl12 rfl (by decide) flX12_443 rfl rfl (ev37) rfl rfl (oDec_at oX12_asksAll 43 rfl) (fun _ _ => ?_)
    refine r_ldcw C (v := km1000000000) (by rw [qkm1000000000]; exact kcX12_398) (oDec_at oX12_asksAll 44 rfl) ?_
    refine r_icmp_ne C 85 (oDec_at oX12_asksAll 45 rfl) (by decide) (fun cd38 => ?_) (fun cd38 => ?_)
    · skip
      refine r_aload_n C (j := 0) (oDec_at oX12_asksAll 48 rfl) rfl rfl ?_
      refine r_geti (k := 60) (lo := (-2147483648)) (hi := 2147483647) C v1 oCl12 rfl (by decide) flX12_434 rfl rfl (((pI_ne (a := 71) (b := 60) (c := 109) _ _ (Or.inl (by decide)))).trans (((pI_ne (a := 71) (b := 60) (c := 109) _ _ (Or.inl (by decide)))).trans (((pI_ne (a := 71) (b := 60) (c := 109) _ _ (Or.inl (by decide)))).trans (((pI_ne (a := 71) (b := 60) (c := 109) _ _ (Or.inl (by decide)))).trans (ev1))))) rfl rfl (oDec_at oX12_asksAll 49 rfl) (fun _ _ => ?_)
      refine r_aload_n C (j := 0) (oDec_at oX12_asksAll 50 rfl) rfl rfl ?_
      refine r_geti (k := 62) (lo := (-2147483648)) (hi := 2147483647) C v37 oCl12 rfl (by decide) flX12_443 rfl rfl (ev37) rfl rfl (oDec_at oX12_asksAll 51 rfl) (fun _ _ => ?_)
      obtain ⟨v39, ev39⟩ : ∃ z : Int32, z = v1 - v37 := ⟨_, rfl⟩
      have rv39 := n_rng v39
      refine r_isub C v39 (oDec_at oX12_asksAll 52 rfl) ev39 ?_
      refine r_iast (n := 8) (lo := (-2147483648)) (hi := 2147483647) C rfl (by decide) rfl rfl ⟨by omega, by omega⟩ (by decide) rfl rfl rfl rfl (n_rng _) (oDec_at oX12_asksAll 53 rfl) ?_
      refine r_pc C 95 rfl ?_
      refine r_aload_n C (j := 0) (oDec_at oX12_asksAll 54 rfl) rfl rfl ?_
      refine r_getF (k := 59) (b := 109) C oCl12 rfl (by decide) flX12_133 rfl rfl rfl (oDec_at oX12_asksAll 55 rfl) ?_
      refine r_iconst C (oDec_at oX12_asksAll 56 rfl) (v := k5) (by rw [qk5]; rfl) ?_
      refine r_aload_n C (j := 0) (oDec_at oX12_asksAll 57 rfl) rfl rfl ?_
      obtain ⟨v40, ev40⟩ : ∃ z : Int32, ((pI (pI (pI (pI (pI s 109 k0.toNatClampNeg r4) 109 k1.toNatClampNeg v7) 109 k2.toNatClampNeg k1) 109 k3.toNatClampNeg v36) 109 k4.toNatClampNeg v39)).1 71 63 = z := ⟨_, rfl⟩
      have gv40 : (s.1 71 63).toInt = v40.toInt := congrArg Int32.toInt ((((pI_ne (a := 71) (b := 63) (c := 109) _ _ (Or.inl (by decide)))).trans (((pI_ne (a := 71) (b := 63) (c := 109) _ _ (Or.inl (by decide)))).trans (((pI_ne (a := 71) (b := 63) (c := 109) _ _ (Or.inl (by decide)))).trans (((pI_ne (a := 71) (b := 63) (c := 109) _ _ (Or.inl (by decide)))).trans ((pI_ne (a := 71) (b := 63) (c := 109) _ _ (Or.inl (by decide)))))))).symm.trans ev40)
      have rv40 := n_rng v40
      refine r_geti (k := 63) (lo := (-2147483648)) (hi := 2147483647) C v40 oCl12 rfl (by decide) flX12_446 rfl rfl (ev40) rfl rfl (oDec_at oX12_asksAll 58 rfl) (fun _ _ => ?_)
      refine r_ldcw C (v := km1000000000) (by rw [qkm1000000000]; exact kcX12_398) (oDec_at oX12_asksAll 59 rfl) ?_
      refine r_pc C 107 rfl ?_
      refine r_icmp_ne C 114 (oDec_at oX12_asksAll 60 rfl) (by decide) (fun cd41 => ?_) (fun cd41 => ?_)
      · skip
        refine r_aload_n C (j := 0) (oDec_at oX12_asksAll 63 rfl) rfl rfl ?_
        refine r_geti (k := 61) (lo := (-2147483648)) (hi := 2147483647) C v2 oCl12 rfl (by decide) flX12_437 rfl rfl (((pI_ne (a := 71) (b := 61) (c := 109) _ _ (Or.inl (by decide)))).trans (((pI_ne (a := 71) (b := 61) (c := 109) _ _ (Or.inl (by decide)))).trans (((pI_ne (a := 71) (b := 61) (c := 109) _ _ (Or.inl (by decide)))).trans (((pI_ne (a := 71) (b := 61) (c := 109) _ _ (Or.inl (by decide)))).trans (((pI_ne (a := 71) (b := 61) (c := 109) _ _ (Or.inl (by decide)))).trans (ev2)))))) rfl rfl (oDec_at oX12_asksAll 64 rfl) (fun _ _ => ?_)
        refine r_aload_n C (j := 0) (oDec_at oX12_asksAll 65 rfl) rfl rfl ?_
        refine r_geti (k := 63) (lo := (-2147483648)) (hi := 2147483647) C v40 oCl12 rfl (by decide) flX12_446 rfl rfl (ev40) rfl rfl (oDec_at oX12_asksAll 66 rfl) (fun _ _ => ?_)
        obtain ⟨v42, ev42⟩ : ∃ z : Int32, z = v2 - v40 := ⟨_, rfl⟩
        have rv42 := n_rng v42
        refine r_isub C v42 (oDec_at oX12_asksAll 67 rfl) ev42 ?_
        refine r_iast (n := 8) (lo := (-2147483648)) (hi := 2147483647) C rfl (by decide) rfl rfl ⟨by omega, by omega⟩ (by decide) rfl rfl rfl rfl (n_rng _) (oDec_at oX12_asksAll 68 rfl) ?_
        refine r_pc C 124 rfl ?_
        refine r_aload_n C (j := 0) (oDec_at oX12_asksAll 69 rfl) rfl rfl ?_
        refine r_getF (k := 59) (b := 109) C oCl12 rfl (by decide) flX12_133 rfl rfl rfl (oDec_at oX12_asksAll 70 rfl) ?_
        refine r_bipush C (oDec_at oX12_asksAll 71 rfl) (v := k6) (by rw [qk6]; rfl) ?_
        refine r_aload_n C (j := 0) (oDec_at oX12_asksAll 72 rfl) rfl rfl ?_
        refine r_geti (k := 62) (lo := (-2147483648)) (hi := 2147483647) C v37 oCl12 rfl (by decide) flX12_443 rfl rfl (((pI_ne (a := 71) (b := 62) (c := 109) _ _ (Or.inl (by decide)))).trans (((pI_ne (a := 71) (b := 62) (c := 109) _ _ (Or.inl (by decide)))).trans (ev37))) rfl rfl (oDec_at oX12_asksAll 73 rfl) (fun _ _ => ?_)
        refine r_ldcw C (v := km1000000000) (by rw [qkm1000000000]; exact kcX12_398) (oDec_at oX12_asksAll 74 rfl) ?_
        refine r_pc C 137 rfl ?_
        refine r_icmp_eq C 150 (oDec_at oX12_asksAll 75 rfl) (by decide) (fun cd43 => ?_) (fun cd43 => ?_)
        · omega
        · skip
          refine r_aload_n C (j := 0) (oDec_at oX12_asksAll 76 rfl) rfl rfl ?_
          refine r_geti (k := 63) (lo := (-2147483648)) (hi := 2147483647) C v40 oCl12 rfl (by decide) flX12_446 rfl rfl (((pI_ne (a := 71) (b := 63) (c := 109) _ _ (Or.inl (by decide)))).trans (ev40)) rfl rfl (oDec_at oX12_asksAll 77 rfl) (fun _ _ => ?_)
          refine r_ldcw C (v := km1000000000) (by rw [qkm1000000000]; exact kcX12_398) (oDec_at oX12_asksAll 78 rfl) ?_
          refine r_icmp_ne C 155 (oDec_at oX12_asksAll 79 rfl) (by decide) (fun cd44 => ?_) (fun cd44 => ?_)
          · skip
            refine r_aload_n C (j := 0) (oDec_at oX12_asksAll 82 rfl) rfl rfl ?_
            refine r_geti (k := 62) (lo := (-2147483648)) (hi := 2147483647) C v37 oCl12 rfl (by decide) flX12_443 rfl rfl (((pI_ne (a := 71) (b := 62) (c := 109) _ _ (Or.inl (by decide)))).trans (((pI_ne (a := 71) (b := 62) (c := 109) _ _ (Or.inl (by decide)))).trans (ev37))) rfl rfl (oDec_at oX12_asksAll 83 rfl) (fun _ _ => ?_)
            refine r_aload_n C (j := 0) (oDec_at oX12_asksAll 84 rfl) rfl rfl ?_
            refine r_geti (k := 63) (lo := (-2147483648)) (hi := 2147483647) C v40 oCl12 rfl (by decide) flX12_446 rfl rfl (((pI_ne (a := 71) (b := 63) (c := 109) _ _ (Or.inl (by decide)))).trans (ev40)) rfl rfl (oDec_at oX12_asksAll 85 rfl) (fun _ _ => ?_)
            refine r_callSi C miX12_apart mlX12_440 (ct_X12_apart l E ((pI (pI (pI (pI (pI (pI s 109 k0.toNatClampNeg r4) 109 k1.toNatClampNeg v7) 109 k2.toNatClampNeg k1) 109 k3.toNatClampNeg v36) 109 k4.toNatClampNeg v39) 109 k5.toNatClampNeg v42)) v37 v40 ) (by decide) rfl rfl rfl (Nat.le_of_ble_eq_true rfl) (oDec_at oX12_asksAll 86 rfl) (fun r46 u45 pu45 fu45 => ?_)
            try dsimp only at pu45
            have hxu45 := oFr_nil fu45; subst hxu45
            have rr46 := n_rng r46
            refine r_bipush C (oDec_at oX12_asksAll 87 rfl) (v := k7) (by rw [qk7]; rfl) ?_
            refine r_pc C 168 rfl ?_
            obtain ⟨v47, ev47⟩ : ∃ z : Int32, z = r46 - r46 / k7 * k7 := ⟨_, rfl⟩
            have hv47 := n_rem (k := 7) ev47 ek7 (by decide)
            have rv47 := n_rng v47
            refine r_irem C v47 (oDec_at oX12_asksAll 88 rfl) (n_ne0 (by omega)) ev47 ?_
            refine r_iast (n := 8) (lo := (-2147483648)) (hi := 2147483647) C rfl (by decide) rfl rfl ⟨by omega, by omega⟩ (by decide) rfl rfl rfl rfl (n_rng _) (oDec_at oX12_asksAll 89 rfl) ?_
            refine r_aload_n C (j := 0) (oDec_at oX12_asksAll 90 rfl) rfl rfl ?_
            refine r_getF (k := 59) (b := 109) C oCl12 rfl (by decide) flX12_133 rfl rfl rfl (oDec_at oX12_asksAll 91 rfl) ?_
            refine r_bipush C (oDec_at oX12_asksAll 92 rfl) (v := k7) (by rw [qk7]; rfl) ?_
            refine r_iload_n C (j := 2) (oDec_at oX12_asksAll 93 rfl) rfl rfl ?_
            refine r_pc C 177 rfl ?_
            refine r_if_eq C 184 (oDec_at oX12_asksAll 94 rfl) (by decide) (fun cd48 => ?_) (fun cd48 => ?_)
            · skip
              refine r_iconst C (oDec_at oX12_asksAll 97 rfl) (v := k0) (by rw [qk0]; rfl) ?_
              refine r_iast (n := 8) (lo := (-2147483648)) (hi := 2147483647) C rfl (by decide) rfl rfl ⟨by omega, by omega⟩ (by decide) rfl rfl rfl rfl (n_rng _) (oDec_at oX12_asksAll 98 rfl) ?_
              exact r_vret C (oDec_at oX12_asksAll 99 rfl) ⟨rfl, trivial⟩
            · skip
              refine r_iconst C (oDec_at oX12_asksAll 95 rfl) (v := k1) (by rw [qk1]; rfl) ?_
              refine r_goto C (tgt := 185) (oDec_at oX12_asksAll 96 rfl) (by decide) ?_
              refine r_iast (n := 8) (lo := (-2147483648)) (hi := 2147483647) C rfl (by decide) rfl rfl ⟨by omega, by omega⟩ (by decide) rfl rfl rfl rfl (n_rng _) (oDec_at oX12_asksAll 98 rfl) ?_
              exact r_vret C (oDec_at oX12_asksAll 99 rfl) ⟨rfl, trivial⟩
          · omega
      · skip
        refine r_iconst C (oDec_at oX12_asksAll 61 rfl) (v := k0) (by rw [qk0]; rfl) ?_
        refine r_goto C (tgt := 123) (oDec_at oX12_asksAll 62 rfl) (by decide) ?_
        refine r_iast (n := 8) (lo := (-2147483648)) (hi := 2147483647) C rfl (by decide) rfl rfl ⟨by omega, by omega⟩ (by decide) rfl rfl rfl rfl (n_rng _) (oDec_at oX12_asksAll 68 rfl) ?_
        refine r_aload_n C (j := 0) (oDec_at oX12_asksAll 69 rfl) rfl rfl ?_
        refine r_getF (k := 59) (b := 109) C oCl12 rfl (by decide) flX12_133 rfl rfl rfl (oDec_at oX12_asksAll 70 rfl) ?_
        refine r_bipush C (oDec_at oX12_asksAll 71 rfl) (v := k6) (by rw [qk6]; rfl) ?_
        refine r_aload_n C (j := 0) (oDec_at oX12_asksAll 72 rfl) rfl rfl ?_
        refine r_pc C 131 rfl ?_
        refine r_geti (k := 62) (lo := (-2147483648)) (hi := 2147483647) C v37 oCl12 rfl (by decide) flX12_443 rfl rfl (((pI_ne (a := 71) (b := 62) (c := 109) _ _ (Or.inl (by decide)))).trans (((pI_ne (a := 71) (b := 62) (c := 109) _ _ (Or.inl (by decide)))).trans (ev37))) rfl rfl (oDec_at oX12_asksAll 73 rfl) (fun _ _ => ?_)
        refine r_ldcw C (v := km1000000000) (by rw [qkm1000000000]; exact kcX12_398) (oDec_at oX12_asksAll 74 rfl) ?_
        refine r_icmp_eq C 150 (oDec_at oX12_asksAll 75 rfl) (by decide) (fun cd49 => ?_) (fun cd49 => ?_)
        · omega
        · skip
          refine r_aload_n C (j := 0) (oDec_at oX12_asksAll 76 rfl) rfl rfl ?_
          refine r_geti (k := 63) (lo := (-2147483648)) (hi := 2147483647) C v40 oCl12 rfl (by decide) flX12_446 rfl rfl (((pI_ne (a := 71) (b := 63) (c := 109) _ _ (Or.inl (by decide)))).trans (ev40)) rfl rfl (oDec_at oX12_asksAll 77 rfl) (fun _ _ => ?_)
          refine r_ldcw C (v := km1000000000) (by rw [qkm1000000000]; exact kcX12_398) (oDec_at oX12_asksAll 78 rfl) ?_
          refine r_icmp_ne C 155 (oDec_at oX12_asksAll 79 rfl) (by decide) (fun cd50 => ?_) (fun cd50 => ?_)
          · omega
          · skip
            refine r_bipush C (oDec_at oX12_asksAll 80 rfl) (v := k7) (by rw [qk7]; rfl) ?_
            refine r_goto C (tgt := 169) (oDec_at oX12_asksAll 81 rfl) (by decide) ?_
            refine r_iast (n := 8) (lo := (-2147483648)) (hi := 2147483647) C rfl (by decide) rfl rfl ⟨by omega, by omega⟩ (by decide) rfl rfl rfl rfl (n_rng _) (oDec_at oX12_asksAll 89 rfl) ?_
            refine r_aload_n C (j := 0) (oDec_at oX12_asksAll 90 rfl) rfl rfl ?_
            refine r_getF (k := 59) (b := 109) C oCl12 rfl (by decide) flX12_133 rfl rfl rfl (oDec_at oX12_asksAll 91 rfl) ?_
            refine r_bipush C (oDec_at oX12_asksAll 92 rfl) (v := k7) (by rw [qk7]; rfl) ?_
            refine r_iload_n C (j := 2) (oDec_at oX12_asksAll 93 rfl) rfl rfl ?_
            refine r_pc C 177 rfl ?_
            refine r_if_eq C 184 (oDec_at oX12_asksAll 94 rfl) (by decide) (fun cd51 => ?_) (fun cd51 => ?_)
            · skip
              refine r_iconst C (oDec_at oX12_asksAll 97 rfl) (v := k0) (by rw [qk0]; rfl) ?_
              refine r_iast (n := 8) (lo := (-2147483648)) (hi := 2147483647) C rfl (by decide) rfl rfl ⟨by omega, by omega⟩ (by decide) rfl rfl rfl rfl (n_rng _) (oDec_at oX12_asksAll 98 rfl) ?_
              exact r_vret C (oDec_at oX12_asksAll 99 rfl) ⟨rfl, trivial⟩
            · skip
              refine r_iconst C (oDec_at oX12_asksAll 95 rfl) (v := k1) (by rw [qk1]; rfl) ?_
              refine r_goto C (tgt := 185) (oDec_at oX12_asksAll 96 rfl) (by decide) ?_
              refine r_iast (n := 8) (lo := (-2147483648)) (hi := 2147483647) C rfl (by decide) rfl rfl ⟨by omega, by omega⟩ (by decide) rfl rfl rfl rfl (n_rng _) (oDec_at oX12_asksAll 98 rfl) ?_
              exact r_vret C (oDec_at oX12_asksAll 99 rfl) ⟨rfl, trivial⟩
    · skip
      refine r_iconst C (oDec_at oX12_asksAll 46 rfl) (v := k0) (by rw [qk0]; rfl) ?_
      refine r_goto C (tgt := 94) (oDec_at oX12_asksAll 47 rfl) (by decide) ?_
      refine r_iast (n := 8) (lo := (-2147483648)) (hi := 2147483647) C rfl (by decide) rfl rfl ⟨by omega, by omega⟩ (by decide) rfl rfl rfl rfl (n_rng _) (oDec_at oX12_asksAll 53 rfl) ?_
      refine r_aload_n C (j := 0) (oDec_at oX12_asksAll 54 rfl) rfl rfl ?_
      refine r_getF (k := 59) (b := 109) C oCl12 rfl (by decide) flX12_133 rfl rfl rfl (oDec_at oX12_asksAll 55 rfl) ?_
      refine r_iconst C (oDec_at oX12_asksAll 56 rfl) (v := k5) (by rw [qk5]; rfl) ?_
      refine r_aload_n C (j := 0) (oDec_at oX12_asksAll 57 rfl) rfl rfl ?_
      refine r_pc C 101 rfl ?_
      obtain ⟨v52, ev52⟩ : ∃ z : Int32, ((pI (pI (pI (pI (pI s 109 k0.toNatClampNeg r4) 109 k1.toNatClampNeg v7) 109 k2.toNatClampNeg k1) 109 k3.toNatClampNeg v36) 109 k4.toNatClampNeg k0)).1 71 63 = z := ⟨_, rfl⟩
      have gv52 : (s.1 71 63).toInt = v52.toInt := congrArg Int32.toInt ((((pI_ne (a := 71) (b := 63) (c := 109) _ _ (Or.inl (by decide)))).trans (((pI_ne (a := 71) (b := 63) (c := 109) _ _ (Or.inl (by decide)))).trans (((pI_ne (a := 71) (b := 63) (c := 109) _ _ (Or.inl (by decide)))).trans (((pI_ne (a := 71) (b := 63) (c := 109) _ _ (Or.inl (by decide)))).trans ((pI_ne (a := 71) (b := 63) (c := 109) _ _ (Or.inl (by decide)))))))).symm.trans ev52)
      have rv52 := n_rng v52
      refine r_geti (k := 63) (lo := (-2147483648)) (hi := 2147483647) C v52 oCl12 rfl (by decide) flX12_446 rfl rfl (ev52) rfl rfl (oDec_at oX12_asksAll 58 rfl) (fun _ _ => ?_)
      refine r_ldcw C (v := km1000000000) (by rw [qkm1000000000]; exact kcX12_398) (oDec_at oX12_asksAll 59 rfl) ?_
      refine r_icmp_ne C 114 (oDec_at oX12_asksAll 60 rfl) (by decide) (fun cd53 => ?_) (fun cd53 => ?_)
      · skip
        refine r_aload_n C (j := 0) (oDec_at oX12_asksAll 63 rfl) rfl rfl ?_
        refine r_geti (k := 61) (lo := (-2147483648)) (hi := 2147483647) C v2 oCl12 rfl (by decide) flX12_437 rfl rfl (((pI_ne (a := 71) (b := 61) (c := 109) _ _ (Or.inl (by decide)))).trans (((pI_ne (a := 71) (b := 61) (c := 109) _ _ (Or.inl (by decide)))).trans (((pI_ne (a := 71) (b := 61) (c := 109) _ _ (Or.inl (by decide)))).trans (((pI_ne (a := 71) (b := 61) (c := 109) _ _ (Or.inl (by decide)))).trans (((pI_ne (a := 71) (b := 61) (c := 109) _ _ (Or.inl (by decide)))).trans (ev2)))))) rfl rfl (oDec_at oX12_asksAll 64 rfl) (fun _ _ => ?_)
        refine r_aload_n C (j := 0) (oDec_at oX12_asksAll 65 rfl) rfl rfl ?_
        refine r_geti (k := 63) (lo := (-2147483648)) (hi := 2147483647) C v52 oCl12 rfl (by decide) flX12_446 rfl rfl (ev52) rfl rfl (oDec_at oX12_asksAll 66 rfl) (fun _ _ => ?_)
        obtain ⟨v54, ev54⟩ : ∃ z : Int32, z = v2 - v52 := ⟨_, rfl⟩
        have rv54 := n_rng v54
        refine r_isub C v54 (oDec_at oX12_asksAll 67 rfl) ev54 ?_
        refine r_iast (n := 8) (lo := (-2147483648)) (hi := 2147483647) C rfl (by decide) rfl rfl ⟨by omega, by omega⟩ (by decide) rfl rfl rfl rfl (n_rng _) (oDec_at oX12_asksAll 68 rfl) ?_
        refine r_pc C 124 rfl ?_
        refine r_aload_n C (j := 0) (oDec_at oX12_asksAll 69 rfl) rfl rfl ?_
        refine r_getF (k := 59) (b := 109) C oCl12 rfl (by decide) flX12_133 rfl rfl rfl (oDec_at oX12_asksAll 70 rfl) ?_
        refine r_bipush C (oDec_at oX12_asksAll 71 rfl) (v := k6) (by rw [qk6]; rfl) ?_
        refine r_aload_n C (j := 0) (oDec_at oX12_asksAll 72 rfl) rfl rfl ?_
        refine r_geti (k := 62) (lo := (-2147483648)) (hi := 2147483647) C v37 oCl12 rfl (by decide) flX12_443 rfl rfl (((pI_ne (a := 71) (b := 62) (c := 109) _ _ (Or.inl (by decide)))).trans (((pI_ne (a := 71) (b := 62) (c := 109) _ _ (Or.inl (by decide)))).trans (ev37))) rfl rfl (oDec_at oX12_asksAll 73 rfl) (fun _ _ => ?_)
        refine r_ldcw C (v := km1000000000) (by rw [qkm1000000000]; exact kcX12_398) (oDec_at oX12_asksAll 74 rfl) ?_
        refine r_pc C 137 rfl ?_
        refine r_icmp_eq C 150 (oDec_at oX12_asksAll 75 rfl) (by decide) (fun cd55 => ?_) (fun cd55 => ?_)
        · skip
          refine r_bipush C (oDec_at oX12_asksAll 80 rfl) (v := k7) (by rw [qk7]; rfl) ?_
          refine r_goto C (tgt := 169) (oDec_at oX12_asksAll 81 rfl) (by decide) ?_
          refine r_iast (n := 8) (lo := (-2147483648)) (hi := 2147483647) C rfl (by decide) rfl rfl ⟨by omega, by omega⟩ (by decide) rfl rfl rfl rfl (n_rng _) (oDec_at oX12_asksAll 89 rfl) ?_
          refine r_aload_n C (j := 0) (oDec_at oX12_asksAll 90 rfl) rfl rfl ?_
          refine r_getF (k := 59) (b := 109) C oCl12 rfl (by decide) flX12_133 rfl rfl rfl (oDec_at oX12_asksAll 91 rfl) ?_
          refine r_bipush C (oDec_at oX12_asksAll 92 rfl) (v := k7) (by rw [qk7]; rfl) ?_
          refine r_iload_n C (j := 2) (oDec_at oX12_asksAll 93 rfl) rfl rfl ?_
          refine r_pc C 177 rfl ?_
          refine r_if_eq C 184 (oDec_at oX12_asksAll 94 rfl) (by decide) (fun cd56 => ?_) (fun cd56 => ?_)
          · skip
            refine r_iconst C (oDec_at oX12_asksAll 97 rfl) (v := k0) (by rw [qk0]; rfl) ?_
            refine r_iast (n := 8) (lo := (-2147483648)) (hi := 2147483647) C rfl (by decide) rfl rfl ⟨by omega, by omega⟩ (by decide) rfl rfl rfl rfl (n_rng _) (oDec_at oX12_asksAll 98 rfl) ?_
            exact r_vret C (oDec_at oX12_asksAll 99 rfl) ⟨rfl, trivial⟩
          · skip
            refine r_iconst C (oDec_at oX12_asksAll 95 rfl) (v := k1) (by rw [qk1]; rfl) ?_
            refine r_goto C (tgt := 185) (oDec_at oX12_asksAll 96 rfl) (by decide) ?_
            refine r_iast (n := 8) (lo := (-2147483648)) (hi := 2147483647) C rfl (by decide) rfl rfl ⟨by omega, by omega⟩ (by decide) rfl rfl rfl rfl (n_rng _) (oDec_at oX12_asksAll 98 rfl) ?_
            exact r_vret C (oDec_at oX12_asksAll 99 rfl) ⟨rfl, trivial⟩
        · omega
      · skip
        refine r_iconst C (oDec_at oX12_asksAll 61 rfl) (v := k0) (by rw [qk0]; rfl) ?_
        refine r_goto C (tgt := 123) (oDec_at oX12_asksAll 62 rfl) (by decide) ?_
        refine r_iast (n := 8) (lo := (-2147483648)) (hi := 2147483647) C rfl (by decide) rfl rfl ⟨by omega, by omega⟩ (by decide) rfl rfl rfl rfl (n_rng _) (oDec_at oX12_asksAll 68 rfl) ?_
        refine r_aload_n C (j := 0) (oDec_at oX12_asksAll 69 rfl) rfl rfl ?_
        refine r_getF (k := 59) (b := 109) C oCl12 rfl (by decide) flX12_133 rfl rfl rfl (oDec_at oX12_asksAll 70 rfl) ?_
        refine r_bipush C (oDec_at oX12_asksAll 71 rfl) (v := k6) (by rw [qk6]; rfl) ?_
        refine r_aload_n C (j := 0) (oDec_at oX12_asksAll 72 rfl) rfl rfl ?_
        refine r_pc C 131 rfl ?_
        refine r_geti (k := 62) (lo := (-2147483648)) (hi := 2147483647) C v37 oCl12 rfl (by decide) flX12_443 rfl rfl (((pI_ne (a := 71) (b := 62) (c := 109) _ _ (Or.inl (by decide)))).trans (((pI_ne (a := 71) (b := 62) (c := 109) _ _ (Or.inl (by decide)))).trans (ev37))) rfl rfl (oDec_at oX12_asksAll 73 rfl) (fun _ _ => ?_)
        refine r_ldcw C (v := km1000000000) (by rw [qkm1000000000]; exact kcX12_398) (oDec_at oX12_asksAll 74 rfl) ?_
        refine r_icmp_eq C 150 (oDec_at oX12_asksAll 75 rfl) (by decide) (fun cd57 => ?_) (fun cd57 => ?_)
        · skip
          refine r_bipush C (oDec_at oX12_asksAll 80 rfl) (v := k7) (by rw [qk7]; rfl) ?_
          refine r_goto C (tgt := 169) (oDec_at oX12_asksAll 81 rfl) (by decide) ?_
          refine r_iast (n := 8) (lo := (-2147483648)) (hi := 2147483647) C rfl (by decide) rfl rfl ⟨by omega, by omega⟩ (by decide) rfl rfl rfl rfl (n_rng _) (oDec_at oX12_asksAll 89 rfl) ?_
          refine r_aload_n C (j := 0) (oDec_at oX12_asksAll 90 rfl) rfl rfl ?_
          refine r_getF (k := 59) (b := 109) C oCl12 rfl (by decide) flX12_133 rfl rfl rfl (oDec_at oX12_asksAll 91 rfl) ?_
          refine r_bipush C (oDec_at oX12_asksAll 92 rfl) (v := k7) (by rw [qk7]; rfl) ?_
          refine r_iload_n C (j := 2) (oDec_at oX12_asksAll 93 rfl) rfl rfl ?_
          refine r_pc C 177 rfl ?_
          refine r_if_eq C 184 (oDec_at oX12_asksAll 94 rfl) (by decide) (fun cd58 => ?_) (fun cd58 => ?_)
          · skip
            refine r_iconst C (oDec_at oX12_asksAll 97 rfl) (v := k0) (by rw [qk0]; rfl) ?_
            refine r_iast (n := 8) (lo := (-2147483648)) (hi := 2147483647) C rfl (by decide) rfl rfl ⟨by omega, by omega⟩ (by decide) rfl rfl rfl rfl (n_rng _) (oDec_at oX12_asksAll 98 rfl) ?_
            exact r_vret C (oDec_at oX12_asksAll 99 rfl) ⟨rfl, trivial⟩
          · skip
            refine r_iconst C (oDec_at oX12_asksAll 95 rfl) (v := k1) (by rw [qk1]; rfl) ?_
            refine r_goto C (tgt := 185) (oDec_at oX12_asksAll 96 rfl) (by decide) ?_
            refine r_iast (n := 8) (lo := (-2147483648)) (hi := 2147483647) C rfl (by decide) rfl rfl ⟨by omega, by omega⟩ (by decide) rfl rfl rfl rfl (n_rng _) (oDec_at oX12_asksAll 98 rfl) ?_
            exact r_vret C (oDec_at oX12_asksAll 99 rfl) ⟨rfl, trivial⟩
        · omega
set_option maxHeartbeats 4000000 in
set_option maxRecDepth 100000 in
theorem ct_X12_span (l : Launch) (E : oE) (s : oS) (a1 : Int32) (a2 : Int32) (hp0 : 0 ≤ a2.toInt ∧ a2.toInt ≤ 1) : oMet l 3 yX12_span cX12_span 6 (some .int) [] E s [.ref (oad E 71), .int a1, .int a2] (oPi (fun r u => True)) := by
  refine oMet.of (lv := [(0, .ref (oad E 71)), (1, .int a1), (2, .int a2)]) (by decide +kernel) (Nat.le_of_ble_eq_true rfl) rfl (fun J C hT => ?_)
  have C : oC l 3 cX12_span RX12 6 (some .int) [] E s (oPi (fun r u => True)) J := C
  obtain ⟨km1000000000, qkm1000000000⟩ : ∃ z : Int32, z = (-1000000000) := ⟨_, rfl⟩
  have ekm1000000000 : km1000000000.toInt = (-1000000000) := by rw [qkm1000000000]; rfl
  obtain ⟨k0, qk0⟩ : ∃ z : Int32, z = 0 := ⟨_, rfl⟩
  have ek0 : k0.toInt = 0 := by rw [qk0]; rfl
  have rg1 := n_rng a1
  have rg2 := n_rng a2
  have key : ∀ n : Nat, (∀ (t : oS) (x3 : Int32) (x4 : Int32), (0 ≤ x4.toInt ∧ x4.toInt ≤ 24) → (0 ≤ a1.toInt ∧ a1.toInt ≤ 4499) → 25 - x4.toInt ≤ (n : Int) → J t 26 [(0, .ref (oad E 71)), (1, .int a1), (2, .int a2), (3, .int x3), (4, .int x4)] []) := by
    intro n
    induction n using Nat.strongRecOn with
    | _ n ih =>
      skip
      · intro t x3 x4  iv0 iv1 hmu
        have rx3 := n_rng x3
        have rx4 := n_rng x4
        refine r_iload C (j := 4) (oDec_at oX12_span 13 rfl) rfl ?_
        refine r_aload_n C (j := 0) (oDec_at oX12_span 14 rfl) rfl rfl ?_
        obtain ⟨v1, ev1⟩ : ∃ z : Int32, (t).1 71 38 = z := ⟨_, rfl⟩
        have gv1 : (t.1 71 38).toInt = v1.toInt := congrArg Int32.toInt (ev1)
        refine r_geti (k := 38) (lo := 0) (hi := 24) C v1 oCl12 rfl (by decide) flX12_261 rfl rfl (ev1) rfl rfl (oDec_at oX12_span 15 rfl) (fun b2 b2h => ?_)
        refine r_icmp_ge C 90 (oDec_at oX12_span 16 rfl) (by decide) (fun cd3 => ?_) (fun cd3 => ?_)
        · skip
          refine r_iload_n C (j := 3) (oDec_at oX12_span 42 rfl) rfl rfl ?_
          exact r_iret C (oDec_at oX12_span 43 rfl) ⟨_, rfl, trivial⟩
        · skip
          refine r_aload_n C (j := 0) (oDec_at oX12_span 17 rfl) rfl rfl ?_
          refine r_iload_n C (j := 1) (oDec_at oX12_span 18 rfl) rfl rfl ?_
          refine r_iload C (j := 4) (oDec_at oX12_span 19 rfl) rfl ?_
          refine r_callVi C oCl12 rfl miX12_stepBy mlX12_408 (ct_X12_stepBy l E (t) a1 x4 (by omega) (by omega)) (by decide) rfl rfl rfl (Nat.le_of_ble_eq_true rfl) (oDec_at oX12_span 20 rfl) (fun r5 u4 pu4 fu4 => ?_)
          try dsimp only at pu4
          have hxu4 := oFr_nil fu4; subst hxu4
          have rr5 := n_rng r5
          refine r_istore C (lv' := [(0, .ref (oad E 71)), (1, .int a1), (2, .int a2), (3, .int x3), (4, .int x4), (5, .int r5)]) [1, 2, 3, 4, 5, 0] (oDec_at oX12_span 21 rfl) (by decide) rfl ?_
          refine r_iload C (j := 5) (oDec_at oX12_span 22 rfl) rfl ?_
          refine r_pc C 46 rfl ?_
          refine r_ldcw C (v := km1000000000) (by rw [qkm1000000000]; exact kcX12_398) (oDec_at oX12_span 23 rfl) ?_
          refine r_icmp_eq C 84 (oDec_at oX12_span 24 rfl) (by decide) (fun cd6 => ?_) (fun cd6 => ?_)
          · skip
            obtain ⟨v7, ev7⟩ : ∃ z : Int32, x4 + Int32.ofInt 1 = z := ⟨_, rfl⟩
            have hv7 : v7.toInt = x4.toInt + 1 := n_inc ev7 (by decide) (by omega) (by omega)
            refine r_iinc C (j := 4) (lv' := [(0, .ref (oad E 71)), (1, .int a1), (2, .int a2), (3, .int x3), (4, .int v7), (5, .int r5)]) v7 [1, 2, 3, 4, 0, 5] (oDec_at oX12_span 40 rfl) rfl ev7 (by decide) rfl ?_
            refine r_goto C (tgt := 26) (oDec_at oX12_span 41 rfl) (by decide) ?_
            refine r_pick C [0, 1, 2, 3, 4] rfl ?_
            exact (ih (n - 1) (by omega)) (t) x3 v7  (by omega) (by omega) (by omega)
          · skip
            refine r_iload_n C (j := 3) (oDec_at oX12_span 25 rfl) rfl rfl ?_
            refine r_ldcw C (v := km1000000000) (by rw [qkm1000000000]; exact kcX12_398) (oDec_at oX12_span 26 rfl) ?_
            refine r_icmp_eq C 81 (oDec_at oX12_span 27 rfl) (by decide) (fun cd8 => ?_) (fun cd8 => ?_)
            · skip
              refine r_iload C (j := 5) (oDec_at oX12_span 38 rfl) rfl ?_
              refine r_istore_n C (lv' := [(0, .ref (oad E 71)), (1, .int a1), (2, .int a2), (3, .int r5), (4, .int x4), (5, .int r5)]) [1, 2, 3, 0, 4, 5] (oDec_at oX12_span 39 rfl) rfl (by decide) rfl ?_
              obtain ⟨v9, ev9⟩ : ∃ z : Int32, x4 + Int32.ofInt 1 = z := ⟨_, rfl⟩
              have hv9 : v9.toInt = x4.toInt + 1 := n_inc ev9 (by decide) (by omega) (by omega)
              refine r_iinc C (j := 4) (lv' := [(0, .ref (oad E 71)), (1, .int a1), (2, .int a2), (3, .int r5), (4, .int v9), (5, .int r5)]) v9 [1, 2, 3, 4, 0, 5] (oDec_at oX12_span 40 rfl) rfl ev9 (by decide) rfl ?_
              refine r_goto C (tgt := 26) (oDec_at oX12_span 41 rfl) (by decide) ?_
              refine r_pick C [0, 1, 2, 3, 4] rfl ?_
              exact (ih (n - 1) (by omega)) (t) r5 v9  (by omega) (by omega) (by omega)
            · skip
              refine r_iload_n C (j := 2) (oDec_at oX12_span 28 rfl) rfl rfl ?_
              refine r_if_eq C 72 (oDec_at oX12_span 29 rfl) (by decide) (fun cd10 => ?_) (fun cd10 => ?_)
              · skip
                refine r_iload C (j := 5) (oDec_at oX12_span 34 rfl) rfl ?_
                refine r_iload_n C (j := 3) (oDec_at oX12_span 35 rfl) rfl rfl ?_
                refine r_icmp_lt C 81 (oDec_at oX12_span 36 rfl) (by decide) (fun cd11 => ?_) (fun cd11 => ?_)
                · skip
                  refine r_iload C (j := 5) (oDec_at oX12_span 38 rfl) rfl ?_
                  refine r_istore_n C (lv' := [(0, .ref (oad E 71)), (1, .int a1), (2, .int a2), (3, .int r5), (4, .int x4), (5, .int r5)]) [1, 2, 3, 0, 4, 5] (oDec_at oX12_span 39 rfl) rfl (by decide) rfl ?_
                  obtain ⟨v12, ev12⟩ : ∃ z : Int32, x4 + Int32.ofInt 1 = z := ⟨_, rfl⟩
                  have hv12 : v12.toInt = x4.toInt + 1 := n_inc ev12 (by decide) (by omega) (by omega)
                  refine r_iinc C (j := 4) (lv' := [(0, .ref (oad E 71)), (1, .int a1), (2, .int a2), (3, .int r5), (4, .int v12), (5, .int r5)]) v12 [1, 2, 3, 4, 0, 5] (oDec_at oX12_span 40 rfl) rfl ev12 (by decide) rfl ?_
                  refine r_goto C (tgt := 26) (oDec_at oX12_span 41 rfl) (by decide) ?_
                  refine r_pick C [0, 1, 2, 3, 4] rfl ?_
                  exact (ih (n - 1) (by omega)) (t) r5 v12  (by omega) (by omega) (by omega)
                · skip
                  refine r_goto C (tgt := 84) (oDec_at oX12_span 37 rfl) (by decide) ?_
                  obtain ⟨v13, ev13⟩ : ∃ z : Int32, x4 + Int32.ofInt 1 = z := ⟨_, rfl⟩
                  have hv13 : v13.toInt = x4.toInt + 1 := n_inc ev13 (by decide) (by omega) (by omega)
                  refine r_iinc C (j := 4) (lv' := [(0, .ref (oad E 71)), (1, .int a1), (2, .int a2), (3, .int x3), (4, .int v13), (5, .int r5)]) v13 [1, 2, 3, 4, 0, 5] (oDec_at oX12_span 40 rfl) rfl ev13 (by decide) rfl ?_
                  refine r_goto C (tgt := 26) (oDec_at oX12_span 41 rfl) (by decide) ?_
                  refine r_pick C [0, 1, 2, 3, 4] rfl ?_
                  exact (ih (n - 1) (by omega)) (t) x3 v13  (by omega) (by omega) (by omega)
              · skip
                refine r_iload C (j := 5) (oDec_at oX12_span 30 rfl) rfl ?_
                refine r_iload_n C (j := 3) (oDec_at oX12_span 31 rfl) rfl rfl ?_
                refine r_icmp_gt C 81 (oDec_at oX12_span 32 rfl) (by decide) (fun cd14 => ?_) (fun cd14 => ?_)
                · skip
                  refine r_iload C (j := 5) (oDec_at oX12_span 38 rfl) rfl ?_
                  refine r_istore_n C (lv' := [(0, .ref (oad E 71)), (1, .int a1), (2, .int a2), (3, .int r5), (4, .int x4), (5, .int r5)]) [1, 2, 3, 0, 4, 5] (oDec_at oX12_span 39 rfl) rfl (by decide) rfl ?_
                  obtain ⟨v15, ev15⟩ : ∃ z : Int32, x4 + Int32.ofInt 1 = z := ⟨_, rfl⟩
                  have hv15 : v15.toInt = x4.toInt + 1 := n_inc ev15 (by decide) (by omega) (by omega)
                  refine r_iinc C (j := 4) (lv' := [(0, .ref (oad E 71)), (1, .int a1), (2, .int a2), (3, .int r5), (4, .int v15), (5, .int r5)]) v15 [1, 2, 3, 4, 0, 5] (oDec_at oX12_span 40 rfl) rfl ev15 (by decide) rfl ?_
                  refine r_goto C (tgt := 26) (oDec_at oX12_span 41 rfl) (by decide) ?_
                  refine r_pick C [0, 1, 2, 3, 4] rfl ?_
                  exact (ih (n - 1) (by omega)) (t) r5 v15  (by omega) (by omega) (by omega)
                · skip
                  refine r_goto C (tgt := 84) (oDec_at oX12_span 33 rfl) (by decide) ?_
                  obtain ⟨v16, ev16⟩ : ∃ z : Int32, x4 + Int32.ofInt 1 = z := ⟨_, rfl⟩
                  have hv16 : v16.toInt = x4.toInt + 1 := n_inc ev16 (by decide) (by omega) (by omega)
                  refine r_iinc C (j := 4) (lv' := [(0, .ref (oad E 71)), (1, .int a1), (2, .int a2), (3, .int x3), (4, .int v16), (5, .int r5)]) v16 [1, 2, 3, 4, 0, 5] (oDec_at oX12_span 40 rfl) rfl ev16 (by decide) rfl ?_
                  refine r_goto C (tgt := 26) (oDec_at oX12_span 41 rfl) (by decide) ?_
                  refine r_pick C [0, 1, 2, 3, 4] rfl ?_
                  exact (ih (n - 1) (by omega)) (t) x3 v16  (by omega) (by omega) (by omega)
  refine r_iload_n C (j := 1) (oDec_at oX12_span 0 rfl) rfl rfl ?_
  refine r_callSi C miX12_isCode mlX12_423 (ct_X12_isCode l E (s) a1 ) (by decide) rfl rfl rfl (Nat.le_of_ble_eq_true rfl) (oDec_at oX12_span 1 rfl) (fun r18 u17 pu17 fu17 => ?_)
  try dsimp only at pu17
  obtain ⟨pu17_0, pu17_1⟩ := pu17
  have hxu17 := oFr_nil fu17; subst hxu17
  have rr18 := n_rng r18
  refine r_if_eq C 15 (oDec_at oX12_span 2 rfl) (by decide) (fun cd19 => ?_) (fun cd19 => ?_)
  · skip
    refine r_ldcw C (v := km1000000000) (by rw [qkm1000000000]; exact kcX12_398) (oDec_at oX12_span 7 rfl) ?_
    exact r_iret C (oDec_at oX12_span 8 rfl) ⟨_, rfl, trivial⟩
  · skip
    refine r_aload_n C (j := 0) (oDec_at oX12_span 3 rfl) rfl rfl ?_
    refine r_iload_n C (j := 1) (oDec_at oX12_span 4 rfl) rfl rfl ?_
    refine r_callVi C oCl12 rfl miX12_canBe mlX12_426 (ct_X12_canBe l E (s) a1 (by omega)) (by decide) rfl rfl rfl (Nat.le_of_ble_eq_true rfl) (oDec_at oX12_span 5 rfl) (fun r21 u20 pu20 fu20 => ?_)
    try dsimp only at pu20
    have hxu20 := oFr_nil fu20; subst hxu20
    have rr21 := n_rng r21
    refine r_if_ne C 19 (oDec_at oX12_span 6 rfl) (by decide) (fun cd22 => ?_) (fun cd22 => ?_)
    · skip
      refine r_ldcw C (v := km1000000000) (by rw [qkm1000000000]; exact kcX12_398) (oDec_at oX12_span 9 rfl) ?_
      refine r_istore_n C (lv' := [(0, .ref (oad E 71)), (1, .int a1), (2, .int a2), (3, .int km1000000000)]) [1, 2, 3, 0] (oDec_at oX12_span 10 rfl) rfl (by decide) rfl ?_
      refine r_iconst C (oDec_at oX12_span 11 rfl) (v := k0) (by rw [qk0]; rfl) ?_
      refine r_istore C (lv' := [(0, .ref (oad E 71)), (1, .int a1), (2, .int a2), (3, .int km1000000000), (4, .int k0)]) [1, 2, 3, 4, 0] (oDec_at oX12_span 12 rfl) (by decide) rfl ?_
      exact (key (25 - k0.toInt).toNat) (s) km1000000000 k0  (by omega) (by omega) (by omega)
    · skip
      refine r_ldcw C (v := km1000000000) (by rw [qkm1000000000]; exact kcX12_398) (oDec_at oX12_span 7 rfl) ?_
      exact r_iret C (oDec_at oX12_span 8 rfl) ⟨_, rfl, trivial⟩
set_option maxHeartbeats 4000000 in
set_option maxRecDepth 100000 in
theorem ct_X12_areAlike (l : Launch) (E : oE) (s : oS) (a1 : Int32) (a2 : Int32) (hp0 : 0 ≤ a1.toInt ∧ a1.toInt ≤ 4499) (hp1 : 0 ≤ a2.toInt ∧ a2.toInt ≤ 4499) : oMet l 5 yX12_areAlike cX12_areAlike 5 (some .boolean) [] E s [.ref (oad E 71), .int a1, .int a2] (oPi (fun r u => (0 ≤ r.toInt ∧ r.toInt ≤ 1) ∧ (a1.toInt = a2.toInt → r.toInt = 1))) := by
  refine oMet.of (lv := [(0, .ref (oad E 71)), (1, .int a1), (2, .int a2)]) (by decide +kernel) (Nat.le_of_ble_eq_true rfl) rfl (fun J C hT => ?_)
  have C : oC l 5 cX12_areAlike RX12 5 (some .boolean) [] E s (oPi (fun r u => (0 ≤ r.toInt ∧ r.toInt ≤ 1) ∧ (a1.toInt = a2.toInt → r.toInt = 1))) J := C
  obtain ⟨k0, qk0⟩ : ∃ z : Int32, z = 0 := ⟨_, rfl⟩
  have ek0 : k0.toInt = 0 := by rw [qk0]; rfl
  obtain ⟨k1, qk1⟩ : ∃ z : Int32, z = 1 := ⟨_, rfl⟩
  have ek1 : k1.toInt = 1 := by rw [qk1]; rfl
  have rg1 := n_rng a1
  have rg2 := n_rng a2
  have key : ∀ n : Nat, (∀ (t : oS) (x3 : Int32) (x4 : Int32), (0 ≤ x4.toInt ∧ x4.toInt ≤ 217) → (0 ≤ x3.toInt ∧ x3.toInt ≤ 216) → 300 - x4.toInt ≤ (n : Int) → J t 30 [(0, .ref (oad E 71)), (1, .int a1), (2, .int a2), (3, .int x3), (4, .int x4)] []) := by
    intro n
    induction n using Nat.strongRecOn with
    | _ n ih =>
      skip
      · intro t x3 x4  iv0 iv1 hmu
        have rx3 := n_rng x3
        have rx4 := n_rng x4
        refine r_iload C (j := 4) (oDec_at oX12_areAlike 17 rfl) rfl ?_
        refine r_iload_n C (j := 3) (oDec_at oX12_areAlike 18 rfl) rfl rfl ?_
        refine r_icmp_ge C 61 (oDec_at oX12_areAlike 19 rfl) (by decide) (fun cd1 => ?_) (fun cd1 => ?_)
        · skip
          refine r_iconst C (oDec_at oX12_areAlike 33 rfl) (v := k1) (by rw [qk1]; rfl) ?_
          exact r_zret C (n_bool (by omega)) (oDec_at oX12_areAlike 34 rfl) ⟨_, rfl, ⟨by omega, by first | omega | (intro h; exfalso; simp_all)⟩⟩
        · skip
          refine r_aload_n C (j := 0) (oDec_at oX12_areAlike 20 rfl) rfl rfl ?_
          refine r_iload_n C (j := 1) (oDec_at oX12_areAlike 21 rfl) rfl rfl ?_
          refine r_iload C (j := 4) (oDec_at oX12_areAlike 22 rfl) rfl ?_
          refine r_callVi C oCl12 rfl miX12_singsIn mlX12_431 (ct_X12_singsIn l E (t) a1 x4 (by omega) (by omega)) (by decide) rfl rfl rfl (Nat.le_of_ble_eq_true rfl) (oDec_at oX12_areAlike 23 rfl) (fun r3 u2 pu2 fu2 => ?_)
          try dsimp only at pu2
          have hxu2 := oFr_nil fu2; subst hxu2
          have rr3 := n_rng r3
          refine r_aload_n C (j := 0) (oDec_at oX12_areAlike 24 rfl) rfl rfl ?_
          refine r_iload_n C (j := 2) (oDec_at oX12_areAlike 25 rfl) rfl rfl ?_
          refine r_pc C 45 rfl ?_
          refine r_iload C (j := 4) (oDec_at oX12_areAlike 26 rfl) rfl ?_
          refine r_callVi C oCl12 rfl miX12_singsIn mlX12_431 (ct_X12_singsIn l E (t) a2 x4 (by omega) (by omega)) (by decide) rfl rfl rfl (Nat.le_of_ble_eq_true rfl) (oDec_at oX12_areAlike 27 rfl) (fun r5 u4 pu4 fu4 => ?_)
          try dsimp only at pu4
          have hxu4 := oFr_nil fu4; subst hxu4
          have rr5 := n_rng r5
          refine r_icmp_eq C 55 (oDec_at oX12_areAlike 28 rfl) (by decide) (fun cd6 => ?_) (fun cd6 => ?_)
          · skip
            obtain ⟨v7, ev7⟩ : ∃ z : Int32, x4 + Int32.ofInt 1 = z := ⟨_, rfl⟩
            have hv7 : v7.toInt = x4.toInt + 1 := n_inc ev7 (by decide) (by omega) (by omega)
            refine r_iinc C (j := 4) (lv' := [(0, .ref (oad E 71)), (1, .int a1), (2, .int a2), (3, .int x3), (4, .int v7)]) v7 [1, 2, 3, 4, 0] (oDec_at oX12_areAlike 31 rfl) rfl ev7 (by decide) rfl ?_
            refine r_goto C (tgt := 30) (oDec_at oX12_areAlike 32 rfl) (by decide) ?_
            exact (ih (n - 1) (by omega)) (t) x3 v7  (by omega) (by omega) (by omega)
          · skip
            refine r_iconst C (oDec_at oX12_areAlike 29 rfl) (v := k0) (by rw [qk0]; rfl) ?_
            exact r_zret C (n_bool (by omega)) (oDec_at oX12_areAlike 30 rfl) ⟨_, rfl, ⟨by omega, by first | omega | (intro h; exfalso; simp_all)⟩⟩
  refine r_aload_n C (j := 0) (oDec_at oX12_areAlike 0 rfl) rfl rfl ?_
  refine r_iload_n C (j := 1) (oDec_at oX12_areAlike 1 rfl) rfl rfl ?_
  refine r_callVi C oCl12 rfl miX12_overAt mlX12_392 (ct_X12_overAt l E (s) a1 (by omega)) (by decide) rfl rfl rfl (Nat.le_of_ble_eq_true rfl) (oDec_at oX12_areAlike 2 rfl) (fun r9 u8 pu8 fu8 => ?_)
  try dsimp only at pu8
  obtain ⟨pu8_0, pu8_1, pu8_2⟩ := pu8
  have hxu8 := oFr_nil fu8; subst hxu8
  have rr9 := n_rng r9
  refine r_aload_n C (j := 0) (oDec_at oX12_areAlike 3 rfl) rfl rfl ?_
  refine r_iload_n C (j := 2) (oDec_at oX12_areAlike 4 rfl) rfl rfl ?_
  refine r_callVi C oCl12 rfl miX12_overAt mlX12_392 (ct_X12_overAt l E (s) a2 (by omega)) (by decide) rfl rfl rfl (Nat.le_of_ble_eq_true rfl) (oDec_at oX12_areAlike 5 rfl) (fun r11 u10 pu10 fu10 => ?_)
  try dsimp only at pu10
  obtain ⟨pu10_0, pu10_1, pu10_2⟩ := pu10
  have hxu10 := oFr_nil fu10; subst hxu10
  have rr11 := n_rng r11
  refine r_pc C 10 rfl ?_
  refine r_icmp_le C 21 (oDec_at oX12_areAlike 6 rfl) (by decide) (fun cd12 => ?_) (fun cd12 => ?_)
  · skip
    refine r_aload_n C (j := 0) (oDec_at oX12_areAlike 11 rfl) rfl rfl ?_
    refine r_iload_n C (j := 2) (oDec_at oX12_areAlike 12 rfl) rfl rfl ?_
    refine r_callVi C oCl12 rfl miX12_overAt mlX12_392 (ct_X12_overAt l E (s) a2 (by omega)) (by decide) rfl rfl rfl (Nat.le_of_ble_eq_true rfl) (oDec_at oX12_areAlike 13 rfl) (fun r14 u13 pu13 fu13 => ?_)
    try dsimp only at pu13
    obtain ⟨pu13_0, pu13_1, pu13_2⟩ := pu13
    have hxu13 := oFr_nil fu13; subst hxu13
    have rr14 := n_rng r14
    refine r_istore_n C (lv' := [(0, .ref (oad E 71)), (1, .int a1), (2, .int a2), (3, .int r14)]) [1, 2, 3, 0] (oDec_at oX12_areAlike 14 rfl) rfl (by decide) rfl ?_
    refine r_iconst C (oDec_at oX12_areAlike 15 rfl) (v := k0) (by rw [qk0]; rfl) ?_
    refine r_istore C (lv' := [(0, .ref (oad E 71)), (1, .int a1), (2, .int a2), (3, .int r14), (4, .int k0)]) [1, 2, 3, 4, 0] (oDec_at oX12_areAlike 16 rfl) (by decide) rfl ?_
    exact (key (300 - k0.toInt).toNat) (s) r14 k0  (by omega) (by omega) (by omega)
  · skip
    refine r_aload_n C (j := 0) (oDec_at oX12_areAlike 7 rfl) rfl rfl ?_
    refine r_iload_n C (j := 1) (oDec_at oX12_areAlike 8 rfl) rfl rfl ?_
    refine r_callVi C oCl12 rfl miX12_overAt mlX12_392 (ct_X12_overAt l E (s) a1 (by omega)) (by decide) rfl rfl rfl (Nat.le_of_ble_eq_true rfl) (oDec_at oX12_areAlike 9 rfl) (fun r16 u15 pu15 fu15 => ?_)
    try dsimp only at pu15
    obtain ⟨pu15_0, pu15_1, pu15_2⟩ := pu15
    have hxu15 := oFr_nil fu15; subst hxu15
    have rr16 := n_rng r16
    refine r_goto C (tgt := 26) (oDec_at oX12_areAlike 10 rfl) (by decide) ?_
    refine r_istore_n C (lv' := [(0, .ref (oad E 71)), (1, .int a1), (2, .int a2), (3, .int r16)]) [1, 2, 3, 0] (oDec_at oX12_areAlike 14 rfl) rfl (by decide) rfl ?_
    refine r_iconst C (oDec_at oX12_areAlike 15 rfl) (v := k0) (by rw [qk0]; rfl) ?_
    refine r_istore C (lv' := [(0, .ref (oad E 71)), (1, .int a1), (2, .int a2), (3, .int r16), (4, .int k0)]) [1, 2, 3, 4, 0] (oDec_at oX12_areAlike 16 rfl) (by decide) rfl ?_
    exact (key (300 - k0.toInt).toNat) (s) r16 k0  (by omega) (by omega) (by omega)
set_option maxHeartbeats 4000000 in
set_option maxRecDepth 100000 in
theorem ct_X12_isBound (l : Launch) (E : oE) (s : oS) (a1 : Int32) (hp0 : 0 ≤ a1.toInt ∧ a1.toInt ≤ 4499) : oMet l 2 yX12_isBound cX12_isBound 2 (some .boolean) [] E s [.ref (oad E 71), .int a1] (oPi (fun r u => (0 ≤ r.toInt ∧ r.toInt ≤ 1))) := by
  refine oMet.of (lv := [(0, .ref (oad E 71)), (1, .int a1)]) (by decide +kernel) (Nat.le_of_ble_eq_true rfl) rfl (fun J C hT => ?_)
  have C : oC l 2 cX12_isBound RX12 2 (some .boolean) [] E s (oPi (fun r u => (0 ≤ r.toInt ∧ r.toInt ≤ 1))) J := C
  obtain ⟨k0, qk0⟩ : ∃ z : Int32, z = 0 := ⟨_, rfl⟩
  have ek0 : k0.toInt = 0 := by rw [qk0]; rfl
  obtain ⟨k1, qk1⟩ : ∃ z : Int32, z = 1 := ⟨_, rfl⟩
  have ek1 : k1.toInt = 1 := by rw [qk1]; rfl
  obtain ⟨k2, qk2⟩ : ∃ z : Int32, z = 2 := ⟨_, rfl⟩
  have ek2 : k2.toInt = 2 := by rw [qk2]; rfl
  obtain ⟨k4, qk4⟩ : ∃ z : Int32, z = 4 := ⟨_, rfl⟩
  have ek4 : k4.toInt = 4 := by rw [qk4]; rfl
  obtain ⟨k8, qk8⟩ : ∃ z : Int32, z = 8 := ⟨_, rfl⟩
  have ek8 : k8.toInt = 8 := by rw [qk8]; rfl
  obtain ⟨k84, qk84⟩ : ∃ z : Int32, z = 84 := ⟨_, rfl⟩
  have ek84 : k84.toInt = 84 := by rw [qk84]; rfl
  have rg1 := n_rng a1
  refine r_iload_n C (j := 1) (oDec_at oX12_isBound 0 rfl) rfl rfl ?_
  refine r_bipush C (oDec_at oX12_isBound 1 rfl) (v := k84) (by rw [qk84]; rfl) ?_
  refine r_icmp_eq C 39 (oDec_at oX12_isBound 2 rfl) (by decide) (fun cd1 => ?_) (fun cd1 => ?_)
  · skip
    refine r_iconst C (oDec_at oX12_isBound 20 rfl) (v := k0) (by rw [qk0]; rfl) ?_
    exact r_zret C (n_bool (by omega)) (oDec_at oX12_isBound 21 rfl) ⟨_, rfl, by omega⟩
  · skip
    refine r_iload_n C (j := 1) (oDec_at oX12_isBound 3 rfl) rfl rfl ?_
    refine r_callSi C miX12_delayOf mlX12_389 (ct_X12_delayOf l E (s) a1 (by omega)) (by decide) rfl rfl rfl (Nat.le_of_ble_eq_true rfl) (oDec_at oX12_isBound 4 rfl) (fun r3 u2 pu2 fu2 => ?_)
    try dsimp only at pu2
    have hxu2 := oFr_nil fu2; subst hxu2
    have rr3 := n_rng r3
    refine r_aload_n C (j := 0) (oDec_at oX12_isBound 5 rfl) rfl rfl ?_
    obtain ⟨v4, ev4⟩ : ∃ z : Int32, (s).1 71 66 = z := ⟨_, rfl⟩
    have gv4 : (s.1 71 66).toInt = v4.toInt := congrArg Int32.toInt (ev4)
    refine r_geti (k := 66) (lo := 0) (hi := 24) C v4 oCl12 rfl (by decide) flX12_139 rfl rfl (ev4) rfl rfl (oDec_at oX12_isBound 6 rfl) (fun b5 b5h => ?_)
    refine r_icmp_gt C 39 (oDec_at oX12_isBound 7 rfl) (by decide) (fun cd6 => ?_) (fun cd6 => ?_)
    · skip
      refine r_iconst C (oDec_at oX12_isBound 20 rfl) (v := k0) (by rw [qk0]; rfl) ?_
      exact r_zret C (n_bool (by omega)) (oDec_at oX12_isBound 21 rfl) ⟨_, rfl, by omega⟩
    · skip
      refine r_iload_n C (j := 1) (oDec_at oX12_isBound 8 rfl) rfl rfl ?_
      refine r_callSi C miX12_highOf mlX12_402 (ct_X12_highOf l E (s) a1 (by omega)) (by decide) rfl rfl rfl (Nat.le_of_ble_eq_true rfl) (oDec_at oX12_isBound 9 rfl) (fun r8 u7 pu7 fu7 => ?_)
      try dsimp only at pu7
      obtain ⟨pu7_0, pu7_1⟩ := pu7
      have hxu7 := oFr_nil fu7; subst hxu7
      have rr8 := n_rng r8
      obtain ⟨v9, ev9⟩ : ∃ z : Int64, r8.toInt64 = z := ⟨_, rfl⟩
      have hv9 : v9.toInt = r8.toInt := n_i2l ev9
      refine r_i2l C v9 (oDec_at oX12_isBound 10 rfl) ev9 ?_
      refine r_aload_n C (j := 0) (oDec_at oX12_isBound 11 rfl) rfl rfl ?_
      obtain ⟨v10, ev10⟩ : ∃ z : Int32, (s).1 71 67 = z := ⟨_, rfl⟩
      have gv10 : (s.1 71 67).toInt = v10.toInt := congrArg Int32.toInt (ev10)
      refine r_geti (k := 67) (lo := 0) (hi := 7) C v10 oCl12 rfl (by decide) flX12_142 rfl rfl (ev10) rfl rfl (oDec_at oX12_isBound 12 rfl) (fun b11 b11h => ?_)
      obtain ⟨v12, ev12⟩ : ∃ z : Int32, z = -v10 := ⟨_, rfl⟩
      have hv12 : v12.toInt = -v10.toInt := n_neg ev12 (by omega)
      refine r_ineg C v12 (oDec_at oX12_isBound 13 rfl) ev12 ?_
      refine r_pc C 27 rfl ?_
      obtain ⟨v13, ev13⟩ : ∃ z : Int64, v12.toInt64 = z := ⟨_, rfl⟩
      have hv13 : v13.toInt = v12.toInt := n_i2l ev13
      refine r_i2l C v13 (oDec_at oX12_isBound 14 rfl) ev13 ?_
      refine r_aload_n C (j := 0) (oDec_at oX12_isBound 15 rfl) rfl rfl ?_
      refine r_geti (k := 67) (lo := 0) (hi := 7) C v10 oCl12 rfl (by decide) flX12_142 rfl rfl (ev10) rfl rfl (oDec_at oX12_isBound 16 rfl) (fun _ _ => ?_)
      obtain ⟨v14, ev14⟩ : ∃ z : Int64, v10.toInt64 = z := ⟨_, rfl⟩
      have hv14 : v14.toInt = v10.toInt := n_i2l ev14
      refine r_i2l C v14 (oDec_at oX12_isBound 17 rfl) ev14 ?_
      refine r_callSi C miX12_isIn mlX12_216 (ct_X12_isIn l E (s) v9 v13 v14 ) (by decide) rfl rfl rfl (Nat.le_of_ble_eq_true rfl) (oDec_at oX12_isBound 18 rfl) (fun r16 u15 pu15 fu15 => ?_)
      try dsimp only at pu15
      obtain ⟨pu15_0, pu15_1⟩ := pu15
      have hxu15 := oFr_nil fu15; subst hxu15
      have rr16 := n_rng r16
      refine r_if_ne C 41 (oDec_at oX12_isBound 19 rfl) (by decide) (fun cd17 => ?_) (fun cd17 => ?_)
      · skip
        refine r_iload_n C (j := 1) (oDec_at oX12_isBound 22 rfl) rfl rfl ?_
        refine r_callSi C miX12_mirrorOf mlX12_399 (ct_X12_mirrorOf l E (s) a1 (by omega)) (by decide) rfl rfl rfl (Nat.le_of_ble_eq_true rfl) (oDec_at oX12_isBound 23 rfl) (fun r19 u18 pu18 fu18 => ?_)
        try dsimp only at pu18
        have hxu18 := oFr_nil fu18; subst hxu18
        have rr19 := n_rng r19
        refine r_iconst C (oDec_at oX12_isBound 24 rfl) (v := k1) (by rw [qk1]; rfl) ?_
        refine r_icmp_ne C 58 (oDec_at oX12_isBound 25 rfl) (by decide) (fun cd20 => ?_) (fun cd20 => ?_)
        · skip
          refine r_iload_n C (j := 1) (oDec_at oX12_isBound 31 rfl) rfl rfl ?_
          refine r_callSi C miX12_backOf mlX12_395 (ct_X12_backOf l E (s) a1 (by omega)) (by decide) rfl rfl rfl (Nat.le_of_ble_eq_true rfl) (oDec_at oX12_isBound 32 rfl) (fun r22 u21 pu21 fu21 => ?_)
          try dsimp only at pu21
          have hxu21 := oFr_nil fu21; subst hxu21
          have rr22 := n_rng r22
          refine r_iconst C (oDec_at oX12_isBound 33 rfl) (v := k1) (by rw [qk1]; rfl) ?_
          refine r_icmp_ne C 79 (oDec_at oX12_isBound 34 rfl) (by decide) (fun cd23 => ?_) (fun cd23 => ?_)
          · skip
            refine r_iload_n C (j := 1) (oDec_at oX12_isBound 44 rfl) rfl rfl ?_
            refine r_callSi C miX12_paceOf mlX12_385 (ct_X12_paceOf l E (s) a1 (by omega)) (by decide) rfl rfl rfl (Nat.le_of_ble_eq_true rfl) (oDec_at oX12_isBound 45 rfl) (fun r25 u24 pu24 fu24 => ?_)
            try dsimp only at pu24
            have hxu24 := oFr_nil fu24; subst hxu24
            have rr25 := n_rng r25
            refine r_if_eq C 111 (oDec_at oX12_isBound 46 rfl) (by decide) (fun cd26 => ?_) (fun cd26 => ?_)
            · skip
              refine r_iconst C (oDec_at oX12_isBound 61 rfl) (v := k1) (by rw [qk1]; rfl) ?_
              refine r_goto C (tgt := 116) (oDec_at oX12_isBound 62 rfl) (by decide) ?_
              exact r_zret C (n_bool (by omega)) (oDec_at oX12_isBound 64 rfl) ⟨_, rfl, by omega⟩
            · skip
              refine r_aload_n C (j := 0) (oDec_at oX12_isBound 47 rfl) rfl rfl ?_
              obtain ⟨v27, ev27⟩ : ∃ z : Int32, (s).1 71 68 = z := ⟨_, rfl⟩
              have gv27 : (s.1 71 68).toInt = v27.toInt := congrArg Int32.toInt (ev27)
              refine r_geti (k := 68) (lo := 0) (hi := 15) C v27 oCl12 rfl (by decide) flX12_378 rfl rfl (ev27) rfl rfl (oDec_at oX12_isBound 48 rfl) (fun b28 b28h => ?_)
              refine r_iload_n C (j := 1) (oDec_at oX12_isBound 49 rfl) rfl rfl ?_
              refine r_callSi C miX12_paceOf mlX12_385 (ct_X12_paceOf l E (s) a1 (by omega)) (by decide) rfl rfl rfl (Nat.le_of_ble_eq_true rfl) (oDec_at oX12_isBound 50 rfl) (fun r30 u29 pu29 fu29 => ?_)
              try dsimp only at pu29
              have hxu29 := oFr_nil fu29; subst hxu29
              have rr30 := n_rng r30
              refine r_iconst C (oDec_at oX12_isBound 51 rfl) (v := k1) (by rw [qk1]; rfl) ?_
              refine r_icmp_ne C 102 (oDec_at oX12_isBound 52 rfl) (by decide) (fun cd31 => ?_) (fun cd31 => ?_)
              · skip
                refine r_bipush C (oDec_at oX12_isBound 55 rfl) (v := k8) (by rw [qk8]; rfl) ?_
                obtain ⟨v32, ev32⟩ : ∃ z : Int32, z = v27 / k8 := ⟨_, rfl⟩
                have hv32 := n_divP (k := 8) ev32 ek8 (by decide)
                have rv32 := n_rng v32
                refine r_idiv C v32 (oDec_at oX12_isBound 56 rfl) (n_ne0 (by omega)) ev32 ?_
                refine r_iconst C (oDec_at oX12_isBound 57 rfl) (v := k2) (by rw [qk2]; rfl) ?_
                obtain ⟨v33, ev33⟩ : ∃ z : Int32, z = v32 - v32 / k2 * k2 := ⟨_, rfl⟩
                have hv33 := n_rem (k := 2) ev33 ek2 (by decide)
                have rv33 := n_rng v33
                refine r_irem C v33 (oDec_at oX12_isBound 58 rfl) (n_ne0 (by omega)) ev33 ?_
                refine r_iconst C (oDec_at oX12_isBound 59 rfl) (v := k1) (by rw [qk1]; rfl) ?_
                refine r_icmp_ne C 115 (oDec_at oX12_isBound 60 rfl) (by decide) (fun cd34 => ?_) (fun cd34 => ?_)
                · skip
                  refine r_iconst C (oDec_at oX12_isBound 63 rfl) (v := k0) (by rw [qk0]; rfl) ?_
                  exact r_zret C (n_bool (by omega)) (oDec_at oX12_isBound 64 rfl) ⟨_, rfl, by omega⟩
                · skip
                  refine r_iconst C (oDec_at oX12_isBound 61 rfl) (v := k1) (by rw [qk1]; rfl) ?_
                  refine r_goto C (tgt := 116) (oDec_at oX12_isBound 62 rfl) (by decide) ?_
                  exact r_zret C (n_bool (by omega)) (oDec_at oX12_isBound 64 rfl) ⟨_, rfl, by omega⟩
              · skip
                refine r_iconst C (oDec_at oX12_isBound 53 rfl) (v := k4) (by rw [qk4]; rfl) ?_
                refine r_goto C (tgt := 104) (oDec_at oX12_isBound 54 rfl) (by decide) ?_
                obtain ⟨v35, ev35⟩ : ∃ z : Int32, z = v27 / k4 := ⟨_, rfl⟩
                have hv35 := n_divP (k := 4) ev35 ek4 (by decide)
                have rv35 := n_rng v35
                refine r_idiv C v35 (oDec_at oX12_isBound 56 rfl) (n_ne0 (by omega)) ev35 ?_
                refine r_iconst C (oDec_at oX12_isBound 57 rfl) (v := k2) (by rw [qk2]; rfl) ?_
                obtain ⟨v36, ev36⟩ : ∃ z : Int32, z = v35 - v35 / k2 * k2 := ⟨_, rfl⟩
                have hv36 := n_rem (k := 2) ev36 ek2 (by decide)
                have rv36 := n_rng v36
                refine r_irem C v36 (oDec_at oX12_isBound 58 rfl) (n_ne0 (by omega)) ev36 ?_
                refine r_iconst C (oDec_at oX12_isBound 59 rfl) (v := k1) (by rw [qk1]; rfl) ?_
                refine r_icmp_ne C 115 (oDec_at oX12_isBound 60 rfl) (by decide) (fun cd37 => ?_) (fun cd37 => ?_)
                · skip
                  refine r_iconst C (oDec_at oX12_isBound 63 rfl) (v := k0) (by rw [qk0]; rfl) ?_
                  exact r_zret C (n_bool (by omega)) (oDec_at oX12_isBound 64 rfl) ⟨_, rfl, by omega⟩
                · skip
                  refine r_iconst C (oDec_at oX12_isBound 61 rfl) (v := k1) (by rw [qk1]; rfl) ?_
                  refine r_goto C (tgt := 116) (oDec_at oX12_isBound 62 rfl) (by decide) ?_
                  exact r_zret C (n_bool (by omega)) (oDec_at oX12_isBound 64 rfl) ⟨_, rfl, by omega⟩
          · skip
            refine r_aload_n C (j := 0) (oDec_at oX12_isBound 35 rfl) rfl rfl ?_
            obtain ⟨v38, ev38⟩ : ∃ z : Int32, (s).1 71 68 = z := ⟨_, rfl⟩
            have gv38 : (s.1 71 68).toInt = v38.toInt := congrArg Int32.toInt (ev38)
            refine r_geti (k := 68) (lo := 0) (hi := 15) C v38 oCl12 rfl (by decide) flX12_378 rfl rfl (ev38) rfl rfl (oDec_at oX12_isBound 36 rfl) (fun b39 b39h => ?_)
            refine r_iconst C (oDec_at oX12_isBound 37 rfl) (v := k2) (by rw [qk2]; rfl) ?_
            obtain ⟨v40, ev40⟩ : ∃ z : Int32, z = v38 / k2 := ⟨_, rfl⟩
            have hv40 := n_divP (k := 2) ev40 ek2 (by decide)
            have rv40 := n_rng v40
            refine r_idiv C v40 (oDec_at oX12_isBound 38 rfl) (n_ne0 (by omega)) ev40 ?_
            refine r_iconst C (oDec_at oX12_isBound 39 rfl) (v := k2) (by rw [qk2]; rfl) ?_
            obtain ⟨v41, ev41⟩ : ∃ z : Int32, z = v40 - v40 / k2 * k2 := ⟨_, rfl⟩
            have hv41 := n_rem (k := 2) ev41 ek2 (by decide)
            have rv41 := n_rng v41
            refine r_irem C v41 (oDec_at oX12_isBound 40 rfl) (n_ne0 (by omega)) ev41 ?_
            refine r_pc C 74 rfl ?_
            refine r_if_ne C 79 (oDec_at oX12_isBound 41 rfl) (by decide) (fun cd42 => ?_) (fun cd42 => ?_)
            · skip
              refine r_iload_n C (j := 1) (oDec_at oX12_isBound 44 rfl) rfl rfl ?_
              refine r_callSi C miX12_paceOf mlX12_385 (ct_X12_paceOf l E (s) a1 (by omega)) (by decide) rfl rfl rfl (Nat.le_of_ble_eq_true rfl) (oDec_at oX12_isBound 45 rfl) (fun r44 u43 pu43 fu43 => ?_)
              try dsimp only at pu43
              have hxu43 := oFr_nil fu43; subst hxu43
              have rr44 := n_rng r44
              refine r_if_eq C 111 (oDec_at oX12_isBound 46 rfl) (by decide) (fun cd45 => ?_) (fun cd45 => ?_)
              · skip
                refine r_iconst C (oDec_at oX12_isBound 61 rfl) (v := k1) (by rw [qk1]; rfl) ?_
                refine r_goto C (tgt := 116) (oDec_at oX12_isBound 62 rfl) (by decide) ?_
                exact r_zret C (n_bool (by omega)) (oDec_at oX12_isBound 64 rfl) ⟨_, rfl, by omega⟩
              · skip
                refine r_aload_n C (j := 0) (oDec_at oX12_isBound 47 rfl) rfl rfl ?_
                refine r_geti (k := 68) (lo := 0) (hi := 15) C v38 oCl12 rfl (by decide) flX12_378 rfl rfl (ev38) rfl rfl (oDec_at oX12_isBound 48 rfl) (fun _ _ => ?_)
                refine r_iload_n C (j := 1) (oDec_at oX12_isBound 49 rfl) rfl rfl ?_
                refine r_callSi C miX12_paceOf mlX12_385 (ct_X12_paceOf l E (s) a1 (by omega)) (by decide) rfl rfl rfl (Nat.le_of_ble_eq_true rfl) (oDec_at oX12_isBound 50 rfl) (fun r47 u46 pu46 fu46 => ?_)
                try dsimp only at pu46
                have hxu46 := oFr_nil fu46; subst hxu46
                have rr47 := n_rng r47
                refine r_iconst C (oDec_at oX12_isBound 51 rfl) (v := k1) (by rw [qk1]; rfl) ?_
                refine r_icmp_ne C 102 (oDec_at oX12_isBound 52 rfl) (by decide) (fun cd48 => ?_) (fun cd48 => ?_)
                · skip
                  refine r_bipush C (oDec_at oX12_isBound 55 rfl) (v := k8) (by rw [qk8]; rfl) ?_
                  obtain ⟨v49, ev49⟩ : ∃ z : Int32, z = v38 / k8 := ⟨_, rfl⟩
                  have hv49 := n_divP (k := 8) ev49 ek8 (by decide)
                  have rv49 := n_rng v49
                  refine r_idiv C v49 (oDec_at oX12_isBound 56 rfl) (n_ne0 (by omega)) ev49 ?_
                  refine r_iconst C (oDec_at oX12_isBound 57 rfl) (v := k2) (by rw [qk2]; rfl) ?_
                  obtain ⟨v50, ev50⟩ : ∃ z : Int32, z = v49 - v49 / k2 * k2 := ⟨_, rfl⟩
                  have hv50 := n_rem (k := 2) ev50 ek2 (by decide)
                  have rv50 := n_rng v50
                  refine r_irem C v50 (oDec_at oX12_isBound 58 rfl) (n_ne0 (by omega)) ev50 ?_
                  refine r_iconst C (oDec_at oX12_isBound 59 rfl) (v := k1) (by rw [qk1]; rfl) ?_
                  refine r_icmp_ne C 115 (oDec_at oX12_isBound 60 rfl) (by decide) (fun cd51 => ?_) (fun cd51 => ?_)
                  · skip
                    refine r_iconst C (oDec_at oX12_isBound 63 rfl) (v := k0) (by rw [qk0]; rfl) ?_
                    exact r_zret C (n_bool (by omega)) (oDec_at oX12_isBound 64 rfl) ⟨_, rfl, by omega⟩
                  · skip
                    refine r_iconst C (oDec_at oX12_isBound 61 rfl) (v := k1) (by rw [qk1]; rfl) ?_
                    refine r_goto C (tgt := 116) (oDec_at oX12_isBound 62 rfl) (by decide) ?_
                    exact r_zret C (n_bool (by omega)) (oDec_at oX12_isBound 64 rfl) ⟨_, rfl, by omega⟩
                · skip
                  refine r_iconst C (oDec_at oX12_isBound 53 rfl) (v := k4) (by rw [qk4]; rfl) ?_
                  refine r_goto C (tgt := 104) (oDec_at oX12_isBound 54 rfl) (by decide) ?_
                  obtain ⟨v52, ev52⟩ : ∃ z : Int32, z = v38 / k4 := ⟨_, rfl⟩
                  have hv52 := n_divP (k := 4) ev52 ek4 (by decide)
                  have rv52 := n_rng v52
                  refine r_idiv C v52 (oDec_at oX12_isBound 56 rfl) (n_ne0 (by omega)) ev52 ?_
                  refine r_iconst C (oDec_at oX12_isBound 57 rfl) (v := k2) (by rw [qk2]; rfl) ?_
                  obtain ⟨v53, ev53⟩ : ∃ z : Int32, z = v52 - v52 / k2 * k2 := ⟨_, rfl⟩
                  have hv53 := n_rem (k := 2) ev53 ek2 (by decide)
                  have rv53 := n_rng v53
                  refine r_irem C v53 (oDec_at oX12_isBound 58 rfl) (n_ne0 (by omega)) ev53 ?_
                  refine r_iconst C (oDec_at oX12_isBound 59 rfl) (v := k1) (by rw [qk1]; rfl) ?_
                  refine r_icmp_ne C 115 (oDec_at oX12_isBound 60 rfl) (by decide) (fun cd54 => ?_) (fun cd54 => ?_)
                  · skip
                    refine r_iconst C (oDec_at oX12_isBound 63 rfl) (v := k0) (by rw [qk0]; rfl) ?_
                    exact r_zret C (n_bool (by omega)) (oDec_at oX12_isBound 64 rfl) ⟨_, rfl, by omega⟩
                  · skip
                    refine r_iconst C (oDec_at oX12_isBound 61 rfl) (v := k1) (by rw [qk1]; rfl) ?_
                    refine r_goto C (tgt := 116) (oDec_at oX12_isBound 62 rfl) (by decide) ?_
                    exact r_zret C (n_bool (by omega)) (oDec_at oX12_isBound 64 rfl) ⟨_, rfl, by omega⟩
            · skip
              refine r_iconst C (oDec_at oX12_isBound 42 rfl) (v := k0) (by rw [qk0]; rfl) ?_
              exact r_zret C (n_bool (by omega)) (oDec_at oX12_isBound 43 rfl) ⟨_, rfl, by omega⟩
        · skip
          refine r_aload_n C (j := 0) (oDec_at oX12_isBound 26 rfl) rfl rfl ?_
          obtain ⟨v55, ev55⟩ : ∃ z : Int32, (s).1 71 68 = z := ⟨_, rfl⟩
          have gv55 : (s.1 71 68).toInt = v55.toInt := congrArg Int32.toInt (ev55)
          refine r_geti (k := 68) (lo := 0) (hi := 15) C v55 oCl12 rfl (by decide) flX12_378 rfl rfl (ev55) rfl rfl (oDec_at oX12_isBound 27 rfl) (fun b56 b56h => ?_)
          refine r_iconst C (oDec_at oX12_isBound 28 rfl) (v := k2) (by rw [qk2]; rfl) ?_
          obtain ⟨v57, ev57⟩ : ∃ z : Int32, z = v55 - v55 / k2 * k2 := ⟨_, rfl⟩
          have hv57 := n_rem (k := 2) ev57 ek2 (by decide)
          have rv57 := n_rng v57
          refine r_irem C v57 (oDec_at oX12_isBound 29 rfl) (n_ne0 (by omega)) ev57 ?_
          refine r_if_eq C 77 (oDec_at oX12_isBound 30 rfl) (by decide) (fun cd58 => ?_) (fun cd58 => ?_)
          · skip
            refine r_iconst C (oDec_at oX12_isBound 42 rfl) (v := k0) (by rw [qk0]; rfl) ?_
            exact r_zret C (n_bool (by omega)) (oDec_at oX12_isBound 43 rfl) ⟨_, rfl, by omega⟩
          · skip
            refine r_iload_n C (j := 1) (oDec_at oX12_isBound 31 rfl) rfl rfl ?_
            refine r_callSi C miX12_backOf mlX12_395 (ct_X12_backOf l E (s) a1 (by omega)) (by decide) rfl rfl rfl (Nat.le_of_ble_eq_true rfl) (oDec_at oX12_isBound 32 rfl) (fun r60 u59 pu59 fu59 => ?_)
            try dsimp only at pu59
            have hxu59 := oFr_nil fu59; subst hxu59
            have rr60 := n_rng r60
            refine r_iconst C (oDec_at oX12_isBound 33 rfl) (v := k1) (by rw [qk1]; rfl) ?_
            refine r_icmp_ne C 79 (oDec_at oX12_isBound 34 rfl) (by decide) (fun cd61 => ?_) (fun cd61 => ?_)
            · skip
              refine r_iload_n C (j := 1) (oDec_at oX12_isBound 44 rfl) rfl rfl ?_
              refine r_callSi C miX12_paceOf mlX12_385 (ct_X12_paceOf l E (s) a1 (by omega)) (by decide) rfl rfl rfl (Nat.le_of_ble_eq_true rfl) (oDec_at oX12_isBound 45 rfl) (fun r63 u62 pu62 fu62 => ?_)
              try dsimp only at pu62
              have hxu62 := oFr_nil fu62; subst hxu62
              have rr63 := n_rng r63
              refine r_if_eq C 111 (oDec_at oX12_isBound 46 rfl) (by decide) (fun cd64 => ?_) (fun cd64 => ?_)
              · skip
                refine r_iconst C (oDec_at oX12_isBound 61 rfl) (v := k1) (by rw [qk1]; rfl) ?_
                refine r_goto C (tgt := 116) (oDec_at oX12_isBound 62 rfl) (by decide) ?_
                exact r_zret C (n_bool (by omega)) (oDec_at oX12_isBound 64 rfl) ⟨_, rfl, by omega⟩
              · skip
                refine r_aload_n C (j := 0) (oDec_at oX12_isBound 47 rfl) rfl rfl ?_
                refine r_geti (k := 68) (lo := 0) (hi := 15) C v55 oCl12 rfl (by decide) flX12_378 rfl rfl (ev55) rfl rfl (oDec_at oX12_isBound 48 rfl) (fun _ _ => ?_)
                refine r_iload_n C (j := 1) (oDec_at oX12_isBound 49 rfl) rfl rfl ?_
                refine r_callSi C miX12_paceOf mlX12_385 (ct_X12_paceOf l E (s) a1 (by omega)) (by decide) rfl rfl rfl (Nat.le_of_ble_eq_true rfl) (oDec_at oX12_isBound 50 rfl) (fun r66 u65 pu65 fu65 => ?_)
                try dsimp only at pu65
                have hxu65 := oFr_nil fu65; subst hxu65
                have rr66 := n_rng r66
                refine r_iconst C (oDec_at oX12_isBound 51 rfl) (v := k1) (by rw [qk1]; rfl) ?_
                refine r_icmp_ne C 102 (oDec_at oX12_isBound 52 rfl) (by decide) (fun cd67 => ?_) (fun cd67 => ?_)
                · skip
                  refine r_bipush C (oDec_at oX12_isBound 55 rfl) (v := k8) (by rw [qk8]; rfl) ?_
                  obtain ⟨v68, ev68⟩ : ∃ z : Int32, z = v55 / k8 := ⟨_, rfl⟩
                  have hv68 := n_divP (k := 8) ev68 ek8 (by decide)
                  have rv68 := n_rng v68
                  refine r_idiv C v68 (oDec_at oX12_isBound 56 rfl) (n_ne0 (by omega)) ev68 ?_
                  refine r_iconst C (oDec_at oX12_isBound 57 rfl) (v := k2) (by rw [qk2]; rfl) ?_
                  obtain ⟨v69, ev69⟩ : ∃ z : Int32, z = v68 - v68 / k2 * k2 := ⟨_, rfl⟩
                  have hv69 := n_rem (k := 2) ev69 ek2 (by decide)
                  have rv69 := n_rng v69
                  refine r_irem C v69 (oDec_at oX12_isBound 58 rfl) (n_ne0 (by omega)) ev69 ?_
                  refine r_iconst C (oDec_at oX12_isBound 59 rfl) (v := k1) (by rw [qk1]; rfl) ?_
                  refine r_icmp_ne C 115 (oDec_at oX12_isBound 60 rfl) (by decide) (fun cd70 => ?_) (fun cd70 => ?_)
                  · skip
                    refine r_iconst C (oDec_at oX12_isBound 63 rfl) (v := k0) (by rw [qk0]; rfl) ?_
                    exact r_zret C (n_bool (by omega)) (oDec_at oX12_isBound 64 rfl) ⟨_, rfl, by omega⟩
                  · skip
                    refine r_iconst C (oDec_at oX12_isBound 61 rfl) (v := k1) (by rw [qk1]; rfl) ?_
                    refine r_goto C (tgt := 116) (oDec_at oX12_isBound 62 rfl) (by decide) ?_
                    exact r_zret C (n_bool (by omega)) (oDec_at oX12_isBound 64 rfl) ⟨_, rfl, by omega⟩
                · skip
                  refine r_iconst C (oDec_at oX12_isBound 53 rfl) (v := k4) (by rw [qk4]; rfl) ?_
                  refine r_goto C (tgt := 104) (oDec_at oX12_isBound 54 rfl) (by decide) ?_
                  obtain ⟨v71, ev71⟩ : ∃ z : Int32, z = v55 / k4 := ⟨_, rfl⟩
                  have hv71 := n_divP (k := 4) ev71 ek4 (by decide)
                  have rv71 := n_rng v71
                  refine r_idiv C v71 (oDec_at oX12_isBound 56 rfl) (n_ne0 (by omega)) ev71 ?_
                  refine r_iconst C (oDec_at oX12_isBound 57 rfl) (v := k2) (by rw [qk2]; rfl) ?_
                  obtain ⟨v72, ev72⟩ : ∃ z : Int32, z = v71 - v71 / k2 * k2 := ⟨_, rfl⟩
                  have hv72 := n_rem (k := 2) ev72 ek2 (by decide)
                  have rv72 := n_rng v72
                  refine r_irem C v72 (oDec_at oX12_isBound 58 rfl) (n_ne0 (by omega)) ev72 ?_
                  refine r_iconst C (oDec_at oX12_isBound 59 rfl) (v := k1) (by rw [qk1]; rfl) ?_
                  refine r_icmp_ne C 115 (oDec_at oX12_isBound 60 rfl) (by decide) (fun cd73 => ?_) (fun cd73 => ?_)
                  · skip
                    refine r_iconst C (oDec_at oX12_isBound 63 rfl) (v := k0) (by rw [qk0]; rfl) ?_
                    exact r_zret C (n_bool (by omega)) (oDec_at oX12_isBound 64 rfl) ⟨_, rfl, by omega⟩
                  · skip
                    refine r_iconst C (oDec_at oX12_isBound 61 rfl) (v := k1) (by rw [qk1]; rfl) ?_
                    refine r_goto C (tgt := 116) (oDec_at oX12_isBound 62 rfl) (by decide) ?_
                    exact r_zret C (n_bool (by omega)) (oDec_at oX12_isBound 64 rfl) ⟨_, rfl, by omega⟩
            · skip
              refine r_aload_n C (j := 0) (oDec_at oX12_isBound 35 rfl) rfl rfl ?_
              refine r_geti (k := 68) (lo := 0) (hi := 15) C v55 oCl12 rfl (by decide) flX12_378 rfl rfl (ev55) rfl rfl (oDec_at oX12_isBound 36 rfl) (fun _ _ => ?_)
              refine r_iconst C (oDec_at oX12_isBound 37 rfl) (v := k2) (by rw [qk2]; rfl) ?_
              obtain ⟨v74, ev74⟩ : ∃ z : Int32, z = v55 / k2 := ⟨_, rfl⟩
              have hv74 := n_divP (k := 2) ev74 ek2 (by decide)
              have rv74 := n_rng v74
              refine r_idiv C v74 (oDec_at oX12_isBound 38 rfl) (n_ne0 (by omega)) ev74 ?_
              refine r_iconst C (oDec_at oX12_isBound 39 rfl) (v := k2) (by rw [qk2]; rfl) ?_
              obtain ⟨v75, ev75⟩ : ∃ z : Int32, z = v74 - v74 / k2 * k2 := ⟨_, rfl⟩
              have hv75 := n_rem (k := 2) ev75 ek2 (by decide)
              have rv75 := n_rng v75
              refine r_irem C v75 (oDec_at oX12_isBound 40 rfl) (n_ne0 (by omega)) ev75 ?_
              refine r_pc C 74 rfl ?_
              refine r_if_ne C 79 (oDec_at oX12_isBound 41 rfl) (by decide) (fun cd76 => ?_) (fun cd76 => ?_)
              · skip
                refine r_iload_n C (j := 1) (oDec_at oX12_isBound 44 rfl) rfl rfl ?_
                refine r_callSi C miX12_paceOf mlX12_385 (ct_X12_paceOf l E (s) a1 (by omega)) (by decide) rfl rfl rfl (Nat.le_of_ble_eq_true rfl) (oDec_at oX12_isBound 45 rfl) (fun r78 u77 pu77 fu77 => ?_)
                try dsimp only at pu77
                have hxu77 := oFr_nil fu77; subst hxu77
                have rr78 := n_rng r78
                refine r_if_eq C 111 (oDec_at oX12_isBound 46 rfl) (by decide) (fun cd79 => ?_) (fun cd79 => ?_)
                · skip
                  refine r_iconst C (oDec_at oX12_isBound 61 rfl) (v := k1) (by rw [qk1]; rfl) ?_
                  refine r_goto C (tgt := 116) (oDec_at oX12_isBound 62 rfl) (by decide) ?_
                  exact r_zret C (n_bool (by omega)) (oDec_at oX12_isBound 64 rfl) ⟨_, rfl, by omega⟩
                · skip
                  refine r_aload_n C (j := 0) (oDec_at oX12_isBound 47 rfl) rfl rfl ?_
                  refine r_geti (k := 68) (lo := 0) (hi := 15) C v55 oCl12 rfl (by decide) flX12_378 rfl rfl (ev55) rfl rfl (oDec_at oX12_isBound 48 rfl) (fun _ _ => ?_)
                  refine r_iload_n C (j := 1) (oDec_at oX12_isBound 49 rfl) rfl rfl ?_
                  refine r_callSi C miX12_paceOf mlX12_385 (ct_X12_paceOf l E (s) a1 (by omega)) (by decide) rfl rfl rfl (Nat.le_of_ble_eq_true rfl) (oDec_at oX12_isBound 50 rfl) (fun r81 u80 pu80 fu80 => ?_)
                  try dsimp only at pu80
                  have hxu80 := oFr_nil fu80; subst hxu80
                  have rr81 := n_rng r81
                  refine r_iconst C (oDec_at oX12_isBound 51 rfl) (v := k1) (by rw [qk1]; rfl) ?_
                  refine r_icmp_ne C 102 (oDec_at oX12_isBound 52 rfl) (by decide) (fun cd82 => ?_) (fun cd82 => ?_)
                  · skip
                    refine r_bipush C (oDec_at oX12_isBound 55 rfl) (v := k8) (by rw [qk8]; rfl) ?_
                    obtain ⟨v83, ev83⟩ : ∃ z : Int32, z = v55 / k8 := ⟨_, rfl⟩
                    have hv83 := n_divP (k := 8) ev83 ek8 (by decide)
                    have rv83 := n_rng v83
                    refine r_idiv C v83 (oDec_at oX12_isBound 56 rfl) (n_ne0 (by omega)) ev83 ?_
                    refine r_iconst C (oDec_at oX12_isBound 57 rfl) (v := k2) (by rw [qk2]; rfl) ?_
                    obtain ⟨v84, ev84⟩ : ∃ z : Int32, z = v83 - v83 / k2 * k2 := ⟨_, rfl⟩
                    have hv84 := n_rem (k := 2) ev84 ek2 (by decide)
                    have rv84 := n_rng v84
                    refine r_irem C v84 (oDec_at oX12_isBound 58 rfl) (n_ne0 (by omega)) ev84 ?_
                    refine r_iconst C (oDec_at oX12_isBound 59 rfl) (v := k1) (by rw [qk1]; rfl) ?_
                    refine r_icmp_ne C 115 (oDec_at oX12_isBound 60 rfl) (by decide) (fun cd85 => ?_) (fun cd85 => ?_)
                    · skip
                      refine r_iconst C (oDec_at oX12_isBound 63 rfl) (v := k0) (by rw [qk0]; rfl) ?_
                      exact r_zret C (n_bool (by omega)) (oDec_at oX12_isBound 64 rfl) ⟨_, rfl, by omega⟩
                    · skip
                      refine r_iconst C (oDec_at oX12_isBound 61 rfl) (v := k1) (by rw [qk1]; rfl) ?_
                      refine r_goto C (tgt := 116) (oDec_at oX12_isBound 62 rfl) (by decide) ?_
                      exact r_zret C (n_bool (by omega)) (oDec_at oX12_isBound 64 rfl) ⟨_, rfl, by omega⟩
                  · skip
                    refine r_iconst C (oDec_at oX12_isBound 53 rfl) (v := k4) (by rw [qk4]; rfl) ?_
                    refine r_goto C (tgt := 104) (oDec_at oX12_isBound 54 rfl) (by decide) ?_
                    obtain ⟨v86, ev86⟩ : ∃ z : Int32, z = v55 / k4 := ⟨_, rfl⟩
                    have hv86 := n_divP (k := 4) ev86 ek4 (by decide)
                    have rv86 := n_rng v86
                    refine r_idiv C v86 (oDec_at oX12_isBound 56 rfl) (n_ne0 (by omega)) ev86 ?_
                    refine r_iconst C (oDec_at oX12_isBound 57 rfl) (v := k2) (by rw [qk2]; rfl) ?_
                    obtain ⟨v87, ev87⟩ : ∃ z : Int32, z = v86 - v86 / k2 * k2 := ⟨_, rfl⟩
                    have hv87 := n_rem (k := 2) ev87 ek2 (by decide)
                    have rv87 := n_rng v87
                    refine r_irem C v87 (oDec_at oX12_isBound 58 rfl) (n_ne0 (by omega)) ev87 ?_
                    refine r_iconst C (oDec_at oX12_isBound 59 rfl) (v := k1) (by rw [qk1]; rfl) ?_
                    refine r_icmp_ne C 115 (oDec_at oX12_isBound 60 rfl) (by decide) (fun cd88 => ?_) (fun cd88 => ?_)
                    · skip
                      refine r_iconst C (oDec_at oX12_isBound 63 rfl) (v := k0) (by rw [qk0]; rfl) ?_
                      exact r_zret C (n_bool (by omega)) (oDec_at oX12_isBound 64 rfl) ⟨_, rfl, by omega⟩
                    · skip
                      refine r_iconst C (oDec_at oX12_isBound 61 rfl) (v := k1) (by rw [qk1]; rfl) ?_
                      refine r_goto C (tgt := 116) (oDec_at oX12_isBound 62 rfl) (by decide) ?_
                      exact r_zret C (n_bool (by omega)) (oDec_at oX12_isBound 64 rfl) ⟨_, rfl, by omega⟩
              · skip
                refine r_iconst C (oDec_at oX12_isBound 42 rfl) (v := k0) (by rw [qk0]; rfl) ?_
                exact r_zret C (n_bool (by omega)) (oDec_at oX12_isBound 43 rfl) ⟨_, rfl, by omega⟩
      · skip
        refine r_iconst C (oDec_at oX12_isBound 20 rfl) (v := k0) (by rw [qk0]; rfl) ?_
        exact r_zret C (n_bool (by omega)) (oDec_at oX12_isBound 21 rfl) ⟨_, rfl, by omega⟩
set_option maxHeartbeats 4000000 in
set_option maxRecDepth 100000 in
theorem ct_X12_chosen (l : Launch) (E : oE) (s : oS)   : oMet l 1 yX12_chosen cX12_chosen 1 (some .int) [] E s [.ref (oad E 71)] (oPi (fun r u => (0 ≤ r.toInt ∧ r.toInt ≤ 40) ∧ (r.toInt ≤ (s.1 71 71).toInt))) := by
  refine oMet.of (lv := [(0, .ref (oad E 71))]) (by decide +kernel) (Nat.le_of_ble_eq_true rfl) rfl (fun J C hT => ?_)
  have C : oC l 1 cX12_chosen RX12 1 (some .int) [] E s (oPi (fun r u => (0 ≤ r.toInt ∧ r.toInt ≤ 40) ∧ (r.toInt ≤ (s.1 71 71).toInt))) J := C
  obtain ⟨k40, qk40⟩ : ∃ z : Int32, z = 40 := ⟨_, rfl⟩
  have ek40 : k40.toInt = 40 := by rw [qk40]; rfl
  refine r_aload_n C (j := 0) (oDec_at oX12_chosen 0 rfl) rfl rfl ?_
  obtain ⟨v1, ev1⟩ : ∃ z : Int32, (s).1 71 71 = z := ⟨_, rfl⟩
  have gv1 : (s.1 71 71).toInt = v1.toInt := congrArg Int32.toInt (ev1)
  refine r_geti (k := 71) (lo := 0) (hi := 4500) C v1 oCl12 rfl (by decide) flX12_482 rfl rfl (ev1) rfl rfl (oDec_at oX12_chosen 1 rfl) (fun b2 b2h => ?_)
  refine r_bipush C (oDec_at oX12_chosen 2 rfl) (v := k40) (by rw [qk40]; rfl) ?_
  refine r_icmp_ge C 16 (oDec_at oX12_chosen 3 rfl) (by decide) (fun cd3 => ?_) (fun cd3 => ?_)
  · skip
    refine r_bipush C (oDec_at oX12_chosen 7 rfl) (v := k40) (by rw [qk40]; rfl) ?_
    exact r_iret C (oDec_at oX12_chosen 8 rfl) ⟨_, rfl, ⟨by omega, by omega⟩⟩
  · skip
    refine r_aload_n C (j := 0) (oDec_at oX12_chosen 4 rfl) rfl rfl ?_
    refine r_geti (k := 71) (lo := 0) (hi := 4500) C v1 oCl12 rfl (by decide) flX12_482 rfl rfl (ev1) rfl rfl (oDec_at oX12_chosen 5 rfl) (fun _ _ => ?_)
    refine r_goto C (tgt := 18) (oDec_at oX12_chosen 6 rfl) (by decide) ?_
    exact r_iret C (oDec_at oX12_chosen 8 rfl) ⟨_, rfl, ⟨by omega, by omega⟩⟩
set_option maxHeartbeats 4000000 in
set_option maxRecDepth 100000 in
theorem ct_X12_has (l : Launch) (E : oE) (s : oS) (a1 : Int32)  : oMet l 1 yX12_has cX12_has 4 (some .int) [] E s [.ref (oad E 71), .int a1] (oPi (fun r u => True)) := by
  refine oMet.of (lv := [(0, .ref (oad E 71)), (1, .int a1)]) (by decide +kernel) (Nat.le_of_ble_eq_true rfl) rfl (fun J C hT => ?_)
  have C : oC l 1 cX12_has RX12 4 (some .int) [] E s (oPi (fun r u => True)) J := C
  obtain ⟨km1, qkm1⟩ : ∃ z : Int32, z = (-1) := ⟨_, rfl⟩
  have ekm1 : km1.toInt = (-1) := by rw [qkm1]; rfl
  obtain ⟨k0, qk0⟩ : ∃ z : Int32, z = 0 := ⟨_, rfl⟩
  have ek0 : k0.toInt = 0 := by rw [qk0]; rfl
  obtain ⟨k1, qk1⟩ : ∃ z : Int32, z = 1 := ⟨_, rfl⟩
  have ek1 : k1.toInt = 1 := by rw [qk1]; rfl
  have rg1 := n_rng a1
  have key : ∀ n : Nat, (∀ (t : oS) (x2 : Int32) (x3 : Int32), (0 ≤ x3.toInt ∧ x3.toInt ≤ 24) → (0 ≤ x2.toInt ∧ x2.toInt ≤ x3.toInt) → 25 - x3.toInt ≤ (n : Int) → J t 63 [(0, .ref (oad E 71)), (2, .int x2), (3, .int x3)] []) := by
    intro n
    induction n using Nat.strongRecOn with
    | _ n ih =>
      skip
      · intro t x2 x3  iv0 iv1 hmu
        have rx2 := n_rng x2
        have rx3 := n_rng x3
        refine r_iload_n C (j := 2) (oDec_at oX12_has 9 rfl) rfl rfl ?_
        refine r_aload_n C (j := 0) (oDec_at oX12_has 10 rfl) rfl rfl ?_
        obtain ⟨v1, ev1⟩ : ∃ z : Int32, (t).1 71 38 = z := ⟨_, rfl⟩
        have gv1 : (t.1 71 38).toInt = v1.toInt := congrArg Int32.toInt (ev1)
        refine r_geti (k := 38) (lo := 0) (hi := 24) C v1 oCl12 rfl (by decide) flX12_261 rfl rfl (ev1) rfl rfl (oDec_at oX12_has 11 rfl) (fun b2 b2h => ?_)
        refine r_icmp_ge C 90 (oDec_at oX12_has 12 rfl) (by decide) (fun cd3 => ?_) (fun cd3 => ?_)
        · skip
          refine r_iload_n C (j := 1) (oDec_at oX12_has 22 rfl) rfl rfl ?_
          exact r_iret C (oDec_at oX12_has 23 rfl) ⟨_, rfl, trivial⟩
        · skip
          refine r_aload_n C (j := 0) (oDec_at oX12_has 13 rfl) rfl rfl ?_
          refine r_getF (k := 39) (b := 99) C oCl12 rfl (by decide) flX12_96 rfl rfl rfl (oDec_at oX12_has 14 rfl) ?_
          refine r_iload_n C (j := 2) (oDec_at oX12_has 15 rfl) rfl rfl ?_
          obtain ⟨v5, ev5⟩ : ∃ z : Int32, (t).1 99 x3.toNatClampNeg = z := ⟨_, rfl⟩
          have gv5 : (t.1 99 x3.toNatClampNeg).toInt = v5.toInt := congrArg Int32.toInt (ev5)
          have rv5 := n_rng v5
          refine r_iald (n := 48) (lo := (-2147483648)) (hi := 2147483647) C v5 rfl (by decide) rfl rfl ⟨by omega, by omega⟩ (by decide) ev5 rfl rfl (oDec_at oX12_has 16 rfl) (fun _ _ => ?_)
          refine r_iconst C (oDec_at oX12_has 17 rfl) (v := km1) (by rw [qkm1]; rfl) ?_
          refine r_icmp_ne C 84 (oDec_at oX12_has 18 rfl) (by decide) (fun cd6 => ?_) (fun cd6 => ?_)
          · skip
            obtain ⟨v7, ev7⟩ : ∃ z : Int32, x3 + Int32.ofInt 1 = z := ⟨_, rfl⟩
            have hv7 : v7.toInt = x3.toInt + 1 := n_inc ev7 (by decide) (by omega) (by omega)
            refine r_iinc C (j := 2) (lv' := [(0, .ref (oad E 71)), (2, .int x2), (3, .int v7)]) v7 [1, 2, 0] (oDec_at oX12_has 20 rfl) rfl ev7 (by decide) rfl ?_
            refine r_goto C (tgt := 63) (oDec_at oX12_has 21 rfl) (by decide) ?_
            exact (ih (n - 1) (by omega)) (t) x2 v7  (by omega) (by omega) (by omega)
          · skip
            obtain ⟨v8, ev8⟩ : ∃ z : Int32, x2 + Int32.ofInt 1 = z := ⟨_, rfl⟩
            have hv8 : v8.toInt = x2.toInt + 1 := n_inc ev8 (by decide) (by omega) (by omega)
            refine r_iinc C (j := 1) (lv' := [(0, .ref (oad E 71)), (2, .int v8), (3, .int x3)]) v8 [1, 0, 2] (oDec_at oX12_has 19 rfl) rfl ev8 (by decide) rfl ?_
            obtain ⟨v9, ev9⟩ : ∃ z : Int32, x3 + Int32.ofInt 1 = z := ⟨_, rfl⟩
            have hv9 : v9.toInt = x3.toInt + 1 := n_inc ev9 (by decide) (by omega) (by omega)
            refine r_iinc C (j := 2) (lv' := [(0, .ref (oad E 71)), (2, .int v8), (3, .int v9)]) v9 [1, 2, 0] (oDec_at oX12_has 20 rfl) rfl ev9 (by decide) rfl ?_
            refine r_goto C (tgt := 63) (oDec_at oX12_has 21 rfl) (by decide) ?_
            exact (ih (n - 1) (by omega)) (t) v8 v9  (by omega) (by omega) (by omega)
  refine r_iconst C (oDec_at oX12_has 0 rfl) (v := k0) (by rw [qk0]; rfl) ?_
  refine r_istore_n C (lv' := [(0, .ref (oad E 71)), (1, .int a1), (2, .int k0)]) [1, 2, 0] (oDec_at oX12_has 1 rfl) rfl (by decide) rfl ?_
  refine r_iload_n C (j := 1) (oDec_at oX12_has 2 rfl) rfl rfl ?_
  by_cases cd10_0 : a1.toInt = 0
  · refine r_tableIn C 56 (oDec_at oX12_has 3 rfl) (by omega) (by omega) (by rw [cd10_0]; rfl) (by decide) ?_
    refine r_aload_n C (j := 0) (oDec_at oX12_has 4 rfl) rfl rfl ?_
    obtain ⟨v11, ev11⟩ : ∃ z : Int32, (s).1 71 38 = z := ⟨_, rfl⟩
    have gv11 : (s.1 71 38).toInt = v11.toInt := congrArg Int32.toInt (ev11)
    refine r_geti (k := 38) (lo := 0) (hi := 24) C v11 oCl12 rfl (by decide) flX12_261 rfl rfl (ev11) rfl rfl (oDec_at oX12_has 5 rfl) (fun b12 b12h => ?_)
    exact r_iret C (oDec_at oX12_has 6 rfl) ⟨_, rfl, trivial⟩
  by_cases cd10_1 : a1.toInt = 1
  · refine r_tableIn C 61 (oDec_at oX12_has 3 rfl) (by omega) (by omega) (by rw [cd10_1]; rfl) (by decide) ?_
    refine r_iconst C (oDec_at oX12_has 7 rfl) (v := k0) (by rw [qk0]; rfl) ?_
    refine r_istore_n C (lv' := [(0, .ref (oad E 71)), (1, .int a1), (2, .int k0), (3, .int k0)]) [1, 2, 3, 0] (oDec_at oX12_has 8 rfl) rfl (by decide) rfl ?_
    refine r_pick C [0, 2, 3] rfl ?_
    exact (key (25 - k0.toInt).toNat) (s) k0 k0  (by omega) (by omega) (by omega)
  by_cases cd10_2 : a1.toInt = 2
  · refine r_tableIn C 92 (oDec_at oX12_has 3 rfl) (by omega) (by omega) (by rw [cd10_2]; rfl) (by decide) ?_
    refine r_aload_n C (j := 0) (oDec_at oX12_has 24 rfl) rfl rfl ?_
    obtain ⟨v13, ev13⟩ : ∃ z : Int32, (s).1 71 42 = z := ⟨_, rfl⟩
    have gv13 : (s.1 71 42).toInt = v13.toInt := congrArg Int32.toInt (ev13)
    refine r_geti (k := 42) (lo := 0) (hi := 96) C v13 oCl12 rfl (by decide) flX12_267 rfl rfl (ev13) rfl rfl (oDec_at oX12_has 25 rfl) (fun b14 b14h => ?_)
    exact r_iret C (oDec_at oX12_has 26 rfl) ⟨_, rfl, trivial⟩
  by_cases cd10_3 : a1.toInt = 3
  · refine r_tableIn C 97 (oDec_at oX12_has 3 rfl) (by omega) (by omega) (by rw [cd10_3]; rfl) (by decide) ?_
    refine r_aload_n C (j := 0) (oDec_at oX12_has 27 rfl) rfl rfl ?_
    refine r_getF (k := 49) (b := 104) C oCl12 rfl (by decide) flX12_114 rfl rfl rfl (oDec_at oX12_has 28 rfl) ?_
    refine r_iconst C (oDec_at oX12_has 29 rfl) (v := k0) (by rw [qk0]; rfl) ?_
    obtain ⟨v16, ev16⟩ : ∃ z : Int32, (s).1 104 k0.toNatClampNeg = z := ⟨_, rfl⟩
    have gv16 : (s.1 104 k0.toNatClampNeg).toInt = v16.toInt := congrArg Int32.toInt (ev16)
    refine r_iald (n := 4) (lo := 0) (hi := 12) C v16 rfl (by decide) rfl rfl ⟨by omega, by omega⟩ (by decide) ev16 rfl rfl (oDec_at oX12_has 30 rfl) (fun b15 b15h => ?_)
    exact r_iret C (oDec_at oX12_has 31 rfl) ⟨_, rfl, trivial⟩
  by_cases cd10_4 : a1.toInt = 4
  · refine r_tableIn C 104 (oDec_at oX12_has 3 rfl) (by omega) (by omega) (by rw [cd10_4]; rfl) (by decide) ?_
    refine r_aload_n C (j := 0) (oDec_at oX12_has 32 rfl) rfl rfl ?_
    refine r_getF (k := 49) (b := 104) C oCl12 rfl (by decide) flX12_114 rfl rfl rfl (oDec_at oX12_has 33 rfl) ?_
    refine r_iconst C (oDec_at oX12_has 34 rfl) (v := k1) (by rw [qk1]; rfl) ?_
    obtain ⟨v18, ev18⟩ : ∃ z : Int32, (s).1 104 k1.toNatClampNeg = z := ⟨_, rfl⟩
    have gv18 : (s.1 104 k1.toNatClampNeg).toInt = v18.toInt := congrArg Int32.toInt (ev18)
    refine r_iald (n := 4) (lo := 0) (hi := 12) C v18 rfl (by decide) rfl rfl ⟨by omega, by omega⟩ (by decide) ev18 rfl rfl (oDec_at oX12_has 35 rfl) (fun b17 b17h => ?_)
    exact r_iret C (oDec_at oX12_has 36 rfl) ⟨_, rfl, trivial⟩
  by_cases cd10_5 : a1.toInt = 5
  · refine r_tableIn C 111 (oDec_at oX12_has 3 rfl) (by omega) (by omega) (by rw [cd10_5]; rfl) (by decide) ?_
    refine r_aload_n C (j := 0) (oDec_at oX12_has 37 rfl) rfl rfl ?_
    obtain ⟨v19, ev19⟩ : ∃ z : Int32, (s).1 71 53 = z := ⟨_, rfl⟩
    have gv19 : (s.1 71 53).toInt = v19.toInt := congrArg Int32.toInt (ev19)
    refine r_geti (k := 53) (lo := 2) (hi := 12) C v19 oCl12 rfl (by decide) flX12_127 rfl rfl (ev19) rfl rfl (oDec_at oX12_has 38 rfl) (fun b20 b20h => ?_)
    exact r_iret C (oDec_at oX12_has 39 rfl) ⟨_, rfl, trivial⟩
  by_cases cd10_6 : a1.toInt = 6
  · refine r_tableIn C 116 (oDec_at oX12_has 3 rfl) (by omega) (by omega) (by rw [cd10_6]; rfl) (by decide) ?_
    refine r_aload_n C (j := 0) (oDec_at oX12_has 40 rfl) rfl rfl ?_
    obtain ⟨v21, ev21⟩ : ∃ z : Int32, (s).1 71 43 = z := ⟨_, rfl⟩
    have gv21 : (s.1 71 43).toInt = v21.toInt := congrArg Int32.toInt (ev21)
    have rv21 := n_rng v21
    refine r_geti (k := 43) (lo := (-2147483648)) (hi := 2147483647) C v21 oCl12 rfl (by decide) flX12_105 rfl rfl (ev21) rfl rfl (oDec_at oX12_has 41 rfl) (fun _ _ => ?_)
    exact r_iret C (oDec_at oX12_has 42 rfl) ⟨_, rfl, trivial⟩
  by_cases cd10_7 : a1.toInt = 7
  · refine r_tableIn C 121 (oDec_at oX12_has 3 rfl) (by omega) (by omega) (by rw [cd10_7]; rfl) (by decide) ?_
    refine r_aload_n C (j := 0) (oDec_at oX12_has 43 rfl) rfl rfl ?_
    obtain ⟨v22, ev22⟩ : ∃ z : Int32, (s).1 71 66 = z := ⟨_, rfl⟩
    have gv22 : (s.1 71 66).toInt = v22.toInt := congrArg Int32.toInt (ev22)
    refine r_geti (k := 66) (lo := 0) (hi := 24) C v22 oCl12 rfl (by decide) flX12_139 rfl rfl (ev22) rfl rfl (oDec_at oX12_has 44 rfl) (fun b23 b23h => ?_)
    exact r_iret C (oDec_at oX12_has 45 rfl) ⟨_, rfl, trivial⟩
  by_cases cd10_8 : a1.toInt = 8
  · refine r_tableIn C 126 (oDec_at oX12_has 3 rfl) (by omega) (by omega) (by rw [cd10_8]; rfl) (by decide) ?_
    refine r_aload_n C (j := 0) (oDec_at oX12_has 46 rfl) rfl rfl ?_
    obtain ⟨v24, ev24⟩ : ∃ z : Int32, (s).1 71 67 = z := ⟨_, rfl⟩
    have gv24 : (s.1 71 67).toInt = v24.toInt := congrArg Int32.toInt (ev24)
    refine r_geti (k := 67) (lo := 0) (hi := 7) C v24 oCl12 rfl (by decide) flX12_142 rfl rfl (ev24) rfl rfl (oDec_at oX12_has 47 rfl) (fun b25 b25h => ?_)
    exact r_iret C (oDec_at oX12_has 48 rfl) ⟨_, rfl, trivial⟩
  by_cases cd10_9 : a1.toInt = 9
  · refine r_tableIn C 131 (oDec_at oX12_has 3 rfl) (by omega) (by omega) (by rw [cd10_9]; rfl) (by decide) ?_
    refine r_aload_n C (j := 0) (oDec_at oX12_has 49 rfl) rfl rfl ?_
    obtain ⟨v26, ev26⟩ : ∃ z : Int32, (s).1 71 68 = z := ⟨_, rfl⟩
    have gv26 : (s.1 71 68).toInt = v26.toInt := congrArg Int32.toInt (ev26)
    refine r_geti (k := 68) (lo := 0) (hi := 15) C v26 oCl12 rfl (by decide) flX12_378 rfl rfl (ev26) rfl rfl (oDec_at oX12_has 50 rfl) (fun b27 b27h => ?_)
    exact r_iret C (oDec_at oX12_has 51 rfl) ⟨_, rfl, trivial⟩
  refine r_tableOut C 136 (oDec_at oX12_has 3 rfl) (by omega) (by decide) ?_
  refine r_iconst C (oDec_at oX12_has 52 rfl) (v := km1) (by rw [qkm1]; rfl) ?_
  exact r_iret C (oDec_at oX12_has 53 rfl) ⟨_, rfl, trivial⟩
set_option maxHeartbeats 4000000 in
set_option maxRecDepth 100000 in
theorem ct_X12_note (l : Launch) (E : oE) (s : oS) (a1 : Int32) (a2 : Int32)  : oMet l 2 yX12_note cX12_note 5 (some .int) [] E s [.ref (oad E 71), .int a1, .int a2] (oPi (fun r u => True)) := by
  refine oMet.of (lv := [(0, .ref (oad E 71)), (1, .int a1), (2, .int a2)]) (by decide +kernel) (Nat.le_of_ble_eq_true rfl) rfl (fun J C hT => ?_)
  have C : oC l 2 cX12_note RX12 5 (some .int) [] E s (oPi (fun r u => True)) J := C
  obtain ⟨km1, qkm1⟩ : ∃ z : Int32, z = (-1) := ⟨_, rfl⟩
  have ekm1 : km1.toInt = (-1) := by rw [qkm1]; rfl
  obtain ⟨k0, qk0⟩ : ∃ z : Int32, z = 0 := ⟨_, rfl⟩
  have ek0 : k0.toInt = 0 := by rw [qk0]; rfl
  obtain ⟨k1, qk1⟩ : ∃ z : Int32, z = 1 := ⟨_, rfl⟩
  have ek1 : k1.toInt = 1 := by rw [qk1]; rfl
  obtain ⟨k2, qk2⟩ : ∃ z : Int32, z = 2 := ⟨_, rfl⟩
  have ek2 : k2.toInt = 2 := by rw [qk2]; rfl
  obtain ⟨j0, qj0⟩ : ∃ z : Int64, z = 0 := ⟨_, rfl⟩
  have ej0 : j0.toInt = 0 := by rw [qj0]; rfl
  have rg1 := n_rng a1
  have rg2 := n_rng a2
  have key : ∀ n : Nat, (∀ (t : oS) (x3 : Int32) (x4 : Int32), (0 ≤ x4.toInt ∧ x4.toInt ≤ a1.toInt) → (a1.toInt ≤ 23) → (0 ≤ x3.toInt ∧ x3.toInt ≤ 10000 * x4.toInt) → 25 - x4.toInt ≤ (n : Int) → J t 23 [(0, .ref (oad E 71)), (1, .int a1), (2, .int a2), (3, .int x3), (4, .int x4)] []) := by
    intro n
    induction n using Nat.strongRecOn with
    | _ n ih =>
      skip
      · intro t x3 x4  iv0 iv1 iv2 hmu
        have rx3 := n_rng x3
        have rx4 := n_rng x4
        refine r_iload C (j := 4) (oDec_at oX12_note 16 rfl) rfl ?_
        refine r_iload_n C (j := 1) (oDec_at oX12_note 17 rfl) rfl rfl ?_
        refine r_icmp_ge C 45 (oDec_at oX12_note 18 rfl) (by decide) (fun cd1 => ?_) (fun cd1 => ?_)
        · skip
          refine r_iload_n C (j := 2) (oDec_at oX12_note 28 rfl) rfl rfl ?_
          refine r_if_ne C 58 (oDec_at oX12_note 29 rfl) (by decide) (fun cd2 => ?_) (fun cd2 => ?_)
          · skip
            refine r_iload_n C (j := 2) (oDec_at oX12_note 35 rfl) rfl rfl ?_
            refine r_iconst C (oDec_at oX12_note 36 rfl) (v := k1) (by rw [qk1]; rfl) ?_
            refine r_icmp_ne C 72 (oDec_at oX12_note 37 rfl) (by decide) (fun cd3 => ?_) (fun cd3 => ?_)
            · skip
              refine r_iload_n C (j := 2) (oDec_at oX12_note 43 rfl) rfl rfl ?_
              refine r_iconst C (oDec_at oX12_note 44 rfl) (v := k2) (by rw [qk2]; rfl) ?_
              refine r_icmp_ne C 81 (oDec_at oX12_note 45 rfl) (by decide) (fun cd4 => ?_) (fun cd4 => ?_)
              · skip
                refine r_iconst C (oDec_at oX12_note 48 rfl) (v := km1) (by rw [qkm1]; rfl) ?_
                exact r_iret C (oDec_at oX12_note 49 rfl) ⟨_, rfl, trivial⟩
              · skip
                refine r_iload_n C (j := 3) (oDec_at oX12_note 46 rfl) rfl rfl ?_
                refine r_goto C (tgt := 82) (oDec_at oX12_note 47 rfl) (by decide) ?_
                exact r_iret C (oDec_at oX12_note 49 rfl) ⟨_, rfl, trivial⟩
            · skip
              refine r_aload_n C (j := 0) (oDec_at oX12_note 38 rfl) rfl rfl ?_
              refine r_getF (k := 40) (b := 100) C oCl12 rfl (by decide) flX12_99 rfl rfl rfl (oDec_at oX12_note 39 rfl) ?_
              refine r_iload_n C (j := 1) (oDec_at oX12_note 40 rfl) rfl rfl ?_
              obtain ⟨v6, ev6⟩ : ∃ z : Int32, (t).1 100 a1.toNatClampNeg = z := ⟨_, rfl⟩
              have gv6 : (t.1 100 a1.toNatClampNeg).toInt = v6.toInt := congrArg Int32.toInt (ev6)
              refine r_iald (n := 48) (lo := 0) (hi := 9999) C v6 rfl (by decide) rfl rfl ⟨by omega, by omega⟩ (by decide) ev6 rfl rfl (oDec_at oX12_note 41 rfl) (fun b5 b5h => ?_)
              refine r_goto C (tgt := 82) (oDec_at oX12_note 42 rfl) (by decide) ?_
              exact r_iret C (oDec_at oX12_note 49 rfl) ⟨_, rfl, trivial⟩
          · skip
            refine r_aload_n C (j := 0) (oDec_at oX12_note 30 rfl) rfl rfl ?_
            refine r_getF (k := 39) (b := 99) C oCl12 rfl (by decide) flX12_96 rfl rfl rfl (oDec_at oX12_note 31 rfl) ?_
            refine r_iload_n C (j := 1) (oDec_at oX12_note 32 rfl) rfl rfl ?_
            obtain ⟨v8, ev8⟩ : ∃ z : Int32, (t).1 99 a1.toNatClampNeg = z := ⟨_, rfl⟩
            have gv8 : (t.1 99 a1.toNatClampNeg).toInt = v8.toInt := congrArg Int32.toInt (ev8)
            have rv8 := n_rng v8
            refine r_iald (n := 48) (lo := (-2147483648)) (hi := 2147483647) C v8 rfl (by decide) rfl rfl ⟨by omega, by omega⟩ (by decide) ev8 rfl rfl (oDec_at oX12_note 33 rfl) (fun _ _ => ?_)
            refine r_goto C (tgt := 82) (oDec_at oX12_note 34 rfl) (by decide) ?_
            exact r_iret C (oDec_at oX12_note 49 rfl) ⟨_, rfl, trivial⟩
        · skip
          refine r_iload_n C (j := 3) (oDec_at oX12_note 19 rfl) rfl rfl ?_
          refine r_aload_n C (j := 0) (oDec_at oX12_note 20 rfl) rfl rfl ?_
          refine r_getF (k := 40) (b := 100) C oCl12 rfl (by decide) flX12_99 rfl rfl rfl (oDec_at oX12_note 21 rfl) ?_
          refine r_iload C (j := 4) (oDec_at oX12_note 22 rfl) rfl ?_
          obtain ⟨v10, ev10⟩ : ∃ z : Int32, (t).1 100 x4.toNatClampNeg = z := ⟨_, rfl⟩
          have gv10 : (t.1 100 x4.toNatClampNeg).toInt = v10.toInt := congrArg Int32.toInt (ev10)
          refine r_iald (n := 48) (lo := 0) (hi := 9999) C v10 rfl (by decide) rfl rfl ⟨by omega, by omega⟩ (by decide) ev10 rfl rfl (oDec_at oX12_note 23 rfl) (fun b9 b9h => ?_)
          obtain ⟨v11, ev11⟩ : ∃ z : Int32, z = x3 + v10 := ⟨_, rfl⟩
          have hv11 : v11.toInt = x3.toInt + v10.toInt := n_add ev11 (by omega) (by omega)
          refine r_iadd C v11 (oDec_at oX12_note 24 rfl) ev11 ?_
          refine r_pc C 38 rfl ?_
          refine r_istore_n C (lv' := [(0, .ref (oad E 71)), (1, .int a1), (2, .int a2), (3, .int v11), (4, .int x4)]) [1, 2, 3, 0, 4] (oDec_at oX12_note 25 rfl) rfl (by decide) rfl ?_
          obtain ⟨v12, ev12⟩ : ∃ z : Int32, x4 + Int32.ofInt 1 = z := ⟨_, rfl⟩
          have hv12 : v12.toInt = x4.toInt + 1 := n_inc ev12 (by decide) (by omega) (by omega)
          refine r_iinc C (j := 4) (lv' := [(0, .ref (oad E 71)), (1, .int a1), (2, .int a2), (3, .int v11), (4, .int v12)]) v12 [1, 2, 3, 4, 0] (oDec_at oX12_note 26 rfl) rfl ev12 (by decide) rfl ?_
          refine r_goto C (tgt := 23) (oDec_at oX12_note 27 rfl) (by decide) ?_
          exact (ih (n - 1) (by omega)) (t) v11 v12  (by omega) (by omega) (by omega) (by omega)
  refine r_iload_n C (j := 1) (oDec_at oX12_note 0 rfl) rfl rfl ?_
  obtain ⟨v13, ev13⟩ : ∃ z : Int64, a1.toInt64 = z := ⟨_, rfl⟩
  have hv13 : v13.toInt = a1.toInt := n_i2l ev13
  refine r_i2l C v13 (oDec_at oX12_note 1 rfl) ev13 ?_
  refine r_lconst C (oDec_at oX12_note 2 rfl) (v := j0) (by rw [qj0]; rfl) ?_
  refine r_aload_n C (j := 0) (oDec_at oX12_note 3 rfl) rfl rfl ?_
  obtain ⟨v14, ev14⟩ : ∃ z : Int32, (s).1 71 38 = z := ⟨_, rfl⟩
  have gv14 : (s.1 71 38).toInt = v14.toInt := congrArg Int32.toInt (ev14)
  refine r_geti (k := 38) (lo := 0) (hi := 24) C v14 oCl12 rfl (by decide) flX12_261 rfl rfl (ev14) rfl rfl (oDec_at oX12_note 4 rfl) (fun b15 b15h => ?_)
  refine r_iconst C (oDec_at oX12_note 5 rfl) (v := k1) (by rw [qk1]; rfl) ?_
  refine r_pc C 8 rfl ?_
  obtain ⟨v16, ev16⟩ : ∃ z : Int32, z = v14 - k1 := ⟨_, rfl⟩
  have hv16 : v16.toInt = v14.toInt - k1.toInt := n_sub ev16 (by omega) (by omega)
  refine r_isub C v16 (oDec_at oX12_note 6 rfl) ev16 ?_
  obtain ⟨v17, ev17⟩ : ∃ z : Int64, v16.toInt64 = z := ⟨_, rfl⟩
  have hv17 : v17.toInt = v16.toInt := n_i2l ev17
  refine r_i2l C v17 (oDec_at oX12_note 7 rfl) ev17 ?_
  refine r_callSi C miX12_isIn mlX12_216 (ct_X12_isIn l E (s) v13 j0 v17 ) (by decide) rfl rfl rfl (Nat.le_of_ble_eq_true rfl) (oDec_at oX12_note 8 rfl) (fun r19 u18 pu18 fu18 => ?_)
  try dsimp only at pu18
  obtain ⟨pu18_0, pu18_1⟩ := pu18
  have hxu18 := oFr_nil fu18; subst hxu18
  have rr19 := n_rng r19
  refine r_if_ne C 18 (oDec_at oX12_note 9 rfl) (by decide) (fun cd20 => ?_) (fun cd20 => ?_)
  · skip
    refine r_iconst C (oDec_at oX12_note 12 rfl) (v := k0) (by rw [qk0]; rfl) ?_
    refine r_istore_n C (lv' := [(0, .ref (oad E 71)), (1, .int a1), (2, .int a2), (3, .int k0)]) [1, 2, 3, 0] (oDec_at oX12_note 13 rfl) rfl (by decide) rfl ?_
    refine r_iconst C (oDec_at oX12_note 14 rfl) (v := k0) (by rw [qk0]; rfl) ?_
    refine r_istore C (lv' := [(0, .ref (oad E 71)), (1, .int a1), (2, .int a2), (3, .int k0), (4, .int k0)]) [1, 2, 3, 4, 0] (oDec_at oX12_note 15 rfl) (by decide) rfl ?_
    exact (key (25 - k0.toInt).toNat) (s) k0 k0  (by omega) (by omega) (by omega) (by omega)
  · skip
    refine r_iconst C (oDec_at oX12_note 10 rfl) (v := km1) (by rw [qkm1]; rfl) ?_
    exact r_iret C (oDec_at oX12_note 11 rfl) ⟨_, rfl, trivial⟩
set_option maxHeartbeats 4000000 in
set_option maxRecDepth 100000 in
theorem ct_X12_isLike (l : Launch) (E : oE) (s : oS) (a0 : Int32) (a1 : Int32) (a2 : Int32) (hp0 : 0 ≤ a0.toInt ∧ a0.toInt ≤ 4499) (hp1 : 0 ≤ a1.toInt ∧ a1.toInt ≤ 4499) : oMet l 2 yX12_isLike cX12_isLike 3 (some .boolean) [] E s [.int a0, .int a1, .int a2] (oPi (fun r u => (0 ≤ r.toInt ∧ r.toInt ≤ 1))) := by
  refine oMet.of (lv := [(0, .int a0), (1, .int a1), (2, .int a2)]) (by decide +kernel) (Nat.le_of_ble_eq_true rfl) rfl (fun J C hT => ?_)
  have C : oC l 2 cX12_isLike RX12 3 (some .boolean) [] E s (oPi (fun r u => (0 ≤ r.toInt ∧ r.toInt ≤ 1))) J := C
  obtain ⟨k0, qk0⟩ : ∃ z : Int32, z = 0 := ⟨_, rfl⟩
  have ek0 : k0.toInt = 0 := by rw [qk0]; rfl
  obtain ⟨k1, qk1⟩ : ∃ z : Int32, z = 1 := ⟨_, rfl⟩
  have ek1 : k1.toInt = 1 := by rw [qk1]; rfl
  obtain ⟨k2, qk2⟩ : ∃ z : Int32, z = 2 := ⟨_, rfl⟩
  have ek2 : k2.toInt = 2 := by rw [qk2]; rfl
  obtain ⟨k4, qk4⟩ : ∃ z : Int32, z = 4 := ⟨_, rfl⟩
  have ek4 : k4.toInt = 4 := by rw [qk4]; rfl
  obtain ⟨k8, qk8⟩ : ∃ z : Int32, z = 8 := ⟨_, rfl⟩
  have ek8 : k8.toInt = 8 := by rw [qk8]; rfl
  obtain ⟨k16, qk16⟩ : ∃ z : Int32, z = 16 := ⟨_, rfl⟩
  have ek16 : k16.toInt = 16 := by rw [qk16]; rfl
  have rg0 := n_rng a0
  have rg1 := n_rng a1
  have rg2 := n_rng a2
  refine r_iload_n C (j := 2) (oDec_at oX12_isLike 0 rfl) rfl rfl ?_
  refine r_iconst C (oDec_at oX12_isLike 1 rfl) (v := k2) (by rw [qk2]; rfl) ?_
  obtain ⟨v1, ev1⟩ : ∃ z : Int32, z = a2 - a2 / k2 * k2 := ⟨_, rfl⟩
  have rv1 := n_rng v1
  refine r_irem C v1 (oDec_at oX12_isLike 2 rfl) (n_ne0 (by omega)) ev1 ?_
  refine r_iconst C (oDec_at oX12_isLike 3 rfl) (v := k1) (by rw [qk1]; rfl) ?_
  refine r_icmp_ne C 18 (oDec_at oX12_isLike 4 rfl) (by decide) (fun cd2 => ?_) (fun cd2 => ?_)
  · skip
    refine r_iload_n C (j := 2) (oDec_at oX12_isLike 10 rfl) rfl rfl ?_
    refine r_iconst C (oDec_at oX12_isLike 11 rfl) (v := k2) (by rw [qk2]; rfl) ?_
    obtain ⟨v3, ev3⟩ : ∃ z : Int32, z = a2 / k2 := ⟨_, rfl⟩
    have rv3 := n_rng v3
    refine r_idiv C v3 (oDec_at oX12_isLike 12 rfl) (n_ne0 (by omega)) ev3 ?_
    refine r_iconst C (oDec_at oX12_isLike 13 rfl) (v := k2) (by rw [qk2]; rfl) ?_
    obtain ⟨v4, ev4⟩ : ∃ z : Int32, z = v3 - v3 / k2 * k2 := ⟨_, rfl⟩
    have rv4 := n_rng v4
    refine r_irem C v4 (oDec_at oX12_isLike 14 rfl) (n_ne0 (by omega)) ev4 ?_
    refine r_iconst C (oDec_at oX12_isLike 15 rfl) (v := k1) (by rw [qk1]; rfl) ?_
    refine r_pc C 24 rfl ?_
    refine r_icmp_ne C 40 (oDec_at oX12_isLike 16 rfl) (by decide) (fun cd5 => ?_) (fun cd5 => ?_)
    · skip
      refine r_iload_n C (j := 2) (oDec_at oX12_isLike 24 rfl) rfl rfl ?_
      refine r_iconst C (oDec_at oX12_isLike 25 rfl) (v := k4) (by rw [qk4]; rfl) ?_
      obtain ⟨v6, ev6⟩ : ∃ z : Int32, z = a2 / k4 := ⟨_, rfl⟩
      have rv6 := n_rng v6
      refine r_idiv C v6 (oDec_at oX12_isLike 26 rfl) (n_ne0 (by omega)) ev6 ?_
      refine r_iconst C (oDec_at oX12_isLike 27 rfl) (v := k2) (by rw [qk2]; rfl) ?_
      obtain ⟨v7, ev7⟩ : ∃ z : Int32, z = v6 - v6 / k2 * k2 := ⟨_, rfl⟩
      have rv7 := n_rng v7
      refine r_irem C v7 (oDec_at oX12_isLike 28 rfl) (n_ne0 (by omega)) ev7 ?_
      refine r_iconst C (oDec_at oX12_isLike 29 rfl) (v := k1) (by rw [qk1]; rfl) ?_
      refine r_pc C 46 rfl ?_
      refine r_icmp_ne C 60 (oDec_at oX12_isLike 30 rfl) (by decide) (fun cd8 => ?_) (fun cd8 => ?_)
      · skip
        refine r_iload_n C (j := 2) (oDec_at oX12_isLike 36 rfl) rfl rfl ?_
        refine r_bipush C (oDec_at oX12_isLike 37 rfl) (v := k8) (by rw [qk8]; rfl) ?_
        obtain ⟨v9, ev9⟩ : ∃ z : Int32, z = a2 / k8 := ⟨_, rfl⟩
        have rv9 := n_rng v9
        refine r_idiv C v9 (oDec_at oX12_isLike 38 rfl) (n_ne0 (by omega)) ev9 ?_
        refine r_iconst C (oDec_at oX12_isLike 39 rfl) (v := k2) (by rw [qk2]; rfl) ?_
        obtain ⟨v10, ev10⟩ : ∃ z : Int32, z = v9 - v9 / k2 * k2 := ⟨_, rfl⟩
        have rv10 := n_rng v10
        refine r_irem C v10 (oDec_at oX12_isLike 40 rfl) (n_ne0 (by omega)) ev10 ?_
        refine r_iconst C (oDec_at oX12_isLike 41 rfl) (v := k1) (by rw [qk1]; rfl) ?_
        refine r_pc C 67 rfl ?_
        refine r_icmp_ne C 83 (oDec_at oX12_isLike 42 rfl) (by decide) (fun cd11 => ?_) (fun cd11 => ?_)
        · skip
          refine r_iload_n C (j := 2) (oDec_at oX12_isLike 50 rfl) rfl rfl ?_
          refine r_bipush C (oDec_at oX12_isLike 51 rfl) (v := k16) (by rw [qk16]; rfl) ?_
          obtain ⟨v12, ev12⟩ : ∃ z : Int32, z = a2 / k16 := ⟨_, rfl⟩
          have rv12 := n_rng v12
          refine r_idiv C v12 (oDec_at oX12_isLike 52 rfl) (n_ne0 (by omega)) ev12 ?_
          refine r_iconst C (oDec_at oX12_isLike 53 rfl) (v := k2) (by rw [qk2]; rfl) ?_
          obtain ⟨v13, ev13⟩ : ∃ z : Int32, z = v12 - v12 / k2 * k2 := ⟨_, rfl⟩
          have rv13 := n_rng v13
          refine r_irem C v13 (oDec_at oX12_isLike 54 rfl) (n_ne0 (by omega)) ev13 ?_
          refine r_if_eq C 103 (oDec_at oX12_isLike 55 rfl) (by decide) (fun cd14 => ?_) (fun cd14 => ?_)
          · skip
            refine r_iconst C (oDec_at oX12_isLike 61 rfl) (v := k1) (by rw [qk1]; rfl) ?_
            refine r_goto C (tgt := 108) (oDec_at oX12_isLike 62 rfl) (by decide) ?_
            exact r_zret C (n_bool (by omega)) (oDec_at oX12_isLike 64 rfl) ⟨_, rfl, by omega⟩
          · skip
            refine r_iload_n C (j := 0) (oDec_at oX12_isLike 56 rfl) rfl rfl ?_
            refine r_callSi C miX12_paceOf mlX12_385 (ct_X12_paceOf l E (s) a0 (by omega)) (by decide) rfl rfl rfl (Nat.le_of_ble_eq_true rfl) (oDec_at oX12_isLike 57 rfl) (fun r16 u15 pu15 fu15 => ?_)
            try dsimp only at pu15
            clear pu15
            have hxu15 := oFr_nil fu15; subst hxu15
            have rr16 := n_rng r16
            refine r_iload_n C (j := 1) (oDec_at oX12_isLike 58 rfl) rfl rfl ?_
            refine r_callSi C miX12_paceOf mlX12_385 (ct_X12_paceOf l E (s) a1 (by omega)) (by decide) rfl rfl rfl (Nat.le_of_ble_eq_true rfl) (oDec_at oX12_isLike 59 rfl) (fun r18 u17 pu17 fu17 => ?_)
            try dsimp only at pu17
            clear pu17
            have hxu17 := oFr_nil fu17; subst hxu17
            have rr18 := n_rng r18
            refine r_icmp_ne C 107 (oDec_at oX12_isLike 60 rfl) (by decide) (fun cd19 => ?_) (fun cd19 => ?_)
            · skip
              refine r_iconst C (oDec_at oX12_isLike 63 rfl) (v := k0) (by rw [qk0]; rfl) ?_
              exact r_zret C (n_bool (by omega)) (oDec_at oX12_isLike 64 rfl) ⟨_, rfl, by omega⟩
            · skip
              refine r_iconst C (oDec_at oX12_isLike 61 rfl) (v := k1) (by rw [qk1]; rfl) ?_
              refine r_goto C (tgt := 108) (oDec_at oX12_isLike 62 rfl) (by decide) ?_
              exact r_zret C (n_bool (by omega)) (oDec_at oX12_isLike 64 rfl) ⟨_, rfl, by omega⟩
        · skip
          refine r_iload_n C (j := 0) (oDec_at oX12_isLike 43 rfl) rfl rfl ?_
          refine r_callSi C miX12_backOf mlX12_395 (ct_X12_backOf l E (s) a0 (by omega)) (by decide) rfl rfl rfl (Nat.le_of_ble_eq_true rfl) (oDec_at oX12_isLike 44 rfl) (fun r21 u20 pu20 fu20 => ?_)
          try dsimp only at pu20
          clear pu20
          have hxu20 := oFr_nil fu20; subst hxu20
          have rr21 := n_rng r21
          refine r_iload_n C (j := 1) (oDec_at oX12_isLike 45 rfl) rfl rfl ?_
          refine r_callSi C miX12_backOf mlX12_395 (ct_X12_backOf l E (s) a1 (by omega)) (by decide) rfl rfl rfl (Nat.le_of_ble_eq_true rfl) (oDec_at oX12_isLike 46 rfl) (fun r23 u22 pu22 fu22 => ?_)
          try dsimp only at pu22
          clear pu22
          have hxu22 := oFr_nil fu22; subst hxu22
          have rr23 := n_rng r23
          refine r_icmp_eq C 83 (oDec_at oX12_isLike 47 rfl) (by decide) (fun cd24 => ?_) (fun cd24 => ?_)
          · skip
            refine r_iload_n C (j := 2) (oDec_at oX12_isLike 50 rfl) rfl rfl ?_
            refine r_bipush C (oDec_at oX12_isLike 51 rfl) (v := k16) (by rw [qk16]; rfl) ?_
            obtain ⟨v25, ev25⟩ : ∃ z : Int32, z = a2 / k16 := ⟨_, rfl⟩
            have rv25 := n_rng v25
            refine r_idiv C v25 (oDec_at oX12_isLike 52 rfl) (n_ne0 (by omega)) ev25 ?_
            refine r_iconst C (oDec_at oX12_isLike 53 rfl) (v := k2) (by rw [qk2]; rfl) ?_
            obtain ⟨v26, ev26⟩ : ∃ z : Int32, z = v25 - v25 / k2 * k2 := ⟨_, rfl⟩
            have rv26 := n_rng v26
            refine r_irem C v26 (oDec_at oX12_isLike 54 rfl) (n_ne0 (by omega)) ev26 ?_
            refine r_if_eq C 103 (oDec_at oX12_isLike 55 rfl) (by decide) (fun cd27 => ?_) (fun cd27 => ?_)
            · skip
              refine r_iconst C (oDec_at oX12_isLike 61 rfl) (v := k1) (by rw [qk1]; rfl) ?_
              refine r_goto C (tgt := 108) (oDec_at oX12_isLike 62 rfl) (by decide) ?_
              exact r_zret C (n_bool (by omega)) (oDec_at oX12_isLike 64 rfl) ⟨_, rfl, by omega⟩
            · skip
              refine r_iload_n C (j := 0) (oDec_at oX12_isLike 56 rfl) rfl rfl ?_
              refine r_callSi C miX12_paceOf mlX12_385 (ct_X12_paceOf l E (s) a0 (by omega)) (by decide) rfl rfl rfl (Nat.le_of_ble_eq_true rfl) (oDec_at oX12_isLike 57 rfl) (fun r29 u28 pu28 fu28 => ?_)
              try dsimp only at pu28
              clear pu28
              have hxu28 := oFr_nil fu28; subst hxu28
              have rr29 := n_rng r29
              refine r_iload_n C (j := 1) (oDec_at oX12_isLike 58 rfl) rfl rfl ?_
              refine r_callSi C miX12_paceOf mlX12_385 (ct_X12_paceOf l E (s) a1 (by omega)) (by decide) rfl rfl rfl (Nat.le_of_ble_eq_true rfl) (oDec_at oX12_isLike 59 rfl) (fun r31 u30 pu30 fu30 => ?_)
              try dsimp only at pu30
              clear pu30
              have hxu30 := oFr_nil fu30; subst hxu30
              have rr31 := n_rng r31
              refine r_icmp_ne C 107 (oDec_at oX12_isLike 60 rfl) (by decide) (fun cd32 => ?_) (fun cd32 => ?_)
              · skip
                refine r_iconst C (oDec_at oX12_isLike 63 rfl) (v := k0) (by rw [qk0]; rfl) ?_
                exact r_zret C (n_bool (by omega)) (oDec_at oX12_isLike 64 rfl) ⟨_, rfl, by omega⟩
              · skip
                refine r_iconst C (oDec_at oX12_isLike 61 rfl) (v := k1) (by rw [qk1]; rfl) ?_
                refine r_goto C (tgt := 108) (oDec_at oX12_isLike 62 rfl) (by decide) ?_
                exact r_zret C (n_bool (by omega)) (oDec_at oX12_isLike 64 rfl) ⟨_, rfl, by omega⟩
          · skip
            refine r_iconst C (oDec_at oX12_isLike 48 rfl) (v := k0) (by rw [qk0]; rfl) ?_
            exact r_zret C (n_bool (by omega)) (oDec_at oX12_isLike 49 rfl) ⟨_, rfl, by omega⟩
      · skip
        refine r_iload_n C (j := 0) (oDec_at oX12_isLike 31 rfl) rfl rfl ?_
        refine r_callSi C miX12_mirrorOf mlX12_399 (ct_X12_mirrorOf l E (s) a0 (by omega)) (by decide) rfl rfl rfl (Nat.le_of_ble_eq_true rfl) (oDec_at oX12_isLike 32 rfl) (fun r34 u33 pu33 fu33 => ?_)
        try dsimp only at pu33
        clear pu33
        have hxu33 := oFr_nil fu33; subst hxu33
        have rr34 := n_rng r34
        refine r_iload_n C (j := 1) (oDec_at oX12_isLike 33 rfl) rfl rfl ?_
        refine r_callSi C miX12_mirrorOf mlX12_399 (ct_X12_mirrorOf l E (s) a1 (by omega)) (by decide) rfl rfl rfl (Nat.le_of_ble_eq_true rfl) (oDec_at oX12_isLike 34 rfl) (fun r36 u35 pu35 fu35 => ?_)
        try dsimp only at pu35
        clear pu35
        have hxu35 := oFr_nil fu35; subst hxu35
        have rr36 := n_rng r36
        refine r_icmp_ne C 81 (oDec_at oX12_isLike 35 rfl) (by decide) (fun cd37 => ?_) (fun cd37 => ?_)
        · skip
          refine r_iconst C (oDec_at oX12_isLike 48 rfl) (v := k0) (by rw [qk0]; rfl) ?_
          exact r_zret C (n_bool (by omega)) (oDec_at oX12_isLike 49 rfl) ⟨_, rfl, by omega⟩
        · skip
          refine r_iload_n C (j := 2) (oDec_at oX12_isLike 36 rfl) rfl rfl ?_
          refine r_bipush C (oDec_at oX12_isLike 37 rfl) (v := k8) (by rw [qk8]; rfl) ?_
          obtain ⟨v38, ev38⟩ : ∃ z : Int32, z = a2 / k8 := ⟨_, rfl⟩
          have rv38 := n_rng v38
          refine r_idiv C v38 (oDec_at oX12_isLike 38 rfl) (n_ne0 (by omega)) ev38 ?_
          refine r_iconst C (oDec_at oX12_isLike 39 rfl) (v := k2) (by rw [qk2]; rfl) ?_
          obtain ⟨v39, ev39⟩ : ∃ z : Int32, z = v38 - v38 / k2 * k2 := ⟨_, rfl⟩
          have rv39 := n_rng v39
          refine r_irem C v39 (oDec_at oX12_isLike 40 rfl) (n_ne0 (by omega)) ev39 ?_
          refine r_iconst C (oDec_at oX12_isLike 41 rfl) (v := k1) (by rw [qk1]; rfl) ?_
          refine r_pc C 67 rfl ?_
          refine r_icmp_ne C 83 (oDec_at oX12_isLike 42 rfl) (by decide) (fun cd40 => ?_) (fun cd40 => ?_)
          · skip
            refine r_iload_n C (j := 2) (oDec_at oX12_isLike 50 rfl) rfl rfl ?_
            refine r_bipush C (oDec_at oX12_isLike 51 rfl) (v := k16) (by rw [qk16]; rfl) ?_
            obtain ⟨v41, ev41⟩ : ∃ z : Int32, z = a2 / k16 := ⟨_, rfl⟩
            have rv41 := n_rng v41
            refine r_idiv C v41 (oDec_at oX12_isLike 52 rfl) (n_ne0 (by omega)) ev41 ?_
            refine r_iconst C (oDec_at oX12_isLike 53 rfl) (v := k2) (by rw [qk2]; rfl) ?_
            obtain ⟨v42, ev42⟩ : ∃ z : Int32, z = v41 - v41 / k2 * k2 := ⟨_, rfl⟩
            have rv42 := n_rng v42
            refine r_irem C v42 (oDec_at oX12_isLike 54 rfl) (n_ne0 (by omega)) ev42 ?_
            refine r_if_eq C 103 (oDec_at oX12_isLike 55 rfl) (by decide) (fun cd43 => ?_) (fun cd43 => ?_)
            · skip
              refine r_iconst C (oDec_at oX12_isLike 61 rfl) (v := k1) (by rw [qk1]; rfl) ?_
              refine r_goto C (tgt := 108) (oDec_at oX12_isLike 62 rfl) (by decide) ?_
              exact r_zret C (n_bool (by omega)) (oDec_at oX12_isLike 64 rfl) ⟨_, rfl, by omega⟩
            · skip
              refine r_iload_n C (j := 0) (oDec_at oX12_isLike 56 rfl) rfl rfl ?_
              refine r_callSi C miX12_paceOf mlX12_385 (ct_X12_paceOf l E (s) a0 (by omega)) (by decide) rfl rfl rfl (Nat.le_of_ble_eq_true rfl) (oDec_at oX12_isLike 57 rfl) (fun r45 u44 pu44 fu44 => ?_)
              try dsimp only at pu44
              clear pu44
              have hxu44 := oFr_nil fu44; subst hxu44
              have rr45 := n_rng r45
              refine r_iload_n C (j := 1) (oDec_at oX12_isLike 58 rfl) rfl rfl ?_
              refine r_callSi C miX12_paceOf mlX12_385 (ct_X12_paceOf l E (s) a1 (by omega)) (by decide) rfl rfl rfl (Nat.le_of_ble_eq_true rfl) (oDec_at oX12_isLike 59 rfl) (fun r47 u46 pu46 fu46 => ?_)
              try dsimp only at pu46
              clear pu46
              have hxu46 := oFr_nil fu46; subst hxu46
              have rr47 := n_rng r47
              refine r_icmp_ne C 107 (oDec_at oX12_isLike 60 rfl) (by decide) (fun cd48 => ?_) (fun cd48 => ?_)
              · skip
                refine r_iconst C (oDec_at oX12_isLike 63 rfl) (v := k0) (by rw [qk0]; rfl) ?_
                exact r_zret C (n_bool (by omega)) (oDec_at oX12_isLike 64 rfl) ⟨_, rfl, by omega⟩
              · skip
                refine r_iconst C (oDec_at oX12_isLike 61 rfl) (v := k1) (by rw [qk1]; rfl) ?_
                refine r_goto C (tgt := 108) (oDec_at oX12_isLike 62 rfl) (by decide) ?_
                exact r_zret C (n_bool (by omega)) (oDec_at oX12_isLike 64 rfl) ⟨_, rfl, by omega⟩
          · skip
            refine r_iload_n C (j := 0) (oDec_at oX12_isLike 43 rfl) rfl rfl ?_
            refine r_callSi C miX12_backOf mlX12_395 (ct_X12_backOf l E (s) a0 (by omega)) (by decide) rfl rfl rfl (Nat.le_of_ble_eq_true rfl) (oDec_at oX12_isLike 44 rfl) (fun r50 u49 pu49 fu49 => ?_)
            try dsimp only at pu49
            clear pu49
            have hxu49 := oFr_nil fu49; subst hxu49
            have rr50 := n_rng r50
            refine r_iload_n C (j := 1) (oDec_at oX12_isLike 45 rfl) rfl rfl ?_
            refine r_callSi C miX12_backOf mlX12_395 (ct_X12_backOf l E (s) a1 (by omega)) (by decide) rfl rfl rfl (Nat.le_of_ble_eq_true rfl) (oDec_at oX12_isLike 46 rfl) (fun r52 u51 pu51 fu51 => ?_)
            try dsimp only at pu51
            clear pu51
            have hxu51 := oFr_nil fu51; subst hxu51
            have rr52 := n_rng r52
            refine r_icmp_eq C 83 (oDec_at oX12_isLike 47 rfl) (by decide) (fun cd53 => ?_) (fun cd53 => ?_)
            · skip
              refine r_iload_n C (j := 2) (oDec_at oX12_isLike 50 rfl) rfl rfl ?_
              refine r_bipush C (oDec_at oX12_isLike 51 rfl) (v := k16) (by rw [qk16]; rfl) ?_
              obtain ⟨v54, ev54⟩ : ∃ z : Int32, z = a2 / k16 := ⟨_, rfl⟩
              have rv54 := n_rng v54
              refine r_idiv C v54 (oDec_at oX12_isLike 52 rfl) (n_ne0 (by omega)) ev54 ?_
              refine r_iconst C (oDec_at oX12_isLike 53 rfl) (v := k2) (by rw [qk2]; rfl) ?_
              obtain ⟨v55, ev55⟩ : ∃ z : Int32, z = v54 - v54 / k2 * k2 := ⟨_, rfl⟩
              have rv55 := n_rng v55
              refine r_irem C v55 (oDec_at oX12_isLike 54 rfl) (n_ne0 (by omega)) ev55 ?_
              refine r_if_eq C 103 (oDec_at oX12_isLike 55 rfl) (by decide) (fun cd56 => ?_) (fun cd56 => ?_)
              · skip
                refine r_iconst C (oDec_at oX12_isLike 61 rfl) (v := k1) (by rw [qk1]; rfl) ?_
                refine r_goto C (tgt := 108) (oDec_at oX12_isLike 62 rfl) (by decide) ?_
                exact r_zret C (n_bool (by omega)) (oDec_at oX12_isLike 64 rfl) ⟨_, rfl, by omega⟩
              · skip
                refine r_iload_n C (j := 0) (oDec_at oX12_isLike 56 rfl) rfl rfl ?_
                refine r_callSi C miX12_paceOf mlX12_385 (ct_X12_paceOf l E (s) a0 (by omega)) (by decide) rfl rfl rfl (Nat.le_of_ble_eq_true rfl) (oDec_at oX12_isLike 57 rfl) (fun r58 u57 pu57 fu57 => ?_)
                try dsimp only at pu57
                clear pu57
                have hxu57 := oFr_nil fu57; subst hxu57
                have rr58 := n_rng r58
                refine r_iload_n C (j := 1) (oDec_at oX12_isLike 58 rfl) rfl rfl ?_
                refine r_callSi C miX12_paceOf mlX12_385 (ct_X12_paceOf l E (s) a1 (by omega)) (by decide) rfl rfl rfl (Nat.le_of_ble_eq_true rfl) (oDec_at oX12_isLike 59 rfl) (fun r60 u59 pu59 fu59 => ?_)
                try dsimp only at pu59
                clear pu59
                have hxu59 := oFr_nil fu59; subst hxu59
                have rr60 := n_rng r60
                refine r_icmp_ne C 107 (oDec_at oX12_isLike 60 rfl) (by decide) (fun cd61 => ?_) (fun cd61 => ?_)
                · skip
                  refine r_iconst C (oDec_at oX12_isLike 63 rfl) (v := k0) (by rw [qk0]; rfl) ?_
                  exact r_zret C (n_bool (by omega)) (oDec_at oX12_isLike 64 rfl) ⟨_, rfl, by omega⟩
                · skip
                  refine r_iconst C (oDec_at oX12_isLike 61 rfl) (v := k1) (by rw [qk1]; rfl) ?_
                  refine r_goto C (tgt := 108) (oDec_at oX12_isLike 62 rfl) (by decide) ?_
                  exact r_zret C (n_bool (by omega)) (oDec_at oX12_isLike 64 rfl) ⟨_, rfl, by omega⟩
            · skip
              refine r_iconst C (oDec_at oX12_isLike 48 rfl) (v := k0) (by rw [qk0]; rfl) ?_
              exact r_zret C (n_bool (by omega)) (oDec_at oX12_isLike 49 rfl) ⟨_, rfl, by omega⟩
    · skip
      refine r_iload_n C (j := 0) (oDec_at oX12_isLike 17 rfl) rfl rfl ?_
      refine r_callSi C miX12_highOf mlX12_402 (ct_X12_highOf l E (s) a0 (by omega)) (by decide) rfl rfl rfl (Nat.le_of_ble_eq_true rfl) (oDec_at oX12_isLike 18 rfl) (fun r63 u62 pu62 fu62 => ?_)
      try dsimp only at pu62
      clear pu62
      have hxu62 := oFr_nil fu62; subst hxu62
      have rr63 := n_rng r63
      refine r_iload_n C (j := 1) (oDec_at oX12_isLike 19 rfl) rfl rfl ?_
      refine r_callSi C miX12_highOf mlX12_402 (ct_X12_highOf l E (s) a1 (by omega)) (by decide) rfl rfl rfl (Nat.le_of_ble_eq_true rfl) (oDec_at oX12_isLike 20 rfl) (fun r65 u64 pu64 fu64 => ?_)
      try dsimp only at pu64
      clear pu64
      have hxu64 := oFr_nil fu64; subst hxu64
      have rr65 := n_rng r65
      refine r_icmp_eq C 40 (oDec_at oX12_isLike 21 rfl) (by decide) (fun cd66 => ?_) (fun cd66 => ?_)
      · skip
        refine r_iload_n C (j := 2) (oDec_at oX12_isLike 24 rfl) rfl rfl ?_
        refine r_iconst C (oDec_at oX12_isLike 25 rfl) (v := k4) (by rw [qk4]; rfl) ?_
        obtain ⟨v67, ev67⟩ : ∃ z : Int32, z = a2 / k4 := ⟨_, rfl⟩
        have rv67 := n_rng v67
        refine r_idiv C v67 (oDec_at oX12_isLike 26 rfl) (n_ne0 (by omega)) ev67 ?_
        refine r_iconst C (oDec_at oX12_isLike 27 rfl) (v := k2) (by rw [qk2]; rfl) ?_
        obtain ⟨v68, ev68⟩ : ∃ z : Int32, z = v67 - v67 / k2 * k2 := ⟨_, rfl⟩
        have rv68 := n_rng v68
        refine r_irem C v68 (oDec_at oX12_isLike 28 rfl) (n_ne0 (by omega)) ev68 ?_
        refine r_iconst C (oDec_at oX12_isLike 29 rfl) (v := k1) (by rw [qk1]; rfl) ?_
        refine r_pc C 46 rfl ?_
        refine r_icmp_ne C 60 (oDec_at oX12_isLike 30 rfl) (by decide) (fun cd69 => ?_) (fun cd69 => ?_)
        · skip
          refine r_iload_n C (j := 2) (oDec_at oX12_isLike 36 rfl) rfl rfl ?_
          refine r_bipush C (oDec_at oX12_isLike 37 rfl) (v := k8) (by rw [qk8]; rfl) ?_
          obtain ⟨v70, ev70⟩ : ∃ z : Int32, z = a2 / k8 := ⟨_, rfl⟩
          have rv70 := n_rng v70
          refine r_idiv C v70 (oDec_at oX12_isLike 38 rfl) (n_ne0 (by omega)) ev70 ?_
          refine r_iconst C (oDec_at oX12_isLike 39 rfl) (v := k2) (by rw [qk2]; rfl) ?_
          obtain ⟨v71, ev71⟩ : ∃ z : Int32, z = v70 - v70 / k2 * k2 := ⟨_, rfl⟩
          have rv71 := n_rng v71
          refine r_irem C v71 (oDec_at oX12_isLike 40 rfl) (n_ne0 (by omega)) ev71 ?_
          refine r_iconst C (oDec_at oX12_isLike 41 rfl) (v := k1) (by rw [qk1]; rfl) ?_
          refine r_pc C 67 rfl ?_
          refine r_icmp_ne C 83 (oDec_at oX12_isLike 42 rfl) (by decide) (fun cd72 => ?_) (fun cd72 => ?_)
          · skip
            refine r_iload_n C (j := 2) (oDec_at oX12_isLike 50 rfl) rfl rfl ?_
            refine r_bipush C (oDec_at oX12_isLike 51 rfl) (v := k16) (by rw [qk16]; rfl) ?_
            obtain ⟨v73, ev73⟩ : ∃ z : Int32, z = a2 / k16 := ⟨_, rfl⟩
            have rv73 := n_rng v73
            refine r_idiv C v73 (oDec_at oX12_isLike 52 rfl) (n_ne0 (by omega)) ev73 ?_
            refine r_iconst C (oDec_at oX12_isLike 53 rfl) (v := k2) (by rw [qk2]; rfl) ?_
            obtain ⟨v74, ev74⟩ : ∃ z : Int32, z = v73 - v73 / k2 * k2 := ⟨_, rfl⟩
            have rv74 := n_rng v74
            refine r_irem C v74 (oDec_at oX12_isLike 54 rfl) (n_ne0 (by omega)) ev74 ?_
            refine r_if_eq C 103 (oDec_at oX12_isLike 55 rfl) (by decide) (fun cd75 => ?_) (fun cd75 => ?_)
            · skip
              refine r_iconst C (oDec_at oX12_isLike 61 rfl) (v := k1) (by rw [qk1]; rfl) ?_
              refine r_goto C (tgt := 108) (oDec_at oX12_isLike 62 rfl) (by decide) ?_
              exact r_zret C (n_bool (by omega)) (oDec_at oX12_isLike 64 rfl) ⟨_, rfl, by omega⟩
            · skip
              refine r_iload_n C (j := 0) (oDec_at oX12_isLike 56 rfl) rfl rfl ?_
              refine r_callSi C miX12_paceOf mlX12_385 (ct_X12_paceOf l E (s) a0 (by omega)) (by decide) rfl rfl rfl (Nat.le_of_ble_eq_true rfl) (oDec_at oX12_isLike 57 rfl) (fun r77 u76 pu76 fu76 => ?_)
              try dsimp only at pu76
              clear pu76
              have hxu76 := oFr_nil fu76; subst hxu76
              have rr77 := n_rng r77
              refine r_iload_n C (j := 1) (oDec_at oX12_isLike 58 rfl) rfl rfl ?_
              refine r_callSi C miX12_paceOf mlX12_385 (ct_X12_paceOf l E (s) a1 (by omega)) (by decide) rfl rfl rfl (Nat.le_of_ble_eq_true rfl) (oDec_at oX12_isLike 59 rfl) (fun r79 u78 pu78 fu78 => ?_)
              try dsimp only at pu78
              clear pu78
              have hxu78 := oFr_nil fu78; subst hxu78
              have rr79 := n_rng r79
              refine r_icmp_ne C 107 (oDec_at oX12_isLike 60 rfl) (by decide) (fun cd80 => ?_) (fun cd80 => ?_)
              · skip
                refine r_iconst C (oDec_at oX12_isLike 63 rfl) (v := k0) (by rw [qk0]; rfl) ?_
                exact r_zret C (n_bool (by omega)) (oDec_at oX12_isLike 64 rfl) ⟨_, rfl, by omega⟩
              · skip
                refine r_iconst C (oDec_at oX12_isLike 61 rfl) (v := k1) (by rw [qk1]; rfl) ?_
                refine r_goto C (tgt := 108) (oDec_at oX12_isLike 62 rfl) (by decide) ?_
                exact r_zret C (n_bool (by omega)) (oDec_at oX12_isLike 64 rfl) ⟨_, rfl, by omega⟩
          · skip
            refine r_iload_n C (j := 0) (oDec_at oX12_isLike 43 rfl) rfl rfl ?_
            refine r_callSi C miX12_backOf mlX12_395 (ct_X12_backOf l E (s) a0 (by omega)) (by decide) rfl rfl rfl (Nat.le_of_ble_eq_true rfl) (oDec_at oX12_isLike 44 rfl) (fun r82 u81 pu81 fu81 => ?_)
            try dsimp only at pu81
            clear pu81
            have hxu81 := oFr_nil fu81; subst hxu81
            have rr82 := n_rng r82
            refine r_iload_n C (j := 1) (oDec_at oX12_isLike 45 rfl) rfl rfl ?_
            refine r_callSi C miX12_backOf mlX12_395 (ct_X12_backOf l E (s) a1 (by omega)) (by decide) rfl rfl rfl (Nat.le_of_ble_eq_true rfl) (oDec_at oX12_isLike 46 rfl) (fun r84 u83 pu83 fu83 => ?_)
            try dsimp only at pu83
            clear pu83
            have hxu83 := oFr_nil fu83; subst hxu83
            have rr84 := n_rng r84
            refine r_icmp_eq C 83 (oDec_at oX12_isLike 47 rfl) (by decide) (fun cd85 => ?_) (fun cd85 => ?_)
            · skip
              refine r_iload_n C (j := 2) (oDec_at oX12_isLike 50 rfl) rfl rfl ?_
              refine r_bipush C (oDec_at oX12_isLike 51 rfl) (v := k16) (by rw [qk16]; rfl) ?_
              obtain ⟨v86, ev86⟩ : ∃ z : Int32, z = a2 / k16 := ⟨_, rfl⟩
              have rv86 := n_rng v86
              refine r_idiv C v86 (oDec_at oX12_isLike 52 rfl) (n_ne0 (by omega)) ev86 ?_
              refine r_iconst C (oDec_at oX12_isLike 53 rfl) (v := k2) (by rw [qk2]; rfl) ?_
              obtain ⟨v87, ev87⟩ : ∃ z : Int32, z = v86 - v86 / k2 * k2 := ⟨_, rfl⟩
              have rv87 := n_rng v87
              refine r_irem C v87 (oDec_at oX12_isLike 54 rfl) (n_ne0 (by omega)) ev87 ?_
              refine r_if_eq C 103 (oDec_at oX12_isLike 55 rfl) (by decide) (fun cd88 => ?_) (fun cd88 => ?_)
              · skip
                refine r_iconst C (oDec_at oX12_isLike 61 rfl) (v := k1) (by rw [qk1]; rfl) ?_
                refine r_goto C (tgt := 108) (oDec_at oX12_isLike 62 rfl) (by decide) ?_
                exact r_zret C (n_bool (by omega)) (oDec_at oX12_isLike 64 rfl) ⟨_, rfl, by omega⟩
              · skip
                refine r_iload_n C (j := 0) (oDec_at oX12_isLike 56 rfl) rfl rfl ?_
                refine r_callSi C miX12_paceOf mlX12_385 (ct_X12_paceOf l E (s) a0 (by omega)) (by decide) rfl rfl rfl (Nat.le_of_ble_eq_true rfl) (oDec_at oX12_isLike 57 rfl) (fun r90 u89 pu89 fu89 => ?_)
                try dsimp only at pu89
                clear pu89
                have hxu89 := oFr_nil fu89; subst hxu89
                have rr90 := n_rng r90
                refine r_iload_n C (j := 1) (oDec_at oX12_isLike 58 rfl) rfl rfl ?_
                refine r_callSi C miX12_paceOf mlX12_385 (ct_X12_paceOf l E (s) a1 (by omega)) (by decide) rfl rfl rfl (Nat.le_of_ble_eq_true rfl) (oDec_at oX12_isLike 59 rfl) (fun r92 u91 pu91 fu91 => ?_)
                try dsimp only at pu91
                clear pu91
                have hxu91 := oFr_nil fu91; subst hxu91
                have rr92 := n_rng r92
                refine r_icmp_ne C 107 (oDec_at oX12_isLike 60 rfl) (by decide) (fun cd93 => ?_) (fun cd93 => ?_)
                · skip
                  refine r_iconst C (oDec_at oX12_isLike 63 rfl) (v := k0) (by rw [qk0]; rfl) ?_
                  exact r_zret C (n_bool (by omega)) (oDec_at oX12_isLike 64 rfl) ⟨_, rfl, by omega⟩
                · skip
                  refine r_iconst C (oDec_at oX12_isLike 61 rfl) (v := k1) (by rw [qk1]; rfl) ?_
                  refine r_goto C (tgt := 108) (oDec_at oX12_isLike 62 rfl) (by decide) ?_
                  exact r_zret C (n_bool (by omega)) (oDec_at oX12_isLike 64 rfl) ⟨_, rfl, by omega⟩
            · skip
              refine r_iconst C (oDec_at oX12_isLike 48 rfl) (v := k0) (by rw [qk0]; rfl) ?_
              exact r_zret C (n_bool (by omega)) (oDec_at oX12_isLike 49 rfl) ⟨_, rfl, by omega⟩
        · skip
          refine r_iload_n C (j := 0) (oDec_at oX12_isLike 31 rfl) rfl rfl ?_
          refine r_callSi C miX12_mirrorOf mlX12_399 (ct_X12_mirrorOf l E (s) a0 (by omega)) (by decide) rfl rfl rfl (Nat.le_of_ble_eq_true rfl) (oDec_at oX12_isLike 32 rfl) (fun r95 u94 pu94 fu94 => ?_)
          try dsimp only at pu94
          clear pu94
          have hxu94 := oFr_nil fu94; subst hxu94
          have rr95 := n_rng r95
          refine r_iload_n C (j := 1) (oDec_at oX12_isLike 33 rfl) rfl rfl ?_
          refine r_callSi C miX12_mirrorOf mlX12_399 (ct_X12_mirrorOf l E (s) a1 (by omega)) (by decide) rfl rfl rfl (Nat.le_of_ble_eq_true rfl) (oDec_at oX12_isLike 34 rfl) (fun r97 u96 pu96 fu96 => ?_)
          try dsimp only at pu96
          clear pu96
          have hxu96 := oFr_nil fu96; subst hxu96
          have rr97 := n_rng r97
          refine r_icmp_ne C 81 (oDec_at oX12_isLike 35 rfl) (by decide) (fun cd98 => ?_) (fun cd98 => ?_)
          · skip
            refine r_iconst C (oDec_at oX12_isLike 48 rfl) (v := k0) (by rw [qk0]; rfl) ?_
            exact r_zret C (n_bool (by omega)) (oDec_at oX12_isLike 49 rfl) ⟨_, rfl, by omega⟩
          · skip
            refine r_iload_n C (j := 2) (oDec_at oX12_isLike 36 rfl) rfl rfl ?_
            refine r_bipush C (oDec_at oX12_isLike 37 rfl) (v := k8) (by rw [qk8]; rfl) ?_
            obtain ⟨v99, ev99⟩ : ∃ z : Int32, z = a2 / k8 := ⟨_, rfl⟩
            have rv99 := n_rng v99
            refine r_idiv C v99 (oDec_at oX12_isLike 38 rfl) (n_ne0 (by omega)) ev99 ?_
            refine r_iconst C (oDec_at oX12_isLike 39 rfl) (v := k2) (by rw [qk2]; rfl) ?_
            obtain ⟨v100, ev100⟩ : ∃ z : Int32, z = v99 - v99 / k2 * k2 := ⟨_, rfl⟩
            have rv100 := n_rng v100
            refine r_irem C v100 (oDec_at oX12_isLike 40 rfl) (n_ne0 (by omega)) ev100 ?_
            refine r_iconst C (oDec_at oX12_isLike 41 rfl) (v := k1) (by rw [qk1]; rfl) ?_
            refine r_pc C 67 rfl ?_
            refine r_icmp_ne C 83 (oDec_at oX12_isLike 42 rfl) (by decide) (fun cd101 => ?_) (fun cd101 => ?_)
            · skip
              refine r_iload_n C (j := 2) (oDec_at oX12_isLike 50 rfl) rfl rfl ?_
              refine r_bipush C (oDec_at oX12_isLike 51 rfl) (v := k16) (by rw [qk16]; rfl) ?_
              obtain ⟨v102, ev102⟩ : ∃ z : Int32, z = a2 / k16 := ⟨_, rfl⟩
              have rv102 := n_rng v102
              refine r_idiv C v102 (oDec_at oX12_isLike 52 rfl) (n_ne0 (by omega)) ev102 ?_
              refine r_iconst C (oDec_at oX12_isLike 53 rfl) (v := k2) (by rw [qk2]; rfl) ?_
              obtain ⟨v103, ev103⟩ : ∃ z : Int32, z = v102 - v102 / k2 * k2 := ⟨_, rfl⟩
              have rv103 := n_rng v103
              refine r_irem C v103 (oDec_at oX12_isLike 54 rfl) (n_ne0 (by omega)) ev103 ?_
              refine r_if_eq C 103 (oDec_at oX12_isLike 55 rfl) (by decide) (fun cd104 => ?_) (fun cd104 => ?_)
              · skip
                refine r_iconst C (oDec_at oX12_isLike 61 rfl) (v := k1) (by rw [qk1]; rfl) ?_
                refine r_goto C (tgt := 108) (oDec_at oX12_isLike 62 rfl) (by decide) ?_
                exact r_zret C (n_bool (by omega)) (oDec_at oX12_isLike 64 rfl) ⟨_, rfl, by omega⟩
              · skip
                refine r_iload_n C (j := 0) (oDec_at oX12_isLike 56 rfl) rfl rfl ?_
                refine r_callSi C miX12_paceOf mlX12_385 (ct_X12_paceOf l E (s) a0 (by omega)) (by decide) rfl rfl rfl (Nat.le_of_ble_eq_true rfl) (oDec_at oX12_isLike 57 rfl) (fun r106 u105 pu105 fu105 => ?_)
                try dsimp only at pu105
                clear pu105
                have hxu105 := oFr_nil fu105; subst hxu105
                have rr106 := n_rng r106
                refine r_iload_n C (j := 1) (oDec_at oX12_isLike 58 rfl) rfl rfl ?_
                refine r_callSi C miX12_paceOf mlX12_385 (ct_X12_paceOf l E (s) a1 (by omega)) (by decide) rfl rfl rfl (Nat.le_of_ble_eq_true rfl) (oDec_at oX12_isLike 59 rfl) (fun r108 u107 pu107 fu107 => ?_)
                try dsimp only at pu107
                clear pu107
                have hxu107 := oFr_nil fu107; subst hxu107
                have rr108 := n_rng r108
                refine r_icmp_ne C 107 (oDec_at oX12_isLike 60 rfl) (by decide) (fun cd109 => ?_) (fun cd109 => ?_)
                · skip
                  refine r_iconst C (oDec_at oX12_isLike 63 rfl) (v := k0) (by rw [qk0]; rfl) ?_
                  exact r_zret C (n_bool (by omega)) (oDec_at oX12_isLike 64 rfl) ⟨_, rfl, by omega⟩
                · skip
                  refine r_iconst C (oDec_at oX12_isLike 61 rfl) (v := k1) (by rw [qk1]; rfl) ?_
                  refine r_goto C (tgt := 108) (oDec_at oX12_isLike 62 rfl) (by decide) ?_
                  exact r_zret C (n_bool (by omega)) (oDec_at oX12_isLike 64 rfl) ⟨_, rfl, by omega⟩
            · skip
              refine r_iload_n C (j := 0) (oDec_at oX12_isLike 43 rfl) rfl rfl ?_
              refine r_callSi C miX12_backOf mlX12_395 (ct_X12_backOf l E (s) a0 (by omega)) (by decide) rfl rfl rfl (Nat.le_of_ble_eq_true rfl) (oDec_at oX12_isLike 44 rfl) (fun r111 u110 pu110 fu110 => ?_)
              try dsimp only at pu110
              clear pu110
              have hxu110 := oFr_nil fu110; subst hxu110
              have rr111 := n_rng r111
              refine r_iload_n C (j := 1) (oDec_at oX12_isLike 45 rfl) rfl rfl ?_
              refine r_callSi C miX12_backOf mlX12_395 (ct_X12_backOf l E (s) a1 (by omega)) (by decide) rfl rfl rfl (Nat.le_of_ble_eq_true rfl) (oDec_at oX12_isLike 46 rfl) (fun r113 u112 pu112 fu112 => ?_)
              try dsimp only at pu112
              clear pu112
              have hxu112 := oFr_nil fu112; subst hxu112
              have rr113 := n_rng r113
              refine r_icmp_eq C 83 (oDec_at oX12_isLike 47 rfl) (by decide) (fun cd114 => ?_) (fun cd114 => ?_)
              · skip
                refine r_iload_n C (j := 2) (oDec_at oX12_isLike 50 rfl) rfl rfl ?_
                refine r_bipush C (oDec_at oX12_isLike 51 rfl) (v := k16) (by rw [qk16]; rfl) ?_
                obtain ⟨v115, ev115⟩ : ∃ z : Int32, z = a2 / k16 := ⟨_, rfl⟩
                have rv115 := n_rng v115
                refine r_idiv C v115 (oDec_at oX12_isLike 52 rfl) (n_ne0 (by omega)) ev115 ?_
                refine r_iconst C (oDec_at oX12_isLike 53 rfl) (v := k2) (by rw [qk2]; rfl) ?_
                obtain ⟨v116, ev116⟩ : ∃ z : Int32, z = v115 - v115 / k2 * k2 := ⟨_, rfl⟩
                have rv116 := n_rng v116
                refine r_irem C v116 (oDec_at oX12_isLike 54 rfl) (n_ne0 (by omega)) ev116 ?_
                refine r_if_eq C 103 (oDec_at oX12_isLike 55 rfl) (by decide) (fun cd117 => ?_) (fun cd117 => ?_)
                · skip
                  refine r_iconst C (oDec_at oX12_isLike 61 rfl) (v := k1) (by rw [qk1]; rfl) ?_
                  refine r_goto C (tgt := 108) (oDec_at oX12_isLike 62 rfl) (by decide) ?_
                  exact r_zret C (n_bool (by omega)) (oDec_at oX12_isLike 64 rfl) ⟨_, rfl, by omega⟩
                · skip
                  refine r_iload_n C (j := 0) (oDec_at oX12_isLike 56 rfl) rfl rfl ?_
                  refine r_callSi C miX12_paceOf mlX12_385 (ct_X12_paceOf l E (s) a0 (by omega)) (by decide) rfl rfl rfl (Nat.le_of_ble_eq_true rfl) (oDec_at oX12_isLike 57 rfl) (fun r119 u118 pu118 fu118 => ?_)
                  try dsimp only at pu118
                  clear pu118
                  have hxu118 := oFr_nil fu118; subst hxu118
                  have rr119 := n_rng r119
                  refine r_iload_n C (j := 1) (oDec_at oX12_isLike 58 rfl) rfl rfl ?_
                  refine r_callSi C miX12_paceOf mlX12_385 (ct_X12_paceOf l E (s) a1 (by omega)) (by decide) rfl rfl rfl (Nat.le_of_ble_eq_true rfl) (oDec_at oX12_isLike 59 rfl) (fun r121 u120 pu120 fu120 => ?_)
                  try dsimp only at pu120
                  clear pu120
                  have hxu120 := oFr_nil fu120; subst hxu120
                  have rr121 := n_rng r121
                  refine r_icmp_ne C 107 (oDec_at oX12_isLike 60 rfl) (by decide) (fun cd122 => ?_) (fun cd122 => ?_)
                  · skip
                    refine r_iconst C (oDec_at oX12_isLike 63 rfl) (v := k0) (by rw [qk0]; rfl) ?_
                    exact r_zret C (n_bool (by omega)) (oDec_at oX12_isLike 64 rfl) ⟨_, rfl, by omega⟩
                  · skip
                    refine r_iconst C (oDec_at oX12_isLike 61 rfl) (v := k1) (by rw [qk1]; rfl) ?_
                    refine r_goto C (tgt := 108) (oDec_at oX12_isLike 62 rfl) (by decide) ?_
                    exact r_zret C (n_bool (by omega)) (oDec_at oX12_isLike 64 rfl) ⟨_, rfl, by omega⟩
              · skip
                refine r_iconst C (oDec_at oX12_isLike 48 rfl) (v := k0) (by rw [qk0]; rfl) ?_
                exact r_zret C (n_bool (by omega)) (oDec_at oX12_isLike 49 rfl) ⟨_, rfl, by omega⟩
      · skip
        refine r_iconst C (oDec_at oX12_isLike 22 rfl) (v := k0) (by rw [qk0]; rfl) ?_
        exact r_zret C (n_bool (by omega)) (oDec_at oX12_isLike 23 rfl) ⟨_, rfl, by omega⟩
  · skip
    refine r_iload_n C (j := 0) (oDec_at oX12_isLike 5 rfl) rfl rfl ?_
    refine r_callSi C miX12_delayOf mlX12_389 (ct_X12_delayOf l E (s) a0 (by omega)) (by decide) rfl rfl rfl (Nat.le_of_ble_eq_true rfl) (oDec_at oX12_isLike 6 rfl) (fun r124 u123 pu123 fu123 => ?_)
    try dsimp only at pu123
    clear pu123
    have hxu123 := oFr_nil fu123; subst hxu123
    have rr124 := n_rng r124
    refine r_iload_n C (j := 1) (oDec_at oX12_isLike 7 rfl) rfl rfl ?_
    refine r_callSi C miX12_delayOf mlX12_389 (ct_X12_delayOf l E (s) a1 (by omega)) (by decide) rfl rfl rfl (Nat.le_of_ble_eq_true rfl) (oDec_at oX12_isLike 8 rfl) (fun r126 u125 pu125 fu125 => ?_)
    try dsimp only at pu125
    clear pu125
    have hxu125 := oFr_nil fu125; subst hxu125
    have rr126 := n_rng r126
    refine r_icmp_ne C 38 (oDec_at oX12_isLike 9 rfl) (by decide) (fun cd127 => ?_) (fun cd127 => ?_)
    · skip
      refine r_iconst C (oDec_at oX12_isLike 22 rfl) (v := k0) (by rw [qk0]; rfl) ?_
      exact r_zret C (n_bool (by omega)) (oDec_at oX12_isLike 23 rfl) ⟨_, rfl, by omega⟩
    · skip
      refine r_iload_n C (j := 2) (oDec_at oX12_isLike 10 rfl) rfl rfl ?_
      refine r_iconst C (oDec_at oX12_isLike 11 rfl) (v := k2) (by rw [qk2]; rfl) ?_
      obtain ⟨v128, ev128⟩ : ∃ z : Int32, z = a2 / k2 := ⟨_, rfl⟩
      have rv128 := n_rng v128
      refine r_idiv C v128 (oDec_at oX12_isLike 12 rfl) (n_ne0 (by omega)) ev128 ?_
      refine r_iconst C (oDec_at oX12_isLike 13 rfl) (v := k2) (by rw [qk2]; rfl) ?_
      obtain ⟨v129, ev129⟩ : ∃ z : Int32, z = v128 - v128 / k2 * k2 := ⟨_, rfl⟩
      have rv129 := n_rng v129
      refine r_irem C v129 (oDec_at oX12_isLike 14 rfl) (n_ne0 (by omega)) ev129 ?_
      refine r_iconst C (oDec_at oX12_isLike 15 rfl) (v := k1) (by rw [qk1]; rfl) ?_
      refine r_pc C 24 rfl ?_
      refine r_icmp_ne C 40 (oDec_at oX12_isLike 16 rfl) (by decide) (fun cd130 => ?_) (fun cd130 => ?_)
      · skip
        refine r_iload_n C (j := 2) (oDec_at oX12_isLike 24 rfl) rfl rfl ?_
        refine r_iconst C (oDec_at oX12_isLike 25 rfl) (v := k4) (by rw [qk4]; rfl) ?_
        obtain ⟨v131, ev131⟩ : ∃ z : Int32, z = a2 / k4 := ⟨_, rfl⟩
        have rv131 := n_rng v131
        refine r_idiv C v131 (oDec_at oX12_isLike 26 rfl) (n_ne0 (by omega)) ev131 ?_
        refine r_iconst C (oDec_at oX12_isLike 27 rfl) (v := k2) (by rw [qk2]; rfl) ?_
        obtain ⟨v132, ev132⟩ : ∃ z : Int32, z = v131 - v131 / k2 * k2 := ⟨_, rfl⟩
        have rv132 := n_rng v132
        refine r_irem C v132 (oDec_at oX12_isLike 28 rfl) (n_ne0 (by omega)) ev132 ?_
        refine r_iconst C (oDec_at oX12_isLike 29 rfl) (v := k1) (by rw [qk1]; rfl) ?_
        refine r_pc C 46 rfl ?_
        refine r_icmp_ne C 60 (oDec_at oX12_isLike 30 rfl) (by decide) (fun cd133 => ?_) (fun cd133 => ?_)
        · skip
          refine r_iload_n C (j := 2) (oDec_at oX12_isLike 36 rfl) rfl rfl ?_
          refine r_bipush C (oDec_at oX12_isLike 37 rfl) (v := k8) (by rw [qk8]; rfl) ?_
          obtain ⟨v134, ev134⟩ : ∃ z : Int32, z = a2 / k8 := ⟨_, rfl⟩
          have rv134 := n_rng v134
          refine r_idiv C v134 (oDec_at oX12_isLike 38 rfl) (n_ne0 (by omega)) ev134 ?_
          refine r_iconst C (oDec_at oX12_isLike 39 rfl) (v := k2) (by rw [qk2]; rfl) ?_
          obtain ⟨v135, ev135⟩ : ∃ z : Int32, z = v134 - v134 / k2 * k2 := ⟨_, rfl⟩
          have rv135 := n_rng v135
          refine r_irem C v135 (oDec_at oX12_isLike 40 rfl) (n_ne0 (by omega)) ev135 ?_
          refine r_iconst C (oDec_at oX12_isLike 41 rfl) (v := k1) (by rw [qk1]; rfl) ?_
          refine r_pc C 67 rfl ?_
          refine r_icmp_ne C 83 (oDec_at oX12_isLike 42 rfl) (by decide) (fun cd136 => ?_) (fun cd136 => ?_)
          · skip
            refine r_iload_n C (j := 2) (oDec_at oX12_isLike 50 rfl) rfl rfl ?_
            refine r_bipush C (oDec_at oX12_isLike 51 rfl) (v := k16) (by rw [qk16]; rfl) ?_
            obtain ⟨v137, ev137⟩ : ∃ z : Int32, z = a2 / k16 := ⟨_, rfl⟩
            have rv137 := n_rng v137
            refine r_idiv C v137 (oDec_at oX12_isLike 52 rfl) (n_ne0 (by omega)) ev137 ?_
            refine r_iconst C (oDec_at oX12_isLike 53 rfl) (v := k2) (by rw [qk2]; rfl) ?_
            obtain ⟨v138, ev138⟩ : ∃ z : Int32, z = v137 - v137 / k2 * k2 := ⟨_, rfl⟩
            have rv138 := n_rng v138
            refine r_irem C v138 (oDec_at oX12_isLike 54 rfl) (n_ne0 (by omega)) ev138 ?_
            refine r_if_eq C 103 (oDec_at oX12_isLike 55 rfl) (by decide) (fun cd139 => ?_) (fun cd139 => ?_)
            · skip
              refine r_iconst C (oDec_at oX12_isLike 61 rfl) (v := k1) (by rw [qk1]; rfl) ?_
              refine r_goto C (tgt := 108) (oDec_at oX12_isLike 62 rfl) (by decide) ?_
              exact r_zret C (n_bool (by omega)) (oDec_at oX12_isLike 64 rfl) ⟨_, rfl, by omega⟩
            · skip
              refine r_iload_n C (j := 0) (oDec_at oX12_isLike 56 rfl) rfl rfl ?_
              refine r_callSi C miX12_paceOf mlX12_385 (ct_X12_paceOf l E (s) a0 (by omega)) (by decide) rfl rfl rfl (Nat.le_of_ble_eq_true rfl) (oDec_at oX12_isLike 57 rfl) (fun r141 u140 pu140 fu140 => ?_)
              try dsimp only at pu140
              clear pu140
              have hxu140 := oFr_nil fu140; subst hxu140
              have rr141 := n_rng r141
              refine r_iload_n C (j := 1) (oDec_at oX12_isLike 58 rfl) rfl rfl ?_
              refine r_callSi C miX12_paceOf mlX12_385 (ct_X12_paceOf l E (s) a1 (by omega)) (by decide) rfl rfl rfl (Nat.le_of_ble_eq_true rfl) (oDec_at oX12_isLike 59 rfl) (fun r143 u142 pu142 fu142 => ?_)
              try dsimp only at pu142
              clear pu142
              have hxu142 := oFr_nil fu142; subst hxu142
              have rr143 := n_rng r143
              refine r_icmp_ne C 107 (oDec_at oX12_isLike 60 rfl) (by decide) (fun cd144 => ?_) (fun cd144 => ?_)
              · skip
                refine r_iconst C (oDec_at oX12_isLike 63 rfl) (v := k0) (by rw [qk0]; rfl) ?_
                exact r_zret C (n_bool (by omega)) (oDec_at oX12_isLike 64 rfl) ⟨_, rfl, by omega⟩
              · skip
                refine r_iconst C (oDec_at oX12_isLike 61 rfl) (v := k1) (by rw [qk1]; rfl) ?_
                refine r_goto C (tgt := 108) (oDec_at oX12_isLike 62 rfl) (by decide) ?_
                exact r_zret C (n_bool (by omega)) (oDec_at oX12_isLike 64 rfl) ⟨_, rfl, by omega⟩
          · skip
            refine r_iload_n C (j := 0) (oDec_at oX12_isLike 43 rfl) rfl rfl ?_
            refine r_callSi C miX12_backOf mlX12_395 (ct_X12_backOf l E (s) a0 (by omega)) (by decide) rfl rfl rfl (Nat.le_of_ble_eq_true rfl) (oDec_at oX12_isLike 44 rfl) (fun r146 u145 pu145 fu145 => ?_)
            try dsimp only at pu145
            clear pu145
            have hxu145 := oFr_nil fu145; subst hxu145
            have rr146 := n_rng r146
            refine r_iload_n C (j := 1) (oDec_at oX12_isLike 45 rfl) rfl rfl ?_
            refine r_callSi C miX12_backOf mlX12_395 (ct_X12_backOf l E (s) a1 (by omega)) (by decide) rfl rfl rfl (Nat.le_of_ble_eq_true rfl) (oDec_at oX12_isLike 46 rfl) (fun r148 u147 pu147 fu147 => ?_)
            try dsimp only at pu147
            clear pu147
            have hxu147 := oFr_nil fu147; subst hxu147
            have rr148 := n_rng r148
            refine r_icmp_eq C 83 (oDec_at oX12_isLike 47 rfl) (by decide) (fun cd149 => ?_) (fun cd149 => ?_)
            · skip
              refine r_iload_n C (j := 2) (oDec_at oX12_isLike 50 rfl) rfl rfl ?_
              refine r_bipush C (oDec_at oX12_isLike 51 rfl) (v := k16) (by rw [qk16]; rfl) ?_
              obtain ⟨v150, ev150⟩ : ∃ z : Int32, z = a2 / k16 := ⟨_, rfl⟩
              have rv150 := n_rng v150
              refine r_idiv C v150 (oDec_at oX12_isLike 52 rfl) (n_ne0 (by omega)) ev150 ?_
              refine r_iconst C (oDec_at oX12_isLike 53 rfl) (v := k2) (by rw [qk2]; rfl) ?_
              obtain ⟨v151, ev151⟩ : ∃ z : Int32, z = v150 - v150 / k2 * k2 := ⟨_, rfl⟩
              have rv151 := n_rng v151
              refine r_irem C v151 (oDec_at oX12_isLike 54 rfl) (n_ne0 (by omega)) ev151 ?_
              refine r_if_eq C 103 (oDec_at oX12_isLike 55 rfl) (by decide) (fun cd152 => ?_) (fun cd152 => ?_)
              · skip
                refine r_iconst C (oDec_at oX12_isLike 61 rfl) (v := k1) (by rw [qk1]; rfl) ?_
                refine r_goto C (tgt := 108) (oDec_at oX12_isLike 62 rfl) (by decide) ?_
                exact r_zret C (n_bool (by omega)) (oDec_at oX12_isLike 64 rfl) ⟨_, rfl, by omega⟩
              · skip
                refine r_iload_n C (j := 0) (oDec_at oX12_isLike 56 rfl) rfl rfl ?_
                refine r_callSi C miX12_paceOf mlX12_385 (ct_X12_paceOf l E (s) a0 (by omega)) (by decide) rfl rfl rfl (Nat.le_of_ble_eq_true rfl) (oDec_at oX12_isLike 57 rfl) (fun r154 u153 pu153 fu153 => ?_)
                try dsimp only at pu153
                clear pu153
                have hxu153 := oFr_nil fu153; subst hxu153
                have rr154 := n_rng r154
                refine r_iload_n C (j := 1) (oDec_at oX12_isLike 58 rfl) rfl rfl ?_
                refine r_callSi C miX12_paceOf mlX12_385 (ct_X12_paceOf l E (s) a1 (by omega)) (by decide) rfl rfl rfl (Nat.le_of_ble_eq_true rfl) (oDec_at oX12_isLike 59 rfl) (fun r156 u155 pu155 fu155 => ?_)
                try dsimp only at pu155
                clear pu155
                have hxu155 := oFr_nil fu155; subst hxu155
                have rr156 := n_rng r156
                refine r_icmp_ne C 107 (oDec_at oX12_isLike 60 rfl) (by decide) (fun cd157 => ?_) (fun cd157 => ?_)
                · skip
                  refine r_iconst C (oDec_at oX12_isLike 63 rfl) (v := k0) (by rw [qk0]; rfl) ?_
                  exact r_zret C (n_bool (by omega)) (oDec_at oX12_isLike 64 rfl) ⟨_, rfl, by omega⟩
                · skip
                  refine r_iconst C (oDec_at oX12_isLike 61 rfl) (v := k1) (by rw [qk1]; rfl) ?_
                  refine r_goto C (tgt := 108) (oDec_at oX12_isLike 62 rfl) (by decide) ?_
                  exact r_zret C (n_bool (by omega)) (oDec_at oX12_isLike 64 rfl) ⟨_, rfl, by omega⟩
            · skip
              refine r_iconst C (oDec_at oX12_isLike 48 rfl) (v := k0) (by rw [qk0]; rfl) ?_
              exact r_zret C (n_bool (by omega)) (oDec_at oX12_isLike 49 rfl) ⟨_, rfl, by omega⟩
        · skip
          refine r_iload_n C (j := 0) (oDec_at oX12_isLike 31 rfl) rfl rfl ?_
          refine r_callSi C miX12_mirrorOf mlX12_399 (ct_X12_mirrorOf l E (s) a0 (by omega)) (by decide) rfl rfl rfl (Nat.le_of_ble_eq_true rfl) (oDec_at oX12_isLike 32 rfl) (fun r159 u158 pu158 fu158 => ?_)
          try dsimp only at pu158
          clear pu158
          have hxu158 := oFr_nil fu158; subst hxu158
          have rr159 := n_rng r159
          refine r_iload_n C (j := 1) (oDec_at oX12_isLike 33 rfl) rfl rfl ?_
          refine r_callSi C miX12_mirrorOf mlX12_399 (ct_X12_mirrorOf l E (s) a1 (by omega)) (by decide) rfl rfl rfl (Nat.le_of_ble_eq_true rfl) (oDec_at oX12_isLike 34 rfl) (fun r161 u160 pu160 fu160 => ?_)
          try dsimp only at pu160
          clear pu160
          have hxu160 := oFr_nil fu160; subst hxu160
          have rr161 := n_rng r161
          refine r_icmp_ne C 81 (oDec_at oX12_isLike 35 rfl) (by decide) (fun cd162 => ?_) (fun cd162 => ?_)
          · skip
            refine r_iconst C (oDec_at oX12_isLike 48 rfl) (v := k0) (by rw [qk0]; rfl) ?_
            exact r_zret C (n_bool (by omega)) (oDec_at oX12_isLike 49 rfl) ⟨_, rfl, by omega⟩
          · skip
            refine r_iload_n C (j := 2) (oDec_at oX12_isLike 36 rfl) rfl rfl ?_
            refine r_bipush C (oDec_at oX12_isLike 37 rfl) (v := k8) (by rw [qk8]; rfl) ?_
            obtain ⟨v163, ev163⟩ : ∃ z : Int32, z = a2 / k8 := ⟨_, rfl⟩
            have rv163 := n_rng v163
            refine r_idiv C v163 (oDec_at oX12_isLike 38 rfl) (n_ne0 (by omega)) ev163 ?_
            refine r_iconst C (oDec_at oX12_isLike 39 rfl) (v := k2) (by rw [qk2]; rfl) ?_
            obtain ⟨v164, ev164⟩ : ∃ z : Int32, z = v163 - v163 / k2 * k2 := ⟨_, rfl⟩
            have rv164 := n_rng v164
            refine r_irem C v164 (oDec_at oX12_isLike 40 rfl) (n_ne0 (by omega)) ev164 ?_
            refine r_iconst C (oDec_at oX12_isLike 41 rfl) (v := k1) (by rw [qk1]; rfl) ?_
            refine r_pc C 67 rfl ?_
            refine r_icmp_ne C 83 (oDec_at oX12_isLike 42 rfl) (by decide) (fun cd165 => ?_) (fun cd165 => ?_)
            · skip
              refine r_iload_n C (j := 2) (oDec_at oX12_isLike 50 rfl) rfl rfl ?_
              refine r_bipush C (oDec_at oX12_isLike 51 rfl) (v := k16) (by rw [qk16]; rfl) ?_
              obtain ⟨v166, ev166⟩ : ∃ z : Int32, z = a2 / k16 := ⟨_, rfl⟩
              have rv166 := n_rng v166
              refine r_idiv C v166 (oDec_at oX12_isLike 52 rfl) (n_ne0 (by omega)) ev166 ?_
              refine r_iconst C (oDec_at oX12_isLike 53 rfl) (v := k2) (by rw [qk2]; rfl) ?_
              obtain ⟨v167, ev167⟩ : ∃ z : Int32, z = v166 - v166 / k2 * k2 := ⟨_, rfl⟩
              have rv167 := n_rng v167
              refine r_irem C v167 (oDec_at oX12_isLike 54 rfl) (n_ne0 (by omega)) ev167 ?_
              refine r_if_eq C 103 (oDec_at oX12_isLike 55 rfl) (by decide) (fun cd168 => ?_) (fun cd168 => ?_)
              · skip
                refine r_iconst C (oDec_at oX12_isLike 61 rfl) (v := k1) (by rw [qk1]; rfl) ?_
                refine r_goto C (tgt := 108) (oDec_at oX12_isLike 62 rfl) (by decide) ?_
                exact r_zret C (n_bool (by omega)) (oDec_at oX12_isLike 64 rfl) ⟨_, rfl, by omega⟩
              · skip
                refine r_iload_n C (j := 0) (oDec_at oX12_isLike 56 rfl) rfl rfl ?_
                refine r_callSi C miX12_paceOf mlX12_385 (ct_X12_paceOf l E (s) a0 (by omega)) (by decide) rfl rfl rfl (Nat.le_of_ble_eq_true rfl) (oDec_at oX12_isLike 57 rfl) (fun r170 u169 pu169 fu169 => ?_)
                try dsimp only at pu169
                clear pu169
                have hxu169 := oFr_nil fu169; subst hxu169
                have rr170 := n_rng r170
                refine r_iload_n C (j := 1) (oDec_at oX12_isLike 58 rfl) rfl rfl ?_
                refine r_callSi C miX12_paceOf mlX12_385 (ct_X12_paceOf l E (s) a1 (by omega)) (by decide) rfl rfl rfl (Nat.le_of_ble_eq_true rfl) (oDec_at oX12_isLike 59 rfl) (fun r172 u171 pu171 fu171 => ?_)
                try dsimp only at pu171
                clear pu171
                have hxu171 := oFr_nil fu171; subst hxu171
                have rr172 := n_rng r172
                refine r_icmp_ne C 107 (oDec_at oX12_isLike 60 rfl) (by decide) (fun cd173 => ?_) (fun cd173 => ?_)
                · skip
                  refine r_iconst C (oDec_at oX12_isLike 63 rfl) (v := k0) (by rw [qk0]; rfl) ?_
                  exact r_zret C (n_bool (by omega)) (oDec_at oX12_isLike 64 rfl) ⟨_, rfl, by omega⟩
                · skip
                  refine r_iconst C (oDec_at oX12_isLike 61 rfl) (v := k1) (by rw [qk1]; rfl) ?_
                  refine r_goto C (tgt := 108) (oDec_at oX12_isLike 62 rfl) (by decide) ?_
                  exact r_zret C (n_bool (by omega)) (oDec_at oX12_isLike 64 rfl) ⟨_, rfl, by omega⟩
            · skip
              refine r_iload_n C (j := 0) (oDec_at oX12_isLike 43 rfl) rfl rfl ?_
              refine r_callSi C miX12_backOf mlX12_395 (ct_X12_backOf l E (s) a0 (by omega)) (by decide) rfl rfl rfl (Nat.le_of_ble_eq_true rfl) (oDec_at oX12_isLike 44 rfl) (fun r175 u174 pu174 fu174 => ?_)
              try dsimp only at pu174
              clear pu174
              have hxu174 := oFr_nil fu174; subst hxu174
              have rr175 := n_rng r175
              refine r_iload_n C (j := 1) (oDec_at oX12_isLike 45 rfl) rfl rfl ?_
              refine r_callSi C miX12_backOf mlX12_395 (ct_X12_backOf l E (s) a1 (by omega)) (by decide) rfl rfl rfl (Nat.le_of_ble_eq_true rfl) (oDec_at oX12_isLike 46 rfl) (fun r177 u176 pu176 fu176 => ?_)
              try dsimp only at pu176
              clear pu176
              have hxu176 := oFr_nil fu176; subst hxu176
              have rr177 := n_rng r177
              refine r_icmp_eq C 83 (oDec_at oX12_isLike 47 rfl) (by decide) (fun cd178 => ?_) (fun cd178 => ?_)
              · skip
                refine r_iload_n C (j := 2) (oDec_at oX12_isLike 50 rfl) rfl rfl ?_
                refine r_bipush C (oDec_at oX12_isLike 51 rfl) (v := k16) (by rw [qk16]; rfl) ?_
                obtain ⟨v179, ev179⟩ : ∃ z : Int32, z = a2 / k16 := ⟨_, rfl⟩
                have rv179 := n_rng v179
                refine r_idiv C v179 (oDec_at oX12_isLike 52 rfl) (n_ne0 (by omega)) ev179 ?_
                refine r_iconst C (oDec_at oX12_isLike 53 rfl) (v := k2) (by rw [qk2]; rfl) ?_
                obtain ⟨v180, ev180⟩ : ∃ z : Int32, z = v179 - v179 / k2 * k2 := ⟨_, rfl⟩
                have rv180 := n_rng v180
                refine r_irem C v180 (oDec_at oX12_isLike 54 rfl) (n_ne0 (by omega)) ev180 ?_
                refine r_if_eq C 103 (oDec_at oX12_isLike 55 rfl) (by decide) (fun cd181 => ?_) (fun cd181 => ?_)
                · skip
                  refine r_iconst C (oDec_at oX12_isLike 61 rfl) (v := k1) (by rw [qk1]; rfl) ?_
                  refine r_goto C (tgt := 108) (oDec_at oX12_isLike 62 rfl) (by decide) ?_
                  exact r_zret C (n_bool (by omega)) (oDec_at oX12_isLike 64 rfl) ⟨_, rfl, by omega⟩
                · skip
                  refine r_iload_n C (j := 0) (oDec_at oX12_isLike 56 rfl) rfl rfl ?_
                  refine r_callSi C miX12_paceOf mlX12_385 (ct_X12_paceOf l E (s) a0 (by omega)) (by decide) rfl rfl rfl (Nat.le_of_ble_eq_true rfl) (oDec_at oX12_isLike 57 rfl) (fun r183 u182 pu182 fu182 => ?_)
                  try dsimp only at pu182
                  clear pu182
                  have hxu182 := oFr_nil fu182; subst hxu182
                  have rr183 := n_rng r183
                  refine r_iload_n C (j := 1) (oDec_at oX12_isLike 58 rfl) rfl rfl ?_
                  refine r_callSi C miX12_paceOf mlX12_385 (ct_X12_paceOf l E (s) a1 (by omega)) (by decide) rfl rfl rfl (Nat.le_of_ble_eq_true rfl) (oDec_at oX12_isLike 59 rfl) (fun r185 u184 pu184 fu184 => ?_)
                  try dsimp only at pu184
                  clear pu184
                  have hxu184 := oFr_nil fu184; subst hxu184
                  have rr185 := n_rng r185
                  refine r_icmp_ne C 107 (oDec_at oX12_isLike 60 rfl) (by decide) (fun cd186 => ?_) (fun cd186 => ?_)
                  · skip
                    refine r_iconst C (oDec_at oX12_isLike 63 rfl) (v := k0) (by rw [qk0]; rfl) ?_
                    exact r_zret C (n_bool (by omega)) (oDec_at oX12_isLike 64 rfl) ⟨_, rfl, by omega⟩
                  · skip
                    refine r_iconst C (oDec_at oX12_isLike 61 rfl) (v := k1) (by rw [qk1]; rfl) ?_
                    refine r_goto C (tgt := 108) (oDec_at oX12_isLike 62 rfl) (by decide) ?_
                    exact r_zret C (n_bool (by omega)) (oDec_at oX12_isLike 64 rfl) ⟨_, rfl, by omega⟩
              · skip
                refine r_iconst C (oDec_at oX12_isLike 48 rfl) (v := k0) (by rw [qk0]; rfl) ?_
                exact r_zret C (n_bool (by omega)) (oDec_at oX12_isLike 49 rfl) ⟨_, rfl, by omega⟩
      · skip
        refine r_iload_n C (j := 0) (oDec_at oX12_isLike 17 rfl) rfl rfl ?_
        refine r_callSi C miX12_highOf mlX12_402 (ct_X12_highOf l E (s) a0 (by omega)) (by decide) rfl rfl rfl (Nat.le_of_ble_eq_true rfl) (oDec_at oX12_isLike 18 rfl) (fun r188 u187 pu187 fu187 => ?_)
        try dsimp only at pu187
        clear pu187
        have hxu187 := oFr_nil fu187; subst hxu187
        have rr188 := n_rng r188
        refine r_iload_n C (j := 1) (oDec_at oX12_isLike 19 rfl) rfl rfl ?_
        refine r_callSi C miX12_highOf mlX12_402 (ct_X12_highOf l E (s) a1 (by omega)) (by decide) rfl rfl rfl (Nat.le_of_ble_eq_true rfl) (oDec_at oX12_isLike 20 rfl) (fun r190 u189 pu189 fu189 => ?_)
        try dsimp only at pu189
        clear pu189
        have hxu189 := oFr_nil fu189; subst hxu189
        have rr190 := n_rng r190
        refine r_icmp_eq C 40 (oDec_at oX12_isLike 21 rfl) (by decide) (fun cd191 => ?_) (fun cd191 => ?_)
        · skip
          refine r_iload_n C (j := 2) (oDec_at oX12_isLike 24 rfl) rfl rfl ?_
          refine r_iconst C (oDec_at oX12_isLike 25 rfl) (v := k4) (by rw [qk4]; rfl) ?_
          obtain ⟨v192, ev192⟩ : ∃ z : Int32, z = a2 / k4 := ⟨_, rfl⟩
          have rv192 := n_rng v192
          refine r_idiv C v192 (oDec_at oX12_isLike 26 rfl) (n_ne0 (by omega)) ev192 ?_
          refine r_iconst C (oDec_at oX12_isLike 27 rfl) (v := k2) (by rw [qk2]; rfl) ?_
          obtain ⟨v193, ev193⟩ : ∃ z : Int32, z = v192 - v192 / k2 * k2 := ⟨_, rfl⟩
          have rv193 := n_rng v193
          refine r_irem C v193 (oDec_at oX12_isLike 28 rfl) (n_ne0 (by omega)) ev193 ?_
          refine r_iconst C (oDec_at oX12_isLike 29 rfl) (v := k1) (by rw [qk1]; rfl) ?_
          refine r_pc C 46 rfl ?_
          refine r_icmp_ne C 60 (oDec_at oX12_isLike 30 rfl) (by decide) (fun cd194 => ?_) (fun cd194 => ?_)
          · skip
            refine r_iload_n C (j := 2) (oDec_at oX12_isLike 36 rfl) rfl rfl ?_
            refine r_bipush C (oDec_at oX12_isLike 37 rfl) (v := k8) (by rw [qk8]; rfl) ?_
            obtain ⟨v195, ev195⟩ : ∃ z : Int32, z = a2 / k8 := ⟨_, rfl⟩
            have rv195 := n_rng v195
            refine r_idiv C v195 (oDec_at oX12_isLike 38 rfl) (n_ne0 (by omega)) ev195 ?_
            refine r_iconst C (oDec_at oX12_isLike 39 rfl) (v := k2) (by rw [qk2]; rfl) ?_
            obtain ⟨v196, ev196⟩ : ∃ z : Int32, z = v195 - v195 / k2 * k2 := ⟨_, rfl⟩
            have rv196 := n_rng v196
            refine r_irem C v196 (oDec_at oX12_isLike 40 rfl) (n_ne0 (by omega)) ev196 ?_
            refine r_iconst C (oDec_at oX12_isLike 41 rfl) (v := k1) (by rw [qk1]; rfl) ?_
            refine r_pc C 67 rfl ?_
            refine r_icmp_ne C 83 (oDec_at oX12_isLike 42 rfl) (by decide) (fun cd197 => ?_) (fun cd197 => ?_)
            · skip
              refine r_iload_n C (j := 2) (oDec_at oX12_isLike 50 rfl) rfl rfl ?_
              refine r_bipush C (oDec_at oX12_isLike 51 rfl) (v := k16) (by rw [qk16]; rfl) ?_
              obtain ⟨v198, ev198⟩ : ∃ z : Int32, z = a2 / k16 := ⟨_, rfl⟩
              have rv198 := n_rng v198
              refine r_idiv C v198 (oDec_at oX12_isLike 52 rfl) (n_ne0 (by omega)) ev198 ?_
              refine r_iconst C (oDec_at oX12_isLike 53 rfl) (v := k2) (by rw [qk2]; rfl) ?_
              obtain ⟨v199, ev199⟩ : ∃ z : Int32, z = v198 - v198 / k2 * k2 := ⟨_, rfl⟩
              have rv199 := n_rng v199
              refine r_irem C v199 (oDec_at oX12_isLike 54 rfl) (n_ne0 (by omega)) ev199 ?_
              refine r_if_eq C 103 (oDec_at oX12_isLike 55 rfl) (by decide) (fun cd200 => ?_) (fun cd200 => ?_)
              · skip
                refine r_iconst C (oDec_at oX12_isLike 61 rfl) (v := k1) (by rw [qk1]; rfl) ?_
                refine r_goto C (tgt := 108) (oDec_at oX12_isLike 62 rfl) (by decide) ?_
                exact r_zret C (n_bool (by omega)) (oDec_at oX12_isLike 64 rfl) ⟨_, rfl, by omega⟩
              · skip
                refine r_iload_n C (j := 0) (oDec_at oX12_isLike 56 rfl) rfl rfl ?_
                refine r_callSi C miX12_paceOf mlX12_385 (ct_X12_paceOf l E (s) a0 (by omega)) (by decide) rfl rfl rfl (Nat.le_of_ble_eq_true rfl) (oDec_at oX12_isLike 57 rfl) (fun r202 u201 pu201 fu201 => ?_)
                try dsimp only at pu201
                clear pu201
                have hxu201 := oFr_nil fu201; subst hxu201
                have rr202 := n_rng r202
                refine r_iload_n C (j := 1) (oDec_at oX12_isLike 58 rfl) rfl rfl ?_
                refine r_callSi C miX12_paceOf mlX12_385 (ct_X12_paceOf l E (s) a1 (by omega)) (by decide) rfl rfl rfl (Nat.le_of_ble_eq_true rfl) (oDec_at oX12_isLike 59 rfl) (fun r204 u203 pu203 fu203 => ?_)
                try dsimp only at pu203
                clear pu203
                have hxu203 := oFr_nil fu203; subst hxu203
                have rr204 := n_rng r204
                refine r_icmp_ne C 107 (oDec_at oX12_isLike 60 rfl) (by decide) (fun cd205 => ?_) (fun cd205 => ?_)
                · skip
                  refine r_iconst C (oDec_at oX12_isLike 63 rfl) (v := k0) (by rw [qk0]; rfl) ?_
                  exact r_zret C (n_bool (by omega)) (oDec_at oX12_isLike 64 rfl) ⟨_, rfl, by omega⟩
                · skip
                  refine r_iconst C (oDec_at oX12_isLike 61 rfl) (v := k1) (by rw [qk1]; rfl) ?_
                  refine r_goto C (tgt := 108) (oDec_at oX12_isLike 62 rfl) (by decide) ?_
                  exact r_zret C (n_bool (by omega)) (oDec_at oX12_isLike 64 rfl) ⟨_, rfl, by omega⟩
            · skip
              refine r_iload_n C (j := 0) (oDec_at oX12_isLike 43 rfl) rfl rfl ?_
              refine r_callSi C miX12_backOf mlX12_395 (ct_X12_backOf l E (s) a0 (by omega)) (by decide) rfl rfl rfl (Nat.le_of_ble_eq_true rfl) (oDec_at oX12_isLike 44 rfl) (fun r207 u206 pu206 fu206 => ?_)
              try dsimp only at pu206
              clear pu206
              have hxu206 := oFr_nil fu206; subst hxu206
              have rr207 := n_rng r207
              refine r_iload_n C (j := 1) (oDec_at oX12_isLike 45 rfl) rfl rfl ?_
              refine r_callSi C miX12_backOf mlX12_395 (ct_X12_backOf l E (s) a1 (by omega)) (by decide) rfl rfl rfl (Nat.le_of_ble_eq_true rfl) (oDec_at oX12_isLike 46 rfl) (fun r209 u208 pu208 fu208 => ?_)
              try dsimp only at pu208
              clear pu208
              have hxu208 := oFr_nil fu208; subst hxu208
              have rr209 := n_rng r209
              refine r_icmp_eq C 83 (oDec_at oX12_isLike 47 rfl) (by decide) (fun cd210 => ?_) (fun cd210 => ?_)
              · skip
                refine r_iload_n C (j := 2) (oDec_at oX12_isLike 50 rfl) rfl rfl ?_
                refine r_bipush C (oDec_at oX12_isLike 51 rfl) (v := k16) (by rw [qk16]; rfl) ?_
                obtain ⟨v211, ev211⟩ : ∃ z : Int32, z = a2 / k16 := ⟨_, rfl⟩
                have rv211 := n_rng v211
                refine r_idiv C v211 (oDec_at oX12_isLike 52 rfl) (n_ne0 (by omega)) ev211 ?_
                refine r_iconst C (oDec_at oX12_isLike 53 rfl) (v := k2) (by rw [qk2]; rfl) ?_
                obtain ⟨v212, ev212⟩ : ∃ z : Int32, z = v211 - v211 / k2 * k2 := ⟨_, rfl⟩
                have rv212 := n_rng v212
                refine r_irem C v212 (oDec_at oX12_isLike 54 rfl) (n_ne0 (by omega)) ev212 ?_
                refine r_if_eq C 103 (oDec_at oX12_isLike 55 rfl) (by decide) (fun cd213 => ?_) (fun cd213 => ?_)
                · skip
                  refine r_iconst C (oDec_at oX12_isLike 61 rfl) (v := k1) (by rw [qk1]; rfl) ?_
                  refine r_goto C (tgt := 108) (oDec_at oX12_isLike 62 rfl) (by decide) ?_
                  exact r_zret C (n_bool (by omega)) (oDec_at oX12_isLike 64 rfl) ⟨_, rfl, by omega⟩
                · skip
                  refine r_iload_n C (j := 0) (oDec_at oX12_isLike 56 rfl) rfl rfl ?_
                  refine r_callSi C miX12_paceOf mlX12_385 (ct_X12_paceOf l E (s) a0 (by omega)) (by decide) rfl rfl rfl (Nat.le_of_ble_eq_true rfl) (oDec_at oX12_isLike 57 rfl) (fun r215 u214 pu214 fu214 => ?_)
                  try dsimp only at pu214
                  clear pu214
                  have hxu214 := oFr_nil fu214; subst hxu214
                  have rr215 := n_rng r215
                  refine r_iload_n C (j := 1) (oDec_at oX12_isLike 58 rfl) rfl rfl ?_
                  refine r_callSi C miX12_paceOf mlX12_385 (ct_X12_paceOf l E (s) a1 (by omega)) (by decide) rfl rfl rfl (Nat.le_of_ble_eq_true rfl) (oDec_at oX12_isLike 59 rfl) (fun r217 u216 pu216 fu216 => ?_)
                  try dsimp only at pu216
                  clear pu216
                  have hxu216 := oFr_nil fu216; subst hxu216
                  have rr217 := n_rng r217
                  refine r_icmp_ne C 107 (oDec_at oX12_isLike 60 rfl) (by decide) (fun cd218 => ?_) (fun cd218 => ?_)
                  · skip
                    refine r_iconst C (oDec_at oX12_isLike 63 rfl) (v := k0) (by rw [qk0]; rfl) ?_
                    exact r_zret C (n_bool (by omega)) (oDec_at oX12_isLike 64 rfl) ⟨_, rfl, by omega⟩
                  · skip
                    refine r_iconst C (oDec_at oX12_isLike 61 rfl) (v := k1) (by rw [qk1]; rfl) ?_
                    refine r_goto C (tgt := 108) (oDec_at oX12_isLike 62 rfl) (by decide) ?_
                    exact r_zret C (n_bool (by omega)) (oDec_at oX12_isLike 64 rfl) ⟨_, rfl, by omega⟩
              · skip
                refine r_iconst C (oDec_at oX12_isLike 48 rfl) (v := k0) (by rw [qk0]; rfl) ?_
                exact r_zret C (n_bool (by omega)) (oDec_at oX12_isLike 49 rfl) ⟨_, rfl, by omega⟩
          · skip
            refine r_iload_n C (j := 0) (oDec_at oX12_isLike 31 rfl) rfl rfl ?_
            refine r_callSi C miX12_mirrorOf mlX12_399 (ct_X12_mirrorOf l E (s) a0 (by omega)) (by decide) rfl rfl rfl (Nat.le_of_ble_eq_true rfl) (oDec_at oX12_isLike 32 rfl) (fun r220 u219 pu219 fu219 => ?_)
            try dsimp only at pu219
            clear pu219
            have hxu219 := oFr_nil fu219; subst hxu219
            have rr220 := n_rng r220
            refine r_iload_n C (j := 1) (oDec_at oX12_isLike 33 rfl) rfl rfl ?_
            refine r_callSi C miX12_mirrorOf mlX12_399 (ct_X12_mirrorOf l E (s) a1 (by omega)) (by decide) rfl rfl rfl (Nat.le_of_ble_eq_true rfl) (oDec_at oX12_isLike 34 rfl) (fun r222 u221 pu221 fu221 => ?_)
            try dsimp only at pu221
            clear pu221
            have hxu221 := oFr_nil fu221; subst hxu221
            have rr222 := n_rng r222
            refine r_icmp_ne C 81 (oDec_at oX12_isLike 35 rfl) (by decide) (fun cd223 => ?_) (fun cd223 => ?_)
            · skip
              refine r_iconst C (oDec_at oX12_isLike 48 rfl) (v := k0) (by rw [qk0]; rfl) ?_
              exact r_zret C (n_bool (by omega)) (oDec_at oX12_isLike 49 rfl) ⟨_, rfl, by omega⟩
            · skip
              refine r_iload_n C (j := 2) (oDec_at oX12_isLike 36 rfl) rfl rfl ?_
              refine r_bipush C (oDec_at oX12_isLike 37 rfl) (v := k8) (by rw [qk8]; rfl) ?_
              obtain ⟨v224, ev224⟩ : ∃ z : Int32, z = a2 / k8 := ⟨_, rfl⟩
              have rv224 := n_rng v224
              refine r_idiv C v224 (oDec_at oX12_isLike 38 rfl) (n_ne0 (by omega)) ev224 ?_
              refine r_iconst C (oDec_at oX12_isLike 39 rfl) (v := k2) (by rw [qk2]; rfl) ?_
              obtain ⟨v225, ev225⟩ : ∃ z : Int32, z = v224 - v224 / k2 * k2 := ⟨_, rfl⟩
              have rv225 := n_rng v225
              refine r_irem C v225 (oDec_at oX12_isLike 40 rfl) (n_ne0 (by omega)) ev225 ?_
              refine r_iconst C (oDec_at oX12_isLike 41 rfl) (v := k1) (by rw [qk1]; rfl) ?_
              refine r_pc C 67 rfl ?_
              refine r_icmp_ne C 83 (oDec_at oX12_isLike 42 rfl) (by decide) (fun cd226 => ?_) (fun cd226 => ?_)
              · skip
                refine r_iload_n C (j := 2) (oDec_at oX12_isLike 50 rfl) rfl rfl ?_
                refine r_bipush C (oDec_at oX12_isLike 51 rfl) (v := k16) (by rw [qk16]; rfl) ?_
                obtain ⟨v227, ev227⟩ : ∃ z : Int32, z = a2 / k16 := ⟨_, rfl⟩
                have rv227 := n_rng v227
                refine r_idiv C v227 (oDec_at oX12_isLike 52 rfl) (n_ne0 (by omega)) ev227 ?_
                refine r_iconst C (oDec_at oX12_isLike 53 rfl) (v := k2) (by rw [qk2]; rfl) ?_
                obtain ⟨v228, ev228⟩ : ∃ z : Int32, z = v227 - v227 / k2 * k2 := ⟨_, rfl⟩
                have rv228 := n_rng v228
                refine r_irem C v228 (oDec_at oX12_isLike 54 rfl) (n_ne0 (by omega)) ev228 ?_
                refine r_if_eq C 103 (oDec_at oX12_isLike 55 rfl) (by decide) (fun cd229 => ?_) (fun cd229 => ?_)
                · skip
                  refine r_iconst C (oDec_at oX12_isLike 61 rfl) (v := k1) (by rw [qk1]; rfl) ?_
                  refine r_goto C (tgt := 108) (oDec_at oX12_isLike 62 rfl) (by decide) ?_
                  exact r_zret C (n_bool (by omega)) (oDec_at oX12_isLike 64 rfl) ⟨_, rfl, by omega⟩
                · skip
                  refine r_iload_n C (j := 0) (oDec_at oX12_isLike 56 rfl) rfl rfl ?_
                  refine r_callSi C miX12_paceOf mlX12_385 (ct_X12_paceOf l E (s) a0 (by omega)) (by decide) rfl rfl rfl (Nat.le_of_ble_eq_true rfl) (oDec_at oX12_isLike 57 rfl) (fun r231 u230 pu230 fu230 => ?_)
                  try dsimp only at pu230
                  clear pu230
                  have hxu230 := oFr_nil fu230; subst hxu230
                  have rr231 := n_rng r231
                  refine r_iload_n C (j := 1) (oDec_at oX12_isLike 58 rfl) rfl rfl ?_
                  refine r_callSi C miX12_paceOf mlX12_385 (ct_X12_paceOf l E (s) a1 (by omega)) (by decide) rfl rfl rfl (Nat.le_of_ble_eq_true rfl) (oDec_at oX12_isLike 59 rfl) (fun r233 u232 pu232 fu232 => ?_)
                  try dsimp only at pu232
                  clear pu232
                  have hxu232 := oFr_nil fu232; subst hxu232
                  have rr233 := n_rng r233
                  refine r_icmp_ne C 107 (oDec_at oX12_isLike 60 rfl) (by decide) (fun cd234 => ?_) (fun cd234 => ?_)
                  · skip
                    refine r_iconst C (oDec_at oX12_isLike 63 rfl) (v := k0) (by rw [qk0]; rfl) ?_
                    exact r_zret C (n_bool (by omega)) (oDec_at oX12_isLike 64 rfl) ⟨_, rfl, by omega⟩
                  · skip
                    refine r_iconst C (oDec_at oX12_isLike 61 rfl) (v := k1) (by rw [qk1]; rfl) ?_
                    refine r_goto C (tgt := 108) (oDec_at oX12_isLike 62 rfl) (by decide) ?_
                    exact r_zret C (n_bool (by omega)) (oDec_at oX12_isLike 64 rfl) ⟨_, rfl, by omega⟩
              · skip
                refine r_iload_n C (j := 0) (oDec_at oX12_isLike 43 rfl) rfl rfl ?_
                refine r_callSi C miX12_backOf mlX12_395 (ct_X12_backOf l E (s) a0 (by omega)) (by decide) rfl rfl rfl (Nat.le_of_ble_eq_true rfl) (oDec_at oX12_isLike 44 rfl) (fun r236 u235 pu235 fu235 => ?_)
                try dsimp only at pu235
                clear pu235
                have hxu235 := oFr_nil fu235; subst hxu235
                have rr236 := n_rng r236
                refine r_iload_n C (j := 1) (oDec_at oX12_isLike 45 rfl) rfl rfl ?_
                refine r_callSi C miX12_backOf mlX12_395 (ct_X12_backOf l E (s) a1 (by omega)) (by decide) rfl rfl rfl (Nat.le_of_ble_eq_true rfl) (oDec_at oX12_isLike 46 rfl) (fun r238 u237 pu237 fu237 => ?_)
                try dsimp only at pu237
                clear pu237
                have hxu237 := oFr_nil fu237; subst hxu237
                have rr238 := n_rng r238
                refine r_icmp_eq C 83 (oDec_at oX12_isLike 47 rfl) (by decide) (fun cd239 => ?_) (fun cd239 => ?_)
                · skip
                  refine r_iload_n C (j := 2) (oDec_at oX12_isLike 50 rfl) rfl rfl ?_
                  refine r_bipush C (oDec_at oX12_isLike 51 rfl) (v := k16) (by rw [qk16]; rfl) ?_
                  obtain ⟨v240, ev240⟩ : ∃ z : Int32, z = a2 / k16 := ⟨_, rfl⟩
                  have rv240 := n_rng v240
                  refine r_idiv C v240 (oDec_at oX12_isLike 52 rfl) (n_ne0 (by omega)) ev240 ?_
                  refine r_iconst C (oDec_at oX12_isLike 53 rfl) (v := k2) (by rw [qk2]; rfl) ?_
                  obtain ⟨v241, ev241⟩ : ∃ z : Int32, z = v240 - v240 / k2 * k2 := ⟨_, rfl⟩
                  have rv241 := n_rng v241
                  refine r_irem C v241 (oDec_at oX12_isLike 54 rfl) (n_ne0 (by omega)) ev241 ?_
                  refine r_if_eq C 103 (oDec_at oX12_isLike 55 rfl) (by decide) (fun cd242 => ?_) (fun cd242 => ?_)
                  · skip
                    refine r_iconst C (oDec_at oX12_isLike 61 rfl) (v := k1) (by rw [qk1]; rfl) ?_
                    refine r_goto C (tgt := 108) (oDec_at oX12_isLike 62 rfl) (by decide) ?_
                    exact r_zret C (n_bool (by omega)) (oDec_at oX12_isLike 64 rfl) ⟨_, rfl, by omega⟩
                  · skip
                    refine r_iload_n C (j := 0) (oDec_at oX12_isLike 56 rfl) rfl rfl ?_
                    refine r_callSi C miX12_paceOf mlX12_385 (ct_X12_paceOf l E (s) a0 (by omega)) (by decide) rfl rfl rfl (Nat.le_of_ble_eq_true rfl) (oDec_at oX12_isLike 57 rfl) (fun r244 u243 pu243 fu243 => ?_)
                    try dsimp only at pu243
                    clear pu243
                    have hxu243 := oFr_nil fu243; subst hxu243
                    have rr244 := n_rng r244
                    refine r_iload_n C (j := 1) (oDec_at oX12_isLike 58 rfl) rfl rfl ?_
                    refine r_callSi C miX12_paceOf mlX12_385 (ct_X12_paceOf l E (s) a1 (by omega)) (by decide) rfl rfl rfl (Nat.le_of_ble_eq_true rfl) (oDec_at oX12_isLike 59 rfl) (fun r246 u245 pu245 fu245 => ?_)
                    try dsimp only at pu245
                    clear pu245
                    have hxu245 := oFr_nil fu245; subst hxu245
                    have rr246 := n_rng r246
                    refine r_icmp_ne C 107 (oDec_at oX12_isLike 60 rfl) (by decide) (fun cd247 => ?_) (fun cd247 => ?_)
                    · skip
                      refine r_iconst C (oDec_at oX12_isLike 63 rfl) (v := k0) (by rw [qk0]; rfl) ?_
                      exact r_zret C (n_bool (by omega)) (oDec_at oX12_isLike 64 rfl) ⟨_, rfl, by omega⟩
                    · skip
                      refine r_iconst C (oDec_at oX12_isLike 61 rfl) (v := k1) (by rw [qk1]; rfl) ?_
                      refine r_goto C (tgt := 108) (oDec_at oX12_isLike 62 rfl) (by decide) ?_
                      exact r_zret C (n_bool (by omega)) (oDec_at oX12_isLike 64 rfl) ⟨_, rfl, by omega⟩
                · skip
                  refine r_iconst C (oDec_at oX12_isLike 48 rfl) (v := k0) (by rw [qk0]; rfl) ?_
                  exact r_zret C (n_bool (by omega)) (oDec_at oX12_isLike 49 rfl) ⟨_, rfl, by omega⟩
        · skip
          refine r_iconst C (oDec_at oX12_isLike 22 rfl) (v := k0) (by rw [qk0]; rfl) ?_
          exact r_zret C (n_bool (by omega)) (oDec_at oX12_isLike 23 rfl) ⟨_, rfl, by omega⟩
set_option maxHeartbeats 4000000 in
set_option maxRecDepth 100000 in
theorem ct_X12_bits (l : Launch) (E : oE) (s : oS) (a0 : Int32) (hp0 : 0 ≤ a0.toInt ∧ a0.toInt ≤ 1000) : oMet l 1 yX12_bits cX12_bits 3 (some .int) [] E s [.int a0] (oPi (fun r u => (0 ≤ r.toInt ∧ r.toInt ≤ 1000))) := by
  refine oMet.of (lv := [(0, .int a0)]) (by decide +kernel) (Nat.le_of_ble_eq_true rfl) rfl (fun J C hT => ?_)
  have C : oC l 1 cX12_bits RX12 3 (some .int) [] E s (oPi (fun r u => (0 ≤ r.toInt ∧ r.toInt ≤ 1000))) J := C
  obtain ⟨k0, qk0⟩ : ∃ z : Int32, z = 0 := ⟨_, rfl⟩
  have ek0 : k0.toInt = 0 := by rw [qk0]; rfl
  obtain ⟨k1, qk1⟩ : ∃ z : Int32, z = 1 := ⟨_, rfl⟩
  have ek1 : k1.toInt = 1 := by rw [qk1]; rfl
  have rg0 := n_rng a0
  have key : ∀ n : Nat, (∀ (t : oS) (x1 : Int32) (x2 : Int32), (0 ≤ x2.toInt ∧ 0 ≤ x1.toInt ∧ x1.toInt + x2.toInt ≤ 1000) → x2.toInt + 1 ≤ (n : Int) → J t 4 [(1, .int x1), (2, .int x2)] []) := by
    intro n
    induction n using Nat.strongRecOn with
    | _ n ih =>
      skip
      · intro t x1 x2  iv0 hmu
        have rx1 := n_rng x1
        have rx2 := n_rng x2
        refine r_iload_n C (j := 1) (oDec_at oX12_bits 4 rfl) rfl rfl ?_
        refine r_if_eq C 20 (oDec_at oX12_bits 5 rfl) (by decide) (fun cd1 => ?_) (fun cd1 => ?_)
        · skip
          refine r_iload_n C (j := 0) (oDec_at oX12_bits 14 rfl) rfl rfl ?_
          exact r_iret C (oDec_at oX12_bits 15 rfl) ⟨_, rfl, by omega⟩
        · skip
          obtain ⟨v2, ev2⟩ : ∃ z : Int32, x1 + Int32.ofInt 1 = z := ⟨_, rfl⟩
          have hv2 : v2.toInt = x1.toInt + 1 := n_inc ev2 (by decide) (by omega) (by omega)
          refine r_iinc C (j := 0) (lv' := [(1, .int v2), (2, .int x2)]) v2 [0, 1] (oDec_at oX12_bits 6 rfl) rfl ev2 (by decide) rfl ?_
          refine r_iload_n C (j := 1) (oDec_at oX12_bits 7 rfl) rfl rfl ?_
          refine r_iload_n C (j := 1) (oDec_at oX12_bits 8 rfl) rfl rfl ?_
          refine r_iconst C (oDec_at oX12_bits 9 rfl) (v := k1) (by rw [qk1]; rfl) ?_
          obtain ⟨v3, ev3⟩ : ∃ z : Int32, z = x2 - k1 := ⟨_, rfl⟩
          have hv3 : v3.toInt = x2.toInt - k1.toInt := n_sub ev3 (by omega) (by omega)
          refine r_isub C v3 (oDec_at oX12_bits 10 rfl) ev3 ?_
          obtain ⟨v4, ev4⟩ : ∃ z : Int32, z = x2 &&& v3 := ⟨_, rfl⟩
          have hv4 := n_and ev4
          have rv4 := n_rng v4
          refine r_iand C v4 (oDec_at oX12_bits 11 rfl) ev4 ?_
          refine r_pc C 16 rfl ?_
          refine r_istore_n C (lv' := [(1, .int v2), (2, .int v4)]) [1, 0] (oDec_at oX12_bits 12 rfl) rfl (by decide) rfl ?_
          refine r_goto C (tgt := 4) (oDec_at oX12_bits 13 rfl) (by decide) ?_
          exact (ih (n - 1) (by omega)) (t) v2 v4  (by omega) (by omega)
  refine r_iconst C (oDec_at oX12_bits 0 rfl) (v := k0) (by rw [qk0]; rfl) ?_
  refine r_istore_n C (lv' := [(0, .int a0), (1, .int k0)]) [1, 0] (oDec_at oX12_bits 1 rfl) rfl (by decide) rfl ?_
  refine r_iload_n C (j := 0) (oDec_at oX12_bits 2 rfl) rfl rfl ?_
  refine r_istore_n C (lv' := [(0, .int a0), (1, .int k0), (2, .int a0)]) [1, 2, 0] (oDec_at oX12_bits 3 rfl) rfl (by decide) rfl ?_
  refine r_pick C [1, 2] rfl ?_
  exact (key (a0.toInt + 1).toNat) (s) k0 a0  (by omega) (by omega)
set_option maxHeartbeats 4000000 in
set_option maxRecDepth 100000 in
theorem ct_X12_octet (l : Launch) (E : oE) (s : oS) (a1 : Int32)  : oMet l 1 yX12_octet cX12_octet 2 (some .int) [] E s [.ref (oad E 71), .int a1] (oPi (fun r u => True)) := by
  refine oMet.of (lv := [(0, .ref (oad E 71)), (1, .int a1)]) (by decide +kernel) (Nat.le_of_ble_eq_true rfl) rfl (fun J C hT => ?_)
  have C : oC l 1 cX12_octet RX12 2 (some .int) [] E s (oPi (fun r u => True)) J := C
  obtain ⟨km1, qkm1⟩ : ∃ z : Int32, z = (-1) := ⟨_, rfl⟩
  have ekm1 : km1.toInt = (-1) := by rw [qkm1]; rfl
  have rg1 := n_rng a1
  refine r_iload_n C (j := 1) (oDec_at oX12_octet 0 rfl) rfl rfl ?_
  refine r_if_lt C 21 (oDec_at oX12_octet 1 rfl) (by decide) (fun cd1 => ?_) (fun cd1 => ?_)
  · skip
    refine r_iconst C (oDec_at oX12_octet 11 rfl) (v := km1) (by rw [qkm1]; rfl) ?_
    exact r_iret C (oDec_at oX12_octet 12 rfl) ⟨_, rfl, trivial⟩
  · skip
    refine r_iload_n C (j := 1) (oDec_at oX12_octet 2 rfl) rfl rfl ?_
    refine r_aload_n C (j := 0) (oDec_at oX12_octet 3 rfl) rfl rfl ?_
    obtain ⟨v2, ev2⟩ : ∃ z : Int32, (s).1 71 81 = z := ⟨_, rfl⟩
    have gv2 : (s.1 71 81).toInt = v2.toInt := congrArg Int32.toInt (ev2)
    refine r_geti (k := 81) (lo := 0) (hi := 60) C v2 oCl12 rfl (by decide) flX12_585 rfl rfl (ev2) rfl rfl (oDec_at oX12_octet 4 rfl) (fun b3 b3h => ?_)
    refine r_icmp_ge C 21 (oDec_at oX12_octet 5 rfl) (by decide) (fun cd4 => ?_) (fun cd4 => ?_)
    · skip
      refine r_iconst C (oDec_at oX12_octet 11 rfl) (v := km1) (by rw [qkm1]; rfl) ?_
      exact r_iret C (oDec_at oX12_octet 12 rfl) ⟨_, rfl, trivial⟩
    · skip
      refine r_aload_n C (j := 0) (oDec_at oX12_octet 6 rfl) rfl rfl ?_
      refine r_getF (k := 80) (b := 117) C oCl12 rfl (by decide) flX12_167 rfl rfl rfl (oDec_at oX12_octet 7 rfl) ?_
      refine r_iload_n C (j := 1) (oDec_at oX12_octet 8 rfl) rfl rfl ?_
      obtain ⟨v6, ev6⟩ : ∃ z : Int32, (s).1 117 a1.toNatClampNeg = z := ⟨_, rfl⟩
      have gv6 : (s.1 117 a1.toNatClampNeg).toInt = v6.toInt := congrArg Int32.toInt (ev6)
      have rv6 := n_rng v6
      refine r_iald (n := 60) (lo := (-2147483648)) (hi := 2147483647) C v6 rfl (by decide) rfl rfl ⟨by omega, by omega⟩ (by decide) ev6 rfl rfl (oDec_at oX12_octet 9 rfl) (fun _ _ => ?_)
      refine r_goto C (tgt := 22) (oDec_at oX12_octet 10 rfl) (by decide) ?_
      exact r_iret C (oDec_at oX12_octet 12 rfl) ⟨_, rfl, trivial⟩
set_option maxHeartbeats 4000000 in
set_option maxRecDepth 100000 in
theorem ct_X12_writes (l : Launch) (E : oE) (s : oS) (a1 : Int32) (hp0 : (s.1 71 81).toInt ≤ 59) : oMet l 1 yX12_writes cX12_writes 2 none [(12, 81), (93, 9999)] E s [.ref (oad E 71), .int a1] (oPv (fun u => ((u.1 71 81).toInt = (s.1 71 81).toInt + 1))) := by
  refine oMet.of (lv := [(0, .ref (oad E 71)), (1, .int a1)]) (by decide +kernel) (Nat.le_of_ble_eq_true rfl) rfl (fun J C hT => ?_)
  have C : oC l 1 cX12_writes RX12 2 none [(12, 81), (93, 9999)] E s (oPv (fun u => ((u.1 71 81).toInt = (s.1 71 81).toInt + 1))) J := C
  obtain ⟨k1, qk1⟩ : ∃ z : Int32, z = 1 := ⟨_, rfl⟩
  have ek1 : k1.toInt = 1 := by rw [qk1]; rfl
  have rg1 := n_rng a1
  refine r_aload_n C (j := 0) (oDec_at oX12_writes 0 rfl) rfl rfl ?_
  refine r_getF (k := 80) (b := 117) C oCl12 rfl (by decide) flX12_167 rfl rfl rfl (oDec_at oX12_writes 1 rfl) ?_
  refine r_aload_n C (j := 0) (oDec_at oX12_writes 2 rfl) rfl rfl ?_
  obtain ⟨v1, ev1⟩ : ∃ z : Int32, (s).1 71 81 = z := ⟨_, rfl⟩
  have gv1 : (s.1 71 81).toInt = v1.toInt := congrArg Int32.toInt (ev1)
  refine r_geti (k := 81) (lo := 0) (hi := 60) C v1 oCl12 rfl (by decide) flX12_585 rfl rfl (ev1) rfl rfl (oDec_at oX12_writes 3 rfl) (fun b2 b2h => ?_)
  refine r_iload_n C (j := 1) (oDec_at oX12_writes 4 rfl) rfl rfl ?_
  refine r_iast (n := 60) (lo := (-2147483648)) (hi := 2147483647) C rfl (by decide) rfl rfl ⟨by omega, by omega⟩ (by decide) rfl rfl rfl rfl (n_rng _) (oDec_at oX12_writes 5 rfl) ?_
  refine r_pc C 10 rfl ?_
  refine r_aload_n C (j := 0) (oDec_at oX12_writes 6 rfl) rfl rfl ?_
  refine r_dup C (oDec_at oX12_writes 7 rfl) rfl ?_
  refine r_geti (k := 81) (lo := 0) (hi := 60) C v1 oCl12 rfl (by decide) flX12_585 rfl rfl (((pI_ne (a := 71) (b := 81) (c := 117) _ _ (Or.inl (by decide)))).trans (ev1)) rfl rfl (oDec_at oX12_writes 8 rfl) (fun _ _ => ?_)
  refine r_iconst C (oDec_at oX12_writes 9 rfl) (v := k1) (by rw [qk1]; rfl) ?_
  obtain ⟨v3, ev3⟩ : ∃ z : Int32, z = v1 + k1 := ⟨_, rfl⟩
  have hv3 : v3.toInt = v1.toInt + k1.toInt := n_add ev3 (by omega) (by omega)
  refine r_iadd C v3 (oDec_at oX12_writes 10 rfl) ev3 ?_
  refine r_puti (k := 81) (lo := 0) (hi := 60) C oCl12 rfl (by decide) flX12_585 rfl rfl rfl rfl rfl rfl rfl rfl ⟨by omega, by omega⟩ (oDec_at oX12_writes 11 rfl) ?_
  refine r_pc C 20 rfl ?_
  have lk4 : (((pI (pI s 117 v1.toNatClampNeg a1) 71 81 v3)).1 71 81).toInt = v3.toInt := congrArg Int32.toInt ((pI_self _ _ _ _))
  exact r_vret C (oDec_at oX12_writes 12 rfl) ⟨rfl, by omega⟩
set_option maxHeartbeats 4000000 in
set_option maxRecDepth 100000 in
theorem ct_X12_checked (l : Launch) (E : oE) (s : oS) (c0 q0 n0 : Nat) (hk0 : okd c0 = q0) (h13_0 : 13 ≤ q0) (h9_0 : q0 < 999) (ht0 : oat q0 = 0) (hn0 : oln q0 = n0) (a1 : Int32) (hp0 : 0 ≤ a1.toInt ∧ a1.toInt ≤ (n0 : Int)) (hp1 : n0 ≤ 10000) : oMet l 1 yX12_checked cX12_checked 4 (some .int) [] E s [.ref (oad E c0), .int a1] (oPi (fun r u => True)) := by
  refine oMet.of (lv := [(0, .ref (oad E c0)), (1, .int a1)]) (by decide +kernel) (Nat.le_of_ble_eq_true rfl) rfl (fun J C hT => ?_)
  have C : oC l 1 cX12_checked RX12 4 (some .int) [] E s (oPi (fun r u => True)) J := C
  obtain ⟨k0, qk0⟩ : ∃ z : Int32, z = 0 := ⟨_, rfl⟩
  have ek0 : k0.toInt = 0 := by rw [qk0]; rfl
  obtain ⟨k7, qk7⟩ : ∃ z : Int32, z = 7 := ⟨_, rfl⟩
  have ek7 : k7.toInt = 7 := by rw [qk7]; rfl
  obtain ⟨k23, qk23⟩ : ∃ z : Int32, z = 23 := ⟨_, rfl⟩
  have ek23 : k23.toInt = 23 := by rw [qk23]; rfl
  obtain ⟨k251, qk251⟩ : ∃ z : Int32, z = 251 := ⟨_, rfl⟩
  have ek251 : k251.toInt = 251 := by rw [qk251]; rfl
  have rg1 := n_rng a1
  have key : ∀ n : Nat, (∀ (t : oS) (x2 : Int32) (x3 : Int32), (0 ≤ x3.toInt ∧ x3.toInt ≤ a1.toInt) → a1.toInt - x3.toInt + 1 ≤ (n : Int) → J t 5 [(0, .ref (oad E c0)), (1, .int a1), (2, .int x2), (3, .int x3)] []) := by
    intro n
    induction n using Nat.strongRecOn with
    | _ n ih =>
      skip
      · intro t x2 x3  iv0 hmu
        have rx2 := n_rng x2
        have rx3 := n_rng x3
        refine r_iload_n C (j := 3) (oDec_at oX12_checked 4 rfl) rfl rfl ?_
        refine r_iload_n C (j := 1) (oDec_at oX12_checked 5 rfl) rfl rfl ?_
        refine r_icmp_ge C 29 (oDec_at oX12_checked 6 rfl) (by decide) (fun cd1 => ?_) (fun cd1 => ?_)
        · skip
          refine r_iload_n C (j := 2) (oDec_at oX12_checked 19 rfl) rfl rfl ?_
          exact r_iret C (oDec_at oX12_checked 20 rfl) ⟨_, rfl, trivial⟩
        · skip
          refine r_bipush C (oDec_at oX12_checked 7 rfl) (v := k7) (by rw [qk7]; rfl) ?_
          refine r_iload_n C (j := 2) (oDec_at oX12_checked 8 rfl) rfl rfl ?_
          obtain ⟨v2, ev2⟩ : ∃ z : Int32, z = k7 * x2 := ⟨_, rfl⟩
          have rv2 := n_rng v2
          refine r_imul C v2 (oDec_at oX12_checked 9 rfl) ev2 ?_
          refine r_aload_n C (j := 0) (oDec_at oX12_checked 10 rfl) rfl rfl ?_
          refine r_iload_n C (j := 3) (oDec_at oX12_checked 11 rfl) rfl rfl ?_
          obtain ⟨v4, ev4⟩ : ∃ z : Int32, (t).1 c0 x3.toNatClampNeg = z := ⟨_, rfl⟩
          have gv4 : (t.1 c0 x3.toNatClampNeg).toInt = v4.toInt := congrArg Int32.toInt (ev4)
          have rv4 := n_rng v4
          refine r_iald (n := n0)  C v4 hk0 h13_0 ht0 hn0 ⟨by omega, by omega⟩ h9_0 ev4 rfl rfl (oDec_at oX12_checked 12 rfl) (fun _ _ => ?_)
          have rv4 := n_rng v4
          refine r_pc C 17 rfl ?_
          obtain ⟨v5, ev5⟩ : ∃ z : Int32, z = v2 + v4 := ⟨_, rfl⟩
          have rv5 := n_rng v5
          refine r_iadd C v5 (oDec_at oX12_checked 13 rfl) ev5 ?_
          refine r_sipush C (oDec_at oX12_checked 14 rfl) (v := k251) (by rw [qk251]; rfl) ?_
          obtain ⟨v6, ev6⟩ : ∃ z : Int32, z = v5 - v5 / k251 * k251 := ⟨_, rfl⟩
          have hv6 := n_rem (k := 251) ev6 ek251 (by decide)
          have rv6 := n_rng v6
          refine r_irem C v6 (oDec_at oX12_checked 15 rfl) (n_ne0 (by omega)) ev6 ?_
          refine r_istore_n C (lv' := [(0, .ref (oad E c0)), (1, .int a1), (2, .int v6), (3, .int x3)]) [1, 2, 0, 3] (oDec_at oX12_checked 16 rfl) rfl (by decide) rfl ?_
          obtain ⟨v7, ev7⟩ : ∃ z : Int32, x3 + Int32.ofInt 1 = z := ⟨_, rfl⟩
          have hv7 : v7.toInt = x3.toInt + 1 := n_inc ev7 (by decide) (by omega) (by omega)
          refine r_iinc C (j := 3) (lv' := [(0, .ref (oad E c0)), (1, .int a1), (2, .int v6), (3, .int v7)]) v7 [1, 2, 3, 0] (oDec_at oX12_checked 17 rfl) rfl ev7 (by decide) rfl ?_
          refine r_goto C (tgt := 5) (oDec_at oX12_checked 18 rfl) (by decide) ?_
          exact (ih (n - 1) (by omega)) (t) v6 v7  (by omega) (by omega)
  refine r_bipush C (oDec_at oX12_checked 0 rfl) (v := k23) (by rw [qk23]; rfl) ?_
  refine r_istore_n C (lv' := [(0, .ref (oad E c0)), (1, .int a1), (2, .int k23)]) [1, 2, 0] (oDec_at oX12_checked 1 rfl) rfl (by decide) rfl ?_
  refine r_iconst C (oDec_at oX12_checked 2 rfl) (v := k0) (by rw [qk0]; rfl) ?_
  refine r_istore_n C (lv' := [(0, .ref (oad E c0)), (1, .int a1), (2, .int k23), (3, .int k0)]) [1, 2, 3, 0] (oDec_at oX12_checked 3 rfl) rfl (by decide) rfl ?_
  exact (key (a1.toInt - k0.toInt + 1).toNat) (s) k23 k0  (by omega) (by omega)
set_option maxHeartbeats 4000000 in
set_option maxRecDepth 100000 in
theorem ct_X12_image (l : Launch) (E : oE) (s : oS)   : oMet l 2 yX12_image cX12_image 2 (some .int) [(12, 81), (93, 9999)] E s [.ref (oad E 71)] (oPi (fun r u => True)) := by
  refine oMet.of (lv := [(0, .ref (oad E 71))]) (by decide +kernel) (Nat.le_of_ble_eq_true rfl) rfl (fun J C hT => ?_)
  have C : oC l 2 cX12_image RX12 2 (some .int) [(12, 81), (93, 9999)] E s (oPi (fun r u => True)) J := C
  obtain ⟨km1, qkm1⟩ : ∃ z : Int32, z = (-1) := ⟨_, rfl⟩
  have ekm1 : km1.toInt = (-1) := by rw [qkm1]; rfl
  obtain ⟨k0, qk0⟩ : ∃ z : Int32, z = 0 := ⟨_, rfl⟩
  have ek0 : k0.toInt = 0 := by rw [qk0]; rfl
  obtain ⟨k255, qk255⟩ : ∃ z : Int32, z = 255 := ⟨_, rfl⟩
  have ek255 : k255.toInt = 255 := by rw [qk255]; rfl
  have key : ∀ n : Nat, (∀ (t : oS) (x1 : Int32), (0 ≤ x1.toInt ∧ x1.toInt ≤ 24) → ((t.1 71 81).toInt = 1 + 2 * x1.toInt) → 25 - x1.toInt ≤ (n : Int) → J t 15 [(0, .ref (oad E 71)), (1, .int x1)] []) := by
    intro n
    induction n using Nat.strongRecOn with
    | _ n ih =>
      skip
      · intro t x1  iv0 iv1 hmu
        have rx1 := n_rng x1
        refine r_iload_n C (j := 1) (oDec_at oX12_image 9 rfl) rfl rfl ?_
        refine r_aload_n C (j := 0) (oDec_at oX12_image 10 rfl) rfl rfl ?_
        obtain ⟨v1, ev1⟩ : ∃ z : Int32, (t).1 71 38 = z := ⟨_, rfl⟩
        have gv1 : (t.1 71 38).toInt = v1.toInt := congrArg Int32.toInt (ev1)
        refine r_geti (k := 38) (lo := 0) (hi := 24) C v1 oCl12 rfl (by decide) flX12_261 rfl rfl (ev1) rfl rfl (oDec_at oX12_image 11 rfl) (fun b2 b2h => ?_)
        refine r_icmp_ge C 65 (oDec_at oX12_image 12 rfl) (by decide) (fun cd3 => ?_) (fun cd3 => ?_)
        · skip
          refine r_aload_n C (j := 0) (oDec_at oX12_image 35 rfl) rfl rfl ?_
          refine r_aload_n C (j := 0) (oDec_at oX12_image 36 rfl) rfl rfl ?_
          refine r_getF (k := 80) (b := 117) C oCl12 rfl (by decide) flX12_167 rfl rfl rfl (oDec_at oX12_image 37 rfl) ?_
          refine r_aload_n C (j := 0) (oDec_at oX12_image 38 rfl) rfl rfl ?_
          obtain ⟨v4, ev4⟩ : ∃ z : Int32, (t).1 71 81 = z := ⟨_, rfl⟩
          have gv4 : (t.1 71 81).toInt = v4.toInt := congrArg Int32.toInt (ev4)
          refine r_geti (k := 81) (lo := 0) (hi := 60) C v4 oCl12 rfl (by decide) flX12_585 rfl rfl (ev4) rfl rfl (oDec_at oX12_image 39 rfl) (fun b5 b5h => ?_)
          refine r_callSi C miX12_checked mlX12_591 (ct_X12_checked l E (t) 117 93 60 rfl (by decide) (by decide) rfl rfl v4 (by omega) (by omega)) (by decide) rfl rfl rfl (Nat.le_of_ble_eq_true rfl) (oDec_at oX12_image 40 rfl) (fun r7 u6 pu6 fu6 => ?_)
          try dsimp only at pu6
          have hxu6 := oFr_nil fu6; subst hxu6
          have rr7 := n_rng r7
          refine r_pc C 77 rfl ?_
          have lk8 : ((t).1 71 81).toInt = v4.toInt := congrArg Int32.toInt (ev4)
          have lk9 : ((t).1 71 81).toInt = v4.toInt := congrArg Int32.toInt (ev4)
          refine r_callVv C oCl12 rfl miX12_writes mlX12_588 (ct_X12_writes l E (t) r7 (by omega)) (by decide) rfl rfl rfl (Nat.le_of_ble_eq_true rfl) (oDec_at oX12_image 41 rfl) (fun u10 pu10 fu10 => ?_)
          try dsimp only at pu10
          try simp only [lk8, lk9] at pu10
          refine r_aload_n C (j := 0) (oDec_at oX12_image 42 rfl) rfl rfl ?_
          obtain ⟨v12, ev12⟩ : ∃ z : Int32, (u10).1 71 81 = z := ⟨_, rfl⟩
          have gv12 : (u10.1 71 81).toInt = v12.toInt := congrArg Int32.toInt (ev12)
          refine r_geti (k := 81) (lo := 0) (hi := 60) C v12 oCl12 rfl (by decide) flX12_585 rfl rfl (ev12) rfl rfl (oDec_at oX12_image 43 rfl) (fun b13 b13h => ?_)
          exact r_iret C (oDec_at oX12_image 44 rfl) ⟨_, rfl, trivial⟩
        · skip
          refine r_aload_n C (j := 0) (oDec_at oX12_image 13 rfl) rfl rfl ?_
          refine r_aload_n C (j := 0) (oDec_at oX12_image 14 rfl) rfl rfl ?_
          refine r_getF (k := 39) (b := 99) C oCl12 rfl (by decide) flX12_96 rfl rfl rfl (oDec_at oX12_image 15 rfl) ?_
          refine r_iload_n C (j := 1) (oDec_at oX12_image 16 rfl) rfl rfl ?_
          obtain ⟨v15, ev15⟩ : ∃ z : Int32, (t).1 99 x1.toNatClampNeg = z := ⟨_, rfl⟩
          have gv15 : (t.1 99 x1.toNatClampNeg).toInt = v15.toInt := congrArg Int32.toInt (ev15)
          have rv15 := n_rng v15
          refine r_iald (n := 48) (lo := (-2147483648)) (hi := 2147483647) C v15 rfl (by decide) rfl rfl ⟨by omega, by omega⟩ (by decide) ev15 rfl rfl (oDec_at oX12_image 17 rfl) (fun _ _ => ?_)
          refine r_iconst C (oDec_at oX12_image 18 rfl) (v := km1) (by rw [qkm1]; rfl) ?_
          refine r_pc C 31 rfl ?_
          refine r_icmp_ne C 40 (oDec_at oX12_image 19 rfl) (by decide) (fun cd16 => ?_) (fun cd16 => ?_)
          · skip
            refine r_aload_n C (j := 0) (oDec_at oX12_image 22 rfl) rfl rfl ?_
            refine r_getF (k := 39) (b := 99) C oCl12 rfl (by decide) flX12_96 rfl rfl rfl (oDec_at oX12_image 23 rfl) ?_
            refine r_iload_n C (j := 1) (oDec_at oX12_image 24 rfl) rfl rfl ?_
            refine r_iald (n := 48) (lo := (-2147483648)) (hi := 2147483647) C v15 rfl (by decide) rfl rfl ⟨by omega, by omega⟩ (by decide) (ev15) rfl rfl (oDec_at oX12_image 25 rfl) (fun _ _ => ?_)
            refine r_callVv C oCl12 rfl miX12_writes mlX12_588 (ct_X12_writes l E (t) v15 (by omega)) (by decide) rfl rfl rfl (Nat.le_of_ble_eq_true rfl) (oDec_at oX12_image 26 rfl) (fun u18 pu18 fu18 => ?_)
            try dsimp only at pu18
            refine r_aload_n C (j := 0) (oDec_at oX12_image 27 rfl) rfl rfl ?_
            refine r_pc C 50 rfl ?_
            refine r_aload_n C (j := 0) (oDec_at oX12_image 28 rfl) rfl rfl ?_
            refine r_getF (k := 40) (b := 100) C oCl12 rfl (by decide) flX12_99 rfl rfl rfl (oDec_at oX12_image 29 rfl) ?_
            refine r_iload_n C (j := 1) (oDec_at oX12_image 30 rfl) rfl rfl ?_
            obtain ⟨v21, ev21⟩ : ∃ z : Int32, (u18).1 100 x1.toNatClampNeg = z := ⟨_, rfl⟩
            have av21 : t.1 100 x1.toNatClampNeg = v21 := ((fu18 100 x1.toNatClampNeg rfl).1).symm.trans ev21
            have gv21 : (t.1 100 x1.toNatClampNeg).toInt = v21.toInt := congrArg Int32.toInt (((fu18 100 x1.toNatClampNeg rfl).1).symm.trans ev21)
            refine r_iald (n := 48) (lo := 0) (hi := 9999) C v21 rfl (by decide) rfl rfl ⟨by omega, by omega⟩ (by decide) ev21 rfl rfl (oDec_at oX12_image 31 rfl) (fun b20 b20h => ?_)
            refine r_callVv C oCl12 rfl miX12_writes mlX12_588 (ct_X12_writes l E (u18) v21 (by omega)) (by decide) rfl rfl rfl (Nat.le_of_ble_eq_true rfl) (oDec_at oX12_image 32 rfl) (fun u22 pu22 fu22 => ?_)
            try dsimp only at pu22
            obtain ⟨v24, ev24⟩ : ∃ z : Int32, x1 + Int32.ofInt 1 = z := ⟨_, rfl⟩
            have hv24 : v24.toInt = x1.toInt + 1 := n_inc ev24 (by decide) (by omega) (by omega)
            refine r_iinc C (j := 1) (lv' := [(0, .ref (oad E 71)), (1, .int v24)]) v24 [1, 0] (oDec_at oX12_image 33 rfl) rfl ev24 (by decide) rfl ?_
            refine r_pc C 62 rfl ?_
            refine r_goto C (tgt := 15) (oDec_at oX12_image 34 rfl) (by decide) ?_
            exact (ih (n - 1) (by omega)) (u22) v24  (by omega) (by omega) (by omega)
          · skip
            refine r_sipush C (oDec_at oX12_image 20 rfl) (v := k255) (by rw [qk255]; rfl) ?_
            refine r_goto C (tgt := 46) (oDec_at oX12_image 21 rfl) (by decide) ?_
            refine r_callVv C oCl12 rfl miX12_writes mlX12_588 (ct_X12_writes l E (t) k255 (by omega)) (by decide) rfl rfl rfl (Nat.le_of_ble_eq_true rfl) (oDec_at oX12_image 26 rfl) (fun u25 pu25 fu25 => ?_)
            try dsimp only at pu25
            refine r_aload_n C (j := 0) (oDec_at oX12_image 27 rfl) rfl rfl ?_
            refine r_aload_n C (j := 0) (oDec_at oX12_image 28 rfl) rfl rfl ?_
            refine r_getF (k := 40) (b := 100) C oCl12 rfl (by decide) flX12_99 rfl rfl rfl (oDec_at oX12_image 29 rfl) ?_
            refine r_iload_n C (j := 1) (oDec_at oX12_image 30 rfl) rfl rfl ?_
            refine r_pc C 55 rfl ?_
            obtain ⟨v28, ev28⟩ : ∃ z : Int32, (u25).1 100 x1.toNatClampNeg = z := ⟨_, rfl⟩
            have av28 : t.1 100 x1.toNatClampNeg = v28 := ((fu25 100 x1.toNatClampNeg rfl).1).symm.trans ev28
            have gv28 : (t.1 100 x1.toNatClampNeg).toInt = v28.toInt := congrArg Int32.toInt (((fu25 100 x1.toNatClampNeg rfl).1).symm.trans ev28)
            refine r_iald (n := 48) (lo := 0) (hi := 9999) C v28 rfl (by decide) rfl rfl ⟨by omega, by omega⟩ (by decide) ev28 rfl rfl (oDec_at oX12_image 31 rfl) (fun b27 b27h => ?_)
            refine r_callVv C oCl12 rfl miX12_writes mlX12_588 (ct_X12_writes l E (u25) v28 (by omega)) (by decide) rfl rfl rfl (Nat.le_of_ble_eq_true rfl) (oDec_at oX12_image 32 rfl) (fun u29 pu29 fu29 => ?_)
            try dsimp only at pu29
            obtain ⟨v31, ev31⟩ : ∃ z : Int32, x1 + Int32.ofInt 1 = z := ⟨_, rfl⟩
            have hv31 : v31.toInt = x1.toInt + 1 := n_inc ev31 (by decide) (by omega) (by omega)
            refine r_iinc C (j := 1) (lv' := [(0, .ref (oad E 71)), (1, .int v31)]) v31 [1, 0] (oDec_at oX12_image 33 rfl) rfl ev31 (by decide) rfl ?_
            refine r_goto C (tgt := 15) (oDec_at oX12_image 34 rfl) (by decide) ?_
            exact (ih (n - 1) (by omega)) (u29) v31  (by omega) (by omega) (by omega)
  refine r_aload_n C (j := 0) (oDec_at oX12_image 0 rfl) rfl rfl ?_
  refine r_iconst C (oDec_at oX12_image 1 rfl) (v := k0) (by rw [qk0]; rfl) ?_
  refine r_puti (k := 81) (lo := 0) (hi := 60) C oCl12 rfl (by decide) flX12_585 rfl rfl rfl rfl rfl rfl rfl rfl ⟨by omega, by omega⟩ (oDec_at oX12_image 2 rfl) ?_
  refine r_aload_n C (j := 0) (oDec_at oX12_image 3 rfl) rfl rfl ?_
  refine r_aload_n C (j := 0) (oDec_at oX12_image 4 rfl) rfl rfl ?_
  obtain ⟨v32, ev32⟩ : ∃ z : Int32, ((pI s 71 81 k0)).1 71 38 = z := ⟨_, rfl⟩
  have gv32 : (s.1 71 38).toInt = v32.toInt := congrArg Int32.toInt (((pI_ne (a := 71) (b := 38) (c := 71) (k := 81) _ _ (Or.inr (by decide)))).symm.trans ev32)
  refine r_geti (k := 38) (lo := 0) (hi := 24) C v32 oCl12 rfl (by decide) flX12_261 rfl rfl (ev32) rfl rfl (oDec_at oX12_image 5 rfl) (fun b33 b33h => ?_)
  refine r_pc C 10 rfl ?_
  have lk34 : (((pI s 71 81 k0)).1 71 81).toInt = k0.toInt := congrArg Int32.toInt ((pI_self _ _ _ _))
  have lk35 : (((pI s 71 81 k0)).1 71 81).toInt = k0.toInt := congrArg Int32.toInt ((pI_self _ _ _ _))
  refine r_callVv C oCl12 rfl miX12_writes mlX12_588 (ct_X12_writes l E ((pI s 71 81 k0)) v32 (by omega)) (by decide) rfl rfl rfl (Nat.le_of_ble_eq_true rfl) (oDec_at oX12_image 6 rfl) (fun u36 pu36 fu36 => ?_)
  try dsimp only at pu36
  try simp only [lk34, lk35] at pu36
  refine r_iconst C (oDec_at oX12_image 7 rfl) (v := k0) (by rw [qk0]; rfl) ?_
  refine r_istore_n C (lv' := [(0, .ref (oad E 71)), (1, .int k0)]) [1, 0] (oDec_at oX12_image 8 rfl) rfl (by decide) rfl ?_
  exact (key (25 - k0.toInt).toNat) (u36) k0  (by omega) (by omega) (by omega)
set_option maxHeartbeats 4000000 in
set_option maxRecDepth 100000 in
theorem ct_X12_isFollower (l : Launch) (E : oE) (s : oS) (a0 : Int32)  : oMet l 3 yX12_isFollower cX12_isFollower 1 (some .boolean) [] E s [.int a0] (oPi (fun r u => (0 ≤ r.toInt ∧ r.toInt ≤ 1) ∧ (r.toInt = 1 → (0 ≤ a0.toInt ∧ a0.toInt ≤ 4499)))) := by
  refine oMet.of (lv := [(0, .int a0)]) (by decide +kernel) (Nat.le_of_ble_eq_true rfl) rfl (fun J C hT => ?_)
  have C : oC l 3 cX12_isFollower RX12 1 (some .boolean) [] E s (oPi (fun r u => (0 ≤ r.toInt ∧ r.toInt ≤ 1) ∧ (r.toInt = 1 → (0 ≤ a0.toInt ∧ a0.toInt ≤ 4499)))) J := C
  obtain ⟨k0, qk0⟩ : ∃ z : Int32, z = 0 := ⟨_, rfl⟩
  have ek0 : k0.toInt = 0 := by rw [qk0]; rfl
  obtain ⟨k1, qk1⟩ : ∃ z : Int32, z = 1 := ⟨_, rfl⟩
  have ek1 : k1.toInt = 1 := by rw [qk1]; rfl
  obtain ⟨k84, qk84⟩ : ∃ z : Int32, z = 84 := ⟨_, rfl⟩
  have ek84 : k84.toInt = 84 := by rw [qk84]; rfl
  have rg0 := n_rng a0
  refine r_iload_n C (j := 0) (oDec_at oX12_isFollower 0 rfl) rfl rfl ?_
  refine r_callSi C miX12_isCode mlX12_423 (ct_X12_isCode l E (s) a0 ) (by decide) rfl rfl rfl (Nat.le_of_ble_eq_true rfl) (oDec_at oX12_isFollower 1 rfl) (fun r2 u1 pu1 fu1 => ?_)
  try dsimp only at pu1
  obtain ⟨pu1_0, pu1_1⟩ := pu1
  have hxu1 := oFr_nil fu1; subst hxu1
  have rr2 := n_rng r2
  refine r_if_eq C 17 (oDec_at oX12_isFollower 2 rfl) (by decide) (fun cd3 => ?_) (fun cd3 => ?_)
  · skip
    refine r_iconst C (oDec_at oX12_isFollower 8 rfl) (v := k0) (by rw [qk0]; rfl) ?_
    exact r_zret C (n_bool (by omega)) (oDec_at oX12_isFollower 9 rfl) ⟨_, rfl, ⟨by omega, by omega⟩⟩
  · skip
    refine r_iload_n C (j := 0) (oDec_at oX12_isFollower 3 rfl) rfl rfl ?_
    refine r_bipush C (oDec_at oX12_isFollower 4 rfl) (v := k84) (by rw [qk84]; rfl) ?_
    refine r_icmp_eq C 17 (oDec_at oX12_isFollower 5 rfl) (by decide) (fun cd4 => ?_) (fun cd4 => ?_)
    · skip
      refine r_iconst C (oDec_at oX12_isFollower 8 rfl) (v := k0) (by rw [qk0]; rfl) ?_
      exact r_zret C (n_bool (by omega)) (oDec_at oX12_isFollower 9 rfl) ⟨_, rfl, ⟨by omega, by omega⟩⟩
    · skip
      refine r_iconst C (oDec_at oX12_isFollower 6 rfl) (v := k1) (by rw [qk1]; rfl) ?_
      refine r_goto C (tgt := 18) (oDec_at oX12_isFollower 7 rfl) (by decide) ?_
      exact r_zret C (n_bool (by omega)) (oDec_at oX12_isFollower 9 rfl) ⟨_, rfl, ⟨by omega, by omega⟩⟩
set_option maxHeartbeats 4000000 in
set_option maxRecDepth 100000 in
theorem ct_X12_clip (l : Launch) (E : oE) (s : oS) (a0 : Int64)  : oMet l 1 yX12_clip cX12_clip 2 (some .long) [] E s [.long a0] (oPl (fun r u => True)) := by
  refine oMet.of (lv := [(0, .long a0)]) (by decide +kernel) (Nat.le_of_ble_eq_true rfl) rfl (fun J C hT => ?_)
  have C : oC l 1 cX12_clip RX12 2 (some .long) [] E s (oPl (fun r u => True)) J := C
  obtain ⟨jm1000000, qjm1000000⟩ : ∃ z : Int64, z = (-1000000) := ⟨_, rfl⟩
  have ejm1000000 : jm1000000.toInt = (-1000000) := by rw [qjm1000000]; rfl
  obtain ⟨j1000000, qj1000000⟩ : ∃ z : Int64, z = 1000000 := ⟨_, rfl⟩
  have ej1000000 : j1000000.toInt = 1000000 := by rw [qj1000000]; rfl
  refine r_lload_n C (j := 0) (oDec_at oX12_clip 0 rfl) rfl rfl ?_
  refine r_ldc2 C (v := j1000000) (by rw [qj1000000]; exact klX12_356) (oDec_at oX12_clip 1 rfl) ?_
  obtain ⟨v1, ev1⟩ : ∃ z : Int32, z = lg_cmp a0 j1000000 := ⟨_, rfl⟩
  have hv1 := n_lcmp ev1
  refine r_lcmp C v1 (oDec_at oX12_clip 2 rfl) ev1 ?_
  refine r_if_le C 14 (oDec_at oX12_clip 3 rfl) (by decide) (fun cd2 => ?_) (fun cd2 => ?_)
  · skip
    refine r_lload_n C (j := 0) (oDec_at oX12_clip 6 rfl) rfl rfl ?_
    refine r_ldc2 C (v := jm1000000) (by rw [qjm1000000]; exact klX12_358) (oDec_at oX12_clip 7 rfl) ?_
    obtain ⟨v3, ev3⟩ : ∃ z : Int32, z = lg_cmp a0 jm1000000 := ⟨_, rfl⟩
    have hv3 := n_lcmp ev3
    refine r_lcmp C v3 (oDec_at oX12_clip 8 rfl) ev3 ?_
    refine r_if_ge C 28 (oDec_at oX12_clip 9 rfl) (by decide) (fun cd4 => ?_) (fun cd4 => ?_)
    · skip
      refine r_lload_n C (j := 0) (oDec_at oX12_clip 12 rfl) rfl rfl ?_
      exact r_lret C (oDec_at oX12_clip 13 rfl) ⟨_, rfl, trivial⟩
    · skip
      refine r_ldc2 C (v := jm1000000) (by rw [qjm1000000]; exact klX12_358) (oDec_at oX12_clip 10 rfl) ?_
      refine r_goto C (tgt := 29) (oDec_at oX12_clip 11 rfl) (by decide) ?_
      exact r_lret C (oDec_at oX12_clip 13 rfl) ⟨_, rfl, trivial⟩
  · skip
    refine r_ldc2 C (v := j1000000) (by rw [qj1000000]; exact klX12_356) (oDec_at oX12_clip 4 rfl) ?_
    refine r_goto C (tgt := 29) (oDec_at oX12_clip 5 rfl) (by decide) ?_
    exact r_lret C (oDec_at oX12_clip 13 rfl) ⟨_, rfl, trivial⟩
