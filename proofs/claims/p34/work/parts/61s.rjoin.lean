set_option maxHeartbeats 4000000 in
set_option maxRecDepth 100000 in
theorem ct9_X12_joins (l : Launch) (E : oE) (s : oS) (a1 : Int32) (a9 : Int) (b9 : Int) (m8 : Nat) (hp0 : 2 ≤ (s.1 71 58).toInt) (hp1 : (s.1 71 58).toInt = (m8 : Int) + 2) (hp2 : (s.2.1 108 m8).toInt = a9) (hp3 : (s.2.1 108 (m8 + 1)).toInt = b9) (hp4 : -1000000 ≤ a9 ∧ a9 ≤ 1000000) (hp5 : -1000000 ≤ b9 ∧ b9 ≤ 1000000) (hp6 : oqJo a1.toInt) (hp7 : (a1.toInt = 14 ∨ a1.toInt = 15) → ((a9 = 0 ∨ a9 = 1) ∧ (b9 = 0 ∨ b9 = 1))) : oMet l 2 yX12_joins cX12_joins 6 none [(12, 58), (84, 9999)] E s [.ref (oad E 71), .int a1] (oPv (fun u => ((u.1 71 58).toInt = (s.1 71 58).toInt - 1) ∧ (∃ v9 : Int64, v9.toInt = oqJn a1.toInt a9 b9 ∧ u.2.1 108 = oUl (s.2.1 108) m8 v9))) := by
  refine oMet.of (lv := [(0, .ref (oad E 71)), (1, .int a1)]) (by decide +kernel) (Nat.le_of_ble_eq_true rfl) rfl (fun J C hT => ?_)
  have C : oC l 2 cX12_joins RX12 6 none [(12, 58), (84, 9999)] E s (oPv (fun u => ((u.1 71 58).toInt = (s.1 71 58).toInt - 1) ∧ (∃ v9 : Int64, v9.toInt = oqJn a1.toInt a9 b9 ∧ u.2.1 108 = oUl (s.2.1 108) m8 v9))) J := C
  obtain ⟨k1, qk1⟩ : ∃ z : Int32, z = 1 := ⟨_, rfl⟩
  have ek1 : k1.toInt = 1 := by rw [qk1]; rfl
  obtain ⟨k2, qk2⟩ : ∃ z : Int32, z = 2 := ⟨_, rfl⟩
  have ek2 : k2.toInt = 2 := by rw [qk2]; rfl
  obtain ⟨j0, qj0⟩ : ∃ z : Int64, z = 0 := ⟨_, rfl⟩
  have ej0 : j0.toInt = 0 := by rw [qj0]; rfl
  obtain ⟨j1, qj1⟩ : ∃ z : Int64, z = 1 := ⟨_, rfl⟩
  have ej1 : j1.toInt = 1 := by rw [qj1]; rfl
  have rg1 := n_rng a1
  have hjo9 : (1 ≤ a1.toInt ∧ a1.toInt ≤ 6) ∨ (11 ≤ a1.toInt ∧ a1.toInt ≤ 15) := hp6
  refine r_aload_n C (j := 0) (oDec_at oX12_joins 0 rfl) rfl rfl ?_
  refine r_getF (k := 57) (b := 108) C oCl12 rfl (by decide) flX12_130 rfl rfl rfl (oDec_at oX12_joins 1 rfl) ?_
  refine r_aload_n C (j := 0) (oDec_at oX12_joins 2 rfl) rfl rfl ?_
  obtain ⟨v1, ev1⟩ : ∃ z : Int32, (s).1 71 58 = z := ⟨_, rfl⟩
  have gv1 : (s.1 71 58).toInt = v1.toInt := congrArg Int32.toInt (ev1)
  refine r_geti (k := 58) (lo := 0) (hi := 1700) C v1 oCl12 rfl (by decide) flX12_360 rfl rfl (ev1) rfl rfl (oDec_at oX12_joins 3 rfl) (fun b2 b2h => ?_)
  refine r_iconst C (oDec_at oX12_joins 4 rfl) (v := k1) (by rw [qk1]; rfl) ?_
  obtain ⟨v3, ev3⟩ : ∃ z : Int32, z = v1 - k1 := ⟨_, rfl⟩
  have hv3 : v3.toInt = v1.toInt - k1.toInt := n_sub ev3 (by omega) (by omega)
  refine r_isub C v3 (oDec_at oX12_joins 5 rfl) ev3 ?_
  refine r_pc C 10 rfl ?_
  obtain ⟨v4, ev4⟩ : ∃ z : Int64, (s).2.1 108 v3.toNatClampNeg = z := ⟨_, rfl⟩
  refine r_lald (n := 1700) C v4 rfl (by decide) rfl rfl ⟨by omega, by omega⟩ (by decide) ev4 (oDec_at oX12_joins 6 rfl) ?_
  have hb8 : v4.toInt = b9 := by rw [← hp3, show m8 + 1 = v3.toNatClampNeg by (have h9 := n_nat v3; omega)]; exact (congrArg Int64.toInt ev4).symm
  refine r_lstore_n C (lv' := [(0, .ref (oad E 71)), (1, .int a1), (2, .long v4)]) [1, 2, 0] (oDec_at oX12_joins 7 rfl) rfl (by decide) rfl ?_
  refine r_aload_n C (j := 0) (oDec_at oX12_joins 8 rfl) rfl rfl ?_
  refine r_getF (k := 57) (b := 108) C oCl12 rfl (by decide) flX12_130 rfl rfl rfl (oDec_at oX12_joins 9 rfl) ?_
  refine r_aload_n C (j := 0) (oDec_at oX12_joins 10 rfl) rfl rfl ?_
  refine r_geti (k := 58) (lo := 0) (hi := 1700) C v1 oCl12 rfl (by decide) flX12_360 rfl rfl (ev1) rfl rfl (oDec_at oX12_joins 11 rfl) (fun _ _ => ?_)
  refine r_pc C 20 rfl ?_
  refine r_iconst C (oDec_at oX12_joins 12 rfl) (v := k2) (by rw [qk2]; rfl) ?_
  obtain ⟨v5, ev5⟩ : ∃ z : Int32, z = v1 - k2 := ⟨_, rfl⟩
  have hv5 : v5.toInt = v1.toInt - k2.toInt := n_sub ev5 (by omega) (by omega)
  refine r_isub C v5 (oDec_at oX12_joins 13 rfl) ev5 ?_
  obtain ⟨v6, ev6⟩ : ∃ z : Int64, (s).2.1 108 v5.toNatClampNeg = z := ⟨_, rfl⟩
  refine r_lald (n := 1700) C v6 rfl (by decide) rfl rfl ⟨by omega, by omega⟩ (by decide) ev6 (oDec_at oX12_joins 14 rfl) ?_
  have ha8 : v6.toInt = a9 := by rw [← hp2, show m8 = v5.toNatClampNeg by (have h9 := n_nat v5; omega)]; exact (congrArg Int64.toInt ev6).symm
  refine r_lstore C (lv' := [(0, .ref (oad E 71)), (1, .int a1), (2, .long v4), (4, .long v6)]) [1, 2, 3, 0] (oDec_at oX12_joins 15 rfl) (by decide) rfl ?_
  refine r_aload_n C (j := 0) (oDec_at oX12_joins 16 rfl) rfl rfl ?_
  refine r_dup C (oDec_at oX12_joins 17 rfl) rfl ?_
  refine r_pc C 27 rfl ?_
  refine r_geti (k := 58) (lo := 0) (hi := 1700) C v1 oCl12 rfl (by decide) flX12_360 rfl rfl (ev1) rfl rfl (oDec_at oX12_joins 18 rfl) (fun _ _ => ?_)
  refine r_iconst C (oDec_at oX12_joins 19 rfl) (v := k2) (by rw [qk2]; rfl) ?_
  obtain ⟨v7, ev7⟩ : ∃ z : Int32, z = v1 - k2 := ⟨_, rfl⟩
  have hv7 : v7.toInt = v1.toInt - k2.toInt := n_sub ev7 (by omega) (by omega)
  refine r_isub C v7 (oDec_at oX12_joins 20 rfl) ev7 ?_
  refine r_puti (k := 58) (lo := 0) (hi := 1700) C oCl12 rfl (by decide) flX12_360 rfl rfl rfl rfl rfl rfl rfl rfl ⟨by omega, by omega⟩ (oDec_at oX12_joins 21 rfl) ?_
  refine r_iload_n C (j := 1) (oDec_at oX12_joins 22 rfl) rfl rfl ?_
  by_cases cd8_0 : a1.toInt = 1
  · refine r_tableIn C 108 (oDec_at oX12_joins 23 rfl) (by omega) (by omega) (by rw [cd8_0]; rfl) (by decide) ?_
    refine r_aload_n C (j := 0) (oDec_at oX12_joins 24 rfl) rfl rfl ?_
    refine r_lload C (j := 3) (oDec_at oX12_joins 25 rfl) rfl ?_
    refine r_lload_n C (j := 2) (oDec_at oX12_joins 26 rfl) rfl rfl ?_
    obtain ⟨v9, ev9⟩ : ∃ z : Int64, z = v6 + v4 := ⟨_, rfl⟩
    have hv9 := n_ladd ev9 (by omega) (by omega)
    refine r_ladd C v9 (oDec_at oX12_joins 27 rfl) ev9 ?_
    refine r_callSl C miX12_clip mlX12_363 (ct9_X12_clip l E ((pI s 71 58 v7)) v9 ) (by decide) rfl rfl rfl (Nat.le_of_ble_eq_true rfl) (oDec_at oX12_joins 28 rfl) (fun r11 u10 pu10 fu10 => ?_)
    try dsimp only at pu10
    have hxu10 := oFr_nil fu10; subst hxu10
    have hv9 : r11.toInt = oqJn a1.toInt a9 b9 := by rw [show a1.toInt = 1 by omega]; rw [oqJn_1, pu10]; congr 1; omega
    have lk12 : (((pI s 71 58 v7)).1 71 58).toInt = v7.toInt := congrArg Int32.toInt ((pI_self _ _ _ _))
    have lk13 : (((pI s 71 58 v7)).1 71 58).toInt = v7.toInt := congrArg Int32.toInt ((pI_self _ _ _ _))
    refine r_callVv C oCl12 rfl miX12_puts mlX12_367 (ct9_X12_puts l E ((pI s 71 58 v7)) r11 (by omega)) (by decide) rfl rfl rfl (Nat.le_of_ble_eq_true rfl) (oDec_at oX12_joins 29 rfl) (fun u14 pu14 fu14 => ?_)
    try dsimp only at pu14
    try simp only [lk12, lk13] at pu14
    obtain ⟨pu14_0, pu14_1⟩ := pu14
    refine r_pc C 119 rfl ?_
    refine r_goto C (tgt := 289) (oDec_at oX12_joins 30 rfl) (by decide) ?_
    exact r_vret C (oDec_at oX12_joins 118 rfl) ⟨rfl, ⟨by omega, ⟨r11, hv9, by (have h9 := pu14_1; rw [pI_self, show v7.toNatClampNeg = m8 by (have h8 := n_nat v7; omega)] at h9; exact h9)⟩⟩⟩
  by_cases cd8_1 : a1.toInt = 2
  · refine r_tableIn C 122 (oDec_at oX12_joins 23 rfl) (by omega) (by omega) (by rw [cd8_1]; rfl) (by decide) ?_
    refine r_aload_n C (j := 0) (oDec_at oX12_joins 31 rfl) rfl rfl ?_
    refine r_lload C (j := 3) (oDec_at oX12_joins 32 rfl) rfl ?_
    refine r_lload_n C (j := 2) (oDec_at oX12_joins 33 rfl) rfl rfl ?_
    obtain ⟨v16, ev16⟩ : ∃ z : Int64, z = v6 - v4 := ⟨_, rfl⟩
    have hv16 := n_lsub ev16 (by omega) (by omega)
    refine r_lsub C v16 (oDec_at oX12_joins 34 rfl) ev16 ?_
    refine r_callSl C miX12_clip mlX12_363 (ct9_X12_clip l E ((pI s 71 58 v7)) v16 ) (by decide) rfl rfl rfl (Nat.le_of_ble_eq_true rfl) (oDec_at oX12_joins 35 rfl) (fun r18 u17 pu17 fu17 => ?_)
    try dsimp only at pu17
    have hxu17 := oFr_nil fu17; subst hxu17
    have hv9 : r18.toInt = oqJn a1.toInt a9 b9 := by rw [show a1.toInt = 2 by omega]; rw [oqJn_2, pu17]; congr 1; omega
    have lk19 : (((pI s 71 58 v7)).1 71 58).toInt = v7.toInt := congrArg Int32.toInt ((pI_self _ _ _ _))
    have lk20 : (((pI s 71 58 v7)).1 71 58).toInt = v7.toInt := congrArg Int32.toInt ((pI_self _ _ _ _))
    refine r_callVv C oCl12 rfl miX12_puts mlX12_367 (ct9_X12_puts l E ((pI s 71 58 v7)) r18 (by omega)) (by decide) rfl rfl rfl (Nat.le_of_ble_eq_true rfl) (oDec_at oX12_joins 36 rfl) (fun u21 pu21 fu21 => ?_)
    try dsimp only at pu21
    try simp only [lk19, lk20] at pu21
    obtain ⟨pu21_0, pu21_1⟩ := pu21
    refine r_pc C 133 rfl ?_
    refine r_goto C (tgt := 289) (oDec_at oX12_joins 37 rfl) (by decide) ?_
    exact r_vret C (oDec_at oX12_joins 118 rfl) ⟨rfl, ⟨by omega, ⟨r18, hv9, by (have h9 := pu21_1; rw [pI_self, show v7.toNatClampNeg = m8 by (have h8 := n_nat v7; omega)] at h9; exact h9)⟩⟩⟩
  by_cases cd8_2 : a1.toInt = 3
  · refine r_tableIn C 136 (oDec_at oX12_joins 23 rfl) (by omega) (by omega) (by rw [cd8_2]; rfl) (by decide) ?_
    refine r_aload_n C (j := 0) (oDec_at oX12_joins 38 rfl) rfl rfl ?_
    refine r_lload C (j := 3) (oDec_at oX12_joins 39 rfl) rfl ?_
    refine r_lload_n C (j := 2) (oDec_at oX12_joins 40 rfl) rfl rfl ?_
    obtain ⟨v23, ev23⟩ : ∃ z : Int64, z = v6 * v4 := ⟨_, rfl⟩
    have hm9 := oqMul_b (a := v6.toInt) (b := v4.toInt) (by omega) (by omega); have hv23 := n_lmulB ev23 (by omega) (by omega); rw [ha8, hb8] at hv23
    refine r_lmul C v23 (oDec_at oX12_joins 41 rfl) ev23 ?_
    refine r_callSl C miX12_clip mlX12_363 (ct9_X12_clip l E ((pI s 71 58 v7)) v23 ) (by decide) rfl rfl rfl (Nat.le_of_ble_eq_true rfl) (oDec_at oX12_joins 42 rfl) (fun r25 u24 pu24 fu24 => ?_)
    try dsimp only at pu24
    have hxu24 := oFr_nil fu24; subst hxu24
    have hv9 : r25.toInt = oqJn a1.toInt a9 b9 := by rw [show a1.toInt = 3 by omega]; rw [oqJn_3, pu24]; first | (congr 1; omega) | congr 1
    have lk26 : (((pI s 71 58 v7)).1 71 58).toInt = v7.toInt := congrArg Int32.toInt ((pI_self _ _ _ _))
    have lk27 : (((pI s 71 58 v7)).1 71 58).toInt = v7.toInt := congrArg Int32.toInt ((pI_self _ _ _ _))
    refine r_callVv C oCl12 rfl miX12_puts mlX12_367 (ct9_X12_puts l E ((pI s 71 58 v7)) r25 (by omega)) (by decide) rfl rfl rfl (Nat.le_of_ble_eq_true rfl) (oDec_at oX12_joins 43 rfl) (fun u28 pu28 fu28 => ?_)
    try dsimp only at pu28
    try simp only [lk26, lk27] at pu28
    obtain ⟨pu28_0, pu28_1⟩ := pu28
    refine r_pc C 147 rfl ?_
    refine r_goto C (tgt := 289) (oDec_at oX12_joins 44 rfl) (by decide) ?_
    exact r_vret C (oDec_at oX12_joins 118 rfl) ⟨rfl, ⟨by omega, ⟨r25, hv9, by (have h9 := pu28_1; rw [pI_self, show v7.toNatClampNeg = m8 by (have h8 := n_nat v7; omega)] at h9; exact h9)⟩⟩⟩
  by_cases cd8_3 : a1.toInt = 4
  · refine r_tableIn C 150 (oDec_at oX12_joins 23 rfl) (by omega) (by omega) (by rw [cd8_3]; rfl) (by decide) ?_
    refine r_aload_n C (j := 0) (oDec_at oX12_joins 45 rfl) rfl rfl ?_
    refine r_lload C (j := 3) (oDec_at oX12_joins 46 rfl) rfl ?_
    refine r_lload_n C (j := 2) (oDec_at oX12_joins 47 rfl) rfl rfl ?_
    refine r_callSl C miX12_floor mlX12_371 (ct9_X12_floor l E ((pI s 71 58 v7)) v6 v4 (by omega) (by omega)) (by decide) rfl rfl rfl (Nat.le_of_ble_eq_true rfl) (oDec_at oX12_joins 48 rfl) (fun r31 u30 pu30 fu30 => ?_)
    try dsimp only at pu30
    have hxu30 := oFr_nil fu30; subst hxu30
    have hv9 : r31.toInt = oqJn a1.toInt a9 b9 := by rw [show a1.toInt = 4 by omega]; rw [oqJn_4, pu30, ha8, hb8]
    have lk32 : (((pI s 71 58 v7)).1 71 58).toInt = v7.toInt := congrArg Int32.toInt ((pI_self _ _ _ _))
    have lk33 : (((pI s 71 58 v7)).1 71 58).toInt = v7.toInt := congrArg Int32.toInt ((pI_self _ _ _ _))
    refine r_callVv C oCl12 rfl miX12_puts mlX12_367 (ct9_X12_puts l E ((pI s 71 58 v7)) r31 (by omega)) (by decide) rfl rfl rfl (Nat.le_of_ble_eq_true rfl) (oDec_at oX12_joins 49 rfl) (fun u34 pu34 fu34 => ?_)
    try dsimp only at pu34
    try simp only [lk32, lk33] at pu34
    obtain ⟨pu34_0, pu34_1⟩ := pu34
    refine r_goto C (tgt := 289) (oDec_at oX12_joins 50 rfl) (by decide) ?_
    exact r_vret C (oDec_at oX12_joins 118 rfl) ⟨rfl, ⟨by omega, ⟨r31, hv9, by (have h9 := pu34_1; rw [pI_self, show v7.toNatClampNeg = m8 by (have h8 := n_nat v7; omega)] at h9; exact h9)⟩⟩⟩
  by_cases cd8_4 : a1.toInt = 5
  · refine r_tableIn C 163 (oDec_at oX12_joins 23 rfl) (by omega) (by omega) (by rw [cd8_4]; rfl) (by decide) ?_
    refine r_aload_n C (j := 0) (oDec_at oX12_joins 51 rfl) rfl rfl ?_
    refine r_lload C (j := 3) (oDec_at oX12_joins 52 rfl) rfl ?_
    refine r_lload_n C (j := 2) (oDec_at oX12_joins 53 rfl) rfl rfl ?_
    obtain ⟨v36, ev36⟩ : ∃ z : Int32, z = lg_cmp v6 v4 := ⟨_, rfl⟩
    have hv36 := n_lcmp ev36
    refine r_lcmp C v36 (oDec_at oX12_joins 54 rfl) ev36 ?_
    refine r_if_ge C 176 (oDec_at oX12_joins 55 rfl) (by decide) (fun cd37 => ?_) (fun cd37 => ?_)
    · skip
      refine r_lload_n C (j := 2) (oDec_at oX12_joins 58 rfl) rfl rfl ?_
      have hv9 : v4.toInt = oqJn a1.toInt a9 b9 := by rw [show a1.toInt = 5 by omega]; rw [oqJn_5]; by_cases h9 : a9 ≤ b9; (rw [if_pos h9]; omega); (rw [if_neg h9]; omega)
      have lk38 : (((pI s 71 58 v7)).1 71 58).toInt = v7.toInt := congrArg Int32.toInt ((pI_self _ _ _ _))
      have lk39 : (((pI s 71 58 v7)).1 71 58).toInt = v7.toInt := congrArg Int32.toInt ((pI_self _ _ _ _))
      refine r_callVv C oCl12 rfl miX12_puts mlX12_367 (ct9_X12_puts l E ((pI s 71 58 v7)) v4 (by omega)) (by decide) rfl rfl rfl (Nat.le_of_ble_eq_true rfl) (oDec_at oX12_joins 59 rfl) (fun u40 pu40 fu40 => ?_)
      try dsimp only at pu40
      try simp only [lk38, lk39] at pu40
      obtain ⟨pu40_0, pu40_1⟩ := pu40
      refine r_goto C (tgt := 289) (oDec_at oX12_joins 60 rfl) (by decide) ?_
      exact r_vret C (oDec_at oX12_joins 118 rfl) ⟨rfl, ⟨by omega, ⟨v4, hv9, by (have h9 := pu40_1; rw [pI_self, show v7.toNatClampNeg = m8 by (have h8 := n_nat v7; omega)] at h9; exact h9)⟩⟩⟩
    · skip
      refine r_lload C (j := 3) (oDec_at oX12_joins 56 rfl) rfl ?_
      refine r_goto C (tgt := 177) (oDec_at oX12_joins 57 rfl) (by decide) ?_
      have hv9 : v6.toInt = oqJn a1.toInt a9 b9 := by rw [show a1.toInt = 5 by omega]; rw [oqJn_5]; by_cases h9 : a9 ≤ b9; (rw [if_pos h9]; omega); (rw [if_neg h9]; omega)
      have lk42 : (((pI s 71 58 v7)).1 71 58).toInt = v7.toInt := congrArg Int32.toInt ((pI_self _ _ _ _))
      have lk43 : (((pI s 71 58 v7)).1 71 58).toInt = v7.toInt := congrArg Int32.toInt ((pI_self _ _ _ _))
      refine r_callVv C oCl12 rfl miX12_puts mlX12_367 (ct9_X12_puts l E ((pI s 71 58 v7)) v6 (by omega)) (by decide) rfl rfl rfl (Nat.le_of_ble_eq_true rfl) (oDec_at oX12_joins 59 rfl) (fun u44 pu44 fu44 => ?_)
      try dsimp only at pu44
      try simp only [lk42, lk43] at pu44
      obtain ⟨pu44_0, pu44_1⟩ := pu44
      refine r_goto C (tgt := 289) (oDec_at oX12_joins 60 rfl) (by decide) ?_
      exact r_vret C (oDec_at oX12_joins 118 rfl) ⟨rfl, ⟨by omega, ⟨v6, hv9, by (have h9 := pu44_1; rw [pI_self, show v7.toNatClampNeg = m8 by (have h8 := n_nat v7; omega)] at h9; exact h9)⟩⟩⟩
  by_cases cd8_5 : a1.toInt = 6
  · refine r_tableIn C 183 (oDec_at oX12_joins 23 rfl) (by omega) (by omega) (by rw [cd8_5]; rfl) (by decide) ?_
    refine r_aload_n C (j := 0) (oDec_at oX12_joins 61 rfl) rfl rfl ?_
    refine r_lload C (j := 3) (oDec_at oX12_joins 62 rfl) rfl ?_
    refine r_lload_n C (j := 2) (oDec_at oX12_joins 63 rfl) rfl rfl ?_
    obtain ⟨v46, ev46⟩ : ∃ z : Int32, z = lg_cmp v6 v4 := ⟨_, rfl⟩
    have hv46 := n_lcmp ev46
    refine r_lcmp C v46 (oDec_at oX12_joins 64 rfl) ev46 ?_
    refine r_if_le C 196 (oDec_at oX12_joins 65 rfl) (by decide) (fun cd47 => ?_) (fun cd47 => ?_)
    · skip
      refine r_lload_n C (j := 2) (oDec_at oX12_joins 68 rfl) rfl rfl ?_
      have hv9 : v4.toInt = oqJn a1.toInt a9 b9 := by rw [show a1.toInt = 6 by omega]; rw [oqJn_6]; by_cases h9 : a9 ≤ b9; (rw [if_pos h9]; omega); (rw [if_neg h9]; omega)
      have lk48 : (((pI s 71 58 v7)).1 71 58).toInt = v7.toInt := congrArg Int32.toInt ((pI_self _ _ _ _))
      have lk49 : (((pI s 71 58 v7)).1 71 58).toInt = v7.toInt := congrArg Int32.toInt ((pI_self _ _ _ _))
      refine r_callVv C oCl12 rfl miX12_puts mlX12_367 (ct9_X12_puts l E ((pI s 71 58 v7)) v4 (by omega)) (by decide) rfl rfl rfl (Nat.le_of_ble_eq_true rfl) (oDec_at oX12_joins 69 rfl) (fun u50 pu50 fu50 => ?_)
      try dsimp only at pu50
      try simp only [lk48, lk49] at pu50
      obtain ⟨pu50_0, pu50_1⟩ := pu50
      refine r_goto C (tgt := 289) (oDec_at oX12_joins 70 rfl) (by decide) ?_
      exact r_vret C (oDec_at oX12_joins 118 rfl) ⟨rfl, ⟨by omega, ⟨v4, hv9, by (have h9 := pu50_1; rw [pI_self, show v7.toNatClampNeg = m8 by (have h8 := n_nat v7; omega)] at h9; exact h9)⟩⟩⟩
    · skip
      refine r_lload C (j := 3) (oDec_at oX12_joins 66 rfl) rfl ?_
      refine r_goto C (tgt := 197) (oDec_at oX12_joins 67 rfl) (by decide) ?_
      have hv9 : v6.toInt = oqJn a1.toInt a9 b9 := by rw [show a1.toInt = 6 by omega]; rw [oqJn_6]; by_cases h9 : a9 ≤ b9; (rw [if_pos h9]; omega); (rw [if_neg h9]; omega)
      have lk52 : (((pI s 71 58 v7)).1 71 58).toInt = v7.toInt := congrArg Int32.toInt ((pI_self _ _ _ _))
      have lk53 : (((pI s 71 58 v7)).1 71 58).toInt = v7.toInt := congrArg Int32.toInt ((pI_self _ _ _ _))
      refine r_callVv C oCl12 rfl miX12_puts mlX12_367 (ct9_X12_puts l E ((pI s 71 58 v7)) v6 (by omega)) (by decide) rfl rfl rfl (Nat.le_of_ble_eq_true rfl) (oDec_at oX12_joins 69 rfl) (fun u54 pu54 fu54 => ?_)
      try dsimp only at pu54
      try simp only [lk52, lk53] at pu54
      obtain ⟨pu54_0, pu54_1⟩ := pu54
      refine r_goto C (tgt := 289) (oDec_at oX12_joins 70 rfl) (by decide) ?_
      exact r_vret C (oDec_at oX12_joins 118 rfl) ⟨rfl, ⟨by omega, ⟨v6, hv9, by (have h9 := pu54_1; rw [pI_self, show v7.toNatClampNeg = m8 by (have h8 := n_nat v7; omega)] at h9; exact h9)⟩⟩⟩
  by_cases cd8_6 : a1.toInt = 7
  · refine r_tableIn C 271 (oDec_at oX12_joins 23 rfl) (by omega) (by omega) (by rw [cd8_6]; rfl) (by decide) ?_
    refine r_aload_n C (j := 0) (oDec_at oX12_joins 107 rfl) rfl rfl ?_
    refine r_lload C (j := 3) (oDec_at oX12_joins 108 rfl) rfl ?_
    refine r_lload_n C (j := 2) (oDec_at oX12_joins 109 rfl) rfl rfl ?_
    obtain ⟨v56, ev56⟩ : ∃ z : Int64, z = v6 + v4 := ⟨_, rfl⟩
    have hv56 := n_ladd ev56 (by omega) (by omega)
    refine r_ladd C v56 (oDec_at oX12_joins 110 rfl) ev56 ?_
    refine r_lconst C (oDec_at oX12_joins 111 rfl) (v := j0) (by rw [qj0]; rfl) ?_
    obtain ⟨v57, ev57⟩ : ∃ z : Int32, z = lg_cmp v56 j0 := ⟨_, rfl⟩
    have hv57 := n_lcmp ev57
    refine r_lcmp C v57 (oDec_at oX12_joins 112 rfl) ev57 ?_
    refine r_pc C 278 rfl ?_
    refine r_if_le C 285 (oDec_at oX12_joins 113 rfl) (by decide) (fun cd58 => ?_) (fun cd58 => ?_)
    · skip
      refine r_lconst C (oDec_at oX12_joins 116 rfl) (v := j0) (by rw [qj0]; rfl) ?_
      have hv9 : j0.toInt = oqJn a1.toInt a9 b9 := by rw [show a1.toInt = 15 by omega]; first | (rw [oqJn_e15, if_pos (by omega)]; omega) | (rw [oqJn_e15, if_neg (by omega)]; omega)
      have lk59 : (((pI s 71 58 v7)).1 71 58).toInt = v7.toInt := congrArg Int32.toInt ((pI_self _ _ _ _))
      have lk60 : (((pI s 71 58 v7)).1 71 58).toInt = v7.toInt := congrArg Int32.toInt ((pI_self _ _ _ _))
      refine r_callVv C oCl12 rfl miX12_puts mlX12_367 (ct9_X12_puts l E ((pI s 71 58 v7)) j0 (by omega)) (by decide) rfl rfl rfl (Nat.le_of_ble_eq_true rfl) (oDec_at oX12_joins 117 rfl) (fun u61 pu61 fu61 => ?_)
      try dsimp only at pu61
      try simp only [lk59, lk60] at pu61
      obtain ⟨pu61_0, pu61_1⟩ := pu61
      exact r_vret C (oDec_at oX12_joins 118 rfl) ⟨rfl, ⟨by omega, ⟨j0, hv9, by (have h9 := pu61_1; rw [pI_self, show v7.toNatClampNeg = m8 by (have h8 := n_nat v7; omega)] at h9; exact h9)⟩⟩⟩
    · skip
      refine r_lconst C (oDec_at oX12_joins 114 rfl) (v := j1) (by rw [qj1]; rfl) ?_
      refine r_goto C (tgt := 286) (oDec_at oX12_joins 115 rfl) (by decide) ?_
      have hv9 : j1.toInt = oqJn a1.toInt a9 b9 := by rw [show a1.toInt = 15 by omega]; first | (rw [oqJn_e15, if_pos (by omega)]; omega) | (rw [oqJn_e15, if_neg (by omega)]; omega)
      have lk63 : (((pI s 71 58 v7)).1 71 58).toInt = v7.toInt := congrArg Int32.toInt ((pI_self _ _ _ _))
      have lk64 : (((pI s 71 58 v7)).1 71 58).toInt = v7.toInt := congrArg Int32.toInt ((pI_self _ _ _ _))
      refine r_callVv C oCl12 rfl miX12_puts mlX12_367 (ct9_X12_puts l E ((pI s 71 58 v7)) j1 (by omega)) (by decide) rfl rfl rfl (Nat.le_of_ble_eq_true rfl) (oDec_at oX12_joins 117 rfl) (fun u65 pu65 fu65 => ?_)
      try dsimp only at pu65
      try simp only [lk63, lk64] at pu65
      obtain ⟨pu65_0, pu65_1⟩ := pu65
      exact r_vret C (oDec_at oX12_joins 118 rfl) ⟨rfl, ⟨by omega, ⟨j1, hv9, by (have h9 := pu65_1; rw [pI_self, show v7.toNatClampNeg = m8 by (have h8 := n_nat v7; omega)] at h9; exact h9)⟩⟩⟩
  by_cases cd8_7 : a1.toInt = 8
  · refine r_tableIn C 271 (oDec_at oX12_joins 23 rfl) (by omega) (by omega) (by rw [cd8_7]; rfl) (by decide) ?_
    refine r_aload_n C (j := 0) (oDec_at oX12_joins 107 rfl) rfl rfl ?_
    refine r_lload C (j := 3) (oDec_at oX12_joins 108 rfl) rfl ?_
    refine r_lload_n C (j := 2) (oDec_at oX12_joins 109 rfl) rfl rfl ?_
    obtain ⟨v67, ev67⟩ : ∃ z : Int64, z = v6 + v4 := ⟨_, rfl⟩
    have hv67 := n_ladd ev67 (by omega) (by omega)
    refine r_ladd C v67 (oDec_at oX12_joins 110 rfl) ev67 ?_
    refine r_lconst C (oDec_at oX12_joins 111 rfl) (v := j0) (by rw [qj0]; rfl) ?_
    obtain ⟨v68, ev68⟩ : ∃ z : Int32, z = lg_cmp v67 j0 := ⟨_, rfl⟩
    have hv68 := n_lcmp ev68
    refine r_lcmp C v68 (oDec_at oX12_joins 112 rfl) ev68 ?_
    refine r_pc C 278 rfl ?_
    refine r_if_le C 285 (oDec_at oX12_joins 113 rfl) (by decide) (fun cd69 => ?_) (fun cd69 => ?_)
    · skip
      refine r_lconst C (oDec_at oX12_joins 116 rfl) (v := j0) (by rw [qj0]; rfl) ?_
      have hv9 : j0.toInt = oqJn a1.toInt a9 b9 := by rw [show a1.toInt = 15 by omega]; first | (rw [oqJn_e15, if_pos (by omega)]; omega) | (rw [oqJn_e15, if_neg (by omega)]; omega)
      have lk70 : (((pI s 71 58 v7)).1 71 58).toInt = v7.toInt := congrArg Int32.toInt ((pI_self _ _ _ _))
      have lk71 : (((pI s 71 58 v7)).1 71 58).toInt = v7.toInt := congrArg Int32.toInt ((pI_self _ _ _ _))
      refine r_callVv C oCl12 rfl miX12_puts mlX12_367 (ct9_X12_puts l E ((pI s 71 58 v7)) j0 (by omega)) (by decide) rfl rfl rfl (Nat.le_of_ble_eq_true rfl) (oDec_at oX12_joins 117 rfl) (fun u72 pu72 fu72 => ?_)
      try dsimp only at pu72
      try simp only [lk70, lk71] at pu72
      obtain ⟨pu72_0, pu72_1⟩ := pu72
      exact r_vret C (oDec_at oX12_joins 118 rfl) ⟨rfl, ⟨by omega, ⟨j0, hv9, by (have h9 := pu72_1; rw [pI_self, show v7.toNatClampNeg = m8 by (have h8 := n_nat v7; omega)] at h9; exact h9)⟩⟩⟩
    · skip
      refine r_lconst C (oDec_at oX12_joins 114 rfl) (v := j1) (by rw [qj1]; rfl) ?_
      refine r_goto C (tgt := 286) (oDec_at oX12_joins 115 rfl) (by decide) ?_
      have hv9 : j1.toInt = oqJn a1.toInt a9 b9 := by rw [show a1.toInt = 15 by omega]; first | (rw [oqJn_e15, if_pos (by omega)]; omega) | (rw [oqJn_e15, if_neg (by omega)]; omega)
      have lk74 : (((pI s 71 58 v7)).1 71 58).toInt = v7.toInt := congrArg Int32.toInt ((pI_self _ _ _ _))
      have lk75 : (((pI s 71 58 v7)).1 71 58).toInt = v7.toInt := congrArg Int32.toInt ((pI_self _ _ _ _))
      refine r_callVv C oCl12 rfl miX12_puts mlX12_367 (ct9_X12_puts l E ((pI s 71 58 v7)) j1 (by omega)) (by decide) rfl rfl rfl (Nat.le_of_ble_eq_true rfl) (oDec_at oX12_joins 117 rfl) (fun u76 pu76 fu76 => ?_)
      try dsimp only at pu76
      try simp only [lk74, lk75] at pu76
      obtain ⟨pu76_0, pu76_1⟩ := pu76
      exact r_vret C (oDec_at oX12_joins 118 rfl) ⟨rfl, ⟨by omega, ⟨j1, hv9, by (have h9 := pu76_1; rw [pI_self, show v7.toNatClampNeg = m8 by (have h8 := n_nat v7; omega)] at h9; exact h9)⟩⟩⟩
  by_cases cd8_8 : a1.toInt = 9
  · refine r_tableIn C 271 (oDec_at oX12_joins 23 rfl) (by omega) (by omega) (by rw [cd8_8]; rfl) (by decide) ?_
    refine r_aload_n C (j := 0) (oDec_at oX12_joins 107 rfl) rfl rfl ?_
    refine r_lload C (j := 3) (oDec_at oX12_joins 108 rfl) rfl ?_
    refine r_lload_n C (j := 2) (oDec_at oX12_joins 109 rfl) rfl rfl ?_
    obtain ⟨v78, ev78⟩ : ∃ z : Int64, z = v6 + v4 := ⟨_, rfl⟩
    have hv78 := n_ladd ev78 (by omega) (by omega)
    refine r_ladd C v78 (oDec_at oX12_joins 110 rfl) ev78 ?_
    refine r_lconst C (oDec_at oX12_joins 111 rfl) (v := j0) (by rw [qj0]; rfl) ?_
    obtain ⟨v79, ev79⟩ : ∃ z : Int32, z = lg_cmp v78 j0 := ⟨_, rfl⟩
    have hv79 := n_lcmp ev79
    refine r_lcmp C v79 (oDec_at oX12_joins 112 rfl) ev79 ?_
    refine r_pc C 278 rfl ?_
    refine r_if_le C 285 (oDec_at oX12_joins 113 rfl) (by decide) (fun cd80 => ?_) (fun cd80 => ?_)
    · skip
      refine r_lconst C (oDec_at oX12_joins 116 rfl) (v := j0) (by rw [qj0]; rfl) ?_
      have hv9 : j0.toInt = oqJn a1.toInt a9 b9 := by rw [show a1.toInt = 15 by omega]; first | (rw [oqJn_e15, if_pos (by omega)]; omega) | (rw [oqJn_e15, if_neg (by omega)]; omega)
      have lk81 : (((pI s 71 58 v7)).1 71 58).toInt = v7.toInt := congrArg Int32.toInt ((pI_self _ _ _ _))
      have lk82 : (((pI s 71 58 v7)).1 71 58).toInt = v7.toInt := congrArg Int32.toInt ((pI_self _ _ _ _))
      refine r_callVv C oCl12 rfl miX12_puts mlX12_367 (ct9_X12_puts l E ((pI s 71 58 v7)) j0 (by omega)) (by decide) rfl rfl rfl (Nat.le_of_ble_eq_true rfl) (oDec_at oX12_joins 117 rfl) (fun u83 pu83 fu83 => ?_)
      try dsimp only at pu83
      try simp only [lk81, lk82] at pu83
      obtain ⟨pu83_0, pu83_1⟩ := pu83
      exact r_vret C (oDec_at oX12_joins 118 rfl) ⟨rfl, ⟨by omega, ⟨j0, hv9, by (have h9 := pu83_1; rw [pI_self, show v7.toNatClampNeg = m8 by (have h8 := n_nat v7; omega)] at h9; exact h9)⟩⟩⟩
    · skip
      refine r_lconst C (oDec_at oX12_joins 114 rfl) (v := j1) (by rw [qj1]; rfl) ?_
      refine r_goto C (tgt := 286) (oDec_at oX12_joins 115 rfl) (by decide) ?_
      have hv9 : j1.toInt = oqJn a1.toInt a9 b9 := by rw [show a1.toInt = 15 by omega]; first | (rw [oqJn_e15, if_pos (by omega)]; omega) | (rw [oqJn_e15, if_neg (by omega)]; omega)
      have lk85 : (((pI s 71 58 v7)).1 71 58).toInt = v7.toInt := congrArg Int32.toInt ((pI_self _ _ _ _))
      have lk86 : (((pI s 71 58 v7)).1 71 58).toInt = v7.toInt := congrArg Int32.toInt ((pI_self _ _ _ _))
      refine r_callVv C oCl12 rfl miX12_puts mlX12_367 (ct9_X12_puts l E ((pI s 71 58 v7)) j1 (by omega)) (by decide) rfl rfl rfl (Nat.le_of_ble_eq_true rfl) (oDec_at oX12_joins 117 rfl) (fun u87 pu87 fu87 => ?_)
      try dsimp only at pu87
      try simp only [lk85, lk86] at pu87
      obtain ⟨pu87_0, pu87_1⟩ := pu87
      exact r_vret C (oDec_at oX12_joins 118 rfl) ⟨rfl, ⟨by omega, ⟨j1, hv9, by (have h9 := pu87_1; rw [pI_self, show v7.toNatClampNeg = m8 by (have h8 := n_nat v7; omega)] at h9; exact h9)⟩⟩⟩
  by_cases cd8_9 : a1.toInt = 10
  · refine r_tableIn C 271 (oDec_at oX12_joins 23 rfl) (by omega) (by omega) (by rw [cd8_9]; rfl) (by decide) ?_
    refine r_aload_n C (j := 0) (oDec_at oX12_joins 107 rfl) rfl rfl ?_
    refine r_lload C (j := 3) (oDec_at oX12_joins 108 rfl) rfl ?_
    refine r_lload_n C (j := 2) (oDec_at oX12_joins 109 rfl) rfl rfl ?_
    obtain ⟨v89, ev89⟩ : ∃ z : Int64, z = v6 + v4 := ⟨_, rfl⟩
    have hv89 := n_ladd ev89 (by omega) (by omega)
    refine r_ladd C v89 (oDec_at oX12_joins 110 rfl) ev89 ?_
    refine r_lconst C (oDec_at oX12_joins 111 rfl) (v := j0) (by rw [qj0]; rfl) ?_
    obtain ⟨v90, ev90⟩ : ∃ z : Int32, z = lg_cmp v89 j0 := ⟨_, rfl⟩
    have hv90 := n_lcmp ev90
    refine r_lcmp C v90 (oDec_at oX12_joins 112 rfl) ev90 ?_
    refine r_pc C 278 rfl ?_
    refine r_if_le C 285 (oDec_at oX12_joins 113 rfl) (by decide) (fun cd91 => ?_) (fun cd91 => ?_)
    · skip
      refine r_lconst C (oDec_at oX12_joins 116 rfl) (v := j0) (by rw [qj0]; rfl) ?_
      have hv9 : j0.toInt = oqJn a1.toInt a9 b9 := by rw [show a1.toInt = 15 by omega]; first | (rw [oqJn_e15, if_pos (by omega)]; omega) | (rw [oqJn_e15, if_neg (by omega)]; omega)
      have lk92 : (((pI s 71 58 v7)).1 71 58).toInt = v7.toInt := congrArg Int32.toInt ((pI_self _ _ _ _))
      have lk93 : (((pI s 71 58 v7)).1 71 58).toInt = v7.toInt := congrArg Int32.toInt ((pI_self _ _ _ _))
      refine r_callVv C oCl12 rfl miX12_puts mlX12_367 (ct9_X12_puts l E ((pI s 71 58 v7)) j0 (by omega)) (by decide) rfl rfl rfl (Nat.le_of_ble_eq_true rfl) (oDec_at oX12_joins 117 rfl) (fun u94 pu94 fu94 => ?_)
      try dsimp only at pu94
      try simp only [lk92, lk93] at pu94
      obtain ⟨pu94_0, pu94_1⟩ := pu94
      exact r_vret C (oDec_at oX12_joins 118 rfl) ⟨rfl, ⟨by omega, ⟨j0, hv9, by (have h9 := pu94_1; rw [pI_self, show v7.toNatClampNeg = m8 by (have h8 := n_nat v7; omega)] at h9; exact h9)⟩⟩⟩
    · skip
      refine r_lconst C (oDec_at oX12_joins 114 rfl) (v := j1) (by rw [qj1]; rfl) ?_
      refine r_goto C (tgt := 286) (oDec_at oX12_joins 115 rfl) (by decide) ?_
      have hv9 : j1.toInt = oqJn a1.toInt a9 b9 := by rw [show a1.toInt = 15 by omega]; first | (rw [oqJn_e15, if_pos (by omega)]; omega) | (rw [oqJn_e15, if_neg (by omega)]; omega)
      have lk96 : (((pI s 71 58 v7)).1 71 58).toInt = v7.toInt := congrArg Int32.toInt ((pI_self _ _ _ _))
      have lk97 : (((pI s 71 58 v7)).1 71 58).toInt = v7.toInt := congrArg Int32.toInt ((pI_self _ _ _ _))
      refine r_callVv C oCl12 rfl miX12_puts mlX12_367 (ct9_X12_puts l E ((pI s 71 58 v7)) j1 (by omega)) (by decide) rfl rfl rfl (Nat.le_of_ble_eq_true rfl) (oDec_at oX12_joins 117 rfl) (fun u98 pu98 fu98 => ?_)
      try dsimp only at pu98
      try simp only [lk96, lk97] at pu98
      obtain ⟨pu98_0, pu98_1⟩ := pu98
      exact r_vret C (oDec_at oX12_joins 118 rfl) ⟨rfl, ⟨by omega, ⟨j1, hv9, by (have h9 := pu98_1; rw [pI_self, show v7.toNatClampNeg = m8 by (have h8 := n_nat v7; omega)] at h9; exact h9)⟩⟩⟩
  by_cases cd8_10 : a1.toInt = 11
  · refine r_tableIn C 203 (oDec_at oX12_joins 23 rfl) (by omega) (by omega) (by rw [cd8_10]; rfl) (by decide) ?_
    refine r_aload_n C (j := 0) (oDec_at oX12_joins 71 rfl) rfl rfl ?_
    refine r_lload C (j := 3) (oDec_at oX12_joins 72 rfl) rfl ?_
    refine r_lload_n C (j := 2) (oDec_at oX12_joins 73 rfl) rfl rfl ?_
    obtain ⟨v100, ev100⟩ : ∃ z : Int32, z = lg_cmp v6 v4 := ⟨_, rfl⟩
    have hv100 := n_lcmp ev100
    refine r_lcmp C v100 (oDec_at oX12_joins 74 rfl) ev100 ?_
    refine r_if_ge C 215 (oDec_at oX12_joins 75 rfl) (by decide) (fun cd101 => ?_) (fun cd101 => ?_)
    · skip
      refine r_lconst C (oDec_at oX12_joins 78 rfl) (v := j0) (by rw [qj0]; rfl) ?_
      have hv9 : j0.toInt = oqJn a1.toInt a9 b9 := by rw [show a1.toInt = 11 by omega]; first | (rw [oqJn_11, if_pos (by omega)]; omega) | (rw [oqJn_11, if_neg (by omega)]; omega)
      have lk102 : (((pI s 71 58 v7)).1 71 58).toInt = v7.toInt := congrArg Int32.toInt ((pI_self _ _ _ _))
      have lk103 : (((pI s 71 58 v7)).1 71 58).toInt = v7.toInt := congrArg Int32.toInt ((pI_self _ _ _ _))
      refine r_callVv C oCl12 rfl miX12_puts mlX12_367 (ct9_X12_puts l E ((pI s 71 58 v7)) j0 (by omega)) (by decide) rfl rfl rfl (Nat.le_of_ble_eq_true rfl) (oDec_at oX12_joins 79 rfl) (fun u104 pu104 fu104 => ?_)
      try dsimp only at pu104
      try simp only [lk102, lk103] at pu104
      obtain ⟨pu104_0, pu104_1⟩ := pu104
      refine r_goto C (tgt := 289) (oDec_at oX12_joins 80 rfl) (by decide) ?_
      exact r_vret C (oDec_at oX12_joins 118 rfl) ⟨rfl, ⟨by omega, ⟨j0, hv9, by (have h9 := pu104_1; rw [pI_self, show v7.toNatClampNeg = m8 by (have h8 := n_nat v7; omega)] at h9; exact h9)⟩⟩⟩
    · skip
      refine r_lconst C (oDec_at oX12_joins 76 rfl) (v := j1) (by rw [qj1]; rfl) ?_
      refine r_goto C (tgt := 216) (oDec_at oX12_joins 77 rfl) (by decide) ?_
      have hv9 : j1.toInt = oqJn a1.toInt a9 b9 := by rw [show a1.toInt = 11 by omega]; first | (rw [oqJn_11, if_pos (by omega)]; omega) | (rw [oqJn_11, if_neg (by omega)]; omega)
      have lk106 : (((pI s 71 58 v7)).1 71 58).toInt = v7.toInt := congrArg Int32.toInt ((pI_self _ _ _ _))
      have lk107 : (((pI s 71 58 v7)).1 71 58).toInt = v7.toInt := congrArg Int32.toInt ((pI_self _ _ _ _))
      refine r_callVv C oCl12 rfl miX12_puts mlX12_367 (ct9_X12_puts l E ((pI s 71 58 v7)) j1 (by omega)) (by decide) rfl rfl rfl (Nat.le_of_ble_eq_true rfl) (oDec_at oX12_joins 79 rfl) (fun u108 pu108 fu108 => ?_)
      try dsimp only at pu108
      try simp only [lk106, lk107] at pu108
      obtain ⟨pu108_0, pu108_1⟩ := pu108
      refine r_goto C (tgt := 289) (oDec_at oX12_joins 80 rfl) (by decide) ?_
      exact r_vret C (oDec_at oX12_joins 118 rfl) ⟨rfl, ⟨by omega, ⟨j1, hv9, by (have h9 := pu108_1; rw [pI_self, show v7.toNatClampNeg = m8 by (have h8 := n_nat v7; omega)] at h9; exact h9)⟩⟩⟩
  by_cases cd8_11 : a1.toInt = 12
  · refine r_tableIn C 222 (oDec_at oX12_joins 23 rfl) (by omega) (by omega) (by rw [cd8_11]; rfl) (by decide) ?_
    refine r_aload_n C (j := 0) (oDec_at oX12_joins 81 rfl) rfl rfl ?_
    refine r_lload C (j := 3) (oDec_at oX12_joins 82 rfl) rfl ?_
    refine r_lload_n C (j := 2) (oDec_at oX12_joins 83 rfl) rfl rfl ?_
    obtain ⟨v110, ev110⟩ : ∃ z : Int32, z = lg_cmp v6 v4 := ⟨_, rfl⟩
    have hv110 := n_lcmp ev110
    refine r_lcmp C v110 (oDec_at oX12_joins 84 rfl) ev110 ?_
    refine r_if_le C 234 (oDec_at oX12_joins 85 rfl) (by decide) (fun cd111 => ?_) (fun cd111 => ?_)
    · skip
      refine r_lconst C (oDec_at oX12_joins 88 rfl) (v := j0) (by rw [qj0]; rfl) ?_
      have hv9 : j0.toInt = oqJn a1.toInt a9 b9 := by rw [show a1.toInt = 12 by omega]; first | (rw [oqJn_12, if_pos (by omega)]; omega) | (rw [oqJn_12, if_neg (by omega)]; omega)
      have lk112 : (((pI s 71 58 v7)).1 71 58).toInt = v7.toInt := congrArg Int32.toInt ((pI_self _ _ _ _))
      have lk113 : (((pI s 71 58 v7)).1 71 58).toInt = v7.toInt := congrArg Int32.toInt ((pI_self _ _ _ _))
      refine r_callVv C oCl12 rfl miX12_puts mlX12_367 (ct9_X12_puts l E ((pI s 71 58 v7)) j0 (by omega)) (by decide) rfl rfl rfl (Nat.le_of_ble_eq_true rfl) (oDec_at oX12_joins 89 rfl) (fun u114 pu114 fu114 => ?_)
      try dsimp only at pu114
      try simp only [lk112, lk113] at pu114
      obtain ⟨pu114_0, pu114_1⟩ := pu114
      refine r_goto C (tgt := 289) (oDec_at oX12_joins 90 rfl) (by decide) ?_
      exact r_vret C (oDec_at oX12_joins 118 rfl) ⟨rfl, ⟨by omega, ⟨j0, hv9, by (have h9 := pu114_1; rw [pI_self, show v7.toNatClampNeg = m8 by (have h8 := n_nat v7; omega)] at h9; exact h9)⟩⟩⟩
    · skip
      refine r_lconst C (oDec_at oX12_joins 86 rfl) (v := j1) (by rw [qj1]; rfl) ?_
      refine r_goto C (tgt := 235) (oDec_at oX12_joins 87 rfl) (by decide) ?_
      have hv9 : j1.toInt = oqJn a1.toInt a9 b9 := by rw [show a1.toInt = 12 by omega]; first | (rw [oqJn_12, if_pos (by omega)]; omega) | (rw [oqJn_12, if_neg (by omega)]; omega)
      have lk116 : (((pI s 71 58 v7)).1 71 58).toInt = v7.toInt := congrArg Int32.toInt ((pI_self _ _ _ _))
      have lk117 : (((pI s 71 58 v7)).1 71 58).toInt = v7.toInt := congrArg Int32.toInt ((pI_self _ _ _ _))
      refine r_callVv C oCl12 rfl miX12_puts mlX12_367 (ct9_X12_puts l E ((pI s 71 58 v7)) j1 (by omega)) (by decide) rfl rfl rfl (Nat.le_of_ble_eq_true rfl) (oDec_at oX12_joins 89 rfl) (fun u118 pu118 fu118 => ?_)
      try dsimp only at pu118
      try simp only [lk116, lk117] at pu118
      obtain ⟨pu118_0, pu118_1⟩ := pu118
      refine r_goto C (tgt := 289) (oDec_at oX12_joins 90 rfl) (by decide) ?_
      exact r_vret C (oDec_at oX12_joins 118 rfl) ⟨rfl, ⟨by omega, ⟨j1, hv9, by (have h9 := pu118_1; rw [pI_self, show v7.toNatClampNeg = m8 by (have h8 := n_nat v7; omega)] at h9; exact h9)⟩⟩⟩
  by_cases cd8_12 : a1.toInt = 13
  · refine r_tableIn C 241 (oDec_at oX12_joins 23 rfl) (by omega) (by omega) (by rw [cd8_12]; rfl) (by decide) ?_
    refine r_aload_n C (j := 0) (oDec_at oX12_joins 91 rfl) rfl rfl ?_
    refine r_lload C (j := 3) (oDec_at oX12_joins 92 rfl) rfl ?_
    refine r_lload_n C (j := 2) (oDec_at oX12_joins 93 rfl) rfl rfl ?_
    obtain ⟨v120, ev120⟩ : ∃ z : Int32, z = lg_cmp v6 v4 := ⟨_, rfl⟩
    have hv120 := n_lcmp ev120
    refine r_lcmp C v120 (oDec_at oX12_joins 94 rfl) ev120 ?_
    refine r_if_ne C 253 (oDec_at oX12_joins 95 rfl) (by decide) (fun cd121 => ?_) (fun cd121 => ?_)
    · skip
      refine r_lconst C (oDec_at oX12_joins 98 rfl) (v := j0) (by rw [qj0]; rfl) ?_
      have hv9 : j0.toInt = oqJn a1.toInt a9 b9 := by rw [show a1.toInt = 13 by omega]; first | (rw [oqJn_13, if_pos (by omega)]; omega) | (rw [oqJn_13, if_neg (by omega)]; omega)
      have lk122 : (((pI s 71 58 v7)).1 71 58).toInt = v7.toInt := congrArg Int32.toInt ((pI_self _ _ _ _))
      have lk123 : (((pI s 71 58 v7)).1 71 58).toInt = v7.toInt := congrArg Int32.toInt ((pI_self _ _ _ _))
      refine r_callVv C oCl12 rfl miX12_puts mlX12_367 (ct9_X12_puts l E ((pI s 71 58 v7)) j0 (by omega)) (by decide) rfl rfl rfl (Nat.le_of_ble_eq_true rfl) (oDec_at oX12_joins 99 rfl) (fun u124 pu124 fu124 => ?_)
      try dsimp only at pu124
      try simp only [lk122, lk123] at pu124
      obtain ⟨pu124_0, pu124_1⟩ := pu124
      refine r_goto C (tgt := 289) (oDec_at oX12_joins 100 rfl) (by decide) ?_
      exact r_vret C (oDec_at oX12_joins 118 rfl) ⟨rfl, ⟨by omega, ⟨j0, hv9, by (have h9 := pu124_1; rw [pI_self, show v7.toNatClampNeg = m8 by (have h8 := n_nat v7; omega)] at h9; exact h9)⟩⟩⟩
    · skip
      refine r_lconst C (oDec_at oX12_joins 96 rfl) (v := j1) (by rw [qj1]; rfl) ?_
      refine r_goto C (tgt := 254) (oDec_at oX12_joins 97 rfl) (by decide) ?_
      have hv9 : j1.toInt = oqJn a1.toInt a9 b9 := by rw [show a1.toInt = 13 by omega]; first | (rw [oqJn_13, if_pos (by omega)]; omega) | (rw [oqJn_13, if_neg (by omega)]; omega)
      have lk126 : (((pI s 71 58 v7)).1 71 58).toInt = v7.toInt := congrArg Int32.toInt ((pI_self _ _ _ _))
      have lk127 : (((pI s 71 58 v7)).1 71 58).toInt = v7.toInt := congrArg Int32.toInt ((pI_self _ _ _ _))
      refine r_callVv C oCl12 rfl miX12_puts mlX12_367 (ct9_X12_puts l E ((pI s 71 58 v7)) j1 (by omega)) (by decide) rfl rfl rfl (Nat.le_of_ble_eq_true rfl) (oDec_at oX12_joins 99 rfl) (fun u128 pu128 fu128 => ?_)
      try dsimp only at pu128
      try simp only [lk126, lk127] at pu128
      obtain ⟨pu128_0, pu128_1⟩ := pu128
      refine r_goto C (tgt := 289) (oDec_at oX12_joins 100 rfl) (by decide) ?_
      exact r_vret C (oDec_at oX12_joins 118 rfl) ⟨rfl, ⟨by omega, ⟨j1, hv9, by (have h9 := pu128_1; rw [pI_self, show v7.toNatClampNeg = m8 by (have h8 := n_nat v7; omega)] at h9; exact h9)⟩⟩⟩
  by_cases cd8_13 : a1.toInt = 14
  · refine r_tableIn C 260 (oDec_at oX12_joins 23 rfl) (by omega) (by omega) (by rw [cd8_13]; rfl) (by decide) ?_
    refine r_aload_n C (j := 0) (oDec_at oX12_joins 101 rfl) rfl rfl ?_
    refine r_lload C (j := 3) (oDec_at oX12_joins 102 rfl) rfl ?_
    refine r_lload_n C (j := 2) (oDec_at oX12_joins 103 rfl) rfl rfl ?_
    obtain ⟨v130, ev130⟩ : ∃ z : Int64, z = v6 * v4 := ⟨_, rfl⟩
    have hm9 := oqMul_b (a := v6.toInt) (b := v4.toInt) (by omega) (by omega); have hv130 := n_lmulB ev130 (by omega) (by omega); rw [ha8, hb8] at hv130
    refine r_lmul C v130 (oDec_at oX12_joins 104 rfl) ev130 ?_
    have hv9 : v130.toInt = oqJn a1.toInt a9 b9 := by rw [show a1.toInt = 14 by omega]; rw [oqJn_e14]; exact hv130
    have lk131 : (((pI s 71 58 v7)).1 71 58).toInt = v7.toInt := congrArg Int32.toInt ((pI_self _ _ _ _))
    have lk132 : (((pI s 71 58 v7)).1 71 58).toInt = v7.toInt := congrArg Int32.toInt ((pI_self _ _ _ _))
    refine r_callVv C oCl12 rfl miX12_puts mlX12_367 (ct9_X12_puts l E ((pI s 71 58 v7)) v130 (by omega)) (by decide) rfl rfl rfl (Nat.le_of_ble_eq_true rfl) (oDec_at oX12_joins 105 rfl) (fun u133 pu133 fu133 => ?_)
    try dsimp only at pu133
    try simp only [lk131, lk132] at pu133
    obtain ⟨pu133_0, pu133_1⟩ := pu133
    refine r_goto C (tgt := 289) (oDec_at oX12_joins 106 rfl) (by decide) ?_
    exact r_vret C (oDec_at oX12_joins 118 rfl) ⟨rfl, ⟨by omega, ⟨v130, hv9, by (have h9 := pu133_1; rw [pI_self, show v7.toNatClampNeg = m8 by (have h8 := n_nat v7; omega)] at h9; exact h9)⟩⟩⟩
  refine r_tableOut C 271 (oDec_at oX12_joins 23 rfl) (by omega) (by decide) ?_
  refine r_aload_n C (j := 0) (oDec_at oX12_joins 107 rfl) rfl rfl ?_
  refine r_pc C 272 rfl ?_
  refine r_lload C (j := 3) (oDec_at oX12_joins 108 rfl) rfl ?_
  refine r_lload_n C (j := 2) (oDec_at oX12_joins 109 rfl) rfl rfl ?_
  obtain ⟨v135, ev135⟩ : ∃ z : Int64, z = v6 + v4 := ⟨_, rfl⟩
  have hv135 := n_ladd ev135 (by omega) (by omega)
  refine r_ladd C v135 (oDec_at oX12_joins 110 rfl) ev135 ?_
  refine r_lconst C (oDec_at oX12_joins 111 rfl) (v := j0) (by rw [qj0]; rfl) ?_
  obtain ⟨v136, ev136⟩ : ∃ z : Int32, z = lg_cmp v135 j0 := ⟨_, rfl⟩
  have hv136 := n_lcmp ev136
  refine r_lcmp C v136 (oDec_at oX12_joins 112 rfl) ev136 ?_
  refine r_if_le C 285 (oDec_at oX12_joins 113 rfl) (by decide) (fun cd137 => ?_) (fun cd137 => ?_)
  · skip
    refine r_lconst C (oDec_at oX12_joins 116 rfl) (v := j0) (by rw [qj0]; rfl) ?_
    have hv9 : j0.toInt = oqJn a1.toInt a9 b9 := by rw [show a1.toInt = 15 by omega]; first | (rw [oqJn_e15, if_pos (by omega)]; omega) | (rw [oqJn_e15, if_neg (by omega)]; omega)
    have lk138 : (((pI s 71 58 v7)).1 71 58).toInt = v7.toInt := congrArg Int32.toInt ((pI_self _ _ _ _))
    have lk139 : (((pI s 71 58 v7)).1 71 58).toInt = v7.toInt := congrArg Int32.toInt ((pI_self _ _ _ _))
    refine r_callVv C oCl12 rfl miX12_puts mlX12_367 (ct9_X12_puts l E ((pI s 71 58 v7)) j0 (by omega)) (by decide) rfl rfl rfl (Nat.le_of_ble_eq_true rfl) (oDec_at oX12_joins 117 rfl) (fun u140 pu140 fu140 => ?_)
    try dsimp only at pu140
    try simp only [lk138, lk139] at pu140
    obtain ⟨pu140_0, pu140_1⟩ := pu140
    exact r_vret C (oDec_at oX12_joins 118 rfl) ⟨rfl, ⟨by omega, ⟨j0, hv9, by (have h9 := pu140_1; rw [pI_self, show v7.toNatClampNeg = m8 by (have h8 := n_nat v7; omega)] at h9; exact h9)⟩⟩⟩
  · skip
    refine r_lconst C (oDec_at oX12_joins 114 rfl) (v := j1) (by rw [qj1]; rfl) ?_
    refine r_goto C (tgt := 286) (oDec_at oX12_joins 115 rfl) (by decide) ?_
    have hv9 : j1.toInt = oqJn a1.toInt a9 b9 := by rw [show a1.toInt = 15 by omega]; first | (rw [oqJn_e15, if_pos (by omega)]; omega) | (rw [oqJn_e15, if_neg (by omega)]; omega)
    have lk142 : (((pI s 71 58 v7)).1 71 58).toInt = v7.toInt := congrArg Int32.toInt ((pI_self _ _ _ _))
    have lk143 : (((pI s 71 58 v7)).1 71 58).toInt = v7.toInt := congrArg Int32.toInt ((pI_self _ _ _ _))
    refine r_callVv C oCl12 rfl miX12_puts mlX12_367 (ct9_X12_puts l E ((pI s 71 58 v7)) j1 (by omega)) (by decide) rfl rfl rfl (Nat.le_of_ble_eq_true rfl) (oDec_at oX12_joins 117 rfl) (fun u144 pu144 fu144 => ?_)
    try dsimp only at pu144
    try simp only [lk142, lk143] at pu144
    obtain ⟨pu144_0, pu144_1⟩ := pu144
    exact r_vret C (oDec_at oX12_joins 118 rfl) ⟨rfl, ⟨by omega, ⟨j1, hv9, by (have h9 := pu144_1; rw [pI_self, show v7.toNatClampNeg = m8 by (have h8 := n_nat v7; omega)] at h9; exact h9)⟩⟩⟩
