set_option maxHeartbeats 4000000 in
set_option maxRecDepth 100000 in
theorem ct10_X4_ownerOf (l : Launch) (E : oE) (s : oS) (c0 : Nat) (hk0 : okd c0 = 4) (a1 : Int32) (nn : Int) (hp0 : owMA c0 nn s) : oMet l 1 yX4_ownerOf cX4_ownerOf 2 (some .int) [] E s [.ref (oad E c0), .int a1] (oPi (fun r u => (r.toInt = owOn nn a1.toInt))) := by
  refine oMet.of (lv := [(0, .ref (oad E c0)), (1, .int a1)]) (by decide +kernel) (Nat.le_of_ble_eq_true rfl) rfl (fun J C hT => ?_)
  have C : oC l 1 cX4_ownerOf RX4 2 (some .int) [] E s (oPi (fun r u => (r.toInt = owOn nn a1.toInt))) J := C
  obtain ⟨km1, qkm1⟩ : ∃ z : Int32, z = (-1) := ⟨_, rfl⟩
  have ekm1 : km1.toInt = (-1) := by rw [qkm1]; rfl
  obtain ⟨k96, qk96⟩ : ∃ z : Int32, z = 96 := ⟨_, rfl⟩
  have ek96 : k96.toInt = 96 := by rw [qk96]; rfl
  have rg1 := n_rng a1
  refine r_iload_n C (j := 1) (oDec_at oX4_ownerOf 0 rfl) rfl rfl ?_
  refine r_if_lt C 27 (oDec_at oX4_ownerOf 1 rfl) (by decide) (fun cd1 => ?_) (fun cd1 => ?_)
  · skip
    refine r_iconst C (oDec_at oX4_ownerOf 14 rfl) (v := km1) (by rw [qkm1]; rfl) ?_
    exact r_iret C (oDec_at oX4_ownerOf 15 rfl) ⟨_, rfl, by rw [owOn_m hp0]; first | (rw [if_neg (by omega)] <;> omega) | (rw [if_pos (by omega)]; exact (congrArg Int32.toInt ekm1).symm)⟩
  · skip
    refine r_iload_n C (j := 1) (oDec_at oX4_ownerOf 2 rfl) rfl rfl ?_
    refine r_aload_n C (j := 0) (oDec_at oX4_ownerOf 3 rfl) rfl rfl ?_
    obtain ⟨v2, ev2⟩ : ∃ z : Int32, (s).1 c0 5 = z := ⟨_, rfl⟩
    have gv2 : (s.1 c0 5).toInt = v2.toInt := congrArg Int32.toInt (ev2)
    refine r_geti (k := 5) (lo := 0) (hi := 96) C v2 oCl4 hk0 (by decide) flX4_31 rfl rfl (ev2) rfl rfl (oDec_at oX4_ownerOf 4 rfl) (fun b3 b3h => ?_)
    refine r_icmp_ge C 27 (oDec_at oX4_ownerOf 5 rfl) (by decide) (fun cd4 => ?_) (fun cd4 => ?_)
    · skip
      refine r_iconst C (oDec_at oX4_ownerOf 14 rfl) (v := km1) (by rw [qkm1]; rfl) ?_
      exact r_iret C (oDec_at oX4_ownerOf 15 rfl) ⟨_, rfl, by rw [owOn_m hp0]; first | (rw [if_neg (by omega)] <;> omega) | (rw [if_pos (by omega)]; exact (congrArg Int32.toInt ekm1).symm)⟩
    · skip
      refine r_iload_n C (j := 1) (oDec_at oX4_ownerOf 6 rfl) rfl rfl ?_
      refine r_bipush C (oDec_at oX4_ownerOf 7 rfl) (v := k96) (by rw [qk96]; rfl) ?_
      refine r_icmp_ge C 27 (oDec_at oX4_ownerOf 8 rfl) (by decide) (fun cd5 => ?_) (fun cd5 => ?_)
      · skip
        refine r_iconst C (oDec_at oX4_ownerOf 14 rfl) (v := km1) (by rw [qkm1]; rfl) ?_
        exact r_iret C (oDec_at oX4_ownerOf 15 rfl) ⟨_, rfl, by rw [owOn_m hp0]; first | (rw [if_neg (by omega)] <;> omega) | (rw [if_pos (by omega)]; exact (congrArg Int32.toInt ekm1).symm)⟩
      · skip
        refine r_aload_n C (j := 0) (oDec_at oX4_ownerOf 9 rfl) rfl rfl ?_
        refine r_getR (k := 3) (b := 4) C oCl4 hk0 (by decide) flX4_21 rfl rfl rfl (oDec_at oX4_ownerOf 10 rfl) ?_
        refine r_iload_n C (j := 1) (oDec_at oX4_ownerOf 11 rfl) rfl rfl ?_
        obtain ⟨v7, ev7⟩ : ∃ z : Int32, (s).1 (c0 + 4) a1.toNatClampNeg = z := ⟨_, rfl⟩
        have gv7 : (s.1 (c0 + 4) a1.toNatClampNeg).toInt = v7.toInt := congrArg Int32.toInt (ev7)
        have rv7 := n_rng v7
        refine r_iald (n := 96) (lo := (-2147483648)) (hi := 2147483647) C v7 (kr4_4 hk0) (by decide) rfl rfl ⟨by omega, by omega⟩ (by decide) ev7 rfl rfl (oDec_at oX4_ownerOf 12 rfl) (fun _ _ => ?_)
        refine r_goto C (tgt := 28) (oDec_at oX4_ownerOf 13 rfl) (by decide) ?_
        exact r_iret C (oDec_at oX4_ownerOf 15 rfl) ⟨_, rfl, by rw [owOn_m hp0]; first | (rw [if_neg (by omega)] <;> omega) | (rw [if_pos (by omega)]; exact (congrArg Int32.toInt ev7).symm)⟩
set_option maxHeartbeats 4000000 in
set_option maxRecDepth 100000 in
theorem ct10_X9_turned (l : Launch) (E : oE) (s : oS) (c0 : Nat) (hk0 : okd c0 = 9) (c1 : Nat) (hk1 : okd c1 = 4) (a2 : Int32) (nn : Int) (c : Int) (hp0 : owMA c1 nn s) (hp1 : owVc c0 c s) (hp2 : 0 ≤ a2.toInt ∧ a2.toInt ≤ 4000) (hp3 : 0 ≤ nn ∧ nn ≤ 6) : oMet l 2 yX9_turned cX9_turned 3 (some .int) [] E s [.ref (oad E c0), .ref (oad E c1), .int a2] (oPi (fun r u => (r.toInt = owOn nn (owBx c nn a2.toInt)))) := by
  refine oMet.of (lv := [(0, .ref (oad E c0)), (1, .ref (oad E c1)), (2, .int a2)]) (by decide +kernel) (Nat.le_of_ble_eq_true rfl) rfl (fun J C hT => ?_)
  have C : oC l 2 cX9_turned RX9 3 (some .int) [] E s (oPi (fun r u => (r.toInt = owOn nn (owBx c nn a2.toInt)))) J := C
  obtain ⟨k1, qk1⟩ : ∃ z : Int32, z = 1 := ⟨_, rfl⟩
  have ek1 : k1.toInt = 1 := by rw [qk1]; rfl
  have rg2 := n_rng a2
  obtain ⟨-, hV0, hV1, hV2, hV3, hV4⟩ := id hp1
  have hA3 := hp0.2.2.1
  refine r_aload_n C (j := 1) (oDec_at oX9_turned 0 rfl) rfl rfl ?_
  refine r_aload_n C (j := 0) (oDec_at oX9_turned 1 rfl) rfl rfl ?_
  obtain ⟨v1, ev1⟩ : ∃ z : Int32, (s).1 c0 3 = z := ⟨_, rfl⟩
  have gv1 : (s.1 c0 3).toInt = v1.toInt := congrArg Int32.toInt (ev1)
  have rv1 := n_rng v1
  refine r_geti (k := 3) (lo := (-2147483648)) (hi := 2147483647) C v1 oCl9 hk0 (by decide) flX9_21 rfl rfl (ev1) rfl rfl (oDec_at oX9_turned 2 rfl) (fun _ _ => ?_)
  refine r_iconst C (oDec_at oX9_turned 3 rfl) (v := k1) (by rw [qk1]; rfl) ?_
  refine r_icmp_ne C 20 (oDec_at oX9_turned 4 rfl) (by decide) (fun cd2 => ?_) (fun cd2 => ?_)
  · skip
    refine r_iload_n C (j := 2) (oDec_at oX9_turned 12 rfl) rfl rfl ?_
    -- !! !owMA c0 nn is not known here
    refine r_callVi C oCl4 hk1 miX4_ownerOf mlX9_40 (ct10_X4_ownerOf l E (s) c1 hk1 a2 (nn) hp0) (by decide) rfl rfl rfl (Nat.le_of_ble_eq_true rfl) (oDec_at oX9_turned 13 rfl) (fun r4 u3 pu3 fu3 => ?_)
    try dsimp only at pu3
    have hxu3 := oFr_nil fu3; subst hxu3
    have rr4 := n_rng r4
    exact r_iret C (oDec_at oX9_turned 14 rfl) ⟨_, rfl, by refine Eq.trans pu3 ?_; congr 1; unfold owBx; first | (rw [if_pos (by omega)] <;> omega) | (rw [if_neg (by omega)])⟩
  · skip
    refine r_aload_n C (j := 1) (oDec_at oX9_turned 5 rfl) rfl rfl ?_
    obtain ⟨v5, ev5⟩ : ∃ z : Int32, (s).1 c1 5 = z := ⟨_, rfl⟩
    have gv5 : (s.1 c1 5).toInt = v5.toInt := congrArg Int32.toInt (ev5)
    refine r_getiN (k := 5) (lo := 0) (hi := 96) C v5 oCl4 hk1 (by decide) flX9_27 rfl rfl (ev5) rfl rfl (oDec_at oX9_turned 6 rfl) (fun b6 b6h => ?_)
    refine r_iconst C (oDec_at oX9_turned 7 rfl) (v := k1) (by rw [qk1]; rfl) ?_
    obtain ⟨v7, ev7⟩ : ∃ z : Int32, z = v5 - k1 := ⟨_, rfl⟩
    have hv7 : v7.toInt = v5.toInt - k1.toInt := n_sub ev7 (by omega) (by omega)
    refine r_isub C v7 (oDec_at oX9_turned 8 rfl) ev7 ?_
    refine r_iload_n C (j := 2) (oDec_at oX9_turned 9 rfl) rfl rfl ?_
    obtain ⟨v8, ev8⟩ : ∃ z : Int32, z = v7 - a2 := ⟨_, rfl⟩
    have hv8 : v8.toInt = v7.toInt - a2.toInt := n_sub ev8 (by omega) (by omega)
    refine r_isub C v8 (oDec_at oX9_turned 10 rfl) ev8 ?_
    refine r_pc C 17 rfl ?_
    refine r_goto C (tgt := 21) (oDec_at oX9_turned 11 rfl) (by decide) ?_
    -- !! !owMA c0 nn is not known here
    refine r_callVi C oCl4 hk1 miX4_ownerOf mlX9_40 (ct10_X4_ownerOf l E (s) c1 hk1 v8 (nn) hp0) (by decide) rfl rfl rfl (Nat.le_of_ble_eq_true rfl) (oDec_at oX9_turned 13 rfl) (fun r10 u9 pu9 fu9 => ?_)
    try dsimp only at pu9
    have hxu9 := oFr_nil fu9; subst hxu9
    have rr10 := n_rng r10
    exact r_iret C (oDec_at oX9_turned 14 rfl) ⟨_, rfl, by refine Eq.trans pu9 ?_; congr 1; unfold owBx; first | (rw [if_pos (by omega)] <;> omega) | (rw [if_neg (by omega)])⟩
set_option maxHeartbeats 4000000 in
set_option maxRecDepth 100000 in
theorem ct10_X9_number (l : Launch) (E : oE) (s : oS) (c0 : Nat) (hk0 : okd c0 = 9) (c1 : Nat) (hk1 : okd c1 = 4) (a2 : Int32) (nn : Int) (c : Int) (hp0 : owMA c1 nn s) (hp1 : owVc c0 c s) (hp2 : -1 ≤ a2.toInt ∧ a2.toInt ≤ 1000) (hp3 : 0 ≤ nn ∧ nn ≤ 6) (hp4 : 0 ≤ c ∧ c ≤ 4499) : oMet l 3 yX9_number cX9_number 4 (some .int) [] E s [.ref (oad E c0), .ref (oad E c1), .int a2] (oPi (fun r u => (r.toInt = owNb c nn a2.toInt))) := by
  refine oMet.of (lv := [(0, .ref (oad E c0)), (1, .ref (oad E c1)), (2, .int a2)]) (by decide +kernel) (Nat.le_of_ble_eq_true rfl) rfl (fun J C hT => ?_)
  have C : oC l 3 cX9_number RX9 4 (some .int) [] E s (oPi (fun r u => (r.toInt = owNb c nn a2.toInt))) J := C
  obtain ⟨km1, qkm1⟩ : ∃ z : Int32, z = (-1) := ⟨_, rfl⟩
  have ekm1 : km1.toInt = (-1) := by rw [qkm1]; rfl
  obtain ⟨k1, qk1⟩ : ∃ z : Int32, z = 1 := ⟨_, rfl⟩
  have ek1 : k1.toInt = 1 := by rw [qk1]; rfl
  obtain ⟨k2, qk2⟩ : ∃ z : Int32, z = 2 := ⟨_, rfl⟩
  have ek2 : k2.toInt = 2 := by rw [qk2]; rfl
  have rg2 := n_rng a2
  obtain ⟨-, hV0, hV1, hV2, hV3, hV4⟩ := id hp1
  refine r_iload_n C (j := 2) (oDec_at oX9_number 0 rfl) rfl rfl ?_
  refine r_aload_n C (j := 0) (oDec_at oX9_number 1 rfl) rfl rfl ?_
  obtain ⟨v1, ev1⟩ : ∃ z : Int32, (s).1 c0 0 = z := ⟨_, rfl⟩
  have gv1 : (s.1 c0 0).toInt = v1.toInt := congrArg Int32.toInt (ev1)
  have rv1 := n_rng v1
  refine r_geti (k := 0) (lo := (-2147483648)) (hi := 2147483647) C v1 oCl9 hk0 (by decide) flX9_9 rfl rfl (ev1) rfl rfl (oDec_at oX9_number 2 rfl) (fun _ _ => ?_)
  obtain ⟨v2, ev2⟩ : ∃ z : Int32, z = a2 - v1 := ⟨_, rfl⟩
  have hv2 : v2.toInt = a2.toInt - v1.toInt := n_sub ev2 (by omega) (by omega)
  refine r_isub C v2 (oDec_at oX9_number 3 rfl) ev2 ?_
  refine r_istore_n C (lv' := [(0, .ref (oad E c0)), (1, .ref (oad E c1)), (2, .int a2), (3, .int v2)]) [1, 2, 3, 0] (oDec_at oX9_number 4 rfl) rfl (by decide) rfl ?_
  refine r_iload_n C (j := 3) (oDec_at oX9_number 5 rfl) rfl rfl ?_
  refine r_pc C 8 rfl ?_
  refine r_if_ge C 13 (oDec_at oX9_number 6 rfl) (by decide) (fun cd3 => ?_) (fun cd3 => ?_)
  · skip
    refine r_aload_n C (j := 0) (oDec_at oX9_number 9 rfl) rfl rfl ?_
    obtain ⟨v4, ev4⟩ : ∃ z : Int32, (s).1 c0 4 = z := ⟨_, rfl⟩
    have gv4 : (s.1 c0 4).toInt = v4.toInt := congrArg Int32.toInt (ev4)
    have rv4 := n_rng v4
    refine r_geti (k := 4) (lo := (-2147483648)) (hi := 2147483647) C v4 oCl9 hk0 (by decide) flX9_24 rfl rfl (ev4) rfl rfl (oDec_at oX9_number 10 rfl) (fun _ _ => ?_)
    refine r_iconst C (oDec_at oX9_number 11 rfl) (v := k1) (by rw [qk1]; rfl) ?_
    refine r_icmp_ne C 30 (oDec_at oX9_number 12 rfl) (by decide) (fun cd5 => ?_) (fun cd5 => ?_)
    · skip
      refine r_aload_n C (j := 0) (oDec_at oX9_number 20 rfl) rfl rfl ?_
      refine r_aload_n C (j := 1) (oDec_at oX9_number 21 rfl) rfl rfl ?_
      refine r_aload_n C (j := 0) (oDec_at oX9_number 22 rfl) rfl rfl ?_
      refine r_geti (k := 4) (lo := (-2147483648)) (hi := 2147483647) C v4 oCl9 hk0 (by decide) flX9_24 rfl rfl (ev4) rfl rfl (oDec_at oX9_number 23 rfl) (fun _ _ => ?_)
      refine r_iconst C (oDec_at oX9_number 24 rfl) (v := k2) (by rw [qk2]; rfl) ?_
      refine r_icmp_ne C 46 (oDec_at oX9_number 25 rfl) (by decide) (fun cd6 => ?_) (fun cd6 => ?_)
      · skip
        refine r_iload_n C (j := 3) (oDec_at oX9_number 30 rfl) rfl rfl ?_
        refine r_callVi C oCl9 hk0 miX9_turned mlX9_36 (ct10_X9_turned l E (s) c0 hk0 c1 hk1 v2 (nn) (c) hp0 hp1 (by omega) (by omega)) (by decide) rfl rfl rfl (Nat.le_of_ble_eq_true rfl) (oDec_at oX9_number 31 rfl) (fun r8 u7 pu7 fu7 => ?_)
        try dsimp only at pu7
        have hxu7 := oFr_nil fu7; subst hxu7
        have rr8 := n_rng r8
        exact r_iret C (oDec_at oX9_number 32 rfl) ⟨_, rfl, by unfold owNb; first | (rw [if_pos (by omega)] <;> omega) | (rw [if_neg (by omega), show owIx c (a2.toInt - c / 180) = v2.toInt by unfold owIx; first | (rw [if_pos (by omega)] <;> omega) | (rw [if_neg (by omega), if_pos (by omega)]; omega) | (rw [if_neg (by omega), if_neg (by omega)]; omega)]; exact pu7)⟩
      · skip
        refine r_iconst C (oDec_at oX9_number 26 rfl) (v := k2) (by rw [qk2]; rfl) ?_
        refine r_iload_n C (j := 3) (oDec_at oX9_number 27 rfl) rfl rfl ?_
        obtain ⟨v9, ev9⟩ : ∃ z : Int32, z = k2 * v2 := ⟨_, rfl⟩
        have hv9 : v9.toInt = 2 * v2.toInt := n_mulK' 2 ev9 ek2 (by omega) (by omega)
        refine r_imul C v9 (oDec_at oX9_number 28 rfl) ev9 ?_
        refine r_goto C (tgt := 47) (oDec_at oX9_number 29 rfl) (by decide) ?_
        refine r_callVi C oCl9 hk0 miX9_turned mlX9_36 (ct10_X9_turned l E (s) c0 hk0 c1 hk1 v9 (nn) (c) hp0 hp1 (by omega) (by omega)) (by decide) rfl rfl rfl (Nat.le_of_ble_eq_true rfl) (oDec_at oX9_number 31 rfl) (fun r11 u10 pu10 fu10 => ?_)
        try dsimp only at pu10
        have hxu10 := oFr_nil fu10; subst hxu10
        have rr11 := n_rng r11
        exact r_iret C (oDec_at oX9_number 32 rfl) ⟨_, rfl, by unfold owNb; first | (rw [if_pos (by omega)] <;> omega) | (rw [if_neg (by omega), show owIx c (a2.toInt - c / 180) = v9.toInt by unfold owIx; first | (rw [if_pos (by omega)] <;> omega) | (rw [if_neg (by omega), if_pos (by omega)]; omega) | (rw [if_neg (by omega), if_neg (by omega)]; omega)]; exact pu10)⟩
    · skip
      refine r_aload_n C (j := 0) (oDec_at oX9_number 13 rfl) rfl rfl ?_
      refine r_aload_n C (j := 1) (oDec_at oX9_number 14 rfl) rfl rfl ?_
      refine r_iload_n C (j := 3) (oDec_at oX9_number 15 rfl) rfl rfl ?_
      refine r_iconst C (oDec_at oX9_number 16 rfl) (v := k2) (by rw [qk2]; rfl) ?_
      obtain ⟨v12, ev12⟩ : ∃ z : Int32, z = v2 / k2 := ⟨_, rfl⟩
      have hv12 := n_divP (k := 2) ev12 ek2 (by decide)
      have rv12 := n_rng v12
      refine r_idiv C v12 (oDec_at oX9_number 17 rfl) (n_ne0 (by omega)) ev12 ?_
      refine r_callVi C oCl9 hk0 miX9_turned mlX9_36 (ct10_X9_turned l E (s) c0 hk0 c1 hk1 v12 (nn) (c) hp0 hp1 (by omega) (by omega)) (by decide) rfl rfl rfl (Nat.le_of_ble_eq_true rfl) (oDec_at oX9_number 18 rfl) (fun r14 u13 pu13 fu13 => ?_)
      try dsimp only at pu13
      have hxu13 := oFr_nil fu13; subst hxu13
      have rr14 := n_rng r14
      refine r_pc C 29 rfl ?_
      exact r_iret C (oDec_at oX9_number 19 rfl) ⟨_, rfl, by unfold owNb; first | (rw [if_pos (by omega)] <;> omega) | (rw [if_neg (by omega), show owIx c (a2.toInt - c / 180) = v12.toInt by unfold owIx; first | (rw [if_pos (by omega)] <;> omega) | (rw [if_neg (by omega), if_pos (by omega)]; omega) | (rw [if_neg (by omega), if_neg (by omega)]; omega)]; exact pu13)⟩
  · skip
    refine r_iconst C (oDec_at oX9_number 7 rfl) (v := km1) (by rw [qkm1]; rfl) ?_
    exact r_iret C (oDec_at oX9_number 8 rfl) ⟨_, rfl, by unfold owNb; first | (rw [if_pos (by omega)] <;> omega) | (rw [if_neg (by omega), show owIx c (a2.toInt - c / 180) = (by assumption).toInt by unfold owIx; first | (rw [if_pos (by omega)] <;> omega) | (rw [if_neg (by omega), if_pos (by omega)]; omega) | (rw [if_neg (by omega), if_neg (by omega)]; omega)]; exact p)⟩
set_option maxHeartbeats 4000000 in
set_option maxRecDepth 100000 in
theorem ct10_X9_stretch (l : Launch) (E : oE) (s : oS) (c0 : Nat) (hk0 : okd c0 = 9) (a1 : Int32) (c : Int) (hp0 : owVc c0 c s) (hp1 : 0 ≤ a1.toInt ∧ a1.toInt ≤ 1000) : oMet l 1 yX9_stretch cX9_stretch 2 (some .int) [] E s [.ref (oad E c0), .int a1] (oPi (fun r u => (r.toInt = if c % 3 = 1 then 2 * a1.toInt else if c % 3 = 2 then (a1.toInt + 1) / 2 else a1.toInt))) := by
  refine oMet.of (lv := [(0, .ref (oad E c0)), (1, .int a1)]) (by decide +kernel) (Nat.le_of_ble_eq_true rfl) rfl (fun J C hT => ?_)
  have C : oC l 1 cX9_stretch RX9 2 (some .int) [] E s (oPi (fun r u => (r.toInt = if c % 3 = 1 then 2 * a1.toInt else if c % 3 = 2 then (a1.toInt + 1) / 2 else a1.toInt))) J := C
  obtain ⟨k1, qk1⟩ : ∃ z : Int32, z = 1 := ⟨_, rfl⟩
  have ek1 : k1.toInt = 1 := by rw [qk1]; rfl
  obtain ⟨k2, qk2⟩ : ∃ z : Int32, z = 2 := ⟨_, rfl⟩
  have ek2 : k2.toInt = 2 := by rw [qk2]; rfl
  have rg1 := n_rng a1
  obtain ⟨-, hV0, hV1, hV2, hV3, hV4⟩ := id hp0
  refine r_aload_n C (j := 0) (oDec_at oX9_stretch 0 rfl) rfl rfl ?_
  obtain ⟨v1, ev1⟩ : ∃ z : Int32, (s).1 c0 4 = z := ⟨_, rfl⟩
  have gv1 : (s.1 c0 4).toInt = v1.toInt := congrArg Int32.toInt (ev1)
  have rv1 := n_rng v1
  refine r_geti (k := 4) (lo := (-2147483648)) (hi := 2147483647) C v1 oCl9 hk0 (by decide) flX9_24 rfl rfl (ev1) rfl rfl (oDec_at oX9_stretch 1 rfl) (fun _ _ => ?_)
  refine r_iconst C (oDec_at oX9_stretch 2 rfl) (v := k1) (by rw [qk1]; rfl) ?_
  refine r_icmp_ne C 12 (oDec_at oX9_stretch 3 rfl) (by decide) (fun cd2 => ?_) (fun cd2 => ?_)
  · skip
    refine r_aload_n C (j := 0) (oDec_at oX9_stretch 8 rfl) rfl rfl ?_
    refine r_geti (k := 4) (lo := (-2147483648)) (hi := 2147483647) C v1 oCl9 hk0 (by decide) flX9_24 rfl rfl (ev1) rfl rfl (oDec_at oX9_stretch 9 rfl) (fun _ _ => ?_)
    refine r_iconst C (oDec_at oX9_stretch 10 rfl) (v := k2) (by rw [qk2]; rfl) ?_
    refine r_icmp_ne C 28 (oDec_at oX9_stretch 11 rfl) (by decide) (fun cd3 => ?_) (fun cd3 => ?_)
    · skip
      refine r_iload_n C (j := 1) (oDec_at oX9_stretch 18 rfl) rfl rfl ?_
      exact r_iret C (oDec_at oX9_stretch 19 rfl) ⟨_, rfl, by first | (rw [if_pos (by omega)] <;> omega) | (rw [if_neg (by omega), if_pos (by omega)]; omega) | (rw [if_neg (by omega), if_neg (by omega)])⟩
    · skip
      refine r_iload_n C (j := 1) (oDec_at oX9_stretch 12 rfl) rfl rfl ?_
      refine r_iconst C (oDec_at oX9_stretch 13 rfl) (v := k1) (by rw [qk1]; rfl) ?_
      obtain ⟨v4, ev4⟩ : ∃ z : Int32, z = a1 + k1 := ⟨_, rfl⟩
      have hv4 : v4.toInt = a1.toInt + k1.toInt := n_add ev4 (by omega) (by omega)
      refine r_iadd C v4 (oDec_at oX9_stretch 14 rfl) ev4 ?_
      refine r_iconst C (oDec_at oX9_stretch 15 rfl) (v := k2) (by rw [qk2]; rfl) ?_
      obtain ⟨v5, ev5⟩ : ∃ z : Int32, z = v4 / k2 := ⟨_, rfl⟩
      have hv5 := n_divP (k := 2) ev5 ek2 (by decide)
      have rv5 := n_rng v5
      refine r_idiv C v5 (oDec_at oX9_stretch 16 rfl) (n_ne0 (by omega)) ev5 ?_
      refine r_goto C (tgt := 29) (oDec_at oX9_stretch 17 rfl) (by decide) ?_
      exact r_iret C (oDec_at oX9_stretch 19 rfl) ⟨_, rfl, by first | (rw [if_pos (by omega)] <;> omega) | (rw [if_neg (by omega), if_pos (by omega)]; omega) | (rw [if_neg (by omega), if_neg (by omega)])⟩
  · skip
    refine r_iconst C (oDec_at oX9_stretch 4 rfl) (v := k2) (by rw [qk2]; rfl) ?_
    refine r_iload_n C (j := 1) (oDec_at oX9_stretch 5 rfl) rfl rfl ?_
    obtain ⟨v6, ev6⟩ : ∃ z : Int32, z = k2 * a1 := ⟨_, rfl⟩
    have hv6 : v6.toInt = 2 * a1.toInt := n_mulK' 2 ev6 ek2 (by omega) (by omega)
    refine r_imul C v6 (oDec_at oX9_stretch 6 rfl) ev6 ?_
    exact r_iret C (oDec_at oX9_stretch 7 rfl) ⟨_, rfl, by first | (rw [if_pos (by omega)] <;> omega) | (rw [if_neg (by omega), if_pos (by omega)]; omega) | (rw [if_neg (by omega), if_neg (by omega)])⟩
set_option maxHeartbeats 4000000 in
set_option maxRecDepth 100000 in
theorem ct10_X9_stop (l : Launch) (E : oE) (s : oS) (c0 : Nat) (hk0 : okd c0 = 9) (c1 : Nat) (hk1 : okd c1 = 4) (nn : Int) (c : Int) (hp0 : owMA c1 nn s) (hp1 : owVc c0 c s) (hp2 : 0 ≤ nn ∧ nn ≤ 6) (hp3 : 0 ≤ c ∧ c ≤ 4499) : oMet l 2 yX9_stop cX9_stop 2 (some .int) [] E s [.ref (oad E c0), .ref (oad E c1)] (oPi (fun r u => (r.toInt = owSp c nn) ∧ (0 ≤ r.toInt ∧ r.toInt ≤ 60))) := by
  refine oMet.of (lv := [(0, .ref (oad E c0)), (1, .ref (oad E c1))]) (by decide +kernel) (Nat.le_of_ble_eq_true rfl) rfl (fun J C hT => ?_)
  have C : oC l 2 cX9_stop RX9 2 (some .int) [] E s (oPi (fun r u => (r.toInt = owSp c nn) ∧ (0 ≤ r.toInt ∧ r.toInt ≤ 60))) J := C
  obtain ⟨-, hV0, hV1, hV2, hV3, hV4⟩ := id hp1
  have hA3 := hp0.2.2.1
  refine r_aload_n C (j := 0) (oDec_at oX9_stop 0 rfl) rfl rfl ?_
  obtain ⟨v1, ev1⟩ : ∃ z : Int32, (s).1 c0 0 = z := ⟨_, rfl⟩
  have gv1 : (s.1 c0 0).toInt = v1.toInt := congrArg Int32.toInt (ev1)
  have rv1 := n_rng v1
  refine r_geti (k := 0) (lo := (-2147483648)) (hi := 2147483647) C v1 oCl9 hk0 (by decide) flX9_9 rfl rfl (ev1) rfl rfl (oDec_at oX9_stop 1 rfl) (fun _ _ => ?_)
  refine r_aload_n C (j := 0) (oDec_at oX9_stop 2 rfl) rfl rfl ?_
  refine r_aload_n C (j := 1) (oDec_at oX9_stop 3 rfl) rfl rfl ?_
  obtain ⟨v2, ev2⟩ : ∃ z : Int32, (s).1 c1 5 = z := ⟨_, rfl⟩
  have gv2 : (s.1 c1 5).toInt = v2.toInt := congrArg Int32.toInt (ev2)
  refine r_getiN (k := 5) (lo := 0) (hi := 96) C v2 oCl4 hk1 (by decide) flX9_27 rfl rfl (ev2) rfl rfl (oDec_at oX9_stop 4 rfl) (fun b3 b3h => ?_)
  refine r_callVi C oCl9 hk0 miX9_stretch mlX9_32 (ct10_X9_stretch l E (s) c0 hk0 v2 (c) hp1 (by omega)) (by decide) rfl rfl rfl (Nat.le_of_ble_eq_true rfl) (oDec_at oX9_stop 5 rfl) (fun r5 u4 pu4 fu4 => ?_)
  try dsimp only at pu4
  have hxu4 := oFr_nil fu4; subst hxu4
  have rr5 := n_rng r5
  refine r_pc C 12 rfl ?_
  have hst9 := pu4
  have hst8 := owSt_r hst9 (by omega)
  obtain ⟨v6, ev6⟩ : ∃ z : Int32, z = v1 + r5 := ⟨_, rfl⟩
  have hv6 : v6.toInt = v1.toInt + r5.toInt := n_add ev6 (by omega) (by omega)
  refine r_iadd C v6 (oDec_at oX9_stop 6 rfl) ev6 ?_
  have hst7 := owSp_st (c := c) (n := nn) hv6 (by omega) (by omega) hst9 hp2 hp3
  exact r_iret C (oDec_at oX9_stop 7 rfl) ⟨_, rfl, ⟨hst7.1, by omega⟩⟩
