set_option maxHeartbeats 4000000 in
set_option maxRecDepth 100000 in
theorem ct_X0_letterOf (l : Launch) (E : oE) (s : oS) (c0 : Nat) (hk0 : okd c0 = 0) (a1 : Int32) (a2 : Int32)  : oMet l 1 yX0_letterOf cX0_letterOf 3 (some .int) [] E s [.ref (oad E c0), .int a1, .int a2] (oPi (fun r u => True)) := by
  refine oMet.of (lv := [(0, .ref (oad E c0)), (1, .int a1), (2, .int a2)]) (by decide +kernel) (Nat.le_of_ble_eq_true rfl) rfl (fun J C hT => ?_)
  have C : oC l 1 cX0_letterOf RX0 3 (some .int) [] E s (oPi (fun r u => True)) J := C
  obtain ⟨km1, qkm1⟩ : ∃ z : Int32, z = (-1) := ⟨_, rfl⟩
  have ekm1 : km1.toInt = (-1) := by rw [qkm1]; rfl
  obtain ⟨k6, qk6⟩ : ∃ z : Int32, z = 6 := ⟨_, rfl⟩
  have ek6 : k6.toInt = 6 := by rw [qk6]; rfl
  have rg1 := n_rng a1
  have rg2 := n_rng a2
  refine r_iload_n C (j := 1) (oDec_at oX0_letterOf 0 rfl) rfl rfl ?_
  refine r_if_lt C 28 (oDec_at oX0_letterOf 1 rfl) (by decide) (fun cd1 => ?_) (fun cd1 => ?_)
  · skip
    refine r_iconst C (oDec_at oX0_letterOf 14 rfl) (v := km1) (by rw [qkm1]; rfl) ?_
    exact r_iret C (oDec_at oX0_letterOf 15 rfl) ⟨_, rfl, trivial⟩
  · skip
    refine r_iload_n C (j := 1) (oDec_at oX0_letterOf 2 rfl) rfl rfl ?_
    refine r_aload_n C (j := 0) (oDec_at oX0_letterOf 3 rfl) rfl rfl ?_
    obtain ⟨v2, ev2⟩ : ∃ z : Int32, (s).1 c0 8 = z := ⟨_, rfl⟩
    have gv2 : (s.1 c0 8).toInt = v2.toInt := congrArg Int32.toInt (ev2)
    refine r_geti (k := 8) (lo := 0) (hi := 6) C v2 oCl0 hk0 (by decide) flX0_39 rfl rfl (ev2) rfl rfl (oDec_at oX0_letterOf 4 rfl) (fun b3 b3h => ?_)
    refine r_icmp_ge C 28 (oDec_at oX0_letterOf 5 rfl) (by decide) (fun cd4 => ?_) (fun cd4 => ?_)
    · skip
      refine r_iconst C (oDec_at oX0_letterOf 14 rfl) (v := km1) (by rw [qkm1]; rfl) ?_
      exact r_iret C (oDec_at oX0_letterOf 15 rfl) ⟨_, rfl, trivial⟩
    · skip
      refine r_iload_n C (j := 1) (oDec_at oX0_letterOf 6 rfl) rfl rfl ?_
      refine r_bipush C (oDec_at oX0_letterOf 7 rfl) (v := k6) (by rw [qk6]; rfl) ?_
      refine r_icmp_ge C 28 (oDec_at oX0_letterOf 8 rfl) (by decide) (fun cd5 => ?_) (fun cd5 => ?_)
      · skip
        refine r_iconst C (oDec_at oX0_letterOf 14 rfl) (v := km1) (by rw [qkm1]; rfl) ?_
        exact r_iret C (oDec_at oX0_letterOf 15 rfl) ⟨_, rfl, trivial⟩
      · skip
        refine r_iload_n C (j := 2) (oDec_at oX0_letterOf 9 rfl) rfl rfl ?_
        refine r_if_lt C 28 (oDec_at oX0_letterOf 10 rfl) (by decide) (fun cd6 => ?_) (fun cd6 => ?_)
        · skip
          refine r_iconst C (oDec_at oX0_letterOf 14 rfl) (v := km1) (by rw [qkm1]; rfl) ?_
          exact r_iret C (oDec_at oX0_letterOf 15 rfl) ⟨_, rfl, trivial⟩
        · skip
          refine r_iload_n C (j := 2) (oDec_at oX0_letterOf 11 rfl) rfl rfl ?_
          refine r_bipush C (oDec_at oX0_letterOf 12 rfl) (v := k6) (by rw [qk6]; rfl) ?_
          refine r_icmp_lt C 30 (oDec_at oX0_letterOf 13 rfl) (by decide) (fun cd7 => ?_) (fun cd7 => ?_)
          · skip
            refine r_aload_n C (j := 0) (oDec_at oX0_letterOf 16 rfl) rfl rfl ?_
            refine r_getR (k := 4) (b := 4) C oCl0 hk0 (by decide) flX0_23 rfl rfl rfl (oDec_at oX0_letterOf 17 rfl) ?_
            refine r_iload_n C (j := 1) (oDec_at oX0_letterOf 18 rfl) rfl rfl ?_
            refine r_bipush C (oDec_at oX0_letterOf 19 rfl) (v := k6) (by rw [qk6]; rfl) ?_
            obtain ⟨v8, ev8⟩ : ∃ z : Int32, z = a1 * k6 := ⟨_, rfl⟩
            have hv8 : v8.toInt = a1.toInt * 6 := n_mulK 6 ev8 ek6 (by omega) (by omega)
            refine r_imul C v8 (oDec_at oX0_letterOf 20 rfl) ev8 ?_
            refine r_iload_n C (j := 2) (oDec_at oX0_letterOf 21 rfl) rfl rfl ?_
            refine r_pc C 39 rfl ?_
            obtain ⟨v9, ev9⟩ : ∃ z : Int32, z = v8 + a2 := ⟨_, rfl⟩
            have hv9 : v9.toInt = v8.toInt + a2.toInt := n_add ev9 (by omega) (by omega)
            refine r_iadd C v9 (oDec_at oX0_letterOf 22 rfl) ev9 ?_
            obtain ⟨v10, ev10⟩ : ∃ z : Int32, (s).1 (c0 + 4) v9.toNatClampNeg = z := ⟨_, rfl⟩
            have rv10 := n_rng v10
            refine r_iald (n := 36) (lo := (-2147483648)) (hi := 2147483647) C v10 (kr0_4 hk0) (by decide) rfl rfl ⟨by omega, by omega⟩ (by decide) ev10 rfl rfl (oDec_at oX0_letterOf 23 rfl) (fun _ _ => ?_)
            exact r_iret C (oDec_at oX0_letterOf 24 rfl) ⟨_, rfl, trivial⟩
          · skip
            refine r_iconst C (oDec_at oX0_letterOf 14 rfl) (v := km1) (by rw [qkm1]; rfl) ?_
            exact r_iret C (oDec_at oX0_letterOf 15 rfl) ⟨_, rfl, trivial⟩
set_option maxHeartbeats 4000000 in
set_option maxRecDepth 100000 in
theorem ct_X0_factAt (l : Launch) (E : oE) (s : oS) (c0 q0 n0 : Nat) (hk0 : okd c0 = q0) (h13_0 : 13 ≤ q0) (h9_0 : q0 < 999) (ht0 : oat q0 = 0) (hn0 : oln q0 = n0) (a1 : Int32) (hp0 : n0 ≤ 10000) : oMet l 1 yX0_factAt cX0_factAt 2 (some .int) [] E s [.ref (oad E c0), .int a1] (oPi (fun r u => True)) := by
  refine oMet.of (lv := [(0, .ref (oad E c0)), (1, .int a1)]) (by decide +kernel) (Nat.le_of_ble_eq_true rfl) rfl (fun J C hT => ?_)
  have C : oC l 1 cX0_factAt RX0 2 (some .int) [] E s (oPi (fun r u => True)) J := C
  obtain ⟨k0, qk0⟩ : ∃ z : Int32, z = 0 := ⟨_, rfl⟩
  have ek0 : k0.toInt = 0 := by rw [qk0]; rfl
  have rg1 := n_rng a1
  refine r_iload_n C (j := 1) (oDec_at oX0_factAt 0 rfl) rfl rfl ?_
  refine r_if_lt C 16 (oDec_at oX0_factAt 1 rfl) (by decide) (fun cd1 => ?_) (fun cd1 => ?_)
  · skip
    refine r_iconst C (oDec_at oX0_factAt 10 rfl) (v := k0) (by rw [qk0]; rfl) ?_
    exact r_iret C (oDec_at oX0_factAt 11 rfl) ⟨_, rfl, trivial⟩
  · skip
    refine r_iload_n C (j := 1) (oDec_at oX0_factAt 2 rfl) rfl rfl ?_
    refine r_aload_n C (j := 0) (oDec_at oX0_factAt 3 rfl) rfl rfl ?_
    obtain ⟨v2, ev2⟩ : ∃ z : Int32, Int32.ofNat n0 = z := ⟨_, rfl⟩
    have hv2 : v2.toInt = (n0 : Int) := n_ofNat ev2 (by omega)
    refine r_alen0 (n := n0) C v2 hk0 h13_0 ht0 hn0 h9_0 ev2 (oDec_at oX0_factAt 4 rfl) ?_
    refine r_icmp_ge C 16 (oDec_at oX0_factAt 5 rfl) (by decide) (fun cd3 => ?_) (fun cd3 => ?_)
    · skip
      refine r_iconst C (oDec_at oX0_factAt 10 rfl) (v := k0) (by rw [qk0]; rfl) ?_
      exact r_iret C (oDec_at oX0_factAt 11 rfl) ⟨_, rfl, trivial⟩
    · skip
      refine r_aload_n C (j := 0) (oDec_at oX0_factAt 6 rfl) rfl rfl ?_
      refine r_iload_n C (j := 1) (oDec_at oX0_factAt 7 rfl) rfl rfl ?_
      obtain ⟨v4, ev4⟩ : ∃ z : Int32, (s).1 c0 a1.toNatClampNeg = z := ⟨_, rfl⟩
      have rv4 := n_rng v4
      refine r_iald (n := n0)  C v4 hk0 h13_0 ht0 hn0 ⟨by omega, by omega⟩ h9_0 ev4 rfl rfl (oDec_at oX0_factAt 8 rfl) (fun _ _ => ?_)
      have rv4 := n_rng v4
      refine r_goto C (tgt := 17) (oDec_at oX0_factAt 9 rfl) (by decide) ?_
      exact r_iret C (oDec_at oX0_factAt 11 rfl) ⟨_, rfl, trivial⟩
set_option maxHeartbeats 4000000 in
set_option maxRecDepth 100000 in
theorem ct_X0_limited (l : Launch) (E : oE) (s : oS) (a0 : Int64)  : oMet l 1 yX0_limited cX0_limited 2 (some .int) [] E s [.long a0] (oPi (fun r u => True)) := by
  refine oMet.of (lv := [(0, .long a0)]) (by decide +kernel) (Nat.le_of_ble_eq_true rfl) rfl (fun J C hT => ?_)
  have C : oC l 1 cX0_limited RX0 2 (some .int) [] E s (oPi (fun r u => True)) J := C
  obtain ⟨km1000000, qkm1000000⟩ : ∃ z : Int32, z = (-1000000) := ⟨_, rfl⟩
  have ekm1000000 : km1000000.toInt = (-1000000) := by rw [qkm1000000]; rfl
  obtain ⟨k1000000, qk1000000⟩ : ∃ z : Int32, z = 1000000 := ⟨_, rfl⟩
  have ek1000000 : k1000000.toInt = 1000000 := by rw [qk1000000]; rfl
  refine r_lload_n C (j := 0) (oDec_at oX0_limited 0 rfl) rfl rfl ?_
  refine r_ldc2 C klX0_66 (oDec_at oX0_limited 1 rfl) ?_
  obtain ⟨v1, ev1⟩ : ∃ z : Int32, z = lg_cmp a0 (1000000 : Int64) := ⟨_, rfl⟩
  have hv1 := n_lcmp ev1
  refine r_lcmp C v1 (oDec_at oX0_limited 2 rfl) ev1 ?_
  refine r_if_le C 11 (oDec_at oX0_limited 3 rfl) (by decide) (fun cd2 => ?_) (fun cd2 => ?_)
  · skip
    refine r_lload_n C (j := 0) (oDec_at oX0_limited 6 rfl) rfl rfl ?_
    refine r_ldc2 C klX0_69 (oDec_at oX0_limited 7 rfl) ?_
    obtain ⟨v3, ev3⟩ : ∃ z : Int32, z = lg_cmp a0 ((-1000000) : Int64) := ⟨_, rfl⟩
    have hv3 := n_lcmp ev3
    refine r_lcmp C v3 (oDec_at oX0_limited 8 rfl) ev3 ?_
    refine r_if_ge C 24 (oDec_at oX0_limited 9 rfl) (by decide) (fun cd4 => ?_) (fun cd4 => ?_)
    · skip
      refine r_lload_n C (j := 0) (oDec_at oX0_limited 12 rfl) rfl rfl ?_
      obtain ⟨v5, ev5⟩ : ∃ z : Int32, a0.toInt32 = z := ⟨_, rfl⟩
      have rv5 := n_rng v5
      refine r_l2i C v5 (oDec_at oX0_limited 13 rfl) ev5 ?_
      exact r_iret C (oDec_at oX0_limited 14 rfl) ⟨_, rfl, trivial⟩
    · skip
      refine r_ldc C (v := km1000000) (by rw [qkm1000000]; exact kcX0_71) (oDec_at oX0_limited 10 rfl) ?_
      refine r_goto C (tgt := 26) (oDec_at oX0_limited 11 rfl) (by decide) ?_
      exact r_iret C (oDec_at oX0_limited 14 rfl) ⟨_, rfl, trivial⟩
  · skip
    refine r_ldc C (v := k1000000) (by rw [qk1000000]; exact kcX0_68) (oDec_at oX0_limited 4 rfl) ?_
    exact r_iret C (oDec_at oX0_limited 5 rfl) ⟨_, rfl, trivial⟩
set_option maxHeartbeats 4000000 in
set_option maxRecDepth 100000 in
theorem ct_X0_join (l : Launch) (E : oE) (s : oS) (a0 : Int32) (a1 : Int32) (a2 : Int32)  : oMet l 2 yX0_join cX0_join 3 (some .int) [] E s [.int a0, .int a1, .int a2] (oPi (fun r u => True)) := by
  refine oMet.of (lv := [(0, .int a0), (1, .int a1), (2, .int a2)]) (by decide +kernel) (Nat.le_of_ble_eq_true rfl) rfl (fun J C hT => ?_)
  have C : oC l 2 cX0_join RX0 3 (some .int) [] E s (oPi (fun r u => True)) J := C
  obtain ⟨k0, qk0⟩ : ∃ z : Int32, z = 0 := ⟨_, rfl⟩
  have ek0 : k0.toInt = 0 := by rw [qk0]; rfl
  obtain ⟨k1, qk1⟩ : ∃ z : Int32, z = 1 := ⟨_, rfl⟩
  have ek1 : k1.toInt = 1 := by rw [qk1]; rfl
  have rg0 := n_rng a0
  have rg1 := n_rng a1
  have rg2 := n_rng a2
  refine r_iload_n C (j := 0) (oDec_at oX0_join 0 rfl) rfl rfl ?_
  by_cases cd1_0 : a0.toInt = 10021
  · refine r_tableIn C 56 (oDec_at oX0_join 1 rfl) (by omega) (by omega) (by rw [cd1_0]; rfl) (by decide) ?_
    refine r_iload_n C (j := 1) (oDec_at oX0_join 2 rfl) rfl rfl ?_
    refine r_iload_n C (j := 2) (oDec_at oX0_join 3 rfl) rfl rfl ?_
    obtain ⟨v2, ev2⟩ : ∃ z : Int32, z = a1 ||| a2 := ⟨_, rfl⟩
    have rv2 := n_rng v2
    refine r_ior C v2 (oDec_at oX0_join 4 rfl) ev2 ?_
    exact r_iret C (oDec_at oX0_join 5 rfl) ⟨_, rfl, trivial⟩
  by_cases cd1_1 : a0.toInt = 10022
  · refine r_tableIn C 60 (oDec_at oX0_join 1 rfl) (by omega) (by omega) (by rw [cd1_1]; rfl) (by decide) ?_
    refine r_iload_n C (j := 1) (oDec_at oX0_join 6 rfl) rfl rfl ?_
    refine r_iload_n C (j := 2) (oDec_at oX0_join 7 rfl) rfl rfl ?_
    obtain ⟨v3, ev3⟩ : ∃ z : Int32, z = a1 &&& a2 := ⟨_, rfl⟩
    have hv3 := n_and ev3
    have rv3 := n_rng v3
    refine r_iand C v3 (oDec_at oX0_join 8 rfl) ev3 ?_
    exact r_iret C (oDec_at oX0_join 9 rfl) ⟨_, rfl, trivial⟩
  by_cases cd1_2 : a0.toInt = 10023
  · refine r_tableIn C 64 (oDec_at oX0_join 1 rfl) (by omega) (by omega) (by rw [cd1_2]; rfl) (by decide) ?_
    refine r_iload_n C (j := 1) (oDec_at oX0_join 10 rfl) rfl rfl ?_
    refine r_iload_n C (j := 2) (oDec_at oX0_join 11 rfl) rfl rfl ?_
    refine r_icmp_ge C 73 (oDec_at oX0_join 12 rfl) (by decide) (fun cd4 => ?_) (fun cd4 => ?_)
    · skip
      refine r_iconst C (oDec_at oX0_join 15 rfl) (v := k0) (by rw [qk0]; rfl) ?_
      exact r_iret C (oDec_at oX0_join 16 rfl) ⟨_, rfl, trivial⟩
    · skip
      refine r_iconst C (oDec_at oX0_join 13 rfl) (v := k1) (by rw [qk1]; rfl) ?_
      refine r_goto C (tgt := 74) (oDec_at oX0_join 14 rfl) (by decide) ?_
      exact r_iret C (oDec_at oX0_join 16 rfl) ⟨_, rfl, trivial⟩
  by_cases cd1_3 : a0.toInt = 10024
  · refine r_tableIn C 75 (oDec_at oX0_join 1 rfl) (by omega) (by omega) (by rw [cd1_3]; rfl) (by decide) ?_
    refine r_iload_n C (j := 1) (oDec_at oX0_join 17 rfl) rfl rfl ?_
    refine r_iload_n C (j := 2) (oDec_at oX0_join 18 rfl) rfl rfl ?_
    refine r_icmp_le C 84 (oDec_at oX0_join 19 rfl) (by decide) (fun cd5 => ?_) (fun cd5 => ?_)
    · skip
      refine r_iconst C (oDec_at oX0_join 22 rfl) (v := k0) (by rw [qk0]; rfl) ?_
      exact r_iret C (oDec_at oX0_join 23 rfl) ⟨_, rfl, trivial⟩
    · skip
      refine r_iconst C (oDec_at oX0_join 20 rfl) (v := k1) (by rw [qk1]; rfl) ?_
      refine r_goto C (tgt := 85) (oDec_at oX0_join 21 rfl) (by decide) ?_
      exact r_iret C (oDec_at oX0_join 23 rfl) ⟨_, rfl, trivial⟩
  by_cases cd1_4 : a0.toInt = 10025
  · refine r_tableIn C 86 (oDec_at oX0_join 1 rfl) (by omega) (by omega) (by rw [cd1_4]; rfl) (by decide) ?_
    refine r_iload_n C (j := 1) (oDec_at oX0_join 24 rfl) rfl rfl ?_
    refine r_iload_n C (j := 2) (oDec_at oX0_join 25 rfl) rfl rfl ?_
    refine r_icmp_ne C 95 (oDec_at oX0_join 26 rfl) (by decide) (fun cd6 => ?_) (fun cd6 => ?_)
    · skip
      refine r_iconst C (oDec_at oX0_join 29 rfl) (v := k0) (by rw [qk0]; rfl) ?_
      exact r_iret C (oDec_at oX0_join 30 rfl) ⟨_, rfl, trivial⟩
    · skip
      refine r_iconst C (oDec_at oX0_join 27 rfl) (v := k1) (by rw [qk1]; rfl) ?_
      refine r_goto C (tgt := 96) (oDec_at oX0_join 28 rfl) (by decide) ?_
      exact r_iret C (oDec_at oX0_join 30 rfl) ⟨_, rfl, trivial⟩
  by_cases cd1_5 : a0.toInt = 10026
  · refine r_tableIn C 97 (oDec_at oX0_join 1 rfl) (by omega) (by omega) (by rw [cd1_5]; rfl) (by decide) ?_
    refine r_iload_n C (j := 1) (oDec_at oX0_join 31 rfl) rfl rfl ?_
    obtain ⟨v7, ev7⟩ : ∃ z : Int64, a1.toInt64 = z := ⟨_, rfl⟩
    have hv7 : v7.toInt = a1.toInt := n_i2l ev7
    refine r_i2l C v7 (oDec_at oX0_join 32 rfl) ev7 ?_
    refine r_iload_n C (j := 2) (oDec_at oX0_join 33 rfl) rfl rfl ?_
    obtain ⟨v8, ev8⟩ : ∃ z : Int64, a2.toInt64 = z := ⟨_, rfl⟩
    have hv8 : v8.toInt = a2.toInt := n_i2l ev8
    refine r_i2l C v8 (oDec_at oX0_join 34 rfl) ev8 ?_
    obtain ⟨v9, ev9⟩ : ∃ z : Int64, z = v7 + v8 := ⟨_, rfl⟩
    refine r_ladd C v9 (oDec_at oX0_join 35 rfl) ev9 ?_
    refine r_callSi C miX0_limited mlX0_50 (ct_X0_limited l E (s) v9 ) (by decide) rfl rfl rfl (Nat.le_of_ble_eq_true rfl) (oDec_at oX0_join 36 rfl) (fun r11 u10 pu10 fu10 => ?_)
    try dsimp only at pu10
    have rr11 := n_rng r11
    refine r_pc C 105 rfl ?_
    exact r_iret C (oDec_at oX0_join 37 rfl) ⟨_, rfl, trivial⟩
  by_cases cd1_6 : a0.toInt = 10027
  · refine r_tableIn C 106 (oDec_at oX0_join 1 rfl) (by omega) (by omega) (by rw [cd1_6]; rfl) (by decide) ?_
    refine r_iload_n C (j := 1) (oDec_at oX0_join 38 rfl) rfl rfl ?_
    obtain ⟨v12, ev12⟩ : ∃ z : Int64, a1.toInt64 = z := ⟨_, rfl⟩
    have hv12 : v12.toInt = a1.toInt := n_i2l ev12
    refine r_i2l C v12 (oDec_at oX0_join 39 rfl) ev12 ?_
    refine r_iload_n C (j := 2) (oDec_at oX0_join 40 rfl) rfl rfl ?_
    obtain ⟨v13, ev13⟩ : ∃ z : Int64, a2.toInt64 = z := ⟨_, rfl⟩
    have hv13 : v13.toInt = a2.toInt := n_i2l ev13
    refine r_i2l C v13 (oDec_at oX0_join 41 rfl) ev13 ?_
    obtain ⟨v14, ev14⟩ : ∃ z : Int64, z = v12 - v13 := ⟨_, rfl⟩
    refine r_lsub C v14 (oDec_at oX0_join 42 rfl) ev14 ?_
    refine r_callSi C miX0_limited mlX0_50 (ct_X0_limited l E (s) v14 ) (by decide) rfl rfl rfl (Nat.le_of_ble_eq_true rfl) (oDec_at oX0_join 43 rfl) (fun r16 u15 pu15 fu15 => ?_)
    try dsimp only at pu15
    have rr16 := n_rng r16
    refine r_pc C 114 rfl ?_
    exact r_iret C (oDec_at oX0_join 44 rfl) ⟨_, rfl, trivial⟩
  by_cases cd1_7 : a0.toInt = 10028
  · refine r_tableIn C 115 (oDec_at oX0_join 1 rfl) (by omega) (by omega) (by rw [cd1_7]; rfl) (by decide) ?_
    refine r_iload_n C (j := 1) (oDec_at oX0_join 45 rfl) rfl rfl ?_
    obtain ⟨v17, ev17⟩ : ∃ z : Int64, a1.toInt64 = z := ⟨_, rfl⟩
    have hv17 : v17.toInt = a1.toInt := n_i2l ev17
    refine r_i2l C v17 (oDec_at oX0_join 46 rfl) ev17 ?_
    refine r_iload_n C (j := 2) (oDec_at oX0_join 47 rfl) rfl rfl ?_
    obtain ⟨v18, ev18⟩ : ∃ z : Int64, a2.toInt64 = z := ⟨_, rfl⟩
    have hv18 : v18.toInt = a2.toInt := n_i2l ev18
    refine r_i2l C v18 (oDec_at oX0_join 48 rfl) ev18 ?_
    obtain ⟨v19, ev19⟩ : ∃ z : Int64, z = v17 * v18 := ⟨_, rfl⟩
    refine r_lmul C v19 (oDec_at oX0_join 49 rfl) ev19 ?_
    refine r_callSi C miX0_limited mlX0_50 (ct_X0_limited l E (s) v19 ) (by decide) rfl rfl rfl (Nat.le_of_ble_eq_true rfl) (oDec_at oX0_join 50 rfl) (fun r21 u20 pu20 fu20 => ?_)
    try dsimp only at pu20
    have rr21 := n_rng r21
    refine r_pc C 123 rfl ?_
    exact r_iret C (oDec_at oX0_join 51 rfl) ⟨_, rfl, trivial⟩
  by_cases cd1_8 : a0.toInt = 10029
  · refine r_tableIn C 124 (oDec_at oX0_join 1 rfl) (by omega) (by omega) (by rw [cd1_8]; rfl) (by decide) ?_
    refine r_iload_n C (j := 2) (oDec_at oX0_join 52 rfl) rfl rfl ?_
    refine r_if_ne C 132 (oDec_at oX0_join 53 rfl) (by decide) (fun cd22 => ?_) (fun cd22 => ?_)
    · skip
      refine r_iload_n C (j := 1) (oDec_at oX0_join 56 rfl) rfl rfl ?_
      refine r_iload_n C (j := 2) (oDec_at oX0_join 57 rfl) rfl rfl ?_
      refine r_callSi C miJ9_floorDiv_7cf53 mlX0_54 (ct_J9_floorDiv_7cf53 l E (s) a1 a2 (by omega)) (by decide) rfl rfl rfl (Nat.le_of_ble_eq_true rfl) (oDec_at oX0_join 58 rfl) (fun r24 u23 pu23 fu23 => ?_)
      try dsimp only at pu23
      have rr24 := n_rng r24
      exact r_iret C (oDec_at oX0_join 59 rfl) ⟨_, rfl, trivial⟩
    · skip
      refine r_iconst C (oDec_at oX0_join 54 rfl) (v := k0) (by rw [qk0]; rfl) ?_
      refine r_goto C (tgt := 137) (oDec_at oX0_join 55 rfl) (by decide) ?_
      exact r_iret C (oDec_at oX0_join 59 rfl) ⟨_, rfl, trivial⟩
  by_cases cd1_9 : a0.toInt = 10030
  · refine r_tableIn C 138 (oDec_at oX0_join 1 rfl) (by omega) (by omega) (by rw [cd1_9]; rfl) (by decide) ?_
    refine r_iload_n C (j := 1) (oDec_at oX0_join 60 rfl) rfl rfl ?_
    refine r_iload_n C (j := 2) (oDec_at oX0_join 61 rfl) rfl rfl ?_
    refine r_callSi C miJ9_min_7cf53 mlX0_60 (ct_J9_min_7cf53 l E (s) a1 a2 ) (by decide) rfl rfl rfl (Nat.le_of_ble_eq_true rfl) (oDec_at oX0_join 62 rfl) (fun r26 u25 pu25 fu25 => ?_)
    try dsimp only at pu25
    have rr26 := n_rng r26
    exact r_iret C (oDec_at oX0_join 63 rfl) ⟨_, rfl, trivial⟩
  refine r_tableOut C 144 (oDec_at oX0_join 1 rfl) (by omega) (by decide) ?_
  refine r_iload_n C (j := 1) (oDec_at oX0_join 64 rfl) rfl rfl ?_
  refine r_iload_n C (j := 2) (oDec_at oX0_join 65 rfl) rfl rfl ?_
  refine r_callSi C miJ9_max_7cf53 mlX0_63 (ct_J9_max_7cf53 l E (s) a1 a2 ) (by decide) rfl rfl rfl (Nat.le_of_ble_eq_true rfl) (oDec_at oX0_join 66 rfl) (fun r28 u27 pu27 fu27 => ?_)
  try dsimp only at pu27
  have rr28 := n_rng r28
  exact r_iret C (oDec_at oX0_join 67 rfl) ⟨_, rfl, trivial⟩
set_option maxHeartbeats 4000000 in
set_option maxRecDepth 100000 in
theorem ct_X0_holds (l : Launch) (E : oE) (s : oS) (c0 : Nat) (hk0 : okd c0 = 0) (a1 : Int32) (c2 q2 n2 : Nat) (hk2 : okd c2 = q2) (h13_2 : 13 ≤ q2) (h9_2 : q2 < 999) (ht2 : oat q2 = 0) (hn2 : oln q2 = n2) (hp0 : n2 ≤ 10000) : oMet l 3 yX0_holds cX0_holds 6 (some .boolean) [(24, 9999)] E s [.ref (oad E c0), .int a1, .ref (oad E c2)] (oPi (fun r u => (0 ≤ r.toInt ∧ r.toInt ≤ 1))) := by
  refine oMet.of (lv := [(0, .ref (oad E c0)), (1, .int a1), (2, .ref (oad E c2))]) (by decide +kernel) (Nat.le_of_ble_eq_true rfl) rfl (fun J C hT => ?_)
  have C : oC l 3 cX0_holds RX0 6 (some .boolean) [(24, 9999)] E s (oPi (fun r u => (0 ≤ r.toInt ∧ r.toInt ≤ 1))) J := C
  obtain ⟨k0, qk0⟩ : ∃ z : Int32, z = 0 := ⟨_, rfl⟩
  have ek0 : k0.toInt = 0 := by rw [qk0]; rfl
  obtain ⟨k1, qk1⟩ : ∃ z : Int32, z = 1 := ⟨_, rfl⟩
  have ek1 : k1.toInt = 1 := by rw [qk1]; rfl
  obtain ⟨k18, qk18⟩ : ∃ z : Int32, z = 18 := ⟨_, rfl⟩
  have ek18 : k18.toInt = 18 := by rw [qk18]; rfl
  obtain ⟨k10000, qk10000⟩ : ∃ z : Int32, z = 10000 := ⟨_, rfl⟩
  have ek10000 : k10000.toInt = 10000 := by rw [qk10000]; rfl
  obtain ⟨k10020, qk10020⟩ : ∃ z : Int32, z = 10020 := ⟨_, rfl⟩
  have ek10020 : k10020.toInt = 10020 := by rw [qk10020]; rfl
  have rg1 := n_rng a1
  have key : ∀ n : Nat, (∀ (t : oS) (x3 : Int32) (x4 : Int32), (0 ≤ x3.toInt ∧ x3.toInt ≤ 64) → (0 ≤ x4.toInt) → (0 ≤ a1.toInt ∧ a1.toInt < 18) → 2147483648 - x4.toInt ≤ (n : Int) → J t 22 [(0, .ref (oad E c0)), (1, .int a1), (2, .ref (oad E c2)), (3, .int x3), (4, .int x4)] []) := by
    intro n
    induction n using Nat.strongRecOn with
    | _ n ih =>
      skip
      · intro t x3 x4  iv0 iv1 iv2 hmu
        have rx3 := n_rng x3
        have rx4 := n_rng x4
        refine r_iload C (j := 4) (oDec_at oX0_holds 14 rfl) rfl ?_
        refine r_aload_n C (j := 0) (oDec_at oX0_holds 15 rfl) rfl rfl ?_
        refine r_getR (k := 3) (b := 3) C oCl0 hk0 (by decide) flX0_20 rfl rfl rfl (oDec_at oX0_holds 16 rfl) ?_
        refine r_iload_n C (j := 1) (oDec_at oX0_holds 17 rfl) rfl rfl ?_
        obtain ⟨v1, ev1⟩ : ∃ z : Int32, (t).1 (c0 + 3) a1.toNatClampNeg = z := ⟨_, rfl⟩
        have rv1 := n_rng v1
        refine r_iald (n := 18) (lo := (-2147483648)) (hi := 2147483647) C v1 (kr0_3 hk0) (by decide) rfl rfl ⟨by omega, by omega⟩ (by decide) ev1 rfl rfl (oDec_at oX0_holds 18 rfl) (fun _ _ => ?_)
        refine r_icmp_ge C 178 (oDec_at oX0_holds 19 rfl) (by decide) (fun cd3 => ?_) (fun cd3 => ?_)
        · skip
          refine r_iload_n C (j := 3) (oDec_at oX0_holds 98 rfl) rfl rfl ?_
          refine r_if_le C 196 (oDec_at oX0_holds 99 rfl) (by decide) (fun cd4 => ?_) (fun cd4 => ?_)
          · skip
            refine r_iconst C (oDec_at oX0_holds 108 rfl) (v := k0) (by rw [qk0]; rfl) ?_
            exact r_zret C (n_bool (by omega)) (oDec_at oX0_holds 109 rfl) ⟨_, rfl, by omega⟩
          · skip
            refine r_aload_n C (j := 0) (oDec_at oX0_holds 100 rfl) rfl rfl ?_
            refine r_getR (k := 5) (b := 5) C oCl0 hk0 (by decide) flX0_26 rfl rfl rfl (oDec_at oX0_holds 101 rfl) ?_
            refine r_iconst C (oDec_at oX0_holds 102 rfl) (v := k0) (by rw [qk0]; rfl) ?_
            obtain ⟨v5, ev5⟩ : ∃ z : Int32, (t).1 (c0 + 5) k0.toNatClampNeg = z := ⟨_, rfl⟩
            have rv5 := n_rng v5
            refine r_iald (n := 64) (lo := (-2147483648)) (hi := 2147483647) C v5 (kr0_5 hk0) (by decide) rfl rfl ⟨by omega, by omega⟩ (by decide) ev5 rfl rfl (oDec_at oX0_holds 103 rfl) (fun _ _ => ?_)
            refine r_iconst C (oDec_at oX0_holds 104 rfl) (v := k1) (by rw [qk1]; rfl) ?_
            refine r_icmp_ne C 196 (oDec_at oX0_holds 105 rfl) (by decide) (fun cd7 => ?_) (fun cd7 => ?_)
            · skip
              refine r_iconst C (oDec_at oX0_holds 108 rfl) (v := k0) (by rw [qk0]; rfl) ?_
              exact r_zret C (n_bool (by omega)) (oDec_at oX0_holds 109 rfl) ⟨_, rfl, by omega⟩
            · skip
              refine r_iconst C (oDec_at oX0_holds 106 rfl) (v := k1) (by rw [qk1]; rfl) ?_
              refine r_goto C (tgt := 197) (oDec_at oX0_holds 107 rfl) (by decide) ?_
              exact r_zret C (n_bool (by omega)) (oDec_at oX0_holds 109 rfl) ⟨_, rfl, by omega⟩
        · skip
          refine r_iload C (j := 4) (oDec_at oX0_holds 20 rfl) rfl ?_
          refine r_aload_n C (j := 0) (oDec_at oX0_holds 21 rfl) rfl rfl ?_
          refine r_getR (k := 0) (b := 1) C oCl0 hk0 (by decide) flX0_11 rfl rfl rfl (oDec_at oX0_holds 22 rfl) ?_
          obtain ⟨v8, ev8⟩ : ∃ z : Int32, Int32.ofNat 1600 = z := ⟨_, rfl⟩
          have hv8 : v8.toInt = 1600 := by rw [← ev8]; rfl
          refine r_alen0 (n := 1600) C v8 (kr0_1 hk0) (by decide) rfl rfl (by decide) ev8 (oDec_at oX0_holds 23 rfl) ?_
          refine r_icmp_ge C 178 (oDec_at oX0_holds 24 rfl) (by decide) (fun cd9 => ?_) (fun cd9 => ?_)
          · skip
            refine r_iload_n C (j := 3) (oDec_at oX0_holds 98 rfl) rfl rfl ?_
            refine r_if_le C 196 (oDec_at oX0_holds 99 rfl) (by decide) (fun cd10 => ?_) (fun cd10 => ?_)
            · skip
              refine r_iconst C (oDec_at oX0_holds 108 rfl) (v := k0) (by rw [qk0]; rfl) ?_
              exact r_zret C (n_bool (by omega)) (oDec_at oX0_holds 109 rfl) ⟨_, rfl, by omega⟩
            · skip
              refine r_aload_n C (j := 0) (oDec_at oX0_holds 100 rfl) rfl rfl ?_
              refine r_getR (k := 5) (b := 5) C oCl0 hk0 (by decide) flX0_26 rfl rfl rfl (oDec_at oX0_holds 101 rfl) ?_
              refine r_iconst C (oDec_at oX0_holds 102 rfl) (v := k0) (by rw [qk0]; rfl) ?_
              obtain ⟨v11, ev11⟩ : ∃ z : Int32, (t).1 (c0 + 5) k0.toNatClampNeg = z := ⟨_, rfl⟩
              have rv11 := n_rng v11
              refine r_iald (n := 64) (lo := (-2147483648)) (hi := 2147483647) C v11 (kr0_5 hk0) (by decide) rfl rfl ⟨by omega, by omega⟩ (by decide) ev11 rfl rfl (oDec_at oX0_holds 103 rfl) (fun _ _ => ?_)
              refine r_iconst C (oDec_at oX0_holds 104 rfl) (v := k1) (by rw [qk1]; rfl) ?_
              refine r_icmp_ne C 196 (oDec_at oX0_holds 105 rfl) (by decide) (fun cd13 => ?_) (fun cd13 => ?_)
              · skip
                refine r_iconst C (oDec_at oX0_holds 108 rfl) (v := k0) (by rw [qk0]; rfl) ?_
                exact r_zret C (n_bool (by omega)) (oDec_at oX0_holds 109 rfl) ⟨_, rfl, by omega⟩
              · skip
                refine r_iconst C (oDec_at oX0_holds 106 rfl) (v := k1) (by rw [qk1]; rfl) ?_
                refine r_goto C (tgt := 197) (oDec_at oX0_holds 107 rfl) (by decide) ?_
                exact r_zret C (n_bool (by omega)) (oDec_at oX0_holds 109 rfl) ⟨_, rfl, by omega⟩
          · skip
            refine r_aload_n C (j := 0) (oDec_at oX0_holds 25 rfl) rfl rfl ?_
            refine r_getR (k := 0) (b := 1) C oCl0 hk0 (by decide) flX0_11 rfl rfl rfl (oDec_at oX0_holds 26 rfl) ?_
            refine r_iload C (j := 4) (oDec_at oX0_holds 27 rfl) rfl ?_
            obtain ⟨v14, ev14⟩ : ∃ z : Int32, (t).1 (c0 + 1) x4.toNatClampNeg = z := ⟨_, rfl⟩
            have rv14 := n_rng v14
            refine r_iald (n := 1600) (lo := (-2147483648)) (hi := 2147483647) C v14 (kr0_1 hk0) (by decide) rfl rfl ⟨by omega, by omega⟩ (by decide) ev14 rfl rfl (oDec_at oX0_holds 28 rfl) (fun _ _ => ?_)
            refine r_istore C (lv' := [(0, .ref (oad E c0)), (1, .int a1), (2, .ref (oad E c2)), (3, .int x3), (4, .int x4), (5, .int v14)]) [1, 2, 3, 4, 5, 0] (oDec_at oX0_holds 29 rfl) (by decide) rfl ?_
            refine r_iload C (j := 5) (oDec_at oX0_holds 30 rfl) rfl ?_
            refine r_pc C 54 rfl ?_
            refine r_sipush C (oDec_at oX0_holds 31 rfl) (v := k10020) (by rw [qk10020]; rfl) ?_
            refine r_icmp_ge C 104 (oDec_at oX0_holds 32 rfl) (by decide) (fun cd16 => ?_) (fun cd16 => ?_)
            · skip
              refine r_iload C (j := 5) (oDec_at oX0_holds 54 rfl) rfl ?_
              refine r_sipush C (oDec_at oX0_holds 55 rfl) (v := k10020) (by rw [qk10020]; rfl) ?_
              refine r_icmp_ne C 137 (oDec_at oX0_holds 56 rfl) (by decide) (fun cd17 => ?_) (fun cd17 => ?_)
              · skip
                refine r_iload_n C (j := 3) (oDec_at oX0_holds 74 rfl) rfl rfl ?_
                refine r_iconst C (oDec_at oX0_holds 75 rfl) (v := k1) (by rw [qk1]; rfl) ?_
                refine r_icmp_le C 172 (oDec_at oX0_holds 76 rfl) (by decide) (fun cd18 => ?_) (fun cd18 => ?_)
                · skip
                  obtain ⟨v19, ev19⟩ : ∃ z : Int32, x4 + Int32.ofInt 1 = z := ⟨_, rfl⟩
                  have hv19 : v19.toInt = x4.toInt + 1 := n_inc ev19 (by decide) (by omega) (by omega)
                  refine r_iinc C (j := 4) (lv' := [(0, .ref (oad E c0)), (1, .int a1), (2, .ref (oad E c2)), (3, .int x3), (4, .int v19), (5, .int v14)]) v19 [1, 2, 3, 4, 0, 5] (oDec_at oX0_holds 96 rfl) rfl ev19 (by decide) rfl ?_
                  refine r_goto C (tgt := 22) (oDec_at oX0_holds 97 rfl) (by decide) ?_
                  refine r_pick C [0, 1, 2, 3, 4] rfl ?_
                  exact (ih (n - 1) (by omega)) (t) x3 v19  (by omega) (by omega) (by omega) (by omega)
                · skip
                  obtain ⟨v20, ev20⟩ : ∃ z : Int32, x3 + Int32.ofInt (-1) = z := ⟨_, rfl⟩
                  have hv20 : v20.toInt = x3.toInt + (-1) := n_inc ev20 (by decide) (by omega) (by omega)
                  refine r_iinc C (j := 3) (lv' := [(0, .ref (oad E c0)), (1, .int a1), (2, .ref (oad E c2)), (3, .int v20), (4, .int x4), (5, .int v14)]) v20 [1, 2, 3, 0, 4, 5] (oDec_at oX0_holds 77 rfl) rfl ev20 (by decide) rfl ?_
                  refine r_aload_n C (j := 0) (oDec_at oX0_holds 78 rfl) rfl rfl ?_
                  refine r_getR (k := 5) (b := 5) C oCl0 hk0 (by decide) flX0_26 rfl rfl rfl (oDec_at oX0_holds 79 rfl) ?_
                  refine r_iload_n C (j := 3) (oDec_at oX0_holds 80 rfl) rfl rfl ?_
                  refine r_iconst C (oDec_at oX0_holds 81 rfl) (v := k1) (by rw [qk1]; rfl) ?_
                  obtain ⟨v21, ev21⟩ : ∃ z : Int32, z = v20 - k1 := ⟨_, rfl⟩
                  have hv21 : v21.toInt = v20.toInt - k1.toInt := n_sub ev21 (by omega) (by omega)
                  refine r_isub C v21 (oDec_at oX0_holds 82 rfl) ev21 ?_
                  refine r_pc C 152 rfl ?_
                  refine r_iload C (j := 5) (oDec_at oX0_holds 83 rfl) rfl ?_
                  refine r_aload_n C (j := 0) (oDec_at oX0_holds 84 rfl) rfl rfl ?_
                  refine r_getR (k := 5) (b := 5) C oCl0 hk0 (by decide) flX0_26 rfl rfl rfl (oDec_at oX0_holds 85 rfl) ?_
                  refine r_iload_n C (j := 3) (oDec_at oX0_holds 86 rfl) rfl rfl ?_
                  refine r_iconst C (oDec_at oX0_holds 87 rfl) (v := k1) (by rw [qk1]; rfl) ?_
                  obtain ⟨v22, ev22⟩ : ∃ z : Int32, z = v20 - k1 := ⟨_, rfl⟩
                  have hv22 : v22.toInt = v20.toInt - k1.toInt := n_sub ev22 (by omega) (by omega)
                  refine r_isub C v22 (oDec_at oX0_holds 88 rfl) ev22 ?_
                  refine r_pc C 161 rfl ?_
                  obtain ⟨v23, ev23⟩ : ∃ z : Int32, (t).1 (c0 + 5) v22.toNatClampNeg = z := ⟨_, rfl⟩
                  have rv23 := n_rng v23
                  refine r_iald (n := 64) (lo := (-2147483648)) (hi := 2147483647) C v23 (kr0_5 hk0) (by decide) rfl rfl ⟨by omega, by omega⟩ (by decide) ev23 rfl rfl (oDec_at oX0_holds 89 rfl) (fun _ _ => ?_)
                  refine r_aload_n C (j := 0) (oDec_at oX0_holds 90 rfl) rfl rfl ?_
                  refine r_getR (k := 5) (b := 5) C oCl0 hk0 (by decide) flX0_26 rfl rfl rfl (oDec_at oX0_holds 91 rfl) ?_
                  refine r_iload_n C (j := 3) (oDec_at oX0_holds 92 rfl) rfl rfl ?_
                  obtain ⟨v25, ev25⟩ : ∃ z : Int32, (t).1 (c0 + 5) v20.toNatClampNeg = z := ⟨_, rfl⟩
                  have rv25 := n_rng v25
                  refine r_iald (n := 64) (lo := (-2147483648)) (hi := 2147483647) C v25 (kr0_5 hk0) (by decide) rfl rfl ⟨by omega, by omega⟩ (by decide) ev25 rfl rfl (oDec_at oX0_holds 93 rfl) (fun _ _ => ?_)
                  refine r_callSi C miX0_join mlX0_46 (ct_X0_join l E (t) v14 v23 v25 ) (by decide) rfl rfl rfl (Nat.le_of_ble_eq_true rfl) (oDec_at oX0_holds 94 rfl) (fun r28 u27 pu27 fu27 => ?_)
                  try dsimp only at pu27
                  have rr28 := n_rng r28
                  refine r_pc C 171 rfl ?_
                  refine r_iast (n := 64) (lo := (-2147483648)) (hi := 2147483647) C (kr0_5 hk0) (by decide) rfl rfl ⟨by omega, by omega⟩ (by decide) rfl rfl rfl rfl (n_rng _) (oDec_at oX0_holds 95 rfl) ?_
                  obtain ⟨v29, ev29⟩ : ∃ z : Int32, x4 + Int32.ofInt 1 = z := ⟨_, rfl⟩
                  have hv29 : v29.toInt = x4.toInt + 1 := n_inc ev29 (by decide) (by omega) (by omega)
                  refine r_iinc C (j := 4) (lv' := [(0, .ref (oad E c0)), (1, .int a1), (2, .ref (oad E c2)), (3, .int v20), (4, .int v29), (5, .int v14)]) v29 [1, 2, 3, 4, 0, 5] (oDec_at oX0_holds 96 rfl) rfl ev29 (by decide) rfl ?_
                  refine r_goto C (tgt := 22) (oDec_at oX0_holds 97 rfl) (by decide) ?_
                  refine r_pick C [0, 1, 2, 3, 4] rfl ?_
                  exact (ih (n - 1) (by omega)) ((pI u27 (c0 + 5) v21.toNatClampNeg r28)) v20 v29  (by omega) (by omega) (by omega) (by omega)
              · skip
                refine r_iload_n C (j := 3) (oDec_at oX0_holds 57 rfl) rfl rfl ?_
                refine r_if_le C 172 (oDec_at oX0_holds 58 rfl) (by decide) (fun cd30 => ?_) (fun cd30 => ?_)
                · skip
                  obtain ⟨v31, ev31⟩ : ∃ z : Int32, x4 + Int32.ofInt 1 = z := ⟨_, rfl⟩
                  have hv31 : v31.toInt = x4.toInt + 1 := n_inc ev31 (by decide) (by omega) (by omega)
                  refine r_iinc C (j := 4) (lv' := [(0, .ref (oad E c0)), (1, .int a1), (2, .ref (oad E c2)), (3, .int x3), (4, .int v31), (5, .int v14)]) v31 [1, 2, 3, 4, 0, 5] (oDec_at oX0_holds 96 rfl) rfl ev31 (by decide) rfl ?_
                  refine r_goto C (tgt := 22) (oDec_at oX0_holds 97 rfl) (by decide) ?_
                  refine r_pick C [0, 1, 2, 3, 4] rfl ?_
                  exact (ih (n - 1) (by omega)) (t) x3 v31  (by omega) (by omega) (by omega) (by omega)
                · skip
                  refine r_aload_n C (j := 0) (oDec_at oX0_holds 59 rfl) rfl rfl ?_
                  refine r_getR (k := 5) (b := 5) C oCl0 hk0 (by decide) flX0_26 rfl rfl rfl (oDec_at oX0_holds 60 rfl) ?_
                  refine r_iload_n C (j := 3) (oDec_at oX0_holds 61 rfl) rfl rfl ?_
                  refine r_iconst C (oDec_at oX0_holds 62 rfl) (v := k1) (by rw [qk1]; rfl) ?_
                  obtain ⟨v32, ev32⟩ : ∃ z : Int32, z = x3 - k1 := ⟨_, rfl⟩
                  have hv32 : v32.toInt = x3.toInt - k1.toInt := n_sub ev32 (by omega) (by omega)
                  refine r_isub C v32 (oDec_at oX0_holds 63 rfl) ev32 ?_
                  refine r_iconst C (oDec_at oX0_holds 64 rfl) (v := k1) (by rw [qk1]; rfl) ?_
                  refine r_pc C 124 rfl ?_
                  refine r_aload_n C (j := 0) (oDec_at oX0_holds 65 rfl) rfl rfl ?_
                  refine r_getR (k := 5) (b := 5) C oCl0 hk0 (by decide) flX0_26 rfl rfl rfl (oDec_at oX0_holds 66 rfl) ?_
                  refine r_iload_n C (j := 3) (oDec_at oX0_holds 67 rfl) rfl rfl ?_
                  refine r_iconst C (oDec_at oX0_holds 68 rfl) (v := k1) (by rw [qk1]; rfl) ?_
                  obtain ⟨v33, ev33⟩ : ∃ z : Int32, z = x3 - k1 := ⟨_, rfl⟩
                  have hv33 : v33.toInt = x3.toInt - k1.toInt := n_sub ev33 (by omega) (by omega)
                  refine r_isub C v33 (oDec_at oX0_holds 69 rfl) ev33 ?_
                  obtain ⟨v34, ev34⟩ : ∃ z : Int32, (t).1 (c0 + 5) v33.toNatClampNeg = z := ⟨_, rfl⟩
                  have rv34 := n_rng v34
                  refine r_iald (n := 64) (lo := (-2147483648)) (hi := 2147483647) C v34 (kr0_5 hk0) (by decide) rfl rfl ⟨by omega, by omega⟩ (by decide) ev34 rfl rfl (oDec_at oX0_holds 70 rfl) (fun _ _ => ?_)
                  refine r_pc C 132 rfl ?_
                  obtain ⟨v36, ev36⟩ : ∃ z : Int32, z = k1 - v34 := ⟨_, rfl⟩
                  have rv36 := n_rng v36
                  refine r_isub C v36 (oDec_at oX0_holds 71 rfl) ev36 ?_
                  refine r_iast (n := 64) (lo := (-2147483648)) (hi := 2147483647) C (kr0_5 hk0) (by decide) rfl rfl ⟨by omega, by omega⟩ (by decide) rfl rfl rfl rfl (n_rng _) (oDec_at oX0_holds 72 rfl) ?_
                  refine r_goto C (tgt := 172) (oDec_at oX0_holds 73 rfl) (by decide) ?_
                  obtain ⟨v37, ev37⟩ : ∃ z : Int32, x4 + Int32.ofInt 1 = z := ⟨_, rfl⟩
                  have hv37 : v37.toInt = x4.toInt + 1 := n_inc ev37 (by decide) (by omega) (by omega)
                  refine r_iinc C (j := 4) (lv' := [(0, .ref (oad E c0)), (1, .int a1), (2, .ref (oad E c2)), (3, .int x3), (4, .int v37), (5, .int v14)]) v37 [1, 2, 3, 4, 0, 5] (oDec_at oX0_holds 96 rfl) rfl ev37 (by decide) rfl ?_
                  refine r_goto C (tgt := 22) (oDec_at oX0_holds 97 rfl) (by decide) ?_
                  refine r_pick C [0, 1, 2, 3, 4] rfl ?_
                  exact (ih (n - 1) (by omega)) ((pI t (c0 + 5) v32.toNatClampNeg v36)) x3 v37  (by omega) (by omega) (by omega) (by omega)
            · skip
              refine r_iload_n C (j := 3) (oDec_at oX0_holds 33 rfl) rfl rfl ?_
              refine r_aload_n C (j := 0) (oDec_at oX0_holds 34 rfl) rfl rfl ?_
              refine r_getR (k := 5) (b := 5) C oCl0 hk0 (by decide) flX0_26 rfl rfl rfl (oDec_at oX0_holds 35 rfl) ?_
              obtain ⟨v38, ev38⟩ : ∃ z : Int32, Int32.ofNat 64 = z := ⟨_, rfl⟩
              have hv38 : v38.toInt = 64 := by rw [← ev38]; rfl
              refine r_alen0 (n := 64) C v38 (kr0_5 hk0) (by decide) rfl rfl (by decide) ev38 (oDec_at oX0_holds 36 rfl) ?_
              refine r_icmp_ge C 172 (oDec_at oX0_holds 37 rfl) (by decide) (fun cd39 => ?_) (fun cd39 => ?_)
              · skip
                obtain ⟨v40, ev40⟩ : ∃ z : Int32, x4 + Int32.ofInt 1 = z := ⟨_, rfl⟩
                have hv40 : v40.toInt = x4.toInt + 1 := n_inc ev40 (by decide) (by omega) (by omega)
                refine r_iinc C (j := 4) (lv' := [(0, .ref (oad E c0)), (1, .int a1), (2, .ref (oad E c2)), (3, .int x3), (4, .int v40), (5, .int v14)]) v40 [1, 2, 3, 4, 0, 5] (oDec_at oX0_holds 96 rfl) rfl ev40 (by decide) rfl ?_
                refine r_goto C (tgt := 22) (oDec_at oX0_holds 97 rfl) (by decide) ?_
                refine r_pick C [0, 1, 2, 3, 4] rfl ?_
                exact (ih (n - 1) (by omega)) (t) x3 v40  (by omega) (by omega) (by omega) (by omega)
              · skip
                refine r_aload_n C (j := 0) (oDec_at oX0_holds 38 rfl) rfl rfl ?_
                refine r_getR (k := 5) (b := 5) C oCl0 hk0 (by decide) flX0_26 rfl rfl rfl (oDec_at oX0_holds 39 rfl) ?_
                refine r_iload_n C (j := 3) (oDec_at oX0_holds 40 rfl) rfl rfl ?_
                refine r_iload C (j := 5) (oDec_at oX0_holds 41 rfl) rfl ?_
                refine r_sipush C (oDec_at oX0_holds 42 rfl) (v := k10000) (by rw [qk10000]; rfl) ?_
                refine r_icmp_ge C 87 (oDec_at oX0_holds 43 rfl) (by decide) (fun cd41 => ?_) (fun cd41 => ?_)
                · skip
                  refine r_aload_n C (j := 2) (oDec_at oX0_holds 46 rfl) rfl rfl ?_
                  refine r_iload C (j := 5) (oDec_at oX0_holds 47 rfl) rfl ?_
                  refine r_sipush C (oDec_at oX0_holds 48 rfl) (v := k10000) (by rw [qk10000]; rfl) ?_
                  obtain ⟨v42, ev42⟩ : ∃ z : Int32, z = v14 - k10000 := ⟨_, rfl⟩
                  have rv42 := n_rng v42
                  refine r_isub C v42 (oDec_at oX0_holds 49 rfl) ev42 ?_
                  refine r_callSi C miX0_factAt mlX0_42 (ct_X0_factAt l E (t) c2 q2 n2 hk2 h13_2 h9_2 ht2 hn2 v42 (by omega)) (by decide) rfl rfl rfl (Nat.le_of_ble_eq_true rfl) (oDec_at oX0_holds 50 rfl) (fun r44 u43 pu43 fu43 => ?_)
                  try dsimp only at pu43
                  have rr44 := n_rng r44
                  refine r_iast (n := 64) (lo := (-2147483648)) (hi := 2147483647) C (kr0_5 hk0) (by decide) rfl rfl ⟨by omega, by omega⟩ (by decide) rfl rfl rfl rfl (n_rng _) (oDec_at oX0_holds 51 rfl) ?_
                  refine r_pc C 98 rfl ?_
                  obtain ⟨v45, ev45⟩ : ∃ z : Int32, x3 + Int32.ofInt 1 = z := ⟨_, rfl⟩
                  have hv45 : v45.toInt = x3.toInt + 1 := n_inc ev45 (by decide) (by omega) (by omega)
                  refine r_iinc C (j := 3) (lv' := [(0, .ref (oad E c0)), (1, .int a1), (2, .ref (oad E c2)), (3, .int v45), (4, .int x4), (5, .int v14)]) v45 [1, 2, 3, 0, 4, 5] (oDec_at oX0_holds 52 rfl) rfl ev45 (by decide) rfl ?_
                  refine r_goto C (tgt := 172) (oDec_at oX0_holds 53 rfl) (by decide) ?_
                  obtain ⟨v46, ev46⟩ : ∃ z : Int32, x4 + Int32.ofInt 1 = z := ⟨_, rfl⟩
                  have hv46 : v46.toInt = x4.toInt + 1 := n_inc ev46 (by decide) (by omega) (by omega)
                  refine r_iinc C (j := 4) (lv' := [(0, .ref (oad E c0)), (1, .int a1), (2, .ref (oad E c2)), (3, .int v45), (4, .int v46), (5, .int v14)]) v46 [1, 2, 3, 4, 0, 5] (oDec_at oX0_holds 96 rfl) rfl ev46 (by decide) rfl ?_
                  refine r_goto C (tgt := 22) (oDec_at oX0_holds 97 rfl) (by decide) ?_
                  refine r_pick C [0, 1, 2, 3, 4] rfl ?_
                  exact (ih (n - 1) (by omega)) ((pI u43 (c0 + 5) x3.toNatClampNeg r44)) v45 v46  (by omega) (by omega) (by omega) (by omega)
                · skip
                  refine r_iload C (j := 5) (oDec_at oX0_holds 44 rfl) rfl ?_
                  refine r_goto C (tgt := 97) (oDec_at oX0_holds 45 rfl) (by decide) ?_
                  refine r_iast (n := 64) (lo := (-2147483648)) (hi := 2147483647) C (kr0_5 hk0) (by decide) rfl rfl ⟨by omega, by omega⟩ (by decide) rfl rfl rfl rfl (n_rng _) (oDec_at oX0_holds 51 rfl) ?_
                  obtain ⟨v47, ev47⟩ : ∃ z : Int32, x3 + Int32.ofInt 1 = z := ⟨_, rfl⟩
                  have hv47 : v47.toInt = x3.toInt + 1 := n_inc ev47 (by decide) (by omega) (by omega)
                  refine r_iinc C (j := 3) (lv' := [(0, .ref (oad E c0)), (1, .int a1), (2, .ref (oad E c2)), (3, .int v47), (4, .int x4), (5, .int v14)]) v47 [1, 2, 3, 0, 4, 5] (oDec_at oX0_holds 52 rfl) rfl ev47 (by decide) rfl ?_
                  refine r_goto C (tgt := 172) (oDec_at oX0_holds 53 rfl) (by decide) ?_
                  obtain ⟨v48, ev48⟩ : ∃ z : Int32, x4 + Int32.ofInt 1 = z := ⟨_, rfl⟩
                  have hv48 : v48.toInt = x4.toInt + 1 := n_inc ev48 (by decide) (by omega) (by omega)
                  refine r_iinc C (j := 4) (lv' := [(0, .ref (oad E c0)), (1, .int a1), (2, .ref (oad E c2)), (3, .int v47), (4, .int v48), (5, .int v14)]) v48 [1, 2, 3, 4, 0, 5] (oDec_at oX0_holds 96 rfl) rfl ev48 (by decide) rfl ?_
                  refine r_goto C (tgt := 22) (oDec_at oX0_holds 97 rfl) (by decide) ?_
                  refine r_pick C [0, 1, 2, 3, 4] rfl ?_
                  exact (ih (n - 1) (by omega)) ((pI t (c0 + 5) x3.toNatClampNeg v14)) v47 v48  (by omega) (by omega) (by omega) (by omega)
  refine r_iload_n C (j := 1) (oDec_at oX0_holds 0 rfl) rfl rfl ?_
  refine r_if_lt C 10 (oDec_at oX0_holds 1 rfl) (by decide) (fun cd49 => ?_) (fun cd49 => ?_)
  · skip
    refine r_iconst C (oDec_at oX0_holds 5 rfl) (v := k0) (by rw [qk0]; rfl) ?_
    exact r_zret C (n_bool (by omega)) (oDec_at oX0_holds 6 rfl) ⟨_, rfl, by omega⟩
  · skip
    refine r_iload_n C (j := 1) (oDec_at oX0_holds 2 rfl) rfl rfl ?_
    refine r_bipush C (oDec_at oX0_holds 3 rfl) (v := k18) (by rw [qk18]; rfl) ?_
    refine r_icmp_lt C 12 (oDec_at oX0_holds 4 rfl) (by decide) (fun cd50 => ?_) (fun cd50 => ?_)
    · skip
      refine r_iconst C (oDec_at oX0_holds 7 rfl) (v := k0) (by rw [qk0]; rfl) ?_
      refine r_istore_n C (lv' := [(0, .ref (oad E c0)), (1, .int a1), (2, .ref (oad E c2)), (3, .int k0)]) [1, 2, 3, 0] (oDec_at oX0_holds 8 rfl) rfl (by decide) rfl ?_
      refine r_aload_n C (j := 0) (oDec_at oX0_holds 9 rfl) rfl rfl ?_
      refine r_getR (k := 2) (b := 2) C oCl0 hk0 (by decide) flX0_17 rfl rfl rfl (oDec_at oX0_holds 10 rfl) ?_
      refine r_iload_n C (j := 1) (oDec_at oX0_holds 11 rfl) rfl rfl ?_
      obtain ⟨v51, ev51⟩ : ∃ z : Int32, (s).1 (c0 + 2) a1.toNatClampNeg = z := ⟨_, rfl⟩
      refine r_iald (n := 18) (lo := 0) (hi := 1600) C v51 (kr0_2 hk0) (by decide) rfl rfl ⟨by omega, by omega⟩ (by decide) ev51 rfl rfl (oDec_at oX0_holds 12 rfl) (fun b52 b52h => ?_)
      refine r_pc C 20 rfl ?_
      refine r_istore C (lv' := [(0, .ref (oad E c0)), (1, .int a1), (2, .ref (oad E c2)), (3, .int k0), (4, .int v51)]) [1, 2, 3, 4, 0] (oDec_at oX0_holds 13 rfl) (by decide) rfl ?_
      exact (key (2147483648 - v51.toInt).toNat) (s) k0 v51  (by omega) (by omega) (by omega) (by omega)
    · skip
      refine r_iconst C (oDec_at oX0_holds 5 rfl) (v := k0) (by rw [qk0]; rfl) ?_
      exact r_zret C (n_bool (by omega)) (oDec_at oX0_holds 6 rfl) ⟨_, rfl, by omega⟩
