set_option maxHeartbeats 4000000 in
set_option maxRecDepth 100000 in
theorem ct9_X0_limited (l : Launch) (E : oE) (s : oS) (a0 : Int64)   : oMet l 1 yX0_limited cX0_limited 2 (some .int) [] E s [.long a0] (oPi (fun r u => (r.toInt = oqClp a0.toInt))) := by
  refine oMet.of (lv := [(0, .long a0)]) (by decide +kernel) (Nat.le_of_ble_eq_true rfl) rfl (fun J C hT => ?_)
  have C : oC l 1 cX0_limited RX0 2 (some .int) [] E s (oPi (fun r u => (r.toInt = oqClp a0.toInt))) J := C
  obtain ⟨km1000000, qkm1000000⟩ : ∃ z : Int32, z = (-1000000) := ⟨_, rfl⟩
  have ekm1000000 : km1000000.toInt = (-1000000) := by rw [qkm1000000]; rfl
  obtain ⟨k1000000, qk1000000⟩ : ∃ z : Int32, z = 1000000 := ⟨_, rfl⟩
  have ek1000000 : k1000000.toInt = 1000000 := by rw [qk1000000]; rfl
  obtain ⟨jm1000000, qjm1000000⟩ : ∃ z : Int64, z = (-1000000) := ⟨_, rfl⟩
  have ejm1000000 : jm1000000.toInt = (-1000000) := by rw [qjm1000000]; rfl
  obtain ⟨j1000000, qj1000000⟩ : ∃ z : Int64, z = 1000000 := ⟨_, rfl⟩
  have ej1000000 : j1000000.toInt = 1000000 := by rw [qj1000000]; rfl
  refine r_lload_n C (j := 0) (oDec_at oX0_limited 0 rfl) rfl rfl ?_
  refine r_ldc2 C (v := j1000000) (by rw [qj1000000]; exact klX0_66) (oDec_at oX0_limited 1 rfl) ?_
  obtain ⟨v1, ev1⟩ : ∃ z : Int32, z = lg_cmp a0 j1000000 := ⟨_, rfl⟩
  have hv1 := n_lcmp ev1
  refine r_lcmp C v1 (oDec_at oX0_limited 2 rfl) ev1 ?_
  refine r_if_le C 11 (oDec_at oX0_limited 3 rfl) (by decide) (fun cd2 => ?_) (fun cd2 => ?_)
  · skip
    refine r_lload_n C (j := 0) (oDec_at oX0_limited 6 rfl) rfl rfl ?_
    refine r_ldc2 C (v := jm1000000) (by rw [qjm1000000]; exact klX0_69) (oDec_at oX0_limited 7 rfl) ?_
    obtain ⟨v3, ev3⟩ : ∃ z : Int32, z = lg_cmp a0 jm1000000 := ⟨_, rfl⟩
    have hv3 := n_lcmp ev3
    refine r_lcmp C v3 (oDec_at oX0_limited 8 rfl) ev3 ?_
    refine r_if_ge C 24 (oDec_at oX0_limited 9 rfl) (by decide) (fun cd4 => ?_) (fun cd4 => ?_)
    · skip
      refine r_lload_n C (j := 0) (oDec_at oX0_limited 12 rfl) rfl rfl ?_
      obtain ⟨v5, ev5⟩ : ∃ z : Int32, a0.toInt32 = z := ⟨_, rfl⟩
      have rv5 := n_rng v5
      refine r_l2i C v5 (oDec_at oX0_limited 13 rfl) ev5 ?_
      try (have hl2 := n_l2j ev5 (by omega) (by omega))
      exact r_iret C (oDec_at oX0_limited 14 rfl) ⟨_, rfl, by first | (rw [oqClp_2 (by omega)]; omega) | (rw [oqClp_3 (by omega) (by omega)]; omega)⟩
    · skip
      refine r_ldc C (v := km1000000) (by rw [qkm1000000]; exact kcX0_71) (oDec_at oX0_limited 10 rfl) ?_
      refine r_goto C (tgt := 26) (oDec_at oX0_limited 11 rfl) (by decide) ?_
      try (have hl2 := n_l2j ekm1000000 (by omega) (by omega))
      exact r_iret C (oDec_at oX0_limited 14 rfl) ⟨_, rfl, by first | (rw [oqClp_2 (by omega)]; omega) | (rw [oqClp_3 (by omega) (by omega)]; omega)⟩
  · skip
    refine r_ldc C (v := k1000000) (by rw [qk1000000]; exact kcX0_68) (oDec_at oX0_limited 4 rfl) ?_
    exact r_iret C (oDec_at oX0_limited 5 rfl) ⟨_, rfl, by rw [oqClp_1 (by omega)]; omega⟩
set_option maxHeartbeats 4000000 in
set_option maxRecDepth 100000 in
theorem ct9_J9_floorDiv (l : Launch) (E : oE) (s : oS) (a0 : Int32) (a1 : Int32)  (hp0 : a1.toInt ≠ 0) (hp1 : -1000000 ≤ a0.toInt ∧ a0.toInt ≤ 1000000) : oMet l 1 yJ9_floorDiv_7cf53 cJ9_floorDiv_7cf53 3 (some .int) [] E s [.int a0, .int a1] (oPi (fun r u => (r.toInt = oqFlr a0.toInt a1.toInt))) := by
  refine oMet.ofF (lv := [(0, .int a0), (1, .int a1)]) (by decide +kernel) (Nat.le_of_ble_eq_true rfl) rfl (fun J C hT => ?_)
  have C : oC l 1 cJ9_floorDiv_7cf53 RJ9 3 (some .int) [] E s (oPi (fun r u => (r.toInt = oqFlr a0.toInt a1.toInt))) J := C
  obtain ⟨k1, qk1⟩ : ∃ z : Int32, z = 1 := ⟨_, rfl⟩
  have ek1 : k1.toInt = 1 := by rw [qk1]; rfl
  have rg0 := n_rng a0
  have rg1 := n_rng a1
  refine r_iload_n C (j := 0) (oDec_at oJ9_floorDiv_7cf53 0 rfl) rfl rfl ?_
  refine r_iload_n C (j := 1) (oDec_at oJ9_floorDiv_7cf53 1 rfl) rfl rfl ?_
  obtain ⟨v1, ev1⟩ : ∃ z : Int32, z = a0 / a1 := ⟨_, rfl⟩
  have rv1 := n_rng v1
  have hv1 := n_divV ev1 (by omega) (by omega)
  refine r_idiv C v1 (oDec_at oJ9_floorDiv_7cf53 2 rfl) (n_ne0 (by omega)) ev1 ?_
  refine r_istore_n C (lv' := [(0, .int a0), (1, .int a1), (2, .int v1)]) [1, 2, 0] (oDec_at oJ9_floorDiv_7cf53 3 rfl) rfl (by decide) rfl ?_
  have hq9 : v1.toInt = a0.toInt.tdiv a1.toInt := hv1
  refine r_iload_n C (j := 0) (oDec_at oJ9_floorDiv_7cf53 4 rfl) rfl rfl ?_
  refine r_iload_n C (j := 1) (oDec_at oJ9_floorDiv_7cf53 5 rfl) rfl rfl ?_
  refine r_pc C 6 rfl ?_
  obtain ⟨v2, ev2⟩ : ∃ z : Int32, z = a0 ^^^ a1 := ⟨_, rfl⟩
  have rv2 := n_rng v2
  have hfv2 := n_xor ev2
  refine r_ixor C v2 (oDec_at oJ9_floorDiv_7cf53 6 rfl) ev2 ?_
  refine r_if_ge C 21 (oDec_at oJ9_floorDiv_7cf53 7 rfl) (by decide) (fun cd3 => ?_) (fun cd3 => ?_)
  · skip
    refine r_iload_n C (j := 2) (oDec_at oJ9_floorDiv_7cf53 17 rfl) rfl rfl ?_
    exact r_iret C (oDec_at oJ9_floorDiv_7cf53 18 rfl) ⟨_, rfl, oqFlr_t (by omega) rfl (fun h9 => by omega) (fun h9 h8 => by exfalso; omega)⟩
  · skip
    refine r_iload_n C (j := 2) (oDec_at oJ9_floorDiv_7cf53 8 rfl) rfl rfl ?_
    refine r_iload_n C (j := 1) (oDec_at oJ9_floorDiv_7cf53 9 rfl) rfl rfl ?_
    obtain ⟨v4, ev4⟩ : ∃ z : Int32, z = v1 * a1 := ⟨_, rfl⟩
    have rv4 := n_rng v4
    have hv4 := n_mulQ ev4 hq9 (by omega) (by omega)
    refine r_imul C v4 (oDec_at oJ9_floorDiv_7cf53 10 rfl) ev4 ?_
    refine r_iload_n C (j := 0) (oDec_at oJ9_floorDiv_7cf53 11 rfl) rfl rfl ?_
    refine r_icmp_eq C 21 (oDec_at oJ9_floorDiv_7cf53 12 rfl) (by decide) (fun cd5 => ?_) (fun cd5 => ?_)
    · skip
      refine r_iload_n C (j := 2) (oDec_at oJ9_floorDiv_7cf53 17 rfl) rfl rfl ?_
      exact r_iret C (oDec_at oJ9_floorDiv_7cf53 18 rfl) ⟨_, rfl, oqFlr_t (by omega) rfl (fun h9 => by omega) (fun h9 h8 => by exfalso; omega)⟩
    · skip
      refine r_iload_n C (j := 2) (oDec_at oJ9_floorDiv_7cf53 13 rfl) rfl rfl ?_
      refine r_iconst C (oDec_at oJ9_floorDiv_7cf53 14 rfl) (v := k1) (by rw [qk1]; rfl) ?_
      obtain ⟨v6, ev6⟩ : ∃ z : Int32, z = v1 - k1 := ⟨_, rfl⟩
      have rv6 := n_rng v6
      have hv6 := n_sub ev6 (by have hb9 := (oqTdv_b (x := a0.toInt) (y := a1.toInt)).1; omega) (by have hb9 := (oqTdv_b (x := a0.toInt) (y := a1.toInt)).1; omega)
      refine r_isub C v6 (oDec_at oJ9_floorDiv_7cf53 15 rfl) ev6 ?_
      exact r_iret C (oDec_at oJ9_floorDiv_7cf53 16 rfl) ⟨_, rfl, oqFlr_t (by omega) rfl (fun h9 => by exfalso; omega) (fun _ _ => by omega)⟩
set_option maxHeartbeats 4000000 in
set_option maxRecDepth 100000 in
theorem ct9_X0_join (l : Launch) (E : oE) (s : oS) (a0 : Int32) (a1 : Int32) (a2 : Int32) (t9 : Int) (hp0 : -1000000 ≤ a1.toInt ∧ a1.toInt ≤ 1000000) (hp1 : -1000000 ≤ a2.toInt ∧ a2.toInt ≤ 1000000) (hp2 : oqJo t9) (hp3 : a0.toInt = oqTau t9) (hp4 : (t9 = 14 ∨ t9 = 15) → ((a1.toInt = 0 ∨ a1.toInt = 1) ∧ (a2.toInt = 0 ∨ a2.toInt = 1))) : oMet l 2 yX0_join cX0_join 3 (some .int) [] E s [.int a0, .int a1, .int a2] (oPi (fun r u => (r.toInt = oqJn t9 a1.toInt a2.toInt))) := by
  refine oMet.of (lv := [(0, .int a0), (1, .int a1), (2, .int a2)]) (by decide +kernel) (Nat.le_of_ble_eq_true rfl) rfl (fun J C hT => ?_)
  have C : oC l 2 cX0_join RX0 3 (some .int) [] E s (oPi (fun r u => (r.toInt = oqJn t9 a1.toInt a2.toInt))) J := C
  obtain ⟨k0, qk0⟩ : ∃ z : Int32, z = 0 := ⟨_, rfl⟩
  have ek0 : k0.toInt = 0 := by rw [qk0]; rfl
  obtain ⟨k1, qk1⟩ : ∃ z : Int32, z = 1 := ⟨_, rfl⟩
  have ek1 : k1.toInt = 1 := by rw [qk1]; rfl
  have rg0 := n_rng a0
  have rg1 := n_rng a1
  have rg2 := n_rng a2
  have htv := oqTau_iv hp2 hp3
  refine r_iload_n C (j := 0) (oDec_at oX0_join 0 rfl) rfl rfl ?_
  by_cases cd1_0 : a0.toInt = 10021
  · refine r_tableIn C 56 (oDec_at oX0_join 1 rfl) (by omega) (by omega) (by rw [cd1_0]; rfl) (by decide) ?_
    have ht9 : t9 = 15 := by omega
    refine r_iload_n C (j := 1) (oDec_at oX0_join 2 rfl) rfl rfl ?_
    refine r_iload_n C (j := 2) (oDec_at oX0_join 3 rfl) rfl rfl ?_
    obtain ⟨v2, ev2⟩ : ∃ z : Int32, z = a1 ||| a2 := ⟨_, rfl⟩
    have rv2 := n_rng v2
    refine r_ior C v2 (oDec_at oX0_join 4 rfl) ev2 ?_
    exact r_iret C (oDec_at oX0_join 5 rfl) ⟨_, rfl, by rw [ht9]; exact oqOr01 ev2 (by omega) (by omega)⟩
  by_cases cd1_1 : a0.toInt = 10022
  · refine r_tableIn C 60 (oDec_at oX0_join 1 rfl) (by omega) (by omega) (by rw [cd1_1]; rfl) (by decide) ?_
    have ht9 : t9 = 14 := by omega
    refine r_iload_n C (j := 1) (oDec_at oX0_join 6 rfl) rfl rfl ?_
    refine r_iload_n C (j := 2) (oDec_at oX0_join 7 rfl) rfl rfl ?_
    obtain ⟨v3, ev3⟩ : ∃ z : Int32, z = a1 &&& a2 := ⟨_, rfl⟩
    have hv3 := n_and ev3
    have rv3 := n_rng v3
    refine r_iand C v3 (oDec_at oX0_join 8 rfl) ev3 ?_
    exact r_iret C (oDec_at oX0_join 9 rfl) ⟨_, rfl, by rw [ht9]; exact oqAnd01 ev3 (by omega) (by omega)⟩
  by_cases cd1_2 : a0.toInt = 10023
  · refine r_tableIn C 64 (oDec_at oX0_join 1 rfl) (by omega) (by omega) (by rw [cd1_2]; rfl) (by decide) ?_
    have ht9 : t9 = 11 := by omega
    refine r_iload_n C (j := 1) (oDec_at oX0_join 10 rfl) rfl rfl ?_
    refine r_iload_n C (j := 2) (oDec_at oX0_join 11 rfl) rfl rfl ?_
    refine r_icmp_ge C 73 (oDec_at oX0_join 12 rfl) (by decide) (fun cd4 => ?_) (fun cd4 => ?_)
    · skip
      refine r_iconst C (oDec_at oX0_join 15 rfl) (v := k0) (by rw [qk0]; rfl) ?_
      exact r_iret C (oDec_at oX0_join 16 rfl) ⟨_, rfl, by first | (rw [ht9, oqJn_11, if_pos (by omega)]; omega) | (rw [ht9, oqJn_11, if_neg (by omega)]; omega)⟩
    · skip
      refine r_iconst C (oDec_at oX0_join 13 rfl) (v := k1) (by rw [qk1]; rfl) ?_
      refine r_goto C (tgt := 74) (oDec_at oX0_join 14 rfl) (by decide) ?_
      exact r_iret C (oDec_at oX0_join 16 rfl) ⟨_, rfl, by first | (rw [ht9, oqJn_11, if_pos (by omega)]; omega) | (rw [ht9, oqJn_11, if_neg (by omega)]; omega)⟩
  by_cases cd1_3 : a0.toInt = 10024
  · refine r_tableIn C 75 (oDec_at oX0_join 1 rfl) (by omega) (by omega) (by rw [cd1_3]; rfl) (by decide) ?_
    have ht9 : t9 = 12 := by omega
    refine r_iload_n C (j := 1) (oDec_at oX0_join 17 rfl) rfl rfl ?_
    refine r_iload_n C (j := 2) (oDec_at oX0_join 18 rfl) rfl rfl ?_
    refine r_icmp_le C 84 (oDec_at oX0_join 19 rfl) (by decide) (fun cd5 => ?_) (fun cd5 => ?_)
    · skip
      refine r_iconst C (oDec_at oX0_join 22 rfl) (v := k0) (by rw [qk0]; rfl) ?_
      exact r_iret C (oDec_at oX0_join 23 rfl) ⟨_, rfl, by first | (rw [ht9, oqJn_12, if_pos (by omega)]; omega) | (rw [ht9, oqJn_12, if_neg (by omega)]; omega)⟩
    · skip
      refine r_iconst C (oDec_at oX0_join 20 rfl) (v := k1) (by rw [qk1]; rfl) ?_
      refine r_goto C (tgt := 85) (oDec_at oX0_join 21 rfl) (by decide) ?_
      exact r_iret C (oDec_at oX0_join 23 rfl) ⟨_, rfl, by first | (rw [ht9, oqJn_12, if_pos (by omega)]; omega) | (rw [ht9, oqJn_12, if_neg (by omega)]; omega)⟩
  by_cases cd1_4 : a0.toInt = 10025
  · refine r_tableIn C 86 (oDec_at oX0_join 1 rfl) (by omega) (by omega) (by rw [cd1_4]; rfl) (by decide) ?_
    have ht9 : t9 = 13 := by omega
    refine r_iload_n C (j := 1) (oDec_at oX0_join 24 rfl) rfl rfl ?_
    refine r_iload_n C (j := 2) (oDec_at oX0_join 25 rfl) rfl rfl ?_
    refine r_icmp_ne C 95 (oDec_at oX0_join 26 rfl) (by decide) (fun cd6 => ?_) (fun cd6 => ?_)
    · skip
      refine r_iconst C (oDec_at oX0_join 29 rfl) (v := k0) (by rw [qk0]; rfl) ?_
      exact r_iret C (oDec_at oX0_join 30 rfl) ⟨_, rfl, by first | (rw [ht9, oqJn_13, if_pos (by omega)]; omega) | (rw [ht9, oqJn_13, if_neg (by omega)]; omega)⟩
    · skip
      refine r_iconst C (oDec_at oX0_join 27 rfl) (v := k1) (by rw [qk1]; rfl) ?_
      refine r_goto C (tgt := 96) (oDec_at oX0_join 28 rfl) (by decide) ?_
      exact r_iret C (oDec_at oX0_join 30 rfl) ⟨_, rfl, by first | (rw [ht9, oqJn_13, if_pos (by omega)]; omega) | (rw [ht9, oqJn_13, if_neg (by omega)]; omega)⟩
  by_cases cd1_5 : a0.toInt = 10026
  · refine r_tableIn C 97 (oDec_at oX0_join 1 rfl) (by omega) (by omega) (by rw [cd1_5]; rfl) (by decide) ?_
    have ht9 : t9 = 1 := by omega
    refine r_iload_n C (j := 1) (oDec_at oX0_join 31 rfl) rfl rfl ?_
    obtain ⟨v7, ev7⟩ : ∃ z : Int64, a1.toInt64 = z := ⟨_, rfl⟩
    have hv7 : v7.toInt = a1.toInt := n_i2l ev7
    refine r_i2l C v7 (oDec_at oX0_join 32 rfl) ev7 ?_
    refine r_iload_n C (j := 2) (oDec_at oX0_join 33 rfl) rfl rfl ?_
    obtain ⟨v8, ev8⟩ : ∃ z : Int64, a2.toInt64 = z := ⟨_, rfl⟩
    have hv8 : v8.toInt = a2.toInt := n_i2l ev8
    refine r_i2l C v8 (oDec_at oX0_join 34 rfl) ev8 ?_
    obtain ⟨v9, ev9⟩ : ∃ z : Int64, z = v7 + v8 := ⟨_, rfl⟩
    have hv9 := n_ladd ev9 (by omega) (by omega)
    refine r_ladd C v9 (oDec_at oX0_join 35 rfl) ev9 ?_
    refine r_callSi C miX0_limited mlX0_50 (ct9_X0_limited l E (s) v9 ) (by decide) rfl rfl rfl (Nat.le_of_ble_eq_true rfl) (oDec_at oX0_join 36 rfl) (fun r11 u10 pu10 fu10 => ?_)
    try dsimp only at pu10
    have hxu10 := oFr_nil fu10; subst hxu10
    have rr11 := n_rng r11
    refine r_pc C 105 rfl ?_
    exact r_iret C (oDec_at oX0_join 37 rfl) ⟨_, rfl, by rw [ht9, oqJn_1]; exact pu10.trans (by first | (congr 1; omega) | congr 1)⟩
  by_cases cd1_6 : a0.toInt = 10027
  · refine r_tableIn C 106 (oDec_at oX0_join 1 rfl) (by omega) (by omega) (by rw [cd1_6]; rfl) (by decide) ?_
    have ht9 : t9 = 2 := by omega
    refine r_iload_n C (j := 1) (oDec_at oX0_join 38 rfl) rfl rfl ?_
    obtain ⟨v12, ev12⟩ : ∃ z : Int64, a1.toInt64 = z := ⟨_, rfl⟩
    have hv12 : v12.toInt = a1.toInt := n_i2l ev12
    refine r_i2l C v12 (oDec_at oX0_join 39 rfl) ev12 ?_
    refine r_iload_n C (j := 2) (oDec_at oX0_join 40 rfl) rfl rfl ?_
    obtain ⟨v13, ev13⟩ : ∃ z : Int64, a2.toInt64 = z := ⟨_, rfl⟩
    have hv13 : v13.toInt = a2.toInt := n_i2l ev13
    refine r_i2l C v13 (oDec_at oX0_join 41 rfl) ev13 ?_
    obtain ⟨v14, ev14⟩ : ∃ z : Int64, z = v12 - v13 := ⟨_, rfl⟩
    have hv14 := n_lsub ev14 (by omega) (by omega)
    refine r_lsub C v14 (oDec_at oX0_join 42 rfl) ev14 ?_
    refine r_callSi C miX0_limited mlX0_50 (ct9_X0_limited l E (s) v14 ) (by decide) rfl rfl rfl (Nat.le_of_ble_eq_true rfl) (oDec_at oX0_join 43 rfl) (fun r16 u15 pu15 fu15 => ?_)
    try dsimp only at pu15
    have hxu15 := oFr_nil fu15; subst hxu15
    have rr16 := n_rng r16
    refine r_pc C 114 rfl ?_
    exact r_iret C (oDec_at oX0_join 44 rfl) ⟨_, rfl, by rw [ht9, oqJn_2]; exact pu15.trans (by first | (congr 1; omega) | congr 1)⟩
  by_cases cd1_7 : a0.toInt = 10028
  · refine r_tableIn C 115 (oDec_at oX0_join 1 rfl) (by omega) (by omega) (by rw [cd1_7]; rfl) (by decide) ?_
    have ht9 : t9 = 3 := by omega
    refine r_iload_n C (j := 1) (oDec_at oX0_join 45 rfl) rfl rfl ?_
    obtain ⟨v17, ev17⟩ : ∃ z : Int64, a1.toInt64 = z := ⟨_, rfl⟩
    have hv17 : v17.toInt = a1.toInt := n_i2l ev17
    refine r_i2l C v17 (oDec_at oX0_join 46 rfl) ev17 ?_
    refine r_iload_n C (j := 2) (oDec_at oX0_join 47 rfl) rfl rfl ?_
    obtain ⟨v18, ev18⟩ : ∃ z : Int64, a2.toInt64 = z := ⟨_, rfl⟩
    have hv18 : v18.toInt = a2.toInt := n_i2l ev18
    refine r_i2l C v18 (oDec_at oX0_join 48 rfl) ev18 ?_
    obtain ⟨v19, ev19⟩ : ∃ z : Int64, z = v17 * v18 := ⟨_, rfl⟩
    have hv19 := n_lmulB ev19 (by omega) (by omega); rw [hv17, hv18] at hv19
    refine r_lmul C v19 (oDec_at oX0_join 49 rfl) ev19 ?_
    refine r_callSi C miX0_limited mlX0_50 (ct9_X0_limited l E (s) v19 ) (by decide) rfl rfl rfl (Nat.le_of_ble_eq_true rfl) (oDec_at oX0_join 50 rfl) (fun r21 u20 pu20 fu20 => ?_)
    try dsimp only at pu20
    have hxu20 := oFr_nil fu20; subst hxu20
    have rr21 := n_rng r21
    refine r_pc C 123 rfl ?_
    exact r_iret C (oDec_at oX0_join 51 rfl) ⟨_, rfl, by rw [ht9, oqJn_3]; exact pu20.trans (by first | (congr 1; omega) | congr 1)⟩
  by_cases cd1_8 : a0.toInt = 10029
  · refine r_tableIn C 124 (oDec_at oX0_join 1 rfl) (by omega) (by omega) (by rw [cd1_8]; rfl) (by decide) ?_
    have ht9 : t9 = 4 := by omega
    refine r_iload_n C (j := 2) (oDec_at oX0_join 52 rfl) rfl rfl ?_
    refine r_if_ne C 132 (oDec_at oX0_join 53 rfl) (by decide) (fun cd22 => ?_) (fun cd22 => ?_)
    · skip
      refine r_iload_n C (j := 1) (oDec_at oX0_join 56 rfl) rfl rfl ?_
      refine r_iload_n C (j := 2) (oDec_at oX0_join 57 rfl) rfl rfl ?_
      refine r_callSi C miJ9_floorDiv_7cf53 mlX0_54 (ct9_J9_floorDiv l E (s) a1 a2 (by omega) (by omega)) (by decide) rfl rfl rfl (Nat.le_of_ble_eq_true rfl) (oDec_at oX0_join 58 rfl) (fun r24 u23 pu23 fu23 => ?_)
      try dsimp only at pu23
      have hxu23 := oFr_nil fu23; subst hxu23
      have rr24 := n_rng r24
      exact r_iret C (oDec_at oX0_join 59 rfl) ⟨_, rfl, by first | (rw [ht9, oqJn_4]; exact pu23) | (rw [ht9, oqJn_4]; unfold oqFlr; rw [if_pos (by omega)]; omega)⟩
    · skip
      refine r_iconst C (oDec_at oX0_join 54 rfl) (v := k0) (by rw [qk0]; rfl) ?_
      refine r_goto C (tgt := 137) (oDec_at oX0_join 55 rfl) (by decide) ?_
      exact r_iret C (oDec_at oX0_join 59 rfl) ⟨_, rfl, by first | (rw [ht9, oqJn_4]; unfold oqFlr; rw [if_pos (by omega)]; omega)⟩
  by_cases cd1_9 : a0.toInt = 10030
  · refine r_tableIn C 138 (oDec_at oX0_join 1 rfl) (by omega) (by omega) (by rw [cd1_9]; rfl) (by decide) ?_
    have ht9 : t9 = 5 := by omega
    refine r_iload_n C (j := 1) (oDec_at oX0_join 60 rfl) rfl rfl ?_
    refine r_iload_n C (j := 2) (oDec_at oX0_join 61 rfl) rfl rfl ?_
    refine r_callSi C miJ9_min_7cf53 mlX0_60 (ct_J9_min_7cf53 l E (s) a1 a2 ) (by decide) rfl rfl rfl (Nat.le_of_ble_eq_true rfl) (oDec_at oX0_join 62 rfl) (fun r26 u25 pu25 fu25 => ?_)
    try dsimp only at pu25
    have hxu25 := oFr_nil fu25; subst hxu25
    have rr26 := n_rng r26
    exact r_iret C (oDec_at oX0_join 63 rfl) ⟨_, rfl, by rw [ht9, oqJn_5]; show r26.toInt = _; by_cases h9 : a1.toInt ≤ a2.toInt; (rw [if_pos h9]; omega); (rw [if_neg h9]; omega)⟩
  refine r_tableOut C 144 (oDec_at oX0_join 1 rfl) (by omega) (by decide) ?_
  have ht9 : t9 = 6 := by omega
  refine r_iload_n C (j := 1) (oDec_at oX0_join 64 rfl) rfl rfl ?_
  refine r_iload_n C (j := 2) (oDec_at oX0_join 65 rfl) rfl rfl ?_
  refine r_callSi C miJ9_max_7cf53 mlX0_63 (ct_J9_max_7cf53 l E (s) a1 a2 ) (by decide) rfl rfl rfl (Nat.le_of_ble_eq_true rfl) (oDec_at oX0_join 66 rfl) (fun r28 u27 pu27 fu27 => ?_)
  try dsimp only at pu27
  have hxu27 := oFr_nil fu27; subst hxu27
  have rr28 := n_rng r28
  exact r_iret C (oDec_at oX0_join 67 rfl) ⟨_, rfl, by rw [ht9, oqJn_6]; show r28.toInt = _; by_cases h9 : a1.toInt ≤ a2.toInt; (rw [if_pos h9]; omega); (rw [if_neg h9]; omega)⟩
