set_option maxHeartbeats 4000000 in
set_option maxRecDepth 100000 in
theorem ct_X9_take (l : Launch) (E : oE) (s : oS) (c0 : Nat) (hk0 : okd c0 = 9) (a1 : Int32)  : oMet l 1 yX9_take cX9_take 2 none [(9, 0), (9, 1), (9, 2), (9, 3), (9, 4)] E s [.ref (oad E c0), .int a1] (oPv (fun u => True)) := by
  refine oMet.of (lv := [(0, .ref (oad E c0)), (1, .int a1)]) (by decide +kernel) (Nat.le_of_ble_eq_true rfl) rfl (fun J C hT => ?_)
  have C : oC l 1 cX9_take RX9 2 none [(9, 0), (9, 1), (9, 2), (9, 3), (9, 4)] E s (oPv (fun u => True)) J := C
  obtain ⟨k2, qk2⟩ : ∃ z : Int32, z = 2 := ⟨_, rfl⟩
  have ek2 : k2.toInt = 2 := by rw [qk2]; rfl
  obtain ⟨k3, qk3⟩ : ∃ z : Int32, z = 3 := ⟨_, rfl⟩
  have ek3 : k3.toInt = 3 := by rw [qk3]; rfl
  obtain ⟨k6, qk6⟩ : ∃ z : Int32, z = 6 := ⟨_, rfl⟩
  have ek6 : k6.toInt = 6 := by rw [qk6]; rfl
  obtain ⟨k7, qk7⟩ : ∃ z : Int32, z = 7 := ⟨_, rfl⟩
  have ek7 : k7.toInt = 7 := by rw [qk7]; rfl
  obtain ⟨k12, qk12⟩ : ∃ z : Int32, z = 12 := ⟨_, rfl⟩
  have ek12 : k12.toInt = 12 := by rw [qk12]; rfl
  obtain ⟨k15, qk15⟩ : ∃ z : Int32, z = 15 := ⟨_, rfl⟩
  have ek15 : k15.toInt = 15 := by rw [qk15]; rfl
  obtain ⟨k180, qk180⟩ : ∃ z : Int32, z = 180 := ⟨_, rfl⟩
  have ek180 : k180.toInt = 180 := by rw [qk180]; rfl
  have rg1 := n_rng a1
  refine r_aload_n C (j := 0) (oDec_at oX9_take 0 rfl) rfl rfl ?_
  refine r_iload_n C (j := 1) (oDec_at oX9_take 1 rfl) rfl rfl ?_
  refine r_sipush C (oDec_at oX9_take 2 rfl) (v := k180) (by rw [qk180]; rfl) ?_
  obtain ⟨v1, ev1⟩ : ∃ z : Int32, z = a1 / k180 := ⟨_, rfl⟩
  have hv1 := n_divP (k := 180) ev1 ek180 (by decide)
  have rv1 := n_rng v1
  refine r_idiv C v1 (oDec_at oX9_take 3 rfl) (n_ne0 (by omega)) ev1 ?_
  refine r_puti (k := 0) (lo := (-2147483648)) (hi := 2147483647) C oCl9 hk0 (by decide) flX9_9 rfl rfl rfl rfl rfl rfl rfl rfl (n_rng _) (oDec_at oX9_take 4 rfl) ?_
  refine r_aload_n C (j := 0) (oDec_at oX9_take 5 rfl) rfl rfl ?_
  refine r_pc C 10 rfl ?_
  refine r_iload_n C (j := 1) (oDec_at oX9_take 6 rfl) rfl rfl ?_
  refine r_bipush C (oDec_at oX9_take 7 rfl) (v := k12) (by rw [qk12]; rfl) ?_
  obtain ⟨v2, ev2⟩ : ∃ z : Int32, z = a1 / k12 := ⟨_, rfl⟩
  have hv2 := n_divP (k := 12) ev2 ek12 (by decide)
  have rv2 := n_rng v2
  refine r_idiv C v2 (oDec_at oX9_take 8 rfl) (n_ne0 (by omega)) ev2 ?_
  refine r_bipush C (oDec_at oX9_take 9 rfl) (v := k15) (by rw [qk15]; rfl) ?_
  obtain ⟨v3, ev3⟩ : ∃ z : Int32, z = v2 - v2 / k15 * k15 := ⟨_, rfl⟩
  have hv3 := n_rem (k := 15) ev3 ek15 (by decide)
  have rv3 := n_rng v3
  refine r_irem C v3 (oDec_at oX9_take 10 rfl) (n_ne0 (by omega)) ev3 ?_
  refine r_bipush C (oDec_at oX9_take 11 rfl) (v := k7) (by rw [qk7]; rfl) ?_
  refine r_pc C 19 rfl ?_
  obtain ⟨v4, ev4⟩ : ∃ z : Int32, z = v3 - k7 := ⟨_, rfl⟩
  have rv4 := n_rng v4
  refine r_isub C v4 (oDec_at oX9_take 12 rfl) ev4 ?_
  refine r_puti (k := 1) (lo := (-2147483648)) (hi := 2147483647) C oCl9 hk0 (by decide) flX9_15 rfl rfl rfl rfl rfl rfl rfl rfl (n_rng _) (oDec_at oX9_take 13 rfl) ?_
  refine r_aload_n C (j := 0) (oDec_at oX9_take 14 rfl) rfl rfl ?_
  refine r_iload_n C (j := 1) (oDec_at oX9_take 15 rfl) rfl rfl ?_
  refine r_bipush C (oDec_at oX9_take 16 rfl) (v := k6) (by rw [qk6]; rfl) ?_
  obtain ⟨v5, ev5⟩ : ∃ z : Int32, z = a1 / k6 := ⟨_, rfl⟩
  have hv5 := n_divP (k := 6) ev5 ek6 (by decide)
  have rv5 := n_rng v5
  refine r_idiv C v5 (oDec_at oX9_take 17 rfl) (n_ne0 (by omega)) ev5 ?_
  refine r_pc C 28 rfl ?_
  refine r_iconst C (oDec_at oX9_take 18 rfl) (v := k2) (by rw [qk2]; rfl) ?_
  obtain ⟨v6, ev6⟩ : ∃ z : Int32, z = v5 - v5 / k2 * k2 := ⟨_, rfl⟩
  have hv6 := n_rem (k := 2) ev6 ek2 (by decide)
  have rv6 := n_rng v6
  refine r_irem C v6 (oDec_at oX9_take 19 rfl) (n_ne0 (by omega)) ev6 ?_
  refine r_puti (k := 2) (lo := (-2147483648)) (hi := 2147483647) C oCl9 hk0 (by decide) flX9_18 rfl rfl rfl rfl rfl rfl rfl rfl (n_rng _) (oDec_at oX9_take 20 rfl) ?_
  refine r_aload_n C (j := 0) (oDec_at oX9_take 21 rfl) rfl rfl ?_
  refine r_iload_n C (j := 1) (oDec_at oX9_take 22 rfl) rfl rfl ?_
  refine r_iconst C (oDec_at oX9_take 23 rfl) (v := k3) (by rw [qk3]; rfl) ?_
  refine r_pc C 36 rfl ?_
  obtain ⟨v7, ev7⟩ : ∃ z : Int32, z = a1 / k3 := ⟨_, rfl⟩
  have hv7 := n_divP (k := 3) ev7 ek3 (by decide)
  have rv7 := n_rng v7
  refine r_idiv C v7 (oDec_at oX9_take 24 rfl) (n_ne0 (by omega)) ev7 ?_
  refine r_iconst C (oDec_at oX9_take 25 rfl) (v := k2) (by rw [qk2]; rfl) ?_
  obtain ⟨v8, ev8⟩ : ∃ z : Int32, z = v7 - v7 / k2 * k2 := ⟨_, rfl⟩
  have hv8 := n_rem (k := 2) ev8 ek2 (by decide)
  have rv8 := n_rng v8
  refine r_irem C v8 (oDec_at oX9_take 26 rfl) (n_ne0 (by omega)) ev8 ?_
  refine r_puti (k := 3) (lo := (-2147483648)) (hi := 2147483647) C oCl9 hk0 (by decide) flX9_21 rfl rfl rfl rfl rfl rfl rfl rfl (n_rng _) (oDec_at oX9_take 27 rfl) ?_
  refine r_aload_n C (j := 0) (oDec_at oX9_take 28 rfl) rfl rfl ?_
  refine r_iload_n C (j := 1) (oDec_at oX9_take 29 rfl) rfl rfl ?_
  refine r_pc C 44 rfl ?_
  refine r_iconst C (oDec_at oX9_take 30 rfl) (v := k3) (by rw [qk3]; rfl) ?_
  obtain ⟨v9, ev9⟩ : ∃ z : Int32, z = a1 - a1 / k3 * k3 := ⟨_, rfl⟩
  have hv9 := n_rem (k := 3) ev9 ek3 (by decide)
  have rv9 := n_rng v9
  refine r_irem C v9 (oDec_at oX9_take 31 rfl) (n_ne0 (by omega)) ev9 ?_
  refine r_puti (k := 4) (lo := (-2147483648)) (hi := 2147483647) C oCl9 hk0 (by decide) flX9_24 rfl rfl rfl rfl rfl rfl rfl rfl (n_rng _) (oDec_at oX9_take 32 rfl) ?_
  exact r_vret C (oDec_at oX9_take 33 rfl) ⟨rfl, trivial⟩
set_option maxHeartbeats 4000000 in
set_option maxRecDepth 100000 in
theorem ct_X9_stretch (l : Launch) (E : oE) (s : oS) (c0 : Nat) (hk0 : okd c0 = 9) (a1 : Int32)  : oMet l 1 yX9_stretch cX9_stretch 2 (some .int) [] E s [.ref (oad E c0), .int a1] (oPi (fun r u => True)) := by
  refine oMet.of (lv := [(0, .ref (oad E c0)), (1, .int a1)]) (by decide +kernel) (Nat.le_of_ble_eq_true rfl) rfl (fun J C hT => ?_)
  have C : oC l 1 cX9_stretch RX9 2 (some .int) [] E s (oPi (fun r u => True)) J := C
  obtain ⟨k1, qk1⟩ : ∃ z : Int32, z = 1 := ⟨_, rfl⟩
  have ek1 : k1.toInt = 1 := by rw [qk1]; rfl
  obtain ⟨k2, qk2⟩ : ∃ z : Int32, z = 2 := ⟨_, rfl⟩
  have ek2 : k2.toInt = 2 := by rw [qk2]; rfl
  have rg1 := n_rng a1
  refine r_aload_n C (j := 0) (oDec_at oX9_stretch 0 rfl) rfl rfl ?_
  obtain ⟨v1, ev1⟩ : ∃ z : Int32, (s).1 c0 4 = z := ⟨_, rfl⟩
  have gv1 : (s.1 c0 4).toInt = v1.toInt := congrArg Int32.toInt (ev1)
  have rv1 := n_rng v1
  refine r_geti (k := 4) (lo := (-2147483648)) (hi := 2147483647) C v1 oCl9 hk0 (by decide) flX9_24 rfl rfl (ev1) rfl rfl (oDec_at oX9_stretch 1 rfl) (fun _ _ => ?_)
  refine r_iconst C (oDec_at oX9_stretch 2 rfl) (v := k1) (by rw [qk1]; rfl) ?_
  refine r_icmp_ne C 12 (oDec_at oX9_stretch 3 rfl) (by decide) (fun cd2 => ?_) (fun cd2 => ?_)
  · skip
    refine r_aload_n C (j := 0) (oDec_at oX9_stretch 8 rfl) rfl rfl ?_
    refine r_geti (k := 4) (lo := (-2147483648)) (hi := 2147483647) C v1 oCl9 hk0 (by decide) flX9_24 rfl rfl (ev1) rfl rfl (oDec_at oX9_stretch 9 rfl) (fun _ _ => ?_)
    refine r_iconst C (oDec_at oX9_stretch 10 rfl) (v := k2) (by rw [qk2]; rfl) ?_
    refine r_icmp_ne C 28 (oDec_at oX9_stretch 11 rfl) (by decide) (fun cd3 => ?_) (fun cd3 => ?_)
    · skip
      refine r_iload_n C (j := 1) (oDec_at oX9_stretch 18 rfl) rfl rfl ?_
      exact r_iret C (oDec_at oX9_stretch 19 rfl) ⟨_, rfl, trivial⟩
    · skip
      refine r_iload_n C (j := 1) (oDec_at oX9_stretch 12 rfl) rfl rfl ?_
      refine r_iconst C (oDec_at oX9_stretch 13 rfl) (v := k1) (by rw [qk1]; rfl) ?_
      obtain ⟨v4, ev4⟩ : ∃ z : Int32, z = a1 + k1 := ⟨_, rfl⟩
      have rv4 := n_rng v4
      refine r_iadd C v4 (oDec_at oX9_stretch 14 rfl) ev4 ?_
      refine r_iconst C (oDec_at oX9_stretch 15 rfl) (v := k2) (by rw [qk2]; rfl) ?_
      obtain ⟨v5, ev5⟩ : ∃ z : Int32, z = v4 / k2 := ⟨_, rfl⟩
      have hv5 := n_divP (k := 2) ev5 ek2 (by decide)
      have rv5 := n_rng v5
      refine r_idiv C v5 (oDec_at oX9_stretch 16 rfl) (n_ne0 (by omega)) ev5 ?_
      refine r_goto C (tgt := 29) (oDec_at oX9_stretch 17 rfl) (by decide) ?_
      exact r_iret C (oDec_at oX9_stretch 19 rfl) ⟨_, rfl, trivial⟩
  · skip
    refine r_iconst C (oDec_at oX9_stretch 4 rfl) (v := k2) (by rw [qk2]; rfl) ?_
    refine r_iload_n C (j := 1) (oDec_at oX9_stretch 5 rfl) rfl rfl ?_
    obtain ⟨v6, ev6⟩ : ∃ z : Int32, z = k2 * a1 := ⟨_, rfl⟩
    have rv6 := n_rng v6
    refine r_imul C v6 (oDec_at oX9_stretch 6 rfl) ev6 ?_
    exact r_iret C (oDec_at oX9_stretch 7 rfl) ⟨_, rfl, trivial⟩
set_option maxHeartbeats 4000000 in
set_option maxRecDepth 100000 in
theorem ct_X9_stop (l : Launch) (E : oE) (s : oS) (c0 : Nat) (hk0 : okd c0 = 9) (c1 : Nat) (hk1 : okd c1 = 4)  : oMet l 2 yX9_stop cX9_stop 2 (some .int) [] E s [.ref (oad E c0), .ref (oad E c1)] (oPi (fun r u => True)) := by
  refine oMet.of (lv := [(0, .ref (oad E c0)), (1, .ref (oad E c1))]) (by decide +kernel) (Nat.le_of_ble_eq_true rfl) rfl (fun J C hT => ?_)
  have C : oC l 2 cX9_stop RX9 2 (some .int) [] E s (oPi (fun r u => True)) J := C
  refine r_aload_n C (j := 0) (oDec_at oX9_stop 0 rfl) rfl rfl ?_
  obtain ⟨v1, ev1⟩ : ∃ z : Int32, (s).1 c0 0 = z := ⟨_, rfl⟩
  have gv1 : (s.1 c0 0).toInt = v1.toInt := congrArg Int32.toInt (ev1)
  have rv1 := n_rng v1
  refine r_geti (k := 0) (lo := (-2147483648)) (hi := 2147483647) C v1 oCl9 hk0 (by decide) flX9_9 rfl rfl (ev1) rfl rfl (oDec_at oX9_stop 1 rfl) (fun _ _ => ?_)
  refine r_aload_n C (j := 0) (oDec_at oX9_stop 2 rfl) rfl rfl ?_
  refine r_aload_n C (j := 1) (oDec_at oX9_stop 3 rfl) rfl rfl ?_
  obtain ⟨v2, ev2⟩ : ∃ z : Int32, (s).1 c1 5 = z := ⟨_, rfl⟩
  have gv2 : (s.1 c1 5).toInt = v2.toInt := congrArg Int32.toInt (ev2)
  refine r_getiN (k := 5) (lo := 0) (hi := 96) C v2 oCl4 hk1 (by decide) flX9_27 rfl rfl (ev2) rfl rfl (oDec_at oX9_stop 4 rfl) (fun b3 b3h => ?_)
  refine r_callVi C oCl9 hk0 miX9_stretch mlX9_32 (ct_X9_stretch l E (s) c0 hk0 v2 ) (by decide) rfl rfl rfl (Nat.le_of_ble_eq_true rfl) (oDec_at oX9_stop 5 rfl) (fun r5 u4 pu4 fu4 => ?_)
  try dsimp only at pu4
  have rr5 := n_rng r5
  refine r_pc C 12 rfl ?_
  obtain ⟨v6, ev6⟩ : ∃ z : Int32, z = v1 + r5 := ⟨_, rfl⟩
  have rv6 := n_rng v6
  refine r_iadd C v6 (oDec_at oX9_stop 6 rfl) ev6 ?_
  exact r_iret C (oDec_at oX9_stop 7 rfl) ⟨_, rfl, trivial⟩
set_option maxHeartbeats 4000000 in
set_option maxRecDepth 100000 in
theorem ct_X9_turned (l : Launch) (E : oE) (s : oS) (c0 : Nat) (hk0 : okd c0 = 9) (c1 : Nat) (hk1 : okd c1 = 4) (a2 : Int32)  : oMet l 2 yX9_turned cX9_turned 3 (some .int) [] E s [.ref (oad E c0), .ref (oad E c1), .int a2] (oPi (fun r u => True)) := by
  refine oMet.of (lv := [(0, .ref (oad E c0)), (1, .ref (oad E c1)), (2, .int a2)]) (by decide +kernel) (Nat.le_of_ble_eq_true rfl) rfl (fun J C hT => ?_)
  have C : oC l 2 cX9_turned RX9 3 (some .int) [] E s (oPi (fun r u => True)) J := C
  obtain ⟨k1, qk1⟩ : ∃ z : Int32, z = 1 := ⟨_, rfl⟩
  have ek1 : k1.toInt = 1 := by rw [qk1]; rfl
  have rg2 := n_rng a2
  refine r_aload_n C (j := 1) (oDec_at oX9_turned 0 rfl) rfl rfl ?_
  refine r_aload_n C (j := 0) (oDec_at oX9_turned 1 rfl) rfl rfl ?_
  obtain ⟨v1, ev1⟩ : ∃ z : Int32, (s).1 c0 3 = z := ⟨_, rfl⟩
  have gv1 : (s.1 c0 3).toInt = v1.toInt := congrArg Int32.toInt (ev1)
  have rv1 := n_rng v1
  refine r_geti (k := 3) (lo := (-2147483648)) (hi := 2147483647) C v1 oCl9 hk0 (by decide) flX9_21 rfl rfl (ev1) rfl rfl (oDec_at oX9_turned 2 rfl) (fun _ _ => ?_)
  refine r_iconst C (oDec_at oX9_turned 3 rfl) (v := k1) (by rw [qk1]; rfl) ?_
  refine r_icmp_ne C 20 (oDec_at oX9_turned 4 rfl) (by decide) (fun cd2 => ?_) (fun cd2 => ?_)
  · skip
    refine r_iload_n C (j := 2) (oDec_at oX9_turned 12 rfl) rfl rfl ?_
    refine r_callVi C oCl4 hk1 miX4_ownerOf mlX9_40 (ct_X4_ownerOf l E (s) c1 hk1 a2 ) (by decide) rfl rfl rfl (Nat.le_of_ble_eq_true rfl) (oDec_at oX9_turned 13 rfl) (fun r4 u3 pu3 fu3 => ?_)
    try dsimp only at pu3
    have rr4 := n_rng r4
    exact r_iret C (oDec_at oX9_turned 14 rfl) ⟨_, rfl, trivial⟩
  · skip
    refine r_aload_n C (j := 1) (oDec_at oX9_turned 5 rfl) rfl rfl ?_
    obtain ⟨v5, ev5⟩ : ∃ z : Int32, (s).1 c1 5 = z := ⟨_, rfl⟩
    have gv5 : (s.1 c1 5).toInt = v5.toInt := congrArg Int32.toInt (ev5)
    refine r_getiN (k := 5) (lo := 0) (hi := 96) C v5 oCl4 hk1 (by decide) flX9_27 rfl rfl (ev5) rfl rfl (oDec_at oX9_turned 6 rfl) (fun b6 b6h => ?_)
    refine r_iconst C (oDec_at oX9_turned 7 rfl) (v := k1) (by rw [qk1]; rfl) ?_
    obtain ⟨v7, ev7⟩ : ∃ z : Int32, z = v5 - k1 := ⟨_, rfl⟩
    have rv7 := n_rng v7
    refine r_isub C v7 (oDec_at oX9_turned 8 rfl) ev7 ?_
    refine r_iload_n C (j := 2) (oDec_at oX9_turned 9 rfl) rfl rfl ?_
    obtain ⟨v8, ev8⟩ : ∃ z : Int32, z = v7 - a2 := ⟨_, rfl⟩
    have rv8 := n_rng v8
    refine r_isub C v8 (oDec_at oX9_turned 10 rfl) ev8 ?_
    refine r_pc C 17 rfl ?_
    refine r_goto C (tgt := 21) (oDec_at oX9_turned 11 rfl) (by decide) ?_
    refine r_callVi C oCl4 hk1 miX4_ownerOf mlX9_40 (ct_X4_ownerOf l E (s) c1 hk1 v8 ) (by decide) rfl rfl rfl (Nat.le_of_ble_eq_true rfl) (oDec_at oX9_turned 13 rfl) (fun r10 u9 pu9 fu9 => ?_)
    try dsimp only at pu9
    have rr10 := n_rng r10
    exact r_iret C (oDec_at oX9_turned 14 rfl) ⟨_, rfl, trivial⟩
set_option maxHeartbeats 4000000 in
set_option maxRecDepth 100000 in
theorem ct_X9_number (l : Launch) (E : oE) (s : oS) (c0 : Nat) (hk0 : okd c0 = 9) (c1 : Nat) (hk1 : okd c1 = 4) (a2 : Int32)  : oMet l 3 yX9_number cX9_number 4 (some .int) [] E s [.ref (oad E c0), .ref (oad E c1), .int a2] (oPi (fun r u => True)) := by
  refine oMet.of (lv := [(0, .ref (oad E c0)), (1, .ref (oad E c1)), (2, .int a2)]) (by decide +kernel) (Nat.le_of_ble_eq_true rfl) rfl (fun J C hT => ?_)
  have C : oC l 3 cX9_number RX9 4 (some .int) [] E s (oPi (fun r u => True)) J := C
  obtain ⟨km1, qkm1⟩ : ∃ z : Int32, z = (-1) := ⟨_, rfl⟩
  have ekm1 : km1.toInt = (-1) := by rw [qkm1]; rfl
  obtain ⟨k1, qk1⟩ : ∃ z : Int32, z = 1 := ⟨_, rfl⟩
  have ek1 : k1.toInt = 1 := by rw [qk1]; rfl
  obtain ⟨k2, qk2⟩ : ∃ z : Int32, z = 2 := ⟨_, rfl⟩
  have ek2 : k2.toInt = 2 := by rw [qk2]; rfl
  have rg2 := n_rng a2
  refine r_iload_n C (j := 2) (oDec_at oX9_number 0 rfl) rfl rfl ?_
  refine r_aload_n C (j := 0) (oDec_at oX9_number 1 rfl) rfl rfl ?_
  obtain ⟨v1, ev1⟩ : ∃ z : Int32, (s).1 c0 0 = z := ⟨_, rfl⟩
  have gv1 : (s.1 c0 0).toInt = v1.toInt := congrArg Int32.toInt (ev1)
  have rv1 := n_rng v1
  refine r_geti (k := 0) (lo := (-2147483648)) (hi := 2147483647) C v1 oCl9 hk0 (by decide) flX9_9 rfl rfl (ev1) rfl rfl (oDec_at oX9_number 2 rfl) (fun _ _ => ?_)
  obtain ⟨v2, ev2⟩ : ∃ z : Int32, z = a2 - v1 := ⟨_, rfl⟩
  have rv2 := n_rng v2
  refine r_isub C v2 (oDec_at oX9_number 3 rfl) ev2 ?_
  refine r_istore_n C (lv' := [(0, .ref (oad E c0)), (1, .ref (oad E c1)), (2, .int a2), (3, .int v2)]) [1, 2, 3, 0] (oDec_at oX9_number 4 rfl) rfl (by decide) rfl ?_
  refine r_iload_n C (j := 3) (oDec_at oX9_number 5 rfl) rfl rfl ?_
  refine r_pc C 8 rfl ?_
  refine r_if_ge C 13 (oDec_at oX9_number 6 rfl) (by decide) (fun cd3 => ?_) (fun cd3 => ?_)
  · skip
    refine r_aload_n C (j := 0) (oDec_at oX9_number 9 rfl) rfl rfl ?_
    obtain ⟨v4, ev4⟩ : ∃ z : Int32, (s).1 c0 4 = z := ⟨_, rfl⟩
    have gv4 : (s.1 c0 4).toInt = v4.toInt := congrArg Int32.toInt (ev4)
    have rv4 := n_rng v4
    refine r_geti (k := 4) (lo := (-2147483648)) (hi := 2147483647) C v4 oCl9 hk0 (by decide) flX9_24 rfl rfl (ev4) rfl rfl (oDec_at oX9_number 10 rfl) (fun _ _ => ?_)
    refine r_iconst C (oDec_at oX9_number 11 rfl) (v := k1) (by rw [qk1]; rfl) ?_
    refine r_icmp_ne C 30 (oDec_at oX9_number 12 rfl) (by decide) (fun cd5 => ?_) (fun cd5 => ?_)
    · skip
      refine r_aload_n C (j := 0) (oDec_at oX9_number 20 rfl) rfl rfl ?_
      refine r_aload_n C (j := 1) (oDec_at oX9_number 21 rfl) rfl rfl ?_
      refine r_aload_n C (j := 0) (oDec_at oX9_number 22 rfl) rfl rfl ?_
      refine r_geti (k := 4) (lo := (-2147483648)) (hi := 2147483647) C v4 oCl9 hk0 (by decide) flX9_24 rfl rfl (ev4) rfl rfl (oDec_at oX9_number 23 rfl) (fun _ _ => ?_)
      refine r_iconst C (oDec_at oX9_number 24 rfl) (v := k2) (by rw [qk2]; rfl) ?_
      refine r_icmp_ne C 46 (oDec_at oX9_number 25 rfl) (by decide) (fun cd6 => ?_) (fun cd6 => ?_)
      · skip
        refine r_iload_n C (j := 3) (oDec_at oX9_number 30 rfl) rfl rfl ?_
        refine r_callVi C oCl9 hk0 miX9_turned mlX9_36 (ct_X9_turned l E (s) c0 hk0 c1 hk1 v2 ) (by decide) rfl rfl rfl (Nat.le_of_ble_eq_true rfl) (oDec_at oX9_number 31 rfl) (fun r8 u7 pu7 fu7 => ?_)
        try dsimp only at pu7
        have rr8 := n_rng r8
        exact r_iret C (oDec_at oX9_number 32 rfl) ⟨_, rfl, trivial⟩
      · skip
        refine r_iconst C (oDec_at oX9_number 26 rfl) (v := k2) (by rw [qk2]; rfl) ?_
        refine r_iload_n C (j := 3) (oDec_at oX9_number 27 rfl) rfl rfl ?_
        obtain ⟨v9, ev9⟩ : ∃ z : Int32, z = k2 * v2 := ⟨_, rfl⟩
        have rv9 := n_rng v9
        refine r_imul C v9 (oDec_at oX9_number 28 rfl) ev9 ?_
        refine r_goto C (tgt := 47) (oDec_at oX9_number 29 rfl) (by decide) ?_
        refine r_callVi C oCl9 hk0 miX9_turned mlX9_36 (ct_X9_turned l E (s) c0 hk0 c1 hk1 v9 ) (by decide) rfl rfl rfl (Nat.le_of_ble_eq_true rfl) (oDec_at oX9_number 31 rfl) (fun r11 u10 pu10 fu10 => ?_)
        try dsimp only at pu10
        have rr11 := n_rng r11
        exact r_iret C (oDec_at oX9_number 32 rfl) ⟨_, rfl, trivial⟩
    · skip
      refine r_aload_n C (j := 0) (oDec_at oX9_number 13 rfl) rfl rfl ?_
      refine r_aload_n C (j := 1) (oDec_at oX9_number 14 rfl) rfl rfl ?_
      refine r_iload_n C (j := 3) (oDec_at oX9_number 15 rfl) rfl rfl ?_
      refine r_iconst C (oDec_at oX9_number 16 rfl) (v := k2) (by rw [qk2]; rfl) ?_
      obtain ⟨v12, ev12⟩ : ∃ z : Int32, z = v2 / k2 := ⟨_, rfl⟩
      have hv12 := n_divP (k := 2) ev12 ek2 (by decide)
      have rv12 := n_rng v12
      refine r_idiv C v12 (oDec_at oX9_number 17 rfl) (n_ne0 (by omega)) ev12 ?_
      refine r_callVi C oCl9 hk0 miX9_turned mlX9_36 (ct_X9_turned l E (s) c0 hk0 c1 hk1 v12 ) (by decide) rfl rfl rfl (Nat.le_of_ble_eq_true rfl) (oDec_at oX9_number 18 rfl) (fun r14 u13 pu13 fu13 => ?_)
      try dsimp only at pu13
      have rr14 := n_rng r14
      refine r_pc C 29 rfl ?_
      exact r_iret C (oDec_at oX9_number 19 rfl) ⟨_, rfl, trivial⟩
  · skip
    refine r_iconst C (oDec_at oX9_number 7 rfl) (v := km1) (by rw [qkm1]; rfl) ?_
    exact r_iret C (oDec_at oX9_number 8 rfl) ⟨_, rfl, trivial⟩
set_option maxHeartbeats 4000000 in
set_option maxRecDepth 100000 in
theorem ct_X9_tone (l : Launch) (E : oE) (s : oS) (c0 : Nat) (hk0 : okd c0 = 9) (c1 : Nat) (hk1 : okd c1 = 4) (a2 : Int32)  : oMet l 3 yX9_tone cX9_tone 4 (some .int) [] E s [.ref (oad E c0), .ref (oad E c1), .int a2] (oPi (fun r u => True)) := by
  refine oMet.of (lv := [(0, .ref (oad E c0)), (1, .ref (oad E c1)), (2, .int a2)]) (by decide +kernel) (Nat.le_of_ble_eq_true rfl) rfl (fun J C hT => ?_)
  have C : oC l 3 cX9_tone RX9 4 (some .int) [] E s (oPi (fun r u => True)) J := C
  obtain ⟨km1000000000, qkm1000000000⟩ : ∃ z : Int32, z = (-1000000000) := ⟨_, rfl⟩
  have ekm1000000000 : km1000000000.toInt = (-1000000000) := by rw [qkm1000000000]; rfl
  obtain ⟨km1, qkm1⟩ : ∃ z : Int32, z = (-1) := ⟨_, rfl⟩
  have ekm1 : km1.toInt = (-1) := by rw [qkm1]; rfl
  obtain ⟨k1, qk1⟩ : ∃ z : Int32, z = 1 := ⟨_, rfl⟩
  have ek1 : k1.toInt = 1 := by rw [qk1]; rfl
  obtain ⟨k2, qk2⟩ : ∃ z : Int32, z = 2 := ⟨_, rfl⟩
  have ek2 : k2.toInt = 2 := by rw [qk2]; rfl
  have rg2 := n_rng a2
  refine r_aload_n C (j := 1) (oDec_at oX9_tone 0 rfl) rfl rfl ?_
  refine r_iload_n C (j := 2) (oDec_at oX9_tone 1 rfl) rfl rfl ?_
  refine r_callVi C oCl4 hk1 miX4_stepOf mlX9_43 (ct_X4_stepOf l E (s) c1 hk1 a2 ) (by decide) rfl rfl rfl (Nat.le_of_ble_eq_true rfl) (oDec_at oX9_tone 2 rfl) (fun r2 u1 pu1 fu1 => ?_)
  try dsimp only at pu1
  have rr2 := n_rng r2
  refine r_istore_n C (lv' := [(0, .ref (oad E c0)), (1, .ref (oad E c1)), (2, .int a2), (3, .int r2)]) [1, 2, 3, 0] (oDec_at oX9_tone 3 rfl) rfl (by decide) rfl ?_
  refine r_iload_n C (j := 3) (oDec_at oX9_tone 4 rfl) rfl rfl ?_
  refine r_iconst C (oDec_at oX9_tone 5 rfl) (v := km1) (by rw [qkm1]; rfl) ?_
  refine r_pc C 8 rfl ?_
  refine r_icmp_ne C 14 (oDec_at oX9_tone 6 rfl) (by decide) (fun cd3 => ?_) (fun cd3 => ?_)
  · skip
    refine r_aload_n C (j := 0) (oDec_at oX9_tone 9 rfl) rfl rfl ?_
    obtain ⟨v4, ev4⟩ : ∃ z : Int32, (u1).1 c0 1 = z := ⟨_, rfl⟩
    have gv4 : (s.1 c0 1).toInt = v4.toInt := congrArg Int32.toInt (((fu1 c0 1 (by rw [hk0]; rfl)).1).symm.trans ev4)
    have rv4 := n_rng v4
    refine r_geti (k := 1) (lo := (-2147483648)) (hi := 2147483647) C v4 oCl9 hk0 (by decide) flX9_15 rfl rfl (ev4) rfl rfl (oDec_at oX9_tone 10 rfl) (fun _ _ => ?_)
    refine r_aload_n C (j := 0) (oDec_at oX9_tone 11 rfl) rfl rfl ?_
    obtain ⟨v5, ev5⟩ : ∃ z : Int32, (u1).1 c0 2 = z := ⟨_, rfl⟩
    have gv5 : (s.1 c0 2).toInt = v5.toInt := congrArg Int32.toInt (((fu1 c0 2 (by rw [hk0]; rfl)).1).symm.trans ev5)
    have rv5 := n_rng v5
    refine r_geti (k := 2) (lo := (-2147483648)) (hi := 2147483647) C v5 oCl9 hk0 (by decide) flX9_18 rfl rfl (ev5) rfl rfl (oDec_at oX9_tone 12 rfl) (fun _ _ => ?_)
    refine r_iconst C (oDec_at oX9_tone 13 rfl) (v := k1) (by rw [qk1]; rfl) ?_
    refine r_icmp_ne C 37 (oDec_at oX9_tone 14 rfl) (by decide) (fun cd6 => ?_) (fun cd6 => ?_)
    · skip
      refine r_iload_n C (j := 3) (oDec_at oX9_tone 22 rfl) rfl rfl ?_
      obtain ⟨v7, ev7⟩ : ∃ z : Int32, z = v4 + r2 := ⟨_, rfl⟩
      have rv7 := n_rng v7
      refine r_iadd C v7 (oDec_at oX9_tone 23 rfl) ev7 ?_
      exact r_iret C (oDec_at oX9_tone 24 rfl) ⟨_, rfl, trivial⟩
    · skip
      refine r_iconst C (oDec_at oX9_tone 15 rfl) (v := k2) (by rw [qk2]; rfl) ?_
      refine r_aload_n C (j := 1) (oDec_at oX9_tone 16 rfl) rfl rfl ?_
      obtain ⟨v8, ev8⟩ : ∃ z : Int32, (u1).1 c1 6 = z := ⟨_, rfl⟩
      have gv8 : (s.1 c1 6).toInt = v8.toInt := congrArg Int32.toInt (((fu1 c1 6 (by rw [hk1]; rfl)).1).symm.trans ev8)
      have rv8 := n_rng v8
      refine r_getiN (k := 6) (lo := (-2147483648)) (hi := 2147483647) C v8 oCl4 hk1 (by decide) flX9_47 rfl rfl (ev8) rfl rfl (oDec_at oX9_tone 17 rfl) (fun _ _ => ?_)
      obtain ⟨v9, ev9⟩ : ∃ z : Int32, z = k2 * v8 := ⟨_, rfl⟩
      have rv9 := n_rng v9
      refine r_imul C v9 (oDec_at oX9_tone 18 rfl) ev9 ?_
      refine r_iload_n C (j := 3) (oDec_at oX9_tone 19 rfl) rfl rfl ?_
      obtain ⟨v10, ev10⟩ : ∃ z : Int32, z = v9 - r2 := ⟨_, rfl⟩
      have rv10 := n_rng v10
      refine r_isub C v10 (oDec_at oX9_tone 20 rfl) ev10 ?_
      refine r_pc C 34 rfl ?_
      refine r_goto C (tgt := 38) (oDec_at oX9_tone 21 rfl) (by decide) ?_
      obtain ⟨v11, ev11⟩ : ∃ z : Int32, z = v4 + v10 := ⟨_, rfl⟩
      have rv11 := n_rng v11
      refine r_iadd C v11 (oDec_at oX9_tone 23 rfl) ev11 ?_
      exact r_iret C (oDec_at oX9_tone 24 rfl) ⟨_, rfl, trivial⟩
  · skip
    refine r_ldc C (v := km1000000000) (by rw [qkm1000000000]; exact kcX9_46) (oDec_at oX9_tone 7 rfl) ?_
    exact r_iret C (oDec_at oX9_tone 8 rfl) ⟨_, rfl, trivial⟩
