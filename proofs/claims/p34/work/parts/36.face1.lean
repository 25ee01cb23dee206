set_option maxHeartbeats 4000000 in
set_option maxRecDepth 100000 in
theorem ct_X11_end (l : Launch) (E : oE) (s : oS) (a1 : Int32)  : oMet l 2 yX11_end cX11_end 2 (some .boolean) [(8, 1)] E s [.ref (oad E 0), .int a1] (oPi (fun r u => (0 ≤ r.toInt ∧ r.toInt ≤ 1) ∧ ((r.toInt = 1 ∧ 0 ≤ a1.toInt ∧ a1.toInt ≤ (s.1 1 1).toInt ∧ (u.1 1 1).toInt = a1.toInt) ∨ (r.toInt = 0 ∧ (a1.toInt < 0 ∨ (s.1 1 1).toInt < a1.toInt) ∧ (u.1 1 1).toInt = (s.1 1 1).toInt)))) := by
  refine oMet.of (lv := [(0, .ref (oad E 0)), (1, .int a1)]) (by decide +kernel) (Nat.le_of_ble_eq_true rfl) rfl (fun J C hT => ?_)
  have C : oC l 2 cX11_end RX11 2 (some .boolean) [(8, 1)] E s (oPi (fun r u => (0 ≤ r.toInt ∧ r.toInt ≤ 1) ∧ ((r.toInt = 1 ∧ 0 ≤ a1.toInt ∧ a1.toInt ≤ (s.1 1 1).toInt ∧ (u.1 1 1).toInt = a1.toInt) ∨ (r.toInt = 0 ∧ (a1.toInt < 0 ∨ (s.1 1 1).toInt < a1.toInt) ∧ (u.1 1 1).toInt = (s.1 1 1).toInt)))) J := C
  have rg1 := n_rng a1
  refine r_aload_n C (j := 0) (oDec_at oX11_end 0 rfl) rfl rfl ?_
  refine r_getF (k := 0) (b := 1) C oCl11 rfl (by decide) flX11_10 rfl rfl rfl (oDec_at oX11_end 1 rfl) ?_
  refine r_iload_n C (j := 1) (oDec_at oX11_end 2 rfl) rfl rfl ?_
  refine r_callVi C oCl8 rfl miX8_cut mlX11_114 (ct_X8_cut l E (s) a1 ) (by decide) rfl rfl rfl (Nat.le_of_ble_eq_true rfl) (oDec_at oX11_end 3 rfl) (fun r2 u1 pu1 fu1 => ?_)
  try dsimp only at pu1
  have rr2 := n_rng r2
  exact r_zret C (n_bool (by omega)) (oDec_at oX11_end 4 rfl) ⟨_, rfl, ⟨by omega, by omega⟩⟩
set_option maxHeartbeats 4000000 in
set_option maxRecDepth 100000 in
theorem ct_X11_fault (l : Launch) (E : oE) (s : oS) (a1 : Int32)  : oMet l 1 yX11_fault cX11_fault 2 (some .int) [] E s [.ref (oad E 0), .int a1] (oPi (fun r u => True)) := by
  refine oMet.of (lv := [(0, .ref (oad E 0)), (1, .int a1)]) (by decide +kernel) (Nat.le_of_ble_eq_true rfl) rfl (fun J C hT => ?_)
  have C : oC l 1 cX11_fault RX11 2 (some .int) [] E s (oPi (fun r u => True)) J := C
  obtain ⟨km1, qkm1⟩ : ∃ z : Int32, z = (-1) := ⟨_, rfl⟩
  have ekm1 : km1.toInt = (-1) := by rw [qkm1]; rfl
  obtain ⟨k1, qk1⟩ : ∃ z : Int32, z = 1 := ⟨_, rfl⟩
  have ek1 : k1.toInt = 1 := by rw [qk1]; rfl
  have rg1 := n_rng a1
  refine r_iload_n C (j := 1) (oDec_at oX11_fault 0 rfl) rfl rfl ?_
  refine r_if_ne C 12 (oDec_at oX11_fault 1 rfl) (by decide) (fun cd1 => ?_) (fun cd1 => ?_)
  · skip
    refine r_iload_n C (j := 1) (oDec_at oX11_fault 6 rfl) rfl rfl ?_
    refine r_iconst C (oDec_at oX11_fault 7 rfl) (v := k1) (by rw [qk1]; rfl) ?_
    refine r_icmp_ne C 27 (oDec_at oX11_fault 8 rfl) (by decide) (fun cd2 => ?_) (fun cd2 => ?_)
    · skip
      refine r_iconst C (oDec_at oX11_fault 13 rfl) (v := km1) (by rw [qkm1]; rfl) ?_
      exact r_iret C (oDec_at oX11_fault 14 rfl) ⟨_, rfl, trivial⟩
    · skip
      refine r_aload_n C (j := 0) (oDec_at oX11_fault 9 rfl) rfl rfl ?_
      refine r_getF (k := 6) (b := 30) C oCl11 rfl (by decide) flX11_44 rfl rfl rfl (oDec_at oX11_fault 10 rfl) ?_
      obtain ⟨v3, ev3⟩ : ∃ z : Int32, (s).1 30 9 = z := ⟨_, rfl⟩
      have gv3 : (s.1 30 9).toInt = v3.toInt := congrArg Int32.toInt (ev3)
      have rv3 := n_rng v3
      refine r_getiN (k := 9) (lo := (-2147483648)) (hi := 2147483647) C v3 oCl5 rfl (by decide) flX11_137 rfl rfl (ev3) rfl rfl (oDec_at oX11_fault 11 rfl) (fun _ _ => ?_)
      refine r_goto C (tgt := 28) (oDec_at oX11_fault 12 rfl) (by decide) ?_
      exact r_iret C (oDec_at oX11_fault 14 rfl) ⟨_, rfl, trivial⟩
  · skip
    refine r_aload_n C (j := 0) (oDec_at oX11_fault 2 rfl) rfl rfl ?_
    refine r_getF (k := 6) (b := 30) C oCl11 rfl (by decide) flX11_44 rfl rfl rfl (oDec_at oX11_fault 3 rfl) ?_
    obtain ⟨v4, ev4⟩ : ∃ z : Int32, (s).1 30 8 = z := ⟨_, rfl⟩
    have gv4 : (s.1 30 8).toInt = v4.toInt := congrArg Int32.toInt (ev4)
    have rv4 := n_rng v4
    refine r_getiN (k := 8) (lo := (-2147483648)) (hi := 2147483647) C v4 oCl5 rfl (by decide) flX11_134 rfl rfl (ev4) rfl rfl (oDec_at oX11_fault 4 rfl) (fun _ _ => ?_)
    exact r_iret C (oDec_at oX11_fault 5 rfl) ⟨_, rfl, trivial⟩
set_option maxHeartbeats 4000000 in
set_option maxRecDepth 100000 in
theorem ct_X11_has (l : Launch) (E : oE) (s : oS) (a1 : Int32)  : oMet l 4 yX11_has cX11_has 2 (some .int) [] E s [.ref (oad E 0), .int a1] (oPi (fun r u => True)) := by
  refine oMet.of (lv := [(0, .ref (oad E 0)), (1, .int a1)]) (by decide +kernel) (Nat.le_of_ble_eq_true rfl) rfl (fun J C hT => ?_)
  have C : oC l 4 cX11_has RX11 2 (some .int) [] E s (oPi (fun r u => True)) J := C
  obtain ⟨km1, qkm1⟩ : ∃ z : Int32, z = (-1) := ⟨_, rfl⟩
  have ekm1 : km1.toInt = (-1) := by rw [qkm1]; rfl
  have rg1 := n_rng a1
  refine r_iload_n C (j := 1) (oDec_at oX11_has 0 rfl) rfl rfl ?_
  by_cases cd1_0 : a1.toInt = 0
  · refine r_tableIn C 56 (oDec_at oX11_has 1 rfl) (by omega) (by omega) (by rw [cd1_0]; rfl) (by decide) ?_
    refine r_aload_n C (j := 0) (oDec_at oX11_has 2 rfl) rfl rfl ?_
    refine r_getS (k := 1) (q2 := 4) C oCl11 rfl (by decide) flX11_19 rfl rfl rfl ks0 (oDec_at oX11_has 3 rfl) (fun b2 rb2 mb2 hkb2 => ?_)
    obtain ⟨v3, ev3⟩ : ∃ z : Int32, (s).1 b2 4 = z := ⟨_, rfl⟩
    have gv3 : (s.1 b2 4).toInt = v3.toInt := congrArg Int32.toInt (ev3)
    refine r_getiN (k := 4) (lo := 0) (hi := 24) C v3 oCl4 hkb2 (by decide) flX11_140 rfl rfl (ev3) rfl rfl (oDec_at oX11_has 4 rfl) (fun b4 b4h => ?_)
    exact r_iret C (oDec_at oX11_has 5 rfl) ⟨_, rfl, trivial⟩
  by_cases cd1_1 : a1.toInt = 1
  · refine r_tableIn C 64 (oDec_at oX11_has 1 rfl) (by omega) (by omega) (by rw [cd1_1]; rfl) (by decide) ?_
    refine r_aload_n C (j := 0) (oDec_at oX11_has 6 rfl) rfl rfl ?_
    refine r_getS (k := 1) (q2 := 4) C oCl11 rfl (by decide) flX11_19 rfl rfl rfl ks0 (oDec_at oX11_has 7 rfl) (fun b5 rb5 mb5 hkb5 => ?_)
    refine r_callVi C oCl4 hkb5 miX4_rests mlX11_143 (ct_X4_rests l E (s) b5 hkb5 ) (by decide) rfl rfl rfl (Nat.le_of_ble_eq_true rfl) (oDec_at oX11_has 8 rfl) (fun r7 u6 pu6 fu6 => ?_)
    try dsimp only at pu6
    have rr7 := n_rng r7
    exact r_iret C (oDec_at oX11_has 9 rfl) ⟨_, rfl, trivial⟩
  by_cases cd1_2 : a1.toInt = 2
  · refine r_tableIn C 72 (oDec_at oX11_has 1 rfl) (by omega) (by omega) (by rw [cd1_2]; rfl) (by decide) ?_
    refine r_aload_n C (j := 0) (oDec_at oX11_has 10 rfl) rfl rfl ?_
    refine r_getS (k := 1) (q2 := 4) C oCl11 rfl (by decide) flX11_19 rfl rfl rfl ks0 (oDec_at oX11_has 11 rfl) (fun b8 rb8 mb8 hkb8 => ?_)
    obtain ⟨v9, ev9⟩ : ∃ z : Int32, (s).1 b8 5 = z := ⟨_, rfl⟩
    have gv9 : (s.1 b8 5).toInt = v9.toInt := congrArg Int32.toInt (ev9)
    refine r_getiN (k := 5) (lo := 0) (hi := 96) C v9 oCl4 hkb8 (by decide) flX11_147 rfl rfl (ev9) rfl rfl (oDec_at oX11_has 12 rfl) (fun b10 b10h => ?_)
    exact r_iret C (oDec_at oX11_has 13 rfl) ⟨_, rfl, trivial⟩
  by_cases cd1_3 : a1.toInt = 3
  · refine r_tableIn C 80 (oDec_at oX11_has 1 rfl) (by omega) (by omega) (by rw [cd1_3]; rfl) (by decide) ?_
    refine r_aload_n C (j := 0) (oDec_at oX11_has 14 rfl) rfl rfl ?_
    refine r_getS (k := 4) (q2 := 0) C oCl11 rfl (by decide) flX11_32 rfl rfl rfl ks1 (oDec_at oX11_has 15 rfl) (fun b11 rb11 mb11 hkb11 => ?_)
    obtain ⟨v12, ev12⟩ : ∃ z : Int32, (s).1 b11 7 = z := ⟨_, rfl⟩
    have gv12 : (s.1 b11 7).toInt = v12.toInt := congrArg Int32.toInt (ev12)
    refine r_getiN (k := 7) (lo := 0) (hi := 12) C v12 oCl0 hkb11 (by decide) flX11_150 rfl rfl (ev12) rfl rfl (oDec_at oX11_has 16 rfl) (fun b13 b13h => ?_)
    exact r_iret C (oDec_at oX11_has 17 rfl) ⟨_, rfl, trivial⟩
  by_cases cd1_4 : a1.toInt = 4
  · refine r_tableIn C 88 (oDec_at oX11_has 1 rfl) (by omega) (by omega) (by rw [cd1_4]; rfl) (by decide) ?_
    refine r_aload_n C (j := 0) (oDec_at oX11_has 18 rfl) rfl rfl ?_
    refine r_getS (k := 4) (q2 := 0) C oCl11 rfl (by decide) flX11_32 rfl rfl rfl ks1 (oDec_at oX11_has 19 rfl) (fun b14 rb14 mb14 hkb14 => ?_)
    obtain ⟨v15, ev15⟩ : ∃ z : Int32, (s).1 b14 8 = z := ⟨_, rfl⟩
    have gv15 : (s.1 b14 8).toInt = v15.toInt := congrArg Int32.toInt (ev15)
    refine r_getiN (k := 8) (lo := 0) (hi := 6) C v15 oCl0 hkb14 (by decide) flX11_153 rfl rfl (ev15) rfl rfl (oDec_at oX11_has 20 rfl) (fun b16 b16h => ?_)
    exact r_iret C (oDec_at oX11_has 21 rfl) ⟨_, rfl, trivial⟩
  by_cases cd1_5 : a1.toInt = 5
  · refine r_tableIn C 96 (oDec_at oX11_has 1 rfl) (by omega) (by omega) (by rw [cd1_5]; rfl) (by decide) ?_
    refine r_aload_n C (j := 0) (oDec_at oX11_has 22 rfl) rfl rfl ?_
    refine r_getS (k := 4) (q2 := 0) C oCl11 rfl (by decide) flX11_32 rfl rfl rfl ks1 (oDec_at oX11_has 23 rfl) (fun b17 rb17 mb17 hkb17 => ?_)
    obtain ⟨v18, ev18⟩ : ∃ z : Int32, (s).1 b17 6 = z := ⟨_, rfl⟩
    have gv18 : (s.1 b17 6).toInt = v18.toInt := congrArg Int32.toInt (ev18)
    refine r_getiN (k := 6) (lo := 2) (hi := 12) C v18 oCl0 hkb17 (by decide) flX11_156 rfl rfl (ev18) rfl rfl (oDec_at oX11_has 24 rfl) (fun b19 b19h => ?_)
    exact r_iret C (oDec_at oX11_has 25 rfl) ⟨_, rfl, trivial⟩
  by_cases cd1_6 : a1.toInt = 6
  · refine r_tableIn C 104 (oDec_at oX11_has 1 rfl) (by omega) (by omega) (by rw [cd1_6]; rfl) (by decide) ?_
    refine r_aload_n C (j := 0) (oDec_at oX11_has 26 rfl) rfl rfl ?_
    refine r_getS (k := 1) (q2 := 4) C oCl11 rfl (by decide) flX11_19 rfl rfl rfl ks0 (oDec_at oX11_has 27 rfl) (fun b20 rb20 mb20 hkb20 => ?_)
    obtain ⟨v21, ev21⟩ : ∃ z : Int32, (s).1 b20 6 = z := ⟨_, rfl⟩
    have gv21 : (s.1 b20 6).toInt = v21.toInt := congrArg Int32.toInt (ev21)
    have rv21 := n_rng v21
    refine r_getiN (k := 6) (lo := (-2147483648)) (hi := 2147483647) C v21 oCl4 hkb20 (by decide) flX11_159 rfl rfl (ev21) rfl rfl (oDec_at oX11_has 28 rfl) (fun _ _ => ?_)
    exact r_iret C (oDec_at oX11_has 29 rfl) ⟨_, rfl, trivial⟩
  by_cases cd1_7 : a1.toInt = 7
  · refine r_tableIn C 112 (oDec_at oX11_has 1 rfl) (by omega) (by omega) (by rw [cd1_7]; rfl) (by decide) ?_
    refine r_aload_n C (j := 0) (oDec_at oX11_has 30 rfl) rfl rfl ?_
    refine r_getF (k := 10) (b := 43) C oCl11 rfl (by decide) flX11_74 rfl rfl rfl (oDec_at oX11_has 31 rfl) ?_
    obtain ⟨v22, ev22⟩ : ∃ z : Int32, (s).1 43 0 = z := ⟨_, rfl⟩
    have gv22 : (s.1 43 0).toInt = v22.toInt := congrArg Int32.toInt (ev22)
    refine r_getiN (k := 0) (lo := 0) (hi := 24) C v22 oCl10 rfl (by decide) flX11_162 rfl rfl (ev22) rfl rfl (oDec_at oX11_has 32 rfl) (fun b23 b23h => ?_)
    exact r_iret C (oDec_at oX11_has 33 rfl) ⟨_, rfl, trivial⟩
  by_cases cd1_8 : a1.toInt = 8
  · refine r_tableIn C 120 (oDec_at oX11_has 1 rfl) (by omega) (by omega) (by rw [cd1_8]; rfl) (by decide) ?_
    refine r_aload_n C (j := 0) (oDec_at oX11_has 34 rfl) rfl rfl ?_
    refine r_getF (k := 10) (b := 43) C oCl11 rfl (by decide) flX11_74 rfl rfl rfl (oDec_at oX11_has 35 rfl) ?_
    obtain ⟨v24, ev24⟩ : ∃ z : Int32, (s).1 43 1 = z := ⟨_, rfl⟩
    have gv24 : (s.1 43 1).toInt = v24.toInt := congrArg Int32.toInt (ev24)
    refine r_getiN (k := 1) (lo := 0) (hi := 7) C v24 oCl10 rfl (by decide) flX11_165 rfl rfl (ev24) rfl rfl (oDec_at oX11_has 36 rfl) (fun b25 b25h => ?_)
    exact r_iret C (oDec_at oX11_has 37 rfl) ⟨_, rfl, trivial⟩
  by_cases cd1_9 : a1.toInt = 9
  · refine r_tableIn C 128 (oDec_at oX11_has 1 rfl) (by omega) (by omega) (by rw [cd1_9]; rfl) (by decide) ?_
    refine r_aload_n C (j := 0) (oDec_at oX11_has 38 rfl) rfl rfl ?_
    refine r_getF (k := 10) (b := 43) C oCl11 rfl (by decide) flX11_74 rfl rfl rfl (oDec_at oX11_has 39 rfl) ?_
    obtain ⟨v26, ev26⟩ : ∃ z : Int32, (s).1 43 2 = z := ⟨_, rfl⟩
    have gv26 : (s.1 43 2).toInt = v26.toInt := congrArg Int32.toInt (ev26)
    refine r_getiN (k := 2) (lo := 0) (hi := 15) C v26 oCl10 rfl (by decide) flX11_168 rfl rfl (ev26) rfl rfl (oDec_at oX11_has 40 rfl) (fun b27 b27h => ?_)
    exact r_iret C (oDec_at oX11_has 41 rfl) ⟨_, rfl, trivial⟩
  refine r_tableOut C 136 (oDec_at oX11_has 1 rfl) (by omega) (by decide) ?_
  refine r_iconst C (oDec_at oX11_has 42 rfl) (v := km1) (by rw [qkm1]; rfl) ?_
  exact r_iret C (oDec_at oX11_has 43 rfl) ⟨_, rfl, trivial⟩
set_option maxHeartbeats 4000000 in
set_option maxRecDepth 100000 in
theorem ct_X11_letter (l : Launch) (E : oE) (s : oS) (a1 : Int32) (a2 : Int32)  : oMet l 2 yX11_letter cX11_letter 3 (some .int) [] E s [.ref (oad E 0), .int a1, .int a2] (oPi (fun r u => True)) := by
  refine oMet.of (lv := [(0, .ref (oad E 0)), (1, .int a1), (2, .int a2)]) (by decide +kernel) (Nat.le_of_ble_eq_true rfl) rfl (fun J C hT => ?_)
  have C : oC l 2 cX11_letter RX11 3 (some .int) [] E s (oPi (fun r u => True)) J := C
  have rg1 := n_rng a1
  have rg2 := n_rng a2
  refine r_aload_n C (j := 0) (oDec_at oX11_letter 0 rfl) rfl rfl ?_
  refine r_getS (k := 4) (q2 := 0) C oCl11 rfl (by decide) flX11_32 rfl rfl rfl ks1 (oDec_at oX11_letter 1 rfl) (fun b1 rb1 mb1 hkb1 => ?_)
  refine r_iload_n C (j := 1) (oDec_at oX11_letter 2 rfl) rfl rfl ?_
  refine r_iload_n C (j := 2) (oDec_at oX11_letter 3 rfl) rfl rfl ?_
  refine r_callVi C oCl0 hkb1 miX0_letterOf mlX11_171 (ct_X0_letterOf l E (s) b1 hkb1 a1 a2 ) (by decide) rfl rfl rfl (Nat.le_of_ble_eq_true rfl) (oDec_at oX11_letter 4 rfl) (fun r3 u2 pu2 fu2 => ?_)
  try dsimp only at pu2
  have rr3 := n_rng r3
  exact r_iret C (oDec_at oX11_letter 5 rfl) ⟨_, rfl, trivial⟩
set_option maxHeartbeats 4000000 in
set_option maxRecDepth 100000 in
theorem ct_X11_note (l : Launch) (E : oE) (s : oS) (a1 : Int32) (a2 : Int32)  : oMet l 3 yX11_note cX11_note 3 (some .int) [] E s [.ref (oad E 0), .int a1, .int a2] (oPi (fun r u => True)) := by
  refine oMet.of (lv := [(0, .ref (oad E 0)), (1, .int a1), (2, .int a2)]) (by decide +kernel) (Nat.le_of_ble_eq_true rfl) rfl (fun J C hT => ?_)
  have C : oC l 3 cX11_note RX11 3 (some .int) [] E s (oPi (fun r u => True)) J := C
  obtain ⟨km1, qkm1⟩ : ∃ z : Int32, z = (-1) := ⟨_, rfl⟩
  have ekm1 : km1.toInt = (-1) := by rw [qkm1]; rfl
  have rg1 := n_rng a1
  have rg2 := n_rng a2
  refine r_iload_n C (j := 2) (oDec_at oX11_note 0 rfl) rfl rfl ?_
  by_cases cd1_0 : a2.toInt = 0
  · refine r_tableIn C 28 (oDec_at oX11_note 1 rfl) (by omega) (by omega) (by rw [cd1_0]; rfl) (by decide) ?_
    refine r_aload_n C (j := 0) (oDec_at oX11_note 2 rfl) rfl rfl ?_
    refine r_getS (k := 1) (q2 := 4) C oCl11 rfl (by decide) flX11_19 rfl rfl rfl ks0 (oDec_at oX11_note 3 rfl) (fun b2 rb2 mb2 hkb2 => ?_)
    refine r_iload_n C (j := 1) (oDec_at oX11_note 4 rfl) rfl rfl ?_
    refine r_callVi C oCl4 hkb2 miX4_stepOf mlX11_175 (ct_X4_stepOf l E (s) b2 hkb2 a1 ) (by decide) rfl rfl rfl (Nat.le_of_ble_eq_true rfl) (oDec_at oX11_note 5 rfl) (fun r4 u3 pu3 fu3 => ?_)
    try dsimp only at pu3
    have rr4 := n_rng r4
    exact r_iret C (oDec_at oX11_note 6 rfl) ⟨_, rfl, trivial⟩
  by_cases cd1_1 : a2.toInt = 1
  · refine r_tableIn C 37 (oDec_at oX11_note 1 rfl) (by omega) (by omega) (by rw [cd1_1]; rfl) (by decide) ?_
    refine r_aload_n C (j := 0) (oDec_at oX11_note 7 rfl) rfl rfl ?_
    refine r_getS (k := 1) (q2 := 4) C oCl11 rfl (by decide) flX11_19 rfl rfl rfl ks0 (oDec_at oX11_note 8 rfl) (fun b5 rb5 mb5 hkb5 => ?_)
    refine r_iload_n C (j := 1) (oDec_at oX11_note 9 rfl) rfl rfl ?_
    refine r_callVi C oCl4 hkb5 miX4_lengthOf mlX11_179 (ct_X4_lengthOf l E (s) b5 hkb5 a1 ) (by decide) rfl rfl rfl (Nat.le_of_ble_eq_true rfl) (oDec_at oX11_note 10 rfl) (fun r7 u6 pu6 fu6 => ?_)
    try dsimp only at pu6
    have rr7 := n_rng r7
    exact r_iret C (oDec_at oX11_note 11 rfl) ⟨_, rfl, trivial⟩
  by_cases cd1_2 : a2.toInt = 2
  · refine r_tableIn C 46 (oDec_at oX11_note 1 rfl) (by omega) (by omega) (by rw [cd1_2]; rfl) (by decide) ?_
    refine r_aload_n C (j := 0) (oDec_at oX11_note 12 rfl) rfl rfl ?_
    refine r_getS (k := 1) (q2 := 4) C oCl11 rfl (by decide) flX11_19 rfl rfl rfl ks0 (oDec_at oX11_note 13 rfl) (fun b8 rb8 mb8 hkb8 => ?_)
    refine r_iload_n C (j := 1) (oDec_at oX11_note 14 rfl) rfl rfl ?_
    refine r_callVi C oCl4 hkb8 miX4_startOf mlX11_182 (ct_X4_startOf l E (s) b8 hkb8 a1 ) (by decide) rfl rfl rfl (Nat.le_of_ble_eq_true rfl) (oDec_at oX11_note 15 rfl) (fun r10 u9 pu9 fu9 => ?_)
    try dsimp only at pu9
    have rr10 := n_rng r10
    exact r_iret C (oDec_at oX11_note 16 rfl) ⟨_, rfl, trivial⟩
  refine r_tableOut C 55 (oDec_at oX11_note 1 rfl) (by omega) (by decide) ?_
  refine r_iconst C (oDec_at oX11_note 17 rfl) (v := km1) (by rw [qkm1]; rfl) ?_
  exact r_iret C (oDec_at oX11_note 18 rfl) ⟨_, rfl, trivial⟩
set_option maxHeartbeats 4000000 in
set_option maxRecDepth 100000 in
theorem ct_X11_code (l : Launch) (E : oE) (s : oS) (a1 : Int32) (a2 : Int32) (a3 : Int32) (a4 : Int32) (a5 : Int32)  : oMet l 2 yX11_code cX11_code 6 (some .int) [] E s [.ref (oad E 0), .int a1, .int a2, .int a3, .int a4, .int a5] (oPi (fun r u => ((0 ≤ a1.toInt ∧ a1.toInt ≤ 24 ∧ -7 ≤ a2.toInt ∧ a2.toInt ≤ 7 ∧ 0 ≤ a3.toInt ∧ a3.toInt ≤ 1 ∧ 0 ≤ a4.toInt ∧ a4.toInt ≤ 1 ∧ 0 ≤ a5.toInt ∧ a5.toInt ≤ 2 ∧ r.toInt = (a1.toInt * 15 + a2.toInt + 7) * 12 + (a3.toInt * 2 + a4.toInt) * 3 + a5.toInt) ∨ ((a1.toInt < 0 ∨ 24 < a1.toInt ∨ a2.toInt < -7 ∨ 7 < a2.toInt ∨ a3.toInt < 0 ∨ 1 < a3.toInt ∨ a4.toInt < 0 ∨ 1 < a4.toInt ∨ a5.toInt < 0 ∨ 2 < a5.toInt) ∧ r.toInt = -1)))) := by
  refine oMet.of (lv := [(0, .ref (oad E 0)), (1, .int a1), (2, .int a2), (3, .int a3), (4, .int a4), (5, .int a5)]) (by decide +kernel) (Nat.le_of_ble_eq_true rfl) rfl (fun J C hT => ?_)
  have C : oC l 2 cX11_code RX11 6 (some .int) [] E s (oPi (fun r u => ((0 ≤ a1.toInt ∧ a1.toInt ≤ 24 ∧ -7 ≤ a2.toInt ∧ a2.toInt ≤ 7 ∧ 0 ≤ a3.toInt ∧ a3.toInt ≤ 1 ∧ 0 ≤ a4.toInt ∧ a4.toInt ≤ 1 ∧ 0 ≤ a5.toInt ∧ a5.toInt ≤ 2 ∧ r.toInt = (a1.toInt * 15 + a2.toInt + 7) * 12 + (a3.toInt * 2 + a4.toInt) * 3 + a5.toInt) ∨ ((a1.toInt < 0 ∨ 24 < a1.toInt ∨ a2.toInt < -7 ∨ 7 < a2.toInt ∨ a3.toInt < 0 ∨ 1 < a3.toInt ∨ a4.toInt < 0 ∨ 1 < a4.toInt ∨ a5.toInt < 0 ∨ 2 < a5.toInt) ∧ r.toInt = -1)))) J := C
  obtain ⟨km7, qkm7⟩ : ∃ z : Int32, z = (-7) := ⟨_, rfl⟩
  have ekm7 : km7.toInt = (-7) := by rw [qkm7]; rfl
  obtain ⟨km1, qkm1⟩ : ∃ z : Int32, z = (-1) := ⟨_, rfl⟩
  have ekm1 : km1.toInt = (-1) := by rw [qkm1]; rfl
  obtain ⟨k1, qk1⟩ : ∃ z : Int32, z = 1 := ⟨_, rfl⟩
  have ek1 : k1.toInt = 1 := by rw [qk1]; rfl
  obtain ⟨k2, qk2⟩ : ∃ z : Int32, z = 2 := ⟨_, rfl⟩
  have ek2 : k2.toInt = 2 := by rw [qk2]; rfl
  obtain ⟨k3, qk3⟩ : ∃ z : Int32, z = 3 := ⟨_, rfl⟩
  have ek3 : k3.toInt = 3 := by rw [qk3]; rfl
  obtain ⟨k7, qk7⟩ : ∃ z : Int32, z = 7 := ⟨_, rfl⟩
  have ek7 : k7.toInt = 7 := by rw [qk7]; rfl
  obtain ⟨k24, qk24⟩ : ∃ z : Int32, z = 24 := ⟨_, rfl⟩
  have ek24 : k24.toInt = 24 := by rw [qk24]; rfl
  have rg1 := n_rng a1
  have rg2 := n_rng a2
  have rg3 := n_rng a3
  have rg4 := n_rng a4
  have rg5 := n_rng a5
  refine r_iload_n C (j := 1) (oDec_at oX11_code 0 rfl) rfl rfl ?_
  refine r_if_lt C 22 (oDec_at oX11_code 1 rfl) (by decide) (fun cd1 => ?_) (fun cd1 => ?_)
  · skip
    refine r_iconst C (oDec_at oX11_code 11 rfl) (v := km1) (by rw [qkm1]; rfl) ?_
    exact r_iret C (oDec_at oX11_code 12 rfl) ⟨_, rfl, by omega⟩
  · skip
    refine r_iload_n C (j := 1) (oDec_at oX11_code 2 rfl) rfl rfl ?_
    refine r_bipush C (oDec_at oX11_code 3 rfl) (v := k24) (by rw [qk24]; rfl) ?_
    refine r_icmp_gt C 22 (oDec_at oX11_code 4 rfl) (by decide) (fun cd2 => ?_) (fun cd2 => ?_)
    · skip
      refine r_iconst C (oDec_at oX11_code 11 rfl) (v := km1) (by rw [qkm1]; rfl) ?_
      exact r_iret C (oDec_at oX11_code 12 rfl) ⟨_, rfl, by omega⟩
    · skip
      refine r_iload_n C (j := 2) (oDec_at oX11_code 5 rfl) rfl rfl ?_
      refine r_bipush C (oDec_at oX11_code 6 rfl) (v := km7) (by rw [qkm7]; rfl) ?_
      refine r_icmp_lt C 22 (oDec_at oX11_code 7 rfl) (by decide) (fun cd3 => ?_) (fun cd3 => ?_)
      · skip
        refine r_iconst C (oDec_at oX11_code 11 rfl) (v := km1) (by rw [qkm1]; rfl) ?_
        exact r_iret C (oDec_at oX11_code 12 rfl) ⟨_, rfl, by omega⟩
      · skip
        refine r_iload_n C (j := 2) (oDec_at oX11_code 8 rfl) rfl rfl ?_
        refine r_bipush C (oDec_at oX11_code 9 rfl) (v := k7) (by rw [qk7]; rfl) ?_
        refine r_icmp_le C 24 (oDec_at oX11_code 10 rfl) (by decide) (fun cd4 => ?_) (fun cd4 => ?_)
        · skip
          refine r_iload_n C (j := 3) (oDec_at oX11_code 13 rfl) rfl rfl ?_
          refine r_if_lt C 55 (oDec_at oX11_code 14 rfl) (by decide) (fun cd5 => ?_) (fun cd5 => ?_)
          · skip
            refine r_iconst C (oDec_at oX11_code 28 rfl) (v := km1) (by rw [qkm1]; rfl) ?_
            exact r_iret C (oDec_at oX11_code 29 rfl) ⟨_, rfl, by omega⟩
          · skip
            refine r_iload_n C (j := 3) (oDec_at oX11_code 15 rfl) rfl rfl ?_
            refine r_iconst C (oDec_at oX11_code 16 rfl) (v := k1) (by rw [qk1]; rfl) ?_
            refine r_icmp_gt C 55 (oDec_at oX11_code 17 rfl) (by decide) (fun cd6 => ?_) (fun cd6 => ?_)
            · skip
              refine r_iconst C (oDec_at oX11_code 28 rfl) (v := km1) (by rw [qkm1]; rfl) ?_
              exact r_iret C (oDec_at oX11_code 29 rfl) ⟨_, rfl, by omega⟩
            · skip
              refine r_iload C (j := 4) (oDec_at oX11_code 18 rfl) rfl ?_
              refine r_if_lt C 55 (oDec_at oX11_code 19 rfl) (by decide) (fun cd7 => ?_) (fun cd7 => ?_)
              · skip
                refine r_iconst C (oDec_at oX11_code 28 rfl) (v := km1) (by rw [qkm1]; rfl) ?_
                exact r_iret C (oDec_at oX11_code 29 rfl) ⟨_, rfl, by omega⟩
              · skip
                refine r_iload C (j := 4) (oDec_at oX11_code 20 rfl) rfl ?_
                refine r_iconst C (oDec_at oX11_code 21 rfl) (v := k1) (by rw [qk1]; rfl) ?_
                refine r_icmp_gt C 55 (oDec_at oX11_code 22 rfl) (by decide) (fun cd8 => ?_) (fun cd8 => ?_)
                · skip
                  refine r_iconst C (oDec_at oX11_code 28 rfl) (v := km1) (by rw [qkm1]; rfl) ?_
                  exact r_iret C (oDec_at oX11_code 29 rfl) ⟨_, rfl, by omega⟩
                · skip
                  refine r_iload C (j := 5) (oDec_at oX11_code 23 rfl) rfl ?_
                  refine r_if_lt C 55 (oDec_at oX11_code 24 rfl) (by decide) (fun cd9 => ?_) (fun cd9 => ?_)
                  · skip
                    refine r_iconst C (oDec_at oX11_code 28 rfl) (v := km1) (by rw [qkm1]; rfl) ?_
                    exact r_iret C (oDec_at oX11_code 29 rfl) ⟨_, rfl, by omega⟩
                  · skip
                    refine r_iload C (j := 5) (oDec_at oX11_code 25 rfl) rfl ?_
                    refine r_iconst C (oDec_at oX11_code 26 rfl) (v := k2) (by rw [qk2]; rfl) ?_
                    refine r_icmp_le C 57 (oDec_at oX11_code 27 rfl) (by decide) (fun cd10 => ?_) (fun cd10 => ?_)
                    · skip
                      refine r_iload_n C (j := 1) (oDec_at oX11_code 30 rfl) rfl rfl ?_
                      refine r_iload_n C (j := 2) (oDec_at oX11_code 31 rfl) rfl rfl ?_
                      refine r_iload_n C (j := 3) (oDec_at oX11_code 32 rfl) rfl rfl ?_
                      refine r_iconst C (oDec_at oX11_code 33 rfl) (v := k2) (by rw [qk2]; rfl) ?_
                      obtain ⟨v11, ev11⟩ : ∃ z : Int32, z = a3 * k2 := ⟨_, rfl⟩
                      have hv11 : v11.toInt = a3.toInt * 2 := n_mulK 2 ev11 ek2 (by omega) (by omega)
                      refine r_imul C v11 (oDec_at oX11_code 34 rfl) ev11 ?_
                      refine r_iload C (j := 4) (oDec_at oX11_code 35 rfl) rfl ?_
                      refine r_pc C 64 rfl ?_
                      obtain ⟨v12, ev12⟩ : ∃ z : Int32, z = v11 + a4 := ⟨_, rfl⟩
                      have hv12 : v12.toInt = v11.toInt + a4.toInt := n_add ev12 (by omega) (by omega)
                      refine r_iadd C v12 (oDec_at oX11_code 36 rfl) ev12 ?_
                      refine r_iconst C (oDec_at oX11_code 37 rfl) (v := k3) (by rw [qk3]; rfl) ?_
                      obtain ⟨v13, ev13⟩ : ∃ z : Int32, z = v12 * k3 := ⟨_, rfl⟩
                      have hv13 : v13.toInt = v12.toInt * 3 := n_mulK 3 ev13 ek3 (by omega) (by omega)
                      refine r_imul C v13 (oDec_at oX11_code 38 rfl) ev13 ?_
                      refine r_iload C (j := 5) (oDec_at oX11_code 39 rfl) rfl ?_
                      obtain ⟨v14, ev14⟩ : ∃ z : Int32, z = v13 + a5 := ⟨_, rfl⟩
                      have hv14 : v14.toInt = v13.toInt + a5.toInt := n_add ev14 (by omega) (by omega)
                      refine r_iadd C v14 (oDec_at oX11_code 40 rfl) ev14 ?_
                      refine r_callSi C miX11_codeOf mlX11_188 (ct_X11_codeOf l E (s) a1 a2 v14 (by omega) (by omega) (by omega)) (by decide) rfl rfl rfl (Nat.le_of_ble_eq_true rfl) (oDec_at oX11_code 41 rfl) (fun r16 u15 pu15 fu15 => ?_)
                      try dsimp only at pu15
                      have rr16 := n_rng r16
                      refine r_pc C 73 rfl ?_
                      exact r_iret C (oDec_at oX11_code 42 rfl) ⟨_, rfl, by omega⟩
                    · skip
                      refine r_iconst C (oDec_at oX11_code 28 rfl) (v := km1) (by rw [qkm1]; rfl) ?_
                      exact r_iret C (oDec_at oX11_code 29 rfl) ⟨_, rfl, by omega⟩
        · skip
          refine r_iconst C (oDec_at oX11_code 11 rfl) (v := km1) (by rw [qkm1]; rfl) ?_
          exact r_iret C (oDec_at oX11_code 12 rfl) ⟨_, rfl, by omega⟩
set_option maxHeartbeats 4000000 in
set_option maxRecDepth 100000 in
theorem ct_X11_follower (l : Launch) (E : oE) (s : oS) (a1 : Int32) (a2 : Int32)  : oMet l 3 yX11_follower cX11_follower 3 (some .int) [(9, 0), (9, 1), (9, 2), (9, 3), (9, 4)] E s [.ref (oad E 0), .int a1, .int a2] (oPi (fun r u => True)) := by
  refine oMet.of (lv := [(0, .ref (oad E 0)), (1, .int a1), (2, .int a2)]) (by decide +kernel) (Nat.le_of_ble_eq_true rfl) rfl (fun J C hT => ?_)
  have C : oC l 3 cX11_follower RX11 3 (some .int) [(9, 0), (9, 1), (9, 2), (9, 3), (9, 4)] E s (oPi (fun r u => True)) J := C
  obtain ⟨km1000000000, qkm1000000000⟩ : ∃ z : Int32, z = (-1000000000) := ⟨_, rfl⟩
  have ekm1000000000 : km1000000000.toInt = (-1000000000) := by rw [qkm1000000000]; rfl
  obtain ⟨km1, qkm1⟩ : ∃ z : Int32, z = (-1) := ⟨_, rfl⟩
  have ekm1 : km1.toInt = (-1) := by rw [qkm1]; rfl
  obtain ⟨k0, qk0⟩ : ∃ z : Int32, z = 0 := ⟨_, rfl⟩
  have ek0 : k0.toInt = 0 := by rw [qk0]; rfl
  obtain ⟨k1, qk1⟩ : ∃ z : Int32, z = 1 := ⟨_, rfl⟩
  have ek1 : k1.toInt = 1 := by rw [qk1]; rfl
  have rg1 := n_rng a1
  have rg2 := n_rng a2
  refine r_iload_n C (j := 1) (oDec_at oX11_follower 0 rfl) rfl rfl ?_
  refine r_callSi C miX11_isCode mlX11_192 (ct_X11_isCode l E (s) a1 ) (by decide) rfl rfl rfl (Nat.le_of_ble_eq_true rfl) (oDec_at oX11_follower 1 rfl) (fun r2 u1 pu1 fu1 => ?_)
  try dsimp only at pu1
  have rr2 := n_rng r2
  refine r_if_ne C 10 (oDec_at oX11_follower 2 rfl) (by decide) (fun cd3 => ?_) (fun cd3 => ?_)
  · skip
    refine r_aload_n C (j := 0) (oDec_at oX11_follower 5 rfl) rfl rfl ?_
    refine r_getF (k := 9) (b := 42) C oCl11 rfl (by decide) flX11_67 rfl rfl rfl (oDec_at oX11_follower 6 rfl) ?_
    refine r_iload_n C (j := 1) (oDec_at oX11_follower 7 rfl) rfl rfl ?_
    refine r_callVv C oCl9 rfl miX9_take mlX11_196 (ct_X9_take l E (u1) 42 rfl a1 ) (by decide) rfl rfl rfl (Nat.le_of_ble_eq_true rfl) (oDec_at oX11_follower 8 rfl) (fun u4 pu4 fu4 => ?_)
    try dsimp only at pu4
    refine r_iload_n C (j := 2) (oDec_at oX11_follower 9 rfl) rfl rfl ?_
    by_cases cd6_0 : a2.toInt = 0
    · refine r_tableIn C 60 (oDec_at oX11_follower 10 rfl) (by omega) (by omega) (by rw [cd6_0]; rfl) (by decide) ?_
      refine r_aload_n C (j := 0) (oDec_at oX11_follower 11 rfl) rfl rfl ?_
      refine r_getF (k := 9) (b := 42) C oCl11 rfl (by decide) flX11_67 rfl rfl rfl (oDec_at oX11_follower 12 rfl) ?_
      obtain ⟨v7, ev7⟩ : ∃ z : Int32, (u4).1 42 0 = z := ⟨_, rfl⟩
      have gv7 : (u4.1 42 0).toInt = v7.toInt := congrArg Int32.toInt (ev7)
      have rv7 := n_rng v7
      refine r_getiN (k := 0) (lo := (-2147483648)) (hi := 2147483647) C v7 oCl9 rfl (by decide) flX11_199 rfl rfl (ev7) rfl rfl (oDec_at oX11_follower 13 rfl) (fun _ _ => ?_)
      exact r_iret C (oDec_at oX11_follower 14 rfl) ⟨_, rfl, trivial⟩
    by_cases cd6_1 : a2.toInt = 1
    · refine r_tableIn C 68 (oDec_at oX11_follower 10 rfl) (by omega) (by omega) (by rw [cd6_1]; rfl) (by decide) ?_
      refine r_aload_n C (j := 0) (oDec_at oX11_follower 15 rfl) rfl rfl ?_
      refine r_getF (k := 9) (b := 42) C oCl11 rfl (by decide) flX11_67 rfl rfl rfl (oDec_at oX11_follower 16 rfl) ?_
      obtain ⟨v8, ev8⟩ : ∃ z : Int32, (u4).1 42 1 = z := ⟨_, rfl⟩
      have gv8 : (u4.1 42 1).toInt = v8.toInt := congrArg Int32.toInt (ev8)
      have rv8 := n_rng v8
      refine r_getiN (k := 1) (lo := (-2147483648)) (hi := 2147483647) C v8 oCl9 rfl (by decide) flX11_202 rfl rfl (ev8) rfl rfl (oDec_at oX11_follower 17 rfl) (fun _ _ => ?_)
      exact r_iret C (oDec_at oX11_follower 18 rfl) ⟨_, rfl, trivial⟩
    by_cases cd6_2 : a2.toInt = 2
    · refine r_tableIn C 76 (oDec_at oX11_follower 10 rfl) (by omega) (by omega) (by rw [cd6_2]; rfl) (by decide) ?_
      refine r_aload_n C (j := 0) (oDec_at oX11_follower 19 rfl) rfl rfl ?_
      refine r_getF (k := 9) (b := 42) C oCl11 rfl (by decide) flX11_67 rfl rfl rfl (oDec_at oX11_follower 20 rfl) ?_
      obtain ⟨v9, ev9⟩ : ∃ z : Int32, (u4).1 42 2 = z := ⟨_, rfl⟩
      have gv9 : (u4.1 42 2).toInt = v9.toInt := congrArg Int32.toInt (ev9)
      have rv9 := n_rng v9
      refine r_getiN (k := 2) (lo := (-2147483648)) (hi := 2147483647) C v9 oCl9 rfl (by decide) flX11_205 rfl rfl (ev9) rfl rfl (oDec_at oX11_follower 21 rfl) (fun _ _ => ?_)
      exact r_iret C (oDec_at oX11_follower 22 rfl) ⟨_, rfl, trivial⟩
    by_cases cd6_3 : a2.toInt = 3
    · refine r_tableIn C 84 (oDec_at oX11_follower 10 rfl) (by omega) (by omega) (by rw [cd6_3]; rfl) (by decide) ?_
      refine r_aload_n C (j := 0) (oDec_at oX11_follower 23 rfl) rfl rfl ?_
      refine r_getF (k := 9) (b := 42) C oCl11 rfl (by decide) flX11_67 rfl rfl rfl (oDec_at oX11_follower 24 rfl) ?_
      obtain ⟨v10, ev10⟩ : ∃ z : Int32, (u4).1 42 3 = z := ⟨_, rfl⟩
      have gv10 : (u4.1 42 3).toInt = v10.toInt := congrArg Int32.toInt (ev10)
      have rv10 := n_rng v10
      refine r_getiN (k := 3) (lo := (-2147483648)) (hi := 2147483647) C v10 oCl9 rfl (by decide) flX11_208 rfl rfl (ev10) rfl rfl (oDec_at oX11_follower 25 rfl) (fun _ _ => ?_)
      exact r_iret C (oDec_at oX11_follower 26 rfl) ⟨_, rfl, trivial⟩
    by_cases cd6_4 : a2.toInt = 4
    · refine r_tableIn C 92 (oDec_at oX11_follower 10 rfl) (by omega) (by omega) (by rw [cd6_4]; rfl) (by decide) ?_
      refine r_aload_n C (j := 0) (oDec_at oX11_follower 27 rfl) rfl rfl ?_
      refine r_getF (k := 9) (b := 42) C oCl11 rfl (by decide) flX11_67 rfl rfl rfl (oDec_at oX11_follower 28 rfl) ?_
      obtain ⟨v11, ev11⟩ : ∃ z : Int32, (u4).1 42 4 = z := ⟨_, rfl⟩
      have gv11 : (u4.1 42 4).toInt = v11.toInt := congrArg Int32.toInt (ev11)
      have rv11 := n_rng v11
      refine r_getiN (k := 4) (lo := (-2147483648)) (hi := 2147483647) C v11 oCl9 rfl (by decide) flX11_211 rfl rfl (ev11) rfl rfl (oDec_at oX11_follower 29 rfl) (fun _ _ => ?_)
      exact r_iret C (oDec_at oX11_follower 30 rfl) ⟨_, rfl, trivial⟩
    by_cases cd6_5 : a2.toInt = 5
    · refine r_tableIn C 100 (oDec_at oX11_follower 10 rfl) (by omega) (by omega) (by rw [cd6_5]; rfl) (by decide) ?_
      refine r_aload_n C (j := 0) (oDec_at oX11_follower 31 rfl) rfl rfl ?_
      refine r_getS (k := 1) (q2 := 4) C oCl11 rfl (by decide) flX11_19 rfl rfl rfl ks0 (oDec_at oX11_follower 32 rfl) (fun b12 rb12 mb12 hkb12 => ?_)
      refine r_iload_n C (j := 1) (oDec_at oX11_follower 33 rfl) rfl rfl ?_
      refine r_callSi C miX11_canBe mlX11_214 (ct_X11_canBe l E (u4) b12 hkb12 a1 ) (by decide) rfl rfl rfl (Nat.le_of_ble_eq_true rfl) (oDec_at oX11_follower 34 rfl) (fun r14 u13 pu13 fu13 => ?_)
      try dsimp only at pu13
      have rr14 := n_rng r14
      refine r_if_eq C 115 (oDec_at oX11_follower 35 rfl) (by decide) (fun cd15 => ?_) (fun cd15 => ?_)
      · skip
        refine r_iconst C (oDec_at oX11_follower 38 rfl) (v := k0) (by rw [qk0]; rfl) ?_
        exact r_iret C (oDec_at oX11_follower 39 rfl) ⟨_, rfl, trivial⟩
      · skip
        refine r_iconst C (oDec_at oX11_follower 36 rfl) (v := k1) (by rw [qk1]; rfl) ?_
        refine r_goto C (tgt := 116) (oDec_at oX11_follower 37 rfl) (by decide) ?_
        exact r_iret C (oDec_at oX11_follower 39 rfl) ⟨_, rfl, trivial⟩
    by_cases cd6_6 : a2.toInt = 6
    · refine r_tableIn C 117 (oDec_at oX11_follower 10 rfl) (by omega) (by omega) (by rw [cd6_6]; rfl) (by decide) ?_
      refine r_aload_n C (j := 0) (oDec_at oX11_follower 40 rfl) rfl rfl ?_
      refine r_getS (k := 1) (q2 := 4) C oCl11 rfl (by decide) flX11_19 rfl rfl rfl ks0 (oDec_at oX11_follower 41 rfl) (fun b16 rb16 mb16 hkb16 => ?_)
      refine r_iload_n C (j := 1) (oDec_at oX11_follower 42 rfl) rfl rfl ?_
      refine r_callSi C miX11_canBe mlX11_214 (ct_X11_canBe l E (u4) b16 hkb16 a1 ) (by decide) rfl rfl rfl (Nat.le_of_ble_eq_true rfl) (oDec_at oX11_follower 43 rfl) (fun r18 u17 pu17 fu17 => ?_)
      try dsimp only at pu17
      have rr18 := n_rng r18
      refine r_if_eq C 142 (oDec_at oX11_follower 44 rfl) (by decide) (fun cd19 => ?_) (fun cd19 => ?_)
      · skip
        refine r_iconst C (oDec_at oX11_follower 51 rfl) (v := km1) (by rw [qkm1]; rfl) ?_
        exact r_iret C (oDec_at oX11_follower 52 rfl) ⟨_, rfl, trivial⟩
      · skip
        refine r_aload_n C (j := 0) (oDec_at oX11_follower 45 rfl) rfl rfl ?_
        refine r_getF (k := 9) (b := 42) C oCl11 rfl (by decide) flX11_67 rfl rfl rfl (oDec_at oX11_follower 46 rfl) ?_
        refine r_aload_n C (j := 0) (oDec_at oX11_follower 47 rfl) rfl rfl ?_
        refine r_getK (k := 1) (b := b16) C oCl11 rfl (by decide) flX11_19 rfl rfl (((fu17 0 1 rfl).2.2).trans (rb16)) (oDec_at oX11_follower 48 rfl) ?_
        refine r_callVi C oCl9 rfl miX9_stop mlX11_218 (ct_X9_stop l E (u17) 42 rfl b16 hkb16 ) (by decide) rfl rfl rfl (Nat.le_of_ble_eq_true rfl) (oDec_at oX11_follower 49 rfl) (fun r22 u21 pu21 fu21 => ?_)
        try dsimp only at pu21
        have rr22 := n_rng r22
        refine r_goto C (tgt := 143) (oDec_at oX11_follower 50 rfl) (by decide) ?_
        exact r_iret C (oDec_at oX11_follower 52 rfl) ⟨_, rfl, trivial⟩
    refine r_tableOut C 144 (oDec_at oX11_follower 10 rfl) (by omega) (by decide) ?_
    refine r_ldc C (v := km1000000000) (by rw [qkm1000000000]; exact kcX11_195) (oDec_at oX11_follower 53 rfl) ?_
    refine r_pc C 146 rfl ?_
    exact r_iret C (oDec_at oX11_follower 54 rfl) ⟨_, rfl, trivial⟩
  · skip
    refine r_ldc C (v := km1000000000) (by rw [qkm1000000000]; exact kcX11_195) (oDec_at oX11_follower 3 rfl) ?_
    exact r_iret C (oDec_at oX11_follower 4 rfl) ⟨_, rfl, trivial⟩
set_option maxHeartbeats 4000000 in
set_option maxRecDepth 100000 in
theorem ct_X11_sings (l : Launch) (E : oE) (s : oS) (a1 : Int32) (a2 : Int32)  : oMet l 4 yX11_sings cX11_sings 3 (some .int) [(9, 0), (9, 1), (9, 2), (9, 3), (9, 4)] E s [.ref (oad E 0), .int a1, .int a2] (oPi (fun r u => True)) := by
  refine oMet.of (lv := [(0, .ref (oad E 0)), (1, .int a1), (2, .int a2)]) (by decide +kernel) (Nat.le_of_ble_eq_true rfl) rfl (fun J C hT => ?_)
  have C : oC l 4 cX11_sings RX11 3 (some .int) [(9, 0), (9, 1), (9, 2), (9, 3), (9, 4)] E s (oPi (fun r u => True)) J := C
  obtain ⟨km1000000000, qkm1000000000⟩ : ∃ z : Int32, z = (-1000000000) := ⟨_, rfl⟩
  have ekm1000000000 : km1000000000.toInt = (-1000000000) := by rw [qkm1000000000]; rfl
  obtain ⟨k999, qk999⟩ : ∃ z : Int32, z = 999 := ⟨_, rfl⟩
  have ek999 : k999.toInt = 999 := by rw [qk999]; rfl
  have rg1 := n_rng a1
  have rg2 := n_rng a2
  refine r_iload_n C (j := 1) (oDec_at oX11_sings 0 rfl) rfl rfl ?_
  refine r_callSi C miX11_isCode mlX11_192 (ct_X11_isCode l E (s) a1 ) (by decide) rfl rfl rfl (Nat.le_of_ble_eq_true rfl) (oDec_at oX11_sings 1 rfl) (fun r2 u1 pu1 fu1 => ?_)
  try dsimp only at pu1
  have rr2 := n_rng r2
  refine r_if_eq C 29 (oDec_at oX11_sings 2 rfl) (by decide) (fun cd3 => ?_) (fun cd3 => ?_)
  · skip
    refine r_ldc C (v := km1000000000) (by rw [qkm1000000000]; exact kcX11_195) (oDec_at oX11_sings 13 rfl) ?_
    exact r_iret C (oDec_at oX11_sings 14 rfl) ⟨_, rfl, trivial⟩
  · skip
    refine r_aload_n C (j := 0) (oDec_at oX11_sings 3 rfl) rfl rfl ?_
    refine r_getS (k := 1) (q2 := 4) C oCl11 rfl (by decide) flX11_19 rfl rfl rfl ks0 (oDec_at oX11_sings 4 rfl) (fun b4 rb4 mb4 hkb4 => ?_)
    refine r_iload_n C (j := 1) (oDec_at oX11_sings 5 rfl) rfl rfl ?_
    refine r_callSi C miX11_canBe mlX11_214 (ct_X11_canBe l E (u1) b4 hkb4 a1 ) (by decide) rfl rfl rfl (Nat.le_of_ble_eq_true rfl) (oDec_at oX11_sings 6 rfl) (fun r6 u5 pu5 fu5 => ?_)
    try dsimp only at pu5
    have rr6 := n_rng r6
    refine r_if_eq C 29 (oDec_at oX11_sings 7 rfl) (by decide) (fun cd7 => ?_) (fun cd7 => ?_)
    · skip
      refine r_ldc C (v := km1000000000) (by rw [qkm1000000000]; exact kcX11_195) (oDec_at oX11_sings 13 rfl) ?_
      exact r_iret C (oDec_at oX11_sings 14 rfl) ⟨_, rfl, trivial⟩
    · skip
      refine r_iload_n C (j := 2) (oDec_at oX11_sings 8 rfl) rfl rfl ?_
      refine r_if_lt C 29 (oDec_at oX11_sings 9 rfl) (by decide) (fun cd8 => ?_) (fun cd8 => ?_)
      · skip
        refine r_ldc C (v := km1000000000) (by rw [qkm1000000000]; exact kcX11_195) (oDec_at oX11_sings 13 rfl) ?_
        exact r_iret C (oDec_at oX11_sings 14 rfl) ⟨_, rfl, trivial⟩
      · skip
        refine r_iload_n C (j := 2) (oDec_at oX11_sings 10 rfl) rfl rfl ?_
        refine r_sipush C (oDec_at oX11_sings 11 rfl) (v := k999) (by rw [qk999]; rfl) ?_
        refine r_icmp_le C 32 (oDec_at oX11_sings 12 rfl) (by decide) (fun cd9 => ?_) (fun cd9 => ?_)
        · skip
          refine r_aload_n C (j := 0) (oDec_at oX11_sings 15 rfl) rfl rfl ?_
          refine r_getF (k := 9) (b := 42) C oCl11 rfl (by decide) flX11_67 rfl rfl rfl (oDec_at oX11_sings 16 rfl) ?_
          refine r_iload_n C (j := 1) (oDec_at oX11_sings 17 rfl) rfl rfl ?_
          refine r_callVv C oCl9 rfl miX9_take mlX11_196 (ct_X9_take l E (u5) 42 rfl a1 ) (by decide) rfl rfl rfl (Nat.le_of_ble_eq_true rfl) (oDec_at oX11_sings 18 rfl) (fun u10 pu10 fu10 => ?_)
          try dsimp only at pu10
          refine r_aload_n C (j := 0) (oDec_at oX11_sings 19 rfl) rfl rfl ?_
          refine r_getF (k := 9) (b := 42) C oCl11 rfl (by decide) flX11_67 rfl rfl rfl (oDec_at oX11_sings 20 rfl) ?_
          refine r_pc C 44 rfl ?_
          refine r_aload_n C (j := 0) (oDec_at oX11_sings 21 rfl) rfl rfl ?_
          refine r_getK (k := 1) (b := b4) C oCl11 rfl (by decide) flX11_19 rfl rfl (((fu10 0 1 rfl).2.2).trans (((fu5 0 1 rfl).2.2).trans (rb4))) (oDec_at oX11_sings 22 rfl) ?_
          refine r_aload_n C (j := 0) (oDec_at oX11_sings 23 rfl) rfl rfl ?_
          refine r_getF (k := 9) (b := 42) C oCl11 rfl (by decide) flX11_67 rfl rfl rfl (oDec_at oX11_sings 24 rfl) ?_
          refine r_aload_n C (j := 0) (oDec_at oX11_sings 25 rfl) rfl rfl ?_
          refine r_getK (k := 1) (b := b4) C oCl11 rfl (by decide) flX11_19 rfl rfl (((fu10 0 1 rfl).2.2).trans (((fu5 0 1 rfl).2.2).trans (rb4))) (oDec_at oX11_sings 26 rfl) ?_
          refine r_iload_n C (j := 2) (oDec_at oX11_sings 27 rfl) rfl rfl ?_
          refine r_callVi C oCl9 rfl miX9_number mlX11_221 (ct_X9_number l E (u10) 42 rfl b4 hkb4 a2 ) (by decide) rfl rfl rfl (Nat.le_of_ble_eq_true rfl) (oDec_at oX11_sings 28 rfl) (fun r15 u14 pu14 fu14 => ?_)
          try dsimp only at pu14
          have rr15 := n_rng r15
          refine r_pc C 60 rfl ?_
          refine r_callVi C oCl9 rfl miX9_tone mlX11_225 (ct_X9_tone l E (u14) 42 rfl b4 hkb4 r15 ) (by decide) rfl rfl rfl (Nat.le_of_ble_eq_true rfl) (oDec_at oX11_sings 29 rfl) (fun r17 u16 pu16 fu16 => ?_)
          try dsimp only at pu16
          have rr17 := n_rng r17
          exact r_iret C (oDec_at oX11_sings 30 rfl) ⟨_, rfl, trivial⟩
        · skip
          refine r_ldc C (v := km1000000000) (by rw [qkm1000000000]; exact kcX11_195) (oDec_at oX11_sings 13 rfl) ?_
          exact r_iret C (oDec_at oX11_sings 14 rfl) ⟨_, rfl, trivial⟩
set_option maxHeartbeats 4000000 in
set_option maxRecDepth 100000 in
theorem ct_X11_span (l : Launch) (E : oE) (s : oS) (a1 : Int32) (a2 : Int32) (hp0 : 0 ≤ a2.toInt ∧ a2.toInt ≤ 1) : oMet l 4 yX11_span cX11_span 6 (some .int) [(9, 0), (9, 1), (9, 2), (9, 3), (9, 4)] E s [.ref (oad E 0), .int a1, .int a2] (oPi (fun r u => True)) := by
  refine oMet.of (lv := [(0, .ref (oad E 0)), (1, .int a1), (2, .int a2)]) (by decide +kernel) (Nat.le_of_ble_eq_true rfl) rfl (fun J C hT => ?_)
  have C : oC l 4 cX11_span RX11 6 (some .int) [(9, 0), (9, 1), (9, 2), (9, 3), (9, 4)] E s (oPi (fun r u => True)) J := C
  obtain ⟨km1000000000, qkm1000000000⟩ : ∃ z : Int32, z = (-1000000000) := ⟨_, rfl⟩
  have ekm1000000000 : km1000000000.toInt = (-1000000000) := by rw [qkm1000000000]; rfl
  obtain ⟨k0, qk0⟩ : ∃ z : Int32, z = 0 := ⟨_, rfl⟩
  have ek0 : k0.toInt = 0 := by rw [qk0]; rfl
  have rg1 := n_rng a1
  have rg2 := n_rng a2
  have key : ∀ n : Nat, (∀ (t : oS) (x3 : Int32) (x4 : Int32), (0 ≤ x4.toInt ∧ x4.toInt ≤ 24) → 25 - x4.toInt ≤ (n : Int) → J t 35 [(0, .ref (oad E 0)), (2, .int a2), (3, .int x3), (4, .int x4)] []) := by
    intro n
    induction n using Nat.strongRecOn with
    | _ n ih =>
      skip
      · intro t x3 x4  iv0 hmu
        have rx3 := n_rng x3
        have rx4 := n_rng x4
        refine r_iload C (j := 3) (oDec_at oX11_span 18 rfl) rfl ?_
        refine r_aload_n C (j := 0) (oDec_at oX11_span 19 rfl) rfl rfl ?_
        refine r_getS (k := 1) (q2 := 4) C oCl11 rfl (by decide) flX11_19 rfl rfl rfl ks0 (oDec_at oX11_span 20 rfl) (fun b1 rb1 mb1 hkb1 => ?_)
        obtain ⟨v2, ev2⟩ : ∃ z : Int32, (t).1 b1 4 = z := ⟨_, rfl⟩
        have gv2 : (t.1 b1 4).toInt = v2.toInt := congrArg Int32.toInt (ev2)
        refine r_getiN (k := 4) (lo := 0) (hi := 24) C v2 oCl4 hkb1 (by decide) flX11_140 rfl rfl (ev2) rfl rfl (oDec_at oX11_span 21 rfl) (fun b3 b3h => ?_)
        refine r_icmp_ge C 103 (oDec_at oX11_span 22 rfl) (by decide) (fun cd4 => ?_) (fun cd4 => ?_)
        · skip
          refine r_iload_n C (j := 2) (oDec_at oX11_span 49 rfl) rfl rfl ?_
          exact r_iret C (oDec_at oX11_span 50 rfl) ⟨_, rfl, trivial⟩
        · skip
          refine r_aload_n C (j := 0) (oDec_at oX11_span 23 rfl) rfl rfl ?_
          refine r_getF (k := 9) (b := 42) C oCl11 rfl (by decide) flX11_67 rfl rfl rfl (oDec_at oX11_span 24 rfl) ?_
          refine r_aload_n C (j := 0) (oDec_at oX11_span 25 rfl) rfl rfl ?_
          refine r_getK (k := 1) (b := b1) C oCl11 rfl (by decide) flX11_19 rfl rfl (rb1) (oDec_at oX11_span 26 rfl) ?_
          refine r_iload C (j := 3) (oDec_at oX11_span 27 rfl) rfl ?_
          refine r_callVi C oCl9 rfl miX9_tone mlX11_225 (ct_X9_tone l E (t) 42 rfl b1 hkb1 x4 ) (by decide) rfl rfl rfl (Nat.le_of_ble_eq_true rfl) (oDec_at oX11_span 28 rfl) (fun r7 u6 pu6 fu6 => ?_)
          try dsimp only at pu6
          have rr7 := n_rng r7
          refine r_istore C (lv' := [(0, .ref (oad E 0)), (2, .int a2), (3, .int x3), (4, .int x4), (5, .int r7)]) [1, 2, 3, 4, 0] (oDec_at oX11_span 29 rfl) (by decide) rfl ?_
          refine r_pc C 62 rfl ?_
          refine r_iload C (j := 4) (oDec_at oX11_span 30 rfl) rfl ?_
          refine r_ldc C (v := km1000000000) (by rw [qkm1000000000]; exact kcX11_195) (oDec_at oX11_span 31 rfl) ?_
          refine r_icmp_eq C 97 (oDec_at oX11_span 32 rfl) (by decide) (fun cd8 => ?_) (fun cd8 => ?_)
          · skip
            obtain ⟨v9, ev9⟩ : ∃ z : Int32, x4 + Int32.ofInt 1 = z := ⟨_, rfl⟩
            have hv9 : v9.toInt = x4.toInt + 1 := n_inc ev9 (by decide) (by omega) (by omega)
            refine r_iinc C (j := 3) (lv' := [(0, .ref (oad E 0)), (2, .int a2), (3, .int x3), (4, .int v9), (5, .int r7)]) v9 [1, 2, 3, 0, 4] (oDec_at oX11_span 47 rfl) rfl ev9 (by decide) rfl ?_
            refine r_goto C (tgt := 35) (oDec_at oX11_span 48 rfl) (by decide) ?_
            refine r_pick C [0, 1, 2, 3] rfl ?_
            exact (ih (n - 1) (by omega)) (u6) x3 v9  (by omega) (by omega)
          · skip
            refine r_iload_n C (j := 2) (oDec_at oX11_span 33 rfl) rfl rfl ?_
            refine r_ldc C (v := km1000000000) (by rw [qkm1000000000]; exact kcX11_195) (oDec_at oX11_span 34 rfl) ?_
            refine r_icmp_eq C 94 (oDec_at oX11_span 35 rfl) (by decide) (fun cd10 => ?_) (fun cd10 => ?_)
            · skip
              refine r_iload C (j := 4) (oDec_at oX11_span 45 rfl) rfl ?_
              refine r_istore_n C (lv' := [(0, .ref (oad E 0)), (2, .int a2), (3, .int r7), (4, .int x4), (5, .int r7)]) [1, 2, 0, 3, 4] (oDec_at oX11_span 46 rfl) rfl (by decide) rfl ?_
              obtain ⟨v11, ev11⟩ : ∃ z : Int32, x4 + Int32.ofInt 1 = z := ⟨_, rfl⟩
              have hv11 : v11.toInt = x4.toInt + 1 := n_inc ev11 (by decide) (by omega) (by omega)
              refine r_iinc C (j := 3) (lv' := [(0, .ref (oad E 0)), (2, .int a2), (3, .int r7), (4, .int v11), (5, .int r7)]) v11 [1, 2, 3, 0, 4] (oDec_at oX11_span 47 rfl) rfl ev11 (by decide) rfl ?_
              refine r_goto C (tgt := 35) (oDec_at oX11_span 48 rfl) (by decide) ?_
              refine r_pick C [0, 1, 2, 3] rfl ?_
              exact (ih (n - 1) (by omega)) (u6) r7 v11  (by omega) (by omega)
            · skip
              refine r_iload_n C (j := 1) (oDec_at oX11_span 36 rfl) rfl rfl ?_
              refine r_if_eq C 88 (oDec_at oX11_span 37 rfl) (by decide) (fun cd12 => ?_) (fun cd12 => ?_)
              · skip
                refine r_iload C (j := 4) (oDec_at oX11_span 42 rfl) rfl ?_
                refine r_iload_n C (j := 2) (oDec_at oX11_span 43 rfl) rfl rfl ?_
                refine r_icmp_ge C 97 (oDec_at oX11_span 44 rfl) (by decide) (fun cd13 => ?_) (fun cd13 => ?_)
                · skip
                  obtain ⟨v14, ev14⟩ : ∃ z : Int32, x4 + Int32.ofInt 1 = z := ⟨_, rfl⟩
                  have hv14 : v14.toInt = x4.toInt + 1 := n_inc ev14 (by decide) (by omega) (by omega)
                  refine r_iinc C (j := 3) (lv' := [(0, .ref (oad E 0)), (2, .int a2), (3, .int x3), (4, .int v14), (5, .int r7)]) v14 [1, 2, 3, 0, 4] (oDec_at oX11_span 47 rfl) rfl ev14 (by decide) rfl ?_
                  refine r_goto C (tgt := 35) (oDec_at oX11_span 48 rfl) (by decide) ?_
                  refine r_pick C [0, 1, 2, 3] rfl ?_
                  exact (ih (n - 1) (by omega)) (u6) x3 v14  (by omega) (by omega)
                · skip
                  refine r_iload C (j := 4) (oDec_at oX11_span 45 rfl) rfl ?_
                  refine r_istore_n C (lv' := [(0, .ref (oad E 0)), (2, .int a2), (3, .int r7), (4, .int x4), (5, .int r7)]) [1, 2, 0, 3, 4] (oDec_at oX11_span 46 rfl) rfl (by decide) rfl ?_
                  obtain ⟨v15, ev15⟩ : ∃ z : Int32, x4 + Int32.ofInt 1 = z := ⟨_, rfl⟩
                  have hv15 : v15.toInt = x4.toInt + 1 := n_inc ev15 (by decide) (by omega) (by omega)
                  refine r_iinc C (j := 3) (lv' := [(0, .ref (oad E 0)), (2, .int a2), (3, .int r7), (4, .int v15), (5, .int r7)]) v15 [1, 2, 3, 0, 4] (oDec_at oX11_span 47 rfl) rfl ev15 (by decide) rfl ?_
                  refine r_goto C (tgt := 35) (oDec_at oX11_span 48 rfl) (by decide) ?_
                  refine r_pick C [0, 1, 2, 3] rfl ?_
                  exact (ih (n - 1) (by omega)) (u6) r7 v15  (by omega) (by omega)
              · skip
                refine r_iload C (j := 4) (oDec_at oX11_span 38 rfl) rfl ?_
                refine r_iload_n C (j := 2) (oDec_at oX11_span 39 rfl) rfl rfl ?_
                refine r_icmp_le C 97 (oDec_at oX11_span 40 rfl) (by decide) (fun cd16 => ?_) (fun cd16 => ?_)
                · skip
                  obtain ⟨v17, ev17⟩ : ∃ z : Int32, x4 + Int32.ofInt 1 = z := ⟨_, rfl⟩
                  have hv17 : v17.toInt = x4.toInt + 1 := n_inc ev17 (by decide) (by omega) (by omega)
                  refine r_iinc C (j := 3) (lv' := [(0, .ref (oad E 0)), (2, .int a2), (3, .int x3), (4, .int v17), (5, .int r7)]) v17 [1, 2, 3, 0, 4] (oDec_at oX11_span 47 rfl) rfl ev17 (by decide) rfl ?_
                  refine r_goto C (tgt := 35) (oDec_at oX11_span 48 rfl) (by decide) ?_
                  refine r_pick C [0, 1, 2, 3] rfl ?_
                  exact (ih (n - 1) (by omega)) (u6) x3 v17  (by omega) (by omega)
                · skip
                  refine r_goto C (tgt := 94) (oDec_at oX11_span 41 rfl) (by decide) ?_
                  refine r_iload C (j := 4) (oDec_at oX11_span 45 rfl) rfl ?_
                  refine r_istore_n C (lv' := [(0, .ref (oad E 0)), (2, .int a2), (3, .int r7), (4, .int x4), (5, .int r7)]) [1, 2, 0, 3, 4] (oDec_at oX11_span 46 rfl) rfl (by decide) rfl ?_
                  obtain ⟨v18, ev18⟩ : ∃ z : Int32, x4 + Int32.ofInt 1 = z := ⟨_, rfl⟩
                  have hv18 : v18.toInt = x4.toInt + 1 := n_inc ev18 (by decide) (by omega) (by omega)
                  refine r_iinc C (j := 3) (lv' := [(0, .ref (oad E 0)), (2, .int a2), (3, .int r7), (4, .int v18), (5, .int r7)]) v18 [1, 2, 3, 0, 4] (oDec_at oX11_span 47 rfl) rfl ev18 (by decide) rfl ?_
                  refine r_goto C (tgt := 35) (oDec_at oX11_span 48 rfl) (by decide) ?_
                  refine r_pick C [0, 1, 2, 3] rfl ?_
                  exact (ih (n - 1) (by omega)) (u6) r7 v18  (by omega) (by omega)
  refine r_iload_n C (j := 1) (oDec_at oX11_span 0 rfl) rfl rfl ?_
  refine r_callSi C miX11_isCode mlX11_192 (ct_X11_isCode l E (s) a1 ) (by decide) rfl rfl rfl (Nat.le_of_ble_eq_true rfl) (oDec_at oX11_span 1 rfl) (fun r20 u19 pu19 fu19 => ?_)
  try dsimp only at pu19
  have rr20 := n_rng r20
  refine r_if_eq C 18 (oDec_at oX11_span 2 rfl) (by decide) (fun cd21 => ?_) (fun cd21 => ?_)
  · skip
    refine r_ldc C (v := km1000000000) (by rw [qkm1000000000]; exact kcX11_195) (oDec_at oX11_span 8 rfl) ?_
    exact r_iret C (oDec_at oX11_span 9 rfl) ⟨_, rfl, trivial⟩
  · skip
    refine r_aload_n C (j := 0) (oDec_at oX11_span 3 rfl) rfl rfl ?_
    refine r_getS (k := 1) (q2 := 4) C oCl11 rfl (by decide) flX11_19 rfl rfl rfl ks0 (oDec_at oX11_span 4 rfl) (fun b22 rb22 mb22 hkb22 => ?_)
    refine r_iload_n C (j := 1) (oDec_at oX11_span 5 rfl) rfl rfl ?_
    refine r_callSi C miX11_canBe mlX11_214 (ct_X11_canBe l E (u19) b22 hkb22 a1 ) (by decide) rfl rfl rfl (Nat.le_of_ble_eq_true rfl) (oDec_at oX11_span 6 rfl) (fun r24 u23 pu23 fu23 => ?_)
    try dsimp only at pu23
    have rr24 := n_rng r24
    refine r_if_ne C 21 (oDec_at oX11_span 7 rfl) (by decide) (fun cd25 => ?_) (fun cd25 => ?_)
    · skip
      refine r_aload_n C (j := 0) (oDec_at oX11_span 10 rfl) rfl rfl ?_
      refine r_getF (k := 9) (b := 42) C oCl11 rfl (by decide) flX11_67 rfl rfl rfl (oDec_at oX11_span 11 rfl) ?_
      refine r_iload_n C (j := 1) (oDec_at oX11_span 12 rfl) rfl rfl ?_
      refine r_callVv C oCl9 rfl miX9_take mlX11_196 (ct_X9_take l E (u23) 42 rfl a1 ) (by decide) rfl rfl rfl (Nat.le_of_ble_eq_true rfl) (oDec_at oX11_span 13 rfl) (fun u26 pu26 fu26 => ?_)
      try dsimp only at pu26
      refine r_ldc C (v := km1000000000) (by rw [qkm1000000000]; exact kcX11_195) (oDec_at oX11_span 14 rfl) ?_
      refine r_istore_n C (lv' := [(0, .ref (oad E 0)), (1, .int a1), (2, .int a2), (3, .int km1000000000)]) [1, 2, 3, 0] (oDec_at oX11_span 15 rfl) rfl (by decide) rfl ?_
      refine r_pc C 32 rfl ?_
      refine r_iconst C (oDec_at oX11_span 16 rfl) (v := k0) (by rw [qk0]; rfl) ?_
      refine r_istore C (lv' := [(0, .ref (oad E 0)), (1, .int a1), (2, .int a2), (3, .int km1000000000), (4, .int k0)]) [1, 2, 3, 4, 0] (oDec_at oX11_span 17 rfl) (by decide) rfl ?_
      refine r_pick C [0, 2, 3, 4] rfl ?_
      exact (key (25 - k0.toInt).toNat) (u26) km1000000000 k0  (by omega) (by omega)
    · skip
      refine r_ldc C (v := km1000000000) (by rw [qkm1000000000]; exact kcX11_195) (oDec_at oX11_span 8 rfl) ?_
      exact r_iret C (oDec_at oX11_span 9 rfl) ⟨_, rfl, trivial⟩
