set_option maxHeartbeats 4000000 in
set_option maxRecDepth 100000 in
theorem ct_X11_ways (l : Launch) (E : oE) (s : oS) (a1 : Int32)  : oMet l 8 yX11_ways cX11_ways 2 (some .int) [(1, 6), (1, 7), (1, 8), (7, 0), (7, 4), (7, 5), (9, 0), (9, 1), (9, 2), (9, 3), (9, 4), (10, 3), (10, 4), (24, 9999), (25, 9999), (26, 9999), (27, 9999), (28, 9999), (29, 9999), (30, 9999), (31, 9999), (32, 9999), (33, 9999), (34, 9999), (35, 9999), (36, 9999), (38, 9999), (39, 9999), (40, 9999), (41, 9999)] E s [.ref (oad E 0), .int a1] (oPi (fun r u => True)) := by
  refine oMet.of (lv := [(0, .ref (oad E 0)), (1, .int a1)]) (by decide +kernel) (Nat.le_of_ble_eq_true rfl) rfl (fun J C hT => ?_)
  have C : oC l 8 cX11_ways RX11 2 (some .int) [(1, 6), (1, 7), (1, 8), (7, 0), (7, 4), (7, 5), (9, 0), (9, 1), (9, 2), (9, 3), (9, 4), (10, 3), (10, 4), (24, 9999), (25, 9999), (26, 9999), (27, 9999), (28, 9999), (29, 9999), (30, 9999), (31, 9999), (32, 9999), (33, 9999), (34, 9999), (35, 9999), (36, 9999), (38, 9999), (39, 9999), (40, 9999), (41, 9999)] E s (oPi (fun r u => True)) J := C
  have rg1 := n_rng a1
  refine r_aload_n C (j := 0) (oDec_at oX11_ways 0 rfl) rfl rfl ?_
  refine r_iload_n C (j := 1) (oDec_at oX11_ways 1 rfl) rfl rfl ?_
  refine r_callVv C oCl11 rfl miX11_prepare mlX11_252 (ct_X11_prepare l E (s) a1 ) (by decide) rfl rfl rfl (Nat.le_of_ble_eq_true rfl) (oDec_at oX11_ways 2 rfl) (fun u1 pu1 fu1 => ?_)
  try dsimp only at pu1
  refine r_aload_n C (j := 0) (oDec_at oX11_ways 3 rfl) rfl rfl ?_
  refine r_iload_n C (j := 1) (oDec_at oX11_ways 4 rfl) rfl rfl ?_
  refine r_callVi C oCl11 rfl miX11_howMany mlX11_255 (ct_X11_howMany l E (u1) a1 ) (by decide) rfl rfl rfl (Nat.le_of_ble_eq_true rfl) (oDec_at oX11_ways 5 rfl) (fun r4 u3 pu3 fu3 => ?_)
  try dsimp only at pu3
  have rr4 := n_rng r4
  refine r_pc C 10 rfl ?_
  exact r_iret C (oDec_at oX11_ways 6 rfl) ⟨_, rfl, trivial⟩
set_option maxHeartbeats 4000000 in
set_option maxRecDepth 100000 in
theorem ct_X11_way (l : Launch) (E : oE) (s : oS) (a1 : Int32) (a2 : Int32) (a3 : Int32)  : oMet l 8 yX11_way cX11_way 4 (some .int) [(1, 6), (1, 7), (1, 8), (7, 0), (7, 4), (7, 5), (9, 0), (9, 1), (9, 2), (9, 3), (9, 4), (10, 3), (10, 4), (24, 9999), (25, 9999), (26, 9999), (27, 9999), (28, 9999), (29, 9999), (30, 9999), (31, 9999), (32, 9999), (33, 9999), (34, 9999), (35, 9999), (36, 9999), (38, 9999), (39, 9999), (40, 9999), (41, 9999)] E s [.ref (oad E 0), .int a1, .int a2, .int a3] (oPi (fun r u => True)) := by
  refine oMet.of (lv := [(0, .ref (oad E 0)), (1, .int a1), (2, .int a2), (3, .int a3)]) (by decide +kernel) (Nat.le_of_ble_eq_true rfl) rfl (fun J C hT => ?_)
  have C : oC l 8 cX11_way RX11 4 (some .int) [(1, 6), (1, 7), (1, 8), (7, 0), (7, 4), (7, 5), (9, 0), (9, 1), (9, 2), (9, 3), (9, 4), (10, 3), (10, 4), (24, 9999), (25, 9999), (26, 9999), (27, 9999), (28, 9999), (29, 9999), (30, 9999), (31, 9999), (32, 9999), (33, 9999), (34, 9999), (35, 9999), (36, 9999), (38, 9999), (39, 9999), (40, 9999), (41, 9999)] E s (oPi (fun r u => True)) J := C
  have rg1 := n_rng a1
  have rg2 := n_rng a2
  have rg3 := n_rng a3
  refine r_aload_n C (j := 0) (oDec_at oX11_way 0 rfl) rfl rfl ?_
  refine r_iload_n C (j := 1) (oDec_at oX11_way 1 rfl) rfl rfl ?_
  refine r_callVv C oCl11 rfl miX11_prepare mlX11_252 (ct_X11_prepare l E (s) a1 ) (by decide) rfl rfl rfl (Nat.le_of_ble_eq_true rfl) (oDec_at oX11_way 2 rfl) (fun u1 pu1 fu1 => ?_)
  try dsimp only at pu1
  refine r_aload_n C (j := 0) (oDec_at oX11_way 3 rfl) rfl rfl ?_
  refine r_getF (k := 10) (b := 43) C oCl11 rfl (by decide) flX11_74 rfl rfl rfl (oDec_at oX11_way 4 rfl) ?_
  refine r_aload_n C (j := 0) (oDec_at oX11_way 5 rfl) rfl rfl ?_
  refine r_pc C 10 rfl ?_
  refine r_iload_n C (j := 1) (oDec_at oX11_way 6 rfl) rfl rfl ?_
  refine r_iload_n C (j := 2) (oDec_at oX11_way 7 rfl) rfl rfl ?_
  refine r_iload_n C (j := 3) (oDec_at oX11_way 8 rfl) rfl rfl ?_
  refine r_callVi C oCl11 rfl miX11_member mlX11_258 (ct_X11_member l E (u1) a1 a2 a3 ) (by decide) rfl rfl rfl (Nat.le_of_ble_eq_true rfl) (oDec_at oX11_way 9 rfl) (fun r4 u3 pu3 fu3 => ?_)
  try dsimp only at pu3
  have rr4 := n_rng r4
  refine r_callVi C oCl10 rfl miX10_codeOf mlX11_261 (ct_X10_codeOf l E (u3) r4 ) (by decide) rfl rfl rfl (Nat.le_of_ble_eq_true rfl) (oDec_at oX11_way 10 rfl) (fun r6 u5 pu5 fu5 => ?_)
  try dsimp only at pu5
  have rr6 := n_rng r6
  exact r_iret C (oDec_at oX11_way 11 rfl) ⟨_, rfl, trivial⟩
set_option maxHeartbeats 4000000 in
set_option maxRecDepth 100000 in
theorem ct_X11_signs (l : Launch) (E : oE) (s : oS) (a1 : Int32)  : oMet l 8 yX11_signs cX11_signs 2 (some .int) [(1, 6), (1, 7), (1, 8), (7, 0), (7, 4), (7, 5), (9, 0), (9, 1), (9, 2), (9, 3), (9, 4), (10, 3), (10, 4), (24, 9999), (25, 9999), (26, 9999), (27, 9999), (28, 9999), (29, 9999), (30, 9999), (31, 9999), (32, 9999), (33, 9999), (34, 9999), (35, 9999), (36, 9999), (37, 9999), (38, 9999), (39, 9999), (40, 9999), (41, 9999)] E s [.ref (oad E 0), .int a1] (oPi (fun r u => True)) := by
  refine oMet.of (lv := [(0, .ref (oad E 0)), (1, .int a1)]) (by decide +kernel) (Nat.le_of_ble_eq_true rfl) rfl (fun J C hT => ?_)
  have C : oC l 8 cX11_signs RX11 2 (some .int) [(1, 6), (1, 7), (1, 8), (7, 0), (7, 4), (7, 5), (9, 0), (9, 1), (9, 2), (9, 3), (9, 4), (10, 3), (10, 4), (24, 9999), (25, 9999), (26, 9999), (27, 9999), (28, 9999), (29, 9999), (30, 9999), (31, 9999), (32, 9999), (33, 9999), (34, 9999), (35, 9999), (36, 9999), (37, 9999), (38, 9999), (39, 9999), (40, 9999), (41, 9999)] E s (oPi (fun r u => True)) J := C
  obtain ⟨k2, qk2⟩ : ∃ z : Int32, z = 2 := ⟨_, rfl⟩
  have ek2 : k2.toInt = 2 := by rw [qk2]; rfl
  have rg1 := n_rng a1
  refine r_aload_n C (j := 0) (oDec_at oX11_signs 0 rfl) rfl rfl ?_
  refine r_iconst C (oDec_at oX11_signs 1 rfl) (v := k2) (by rw [qk2]; rfl) ?_
  refine r_callVv C oCl11 rfl miX11_prepare mlX11_252 (ct_X11_prepare l E (s) k2 ) (by decide) rfl rfl rfl (Nat.le_of_ble_eq_true rfl) (oDec_at oX11_signs 2 rfl) (fun u1 pu1 fu1 => ?_)
  try dsimp only at pu1
  refine r_aload_n C (j := 0) (oDec_at oX11_signs 3 rfl) rfl rfl ?_
  refine r_getF (k := 10) (b := 43) C oCl11 rfl (by decide) flX11_74 rfl rfl rfl (oDec_at oX11_signs 4 rfl) ?_
  refine r_iload_n C (j := 1) (oDec_at oX11_signs 5 rfl) rfl rfl ?_
  refine r_pc C 10 rfl ?_
  refine r_callVi C oCl10 rfl miX10_fewestSigns mlX11_263 (ct_X10_fewestSigns l E (u1) a1 ) (by decide) rfl rfl rfl (Nat.le_of_ble_eq_true rfl) (oDec_at oX11_signs 6 rfl) (fun r4 u3 pu3 fu3 => ?_)
  try dsimp only at pu3
  have rr4 := n_rng r4
  exact r_iret C (oDec_at oX11_signs 7 rfl) ⟨_, rfl, trivial⟩
set_option maxHeartbeats 4000000 in
set_option maxRecDepth 100000 in
theorem ct_X11_like (l : Launch) (E : oE) (s : oS) (a1 : Int32) (a2 : Int32)  : oMet l 8 yX11_like cX11_like 3 (some .int) [(1, 6), (1, 7), (1, 8), (7, 0), (7, 4), (7, 5), (9, 0), (9, 1), (9, 2), (9, 3), (9, 4), (10, 3), (10, 4), (24, 9999), (25, 9999), (26, 9999), (27, 9999), (28, 9999), (29, 9999), (30, 9999), (31, 9999), (32, 9999), (33, 9999), (34, 9999), (35, 9999), (36, 9999), (38, 9999), (39, 9999), (40, 9999), (41, 9999)] E s [.ref (oad E 0), .int a1, .int a2] (oPi (fun r u => True)) := by
  refine oMet.of (lv := [(0, .ref (oad E 0)), (1, .int a1), (2, .int a2)]) (by decide +kernel) (Nat.le_of_ble_eq_true rfl) rfl (fun J C hT => ?_)
  have C : oC l 8 cX11_like RX11 3 (some .int) [(1, 6), (1, 7), (1, 8), (7, 0), (7, 4), (7, 5), (9, 0), (9, 1), (9, 2), (9, 3), (9, 4), (10, 3), (10, 4), (24, 9999), (25, 9999), (26, 9999), (27, 9999), (28, 9999), (29, 9999), (30, 9999), (31, 9999), (32, 9999), (33, 9999), (34, 9999), (35, 9999), (36, 9999), (38, 9999), (39, 9999), (40, 9999), (41, 9999)] E s (oPi (fun r u => True)) J := C
  obtain ⟨k2, qk2⟩ : ∃ z : Int32, z = 2 := ⟨_, rfl⟩
  have ek2 : k2.toInt = 2 := by rw [qk2]; rfl
  have rg1 := n_rng a1
  have rg2 := n_rng a2
  refine r_aload_n C (j := 0) (oDec_at oX11_like 0 rfl) rfl rfl ?_
  refine r_iconst C (oDec_at oX11_like 1 rfl) (v := k2) (by rw [qk2]; rfl) ?_
  refine r_callVv C oCl11 rfl miX11_prepare mlX11_252 (ct_X11_prepare l E (s) k2 ) (by decide) rfl rfl rfl (Nat.le_of_ble_eq_true rfl) (oDec_at oX11_like 2 rfl) (fun u1 pu1 fu1 => ?_)
  try dsimp only at pu1
  refine r_aload_n C (j := 0) (oDec_at oX11_like 3 rfl) rfl rfl ?_
  refine r_getF (k := 10) (b := 43) C oCl11 rfl (by decide) flX11_74 rfl rfl rfl (oDec_at oX11_like 4 rfl) ?_
  refine r_iload_n C (j := 1) (oDec_at oX11_like 5 rfl) rfl rfl ?_
  refine r_pc C 10 rfl ?_
  refine r_iload_n C (j := 2) (oDec_at oX11_like 6 rfl) rfl rfl ?_
  refine r_callVi C oCl10 rfl miX10_countLike mlX11_266 (ct_X10_countLike l E (u1) a1 a2 ) (by decide) rfl rfl rfl (Nat.le_of_ble_eq_true rfl) (oDec_at oX11_like 7 rfl) (fun r4 u3 pu3 fu3 => ?_)
  try dsimp only at pu3
  have rr4 := n_rng r4
  exact r_iret C (oDec_at oX11_like 8 rfl) ⟨_, rfl, trivial⟩
set_option maxHeartbeats 4000000 in
set_option maxRecDepth 100000 in
theorem ct_X11_means (l : Launch) (E : oE) (s : oS) (a1 : Int32) (a2 : Int32)  : oMet l 8 yX11_means cX11_means 3 (some .int) [(1, 6), (1, 7), (1, 8), (7, 0), (7, 4), (7, 5), (9, 0), (9, 1), (9, 2), (9, 3), (9, 4), (10, 3), (10, 4), (24, 9999), (25, 9999), (26, 9999), (27, 9999), (28, 9999), (29, 9999), (30, 9999), (31, 9999), (32, 9999), (33, 9999), (34, 9999), (35, 9999), (36, 9999), (38, 9999), (39, 9999), (40, 9999), (41, 9999)] E s [.ref (oad E 0), .int a1, .int a2] (oPi (fun r u => True)) := by
  refine oMet.of (lv := [(0, .ref (oad E 0)), (1, .int a1), (2, .int a2)]) (by decide +kernel) (Nat.le_of_ble_eq_true rfl) rfl (fun J C hT => ?_)
  have C : oC l 8 cX11_means RX11 3 (some .int) [(1, 6), (1, 7), (1, 8), (7, 0), (7, 4), (7, 5), (9, 0), (9, 1), (9, 2), (9, 3), (9, 4), (10, 3), (10, 4), (24, 9999), (25, 9999), (26, 9999), (27, 9999), (28, 9999), (29, 9999), (30, 9999), (31, 9999), (32, 9999), (33, 9999), (34, 9999), (35, 9999), (36, 9999), (38, 9999), (39, 9999), (40, 9999), (41, 9999)] E s (oPi (fun r u => True)) J := C
  obtain ⟨km1, qkm1⟩ : ∃ z : Int32, z = (-1) := ⟨_, rfl⟩
  have ekm1 : km1.toInt = (-1) := by rw [qkm1]; rfl
  obtain ⟨k1, qk1⟩ : ∃ z : Int32, z = 1 := ⟨_, rfl⟩
  have ek1 : k1.toInt = 1 := by rw [qk1]; rfl
  obtain ⟨k2, qk2⟩ : ∃ z : Int32, z = 2 := ⟨_, rfl⟩
  have ek2 : k2.toInt = 2 := by rw [qk2]; rfl
  have rg1 := n_rng a1
  have rg2 := n_rng a2
  refine r_iload_n C (j := 1) (oDec_at oX11_means 0 rfl) rfl rfl ?_
  refine r_if_lt C 20 (oDec_at oX11_means 1 rfl) (by decide) (fun cd1 => ?_) (fun cd1 => ?_)
  · skip
    refine r_iconst C (oDec_at oX11_means 10 rfl) (v := km1) (by rw [qkm1]; rfl) ?_
    exact r_iret C (oDec_at oX11_means 11 rfl) ⟨_, rfl, trivial⟩
  · skip
    refine r_iload_n C (j := 1) (oDec_at oX11_means 2 rfl) rfl rfl ?_
    refine r_aload_n C (j := 0) (oDec_at oX11_means 3 rfl) rfl rfl ?_
    refine r_getS (k := 4) (q2 := 0) C oCl11 rfl (by decide) flX11_32 rfl rfl rfl ks1 (oDec_at oX11_means 4 rfl) (fun b2 rb2 mb2 hkb2 => ?_)
    obtain ⟨v3, ev3⟩ : ∃ z : Int32, (s).1 b2 8 = z := ⟨_, rfl⟩
    have gv3 : (s.1 b2 8).toInt = v3.toInt := congrArg Int32.toInt (ev3)
    refine r_getiN (k := 8) (lo := 0) (hi := 6) C v3 oCl0 hkb2 (by decide) flX11_153 rfl rfl (ev3) rfl rfl (oDec_at oX11_means 5 rfl) (fun b4 b4h => ?_)
    refine r_icmp_ge C 20 (oDec_at oX11_means 6 rfl) (by decide) (fun cd5 => ?_) (fun cd5 => ?_)
    · skip
      refine r_iconst C (oDec_at oX11_means 10 rfl) (v := km1) (by rw [qkm1]; rfl) ?_
      exact r_iret C (oDec_at oX11_means 11 rfl) ⟨_, rfl, trivial⟩
    · skip
      refine r_iload_n C (j := 2) (oDec_at oX11_means 7 rfl) rfl rfl ?_
      refine r_iconst C (oDec_at oX11_means 8 rfl) (v := km1) (by rw [qkm1]; rfl) ?_
      refine r_icmp_ge C 22 (oDec_at oX11_means 9 rfl) (by decide) (fun cd6 => ?_) (fun cd6 => ?_)
      · skip
        refine r_aload_n C (j := 0) (oDec_at oX11_means 12 rfl) rfl rfl ?_
        refine r_iconst C (oDec_at oX11_means 13 rfl) (v := k2) (by rw [qk2]; rfl) ?_
        refine r_callVv C oCl11 rfl miX11_prepare mlX11_252 (ct_X11_prepare l E (s) k2 ) (by decide) rfl rfl rfl (Nat.le_of_ble_eq_true rfl) (oDec_at oX11_means 14 rfl) (fun u7 pu7 fu7 => ?_)
        try dsimp only at pu7
        refine r_iload_n C (j := 2) (oDec_at oX11_means 15 rfl) rfl rfl ?_
        refine r_iconst C (oDec_at oX11_means 16 rfl) (v := km1) (by rw [qkm1]; rfl) ?_
        refine r_icmp_ne C 45 (oDec_at oX11_means 17 rfl) (by decide) (fun cd9 => ?_) (fun cd9 => ?_)
        · skip
          refine r_aload_n C (j := 0) (oDec_at oX11_means 25 rfl) rfl rfl ?_
          refine r_getF (k := 10) (b := 43) C oCl11 rfl (by decide) flX11_74 rfl rfl rfl (oDec_at oX11_means 26 rfl) ?_
          refine r_iconst C (oDec_at oX11_means 27 rfl) (v := k1) (by rw [qk1]; rfl) ?_
          refine r_iload_n C (j := 1) (oDec_at oX11_means 28 rfl) rfl rfl ?_
          obtain ⟨v10, ev10⟩ : ∃ z : Int32, z = k1 <<< (a1 &&& 31) := ⟨_, rfl⟩
          have rv10 := n_rng v10
          refine r_ishl C v10 (oDec_at oX11_means 29 rfl) ev10 ?_
          refine r_iload_n C (j := 2) (oDec_at oX11_means 30 rfl) rfl rfl ?_
          refine r_pc C 53 rfl ?_
          refine r_callVi C oCl10 rfl miX10_nthMeant mlX11_272 (ct_X10_nthMeant l E (u7) v10 a2 ) (by decide) rfl rfl rfl (Nat.le_of_ble_eq_true rfl) (oDec_at oX11_means 31 rfl) (fun r12 u11 pu11 fu11 => ?_)
          try dsimp only at pu11
          have rr12 := n_rng r12
          exact r_iret C (oDec_at oX11_means 32 rfl) ⟨_, rfl, trivial⟩
        · skip
          refine r_aload_n C (j := 0) (oDec_at oX11_means 18 rfl) rfl rfl ?_
          refine r_getF (k := 10) (b := 43) C oCl11 rfl (by decide) flX11_74 rfl rfl rfl (oDec_at oX11_means 19 rfl) ?_
          refine r_iconst C (oDec_at oX11_means 20 rfl) (v := k1) (by rw [qk1]; rfl) ?_
          refine r_iload_n C (j := 1) (oDec_at oX11_means 21 rfl) rfl rfl ?_
          obtain ⟨v13, ev13⟩ : ∃ z : Int32, z = k1 <<< (a1 &&& 31) := ⟨_, rfl⟩
          have rv13 := n_rng v13
          refine r_ishl C v13 (oDec_at oX11_means 22 rfl) ev13 ?_
          refine r_callVi C oCl10 rfl miX10_countMeant mlX11_269 (ct_X10_countMeant l E (u7) v13 ) (by decide) rfl rfl rfl (Nat.le_of_ble_eq_true rfl) (oDec_at oX11_means 23 rfl) (fun r15 u14 pu14 fu14 => ?_)
          try dsimp only at pu14
          have rr15 := n_rng r15
          refine r_pc C 42 rfl ?_
          refine r_goto C (tgt := 56) (oDec_at oX11_means 24 rfl) (by decide) ?_
          exact r_iret C (oDec_at oX11_means 32 rfl) ⟨_, rfl, trivial⟩
      · skip
        refine r_iconst C (oDec_at oX11_means 10 rfl) (v := km1) (by rw [qkm1]; rfl) ?_
        exact r_iret C (oDec_at oX11_means 11 rfl) ⟨_, rfl, trivial⟩
set_option maxHeartbeats 4000000 in
set_option maxRecDepth 100000 in
theorem ct_X11_mean (l : Launch) (E : oE) (s : oS) (a1 : Int32)  : oMet l 8 yX11_mean cX11_mean 2 (some .int) [(1, 6), (1, 7), (1, 8), (7, 0), (7, 4), (7, 5), (9, 0), (9, 1), (9, 2), (9, 3), (9, 4), (10, 3), (10, 4), (24, 9999), (25, 9999), (26, 9999), (27, 9999), (28, 9999), (29, 9999), (30, 9999), (31, 9999), (32, 9999), (33, 9999), (34, 9999), (35, 9999), (36, 9999), (38, 9999), (39, 9999), (40, 9999), (41, 9999)] E s [.ref (oad E 0), .int a1] (oPi (fun r u => True)) := by
  refine oMet.of (lv := [(0, .ref (oad E 0)), (1, .int a1)]) (by decide +kernel) (Nat.le_of_ble_eq_true rfl) rfl (fun J C hT => ?_)
  have C : oC l 8 cX11_mean RX11 2 (some .int) [(1, 6), (1, 7), (1, 8), (7, 0), (7, 4), (7, 5), (9, 0), (9, 1), (9, 2), (9, 3), (9, 4), (10, 3), (10, 4), (24, 9999), (25, 9999), (26, 9999), (27, 9999), (28, 9999), (29, 9999), (30, 9999), (31, 9999), (32, 9999), (33, 9999), (34, 9999), (35, 9999), (36, 9999), (38, 9999), (39, 9999), (40, 9999), (41, 9999)] E s (oPi (fun r u => True)) J := C
  obtain ⟨km1, qkm1⟩ : ∃ z : Int32, z = (-1) := ⟨_, rfl⟩
  have ekm1 : km1.toInt = (-1) := by rw [qkm1]; rfl
  obtain ⟨k1, qk1⟩ : ∃ z : Int32, z = 1 := ⟨_, rfl⟩
  have ek1 : k1.toInt = 1 := by rw [qk1]; rfl
  obtain ⟨k2, qk2⟩ : ∃ z : Int32, z = 2 := ⟨_, rfl⟩
  have ek2 : k2.toInt = 2 := by rw [qk2]; rfl
  have rg1 := n_rng a1
  refine r_iload_n C (j := 1) (oDec_at oX11_mean 0 rfl) rfl rfl ?_
  refine r_if_lt C 17 (oDec_at oX11_mean 1 rfl) (by decide) (fun cd1 => ?_) (fun cd1 => ?_)
  · skip
    refine r_iconst C (oDec_at oX11_mean 9 rfl) (v := km1) (by rw [qkm1]; rfl) ?_
    exact r_iret C (oDec_at oX11_mean 10 rfl) ⟨_, rfl, trivial⟩
  · skip
    refine r_iload_n C (j := 1) (oDec_at oX11_mean 2 rfl) rfl rfl ?_
    refine r_iconst C (oDec_at oX11_mean 3 rfl) (v := k1) (by rw [qk1]; rfl) ?_
    refine r_aload_n C (j := 0) (oDec_at oX11_mean 4 rfl) rfl rfl ?_
    refine r_getS (k := 4) (q2 := 0) C oCl11 rfl (by decide) flX11_32 rfl rfl rfl ks1 (oDec_at oX11_mean 5 rfl) (fun b2 rb2 mb2 hkb2 => ?_)
    obtain ⟨v3, ev3⟩ : ∃ z : Int32, (s).1 b2 8 = z := ⟨_, rfl⟩
    have gv3 : (s.1 b2 8).toInt = v3.toInt := congrArg Int32.toInt (ev3)
    refine r_getiN (k := 8) (lo := 0) (hi := 6) C v3 oCl0 hkb2 (by decide) flX11_153 rfl rfl (ev3) rfl rfl (oDec_at oX11_mean 6 rfl) (fun b4 b4h => ?_)
    obtain ⟨v5, ev5⟩ : ∃ z : Int32, z = k1 <<< (v3 &&& 31) := ⟨_, rfl⟩
    have rv5 := n_rng v5
    refine r_ishl C v5 (oDec_at oX11_mean 7 rfl) ev5 ?_
    refine r_pc C 14 rfl ?_
    refine r_icmp_lt C 19 (oDec_at oX11_mean 8 rfl) (by decide) (fun cd6 => ?_) (fun cd6 => ?_)
    · skip
      refine r_aload_n C (j := 0) (oDec_at oX11_mean 11 rfl) rfl rfl ?_
      refine r_iconst C (oDec_at oX11_mean 12 rfl) (v := k2) (by rw [qk2]; rfl) ?_
      refine r_callVv C oCl11 rfl miX11_prepare mlX11_252 (ct_X11_prepare l E (s) k2 ) (by decide) rfl rfl rfl (Nat.le_of_ble_eq_true rfl) (oDec_at oX11_mean 13 rfl) (fun u7 pu7 fu7 => ?_)
      try dsimp only at pu7
      refine r_aload_n C (j := 0) (oDec_at oX11_mean 14 rfl) rfl rfl ?_
      refine r_getF (k := 10) (b := 43) C oCl11 rfl (by decide) flX11_74 rfl rfl rfl (oDec_at oX11_mean 15 rfl) ?_
      refine r_iload_n C (j := 1) (oDec_at oX11_mean 16 rfl) rfl rfl ?_
      refine r_pc C 29 rfl ?_
      refine r_callVi C oCl10 rfl miX10_countMeant mlX11_269 (ct_X10_countMeant l E (u7) a1 ) (by decide) rfl rfl rfl (Nat.le_of_ble_eq_true rfl) (oDec_at oX11_mean 17 rfl) (fun r10 u9 pu9 fu9 => ?_)
      try dsimp only at pu9
      have rr10 := n_rng r10
      exact r_iret C (oDec_at oX11_mean 18 rfl) ⟨_, rfl, trivial⟩
    · skip
      refine r_iconst C (oDec_at oX11_mean 9 rfl) (v := km1) (by rw [qkm1]; rfl) ?_
      exact r_iret C (oDec_at oX11_mean 10 rfl) ⟨_, rfl, trivial⟩
set_option maxHeartbeats 4000000 in
set_option maxRecDepth 100000 in
theorem ct_X11_mottos (l : Launch) (E : oE) (s : oS) (a1 : Int32)  : oMet l 8 yX11_mottos cX11_mottos 2 (some .int) [(1, 6), (1, 7), (1, 8), (7, 0), (7, 4), (7, 5), (9, 0), (9, 1), (9, 2), (9, 3), (9, 4), (10, 3), (10, 4), (24, 9999), (25, 9999), (26, 9999), (27, 9999), (28, 9999), (29, 9999), (30, 9999), (31, 9999), (32, 9999), (33, 9999), (34, 9999), (35, 9999), (36, 9999), (37, 9999), (38, 9999), (39, 9999), (40, 9999), (41, 9999)] E s [.ref (oad E 0), .int a1] (oPi (fun r u => True)) := by
  refine oMet.of (lv := [(0, .ref (oad E 0)), (1, .int a1)]) (by decide +kernel) (Nat.le_of_ble_eq_true rfl) rfl (fun J C hT => ?_)
  have C : oC l 8 cX11_mottos RX11 2 (some .int) [(1, 6), (1, 7), (1, 8), (7, 0), (7, 4), (7, 5), (9, 0), (9, 1), (9, 2), (9, 3), (9, 4), (10, 3), (10, 4), (24, 9999), (25, 9999), (26, 9999), (27, 9999), (28, 9999), (29, 9999), (30, 9999), (31, 9999), (32, 9999), (33, 9999), (34, 9999), (35, 9999), (36, 9999), (37, 9999), (38, 9999), (39, 9999), (40, 9999), (41, 9999)] E s (oPi (fun r u => True)) J := C
  obtain ⟨k2, qk2⟩ : ∃ z : Int32, z = 2 := ⟨_, rfl⟩
  have ek2 : k2.toInt = 2 := by rw [qk2]; rfl
  have rg1 := n_rng a1
  refine r_aload_n C (j := 0) (oDec_at oX11_mottos 0 rfl) rfl rfl ?_
  refine r_iconst C (oDec_at oX11_mottos 1 rfl) (v := k2) (by rw [qk2]; rfl) ?_
  refine r_callVv C oCl11 rfl miX11_prepare mlX11_252 (ct_X11_prepare l E (s) k2 ) (by decide) rfl rfl rfl (Nat.le_of_ble_eq_true rfl) (oDec_at oX11_mottos 2 rfl) (fun u1 pu1 fu1 => ?_)
  try dsimp only at pu1
  refine r_aload_n C (j := 0) (oDec_at oX11_mottos 3 rfl) rfl rfl ?_
  refine r_getF (k := 10) (b := 43) C oCl11 rfl (by decide) flX11_74 rfl rfl rfl (oDec_at oX11_mottos 4 rfl) ?_
  refine r_iload_n C (j := 1) (oDec_at oX11_mottos 5 rfl) rfl rfl ?_
  refine r_pc C 10 rfl ?_
  refine r_callVi C oCl10 rfl miX10_fewestMottos mlX11_275 (ct_X10_fewestMottos l E (u1) a1 ) (by decide) rfl rfl rfl (Nat.le_of_ble_eq_true rfl) (oDec_at oX11_mottos 6 rfl) (fun r4 u3 pu3 fu3 => ?_)
  try dsimp only at pu3
  have rr4 := n_rng r4
  exact r_iret C (oDec_at oX11_mottos 7 rfl) ⟨_, rfl, trivial⟩
set_option maxHeartbeats 4000000 in
set_option maxRecDepth 100000 in
theorem ct_X11_common (l : Launch) (E : oE) (s : oS) (a1 : Int32)  : oMet l 8 yX11_common cX11_common 2 (some .int) [(1, 6), (1, 7), (1, 8), (7, 0), (7, 4), (7, 5), (9, 0), (9, 1), (9, 2), (9, 3), (9, 4), (10, 3), (10, 4), (24, 9999), (25, 9999), (26, 9999), (27, 9999), (28, 9999), (29, 9999), (30, 9999), (31, 9999), (32, 9999), (33, 9999), (34, 9999), (35, 9999), (36, 9999), (37, 9999), (38, 9999), (39, 9999), (40, 9999), (41, 9999)] E s [.ref (oad E 0), .int a1] (oPi (fun r u => True)) := by
  refine oMet.of (lv := [(0, .ref (oad E 0)), (1, .int a1)]) (by decide +kernel) (Nat.le_of_ble_eq_true rfl) rfl (fun J C hT => ?_)
  have C : oC l 8 cX11_common RX11 2 (some .int) [(1, 6), (1, 7), (1, 8), (7, 0), (7, 4), (7, 5), (9, 0), (9, 1), (9, 2), (9, 3), (9, 4), (10, 3), (10, 4), (24, 9999), (25, 9999), (26, 9999), (27, 9999), (28, 9999), (29, 9999), (30, 9999), (31, 9999), (32, 9999), (33, 9999), (34, 9999), (35, 9999), (36, 9999), (37, 9999), (38, 9999), (39, 9999), (40, 9999), (41, 9999)] E s (oPi (fun r u => True)) J := C
  obtain ⟨km1000000000, qkm1000000000⟩ : ∃ z : Int32, z = (-1000000000) := ⟨_, rfl⟩
  have ekm1000000000 : km1000000000.toInt = (-1000000000) := by rw [qkm1000000000]; rfl
  obtain ⟨k0, qk0⟩ : ∃ z : Int32, z = 0 := ⟨_, rfl⟩
  have ek0 : k0.toInt = 0 := by rw [qk0]; rfl
  obtain ⟨k1, qk1⟩ : ∃ z : Int32, z = 1 := ⟨_, rfl⟩
  have ek1 : k1.toInt = 1 := by rw [qk1]; rfl
  obtain ⟨k2, qk2⟩ : ∃ z : Int32, z = 2 := ⟨_, rfl⟩
  have ek2 : k2.toInt = 2 := by rw [qk2]; rfl
  obtain ⟨k3, qk3⟩ : ∃ z : Int32, z = 3 := ⟨_, rfl⟩
  have ek3 : k3.toInt = 3 := by rw [qk3]; rfl
  have rg1 := n_rng a1
  refine r_aload_n C (j := 0) (oDec_at oX11_common 0 rfl) rfl rfl ?_
  refine r_iconst C (oDec_at oX11_common 1 rfl) (v := k2) (by rw [qk2]; rfl) ?_
  refine r_callVv C oCl11 rfl miX11_prepare mlX11_252 (ct_X11_prepare l E (s) k2 ) (by decide) rfl rfl rfl (Nat.le_of_ble_eq_true rfl) (oDec_at oX11_common 2 rfl) (fun u1 pu1 fu1 => ?_)
  try dsimp only at pu1
  refine r_iload_n C (j := 1) (oDec_at oX11_common 3 rfl) rfl rfl ?_
  refine r_if_lt C 24 (oDec_at oX11_common 4 rfl) (by decide) (fun cd3 => ?_) (fun cd3 => ?_)
  · skip
    refine r_ldc C (v := km1000000000) (by rw [qkm1000000000]; exact kcX11_195) (oDec_at oX11_common 12 rfl) ?_
    exact r_iret C (oDec_at oX11_common 13 rfl) ⟨_, rfl, trivial⟩
  · skip
    refine r_iload_n C (j := 1) (oDec_at oX11_common 5 rfl) rfl rfl ?_
    refine r_iconst C (oDec_at oX11_common 6 rfl) (v := k3) (by rw [qk3]; rfl) ?_
    refine r_icmp_gt C 24 (oDec_at oX11_common 7 rfl) (by decide) (fun cd4 => ?_) (fun cd4 => ?_)
    · skip
      refine r_ldc C (v := km1000000000) (by rw [qkm1000000000]; exact kcX11_195) (oDec_at oX11_common 12 rfl) ?_
      exact r_iret C (oDec_at oX11_common 13 rfl) ⟨_, rfl, trivial⟩
    · skip
      refine r_aload_n C (j := 0) (oDec_at oX11_common 8 rfl) rfl rfl ?_
      refine r_getF (k := 10) (b := 43) C oCl11 rfl (by decide) flX11_74 rfl rfl rfl (oDec_at oX11_common 9 rfl) ?_
      obtain ⟨v5, ev5⟩ : ∃ z : Int32, (u1).1 43 4 = z := ⟨_, rfl⟩
      have gv5 : (u1.1 43 4).toInt = v5.toInt := congrArg Int32.toInt (ev5)
      refine r_getiN (k := 4) (lo := 0) (hi := 4500) C v5 oCl10 rfl (by decide) flX11_278 rfl rfl (ev5) rfl rfl (oDec_at oX11_common 10 rfl) (fun b6 b6h => ?_)
      refine r_if_ne C 27 (oDec_at oX11_common 11 rfl) (by decide) (fun cd7 => ?_) (fun cd7 => ?_)
      · skip
        refine r_aload_n C (j := 0) (oDec_at oX11_common 14 rfl) rfl rfl ?_
        refine r_getF (k := 10) (b := 43) C oCl11 rfl (by decide) flX11_74 rfl rfl rfl (oDec_at oX11_common 15 rfl) ?_
        refine r_iload_n C (j := 1) (oDec_at oX11_common 16 rfl) rfl rfl ?_
        refine r_iconst C (oDec_at oX11_common 17 rfl) (v := k2) (by rw [qk2]; rfl) ?_
        obtain ⟨v8, ev8⟩ : ∃ z : Int32, z = a1 - a1 / k2 * k2 := ⟨_, rfl⟩
        have hv8 := n_rem (k := 2) ev8 ek2 (by decide)
        have rv8 := n_rng v8
        refine r_irem C v8 (oDec_at oX11_common 18 rfl) (n_ne0 (by omega)) ev8 ?_
        refine r_if_ne C 41 (oDec_at oX11_common 19 rfl) (by decide) (fun cd9 => ?_) (fun cd9 => ?_)
        · skip
          refine r_iconst C (oDec_at oX11_common 22 rfl) (v := k0) (by rw [qk0]; rfl) ?_
          refine r_iload_n C (j := 1) (oDec_at oX11_common 23 rfl) rfl rfl ?_
          refine r_iconst C (oDec_at oX11_common 24 rfl) (v := k2) (by rw [qk2]; rfl) ?_
          refine r_icmp_lt C 51 (oDec_at oX11_common 25 rfl) (by decide) (fun cd10 => ?_) (fun cd10 => ?_)
          · skip
            refine r_iconst C (oDec_at oX11_common 28 rfl) (v := k0) (by rw [qk0]; rfl) ?_
            refine r_callVi C oCl10 rfl miX10_commonest mlX11_279 (ct_X10_commonest l E (u1) k0 k0 (by omega) (by omega)) (by decide) rfl rfl rfl (Nat.le_of_ble_eq_true rfl) (oDec_at oX11_common 29 rfl) (fun r12 u11 pu11 fu11 => ?_)
            try dsimp only at pu11
            have rr12 := n_rng r12
            exact r_iret C (oDec_at oX11_common 30 rfl) ⟨_, rfl, trivial⟩
          · skip
            refine r_iconst C (oDec_at oX11_common 26 rfl) (v := k1) (by rw [qk1]; rfl) ?_
            refine r_goto C (tgt := 52) (oDec_at oX11_common 27 rfl) (by decide) ?_
            refine r_callVi C oCl10 rfl miX10_commonest mlX11_279 (ct_X10_commonest l E (u1) k0 k1 (by omega) (by omega)) (by decide) rfl rfl rfl (Nat.le_of_ble_eq_true rfl) (oDec_at oX11_common 29 rfl) (fun r14 u13 pu13 fu13 => ?_)
            try dsimp only at pu13
            have rr14 := n_rng r14
            exact r_iret C (oDec_at oX11_common 30 rfl) ⟨_, rfl, trivial⟩
        · skip
          refine r_iconst C (oDec_at oX11_common 20 rfl) (v := k1) (by rw [qk1]; rfl) ?_
          refine r_goto C (tgt := 42) (oDec_at oX11_common 21 rfl) (by decide) ?_
          refine r_iload_n C (j := 1) (oDec_at oX11_common 23 rfl) rfl rfl ?_
          refine r_iconst C (oDec_at oX11_common 24 rfl) (v := k2) (by rw [qk2]; rfl) ?_
          refine r_icmp_lt C 51 (oDec_at oX11_common 25 rfl) (by decide) (fun cd15 => ?_) (fun cd15 => ?_)
          · skip
            refine r_iconst C (oDec_at oX11_common 28 rfl) (v := k0) (by rw [qk0]; rfl) ?_
            refine r_callVi C oCl10 rfl miX10_commonest mlX11_279 (ct_X10_commonest l E (u1) k1 k0 (by omega) (by omega)) (by decide) rfl rfl rfl (Nat.le_of_ble_eq_true rfl) (oDec_at oX11_common 29 rfl) (fun r17 u16 pu16 fu16 => ?_)
            try dsimp only at pu16
            have rr17 := n_rng r17
            exact r_iret C (oDec_at oX11_common 30 rfl) ⟨_, rfl, trivial⟩
          · skip
            refine r_iconst C (oDec_at oX11_common 26 rfl) (v := k1) (by rw [qk1]; rfl) ?_
            refine r_goto C (tgt := 52) (oDec_at oX11_common 27 rfl) (by decide) ?_
            refine r_callVi C oCl10 rfl miX10_commonest mlX11_279 (ct_X10_commonest l E (u1) k1 k1 (by omega) (by omega)) (by decide) rfl rfl rfl (Nat.le_of_ble_eq_true rfl) (oDec_at oX11_common 29 rfl) (fun r19 u18 pu18 fu18 => ?_)
            try dsimp only at pu18
            have rr19 := n_rng r19
            exact r_iret C (oDec_at oX11_common 30 rfl) ⟨_, rfl, trivial⟩
      · skip
        refine r_ldc C (v := km1000000000) (by rw [qkm1000000000]; exact kcX11_195) (oDec_at oX11_common 12 rfl) ?_
        exact r_iret C (oDec_at oX11_common 13 rfl) ⟨_, rfl, trivial⟩
set_option maxHeartbeats 4000000 in
set_option maxRecDepth 100000 in
theorem ct_X11_over (l : Launch) (E : oE) (s : oS) (a1 : Int32) (a2 : Int32)  : oMet l 8 yX11_over cX11_over 5 (some .int) [(1, 6), (1, 7), (1, 8), (7, 0), (7, 4), (7, 5), (9, 0), (9, 1), (9, 2), (9, 3), (9, 4), (10, 3), (10, 4), (24, 9999), (25, 9999), (26, 9999), (27, 9999), (28, 9999), (29, 9999), (30, 9999), (31, 9999), (32, 9999), (33, 9999), (34, 9999), (35, 9999), (36, 9999), (38, 9999), (39, 9999), (40, 9999), (41, 9999)] E s [.ref (oad E 0), .int a1, .int a2] (oPi (fun r u => True)) := by
  refine oMet.of (lv := [(0, .ref (oad E 0)), (1, .int a1), (2, .int a2)]) (by decide +kernel) (Nat.le_of_ble_eq_true rfl) rfl (fun J C hT => ?_)
  have C : oC l 8 cX11_over RX11 5 (some .int) [(1, 6), (1, 7), (1, 8), (7, 0), (7, 4), (7, 5), (9, 0), (9, 1), (9, 2), (9, 3), (9, 4), (10, 3), (10, 4), (24, 9999), (25, 9999), (26, 9999), (27, 9999), (28, 9999), (29, 9999), (30, 9999), (31, 9999), (32, 9999), (33, 9999), (34, 9999), (35, 9999), (36, 9999), (38, 9999), (39, 9999), (40, 9999), (41, 9999)] E s (oPi (fun r u => True)) J := C
  obtain ⟨km1, qkm1⟩ : ∃ z : Int32, z = (-1) := ⟨_, rfl⟩
  have ekm1 : km1.toInt = (-1) := by rw [qkm1]; rfl
  obtain ⟨k0, qk0⟩ : ∃ z : Int32, z = 0 := ⟨_, rfl⟩
  have ek0 : k0.toInt = 0 := by rw [qk0]; rfl
  obtain ⟨k1, qk1⟩ : ∃ z : Int32, z = 1 := ⟨_, rfl⟩
  have ek1 : k1.toInt = 1 := by rw [qk1]; rfl
  have rg1 := n_rng a1
  have rg2 := n_rng a2
  have key : ∀ n : Nat, (∀ (t : oS) (x3 : Int32) (x4 : Int32), (0 ≤ x4.toInt) → 2147483648 - x4.toInt ≤ (n : Int) → J t 31 [(0, .ref (oad E 0)), (1, .int a1), (2, .int a2), (3, .int x3), (4, .int x4)] []) := by
    intro n
    induction n using Nat.strongRecOn with
    | _ n ih =>
      skip
      · intro t x3 x4  iv0 hmu
        have rx3 := n_rng x3
        have rx4 := n_rng x4
        refine r_iload C (j := 4) (oDec_at oX11_over 18 rfl) rfl ?_
        refine r_iload_n C (j := 1) (oDec_at oX11_over 19 rfl) rfl rfl ?_
        refine r_iconst C (oDec_at oX11_over 20 rfl) (v := k1) (by rw [qk1]; rfl) ?_
        obtain ⟨v1, ev1⟩ : ∃ z : Int32, z = a1 - k1 := ⟨_, rfl⟩
        have rv1 := n_rng v1
        refine r_isub C v1 (oDec_at oX11_over 21 rfl) ev1 ?_
        refine r_icmp_ge C 83 (oDec_at oX11_over 22 rfl) (by decide) (fun cd2 => ?_) (fun cd2 => ?_)
        · skip
          refine r_iload_n C (j := 3) (oDec_at oX11_over 44 rfl) rfl rfl ?_
          exact r_iret C (oDec_at oX11_over 45 rfl) ⟨_, rfl, trivial⟩
        · skip
          refine r_aload_n C (j := 0) (oDec_at oX11_over 23 rfl) rfl rfl ?_
          refine r_getF (k := 9) (b := 42) C oCl11 rfl (by decide) flX11_67 rfl rfl rfl (oDec_at oX11_over 24 rfl) ?_
          refine r_aload_n C (j := 0) (oDec_at oX11_over 25 rfl) rfl rfl ?_
          refine r_getF (k := 10) (b := 43) C oCl11 rfl (by decide) flX11_74 rfl rfl rfl (oDec_at oX11_over 26 rfl) ?_
          refine r_aload_n C (j := 0) (oDec_at oX11_over 27 rfl) rfl rfl ?_
          refine r_iload_n C (j := 1) (oDec_at oX11_over 28 rfl) rfl rfl ?_
          refine r_pc C 49 rfl ?_
          refine r_iload_n C (j := 2) (oDec_at oX11_over 29 rfl) rfl rfl ?_
          refine r_iload C (j := 4) (oDec_at oX11_over 30 rfl) rfl ?_
          refine r_callVi C oCl11 rfl miX11_member mlX11_258 (ct_X11_member l E (t) a1 a2 x4 ) (by decide) rfl rfl rfl (Nat.le_of_ble_eq_true rfl) (oDec_at oX11_over 31 rfl) (fun r4 u3 pu3 fu3 => ?_)
          try dsimp only at pu3
          have rr4 := n_rng r4
          refine r_callVi C oCl10 rfl miX10_codeOf mlX11_261 (ct_X10_codeOf l E (u3) r4 ) (by decide) rfl rfl rfl (Nat.le_of_ble_eq_true rfl) (oDec_at oX11_over 32 rfl) (fun r6 u5 pu5 fu5 => ?_)
          try dsimp only at pu5
          have rr6 := n_rng r6
          refine r_callVv C oCl9 rfl miX9_take mlX11_196 (ct_X9_take l E (u5) 42 rfl r6 ) (by decide) rfl rfl rfl (Nat.le_of_ble_eq_true rfl) (oDec_at oX11_over 33 rfl) (fun u7 pu7 fu7 => ?_)
          try dsimp only at pu7
          refine r_iload_n C (j := 3) (oDec_at oX11_over 34 rfl) rfl rfl ?_
          refine r_pc C 62 rfl ?_
          refine r_aload_n C (j := 0) (oDec_at oX11_over 35 rfl) rfl rfl ?_
          refine r_getF (k := 9) (b := 42) C oCl11 rfl (by decide) flX11_67 rfl rfl rfl (oDec_at oX11_over 36 rfl) ?_
          refine r_aload_n C (j := 0) (oDec_at oX11_over 37 rfl) rfl rfl ?_
          refine r_getS (k := 1) (q2 := 4) C oCl11 rfl (by decide) flX11_19 rfl rfl rfl ks0 (oDec_at oX11_over 38 rfl) (fun b9 rb9 mb9 hkb9 => ?_)
          refine r_callVi C oCl9 rfl miX9_stop mlX11_218 (ct_X9_stop l E (u7) 42 rfl b9 hkb9 ) (by decide) rfl rfl rfl (Nat.le_of_ble_eq_true rfl) (oDec_at oX11_over 39 rfl) (fun r11 u10 pu10 fu10 => ?_)
          try dsimp only at pu10
          have rr11 := n_rng r11
          refine r_callSi C miJ9_max_7cf53 mlX11_283 (ct_J9_max_7cf53 l E (u10) x3 r11 ) (by decide) rfl rfl rfl (Nat.le_of_ble_eq_true rfl) (oDec_at oX11_over 40 rfl) (fun r13 u12 pu12 fu12 => ?_)
          try dsimp only at pu12
          have rr13 := n_rng r13
          refine r_pc C 76 rfl ?_
          refine r_istore_n C (lv' := [(0, .ref (oad E 0)), (1, .int a1), (2, .int a2), (3, .int r13), (4, .int x4)]) [1, 2, 3, 0, 4] (oDec_at oX11_over 41 rfl) rfl (by decide) rfl ?_
          obtain ⟨v14, ev14⟩ : ∃ z : Int32, x4 + Int32.ofInt 1 = z := ⟨_, rfl⟩
          have hv14 : v14.toInt = x4.toInt + 1 := n_inc ev14 (by decide) (by omega) (by omega)
          refine r_iinc C (j := 4) (lv' := [(0, .ref (oad E 0)), (1, .int a1), (2, .int a2), (3, .int r13), (4, .int v14)]) v14 [1, 2, 3, 4, 0] (oDec_at oX11_over 42 rfl) rfl ev14 (by decide) rfl ?_
          refine r_goto C (tgt := 31) (oDec_at oX11_over 43 rfl) (by decide) ?_
          exact (ih (n - 1) (by omega)) (u12) r13 v14  (by omega) (by omega)
  refine r_aload_n C (j := 0) (oDec_at oX11_over 0 rfl) rfl rfl ?_
  refine r_iload_n C (j := 1) (oDec_at oX11_over 1 rfl) rfl rfl ?_
  refine r_callVv C oCl11 rfl miX11_prepare mlX11_252 (ct_X11_prepare l E (s) a1 ) (by decide) rfl rfl rfl (Nat.le_of_ble_eq_true rfl) (oDec_at oX11_over 2 rfl) (fun u15 pu15 fu15 => ?_)
  try dsimp only at pu15
  refine r_iload_n C (j := 2) (oDec_at oX11_over 3 rfl) rfl rfl ?_
  refine r_if_lt C 18 (oDec_at oX11_over 4 rfl) (by decide) (fun cd17 => ?_) (fun cd17 => ?_)
  · skip
    refine r_iconst C (oDec_at oX11_over 10 rfl) (v := km1) (by rw [qkm1]; rfl) ?_
    exact r_iret C (oDec_at oX11_over 11 rfl) ⟨_, rfl, trivial⟩
  · skip
    refine r_iload_n C (j := 2) (oDec_at oX11_over 5 rfl) rfl rfl ?_
    refine r_aload_n C (j := 0) (oDec_at oX11_over 6 rfl) rfl rfl ?_
    refine r_iload_n C (j := 1) (oDec_at oX11_over 7 rfl) rfl rfl ?_
    refine r_callVi C oCl11 rfl miX11_howMany mlX11_255 (ct_X11_howMany l E (u15) a1 ) (by decide) rfl rfl rfl (Nat.le_of_ble_eq_true rfl) (oDec_at oX11_over 8 rfl) (fun r19 u18 pu18 fu18 => ?_)
    try dsimp only at pu18
    have rr19 := n_rng r19
    refine r_icmp_lt C 20 (oDec_at oX11_over 9 rfl) (by decide) (fun cd20 => ?_) (fun cd20 => ?_)
    · skip
      refine r_aload_n C (j := 0) (oDec_at oX11_over 12 rfl) rfl rfl ?_
      refine r_getS (k := 1) (q2 := 4) C oCl11 rfl (by decide) flX11_19 rfl rfl rfl ks0 (oDec_at oX11_over 13 rfl) (fun b21 rb21 mb21 hkb21 => ?_)
      obtain ⟨v22, ev22⟩ : ∃ z : Int32, (u18).1 b21 5 = z := ⟨_, rfl⟩
      have gv22 : (s.1 b21 5).toInt = v22.toInt := congrArg Int32.toInt ((((fu18 b21 5 (by rw [hkb21]; rfl)).1).trans ((fu15 b21 5 (by rw [hkb21]; rfl)).1)).symm.trans ev22)
      refine r_getiN (k := 5) (lo := 0) (hi := 96) C v22 oCl4 hkb21 (by decide) flX11_147 rfl rfl (ev22) rfl rfl (oDec_at oX11_over 14 rfl) (fun b23 b23h => ?_)
      refine r_istore_n C (lv' := [(0, .ref (oad E 0)), (1, .int a1), (2, .int a2), (3, .int v22)]) [1, 2, 3, 0] (oDec_at oX11_over 15 rfl) rfl (by decide) rfl ?_
      refine r_iconst C (oDec_at oX11_over 16 rfl) (v := k0) (by rw [qk0]; rfl) ?_
      refine r_istore C (lv' := [(0, .ref (oad E 0)), (1, .int a1), (2, .int a2), (3, .int v22), (4, .int k0)]) [1, 2, 3, 4, 0] (oDec_at oX11_over 17 rfl) (by decide) rfl ?_
      exact (key (2147483648 - k0.toInt).toNat) (u18) v22 k0  (by omega) (by omega)
    · skip
      refine r_iconst C (oDec_at oX11_over 10 rfl) (v := km1) (by rw [qkm1]; rfl) ?_
      exact r_iret C (oDec_at oX11_over 11 rfl) ⟨_, rfl, trivial⟩
set_option maxHeartbeats 4000000 in
set_option maxRecDepth 100000 in
theorem ct_X11_alike (l : Launch) (E : oE) (s : oS) (a1 : Int32)  : oMet l 8 yX11_alike cX11_alike 2 (some .int) [(1, 6), (1, 7), (1, 8), (3, 0), (3, 1), (3, 2), (6, 2), (7, 0), (7, 4), (7, 5), (9, 0), (9, 1), (9, 2), (9, 3), (9, 4), (10, 3), (10, 4), (24, 9999), (25, 9999), (26, 9999), (27, 9999), (28, 9999), (29, 9999), (30, 9999), (31, 9999), (32, 9999), (33, 9999), (34, 9999), (35, 9999), (36, 9999), (38, 9999), (39, 9999), (40, 9999), (41, 9999), (42, 9999), (43, 9999), (44, 9999), (45, 9999), (46, 9999), (47, 9999)] E s [.ref (oad E 0), .int a1] (oPi (fun r u => True)) := by
  refine oMet.of (lv := [(0, .ref (oad E 0)), (1, .int a1)]) (by decide +kernel) (Nat.le_of_ble_eq_true rfl) rfl (fun J C hT => ?_)
  have C : oC l 8 cX11_alike RX11 2 (some .int) [(1, 6), (1, 7), (1, 8), (3, 0), (3, 1), (3, 2), (6, 2), (7, 0), (7, 4), (7, 5), (9, 0), (9, 1), (9, 2), (9, 3), (9, 4), (10, 3), (10, 4), (24, 9999), (25, 9999), (26, 9999), (27, 9999), (28, 9999), (29, 9999), (30, 9999), (31, 9999), (32, 9999), (33, 9999), (34, 9999), (35, 9999), (36, 9999), (38, 9999), (39, 9999), (40, 9999), (41, 9999), (42, 9999), (43, 9999), (44, 9999), (45, 9999), (46, 9999), (47, 9999)] E s (oPi (fun r u => True)) J := C
  obtain ⟨k2, qk2⟩ : ∃ z : Int32, z = 2 := ⟨_, rfl⟩
  have ek2 : k2.toInt = 2 := by rw [qk2]; rfl
  have rg1 := n_rng a1
  refine r_aload_n C (j := 0) (oDec_at oX11_alike 0 rfl) rfl rfl ?_
  refine r_iconst C (oDec_at oX11_alike 1 rfl) (v := k2) (by rw [qk2]; rfl) ?_
  refine r_callVv C oCl11 rfl miX11_prepare mlX11_252 (ct_X11_prepare l E (s) k2 ) (by decide) rfl rfl rfl (Nat.le_of_ble_eq_true rfl) (oDec_at oX11_alike 2 rfl) (fun u1 pu1 fu1 => ?_)
  try dsimp only at pu1
  refine r_aload_n C (j := 0) (oDec_at oX11_alike 3 rfl) rfl rfl ?_
  refine r_callVv C oCl11 rfl miX11_prepareLikeness mlX11_288 (ct_X11_prepareLikeness l E (u1)  ) (by decide) rfl rfl rfl (Nat.le_of_ble_eq_true rfl) (oDec_at oX11_alike 4 rfl) (fun u3 pu3 fu3 => ?_)
  try dsimp only at pu3
  refine r_aload_n C (j := 0) (oDec_at oX11_alike 5 rfl) rfl rfl ?_
  refine r_pc C 10 rfl ?_
  refine r_getF (k := 12) (b := 56) C oCl11 rfl (by decide) flX11_88 rfl rfl rfl (oDec_at oX11_alike 6 rfl) ?_
  refine r_iload_n C (j := 1) (oDec_at oX11_alike 7 rfl) rfl rfl ?_
  refine r_callVi C oCl3 rfl miX3_firstOf mlX11_291 (ct_X3_firstOf l E (u3) a1 ) (by decide) rfl rfl rfl (Nat.le_of_ble_eq_true rfl) (oDec_at oX11_alike 8 rfl) (fun r6 u5 pu5 fu5 => ?_)
  try dsimp only at pu5
  have rr6 := n_rng r6
  exact r_iret C (oDec_at oX11_alike 9 rfl) ⟨_, rfl, trivial⟩
set_option maxHeartbeats 4000000 in
set_option maxRecDepth 100000 in
theorem ct_X11_unlike (l : Launch) (E : oE) (s : oS)   : oMet l 8 yX11_unlike cX11_unlike 1 (some .int) [(1, 6), (1, 7), (1, 8), (3, 0), (3, 1), (3, 2), (6, 2), (7, 0), (7, 4), (7, 5), (9, 0), (9, 1), (9, 2), (9, 3), (9, 4), (10, 3), (10, 4), (24, 9999), (25, 9999), (26, 9999), (27, 9999), (28, 9999), (29, 9999), (30, 9999), (31, 9999), (32, 9999), (33, 9999), (34, 9999), (35, 9999), (36, 9999), (38, 9999), (39, 9999), (40, 9999), (41, 9999), (42, 9999), (43, 9999), (44, 9999), (45, 9999), (46, 9999), (47, 9999)] E s [.ref (oad E 0)] (oPi (fun r u => True)) := by
  refine oMet.of (lv := [(0, .ref (oad E 0))]) (by decide +kernel) (Nat.le_of_ble_eq_true rfl) rfl (fun J C hT => ?_)
  have C : oC l 8 cX11_unlike RX11 1 (some .int) [(1, 6), (1, 7), (1, 8), (3, 0), (3, 1), (3, 2), (6, 2), (7, 0), (7, 4), (7, 5), (9, 0), (9, 1), (9, 2), (9, 3), (9, 4), (10, 3), (10, 4), (24, 9999), (25, 9999), (26, 9999), (27, 9999), (28, 9999), (29, 9999), (30, 9999), (31, 9999), (32, 9999), (33, 9999), (34, 9999), (35, 9999), (36, 9999), (38, 9999), (39, 9999), (40, 9999), (41, 9999), (42, 9999), (43, 9999), (44, 9999), (45, 9999), (46, 9999), (47, 9999)] E s (oPi (fun r u => True)) J := C
  obtain ⟨k2, qk2⟩ : ∃ z : Int32, z = 2 := ⟨_, rfl⟩
  have ek2 : k2.toInt = 2 := by rw [qk2]; rfl
  refine r_aload_n C (j := 0) (oDec_at oX11_unlike 0 rfl) rfl rfl ?_
  refine r_iconst C (oDec_at oX11_unlike 1 rfl) (v := k2) (by rw [qk2]; rfl) ?_
  refine r_callVv C oCl11 rfl miX11_prepare mlX11_252 (ct_X11_prepare l E (s) k2 ) (by decide) rfl rfl rfl (Nat.le_of_ble_eq_true rfl) (oDec_at oX11_unlike 2 rfl) (fun u1 pu1 fu1 => ?_)
  try dsimp only at pu1
  refine r_aload_n C (j := 0) (oDec_at oX11_unlike 3 rfl) rfl rfl ?_
  refine r_callVv C oCl11 rfl miX11_prepareLikeness mlX11_288 (ct_X11_prepareLikeness l E (u1)  ) (by decide) rfl rfl rfl (Nat.le_of_ble_eq_true rfl) (oDec_at oX11_unlike 4 rfl) (fun u3 pu3 fu3 => ?_)
  try dsimp only at pu3
  refine r_aload_n C (j := 0) (oDec_at oX11_unlike 5 rfl) rfl rfl ?_
  refine r_pc C 10 rfl ?_
  refine r_getF (k := 12) (b := 56) C oCl11 rfl (by decide) flX11_88 rfl rfl rfl (oDec_at oX11_unlike 6 rfl) ?_
  obtain ⟨v5, ev5⟩ : ∃ z : Int32, (u3).1 56 1 = z := ⟨_, rfl⟩
  have gv5 : (u3.1 56 1).toInt = v5.toInt := congrArg Int32.toInt (ev5)
  have rv5 := n_rng v5
  refine r_getiN (k := 1) (lo := (-2147483648)) (hi := 2147483647) C v5 oCl3 rfl (by decide) flX11_294 rfl rfl (ev5) rfl rfl (oDec_at oX11_unlike 7 rfl) (fun _ _ => ?_)
  exact r_iret C (oDec_at oX11_unlike 8 rfl) ⟨_, rfl, trivial⟩
set_option maxHeartbeats 4000000 in
set_option maxRecDepth 100000 in
theorem ct_X11_rule (l : Launch) (E : oE) (s : oS) (a1 : Int32) (a2 : Int32) (hp0 : 0 ≤ a2.toInt ∧ a2.toInt ≤ 1) : oMet l 8 yX11_rule cX11_rule 3 (some .int) [(1, 6), (1, 7), (1, 8), (7, 0), (7, 4), (7, 5), (9, 0), (9, 1), (9, 2), (9, 3), (9, 4), (10, 3), (10, 4), (24, 9999), (25, 9999), (26, 9999), (27, 9999), (28, 9999), (29, 9999), (30, 9999), (31, 9999), (32, 9999), (33, 9999), (34, 9999), (35, 9999), (36, 9999), (38, 9999), (39, 9999), (40, 9999), (41, 9999)] E s [.ref (oad E 0), .int a1, .int a2] (oPi (fun r u => True)) := by
  refine oMet.of (lv := [(0, .ref (oad E 0)), (1, .int a1), (2, .int a2)]) (by decide +kernel) (Nat.le_of_ble_eq_true rfl) rfl (fun J C hT => ?_)
  have C : oC l 8 cX11_rule RX11 3 (some .int) [(1, 6), (1, 7), (1, 8), (7, 0), (7, 4), (7, 5), (9, 0), (9, 1), (9, 2), (9, 3), (9, 4), (10, 3), (10, 4), (24, 9999), (25, 9999), (26, 9999), (27, 9999), (28, 9999), (29, 9999), (30, 9999), (31, 9999), (32, 9999), (33, 9999), (34, 9999), (35, 9999), (36, 9999), (38, 9999), (39, 9999), (40, 9999), (41, 9999)] E s (oPi (fun r u => True)) J := C
  obtain ⟨km1, qkm1⟩ : ∃ z : Int32, z = (-1) := ⟨_, rfl⟩
  have ekm1 : km1.toInt = (-1) := by rw [qkm1]; rfl
  obtain ⟨k2, qk2⟩ : ∃ z : Int32, z = 2 := ⟨_, rfl⟩
  have ek2 : k2.toInt = 2 := by rw [qk2]; rfl
  have rg1 := n_rng a1
  have rg2 := n_rng a2
  refine r_iload_n C (j := 1) (oDec_at oX11_rule 0 rfl) rfl rfl ?_
  refine r_if_lt C 15 (oDec_at oX11_rule 1 rfl) (by decide) (fun cd1 => ?_) (fun cd1 => ?_)
  · skip
    refine r_iconst C (oDec_at oX11_rule 7 rfl) (v := km1) (by rw [qkm1]; rfl) ?_
    exact r_iret C (oDec_at oX11_rule 8 rfl) ⟨_, rfl, trivial⟩
  · skip
    refine r_iload_n C (j := 1) (oDec_at oX11_rule 2 rfl) rfl rfl ?_
    refine r_aload_n C (j := 0) (oDec_at oX11_rule 3 rfl) rfl rfl ?_
    refine r_getS (k := 4) (q2 := 0) C oCl11 rfl (by decide) flX11_32 rfl rfl rfl ks1 (oDec_at oX11_rule 4 rfl) (fun b2 rb2 mb2 hkb2 => ?_)
    obtain ⟨v3, ev3⟩ : ∃ z : Int32, (s).1 b2 7 = z := ⟨_, rfl⟩
    have gv3 : (s.1 b2 7).toInt = v3.toInt := congrArg Int32.toInt (ev3)
    refine r_getiN (k := 7) (lo := 0) (hi := 12) C v3 oCl0 hkb2 (by decide) flX11_150 rfl rfl (ev3) rfl rfl (oDec_at oX11_rule 5 rfl) (fun b4 b4h => ?_)
    refine r_icmp_lt C 17 (oDec_at oX11_rule 6 rfl) (by decide) (fun cd5 => ?_) (fun cd5 => ?_)
    · skip
      refine r_aload_n C (j := 0) (oDec_at oX11_rule 9 rfl) rfl rfl ?_
      refine r_iconst C (oDec_at oX11_rule 10 rfl) (v := k2) (by rw [qk2]; rfl) ?_
      refine r_callVv C oCl11 rfl miX11_prepare mlX11_252 (ct_X11_prepare l E (s) k2 ) (by decide) rfl rfl rfl (Nat.le_of_ble_eq_true rfl) (oDec_at oX11_rule 11 rfl) (fun u6 pu6 fu6 => ?_)
      try dsimp only at pu6
      refine r_iload_n C (j := 2) (oDec_at oX11_rule 12 rfl) rfl rfl ?_
      refine r_if_eq C 37 (oDec_at oX11_rule 13 rfl) (by decide) (fun cd8 => ?_) (fun cd8 => ?_)
      · skip
        refine r_aload_n C (j := 0) (oDec_at oX11_rule 19 rfl) rfl rfl ?_
        refine r_getF (k := 10) (b := 43) C oCl11 rfl (by decide) flX11_74 rfl rfl rfl (oDec_at oX11_rule 20 rfl) ?_
        refine r_iload_n C (j := 1) (oDec_at oX11_rule 21 rfl) rfl rfl ?_
        refine r_callVi C oCl10 rfl miX10_countBroken mlX11_300 (ct_X10_countBroken l E (u6) a1 ) (by decide) rfl rfl rfl (Nat.le_of_ble_eq_true rfl) (oDec_at oX11_rule 22 rfl) (fun r10 u9 pu9 fu9 => ?_)
        try dsimp only at pu9
        have rr10 := n_rng r10
        exact r_iret C (oDec_at oX11_rule 23 rfl) ⟨_, rfl, trivial⟩
      · skip
        refine r_aload_n C (j := 0) (oDec_at oX11_rule 14 rfl) rfl rfl ?_
        refine r_getF (k := 10) (b := 43) C oCl11 rfl (by decide) flX11_74 rfl rfl rfl (oDec_at oX11_rule 15 rfl) ?_
        refine r_iload_n C (j := 1) (oDec_at oX11_rule 16 rfl) rfl rfl ?_
        refine r_callVi C oCl10 rfl miX10_countWithout mlX11_297 (ct_X10_countWithout l E (u6) a1 ) (by decide) rfl rfl rfl (Nat.le_of_ble_eq_true rfl) (oDec_at oX11_rule 17 rfl) (fun r12 u11 pu11 fu11 => ?_)
        try dsimp only at pu11
        have rr12 := n_rng r12
        refine r_goto C (tgt := 45) (oDec_at oX11_rule 18 rfl) (by decide) ?_
        exact r_iret C (oDec_at oX11_rule 23 rfl) ⟨_, rfl, trivial⟩
    · skip
      refine r_iconst C (oDec_at oX11_rule 7 rfl) (v := km1) (by rw [qkm1]; rfl) ?_
      exact r_iret C (oDec_at oX11_rule 8 rfl) ⟨_, rfl, trivial⟩
set_option maxHeartbeats 4000000 in
set_option maxRecDepth 100000 in
theorem ct_X11_meant (l : Launch) (E : oE) (s : oS) (a1 : Int32) (a2 : Int32)  : oMet l 8 yX11_meant cX11_meant 7 (some .int) [(1, 6), (1, 7), (1, 8), (7, 0), (7, 4), (7, 5), (9, 0), (9, 1), (9, 2), (9, 3), (9, 4), (10, 3), (10, 4), (24, 9999), (25, 9999), (26, 9999), (27, 9999), (28, 9999), (29, 9999), (30, 9999), (31, 9999), (32, 9999), (33, 9999), (34, 9999), (35, 9999), (36, 9999), (38, 9999), (39, 9999), (40, 9999), (41, 9999)] E s [.ref (oad E 0), .int a1, .int a2] (oPi (fun r u => True)) := by
  refine oMet.of (lv := [(0, .ref (oad E 0)), (1, .int a1), (2, .int a2)]) (by decide +kernel) (Nat.le_of_ble_eq_true rfl) rfl (fun J C hT => ?_)
  have C : oC l 8 cX11_meant RX11 7 (some .int) [(1, 6), (1, 7), (1, 8), (7, 0), (7, 4), (7, 5), (9, 0), (9, 1), (9, 2), (9, 3), (9, 4), (10, 3), (10, 4), (24, 9999), (25, 9999), (26, 9999), (27, 9999), (28, 9999), (29, 9999), (30, 9999), (31, 9999), (32, 9999), (33, 9999), (34, 9999), (35, 9999), (36, 9999), (38, 9999), (39, 9999), (40, 9999), (41, 9999)] E s (oPi (fun r u => True)) J := C
  obtain ⟨km1, qkm1⟩ : ∃ z : Int32, z = (-1) := ⟨_, rfl⟩
  have ekm1 : km1.toInt = (-1) := by rw [qkm1]; rfl
  obtain ⟨k0, qk0⟩ : ∃ z : Int32, z = 0 := ⟨_, rfl⟩
  have ek0 : k0.toInt = 0 := by rw [qk0]; rfl
  obtain ⟨k1, qk1⟩ : ∃ z : Int32, z = 1 := ⟨_, rfl⟩
  have ek1 : k1.toInt = 1 := by rw [qk1]; rfl
  obtain ⟨k2, qk2⟩ : ∃ z : Int32, z = 2 := ⟨_, rfl⟩
  have ek2 : k2.toInt = 2 := by rw [qk2]; rfl
  obtain ⟨k4, qk4⟩ : ∃ z : Int32, z = 4 := ⟨_, rfl⟩
  have ek4 : k4.toInt = 4 := by rw [qk4]; rfl
  have rg1 := n_rng a1
  have rg2 := n_rng a2
  have key : ∀ n : Nat, (∀ (t : oS) (x3 : Int32) (x4 : Int32), (0 ≤ x4.toInt ∧ x4.toInt ≤ 9880) → (0 ≤ x3.toInt ∧ x3.toInt ≤ x4.toInt) → (2 ≤ a1.toInt ∧ a1.toInt ≤ 4) → 100 * (9881 - x4.toInt) ≤ (n : Int) → J t 37 [(0, .ref (oad E 0)), (1, .int a1), (2, .int a2), (3, .int x3), (4, .int x4)] []) ∧ (∀ (t : oS) (x3 : Int32) (x4 : Int32) (x5 : Int32) (x6 : Int32), (0 ≤ x4.toInt ∧ x4.toInt ≤ 9879) → (0 ≤ x3.toInt ∧ x3.toInt ≤ x4.toInt) → (2 ≤ a1.toInt ∧ a1.toInt ≤ 4) → (0 ≤ x5.toInt ∧ x5.toInt ≤ 1) → (0 ≤ x6.toInt ∧ x6.toInt ≤ 3) → 100 * (9881 - x4.toInt) - 10 - x6.toInt ≤ (n : Int) → J t 53 [(0, .ref (oad E 0)), (1, .int a1), (2, .int a2), (3, .int x3), (4, .int x4), (5, .int x5), (6, .int x6)] []) := by
    intro n
    induction n using Nat.strongRecOn with
    | _ n ih =>
      refine ⟨?_, ?_⟩
      · intro t x3 x4  iv0 iv1 iv2 hmu
        have rx3 := n_rng x3
        have rx4 := n_rng x4
        refine r_iload C (j := 4) (oDec_at oX11_meant 22 rfl) rfl ?_
        refine r_aload_n C (j := 0) (oDec_at oX11_meant 23 rfl) rfl rfl ?_
        refine r_iload_n C (j := 1) (oDec_at oX11_meant 24 rfl) rfl rfl ?_
        refine r_callVi C oCl11 rfl miX11_howMany mlX11_255 (ct_X11_howMany l E (t) a1 ) (by decide) rfl rfl rfl (Nat.le_of_ble_eq_true rfl) (oDec_at oX11_meant 25 rfl) (fun r2 u1 pu1 fu1 => ?_)
        try dsimp only at pu1
        have rr2 := n_rng r2
        refine r_icmp_ge C 112 (oDec_at oX11_meant 26 rfl) (by decide) (fun cd3 => ?_) (fun cd3 => ?_)
        · skip
          refine r_iload_n C (j := 3) (oDec_at oX11_meant 62 rfl) rfl rfl ?_
          exact r_iret C (oDec_at oX11_meant 63 rfl) ⟨_, rfl, trivial⟩
        · skip
          refine r_iconst C (oDec_at oX11_meant 27 rfl) (v := k1) (by rw [qk1]; rfl) ?_
          refine r_istore C (lv' := [(0, .ref (oad E 0)), (1, .int a1), (2, .int a2), (3, .int x3), (4, .int x4), (5, .int k1)]) [1, 2, 3, 4, 5, 0] (oDec_at oX11_meant 28 rfl) (by decide) rfl ?_
          refine r_iconst C (oDec_at oX11_meant 29 rfl) (v := k0) (by rw [qk0]; rfl) ?_
          refine r_istore C (lv' := [(0, .ref (oad E 0)), (1, .int a1), (2, .int a2), (3, .int x3), (4, .int x4), (5, .int k1), (6, .int k0)]) [1, 2, 3, 4, 5, 6, 0] (oDec_at oX11_meant 30 rfl) (by decide) rfl ?_
          exact (ih (n - 1) (by omega)).2 (u1) x3 x4 k1 k0  (by omega) (by omega) (by omega) (by omega) (by omega) (by omega)
      · intro t x3 x4 x5 x6  iv0 iv1 iv2 iv3 iv4 hmu
        have rx3 := n_rng x3
        have rx4 := n_rng x4
        have rx5 := n_rng x5
        have rx6 := n_rng x6
        refine r_iload C (j := 6) (oDec_at oX11_meant 31 rfl) rfl ?_
        refine r_iload_n C (j := 1) (oDec_at oX11_meant 32 rfl) rfl rfl ?_
        refine r_iconst C (oDec_at oX11_meant 33 rfl) (v := k1) (by rw [qk1]; rfl) ?_
        obtain ⟨v4, ev4⟩ : ∃ z : Int32, z = a1 - k1 := ⟨_, rfl⟩
        have hv4 : v4.toInt = a1.toInt - k1.toInt := n_sub ev4 (by omega) (by omega)
        refine r_isub C v4 (oDec_at oX11_meant 34 rfl) ev4 ?_
        refine r_icmp_ge C 93 (oDec_at oX11_meant 35 rfl) (by decide) (fun cd5 => ?_) (fun cd5 => ?_)
        · skip
          refine r_iload_n C (j := 3) (oDec_at oX11_meant 52 rfl) rfl rfl ?_
          refine r_iload C (j := 5) (oDec_at oX11_meant 53 rfl) rfl ?_
          refine r_if_eq C 103 (oDec_at oX11_meant 54 rfl) (by decide) (fun cd6 => ?_) (fun cd6 => ?_)
          · skip
            refine r_iconst C (oDec_at oX11_meant 57 rfl) (v := k0) (by rw [qk0]; rfl) ?_
            obtain ⟨v7, ev7⟩ : ∃ z : Int32, z = x3 + k0 := ⟨_, rfl⟩
            have hv7 : v7.toInt = x3.toInt + k0.toInt := n_add ev7 (by omega) (by omega)
            refine r_iadd C v7 (oDec_at oX11_meant 58 rfl) ev7 ?_
            refine r_istore_n C (lv' := [(0, .ref (oad E 0)), (1, .int a1), (2, .int a2), (3, .int v7), (4, .int x4), (5, .int x5), (6, .int x6)]) [1, 2, 3, 0, 4, 5, 6] (oDec_at oX11_meant 59 rfl) rfl (by decide) rfl ?_
            obtain ⟨v8, ev8⟩ : ∃ z : Int32, x4 + Int32.ofInt 1 = z := ⟨_, rfl⟩
            have hv8 : v8.toInt = x4.toInt + 1 := n_inc ev8 (by decide) (by omega) (by omega)
            refine r_iinc C (j := 4) (lv' := [(0, .ref (oad E 0)), (1, .int a1), (2, .int a2), (3, .int v7), (4, .int v8), (5, .int x5), (6, .int x6)]) v8 [1, 2, 3, 4, 0, 5, 6] (oDec_at oX11_meant 60 rfl) rfl ev8 (by decide) rfl ?_
            refine r_goto C (tgt := 37) (oDec_at oX11_meant 61 rfl) (by decide) ?_
            refine r_pick C [0, 1, 2, 3, 4] rfl ?_
            exact (ih (n - 1) (by omega)).1 (t) v7 v8  (by omega) (by omega) (by omega) (by omega)
          · skip
            refine r_iconst C (oDec_at oX11_meant 55 rfl) (v := k1) (by rw [qk1]; rfl) ?_
            refine r_goto C (tgt := 104) (oDec_at oX11_meant 56 rfl) (by decide) ?_
            obtain ⟨v9, ev9⟩ : ∃ z : Int32, z = x3 + k1 := ⟨_, rfl⟩
            have hv9 : v9.toInt = x3.toInt + k1.toInt := n_add ev9 (by omega) (by omega)
            refine r_iadd C v9 (oDec_at oX11_meant 58 rfl) ev9 ?_
            refine r_istore_n C (lv' := [(0, .ref (oad E 0)), (1, .int a1), (2, .int a2), (3, .int v9), (4, .int x4), (5, .int x5), (6, .int x6)]) [1, 2, 3, 0, 4, 5, 6] (oDec_at oX11_meant 59 rfl) rfl (by decide) rfl ?_
            obtain ⟨v10, ev10⟩ : ∃ z : Int32, x4 + Int32.ofInt 1 = z := ⟨_, rfl⟩
            have hv10 : v10.toInt = x4.toInt + 1 := n_inc ev10 (by decide) (by omega) (by omega)
            refine r_iinc C (j := 4) (lv' := [(0, .ref (oad E 0)), (1, .int a1), (2, .int a2), (3, .int v9), (4, .int v10), (5, .int x5), (6, .int x6)]) v10 [1, 2, 3, 4, 0, 5, 6] (oDec_at oX11_meant 60 rfl) rfl ev10 (by decide) rfl ?_
            refine r_goto C (tgt := 37) (oDec_at oX11_meant 61 rfl) (by decide) ?_
            refine r_pick C [0, 1, 2, 3, 4] rfl ?_
            exact (ih (n - 1) (by omega)).1 (t) v9 v10  (by omega) (by omega) (by omega) (by omega)
        · skip
          refine r_iload C (j := 5) (oDec_at oX11_meant 36 rfl) rfl ?_
          refine r_if_eq C 93 (oDec_at oX11_meant 37 rfl) (by decide) (fun cd11 => ?_) (fun cd11 => ?_)
          · skip
            refine r_iload_n C (j := 3) (oDec_at oX11_meant 52 rfl) rfl rfl ?_
            refine r_iload C (j := 5) (oDec_at oX11_meant 53 rfl) rfl ?_
            refine r_if_eq C 103 (oDec_at oX11_meant 54 rfl) (by decide) (fun cd12 => ?_) (fun cd12 => ?_)
            · skip
              refine r_iconst C (oDec_at oX11_meant 57 rfl) (v := k0) (by rw [qk0]; rfl) ?_
              obtain ⟨v13, ev13⟩ : ∃ z : Int32, z = x3 + k0 := ⟨_, rfl⟩
              have hv13 : v13.toInt = x3.toInt + k0.toInt := n_add ev13 (by omega) (by omega)
              refine r_iadd C v13 (oDec_at oX11_meant 58 rfl) ev13 ?_
              refine r_istore_n C (lv' := [(0, .ref (oad E 0)), (1, .int a1), (2, .int a2), (3, .int v13), (4, .int x4), (5, .int x5), (6, .int x6)]) [1, 2, 3, 0, 4, 5, 6] (oDec_at oX11_meant 59 rfl) rfl (by decide) rfl ?_
              obtain ⟨v14, ev14⟩ : ∃ z : Int32, x4 + Int32.ofInt 1 = z := ⟨_, rfl⟩
              have hv14 : v14.toInt = x4.toInt + 1 := n_inc ev14 (by decide) (by omega) (by omega)
              refine r_iinc C (j := 4) (lv' := [(0, .ref (oad E 0)), (1, .int a1), (2, .int a2), (3, .int v13), (4, .int v14), (5, .int x5), (6, .int x6)]) v14 [1, 2, 3, 4, 0, 5, 6] (oDec_at oX11_meant 60 rfl) rfl ev14 (by decide) rfl ?_
              refine r_goto C (tgt := 37) (oDec_at oX11_meant 61 rfl) (by decide) ?_
              refine r_pick C [0, 1, 2, 3, 4] rfl ?_
              exact (ih (n - 1) (by omega)).1 (t) v13 v14  (by omega) (by omega) (by omega) (by omega)
            · omega
          · skip
            refine r_aload_n C (j := 0) (oDec_at oX11_meant 38 rfl) rfl rfl ?_
            refine r_getF (k := 10) (b := 43) C oCl11 rfl (by decide) flX11_74 rfl rfl rfl (oDec_at oX11_meant 39 rfl) ?_
            refine r_aload_n C (j := 0) (oDec_at oX11_meant 40 rfl) rfl rfl ?_
            refine r_iload_n C (j := 1) (oDec_at oX11_meant 41 rfl) rfl rfl ?_
            refine r_iload C (j := 4) (oDec_at oX11_meant 42 rfl) rfl ?_
            refine r_iload C (j := 6) (oDec_at oX11_meant 43 rfl) rfl ?_
            refine r_pc C 76 rfl ?_
            refine r_callVi C oCl11 rfl miX11_member mlX11_258 (ct_X11_member l E (t) a1 x4 x6 ) (by decide) rfl rfl rfl (Nat.le_of_ble_eq_true rfl) (oDec_at oX11_meant 44 rfl) (fun r16 u15 pu15 fu15 => ?_)
            try dsimp only at pu15
            have rr16 := n_rng r16
            refine r_iconst C (oDec_at oX11_meant 45 rfl) (v := k1) (by rw [qk1]; rfl) ?_
            refine r_iload_n C (j := 2) (oDec_at oX11_meant 46 rfl) rfl rfl ?_
            obtain ⟨v17, ev17⟩ : ∃ z : Int32, z = k1 <<< (a2 &&& 31) := ⟨_, rfl⟩
            have rv17 := n_rng v17
            refine r_ishl C v17 (oDec_at oX11_meant 47 rfl) ev17 ?_
            refine r_callVi C oCl10 rfl miX10_isMeant mlX11_302 (ct_X10_isMeant l E (u15) r16 v17 ) (by decide) rfl rfl rfl (Nat.le_of_ble_eq_true rfl) (oDec_at oX11_meant 48 rfl) (fun r19 u18 pu18 fu18 => ?_)
            try dsimp only at pu18
            have rr19 := n_rng r19
            refine r_istore C (lv' := [(0, .ref (oad E 0)), (1, .int a1), (2, .int a2), (3, .int x3), (4, .int x4), (5, .int r19), (6, .int x6)]) [1, 2, 3, 4, 5, 0, 6] (oDec_at oX11_meant 49 rfl) (by decide) rfl ?_
            refine r_pc C 87 rfl ?_
            obtain ⟨v20, ev20⟩ : ∃ z : Int32, x6 + Int32.ofInt 1 = z := ⟨_, rfl⟩
            have hv20 : v20.toInt = x6.toInt + 1 := n_inc ev20 (by decide) (by omega) (by omega)
            refine r_iinc C (j := 6) (lv' := [(0, .ref (oad E 0)), (1, .int a1), (2, .int a2), (3, .int x3), (4, .int x4), (5, .int r19), (6, .int v20)]) v20 [1, 2, 3, 4, 5, 6, 0] (oDec_at oX11_meant 50 rfl) rfl ev20 (by decide) rfl ?_
            refine r_goto C (tgt := 53) (oDec_at oX11_meant 51 rfl) (by decide) ?_
            exact (ih (n - 1) (by omega)).2 (u18) x3 x4 r19 v20  (by omega) (by omega) (by omega) (by omega) (by omega) (by omega)
  refine r_iload_n C (j := 1) (oDec_at oX11_meant 0 rfl) rfl rfl ?_
  refine r_iconst C (oDec_at oX11_meant 1 rfl) (v := k2) (by rw [qk2]; rfl) ?_
  refine r_icmp_lt C 25 (oDec_at oX11_meant 2 rfl) (by decide) (fun cd21 => ?_) (fun cd21 => ?_)
  · skip
    refine r_iconst C (oDec_at oX11_meant 13 rfl) (v := km1) (by rw [qkm1]; rfl) ?_
    exact r_iret C (oDec_at oX11_meant 14 rfl) ⟨_, rfl, trivial⟩
  · skip
    refine r_iload_n C (j := 1) (oDec_at oX11_meant 3 rfl) rfl rfl ?_
    refine r_iconst C (oDec_at oX11_meant 4 rfl) (v := k4) (by rw [qk4]; rfl) ?_
    refine r_icmp_gt C 25 (oDec_at oX11_meant 5 rfl) (by decide) (fun cd22 => ?_) (fun cd22 => ?_)
    · skip
      refine r_iconst C (oDec_at oX11_meant 13 rfl) (v := km1) (by rw [qkm1]; rfl) ?_
      exact r_iret C (oDec_at oX11_meant 14 rfl) ⟨_, rfl, trivial⟩
    · skip
      refine r_iload_n C (j := 2) (oDec_at oX11_meant 6 rfl) rfl rfl ?_
      refine r_if_lt C 25 (oDec_at oX11_meant 7 rfl) (by decide) (fun cd23 => ?_) (fun cd23 => ?_)
      · skip
        refine r_iconst C (oDec_at oX11_meant 13 rfl) (v := km1) (by rw [qkm1]; rfl) ?_
        exact r_iret C (oDec_at oX11_meant 14 rfl) ⟨_, rfl, trivial⟩
      · skip
        refine r_iload_n C (j := 2) (oDec_at oX11_meant 8 rfl) rfl rfl ?_
        refine r_aload_n C (j := 0) (oDec_at oX11_meant 9 rfl) rfl rfl ?_
        refine r_getS (k := 4) (q2 := 0) C oCl11 rfl (by decide) flX11_32 rfl rfl rfl ks1 (oDec_at oX11_meant 10 rfl) (fun b24 rb24 mb24 hkb24 => ?_)
        obtain ⟨v25, ev25⟩ : ∃ z : Int32, (s).1 b24 8 = z := ⟨_, rfl⟩
        have gv25 : (s.1 b24 8).toInt = v25.toInt := congrArg Int32.toInt (ev25)
        refine r_getiN (k := 8) (lo := 0) (hi := 6) C v25 oCl0 hkb24 (by decide) flX11_153 rfl rfl (ev25) rfl rfl (oDec_at oX11_meant 11 rfl) (fun b26 b26h => ?_)
        refine r_icmp_lt C 27 (oDec_at oX11_meant 12 rfl) (by decide) (fun cd27 => ?_) (fun cd27 => ?_)
        · skip
          refine r_aload_n C (j := 0) (oDec_at oX11_meant 15 rfl) rfl rfl ?_
          refine r_iload_n C (j := 1) (oDec_at oX11_meant 16 rfl) rfl rfl ?_
          refine r_callVv C oCl11 rfl miX11_prepare mlX11_252 (ct_X11_prepare l E (s) a1 ) (by decide) rfl rfl rfl (Nat.le_of_ble_eq_true rfl) (oDec_at oX11_meant 17 rfl) (fun u28 pu28 fu28 => ?_)
          try dsimp only at pu28
          refine r_iconst C (oDec_at oX11_meant 18 rfl) (v := k0) (by rw [qk0]; rfl) ?_
          refine r_istore_n C (lv' := [(0, .ref (oad E 0)), (1, .int a1), (2, .int a2), (3, .int k0)]) [1, 2, 3, 0] (oDec_at oX11_meant 19 rfl) rfl (by decide) rfl ?_
          refine r_iconst C (oDec_at oX11_meant 20 rfl) (v := k0) (by rw [qk0]; rfl) ?_
          refine r_pc C 35 rfl ?_
          refine r_istore C (lv' := [(0, .ref (oad E 0)), (1, .int a1), (2, .int a2), (3, .int k0), (4, .int k0)]) [1, 2, 3, 4, 0] (oDec_at oX11_meant 21 rfl) (by decide) rfl ?_
          exact (key (100 * (9881 - k0.toInt)).toNat).1 (u28) k0 k0  (by omega) (by omega) (by omega) (by omega)
        · skip
          refine r_iconst C (oDec_at oX11_meant 13 rfl) (v := km1) (by rw [qkm1]; rfl) ?_
          exact r_iret C (oDec_at oX11_meant 14 rfl) ⟨_, rfl, trivial⟩
