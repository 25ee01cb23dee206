set_option maxHeartbeats 4000000 in
set_option maxRecDepth 100000 in
theorem ct_X11_forget (l : Launch) (E : oE) (s : oS)   : oMet l 1 yX11_forget cX11_forget 1 none [(3, 0), (7, 0), (10, 3), (11, 17)] E s [.ref (oad E 0)] (oPv (fun u => True)) := by
  refine oMet.of (lv := [(0, .ref (oad E 0))]) (by decide +kernel) (Nat.le_of_ble_eq_true rfl) rfl (fun J C hT => ?_)
  have C : oC l 1 cX11_forget RX11 1 none [(3, 0), (7, 0), (10, 3), (11, 17)] E s (oPv (fun u => True)) J := C
  obtain ⟨km1, qkm1⟩ : ∃ z : Int32, z = (-1) := ⟨_, rfl⟩
  have ekm1 : km1.toInt = (-1) := by rw [qkm1]; rfl
  obtain ⟨k0, qk0⟩ : ∃ z : Int32, z = 0 := ⟨_, rfl⟩
  have ek0 : k0.toInt = 0 := by rw [qk0]; rfl
  refine r_aload_n C (j := 0) (oDec_at oX11_forget 0 rfl) rfl rfl ?_
  refine r_getF (k := 10) (b := 43) C oCl11 rfl (by decide) flX11_74 rfl rfl rfl (oDec_at oX11_forget 1 rfl) ?_
  refine r_iconst C (oDec_at oX11_forget 2 rfl) (v := k0) (by rw [qk0]; rfl) ?_
  refine r_putiN (k := 3) (lo := 0) (hi := 1) C oCl10 rfl (by decide) flX11_365 rfl rfl rfl rfl rfl (n_bool (by omega)) (n_fitz (by omega)) rfl ⟨by omega, by omega⟩ (oDec_at oX11_forget 3 rfl) ?_
  refine r_aload_n C (j := 0) (oDec_at oX11_forget 4 rfl) rfl rfl ?_
  refine r_getF (k := 11) (b := 52) C oCl11 rfl (by decide) flX11_81 rfl rfl rfl (oDec_at oX11_forget 5 rfl) ?_
  refine r_pc C 12 rfl ?_
  refine r_iconst C (oDec_at oX11_forget 6 rfl) (v := k0) (by rw [qk0]; rfl) ?_
  refine r_putiN (k := 0) (lo := 0) (hi := 1) C oCl7 rfl (by decide) flX11_368 rfl rfl rfl rfl rfl (n_bool (by omega)) (n_fitz (by omega)) rfl ⟨by omega, by omega⟩ (oDec_at oX11_forget 7 rfl) ?_
  refine r_aload_n C (j := 0) (oDec_at oX11_forget 8 rfl) rfl rfl ?_
  refine r_getF (k := 12) (b := 56) C oCl11 rfl (by decide) flX11_88 rfl rfl rfl (oDec_at oX11_forget 9 rfl) ?_
  refine r_iconst C (oDec_at oX11_forget 10 rfl) (v := k0) (by rw [qk0]; rfl) ?_
  refine r_putiN (k := 0) (lo := 0) (hi := 1) C oCl3 rfl (by decide) flX11_369 rfl rfl rfl rfl rfl (n_bool (by omega)) (n_fitz (by omega)) rfl ⟨by omega, by omega⟩ (oDec_at oX11_forget 11 rfl) ?_
  refine r_pc C 24 rfl ?_
  refine r_aload_n C (j := 0) (oDec_at oX11_forget 12 rfl) rfl rfl ?_
  refine r_iconst C (oDec_at oX11_forget 13 rfl) (v := km1) (by rw [qkm1]; rfl) ?_
  refine r_puti (k := 17) (lo := (-2147483648)) (hi := 2147483647) C oCl11 rfl (by decide) flX11_99 rfl rfl rfl rfl rfl rfl rfl rfl (n_rng _) (oDec_at oX11_forget 14 rfl) ?_
  exact r_vret C (oDec_at oX11_forget 15 rfl) ⟨rfl, trivial⟩
set_option maxHeartbeats 4000000 in
set_option maxRecDepth 100000 in
theorem ct_X11_prepareLikeness (l : Launch) (E : oE) (s : oS)   : oMet l 7 yX11_prepareLikeness cX11_prepareLikeness 1 none [(3, 0), (3, 1), (3, 2), (6, 2), (9, 0), (9, 1), (9, 2), (9, 3), (9, 4), (42, 9999), (43, 9999), (44, 9999), (45, 9999), (46, 9999), (47, 9999)] E s [.ref (oad E 0)] (oPv (fun u => True)) := by
  refine oMet.of (lv := [(0, .ref (oad E 0))]) (by decide +kernel) (Nat.le_of_ble_eq_true rfl) rfl (fun J C hT => ?_)
  have C : oC l 7 cX11_prepareLikeness RX11 1 none [(3, 0), (3, 1), (3, 2), (6, 2), (9, 0), (9, 1), (9, 2), (9, 3), (9, 4), (42, 9999), (43, 9999), (44, 9999), (45, 9999), (46, 9999), (47, 9999)] E s (oPv (fun u => True)) J := C
  obtain ⟨k1, qk1⟩ : ∃ z : Int32, z = 1 := ⟨_, rfl⟩
  have ek1 : k1.toInt = 1 := by rw [qk1]; rfl
  refine r_aload_n C (j := 0) (oDec_at oX11_prepareLikeness 0 rfl) rfl rfl ?_
  refine r_getF (k := 12) (b := 56) C oCl11 rfl (by decide) flX11_88 rfl rfl rfl (oDec_at oX11_prepareLikeness 1 rfl) ?_
  obtain ⟨v1, ev1⟩ : ∃ z : Int32, (s).1 56 0 = z := ⟨_, rfl⟩
  have gv1 : (s.1 56 0).toInt = v1.toInt := congrArg Int32.toInt (ev1)
  refine r_getiN (k := 0) (lo := 0) (hi := 1) C v1 oCl3 rfl (by decide) flX11_369 rfl rfl (ev1) rfl rfl (oDec_at oX11_prepareLikeness 2 rfl) (fun b2 b2h => ?_)
  refine r_if_ne C 33 (oDec_at oX11_prepareLikeness 3 rfl) (by decide) (fun cd3 => ?_) (fun cd3 => ?_)
  · skip
    exact r_vret C (oDec_at oX11_prepareLikeness 15 rfl) ⟨rfl, trivial⟩
  · skip
    refine r_aload_n C (j := 0) (oDec_at oX11_prepareLikeness 4 rfl) rfl rfl ?_
    refine r_getF (k := 12) (b := 56) C oCl11 rfl (by decide) flX11_88 rfl rfl rfl (oDec_at oX11_prepareLikeness 5 rfl) ?_
    refine r_aload_n C (j := 0) (oDec_at oX11_prepareLikeness 6 rfl) rfl rfl ?_
    refine r_getS (k := 1) (q2 := 4) C oCl11 rfl (by decide) flX11_19 rfl rfl rfl ks0 (oDec_at oX11_prepareLikeness 7 rfl) (fun b4 rb4 mb4 hkb4 => ?_)
    refine r_aload_n C (j := 0) (oDec_at oX11_prepareLikeness 8 rfl) rfl rfl ?_
    refine r_getF (k := 10) (b := 43) C oCl11 rfl (by decide) flX11_74 rfl rfl rfl (oDec_at oX11_prepareLikeness 9 rfl) ?_
    refine r_pc C 22 rfl ?_
    refine r_callVv C oCl3 rfl miX3_build mlX11_377 (ct_X3_build l E (s) b4 hkb4 ) (by decide) rfl rfl rfl (Nat.le_of_ble_eq_true rfl) (oDec_at oX11_prepareLikeness 10 rfl) (fun u5 pu5 fu5 => ?_)
    try dsimp only at pu5
    refine r_aload_n C (j := 0) (oDec_at oX11_prepareLikeness 11 rfl) rfl rfl ?_
    refine r_getF (k := 12) (b := 56) C oCl11 rfl (by decide) flX11_88 rfl rfl rfl (oDec_at oX11_prepareLikeness 12 rfl) ?_
    refine r_iconst C (oDec_at oX11_prepareLikeness 13 rfl) (v := k1) (by rw [qk1]; rfl) ?_
    refine r_putiN (k := 0) (lo := 0) (hi := 1) C oCl3 rfl (by decide) flX11_369 rfl rfl rfl rfl rfl (n_bool (by omega)) (n_fitz (by omega)) rfl ⟨by omega, by omega⟩ (oDec_at oX11_prepareLikeness 14 rfl) ?_
    exact r_vret C (oDec_at oX11_prepareLikeness 15 rfl) ⟨rfl, trivial⟩
set_option maxHeartbeats 4000000 in
set_option maxRecDepth 100000 in
theorem ct_X11_howMany (l : Launch) (E : oE) (s : oS) (a1 : Int32)  : oMet l 1 yX11_howMany cX11_howMany 2 (some .int) [] E s [.ref (oad E 0), .int a1] (oPi (fun r u => (-1 ≤ r.toInt ∧ r.toInt ≤ 9880))) := by
  refine oMet.of (lv := [(0, .ref (oad E 0)), (1, .int a1)]) (by decide +kernel) (Nat.le_of_ble_eq_true rfl) rfl (fun J C hT => ?_)
  have C : oC l 1 cX11_howMany RX11 2 (some .int) [] E s (oPi (fun r u => (-1 ≤ r.toInt ∧ r.toInt ≤ 9880))) J := C
  obtain ⟨km1, qkm1⟩ : ∃ z : Int32, z = (-1) := ⟨_, rfl⟩
  have ekm1 : km1.toInt = (-1) := by rw [qkm1]; rfl
  have rg1 := n_rng a1
  refine r_iload_n C (j := 1) (oDec_at oX11_howMany 0 rfl) rfl rfl ?_
  by_cases cd1_0 : a1.toInt = 2
  · refine r_tableIn C 28 (oDec_at oX11_howMany 1 rfl) (by omega) (by omega) (by rw [cd1_0]; rfl) (by decide) ?_
    refine r_aload_n C (j := 0) (oDec_at oX11_howMany 2 rfl) rfl rfl ?_
    refine r_getF (k := 10) (b := 43) C oCl11 rfl (by decide) flX11_74 rfl rfl rfl (oDec_at oX11_howMany 3 rfl) ?_
    obtain ⟨v2, ev2⟩ : ∃ z : Int32, (s).1 43 4 = z := ⟨_, rfl⟩
    have gv2 : (s.1 43 4).toInt = v2.toInt := congrArg Int32.toInt (ev2)
    refine r_getiN (k := 4) (lo := 0) (hi := 4500) C v2 oCl10 rfl (by decide) flX11_278 rfl rfl (ev2) rfl rfl (oDec_at oX11_howMany 4 rfl) (fun b3 b3h => ?_)
    exact r_iret C (oDec_at oX11_howMany 5 rfl) ⟨_, rfl, by omega⟩
  by_cases cd1_1 : a1.toInt = 3
  · refine r_tableIn C 36 (oDec_at oX11_howMany 1 rfl) (by omega) (by omega) (by rw [cd1_1]; rfl) (by decide) ?_
    refine r_aload_n C (j := 0) (oDec_at oX11_howMany 6 rfl) rfl rfl ?_
    refine r_getF (k := 11) (b := 52) C oCl11 rfl (by decide) flX11_81 rfl rfl rfl (oDec_at oX11_howMany 7 rfl) ?_
    obtain ⟨v4, ev4⟩ : ∃ z : Int32, (s).1 52 4 = z := ⟨_, rfl⟩
    have gv4 : (s.1 52 4).toInt = v4.toInt := congrArg Int32.toInt (ev4)
    refine r_getiN (k := 4) (lo := 0) (hi := 780) C v4 oCl7 rfl (by decide) flX11_380 rfl rfl (ev4) rfl rfl (oDec_at oX11_howMany 8 rfl) (fun b5 b5h => ?_)
    exact r_iret C (oDec_at oX11_howMany 9 rfl) ⟨_, rfl, by omega⟩
  by_cases cd1_2 : a1.toInt = 4
  · refine r_tableIn C 44 (oDec_at oX11_howMany 1 rfl) (by omega) (by omega) (by rw [cd1_2]; rfl) (by decide) ?_
    refine r_aload_n C (j := 0) (oDec_at oX11_howMany 10 rfl) rfl rfl ?_
    refine r_getF (k := 11) (b := 52) C oCl11 rfl (by decide) flX11_81 rfl rfl rfl (oDec_at oX11_howMany 11 rfl) ?_
    obtain ⟨v6, ev6⟩ : ∃ z : Int32, (s).1 52 5 = z := ⟨_, rfl⟩
    have gv6 : (s.1 52 5).toInt = v6.toInt := congrArg Int32.toInt (ev6)
    refine r_getiN (k := 5) (lo := 0) (hi := 9880) C v6 oCl7 rfl (by decide) flX11_383 rfl rfl (ev6) rfl rfl (oDec_at oX11_howMany 12 rfl) (fun b7 b7h => ?_)
    exact r_iret C (oDec_at oX11_howMany 13 rfl) ⟨_, rfl, by omega⟩
  refine r_tableOut C 52 (oDec_at oX11_howMany 1 rfl) (by omega) (by decide) ?_
  refine r_iconst C (oDec_at oX11_howMany 14 rfl) (v := km1) (by rw [qkm1]; rfl) ?_
  exact r_iret C (oDec_at oX11_howMany 15 rfl) ⟨_, rfl, by omega⟩
set_option maxHeartbeats 4000000 in
set_option maxRecDepth 100000 in
theorem ct_X11_member (l : Launch) (E : oE) (s : oS) (a1 : Int32) (a2 : Int32) (a3 : Int32)  : oMet l 2 yX11_member cX11_member 4 (some .int) [] E s [.ref (oad E 0), .int a1, .int a2, .int a3] (oPi (fun r u => True)) := by
  refine oMet.of (lv := [(0, .ref (oad E 0)), (1, .int a1), (2, .int a2), (3, .int a3)]) (by decide +kernel) (Nat.le_of_ble_eq_true rfl) rfl (fun J C hT => ?_)
  have C : oC l 2 cX11_member RX11 4 (some .int) [] E s (oPi (fun r u => True)) J := C
  obtain ⟨km1, qkm1⟩ : ∃ z : Int32, z = (-1) := ⟨_, rfl⟩
  have ekm1 : km1.toInt = (-1) := by rw [qkm1]; rfl
  obtain ⟨k1, qk1⟩ : ∃ z : Int32, z = 1 := ⟨_, rfl⟩
  have ek1 : k1.toInt = 1 := by rw [qk1]; rfl
  obtain ⟨k2, qk2⟩ : ∃ z : Int32, z = 2 := ⟨_, rfl⟩
  have ek2 : k2.toInt = 2 := by rw [qk2]; rfl
  have rg1 := n_rng a1
  have rg2 := n_rng a2
  have rg3 := n_rng a3
  refine r_iload_n C (j := 2) (oDec_at oX11_member 0 rfl) rfl rfl ?_
  refine r_if_lt C 24 (oDec_at oX11_member 1 rfl) (by decide) (fun cd1 => ?_) (fun cd1 => ?_)
  · skip
    refine r_iconst C (oDec_at oX11_member 14 rfl) (v := km1) (by rw [qkm1]; rfl) ?_
    exact r_iret C (oDec_at oX11_member 15 rfl) ⟨_, rfl, trivial⟩
  · skip
    refine r_iload_n C (j := 2) (oDec_at oX11_member 2 rfl) rfl rfl ?_
    refine r_aload_n C (j := 0) (oDec_at oX11_member 3 rfl) rfl rfl ?_
    refine r_iload_n C (j := 1) (oDec_at oX11_member 4 rfl) rfl rfl ?_
    refine r_callVi C oCl11 rfl miX11_howMany mlX11_255 (ct_X11_howMany l E (s) a1 ) (by decide) rfl rfl rfl (Nat.le_of_ble_eq_true rfl) (oDec_at oX11_member 5 rfl) (fun r3 u2 pu2 fu2 => ?_)
    try dsimp only at pu2
    have rr3 := n_rng r3
    refine r_icmp_ge C 24 (oDec_at oX11_member 6 rfl) (by decide) (fun cd4 => ?_) (fun cd4 => ?_)
    · skip
      refine r_iconst C (oDec_at oX11_member 14 rfl) (v := km1) (by rw [qkm1]; rfl) ?_
      exact r_iret C (oDec_at oX11_member 15 rfl) ⟨_, rfl, trivial⟩
    · skip
      refine r_iload_n C (j := 3) (oDec_at oX11_member 7 rfl) rfl rfl ?_
      refine r_if_lt C 24 (oDec_at oX11_member 8 rfl) (by decide) (fun cd5 => ?_) (fun cd5 => ?_)
      · skip
        refine r_iconst C (oDec_at oX11_member 14 rfl) (v := km1) (by rw [qkm1]; rfl) ?_
        exact r_iret C (oDec_at oX11_member 15 rfl) ⟨_, rfl, trivial⟩
      · skip
        refine r_iload_n C (j := 3) (oDec_at oX11_member 9 rfl) rfl rfl ?_
        refine r_iload_n C (j := 1) (oDec_at oX11_member 10 rfl) rfl rfl ?_
        refine r_iconst C (oDec_at oX11_member 11 rfl) (v := k1) (by rw [qk1]; rfl) ?_
        obtain ⟨v6, ev6⟩ : ∃ z : Int32, z = a1 - k1 := ⟨_, rfl⟩
        have rv6 := n_rng v6
        refine r_isub C v6 (oDec_at oX11_member 12 rfl) ev6 ?_
        refine r_icmp_lt C 26 (oDec_at oX11_member 13 rfl) (by decide) (fun cd7 => ?_) (fun cd7 => ?_)
        · skip
          refine r_iload_n C (j := 1) (oDec_at oX11_member 16 rfl) rfl rfl ?_
          refine r_iconst C (oDec_at oX11_member 17 rfl) (v := k2) (by rw [qk2]; rfl) ?_
          refine r_icmp_ne C 35 (oDec_at oX11_member 18 rfl) (by decide) (fun cd8 => ?_) (fun cd8 => ?_)
          · skip
            refine r_aload_n C (j := 0) (oDec_at oX11_member 21 rfl) rfl rfl ?_
            refine r_getF (k := 11) (b := 52) C oCl11 rfl (by decide) flX11_81 rfl rfl rfl (oDec_at oX11_member 22 rfl) ?_
            refine r_iload_n C (j := 1) (oDec_at oX11_member 23 rfl) rfl rfl ?_
            refine r_iload_n C (j := 2) (oDec_at oX11_member 24 rfl) rfl rfl ?_
            refine r_iload_n C (j := 3) (oDec_at oX11_member 25 rfl) rfl rfl ?_
            refine r_callVi C oCl7 rfl miX7_memberOf mlX11_386 (ct_X7_memberOf l E (u2) a1 a2 a3 ) (by decide) rfl rfl rfl (Nat.le_of_ble_eq_true rfl) (oDec_at oX11_member 26 rfl) (fun r10 u9 pu9 fu9 => ?_)
            try dsimp only at pu9
            have rr10 := n_rng r10
            refine r_pc C 45 rfl ?_
            exact r_iret C (oDec_at oX11_member 27 rfl) ⟨_, rfl, trivial⟩
          · skip
            refine r_iload_n C (j := 2) (oDec_at oX11_member 19 rfl) rfl rfl ?_
            refine r_goto C (tgt := 45) (oDec_at oX11_member 20 rfl) (by decide) ?_
            exact r_iret C (oDec_at oX11_member 27 rfl) ⟨_, rfl, trivial⟩
        · skip
          refine r_iconst C (oDec_at oX11_member 14 rfl) (v := km1) (by rw [qkm1]; rfl) ?_
          exact r_iret C (oDec_at oX11_member 15 rfl) ⟨_, rfl, trivial⟩
set_option maxHeartbeats 4000000 in
set_option maxRecDepth 100000 in
theorem ct_X11_keepWrong (l : Launch) (E : oE) (s : oS) (a1 : Int32)  : oMet l 1 yX11_keepWrong cX11_keepWrong 2 none [(11, 16), (14, 9999)] E s [.ref (oad E 0), .int a1] (oPv (fun u => True)) := by
  refine oMet.of (lv := [(0, .ref (oad E 0)), (1, .int a1)]) (by decide +kernel) (Nat.le_of_ble_eq_true rfl) rfl (fun J C hT => ?_)
  have C : oC l 1 cX11_keepWrong RX11 2 none [(11, 16), (14, 9999)] E s (oPv (fun u => True)) J := C
  obtain ⟨k1, qk1⟩ : ∃ z : Int32, z = 1 := ⟨_, rfl⟩
  have ek1 : k1.toInt = 1 := by rw [qk1]; rfl
  have rg1 := n_rng a1
  refine r_aload_n C (j := 0) (oDec_at oX11_keepWrong 0 rfl) rfl rfl ?_
  obtain ⟨v1, ev1⟩ : ∃ z : Int32, (s).1 0 16 = z := ⟨_, rfl⟩
  have gv1 : (s.1 0 16).toInt = v1.toInt := congrArg Int32.toInt (ev1)
  refine r_geti (k := 16) (lo := 0) (hi := 672) C v1 oCl11 rfl (by decide) flX11_333 rfl rfl (ev1) rfl rfl (oDec_at oX11_keepWrong 1 rfl) (fun b2 b2h => ?_)
  refine r_aload_n C (j := 0) (oDec_at oX11_keepWrong 2 rfl) rfl rfl ?_
  refine r_getF (k := 15) (b := 70) C oCl11 rfl (by decide) flX11_96 rfl rfl rfl (oDec_at oX11_keepWrong 3 rfl) ?_
  obtain ⟨v3, ev3⟩ : ∃ z : Int32, Int32.ofNat 672 = z := ⟨_, rfl⟩
  have hv3 : v3.toInt = 672 := by rw [← ev3]; rfl
  refine r_alen0 (n := 672) C v3 rfl (by decide) rfl rfl (by decide) ev3 (oDec_at oX11_keepWrong 4 rfl) ?_
  refine r_icmp_ge C 32 (oDec_at oX11_keepWrong 5 rfl) (by decide) (fun cd4 => ?_) (fun cd4 => ?_)
  · skip
    exact r_vret C (oDec_at oX11_keepWrong 18 rfl) ⟨rfl, trivial⟩
  · skip
    refine r_aload_n C (j := 0) (oDec_at oX11_keepWrong 6 rfl) rfl rfl ?_
    refine r_getF (k := 15) (b := 70) C oCl11 rfl (by decide) flX11_96 rfl rfl rfl (oDec_at oX11_keepWrong 7 rfl) ?_
    refine r_aload_n C (j := 0) (oDec_at oX11_keepWrong 8 rfl) rfl rfl ?_
    refine r_geti (k := 16) (lo := 0) (hi := 672) C v1 oCl11 rfl (by decide) flX11_333 rfl rfl (ev1) rfl rfl (oDec_at oX11_keepWrong 9 rfl) (fun _ _ => ?_)
    refine r_iload_n C (j := 1) (oDec_at oX11_keepWrong 10 rfl) rfl rfl ?_
    refine r_iast (n := 672) (lo := (-2147483648)) (hi := 2147483647) C rfl (by decide) rfl rfl ⟨by omega, by omega⟩ (by decide) rfl rfl rfl rfl (n_rng _) (oDec_at oX11_keepWrong 11 rfl) ?_
    refine r_pc C 22 rfl ?_
    refine r_aload_n C (j := 0) (oDec_at oX11_keepWrong 12 rfl) rfl rfl ?_
    refine r_dup C (oDec_at oX11_keepWrong 13 rfl) rfl ?_
    refine r_geti (k := 16) (lo := 0) (hi := 672) C v1 oCl11 rfl (by decide) flX11_333 rfl rfl (((pI_ne (a := 0) (b := 16) (c := 70) _ _ (Or.inl (by decide)))).trans (ev1)) rfl rfl (oDec_at oX11_keepWrong 14 rfl) (fun _ _ => ?_)
    refine r_iconst C (oDec_at oX11_keepWrong 15 rfl) (v := k1) (by rw [qk1]; rfl) ?_
    obtain ⟨v5, ev5⟩ : ∃ z : Int32, z = v1 + k1 := ⟨_, rfl⟩
    have hv5 : v5.toInt = v1.toInt + k1.toInt := n_add ev5 (by omega) (by omega)
    refine r_iadd C v5 (oDec_at oX11_keepWrong 16 rfl) ev5 ?_
    refine r_puti (k := 16) (lo := 0) (hi := 672) C oCl11 rfl (by decide) flX11_333 rfl rfl rfl rfl rfl rfl rfl rfl ⟨by omega, by omega⟩ (oDec_at oX11_keepWrong 17 rfl) ?_
    refine r_pc C 32 rfl ?_
    exact r_vret C (oDec_at oX11_keepWrong 18 rfl) ⟨rfl, trivial⟩
