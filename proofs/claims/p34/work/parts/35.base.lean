set_option maxHeartbeats 4000000 in
set_option maxRecDepth 100000 in
theorem ct_X11_forget (l : Launch) (E : oE) (s : oS)   : oMet l 1 yX11_forget cX11_forget 1 none [(3, 0), (7, 0), (10, 3), (11, 17)] E s [.ref (oad E 0)] (oPv (fun u => True)) := by
  refine oMet.of (lv := [(0, .ref (oad E 0))]) (by decide +kernel) (Nat.le_of_ble_eq_true rfl) rfl (fun J C hT => ?_)
  have C : oC l 1 cX11_forget RX11 1 none [(3, 0), (7, 0), (10, 3), (11, 17)] E s (oPv (fun u => True)) J := C
  obtain ⟨km1, qkm1⟩ : ∃ z : Int32, z = (-1) := ⟨_, rfl⟩
  have ekm1 : km1.toInt = (-1) := by rw [qkm1]; rfl
  obtain ⟨k0, qk0⟩ : ∃ z : Int32, z = 0 := ⟨_, rfl⟩
  have ek0 : k0.toInt = 0 := by rw [qk0]; rfl
  refine r_aload_n C (j := 0) (oDec_at oX11_forget 0 rfl) rfl rfl ?_
  refine r_getF (k := 10) (b := 43) C oCl11 rfl (by decide) flX11_74 rfl rfl rfl (oDec_at oX11_forget 1 rfl) ?_
  refine r_iconst C (oDec_at oX11_forget 2 rfl) (v := k0) (by rw [qk0]; rfl) ?_
  refine r_putiN (k := 3) (lo := 0) (hi := 1) C oCl10 rfl (by decide) flX11_365 rfl rfl rfl rfl rfl (n_bool (by omega)) (n_fitz (by omega)) rfl ⟨by omega, by omega⟩ (oDec_at oX11_forget 3 rfl) ?_
  refine r_aload_n C (j := 0) (oDec_at oX11_forget 4 rfl) rfl rfl ?_
  refine r_getF (k := 11) (b := 52) C oCl11 rfl (by decide) flX11_81 rfl rfl rfl (oDec_at oX11_forget 5 rfl) ?_
  refine r_pc C 12 rfl ?_
  refine r_iconst C (oDec_at oX11_forget 6 rfl) (v := k0) (by rw [qk0]; rfl) ?_
  refine r_putiN (k := 0) (lo := 0) (hi := 1) C oCl7 rfl (by decide) flX11_368 rfl rfl rfl rfl rfl (n_bool (by omega)) (n_fitz (by omega)) rfl ⟨by omega, by omega⟩ (oDec_at oX11_forget 7 rfl) ?_
  refine r_aload_n C (j := 0) (oDec_at oX11_forget 8 rfl) rfl rfl ?_
  refine r_getF (k := 12) (b := 56) C oCl11 rfl (by decide) flX11_88 rfl rfl rfl (oDec_at oX11_forget 9 rfl) ?_
  refine r_iconst C (oDec_at oX11_forget 10 rfl) (v := k0) (by rw [qk0]; rfl) ?_
  refine r_putiN (k := 0) (lo := 0) (hi := 1) C oCl3 rfl (by decide) flX11_369 rfl rfl rfl rfl rfl (n_bool (by omega)) (n_fitz (by omega)) rfl ⟨by omega, by omega⟩ (oDec_at oX11_forget 11 rfl) ?_
  refine r_pc C 24 rfl ?_
  refine r_aload_n C (j := 0) (oDec_at oX11_forget 12 rfl) rfl rfl ?_
  refine r_iconst C (oDec_at oX11_forget 13 rfl) (v := km1) (by rw [qkm1]; rfl) ?_
  refine r_puti (k := 17) (lo := (-2147483648)) (hi := 2147483647) C oCl11 rfl (by decide) flX11_99 rfl rfl rfl rfl rfl rfl rfl rfl (n_rng _) (oDec_at oX11_forget 14 rfl) ?_
  exact r_vret C (oDec_at oX11_forget 15 rfl) ⟨rfl, trivial⟩
set_option maxHeartbeats 4000000 in
set_option maxRecDepth 100000 in
theorem ct_X11_takeSpare (l : Launch) (E : oE) (s : oS)   : oMet l 2 yX11_takeSpare cX11_takeSpare 2 none [(3, 0), (7, 0), (10, 3), (11, 1), (11, 2), (11, 17)] E s [.ref (oad E 0)] (oPv (fun u => True)) := by
  refine oMet.of (lv := [(0, .ref (oad E 0))]) (by decide +kernel) (Nat.le_of_ble_eq_true rfl) rfl (fun J C hT => ?_)
  have C : oC l 2 cX11_takeSpare RX11 2 none [(3, 0), (7, 0), (10, 3), (11, 1), (11, 2), (11, 17)] E s (oPv (fun u => True)) J := C
  refine r_aload_n C (j := 0) (oDec_at oX11_takeSpare 0 rfl) rfl rfl ?_
  refine r_getS (k := 1) (q2 := 4) C oCl11 rfl (by decide) flX11_19 rfl rfl rfl ks0 (oDec_at oX11_takeSpare 1 rfl) (fun b1 rb1 mb1 hkb1 => ?_)
  refine r_astore_n C (lv' := [(0, .ref (oad E 0)), (1, .ref (oad E b1))]) [1, 0] (oDec_at oX11_takeSpare 2 rfl) rfl (by decide) rfl ?_
  refine r_aload_n C (j := 0) (oDec_at oX11_takeSpare 3 rfl) rfl rfl ?_
  refine r_aload_n C (j := 0) (oDec_at oX11_takeSpare 4 rfl) rfl rfl ?_
  refine r_getS (k := 2) (q2 := 4) C oCl11 rfl (by decide) flX11_23 rfl rfl rfl ks0 (oDec_at oX11_takeSpare 5 rfl) (fun b2 rb2 mb2 hkb2 => ?_)
  refine r_pc C 10 rfl ?_
  refine r_putr (k := 1) C oCl11 rfl (by decide) flX11_19 rfl rfl rfl rfl rfl rfl (oRok_S (q := 11) (k := 1) (j := 0) rfl rfl (kin0 hkb2)) (oDec_at oX11_takeSpare 6 rfl) ?_
  refine r_aload_n C (j := 0) (oDec_at oX11_takeSpare 7 rfl) rfl rfl ?_
  refine r_aload_n C (j := 1) (oDec_at oX11_takeSpare 8 rfl) rfl rfl ?_
  refine r_putr (k := 2) C oCl11 rfl (by decide) flX11_23 rfl rfl rfl rfl rfl rfl (oRok_S (q := 11) (k := 2) (j := 0) rfl rfl (kin0 hkb1)) (oDec_at oX11_takeSpare 9 rfl) ?_
  refine r_aload_n C (j := 0) (oDec_at oX11_takeSpare 10 rfl) rfl rfl ?_
  refine r_callVv C oCl11 rfl miX11_forget mlX11_131 (ct_X11_forget l E ((pR (pR s 0 1 (b2 + 1)) 0 2 (b1 + 1)))  ) (by decide) rfl rfl rfl (Nat.le_of_ble_eq_true rfl) (oDec_at oX11_takeSpare 11 rfl) (fun u3 pu3 fu3 => ?_)
  try dsimp only at pu3
  refine r_pc C 22 rfl ?_
  exact r_vret C (oDec_at oX11_takeSpare 12 rfl) ⟨rfl, trivial⟩
set_option maxHeartbeats 4000000 in
set_option maxRecDepth 100000 in
theorem ct_X11_prepare (l : Launch) (E : oE) (s : oS) (a1 : Int32)  : oMet l 7 yX11_prepare cX11_prepare 2 none [(1, 6), (1, 7), (1, 8), (7, 0), (7, 4), (7, 5), (9, 0), (9, 1), (9, 2), (9, 3), (9, 4), (10, 3), (10, 4), (24, 9999), (25, 9999), (26, 9999), (27, 9999), (28, 9999), (29, 9999), (30, 9999), (31, 9999), (32, 9999), (33, 9999), (34, 9999), (35, 9999), (36, 9999), (38, 9999), (39, 9999), (40, 9999), (41, 9999)] E s [.ref (oad E 0), .int a1] (oPv (fun u => True)) := by
  refine oMet.of (lv := [(0, .ref (oad E 0)), (1, .int a1)]) (by decide +kernel) (Nat.le_of_ble_eq_true rfl) rfl (fun J C hT => ?_)
  have C : oC l 7 cX11_prepare RX11 2 none [(1, 6), (1, 7), (1, 8), (7, 0), (7, 4), (7, 5), (9, 0), (9, 1), (9, 2), (9, 3), (9, 4), (10, 3), (10, 4), (24, 9999), (25, 9999), (26, 9999), (27, 9999), (28, 9999), (29, 9999), (30, 9999), (31, 9999), (32, 9999), (33, 9999), (34, 9999), (35, 9999), (36, 9999), (38, 9999), (39, 9999), (40, 9999), (41, 9999)] E s (oPv (fun u => True)) J := C
  obtain ⟨k1, qk1⟩ : ∃ z : Int32, z = 1 := ⟨_, rfl⟩
  have ek1 : k1.toInt = 1 := by rw [qk1]; rfl
  obtain ⟨k3, qk3⟩ : ∃ z : Int32, z = 3 := ⟨_, rfl⟩
  have ek3 : k3.toInt = 3 := by rw [qk3]; rfl
  obtain ⟨k4, qk4⟩ : ∃ z : Int32, z = 4 := ⟨_, rfl⟩
  have ek4 : k4.toInt = 4 := by rw [qk4]; rfl
  have rg1 := n_rng a1
  refine r_aload_n C (j := 0) (oDec_at oX11_prepare 0 rfl) rfl rfl ?_
  refine r_getF (k := 10) (b := 43) C oCl11 rfl (by decide) flX11_74 rfl rfl rfl (oDec_at oX11_prepare 1 rfl) ?_
  obtain ⟨v1, ev1⟩ : ∃ z : Int32, (s).1 43 3 = z := ⟨_, rfl⟩
  have gv1 : (s.1 43 3).toInt = v1.toInt := congrArg Int32.toInt (ev1)
  refine r_getiN (k := 3) (lo := 0) (hi := 1) C v1 oCl10 rfl (by decide) flX11_365 rfl rfl (ev1) rfl rfl (oDec_at oX11_prepare 2 rfl) (fun b2 b2h => ?_)
  refine r_if_ne C 53 (oDec_at oX11_prepare 3 rfl) (by decide) (fun cd3 => ?_) (fun cd3 => ?_)
  · skip
    refine r_iload_n C (j := 1) (oDec_at oX11_prepare 25 rfl) rfl rfl ?_
    refine r_iconst C (oDec_at oX11_prepare 26 rfl) (v := k3) (by rw [qk3]; rfl) ?_
    refine r_icmp_eq C 63 (oDec_at oX11_prepare 27 rfl) (by decide) (fun cd4 => ?_) (fun cd4 => ?_)
    · skip
      refine r_aload_n C (j := 0) (oDec_at oX11_prepare 31 rfl) rfl rfl ?_
      refine r_getF (k := 11) (b := 52) C oCl11 rfl (by decide) flX11_81 rfl rfl rfl (oDec_at oX11_prepare 32 rfl) ?_
      obtain ⟨v5, ev5⟩ : ∃ z : Int32, (s).1 52 0 = z := ⟨_, rfl⟩
      have gv5 : (s.1 52 0).toInt = v5.toInt := congrArg Int32.toInt (ev5)
      refine r_getiN (k := 0) (lo := 0) (hi := 1) C v5 oCl7 rfl (by decide) flX11_368 rfl rfl (ev5) rfl rfl (oDec_at oX11_prepare 33 rfl) (fun b6 b6h => ?_)
      refine r_if_ne C 108 (oDec_at oX11_prepare 34 rfl) (by decide) (fun cd7 => ?_) (fun cd7 => ?_)
      · skip
        exact r_vret C (oDec_at oX11_prepare 52 rfl) ⟨rfl, trivial⟩
      · skip
        refine r_aload_n C (j := 0) (oDec_at oX11_prepare 35 rfl) rfl rfl ?_
        refine r_getF (k := 11) (b := 52) C oCl11 rfl (by decide) flX11_81 rfl rfl rfl (oDec_at oX11_prepare 36 rfl) ?_
        refine r_aload_n C (j := 0) (oDec_at oX11_prepare 37 rfl) rfl rfl ?_
        refine r_getS (k := 1) (q2 := 4) C oCl11 rfl (by decide) flX11_19 rfl rfl rfl ks0 (oDec_at oX11_prepare 38 rfl) (fun b8 rb8 mb8 hkb8 => ?_)
        refine r_aload_n C (j := 0) (oDec_at oX11_prepare 39 rfl) rfl rfl ?_
        refine r_getS (k := 4) (q2 := 0) C oCl11 rfl (by decide) flX11_32 rfl rfl rfl ks1 (oDec_at oX11_prepare 40 rfl) (fun b9 rb9 mb9 hkb9 => ?_)
        refine r_pc C 85 rfl ?_
        refine r_aload_n C (j := 0) (oDec_at oX11_prepare 41 rfl) rfl rfl ?_
        refine r_getF (k := 10) (b := 43) C oCl11 rfl (by decide) flX11_74 rfl rfl rfl (oDec_at oX11_prepare 42 rfl) ?_
        refine r_aload_n C (j := 0) (oDec_at oX11_prepare 43 rfl) rfl rfl ?_
        refine r_getF (k := 7) (b := 31) C oCl11 rfl (by decide) flX11_53 rfl rfl rfl (oDec_at oX11_prepare 44 rfl) ?_
        refine r_aload_n C (j := 0) (oDec_at oX11_prepare 45 rfl) rfl rfl ?_
        refine r_getF (k := 8) (b := 35) C oCl11 rfl (by decide) flX11_60 rfl rfl rfl (oDec_at oX11_prepare 46 rfl) ?_
        refine r_pc C 97 rfl ?_
        refine r_callVv C oCl7 rfl miX7_build mlX11_373 (ct_X7_build l E (s) b8 hkb8 b9 hkb9 ) (by decide) rfl rfl rfl (Nat.le_of_ble_eq_true rfl) (oDec_at oX11_prepare 47 rfl) (fun u10 pu10 fu10 => ?_)
        try dsimp only at pu10
        refine r_aload_n C (j := 0) (oDec_at oX11_prepare 48 rfl) rfl rfl ?_
        refine r_getF (k := 11) (b := 52) C oCl11 rfl (by decide) flX11_81 rfl rfl rfl (oDec_at oX11_prepare 49 rfl) ?_
        refine r_iconst C (oDec_at oX11_prepare 50 rfl) (v := k1) (by rw [qk1]; rfl) ?_
        refine r_putiN (k := 0) (lo := 0) (hi := 1) C oCl7 rfl (by decide) flX11_368 rfl rfl rfl rfl rfl (n_bool (by omega)) (n_fitz (by omega)) rfl ⟨by omega, by omega⟩ (oDec_at oX11_prepare 51 rfl) ?_
        exact r_vret C (oDec_at oX11_prepare 52 rfl) ⟨rfl, trivial⟩
    · skip
      refine r_iload_n C (j := 1) (oDec_at oX11_prepare 28 rfl) rfl rfl ?_
      refine r_iconst C (oDec_at oX11_prepare 29 rfl) (v := k4) (by rw [qk4]; rfl) ?_
      refine r_icmp_ne C 108 (oDec_at oX11_prepare 30 rfl) (by decide) (fun cd12 => ?_) (fun cd12 => ?_)
      · skip
        exact r_vret C (oDec_at oX11_prepare 52 rfl) ⟨rfl, trivial⟩
      · skip
        refine r_aload_n C (j := 0) (oDec_at oX11_prepare 31 rfl) rfl rfl ?_
        refine r_getF (k := 11) (b := 52) C oCl11 rfl (by decide) flX11_81 rfl rfl rfl (oDec_at oX11_prepare 32 rfl) ?_
        obtain ⟨v13, ev13⟩ : ∃ z : Int32, (s).1 52 0 = z := ⟨_, rfl⟩
        have gv13 : (s.1 52 0).toInt = v13.toInt := congrArg Int32.toInt (ev13)
        refine r_getiN (k := 0) (lo := 0) (hi := 1) C v13 oCl7 rfl (by decide) flX11_368 rfl rfl (ev13) rfl rfl (oDec_at oX11_prepare 33 rfl) (fun b14 b14h => ?_)
        refine r_if_ne C 108 (oDec_at oX11_prepare 34 rfl) (by decide) (fun cd15 => ?_) (fun cd15 => ?_)
        · skip
          exact r_vret C (oDec_at oX11_prepare 52 rfl) ⟨rfl, trivial⟩
        · skip
          refine r_aload_n C (j := 0) (oDec_at oX11_prepare 35 rfl) rfl rfl ?_
          refine r_getF (k := 11) (b := 52) C oCl11 rfl (by decide) flX11_81 rfl rfl rfl (oDec_at oX11_prepare 36 rfl) ?_
          refine r_aload_n C (j := 0) (oDec_at oX11_prepare 37 rfl) rfl rfl ?_
          refine r_getS (k := 1) (q2 := 4) C oCl11 rfl (by decide) flX11_19 rfl rfl rfl ks0 (oDec_at oX11_prepare 38 rfl) (fun b16 rb16 mb16 hkb16 => ?_)
          refine r_aload_n C (j := 0) (oDec_at oX11_prepare 39 rfl) rfl rfl ?_
          refine r_getS (k := 4) (q2 := 0) C oCl11 rfl (by decide) flX11_32 rfl rfl rfl ks1 (oDec_at oX11_prepare 40 rfl) (fun b17 rb17 mb17 hkb17 => ?_)
          refine r_pc C 85 rfl ?_
          refine r_aload_n C (j := 0) (oDec_at oX11_prepare 41 rfl) rfl rfl ?_
          refine r_getF (k := 10) (b := 43) C oCl11 rfl (by decide) flX11_74 rfl rfl rfl (oDec_at oX11_prepare 42 rfl) ?_
          refine r_aload_n C (j := 0) (oDec_at oX11_prepare 43 rfl) rfl rfl ?_
          refine r_getF (k := 7) (b := 31) C oCl11 rfl (by decide) flX11_53 rfl rfl rfl (oDec_at oX11_prepare 44 rfl) ?_
          refine r_aload_n C (j := 0) (oDec_at oX11_prepare 45 rfl) rfl rfl ?_
          refine r_getF (k := 8) (b := 35) C oCl11 rfl (by decide) flX11_60 rfl rfl rfl (oDec_at oX11_prepare 46 rfl) ?_
          refine r_pc C 97 rfl ?_
          refine r_callVv C oCl7 rfl miX7_build mlX11_373 (ct_X7_build l E (s) b16 hkb16 b17 hkb17 ) (by decide) rfl rfl rfl (Nat.le_of_ble_eq_true rfl) (oDec_at oX11_prepare 47 rfl) (fun u18 pu18 fu18 => ?_)
          try dsimp only at pu18
          refine r_aload_n C (j := 0) (oDec_at oX11_prepare 48 rfl) rfl rfl ?_
          refine r_getF (k := 11) (b := 52) C oCl11 rfl (by decide) flX11_81 rfl rfl rfl (oDec_at oX11_prepare 49 rfl) ?_
          refine r_iconst C (oDec_at oX11_prepare 50 rfl) (v := k1) (by rw [qk1]; rfl) ?_
          refine r_putiN (k := 0) (lo := 0) (hi := 1) C oCl7 rfl (by decide) flX11_368 rfl rfl rfl rfl rfl (n_bool (by omega)) (n_fitz (by omega)) rfl ⟨by omega, by omega⟩ (oDec_at oX11_prepare 51 rfl) ?_
          exact r_vret C (oDec_at oX11_prepare 52 rfl) ⟨rfl, trivial⟩
  · skip
    refine r_aload_n C (j := 0) (oDec_at oX11_prepare 4 rfl) rfl rfl ?_
    refine r_getF (k := 10) (b := 43) C oCl11 rfl (by decide) flX11_74 rfl rfl rfl (oDec_at oX11_prepare 5 rfl) ?_
    refine r_aload_n C (j := 0) (oDec_at oX11_prepare 6 rfl) rfl rfl ?_
    refine r_getS (k := 1) (q2 := 4) C oCl11 rfl (by decide) flX11_19 rfl rfl rfl ks0 (oDec_at oX11_prepare 7 rfl) (fun b20 rb20 mb20 hkb20 => ?_)
    refine r_aload_n C (j := 0) (oDec_at oX11_prepare 8 rfl) rfl rfl ?_
    refine r_getS (k := 4) (q2 := 0) C oCl11 rfl (by decide) flX11_32 rfl rfl rfl ks1 (oDec_at oX11_prepare 9 rfl) (fun b21 rb21 mb21 hkb21 => ?_)
    refine r_pc C 22 rfl ?_
    refine r_aload_n C (j := 0) (oDec_at oX11_prepare 10 rfl) rfl rfl ?_
    refine r_getF (k := 7) (b := 31) C oCl11 rfl (by decide) flX11_53 rfl rfl rfl (oDec_at oX11_prepare 11 rfl) ?_
    refine r_aload_n C (j := 0) (oDec_at oX11_prepare 12 rfl) rfl rfl ?_
    refine r_getF (k := 8) (b := 35) C oCl11 rfl (by decide) flX11_60 rfl rfl rfl (oDec_at oX11_prepare 13 rfl) ?_
    refine r_callVi C oCl10 rfl miX10_survey mlX11_319 (ct_X10_survey l E (s) b20 hkb20 b21 hkb21 ) (by decide) rfl rfl rfl (Nat.le_of_ble_eq_true rfl) (oDec_at oX11_prepare 14 rfl) (fun r23 u22 pu22 fu22 => ?_)
    try dsimp only at pu22
    have rr23 := n_rng r23
    refine r_pop C (oDec_at oX11_prepare 15 rfl) rfl ?_
    refine r_pc C 34 rfl ?_
    refine r_aload_n C (j := 0) (oDec_at oX11_prepare 16 rfl) rfl rfl ?_
    refine r_getF (k := 10) (b := 43) C oCl11 rfl (by decide) flX11_74 rfl rfl rfl (oDec_at oX11_prepare 17 rfl) ?_
    refine r_aload_n C (j := 0) (oDec_at oX11_prepare 18 rfl) rfl rfl ?_
    refine r_getK (k := 4) (b := b21) C oCl11 rfl (by decide) flX11_32 rfl rfl (((fu22 0 4 rfl).2.2).trans (rb21)) (oDec_at oX11_prepare 19 rfl) ?_
    refine r_callVv C oCl10 rfl miX10_weigh mlX11_370 (ct_X10_weigh l E (u22) b21 hkb21 ) (by decide) rfl rfl rfl (Nat.le_of_ble_eq_true rfl) (oDec_at oX11_prepare 20 rfl) (fun u25 pu25 fu25 => ?_)
    try dsimp only at pu25
    refine r_aload_n C (j := 0) (oDec_at oX11_prepare 21 rfl) rfl rfl ?_
    refine r_getF (k := 10) (b := 43) C oCl11 rfl (by decide) flX11_74 rfl rfl rfl (oDec_at oX11_prepare 22 rfl) ?_
    refine r_pc C 49 rfl ?_
    refine r_iconst C (oDec_at oX11_prepare 23 rfl) (v := k1) (by rw [qk1]; rfl) ?_
    refine r_putiN (k := 3) (lo := 0) (hi := 1) C oCl10 rfl (by decide) flX11_365 rfl rfl rfl rfl rfl (n_bool (by omega)) (n_fitz (by omega)) rfl ⟨by omega, by omega⟩ (oDec_at oX11_prepare 24 rfl) ?_
    refine r_iload_n C (j := 1) (oDec_at oX11_prepare 25 rfl) rfl rfl ?_
    refine r_iconst C (oDec_at oX11_prepare 26 rfl) (v := k3) (by rw [qk3]; rfl) ?_
    refine r_icmp_eq C 63 (oDec_at oX11_prepare 27 rfl) (by decide) (fun cd27 => ?_) (fun cd27 => ?_)
    · skip
      refine r_aload_n C (j := 0) (oDec_at oX11_prepare 31 rfl) rfl rfl ?_
      refine r_getF (k := 11) (b := 52) C oCl11 rfl (by decide) flX11_81 rfl rfl rfl (oDec_at oX11_prepare 32 rfl) ?_
      obtain ⟨v28, ev28⟩ : ∃ z : Int32, ((pI u25 43 3 k1)).1 52 0 = z := ⟨_, rfl⟩
      have gv28 : (s.1 52 0).toInt = v28.toInt := congrArg Int32.toInt ((((pI_ne (a := 52) (b := 0) (c := 43) _ _ (Or.inl (by decide)))).trans (((fu25 52 0 rfl).1).trans ((fu22 52 0 rfl).1))).symm.trans ev28)
      refine r_getiN (k := 0) (lo := 0) (hi := 1) C v28 oCl7 rfl (by decide) flX11_368 rfl rfl (ev28) rfl rfl (oDec_at oX11_prepare 33 rfl) (fun b29 b29h => ?_)
      refine r_if_ne C 108 (oDec_at oX11_prepare 34 rfl) (by decide) (fun cd30 => ?_) (fun cd30 => ?_)
      · skip
        exact r_vret C (oDec_at oX11_prepare 52 rfl) ⟨rfl, trivial⟩
      · skip
        refine r_aload_n C (j := 0) (oDec_at oX11_prepare 35 rfl) rfl rfl ?_
        refine r_getF (k := 11) (b := 52) C oCl11 rfl (by decide) flX11_81 rfl rfl rfl (oDec_at oX11_prepare 36 rfl) ?_
        refine r_aload_n C (j := 0) (oDec_at oX11_prepare 37 rfl) rfl rfl ?_
        refine r_getK (k := 1) (b := b20) C oCl11 rfl (by decide) flX11_19 rfl rfl ((show ((pI u25 43 3 k1)).2.2 0 1 = b20 + 1 from ((fu25 0 1 rfl).2.2).trans (((fu22 0 1 rfl).2.2).trans (rb20)))) (oDec_at oX11_prepare 38 rfl) ?_
        refine r_aload_n C (j := 0) (oDec_at oX11_prepare 39 rfl) rfl rfl ?_
        refine r_getK (k := 4) (b := b21) C oCl11 rfl (by decide) flX11_32 rfl rfl ((show ((pI u25 43 3 k1)).2.2 0 4 = b21 + 1 from ((fu25 0 4 rfl).2.2).trans (((fu22 0 4 rfl).2.2).trans (rb21)))) (oDec_at oX11_prepare 40 rfl) ?_
        refine r_aload_n C (j := 0) (oDec_at oX11_prepare 41 rfl) rfl rfl ?_
        refine r_getF (k := 10) (b := 43) C oCl11 rfl (by decide) flX11_74 rfl rfl rfl (oDec_at oX11_prepare 42 rfl) ?_
        refine r_pc C 89 rfl ?_
        refine r_aload_n C (j := 0) (oDec_at oX11_prepare 43 rfl) rfl rfl ?_
        refine r_getF (k := 7) (b := 31) C oCl11 rfl (by decide) flX11_53 rfl rfl rfl (oDec_at oX11_prepare 44 rfl) ?_
        refine r_aload_n C (j := 0) (oDec_at oX11_prepare 45 rfl) rfl rfl ?_
        refine r_getF (k := 8) (b := 35) C oCl11 rfl (by decide) flX11_60 rfl rfl rfl (oDec_at oX11_prepare 46 rfl) ?_
        refine r_callVv C oCl7 rfl miX7_build mlX11_373 (ct_X7_build l E ((pI u25 43 3 k1)) b20 hkb20 b21 hkb21 ) (by decide) rfl rfl rfl (Nat.le_of_ble_eq_true rfl) (oDec_at oX11_prepare 47 rfl) (fun u33 pu33 fu33 => ?_)
        try dsimp only at pu33
        refine r_aload_n C (j := 0) (oDec_at oX11_prepare 48 rfl) rfl rfl ?_
        refine r_pc C 101 rfl ?_
        refine r_getF (k := 11) (b := 52) C oCl11 rfl (by decide) flX11_81 rfl rfl rfl (oDec_at oX11_prepare 49 rfl) ?_
        refine r_iconst C (oDec_at oX11_prepare 50 rfl) (v := k1) (by rw [qk1]; rfl) ?_
        refine r_putiN (k := 0) (lo := 0) (hi := 1) C oCl7 rfl (by decide) flX11_368 rfl rfl rfl rfl rfl (n_bool (by omega)) (n_fitz (by omega)) rfl ⟨by omega, by omega⟩ (oDec_at oX11_prepare 51 rfl) ?_
        exact r_vret C (oDec_at oX11_prepare 52 rfl) ⟨rfl, trivial⟩
    · skip
      refine r_iload_n C (j := 1) (oDec_at oX11_prepare 28 rfl) rfl rfl ?_
      refine r_iconst C (oDec_at oX11_prepare 29 rfl) (v := k4) (by rw [qk4]; rfl) ?_
      refine r_icmp_ne C 108 (oDec_at oX11_prepare 30 rfl) (by decide) (fun cd35 => ?_) (fun cd35 => ?_)
      · skip
        exact r_vret C (oDec_at oX11_prepare 52 rfl) ⟨rfl, trivial⟩
      · skip
        refine r_aload_n C (j := 0) (oDec_at oX11_prepare 31 rfl) rfl rfl ?_
        refine r_getF (k := 11) (b := 52) C oCl11 rfl (by decide) flX11_81 rfl rfl rfl (oDec_at oX11_prepare 32 rfl) ?_
        obtain ⟨v36, ev36⟩ : ∃ z : Int32, ((pI u25 43 3 k1)).1 52 0 = z := ⟨_, rfl⟩
        have gv36 : (s.1 52 0).toInt = v36.toInt := congrArg Int32.toInt ((((pI_ne (a := 52) (b := 0) (c := 43) _ _ (Or.inl (by decide)))).trans (((fu25 52 0 rfl).1).trans ((fu22 52 0 rfl).1))).symm.trans ev36)
        refine r_getiN (k := 0) (lo := 0) (hi := 1) C v36 oCl7 rfl (by decide) flX11_368 rfl rfl (ev36) rfl rfl (oDec_at oX11_prepare 33 rfl) (fun b37 b37h => ?_)
        refine r_if_ne C 108 (oDec_at oX11_prepare 34 rfl) (by decide) (fun cd38 => ?_) (fun cd38 => ?_)
        · skip
          exact r_vret C (oDec_at oX11_prepare 52 rfl) ⟨rfl, trivial⟩
        · skip
          refine r_aload_n C (j := 0) (oDec_at oX11_prepare 35 rfl) rfl rfl ?_
          refine r_getF (k := 11) (b := 52) C oCl11 rfl (by decide) flX11_81 rfl rfl rfl (oDec_at oX11_prepare 36 rfl) ?_
          refine r_aload_n C (j := 0) (oDec_at oX11_prepare 37 rfl) rfl rfl ?_
          refine r_getK (k := 1) (b := b20) C oCl11 rfl (by decide) flX11_19 rfl rfl ((show ((pI u25 43 3 k1)).2.2 0 1 = b20 + 1 from ((fu25 0 1 rfl).2.2).trans (((fu22 0 1 rfl).2.2).trans (rb20)))) (oDec_at oX11_prepare 38 rfl) ?_
          refine r_aload_n C (j := 0) (oDec_at oX11_prepare 39 rfl) rfl rfl ?_
          refine r_getK (k := 4) (b := b21) C oCl11 rfl (by decide) flX11_32 rfl rfl ((show ((pI u25 43 3 k1)).2.2 0 4 = b21 + 1 from ((fu25 0 4 rfl).2.2).trans (((fu22 0 4 rfl).2.2).trans (rb21)))) (oDec_at oX11_prepare 40 rfl) ?_
          refine r_aload_n C (j := 0) (oDec_at oX11_prepare 41 rfl) rfl rfl ?_
          refine r_getF (k := 10) (b := 43) C oCl11 rfl (by decide) flX11_74 rfl rfl rfl (oDec_at oX11_prepare 42 rfl) ?_
          refine r_pc C 89 rfl ?_
          refine r_aload_n C (j := 0) (oDec_at oX11_prepare 43 rfl) rfl rfl ?_
          refine r_getF (k := 7) (b := 31) C oCl11 rfl (by decide) flX11_53 rfl rfl rfl (oDec_at oX11_prepare 44 rfl) ?_
          refine r_aload_n C (j := 0) (oDec_at oX11_prepare 45 rfl) rfl rfl ?_
          refine r_getF (k := 8) (b := 35) C oCl11 rfl (by decide) flX11_60 rfl rfl rfl (oDec_at oX11_prepare 46 rfl) ?_
          refine r_callVv C oCl7 rfl miX7_build mlX11_373 (ct_X7_build l E ((pI u25 43 3 k1)) b20 hkb20 b21 hkb21 ) (by decide) rfl rfl rfl (Nat.le_of_ble_eq_true rfl) (oDec_at oX11_prepare 47 rfl) (fun u41 pu41 fu41 => ?_)
          try dsimp only at pu41
          refine r_aload_n C (j := 0) (oDec_at oX11_prepare 48 rfl) rfl rfl ?_
          refine r_pc C 101 rfl ?_
          refine r_getF (k := 11) (b := 52) C oCl11 rfl (by decide) flX11_81 rfl rfl rfl (oDec_at oX11_prepare 49 rfl) ?_
          refine r_iconst C (oDec_at oX11_prepare 50 rfl) (v := k1) (by rw [qk1]; rfl) ?_
          refine r_putiN (k := 0) (lo := 0) (hi := 1) C oCl7 rfl (by decide) flX11_368 rfl rfl rfl rfl rfl (n_bool (by omega)) (n_fitz (by omega)) rfl ⟨by omega, by omega⟩ (oDec_at oX11_prepare 51 rfl) ?_
          exact r_vret C (oDec_at oX11_prepare 52 rfl) ⟨rfl, trivial⟩
set_option maxHeartbeats 4000000 in
set_option maxRecDepth 100000 in
theorem ct_X11_prepareLikeness (l : Launch) (E : oE) (s : oS)   : oMet l 7 yX11_prepareLikeness cX11_prepareLikeness 1 none [(3, 0), (3, 1), (3, 2), (6, 2), (9, 0), (9, 1), (9, 2), (9, 3), (9, 4), (42, 9999), (43, 9999), (44, 9999), (45, 9999), (46, 9999), (47, 9999)] E s [.ref (oad E 0)] (oPv (fun u => True)) := by
  refine oMet.of (lv := [(0, .ref (oad E 0))]) (by decide +kernel) (Nat.le_of_ble_eq_true rfl) rfl (fun J C hT => ?_)
  have C : oC l 7 cX11_prepareLikeness RX11 1 none [(3, 0), (3, 1), (3, 2), (6, 2), (9, 0), (9, 1), (9, 2), (9, 3), (9, 4), (42, 9999), (43, 9999), (44, 9999), (45, 9999), (46, 9999), (47, 9999)] E s (oPv (fun u => True)) J := C
  obtain ⟨k1, qk1⟩ : ∃ z : Int32, z = 1 := ⟨_, rfl⟩
  have ek1 : k1.toInt = 1 := by rw [qk1]; rfl
  refine r_aload_n C (j := 0) (oDec_at oX11_prepareLikeness 0 rfl) rfl rfl ?_
  refine r_getF (k := 12) (b := 56) C oCl11 rfl (by decide) flX11_88 rfl rfl rfl (oDec_at oX11_prepareLikeness 1 rfl) ?_
  obtain ⟨v1, ev1⟩ : ∃ z : Int32, (s).1 56 0 = z := ⟨_, rfl⟩
  have gv1 : (s.1 56 0).toInt = v1.toInt := congrArg Int32.toInt (ev1)
  refine r_getiN (k := 0) (lo := 0) (hi := 1) C v1 oCl3 rfl (by decide) flX11_369 rfl rfl (ev1) rfl rfl (oDec_at oX11_prepareLikeness 2 rfl) (fun b2 b2h => ?_)
  refine r_if_ne C 33 (oDec_at oX11_prepareLikeness 3 rfl) (by decide) (fun cd3 => ?_) (fun cd3 => ?_)
  · skip
    exact r_vret C (oDec_at oX11_prepareLikeness 15 rfl) ⟨rfl, trivial⟩
  · skip
    refine r_aload_n C (j := 0) (oDec_at oX11_prepareLikeness 4 rfl) rfl rfl ?_
    refine r_getF (k := 12) (b := 56) C oCl11 rfl (by decide) flX11_88 rfl rfl rfl (oDec_at oX11_prepareLikeness 5 rfl) ?_
    refine r_aload_n C (j := 0) (oDec_at oX11_prepareLikeness 6 rfl) rfl rfl ?_
    refine r_getS (k := 1) (q2 := 4) C oCl11 rfl (by decide) flX11_19 rfl rfl rfl ks0 (oDec_at oX11_prepareLikeness 7 rfl) (fun b4 rb4 mb4 hkb4 => ?_)
    refine r_aload_n C (j := 0) (oDec_at oX11_prepareLikeness 8 rfl) rfl rfl ?_
    refine r_getF (k := 10) (b := 43) C oCl11 rfl (by decide) flX11_74 rfl rfl rfl (oDec_at oX11_prepareLikeness 9 rfl) ?_
    refine r_pc C 22 rfl ?_
    refine r_callVv C oCl3 rfl miX3_build mlX11_377 (ct_X3_build l E (s) b4 hkb4 ) (by decide) rfl rfl rfl (Nat.le_of_ble_eq_true rfl) (oDec_at oX11_prepareLikeness 10 rfl) (fun u5 pu5 fu5 => ?_)
    try dsimp only at pu5
    refine r_aload_n C (j := 0) (oDec_at oX11_prepareLikeness 11 rfl) rfl rfl ?_
    refine r_getF (k := 12) (b := 56) C oCl11 rfl (by decide) flX11_88 rfl rfl rfl (oDec_at oX11_prepareLikeness 12 rfl) ?_
    refine r_iconst C (oDec_at oX11_prepareLikeness 13 rfl) (v := k1) (by rw [qk1]; rfl) ?_
    refine r_putiN (k := 0) (lo := 0) (hi := 1) C oCl3 rfl (by decide) flX11_369 rfl rfl rfl rfl rfl (n_bool (by omega)) (n_fitz (by omega)) rfl ⟨by omega, by omega⟩ (oDec_at oX11_prepareLikeness 14 rfl) ?_
    exact r_vret C (oDec_at oX11_prepareLikeness 15 rfl) ⟨rfl, trivial⟩
set_option maxHeartbeats 4000000 in
set_option maxRecDepth 100000 in
theorem ct_X11_howMany (l : Launch) (E : oE) (s : oS) (a1 : Int32)  : oMet l 1 yX11_howMany cX11_howMany 2 (some .int) [] E s [.ref (oad E 0), .int a1] (oPi (fun r u => (-1 ≤ r.toInt ∧ r.toInt ≤ 9880))) := by
  refine oMet.of (lv := [(0, .ref (oad E 0)), (1, .int a1)]) (by decide +kernel) (Nat.le_of_ble_eq_true rfl) rfl (fun J C hT => ?_)
  have C : oC l 1 cX11_howMany RX11 2 (some .int) [] E s (oPi (fun r u => (-1 ≤ r.toInt ∧ r.toInt ≤ 9880))) J := C
  obtain ⟨km1, qkm1⟩ : ∃ z : Int32, z = (-1) := ⟨_, rfl⟩
  have ekm1 : km1.toInt = (-1) := by rw [qkm1]; rfl
  have rg1 := n_rng a1
  refine r_iload_n C (j := 1) (oDec_at oX11_howMany 0 rfl) rfl rfl ?_
  by_cases cd1_0 : a1.toInt = 2
  · refine r_tableIn C 28 (oDec_at oX11_howMany 1 rfl) (by omega) (by omega) (by rw [cd1_0]; rfl) (by decide) ?_
    refine r_aload_n C (j := 0) (oDec_at oX11_howMany 2 rfl) rfl rfl ?_
    refine r_getF (k := 10) (b := 43) C oCl11 rfl (by decide) flX11_74 rfl rfl rfl (oDec_at oX11_howMany 3 rfl) ?_
    obtain ⟨v2, ev2⟩ : ∃ z : Int32, (s).1 43 4 = z := ⟨_, rfl⟩
    have gv2 : (s.1 43 4).toInt = v2.toInt := congrArg Int32.toInt (ev2)
    refine r_getiN (k := 4) (lo := 0) (hi := 4500) C v2 oCl10 rfl (by decide) flX11_278 rfl rfl (ev2) rfl rfl (oDec_at oX11_howMany 4 rfl) (fun b3 b3h => ?_)
    exact r_iret C (oDec_at oX11_howMany 5 rfl) ⟨_, rfl, by omega⟩
  by_cases cd1_1 : a1.toInt = 3
  · refine r_tableIn C 36 (oDec_at oX11_howMany 1 rfl) (by omega) (by omega) (by rw [cd1_1]; rfl) (by decide) ?_
    refine r_aload_n C (j := 0) (oDec_at oX11_howMany 6 rfl) rfl rfl ?_
    refine r_getF (k := 11) (b := 52) C oCl11 rfl (by decide) flX11_81 rfl rfl rfl (oDec_at oX11_howMany 7 rfl) ?_
    obtain ⟨v4, ev4⟩ : ∃ z : Int32, (s).1 52 4 = z := ⟨_, rfl⟩
    have gv4 : (s.1 52 4).toInt = v4.toInt := congrArg Int32.toInt (ev4)
    refine r_getiN (k := 4) (lo := 0) (hi := 780) C v4 oCl7 rfl (by decide) flX11_380 rfl rfl (ev4) rfl rfl (oDec_at oX11_howMany 8 rfl) (fun b5 b5h => ?_)
    exact r_iret C (oDec_at oX11_howMany 9 rfl) ⟨_, rfl, by omega⟩
  by_cases cd1_2 : a1.toInt = 4
  · refine r_tableIn C 44 (oDec_at oX11_howMany 1 rfl) (by omega) (by omega) (by rw [cd1_2]; rfl) (by decide) ?_
    refine r_aload_n C (j := 0) (oDec_at oX11_howMany 10 rfl) rfl rfl ?_
    refine r_getF (k := 11) (b := 52) C oCl11 rfl (by decide) flX11_81 rfl rfl rfl (oDec_at oX11_howMany 11 rfl) ?_
    obtain ⟨v6, ev6⟩ : ∃ z : Int32, (s).1 52 5 = z := ⟨_, rfl⟩
    have gv6 : (s.1 52 5).toInt = v6.toInt := congrArg Int32.toInt (ev6)
    refine r_getiN (k := 5) (lo := 0) (hi := 9880) C v6 oCl7 rfl (by decide) flX11_383 rfl rfl (ev6) rfl rfl (oDec_at oX11_howMany 12 rfl) (fun b7 b7h => ?_)
    exact r_iret C (oDec_at oX11_howMany 13 rfl) ⟨_, rfl, by omega⟩
  refine r_tableOut C 52 (oDec_at oX11_howMany 1 rfl) (by omega) (by decide) ?_
  refine r_iconst C (oDec_at oX11_howMany 14 rfl) (v := km1) (by rw [qkm1]; rfl) ?_
  exact r_iret C (oDec_at oX11_howMany 15 rfl) ⟨_, rfl, by omega⟩
set_option maxHeartbeats 4000000 in
set_option maxRecDepth 100000 in
theorem ct_X11_member (l : Launch) (E : oE) (s : oS) (a1 : Int32) (a2 : Int32) (a3 : Int32)  : oMet l 2 yX11_member cX11_member 4 (some .int) [] E s [.ref (oad E 0), .int a1, .int a2, .int a3] (oPi (fun r u => True)) := by
  refine oMet.of (lv := [(0, .ref (oad E 0)), (1, .int a1), (2, .int a2), (3, .int a3)]) (by decide +kernel) (Nat.le_of_ble_eq_true rfl) rfl (fun J C hT => ?_)
  have C : oC l 2 cX11_member RX11 4 (some .int) [] E s (oPi (fun r u => True)) J := C
  obtain ⟨km1, qkm1⟩ : ∃ z : Int32, z = (-1) := ⟨_, rfl⟩
  have ekm1 : km1.toInt = (-1) := by rw [qkm1]; rfl
  obtain ⟨k1, qk1⟩ : ∃ z : Int32, z = 1 := ⟨_, rfl⟩
  have ek1 : k1.toInt = 1 := by rw [qk1]; rfl
  obtain ⟨k2, qk2⟩ : ∃ z : Int32, z = 2 := ⟨_, rfl⟩
  have ek2 : k2.toInt = 2 := by rw [qk2]; rfl
  have rg1 := n_rng a1
  have rg2 := n_rng a2
  have rg3 := n_rng a3
  refine r_iload_n C (j := 2) (oDec_at oX11_member 0 rfl) rfl rfl ?_
  refine r_if_lt C 24 (oDec_at oX11_member 1 rfl) (by decide) (fun cd1 => ?_) (fun cd1 => ?_)
  · skip
    refine r_iconst C (oDec_at oX11_member 14 rfl) (v := km1) (by rw [qkm1]; rfl) ?_
    exact r_iret C (oDec_at oX11_member 15 rfl) ⟨_, rfl, trivial⟩
  · skip
    refine r_iload_n C (j := 2) (oDec_at oX11_member 2 rfl) rfl rfl ?_
    refine r_aload_n C (j := 0) (oDec_at oX11_member 3 rfl) rfl rfl ?_
    refine r_iload_n C (j := 1) (oDec_at oX11_member 4 rfl) rfl rfl ?_
    refine r_callVi C oCl11 rfl miX11_howMany mlX11_255 (ct_X11_howMany l E (s) a1 ) (by decide) rfl rfl rfl (Nat.le_of_ble_eq_true rfl) (oDec_at oX11_member 5 rfl) (fun r3 u2 pu2 fu2 => ?_)
    try dsimp only at pu2
    have rr3 := n_rng r3
    refine r_icmp_ge C 24 (oDec_at oX11_member 6 rfl) (by decide) (fun cd4 => ?_) (fun cd4 => ?_)
    · skip
      refine r_iconst C (oDec_at oX11_member 14 rfl) (v := km1) (by rw [qkm1]; rfl) ?_
      exact r_iret C (oDec_at oX11_member 15 rfl) ⟨_, rfl, trivial⟩
    · skip
      refine r_iload_n C (j := 3) (oDec_at oX11_member 7 rfl) rfl rfl ?_
      refine r_if_lt C 24 (oDec_at oX11_member 8 rfl) (by decide) (fun cd5 => ?_) (fun cd5 => ?_)
      · skip
        refine r_iconst C (oDec_at oX11_member 14 rfl) (v := km1) (by rw [qkm1]; rfl) ?_
        exact r_iret C (oDec_at oX11_member 15 rfl) ⟨_, rfl, trivial⟩
      · skip
        refine r_iload_n C (j := 3) (oDec_at oX11_member 9 rfl) rfl rfl ?_
        refine r_iload_n C (j := 1) (oDec_at oX11_member 10 rfl) rfl rfl ?_
        refine r_iconst C (oDec_at oX11_member 11 rfl) (v := k1) (by rw [qk1]; rfl) ?_
        obtain ⟨v6, ev6⟩ : ∃ z : Int32, z = a1 - k1 := ⟨_, rfl⟩
        have rv6 := n_rng v6
        refine r_isub C v6 (oDec_at oX11_member 12 rfl) ev6 ?_
        refine r_icmp_lt C 26 (oDec_at oX11_member 13 rfl) (by decide) (fun cd7 => ?_) (fun cd7 => ?_)
        · skip
          refine r_iload_n C (j := 1) (oDec_at oX11_member 16 rfl) rfl rfl ?_
          refine r_iconst C (oDec_at oX11_member 17 rfl) (v := k2) (by rw [qk2]; rfl) ?_
          refine r_icmp_ne C 35 (oDec_at oX11_member 18 rfl) (by decide) (fun cd8 => ?_) (fun cd8 => ?_)
          · skip
            refine r_aload_n C (j := 0) (oDec_at oX11_member 21 rfl) rfl rfl ?_
            refine r_getF (k := 11) (b := 52) C oCl11 rfl (by decide) flX11_81 rfl rfl rfl (oDec_at oX11_member 22 rfl) ?_
            refine r_iload_n C (j := 1) (oDec_at oX11_member 23 rfl) rfl rfl ?_
            refine r_iload_n C (j := 2) (oDec_at oX11_member 24 rfl) rfl rfl ?_
            refine r_iload_n C (j := 3) (oDec_at oX11_member 25 rfl) rfl rfl ?_
            refine r_callVi C oCl7 rfl miX7_memberOf mlX11_386 (ct_X7_memberOf l E (u2) a1 a2 a3 ) (by decide) rfl rfl rfl (Nat.le_of_ble_eq_true rfl) (oDec_at oX11_member 26 rfl) (fun r10 u9 pu9 fu9 => ?_)
            try dsimp only at pu9
            have rr10 := n_rng r10
            refine r_pc C 45 rfl ?_
            exact r_iret C (oDec_at oX11_member 27 rfl) ⟨_, rfl, trivial⟩
          · skip
            refine r_iload_n C (j := 2) (oDec_at oX11_member 19 rfl) rfl rfl ?_
            refine r_goto C (tgt := 45) (oDec_at oX11_member 20 rfl) (by decide) ?_
            exact r_iret C (oDec_at oX11_member 27 rfl) ⟨_, rfl, trivial⟩
        · skip
          refine r_iconst C (oDec_at oX11_member 14 rfl) (v := km1) (by rw [qkm1]; rfl) ?_
          exact r_iret C (oDec_at oX11_member 15 rfl) ⟨_, rfl, trivial⟩
set_option maxHeartbeats 4000000 in
set_option maxRecDepth 100000 in
theorem ct_X11_hearTwo (l : Launch) (E : oE) (s : oS) (a1 : Int32) (a2 : Int32)  : oMet l 6 yX11_hearTwo cX11_hearTwo 3 (some .boolean) [(1, 6), (1, 7), (1, 8), (9, 0), (9, 1), (9, 2), (9, 3), (9, 4), (28, 9999), (29, 9999), (30, 9999), (31, 9999)] E s [.ref (oad E 0), .int a1, .int a2] (oPi (fun r u => (0 ≤ r.toInt ∧ r.toInt ≤ 1))) := by
  refine oMet.of (lv := [(0, .ref (oad E 0)), (1, .int a1), (2, .int a2)]) (by decide +kernel) (Nat.le_of_ble_eq_true rfl) rfl (fun J C hT => ?_)
  have C : oC l 6 cX11_hearTwo RX11 3 (some .boolean) [(1, 6), (1, 7), (1, 8), (9, 0), (9, 1), (9, 2), (9, 3), (9, 4), (28, 9999), (29, 9999), (30, 9999), (31, 9999)] E s (oPi (fun r u => (0 ≤ r.toInt ∧ r.toInt ≤ 1))) J := C
  obtain ⟨k0, qk0⟩ : ∃ z : Int32, z = 0 := ⟨_, rfl⟩
  have ek0 : k0.toInt = 0 := by rw [qk0]; rfl
  obtain ⟨k1, qk1⟩ : ∃ z : Int32, z = 1 := ⟨_, rfl⟩
  have ek1 : k1.toInt = 1 := by rw [qk1]; rfl
  have rg1 := n_rng a1
  have rg2 := n_rng a2
  refine r_iload_n C (j := 1) (oDec_at oX11_hearTwo 0 rfl) rfl rfl ?_
  refine r_callSi C miX11_isCode mlX11_192 (ct_X11_isCode l E (s) a1 ) (by decide) rfl rfl rfl (Nat.le_of_ble_eq_true rfl) (oDec_at oX11_hearTwo 1 rfl) (fun r2 u1 pu1 fu1 => ?_)
  try dsimp only at pu1
  have rr2 := n_rng r2
  refine r_if_eq C 19 (oDec_at oX11_hearTwo 2 rfl) (by decide) (fun cd3 => ?_) (fun cd3 => ?_)
  · skip
    refine r_iconst C (oDec_at oX11_hearTwo 9 rfl) (v := k0) (by rw [qk0]; rfl) ?_
    exact r_zret C (n_bool (by omega)) (oDec_at oX11_hearTwo 10 rfl) ⟨_, rfl, by omega⟩
  · skip
    refine r_iload_n C (j := 2) (oDec_at oX11_hearTwo 3 rfl) rfl rfl ?_
    refine r_callSi C miX11_isCode mlX11_192 (ct_X11_isCode l E (u1) a2 ) (by decide) rfl rfl rfl (Nat.le_of_ble_eq_true rfl) (oDec_at oX11_hearTwo 4 rfl) (fun r5 u4 pu4 fu4 => ?_)
    try dsimp only at pu4
    have rr5 := n_rng r5
    refine r_if_eq C 19 (oDec_at oX11_hearTwo 5 rfl) (by decide) (fun cd6 => ?_) (fun cd6 => ?_)
    · skip
      refine r_iconst C (oDec_at oX11_hearTwo 9 rfl) (v := k0) (by rw [qk0]; rfl) ?_
      exact r_zret C (n_bool (by omega)) (oDec_at oX11_hearTwo 10 rfl) ⟨_, rfl, by omega⟩
    · skip
      refine r_iload_n C (j := 1) (oDec_at oX11_hearTwo 6 rfl) rfl rfl ?_
      refine r_iload_n C (j := 2) (oDec_at oX11_hearTwo 7 rfl) rfl rfl ?_
      refine r_icmp_ne C 21 (oDec_at oX11_hearTwo 8 rfl) (by decide) (fun cd7 => ?_) (fun cd7 => ?_)
      · skip
        refine r_aload_n C (j := 0) (oDec_at oX11_hearTwo 11 rfl) rfl rfl ?_
        refine r_getS (k := 1) (q2 := 4) C oCl11 rfl (by decide) flX11_19 rfl rfl rfl ks0 (oDec_at oX11_hearTwo 12 rfl) (fun b8 rb8 mb8 hkb8 => ?_)
        refine r_iload_n C (j := 1) (oDec_at oX11_hearTwo 13 rfl) rfl rfl ?_
        refine r_callSi C miX11_canBe mlX11_214 (ct_X11_canBe l E (u4) b8 hkb8 a1 ) (by decide) rfl rfl rfl (Nat.le_of_ble_eq_true rfl) (oDec_at oX11_hearTwo 14 rfl) (fun r10 u9 pu9 fu9 => ?_)
        try dsimp only at pu9
        have rr10 := n_rng r10
        refine r_if_eq C 43 (oDec_at oX11_hearTwo 15 rfl) (by decide) (fun cd11 => ?_) (fun cd11 => ?_)
        · skip
          refine r_iconst C (oDec_at oX11_hearTwo 21 rfl) (v := k0) (by rw [qk0]; rfl) ?_
          exact r_zret C (n_bool (by omega)) (oDec_at oX11_hearTwo 22 rfl) ⟨_, rfl, by omega⟩
        · skip
          refine r_aload_n C (j := 0) (oDec_at oX11_hearTwo 16 rfl) rfl rfl ?_
          refine r_getK (k := 1) (b := b8) C oCl11 rfl (by decide) flX11_19 rfl rfl (((fu9 0 1 rfl).2.2).trans (rb8)) (oDec_at oX11_hearTwo 17 rfl) ?_
          refine r_iload_n C (j := 2) (oDec_at oX11_hearTwo 18 rfl) rfl rfl ?_
          refine r_callSi C miX11_canBe mlX11_214 (ct_X11_canBe l E (u9) b8 hkb8 a2 ) (by decide) rfl rfl rfl (Nat.le_of_ble_eq_true rfl) (oDec_at oX11_hearTwo 19 rfl) (fun r14 u13 pu13 fu13 => ?_)
          try dsimp only at pu13
          have rr14 := n_rng r14
          refine r_if_ne C 45 (oDec_at oX11_hearTwo 20 rfl) (by decide) (fun cd15 => ?_) (fun cd15 => ?_)
          · skip
            refine r_aload_n C (j := 0) (oDec_at oX11_hearTwo 23 rfl) rfl rfl ?_
            refine r_getF (k := 8) (b := 35) C oCl11 rfl (by decide) flX11_60 rfl rfl rfl (oDec_at oX11_hearTwo 24 rfl) ?_
            refine r_aload_n C (j := 0) (oDec_at oX11_hearTwo 25 rfl) rfl rfl ?_
            refine r_getK (k := 1) (b := b8) C oCl11 rfl (by decide) flX11_19 rfl rfl (((fu13 0 1 rfl).2.2).trans (((fu9 0 1 rfl).2.2).trans (rb8))) (oDec_at oX11_hearTwo 26 rfl) ?_
            refine r_aload_n C (j := 0) (oDec_at oX11_hearTwo 27 rfl) rfl rfl ?_
            refine r_getS (k := 4) (q2 := 0) C oCl11 rfl (by decide) flX11_32 rfl rfl rfl ks1 (oDec_at oX11_hearTwo 28 rfl) (fun b17 rb17 mb17 hkb17 => ?_)
            obtain ⟨v18, ev18⟩ : ∃ z : Int32, (u13).1 b17 6 = z := ⟨_, rfl⟩
            have gv18 : (s.1 b17 6).toInt = v18.toInt := congrArg Int32.toInt ((((fu13 b17 6 (by rw [hkb17]; rfl)).1).trans (((fu9 b17 6 (by rw [hkb17]; rfl)).1).trans (((fu4 b17 6 (by rw [hkb17]; rfl)).1).trans ((fu1 b17 6 (by rw [hkb17]; rfl)).1)))).symm.trans ev18)
            refine r_getiN (k := 6) (lo := 2) (hi := 12) C v18 oCl0 hkb17 (by decide) flX11_156 rfl rfl (ev18) rfl rfl (oDec_at oX11_hearTwo 29 rfl) (fun b19 b19h => ?_)
            refine r_pc C 60 rfl ?_
            refine r_iload_n C (j := 1) (oDec_at oX11_hearTwo 30 rfl) rfl rfl ?_
            refine r_iload_n C (j := 2) (oDec_at oX11_hearTwo 31 rfl) rfl rfl ?_
            refine r_callVv C oCl1 rfl miX1_hear mlX11_389 (ct_X1_hear l E (u13) b8 hkb8 v18 a1 a2 ) (by decide) rfl rfl rfl (Nat.le_of_ble_eq_true rfl) (oDec_at oX11_hearTwo 32 rfl) (fun u20 pu20 fu20 => ?_)
            try dsimp only at pu20
            refine r_iconst C (oDec_at oX11_hearTwo 33 rfl) (v := k1) (by rw [qk1]; rfl) ?_
            exact r_zret C (n_bool (by omega)) (oDec_at oX11_hearTwo 34 rfl) ⟨_, rfl, by omega⟩
          · skip
            refine r_iconst C (oDec_at oX11_hearTwo 21 rfl) (v := k0) (by rw [qk0]; rfl) ?_
            exact r_zret C (n_bool (by omega)) (oDec_at oX11_hearTwo 22 rfl) ⟨_, rfl, by omega⟩
      · skip
        refine r_iconst C (oDec_at oX11_hearTwo 9 rfl) (v := k0) (by rw [qk0]; rfl) ?_
        exact r_zret C (n_bool (by omega)) (oDec_at oX11_hearTwo 10 rfl) ⟨_, rfl, by omega⟩
set_option maxHeartbeats 4000000 in
set_option maxRecDepth 100000 in
theorem ct_X11_agrees (l : Launch) (E : oE) (s : oS) (c1 : Nat) (hk1 : okd c1 = 4) (a2 : Int32)  : oMet l 6 yX11_agrees cX11_agrees 3 (some .boolean) [(1, 6), (1, 7), (1, 8), (9, 0), (9, 1), (9, 2), (9, 3), (9, 4), (24, 9999), (25, 9999), (26, 9999), (27, 9999), (28, 9999), (29, 9999), (30, 9999), (31, 9999)] E s [.ref (oad E 0), .ref (oad E c1), .int a2] (oPi (fun r u => (0 ≤ r.toInt ∧ r.toInt ≤ 1))) := by
  refine oMet.of (lv := [(0, .ref (oad E 0)), (1, .ref (oad E c1)), (2, .int a2)]) (by decide +kernel) (Nat.le_of_ble_eq_true rfl) rfl (fun J C hT => ?_)
  have C : oC l 6 cX11_agrees RX11 3 (some .boolean) [(1, 6), (1, 7), (1, 8), (9, 0), (9, 1), (9, 2), (9, 3), (9, 4), (24, 9999), (25, 9999), (26, 9999), (27, 9999), (28, 9999), (29, 9999), (30, 9999), (31, 9999)] E s (oPi (fun r u => (0 ≤ r.toInt ∧ r.toInt ≤ 1))) J := C
  obtain ⟨km1, qkm1⟩ : ∃ z : Int32, z = (-1) := ⟨_, rfl⟩
  have ekm1 : km1.toInt = (-1) := by rw [qkm1]; rfl
  obtain ⟨k0, qk0⟩ : ∃ z : Int32, z = 0 := ⟨_, rfl⟩
  have ek0 : k0.toInt = 0 := by rw [qk0]; rfl
  obtain ⟨k1, qk1⟩ : ∃ z : Int32, z = 1 := ⟨_, rfl⟩
  have ek1 : k1.toInt = 1 := by rw [qk1]; rfl
  obtain ⟨k84, qk84⟩ : ∃ z : Int32, z = 84 := ⟨_, rfl⟩
  have ek84 : k84.toInt = 84 := by rw [qk84]; rfl
  have rg2 := n_rng a2
  refine r_aload_n C (j := 1) (oDec_at oX11_agrees 0 rfl) rfl rfl ?_
  refine r_iload_n C (j := 2) (oDec_at oX11_agrees 1 rfl) rfl rfl ?_
  refine r_callSi C miX11_canBe mlX11_214 (ct_X11_canBe l E (s) c1 hk1 a2 ) (by decide) rfl rfl rfl (Nat.le_of_ble_eq_true rfl) (oDec_at oX11_agrees 2 rfl) (fun r2 u1 pu1 fu1 => ?_)
  try dsimp only at pu1
  have rr2 := n_rng r2
  refine r_if_ne C 10 (oDec_at oX11_agrees 3 rfl) (by decide) (fun cd3 => ?_) (fun cd3 => ?_)
  · skip
    refine r_aload_n C (j := 0) (oDec_at oX11_agrees 6 rfl) rfl rfl ?_
    refine r_getF (k := 8) (b := 35) C oCl11 rfl (by decide) flX11_60 rfl rfl rfl (oDec_at oX11_agrees 7 rfl) ?_
    refine r_aload_n C (j := 1) (oDec_at oX11_agrees 8 rfl) rfl rfl ?_
    refine r_aload_n C (j := 0) (oDec_at oX11_agrees 9 rfl) rfl rfl ?_
    refine r_getS (k := 4) (q2 := 0) C oCl11 rfl (by decide) flX11_32 rfl rfl rfl ks1 (oDec_at oX11_agrees 10 rfl) (fun b4 rb4 mb4 hkb4 => ?_)
    obtain ⟨v5, ev5⟩ : ∃ z : Int32, (u1).1 b4 6 = z := ⟨_, rfl⟩
    have gv5 : (s.1 b4 6).toInt = v5.toInt := congrArg Int32.toInt (((fu1 b4 6 (by rw [hkb4]; rfl)).1).symm.trans ev5)
    refine r_getiN (k := 6) (lo := 2) (hi := 12) C v5 oCl0 hkb4 (by decide) flX11_156 rfl rfl (ev5) rfl rfl (oDec_at oX11_agrees 11 rfl) (fun b6 b6h => ?_)
    refine r_pc C 22 rfl ?_
    refine r_bipush C (oDec_at oX11_agrees 12 rfl) (v := k84) (by rw [qk84]; rfl) ?_
    refine r_iload_n C (j := 2) (oDec_at oX11_agrees 13 rfl) rfl rfl ?_
    refine r_callVv C oCl1 rfl miX1_hear mlX11_389 (ct_X1_hear l E (u1) c1 hk1 v5 k84 a2 ) (by decide) rfl rfl rfl (Nat.le_of_ble_eq_true rfl) (oDec_at oX11_agrees 14 rfl) (fun u7 pu7 fu7 => ?_)
    try dsimp only at pu7
    refine r_aload_n C (j := 0) (oDec_at oX11_agrees 15 rfl) rfl rfl ?_
    refine r_getF (k := 7) (b := 31) C oCl11 rfl (by decide) flX11_53 rfl rfl rfl (oDec_at oX11_agrees 16 rfl) ?_
    refine r_aload_n C (j := 0) (oDec_at oX11_agrees 17 rfl) rfl rfl ?_
    refine r_pc C 33 rfl ?_
    refine r_getF (k := 8) (b := 35) C oCl11 rfl (by decide) flX11_60 rfl rfl rfl (oDec_at oX11_agrees 18 rfl) ?_
    refine r_iconst C (oDec_at oX11_agrees 19 rfl) (v := k0) (by rw [qk0]; rfl) ?_
    refine r_callVi C oCl2 rfl miX2_nextBroken mlX11_232 (ct_X2_nextBroken l E (u7) k0 ) (by decide) rfl rfl rfl (Nat.le_of_ble_eq_true rfl) (oDec_at oX11_agrees 20 rfl) (fun r10 u9 pu9 fu9 => ?_)
    try dsimp only at pu9
    have rr10 := n_rng r10
    refine r_iconst C (oDec_at oX11_agrees 21 rfl) (v := km1) (by rw [qkm1]; rfl) ?_
    refine r_icmp_ne C 48 (oDec_at oX11_agrees 22 rfl) (by decide) (fun cd11 => ?_) (fun cd11 => ?_)
    · skip
      refine r_iconst C (oDec_at oX11_agrees 25 rfl) (v := k0) (by rw [qk0]; rfl) ?_
      exact r_zret C (n_bool (by omega)) (oDec_at oX11_agrees 26 rfl) ⟨_, rfl, by omega⟩
    · skip
      refine r_iconst C (oDec_at oX11_agrees 23 rfl) (v := k1) (by rw [qk1]; rfl) ?_
      refine r_goto C (tgt := 49) (oDec_at oX11_agrees 24 rfl) (by decide) ?_
      exact r_zret C (n_bool (by omega)) (oDec_at oX11_agrees 26 rfl) ⟨_, rfl, by omega⟩
  · skip
    refine r_iconst C (oDec_at oX11_agrees 4 rfl) (v := k0) (by rw [qk0]; rfl) ?_
    exact r_zret C (n_bool (by omega)) (oDec_at oX11_agrees 5 rfl) ⟨_, rfl, by omega⟩
set_option maxHeartbeats 4000000 in
set_option maxRecDepth 100000 in
theorem ct_X11_madeInSpare (l : Launch) (E : oE) (s : oS) (a1 : Int32) (a2 : Int32) (a3 : Int32)  : oMet l 7 yX11_madeInSpare cX11_madeInSpare 6 (some .boolean) [(1, 6), (1, 7), (1, 8), (4, 4), (4, 5), (4, 6), (4, 7), (9, 0), (9, 1), (9, 2), (9, 3), (9, 4), (16, 9999), (17, 9999), (18, 9999), (19, 9999), (24, 9999), (25, 9999), (26, 9999), (27, 9999), (28, 9999), (29, 9999), (30, 9999), (31, 9999)] E s [.ref (oad E 0), .int a1, .int a2, .int a3] (oPi (fun r u => (0 ≤ r.toInt ∧ r.toInt ≤ 1))) := by
  refine oMet.of (lv := [(0, .ref (oad E 0)), (1, .int a1), (2, .int a2), (3, .int a3)]) (by decide +kernel) (Nat.le_of_ble_eq_true rfl) rfl (fun J C hT => ?_)
  have C : oC l 7 cX11_madeInSpare RX11 6 (some .boolean) [(1, 6), (1, 7), (1, 8), (4, 4), (4, 5), (4, 6), (4, 7), (9, 0), (9, 1), (9, 2), (9, 3), (9, 4), (16, 9999), (17, 9999), (18, 9999), (19, 9999), (24, 9999), (25, 9999), (26, 9999), (27, 9999), (28, 9999), (29, 9999), (30, 9999), (31, 9999)] E s (oPi (fun r u => (0 ≤ r.toInt ∧ r.toInt ≤ 1))) J := C
  obtain ⟨k0, qk0⟩ : ∃ z : Int32, z = 0 := ⟨_, rfl⟩
  have ek0 : k0.toInt = 0 := by rw [qk0]; rfl
  obtain ⟨k1, qk1⟩ : ∃ z : Int32, z = 1 := ⟨_, rfl⟩
  have ek1 : k1.toInt = 1 := by rw [qk1]; rfl
  obtain ⟨k20000, qk20000⟩ : ∃ z : Int32, z = 20000 := ⟨_, rfl⟩
  have ek20000 : k20000.toInt = 20000 := by rw [qk20000]; rfl
  have rg1 := n_rng a1
  have rg2 := n_rng a2
  have rg3 := n_rng a3
  have key : ∀ n : Nat, (∀ (t : oS) (x4 : Int32) (x5 : Int32), (0 ≤ x5.toInt ∧ x5.toInt ≤ 20000) → 20001 - x5.toInt ≤ (n : Int) → J t 14 [(0, .ref (oad E 0)), (1, .int a1), (3, .int a3), (4, .int x4), (5, .int x5)] []) := by
    intro n
    induction n using Nat.strongRecOn with
    | _ n ih =>
      skip
      · intro t x4 x5  iv0 hmu
        have rx4 := n_rng x4
        have rx5 := n_rng x5
        refine r_iload C (j := 3) (oDec_at oX11_madeInSpare 8 rfl) rfl ?_
        refine r_if_eq C 57 (oDec_at oX11_madeInSpare 9 rfl) (by decide) (fun cd1 => ?_) (fun cd1 => ?_)
        · skip
          refine r_iconst C (oDec_at oX11_madeInSpare 28 rfl) (v := k0) (by rw [qk0]; rfl) ?_
          exact r_zret C (n_bool (by omega)) (oDec_at oX11_madeInSpare 29 rfl) ⟨_, rfl, by omega⟩
        · skip
          refine r_iload C (j := 4) (oDec_at oX11_madeInSpare 10 rfl) rfl ?_
          refine r_sipush C (oDec_at oX11_madeInSpare 11 rfl) (v := k20000) (by rw [qk20000]; rfl) ?_
          refine r_icmp_ge C 57 (oDec_at oX11_madeInSpare 12 rfl) (by decide) (fun cd2 => ?_) (fun cd2 => ?_)
          · skip
            refine r_iconst C (oDec_at oX11_madeInSpare 28 rfl) (v := k0) (by rw [qk0]; rfl) ?_
            exact r_zret C (n_bool (by omega)) (oDec_at oX11_madeInSpare 29 rfl) ⟨_, rfl, by omega⟩
          · skip
            refine r_aload_n C (j := 0) (oDec_at oX11_madeInSpare 13 rfl) rfl rfl ?_
            refine r_aload_n C (j := 0) (oDec_at oX11_madeInSpare 14 rfl) rfl rfl ?_
            refine r_getS (k := 2) (q2 := 4) C oCl11 rfl (by decide) flX11_23 rfl rfl rfl ks0 (oDec_at oX11_madeInSpare 15 rfl) (fun b3 rb3 mb3 hkb3 => ?_)
            refine r_iload_n C (j := 1) (oDec_at oX11_madeInSpare 16 rfl) rfl rfl ?_
            refine r_callVi C oCl11 rfl miX11_agrees mlX11_393 (ct_X11_agrees l E (t) b3 hkb3 a1 ) (by decide) rfl rfl rfl (Nat.le_of_ble_eq_true rfl) (oDec_at oX11_madeInSpare 17 rfl) (fun r5 u4 pu4 fu4 => ?_)
            try dsimp only at pu4
            have rr5 := n_rng r5
            refine r_if_eq C 41 (oDec_at oX11_madeInSpare 18 rfl) (by decide) (fun cd6 => ?_) (fun cd6 => ?_)
            · skip
              refine r_aload_n C (j := 0) (oDec_at oX11_madeInSpare 21 rfl) rfl rfl ?_
              refine r_getK (k := 2) (b := b3) C oCl11 rfl (by decide) flX11_23 rfl rfl (((fu4 0 2 rfl).2.2).trans (rb3)) (oDec_at oX11_madeInSpare 22 rfl) ?_
              refine r_iload_n C (j := 2) (oDec_at oX11_madeInSpare 23 rfl) rfl rfl ?_
              refine r_callVi C oCl4 hkb3 miX4_advanceMade mlX11_327 (ct_X4_advanceMade l E (u4) b3 hkb3 a3 ) (by decide) rfl rfl rfl (Nat.le_of_ble_eq_true rfl) (oDec_at oX11_madeInSpare 24 rfl) (fun r9 u8 pu8 fu8 => ?_)
              try dsimp only at pu8
              have rr9 := n_rng r9
              refine r_istore C (lv' := [(0, .ref (oad E 0)), (1, .int a1), (3, .int a3), (4, .int r9), (5, .int x5)]) [1, 2, 3, 0, 4] (oDec_at oX11_madeInSpare 25 rfl) (by decide) rfl ?_
              obtain ⟨v10, ev10⟩ : ∃ z : Int32, x5 + Int32.ofInt 1 = z := ⟨_, rfl⟩
              have hv10 : v10.toInt = x5.toInt + 1 := n_inc ev10 (by decide) (by omega) (by omega)
              refine r_iinc C (j := 4) (lv' := [(0, .ref (oad E 0)), (1, .int a1), (3, .int a3), (4, .int r9), (5, .int v10)]) v10 [1, 2, 3, 4, 0] (oDec_at oX11_madeInSpare 26 rfl) rfl ev10 (by decide) rfl ?_
              refine r_goto C (tgt := 14) (oDec_at oX11_madeInSpare 27 rfl) (by decide) ?_
              exact (ih (n - 1) (by omega)) (u8) r9 v10  (by omega) (by omega)
            · skip
              refine r_iconst C (oDec_at oX11_madeInSpare 19 rfl) (v := k1) (by rw [qk1]; rfl) ?_
              exact r_zret C (n_bool (by omega)) (oDec_at oX11_madeInSpare 20 rfl) ⟨_, rfl, by omega⟩
  refine r_aload_n C (j := 0) (oDec_at oX11_madeInSpare 0 rfl) rfl rfl ?_
  refine r_getS (k := 2) (q2 := 4) C oCl11 rfl (by decide) flX11_23 rfl rfl rfl ks0 (oDec_at oX11_madeInSpare 1 rfl) (fun b11 rb11 mb11 hkb11 => ?_)
  refine r_iload_n C (j := 2) (oDec_at oX11_madeInSpare 2 rfl) rfl rfl ?_
  refine r_iload_n C (j := 3) (oDec_at oX11_madeInSpare 3 rfl) rfl rfl ?_
  refine r_callVi C oCl4 hkb11 miX4_beginMade mlX11_316 (ct_X4_beginMade l E (s) b11 hkb11 a2 a3 ) (by decide) rfl rfl rfl (Nat.le_of_ble_eq_true rfl) (oDec_at oX11_madeInSpare 4 rfl) (fun r13 u12 pu12 fu12 => ?_)
  try dsimp only at pu12
  have rr13 := n_rng r13
  refine r_istore C (lv' := [(0, .ref (oad E 0)), (1, .int a1), (2, .int a2), (3, .int a3), (4, .int r13)]) [1, 2, 3, 4, 0] (oDec_at oX11_madeInSpare 5 rfl) (by decide) rfl ?_
  refine r_pc C 11 rfl ?_
  refine r_iconst C (oDec_at oX11_madeInSpare 6 rfl) (v := k0) (by rw [qk0]; rfl) ?_
  refine r_istore C (lv' := [(0, .ref (oad E 0)), (1, .int a1), (2, .int a2), (3, .int a3), (4, .int r13), (5, .int k0)]) [1, 2, 3, 4, 5, 0] (oDec_at oX11_madeInSpare 7 rfl) (by decide) rfl ?_
  refine r_pick C [0, 1, 3, 4, 5] rfl ?_
  exact (key (20001 - k0.toInt).toNat) (u12) r13 k0  (by omega) (by omega)
set_option maxHeartbeats 4000000 in
set_option maxRecDepth 100000 in
theorem ct_X11_keepWrong (l : Launch) (E : oE) (s : oS) (a1 : Int32)  : oMet l 1 yX11_keepWrong cX11_keepWrong 2 none [(11, 16), (14, 9999)] E s [.ref (oad E 0), .int a1] (oPv (fun u => True)) := by
  refine oMet.of (lv := [(0, .ref (oad E 0)), (1, .int a1)]) (by decide +kernel) (Nat.le_of_ble_eq_true rfl) rfl (fun J C hT => ?_)
  have C : oC l 1 cX11_keepWrong RX11 2 none [(11, 16), (14, 9999)] E s (oPv (fun u => True)) J := C
  obtain ⟨k1, qk1⟩ : ∃ z : Int32, z = 1 := ⟨_, rfl⟩
  have ek1 : k1.toInt = 1 := by rw [qk1]; rfl
  have rg1 := n_rng a1
  refine r_aload_n C (j := 0) (oDec_at oX11_keepWrong 0 rfl) rfl rfl ?_
  obtain ⟨v1, ev1⟩ : ∃ z : Int32, (s).1 0 16 = z := ⟨_, rfl⟩
  have gv1 : (s.1 0 16).toInt = v1.toInt := congrArg Int32.toInt (ev1)
  refine r_geti (k := 16) (lo := 0) (hi := 672) C v1 oCl11 rfl (by decide) flX11_333 rfl rfl (ev1) rfl rfl (oDec_at oX11_keepWrong 1 rfl) (fun b2 b2h => ?_)
  refine r_aload_n C (j := 0) (oDec_at oX11_keepWrong 2 rfl) rfl rfl ?_
  refine r_getF (k := 15) (b := 70) C oCl11 rfl (by decide) flX11_96 rfl rfl rfl (oDec_at oX11_keepWrong 3 rfl) ?_
  obtain ⟨v3, ev3⟩ : ∃ z : Int32, Int32.ofNat 672 = z := ⟨_, rfl⟩
  have hv3 : v3.toInt = 672 := by rw [← ev3]; rfl
  refine r_alen0 (n := 672) C v3 rfl (by decide) rfl rfl (by decide) ev3 (oDec_at oX11_keepWrong 4 rfl) ?_
  refine r_icmp_ge C 32 (oDec_at oX11_keepWrong 5 rfl) (by decide) (fun cd4 => ?_) (fun cd4 => ?_)
  · skip
    exact r_vret C (oDec_at oX11_keepWrong 18 rfl) ⟨rfl, trivial⟩
  · skip
    refine r_aload_n C (j := 0) (oDec_at oX11_keepWrong 6 rfl) rfl rfl ?_
    refine r_getF (k := 15) (b := 70) C oCl11 rfl (by decide) flX11_96 rfl rfl rfl (oDec_at oX11_keepWrong 7 rfl) ?_
    refine r_aload_n C (j := 0) (oDec_at oX11_keepWrong 8 rfl) rfl rfl ?_
    refine r_geti (k := 16) (lo := 0) (hi := 672) C v1 oCl11 rfl (by decide) flX11_333 rfl rfl (ev1) rfl rfl (oDec_at oX11_keepWrong 9 rfl) (fun _ _ => ?_)
    refine r_iload_n C (j := 1) (oDec_at oX11_keepWrong 10 rfl) rfl rfl ?_
    refine r_iast (n := 672) (lo := (-2147483648)) (hi := 2147483647) C rfl (by decide) rfl rfl ⟨by omega, by omega⟩ (by decide) rfl rfl rfl rfl (n_rng _) (oDec_at oX11_keepWrong 11 rfl) ?_
    refine r_pc C 22 rfl ?_
    refine r_aload_n C (j := 0) (oDec_at oX11_keepWrong 12 rfl) rfl rfl ?_
    refine r_dup C (oDec_at oX11_keepWrong 13 rfl) rfl ?_
    refine r_geti (k := 16) (lo := 0) (hi := 672) C v1 oCl11 rfl (by decide) flX11_333 rfl rfl (((pI_ne (a := 0) (b := 16) (c := 70) _ _ (Or.inl (by decide)))).trans (ev1)) rfl rfl (oDec_at oX11_keepWrong 14 rfl) (fun _ _ => ?_)
    refine r_iconst C (oDec_at oX11_keepWrong 15 rfl) (v := k1) (by rw [qk1]; rfl) ?_
    obtain ⟨v5, ev5⟩ : ∃ z : Int32, z = v1 + k1 := ⟨_, rfl⟩
    have hv5 : v5.toInt = v1.toInt + k1.toInt := n_add ev5 (by omega) (by omega)
    refine r_iadd C v5 (oDec_at oX11_keepWrong 16 rfl) ev5 ?_
    refine r_puti (k := 16) (lo := 0) (hi := 672) C oCl11 rfl (by decide) flX11_333 rfl rfl rfl rfl rfl rfl rfl rfl ⟨by omega, by omega⟩ (oDec_at oX11_keepWrong 17 rfl) ?_
    refine r_pc C 32 rfl ?_
    exact r_vret C (oDec_at oX11_keepWrong 18 rfl) ⟨rfl, trivial⟩
set_option maxHeartbeats 4000000 in
set_option maxRecDepth 100000 in
theorem ct_X11_seekWrongs (l : Launch) (E : oE) (s : oS) (a1 : Int32)  : oMet l 7 yX11_seekWrongs cX11_seekWrongs 5 (some .boolean) [(1, 6), (1, 7), (1, 8), (4, 4), (4, 5), (4, 6), (4, 7), (9, 0), (9, 1), (9, 2), (9, 3), (9, 4), (11, 16), (11, 17), (14, 9999), (16, 9999), (17, 9999), (18, 9999), (19, 9999), (24, 9999), (25, 9999), (26, 9999), (27, 9999), (28, 9999), (29, 9999), (30, 9999), (31, 9999)] E s [.ref (oad E 0), .int a1] (oPi (fun r u => (0 ≤ r.toInt ∧ r.toInt ≤ 1))) := by
  refine oMet.of (lv := [(0, .ref (oad E 0)), (1, .int a1)]) (by decide +kernel) (Nat.le_of_ble_eq_true rfl) rfl (fun J C hT => ?_)
  have C : oC l 7 cX11_seekWrongs RX11 5 (some .boolean) [(1, 6), (1, 7), (1, 8), (4, 4), (4, 5), (4, 6), (4, 7), (9, 0), (9, 1), (9, 2), (9, 3), (9, 4), (11, 16), (11, 17), (14, 9999), (16, 9999), (17, 9999), (18, 9999), (19, 9999), (24, 9999), (25, 9999), (26, 9999), (27, 9999), (28, 9999), (29, 9999), (30, 9999), (31, 9999)] E s (oPi (fun r u => (0 ≤ r.toInt ∧ r.toInt ≤ 1))) J := C
  obtain ⟨km1, qkm1⟩ : ∃ z : Int32, z = (-1) := ⟨_, rfl⟩
  have ekm1 : km1.toInt = (-1) := by rw [qkm1]; rfl
  obtain ⟨k0, qk0⟩ : ∃ z : Int32, z = 0 := ⟨_, rfl⟩
  have ek0 : k0.toInt = 0 := by rw [qk0]; rfl
  obtain ⟨k1, qk1⟩ : ∃ z : Int32, z = 1 := ⟨_, rfl⟩
  have ek1 : k1.toInt = 1 := by rw [qk1]; rfl
  obtain ⟨k28, qk28⟩ : ∃ z : Int32, z = 28 := ⟨_, rfl⟩
  have ek28 : k28.toInt = 28 := by rw [qk28]; rfl
  obtain ⟨k100, qk100⟩ : ∃ z : Int32, z = 100 := ⟨_, rfl⟩
  have ek100 : k100.toInt = 100 := by rw [qk100]; rfl
  have rg1 := n_rng a1
  have key : ∀ n : Nat, (∀ (t : oS) (x2 : Int32), (0 ≤ x2.toInt ∧ x2.toInt ≤ 24) → 100 * (25 - x2.toInt) ≤ (n : Int) → J t 62 [(0, .ref (oad E 0)), (1, .int a1), (2, .int x2)] []) ∧ (∀ (t : oS) (x2 : Int32) (x3 : Int32) (x4 : Int32), (0 ≤ x2.toInt ∧ x2.toInt ≤ 23) → (0 ≤ x4.toInt ∧ x4.toInt ≤ 29) → 100 * (25 - x2.toInt) - 10 - x4.toInt ≤ (n : Int) → J t 85 [(0, .ref (oad E 0)), (1, .int a1), (2, .int x2), (3, .int x3), (4, .int x4)] []) := by
    intro n
    induction n using Nat.strongRecOn with
    | _ n ih =>
      refine ⟨?_, ?_⟩
      · intro t x2  iv0 hmu
        have rx2 := n_rng x2
        refine r_iload_n C (j := 2) (oDec_at oX11_seekWrongs 34 rfl) rfl rfl ?_
        refine r_aload_n C (j := 0) (oDec_at oX11_seekWrongs 35 rfl) rfl rfl ?_
        refine r_getS (k := 1) (q2 := 4) C oCl11 rfl (by decide) flX11_19 rfl rfl rfl ks0 (oDec_at oX11_seekWrongs 36 rfl) (fun b1 rb1 mb1 hkb1 => ?_)
        obtain ⟨v2, ev2⟩ : ∃ z : Int32, (t).1 b1 4 = z := ⟨_, rfl⟩
        have gv2 : (t.1 b1 4).toInt = v2.toInt := congrArg Int32.toInt (ev2)
        refine r_getiN (k := 4) (lo := 0) (hi := 24) C v2 oCl4 hkb1 (by decide) flX11_140 rfl rfl (ev2) rfl rfl (oDec_at oX11_seekWrongs 37 rfl) (fun b3 b3h => ?_)
        refine r_icmp_ge C 157 (oDec_at oX11_seekWrongs 38 rfl) (by decide) (fun cd4 => ?_) (fun cd4 => ?_)
        · skip
          refine r_aload_n C (j := 0) (oDec_at oX11_seekWrongs 82 rfl) rfl rfl ?_
          refine r_iload_n C (j := 1) (oDec_at oX11_seekWrongs 83 rfl) rfl rfl ?_
          refine r_puti (k := 17) (lo := (-2147483648)) (hi := 2147483647) C oCl11 rfl (by decide) flX11_99 rfl rfl rfl rfl rfl rfl rfl rfl (n_rng _) (oDec_at oX11_seekWrongs 84 rfl) ?_
          refine r_iconst C (oDec_at oX11_seekWrongs 85 rfl) (v := k1) (by rw [qk1]; rfl) ?_
          exact r_zret C (n_bool (by omega)) (oDec_at oX11_seekWrongs 86 rfl) ⟨_, rfl, by omega⟩
        · skip
          refine r_aload_n C (j := 0) (oDec_at oX11_seekWrongs 39 rfl) rfl rfl ?_
          refine r_getK (k := 1) (b := b1) C oCl11 rfl (by decide) flX11_19 rfl rfl (rb1) (oDec_at oX11_seekWrongs 40 rfl) ?_
          refine r_iload_n C (j := 2) (oDec_at oX11_seekWrongs 41 rfl) rfl rfl ?_
          refine r_callVi C oCl4 hkb1 miX4_stepOf mlX11_175 (ct_X4_stepOf l E (t) b1 hkb1 x2 ) (by decide) rfl rfl rfl (Nat.le_of_ble_eq_true rfl) (oDec_at oX11_seekWrongs 42 rfl) (fun r7 u6 pu6 fu6 => ?_)
          try dsimp only at pu6
          have rr7 := n_rng r7
          refine r_istore_n C (lv' := [(0, .ref (oad E 0)), (1, .int a1), (2, .int x2), (3, .int r7)]) [1, 2, 3, 0] (oDec_at oX11_seekWrongs 43 rfl) rfl (by decide) rfl ?_
          refine r_iconst C (oDec_at oX11_seekWrongs 44 rfl) (v := k0) (by rw [qk0]; rfl) ?_
          refine r_istore C (lv' := [(0, .ref (oad E 0)), (1, .int a1), (2, .int x2), (3, .int r7), (4, .int k0)]) [1, 2, 3, 4, 0] (oDec_at oX11_seekWrongs 45 rfl) (by decide) rfl ?_
          exact (ih (n - 1) (by omega)).2 (u6) x2 r7 k0  (by omega) (by omega) (by omega)
      · intro t x2 x3 x4  iv0 iv1 hmu
        have rx2 := n_rng x2
        have rx3 := n_rng x3
        have rx4 := n_rng x4
        refine r_iload C (j := 4) (oDec_at oX11_seekWrongs 46 rfl) rfl ?_
        refine r_bipush C (oDec_at oX11_seekWrongs 47 rfl) (v := k28) (by rw [qk28]; rfl) ?_
        refine r_icmp_gt C 142 (oDec_at oX11_seekWrongs 48 rfl) (by decide) (fun cd8 => ?_) (fun cd8 => ?_)
        · skip
          refine r_aload_n C (j := 0) (oDec_at oX11_seekWrongs 75 rfl) rfl rfl ?_
          refine r_getS (k := 2) (q2 := 4) C oCl11 rfl (by decide) flX11_23 rfl rfl rfl ks0 (oDec_at oX11_seekWrongs 76 rfl) (fun b9 rb9 mb9 hkb9 => ?_)
          refine r_iload_n C (j := 2) (oDec_at oX11_seekWrongs 77 rfl) rfl rfl ?_
          refine r_iload_n C (j := 3) (oDec_at oX11_seekWrongs 78 rfl) rfl rfl ?_
          refine r_callVv C oCl4 hkb9 miX4_setStep mlX11_336 (ct_X4_setStep l E (t) b9 hkb9 x2 x3 ) (by decide) rfl rfl rfl (Nat.le_of_ble_eq_true rfl) (oDec_at oX11_seekWrongs 79 rfl) (fun u10 pu10 fu10 => ?_)
          try dsimp only at pu10
          obtain ⟨v12, ev12⟩ : ∃ z : Int32, x2 + Int32.ofInt 1 = z := ⟨_, rfl⟩
          have hv12 : v12.toInt = x2.toInt + 1 := n_inc ev12 (by decide) (by omega) (by omega)
          refine r_iinc C (j := 2) (lv' := [(0, .ref (oad E 0)), (1, .int a1), (2, .int v12), (3, .int x3), (4, .int x4)]) v12 [1, 2, 0, 3, 4] (oDec_at oX11_seekWrongs 80 rfl) rfl ev12 (by decide) rfl ?_
          refine r_pc C 154 rfl ?_
          refine r_goto C (tgt := 62) (oDec_at oX11_seekWrongs 81 rfl) (by decide) ?_
          refine r_pick C [0, 1, 2] rfl ?_
          exact (ih (n - 1) (by omega)).1 (u10) v12  (by omega) (by omega)
        · skip
          refine r_iload_n C (j := 3) (oDec_at oX11_seekWrongs 49 rfl) rfl rfl ?_
          refine r_iconst C (oDec_at oX11_seekWrongs 50 rfl) (v := km1) (by rw [qkm1]; rfl) ?_
          refine r_icmp_eq C 142 (oDec_at oX11_seekWrongs 51 rfl) (by decide) (fun cd13 => ?_) (fun cd13 => ?_)
          · skip
            refine r_aload_n C (j := 0) (oDec_at oX11_seekWrongs 75 rfl) rfl rfl ?_
            refine r_getS (k := 2) (q2 := 4) C oCl11 rfl (by decide) flX11_23 rfl rfl rfl ks0 (oDec_at oX11_seekWrongs 76 rfl) (fun b14 rb14 mb14 hkb14 => ?_)
            refine r_iload_n C (j := 2) (oDec_at oX11_seekWrongs 77 rfl) rfl rfl ?_
            refine r_iload_n C (j := 3) (oDec_at oX11_seekWrongs 78 rfl) rfl rfl ?_
            refine r_callVv C oCl4 hkb14 miX4_setStep mlX11_336 (ct_X4_setStep l E (t) b14 hkb14 x2 x3 ) (by decide) rfl rfl rfl (Nat.le_of_ble_eq_true rfl) (oDec_at oX11_seekWrongs 79 rfl) (fun u15 pu15 fu15 => ?_)
            try dsimp only at pu15
            obtain ⟨v17, ev17⟩ : ∃ z : Int32, x2 + Int32.ofInt 1 = z := ⟨_, rfl⟩
            have hv17 : v17.toInt = x2.toInt + 1 := n_inc ev17 (by decide) (by omega) (by omega)
            refine r_iinc C (j := 2) (lv' := [(0, .ref (oad E 0)), (1, .int a1), (2, .int v17), (3, .int x3), (4, .int x4)]) v17 [1, 2, 0, 3, 4] (oDec_at oX11_seekWrongs 80 rfl) rfl ev17 (by decide) rfl ?_
            refine r_pc C 154 rfl ?_
            refine r_goto C (tgt := 62) (oDec_at oX11_seekWrongs 81 rfl) (by decide) ?_
            refine r_pick C [0, 1, 2] rfl ?_
            exact (ih (n - 1) (by omega)).1 (u15) v17  (by omega) (by omega)
          · skip
            refine r_aload_n C (j := 0) (oDec_at oX11_seekWrongs 52 rfl) rfl rfl ?_
            refine r_getS (k := 2) (q2 := 4) C oCl11 rfl (by decide) flX11_23 rfl rfl rfl ks0 (oDec_at oX11_seekWrongs 53 rfl) (fun b18 rb18 mb18 hkb18 => ?_)
            refine r_iload_n C (j := 2) (oDec_at oX11_seekWrongs 54 rfl) rfl rfl ?_
            refine r_iload C (j := 4) (oDec_at oX11_seekWrongs 55 rfl) rfl ?_
            refine r_callVv C oCl4 hkb18 miX4_setStep mlX11_336 (ct_X4_setStep l E (t) b18 hkb18 x2 x4 ) (by decide) rfl rfl rfl (Nat.le_of_ble_eq_true rfl) (oDec_at oX11_seekWrongs 56 rfl) (fun u19 pu19 fu19 => ?_)
            try dsimp only at pu19
            refine r_iload C (j := 4) (oDec_at oX11_seekWrongs 57 rfl) rfl ?_
            refine r_pc C 109 rfl ?_
            refine r_iload_n C (j := 3) (oDec_at oX11_seekWrongs 58 rfl) rfl rfl ?_
            refine r_icmp_eq C 136 (oDec_at oX11_seekWrongs 59 rfl) (by decide) (fun cd21 => ?_) (fun cd21 => ?_)
            · skip
              obtain ⟨v22, ev22⟩ : ∃ z : Int32, x4 + Int32.ofInt 1 = z := ⟨_, rfl⟩
              have hv22 : v22.toInt = x4.toInt + 1 := n_inc ev22 (by decide) (by omega) (by omega)
              refine r_iinc C (j := 4) (lv' := [(0, .ref (oad E 0)), (1, .int a1), (2, .int x2), (3, .int x3), (4, .int v22)]) v22 [1, 2, 3, 4, 0] (oDec_at oX11_seekWrongs 73 rfl) rfl ev22 (by decide) rfl ?_
              refine r_goto C (tgt := 85) (oDec_at oX11_seekWrongs 74 rfl) (by decide) ?_
              exact (ih (n - 1) (by omega)).2 (u19) x2 x3 v22  (by omega) (by omega) (by omega)
            · skip
              refine r_aload_n C (j := 0) (oDec_at oX11_seekWrongs 60 rfl) rfl rfl ?_
              refine r_aload_n C (j := 0) (oDec_at oX11_seekWrongs 61 rfl) rfl rfl ?_
              refine r_getK (k := 2) (b := b18) C oCl11 rfl (by decide) flX11_23 rfl rfl (((fu19 0 2 rfl).2.2).trans (rb18)) (oDec_at oX11_seekWrongs 62 rfl) ?_
              refine r_iload_n C (j := 1) (oDec_at oX11_seekWrongs 63 rfl) rfl rfl ?_
              refine r_callVi C oCl11 rfl miX11_agrees mlX11_393 (ct_X11_agrees l E (u19) b18 hkb18 a1 ) (by decide) rfl rfl rfl (Nat.le_of_ble_eq_true rfl) (oDec_at oX11_seekWrongs 64 rfl) (fun r25 u24 pu24 fu24 => ?_)
              try dsimp only at pu24
              have rr25 := n_rng r25
              refine r_if_eq C 136 (oDec_at oX11_seekWrongs 65 rfl) (by decide) (fun cd26 => ?_) (fun cd26 => ?_)
              · skip
                obtain ⟨v27, ev27⟩ : ∃ z : Int32, x4 + Int32.ofInt 1 = z := ⟨_, rfl⟩
                have hv27 : v27.toInt = x4.toInt + 1 := n_inc ev27 (by decide) (by omega) (by omega)
                refine r_iinc C (j := 4) (lv' := [(0, .ref (oad E 0)), (1, .int a1), (2, .int x2), (3, .int x3), (4, .int v27)]) v27 [1, 2, 3, 4, 0] (oDec_at oX11_seekWrongs 73 rfl) rfl ev27 (by decide) rfl ?_
                refine r_goto C (tgt := 85) (oDec_at oX11_seekWrongs 74 rfl) (by decide) ?_
                exact (ih (n - 1) (by omega)).2 (u24) x2 x3 v27  (by omega) (by omega) (by omega)
              · skip
                refine r_aload_n C (j := 0) (oDec_at oX11_seekWrongs 66 rfl) rfl rfl ?_
                refine r_bipush C (oDec_at oX11_seekWrongs 67 rfl) (v := k100) (by rw [qk100]; rfl) ?_
                refine r_iload_n C (j := 2) (oDec_at oX11_seekWrongs 68 rfl) rfl rfl ?_
                obtain ⟨v28, ev28⟩ : ∃ z : Int32, z = k100 * x2 := ⟨_, rfl⟩
                have hv28 : v28.toInt = 100 * x2.toInt := n_mulK' 100 ev28 ek100 (by omega) (by omega)
                refine r_imul C v28 (oDec_at oX11_seekWrongs 69 rfl) ev28 ?_
                refine r_iload C (j := 4) (oDec_at oX11_seekWrongs 70 rfl) rfl ?_
                obtain ⟨v29, ev29⟩ : ∃ z : Int32, z = v28 + x4 := ⟨_, rfl⟩
                have hv29 : v29.toInt = v28.toInt + x4.toInt := n_add ev29 (by omega) (by omega)
                refine r_iadd C v29 (oDec_at oX11_seekWrongs 71 rfl) ev29 ?_
                refine r_pc C 133 rfl ?_
                refine r_callVv C oCl11 rfl miX11_keepWrong mlX11_396 (ct_X11_keepWrong l E (u24) v29 ) (by decide) rfl rfl rfl (Nat.le_of_ble_eq_true rfl) (oDec_at oX11_seekWrongs 72 rfl) (fun u30 pu30 fu30 => ?_)
                try dsimp only at pu30
                obtain ⟨v32, ev32⟩ : ∃ z : Int32, x4 + Int32.ofInt 1 = z := ⟨_, rfl⟩
                have hv32 : v32.toInt = x4.toInt + 1 := n_inc ev32 (by decide) (by omega) (by omega)
                refine r_iinc C (j := 4) (lv' := [(0, .ref (oad E 0)), (1, .int a1), (2, .int x2), (3, .int x3), (4, .int v32)]) v32 [1, 2, 3, 4, 0] (oDec_at oX11_seekWrongs 73 rfl) rfl ev32 (by decide) rfl ?_
                refine r_goto C (tgt := 85) (oDec_at oX11_seekWrongs 74 rfl) (by decide) ?_
                exact (ih (n - 1) (by omega)).2 (u30) x2 x3 v32  (by omega) (by omega) (by omega)
  refine r_iload_n C (j := 1) (oDec_at oX11_seekWrongs 0 rfl) rfl rfl ?_
  refine r_callSi C miX11_follows mlX11_305 (ct_X11_follows l E (s) a1 ) (by decide) rfl rfl rfl (Nat.le_of_ble_eq_true rfl) (oDec_at oX11_seekWrongs 1 rfl) (fun r34 u33 pu33 fu33 => ?_)
  try dsimp only at pu33
  have rr34 := n_rng r34
  refine r_if_eq C 18 (oDec_at oX11_seekWrongs 2 rfl) (by decide) (fun cd35 => ?_) (fun cd35 => ?_)
  · skip
    refine r_iconst C (oDec_at oX11_seekWrongs 8 rfl) (v := k0) (by rw [qk0]; rfl) ?_
    exact r_zret C (n_bool (by omega)) (oDec_at oX11_seekWrongs 9 rfl) ⟨_, rfl, by omega⟩
  · skip
    refine r_aload_n C (j := 0) (oDec_at oX11_seekWrongs 3 rfl) rfl rfl ?_
    refine r_getS (k := 1) (q2 := 4) C oCl11 rfl (by decide) flX11_19 rfl rfl rfl ks0 (oDec_at oX11_seekWrongs 4 rfl) (fun b36 rb36 mb36 hkb36 => ?_)
    refine r_iload_n C (j := 1) (oDec_at oX11_seekWrongs 5 rfl) rfl rfl ?_
    refine r_callSi C miX11_canBe mlX11_214 (ct_X11_canBe l E (u33) b36 hkb36 a1 ) (by decide) rfl rfl rfl (Nat.le_of_ble_eq_true rfl) (oDec_at oX11_seekWrongs 6 rfl) (fun r38 u37 pu37 fu37 => ?_)
    try dsimp only at pu37
    have rr38 := n_rng r38
    refine r_if_ne C 20 (oDec_at oX11_seekWrongs 7 rfl) (by decide) (fun cd39 => ?_) (fun cd39 => ?_)
    · skip
      refine r_iload_n C (j := 1) (oDec_at oX11_seekWrongs 10 rfl) rfl rfl ?_
      refine r_aload_n C (j := 0) (oDec_at oX11_seekWrongs 11 rfl) rfl rfl ?_
      obtain ⟨v40, ev40⟩ : ∃ z : Int32, (u37).1 0 17 = z := ⟨_, rfl⟩
      have gv40 : (s.1 0 17).toInt = v40.toInt := congrArg Int32.toInt ((((fu37 0 17 rfl).1).trans ((fu33 0 17 rfl).1)).symm.trans ev40)
      have rv40 := n_rng v40
      refine r_geti (k := 17) (lo := (-2147483648)) (hi := 2147483647) C v40 oCl11 rfl (by decide) flX11_99 rfl rfl (ev40) rfl rfl (oDec_at oX11_seekWrongs 12 rfl) (fun _ _ => ?_)
      refine r_icmp_ne C 30 (oDec_at oX11_seekWrongs 13 rfl) (by decide) (fun cd41 => ?_) (fun cd41 => ?_)
      · skip
        refine r_aload_n C (j := 0) (oDec_at oX11_seekWrongs 16 rfl) rfl rfl ?_
        refine r_aload_n C (j := 0) (oDec_at oX11_seekWrongs 17 rfl) rfl rfl ?_
        refine r_getK (k := 1) (b := b36) C oCl11 rfl (by decide) flX11_19 rfl rfl (((fu37 0 1 rfl).2.2).trans (rb36)) (oDec_at oX11_seekWrongs 18 rfl) ?_
        refine r_iload_n C (j := 1) (oDec_at oX11_seekWrongs 19 rfl) rfl rfl ?_
        refine r_callVi C oCl11 rfl miX11_agrees mlX11_393 (ct_X11_agrees l E (u37) b36 hkb36 a1 ) (by decide) rfl rfl rfl (Nat.le_of_ble_eq_true rfl) (oDec_at oX11_seekWrongs 20 rfl) (fun r44 u43 pu43 fu43 => ?_)
        try dsimp only at pu43
        have rr44 := n_rng r44
        refine r_if_eq C 44 (oDec_at oX11_seekWrongs 21 rfl) (by decide) (fun cd45 => ?_) (fun cd45 => ?_)
        · skip
          refine r_aload_n C (j := 0) (oDec_at oX11_seekWrongs 24 rfl) rfl rfl ?_
          refine r_iconst C (oDec_at oX11_seekWrongs 25 rfl) (v := k0) (by rw [qk0]; rfl) ?_
          refine r_puti (k := 16) (lo := 0) (hi := 672) C oCl11 rfl (by decide) flX11_333 rfl rfl rfl rfl rfl rfl rfl rfl ⟨by omega, by omega⟩ (oDec_at oX11_seekWrongs 26 rfl) ?_
          refine r_aload_n C (j := 0) (oDec_at oX11_seekWrongs 27 rfl) rfl rfl ?_
          refine r_getS (k := 2) (q2 := 4) C oCl11 rfl (by decide) flX11_23 rfl rfl rfl ks0 (oDec_at oX11_seekWrongs 28 rfl) (fun b46 rb46 mb46 hkb46 => ?_)
          refine r_aload_n C (j := 0) (oDec_at oX11_seekWrongs 29 rfl) rfl rfl ?_
          refine r_pc C 54 rfl ?_
          refine r_getK (k := 1) (b := b36) C oCl11 rfl (by decide) flX11_19 rfl rfl ((show ((pI u43 0 16 k0)).2.2 0 1 = b36 + 1 from ((fu43 0 1 rfl).2.2).trans (((fu37 0 1 rfl).2.2).trans (rb36)))) (oDec_at oX11_seekWrongs 30 rfl) ?_
          refine r_callVv C oCl4 hkb46 miX4_copyFrom mlX11_323 (ct_X4_copyFrom l E ((pI u43 0 16 k0)) b46 hkb46 b36 hkb36 ) (by decide) rfl rfl rfl (Nat.le_of_ble_eq_true rfl) (oDec_at oX11_seekWrongs 31 rfl) (fun u48 pu48 fu48 => ?_)
          try dsimp only at pu48
          refine r_iconst C (oDec_at oX11_seekWrongs 32 rfl) (v := k0) (by rw [qk0]; rfl) ?_
          refine r_istore_n C (lv' := [(0, .ref (oad E 0)), (1, .int a1), (2, .int k0)]) [1, 2, 0] (oDec_at oX11_seekWrongs 33 rfl) rfl (by decide) rfl ?_
          exact (key (100 * (25 - k0.toInt)).toNat).1 (u48) k0  (by omega) (by omega)
        · skip
          refine r_iconst C (oDec_at oX11_seekWrongs 22 rfl) (v := k0) (by rw [qk0]; rfl) ?_
          exact r_zret C (n_bool (by omega)) (oDec_at oX11_seekWrongs 23 rfl) ⟨_, rfl, by omega⟩
      · skip
        refine r_iconst C (oDec_at oX11_seekWrongs 14 rfl) (v := k1) (by rw [qk1]; rfl) ?_
        exact r_zret C (n_bool (by omega)) (oDec_at oX11_seekWrongs 15 rfl) ⟨_, rfl, by omega⟩
    · skip
      refine r_iconst C (oDec_at oX11_seekWrongs 8 rfl) (v := k0) (by rw [qk0]; rfl) ?_
      exact r_zret C (n_bool (by omega)) (oDec_at oX11_seekWrongs 9 rfl) ⟨_, rfl, by omega⟩
set_option maxHeartbeats 4000000 in
set_option maxRecDepth 100000 in
theorem ct_X11_imageInSpare (l : Launch) (E : oE) (s : oS)   : oMet l 2 yX11_imageInSpare cX11_imageInSpare 5 (some .boolean) [(4, 4), (4, 5), (4, 6), (4, 7), (16, 9999), (17, 9999), (18, 9999), (19, 9999)] E s [.ref (oad E 0)] (oPi (fun r u => (0 ≤ r.toInt ∧ r.toInt ≤ 1))) := by
  refine oMet.of (lv := [(0, .ref (oad E 0))]) (by decide +kernel) (Nat.le_of_ble_eq_true rfl) rfl (fun J C hT => ?_)
  have C : oC l 2 cX11_imageInSpare RX11 5 (some .boolean) [(4, 4), (4, 5), (4, 6), (4, 7), (16, 9999), (17, 9999), (18, 9999), (19, 9999)] E s (oPi (fun r u => (0 ≤ r.toInt ∧ r.toInt ≤ 1))) J := C
  obtain ⟨km1, qkm1⟩ : ∃ z : Int32, z = (-1) := ⟨_, rfl⟩
  have ekm1 : km1.toInt = (-1) := by rw [qkm1]; rfl
  obtain ⟨k0, qk0⟩ : ∃ z : Int32, z = 0 := ⟨_, rfl⟩
  have ek0 : k0.toInt = 0 := by rw [qk0]; rfl
  obtain ⟨k1, qk1⟩ : ∃ z : Int32, z = 1 := ⟨_, rfl⟩
  have ek1 : k1.toInt = 1 := by rw [qk1]; rfl
  obtain ⟨k2, qk2⟩ : ∃ z : Int32, z = 2 := ⟨_, rfl⟩
  have ek2 : k2.toInt = 2 := by rw [qk2]; rfl
  obtain ⟨k23, qk23⟩ : ∃ z : Int32, z = 23 := ⟨_, rfl⟩
  have ek23 : k23.toInt = 23 := by rw [qk23]; rfl
  obtain ⟨k24, qk24⟩ : ∃ z : Int32, z = 24 := ⟨_, rfl⟩
  have ek24 : k24.toInt = 24 := by rw [qk24]; rfl
  obtain ⟨k255, qk255⟩ : ∃ z : Int32, z = 255 := ⟨_, rfl⟩
  have ek255 : k255.toInt = 255 := by rw [qk255]; rfl
  have key : ∀ n : Nat, (∀ (t : oS) (x1 : Int32) (x2 : Int32) (x3 : Int32), (0 ≤ x1.toInt ∧ x1.toInt ≤ 24) → (0 ≤ x3.toInt ∧ x3.toInt ≤ 49) → 1000 - x3.toInt ≤ (n : Int) → J t 41 [(0, .ref (oad E 0)), (1, .int x1), (2, .int x2), (3, .int x3)] []) ∧ (∀ (t : oS) (x1 : Int32) (x3 : Int32), (0 ≤ x1.toInt ∧ x1.toInt ≤ 24) → (0 ≤ x3.toInt ∧ x3.toInt ≤ 24) → 25 - x3.toInt ≤ (n : Int) → J t 94 [(0, .ref (oad E 0)), (1, .int x1), (3, .int x3)] []) := by
    intro n
    induction n using Nat.strongRecOn with
    | _ n ih =>
      refine ⟨?_, ?_⟩
      · intro t x1 x2 x3  iv0 iv1 hmu
        have rx1 := n_rng x1
        have rx2 := n_rng x2
        have rx3 := n_rng x3
        refine r_iload_n C (j := 3) (oDec_at oX11_imageInSpare 25 rfl) rfl rfl ?_
        refine r_iconst C (oDec_at oX11_imageInSpare 26 rfl) (v := k2) (by rw [qk2]; rfl) ?_
        refine r_iload_n C (j := 1) (oDec_at oX11_imageInSpare 27 rfl) rfl rfl ?_
        obtain ⟨v1, ev1⟩ : ∃ z : Int32, z = k2 * x1 := ⟨_, rfl⟩
        have hv1 : v1.toInt = 2 * x1.toInt := n_mulK' 2 ev1 ek2 (by omega) (by omega)
        refine r_imul C v1 (oDec_at oX11_imageInSpare 28 rfl) ev1 ?_
        refine r_icmp_gt C 67 (oDec_at oX11_imageInSpare 29 rfl) (by decide) (fun cd2 => ?_) (fun cd2 => ?_)
        · skip
          refine r_aload_n C (j := 0) (oDec_at oX11_imageInSpare 39 rfl) rfl rfl ?_
          refine r_getF (k := 0) (b := 1) C oCl11 rfl (by decide) flX11_10 rfl rfl rfl (oDec_at oX11_imageInSpare 40 rfl) ?_
          refine r_iconst C (oDec_at oX11_imageInSpare 41 rfl) (v := k2) (by rw [qk2]; rfl) ?_
          refine r_iload_n C (j := 1) (oDec_at oX11_imageInSpare 42 rfl) rfl rfl ?_
          obtain ⟨v3, ev3⟩ : ∃ z : Int32, z = k2 * x1 := ⟨_, rfl⟩
          have hv3 : v3.toInt = 2 * x1.toInt := n_mulK' 2 ev3 ek2 (by omega) (by omega)
          refine r_imul C v3 (oDec_at oX11_imageInSpare 43 rfl) ev3 ?_
          refine r_iconst C (oDec_at oX11_imageInSpare 44 rfl) (v := k1) (by rw [qk1]; rfl) ?_
          refine r_pc C 75 rfl ?_
          obtain ⟨v4, ev4⟩ : ∃ z : Int32, z = v3 + k1 := ⟨_, rfl⟩
          have hv4 : v4.toInt = v3.toInt + k1.toInt := n_add ev4 (by omega) (by omega)
          refine r_iadd C v4 (oDec_at oX11_imageInSpare 45 rfl) ev4 ?_
          refine r_callVi C oCl8 rfl miX8_at mlX11_399 (ct_X8_at l E (t) v4 ) (by decide) rfl rfl rfl (Nat.le_of_ble_eq_true rfl) (oDec_at oX11_imageInSpare 46 rfl) (fun r6 u5 pu5 fu5 => ?_)
          try dsimp only at pu5
          have rr6 := n_rng r6
          refine r_iload_n C (j := 2) (oDec_at oX11_imageInSpare 47 rfl) rfl rfl ?_
          refine r_icmp_eq C 85 (oDec_at oX11_imageInSpare 48 rfl) (by decide) (fun cd7 => ?_) (fun cd7 => ?_)
          · skip
            refine r_aload_n C (j := 0) (oDec_at oX11_imageInSpare 51 rfl) rfl rfl ?_
            refine r_getS (k := 2) (q2 := 4) C oCl11 rfl (by decide) flX11_23 rfl rfl rfl ks0 (oDec_at oX11_imageInSpare 52 rfl) (fun b8 rb8 mb8 hkb8 => ?_)
            refine r_callVv C oCl4 hkb8 miX4_clear mlX11_340 (ct_X4_clear l E (u5) b8 hkb8 ) (by decide) rfl rfl rfl (Nat.le_of_ble_eq_true rfl) (oDec_at oX11_imageInSpare 53 rfl) (fun u9 pu9 fu9 => ?_)
            try dsimp only at pu9
            refine r_iconst C (oDec_at oX11_imageInSpare 54 rfl) (v := k0) (by rw [qk0]; rfl) ?_
            refine r_istore_n C (lv' := [(0, .ref (oad E 0)), (1, .int x1), (2, .int x2), (3, .int k0)]) [1, 2, 3, 0] (oDec_at oX11_imageInSpare 55 rfl) rfl (by decide) rfl ?_
            refine r_pick C [0, 1, 3] rfl ?_
            exact (ih (n - 1) (by omega)).2 (u9) x1 k0  (by omega) (by omega) (by omega)
          · skip
            refine r_iconst C (oDec_at oX11_imageInSpare 49 rfl) (v := k0) (by rw [qk0]; rfl) ?_
            exact r_zret C (n_bool (by omega)) (oDec_at oX11_imageInSpare 50 rfl) ⟨_, rfl, by omega⟩
        · skip
          refine r_iload_n C (j := 2) (oDec_at oX11_imageInSpare 30 rfl) rfl rfl ?_
          refine r_aload_n C (j := 0) (oDec_at oX11_imageInSpare 31 rfl) rfl rfl ?_
          refine r_getF (k := 0) (b := 1) C oCl11 rfl (by decide) flX11_10 rfl rfl rfl (oDec_at oX11_imageInSpare 32 rfl) ?_
          refine r_iload_n C (j := 3) (oDec_at oX11_imageInSpare 33 rfl) rfl rfl ?_
          refine r_callVi C oCl8 rfl miX8_at mlX11_399 (ct_X8_at l E (t) x3 ) (by decide) rfl rfl rfl (Nat.le_of_ble_eq_true rfl) (oDec_at oX11_imageInSpare 34 rfl) (fun r12 u11 pu11 fu11 => ?_)
          try dsimp only at pu11
          have rr12 := n_rng r12
          refine r_callSi C miX11_nextCheck mlX11_352 (ct_X11_nextCheck l E (u11) x2 r12 ) (by decide) rfl rfl rfl (Nat.le_of_ble_eq_true rfl) (oDec_at oX11_imageInSpare 35 rfl) (fun r14 u13 pu13 fu13 => ?_)
          try dsimp only at pu13
          have rr14 := n_rng r14
          refine r_pc C 60 rfl ?_
          refine r_istore_n C (lv' := [(0, .ref (oad E 0)), (1, .int x1), (2, .int r14), (3, .int x3)]) [1, 2, 0, 3] (oDec_at oX11_imageInSpare 36 rfl) rfl (by decide) rfl ?_
          obtain ⟨v15, ev15⟩ : ∃ z : Int32, x3 + Int32.ofInt 1 = z := ⟨_, rfl⟩
          have hv15 : v15.toInt = x3.toInt + 1 := n_inc ev15 (by decide) (by omega) (by omega)
          refine r_iinc C (j := 3) (lv' := [(0, .ref (oad E 0)), (1, .int x1), (2, .int r14), (3, .int v15)]) v15 [1, 2, 3, 0] (oDec_at oX11_imageInSpare 37 rfl) rfl ev15 (by decide) rfl ?_
          refine r_goto C (tgt := 41) (oDec_at oX11_imageInSpare 38 rfl) (by decide) ?_
          exact (ih (n - 1) (by omega)).1 (u13) x1 r14 v15  (by omega) (by omega) (by omega)
      · intro t x1 x3  iv0 iv1 hmu
        have rx1 := n_rng x1
        have rx3 := n_rng x3
        refine r_iload_n C (j := 2) (oDec_at oX11_imageInSpare 56 rfl) rfl rfl ?_
        refine r_iload_n C (j := 1) (oDec_at oX11_imageInSpare 57 rfl) rfl rfl ?_
        refine r_icmp_ge C 157 (oDec_at oX11_imageInSpare 58 rfl) (by decide) (fun cd16 => ?_) (fun cd16 => ?_)
        · skip
          refine r_iconst C (oDec_at oX11_imageInSpare 90 rfl) (v := k1) (by rw [qk1]; rfl) ?_
          exact r_zret C (n_bool (by omega)) (oDec_at oX11_imageInSpare 91 rfl) ⟨_, rfl, by omega⟩
        · skip
          refine r_aload_n C (j := 0) (oDec_at oX11_imageInSpare 59 rfl) rfl rfl ?_
          refine r_getF (k := 0) (b := 1) C oCl11 rfl (by decide) flX11_10 rfl rfl rfl (oDec_at oX11_imageInSpare 60 rfl) ?_
          refine r_iconst C (oDec_at oX11_imageInSpare 61 rfl) (v := k2) (by rw [qk2]; rfl) ?_
          refine r_iload_n C (j := 2) (oDec_at oX11_imageInSpare 62 rfl) rfl rfl ?_
          obtain ⟨v17, ev17⟩ : ∃ z : Int32, z = k2 * x3 := ⟨_, rfl⟩
          have hv17 : v17.toInt = 2 * x3.toInt := n_mulK' 2 ev17 ek2 (by omega) (by omega)
          refine r_imul C v17 (oDec_at oX11_imageInSpare 63 rfl) ev17 ?_
          refine r_iconst C (oDec_at oX11_imageInSpare 64 rfl) (v := k1) (by rw [qk1]; rfl) ?_
          refine r_pc C 107 rfl ?_
          obtain ⟨v18, ev18⟩ : ∃ z : Int32, z = v17 + k1 := ⟨_, rfl⟩
          have hv18 : v18.toInt = v17.toInt + k1.toInt := n_add ev18 (by omega) (by omega)
          refine r_iadd C v18 (oDec_at oX11_imageInSpare 65 rfl) ev18 ?_
          refine r_callVi C oCl8 rfl miX8_at mlX11_399 (ct_X8_at l E (t) v18 ) (by decide) rfl rfl rfl (Nat.le_of_ble_eq_true rfl) (oDec_at oX11_imageInSpare 66 rfl) (fun r20 u19 pu19 fu19 => ?_)
          try dsimp only at pu19
          have rr20 := n_rng r20
          refine r_istore C (lv' := [(0, .ref (oad E 0)), (1, .int x1), (3, .int x3), (4, .int r20)]) [1, 2, 3, 0] (oDec_at oX11_imageInSpare 67 rfl) (by decide) rfl ?_
          refine r_aload_n C (j := 0) (oDec_at oX11_imageInSpare 68 rfl) rfl rfl ?_
          refine r_getS (k := 2) (q2 := 4) C oCl11 rfl (by decide) flX11_23 rfl rfl rfl ks0 (oDec_at oX11_imageInSpare 69 rfl) (fun b21 rb21 mb21 hkb21 => ?_)
          refine r_iload C (j := 3) (oDec_at oX11_imageInSpare 70 rfl) rfl ?_
          refine r_pc C 119 rfl ?_
          refine r_sipush C (oDec_at oX11_imageInSpare 71 rfl) (v := k255) (by rw [qk255]; rfl) ?_
          refine r_icmp_ne C 129 (oDec_at oX11_imageInSpare 72 rfl) (by decide) (fun cd22 => ?_) (fun cd22 => ?_)
          · skip
            refine r_iload C (j := 3) (oDec_at oX11_imageInSpare 75 rfl) rfl ?_
            refine r_aload_n C (j := 0) (oDec_at oX11_imageInSpare 76 rfl) rfl rfl ?_
            refine r_getF (k := 0) (b := 1) C oCl11 rfl (by decide) flX11_10 rfl rfl rfl (oDec_at oX11_imageInSpare 77 rfl) ?_
            refine r_iconst C (oDec_at oX11_imageInSpare 78 rfl) (v := k2) (by rw [qk2]; rfl) ?_
            refine r_iload_n C (j := 2) (oDec_at oX11_imageInSpare 79 rfl) rfl rfl ?_
            obtain ⟨v23, ev23⟩ : ∃ z : Int32, z = k2 * x3 := ⟨_, rfl⟩
            have hv23 : v23.toInt = 2 * x3.toInt := n_mulK' 2 ev23 ek2 (by omega) (by omega)
            refine r_imul C v23 (oDec_at oX11_imageInSpare 80 rfl) ev23 ?_
            refine r_pc C 138 rfl ?_
            refine r_iconst C (oDec_at oX11_imageInSpare 81 rfl) (v := k2) (by rw [qk2]; rfl) ?_
            obtain ⟨v24, ev24⟩ : ∃ z : Int32, z = v23 + k2 := ⟨_, rfl⟩
            have hv24 : v24.toInt = v23.toInt + k2.toInt := n_add ev24 (by omega) (by omega)
            refine r_iadd C v24 (oDec_at oX11_imageInSpare 82 rfl) ev24 ?_
            have lk25 : ((u19).1 1 1).toInt = (t.1 1 1).toInt := congrArg Int32.toInt ((fu19 1 1 rfl).1)
            refine r_callVi C oCl8 rfl miX8_at mlX11_399 (ct_X8_at l E (u19) v24 ) (by decide) rfl rfl rfl (Nat.le_of_ble_eq_true rfl) (oDec_at oX11_imageInSpare 83 rfl) (fun r27 u26 pu26 fu26 => ?_)
            try dsimp only at pu26
            have rr27 := n_rng r27
            have lk28 : ((u26).1 b21 4).toInt = (t.1 b21 4).toInt := congrArg Int32.toInt (((fu26 b21 4 (by rw [hkb21]; rfl)).1).trans ((fu19 b21 4 (by rw [hkb21]; rfl)).1))
            have lk29 : ((u26).1 b21 5).toInt = (t.1 b21 5).toInt := congrArg Int32.toInt (((fu26 b21 5 (by rw [hkb21]; rfl)).1).trans ((fu19 b21 5 (by rw [hkb21]; rfl)).1))
            refine r_callVi C oCl4 hkb21 miX4_add mlX11_346 (ct_X4_add l E (u26) b21 hkb21 r20 r27 ) (by decide) rfl rfl rfl (Nat.le_of_ble_eq_true rfl) (oDec_at oX11_imageInSpare 84 rfl) (fun r31 u30 pu30 fu30 => ?_)
            try dsimp only at pu30
            have rr31 := n_rng r31
            refine r_if_ne C 151 (oDec_at oX11_imageInSpare 85 rfl) (by decide) (fun cd32 => ?_) (fun cd32 => ?_)
            · skip
              obtain ⟨v33, ev33⟩ : ∃ z : Int32, x3 + Int32.ofInt 1 = z := ⟨_, rfl⟩
              have hv33 : v33.toInt = x3.toInt + 1 := n_inc ev33 (by decide) (by omega) (by omega)
              refine r_iinc C (j := 2) (lv' := [(0, .ref (oad E 0)), (1, .int x1), (3, .int v33), (4, .int r20)]) v33 [1, 2, 0, 3] (oDec_at oX11_imageInSpare 88 rfl) rfl ev33 (by decide) rfl ?_
              refine r_goto C (tgt := 94) (oDec_at oX11_imageInSpare 89 rfl) (by decide) ?_
              refine r_pick C [0, 1, 2] rfl ?_
              exact (ih (n - 1) (by omega)).2 (u30) x1 v33  (by omega) (by omega) (by omega)
            · skip
              refine r_iconst C (oDec_at oX11_imageInSpare 86 rfl) (v := k0) (by rw [qk0]; rfl) ?_
              exact r_zret C (n_bool (by omega)) (oDec_at oX11_imageInSpare 87 rfl) ⟨_, rfl, by omega⟩
          · skip
            refine r_iconst C (oDec_at oX11_imageInSpare 73 rfl) (v := km1) (by rw [qkm1]; rfl) ?_
            refine r_goto C (tgt := 131) (oDec_at oX11_imageInSpare 74 rfl) (by decide) ?_
            refine r_aload_n C (j := 0) (oDec_at oX11_imageInSpare 76 rfl) rfl rfl ?_
            refine r_getF (k := 0) (b := 1) C oCl11 rfl (by decide) flX11_10 rfl rfl rfl (oDec_at oX11_imageInSpare 77 rfl) ?_
            refine r_iconst C (oDec_at oX11_imageInSpare 78 rfl) (v := k2) (by rw [qk2]; rfl) ?_
            refine r_iload_n C (j := 2) (oDec_at oX11_imageInSpare 79 rfl) rfl rfl ?_
            obtain ⟨v34, ev34⟩ : ∃ z : Int32, z = k2 * x3 := ⟨_, rfl⟩
            have hv34 : v34.toInt = 2 * x3.toInt := n_mulK' 2 ev34 ek2 (by omega) (by omega)
            refine r_imul C v34 (oDec_at oX11_imageInSpare 80 rfl) ev34 ?_
            refine r_pc C 138 rfl ?_
            refine r_iconst C (oDec_at oX11_imageInSpare 81 rfl) (v := k2) (by rw [qk2]; rfl) ?_
            obtain ⟨v35, ev35⟩ : ∃ z : Int32, z = v34 + k2 := ⟨_, rfl⟩
            have hv35 : v35.toInt = v34.toInt + k2.toInt := n_add ev35 (by omega) (by omega)
            refine r_iadd C v35 (oDec_at oX11_imageInSpare 82 rfl) ev35 ?_
            have lk36 : ((u19).1 1 1).toInt = (t.1 1 1).toInt := congrArg Int32.toInt ((fu19 1 1 rfl).1)
            refine r_callVi C oCl8 rfl miX8_at mlX11_399 (ct_X8_at l E (u19) v35 ) (by decide) rfl rfl rfl (Nat.le_of_ble_eq_true rfl) (oDec_at oX11_imageInSpare 83 rfl) (fun r38 u37 pu37 fu37 => ?_)
            try dsimp only at pu37
            have rr38 := n_rng r38
            have lk39 : ((u37).1 b21 4).toInt = (t.1 b21 4).toInt := congrArg Int32.toInt (((fu37 b21 4 (by rw [hkb21]; rfl)).1).trans ((fu19 b21 4 (by rw [hkb21]; rfl)).1))
            have lk40 : ((u37).1 b21 5).toInt = (t.1 b21 5).toInt := congrArg Int32.toInt (((fu37 b21 5 (by rw [hkb21]; rfl)).1).trans ((fu19 b21 5 (by rw [hkb21]; rfl)).1))
            refine r_callVi C oCl4 hkb21 miX4_add mlX11_346 (ct_X4_add l E (u37) b21 hkb21 km1 r38 ) (by decide) rfl rfl rfl (Nat.le_of_ble_eq_true rfl) (oDec_at oX11_imageInSpare 84 rfl) (fun r42 u41 pu41 fu41 => ?_)
            try dsimp only at pu41
            have rr42 := n_rng r42
            refine r_if_ne C 151 (oDec_at oX11_imageInSpare 85 rfl) (by decide) (fun cd43 => ?_) (fun cd43 => ?_)
            · skip
              obtain ⟨v44, ev44⟩ : ∃ z : Int32, x3 + Int32.ofInt 1 = z := ⟨_, rfl⟩
              have hv44 : v44.toInt = x3.toInt + 1 := n_inc ev44 (by decide) (by omega) (by omega)
              refine r_iinc C (j := 2) (lv' := [(0, .ref (oad E 0)), (1, .int x1), (3, .int v44), (4, .int r20)]) v44 [1, 2, 0, 3] (oDec_at oX11_imageInSpare 88 rfl) rfl ev44 (by decide) rfl ?_
              refine r_goto C (tgt := 94) (oDec_at oX11_imageInSpare 89 rfl) (by decide) ?_
              refine r_pick C [0, 1, 2] rfl ?_
              exact (ih (n - 1) (by omega)).2 (u41) x1 v44  (by omega) (by omega) (by omega)
            · skip
              refine r_iconst C (oDec_at oX11_imageInSpare 86 rfl) (v := k0) (by rw [qk0]; rfl) ?_
              exact r_zret C (n_bool (by omega)) (oDec_at oX11_imageInSpare 87 rfl) ⟨_, rfl, by omega⟩
  refine r_aload_n C (j := 0) (oDec_at oX11_imageInSpare 0 rfl) rfl rfl ?_
  refine r_getF (k := 0) (b := 1) C oCl11 rfl (by decide) flX11_10 rfl rfl rfl (oDec_at oX11_imageInSpare 1 rfl) ?_
  refine r_iconst C (oDec_at oX11_imageInSpare 2 rfl) (v := k0) (by rw [qk0]; rfl) ?_
  refine r_callVi C oCl8 rfl miX8_at mlX11_399 (ct_X8_at l E (s) k0 ) (by decide) rfl rfl rfl (Nat.le_of_ble_eq_true rfl) (oDec_at oX11_imageInSpare 3 rfl) (fun r46 u45 pu45 fu45 => ?_)
  try dsimp only at pu45
  have rr46 := n_rng r46
  refine r_istore_n C (lv' := [(0, .ref (oad E 0)), (1, .int r46)]) [1, 0] (oDec_at oX11_imageInSpare 4 rfl) rfl (by decide) rfl ?_
  refine r_iload_n C (j := 1) (oDec_at oX11_imageInSpare 5 rfl) rfl rfl ?_
  refine r_pc C 10 rfl ?_
  refine r_if_lt C 34 (oDec_at oX11_imageInSpare 6 rfl) (by decide) (fun cd47 => ?_) (fun cd47 => ?_)
  · skip
    refine r_iconst C (oDec_at oX11_imageInSpare 19 rfl) (v := k0) (by rw [qk0]; rfl) ?_
    exact r_zret C (n_bool (by omega)) (oDec_at oX11_imageInSpare 20 rfl) ⟨_, rfl, by omega⟩
  · skip
    refine r_iload_n C (j := 1) (oDec_at oX11_imageInSpare 7 rfl) rfl rfl ?_
    refine r_bipush C (oDec_at oX11_imageInSpare 8 rfl) (v := k24) (by rw [qk24]; rfl) ?_
    refine r_icmp_gt C 34 (oDec_at oX11_imageInSpare 9 rfl) (by decide) (fun cd48 => ?_) (fun cd48 => ?_)
    · skip
      refine r_iconst C (oDec_at oX11_imageInSpare 19 rfl) (v := k0) (by rw [qk0]; rfl) ?_
      exact r_zret C (n_bool (by omega)) (oDec_at oX11_imageInSpare 20 rfl) ⟨_, rfl, by omega⟩
    · skip
      refine r_aload_n C (j := 0) (oDec_at oX11_imageInSpare 10 rfl) rfl rfl ?_
      refine r_getF (k := 0) (b := 1) C oCl11 rfl (by decide) flX11_10 rfl rfl rfl (oDec_at oX11_imageInSpare 11 rfl) ?_
      obtain ⟨v49, ev49⟩ : ∃ z : Int32, (u45).1 1 1 = z := ⟨_, rfl⟩
      have gv49 : (s.1 1 1).toInt = v49.toInt := congrArg Int32.toInt (((fu45 1 1 rfl).1).symm.trans ev49)
      refine r_getiN (k := 1) (lo := 0) (hi := 1600) C v49 oCl8 rfl (by decide) flX11_111 rfl rfl (ev49) rfl rfl (oDec_at oX11_imageInSpare 12 rfl) (fun b50 b50h => ?_)
      refine r_iconst C (oDec_at oX11_imageInSpare 13 rfl) (v := k2) (by rw [qk2]; rfl) ?_
      refine r_iload_n C (j := 1) (oDec_at oX11_imageInSpare 14 rfl) rfl rfl ?_
      obtain ⟨v51, ev51⟩ : ∃ z : Int32, z = k2 * r46 := ⟨_, rfl⟩
      have hv51 : v51.toInt = 2 * r46.toInt := n_mulK' 2 ev51 ek2 (by omega) (by omega)
      refine r_imul C v51 (oDec_at oX11_imageInSpare 15 rfl) ev51 ?_
      refine r_pc C 29 rfl ?_
      refine r_iconst C (oDec_at oX11_imageInSpare 16 rfl) (v := k2) (by rw [qk2]; rfl) ?_
      obtain ⟨v52, ev52⟩ : ∃ z : Int32, z = v51 + k2 := ⟨_, rfl⟩
      have hv52 : v52.toInt = v51.toInt + k2.toInt := n_add ev52 (by omega) (by omega)
      refine r_iadd C v52 (oDec_at oX11_imageInSpare 17 rfl) ev52 ?_
      refine r_icmp_eq C 36 (oDec_at oX11_imageInSpare 18 rfl) (by decide) (fun cd53 => ?_) (fun cd53 => ?_)
      · skip
        refine r_bipush C (oDec_at oX11_imageInSpare 21 rfl) (v := k23) (by rw [qk23]; rfl) ?_
        refine r_istore_n C (lv' := [(0, .ref (oad E 0)), (1, .int r46), (2, .int k23)]) [1, 2, 0] (oDec_at oX11_imageInSpare 22 rfl) rfl (by decide) rfl ?_
        refine r_iconst C (oDec_at oX11_imageInSpare 23 rfl) (v := k0) (by rw [qk0]; rfl) ?_
        refine r_istore_n C (lv' := [(0, .ref (oad E 0)), (1, .int r46), (2, .int k23), (3, .int k0)]) [1, 2, 3, 0] (oDec_at oX11_imageInSpare 24 rfl) rfl (by decide) rfl ?_
        exact (key (1000 - k0.toInt).toNat).1 (u45) r46 k23 k0  (by omega) (by omega) (by omega)
      · skip
        refine r_iconst C (oDec_at oX11_imageInSpare 19 rfl) (v := k0) (by rw [qk0]; rfl) ?_
        exact r_zret C (n_bool (by omega)) (oDec_at oX11_imageInSpare 20 rfl) ⟨_, rfl, by omega⟩
