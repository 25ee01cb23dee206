set_option maxHeartbeats 4000000 in
set_option maxRecDepth 100000 in
theorem ct9_X11_book (l : Launch) (E : oE) (s : oS)  (g : Int → Int) (R : Int) (W : Nat → List Int) (me : Int) (hp0 : oqX g s) (hp1 : owBX R W me s) : oMet l 77 yX11_book cX11_book 3 (some .int) [(0, 1), (0, 6), (0, 7), (0, 8), (2, 3), (3, 0), (5, 1), (5, 2), (5, 3), (5, 4), (5, 5), (5, 6), (5, 7), (5, 8), (5, 9), (7, 0), (8, 1), (10, 3), (11, 4), (11, 5), (11, 17), (20, 9999), (21, 9999), (22, 9999), (23, 9999), (25, 9999)] E s [.ref (oad E 0)] (oPi (fun r u => ((u.1 1 1).toInt = 0) ∧ (r.toInt = oqB1 g) ∧ ((u.1 30 8).toInt = oqB2 g) ∧ ((u.1 30 9).toInt = oqB3 g) ∧ (owBX (owRb g R) (owWb g W) (owMb g me) u))) := by
  refine oMet.of (lv := [(0, .ref (oad E 0))]) (by decide +kernel) (Nat.le_of_ble_eq_true rfl) rfl (fun J C hT => ?_)
  have C : oC l 77 cX11_book RX11 3 (some .int) [(0, 1), (0, 6), (0, 7), (0, 8), (2, 3), (3, 0), (5, 1), (5, 2), (5, 3), (5, 4), (5, 5), (5, 6), (5, 7), (5, 8), (5, 9), (7, 0), (8, 1), (10, 3), (11, 4), (11, 5), (11, 17), (20, 9999), (21, 9999), (22, 9999), (23, 9999), (25, 9999)] E s (oPi (fun r u => ((u.1 1 1).toInt = 0) ∧ (r.toInt = oqB1 g) ∧ ((u.1 30 8).toInt = oqB2 g) ∧ ((u.1 30 9).toInt = oqB3 g) ∧ (owBX (owRb g R) (owWb g W) (owMb g me) u))) J := C
  obtain ⟨km1, qkm1⟩ : ∃ z : Int32, z = (-1) := ⟨_, rfl⟩
  have ekm1 : km1.toInt = (-1) := by rw [qkm1]; rfl
  obtain ⟨k0, qk0⟩ : ∃ z : Int32, z = 0 := ⟨_, rfl⟩
  have ek0 : k0.toInt = 0 := by rw [qk0]; rfl
  obtain ⟨cb, db, hBD, hBC, hME, hKV⟩ := id hp1
  obtain ⟨G, hG⟩ : ∃ z : Nat → Nat → Int32, z = fun o => s.1 (cb + o) := ⟨_, rfl⟩
  refine r_aload_n C (j := 0) (oDec_at oX11_book 0 rfl) rfl rfl ?_
  refine r_getF (k := 6) (b := 30) C oCl11 rfl (by decide) flX11_44 rfl rfl rfl (oDec_at oX11_book 1 rfl) ?_
  refine r_aload_n C (j := 0) (oDec_at oX11_book 2 rfl) rfl rfl ?_
  refine r_getS (k := 5) (q2 := 0) C oCl11 rfl (by decide) flX11_36 rfl rfl rfl ks1 (oDec_at oX11_book 3 rfl) (fun b1 rb1 mb1 hkb1 => ?_)
  have hdr : b1 = db := (by have h1 := hBD.2.1; have h2 := (rb1); omega)
  have hdr2 : b1 ≠ cb := (by have h1 := hBD.2.2.2.2; omega)
  have hq2 : owK5 cb G (s) := ⟨hBC.1, fun o _ => by rw [hG]⟩
  have hq3 : owBD cb db (s) := hBD
  have hq4 : owKV R W (s) := hKV
  refine r_callVi C oCl5 rfl miX5_readBook mlX11_124 (ct9_X5_readBook l E (s) b1 hkb1 (g) (cb) (G) hp0 (by omega) hq2) (by decide) rfl rfl rfl (Nat.le_of_ble_eq_true rfl) (oDec_at oX11_book 4 rfl) (fun r6 u5 pu5 fu5 => ?_)
  try dsimp only at pu5
  obtain ⟨pu5_0, pu5_1, pu5_2, pu5_3, pu5_4, pu5_5, pu5_6, pu5_7⟩ := pu5
  have rr6 := n_rng r6
  have hrb1 := pu5_6
  have hrb2 := pu5_7
  have hjb9 := (fu5 31 3 rfl).2.2
  refine r_istore_n C (lv' := [(0, .ref (oad E 0)), (1, .int r6)]) [1, 0] (oDec_at oX11_book 5 rfl) rfl (by decide) rfl ?_
  refine r_pc C 12 rfl ?_
  refine r_aload_n C (j := 0) (oDec_at oX11_book 6 rfl) rfl rfl ?_
  refine r_getF (k := 0) (b := 1) C oCl11 rfl (by decide) flX11_10 rfl rfl rfl (oDec_at oX11_book 7 rfl) ?_
  refine r_iconst C (oDec_at oX11_book 8 rfl) (v := k0) (by rw [qk0]; rfl) ?_
  refine r_ty C (fun hty => ?_)
  have ht17 : (0 : Int) ≤ ((u5).1 1 1).toInt ∧ ((u5).1 1 1).toInt ≤ 1600 := hty.1 1 1
  have lk7 : ((u5).1 1 1).toInt = (s.1 1 1).toInt := congrArg Int32.toInt ((fu5 1 1 rfl).1)
  refine r_callVi C oCl8 rfl miX8_cut mlX11_114 (ct_X8_cut l E (u5) k0 ) (by decide) rfl rfl rfl (Nat.le_of_ble_eq_true rfl) (oDec_at oX11_book 9 rfl) (fun r9 u8 pu8 fu8 => ?_)
  try dsimp only at pu8
  try simp only [lk7] at pu8
  obtain ⟨pu8_0, pu8_1⟩ := pu8
  have rr9 := n_rng r9
  refine r_pop C (oDec_at oX11_book 10 rfl) rfl ?_
  refine r_iload_n C (j := 1) (oDec_at oX11_book 11 rfl) rfl rfl ?_
  refine r_pc C 22 rfl ?_
  refine r_iconst C (oDec_at oX11_book 12 rfl) (v := km1) (by rw [qkm1]; rfl) ?_
  refine r_icmp_ne C 28 (oDec_at oX11_book 13 rfl) (by decide) (fun cd10 => ?_) (fun cd10 => ?_)
  · skip
    have hq11 : owCB db (oqB4 g) (owB7 g) (u8) := (by rw [← hdr]; exact owCB_fr fu8 rfl (hrb1 (by omega)))
    have hq12 : owBM db (owB6 g) (u8) := (by rw [← hdr]; exact owBM_fr fu8 rfl (hrb2 (by omega)))
    refine r_aload_n C (j := 0) (oDec_at oX11_book 16 rfl) rfl rfl ?_
    refine r_getS (k := 4) (q2 := 0) C oCl11 rfl (by decide) flX11_32 rfl rfl rfl ks1 (oDec_at oX11_book 17 rfl) (fun b13 rb13 mb13 hkb13 => ?_)
    refine r_astore_n C (lv' := [(0, .ref (oad E 0)), (1, .int r6), (2, .ref (oad E b13))]) [1, 2, 0] (oDec_at oX11_book 18 rfl) rfl (by decide) rfl ?_
    refine r_aload_n C (j := 0) (oDec_at oX11_book 19 rfl) rfl rfl ?_
    refine r_aload_n C (j := 0) (oDec_at oX11_book 20 rfl) rfl rfl ?_
    refine r_getK (k := 5) (b := b1) C oCl11 rfl (by decide) flX11_36 rfl rfl (((fu8 0 5 rfl).2.2).trans (((fu5 0 5 rfl).2.2).trans (rb1))) (oDec_at oX11_book 21 rfl) ?_
    refine r_putr (k := 4) C oCl11 rfl (by decide) flX11_32 rfl rfl rfl rfl rfl rfl (oRok_S (q := 11) (k := 4) (j := 1) rfl rfl (kin1 hkb1)) (oDec_at oX11_book 22 rfl) ?_
    refine r_pc C 41 rfl ?_
    refine r_aload_n C (j := 0) (oDec_at oX11_book 23 rfl) rfl rfl ?_
    refine r_aload_n C (j := 2) (oDec_at oX11_book 24 rfl) rfl rfl ?_
    refine r_putr (k := 5) C oCl11 rfl (by decide) flX11_36 rfl rfl rfl rfl rfl rfl (oRok_S (q := 11) (k := 5) (j := 1) rfl rfl (kin1 hkb13)) (oDec_at oX11_book 25 rfl) ?_
    have hq15 : owBD db cb ((pR (pR u8 0 4 (b1 + 1)) 0 5 (b13 + 1))) := owBD_sw (owBD_fr fu8 rfl (owBD_fr fu5 rfl hq3)) (rb13) (((fu8 0 5 rfl).2.2).trans (((fu5 0 5 rfl).2.2).trans (rb1)))
    refine r_aload_n C (j := 0) (oDec_at oX11_book 26 rfl) rfl rfl ?_
    refine r_getF (k := 7) (b := 31) C oCl11 rfl (by decide) flX11_53 rfl rfl rfl (oDec_at oX11_book 27 rfl) ?_
    refine r_aload_n C (j := 0) (oDec_at oX11_book 28 rfl) rfl rfl ?_
    refine r_pc C 51 rfl ?_
    refine r_getK (k := 4) (b := b1) C oCl11 rfl (by decide) flX11_32 rfl rfl (((pR_ne (a := 0) (b := 4) (c := 0) (k := 5) _ _ (Or.inr (by decide)))).trans ((pR_self _ _ _ _))) (oDec_at oX11_book 29 rfl) ?_
    refine r_callVv C oCl2 rfl miX2_follow mlX11_128 (ct9_X2_follow l E ((pR (pR u8 0 4 (b1 + 1)) 0 5 (b13 + 1))) b1 hkb1 ) (by decide) rfl rfl rfl (Nat.le_of_ble_eq_true rfl) (oDec_at oX11_book 30 rfl) (fun u17 pu17 fu17 => ?_)
    try dsimp only at pu17
    obtain ⟨pu17_0, pu17_1⟩ := pu17
    have hfw1 := pu17_0
    have hfw2 := pu17_1
    have hq19 : owK0 (u17) := hfw1
    refine r_aload_n C (j := 0) (oDec_at oX11_book 31 rfl) rfl rfl ?_
    refine r_callVv C oCl11 rfl miX11_forget mlX11_131 (ct_X11_forget l E (u17)  ) (by decide) rfl rfl rfl (Nat.le_of_ble_eq_true rfl) (oDec_at oX11_book 32 rfl) (fun u20 pu20 fu20 => ?_)
    try dsimp only at pu20
    have hq22 : owBX (owRb g R) (owWb g W) (owMb g me) (u20) := owBX_new (owBD_fr fu20 rfl (owBD_fr fu17 rfl hq15)) (owCB_fr fu20 rfl (owCB_fr fu17 rfl (owCB_fr (oFr_oneR (q := 11) (m := 5) rfl (by rfl)) rfl (owCB_fr (oFr_oneR (q := 11) (m := 4) rfl (by rfl)) rfl hq11)))) (owBM_fr fu20 rfl (owBM_fr fu17 rfl (owBM_fr (oFr_oneR (q := 11) (m := 5) rfl (by rfl)) rfl (owBM_fr (oFr_oneR (q := 11) (m := 4) rfl (by rfl)) rfl hq12)))) (((fu20 31 3 rfl).2.2.trans hfw2).trans (by rw [hdr])) (owK0_fr fu20 rfl hq19) (by omega) rfl rfl rfl
    refine r_iload_n C (j := 1) (oDec_at oX11_book 33 rfl) rfl rfl ?_
    have lk23 : ((u20).1 1 1).toInt = (u8.1 1 1).toInt := congrArg Int32.toInt (((fu20 1 1 rfl).1).trans (((fu17 1 1 rfl).1).trans ((show ((pR (pR u8 0 4 (b1 + 1)) 0 5 (b13 + 1))).1 1 1 = u8.1 1 1 from (show ((pR u8 0 4 (b1 + 1))).1 1 1 = u8.1 1 1 from rfl)))))
    have lk24 : ((u20).1 30 8).toInt = (u5.1 30 8).toInt := congrArg Int32.toInt (((fu20 30 8 rfl).1).trans (((fu17 30 8 rfl).1).trans ((show ((pR (pR u8 0 4 (b1 + 1)) 0 5 (b13 + 1))).1 30 8 = u5.1 30 8 from (show ((pR u8 0 4 (b1 + 1))).1 30 8 = u5.1 30 8 from (fu8 30 8 rfl).1)))))
    have lk25 : ((u20).1 30 9).toInt = (u5.1 30 9).toInt := congrArg Int32.toInt (((fu20 30 9 rfl).1).trans (((fu17 30 9 rfl).1).trans ((show ((pR (pR u8 0 4 (b1 + 1)) 0 5 (b13 + 1))).1 30 9 = u5.1 30 9 from (show ((pR u8 0 4 (b1 + 1))).1 30 9 = u5.1 30 9 from (fu8 30 9 rfl).1)))))
    exact r_iret C (oDec_at oX11_book 34 rfl) ⟨_, rfl, ⟨by omega, by omega, by omega, by omega, hq22⟩⟩
  · skip
    have hq26 : owBX (owRb g R) (owWb g W) (owMb g me) (u8) := owBX_no (owBD_fr fu8 rfl (owBD_fr fu5 rfl hq3)) (oqKx_fr fu8 rfl pu5_4) (fun o _ => by rw [hG]) hBC ((fu8 31 3 rfl).2.2.trans hjb9) hME.2 (owKV_fr fu8 rfl (owKV_fr fu5 rfl hq4)) (by omega)
    refine r_iconst C (oDec_at oX11_book 14 rfl) (v := km1) (by rw [qkm1]; rfl) ?_
    have lk27 : ((u8).1 30 8).toInt = (u5.1 30 8).toInt := congrArg Int32.toInt ((fu8 30 8 rfl).1)
    have lk28 : ((u8).1 30 9).toInt = (u5.1 30 9).toInt := congrArg Int32.toInt ((fu8 30 9 rfl).1)
    exact r_iret C (oDec_at oX11_book 15 rfl) ⟨_, rfl, ⟨by omega, by omega, by omega, by omega, hq26⟩⟩
