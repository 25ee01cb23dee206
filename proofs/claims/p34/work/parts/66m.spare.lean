set_option maxHeartbeats 4000000 in
set_option maxRecDepth 100000 in
theorem ct9_X11_takeSpare (l : Launch) (E : oE) (s : oS)   (hp0 : owCZ s) : oMet l 2 yX11_takeSpare cX11_takeSpare 2 none [(3, 0), (7, 0), (10, 3), (11, 1), (11, 2), (11, 17)] E s [.ref (oad E 0)] (oPv (fun u => (owCZ u))) := by
  refine oMet.of (lv := [(0, .ref (oad E 0))]) (by decide +kernel) (Nat.le_of_ble_eq_true rfl) rfl (fun J C hT => ?_)
  have C : oC l 2 cX11_takeSpare RX11 2 none [(3, 0), (7, 0), (10, 3), (11, 1), (11, 2), (11, 17)] E s (oPv (fun u => (owCZ u))) J := C
  refine r_aload_n C (j := 0) (oDec_at oX11_takeSpare 0 rfl) rfl rfl ?_
  refine r_getS (k := 1) (q2 := 4) C oCl11 rfl (by decide) flX11_19 rfl rfl rfl ks0 (oDec_at oX11_takeSpare 1 rfl) (fun b1 rb1 mb1 hkb1 => ?_)
  refine r_astore_n C (lv' := [(0, .ref (oad E 0)), (1, .ref (oad E b1))]) [1, 0] (oDec_at oX11_takeSpare 2 rfl) rfl (by decide) rfl ?_
  refine r_aload_n C (j := 0) (oDec_at oX11_takeSpare 3 rfl) rfl rfl ?_
  refine r_aload_n C (j := 0) (oDec_at oX11_takeSpare 4 rfl) rfl rfl ?_
  refine r_getS (k := 2) (q2 := 4) C oCl11 rfl (by decide) flX11_23 rfl rfl rfl ks0 (oDec_at oX11_takeSpare 5 rfl) (fun b2 rb2 mb2 hkb2 => ?_)
  refine r_pc C 10 rfl ?_
  refine r_putr (k := 1) C oCl11 rfl (by decide) flX11_19 rfl rfl rfl rfl rfl rfl (oRok_S (q := 11) (k := 1) (j := 0) rfl rfl (kin0 hkb2)) (oDec_at oX11_takeSpare 6 rfl) ?_
  refine r_aload_n C (j := 0) (oDec_at oX11_takeSpare 7 rfl) rfl rfl ?_
  refine r_aload_n C (j := 1) (oDec_at oX11_takeSpare 8 rfl) rfl rfl ?_
  refine r_putr (k := 2) C oCl11 rfl (by decide) flX11_23 rfl rfl rfl rfl rfl rfl (oRok_S (q := 11) (k := 2) (j := 0) rfl rfl (kin0 hkb1)) (oDec_at oX11_takeSpare 9 rfl) ?_
  have hq3 : owCZ ((pR (pR s 0 1 (b2 + 1)) 0 2 (b1 + 1))) := owCZ_sw hp0 (rb1) (rb2)
  refine r_aload_n C (j := 0) (oDec_at oX11_takeSpare 10 rfl) rfl rfl ?_
  refine r_callVv C oCl11 rfl miX11_forget mlX11_131 (ct_X11_forget l E ((pR (pR s 0 1 (b2 + 1)) 0 2 (b1 + 1)))  ) (by decide) rfl rfl rfl (Nat.le_of_ble_eq_true rfl) (oDec_at oX11_takeSpare 11 rfl) (fun u4 pu4 fu4 => ?_)
  try dsimp only at pu4
  refine r_pc C 22 rfl ?_
  exact r_vret C (oDec_at oX11_takeSpare 12 rfl) ⟨rfl, (owCZ_fr fu4 rfl hq3)⟩
