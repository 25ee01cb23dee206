set_option maxHeartbeats 4000000 in
set_option maxRecDepth 100000 in
theorem ct7_X12_testTold (l : Launch) (E : oE) (s : oS) (a1 : Int32) (g : Int → Int) (fp : Int) (fq : Int) (w : Int) (hp0 : oBB s) (hp1 : 0 ≤ a1.toInt ∧ a1.toInt ≤ 1) (hp2 : a1.toInt = 0 → (s.1 104 2).toInt ≤ 11) (hp3 : a1.toInt = 1 → (s.1 104 3).toInt ≤ 5) (hp4 : (s.1 104 3).toInt ≤ 6) (hp5 : (s.1 71 5).toInt = 0) (hp6 : (s.1 71 45).toInt + 3 ≤ (s.1 71 2).toInt) (hp7 : (s.1 71 2).toInt = w ∧ (s.1 71 4).toInt = w) (hp8 : (a1.toInt = 1 ∧ fp = 19 ∧ fq = 24) ∨ (a1.toInt = 0 ∧ fp = 11 ∧ fq = 19)) (hp9 : oqBP s) (hp10 : oqZ g s) (hp11 : oqWd s) : oMet l 9 yX12_testTold cX12_testTold 3 none [(12, 2), (12, 4), (12, 5), (12, 6), (12, 9), (12, 45), (12, 47), (12, 48), (12, 55), (12, 56), (78, 9999), (79, 9999), (80, 9999), (81, 9999), (82, 9999)] E s [.ref (oad E 71), .int a1] (oPv (fun u => (oBB u) ∧ ((u.1 71 5).toInt = 0 → ((u.1 71 45).toInt ≤ (u.1 71 2).toInt ∧ (s.1 71 5).toInt = 0)) ∧ ((u.1 104 3).toInt ≤ 6) ∧ ((s.1 71 2).toInt ≤ (u.1 71 2).toInt) ∧ (oqVs g fp fq w u) ∧ ((u.1 104 2).toInt = (s.1 104 2).toInt + (1 - a1.toInt)) ∧ ((u.1 104 3).toInt = (s.1 104 3).toInt + a1.toInt) ∧ (oqBP u))) := by
  refine oMet.of (lv := [(0, .ref (oad E 71)), (1, .int a1)]) (by decide +kernel) (Nat.le_of_ble_eq_true rfl) rfl (fun J C hT => ?_)
  have C : oC l 9 cX12_testTold RX12 3 none [(12, 2), (12, 4), (12, 5), (12, 6), (12, 9), (12, 45), (12, 47), (12, 48), (12, 55), (12, 56), (78, 9999), (79, 9999), (80, 9999), (81, 9999), (82, 9999)] E s (oPv (fun u => (oBB u) ∧ ((u.1 71 5).toInt = 0 → ((u.1 71 45).toInt ≤ (u.1 71 2).toInt ∧ (s.1 71 5).toInt = 0)) ∧ ((u.1 104 3).toInt ≤ 6) ∧ ((s.1 71 2).toInt ≤ (u.1 71 2).toInt) ∧ (oqVs g fp fq w u) ∧ ((u.1 104 2).toInt = (s.1 104 2).toInt + (1 - a1.toInt)) ∧ ((u.1 104 3).toInt = (s.1 104 3).toInt + a1.toInt) ∧ (oqBP u))) J := C
  obtain ⟨k0, qk0⟩ : ∃ z : Int32, z = 0 := ⟨_, rfl⟩
  have ek0 : k0.toInt = 0 := by rw [qk0]; rfl
  obtain ⟨k1, qk1⟩ : ∃ z : Int32, z = 1 := ⟨_, rfl⟩
  have ek1 : k1.toInt = 1 := by rw [qk1]; rfl
  obtain ⟨k2, qk2⟩ : ∃ z : Int32, z = 2 := ⟨_, rfl⟩
  have ek2 : k2.toInt = 2 := by rw [qk2]; rfl
  obtain ⟨k12, qk12⟩ : ∃ z : Int32, z = 12 := ⟨_, rfl⟩
  have ek12 : k12.toInt = 12 := by rw [qk12]; rfl
  obtain ⟨k24, qk24⟩ : ∃ z : Int32, z = 24 := ⟨_, rfl⟩
  have ek24 : k24.toInt = 24 := by rw [qk24]; rfl
  have rg1 := n_rng a1
  have htz_coded : (0 : Int) ≤ (s.1 71 45).toInt ∧ (s.1 71 45).toInt ≤ 1600 := hT.1 71 45
  have htz_at : (0 : Int) ≤ (s.1 71 2).toInt ∧ (s.1 71 2).toInt ≤ 1600 := hT.1 71 2
  have hge := oqSk_ge g w
  have hHa6 : oqHa g w 6 = oqSk g w + (oqWl 6 : Int) := rfl
  have hl6 : oqWl 6 = 4 := rfl
  refine r_bipush C (oDec_at oX12_testTold 0 rfl) (v := k24) (by rw [qk24]; rfl) ?_
  refine r_bipush C (oDec_at oX12_testTold 1 rfl) (v := k12) (by rw [qk12]; rfl) ?_
  refine r_iload_n C (j := 1) (oDec_at oX12_testTold 2 rfl) rfl rfl ?_
  obtain ⟨v1, ev1⟩ : ∃ z : Int32, z = k12 * a1 := ⟨_, rfl⟩
  have hv1 : v1.toInt = 12 * a1.toInt := n_mulK' 12 ev1 ek12 (by omega) (by omega)
  refine r_imul C v1 (oDec_at oX12_testTold 3 rfl) ev1 ?_
  obtain ⟨v2, ev2⟩ : ∃ z : Int32, z = k24 + v1 := ⟨_, rfl⟩
  have hv2 : v2.toInt = k24.toInt + v1.toInt := n_add ev2 (by omega) (by omega)
  refine r_iadd C v2 (oDec_at oX12_testTold 4 rfl) ev2 ?_
  refine r_aload_n C (j := 0) (oDec_at oX12_testTold 5 rfl) rfl rfl ?_
  refine r_pc C 8 rfl ?_
  refine r_getF (k := 49) (b := 104) C oCl12 rfl (by decide) flX12_114 rfl rfl rfl (oDec_at oX12_testTold 6 rfl) ?_
  refine r_iconst C (oDec_at oX12_testTold 7 rfl) (v := k2) (by rw [qk2]; rfl) ?_
  refine r_iload_n C (j := 1) (oDec_at oX12_testTold 8 rfl) rfl rfl ?_
  obtain ⟨v3, ev3⟩ : ∃ z : Int32, z = k2 + a1 := ⟨_, rfl⟩
  have hv3 : v3.toInt = k2.toInt + a1.toInt := n_add ev3 (by omega) (by omega)
  refine r_iadd C v3 (oDec_at oX12_testTold 9 rfl) ev3 ?_
  obtain ⟨v5, ev5⟩ : ∃ z : Int32, (s).1 104 v3.toNatClampNeg = z := ⟨_, rfl⟩
  have gv5 : (s.1 104 v3.toNatClampNeg).toInt = v5.toInt := congrArg Int32.toInt (ev5)
  refine r_iald (n := 4) (lo := 0) (hi := 12) C v5 rfl (by decide) rfl rfl ⟨by omega, by omega⟩ (by decide) ev5 rfl rfl (oDec_at oX12_testTold 10 rfl) (fun b4 b4h => ?_)
  have hix := oIxM (i := v3) ev5
  obtain ⟨v6, ev6⟩ : ∃ z : Int32, z = v2 + v5 := ⟨_, rfl⟩
  have hv6 : v6.toInt = v2.toInt + v5.toInt := n_add ev6 (by omega) (by omega)
  refine r_iadd C v6 (oDec_at oX12_testTold 11 rfl) ev6 ?_
  refine r_pc C 16 rfl ?_
  refine r_istore_n C (lv' := [(0, .ref (oad E 71)), (1, .int a1), (2, .int v6)]) [1, 2, 0] (oDec_at oX12_testTold 12 rfl) rfl (by decide) rfl ?_
  refine r_aload_n C (j := 0) (oDec_at oX12_testTold 13 rfl) rfl rfl ?_
  refine r_aload_n C (j := 0) (oDec_at oX12_testTold 14 rfl) rfl rfl ?_
  refine r_getF (k := 16) (b := 79) C oCl12 rfl (by decide) flX12_36 rfl rfl rfl (oDec_at oX12_testTold 15 rfl) ?_
  refine r_callVv C oCl12 rfl miX12_asks mlX12_240 (ct7_X12_asks l E (s) 79 55 4 rfl (by decide) (by decide) rfl rfl (g) (w) (w) (6) (by omega) hp10 (by omega) rfl (oqWd_at hp11 6 (by decide)) (by omega) hp9) (by decide) rfl rfl rfl (Nat.le_of_ble_eq_true rfl) (oDec_at oX12_testTold 16 rfl) (fun u7 pu7 fu7 => ?_)
  try dsimp only at pu7
  obtain ⟨pu7_0, pu7_1, pu7_2, pu7_3⟩ := pu7
  have lc9 : ((u7).1 104 2).toInt = (s.1 104 2).toInt := congrArg Int32.toInt ((fu7 104 2 rfl).1)
  have lc10 : ((u7).1 104 3).toInt = (s.1 104 3).toInt := congrArg Int32.toInt ((fu7 104 3 rfl).1)
  have lk11 : ((u7).1 71 45).toInt = (s.1 71 45).toInt := congrArg Int32.toInt ((fu7 71 45 rfl).1)
  refine r_ty C (fun hty => ?_)
  have hmU : ∀ i : Nat, (0 : Int) ≤ ((u7).1 104 i).toInt ∧ ((u7).1 104 i).toInt ≤ 12 := fun i => hty.1 104 i
  have hmU2 := hmU 2
  have hmU3 := hmU 3
  clear hty
  refine r_ty C (fun hty => ?_)
  have hty_coded : (0 : Int) ≤ ((u7).1 71 45).toInt ∧ ((u7).1 71 45).toInt ≤ 1600 := hty.1 71 45
  have hty_at : (0 : Int) ≤ ((u7).1 71 2).toInt ∧ ((u7).1 71 2).toInt ≤ 1600 := hty.1 71 2
  clear hty
  refine r_aload_n C (j := 0) (oDec_at oX12_testTold 17 rfl) rfl rfl ?_
  refine r_pc C 26 rfl ?_
  refine r_iload_n C (j := 1) (oDec_at oX12_testTold 18 rfl) rfl rfl ?_
  refine r_iconst C (oDec_at oX12_testTold 19 rfl) (v := k1) (by rw [qk1]; rfl) ?_
  refine r_icmp_ne C 35 (oDec_at oX12_testTold 20 rfl) (by decide) (fun cd12 => ?_) (fun cd12 => ?_)
  · skip
    refine r_iconst C (oDec_at oX12_testTold 23 rfl) (v := k0) (by rw [qk0]; rfl) ?_
    refine r_puti (k := 56) (lo := 0) (hi := 1) C oCl12 rfl (by decide) flX12_295 rfl rfl rfl rfl rfl (n_bool (by omega)) (n_fitz (by omega)) rfl ⟨by omega, by omega⟩ (oDec_at oX12_testTold 24 rfl) ?_
    refine r_aload_n C (j := 0) (oDec_at oX12_testTold 25 rfl) rfl rfl ?_
    refine r_getF (k := 50) (b := 105) C oCl12 rfl (by decide) flX12_117 rfl rfl rfl (oDec_at oX12_testTold 26 rfl) ?_
    refine r_iload_n C (j := 2) (oDec_at oX12_testTold 27 rfl) rfl rfl ?_
    refine r_aload_n C (j := 0) (oDec_at oX12_testTold 28 rfl) rfl rfl ?_
    refine r_pc C 45 rfl ?_
    obtain ⟨v13, ev13⟩ : ∃ z : Int32, ((pI u7 71 56 k0)).1 71 45 = z := ⟨_, rfl⟩
    have gv13 : (s.1 71 45).toInt = v13.toInt := congrArg Int32.toInt ((((pI_ne (a := 71) (b := 45) (c := 71) (k := 56) _ _ (Or.inr (by decide)))).trans ((fu7 71 45 rfl).1)).symm.trans ev13)
    have ggv13 : (((pI u7 71 56 k0)).1 71 45).toInt = v13.toInt := congrArg Int32.toInt ev13
    refine r_geti (k := 45) (lo := 0) (hi := 1600) C v13 oCl12 rfl (by decide) flX12_234 rfl rfl (ev13) rfl rfl (oDec_at oX12_testTold 29 rfl) (fun b14 b14h => ?_)
    have lc15 : (((pI u7 71 56 k0)).1 104 2).toInt = (s.1 104 2).toInt := congrArg Int32.toInt (((pI_ne (a := 104) (b := 2) (c := 71) _ _ (Or.inl (by decide)))).trans ((fu7 104 2 rfl).1))
    have lc16 : (((pI u7 71 56 k0)).1 104 3).toInt = (s.1 104 3).toInt := congrArg Int32.toInt (((pI_ne (a := 104) (b := 3) (c := 71) _ _ (Or.inl (by decide)))).trans ((fu7 104 3 rfl).1))
    have lk17 : (((pI u7 71 56 k0)).1 71 45).toInt = v13.toInt := congrArg Int32.toInt (ev13)
    refine r_ty C (fun hty => ?_)
    have hmA : ∀ i : Nat, (0 : Int) ≤ (((pI u7 71 56 k0)).1 104 i).toInt ∧ (((pI u7 71 56 k0)).1 104 i).toInt ≤ 12 := fun i => hty.1 104 i
    have hmA2 := hmA 2
    have hmA3 := hmA 3
    clear hty
    refine r_iast (n := 48) (lo := 0) (hi := 1600) C rfl (by decide) rfl rfl ⟨by omega, by omega⟩ (by decide) rfl rfl rfl rfl ⟨by omega, by omega⟩ (oDec_at oX12_testTold 30 rfl) ?_
    have hq18 : oBB ((pI (pI u7 71 56 k0) 105 v6.toNatClampNeg v13)) := oBB_from (oBB_fr (oFr_oneI (q := 12) (m := 56) rfl (by rfl)) rfl (oBB_frb fu7 rfl (by omega) hp0)) hmA (by omega)
    refine r_aload_n C (j := 0) (oDec_at oX12_testTold 31 rfl) rfl rfl ?_
    refine r_iconst C (oDec_at oX12_testTold 32 rfl) (v := k0) (by rw [qk0]; rfl) ?_
    refine r_puti (k := 47) (lo := 0) (hi := 1700) C oCl12 rfl (by decide) flX12_277 rfl rfl rfl rfl rfl rfl rfl rfl ⟨by omega, by omega⟩ (oDec_at oX12_testTold 33 rfl) ?_
    refine r_aload_n C (j := 0) (oDec_at oX12_testTold 34 rfl) rfl rfl ?_
    refine r_pc C 55 rfl ?_
    refine r_iconst C (oDec_at oX12_testTold 35 rfl) (v := k0) (by rw [qk0]; rfl) ?_
    refine r_puti (k := 48) (lo := (-1)) (hi := 7) C oCl12 rfl (by decide) flX12_274 rfl rfl rfl rfl rfl rfl rfl rfl ⟨by omega, by omega⟩ (oDec_at oX12_testTold 36 rfl) ?_
    refine r_aload_n C (j := 0) (oDec_at oX12_testTold 37 rfl) rfl rfl ?_
    refine r_iconst C (oDec_at oX12_testTold 38 rfl) (v := k0) (by rw [qk0]; rfl) ?_
    refine r_puti (k := 55) (lo := 0) (hi := 1700) C oCl12 rfl (by decide) flX12_283 rfl rfl rfl rfl rfl rfl rfl rfl ⟨by omega, by omega⟩ (oDec_at oX12_testTold 39 rfl) ?_
    refine r_aload_n C (j := 0) (oDec_at oX12_testTold 40 rfl) rfl rfl ?_
    refine r_pc C 65 rfl ?_
    obtain ⟨v19, ev19⟩ : ∃ z : Int32, ((pI (pI (pI (pI (pI u7 71 56 k0) 105 v6.toNatClampNeg v13) 71 47 k0) 71 48 k0) 71 55 k0)).1 71 5 = z := ⟨_, rfl⟩
    have gv19 : (u7.1 71 5).toInt = v19.toInt := congrArg Int32.toInt ((((pI_ne (a := 71) (b := 5) (c := 71) (k := 55) _ _ (Or.inr (by decide)))).trans (((pI_ne (a := 71) (b := 5) (c := 71) (k := 48) _ _ (Or.inr (by decide)))).trans (((pI_ne (a := 71) (b := 5) (c := 71) (k := 47) _ _ (Or.inr (by decide)))).trans (((pI_ne (a := 71) (b := 5) (c := 105) _ _ (Or.inl (by decide)))).trans ((pI_ne (a := 71) (b := 5) (c := 71) (k := 56) _ _ (Or.inr (by decide)))))))).symm.trans ev19)
    have ggv19 : (((pI (pI (pI (pI (pI u7 71 56 k0) 105 v6.toNatClampNeg v13) 71 47 k0) 71 48 k0) 71 55 k0)).1 71 5).toInt = v19.toInt := congrArg Int32.toInt ev19
    have rv19 := n_rng v19
    refine r_geti (k := 5) (lo := (-2147483648)) (hi := 2147483647) C v19 oCl12 rfl (by decide) flX12_173 rfl rfl (ev19) rfl rfl (oDec_at oX12_testTold 41 rfl) (fun _ _ => ?_)
    refine r_if_ne C 75 (oDec_at oX12_testTold 42 rfl) (by decide) (fun cd20 => ?_) (fun cd20 => ?_)
    · skip
      have lk21 : (((pI (pI (pI (pI (pI u7 71 56 k0) 105 v6.toNatClampNeg v13) 71 47 k0) 71 48 k0) 71 55 k0)).1 71 2).toInt = (u7.1 71 2).toInt := congrArg Int32.toInt (((pI_ne (a := 71) (b := 2) (c := 71) (k := 55) _ _ (Or.inr (by decide)))).trans (((pI_ne (a := 71) (b := 2) (c := 71) (k := 48) _ _ (Or.inr (by decide)))).trans (((pI_ne (a := 71) (b := 2) (c := 71) (k := 47) _ _ (Or.inr (by decide)))).trans (((pI_ne (a := 71) (b := 2) (c := 105) _ _ (Or.inl (by decide)))).trans ((pI_ne (a := 71) (b := 2) (c := 71) (k := 56) _ _ (Or.inr (by decide))))))))
      have lk22 : (((pI (pI (pI (pI (pI u7 71 56 k0) 105 v6.toNatClampNeg v13) 71 47 k0) 71 48 k0) 71 55 k0)).1 71 4).toInt = (u7.1 71 4).toInt := congrArg Int32.toInt (((pI_ne (a := 71) (b := 4) (c := 71) (k := 55) _ _ (Or.inr (by decide)))).trans (((pI_ne (a := 71) (b := 4) (c := 71) (k := 48) _ _ (Or.inr (by decide)))).trans (((pI_ne (a := 71) (b := 4) (c := 71) (k := 47) _ _ (Or.inr (by decide)))).trans (((pI_ne (a := 71) (b := 4) (c := 105) _ _ (Or.inl (by decide)))).trans ((pI_ne (a := 71) (b := 4) (c := 71) (k := 56) _ _ (Or.inr (by decide))))))))
      have lk23 : (((pI (pI (pI (pI (pI u7 71 56 k0) 105 v6.toNatClampNeg v13) 71 47 k0) 71 48 k0) 71 55 k0)).1 71 5).toInt = v19.toInt := congrArg Int32.toInt (ev19)
      have lk24 : (((pI (pI (pI (pI (pI u7 71 56 k0) 105 v6.toNatClampNeg v13) 71 47 k0) 71 48 k0) 71 55 k0)).1 71 48).toInt = k0.toInt := congrArg Int32.toInt (((pI_ne (a := 71) (b := 48) (c := 71) (k := 55) _ _ (Or.inr (by decide)))).trans ((pI_self _ _ _ _)))
      have lk25 : (((pI (pI (pI (pI (pI u7 71 56 k0) 105 v6.toNatClampNeg v13) 71 47 k0) 71 48 k0) 71 55 k0)).1 71 47).toInt = k0.toInt := congrArg Int32.toInt (((pI_ne (a := 71) (b := 47) (c := 71) (k := 55) _ _ (Or.inr (by decide)))).trans (((pI_ne (a := 71) (b := 47) (c := 71) (k := 48) _ _ (Or.inr (by decide)))).trans ((pI_self _ _ _ _))))
      have lk26 : (((pI (pI (pI (pI (pI u7 71 56 k0) 105 v6.toNatClampNeg v13) 71 47 k0) 71 48 k0) 71 55 k0)).1 71 6).toInt = (u7.1 71 6).toInt := congrArg Int32.toInt (((pI_ne (a := 71) (b := 6) (c := 71) (k := 55) _ _ (Or.inr (by decide)))).trans (((pI_ne (a := 71) (b := 6) (c := 71) (k := 48) _ _ (Or.inr (by decide)))).trans (((pI_ne (a := 71) (b := 6) (c := 71) (k := 47) _ _ (Or.inr (by decide)))).trans (((pI_ne (a := 71) (b := 6) (c := 105) _ _ (Or.inl (by decide)))).trans ((pI_ne (a := 71) (b := 6) (c := 71) (k := 56) _ _ (Or.inr (by decide))))))))
      have hq27 : oqVs g fp fq w ((pI (pI (pI (pI (pI u7 71 56 k0) 105 v6.toNatClampNeg v13) 71 47 k0) 71 48 k0) 71 55 k0)) := (by first | exact oqVs_t (by omega) (by assumption) | exact oqVs_w (by omega) (by omega) (by omega))
      refine r_aload_n C (j := 0) (oDec_at oX12_testTold 45 rfl) rfl rfl ?_
      refine r_getF (k := 51) (b := 106) C oCl12 rfl (by decide) flX12_120 rfl rfl rfl (oDec_at oX12_testTold 46 rfl) ?_
      refine r_iload_n C (j := 2) (oDec_at oX12_testTold 47 rfl) rfl rfl ?_
      refine r_aload_n C (j := 0) (oDec_at oX12_testTold 48 rfl) rfl rfl ?_
      refine r_geti (k := 45) (lo := 0) (hi := 1600) C v13 oCl12 rfl (by decide) flX12_234 rfl rfl (((pI_ne (a := 71) (b := 45) (c := 71) (k := 55) _ _ (Or.inr (by decide)))).trans (((pI_ne (a := 71) (b := 45) (c := 71) (k := 48) _ _ (Or.inr (by decide)))).trans (((pI_ne (a := 71) (b := 45) (c := 71) (k := 47) _ _ (Or.inr (by decide)))).trans (((pI_ne (a := 71) (b := 45) (c := 105) _ _ (Or.inl (by decide)))).trans (ev13))))) rfl rfl (oDec_at oX12_testTold 49 rfl) (fun _ _ => ?_)
      have lc28 : (((pI (pI (pI (pI (pI u7 71 56 k0) 105 v6.toNatClampNeg v13) 71 47 k0) 71 48 k0) 71 55 k0)).1 104 2).toInt = (s.1 104 2).toInt := congrArg Int32.toInt (((pI_ne (a := 104) (b := 2) (c := 71) _ _ (Or.inl (by decide)))).trans (((pI_ne (a := 104) (b := 2) (c := 71) _ _ (Or.inl (by decide)))).trans (((pI_ne (a := 104) (b := 2) (c := 71) _ _ (Or.inl (by decide)))).trans (((pI_ne (a := 104) (b := 2) (c := 105) _ _ (Or.inl (by decide)))).trans (((pI_ne (a := 104) (b := 2) (c := 71) _ _ (Or.inl (by decide)))).trans ((fu7 104 2 rfl).1))))))
      have lc29 : (((pI (pI (pI (pI (pI u7 71 56 k0) 105 v6.toNatClampNeg v13) 71 47 k0) 71 48 k0) 71 55 k0)).1 104 3).toInt = (s.1 104 3).toInt := congrArg Int32.toInt (((pI_ne (a := 104) (b := 3) (c := 71) _ _ (Or.inl (by decide)))).trans (((pI_ne (a := 104) (b := 3) (c := 71) _ _ (Or.inl (by decide)))).trans (((pI_ne (a := 104) (b := 3) (c := 71) _ _ (Or.inl (by decide)))).trans (((pI_ne (a := 104) (b := 3) (c := 105) _ _ (Or.inl (by decide)))).trans (((pI_ne (a := 104) (b := 3) (c := 71) _ _ (Or.inl (by decide)))).trans ((fu7 104 3 rfl).1))))))
      have lk30 : (((pI (pI (pI (pI (pI u7 71 56 k0) 105 v6.toNatClampNeg v13) 71 47 k0) 71 48 k0) 71 55 k0)).1 71 45).toInt = v13.toInt := congrArg Int32.toInt (((pI_ne (a := 71) (b := 45) (c := 71) (k := 55) _ _ (Or.inr (by decide)))).trans (((pI_ne (a := 71) (b := 45) (c := 71) (k := 48) _ _ (Or.inr (by decide)))).trans (((pI_ne (a := 71) (b := 45) (c := 71) (k := 47) _ _ (Or.inr (by decide)))).trans (((pI_ne (a := 71) (b := 45) (c := 105) _ _ (Or.inl (by decide)))).trans (ev13)))))
      have lk31 : (((pI (pI (pI (pI (pI u7 71 56 k0) 105 v6.toNatClampNeg v13) 71 47 k0) 71 48 k0) 71 55 k0)).1 71 56).toInt = k0.toInt := congrArg Int32.toInt (((pI_ne (a := 71) (b := 56) (c := 71) (k := 55) _ _ (Or.inr (by decide)))).trans (((pI_ne (a := 71) (b := 56) (c := 71) (k := 48) _ _ (Or.inr (by decide)))).trans (((pI_ne (a := 71) (b := 56) (c := 71) (k := 47) _ _ (Or.inr (by decide)))).trans (((pI_ne (a := 71) (b := 56) (c := 105) _ _ (Or.inl (by decide)))).trans ((pI_self _ _ _ _))))))
      have lk32 : (((pI (pI (pI (pI (pI u7 71 56 k0) 105 v6.toNatClampNeg v13) 71 47 k0) 71 48 k0) 71 55 k0)).1 71 5).toInt = v19.toInt := congrArg Int32.toInt (ev19)
      refine r_ty C (fun hty => ?_)
      have hmB : ∀ i : Nat, (0 : Int) ≤ (((pI (pI (pI (pI (pI u7 71 56 k0) 105 v6.toNatClampNeg v13) 71 47 k0) 71 48 k0) 71 55 k0)).1 104 i).toInt ∧ (((pI (pI (pI (pI (pI u7 71 56 k0) 105 v6.toNatClampNeg v13) 71 47 k0) 71 48 k0) 71 55 k0)).1 104 i).toInt ≤ 12 := fun i => hty.1 104 i
      have hmB2 := hmB 2
      have hmB3 := hmB 3
      clear hty
      refine r_ty C (fun hty => ?_)
      have hty_coded : (0 : Int) ≤ (((pI (pI (pI (pI (pI u7 71 56 k0) 105 v6.toNatClampNeg v13) 71 47 k0) 71 48 k0) 71 55 k0)).1 71 45).toInt ∧ (((pI (pI (pI (pI (pI u7 71 56 k0) 105 v6.toNatClampNeg v13) 71 47 k0) 71 48 k0) 71 55 k0)).1 71 45).toInt ≤ 1600 := hty.1 71 45
      have hty_waits : (0 : Int) ≤ (((pI (pI (pI (pI (pI u7 71 56 k0) 105 v6.toNatClampNeg v13) 71 47 k0) 71 48 k0) 71 55 k0)).1 71 47).toInt ∧ (((pI (pI (pI (pI (pI u7 71 56 k0) 105 v6.toNatClampNeg v13) 71 47 k0) 71 48 k0) 71 55 k0)).1 71 47).toInt ≤ 1700 := hty.1 71 47
      have hty_at : (0 : Int) ≤ (((pI (pI (pI (pI (pI u7 71 56 k0) 105 v6.toNatClampNeg v13) 71 47 k0) 71 48 k0) 71 55 k0)).1 71 2).toInt ∧ (((pI (pI (pI (pI (pI u7 71 56 k0) 105 v6.toNatClampNeg v13) 71 47 k0) 71 48 k0) 71 55 k0)).1 71 2).toInt ≤ 1600 := hty.1 71 2
      clear hty
      refine r_iast (n := 48) (lo := 0) (hi := 1600) C rfl (by decide) rfl rfl ⟨by omega, by omega⟩ (by decide) rfl rfl rfl rfl ⟨by omega, by omega⟩ (oDec_at oX12_testTold 50 rfl) ?_
      refine r_pc C 85 rfl ?_
      refine r_aload_n C (j := 0) (oDec_at oX12_testTold 51 rfl) rfl rfl ?_
      refine r_getF (k := 49) (b := 104) C oCl12 rfl (by decide) flX12_114 rfl rfl rfl (oDec_at oX12_testTold 52 rfl) ?_
      refine r_iconst C (oDec_at oX12_testTold 53 rfl) (v := k2) (by rw [qk2]; rfl) ?_
      refine r_iload_n C (j := 1) (oDec_at oX12_testTold 54 rfl) rfl rfl ?_
      obtain ⟨v33, ev33⟩ : ∃ z : Int32, z = k2 + a1 := ⟨_, rfl⟩
      have hv33 : v33.toInt = k2.toInt + a1.toInt := n_add ev33 (by omega) (by omega)
      refine r_iadd C v33 (oDec_at oX12_testTold 55 rfl) ev33 ?_
      refine r_dup2 C (oDec_at oX12_testTold 56 rfl) rfl rfl ?_
      refine r_pc C 93 rfl ?_
      obtain ⟨v35, ev35⟩ : ∃ z : Int32, ((pI (pI (pI (pI (pI (pI u7 71 56 k0) 105 v6.toNatClampNeg v13) 71 47 k0) 71 48 k0) 71 55 k0) 106 v6.toNatClampNeg v13)).1 104 v33.toNatClampNeg = z := ⟨_, rfl⟩
      have av35 : s.1 104 v33.toNatClampNeg = v35 := (((pI_ne (a := 104) (b := v33.toNatClampNeg) (c := 106) _ _ (Or.inl (by decide)))).trans (((pI_ne (a := 104) (b := v33.toNatClampNeg) (c := 71) _ _ (Or.inl (by decide)))).trans (((pI_ne (a := 104) (b := v33.toNatClampNeg) (c := 71) _ _ (Or.inl (by decide)))).trans (((pI_ne (a := 104) (b := v33.toNatClampNeg) (c := 71) _ _ (Or.inl (by decide)))).trans (((pI_ne (a := 104) (b := v33.toNatClampNeg) (c := 105) _ _ (Or.inl (by decide)))).trans (((pI_ne (a := 104) (b := v33.toNatClampNeg) (c := 71) _ _ (Or.inl (by decide)))).trans ((fu7 104 v33.toNatClampNeg rfl).1))))))).symm.trans ev35
      have gv35 : (s.1 104 v33.toNatClampNeg).toInt = v35.toInt := congrArg Int32.toInt ((((pI_ne (a := 104) (b := v33.toNatClampNeg) (c := 106) _ _ (Or.inl (by decide)))).trans (((pI_ne (a := 104) (b := v33.toNatClampNeg) (c := 71) _ _ (Or.inl (by decide)))).trans (((pI_ne (a := 104) (b := v33.toNatClampNeg) (c := 71) _ _ (Or.inl (by decide)))).trans (((pI_ne (a := 104) (b := v33.toNatClampNeg) (c := 71) _ _ (Or.inl (by decide)))).trans (((pI_ne (a := 104) (b := v33.toNatClampNeg) (c := 105) _ _ (Or.inl (by decide)))).trans (((pI_ne (a := 104) (b := v33.toNatClampNeg) (c := 71) _ _ (Or.inl (by decide)))).trans ((fu7 104 v33.toNatClampNeg rfl).1))))))).symm.trans ev35)
      refine r_iald (n := 4) (lo := 0) (hi := 12) C v35 rfl (by decide) rfl rfl ⟨by omega, by omega⟩ (by decide) ev35 rfl rfl (oDec_at oX12_testTold 57 rfl) (fun b34 b34h => ?_)
      have lc36 : (((pI (pI (pI (pI (pI (pI u7 71 56 k0) 105 v6.toNatClampNeg v13) 71 47 k0) 71 48 k0) 71 55 k0) 106 v6.toNatClampNeg v13)).1 104 2).toInt = (s.1 104 2).toInt := congrArg Int32.toInt (((pI_ne (a := 104) (b := 2) (c := 106) _ _ (Or.inl (by decide)))).trans (((pI_ne (a := 104) (b := 2) (c := 71) _ _ (Or.inl (by decide)))).trans (((pI_ne (a := 104) (b := 2) (c := 71) _ _ (Or.inl (by decide)))).trans (((pI_ne (a := 104) (b := 2) (c := 71) _ _ (Or.inl (by decide)))).trans (((pI_ne (a := 104) (b := 2) (c := 105) _ _ (Or.inl (by decide)))).trans (((pI_ne (a := 104) (b := 2) (c := 71) _ _ (Or.inl (by decide)))).trans ((fu7 104 2 rfl).1)))))))
      have lc37 : (((pI (pI (pI (pI (pI (pI u7 71 56 k0) 105 v6.toNatClampNeg v13) 71 47 k0) 71 48 k0) 71 55 k0) 106 v6.toNatClampNeg v13)).1 104 3).toInt = (s.1 104 3).toInt := congrArg Int32.toInt (((pI_ne (a := 104) (b := 3) (c := 106) _ _ (Or.inl (by decide)))).trans (((pI_ne (a := 104) (b := 3) (c := 71) _ _ (Or.inl (by decide)))).trans (((pI_ne (a := 104) (b := 3) (c := 71) _ _ (Or.inl (by decide)))).trans (((pI_ne (a := 104) (b := 3) (c := 71) _ _ (Or.inl (by decide)))).trans (((pI_ne (a := 104) (b := 3) (c := 105) _ _ (Or.inl (by decide)))).trans (((pI_ne (a := 104) (b := 3) (c := 71) _ _ (Or.inl (by decide)))).trans ((fu7 104 3 rfl).1)))))))
      have hix2 := oIxM (i := v33) ev35
      refine r_iconst C (oDec_at oX12_testTold 58 rfl) (v := k1) (by rw [qk1]; rfl) ?_
      obtain ⟨v38, ev38⟩ : ∃ z : Int32, z = v35 + k1 := ⟨_, rfl⟩
      have hv38 : v38.toInt = v35.toInt + k1.toInt := n_add ev38 (by omega) (by omega)
      refine r_iadd C v38 (oDec_at oX12_testTold 59 rfl) ev38 ?_
      refine r_iast (n := 4) (lo := 0) (hi := 12) C rfl (by decide) rfl rfl ⟨by omega, by omega⟩ (by decide) rfl rfl rfl rfl ⟨by omega, by omega⟩ (oDec_at oX12_testTold 60 rfl) ?_
      have lk39 : (((pI (pI (pI (pI (pI (pI (pI u7 71 56 k0) 105 v6.toNatClampNeg v13) 71 47 k0) 71 48 k0) 71 55 k0) 106 v6.toNatClampNeg v13) 104 v33.toNatClampNeg v38)).1 71 6).toInt = (u7.1 71 6).toInt := congrArg Int32.toInt (((pI_ne (a := 71) (b := 6) (c := 104) _ _ (Or.inl (by decide)))).trans (((pI_ne (a := 71) (b := 6) (c := 106) _ _ (Or.inl (by decide)))).trans (((pI_ne (a := 71) (b := 6) (c := 71) (k := 55) _ _ (Or.inr (by decide)))).trans (((pI_ne (a := 71) (b := 6) (c := 71) (k := 48) _ _ (Or.inr (by decide)))).trans (((pI_ne (a := 71) (b := 6) (c := 71) (k := 47) _ _ (Or.inr (by decide)))).trans (((pI_ne (a := 71) (b := 6) (c := 105) _ _ (Or.inl (by decide)))).trans ((pI_ne (a := 71) (b := 6) (c := 71) (k := 56) _ _ (Or.inr (by decide))))))))))
      have lk40 : (((pI (pI (pI (pI (pI (pI (pI u7 71 56 k0) 105 v6.toNatClampNeg v13) 71 47 k0) 71 48 k0) 71 55 k0) 106 v6.toNatClampNeg v13) 104 v33.toNatClampNeg v38)).1 71 5).toInt = v19.toInt := congrArg Int32.toInt (((pI_ne (a := 71) (b := 5) (c := 104) _ _ (Or.inl (by decide)))).trans (((pI_ne (a := 71) (b := 5) (c := 106) _ _ (Or.inl (by decide)))).trans (ev19)))
      have hmy := oMny3 (s := (pI (pI (pI (pI (pI (pI u7 71 56 k0) 105 v6.toNatClampNeg v13) 71 47 k0) 71 48 k0) 71 55 k0) 106 v6.toNatClampNeg v13)) (i := v33) (z := v38)
      have hmy2 := oMny23 (s := (pI (pI (pI (pI (pI (pI u7 71 56 k0) 105 v6.toNatClampNeg v13) 71 47 k0) 71 48 k0) 71 55 k0) 106 v6.toNatClampNeg v13)) (i := v33) (z := v38)
      have hq41 : oBB ((pI (pI (pI (pI (pI (pI (pI u7 71 56 k0) 105 v6.toNatClampNeg v13) 71 47 k0) 71 48 k0) 71 55 k0) 106 v6.toNatClampNeg v13) 104 v33.toNatClampNeg v38)) := by first | exact oBB_told (x := 1) (by assumption) hmB (by assumption) (by omega) | exact oBB_told0 (oBB_fr (oFr_oneI (q := 12) (m := 55) rfl (by rfl)) rfl (oBB_fr (oFr_oneI (q := 12) (m := 48) rfl (by rfl)) rfl (oBB_fr (oFr_oneI (q := 12) (m := 47) rfl (by rfl)) rfl hq18))) (by omega) hmB (by omega) (by omega)
      have lk42 : (((pI (pI (pI (pI (pI (pI (pI u7 71 56 k0) 105 v6.toNatClampNeg v13) 71 47 k0) 71 48 k0) 71 55 k0) 106 v6.toNatClampNeg v13) 104 v33.toNatClampNeg v38)).1 71 5).toInt = v19.toInt := congrArg Int32.toInt (((pI_ne (a := 71) (b := 5) (c := 104) _ _ (Or.inl (by decide)))).trans (((pI_ne (a := 71) (b := 5) (c := 106) _ _ (Or.inl (by decide)))).trans (ev19)))
      have lk43 : (((pI (pI (pI (pI (pI (pI (pI u7 71 56 k0) 105 v6.toNatClampNeg v13) 71 47 k0) 71 48 k0) 71 55 k0) 106 v6.toNatClampNeg v13) 104 v33.toNatClampNeg v38)).1 71 45).toInt = v13.toInt := congrArg Int32.toInt (((pI_ne (a := 71) (b := 45) (c := 104) _ _ (Or.inl (by decide)))).trans (((pI_ne (a := 71) (b := 45) (c := 106) _ _ (Or.inl (by decide)))).trans (((pI_ne (a := 71) (b := 45) (c := 71) (k := 55) _ _ (Or.inr (by decide)))).trans (((pI_ne (a := 71) (b := 45) (c := 71) (k := 48) _ _ (Or.inr (by decide)))).trans (((pI_ne (a := 71) (b := 45) (c := 71) (k := 47) _ _ (Or.inr (by decide)))).trans (((pI_ne (a := 71) (b := 45) (c := 105) _ _ (Or.inl (by decide)))).trans (ev13)))))))
      have lk44 : (((pI (pI (pI (pI (pI (pI (pI u7 71 56 k0) 105 v6.toNatClampNeg v13) 71 47 k0) 71 48 k0) 71 55 k0) 106 v6.toNatClampNeg v13) 104 v33.toNatClampNeg v38)).1 71 2).toInt = (u7.1 71 2).toInt := congrArg Int32.toInt (((pI_ne (a := 71) (b := 2) (c := 104) _ _ (Or.inl (by decide)))).trans (((pI_ne (a := 71) (b := 2) (c := 106) _ _ (Or.inl (by decide)))).trans (((pI_ne (a := 71) (b := 2) (c := 71) (k := 55) _ _ (Or.inr (by decide)))).trans (((pI_ne (a := 71) (b := 2) (c := 71) (k := 48) _ _ (Or.inr (by decide)))).trans (((pI_ne (a := 71) (b := 2) (c := 71) (k := 47) _ _ (Or.inr (by decide)))).trans (((pI_ne (a := 71) (b := 2) (c := 105) _ _ (Or.inl (by decide)))).trans ((pI_ne (a := 71) (b := 2) (c := 71) (k := 56) _ _ (Or.inr (by decide))))))))))
      have lk45 : (((pI (pI (pI (pI (pI (pI (pI u7 71 56 k0) 105 v6.toNatClampNeg v13) 71 47 k0) 71 48 k0) 71 55 k0) 106 v6.toNatClampNeg v13) 104 v33.toNatClampNeg v38)).1 71 2).toInt = (u7.1 71 2).toInt := congrArg Int32.toInt (((pI_ne (a := 71) (b := 2) (c := 104) _ _ (Or.inl (by decide)))).trans (((pI_ne (a := 71) (b := 2) (c := 106) _ _ (Or.inl (by decide)))).trans (((pI_ne (a := 71) (b := 2) (c := 71) (k := 55) _ _ (Or.inr (by decide)))).trans (((pI_ne (a := 71) (b := 2) (c := 71) (k := 48) _ _ (Or.inr (by decide)))).trans (((pI_ne (a := 71) (b := 2) (c := 71) (k := 47) _ _ (Or.inr (by decide)))).trans (((pI_ne (a := 71) (b := 2) (c := 105) _ _ (Or.inl (by decide)))).trans ((pI_ne (a := 71) (b := 2) (c := 71) (k := 56) _ _ (Or.inr (by decide))))))))))
      exact r_vret C (oDec_at oX12_testTold 61 rfl) ⟨rfl, ⟨hq41, by omega, by omega, by omega, (oqVs_fr (oFr_oneI (q := 80) (m := 9999) rfl (by rfl)) rfl (oqVs_fr (oFr_oneI (q := 82) (m := 9999) rfl (by rfl)) rfl hq27)), by omega, by omega, (oqBP_fr (oFr_oneI (q := 80) (m := 9999) rfl (by rfl)) rfl (oqBP_fr (oFr_oneI (q := 82) (m := 9999) rfl (by rfl)) rfl (oqBP_fr (oFr_oneI (q := 12) (m := 55) rfl (by rfl)) rfl (oqBP_fr (oFr_oneI (q := 12) (m := 48) rfl (by rfl)) rfl (oqBP_fr (oFr_oneI (q := 12) (m := 47) rfl (by rfl)) rfl (oqBP_fr (oFr_oneI (q := 81) (m := 9999) rfl (by rfl)) rfl (oqBP_fr (oFr_oneI (q := 12) (m := 56) rfl (by rfl)) rfl pu7_3)))))))⟩⟩
    · skip
      have lk46 : (((pI (pI (pI (pI (pI u7 71 56 k0) 105 v6.toNatClampNeg v13) 71 47 k0) 71 48 k0) 71 55 k0)).1 71 2).toInt = (u7.1 71 2).toInt := congrArg Int32.toInt (((pI_ne (a := 71) (b := 2) (c := 71) (k := 55) _ _ (Or.inr (by decide)))).trans (((pI_ne (a := 71) (b := 2) (c := 71) (k := 48) _ _ (Or.inr (by decide)))).trans (((pI_ne (a := 71) (b := 2) (c := 71) (k := 47) _ _ (Or.inr (by decide)))).trans (((pI_ne (a := 71) (b := 2) (c := 105) _ _ (Or.inl (by decide)))).trans ((pI_ne (a := 71) (b := 2) (c := 71) (k := 56) _ _ (Or.inr (by decide))))))))
      have lk47 : (((pI (pI (pI (pI (pI u7 71 56 k0) 105 v6.toNatClampNeg v13) 71 47 k0) 71 48 k0) 71 55 k0)).1 71 4).toInt = (u7.1 71 4).toInt := congrArg Int32.toInt (((pI_ne (a := 71) (b := 4) (c := 71) (k := 55) _ _ (Or.inr (by decide)))).trans (((pI_ne (a := 71) (b := 4) (c := 71) (k := 48) _ _ (Or.inr (by decide)))).trans (((pI_ne (a := 71) (b := 4) (c := 71) (k := 47) _ _ (Or.inr (by decide)))).trans (((pI_ne (a := 71) (b := 4) (c := 105) _ _ (Or.inl (by decide)))).trans ((pI_ne (a := 71) (b := 4) (c := 71) (k := 56) _ _ (Or.inr (by decide))))))))
      have lk48 : (((pI (pI (pI (pI (pI u7 71 56 k0) 105 v6.toNatClampNeg v13) 71 47 k0) 71 48 k0) 71 55 k0)).1 71 5).toInt = v19.toInt := congrArg Int32.toInt (ev19)
      have lk49 : (((pI (pI (pI (pI (pI u7 71 56 k0) 105 v6.toNatClampNeg v13) 71 47 k0) 71 48 k0) 71 55 k0)).1 71 48).toInt = k0.toInt := congrArg Int32.toInt (((pI_ne (a := 71) (b := 48) (c := 71) (k := 55) _ _ (Or.inr (by decide)))).trans ((pI_self _ _ _ _)))
      have lk50 : (((pI (pI (pI (pI (pI u7 71 56 k0) 105 v6.toNatClampNeg v13) 71 47 k0) 71 48 k0) 71 55 k0)).1 71 47).toInt = k0.toInt := congrArg Int32.toInt (((pI_ne (a := 71) (b := 47) (c := 71) (k := 55) _ _ (Or.inr (by decide)))).trans (((pI_ne (a := 71) (b := 47) (c := 71) (k := 48) _ _ (Or.inr (by decide)))).trans ((pI_self _ _ _ _))))
      have lk51 : (((pI (pI (pI (pI (pI u7 71 56 k0) 105 v6.toNatClampNeg v13) 71 47 k0) 71 48 k0) 71 55 k0)).1 71 56).toInt = k0.toInt := congrArg Int32.toInt (((pI_ne (a := 71) (b := 56) (c := 71) (k := 55) _ _ (Or.inr (by decide)))).trans (((pI_ne (a := 71) (b := 56) (c := 71) (k := 48) _ _ (Or.inr (by decide)))).trans (((pI_ne (a := 71) (b := 56) (c := 71) (k := 47) _ _ (Or.inr (by decide)))).trans (((pI_ne (a := 71) (b := 56) (c := 105) _ _ (Or.inl (by decide)))).trans ((pI_self _ _ _ _))))))
      have hq52 : oqMo fp fq ((pI (pI (pI (pI (pI u7 71 56 k0) 105 v6.toNatClampNeg v13) 71 47 k0) 71 48 k0) 71 55 k0)) := (by unfold oqMo; omega)
      have hq53 : oqTt g fp fq (0, oqSk g (oqHa g w 6), oqHa g w 6, 0, []) 0 ((pI (pI (pI (pI (pI u7 71 56 k0) 105 v6.toNatClampNeg v13) 71 47 k0) 71 48 k0) 71 55 k0)) := oqTt_0 (by omega) (by omega) (by omega) (by omega) (by omega)
      refine r_aload_n C (j := 0) (oDec_at oX12_testTold 43 rfl) rfl rfl ?_
      have lc54 : (((pI (pI (pI (pI (pI u7 71 56 k0) 105 v6.toNatClampNeg v13) 71 47 k0) 71 48 k0) 71 55 k0)).1 104 2).toInt = (s.1 104 2).toInt := congrArg Int32.toInt (((pI_ne (a := 104) (b := 2) (c := 71) _ _ (Or.inl (by decide)))).trans (((pI_ne (a := 104) (b := 2) (c := 71) _ _ (Or.inl (by decide)))).trans (((pI_ne (a := 104) (b := 2) (c := 71) _ _ (Or.inl (by decide)))).trans (((pI_ne (a := 104) (b := 2) (c := 105) _ _ (Or.inl (by decide)))).trans (((pI_ne (a := 104) (b := 2) (c := 71) _ _ (Or.inl (by decide)))).trans ((fu7 104 2 rfl).1))))))
      have lc55 : (((pI (pI (pI (pI (pI u7 71 56 k0) 105 v6.toNatClampNeg v13) 71 47 k0) 71 48 k0) 71 55 k0)).1 104 3).toInt = (s.1 104 3).toInt := congrArg Int32.toInt (((pI_ne (a := 104) (b := 3) (c := 71) _ _ (Or.inl (by decide)))).trans (((pI_ne (a := 104) (b := 3) (c := 71) _ _ (Or.inl (by decide)))).trans (((pI_ne (a := 104) (b := 3) (c := 71) _ _ (Or.inl (by decide)))).trans (((pI_ne (a := 104) (b := 3) (c := 105) _ _ (Or.inl (by decide)))).trans (((pI_ne (a := 104) (b := 3) (c := 71) _ _ (Or.inl (by decide)))).trans ((fu7 104 3 rfl).1))))))
      have hq56 : oQ 9999 0 ((pI (pI (pI (pI (pI u7 71 56 k0) 105 v6.toNatClampNeg v13) 71 47 k0) 71 48 k0) 71 55 k0)) := oQ_init (oBB_fr (oFr_oneI (q := 12) (m := 55) rfl (by rfl)) rfl (oBB_fr (oFr_oneI (q := 12) (m := 48) rfl (by rfl)) rfl (oBB_fr (oFr_oneI (q := 12) (m := 47) rfl (by rfl)) rfl hq18))) (by omega) (by omega) (by assumption) (by omega)
      have lk57 : (((pI (pI (pI (pI (pI u7 71 56 k0) 105 v6.toNatClampNeg v13) 71 47 k0) 71 48 k0) 71 55 k0)).1 71 5).toInt = v19.toInt := congrArg Int32.toInt (ev19)
      have lk58 : (((pI (pI (pI (pI (pI u7 71 56 k0) 105 v6.toNatClampNeg v13) 71 47 k0) 71 48 k0) 71 55 k0)).1 71 48).toInt = k0.toInt := congrArg Int32.toInt (((pI_ne (a := 71) (b := 48) (c := 71) (k := 55) _ _ (Or.inr (by decide)))).trans ((pI_self _ _ _ _)))
      have lk59 : (((pI (pI (pI (pI (pI u7 71 56 k0) 105 v6.toNatClampNeg v13) 71 47 k0) 71 48 k0) 71 55 k0)).1 71 45).toInt = v13.toInt := congrArg Int32.toInt (((pI_ne (a := 71) (b := 45) (c := 71) (k := 55) _ _ (Or.inr (by decide)))).trans (((pI_ne (a := 71) (b := 45) (c := 71) (k := 48) _ _ (Or.inr (by decide)))).trans (((pI_ne (a := 71) (b := 45) (c := 71) (k := 47) _ _ (Or.inr (by decide)))).trans (((pI_ne (a := 71) (b := 45) (c := 105) _ _ (Or.inl (by decide)))).trans (ev13)))))
      have lk60 : (((pI (pI (pI (pI (pI u7 71 56 k0) 105 v6.toNatClampNeg v13) 71 47 k0) 71 48 k0) 71 55 k0)).1 71 47).toInt = k0.toInt := congrArg Int32.toInt (((pI_ne (a := 71) (b := 47) (c := 71) (k := 55) _ _ (Or.inr (by decide)))).trans (((pI_ne (a := 71) (b := 47) (c := 71) (k := 48) _ _ (Or.inr (by decide)))).trans ((pI_self _ _ _ _))))
      have lk61 : (((pI (pI (pI (pI (pI u7 71 56 k0) 105 v6.toNatClampNeg v13) 71 47 k0) 71 48 k0) 71 55 k0)).1 71 2).toInt = (u7.1 71 2).toInt := congrArg Int32.toInt (((pI_ne (a := 71) (b := 2) (c := 71) (k := 55) _ _ (Or.inr (by decide)))).trans (((pI_ne (a := 71) (b := 2) (c := 71) (k := 48) _ _ (Or.inr (by decide)))).trans (((pI_ne (a := 71) (b := 2) (c := 71) (k := 47) _ _ (Or.inr (by decide)))).trans (((pI_ne (a := 71) (b := 2) (c := 105) _ _ (Or.inl (by decide)))).trans ((pI_ne (a := 71) (b := 2) (c := 71) (k := 56) _ _ (Or.inr (by decide))))))))
      have lk62 : (((pI (pI (pI (pI (pI u7 71 56 k0) 105 v6.toNatClampNeg v13) 71 47 k0) 71 48 k0) 71 55 k0)).1 71 2).toInt = (u7.1 71 2).toInt := congrArg Int32.toInt (((pI_ne (a := 71) (b := 2) (c := 71) (k := 55) _ _ (Or.inr (by decide)))).trans (((pI_ne (a := 71) (b := 2) (c := 71) (k := 48) _ _ (Or.inr (by decide)))).trans (((pI_ne (a := 71) (b := 2) (c := 71) (k := 47) _ _ (Or.inr (by decide)))).trans (((pI_ne (a := 71) (b := 2) (c := 105) _ _ (Or.inl (by decide)))).trans ((pI_ne (a := 71) (b := 2) (c := 71) (k := 56) _ _ (Or.inr (by decide))))))))
      have lk63 : (((pI (pI (pI (pI (pI u7 71 56 k0) 105 v6.toNatClampNeg v13) 71 47 k0) 71 48 k0) 71 55 k0)).1 71 45).toInt = v13.toInt := congrArg Int32.toInt (((pI_ne (a := 71) (b := 45) (c := 71) (k := 55) _ _ (Or.inr (by decide)))).trans (((pI_ne (a := 71) (b := 45) (c := 71) (k := 48) _ _ (Or.inr (by decide)))).trans (((pI_ne (a := 71) (b := 45) (c := 71) (k := 47) _ _ (Or.inr (by decide)))).trans (((pI_ne (a := 71) (b := 45) (c := 105) _ _ (Or.inl (by decide)))).trans (ev13)))))
      have lk64 : (((pI (pI (pI (pI (pI u7 71 56 k0) 105 v6.toNatClampNeg v13) 71 47 k0) 71 48 k0) 71 55 k0)).1 71 47).toInt = k0.toInt := congrArg Int32.toInt (((pI_ne (a := 71) (b := 47) (c := 71) (k := 55) _ _ (Or.inr (by decide)))).trans (((pI_ne (a := 71) (b := 47) (c := 71) (k := 48) _ _ (Or.inr (by decide)))).trans ((pI_self _ _ _ _))))
      have lk65 : (((pI (pI (pI (pI (pI u7 71 56 k0) 105 v6.toNatClampNeg v13) 71 47 k0) 71 48 k0) 71 55 k0)).1 71 2).toInt = (u7.1 71 2).toInt := congrArg Int32.toInt (((pI_ne (a := 71) (b := 2) (c := 71) (k := 55) _ _ (Or.inr (by decide)))).trans (((pI_ne (a := 71) (b := 2) (c := 71) (k := 48) _ _ (Or.inr (by decide)))).trans (((pI_ne (a := 71) (b := 2) (c := 71) (k := 47) _ _ (Or.inr (by decide)))).trans (((pI_ne (a := 71) (b := 2) (c := 105) _ _ (Or.inl (by decide)))).trans ((pI_ne (a := 71) (b := 2) (c := 71) (k := 56) _ _ (Or.inr (by decide))))))))
      have lk66 : (((pI (pI (pI (pI (pI u7 71 56 k0) 105 v6.toNatClampNeg v13) 71 47 k0) 71 48 k0) 71 55 k0)).1 71 45).toInt = v13.toInt := congrArg Int32.toInt (((pI_ne (a := 71) (b := 45) (c := 71) (k := 55) _ _ (Or.inr (by decide)))).trans (((pI_ne (a := 71) (b := 45) (c := 71) (k := 48) _ _ (Or.inr (by decide)))).trans (((pI_ne (a := 71) (b := 45) (c := 71) (k := 47) _ _ (Or.inr (by decide)))).trans (((pI_ne (a := 71) (b := 45) (c := 105) _ _ (Or.inl (by decide)))).trans (ev13)))))
      have lk67 : (((pI (pI (pI (pI (pI u7 71 56 k0) 105 v6.toNatClampNeg v13) 71 47 k0) 71 48 k0) 71 55 k0)).1 71 47).toInt = k0.toInt := congrArg Int32.toInt (((pI_ne (a := 71) (b := 47) (c := 71) (k := 55) _ _ (Or.inr (by decide)))).trans (((pI_ne (a := 71) (b := 47) (c := 71) (k := 48) _ _ (Or.inr (by decide)))).trans ((pI_self _ _ _ _))))
      have lk68 : (((pI (pI (pI (pI (pI u7 71 56 k0) 105 v6.toNatClampNeg v13) 71 47 k0) 71 48 k0) 71 55 k0)).1 71 2).toInt = (u7.1 71 2).toInt := congrArg Int32.toInt (((pI_ne (a := 71) (b := 2) (c := 71) (k := 55) _ _ (Or.inr (by decide)))).trans (((pI_ne (a := 71) (b := 2) (c := 71) (k := 48) _ _ (Or.inr (by decide)))).trans (((pI_ne (a := 71) (b := 2) (c := 71) (k := 47) _ _ (Or.inr (by decide)))).trans (((pI_ne (a := 71) (b := 2) (c := 105) _ _ (Or.inl (by decide)))).trans ((pI_ne (a := 71) (b := 2) (c := 71) (k := 56) _ _ (Or.inr (by decide))))))))
      refine r_callVv C oCl12 rfl miX12_test mlX12_334 (ct7_X12_test l E ((pI (pI (pI (pI (pI u7 71 56 k0) 105 v6.toNatClampNeg v13) 71 47 k0) 71 48 k0) 71 55 k0))  (g) (fp) (fq) (0, oqSk g (oqHa g w 6), oqHa g w 6, 0, []) hq56 (by omega) (by omega) (by omega) hq53 (oqZ_fr (oFr_oneI (q := 12) (m := 55) rfl (by rfl)) rfl (oqZ_fr (oFr_oneI (q := 12) (m := 48) rfl (by rfl)) rfl (oqZ_fr (oFr_oneI (q := 12) (m := 47) rfl (by rfl)) rfl (oqZ_fr (oFr_oneI (q := 81) (m := 9999) rfl (by rfl)) rfl (oqZ_fr (oFr_oneI (q := 12) (m := 56) rfl (by rfl)) rfl (oqZ_fr fu7 rfl hp10)))))) (oqWd_fr (oFr_oneI (q := 12) (m := 55) rfl (by rfl)) rfl (oqWd_fr (oFr_oneI (q := 12) (m := 48) rfl (by rfl)) rfl (oqWd_fr (oFr_oneI (q := 12) (m := 47) rfl (by rfl)) rfl (oqWd_fr (oFr_oneI (q := 81) (m := 9999) rfl (by rfl)) rfl (oqWd_fr (oFr_oneI (q := 12) (m := 56) rfl (by rfl)) rfl (oqWd_fr fu7 rfl hp11)))))) hq52 (oqBP_fr (oFr_oneI (q := 12) (m := 55) rfl (by rfl)) rfl (oqBP_fr (oFr_oneI (q := 12) (m := 48) rfl (by rfl)) rfl (oqBP_fr (oFr_oneI (q := 12) (m := 47) rfl (by rfl)) rfl (oqBP_fr (oFr_oneI (q := 81) (m := 9999) rfl (by rfl)) rfl (oqBP_fr (oFr_oneI (q := 12) (m := 56) rfl (by rfl)) rfl pu7_3)))))) (by decide) rfl rfl rfl (Nat.le_of_ble_eq_true rfl) (oDec_at oX12_testTold 44 rfl) (fun u69 pu69 fu69 => ?_)
      try dsimp only at pu69
      try simp only [lk57, lk58, lk59, lk60, lk61, lk62, lk63, lk64, lk65, lk66, lk67, lk68] at pu69
      obtain ⟨pu69_0, pu69_1, pu69_2, pu69_3, pu69_4, pu69_5⟩ := pu69
      have hq71 : oqVs g fp fq w (u69) := (by first | exact oqVs_t (by omega) pu69_4 | exact oqVs_w (by omega) (by omega) (by omega))
      refine r_aload_n C (j := 0) (oDec_at oX12_testTold 45 rfl) rfl rfl ?_
      refine r_getF (k := 51) (b := 106) C oCl12 rfl (by decide) flX12_120 rfl rfl rfl (oDec_at oX12_testTold 46 rfl) ?_
      refine r_iload_n C (j := 2) (oDec_at oX12_testTold 47 rfl) rfl rfl ?_
      refine r_aload_n C (j := 0) (oDec_at oX12_testTold 48 rfl) rfl rfl ?_
      refine r_pc C 81 rfl ?_
      obtain ⟨v72, ev72⟩ : ∃ z : Int32, (u69).1 71 45 = z := ⟨_, rfl⟩
      have gv72 : (u69.1 71 45).toInt = v72.toInt := congrArg Int32.toInt (ev72)
      refine r_geti (k := 45) (lo := 0) (hi := 1600) C v72 oCl12 rfl (by decide) flX12_234 rfl rfl (ev72) rfl rfl (oDec_at oX12_testTold 49 rfl) (fun b73 b73h => ?_)
      have lc74 : ((u69).1 104 2).toInt = (s.1 104 2).toInt := congrArg Int32.toInt (((fu69 104 2 rfl).1).trans (((pI_ne (a := 104) (b := 2) (c := 71) _ _ (Or.inl (by decide)))).trans (((pI_ne (a := 104) (b := 2) (c := 71) _ _ (Or.inl (by decide)))).trans (((pI_ne (a := 104) (b := 2) (c := 71) _ _ (Or.inl (by decide)))).trans (((pI_ne (a := 104) (b := 2) (c := 105) _ _ (Or.inl (by decide)))).trans (((pI_ne (a := 104) (b := 2) (c := 71) _ _ (Or.inl (by decide)))).trans ((fu7 104 2 rfl).1)))))))
      have lc75 : ((u69).1 104 3).toInt = (s.1 104 3).toInt := congrArg Int32.toInt (((fu69 104 3 rfl).1).trans (((pI_ne (a := 104) (b := 3) (c := 71) _ _ (Or.inl (by decide)))).trans (((pI_ne (a := 104) (b := 3) (c := 71) _ _ (Or.inl (by decide)))).trans (((pI_ne (a := 104) (b := 3) (c := 71) _ _ (Or.inl (by decide)))).trans (((pI_ne (a := 104) (b := 3) (c := 105) _ _ (Or.inl (by decide)))).trans (((pI_ne (a := 104) (b := 3) (c := 71) _ _ (Or.inl (by decide)))).trans ((fu7 104 3 rfl).1)))))))
      have lk76 : ((u69).1 71 45).toInt = v72.toInt := congrArg Int32.toInt (ev72)
      have lk77 : ((u69).1 71 56).toInt = k0.toInt := congrArg Int32.toInt (((fu69 71 56 rfl).1).trans (((pI_ne (a := 71) (b := 56) (c := 71) (k := 55) _ _ (Or.inr (by decide)))).trans (((pI_ne (a := 71) (b := 56) (c := 71) (k := 48) _ _ (Or.inr (by decide)))).trans (((pI_ne (a := 71) (b := 56) (c := 71) (k := 47) _ _ (Or.inr (by decide)))).trans (((pI_ne (a := 71) (b := 56) (c := 105) _ _ (Or.inl (by decide)))).trans ((pI_self _ _ _ _)))))))
      refine r_ty C (fun hty => ?_)
      have hmB : ∀ i : Nat, (0 : Int) ≤ ((u69).1 104 i).toInt ∧ ((u69).1 104 i).toInt ≤ 12 := fun i => hty.1 104 i
      have hmB2 := hmB 2
      have hmB3 := hmB 3
      clear hty
      refine r_ty C (fun hty => ?_)
      have hty_coded : (0 : Int) ≤ ((u69).1 71 45).toInt ∧ ((u69).1 71 45).toInt ≤ 1600 := hty.1 71 45
      have hty_waits : (0 : Int) ≤ ((u69).1 71 47).toInt ∧ ((u69).1 71 47).toInt ≤ 1700 := hty.1 71 47
      have hty_at : (0 : Int) ≤ ((u69).1 71 2).toInt ∧ ((u69).1 71 2).toInt ≤ 1600 := hty.1 71 2
      clear hty
      refine r_iast (n := 48) (lo := 0) (hi := 1600) C rfl (by decide) rfl rfl ⟨by omega, by omega⟩ (by decide) rfl rfl rfl rfl ⟨by omega, by omega⟩ (oDec_at oX12_testTold 50 rfl) ?_
      refine r_aload_n C (j := 0) (oDec_at oX12_testTold 51 rfl) rfl rfl ?_
      refine r_getF (k := 49) (b := 104) C oCl12 rfl (by decide) flX12_114 rfl rfl rfl (oDec_at oX12_testTold 52 rfl) ?_
      refine r_iconst C (oDec_at oX12_testTold 53 rfl) (v := k2) (by rw [qk2]; rfl) ?_
      refine r_iload_n C (j := 1) (oDec_at oX12_testTold 54 rfl) rfl rfl ?_
      refine r_pc C 91 rfl ?_
      obtain ⟨v78, ev78⟩ : ∃ z : Int32, z = k2 + a1 := ⟨_, rfl⟩
      have hv78 : v78.toInt = k2.toInt + a1.toInt := n_add ev78 (by omega) (by omega)
      refine r_iadd C v78 (oDec_at oX12_testTold 55 rfl) ev78 ?_
      refine r_dup2 C (oDec_at oX12_testTold 56 rfl) rfl rfl ?_
      obtain ⟨v80, ev80⟩ : ∃ z : Int32, ((pI u69 106 v6.toNatClampNeg v72)).1 104 v78.toNatClampNeg = z := ⟨_, rfl⟩
      have av80 : s.1 104 v78.toNatClampNeg = v80 := (((pI_ne (a := 104) (b := v78.toNatClampNeg) (c := 106) _ _ (Or.inl (by decide)))).trans (((fu69 104 v78.toNatClampNeg rfl).1).trans (((pI_ne (a := 104) (b := v78.toNatClampNeg) (c := 71) _ _ (Or.inl (by decide)))).trans (((pI_ne (a := 104) (b := v78.toNatClampNeg) (c := 71) _ _ (Or.inl (by decide)))).trans (((pI_ne (a := 104) (b := v78.toNatClampNeg) (c := 71) _ _ (Or.inl (by decide)))).trans (((pI_ne (a := 104) (b := v78.toNatClampNeg) (c := 105) _ _ (Or.inl (by decide)))).trans (((pI_ne (a := 104) (b := v78.toNatClampNeg) (c := 71) _ _ (Or.inl (by decide)))).trans ((fu7 104 v78.toNatClampNeg rfl).1)))))))).symm.trans ev80
      have gv80 : (s.1 104 v78.toNatClampNeg).toInt = v80.toInt := congrArg Int32.toInt ((((pI_ne (a := 104) (b := v78.toNatClampNeg) (c := 106) _ _ (Or.inl (by decide)))).trans (((fu69 104 v78.toNatClampNeg rfl).1).trans (((pI_ne (a := 104) (b := v78.toNatClampNeg) (c := 71) _ _ (Or.inl (by decide)))).trans (((pI_ne (a := 104) (b := v78.toNatClampNeg) (c := 71) _ _ (Or.inl (by decide)))).trans (((pI_ne (a := 104) (b := v78.toNatClampNeg) (c := 71) _ _ (Or.inl (by decide)))).trans (((pI_ne (a := 104) (b := v78.toNatClampNeg) (c := 105) _ _ (Or.inl (by decide)))).trans (((pI_ne (a := 104) (b := v78.toNatClampNeg) (c := 71) _ _ (Or.inl (by decide)))).trans ((fu7 104 v78.toNatClampNeg rfl).1)))))))).symm.trans ev80)
      refine r_iald (n := 4) (lo := 0) (hi := 12) C v80 rfl (by decide) rfl rfl ⟨by omega, by omega⟩ (by decide) ev80 rfl rfl (oDec_at oX12_testTold 57 rfl) (fun b79 b79h => ?_)
      have lc81 : (((pI u69 106 v6.toNatClampNeg v72)).1 104 2).toInt = (s.1 104 2).toInt := congrArg Int32.toInt (((pI_ne (a := 104) (b := 2) (c := 106) _ _ (Or.inl (by decide)))).trans (((fu69 104 2 rfl).1).trans (((pI_ne (a := 104) (b := 2) (c := 71) _ _ (Or.inl (by decide)))).trans (((pI_ne (a := 104) (b := 2) (c := 71) _ _ (Or.inl (by decide)))).trans (((pI_ne (a := 104) (b := 2) (c := 71) _ _ (Or.inl (by decide)))).trans (((pI_ne (a := 104) (b := 2) (c := 105) _ _ (Or.inl (by decide)))).trans (((pI_ne (a := 104) (b := 2) (c := 71) _ _ (Or.inl (by decide)))).trans ((fu7 104 2 rfl).1))))))))
      have lc82 : (((pI u69 106 v6.toNatClampNeg v72)).1 104 3).toInt = (s.1 104 3).toInt := congrArg Int32.toInt (((pI_ne (a := 104) (b := 3) (c := 106) _ _ (Or.inl (by decide)))).trans (((fu69 104 3 rfl).1).trans (((pI_ne (a := 104) (b := 3) (c := 71) _ _ (Or.inl (by decide)))).trans (((pI_ne (a := 104) (b := 3) (c := 71) _ _ (Or.inl (by decide)))).trans (((pI_ne (a := 104) (b := 3) (c := 71) _ _ (Or.inl (by decide)))).trans (((pI_ne (a := 104) (b := 3) (c := 105) _ _ (Or.inl (by decide)))).trans (((pI_ne (a := 104) (b := 3) (c := 71) _ _ (Or.inl (by decide)))).trans ((fu7 104 3 rfl).1))))))))
      have hix2 := oIxM (i := v78) ev80
      refine r_iconst C (oDec_at oX12_testTold 58 rfl) (v := k1) (by rw [qk1]; rfl) ?_
      obtain ⟨v83, ev83⟩ : ∃ z : Int32, z = v80 + k1 := ⟨_, rfl⟩
      have hv83 : v83.toInt = v80.toInt + k1.toInt := n_add ev83 (by omega) (by omega)
      refine r_iadd C v83 (oDec_at oX12_testTold 59 rfl) ev83 ?_
      refine r_iast (n := 4) (lo := 0) (hi := 12) C rfl (by decide) rfl rfl ⟨by omega, by omega⟩ (by decide) rfl rfl rfl rfl ⟨by omega, by omega⟩ (oDec_at oX12_testTold 60 rfl) ?_
      refine r_pc C 97 rfl ?_
      have lk84 : (((pI (pI u69 106 v6.toNatClampNeg v72) 104 v78.toNatClampNeg v83)).1 71 6).toInt = (u69.1 71 6).toInt := congrArg Int32.toInt (((pI_ne (a := 71) (b := 6) (c := 104) _ _ (Or.inl (by decide)))).trans ((pI_ne (a := 71) (b := 6) (c := 106) _ _ (Or.inl (by decide)))))
      have lk85 : (((pI (pI u69 106 v6.toNatClampNeg v72) 104 v78.toNatClampNeg v83)).1 71 5).toInt = (u69.1 71 5).toInt := congrArg Int32.toInt (((pI_ne (a := 71) (b := 5) (c := 104) _ _ (Or.inl (by decide)))).trans ((pI_ne (a := 71) (b := 5) (c := 106) _ _ (Or.inl (by decide)))))
      have hmy := oMny3 (s := (pI u69 106 v6.toNatClampNeg v72)) (i := v78) (z := v83)
      have hmy2 := oMny23 (s := (pI u69 106 v6.toNatClampNeg v72)) (i := v78) (z := v83)
      have hq86 : oBB ((pI (pI u69 106 v6.toNatClampNeg v72) 104 v78.toNatClampNeg v83)) := by first | exact oBB_told (x := 1) pu69_0 hmB (by assumption) (by omega) | exact oBB_told0 (by assumption) (by omega) hmB (by omega) (by omega)
      have lk87 : (((pI (pI u69 106 v6.toNatClampNeg v72) 104 v78.toNatClampNeg v83)).1 71 5).toInt = (u69.1 71 5).toInt := congrArg Int32.toInt (((pI_ne (a := 71) (b := 5) (c := 104) _ _ (Or.inl (by decide)))).trans ((pI_ne (a := 71) (b := 5) (c := 106) _ _ (Or.inl (by decide)))))
      have lk88 : (((pI (pI u69 106 v6.toNatClampNeg v72) 104 v78.toNatClampNeg v83)).1 71 45).toInt = v72.toInt := congrArg Int32.toInt (((pI_ne (a := 71) (b := 45) (c := 104) _ _ (Or.inl (by decide)))).trans (((pI_ne (a := 71) (b := 45) (c := 106) _ _ (Or.inl (by decide)))).trans (ev72)))
      have lk89 : (((pI (pI u69 106 v6.toNatClampNeg v72) 104 v78.toNatClampNeg v83)).1 71 2).toInt = (u69.1 71 2).toInt := congrArg Int32.toInt (((pI_ne (a := 71) (b := 2) (c := 104) _ _ (Or.inl (by decide)))).trans ((pI_ne (a := 71) (b := 2) (c := 106) _ _ (Or.inl (by decide)))))
      have lk90 : (((pI (pI u69 106 v6.toNatClampNeg v72) 104 v78.toNatClampNeg v83)).1 71 2).toInt = (u69.1 71 2).toInt := congrArg Int32.toInt (((pI_ne (a := 71) (b := 2) (c := 104) _ _ (Or.inl (by decide)))).trans ((pI_ne (a := 71) (b := 2) (c := 106) _ _ (Or.inl (by decide)))))
      exact r_vret C (oDec_at oX12_testTold 61 rfl) ⟨rfl, ⟨hq86, by omega, by omega, by omega, (oqVs_fr (oFr_oneI (q := 80) (m := 9999) rfl (by rfl)) rfl (oqVs_fr (oFr_oneI (q := 82) (m := 9999) rfl (by rfl)) rfl hq71)), by omega, by omega, (oqBP_fr (oFr_oneI (q := 80) (m := 9999) rfl (by rfl)) rfl (oqBP_fr (oFr_oneI (q := 82) (m := 9999) rfl (by rfl)) rfl pu69_5))⟩⟩
  · skip
    refine r_iconst C (oDec_at oX12_testTold 21 rfl) (v := k1) (by rw [qk1]; rfl) ?_
    refine r_goto C (tgt := 36) (oDec_at oX12_testTold 22 rfl) (by decide) ?_
    refine r_puti (k := 56) (lo := 0) (hi := 1) C oCl12 rfl (by decide) flX12_295 rfl rfl rfl rfl rfl (n_bool (by omega)) (n_fitz (by omega)) rfl ⟨by omega, by omega⟩ (oDec_at oX12_testTold 24 rfl) ?_
    refine r_aload_n C (j := 0) (oDec_at oX12_testTold 25 rfl) rfl rfl ?_
    refine r_getF (k := 50) (b := 105) C oCl12 rfl (by decide) flX12_117 rfl rfl rfl (oDec_at oX12_testTold 26 rfl) ?_
    refine r_iload_n C (j := 2) (oDec_at oX12_testTold 27 rfl) rfl rfl ?_
    refine r_aload_n C (j := 0) (oDec_at oX12_testTold 28 rfl) rfl rfl ?_
    refine r_pc C 45 rfl ?_
    obtain ⟨v91, ev91⟩ : ∃ z : Int32, ((pI u7 71 56 k1)).1 71 45 = z := ⟨_, rfl⟩
    have gv91 : (s.1 71 45).toInt = v91.toInt := congrArg Int32.toInt ((((pI_ne (a := 71) (b := 45) (c := 71) (k := 56) _ _ (Or.inr (by decide)))).trans ((fu7 71 45 rfl).1)).symm.trans ev91)
    have ggv91 : (((pI u7 71 56 k1)).1 71 45).toInt = v91.toInt := congrArg Int32.toInt ev91
    refine r_geti (k := 45) (lo := 0) (hi := 1600) C v91 oCl12 rfl (by decide) flX12_234 rfl rfl (ev91) rfl rfl (oDec_at oX12_testTold 29 rfl) (fun b92 b92h => ?_)
    have lc93 : (((pI u7 71 56 k1)).1 104 2).toInt = (s.1 104 2).toInt := congrArg Int32.toInt (((pI_ne (a := 104) (b := 2) (c := 71) _ _ (Or.inl (by decide)))).trans ((fu7 104 2 rfl).1))
    have lc94 : (((pI u7 71 56 k1)).1 104 3).toInt = (s.1 104 3).toInt := congrArg Int32.toInt (((pI_ne (a := 104) (b := 3) (c := 71) _ _ (Or.inl (by decide)))).trans ((fu7 104 3 rfl).1))
    have lk95 : (((pI u7 71 56 k1)).1 71 45).toInt = v91.toInt := congrArg Int32.toInt (ev91)
    refine r_ty C (fun hty => ?_)
    have hmA : ∀ i : Nat, (0 : Int) ≤ (((pI u7 71 56 k1)).1 104 i).toInt ∧ (((pI u7 71 56 k1)).1 104 i).toInt ≤ 12 := fun i => hty.1 104 i
    have hmA2 := hmA 2
    have hmA3 := hmA 3
    clear hty
    refine r_iast (n := 48) (lo := 0) (hi := 1600) C rfl (by decide) rfl rfl ⟨by omega, by omega⟩ (by decide) rfl rfl rfl rfl ⟨by omega, by omega⟩ (oDec_at oX12_testTold 30 rfl) ?_
    have hq96 : oBB ((pI (pI u7 71 56 k1) 105 v6.toNatClampNeg v91)) := oBB_from (oBB_fr (oFr_oneI (q := 12) (m := 56) rfl (by rfl)) rfl (oBB_frb fu7 rfl (by omega) hp0)) hmA (by omega)
    refine r_aload_n C (j := 0) (oDec_at oX12_testTold 31 rfl) rfl rfl ?_
    refine r_iconst C (oDec_at oX12_testTold 32 rfl) (v := k0) (by rw [qk0]; rfl) ?_
    refine r_puti (k := 47) (lo := 0) (hi := 1700) C oCl12 rfl (by decide) flX12_277 rfl rfl rfl rfl rfl rfl rfl rfl ⟨by omega, by omega⟩ (oDec_at oX12_testTold 33 rfl) ?_
    refine r_aload_n C (j := 0) (oDec_at oX12_testTold 34 rfl) rfl rfl ?_
    refine r_pc C 55 rfl ?_
    refine r_iconst C (oDec_at oX12_testTold 35 rfl) (v := k0) (by rw [qk0]; rfl) ?_
    refine r_puti (k := 48) (lo := (-1)) (hi := 7) C oCl12 rfl (by decide) flX12_274 rfl rfl rfl rfl rfl rfl rfl rfl ⟨by omega, by omega⟩ (oDec_at oX12_testTold 36 rfl) ?_
    refine r_aload_n C (j := 0) (oDec_at oX12_testTold 37 rfl) rfl rfl ?_
    refine r_iconst C (oDec_at oX12_testTold 38 rfl) (v := k0) (by rw [qk0]; rfl) ?_
    refine r_puti (k := 55) (lo := 0) (hi := 1700) C oCl12 rfl (by decide) flX12_283 rfl rfl rfl rfl rfl rfl rfl rfl ⟨by omega, by omega⟩ (oDec_at oX12_testTold 39 rfl) ?_
    refine r_aload_n C (j := 0) (oDec_at oX12_testTold 40 rfl) rfl rfl ?_
    refine r_pc C 65 rfl ?_
    obtain ⟨v97, ev97⟩ : ∃ z : Int32, ((pI (pI (pI (pI (pI u7 71 56 k1) 105 v6.toNatClampNeg v91) 71 47 k0) 71 48 k0) 71 55 k0)).1 71 5 = z := ⟨_, rfl⟩
    have gv97 : (u7.1 71 5).toInt = v97.toInt := congrArg Int32.toInt ((((pI_ne (a := 71) (b := 5) (c := 71) (k := 55) _ _ (Or.inr (by decide)))).trans (((pI_ne (a := 71) (b := 5) (c := 71) (k := 48) _ _ (Or.inr (by decide)))).trans (((pI_ne (a := 71) (b := 5) (c := 71) (k := 47) _ _ (Or.inr (by decide)))).trans (((pI_ne (a := 71) (b := 5) (c := 105) _ _ (Or.inl (by decide)))).trans ((pI_ne (a := 71) (b := 5) (c := 71) (k := 56) _ _ (Or.inr (by decide)))))))).symm.trans ev97)
    have ggv97 : (((pI (pI (pI (pI (pI u7 71 56 k1) 105 v6.toNatClampNeg v91) 71 47 k0) 71 48 k0) 71 55 k0)).1 71 5).toInt = v97.toInt := congrArg Int32.toInt ev97
    have rv97 := n_rng v97
    refine r_geti (k := 5) (lo := (-2147483648)) (hi := 2147483647) C v97 oCl12 rfl (by decide) flX12_173 rfl rfl (ev97) rfl rfl (oDec_at oX12_testTold 41 rfl) (fun _ _ => ?_)
    refine r_if_ne C 75 (oDec_at oX12_testTold 42 rfl) (by decide) (fun cd98 => ?_) (fun cd98 => ?_)
    · skip
      have lk99 : (((pI (pI (pI (pI (pI u7 71 56 k1) 105 v6.toNatClampNeg v91) 71 47 k0) 71 48 k0) 71 55 k0)).1 71 2).toInt = (u7.1 71 2).toInt := congrArg Int32.toInt (((pI_ne (a := 71) (b := 2) (c := 71) (k := 55) _ _ (Or.inr (by decide)))).trans (((pI_ne (a := 71) (b := 2) (c := 71) (k := 48) _ _ (Or.inr (by decide)))).trans (((pI_ne (a := 71) (b := 2) (c := 71) (k := 47) _ _ (Or.inr (by decide)))).trans (((pI_ne (a := 71) (b := 2) (c := 105) _ _ (Or.inl (by decide)))).trans ((pI_ne (a := 71) (b := 2) (c := 71) (k := 56) _ _ (Or.inr (by decide))))))))
      have lk100 : (((pI (pI (pI (pI (pI u7 71 56 k1) 105 v6.toNatClampNeg v91) 71 47 k0) 71 48 k0) 71 55 k0)).1 71 4).toInt = (u7.1 71 4).toInt := congrArg Int32.toInt (((pI_ne (a := 71) (b := 4) (c := 71) (k := 55) _ _ (Or.inr (by decide)))).trans (((pI_ne (a := 71) (b := 4) (c := 71) (k := 48) _ _ (Or.inr (by decide)))).trans (((pI_ne (a := 71) (b := 4) (c := 71) (k := 47) _ _ (Or.inr (by decide)))).trans (((pI_ne (a := 71) (b := 4) (c := 105) _ _ (Or.inl (by decide)))).trans ((pI_ne (a := 71) (b := 4) (c := 71) (k := 56) _ _ (Or.inr (by decide))))))))
      have lk101 : (((pI (pI (pI (pI (pI u7 71 56 k1) 105 v6.toNatClampNeg v91) 71 47 k0) 71 48 k0) 71 55 k0)).1 71 5).toInt = v97.toInt := congrArg Int32.toInt (ev97)
      have lk102 : (((pI (pI (pI (pI (pI u7 71 56 k1) 105 v6.toNatClampNeg v91) 71 47 k0) 71 48 k0) 71 55 k0)).1 71 48).toInt = k0.toInt := congrArg Int32.toInt (((pI_ne (a := 71) (b := 48) (c := 71) (k := 55) _ _ (Or.inr (by decide)))).trans ((pI_self _ _ _ _)))
      have lk103 : (((pI (pI (pI (pI (pI u7 71 56 k1) 105 v6.toNatClampNeg v91) 71 47 k0) 71 48 k0) 71 55 k0)).1 71 47).toInt = k0.toInt := congrArg Int32.toInt (((pI_ne (a := 71) (b := 47) (c := 71) (k := 55) _ _ (Or.inr (by decide)))).trans (((pI_ne (a := 71) (b := 47) (c := 71) (k := 48) _ _ (Or.inr (by decide)))).trans ((pI_self _ _ _ _))))
      have lk104 : (((pI (pI (pI (pI (pI u7 71 56 k1) 105 v6.toNatClampNeg v91) 71 47 k0) 71 48 k0) 71 55 k0)).1 71 6).toInt = (u7.1 71 6).toInt := congrArg Int32.toInt (((pI_ne (a := 71) (b := 6) (c := 71) (k := 55) _ _ (Or.inr (by decide)))).trans (((pI_ne (a := 71) (b := 6) (c := 71) (k := 48) _ _ (Or.inr (by decide)))).trans (((pI_ne (a := 71) (b := 6) (c := 71) (k := 47) _ _ (Or.inr (by decide)))).trans (((pI_ne (a := 71) (b := 6) (c := 105) _ _ (Or.inl (by decide)))).trans ((pI_ne (a := 71) (b := 6) (c := 71) (k := 56) _ _ (Or.inr (by decide))))))))
      have hq105 : oqVs g fp fq w ((pI (pI (pI (pI (pI u7 71 56 k1) 105 v6.toNatClampNeg v91) 71 47 k0) 71 48 k0) 71 55 k0)) := (by first | exact oqVs_t (by omega) (by assumption) | exact oqVs_w (by omega) (by omega) (by omega))
      refine r_aload_n C (j := 0) (oDec_at oX12_testTold 45 rfl) rfl rfl ?_
      refine r_getF (k := 51) (b := 106) C oCl12 rfl (by decide) flX12_120 rfl rfl rfl (oDec_at oX12_testTold 46 rfl) ?_
      refine r_iload_n C (j := 2) (oDec_at oX12_testTold 47 rfl) rfl rfl ?_
      refine r_aload_n C (j := 0) (oDec_at oX12_testTold 48 rfl) rfl rfl ?_
      refine r_geti (k := 45) (lo := 0) (hi := 1600) C v91 oCl12 rfl (by decide) flX12_234 rfl rfl (((pI_ne (a := 71) (b := 45) (c := 71) (k := 55) _ _ (Or.inr (by decide)))).trans (((pI_ne (a := 71) (b := 45) (c := 71) (k := 48) _ _ (Or.inr (by decide)))).trans (((pI_ne (a := 71) (b := 45) (c := 71) (k := 47) _ _ (Or.inr (by decide)))).trans (((pI_ne (a := 71) (b := 45) (c := 105) _ _ (Or.inl (by decide)))).trans (ev91))))) rfl rfl (oDec_at oX12_testTold 49 rfl) (fun _ _ => ?_)
      have lc106 : (((pI (pI (pI (pI (pI u7 71 56 k1) 105 v6.toNatClampNeg v91) 71 47 k0) 71 48 k0) 71 55 k0)).1 104 2).toInt = (s.1 104 2).toInt := congrArg Int32.toInt (((pI_ne (a := 104) (b := 2) (c := 71) _ _ (Or.inl (by decide)))).trans (((pI_ne (a := 104) (b := 2) (c := 71) _ _ (Or.inl (by decide)))).trans (((pI_ne (a := 104) (b := 2) (c := 71) _ _ (Or.inl (by decide)))).trans (((pI_ne (a := 104) (b := 2) (c := 105) _ _ (Or.inl (by decide)))).trans (((pI_ne (a := 104) (b := 2) (c := 71) _ _ (Or.inl (by decide)))).trans ((fu7 104 2 rfl).1))))))
      have lc107 : (((pI (pI (pI (pI (pI u7 71 56 k1) 105 v6.toNatClampNeg v91) 71 47 k0) 71 48 k0) 71 55 k0)).1 104 3).toInt = (s.1 104 3).toInt := congrArg Int32.toInt (((pI_ne (a := 104) (b := 3) (c := 71) _ _ (Or.inl (by decide)))).trans (((pI_ne (a := 104) (b := 3) (c := 71) _ _ (Or.inl (by decide)))).trans (((pI_ne (a := 104) (b := 3) (c := 71) _ _ (Or.inl (by decide)))).trans (((pI_ne (a := 104) (b := 3) (c := 105) _ _ (Or.inl (by decide)))).trans (((pI_ne (a := 104) (b := 3) (c := 71) _ _ (Or.inl (by decide)))).trans ((fu7 104 3 rfl).1))))))
      have lk108 : (((pI (pI (pI (pI (pI u7 71 56 k1) 105 v6.toNatClampNeg v91) 71 47 k0) 71 48 k0) 71 55 k0)).1 71 45).toInt = v91.toInt := congrArg Int32.toInt (((pI_ne (a := 71) (b := 45) (c := 71) (k := 55) _ _ (Or.inr (by decide)))).trans (((pI_ne (a := 71) (b := 45) (c := 71) (k := 48) _ _ (Or.inr (by decide)))).trans (((pI_ne (a := 71) (b := 45) (c := 71) (k := 47) _ _ (Or.inr (by decide)))).trans (((pI_ne (a := 71) (b := 45) (c := 105) _ _ (Or.inl (by decide)))).trans (ev91)))))
      have lk109 : (((pI (pI (pI (pI (pI u7 71 56 k1) 105 v6.toNatClampNeg v91) 71 47 k0) 71 48 k0) 71 55 k0)).1 71 56).toInt = k1.toInt := congrArg Int32.toInt (((pI_ne (a := 71) (b := 56) (c := 71) (k := 55) _ _ (Or.inr (by decide)))).trans (((pI_ne (a := 71) (b := 56) (c := 71) (k := 48) _ _ (Or.inr (by decide)))).trans (((pI_ne (a := 71) (b := 56) (c := 71) (k := 47) _ _ (Or.inr (by decide)))).trans (((pI_ne (a := 71) (b := 56) (c := 105) _ _ (Or.inl (by decide)))).trans ((pI_self _ _ _ _))))))
      have lk110 : (((pI (pI (pI (pI (pI u7 71 56 k1) 105 v6.toNatClampNeg v91) 71 47 k0) 71 48 k0) 71 55 k0)).1 71 5).toInt = v97.toInt := congrArg Int32.toInt (ev97)
      refine r_ty C (fun hty => ?_)
      have hmB : ∀ i : Nat, (0 : Int) ≤ (((pI (pI (pI (pI (pI u7 71 56 k1) 105 v6.toNatClampNeg v91) 71 47 k0) 71 48 k0) 71 55 k0)).1 104 i).toInt ∧ (((pI (pI (pI (pI (pI u7 71 56 k1) 105 v6.toNatClampNeg v91) 71 47 k0) 71 48 k0) 71 55 k0)).1 104 i).toInt ≤ 12 := fun i => hty.1 104 i
      have hmB2 := hmB 2
      have hmB3 := hmB 3
      clear hty
      refine r_ty C (fun hty => ?_)
      have hty_coded : (0 : Int) ≤ (((pI (pI (pI (pI (pI u7 71 56 k1) 105 v6.toNatClampNeg v91) 71 47 k0) 71 48 k0) 71 55 k0)).1 71 45).toInt ∧ (((pI (pI (pI (pI (pI u7 71 56 k1) 105 v6.toNatClampNeg v91) 71 47 k0) 71 48 k0) 71 55 k0)).1 71 45).toInt ≤ 1600 := hty.1 71 45
      have hty_waits : (0 : Int) ≤ (((pI (pI (pI (pI (pI u7 71 56 k1) 105 v6.toNatClampNeg v91) 71 47 k0) 71 48 k0) 71 55 k0)).1 71 47).toInt ∧ (((pI (pI (pI (pI (pI u7 71 56 k1) 105 v6.toNatClampNeg v91) 71 47 k0) 71 48 k0) 71 55 k0)).1 71 47).toInt ≤ 1700 := hty.1 71 47
      have hty_at : (0 : Int) ≤ (((pI (pI (pI (pI (pI u7 71 56 k1) 105 v6.toNatClampNeg v91) 71 47 k0) 71 48 k0) 71 55 k0)).1 71 2).toInt ∧ (((pI (pI (pI (pI (pI u7 71 56 k1) 105 v6.toNatClampNeg v91) 71 47 k0) 71 48 k0) 71 55 k0)).1 71 2).toInt ≤ 1600 := hty.1 71 2
      clear hty
      refine r_iast (n := 48) (lo := 0) (hi := 1600) C rfl (by decide) rfl rfl ⟨by omega, by omega⟩ (by decide) rfl rfl rfl rfl ⟨by omega, by omega⟩ (oDec_at oX12_testTold 50 rfl) ?_
      refine r_pc C 85 rfl ?_
      refine r_aload_n C (j := 0) (oDec_at oX12_testTold 51 rfl) rfl rfl ?_
      refine r_getF (k := 49) (b := 104) C oCl12 rfl (by decide) flX12_114 rfl rfl rfl (oDec_at oX12_testTold 52 rfl) ?_
      refine r_iconst C (oDec_at oX12_testTold 53 rfl) (v := k2) (by rw [qk2]; rfl) ?_
      refine r_iload_n C (j := 1) (oDec_at oX12_testTold 54 rfl) rfl rfl ?_
      obtain ⟨v111, ev111⟩ : ∃ z : Int32, z = k2 + a1 := ⟨_, rfl⟩
      have hv111 : v111.toInt = k2.toInt + a1.toInt := n_add ev111 (by omega) (by omega)
      refine r_iadd C v111 (oDec_at oX12_testTold 55 rfl) ev111 ?_
      refine r_dup2 C (oDec_at oX12_testTold 56 rfl) rfl rfl ?_
      refine r_pc C 93 rfl ?_
      obtain ⟨v113, ev113⟩ : ∃ z : Int32, ((pI (pI (pI (pI (pI (pI u7 71 56 k1) 105 v6.toNatClampNeg v91) 71 47 k0) 71 48 k0) 71 55 k0) 106 v6.toNatClampNeg v91)).1 104 v111.toNatClampNeg = z := ⟨_, rfl⟩
      have av113 : s.1 104 v111.toNatClampNeg = v113 := (((pI_ne (a := 104) (b := v111.toNatClampNeg) (c := 106) _ _ (Or.inl (by decide)))).trans (((pI_ne (a := 104) (b := v111.toNatClampNeg) (c := 71) _ _ (Or.inl (by decide)))).trans (((pI_ne (a := 104) (b := v111.toNatClampNeg) (c := 71) _ _ (Or.inl (by decide)))).trans (((pI_ne (a := 104) (b := v111.toNatClampNeg) (c := 71) _ _ (Or.inl (by decide)))).trans (((pI_ne (a := 104) (b := v111.toNatClampNeg) (c := 105) _ _ (Or.inl (by decide)))).trans (((pI_ne (a := 104) (b := v111.toNatClampNeg) (c := 71) _ _ (Or.inl (by decide)))).trans ((fu7 104 v111.toNatClampNeg rfl).1))))))).symm.trans ev113
      have gv113 : (s.1 104 v111.toNatClampNeg).toInt = v113.toInt := congrArg Int32.toInt ((((pI_ne (a := 104) (b := v111.toNatClampNeg) (c := 106) _ _ (Or.inl (by decide)))).trans (((pI_ne (a := 104) (b := v111.toNatClampNeg) (c := 71) _ _ (Or.inl (by decide)))).trans (((pI_ne (a := 104) (b := v111.toNatClampNeg) (c := 71) _ _ (Or.inl (by decide)))).trans (((pI_ne (a := 104) (b := v111.toNatClampNeg) (c := 71) _ _ (Or.inl (by decide)))).trans (((pI_ne (a := 104) (b := v111.toNatClampNeg) (c := 105) _ _ (Or.inl (by decide)))).trans (((pI_ne (a := 104) (b := v111.toNatClampNeg) (c := 71) _ _ (Or.inl (by decide)))).trans ((fu7 104 v111.toNatClampNeg rfl).1))))))).symm.trans ev113)
      refine r_iald (n := 4) (lo := 0) (hi := 12) C v113 rfl (by decide) rfl rfl ⟨by omega, by omega⟩ (by decide) ev113 rfl rfl (oDec_at oX12_testTold 57 rfl) (fun b112 b112h => ?_)
      have lc114 : (((pI (pI (pI (pI (pI (pI u7 71 56 k1) 105 v6.toNatClampNeg v91) 71 47 k0) 71 48 k0) 71 55 k0) 106 v6.toNatClampNeg v91)).1 104 2).toInt = (s.1 104 2).toInt := congrArg Int32.toInt (((pI_ne (a := 104) (b := 2) (c := 106) _ _ (Or.inl (by decide)))).trans (((pI_ne (a := 104) (b := 2) (c := 71) _ _ (Or.inl (by decide)))).trans (((pI_ne (a := 104) (b := 2) (c := 71) _ _ (Or.inl (by decide)))).trans (((pI_ne (a := 104) (b := 2) (c := 71) _ _ (Or.inl (by decide)))).trans (((pI_ne (a := 104) (b := 2) (c := 105) _ _ (Or.inl (by decide)))).trans (((pI_ne (a := 104) (b := 2) (c := 71) _ _ (Or.inl (by decide)))).trans ((fu7 104 2 rfl).1)))))))
      have lc115 : (((pI (pI (pI (pI (pI (pI u7 71 56 k1) 105 v6.toNatClampNeg v91) 71 47 k0) 71 48 k0) 71 55 k0) 106 v6.toNatClampNeg v91)).1 104 3).toInt = (s.1 104 3).toInt := congrArg Int32.toInt (((pI_ne (a := 104) (b := 3) (c := 106) _ _ (Or.inl (by decide)))).trans (((pI_ne (a := 104) (b := 3) (c := 71) _ _ (Or.inl (by decide)))).trans (((pI_ne (a := 104) (b := 3) (c := 71) _ _ (Or.inl (by decide)))).trans (((pI_ne (a := 104) (b := 3) (c := 71) _ _ (Or.inl (by decide)))).trans (((pI_ne (a := 104) (b := 3) (c := 105) _ _ (Or.inl (by decide)))).trans (((pI_ne (a := 104) (b := 3) (c := 71) _ _ (Or.inl (by decide)))).trans ((fu7 104 3 rfl).1)))))))
      have hix2 := oIxM (i := v111) ev113
      refine r_iconst C (oDec_at oX12_testTold 58 rfl) (v := k1) (by rw [qk1]; rfl) ?_
      obtain ⟨v116, ev116⟩ : ∃ z : Int32, z = v113 + k1 := ⟨_, rfl⟩
      have hv116 : v116.toInt = v113.toInt + k1.toInt := n_add ev116 (by omega) (by omega)
      refine r_iadd C v116 (oDec_at oX12_testTold 59 rfl) ev116 ?_
      refine r_iast (n := 4) (lo := 0) (hi := 12) C rfl (by decide) rfl rfl ⟨by omega, by omega⟩ (by decide) rfl rfl rfl rfl ⟨by omega, by omega⟩ (oDec_at oX12_testTold 60 rfl) ?_
      have lk117 : (((pI (pI (pI (pI (pI (pI (pI u7 71 56 k1) 105 v6.toNatClampNeg v91) 71 47 k0) 71 48 k0) 71 55 k0) 106 v6.toNatClampNeg v91) 104 v111.toNatClampNeg v116)).1 71 6).toInt = (u7.1 71 6).toInt := congrArg Int32.toInt (((pI_ne (a := 71) (b := 6) (c := 104) _ _ (Or.inl (by decide)))).trans (((pI_ne (a := 71) (b := 6) (c := 106) _ _ (Or.inl (by decide)))).trans (((pI_ne (a := 71) (b := 6) (c := 71) (k := 55) _ _ (Or.inr (by decide)))).trans (((pI_ne (a := 71) (b := 6) (c := 71) (k := 48) _ _ (Or.inr (by decide)))).trans (((pI_ne (a := 71) (b := 6) (c := 71) (k := 47) _ _ (Or.inr (by decide)))).trans (((pI_ne (a := 71) (b := 6) (c := 105) _ _ (Or.inl (by decide)))).trans ((pI_ne (a := 71) (b := 6) (c := 71) (k := 56) _ _ (Or.inr (by decide))))))))))
      have lk118 : (((pI (pI (pI (pI (pI (pI (pI u7 71 56 k1) 105 v6.toNatClampNeg v91) 71 47 k0) 71 48 k0) 71 55 k0) 106 v6.toNatClampNeg v91) 104 v111.toNatClampNeg v116)).1 71 5).toInt = v97.toInt := congrArg Int32.toInt (((pI_ne (a := 71) (b := 5) (c := 104) _ _ (Or.inl (by decide)))).trans (((pI_ne (a := 71) (b := 5) (c := 106) _ _ (Or.inl (by decide)))).trans (ev97)))
      have hmy := oMny3 (s := (pI (pI (pI (pI (pI (pI u7 71 56 k1) 105 v6.toNatClampNeg v91) 71 47 k0) 71 48 k0) 71 55 k0) 106 v6.toNatClampNeg v91)) (i := v111) (z := v116)
      have hmy2 := oMny23 (s := (pI (pI (pI (pI (pI (pI u7 71 56 k1) 105 v6.toNatClampNeg v91) 71 47 k0) 71 48 k0) 71 55 k0) 106 v6.toNatClampNeg v91)) (i := v111) (z := v116)
      have hq119 : oBB ((pI (pI (pI (pI (pI (pI (pI u7 71 56 k1) 105 v6.toNatClampNeg v91) 71 47 k0) 71 48 k0) 71 55 k0) 106 v6.toNatClampNeg v91) 104 v111.toNatClampNeg v116)) := by first | exact oBB_told (x := 1) (by assumption) hmB (by assumption) (by omega) | exact oBB_told0 (oBB_fr (oFr_oneI (q := 12) (m := 55) rfl (by rfl)) rfl (oBB_fr (oFr_oneI (q := 12) (m := 48) rfl (by rfl)) rfl (oBB_fr (oFr_oneI (q := 12) (m := 47) rfl (by rfl)) rfl hq96))) (by omega) hmB (by omega) (by omega)
      have lk120 : (((pI (pI (pI (pI (pI (pI (pI u7 71 56 k1) 105 v6.toNatClampNeg v91) 71 47 k0) 71 48 k0) 71 55 k0) 106 v6.toNatClampNeg v91) 104 v111.toNatClampNeg v116)).1 71 5).toInt = v97.toInt := congrArg Int32.toInt (((pI_ne (a := 71) (b := 5) (c := 104) _ _ (Or.inl (by decide)))).trans (((pI_ne (a := 71) (b := 5) (c := 106) _ _ (Or.inl (by decide)))).trans (ev97)))
      have lk121 : (((pI (pI (pI (pI (pI (pI (pI u7 71 56 k1) 105 v6.toNatClampNeg v91) 71 47 k0) 71 48 k0) 71 55 k0) 106 v6.toNatClampNeg v91) 104 v111.toNatClampNeg v116)).1 71 45).toInt = v91.toInt := congrArg Int32.toInt (((pI_ne (a := 71) (b := 45) (c := 104) _ _ (Or.inl (by decide)))).trans (((pI_ne (a := 71) (b := 45) (c := 106) _ _ (Or.inl (by decide)))).trans (((pI_ne (a := 71) (b := 45) (c := 71) (k := 55) _ _ (Or.inr (by decide)))).trans (((pI_ne (a := 71) (b := 45) (c := 71) (k := 48) _ _ (Or.inr (by decide)))).trans (((pI_ne (a := 71) (b := 45) (c := 71) (k := 47) _ _ (Or.inr (by decide)))).trans (((pI_ne (a := 71) (b := 45) (c := 105) _ _ (Or.inl (by decide)))).trans (ev91)))))))
      have lk122 : (((pI (pI (pI (pI (pI (pI (pI u7 71 56 k1) 105 v6.toNatClampNeg v91) 71 47 k0) 71 48 k0) 71 55 k0) 106 v6.toNatClampNeg v91) 104 v111.toNatClampNeg v116)).1 71 2).toInt = (u7.1 71 2).toInt := congrArg Int32.toInt (((pI_ne (a := 71) (b := 2) (c := 104) _ _ (Or.inl (by decide)))).trans (((pI_ne (a := 71) (b := 2) (c := 106) _ _ (Or.inl (by decide)))).trans (((pI_ne (a := 71) (b := 2) (c := 71) (k := 55) _ _ (Or.inr (by decide)))).trans (((pI_ne (a := 71) (b := 2) (c := 71) (k := 48) _ _ (Or.inr (by decide)))).trans (((pI_ne (a := 71) (b := 2) (c := 71) (k := 47) _ _ (Or.inr (by decide)))).trans (((pI_ne (a := 71) (b := 2) (c := 105) _ _ (Or.inl (by decide)))).trans ((pI_ne (a := 71) (b := 2) (c := 71) (k := 56) _ _ (Or.inr (by decide))))))))))
      have lk123 : (((pI (pI (pI (pI (pI (pI (pI u7 71 56 k1) 105 v6.toNatClampNeg v91) 71 47 k0) 71 48 k0) 71 55 k0) 106 v6.toNatClampNeg v91) 104 v111.toNatClampNeg v116)).1 71 2).toInt = (u7.1 71 2).toInt := congrArg Int32.toInt (((pI_ne (a := 71) (b := 2) (c := 104) _ _ (Or.inl (by decide)))).trans (((pI_ne (a := 71) (b := 2) (c := 106) _ _ (Or.inl (by decide)))).trans (((pI_ne (a := 71) (b := 2) (c := 71) (k := 55) _ _ (Or.inr (by decide)))).trans (((pI_ne (a := 71) (b := 2) (c := 71) (k := 48) _ _ (Or.inr (by decide)))).trans (((pI_ne (a := 71) (b := 2) (c := 71) (k := 47) _ _ (Or.inr (by decide)))).trans (((pI_ne (a := 71) (b := 2) (c := 105) _ _ (Or.inl (by decide)))).trans ((pI_ne (a := 71) (b := 2) (c := 71) (k := 56) _ _ (Or.inr (by decide))))))))))
      exact r_vret C (oDec_at oX12_testTold 61 rfl) ⟨rfl, ⟨hq119, by omega, by omega, by omega, (oqVs_fr (oFr_oneI (q := 80) (m := 9999) rfl (by rfl)) rfl (oqVs_fr (oFr_oneI (q := 82) (m := 9999) rfl (by rfl)) rfl hq105)), by omega, by omega, (oqBP_fr (oFr_oneI (q := 80) (m := 9999) rfl (by rfl)) rfl (oqBP_fr (oFr_oneI (q := 82) (m := 9999) rfl (by rfl)) rfl (oqBP_fr (oFr_oneI (q := 12) (m := 55) rfl (by rfl)) rfl (oqBP_fr (oFr_oneI (q := 12) (m := 48) rfl (by rfl)) rfl (oqBP_fr (oFr_oneI (q := 12) (m := 47) rfl (by rfl)) rfl (oqBP_fr (oFr_oneI (q := 81) (m := 9999) rfl (by rfl)) rfl (oqBP_fr (oFr_oneI (q := 12) (m := 56) rfl (by rfl)) rfl pu7_3)))))))⟩⟩
    · skip
      have lk124 : (((pI (pI (pI (pI (pI u7 71 56 k1) 105 v6.toNatClampNeg v91) 71 47 k0) 71 48 k0) 71 55 k0)).1 71 2).toInt = (u7.1 71 2).toInt := congrArg Int32.toInt (((pI_ne (a := 71) (b := 2) (c := 71) (k := 55) _ _ (Or.inr (by decide)))).trans (((pI_ne (a := 71) (b := 2) (c := 71) (k := 48) _ _ (Or.inr (by decide)))).trans (((pI_ne (a := 71) (b := 2) (c := 71) (k := 47) _ _ (Or.inr (by decide)))).trans (((pI_ne (a := 71) (b := 2) (c := 105) _ _ (Or.inl (by decide)))).trans ((pI_ne (a := 71) (b := 2) (c := 71) (k := 56) _ _ (Or.inr (by decide))))))))
      have lk125 : (((pI (pI (pI (pI (pI u7 71 56 k1) 105 v6.toNatClampNeg v91) 71 47 k0) 71 48 k0) 71 55 k0)).1 71 4).toInt = (u7.1 71 4).toInt := congrArg Int32.toInt (((pI_ne (a := 71) (b := 4) (c := 71) (k := 55) _ _ (Or.inr (by decide)))).trans (((pI_ne (a := 71) (b := 4) (c := 71) (k := 48) _ _ (Or.inr (by decide)))).trans (((pI_ne (a := 71) (b := 4) (c := 71) (k := 47) _ _ (Or.inr (by decide)))).trans (((pI_ne (a := 71) (b := 4) (c := 105) _ _ (Or.inl (by decide)))).trans ((pI_ne (a := 71) (b := 4) (c := 71) (k := 56) _ _ (Or.inr (by decide))))))))
      have lk126 : (((pI (pI (pI (pI (pI u7 71 56 k1) 105 v6.toNatClampNeg v91) 71 47 k0) 71 48 k0) 71 55 k0)).1 71 5).toInt = v97.toInt := congrArg Int32.toInt (ev97)
      have lk127 : (((pI (pI (pI (pI (pI u7 71 56 k1) 105 v6.toNatClampNeg v91) 71 47 k0) 71 48 k0) 71 55 k0)).1 71 48).toInt = k0.toInt := congrArg Int32.toInt (((pI_ne (a := 71) (b := 48) (c := 71) (k := 55) _ _ (Or.inr (by decide)))).trans ((pI_self _ _ _ _)))
      have lk128 : (((pI (pI (pI (pI (pI u7 71 56 k1) 105 v6.toNatClampNeg v91) 71 47 k0) 71 48 k0) 71 55 k0)).1 71 47).toInt = k0.toInt := congrArg Int32.toInt (((pI_ne (a := 71) (b := 47) (c := 71) (k := 55) _ _ (Or.inr (by decide)))).trans (((pI_ne (a := 71) (b := 47) (c := 71) (k := 48) _ _ (Or.inr (by decide)))).trans ((pI_self _ _ _ _))))
      have lk129 : (((pI (pI (pI (pI (pI u7 71 56 k1) 105 v6.toNatClampNeg v91) 71 47 k0) 71 48 k0) 71 55 k0)).1 71 56).toInt = k1.toInt := congrArg Int32.toInt (((pI_ne (a := 71) (b := 56) (c := 71) (k := 55) _ _ (Or.inr (by decide)))).trans (((pI_ne (a := 71) (b := 56) (c := 71) (k := 48) _ _ (Or.inr (by decide)))).trans (((pI_ne (a := 71) (b := 56) (c := 71) (k := 47) _ _ (Or.inr (by decide)))).trans (((pI_ne (a := 71) (b := 56) (c := 105) _ _ (Or.inl (by decide)))).trans ((pI_self _ _ _ _))))))
      have hq130 : oqMo fp fq ((pI (pI (pI (pI (pI u7 71 56 k1) 105 v6.toNatClampNeg v91) 71 47 k0) 71 48 k0) 71 55 k0)) := (by unfold oqMo; omega)
      have hq131 : oqTt g fp fq (0, oqSk g (oqHa g w 6), oqHa g w 6, 0, []) 0 ((pI (pI (pI (pI (pI u7 71 56 k1) 105 v6.toNatClampNeg v91) 71 47 k0) 71 48 k0) 71 55 k0)) := oqTt_0 (by omega) (by omega) (by omega) (by omega) (by omega)
      refine r_aload_n C (j := 0) (oDec_at oX12_testTold 43 rfl) rfl rfl ?_
      have lc132 : (((pI (pI (pI (pI (pI u7 71 56 k1) 105 v6.toNatClampNeg v91) 71 47 k0) 71 48 k0) 71 55 k0)).1 104 2).toInt = (s.1 104 2).toInt := congrArg Int32.toInt (((pI_ne (a := 104) (b := 2) (c := 71) _ _ (Or.inl (by decide)))).trans (((pI_ne (a := 104) (b := 2) (c := 71) _ _ (Or.inl (by decide)))).trans (((pI_ne (a := 104) (b := 2) (c := 71) _ _ (Or.inl (by decide)))).trans (((pI_ne (a := 104) (b := 2) (c := 105) _ _ (Or.inl (by decide)))).trans (((pI_ne (a := 104) (b := 2) (c := 71) _ _ (Or.inl (by decide)))).trans ((fu7 104 2 rfl).1))))))
      have lc133 : (((pI (pI (pI (pI (pI u7 71 56 k1) 105 v6.toNatClampNeg v91) 71 47 k0) 71 48 k0) 71 55 k0)).1 104 3).toInt = (s.1 104 3).toInt := congrArg Int32.toInt (((pI_ne (a := 104) (b := 3) (c := 71) _ _ (Or.inl (by decide)))).trans (((pI_ne (a := 104) (b := 3) (c := 71) _ _ (Or.inl (by decide)))).trans (((pI_ne (a := 104) (b := 3) (c := 71) _ _ (Or.inl (by decide)))).trans (((pI_ne (a := 104) (b := 3) (c := 105) _ _ (Or.inl (by decide)))).trans (((pI_ne (a := 104) (b := 3) (c := 71) _ _ (Or.inl (by decide)))).trans ((fu7 104 3 rfl).1))))))
      have hq134 : oQ 9999 0 ((pI (pI (pI (pI (pI u7 71 56 k1) 105 v6.toNatClampNeg v91) 71 47 k0) 71 48 k0) 71 55 k0)) := oQ_init (oBB_fr (oFr_oneI (q := 12) (m := 55) rfl (by rfl)) rfl (oBB_fr (oFr_oneI (q := 12) (m := 48) rfl (by rfl)) rfl (oBB_fr (oFr_oneI (q := 12) (m := 47) rfl (by rfl)) rfl hq96))) (by omega) (by omega) (by assumption) (by omega)
      have lk135 : (((pI (pI (pI (pI (pI u7 71 56 k1) 105 v6.toNatClampNeg v91) 71 47 k0) 71 48 k0) 71 55 k0)).1 71 5).toInt = v97.toInt := congrArg Int32.toInt (ev97)
      have lk136 : (((pI (pI (pI (pI (pI u7 71 56 k1) 105 v6.toNatClampNeg v91) 71 47 k0) 71 48 k0) 71 55 k0)).1 71 48).toInt = k0.toInt := congrArg Int32.toInt (((pI_ne (a := 71) (b := 48) (c := 71) (k := 55) _ _ (Or.inr (by decide)))).trans ((pI_self _ _ _ _)))
      have lk137 : (((pI (pI (pI (pI (pI u7 71 56 k1) 105 v6.toNatClampNeg v91) 71 47 k0) 71 48 k0) 71 55 k0)).1 71 45).toInt = v91.toInt := congrArg Int32.toInt (((pI_ne (a := 71) (b := 45) (c := 71) (k := 55) _ _ (Or.inr (by decide)))).trans (((pI_ne (a := 71) (b := 45) (c := 71) (k := 48) _ _ (Or.inr (by decide)))).trans (((pI_ne (a := 71) (b := 45) (c := 71) (k := 47) _ _ (Or.inr (by decide)))).trans (((pI_ne (a := 71) (b := 45) (c := 105) _ _ (Or.inl (by decide)))).trans (ev91)))))
      have lk138 : (((pI (pI (pI (pI (pI u7 71 56 k1) 105 v6.toNatClampNeg v91) 71 47 k0) 71 48 k0) 71 55 k0)).1 71 47).toInt = k0.toInt := congrArg Int32.toInt (((pI_ne (a := 71) (b := 47) (c := 71) (k := 55) _ _ (Or.inr (by decide)))).trans (((pI_ne (a := 71) (b := 47) (c := 71) (k := 48) _ _ (Or.inr (by decide)))).trans ((pI_self _ _ _ _))))
      have lk139 : (((pI (pI (pI (pI (pI u7 71 56 k1) 105 v6.toNatClampNeg v91) 71 47 k0) 71 48 k0) 71 55 k0)).1 71 2).toInt = (u7.1 71 2).toInt := congrArg Int32.toInt (((pI_ne (a := 71) (b := 2) (c := 71) (k := 55) _ _ (Or.inr (by decide)))).trans (((pI_ne (a := 71) (b := 2) (c := 71) (k := 48) _ _ (Or.inr (by decide)))).trans (((pI_ne (a := 71) (b := 2) (c := 71) (k := 47) _ _ (Or.inr (by decide)))).trans (((pI_ne (a := 71) (b := 2) (c := 105) _ _ (Or.inl (by decide)))).trans ((pI_ne (a := 71) (b := 2) (c := 71) (k := 56) _ _ (Or.inr (by decide))))))))
      have lk140 : (((pI (pI (pI (pI (pI u7 71 56 k1) 105 v6.toNatClampNeg v91) 71 47 k0) 71 48 k0) 71 55 k0)).1 71 2).toInt = (u7.1 71 2).toInt := congrArg Int32.toInt (((pI_ne (a := 71) (b := 2) (c := 71) (k := 55) _ _ (Or.inr (by decide)))).trans (((pI_ne (a := 71) (b := 2) (c := 71) (k := 48) _ _ (Or.inr (by decide)))).trans (((pI_ne (a := 71) (b := 2) (c := 71) (k := 47) _ _ (Or.inr (by decide)))).trans (((pI_ne (a := 71) (b := 2) (c := 105) _ _ (Or.inl (by decide)))).trans ((pI_ne (a := 71) (b := 2) (c := 71) (k := 56) _ _ (Or.inr (by decide))))))))
      have lk141 : (((pI (pI (pI (pI (pI u7 71 56 k1) 105 v6.toNatClampNeg v91) 71 47 k0) 71 48 k0) 71 55 k0)).1 71 45).toInt = v91.toInt := congrArg Int32.toInt (((pI_ne (a := 71) (b := 45) (c := 71) (k := 55) _ _ (Or.inr (by decide)))).trans (((pI_ne (a := 71) (b := 45) (c := 71) (k := 48) _ _ (Or.inr (by decide)))).trans (((pI_ne (a := 71) (b := 45) (c := 71) (k := 47) _ _ (Or.inr (by decide)))).trans (((pI_ne (a := 71) (b := 45) (c := 105) _ _ (Or.inl (by decide)))).trans (ev91)))))
      have lk142 : (((pI (pI (pI (pI (pI u7 71 56 k1) 105 v6.toNatClampNeg v91) 71 47 k0) 71 48 k0) 71 55 k0)).1 71 47).toInt = k0.toInt := congrArg Int32.toInt (((pI_ne (a := 71) (b := 47) (c := 71) (k := 55) _ _ (Or.inr (by decide)))).trans (((pI_ne (a := 71) (b := 47) (c := 71) (k := 48) _ _ (Or.inr (by decide)))).trans ((pI_self _ _ _ _))))
      have lk143 : (((pI (pI (pI (pI (pI u7 71 56 k1) 105 v6.toNatClampNeg v91) 71 47 k0) 71 48 k0) 71 55 k0)).1 71 2).toInt = (u7.1 71 2).toInt := congrArg Int32.toInt (((pI_ne (a := 71) (b := 2) (c := 71) (k := 55) _ _ (Or.inr (by decide)))).trans (((pI_ne (a := 71) (b := 2) (c := 71) (k := 48) _ _ (Or.inr (by decide)))).trans (((pI_ne (a := 71) (b := 2) (c := 71) (k := 47) _ _ (Or.inr (by decide)))).trans (((pI_ne (a := 71) (b := 2) (c := 105) _ _ (Or.inl (by decide)))).trans ((pI_ne (a := 71) (b := 2) (c := 71) (k := 56) _ _ (Or.inr (by decide))))))))
      have lk144 : (((pI (pI (pI (pI (pI u7 71 56 k1) 105 v6.toNatClampNeg v91) 71 47 k0) 71 48 k0) 71 55 k0)).1 71 45).toInt = v91.toInt := congrArg Int32.toInt (((pI_ne (a := 71) (b := 45) (c := 71) (k := 55) _ _ (Or.inr (by decide)))).trans (((pI_ne (a := 71) (b := 45) (c := 71) (k := 48) _ _ (Or.inr (by decide)))).trans (((pI_ne (a := 71) (b := 45) (c := 71) (k := 47) _ _ (Or.inr (by decide)))).trans (((pI_ne (a := 71) (b := 45) (c := 105) _ _ (Or.inl (by decide)))).trans (ev91)))))
      have lk145 : (((pI (pI (pI (pI (pI u7 71 56 k1) 105 v6.toNatClampNeg v91) 71 47 k0) 71 48 k0) 71 55 k0)).1 71 47).toInt = k0.toInt := congrArg Int32.toInt (((pI_ne (a := 71) (b := 47) (c := 71) (k := 55) _ _ (Or.inr (by decide)))).trans (((pI_ne (a := 71) (b := 47) (c := 71) (k := 48) _ _ (Or.inr (by decide)))).trans ((pI_self _ _ _ _))))
      have lk146 : (((pI (pI (pI (pI (pI u7 71 56 k1) 105 v6.toNatClampNeg v91) 71 47 k0) 71 48 k0) 71 55 k0)).1 71 2).toInt = (u7.1 71 2).toInt := congrArg Int32.toInt (((pI_ne (a := 71) (b := 2) (c := 71) (k := 55) _ _ (Or.inr (by decide)))).trans (((pI_ne (a := 71) (b := 2) (c := 71) (k := 48) _ _ (Or.inr (by decide)))).trans (((pI_ne (a := 71) (b := 2) (c := 71) (k := 47) _ _ (Or.inr (by decide)))).trans (((pI_ne (a := 71) (b := 2) (c := 105) _ _ (Or.inl (by decide)))).trans ((pI_ne (a := 71) (b := 2) (c := 71) (k := 56) _ _ (Or.inr (by decide))))))))
      refine r_callVv C oCl12 rfl miX12_test mlX12_334 (ct7_X12_test l E ((pI (pI (pI (pI (pI u7 71 56 k1) 105 v6.toNatClampNeg v91) 71 47 k0) 71 48 k0) 71 55 k0))  (g) (fp) (fq) (0, oqSk g (oqHa g w 6), oqHa g w 6, 0, []) hq134 (by omega) (by omega) (by omega) hq131 (oqZ_fr (oFr_oneI (q := 12) (m := 55) rfl (by rfl)) rfl (oqZ_fr (oFr_oneI (q := 12) (m := 48) rfl (by rfl)) rfl (oqZ_fr (oFr_oneI (q := 12) (m := 47) rfl (by rfl)) rfl (oqZ_fr (oFr_oneI (q := 81) (m := 9999) rfl (by rfl)) rfl (oqZ_fr (oFr_oneI (q := 12) (m := 56) rfl (by rfl)) rfl (oqZ_fr fu7 rfl hp10)))))) (oqWd_fr (oFr_oneI (q := 12) (m := 55) rfl (by rfl)) rfl (oqWd_fr (oFr_oneI (q := 12) (m := 48) rfl (by rfl)) rfl (oqWd_fr (oFr_oneI (q := 12) (m := 47) rfl (by rfl)) rfl (oqWd_fr (oFr_oneI (q := 81) (m := 9999) rfl (by rfl)) rfl (oqWd_fr (oFr_oneI (q := 12) (m := 56) rfl (by rfl)) rfl (oqWd_fr fu7 rfl hp11)))))) hq130 (oqBP_fr (oFr_oneI (q := 12) (m := 55) rfl (by rfl)) rfl (oqBP_fr (oFr_oneI (q := 12) (m := 48) rfl (by rfl)) rfl (oqBP_fr (oFr_oneI (q := 12) (m := 47) rfl (by rfl)) rfl (oqBP_fr (oFr_oneI (q := 81) (m := 9999) rfl (by rfl)) rfl (oqBP_fr (oFr_oneI (q := 12) (m := 56) rfl (by rfl)) rfl pu7_3)))))) (by decide) rfl rfl rfl (Nat.le_of_ble_eq_true rfl) (oDec_at oX12_testTold 44 rfl) (fun u147 pu147 fu147 => ?_)
      try dsimp only at pu147
      try simp only [lk135, lk136, lk137, lk138, lk139, lk140, lk141, lk142, lk143, lk144, lk145, lk146] at pu147
      obtain ⟨pu147_0, pu147_1, pu147_2, pu147_3, pu147_4, pu147_5⟩ := pu147
      have hq149 : oqVs g fp fq w (u147) := (by first | exact oqVs_t (by omega) pu147_4 | exact oqVs_w (by omega) (by omega) (by omega))
      refine r_aload_n C (j := 0) (oDec_at oX12_testTold 45 rfl) rfl rfl ?_
      refine r_getF (k := 51) (b := 106) C oCl12 rfl (by decide) flX12_120 rfl rfl rfl (oDec_at oX12_testTold 46 rfl) ?_
      refine r_iload_n C (j := 2) (oDec_at oX12_testTold 47 rfl) rfl rfl ?_
      refine r_aload_n C (j := 0) (oDec_at oX12_testTold 48 rfl) rfl rfl ?_
      refine r_pc C 81 rfl ?_
      obtain ⟨v150, ev150⟩ : ∃ z : Int32, (u147).1 71 45 = z := ⟨_, rfl⟩
      have gv150 : (u147.1 71 45).toInt = v150.toInt := congrArg Int32.toInt (ev150)
      refine r_geti (k := 45) (lo := 0) (hi := 1600) C v150 oCl12 rfl (by decide) flX12_234 rfl rfl (ev150) rfl rfl (oDec_at oX12_testTold 49 rfl) (fun b151 b151h => ?_)
      have lc152 : ((u147).1 104 2).toInt = (s.1 104 2).toInt := congrArg Int32.toInt (((fu147 104 2 rfl).1).trans (((pI_ne (a := 104) (b := 2) (c := 71) _ _ (Or.inl (by decide)))).trans (((pI_ne (a := 104) (b := 2) (c := 71) _ _ (Or.inl (by decide)))).trans (((pI_ne (a := 104) (b := 2) (c := 71) _ _ (Or.inl (by decide)))).trans (((pI_ne (a := 104) (b := 2) (c := 105) _ _ (Or.inl (by decide)))).trans (((pI_ne (a := 104) (b := 2) (c := 71) _ _ (Or.inl (by decide)))).trans ((fu7 104 2 rfl).1)))))))
      have lc153 : ((u147).1 104 3).toInt = (s.1 104 3).toInt := congrArg Int32.toInt (((fu147 104 3 rfl).1).trans (((pI_ne (a := 104) (b := 3) (c := 71) _ _ (Or.inl (by decide)))).trans (((pI_ne (a := 104) (b := 3) (c := 71) _ _ (Or.inl (by decide)))).trans (((pI_ne (a := 104) (b := 3) (c := 71) _ _ (Or.inl (by decide)))).trans (((pI_ne (a := 104) (b := 3) (c := 105) _ _ (Or.inl (by decide)))).trans (((pI_ne (a := 104) (b := 3) (c := 71) _ _ (Or.inl (by decide)))).trans ((fu7 104 3 rfl).1)))))))
      have lk154 : ((u147).1 71 45).toInt = v150.toInt := congrArg Int32.toInt (ev150)
      have lk155 : ((u147).1 71 56).toInt = k1.toInt := congrArg Int32.toInt (((fu147 71 56 rfl).1).trans (((pI_ne (a := 71) (b := 56) (c := 71) (k := 55) _ _ (Or.inr (by decide)))).trans (((pI_ne (a := 71) (b := 56) (c := 71) (k := 48) _ _ (Or.inr (by decide)))).trans (((pI_ne (a := 71) (b := 56) (c := 71) (k := 47) _ _ (Or.inr (by decide)))).trans (((pI_ne (a := 71) (b := 56) (c := 105) _ _ (Or.inl (by decide)))).trans ((pI_self _ _ _ _)))))))
      refine r_ty C (fun hty => ?_)
      have hmB : ∀ i : Nat, (0 : Int) ≤ ((u147).1 104 i).toInt ∧ ((u147).1 104 i).toInt ≤ 12 := fun i => hty.1 104 i
      have hmB2 := hmB 2
      have hmB3 := hmB 3
      clear hty
      refine r_ty C (fun hty => ?_)
      have hty_coded : (0 : Int) ≤ ((u147).1 71 45).toInt ∧ ((u147).1 71 45).toInt ≤ 1600 := hty.1 71 45
      have hty_waits : (0 : Int) ≤ ((u147).1 71 47).toInt ∧ ((u147).1 71 47).toInt ≤ 1700 := hty.1 71 47
      have hty_at : (0 : Int) ≤ ((u147).1 71 2).toInt ∧ ((u147).1 71 2).toInt ≤ 1600 := hty.1 71 2
      clear hty
      refine r_iast (n := 48) (lo := 0) (hi := 1600) C rfl (by decide) rfl rfl ⟨by omega, by omega⟩ (by decide) rfl rfl rfl rfl ⟨by omega, by omega⟩ (oDec_at oX12_testTold 50 rfl) ?_
      refine r_aload_n C (j := 0) (oDec_at oX12_testTold 51 rfl) rfl rfl ?_
      refine r_getF (k := 49) (b := 104) C oCl12 rfl (by decide) flX12_114 rfl rfl rfl (oDec_at oX12_testTold 52 rfl) ?_
      refine r_iconst C (oDec_at oX12_testTold 53 rfl) (v := k2) (by rw [qk2]; rfl) ?_
      refine r_iload_n C (j := 1) (oDec_at oX12_testTold 54 rfl) rfl rfl ?_
      refine r_pc C 91 rfl ?_
      obtain ⟨v156, ev156⟩ : ∃ z : Int32, z = k2 + a1 := ⟨_, rfl⟩
      have hv156 : v156.toInt = k2.toInt + a1.toInt := n_add ev156 (by omega) (by omega)
      refine r_iadd C v156 (oDec_at oX12_testTold 55 rfl) ev156 ?_
      refine r_dup2 C (oDec_at oX12_testTold 56 rfl) rfl rfl ?_
      obtain ⟨v158, ev158⟩ : ∃ z : Int32, ((pI u147 106 v6.toNatClampNeg v150)).1 104 v156.toNatClampNeg = z := ⟨_, rfl⟩
      have av158 : s.1 104 v156.toNatClampNeg = v158 := (((pI_ne (a := 104) (b := v156.toNatClampNeg) (c := 106) _ _ (Or.inl (by decide)))).trans (((fu147 104 v156.toNatClampNeg rfl).1).trans (((pI_ne (a := 104) (b := v156.toNatClampNeg) (c := 71) _ _ (Or.inl (by decide)))).trans (((pI_ne (a := 104) (b := v156.toNatClampNeg) (c := 71) _ _ (Or.inl (by decide)))).trans (((pI_ne (a := 104) (b := v156.toNatClampNeg) (c := 71) _ _ (Or.inl (by decide)))).trans (((pI_ne (a := 104) (b := v156.toNatClampNeg) (c := 105) _ _ (Or.inl (by decide)))).trans (((pI_ne (a := 104) (b := v156.toNatClampNeg) (c := 71) _ _ (Or.inl (by decide)))).trans ((fu7 104 v156.toNatClampNeg rfl).1)))))))).symm.trans ev158
      have gv158 : (s.1 104 v156.toNatClampNeg).toInt = v158.toInt := congrArg Int32.toInt ((((pI_ne (a := 104) (b := v156.toNatClampNeg) (c := 106) _ _ (Or.inl (by decide)))).trans (((fu147 104 v156.toNatClampNeg rfl).1).trans (((pI_ne (a := 104) (b := v156.toNatClampNeg) (c := 71) _ _ (Or.inl (by decide)))).trans (((pI_ne (a := 104) (b := v156.toNatClampNeg) (c := 71) _ _ (Or.inl (by decide)))).trans (((pI_ne (a := 104) (b := v156.toNatClampNeg) (c := 71) _ _ (Or.inl (by decide)))).trans (((pI_ne (a := 104) (b := v156.toNatClampNeg) (c := 105) _ _ (Or.inl (by decide)))).trans (((pI_ne (a := 104) (b := v156.toNatClampNeg) (c := 71) _ _ (Or.inl (by decide)))).trans ((fu7 104 v156.toNatClampNeg rfl).1)))))))).symm.trans ev158)
      refine r_iald (n := 4) (lo := 0) (hi := 12) C v158 rfl (by decide) rfl rfl ⟨by omega, by omega⟩ (by decide) ev158 rfl rfl (oDec_at oX12_testTold 57 rfl) (fun b157 b157h => ?_)
      have lc159 : (((pI u147 106 v6.toNatClampNeg v150)).1 104 2).toInt = (s.1 104 2).toInt := congrArg Int32.toInt (((pI_ne (a := 104) (b := 2) (c := 106) _ _ (Or.inl (by decide)))).trans (((fu147 104 2 rfl).1).trans (((pI_ne (a := 104) (b := 2) (c := 71) _ _ (Or.inl (by decide)))).trans (((pI_ne (a := 104) (b := 2) (c := 71) _ _ (Or.inl (by decide)))).trans (((pI_ne (a := 104) (b := 2) (c := 71) _ _ (Or.inl (by decide)))).trans (((pI_ne (a := 104) (b := 2) (c := 105) _ _ (Or.inl (by decide)))).trans (((pI_ne (a := 104) (b := 2) (c := 71) _ _ (Or.inl (by decide)))).trans ((fu7 104 2 rfl).1))))))))
      have lc160 : (((pI u147 106 v6.toNatClampNeg v150)).1 104 3).toInt = (s.1 104 3).toInt := congrArg Int32.toInt (((pI_ne (a := 104) (b := 3) (c := 106) _ _ (Or.inl (by decide)))).trans (((fu147 104 3 rfl).1).trans (((pI_ne (a := 104) (b := 3) (c := 71) _ _ (Or.inl (by decide)))).trans (((pI_ne (a := 104) (b := 3) (c := 71) _ _ (Or.inl (by decide)))).trans (((pI_ne (a := 104) (b := 3) (c := 71) _ _ (Or.inl (by decide)))).trans (((pI_ne (a := 104) (b := 3) (c := 105) _ _ (Or.inl (by decide)))).trans (((pI_ne (a := 104) (b := 3) (c := 71) _ _ (Or.inl (by decide)))).trans ((fu7 104 3 rfl).1))))))))
      have hix2 := oIxM (i := v156) ev158
      refine r_iconst C (oDec_at oX12_testTold 58 rfl) (v := k1) (by rw [qk1]; rfl) ?_
      obtain ⟨v161, ev161⟩ : ∃ z : Int32, z = v158 + k1 := ⟨_, rfl⟩
      have hv161 : v161.toInt = v158.toInt + k1.toInt := n_add ev161 (by omega) (by omega)
      refine r_iadd C v161 (oDec_at oX12_testTold 59 rfl) ev161 ?_
      refine r_iast (n := 4) (lo := 0) (hi := 12) C rfl (by decide) rfl rfl ⟨by omega, by omega⟩ (by decide) rfl rfl rfl rfl ⟨by omega, by omega⟩ (oDec_at oX12_testTold 60 rfl) ?_
      refine r_pc C 97 rfl ?_
      have lk162 : (((pI (pI u147 106 v6.toNatClampNeg v150) 104 v156.toNatClampNeg v161)).1 71 6).toInt = (u147.1 71 6).toInt := congrArg Int32.toInt (((pI_ne (a := 71) (b := 6) (c := 104) _ _ (Or.inl (by decide)))).trans ((pI_ne (a := 71) (b := 6) (c := 106) _ _ (Or.inl (by decide)))))
      have lk163 : (((pI (pI u147 106 v6.toNatClampNeg v150) 104 v156.toNatClampNeg v161)).1 71 5).toInt = (u147.1 71 5).toInt := congrArg Int32.toInt (((pI_ne (a := 71) (b := 5) (c := 104) _ _ (Or.inl (by decide)))).trans ((pI_ne (a := 71) (b := 5) (c := 106) _ _ (Or.inl (by decide)))))
      have hmy := oMny3 (s := (pI u147 106 v6.toNatClampNeg v150)) (i := v156) (z := v161)
      have hmy2 := oMny23 (s := (pI u147 106 v6.toNatClampNeg v150)) (i := v156) (z := v161)
      have hq164 : oBB ((pI (pI u147 106 v6.toNatClampNeg v150) 104 v156.toNatClampNeg v161)) := by first | exact oBB_told (x := 1) pu147_0 hmB (by assumption) (by omega) | exact oBB_told0 (by assumption) (by omega) hmB (by omega) (by omega)
      have lk165 : (((pI (pI u147 106 v6.toNatClampNeg v150) 104 v156.toNatClampNeg v161)).1 71 5).toInt = (u147.1 71 5).toInt := congrArg Int32.toInt (((pI_ne (a := 71) (b := 5) (c := 104) _ _ (Or.inl (by decide)))).trans ((pI_ne (a := 71) (b := 5) (c := 106) _ _ (Or.inl (by decide)))))
      have lk166 : (((pI (pI u147 106 v6.toNatClampNeg v150) 104 v156.toNatClampNeg v161)).1 71 45).toInt = v150.toInt := congrArg Int32.toInt (((pI_ne (a := 71) (b := 45) (c := 104) _ _ (Or.inl (by decide)))).trans (((pI_ne (a := 71) (b := 45) (c := 106) _ _ (Or.inl (by decide)))).trans (ev150)))
      have lk167 : (((pI (pI u147 106 v6.toNatClampNeg v150) 104 v156.toNatClampNeg v161)).1 71 2).toInt = (u147.1 71 2).toInt := congrArg Int32.toInt (((pI_ne (a := 71) (b := 2) (c := 104) _ _ (Or.inl (by decide)))).trans ((pI_ne (a := 71) (b := 2) (c := 106) _ _ (Or.inl (by decide)))))
      have lk168 : (((pI (pI u147 106 v6.toNatClampNeg v150) 104 v156.toNatClampNeg v161)).1 71 2).toInt = (u147.1 71 2).toInt := congrArg Int32.toInt (((pI_ne (a := 71) (b := 2) (c := 104) _ _ (Or.inl (by decide)))).trans ((pI_ne (a := 71) (b := 2) (c := 106) _ _ (Or.inl (by decide)))))
      exact r_vret C (oDec_at oX12_testTold 61 rfl) ⟨rfl, ⟨hq164, by omega, by omega, by omega, (oqVs_fr (oFr_oneI (q := 80) (m := 9999) rfl (by rfl)) rfl (oqVs_fr (oFr_oneI (q := 82) (m := 9999) rfl (by rfl)) rfl hq149)), by omega, by omega, (oqBP_fr (oFr_oneI (q := 80) (m := 9999) rfl (by rfl)) rfl (oqBP_fr (oFr_oneI (q := 82) (m := 9999) rfl (by rfl)) rfl pu147_5))⟩⟩
set_option maxHeartbeats 4000000 in
set_option maxRecDepth 100000 in
theorem ct7_X12_ruleTold (l : Launch) (E : oE) (s : oS) (a1 : Int32) (g : Int → Int) (h : Int) (R : Int) (hp0 : oBB s) (hp1 : (s.1 71 5).toInt = 0 → (s.1 71 45).toInt + 3 ≤ (s.1 71 2).toInt) (hp2 : (s.1 104 3).toInt ≤ 6) (hp3 : (s.1 71 5).toInt = 0) (hp4 : (s.1 71 2).toInt = h ∧ (s.1 71 4).toInt = h) (hp5 : (s.1 104 2).toInt = R) (hp6 : R ≤ 12) (hp7 : oqBP s) (hp8 : oqZ g s) (hp9 : oqWd s) : oMet l 10 yX12_ruleTold cX12_ruleTold 2 none [(12, 2), (12, 4), (12, 5), (12, 6), (12, 9), (12, 45), (12, 47), (12, 48), (12, 55), (12, 56), (78, 9999), (79, 9999), (80, 9999), (81, 9999), (82, 9999)] E s [.ref (oad E 71), .int a1] (oPv (fun u => (oBB u) ∧ ((u.1 71 5).toInt = 0 → ((u.1 71 45).toInt ≤ (u.1 71 2).toInt ∧ (s.1 71 5).toInt = 0)) ∧ ((u.1 104 3).toInt ≤ 6) ∧ ((s.1 71 2).toInt ≤ (u.1 71 2).toInt) ∧ (R < 12 → oqVs g 11 19 h u) ∧ (12 ≤ R → ((u.1 71 5).toInt = 5 ∧ (u.1 71 6).toInt = a1.toInt)) ∧ ((u.1 71 5).toInt = 0 → ((u.1 104 2).toInt = R + 1 ∧ (u.1 104 3).toInt = (s.1 104 3).toInt)) ∧ (oqBP u))) := by
  refine oMet.of (lv := [(0, .ref (oad E 71)), (1, .int a1)]) (by decide +kernel) (Nat.le_of_ble_eq_true rfl) rfl (fun J C hT => ?_)
  have C : oC l 10 cX12_ruleTold RX12 2 none [(12, 2), (12, 4), (12, 5), (12, 6), (12, 9), (12, 45), (12, 47), (12, 48), (12, 55), (12, 56), (78, 9999), (79, 9999), (80, 9999), (81, 9999), (82, 9999)] E s (oPv (fun u => (oBB u) ∧ ((u.1 71 5).toInt = 0 → ((u.1 71 45).toInt ≤ (u.1 71 2).toInt ∧ (s.1 71 5).toInt = 0)) ∧ ((u.1 104 3).toInt ≤ 6) ∧ ((s.1 71 2).toInt ≤ (u.1 71 2).toInt) ∧ (R < 12 → oqVs g 11 19 h u) ∧ (12 ≤ R → ((u.1 71 5).toInt = 5 ∧ (u.1 71 6).toInt = a1.toInt)) ∧ ((u.1 71 5).toInt = 0 → ((u.1 104 2).toInt = R + 1 ∧ (u.1 104 3).toInt = (s.1 104 3).toInt)) ∧ (oqBP u))) J := C
  obtain ⟨k0, qk0⟩ : ∃ z : Int32, z = 0 := ⟨_, rfl⟩
  have ek0 : k0.toInt = 0 := by rw [qk0]; rfl
  obtain ⟨k2, qk2⟩ : ∃ z : Int32, z = 2 := ⟨_, rfl⟩
  have ek2 : k2.toInt = 2 := by rw [qk2]; rfl
  obtain ⟨k5, qk5⟩ : ∃ z : Int32, z = 5 := ⟨_, rfl⟩
  have ek5 : k5.toInt = 5 := by rw [qk5]; rfl
  obtain ⟨k12, qk12⟩ : ∃ z : Int32, z = 12 := ⟨_, rfl⟩
  have ek12 : k12.toInt = 12 := by rw [qk12]; rfl
  have rg1 := n_rng a1
  have htz_coded : (0 : Int) ≤ (s.1 71 45).toInt ∧ (s.1 71 45).toInt ≤ 1600 := hT.1 71 45
  have htz_at : (0 : Int) ≤ (s.1 71 2).toInt ∧ (s.1 71 2).toInt ≤ 1600 := hT.1 71 2
  refine r_aload_n C (j := 0) (oDec_at oX12_ruleTold 0 rfl) rfl rfl ?_
  obtain ⟨v1, ev1⟩ : ∃ z : Int32, (s).1 71 5 = z := ⟨_, rfl⟩
  have gv1 : (s.1 71 5).toInt = v1.toInt := congrArg Int32.toInt (ev1)
  have rv1 := n_rng v1
  refine r_geti (k := 5) (lo := (-2147483648)) (hi := 2147483647) C v1 oCl12 rfl (by decide) flX12_173 rfl rfl (ev1) rfl rfl (oDec_at oX12_ruleTold 1 rfl) (fun _ _ => ?_)
  refine r_if_ne C 24 (oDec_at oX12_ruleTold 2 rfl) (by decide) (fun cd2 => ?_) (fun cd2 => ?_)
  · skip
    refine r_aload_n C (j := 0) (oDec_at oX12_ruleTold 13 rfl) rfl rfl ?_
    refine r_geti (k := 5) (lo := (-2147483648)) (hi := 2147483647) C v1 oCl12 rfl (by decide) flX12_173 rfl rfl (ev1) rfl rfl (oDec_at oX12_ruleTold 14 rfl) (fun _ _ => ?_)
    refine r_if_ne C 36 (oDec_at oX12_ruleTold 15 rfl) (by decide) (fun cd3 => ?_) (fun cd3 => ?_)
    · skip
      have lk4 : ((s).1 71 5).toInt = v1.toInt := congrArg Int32.toInt (ev1)
      refine r_ty C (fun hty => ?_)
      have hty_coded : (0 : Int) ≤ ((s).1 71 45).toInt ∧ ((s).1 71 45).toInt ≤ 1600 := hty.1 71 45
      have hty_at : (0 : Int) ≤ ((s).1 71 2).toInt ∧ ((s).1 71 2).toInt ≤ 1600 := hty.1 71 2
      clear hty
      have lk5 : ((s).1 71 5).toInt = v1.toInt := congrArg Int32.toInt (ev1)
      have lk6 : ((s).1 71 5).toInt = v1.toInt := congrArg Int32.toInt (ev1)
      have lk7 : ((s).1 71 5).toInt = v1.toInt := congrArg Int32.toInt (ev1)
      exact r_vret C (oDec_at oX12_ruleTold 19 rfl) ⟨rfl, ⟨hp0, by omega, by omega, by omega, by first | (intro h9; exfalso; omega) | exact fun _ => (by assumption), by omega, by omega, hp7⟩⟩
    · omega
  · skip
    refine r_aload_n C (j := 0) (oDec_at oX12_ruleTold 3 rfl) rfl rfl ?_
    refine r_getF (k := 49) (b := 104) C oCl12 rfl (by decide) flX12_114 rfl rfl rfl (oDec_at oX12_ruleTold 4 rfl) ?_
    refine r_iconst C (oDec_at oX12_ruleTold 5 rfl) (v := k2) (by rw [qk2]; rfl) ?_
    obtain ⟨v9, ev9⟩ : ∃ z : Int32, (s).1 104 k2.toNatClampNeg = z := ⟨_, rfl⟩
    have gv9 : (s.1 104 k2.toNatClampNeg).toInt = v9.toInt := congrArg Int32.toInt (ev9)
    refine r_iald (n := 4) (lo := 0) (hi := 12) C v9 rfl (by decide) rfl rfl ⟨by omega, by omega⟩ (by decide) ev9 rfl rfl (oDec_at oX12_ruleTold 6 rfl) (fun b8 b8h => ?_)
    have hix := oIxM (i := k2) ev9
    refine r_bipush C (oDec_at oX12_ruleTold 7 rfl) (v := k12) (by rw [qk12]; rfl) ?_
    refine r_icmp_ne C 24 (oDec_at oX12_ruleTold 8 rfl) (by decide) (fun cd10 => ?_) (fun cd10 => ?_)
    · skip
      refine r_aload_n C (j := 0) (oDec_at oX12_ruleTold 13 rfl) rfl rfl ?_
      refine r_geti (k := 5) (lo := (-2147483648)) (hi := 2147483647) C v1 oCl12 rfl (by decide) flX12_173 rfl rfl (ev1) rfl rfl (oDec_at oX12_ruleTold 14 rfl) (fun _ _ => ?_)
      refine r_if_ne C 36 (oDec_at oX12_ruleTold 15 rfl) (by decide) (fun cd11 => ?_) (fun cd11 => ?_)
      · omega
      · skip
        refine r_aload_n C (j := 0) (oDec_at oX12_ruleTold 16 rfl) rfl rfl ?_
        refine r_iconst C (oDec_at oX12_ruleTold 17 rfl) (v := k0) (by rw [qk0]; rfl) ?_
        have lk12 : ((s).1 71 5).toInt = v1.toInt := congrArg Int32.toInt (ev1)
        have lk13 : ((s).1 71 5).toInt = v1.toInt := congrArg Int32.toInt (ev1)
        refine r_callVv C oCl12 rfl miX12_testTold mlX12_337 (ct7_X12_testTold l E (s) k0 (g) (11) (19) (h) hp0 (by omega) (by omega) (by omega) (by omega) (by omega) (by omega) (by omega) (by omega) hp7 hp8 hp9) (by decide) rfl rfl rfl (Nat.le_of_ble_eq_true rfl) (oDec_at oX12_ruleTold 18 rfl) (fun u14 pu14 fu14 => ?_)
        try dsimp only at pu14
        try simp only [lk12, lk13] at pu14
        obtain ⟨pu14_0, pu14_1, pu14_2, pu14_3, pu14_4, pu14_5, pu14_6, pu14_7⟩ := pu14
        refine r_ty C (fun hty => ?_)
        have hty_coded : (0 : Int) ≤ ((u14).1 71 45).toInt ∧ ((u14).1 71 45).toInt ≤ 1600 := hty.1 71 45
        have hty_at : (0 : Int) ≤ ((u14).1 71 2).toInt ∧ ((u14).1 71 2).toInt ≤ 1600 := hty.1 71 2
        clear hty
        exact r_vret C (oDec_at oX12_ruleTold 19 rfl) ⟨rfl, ⟨pu14_0, by omega, by omega, by omega, by first | (intro h9; exfalso; omega) | exact fun _ => pu14_4, by omega, by omega, pu14_7⟩⟩
    · skip
      refine r_aload_n C (j := 0) (oDec_at oX12_ruleTold 9 rfl) rfl rfl ?_
      refine r_iconst C (oDec_at oX12_ruleTold 10 rfl) (v := k5) (by rw [qk5]; rfl) ?_
      refine r_iload_n C (j := 1) (oDec_at oX12_ruleTold 11 rfl) rfl rfl ?_
      have lk16 : ((s).1 71 5).toInt = v1.toInt := congrArg Int32.toInt (ev1)
      have lk17 : ((s).1 71 5).toInt = v1.toInt := congrArg Int32.toInt (ev1)
      refine r_callVv C oCl12 rfl miX12_fail mlX12_203 (ct7_X12_fail l E (s) k5 a1 (by omega) hp7) (by decide) rfl rfl rfl (Nat.le_of_ble_eq_true rfl) (oDec_at oX12_ruleTold 12 rfl) (fun u18 pu18 fu18 => ?_)
      try dsimp only at pu18
      try simp only [lk16, lk17] at pu18
      obtain ⟨pu18_0, pu18_1, pu18_2⟩ := pu18
      refine r_aload_n C (j := 0) (oDec_at oX12_ruleTold 13 rfl) rfl rfl ?_
      obtain ⟨v20, ev20⟩ : ∃ z : Int32, (u18).1 71 5 = z := ⟨_, rfl⟩
      have gv20 : (u18.1 71 5).toInt = v20.toInt := congrArg Int32.toInt (ev20)
      have rv20 := n_rng v20
      refine r_geti (k := 5) (lo := (-2147483648)) (hi := 2147483647) C v20 oCl12 rfl (by decide) flX12_173 rfl rfl (ev20) rfl rfl (oDec_at oX12_ruleTold 14 rfl) (fun _ _ => ?_)
      refine r_pc C 28 rfl ?_
      refine r_if_ne C 36 (oDec_at oX12_ruleTold 15 rfl) (by decide) (fun cd21 => ?_) (fun cd21 => ?_)
      · skip
        have lk22 : ((u18).1 71 5).toInt = v20.toInt := congrArg Int32.toInt (ev20)
        have lk23 : ((u18).1 71 45).toInt = (s.1 71 45).toInt := congrArg Int32.toInt ((fu18 71 45 rfl).1)
        have lk24 : ((u18).1 71 2).toInt = (s.1 71 2).toInt := congrArg Int32.toInt ((fu18 71 2 rfl).1)
        refine r_ty C (fun hty => ?_)
        have hty_coded : (0 : Int) ≤ ((u18).1 71 45).toInt ∧ ((u18).1 71 45).toInt ≤ 1600 := hty.1 71 45
        have hty_at : (0 : Int) ≤ ((u18).1 71 2).toInt ∧ ((u18).1 71 2).toInt ≤ 1600 := hty.1 71 2
        clear hty
        have lk25 : ((u18).1 71 5).toInt = v20.toInt := congrArg Int32.toInt (ev20)
        have lk26 : ((u18).1 71 45).toInt = (s.1 71 45).toInt := congrArg Int32.toInt ((fu18 71 45 rfl).1)
        have lk27 : ((u18).1 71 2).toInt = (s.1 71 2).toInt := congrArg Int32.toInt ((fu18 71 2 rfl).1)
        have lc28 : ((u18).1 104 3).toInt = (s.1 104 3).toInt := congrArg Int32.toInt ((fu18 104 3 rfl).1)
        have lk29 : ((u18).1 71 2).toInt = (s.1 71 2).toInt := congrArg Int32.toInt ((fu18 71 2 rfl).1)
        have lk30 : ((u18).1 71 5).toInt = v20.toInt := congrArg Int32.toInt (ev20)
        have lc31 : ((u18).1 104 2).toInt = (s.1 104 2).toInt := congrArg Int32.toInt ((fu18 104 2 rfl).1)
        have lc32 : ((u18).1 104 3).toInt = (s.1 104 3).toInt := congrArg Int32.toInt ((fu18 104 3 rfl).1)
        have lk33 : ((u18).1 71 5).toInt = v20.toInt := congrArg Int32.toInt (ev20)
        exact r_vret C (oDec_at oX12_ruleTold 19 rfl) ⟨rfl, ⟨(oBB_frb fu18 rfl (by omega) hp0), by omega, by omega, by omega, by first | (intro h9; exfalso; omega) | exact fun _ => (by assumption), by omega, by omega, pu18_2⟩⟩
      · skip
        refine r_aload_n C (j := 0) (oDec_at oX12_ruleTold 16 rfl) rfl rfl ?_
        refine r_iconst C (oDec_at oX12_ruleTold 17 rfl) (v := k0) (by rw [qk0]; rfl) ?_
        have lk34 : ((u18).1 71 5).toInt = v20.toInt := congrArg Int32.toInt (ev20)
        have lk35 : ((u18).1 71 45).toInt = (s.1 71 45).toInt := congrArg Int32.toInt ((fu18 71 45 rfl).1)
        have lk36 : ((u18).1 71 2).toInt = (s.1 71 2).toInt := congrArg Int32.toInt ((fu18 71 2 rfl).1)
        have lk37 : ((u18).1 71 2).toInt = (s.1 71 2).toInt := congrArg Int32.toInt ((fu18 71 2 rfl).1)
        have lk38 : ((u18).1 71 4).toInt = (s.1 71 4).toInt := congrArg Int32.toInt ((fu18 71 4 rfl).1)
        have lk39 : ((u18).1 71 5).toInt = v20.toInt := congrArg Int32.toInt (ev20)
        have lk40 : ((u18).1 71 2).toInt = (s.1 71 2).toInt := congrArg Int32.toInt ((fu18 71 2 rfl).1)
        have lc41 : ((u18).1 104 2).toInt = (s.1 104 2).toInt := congrArg Int32.toInt ((fu18 104 2 rfl).1)
        have lc42 : ((u18).1 104 3).toInt = (s.1 104 3).toInt := congrArg Int32.toInt ((fu18 104 3 rfl).1)
        have lc43 : ((u18).1 104 3).toInt = (s.1 104 3).toInt := congrArg Int32.toInt ((fu18 104 3 rfl).1)
        refine r_callVv C oCl12 rfl miX12_testTold mlX12_337 (ct7_X12_testTold l E (u18) k0 (g) (11) (19) (h) (oBB_frb fu18 rfl (by omega) hp0) (by omega) (by omega) (by omega) (by omega) (by omega) (by omega) (by omega) (by omega) pu18_2 (oqZ_fr fu18 rfl hp8) (oqWd_fr fu18 rfl hp9)) (by decide) rfl rfl rfl (Nat.le_of_ble_eq_true rfl) (oDec_at oX12_ruleTold 18 rfl) (fun u44 pu44 fu44 => ?_)
        try dsimp only at pu44
        try simp only [lk34, lk35, lk36, lk37, lk38, lk39, lk40] at pu44
        obtain ⟨pu44_0, pu44_1, pu44_2, pu44_3, pu44_4, pu44_5, pu44_6, pu44_7⟩ := pu44
        refine r_ty C (fun hty => ?_)
        have hty_coded : (0 : Int) ≤ ((u44).1 71 45).toInt ∧ ((u44).1 71 45).toInt ≤ 1600 := hty.1 71 45
        have hty_at : (0 : Int) ≤ ((u44).1 71 2).toInt ∧ ((u44).1 71 2).toInt ≤ 1600 := hty.1 71 2
        clear hty
        exact r_vret C (oDec_at oX12_ruleTold 19 rfl) ⟨rfl, ⟨pu44_0, by omega, by omega, by omega, by first | (intro h9; exfalso; omega) | exact fun _ => pu44_4, by omega, by omega, pu44_7⟩⟩
set_option maxHeartbeats 4000000 in
set_option maxRecDepth 100000 in
theorem ct7_X12_mottoTold (l : Launch) (E : oE) (s : oS) (a1 : Int32) (g : Int → Int) (h : Int) (N : Nat → Nat → Int) (M : Int) (hp0 : oBB s) (hp1 : (s.1 71 5).toInt = 0 → (s.1 71 45).toInt + 3 ≤ (s.1 71 2).toInt) (hp2 : (s.1 104 3).toInt ≤ 6) (hp3 : (s.1 71 5).toInt = 0) (hp4 : (s.1 71 2).toInt = h ∧ (s.1 71 4).toInt = h) (hp5 : (s.1 104 3).toInt = M) (hp6 : 0 ≤ M) (hp7 : oqNR N M s) (hp8 : ¬ (97 ≤ g h ∧ g h ≤ 122)) (hp9 : oqBP s) (hp10 : oqZ g s) (hp11 : oqWd s) : oMet l 10 yX12_mottoTold cX12_mottoTold 5 none [(12, 2), (12, 4), (12, 5), (12, 6), (12, 9), (12, 36), (12, 45), (12, 47), (12, 48), (12, 55), (12, 56), (78, 9999), (79, 9999), (80, 9999), (81, 9999), (82, 9999), (83, 9999)] E s [.ref (oad E 71), .int a1] (oPv (fun u => (oBB u) ∧ ((u.1 71 5).toInt = 0 → ((u.1 71 45).toInt ≤ (u.1 71 2).toInt ∧ (s.1 71 5).toInt = 0)) ∧ ((u.1 104 3).toInt ≤ 6) ∧ ((s.1 71 2).toInt ≤ (u.1 71 2).toInt) ∧ (6 ≤ M → ((u.1 71 5).toInt = 5 ∧ (u.1 71 6).toInt = a1.toInt)) ∧ (M < 6 → oqMk g h N M ≠ 0 → ((u.1 71 5).toInt = oqMk g h N M ∧ (u.1 71 6).toInt = oqMp g h)) ∧ (M < 6 → oqMk g h N M = 0 → oqVs g 19 24 (oqWe g (oqSk g h)) u) ∧ ((u.1 71 5).toInt = 0 → oqNR (oqNx N M (oqN6 g (oqSk g h))) (M + 1) u) ∧ ((u.1 71 5).toInt = 0 → ((u.1 104 3).toInt = M + 1 ∧ (u.1 104 2).toInt = (s.1 104 2).toInt)) ∧ (oqBP u))) := by
  refine oMet.of (lv := [(0, .ref (oad E 71)), (1, .int a1)]) (by decide +kernel) (Nat.le_of_ble_eq_true rfl) rfl (fun J C hT => ?_)
  have C : oC l 10 cX12_mottoTold RX12 5 none [(12, 2), (12, 4), (12, 5), (12, 6), (12, 9), (12, 36), (12, 45), (12, 47), (12, 48), (12, 55), (12, 56), (78, 9999), (79, 9999), (80, 9999), (81, 9999), (82, 9999), (83, 9999)] E s (oPv (fun u => (oBB u) ∧ ((u.1 71 5).toInt = 0 → ((u.1 71 45).toInt ≤ (u.1 71 2).toInt ∧ (s.1 71 5).toInt = 0)) ∧ ((u.1 104 3).toInt ≤ 6) ∧ ((s.1 71 2).toInt ≤ (u.1 71 2).toInt) ∧ (6 ≤ M → ((u.1 71 5).toInt = 5 ∧ (u.1 71 6).toInt = a1.toInt)) ∧ (M < 6 → oqMk g h N M ≠ 0 → ((u.1 71 5).toInt = oqMk g h N M ∧ (u.1 71 6).toInt = oqMp g h)) ∧ (M < 6 → oqMk g h N M = 0 → oqVs g 19 24 (oqWe g (oqSk g h)) u) ∧ ((u.1 71 5).toInt = 0 → oqNR (oqNx N M (oqN6 g (oqSk g h))) (M + 1) u) ∧ ((u.1 71 5).toInt = 0 → ((u.1 104 3).toInt = M + 1 ∧ (u.1 104 2).toInt = (s.1 104 2).toInt)) ∧ (oqBP u))) J := C
  obtain ⟨k0, qk0⟩ : ∃ z : Int32, z = 0 := ⟨_, rfl⟩
  have ek0 : k0.toInt = 0 := by rw [qk0]; rfl
  obtain ⟨k1, qk1⟩ : ∃ z : Int32, z = 1 := ⟨_, rfl⟩
  have ek1 : k1.toInt = 1 := by rw [qk1]; rfl
  obtain ⟨k3, qk3⟩ : ∃ z : Int32, z = 3 := ⟨_, rfl⟩
  have ek3 : k3.toInt = 3 := by rw [qk3]; rfl
  obtain ⟨k5, qk5⟩ : ∃ z : Int32, z = 5 := ⟨_, rfl⟩
  have ek5 : k5.toInt = 5 := by rw [qk5]; rfl
  obtain ⟨k6, qk6⟩ : ∃ z : Int32, z = 6 := ⟨_, rfl⟩
  have ek6 : k6.toInt = 6 := by rw [qk6]; rfl
  have rg1 := n_rng a1
  have htz_coded : (0 : Int) ≤ (s.1 71 45).toInt ∧ (s.1 71 45).toInt ≤ 1600 := hT.1 71 45
  have htz_at : (0 : Int) ≤ (s.1 71 2).toInt ∧ (s.1 71 2).toInt ≤ 1600 := hT.1 71 2
  have key : ∀ n : Nat, (∀ (t : oS) (x2 : Int64) (x4 : Int32), (oBB t) → (0 ≤ x4.toInt ∧ x4.toInt ≤ 12) → ((t.1 104 3).toInt ≤ 5) → ((t.1 71 5).toInt = 0 → ((t.1 71 45).toInt + 3 ≤ (t.1 71 2).toInt ∧ (s.1 71 5).toInt = 0)) → ((s.1 71 2).toInt ≤ (t.1 71 2).toInt) → (oqZ g t) → (oqWd t) → ((t.1 104 3).toInt = M) → (oqNR N M t) → ((t.1 104 2).toInt = (s.1 104 2).toInt) → (((t.1 71 5).toInt = 0 ∧ 97 ≤ g (oqSk g h) ∧ g (oqSk g h) ≤ 122 ∧ oqWi g h h = -1 ∧ oqWe g (oqSk g h) - oqSk g h ≤ 6 ∧ x2.toInt = oqVf (oqN6 g (oqSk g h)) 6 ∧ (t.1 71 2).toInt = oqWe g (oqSk g h) ∧ (t.1 71 4).toInt = oqWe g (oqSk g h) ∧ (t.1 71 36).toInt = oqSk g h) ∨ ((t.1 71 5).toInt ≠ 0 ∧ oqMk g h N M ≠ 0 ∧ (t.1 71 5).toInt = oqMk g h N M ∧ (t.1 71 6).toInt = oqMp g h)) → ((t.1 71 5).toInt = 0 → oqNo6 g (oqSk g h) N x4.toInt) → (M ≤ 5) → ((s.1 71 5).toInt = 0) → (oqBP t) → 20 - x4.toInt ≤ (n : Int) → J t 40 [(0, .ref (oad E 71)), (2, .long x2), (4, .int x4)] []) := by
    intro n
    induction n using Nat.strongRecOn with
    | _ n ih =>
      skip
      · intro t x2 x4  iv0 iv1 iv2 iv3 iv4 iv5 iv6 iv7 iv8 iv9 iv10 iv11 iv12 iv13 iv14 hmu
        have rx4 := n_rng x4
        refine r_ty C (fun hty => ?_)
        have hmC : ∀ i : Nat, (0 : Int) ≤ ((t).1 104 i).toInt ∧ ((t).1 104 i).toInt ≤ 12 := fun i => hty.1 104 i
        have hmC2 := hmC 2
        have hmC3 := hmC 3
        clear hty
        have hn4 := n_nat x4
        refine r_iload C (j := 2) (oDec_at oX12_mottoTold 22 rfl) rfl ?_
        refine r_aload_n C (j := 0) (oDec_at oX12_mottoTold 23 rfl) rfl rfl ?_
        refine r_getF (k := 49) (b := 104) C oCl12 rfl (by decide) flX12_114 rfl rfl rfl (oDec_at oX12_mottoTold 24 rfl) ?_
        refine r_iconst C (oDec_at oX12_mottoTold 25 rfl) (v := k3) (by rw [qk3]; rfl) ?_
        obtain ⟨v2, ev2⟩ : ∃ z : Int32, (t).1 104 k3.toNatClampNeg = z := ⟨_, rfl⟩
        have gv2 : (t.1 104 k3.toNatClampNeg).toInt = v2.toInt := congrArg Int32.toInt (ev2)
        refine r_iald (n := 4) (lo := 0) (hi := 12) C v2 rfl (by decide) rfl rfl ⟨by omega, by omega⟩ (by decide) ev2 rfl rfl (oDec_at oX12_mottoTold 26 rfl) (fun b1 b1h => ?_)
        have hix := oIxM (i := k3) ev2
        refine r_icmp_ge C 88 (oDec_at oX12_mottoTold 27 rfl) (by decide) (fun cd3 => ?_) (fun cd3 => ?_)
        · skip
          refine r_aload_n C (j := 0) (oDec_at oX12_mottoTold 47 rfl) rfl rfl ?_
          refine r_getF (k := 52) (b := 107) C oCl12 rfl (by decide) flX12_123 rfl rfl rfl (oDec_at oX12_mottoTold 48 rfl) ?_
          refine r_bipush C (oDec_at oX12_mottoTold 49 rfl) (v := k6) (by rw [qk6]; rfl) ?_
          refine r_aload_n C (j := 0) (oDec_at oX12_mottoTold 50 rfl) rfl rfl ?_
          refine r_getF (k := 49) (b := 104) C oCl12 rfl (by decide) flX12_114 rfl rfl rfl (oDec_at oX12_mottoTold 51 rfl) ?_
          refine r_iconst C (oDec_at oX12_mottoTold 52 rfl) (v := k3) (by rw [qk3]; rfl) ?_
          refine r_pc C 99 rfl ?_
          refine r_iald (n := 4) (lo := 0) (hi := 12) C v2 rfl (by decide) rfl rfl ⟨by omega, by omega⟩ (by decide) (ev2) rfl rfl (oDec_at oX12_mottoTold 53 rfl) (fun b4 b4h => ?_)
          have hix := oIxM (i := k3) ev2
          obtain ⟨v5, ev5⟩ : ∃ z : Int32, z = k6 + v2 := ⟨_, rfl⟩
          have hv5 : v5.toInt = k6.toInt + v2.toInt := n_add ev5 (by omega) (by omega)
          refine r_iadd C v5 (oDec_at oX12_mottoTold 54 rfl) ev5 ?_
          refine r_lload_n C (j := 1) (oDec_at oX12_mottoTold 55 rfl) rfl rfl ?_
          refine r_last (n := 12) C rfl (by decide) rfl rfl ⟨by omega, by omega⟩ (by decide) rfl (oDec_at oX12_mottoTold 56 rfl) ?_
          have lk6 : (((pL t 107 v5.toNatClampNeg x2)).1 71 5).toInt = (t.1 71 5).toInt := congrArg Int32.toInt ((show ((pL t 107 v5.toNatClampNeg x2)).1 71 5 = t.1 71 5 from rfl))
          have hnr : (((pL t 107 v5.toNatClampNeg x2)).1 71 5).toInt = 0 → oqNR (oqNx N M (oqN6 g (oqSk g h))) (M + 1) ((pL t 107 v5.toNatClampNeg x2)) := fun h9 => oqNR_nx iv8 (by omega) (by omega) (by omega)
          refine r_aload_n C (j := 0) (oDec_at oX12_mottoTold 57 rfl) rfl rfl ?_
          obtain ⟨v7, ev7⟩ : ∃ z : Int32, ((pL t 107 v5.toNatClampNeg x2)).1 71 5 = z := ⟨_, rfl⟩
          have gv7 : (t.1 71 5).toInt = v7.toInt := congrArg Int32.toInt (((show ((pL t 107 v5.toNatClampNeg x2)).1 71 5 = t.1 71 5 from rfl)).symm.trans ev7)
          have ggv7 : (((pL t 107 v5.toNatClampNeg x2)).1 71 5).toInt = v7.toInt := congrArg Int32.toInt ev7
          have rv7 := n_rng v7
          refine r_geti (k := 5) (lo := (-2147483648)) (hi := 2147483647) C v7 oCl12 rfl (by decide) flX12_173 rfl rfl (ev7) rfl rfl (oDec_at oX12_mottoTold 58 rfl) (fun _ _ => ?_)
          refine r_pc C 107 rfl ?_
          refine r_if_ne C 115 (oDec_at oX12_mottoTold 59 rfl) (by decide) (fun cd8 => ?_) (fun cd8 => ?_)
          · skip
            have lk9 : (((pL t 107 v5.toNatClampNeg x2)).1 71 5).toInt = v7.toInt := congrArg Int32.toInt (ev7)
            have lk10 : (((pL t 107 v5.toNatClampNeg x2)).1 71 45).toInt = (t.1 71 45).toInt := congrArg Int32.toInt ((show ((pL t 107 v5.toNatClampNeg x2)).1 71 45 = t.1 71 45 from rfl))
            have lk11 : (((pL t 107 v5.toNatClampNeg x2)).1 71 2).toInt = (t.1 71 2).toInt := congrArg Int32.toInt ((show ((pL t 107 v5.toNatClampNeg x2)).1 71 2 = t.1 71 2 from rfl))
            have lk12 : (((pL t 107 v5.toNatClampNeg x2)).1 71 6).toInt = (t.1 71 6).toInt := congrArg Int32.toInt ((show ((pL t 107 v5.toNatClampNeg x2)).1 71 6 = t.1 71 6 from rfl))
            refine r_ty C (fun hty => ?_)
            have hty_coded : (0 : Int) ≤ (((pL t 107 v5.toNatClampNeg x2)).1 71 45).toInt ∧ (((pL t 107 v5.toNatClampNeg x2)).1 71 45).toInt ≤ 1600 := hty.1 71 45
            have hty_at : (0 : Int) ≤ (((pL t 107 v5.toNatClampNeg x2)).1 71 2).toInt ∧ (((pL t 107 v5.toNatClampNeg x2)).1 71 2).toInt ≤ 1600 := hty.1 71 2
            clear hty
            have lk13 : (((pL t 107 v5.toNatClampNeg x2)).1 71 5).toInt = v7.toInt := congrArg Int32.toInt (ev7)
            have lk14 : (((pL t 107 v5.toNatClampNeg x2)).1 71 45).toInt = (t.1 71 45).toInt := congrArg Int32.toInt ((show ((pL t 107 v5.toNatClampNeg x2)).1 71 45 = t.1 71 45 from rfl))
            have lk15 : (((pL t 107 v5.toNatClampNeg x2)).1 71 2).toInt = (t.1 71 2).toInt := congrArg Int32.toInt ((show ((pL t 107 v5.toNatClampNeg x2)).1 71 2 = t.1 71 2 from rfl))
            have lc16 : (((pL t 107 v5.toNatClampNeg x2)).1 104 3).toInt = (t.1 104 3).toInt := congrArg Int32.toInt ((show ((pL t 107 v5.toNatClampNeg x2)).1 104 3 = t.1 104 3 from rfl))
            have lk17 : (((pL t 107 v5.toNatClampNeg x2)).1 71 2).toInt = (t.1 71 2).toInt := congrArg Int32.toInt ((show ((pL t 107 v5.toNatClampNeg x2)).1 71 2 = t.1 71 2 from rfl))
            have lk18 : (((pL t 107 v5.toNatClampNeg x2)).1 71 5).toInt = v7.toInt := congrArg Int32.toInt (ev7)
            have lk19 : (((pL t 107 v5.toNatClampNeg x2)).1 71 6).toInt = (t.1 71 6).toInt := congrArg Int32.toInt ((show ((pL t 107 v5.toNatClampNeg x2)).1 71 6 = t.1 71 6 from rfl))
            have lk20 : (((pL t 107 v5.toNatClampNeg x2)).1 71 5).toInt = v7.toInt := congrArg Int32.toInt (ev7)
            have lk21 : (((pL t 107 v5.toNatClampNeg x2)).1 71 6).toInt = (t.1 71 6).toInt := congrArg Int32.toInt ((show ((pL t 107 v5.toNatClampNeg x2)).1 71 6 = t.1 71 6 from rfl))
            have lk22 : (((pL t 107 v5.toNatClampNeg x2)).1 71 5).toInt = v7.toInt := congrArg Int32.toInt (ev7)
            have lc23 : (((pL t 107 v5.toNatClampNeg x2)).1 104 3).toInt = (t.1 104 3).toInt := congrArg Int32.toInt ((show ((pL t 107 v5.toNatClampNeg x2)).1 104 3 = t.1 104 3 from rfl))
            have lc24 : (((pL t 107 v5.toNatClampNeg x2)).1 104 2).toInt = (t.1 104 2).toInt := congrArg Int32.toInt ((show ((pL t 107 v5.toNatClampNeg x2)).1 104 2 = t.1 104 2 from rfl))
            have lk25 : (((pL t 107 v5.toNatClampNeg x2)).1 71 5).toInt = v7.toInt := congrArg Int32.toInt (ev7)
            exact r_vret C (oDec_at oX12_mottoTold 63 rfl) ⟨rfl, ⟨(oBB_fr (oFr_oneL (q := 83) (m := 9999) rfl (by rfl)) rfl iv0), by omega, by omega, by omega, by omega, by omega, by first | (intro _ h9; exfalso; omega) | exact fun _ _ => (by assumption), by first | (intro h9; exfalso; omega), by omega, (oqBP_fr (oFr_oneL (q := 83) (m := 9999) rfl (by rfl)) rfl iv14)⟩⟩
          · skip
            have lk26 : (((pL t 107 v5.toNatClampNeg x2)).1 71 2).toInt = (t.1 71 2).toInt := congrArg Int32.toInt ((show ((pL t 107 v5.toNatClampNeg x2)).1 71 2 = t.1 71 2 from rfl))
            have lk27 : (((pL t 107 v5.toNatClampNeg x2)).1 71 4).toInt = (t.1 71 4).toInt := congrArg Int32.toInt ((show ((pL t 107 v5.toNatClampNeg x2)).1 71 4 = t.1 71 4 from rfl))
            have lk28 : (((pL t 107 v5.toNatClampNeg x2)).1 71 5).toInt = v7.toInt := congrArg Int32.toInt (ev7)
            have lk29 : (((pL t 107 v5.toNatClampNeg x2)).1 71 48).toInt = (t.1 71 48).toInt := congrArg Int32.toInt ((show ((pL t 107 v5.toNatClampNeg x2)).1 71 48 = t.1 71 48 from rfl))
            have lk30 : (((pL t 107 v5.toNatClampNeg x2)).1 71 47).toInt = (t.1 71 47).toInt := congrArg Int32.toInt ((show ((pL t 107 v5.toNatClampNeg x2)).1 71 47 = t.1 71 47 from rfl))
            have hm0 := oqM_0 (g := g) (h := h) (M := M) (N := N) (by omega) (by omega) (by omega) (oqNo6_t (iv11 (by omega)) (by omega))
            refine r_aload_n C (j := 0) (oDec_at oX12_mottoTold 60 rfl) rfl rfl ?_
            refine r_iconst C (oDec_at oX12_mottoTold 61 rfl) (v := k1) (by rw [qk1]; rfl) ?_
            have lk31 : (((pL t 107 v5.toNatClampNeg x2)).1 71 5).toInt = v7.toInt := congrArg Int32.toInt (ev7)
            have lk32 : (((pL t 107 v5.toNatClampNeg x2)).1 71 45).toInt = (t.1 71 45).toInt := congrArg Int32.toInt ((show ((pL t 107 v5.toNatClampNeg x2)).1 71 45 = t.1 71 45 from rfl))
            have lk33 : (((pL t 107 v5.toNatClampNeg x2)).1 71 2).toInt = (t.1 71 2).toInt := congrArg Int32.toInt ((show ((pL t 107 v5.toNatClampNeg x2)).1 71 2 = t.1 71 2 from rfl))
            have lk34 : (((pL t 107 v5.toNatClampNeg x2)).1 71 2).toInt = (t.1 71 2).toInt := congrArg Int32.toInt ((show ((pL t 107 v5.toNatClampNeg x2)).1 71 2 = t.1 71 2 from rfl))
            have lk35 : (((pL t 107 v5.toNatClampNeg x2)).1 71 4).toInt = (t.1 71 4).toInt := congrArg Int32.toInt ((show ((pL t 107 v5.toNatClampNeg x2)).1 71 4 = t.1 71 4 from rfl))
            have lk36 : (((pL t 107 v5.toNatClampNeg x2)).1 71 5).toInt = v7.toInt := congrArg Int32.toInt (ev7)
            have lk37 : (((pL t 107 v5.toNatClampNeg x2)).1 71 2).toInt = (t.1 71 2).toInt := congrArg Int32.toInt ((show ((pL t 107 v5.toNatClampNeg x2)).1 71 2 = t.1 71 2 from rfl))
            have lc38 : (((pL t 107 v5.toNatClampNeg x2)).1 104 2).toInt = (t.1 104 2).toInt := congrArg Int32.toInt ((show ((pL t 107 v5.toNatClampNeg x2)).1 104 2 = t.1 104 2 from rfl))
            have lc39 : (((pL t 107 v5.toNatClampNeg x2)).1 104 3).toInt = (t.1 104 3).toInt := congrArg Int32.toInt ((show ((pL t 107 v5.toNatClampNeg x2)).1 104 3 = t.1 104 3 from rfl))
            have lc40 : (((pL t 107 v5.toNatClampNeg x2)).1 104 3).toInt = (t.1 104 3).toInt := congrArg Int32.toInt ((show ((pL t 107 v5.toNatClampNeg x2)).1 104 3 = t.1 104 3 from rfl))
            refine r_callVv C oCl12 rfl miX12_testTold mlX12_337 (ct7_X12_testTold l E ((pL t 107 v5.toNatClampNeg x2)) k1 (g) (19) (24) (oqWe g (oqSk g h)) (oBB_fr (oFr_oneL (q := 83) (m := 9999) rfl (by rfl)) rfl iv0) (by omega) (by omega) (by omega) (by omega) (by omega) (by omega) (by omega) (by omega) (oqBP_fr (oFr_oneL (q := 83) (m := 9999) rfl (by rfl)) rfl iv14) (oqZ_fr (oFr_oneL (q := 83) (m := 9999) rfl (by rfl)) rfl iv5) (oqWd_fr (oFr_oneL (q := 83) (m := 9999) rfl (by rfl)) rfl iv6)) (by decide) rfl rfl rfl (Nat.le_of_ble_eq_true rfl) (oDec_at oX12_mottoTold 62 rfl) (fun u41 pu41 fu41 => ?_)
            try dsimp only at pu41
            try simp only [lk31, lk32, lk33, lk34, lk35, lk36, lk37] at pu41
            obtain ⟨pu41_0, pu41_1, pu41_2, pu41_3, pu41_4, pu41_5, pu41_6, pu41_7⟩ := pu41
            refine r_ty C (fun hty => ?_)
            have hty_coded : (0 : Int) ≤ ((u41).1 71 45).toInt ∧ ((u41).1 71 45).toInt ≤ 1600 := hty.1 71 45
            have hty_at : (0 : Int) ≤ ((u41).1 71 2).toInt ∧ ((u41).1 71 2).toInt ≤ 1600 := hty.1 71 2
            clear hty
            exact r_vret C (oDec_at oX12_mottoTold 63 rfl) ⟨rfl, ⟨pu41_0, by omega, by omega, by omega, by omega, by omega, by first | (intro _ h9; exfalso; omega) | exact fun _ _ => pu41_4, by first | (intro h9; exfalso; omega) | exact fun h9 => oqNR_fr fu41 rfl (hnr (by omega)), by omega, pu41_7⟩⟩
        · skip
          refine r_aload_n C (j := 0) (oDec_at oX12_mottoTold 28 rfl) rfl rfl ?_
          obtain ⟨v43, ev43⟩ : ∃ z : Int32, (t).1 71 5 = z := ⟨_, rfl⟩
          have gv43 : (t.1 71 5).toInt = v43.toInt := congrArg Int32.toInt (ev43)
          have rv43 := n_rng v43
          refine r_geti (k := 5) (lo := (-2147483648)) (hi := 2147483647) C v43 oCl12 rfl (by decide) flX12_173 rfl rfl (ev43) rfl rfl (oDec_at oX12_mottoTold 29 rfl) (fun _ _ => ?_)
          refine r_if_ne C 82 (oDec_at oX12_mottoTold 30 rfl) (by decide) (fun cd44 => ?_) (fun cd44 => ?_)
          · skip
            obtain ⟨v45, ev45⟩ : ∃ z : Int32, x4 + Int32.ofInt 1 = z := ⟨_, rfl⟩
            have hv45 : v45.toInt = x4.toInt + 1 := n_inc ev45 (by decide) (by omega) (by omega)
            refine r_iinc C (j := 2) (lv' := [(0, .ref (oad E 71)), (2, .long x2), (4, .int v45)]) v45 [1, 2, 0] (oDec_at oX12_mottoTold 45 rfl) rfl ev45 (by decide) rfl ?_
            refine r_goto C (tgt := 40) (oDec_at oX12_mottoTold 46 rfl) (by decide) ?_
            have lk46 : ((t).1 71 5).toInt = v43.toInt := congrArg Int32.toInt (ev43)
            have lk47 : ((t).1 71 5).toInt = v43.toInt := congrArg Int32.toInt (ev43)
            exact (ih (n - 1) (by omega)) (t) x2 v45  iv0 (by omega) (by omega) (by omega) (by omega) iv5 iv6 (by omega) iv8 (by omega) (by first | omega) (by first | (intro h9; exfalso; omega) | exact fun h9 => oqNo6_nx (j := x4.toNatClampNeg) (iv11 (by omega)) (by omega) (by omega) (fun h7 => by have h8 := hne.mpr h7; omega) | exact fun _ => oqNo6_0 (by omega)) (by omega) (by omega) iv14 (by omega)
          · skip
            refine r_aload_n C (j := 0) (oDec_at oX12_mottoTold 31 rfl) rfl rfl ?_
            refine r_getF (k := 52) (b := 107) C oCl12 rfl (by decide) flX12_123 rfl rfl rfl (oDec_at oX12_mottoTold 32 rfl) ?_
            refine r_bipush C (oDec_at oX12_mottoTold 33 rfl) (v := k6) (by rw [qk6]; rfl) ?_
            refine r_iload C (j := 2) (oDec_at oX12_mottoTold 34 rfl) rfl ?_
            obtain ⟨v48, ev48⟩ : ∃ z : Int32, z = k6 + x4 := ⟨_, rfl⟩
            have hv48 : v48.toInt = k6.toInt + x4.toInt := n_add ev48 (by omega) (by omega)
            refine r_iadd C v48 (oDec_at oX12_mottoTold 35 rfl) ev48 ?_
            obtain ⟨v49, ev49⟩ : ∃ z : Int64, (t).2.1 107 v48.toNatClampNeg = z := ⟨_, rfl⟩
            refine r_lald (n := 12) C v49 rfl (by decide) rfl rfl ⟨by omega, by omega⟩ (by decide) ev49 (oDec_at oX12_mottoTold 36 rfl) ?_
            refine r_pc C 68 rfl ?_
            have hne := oqNR_eq iv8 (j := x4.toNatClampNeg) (i := v48) (w := x2) (g := g) (A := oqSk g h) (by omega) (by omega) ev49 (by omega)
            refine r_lload_n C (j := 1) (oDec_at oX12_mottoTold 37 rfl) rfl rfl ?_
            obtain ⟨v50, ev50⟩ : ∃ z : Int32, z = lg_cmp v49 x2 := ⟨_, rfl⟩
            have hv50 := n_lcmp ev50
            refine r_lcmp C v50 (oDec_at oX12_mottoTold 38 rfl) ev50 ?_
            refine r_if_ne C 82 (oDec_at oX12_mottoTold 39 rfl) (by decide) (fun cd51 => ?_) (fun cd51 => ?_)
            · skip
              obtain ⟨v52, ev52⟩ : ∃ z : Int32, x4 + Int32.ofInt 1 = z := ⟨_, rfl⟩
              have hv52 : v52.toInt = x4.toInt + 1 := n_inc ev52 (by decide) (by omega) (by omega)
              refine r_iinc C (j := 2) (lv' := [(0, .ref (oad E 71)), (2, .long x2), (4, .int v52)]) v52 [1, 2, 0] (oDec_at oX12_mottoTold 45 rfl) rfl ev52 (by decide) rfl ?_
              refine r_goto C (tgt := 40) (oDec_at oX12_mottoTold 46 rfl) (by decide) ?_
              have lk53 : ((t).1 71 5).toInt = v43.toInt := congrArg Int32.toInt (ev43)
              have lk54 : ((t).1 71 5).toInt = v43.toInt := congrArg Int32.toInt (ev43)
              exact (ih (n - 1) (by omega)) (t) x2 v52  iv0 (by omega) (by omega) (by omega) (by omega) iv5 iv6 (by omega) iv8 (by omega) (by first | omega) (by first | (intro h9; exfalso; omega) | exact fun h9 => oqNo6_nx (j := x4.toNatClampNeg) (iv11 (by omega)) (by omega) (by omega) (fun h7 => by have h8 := hne.mpr h7; omega) | exact fun _ => oqNo6_0 (by omega)) (by omega) (by omega) iv14 (by omega)
            · skip
              have htk : oqTkn g (oqSk g h) N M := ⟨x4.toNatClampNeg, by omega, hne.mp (by omega)⟩
              have hm3 := oqM_3 (g := g) (h := h) (M := M) (N := N) (by omega) (by omega) (by omega) htk
              refine r_aload_n C (j := 0) (oDec_at oX12_mottoTold 40 rfl) rfl rfl ?_
              refine r_iconst C (oDec_at oX12_mottoTold 41 rfl) (v := k3) (by rw [qk3]; rfl) ?_
              refine r_aload_n C (j := 0) (oDec_at oX12_mottoTold 42 rfl) rfl rfl ?_
              obtain ⟨v55, ev55⟩ : ∃ z : Int32, (t).1 71 36 = z := ⟨_, rfl⟩
              have gv55 : (t.1 71 36).toInt = v55.toInt := congrArg Int32.toInt (ev55)
              have rv55 := n_rng v55
              refine r_geti (k := 36) (lo := (-2147483648)) (hi := 2147483647) C v55 oCl12 rfl (by decide) flX12_224 rfl rfl (ev55) rfl rfl (oDec_at oX12_mottoTold 43 rfl) (fun _ _ => ?_)
              have lk56 : ((t).1 71 5).toInt = v43.toInt := congrArg Int32.toInt (ev43)
              have lk57 : ((t).1 71 5).toInt = v43.toInt := congrArg Int32.toInt (ev43)
              refine r_callVv C oCl12 rfl miX12_fail mlX12_203 (ct7_X12_fail l E (t) k3 v55 (by omega) iv14) (by decide) rfl rfl rfl (Nat.le_of_ble_eq_true rfl) (oDec_at oX12_mottoTold 44 rfl) (fun u58 pu58 fu58 => ?_)
              try dsimp only at pu58
              try simp only [lk56, lk57] at pu58
              obtain ⟨pu58_0, pu58_1, pu58_2⟩ := pu58
              obtain ⟨v60, ev60⟩ : ∃ z : Int32, x4 + Int32.ofInt 1 = z := ⟨_, rfl⟩
              have hv60 : v60.toInt = x4.toInt + 1 := n_inc ev60 (by decide) (by omega) (by omega)
              refine r_iinc C (j := 2) (lv' := [(0, .ref (oad E 71)), (2, .long x2), (4, .int v60)]) v60 [1, 2, 0] (oDec_at oX12_mottoTold 45 rfl) rfl ev60 (by decide) rfl ?_
              refine r_pc C 85 rfl ?_
              refine r_goto C (tgt := 40) (oDec_at oX12_mottoTold 46 rfl) (by decide) ?_
              have lc61 : ((u58).1 104 3).toInt = (t.1 104 3).toInt := congrArg Int32.toInt ((fu58 104 3 rfl).1)
              have lk62 : ((u58).1 71 45).toInt = (t.1 71 45).toInt := congrArg Int32.toInt ((fu58 71 45 rfl).1)
              have lk63 : ((u58).1 71 2).toInt = (t.1 71 2).toInt := congrArg Int32.toInt ((fu58 71 2 rfl).1)
              have lk64 : ((u58).1 71 2).toInt = (t.1 71 2).toInt := congrArg Int32.toInt ((fu58 71 2 rfl).1)
              have lc65 : ((u58).1 104 3).toInt = (t.1 104 3).toInt := congrArg Int32.toInt ((fu58 104 3 rfl).1)
              have lc66 : ((u58).1 104 2).toInt = (t.1 104 2).toInt := congrArg Int32.toInt ((fu58 104 2 rfl).1)
              have lk67 : ((u58).1 71 2).toInt = (t.1 71 2).toInt := congrArg Int32.toInt ((fu58 71 2 rfl).1)
              have lk68 : ((u58).1 71 4).toInt = (t.1 71 4).toInt := congrArg Int32.toInt ((fu58 71 4 rfl).1)
              have lk69 : ((u58).1 71 36).toInt = v55.toInt := congrArg Int32.toInt (((fu58 71 36 rfl).1).trans (ev55))
              exact (ih (n - 1) (by omega)) (u58) x2 v60  (oBB_frb fu58 rfl (by omega) iv0) (by omega) (by omega) (by omega) (by omega) (oqZ_fr fu58 rfl iv5) (oqWd_fr fu58 rfl iv6) (by omega) (oqNR_fr fu58 rfl iv8) (by omega) (by first | omega | (by_cases h9 : ((u58).1 71 5).toInt = 0; (have h8 := pu58_1 h9; left; omega); (have h8 := pu58_2 h9; rcases h8 with ⟨h7, h6 | h6 | h6⟩; (have hm := oqM_1 (g := g) (h := h) (M := M) (N := N) (by omega); right; omega); (have hm := oqM_1 (g := g) (h := h) (M := M) (N := N) (by omega); right; omega); (have hm := oqM_2 (g := g) (h := h) (M := M) (N := N) (by omega) (by omega) (by omega); right; omega)))) (by first | (intro h9; exfalso; omega) | exact fun h9 => oqNo6_nx (j := x4.toNatClampNeg) (iv11 (by omega)) (by omega) (by omega) (fun h7 => by have h8 := hne.mpr h7; omega) | exact fun _ => oqNo6_0 (by omega)) (by omega) (by omega) pu58_2 (by omega)
  refine r_aload_n C (j := 0) (oDec_at oX12_mottoTold 0 rfl) rfl rfl ?_
  obtain ⟨v70, ev70⟩ : ∃ z : Int32, (s).1 71 5 = z := ⟨_, rfl⟩
  have gv70 : (s.1 71 5).toInt = v70.toInt := congrArg Int32.toInt (ev70)
  have rv70 := n_rng v70
  refine r_geti (k := 5) (lo := (-2147483648)) (hi := 2147483647) C v70 oCl12 rfl (by decide) flX12_173 rfl rfl (ev70) rfl rfl (oDec_at oX12_mottoTold 1 rfl) (fun _ _ => ?_)
  refine r_if_ne C 24 (oDec_at oX12_mottoTold 2 rfl) (by decide) (fun cd71 => ?_) (fun cd71 => ?_)
  · skip
    refine r_aload_n C (j := 0) (oDec_at oX12_mottoTold 13 rfl) rfl rfl ?_
    refine r_geti (k := 5) (lo := (-2147483648)) (hi := 2147483647) C v70 oCl12 rfl (by decide) flX12_173 rfl rfl (ev70) rfl rfl (oDec_at oX12_mottoTold 14 rfl) (fun _ _ => ?_)
    refine r_if_eq C 32 (oDec_at oX12_mottoTold 15 rfl) (by decide) (fun cd72 => ?_) (fun cd72 => ?_)
    · omega
    · skip
      have lk73 : ((s).1 71 5).toInt = v70.toInt := congrArg Int32.toInt (ev70)
      have lk74 : ((s).1 71 5).toInt = v70.toInt := congrArg Int32.toInt (ev70)
      have lk75 : ((s).1 71 5).toInt = v70.toInt := congrArg Int32.toInt (ev70)
      have lk76 : ((s).1 71 5).toInt = v70.toInt := congrArg Int32.toInt (ev70)
      have lk77 : ((s).1 71 5).toInt = v70.toInt := congrArg Int32.toInt (ev70)
      exact r_vret C (oDec_at oX12_mottoTold 16 rfl) ⟨rfl, ⟨hp0, by omega, by omega, by omega, by omega, by omega, fun h9 => by exfalso; omega, fun h9 => by exfalso; omega, by omega, hp9⟩⟩
  · skip
    refine r_aload_n C (j := 0) (oDec_at oX12_mottoTold 3 rfl) rfl rfl ?_
    refine r_getF (k := 49) (b := 104) C oCl12 rfl (by decide) flX12_114 rfl rfl rfl (oDec_at oX12_mottoTold 4 rfl) ?_
    refine r_iconst C (oDec_at oX12_mottoTold 5 rfl) (v := k3) (by rw [qk3]; rfl) ?_
    obtain ⟨v79, ev79⟩ : ∃ z : Int32, (s).1 104 k3.toNatClampNeg = z := ⟨_, rfl⟩
    have gv79 : (s.1 104 k3.toNatClampNeg).toInt = v79.toInt := congrArg Int32.toInt (ev79)
    refine r_iald (n := 4) (lo := 0) (hi := 12) C v79 rfl (by decide) rfl rfl ⟨by omega, by omega⟩ (by decide) ev79 rfl rfl (oDec_at oX12_mottoTold 6 rfl) (fun b78 b78h => ?_)
    have hix := oIxM (i := k3) ev79
    refine r_bipush C (oDec_at oX12_mottoTold 7 rfl) (v := k6) (by rw [qk6]; rfl) ?_
    refine r_icmp_ne C 24 (oDec_at oX12_mottoTold 8 rfl) (by decide) (fun cd80 => ?_) (fun cd80 => ?_)
    · skip
      refine r_aload_n C (j := 0) (oDec_at oX12_mottoTold 13 rfl) rfl rfl ?_
      refine r_geti (k := 5) (lo := (-2147483648)) (hi := 2147483647) C v70 oCl12 rfl (by decide) flX12_173 rfl rfl (ev70) rfl rfl (oDec_at oX12_mottoTold 14 rfl) (fun _ _ => ?_)
      refine r_if_eq C 32 (oDec_at oX12_mottoTold 15 rfl) (by decide) (fun cd81 => ?_) (fun cd81 => ?_)
      · skip
        refine r_aload_n C (j := 0) (oDec_at oX12_mottoTold 17 rfl) rfl rfl ?_
        have lk82 : ((s).1 71 5).toInt = v70.toInt := congrArg Int32.toInt (ev70)
        refine r_callVl C oCl12 rfl miX12_name mlX12_340 (ct7_X12_name l E (s)  (g) (h) (by omega) (by omega) hp10 (by omega) hp11 (by omega) hp9) (by decide) rfl rfl rfl (Nat.le_of_ble_eq_true rfl) (oDec_at oX12_mottoTold 18 rfl) (fun r84 u83 pu83 fu83 => ?_)
        try dsimp only at pu83
        try simp only [lk82] at pu83
        obtain ⟨pu83_0, pu83_1, pu83_2, pu83_3⟩ := pu83
        refine r_lstore_n C (lv' := [(0, .ref (oad E 71)), (1, .int a1), (2, .long r84)]) [1, 2, 0] (oDec_at oX12_mottoTold 19 rfl) rfl (by decide) rfl ?_
        refine r_iconst C (oDec_at oX12_mottoTold 20 rfl) (v := k0) (by rw [qk0]; rfl) ?_
        refine r_istore C (lv' := [(0, .ref (oad E 71)), (1, .int a1), (2, .long r84), (4, .int k0)]) [1, 2, 3, 0] (oDec_at oX12_mottoTold 21 rfl) (by decide) rfl ?_
        have lc85 : ((u83).1 104 3).toInt = (s.1 104 3).toInt := congrArg Int32.toInt ((fu83 104 3 rfl).1)
        have lk86 : ((u83).1 71 45).toInt = (s.1 71 45).toInt := congrArg Int32.toInt ((fu83 71 45 rfl).1)
        have lc87 : ((u83).1 104 3).toInt = (s.1 104 3).toInt := congrArg Int32.toInt ((fu83 104 3 rfl).1)
        have lc88 : ((u83).1 104 2).toInt = (s.1 104 2).toInt := congrArg Int32.toInt ((fu83 104 2 rfl).1)
        refine r_pick C [0, 2, 3] rfl ?_
        exact (key (20 - k0.toInt).toNat) (u83) r84 k0  (oBB_frb fu83 rfl (by omega) hp0) (by omega) (by omega) (by omega) (by omega) (oqZ_fr fu83 rfl hp10) (oqWd_fr fu83 rfl hp11) (by omega) (oqNR_fr fu83 rfl hp7) (by omega) (by first | omega | (by_cases h9 : ((u83).1 71 5).toInt = 0; (have h8 := pu83_1 h9; left; omega); (have h8 := pu83_2 h9; rcases h8 with ⟨h7, h6 | h6 | h6⟩; (have hm := oqM_1 (g := g) (h := h) (M := M) (N := N) (by omega); right; omega); (have hm := oqM_1 (g := g) (h := h) (M := M) (N := N) (by omega); right; omega); (have hm := oqM_2 (g := g) (h := h) (M := M) (N := N) (by omega) (by omega) (by omega); right; omega)))) (by first | (intro h9; exfalso; omega) | exact fun _ => oqNo6_0 (by omega)) (by omega) (by omega) pu83_3 (by omega)
      · omega
    · skip
      refine r_aload_n C (j := 0) (oDec_at oX12_mottoTold 9 rfl) rfl rfl ?_
      refine r_iconst C (oDec_at oX12_mottoTold 10 rfl) (v := k5) (by rw [qk5]; rfl) ?_
      refine r_iload_n C (j := 1) (oDec_at oX12_mottoTold 11 rfl) rfl rfl ?_
      have lk89 : ((s).1 71 5).toInt = v70.toInt := congrArg Int32.toInt (ev70)
      have lk90 : ((s).1 71 5).toInt = v70.toInt := congrArg Int32.toInt (ev70)
      refine r_callVv C oCl12 rfl miX12_fail mlX12_203 (ct7_X12_fail l E (s) k5 a1 (by omega) hp9) (by decide) rfl rfl rfl (Nat.le_of_ble_eq_true rfl) (oDec_at oX12_mottoTold 12 rfl) (fun u91 pu91 fu91 => ?_)
      try dsimp only at pu91
      try simp only [lk89, lk90] at pu91
      obtain ⟨pu91_0, pu91_1, pu91_2⟩ := pu91
      refine r_aload_n C (j := 0) (oDec_at oX12_mottoTold 13 rfl) rfl rfl ?_
      obtain ⟨v93, ev93⟩ : ∃ z : Int32, (u91).1 71 5 = z := ⟨_, rfl⟩
      have gv93 : (u91.1 71 5).toInt = v93.toInt := congrArg Int32.toInt (ev93)
      have rv93 := n_rng v93
      refine r_geti (k := 5) (lo := (-2147483648)) (hi := 2147483647) C v93 oCl12 rfl (by decide) flX12_173 rfl rfl (ev93) rfl rfl (oDec_at oX12_mottoTold 14 rfl) (fun _ _ => ?_)
      refine r_pc C 28 rfl ?_
      refine r_if_eq C 32 (oDec_at oX12_mottoTold 15 rfl) (by decide) (fun cd94 => ?_) (fun cd94 => ?_)
      · skip
        refine r_aload_n C (j := 0) (oDec_at oX12_mottoTold 17 rfl) rfl rfl ?_
        have lk95 : ((u91).1 71 2).toInt = (s.1 71 2).toInt := congrArg Int32.toInt ((fu91 71 2 rfl).1)
        have lk96 : ((u91).1 71 4).toInt = (s.1 71 4).toInt := congrArg Int32.toInt ((fu91 71 4 rfl).1)
        have lk97 : ((u91).1 71 5).toInt = v93.toInt := congrArg Int32.toInt (ev93)
        have lk98 : ((u91).1 71 2).toInt = (s.1 71 2).toInt := congrArg Int32.toInt ((fu91 71 2 rfl).1)
        refine r_callVl C oCl12 rfl miX12_name mlX12_340 (ct7_X12_name l E (u91)  (g) (h) (by omega) (by omega) (oqZ_fr fu91 rfl hp10) (by omega) (oqWd_fr fu91 rfl hp11) (by omega) pu91_2) (by decide) rfl rfl rfl (Nat.le_of_ble_eq_true rfl) (oDec_at oX12_mottoTold 18 rfl) (fun r100 u99 pu99 fu99 => ?_)
        try dsimp only at pu99
        try simp only [lk95, lk96, lk97, lk98] at pu99
        obtain ⟨pu99_0, pu99_1, pu99_2, pu99_3⟩ := pu99
        refine r_lstore_n C (lv' := [(0, .ref (oad E 71)), (1, .int a1), (2, .long r100)]) [1, 2, 0] (oDec_at oX12_mottoTold 19 rfl) rfl (by decide) rfl ?_
        refine r_iconst C (oDec_at oX12_mottoTold 20 rfl) (v := k0) (by rw [qk0]; rfl) ?_
        refine r_istore C (lv' := [(0, .ref (oad E 71)), (1, .int a1), (2, .long r100), (4, .int k0)]) [1, 2, 3, 0] (oDec_at oX12_mottoTold 21 rfl) (by decide) rfl ?_
        have lc101 : ((u99).1 104 3).toInt = (s.1 104 3).toInt := congrArg Int32.toInt (((fu99 104 3 rfl).1).trans ((fu91 104 3 rfl).1))
        have lk102 : ((u99).1 71 45).toInt = (s.1 71 45).toInt := congrArg Int32.toInt (((fu99 71 45 rfl).1).trans ((fu91 71 45 rfl).1))
        have lc103 : ((u99).1 104 3).toInt = (s.1 104 3).toInt := congrArg Int32.toInt (((fu99 104 3 rfl).1).trans ((fu91 104 3 rfl).1))
        have lc104 : ((u99).1 104 2).toInt = (s.1 104 2).toInt := congrArg Int32.toInt (((fu99 104 2 rfl).1).trans ((fu91 104 2 rfl).1))
        refine r_pick C [0, 2, 3] rfl ?_
        exact (key (20 - k0.toInt).toNat) (u99) r100 k0  (oBB_frb fu99 rfl (by omega) (oBB_frb fu91 rfl (by omega) hp0)) (by omega) (by omega) (by omega) (by omega) (oqZ_fr fu99 rfl (oqZ_fr fu91 rfl hp10)) (oqWd_fr fu99 rfl (oqWd_fr fu91 rfl hp11)) (by omega) (oqNR_fr fu99 rfl (oqNR_fr fu91 rfl hp7)) (by omega) (by first | omega | (by_cases h9 : ((u99).1 71 5).toInt = 0; (have h8 := pu99_1 h9; left; omega); (have h8 := pu99_2 h9; rcases h8 with ⟨h7, h6 | h6 | h6⟩; (have hm := oqM_1 (g := g) (h := h) (M := M) (N := N) (by omega); right; omega); (have hm := oqM_1 (g := g) (h := h) (M := M) (N := N) (by omega); right; omega); (have hm := oqM_2 (g := g) (h := h) (M := M) (N := N) (by omega) (by omega) (by omega); right; omega)))) (by first | (intro h9; exfalso; omega) | exact fun _ => oqNo6_0 (by omega)) (by omega) (by omega) pu99_3 (by omega)
      · skip
        have lk105 : ((u91).1 71 5).toInt = v93.toInt := congrArg Int32.toInt (ev93)
        have lk106 : ((u91).1 71 45).toInt = (s.1 71 45).toInt := congrArg Int32.toInt ((fu91 71 45 rfl).1)
        have lk107 : ((u91).1 71 2).toInt = (s.1 71 2).toInt := congrArg Int32.toInt ((fu91 71 2 rfl).1)
        have lc108 : ((u91).1 104 3).toInt = (s.1 104 3).toInt := congrArg Int32.toInt ((fu91 104 3 rfl).1)
        have lk109 : ((u91).1 71 2).toInt = (s.1 71 2).toInt := congrArg Int32.toInt ((fu91 71 2 rfl).1)
        have lk110 : ((u91).1 71 5).toInt = v93.toInt := congrArg Int32.toInt (ev93)
        have lk111 : ((u91).1 71 5).toInt = v93.toInt := congrArg Int32.toInt (ev93)
        have lk112 : ((u91).1 71 5).toInt = v93.toInt := congrArg Int32.toInt (ev93)
        have lc113 : ((u91).1 104 3).toInt = (s.1 104 3).toInt := congrArg Int32.toInt ((fu91 104 3 rfl).1)
        have lc114 : ((u91).1 104 2).toInt = (s.1 104 2).toInt := congrArg Int32.toInt ((fu91 104 2 rfl).1)
        have lk115 : ((u91).1 71 5).toInt = v93.toInt := congrArg Int32.toInt (ev93)
        exact r_vret C (oDec_at oX12_mottoTold 16 rfl) ⟨rfl, ⟨(oBB_frb fu91 rfl (by omega) hp0), by omega, by omega, by omega, by omega, by omega, fun h9 => by exfalso; omega, fun h9 => by exfalso; omega, by omega, pu91_2⟩⟩
