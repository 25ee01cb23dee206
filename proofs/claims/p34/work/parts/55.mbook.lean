set_option maxHeartbeats 4000000 in
set_option maxRecDepth 100000 in
theorem ct_X12_testTold (l : Launch) (E : oE) (s : oS) (a1 : Int32)  (hp0 : oBB s) (hp1 : 0 ≤ a1.toInt ∧ a1.toInt ≤ 1) (hp2 : a1.toInt = 0 → (s.1 104 2).toInt ≤ 11) (hp3 : a1.toInt = 1 → (s.1 104 3).toInt ≤ 5) (hp4 : (s.1 104 3).toInt ≤ 6) (hp5 : (s.1 71 5).toInt = 0) (hp6 : (s.1 71 45).toInt + 3 ≤ (s.1 71 2).toInt) : oMet l 9 yX12_testTold cX12_testTold 3 none [(12, 2), (12, 4), (12, 5), (12, 6), (12, 9), (12, 45), (12, 47), (12, 48), (12, 55), (12, 56), (78, 9999), (79, 9999), (80, 9999), (81, 9999), (82, 9999)] E s [.ref (oad E 71), .int a1] (oPv (fun u => (oBB u) ∧ ((u.1 71 5).toInt = 0 → ((u.1 71 45).toInt ≤ (u.1 71 2).toInt ∧ (s.1 71 5).toInt = 0)) ∧ ((u.1 104 3).toInt ≤ 6) ∧ ((s.1 71 2).toInt ≤ (u.1 71 2).toInt))) := by
  refine oMet.of (lv := [(0, .ref (oad E 71)), (1, .int a1)]) (by decide +kernel) (Nat.le_of_ble_eq_true rfl) rfl (fun J C hT => ?_)
  have C : oC l 9 cX12_testTold RX12 3 none [(12, 2), (12, 4), (12, 5), (12, 6), (12, 9), (12, 45), (12, 47), (12, 48), (12, 55), (12, 56), (78, 9999), (79, 9999), (80, 9999), (81, 9999), (82, 9999)] E s (oPv (fun u => (oBB u) ∧ ((u.1 71 5).toInt = 0 → ((u.1 71 45).toInt ≤ (u.1 71 2).toInt ∧ (s.1 71 5).toInt = 0)) ∧ ((u.1 104 3).toInt ≤ 6) ∧ ((s.1 71 2).toInt ≤ (u.1 71 2).toInt))) J := C
  obtain ⟨k0, qk0⟩ : ∃ z : Int32, z = 0 := ⟨_, rfl⟩
  have ek0 : k0.toInt = 0 := by rw [qk0]; rfl
  obtain ⟨k1, qk1⟩ : ∃ z : Int32, z = 1 := ⟨_, rfl⟩
  have ek1 : k1.toInt = 1 := by rw [qk1]; rfl
  obtain ⟨k2, qk2⟩ : ∃ z : Int32, z = 2 := ⟨_, rfl⟩
  have ek2 : k2.toInt = 2 := by rw [qk2]; rfl
  obtain ⟨k12, qk12⟩ : ∃ z : Int32, z = 12 := ⟨_, rfl⟩
  have ek12 : k12.toInt = 12 := by rw [qk12]; rfl
  obtain ⟨k24, qk24⟩ : ∃ z : Int32, z = 24 := ⟨_, rfl⟩
  have ek24 : k24.toInt = 24 := by rw [qk24]; rfl
  have rg1 := n_rng a1
  have htz_coded : (0 : Int) ≤ (s.1 71 45).toInt ∧ (s.1 71 45).toInt ≤ 1600 := hT.1 71 45
  have htz_at : (0 : Int) ≤ (s.1 71 2).toInt ∧ (s.1 71 2).toInt ≤ 1600 := hT.1 71 2
  refine r_bipush C (oDec_at oX12_testTold 0 rfl) (v := k24) (by rw [qk24]; rfl) ?_
  refine r_bipush C (oDec_at oX12_testTold 1 rfl) (v := k12) (by rw [qk12]; rfl) ?_
  refine r_iload_n C (j := 1) (oDec_at oX12_testTold 2 rfl) rfl rfl ?_
  obtain ⟨v1, ev1⟩ : ∃ z : Int32, z = k12 * a1 := ⟨_, rfl⟩
  have hv1 : v1.toInt = 12 * a1.toInt := n_mulK' 12 ev1 ek12 (by omega) (by omega)
  refine r_imul C v1 (oDec_at oX12_testTold 3 rfl) ev1 ?_
  obtain ⟨v2, ev2⟩ : ∃ z : Int32, z = k24 + v1 := ⟨_, rfl⟩
  have hv2 : v2.toInt = k24.toInt + v1.toInt := n_add ev2 (by omega) (by omega)
  refine r_iadd C v2 (oDec_at oX12_testTold 4 rfl) ev2 ?_
  refine r_aload_n C (j := 0) (oDec_at oX12_testTold 5 rfl) rfl rfl ?_
  refine r_pc C 8 rfl ?_
  refine r_getF (k := 49) (b := 104) C oCl12 rfl (by decide) flX12_114 rfl rfl rfl (oDec_at oX12_testTold 6 rfl) ?_
  refine r_iconst C (oDec_at oX12_testTold 7 rfl) (v := k2) (by rw [qk2]; rfl) ?_
  refine r_iload_n C (j := 1) (oDec_at oX12_testTold 8 rfl) rfl rfl ?_
  obtain ⟨v3, ev3⟩ : ∃ z : Int32, z = k2 + a1 := ⟨_, rfl⟩
  have hv3 : v3.toInt = k2.toInt + a1.toInt := n_add ev3 (by omega) (by omega)
  refine r_iadd C v3 (oDec_at oX12_testTold 9 rfl) ev3 ?_
  obtain ⟨v5, ev5⟩ : ∃ z : Int32, (s).1 104 v3.toNatClampNeg = z := ⟨_, rfl⟩
  have gv5 : (s.1 104 v3.toNatClampNeg).toInt = v5.toInt := congrArg Int32.toInt (ev5)
  refine r_iald (n := 4) (lo := 0) (hi := 12) C v5 rfl (by decide) rfl rfl ⟨by omega, by omega⟩ (by decide) ev5 rfl rfl (oDec_at oX12_testTold 10 rfl) (fun b4 b4h => ?_)
  have hix := oIxM (i := v3) ev5
  obtain ⟨v6, ev6⟩ : ∃ z : Int32, z = v2 + v5 := ⟨_, rfl⟩
  have hv6 : v6.toInt = v2.toInt + v5.toInt := n_add ev6 (by omega) (by omega)
  refine r_iadd C v6 (oDec_at oX12_testTold 11 rfl) ev6 ?_
  refine r_pc C 16 rfl ?_
  refine r_istore_n C (lv' := [(0, .ref (oad E 71)), (1, .int a1), (2, .int v6)]) [1, 2, 0] (oDec_at oX12_testTold 12 rfl) rfl (by decide) rfl ?_
  refine r_aload_n C (j := 0) (oDec_at oX12_testTold 13 rfl) rfl rfl ?_
  refine r_aload_n C (j := 0) (oDec_at oX12_testTold 14 rfl) rfl rfl ?_
  refine r_getF (k := 16) (b := 79) C oCl12 rfl (by decide) flX12_36 rfl rfl rfl (oDec_at oX12_testTold 15 rfl) ?_
  refine r_callVv C oCl12 rfl miX12_asks mlX12_240 (ct_X12_asks l E (s) 79 55 4 rfl (by decide) (by decide) rfl rfl (by omega)) (by decide) rfl rfl rfl (Nat.le_of_ble_eq_true rfl) (oDec_at oX12_testTold 16 rfl) (fun u7 pu7 fu7 => ?_)
  try dsimp only at pu7
  obtain ⟨pu7_0, pu7_1⟩ := pu7
  have lc9 : ((u7).1 104 2).toInt = (s.1 104 2).toInt := congrArg Int32.toInt ((fu7 104 2 rfl).1)
  have lc10 : ((u7).1 104 3).toInt = (s.1 104 3).toInt := congrArg Int32.toInt ((fu7 104 3 rfl).1)
  have lk11 : ((u7).1 71 45).toInt = (s.1 71 45).toInt := congrArg Int32.toInt ((fu7 71 45 rfl).1)
  refine r_ty C (fun hty => ?_)
  have hmU : ∀ i : Nat, (0 : Int) ≤ ((u7).1 104 i).toInt ∧ ((u7).1 104 i).toInt ≤ 12 := fun i => hty.1 104 i
  have hmU2 := hmU 2
  have hmU3 := hmU 3
  clear hty
  refine r_ty C (fun hty => ?_)
  have hty_coded : (0 : Int) ≤ ((u7).1 71 45).toInt ∧ ((u7).1 71 45).toInt ≤ 1600 := hty.1 71 45
  have hty_at : (0 : Int) ≤ ((u7).1 71 2).toInt ∧ ((u7).1 71 2).toInt ≤ 1600 := hty.1 71 2
  clear hty
  refine r_aload_n C (j := 0) (oDec_at oX12_testTold 17 rfl) rfl rfl ?_
  refine r_pc C 26 rfl ?_
  refine r_iload_n C (j := 1) (oDec_at oX12_testTold 18 rfl) rfl rfl ?_
  refine r_iconst C (oDec_at oX12_testTold 19 rfl) (v := k1) (by rw [qk1]; rfl) ?_
  refine r_icmp_ne C 35 (oDec_at oX12_testTold 20 rfl) (by decide) (fun cd12 => ?_) (fun cd12 => ?_)
  · skip
    refine r_iconst C (oDec_at oX12_testTold 23 rfl) (v := k0) (by rw [qk0]; rfl) ?_
    refine r_puti (k := 56) (lo := 0) (hi := 1) C oCl12 rfl (by decide) flX12_295 rfl rfl rfl rfl rfl (n_bool (by omega)) (n_fitz (by omega)) rfl ⟨by omega, by omega⟩ (oDec_at oX12_testTold 24 rfl) ?_
    refine r_aload_n C (j := 0) (oDec_at oX12_testTold 25 rfl) rfl rfl ?_
    refine r_getF (k := 50) (b := 105) C oCl12 rfl (by decide) flX12_117 rfl rfl rfl (oDec_at oX12_testTold 26 rfl) ?_
    refine r_iload_n C (j := 2) (oDec_at oX12_testTold 27 rfl) rfl rfl ?_
    refine r_aload_n C (j := 0) (oDec_at oX12_testTold 28 rfl) rfl rfl ?_
    refine r_pc C 45 rfl ?_
    obtain ⟨v13, ev13⟩ : ∃ z : Int32, ((pI u7 71 56 k0)).1 71 45 = z := ⟨_, rfl⟩
    have gv13 : (s.1 71 45).toInt = v13.toInt := congrArg Int32.toInt ((((pI_ne (a := 71) (b := 45) (c := 71) (k := 56) _ _ (Or.inr (by decide)))).trans ((fu7 71 45 rfl).1)).symm.trans ev13)
    have ggv13 : (((pI u7 71 56 k0)).1 71 45).toInt = v13.toInt := congrArg Int32.toInt ev13
    refine r_geti (k := 45) (lo := 0) (hi := 1600) C v13 oCl12 rfl (by decide) flX12_234 rfl rfl (ev13) rfl rfl (oDec_at oX12_testTold 29 rfl) (fun b14 b14h => ?_)
    have lc15 : (((pI u7 71 56 k0)).1 104 2).toInt = (s.1 104 2).toInt := congrArg Int32.toInt (((pI_ne (a := 104) (b := 2) (c := 71) _ _ (Or.inl (by decide)))).trans ((fu7 104 2 rfl).1))
    have lc16 : (((pI u7 71 56 k0)).1 104 3).toInt = (s.1 104 3).toInt := congrArg Int32.toInt (((pI_ne (a := 104) (b := 3) (c := 71) _ _ (Or.inl (by decide)))).trans ((fu7 104 3 rfl).1))
    have lk17 : (((pI u7 71 56 k0)).1 71 45).toInt = v13.toInt := congrArg Int32.toInt (ev13)
    refine r_ty C (fun hty => ?_)
    have hmA : ∀ i : Nat, (0 : Int) ≤ (((pI u7 71 56 k0)).1 104 i).toInt ∧ (((pI u7 71 56 k0)).1 104 i).toInt ≤ 12 := fun i => hty.1 104 i
    have hmA2 := hmA 2
    have hmA3 := hmA 3
    clear hty
    refine r_iast (n := 48) (lo := 0) (hi := 1600) C rfl (by decide) rfl rfl ⟨by omega, by omega⟩ (by decide) rfl rfl rfl rfl ⟨by omega, by omega⟩ (oDec_at oX12_testTold 30 rfl) ?_
    have hq18 : oBB ((pI (pI u7 71 56 k0) 105 v6.toNatClampNeg v13)) := oBB_from (oBB_fr (oFr_oneI (q := 12) (m := 56) rfl (by rfl)) rfl (oBB_frb fu7 rfl (by omega) hp0)) hmA (by omega)
    refine r_aload_n C (j := 0) (oDec_at oX12_testTold 31 rfl) rfl rfl ?_
    refine r_iconst C (oDec_at oX12_testTold 32 rfl) (v := k0) (by rw [qk0]; rfl) ?_
    refine r_puti (k := 47) (lo := 0) (hi := 1700) C oCl12 rfl (by decide) flX12_277 rfl rfl rfl rfl rfl rfl rfl rfl ⟨by omega, by omega⟩ (oDec_at oX12_testTold 33 rfl) ?_
    refine r_aload_n C (j := 0) (oDec_at oX12_testTold 34 rfl) rfl rfl ?_
    refine r_pc C 55 rfl ?_
    refine r_iconst C (oDec_at oX12_testTold 35 rfl) (v := k0) (by rw [qk0]; rfl) ?_
    refine r_puti (k := 48) (lo := (-1)) (hi := 7) C oCl12 rfl (by decide) flX12_274 rfl rfl rfl rfl rfl rfl rfl rfl ⟨by omega, by omega⟩ (oDec_at oX12_testTold 36 rfl) ?_
    refine r_aload_n C (j := 0) (oDec_at oX12_testTold 37 rfl) rfl rfl ?_
    refine r_iconst C (oDec_at oX12_testTold 38 rfl) (v := k0) (by rw [qk0]; rfl) ?_
    refine r_puti (k := 55) (lo := 0) (hi := 1700) C oCl12 rfl (by decide) flX12_283 rfl rfl rfl rfl rfl rfl rfl rfl ⟨by omega, by omega⟩ (oDec_at oX12_testTold 39 rfl) ?_
    refine r_aload_n C (j := 0) (oDec_at oX12_testTold 40 rfl) rfl rfl ?_
    refine r_pc C 65 rfl ?_
    obtain ⟨v19, ev19⟩ : ∃ z : Int32, ((pI (pI (pI (pI (pI u7 71 56 k0) 105 v6.toNatClampNeg v13) 71 47 k0) 71 48 k0) 71 55 k0)).1 71 5 = z := ⟨_, rfl⟩
    have gv19 : (u7.1 71 5).toInt = v19.toInt := congrArg Int32.toInt ((((pI_ne (a := 71) (b := 5) (c := 71) (k := 55) _ _ (Or.inr (by decide)))).trans (((pI_ne (a := 71) (b := 5) (c := 71) (k := 48) _ _ (Or.inr (by decide)))).trans (((pI_ne (a := 71) (b := 5) (c := 71) (k := 47) _ _ (Or.inr (by decide)))).trans (((pI_ne (a := 71) (b := 5) (c := 105) _ _ (Or.inl (by decide)))).trans ((pI_ne (a := 71) (b := 5) (c := 71) (k := 56) _ _ (Or.inr (by decide)))))))).symm.trans ev19)
    have ggv19 : (((pI (pI (pI (pI (pI u7 71 56 k0) 105 v6.toNatClampNeg v13) 71 47 k0) 71 48 k0) 71 55 k0)).1 71 5).toInt = v19.toInt := congrArg Int32.toInt ev19
    have rv19 := n_rng v19
    refine r_geti (k := 5) (lo := (-2147483648)) (hi := 2147483647) C v19 oCl12 rfl (by decide) flX12_173 rfl rfl (ev19) rfl rfl (oDec_at oX12_testTold 41 rfl) (fun _ _ => ?_)
    refine r_if_ne C 75 (oDec_at oX12_testTold 42 rfl) (by decide) (fun cd20 => ?_) (fun cd20 => ?_)
    · skip
      refine r_aload_n C (j := 0) (oDec_at oX12_testTold 45 rfl) rfl rfl ?_
      refine r_getF (k := 51) (b := 106) C oCl12 rfl (by decide) flX12_120 rfl rfl rfl (oDec_at oX12_testTold 46 rfl) ?_
      refine r_iload_n C (j := 2) (oDec_at oX12_testTold 47 rfl) rfl rfl ?_
      refine r_aload_n C (j := 0) (oDec_at oX12_testTold 48 rfl) rfl rfl ?_
      refine r_geti (k := 45) (lo := 0) (hi := 1600) C v13 oCl12 rfl (by decide) flX12_234 rfl rfl (((pI_ne (a := 71) (b := 45) (c := 71) (k := 55) _ _ (Or.inr (by decide)))).trans (((pI_ne (a := 71) (b := 45) (c := 71) (k := 48) _ _ (Or.inr (by decide)))).trans (((pI_ne (a := 71) (b := 45) (c := 71) (k := 47) _ _ (Or.inr (by decide)))).trans (((pI_ne (a := 71) (b := 45) (c := 105) _ _ (Or.inl (by decide)))).trans (ev13))))) rfl rfl (oDec_at oX12_testTold 49 rfl) (fun _ _ => ?_)
      have lc21 : (((pI (pI (pI (pI (pI u7 71 56 k0) 105 v6.toNatClampNeg v13) 71 47 k0) 71 48 k0) 71 55 k0)).1 104 2).toInt = (s.1 104 2).toInt := congrArg Int32.toInt (((pI_ne (a := 104) (b := 2) (c := 71) _ _ (Or.inl (by decide)))).trans (((pI_ne (a := 104) (b := 2) (c := 71) _ _ (Or.inl (by decide)))).trans (((pI_ne (a := 104) (b := 2) (c := 71) _ _ (Or.inl (by decide)))).trans (((pI_ne (a := 104) (b := 2) (c := 105) _ _ (Or.inl (by decide)))).trans (((pI_ne (a := 104) (b := 2) (c := 71) _ _ (Or.inl (by decide)))).trans ((fu7 104 2 rfl).1))))))
      have lc22 : (((pI (pI (pI (pI (pI u7 71 56 k0) 105 v6.toNatClampNeg v13) 71 47 k0) 71 48 k0) 71 55 k0)).1 104 3).toInt = (s.1 104 3).toInt := congrArg Int32.toInt (((pI_ne (a := 104) (b := 3) (c := 71) _ _ (Or.inl (by decide)))).trans (((pI_ne (a := 104) (b := 3) (c := 71) _ _ (Or.inl (by decide)))).trans (((pI_ne (a := 104) (b := 3) (c := 71) _ _ (Or.inl (by decide)))).trans (((pI_ne (a := 104) (b := 3) (c := 105) _ _ (Or.inl (by decide)))).trans (((pI_ne (a := 104) (b := 3) (c := 71) _ _ (Or.inl (by decide)))).trans ((fu7 104 3 rfl).1))))))
      have lk23 : (((pI (pI (pI (pI (pI u7 71 56 k0) 105 v6.toNatClampNeg v13) 71 47 k0) 71 48 k0) 71 55 k0)).1 71 45).toInt = v13.toInt := congrArg Int32.toInt (((pI_ne (a := 71) (b := 45) (c := 71) (k := 55) _ _ (Or.inr (by decide)))).trans (((pI_ne (a := 71) (b := 45) (c := 71) (k := 48) _ _ (Or.inr (by decide)))).trans (((pI_ne (a := 71) (b := 45) (c := 71) (k := 47) _ _ (Or.inr (by decide)))).trans (((pI_ne (a := 71) (b := 45) (c := 105) _ _ (Or.inl (by decide)))).trans (ev13)))))
      have lk24 : (((pI (pI (pI (pI (pI u7 71 56 k0) 105 v6.toNatClampNeg v13) 71 47 k0) 71 48 k0) 71 55 k0)).1 71 56).toInt = k0.toInt := congrArg Int32.toInt (((pI_ne (a := 71) (b := 56) (c := 71) (k := 55) _ _ (Or.inr (by decide)))).trans (((pI_ne (a := 71) (b := 56) (c := 71) (k := 48) _ _ (Or.inr (by decide)))).trans (((pI_ne (a := 71) (b := 56) (c := 71) (k := 47) _ _ (Or.inr (by decide)))).trans (((pI_ne (a := 71) (b := 56) (c := 105) _ _ (Or.inl (by decide)))).trans ((pI_self _ _ _ _))))))
      have lk25 : (((pI (pI (pI (pI (pI u7 71 56 k0) 105 v6.toNatClampNeg v13) 71 47 k0) 71 48 k0) 71 55 k0)).1 71 5).toInt = v19.toInt := congrArg Int32.toInt (ev19)
      refine r_ty C (fun hty => ?_)
      have hmB : ∀ i : Nat, (0 : Int) ≤ (((pI (pI (pI (pI (pI u7 71 56 k0) 105 v6.toNatClampNeg v13) 71 47 k0) 71 48 k0) 71 55 k0)).1 104 i).toInt ∧ (((pI (pI (pI (pI (pI u7 71 56 k0) 105 v6.toNatClampNeg v13) 71 47 k0) 71 48 k0) 71 55 k0)).1 104 i).toInt ≤ 12 := fun i => hty.1 104 i
      have hmB2 := hmB 2
      have hmB3 := hmB 3
      clear hty
      refine r_ty C (fun hty => ?_)
      have hty_coded : (0 : Int) ≤ (((pI (pI (pI (pI (pI u7 71 56 k0) 105 v6.toNatClampNeg v13) 71 47 k0) 71 48 k0) 71 55 k0)).1 71 45).toInt ∧ (((pI (pI (pI (pI (pI u7 71 56 k0) 105 v6.toNatClampNeg v13) 71 47 k0) 71 48 k0) 71 55 k0)).1 71 45).toInt ≤ 1600 := hty.1 71 45
      have hty_waits : (0 : Int) ≤ (((pI (pI (pI (pI (pI u7 71 56 k0) 105 v6.toNatClampNeg v13) 71 47 k0) 71 48 k0) 71 55 k0)).1 71 47).toInt ∧ (((pI (pI (pI (pI (pI u7 71 56 k0) 105 v6.toNatClampNeg v13) 71 47 k0) 71 48 k0) 71 55 k0)).1 71 47).toInt ≤ 1700 := hty.1 71 47
      have hty_at : (0 : Int) ≤ (((pI (pI (pI (pI (pI u7 71 56 k0) 105 v6.toNatClampNeg v13) 71 47 k0) 71 48 k0) 71 55 k0)).1 71 2).toInt ∧ (((pI (pI (pI (pI (pI u7 71 56 k0) 105 v6.toNatClampNeg v13) 71 47 k0) 71 48 k0) 71 55 k0)).1 71 2).toInt ≤ 1600 := hty.1 71 2
      clear hty
      refine r_iast (n := 48) (lo := 0) (hi := 1600) C rfl (by decide) rfl rfl ⟨by omega, by omega⟩ (by decide) rfl rfl rfl rfl ⟨by omega, by omega⟩ (oDec_at oX12_testTold 50 rfl) ?_
      refine r_pc C 85 rfl ?_
      refine r_aload_n C (j := 0) (oDec_at oX12_testTold 51 rfl) rfl rfl ?_
      refine r_getF (k := 49) (b := 104) C oCl12 rfl (by decide) flX12_114 rfl rfl rfl (oDec_at oX12_testTold 52 rfl) ?_
      refine r_iconst C (oDec_at oX12_testTold 53 rfl) (v := k2) (by rw [qk2]; rfl) ?_
      refine r_iload_n C (j := 1) (oDec_at oX12_testTold 54 rfl) rfl rfl ?_
      obtain ⟨v26, ev26⟩ : ∃ z : Int32, z = k2 + a1 := ⟨_, rfl⟩
      have hv26 : v26.toInt = k2.toInt + a1.toInt := n_add ev26 (by omega) (by omega)
      refine r_iadd C v26 (oDec_at oX12_testTold 55 rfl) ev26 ?_
      refine r_dup2 C (oDec_at oX12_testTold 56 rfl) rfl rfl ?_
      refine r_pc C 93 rfl ?_
      obtain ⟨v28, ev28⟩ : ∃ z : Int32, ((pI (pI (pI (pI (pI (pI u7 71 56 k0) 105 v6.toNatClampNeg v13) 71 47 k0) 71 48 k0) 71 55 k0) 106 v6.toNatClampNeg v13)).1 104 v26.toNatClampNeg = z := ⟨_, rfl⟩
      have av28 : s.1 104 v26.toNatClampNeg = v28 := (((pI_ne (a := 104) (b := v26.toNatClampNeg) (c := 106) _ _ (Or.inl (by decide)))).trans (((pI_ne (a := 104) (b := v26.toNatClampNeg) (c := 71) _ _ (Or.inl (by decide)))).trans (((pI_ne (a := 104) (b := v26.toNatClampNeg) (c := 71) _ _ (Or.inl (by decide)))).trans (((pI_ne (a := 104) (b := v26.toNatClampNeg) (c := 71) _ _ (Or.inl (by decide)))).trans (((pI_ne (a := 104) (b := v26.toNatClampNeg) (c := 105) _ _ (Or.inl (by decide)))).trans (((pI_ne (a := 104) (b := v26.toNatClampNeg) (c := 71) _ _ (Or.inl (by decide)))).trans ((fu7 104 v26.toNatClampNeg rfl).1))))))).symm.trans ev28
      have gv28 : (s.1 104 v26.toNatClampNeg).toInt = v28.toInt := congrArg Int32.toInt ((((pI_ne (a := 104) (b := v26.toNatClampNeg) (c := 106) _ _ (Or.inl (by decide)))).trans (((pI_ne (a := 104) (b := v26.toNatClampNeg) (c := 71) _ _ (Or.inl (by decide)))).trans (((pI_ne (a := 104) (b := v26.toNatClampNeg) (c := 71) _ _ (Or.inl (by decide)))).trans (((pI_ne (a := 104) (b := v26.toNatClampNeg) (c := 71) _ _ (Or.inl (by decide)))).trans (((pI_ne (a := 104) (b := v26.toNatClampNeg) (c := 105) _ _ (Or.inl (by decide)))).trans (((pI_ne (a := 104) (b := v26.toNatClampNeg) (c := 71) _ _ (Or.inl (by decide)))).trans ((fu7 104 v26.toNatClampNeg rfl).1))))))).symm.trans ev28)
      refine r_iald (n := 4) (lo := 0) (hi := 12) C v28 rfl (by decide) rfl rfl ⟨by omega, by omega⟩ (by decide) ev28 rfl rfl (oDec_at oX12_testTold 57 rfl) (fun b27 b27h => ?_)
      have lc29 : (((pI (pI (pI (pI (pI (pI u7 71 56 k0) 105 v6.toNatClampNeg v13) 71 47 k0) 71 48 k0) 71 55 k0) 106 v6.toNatClampNeg v13)).1 104 2).toInt = (s.1 104 2).toInt := congrArg Int32.toInt (((pI_ne (a := 104) (b := 2) (c := 106) _ _ (Or.inl (by decide)))).trans (((pI_ne (a := 104) (b := 2) (c := 71) _ _ (Or.inl (by decide)))).trans (((pI_ne (a := 104) (b := 2) (c := 71) _ _ (Or.inl (by decide)))).trans (((pI_ne (a := 104) (b := 2) (c := 71) _ _ (Or.inl (by decide)))).trans (((pI_ne (a := 104) (b := 2) (c := 105) _ _ (Or.inl (by decide)))).trans (((pI_ne (a := 104) (b := 2) (c := 71) _ _ (Or.inl (by decide)))).trans ((fu7 104 2 rfl).1)))))))
      have lc30 : (((pI (pI (pI (pI (pI (pI u7 71 56 k0) 105 v6.toNatClampNeg v13) 71 47 k0) 71 48 k0) 71 55 k0) 106 v6.toNatClampNeg v13)).1 104 3).toInt = (s.1 104 3).toInt := congrArg Int32.toInt (((pI_ne (a := 104) (b := 3) (c := 106) _ _ (Or.inl (by decide)))).trans (((pI_ne (a := 104) (b := 3) (c := 71) _ _ (Or.inl (by decide)))).trans (((pI_ne (a := 104) (b := 3) (c := 71) _ _ (Or.inl (by decide)))).trans (((pI_ne (a := 104) (b := 3) (c := 71) _ _ (Or.inl (by decide)))).trans (((pI_ne (a := 104) (b := 3) (c := 105) _ _ (Or.inl (by decide)))).trans (((pI_ne (a := 104) (b := 3) (c := 71) _ _ (Or.inl (by decide)))).trans ((fu7 104 3 rfl).1)))))))
      have hix2 := oIxM (i := v26) ev28
      refine r_iconst C (oDec_at oX12_testTold 58 rfl) (v := k1) (by rw [qk1]; rfl) ?_
      obtain ⟨v31, ev31⟩ : ∃ z : Int32, z = v28 + k1 := ⟨_, rfl⟩
      have hv31 : v31.toInt = v28.toInt + k1.toInt := n_add ev31 (by omega) (by omega)
      refine r_iadd C v31 (oDec_at oX12_testTold 59 rfl) ev31 ?_
      refine r_iast (n := 4) (lo := 0) (hi := 12) C rfl (by decide) rfl rfl ⟨by omega, by omega⟩ (by decide) rfl rfl rfl rfl ⟨by omega, by omega⟩ (oDec_at oX12_testTold 60 rfl) ?_
      have hmy := oMny3 (s := (pI (pI (pI (pI (pI (pI u7 71 56 k0) 105 v6.toNatClampNeg v13) 71 47 k0) 71 48 k0) 71 55 k0) 106 v6.toNatClampNeg v13)) (i := v26) (z := v31)
      have hq32 : oBB ((pI (pI (pI (pI (pI (pI (pI u7 71 56 k0) 105 v6.toNatClampNeg v13) 71 47 k0) 71 48 k0) 71 55 k0) 106 v6.toNatClampNeg v13) 104 v26.toNatClampNeg v31)) := by first | exact oBB_told (x := 1) (by assumption) hmB (by assumption) (by omega) | exact oBB_told0 (oBB_fr (oFr_oneI (q := 12) (m := 55) rfl (by rfl)) rfl (oBB_fr (oFr_oneI (q := 12) (m := 48) rfl (by rfl)) rfl (oBB_fr (oFr_oneI (q := 12) (m := 47) rfl (by rfl)) rfl hq18))) (by omega) hmB (by omega) (by omega)
      have lk33 : (((pI (pI (pI (pI (pI (pI (pI u7 71 56 k0) 105 v6.toNatClampNeg v13) 71 47 k0) 71 48 k0) 71 55 k0) 106 v6.toNatClampNeg v13) 104 v26.toNatClampNeg v31)).1 71 5).toInt = v19.toInt := congrArg Int32.toInt (((pI_ne (a := 71) (b := 5) (c := 104) _ _ (Or.inl (by decide)))).trans (((pI_ne (a := 71) (b := 5) (c := 106) _ _ (Or.inl (by decide)))).trans (ev19)))
      have lk34 : (((pI (pI (pI (pI (pI (pI (pI u7 71 56 k0) 105 v6.toNatClampNeg v13) 71 47 k0) 71 48 k0) 71 55 k0) 106 v6.toNatClampNeg v13) 104 v26.toNatClampNeg v31)).1 71 45).toInt = v13.toInt := congrArg Int32.toInt (((pI_ne (a := 71) (b := 45) (c := 104) _ _ (Or.inl (by decide)))).trans (((pI_ne (a := 71) (b := 45) (c := 106) _ _ (Or.inl (by decide)))).trans (((pI_ne (a := 71) (b := 45) (c := 71) (k := 55) _ _ (Or.inr (by decide)))).trans (((pI_ne (a := 71) (b := 45) (c := 71) (k := 48) _ _ (Or.inr (by decide)))).trans (((pI_ne (a := 71) (b := 45) (c := 71) (k := 47) _ _ (Or.inr (by decide)))).trans (((pI_ne (a := 71) (b := 45) (c := 105) _ _ (Or.inl (by decide)))).trans (ev13)))))))
      have lk35 : (((pI (pI (pI (pI (pI (pI (pI u7 71 56 k0) 105 v6.toNatClampNeg v13) 71 47 k0) 71 48 k0) 71 55 k0) 106 v6.toNatClampNeg v13) 104 v26.toNatClampNeg v31)).1 71 2).toInt = (u7.1 71 2).toInt := congrArg Int32.toInt (((pI_ne (a := 71) (b := 2) (c := 104) _ _ (Or.inl (by decide)))).trans (((pI_ne (a := 71) (b := 2) (c := 106) _ _ (Or.inl (by decide)))).trans (((pI_ne (a := 71) (b := 2) (c := 71) (k := 55) _ _ (Or.inr (by decide)))).trans (((pI_ne (a := 71) (b := 2) (c := 71) (k := 48) _ _ (Or.inr (by decide)))).trans (((pI_ne (a := 71) (b := 2) (c := 71) (k := 47) _ _ (Or.inr (by decide)))).trans (((pI_ne (a := 71) (b := 2) (c := 105) _ _ (Or.inl (by decide)))).trans ((pI_ne (a := 71) (b := 2) (c := 71) (k := 56) _ _ (Or.inr (by decide))))))))))
      have lk36 : (((pI (pI (pI (pI (pI (pI (pI u7 71 56 k0) 105 v6.toNatClampNeg v13) 71 47 k0) 71 48 k0) 71 55 k0) 106 v6.toNatClampNeg v13) 104 v26.toNatClampNeg v31)).1 71 2).toInt = (u7.1 71 2).toInt := congrArg Int32.toInt (((pI_ne (a := 71) (b := 2) (c := 104) _ _ (Or.inl (by decide)))).trans (((pI_ne (a := 71) (b := 2) (c := 106) _ _ (Or.inl (by decide)))).trans (((pI_ne (a := 71) (b := 2) (c := 71) (k := 55) _ _ (Or.inr (by decide)))).trans (((pI_ne (a := 71) (b := 2) (c := 71) (k := 48) _ _ (Or.inr (by decide)))).trans (((pI_ne (a := 71) (b := 2) (c := 71) (k := 47) _ _ (Or.inr (by decide)))).trans (((pI_ne (a := 71) (b := 2) (c := 105) _ _ (Or.inl (by decide)))).trans ((pI_ne (a := 71) (b := 2) (c := 71) (k := 56) _ _ (Or.inr (by decide))))))))))
      exact r_vret C (oDec_at oX12_testTold 61 rfl) ⟨rfl, ⟨hq32, by omega, by omega, by omega⟩⟩
    · skip
      refine r_aload_n C (j := 0) (oDec_at oX12_testTold 43 rfl) rfl rfl ?_
      have lc37 : (((pI (pI (pI (pI (pI u7 71 56 k0) 105 v6.toNatClampNeg v13) 71 47 k0) 71 48 k0) 71 55 k0)).1 104 2).toInt = (s.1 104 2).toInt := congrArg Int32.toInt (((pI_ne (a := 104) (b := 2) (c := 71) _ _ (Or.inl (by decide)))).trans (((pI_ne (a := 104) (b := 2) (c := 71) _ _ (Or.inl (by decide)))).trans (((pI_ne (a := 104) (b := 2) (c := 71) _ _ (Or.inl (by decide)))).trans (((pI_ne (a := 104) (b := 2) (c := 105) _ _ (Or.inl (by decide)))).trans (((pI_ne (a := 104) (b := 2) (c := 71) _ _ (Or.inl (by decide)))).trans ((fu7 104 2 rfl).1))))))
      have lc38 : (((pI (pI (pI (pI (pI u7 71 56 k0) 105 v6.toNatClampNeg v13) 71 47 k0) 71 48 k0) 71 55 k0)).1 104 3).toInt = (s.1 104 3).toInt := congrArg Int32.toInt (((pI_ne (a := 104) (b := 3) (c := 71) _ _ (Or.inl (by decide)))).trans (((pI_ne (a := 104) (b := 3) (c := 71) _ _ (Or.inl (by decide)))).trans (((pI_ne (a := 104) (b := 3) (c := 71) _ _ (Or.inl (by decide)))).trans (((pI_ne (a := 104) (b := 3) (c := 105) _ _ (Or.inl (by decide)))).trans (((pI_ne (a := 104) (b := 3) (c := 71) _ _ (Or.inl (by decide)))).trans ((fu7 104 3 rfl).1))))))
      have hq39 : oQ 9999 0 ((pI (pI (pI (pI (pI u7 71 56 k0) 105 v6.toNatClampNeg v13) 71 47 k0) 71 48 k0) 71 55 k0)) := oQ_init (oBB_fr (oFr_oneI (q := 12) (m := 55) rfl (by rfl)) rfl (oBB_fr (oFr_oneI (q := 12) (m := 48) rfl (by rfl)) rfl (oBB_fr (oFr_oneI (q := 12) (m := 47) rfl (by rfl)) rfl hq18))) (by omega) (by omega) (by assumption) (by omega)
      have lk40 : (((pI (pI (pI (pI (pI u7 71 56 k0) 105 v6.toNatClampNeg v13) 71 47 k0) 71 48 k0) 71 55 k0)).1 71 5).toInt = v19.toInt := congrArg Int32.toInt (ev19)
      have lk41 : (((pI (pI (pI (pI (pI u7 71 56 k0) 105 v6.toNatClampNeg v13) 71 47 k0) 71 48 k0) 71 55 k0)).1 71 48).toInt = k0.toInt := congrArg Int32.toInt (((pI_ne (a := 71) (b := 48) (c := 71) (k := 55) _ _ (Or.inr (by decide)))).trans ((pI_self _ _ _ _)))
      have lk42 : (((pI (pI (pI (pI (pI u7 71 56 k0) 105 v6.toNatClampNeg v13) 71 47 k0) 71 48 k0) 71 55 k0)).1 71 45).toInt = v13.toInt := congrArg Int32.toInt (((pI_ne (a := 71) (b := 45) (c := 71) (k := 55) _ _ (Or.inr (by decide)))).trans (((pI_ne (a := 71) (b := 45) (c := 71) (k := 48) _ _ (Or.inr (by decide)))).trans (((pI_ne (a := 71) (b := 45) (c := 71) (k := 47) _ _ (Or.inr (by decide)))).trans (((pI_ne (a := 71) (b := 45) (c := 105) _ _ (Or.inl (by decide)))).trans (ev13)))))
      have lk43 : (((pI (pI (pI (pI (pI u7 71 56 k0) 105 v6.toNatClampNeg v13) 71 47 k0) 71 48 k0) 71 55 k0)).1 71 47).toInt = k0.toInt := congrArg Int32.toInt (((pI_ne (a := 71) (b := 47) (c := 71) (k := 55) _ _ (Or.inr (by decide)))).trans (((pI_ne (a := 71) (b := 47) (c := 71) (k := 48) _ _ (Or.inr (by decide)))).trans ((pI_self _ _ _ _))))
      have lk44 : (((pI (pI (pI (pI (pI u7 71 56 k0) 105 v6.toNatClampNeg v13) 71 47 k0) 71 48 k0) 71 55 k0)).1 71 2).toInt = (u7.1 71 2).toInt := congrArg Int32.toInt (((pI_ne (a := 71) (b := 2) (c := 71) (k := 55) _ _ (Or.inr (by decide)))).trans (((pI_ne (a := 71) (b := 2) (c := 71) (k := 48) _ _ (Or.inr (by decide)))).trans (((pI_ne (a := 71) (b := 2) (c := 71) (k := 47) _ _ (Or.inr (by decide)))).trans (((pI_ne (a := 71) (b := 2) (c := 105) _ _ (Or.inl (by decide)))).trans ((pI_ne (a := 71) (b := 2) (c := 71) (k := 56) _ _ (Or.inr (by decide))))))))
      have lk45 : (((pI (pI (pI (pI (pI u7 71 56 k0) 105 v6.toNatClampNeg v13) 71 47 k0) 71 48 k0) 71 55 k0)).1 71 2).toInt = (u7.1 71 2).toInt := congrArg Int32.toInt (((pI_ne (a := 71) (b := 2) (c := 71) (k := 55) _ _ (Or.inr (by decide)))).trans (((pI_ne (a := 71) (b := 2) (c := 71) (k := 48) _ _ (Or.inr (by decide)))).trans (((pI_ne (a := 71) (b := 2) (c := 71) (k := 47) _ _ (Or.inr (by decide)))).trans (((pI_ne (a := 71) (b := 2) (c := 105) _ _ (Or.inl (by decide)))).trans ((pI_ne (a := 71) (b := 2) (c := 71) (k := 56) _ _ (Or.inr (by decide))))))))
      have lk46 : (((pI (pI (pI (pI (pI u7 71 56 k0) 105 v6.toNatClampNeg v13) 71 47 k0) 71 48 k0) 71 55 k0)).1 71 45).toInt = v13.toInt := congrArg Int32.toInt (((pI_ne (a := 71) (b := 45) (c := 71) (k := 55) _ _ (Or.inr (by decide)))).trans (((pI_ne (a := 71) (b := 45) (c := 71) (k := 48) _ _ (Or.inr (by decide)))).trans (((pI_ne (a := 71) (b := 45) (c := 71) (k := 47) _ _ (Or.inr (by decide)))).trans (((pI_ne (a := 71) (b := 45) (c := 105) _ _ (Or.inl (by decide)))).trans (ev13)))))
      have lk47 : (((pI (pI (pI (pI (pI u7 71 56 k0) 105 v6.toNatClampNeg v13) 71 47 k0) 71 48 k0) 71 55 k0)).1 71 47).toInt = k0.toInt := congrArg Int32.toInt (((pI_ne (a := 71) (b := 47) (c := 71) (k := 55) _ _ (Or.inr (by decide)))).trans (((pI_ne (a := 71) (b := 47) (c := 71) (k := 48) _ _ (Or.inr (by decide)))).trans ((pI_self _ _ _ _))))
      have lk48 : (((pI (pI (pI (pI (pI u7 71 56 k0) 105 v6.toNatClampNeg v13) 71 47 k0) 71 48 k0) 71 55 k0)).1 71 2).toInt = (u7.1 71 2).toInt := congrArg Int32.toInt (((pI_ne (a := 71) (b := 2) (c := 71) (k := 55) _ _ (Or.inr (by decide)))).trans (((pI_ne (a := 71) (b := 2) (c := 71) (k := 48) _ _ (Or.inr (by decide)))).trans (((pI_ne (a := 71) (b := 2) (c := 71) (k := 47) _ _ (Or.inr (by decide)))).trans (((pI_ne (a := 71) (b := 2) (c := 105) _ _ (Or.inl (by decide)))).trans ((pI_ne (a := 71) (b := 2) (c := 71) (k := 56) _ _ (Or.inr (by decide))))))))
      have lk49 : (((pI (pI (pI (pI (pI u7 71 56 k0) 105 v6.toNatClampNeg v13) 71 47 k0) 71 48 k0) 71 55 k0)).1 71 45).toInt = v13.toInt := congrArg Int32.toInt (((pI_ne (a := 71) (b := 45) (c := 71) (k := 55) _ _ (Or.inr (by decide)))).trans (((pI_ne (a := 71) (b := 45) (c := 71) (k := 48) _ _ (Or.inr (by decide)))).trans (((pI_ne (a := 71) (b := 45) (c := 71) (k := 47) _ _ (Or.inr (by decide)))).trans (((pI_ne (a := 71) (b := 45) (c := 105) _ _ (Or.inl (by decide)))).trans (ev13)))))
      have lk50 : (((pI (pI (pI (pI (pI u7 71 56 k0) 105 v6.toNatClampNeg v13) 71 47 k0) 71 48 k0) 71 55 k0)).1 71 47).toInt = k0.toInt := congrArg Int32.toInt (((pI_ne (a := 71) (b := 47) (c := 71) (k := 55) _ _ (Or.inr (by decide)))).trans (((pI_ne (a := 71) (b := 47) (c := 71) (k := 48) _ _ (Or.inr (by decide)))).trans ((pI_self _ _ _ _))))
      have lk51 : (((pI (pI (pI (pI (pI u7 71 56 k0) 105 v6.toNatClampNeg v13) 71 47 k0) 71 48 k0) 71 55 k0)).1 71 2).toInt = (u7.1 71 2).toInt := congrArg Int32.toInt (((pI_ne (a := 71) (b := 2) (c := 71) (k := 55) _ _ (Or.inr (by decide)))).trans (((pI_ne (a := 71) (b := 2) (c := 71) (k := 48) _ _ (Or.inr (by decide)))).trans (((pI_ne (a := 71) (b := 2) (c := 71) (k := 47) _ _ (Or.inr (by decide)))).trans (((pI_ne (a := 71) (b := 2) (c := 105) _ _ (Or.inl (by decide)))).trans ((pI_ne (a := 71) (b := 2) (c := 71) (k := 56) _ _ (Or.inr (by decide))))))))
      refine r_callVv C oCl12 rfl miX12_test mlX12_334 (ct_X12_test l E ((pI (pI (pI (pI (pI u7 71 56 k0) 105 v6.toNatClampNeg v13) 71 47 k0) 71 48 k0) 71 55 k0))  hq39 (by omega) (by omega) (by omega)) (by decide) rfl rfl rfl (Nat.le_of_ble_eq_true rfl) (oDec_at oX12_testTold 44 rfl) (fun u52 pu52 fu52 => ?_)
      try dsimp only at pu52
      try simp only [lk40, lk41, lk42, lk43, lk44, lk45, lk46, lk47, lk48, lk49, lk50, lk51] at pu52
      obtain ⟨pu52_0, pu52_1, pu52_2, pu52_3⟩ := pu52
      refine r_aload_n C (j := 0) (oDec_at oX12_testTold 45 rfl) rfl rfl ?_
      refine r_getF (k := 51) (b := 106) C oCl12 rfl (by decide) flX12_120 rfl rfl rfl (oDec_at oX12_testTold 46 rfl) ?_
      refine r_iload_n C (j := 2) (oDec_at oX12_testTold 47 rfl) rfl rfl ?_
      refine r_aload_n C (j := 0) (oDec_at oX12_testTold 48 rfl) rfl rfl ?_
      refine r_pc C 81 rfl ?_
      obtain ⟨v54, ev54⟩ : ∃ z : Int32, (u52).1 71 45 = z := ⟨_, rfl⟩
      have gv54 : (u52.1 71 45).toInt = v54.toInt := congrArg Int32.toInt (ev54)
      refine r_geti (k := 45) (lo := 0) (hi := 1600) C v54 oCl12 rfl (by decide) flX12_234 rfl rfl (ev54) rfl rfl (oDec_at oX12_testTold 49 rfl) (fun b55 b55h => ?_)
      have lc56 : ((u52).1 104 2).toInt = (s.1 104 2).toInt := congrArg Int32.toInt (((fu52 104 2 rfl).1).trans (((pI_ne (a := 104) (b := 2) (c := 71) _ _ (Or.inl (by decide)))).trans (((pI_ne (a := 104) (b := 2) (c := 71) _ _ (Or.inl (by decide)))).trans (((pI_ne (a := 104) (b := 2) (c := 71) _ _ (Or.inl (by decide)))).trans (((pI_ne (a := 104) (b := 2) (c := 105) _ _ (Or.inl (by decide)))).trans (((pI_ne (a := 104) (b := 2) (c := 71) _ _ (Or.inl (by decide)))).trans ((fu7 104 2 rfl).1)))))))
      have lc57 : ((u52).1 104 3).toInt = (s.1 104 3).toInt := congrArg Int32.toInt (((fu52 104 3 rfl).1).trans (((pI_ne (a := 104) (b := 3) (c := 71) _ _ (Or.inl (by decide)))).trans (((pI_ne (a := 104) (b := 3) (c := 71) _ _ (Or.inl (by decide)))).trans (((pI_ne (a := 104) (b := 3) (c := 71) _ _ (Or.inl (by decide)))).trans (((pI_ne (a := 104) (b := 3) (c := 105) _ _ (Or.inl (by decide)))).trans (((pI_ne (a := 104) (b := 3) (c := 71) _ _ (Or.inl (by decide)))).trans ((fu7 104 3 rfl).1)))))))
      have lk58 : ((u52).1 71 45).toInt = v54.toInt := congrArg Int32.toInt (ev54)
      have lk59 : ((u52).1 71 56).toInt = k0.toInt := congrArg Int32.toInt (((fu52 71 56 rfl).1).trans (((pI_ne (a := 71) (b := 56) (c := 71) (k := 55) _ _ (Or.inr (by decide)))).trans (((pI_ne (a := 71) (b := 56) (c := 71) (k := 48) _ _ (Or.inr (by decide)))).trans (((pI_ne (a := 71) (b := 56) (c := 71) (k := 47) _ _ (Or.inr (by decide)))).trans (((pI_ne (a := 71) (b := 56) (c := 105) _ _ (Or.inl (by decide)))).trans ((pI_self _ _ _ _)))))))
      refine r_ty C (fun hty => ?_)
      have hmB : ∀ i : Nat, (0 : Int) ≤ ((u52).1 104 i).toInt ∧ ((u52).1 104 i).toInt ≤ 12 := fun i => hty.1 104 i
      have hmB2 := hmB 2
      have hmB3 := hmB 3
      clear hty
      refine r_ty C (fun hty => ?_)
      have hty_coded : (0 : Int) ≤ ((u52).1 71 45).toInt ∧ ((u52).1 71 45).toInt ≤ 1600 := hty.1 71 45
      have hty_waits : (0 : Int) ≤ ((u52).1 71 47).toInt ∧ ((u52).1 71 47).toInt ≤ 1700 := hty.1 71 47
      have hty_at : (0 : Int) ≤ ((u52).1 71 2).toInt ∧ ((u52).1 71 2).toInt ≤ 1600 := hty.1 71 2
      clear hty
      refine r_iast (n := 48) (lo := 0) (hi := 1600) C rfl (by decide) rfl rfl ⟨by omega, by omega⟩ (by decide) rfl rfl rfl rfl ⟨by omega, by omega⟩ (oDec_at oX12_testTold 50 rfl) ?_
      refine r_aload_n C (j := 0) (oDec_at oX12_testTold 51 rfl) rfl rfl ?_
      refine r_getF (k := 49) (b := 104) C oCl12 rfl (by decide) flX12_114 rfl rfl rfl (oDec_at oX12_testTold 52 rfl) ?_
      refine r_iconst C (oDec_at oX12_testTold 53 rfl) (v := k2) (by rw [qk2]; rfl) ?_
      refine r_iload_n C (j := 1) (oDec_at oX12_testTold 54 rfl) rfl rfl ?_
      refine r_pc C 91 rfl ?_
      obtain ⟨v60, ev60⟩ : ∃ z : Int32, z = k2 + a1 := ⟨_, rfl⟩
      have hv60 : v60.toInt = k2.toInt + a1.toInt := n_add ev60 (by omega) (by omega)
      refine r_iadd C v60 (oDec_at oX12_testTold 55 rfl) ev60 ?_
      refine r_dup2 C (oDec_at oX12_testTold 56 rfl) rfl rfl ?_
      obtain ⟨v62, ev62⟩ : ∃ z : Int32, ((pI u52 106 v6.toNatClampNeg v54)).1 104 v60.toNatClampNeg = z := ⟨_, rfl⟩
      have av62 : s.1 104 v60.toNatClampNeg = v62 := (((pI_ne (a := 104) (b := v60.toNatClampNeg) (c := 106) _ _ (Or.inl (by decide)))).trans (((fu52 104 v60.toNatClampNeg rfl).1).trans (((pI_ne (a := 104) (b := v60.toNatClampNeg) (c := 71) _ _ (Or.inl (by decide)))).trans (((pI_ne (a := 104) (b := v60.toNatClampNeg) (c := 71) _ _ (Or.inl (by decide)))).trans (((pI_ne (a := 104) (b := v60.toNatClampNeg) (c := 71) _ _ (Or.inl (by decide)))).trans (((pI_ne (a := 104) (b := v60.toNatClampNeg) (c := 105) _ _ (Or.inl (by decide)))).trans (((pI_ne (a := 104) (b := v60.toNatClampNeg) (c := 71) _ _ (Or.inl (by decide)))).trans ((fu7 104 v60.toNatClampNeg rfl).1)))))))).symm.trans ev62
      have gv62 : (s.1 104 v60.toNatClampNeg).toInt = v62.toInt := congrArg Int32.toInt ((((pI_ne (a := 104) (b := v60.toNatClampNeg) (c := 106) _ _ (Or.inl (by decide)))).trans (((fu52 104 v60.toNatClampNeg rfl).1).trans (((pI_ne (a := 104) (b := v60.toNatClampNeg) (c := 71) _ _ (Or.inl (by decide)))).trans (((pI_ne (a := 104) (b := v60.toNatClampNeg) (c := 71) _ _ (Or.inl (by decide)))).trans (((pI_ne (a := 104) (b := v60.toNatClampNeg) (c := 71) _ _ (Or.inl (by decide)))).trans (((pI_ne (a := 104) (b := v60.toNatClampNeg) (c := 105) _ _ (Or.inl (by decide)))).trans (((pI_ne (a := 104) (b := v60.toNatClampNeg) (c := 71) _ _ (Or.inl (by decide)))).trans ((fu7 104 v60.toNatClampNeg rfl).1)))))))).symm.trans ev62)
      refine r_iald (n := 4) (lo := 0) (hi := 12) C v62 rfl (by decide) rfl rfl ⟨by omega, by omega⟩ (by decide) ev62 rfl rfl (oDec_at oX12_testTold 57 rfl) (fun b61 b61h => ?_)
      have lc63 : (((pI u52 106 v6.toNatClampNeg v54)).1 104 2).toInt = (s.1 104 2).toInt := congrArg Int32.toInt (((pI_ne (a := 104) (b := 2) (c := 106) _ _ (Or.inl (by decide)))).trans (((fu52 104 2 rfl).1).trans (((pI_ne (a := 104) (b := 2) (c := 71) _ _ (Or.inl (by decide)))).trans (((pI_ne (a := 104) (b := 2) (c := 71) _ _ (Or.inl (by decide)))).trans (((pI_ne (a := 104) (b := 2) (c := 71) _ _ (Or.inl (by decide)))).trans (((pI_ne (a := 104) (b := 2) (c := 105) _ _ (Or.inl (by decide)))).trans (((pI_ne (a := 104) (b := 2) (c := 71) _ _ (Or.inl (by decide)))).trans ((fu7 104 2 rfl).1))))))))
      have lc64 : (((pI u52 106 v6.toNatClampNeg v54)).1 104 3).toInt = (s.1 104 3).toInt := congrArg Int32.toInt (((pI_ne (a := 104) (b := 3) (c := 106) _ _ (Or.inl (by decide)))).trans (((fu52 104 3 rfl).1).trans (((pI_ne (a := 104) (b := 3) (c := 71) _ _ (Or.inl (by decide)))).trans (((pI_ne (a := 104) (b := 3) (c := 71) _ _ (Or.inl (by decide)))).trans (((pI_ne (a := 104) (b := 3) (c := 71) _ _ (Or.inl (by decide)))).trans (((pI_ne (a := 104) (b := 3) (c := 105) _ _ (Or.inl (by decide)))).trans (((pI_ne (a := 104) (b := 3) (c := 71) _ _ (Or.inl (by decide)))).trans ((fu7 104 3 rfl).1))))))))
      have hix2 := oIxM (i := v60) ev62
      refine r_iconst C (oDec_at oX12_testTold 58 rfl) (v := k1) (by rw [qk1]; rfl) ?_
      obtain ⟨v65, ev65⟩ : ∃ z : Int32, z = v62 + k1 := ⟨_, rfl⟩
      have hv65 : v65.toInt = v62.toInt + k1.toInt := n_add ev65 (by omega) (by omega)
      refine r_iadd C v65 (oDec_at oX12_testTold 59 rfl) ev65 ?_
      refine r_iast (n := 4) (lo := 0) (hi := 12) C rfl (by decide) rfl rfl ⟨by omega, by omega⟩ (by decide) rfl rfl rfl rfl ⟨by omega, by omega⟩ (oDec_at oX12_testTold 60 rfl) ?_
      refine r_pc C 97 rfl ?_
      have hmy := oMny3 (s := (pI u52 106 v6.toNatClampNeg v54)) (i := v60) (z := v65)
      have hq66 : oBB ((pI (pI u52 106 v6.toNatClampNeg v54) 104 v60.toNatClampNeg v65)) := by first | exact oBB_told (x := 1) pu52_0 hmB (by assumption) (by omega) | exact oBB_told0 (by assumption) (by omega) hmB (by omega) (by omega)
      have lk67 : (((pI (pI u52 106 v6.toNatClampNeg v54) 104 v60.toNatClampNeg v65)).1 71 5).toInt = (u52.1 71 5).toInt := congrArg Int32.toInt (((pI_ne (a := 71) (b := 5) (c := 104) _ _ (Or.inl (by decide)))).trans ((pI_ne (a := 71) (b := 5) (c := 106) _ _ (Or.inl (by decide)))))
      have lk68 : (((pI (pI u52 106 v6.toNatClampNeg v54) 104 v60.toNatClampNeg v65)).1 71 45).toInt = v54.toInt := congrArg Int32.toInt (((pI_ne (a := 71) (b := 45) (c := 104) _ _ (Or.inl (by decide)))).trans (((pI_ne (a := 71) (b := 45) (c := 106) _ _ (Or.inl (by decide)))).trans (ev54)))
      have lk69 : (((pI (pI u52 106 v6.toNatClampNeg v54) 104 v60.toNatClampNeg v65)).1 71 2).toInt = (u52.1 71 2).toInt := congrArg Int32.toInt (((pI_ne (a := 71) (b := 2) (c := 104) _ _ (Or.inl (by decide)))).trans ((pI_ne (a := 71) (b := 2) (c := 106) _ _ (Or.inl (by decide)))))
      have lk70 : (((pI (pI u52 106 v6.toNatClampNeg v54) 104 v60.toNatClampNeg v65)).1 71 2).toInt = (u52.1 71 2).toInt := congrArg Int32.toInt (((pI_ne (a := 71) (b := 2) (c := 104) _ _ (Or.inl (by decide)))).trans ((pI_ne (a := 71) (b := 2) (c := 106) _ _ (Or.inl (by decide)))))
      exact r_vret C (oDec_at oX12_testTold 61 rfl) ⟨rfl, ⟨hq66, by omega, by omega, by omega⟩⟩
  · skip
    refine r_iconst C (oDec_at oX12_testTold 21 rfl) (v := k1) (by rw [qk1]; rfl) ?_
    refine r_goto C (tgt := 36) (oDec_at oX12_testTold 22 rfl) (by decide) ?_
    refine r_puti (k := 56) (lo := 0) (hi := 1) C oCl12 rfl (by decide) flX12_295 rfl rfl rfl rfl rfl (n_bool (by omega)) (n_fitz (by omega)) rfl ⟨by omega, by omega⟩ (oDec_at oX12_testTold 24 rfl) ?_
    refine r_aload_n C (j := 0) (oDec_at oX12_testTold 25 rfl) rfl rfl ?_
    refine r_getF (k := 50) (b := 105) C oCl12 rfl (by decide) flX12_117 rfl rfl rfl (oDec_at oX12_testTold 26 rfl) ?_
    refine r_iload_n C (j := 2) (oDec_at oX12_testTold 27 rfl) rfl rfl ?_
    refine r_aload_n C (j := 0) (oDec_at oX12_testTold 28 rfl) rfl rfl ?_
    refine r_pc C 45 rfl ?_
    obtain ⟨v71, ev71⟩ : ∃ z : Int32, ((pI u7 71 56 k1)).1 71 45 = z := ⟨_, rfl⟩
    have gv71 : (s.1 71 45).toInt = v71.toInt := congrArg Int32.toInt ((((pI_ne (a := 71) (b := 45) (c := 71) (k := 56) _ _ (Or.inr (by decide)))).trans ((fu7 71 45 rfl).1)).symm.trans ev71)
    have ggv71 : (((pI u7 71 56 k1)).1 71 45).toInt = v71.toInt := congrArg Int32.toInt ev71
    refine r_geti (k := 45) (lo := 0) (hi := 1600) C v71 oCl12 rfl (by decide) flX12_234 rfl rfl (ev71) rfl rfl (oDec_at oX12_testTold 29 rfl) (fun b72 b72h => ?_)
    have lc73 : (((pI u7 71 56 k1)).1 104 2).toInt = (s.1 104 2).toInt := congrArg Int32.toInt (((pI_ne (a := 104) (b := 2) (c := 71) _ _ (Or.inl (by decide)))).trans ((fu7 104 2 rfl).1))
    have lc74 : (((pI u7 71 56 k1)).1 104 3).toInt = (s.1 104 3).toInt := congrArg Int32.toInt (((pI_ne (a := 104) (b := 3) (c := 71) _ _ (Or.inl (by decide)))).trans ((fu7 104 3 rfl).1))
    have lk75 : (((pI u7 71 56 k1)).1 71 45).toInt = v71.toInt := congrArg Int32.toInt (ev71)
    refine r_ty C (fun hty => ?_)
    have hmA : ∀ i : Nat, (0 : Int) ≤ (((pI u7 71 56 k1)).1 104 i).toInt ∧ (((pI u7 71 56 k1)).1 104 i).toInt ≤ 12 := fun i => hty.1 104 i
    have hmA2 := hmA 2
    have hmA3 := hmA 3
    clear hty
    refine r_iast (n := 48) (lo := 0) (hi := 1600) C rfl (by decide) rfl rfl ⟨by omega, by omega⟩ (by decide) rfl rfl rfl rfl ⟨by omega, by omega⟩ (oDec_at oX12_testTold 30 rfl) ?_
    have hq76 : oBB ((pI (pI u7 71 56 k1) 105 v6.toNatClampNeg v71)) := oBB_from (oBB_fr (oFr_oneI (q := 12) (m := 56) rfl (by rfl)) rfl (oBB_frb fu7 rfl (by omega) hp0)) hmA (by omega)
    refine r_aload_n C (j := 0) (oDec_at oX12_testTold 31 rfl) rfl rfl ?_
    refine r_iconst C (oDec_at oX12_testTold 32 rfl) (v := k0) (by rw [qk0]; rfl) ?_
    refine r_puti (k := 47) (lo := 0) (hi := 1700) C oCl12 rfl (by decide) flX12_277 rfl rfl rfl rfl rfl rfl rfl rfl ⟨by omega, by omega⟩ (oDec_at oX12_testTold 33 rfl) ?_
    refine r_aload_n C (j := 0) (oDec_at oX12_testTold 34 rfl) rfl rfl ?_
    refine r_pc C 55 rfl ?_
    refine r_iconst C (oDec_at oX12_testTold 35 rfl) (v := k0) (by rw [qk0]; rfl) ?_
    refine r_puti (k := 48) (lo := (-1)) (hi := 7) C oCl12 rfl (by decide) flX12_274 rfl rfl rfl rfl rfl rfl rfl rfl ⟨by omega, by omega⟩ (oDec_at oX12_testTold 36 rfl) ?_
    refine r_aload_n C (j := 0) (oDec_at oX12_testTold 37 rfl) rfl rfl ?_
    refine r_iconst C (oDec_at oX12_testTold 38 rfl) (v := k0) (by rw [qk0]; rfl) ?_
    refine r_puti (k := 55) (lo := 0) (hi := 1700) C oCl12 rfl (by decide) flX12_283 rfl rfl rfl rfl rfl rfl rfl rfl ⟨by omega, by omega⟩ (oDec_at oX12_testTold 39 rfl) ?_
    refine r_aload_n C (j := 0) (oDec_at oX12_testTold 40 rfl) rfl rfl ?_
    refine r_pc C 65 rfl ?_
    obtain ⟨v77, ev77⟩ : ∃ z : Int32, ((pI (pI (pI (pI (pI u7 71 56 k1) 105 v6.toNatClampNeg v71) 71 47 k0) 71 48 k0) 71 55 k0)).1 71 5 = z := ⟨_, rfl⟩
    have gv77 : (u7.1 71 5).toInt = v77.toInt := congrArg Int32.toInt ((((pI_ne (a := 71) (b := 5) (c := 71) (k := 55) _ _ (Or.inr (by decide)))).trans (((pI_ne (a := 71) (b := 5) (c := 71) (k := 48) _ _ (Or.inr (by decide)))).trans (((pI_ne (a := 71) (b := 5) (c := 71) (k := 47) _ _ (Or.inr (by decide)))).trans (((pI_ne (a := 71) (b := 5) (c := 105) _ _ (Or.inl (by decide)))).trans ((pI_ne (a := 71) (b := 5) (c := 71) (k := 56) _ _ (Or.inr (by decide)))))))).symm.trans ev77)
    have ggv77 : (((pI (pI (pI (pI (pI u7 71 56 k1) 105 v6.toNatClampNeg v71) 71 47 k0) 71 48 k0) 71 55 k0)).1 71 5).toInt = v77.toInt := congrArg Int32.toInt ev77
    have rv77 := n_rng v77
    refine r_geti (k := 5) (lo := (-2147483648)) (hi := 2147483647) C v77 oCl12 rfl (by decide) flX12_173 rfl rfl (ev77) rfl rfl (oDec_at oX12_testTold 41 rfl) (fun _ _ => ?_)
    refine r_if_ne C 75 (oDec_at oX12_testTold 42 rfl) (by decide) (fun cd78 => ?_) (fun cd78 => ?_)
    · skip
      refine r_aload_n C (j := 0) (oDec_at oX12_testTold 45 rfl) rfl rfl ?_
      refine r_getF (k := 51) (b := 106) C oCl12 rfl (by decide) flX12_120 rfl rfl rfl (oDec_at oX12_testTold 46 rfl) ?_
      refine r_iload_n C (j := 2) (oDec_at oX12_testTold 47 rfl) rfl rfl ?_
      refine r_aload_n C (j := 0) (oDec_at oX12_testTold 48 rfl) rfl rfl ?_
      refine r_geti (k := 45) (lo := 0) (hi := 1600) C v71 oCl12 rfl (by decide) flX12_234 rfl rfl (((pI_ne (a := 71) (b := 45) (c := 71) (k := 55) _ _ (Or.inr (by decide)))).trans (((pI_ne (a := 71) (b := 45) (c := 71) (k := 48) _ _ (Or.inr (by decide)))).trans (((pI_ne (a := 71) (b := 45) (c := 71) (k := 47) _ _ (Or.inr (by decide)))).trans (((pI_ne (a := 71) (b := 45) (c := 105) _ _ (Or.inl (by decide)))).trans (ev71))))) rfl rfl (oDec_at oX12_testTold 49 rfl) (fun _ _ => ?_)
      have lc79 : (((pI (pI (pI (pI (pI u7 71 56 k1) 105 v6.toNatClampNeg v71) 71 47 k0) 71 48 k0) 71 55 k0)).1 104 2).toInt = (s.1 104 2).toInt := congrArg Int32.toInt (((pI_ne (a := 104) (b := 2) (c := 71) _ _ (Or.inl (by decide)))).trans (((pI_ne (a := 104) (b := 2) (c := 71) _ _ (Or.inl (by decide)))).trans (((pI_ne (a := 104) (b := 2) (c := 71) _ _ (Or.inl (by decide)))).trans (((pI_ne (a := 104) (b := 2) (c := 105) _ _ (Or.inl (by decide)))).trans (((pI_ne (a := 104) (b := 2) (c := 71) _ _ (Or.inl (by decide)))).trans ((fu7 104 2 rfl).1))))))
      have lc80 : (((pI (pI (pI (pI (pI u7 71 56 k1) 105 v6.toNatClampNeg v71) 71 47 k0) 71 48 k0) 71 55 k0)).1 104 3).toInt = (s.1 104 3).toInt := congrArg Int32.toInt (((pI_ne (a := 104) (b := 3) (c := 71) _ _ (Or.inl (by decide)))).trans (((pI_ne (a := 104) (b := 3) (c := 71) _ _ (Or.inl (by decide)))).trans (((pI_ne (a := 104) (b := 3) (c := 71) _ _ (Or.inl (by decide)))).trans (((pI_ne (a := 104) (b := 3) (c := 105) _ _ (Or.inl (by decide)))).trans (((pI_ne (a := 104) (b := 3) (c := 71) _ _ (Or.inl (by decide)))).trans ((fu7 104 3 rfl).1))))))
      have lk81 : (((pI (pI (pI (pI (pI u7 71 56 k1) 105 v6.toNatClampNeg v71) 71 47 k0) 71 48 k0) 71 55 k0)).1 71 45).toInt = v71.toInt := congrArg Int32.toInt (((pI_ne (a := 71) (b := 45) (c := 71) (k := 55) _ _ (Or.inr (by decide)))).trans (((pI_ne (a := 71) (b := 45) (c := 71) (k := 48) _ _ (Or.inr (by decide)))).trans (((pI_ne (a := 71) (b := 45) (c := 71) (k := 47) _ _ (Or.inr (by decide)))).trans (((pI_ne (a := 71) (b := 45) (c := 105) _ _ (Or.inl (by decide)))).trans (ev71)))))
      have lk82 : (((pI (pI (pI (pI (pI u7 71 56 k1) 105 v6.toNatClampNeg v71) 71 47 k0) 71 48 k0) 71 55 k0)).1 71 56).toInt = k1.toInt := congrArg Int32.toInt (((pI_ne (a := 71) (b := 56) (c := 71) (k := 55) _ _ (Or.inr (by decide)))).trans (((pI_ne (a := 71) (b := 56) (c := 71) (k := 48) _ _ (Or.inr (by decide)))).trans (((pI_ne (a := 71) (b := 56) (c := 71) (k := 47) _ _ (Or.inr (by decide)))).trans (((pI_ne (a := 71) (b := 56) (c := 105) _ _ (Or.inl (by decide)))).trans ((pI_self _ _ _ _))))))
      have lk83 : (((pI (pI (pI (pI (pI u7 71 56 k1) 105 v6.toNatClampNeg v71) 71 47 k0) 71 48 k0) 71 55 k0)).1 71 5).toInt = v77.toInt := congrArg Int32.toInt (ev77)
      refine r_ty C (fun hty => ?_)
      have hmB : ∀ i : Nat, (0 : Int) ≤ (((pI (pI (pI (pI (pI u7 71 56 k1) 105 v6.toNatClampNeg v71) 71 47 k0) 71 48 k0) 71 55 k0)).1 104 i).toInt ∧ (((pI (pI (pI (pI (pI u7 71 56 k1) 105 v6.toNatClampNeg v71) 71 47 k0) 71 48 k0) 71 55 k0)).1 104 i).toInt ≤ 12 := fun i => hty.1 104 i
      have hmB2 := hmB 2
      have hmB3 := hmB 3
      clear hty
      refine r_ty C (fun hty => ?_)
      have hty_coded : (0 : Int) ≤ (((pI (pI (pI (pI (pI u7 71 56 k1) 105 v6.toNatClampNeg v71) 71 47 k0) 71 48 k0) 71 55 k0)).1 71 45).toInt ∧ (((pI (pI (pI (pI (pI u7 71 56 k1) 105 v6.toNatClampNeg v71) 71 47 k0) 71 48 k0) 71 55 k0)).1 71 45).toInt ≤ 1600 := hty.1 71 45
      have hty_waits : (0 : Int) ≤ (((pI (pI (pI (pI (pI u7 71 56 k1) 105 v6.toNatClampNeg v71) 71 47 k0) 71 48 k0) 71 55 k0)).1 71 47).toInt ∧ (((pI (pI (pI (pI (pI u7 71 56 k1) 105 v6.toNatClampNeg v71) 71 47 k0) 71 48 k0) 71 55 k0)).1 71 47).toInt ≤ 1700 := hty.1 71 47
      have hty_at : (0 : Int) ≤ (((pI (pI (pI (pI (pI u7 71 56 k1) 105 v6.toNatClampNeg v71) 71 47 k0) 71 48 k0) 71 55 k0)).1 71 2).toInt ∧ (((pI (pI (pI (pI (pI u7 71 56 k1) 105 v6.toNatClampNeg v71) 71 47 k0) 71 48 k0) 71 55 k0)).1 71 2).toInt ≤ 1600 := hty.1 71 2
      clear hty
      refine r_iast (n := 48) (lo := 0) (hi := 1600) C rfl (by decide) rfl rfl ⟨by omega, by omega⟩ (by decide) rfl rfl rfl rfl ⟨by omega, by omega⟩ (oDec_at oX12_testTold 50 rfl) ?_
      refine r_pc C 85 rfl ?_
      refine r_aload_n C (j := 0) (oDec_at oX12_testTold 51 rfl) rfl rfl ?_
      refine r_getF (k := 49) (b := 104) C oCl12 rfl (by decide) flX12_114 rfl rfl rfl (oDec_at oX12_testTold 52 rfl) ?_
      refine r_iconst C (oDec_at oX12_testTold 53 rfl) (v := k2) (by rw [qk2]; rfl) ?_
      refine r_iload_n C (j := 1) (oDec_at oX12_testTold 54 rfl) rfl rfl ?_
      obtain ⟨v84, ev84⟩ : ∃ z : Int32, z = k2 + a1 := ⟨_, rfl⟩
      have hv84 : v84.toInt = k2.toInt + a1.toInt := n_add ev84 (by omega) (by omega)
      refine r_iadd C v84 (oDec_at oX12_testTold 55 rfl) ev84 ?_
      refine r_dup2 C (oDec_at oX12_testTold 56 rfl) rfl rfl ?_
      refine r_pc C 93 rfl ?_
      obtain ⟨v86, ev86⟩ : ∃ z : Int32, ((pI (pI (pI (pI (pI (pI u7 71 56 k1) 105 v6.toNatClampNeg v71) 71 47 k0) 71 48 k0) 71 55 k0) 106 v6.toNatClampNeg v71)).1 104 v84.toNatClampNeg = z := ⟨_, rfl⟩
      have av86 : s.1 104 v84.toNatClampNeg = v86 := (((pI_ne (a := 104) (b := v84.toNatClampNeg) (c := 106) _ _ (Or.inl (by decide)))).trans (((pI_ne (a := 104) (b := v84.toNatClampNeg) (c := 71) _ _ (Or.inl (by decide)))).trans (((pI_ne (a := 104) (b := v84.toNatClampNeg) (c := 71) _ _ (Or.inl (by decide)))).trans (((pI_ne (a := 104) (b := v84.toNatClampNeg) (c := 71) _ _ (Or.inl (by decide)))).trans (((pI_ne (a := 104) (b := v84.toNatClampNeg) (c := 105) _ _ (Or.inl (by decide)))).trans (((pI_ne (a := 104) (b := v84.toNatClampNeg) (c := 71) _ _ (Or.inl (by decide)))).trans ((fu7 104 v84.toNatClampNeg rfl).1))))))).symm.trans ev86
      have gv86 : (s.1 104 v84.toNatClampNeg).toInt = v86.toInt := congrArg Int32.toInt ((((pI_ne (a := 104) (b := v84.toNatClampNeg) (c := 106) _ _ (Or.inl (by decide)))).trans (((pI_ne (a := 104) (b := v84.toNatClampNeg) (c := 71) _ _ (Or.inl (by decide)))).trans (((pI_ne (a := 104) (b := v84.toNatClampNeg) (c := 71) _ _ (Or.inl (by decide)))).trans (((pI_ne (a := 104) (b := v84.toNatClampNeg) (c := 71) _ _ (Or.inl (by decide)))).trans (((pI_ne (a := 104) (b := v84.toNatClampNeg) (c := 105) _ _ (Or.inl (by decide)))).trans (((pI_ne (a := 104) (b := v84.toNatClampNeg) (c := 71) _ _ (Or.inl (by decide)))).trans ((fu7 104 v84.toNatClampNeg rfl).1))))))).symm.trans ev86)
      refine r_iald (n := 4) (lo := 0) (hi := 12) C v86 rfl (by decide) rfl rfl ⟨by omega, by omega⟩ (by decide) ev86 rfl rfl (oDec_at oX12_testTold 57 rfl) (fun b85 b85h => ?_)
      have lc87 : (((pI (pI (pI (pI (pI (pI u7 71 56 k1) 105 v6.toNatClampNeg v71) 71 47 k0) 71 48 k0) 71 55 k0) 106 v6.toNatClampNeg v71)).1 104 2).toInt = (s.1 104 2).toInt := congrArg Int32.toInt (((pI_ne (a := 104) (b := 2) (c := 106) _ _ (Or.inl (by decide)))).trans (((pI_ne (a := 104) (b := 2) (c := 71) _ _ (Or.inl (by decide)))).trans (((pI_ne (a := 104) (b := 2) (c := 71) _ _ (Or.inl (by decide)))).trans (((pI_ne (a := 104) (b := 2) (c := 71) _ _ (Or.inl (by decide)))).trans (((pI_ne (a := 104) (b := 2) (c := 105) _ _ (Or.inl (by decide)))).trans (((pI_ne (a := 104) (b := 2) (c := 71) _ _ (Or.inl (by decide)))).trans ((fu7 104 2 rfl).1)))))))
      have lc88 : (((pI (pI (pI (pI (pI (pI u7 71 56 k1) 105 v6.toNatClampNeg v71) 71 47 k0) 71 48 k0) 71 55 k0) 106 v6.toNatClampNeg v71)).1 104 3).toInt = (s.1 104 3).toInt := congrArg Int32.toInt (((pI_ne (a := 104) (b := 3) (c := 106) _ _ (Or.inl (by decide)))).trans (((pI_ne (a := 104) (b := 3) (c := 71) _ _ (Or.inl (by decide)))).trans (((pI_ne (a := 104) (b := 3) (c := 71) _ _ (Or.inl (by decide)))).trans (((pI_ne (a := 104) (b := 3) (c := 71) _ _ (Or.inl (by decide)))).trans (((pI_ne (a := 104) (b := 3) (c := 105) _ _ (Or.inl (by decide)))).trans (((pI_ne (a := 104) (b := 3) (c := 71) _ _ (Or.inl (by decide)))).trans ((fu7 104 3 rfl).1)))))))
      have hix2 := oIxM (i := v84) ev86
      refine r_iconst C (oDec_at oX12_testTold 58 rfl) (v := k1) (by rw [qk1]; rfl) ?_
      obtain ⟨v89, ev89⟩ : ∃ z : Int32, z = v86 + k1 := ⟨_, rfl⟩
      have hv89 : v89.toInt = v86.toInt + k1.toInt := n_add ev89 (by omega) (by omega)
      refine r_iadd C v89 (oDec_at oX12_testTold 59 rfl) ev89 ?_
      refine r_iast (n := 4) (lo := 0) (hi := 12) C rfl (by decide) rfl rfl ⟨by omega, by omega⟩ (by decide) rfl rfl rfl rfl ⟨by omega, by omega⟩ (oDec_at oX12_testTold 60 rfl) ?_
      have hmy := oMny3 (s := (pI (pI (pI (pI (pI (pI u7 71 56 k1) 105 v6.toNatClampNeg v71) 71 47 k0) 71 48 k0) 71 55 k0) 106 v6.toNatClampNeg v71)) (i := v84) (z := v89)
      have hq90 : oBB ((pI (pI (pI (pI (pI (pI (pI u7 71 56 k1) 105 v6.toNatClampNeg v71) 71 47 k0) 71 48 k0) 71 55 k0) 106 v6.toNatClampNeg v71) 104 v84.toNatClampNeg v89)) := by first | exact oBB_told (x := 1) (by assumption) hmB (by assumption) (by omega) | exact oBB_told0 (oBB_fr (oFr_oneI (q := 12) (m := 55) rfl (by rfl)) rfl (oBB_fr (oFr_oneI (q := 12) (m := 48) rfl (by rfl)) rfl (oBB_fr (oFr_oneI (q := 12) (m := 47) rfl (by rfl)) rfl hq76))) (by omega) hmB (by omega) (by omega)
      have lk91 : (((pI (pI (pI (pI (pI (pI (pI u7 71 56 k1) 105 v6.toNatClampNeg v71) 71 47 k0) 71 48 k0) 71 55 k0) 106 v6.toNatClampNeg v71) 104 v84.toNatClampNeg v89)).1 71 5).toInt = v77.toInt := congrArg Int32.toInt (((pI_ne (a := 71) (b := 5) (c := 104) _ _ (Or.inl (by decide)))).trans (((pI_ne (a := 71) (b := 5) (c := 106) _ _ (Or.inl (by decide)))).trans (ev77)))
      have lk92 : (((pI (pI (pI (pI (pI (pI (pI u7 71 56 k1) 105 v6.toNatClampNeg v71) 71 47 k0) 71 48 k0) 71 55 k0) 106 v6.toNatClampNeg v71) 104 v84.toNatClampNeg v89)).1 71 45).toInt = v71.toInt := congrArg Int32.toInt (((pI_ne (a := 71) (b := 45) (c := 104) _ _ (Or.inl (by decide)))).trans (((pI_ne (a := 71) (b := 45) (c := 106) _ _ (Or.inl (by decide)))).trans (((pI_ne (a := 71) (b := 45) (c := 71) (k := 55) _ _ (Or.inr (by decide)))).trans (((pI_ne (a := 71) (b := 45) (c := 71) (k := 48) _ _ (Or.inr (by decide)))).trans (((pI_ne (a := 71) (b := 45) (c := 71) (k := 47) _ _ (Or.inr (by decide)))).trans (((pI_ne (a := 71) (b := 45) (c := 105) _ _ (Or.inl (by decide)))).trans (ev71)))))))
      have lk93 : (((pI (pI (pI (pI (pI (pI (pI u7 71 56 k1) 105 v6.toNatClampNeg v71) 71 47 k0) 71 48 k0) 71 55 k0) 106 v6.toNatClampNeg v71) 104 v84.toNatClampNeg v89)).1 71 2).toInt = (u7.1 71 2).toInt := congrArg Int32.toInt (((pI_ne (a := 71) (b := 2) (c := 104) _ _ (Or.inl (by decide)))).trans (((pI_ne (a := 71) (b := 2) (c := 106) _ _ (Or.inl (by decide)))).trans (((pI_ne (a := 71) (b := 2) (c := 71) (k := 55) _ _ (Or.inr (by decide)))).trans (((pI_ne (a := 71) (b := 2) (c := 71) (k := 48) _ _ (Or.inr (by decide)))).trans (((pI_ne (a := 71) (b := 2) (c := 71) (k := 47) _ _ (Or.inr (by decide)))).trans (((pI_ne (a := 71) (b := 2) (c := 105) _ _ (Or.inl (by decide)))).trans ((pI_ne (a := 71) (b := 2) (c := 71) (k := 56) _ _ (Or.inr (by decide))))))))))
      have lk94 : (((pI (pI (pI (pI (pI (pI (pI u7 71 56 k1) 105 v6.toNatClampNeg v71) 71 47 k0) 71 48 k0) 71 55 k0) 106 v6.toNatClampNeg v71) 104 v84.toNatClampNeg v89)).1 71 2).toInt = (u7.1 71 2).toInt := congrArg Int32.toInt (((pI_ne (a := 71) (b := 2) (c := 104) _ _ (Or.inl (by decide)))).trans (((pI_ne (a := 71) (b := 2) (c := 106) _ _ (Or.inl (by decide)))).trans (((pI_ne (a := 71) (b := 2) (c := 71) (k := 55) _ _ (Or.inr (by decide)))).trans (((pI_ne (a := 71) (b := 2) (c := 71) (k := 48) _ _ (Or.inr (by decide)))).trans (((pI_ne (a := 71) (b := 2) (c := 71) (k := 47) _ _ (Or.inr (by decide)))).trans (((pI_ne (a := 71) (b := 2) (c := 105) _ _ (Or.inl (by decide)))).trans ((pI_ne (a := 71) (b := 2) (c := 71) (k := 56) _ _ (Or.inr (by decide))))))))))
      exact r_vret C (oDec_at oX12_testTold 61 rfl) ⟨rfl, ⟨hq90, by omega, by omega, by omega⟩⟩
    · skip
      refine r_aload_n C (j := 0) (oDec_at oX12_testTold 43 rfl) rfl rfl ?_
      have lc95 : (((pI (pI (pI (pI (pI u7 71 56 k1) 105 v6.toNatClampNeg v71) 71 47 k0) 71 48 k0) 71 55 k0)).1 104 2).toInt = (s.1 104 2).toInt := congrArg Int32.toInt (((pI_ne (a := 104) (b := 2) (c := 71) _ _ (Or.inl (by decide)))).trans (((pI_ne (a := 104) (b := 2) (c := 71) _ _ (Or.inl (by decide)))).trans (((pI_ne (a := 104) (b := 2) (c := 71) _ _ (Or.inl (by decide)))).trans (((pI_ne (a := 104) (b := 2) (c := 105) _ _ (Or.inl (by decide)))).trans (((pI_ne (a := 104) (b := 2) (c := 71) _ _ (Or.inl (by decide)))).trans ((fu7 104 2 rfl).1))))))
      have lc96 : (((pI (pI (pI (pI (pI u7 71 56 k1) 105 v6.toNatClampNeg v71) 71 47 k0) 71 48 k0) 71 55 k0)).1 104 3).toInt = (s.1 104 3).toInt := congrArg Int32.toInt (((pI_ne (a := 104) (b := 3) (c := 71) _ _ (Or.inl (by decide)))).trans (((pI_ne (a := 104) (b := 3) (c := 71) _ _ (Or.inl (by decide)))).trans (((pI_ne (a := 104) (b := 3) (c := 71) _ _ (Or.inl (by decide)))).trans (((pI_ne (a := 104) (b := 3) (c := 105) _ _ (Or.inl (by decide)))).trans (((pI_ne (a := 104) (b := 3) (c := 71) _ _ (Or.inl (by decide)))).trans ((fu7 104 3 rfl).1))))))
      have hq97 : oQ 9999 0 ((pI (pI (pI (pI (pI u7 71 56 k1) 105 v6.toNatClampNeg v71) 71 47 k0) 71 48 k0) 71 55 k0)) := oQ_init (oBB_fr (oFr_oneI (q := 12) (m := 55) rfl (by rfl)) rfl (oBB_fr (oFr_oneI (q := 12) (m := 48) rfl (by rfl)) rfl (oBB_fr (oFr_oneI (q := 12) (m := 47) rfl (by rfl)) rfl hq76))) (by omega) (by omega) (by assumption) (by omega)
      have lk98 : (((pI (pI (pI (pI (pI u7 71 56 k1) 105 v6.toNatClampNeg v71) 71 47 k0) 71 48 k0) 71 55 k0)).1 71 5).toInt = v77.toInt := congrArg Int32.toInt (ev77)
      have lk99 : (((pI (pI (pI (pI (pI u7 71 56 k1) 105 v6.toNatClampNeg v71) 71 47 k0) 71 48 k0) 71 55 k0)).1 71 48).toInt = k0.toInt := congrArg Int32.toInt (((pI_ne (a := 71) (b := 48) (c := 71) (k := 55) _ _ (Or.inr (by decide)))).trans ((pI_self _ _ _ _)))
      have lk100 : (((pI (pI (pI (pI (pI u7 71 56 k1) 105 v6.toNatClampNeg v71) 71 47 k0) 71 48 k0) 71 55 k0)).1 71 45).toInt = v71.toInt := congrArg Int32.toInt (((pI_ne (a := 71) (b := 45) (c := 71) (k := 55) _ _ (Or.inr (by decide)))).trans (((pI_ne (a := 71) (b := 45) (c := 71) (k := 48) _ _ (Or.inr (by decide)))).trans (((pI_ne (a := 71) (b := 45) (c := 71) (k := 47) _ _ (Or.inr (by decide)))).trans (((pI_ne (a := 71) (b := 45) (c := 105) _ _ (Or.inl (by decide)))).trans (ev71)))))
      have lk101 : (((pI (pI (pI (pI (pI u7 71 56 k1) 105 v6.toNatClampNeg v71) 71 47 k0) 71 48 k0) 71 55 k0)).1 71 47).toInt = k0.toInt := congrArg Int32.toInt (((pI_ne (a := 71) (b := 47) (c := 71) (k := 55) _ _ (Or.inr (by decide)))).trans (((pI_ne (a := 71) (b := 47) (c := 71) (k := 48) _ _ (Or.inr (by decide)))).trans ((pI_self _ _ _ _))))
      have lk102 : (((pI (pI (pI (pI (pI u7 71 56 k1) 105 v6.toNatClampNeg v71) 71 47 k0) 71 48 k0) 71 55 k0)).1 71 2).toInt = (u7.1 71 2).toInt := congrArg Int32.toInt (((pI_ne (a := 71) (b := 2) (c := 71) (k := 55) _ _ (Or.inr (by decide)))).trans (((pI_ne (a := 71) (b := 2) (c := 71) (k := 48) _ _ (Or.inr (by decide)))).trans (((pI_ne (a := 71) (b := 2) (c := 71) (k := 47) _ _ (Or.inr (by decide)))).trans (((pI_ne (a := 71) (b := 2) (c := 105) _ _ (Or.inl (by decide)))).trans ((pI_ne (a := 71) (b := 2) (c := 71) (k := 56) _ _ (Or.inr (by decide))))))))
      have lk103 : (((pI (pI (pI (pI (pI u7 71 56 k1) 105 v6.toNatClampNeg v71) 71 47 k0) 71 48 k0) 71 55 k0)).1 71 2).toInt = (u7.1 71 2).toInt := congrArg Int32.toInt (((pI_ne (a := 71) (b := 2) (c := 71) (k := 55) _ _ (Or.inr (by decide)))).trans (((pI_ne (a := 71) (b := 2) (c := 71) (k := 48) _ _ (Or.inr (by decide)))).trans (((pI_ne (a := 71) (b := 2) (c := 71) (k := 47) _ _ (Or.inr (by decide)))).trans (((pI_ne (a := 71) (b := 2) (c := 105) _ _ (Or.inl (by decide)))).trans ((pI_ne (a := 71) (b := 2) (c := 71) (k := 56) _ _ (Or.inr (by decide))))))))
      have lk104 : (((pI (pI (pI (pI (pI u7 71 56 k1) 105 v6.toNatClampNeg v71) 71 47 k0) 71 48 k0) 71 55 k0)).1 71 45).toInt = v71.toInt := congrArg Int32.toInt (((pI_ne (a := 71) (b := 45) (c := 71) (k := 55) _ _ (Or.inr (by decide)))).trans (((pI_ne (a := 71) (b := 45) (c := 71) (k := 48) _ _ (Or.inr (by decide)))).trans (((pI_ne (a := 71) (b := 45) (c := 71) (k := 47) _ _ (Or.inr (by decide)))).trans (((pI_ne (a := 71) (b := 45) (c := 105) _ _ (Or.inl (by decide)))).trans (ev71)))))
      have lk105 : (((pI (pI (pI (pI (pI u7 71 56 k1) 105 v6.toNatClampNeg v71) 71 47 k0) 71 48 k0) 71 55 k0)).1 71 47).toInt = k0.toInt := congrArg Int32.toInt (((pI_ne (a := 71) (b := 47) (c := 71) (k := 55) _ _ (Or.inr (by decide)))).trans (((pI_ne (a := 71) (b := 47) (c := 71) (k := 48) _ _ (Or.inr (by decide)))).trans ((pI_self _ _ _ _))))
      have lk106 : (((pI (pI (pI (pI (pI u7 71 56 k1) 105 v6.toNatClampNeg v71) 71 47 k0) 71 48 k0) 71 55 k0)).1 71 2).toInt = (u7.1 71 2).toInt := congrArg Int32.toInt (((pI_ne (a := 71) (b := 2) (c := 71) (k := 55) _ _ (Or.inr (by decide)))).trans (((pI_ne (a := 71) (b := 2) (c := 71) (k := 48) _ _ (Or.inr (by decide)))).trans (((pI_ne (a := 71) (b := 2) (c := 71) (k := 47) _ _ (Or.inr (by decide)))).trans (((pI_ne (a := 71) (b := 2) (c := 105) _ _ (Or.inl (by decide)))).trans ((pI_ne (a := 71) (b := 2) (c := 71) (k := 56) _ _ (Or.inr (by decide))))))))
      have lk107 : (((pI (pI (pI (pI (pI u7 71 56 k1) 105 v6.toNatClampNeg v71) 71 47 k0) 71 48 k0) 71 55 k0)).1 71 45).toInt = v71.toInt := congrArg Int32.toInt (((pI_ne (a := 71) (b := 45) (c := 71) (k := 55) _ _ (Or.inr (by decide)))).trans (((pI_ne (a := 71) (b := 45) (c := 71) (k := 48) _ _ (Or.inr (by decide)))).trans (((pI_ne (a := 71) (b := 45) (c := 71) (k := 47) _ _ (Or.inr (by decide)))).trans (((pI_ne (a := 71) (b := 45) (c := 105) _ _ (Or.inl (by decide)))).trans (ev71)))))
      have lk108 : (((pI (pI (pI (pI (pI u7 71 56 k1) 105 v6.toNatClampNeg v71) 71 47 k0) 71 48 k0) 71 55 k0)).1 71 47).toInt = k0.toInt := congrArg Int32.toInt (((pI_ne (a := 71) (b := 47) (c := 71) (k := 55) _ _ (Or.inr (by decide)))).trans (((pI_ne (a := 71) (b := 47) (c := 71) (k := 48) _ _ (Or.inr (by decide)))).trans ((pI_self _ _ _ _))))
      have lk109 : (((pI (pI (pI (pI (pI u7 71 56 k1) 105 v6.toNatClampNeg v71) 71 47 k0) 71 48 k0) 71 55 k0)).1 71 2).toInt = (u7.1 71 2).toInt := congrArg Int32.toInt (((pI_ne (a := 71) (b := 2) (c := 71) (k := 55) _ _ (Or.inr (by decide)))).trans (((pI_ne (a := 71) (b := 2) (c := 71) (k := 48) _ _ (Or.inr (by decide)))).trans (((pI_ne (a := 71) (b := 2) (c := 71) (k := 47) _ _ (Or.inr (by decide)))).trans (((pI_ne (a := 71) (b := 2) (c := 105) _ _ (Or.inl (by decide)))).trans ((pI_ne (a := 71) (b := 2) (c := 71) (k := 56) _ _ (Or.inr (by decide))))))))
      refine r_callVv C oCl12 rfl miX12_test mlX12_334 (ct_X12_test l E ((pI (pI (pI (pI (pI u7 71 56 k1) 105 v6.toNatClampNeg v71) 71 47 k0) 71 48 k0) 71 55 k0))  hq97 (by omega) (by omega) (by omega)) (by decide) rfl rfl rfl (Nat.le_of_ble_eq_true rfl) (oDec_at oX12_testTold 44 rfl) (fun u110 pu110 fu110 => ?_)
      try dsimp only at pu110
      try simp only [lk98, lk99, lk100, lk101, lk102, lk103, lk104, lk105, lk106, lk107, lk108, lk109] at pu110
      obtain ⟨pu110_0, pu110_1, pu110_2, pu110_3⟩ := pu110
      refine r_aload_n C (j := 0) (oDec_at oX12_testTold 45 rfl) rfl rfl ?_
      refine r_getF (k := 51) (b := 106) C oCl12 rfl (by decide) flX12_120 rfl rfl rfl (oDec_at oX12_testTold 46 rfl) ?_
      refine r_iload_n C (j := 2) (oDec_at oX12_testTold 47 rfl) rfl rfl ?_
      refine r_aload_n C (j := 0) (oDec_at oX12_testTold 48 rfl) rfl rfl ?_
      refine r_pc C 81 rfl ?_
      obtain ⟨v112, ev112⟩ : ∃ z : Int32, (u110).1 71 45 = z := ⟨_, rfl⟩
      have gv112 : (u110.1 71 45).toInt = v112.toInt := congrArg Int32.toInt (ev112)
      refine r_geti (k := 45) (lo := 0) (hi := 1600) C v112 oCl12 rfl (by decide) flX12_234 rfl rfl (ev112) rfl rfl (oDec_at oX12_testTold 49 rfl) (fun b113 b113h => ?_)
      have lc114 : ((u110).1 104 2).toInt = (s.1 104 2).toInt := congrArg Int32.toInt (((fu110 104 2 rfl).1).trans (((pI_ne (a := 104) (b := 2) (c := 71) _ _ (Or.inl (by decide)))).trans (((pI_ne (a := 104) (b := 2) (c := 71) _ _ (Or.inl (by decide)))).trans (((pI_ne (a := 104) (b := 2) (c := 71) _ _ (Or.inl (by decide)))).trans (((pI_ne (a := 104) (b := 2) (c := 105) _ _ (Or.inl (by decide)))).trans (((pI_ne (a := 104) (b := 2) (c := 71) _ _ (Or.inl (by decide)))).trans ((fu7 104 2 rfl).1)))))))
      have lc115 : ((u110).1 104 3).toInt = (s.1 104 3).toInt := congrArg Int32.toInt (((fu110 104 3 rfl).1).trans (((pI_ne (a := 104) (b := 3) (c := 71) _ _ (Or.inl (by decide)))).trans (((pI_ne (a := 104) (b := 3) (c := 71) _ _ (Or.inl (by decide)))).trans (((pI_ne (a := 104) (b := 3) (c := 71) _ _ (Or.inl (by decide)))).trans (((pI_ne (a := 104) (b := 3) (c := 105) _ _ (Or.inl (by decide)))).trans (((pI_ne (a := 104) (b := 3) (c := 71) _ _ (Or.inl (by decide)))).trans ((fu7 104 3 rfl).1)))))))
      have lk116 : ((u110).1 71 45).toInt = v112.toInt := congrArg Int32.toInt (ev112)
      have lk117 : ((u110).1 71 56).toInt = k1.toInt := congrArg Int32.toInt (((fu110 71 56 rfl).1).trans (((pI_ne (a := 71) (b := 56) (c := 71) (k := 55) _ _ (Or.inr (by decide)))).trans (((pI_ne (a := 71) (b := 56) (c := 71) (k := 48) _ _ (Or.inr (by decide)))).trans (((pI_ne (a := 71) (b := 56) (c := 71) (k := 47) _ _ (Or.inr (by decide)))).trans (((pI_ne (a := 71) (b := 56) (c := 105) _ _ (Or.inl (by decide)))).trans ((pI_self _ _ _ _)))))))
      refine r_ty C (fun hty => ?_)
      have hmB : ∀ i : Nat, (0 : Int) ≤ ((u110).1 104 i).toInt ∧ ((u110).1 104 i).toInt ≤ 12 := fun i => hty.1 104 i
      have hmB2 := hmB 2
      have hmB3 := hmB 3
      clear hty
      refine r_ty C (fun hty => ?_)
      have hty_coded : (0 : Int) ≤ ((u110).1 71 45).toInt ∧ ((u110).1 71 45).toInt ≤ 1600 := hty.1 71 45
      have hty_waits : (0 : Int) ≤ ((u110).1 71 47).toInt ∧ ((u110).1 71 47).toInt ≤ 1700 := hty.1 71 47
      have hty_at : (0 : Int) ≤ ((u110).1 71 2).toInt ∧ ((u110).1 71 2).toInt ≤ 1600 := hty.1 71 2
      clear hty
      refine r_iast (n := 48) (lo := 0) (hi := 1600) C rfl (by decide) rfl rfl ⟨by omega, by omega⟩ (by decide) rfl rfl rfl rfl ⟨by omega, by omega⟩ (oDec_at oX12_testTold 50 rfl) ?_
      refine r_aload_n C (j := 0) (oDec_at oX12_testTold 51 rfl) rfl rfl ?_
      refine r_getF (k := 49) (b := 104) C oCl12 rfl (by decide) flX12_114 rfl rfl rfl (oDec_at oX12_testTold 52 rfl) ?_
      refine r_iconst C (oDec_at oX12_testTold 53 rfl) (v := k2) (by rw [qk2]; rfl) ?_
      refine r_iload_n C (j := 1) (oDec_at oX12_testTold 54 rfl) rfl rfl ?_
      refine r_pc C 91 rfl ?_
      obtain ⟨v118, ev118⟩ : ∃ z : Int32, z = k2 + a1 := ⟨_, rfl⟩
      have hv118 : v118.toInt = k2.toInt + a1.toInt := n_add ev118 (by omega) (by omega)
      refine r_iadd C v118 (oDec_at oX12_testTold 55 rfl) ev118 ?_
      refine r_dup2 C (oDec_at oX12_testTold 56 rfl) rfl rfl ?_
      obtain ⟨v120, ev120⟩ : ∃ z : Int32, ((pI u110 106 v6.toNatClampNeg v112)).1 104 v118.toNatClampNeg = z := ⟨_, rfl⟩
      have av120 : s.1 104 v118.toNatClampNeg = v120 := (((pI_ne (a := 104) (b := v118.toNatClampNeg) (c := 106) _ _ (Or.inl (by decide)))).trans (((fu110 104 v118.toNatClampNeg rfl).1).trans (((pI_ne (a := 104) (b := v118.toNatClampNeg) (c := 71) _ _ (Or.inl (by decide)))).trans (((pI_ne (a := 104) (b := v118.toNatClampNeg) (c := 71) _ _ (Or.inl (by decide)))).trans (((pI_ne (a := 104) (b := v118.toNatClampNeg) (c := 71) _ _ (Or.inl (by decide)))).trans (((pI_ne (a := 104) (b := v118.toNatClampNeg) (c := 105) _ _ (Or.inl (by decide)))).trans (((pI_ne (a := 104) (b := v118.toNatClampNeg) (c := 71) _ _ (Or.inl (by decide)))).trans ((fu7 104 v118.toNatClampNeg rfl).1)))))))).symm.trans ev120
      have gv120 : (s.1 104 v118.toNatClampNeg).toInt = v120.toInt := congrArg Int32.toInt ((((pI_ne (a := 104) (b := v118.toNatClampNeg) (c := 106) _ _ (Or.inl (by decide)))).trans (((fu110 104 v118.toNatClampNeg rfl).1).trans (((pI_ne (a := 104) (b := v118.toNatClampNeg) (c := 71) _ _ (Or.inl (by decide)))).trans (((pI_ne (a := 104) (b := v118.toNatClampNeg) (c := 71) _ _ (Or.inl (by decide)))).trans (((pI_ne (a := 104) (b := v118.toNatClampNeg) (c := 71) _ _ (Or.inl (by decide)))).trans (((pI_ne (a := 104) (b := v118.toNatClampNeg) (c := 105) _ _ (Or.inl (by decide)))).trans (((pI_ne (a := 104) (b := v118.toNatClampNeg) (c := 71) _ _ (Or.inl (by decide)))).trans ((fu7 104 v118.toNatClampNeg rfl).1)))))))).symm.trans ev120)
      refine r_iald (n := 4) (lo := 0) (hi := 12) C v120 rfl (by decide) rfl rfl ⟨by omega, by omega⟩ (by decide) ev120 rfl rfl (oDec_at oX12_testTold 57 rfl) (fun b119 b119h => ?_)
      have lc121 : (((pI u110 106 v6.toNatClampNeg v112)).1 104 2).toInt = (s.1 104 2).toInt := congrArg Int32.toInt (((pI_ne (a := 104) (b := 2) (c := 106) _ _ (Or.inl (by decide)))).trans (((fu110 104 2 rfl).1).trans (((pI_ne (a := 104) (b := 2) (c := 71) _ _ (Or.inl (by decide)))).trans (((pI_ne (a := 104) (b := 2) (c := 71) _ _ (Or.inl (by decide)))).trans (((pI_ne (a := 104) (b := 2) (c := 71) _ _ (Or.inl (by decide)))).trans (((pI_ne (a := 104) (b := 2) (c := 105) _ _ (Or.inl (by decide)))).trans (((pI_ne (a := 104) (b := 2) (c := 71) _ _ (Or.inl (by decide)))).trans ((fu7 104 2 rfl).1))))))))
      have lc122 : (((pI u110 106 v6.toNatClampNeg v112)).1 104 3).toInt = (s.1 104 3).toInt := congrArg Int32.toInt (((pI_ne (a := 104) (b := 3) (c := 106) _ _ (Or.inl (by decide)))).trans (((fu110 104 3 rfl).1).trans (((pI_ne (a := 104) (b := 3) (c := 71) _ _ (Or.inl (by decide)))).trans (((pI_ne (a := 104) (b := 3) (c := 71) _ _ (Or.inl (by decide)))).trans (((pI_ne (a := 104) (b := 3) (c := 71) _ _ (Or.inl (by decide)))).trans (((pI_ne (a := 104) (b := 3) (c := 105) _ _ (Or.inl (by decide)))).trans (((pI_ne (a := 104) (b := 3) (c := 71) _ _ (Or.inl (by decide)))).trans ((fu7 104 3 rfl).1))))))))
      have hix2 := oIxM (i := v118) ev120
      refine r_iconst C (oDec_at oX12_testTold 58 rfl) (v := k1) (by rw [qk1]; rfl) ?_
      obtain ⟨v123, ev123⟩ : ∃ z : Int32, z = v120 + k1 := ⟨_, rfl⟩
      have hv123 : v123.toInt = v120.toInt + k1.toInt := n_add ev123 (by omega) (by omega)
      refine r_iadd C v123 (oDec_at oX12_testTold 59 rfl) ev123 ?_
      refine r_iast (n := 4) (lo := 0) (hi := 12) C rfl (by decide) rfl rfl ⟨by omega, by omega⟩ (by decide) rfl rfl rfl rfl ⟨by omega, by omega⟩ (oDec_at oX12_testTold 60 rfl) ?_
      refine r_pc C 97 rfl ?_
      have hmy := oMny3 (s := (pI u110 106 v6.toNatClampNeg v112)) (i := v118) (z := v123)
      have hq124 : oBB ((pI (pI u110 106 v6.toNatClampNeg v112) 104 v118.toNatClampNeg v123)) := by first | exact oBB_told (x := 1) pu110_0 hmB (by assumption) (by omega) | exact oBB_told0 (by assumption) (by omega) hmB (by omega) (by omega)
      have lk125 : (((pI (pI u110 106 v6.toNatClampNeg v112) 104 v118.toNatClampNeg v123)).1 71 5).toInt = (u110.1 71 5).toInt := congrArg Int32.toInt (((pI_ne (a := 71) (b := 5) (c := 104) _ _ (Or.inl (by decide)))).trans ((pI_ne (a := 71) (b := 5) (c := 106) _ _ (Or.inl (by decide)))))
      have lk126 : (((pI (pI u110 106 v6.toNatClampNeg v112) 104 v118.toNatClampNeg v123)).1 71 45).toInt = v112.toInt := congrArg Int32.toInt (((pI_ne (a := 71) (b := 45) (c := 104) _ _ (Or.inl (by decide)))).trans (((pI_ne (a := 71) (b := 45) (c := 106) _ _ (Or.inl (by decide)))).trans (ev112)))
      have lk127 : (((pI (pI u110 106 v6.toNatClampNeg v112) 104 v118.toNatClampNeg v123)).1 71 2).toInt = (u110.1 71 2).toInt := congrArg Int32.toInt (((pI_ne (a := 71) (b := 2) (c := 104) _ _ (Or.inl (by decide)))).trans ((pI_ne (a := 71) (b := 2) (c := 106) _ _ (Or.inl (by decide)))))
      have lk128 : (((pI (pI u110 106 v6.toNatClampNeg v112) 104 v118.toNatClampNeg v123)).1 71 2).toInt = (u110.1 71 2).toInt := congrArg Int32.toInt (((pI_ne (a := 71) (b := 2) (c := 104) _ _ (Or.inl (by decide)))).trans ((pI_ne (a := 71) (b := 2) (c := 106) _ _ (Or.inl (by decide)))))
      exact r_vret C (oDec_at oX12_testTold 61 rfl) ⟨rfl, ⟨hq124, by omega, by omega, by omega⟩⟩
set_option maxHeartbeats 4000000 in
set_option maxRecDepth 100000 in
theorem ct_X12_ruleTold (l : Launch) (E : oE) (s : oS) (a1 : Int32)  (hp0 : oBB s) (hp1 : (s.1 71 5).toInt = 0 → (s.1 71 45).toInt + 3 ≤ (s.1 71 2).toInt) (hp2 : (s.1 104 3).toInt ≤ 6) : oMet l 10 yX12_ruleTold cX12_ruleTold 2 none [(12, 2), (12, 4), (12, 5), (12, 6), (12, 9), (12, 45), (12, 47), (12, 48), (12, 55), (12, 56), (78, 9999), (79, 9999), (80, 9999), (81, 9999), (82, 9999)] E s [.ref (oad E 71), .int a1] (oPv (fun u => (oBB u) ∧ ((u.1 71 5).toInt = 0 → ((u.1 71 45).toInt ≤ (u.1 71 2).toInt ∧ (s.1 71 5).toInt = 0)) ∧ ((u.1 104 3).toInt ≤ 6) ∧ ((s.1 71 2).toInt ≤ (u.1 71 2).toInt))) := by
  refine oMet.of (lv := [(0, .ref (oad E 71)), (1, .int a1)]) (by decide +kernel) (Nat.le_of_ble_eq_true rfl) rfl (fun J C hT => ?_)
  have C : oC l 10 cX12_ruleTold RX12 2 none [(12, 2), (12, 4), (12, 5), (12, 6), (12, 9), (12, 45), (12, 47), (12, 48), (12, 55), (12, 56), (78, 9999), (79, 9999), (80, 9999), (81, 9999), (82, 9999)] E s (oPv (fun u => (oBB u) ∧ ((u.1 71 5).toInt = 0 → ((u.1 71 45).toInt ≤ (u.1 71 2).toInt ∧ (s.1 71 5).toInt = 0)) ∧ ((u.1 104 3).toInt ≤ 6) ∧ ((s.1 71 2).toInt ≤ (u.1 71 2).toInt))) J := C
  obtain ⟨k0, qk0⟩ : ∃ z : Int32, z = 0 := ⟨_, rfl⟩
  have ek0 : k0.toInt = 0 := by rw [qk0]; rfl
  obtain ⟨k2, qk2⟩ : ∃ z : Int32, z = 2 := ⟨_, rfl⟩
  have ek2 : k2.toInt = 2 := by rw [qk2]; rfl
  obtain ⟨k5, qk5⟩ : ∃ z : Int32, z = 5 := ⟨_, rfl⟩
  have ek5 : k5.toInt = 5 := by rw [qk5]; rfl
  obtain ⟨k12, qk12⟩ : ∃ z : Int32, z = 12 := ⟨_, rfl⟩
  have ek12 : k12.toInt = 12 := by rw [qk12]; rfl
  have rg1 := n_rng a1
  have htz_coded : (0 : Int) ≤ (s.1 71 45).toInt ∧ (s.1 71 45).toInt ≤ 1600 := hT.1 71 45
  have htz_at : (0 : Int) ≤ (s.1 71 2).toInt ∧ (s.1 71 2).toInt ≤ 1600 := hT.1 71 2
  refine r_aload_n C (j := 0) (oDec_at oX12_ruleTold 0 rfl) rfl rfl ?_
  obtain ⟨v1, ev1⟩ : ∃ z : Int32, (s).1 71 5 = z := ⟨_, rfl⟩
  have gv1 : (s.1 71 5).toInt = v1.toInt := congrArg Int32.toInt (ev1)
  have rv1 := n_rng v1
  refine r_geti (k := 5) (lo := (-2147483648)) (hi := 2147483647) C v1 oCl12 rfl (by decide) flX12_173 rfl rfl (ev1) rfl rfl (oDec_at oX12_ruleTold 1 rfl) (fun _ _ => ?_)
  refine r_if_ne C 24 (oDec_at oX12_ruleTold 2 rfl) (by decide) (fun cd2 => ?_) (fun cd2 => ?_)
  · skip
    refine r_aload_n C (j := 0) (oDec_at oX12_ruleTold 13 rfl) rfl rfl ?_
    refine r_geti (k := 5) (lo := (-2147483648)) (hi := 2147483647) C v1 oCl12 rfl (by decide) flX12_173 rfl rfl (ev1) rfl rfl (oDec_at oX12_ruleTold 14 rfl) (fun _ _ => ?_)
    refine r_if_ne C 36 (oDec_at oX12_ruleTold 15 rfl) (by decide) (fun cd3 => ?_) (fun cd3 => ?_)
    · skip
      have lk4 : ((s).1 71 5).toInt = v1.toInt := congrArg Int32.toInt (ev1)
      refine r_ty C (fun hty => ?_)
      have hty_coded : (0 : Int) ≤ ((s).1 71 45).toInt ∧ ((s).1 71 45).toInt ≤ 1600 := hty.1 71 45
      have hty_at : (0 : Int) ≤ ((s).1 71 2).toInt ∧ ((s).1 71 2).toInt ≤ 1600 := hty.1 71 2
      clear hty
      have lk5 : ((s).1 71 5).toInt = v1.toInt := congrArg Int32.toInt (ev1)
      exact r_vret C (oDec_at oX12_ruleTold 19 rfl) ⟨rfl, ⟨hp0, by omega, by omega, by omega⟩⟩
    · omega
  · skip
    refine r_aload_n C (j := 0) (oDec_at oX12_ruleTold 3 rfl) rfl rfl ?_
    refine r_getF (k := 49) (b := 104) C oCl12 rfl (by decide) flX12_114 rfl rfl rfl (oDec_at oX12_ruleTold 4 rfl) ?_
    refine r_iconst C (oDec_at oX12_ruleTold 5 rfl) (v := k2) (by rw [qk2]; rfl) ?_
    obtain ⟨v7, ev7⟩ : ∃ z : Int32, (s).1 104 k2.toNatClampNeg = z := ⟨_, rfl⟩
    have gv7 : (s.1 104 k2.toNatClampNeg).toInt = v7.toInt := congrArg Int32.toInt (ev7)
    refine r_iald (n := 4) (lo := 0) (hi := 12) C v7 rfl (by decide) rfl rfl ⟨by omega, by omega⟩ (by decide) ev7 rfl rfl (oDec_at oX12_ruleTold 6 rfl) (fun b6 b6h => ?_)
    have hix := oIxM (i := k2) ev7
    refine r_bipush C (oDec_at oX12_ruleTold 7 rfl) (v := k12) (by rw [qk12]; rfl) ?_
    refine r_icmp_ne C 24 (oDec_at oX12_ruleTold 8 rfl) (by decide) (fun cd8 => ?_) (fun cd8 => ?_)
    · skip
      refine r_aload_n C (j := 0) (oDec_at oX12_ruleTold 13 rfl) rfl rfl ?_
      refine r_geti (k := 5) (lo := (-2147483648)) (hi := 2147483647) C v1 oCl12 rfl (by decide) flX12_173 rfl rfl (ev1) rfl rfl (oDec_at oX12_ruleTold 14 rfl) (fun _ _ => ?_)
      refine r_if_ne C 36 (oDec_at oX12_ruleTold 15 rfl) (by decide) (fun cd9 => ?_) (fun cd9 => ?_)
      · omega
      · skip
        refine r_aload_n C (j := 0) (oDec_at oX12_ruleTold 16 rfl) rfl rfl ?_
        refine r_iconst C (oDec_at oX12_ruleTold 17 rfl) (v := k0) (by rw [qk0]; rfl) ?_
        have lk10 : ((s).1 71 5).toInt = v1.toInt := congrArg Int32.toInt (ev1)
        have lk11 : ((s).1 71 5).toInt = v1.toInt := congrArg Int32.toInt (ev1)
        refine r_callVv C oCl12 rfl miX12_testTold mlX12_337 (ct_X12_testTold l E (s) k0 hp0 (by omega) (by omega) (by omega) (by omega) (by omega) (by omega)) (by decide) rfl rfl rfl (Nat.le_of_ble_eq_true rfl) (oDec_at oX12_ruleTold 18 rfl) (fun u12 pu12 fu12 => ?_)
        try dsimp only at pu12
        try simp only [lk10, lk11] at pu12
        obtain ⟨pu12_0, pu12_1, pu12_2, pu12_3⟩ := pu12
        refine r_ty C (fun hty => ?_)
        have hty_coded : (0 : Int) ≤ ((u12).1 71 45).toInt ∧ ((u12).1 71 45).toInt ≤ 1600 := hty.1 71 45
        have hty_at : (0 : Int) ≤ ((u12).1 71 2).toInt ∧ ((u12).1 71 2).toInt ≤ 1600 := hty.1 71 2
        clear hty
        exact r_vret C (oDec_at oX12_ruleTold 19 rfl) ⟨rfl, ⟨pu12_0, by omega, by omega, by omega⟩⟩
    · skip
      refine r_aload_n C (j := 0) (oDec_at oX12_ruleTold 9 rfl) rfl rfl ?_
      refine r_iconst C (oDec_at oX12_ruleTold 10 rfl) (v := k5) (by rw [qk5]; rfl) ?_
      refine r_iload_n C (j := 1) (oDec_at oX12_ruleTold 11 rfl) rfl rfl ?_
      have lk14 : ((s).1 71 5).toInt = v1.toInt := congrArg Int32.toInt (ev1)
      have lk15 : ((s).1 71 5).toInt = v1.toInt := congrArg Int32.toInt (ev1)
      refine r_callVv C oCl12 rfl miX12_fail mlX12_203 (ct_X12_fail l E (s) k5 a1 ) (by decide) rfl rfl rfl (Nat.le_of_ble_eq_true rfl) (oDec_at oX12_ruleTold 12 rfl) (fun u16 pu16 fu16 => ?_)
      try dsimp only at pu16
      try simp only [lk14, lk15] at pu16
      obtain ⟨pu16_0, pu16_1⟩ := pu16
      refine r_aload_n C (j := 0) (oDec_at oX12_ruleTold 13 rfl) rfl rfl ?_
      obtain ⟨v18, ev18⟩ : ∃ z : Int32, (u16).1 71 5 = z := ⟨_, rfl⟩
      have gv18 : (u16.1 71 5).toInt = v18.toInt := congrArg Int32.toInt (ev18)
      have rv18 := n_rng v18
      refine r_geti (k := 5) (lo := (-2147483648)) (hi := 2147483647) C v18 oCl12 rfl (by decide) flX12_173 rfl rfl (ev18) rfl rfl (oDec_at oX12_ruleTold 14 rfl) (fun _ _ => ?_)
      refine r_pc C 28 rfl ?_
      refine r_if_ne C 36 (oDec_at oX12_ruleTold 15 rfl) (by decide) (fun cd19 => ?_) (fun cd19 => ?_)
      · skip
        have lk20 : ((u16).1 71 5).toInt = v18.toInt := congrArg Int32.toInt (ev18)
        have lk21 : ((u16).1 71 45).toInt = (s.1 71 45).toInt := congrArg Int32.toInt ((fu16 71 45 rfl).1)
        have lk22 : ((u16).1 71 2).toInt = (s.1 71 2).toInt := congrArg Int32.toInt ((fu16 71 2 rfl).1)
        refine r_ty C (fun hty => ?_)
        have hty_coded : (0 : Int) ≤ ((u16).1 71 45).toInt ∧ ((u16).1 71 45).toInt ≤ 1600 := hty.1 71 45
        have hty_at : (0 : Int) ≤ ((u16).1 71 2).toInt ∧ ((u16).1 71 2).toInt ≤ 1600 := hty.1 71 2
        clear hty
        have lk23 : ((u16).1 71 5).toInt = v18.toInt := congrArg Int32.toInt (ev18)
        have lk24 : ((u16).1 71 45).toInt = (s.1 71 45).toInt := congrArg Int32.toInt ((fu16 71 45 rfl).1)
        have lk25 : ((u16).1 71 2).toInt = (s.1 71 2).toInt := congrArg Int32.toInt ((fu16 71 2 rfl).1)
        have lc26 : ((u16).1 104 3).toInt = (s.1 104 3).toInt := congrArg Int32.toInt ((fu16 104 3 rfl).1)
        have lk27 : ((u16).1 71 2).toInt = (s.1 71 2).toInt := congrArg Int32.toInt ((fu16 71 2 rfl).1)
        exact r_vret C (oDec_at oX12_ruleTold 19 rfl) ⟨rfl, ⟨(oBB_frb fu16 rfl (by omega) hp0), by omega, by omega, by omega⟩⟩
      · skip
        refine r_aload_n C (j := 0) (oDec_at oX12_ruleTold 16 rfl) rfl rfl ?_
        refine r_iconst C (oDec_at oX12_ruleTold 17 rfl) (v := k0) (by rw [qk0]; rfl) ?_
        have lk28 : ((u16).1 71 5).toInt = v18.toInt := congrArg Int32.toInt (ev18)
        have lk29 : ((u16).1 71 45).toInt = (s.1 71 45).toInt := congrArg Int32.toInt ((fu16 71 45 rfl).1)
        have lk30 : ((u16).1 71 2).toInt = (s.1 71 2).toInt := congrArg Int32.toInt ((fu16 71 2 rfl).1)
        have lk31 : ((u16).1 71 5).toInt = v18.toInt := congrArg Int32.toInt (ev18)
        have lk32 : ((u16).1 71 2).toInt = (s.1 71 2).toInt := congrArg Int32.toInt ((fu16 71 2 rfl).1)
        have lc33 : ((u16).1 104 2).toInt = (s.1 104 2).toInt := congrArg Int32.toInt ((fu16 104 2 rfl).1)
        have lc34 : ((u16).1 104 3).toInt = (s.1 104 3).toInt := congrArg Int32.toInt ((fu16 104 3 rfl).1)
        have lc35 : ((u16).1 104 3).toInt = (s.1 104 3).toInt := congrArg Int32.toInt ((fu16 104 3 rfl).1)
        refine r_callVv C oCl12 rfl miX12_testTold mlX12_337 (ct_X12_testTold l E (u16) k0 (oBB_frb fu16 rfl (by omega) hp0) (by omega) (by omega) (by omega) (by omega) (by omega) (by omega)) (by decide) rfl rfl rfl (Nat.le_of_ble_eq_true rfl) (oDec_at oX12_ruleTold 18 rfl) (fun u36 pu36 fu36 => ?_)
        try dsimp only at pu36
        try simp only [lk28, lk29, lk30, lk31, lk32] at pu36
        obtain ⟨pu36_0, pu36_1, pu36_2, pu36_3⟩ := pu36
        refine r_ty C (fun hty => ?_)
        have hty_coded : (0 : Int) ≤ ((u36).1 71 45).toInt ∧ ((u36).1 71 45).toInt ≤ 1600 := hty.1 71 45
        have hty_at : (0 : Int) ≤ ((u36).1 71 2).toInt ∧ ((u36).1 71 2).toInt ≤ 1600 := hty.1 71 2
        clear hty
        exact r_vret C (oDec_at oX12_ruleTold 19 rfl) ⟨rfl, ⟨pu36_0, by omega, by omega, by omega⟩⟩
set_option maxHeartbeats 4000000 in
set_option maxRecDepth 100000 in
theorem ct_X12_mottoTold (l : Launch) (E : oE) (s : oS) (a1 : Int32)  (hp0 : oBB s) (hp1 : (s.1 71 5).toInt = 0 → (s.1 71 45).toInt + 3 ≤ (s.1 71 2).toInt) (hp2 : (s.1 104 3).toInt ≤ 6) : oMet l 10 yX12_mottoTold cX12_mottoTold 5 none [(12, 2), (12, 4), (12, 5), (12, 6), (12, 9), (12, 36), (12, 45), (12, 47), (12, 48), (12, 55), (12, 56), (78, 9999), (79, 9999), (80, 9999), (81, 9999), (82, 9999), (83, 9999)] E s [.ref (oad E 71), .int a1] (oPv (fun u => (oBB u) ∧ ((u.1 71 5).toInt = 0 → ((u.1 71 45).toInt ≤ (u.1 71 2).toInt ∧ (s.1 71 5).toInt = 0)) ∧ ((u.1 104 3).toInt ≤ 6) ∧ ((s.1 71 2).toInt ≤ (u.1 71 2).toInt))) := by
  refine oMet.of (lv := [(0, .ref (oad E 71)), (1, .int a1)]) (by decide +kernel) (Nat.le_of_ble_eq_true rfl) rfl (fun J C hT => ?_)
  have C : oC l 10 cX12_mottoTold RX12 5 none [(12, 2), (12, 4), (12, 5), (12, 6), (12, 9), (12, 36), (12, 45), (12, 47), (12, 48), (12, 55), (12, 56), (78, 9999), (79, 9999), (80, 9999), (81, 9999), (82, 9999), (83, 9999)] E s (oPv (fun u => (oBB u) ∧ ((u.1 71 5).toInt = 0 → ((u.1 71 45).toInt ≤ (u.1 71 2).toInt ∧ (s.1 71 5).toInt = 0)) ∧ ((u.1 104 3).toInt ≤ 6) ∧ ((s.1 71 2).toInt ≤ (u.1 71 2).toInt))) J := C
  obtain ⟨k0, qk0⟩ : ∃ z : Int32, z = 0 := ⟨_, rfl⟩
  have ek0 : k0.toInt = 0 := by rw [qk0]; rfl
  obtain ⟨k1, qk1⟩ : ∃ z : Int32, z = 1 := ⟨_, rfl⟩
  have ek1 : k1.toInt = 1 := by rw [qk1]; rfl
  obtain ⟨k3, qk3⟩ : ∃ z : Int32, z = 3 := ⟨_, rfl⟩
  have ek3 : k3.toInt = 3 := by rw [qk3]; rfl
  obtain ⟨k5, qk5⟩ : ∃ z : Int32, z = 5 := ⟨_, rfl⟩
  have ek5 : k5.toInt = 5 := by rw [qk5]; rfl
  obtain ⟨k6, qk6⟩ : ∃ z : Int32, z = 6 := ⟨_, rfl⟩
  have ek6 : k6.toInt = 6 := by rw [qk6]; rfl
  have rg1 := n_rng a1
  have htz_coded : (0 : Int) ≤ (s.1 71 45).toInt ∧ (s.1 71 45).toInt ≤ 1600 := hT.1 71 45
  have htz_at : (0 : Int) ≤ (s.1 71 2).toInt ∧ (s.1 71 2).toInt ≤ 1600 := hT.1 71 2
  have key : ∀ n : Nat, (∀ (t : oS) (x2 : Int64) (x4 : Int32), (oBB t) → (0 ≤ x4.toInt ∧ x4.toInt ≤ 12) → ((t.1 104 3).toInt ≤ 5) → ((t.1 71 5).toInt = 0 → ((t.1 71 45).toInt + 3 ≤ (t.1 71 2).toInt ∧ (s.1 71 5).toInt = 0)) → ((s.1 71 2).toInt ≤ (t.1 71 2).toInt) → 20 - x4.toInt ≤ (n : Int) → J t 40 [(0, .ref (oad E 71)), (2, .long x2), (4, .int x4)] []) := by
    intro n
    induction n using Nat.strongRecOn with
    | _ n ih =>
      skip
      · intro t x2 x4  iv0 iv1 iv2 iv3 iv4 hmu
        have rx4 := n_rng x4
        refine r_ty C (fun hty => ?_)
        have hmC : ∀ i : Nat, (0 : Int) ≤ ((t).1 104 i).toInt ∧ ((t).1 104 i).toInt ≤ 12 := fun i => hty.1 104 i
        have hmC2 := hmC 2
        have hmC3 := hmC 3
        clear hty
        refine r_iload C (j := 2) (oDec_at oX12_mottoTold 22 rfl) rfl ?_
        refine r_aload_n C (j := 0) (oDec_at oX12_mottoTold 23 rfl) rfl rfl ?_
        refine r_getF (k := 49) (b := 104) C oCl12 rfl (by decide) flX12_114 rfl rfl rfl (oDec_at oX12_mottoTold 24 rfl) ?_
        refine r_iconst C (oDec_at oX12_mottoTold 25 rfl) (v := k3) (by rw [qk3]; rfl) ?_
        obtain ⟨v2, ev2⟩ : ∃ z : Int32, (t).1 104 k3.toNatClampNeg = z := ⟨_, rfl⟩
        have gv2 : (t.1 104 k3.toNatClampNeg).toInt = v2.toInt := congrArg Int32.toInt (ev2)
        refine r_iald (n := 4) (lo := 0) (hi := 12) C v2 rfl (by decide) rfl rfl ⟨by omega, by omega⟩ (by decide) ev2 rfl rfl (oDec_at oX12_mottoTold 26 rfl) (fun b1 b1h => ?_)
        have hix := oIxM (i := k3) ev2
        refine r_icmp_ge C 88 (oDec_at oX12_mottoTold 27 rfl) (by decide) (fun cd3 => ?_) (fun cd3 => ?_)
        · skip
          refine r_aload_n C (j := 0) (oDec_at oX12_mottoTold 47 rfl) rfl rfl ?_
          refine r_getF (k := 52) (b := 107) C oCl12 rfl (by decide) flX12_123 rfl rfl rfl (oDec_at oX12_mottoTold 48 rfl) ?_
          refine r_bipush C (oDec_at oX12_mottoTold 49 rfl) (v := k6) (by rw [qk6]; rfl) ?_
          refine r_aload_n C (j := 0) (oDec_at oX12_mottoTold 50 rfl) rfl rfl ?_
          refine r_getF (k := 49) (b := 104) C oCl12 rfl (by decide) flX12_114 rfl rfl rfl (oDec_at oX12_mottoTold 51 rfl) ?_
          refine r_iconst C (oDec_at oX12_mottoTold 52 rfl) (v := k3) (by rw [qk3]; rfl) ?_
          refine r_pc C 99 rfl ?_
          refine r_iald (n := 4) (lo := 0) (hi := 12) C v2 rfl (by decide) rfl rfl ⟨by omega, by omega⟩ (by decide) (ev2) rfl rfl (oDec_at oX12_mottoTold 53 rfl) (fun b4 b4h => ?_)
          have hix := oIxM (i := k3) ev2
          obtain ⟨v5, ev5⟩ : ∃ z : Int32, z = k6 + v2 := ⟨_, rfl⟩
          have hv5 : v5.toInt = k6.toInt + v2.toInt := n_add ev5 (by omega) (by omega)
          refine r_iadd C v5 (oDec_at oX12_mottoTold 54 rfl) ev5 ?_
          refine r_lload_n C (j := 1) (oDec_at oX12_mottoTold 55 rfl) rfl rfl ?_
          refine r_last (n := 12) C rfl (by decide) rfl rfl ⟨by omega, by omega⟩ (by decide) rfl (oDec_at oX12_mottoTold 56 rfl) ?_
          refine r_aload_n C (j := 0) (oDec_at oX12_mottoTold 57 rfl) rfl rfl ?_
          obtain ⟨v6, ev6⟩ : ∃ z : Int32, ((pL t 107 v5.toNatClampNeg x2)).1 71 5 = z := ⟨_, rfl⟩
          have gv6 : (t.1 71 5).toInt = v6.toInt := congrArg Int32.toInt (((show ((pL t 107 v5.toNatClampNeg x2)).1 71 5 = t.1 71 5 from rfl)).symm.trans ev6)
          have ggv6 : (((pL t 107 v5.toNatClampNeg x2)).1 71 5).toInt = v6.toInt := congrArg Int32.toInt ev6
          have rv6 := n_rng v6
          refine r_geti (k := 5) (lo := (-2147483648)) (hi := 2147483647) C v6 oCl12 rfl (by decide) flX12_173 rfl rfl (ev6) rfl rfl (oDec_at oX12_mottoTold 58 rfl) (fun _ _ => ?_)
          refine r_pc C 107 rfl ?_
          refine r_if_ne C 115 (oDec_at oX12_mottoTold 59 rfl) (by decide) (fun cd7 => ?_) (fun cd7 => ?_)
          · skip
            have lk8 : (((pL t 107 v5.toNatClampNeg x2)).1 71 5).toInt = v6.toInt := congrArg Int32.toInt (ev6)
            have lk9 : (((pL t 107 v5.toNatClampNeg x2)).1 71 45).toInt = (t.1 71 45).toInt := congrArg Int32.toInt ((show ((pL t 107 v5.toNatClampNeg x2)).1 71 45 = t.1 71 45 from rfl))
            have lk10 : (((pL t 107 v5.toNatClampNeg x2)).1 71 2).toInt = (t.1 71 2).toInt := congrArg Int32.toInt ((show ((pL t 107 v5.toNatClampNeg x2)).1 71 2 = t.1 71 2 from rfl))
            refine r_ty C (fun hty => ?_)
            have hty_coded : (0 : Int) ≤ (((pL t 107 v5.toNatClampNeg x2)).1 71 45).toInt ∧ (((pL t 107 v5.toNatClampNeg x2)).1 71 45).toInt ≤ 1600 := hty.1 71 45
            have hty_at : (0 : Int) ≤ (((pL t 107 v5.toNatClampNeg x2)).1 71 2).toInt ∧ (((pL t 107 v5.toNatClampNeg x2)).1 71 2).toInt ≤ 1600 := hty.1 71 2
            clear hty
            have lk11 : (((pL t 107 v5.toNatClampNeg x2)).1 71 5).toInt = v6.toInt := congrArg Int32.toInt (ev6)
            have lk12 : (((pL t 107 v5.toNatClampNeg x2)).1 71 45).toInt = (t.1 71 45).toInt := congrArg Int32.toInt ((show ((pL t 107 v5.toNatClampNeg x2)).1 71 45 = t.1 71 45 from rfl))
            have lk13 : (((pL t 107 v5.toNatClampNeg x2)).1 71 2).toInt = (t.1 71 2).toInt := congrArg Int32.toInt ((show ((pL t 107 v5.toNatClampNeg x2)).1 71 2 = t.1 71 2 from rfl))
            have lc14 : (((pL t 107 v5.toNatClampNeg x2)).1 104 3).toInt = (t.1 104 3).toInt := congrArg Int32.toInt ((show ((pL t 107 v5.toNatClampNeg x2)).1 104 3 = t.1 104 3 from rfl))
            have lk15 : (((pL t 107 v5.toNatClampNeg x2)).1 71 2).toInt = (t.1 71 2).toInt := congrArg Int32.toInt ((show ((pL t 107 v5.toNatClampNeg x2)).1 71 2 = t.1 71 2 from rfl))
            exact r_vret C (oDec_at oX12_mottoTold 63 rfl) ⟨rfl, ⟨(oBB_fr (oFr_oneL (q := 83) (m := 9999) rfl (by rfl)) rfl iv0), by omega, by omega, by omega⟩⟩
          · skip
            refine r_aload_n C (j := 0) (oDec_at oX12_mottoTold 60 rfl) rfl rfl ?_
            refine r_iconst C (oDec_at oX12_mottoTold 61 rfl) (v := k1) (by rw [qk1]; rfl) ?_
            have lk16 : (((pL t 107 v5.toNatClampNeg x2)).1 71 5).toInt = v6.toInt := congrArg Int32.toInt (ev6)
            have lk17 : (((pL t 107 v5.toNatClampNeg x2)).1 71 45).toInt = (t.1 71 45).toInt := congrArg Int32.toInt ((show ((pL t 107 v5.toNatClampNeg x2)).1 71 45 = t.1 71 45 from rfl))
            have lk18 : (((pL t 107 v5.toNatClampNeg x2)).1 71 2).toInt = (t.1 71 2).toInt := congrArg Int32.toInt ((show ((pL t 107 v5.toNatClampNeg x2)).1 71 2 = t.1 71 2 from rfl))
            have lk19 : (((pL t 107 v5.toNatClampNeg x2)).1 71 5).toInt = v6.toInt := congrArg Int32.toInt (ev6)
            have lk20 : (((pL t 107 v5.toNatClampNeg x2)).1 71 2).toInt = (t.1 71 2).toInt := congrArg Int32.toInt ((show ((pL t 107 v5.toNatClampNeg x2)).1 71 2 = t.1 71 2 from rfl))
            have lc21 : (((pL t 107 v5.toNatClampNeg x2)).1 104 2).toInt = (t.1 104 2).toInt := congrArg Int32.toInt ((show ((pL t 107 v5.toNatClampNeg x2)).1 104 2 = t.1 104 2 from rfl))
            have lc22 : (((pL t 107 v5.toNatClampNeg x2)).1 104 3).toInt = (t.1 104 3).toInt := congrArg Int32.toInt ((show ((pL t 107 v5.toNatClampNeg x2)).1 104 3 = t.1 104 3 from rfl))
            have lc23 : (((pL t 107 v5.toNatClampNeg x2)).1 104 3).toInt = (t.1 104 3).toInt := congrArg Int32.toInt ((show ((pL t 107 v5.toNatClampNeg x2)).1 104 3 = t.1 104 3 from rfl))
            refine r_callVv C oCl12 rfl miX12_testTold mlX12_337 (ct_X12_testTold l E ((pL t 107 v5.toNatClampNeg x2)) k1 (oBB_fr (oFr_oneL (q := 83) (m := 9999) rfl (by rfl)) rfl iv0) (by omega) (by omega) (by omega) (by omega) (by omega) (by omega)) (by decide) rfl rfl rfl (Nat.le_of_ble_eq_true rfl) (oDec_at oX12_mottoTold 62 rfl) (fun u24 pu24 fu24 => ?_)
            try dsimp only at pu24
            try simp only [lk16, lk17, lk18, lk19, lk20] at pu24
            obtain ⟨pu24_0, pu24_1, pu24_2, pu24_3⟩ := pu24
            refine r_ty C (fun hty => ?_)
            have hty_coded : (0 : Int) ≤ ((u24).1 71 45).toInt ∧ ((u24).1 71 45).toInt ≤ 1600 := hty.1 71 45
            have hty_at : (0 : Int) ≤ ((u24).1 71 2).toInt ∧ ((u24).1 71 2).toInt ≤ 1600 := hty.1 71 2
            clear hty
            exact r_vret C (oDec_at oX12_mottoTold 63 rfl) ⟨rfl, ⟨pu24_0, by omega, by omega, by omega⟩⟩
        · skip
          refine r_aload_n C (j := 0) (oDec_at oX12_mottoTold 28 rfl) rfl rfl ?_
          obtain ⟨v26, ev26⟩ : ∃ z : Int32, (t).1 71 5 = z := ⟨_, rfl⟩
          have gv26 : (t.1 71 5).toInt = v26.toInt := congrArg Int32.toInt (ev26)
          have rv26 := n_rng v26
          refine r_geti (k := 5) (lo := (-2147483648)) (hi := 2147483647) C v26 oCl12 rfl (by decide) flX12_173 rfl rfl (ev26) rfl rfl (oDec_at oX12_mottoTold 29 rfl) (fun _ _ => ?_)
          refine r_if_ne C 82 (oDec_at oX12_mottoTold 30 rfl) (by decide) (fun cd27 => ?_) (fun cd27 => ?_)
          · skip
            obtain ⟨v28, ev28⟩ : ∃ z : Int32, x4 + Int32.ofInt 1 = z := ⟨_, rfl⟩
            have hv28 : v28.toInt = x4.toInt + 1 := n_inc ev28 (by decide) (by omega) (by omega)
            refine r_iinc C (j := 2) (lv' := [(0, .ref (oad E 71)), (2, .long x2), (4, .int v28)]) v28 [1, 2, 0] (oDec_at oX12_mottoTold 45 rfl) rfl ev28 (by decide) rfl ?_
            refine r_goto C (tgt := 40) (oDec_at oX12_mottoTold 46 rfl) (by decide) ?_
            have lk29 : ((t).1 71 5).toInt = v26.toInt := congrArg Int32.toInt (ev26)
            exact (ih (n - 1) (by omega)) (t) x2 v28  iv0 (by omega) (by omega) (by omega) (by omega) (by omega)
          · skip
            refine r_aload_n C (j := 0) (oDec_at oX12_mottoTold 31 rfl) rfl rfl ?_
            refine r_getF (k := 52) (b := 107) C oCl12 rfl (by decide) flX12_123 rfl rfl rfl (oDec_at oX12_mottoTold 32 rfl) ?_
            refine r_bipush C (oDec_at oX12_mottoTold 33 rfl) (v := k6) (by rw [qk6]; rfl) ?_
            refine r_iload C (j := 2) (oDec_at oX12_mottoTold 34 rfl) rfl ?_
            obtain ⟨v30, ev30⟩ : ∃ z : Int32, z = k6 + x4 := ⟨_, rfl⟩
            have hv30 : v30.toInt = k6.toInt + x4.toInt := n_add ev30 (by omega) (by omega)
            refine r_iadd C v30 (oDec_at oX12_mottoTold 35 rfl) ev30 ?_
            obtain ⟨v31, ev31⟩ : ∃ z : Int64, (t).2.1 107 v30.toNatClampNeg = z := ⟨_, rfl⟩
            refine r_lald (n := 12) C v31 rfl (by decide) rfl rfl ⟨by omega, by omega⟩ (by decide) ev31 (oDec_at oX12_mottoTold 36 rfl) ?_
            refine r_pc C 68 rfl ?_
            refine r_lload_n C (j := 1) (oDec_at oX12_mottoTold 37 rfl) rfl rfl ?_
            obtain ⟨v32, ev32⟩ : ∃ z : Int32, z = lg_cmp v31 x2 := ⟨_, rfl⟩
            have hv32 := n_lcmp ev32
            refine r_lcmp C v32 (oDec_at oX12_mottoTold 38 rfl) ev32 ?_
            refine r_if_ne C 82 (oDec_at oX12_mottoTold 39 rfl) (by decide) (fun cd33 => ?_) (fun cd33 => ?_)
            · skip
              obtain ⟨v34, ev34⟩ : ∃ z : Int32, x4 + Int32.ofInt 1 = z := ⟨_, rfl⟩
              have hv34 : v34.toInt = x4.toInt + 1 := n_inc ev34 (by decide) (by omega) (by omega)
              refine r_iinc C (j := 2) (lv' := [(0, .ref (oad E 71)), (2, .long x2), (4, .int v34)]) v34 [1, 2, 0] (oDec_at oX12_mottoTold 45 rfl) rfl ev34 (by decide) rfl ?_
              refine r_goto C (tgt := 40) (oDec_at oX12_mottoTold 46 rfl) (by decide) ?_
              have lk35 : ((t).1 71 5).toInt = v26.toInt := congrArg Int32.toInt (ev26)
              exact (ih (n - 1) (by omega)) (t) x2 v34  iv0 (by omega) (by omega) (by omega) (by omega) (by omega)
            · skip
              refine r_aload_n C (j := 0) (oDec_at oX12_mottoTold 40 rfl) rfl rfl ?_
              refine r_iconst C (oDec_at oX12_mottoTold 41 rfl) (v := k3) (by rw [qk3]; rfl) ?_
              refine r_aload_n C (j := 0) (oDec_at oX12_mottoTold 42 rfl) rfl rfl ?_
              obtain ⟨v36, ev36⟩ : ∃ z : Int32, (t).1 71 36 = z := ⟨_, rfl⟩
              have gv36 : (t.1 71 36).toInt = v36.toInt := congrArg Int32.toInt (ev36)
              have rv36 := n_rng v36
              refine r_geti (k := 36) (lo := (-2147483648)) (hi := 2147483647) C v36 oCl12 rfl (by decide) flX12_224 rfl rfl (ev36) rfl rfl (oDec_at oX12_mottoTold 43 rfl) (fun _ _ => ?_)
              have lk37 : ((t).1 71 5).toInt = v26.toInt := congrArg Int32.toInt (ev26)
              have lk38 : ((t).1 71 5).toInt = v26.toInt := congrArg Int32.toInt (ev26)
              refine r_callVv C oCl12 rfl miX12_fail mlX12_203 (ct_X12_fail l E (t) k3 v36 ) (by decide) rfl rfl rfl (Nat.le_of_ble_eq_true rfl) (oDec_at oX12_mottoTold 44 rfl) (fun u39 pu39 fu39 => ?_)
              try dsimp only at pu39
              try simp only [lk37, lk38] at pu39
              obtain ⟨pu39_0, pu39_1⟩ := pu39
              obtain ⟨v41, ev41⟩ : ∃ z : Int32, x4 + Int32.ofInt 1 = z := ⟨_, rfl⟩
              have hv41 : v41.toInt = x4.toInt + 1 := n_inc ev41 (by decide) (by omega) (by omega)
              refine r_iinc C (j := 2) (lv' := [(0, .ref (oad E 71)), (2, .long x2), (4, .int v41)]) v41 [1, 2, 0] (oDec_at oX12_mottoTold 45 rfl) rfl ev41 (by decide) rfl ?_
              refine r_pc C 85 rfl ?_
              refine r_goto C (tgt := 40) (oDec_at oX12_mottoTold 46 rfl) (by decide) ?_
              have lc42 : ((u39).1 104 3).toInt = (t.1 104 3).toInt := congrArg Int32.toInt ((fu39 104 3 rfl).1)
              have lk43 : ((u39).1 71 45).toInt = (t.1 71 45).toInt := congrArg Int32.toInt ((fu39 71 45 rfl).1)
              have lk44 : ((u39).1 71 2).toInt = (t.1 71 2).toInt := congrArg Int32.toInt ((fu39 71 2 rfl).1)
              have lk45 : ((u39).1 71 2).toInt = (t.1 71 2).toInt := congrArg Int32.toInt ((fu39 71 2 rfl).1)
              exact (ih (n - 1) (by omega)) (u39) x2 v41  (oBB_frb fu39 rfl (by omega) iv0) (by omega) (by omega) (by omega) (by omega) (by omega)
  refine r_aload_n C (j := 0) (oDec_at oX12_mottoTold 0 rfl) rfl rfl ?_
  obtain ⟨v46, ev46⟩ : ∃ z : Int32, (s).1 71 5 = z := ⟨_, rfl⟩
  have gv46 : (s.1 71 5).toInt = v46.toInt := congrArg Int32.toInt (ev46)
  have rv46 := n_rng v46
  refine r_geti (k := 5) (lo := (-2147483648)) (hi := 2147483647) C v46 oCl12 rfl (by decide) flX12_173 rfl rfl (ev46) rfl rfl (oDec_at oX12_mottoTold 1 rfl) (fun _ _ => ?_)
  refine r_if_ne C 24 (oDec_at oX12_mottoTold 2 rfl) (by decide) (fun cd47 => ?_) (fun cd47 => ?_)
  · skip
    refine r_aload_n C (j := 0) (oDec_at oX12_mottoTold 13 rfl) rfl rfl ?_
    refine r_geti (k := 5) (lo := (-2147483648)) (hi := 2147483647) C v46 oCl12 rfl (by decide) flX12_173 rfl rfl (ev46) rfl rfl (oDec_at oX12_mottoTold 14 rfl) (fun _ _ => ?_)
    refine r_if_eq C 32 (oDec_at oX12_mottoTold 15 rfl) (by decide) (fun cd48 => ?_) (fun cd48 => ?_)
    · omega
    · skip
      have lk49 : ((s).1 71 5).toInt = v46.toInt := congrArg Int32.toInt (ev46)
      exact r_vret C (oDec_at oX12_mottoTold 16 rfl) ⟨rfl, ⟨hp0, by omega, by omega, by omega⟩⟩
  · skip
    refine r_aload_n C (j := 0) (oDec_at oX12_mottoTold 3 rfl) rfl rfl ?_
    refine r_getF (k := 49) (b := 104) C oCl12 rfl (by decide) flX12_114 rfl rfl rfl (oDec_at oX12_mottoTold 4 rfl) ?_
    refine r_iconst C (oDec_at oX12_mottoTold 5 rfl) (v := k3) (by rw [qk3]; rfl) ?_
    obtain ⟨v51, ev51⟩ : ∃ z : Int32, (s).1 104 k3.toNatClampNeg = z := ⟨_, rfl⟩
    have gv51 : (s.1 104 k3.toNatClampNeg).toInt = v51.toInt := congrArg Int32.toInt (ev51)
    refine r_iald (n := 4) (lo := 0) (hi := 12) C v51 rfl (by decide) rfl rfl ⟨by omega, by omega⟩ (by decide) ev51 rfl rfl (oDec_at oX12_mottoTold 6 rfl) (fun b50 b50h => ?_)
    have hix := oIxM (i := k3) ev51
    refine r_bipush C (oDec_at oX12_mottoTold 7 rfl) (v := k6) (by rw [qk6]; rfl) ?_
    refine r_icmp_ne C 24 (oDec_at oX12_mottoTold 8 rfl) (by decide) (fun cd52 => ?_) (fun cd52 => ?_)
    · skip
      refine r_aload_n C (j := 0) (oDec_at oX12_mottoTold 13 rfl) rfl rfl ?_
      refine r_geti (k := 5) (lo := (-2147483648)) (hi := 2147483647) C v46 oCl12 rfl (by decide) flX12_173 rfl rfl (ev46) rfl rfl (oDec_at oX12_mottoTold 14 rfl) (fun _ _ => ?_)
      refine r_if_eq C 32 (oDec_at oX12_mottoTold 15 rfl) (by decide) (fun cd53 => ?_) (fun cd53 => ?_)
      · skip
        refine r_aload_n C (j := 0) (oDec_at oX12_mottoTold 17 rfl) rfl rfl ?_
        have lk54 : ((s).1 71 5).toInt = v46.toInt := congrArg Int32.toInt (ev46)
        have lk55 : ((s).1 71 5).toInt = v46.toInt := congrArg Int32.toInt (ev46)
        refine r_callVl C oCl12 rfl miX12_name mlX12_340 (ct_X12_name l E (s)  ) (by decide) rfl rfl rfl (Nat.le_of_ble_eq_true rfl) (oDec_at oX12_mottoTold 18 rfl) (fun r57 u56 pu56 fu56 => ?_)
        try dsimp only at pu56
        try simp only [lk54, lk55] at pu56
        obtain ⟨pu56_0, pu56_1, pu56_2⟩ := pu56
        refine r_lstore_n C (lv' := [(0, .ref (oad E 71)), (1, .int a1), (2, .long r57)]) [1, 2, 0] (oDec_at oX12_mottoTold 19 rfl) rfl (by decide) rfl ?_
        refine r_iconst C (oDec_at oX12_mottoTold 20 rfl) (v := k0) (by rw [qk0]; rfl) ?_
        refine r_istore C (lv' := [(0, .ref (oad E 71)), (1, .int a1), (2, .long r57), (4, .int k0)]) [1, 2, 3, 0] (oDec_at oX12_mottoTold 21 rfl) (by decide) rfl ?_
        have lc58 : ((u56).1 104 3).toInt = (s.1 104 3).toInt := congrArg Int32.toInt ((fu56 104 3 rfl).1)
        have lk59 : ((u56).1 71 45).toInt = (s.1 71 45).toInt := congrArg Int32.toInt ((fu56 71 45 rfl).1)
        refine r_pick C [0, 2, 3] rfl ?_
        exact (key (20 - k0.toInt).toNat) (u56) r57 k0  (oBB_frb fu56 rfl (by omega) hp0) (by omega) (by omega) (by omega) (by omega) (by omega)
      · omega
    · skip
      refine r_aload_n C (j := 0) (oDec_at oX12_mottoTold 9 rfl) rfl rfl ?_
      refine r_iconst C (oDec_at oX12_mottoTold 10 rfl) (v := k5) (by rw [qk5]; rfl) ?_
      refine r_iload_n C (j := 1) (oDec_at oX12_mottoTold 11 rfl) rfl rfl ?_
      have lk60 : ((s).1 71 5).toInt = v46.toInt := congrArg Int32.toInt (ev46)
      have lk61 : ((s).1 71 5).toInt = v46.toInt := congrArg Int32.toInt (ev46)
      refine r_callVv C oCl12 rfl miX12_fail mlX12_203 (ct_X12_fail l E (s) k5 a1 ) (by decide) rfl rfl rfl (Nat.le_of_ble_eq_true rfl) (oDec_at oX12_mottoTold 12 rfl) (fun u62 pu62 fu62 => ?_)
      try dsimp only at pu62
      try simp only [lk60, lk61] at pu62
      obtain ⟨pu62_0, pu62_1⟩ := pu62
      refine r_aload_n C (j := 0) (oDec_at oX12_mottoTold 13 rfl) rfl rfl ?_
      obtain ⟨v64, ev64⟩ : ∃ z : Int32, (u62).1 71 5 = z := ⟨_, rfl⟩
      have gv64 : (u62.1 71 5).toInt = v64.toInt := congrArg Int32.toInt (ev64)
      have rv64 := n_rng v64
      refine r_geti (k := 5) (lo := (-2147483648)) (hi := 2147483647) C v64 oCl12 rfl (by decide) flX12_173 rfl rfl (ev64) rfl rfl (oDec_at oX12_mottoTold 14 rfl) (fun _ _ => ?_)
      refine r_pc C 28 rfl ?_
      refine r_if_eq C 32 (oDec_at oX12_mottoTold 15 rfl) (by decide) (fun cd65 => ?_) (fun cd65 => ?_)
      · skip
        refine r_aload_n C (j := 0) (oDec_at oX12_mottoTold 17 rfl) rfl rfl ?_
        have lk66 : ((u62).1 71 2).toInt = (s.1 71 2).toInt := congrArg Int32.toInt ((fu62 71 2 rfl).1)
        have lk67 : ((u62).1 71 5).toInt = v64.toInt := congrArg Int32.toInt (ev64)
        have lk68 : ((u62).1 71 5).toInt = v64.toInt := congrArg Int32.toInt (ev64)
        refine r_callVl C oCl12 rfl miX12_name mlX12_340 (ct_X12_name l E (u62)  ) (by decide) rfl rfl rfl (Nat.le_of_ble_eq_true rfl) (oDec_at oX12_mottoTold 18 rfl) (fun r70 u69 pu69 fu69 => ?_)
        try dsimp only at pu69
        try simp only [lk66, lk67, lk68] at pu69
        obtain ⟨pu69_0, pu69_1, pu69_2⟩ := pu69
        refine r_lstore_n C (lv' := [(0, .ref (oad E 71)), (1, .int a1), (2, .long r70)]) [1, 2, 0] (oDec_at oX12_mottoTold 19 rfl) rfl (by decide) rfl ?_
        refine r_iconst C (oDec_at oX12_mottoTold 20 rfl) (v := k0) (by rw [qk0]; rfl) ?_
        refine r_istore C (lv' := [(0, .ref (oad E 71)), (1, .int a1), (2, .long r70), (4, .int k0)]) [1, 2, 3, 0] (oDec_at oX12_mottoTold 21 rfl) (by decide) rfl ?_
        have lc71 : ((u69).1 104 3).toInt = (s.1 104 3).toInt := congrArg Int32.toInt (((fu69 104 3 rfl).1).trans ((fu62 104 3 rfl).1))
        have lk72 : ((u69).1 71 45).toInt = (s.1 71 45).toInt := congrArg Int32.toInt (((fu69 71 45 rfl).1).trans ((fu62 71 45 rfl).1))
        refine r_pick C [0, 2, 3] rfl ?_
        exact (key (20 - k0.toInt).toNat) (u69) r70 k0  (oBB_frb fu69 rfl (by omega) (oBB_frb fu62 rfl (by omega) hp0)) (by omega) (by omega) (by omega) (by omega) (by omega)
      · skip
        have lk73 : ((u62).1 71 5).toInt = v64.toInt := congrArg Int32.toInt (ev64)
        have lk74 : ((u62).1 71 45).toInt = (s.1 71 45).toInt := congrArg Int32.toInt ((fu62 71 45 rfl).1)
        have lk75 : ((u62).1 71 2).toInt = (s.1 71 2).toInt := congrArg Int32.toInt ((fu62 71 2 rfl).1)
        have lc76 : ((u62).1 104 3).toInt = (s.1 104 3).toInt := congrArg Int32.toInt ((fu62 104 3 rfl).1)
        have lk77 : ((u62).1 71 2).toInt = (s.1 71 2).toInt := congrArg Int32.toInt ((fu62 71 2 rfl).1)
        exact r_vret C (oDec_at oX12_mottoTold 16 rfl) ⟨rfl, ⟨(oBB_frb fu62 rfl (by omega) hp0), by omega, by omega, by omega⟩⟩
set_option maxHeartbeats 4000000 in
set_option maxRecDepth 100000 in
theorem ct_X12_bookTold (l : Launch) (E : oE) (s : oS)   (hp0 : oBB s) (hp1 : (s.1 71 5).toInt = 0) (hp2 : (s.1 71 45).toInt ≤ (s.1 71 2).toInt) (hp3 : (s.1 104 3).toInt ≤ 6) (hp4 : (s.1 71 5).toInt = 0 → (2 ≤ (s.1 71 54).toInt ∧ (s.1 71 54).toInt ≤ 12)) : oMet l 11 yX12_bookTold cX12_bookTold 2 none [(12, 2), (12, 4), (12, 5), (12, 6), (12, 9), (12, 36), (12, 37), (12, 45), (12, 47), (12, 48), (12, 54), (12, 55), (12, 56), (78, 9999), (79, 9999), (80, 9999), (81, 9999), (82, 9999), (83, 9999)] E s [.ref (oad E 71)] (oPv (fun u => (oBB u) ∧ ((u.1 71 5).toInt = 0 → ((u.1 71 45).toInt ≤ (u.1 71 2).toInt ∧ 2 ≤ (u.1 71 54).toInt ∧ (u.1 71 54).toInt ≤ 12 ∧ (u.1 71 37).toInt = (s.1 71 37).toInt + 1)) ∧ ((s.1 71 37).toInt ≤ (u.1 71 37).toInt) ∧ ((u.1 104 3).toInt ≤ 6))) := by
  refine oMet.of (lv := [(0, .ref (oad E 71))]) (by decide +kernel) (Nat.le_of_ble_eq_true rfl) rfl (fun J C hT => ?_)
  have C : oC l 11 cX12_bookTold RX12 2 none [(12, 2), (12, 4), (12, 5), (12, 6), (12, 9), (12, 36), (12, 37), (12, 45), (12, 47), (12, 48), (12, 54), (12, 55), (12, 56), (78, 9999), (79, 9999), (80, 9999), (81, 9999), (82, 9999), (83, 9999)] E s (oPv (fun u => (oBB u) ∧ ((u.1 71 5).toInt = 0 → ((u.1 71 45).toInt ≤ (u.1 71 2).toInt ∧ 2 ≤ (u.1 71 54).toInt ∧ (u.1 71 54).toInt ≤ 12 ∧ (u.1 71 37).toInt = (s.1 71 37).toInt + 1)) ∧ ((s.1 71 37).toInt ≤ (u.1 71 37).toInt) ∧ ((u.1 104 3).toInt ≤ 6))) J := C
  obtain ⟨k1, qk1⟩ : ∃ z : Int32, z = 1 := ⟨_, rfl⟩
  have ek1 : k1.toInt = 1 := by rw [qk1]; rfl
  obtain ⟨k2, qk2⟩ : ∃ z : Int32, z = 2 := ⟨_, rfl⟩
  have ek2 : k2.toInt = 2 := by rw [qk2]; rfl
  obtain ⟨k5, qk5⟩ : ∃ z : Int32, z = 5 := ⟨_, rfl⟩
  have ek5 : k5.toInt = 5 := by rw [qk5]; rfl
  obtain ⟨k12, qk12⟩ : ∃ z : Int32, z = 12 := ⟨_, rfl⟩
  have ek12 : k12.toInt = 12 := by rw [qk12]; rfl
  obtain ⟨k59, qk59⟩ : ∃ z : Int32, z = 59 := ⟨_, rfl⟩
  have ek59 : k59.toInt = 59 := by rw [qk59]; rfl
  obtain ⟨k60, qk60⟩ : ∃ z : Int32, z = 60 := ⟨_, rfl⟩
  have ek60 : k60.toInt = 60 := by rw [qk60]; rfl
  have htz_coded : (0 : Int) ≤ (s.1 71 45).toInt ∧ (s.1 71 45).toInt ≤ 1600 := hT.1 71 45
  have htz_at : (0 : Int) ≤ (s.1 71 2).toInt ∧ (s.1 71 2).toInt ≤ 1600 := hT.1 71 2
  have htz_statements : (0 : Int) ≤ (s.1 71 37).toInt ∧ (s.1 71 37).toInt ≤ 60 := hT.1 71 37
  refine r_aload_n C (j := 0) (oDec_at oX12_bookTold 0 rfl) rfl rfl ?_
  obtain ⟨v1, ev1⟩ : ∃ z : Int32, (s).1 71 2 = z := ⟨_, rfl⟩
  have gv1 : (s.1 71 2).toInt = v1.toInt := congrArg Int32.toInt (ev1)
  refine r_geti (k := 2) (lo := 0) (hi := 1600) C v1 oCl12 rfl (by decide) flX12_179 rfl rfl (ev1) rfl rfl (oDec_at oX12_bookTold 1 rfl) (fun b2 b2h => ?_)
  refine r_istore_n C (lv' := [(0, .ref (oad E 71)), (1, .int v1)]) [1, 0] (oDec_at oX12_bookTold 2 rfl) rfl (by decide) rfl ?_
  refine r_aload_n C (j := 0) (oDec_at oX12_bookTold 3 rfl) rfl rfl ?_
  obtain ⟨v3, ev3⟩ : ∃ z : Int32, (s).1 71 37 = z := ⟨_, rfl⟩
  have gv3 : (s.1 71 37).toInt = v3.toInt := congrArg Int32.toInt (ev3)
  refine r_geti (k := 37) (lo := 0) (hi := 60) C v3 oCl12 rfl (by decide) flX12_231 rfl rfl (ev3) rfl rfl (oDec_at oX12_bookTold 4 rfl) (fun b4 b4h => ?_)
  refine r_bipush C (oDec_at oX12_bookTold 5 rfl) (v := k60) (by rw [qk60]; rfl) ?_
  refine r_pc C 11 rfl ?_
  refine r_icmp_ne C 21 (oDec_at oX12_bookTold 6 rfl) (by decide) (fun cd5 => ?_) (fun cd5 => ?_)
  · skip
    refine r_aload_n C (j := 0) (oDec_at oX12_bookTold 12 rfl) rfl rfl ?_
    refine r_aload_n C (j := 0) (oDec_at oX12_bookTold 13 rfl) rfl rfl ?_
    refine r_getF (k := 13) (b := 76) C oCl12 rfl (by decide) flX12_27 rfl rfl rfl (oDec_at oX12_bookTold 14 rfl) ?_
    have lk6 : ((s).1 71 2).toInt = v1.toInt := congrArg Int32.toInt (ev1)
    have lk7 : ((s).1 71 2).toInt = v1.toInt := congrArg Int32.toInt (ev1)
    refine r_callVi C oCl12 rfl miX12_takes mlX12_200 (ct_X12_takes l E (s) 76 52 7 rfl (by decide) (by decide) rfl rfl (by omega)) (by decide) rfl rfl rfl (Nat.le_of_ble_eq_true rfl) (oDec_at oX12_bookTold 15 rfl) (fun r9 u8 pu8 fu8 => ?_)
    try dsimp only at pu8
    try simp only [lk6, lk7] at pu8
    obtain ⟨pu8_0, pu8_1, pu8_2⟩ := pu8
    have rr9 := n_rng r9
    refine r_if_eq C 46 (oDec_at oX12_bookTold 16 rfl) (by decide) (fun cd10 => ?_) (fun cd10 => ?_)
    · skip
      clear pu8_2
      refine r_aload_n C (j := 0) (oDec_at oX12_bookTold 24 rfl) rfl rfl ?_
      refine r_aload_n C (j := 0) (oDec_at oX12_bookTold 25 rfl) rfl rfl ?_
      refine r_getF (k := 14) (b := 77) C oCl12 rfl (by decide) flX12_30 rfl rfl rfl (oDec_at oX12_bookTold 26 rfl) ?_
      have lk11 : ((u8).1 71 5).toInt = (s.1 71 5).toInt := congrArg Int32.toInt ((fu8 71 5 rfl).1)
      refine r_callVi C oCl12 rfl miX12_takes mlX12_200 (ct_X12_takes l E (u8) 77 53 3 rfl (by decide) (by decide) rfl rfl (by omega)) (by decide) rfl rfl rfl (Nat.le_of_ble_eq_true rfl) (oDec_at oX12_bookTold 27 rfl) (fun r13 u12 pu12 fu12 => ?_)
      try dsimp only at pu12
      try simp only [lk11] at pu12
      obtain ⟨pu12_0, pu12_1, pu12_2⟩ := pu12
      have rr13 := n_rng r13
      refine r_if_eq C 65 (oDec_at oX12_bookTold 28 rfl) (by decide) (fun cd14 => ?_) (fun cd14 => ?_)
      · skip
        clear pu12_2
        refine r_aload_n C (j := 0) (oDec_at oX12_bookTold 33 rfl) rfl rfl ?_
        refine r_aload_n C (j := 0) (oDec_at oX12_bookTold 34 rfl) rfl rfl ?_
        refine r_getF (k := 15) (b := 78) C oCl12 rfl (by decide) flX12_33 rfl rfl rfl (oDec_at oX12_bookTold 35 rfl) ?_
        have lk15 : ((u12).1 71 5).toInt = (s.1 71 5).toInt := congrArg Int32.toInt (((fu12 71 5 rfl).1).trans ((fu8 71 5 rfl).1))
        refine r_callVv C oCl12 rfl miX12_asks mlX12_240 (ct_X12_asks l E (u12) 78 54 5 rfl (by decide) (by decide) rfl rfl (by omega)) (by decide) rfl rfl rfl (Nat.le_of_ble_eq_true rfl) (oDec_at oX12_bookTold 36 rfl) (fun u16 pu16 fu16 => ?_)
        try dsimp only at pu16
        try simp only [lk15] at pu16
        obtain ⟨pu16_0, pu16_1⟩ := pu16
        refine r_aload_n C (j := 0) (oDec_at oX12_bookTold 37 rfl) rfl rfl ?_
        obtain ⟨v18, ev18⟩ : ∃ z : Int32, (u16).1 71 5 = z := ⟨_, rfl⟩
        have gv18 : (u16.1 71 5).toInt = v18.toInt := congrArg Int32.toInt (ev18)
        have rv18 := n_rng v18
        refine r_geti (k := 5) (lo := (-2147483648)) (hi := 2147483647) C v18 oCl12 rfl (by decide) flX12_173 rfl rfl (ev18) rfl rfl (oDec_at oX12_bookTold 38 rfl) (fun _ _ => ?_)
        refine r_pc C 77 rfl ?_
        refine r_if_ne C 85 (oDec_at oX12_bookTold 39 rfl) (by decide) (fun cd19 => ?_) (fun cd19 => ?_)
        · skip
          refine r_aload_n C (j := 0) (oDec_at oX12_bookTold 43 rfl) rfl rfl ?_
          refine r_bipush C (oDec_at oX12_bookTold 44 rfl) (v := k59) (by rw [qk59]; rfl) ?_
          have lk20 : ((u16).1 71 5).toInt = v18.toInt := congrArg Int32.toInt (ev18)
          refine r_callVv C oCl12 rfl miX12_asksSign mlX12_248 (ct_X12_asksSign l E (u16) k59 (by omega)) (by decide) rfl rfl rfl (Nat.le_of_ble_eq_true rfl) (oDec_at oX12_bookTold 45 rfl) (fun u21 pu21 fu21 => ?_)
          try dsimp only at pu21
          try simp only [lk20] at pu21
          obtain ⟨pu21_0, pu21_1⟩ := pu21
          refine r_aload_n C (j := 0) (oDec_at oX12_bookTold 46 rfl) rfl rfl ?_
          refine r_dup C (oDec_at oX12_bookTold 47 rfl) rfl ?_
          refine r_geti (k := 37) (lo := 0) (hi := 60) C v3 oCl12 rfl (by decide) flX12_231 rfl rfl (((fu21 71 37 rfl).1).trans (((fu16 71 37 rfl).1).trans (((fu12 71 37 rfl).1).trans (((fu8 71 37 rfl).1).trans (ev3))))) rfl rfl (oDec_at oX12_bookTold 48 rfl) (fun _ _ => ?_)
          refine r_pc C 96 rfl ?_
          refine r_iconst C (oDec_at oX12_bookTold 49 rfl) (v := k1) (by rw [qk1]; rfl) ?_
          obtain ⟨v23, ev23⟩ : ∃ z : Int32, z = v3 + k1 := ⟨_, rfl⟩
          have hv23 : v23.toInt = v3.toInt + k1.toInt := n_add ev23 (by omega) (by omega)
          refine r_iadd C v23 (oDec_at oX12_bookTold 50 rfl) ev23 ?_
          refine r_puti (k := 37) (lo := 0) (hi := 60) C oCl12 rfl (by decide) flX12_231 rfl rfl rfl rfl rfl rfl rfl rfl ⟨by omega, by omega⟩ (oDec_at oX12_bookTold 51 rfl) ?_
          have lk24 : (((pI u21 71 37 v23)).1 71 5).toInt = (u21.1 71 5).toInt := congrArg Int32.toInt ((pI_ne (a := 71) (b := 5) (c := 71) (k := 37) _ _ (Or.inr (by decide))))
          have lk25 : (((pI u21 71 37 v23)).1 71 45).toInt = (s.1 71 45).toInt := congrArg Int32.toInt (((pI_ne (a := 71) (b := 45) (c := 71) (k := 37) _ _ (Or.inr (by decide)))).trans (((fu21 71 45 rfl).1).trans (((fu16 71 45 rfl).1).trans (((fu12 71 45 rfl).1).trans ((fu8 71 45 rfl).1)))))
          have lk26 : (((pI u21 71 37 v23)).1 71 2).toInt = (u21.1 71 2).toInt := congrArg Int32.toInt ((pI_ne (a := 71) (b := 2) (c := 71) (k := 37) _ _ (Or.inr (by decide))))
          have lk27 : (((pI u21 71 37 v23)).1 71 54).toInt = (s.1 71 54).toInt := congrArg Int32.toInt (((pI_ne (a := 71) (b := 54) (c := 71) (k := 37) _ _ (Or.inr (by decide)))).trans (((fu21 71 54 rfl).1).trans (((fu16 71 54 rfl).1).trans (((fu12 71 54 rfl).1).trans ((fu8 71 54 rfl).1)))))
          have lk28 : (((pI u21 71 37 v23)).1 71 37).toInt = v23.toInt := congrArg Int32.toInt ((pI_self _ _ _ _))
          have lk29 : (((pI u21 71 37 v23)).1 71 37).toInt = v23.toInt := congrArg Int32.toInt ((pI_self _ _ _ _))
          have lc30 : (((pI u21 71 37 v23)).1 104 3).toInt = (s.1 104 3).toInt := congrArg Int32.toInt (((pI_ne (a := 104) (b := 3) (c := 71) _ _ (Or.inl (by decide)))).trans (((fu21 104 3 rfl).1).trans (((fu16 104 3 rfl).1).trans (((fu12 104 3 rfl).1).trans ((fu8 104 3 rfl).1)))))
          exact r_vret C (oDec_at oX12_bookTold 52 rfl) ⟨rfl, ⟨(oBB_fr (oFr_oneI (q := 12) (m := 37) rfl (by rfl)) rfl (oBB_frb fu21 rfl (by omega) (oBB_frb fu16 rfl (by omega) (oBB_fr fu12 rfl (oBB_fr fu8 rfl hp0))))), by omega, by omega, by omega⟩⟩
        · skip
          refine r_aload_n C (j := 0) (oDec_at oX12_bookTold 40 rfl) rfl rfl ?_
          refine r_iload_n C (j := 1) (oDec_at oX12_bookTold 41 rfl) rfl rfl ?_
          have lk31 : ((u16).1 71 5).toInt = v18.toInt := congrArg Int32.toInt (ev18)
          have lk32 : ((u16).1 71 45).toInt = (s.1 71 45).toInt := congrArg Int32.toInt (((fu16 71 45 rfl).1).trans (((fu12 71 45 rfl).1).trans ((fu8 71 45 rfl).1)))
          have lk33 : ((u16).1 71 5).toInt = v18.toInt := congrArg Int32.toInt (ev18)
          have lc34 : ((u16).1 104 3).toInt = (s.1 104 3).toInt := congrArg Int32.toInt (((fu16 104 3 rfl).1).trans (((fu12 104 3 rfl).1).trans ((fu8 104 3 rfl).1)))
          refine r_callVv C oCl12 rfl miX12_mottoTold mlX12_350 (ct_X12_mottoTold l E (u16) v1 (oBB_frb fu16 rfl (by omega) (oBB_fr fu12 rfl (oBB_fr fu8 rfl hp0))) (by omega) (by omega)) (by decide) rfl rfl rfl (Nat.le_of_ble_eq_true rfl) (oDec_at oX12_bookTold 42 rfl) (fun u35 pu35 fu35 => ?_)
          try dsimp only at pu35
          try simp only [lk31, lk32, lk33] at pu35
          obtain ⟨pu35_0, pu35_1, pu35_2, pu35_3⟩ := pu35
          refine r_aload_n C (j := 0) (oDec_at oX12_bookTold 43 rfl) rfl rfl ?_
          refine r_bipush C (oDec_at oX12_bookTold 44 rfl) (v := k59) (by rw [qk59]; rfl) ?_
          refine r_callVv C oCl12 rfl miX12_asksSign mlX12_248 (ct_X12_asksSign l E (u35) k59 (by omega)) (by decide) rfl rfl rfl (Nat.le_of_ble_eq_true rfl) (oDec_at oX12_bookTold 45 rfl) (fun u37 pu37 fu37 => ?_)
          try dsimp only at pu37
          obtain ⟨pu37_0, pu37_1⟩ := pu37
          refine r_pc C 91 rfl ?_
          refine r_aload_n C (j := 0) (oDec_at oX12_bookTold 46 rfl) rfl rfl ?_
          refine r_dup C (oDec_at oX12_bookTold 47 rfl) rfl ?_
          refine r_geti (k := 37) (lo := 0) (hi := 60) C v3 oCl12 rfl (by decide) flX12_231 rfl rfl (((fu37 71 37 rfl).1).trans (((fu35 71 37 rfl).1).trans (((fu16 71 37 rfl).1).trans (((fu12 71 37 rfl).1).trans (((fu8 71 37 rfl).1).trans (ev3)))))) rfl rfl (oDec_at oX12_bookTold 48 rfl) (fun _ _ => ?_)
          refine r_iconst C (oDec_at oX12_bookTold 49 rfl) (v := k1) (by rw [qk1]; rfl) ?_
          obtain ⟨v39, ev39⟩ : ∃ z : Int32, z = v3 + k1 := ⟨_, rfl⟩
          have hv39 : v39.toInt = v3.toInt + k1.toInt := n_add ev39 (by omega) (by omega)
          refine r_iadd C v39 (oDec_at oX12_bookTold 50 rfl) ev39 ?_
          refine r_puti (k := 37) (lo := 0) (hi := 60) C oCl12 rfl (by decide) flX12_231 rfl rfl rfl rfl rfl rfl rfl rfl ⟨by omega, by omega⟩ (oDec_at oX12_bookTold 51 rfl) ?_
          refine r_pc C 101 rfl ?_
          have lk40 : (((pI u37 71 37 v39)).1 71 5).toInt = (u37.1 71 5).toInt := congrArg Int32.toInt ((pI_ne (a := 71) (b := 5) (c := 71) (k := 37) _ _ (Or.inr (by decide))))
          have lk41 : (((pI u37 71 37 v39)).1 71 45).toInt = (u35.1 71 45).toInt := congrArg Int32.toInt (((pI_ne (a := 71) (b := 45) (c := 71) (k := 37) _ _ (Or.inr (by decide)))).trans ((fu37 71 45 rfl).1))
          have lk42 : (((pI u37 71 37 v39)).1 71 2).toInt = (u37.1 71 2).toInt := congrArg Int32.toInt ((pI_ne (a := 71) (b := 2) (c := 71) (k := 37) _ _ (Or.inr (by decide))))
          have lk43 : (((pI u37 71 37 v39)).1 71 54).toInt = (s.1 71 54).toInt := congrArg Int32.toInt (((pI_ne (a := 71) (b := 54) (c := 71) (k := 37) _ _ (Or.inr (by decide)))).trans (((fu37 71 54 rfl).1).trans (((fu35 71 54 rfl).1).trans (((fu16 71 54 rfl).1).trans (((fu12 71 54 rfl).1).trans ((fu8 71 54 rfl).1))))))
          have lk44 : (((pI u37 71 37 v39)).1 71 37).toInt = v39.toInt := congrArg Int32.toInt ((pI_self _ _ _ _))
          have lk45 : (((pI u37 71 37 v39)).1 71 37).toInt = v39.toInt := congrArg Int32.toInt ((pI_self _ _ _ _))
          have lc46 : (((pI u37 71 37 v39)).1 104 3).toInt = (u35.1 104 3).toInt := congrArg Int32.toInt (((pI_ne (a := 104) (b := 3) (c := 71) _ _ (Or.inl (by decide)))).trans ((fu37 104 3 rfl).1))
          exact r_vret C (oDec_at oX12_bookTold 52 rfl) ⟨rfl, ⟨(oBB_fr (oFr_oneI (q := 12) (m := 37) rfl (by rfl)) rfl (oBB_frb fu37 rfl (by omega) pu35_0)), by omega, by omega, by omega⟩⟩
      · skip
        replace pu12_2 := pu12_2 (by omega)
        refine r_aload_n C (j := 0) (oDec_at oX12_bookTold 29 rfl) rfl rfl ?_
        refine r_iload_n C (j := 1) (oDec_at oX12_bookTold 30 rfl) rfl rfl ?_
        have lk47 : ((u12).1 71 5).toInt = (s.1 71 5).toInt := congrArg Int32.toInt (((fu12 71 5 rfl).1).trans ((fu8 71 5 rfl).1))
        have lk48 : ((u12).1 71 45).toInt = (s.1 71 45).toInt := congrArg Int32.toInt (((fu12 71 45 rfl).1).trans ((fu8 71 45 rfl).1))
        have lk49 : ((u12).1 71 5).toInt = (s.1 71 5).toInt := congrArg Int32.toInt (((fu12 71 5 rfl).1).trans ((fu8 71 5 rfl).1))
        have lc50 : ((u12).1 104 3).toInt = (s.1 104 3).toInt := congrArg Int32.toInt (((fu12 104 3 rfl).1).trans ((fu8 104 3 rfl).1))
        refine r_callVv C oCl12 rfl miX12_ruleTold mlX12_347 (ct_X12_ruleTold l E (u12) v1 (oBB_fr fu12 rfl (oBB_fr fu8 rfl hp0)) (by omega) (by omega)) (by decide) rfl rfl rfl (Nat.le_of_ble_eq_true rfl) (oDec_at oX12_bookTold 31 rfl) (fun u51 pu51 fu51 => ?_)
        try dsimp only at pu51
        try simp only [lk47, lk48, lk49] at pu51
        obtain ⟨pu51_0, pu51_1, pu51_2, pu51_3⟩ := pu51
        refine r_goto C (tgt := 85) (oDec_at oX12_bookTold 32 rfl) (by decide) ?_
        refine r_aload_n C (j := 0) (oDec_at oX12_bookTold 43 rfl) rfl rfl ?_
        refine r_bipush C (oDec_at oX12_bookTold 44 rfl) (v := k59) (by rw [qk59]; rfl) ?_
        refine r_callVv C oCl12 rfl miX12_asksSign mlX12_248 (ct_X12_asksSign l E (u51) k59 (by omega)) (by decide) rfl rfl rfl (Nat.le_of_ble_eq_true rfl) (oDec_at oX12_bookTold 45 rfl) (fun u53 pu53 fu53 => ?_)
        try dsimp only at pu53
        obtain ⟨pu53_0, pu53_1⟩ := pu53
        refine r_pc C 91 rfl ?_
        refine r_aload_n C (j := 0) (oDec_at oX12_bookTold 46 rfl) rfl rfl ?_
        refine r_dup C (oDec_at oX12_bookTold 47 rfl) rfl ?_
        refine r_geti (k := 37) (lo := 0) (hi := 60) C v3 oCl12 rfl (by decide) flX12_231 rfl rfl (((fu53 71 37 rfl).1).trans (((fu51 71 37 rfl).1).trans (((fu12 71 37 rfl).1).trans (((fu8 71 37 rfl).1).trans (ev3))))) rfl rfl (oDec_at oX12_bookTold 48 rfl) (fun _ _ => ?_)
        refine r_iconst C (oDec_at oX12_bookTold 49 rfl) (v := k1) (by rw [qk1]; rfl) ?_
        obtain ⟨v55, ev55⟩ : ∃ z : Int32, z = v3 + k1 := ⟨_, rfl⟩
        have hv55 : v55.toInt = v3.toInt + k1.toInt := n_add ev55 (by omega) (by omega)
        refine r_iadd C v55 (oDec_at oX12_bookTold 50 rfl) ev55 ?_
        refine r_puti (k := 37) (lo := 0) (hi := 60) C oCl12 rfl (by decide) flX12_231 rfl rfl rfl rfl rfl rfl rfl rfl ⟨by omega, by omega⟩ (oDec_at oX12_bookTold 51 rfl) ?_
        refine r_pc C 101 rfl ?_
        have lk56 : (((pI u53 71 37 v55)).1 71 5).toInt = (u53.1 71 5).toInt := congrArg Int32.toInt ((pI_ne (a := 71) (b := 5) (c := 71) (k := 37) _ _ (Or.inr (by decide))))
        have lk57 : (((pI u53 71 37 v55)).1 71 45).toInt = (u51.1 71 45).toInt := congrArg Int32.toInt (((pI_ne (a := 71) (b := 45) (c := 71) (k := 37) _ _ (Or.inr (by decide)))).trans ((fu53 71 45 rfl).1))
        have lk58 : (((pI u53 71 37 v55)).1 71 2).toInt = (u53.1 71 2).toInt := congrArg Int32.toInt ((pI_ne (a := 71) (b := 2) (c := 71) (k := 37) _ _ (Or.inr (by decide))))
        have lk59 : (((pI u53 71 37 v55)).1 71 54).toInt = (s.1 71 54).toInt := congrArg Int32.toInt (((pI_ne (a := 71) (b := 54) (c := 71) (k := 37) _ _ (Or.inr (by decide)))).trans (((fu53 71 54 rfl).1).trans (((fu51 71 54 rfl).1).trans (((fu12 71 54 rfl).1).trans ((fu8 71 54 rfl).1)))))
        have lk60 : (((pI u53 71 37 v55)).1 71 37).toInt = v55.toInt := congrArg Int32.toInt ((pI_self _ _ _ _))
        have lk61 : (((pI u53 71 37 v55)).1 71 37).toInt = v55.toInt := congrArg Int32.toInt ((pI_self _ _ _ _))
        have lc62 : (((pI u53 71 37 v55)).1 104 3).toInt = (u51.1 104 3).toInt := congrArg Int32.toInt (((pI_ne (a := 104) (b := 3) (c := 71) _ _ (Or.inl (by decide)))).trans ((fu53 104 3 rfl).1))
        exact r_vret C (oDec_at oX12_bookTold 52 rfl) ⟨rfl, ⟨(oBB_fr (oFr_oneI (q := 12) (m := 37) rfl (by rfl)) rfl (oBB_frb fu53 rfl (by omega) pu51_0)), by omega, by omega, by omega⟩⟩
    · skip
      replace pu8_2 := pu8_2 (by omega)
      refine r_aload_n C (j := 0) (oDec_at oX12_bookTold 17 rfl) rfl rfl ?_
      refine r_aload_n C (j := 0) (oDec_at oX12_bookTold 18 rfl) rfl rfl ?_
      refine r_iconst C (oDec_at oX12_bookTold 19 rfl) (v := k2) (by rw [qk2]; rfl) ?_
      refine r_bipush C (oDec_at oX12_bookTold 20 rfl) (v := k12) (by rw [qk12]; rfl) ?_
      have lk63 : ((u8).1 71 5).toInt = (s.1 71 5).toInt := congrArg Int32.toInt ((fu8 71 5 rfl).1)
      have lk64 : ((u8).1 71 5).toInt = (s.1 71 5).toInt := congrArg Int32.toInt ((fu8 71 5 rfl).1)
      refine r_callVi C oCl12 rfl miX12_number mlX12_244 (ct_X12_number l E (u8) k2 k12 ) (by decide) rfl rfl rfl (Nat.le_of_ble_eq_true rfl) (oDec_at oX12_bookTold 21 rfl) (fun r66 u65 pu65 fu65 => ?_)
      try dsimp only at pu65
      try simp only [lk63, lk64] at pu65
      obtain ⟨pu65_0, pu65_1, pu65_2, pu65_3⟩ := pu65
      have rr66 := n_rng r66
      refine r_puti (k := 54) (lo := (-2147483648)) (hi := 2147483647) C oCl12 rfl (by decide) flX12_344 rfl rfl rfl rfl rfl rfl rfl rfl (n_rng _) (oDec_at oX12_bookTold 22 rfl) ?_
      refine r_pc C 43 rfl ?_
      refine r_goto C (tgt := 85) (oDec_at oX12_bookTold 23 rfl) (by decide) ?_
      refine r_aload_n C (j := 0) (oDec_at oX12_bookTold 43 rfl) rfl rfl ?_
      refine r_bipush C (oDec_at oX12_bookTold 44 rfl) (v := k59) (by rw [qk59]; rfl) ?_
      have lk67 : (((pI u65 71 54 r66)).1 71 2).toInt = (u65.1 71 2).toInt := congrArg Int32.toInt ((pI_ne (a := 71) (b := 2) (c := 71) (k := 54) _ _ (Or.inr (by decide))))
      have lk68 : (((pI u65 71 54 r66)).1 71 5).toInt = (u65.1 71 5).toInt := congrArg Int32.toInt ((pI_ne (a := 71) (b := 5) (c := 71) (k := 54) _ _ (Or.inr (by decide))))
      have lk69 : (((pI u65 71 54 r66)).1 71 2).toInt = (u65.1 71 2).toInt := congrArg Int32.toInt ((pI_ne (a := 71) (b := 2) (c := 71) (k := 54) _ _ (Or.inr (by decide))))
      refine r_callVv C oCl12 rfl miX12_asksSign mlX12_248 (ct_X12_asksSign l E ((pI u65 71 54 r66)) k59 (by omega)) (by decide) rfl rfl rfl (Nat.le_of_ble_eq_true rfl) (oDec_at oX12_bookTold 45 rfl) (fun u70 pu70 fu70 => ?_)
      try dsimp only at pu70
      try simp only [lk67, lk68, lk69] at pu70
      obtain ⟨pu70_0, pu70_1⟩ := pu70
      refine r_aload_n C (j := 0) (oDec_at oX12_bookTold 46 rfl) rfl rfl ?_
      refine r_dup C (oDec_at oX12_bookTold 47 rfl) rfl ?_
      refine r_geti (k := 37) (lo := 0) (hi := 60) C v3 oCl12 rfl (by decide) flX12_231 rfl rfl (((fu70 71 37 rfl).1).trans (((pI_ne (a := 71) (b := 37) (c := 71) (k := 54) _ _ (Or.inr (by decide)))).trans (((fu65 71 37 rfl).1).trans (((fu8 71 37 rfl).1).trans (ev3))))) rfl rfl (oDec_at oX12_bookTold 48 rfl) (fun _ _ => ?_)
      refine r_pc C 96 rfl ?_
      refine r_iconst C (oDec_at oX12_bookTold 49 rfl) (v := k1) (by rw [qk1]; rfl) ?_
      obtain ⟨v72, ev72⟩ : ∃ z : Int32, z = v3 + k1 := ⟨_, rfl⟩
      have hv72 : v72.toInt = v3.toInt + k1.toInt := n_add ev72 (by omega) (by omega)
      refine r_iadd C v72 (oDec_at oX12_bookTold 50 rfl) ev72 ?_
      refine r_puti (k := 37) (lo := 0) (hi := 60) C oCl12 rfl (by decide) flX12_231 rfl rfl rfl rfl rfl rfl rfl rfl ⟨by omega, by omega⟩ (oDec_at oX12_bookTold 51 rfl) ?_
      have lk73 : (((pI u70 71 37 v72)).1 71 5).toInt = (u70.1 71 5).toInt := congrArg Int32.toInt ((pI_ne (a := 71) (b := 5) (c := 71) (k := 37) _ _ (Or.inr (by decide))))
      have lk74 : (((pI u70 71 37 v72)).1 71 45).toInt = (s.1 71 45).toInt := congrArg Int32.toInt (((pI_ne (a := 71) (b := 45) (c := 71) (k := 37) _ _ (Or.inr (by decide)))).trans (((fu70 71 45 rfl).1).trans (((pI_ne (a := 71) (b := 45) (c := 71) (k := 54) _ _ (Or.inr (by decide)))).trans (((fu65 71 45 rfl).1).trans ((fu8 71 45 rfl).1)))))
      have lk75 : (((pI u70 71 37 v72)).1 71 2).toInt = (u70.1 71 2).toInt := congrArg Int32.toInt ((pI_ne (a := 71) (b := 2) (c := 71) (k := 37) _ _ (Or.inr (by decide))))
      have lk76 : (((pI u70 71 37 v72)).1 71 54).toInt = r66.toInt := congrArg Int32.toInt (((pI_ne (a := 71) (b := 54) (c := 71) (k := 37) _ _ (Or.inr (by decide)))).trans (((fu70 71 54 rfl).1).trans ((pI_self _ _ _ _))))
      have lk77 : (((pI u70 71 37 v72)).1 71 37).toInt = v72.toInt := congrArg Int32.toInt ((pI_self _ _ _ _))
      have lk78 : (((pI u70 71 37 v72)).1 71 37).toInt = v72.toInt := congrArg Int32.toInt ((pI_self _ _ _ _))
      have lc79 : (((pI u70 71 37 v72)).1 104 3).toInt = (s.1 104 3).toInt := congrArg Int32.toInt (((pI_ne (a := 104) (b := 3) (c := 71) _ _ (Or.inl (by decide)))).trans (((fu70 104 3 rfl).1).trans (((pI_ne (a := 104) (b := 3) (c := 71) _ _ (Or.inl (by decide)))).trans (((fu65 104 3 rfl).1).trans ((fu8 104 3 rfl).1)))))
      exact r_vret C (oDec_at oX12_bookTold 52 rfl) ⟨rfl, ⟨(oBB_fr (oFr_oneI (q := 12) (m := 37) rfl (by rfl)) rfl (oBB_frb fu70 rfl (by omega) (oBB_fr (oFr_oneI (q := 12) (m := 54) rfl (by rfl)) rfl (oBB_frb fu65 rfl (by omega) (oBB_fr fu8 rfl hp0))))), by omega, by omega, by omega⟩⟩
  · skip
    refine r_aload_n C (j := 0) (oDec_at oX12_bookTold 7 rfl) rfl rfl ?_
    refine r_iconst C (oDec_at oX12_bookTold 8 rfl) (v := k5) (by rw [qk5]; rfl) ?_
    refine r_iload_n C (j := 1) (oDec_at oX12_bookTold 9 rfl) rfl rfl ?_
    refine r_callVv C oCl12 rfl miX12_fail mlX12_203 (ct_X12_fail l E (s) k5 v1 ) (by decide) rfl rfl rfl (Nat.le_of_ble_eq_true rfl) (oDec_at oX12_bookTold 10 rfl) (fun u80 pu80 fu80 => ?_)
    try dsimp only at pu80
    obtain ⟨pu80_0, pu80_1⟩ := pu80
    have lk82 : ((u80).1 71 45).toInt = (s.1 71 45).toInt := congrArg Int32.toInt ((fu80 71 45 rfl).1)
    have lk83 : ((u80).1 71 2).toInt = v1.toInt := congrArg Int32.toInt (((fu80 71 2 rfl).1).trans (ev1))
    have lk84 : ((u80).1 71 54).toInt = (s.1 71 54).toInt := congrArg Int32.toInt ((fu80 71 54 rfl).1)
    have lk85 : ((u80).1 71 37).toInt = v3.toInt := congrArg Int32.toInt (((fu80 71 37 rfl).1).trans (ev3))
    have lk86 : ((u80).1 71 37).toInt = v3.toInt := congrArg Int32.toInt (((fu80 71 37 rfl).1).trans (ev3))
    have lc87 : ((u80).1 104 3).toInt = (s.1 104 3).toInt := congrArg Int32.toInt ((fu80 104 3 rfl).1)
    exact r_vret C (oDec_at oX12_bookTold 11 rfl) ⟨rfl, ⟨(oBB_frb fu80 rfl (by omega) hp0), by omega, by omega, by omega⟩⟩
set_option maxHeartbeats 4000000 in
set_option maxRecDepth 100000 in
theorem ct_X12_book (l : Launch) (E : oE) (s : oS)   (hp0 : oBI s) : oMet l 12 yX12_book cX12_book 2 (some .int) [(12, 1), (12, 2), (12, 3), (12, 4), (12, 5), (12, 6), (12, 7), (12, 8), (12, 9), (12, 36), (12, 37), (12, 45), (12, 47), (12, 48), (12, 53), (12, 54), (12, 55), (12, 56), (12, 69), (78, 9999), (79, 9999), (80, 9999), (81, 9999), (82, 9999), (83, 9999)] E s [.ref (oad E 71)] (oPi (fun r u => (oBI u) ∧ ((u.1 71 1).toInt = 0))) := by
  refine oMet.of (lv := [(0, .ref (oad E 71))]) (by decide +kernel) (Nat.le_of_ble_eq_true rfl) rfl (fun J C hT => ?_)
  have C : oC l 12 cX12_book RX12 2 (some .int) [(12, 1), (12, 2), (12, 3), (12, 4), (12, 5), (12, 6), (12, 7), (12, 8), (12, 9), (12, 36), (12, 37), (12, 45), (12, 47), (12, 48), (12, 53), (12, 54), (12, 55), (12, 56), (12, 69), (78, 9999), (79, 9999), (80, 9999), (81, 9999), (82, 9999), (83, 9999)] E s (oPi (fun r u => (oBI u) ∧ ((u.1 71 1).toInt = 0))) J := C
  obtain ⟨km1, qkm1⟩ : ∃ z : Int32, z = (-1) := ⟨_, rfl⟩
  have ekm1 : km1.toInt = (-1) := by rw [qkm1]; rfl
  obtain ⟨k0, qk0⟩ : ∃ z : Int32, z = 0 := ⟨_, rfl⟩
  have ek0 : k0.toInt = 0 := by rw [qk0]; rfl
  obtain ⟨k1, qk1⟩ : ∃ z : Int32, z = 1 := ⟨_, rfl⟩
  have ek1 : k1.toInt = 1 := by rw [qk1]; rfl
  obtain ⟨k2, qk2⟩ : ∃ z : Int32, z = 2 := ⟨_, rfl⟩
  have ek2 : k2.toInt = 2 := by rw [qk2]; rfl
  obtain ⟨k3, qk3⟩ : ∃ z : Int32, z = 3 := ⟨_, rfl⟩
  have ek3 : k3.toInt = 3 := by rw [qk3]; rfl
  obtain ⟨k4, qk4⟩ : ∃ z : Int32, z = 4 := ⟨_, rfl⟩
  have ek4 : k4.toInt = 4 := by rw [qk4]; rfl
  obtain ⟨k6, qk6⟩ : ∃ z : Int32, z = 6 := ⟨_, rfl⟩
  have ek6 : k6.toInt = 6 := by rw [qk6]; rfl
  obtain ⟨k24, qk24⟩ : ∃ z : Int32, z = 24 := ⟨_, rfl⟩
  have ek24 : k24.toInt = 24 := by rw [qk24]; rfl
  obtain ⟨k1600, qk1600⟩ : ∃ z : Int32, z = 1600 := ⟨_, rfl⟩
  have ek1600 : k1600.toInt = 1600 := by rw [qk1600]; rfl
  have key : ∀ n : Nat, (∀ (t : oS), (oBB t) → ((t.1 71 5).toInt = 0 → (t.1 71 45).toInt ≤ (t.1 71 2).toInt) → ((t.1 71 5).toInt = 0 → (2 ≤ (t.1 71 54).toInt ∧ (t.1 71 54).toInt ≤ 12)) → ((t.1 104 3).toInt ≤ 6) → ((t.1 71 1).toInt = 0) → 10000 + 2 * (61 - (t.1 71 37).toInt) + oB1 (t.1 71 5) ≤ (n : Int) → J t 23 [(0, .ref (oad E 71))] []) ∧ (∀ (t : oS) (x1 : Int32), (oBD t) → (oM2 t) → (oCf x1 t) → (0 ≤ x1.toInt ∧ x1.toInt ≤ 24) → ((t.1 71 1).toInt = 0) → 5000 - x1.toInt ≤ (n : Int) → J t 88 [(0, .ref (oad E 71)), (1, .int x1)] []) ∧ (∀ (t : oS) (x1 : Int32), (oBD t) → (oM2 t) → (oCg t) → (0 ≤ x1.toInt ∧ x1.toInt ≤ 6) → ((t.1 71 1).toInt = 0) → 4000 - x1.toInt ≤ (n : Int) → J t 132 [(0, .ref (oad E 71)), (1, .int x1)] []) ∧ (∀ (t : oS) (x1 : Int32), (oBD t) → (oM2 t) → (oCg t) → (oCc x1 t) → (0 ≤ x1.toInt ∧ x1.toInt ≤ (t.1 71 45).toInt) → ((t.1 71 1).toInt = 0) → 2000 - x1.toInt ≤ (n : Int) → J t 161 [(0, .ref (oad E 71)), (1, .int x1)] []) := by
    intro n
    induction n using Nat.strongRecOn with
    | _ n ih =>
      refine ⟨?_, ?_, ?_, ?_⟩
      · intro t   iv0 iv1 iv2 iv3 iv4 hmu
        have hjn := oB1_nn (t.1 71 5)
        refine r_ty C (fun hty => ?_)
        have hty_statements : (0 : Int) ≤ ((t).1 71 37).toInt ∧ ((t).1 71 37).toInt ≤ 60 := hty.1 71 37
        have hty_at : (0 : Int) ≤ ((t).1 71 2).toInt ∧ ((t).1 71 2).toInt ≤ 1600 := hty.1 71 2
        have hty_coded : (0 : Int) ≤ ((t).1 71 45).toInt ∧ ((t).1 71 45).toInt ≤ 1600 := hty.1 71 45
        clear hty
        refine r_aload_n C (j := 0) (oDec_at oX12_book 15 rfl) rfl rfl ?_
        obtain ⟨v1, ev1⟩ : ∃ z : Int32, (t).1 71 5 = z := ⟨_, rfl⟩
        have gv1 : (t.1 71 5).toInt = v1.toInt := congrArg Int32.toInt (ev1)
        have rv1 := n_rng v1
        refine r_geti (k := 5) (lo := (-2147483648)) (hi := 2147483647) C v1 oCl12 rfl (by decide) flX12_173 rfl rfl (ev1) rfl rfl (oDec_at oX12_book 16 rfl) (fun _ _ => ?_)
        refine r_if_ne C 45 (oDec_at oX12_book 17 rfl) (by decide) (fun cd2 => ?_) (fun cd2 => ?_)
        · skip
          refine r_aload_n C (j := 0) (oDec_at oX12_book 25 rfl) rfl rfl ?_
          refine r_callVi C oCl12 rfl miX12_isTaken mlX12_258 (ct_X12_isTaken l E (t)  ) (by decide) rfl rfl rfl (Nat.le_of_ble_eq_true rfl) (oDec_at oX12_book 26 rfl) (fun r4 u3 pu3 fu3 => ?_)
          try dsimp only at pu3
          obtain ⟨pu3_0, pu3_1⟩ := pu3
          have lu5 : ((u3).1 71 5).toInt = v1.toInt := congrArg Int32.toInt (((fu3 71 5 rfl).1).trans (ev1))
          have rr4 := n_rng r4
          refine r_if_ne C 54 (oDec_at oX12_book 27 rfl) (by decide) (fun cd6 => ?_) (fun cd6 => ?_)
          · skip
            have lk7 : ((u3).1 71 5).toInt = v1.toInt := congrArg Int32.toInt (((fu3 71 5 rfl).1).trans (ev1))
            have lk8 : ((u3).1 71 54).toInt = (t.1 71 54).toInt := congrArg Int32.toInt ((fu3 71 54 rfl).1)
            have lk9 : ((u3).1 71 45).toInt = (t.1 71 45).toInt := congrArg Int32.toInt ((fu3 71 45 rfl).1)
            have lk10 : ((u3).1 71 2).toInt = (t.1 71 2).toInt := congrArg Int32.toInt ((fu3 71 2 rfl).1)
            have hq11 : oBD (u3) := oBB_BD (oBB_fr fu3 rfl iv0) (by omega)
            refine r_aload_n C (j := 0) (oDec_at oX12_book 30 rfl) rfl rfl ?_
            refine r_getF (k := 49) (b := 104) C oCl12 rfl (by decide) flX12_114 rfl rfl rfl (oDec_at oX12_book 31 rfl) ?_
            refine r_iconst C (oDec_at oX12_book 32 rfl) (v := k0) (by rw [qk0]; rfl) ?_
            refine r_aload_n C (j := 0) (oDec_at oX12_book 33 rfl) rfl rfl ?_
            refine r_getF (k := 49) (b := 104) C oCl12 rfl (by decide) flX12_114 rfl rfl rfl (oDec_at oX12_book 34 rfl) ?_
            refine r_iconst C (oDec_at oX12_book 35 rfl) (v := k2) (by rw [qk2]; rfl) ?_
            refine r_pc C 64 rfl ?_
            obtain ⟨v13, ev13⟩ : ∃ z : Int32, (u3).1 104 k2.toNatClampNeg = z := ⟨_, rfl⟩
            have av13 : t.1 104 k2.toNatClampNeg = v13 := ((fu3 104 k2.toNatClampNeg rfl).1).symm.trans ev13
            have gv13 : (t.1 104 k2.toNatClampNeg).toInt = v13.toInt := congrArg Int32.toInt (((fu3 104 k2.toNatClampNeg rfl).1).symm.trans ev13)
            refine r_iald (n := 4) (lo := 0) (hi := 12) C v13 rfl (by decide) rfl rfl ⟨by omega, by omega⟩ (by decide) ev13 rfl rfl (oDec_at oX12_book 36 rfl) (fun b12 b12h => ?_)
            refine r_iast (n := 4) (lo := 0) (hi := 12) C rfl (by decide) rfl rfl ⟨by omega, by omega⟩ (by decide) rfl rfl rfl rfl ⟨by omega, by omega⟩ (oDec_at oX12_book 37 rfl) ?_
            refine r_aload_n C (j := 0) (oDec_at oX12_book 38 rfl) rfl rfl ?_
            refine r_getF (k := 49) (b := 104) C oCl12 rfl (by decide) flX12_114 rfl rfl rfl (oDec_at oX12_book 39 rfl) ?_
            refine r_iconst C (oDec_at oX12_book 40 rfl) (v := k1) (by rw [qk1]; rfl) ?_
            refine r_aload_n C (j := 0) (oDec_at oX12_book 41 rfl) rfl rfl ?_
            refine r_pc C 72 rfl ?_
            refine r_getF (k := 49) (b := 104) C oCl12 rfl (by decide) flX12_114 rfl rfl rfl (oDec_at oX12_book 42 rfl) ?_
            refine r_iconst C (oDec_at oX12_book 43 rfl) (v := k3) (by rw [qk3]; rfl) ?_
            obtain ⟨v15, ev15⟩ : ∃ z : Int32, ((pI u3 104 k0.toNatClampNeg v13)).1 104 k3.toNatClampNeg = z := ⟨_, rfl⟩
            have gv15 : (((pI u3 104 k0.toNatClampNeg v13)).1 104 k3.toNatClampNeg).toInt = v15.toInt := congrArg Int32.toInt (ev15)
            refine r_iald (n := 4) (lo := 0) (hi := 12) C v15 rfl (by decide) rfl rfl ⟨by omega, by omega⟩ (by decide) ev15 rfl rfl (oDec_at oX12_book 44 rfl) (fun b14 b14h => ?_)
            refine r_iast (n := 4) (lo := 0) (hi := 12) C rfl (by decide) rfl rfl ⟨by omega, by omega⟩ (by decide) rfl rfl rfl rfl ⟨by omega, by omega⟩ (oDec_at oX12_book 45 rfl) ?_
            have hq16 : oM2 ((pI (pI u3 104 k0.toNatClampNeg v13) 104 k1.toNatClampNeg v15)) := oM2_put (by assumption) (by assumption) ek0 ek1 ek2 ek3
            have hq17 : oBD ((pI (pI u3 104 k0.toNatClampNeg v13) 104 k1.toNatClampNeg v15)) := oBD_m2 hq11 ek0 ek1
            refine r_aload_n C (j := 0) (oDec_at oX12_book 46 rfl) rfl rfl ?_
            refine r_aload_n C (j := 0) (oDec_at oX12_book 47 rfl) rfl rfl ?_
            refine r_pc C 80 rfl ?_
            obtain ⟨v18, ev18⟩ : ∃ z : Int32, ((pI (pI u3 104 k0.toNatClampNeg v13) 104 k1.toNatClampNeg v15)).1 71 54 = z := ⟨_, rfl⟩
            have gv18 : (t.1 71 54).toInt = v18.toInt := congrArg Int32.toInt ((((pI_ne (a := 71) (b := 54) (c := 104) _ _ (Or.inl (by decide)))).trans (((pI_ne (a := 71) (b := 54) (c := 104) _ _ (Or.inl (by decide)))).trans ((fu3 71 54 rfl).1))).symm.trans ev18)
            have ggv18 : (((pI (pI u3 104 k0.toNatClampNeg v13) 104 k1.toNatClampNeg v15)).1 71 54).toInt = v18.toInt := congrArg Int32.toInt ev18
            have rv18 := n_rng v18
            refine r_geti (k := 54) (lo := (-2147483648)) (hi := 2147483647) C v18 oCl12 rfl (by decide) flX12_344 rfl rfl (ev18) rfl rfl (oDec_at oX12_book 48 rfl) (fun _ _ => ?_)
            refine r_puti (k := 53) (lo := 2) (hi := 12) C oCl12 rfl (by decide) flX12_127 rfl rfl rfl rfl rfl rfl rfl rfl ⟨by omega, by omega⟩ (oDec_at oX12_book 49 rfl) ?_
            refine r_iconst C (oDec_at oX12_book 50 rfl) (v := k0) (by rw [qk0]; rfl) ?_
            refine r_istore_n C (lv' := [(0, .ref (oad E 71)), (1, .int k0)]) [1, 0] (oDec_at oX12_book 51 rfl) rfl (by decide) rfl ?_
            have lk19 : (((pI (pI (pI u3 104 k0.toNatClampNeg v13) 104 k1.toNatClampNeg v15) 71 53 v18)).1 71 1).toInt = (t.1 71 1).toInt := congrArg Int32.toInt (((pI_ne (a := 71) (b := 1) (c := 71) (k := 53) _ _ (Or.inr (by decide)))).trans (((pI_ne (a := 71) (b := 1) (c := 104) _ _ (Or.inl (by decide)))).trans (((pI_ne (a := 71) (b := 1) (c := 104) _ _ (Or.inl (by decide)))).trans ((fu3 71 1 rfl).1))))
            exact (ih (n - 1) (by omega)).2.1 ((pI (pI (pI u3 104 k0.toNatClampNeg v13) 104 k1.toNatClampNeg v15) 71 53 v18)) k0  (oBD_fr (oFr_oneI (q := 12) (m := 53) rfl (by rfl)) rfl hq17) (oM2_fr (oFr_oneI (q := 12) (m := 53) rfl (by rfl)) rfl hq16) (by first | exact oCf_0 (by omega)) (by omega) (by omega) (by omega)
          · skip
            refine r_iconst C (oDec_at oX12_book 28 rfl) (v := km1) (by rw [qkm1]; rfl) ?_
            have hq20 : oBI (u3) := oBB_BI (oBB_fr fu3 rfl iv0)
            have lk21 : ((u3).1 71 1).toInt = (t.1 71 1).toInt := congrArg Int32.toInt ((fu3 71 1 rfl).1)
            exact r_iret C (oDec_at oX12_book 29 rfl) ⟨_, rfl, ⟨hq20, by omega⟩⟩
        · skip
          have hj0 := oB1_0 (x := t.1 71 5) (by omega)
          refine r_aload_n C (j := 0) (oDec_at oX12_book 18 rfl) rfl rfl ?_
          refine r_callVi C oCl12 rfl miX12_look mlX12_185 (ct_X12_look l E (t)  ) (by decide) rfl rfl rfl (Nat.le_of_ble_eq_true rfl) (oDec_at oX12_book 19 rfl) (fun r23 u22 pu22 fu22 => ?_)
          try dsimp only at pu22
          obtain ⟨pu22_0, pu22_1⟩ := pu22
          obtain ⟨v24, ev24⟩ : ∃ z : Int32, (u22).1 71 2 = z := ⟨_, rfl⟩
          have gv24 : (u22.1 71 2).toInt = v24.toInt := congrArg Int32.toInt ev24
          have lt25 : ((u22).1 72 ((u22).1 71 2).toNatClampNeg).toInt = (t.1 72 v24.toNatClampNeg).toInt := by rw [ev24, show (u22).1 72 v24.toNatClampNeg = t.1 72 v24.toNatClampNeg from (fu22 72 v24.toNatClampNeg rfl).1]
          have lu26 : ((u22).1 71 2).toInt = v24.toInt := congrArg Int32.toInt (ev24)
          have lu27 : ((u22).1 71 2).toInt = v24.toInt := congrArg Int32.toInt (ev24)
          have lu28 : ((u22).1 71 3).toInt = (t.1 71 3).toInt := congrArg Int32.toInt ((fu22 71 3 rfl).1)
          have rr23 := n_rng r23
          refine r_iconst C (oDec_at oX12_book 20 rfl) (v := km1) (by rw [qkm1]; rfl) ?_
          refine r_icmp_eq C 45 (oDec_at oX12_book 21 rfl) (by decide) (fun cd29 => ?_) (fun cd29 => ?_)
          · skip
            refine r_aload_n C (j := 0) (oDec_at oX12_book 25 rfl) rfl rfl ?_
            refine r_callVi C oCl12 rfl miX12_isTaken mlX12_258 (ct_X12_isTaken l E (u22)  ) (by decide) rfl rfl rfl (Nat.le_of_ble_eq_true rfl) (oDec_at oX12_book 26 rfl) (fun r31 u30 pu30 fu30 => ?_)
            try dsimp only at pu30
            obtain ⟨pu30_0, pu30_1⟩ := pu30
            have lu32 : ((u30).1 71 5).toInt = v1.toInt := congrArg Int32.toInt (((fu30 71 5 rfl).1).trans (((fu22 71 5 rfl).1).trans (ev1)))
            have rr31 := n_rng r31
            refine r_if_ne C 54 (oDec_at oX12_book 27 rfl) (by decide) (fun cd33 => ?_) (fun cd33 => ?_)
            · skip
              have lk34 : ((u30).1 71 5).toInt = v1.toInt := congrArg Int32.toInt (((fu30 71 5 rfl).1).trans (((fu22 71 5 rfl).1).trans (ev1)))
              have lk35 : ((u30).1 71 54).toInt = (t.1 71 54).toInt := congrArg Int32.toInt (((fu30 71 54 rfl).1).trans ((fu22 71 54 rfl).1))
              have lk36 : ((u30).1 71 45).toInt = (t.1 71 45).toInt := congrArg Int32.toInt (((fu30 71 45 rfl).1).trans ((fu22 71 45 rfl).1))
              have lk37 : ((u30).1 71 2).toInt = v24.toInt := congrArg Int32.toInt (((fu30 71 2 rfl).1).trans (ev24))
              have hq38 : oBD (u30) := oBB_BD (oBB_fr fu30 rfl (oBB_fr fu22 rfl iv0)) (by omega)
              refine r_aload_n C (j := 0) (oDec_at oX12_book 30 rfl) rfl rfl ?_
              refine r_getF (k := 49) (b := 104) C oCl12 rfl (by decide) flX12_114 rfl rfl rfl (oDec_at oX12_book 31 rfl) ?_
              refine r_iconst C (oDec_at oX12_book 32 rfl) (v := k0) (by rw [qk0]; rfl) ?_
              refine r_aload_n C (j := 0) (oDec_at oX12_book 33 rfl) rfl rfl ?_
              refine r_getF (k := 49) (b := 104) C oCl12 rfl (by decide) flX12_114 rfl rfl rfl (oDec_at oX12_book 34 rfl) ?_
              refine r_iconst C (oDec_at oX12_book 35 rfl) (v := k2) (by rw [qk2]; rfl) ?_
              refine r_pc C 64 rfl ?_
              obtain ⟨v40, ev40⟩ : ∃ z : Int32, (u30).1 104 k2.toNatClampNeg = z := ⟨_, rfl⟩
              have av40 : t.1 104 k2.toNatClampNeg = v40 := (((fu30 104 k2.toNatClampNeg rfl).1).trans ((fu22 104 k2.toNatClampNeg rfl).1)).symm.trans ev40
              have gv40 : (t.1 104 k2.toNatClampNeg).toInt = v40.toInt := congrArg Int32.toInt ((((fu30 104 k2.toNatClampNeg rfl).1).trans ((fu22 104 k2.toNatClampNeg rfl).1)).symm.trans ev40)
              refine r_iald (n := 4) (lo := 0) (hi := 12) C v40 rfl (by decide) rfl rfl ⟨by omega, by omega⟩ (by decide) ev40 rfl rfl (oDec_at oX12_book 36 rfl) (fun b39 b39h => ?_)
              refine r_iast (n := 4) (lo := 0) (hi := 12) C rfl (by decide) rfl rfl ⟨by omega, by omega⟩ (by decide) rfl rfl rfl rfl ⟨by omega, by omega⟩ (oDec_at oX12_book 37 rfl) ?_
              refine r_aload_n C (j := 0) (oDec_at oX12_book 38 rfl) rfl rfl ?_
              refine r_getF (k := 49) (b := 104) C oCl12 rfl (by decide) flX12_114 rfl rfl rfl (oDec_at oX12_book 39 rfl) ?_
              refine r_iconst C (oDec_at oX12_book 40 rfl) (v := k1) (by rw [qk1]; rfl) ?_
              refine r_aload_n C (j := 0) (oDec_at oX12_book 41 rfl) rfl rfl ?_
              refine r_pc C 72 rfl ?_
              refine r_getF (k := 49) (b := 104) C oCl12 rfl (by decide) flX12_114 rfl rfl rfl (oDec_at oX12_book 42 rfl) ?_
              refine r_iconst C (oDec_at oX12_book 43 rfl) (v := k3) (by rw [qk3]; rfl) ?_
              obtain ⟨v42, ev42⟩ : ∃ z : Int32, ((pI u30 104 k0.toNatClampNeg v40)).1 104 k3.toNatClampNeg = z := ⟨_, rfl⟩
              have gv42 : (((pI u30 104 k0.toNatClampNeg v40)).1 104 k3.toNatClampNeg).toInt = v42.toInt := congrArg Int32.toInt (ev42)
              refine r_iald (n := 4) (lo := 0) (hi := 12) C v42 rfl (by decide) rfl rfl ⟨by omega, by omega⟩ (by decide) ev42 rfl rfl (oDec_at oX12_book 44 rfl) (fun b41 b41h => ?_)
              refine r_iast (n := 4) (lo := 0) (hi := 12) C rfl (by decide) rfl rfl ⟨by omega, by omega⟩ (by decide) rfl rfl rfl rfl ⟨by omega, by omega⟩ (oDec_at oX12_book 45 rfl) ?_
              have hq43 : oM2 ((pI (pI u30 104 k0.toNatClampNeg v40) 104 k1.toNatClampNeg v42)) := oM2_put (by assumption) (by assumption) ek0 ek1 ek2 ek3
              have hq44 : oBD ((pI (pI u30 104 k0.toNatClampNeg v40) 104 k1.toNatClampNeg v42)) := oBD_m2 hq38 ek0 ek1
              refine r_aload_n C (j := 0) (oDec_at oX12_book 46 rfl) rfl rfl ?_
              refine r_aload_n C (j := 0) (oDec_at oX12_book 47 rfl) rfl rfl ?_
              refine r_pc C 80 rfl ?_
              obtain ⟨v45, ev45⟩ : ∃ z : Int32, ((pI (pI u30 104 k0.toNatClampNeg v40) 104 k1.toNatClampNeg v42)).1 71 54 = z := ⟨_, rfl⟩
              have gv45 : (t.1 71 54).toInt = v45.toInt := congrArg Int32.toInt ((((pI_ne (a := 71) (b := 54) (c := 104) _ _ (Or.inl (by decide)))).trans (((pI_ne (a := 71) (b := 54) (c := 104) _ _ (Or.inl (by decide)))).trans (((fu30 71 54 rfl).1).trans ((fu22 71 54 rfl).1)))).symm.trans ev45)
              have ggv45 : (((pI (pI u30 104 k0.toNatClampNeg v40) 104 k1.toNatClampNeg v42)).1 71 54).toInt = v45.toInt := congrArg Int32.toInt ev45
              have rv45 := n_rng v45
              refine r_geti (k := 54) (lo := (-2147483648)) (hi := 2147483647) C v45 oCl12 rfl (by decide) flX12_344 rfl rfl (ev45) rfl rfl (oDec_at oX12_book 48 rfl) (fun _ _ => ?_)
              refine r_puti (k := 53) (lo := 2) (hi := 12) C oCl12 rfl (by decide) flX12_127 rfl rfl rfl rfl rfl rfl rfl rfl ⟨by omega, by omega⟩ (oDec_at oX12_book 49 rfl) ?_
              refine r_iconst C (oDec_at oX12_book 50 rfl) (v := k0) (by rw [qk0]; rfl) ?_
              refine r_istore_n C (lv' := [(0, .ref (oad E 71)), (1, .int k0)]) [1, 0] (oDec_at oX12_book 51 rfl) rfl (by decide) rfl ?_
              have lk46 : (((pI (pI (pI u30 104 k0.toNatClampNeg v40) 104 k1.toNatClampNeg v42) 71 53 v45)).1 71 1).toInt = (t.1 71 1).toInt := congrArg Int32.toInt (((pI_ne (a := 71) (b := 1) (c := 71) (k := 53) _ _ (Or.inr (by decide)))).trans (((pI_ne (a := 71) (b := 1) (c := 104) _ _ (Or.inl (by decide)))).trans (((pI_ne (a := 71) (b := 1) (c := 104) _ _ (Or.inl (by decide)))).trans (((fu30 71 1 rfl).1).trans ((fu22 71 1 rfl).1)))))
              exact (ih (n - 1) (by omega)).2.1 ((pI (pI (pI u30 104 k0.toNatClampNeg v40) 104 k1.toNatClampNeg v42) 71 53 v45)) k0  (oBD_fr (oFr_oneI (q := 12) (m := 53) rfl (by rfl)) rfl hq44) (oM2_fr (oFr_oneI (q := 12) (m := 53) rfl (by rfl)) rfl hq43) (by first | exact oCf_0 (by omega)) (by omega) (by omega) (by omega)
            · skip
              refine r_iconst C (oDec_at oX12_book 28 rfl) (v := km1) (by rw [qkm1]; rfl) ?_
              have hq47 : oBI (u30) := oBB_BI (oBB_fr fu30 rfl (oBB_fr fu22 rfl iv0))
              have lk48 : ((u30).1 71 1).toInt = (t.1 71 1).toInt := congrArg Int32.toInt (((fu30 71 1 rfl).1).trans ((fu22 71 1 rfl).1))
              exact r_iret C (oDec_at oX12_book 29 rfl) ⟨_, rfl, ⟨hq47, by omega⟩⟩
          · skip
            replace pu22_1 := pu22_1.resolve_left (by omega)
            refine r_aload_n C (j := 0) (oDec_at oX12_book 22 rfl) rfl rfl ?_
            have lk49 : ((u22).1 71 5).toInt = v1.toInt := congrArg Int32.toInt (((fu22 71 5 rfl).1).trans (ev1))
            have lk50 : ((u22).1 71 45).toInt = (t.1 71 45).toInt := congrArg Int32.toInt ((fu22 71 45 rfl).1)
            have lk51 : ((u22).1 71 2).toInt = v24.toInt := congrArg Int32.toInt (ev24)
            have lk52 : ((u22).1 71 5).toInt = v1.toInt := congrArg Int32.toInt (((fu22 71 5 rfl).1).trans (ev1))
            have lk53 : ((u22).1 71 54).toInt = (t.1 71 54).toInt := congrArg Int32.toInt ((fu22 71 54 rfl).1)
            have lk54 : ((u22).1 71 37).toInt = (t.1 71 37).toInt := congrArg Int32.toInt ((fu22 71 37 rfl).1)
            have lk55 : ((u22).1 71 37).toInt = (t.1 71 37).toInt := congrArg Int32.toInt ((fu22 71 37 rfl).1)
            have lc56 : ((u22).1 104 3).toInt = (t.1 104 3).toInt := congrArg Int32.toInt ((fu22 104 3 rfl).1)
            refine r_callVv C oCl12 rfl miX12_bookTold mlX12_353 (ct_X12_bookTold l E (u22)  (oBB_fr fu22 rfl iv0) (by omega) (by omega) (by omega) (by omega)) (by decide) rfl rfl rfl (Nat.le_of_ble_eq_true rfl) (oDec_at oX12_book 23 rfl) (fun u57 pu57 fu57 => ?_)
            try dsimp only at pu57
            try simp only [lk49, lk50, lk51, lk52, lk53, lk54, lk55] at pu57
            obtain ⟨pu57_0, pu57_1, pu57_2, pu57_3⟩ := pu57
            refine r_goto C (tgt := 23) (oDec_at oX12_book 24 rfl) (by decide) ?_
            have lk59 : ((u57).1 71 1).toInt = (t.1 71 1).toInt := congrArg Int32.toInt (((fu57 71 1 rfl).1).trans ((fu22 71 1 rfl).1))
            have hj := oB1_f ((u57).1 71 5)
            exact (ih (n - 1) (by omega)).1 (u57)   pu57_0 (by omega) (by omega) (by omega) (by omega) (by omega)
      · intro t x1  iv0 iv1 iv2 iv3 iv4 hmu
        have rx1 := n_rng x1
        refine r_iload_n C (j := 1) (oDec_at oX12_book 52 rfl) rfl rfl ?_
        refine r_bipush C (oDec_at oX12_book 53 rfl) (v := k24) (by rw [qk24]; rfl) ?_
        refine r_icmp_ge C 130 (oDec_at oX12_book 54 rfl) (by decide) (fun cd60 => ?_) (fun cd60 => ?_)
        · skip
          have hq61 : oCg (t) := oCf_g iv2 (by omega)
          refine r_iconst C (oDec_at oX12_book 77 rfl) (v := k0) (by rw [qk0]; rfl) ?_
          refine r_istore_n C (lv' := [(0, .ref (oad E 71)), (1, .int k0)]) [1, 0] (oDec_at oX12_book 78 rfl) rfl (by decide) rfl ?_
          exact (ih (n - 1) (by omega)).2.2.1 (t) k0  iv0 iv1 hq61 (by omega) (by omega) (by omega)
        · skip
          refine r_aload_n C (j := 0) (oDec_at oX12_book 55 rfl) rfl rfl ?_
          refine r_getF (k := 50) (b := 105) C oCl12 rfl (by decide) flX12_117 rfl rfl rfl (oDec_at oX12_book 56 rfl) ?_
          refine r_iload_n C (j := 1) (oDec_at oX12_book 57 rfl) rfl rfl ?_
          refine r_aload_n C (j := 0) (oDec_at oX12_book 58 rfl) rfl rfl ?_
          refine r_getF (k := 50) (b := 105) C oCl12 rfl (by decide) flX12_117 rfl rfl rfl (oDec_at oX12_book 59 rfl) ?_
          refine r_bipush C (oDec_at oX12_book 60 rfl) (v := k24) (by rw [qk24]; rfl) ?_
          refine r_pc C 105 rfl ?_
          refine r_iload_n C (j := 1) (oDec_at oX12_book 61 rfl) rfl rfl ?_
          obtain ⟨v62, ev62⟩ : ∃ z : Int32, z = k24 + x1 := ⟨_, rfl⟩
          have hv62 : v62.toInt = k24.toInt + x1.toInt := n_add ev62 (by omega) (by omega)
          refine r_iadd C v62 (oDec_at oX12_book 62 rfl) ev62 ?_
          obtain ⟨v64, ev64⟩ : ∃ z : Int32, (t).1 105 v62.toNatClampNeg = z := ⟨_, rfl⟩
          have gv64 : (t.1 105 v62.toNatClampNeg).toInt = v64.toInt := congrArg Int32.toInt (ev64)
          refine r_iald (n := 48) (lo := 0) (hi := 1600) C v64 rfl (by decide) rfl rfl ⟨by omega, by omega⟩ (by decide) ev64 rfl rfl (oDec_at oX12_book 63 rfl) (fun b63 b63h => ?_)
          have hq1 := oIxA 24 (i := v62) (x := x1) ev64 (by omega) (by omega)
          refine r_iast (n := 48) (lo := 0) (hi := 1600) C rfl (by decide) rfl rfl ⟨by omega, by omega⟩ (by decide) rfl rfl rfl rfl ⟨by omega, by omega⟩ (oDec_at oX12_book 64 rfl) ?_
          refine r_aload_n C (j := 0) (oDec_at oX12_book 65 rfl) rfl rfl ?_
          refine r_getF (k := 51) (b := 106) C oCl12 rfl (by decide) flX12_120 rfl rfl rfl (oDec_at oX12_book 66 rfl) ?_
          refine r_pc C 113 rfl ?_
          refine r_iload_n C (j := 1) (oDec_at oX12_book 67 rfl) rfl rfl ?_
          refine r_aload_n C (j := 0) (oDec_at oX12_book 68 rfl) rfl rfl ?_
          refine r_getF (k := 51) (b := 106) C oCl12 rfl (by decide) flX12_120 rfl rfl rfl (oDec_at oX12_book 69 rfl) ?_
          refine r_bipush C (oDec_at oX12_book 70 rfl) (v := k24) (by rw [qk24]; rfl) ?_
          refine r_iload_n C (j := 1) (oDec_at oX12_book 71 rfl) rfl rfl ?_
          obtain ⟨v65, ev65⟩ : ∃ z : Int32, z = k24 + x1 := ⟨_, rfl⟩
          have hv65 : v65.toInt = k24.toInt + x1.toInt := n_add ev65 (by omega) (by omega)
          refine r_iadd C v65 (oDec_at oX12_book 72 rfl) ev65 ?_
          refine r_pc C 122 rfl ?_
          obtain ⟨v67, ev67⟩ : ∃ z : Int32, ((pI t 105 x1.toNatClampNeg v64)).1 106 v65.toNatClampNeg = z := ⟨_, rfl⟩
          have av67 : t.1 106 v65.toNatClampNeg = v67 := ((pI_ne (a := 106) (b := v65.toNatClampNeg) (c := 105) _ _ (Or.inl (by decide)))).symm.trans ev67
          have gv67 : (t.1 106 v65.toNatClampNeg).toInt = v67.toInt := congrArg Int32.toInt (((pI_ne (a := 106) (b := v65.toNatClampNeg) (c := 105) _ _ (Or.inl (by decide)))).symm.trans ev67)
          refine r_iald (n := 48) (lo := 0) (hi := 1600) C v67 rfl (by decide) rfl rfl ⟨by omega, by omega⟩ (by decide) ev67 rfl rfl (oDec_at oX12_book 73 rfl) (fun b66 b66h => ?_)
          have hq2 := oIxA 24 (i := v65) (x := x1) ev67 (by omega) (by omega)
          refine r_iast (n := 48) (lo := 0) (hi := 1600) C rfl (by decide) rfl rfl ⟨by omega, by omega⟩ (by decide) rfl rfl rfl rfl ⟨by omega, by omega⟩ (oDec_at oX12_book 74 rfl) ?_
          have hq68 : oBD ((pI (pI t 105 x1.toNatClampNeg v64) 106 x1.toNatClampNeg v67)) := oBD_lo iv0 (by omega)
          obtain ⟨v69, ev69⟩ : ∃ z : Int32, x1 + Int32.ofInt 1 = z := ⟨_, rfl⟩
          have hv69 : v69.toInt = x1.toInt + 1 := n_inc ev69 (by decide) (by omega) (by omega)
          refine r_iinc C (j := 1) (lv' := [(0, .ref (oad E 71)), (1, .int v69)]) v69 [1, 0] (oDec_at oX12_book 75 rfl) rfl ev69 (by decide) rfl ?_
          refine r_goto C (tgt := 88) (oDec_at oX12_book 76 rfl) (by decide) ?_
          have lk70 : (((pI (pI t 105 x1.toNatClampNeg v64) 106 x1.toNatClampNeg v67)).1 71 1).toInt = (t.1 71 1).toInt := congrArg Int32.toInt (((pI_ne (a := 71) (b := 1) (c := 106) _ _ (Or.inl (by decide)))).trans ((pI_ne (a := 71) (b := 1) (c := 105) _ _ (Or.inl (by decide)))))
          exact (ih (n - 1) (by omega)).2.1 ((pI (pI t 105 x1.toNatClampNeg v64) 106 x1.toNatClampNeg v67)) v69  hq68 (oM2_fr (oFr_oneI (q := 82) (m := 9999) rfl (by rfl)) rfl (oM2_fr (oFr_oneI (q := 81) (m := 9999) rfl (by rfl)) rfl iv1)) (by first | exact oCf_step (x := x1) (y := v69) iv2 (by omega) (by omega) (by assumption) (by assumption) | exact oCf_0 (by omega)) (by omega) (by omega) (by omega)
      · intro t x1  iv0 iv1 iv2 iv3 iv4 hmu
        have rx1 := n_rng x1
        refine r_ty C (fun hty => ?_)
        have hty_coded : (0 : Int) ≤ ((t).1 71 45).toInt ∧ ((t).1 71 45).toInt ≤ 1600 := hty.1 71 45
        clear hty
        refine r_iload_n C (j := 1) (oDec_at oX12_book 79 rfl) rfl rfl ?_
        refine r_bipush C (oDec_at oX12_book 80 rfl) (v := k6) (by rw [qk6]; rfl) ?_
        refine r_icmp_ge C 159 (oDec_at oX12_book 81 rfl) (by decide) (fun cd71 => ?_) (fun cd71 => ?_)
        · skip
          refine r_iconst C (oDec_at oX12_book 94 rfl) (v := k0) (by rw [qk0]; rfl) ?_
          refine r_istore_n C (lv' := [(0, .ref (oad E 71)), (1, .int k0)]) [1, 0] (oDec_at oX12_book 95 rfl) rfl (by decide) rfl ?_
          exact (ih (n - 1) (by omega)).2.2.2 (t) k0  iv0 iv1 iv2 (by first | exact oCc_step (x := x1) (y := k0) iv3 (by omega) (by omega) (by assumption) | exact oCc_0 (by omega)) (by omega) (by omega) (by omega)
        · skip
          refine r_aload_n C (j := 0) (oDec_at oX12_book 82 rfl) rfl rfl ?_
          refine r_getF (k := 52) (b := 107) C oCl12 rfl (by decide) flX12_123 rfl rfl rfl (oDec_at oX12_book 83 rfl) ?_
          refine r_iload_n C (j := 1) (oDec_at oX12_book 84 rfl) rfl rfl ?_
          refine r_aload_n C (j := 0) (oDec_at oX12_book 85 rfl) rfl rfl ?_
          refine r_getF (k := 52) (b := 107) C oCl12 rfl (by decide) flX12_123 rfl rfl rfl (oDec_at oX12_book 86 rfl) ?_
          refine r_bipush C (oDec_at oX12_book 87 rfl) (v := k6) (by rw [qk6]; rfl) ?_
          refine r_pc C 149 rfl ?_
          refine r_iload_n C (j := 1) (oDec_at oX12_book 88 rfl) rfl rfl ?_
          obtain ⟨v72, ev72⟩ : ∃ z : Int32, z = k6 + x1 := ⟨_, rfl⟩
          have hv72 : v72.toInt = k6.toInt + x1.toInt := n_add ev72 (by omega) (by omega)
          refine r_iadd C v72 (oDec_at oX12_book 89 rfl) ev72 ?_
          obtain ⟨v73, ev73⟩ : ∃ z : Int64, (t).2.1 107 v72.toNatClampNeg = z := ⟨_, rfl⟩
          refine r_lald (n := 12) C v73 rfl (by decide) rfl rfl ⟨by omega, by omega⟩ (by decide) ev73 (oDec_at oX12_book 90 rfl) ?_
          refine r_last (n := 12) C rfl (by decide) rfl rfl ⟨by omega, by omega⟩ (by decide) rfl (oDec_at oX12_book 91 rfl) ?_
          obtain ⟨v74, ev74⟩ : ∃ z : Int32, x1 + Int32.ofInt 1 = z := ⟨_, rfl⟩
          have hv74 : v74.toInt = x1.toInt + 1 := n_inc ev74 (by decide) (by omega) (by omega)
          refine r_iinc C (j := 1) (lv' := [(0, .ref (oad E 71)), (1, .int v74)]) v74 [1, 0] (oDec_at oX12_book 92 rfl) rfl ev74 (by decide) rfl ?_
          refine r_goto C (tgt := 132) (oDec_at oX12_book 93 rfl) (by decide) ?_
          have lk75 : (((pL t 107 x1.toNatClampNeg v73)).1 71 1).toInt = (t.1 71 1).toInt := congrArg Int32.toInt ((show ((pL t 107 x1.toNatClampNeg v73)).1 71 1 = t.1 71 1 from rfl))
          exact (ih (n - 1) (by omega)).2.2.1 ((pL t 107 x1.toNatClampNeg v73)) v74  (oBD_fr (oFr_oneL (q := 83) (m := 9999) rfl (by rfl)) rfl iv0) (oM2_fr (oFr_oneL (q := 83) (m := 9999) rfl (by rfl)) rfl iv1) (oCg_fr (oFr_oneL (q := 83) (m := 9999) rfl (by rfl)) rfl iv2) (by omega) (by omega) (by omega)
      · intro t x1  iv0 iv1 iv2 iv3 iv4 iv5 hmu
        have rx1 := n_rng x1
        refine r_ty C (fun hty => ?_)
        have hty_coded : (0 : Int) ≤ ((t).1 71 45).toInt ∧ ((t).1 71 45).toInt ≤ 1600 := hty.1 71 45
        clear hty
        refine r_iload_n C (j := 1) (oDec_at oX12_book 96 rfl) rfl rfl ?_
        refine r_aload_n C (j := 0) (oDec_at oX12_book 97 rfl) rfl rfl ?_
        obtain ⟨v76, ev76⟩ : ∃ z : Int32, (t).1 71 45 = z := ⟨_, rfl⟩
        have gv76 : (t.1 71 45).toInt = v76.toInt := congrArg Int32.toInt (ev76)
        refine r_geti (k := 45) (lo := 0) (hi := 1600) C v76 oCl12 rfl (by decide) flX12_234 rfl rfl (ev76) rfl rfl (oDec_at oX12_book 98 rfl) (fun b77 b77h => ?_)
        refine r_icmp_ge C 191 (oDec_at oX12_book 99 rfl) (by decide) (fun cd78 => ?_) (fun cd78 => ?_)
        · skip
          have lk79 : ((t).1 71 45).toInt = v76.toInt := congrArg Int32.toInt (ev76)
          refine r_ty C (fun hty => ?_)
          have hmD : ∀ i : Nat, (0 : Int) ≤ ((t).1 104 i).toInt ∧ ((t).1 104 i).toInt ≤ 12 := fun i => hty.1 104 i
          have hmD2 := hmD 2
          have hmD3 := hmD 3
          clear hty
          have hq80 : oBI (t) := oBI_of iv0 iv1 iv2 iv3 (by omega) (by omega) hmD
          refine r_aload_n C (j := 0) (oDec_at oX12_book 112 rfl) rfl rfl ?_
          refine r_iconst C (oDec_at oX12_book 113 rfl) (v := k0) (by rw [qk0]; rfl) ?_
          refine r_puti (k := 69) (lo := 0) (hi := 1) C oCl12 rfl (by decide) flX12_270 rfl rfl rfl rfl rfl (n_bool (by omega)) (n_fitz (by omega)) rfl ⟨by omega, by omega⟩ (oDec_at oX12_book 114 rfl) ?_
          refine r_aload_n C (j := 0) (oDec_at oX12_book 115 rfl) rfl rfl ?_
          obtain ⟨v81, ev81⟩ : ∃ z : Int32, ((pI t 71 69 k0)).1 71 37 = z := ⟨_, rfl⟩
          have gv81 : (t.1 71 37).toInt = v81.toInt := congrArg Int32.toInt (((pI_ne (a := 71) (b := 37) (c := 71) (k := 69) _ _ (Or.inr (by decide)))).symm.trans ev81)
          have ggv81 : (((pI t 71 69 k0)).1 71 37).toInt = v81.toInt := congrArg Int32.toInt ev81
          refine r_geti (k := 37) (lo := 0) (hi := 60) C v81 oCl12 rfl (by decide) flX12_231 rfl rfl (ev81) rfl rfl (oDec_at oX12_book 116 rfl) (fun b82 b82h => ?_)
          have lk83 : (((pI t 71 69 k0)).1 71 1).toInt = (t.1 71 1).toInt := congrArg Int32.toInt ((pI_ne (a := 71) (b := 1) (c := 71) (k := 69) _ _ (Or.inr (by decide))))
          exact r_iret C (oDec_at oX12_book 117 rfl) ⟨_, rfl, ⟨(oBI_fr (oFr_oneI (q := 12) (m := 69) rfl (by rfl)) rfl hq80), by omega⟩⟩
        · skip
          refine r_aload_n C (j := 0) (oDec_at oX12_book 100 rfl) rfl rfl ?_
          refine r_getF (k := 44) (b := 102) C oCl12 rfl (by decide) flX12_108 rfl rfl rfl (oDec_at oX12_book 101 rfl) ?_
          refine r_iload_n C (j := 1) (oDec_at oX12_book 102 rfl) rfl rfl ?_
          refine r_aload_n C (j := 0) (oDec_at oX12_book 103 rfl) rfl rfl ?_
          refine r_getF (k := 44) (b := 102) C oCl12 rfl (by decide) flX12_108 rfl rfl rfl (oDec_at oX12_book 104 rfl) ?_
          refine r_sipush C (oDec_at oX12_book 105 rfl) (v := k1600) (by rw [qk1600]; rfl) ?_
          refine r_pc C 181 rfl ?_
          refine r_iload_n C (j := 1) (oDec_at oX12_book 106 rfl) rfl rfl ?_
          obtain ⟨v84, ev84⟩ : ∃ z : Int32, z = k1600 + x1 := ⟨_, rfl⟩
          have hv84 : v84.toInt = k1600.toInt + x1.toInt := n_add ev84 (by omega) (by omega)
          refine r_iadd C v84 (oDec_at oX12_book 107 rfl) ev84 ?_
          obtain ⟨v86, ev86⟩ : ∃ z : Int32, (t).1 102 v84.toNatClampNeg = z := ⟨_, rfl⟩
          have gv86 : (t.1 102 v84.toNatClampNeg).toInt = v86.toInt := congrArg Int32.toInt (ev86)
          have rv86 := n_rng v86
          refine r_iald (n := 3200) (lo := (-2147483648)) (hi := 2147483647) C v86 rfl (by decide) rfl rfl ⟨by omega, by omega⟩ (by decide) ev86 rfl rfl (oDec_at oX12_book 108 rfl) (fun _ _ => ?_)
          have hq1 := oIxA 1600 (i := v84) (x := x1) ev86 (by omega) (by omega)
          refine r_iast (n := 3200) (lo := (-2147483648)) (hi := 2147483647) C rfl (by decide) rfl rfl ⟨by omega, by omega⟩ (by decide) rfl rfl rfl rfl (n_rng _) (oDec_at oX12_book 109 rfl) ?_
          have hq87 : oBD ((pI t 102 x1.toNatClampNeg v86)) := oBD_cd iv0 (by omega)
          obtain ⟨v88, ev88⟩ : ∃ z : Int32, x1 + Int32.ofInt 1 = z := ⟨_, rfl⟩
          have hv88 : v88.toInt = x1.toInt + 1 := n_inc ev88 (by decide) (by omega) (by omega)
          refine r_iinc C (j := 1) (lv' := [(0, .ref (oad E 71)), (1, .int v88)]) v88 [1, 0] (oDec_at oX12_book 110 rfl) rfl ev88 (by decide) rfl ?_
          refine r_goto C (tgt := 161) (oDec_at oX12_book 111 rfl) (by decide) ?_
          have lk89 : (((pI t 102 x1.toNatClampNeg v86)).1 71 45).toInt = v76.toInt := congrArg Int32.toInt (((pI_ne (a := 71) (b := 45) (c := 102) _ _ (Or.inl (by decide)))).trans (ev76))
          have lk90 : (((pI t 102 x1.toNatClampNeg v86)).1 71 1).toInt = (t.1 71 1).toInt := congrArg Int32.toInt ((pI_ne (a := 71) (b := 1) (c := 102) _ _ (Or.inl (by decide))))
          exact (ih (n - 1) (by omega)).2.2.2 ((pI t 102 x1.toNatClampNeg v86)) v88  hq87 (oM2_fr (oFr_oneI (q := 78) (m := 9999) rfl (by rfl)) rfl iv1) (oCg_fr (oFr_oneI (q := 78) (m := 9999) rfl (by rfl)) rfl iv2) (by first | exact oCc_step (x := x1) (y := v88) iv3 (by omega) (by omega) (by assumption) | exact oCc_0 (by omega)) (by omega) (by omega) (by omega)
  refine r_aload_n C (j := 0) (oDec_at oX12_book 0 rfl) rfl rfl ?_
  refine r_callVv C oCl12 rfl miX12_begins mlX12_252 (ct_X12_begins l E (s)  ) (by decide) rfl rfl rfl (Nat.le_of_ble_eq_true rfl) (oDec_at oX12_book 1 rfl) (fun u91 pu91 fu91 => ?_)
  try dsimp only at pu91
  obtain ⟨pu91_0, pu91_1, pu91_2, pu91_3, pu91_4⟩ := pu91
  refine r_aload_n C (j := 0) (oDec_at oX12_book 2 rfl) rfl rfl ?_
  refine r_getF (k := 49) (b := 104) C oCl12 rfl (by decide) flX12_114 rfl rfl rfl (oDec_at oX12_book 3 rfl) ?_
  refine r_iconst C (oDec_at oX12_book 4 rfl) (v := k2) (by rw [qk2]; rfl) ?_
  refine r_iconst C (oDec_at oX12_book 5 rfl) (v := k0) (by rw [qk0]; rfl) ?_
  refine r_pc C 10 rfl ?_
  refine r_iast (n := 4) (lo := 0) (hi := 12) C rfl (by decide) rfl rfl ⟨by omega, by omega⟩ (by decide) rfl rfl rfl rfl ⟨by omega, by omega⟩ (oDec_at oX12_book 6 rfl) ?_
  refine r_aload_n C (j := 0) (oDec_at oX12_book 7 rfl) rfl rfl ?_
  refine r_getF (k := 49) (b := 104) C oCl12 rfl (by decide) flX12_114 rfl rfl rfl (oDec_at oX12_book 8 rfl) ?_
  refine r_iconst C (oDec_at oX12_book 9 rfl) (v := k3) (by rw [qk3]; rfl) ?_
  refine r_iconst C (oDec_at oX12_book 10 rfl) (v := k0) (by rw [qk0]; rfl) ?_
  refine r_iast (n := 4) (lo := 0) (hi := 12) C rfl (by decide) rfl rfl ⟨by omega, by omega⟩ (by decide) rfl rfl rfl rfl ⟨by omega, by omega⟩ (oDec_at oX12_book 11 rfl) ?_
  refine r_pc C 18 rfl ?_
  have hc3 := oMny3 (s := (pI u91 104 k2.toNatClampNeg k0)) (i := k3) (z := k0)
  have hq93 : oBB ((pI (pI u91 104 k2.toNatClampNeg k0) 104 k3.toNatClampNeg k0)) := oBB_init (oBI_fr fu91 rfl hp0) ek2 ek3 ek0 ek0
  refine r_aload_n C (j := 0) (oDec_at oX12_book 12 rfl) rfl rfl ?_
  refine r_iconst C (oDec_at oX12_book 13 rfl) (v := k4) (by rw [qk4]; rfl) ?_
  refine r_puti (k := 54) (lo := (-2147483648)) (hi := 2147483647) C oCl12 rfl (by decide) flX12_344 rfl rfl rfl rfl rfl rfl rfl rfl (n_rng _) (oDec_at oX12_book 14 rfl) ?_
  have lk94 : (((pI (pI (pI u91 104 k2.toNatClampNeg k0) 104 k3.toNatClampNeg k0) 71 54 k4)).1 71 5).toInt = (u91.1 71 5).toInt := congrArg Int32.toInt (((pI_ne (a := 71) (b := 5) (c := 71) (k := 54) _ _ (Or.inr (by decide)))).trans (((pI_ne (a := 71) (b := 5) (c := 104) _ _ (Or.inl (by decide)))).trans ((pI_ne (a := 71) (b := 5) (c := 104) _ _ (Or.inl (by decide))))))
  have lk95 : (((pI (pI (pI u91 104 k2.toNatClampNeg k0) 104 k3.toNatClampNeg k0) 71 54 k4)).1 71 45).toInt = (u91.1 71 45).toInt := congrArg Int32.toInt (((pI_ne (a := 71) (b := 45) (c := 71) (k := 54) _ _ (Or.inr (by decide)))).trans (((pI_ne (a := 71) (b := 45) (c := 104) _ _ (Or.inl (by decide)))).trans ((pI_ne (a := 71) (b := 45) (c := 104) _ _ (Or.inl (by decide))))))
  have lk96 : (((pI (pI (pI u91 104 k2.toNatClampNeg k0) 104 k3.toNatClampNeg k0) 71 54 k4)).1 71 2).toInt = (u91.1 71 2).toInt := congrArg Int32.toInt (((pI_ne (a := 71) (b := 2) (c := 71) (k := 54) _ _ (Or.inr (by decide)))).trans (((pI_ne (a := 71) (b := 2) (c := 104) _ _ (Or.inl (by decide)))).trans ((pI_ne (a := 71) (b := 2) (c := 104) _ _ (Or.inl (by decide))))))
  have lk97 : (((pI (pI (pI u91 104 k2.toNatClampNeg k0) 104 k3.toNatClampNeg k0) 71 54 k4)).1 71 5).toInt = (u91.1 71 5).toInt := congrArg Int32.toInt (((pI_ne (a := 71) (b := 5) (c := 71) (k := 54) _ _ (Or.inr (by decide)))).trans (((pI_ne (a := 71) (b := 5) (c := 104) _ _ (Or.inl (by decide)))).trans ((pI_ne (a := 71) (b := 5) (c := 104) _ _ (Or.inl (by decide))))))
  have lk98 : (((pI (pI (pI u91 104 k2.toNatClampNeg k0) 104 k3.toNatClampNeg k0) 71 54 k4)).1 71 54).toInt = k4.toInt := congrArg Int32.toInt ((pI_self _ _ _ _))
  have lc99 : (((pI (pI (pI u91 104 k2.toNatClampNeg k0) 104 k3.toNatClampNeg k0) 71 54 k4)).1 104 3).toInt = (((pI (pI u91 104 k2.toNatClampNeg k0) 104 k3.toNatClampNeg k0)).1 104 3).toInt := congrArg Int32.toInt ((pI_ne (a := 104) (b := 3) (c := 71) _ _ (Or.inl (by decide))))
  have lk100 : (((pI (pI (pI u91 104 k2.toNatClampNeg k0) 104 k3.toNatClampNeg k0) 71 54 k4)).1 71 1).toInt = (u91.1 71 1).toInt := congrArg Int32.toInt (((pI_ne (a := 71) (b := 1) (c := 71) (k := 54) _ _ (Or.inr (by decide)))).trans (((pI_ne (a := 71) (b := 1) (c := 104) _ _ (Or.inl (by decide)))).trans ((pI_ne (a := 71) (b := 1) (c := 104) _ _ (Or.inl (by decide))))))
  have lk101 : (((pI (pI (pI u91 104 k2.toNatClampNeg k0) 104 k3.toNatClampNeg k0) 71 54 k4)).1 71 37).toInt = (u91.1 71 37).toInt := congrArg Int32.toInt (((pI_ne (a := 71) (b := 37) (c := 71) (k := 54) _ _ (Or.inr (by decide)))).trans (((pI_ne (a := 71) (b := 37) (c := 104) _ _ (Or.inl (by decide)))).trans ((pI_ne (a := 71) (b := 37) (c := 104) _ _ (Or.inl (by decide))))))
  have hj := oB1_f (((pI (pI (pI u91 104 k2.toNatClampNeg k0) 104 k3.toNatClampNeg k0) 71 54 k4)).1 71 5)
  exact (key (10000 + 2 * (61 - (((pI (pI (pI u91 104 k2.toNatClampNeg k0) 104 k3.toNatClampNeg k0) 71 54 k4)).1 71 37).toInt) + oB1 (((pI (pI (pI u91 104 k2.toNatClampNeg k0) 104 k3.toNatClampNeg k0) 71 54 k4)).1 71 5)).toNat).1 ((pI (pI (pI u91 104 k2.toNatClampNeg k0) 104 k3.toNatClampNeg k0) 71 54 k4))   (oBB_fr (oFr_oneI (q := 12) (m := 54) rfl (by rfl)) rfl hq93) (by omega) (by omega) (by omega) (by omega) (by omega)
