set_option maxHeartbeats 4000000 in
set_option maxRecDepth 100000 in
theorem ct9_X12_testTold (l : Launch) (E : oE) (s : oS) (a1 : Int32) (g : Int → Int) (fp : Int) (fq : Int) (w : Int) (Z : List Int) (Cq : Nat → Int32) (Fq : Nat → Int32) (Tq : Nat → Int32) (nq : Int32) (hp0 : oBB s) (hp1 : 0 ≤ a1.toInt ∧ a1.toInt ≤ 1) (hp2 : a1.toInt = 0 → (s.1 104 2).toInt ≤ 11) (hp3 : a1.toInt = 1 → (s.1 104 3).toInt ≤ 5) (hp4 : (s.1 104 3).toInt ≤ 6) (hp5 : (s.1 71 5).toInt = 0) (hp6 : (s.1 71 45).toInt + 3 ≤ (s.1 71 2).toInt) (hp7 : (s.1 71 2).toInt = w ∧ (s.1 71 4).toInt = w) (hp8 : (a1.toInt = 1 ∧ fp = 19 ∧ fq = 24) ∨ (a1.toInt = 0 ∧ fp = 11 ∧ fq = 19)) (hp9 : oqBP s) (hp10 : oqZ g s) (hp11 : oqWd s) (hp12 : owYl Z s) (hp13 : owC0 Cq s) (hp14 : owLw Fq Tq nq s) : oMet l 9 yX12_testTold cX12_testTold 3 none [(12, 2), (12, 4), (12, 5), (12, 6), (12, 9), (12, 45), (12, 47), (12, 48), (12, 55), (12, 56), (78, 9999), (79, 9999), (80, 9999), (81, 9999), (82, 9999)] E s [.ref (oad E 71), .int a1] (oPv (fun u => (oBB u) ∧ ((u.1 71 5).toInt = 0 → ((u.1 71 45).toInt ≤ (u.1 71 2).toInt ∧ (s.1 71 5).toInt = 0)) ∧ ((u.1 104 3).toInt ≤ 6) ∧ ((s.1 71 2).toInt ≤ (u.1 71 2).toInt) ∧ (oqVs g fp fq w u) ∧ ((u.1 104 2).toInt = (s.1 104 2).toInt + (1 - a1.toInt)) ∧ ((u.1 104 3).toInt = (s.1 104 3).toInt + a1.toInt) ∧ (oqBP u) ∧ (owC0 Cq u) ∧ (owLw Fq Tq nq u) ∧ ((u.1 71 5).toInt = 0 → a1.toInt = 0 → owTd g fp fq w (24 + (s.1 104 2).toInt) Z s u) ∧ ((u.1 71 5).toInt = 0 → a1.toInt = 1 → owTd g fp fq w (36 + (s.1 104 3).toInt) Z s u))) := by
  refine oMet.of (lv := [(0, .ref (oad E 71)), (1, .int a1)]) (by decide +kernel) (Nat.le_of_ble_eq_true rfl) rfl (fun J C hT => ?_)
  have C : oC l 9 cX12_testTold RX12 3 none [(12, 2), (12, 4), (12, 5), (12, 6), (12, 9), (12, 45), (12, 47), (12, 48), (12, 55), (12, 56), (78, 9999), (79, 9999), (80, 9999), (81, 9999), (82, 9999)] E s (oPv (fun u => (oBB u) ∧ ((u.1 71 5).toInt = 0 → ((u.1 71 45).toInt ≤ (u.1 71 2).toInt ∧ (s.1 71 5).toInt = 0)) ∧ ((u.1 104 3).toInt ≤ 6) ∧ ((s.1 71 2).toInt ≤ (u.1 71 2).toInt) ∧ (oqVs g fp fq w u) ∧ ((u.1 104 2).toInt = (s.1 104 2).toInt + (1 - a1.toInt)) ∧ ((u.1 104 3).toInt = (s.1 104 3).toInt + a1.toInt) ∧ (oqBP u) ∧ (owC0 Cq u) ∧ (owLw Fq Tq nq u) ∧ ((u.1 71 5).toInt = 0 → a1.toInt = 0 → owTd g fp fq w (24 + (s.1 104 2).toInt) Z s u) ∧ ((u.1 71 5).toInt = 0 → a1.toInt = 1 → owTd g fp fq w (36 + (s.1 104 3).toInt) Z s u))) J := C
  obtain ⟨k0, qk0⟩ : ∃ z : Int32, z = 0 := ⟨_, rfl⟩
  have ek0 : k0.toInt = 0 := by rw [qk0]; rfl
  obtain ⟨k1, qk1⟩ : ∃ z : Int32, z = 1 := ⟨_, rfl⟩
  have ek1 : k1.toInt = 1 := by rw [qk1]; rfl
  obtain ⟨k2, qk2⟩ : ∃ z : Int32, z = 2 := ⟨_, rfl⟩
  have ek2 : k2.toInt = 2 := by rw [qk2]; rfl
  obtain ⟨k12, qk12⟩ : ∃ z : Int32, z = 12 := ⟨_, rfl⟩
  have ek12 : k12.toInt = 12 := by rw [qk12]; rfl
  obtain ⟨k24, qk24⟩ : ∃ z : Int32, z = 24 := ⟨_, rfl⟩
  have ek24 : k24.toInt = 24 := by rw [qk24]; rfl
  have rg1 := n_rng a1
  have htz_coded : (0 : Int) ≤ (s.1 71 45).toInt ∧ (s.1 71 45).toInt ≤ 1600 := hT.1 71 45
  have htz_at : (0 : Int) ≤ (s.1 71 2).toInt ∧ (s.1 71 2).toInt ≤ 1600 := hT.1 71 2
  have hge := oqSk_ge g w
  have hHa6 : oqHa g w 6 = oqSk g w + (oqWl 6 : Int) := rfl
  have hl6 : oqWl 6 = 4 := rfl
  have hq1 : owR5 (s.1 105) (s) := rfl
  have hq2 : owR6 (s.1 106) (s) := rfl
  refine r_bipush C (oDec_at oX12_testTold 0 rfl) (v := k24) (by rw [qk24]; rfl) ?_
  refine r_bipush C (oDec_at oX12_testTold 1 rfl) (v := k12) (by rw [qk12]; rfl) ?_
  refine r_iload_n C (j := 1) (oDec_at oX12_testTold 2 rfl) rfl rfl ?_
  obtain ⟨v3, ev3⟩ : ∃ z : Int32, z = k12 * a1 := ⟨_, rfl⟩
  have hv3 : v3.toInt = 12 * a1.toInt := n_mulK' 12 ev3 ek12 (by omega) (by omega)
  refine r_imul C v3 (oDec_at oX12_testTold 3 rfl) ev3 ?_
  obtain ⟨v4, ev4⟩ : ∃ z : Int32, z = k24 + v3 := ⟨_, rfl⟩
  have hv4 : v4.toInt = k24.toInt + v3.toInt := n_add ev4 (by omega) (by omega)
  refine r_iadd C v4 (oDec_at oX12_testTold 4 rfl) ev4 ?_
  refine r_aload_n C (j := 0) (oDec_at oX12_testTold 5 rfl) rfl rfl ?_
  refine r_pc C 8 rfl ?_
  refine r_getF (k := 49) (b := 104) C oCl12 rfl (by decide) flX12_114 rfl rfl rfl (oDec_at oX12_testTold 6 rfl) ?_
  refine r_iconst C (oDec_at oX12_testTold 7 rfl) (v := k2) (by rw [qk2]; rfl) ?_
  refine r_iload_n C (j := 1) (oDec_at oX12_testTold 8 rfl) rfl rfl ?_
  obtain ⟨v5, ev5⟩ : ∃ z : Int32, z = k2 + a1 := ⟨_, rfl⟩
  have hv5 : v5.toInt = k2.toInt + a1.toInt := n_add ev5 (by omega) (by omega)
  refine r_iadd C v5 (oDec_at oX12_testTold 9 rfl) ev5 ?_
  obtain ⟨v7, ev7⟩ : ∃ z : Int32, (s).1 104 v5.toNatClampNeg = z := ⟨_, rfl⟩
  have gv7 : (s.1 104 v5.toNatClampNeg).toInt = v7.toInt := congrArg Int32.toInt (ev7)
  refine r_iald (n := 4) (lo := 0) (hi := 12) C v7 rfl (by decide) rfl rfl ⟨by omega, by omega⟩ (by decide) ev7 rfl rfl (oDec_at oX12_testTold 10 rfl) (fun b6 b6h => ?_)
  have hix := oIxM (i := v5) ev7
  obtain ⟨v8, ev8⟩ : ∃ z : Int32, z = v4 + v7 := ⟨_, rfl⟩
  have hv8 : v8.toInt = v4.toInt + v7.toInt := n_add ev8 (by omega) (by omega)
  refine r_iadd C v8 (oDec_at oX12_testTold 11 rfl) ev8 ?_
  refine r_pc C 16 rfl ?_
  have hm2 : owHid (a1.toInt = 0 → v8.toInt = 24 + (s.1 104 2).toInt) := fun h9 => by omega
  have hm3 : owHid (a1.toInt = 1 → v8.toInt = 36 + (s.1 104 3).toInt) := fun h9 => by omega
  have hi20 : (((v8).toNatClampNeg : Nat) : Int) = v8.toInt := by have h9 := n_nat (v8); omega
  refine r_istore_n C (lv' := [(0, .ref (oad E 71)), (1, .int a1), (2, .int v8)]) [1, 2, 0] (oDec_at oX12_testTold 12 rfl) rfl (by decide) rfl ?_
  refine r_aload_n C (j := 0) (oDec_at oX12_testTold 13 rfl) rfl rfl ?_
  refine r_aload_n C (j := 0) (oDec_at oX12_testTold 14 rfl) rfl rfl ?_
  refine r_getF (k := 16) (b := 79) C oCl12 rfl (by decide) flX12_36 rfl rfl rfl (oDec_at oX12_testTold 15 rfl) ?_
  refine r_callVv C oCl12 rfl miX12_asks mlX12_240 (ct7_X12_asks l E (s) 79 55 4 rfl (by decide) (by decide) rfl rfl (g) (w) (w) (6) (by omega) hp10 (by omega) rfl (oqWd_at hp11 6 (by decide)) (by omega) hp9) (by decide) rfl rfl rfl (Nat.le_of_ble_eq_true rfl) (oDec_at oX12_testTold 16 rfl) (fun u9 pu9 fu9 => ?_)
  try dsimp only at pu9
  obtain ⟨pu9_0, pu9_1, pu9_2, pu9_3⟩ := pu9
  have lc11 : ((u9).1 104 2).toInt = (s.1 104 2).toInt := congrArg Int32.toInt ((fu9 104 2 rfl).1)
  have lc12 : ((u9).1 104 3).toInt = (s.1 104 3).toInt := congrArg Int32.toInt ((fu9 104 3 rfl).1)
  have lk13 : ((u9).1 71 45).toInt = (s.1 71 45).toInt := congrArg Int32.toInt ((fu9 71 45 rfl).1)
  refine r_ty C (fun hty => ?_)
  have hmU : ∀ i : Nat, (0 : Int) ≤ ((u9).1 104 i).toInt ∧ ((u9).1 104 i).toInt ≤ 12 := fun i => hty.1 104 i
  have hmU2 := hmU 2
  have hmU3 := hmU 3
  clear hty
  refine r_ty C (fun hty => ?_)
  have hty_coded : (0 : Int) ≤ ((u9).1 71 45).toInt ∧ ((u9).1 71 45).toInt ≤ 1600 := hty.1 71 45
  have hty_at : (0 : Int) ≤ ((u9).1 71 2).toInt ∧ ((u9).1 71 2).toInt ≤ 1600 := hty.1 71 2
  clear hty
  refine r_aload_n C (j := 0) (oDec_at oX12_testTold 17 rfl) rfl rfl ?_
  refine r_pc C 26 rfl ?_
  refine r_iload_n C (j := 1) (oDec_at oX12_testTold 18 rfl) rfl rfl ?_
  refine r_iconst C (oDec_at oX12_testTold 19 rfl) (v := k1) (by rw [qk1]; rfl) ?_
  refine r_icmp_ne C 35 (oDec_at oX12_testTold 20 rfl) (by decide) (fun cd14 => ?_) (fun cd14 => ?_)
  · skip
    refine r_iconst C (oDec_at oX12_testTold 23 rfl) (v := k0) (by rw [qk0]; rfl) ?_
    refine r_puti (k := 56) (lo := 0) (hi := 1) C oCl12 rfl (by decide) flX12_295 rfl rfl rfl rfl rfl (n_bool (by omega)) (n_fitz (by omega)) rfl ⟨by omega, by omega⟩ (oDec_at oX12_testTold 24 rfl) ?_
    refine r_aload_n C (j := 0) (oDec_at oX12_testTold 25 rfl) rfl rfl ?_
    refine r_getF (k := 50) (b := 105) C oCl12 rfl (by decide) flX12_117 rfl rfl rfl (oDec_at oX12_testTold 26 rfl) ?_
    refine r_iload_n C (j := 2) (oDec_at oX12_testTold 27 rfl) rfl rfl ?_
    refine r_aload_n C (j := 0) (oDec_at oX12_testTold 28 rfl) rfl rfl ?_
    refine r_pc C 45 rfl ?_
    obtain ⟨v15, ev15⟩ : ∃ z : Int32, ((pI u9 71 56 k0)).1 71 45 = z := ⟨_, rfl⟩
    have gv15 : (s.1 71 45).toInt = v15.toInt := congrArg Int32.toInt ((((pI_ne (a := 71) (b := 45) (c := 71) (k := 56) _ _ (Or.inr (by decide)))).trans ((fu9 71 45 rfl).1)).symm.trans ev15)
    have ggv15 : (((pI u9 71 56 k0)).1 71 45).toInt = v15.toInt := congrArg Int32.toInt ev15
    refine r_geti (k := 45) (lo := 0) (hi := 1600) C v15 oCl12 rfl (by decide) flX12_234 rfl rfl (ev15) rfl rfl (oDec_at oX12_testTold 29 rfl) (fun b16 b16h => ?_)
    have lc17 : (((pI u9 71 56 k0)).1 104 2).toInt = (s.1 104 2).toInt := congrArg Int32.toInt (((pI_ne (a := 104) (b := 2) (c := 71) _ _ (Or.inl (by decide)))).trans ((fu9 104 2 rfl).1))
    have lc18 : (((pI u9 71 56 k0)).1 104 3).toInt = (s.1 104 3).toInt := congrArg Int32.toInt (((pI_ne (a := 104) (b := 3) (c := 71) _ _ (Or.inl (by decide)))).trans ((fu9 104 3 rfl).1))
    have lk19 : (((pI u9 71 56 k0)).1 71 45).toInt = v15.toInt := congrArg Int32.toInt (ev15)
    have lk20 : (((pI u9 71 56 k0)).1 71 5).toInt = (u9.1 71 5).toInt := congrArg Int32.toInt ((pI_ne (a := 71) (b := 5) (c := 71) (k := 56) _ _ (Or.inr (by decide))))
    refine r_ty C (fun hty => ?_)
    have hmA : ∀ i : Nat, (0 : Int) ≤ (((pI u9 71 56 k0)).1 104 i).toInt ∧ (((pI u9 71 56 k0)).1 104 i).toInt ≤ 12 := fun i => hty.1 104 i
    have hmA2 := hmA 2
    have hmA3 := hmA 3
    clear hty
    have hcz9 : owHid ((((pI u9 71 56 k0)).1 71 5).toInt = 0 → v15.toInt = (Z.length : Int)) := fun h9 => by have h8 := oqRy_len (t := (pI u9 71 56 k0)); have h6 := n_nat (((pI u9 71 56 k0)).1 71 45); rw [(show owYl Z ((pI u9 71 56 k0)) from (owYl_fr (oFr_oneI (q := 12) (m := 56) rfl (by rfl)) rfl (owYl_frb fu9 rfl (by omega) hp12))) h9] at h8; omega
    refine r_iast (n := 48) (lo := 0) (hi := 1600) C rfl (by decide) rfl rfl ⟨by omega, by omega⟩ (by decide) rfl rfl rfl rfl ⟨by omega, by omega⟩ (oDec_at oX12_testTold 30 rfl) ?_
    have hq21 : oBB ((pI (pI u9 71 56 k0) 105 v8.toNatClampNeg v15)) := oBB_from (oBB_fr (oFr_oneI (q := 12) (m := 56) rfl (by rfl)) rfl (oBB_frb fu9 rfl (by omega) hp0)) hmA (by omega)
    have hq22 : owR5 (oU (s.1 105) (v8.toNatClampNeg) v15) ((pI (pI u9 71 56 k0) 105 v8.toNatClampNeg v15)) := owR5_pu (owR5_fr (oFr_oneI (q := 12) (m := 56) rfl (by rfl)) rfl (owR5_fr fu9 rfl hq1))
    have hq23 : owLw Fq Tq nq ((pI (pI u9 71 56 k0) 105 v8.toNatClampNeg v15)) := owLw_5 (owLw_fr (oFr_oneI (q := 12) (m := 56) rfl (by rfl)) rfl (owLw_fr fu9 rfl hp14)) (by omega)
    refine r_aload_n C (j := 0) (oDec_at oX12_testTold 31 rfl) rfl rfl ?_
    refine r_iconst C (oDec_at oX12_testTold 32 rfl) (v := k0) (by rw [qk0]; rfl) ?_
    refine r_puti (k := 47) (lo := 0) (hi := 1700) C oCl12 rfl (by decide) flX12_277 rfl rfl rfl rfl rfl rfl rfl rfl ⟨by omega, by omega⟩ (oDec_at oX12_testTold 33 rfl) ?_
    refine r_aload_n C (j := 0) (oDec_at oX12_testTold 34 rfl) rfl rfl ?_
    refine r_pc C 55 rfl ?_
    refine r_iconst C (oDec_at oX12_testTold 35 rfl) (v := k0) (by rw [qk0]; rfl) ?_
    refine r_puti (k := 48) (lo := (-1)) (hi := 7) C oCl12 rfl (by decide) flX12_274 rfl rfl rfl rfl rfl rfl rfl rfl ⟨by omega, by omega⟩ (oDec_at oX12_testTold 36 rfl) ?_
    refine r_aload_n C (j := 0) (oDec_at oX12_testTold 37 rfl) rfl rfl ?_
    refine r_iconst C (oDec_at oX12_testTold 38 rfl) (v := k0) (by rw [qk0]; rfl) ?_
    refine r_puti (k := 55) (lo := 0) (hi := 1700) C oCl12 rfl (by decide) flX12_283 rfl rfl rfl rfl rfl rfl rfl rfl ⟨by omega, by omega⟩ (oDec_at oX12_testTold 39 rfl) ?_
    refine r_aload_n C (j := 0) (oDec_at oX12_testTold 40 rfl) rfl rfl ?_
    refine r_pc C 65 rfl ?_
    obtain ⟨v24, ev24⟩ : ∃ z : Int32, ((pI (pI (pI (pI (pI u9 71 56 k0) 105 v8.toNatClampNeg v15) 71 47 k0) 71 48 k0) 71 55 k0)).1 71 5 = z := ⟨_, rfl⟩
    have gv24 : (u9.1 71 5).toInt = v24.toInt := congrArg Int32.toInt ((((pI_ne (a := 71) (b := 5) (c := 71) (k := 55) _ _ (Or.inr (by decide)))).trans (((pI_ne (a := 71) (b := 5) (c := 71) (k := 48) _ _ (Or.inr (by decide)))).trans (((pI_ne (a := 71) (b := 5) (c := 71) (k := 47) _ _ (Or.inr (by decide)))).trans (((pI_ne (a := 71) (b := 5) (c := 105) _ _ (Or.inl (by decide)))).trans ((pI_ne (a := 71) (b := 5) (c := 71) (k := 56) _ _ (Or.inr (by decide)))))))).symm.trans ev24)
    have ggv24 : (((pI (pI (pI (pI (pI u9 71 56 k0) 105 v8.toNatClampNeg v15) 71 47 k0) 71 48 k0) 71 55 k0)).1 71 5).toInt = v24.toInt := congrArg Int32.toInt ev24
    have rv24 := n_rng v24
    refine r_geti (k := 5) (lo := (-2147483648)) (hi := 2147483647) C v24 oCl12 rfl (by decide) flX12_173 rfl rfl (ev24) rfl rfl (oDec_at oX12_testTold 41 rfl) (fun _ _ => ?_)
    refine r_if_ne C 75 (oDec_at oX12_testTold 42 rfl) (by decide) (fun cd25 => ?_) (fun cd25 => ?_)
    · skip
      have lk26 : (((pI (pI (pI (pI (pI u9 71 56 k0) 105 v8.toNatClampNeg v15) 71 47 k0) 71 48 k0) 71 55 k0)).1 71 2).toInt = (u9.1 71 2).toInt := congrArg Int32.toInt (((pI_ne (a := 71) (b := 2) (c := 71) (k := 55) _ _ (Or.inr (by decide)))).trans (((pI_ne (a := 71) (b := 2) (c := 71) (k := 48) _ _ (Or.inr (by decide)))).trans (((pI_ne (a := 71) (b := 2) (c := 71) (k := 47) _ _ (Or.inr (by decide)))).trans (((pI_ne (a := 71) (b := 2) (c := 105) _ _ (Or.inl (by decide)))).trans ((pI_ne (a := 71) (b := 2) (c := 71) (k := 56) _ _ (Or.inr (by decide))))))))
      have lk27 : (((pI (pI (pI (pI (pI u9 71 56 k0) 105 v8.toNatClampNeg v15) 71 47 k0) 71 48 k0) 71 55 k0)).1 71 4).toInt = (u9.1 71 4).toInt := congrArg Int32.toInt (((pI_ne (a := 71) (b := 4) (c := 71) (k := 55) _ _ (Or.inr (by decide)))).trans (((pI_ne (a := 71) (b := 4) (c := 71) (k := 48) _ _ (Or.inr (by decide)))).trans (((pI_ne (a := 71) (b := 4) (c := 71) (k := 47) _ _ (Or.inr (by decide)))).trans (((pI_ne (a := 71) (b := 4) (c := 105) _ _ (Or.inl (by decide)))).trans ((pI_ne (a := 71) (b := 4) (c := 71) (k := 56) _ _ (Or.inr (by decide))))))))
      have lk28 : (((pI (pI (pI (pI (pI u9 71 56 k0) 105 v8.toNatClampNeg v15) 71 47 k0) 71 48 k0) 71 55 k0)).1 71 5).toInt = v24.toInt := congrArg Int32.toInt (ev24)
      have lk29 : (((pI (pI (pI (pI (pI u9 71 56 k0) 105 v8.toNatClampNeg v15) 71 47 k0) 71 48 k0) 71 55 k0)).1 71 48).toInt = k0.toInt := congrArg Int32.toInt (((pI_ne (a := 71) (b := 48) (c := 71) (k := 55) _ _ (Or.inr (by decide)))).trans ((pI_self _ _ _ _)))
      have lk30 : (((pI (pI (pI (pI (pI u9 71 56 k0) 105 v8.toNatClampNeg v15) 71 47 k0) 71 48 k0) 71 55 k0)).1 71 47).toInt = k0.toInt := congrArg Int32.toInt (((pI_ne (a := 71) (b := 47) (c := 71) (k := 55) _ _ (Or.inr (by decide)))).trans (((pI_ne (a := 71) (b := 47) (c := 71) (k := 48) _ _ (Or.inr (by decide)))).trans ((pI_self _ _ _ _))))
      have lk31 : (((pI (pI (pI (pI (pI u9 71 56 k0) 105 v8.toNatClampNeg v15) 71 47 k0) 71 48 k0) 71 55 k0)).1 71 6).toInt = (u9.1 71 6).toInt := congrArg Int32.toInt (((pI_ne (a := 71) (b := 6) (c := 71) (k := 55) _ _ (Or.inr (by decide)))).trans (((pI_ne (a := 71) (b := 6) (c := 71) (k := 48) _ _ (Or.inr (by decide)))).trans (((pI_ne (a := 71) (b := 6) (c := 71) (k := 47) _ _ (Or.inr (by decide)))).trans (((pI_ne (a := 71) (b := 6) (c := 105) _ _ (Or.inl (by decide)))).trans ((pI_ne (a := 71) (b := 6) (c := 71) (k := 56) _ _ (Or.inr (by decide))))))))
      have hq32 : oqVs g fp fq w ((pI (pI (pI (pI (pI u9 71 56 k0) 105 v8.toNatClampNeg v15) 71 47 k0) 71 48 k0) 71 55 k0)) := (by first | exact oqVs_t (by omega) (by assumption) | exact oqVs_w (by omega) (by omega) (by omega))
      refine r_aload_n C (j := 0) (oDec_at oX12_testTold 45 rfl) rfl rfl ?_
      refine r_getF (k := 51) (b := 106) C oCl12 rfl (by decide) flX12_120 rfl rfl rfl (oDec_at oX12_testTold 46 rfl) ?_
      refine r_iload_n C (j := 2) (oDec_at oX12_testTold 47 rfl) rfl rfl ?_
      refine r_aload_n C (j := 0) (oDec_at oX12_testTold 48 rfl) rfl rfl ?_
      refine r_geti (k := 45) (lo := 0) (hi := 1600) C v15 oCl12 rfl (by decide) flX12_234 rfl rfl (((pI_ne (a := 71) (b := 45) (c := 71) (k := 55) _ _ (Or.inr (by decide)))).trans (((pI_ne (a := 71) (b := 45) (c := 71) (k := 48) _ _ (Or.inr (by decide)))).trans (((pI_ne (a := 71) (b := 45) (c := 71) (k := 47) _ _ (Or.inr (by decide)))).trans (((pI_ne (a := 71) (b := 45) (c := 105) _ _ (Or.inl (by decide)))).trans (ev15))))) rfl rfl (oDec_at oX12_testTold 49 rfl) (fun _ _ => ?_)
      have lc33 : (((pI (pI (pI (pI (pI u9 71 56 k0) 105 v8.toNatClampNeg v15) 71 47 k0) 71 48 k0) 71 55 k0)).1 104 2).toInt = (s.1 104 2).toInt := congrArg Int32.toInt (((pI_ne (a := 104) (b := 2) (c := 71) _ _ (Or.inl (by decide)))).trans (((pI_ne (a := 104) (b := 2) (c := 71) _ _ (Or.inl (by decide)))).trans (((pI_ne (a := 104) (b := 2) (c := 71) _ _ (Or.inl (by decide)))).trans (((pI_ne (a := 104) (b := 2) (c := 105) _ _ (Or.inl (by decide)))).trans (((pI_ne (a := 104) (b := 2) (c := 71) _ _ (Or.inl (by decide)))).trans ((fu9 104 2 rfl).1))))))
      have lc34 : (((pI (pI (pI (pI (pI u9 71 56 k0) 105 v8.toNatClampNeg v15) 71 47 k0) 71 48 k0) 71 55 k0)).1 104 3).toInt = (s.1 104 3).toInt := congrArg Int32.toInt (((pI_ne (a := 104) (b := 3) (c := 71) _ _ (Or.inl (by decide)))).trans (((pI_ne (a := 104) (b := 3) (c := 71) _ _ (Or.inl (by decide)))).trans (((pI_ne (a := 104) (b := 3) (c := 71) _ _ (Or.inl (by decide)))).trans (((pI_ne (a := 104) (b := 3) (c := 105) _ _ (Or.inl (by decide)))).trans (((pI_ne (a := 104) (b := 3) (c := 71) _ _ (Or.inl (by decide)))).trans ((fu9 104 3 rfl).1))))))
      have lk35 : (((pI (pI (pI (pI (pI u9 71 56 k0) 105 v8.toNatClampNeg v15) 71 47 k0) 71 48 k0) 71 55 k0)).1 71 45).toInt = v15.toInt := congrArg Int32.toInt (((pI_ne (a := 71) (b := 45) (c := 71) (k := 55) _ _ (Or.inr (by decide)))).trans (((pI_ne (a := 71) (b := 45) (c := 71) (k := 48) _ _ (Or.inr (by decide)))).trans (((pI_ne (a := 71) (b := 45) (c := 71) (k := 47) _ _ (Or.inr (by decide)))).trans (((pI_ne (a := 71) (b := 45) (c := 105) _ _ (Or.inl (by decide)))).trans (ev15)))))
      have lk36 : (((pI (pI (pI (pI (pI u9 71 56 k0) 105 v8.toNatClampNeg v15) 71 47 k0) 71 48 k0) 71 55 k0)).1 71 56).toInt = k0.toInt := congrArg Int32.toInt (((pI_ne (a := 71) (b := 56) (c := 71) (k := 55) _ _ (Or.inr (by decide)))).trans (((pI_ne (a := 71) (b := 56) (c := 71) (k := 48) _ _ (Or.inr (by decide)))).trans (((pI_ne (a := 71) (b := 56) (c := 71) (k := 47) _ _ (Or.inr (by decide)))).trans (((pI_ne (a := 71) (b := 56) (c := 105) _ _ (Or.inl (by decide)))).trans ((pI_self _ _ _ _))))))
      have lk37 : (((pI (pI (pI (pI (pI u9 71 56 k0) 105 v8.toNatClampNeg v15) 71 47 k0) 71 48 k0) 71 55 k0)).1 71 5).toInt = v24.toInt := congrArg Int32.toInt (ev24)
      refine r_ty C (fun hty => ?_)
      have hmB : ∀ i : Nat, (0 : Int) ≤ (((pI (pI (pI (pI (pI u9 71 56 k0) 105 v8.toNatClampNeg v15) 71 47 k0) 71 48 k0) 71 55 k0)).1 104 i).toInt ∧ (((pI (pI (pI (pI (pI u9 71 56 k0) 105 v8.toNatClampNeg v15) 71 47 k0) 71 48 k0) 71 55 k0)).1 104 i).toInt ≤ 12 := fun i => hty.1 104 i
      have hmB2 := hmB 2
      have hmB3 := hmB 3
      clear hty
      refine r_ty C (fun hty => ?_)
      have hty_coded : (0 : Int) ≤ (((pI (pI (pI (pI (pI u9 71 56 k0) 105 v8.toNatClampNeg v15) 71 47 k0) 71 48 k0) 71 55 k0)).1 71 45).toInt ∧ (((pI (pI (pI (pI (pI u9 71 56 k0) 105 v8.toNatClampNeg v15) 71 47 k0) 71 48 k0) 71 55 k0)).1 71 45).toInt ≤ 1600 := hty.1 71 45
      have hty_waits : (0 : Int) ≤ (((pI (pI (pI (pI (pI u9 71 56 k0) 105 v8.toNatClampNeg v15) 71 47 k0) 71 48 k0) 71 55 k0)).1 71 47).toInt ∧ (((pI (pI (pI (pI (pI u9 71 56 k0) 105 v8.toNatClampNeg v15) 71 47 k0) 71 48 k0) 71 55 k0)).1 71 47).toInt ≤ 1700 := hty.1 71 47
      have hty_at : (0 : Int) ≤ (((pI (pI (pI (pI (pI u9 71 56 k0) 105 v8.toNatClampNeg v15) 71 47 k0) 71 48 k0) 71 55 k0)).1 71 2).toInt ∧ (((pI (pI (pI (pI (pI u9 71 56 k0) 105 v8.toNatClampNeg v15) 71 47 k0) 71 48 k0) 71 55 k0)).1 71 2).toInt ≤ 1600 := hty.1 71 2
      clear hty
      refine r_iast (n := 48) (lo := 0) (hi := 1600) C rfl (by decide) rfl rfl ⟨by omega, by omega⟩ (by decide) rfl rfl rfl rfl ⟨by omega, by omega⟩ (oDec_at oX12_testTold 50 rfl) ?_
      refine r_pc C 85 rfl ?_
      have hty9 := hty_coded.1
      have hec9 := ev15
      have hq38 : owR6 (oU (s.1 106) (v8.toNatClampNeg) v15) ((pI (pI (pI (pI (pI (pI u9 71 56 k0) 105 v8.toNatClampNeg v15) 71 47 k0) 71 48 k0) 71 55 k0) 106 v8.toNatClampNeg v15)) := owR6_pu (owR6_fr (oFr_oneI (q := 12) (m := 55) rfl (by rfl)) rfl (owR6_fr (oFr_oneI (q := 12) (m := 48) rfl (by rfl)) rfl (owR6_fr (oFr_oneI (q := 12) (m := 47) rfl (by rfl)) rfl (owR6_fr (oFr_oneI (q := 81) (m := 9999) rfl (by rfl)) rfl (owR6_fr (oFr_oneI (q := 12) (m := 56) rfl (by rfl)) rfl (owR6_fr fu9 rfl hq2))))))
      have hq39 : owLw Fq Tq nq ((pI (pI (pI (pI (pI (pI u9 71 56 k0) 105 v8.toNatClampNeg v15) 71 47 k0) 71 48 k0) 71 55 k0) 106 v8.toNatClampNeg v15)) := owLw_6 (owLw_fr (oFr_oneI (q := 12) (m := 55) rfl (by rfl)) rfl (owLw_fr (oFr_oneI (q := 12) (m := 48) rfl (by rfl)) rfl (owLw_fr (oFr_oneI (q := 12) (m := 47) rfl (by rfl)) rfl hq23))) (by omega)
      refine r_aload_n C (j := 0) (oDec_at oX12_testTold 51 rfl) rfl rfl ?_
      refine r_getF (k := 49) (b := 104) C oCl12 rfl (by decide) flX12_114 rfl rfl rfl (oDec_at oX12_testTold 52 rfl) ?_
      refine r_iconst C (oDec_at oX12_testTold 53 rfl) (v := k2) (by rw [qk2]; rfl) ?_
      refine r_iload_n C (j := 1) (oDec_at oX12_testTold 54 rfl) rfl rfl ?_
      obtain ⟨v40, ev40⟩ : ∃ z : Int32, z = k2 + a1 := ⟨_, rfl⟩
      have hv40 : v40.toInt = k2.toInt + a1.toInt := n_add ev40 (by omega) (by omega)
      refine r_iadd C v40 (oDec_at oX12_testTold 55 rfl) ev40 ?_
      refine r_dup2 C (oDec_at oX12_testTold 56 rfl) rfl rfl ?_
      refine r_pc C 93 rfl ?_
      obtain ⟨v42, ev42⟩ : ∃ z : Int32, ((pI (pI (pI (pI (pI (pI u9 71 56 k0) 105 v8.toNatClampNeg v15) 71 47 k0) 71 48 k0) 71 55 k0) 106 v8.toNatClampNeg v15)).1 104 v40.toNatClampNeg = z := ⟨_, rfl⟩
      have av42 : s.1 104 v40.toNatClampNeg = v42 := (((pI_ne (a := 104) (b := v40.toNatClampNeg) (c := 106) _ _ (Or.inl (by decide)))).trans (((pI_ne (a := 104) (b := v40.toNatClampNeg) (c := 71) _ _ (Or.inl (by decide)))).trans (((pI_ne (a := 104) (b := v40.toNatClampNeg) (c := 71) _ _ (Or.inl (by decide)))).trans (((pI_ne (a := 104) (b := v40.toNatClampNeg) (c := 71) _ _ (Or.inl (by decide)))).trans (((pI_ne (a := 104) (b := v40.toNatClampNeg) (c := 105) _ _ (Or.inl (by decide)))).trans (((pI_ne (a := 104) (b := v40.toNatClampNeg) (c := 71) _ _ (Or.inl (by decide)))).trans ((fu9 104 v40.toNatClampNeg rfl).1))))))).symm.trans ev42
      have gv42 : (s.1 104 v40.toNatClampNeg).toInt = v42.toInt := congrArg Int32.toInt ((((pI_ne (a := 104) (b := v40.toNatClampNeg) (c := 106) _ _ (Or.inl (by decide)))).trans (((pI_ne (a := 104) (b := v40.toNatClampNeg) (c := 71) _ _ (Or.inl (by decide)))).trans (((pI_ne (a := 104) (b := v40.toNatClampNeg) (c := 71) _ _ (Or.inl (by decide)))).trans (((pI_ne (a := 104) (b := v40.toNatClampNeg) (c := 71) _ _ (Or.inl (by decide)))).trans (((pI_ne (a := 104) (b := v40.toNatClampNeg) (c := 105) _ _ (Or.inl (by decide)))).trans (((pI_ne (a := 104) (b := v40.toNatClampNeg) (c := 71) _ _ (Or.inl (by decide)))).trans ((fu9 104 v40.toNatClampNeg rfl).1))))))).symm.trans ev42)
      refine r_iald (n := 4) (lo := 0) (hi := 12) C v42 rfl (by decide) rfl rfl ⟨by omega, by omega⟩ (by decide) ev42 rfl rfl (oDec_at oX12_testTold 57 rfl) (fun b41 b41h => ?_)
      have lc43 : (((pI (pI (pI (pI (pI (pI u9 71 56 k0) 105 v8.toNatClampNeg v15) 71 47 k0) 71 48 k0) 71 55 k0) 106 v8.toNatClampNeg v15)).1 104 2).toInt = (s.1 104 2).toInt := congrArg Int32.toInt (((pI_ne (a := 104) (b := 2) (c := 106) _ _ (Or.inl (by decide)))).trans (((pI_ne (a := 104) (b := 2) (c := 71) _ _ (Or.inl (by decide)))).trans (((pI_ne (a := 104) (b := 2) (c := 71) _ _ (Or.inl (by decide)))).trans (((pI_ne (a := 104) (b := 2) (c := 71) _ _ (Or.inl (by decide)))).trans (((pI_ne (a := 104) (b := 2) (c := 105) _ _ (Or.inl (by decide)))).trans (((pI_ne (a := 104) (b := 2) (c := 71) _ _ (Or.inl (by decide)))).trans ((fu9 104 2 rfl).1)))))))
      have lc44 : (((pI (pI (pI (pI (pI (pI u9 71 56 k0) 105 v8.toNatClampNeg v15) 71 47 k0) 71 48 k0) 71 55 k0) 106 v8.toNatClampNeg v15)).1 104 3).toInt = (s.1 104 3).toInt := congrArg Int32.toInt (((pI_ne (a := 104) (b := 3) (c := 106) _ _ (Or.inl (by decide)))).trans (((pI_ne (a := 104) (b := 3) (c := 71) _ _ (Or.inl (by decide)))).trans (((pI_ne (a := 104) (b := 3) (c := 71) _ _ (Or.inl (by decide)))).trans (((pI_ne (a := 104) (b := 3) (c := 71) _ _ (Or.inl (by decide)))).trans (((pI_ne (a := 104) (b := 3) (c := 105) _ _ (Or.inl (by decide)))).trans (((pI_ne (a := 104) (b := 3) (c := 71) _ _ (Or.inl (by decide)))).trans ((fu9 104 3 rfl).1)))))))
      have hix2 := oIxM (i := v40) ev42
      refine r_iconst C (oDec_at oX12_testTold 58 rfl) (v := k1) (by rw [qk1]; rfl) ?_
      obtain ⟨v45, ev45⟩ : ∃ z : Int32, z = v42 + k1 := ⟨_, rfl⟩
      have hv45 : v45.toInt = v42.toInt + k1.toInt := n_add ev45 (by omega) (by omega)
      refine r_iadd C v45 (oDec_at oX12_testTold 59 rfl) ev45 ?_
      refine r_iast (n := 4) (lo := 0) (hi := 12) C rfl (by decide) rfl rfl ⟨by omega, by omega⟩ (by decide) rfl rfl rfl rfl ⟨by omega, by omega⟩ (oDec_at oX12_testTold 60 rfl) ?_
      have lk46 : (((pI (pI (pI (pI (pI (pI (pI u9 71 56 k0) 105 v8.toNatClampNeg v15) 71 47 k0) 71 48 k0) 71 55 k0) 106 v8.toNatClampNeg v15) 104 v40.toNatClampNeg v45)).1 71 6).toInt = (u9.1 71 6).toInt := congrArg Int32.toInt (((pI_ne (a := 71) (b := 6) (c := 104) _ _ (Or.inl (by decide)))).trans (((pI_ne (a := 71) (b := 6) (c := 106) _ _ (Or.inl (by decide)))).trans (((pI_ne (a := 71) (b := 6) (c := 71) (k := 55) _ _ (Or.inr (by decide)))).trans (((pI_ne (a := 71) (b := 6) (c := 71) (k := 48) _ _ (Or.inr (by decide)))).trans (((pI_ne (a := 71) (b := 6) (c := 71) (k := 47) _ _ (Or.inr (by decide)))).trans (((pI_ne (a := 71) (b := 6) (c := 105) _ _ (Or.inl (by decide)))).trans ((pI_ne (a := 71) (b := 6) (c := 71) (k := 56) _ _ (Or.inr (by decide))))))))))
      have lk47 : (((pI (pI (pI (pI (pI (pI (pI u9 71 56 k0) 105 v8.toNatClampNeg v15) 71 47 k0) 71 48 k0) 71 55 k0) 106 v8.toNatClampNeg v15) 104 v40.toNatClampNeg v45)).1 71 5).toInt = v24.toInt := congrArg Int32.toInt (((pI_ne (a := 71) (b := 5) (c := 104) _ _ (Or.inl (by decide)))).trans (((pI_ne (a := 71) (b := 5) (c := 106) _ _ (Or.inl (by decide)))).trans (ev24)))
      have lk48 : (((pI (pI (pI (pI (pI (pI (pI u9 71 56 k0) 105 v8.toNatClampNeg v15) 71 47 k0) 71 48 k0) 71 55 k0) 106 v8.toNatClampNeg v15) 104 v40.toNatClampNeg v45)).1 71 45).toInt = v15.toInt := congrArg Int32.toInt (((pI_ne (a := 71) (b := 45) (c := 104) _ _ (Or.inl (by decide)))).trans (((pI_ne (a := 71) (b := 45) (c := 106) _ _ (Or.inl (by decide)))).trans (((pI_ne (a := 71) (b := 45) (c := 71) (k := 55) _ _ (Or.inr (by decide)))).trans (((pI_ne (a := 71) (b := 45) (c := 71) (k := 48) _ _ (Or.inr (by decide)))).trans (((pI_ne (a := 71) (b := 45) (c := 71) (k := 47) _ _ (Or.inr (by decide)))).trans (((pI_ne (a := 71) (b := 45) (c := 105) _ _ (Or.inl (by decide)))).trans (ev15)))))))
      have hmy := oMny3 (s := (pI (pI (pI (pI (pI (pI u9 71 56 k0) 105 v8.toNatClampNeg v15) 71 47 k0) 71 48 k0) 71 55 k0) 106 v8.toNatClampNeg v15)) (i := v40) (z := v45)
      have hmy2 := oMny23 (s := (pI (pI (pI (pI (pI (pI u9 71 56 k0) 105 v8.toNatClampNeg v15) 71 47 k0) 71 48 k0) 71 55 k0) 106 v8.toNatClampNeg v15)) (i := v40) (z := v45)
      have hq49 : oBB ((pI (pI (pI (pI (pI (pI (pI u9 71 56 k0) 105 v8.toNatClampNeg v15) 71 47 k0) 71 48 k0) 71 55 k0) 106 v8.toNatClampNeg v15) 104 v40.toNatClampNeg v45)) := by first | exact oBB_told (x := 1) (by assumption) hmB (by assumption) (by omega) | exact oBB_told0 (oBB_fr (oFr_oneI (q := 12) (m := 55) rfl (by rfl)) rfl (oBB_fr (oFr_oneI (q := 12) (m := 48) rfl (by rfl)) rfl (oBB_fr (oFr_oneI (q := 12) (m := 47) rfl (by rfl)) rfl hq21))) (by omega) hmB (by omega) (by omega)
      have hq50 : owLw Fq Tq nq ((pI (pI (pI (pI (pI (pI (pI u9 71 56 k0) 105 v8.toNatClampNeg v15) 71 47 k0) 71 48 k0) 71 55 k0) 106 v8.toNatClampNeg v15) 104 v40.toNatClampNeg v45)) := owLw_4 hq39 (by omega)
      have lk51 : (((pI (pI (pI (pI (pI (pI (pI u9 71 56 k0) 105 v8.toNatClampNeg v15) 71 47 k0) 71 48 k0) 71 55 k0) 106 v8.toNatClampNeg v15) 104 v40.toNatClampNeg v45)).1 71 5).toInt = v24.toInt := congrArg Int32.toInt (((pI_ne (a := 71) (b := 5) (c := 104) _ _ (Or.inl (by decide)))).trans (((pI_ne (a := 71) (b := 5) (c := 106) _ _ (Or.inl (by decide)))).trans (ev24)))
      have lk52 : (((pI (pI (pI (pI (pI (pI (pI u9 71 56 k0) 105 v8.toNatClampNeg v15) 71 47 k0) 71 48 k0) 71 55 k0) 106 v8.toNatClampNeg v15) 104 v40.toNatClampNeg v45)).1 71 45).toInt = v15.toInt := congrArg Int32.toInt (((pI_ne (a := 71) (b := 45) (c := 104) _ _ (Or.inl (by decide)))).trans (((pI_ne (a := 71) (b := 45) (c := 106) _ _ (Or.inl (by decide)))).trans (((pI_ne (a := 71) (b := 45) (c := 71) (k := 55) _ _ (Or.inr (by decide)))).trans (((pI_ne (a := 71) (b := 45) (c := 71) (k := 48) _ _ (Or.inr (by decide)))).trans (((pI_ne (a := 71) (b := 45) (c := 71) (k := 47) _ _ (Or.inr (by decide)))).trans (((pI_ne (a := 71) (b := 45) (c := 105) _ _ (Or.inl (by decide)))).trans (ev15)))))))
      have lk53 : (((pI (pI (pI (pI (pI (pI (pI u9 71 56 k0) 105 v8.toNatClampNeg v15) 71 47 k0) 71 48 k0) 71 55 k0) 106 v8.toNatClampNeg v15) 104 v40.toNatClampNeg v45)).1 71 2).toInt = (u9.1 71 2).toInt := congrArg Int32.toInt (((pI_ne (a := 71) (b := 2) (c := 104) _ _ (Or.inl (by decide)))).trans (((pI_ne (a := 71) (b := 2) (c := 106) _ _ (Or.inl (by decide)))).trans (((pI_ne (a := 71) (b := 2) (c := 71) (k := 55) _ _ (Or.inr (by decide)))).trans (((pI_ne (a := 71) (b := 2) (c := 71) (k := 48) _ _ (Or.inr (by decide)))).trans (((pI_ne (a := 71) (b := 2) (c := 71) (k := 47) _ _ (Or.inr (by decide)))).trans (((pI_ne (a := 71) (b := 2) (c := 105) _ _ (Or.inl (by decide)))).trans ((pI_ne (a := 71) (b := 2) (c := 71) (k := 56) _ _ (Or.inr (by decide))))))))))
      have lk54 : (((pI (pI (pI (pI (pI (pI (pI u9 71 56 k0) 105 v8.toNatClampNeg v15) 71 47 k0) 71 48 k0) 71 55 k0) 106 v8.toNatClampNeg v15) 104 v40.toNatClampNeg v45)).1 71 2).toInt = (u9.1 71 2).toInt := congrArg Int32.toInt (((pI_ne (a := 71) (b := 2) (c := 104) _ _ (Or.inl (by decide)))).trans (((pI_ne (a := 71) (b := 2) (c := 106) _ _ (Or.inl (by decide)))).trans (((pI_ne (a := 71) (b := 2) (c := 71) (k := 55) _ _ (Or.inr (by decide)))).trans (((pI_ne (a := 71) (b := 2) (c := 71) (k := 48) _ _ (Or.inr (by decide)))).trans (((pI_ne (a := 71) (b := 2) (c := 71) (k := 47) _ _ (Or.inr (by decide)))).trans (((pI_ne (a := 71) (b := 2) (c := 105) _ _ (Or.inl (by decide)))).trans ((pI_ne (a := 71) (b := 2) (c := 71) (k := 56) _ _ (Or.inr (by decide))))))))))
      have lk55 : (((pI (pI (pI (pI (pI (pI (pI u9 71 56 k0) 105 v8.toNatClampNeg v15) 71 47 k0) 71 48 k0) 71 55 k0) 106 v8.toNatClampNeg v15) 104 v40.toNatClampNeg v45)).1 71 5).toInt = v24.toInt := congrArg Int32.toInt (((pI_ne (a := 71) (b := 5) (c := 104) _ _ (Or.inl (by decide)))).trans (((pI_ne (a := 71) (b := 5) (c := 106) _ _ (Or.inl (by decide)))).trans (ev24)))
      have lk56 : (((pI (pI (pI (pI (pI (pI (pI u9 71 56 k0) 105 v8.toNatClampNeg v15) 71 47 k0) 71 48 k0) 71 55 k0) 106 v8.toNatClampNeg v15) 104 v40.toNatClampNeg v45)).1 71 5).toInt = v24.toInt := congrArg Int32.toInt (((pI_ne (a := 71) (b := 5) (c := 104) _ _ (Or.inl (by decide)))).trans (((pI_ne (a := 71) (b := 5) (c := 106) _ _ (Or.inl (by decide)))).trans (ev24)))
      exact r_vret C (oDec_at oX12_testTold 61 rfl) ⟨rfl, ⟨hq49, by omega, by omega, by omega, (oqVs_fr (oFr_oneI (q := 80) (m := 9999) rfl (by rfl)) rfl (oqVs_fr (oFr_oneI (q := 82) (m := 9999) rfl (by rfl)) rfl hq32)), by omega, by omega, (oqBP_fr (oFr_oneI (q := 80) (m := 9999) rfl (by rfl)) rfl (oqBP_fr (oFr_oneI (q := 82) (m := 9999) rfl (by rfl)) rfl (oqBP_fr (oFr_oneI (q := 12) (m := 55) rfl (by rfl)) rfl (oqBP_fr (oFr_oneI (q := 12) (m := 48) rfl (by rfl)) rfl (oqBP_fr (oFr_oneI (q := 12) (m := 47) rfl (by rfl)) rfl (oqBP_fr (oFr_oneI (q := 81) (m := 9999) rfl (by rfl)) rfl (oqBP_fr (oFr_oneI (q := 12) (m := 56) rfl (by rfl)) rfl pu9_3))))))), (owC0_fr (oFr_oneI (q := 80) (m := 9999) rfl (by rfl)) rfl (owC0_fr (oFr_oneI (q := 82) (m := 9999) rfl (by rfl)) rfl (owC0_fr (oFr_oneI (q := 12) (m := 55) rfl (by rfl)) rfl (owC0_fr (oFr_oneI (q := 12) (m := 48) rfl (by rfl)) rfl (owC0_fr (oFr_oneI (q := 12) (m := 47) rfl (by rfl)) rfl (owC0_fr (oFr_oneI (q := 81) (m := 9999) rfl (by rfl)) rfl (owC0_fr (oFr_oneI (q := 12) (m := 56) rfl (by rfl)) rfl (owC0_fr fu9 rfl hp13)))))))), hq50, by first | exact (fun h9 h8 => by rw [← hm2 h8]; exact hTD9 h9) | (intro h9; exfalso; omega), by first | exact (fun h9 h8 => by rw [← hm3 h8]; exact hTD9 h9) | (intro h9; exfalso; omega)⟩⟩
    · skip
      have lk57 : (((pI (pI (pI (pI (pI u9 71 56 k0) 105 v8.toNatClampNeg v15) 71 47 k0) 71 48 k0) 71 55 k0)).1 71 2).toInt = (u9.1 71 2).toInt := congrArg Int32.toInt (((pI_ne (a := 71) (b := 2) (c := 71) (k := 55) _ _ (Or.inr (by decide)))).trans (((pI_ne (a := 71) (b := 2) (c := 71) (k := 48) _ _ (Or.inr (by decide)))).trans (((pI_ne (a := 71) (b := 2) (c := 71) (k := 47) _ _ (Or.inr (by decide)))).trans (((pI_ne (a := 71) (b := 2) (c := 105) _ _ (Or.inl (by decide)))).trans ((pI_ne (a := 71) (b := 2) (c := 71) (k := 56) _ _ (Or.inr (by decide))))))))
      have lk58 : (((pI (pI (pI (pI (pI u9 71 56 k0) 105 v8.toNatClampNeg v15) 71 47 k0) 71 48 k0) 71 55 k0)).1 71 4).toInt = (u9.1 71 4).toInt := congrArg Int32.toInt (((pI_ne (a := 71) (b := 4) (c := 71) (k := 55) _ _ (Or.inr (by decide)))).trans (((pI_ne (a := 71) (b := 4) (c := 71) (k := 48) _ _ (Or.inr (by decide)))).trans (((pI_ne (a := 71) (b := 4) (c := 71) (k := 47) _ _ (Or.inr (by decide)))).trans (((pI_ne (a := 71) (b := 4) (c := 105) _ _ (Or.inl (by decide)))).trans ((pI_ne (a := 71) (b := 4) (c := 71) (k := 56) _ _ (Or.inr (by decide))))))))
      have lk59 : (((pI (pI (pI (pI (pI u9 71 56 k0) 105 v8.toNatClampNeg v15) 71 47 k0) 71 48 k0) 71 55 k0)).1 71 5).toInt = v24.toInt := congrArg Int32.toInt (ev24)
      have lk60 : (((pI (pI (pI (pI (pI u9 71 56 k0) 105 v8.toNatClampNeg v15) 71 47 k0) 71 48 k0) 71 55 k0)).1 71 48).toInt = k0.toInt := congrArg Int32.toInt (((pI_ne (a := 71) (b := 48) (c := 71) (k := 55) _ _ (Or.inr (by decide)))).trans ((pI_self _ _ _ _)))
      have lk61 : (((pI (pI (pI (pI (pI u9 71 56 k0) 105 v8.toNatClampNeg v15) 71 47 k0) 71 48 k0) 71 55 k0)).1 71 47).toInt = k0.toInt := congrArg Int32.toInt (((pI_ne (a := 71) (b := 47) (c := 71) (k := 55) _ _ (Or.inr (by decide)))).trans (((pI_ne (a := 71) (b := 47) (c := 71) (k := 48) _ _ (Or.inr (by decide)))).trans ((pI_self _ _ _ _))))
      have lk62 : (((pI (pI (pI (pI (pI u9 71 56 k0) 105 v8.toNatClampNeg v15) 71 47 k0) 71 48 k0) 71 55 k0)).1 71 56).toInt = k0.toInt := congrArg Int32.toInt (((pI_ne (a := 71) (b := 56) (c := 71) (k := 55) _ _ (Or.inr (by decide)))).trans (((pI_ne (a := 71) (b := 56) (c := 71) (k := 48) _ _ (Or.inr (by decide)))).trans (((pI_ne (a := 71) (b := 56) (c := 71) (k := 47) _ _ (Or.inr (by decide)))).trans (((pI_ne (a := 71) (b := 56) (c := 105) _ _ (Or.inl (by decide)))).trans ((pI_self _ _ _ _))))))
      have hcz8 := hcz9 (by omega)
      have hq63 : oqMo fp fq ((pI (pI (pI (pI (pI u9 71 56 k0) 105 v8.toNatClampNeg v15) 71 47 k0) 71 48 k0) 71 55 k0)) := (by unfold oqMo; omega)
      have hq64 : oqTt g fp fq (0, oqSk g (oqHa g w 6), oqHa g w 6, 0, []) 0 ((pI (pI (pI (pI (pI u9 71 56 k0) 105 v8.toNatClampNeg v15) 71 47 k0) 71 48 k0) 71 55 k0)) := oqTt_0 (by omega) (by omega) (by omega) (by omega) (by omega)
      have hq65 : oqTx g fp fq (0, oqSk g (oqHa g w 6), oqHa g w 6, 0, [], Z) 0 0 ((pI (pI (pI (pI (pI u9 71 56 k0) 105 v8.toNatClampNeg v15) 71 47 k0) 71 48 k0) 71 55 k0)) := owTx_0 (by omega) (by omega) (by omega) (by omega) (owYl_fr (oFr_oneI (q := 12) (m := 55) rfl (by rfl)) rfl (owYl_fr (oFr_oneI (q := 12) (m := 48) rfl (by rfl)) rfl (owYl_fr (oFr_oneI (q := 12) (m := 47) rfl (by rfl)) rfl (owYl_fr (oFr_oneI (q := 81) (m := 9999) rfl (by rfl)) rfl (owYl_fr (oFr_oneI (q := 12) (m := 56) rfl (by rfl)) rfl (owYl_frb fu9 rfl (by omega) hp12))))))
      refine r_aload_n C (j := 0) (oDec_at oX12_testTold 43 rfl) rfl rfl ?_
      have lc66 : (((pI (pI (pI (pI (pI u9 71 56 k0) 105 v8.toNatClampNeg v15) 71 47 k0) 71 48 k0) 71 55 k0)).1 104 2).toInt = (s.1 104 2).toInt := congrArg Int32.toInt (((pI_ne (a := 104) (b := 2) (c := 71) _ _ (Or.inl (by decide)))).trans (((pI_ne (a := 104) (b := 2) (c := 71) _ _ (Or.inl (by decide)))).trans (((pI_ne (a := 104) (b := 2) (c := 71) _ _ (Or.inl (by decide)))).trans (((pI_ne (a := 104) (b := 2) (c := 105) _ _ (Or.inl (by decide)))).trans (((pI_ne (a := 104) (b := 2) (c := 71) _ _ (Or.inl (by decide)))).trans ((fu9 104 2 rfl).1))))))
      have lc67 : (((pI (pI (pI (pI (pI u9 71 56 k0) 105 v8.toNatClampNeg v15) 71 47 k0) 71 48 k0) 71 55 k0)).1 104 3).toInt = (s.1 104 3).toInt := congrArg Int32.toInt (((pI_ne (a := 104) (b := 3) (c := 71) _ _ (Or.inl (by decide)))).trans (((pI_ne (a := 104) (b := 3) (c := 71) _ _ (Or.inl (by decide)))).trans (((pI_ne (a := 104) (b := 3) (c := 71) _ _ (Or.inl (by decide)))).trans (((pI_ne (a := 104) (b := 3) (c := 105) _ _ (Or.inl (by decide)))).trans (((pI_ne (a := 104) (b := 3) (c := 71) _ _ (Or.inl (by decide)))).trans ((fu9 104 3 rfl).1))))))
      have hq68 : oQ 9999 0 ((pI (pI (pI (pI (pI u9 71 56 k0) 105 v8.toNatClampNeg v15) 71 47 k0) 71 48 k0) 71 55 k0)) := oQ_init (oBB_fr (oFr_oneI (q := 12) (m := 55) rfl (by rfl)) rfl (oBB_fr (oFr_oneI (q := 12) (m := 48) rfl (by rfl)) rfl (oBB_fr (oFr_oneI (q := 12) (m := 47) rfl (by rfl)) rfl hq21))) (by omega) (by omega) (by assumption) (by omega)
      have lk69 : (((pI (pI (pI (pI (pI u9 71 56 k0) 105 v8.toNatClampNeg v15) 71 47 k0) 71 48 k0) 71 55 k0)).1 71 5).toInt = v24.toInt := congrArg Int32.toInt (ev24)
      have lk70 : (((pI (pI (pI (pI (pI u9 71 56 k0) 105 v8.toNatClampNeg v15) 71 47 k0) 71 48 k0) 71 55 k0)).1 71 48).toInt = k0.toInt := congrArg Int32.toInt (((pI_ne (a := 71) (b := 48) (c := 71) (k := 55) _ _ (Or.inr (by decide)))).trans ((pI_self _ _ _ _)))
      have lk71 : (((pI (pI (pI (pI (pI u9 71 56 k0) 105 v8.toNatClampNeg v15) 71 47 k0) 71 48 k0) 71 55 k0)).1 71 45).toInt = v15.toInt := congrArg Int32.toInt (((pI_ne (a := 71) (b := 45) (c := 71) (k := 55) _ _ (Or.inr (by decide)))).trans (((pI_ne (a := 71) (b := 45) (c := 71) (k := 48) _ _ (Or.inr (by decide)))).trans (((pI_ne (a := 71) (b := 45) (c := 71) (k := 47) _ _ (Or.inr (by decide)))).trans (((pI_ne (a := 71) (b := 45) (c := 105) _ _ (Or.inl (by decide)))).trans (ev15)))))
      have lk72 : (((pI (pI (pI (pI (pI u9 71 56 k0) 105 v8.toNatClampNeg v15) 71 47 k0) 71 48 k0) 71 55 k0)).1 71 47).toInt = k0.toInt := congrArg Int32.toInt (((pI_ne (a := 71) (b := 47) (c := 71) (k := 55) _ _ (Or.inr (by decide)))).trans (((pI_ne (a := 71) (b := 47) (c := 71) (k := 48) _ _ (Or.inr (by decide)))).trans ((pI_self _ _ _ _))))
      have lk73 : (((pI (pI (pI (pI (pI u9 71 56 k0) 105 v8.toNatClampNeg v15) 71 47 k0) 71 48 k0) 71 55 k0)).1 71 2).toInt = (u9.1 71 2).toInt := congrArg Int32.toInt (((pI_ne (a := 71) (b := 2) (c := 71) (k := 55) _ _ (Or.inr (by decide)))).trans (((pI_ne (a := 71) (b := 2) (c := 71) (k := 48) _ _ (Or.inr (by decide)))).trans (((pI_ne (a := 71) (b := 2) (c := 71) (k := 47) _ _ (Or.inr (by decide)))).trans (((pI_ne (a := 71) (b := 2) (c := 105) _ _ (Or.inl (by decide)))).trans ((pI_ne (a := 71) (b := 2) (c := 71) (k := 56) _ _ (Or.inr (by decide))))))))
      have lk74 : (((pI (pI (pI (pI (pI u9 71 56 k0) 105 v8.toNatClampNeg v15) 71 47 k0) 71 48 k0) 71 55 k0)).1 71 2).toInt = (u9.1 71 2).toInt := congrArg Int32.toInt (((pI_ne (a := 71) (b := 2) (c := 71) (k := 55) _ _ (Or.inr (by decide)))).trans (((pI_ne (a := 71) (b := 2) (c := 71) (k := 48) _ _ (Or.inr (by decide)))).trans (((pI_ne (a := 71) (b := 2) (c := 71) (k := 47) _ _ (Or.inr (by decide)))).trans (((pI_ne (a := 71) (b := 2) (c := 105) _ _ (Or.inl (by decide)))).trans ((pI_ne (a := 71) (b := 2) (c := 71) (k := 56) _ _ (Or.inr (by decide))))))))
      have lk75 : (((pI (pI (pI (pI (pI u9 71 56 k0) 105 v8.toNatClampNeg v15) 71 47 k0) 71 48 k0) 71 55 k0)).1 71 45).toInt = v15.toInt := congrArg Int32.toInt (((pI_ne (a := 71) (b := 45) (c := 71) (k := 55) _ _ (Or.inr (by decide)))).trans (((pI_ne (a := 71) (b := 45) (c := 71) (k := 48) _ _ (Or.inr (by decide)))).trans (((pI_ne (a := 71) (b := 45) (c := 71) (k := 47) _ _ (Or.inr (by decide)))).trans (((pI_ne (a := 71) (b := 45) (c := 105) _ _ (Or.inl (by decide)))).trans (ev15)))))
      have lk76 : (((pI (pI (pI (pI (pI u9 71 56 k0) 105 v8.toNatClampNeg v15) 71 47 k0) 71 48 k0) 71 55 k0)).1 71 47).toInt = k0.toInt := congrArg Int32.toInt (((pI_ne (a := 71) (b := 47) (c := 71) (k := 55) _ _ (Or.inr (by decide)))).trans (((pI_ne (a := 71) (b := 47) (c := 71) (k := 48) _ _ (Or.inr (by decide)))).trans ((pI_self _ _ _ _))))
      have lk77 : (((pI (pI (pI (pI (pI u9 71 56 k0) 105 v8.toNatClampNeg v15) 71 47 k0) 71 48 k0) 71 55 k0)).1 71 2).toInt = (u9.1 71 2).toInt := congrArg Int32.toInt (((pI_ne (a := 71) (b := 2) (c := 71) (k := 55) _ _ (Or.inr (by decide)))).trans (((pI_ne (a := 71) (b := 2) (c := 71) (k := 48) _ _ (Or.inr (by decide)))).trans (((pI_ne (a := 71) (b := 2) (c := 71) (k := 47) _ _ (Or.inr (by decide)))).trans (((pI_ne (a := 71) (b := 2) (c := 105) _ _ (Or.inl (by decide)))).trans ((pI_ne (a := 71) (b := 2) (c := 71) (k := 56) _ _ (Or.inr (by decide))))))))
      have lk78 : (((pI (pI (pI (pI (pI u9 71 56 k0) 105 v8.toNatClampNeg v15) 71 47 k0) 71 48 k0) 71 55 k0)).1 71 45).toInt = v15.toInt := congrArg Int32.toInt (((pI_ne (a := 71) (b := 45) (c := 71) (k := 55) _ _ (Or.inr (by decide)))).trans (((pI_ne (a := 71) (b := 45) (c := 71) (k := 48) _ _ (Or.inr (by decide)))).trans (((pI_ne (a := 71) (b := 45) (c := 71) (k := 47) _ _ (Or.inr (by decide)))).trans (((pI_ne (a := 71) (b := 45) (c := 105) _ _ (Or.inl (by decide)))).trans (ev15)))))
      have lk79 : (((pI (pI (pI (pI (pI u9 71 56 k0) 105 v8.toNatClampNeg v15) 71 47 k0) 71 48 k0) 71 55 k0)).1 71 47).toInt = k0.toInt := congrArg Int32.toInt (((pI_ne (a := 71) (b := 47) (c := 71) (k := 55) _ _ (Or.inr (by decide)))).trans (((pI_ne (a := 71) (b := 47) (c := 71) (k := 48) _ _ (Or.inr (by decide)))).trans ((pI_self _ _ _ _))))
      have lk80 : (((pI (pI (pI (pI (pI u9 71 56 k0) 105 v8.toNatClampNeg v15) 71 47 k0) 71 48 k0) 71 55 k0)).1 71 2).toInt = (u9.1 71 2).toInt := congrArg Int32.toInt (((pI_ne (a := 71) (b := 2) (c := 71) (k := 55) _ _ (Or.inr (by decide)))).trans (((pI_ne (a := 71) (b := 2) (c := 71) (k := 48) _ _ (Or.inr (by decide)))).trans (((pI_ne (a := 71) (b := 2) (c := 71) (k := 47) _ _ (Or.inr (by decide)))).trans (((pI_ne (a := 71) (b := 2) (c := 105) _ _ (Or.inl (by decide)))).trans ((pI_ne (a := 71) (b := 2) (c := 71) (k := 56) _ _ (Or.inr (by decide))))))))
      refine r_callVv C oCl12 rfl miX12_test mlX12_334 (ct9_X12_test l E ((pI (pI (pI (pI (pI u9 71 56 k0) 105 v8.toNatClampNeg v15) 71 47 k0) 71 48 k0) 71 55 k0))  (g) (fp) (fq) (0, oqSk g (oqHa g w 6), oqHa g w 6, 0, []) (0, oqSk g (oqHa g w 6), oqHa g w 6, 0, [], Z) (0) (Cq) hq68 (by omega) (by omega) (by omega) hq64 (oqZ_fr (oFr_oneI (q := 12) (m := 55) rfl (by rfl)) rfl (oqZ_fr (oFr_oneI (q := 12) (m := 48) rfl (by rfl)) rfl (oqZ_fr (oFr_oneI (q := 12) (m := 47) rfl (by rfl)) rfl (oqZ_fr (oFr_oneI (q := 81) (m := 9999) rfl (by rfl)) rfl (oqZ_fr (oFr_oneI (q := 12) (m := 56) rfl (by rfl)) rfl (oqZ_fr fu9 rfl hp10)))))) (oqWd_fr (oFr_oneI (q := 12) (m := 55) rfl (by rfl)) rfl (oqWd_fr (oFr_oneI (q := 12) (m := 48) rfl (by rfl)) rfl (oqWd_fr (oFr_oneI (q := 12) (m := 47) rfl (by rfl)) rfl (oqWd_fr (oFr_oneI (q := 81) (m := 9999) rfl (by rfl)) rfl (oqWd_fr (oFr_oneI (q := 12) (m := 56) rfl (by rfl)) rfl (oqWd_fr fu9 rfl hp11)))))) hq63 (oqBP_fr (oFr_oneI (q := 12) (m := 55) rfl (by rfl)) rfl (oqBP_fr (oFr_oneI (q := 12) (m := 48) rfl (by rfl)) rfl (oqBP_fr (oFr_oneI (q := 12) (m := 47) rfl (by rfl)) rfl (oqBP_fr (oFr_oneI (q := 81) (m := 9999) rfl (by rfl)) rfl (oqBP_fr (oFr_oneI (q := 12) (m := 56) rfl (by rfl)) rfl pu9_3))))) hq65 (owC0_fr (oFr_oneI (q := 12) (m := 55) rfl (by rfl)) rfl (owC0_fr (oFr_oneI (q := 12) (m := 48) rfl (by rfl)) rfl (owC0_fr (oFr_oneI (q := 12) (m := 47) rfl (by rfl)) rfl (owC0_fr (oFr_oneI (q := 81) (m := 9999) rfl (by rfl)) rfl (owC0_fr (oFr_oneI (q := 12) (m := 56) rfl (by rfl)) rfl (owC0_fr fu9 rfl hp13))))))) (by decide) rfl rfl rfl (Nat.le_of_ble_eq_true rfl) (oDec_at oX12_testTold 44 rfl) (fun u81 pu81 fu81 => ?_)
      try dsimp only at pu81
      try simp only [lk69, lk70, lk71, lk72, lk73, lk74, lk75, lk76, lk77, lk78, lk79, lk80] at pu81
      obtain ⟨pu81_0, pu81_1, pu81_2, pu81_3, pu81_4, pu81_5, pu81_6, pu81_7⟩ := pu81
      have hq83 : oqVs g fp fq w (u81) := (by first | exact oqVs_t (by omega) pu81_4 | exact oqVs_w (by omega) (by omega) (by omega))
      refine r_aload_n C (j := 0) (oDec_at oX12_testTold 45 rfl) rfl rfl ?_
      refine r_getF (k := 51) (b := 106) C oCl12 rfl (by decide) flX12_120 rfl rfl rfl (oDec_at oX12_testTold 46 rfl) ?_
      refine r_iload_n C (j := 2) (oDec_at oX12_testTold 47 rfl) rfl rfl ?_
      refine r_aload_n C (j := 0) (oDec_at oX12_testTold 48 rfl) rfl rfl ?_
      refine r_pc C 81 rfl ?_
      obtain ⟨v84, ev84⟩ : ∃ z : Int32, (u81).1 71 45 = z := ⟨_, rfl⟩
      have gv84 : (u81.1 71 45).toInt = v84.toInt := congrArg Int32.toInt (ev84)
      refine r_geti (k := 45) (lo := 0) (hi := 1600) C v84 oCl12 rfl (by decide) flX12_234 rfl rfl (ev84) rfl rfl (oDec_at oX12_testTold 49 rfl) (fun b85 b85h => ?_)
      have lc86 : ((u81).1 104 2).toInt = (s.1 104 2).toInt := congrArg Int32.toInt (((fu81 104 2 rfl).1).trans (((pI_ne (a := 104) (b := 2) (c := 71) _ _ (Or.inl (by decide)))).trans (((pI_ne (a := 104) (b := 2) (c := 71) _ _ (Or.inl (by decide)))).trans (((pI_ne (a := 104) (b := 2) (c := 71) _ _ (Or.inl (by decide)))).trans (((pI_ne (a := 104) (b := 2) (c := 105) _ _ (Or.inl (by decide)))).trans (((pI_ne (a := 104) (b := 2) (c := 71) _ _ (Or.inl (by decide)))).trans ((fu9 104 2 rfl).1)))))))
      have lc87 : ((u81).1 104 3).toInt = (s.1 104 3).toInt := congrArg Int32.toInt (((fu81 104 3 rfl).1).trans (((pI_ne (a := 104) (b := 3) (c := 71) _ _ (Or.inl (by decide)))).trans (((pI_ne (a := 104) (b := 3) (c := 71) _ _ (Or.inl (by decide)))).trans (((pI_ne (a := 104) (b := 3) (c := 71) _ _ (Or.inl (by decide)))).trans (((pI_ne (a := 104) (b := 3) (c := 105) _ _ (Or.inl (by decide)))).trans (((pI_ne (a := 104) (b := 3) (c := 71) _ _ (Or.inl (by decide)))).trans ((fu9 104 3 rfl).1)))))))
      have lk88 : ((u81).1 71 45).toInt = v84.toInt := congrArg Int32.toInt (ev84)
      have lk89 : ((u81).1 71 56).toInt = k0.toInt := congrArg Int32.toInt (((fu81 71 56 rfl).1).trans (((pI_ne (a := 71) (b := 56) (c := 71) (k := 55) _ _ (Or.inr (by decide)))).trans (((pI_ne (a := 71) (b := 56) (c := 71) (k := 48) _ _ (Or.inr (by decide)))).trans (((pI_ne (a := 71) (b := 56) (c := 71) (k := 47) _ _ (Or.inr (by decide)))).trans (((pI_ne (a := 71) (b := 56) (c := 105) _ _ (Or.inl (by decide)))).trans ((pI_self _ _ _ _)))))))
      refine r_ty C (fun hty => ?_)
      have hmB : ∀ i : Nat, (0 : Int) ≤ ((u81).1 104 i).toInt ∧ ((u81).1 104 i).toInt ≤ 12 := fun i => hty.1 104 i
      have hmB2 := hmB 2
      have hmB3 := hmB 3
      clear hty
      refine r_ty C (fun hty => ?_)
      have hty_coded : (0 : Int) ≤ ((u81).1 71 45).toInt ∧ ((u81).1 71 45).toInt ≤ 1600 := hty.1 71 45
      have hty_waits : (0 : Int) ≤ ((u81).1 71 47).toInt ∧ ((u81).1 71 47).toInt ≤ 1700 := hty.1 71 47
      have hty_at : (0 : Int) ≤ ((u81).1 71 2).toInt ∧ ((u81).1 71 2).toInt ≤ 1600 := hty.1 71 2
      clear hty
      refine r_iast (n := 48) (lo := 0) (hi := 1600) C rfl (by decide) rfl rfl ⟨by omega, by omega⟩ (by decide) rfl rfl rfl rfl ⟨by omega, by omega⟩ (oDec_at oX12_testTold 50 rfl) ?_
      have hty9 := hty_coded.1
      have hec9 := ev84
      have hq90 : owR6 (oU (s.1 106) (v8.toNatClampNeg) v84) ((pI u81 106 v8.toNatClampNeg v84)) := owR6_pu (owR6_fr fu81 rfl (owR6_fr (oFr_oneI (q := 12) (m := 55) rfl (by rfl)) rfl (owR6_fr (oFr_oneI (q := 12) (m := 48) rfl (by rfl)) rfl (owR6_fr (oFr_oneI (q := 12) (m := 47) rfl (by rfl)) rfl (owR6_fr (oFr_oneI (q := 81) (m := 9999) rfl (by rfl)) rfl (owR6_fr (oFr_oneI (q := 12) (m := 56) rfl (by rfl)) rfl (owR6_fr fu9 rfl hq2)))))))
      have hq91 : owLw Fq Tq nq ((pI u81 106 v8.toNatClampNeg v84)) := owLw_6 (owLw_fr fu81 rfl (owLw_fr (oFr_oneI (q := 12) (m := 55) rfl (by rfl)) rfl (owLw_fr (oFr_oneI (q := 12) (m := 48) rfl (by rfl)) rfl (owLw_fr (oFr_oneI (q := 12) (m := 47) rfl (by rfl)) rfl hq23)))) (by omega)
      refine r_aload_n C (j := 0) (oDec_at oX12_testTold 51 rfl) rfl rfl ?_
      refine r_getF (k := 49) (b := 104) C oCl12 rfl (by decide) flX12_114 rfl rfl rfl (oDec_at oX12_testTold 52 rfl) ?_
      refine r_iconst C (oDec_at oX12_testTold 53 rfl) (v := k2) (by rw [qk2]; rfl) ?_
      refine r_iload_n C (j := 1) (oDec_at oX12_testTold 54 rfl) rfl rfl ?_
      refine r_pc C 91 rfl ?_
      obtain ⟨v92, ev92⟩ : ∃ z : Int32, z = k2 + a1 := ⟨_, rfl⟩
      have hv92 : v92.toInt = k2.toInt + a1.toInt := n_add ev92 (by omega) (by omega)
      refine r_iadd C v92 (oDec_at oX12_testTold 55 rfl) ev92 ?_
      refine r_dup2 C (oDec_at oX12_testTold 56 rfl) rfl rfl ?_
      obtain ⟨v94, ev94⟩ : ∃ z : Int32, ((pI u81 106 v8.toNatClampNeg v84)).1 104 v92.toNatClampNeg = z := ⟨_, rfl⟩
      have av94 : s.1 104 v92.toNatClampNeg = v94 := (((pI_ne (a := 104) (b := v92.toNatClampNeg) (c := 106) _ _ (Or.inl (by decide)))).trans (((fu81 104 v92.toNatClampNeg rfl).1).trans (((pI_ne (a := 104) (b := v92.toNatClampNeg) (c := 71) _ _ (Or.inl (by decide)))).trans (((pI_ne (a := 104) (b := v92.toNatClampNeg) (c := 71) _ _ (Or.inl (by decide)))).trans (((pI_ne (a := 104) (b := v92.toNatClampNeg) (c := 71) _ _ (Or.inl (by decide)))).trans (((pI_ne (a := 104) (b := v92.toNatClampNeg) (c := 105) _ _ (Or.inl (by decide)))).trans (((pI_ne (a := 104) (b := v92.toNatClampNeg) (c := 71) _ _ (Or.inl (by decide)))).trans ((fu9 104 v92.toNatClampNeg rfl).1)))))))).symm.trans ev94
      have gv94 : (s.1 104 v92.toNatClampNeg).toInt = v94.toInt := congrArg Int32.toInt ((((pI_ne (a := 104) (b := v92.toNatClampNeg) (c := 106) _ _ (Or.inl (by decide)))).trans (((fu81 104 v92.toNatClampNeg rfl).1).trans (((pI_ne (a := 104) (b := v92.toNatClampNeg) (c := 71) _ _ (Or.inl (by decide)))).trans (((pI_ne (a := 104) (b := v92.toNatClampNeg) (c := 71) _ _ (Or.inl (by decide)))).trans (((pI_ne (a := 104) (b := v92.toNatClampNeg) (c := 71) _ _ (Or.inl (by decide)))).trans (((pI_ne (a := 104) (b := v92.toNatClampNeg) (c := 105) _ _ (Or.inl (by decide)))).trans (((pI_ne (a := 104) (b := v92.toNatClampNeg) (c := 71) _ _ (Or.inl (by decide)))).trans ((fu9 104 v92.toNatClampNeg rfl).1)))))))).symm.trans ev94)
      refine r_iald (n := 4) (lo := 0) (hi := 12) C v94 rfl (by decide) rfl rfl ⟨by omega, by omega⟩ (by decide) ev94 rfl rfl (oDec_at oX12_testTold 57 rfl) (fun b93 b93h => ?_)
      have lc95 : (((pI u81 106 v8.toNatClampNeg v84)).1 104 2).toInt = (s.1 104 2).toInt := congrArg Int32.toInt (((pI_ne (a := 104) (b := 2) (c := 106) _ _ (Or.inl (by decide)))).trans (((fu81 104 2 rfl).1).trans (((pI_ne (a := 104) (b := 2) (c := 71) _ _ (Or.inl (by decide)))).trans (((pI_ne (a := 104) (b := 2) (c := 71) _ _ (Or.inl (by decide)))).trans (((pI_ne (a := 104) (b := 2) (c := 71) _ _ (Or.inl (by decide)))).trans (((pI_ne (a := 104) (b := 2) (c := 105) _ _ (Or.inl (by decide)))).trans (((pI_ne (a := 104) (b := 2) (c := 71) _ _ (Or.inl (by decide)))).trans ((fu9 104 2 rfl).1))))))))
      have lc96 : (((pI u81 106 v8.toNatClampNeg v84)).1 104 3).toInt = (s.1 104 3).toInt := congrArg Int32.toInt (((pI_ne (a := 104) (b := 3) (c := 106) _ _ (Or.inl (by decide)))).trans (((fu81 104 3 rfl).1).trans (((pI_ne (a := 104) (b := 3) (c := 71) _ _ (Or.inl (by decide)))).trans (((pI_ne (a := 104) (b := 3) (c := 71) _ _ (Or.inl (by decide)))).trans (((pI_ne (a := 104) (b := 3) (c := 71) _ _ (Or.inl (by decide)))).trans (((pI_ne (a := 104) (b := 3) (c := 105) _ _ (Or.inl (by decide)))).trans (((pI_ne (a := 104) (b := 3) (c := 71) _ _ (Or.inl (by decide)))).trans ((fu9 104 3 rfl).1))))))))
      have hix2 := oIxM (i := v92) ev94
      refine r_iconst C (oDec_at oX12_testTold 58 rfl) (v := k1) (by rw [qk1]; rfl) ?_
      obtain ⟨v97, ev97⟩ : ∃ z : Int32, z = v94 + k1 := ⟨_, rfl⟩
      have hv97 : v97.toInt = v94.toInt + k1.toInt := n_add ev97 (by omega) (by omega)
      refine r_iadd C v97 (oDec_at oX12_testTold 59 rfl) ev97 ?_
      refine r_iast (n := 4) (lo := 0) (hi := 12) C rfl (by decide) rfl rfl ⟨by omega, by omega⟩ (by decide) rfl rfl rfl rfl ⟨by omega, by omega⟩ (oDec_at oX12_testTold 60 rfl) ?_
      refine r_pc C 97 rfl ?_
      have lk98 : (((pI (pI u81 106 v8.toNatClampNeg v84) 104 v92.toNatClampNeg v97)).1 71 6).toInt = (u81.1 71 6).toInt := congrArg Int32.toInt (((pI_ne (a := 71) (b := 6) (c := 104) _ _ (Or.inl (by decide)))).trans ((pI_ne (a := 71) (b := 6) (c := 106) _ _ (Or.inl (by decide)))))
      have lk99 : (((pI (pI u81 106 v8.toNatClampNeg v84) 104 v92.toNatClampNeg v97)).1 71 5).toInt = (u81.1 71 5).toInt := congrArg Int32.toInt (((pI_ne (a := 71) (b := 5) (c := 104) _ _ (Or.inl (by decide)))).trans ((pI_ne (a := 71) (b := 5) (c := 106) _ _ (Or.inl (by decide)))))
      have lk100 : (((pI (pI u81 106 v8.toNatClampNeg v84) 104 v92.toNatClampNeg v97)).1 71 45).toInt = v84.toInt := congrArg Int32.toInt (((pI_ne (a := 71) (b := 45) (c := 104) _ _ (Or.inl (by decide)))).trans (((pI_ne (a := 71) (b := 45) (c := 106) _ _ (Or.inl (by decide)))).trans (ev84)))
      have hmy := oMny3 (s := (pI u81 106 v8.toNatClampNeg v84)) (i := v92) (z := v97)
      have hmy2 := oMny23 (s := (pI u81 106 v8.toNatClampNeg v84)) (i := v92) (z := v97)
      have hTD9 : owHid ((((pI (pI u81 106 v8.toNatClampNeg v84) 104 v92.toNatClampNeg v97)).1 71 5).toInt = 0 → owTd g fp fq w v8.toInt Z s ((pI (pI u81 106 v8.toNatClampNeg v84) 104 v92.toNatClampNeg v97))) := fun h9 => owTd_of (oqE8w_fr (oFr_oneI (q := 80) (m := 9999) rfl (by rfl)) rfl (oqE8w_fr (oFr_oneI (q := 82) (m := 9999) rfl (by rfl)) rfl pu81_6)) h9 (owR5_fr (oFr_oneI (q := 80) (m := 9999) rfl (by rfl)) rfl (owR5_fr (oFr_oneI (q := 82) (m := 9999) rfl (by rfl)) rfl (owR5_fr fu81 rfl (owR5_fr (oFr_oneI (q := 12) (m := 55) rfl (by rfl)) rfl (owR5_fr (oFr_oneI (q := 12) (m := 48) rfl (by rfl)) rfl (owR5_fr (oFr_oneI (q := 12) (m := 47) rfl (by rfl)) rfl hq22)))))) (owR6_fr (oFr_oneI (q := 80) (m := 9999) rfl (by rfl)) rfl hq90) hcz8 (congrArg Int32.toInt (((pI_ne _ _ (Or.inl (by decide))).trans (pI_ne _ _ (Or.inl (by decide)))).trans hec9)).symm (by rw [pI_ne _ _ (Or.inl (by decide)), pI_ne _ _ (Or.inl (by decide))]; exact hty9) hi20
      have hq101 : oBB ((pI (pI u81 106 v8.toNatClampNeg v84) 104 v92.toNatClampNeg v97)) := by first | exact oBB_told (x := 1) pu81_0 hmB (by assumption) (by omega) | exact oBB_told0 (by assumption) (by omega) hmB (by omega) (by omega)
      have hq102 : owLw Fq Tq nq ((pI (pI u81 106 v8.toNatClampNeg v84) 104 v92.toNatClampNeg v97)) := owLw_4 hq91 (by omega)
      have lk103 : (((pI (pI u81 106 v8.toNatClampNeg v84) 104 v92.toNatClampNeg v97)).1 71 5).toInt = (u81.1 71 5).toInt := congrArg Int32.toInt (((pI_ne (a := 71) (b := 5) (c := 104) _ _ (Or.inl (by decide)))).trans ((pI_ne (a := 71) (b := 5) (c := 106) _ _ (Or.inl (by decide)))))
      have lk104 : (((pI (pI u81 106 v8.toNatClampNeg v84) 104 v92.toNatClampNeg v97)).1 71 45).toInt = v84.toInt := congrArg Int32.toInt (((pI_ne (a := 71) (b := 45) (c := 104) _ _ (Or.inl (by decide)))).trans (((pI_ne (a := 71) (b := 45) (c := 106) _ _ (Or.inl (by decide)))).trans (ev84)))
      have lk105 : (((pI (pI u81 106 v8.toNatClampNeg v84) 104 v92.toNatClampNeg v97)).1 71 2).toInt = (u81.1 71 2).toInt := congrArg Int32.toInt (((pI_ne (a := 71) (b := 2) (c := 104) _ _ (Or.inl (by decide)))).trans ((pI_ne (a := 71) (b := 2) (c := 106) _ _ (Or.inl (by decide)))))
      have lk106 : (((pI (pI u81 106 v8.toNatClampNeg v84) 104 v92.toNatClampNeg v97)).1 71 2).toInt = (u81.1 71 2).toInt := congrArg Int32.toInt (((pI_ne (a := 71) (b := 2) (c := 104) _ _ (Or.inl (by decide)))).trans ((pI_ne (a := 71) (b := 2) (c := 106) _ _ (Or.inl (by decide)))))
      have lk107 : (((pI (pI u81 106 v8.toNatClampNeg v84) 104 v92.toNatClampNeg v97)).1 71 5).toInt = (u81.1 71 5).toInt := congrArg Int32.toInt (((pI_ne (a := 71) (b := 5) (c := 104) _ _ (Or.inl (by decide)))).trans ((pI_ne (a := 71) (b := 5) (c := 106) _ _ (Or.inl (by decide)))))
      have lk108 : (((pI (pI u81 106 v8.toNatClampNeg v84) 104 v92.toNatClampNeg v97)).1 71 5).toInt = (u81.1 71 5).toInt := congrArg Int32.toInt (((pI_ne (a := 71) (b := 5) (c := 104) _ _ (Or.inl (by decide)))).trans ((pI_ne (a := 71) (b := 5) (c := 106) _ _ (Or.inl (by decide)))))
      exact r_vret C (oDec_at oX12_testTold 61 rfl) ⟨rfl, ⟨hq101, by omega, by omega, by omega, (oqVs_fr (oFr_oneI (q := 80) (m := 9999) rfl (by rfl)) rfl (oqVs_fr (oFr_oneI (q := 82) (m := 9999) rfl (by rfl)) rfl hq83)), by omega, by omega, (oqBP_fr (oFr_oneI (q := 80) (m := 9999) rfl (by rfl)) rfl (oqBP_fr (oFr_oneI (q := 82) (m := 9999) rfl (by rfl)) rfl pu81_5)), (owC0_fr (oFr_oneI (q := 80) (m := 9999) rfl (by rfl)) rfl (owC0_fr (oFr_oneI (q := 82) (m := 9999) rfl (by rfl)) rfl pu81_7)), hq102, by first | exact (fun h9 h8 => by rw [← hm2 h8]; exact hTD9 h9) | (intro h9; exfalso; omega), by first | exact (fun h9 h8 => by rw [← hm3 h8]; exact hTD9 h9) | (intro h9; exfalso; omega)⟩⟩
  · skip
    refine r_iconst C (oDec_at oX12_testTold 21 rfl) (v := k1) (by rw [qk1]; rfl) ?_
    refine r_goto C (tgt := 36) (oDec_at oX12_testTold 22 rfl) (by decide) ?_
    refine r_puti (k := 56) (lo := 0) (hi := 1) C oCl12 rfl (by decide) flX12_295 rfl rfl rfl rfl rfl (n_bool (by omega)) (n_fitz (by omega)) rfl ⟨by omega, by omega⟩ (oDec_at oX12_testTold 24 rfl) ?_
    refine r_aload_n C (j := 0) (oDec_at oX12_testTold 25 rfl) rfl rfl ?_
    refine r_getF (k := 50) (b := 105) C oCl12 rfl (by decide) flX12_117 rfl rfl rfl (oDec_at oX12_testTold 26 rfl) ?_
    refine r_iload_n C (j := 2) (oDec_at oX12_testTold 27 rfl) rfl rfl ?_
    refine r_aload_n C (j := 0) (oDec_at oX12_testTold 28 rfl) rfl rfl ?_
    refine r_pc C 45 rfl ?_
    obtain ⟨v109, ev109⟩ : ∃ z : Int32, ((pI u9 71 56 k1)).1 71 45 = z := ⟨_, rfl⟩
    have gv109 : (s.1 71 45).toInt = v109.toInt := congrArg Int32.toInt ((((pI_ne (a := 71) (b := 45) (c := 71) (k := 56) _ _ (Or.inr (by decide)))).trans ((fu9 71 45 rfl).1)).symm.trans ev109)
    have ggv109 : (((pI u9 71 56 k1)).1 71 45).toInt = v109.toInt := congrArg Int32.toInt ev109
    refine r_geti (k := 45) (lo := 0) (hi := 1600) C v109 oCl12 rfl (by decide) flX12_234 rfl rfl (ev109) rfl rfl (oDec_at oX12_testTold 29 rfl) (fun b110 b110h => ?_)
    have lc111 : (((pI u9 71 56 k1)).1 104 2).toInt = (s.1 104 2).toInt := congrArg Int32.toInt (((pI_ne (a := 104) (b := 2) (c := 71) _ _ (Or.inl (by decide)))).trans ((fu9 104 2 rfl).1))
    have lc112 : (((pI u9 71 56 k1)).1 104 3).toInt = (s.1 104 3).toInt := congrArg Int32.toInt (((pI_ne (a := 104) (b := 3) (c := 71) _ _ (Or.inl (by decide)))).trans ((fu9 104 3 rfl).1))
    have lk113 : (((pI u9 71 56 k1)).1 71 45).toInt = v109.toInt := congrArg Int32.toInt (ev109)
    have lk114 : (((pI u9 71 56 k1)).1 71 5).toInt = (u9.1 71 5).toInt := congrArg Int32.toInt ((pI_ne (a := 71) (b := 5) (c := 71) (k := 56) _ _ (Or.inr (by decide))))
    refine r_ty C (fun hty => ?_)
    have hmA : ∀ i : Nat, (0 : Int) ≤ (((pI u9 71 56 k1)).1 104 i).toInt ∧ (((pI u9 71 56 k1)).1 104 i).toInt ≤ 12 := fun i => hty.1 104 i
    have hmA2 := hmA 2
    have hmA3 := hmA 3
    clear hty
    have hcz9 : owHid ((((pI u9 71 56 k1)).1 71 5).toInt = 0 → v109.toInt = (Z.length : Int)) := fun h9 => by have h8 := oqRy_len (t := (pI u9 71 56 k1)); have h6 := n_nat (((pI u9 71 56 k1)).1 71 45); rw [(show owYl Z ((pI u9 71 56 k1)) from (owYl_fr (oFr_oneI (q := 12) (m := 56) rfl (by rfl)) rfl (owYl_frb fu9 rfl (by omega) hp12))) h9] at h8; omega
    refine r_iast (n := 48) (lo := 0) (hi := 1600) C rfl (by decide) rfl rfl ⟨by omega, by omega⟩ (by decide) rfl rfl rfl rfl ⟨by omega, by omega⟩ (oDec_at oX12_testTold 30 rfl) ?_
    have hq115 : oBB ((pI (pI u9 71 56 k1) 105 v8.toNatClampNeg v109)) := oBB_from (oBB_fr (oFr_oneI (q := 12) (m := 56) rfl (by rfl)) rfl (oBB_frb fu9 rfl (by omega) hp0)) hmA (by omega)
    have hq116 : owR5 (oU (s.1 105) (v8.toNatClampNeg) v109) ((pI (pI u9 71 56 k1) 105 v8.toNatClampNeg v109)) := owR5_pu (owR5_fr (oFr_oneI (q := 12) (m := 56) rfl (by rfl)) rfl (owR5_fr fu9 rfl hq1))
    have hq117 : owLw Fq Tq nq ((pI (pI u9 71 56 k1) 105 v8.toNatClampNeg v109)) := owLw_5 (owLw_fr (oFr_oneI (q := 12) (m := 56) rfl (by rfl)) rfl (owLw_fr fu9 rfl hp14)) (by omega)
    refine r_aload_n C (j := 0) (oDec_at oX12_testTold 31 rfl) rfl rfl ?_
    refine r_iconst C (oDec_at oX12_testTold 32 rfl) (v := k0) (by rw [qk0]; rfl) ?_
    refine r_puti (k := 47) (lo := 0) (hi := 1700) C oCl12 rfl (by decide) flX12_277 rfl rfl rfl rfl rfl rfl rfl rfl ⟨by omega, by omega⟩ (oDec_at oX12_testTold 33 rfl) ?_
    refine r_aload_n C (j := 0) (oDec_at oX12_testTold 34 rfl) rfl rfl ?_
    refine r_pc C 55 rfl ?_
    refine r_iconst C (oDec_at oX12_testTold 35 rfl) (v := k0) (by rw [qk0]; rfl) ?_
    refine r_puti (k := 48) (lo := (-1)) (hi := 7) C oCl12 rfl (by decide) flX12_274 rfl rfl rfl rfl rfl rfl rfl rfl ⟨by omega, by omega⟩ (oDec_at oX12_testTold 36 rfl) ?_
    refine r_aload_n C (j := 0) (oDec_at oX12_testTold 37 rfl) rfl rfl ?_
    refine r_iconst C (oDec_at oX12_testTold 38 rfl) (v := k0) (by rw [qk0]; rfl) ?_
    refine r_puti (k := 55) (lo := 0) (hi := 1700) C oCl12 rfl (by decide) flX12_283 rfl rfl rfl rfl rfl rfl rfl rfl ⟨by omega, by omega⟩ (oDec_at oX12_testTold 39 rfl) ?_
    refine r_aload_n C (j := 0) (oDec_at oX12_testTold 40 rfl) rfl rfl ?_
    refine r_pc C 65 rfl ?_
    obtain ⟨v118, ev118⟩ : ∃ z : Int32, ((pI (pI (pI (pI (pI u9 71 56 k1) 105 v8.toNatClampNeg v109) 71 47 k0) 71 48 k0) 71 55 k0)).1 71 5 = z := ⟨_, rfl⟩
    have gv118 : (u9.1 71 5).toInt = v118.toInt := congrArg Int32.toInt ((((pI_ne (a := 71) (b := 5) (c := 71) (k := 55) _ _ (Or.inr (by decide)))).trans (((pI_ne (a := 71) (b := 5) (c := 71) (k := 48) _ _ (Or.inr (by decide)))).trans (((pI_ne (a := 71) (b := 5) (c := 71) (k := 47) _ _ (Or.inr (by decide)))).trans (((pI_ne (a := 71) (b := 5) (c := 105) _ _ (Or.inl (by decide)))).trans ((pI_ne (a := 71) (b := 5) (c := 71) (k := 56) _ _ (Or.inr (by decide)))))))).symm.trans ev118)
    have ggv118 : (((pI (pI (pI (pI (pI u9 71 56 k1) 105 v8.toNatClampNeg v109) 71 47 k0) 71 48 k0) 71 55 k0)).1 71 5).toInt = v118.toInt := congrArg Int32.toInt ev118
    have rv118 := n_rng v118
    refine r_geti (k := 5) (lo := (-2147483648)) (hi := 2147483647) C v118 oCl12 rfl (by decide) flX12_173 rfl rfl (ev118) rfl rfl (oDec_at oX12_testTold 41 rfl) (fun _ _ => ?_)
    refine r_if_ne C 75 (oDec_at oX12_testTold 42 rfl) (by decide) (fun cd119 => ?_) (fun cd119 => ?_)
    · skip
      have lk120 : (((pI (pI (pI (pI (pI u9 71 56 k1) 105 v8.toNatClampNeg v109) 71 47 k0) 71 48 k0) 71 55 k0)).1 71 2).toInt = (u9.1 71 2).toInt := congrArg Int32.toInt (((pI_ne (a := 71) (b := 2) (c := 71) (k := 55) _ _ (Or.inr (by decide)))).trans (((pI_ne (a := 71) (b := 2) (c := 71) (k := 48) _ _ (Or.inr (by decide)))).trans (((pI_ne (a := 71) (b := 2) (c := 71) (k := 47) _ _ (Or.inr (by decide)))).trans (((pI_ne (a := 71) (b := 2) (c := 105) _ _ (Or.inl (by decide)))).trans ((pI_ne (a := 71) (b := 2) (c := 71) (k := 56) _ _ (Or.inr (by decide))))))))
      have lk121 : (((pI (pI (pI (pI (pI u9 71 56 k1) 105 v8.toNatClampNeg v109) 71 47 k0) 71 48 k0) 71 55 k0)).1 71 4).toInt = (u9.1 71 4).toInt := congrArg Int32.toInt (((pI_ne (a := 71) (b := 4) (c := 71) (k := 55) _ _ (Or.inr (by decide)))).trans (((pI_ne (a := 71) (b := 4) (c := 71) (k := 48) _ _ (Or.inr (by decide)))).trans (((pI_ne (a := 71) (b := 4) (c := 71) (k := 47) _ _ (Or.inr (by decide)))).trans (((pI_ne (a := 71) (b := 4) (c := 105) _ _ (Or.inl (by decide)))).trans ((pI_ne (a := 71) (b := 4) (c := 71) (k := 56) _ _ (Or.inr (by decide))))))))
      have lk122 : (((pI (pI (pI (pI (pI u9 71 56 k1) 105 v8.toNatClampNeg v109) 71 47 k0) 71 48 k0) 71 55 k0)).1 71 5).toInt = v118.toInt := congrArg Int32.toInt (ev118)
      have lk123 : (((pI (pI (pI (pI (pI u9 71 56 k1) 105 v8.toNatClampNeg v109) 71 47 k0) 71 48 k0) 71 55 k0)).1 71 48).toInt = k0.toInt := congrArg Int32.toInt (((pI_ne (a := 71) (b := 48) (c := 71) (k := 55) _ _ (Or.inr (by decide)))).trans ((pI_self _ _ _ _)))
      have lk124 : (((pI (pI (pI (pI (pI u9 71 56 k1) 105 v8.toNatClampNeg v109) 71 47 k0) 71 48 k0) 71 55 k0)).1 71 47).toInt = k0.toInt := congrArg Int32.toInt (((pI_ne (a := 71) (b := 47) (c := 71) (k := 55) _ _ (Or.inr (by decide)))).trans (((pI_ne (a := 71) (b := 47) (c := 71) (k := 48) _ _ (Or.inr (by decide)))).trans ((pI_self _ _ _ _))))
      have lk125 : (((pI (pI (pI (pI (pI u9 71 56 k1) 105 v8.toNatClampNeg v109) 71 47 k0) 71 48 k0) 71 55 k0)).1 71 6).toInt = (u9.1 71 6).toInt := congrArg Int32.toInt (((pI_ne (a := 71) (b := 6) (c := 71) (k := 55) _ _ (Or.inr (by decide)))).trans (((pI_ne (a := 71) (b := 6) (c := 71) (k := 48) _ _ (Or.inr (by decide)))).trans (((pI_ne (a := 71) (b := 6) (c := 71) (k := 47) _ _ (Or.inr (by decide)))).trans (((pI_ne (a := 71) (b := 6) (c := 105) _ _ (Or.inl (by decide)))).trans ((pI_ne (a := 71) (b := 6) (c := 71) (k := 56) _ _ (Or.inr (by decide))))))))
      have hq126 : oqVs g fp fq w ((pI (pI (pI (pI (pI u9 71 56 k1) 105 v8.toNatClampNeg v109) 71 47 k0) 71 48 k0) 71 55 k0)) := (by first | exact oqVs_t (by omega) (by assumption) | exact oqVs_w (by omega) (by omega) (by omega))
      refine r_aload_n C (j := 0) (oDec_at oX12_testTold 45 rfl) rfl rfl ?_
      refine r_getF (k := 51) (b := 106) C oCl12 rfl (by decide) flX12_120 rfl rfl rfl (oDec_at oX12_testTold 46 rfl) ?_
      refine r_iload_n C (j := 2) (oDec_at oX12_testTold 47 rfl) rfl rfl ?_
      refine r_aload_n C (j := 0) (oDec_at oX12_testTold 48 rfl) rfl rfl ?_
      refine r_geti (k := 45) (lo := 0) (hi := 1600) C v109 oCl12 rfl (by decide) flX12_234 rfl rfl (((pI_ne (a := 71) (b := 45) (c := 71) (k := 55) _ _ (Or.inr (by decide)))).trans (((pI_ne (a := 71) (b := 45) (c := 71) (k := 48) _ _ (Or.inr (by decide)))).trans (((pI_ne (a := 71) (b := 45) (c := 71) (k := 47) _ _ (Or.inr (by decide)))).trans (((pI_ne (a := 71) (b := 45) (c := 105) _ _ (Or.inl (by decide)))).trans (ev109))))) rfl rfl (oDec_at oX12_testTold 49 rfl) (fun _ _ => ?_)
      have lc127 : (((pI (pI (pI (pI (pI u9 71 56 k1) 105 v8.toNatClampNeg v109) 71 47 k0) 71 48 k0) 71 55 k0)).1 104 2).toInt = (s.1 104 2).toInt := congrArg Int32.toInt (((pI_ne (a := 104) (b := 2) (c := 71) _ _ (Or.inl (by decide)))).trans (((pI_ne (a := 104) (b := 2) (c := 71) _ _ (Or.inl (by decide)))).trans (((pI_ne (a := 104) (b := 2) (c := 71) _ _ (Or.inl (by decide)))).trans (((pI_ne (a := 104) (b := 2) (c := 105) _ _ (Or.inl (by decide)))).trans (((pI_ne (a := 104) (b := 2) (c := 71) _ _ (Or.inl (by decide)))).trans ((fu9 104 2 rfl).1))))))
      have lc128 : (((pI (pI (pI (pI (pI u9 71 56 k1) 105 v8.toNatClampNeg v109) 71 47 k0) 71 48 k0) 71 55 k0)).1 104 3).toInt = (s.1 104 3).toInt := congrArg Int32.toInt (((pI_ne (a := 104) (b := 3) (c := 71) _ _ (Or.inl (by decide)))).trans (((pI_ne (a := 104) (b := 3) (c := 71) _ _ (Or.inl (by decide)))).trans (((pI_ne (a := 104) (b := 3) (c := 71) _ _ (Or.inl (by decide)))).trans (((pI_ne (a := 104) (b := 3) (c := 105) _ _ (Or.inl (by decide)))).trans (((pI_ne (a := 104) (b := 3) (c := 71) _ _ (Or.inl (by decide)))).trans ((fu9 104 3 rfl).1))))))
      have lk129 : (((pI (pI (pI (pI (pI u9 71 56 k1) 105 v8.toNatClampNeg v109) 71 47 k0) 71 48 k0) 71 55 k0)).1 71 45).toInt = v109.toInt := congrArg Int32.toInt (((pI_ne (a := 71) (b := 45) (c := 71) (k := 55) _ _ (Or.inr (by decide)))).trans (((pI_ne (a := 71) (b := 45) (c := 71) (k := 48) _ _ (Or.inr (by decide)))).trans (((pI_ne (a := 71) (b := 45) (c := 71) (k := 47) _ _ (Or.inr (by decide)))).trans (((pI_ne (a := 71) (b := 45) (c := 105) _ _ (Or.inl (by decide)))).trans (ev109)))))
      have lk130 : (((pI (pI (pI (pI (pI u9 71 56 k1) 105 v8.toNatClampNeg v109) 71 47 k0) 71 48 k0) 71 55 k0)).1 71 56).toInt = k1.toInt := congrArg Int32.toInt (((pI_ne (a := 71) (b := 56) (c := 71) (k := 55) _ _ (Or.inr (by decide)))).trans (((pI_ne (a := 71) (b := 56) (c := 71) (k := 48) _ _ (Or.inr (by decide)))).trans (((pI_ne (a := 71) (b := 56) (c := 71) (k := 47) _ _ (Or.inr (by decide)))).trans (((pI_ne (a := 71) (b := 56) (c := 105) _ _ (Or.inl (by decide)))).trans ((pI_self _ _ _ _))))))
      have lk131 : (((pI (pI (pI (pI (pI u9 71 56 k1) 105 v8.toNatClampNeg v109) 71 47 k0) 71 48 k0) 71 55 k0)).1 71 5).toInt = v118.toInt := congrArg Int32.toInt (ev118)
      refine r_ty C (fun hty => ?_)
      have hmB : ∀ i : Nat, (0 : Int) ≤ (((pI (pI (pI (pI (pI u9 71 56 k1) 105 v8.toNatClampNeg v109) 71 47 k0) 71 48 k0) 71 55 k0)).1 104 i).toInt ∧ (((pI (pI (pI (pI (pI u9 71 56 k1) 105 v8.toNatClampNeg v109) 71 47 k0) 71 48 k0) 71 55 k0)).1 104 i).toInt ≤ 12 := fun i => hty.1 104 i
      have hmB2 := hmB 2
      have hmB3 := hmB 3
      clear hty
      refine r_ty C (fun hty => ?_)
      have hty_coded : (0 : Int) ≤ (((pI (pI (pI (pI (pI u9 71 56 k1) 105 v8.toNatClampNeg v109) 71 47 k0) 71 48 k0) 71 55 k0)).1 71 45).toInt ∧ (((pI (pI (pI (pI (pI u9 71 56 k1) 105 v8.toNatClampNeg v109) 71 47 k0) 71 48 k0) 71 55 k0)).1 71 45).toInt ≤ 1600 := hty.1 71 45
      have hty_waits : (0 : Int) ≤ (((pI (pI (pI (pI (pI u9 71 56 k1) 105 v8.toNatClampNeg v109) 71 47 k0) 71 48 k0) 71 55 k0)).1 71 47).toInt ∧ (((pI (pI (pI (pI (pI u9 71 56 k1) 105 v8.toNatClampNeg v109) 71 47 k0) 71 48 k0) 71 55 k0)).1 71 47).toInt ≤ 1700 := hty.1 71 47
      have hty_at : (0 : Int) ≤ (((pI (pI (pI (pI (pI u9 71 56 k1) 105 v8.toNatClampNeg v109) 71 47 k0) 71 48 k0) 71 55 k0)).1 71 2).toInt ∧ (((pI (pI (pI (pI (pI u9 71 56 k1) 105 v8.toNatClampNeg v109) 71 47 k0) 71 48 k0) 71 55 k0)).1 71 2).toInt ≤ 1600 := hty.1 71 2
      clear hty
      refine r_iast (n := 48) (lo := 0) (hi := 1600) C rfl (by decide) rfl rfl ⟨by omega, by omega⟩ (by decide) rfl rfl rfl rfl ⟨by omega, by omega⟩ (oDec_at oX12_testTold 50 rfl) ?_
      refine r_pc C 85 rfl ?_
      have hty9 := hty_coded.1
      have hec9 := ev109
      have hq132 : owR6 (oU (s.1 106) (v8.toNatClampNeg) v109) ((pI (pI (pI (pI (pI (pI u9 71 56 k1) 105 v8.toNatClampNeg v109) 71 47 k0) 71 48 k0) 71 55 k0) 106 v8.toNatClampNeg v109)) := owR6_pu (owR6_fr (oFr_oneI (q := 12) (m := 55) rfl (by rfl)) rfl (owR6_fr (oFr_oneI (q := 12) (m := 48) rfl (by rfl)) rfl (owR6_fr (oFr_oneI (q := 12) (m := 47) rfl (by rfl)) rfl (owR6_fr (oFr_oneI (q := 81) (m := 9999) rfl (by rfl)) rfl (owR6_fr (oFr_oneI (q := 12) (m := 56) rfl (by rfl)) rfl (owR6_fr fu9 rfl hq2))))))
      have hq133 : owLw Fq Tq nq ((pI (pI (pI (pI (pI (pI u9 71 56 k1) 105 v8.toNatClampNeg v109) 71 47 k0) 71 48 k0) 71 55 k0) 106 v8.toNatClampNeg v109)) := owLw_6 (owLw_fr (oFr_oneI (q := 12) (m := 55) rfl (by rfl)) rfl (owLw_fr (oFr_oneI (q := 12) (m := 48) rfl (by rfl)) rfl (owLw_fr (oFr_oneI (q := 12) (m := 47) rfl (by rfl)) rfl hq117))) (by omega)
      refine r_aload_n C (j := 0) (oDec_at oX12_testTold 51 rfl) rfl rfl ?_
      refine r_getF (k := 49) (b := 104) C oCl12 rfl (by decide) flX12_114 rfl rfl rfl (oDec_at oX12_testTold 52 rfl) ?_
      refine r_iconst C (oDec_at oX12_testTold 53 rfl) (v := k2) (by rw [qk2]; rfl) ?_
      refine r_iload_n C (j := 1) (oDec_at oX12_testTold 54 rfl) rfl rfl ?_
      obtain ⟨v134, ev134⟩ : ∃ z : Int32, z = k2 + a1 := ⟨_, rfl⟩
      have hv134 : v134.toInt = k2.toInt + a1.toInt := n_add ev134 (by omega) (by omega)
      refine r_iadd C v134 (oDec_at oX12_testTold 55 rfl) ev134 ?_
      refine r_dup2 C (oDec_at oX12_testTold 56 rfl) rfl rfl ?_
      refine r_pc C 93 rfl ?_
      obtain ⟨v136, ev136⟩ : ∃ z : Int32, ((pI (pI (pI (pI (pI (pI u9 71 56 k1) 105 v8.toNatClampNeg v109) 71 47 k0) 71 48 k0) 71 55 k0) 106 v8.toNatClampNeg v109)).1 104 v134.toNatClampNeg = z := ⟨_, rfl⟩
      have av136 : s.1 104 v134.toNatClampNeg = v136 := (((pI_ne (a := 104) (b := v134.toNatClampNeg) (c := 106) _ _ (Or.inl (by decide)))).trans (((pI_ne (a := 104) (b := v134.toNatClampNeg) (c := 71) _ _ (Or.inl (by decide)))).trans (((pI_ne (a := 104) (b := v134.toNatClampNeg) (c := 71) _ _ (Or.inl (by decide)))).trans (((pI_ne (a := 104) (b := v134.toNatClampNeg) (c := 71) _ _ (Or.inl (by decide)))).trans (((pI_ne (a := 104) (b := v134.toNatClampNeg) (c := 105) _ _ (Or.inl (by decide)))).trans (((pI_ne (a := 104) (b := v134.toNatClampNeg) (c := 71) _ _ (Or.inl (by decide)))).trans ((fu9 104 v134.toNatClampNeg rfl).1))))))).symm.trans ev136
      have gv136 : (s.1 104 v134.toNatClampNeg).toInt = v136.toInt := congrArg Int32.toInt ((((pI_ne (a := 104) (b := v134.toNatClampNeg) (c := 106) _ _ (Or.inl (by decide)))).trans (((pI_ne (a := 104) (b := v134.toNatClampNeg) (c := 71) _ _ (Or.inl (by decide)))).trans (((pI_ne (a := 104) (b := v134.toNatClampNeg) (c := 71) _ _ (Or.inl (by decide)))).trans (((pI_ne (a := 104) (b := v134.toNatClampNeg) (c := 71) _ _ (Or.inl (by decide)))).trans (((pI_ne (a := 104) (b := v134.toNatClampNeg) (c := 105) _ _ (Or.inl (by decide)))).trans (((pI_ne (a := 104) (b := v134.toNatClampNeg) (c := 71) _ _ (Or.inl (by decide)))).trans ((fu9 104 v134.toNatClampNeg rfl).1))))))).symm.trans ev136)
      refine r_iald (n := 4) (lo := 0) (hi := 12) C v136 rfl (by decide) rfl rfl ⟨by omega, by omega⟩ (by decide) ev136 rfl rfl (oDec_at oX12_testTold 57 rfl) (fun b135 b135h => ?_)
      have lc137 : (((pI (pI (pI (pI (pI (pI u9 71 56 k1) 105 v8.toNatClampNeg v109) 71 47 k0) 71 48 k0) 71 55 k0) 106 v8.toNatClampNeg v109)).1 104 2).toInt = (s.1 104 2).toInt := congrArg Int32.toInt (((pI_ne (a := 104) (b := 2) (c := 106) _ _ (Or.inl (by decide)))).trans (((pI_ne (a := 104) (b := 2) (c := 71) _ _ (Or.inl (by decide)))).trans (((pI_ne (a := 104) (b := 2) (c := 71) _ _ (Or.inl (by decide)))).trans (((pI_ne (a := 104) (b := 2) (c := 71) _ _ (Or.inl (by decide)))).trans (((pI_ne (a := 104) (b := 2) (c := 105) _ _ (Or.inl (by decide)))).trans (((pI_ne (a := 104) (b := 2) (c := 71) _ _ (Or.inl (by decide)))).trans ((fu9 104 2 rfl).1)))))))
      have lc138 : (((pI (pI (pI (pI (pI (pI u9 71 56 k1) 105 v8.toNatClampNeg v109) 71 47 k0) 71 48 k0) 71 55 k0) 106 v8.toNatClampNeg v109)).1 104 3).toInt = (s.1 104 3).toInt := congrArg Int32.toInt (((pI_ne (a := 104) (b := 3) (c := 106) _ _ (Or.inl (by decide)))).trans (((pI_ne (a := 104) (b := 3) (c := 71) _ _ (Or.inl (by decide)))).trans (((pI_ne (a := 104) (b := 3) (c := 71) _ _ (Or.inl (by decide)))).trans (((pI_ne (a := 104) (b := 3) (c := 71) _ _ (Or.inl (by decide)))).trans (((pI_ne (a := 104) (b := 3) (c := 105) _ _ (Or.inl (by decide)))).trans (((pI_ne (a := 104) (b := 3) (c := 71) _ _ (Or.inl (by decide)))).trans ((fu9 104 3 rfl).1)))))))
      have hix2 := oIxM (i := v134) ev136
      refine r_iconst C (oDec_at oX12_testTold 58 rfl) (v := k1) (by rw [qk1]; rfl) ?_
      obtain ⟨v139, ev139⟩ : ∃ z : Int32, z = v136 + k1 := ⟨_, rfl⟩
      have hv139 : v139.toInt = v136.toInt + k1.toInt := n_add ev139 (by omega) (by omega)
      refine r_iadd C v139 (oDec_at oX12_testTold 59 rfl) ev139 ?_
      refine r_iast (n := 4) (lo := 0) (hi := 12) C rfl (by decide) rfl rfl ⟨by omega, by omega⟩ (by decide) rfl rfl rfl rfl ⟨by omega, by omega⟩ (oDec_at oX12_testTold 60 rfl) ?_
      have lk140 : (((pI (pI (pI (pI (pI (pI (pI u9 71 56 k1) 105 v8.toNatClampNeg v109) 71 47 k0) 71 48 k0) 71 55 k0) 106 v8.toNatClampNeg v109) 104 v134.toNatClampNeg v139)).1 71 6).toInt = (u9.1 71 6).toInt := congrArg Int32.toInt (((pI_ne (a := 71) (b := 6) (c := 104) _ _ (Or.inl (by decide)))).trans (((pI_ne (a := 71) (b := 6) (c := 106) _ _ (Or.inl (by decide)))).trans (((pI_ne (a := 71) (b := 6) (c := 71) (k := 55) _ _ (Or.inr (by decide)))).trans (((pI_ne (a := 71) (b := 6) (c := 71) (k := 48) _ _ (Or.inr (by decide)))).trans (((pI_ne (a := 71) (b := 6) (c := 71) (k := 47) _ _ (Or.inr (by decide)))).trans (((pI_ne (a := 71) (b := 6) (c := 105) _ _ (Or.inl (by decide)))).trans ((pI_ne (a := 71) (b := 6) (c := 71) (k := 56) _ _ (Or.inr (by decide))))))))))
      have lk141 : (((pI (pI (pI (pI (pI (pI (pI u9 71 56 k1) 105 v8.toNatClampNeg v109) 71 47 k0) 71 48 k0) 71 55 k0) 106 v8.toNatClampNeg v109) 104 v134.toNatClampNeg v139)).1 71 5).toInt = v118.toInt := congrArg Int32.toInt (((pI_ne (a := 71) (b := 5) (c := 104) _ _ (Or.inl (by decide)))).trans (((pI_ne (a := 71) (b := 5) (c := 106) _ _ (Or.inl (by decide)))).trans (ev118)))
      have lk142 : (((pI (pI (pI (pI (pI (pI (pI u9 71 56 k1) 105 v8.toNatClampNeg v109) 71 47 k0) 71 48 k0) 71 55 k0) 106 v8.toNatClampNeg v109) 104 v134.toNatClampNeg v139)).1 71 45).toInt = v109.toInt := congrArg Int32.toInt (((pI_ne (a := 71) (b := 45) (c := 104) _ _ (Or.inl (by decide)))).trans (((pI_ne (a := 71) (b := 45) (c := 106) _ _ (Or.inl (by decide)))).trans (((pI_ne (a := 71) (b := 45) (c := 71) (k := 55) _ _ (Or.inr (by decide)))).trans (((pI_ne (a := 71) (b := 45) (c := 71) (k := 48) _ _ (Or.inr (by decide)))).trans (((pI_ne (a := 71) (b := 45) (c := 71) (k := 47) _ _ (Or.inr (by decide)))).trans (((pI_ne (a := 71) (b := 45) (c := 105) _ _ (Or.inl (by decide)))).trans (ev109)))))))
      have hmy := oMny3 (s := (pI (pI (pI (pI (pI (pI u9 71 56 k1) 105 v8.toNatClampNeg v109) 71 47 k0) 71 48 k0) 71 55 k0) 106 v8.toNatClampNeg v109)) (i := v134) (z := v139)
      have hmy2 := oMny23 (s := (pI (pI (pI (pI (pI (pI u9 71 56 k1) 105 v8.toNatClampNeg v109) 71 47 k0) 71 48 k0) 71 55 k0) 106 v8.toNatClampNeg v109)) (i := v134) (z := v139)
      have hq143 : oBB ((pI (pI (pI (pI (pI (pI (pI u9 71 56 k1) 105 v8.toNatClampNeg v109) 71 47 k0) 71 48 k0) 71 55 k0) 106 v8.toNatClampNeg v109) 104 v134.toNatClampNeg v139)) := by first | exact oBB_told (x := 1) (by assumption) hmB (by assumption) (by omega) | exact oBB_told0 (oBB_fr (oFr_oneI (q := 12) (m := 55) rfl (by rfl)) rfl (oBB_fr (oFr_oneI (q := 12) (m := 48) rfl (by rfl)) rfl (oBB_fr (oFr_oneI (q := 12) (m := 47) rfl (by rfl)) rfl hq115))) (by omega) hmB (by omega) (by omega)
      have hq144 : owLw Fq Tq nq ((pI (pI (pI (pI (pI (pI (pI u9 71 56 k1) 105 v8.toNatClampNeg v109) 71 47 k0) 71 48 k0) 71 55 k0) 106 v8.toNatClampNeg v109) 104 v134.toNatClampNeg v139)) := owLw_4 hq133 (by omega)
      have lk145 : (((pI (pI (pI (pI (pI (pI (pI u9 71 56 k1) 105 v8.toNatClampNeg v109) 71 47 k0) 71 48 k0) 71 55 k0) 106 v8.toNatClampNeg v109) 104 v134.toNatClampNeg v139)).1 71 5).toInt = v118.toInt := congrArg Int32.toInt (((pI_ne (a := 71) (b := 5) (c := 104) _ _ (Or.inl (by decide)))).trans (((pI_ne (a := 71) (b := 5) (c := 106) _ _ (Or.inl (by decide)))).trans (ev118)))
      have lk146 : (((pI (pI (pI (pI (pI (pI (pI u9 71 56 k1) 105 v8.toNatClampNeg v109) 71 47 k0) 71 48 k0) 71 55 k0) 106 v8.toNatClampNeg v109) 104 v134.toNatClampNeg v139)).1 71 45).toInt = v109.toInt := congrArg Int32.toInt (((pI_ne (a := 71) (b := 45) (c := 104) _ _ (Or.inl (by decide)))).trans (((pI_ne (a := 71) (b := 45) (c := 106) _ _ (Or.inl (by decide)))).trans (((pI_ne (a := 71) (b := 45) (c := 71) (k := 55) _ _ (Or.inr (by decide)))).trans (((pI_ne (a := 71) (b := 45) (c := 71) (k := 48) _ _ (Or.inr (by decide)))).trans (((pI_ne (a := 71) (b := 45) (c := 71) (k := 47) _ _ (Or.inr (by decide)))).trans (((pI_ne (a := 71) (b := 45) (c := 105) _ _ (Or.inl (by decide)))).trans (ev109)))))))
      have lk147 : (((pI (pI (pI (pI (pI (pI (pI u9 71 56 k1) 105 v8.toNatClampNeg v109) 71 47 k0) 71 48 k0) 71 55 k0) 106 v8.toNatClampNeg v109) 104 v134.toNatClampNeg v139)).1 71 2).toInt = (u9.1 71 2).toInt := congrArg Int32.toInt (((pI_ne (a := 71) (b := 2) (c := 104) _ _ (Or.inl (by decide)))).trans (((pI_ne (a := 71) (b := 2) (c := 106) _ _ (Or.inl (by decide)))).trans (((pI_ne (a := 71) (b := 2) (c := 71) (k := 55) _ _ (Or.inr (by decide)))).trans (((pI_ne (a := 71) (b := 2) (c := 71) (k := 48) _ _ (Or.inr (by decide)))).trans (((pI_ne (a := 71) (b := 2) (c := 71) (k := 47) _ _ (Or.inr (by decide)))).trans (((pI_ne (a := 71) (b := 2) (c := 105) _ _ (Or.inl (by decide)))).trans ((pI_ne (a := 71) (b := 2) (c := 71) (k := 56) _ _ (Or.inr (by decide))))))))))
      have lk148 : (((pI (pI (pI (pI (pI (pI (pI u9 71 56 k1) 105 v8.toNatClampNeg v109) 71 47 k0) 71 48 k0) 71 55 k0) 106 v8.toNatClampNeg v109) 104 v134.toNatClampNeg v139)).1 71 2).toInt = (u9.1 71 2).toInt := congrArg Int32.toInt (((pI_ne (a := 71) (b := 2) (c := 104) _ _ (Or.inl (by decide)))).trans (((pI_ne (a := 71) (b := 2) (c := 106) _ _ (Or.inl (by decide)))).trans (((pI_ne (a := 71) (b := 2) (c := 71) (k := 55) _ _ (Or.inr (by decide)))).trans (((pI_ne (a := 71) (b := 2) (c := 71) (k := 48) _ _ (Or.inr (by decide)))).trans (((pI_ne (a := 71) (b := 2) (c := 71) (k := 47) _ _ (Or.inr (by decide)))).trans (((pI_ne (a := 71) (b := 2) (c := 105) _ _ (Or.inl (by decide)))).trans ((pI_ne (a := 71) (b := 2) (c := 71) (k := 56) _ _ (Or.inr (by decide))))))))))
      have lk149 : (((pI (pI (pI (pI (pI (pI (pI u9 71 56 k1) 105 v8.toNatClampNeg v109) 71 47 k0) 71 48 k0) 71 55 k0) 106 v8.toNatClampNeg v109) 104 v134.toNatClampNeg v139)).1 71 5).toInt = v118.toInt := congrArg Int32.toInt (((pI_ne (a := 71) (b := 5) (c := 104) _ _ (Or.inl (by decide)))).trans (((pI_ne (a := 71) (b := 5) (c := 106) _ _ (Or.inl (by decide)))).trans (ev118)))
      have lk150 : (((pI (pI (pI (pI (pI (pI (pI u9 71 56 k1) 105 v8.toNatClampNeg v109) 71 47 k0) 71 48 k0) 71 55 k0) 106 v8.toNatClampNeg v109) 104 v134.toNatClampNeg v139)).1 71 5).toInt = v118.toInt := congrArg Int32.toInt (((pI_ne (a := 71) (b := 5) (c := 104) _ _ (Or.inl (by decide)))).trans (((pI_ne (a := 71) (b := 5) (c := 106) _ _ (Or.inl (by decide)))).trans (ev118)))
      exact r_vret C (oDec_at oX12_testTold 61 rfl) ⟨rfl, ⟨hq143, by omega, by omega, by omega, (oqVs_fr (oFr_oneI (q := 80) (m := 9999) rfl (by rfl)) rfl (oqVs_fr (oFr_oneI (q := 82) (m := 9999) rfl (by rfl)) rfl hq126)), by omega, by omega, (oqBP_fr (oFr_oneI (q := 80) (m := 9999) rfl (by rfl)) rfl (oqBP_fr (oFr_oneI (q := 82) (m := 9999) rfl (by rfl)) rfl (oqBP_fr (oFr_oneI (q := 12) (m := 55) rfl (by rfl)) rfl (oqBP_fr (oFr_oneI (q := 12) (m := 48) rfl (by rfl)) rfl (oqBP_fr (oFr_oneI (q := 12) (m := 47) rfl (by rfl)) rfl (oqBP_fr (oFr_oneI (q := 81) (m := 9999) rfl (by rfl)) rfl (oqBP_fr (oFr_oneI (q := 12) (m := 56) rfl (by rfl)) rfl pu9_3))))))), (owC0_fr (oFr_oneI (q := 80) (m := 9999) rfl (by rfl)) rfl (owC0_fr (oFr_oneI (q := 82) (m := 9999) rfl (by rfl)) rfl (owC0_fr (oFr_oneI (q := 12) (m := 55) rfl (by rfl)) rfl (owC0_fr (oFr_oneI (q := 12) (m := 48) rfl (by rfl)) rfl (owC0_fr (oFr_oneI (q := 12) (m := 47) rfl (by rfl)) rfl (owC0_fr (oFr_oneI (q := 81) (m := 9999) rfl (by rfl)) rfl (owC0_fr (oFr_oneI (q := 12) (m := 56) rfl (by rfl)) rfl (owC0_fr fu9 rfl hp13)))))))), hq144, by first | exact (fun h9 h8 => by rw [← hm2 h8]; exact hTD9 h9) | (intro h9; exfalso; omega), by first | exact (fun h9 h8 => by rw [← hm3 h8]; exact hTD9 h9) | (intro h9; exfalso; omega)⟩⟩
    · skip
      have lk151 : (((pI (pI (pI (pI (pI u9 71 56 k1) 105 v8.toNatClampNeg v109) 71 47 k0) 71 48 k0) 71 55 k0)).1 71 2).toInt = (u9.1 71 2).toInt := congrArg Int32.toInt (((pI_ne (a := 71) (b := 2) (c := 71) (k := 55) _ _ (Or.inr (by decide)))).trans (((pI_ne (a := 71) (b := 2) (c := 71) (k := 48) _ _ (Or.inr (by decide)))).trans (((pI_ne (a := 71) (b := 2) (c := 71) (k := 47) _ _ (Or.inr (by decide)))).trans (((pI_ne (a := 71) (b := 2) (c := 105) _ _ (Or.inl (by decide)))).trans ((pI_ne (a := 71) (b := 2) (c := 71) (k := 56) _ _ (Or.inr (by decide))))))))
      have lk152 : (((pI (pI (pI (pI (pI u9 71 56 k1) 105 v8.toNatClampNeg v109) 71 47 k0) 71 48 k0) 71 55 k0)).1 71 4).toInt = (u9.1 71 4).toInt := congrArg Int32.toInt (((pI_ne (a := 71) (b := 4) (c := 71) (k := 55) _ _ (Or.inr (by decide)))).trans (((pI_ne (a := 71) (b := 4) (c := 71) (k := 48) _ _ (Or.inr (by decide)))).trans (((pI_ne (a := 71) (b := 4) (c := 71) (k := 47) _ _ (Or.inr (by decide)))).trans (((pI_ne (a := 71) (b := 4) (c := 105) _ _ (Or.inl (by decide)))).trans ((pI_ne (a := 71) (b := 4) (c := 71) (k := 56) _ _ (Or.inr (by decide))))))))
      have lk153 : (((pI (pI (pI (pI (pI u9 71 56 k1) 105 v8.toNatClampNeg v109) 71 47 k0) 71 48 k0) 71 55 k0)).1 71 5).toInt = v118.toInt := congrArg Int32.toInt (ev118)
      have lk154 : (((pI (pI (pI (pI (pI u9 71 56 k1) 105 v8.toNatClampNeg v109) 71 47 k0) 71 48 k0) 71 55 k0)).1 71 48).toInt = k0.toInt := congrArg Int32.toInt (((pI_ne (a := 71) (b := 48) (c := 71) (k := 55) _ _ (Or.inr (by decide)))).trans ((pI_self _ _ _ _)))
      have lk155 : (((pI (pI (pI (pI (pI u9 71 56 k1) 105 v8.toNatClampNeg v109) 71 47 k0) 71 48 k0) 71 55 k0)).1 71 47).toInt = k0.toInt := congrArg Int32.toInt (((pI_ne (a := 71) (b := 47) (c := 71) (k := 55) _ _ (Or.inr (by decide)))).trans (((pI_ne (a := 71) (b := 47) (c := 71) (k := 48) _ _ (Or.inr (by decide)))).trans ((pI_self _ _ _ _))))
      have lk156 : (((pI (pI (pI (pI (pI u9 71 56 k1) 105 v8.toNatClampNeg v109) 71 47 k0) 71 48 k0) 71 55 k0)).1 71 56).toInt = k1.toInt := congrArg Int32.toInt (((pI_ne (a := 71) (b := 56) (c := 71) (k := 55) _ _ (Or.inr (by decide)))).trans (((pI_ne (a := 71) (b := 56) (c := 71) (k := 48) _ _ (Or.inr (by decide)))).trans (((pI_ne (a := 71) (b := 56) (c := 71) (k := 47) _ _ (Or.inr (by decide)))).trans (((pI_ne (a := 71) (b := 56) (c := 105) _ _ (Or.inl (by decide)))).trans ((pI_self _ _ _ _))))))
      have hcz8 := hcz9 (by omega)
      have hq157 : oqMo fp fq ((pI (pI (pI (pI (pI u9 71 56 k1) 105 v8.toNatClampNeg v109) 71 47 k0) 71 48 k0) 71 55 k0)) := (by unfold oqMo; omega)
      have hq158 : oqTt g fp fq (0, oqSk g (oqHa g w 6), oqHa g w 6, 0, []) 0 ((pI (pI (pI (pI (pI u9 71 56 k1) 105 v8.toNatClampNeg v109) 71 47 k0) 71 48 k0) 71 55 k0)) := oqTt_0 (by omega) (by omega) (by omega) (by omega) (by omega)
      have hq159 : oqTx g fp fq (0, oqSk g (oqHa g w 6), oqHa g w 6, 0, [], Z) 0 0 ((pI (pI (pI (pI (pI u9 71 56 k1) 105 v8.toNatClampNeg v109) 71 47 k0) 71 48 k0) 71 55 k0)) := owTx_0 (by omega) (by omega) (by omega) (by omega) (owYl_fr (oFr_oneI (q := 12) (m := 55) rfl (by rfl)) rfl (owYl_fr (oFr_oneI (q := 12) (m := 48) rfl (by rfl)) rfl (owYl_fr (oFr_oneI (q := 12) (m := 47) rfl (by rfl)) rfl (owYl_fr (oFr_oneI (q := 81) (m := 9999) rfl (by rfl)) rfl (owYl_fr (oFr_oneI (q := 12) (m := 56) rfl (by rfl)) rfl (owYl_frb fu9 rfl (by omega) hp12))))))
      refine r_aload_n C (j := 0) (oDec_at oX12_testTold 43 rfl) rfl rfl ?_
      have lc160 : (((pI (pI (pI (pI (pI u9 71 56 k1) 105 v8.toNatClampNeg v109) 71 47 k0) 71 48 k0) 71 55 k0)).1 104 2).toInt = (s.1 104 2).toInt := congrArg Int32.toInt (((pI_ne (a := 104) (b := 2) (c := 71) _ _ (Or.inl (by decide)))).trans (((pI_ne (a := 104) (b := 2) (c := 71) _ _ (Or.inl (by decide)))).trans (((pI_ne (a := 104) (b := 2) (c := 71) _ _ (Or.inl (by decide)))).trans (((pI_ne (a := 104) (b := 2) (c := 105) _ _ (Or.inl (by decide)))).trans (((pI_ne (a := 104) (b := 2) (c := 71) _ _ (Or.inl (by decide)))).trans ((fu9 104 2 rfl).1))))))
      have lc161 : (((pI (pI (pI (pI (pI u9 71 56 k1) 105 v8.toNatClampNeg v109) 71 47 k0) 71 48 k0) 71 55 k0)).1 104 3).toInt = (s.1 104 3).toInt := congrArg Int32.toInt (((pI_ne (a := 104) (b := 3) (c := 71) _ _ (Or.inl (by decide)))).trans (((pI_ne (a := 104) (b := 3) (c := 71) _ _ (Or.inl (by decide)))).trans (((pI_ne (a := 104) (b := 3) (c := 71) _ _ (Or.inl (by decide)))).trans (((pI_ne (a := 104) (b := 3) (c := 105) _ _ (Or.inl (by decide)))).trans (((pI_ne (a := 104) (b := 3) (c := 71) _ _ (Or.inl (by decide)))).trans ((fu9 104 3 rfl).1))))))
      have hq162 : oQ 9999 0 ((pI (pI (pI (pI (pI u9 71 56 k1) 105 v8.toNatClampNeg v109) 71 47 k0) 71 48 k0) 71 55 k0)) := oQ_init (oBB_fr (oFr_oneI (q := 12) (m := 55) rfl (by rfl)) rfl (oBB_fr (oFr_oneI (q := 12) (m := 48) rfl (by rfl)) rfl (oBB_fr (oFr_oneI (q := 12) (m := 47) rfl (by rfl)) rfl hq115))) (by omega) (by omega) (by assumption) (by omega)
      have lk163 : (((pI (pI (pI (pI (pI u9 71 56 k1) 105 v8.toNatClampNeg v109) 71 47 k0) 71 48 k0) 71 55 k0)).1 71 5).toInt = v118.toInt := congrArg Int32.toInt (ev118)
      have lk164 : (((pI (pI (pI (pI (pI u9 71 56 k1) 105 v8.toNatClampNeg v109) 71 47 k0) 71 48 k0) 71 55 k0)).1 71 48).toInt = k0.toInt := congrArg Int32.toInt (((pI_ne (a := 71) (b := 48) (c := 71) (k := 55) _ _ (Or.inr (by decide)))).trans ((pI_self _ _ _ _)))
      have lk165 : (((pI (pI (pI (pI (pI u9 71 56 k1) 105 v8.toNatClampNeg v109) 71 47 k0) 71 48 k0) 71 55 k0)).1 71 45).toInt = v109.toInt := congrArg Int32.toInt (((pI_ne (a := 71) (b := 45) (c := 71) (k := 55) _ _ (Or.inr (by decide)))).trans (((pI_ne (a := 71) (b := 45) (c := 71) (k := 48) _ _ (Or.inr (by decide)))).trans (((pI_ne (a := 71) (b := 45) (c := 71) (k := 47) _ _ (Or.inr (by decide)))).trans (((pI_ne (a := 71) (b := 45) (c := 105) _ _ (Or.inl (by decide)))).trans (ev109)))))
      have lk166 : (((pI (pI (pI (pI (pI u9 71 56 k1) 105 v8.toNatClampNeg v109) 71 47 k0) 71 48 k0) 71 55 k0)).1 71 47).toInt = k0.toInt := congrArg Int32.toInt (((pI_ne (a := 71) (b := 47) (c := 71) (k := 55) _ _ (Or.inr (by decide)))).trans (((pI_ne (a := 71) (b := 47) (c := 71) (k := 48) _ _ (Or.inr (by decide)))).trans ((pI_self _ _ _ _))))
      have lk167 : (((pI (pI (pI (pI (pI u9 71 56 k1) 105 v8.toNatClampNeg v109) 71 47 k0) 71 48 k0) 71 55 k0)).1 71 2).toInt = (u9.1 71 2).toInt := congrArg Int32.toInt (((pI_ne (a := 71) (b := 2) (c := 71) (k := 55) _ _ (Or.inr (by decide)))).trans (((pI_ne (a := 71) (b := 2) (c := 71) (k := 48) _ _ (Or.inr (by decide)))).trans (((pI_ne (a := 71) (b := 2) (c := 71) (k := 47) _ _ (Or.inr (by decide)))).trans (((pI_ne (a := 71) (b := 2) (c := 105) _ _ (Or.inl (by decide)))).trans ((pI_ne (a := 71) (b := 2) (c := 71) (k := 56) _ _ (Or.inr (by decide))))))))
      have lk168 : (((pI (pI (pI (pI (pI u9 71 56 k1) 105 v8.toNatClampNeg v109) 71 47 k0) 71 48 k0) 71 55 k0)).1 71 2).toInt = (u9.1 71 2).toInt := congrArg Int32.toInt (((pI_ne (a := 71) (b := 2) (c := 71) (k := 55) _ _ (Or.inr (by decide)))).trans (((pI_ne (a := 71) (b := 2) (c := 71) (k := 48) _ _ (Or.inr (by decide)))).trans (((pI_ne (a := 71) (b := 2) (c := 71) (k := 47) _ _ (Or.inr (by decide)))).trans (((pI_ne (a := 71) (b := 2) (c := 105) _ _ (Or.inl (by decide)))).trans ((pI_ne (a := 71) (b := 2) (c := 71) (k := 56) _ _ (Or.inr (by decide))))))))
      have lk169 : (((pI (pI (pI (pI (pI u9 71 56 k1) 105 v8.toNatClampNeg v109) 71 47 k0) 71 48 k0) 71 55 k0)).1 71 45).toInt = v109.toInt := congrArg Int32.toInt (((pI_ne (a := 71) (b := 45) (c := 71) (k := 55) _ _ (Or.inr (by decide)))).trans (((pI_ne (a := 71) (b := 45) (c := 71) (k := 48) _ _ (Or.inr (by decide)))).trans (((pI_ne (a := 71) (b := 45) (c := 71) (k := 47) _ _ (Or.inr (by decide)))).trans (((pI_ne (a := 71) (b := 45) (c := 105) _ _ (Or.inl (by decide)))).trans (ev109)))))
      have lk170 : (((pI (pI (pI (pI (pI u9 71 56 k1) 105 v8.toNatClampNeg v109) 71 47 k0) 71 48 k0) 71 55 k0)).1 71 47).toInt = k0.toInt := congrArg Int32.toInt (((pI_ne (a := 71) (b := 47) (c := 71) (k := 55) _ _ (Or.inr (by decide)))).trans (((pI_ne (a := 71) (b := 47) (c := 71) (k := 48) _ _ (Or.inr (by decide)))).trans ((pI_self _ _ _ _))))
      have lk171 : (((pI (pI (pI (pI (pI u9 71 56 k1) 105 v8.toNatClampNeg v109) 71 47 k0) 71 48 k0) 71 55 k0)).1 71 2).toInt = (u9.1 71 2).toInt := congrArg Int32.toInt (((pI_ne (a := 71) (b := 2) (c := 71) (k := 55) _ _ (Or.inr (by decide)))).trans (((pI_ne (a := 71) (b := 2) (c := 71) (k := 48) _ _ (Or.inr (by decide)))).trans (((pI_ne (a := 71) (b := 2) (c := 71) (k := 47) _ _ (Or.inr (by decide)))).trans (((pI_ne (a := 71) (b := 2) (c := 105) _ _ (Or.inl (by decide)))).trans ((pI_ne (a := 71) (b := 2) (c := 71) (k := 56) _ _ (Or.inr (by decide))))))))
      have lk172 : (((pI (pI (pI (pI (pI u9 71 56 k1) 105 v8.toNatClampNeg v109) 71 47 k0) 71 48 k0) 71 55 k0)).1 71 45).toInt = v109.toInt := congrArg Int32.toInt (((pI_ne (a := 71) (b := 45) (c := 71) (k := 55) _ _ (Or.inr (by decide)))).trans (((pI_ne (a := 71) (b := 45) (c := 71) (k := 48) _ _ (Or.inr (by decide)))).trans (((pI_ne (a := 71) (b := 45) (c := 71) (k := 47) _ _ (Or.inr (by decide)))).trans (((pI_ne (a := 71) (b := 45) (c := 105) _ _ (Or.inl (by decide)))).trans (ev109)))))
      have lk173 : (((pI (pI (pI (pI (pI u9 71 56 k1) 105 v8.toNatClampNeg v109) 71 47 k0) 71 48 k0) 71 55 k0)).1 71 47).toInt = k0.toInt := congrArg Int32.toInt (((pI_ne (a := 71) (b := 47) (c := 71) (k := 55) _ _ (Or.inr (by decide)))).trans (((pI_ne (a := 71) (b := 47) (c := 71) (k := 48) _ _ (Or.inr (by decide)))).trans ((pI_self _ _ _ _))))
      have lk174 : (((pI (pI (pI (pI (pI u9 71 56 k1) 105 v8.toNatClampNeg v109) 71 47 k0) 71 48 k0) 71 55 k0)).1 71 2).toInt = (u9.1 71 2).toInt := congrArg Int32.toInt (((pI_ne (a := 71) (b := 2) (c := 71) (k := 55) _ _ (Or.inr (by decide)))).trans (((pI_ne (a := 71) (b := 2) (c := 71) (k := 48) _ _ (Or.inr (by decide)))).trans (((pI_ne (a := 71) (b := 2) (c := 71) (k := 47) _ _ (Or.inr (by decide)))).trans (((pI_ne (a := 71) (b := 2) (c := 105) _ _ (Or.inl (by decide)))).trans ((pI_ne (a := 71) (b := 2) (c := 71) (k := 56) _ _ (Or.inr (by decide))))))))
      refine r_callVv C oCl12 rfl miX12_test mlX12_334 (ct9_X12_test l E ((pI (pI (pI (pI (pI u9 71 56 k1) 105 v8.toNatClampNeg v109) 71 47 k0) 71 48 k0) 71 55 k0))  (g) (fp) (fq) (0, oqSk g (oqHa g w 6), oqHa g w 6, 0, []) (0, oqSk g (oqHa g w 6), oqHa g w 6, 0, [], Z) (0) (Cq) hq162 (by omega) (by omega) (by omega) hq158 (oqZ_fr (oFr_oneI (q := 12) (m := 55) rfl (by rfl)) rfl (oqZ_fr (oFr_oneI (q := 12) (m := 48) rfl (by rfl)) rfl (oqZ_fr (oFr_oneI (q := 12) (m := 47) rfl (by rfl)) rfl (oqZ_fr (oFr_oneI (q := 81) (m := 9999) rfl (by rfl)) rfl (oqZ_fr (oFr_oneI (q := 12) (m := 56) rfl (by rfl)) rfl (oqZ_fr fu9 rfl hp10)))))) (oqWd_fr (oFr_oneI (q := 12) (m := 55) rfl (by rfl)) rfl (oqWd_fr (oFr_oneI (q := 12) (m := 48) rfl (by rfl)) rfl (oqWd_fr (oFr_oneI (q := 12) (m := 47) rfl (by rfl)) rfl (oqWd_fr (oFr_oneI (q := 81) (m := 9999) rfl (by rfl)) rfl (oqWd_fr (oFr_oneI (q := 12) (m := 56) rfl (by rfl)) rfl (oqWd_fr fu9 rfl hp11)))))) hq157 (oqBP_fr (oFr_oneI (q := 12) (m := 55) rfl (by rfl)) rfl (oqBP_fr (oFr_oneI (q := 12) (m := 48) rfl (by rfl)) rfl (oqBP_fr (oFr_oneI (q := 12) (m := 47) rfl (by rfl)) rfl (oqBP_fr (oFr_oneI (q := 81) (m := 9999) rfl (by rfl)) rfl (oqBP_fr (oFr_oneI (q := 12) (m := 56) rfl (by rfl)) rfl pu9_3))))) hq159 (owC0_fr (oFr_oneI (q := 12) (m := 55) rfl (by rfl)) rfl (owC0_fr (oFr_oneI (q := 12) (m := 48) rfl (by rfl)) rfl (owC0_fr (oFr_oneI (q := 12) (m := 47) rfl (by rfl)) rfl (owC0_fr (oFr_oneI (q := 81) (m := 9999) rfl (by rfl)) rfl (owC0_fr (oFr_oneI (q := 12) (m := 56) rfl (by rfl)) rfl (owC0_fr fu9 rfl hp13))))))) (by decide) rfl rfl rfl (Nat.le_of_ble_eq_true rfl) (oDec_at oX12_testTold 44 rfl) (fun u175 pu175 fu175 => ?_)
      try dsimp only at pu175
      try simp only [lk163, lk164, lk165, lk166, lk167, lk168, lk169, lk170, lk171, lk172, lk173, lk174] at pu175
      obtain ⟨pu175_0, pu175_1, pu175_2, pu175_3, pu175_4, pu175_5, pu175_6, pu175_7⟩ := pu175
      have hq177 : oqVs g fp fq w (u175) := (by first | exact oqVs_t (by omega) pu175_4 | exact oqVs_w (by omega) (by omega) (by omega))
      refine r_aload_n C (j := 0) (oDec_at oX12_testTold 45 rfl) rfl rfl ?_
      refine r_getF (k := 51) (b := 106) C oCl12 rfl (by decide) flX12_120 rfl rfl rfl (oDec_at oX12_testTold 46 rfl) ?_
      refine r_iload_n C (j := 2) (oDec_at oX12_testTold 47 rfl) rfl rfl ?_
      refine r_aload_n C (j := 0) (oDec_at oX12_testTold 48 rfl) rfl rfl ?_
      refine r_pc C 81 rfl ?_
      obtain ⟨v178, ev178⟩ : ∃ z : Int32, (u175).1 71 45 = z := ⟨_, rfl⟩
      have gv178 : (u175.1 71 45).toInt = v178.toInt := congrArg Int32.toInt (ev178)
      refine r_geti (k := 45) (lo := 0) (hi := 1600) C v178 oCl12 rfl (by decide) flX12_234 rfl rfl (ev178) rfl rfl (oDec_at oX12_testTold 49 rfl) (fun b179 b179h => ?_)
      have lc180 : ((u175).1 104 2).toInt = (s.1 104 2).toInt := congrArg Int32.toInt (((fu175 104 2 rfl).1).trans (((pI_ne (a := 104) (b := 2) (c := 71) _ _ (Or.inl (by decide)))).trans (((pI_ne (a := 104) (b := 2) (c := 71) _ _ (Or.inl (by decide)))).trans (((pI_ne (a := 104) (b := 2) (c := 71) _ _ (Or.inl (by decide)))).trans (((pI_ne (a := 104) (b := 2) (c := 105) _ _ (Or.inl (by decide)))).trans (((pI_ne (a := 104) (b := 2) (c := 71) _ _ (Or.inl (by decide)))).trans ((fu9 104 2 rfl).1)))))))
      have lc181 : ((u175).1 104 3).toInt = (s.1 104 3).toInt := congrArg Int32.toInt (((fu175 104 3 rfl).1).trans (((pI_ne (a := 104) (b := 3) (c := 71) _ _ (Or.inl (by decide)))).trans (((pI_ne (a := 104) (b := 3) (c := 71) _ _ (Or.inl (by decide)))).trans (((pI_ne (a := 104) (b := 3) (c := 71) _ _ (Or.inl (by decide)))).trans (((pI_ne (a := 104) (b := 3) (c := 105) _ _ (Or.inl (by decide)))).trans (((pI_ne (a := 104) (b := 3) (c := 71) _ _ (Or.inl (by decide)))).trans ((fu9 104 3 rfl).1)))))))
      have lk182 : ((u175).1 71 45).toInt = v178.toInt := congrArg Int32.toInt (ev178)
      have lk183 : ((u175).1 71 56).toInt = k1.toInt := congrArg Int32.toInt (((fu175 71 56 rfl).1).trans (((pI_ne (a := 71) (b := 56) (c := 71) (k := 55) _ _ (Or.inr (by decide)))).trans (((pI_ne (a := 71) (b := 56) (c := 71) (k := 48) _ _ (Or.inr (by decide)))).trans (((pI_ne (a := 71) (b := 56) (c := 71) (k := 47) _ _ (Or.inr (by decide)))).trans (((pI_ne (a := 71) (b := 56) (c := 105) _ _ (Or.inl (by decide)))).trans ((pI_self _ _ _ _)))))))
      refine r_ty C (fun hty => ?_)
      have hmB : ∀ i : Nat, (0 : Int) ≤ ((u175).1 104 i).toInt ∧ ((u175).1 104 i).toInt ≤ 12 := fun i => hty.1 104 i
      have hmB2 := hmB 2
      have hmB3 := hmB 3
      clear hty
      refine r_ty C (fun hty => ?_)
      have hty_coded : (0 : Int) ≤ ((u175).1 71 45).toInt ∧ ((u175).1 71 45).toInt ≤ 1600 := hty.1 71 45
      have hty_waits : (0 : Int) ≤ ((u175).1 71 47).toInt ∧ ((u175).1 71 47).toInt ≤ 1700 := hty.1 71 47
      have hty_at : (0 : Int) ≤ ((u175).1 71 2).toInt ∧ ((u175).1 71 2).toInt ≤ 1600 := hty.1 71 2
      clear hty
      refine r_iast (n := 48) (lo := 0) (hi := 1600) C rfl (by decide) rfl rfl ⟨by omega, by omega⟩ (by decide) rfl rfl rfl rfl ⟨by omega, by omega⟩ (oDec_at oX12_testTold 50 rfl) ?_
      have hty9 := hty_coded.1
      have hec9 := ev178
      have hq184 : owR6 (oU (s.1 106) (v8.toNatClampNeg) v178) ((pI u175 106 v8.toNatClampNeg v178)) := owR6_pu (owR6_fr fu175 rfl (owR6_fr (oFr_oneI (q := 12) (m := 55) rfl (by rfl)) rfl (owR6_fr (oFr_oneI (q := 12) (m := 48) rfl (by rfl)) rfl (owR6_fr (oFr_oneI (q := 12) (m := 47) rfl (by rfl)) rfl (owR6_fr (oFr_oneI (q := 81) (m := 9999) rfl (by rfl)) rfl (owR6_fr (oFr_oneI (q := 12) (m := 56) rfl (by rfl)) rfl (owR6_fr fu9 rfl hq2)))))))
      have hq185 : owLw Fq Tq nq ((pI u175 106 v8.toNatClampNeg v178)) := owLw_6 (owLw_fr fu175 rfl (owLw_fr (oFr_oneI (q := 12) (m := 55) rfl (by rfl)) rfl (owLw_fr (oFr_oneI (q := 12) (m := 48) rfl (by rfl)) rfl (owLw_fr (oFr_oneI (q := 12) (m := 47) rfl (by rfl)) rfl hq117)))) (by omega)
      refine r_aload_n C (j := 0) (oDec_at oX12_testTold 51 rfl) rfl rfl ?_
      refine r_getF (k := 49) (b := 104) C oCl12 rfl (by decide) flX12_114 rfl rfl rfl (oDec_at oX12_testTold 52 rfl) ?_
      refine r_iconst C (oDec_at oX12_testTold 53 rfl) (v := k2) (by rw [qk2]; rfl) ?_
      refine r_iload_n C (j := 1) (oDec_at oX12_testTold 54 rfl) rfl rfl ?_
      refine r_pc C 91 rfl ?_
      obtain ⟨v186, ev186⟩ : ∃ z : Int32, z = k2 + a1 := ⟨_, rfl⟩
      have hv186 : v186.toInt = k2.toInt + a1.toInt := n_add ev186 (by omega) (by omega)
      refine r_iadd C v186 (oDec_at oX12_testTold 55 rfl) ev186 ?_
      refine r_dup2 C (oDec_at oX12_testTold 56 rfl) rfl rfl ?_
      obtain ⟨v188, ev188⟩ : ∃ z : Int32, ((pI u175 106 v8.toNatClampNeg v178)).1 104 v186.toNatClampNeg = z := ⟨_, rfl⟩
      have av188 : s.1 104 v186.toNatClampNeg = v188 := (((pI_ne (a := 104) (b := v186.toNatClampNeg) (c := 106) _ _ (Or.inl (by decide)))).trans (((fu175 104 v186.toNatClampNeg rfl).1).trans (((pI_ne (a := 104) (b := v186.toNatClampNeg) (c := 71) _ _ (Or.inl (by decide)))).trans (((pI_ne (a := 104) (b := v186.toNatClampNeg) (c := 71) _ _ (Or.inl (by decide)))).trans (((pI_ne (a := 104) (b := v186.toNatClampNeg) (c := 71) _ _ (Or.inl (by decide)))).trans (((pI_ne (a := 104) (b := v186.toNatClampNeg) (c := 105) _ _ (Or.inl (by decide)))).trans (((pI_ne (a := 104) (b := v186.toNatClampNeg) (c := 71) _ _ (Or.inl (by decide)))).trans ((fu9 104 v186.toNatClampNeg rfl).1)))))))).symm.trans ev188
      have gv188 : (s.1 104 v186.toNatClampNeg).toInt = v188.toInt := congrArg Int32.toInt ((((pI_ne (a := 104) (b := v186.toNatClampNeg) (c := 106) _ _ (Or.inl (by decide)))).trans (((fu175 104 v186.toNatClampNeg rfl).1).trans (((pI_ne (a := 104) (b := v186.toNatClampNeg) (c := 71) _ _ (Or.inl (by decide)))).trans (((pI_ne (a := 104) (b := v186.toNatClampNeg) (c := 71) _ _ (Or.inl (by decide)))).trans (((pI_ne (a := 104) (b := v186.toNatClampNeg) (c := 71) _ _ (Or.inl (by decide)))).trans (((pI_ne (a := 104) (b := v186.toNatClampNeg) (c := 105) _ _ (Or.inl (by decide)))).trans (((pI_ne (a := 104) (b := v186.toNatClampNeg) (c := 71) _ _ (Or.inl (by decide)))).trans ((fu9 104 v186.toNatClampNeg rfl).1)))))))).symm.trans ev188)
      refine r_iald (n := 4) (lo := 0) (hi := 12) C v188 rfl (by decide) rfl rfl ⟨by omega, by omega⟩ (by decide) ev188 rfl rfl (oDec_at oX12_testTold 57 rfl) (fun b187 b187h => ?_)
      have lc189 : (((pI u175 106 v8.toNatClampNeg v178)).1 104 2).toInt = (s.1 104 2).toInt := congrArg Int32.toInt (((pI_ne (a := 104) (b := 2) (c := 106) _ _ (Or.inl (by decide)))).trans (((fu175 104 2 rfl).1).trans (((pI_ne (a := 104) (b := 2) (c := 71) _ _ (Or.inl (by decide)))).trans (((pI_ne (a := 104) (b := 2) (c := 71) _ _ (Or.inl (by decide)))).trans (((pI_ne (a := 104) (b := 2) (c := 71) _ _ (Or.inl (by decide)))).trans (((pI_ne (a := 104) (b := 2) (c := 105) _ _ (Or.inl (by decide)))).trans (((pI_ne (a := 104) (b := 2) (c := 71) _ _ (Or.inl (by decide)))).trans ((fu9 104 2 rfl).1))))))))
      have lc190 : (((pI u175 106 v8.toNatClampNeg v178)).1 104 3).toInt = (s.1 104 3).toInt := congrArg Int32.toInt (((pI_ne (a := 104) (b := 3) (c := 106) _ _ (Or.inl (by decide)))).trans (((fu175 104 3 rfl).1).trans (((pI_ne (a := 104) (b := 3) (c := 71) _ _ (Or.inl (by decide)))).trans (((pI_ne (a := 104) (b := 3) (c := 71) _ _ (Or.inl (by decide)))).trans (((pI_ne (a := 104) (b := 3) (c := 71) _ _ (Or.inl (by decide)))).trans (((pI_ne (a := 104) (b := 3) (c := 105) _ _ (Or.inl (by decide)))).trans (((pI_ne (a := 104) (b := 3) (c := 71) _ _ (Or.inl (by decide)))).trans ((fu9 104 3 rfl).1))))))))
      have hix2 := oIxM (i := v186) ev188
      refine r_iconst C (oDec_at oX12_testTold 58 rfl) (v := k1) (by rw [qk1]; rfl) ?_
      obtain ⟨v191, ev191⟩ : ∃ z : Int32, z = v188 + k1 := ⟨_, rfl⟩
      have hv191 : v191.toInt = v188.toInt + k1.toInt := n_add ev191 (by omega) (by omega)
      refine r_iadd C v191 (oDec_at oX12_testTold 59 rfl) ev191 ?_
      refine r_iast (n := 4) (lo := 0) (hi := 12) C rfl (by decide) rfl rfl ⟨by omega, by omega⟩ (by decide) rfl rfl rfl rfl ⟨by omega, by omega⟩ (oDec_at oX12_testTold 60 rfl) ?_
      refine r_pc C 97 rfl ?_
      have lk192 : (((pI (pI u175 106 v8.toNatClampNeg v178) 104 v186.toNatClampNeg v191)).1 71 6).toInt = (u175.1 71 6).toInt := congrArg Int32.toInt (((pI_ne (a := 71) (b := 6) (c := 104) _ _ (Or.inl (by decide)))).trans ((pI_ne (a := 71) (b := 6) (c := 106) _ _ (Or.inl (by decide)))))
      have lk193 : (((pI (pI u175 106 v8.toNatClampNeg v178) 104 v186.toNatClampNeg v191)).1 71 5).toInt = (u175.1 71 5).toInt := congrArg Int32.toInt (((pI_ne (a := 71) (b := 5) (c := 104) _ _ (Or.inl (by decide)))).trans ((pI_ne (a := 71) (b := 5) (c := 106) _ _ (Or.inl (by decide)))))
      have lk194 : (((pI (pI u175 106 v8.toNatClampNeg v178) 104 v186.toNatClampNeg v191)).1 71 45).toInt = v178.toInt := congrArg Int32.toInt (((pI_ne (a := 71) (b := 45) (c := 104) _ _ (Or.inl (by decide)))).trans (((pI_ne (a := 71) (b := 45) (c := 106) _ _ (Or.inl (by decide)))).trans (ev178)))
      have hmy := oMny3 (s := (pI u175 106 v8.toNatClampNeg v178)) (i := v186) (z := v191)
      have hmy2 := oMny23 (s := (pI u175 106 v8.toNatClampNeg v178)) (i := v186) (z := v191)
      have hTD9 : owHid ((((pI (pI u175 106 v8.toNatClampNeg v178) 104 v186.toNatClampNeg v191)).1 71 5).toInt = 0 → owTd g fp fq w v8.toInt Z s ((pI (pI u175 106 v8.toNatClampNeg v178) 104 v186.toNatClampNeg v191))) := fun h9 => owTd_of (oqE8w_fr (oFr_oneI (q := 80) (m := 9999) rfl (by rfl)) rfl (oqE8w_fr (oFr_oneI (q := 82) (m := 9999) rfl (by rfl)) rfl pu175_6)) h9 (owR5_fr (oFr_oneI (q := 80) (m := 9999) rfl (by rfl)) rfl (owR5_fr (oFr_oneI (q := 82) (m := 9999) rfl (by rfl)) rfl (owR5_fr fu175 rfl (owR5_fr (oFr_oneI (q := 12) (m := 55) rfl (by rfl)) rfl (owR5_fr (oFr_oneI (q := 12) (m := 48) rfl (by rfl)) rfl (owR5_fr (oFr_oneI (q := 12) (m := 47) rfl (by rfl)) rfl hq116)))))) (owR6_fr (oFr_oneI (q := 80) (m := 9999) rfl (by rfl)) rfl hq184) hcz8 (congrArg Int32.toInt (((pI_ne _ _ (Or.inl (by decide))).trans (pI_ne _ _ (Or.inl (by decide)))).trans hec9)).symm (by rw [pI_ne _ _ (Or.inl (by decide)), pI_ne _ _ (Or.inl (by decide))]; exact hty9) hi20
      have hq195 : oBB ((pI (pI u175 106 v8.toNatClampNeg v178) 104 v186.toNatClampNeg v191)) := by first | exact oBB_told (x := 1) pu175_0 hmB (by assumption) (by omega) | exact oBB_told0 (by assumption) (by omega) hmB (by omega) (by omega)
      have hq196 : owLw Fq Tq nq ((pI (pI u175 106 v8.toNatClampNeg v178) 104 v186.toNatClampNeg v191)) := owLw_4 hq185 (by omega)
      have lk197 : (((pI (pI u175 106 v8.toNatClampNeg v178) 104 v186.toNatClampNeg v191)).1 71 5).toInt = (u175.1 71 5).toInt := congrArg Int32.toInt (((pI_ne (a := 71) (b := 5) (c := 104) _ _ (Or.inl (by decide)))).trans ((pI_ne (a := 71) (b := 5) (c := 106) _ _ (Or.inl (by decide)))))
      have lk198 : (((pI (pI u175 106 v8.toNatClampNeg v178) 104 v186.toNatClampNeg v191)).1 71 45).toInt = v178.toInt := congrArg Int32.toInt (((pI_ne (a := 71) (b := 45) (c := 104) _ _ (Or.inl (by decide)))).trans (((pI_ne (a := 71) (b := 45) (c := 106) _ _ (Or.inl (by decide)))).trans (ev178)))
      have lk199 : (((pI (pI u175 106 v8.toNatClampNeg v178) 104 v186.toNatClampNeg v191)).1 71 2).toInt = (u175.1 71 2).toInt := congrArg Int32.toInt (((pI_ne (a := 71) (b := 2) (c := 104) _ _ (Or.inl (by decide)))).trans ((pI_ne (a := 71) (b := 2) (c := 106) _ _ (Or.inl (by decide)))))
      have lk200 : (((pI (pI u175 106 v8.toNatClampNeg v178) 104 v186.toNatClampNeg v191)).1 71 2).toInt = (u175.1 71 2).toInt := congrArg Int32.toInt (((pI_ne (a := 71) (b := 2) (c := 104) _ _ (Or.inl (by decide)))).trans ((pI_ne (a := 71) (b := 2) (c := 106) _ _ (Or.inl (by decide)))))
      have lk201 : (((pI (pI u175 106 v8.toNatClampNeg v178) 104 v186.toNatClampNeg v191)).1 71 5).toInt = (u175.1 71 5).toInt := congrArg Int32.toInt (((pI_ne (a := 71) (b := 5) (c := 104) _ _ (Or.inl (by decide)))).trans ((pI_ne (a := 71) (b := 5) (c := 106) _ _ (Or.inl (by decide)))))
      have lk202 : (((pI (pI u175 106 v8.toNatClampNeg v178) 104 v186.toNatClampNeg v191)).1 71 5).toInt = (u175.1 71 5).toInt := congrArg Int32.toInt (((pI_ne (a := 71) (b := 5) (c := 104) _ _ (Or.inl (by decide)))).trans ((pI_ne (a := 71) (b := 5) (c := 106) _ _ (Or.inl (by decide)))))
      exact r_vret C (oDec_at oX12_testTold 61 rfl) ⟨rfl, ⟨hq195, by omega, by omega, by omega, (oqVs_fr (oFr_oneI (q := 80) (m := 9999) rfl (by rfl)) rfl (oqVs_fr (oFr_oneI (q := 82) (m := 9999) rfl (by rfl)) rfl hq177)), by omega, by omega, (oqBP_fr (oFr_oneI (q := 80) (m := 9999) rfl (by rfl)) rfl (oqBP_fr (oFr_oneI (q := 82) (m := 9999) rfl (by rfl)) rfl pu175_5)), (owC0_fr (oFr_oneI (q := 80) (m := 9999) rfl (by rfl)) rfl (owC0_fr (oFr_oneI (q := 82) (m := 9999) rfl (by rfl)) rfl pu175_7)), hq196, by first | exact (fun h9 h8 => by rw [← hm2 h8]; exact hTD9 h9) | (intro h9; exfalso; omega), by first | exact (fun h9 h8 => by rw [← hm3 h8]; exact hTD9 h9) | (intro h9; exfalso; omega)⟩⟩
set_option maxHeartbeats 4000000 in
set_option maxRecDepth 100000 in
theorem ct9_X12_ruleTold (l : Launch) (E : oE) (s : oS) (a1 : Int32) (g : Int → Int) (h : Int) (R : Int) (Z : List Int) (W : Nat → List Int) (Cq : Nat → Int32) (Fq : Nat → Int32) (Tq : Nat → Int32) (nq : Int32) (hp0 : oBB s) (hp1 : (s.1 71 5).toInt = 0 → (s.1 71 45).toInt + 3 ≤ (s.1 71 2).toInt) (hp2 : (s.1 104 3).toInt ≤ 6) (hp3 : (s.1 71 5).toInt = 0) (hp4 : (s.1 71 2).toInt = h ∧ (s.1 71 4).toInt = h) (hp5 : (s.1 104 2).toInt = R) (hp6 : R ≤ 12) (hp7 : oqBP s) (hp8 : oqZ g s) (hp9 : oqWd s) (hp10 : owYl Z s) (hp11 : owRB R W Z s) (hp12 : owC0 Cq s) (hp13 : owLw Fq Tq nq s) : oMet l 10 yX12_ruleTold cX12_ruleTold 2 none [(12, 2), (12, 4), (12, 5), (12, 6), (12, 9), (12, 45), (12, 47), (12, 48), (12, 55), (12, 56), (78, 9999), (79, 9999), (80, 9999), (81, 9999), (82, 9999)] E s [.ref (oad E 71), .int a1] (oPv (fun u => (oBB u) ∧ ((u.1 71 5).toInt = 0 → ((u.1 71 45).toInt ≤ (u.1 71 2).toInt ∧ (s.1 71 5).toInt = 0)) ∧ ((u.1 104 3).toInt ≤ 6) ∧ ((s.1 71 2).toInt ≤ (u.1 71 2).toInt) ∧ (R < 12 → oqVs g 11 19 h u) ∧ (12 ≤ R → ((u.1 71 5).toInt = 5 ∧ (u.1 71 6).toInt = a1.toInt)) ∧ ((u.1 71 5).toInt = 0 → ((u.1 104 2).toInt = R + 1 ∧ (u.1 104 3).toInt = (s.1 104 3).toInt)) ∧ (oqBP u) ∧ (owC0 Cq u) ∧ (owLw Fq Tq nq u) ∧ ((u.1 71 5).toInt = 0 → owRB (R + 1) (owUw W R (owWt g h)) (oqRy 0 u) u))) := by
  refine oMet.of (lv := [(0, .ref (oad E 71)), (1, .int a1)]) (by decide +kernel) (Nat.le_of_ble_eq_true rfl) rfl (fun J C hT => ?_)
  have C : oC l 10 cX12_ruleTold RX12 2 none [(12, 2), (12, 4), (12, 5), (12, 6), (12, 9), (12, 45), (12, 47), (12, 48), (12, 55), (12, 56), (78, 9999), (79, 9999), (80, 9999), (81, 9999), (82, 9999)] E s (oPv (fun u => (oBB u) ∧ ((u.1 71 5).toInt = 0 → ((u.1 71 45).toInt ≤ (u.1 71 2).toInt ∧ (s.1 71 5).toInt = 0)) ∧ ((u.1 104 3).toInt ≤ 6) ∧ ((s.1 71 2).toInt ≤ (u.1 71 2).toInt) ∧ (R < 12 → oqVs g 11 19 h u) ∧ (12 ≤ R → ((u.1 71 5).toInt = 5 ∧ (u.1 71 6).toInt = a1.toInt)) ∧ ((u.1 71 5).toInt = 0 → ((u.1 104 2).toInt = R + 1 ∧ (u.1 104 3).toInt = (s.1 104 3).toInt)) ∧ (oqBP u) ∧ (owC0 Cq u) ∧ (owLw Fq Tq nq u) ∧ ((u.1 71 5).toInt = 0 → owRB (R + 1) (owUw W R (owWt g h)) (oqRy 0 u) u))) J := C
  obtain ⟨k0, qk0⟩ : ∃ z : Int32, z = 0 := ⟨_, rfl⟩
  have ek0 : k0.toInt = 0 := by rw [qk0]; rfl
  obtain ⟨k2, qk2⟩ : ∃ z : Int32, z = 2 := ⟨_, rfl⟩
  have ek2 : k2.toInt = 2 := by rw [qk2]; rfl
  obtain ⟨k5, qk5⟩ : ∃ z : Int32, z = 5 := ⟨_, rfl⟩
  have ek5 : k5.toInt = 5 := by rw [qk5]; rfl
  obtain ⟨k12, qk12⟩ : ∃ z : Int32, z = 12 := ⟨_, rfl⟩
  have ek12 : k12.toInt = 12 := by rw [qk12]; rfl
  have rg1 := n_rng a1
  have htz_coded : (0 : Int) ≤ (s.1 71 45).toInt ∧ (s.1 71 45).toInt ≤ 1600 := hT.1 71 45
  have htz_at : (0 : Int) ≤ (s.1 71 2).toInt ∧ (s.1 71 2).toInt ≤ 1600 := hT.1 71 2
  refine r_aload_n C (j := 0) (oDec_at oX12_ruleTold 0 rfl) rfl rfl ?_
  obtain ⟨v1, ev1⟩ : ∃ z : Int32, (s).1 71 5 = z := ⟨_, rfl⟩
  have gv1 : (s.1 71 5).toInt = v1.toInt := congrArg Int32.toInt (ev1)
  have rv1 := n_rng v1
  refine r_geti (k := 5) (lo := (-2147483648)) (hi := 2147483647) C v1 oCl12 rfl (by decide) flX12_173 rfl rfl (ev1) rfl rfl (oDec_at oX12_ruleTold 1 rfl) (fun _ _ => ?_)
  refine r_if_ne C 24 (oDec_at oX12_ruleTold 2 rfl) (by decide) (fun cd2 => ?_) (fun cd2 => ?_)
  · skip
    refine r_aload_n C (j := 0) (oDec_at oX12_ruleTold 13 rfl) rfl rfl ?_
    refine r_geti (k := 5) (lo := (-2147483648)) (hi := 2147483647) C v1 oCl12 rfl (by decide) flX12_173 rfl rfl (ev1) rfl rfl (oDec_at oX12_ruleTold 14 rfl) (fun _ _ => ?_)
    refine r_if_ne C 36 (oDec_at oX12_ruleTold 15 rfl) (by decide) (fun cd3 => ?_) (fun cd3 => ?_)
    · skip
      have lk4 : ((s).1 71 5).toInt = v1.toInt := congrArg Int32.toInt (ev1)
      refine r_ty C (fun hty => ?_)
      have hty_coded : (0 : Int) ≤ ((s).1 71 45).toInt ∧ ((s).1 71 45).toInt ≤ 1600 := hty.1 71 45
      have hty_at : (0 : Int) ≤ ((s).1 71 2).toInt ∧ ((s).1 71 2).toInt ≤ 1600 := hty.1 71 2
      clear hty
      have lk5 : ((s).1 71 5).toInt = v1.toInt := congrArg Int32.toInt (ev1)
      have lk6 : ((s).1 71 5).toInt = v1.toInt := congrArg Int32.toInt (ev1)
      have lk7 : ((s).1 71 5).toInt = v1.toInt := congrArg Int32.toInt (ev1)
      have lk8 : ((s).1 71 5).toInt = v1.toInt := congrArg Int32.toInt (ev1)
      exact r_vret C (oDec_at oX12_ruleTold 19 rfl) ⟨rfl, ⟨hp0, by omega, by omega, by omega, by first | (intro h9; exfalso; omega) | exact fun _ => (by assumption), by omega, by omega, hp7, hp12, hp13, by first | (intro h9; exfalso; omega) | exact fun h9 => owRB_r (by assumption) (p_10 (by omega) (by omega)) (by omega)⟩⟩
    · omega
  · skip
    refine r_aload_n C (j := 0) (oDec_at oX12_ruleTold 3 rfl) rfl rfl ?_
    refine r_getF (k := 49) (b := 104) C oCl12 rfl (by decide) flX12_114 rfl rfl rfl (oDec_at oX12_ruleTold 4 rfl) ?_
    refine r_iconst C (oDec_at oX12_ruleTold 5 rfl) (v := k2) (by rw [qk2]; rfl) ?_
    obtain ⟨v10, ev10⟩ : ∃ z : Int32, (s).1 104 k2.toNatClampNeg = z := ⟨_, rfl⟩
    have gv10 : (s.1 104 k2.toNatClampNeg).toInt = v10.toInt := congrArg Int32.toInt (ev10)
    refine r_iald (n := 4) (lo := 0) (hi := 12) C v10 rfl (by decide) rfl rfl ⟨by omega, by omega⟩ (by decide) ev10 rfl rfl (oDec_at oX12_ruleTold 6 rfl) (fun b9 b9h => ?_)
    have hix := oIxM (i := k2) ev10
    refine r_bipush C (oDec_at oX12_ruleTold 7 rfl) (v := k12) (by rw [qk12]; rfl) ?_
    refine r_icmp_ne C 24 (oDec_at oX12_ruleTold 8 rfl) (by decide) (fun cd11 => ?_) (fun cd11 => ?_)
    · skip
      refine r_aload_n C (j := 0) (oDec_at oX12_ruleTold 13 rfl) rfl rfl ?_
      refine r_geti (k := 5) (lo := (-2147483648)) (hi := 2147483647) C v1 oCl12 rfl (by decide) flX12_173 rfl rfl (ev1) rfl rfl (oDec_at oX12_ruleTold 14 rfl) (fun _ _ => ?_)
      refine r_if_ne C 36 (oDec_at oX12_ruleTold 15 rfl) (by decide) (fun cd12 => ?_) (fun cd12 => ?_)
      · omega
      · skip
        refine r_aload_n C (j := 0) (oDec_at oX12_ruleTold 16 rfl) rfl rfl ?_
        refine r_iconst C (oDec_at oX12_ruleTold 17 rfl) (v := k0) (by rw [qk0]; rfl) ?_
        have lk13 : ((s).1 71 5).toInt = v1.toInt := congrArg Int32.toInt (ev1)
        have lk14 : ((s).1 71 5).toInt = v1.toInt := congrArg Int32.toInt (ev1)
        have lk15 : ((s).1 71 5).toInt = v1.toInt := congrArg Int32.toInt (ev1)
        refine r_callVv C oCl12 rfl miX12_testTold mlX12_337 (ct9_X12_testTold l E (s) k0 (g) (11) (19) (h) (Z) (Cq) (Fq) (Tq) (nq) hp0 (by omega) (by omega) (by omega) (by omega) (by omega) (by omega) (by omega) (by omega) hp7 hp8 hp9 hp10 hp12 hp13) (by decide) rfl rfl rfl (Nat.le_of_ble_eq_true rfl) (oDec_at oX12_ruleTold 18 rfl) (fun u16 pu16 fu16 => ?_)
        try dsimp only at pu16
        try simp only [lk14, lk15] at pu16
        obtain ⟨pu16_0, pu16_1, pu16_2, pu16_3, pu16_4, pu16_5, pu16_6, pu16_7, pu16_8, pu16_9, pu16_10, pu16_11⟩ := pu16
        refine r_ty C (fun hty => ?_)
        have hty_coded : (0 : Int) ≤ ((u16).1 71 45).toInt ∧ ((u16).1 71 45).toInt ≤ 1600 := hty.1 71 45
        have hty_at : (0 : Int) ≤ ((u16).1 71 2).toInt ∧ ((u16).1 71 2).toInt ≤ 1600 := hty.1 71 2
        clear hty
        exact r_vret C (oDec_at oX12_ruleTold 19 rfl) ⟨rfl, ⟨pu16_0, by omega, by omega, by omega, by first | (intro h9; exfalso; omega) | exact fun _ => pu16_4, by omega, by omega, pu16_7, pu16_8, pu16_9, by first | (intro h9; exfalso; omega) | exact fun h9 => owRB_r hp11 (pu16_10 (by omega) (by omega)) (by omega)⟩⟩
    · skip
      refine r_aload_n C (j := 0) (oDec_at oX12_ruleTold 9 rfl) rfl rfl ?_
      refine r_iconst C (oDec_at oX12_ruleTold 10 rfl) (v := k5) (by rw [qk5]; rfl) ?_
      refine r_iload_n C (j := 1) (oDec_at oX12_ruleTold 11 rfl) rfl rfl ?_
      have lk18 : ((s).1 71 5).toInt = v1.toInt := congrArg Int32.toInt (ev1)
      have lk19 : ((s).1 71 5).toInt = v1.toInt := congrArg Int32.toInt (ev1)
      refine r_callVv C oCl12 rfl miX12_fail mlX12_203 (ct7_X12_fail l E (s) k5 a1 (by omega) hp7) (by decide) rfl rfl rfl (Nat.le_of_ble_eq_true rfl) (oDec_at oX12_ruleTold 12 rfl) (fun u20 pu20 fu20 => ?_)
      try dsimp only at pu20
      try simp only [lk18, lk19] at pu20
      obtain ⟨pu20_0, pu20_1, pu20_2⟩ := pu20
      refine r_aload_n C (j := 0) (oDec_at oX12_ruleTold 13 rfl) rfl rfl ?_
      obtain ⟨v22, ev22⟩ : ∃ z : Int32, (u20).1 71 5 = z := ⟨_, rfl⟩
      have gv22 : (u20.1 71 5).toInt = v22.toInt := congrArg Int32.toInt (ev22)
      have rv22 := n_rng v22
      refine r_geti (k := 5) (lo := (-2147483648)) (hi := 2147483647) C v22 oCl12 rfl (by decide) flX12_173 rfl rfl (ev22) rfl rfl (oDec_at oX12_ruleTold 14 rfl) (fun _ _ => ?_)
      refine r_pc C 28 rfl ?_
      refine r_if_ne C 36 (oDec_at oX12_ruleTold 15 rfl) (by decide) (fun cd23 => ?_) (fun cd23 => ?_)
      · skip
        have lk24 : ((u20).1 71 5).toInt = v22.toInt := congrArg Int32.toInt (ev22)
        have lk25 : ((u20).1 71 45).toInt = (s.1 71 45).toInt := congrArg Int32.toInt ((fu20 71 45 rfl).1)
        have lk26 : ((u20).1 71 2).toInt = (s.1 71 2).toInt := congrArg Int32.toInt ((fu20 71 2 rfl).1)
        refine r_ty C (fun hty => ?_)
        have hty_coded : (0 : Int) ≤ ((u20).1 71 45).toInt ∧ ((u20).1 71 45).toInt ≤ 1600 := hty.1 71 45
        have hty_at : (0 : Int) ≤ ((u20).1 71 2).toInt ∧ ((u20).1 71 2).toInt ≤ 1600 := hty.1 71 2
        clear hty
        have lk27 : ((u20).1 71 5).toInt = v22.toInt := congrArg Int32.toInt (ev22)
        have lk28 : ((u20).1 71 45).toInt = (s.1 71 45).toInt := congrArg Int32.toInt ((fu20 71 45 rfl).1)
        have lk29 : ((u20).1 71 2).toInt = (s.1 71 2).toInt := congrArg Int32.toInt ((fu20 71 2 rfl).1)
        have lc30 : ((u20).1 104 3).toInt = (s.1 104 3).toInt := congrArg Int32.toInt ((fu20 104 3 rfl).1)
        have lk31 : ((u20).1 71 2).toInt = (s.1 71 2).toInt := congrArg Int32.toInt ((fu20 71 2 rfl).1)
        have lk32 : ((u20).1 71 5).toInt = v22.toInt := congrArg Int32.toInt (ev22)
        have lc33 : ((u20).1 104 2).toInt = (s.1 104 2).toInt := congrArg Int32.toInt ((fu20 104 2 rfl).1)
        have lc34 : ((u20).1 104 3).toInt = (s.1 104 3).toInt := congrArg Int32.toInt ((fu20 104 3 rfl).1)
        have lk35 : ((u20).1 71 5).toInt = v22.toInt := congrArg Int32.toInt (ev22)
        have lk36 : ((u20).1 71 5).toInt = v22.toInt := congrArg Int32.toInt (ev22)
        exact r_vret C (oDec_at oX12_ruleTold 19 rfl) ⟨rfl, ⟨(oBB_frb fu20 rfl (by omega) hp0), by omega, by omega, by omega, by first | (intro h9; exfalso; omega) | exact fun _ => (by assumption), by omega, by omega, pu20_2, (owC0_fr fu20 rfl hp12), (owLw_fr fu20 rfl hp13), by first | (intro h9; exfalso; omega) | exact fun h9 => owRB_r hp11 (pu20_10 (by omega) (by omega)) (by omega)⟩⟩
      · skip
        refine r_aload_n C (j := 0) (oDec_at oX12_ruleTold 16 rfl) rfl rfl ?_
        refine r_iconst C (oDec_at oX12_ruleTold 17 rfl) (v := k0) (by rw [qk0]; rfl) ?_
        have lc37 : ((u20).1 104 2).toInt = (s.1 104 2).toInt := congrArg Int32.toInt ((fu20 104 2 rfl).1)
        have lc38 : ((u20).1 104 3).toInt = (s.1 104 3).toInt := congrArg Int32.toInt ((fu20 104 3 rfl).1)
        have lk39 : ((u20).1 71 5).toInt = v22.toInt := congrArg Int32.toInt (ev22)
        have lk40 : ((u20).1 71 5).toInt = v22.toInt := congrArg Int32.toInt (ev22)
        have lk41 : ((u20).1 71 45).toInt = (s.1 71 45).toInt := congrArg Int32.toInt ((fu20 71 45 rfl).1)
        have lk42 : ((u20).1 71 2).toInt = (s.1 71 2).toInt := congrArg Int32.toInt ((fu20 71 2 rfl).1)
        have lk43 : ((u20).1 71 2).toInt = (s.1 71 2).toInt := congrArg Int32.toInt ((fu20 71 2 rfl).1)
        have lk44 : ((u20).1 71 4).toInt = (s.1 71 4).toInt := congrArg Int32.toInt ((fu20 71 4 rfl).1)
        have lk45 : ((u20).1 71 5).toInt = v22.toInt := congrArg Int32.toInt (ev22)
        have lk46 : ((u20).1 71 2).toInt = (s.1 71 2).toInt := congrArg Int32.toInt ((fu20 71 2 rfl).1)
        have lc47 : ((u20).1 104 2).toInt = (s.1 104 2).toInt := congrArg Int32.toInt ((fu20 104 2 rfl).1)
        have lc48 : ((u20).1 104 3).toInt = (s.1 104 3).toInt := congrArg Int32.toInt ((fu20 104 3 rfl).1)
        have lc49 : ((u20).1 104 3).toInt = (s.1 104 3).toInt := congrArg Int32.toInt ((fu20 104 3 rfl).1)
        refine r_callVv C oCl12 rfl miX12_testTold mlX12_337 (ct9_X12_testTold l E (u20) k0 (g) (11) (19) (h) (Z) (Cq) (Fq) (Tq) (nq) (oBB_frb fu20 rfl (by omega) hp0) (by omega) (by omega) (by omega) (by omega) (by omega) (by omega) (by omega) (by omega) pu20_2 (oqZ_fr fu20 rfl hp8) (oqWd_fr fu20 rfl hp9) (owYl_frb fu20 rfl (by omega) hp10) (owC0_fr fu20 rfl hp12) (owLw_fr fu20 rfl hp13)) (by decide) rfl rfl rfl (Nat.le_of_ble_eq_true rfl) (oDec_at oX12_ruleTold 18 rfl) (fun u50 pu50 fu50 => ?_)
        try dsimp only at pu50
        try simp only [lk40, lk41, lk42, lk43, lk44, lk45, lk46] at pu50
        obtain ⟨pu50_0, pu50_1, pu50_2, pu50_3, pu50_4, pu50_5, pu50_6, pu50_7, pu50_8, pu50_9, pu50_10, pu50_11⟩ := pu50
        refine r_ty C (fun hty => ?_)
        have hty_coded : (0 : Int) ≤ ((u50).1 71 45).toInt ∧ ((u50).1 71 45).toInt ≤ 1600 := hty.1 71 45
        have hty_at : (0 : Int) ≤ ((u50).1 71 2).toInt ∧ ((u50).1 71 2).toInt ≤ 1600 := hty.1 71 2
        clear hty
        exact r_vret C (oDec_at oX12_ruleTold 19 rfl) ⟨rfl, ⟨pu50_0, by omega, by omega, by omega, by first | (intro h9; exfalso; omega) | exact fun _ => pu50_4, by omega, by omega, pu50_7, pu50_8, pu50_9, by first | (intro h9; exfalso; omega) | exact fun h9 => owRB_r (owRB_fr fu20 rfl hp11) (pu50_10 (by omega) (by omega)) (by omega)⟩⟩
set_option maxHeartbeats 4000000 in
set_option maxRecDepth 100000 in
theorem ct9_X12_mottoTold (l : Launch) (E : oE) (s : oS) (a1 : Int32) (g : Int → Int) (h : Int) (N : Nat → Nat → Int) (M : Int) (Z : List Int) (W : Nat → List Int) (R : Int) (Cq : Nat → Int32) (Fq : Nat → Int32) (Tq : Nat → Int32) (nq : Int32) (hp0 : oBB s) (hp1 : (s.1 71 5).toInt = 0 → (s.1 71 45).toInt + 3 ≤ (s.1 71 2).toInt) (hp2 : (s.1 104 3).toInt ≤ 6) (hp3 : (s.1 71 5).toInt = 0) (hp4 : (s.1 71 2).toInt = h ∧ (s.1 71 4).toInt = h) (hp5 : (s.1 104 3).toInt = M) (hp6 : 0 ≤ M) (hp7 : oqNR N M s) (hp8 : ¬ (97 ≤ g h ∧ g h ≤ 122)) (hp9 : oqBP s) (hp10 : oqZ g s) (hp11 : oqWd s) (hp12 : owYl Z s) (hp13 : owRB R W Z s) (hp14 : R ≤ 12) (hp15 : owC0 Cq s) (hp16 : owLw Fq Tq nq s) : oMet l 10 yX12_mottoTold cX12_mottoTold 5 none [(12, 2), (12, 4), (12, 5), (12, 6), (12, 9), (12, 36), (12, 45), (12, 47), (12, 48), (12, 55), (12, 56), (78, 9999), (79, 9999), (80, 9999), (81, 9999), (82, 9999), (83, 9999)] E s [.ref (oad E 71), .int a1] (oPv (fun u => (oBB u) ∧ ((u.1 71 5).toInt = 0 → ((u.1 71 45).toInt ≤ (u.1 71 2).toInt ∧ (s.1 71 5).toInt = 0)) ∧ ((u.1 104 3).toInt ≤ 6) ∧ ((s.1 71 2).toInt ≤ (u.1 71 2).toInt) ∧ (6 ≤ M → ((u.1 71 5).toInt = 5 ∧ (u.1 71 6).toInt = a1.toInt)) ∧ (M < 6 → oqMk g h N M ≠ 0 → ((u.1 71 5).toInt = oqMk g h N M ∧ (u.1 71 6).toInt = oqMp g h)) ∧ (M < 6 → oqMk g h N M = 0 → oqVs g 19 24 (oqWe g (oqSk g h)) u) ∧ ((u.1 71 5).toInt = 0 → oqNR (oqNx N M (oqN6 g (oqSk g h))) (M + 1) u) ∧ ((u.1 71 5).toInt = 0 → ((u.1 104 3).toInt = M + 1 ∧ (u.1 104 2).toInt = (s.1 104 2).toInt)) ∧ (oqBP u) ∧ (owC0 Cq u) ∧ (owLw Fq Tq nq u) ∧ ((u.1 71 5).toInt = 0 → owRB R W (oqRy 0 u) u))) := by
  refine oMet.of (lv := [(0, .ref (oad E 71)), (1, .int a1)]) (by decide +kernel) (Nat.le_of_ble_eq_true rfl) rfl (fun J C hT => ?_)
  have C : oC l 10 cX12_mottoTold RX12 5 none [(12, 2), (12, 4), (12, 5), (12, 6), (12, 9), (12, 36), (12, 45), (12, 47), (12, 48), (12, 55), (12, 56), (78, 9999), (79, 9999), (80, 9999), (81, 9999), (82, 9999), (83, 9999)] E s (oPv (fun u => (oBB u) ∧ ((u.1 71 5).toInt = 0 → ((u.1 71 45).toInt ≤ (u.1 71 2).toInt ∧ (s.1 71 5).toInt = 0)) ∧ ((u.1 104 3).toInt ≤ 6) ∧ ((s.1 71 2).toInt ≤ (u.1 71 2).toInt) ∧ (6 ≤ M → ((u.1 71 5).toInt = 5 ∧ (u.1 71 6).toInt = a1.toInt)) ∧ (M < 6 → oqMk g h N M ≠ 0 → ((u.1 71 5).toInt = oqMk g h N M ∧ (u.1 71 6).toInt = oqMp g h)) ∧ (M < 6 → oqMk g h N M = 0 → oqVs g 19 24 (oqWe g (oqSk g h)) u) ∧ ((u.1 71 5).toInt = 0 → oqNR (oqNx N M (oqN6 g (oqSk g h))) (M + 1) u) ∧ ((u.1 71 5).toInt = 0 → ((u.1 104 3).toInt = M + 1 ∧ (u.1 104 2).toInt = (s.1 104 2).toInt)) ∧ (oqBP u) ∧ (owC0 Cq u) ∧ (owLw Fq Tq nq u) ∧ ((u.1 71 5).toInt = 0 → owRB R W (oqRy 0 u) u))) J := C
  obtain ⟨k0, qk0⟩ : ∃ z : Int32, z = 0 := ⟨_, rfl⟩
  have ek0 : k0.toInt = 0 := by rw [qk0]; rfl
  obtain ⟨k1, qk1⟩ : ∃ z : Int32, z = 1 := ⟨_, rfl⟩
  have ek1 : k1.toInt = 1 := by rw [qk1]; rfl
  obtain ⟨k3, qk3⟩ : ∃ z : Int32, z = 3 := ⟨_, rfl⟩
  have ek3 : k3.toInt = 3 := by rw [qk3]; rfl
  obtain ⟨k5, qk5⟩ : ∃ z : Int32, z = 5 := ⟨_, rfl⟩
  have ek5 : k5.toInt = 5 := by rw [qk5]; rfl
  obtain ⟨k6, qk6⟩ : ∃ z : Int32, z = 6 := ⟨_, rfl⟩
  have ek6 : k6.toInt = 6 := by rw [qk6]; rfl
  have rg1 := n_rng a1
  have htz_coded : (0 : Int) ≤ (s.1 71 45).toInt ∧ (s.1 71 45).toInt ≤ 1600 := hT.1 71 45
  have htz_at : (0 : Int) ≤ (s.1 71 2).toInt ∧ (s.1 71 2).toInt ≤ 1600 := hT.1 71 2
  have key : ∀ n : Nat, (∀ (t : oS) (x2 : Int64) (x4 : Int32), (oBB t) → (0 ≤ x4.toInt ∧ x4.toInt ≤ 12) → ((t.1 104 3).toInt ≤ 5) → ((t.1 71 5).toInt = 0 → ((t.1 71 45).toInt + 3 ≤ (t.1 71 2).toInt ∧ (s.1 71 5).toInt = 0)) → ((s.1 71 2).toInt ≤ (t.1 71 2).toInt) → (oqZ g t) → (oqWd t) → ((t.1 104 3).toInt = M) → (oqNR N M t) → ((t.1 104 2).toInt = (s.1 104 2).toInt) → (((t.1 71 5).toInt = 0 ∧ 97 ≤ g (oqSk g h) ∧ g (oqSk g h) ≤ 122 ∧ oqWi g h h = -1 ∧ oqWe g (oqSk g h) - oqSk g h ≤ 6 ∧ x2.toInt = oqVf (oqN6 g (oqSk g h)) 6 ∧ (t.1 71 2).toInt = oqWe g (oqSk g h) ∧ (t.1 71 4).toInt = oqWe g (oqSk g h) ∧ (t.1 71 36).toInt = oqSk g h) ∨ ((t.1 71 5).toInt ≠ 0 ∧ oqMk g h N M ≠ 0 ∧ (t.1 71 5).toInt = oqMk g h N M ∧ (t.1 71 6).toInt = oqMp g h)) → ((t.1 71 5).toInt = 0 → oqNo6 g (oqSk g h) N x4.toInt) → (M ≤ 5) → ((s.1 71 5).toInt = 0) → (oqBP t) → (owYl Z t) → (owRB R W Z t) → (owC0 Cq t) → (owLw Fq Tq nq t) → 20 - x4.toInt ≤ (n : Int) → J t 40 [(0, .ref (oad E 71)), (2, .long x2), (4, .int x4)] []) := by
    intro n
    induction n using Nat.strongRecOn with
    | _ n ih =>
      skip
      · intro t x2 x4  iv0 iv1 iv2 iv3 iv4 iv5 iv6 iv7 iv8 iv9 iv10 iv11 iv12 iv13 iv14 iv15 iv16 iv17 iv18 hmu
        have rx4 := n_rng x4
        refine r_ty C (fun hty => ?_)
        have hmC : ∀ i : Nat, (0 : Int) ≤ ((t).1 104 i).toInt ∧ ((t).1 104 i).toInt ≤ 12 := fun i => hty.1 104 i
        have hmC2 := hmC 2
        have hmC3 := hmC 3
        clear hty
        have hn4 := n_nat x4
        refine r_iload C (j := 2) (oDec_at oX12_mottoTold 22 rfl) rfl ?_
        refine r_aload_n C (j := 0) (oDec_at oX12_mottoTold 23 rfl) rfl rfl ?_
        refine r_getF (k := 49) (b := 104) C oCl12 rfl (by decide) flX12_114 rfl rfl rfl (oDec_at oX12_mottoTold 24 rfl) ?_
        refine r_iconst C (oDec_at oX12_mottoTold 25 rfl) (v := k3) (by rw [qk3]; rfl) ?_
        obtain ⟨v2, ev2⟩ : ∃ z : Int32, (t).1 104 k3.toNatClampNeg = z := ⟨_, rfl⟩
        have gv2 : (t.1 104 k3.toNatClampNeg).toInt = v2.toInt := congrArg Int32.toInt (ev2)
        refine r_iald (n := 4) (lo := 0) (hi := 12) C v2 rfl (by decide) rfl rfl ⟨by omega, by omega⟩ (by decide) ev2 rfl rfl (oDec_at oX12_mottoTold 26 rfl) (fun b1 b1h => ?_)
        have hix := oIxM (i := k3) ev2
        refine r_icmp_ge C 88 (oDec_at oX12_mottoTold 27 rfl) (by decide) (fun cd3 => ?_) (fun cd3 => ?_)
        · skip
          refine r_aload_n C (j := 0) (oDec_at oX12_mottoTold 47 rfl) rfl rfl ?_
          refine r_getF (k := 52) (b := 107) C oCl12 rfl (by decide) flX12_123 rfl rfl rfl (oDec_at oX12_mottoTold 48 rfl) ?_
          refine r_bipush C (oDec_at oX12_mottoTold 49 rfl) (v := k6) (by rw [qk6]; rfl) ?_
          refine r_aload_n C (j := 0) (oDec_at oX12_mottoTold 50 rfl) rfl rfl ?_
          refine r_getF (k := 49) (b := 104) C oCl12 rfl (by decide) flX12_114 rfl rfl rfl (oDec_at oX12_mottoTold 51 rfl) ?_
          refine r_iconst C (oDec_at oX12_mottoTold 52 rfl) (v := k3) (by rw [qk3]; rfl) ?_
          refine r_pc C 99 rfl ?_
          refine r_iald (n := 4) (lo := 0) (hi := 12) C v2 rfl (by decide) rfl rfl ⟨by omega, by omega⟩ (by decide) (ev2) rfl rfl (oDec_at oX12_mottoTold 53 rfl) (fun b4 b4h => ?_)
          have hix := oIxM (i := k3) ev2
          obtain ⟨v5, ev5⟩ : ∃ z : Int32, z = k6 + v2 := ⟨_, rfl⟩
          have hv5 : v5.toInt = k6.toInt + v2.toInt := n_add ev5 (by omega) (by omega)
          refine r_iadd C v5 (oDec_at oX12_mottoTold 54 rfl) ev5 ?_
          refine r_lload_n C (j := 1) (oDec_at oX12_mottoTold 55 rfl) rfl rfl ?_
          refine r_last (n := 12) C rfl (by decide) rfl rfl ⟨by omega, by omega⟩ (by decide) rfl (oDec_at oX12_mottoTold 56 rfl) ?_
          have lk6 : (((pL t 107 v5.toNatClampNeg x2)).1 71 5).toInt = (t.1 71 5).toInt := congrArg Int32.toInt ((show ((pL t 107 v5.toNatClampNeg x2)).1 71 5 = t.1 71 5 from rfl))
          have hnr : (((pL t 107 v5.toNatClampNeg x2)).1 71 5).toInt = 0 → oqNR (oqNx N M (oqN6 g (oqSk g h))) (M + 1) ((pL t 107 v5.toNatClampNeg x2)) := fun h9 => oqNR_nx iv8 (by omega) (by omega) (by omega)
          refine r_aload_n C (j := 0) (oDec_at oX12_mottoTold 57 rfl) rfl rfl ?_
          obtain ⟨v7, ev7⟩ : ∃ z : Int32, ((pL t 107 v5.toNatClampNeg x2)).1 71 5 = z := ⟨_, rfl⟩
          have gv7 : (t.1 71 5).toInt = v7.toInt := congrArg Int32.toInt (((show ((pL t 107 v5.toNatClampNeg x2)).1 71 5 = t.1 71 5 from rfl)).symm.trans ev7)
          have ggv7 : (((pL t 107 v5.toNatClampNeg x2)).1 71 5).toInt = v7.toInt := congrArg Int32.toInt ev7
          have rv7 := n_rng v7
          refine r_geti (k := 5) (lo := (-2147483648)) (hi := 2147483647) C v7 oCl12 rfl (by decide) flX12_173 rfl rfl (ev7) rfl rfl (oDec_at oX12_mottoTold 58 rfl) (fun _ _ => ?_)
          refine r_pc C 107 rfl ?_
          refine r_if_ne C 115 (oDec_at oX12_mottoTold 59 rfl) (by decide) (fun cd8 => ?_) (fun cd8 => ?_)
          · skip
            have lk9 : (((pL t 107 v5.toNatClampNeg x2)).1 71 5).toInt = v7.toInt := congrArg Int32.toInt (ev7)
            have lk10 : (((pL t 107 v5.toNatClampNeg x2)).1 71 45).toInt = (t.1 71 45).toInt := congrArg Int32.toInt ((show ((pL t 107 v5.toNatClampNeg x2)).1 71 45 = t.1 71 45 from rfl))
            have lk11 : (((pL t 107 v5.toNatClampNeg x2)).1 71 2).toInt = (t.1 71 2).toInt := congrArg Int32.toInt ((show ((pL t 107 v5.toNatClampNeg x2)).1 71 2 = t.1 71 2 from rfl))
            have lk12 : (((pL t 107 v5.toNatClampNeg x2)).1 71 6).toInt = (t.1 71 6).toInt := congrArg Int32.toInt ((show ((pL t 107 v5.toNatClampNeg x2)).1 71 6 = t.1 71 6 from rfl))
            refine r_ty C (fun hty => ?_)
            have hty_coded : (0 : Int) ≤ (((pL t 107 v5.toNatClampNeg x2)).1 71 45).toInt ∧ (((pL t 107 v5.toNatClampNeg x2)).1 71 45).toInt ≤ 1600 := hty.1 71 45
            have hty_at : (0 : Int) ≤ (((pL t 107 v5.toNatClampNeg x2)).1 71 2).toInt ∧ (((pL t 107 v5.toNatClampNeg x2)).1 71 2).toInt ≤ 1600 := hty.1 71 2
            clear hty
            refine r_ty C (fun hty8 => ?_)
            have hm38 : (0 : Int) ≤ (s.1 104 3).toInt := (hT.1 104 3).1
            clear hty8
            have lk13 : (((pL t 107 v5.toNatClampNeg x2)).1 71 5).toInt = v7.toInt := congrArg Int32.toInt (ev7)
            have lk14 : (((pL t 107 v5.toNatClampNeg x2)).1 71 45).toInt = (t.1 71 45).toInt := congrArg Int32.toInt ((show ((pL t 107 v5.toNatClampNeg x2)).1 71 45 = t.1 71 45 from rfl))
            have lk15 : (((pL t 107 v5.toNatClampNeg x2)).1 71 2).toInt = (t.1 71 2).toInt := congrArg Int32.toInt ((show ((pL t 107 v5.toNatClampNeg x2)).1 71 2 = t.1 71 2 from rfl))
            have lc16 : (((pL t 107 v5.toNatClampNeg x2)).1 104 3).toInt = (t.1 104 3).toInt := congrArg Int32.toInt ((show ((pL t 107 v5.toNatClampNeg x2)).1 104 3 = t.1 104 3 from rfl))
            have lk17 : (((pL t 107 v5.toNatClampNeg x2)).1 71 2).toInt = (t.1 71 2).toInt := congrArg Int32.toInt ((show ((pL t 107 v5.toNatClampNeg x2)).1 71 2 = t.1 71 2 from rfl))
            have lk18 : (((pL t 107 v5.toNatClampNeg x2)).1 71 5).toInt = v7.toInt := congrArg Int32.toInt (ev7)
            have lk19 : (((pL t 107 v5.toNatClampNeg x2)).1 71 6).toInt = (t.1 71 6).toInt := congrArg Int32.toInt ((show ((pL t 107 v5.toNatClampNeg x2)).1 71 6 = t.1 71 6 from rfl))
            have lk20 : (((pL t 107 v5.toNatClampNeg x2)).1 71 5).toInt = v7.toInt := congrArg Int32.toInt (ev7)
            have lk21 : (((pL t 107 v5.toNatClampNeg x2)).1 71 6).toInt = (t.1 71 6).toInt := congrArg Int32.toInt ((show ((pL t 107 v5.toNatClampNeg x2)).1 71 6 = t.1 71 6 from rfl))
            have lk22 : (((pL t 107 v5.toNatClampNeg x2)).1 71 5).toInt = v7.toInt := congrArg Int32.toInt (ev7)
            have lc23 : (((pL t 107 v5.toNatClampNeg x2)).1 104 3).toInt = (t.1 104 3).toInt := congrArg Int32.toInt ((show ((pL t 107 v5.toNatClampNeg x2)).1 104 3 = t.1 104 3 from rfl))
            have lc24 : (((pL t 107 v5.toNatClampNeg x2)).1 104 2).toInt = (t.1 104 2).toInt := congrArg Int32.toInt ((show ((pL t 107 v5.toNatClampNeg x2)).1 104 2 = t.1 104 2 from rfl))
            have lk25 : (((pL t 107 v5.toNatClampNeg x2)).1 71 5).toInt = v7.toInt := congrArg Int32.toInt (ev7)
            have lk26 : (((pL t 107 v5.toNatClampNeg x2)).1 71 5).toInt = v7.toInt := congrArg Int32.toInt (ev7)
            exact r_vret C (oDec_at oX12_mottoTold 63 rfl) ⟨rfl, ⟨(oBB_fr (oFr_oneL (q := 83) (m := 9999) rfl (by rfl)) rfl iv0), by omega, by omega, by omega, by omega, by omega, by first | (intro _ h9; exfalso; omega) | exact fun _ _ => (by assumption), by first | (intro h9; exfalso; omega), by omega, (oqBP_fr (oFr_oneL (q := 83) (m := 9999) rfl (by rfl)) rfl iv14), (owC0_fr (oFr_oneL (q := 83) (m := 9999) rfl (by rfl)) rfl iv17), (owLw_fr (oFr_oneL (q := 83) (m := 9999) rfl (by rfl)) rfl iv18), by first | (intro h9; exfalso; omega) | exact fun h9 => owRB_m iv16 (p_11 (by omega) (by omega)) (by omega) (by omega)⟩⟩
          · skip
            have lk27 : (((pL t 107 v5.toNatClampNeg x2)).1 71 2).toInt = (t.1 71 2).toInt := congrArg Int32.toInt ((show ((pL t 107 v5.toNatClampNeg x2)).1 71 2 = t.1 71 2 from rfl))
            have lk28 : (((pL t 107 v5.toNatClampNeg x2)).1 71 4).toInt = (t.1 71 4).toInt := congrArg Int32.toInt ((show ((pL t 107 v5.toNatClampNeg x2)).1 71 4 = t.1 71 4 from rfl))
            have lk29 : (((pL t 107 v5.toNatClampNeg x2)).1 71 5).toInt = v7.toInt := congrArg Int32.toInt (ev7)
            have lk30 : (((pL t 107 v5.toNatClampNeg x2)).1 71 48).toInt = (t.1 71 48).toInt := congrArg Int32.toInt ((show ((pL t 107 v5.toNatClampNeg x2)).1 71 48 = t.1 71 48 from rfl))
            have lk31 : (((pL t 107 v5.toNatClampNeg x2)).1 71 47).toInt = (t.1 71 47).toInt := congrArg Int32.toInt ((show ((pL t 107 v5.toNatClampNeg x2)).1 71 47 = t.1 71 47 from rfl))
            have hm0 := oqM_0 (g := g) (h := h) (M := M) (N := N) (by omega) (by omega) (by omega) (oqNo6_t (iv11 (by omega)) (by omega))
            refine r_aload_n C (j := 0) (oDec_at oX12_mottoTold 60 rfl) rfl rfl ?_
            refine r_iconst C (oDec_at oX12_mottoTold 61 rfl) (v := k1) (by rw [qk1]; rfl) ?_
            have lc32 : (((pL t 107 v5.toNatClampNeg x2)).1 104 2).toInt = (t.1 104 2).toInt := congrArg Int32.toInt ((show ((pL t 107 v5.toNatClampNeg x2)).1 104 2 = t.1 104 2 from rfl))
            have lc33 : (((pL t 107 v5.toNatClampNeg x2)).1 104 3).toInt = (t.1 104 3).toInt := congrArg Int32.toInt ((show ((pL t 107 v5.toNatClampNeg x2)).1 104 3 = t.1 104 3 from rfl))
            have lk34 : (((pL t 107 v5.toNatClampNeg x2)).1 71 5).toInt = v7.toInt := congrArg Int32.toInt (ev7)
            have lk35 : (((pL t 107 v5.toNatClampNeg x2)).1 71 5).toInt = v7.toInt := congrArg Int32.toInt (ev7)
            have lk36 : (((pL t 107 v5.toNatClampNeg x2)).1 71 45).toInt = (t.1 71 45).toInt := congrArg Int32.toInt ((show ((pL t 107 v5.toNatClampNeg x2)).1 71 45 = t.1 71 45 from rfl))
            have lk37 : (((pL t 107 v5.toNatClampNeg x2)).1 71 2).toInt = (t.1 71 2).toInt := congrArg Int32.toInt ((show ((pL t 107 v5.toNatClampNeg x2)).1 71 2 = t.1 71 2 from rfl))
            have lk38 : (((pL t 107 v5.toNatClampNeg x2)).1 71 2).toInt = (t.1 71 2).toInt := congrArg Int32.toInt ((show ((pL t 107 v5.toNatClampNeg x2)).1 71 2 = t.1 71 2 from rfl))
            have lk39 : (((pL t 107 v5.toNatClampNeg x2)).1 71 4).toInt = (t.1 71 4).toInt := congrArg Int32.toInt ((show ((pL t 107 v5.toNatClampNeg x2)).1 71 4 = t.1 71 4 from rfl))
            have lk40 : (((pL t 107 v5.toNatClampNeg x2)).1 71 5).toInt = v7.toInt := congrArg Int32.toInt (ev7)
            have lk41 : (((pL t 107 v5.toNatClampNeg x2)).1 71 2).toInt = (t.1 71 2).toInt := congrArg Int32.toInt ((show ((pL t 107 v5.toNatClampNeg x2)).1 71 2 = t.1 71 2 from rfl))
            have lc42 : (((pL t 107 v5.toNatClampNeg x2)).1 104 2).toInt = (t.1 104 2).toInt := congrArg Int32.toInt ((show ((pL t 107 v5.toNatClampNeg x2)).1 104 2 = t.1 104 2 from rfl))
            have lc43 : (((pL t 107 v5.toNatClampNeg x2)).1 104 3).toInt = (t.1 104 3).toInt := congrArg Int32.toInt ((show ((pL t 107 v5.toNatClampNeg x2)).1 104 3 = t.1 104 3 from rfl))
            have lc44 : (((pL t 107 v5.toNatClampNeg x2)).1 104 3).toInt = (t.1 104 3).toInt := congrArg Int32.toInt ((show ((pL t 107 v5.toNatClampNeg x2)).1 104 3 = t.1 104 3 from rfl))
            refine r_callVv C oCl12 rfl miX12_testTold mlX12_337 (ct9_X12_testTold l E ((pL t 107 v5.toNatClampNeg x2)) k1 (g) (19) (24) (oqWe g (oqSk g h)) (Z) (Cq) (Fq) (Tq) (nq) (oBB_fr (oFr_oneL (q := 83) (m := 9999) rfl (by rfl)) rfl iv0) (by omega) (by omega) (by omega) (by omega) (by omega) (by omega) (by omega) (by omega) (oqBP_fr (oFr_oneL (q := 83) (m := 9999) rfl (by rfl)) rfl iv14) (oqZ_fr (oFr_oneL (q := 83) (m := 9999) rfl (by rfl)) rfl iv5) (oqWd_fr (oFr_oneL (q := 83) (m := 9999) rfl (by rfl)) rfl iv6) (owYl_fr (oFr_oneL (q := 83) (m := 9999) rfl (by rfl)) rfl iv15) (owC0_fr (oFr_oneL (q := 83) (m := 9999) rfl (by rfl)) rfl iv17) (owLw_fr (oFr_oneL (q := 83) (m := 9999) rfl (by rfl)) rfl iv18)) (by decide) rfl rfl rfl (Nat.le_of_ble_eq_true rfl) (oDec_at oX12_mottoTold 62 rfl) (fun u45 pu45 fu45 => ?_)
            try dsimp only at pu45
            try simp only [lk35, lk36, lk37, lk38, lk39, lk40, lk41] at pu45
            obtain ⟨pu45_0, pu45_1, pu45_2, pu45_3, pu45_4, pu45_5, pu45_6, pu45_7, pu45_8, pu45_9, pu45_10, pu45_11⟩ := pu45
            refine r_ty C (fun hty => ?_)
            have hty_coded : (0 : Int) ≤ ((u45).1 71 45).toInt ∧ ((u45).1 71 45).toInt ≤ 1600 := hty.1 71 45
            have hty_at : (0 : Int) ≤ ((u45).1 71 2).toInt ∧ ((u45).1 71 2).toInt ≤ 1600 := hty.1 71 2
            clear hty
            refine r_ty C (fun hty8 => ?_)
            have hm38 : (0 : Int) ≤ (s.1 104 3).toInt := (hT.1 104 3).1
            clear hty8
            exact r_vret C (oDec_at oX12_mottoTold 63 rfl) ⟨rfl, ⟨pu45_0, by omega, by omega, by omega, by omega, by omega, by first | (intro _ h9; exfalso; omega) | exact fun _ _ => pu45_4, by first | (intro h9; exfalso; omega) | exact fun h9 => oqNR_fr fu45 rfl (hnr (by omega)), by omega, pu45_7, pu45_8, pu45_9, by first | (intro h9; exfalso; omega) | exact fun h9 => owRB_m (owRB_fr (oFr_oneL (q := 83) (m := 9999) rfl (by rfl)) rfl iv16) (pu45_11 (by omega) (by omega)) (by omega) (by omega)⟩⟩
        · skip
          refine r_aload_n C (j := 0) (oDec_at oX12_mottoTold 28 rfl) rfl rfl ?_
          obtain ⟨v47, ev47⟩ : ∃ z : Int32, (t).1 71 5 = z := ⟨_, rfl⟩
          have gv47 : (t.1 71 5).toInt = v47.toInt := congrArg Int32.toInt (ev47)
          have rv47 := n_rng v47
          refine r_geti (k := 5) (lo := (-2147483648)) (hi := 2147483647) C v47 oCl12 rfl (by decide) flX12_173 rfl rfl (ev47) rfl rfl (oDec_at oX12_mottoTold 29 rfl) (fun _ _ => ?_)
          refine r_if_ne C 82 (oDec_at oX12_mottoTold 30 rfl) (by decide) (fun cd48 => ?_) (fun cd48 => ?_)
          · skip
            obtain ⟨v49, ev49⟩ : ∃ z : Int32, x4 + Int32.ofInt 1 = z := ⟨_, rfl⟩
            have hv49 : v49.toInt = x4.toInt + 1 := n_inc ev49 (by decide) (by omega) (by omega)
            refine r_iinc C (j := 2) (lv' := [(0, .ref (oad E 71)), (2, .long x2), (4, .int v49)]) v49 [1, 2, 0] (oDec_at oX12_mottoTold 45 rfl) rfl ev49 (by decide) rfl ?_
            refine r_goto C (tgt := 40) (oDec_at oX12_mottoTold 46 rfl) (by decide) ?_
            have lk50 : ((t).1 71 5).toInt = v47.toInt := congrArg Int32.toInt (ev47)
            have lk51 : ((t).1 71 5).toInt = v47.toInt := congrArg Int32.toInt (ev47)
            exact (ih (n - 1) (by omega)) (t) x2 v49  iv0 (by omega) (by omega) (by omega) (by omega) iv5 iv6 (by omega) iv8 (by omega) (by first | omega) (by first | (intro h9; exfalso; omega) | exact fun h9 => oqNo6_nx (j := x4.toNatClampNeg) (iv11 (by omega)) (by omega) (by omega) (fun h7 => by have h8 := hne.mpr h7; omega) | exact fun _ => oqNo6_0 (by omega)) (by omega) (by omega) iv14 iv15 iv16 iv17 iv18 (by omega)
          · skip
            refine r_aload_n C (j := 0) (oDec_at oX12_mottoTold 31 rfl) rfl rfl ?_
            refine r_getF (k := 52) (b := 107) C oCl12 rfl (by decide) flX12_123 rfl rfl rfl (oDec_at oX12_mottoTold 32 rfl) ?_
            refine r_bipush C (oDec_at oX12_mottoTold 33 rfl) (v := k6) (by rw [qk6]; rfl) ?_
            refine r_iload C (j := 2) (oDec_at oX12_mottoTold 34 rfl) rfl ?_
            obtain ⟨v52, ev52⟩ : ∃ z : Int32, z = k6 + x4 := ⟨_, rfl⟩
            have hv52 : v52.toInt = k6.toInt + x4.toInt := n_add ev52 (by omega) (by omega)
            refine r_iadd C v52 (oDec_at oX12_mottoTold 35 rfl) ev52 ?_
            obtain ⟨v53, ev53⟩ : ∃ z : Int64, (t).2.1 107 v52.toNatClampNeg = z := ⟨_, rfl⟩
            refine r_lald (n := 12) C v53 rfl (by decide) rfl rfl ⟨by omega, by omega⟩ (by decide) ev53 (oDec_at oX12_mottoTold 36 rfl) ?_
            refine r_pc C 68 rfl ?_
            have hne := oqNR_eq iv8 (j := x4.toNatClampNeg) (i := v52) (w := x2) (g := g) (A := oqSk g h) (by omega) (by omega) ev53 (by omega)
            refine r_lload_n C (j := 1) (oDec_at oX12_mottoTold 37 rfl) rfl rfl ?_
            obtain ⟨v54, ev54⟩ : ∃ z : Int32, z = lg_cmp v53 x2 := ⟨_, rfl⟩
            have hv54 := n_lcmp ev54
            refine r_lcmp C v54 (oDec_at oX12_mottoTold 38 rfl) ev54 ?_
            refine r_if_ne C 82 (oDec_at oX12_mottoTold 39 rfl) (by decide) (fun cd55 => ?_) (fun cd55 => ?_)
            · skip
              obtain ⟨v56, ev56⟩ : ∃ z : Int32, x4 + Int32.ofInt 1 = z := ⟨_, rfl⟩
              have hv56 : v56.toInt = x4.toInt + 1 := n_inc ev56 (by decide) (by omega) (by omega)
              refine r_iinc C (j := 2) (lv' := [(0, .ref (oad E 71)), (2, .long x2), (4, .int v56)]) v56 [1, 2, 0] (oDec_at oX12_mottoTold 45 rfl) rfl ev56 (by decide) rfl ?_
              refine r_goto C (tgt := 40) (oDec_at oX12_mottoTold 46 rfl) (by decide) ?_
              have lk57 : ((t).1 71 5).toInt = v47.toInt := congrArg Int32.toInt (ev47)
              have lk58 : ((t).1 71 5).toInt = v47.toInt := congrArg Int32.toInt (ev47)
              exact (ih (n - 1) (by omega)) (t) x2 v56  iv0 (by omega) (by omega) (by omega) (by omega) iv5 iv6 (by omega) iv8 (by omega) (by first | omega) (by first | (intro h9; exfalso; omega) | exact fun h9 => oqNo6_nx (j := x4.toNatClampNeg) (iv11 (by omega)) (by omega) (by omega) (fun h7 => by have h8 := hne.mpr h7; omega) | exact fun _ => oqNo6_0 (by omega)) (by omega) (by omega) iv14 iv15 iv16 iv17 iv18 (by omega)
            · skip
              have htk : oqTkn g (oqSk g h) N M := ⟨x4.toNatClampNeg, by omega, hne.mp (by omega)⟩
              have hm3 := oqM_3 (g := g) (h := h) (M := M) (N := N) (by omega) (by omega) (by omega) htk
              refine r_aload_n C (j := 0) (oDec_at oX12_mottoTold 40 rfl) rfl rfl ?_
              refine r_iconst C (oDec_at oX12_mottoTold 41 rfl) (v := k3) (by rw [qk3]; rfl) ?_
              refine r_aload_n C (j := 0) (oDec_at oX12_mottoTold 42 rfl) rfl rfl ?_
              obtain ⟨v59, ev59⟩ : ∃ z : Int32, (t).1 71 36 = z := ⟨_, rfl⟩
              have gv59 : (t.1 71 36).toInt = v59.toInt := congrArg Int32.toInt (ev59)
              have rv59 := n_rng v59
              refine r_geti (k := 36) (lo := (-2147483648)) (hi := 2147483647) C v59 oCl12 rfl (by decide) flX12_224 rfl rfl (ev59) rfl rfl (oDec_at oX12_mottoTold 43 rfl) (fun _ _ => ?_)
              have lk60 : ((t).1 71 5).toInt = v47.toInt := congrArg Int32.toInt (ev47)
              have lk61 : ((t).1 71 5).toInt = v47.toInt := congrArg Int32.toInt (ev47)
              refine r_callVv C oCl12 rfl miX12_fail mlX12_203 (ct7_X12_fail l E (t) k3 v59 (by omega) iv14) (by decide) rfl rfl rfl (Nat.le_of_ble_eq_true rfl) (oDec_at oX12_mottoTold 44 rfl) (fun u62 pu62 fu62 => ?_)
              try dsimp only at pu62
              try simp only [lk60, lk61] at pu62
              obtain ⟨pu62_0, pu62_1, pu62_2⟩ := pu62
              obtain ⟨v64, ev64⟩ : ∃ z : Int32, x4 + Int32.ofInt 1 = z := ⟨_, rfl⟩
              have hv64 : v64.toInt = x4.toInt + 1 := n_inc ev64 (by decide) (by omega) (by omega)
              refine r_iinc C (j := 2) (lv' := [(0, .ref (oad E 71)), (2, .long x2), (4, .int v64)]) v64 [1, 2, 0] (oDec_at oX12_mottoTold 45 rfl) rfl ev64 (by decide) rfl ?_
              refine r_pc C 85 rfl ?_
              refine r_goto C (tgt := 40) (oDec_at oX12_mottoTold 46 rfl) (by decide) ?_
              have lc65 : ((u62).1 104 3).toInt = (t.1 104 3).toInt := congrArg Int32.toInt ((fu62 104 3 rfl).1)
              have lk66 : ((u62).1 71 45).toInt = (t.1 71 45).toInt := congrArg Int32.toInt ((fu62 71 45 rfl).1)
              have lk67 : ((u62).1 71 2).toInt = (t.1 71 2).toInt := congrArg Int32.toInt ((fu62 71 2 rfl).1)
              have lk68 : ((u62).1 71 2).toInt = (t.1 71 2).toInt := congrArg Int32.toInt ((fu62 71 2 rfl).1)
              have lc69 : ((u62).1 104 3).toInt = (t.1 104 3).toInt := congrArg Int32.toInt ((fu62 104 3 rfl).1)
              have lc70 : ((u62).1 104 2).toInt = (t.1 104 2).toInt := congrArg Int32.toInt ((fu62 104 2 rfl).1)
              have lk71 : ((u62).1 71 2).toInt = (t.1 71 2).toInt := congrArg Int32.toInt ((fu62 71 2 rfl).1)
              have lk72 : ((u62).1 71 4).toInt = (t.1 71 4).toInt := congrArg Int32.toInt ((fu62 71 4 rfl).1)
              have lk73 : ((u62).1 71 36).toInt = v59.toInt := congrArg Int32.toInt (((fu62 71 36 rfl).1).trans (ev59))
              exact (ih (n - 1) (by omega)) (u62) x2 v64  (oBB_frb fu62 rfl (by omega) iv0) (by omega) (by omega) (by omega) (by omega) (oqZ_fr fu62 rfl iv5) (oqWd_fr fu62 rfl iv6) (by omega) (oqNR_fr fu62 rfl iv8) (by omega) (by first | omega | (by_cases h9 : ((u62).1 71 5).toInt = 0; (have h8 := pu62_1 h9; left; omega); (have h8 := pu62_2 h9; rcases h8 with ⟨h7, h6 | h6 | h6⟩; (have hm := oqM_1 (g := g) (h := h) (M := M) (N := N) (by omega); right; omega); (have hm := oqM_1 (g := g) (h := h) (M := M) (N := N) (by omega); right; omega); (have hm := oqM_2 (g := g) (h := h) (M := M) (N := N) (by omega) (by omega) (by omega); right; omega)))) (by first | (intro h9; exfalso; omega) | exact fun h9 => oqNo6_nx (j := x4.toNatClampNeg) (iv11 (by omega)) (by omega) (by omega) (fun h7 => by have h8 := hne.mpr h7; omega) | exact fun _ => oqNo6_0 (by omega)) (by omega) (by omega) pu62_2 (owYl_frb fu62 rfl (by omega) iv15) (owRB_fr fu62 rfl iv16) (owC0_fr fu62 rfl iv17) (owLw_fr fu62 rfl iv18) (by omega)
  refine r_aload_n C (j := 0) (oDec_at oX12_mottoTold 0 rfl) rfl rfl ?_
  obtain ⟨v74, ev74⟩ : ∃ z : Int32, (s).1 71 5 = z := ⟨_, rfl⟩
  have gv74 : (s.1 71 5).toInt = v74.toInt := congrArg Int32.toInt (ev74)
  have rv74 := n_rng v74
  refine r_geti (k := 5) (lo := (-2147483648)) (hi := 2147483647) C v74 oCl12 rfl (by decide) flX12_173 rfl rfl (ev74) rfl rfl (oDec_at oX12_mottoTold 1 rfl) (fun _ _ => ?_)
  refine r_if_ne C 24 (oDec_at oX12_mottoTold 2 rfl) (by decide) (fun cd75 => ?_) (fun cd75 => ?_)
  · skip
    refine r_aload_n C (j := 0) (oDec_at oX12_mottoTold 13 rfl) rfl rfl ?_
    refine r_geti (k := 5) (lo := (-2147483648)) (hi := 2147483647) C v74 oCl12 rfl (by decide) flX12_173 rfl rfl (ev74) rfl rfl (oDec_at oX12_mottoTold 14 rfl) (fun _ _ => ?_)
    refine r_if_eq C 32 (oDec_at oX12_mottoTold 15 rfl) (by decide) (fun cd76 => ?_) (fun cd76 => ?_)
    · omega
    · skip
      have lk77 : ((s).1 71 5).toInt = v74.toInt := congrArg Int32.toInt (ev74)
      have lk78 : ((s).1 71 5).toInt = v74.toInt := congrArg Int32.toInt (ev74)
      have lk79 : ((s).1 71 5).toInt = v74.toInt := congrArg Int32.toInt (ev74)
      have lk80 : ((s).1 71 5).toInt = v74.toInt := congrArg Int32.toInt (ev74)
      have lk81 : ((s).1 71 5).toInt = v74.toInt := congrArg Int32.toInt (ev74)
      have lk82 : ((s).1 71 5).toInt = v74.toInt := congrArg Int32.toInt (ev74)
      exact r_vret C (oDec_at oX12_mottoTold 16 rfl) ⟨rfl, ⟨hp0, by omega, by omega, by omega, by omega, by omega, fun h9 => by exfalso; omega, fun h9 => by exfalso; omega, by omega, hp9, hp15, hp16, by intro h9; exfalso; omega⟩⟩
  · skip
    refine r_aload_n C (j := 0) (oDec_at oX12_mottoTold 3 rfl) rfl rfl ?_
    refine r_getF (k := 49) (b := 104) C oCl12 rfl (by decide) flX12_114 rfl rfl rfl (oDec_at oX12_mottoTold 4 rfl) ?_
    refine r_iconst C (oDec_at oX12_mottoTold 5 rfl) (v := k3) (by rw [qk3]; rfl) ?_
    obtain ⟨v84, ev84⟩ : ∃ z : Int32, (s).1 104 k3.toNatClampNeg = z := ⟨_, rfl⟩
    have gv84 : (s.1 104 k3.toNatClampNeg).toInt = v84.toInt := congrArg Int32.toInt (ev84)
    refine r_iald (n := 4) (lo := 0) (hi := 12) C v84 rfl (by decide) rfl rfl ⟨by omega, by omega⟩ (by decide) ev84 rfl rfl (oDec_at oX12_mottoTold 6 rfl) (fun b83 b83h => ?_)
    have hix := oIxM (i := k3) ev84
    refine r_bipush C (oDec_at oX12_mottoTold 7 rfl) (v := k6) (by rw [qk6]; rfl) ?_
    refine r_icmp_ne C 24 (oDec_at oX12_mottoTold 8 rfl) (by decide) (fun cd85 => ?_) (fun cd85 => ?_)
    · skip
      refine r_aload_n C (j := 0) (oDec_at oX12_mottoTold 13 rfl) rfl rfl ?_
      refine r_geti (k := 5) (lo := (-2147483648)) (hi := 2147483647) C v74 oCl12 rfl (by decide) flX12_173 rfl rfl (ev74) rfl rfl (oDec_at oX12_mottoTold 14 rfl) (fun _ _ => ?_)
      refine r_if_eq C 32 (oDec_at oX12_mottoTold 15 rfl) (by decide) (fun cd86 => ?_) (fun cd86 => ?_)
      · skip
        refine r_aload_n C (j := 0) (oDec_at oX12_mottoTold 17 rfl) rfl rfl ?_
        have lk87 : ((s).1 71 5).toInt = v74.toInt := congrArg Int32.toInt (ev74)
        refine r_callVl C oCl12 rfl miX12_name mlX12_340 (ct7_X12_name l E (s)  (g) (h) (by omega) (by omega) hp10 (by omega) hp11 (by omega) hp9) (by decide) rfl rfl rfl (Nat.le_of_ble_eq_true rfl) (oDec_at oX12_mottoTold 18 rfl) (fun r89 u88 pu88 fu88 => ?_)
        try dsimp only at pu88
        try simp only [lk87] at pu88
        obtain ⟨pu88_0, pu88_1, pu88_2, pu88_3⟩ := pu88
        refine r_lstore_n C (lv' := [(0, .ref (oad E 71)), (1, .int a1), (2, .long r89)]) [1, 2, 0] (oDec_at oX12_mottoTold 19 rfl) rfl (by decide) rfl ?_
        refine r_iconst C (oDec_at oX12_mottoTold 20 rfl) (v := k0) (by rw [qk0]; rfl) ?_
        refine r_istore C (lv' := [(0, .ref (oad E 71)), (1, .int a1), (2, .long r89), (4, .int k0)]) [1, 2, 3, 0] (oDec_at oX12_mottoTold 21 rfl) (by decide) rfl ?_
        have lc90 : ((u88).1 104 3).toInt = (s.1 104 3).toInt := congrArg Int32.toInt ((fu88 104 3 rfl).1)
        have lk91 : ((u88).1 71 45).toInt = (s.1 71 45).toInt := congrArg Int32.toInt ((fu88 71 45 rfl).1)
        have lc92 : ((u88).1 104 3).toInt = (s.1 104 3).toInt := congrArg Int32.toInt ((fu88 104 3 rfl).1)
        have lc93 : ((u88).1 104 2).toInt = (s.1 104 2).toInt := congrArg Int32.toInt ((fu88 104 2 rfl).1)
        refine r_pick C [0, 2, 3] rfl ?_
        exact (key (20 - k0.toInt).toNat) (u88) r89 k0  (oBB_frb fu88 rfl (by omega) hp0) (by omega) (by omega) (by omega) (by omega) (oqZ_fr fu88 rfl hp10) (oqWd_fr fu88 rfl hp11) (by omega) (oqNR_fr fu88 rfl hp7) (by omega) (by first | omega | (by_cases h9 : ((u88).1 71 5).toInt = 0; (have h8 := pu88_1 h9; left; omega); (have h8 := pu88_2 h9; rcases h8 with ⟨h7, h6 | h6 | h6⟩; (have hm := oqM_1 (g := g) (h := h) (M := M) (N := N) (by omega); right; omega); (have hm := oqM_1 (g := g) (h := h) (M := M) (N := N) (by omega); right; omega); (have hm := oqM_2 (g := g) (h := h) (M := M) (N := N) (by omega) (by omega) (by omega); right; omega)))) (by first | (intro h9; exfalso; omega) | exact fun _ => oqNo6_0 (by omega)) (by omega) (by omega) pu88_3 (owYl_frb fu88 rfl (by omega) hp12) (owRB_fr fu88 rfl hp13) (owC0_fr fu88 rfl hp15) (owLw_fr fu88 rfl hp16) (by omega)
      · omega
    · skip
      refine r_aload_n C (j := 0) (oDec_at oX12_mottoTold 9 rfl) rfl rfl ?_
      refine r_iconst C (oDec_at oX12_mottoTold 10 rfl) (v := k5) (by rw [qk5]; rfl) ?_
      refine r_iload_n C (j := 1) (oDec_at oX12_mottoTold 11 rfl) rfl rfl ?_
      have lk94 : ((s).1 71 5).toInt = v74.toInt := congrArg Int32.toInt (ev74)
      have lk95 : ((s).1 71 5).toInt = v74.toInt := congrArg Int32.toInt (ev74)
      refine r_callVv C oCl12 rfl miX12_fail mlX12_203 (ct7_X12_fail l E (s) k5 a1 (by omega) hp9) (by decide) rfl rfl rfl (Nat.le_of_ble_eq_true rfl) (oDec_at oX12_mottoTold 12 rfl) (fun u96 pu96 fu96 => ?_)
      try dsimp only at pu96
      try simp only [lk94, lk95] at pu96
      obtain ⟨pu96_0, pu96_1, pu96_2⟩ := pu96
      refine r_aload_n C (j := 0) (oDec_at oX12_mottoTold 13 rfl) rfl rfl ?_
      obtain ⟨v98, ev98⟩ : ∃ z : Int32, (u96).1 71 5 = z := ⟨_, rfl⟩
      have gv98 : (u96.1 71 5).toInt = v98.toInt := congrArg Int32.toInt (ev98)
      have rv98 := n_rng v98
      refine r_geti (k := 5) (lo := (-2147483648)) (hi := 2147483647) C v98 oCl12 rfl (by decide) flX12_173 rfl rfl (ev98) rfl rfl (oDec_at oX12_mottoTold 14 rfl) (fun _ _ => ?_)
      refine r_pc C 28 rfl ?_
      refine r_if_eq C 32 (oDec_at oX12_mottoTold 15 rfl) (by decide) (fun cd99 => ?_) (fun cd99 => ?_)
      · skip
        refine r_aload_n C (j := 0) (oDec_at oX12_mottoTold 17 rfl) rfl rfl ?_
        have lk100 : ((u96).1 71 2).toInt = (s.1 71 2).toInt := congrArg Int32.toInt ((fu96 71 2 rfl).1)
        have lk101 : ((u96).1 71 4).toInt = (s.1 71 4).toInt := congrArg Int32.toInt ((fu96 71 4 rfl).1)
        have lk102 : ((u96).1 71 5).toInt = v98.toInt := congrArg Int32.toInt (ev98)
        have lk103 : ((u96).1 71 2).toInt = (s.1 71 2).toInt := congrArg Int32.toInt ((fu96 71 2 rfl).1)
        refine r_callVl C oCl12 rfl miX12_name mlX12_340 (ct7_X12_name l E (u96)  (g) (h) (by omega) (by omega) (oqZ_fr fu96 rfl hp10) (by omega) (oqWd_fr fu96 rfl hp11) (by omega) pu96_2) (by decide) rfl rfl rfl (Nat.le_of_ble_eq_true rfl) (oDec_at oX12_mottoTold 18 rfl) (fun r105 u104 pu104 fu104 => ?_)
        try dsimp only at pu104
        try simp only [lk100, lk101, lk102, lk103] at pu104
        obtain ⟨pu104_0, pu104_1, pu104_2, pu104_3⟩ := pu104
        refine r_lstore_n C (lv' := [(0, .ref (oad E 71)), (1, .int a1), (2, .long r105)]) [1, 2, 0] (oDec_at oX12_mottoTold 19 rfl) rfl (by decide) rfl ?_
        refine r_iconst C (oDec_at oX12_mottoTold 20 rfl) (v := k0) (by rw [qk0]; rfl) ?_
        refine r_istore C (lv' := [(0, .ref (oad E 71)), (1, .int a1), (2, .long r105), (4, .int k0)]) [1, 2, 3, 0] (oDec_at oX12_mottoTold 21 rfl) (by decide) rfl ?_
        have lc106 : ((u104).1 104 3).toInt = (s.1 104 3).toInt := congrArg Int32.toInt (((fu104 104 3 rfl).1).trans ((fu96 104 3 rfl).1))
        have lk107 : ((u104).1 71 45).toInt = (s.1 71 45).toInt := congrArg Int32.toInt (((fu104 71 45 rfl).1).trans ((fu96 71 45 rfl).1))
        have lc108 : ((u104).1 104 3).toInt = (s.1 104 3).toInt := congrArg Int32.toInt (((fu104 104 3 rfl).1).trans ((fu96 104 3 rfl).1))
        have lc109 : ((u104).1 104 2).toInt = (s.1 104 2).toInt := congrArg Int32.toInt (((fu104 104 2 rfl).1).trans ((fu96 104 2 rfl).1))
        refine r_pick C [0, 2, 3] rfl ?_
        exact (key (20 - k0.toInt).toNat) (u104) r105 k0  (oBB_frb fu104 rfl (by omega) (oBB_frb fu96 rfl (by omega) hp0)) (by omega) (by omega) (by omega) (by omega) (oqZ_fr fu104 rfl (oqZ_fr fu96 rfl hp10)) (oqWd_fr fu104 rfl (oqWd_fr fu96 rfl hp11)) (by omega) (oqNR_fr fu104 rfl (oqNR_fr fu96 rfl hp7)) (by omega) (by first | omega | (by_cases h9 : ((u104).1 71 5).toInt = 0; (have h8 := pu104_1 h9; left; omega); (have h8 := pu104_2 h9; rcases h8 with ⟨h7, h6 | h6 | h6⟩; (have hm := oqM_1 (g := g) (h := h) (M := M) (N := N) (by omega); right; omega); (have hm := oqM_1 (g := g) (h := h) (M := M) (N := N) (by omega); right; omega); (have hm := oqM_2 (g := g) (h := h) (M := M) (N := N) (by omega) (by omega) (by omega); right; omega)))) (by first | (intro h9; exfalso; omega) | exact fun _ => oqNo6_0 (by omega)) (by omega) (by omega) pu104_3 (owYl_frb fu104 rfl (by omega) (owYl_frb fu96 rfl (by omega) hp12)) (owRB_fr fu104 rfl (owRB_fr fu96 rfl hp13)) (owC0_fr fu104 rfl (owC0_fr fu96 rfl hp15)) (owLw_fr fu104 rfl (owLw_fr fu96 rfl hp16)) (by omega)
      · skip
        have lk110 : ((u96).1 71 5).toInt = v98.toInt := congrArg Int32.toInt (ev98)
        have lk111 : ((u96).1 71 45).toInt = (s.1 71 45).toInt := congrArg Int32.toInt ((fu96 71 45 rfl).1)
        have lk112 : ((u96).1 71 2).toInt = (s.1 71 2).toInt := congrArg Int32.toInt ((fu96 71 2 rfl).1)
        have lc113 : ((u96).1 104 3).toInt = (s.1 104 3).toInt := congrArg Int32.toInt ((fu96 104 3 rfl).1)
        have lk114 : ((u96).1 71 2).toInt = (s.1 71 2).toInt := congrArg Int32.toInt ((fu96 71 2 rfl).1)
        have lk115 : ((u96).1 71 5).toInt = v98.toInt := congrArg Int32.toInt (ev98)
        have lk116 : ((u96).1 71 5).toInt = v98.toInt := congrArg Int32.toInt (ev98)
        have lk117 : ((u96).1 71 5).toInt = v98.toInt := congrArg Int32.toInt (ev98)
        have lc118 : ((u96).1 104 3).toInt = (s.1 104 3).toInt := congrArg Int32.toInt ((fu96 104 3 rfl).1)
        have lc119 : ((u96).1 104 2).toInt = (s.1 104 2).toInt := congrArg Int32.toInt ((fu96 104 2 rfl).1)
        have lk120 : ((u96).1 71 5).toInt = v98.toInt := congrArg Int32.toInt (ev98)
        have lk121 : ((u96).1 71 5).toInt = v98.toInt := congrArg Int32.toInt (ev98)
        exact r_vret C (oDec_at oX12_mottoTold 16 rfl) ⟨rfl, ⟨(oBB_frb fu96 rfl (by omega) hp0), by omega, by omega, by omega, by omega, by omega, fun h9 => by exfalso; omega, fun h9 => by exfalso; omega, by omega, pu96_2, (owC0_fr fu96 rfl hp15), (owLw_fr fu96 rfl hp16), by intro h9; exfalso; omega⟩⟩
