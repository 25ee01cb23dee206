set_option maxHeartbeats 4000000 in
set_option maxRecDepth 100000 in
theorem ct9_X12_lay (l : Launch) (E : oE) (s : oS) (a1 : Int32) (Cq : Nat → Int32) (hp0 : (s.1 71 45).toInt ≤ 1599) (hp1 : owC0 Cq s) : oMet l 1 yX12_lay cX12_lay 2 none [(12, 45), (78, 9999)] E s [.ref (oad E 71), .int a1] (oPv (fun u => (oLay s a1 u) ∧ ((u.1 71 45).toInt = (s.1 71 45).toInt + 1) ∧ (owC0 Cq u))) := by
  refine oMet.of (lv := [(0, .ref (oad E 71)), (1, .int a1)]) (by decide +kernel) (Nat.le_of_ble_eq_true rfl) rfl (fun J C hT => ?_)
  have C : oC l 1 cX12_lay RX12 2 none [(12, 45), (78, 9999)] E s (oPv (fun u => (oLay s a1 u) ∧ ((u.1 71 45).toInt = (s.1 71 45).toInt + 1) ∧ (owC0 Cq u))) J := C
  obtain ⟨k1, qk1⟩ : ∃ z : Int32, z = 1 := ⟨_, rfl⟩
  have ek1 : k1.toInt = 1 := by rw [qk1]; rfl
  obtain ⟨k1600, qk1600⟩ : ∃ z : Int32, z = 1600 := ⟨_, rfl⟩
  have ek1600 : k1600.toInt = 1600 := by rw [qk1600]; rfl
  have rg1 := n_rng a1
  refine r_aload_n C (j := 0) (oDec_at oX12_lay 0 rfl) rfl rfl ?_
  refine r_getF (k := 44) (b := 102) C oCl12 rfl (by decide) flX12_108 rfl rfl rfl (oDec_at oX12_lay 1 rfl) ?_
  refine r_sipush C (oDec_at oX12_lay 2 rfl) (v := k1600) (by rw [qk1600]; rfl) ?_
  refine r_aload_n C (j := 0) (oDec_at oX12_lay 3 rfl) rfl rfl ?_
  obtain ⟨v1, ev1⟩ : ∃ z : Int32, (s).1 71 45 = z := ⟨_, rfl⟩
  have gv1 : (s.1 71 45).toInt = v1.toInt := congrArg Int32.toInt (ev1)
  refine r_geti (k := 45) (lo := 0) (hi := 1600) C v1 oCl12 rfl (by decide) flX12_234 rfl rfl (ev1) rfl rfl (oDec_at oX12_lay 4 rfl) (fun b2 b2h => ?_)
  obtain ⟨v3, ev3⟩ : ∃ z : Int32, z = k1600 + v1 := ⟨_, rfl⟩
  have hv3 : v3.toInt = k1600.toInt + v1.toInt := n_add ev3 (by omega) (by omega)
  refine r_iadd C v3 (oDec_at oX12_lay 5 rfl) ev3 ?_
  refine r_pc C 12 rfl ?_
  refine r_iload_n C (j := 1) (oDec_at oX12_lay 6 rfl) rfl rfl ?_
  refine r_iast (n := 3200) (lo := (-2147483648)) (hi := 2147483647) C rfl (by decide) rfl rfl ⟨by omega, by omega⟩ (by decide) rfl rfl rfl rfl (n_rng _) (oDec_at oX12_lay 7 rfl) ?_
  have hq4 : owC0 Cq ((pI s 102 v3.toNatClampNeg a1)) := owC0_pu hp1 (by omega)
  refine r_aload_n C (j := 0) (oDec_at oX12_lay 8 rfl) rfl rfl ?_
  refine r_dup C (oDec_at oX12_lay 9 rfl) rfl ?_
  refine r_geti (k := 45) (lo := 0) (hi := 1600) C v1 oCl12 rfl (by decide) flX12_234 rfl rfl (((pI_ne (a := 71) (b := 45) (c := 102) _ _ (Or.inl (by decide)))).trans (ev1)) rfl rfl (oDec_at oX12_lay 10 rfl) (fun _ _ => ?_)
  refine r_iconst C (oDec_at oX12_lay 11 rfl) (v := k1) (by rw [qk1]; rfl) ?_
  refine r_pc C 20 rfl ?_
  obtain ⟨v5, ev5⟩ : ∃ z : Int32, z = v1 + k1 := ⟨_, rfl⟩
  have hv5 : v5.toInt = v1.toInt + k1.toInt := n_add ev5 (by omega) (by omega)
  refine r_iadd C v5 (oDec_at oX12_lay 12 rfl) ev5 ?_
  refine r_puti (k := 45) (lo := 0) (hi := 1600) C oCl12 rfl (by decide) flX12_234 rfl rfl rfl rfl rfl rfl rfl rfl ⟨by omega, by omega⟩ (oDec_at oX12_lay 13 rfl) ?_
  have lk6 : (((pI (pI s 102 v3.toNatClampNeg a1) 71 45 v5)).1 71 45).toInt = v5.toInt := congrArg Int32.toInt ((pI_self _ _ _ _))
  exact r_vret C (oDec_at oX12_lay 14 rfl) ⟨rfl, ⟨oLay_of (by assumption) (by omega) (by omega) (by omega), by omega, (owC0_fr (oFr_oneI (q := 12) (m := 45) rfl (by rfl)) rfl hq4)⟩⟩
set_option maxHeartbeats 4000000 in
set_option maxRecDepth 100000 in
theorem ct9_X12_drops (l : Launch) (E : oE) (s : oS)  (Cq : Nat → Int32) (hp0 : 1 ≤ (s.1 71 47).toInt) (hp1 : (s.1 71 45).toInt ≤ 1599) (hp2 : owC0 Cq s) : oMet l 2 yX12_drops cX12_drops 1 none [(12, 45), (12, 47), (78, 9999)] E s [.ref (oad E 71)] (oPv (fun u => (oDrop s u) ∧ ((u.1 71 47).toInt = (s.1 71 47).toInt - 1) ∧ ((u.1 71 45).toInt = (s.1 71 45).toInt + 1) ∧ (owC0 Cq u))) := by
  refine oMet.of (lv := [(0, .ref (oad E 71))]) (by decide +kernel) (Nat.le_of_ble_eq_true rfl) rfl (fun J C hT => ?_)
  have C : oC l 2 cX12_drops RX12 1 none [(12, 45), (12, 47), (78, 9999)] E s (oPv (fun u => (oDrop s u) ∧ ((u.1 71 47).toInt = (s.1 71 47).toInt - 1) ∧ ((u.1 71 45).toInt = (s.1 71 45).toInt + 1) ∧ (owC0 Cq u))) J := C
  obtain ⟨k1, qk1⟩ : ∃ z : Int32, z = 1 := ⟨_, rfl⟩
  have ek1 : k1.toInt = 1 := by rw [qk1]; rfl
  refine r_aload_n C (j := 0) (oDec_at oX12_drops 0 rfl) rfl rfl ?_
  refine r_dup C (oDec_at oX12_drops 1 rfl) rfl ?_
  obtain ⟨v1, ev1⟩ : ∃ z : Int32, (s).1 71 47 = z := ⟨_, rfl⟩
  have gv1 : (s.1 71 47).toInt = v1.toInt := congrArg Int32.toInt (ev1)
  refine r_geti (k := 47) (lo := 0) (hi := 1700) C v1 oCl12 rfl (by decide) flX12_277 rfl rfl (ev1) rfl rfl (oDec_at oX12_drops 2 rfl) (fun b2 b2h => ?_)
  refine r_iconst C (oDec_at oX12_drops 3 rfl) (v := k1) (by rw [qk1]; rfl) ?_
  obtain ⟨v3, ev3⟩ : ∃ z : Int32, z = v1 - k1 := ⟨_, rfl⟩
  have hv3 : v3.toInt = v1.toInt - k1.toInt := n_sub ev3 (by omega) (by omega)
  refine r_isub C v3 (oDec_at oX12_drops 4 rfl) ev3 ?_
  refine r_puti (k := 47) (lo := 0) (hi := 1700) C oCl12 rfl (by decide) flX12_277 rfl rfl rfl rfl rfl rfl rfl rfl ⟨by omega, by omega⟩ (oDec_at oX12_drops 5 rfl) ?_
  refine r_pc C 10 rfl ?_
  refine r_aload_n C (j := 0) (oDec_at oX12_drops 6 rfl) rfl rfl ?_
  refine r_aload_n C (j := 0) (oDec_at oX12_drops 7 rfl) rfl rfl ?_
  refine r_getF (k := 46) (b := 103) C oCl12 rfl (by decide) flX12_111 rfl rfl rfl (oDec_at oX12_drops 8 rfl) ?_
  refine r_aload_n C (j := 0) (oDec_at oX12_drops 9 rfl) rfl rfl ?_
  refine r_geti (k := 47) (lo := 0) (hi := 1700) C v3 oCl12 rfl (by decide) flX12_277 rfl rfl ((pI_self _ _ _ _)) rfl rfl (oDec_at oX12_drops 10 rfl) (fun _ _ => ?_)
  obtain ⟨v5, ev5⟩ : ∃ z : Int32, ((pI s 71 47 v3)).1 103 v3.toNatClampNeg = z := ⟨_, rfl⟩
  have av5 : s.1 103 v3.toNatClampNeg = v5 := ((pI_ne (a := 103) (b := v3.toNatClampNeg) (c := 71) _ _ (Or.inl (by decide)))).symm.trans ev5
  have gv5 : (s.1 103 v3.toNatClampNeg).toInt = v5.toInt := congrArg Int32.toInt (((pI_ne (a := 103) (b := v3.toNatClampNeg) (c := 71) _ _ (Or.inl (by decide)))).symm.trans ev5)
  have rv5 := n_rng v5
  refine r_iald (n := 1700) (lo := (-2147483648)) (hi := 2147483647) C v5 rfl (by decide) rfl rfl ⟨by omega, by omega⟩ (by decide) ev5 rfl rfl (oDec_at oX12_drops 11 rfl) (fun _ _ => ?_)
  refine r_pc C 20 rfl ?_
  have lk6 : (((pI s 71 47 v3)).1 71 45).toInt = (s.1 71 45).toInt := congrArg Int32.toInt ((pI_ne (a := 71) (b := 45) (c := 71) (k := 47) _ _ (Or.inr (by decide))))
  have lk7 : (((pI s 71 47 v3)).1 71 45).toInt = (s.1 71 45).toInt := congrArg Int32.toInt ((pI_ne (a := 71) (b := 45) (c := 71) (k := 47) _ _ (Or.inr (by decide))))
  refine r_callVv C oCl12 rfl miX12_lay mlX12_280 (ct9_X12_lay l E ((pI s 71 47 v3)) v5 (Cq) (by omega) (owC0_fr (oFr_oneI (q := 12) (m := 47) rfl (by rfl)) rfl hp2)) (by decide) rfl rfl rfl (Nat.le_of_ble_eq_true rfl) (oDec_at oX12_drops 12 rfl) (fun u8 pu8 fu8 => ?_)
  try dsimp only at pu8
  try simp only [lk6, lk7] at pu8
  obtain ⟨pu8_0, pu8_1, pu8_2⟩ := pu8
  have lk10 : ((u8).1 71 47).toInt = v3.toInt := congrArg Int32.toInt (((fu8 71 47 rfl).1).trans ((pI_self _ _ _ _)))
  exact r_vret C (oDec_at oX12_drops 13 rfl) ⟨rfl, ⟨oDrop_of (by omega) (by assumption) pu8_0, by omega, by omega, pu8_2⟩⟩
