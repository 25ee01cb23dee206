set_option maxHeartbeats 4000000 in
set_option maxRecDepth 100000 in
theorem ct_X12_lay (l : Launch) (E : oE) (s : oS) (a1 : Int32)  (hp0 : (s.1 71 45).toInt ≤ 1599) : oMet l 1 yX12_lay cX12_lay 2 none [(12, 45), (78, 9999)] E s [.ref (oad E 71), .int a1] (oPv (fun u => (oLay s a1 u) ∧ ((u.1 71 45).toInt = (s.1 71 45).toInt + 1))) := by
  refine oMet.of (lv := [(0, .ref (oad E 71)), (1, .int a1)]) (by decide +kernel) (Nat.le_of_ble_eq_true rfl) rfl (fun J C hT => ?_)
  have C : oC l 1 cX12_lay RX12 2 none [(12, 45), (78, 9999)] E s (oPv (fun u => (oLay s a1 u) ∧ ((u.1 71 45).toInt = (s.1 71 45).toInt + 1))) J := C
  obtain ⟨k1, qk1⟩ : ∃ z : Int32, z = 1 := ⟨_, rfl⟩
  have ek1 : k1.toInt = 1 := by rw [qk1]; rfl
  obtain ⟨k1600, qk1600⟩ : ∃ z : Int32, z = 1600 := ⟨_, rfl⟩
  have ek1600 : k1600.toInt = 1600 := by rw [qk1600]; rfl
  have rg1 := n_rng a1
  refine r_aload_n C (j := 0) (oDec_at oX12_lay 0 rfl) rfl rfl ?_
  refine r_getF (k := 44) (b := 102) C oCl12 rfl (by decide) flX12_108 rfl rfl rfl (oDec_at oX12_lay 1 rfl) ?_
  refine r_sipush C (oDec_at oX12_lay 2 rfl) (v := k1600) (by rw [qk1600]; rfl) ?_
  refine r_aload_n C (j := 0) (oDec_at oX12_lay 3 rfl) rfl rfl ?_
  obtain ⟨v1, ev1⟩ : ∃ z : Int32, (s).1 71 45 = z := ⟨_, rfl⟩
  have gv1 : (s.1 71 45).toInt = v1.toInt := congrArg Int32.toInt (ev1)
  refine r_geti (k := 45) (lo := 0) (hi := 1600) C v1 oCl12 rfl (by decide) flX12_234 rfl rfl (ev1) rfl rfl (oDec_at oX12_lay 4 rfl) (fun b2 b2h => ?_)
  obtain ⟨v3, ev3⟩ : ∃ z : Int32, z = k1600 + v1 := ⟨_, rfl⟩
  have hv3 : v3.toInt = k1600.toInt + v1.toInt := n_add ev3 (by omega) (by omega)
  refine r_iadd C v3 (oDec_at oX12_lay 5 rfl) ev3 ?_
  refine r_pc C 12 rfl ?_
  refine r_iload_n C (j := 1) (oDec_at oX12_lay 6 rfl) rfl rfl ?_
  refine r_iast (n := 3200) (lo := (-2147483648)) (hi := 2147483647) C rfl (by decide) rfl rfl ⟨by omega, by omega⟩ (by decide) rfl rfl rfl rfl (n_rng _) (oDec_at oX12_lay 7 rfl) ?_
  refine r_aload_n C (j := 0) (oDec_at oX12_lay 8 rfl) rfl rfl ?_
  refine r_dup C (oDec_at oX12_lay 9 rfl) rfl ?_
  refine r_geti (k := 45) (lo := 0) (hi := 1600) C v1 oCl12 rfl (by decide) flX12_234 rfl rfl (((pI_ne (a := 71) (b := 45) (c := 102) _ _ (Or.inl (by decide)))).trans (ev1)) rfl rfl (oDec_at oX12_lay 10 rfl) (fun _ _ => ?_)
  refine r_iconst C (oDec_at oX12_lay 11 rfl) (v := k1) (by rw [qk1]; rfl) ?_
  refine r_pc C 20 rfl ?_
  obtain ⟨v4, ev4⟩ : ∃ z : Int32, z = v1 + k1 := ⟨_, rfl⟩
  have hv4 : v4.toInt = v1.toInt + k1.toInt := n_add ev4 (by omega) (by omega)
  refine r_iadd C v4 (oDec_at oX12_lay 12 rfl) ev4 ?_
  refine r_puti (k := 45) (lo := 0) (hi := 1600) C oCl12 rfl (by decide) flX12_234 rfl rfl rfl rfl rfl rfl rfl rfl ⟨by omega, by omega⟩ (oDec_at oX12_lay 13 rfl) ?_
  have lk5 : (((pI (pI s 102 v3.toNatClampNeg a1) 71 45 v4)).1 71 45).toInt = v4.toInt := congrArg Int32.toInt ((pI_self _ _ _ _))
  exact r_vret C (oDec_at oX12_lay 14 rfl) ⟨rfl, ⟨oLay_of (by assumption) (by omega) (by omega) (by omega), by omega⟩⟩
set_option maxHeartbeats 4000000 in
set_option maxRecDepth 100000 in
theorem ct_X12_opens (l : Launch) (E : oE) (s : oS) (a1 : Int32) (a2 : Int32)  (hp0 : (s.1 71 47).toInt ≤ 1699) (hp1 : 0 ≤ (s.1 71 48).toInt ∧ (s.1 71 48).toInt ≤ 6) : oMet l 2 yX12_opens cX12_opens 3 none [(12, 5), (12, 6), (12, 47), (12, 48), (79, 9999)] E s [.ref (oad E 71), .int a1, .int a2] (oPv (fun u => (((s.1 71 48).toInt ≤ 5 ∧ (u.1 71 48).toInt = (s.1 71 48).toInt + 1 ∧ (u.1 71 47).toInt = (s.1 71 47).toInt + 1 ∧ (u.1 71 5).toInt = (s.1 71 5).toInt) ∨ ((u.1 71 48).toInt = (s.1 71 48).toInt ∧ (u.1 71 47).toInt = (s.1 71 47).toInt ∧ (u.1 71 5).toInt ≠ 0)) ∧ ((u.1 71 5).toInt = 0 → oOpn s a1 u) ∧ ((u.1 71 5).toInt = 0 → (s.1 71 5).toInt = 0))) := by
  refine oMet.of (lv := [(0, .ref (oad E 71)), (1, .int a1), (2, .int a2)]) (by decide +kernel) (Nat.le_of_ble_eq_true rfl) rfl (fun J C hT => ?_)
  have C : oC l 2 cX12_opens RX12 3 none [(12, 5), (12, 6), (12, 47), (12, 48), (79, 9999)] E s (oPv (fun u => (((s.1 71 48).toInt ≤ 5 ∧ (u.1 71 48).toInt = (s.1 71 48).toInt + 1 ∧ (u.1 71 47).toInt = (s.1 71 47).toInt + 1 ∧ (u.1 71 5).toInt = (s.1 71 5).toInt) ∨ ((u.1 71 48).toInt = (s.1 71 48).toInt ∧ (u.1 71 47).toInt = (s.1 71 47).toInt ∧ (u.1 71 5).toInt ≠ 0)) ∧ ((u.1 71 5).toInt = 0 → oOpn s a1 u) ∧ ((u.1 71 5).toInt = 0 → (s.1 71 5).toInt = 0))) J := C
  obtain ⟨k1, qk1⟩ : ∃ z : Int32, z = 1 := ⟨_, rfl⟩
  have ek1 : k1.toInt = 1 := by rw [qk1]; rfl
  obtain ⟨k4, qk4⟩ : ∃ z : Int32, z = 4 := ⟨_, rfl⟩
  have ek4 : k4.toInt = 4 := by rw [qk4]; rfl
  obtain ⟨k6, qk6⟩ : ∃ z : Int32, z = 6 := ⟨_, rfl⟩
  have ek6 : k6.toInt = 6 := by rw [qk6]; rfl
  have rg1 := n_rng a1
  have rg2 := n_rng a2
  refine r_aload_n C (j := 0) (oDec_at oX12_opens 0 rfl) rfl rfl ?_
  obtain ⟨v1, ev1⟩ : ∃ z : Int32, (s).1 71 48 = z := ⟨_, rfl⟩
  have gv1 : (s.1 71 48).toInt = v1.toInt := congrArg Int32.toInt (ev1)
  refine r_geti (k := 48) (lo := (-1)) (hi := 7) C v1 oCl12 rfl (by decide) flX12_274 rfl rfl (ev1) rfl rfl (oDec_at oX12_opens 1 rfl) (fun b2 b2h => ?_)
  refine r_bipush C (oDec_at oX12_opens 2 rfl) (v := k6) (by rw [qk6]; rfl) ?_
  refine r_icmp_ne C 16 (oDec_at oX12_opens 3 rfl) (by decide) (fun cd3 => ?_) (fun cd3 => ?_)
  · skip
    refine r_aload_n C (j := 0) (oDec_at oX12_opens 9 rfl) rfl rfl ?_
    refine r_dup C (oDec_at oX12_opens 10 rfl) rfl ?_
    refine r_geti (k := 48) (lo := (-1)) (hi := 7) C v1 oCl12 rfl (by decide) flX12_274 rfl rfl (ev1) rfl rfl (oDec_at oX12_opens 11 rfl) (fun _ _ => ?_)
    refine r_iconst C (oDec_at oX12_opens 12 rfl) (v := k1) (by rw [qk1]; rfl) ?_
    obtain ⟨v4, ev4⟩ : ∃ z : Int32, z = v1 + k1 := ⟨_, rfl⟩
    have hv4 : v4.toInt = v1.toInt + k1.toInt := n_add ev4 (by omega) (by omega)
    refine r_iadd C v4 (oDec_at oX12_opens 13 rfl) ev4 ?_
    refine r_puti (k := 48) (lo := (-1)) (hi := 7) C oCl12 rfl (by decide) flX12_274 rfl rfl rfl rfl rfl rfl rfl rfl ⟨by omega, by omega⟩ (oDec_at oX12_opens 14 rfl) ?_
    refine r_pc C 26 rfl ?_
    refine r_aload_n C (j := 0) (oDec_at oX12_opens 15 rfl) rfl rfl ?_
    refine r_getF (k := 46) (b := 103) C oCl12 rfl (by decide) flX12_111 rfl rfl rfl (oDec_at oX12_opens 16 rfl) ?_
    refine r_aload_n C (j := 0) (oDec_at oX12_opens 17 rfl) rfl rfl ?_
    obtain ⟨v5, ev5⟩ : ∃ z : Int32, ((pI s 71 48 v4)).1 71 47 = z := ⟨_, rfl⟩
    have gv5 : (s.1 71 47).toInt = v5.toInt := congrArg Int32.toInt (((pI_ne (a := 71) (b := 47) (c := 71) (k := 48) _ _ (Or.inr (by decide)))).symm.trans ev5)
    have ggv5 : (((pI s 71 48 v4)).1 71 47).toInt = v5.toInt := congrArg Int32.toInt ev5
    refine r_geti (k := 47) (lo := 0) (hi := 1700) C v5 oCl12 rfl (by decide) flX12_277 rfl rfl (ev5) rfl rfl (oDec_at oX12_opens 18 rfl) (fun b6 b6h => ?_)
    refine r_iload_n C (j := 1) (oDec_at oX12_opens 19 rfl) rfl rfl ?_
    refine r_iast (n := 1700) (lo := (-2147483648)) (hi := 2147483647) C rfl (by decide) rfl rfl ⟨by omega, by omega⟩ (by decide) rfl rfl rfl rfl (n_rng _) (oDec_at oX12_opens 20 rfl) ?_
    refine r_pc C 36 rfl ?_
    refine r_aload_n C (j := 0) (oDec_at oX12_opens 21 rfl) rfl rfl ?_
    refine r_dup C (oDec_at oX12_opens 22 rfl) rfl ?_
    refine r_geti (k := 47) (lo := 0) (hi := 1700) C v5 oCl12 rfl (by decide) flX12_277 rfl rfl (((pI_ne (a := 71) (b := 47) (c := 103) _ _ (Or.inl (by decide)))).trans (ev5)) rfl rfl (oDec_at oX12_opens 23 rfl) (fun _ _ => ?_)
    refine r_iconst C (oDec_at oX12_opens 24 rfl) (v := k1) (by rw [qk1]; rfl) ?_
    obtain ⟨v7, ev7⟩ : ∃ z : Int32, z = v5 + k1 := ⟨_, rfl⟩
    have hv7 : v7.toInt = v5.toInt + k1.toInt := n_add ev7 (by omega) (by omega)
    refine r_iadd C v7 (oDec_at oX12_opens 25 rfl) ev7 ?_
    refine r_puti (k := 47) (lo := 0) (hi := 1700) C oCl12 rfl (by decide) flX12_277 rfl rfl rfl rfl rfl rfl rfl rfl ⟨by omega, by omega⟩ (oDec_at oX12_opens 26 rfl) ?_
    refine r_pc C 46 rfl ?_
    have lk8 : (((pI (pI (pI s 71 48 v4) 103 v5.toNatClampNeg a1) 71 47 v7)).1 71 48).toInt = v4.toInt := congrArg Int32.toInt (((pI_ne (a := 71) (b := 48) (c := 71) (k := 47) _ _ (Or.inr (by decide)))).trans (((pI_ne (a := 71) (b := 48) (c := 103) _ _ (Or.inl (by decide)))).trans ((pI_self _ _ _ _))))
    have lk9 : (((pI (pI (pI s 71 48 v4) 103 v5.toNatClampNeg a1) 71 47 v7)).1 71 47).toInt = v7.toInt := congrArg Int32.toInt ((pI_self _ _ _ _))
    have lk10 : (((pI (pI (pI s 71 48 v4) 103 v5.toNatClampNeg a1) 71 47 v7)).1 71 5).toInt = (s.1 71 5).toInt := congrArg Int32.toInt (((pI_ne (a := 71) (b := 5) (c := 71) (k := 47) _ _ (Or.inr (by decide)))).trans (((pI_ne (a := 71) (b := 5) (c := 103) _ _ (Or.inl (by decide)))).trans ((pI_ne (a := 71) (b := 5) (c := 71) (k := 48) _ _ (Or.inr (by decide))))))
    have lk11 : (((pI (pI (pI s 71 48 v4) 103 v5.toNatClampNeg a1) 71 47 v7)).1 71 5).toInt = (s.1 71 5).toInt := congrArg Int32.toInt (((pI_ne (a := 71) (b := 5) (c := 71) (k := 47) _ _ (Or.inr (by decide)))).trans (((pI_ne (a := 71) (b := 5) (c := 103) _ _ (Or.inl (by decide)))).trans ((pI_ne (a := 71) (b := 5) (c := 71) (k := 48) _ _ (Or.inr (by decide))))))
    have lk12 : (((pI (pI (pI s 71 48 v4) 103 v5.toNatClampNeg a1) 71 47 v7)).1 71 5).toInt = (s.1 71 5).toInt := congrArg Int32.toInt (((pI_ne (a := 71) (b := 5) (c := 71) (k := 47) _ _ (Or.inr (by decide)))).trans (((pI_ne (a := 71) (b := 5) (c := 103) _ _ (Or.inl (by decide)))).trans ((pI_ne (a := 71) (b := 5) (c := 71) (k := 48) _ _ (Or.inr (by decide))))))
    exact r_vret C (oDec_at oX12_opens 27 rfl) ⟨rfl, ⟨by omega, fun _ => oOpn_of (by assumption) (by omega) (by omega), by omega⟩⟩
  · skip
    refine r_aload_n C (j := 0) (oDec_at oX12_opens 4 rfl) rfl rfl ?_
    refine r_iconst C (oDec_at oX12_opens 5 rfl) (v := k4) (by rw [qk4]; rfl) ?_
    refine r_iload_n C (j := 2) (oDec_at oX12_opens 6 rfl) rfl rfl ?_
    refine r_callVv C oCl12 rfl miX12_fail mlX12_203 (ct_X12_fail l E (s) k4 a2 ) (by decide) rfl rfl rfl (Nat.le_of_ble_eq_true rfl) (oDec_at oX12_opens 7 rfl) (fun u13 pu13 fu13 => ?_)
    try dsimp only at pu13
    obtain ⟨pu13_0, pu13_1⟩ := pu13
    have lk15 : ((u13).1 71 48).toInt = v1.toInt := congrArg Int32.toInt (((fu13 71 48 rfl).1).trans (ev1))
    have lk16 : ((u13).1 71 47).toInt = (s.1 71 47).toInt := congrArg Int32.toInt ((fu13 71 47 rfl).1)
    exact r_vret C (oDec_at oX12_opens 8 rfl) ⟨rfl, ⟨by omega, by intro h; exfalso; omega, by omega⟩⟩
set_option maxHeartbeats 4000000 in
set_option maxRecDepth 100000 in
theorem ct_X12_isOn (l : Launch) (E : oE) (s : oS) (a1 : Int32)   : oMet l 1 yX12_isOn cX12_isOn 2 (some .boolean) [] E s [.ref (oad E 71), .int a1] (oPi (fun r u => (0 ≤ r.toInt ∧ r.toInt ≤ 1) ∧ (r.toInt = 1 → (1 ≤ (u.1 71 47).toInt ∧ oTop u = a1.toInt)) ∧ (r.toInt = 0 → ((u.1 71 47).toInt ≤ 0 ∨ oTop u ≠ a1.toInt)))) := by
  refine oMet.of (lv := [(0, .ref (oad E 71)), (1, .int a1)]) (by decide +kernel) (Nat.le_of_ble_eq_true rfl) rfl (fun J C hT => ?_)
  have C : oC l 1 cX12_isOn RX12 2 (some .boolean) [] E s (oPi (fun r u => (0 ≤ r.toInt ∧ r.toInt ≤ 1) ∧ (r.toInt = 1 → (1 ≤ (u.1 71 47).toInt ∧ oTop u = a1.toInt)) ∧ (r.toInt = 0 → ((u.1 71 47).toInt ≤ 0 ∨ oTop u ≠ a1.toInt)))) J := C
  obtain ⟨k0, qk0⟩ : ∃ z : Int32, z = 0 := ⟨_, rfl⟩
  have ek0 : k0.toInt = 0 := by rw [qk0]; rfl
  obtain ⟨k1, qk1⟩ : ∃ z : Int32, z = 1 := ⟨_, rfl⟩
  have ek1 : k1.toInt = 1 := by rw [qk1]; rfl
  have rg1 := n_rng a1
  refine r_aload_n C (j := 0) (oDec_at oX12_isOn 0 rfl) rfl rfl ?_
  obtain ⟨v1, ev1⟩ : ∃ z : Int32, (s).1 71 47 = z := ⟨_, rfl⟩
  have gv1 : (s.1 71 47).toInt = v1.toInt := congrArg Int32.toInt (ev1)
  refine r_geti (k := 47) (lo := 0) (hi := 1700) C v1 oCl12 rfl (by decide) flX12_277 rfl rfl (ev1) rfl rfl (oDec_at oX12_isOn 1 rfl) (fun b2 b2h => ?_)
  refine r_if_le C 26 (oDec_at oX12_isOn 2 rfl) (by decide) (fun cd3 => ?_) (fun cd3 => ?_)
  · skip
    refine r_iconst C (oDec_at oX12_isOn 14 rfl) (v := k0) (by rw [qk0]; rfl) ?_
    have lk4 : ((s).1 71 47).toInt = v1.toInt := congrArg Int32.toInt (ev1)
    have lk5 : ((s).1 71 47).toInt = v1.toInt := congrArg Int32.toInt (ev1)
    exact r_zret C (n_bool (by omega)) (oDec_at oX12_isOn 15 rfl) ⟨_, rfl, ⟨by omega, by omega, by omega⟩⟩
  · skip
    refine r_aload_n C (j := 0) (oDec_at oX12_isOn 3 rfl) rfl rfl ?_
    refine r_getF (k := 46) (b := 103) C oCl12 rfl (by decide) flX12_111 rfl rfl rfl (oDec_at oX12_isOn 4 rfl) ?_
    refine r_aload_n C (j := 0) (oDec_at oX12_isOn 5 rfl) rfl rfl ?_
    refine r_geti (k := 47) (lo := 0) (hi := 1700) C v1 oCl12 rfl (by decide) flX12_277 rfl rfl (ev1) rfl rfl (oDec_at oX12_isOn 6 rfl) (fun _ _ => ?_)
    refine r_iconst C (oDec_at oX12_isOn 7 rfl) (v := k1) (by rw [qk1]; rfl) ?_
    obtain ⟨v6, ev6⟩ : ∃ z : Int32, z = v1 - k1 := ⟨_, rfl⟩
    have hv6 : v6.toInt = v1.toInt - k1.toInt := n_sub ev6 (by omega) (by omega)
    refine r_isub C v6 (oDec_at oX12_isOn 8 rfl) ev6 ?_
    refine r_pc C 17 rfl ?_
    obtain ⟨v8, ev8⟩ : ∃ z : Int32, (s).1 103 v6.toNatClampNeg = z := ⟨_, rfl⟩
    have gv8 : (s.1 103 v6.toNatClampNeg).toInt = v8.toInt := congrArg Int32.toInt (ev8)
    have rv8 := n_rng v8
    refine r_iald (n := 1700) (lo := (-2147483648)) (hi := 2147483647) C v8 rfl (by decide) rfl rfl ⟨by omega, by omega⟩ (by decide) ev8 rfl rfl (oDec_at oX12_isOn 9 rfl) (fun _ _ => ?_)
    have ht := oTop_of (i := v6) ev8 (by omega)
    refine r_iload_n C (j := 1) (oDec_at oX12_isOn 10 rfl) rfl rfl ?_
    refine r_icmp_ne C 26 (oDec_at oX12_isOn 11 rfl) (by decide) (fun cd9 => ?_) (fun cd9 => ?_)
    · skip
      refine r_iconst C (oDec_at oX12_isOn 14 rfl) (v := k0) (by rw [qk0]; rfl) ?_
      have lk10 : ((s).1 71 47).toInt = v1.toInt := congrArg Int32.toInt (ev1)
      have lk11 : ((s).1 71 47).toInt = v1.toInt := congrArg Int32.toInt (ev1)
      exact r_zret C (n_bool (by omega)) (oDec_at oX12_isOn 15 rfl) ⟨_, rfl, ⟨by omega, by omega, by omega⟩⟩
    · skip
      refine r_iconst C (oDec_at oX12_isOn 12 rfl) (v := k1) (by rw [qk1]; rfl) ?_
      refine r_goto C (tgt := 27) (oDec_at oX12_isOn 13 rfl) (by decide) ?_
      have lk12 : ((s).1 71 47).toInt = v1.toInt := congrArg Int32.toInt (ev1)
      have lk13 : ((s).1 71 47).toInt = v1.toInt := congrArg Int32.toInt (ev1)
      exact r_zret C (n_bool (by omega)) (oDec_at oX12_isOn 15 rfl) ⟨_, rfl, ⟨by omega, by omega, by omega⟩⟩
set_option maxHeartbeats 4000000 in
set_option maxRecDepth 100000 in
theorem ct_X12_drops (l : Launch) (E : oE) (s : oS)   (hp0 : 1 ≤ (s.1 71 47).toInt) (hp1 : (s.1 71 45).toInt ≤ 1599) : oMet l 2 yX12_drops cX12_drops 1 none [(12, 45), (12, 47), (78, 9999)] E s [.ref (oad E 71)] (oPv (fun u => (oDrop s u) ∧ ((u.1 71 47).toInt = (s.1 71 47).toInt - 1) ∧ ((u.1 71 45).toInt = (s.1 71 45).toInt + 1))) := by
  refine oMet.of (lv := [(0, .ref (oad E 71))]) (by decide +kernel) (Nat.le_of_ble_eq_true rfl) rfl (fun J C hT => ?_)
  have C : oC l 2 cX12_drops RX12 1 none [(12, 45), (12, 47), (78, 9999)] E s (oPv (fun u => (oDrop s u) ∧ ((u.1 71 47).toInt = (s.1 71 47).toInt - 1) ∧ ((u.1 71 45).toInt = (s.1 71 45).toInt + 1))) J := C
  obtain ⟨k1, qk1⟩ : ∃ z : Int32, z = 1 := ⟨_, rfl⟩
  have ek1 : k1.toInt = 1 := by rw [qk1]; rfl
  refine r_aload_n C (j := 0) (oDec_at oX12_drops 0 rfl) rfl rfl ?_
  refine r_dup C (oDec_at oX12_drops 1 rfl) rfl ?_
  obtain ⟨v1, ev1⟩ : ∃ z : Int32, (s).1 71 47 = z := ⟨_, rfl⟩
  have gv1 : (s.1 71 47).toInt = v1.toInt := congrArg Int32.toInt (ev1)
  refine r_geti (k := 47) (lo := 0) (hi := 1700) C v1 oCl12 rfl (by decide) flX12_277 rfl rfl (ev1) rfl rfl (oDec_at oX12_drops 2 rfl) (fun b2 b2h => ?_)
  refine r_iconst C (oDec_at oX12_drops 3 rfl) (v := k1) (by rw [qk1]; rfl) ?_
  obtain ⟨v3, ev3⟩ : ∃ z : Int32, z = v1 - k1 := ⟨_, rfl⟩
  have hv3 : v3.toInt = v1.toInt - k1.toInt := n_sub ev3 (by omega) (by omega)
  refine r_isub C v3 (oDec_at oX12_drops 4 rfl) ev3 ?_
  refine r_puti (k := 47) (lo := 0) (hi := 1700) C oCl12 rfl (by decide) flX12_277 rfl rfl rfl rfl rfl rfl rfl rfl ⟨by omega, by omega⟩ (oDec_at oX12_drops 5 rfl) ?_
  refine r_pc C 10 rfl ?_
  refine r_aload_n C (j := 0) (oDec_at oX12_drops 6 rfl) rfl rfl ?_
  refine r_aload_n C (j := 0) (oDec_at oX12_drops 7 rfl) rfl rfl ?_
  refine r_getF (k := 46) (b := 103) C oCl12 rfl (by decide) flX12_111 rfl rfl rfl (oDec_at oX12_drops 8 rfl) ?_
  refine r_aload_n C (j := 0) (oDec_at oX12_drops 9 rfl) rfl rfl ?_
  refine r_geti (k := 47) (lo := 0) (hi := 1700) C v3 oCl12 rfl (by decide) flX12_277 rfl rfl ((pI_self _ _ _ _)) rfl rfl (oDec_at oX12_drops 10 rfl) (fun _ _ => ?_)
  obtain ⟨v5, ev5⟩ : ∃ z : Int32, ((pI s 71 47 v3)).1 103 v3.toNatClampNeg = z := ⟨_, rfl⟩
  have av5 : s.1 103 v3.toNatClampNeg = v5 := ((pI_ne (a := 103) (b := v3.toNatClampNeg) (c := 71) _ _ (Or.inl (by decide)))).symm.trans ev5
  have gv5 : (s.1 103 v3.toNatClampNeg).toInt = v5.toInt := congrArg Int32.toInt (((pI_ne (a := 103) (b := v3.toNatClampNeg) (c := 71) _ _ (Or.inl (by decide)))).symm.trans ev5)
  have rv5 := n_rng v5
  refine r_iald (n := 1700) (lo := (-2147483648)) (hi := 2147483647) C v5 rfl (by decide) rfl rfl ⟨by omega, by omega⟩ (by decide) ev5 rfl rfl (oDec_at oX12_drops 11 rfl) (fun _ _ => ?_)
  refine r_pc C 20 rfl ?_
  have lk6 : (((pI s 71 47 v3)).1 71 45).toInt = (s.1 71 45).toInt := congrArg Int32.toInt ((pI_ne (a := 71) (b := 45) (c := 71) (k := 47) _ _ (Or.inr (by decide))))
  have lk7 : (((pI s 71 47 v3)).1 71 45).toInt = (s.1 71 45).toInt := congrArg Int32.toInt ((pI_ne (a := 71) (b := 45) (c := 71) (k := 47) _ _ (Or.inr (by decide))))
  refine r_callVv C oCl12 rfl miX12_lay mlX12_280 (ct_X12_lay l E ((pI s 71 47 v3)) v5 (by omega)) (by decide) rfl rfl rfl (Nat.le_of_ble_eq_true rfl) (oDec_at oX12_drops 12 rfl) (fun u8 pu8 fu8 => ?_)
  try dsimp only at pu8
  try simp only [lk6, lk7] at pu8
  obtain ⟨pu8_0, pu8_1⟩ := pu8
  have lk10 : ((u8).1 71 47).toInt = v3.toInt := congrArg Int32.toInt (((fu8 71 47 rfl).1).trans ((pI_self _ _ _ _)))
  exact r_vret C (oDec_at oX12_drops 13 rfl) ⟨rfl, ⟨oDrop_of (by omega) (by assumption) pu8_0, by omega, by omega⟩⟩
set_option maxHeartbeats 4000000 in
set_option maxRecDepth 100000 in
theorem ct_X12_isMark (l : Launch) (E : oE) (s : oS) (a1 : Int32)   : oMet l 1 yX12_isMark cX12_isMark 2 (some .boolean) [] E s [.ref (oad E 71), .int a1] (oPi (fun r u => (0 ≤ r.toInt ∧ r.toInt ≤ 1) ∧ ((r.toInt = 1 ∧ 20 ≤ a1.toInt ∧ a1.toInt ≤ 24) ∨ (r.toInt = 0 ∧ (a1.toInt < 20 ∨ 24 < a1.toInt))))) := by
  refine oMet.of (lv := [(0, .ref (oad E 71)), (1, .int a1)]) (by decide +kernel) (Nat.le_of_ble_eq_true rfl) rfl (fun J C hT => ?_)
  have C : oC l 1 cX12_isMark RX12 2 (some .boolean) [] E s (oPi (fun r u => (0 ≤ r.toInt ∧ r.toInt ≤ 1) ∧ ((r.toInt = 1 ∧ 20 ≤ a1.toInt ∧ a1.toInt ≤ 24) ∨ (r.toInt = 0 ∧ (a1.toInt < 20 ∨ 24 < a1.toInt))))) J := C
  obtain ⟨k0, qk0⟩ : ∃ z : Int32, z = 0 := ⟨_, rfl⟩
  have ek0 : k0.toInt = 0 := by rw [qk0]; rfl
  obtain ⟨k1, qk1⟩ : ∃ z : Int32, z = 1 := ⟨_, rfl⟩
  have ek1 : k1.toInt = 1 := by rw [qk1]; rfl
  obtain ⟨k20, qk20⟩ : ∃ z : Int32, z = 20 := ⟨_, rfl⟩
  have ek20 : k20.toInt = 20 := by rw [qk20]; rfl
  obtain ⟨k24, qk24⟩ : ∃ z : Int32, z = 24 := ⟨_, rfl⟩
  have ek24 : k24.toInt = 24 := by rw [qk24]; rfl
  have rg1 := n_rng a1
  refine r_iload_n C (j := 1) (oDec_at oX12_isMark 0 rfl) rfl rfl ?_
  refine r_bipush C (oDec_at oX12_isMark 1 rfl) (v := k20) (by rw [qk20]; rfl) ?_
  refine r_icmp_lt C 16 (oDec_at oX12_isMark 2 rfl) (by decide) (fun cd1 => ?_) (fun cd1 => ?_)
  · skip
    refine r_iconst C (oDec_at oX12_isMark 8 rfl) (v := k0) (by rw [qk0]; rfl) ?_
    exact r_zret C (n_bool (by omega)) (oDec_at oX12_isMark 9 rfl) ⟨_, rfl, ⟨by omega, by omega⟩⟩
  · skip
    refine r_iload_n C (j := 1) (oDec_at oX12_isMark 3 rfl) rfl rfl ?_
    refine r_bipush C (oDec_at oX12_isMark 4 rfl) (v := k24) (by rw [qk24]; rfl) ?_
    refine r_icmp_gt C 16 (oDec_at oX12_isMark 5 rfl) (by decide) (fun cd2 => ?_) (fun cd2 => ?_)
    · skip
      refine r_iconst C (oDec_at oX12_isMark 8 rfl) (v := k0) (by rw [qk0]; rfl) ?_
      exact r_zret C (n_bool (by omega)) (oDec_at oX12_isMark 9 rfl) ⟨_, rfl, ⟨by omega, by omega⟩⟩
    · skip
      refine r_iconst C (oDec_at oX12_isMark 6 rfl) (v := k1) (by rw [qk1]; rfl) ?_
      refine r_goto C (tgt := 17) (oDec_at oX12_isMark 7 rfl) (by decide) ?_
      exact r_zret C (n_bool (by omega)) (oDec_at oX12_isMark 9 rfl) ⟨_, rfl, ⟨by omega, by omega⟩⟩
set_option maxHeartbeats 4000000 in
set_option maxRecDepth 100000 in
theorem ct_X12_mark (l : Launch) (E : oE) (s : oS)    : oMet l 2 yX12_mark cX12_mark 2 (some .int) [] E s [.ref (oad E 71)] (oPi (fun r u => (oMk r.toInt u))) := by
  refine oMet.of (lv := [(0, .ref (oad E 71))]) (by decide +kernel) (Nat.le_of_ble_eq_true rfl) rfl (fun J C hT => ?_)
  have C : oC l 2 cX12_mark RX12 2 (some .int) [] E s (oPi (fun r u => (oMk r.toInt u))) J := C
  obtain ⟨km1, qkm1⟩ : ∃ z : Int32, z = (-1) := ⟨_, rfl⟩
  have ekm1 : km1.toInt = (-1) := by rw [qkm1]; rfl
  obtain ⟨k1, qk1⟩ : ∃ z : Int32, z = 1 := ⟨_, rfl⟩
  have ek1 : k1.toInt = 1 := by rw [qk1]; rfl
  have key : ∀ n : Nat, (∀ (t : oS) (x1 : Int32), (-1 ≤ x1.toInt ∧ x1.toInt < (t.1 71 47).toInt) → (oNo x1 t) → x1.toInt + 2 ≤ (n : Int) → J t 7 [(0, .ref (oad E 71)), (1, .int x1)] []) := by
    intro n
    induction n using Nat.strongRecOn with
    | _ n ih =>
      skip
      · intro t x1  iv0 iv1 hmu
        have rx1 := n_rng x1
        refine r_iload_n C (j := 1) (oDec_at oX12_mark 5 rfl) rfl rfl ?_
        refine r_aload_n C (j := 0) (oDec_at oX12_mark 6 rfl) rfl rfl ?_
        obtain ⟨v1, ev1⟩ : ∃ z : Int32, (t).1 71 55 = z := ⟨_, rfl⟩
        have gv1 : (t.1 71 55).toInt = v1.toInt := congrArg Int32.toInt (ev1)
        refine r_geti (k := 55) (lo := 0) (hi := 1700) C v1 oCl12 rfl (by decide) flX12_283 rfl rfl (ev1) rfl rfl (oDec_at oX12_mark 7 rfl) (fun b2 b2h => ?_)
        refine r_icmp_lt C 34 (oDec_at oX12_mark 8 rfl) (by decide) (fun cd3 => ?_) (fun cd3 => ?_)
        · skip
          refine r_iload_n C (j := 1) (oDec_at oX12_mark 18 rfl) rfl rfl ?_
          refine r_aload_n C (j := 0) (oDec_at oX12_mark 19 rfl) rfl rfl ?_
          refine r_geti (k := 55) (lo := 0) (hi := 1700) C v1 oCl12 rfl (by decide) flX12_283 rfl rfl (ev1) rfl rfl (oDec_at oX12_mark 20 rfl) (fun _ _ => ?_)
          refine r_icmp_lt C 51 (oDec_at oX12_mark 21 rfl) (by decide) (fun cd4 => ?_) (fun cd4 => ?_)
          · skip
            refine r_iconst C (oDec_at oX12_mark 27 rfl) (v := km1) (by rw [qkm1]; rfl) ?_
            exact r_iret C (oDec_at oX12_mark 28 rfl) ⟨_, rfl, by first | (exfalso; omega) | exact oMk_none iv1 (by omega) (by omega) | exact oMk_some (by assumption) iv1 (by omega) (by omega) (by omega) (by omega)⟩
          · skip
            refine r_aload_n C (j := 0) (oDec_at oX12_mark 22 rfl) rfl rfl ?_
            refine r_getF (k := 46) (b := 103) C oCl12 rfl (by decide) flX12_111 rfl rfl rfl (oDec_at oX12_mark 23 rfl) ?_
            refine r_iload_n C (j := 1) (oDec_at oX12_mark 24 rfl) rfl rfl ?_
            obtain ⟨v6, ev6⟩ : ∃ z : Int32, (t).1 103 x1.toNatClampNeg = z := ⟨_, rfl⟩
            have gv6 : (t.1 103 x1.toNatClampNeg).toInt = v6.toInt := congrArg Int32.toInt (ev6)
            have rv6 := n_rng v6
            refine r_iald (n := 1700) (lo := (-2147483648)) (hi := 2147483647) C v6 rfl (by decide) rfl rfl ⟨by omega, by omega⟩ (by decide) ev6 rfl rfl (oDec_at oX12_mark 25 rfl) (fun _ _ => ?_)
            refine r_goto C (tgt := 52) (oDec_at oX12_mark 26 rfl) (by decide) ?_
            exact r_iret C (oDec_at oX12_mark 28 rfl) ⟨_, rfl, by first | (exfalso; omega) | exact oMk_none iv1 (by omega) (by omega) | exact oMk_some (by assumption) iv1 (by omega) (by omega) (by omega) (by omega)⟩
        · skip
          refine r_aload_n C (j := 0) (oDec_at oX12_mark 9 rfl) rfl rfl ?_
          refine r_aload_n C (j := 0) (oDec_at oX12_mark 10 rfl) rfl rfl ?_
          refine r_getF (k := 46) (b := 103) C oCl12 rfl (by decide) flX12_111 rfl rfl rfl (oDec_at oX12_mark 11 rfl) ?_
          refine r_iload_n C (j := 1) (oDec_at oX12_mark 12 rfl) rfl rfl ?_
          obtain ⟨v8, ev8⟩ : ∃ z : Int32, (t).1 103 x1.toNatClampNeg = z := ⟨_, rfl⟩
          have gv8 : (t.1 103 x1.toNatClampNeg).toInt = v8.toInt := congrArg Int32.toInt (ev8)
          have rv8 := n_rng v8
          refine r_iald (n := 1700) (lo := (-2147483648)) (hi := 2147483647) C v8 rfl (by decide) rfl rfl ⟨by omega, by omega⟩ (by decide) ev8 rfl rfl (oDec_at oX12_mark 13 rfl) (fun _ _ => ?_)
          refine r_callVi C oCl12 rfl miX12_isMark mlX12_286 (ct_X12_isMark l E (t) v8 ) (by decide) rfl rfl rfl (Nat.le_of_ble_eq_true rfl) (oDec_at oX12_mark 14 rfl) (fun r10 u9 pu9 fu9 => ?_)
          try dsimp only at pu9
          obtain ⟨pu9_0, pu9_1⟩ := pu9
          have hxu9 := oFr_nil fu9; subst hxu9
          have rr10 := n_rng r10
          refine r_pc C 25 rfl ?_
          refine r_if_ne C 34 (oDec_at oX12_mark 15 rfl) (by decide) (fun cd11 => ?_) (fun cd11 => ?_)
          · skip
            refine r_iload_n C (j := 1) (oDec_at oX12_mark 18 rfl) rfl rfl ?_
            refine r_aload_n C (j := 0) (oDec_at oX12_mark 19 rfl) rfl rfl ?_
            refine r_geti (k := 55) (lo := 0) (hi := 1700) C v1 oCl12 rfl (by decide) flX12_283 rfl rfl (ev1) rfl rfl (oDec_at oX12_mark 20 rfl) (fun _ _ => ?_)
            refine r_icmp_lt C 51 (oDec_at oX12_mark 21 rfl) (by decide) (fun cd12 => ?_) (fun cd12 => ?_)
            · skip
              refine r_iconst C (oDec_at oX12_mark 27 rfl) (v := km1) (by rw [qkm1]; rfl) ?_
              exact r_iret C (oDec_at oX12_mark 28 rfl) ⟨_, rfl, by first | (exfalso; omega) | exact oMk_none iv1 (by omega) (by omega) | exact oMk_some (by assumption) iv1 (by omega) (by omega) (by omega) (by omega)⟩
            · skip
              refine r_aload_n C (j := 0) (oDec_at oX12_mark 22 rfl) rfl rfl ?_
              refine r_getF (k := 46) (b := 103) C oCl12 rfl (by decide) flX12_111 rfl rfl rfl (oDec_at oX12_mark 23 rfl) ?_
              refine r_iload_n C (j := 1) (oDec_at oX12_mark 24 rfl) rfl rfl ?_
              refine r_iald (n := 1700) (lo := (-2147483648)) (hi := 2147483647) C v8 rfl (by decide) rfl rfl ⟨by omega, by omega⟩ (by decide) (ev8) rfl rfl (oDec_at oX12_mark 25 rfl) (fun _ _ => ?_)
              refine r_goto C (tgt := 52) (oDec_at oX12_mark 26 rfl) (by decide) ?_
              exact r_iret C (oDec_at oX12_mark 28 rfl) ⟨_, rfl, by first | (exfalso; omega) | exact oMk_none iv1 (by omega) (by omega) | exact oMk_some (by assumption) iv1 (by omega) (by omega) (by omega) (by omega)⟩
          · skip
            obtain ⟨v14, ev14⟩ : ∃ z : Int32, x1 + Int32.ofInt (-1) = z := ⟨_, rfl⟩
            have hv14 : v14.toInt = x1.toInt + (-1) := n_inc ev14 (by decide) (by omega) (by omega)
            refine r_iinc C (j := 1) (lv' := [(0, .ref (oad E 71)), (1, .int v14)]) v14 [1, 0] (oDec_at oX12_mark 16 rfl) rfl ev14 (by decide) rfl ?_
            refine r_goto C (tgt := 7) (oDec_at oX12_mark 17 rfl) (by decide) ?_
            exact (ih (n - 1) (by omega)) (t) v14  (by omega) (by first | exact oNo_step (x := x1) (y := v14) iv1 (by omega) (by omega) (by omega) | exact oNo_0 (by omega)) (by omega)
  refine r_aload_n C (j := 0) (oDec_at oX12_mark 0 rfl) rfl rfl ?_
  obtain ⟨v15, ev15⟩ : ∃ z : Int32, (s).1 71 47 = z := ⟨_, rfl⟩
  have gv15 : (s.1 71 47).toInt = v15.toInt := congrArg Int32.toInt (ev15)
  refine r_geti (k := 47) (lo := 0) (hi := 1700) C v15 oCl12 rfl (by decide) flX12_277 rfl rfl (ev15) rfl rfl (oDec_at oX12_mark 1 rfl) (fun b16 b16h => ?_)
  refine r_iconst C (oDec_at oX12_mark 2 rfl) (v := k1) (by rw [qk1]; rfl) ?_
  obtain ⟨v17, ev17⟩ : ∃ z : Int32, z = v15 - k1 := ⟨_, rfl⟩
  have hv17 : v17.toInt = v15.toInt - k1.toInt := n_sub ev17 (by omega) (by omega)
  refine r_isub C v17 (oDec_at oX12_mark 3 rfl) ev17 ?_
  refine r_istore_n C (lv' := [(0, .ref (oad E 71)), (1, .int v17)]) [1, 0] (oDec_at oX12_mark 4 rfl) rfl (by decide) rfl ?_
  have lk18 : ((s).1 71 47).toInt = v15.toInt := congrArg Int32.toInt (ev15)
  exact (key (v17.toInt + 2).toNat) (s) v17  (by omega) (by first | exact oNo_0 (by omega)) (by omega)
set_option maxHeartbeats 4000000 in
set_option maxRecDepth 100000 in
theorem ct_X12_dropsToMark (l : Launch) (E : oE) (s : oS)  (b : Nat) (x : Nat) (m : Int) (hp0 : oQ b x s) (hp1 : oMk m s) (hp2 : (s.1 71 55).toInt = (b : Int)) (hp3 : 1 ≤ x) (hp4 : (s.1 71 5).toInt = 0) (hp5 : (s.1 71 45).toInt + (s.1 71 47).toInt ≤ 1599) : oMet l 3 yX12_dropsToMark cX12_dropsToMark 1 none [(12, 45), (12, 47), (78, 9999)] E s [.ref (oad E 71)] (oPv (fun u => (oQ b x u) ∧ ((u.1 71 45).toInt + (u.1 71 47).toInt = (s.1 71 45).toInt + (s.1 71 47).toInt) ∧ ((u.1 71 47).toInt ≤ (s.1 71 47).toInt) ∧ (m ≠ -1 → ((b : Int) < (u.1 71 47).toInt ∧ oTop u = m)))) := by
  refine oMet.of (lv := [(0, .ref (oad E 71))]) (by decide +kernel) (Nat.le_of_ble_eq_true rfl) rfl (fun J C hT => ?_)
  have C : oC l 3 cX12_dropsToMark RX12 1 none [(12, 45), (12, 47), (78, 9999)] E s (oPv (fun u => (oQ b x u) ∧ ((u.1 71 45).toInt + (u.1 71 47).toInt = (s.1 71 45).toInt + (s.1 71 47).toInt) ∧ ((u.1 71 47).toInt ≤ (s.1 71 47).toInt) ∧ (m ≠ -1 → ((b : Int) < (u.1 71 47).toInt ∧ oTop u = m)))) J := C
  obtain ⟨k1, qk1⟩ : ∃ z : Int32, z = 1 := ⟨_, rfl⟩
  have ek1 : k1.toInt = 1 := by rw [qk1]; rfl
  have key : ∀ n : Nat, (∀ (t : oS), (oQ b x t) → (oMk m t) → ((t.1 71 55).toInt = (b : Int)) → ((t.1 71 5).toInt = 0) → ((t.1 71 45).toInt + (t.1 71 47).toInt = (s.1 71 45).toInt + (s.1 71 47).toInt) → ((t.1 71 47).toInt ≤ (s.1 71 47).toInt) → ((s.1 71 45).toInt + (s.1 71 47).toInt ≤ 1599) → (t.1 71 47).toInt + 1 ≤ (n : Int) → J t 0 [(0, .ref (oad E 71))] []) := by
    intro n
    induction n using Nat.strongRecOn with
    | _ n ih =>
      skip
      · intro t   iv0 iv1 iv2 iv3 iv4 iv5 iv6 hmu
        refine r_ty C (fun hty => ?_)
        have hty_coded : (0 : Int) ≤ ((t).1 71 45).toInt ∧ ((t).1 71 45).toInt ≤ 1600 := hty.1 71 45
        have hty_waits : (0 : Int) ≤ ((t).1 71 47).toInt ∧ ((t).1 71 47).toInt ≤ 1700 := hty.1 71 47
        clear hty
        refine r_aload_n C (j := 0) (oDec_at oX12_dropsToMark 0 rfl) rfl rfl ?_
        obtain ⟨v1, ev1⟩ : ∃ z : Int32, (t).1 71 47 = z := ⟨_, rfl⟩
        have gv1 : (t.1 71 47).toInt = v1.toInt := congrArg Int32.toInt (ev1)
        refine r_geti (k := 47) (lo := 0) (hi := 1700) C v1 oCl12 rfl (by decide) flX12_277 rfl rfl (ev1) rfl rfl (oDec_at oX12_dropsToMark 1 rfl) (fun b2 b2h => ?_)
        refine r_aload_n C (j := 0) (oDec_at oX12_dropsToMark 2 rfl) rfl rfl ?_
        obtain ⟨v3, ev3⟩ : ∃ z : Int32, (t).1 71 55 = z := ⟨_, rfl⟩
        have gv3 : (t.1 71 55).toInt = v3.toInt := congrArg Int32.toInt (ev3)
        refine r_geti (k := 55) (lo := 0) (hi := 1700) C v3 oCl12 rfl (by decide) flX12_283 rfl rfl (ev3) rfl rfl (oDec_at oX12_dropsToMark 3 rfl) (fun b4 b4h => ?_)
        refine r_icmp_le C 36 (oDec_at oX12_dropsToMark 4 rfl) (by decide) (fun cd5 => ?_) (fun cd5 => ?_)
        · skip
          have lk6 : ((t).1 71 47).toInt = v1.toInt := congrArg Int32.toInt (ev1)
          have lk7 : ((t).1 71 47).toInt = v1.toInt := congrArg Int32.toInt (ev1)
          have lk8 : ((t).1 71 47).toInt = v1.toInt := congrArg Int32.toInt (ev1)
          exact r_vret C (oDec_at oX12_dropsToMark 18 rfl) ⟨rfl, ⟨iv0, by omega, by omega, by intro hm; have hmt := oMk_top iv1 hm (by omega) (by omega); omega⟩⟩
        · skip
          refine r_aload_n C (j := 0) (oDec_at oX12_dropsToMark 5 rfl) rfl rfl ?_
          refine r_aload_n C (j := 0) (oDec_at oX12_dropsToMark 6 rfl) rfl rfl ?_
          refine r_getF (k := 46) (b := 103) C oCl12 rfl (by decide) flX12_111 rfl rfl rfl (oDec_at oX12_dropsToMark 7 rfl) ?_
          refine r_aload_n C (j := 0) (oDec_at oX12_dropsToMark 8 rfl) rfl rfl ?_
          refine r_geti (k := 47) (lo := 0) (hi := 1700) C v1 oCl12 rfl (by decide) flX12_277 rfl rfl (ev1) rfl rfl (oDec_at oX12_dropsToMark 9 rfl) (fun _ _ => ?_)
          refine r_iconst C (oDec_at oX12_dropsToMark 10 rfl) (v := k1) (by rw [qk1]; rfl) ?_
          refine r_pc C 21 rfl ?_
          obtain ⟨v9, ev9⟩ : ∃ z : Int32, z = v1 - k1 := ⟨_, rfl⟩
          have hv9 : v9.toInt = v1.toInt - k1.toInt := n_sub ev9 (by omega) (by omega)
          refine r_isub C v9 (oDec_at oX12_dropsToMark 11 rfl) ev9 ?_
          obtain ⟨v11, ev11⟩ : ∃ z : Int32, (t).1 103 v9.toNatClampNeg = z := ⟨_, rfl⟩
          have gv11 : (t.1 103 v9.toNatClampNeg).toInt = v11.toInt := congrArg Int32.toInt (ev11)
          have rv11 := n_rng v11
          refine r_iald (n := 1700) (lo := (-2147483648)) (hi := 2147483647) C v11 rfl (by decide) rfl rfl ⟨by omega, by omega⟩ (by decide) ev11 rfl rfl (oDec_at oX12_dropsToMark 12 rfl) (fun _ _ => ?_)
          have ht := oTop_of (i := v9) ev11 (by omega)
          refine r_callVi C oCl12 rfl miX12_isMark mlX12_286 (ct_X12_isMark l E (t) v11 ) (by decide) rfl rfl rfl (Nat.le_of_ble_eq_true rfl) (oDec_at oX12_dropsToMark 13 rfl) (fun r13 u12 pu12 fu12 => ?_)
          try dsimp only at pu12
          obtain ⟨pu12_0, pu12_1⟩ := pu12
          have hxu12 := oFr_nil fu12; subst hxu12
          have rr13 := n_rng r13
          refine r_if_ne C 36 (oDec_at oX12_dropsToMark 14 rfl) (by decide) (fun cd14 => ?_) (fun cd14 => ?_)
          · skip
            have lk15 : ((t).1 71 47).toInt = v1.toInt := congrArg Int32.toInt (ev1)
            have lk16 : ((t).1 71 47).toInt = v1.toInt := congrArg Int32.toInt (ev1)
            have lk17 : ((t).1 71 47).toInt = v1.toInt := congrArg Int32.toInt (ev1)
            exact r_vret C (oDec_at oX12_dropsToMark 18 rfl) ⟨rfl, ⟨iv0, by omega, by omega, by intro hm; have hmt := oMk_top iv1 hm (by omega) (by omega); omega⟩⟩
          · skip
            have h14 := oQ_topS iv0 (by omega) (by omega) (by omega)
            refine r_aload_n C (j := 0) (oDec_at oX12_dropsToMark 15 rfl) rfl rfl ?_
            have lk18 : ((t).1 71 47).toInt = v1.toInt := congrArg Int32.toInt (ev1)
            have lk19 : ((t).1 71 47).toInt = v1.toInt := congrArg Int32.toInt (ev1)
            refine r_callVv C oCl12 rfl miX12_drops mlX12_289 (ct_X12_drops l E (t)  (by omega) (by omega)) (by decide) rfl rfl rfl (Nat.le_of_ble_eq_true rfl) (oDec_at oX12_dropsToMark 16 rfl) (fun u20 pu20 fu20 => ?_)
            try dsimp only at pu20
            try simp only [lk18, lk19] at pu20
            obtain ⟨pu20_0, pu20_1, pu20_2⟩ := pu20
            have hq22 : oQ b x (u20) := oQ_drop iv0 pu20_0 (by omega) (by omega) (by omega) (by omega)
            have hq23 : oMk m (u20) := oMk_drop iv1 pu20_0 (by omega) (by omega)
            refine r_goto C (tgt := 0) (oDec_at oX12_dropsToMark 17 rfl) (by decide) ?_
            have lk24 : ((u20).1 71 55).toInt = v3.toInt := congrArg Int32.toInt (((fu20 71 55 rfl).1).trans (ev3))
            have lk25 : ((u20).1 71 5).toInt = (t.1 71 5).toInt := congrArg Int32.toInt ((fu20 71 5 rfl).1)
            exact (ih (n - 1) (by omega)) (u20)   hq22 hq23 (by omega) (by omega) (by omega) (by omega) (by omega) (by omega)
  exact (key (((s).1 71 47).toInt + 1).toNat) (s)   hp0 hp1 (by omega) (by omega) (by omega) (by omega) (by omega) (by omega)
set_option maxHeartbeats 4000000 in
set_option maxRecDepth 100000 in
theorem ct_X12_rulePart (l : Launch) (E : oE) (s : oS)    : oMet l 4 yX12_rulePart cX12_rulePart 1 (some .int) [(12, 2), (12, 4)] E s [.ref (oad E 71)] (oPi (fun r u => (r.toInt = -1 ∨ (40 ≤ r.toInt ∧ r.toInt ≤ 47 ∧ (s.1 71 2).toInt + 2 ≤ (u.1 71 2).toInt)) ∧ ((s.1 71 2).toInt ≤ (u.1 71 2).toInt))) := by
  refine oMet.of (lv := [(0, .ref (oad E 71))]) (by decide +kernel) (Nat.le_of_ble_eq_true rfl) rfl (fun J C hT => ?_)
  have C : oC l 4 cX12_rulePart RX12 1 (some .int) [(12, 2), (12, 4)] E s (oPi (fun r u => (r.toInt = -1 ∨ (40 ≤ r.toInt ∧ r.toInt ≤ 47 ∧ (s.1 71 2).toInt + 2 ≤ (u.1 71 2).toInt)) ∧ ((s.1 71 2).toInt ≤ (u.1 71 2).toInt))) J := C
  obtain ⟨km1, qkm1⟩ : ∃ z : Int32, z = (-1) := ⟨_, rfl⟩
  have ekm1 : km1.toInt = (-1) := by rw [qkm1]; rfl
  obtain ⟨k40, qk40⟩ : ∃ z : Int32, z = 40 := ⟨_, rfl⟩
  have ek40 : k40.toInt = 40 := by rw [qk40]; rfl
  obtain ⟨k41, qk41⟩ : ∃ z : Int32, z = 41 := ⟨_, rfl⟩
  have ek41 : k41.toInt = 41 := by rw [qk41]; rfl
  obtain ⟨k42, qk42⟩ : ∃ z : Int32, z = 42 := ⟨_, rfl⟩
  have ek42 : k42.toInt = 42 := by rw [qk42]; rfl
  obtain ⟨k43, qk43⟩ : ∃ z : Int32, z = 43 := ⟨_, rfl⟩
  have ek43 : k43.toInt = 43 := by rw [qk43]; rfl
  obtain ⟨k44, qk44⟩ : ∃ z : Int32, z = 44 := ⟨_, rfl⟩
  have ek44 : k44.toInt = 44 := by rw [qk44]; rfl
  obtain ⟨k45, qk45⟩ : ∃ z : Int32, z = 45 := ⟨_, rfl⟩
  have ek45 : k45.toInt = 45 := by rw [qk45]; rfl
  obtain ⟨k46, qk46⟩ : ∃ z : Int32, z = 46 := ⟨_, rfl⟩
  have ek46 : k46.toInt = 46 := by rw [qk46]; rfl
  obtain ⟨k47, qk47⟩ : ∃ z : Int32, z = 47 := ⟨_, rfl⟩
  have ek47 : k47.toInt = 47 := by rw [qk47]; rfl
  refine r_aload_n C (j := 0) (oDec_at oX12_rulePart 0 rfl) rfl rfl ?_
  refine r_aload_n C (j := 0) (oDec_at oX12_rulePart 1 rfl) rfl rfl ?_
  refine r_getF (k := 21) (b := 84) C oCl12 rfl (by decide) flX12_51 rfl rfl rfl (oDec_at oX12_rulePart 2 rfl) ?_
  refine r_callVi C oCl12 rfl miX12_takes mlX12_200 (ct_X12_takes l E (s) 84 60 3 rfl (by decide) (by decide) rfl rfl (by omega)) (by decide) rfl rfl rfl (Nat.le_of_ble_eq_true rfl) (oDec_at oX12_rulePart 3 rfl) (fun r2 u1 pu1 fu1 => ?_)
  try dsimp only at pu1
  obtain ⟨pu1_0, pu1_1, pu1_2⟩ := pu1
  have rr2 := n_rng r2
  refine r_if_eq C 14 (oDec_at oX12_rulePart 4 rfl) (by decide) (fun cd3 => ?_) (fun cd3 => ?_)
  · skip
    refine r_aload_n C (j := 0) (oDec_at oX12_rulePart 7 rfl) rfl rfl ?_
    refine r_aload_n C (j := 0) (oDec_at oX12_rulePart 8 rfl) rfl rfl ?_
    refine r_getF (k := 22) (b := 85) C oCl12 rfl (by decide) flX12_54 rfl rfl rfl (oDec_at oX12_rulePart 9 rfl) ?_
    have lk4 : ((u1).1 71 5).toInt = (s.1 71 5).toInt := congrArg Int32.toInt ((fu1 71 5 rfl).1)
    refine r_callVi C oCl12 rfl miX12_takes mlX12_200 (ct_X12_takes l E (u1) 85 61 4 rfl (by decide) (by decide) rfl rfl (by omega)) (by decide) rfl rfl rfl (Nat.le_of_ble_eq_true rfl) (oDec_at oX12_rulePart 10 rfl) (fun r6 u5 pu5 fu5 => ?_)
    try dsimp only at pu5
    try simp only [lk4] at pu5
    obtain ⟨pu5_0, pu5_1, pu5_2⟩ := pu5
    have rr6 := n_rng r6
    refine r_if_eq C 28 (oDec_at oX12_rulePart 11 rfl) (by decide) (fun cd7 => ?_) (fun cd7 => ?_)
    · skip
      refine r_aload_n C (j := 0) (oDec_at oX12_rulePart 14 rfl) rfl rfl ?_
      refine r_aload_n C (j := 0) (oDec_at oX12_rulePart 15 rfl) rfl rfl ?_
      refine r_getF (k := 23) (b := 86) C oCl12 rfl (by decide) flX12_57 rfl rfl rfl (oDec_at oX12_rulePart 16 rfl) ?_
      have lk8 : ((u5).1 71 5).toInt = (s.1 71 5).toInt := congrArg Int32.toInt (((fu5 71 5 rfl).1).trans ((fu1 71 5 rfl).1))
      refine r_callVi C oCl12 rfl miX12_takes mlX12_200 (ct_X12_takes l E (u5) 86 62 5 rfl (by decide) (by decide) rfl rfl (by omega)) (by decide) rfl rfl rfl (Nat.le_of_ble_eq_true rfl) (oDec_at oX12_rulePart 17 rfl) (fun r10 u9 pu9 fu9 => ?_)
      try dsimp only at pu9
      try simp only [lk8] at pu9
      obtain ⟨pu9_0, pu9_1, pu9_2⟩ := pu9
      have rr10 := n_rng r10
      refine r_if_eq C 42 (oDec_at oX12_rulePart 18 rfl) (by decide) (fun cd11 => ?_) (fun cd11 => ?_)
      · skip
        refine r_aload_n C (j := 0) (oDec_at oX12_rulePart 21 rfl) rfl rfl ?_
        refine r_aload_n C (j := 0) (oDec_at oX12_rulePart 22 rfl) rfl rfl ?_
        refine r_getF (k := 24) (b := 87) C oCl12 rfl (by decide) flX12_60 rfl rfl rfl (oDec_at oX12_rulePart 23 rfl) ?_
        have lk12 : ((u9).1 71 5).toInt = (s.1 71 5).toInt := congrArg Int32.toInt (((fu9 71 5 rfl).1).trans (((fu5 71 5 rfl).1).trans ((fu1 71 5 rfl).1)))
        refine r_callVi C oCl12 rfl miX12_takes mlX12_200 (ct_X12_takes l E (u9) 87 63 4 rfl (by decide) (by decide) rfl rfl (by omega)) (by decide) rfl rfl rfl (Nat.le_of_ble_eq_true rfl) (oDec_at oX12_rulePart 24 rfl) (fun r14 u13 pu13 fu13 => ?_)
        try dsimp only at pu13
        try simp only [lk12] at pu13
        obtain ⟨pu13_0, pu13_1, pu13_2⟩ := pu13
        have rr14 := n_rng r14
        refine r_if_eq C 56 (oDec_at oX12_rulePart 25 rfl) (by decide) (fun cd15 => ?_) (fun cd15 => ?_)
        · skip
          refine r_aload_n C (j := 0) (oDec_at oX12_rulePart 28 rfl) rfl rfl ?_
          refine r_aload_n C (j := 0) (oDec_at oX12_rulePart 29 rfl) rfl rfl ?_
          refine r_getF (k := 25) (b := 88) C oCl12 rfl (by decide) flX12_63 rfl rfl rfl (oDec_at oX12_rulePart 30 rfl) ?_
          have lk16 : ((u13).1 71 5).toInt = (s.1 71 5).toInt := congrArg Int32.toInt (((fu13 71 5 rfl).1).trans (((fu9 71 5 rfl).1).trans (((fu5 71 5 rfl).1).trans ((fu1 71 5 rfl).1))))
          refine r_callVi C oCl12 rfl miX12_takes mlX12_200 (ct_X12_takes l E (u13) 88 64 4 rfl (by decide) (by decide) rfl rfl (by omega)) (by decide) rfl rfl rfl (Nat.le_of_ble_eq_true rfl) (oDec_at oX12_rulePart 31 rfl) (fun r18 u17 pu17 fu17 => ?_)
          try dsimp only at pu17
          try simp only [lk16] at pu17
          obtain ⟨pu17_0, pu17_1, pu17_2⟩ := pu17
          have rr18 := n_rng r18
          refine r_if_eq C 70 (oDec_at oX12_rulePart 32 rfl) (by decide) (fun cd19 => ?_) (fun cd19 => ?_)
          · skip
            refine r_aload_n C (j := 0) (oDec_at oX12_rulePart 35 rfl) rfl rfl ?_
            refine r_aload_n C (j := 0) (oDec_at oX12_rulePart 36 rfl) rfl rfl ?_
            refine r_getF (k := 26) (b := 89) C oCl12 rfl (by decide) flX12_66 rfl rfl rfl (oDec_at oX12_rulePart 37 rfl) ?_
            have lk20 : ((u17).1 71 5).toInt = (s.1 71 5).toInt := congrArg Int32.toInt (((fu17 71 5 rfl).1).trans (((fu13 71 5 rfl).1).trans (((fu9 71 5 rfl).1).trans (((fu5 71 5 rfl).1).trans ((fu1 71 5 rfl).1)))))
            refine r_callVi C oCl12 rfl miX12_takes mlX12_200 (ct_X12_takes l E (u17) 89 65 5 rfl (by decide) (by decide) rfl rfl (by omega)) (by decide) rfl rfl rfl (Nat.le_of_ble_eq_true rfl) (oDec_at oX12_rulePart 38 rfl) (fun r22 u21 pu21 fu21 => ?_)
            try dsimp only at pu21
            try simp only [lk20] at pu21
            obtain ⟨pu21_0, pu21_1, pu21_2⟩ := pu21
            have rr22 := n_rng r22
            refine r_if_eq C 84 (oDec_at oX12_rulePart 39 rfl) (by decide) (fun cd23 => ?_) (fun cd23 => ?_)
            · skip
              refine r_aload_n C (j := 0) (oDec_at oX12_rulePart 42 rfl) rfl rfl ?_
              refine r_aload_n C (j := 0) (oDec_at oX12_rulePart 43 rfl) rfl rfl ?_
              refine r_getF (k := 27) (b := 90) C oCl12 rfl (by decide) flX12_69 rfl rfl rfl (oDec_at oX12_rulePart 44 rfl) ?_
              have lk24 : ((u21).1 71 5).toInt = (s.1 71 5).toInt := congrArg Int32.toInt (((fu21 71 5 rfl).1).trans (((fu17 71 5 rfl).1).trans (((fu13 71 5 rfl).1).trans (((fu9 71 5 rfl).1).trans (((fu5 71 5 rfl).1).trans ((fu1 71 5 rfl).1))))))
              refine r_callVi C oCl12 rfl miX12_takes mlX12_200 (ct_X12_takes l E (u21) 90 66 3 rfl (by decide) (by decide) rfl rfl (by omega)) (by decide) rfl rfl rfl (Nat.le_of_ble_eq_true rfl) (oDec_at oX12_rulePart 45 rfl) (fun r26 u25 pu25 fu25 => ?_)
              try dsimp only at pu25
              try simp only [lk24] at pu25
              obtain ⟨pu25_0, pu25_1, pu25_2⟩ := pu25
              have rr26 := n_rng r26
              refine r_if_eq C 98 (oDec_at oX12_rulePart 46 rfl) (by decide) (fun cd27 => ?_) (fun cd27 => ?_)
              · skip
                refine r_aload_n C (j := 0) (oDec_at oX12_rulePart 49 rfl) rfl rfl ?_
                refine r_aload_n C (j := 0) (oDec_at oX12_rulePart 50 rfl) rfl rfl ?_
                refine r_getF (k := 28) (b := 91) C oCl12 rfl (by decide) flX12_72 rfl rfl rfl (oDec_at oX12_rulePart 51 rfl) ?_
                have lk28 : ((u25).1 71 5).toInt = (s.1 71 5).toInt := congrArg Int32.toInt (((fu25 71 5 rfl).1).trans (((fu21 71 5 rfl).1).trans (((fu17 71 5 rfl).1).trans (((fu13 71 5 rfl).1).trans (((fu9 71 5 rfl).1).trans (((fu5 71 5 rfl).1).trans ((fu1 71 5 rfl).1)))))))
                refine r_callVi C oCl12 rfl miX12_takes mlX12_200 (ct_X12_takes l E (u25) 91 67 4 rfl (by decide) (by decide) rfl rfl (by omega)) (by decide) rfl rfl rfl (Nat.le_of_ble_eq_true rfl) (oDec_at oX12_rulePart 52 rfl) (fun r30 u29 pu29 fu29 => ?_)
                try dsimp only at pu29
                try simp only [lk28] at pu29
                obtain ⟨pu29_0, pu29_1, pu29_2⟩ := pu29
                have rr30 := n_rng r30
                refine r_if_eq C 114 (oDec_at oX12_rulePart 53 rfl) (by decide) (fun cd31 => ?_) (fun cd31 => ?_)
                · skip
                  refine r_iconst C (oDec_at oX12_rulePart 56 rfl) (v := km1) (by rw [qkm1]; rfl) ?_
                  exact r_iret C (oDec_at oX12_rulePart 57 rfl) ⟨_, rfl, ⟨by omega, by omega⟩⟩
                · skip
                  refine r_bipush C (oDec_at oX12_rulePart 54 rfl) (v := k47) (by rw [qk47]; rfl) ?_
                  refine r_goto C (tgt := 115) (oDec_at oX12_rulePart 55 rfl) (by decide) ?_
                  exact r_iret C (oDec_at oX12_rulePart 57 rfl) ⟨_, rfl, ⟨by omega, by omega⟩⟩
              · skip
                refine r_bipush C (oDec_at oX12_rulePart 47 rfl) (v := k46) (by rw [qk46]; rfl) ?_
                exact r_iret C (oDec_at oX12_rulePart 48 rfl) ⟨_, rfl, ⟨by omega, by omega⟩⟩
            · skip
              refine r_bipush C (oDec_at oX12_rulePart 40 rfl) (v := k45) (by rw [qk45]; rfl) ?_
              exact r_iret C (oDec_at oX12_rulePart 41 rfl) ⟨_, rfl, ⟨by omega, by omega⟩⟩
          · skip
            refine r_bipush C (oDec_at oX12_rulePart 33 rfl) (v := k44) (by rw [qk44]; rfl) ?_
            exact r_iret C (oDec_at oX12_rulePart 34 rfl) ⟨_, rfl, ⟨by omega, by omega⟩⟩
        · skip
          refine r_bipush C (oDec_at oX12_rulePart 26 rfl) (v := k43) (by rw [qk43]; rfl) ?_
          exact r_iret C (oDec_at oX12_rulePart 27 rfl) ⟨_, rfl, ⟨by omega, by omega⟩⟩
      · skip
        refine r_bipush C (oDec_at oX12_rulePart 19 rfl) (v := k42) (by rw [qk42]; rfl) ?_
        exact r_iret C (oDec_at oX12_rulePart 20 rfl) ⟨_, rfl, ⟨by omega, by omega⟩⟩
    · skip
      refine r_bipush C (oDec_at oX12_rulePart 12 rfl) (v := k41) (by rw [qk41]; rfl) ?_
      exact r_iret C (oDec_at oX12_rulePart 13 rfl) ⟨_, rfl, ⟨by omega, by omega⟩⟩
  · skip
    refine r_bipush C (oDec_at oX12_rulePart 5 rfl) (v := k40) (by rw [qk40]; rfl) ?_
    exact r_iret C (oDec_at oX12_rulePart 6 rfl) ⟨_, rfl, ⟨by omega, by omega⟩⟩
set_option maxHeartbeats 4000000 in
set_option maxRecDepth 100000 in
theorem ct_X12_mottoPart (l : Launch) (E : oE) (s : oS)    : oMet l 4 yX12_mottoPart cX12_mottoPart 1 (some .int) [(12, 2), (12, 4)] E s [.ref (oad E 71)] (oPi (fun r u => (r.toInt = -1 ∨ (40 ≤ r.toInt ∧ r.toInt ≤ 47 ∧ (s.1 71 2).toInt + 2 ≤ (u.1 71 2).toInt)) ∧ ((s.1 71 2).toInt ≤ (u.1 71 2).toInt))) := by
  refine oMet.of (lv := [(0, .ref (oad E 71))]) (by decide +kernel) (Nat.le_of_ble_eq_true rfl) rfl (fun J C hT => ?_)
  have C : oC l 4 cX12_mottoPart RX12 1 (some .int) [(12, 2), (12, 4)] E s (oPi (fun r u => (r.toInt = -1 ∨ (40 ≤ r.toInt ∧ r.toInt ≤ 47 ∧ (s.1 71 2).toInt + 2 ≤ (u.1 71 2).toInt)) ∧ ((s.1 71 2).toInt ≤ (u.1 71 2).toInt))) J := C
  obtain ⟨km1, qkm1⟩ : ∃ z : Int32, z = (-1) := ⟨_, rfl⟩
  have ekm1 : km1.toInt = (-1) := by rw [qkm1]; rfl
  obtain ⟨k40, qk40⟩ : ∃ z : Int32, z = 40 := ⟨_, rfl⟩
  have ek40 : k40.toInt = 40 := by rw [qk40]; rfl
  obtain ⟨k41, qk41⟩ : ∃ z : Int32, z = 41 := ⟨_, rfl⟩
  have ek41 : k41.toInt = 41 := by rw [qk41]; rfl
  obtain ⟨k42, qk42⟩ : ∃ z : Int32, z = 42 := ⟨_, rfl⟩
  have ek42 : k42.toInt = 42 := by rw [qk42]; rfl
  obtain ⟨k43, qk43⟩ : ∃ z : Int32, z = 43 := ⟨_, rfl⟩
  have ek43 : k43.toInt = 43 := by rw [qk43]; rfl
  obtain ⟨k44, qk44⟩ : ∃ z : Int32, z = 44 := ⟨_, rfl⟩
  have ek44 : k44.toInt = 44 := by rw [qk44]; rfl
  refine r_aload_n C (j := 0) (oDec_at oX12_mottoPart 0 rfl) rfl rfl ?_
  refine r_aload_n C (j := 0) (oDec_at oX12_mottoPart 1 rfl) rfl rfl ?_
  refine r_getF (k := 29) (b := 92) C oCl12 rfl (by decide) flX12_75 rfl rfl rfl (oDec_at oX12_mottoPart 2 rfl) ?_
  refine r_callVi C oCl12 rfl miX12_takes mlX12_200 (ct_X12_takes l E (s) 92 68 5 rfl (by decide) (by decide) rfl rfl (by omega)) (by decide) rfl rfl rfl (Nat.le_of_ble_eq_true rfl) (oDec_at oX12_mottoPart 3 rfl) (fun r2 u1 pu1 fu1 => ?_)
  try dsimp only at pu1
  obtain ⟨pu1_0, pu1_1, pu1_2⟩ := pu1
  have rr2 := n_rng r2
  refine r_if_eq C 14 (oDec_at oX12_mottoPart 4 rfl) (by decide) (fun cd3 => ?_) (fun cd3 => ?_)
  · skip
    refine r_aload_n C (j := 0) (oDec_at oX12_mottoPart 7 rfl) rfl rfl ?_
    refine r_aload_n C (j := 0) (oDec_at oX12_mottoPart 8 rfl) rfl rfl ?_
    refine r_getF (k := 30) (b := 93) C oCl12 rfl (by decide) flX12_78 rfl rfl rfl (oDec_at oX12_mottoPart 9 rfl) ?_
    have lk4 : ((u1).1 71 5).toInt = (s.1 71 5).toInt := congrArg Int32.toInt ((fu1 71 5 rfl).1)
    refine r_callVi C oCl12 rfl miX12_takes mlX12_200 (ct_X12_takes l E (u1) 93 69 4 rfl (by decide) (by decide) rfl rfl (by omega)) (by decide) rfl rfl rfl (Nat.le_of_ble_eq_true rfl) (oDec_at oX12_mottoPart 10 rfl) (fun r6 u5 pu5 fu5 => ?_)
    try dsimp only at pu5
    try simp only [lk4] at pu5
    obtain ⟨pu5_0, pu5_1, pu5_2⟩ := pu5
    have rr6 := n_rng r6
    refine r_if_eq C 28 (oDec_at oX12_mottoPart 11 rfl) (by decide) (fun cd7 => ?_) (fun cd7 => ?_)
    · skip
      refine r_aload_n C (j := 0) (oDec_at oX12_mottoPart 14 rfl) rfl rfl ?_
      refine r_aload_n C (j := 0) (oDec_at oX12_mottoPart 15 rfl) rfl rfl ?_
      refine r_getF (k := 31) (b := 94) C oCl12 rfl (by decide) flX12_81 rfl rfl rfl (oDec_at oX12_mottoPart 16 rfl) ?_
      have lk8 : ((u5).1 71 5).toInt = (s.1 71 5).toInt := congrArg Int32.toInt (((fu5 71 5 rfl).1).trans ((fu1 71 5 rfl).1))
      refine r_callVi C oCl12 rfl miX12_takes mlX12_200 (ct_X12_takes l E (u5) 94 70 6 rfl (by decide) (by decide) rfl rfl (by omega)) (by decide) rfl rfl rfl (Nat.le_of_ble_eq_true rfl) (oDec_at oX12_mottoPart 17 rfl) (fun r10 u9 pu9 fu9 => ?_)
      try dsimp only at pu9
      try simp only [lk8] at pu9
      obtain ⟨pu9_0, pu9_1, pu9_2⟩ := pu9
      have rr10 := n_rng r10
      refine r_if_eq C 42 (oDec_at oX12_mottoPart 18 rfl) (by decide) (fun cd11 => ?_) (fun cd11 => ?_)
      · skip
        refine r_aload_n C (j := 0) (oDec_at oX12_mottoPart 21 rfl) rfl rfl ?_
        refine r_aload_n C (j := 0) (oDec_at oX12_mottoPart 22 rfl) rfl rfl ?_
        refine r_getF (k := 32) (b := 95) C oCl12 rfl (by decide) flX12_84 rfl rfl rfl (oDec_at oX12_mottoPart 23 rfl) ?_
        have lk12 : ((u9).1 71 5).toInt = (s.1 71 5).toInt := congrArg Int32.toInt (((fu9 71 5 rfl).1).trans (((fu5 71 5 rfl).1).trans ((fu1 71 5 rfl).1)))
        refine r_callVi C oCl12 rfl miX12_takes mlX12_200 (ct_X12_takes l E (u9) 95 71 4 rfl (by decide) (by decide) rfl rfl (by omega)) (by decide) rfl rfl rfl (Nat.le_of_ble_eq_true rfl) (oDec_at oX12_mottoPart 24 rfl) (fun r14 u13 pu13 fu13 => ?_)
        try dsimp only at pu13
        try simp only [lk12] at pu13
        obtain ⟨pu13_0, pu13_1, pu13_2⟩ := pu13
        have rr14 := n_rng r14
        refine r_if_eq C 56 (oDec_at oX12_mottoPart 25 rfl) (by decide) (fun cd15 => ?_) (fun cd15 => ?_)
        · skip
          refine r_aload_n C (j := 0) (oDec_at oX12_mottoPart 28 rfl) rfl rfl ?_
          refine r_aload_n C (j := 0) (oDec_at oX12_mottoPart 29 rfl) rfl rfl ?_
          refine r_getF (k := 33) (b := 96) C oCl12 rfl (by decide) flX12_87 rfl rfl rfl (oDec_at oX12_mottoPart 30 rfl) ?_
          have lk16 : ((u13).1 71 5).toInt = (s.1 71 5).toInt := congrArg Int32.toInt (((fu13 71 5 rfl).1).trans (((fu9 71 5 rfl).1).trans (((fu5 71 5 rfl).1).trans ((fu1 71 5 rfl).1))))
          refine r_callVi C oCl12 rfl miX12_takes mlX12_200 (ct_X12_takes l E (u13) 96 72 4 rfl (by decide) (by decide) rfl rfl (by omega)) (by decide) rfl rfl rfl (Nat.le_of_ble_eq_true rfl) (oDec_at oX12_mottoPart 31 rfl) (fun r18 u17 pu17 fu17 => ?_)
          try dsimp only at pu17
          try simp only [lk16] at pu17
          obtain ⟨pu17_0, pu17_1, pu17_2⟩ := pu17
          have rr18 := n_rng r18
          refine r_if_eq C 72 (oDec_at oX12_mottoPart 32 rfl) (by decide) (fun cd19 => ?_) (fun cd19 => ?_)
          · skip
            refine r_iconst C (oDec_at oX12_mottoPart 35 rfl) (v := km1) (by rw [qkm1]; rfl) ?_
            exact r_iret C (oDec_at oX12_mottoPart 36 rfl) ⟨_, rfl, ⟨by omega, by omega⟩⟩
          · skip
            refine r_bipush C (oDec_at oX12_mottoPart 33 rfl) (v := k44) (by rw [qk44]; rfl) ?_
            refine r_goto C (tgt := 73) (oDec_at oX12_mottoPart 34 rfl) (by decide) ?_
            exact r_iret C (oDec_at oX12_mottoPart 36 rfl) ⟨_, rfl, ⟨by omega, by omega⟩⟩
        · skip
          refine r_bipush C (oDec_at oX12_mottoPart 26 rfl) (v := k43) (by rw [qk43]; rfl) ?_
          exact r_iret C (oDec_at oX12_mottoPart 27 rfl) ⟨_, rfl, ⟨by omega, by omega⟩⟩
      · skip
        refine r_bipush C (oDec_at oX12_mottoPart 19 rfl) (v := k42) (by rw [qk42]; rfl) ?_
        exact r_iret C (oDec_at oX12_mottoPart 20 rfl) ⟨_, rfl, ⟨by omega, by omega⟩⟩
    · skip
      refine r_bipush C (oDec_at oX12_mottoPart 12 rfl) (v := k41) (by rw [qk41]; rfl) ?_
      exact r_iret C (oDec_at oX12_mottoPart 13 rfl) ⟨_, rfl, ⟨by omega, by omega⟩⟩
  · skip
    refine r_bipush C (oDec_at oX12_mottoPart 5 rfl) (v := k40) (by rw [qk40]; rfl) ?_
    exact r_iret C (oDec_at oX12_mottoPart 6 rfl) ⟨_, rfl, ⟨by omega, by omega⟩⟩
set_option maxHeartbeats 4000000 in
set_option maxRecDepth 100000 in
theorem ct_X12_onePart (l : Launch) (E : oE) (s : oS)  (b : Nat) (x : Nat) (hp0 : oQ b x s) (hp1 : (b : Int) ≤ 1700) (hp2 : (s.1 71 5).toInt = 0) (hp3 : 0 ≤ (s.1 71 48).toInt ∧ (s.1 71 48).toInt ≤ 6) (hp4 : (s.1 71 45).toInt + (s.1 71 47).toInt + 5 ≤ (s.1 71 2).toInt) : oMet l 5 yX12_onePart cX12_onePart 5 none [(12, 2), (12, 4), (12, 5), (12, 6), (12, 9), (12, 45), (12, 47), (12, 48), (78, 9999), (79, 9999)] E s [.ref (oad E 71)] (oPv (fun u => (oQ b (x + 1) u) ∧ (0 ≤ (u.1 71 48).toInt ∧ (u.1 71 48).toInt ≤ 6) ∧ ((s.1 71 2).toInt - (s.1 71 45).toInt - (s.1 71 47).toInt ≤ (u.1 71 2).toInt - (u.1 71 45).toInt - (u.1 71 47).toInt + 1) ∧ ((u.1 71 5).toInt = 0 → ((s.1 71 2).toInt - (s.1 71 45).toInt - (s.1 71 47).toInt ≤ (u.1 71 2).toInt - (u.1 71 45).toInt - (u.1 71 47).toInt ∧ (s.1 71 2).toInt + 1 ≤ (u.1 71 2).toInt)) ∧ ((s.1 71 2).toInt ≤ (u.1 71 2).toInt))) := by
  refine oMet.of (lv := [(0, .ref (oad E 71))]) (by decide +kernel) (Nat.le_of_ble_eq_true rfl) rfl (fun J C hT => ?_)
  have C : oC l 5 cX12_onePart RX12 5 none [(12, 2), (12, 4), (12, 5), (12, 6), (12, 9), (12, 45), (12, 47), (12, 48), (78, 9999), (79, 9999)] E s (oPv (fun u => (oQ b (x + 1) u) ∧ (0 ≤ (u.1 71 48).toInt ∧ (u.1 71 48).toInt ≤ 6) ∧ ((s.1 71 2).toInt - (s.1 71 45).toInt - (s.1 71 47).toInt ≤ (u.1 71 2).toInt - (u.1 71 45).toInt - (u.1 71 47).toInt + 1) ∧ ((u.1 71 5).toInt = 0 → ((s.1 71 2).toInt - (s.1 71 45).toInt - (s.1 71 47).toInt ≤ (u.1 71 2).toInt - (u.1 71 45).toInt - (u.1 71 47).toInt ∧ (s.1 71 2).toInt + 1 ≤ (u.1 71 2).toInt)) ∧ ((s.1 71 2).toInt ≤ (u.1 71 2).toInt))) J := C
  obtain ⟨km1, qkm1⟩ : ∃ z : Int32, z = (-1) := ⟨_, rfl⟩
  have ekm1 : km1.toInt = (-1) := by rw [qkm1]; rfl
  obtain ⟨k0, qk0⟩ : ∃ z : Int32, z = 0 := ⟨_, rfl⟩
  have ek0 : k0.toInt = 0 := by rw [qk0]; rfl
  obtain ⟨k1, qk1⟩ : ∃ z : Int32, z = 1 := ⟨_, rfl⟩
  have ek1 : k1.toInt = 1 := by rw [qk1]; rfl
  obtain ⟨k20, qk20⟩ : ∃ z : Int32, z = 20 := ⟨_, rfl⟩
  have ek20 : k20.toInt = 20 := by rw [qk20]; rfl
  obtain ⟨k21, qk21⟩ : ∃ z : Int32, z = 21 := ⟨_, rfl⟩
  have ek21 : k21.toInt = 21 := by rw [qk21]; rfl
  obtain ⟨k22, qk22⟩ : ∃ z : Int32, z = 22 := ⟨_, rfl⟩
  have ek22 : k22.toInt = 22 := by rw [qk22]; rfl
  obtain ⟨k40, qk40⟩ : ∃ z : Int32, z = 40 := ⟨_, rfl⟩
  have ek40 : k40.toInt = 40 := by rw [qk40]; rfl
  obtain ⟨k1000, qk1000⟩ : ∃ z : Int32, z = 1000 := ⟨_, rfl⟩
  have ek1000 : k1000.toInt = 1000 := by rw [qk1000]; rfl
  obtain ⟨k9999, qk9999⟩ : ∃ z : Int32, z = 9999 := ⟨_, rfl⟩
  have ek9999 : k9999.toInt = 9999 := by rw [qk9999]; rfl
  have key : ∀ n : Nat, (∀ (t : oS) (x1 : Int32), (oQ b x t) → (0 ≤ x1.toInt ∧ x1.toInt ≤ 1) → (0 ≤ (t.1 71 48).toInt ∧ (t.1 71 48).toInt ≤ 6) → ((s.1 71 2).toInt - (s.1 71 45).toInt - (s.1 71 47).toInt ≤ (t.1 71 2).toInt - (t.1 71 45).toInt - (t.1 71 47).toInt) → ((s.1 71 2).toInt ≤ (t.1 71 2).toInt) → 3 * (1601 - (t.1 71 2).toInt) + x1.toInt + oB1 (t.1 71 5) ≤ (n : Int) → J t 2 [(0, .ref (oad E 71)), (1, .int x1)] []) := by
    intro n
    induction n using Nat.strongRecOn with
    | _ n ih =>
      skip
      · intro t x1  iv0 iv1 iv2 iv3 iv4 hmu
        have rx1 := n_rng x1
        have hj0 := oB1_f (t.1 71 5)
        refine r_ty C (fun hty => ?_)
        have hty_coded : (0 : Int) ≤ ((t).1 71 45).toInt ∧ ((t).1 71 45).toInt ≤ 1600 := hty.1 71 45
        have hty_waits : (0 : Int) ≤ ((t).1 71 47).toInt ∧ ((t).1 71 47).toInt ≤ 1700 := hty.1 71 47
        have hty_at : (0 : Int) ≤ ((t).1 71 2).toInt ∧ ((t).1 71 2).toInt ≤ 1600 := hty.1 71 2
        clear hty
        refine r_iload_n C (j := 1) (oDec_at oX12_onePart 2 rfl) rfl rfl ?_
        refine r_if_eq C 146 (oDec_at oX12_onePart 3 rfl) (by decide) (fun cd1 => ?_) (fun cd1 => ?_)
        · skip
          refine r_aload_n C (j := 0) (oDec_at oX12_onePart 73 rfl) rfl rfl ?_
          obtain ⟨v2, ev2⟩ : ∃ z : Int32, (t).1 71 5 = z := ⟨_, rfl⟩
          have gv2 : (t.1 71 5).toInt = v2.toInt := congrArg Int32.toInt (ev2)
          have rv2 := n_rng v2
          refine r_geti (k := 5) (lo := (-2147483648)) (hi := 2147483647) C v2 oCl12 rfl (by decide) flX12_173 rfl rfl (ev2) rfl rfl (oDec_at oX12_onePart 74 rfl) (fun _ _ => ?_)
          refine r_if_eq C 154 (oDec_at oX12_onePart 75 rfl) (by decide) (fun cd3 => ?_) (fun cd3 => ?_)
          · skip
            refine r_aload_n C (j := 0) (oDec_at oX12_onePart 77 rfl) rfl rfl ?_
            obtain ⟨v4, ev4⟩ : ∃ z : Int32, (t).1 71 56 = z := ⟨_, rfl⟩
            have gv4 : (t.1 71 56).toInt = v4.toInt := congrArg Int32.toInt (ev4)
            refine r_geti (k := 56) (lo := 0) (hi := 1) C v4 oCl12 rfl (by decide) flX12_295 rfl rfl (ev4) rfl rfl (oDec_at oX12_onePart 78 rfl) (fun b5 b5h => ?_)
            refine r_if_eq C 168 (oDec_at oX12_onePart 79 rfl) (by decide) (fun cd6 => ?_) (fun cd6 => ?_)
            · skip
              refine r_aload_n C (j := 0) (oDec_at oX12_onePart 83 rfl) rfl rfl ?_
              refine r_callVi C oCl12 rfl miX12_rulePart mlX12_301 (ct_X12_rulePart l E (t)  ) (by decide) rfl rfl rfl (Nat.le_of_ble_eq_true rfl) (oDec_at oX12_onePart 84 rfl) (fun r8 u7 pu7 fu7 => ?_)
              try dsimp only at pu7
              obtain ⟨pu7_0, pu7_1⟩ := pu7
              have rr8 := n_rng r8
              refine r_istore_n C (lv' := [(0, .ref (oad E 71)), (1, .int x1), (2, .int r8)]) [1, 2, 0] (oDec_at oX12_onePart 85 rfl) rfl (by decide) rfl ?_
              refine r_aload_n C (j := 0) (oDec_at oX12_onePart 86 rfl) rfl rfl ?_
              refine r_iload_n C (j := 2) (oDec_at oX12_onePart 87 rfl) rfl rfl ?_
              refine r_iconst C (oDec_at oX12_onePart 88 rfl) (v := km1) (by rw [qkm1]; rfl) ?_
              refine r_pc C 176 rfl ?_
              refine r_icmp_eq C 183 (oDec_at oX12_onePart 89 rfl) (by decide) (fun cd9 => ?_) (fun cd9 => ?_)
              · skip
                refine r_sipush C (oDec_at oX12_onePart 92 rfl) (v := k1000) (by rw [qk1000]; rfl) ?_
                refine r_aload_n C (j := 0) (oDec_at oX12_onePart 93 rfl) rfl rfl ?_
                refine r_iconst C (oDec_at oX12_onePart 94 rfl) (v := k0) (by rw [qk0]; rfl) ?_
                refine r_sipush C (oDec_at oX12_onePart 95 rfl) (v := k9999) (by rw [qk9999]; rfl) ?_
                have lk10 : ((u7).1 71 5).toInt = v2.toInt := congrArg Int32.toInt (((fu7 71 5 rfl).1).trans (ev2))
                have lk11 : ((u7).1 71 5).toInt = v2.toInt := congrArg Int32.toInt (((fu7 71 5 rfl).1).trans (ev2))
                refine r_callVi C oCl12 rfl miX12_number mlX12_244 (ct_X12_number l E (u7) k0 k9999 ) (by decide) rfl rfl rfl (Nat.le_of_ble_eq_true rfl) (oDec_at oX12_onePart 96 rfl) (fun r13 u12 pu12 fu12 => ?_)
                try dsimp only at pu12
                try simp only [lk10, lk11] at pu12
                obtain ⟨pu12_0, pu12_1, pu12_2, pu12_3⟩ := pu12
                have rr13 := n_rng r13
                obtain ⟨v14, ev14⟩ : ∃ z : Int32, z = k1000 + r13 := ⟨_, rfl⟩
                have hv14 : v14.toInt = k1000.toInt + r13.toInt := n_add ev14 (by omega) (by omega)
                refine r_iadd C v14 (oDec_at oX12_onePart 97 rfl) ev14 ?_
                refine r_pc C 195 rfl ?_
                have lk15 : ((u12).1 71 45).toInt = (t.1 71 45).toInt := congrArg Int32.toInt (((fu12 71 45 rfl).1).trans ((fu7 71 45 rfl).1))
                have lk16 : ((u12).1 71 45).toInt = (t.1 71 45).toInt := congrArg Int32.toInt (((fu12 71 45 rfl).1).trans ((fu7 71 45 rfl).1))
                have lk17 : ((u12).1 71 45).toInt = (t.1 71 45).toInt := congrArg Int32.toInt (((fu12 71 45 rfl).1).trans ((fu7 71 45 rfl).1))
                refine r_callVv C oCl12 rfl miX12_lay mlX12_280 (ct_X12_lay l E (u12) v14 (by omega)) (by decide) rfl rfl rfl (Nat.le_of_ble_eq_true rfl) (oDec_at oX12_onePart 98 rfl) (fun u18 pu18 fu18 => ?_)
                try dsimp only at pu18
                try simp only [lk16, lk17] at pu18
                obtain ⟨pu18_0, pu18_1⟩ := pu18
                have hq20 : oQ b (x + 1) (u18) := oQ_opnd (oQ_frb fu12 rfl (by omega) (oQ_fr fu7 rfl iv0)) pu18_0 (by omega) (by omega)
                have lk21 : ((u18).1 71 48).toInt = (t.1 71 48).toInt := congrArg Int32.toInt (((fu18 71 48 rfl).1).trans (((fu12 71 48 rfl).1).trans ((fu7 71 48 rfl).1)))
                have lk22 : ((u18).1 71 2).toInt = (u12.1 71 2).toInt := congrArg Int32.toInt ((fu18 71 2 rfl).1)
                have lk23 : ((u18).1 71 47).toInt = (t.1 71 47).toInt := congrArg Int32.toInt (((fu18 71 47 rfl).1).trans (((fu12 71 47 rfl).1).trans ((fu7 71 47 rfl).1)))
                have lk24 : ((u18).1 71 5).toInt = (u12.1 71 5).toInt := congrArg Int32.toInt ((fu18 71 5 rfl).1)
                have lk25 : ((u18).1 71 2).toInt = (u12.1 71 2).toInt := congrArg Int32.toInt ((fu18 71 2 rfl).1)
                have lk26 : ((u18).1 71 47).toInt = (t.1 71 47).toInt := congrArg Int32.toInt (((fu18 71 47 rfl).1).trans (((fu12 71 47 rfl).1).trans ((fu7 71 47 rfl).1)))
                have lk27 : ((u18).1 71 2).toInt = (u12.1 71 2).toInt := congrArg Int32.toInt ((fu18 71 2 rfl).1)
                exact r_vret C (oDec_at oX12_onePart 99 rfl) ⟨rfl, ⟨hq20, by omega, by omega, by omega, by omega⟩⟩
              · skip
                refine r_iload_n C (j := 2) (oDec_at oX12_onePart 90 rfl) rfl rfl ?_
                refine r_goto C (tgt := 195) (oDec_at oX12_onePart 91 rfl) (by decide) ?_
                have lk28 : ((u7).1 71 45).toInt = (t.1 71 45).toInt := congrArg Int32.toInt ((fu7 71 45 rfl).1)
                have lk29 : ((u7).1 71 45).toInt = (t.1 71 45).toInt := congrArg Int32.toInt ((fu7 71 45 rfl).1)
                have lk30 : ((u7).1 71 45).toInt = (t.1 71 45).toInt := congrArg Int32.toInt ((fu7 71 45 rfl).1)
                refine r_callVv C oCl12 rfl miX12_lay mlX12_280 (ct_X12_lay l E (u7) r8 (by omega)) (by decide) rfl rfl rfl (Nat.le_of_ble_eq_true rfl) (oDec_at oX12_onePart 98 rfl) (fun u31 pu31 fu31 => ?_)
                try dsimp only at pu31
                try simp only [lk29, lk30] at pu31
                obtain ⟨pu31_0, pu31_1⟩ := pu31
                have hq33 : oQ b (x + 1) (u31) := oQ_opnd (oQ_fr fu7 rfl iv0) pu31_0 (by omega) (by omega)
                have lk34 : ((u31).1 71 48).toInt = (t.1 71 48).toInt := congrArg Int32.toInt (((fu31 71 48 rfl).1).trans ((fu7 71 48 rfl).1))
                have lk35 : ((u31).1 71 2).toInt = (u7.1 71 2).toInt := congrArg Int32.toInt ((fu31 71 2 rfl).1)
                have lk36 : ((u31).1 71 47).toInt = (t.1 71 47).toInt := congrArg Int32.toInt (((fu31 71 47 rfl).1).trans ((fu7 71 47 rfl).1))
                have lk37 : ((u31).1 71 5).toInt = v2.toInt := congrArg Int32.toInt (((fu31 71 5 rfl).1).trans (((fu7 71 5 rfl).1).trans (ev2)))
                have lk38 : ((u31).1 71 2).toInt = (u7.1 71 2).toInt := congrArg Int32.toInt ((fu31 71 2 rfl).1)
                have lk39 : ((u31).1 71 47).toInt = (t.1 71 47).toInt := congrArg Int32.toInt (((fu31 71 47 rfl).1).trans ((fu7 71 47 rfl).1))
                have lk40 : ((u31).1 71 2).toInt = (u7.1 71 2).toInt := congrArg Int32.toInt ((fu31 71 2 rfl).1)
                exact r_vret C (oDec_at oX12_onePart 99 rfl) ⟨rfl, ⟨hq33, by omega, by omega, by omega, by omega⟩⟩
            · skip
              refine r_aload_n C (j := 0) (oDec_at oX12_onePart 80 rfl) rfl rfl ?_
              refine r_callVi C oCl12 rfl miX12_mottoPart mlX12_298 (ct_X12_mottoPart l E (t)  ) (by decide) rfl rfl rfl (Nat.le_of_ble_eq_true rfl) (oDec_at oX12_onePart 81 rfl) (fun r42 u41 pu41 fu41 => ?_)
              try dsimp only at pu41
              obtain ⟨pu41_0, pu41_1⟩ := pu41
              have rr42 := n_rng r42
              refine r_goto C (tgt := 172) (oDec_at oX12_onePart 82 rfl) (by decide) ?_
              refine r_istore_n C (lv' := [(0, .ref (oad E 71)), (1, .int x1), (2, .int r42)]) [1, 2, 0] (oDec_at oX12_onePart 85 rfl) rfl (by decide) rfl ?_
              refine r_aload_n C (j := 0) (oDec_at oX12_onePart 86 rfl) rfl rfl ?_
              refine r_iload_n C (j := 2) (oDec_at oX12_onePart 87 rfl) rfl rfl ?_
              refine r_iconst C (oDec_at oX12_onePart 88 rfl) (v := km1) (by rw [qkm1]; rfl) ?_
              refine r_pc C 176 rfl ?_
              refine r_icmp_eq C 183 (oDec_at oX12_onePart 89 rfl) (by decide) (fun cd43 => ?_) (fun cd43 => ?_)
              · skip
                refine r_sipush C (oDec_at oX12_onePart 92 rfl) (v := k1000) (by rw [qk1000]; rfl) ?_
                refine r_aload_n C (j := 0) (oDec_at oX12_onePart 93 rfl) rfl rfl ?_
                refine r_iconst C (oDec_at oX12_onePart 94 rfl) (v := k0) (by rw [qk0]; rfl) ?_
                refine r_sipush C (oDec_at oX12_onePart 95 rfl) (v := k9999) (by rw [qk9999]; rfl) ?_
                have lk44 : ((u41).1 71 5).toInt = v2.toInt := congrArg Int32.toInt (((fu41 71 5 rfl).1).trans (ev2))
                have lk45 : ((u41).1 71 5).toInt = v2.toInt := congrArg Int32.toInt (((fu41 71 5 rfl).1).trans (ev2))
                refine r_callVi C oCl12 rfl miX12_number mlX12_244 (ct_X12_number l E (u41) k0 k9999 ) (by decide) rfl rfl rfl (Nat.le_of_ble_eq_true rfl) (oDec_at oX12_onePart 96 rfl) (fun r47 u46 pu46 fu46 => ?_)
                try dsimp only at pu46
                try simp only [lk44, lk45] at pu46
                obtain ⟨pu46_0, pu46_1, pu46_2, pu46_3⟩ := pu46
                have rr47 := n_rng r47
                obtain ⟨v48, ev48⟩ : ∃ z : Int32, z = k1000 + r47 := ⟨_, rfl⟩
                have hv48 : v48.toInt = k1000.toInt + r47.toInt := n_add ev48 (by omega) (by omega)
                refine r_iadd C v48 (oDec_at oX12_onePart 97 rfl) ev48 ?_
                refine r_pc C 195 rfl ?_
                have lk49 : ((u46).1 71 45).toInt = (t.1 71 45).toInt := congrArg Int32.toInt (((fu46 71 45 rfl).1).trans ((fu41 71 45 rfl).1))
                have lk50 : ((u46).1 71 45).toInt = (t.1 71 45).toInt := congrArg Int32.toInt (((fu46 71 45 rfl).1).trans ((fu41 71 45 rfl).1))
                have lk51 : ((u46).1 71 45).toInt = (t.1 71 45).toInt := congrArg Int32.toInt (((fu46 71 45 rfl).1).trans ((fu41 71 45 rfl).1))
                refine r_callVv C oCl12 rfl miX12_lay mlX12_280 (ct_X12_lay l E (u46) v48 (by omega)) (by decide) rfl rfl rfl (Nat.le_of_ble_eq_true rfl) (oDec_at oX12_onePart 98 rfl) (fun u52 pu52 fu52 => ?_)
                try dsimp only at pu52
                try simp only [lk50, lk51] at pu52
                obtain ⟨pu52_0, pu52_1⟩ := pu52
                have hq54 : oQ b (x + 1) (u52) := oQ_opnd (oQ_frb fu46 rfl (by omega) (oQ_fr fu41 rfl iv0)) pu52_0 (by omega) (by omega)
                have lk55 : ((u52).1 71 48).toInt = (t.1 71 48).toInt := congrArg Int32.toInt (((fu52 71 48 rfl).1).trans (((fu46 71 48 rfl).1).trans ((fu41 71 48 rfl).1)))
                have lk56 : ((u52).1 71 2).toInt = (u46.1 71 2).toInt := congrArg Int32.toInt ((fu52 71 2 rfl).1)
                have lk57 : ((u52).1 71 47).toInt = (t.1 71 47).toInt := congrArg Int32.toInt (((fu52 71 47 rfl).1).trans (((fu46 71 47 rfl).1).trans ((fu41 71 47 rfl).1)))
                have lk58 : ((u52).1 71 5).toInt = (u46.1 71 5).toInt := congrArg Int32.toInt ((fu52 71 5 rfl).1)
                have lk59 : ((u52).1 71 2).toInt = (u46.1 71 2).toInt := congrArg Int32.toInt ((fu52 71 2 rfl).1)
                have lk60 : ((u52).1 71 47).toInt = (t.1 71 47).toInt := congrArg Int32.toInt (((fu52 71 47 rfl).1).trans (((fu46 71 47 rfl).1).trans ((fu41 71 47 rfl).1)))
                have lk61 : ((u52).1 71 2).toInt = (u46.1 71 2).toInt := congrArg Int32.toInt ((fu52 71 2 rfl).1)
                exact r_vret C (oDec_at oX12_onePart 99 rfl) ⟨rfl, ⟨hq54, by omega, by omega, by omega, by omega⟩⟩
              · skip
                refine r_iload_n C (j := 2) (oDec_at oX12_onePart 90 rfl) rfl rfl ?_
                refine r_goto C (tgt := 195) (oDec_at oX12_onePart 91 rfl) (by decide) ?_
                have lk62 : ((u41).1 71 45).toInt = (t.1 71 45).toInt := congrArg Int32.toInt ((fu41 71 45 rfl).1)
                have lk63 : ((u41).1 71 45).toInt = (t.1 71 45).toInt := congrArg Int32.toInt ((fu41 71 45 rfl).1)
                have lk64 : ((u41).1 71 45).toInt = (t.1 71 45).toInt := congrArg Int32.toInt ((fu41 71 45 rfl).1)
                refine r_callVv C oCl12 rfl miX12_lay mlX12_280 (ct_X12_lay l E (u41) r42 (by omega)) (by decide) rfl rfl rfl (Nat.le_of_ble_eq_true rfl) (oDec_at oX12_onePart 98 rfl) (fun u65 pu65 fu65 => ?_)
                try dsimp only at pu65
                try simp only [lk63, lk64] at pu65
                obtain ⟨pu65_0, pu65_1⟩ := pu65
                have hq67 : oQ b (x + 1) (u65) := oQ_opnd (oQ_fr fu41 rfl iv0) pu65_0 (by omega) (by omega)
                have lk68 : ((u65).1 71 48).toInt = (t.1 71 48).toInt := congrArg Int32.toInt (((fu65 71 48 rfl).1).trans ((fu41 71 48 rfl).1))
                have lk69 : ((u65).1 71 2).toInt = (u41.1 71 2).toInt := congrArg Int32.toInt ((fu65 71 2 rfl).1)
                have lk70 : ((u65).1 71 47).toInt = (t.1 71 47).toInt := congrArg Int32.toInt (((fu65 71 47 rfl).1).trans ((fu41 71 47 rfl).1))
                have lk71 : ((u65).1 71 5).toInt = v2.toInt := congrArg Int32.toInt (((fu65 71 5 rfl).1).trans (((fu41 71 5 rfl).1).trans (ev2)))
                have lk72 : ((u65).1 71 2).toInt = (u41.1 71 2).toInt := congrArg Int32.toInt ((fu65 71 2 rfl).1)
                have lk73 : ((u65).1 71 47).toInt = (t.1 71 47).toInt := congrArg Int32.toInt (((fu65 71 47 rfl).1).trans ((fu41 71 47 rfl).1))
                have lk74 : ((u65).1 71 2).toInt = (u41.1 71 2).toInt := congrArg Int32.toInt ((fu65 71 2 rfl).1)
                exact r_vret C (oDec_at oX12_onePart 99 rfl) ⟨rfl, ⟨hq67, by omega, by omega, by omega, by omega⟩⟩
          · skip
            have hq75 : oQ b (x + 1) (t) := oQ_bad iv0 (by omega)
            have lk76 : ((t).1 71 5).toInt = v2.toInt := congrArg Int32.toInt (ev2)
            exact r_vret C (oDec_at oX12_onePart 76 rfl) ⟨rfl, ⟨hq75, by omega, by omega, by omega, by omega⟩⟩
        · skip
          refine r_aload_n C (j := 0) (oDec_at oX12_onePart 4 rfl) rfl rfl ?_
          obtain ⟨v77, ev77⟩ : ∃ z : Int32, (t).1 71 5 = z := ⟨_, rfl⟩
          have gv77 : (t.1 71 5).toInt = v77.toInt := congrArg Int32.toInt (ev77)
          have rv77 := n_rng v77
          refine r_geti (k := 5) (lo := (-2147483648)) (hi := 2147483647) C v77 oCl12 rfl (by decide) flX12_173 rfl rfl (ev77) rfl rfl (oDec_at oX12_onePart 5 rfl) (fun _ _ => ?_)
          refine r_if_ne C 146 (oDec_at oX12_onePart 6 rfl) (by decide) (fun cd78 => ?_) (fun cd78 => ?_)
          · skip
            refine r_aload_n C (j := 0) (oDec_at oX12_onePart 73 rfl) rfl rfl ?_
            refine r_geti (k := 5) (lo := (-2147483648)) (hi := 2147483647) C v77 oCl12 rfl (by decide) flX12_173 rfl rfl (ev77) rfl rfl (oDec_at oX12_onePart 74 rfl) (fun _ _ => ?_)
            refine r_if_eq C 154 (oDec_at oX12_onePart 75 rfl) (by decide) (fun cd79 => ?_) (fun cd79 => ?_)
            · omega
            · skip
              have hq80 : oQ b (x + 1) (t) := oQ_bad iv0 (by omega)
              have lk81 : ((t).1 71 5).toInt = v77.toInt := congrArg Int32.toInt (ev77)
              exact r_vret C (oDec_at oX12_onePart 76 rfl) ⟨rfl, ⟨hq80, by omega, by omega, by omega, by omega⟩⟩
          · skip
            refine r_aload_n C (j := 0) (oDec_at oX12_onePart 7 rfl) rfl rfl ?_
            refine r_callVi C oCl12 rfl miX12_look mlX12_185 (ct_X12_look l E (t)  ) (by decide) rfl rfl rfl (Nat.le_of_ble_eq_true rfl) (oDec_at oX12_onePart 8 rfl) (fun r83 u82 pu82 fu82 => ?_)
            try dsimp only at pu82
            obtain ⟨pu82_0, pu82_1⟩ := pu82
            obtain ⟨v84, ev84⟩ : ∃ z : Int32, (u82).1 71 2 = z := ⟨_, rfl⟩
            have gv84 : (u82.1 71 2).toInt = v84.toInt := congrArg Int32.toInt ev84
            have lt85 : ((u82).1 72 ((u82).1 71 2).toNatClampNeg).toInt = (t.1 72 v84.toNatClampNeg).toInt := by rw [ev84, show (u82).1 72 v84.toNatClampNeg = t.1 72 v84.toNatClampNeg from (fu82 72 v84.toNatClampNeg rfl).1]
            have lu86 : ((u82).1 71 2).toInt = v84.toInt := congrArg Int32.toInt (ev84)
            have lu87 : ((u82).1 71 2).toInt = v84.toInt := congrArg Int32.toInt (ev84)
            have lu88 : ((u82).1 71 3).toInt = (t.1 71 3).toInt := congrArg Int32.toInt ((fu82 71 3 rfl).1)
            have rr83 := n_rng r83
            refine r_istore_n C (lv' := [(0, .ref (oad E 71)), (1, .int x1), (2, .int r83)]) [1, 2, 0] (oDec_at oX12_onePart 9 rfl) rfl (by decide) rfl ?_
            refine r_iload_n C (j := 2) (oDec_at oX12_onePart 10 rfl) rfl rfl ?_
            refine r_bipush C (oDec_at oX12_onePart 11 rfl) (v := k40) (by rw [qk40]; rfl) ?_
            refine r_icmp_ne C 47 (oDec_at oX12_onePart 12 rfl) (by decide) (fun cd89 => ?_) (fun cd89 => ?_)
            · skip
              refine r_aload_n C (j := 0) (oDec_at oX12_onePart 25 rfl) rfl rfl ?_
              refine r_aload_n C (j := 0) (oDec_at oX12_onePart 26 rfl) rfl rfl ?_
              refine r_getF (k := 34) (b := 97) C oCl12 rfl (by decide) flX12_90 rfl rfl rfl (oDec_at oX12_onePart 27 rfl) ?_
              have lk90 : ((u82).1 71 2).toInt = v84.toInt := congrArg Int32.toInt (ev84)
              have lk91 : ((u82).1 71 5).toInt = v77.toInt := congrArg Int32.toInt (((fu82 71 5 rfl).1).trans (ev77))
              refine r_callVi C oCl12 rfl miX12_isHere mlX12_196 (ct_X12_isHere l E (u82) 97 73 3 rfl (by decide) (by decide) rfl rfl (by omega)) (by decide) rfl rfl rfl (Nat.le_of_ble_eq_true rfl) (oDec_at oX12_onePart 28 rfl) (fun r93 u92 pu92 fu92 => ?_)
              try dsimp only at pu92
              try simp only [lk90, lk91] at pu92
              obtain ⟨pu92_0, pu92_1, pu92_2⟩ := pu92
              have rr93 := n_rng r93
              refine r_if_ne C 69 (oDec_at oX12_onePart 29 rfl) (by decide) (fun cd94 => ?_) (fun cd94 => ?_)
              · skip
                refine r_aload_n C (j := 0) (oDec_at oX12_onePart 35 rfl) rfl rfl ?_
                refine r_aload_n C (j := 0) (oDec_at oX12_onePart 36 rfl) rfl rfl ?_
                refine r_getF (k := 34) (b := 97) C oCl12 rfl (by decide) flX12_90 rfl rfl rfl (oDec_at oX12_onePart 37 rfl) ?_
                have lk95 : ((u92).1 71 5).toInt = v77.toInt := congrArg Int32.toInt (((fu92 71 5 rfl).1).trans (((fu82 71 5 rfl).1).trans (ev77)))
                refine r_callVi C oCl12 rfl miX12_takes mlX12_200 (ct_X12_takes l E (u92) 97 73 3 rfl (by decide) (by decide) rfl rfl (by omega)) (by decide) rfl rfl rfl (Nat.le_of_ble_eq_true rfl) (oDec_at oX12_onePart 38 rfl) (fun r97 u96 pu96 fu96 => ?_)
                try dsimp only at pu96
                try simp only [lk95] at pu96
                obtain ⟨pu96_0, pu96_1, pu96_2⟩ := pu96
                have rr97 := n_rng r97
                refine r_istore_n C (lv' := [(0, .ref (oad E 71)), (1, .int x1), (2, .int r83), (3, .int r97)]) [1, 2, 3, 0] (oDec_at oX12_onePart 39 rfl) rfl (by decide) rfl ?_
                refine r_iload_n C (j := 3) (oDec_at oX12_onePart 40 rfl) rfl rfl ?_
                refine r_pc C 79 rfl ?_
                refine r_if_ne C 90 (oDec_at oX12_onePart 41 rfl) (by decide) (fun cd98 => ?_) (fun cd98 => ?_)
                · skip
                  refine r_aload_n C (j := 0) (oDec_at oX12_onePart 46 rfl) rfl rfl ?_
                  refine r_callVi C oCl12 rfl miX12_look mlX12_185 (ct_X12_look l E (u96)  ) (by decide) rfl rfl rfl (Nat.le_of_ble_eq_true rfl) (oDec_at oX12_onePart 47 rfl) (fun r100 u99 pu99 fu99 => ?_)
                  try dsimp only at pu99
                  obtain ⟨pu99_0, pu99_1⟩ := pu99
                  obtain ⟨v101, ev101⟩ : ∃ z : Int32, (u99).1 71 2 = z := ⟨_, rfl⟩
                  have gv101 : (u99.1 71 2).toInt = v101.toInt := congrArg Int32.toInt ev101
                  have lt102 : ((u99).1 72 ((u99).1 71 2).toNatClampNeg).toInt = (t.1 72 v101.toNatClampNeg).toInt := by rw [ev101, show (u99).1 72 v101.toNatClampNeg = t.1 72 v101.toNatClampNeg from ((fu99 72 v101.toNatClampNeg rfl).1).trans (((fu96 72 v101.toNatClampNeg rfl).1).trans (((fu92 72 v101.toNatClampNeg rfl).1).trans ((fu82 72 v101.toNatClampNeg rfl).1)))]
                  have lu103 : ((u99).1 71 2).toInt = v101.toInt := congrArg Int32.toInt (ev101)
                  have lu104 : ((u99).1 71 2).toInt = v101.toInt := congrArg Int32.toInt (ev101)
                  have lu105 : ((u99).1 71 3).toInt = (t.1 71 3).toInt := congrArg Int32.toInt (((fu99 71 3 rfl).1).trans (((fu96 71 3 rfl).1).trans (((fu92 71 3 rfl).1).trans ((fu82 71 3 rfl).1))))
                  have rr100 := n_rng r100
                  refine r_bipush C (oDec_at oX12_onePart 48 rfl) (v := k40) (by rw [qk40]; rfl) ?_
                  refine r_icmp_ne C 106 (oDec_at oX12_onePart 49 rfl) (by decide) (fun cd106 => ?_) (fun cd106 => ?_)
                  · skip
                    refine r_iconst C (oDec_at oX12_onePart 53 rfl) (v := km1) (by rw [qkm1]; rfl) ?_
                    refine r_istore C (lv' := [(0, .ref (oad E 71)), (1, .int x1), (2, .int r83), (3, .int r97), (4, .int km1)]) [1, 2, 3, 4, 0] (oDec_at oX12_onePart 54 rfl) (by decide) rfl ?_
                    refine r_iload C (j := 4) (oDec_at oX12_onePart 55 rfl) rfl ?_
                    refine r_iconst C (oDec_at oX12_onePart 56 rfl) (v := km1) (by rw [qkm1]; rfl) ?_
                    refine r_icmp_eq C 132 (oDec_at oX12_onePart 57 rfl) (by decide) (fun cd107 => ?_) (fun cd107 => ?_)
                    · skip
                      have hq108 : oQ b x (u99) := by first | exact oQ_opens fu99 rfl (oQ_fr fu96 rfl (oQ_fr fu92 rfl (oQ_fr fu82 rfl iv0))) pu99_1 (by omega) (by omega) (by omega) | exact (oQ_fr fu99 rfl (oQ_fr fu96 rfl (oQ_fr fu92 rfl (oQ_fr fu82 rfl iv0))))
                      refine r_aload_n C (j := 0) (oDec_at oX12_onePart 66 rfl) rfl rfl ?_
                      refine r_bipush C (oDec_at oX12_onePart 67 rfl) (v := k40) (by rw [qk40]; rfl) ?_
                      have lk109 : ((u99).1 71 2).toInt = v101.toInt := congrArg Int32.toInt (ev101)
                      have lk110 : ((u99).1 71 5).toInt = v77.toInt := congrArg Int32.toInt (((fu99 71 5 rfl).1).trans (((fu96 71 5 rfl).1).trans (((fu92 71 5 rfl).1).trans (((fu82 71 5 rfl).1).trans (ev77)))))
                      have lk111 : ((u99).1 71 2).toInt = v101.toInt := congrArg Int32.toInt (ev101)
                      refine r_callVv C oCl12 rfl miX12_asksSign mlX12_248 (ct_X12_asksSign l E (u99) k40 (by omega)) (by decide) rfl rfl rfl (Nat.le_of_ble_eq_true rfl) (oDec_at oX12_onePart 68 rfl) (fun u112 pu112 fu112 => ?_)
                      try dsimp only at pu112
                      try simp only [lk109, lk110, lk111] at pu112
                      obtain ⟨pu112_0, pu112_1⟩ := pu112
                      refine r_goto C (tgt := 143) (oDec_at oX12_onePart 69 rfl) (by decide) ?_
                      refine r_goto C (tgt := 2) (oDec_at oX12_onePart 72 rfl) (by decide) ?_
                      have lk114 : ((u112).1 71 48).toInt = (t.1 71 48).toInt := congrArg Int32.toInt (((fu112 71 48 rfl).1).trans (((fu99 71 48 rfl).1).trans (((fu96 71 48 rfl).1).trans (((fu92 71 48 rfl).1).trans ((fu82 71 48 rfl).1)))))
                      have lk115 : ((u112).1 71 45).toInt = (t.1 71 45).toInt := congrArg Int32.toInt (((fu112 71 45 rfl).1).trans (((fu99 71 45 rfl).1).trans (((fu96 71 45 rfl).1).trans (((fu92 71 45 rfl).1).trans ((fu82 71 45 rfl).1)))))
                      have lk116 : ((u112).1 71 47).toInt = (t.1 71 47).toInt := congrArg Int32.toInt (((fu112 71 47 rfl).1).trans (((fu99 71 47 rfl).1).trans (((fu96 71 47 rfl).1).trans (((fu92 71 47 rfl).1).trans ((fu82 71 47 rfl).1)))))
                      have hj := oB1_f ((u112).1 71 5)
                      refine r_pick C [0, 1] rfl ?_
                      exact (ih (n - 1) (by omega)) (u112) x1  (oQ_frb fu112 rfl (by omega) hq108) (by omega) (by omega) (by omega) (by omega) (by omega)
                    · omega
                  · skip
                    refine r_aload_n C (j := 0) (oDec_at oX12_onePart 50 rfl) rfl rfl ?_
                    refine r_geti (k := 2) (lo := 0) (hi := 1600) C v101 oCl12 rfl (by decide) flX12_179 rfl rfl (ev101) rfl rfl (oDec_at oX12_onePart 51 rfl) (fun b117 b117h => ?_)
                    refine r_goto C (tgt := 107) (oDec_at oX12_onePart 52 rfl) (by decide) ?_
                    refine r_istore C (lv' := [(0, .ref (oad E 71)), (1, .int x1), (2, .int r83), (3, .int r97), (4, .int v101)]) [1, 2, 3, 4, 0] (oDec_at oX12_onePart 54 rfl) (by decide) rfl ?_
                    refine r_iload C (j := 4) (oDec_at oX12_onePart 55 rfl) rfl ?_
                    refine r_iconst C (oDec_at oX12_onePart 56 rfl) (v := km1) (by rw [qkm1]; rfl) ?_
                    refine r_icmp_eq C 132 (oDec_at oX12_onePart 57 rfl) (by decide) (fun cd118 => ?_) (fun cd118 => ?_)
                    · skip
                      have hq119 : oQ b x (u99) := by first | exact oQ_opens fu99 rfl (oQ_fr fu96 rfl (oQ_fr fu92 rfl (oQ_fr fu82 rfl iv0))) pu99_1 (by omega) (by omega) (by omega) | exact (oQ_fr fu99 rfl (oQ_fr fu96 rfl (oQ_fr fu92 rfl (oQ_fr fu82 rfl iv0))))
                      refine r_aload_n C (j := 0) (oDec_at oX12_onePart 66 rfl) rfl rfl ?_
                      refine r_bipush C (oDec_at oX12_onePart 67 rfl) (v := k40) (by rw [qk40]; rfl) ?_
                      have lk120 : ((u99).1 71 2).toInt = v101.toInt := congrArg Int32.toInt (ev101)
                      have lk121 : ((u99).1 71 5).toInt = v77.toInt := congrArg Int32.toInt (((fu99 71 5 rfl).1).trans (((fu96 71 5 rfl).1).trans (((fu92 71 5 rfl).1).trans (((fu82 71 5 rfl).1).trans (ev77)))))
                      have lk122 : ((u99).1 71 2).toInt = v101.toInt := congrArg Int32.toInt (ev101)
                      refine r_callVv C oCl12 rfl miX12_asksSign mlX12_248 (ct_X12_asksSign l E (u99) k40 (by omega)) (by decide) rfl rfl rfl (Nat.le_of_ble_eq_true rfl) (oDec_at oX12_onePart 68 rfl) (fun u123 pu123 fu123 => ?_)
                      try dsimp only at pu123
                      try simp only [lk120, lk121, lk122] at pu123
                      obtain ⟨pu123_0, pu123_1⟩ := pu123
                      refine r_goto C (tgt := 143) (oDec_at oX12_onePart 69 rfl) (by decide) ?_
                      refine r_goto C (tgt := 2) (oDec_at oX12_onePart 72 rfl) (by decide) ?_
                      have lk125 : ((u123).1 71 48).toInt = (t.1 71 48).toInt := congrArg Int32.toInt (((fu123 71 48 rfl).1).trans (((fu99 71 48 rfl).1).trans (((fu96 71 48 rfl).1).trans (((fu92 71 48 rfl).1).trans ((fu82 71 48 rfl).1)))))
                      have lk126 : ((u123).1 71 45).toInt = (t.1 71 45).toInt := congrArg Int32.toInt (((fu123 71 45 rfl).1).trans (((fu99 71 45 rfl).1).trans (((fu96 71 45 rfl).1).trans (((fu92 71 45 rfl).1).trans ((fu82 71 45 rfl).1)))))
                      have lk127 : ((u123).1 71 47).toInt = (t.1 71 47).toInt := congrArg Int32.toInt (((fu123 71 47 rfl).1).trans (((fu99 71 47 rfl).1).trans (((fu96 71 47 rfl).1).trans (((fu92 71 47 rfl).1).trans ((fu82 71 47 rfl).1)))))
                      have hj := oB1_f ((u123).1 71 5)
                      refine r_pick C [0, 1] rfl ?_
                      exact (ih (n - 1) (by omega)) (u123) x1  (oQ_frb fu123 rfl (by omega) hq119) (by omega) (by omega) (by omega) (by omega) (by omega)
                    · skip
                      refine r_aload_n C (j := 0) (oDec_at oX12_onePart 58 rfl) rfl rfl ?_
                      refine r_iload_n C (j := 3) (oDec_at oX12_onePart 59 rfl) rfl rfl ?_
                      refine r_if_eq C 125 (oDec_at oX12_onePart 60 rfl) (by decide) (fun cd128 => ?_) (fun cd128 => ?_)
                      · omega
                      · skip
                        refine r_bipush C (oDec_at oX12_onePart 61 rfl) (v := k21) (by rw [qk21]; rfl) ?_
                        refine r_goto C (tgt := 127) (oDec_at oX12_onePart 62 rfl) (by decide) ?_
                        refine r_iload C (j := 4) (oDec_at oX12_onePart 64 rfl) rfl ?_
                        have lk129 : ((u99).1 71 47).toInt = (t.1 71 47).toInt := congrArg Int32.toInt (((fu99 71 47 rfl).1).trans (((fu96 71 47 rfl).1).trans (((fu92 71 47 rfl).1).trans ((fu82 71 47 rfl).1))))
                        have lk130 : ((u99).1 71 47).toInt = (t.1 71 47).toInt := congrArg Int32.toInt (((fu99 71 47 rfl).1).trans (((fu96 71 47 rfl).1).trans (((fu92 71 47 rfl).1).trans ((fu82 71 47 rfl).1))))
                        have lk131 : ((u99).1 71 48).toInt = (t.1 71 48).toInt := congrArg Int32.toInt (((fu99 71 48 rfl).1).trans (((fu96 71 48 rfl).1).trans (((fu92 71 48 rfl).1).trans ((fu82 71 48 rfl).1))))
                        have lk132 : ((u99).1 71 48).toInt = (t.1 71 48).toInt := congrArg Int32.toInt (((fu99 71 48 rfl).1).trans (((fu96 71 48 rfl).1).trans (((fu92 71 48 rfl).1).trans ((fu82 71 48 rfl).1))))
                        have lk133 : ((u99).1 71 47).toInt = (t.1 71 47).toInt := congrArg Int32.toInt (((fu99 71 47 rfl).1).trans (((fu96 71 47 rfl).1).trans (((fu92 71 47 rfl).1).trans ((fu82 71 47 rfl).1))))
                        have lk134 : ((u99).1 71 5).toInt = v77.toInt := congrArg Int32.toInt (((fu99 71 5 rfl).1).trans (((fu96 71 5 rfl).1).trans (((fu92 71 5 rfl).1).trans (((fu82 71 5 rfl).1).trans (ev77)))))
                        have lk135 : ((u99).1 71 5).toInt = v77.toInt := congrArg Int32.toInt (((fu99 71 5 rfl).1).trans (((fu96 71 5 rfl).1).trans (((fu92 71 5 rfl).1).trans (((fu82 71 5 rfl).1).trans (ev77)))))
                        refine r_callVv C oCl12 rfl miX12_opens mlX12_292 (ct_X12_opens l E (u99) k21 v101 (by omega) (by omega)) (by decide) rfl rfl rfl (Nat.le_of_ble_eq_true rfl) (oDec_at oX12_onePart 65 rfl) (fun u136 pu136 fu136 => ?_)
                        try dsimp only at pu136
                        try simp only [lk130, lk131, lk132, lk133, lk134, lk135] at pu136
                        obtain ⟨pu136_0, pu136_1, pu136_2⟩ := pu136
                        have hq138 : oQ b x (u136) := by first | exact oQ_opens fu136 rfl (oQ_fr fu99 rfl (oQ_fr fu96 rfl (oQ_fr fu92 rfl (oQ_fr fu82 rfl iv0)))) pu136_1 (by omega) (by omega) (by omega) | exact (by assumption)
                        refine r_aload_n C (j := 0) (oDec_at oX12_onePart 66 rfl) rfl rfl ?_
                        refine r_bipush C (oDec_at oX12_onePart 67 rfl) (v := k40) (by rw [qk40]; rfl) ?_
                        have lk139 : ((u136).1 71 2).toInt = v101.toInt := congrArg Int32.toInt (((fu136 71 2 rfl).1).trans (ev101))
                        have lk140 : ((u136).1 71 2).toInt = v101.toInt := congrArg Int32.toInt (((fu136 71 2 rfl).1).trans (ev101))
                        refine r_callVv C oCl12 rfl miX12_asksSign mlX12_248 (ct_X12_asksSign l E (u136) k40 (by omega)) (by decide) rfl rfl rfl (Nat.le_of_ble_eq_true rfl) (oDec_at oX12_onePart 68 rfl) (fun u141 pu141 fu141 => ?_)
                        try dsimp only at pu141
                        try simp only [lk139, lk140] at pu141
                        obtain ⟨pu141_0, pu141_1⟩ := pu141
                        refine r_pc C 138 rfl ?_
                        refine r_goto C (tgt := 143) (oDec_at oX12_onePart 69 rfl) (by decide) ?_
                        refine r_goto C (tgt := 2) (oDec_at oX12_onePart 72 rfl) (by decide) ?_
                        have lk143 : ((u141).1 71 48).toInt = (u136.1 71 48).toInt := congrArg Int32.toInt ((fu141 71 48 rfl).1)
                        have lk144 : ((u141).1 71 45).toInt = (t.1 71 45).toInt := congrArg Int32.toInt (((fu141 71 45 rfl).1).trans (((fu136 71 45 rfl).1).trans (((fu99 71 45 rfl).1).trans (((fu96 71 45 rfl).1).trans (((fu92 71 45 rfl).1).trans ((fu82 71 45 rfl).1))))))
                        have lk145 : ((u141).1 71 47).toInt = (u136.1 71 47).toInt := congrArg Int32.toInt ((fu141 71 47 rfl).1)
                        have hj := oB1_f ((u141).1 71 5)
                        refine r_pick C [0, 1] rfl ?_
                        exact (ih (n - 1) (by omega)) (u141) x1  (oQ_frb fu141 rfl (by omega) hq138) (by omega) (by omega) (by omega) (by omega) (by omega)
                · skip
                  refine r_aload_n C (j := 0) (oDec_at oX12_onePart 42 rfl) rfl rfl ?_
                  refine r_aload_n C (j := 0) (oDec_at oX12_onePart 43 rfl) rfl rfl ?_
                  refine r_getF (k := 35) (b := 98) C oCl12 rfl (by decide) flX12_93 rfl rfl rfl (oDec_at oX12_onePart 44 rfl) ?_
                  have lk146 : ((u96).1 71 5).toInt = v77.toInt := congrArg Int32.toInt (((fu96 71 5 rfl).1).trans (((fu92 71 5 rfl).1).trans (((fu82 71 5 rfl).1).trans (ev77))))
                  refine r_callVv C oCl12 rfl miX12_asks mlX12_240 (ct_X12_asks l E (u96) 98 74 3 rfl (by decide) (by decide) rfl rfl (by omega)) (by decide) rfl rfl rfl (Nat.le_of_ble_eq_true rfl) (oDec_at oX12_onePart 45 rfl) (fun u147 pu147 fu147 => ?_)
                  try dsimp only at pu147
                  try simp only [lk146] at pu147
                  obtain ⟨pu147_0, pu147_1⟩ := pu147
                  refine r_aload_n C (j := 0) (oDec_at oX12_onePart 46 rfl) rfl rfl ?_
                  refine r_callVi C oCl12 rfl miX12_look mlX12_185 (ct_X12_look l E (u147)  ) (by decide) rfl rfl rfl (Nat.le_of_ble_eq_true rfl) (oDec_at oX12_onePart 47 rfl) (fun r150 u149 pu149 fu149 => ?_)
                  try dsimp only at pu149
                  obtain ⟨pu149_0, pu149_1⟩ := pu149
                  obtain ⟨v151, ev151⟩ : ∃ z : Int32, (u149).1 71 2 = z := ⟨_, rfl⟩
                  have gv151 : (u149.1 71 2).toInt = v151.toInt := congrArg Int32.toInt ev151
                  have lt152 : ((u149).1 72 ((u149).1 71 2).toNatClampNeg).toInt = (t.1 72 v151.toNatClampNeg).toInt := by rw [ev151, show (u149).1 72 v151.toNatClampNeg = t.1 72 v151.toNatClampNeg from ((fu149 72 v151.toNatClampNeg rfl).1).trans (((fu147 72 v151.toNatClampNeg rfl).1).trans (((fu96 72 v151.toNatClampNeg rfl).1).trans (((fu92 72 v151.toNatClampNeg rfl).1).trans ((fu82 72 v151.toNatClampNeg rfl).1))))]
                  have lu153 : ((u149).1 71 2).toInt = v151.toInt := congrArg Int32.toInt (ev151)
                  have lu154 : ((u149).1 71 2).toInt = v151.toInt := congrArg Int32.toInt (ev151)
                  have lu155 : ((u149).1 71 3).toInt = (t.1 71 3).toInt := congrArg Int32.toInt (((fu149 71 3 rfl).1).trans (((fu147 71 3 rfl).1).trans (((fu96 71 3 rfl).1).trans (((fu92 71 3 rfl).1).trans ((fu82 71 3 rfl).1)))))
                  have rr150 := n_rng r150
                  refine r_pc C 94 rfl ?_
                  refine r_bipush C (oDec_at oX12_onePart 48 rfl) (v := k40) (by rw [qk40]; rfl) ?_
                  refine r_icmp_ne C 106 (oDec_at oX12_onePart 49 rfl) (by decide) (fun cd156 => ?_) (fun cd156 => ?_)
                  · skip
                    refine r_iconst C (oDec_at oX12_onePart 53 rfl) (v := km1) (by rw [qkm1]; rfl) ?_
                    refine r_istore C (lv' := [(0, .ref (oad E 71)), (1, .int x1), (2, .int r83), (3, .int r97), (4, .int km1)]) [1, 2, 3, 4, 0] (oDec_at oX12_onePart 54 rfl) (by decide) rfl ?_
                    refine r_iload C (j := 4) (oDec_at oX12_onePart 55 rfl) rfl ?_
                    refine r_iconst C (oDec_at oX12_onePart 56 rfl) (v := km1) (by rw [qkm1]; rfl) ?_
                    refine r_icmp_eq C 132 (oDec_at oX12_onePart 57 rfl) (by decide) (fun cd157 => ?_) (fun cd157 => ?_)
                    · skip
                      have hq158 : oQ b x (u149) := by first | exact oQ_opens fu149 rfl (oQ_frb fu147 rfl (by omega) (oQ_fr fu96 rfl (oQ_fr fu92 rfl (oQ_fr fu82 rfl iv0)))) pu149_1 (by omega) (by omega) (by omega) | exact (oQ_fr fu149 rfl (oQ_frb fu147 rfl (by omega) (oQ_fr fu96 rfl (oQ_fr fu92 rfl (oQ_fr fu82 rfl iv0)))))
                      refine r_aload_n C (j := 0) (oDec_at oX12_onePart 66 rfl) rfl rfl ?_
                      refine r_bipush C (oDec_at oX12_onePart 67 rfl) (v := k40) (by rw [qk40]; rfl) ?_
                      have lk159 : ((u149).1 71 2).toInt = v151.toInt := congrArg Int32.toInt (ev151)
                      have lk160 : ((u149).1 71 5).toInt = (u147.1 71 5).toInt := congrArg Int32.toInt ((fu149 71 5 rfl).1)
                      have lk161 : ((u149).1 71 2).toInt = v151.toInt := congrArg Int32.toInt (ev151)
                      refine r_callVv C oCl12 rfl miX12_asksSign mlX12_248 (ct_X12_asksSign l E (u149) k40 (by omega)) (by decide) rfl rfl rfl (Nat.le_of_ble_eq_true rfl) (oDec_at oX12_onePart 68 rfl) (fun u162 pu162 fu162 => ?_)
                      try dsimp only at pu162
                      try simp only [lk159, lk160, lk161] at pu162
                      obtain ⟨pu162_0, pu162_1⟩ := pu162
                      refine r_goto C (tgt := 143) (oDec_at oX12_onePart 69 rfl) (by decide) ?_
                      refine r_goto C (tgt := 2) (oDec_at oX12_onePart 72 rfl) (by decide) ?_
                      have lk164 : ((u162).1 71 48).toInt = (t.1 71 48).toInt := congrArg Int32.toInt (((fu162 71 48 rfl).1).trans (((fu149 71 48 rfl).1).trans (((fu147 71 48 rfl).1).trans (((fu96 71 48 rfl).1).trans (((fu92 71 48 rfl).1).trans ((fu82 71 48 rfl).1))))))
                      have lk165 : ((u162).1 71 45).toInt = (t.1 71 45).toInt := congrArg Int32.toInt (((fu162 71 45 rfl).1).trans (((fu149 71 45 rfl).1).trans (((fu147 71 45 rfl).1).trans (((fu96 71 45 rfl).1).trans (((fu92 71 45 rfl).1).trans ((fu82 71 45 rfl).1))))))
                      have lk166 : ((u162).1 71 47).toInt = (t.1 71 47).toInt := congrArg Int32.toInt (((fu162 71 47 rfl).1).trans (((fu149 71 47 rfl).1).trans (((fu147 71 47 rfl).1).trans (((fu96 71 47 rfl).1).trans (((fu92 71 47 rfl).1).trans ((fu82 71 47 rfl).1))))))
                      have hj := oB1_f ((u162).1 71 5)
                      refine r_pick C [0, 1] rfl ?_
                      exact (ih (n - 1) (by omega)) (u162) x1  (oQ_frb fu162 rfl (by omega) hq158) (by omega) (by omega) (by omega) (by omega) (by omega)
                    · omega
                  · skip
                    refine r_aload_n C (j := 0) (oDec_at oX12_onePart 50 rfl) rfl rfl ?_
                    refine r_geti (k := 2) (lo := 0) (hi := 1600) C v151 oCl12 rfl (by decide) flX12_179 rfl rfl (ev151) rfl rfl (oDec_at oX12_onePart 51 rfl) (fun b167 b167h => ?_)
                    refine r_goto C (tgt := 107) (oDec_at oX12_onePart 52 rfl) (by decide) ?_
                    refine r_istore C (lv' := [(0, .ref (oad E 71)), (1, .int x1), (2, .int r83), (3, .int r97), (4, .int v151)]) [1, 2, 3, 4, 0] (oDec_at oX12_onePart 54 rfl) (by decide) rfl ?_
                    refine r_iload C (j := 4) (oDec_at oX12_onePart 55 rfl) rfl ?_
                    refine r_iconst C (oDec_at oX12_onePart 56 rfl) (v := km1) (by rw [qkm1]; rfl) ?_
                    refine r_icmp_eq C 132 (oDec_at oX12_onePart 57 rfl) (by decide) (fun cd168 => ?_) (fun cd168 => ?_)
                    · skip
                      have hq169 : oQ b x (u149) := by first | exact oQ_opens fu149 rfl (oQ_frb fu147 rfl (by omega) (oQ_fr fu96 rfl (oQ_fr fu92 rfl (oQ_fr fu82 rfl iv0)))) pu149_1 (by omega) (by omega) (by omega) | exact (oQ_fr fu149 rfl (oQ_frb fu147 rfl (by omega) (oQ_fr fu96 rfl (oQ_fr fu92 rfl (oQ_fr fu82 rfl iv0)))))
                      refine r_aload_n C (j := 0) (oDec_at oX12_onePart 66 rfl) rfl rfl ?_
                      refine r_bipush C (oDec_at oX12_onePart 67 rfl) (v := k40) (by rw [qk40]; rfl) ?_
                      have lk170 : ((u149).1 71 2).toInt = v151.toInt := congrArg Int32.toInt (ev151)
                      have lk171 : ((u149).1 71 5).toInt = (u147.1 71 5).toInt := congrArg Int32.toInt ((fu149 71 5 rfl).1)
                      have lk172 : ((u149).1 71 2).toInt = v151.toInt := congrArg Int32.toInt (ev151)
                      refine r_callVv C oCl12 rfl miX12_asksSign mlX12_248 (ct_X12_asksSign l E (u149) k40 (by omega)) (by decide) rfl rfl rfl (Nat.le_of_ble_eq_true rfl) (oDec_at oX12_onePart 68 rfl) (fun u173 pu173 fu173 => ?_)
                      try dsimp only at pu173
                      try simp only [lk170, lk171, lk172] at pu173
                      obtain ⟨pu173_0, pu173_1⟩ := pu173
                      refine r_goto C (tgt := 143) (oDec_at oX12_onePart 69 rfl) (by decide) ?_
                      refine r_goto C (tgt := 2) (oDec_at oX12_onePart 72 rfl) (by decide) ?_
                      have lk175 : ((u173).1 71 48).toInt = (t.1 71 48).toInt := congrArg Int32.toInt (((fu173 71 48 rfl).1).trans (((fu149 71 48 rfl).1).trans (((fu147 71 48 rfl).1).trans (((fu96 71 48 rfl).1).trans (((fu92 71 48 rfl).1).trans ((fu82 71 48 rfl).1))))))
                      have lk176 : ((u173).1 71 45).toInt = (t.1 71 45).toInt := congrArg Int32.toInt (((fu173 71 45 rfl).1).trans (((fu149 71 45 rfl).1).trans (((fu147 71 45 rfl).1).trans (((fu96 71 45 rfl).1).trans (((fu92 71 45 rfl).1).trans ((fu82 71 45 rfl).1))))))
                      have lk177 : ((u173).1 71 47).toInt = (t.1 71 47).toInt := congrArg Int32.toInt (((fu173 71 47 rfl).1).trans (((fu149 71 47 rfl).1).trans (((fu147 71 47 rfl).1).trans (((fu96 71 47 rfl).1).trans (((fu92 71 47 rfl).1).trans ((fu82 71 47 rfl).1))))))
                      have hj := oB1_f ((u173).1 71 5)
                      refine r_pick C [0, 1] rfl ?_
                      exact (ih (n - 1) (by omega)) (u173) x1  (oQ_frb fu173 rfl (by omega) hq169) (by omega) (by omega) (by omega) (by omega) (by omega)
                    · skip
                      refine r_aload_n C (j := 0) (oDec_at oX12_onePart 58 rfl) rfl rfl ?_
                      refine r_iload_n C (j := 3) (oDec_at oX12_onePart 59 rfl) rfl rfl ?_
                      refine r_if_eq C 125 (oDec_at oX12_onePart 60 rfl) (by decide) (fun cd178 => ?_) (fun cd178 => ?_)
                      · skip
                        refine r_bipush C (oDec_at oX12_onePart 63 rfl) (v := k22) (by rw [qk22]; rfl) ?_
                        refine r_iload C (j := 4) (oDec_at oX12_onePart 64 rfl) rfl ?_
                        have lk179 : ((u149).1 71 47).toInt = (t.1 71 47).toInt := congrArg Int32.toInt (((fu149 71 47 rfl).1).trans (((fu147 71 47 rfl).1).trans (((fu96 71 47 rfl).1).trans (((fu92 71 47 rfl).1).trans ((fu82 71 47 rfl).1)))))
                        have lk180 : ((u149).1 71 47).toInt = (t.1 71 47).toInt := congrArg Int32.toInt (((fu149 71 47 rfl).1).trans (((fu147 71 47 rfl).1).trans (((fu96 71 47 rfl).1).trans (((fu92 71 47 rfl).1).trans ((fu82 71 47 rfl).1)))))
                        have lk181 : ((u149).1 71 48).toInt = (t.1 71 48).toInt := congrArg Int32.toInt (((fu149 71 48 rfl).1).trans (((fu147 71 48 rfl).1).trans (((fu96 71 48 rfl).1).trans (((fu92 71 48 rfl).1).trans ((fu82 71 48 rfl).1)))))
                        have lk182 : ((u149).1 71 48).toInt = (t.1 71 48).toInt := congrArg Int32.toInt (((fu149 71 48 rfl).1).trans (((fu147 71 48 rfl).1).trans (((fu96 71 48 rfl).1).trans (((fu92 71 48 rfl).1).trans ((fu82 71 48 rfl).1)))))
                        have lk183 : ((u149).1 71 47).toInt = (t.1 71 47).toInt := congrArg Int32.toInt (((fu149 71 47 rfl).1).trans (((fu147 71 47 rfl).1).trans (((fu96 71 47 rfl).1).trans (((fu92 71 47 rfl).1).trans ((fu82 71 47 rfl).1)))))
                        have lk184 : ((u149).1 71 5).toInt = (u147.1 71 5).toInt := congrArg Int32.toInt ((fu149 71 5 rfl).1)
                        have lk185 : ((u149).1 71 5).toInt = (u147.1 71 5).toInt := congrArg Int32.toInt ((fu149 71 5 rfl).1)
                        refine r_callVv C oCl12 rfl miX12_opens mlX12_292 (ct_X12_opens l E (u149) k22 v151 (by omega) (by omega)) (by decide) rfl rfl rfl (Nat.le_of_ble_eq_true rfl) (oDec_at oX12_onePart 65 rfl) (fun u186 pu186 fu186 => ?_)
                        try dsimp only at pu186
                        try simp only [lk180, lk181, lk182, lk183, lk184, lk185] at pu186
                        obtain ⟨pu186_0, pu186_1, pu186_2⟩ := pu186
                        have hq188 : oQ b x (u186) := by first | exact oQ_opens fu186 rfl (oQ_fr fu149 rfl (oQ_frb fu147 rfl (by omega) (oQ_fr fu96 rfl (oQ_fr fu92 rfl (oQ_fr fu82 rfl iv0))))) pu186_1 (by omega) (by omega) (by omega) | exact (by assumption)
                        refine r_aload_n C (j := 0) (oDec_at oX12_onePart 66 rfl) rfl rfl ?_
                        refine r_bipush C (oDec_at oX12_onePart 67 rfl) (v := k40) (by rw [qk40]; rfl) ?_
                        have lk189 : ((u186).1 71 2).toInt = v151.toInt := congrArg Int32.toInt (((fu186 71 2 rfl).1).trans (ev151))
                        have lk190 : ((u186).1 71 2).toInt = v151.toInt := congrArg Int32.toInt (((fu186 71 2 rfl).1).trans (ev151))
                        refine r_callVv C oCl12 rfl miX12_asksSign mlX12_248 (ct_X12_asksSign l E (u186) k40 (by omega)) (by decide) rfl rfl rfl (Nat.le_of_ble_eq_true rfl) (oDec_at oX12_onePart 68 rfl) (fun u191 pu191 fu191 => ?_)
                        try dsimp only at pu191
                        try simp only [lk189, lk190] at pu191
                        obtain ⟨pu191_0, pu191_1⟩ := pu191
                        refine r_pc C 138 rfl ?_
                        refine r_goto C (tgt := 143) (oDec_at oX12_onePart 69 rfl) (by decide) ?_
                        refine r_goto C (tgt := 2) (oDec_at oX12_onePart 72 rfl) (by decide) ?_
                        have lk193 : ((u191).1 71 48).toInt = (u186.1 71 48).toInt := congrArg Int32.toInt ((fu191 71 48 rfl).1)
                        have lk194 : ((u191).1 71 45).toInt = (t.1 71 45).toInt := congrArg Int32.toInt (((fu191 71 45 rfl).1).trans (((fu186 71 45 rfl).1).trans (((fu149 71 45 rfl).1).trans (((fu147 71 45 rfl).1).trans (((fu96 71 45 rfl).1).trans (((fu92 71 45 rfl).1).trans ((fu82 71 45 rfl).1)))))))
                        have lk195 : ((u191).1 71 47).toInt = (u186.1 71 47).toInt := congrArg Int32.toInt ((fu191 71 47 rfl).1)
                        have hj := oB1_f ((u191).1 71 5)
                        refine r_pick C [0, 1] rfl ?_
                        exact (ih (n - 1) (by omega)) (u191) x1  (oQ_frb fu191 rfl (by omega) hq188) (by omega) (by omega) (by omega) (by omega) (by omega)
                      · omega
              · skip
                refine r_aload_n C (j := 0) (oDec_at oX12_onePart 30 rfl) rfl rfl ?_
                refine r_aload_n C (j := 0) (oDec_at oX12_onePart 31 rfl) rfl rfl ?_
                refine r_getF (k := 35) (b := 98) C oCl12 rfl (by decide) flX12_93 rfl rfl rfl (oDec_at oX12_onePart 32 rfl) ?_
                have lk196 : ((u92).1 71 5).toInt = v77.toInt := congrArg Int32.toInt (((fu92 71 5 rfl).1).trans (((fu82 71 5 rfl).1).trans (ev77)))
                refine r_callVi C oCl12 rfl miX12_isHere mlX12_196 (ct_X12_isHere l E (u92) 98 74 3 rfl (by decide) (by decide) rfl rfl (by omega)) (by decide) rfl rfl rfl (Nat.le_of_ble_eq_true rfl) (oDec_at oX12_onePart 33 rfl) (fun r198 u197 pu197 fu197 => ?_)
                try dsimp only at pu197
                try simp only [lk196] at pu197
                obtain ⟨pu197_0, pu197_1, pu197_2⟩ := pu197
                have rr198 := n_rng r198
                refine r_if_eq C 141 (oDec_at oX12_onePart 34 rfl) (by decide) (fun cd199 => ?_) (fun cd199 => ?_)
                · skip
                  refine r_iconst C (oDec_at oX12_onePart 70 rfl) (v := k0) (by rw [qk0]; rfl) ?_
                  refine r_istore_n C (lv' := [(0, .ref (oad E 71)), (1, .int k0), (2, .int r83)]) [1, 0, 2] (oDec_at oX12_onePart 71 rfl) rfl (by decide) rfl ?_
                  refine r_goto C (tgt := 2) (oDec_at oX12_onePart 72 rfl) (by decide) ?_
                  have lk200 : ((u197).1 71 48).toInt = (t.1 71 48).toInt := congrArg Int32.toInt (((fu197 71 48 rfl).1).trans (((fu92 71 48 rfl).1).trans ((fu82 71 48 rfl).1)))
                  have lk201 : ((u197).1 71 45).toInt = (t.1 71 45).toInt := congrArg Int32.toInt (((fu197 71 45 rfl).1).trans (((fu92 71 45 rfl).1).trans ((fu82 71 45 rfl).1)))
                  have lk202 : ((u197).1 71 47).toInt = (t.1 71 47).toInt := congrArg Int32.toInt (((fu197 71 47 rfl).1).trans (((fu92 71 47 rfl).1).trans ((fu82 71 47 rfl).1)))
                  have hj := oB1_f ((u197).1 71 5)
                  refine r_pick C [0, 1] rfl ?_
                  exact (ih (n - 1) (by omega)) (u197) k0  (oQ_fr fu197 rfl (oQ_fr fu92 rfl (oQ_fr fu82 rfl iv0))) (by omega) (by omega) (by omega) (by omega) (by omega)
                · skip
                  refine r_aload_n C (j := 0) (oDec_at oX12_onePart 35 rfl) rfl rfl ?_
                  refine r_aload_n C (j := 0) (oDec_at oX12_onePart 36 rfl) rfl rfl ?_
                  refine r_getF (k := 34) (b := 97) C oCl12 rfl (by decide) flX12_90 rfl rfl rfl (oDec_at oX12_onePart 37 rfl) ?_
                  have lk203 : ((u197).1 71 5).toInt = v77.toInt := congrArg Int32.toInt (((fu197 71 5 rfl).1).trans (((fu92 71 5 rfl).1).trans (((fu82 71 5 rfl).1).trans (ev77))))
                  refine r_callVi C oCl12 rfl miX12_takes mlX12_200 (ct_X12_takes l E (u197) 97 73 3 rfl (by decide) (by decide) rfl rfl (by omega)) (by decide) rfl rfl rfl (Nat.le_of_ble_eq_true rfl) (oDec_at oX12_onePart 38 rfl) (fun r205 u204 pu204 fu204 => ?_)
                  try dsimp only at pu204
                  try simp only [lk203] at pu204
                  obtain ⟨pu204_0, pu204_1, pu204_2⟩ := pu204
                  have rr205 := n_rng r205
                  refine r_istore_n C (lv' := [(0, .ref (oad E 71)), (1, .int x1), (2, .int r83), (3, .int r205)]) [1, 2, 3, 0] (oDec_at oX12_onePart 39 rfl) rfl (by decide) rfl ?_
                  refine r_iload_n C (j := 3) (oDec_at oX12_onePart 40 rfl) rfl rfl ?_
                  refine r_pc C 79 rfl ?_
                  refine r_if_ne C 90 (oDec_at oX12_onePart 41 rfl) (by decide) (fun cd206 => ?_) (fun cd206 => ?_)
                  · skip
                    refine r_aload_n C (j := 0) (oDec_at oX12_onePart 46 rfl) rfl rfl ?_
                    refine r_callVi C oCl12 rfl miX12_look mlX12_185 (ct_X12_look l E (u204)  ) (by decide) rfl rfl rfl (Nat.le_of_ble_eq_true rfl) (oDec_at oX12_onePart 47 rfl) (fun r208 u207 pu207 fu207 => ?_)
                    try dsimp only at pu207
                    obtain ⟨pu207_0, pu207_1⟩ := pu207
                    obtain ⟨v209, ev209⟩ : ∃ z : Int32, (u207).1 71 2 = z := ⟨_, rfl⟩
                    have gv209 : (u207.1 71 2).toInt = v209.toInt := congrArg Int32.toInt ev209
                    have lt210 : ((u207).1 72 ((u207).1 71 2).toNatClampNeg).toInt = (t.1 72 v209.toNatClampNeg).toInt := by rw [ev209, show (u207).1 72 v209.toNatClampNeg = t.1 72 v209.toNatClampNeg from ((fu207 72 v209.toNatClampNeg rfl).1).trans (((fu204 72 v209.toNatClampNeg rfl).1).trans (((fu197 72 v209.toNatClampNeg rfl).1).trans (((fu92 72 v209.toNatClampNeg rfl).1).trans ((fu82 72 v209.toNatClampNeg rfl).1))))]
                    have lu211 : ((u207).1 71 2).toInt = v209.toInt := congrArg Int32.toInt (ev209)
                    have lu212 : ((u207).1 71 2).toInt = v209.toInt := congrArg Int32.toInt (ev209)
                    have lu213 : ((u207).1 71 3).toInt = (t.1 71 3).toInt := congrArg Int32.toInt (((fu207 71 3 rfl).1).trans (((fu204 71 3 rfl).1).trans (((fu197 71 3 rfl).1).trans (((fu92 71 3 rfl).1).trans ((fu82 71 3 rfl).1)))))
                    have rr208 := n_rng r208
                    refine r_bipush C (oDec_at oX12_onePart 48 rfl) (v := k40) (by rw [qk40]; rfl) ?_
                    refine r_icmp_ne C 106 (oDec_at oX12_onePart 49 rfl) (by decide) (fun cd214 => ?_) (fun cd214 => ?_)
                    · skip
                      refine r_iconst C (oDec_at oX12_onePart 53 rfl) (v := km1) (by rw [qkm1]; rfl) ?_
                      refine r_istore C (lv' := [(0, .ref (oad E 71)), (1, .int x1), (2, .int r83), (3, .int r205), (4, .int km1)]) [1, 2, 3, 4, 0] (oDec_at oX12_onePart 54 rfl) (by decide) rfl ?_
                      refine r_iload C (j := 4) (oDec_at oX12_onePart 55 rfl) rfl ?_
                      refine r_iconst C (oDec_at oX12_onePart 56 rfl) (v := km1) (by rw [qkm1]; rfl) ?_
                      refine r_icmp_eq C 132 (oDec_at oX12_onePart 57 rfl) (by decide) (fun cd215 => ?_) (fun cd215 => ?_)
                      · skip
                        have hq216 : oQ b x (u207) := by first | exact oQ_opens fu207 rfl (oQ_fr fu204 rfl (oQ_fr fu197 rfl (oQ_fr fu92 rfl (oQ_fr fu82 rfl iv0)))) pu207_1 (by omega) (by omega) (by omega) | exact (oQ_fr fu207 rfl (oQ_fr fu204 rfl (oQ_fr fu197 rfl (oQ_fr fu92 rfl (oQ_fr fu82 rfl iv0)))))
                        refine r_aload_n C (j := 0) (oDec_at oX12_onePart 66 rfl) rfl rfl ?_
                        refine r_bipush C (oDec_at oX12_onePart 67 rfl) (v := k40) (by rw [qk40]; rfl) ?_
                        have lk217 : ((u207).1 71 2).toInt = v209.toInt := congrArg Int32.toInt (ev209)
                        have lk218 : ((u207).1 71 5).toInt = v77.toInt := congrArg Int32.toInt (((fu207 71 5 rfl).1).trans (((fu204 71 5 rfl).1).trans (((fu197 71 5 rfl).1).trans (((fu92 71 5 rfl).1).trans (((fu82 71 5 rfl).1).trans (ev77))))))
                        have lk219 : ((u207).1 71 2).toInt = v209.toInt := congrArg Int32.toInt (ev209)
                        refine r_callVv C oCl12 rfl miX12_asksSign mlX12_248 (ct_X12_asksSign l E (u207) k40 (by omega)) (by decide) rfl rfl rfl (Nat.le_of_ble_eq_true rfl) (oDec_at oX12_onePart 68 rfl) (fun u220 pu220 fu220 => ?_)
                        try dsimp only at pu220
                        try simp only [lk217, lk218, lk219] at pu220
                        obtain ⟨pu220_0, pu220_1⟩ := pu220
                        refine r_goto C (tgt := 143) (oDec_at oX12_onePart 69 rfl) (by decide) ?_
                        refine r_goto C (tgt := 2) (oDec_at oX12_onePart 72 rfl) (by decide) ?_
                        have lk222 : ((u220).1 71 48).toInt = (t.1 71 48).toInt := congrArg Int32.toInt (((fu220 71 48 rfl).1).trans (((fu207 71 48 rfl).1).trans (((fu204 71 48 rfl).1).trans (((fu197 71 48 rfl).1).trans (((fu92 71 48 rfl).1).trans ((fu82 71 48 rfl).1))))))
                        have lk223 : ((u220).1 71 45).toInt = (t.1 71 45).toInt := congrArg Int32.toInt (((fu220 71 45 rfl).1).trans (((fu207 71 45 rfl).1).trans (((fu204 71 45 rfl).1).trans (((fu197 71 45 rfl).1).trans (((fu92 71 45 rfl).1).trans ((fu82 71 45 rfl).1))))))
                        have lk224 : ((u220).1 71 47).toInt = (t.1 71 47).toInt := congrArg Int32.toInt (((fu220 71 47 rfl).1).trans (((fu207 71 47 rfl).1).trans (((fu204 71 47 rfl).1).trans (((fu197 71 47 rfl).1).trans (((fu92 71 47 rfl).1).trans ((fu82 71 47 rfl).1))))))
                        have hj := oB1_f ((u220).1 71 5)
                        refine r_pick C [0, 1] rfl ?_
                        exact (ih (n - 1) (by omega)) (u220) x1  (oQ_frb fu220 rfl (by omega) hq216) (by omega) (by omega) (by omega) (by omega) (by omega)
                      · omega
                    · skip
                      refine r_aload_n C (j := 0) (oDec_at oX12_onePart 50 rfl) rfl rfl ?_
                      refine r_geti (k := 2) (lo := 0) (hi := 1600) C v209 oCl12 rfl (by decide) flX12_179 rfl rfl (ev209) rfl rfl (oDec_at oX12_onePart 51 rfl) (fun b225 b225h => ?_)
                      refine r_goto C (tgt := 107) (oDec_at oX12_onePart 52 rfl) (by decide) ?_
                      refine r_istore C (lv' := [(0, .ref (oad E 71)), (1, .int x1), (2, .int r83), (3, .int r205), (4, .int v209)]) [1, 2, 3, 4, 0] (oDec_at oX12_onePart 54 rfl) (by decide) rfl ?_
                      refine r_iload C (j := 4) (oDec_at oX12_onePart 55 rfl) rfl ?_
                      refine r_iconst C (oDec_at oX12_onePart 56 rfl) (v := km1) (by rw [qkm1]; rfl) ?_
                      refine r_icmp_eq C 132 (oDec_at oX12_onePart 57 rfl) (by decide) (fun cd226 => ?_) (fun cd226 => ?_)
                      · skip
                        have hq227 : oQ b x (u207) := by first | exact oQ_opens fu207 rfl (oQ_fr fu204 rfl (oQ_fr fu197 rfl (oQ_fr fu92 rfl (oQ_fr fu82 rfl iv0)))) pu207_1 (by omega) (by omega) (by omega) | exact (oQ_fr fu207 rfl (oQ_fr fu204 rfl (oQ_fr fu197 rfl (oQ_fr fu92 rfl (oQ_fr fu82 rfl iv0)))))
                        refine r_aload_n C (j := 0) (oDec_at oX12_onePart 66 rfl) rfl rfl ?_
                        refine r_bipush C (oDec_at oX12_onePart 67 rfl) (v := k40) (by rw [qk40]; rfl) ?_
                        have lk228 : ((u207).1 71 2).toInt = v209.toInt := congrArg Int32.toInt (ev209)
                        have lk229 : ((u207).1 71 5).toInt = v77.toInt := congrArg Int32.toInt (((fu207 71 5 rfl).1).trans (((fu204 71 5 rfl).1).trans (((fu197 71 5 rfl).1).trans (((fu92 71 5 rfl).1).trans (((fu82 71 5 rfl).1).trans (ev77))))))
                        have lk230 : ((u207).1 71 2).toInt = v209.toInt := congrArg Int32.toInt (ev209)
                        refine r_callVv C oCl12 rfl miX12_asksSign mlX12_248 (ct_X12_asksSign l E (u207) k40 (by omega)) (by decide) rfl rfl rfl (Nat.le_of_ble_eq_true rfl) (oDec_at oX12_onePart 68 rfl) (fun u231 pu231 fu231 => ?_)
                        try dsimp only at pu231
                        try simp only [lk228, lk229, lk230] at pu231
                        obtain ⟨pu231_0, pu231_1⟩ := pu231
                        refine r_goto C (tgt := 143) (oDec_at oX12_onePart 69 rfl) (by decide) ?_
                        refine r_goto C (tgt := 2) (oDec_at oX12_onePart 72 rfl) (by decide) ?_
                        have lk233 : ((u231).1 71 48).toInt = (t.1 71 48).toInt := congrArg Int32.toInt (((fu231 71 48 rfl).1).trans (((fu207 71 48 rfl).1).trans (((fu204 71 48 rfl).1).trans (((fu197 71 48 rfl).1).trans (((fu92 71 48 rfl).1).trans ((fu82 71 48 rfl).1))))))
                        have lk234 : ((u231).1 71 45).toInt = (t.1 71 45).toInt := congrArg Int32.toInt (((fu231 71 45 rfl).1).trans (((fu207 71 45 rfl).1).trans (((fu204 71 45 rfl).1).trans (((fu197 71 45 rfl).1).trans (((fu92 71 45 rfl).1).trans ((fu82 71 45 rfl).1))))))
                        have lk235 : ((u231).1 71 47).toInt = (t.1 71 47).toInt := congrArg Int32.toInt (((fu231 71 47 rfl).1).trans (((fu207 71 47 rfl).1).trans (((fu204 71 47 rfl).1).trans (((fu197 71 47 rfl).1).trans (((fu92 71 47 rfl).1).trans ((fu82 71 47 rfl).1))))))
                        have hj := oB1_f ((u231).1 71 5)
                        refine r_pick C [0, 1] rfl ?_
                        exact (ih (n - 1) (by omega)) (u231) x1  (oQ_frb fu231 rfl (by omega) hq227) (by omega) (by omega) (by omega) (by omega) (by omega)
                      · skip
                        refine r_aload_n C (j := 0) (oDec_at oX12_onePart 58 rfl) rfl rfl ?_
                        refine r_iload_n C (j := 3) (oDec_at oX12_onePart 59 rfl) rfl rfl ?_
                        refine r_if_eq C 125 (oDec_at oX12_onePart 60 rfl) (by decide) (fun cd236 => ?_) (fun cd236 => ?_)
                        · omega
                        · skip
                          refine r_bipush C (oDec_at oX12_onePart 61 rfl) (v := k21) (by rw [qk21]; rfl) ?_
                          refine r_goto C (tgt := 127) (oDec_at oX12_onePart 62 rfl) (by decide) ?_
                          refine r_iload C (j := 4) (oDec_at oX12_onePart 64 rfl) rfl ?_
                          have lk237 : ((u207).1 71 47).toInt = (t.1 71 47).toInt := congrArg Int32.toInt (((fu207 71 47 rfl).1).trans (((fu204 71 47 rfl).1).trans (((fu197 71 47 rfl).1).trans (((fu92 71 47 rfl).1).trans ((fu82 71 47 rfl).1)))))
                          have lk238 : ((u207).1 71 47).toInt = (t.1 71 47).toInt := congrArg Int32.toInt (((fu207 71 47 rfl).1).trans (((fu204 71 47 rfl).1).trans (((fu197 71 47 rfl).1).trans (((fu92 71 47 rfl).1).trans ((fu82 71 47 rfl).1)))))
                          have lk239 : ((u207).1 71 48).toInt = (t.1 71 48).toInt := congrArg Int32.toInt (((fu207 71 48 rfl).1).trans (((fu204 71 48 rfl).1).trans (((fu197 71 48 rfl).1).trans (((fu92 71 48 rfl).1).trans ((fu82 71 48 rfl).1)))))
                          have lk240 : ((u207).1 71 48).toInt = (t.1 71 48).toInt := congrArg Int32.toInt (((fu207 71 48 rfl).1).trans (((fu204 71 48 rfl).1).trans (((fu197 71 48 rfl).1).trans (((fu92 71 48 rfl).1).trans ((fu82 71 48 rfl).1)))))
                          have lk241 : ((u207).1 71 47).toInt = (t.1 71 47).toInt := congrArg Int32.toInt (((fu207 71 47 rfl).1).trans (((fu204 71 47 rfl).1).trans (((fu197 71 47 rfl).1).trans (((fu92 71 47 rfl).1).trans ((fu82 71 47 rfl).1)))))
                          have lk242 : ((u207).1 71 5).toInt = v77.toInt := congrArg Int32.toInt (((fu207 71 5 rfl).1).trans (((fu204 71 5 rfl).1).trans (((fu197 71 5 rfl).1).trans (((fu92 71 5 rfl).1).trans (((fu82 71 5 rfl).1).trans (ev77))))))
                          have lk243 : ((u207).1 71 5).toInt = v77.toInt := congrArg Int32.toInt (((fu207 71 5 rfl).1).trans (((fu204 71 5 rfl).1).trans (((fu197 71 5 rfl).1).trans (((fu92 71 5 rfl).1).trans (((fu82 71 5 rfl).1).trans (ev77))))))
                          refine r_callVv C oCl12 rfl miX12_opens mlX12_292 (ct_X12_opens l E (u207) k21 v209 (by omega) (by omega)) (by decide) rfl rfl rfl (Nat.le_of_ble_eq_true rfl) (oDec_at oX12_onePart 65 rfl) (fun u244 pu244 fu244 => ?_)
                          try dsimp only at pu244
                          try simp only [lk238, lk239, lk240, lk241, lk242, lk243] at pu244
                          obtain ⟨pu244_0, pu244_1, pu244_2⟩ := pu244
                          have hq246 : oQ b x (u244) := by first | exact oQ_opens fu244 rfl (oQ_fr fu207 rfl (oQ_fr fu204 rfl (oQ_fr fu197 rfl (oQ_fr fu92 rfl (oQ_fr fu82 rfl iv0))))) pu244_1 (by omega) (by omega) (by omega) | exact (by assumption)
                          refine r_aload_n C (j := 0) (oDec_at oX12_onePart 66 rfl) rfl rfl ?_
                          refine r_bipush C (oDec_at oX12_onePart 67 rfl) (v := k40) (by rw [qk40]; rfl) ?_
                          have lk247 : ((u244).1 71 2).toInt = v209.toInt := congrArg Int32.toInt (((fu244 71 2 rfl).1).trans (ev209))
                          have lk248 : ((u244).1 71 2).toInt = v209.toInt := congrArg Int32.toInt (((fu244 71 2 rfl).1).trans (ev209))
                          refine r_callVv C oCl12 rfl miX12_asksSign mlX12_248 (ct_X12_asksSign l E (u244) k40 (by omega)) (by decide) rfl rfl rfl (Nat.le_of_ble_eq_true rfl) (oDec_at oX12_onePart 68 rfl) (fun u249 pu249 fu249 => ?_)
                          try dsimp only at pu249
                          try simp only [lk247, lk248] at pu249
                          obtain ⟨pu249_0, pu249_1⟩ := pu249
                          refine r_pc C 138 rfl ?_
                          refine r_goto C (tgt := 143) (oDec_at oX12_onePart 69 rfl) (by decide) ?_
                          refine r_goto C (tgt := 2) (oDec_at oX12_onePart 72 rfl) (by decide) ?_
                          have lk251 : ((u249).1 71 48).toInt = (u244.1 71 48).toInt := congrArg Int32.toInt ((fu249 71 48 rfl).1)
                          have lk252 : ((u249).1 71 45).toInt = (t.1 71 45).toInt := congrArg Int32.toInt (((fu249 71 45 rfl).1).trans (((fu244 71 45 rfl).1).trans (((fu207 71 45 rfl).1).trans (((fu204 71 45 rfl).1).trans (((fu197 71 45 rfl).1).trans (((fu92 71 45 rfl).1).trans ((fu82 71 45 rfl).1)))))))
                          have lk253 : ((u249).1 71 47).toInt = (u244.1 71 47).toInt := congrArg Int32.toInt ((fu249 71 47 rfl).1)
                          have hj := oB1_f ((u249).1 71 5)
                          refine r_pick C [0, 1] rfl ?_
                          exact (ih (n - 1) (by omega)) (u249) x1  (oQ_frb fu249 rfl (by omega) hq246) (by omega) (by omega) (by omega) (by omega) (by omega)
                  · skip
                    refine r_aload_n C (j := 0) (oDec_at oX12_onePart 42 rfl) rfl rfl ?_
                    refine r_aload_n C (j := 0) (oDec_at oX12_onePart 43 rfl) rfl rfl ?_
                    refine r_getF (k := 35) (b := 98) C oCl12 rfl (by decide) flX12_93 rfl rfl rfl (oDec_at oX12_onePart 44 rfl) ?_
                    have lk254 : ((u204).1 71 5).toInt = v77.toInt := congrArg Int32.toInt (((fu204 71 5 rfl).1).trans (((fu197 71 5 rfl).1).trans (((fu92 71 5 rfl).1).trans (((fu82 71 5 rfl).1).trans (ev77)))))
                    refine r_callVv C oCl12 rfl miX12_asks mlX12_240 (ct_X12_asks l E (u204) 98 74 3 rfl (by decide) (by decide) rfl rfl (by omega)) (by decide) rfl rfl rfl (Nat.le_of_ble_eq_true rfl) (oDec_at oX12_onePart 45 rfl) (fun u255 pu255 fu255 => ?_)
                    try dsimp only at pu255
                    try simp only [lk254] at pu255
                    obtain ⟨pu255_0, pu255_1⟩ := pu255
                    refine r_aload_n C (j := 0) (oDec_at oX12_onePart 46 rfl) rfl rfl ?_
                    refine r_callVi C oCl12 rfl miX12_look mlX12_185 (ct_X12_look l E (u255)  ) (by decide) rfl rfl rfl (Nat.le_of_ble_eq_true rfl) (oDec_at oX12_onePart 47 rfl) (fun r258 u257 pu257 fu257 => ?_)
                    try dsimp only at pu257
                    obtain ⟨pu257_0, pu257_1⟩ := pu257
                    obtain ⟨v259, ev259⟩ : ∃ z : Int32, (u257).1 71 2 = z := ⟨_, rfl⟩
                    have gv259 : (u257.1 71 2).toInt = v259.toInt := congrArg Int32.toInt ev259
                    have lt260 : ((u257).1 72 ((u257).1 71 2).toNatClampNeg).toInt = (t.1 72 v259.toNatClampNeg).toInt := by rw [ev259, show (u257).1 72 v259.toNatClampNeg = t.1 72 v259.toNatClampNeg from ((fu257 72 v259.toNatClampNeg rfl).1).trans (((fu255 72 v259.toNatClampNeg rfl).1).trans (((fu204 72 v259.toNatClampNeg rfl).1).trans (((fu197 72 v259.toNatClampNeg rfl).1).trans (((fu92 72 v259.toNatClampNeg rfl).1).trans ((fu82 72 v259.toNatClampNeg rfl).1)))))]
                    have lu261 : ((u257).1 71 2).toInt = v259.toInt := congrArg Int32.toInt (ev259)
                    have lu262 : ((u257).1 71 2).toInt = v259.toInt := congrArg Int32.toInt (ev259)
                    have lu263 : ((u257).1 71 3).toInt = (t.1 71 3).toInt := congrArg Int32.toInt (((fu257 71 3 rfl).1).trans (((fu255 71 3 rfl).1).trans (((fu204 71 3 rfl).1).trans (((fu197 71 3 rfl).1).trans (((fu92 71 3 rfl).1).trans ((fu82 71 3 rfl).1))))))
                    have rr258 := n_rng r258
                    refine r_pc C 94 rfl ?_
                    refine r_bipush C (oDec_at oX12_onePart 48 rfl) (v := k40) (by rw [qk40]; rfl) ?_
                    refine r_icmp_ne C 106 (oDec_at oX12_onePart 49 rfl) (by decide) (fun cd264 => ?_) (fun cd264 => ?_)
                    · skip
                      refine r_iconst C (oDec_at oX12_onePart 53 rfl) (v := km1) (by rw [qkm1]; rfl) ?_
                      refine r_istore C (lv' := [(0, .ref (oad E 71)), (1, .int x1), (2, .int r83), (3, .int r205), (4, .int km1)]) [1, 2, 3, 4, 0] (oDec_at oX12_onePart 54 rfl) (by decide) rfl ?_
                      refine r_iload C (j := 4) (oDec_at oX12_onePart 55 rfl) rfl ?_
                      refine r_iconst C (oDec_at oX12_onePart 56 rfl) (v := km1) (by rw [qkm1]; rfl) ?_
                      refine r_icmp_eq C 132 (oDec_at oX12_onePart 57 rfl) (by decide) (fun cd265 => ?_) (fun cd265 => ?_)
                      · skip
                        have hq266 : oQ b x (u257) := by first | exact oQ_opens fu257 rfl (oQ_frb fu255 rfl (by omega) (oQ_fr fu204 rfl (oQ_fr fu197 rfl (oQ_fr fu92 rfl (oQ_fr fu82 rfl iv0))))) pu257_1 (by omega) (by omega) (by omega) | exact (oQ_fr fu257 rfl (oQ_frb fu255 rfl (by omega) (oQ_fr fu204 rfl (oQ_fr fu197 rfl (oQ_fr fu92 rfl (oQ_fr fu82 rfl iv0))))))
                        refine r_aload_n C (j := 0) (oDec_at oX12_onePart 66 rfl) rfl rfl ?_
                        refine r_bipush C (oDec_at oX12_onePart 67 rfl) (v := k40) (by rw [qk40]; rfl) ?_
                        have lk267 : ((u257).1 71 2).toInt = v259.toInt := congrArg Int32.toInt (ev259)
                        have lk268 : ((u257).1 71 5).toInt = (u255.1 71 5).toInt := congrArg Int32.toInt ((fu257 71 5 rfl).1)
                        have lk269 : ((u257).1 71 2).toInt = v259.toInt := congrArg Int32.toInt (ev259)
                        refine r_callVv C oCl12 rfl miX12_asksSign mlX12_248 (ct_X12_asksSign l E (u257) k40 (by omega)) (by decide) rfl rfl rfl (Nat.le_of_ble_eq_true rfl) (oDec_at oX12_onePart 68 rfl) (fun u270 pu270 fu270 => ?_)
                        try dsimp only at pu270
                        try simp only [lk267, lk268, lk269] at pu270
                        obtain ⟨pu270_0, pu270_1⟩ := pu270
                        refine r_goto C (tgt := 143) (oDec_at oX12_onePart 69 rfl) (by decide) ?_
                        refine r_goto C (tgt := 2) (oDec_at oX12_onePart 72 rfl) (by decide) ?_
                        have lk272 : ((u270).1 71 48).toInt = (t.1 71 48).toInt := congrArg Int32.toInt (((fu270 71 48 rfl).1).trans (((fu257 71 48 rfl).1).trans (((fu255 71 48 rfl).1).trans (((fu204 71 48 rfl).1).trans (((fu197 71 48 rfl).1).trans (((fu92 71 48 rfl).1).trans ((fu82 71 48 rfl).1)))))))
                        have lk273 : ((u270).1 71 45).toInt = (t.1 71 45).toInt := congrArg Int32.toInt (((fu270 71 45 rfl).1).trans (((fu257 71 45 rfl).1).trans (((fu255 71 45 rfl).1).trans (((fu204 71 45 rfl).1).trans (((fu197 71 45 rfl).1).trans (((fu92 71 45 rfl).1).trans ((fu82 71 45 rfl).1)))))))
                        have lk274 : ((u270).1 71 47).toInt = (t.1 71 47).toInt := congrArg Int32.toInt (((fu270 71 47 rfl).1).trans (((fu257 71 47 rfl).1).trans (((fu255 71 47 rfl).1).trans (((fu204 71 47 rfl).1).trans (((fu197 71 47 rfl).1).trans (((fu92 71 47 rfl).1).trans ((fu82 71 47 rfl).1)))))))
                        have hj := oB1_f ((u270).1 71 5)
                        refine r_pick C [0, 1] rfl ?_
                        exact (ih (n - 1) (by omega)) (u270) x1  (oQ_frb fu270 rfl (by omega) hq266) (by omega) (by omega) (by omega) (by omega) (by omega)
                      · omega
                    · skip
                      refine r_aload_n C (j := 0) (oDec_at oX12_onePart 50 rfl) rfl rfl ?_
                      refine r_geti (k := 2) (lo := 0) (hi := 1600) C v259 oCl12 rfl (by decide) flX12_179 rfl rfl (ev259) rfl rfl (oDec_at oX12_onePart 51 rfl) (fun b275 b275h => ?_)
                      refine r_goto C (tgt := 107) (oDec_at oX12_onePart 52 rfl) (by decide) ?_
                      refine r_istore C (lv' := [(0, .ref (oad E 71)), (1, .int x1), (2, .int r83), (3, .int r205), (4, .int v259)]) [1, 2, 3, 4, 0] (oDec_at oX12_onePart 54 rfl) (by decide) rfl ?_
                      refine r_iload C (j := 4) (oDec_at oX12_onePart 55 rfl) rfl ?_
                      refine r_iconst C (oDec_at oX12_onePart 56 rfl) (v := km1) (by rw [qkm1]; rfl) ?_
                      refine r_icmp_eq C 132 (oDec_at oX12_onePart 57 rfl) (by decide) (fun cd276 => ?_) (fun cd276 => ?_)
                      · skip
                        have hq277 : oQ b x (u257) := by first | exact oQ_opens fu257 rfl (oQ_frb fu255 rfl (by omega) (oQ_fr fu204 rfl (oQ_fr fu197 rfl (oQ_fr fu92 rfl (oQ_fr fu82 rfl iv0))))) pu257_1 (by omega) (by omega) (by omega) | exact (oQ_fr fu257 rfl (oQ_frb fu255 rfl (by omega) (oQ_fr fu204 rfl (oQ_fr fu197 rfl (oQ_fr fu92 rfl (oQ_fr fu82 rfl iv0))))))
                        refine r_aload_n C (j := 0) (oDec_at oX12_onePart 66 rfl) rfl rfl ?_
                        refine r_bipush C (oDec_at oX12_onePart 67 rfl) (v := k40) (by rw [qk40]; rfl) ?_
                        have lk278 : ((u257).1 71 2).toInt = v259.toInt := congrArg Int32.toInt (ev259)
                        have lk279 : ((u257).1 71 5).toInt = (u255.1 71 5).toInt := congrArg Int32.toInt ((fu257 71 5 rfl).1)
                        have lk280 : ((u257).1 71 2).toInt = v259.toInt := congrArg Int32.toInt (ev259)
                        refine r_callVv C oCl12 rfl miX12_asksSign mlX12_248 (ct_X12_asksSign l E (u257) k40 (by omega)) (by decide) rfl rfl rfl (Nat.le_of_ble_eq_true rfl) (oDec_at oX12_onePart 68 rfl) (fun u281 pu281 fu281 => ?_)
                        try dsimp only at pu281
                        try simp only [lk278, lk279, lk280] at pu281
                        obtain ⟨pu281_0, pu281_1⟩ := pu281
                        refine r_goto C (tgt := 143) (oDec_at oX12_onePart 69 rfl) (by decide) ?_
                        refine r_goto C (tgt := 2) (oDec_at oX12_onePart 72 rfl) (by decide) ?_
                        have lk283 : ((u281).1 71 48).toInt = (t.1 71 48).toInt := congrArg Int32.toInt (((fu281 71 48 rfl).1).trans (((fu257 71 48 rfl).1).trans (((fu255 71 48 rfl).1).trans (((fu204 71 48 rfl).1).trans (((fu197 71 48 rfl).1).trans (((fu92 71 48 rfl).1).trans ((fu82 71 48 rfl).1)))))))
                        have lk284 : ((u281).1 71 45).toInt = (t.1 71 45).toInt := congrArg Int32.toInt (((fu281 71 45 rfl).1).trans (((fu257 71 45 rfl).1).trans (((fu255 71 45 rfl).1).trans (((fu204 71 45 rfl).1).trans (((fu197 71 45 rfl).1).trans (((fu92 71 45 rfl).1).trans ((fu82 71 45 rfl).1)))))))
                        have lk285 : ((u281).1 71 47).toInt = (t.1 71 47).toInt := congrArg Int32.toInt (((fu281 71 47 rfl).1).trans (((fu257 71 47 rfl).1).trans (((fu255 71 47 rfl).1).trans (((fu204 71 47 rfl).1).trans (((fu197 71 47 rfl).1).trans (((fu92 71 47 rfl).1).trans ((fu82 71 47 rfl).1)))))))
                        have hj := oB1_f ((u281).1 71 5)
                        refine r_pick C [0, 1] rfl ?_
                        exact (ih (n - 1) (by omega)) (u281) x1  (oQ_frb fu281 rfl (by omega) hq277) (by omega) (by omega) (by omega) (by omega) (by omega)
                      · skip
                        refine r_aload_n C (j := 0) (oDec_at oX12_onePart 58 rfl) rfl rfl ?_
                        refine r_iload_n C (j := 3) (oDec_at oX12_onePart 59 rfl) rfl rfl ?_
                        refine r_if_eq C 125 (oDec_at oX12_onePart 60 rfl) (by decide) (fun cd286 => ?_) (fun cd286 => ?_)
                        · skip
                          refine r_bipush C (oDec_at oX12_onePart 63 rfl) (v := k22) (by rw [qk22]; rfl) ?_
                          refine r_iload C (j := 4) (oDec_at oX12_onePart 64 rfl) rfl ?_
                          have lk287 : ((u257).1 71 47).toInt = (t.1 71 47).toInt := congrArg Int32.toInt (((fu257 71 47 rfl).1).trans (((fu255 71 47 rfl).1).trans (((fu204 71 47 rfl).1).trans (((fu197 71 47 rfl).1).trans (((fu92 71 47 rfl).1).trans ((fu82 71 47 rfl).1))))))
                          have lk288 : ((u257).1 71 47).toInt = (t.1 71 47).toInt := congrArg Int32.toInt (((fu257 71 47 rfl).1).trans (((fu255 71 47 rfl).1).trans (((fu204 71 47 rfl).1).trans (((fu197 71 47 rfl).1).trans (((fu92 71 47 rfl).1).trans ((fu82 71 47 rfl).1))))))
                          have lk289 : ((u257).1 71 48).toInt = (t.1 71 48).toInt := congrArg Int32.toInt (((fu257 71 48 rfl).1).trans (((fu255 71 48 rfl).1).trans (((fu204 71 48 rfl).1).trans (((fu197 71 48 rfl).1).trans (((fu92 71 48 rfl).1).trans ((fu82 71 48 rfl).1))))))
                          have lk290 : ((u257).1 71 48).toInt = (t.1 71 48).toInt := congrArg Int32.toInt (((fu257 71 48 rfl).1).trans (((fu255 71 48 rfl).1).trans (((fu204 71 48 rfl).1).trans (((fu197 71 48 rfl).1).trans (((fu92 71 48 rfl).1).trans ((fu82 71 48 rfl).1))))))
                          have lk291 : ((u257).1 71 47).toInt = (t.1 71 47).toInt := congrArg Int32.toInt (((fu257 71 47 rfl).1).trans (((fu255 71 47 rfl).1).trans (((fu204 71 47 rfl).1).trans (((fu197 71 47 rfl).1).trans (((fu92 71 47 rfl).1).trans ((fu82 71 47 rfl).1))))))
                          have lk292 : ((u257).1 71 5).toInt = (u255.1 71 5).toInt := congrArg Int32.toInt ((fu257 71 5 rfl).1)
                          have lk293 : ((u257).1 71 5).toInt = (u255.1 71 5).toInt := congrArg Int32.toInt ((fu257 71 5 rfl).1)
                          refine r_callVv C oCl12 rfl miX12_opens mlX12_292 (ct_X12_opens l E (u257) k22 v259 (by omega) (by omega)) (by decide) rfl rfl rfl (Nat.le_of_ble_eq_true rfl) (oDec_at oX12_onePart 65 rfl) (fun u294 pu294 fu294 => ?_)
                          try dsimp only at pu294
                          try simp only [lk288, lk289, lk290, lk291, lk292, lk293] at pu294
                          obtain ⟨pu294_0, pu294_1, pu294_2⟩ := pu294
                          have hq296 : oQ b x (u294) := by first | exact oQ_opens fu294 rfl (oQ_fr fu257 rfl (oQ_frb fu255 rfl (by omega) (oQ_fr fu204 rfl (oQ_fr fu197 rfl (oQ_fr fu92 rfl (oQ_fr fu82 rfl iv0)))))) pu294_1 (by omega) (by omega) (by omega) | exact (by assumption)
                          refine r_aload_n C (j := 0) (oDec_at oX12_onePart 66 rfl) rfl rfl ?_
                          refine r_bipush C (oDec_at oX12_onePart 67 rfl) (v := k40) (by rw [qk40]; rfl) ?_
                          have lk297 : ((u294).1 71 2).toInt = v259.toInt := congrArg Int32.toInt (((fu294 71 2 rfl).1).trans (ev259))
                          have lk298 : ((u294).1 71 2).toInt = v259.toInt := congrArg Int32.toInt (((fu294 71 2 rfl).1).trans (ev259))
                          refine r_callVv C oCl12 rfl miX12_asksSign mlX12_248 (ct_X12_asksSign l E (u294) k40 (by omega)) (by decide) rfl rfl rfl (Nat.le_of_ble_eq_true rfl) (oDec_at oX12_onePart 68 rfl) (fun u299 pu299 fu299 => ?_)
                          try dsimp only at pu299
                          try simp only [lk297, lk298] at pu299
                          obtain ⟨pu299_0, pu299_1⟩ := pu299
                          refine r_pc C 138 rfl ?_
                          refine r_goto C (tgt := 143) (oDec_at oX12_onePart 69 rfl) (by decide) ?_
                          refine r_goto C (tgt := 2) (oDec_at oX12_onePart 72 rfl) (by decide) ?_
                          have lk301 : ((u299).1 71 48).toInt = (u294.1 71 48).toInt := congrArg Int32.toInt ((fu299 71 48 rfl).1)
                          have lk302 : ((u299).1 71 45).toInt = (t.1 71 45).toInt := congrArg Int32.toInt (((fu299 71 45 rfl).1).trans (((fu294 71 45 rfl).1).trans (((fu257 71 45 rfl).1).trans (((fu255 71 45 rfl).1).trans (((fu204 71 45 rfl).1).trans (((fu197 71 45 rfl).1).trans (((fu92 71 45 rfl).1).trans ((fu82 71 45 rfl).1))))))))
                          have lk303 : ((u299).1 71 47).toInt = (u294.1 71 47).toInt := congrArg Int32.toInt ((fu299 71 47 rfl).1)
                          have hj := oB1_f ((u299).1 71 5)
                          refine r_pick C [0, 1] rfl ?_
                          exact (ih (n - 1) (by omega)) (u299) x1  (oQ_frb fu299 rfl (by omega) hq296) (by omega) (by omega) (by omega) (by omega) (by omega)
                        · omega
            · skip
              refine r_aload_n C (j := 0) (oDec_at oX12_onePart 13 rfl) rfl rfl ?_
              refine r_bipush C (oDec_at oX12_onePart 14 rfl) (v := k20) (by rw [qk20]; rfl) ?_
              refine r_aload_n C (j := 0) (oDec_at oX12_onePart 15 rfl) rfl rfl ?_
              refine r_geti (k := 2) (lo := 0) (hi := 1600) C v84 oCl12 rfl (by decide) flX12_179 rfl rfl (ev84) rfl rfl (oDec_at oX12_onePart 16 rfl) (fun b304 b304h => ?_)
              have lk305 : ((u82).1 71 47).toInt = (t.1 71 47).toInt := congrArg Int32.toInt ((fu82 71 47 rfl).1)
              have lk306 : ((u82).1 71 47).toInt = (t.1 71 47).toInt := congrArg Int32.toInt ((fu82 71 47 rfl).1)
              have lk307 : ((u82).1 71 48).toInt = (t.1 71 48).toInt := congrArg Int32.toInt ((fu82 71 48 rfl).1)
              have lk308 : ((u82).1 71 48).toInt = (t.1 71 48).toInt := congrArg Int32.toInt ((fu82 71 48 rfl).1)
              have lk309 : ((u82).1 71 47).toInt = (t.1 71 47).toInt := congrArg Int32.toInt ((fu82 71 47 rfl).1)
              have lk310 : ((u82).1 71 5).toInt = v77.toInt := congrArg Int32.toInt (((fu82 71 5 rfl).1).trans (ev77))
              have lk311 : ((u82).1 71 5).toInt = v77.toInt := congrArg Int32.toInt (((fu82 71 5 rfl).1).trans (ev77))
              refine r_callVv C oCl12 rfl miX12_opens mlX12_292 (ct_X12_opens l E (u82) k20 v84 (by omega) (by omega)) (by decide) rfl rfl rfl (Nat.le_of_ble_eq_true rfl) (oDec_at oX12_onePart 17 rfl) (fun u312 pu312 fu312 => ?_)
              try dsimp only at pu312
              try simp only [lk306, lk307, lk308, lk309, lk310, lk311] at pu312
              obtain ⟨pu312_0, pu312_1, pu312_2⟩ := pu312
              have hq314 : oQ b x (u312) := oQ_opens fu312 rfl (oQ_fr fu82 rfl iv0) pu312_1 (by omega) (by omega) (by omega)
              refine r_aload_n C (j := 0) (oDec_at oX12_onePart 18 rfl) rfl rfl ?_
              refine r_pc C 35 rfl ?_
              refine r_dup C (oDec_at oX12_onePart 19 rfl) rfl ?_
              refine r_geti (k := 2) (lo := 0) (hi := 1600) C v84 oCl12 rfl (by decide) flX12_179 rfl rfl (((fu312 71 2 rfl).1).trans (ev84)) rfl rfl (oDec_at oX12_onePart 20 rfl) (fun b315 b315h => ?_)
              refine r_iconst C (oDec_at oX12_onePart 21 rfl) (v := k1) (by rw [qk1]; rfl) ?_
              obtain ⟨v316, ev316⟩ : ∃ z : Int32, z = v84 + k1 := ⟨_, rfl⟩
              have hv316 : v316.toInt = v84.toInt + k1.toInt := n_add ev316 (by omega) (by omega)
              refine r_iadd C v316 (oDec_at oX12_onePart 22 rfl) ev316 ?_
              refine r_puti (k := 2) (lo := 0) (hi := 1600) C oCl12 rfl (by decide) flX12_179 rfl rfl rfl rfl rfl rfl rfl rfl ⟨by omega, by omega⟩ (oDec_at oX12_onePart 23 rfl) ?_
              refine r_goto C (tgt := 143) (oDec_at oX12_onePart 24 rfl) (by decide) ?_
              refine r_goto C (tgt := 2) (oDec_at oX12_onePart 72 rfl) (by decide) ?_
              have lk317 : (((pI u312 71 2 v316)).1 71 48).toInt = (u312.1 71 48).toInt := congrArg Int32.toInt ((pI_ne (a := 71) (b := 48) (c := 71) (k := 2) _ _ (Or.inr (by decide))))
              have lk318 : (((pI u312 71 2 v316)).1 71 2).toInt = v316.toInt := congrArg Int32.toInt ((pI_self _ _ _ _))
              have lk319 : (((pI u312 71 2 v316)).1 71 45).toInt = (t.1 71 45).toInt := congrArg Int32.toInt (((pI_ne (a := 71) (b := 45) (c := 71) (k := 2) _ _ (Or.inr (by decide)))).trans (((fu312 71 45 rfl).1).trans ((fu82 71 45 rfl).1)))
              have lk320 : (((pI u312 71 2 v316)).1 71 47).toInt = (u312.1 71 47).toInt := congrArg Int32.toInt ((pI_ne (a := 71) (b := 47) (c := 71) (k := 2) _ _ (Or.inr (by decide))))
              have lk321 : (((pI u312 71 2 v316)).1 71 2).toInt = v316.toInt := congrArg Int32.toInt ((pI_self _ _ _ _))
              have lk322 : (((pI u312 71 2 v316)).1 71 2).toInt = v316.toInt := congrArg Int32.toInt ((pI_self _ _ _ _))
              have hj := oB1_f (((pI u312 71 2 v316)).1 71 5)
              refine r_pick C [0, 1] rfl ?_
              exact (ih (n - 1) (by omega)) ((pI u312 71 2 v316)) x1  (oQ_fr (oFr_oneI (q := 12) (m := 2) rfl (by rfl)) rfl hq314) (by omega) (by omega) (by omega) (by omega) (by omega)
  refine r_iconst C (oDec_at oX12_onePart 0 rfl) (v := k1) (by rw [qk1]; rfl) ?_
  refine r_istore_n C (lv' := [(0, .ref (oad E 71)), (1, .int k1)]) [1, 0] (oDec_at oX12_onePart 1 rfl) rfl (by decide) rfl ?_
  have hj := oB1_f ((s).1 71 5)
  exact (key (3 * (1601 - ((s).1 71 2).toInt) + k1.toInt + oB1 ((s).1 71 5)).toNat) (s) k1  hp0 (by omega) (by omega) (by omega) (by omega) (by omega)
