set_option maxHeartbeats 4000000 in
set_option maxRecDepth 100000 in
theorem ct9_X4_holds (l : Launch) (E : oE) (s : oS) (c0 : Nat) (hk0 : okd c0 = 4) (a1 : Int32)   : oMet l 1 yX4_holds cX4_holds 2 (some .boolean) [] E s [.ref (oad E c0), .int a1] (oPi (fun r u => (0 ≤ r.toInt ∧ r.toInt ≤ 1) ∧ ((r.toInt = 1 ∧ 0 ≤ a1.toInt ∧ a1.toInt < (s.1 c0 4).toInt ∧ a1.toInt < 24) ∨ r.toInt = 0) ∧ ((0 ≤ a1.toInt ∧ a1.toInt < (s.1 c0 4).toInt) → r.toInt = 1))) := by
  refine oMet.of (lv := [(0, .ref (oad E c0)), (1, .int a1)]) (by decide +kernel) (Nat.le_of_ble_eq_true rfl) rfl (fun J C hT => ?_)
  have C : oC l 1 cX4_holds RX4 2 (some .boolean) [] E s (oPi (fun r u => (0 ≤ r.toInt ∧ r.toInt ≤ 1) ∧ ((r.toInt = 1 ∧ 0 ≤ a1.toInt ∧ a1.toInt < (s.1 c0 4).toInt ∧ a1.toInt < 24) ∨ r.toInt = 0) ∧ ((0 ≤ a1.toInt ∧ a1.toInt < (s.1 c0 4).toInt) → r.toInt = 1))) J := C
  obtain ⟨k0, qk0⟩ : ∃ z : Int32, z = 0 := ⟨_, rfl⟩
  have ek0 : k0.toInt = 0 := by rw [qk0]; rfl
  obtain ⟨k1, qk1⟩ : ∃ z : Int32, z = 1 := ⟨_, rfl⟩
  have ek1 : k1.toInt = 1 := by rw [qk1]; rfl
  obtain ⟨k24, qk24⟩ : ∃ z : Int32, z = 24 := ⟨_, rfl⟩
  have ek24 : k24.toInt = 24 := by rw [qk24]; rfl
  have rg1 := n_rng a1
  refine r_iload_n C (j := 1) (oDec_at oX4_holds 0 rfl) rfl rfl ?_
  refine r_if_lt C 22 (oDec_at oX4_holds 1 rfl) (by decide) (fun cd1 => ?_) (fun cd1 => ?_)
  · skip
    refine r_iconst C (oDec_at oX4_holds 11 rfl) (v := k0) (by rw [qk0]; rfl) ?_
    exact r_zret C (n_bool (by omega)) (oDec_at oX4_holds 12 rfl) ⟨_, rfl, ⟨by omega, by omega, by omega⟩⟩
  · skip
    refine r_iload_n C (j := 1) (oDec_at oX4_holds 2 rfl) rfl rfl ?_
    refine r_aload_n C (j := 0) (oDec_at oX4_holds 3 rfl) rfl rfl ?_
    obtain ⟨v2, ev2⟩ : ∃ z : Int32, (s).1 c0 4 = z := ⟨_, rfl⟩
    have gv2 : (s.1 c0 4).toInt = v2.toInt := congrArg Int32.toInt (ev2)
    refine r_geti (k := 4) (lo := 0) (hi := 24) C v2 oCl4 hk0 (by decide) flX4_28 rfl rfl (ev2) rfl rfl (oDec_at oX4_holds 4 rfl) (fun b3 b3h => ?_)
    refine r_icmp_ge C 22 (oDec_at oX4_holds 5 rfl) (by decide) (fun cd4 => ?_) (fun cd4 => ?_)
    · skip
      refine r_iconst C (oDec_at oX4_holds 11 rfl) (v := k0) (by rw [qk0]; rfl) ?_
      exact r_zret C (n_bool (by omega)) (oDec_at oX4_holds 12 rfl) ⟨_, rfl, ⟨by omega, by omega, by omega⟩⟩
    · skip
      refine r_iload_n C (j := 1) (oDec_at oX4_holds 6 rfl) rfl rfl ?_
      refine r_bipush C (oDec_at oX4_holds 7 rfl) (v := k24) (by rw [qk24]; rfl) ?_
      refine r_icmp_ge C 22 (oDec_at oX4_holds 8 rfl) (by decide) (fun cd5 => ?_) (fun cd5 => ?_)
      · skip
        refine r_iconst C (oDec_at oX4_holds 11 rfl) (v := k0) (by rw [qk0]; rfl) ?_
        exact r_zret C (n_bool (by omega)) (oDec_at oX4_holds 12 rfl) ⟨_, rfl, ⟨by omega, by omega, by omega⟩⟩
      · skip
        refine r_iconst C (oDec_at oX4_holds 9 rfl) (v := k1) (by rw [qk1]; rfl) ?_
        refine r_goto C (tgt := 23) (oDec_at oX4_holds 10 rfl) (by decide) ?_
        exact r_zret C (n_bool (by omega)) (oDec_at oX4_holds 12 rfl) ⟨_, rfl, ⟨by omega, by omega, by omega⟩⟩
set_option maxHeartbeats 4000000 in
set_option maxRecDepth 100000 in
theorem ct9_X4_stepOf (l : Launch) (E : oE) (s : oS) (c0 : Nat) (hk0 : okd c0 = 4) (a1 : Int32)  (hp0 : owLN s) : oMet l 2 yX4_stepOf cX4_stepOf 2 (some .int) [] E s [.ref (oad E c0), .int a1] (oPi (fun r u => (r.toInt = owSt s c0 a1.toInt) ∧ (-1 ≤ r.toInt ∧ r.toInt ≤ 28))) := by
  refine oMet.of (lv := [(0, .ref (oad E c0)), (1, .int a1)]) (by decide +kernel) (Nat.le_of_ble_eq_true rfl) rfl (fun J C hT => ?_)
  have C : oC l 2 cX4_stepOf RX4 2 (some .int) [] E s (oPi (fun r u => (r.toInt = owSt s c0 a1.toInt) ∧ (-1 ≤ r.toInt ∧ r.toInt ≤ 28))) J := C
  obtain ⟨km1, qkm1⟩ : ∃ z : Int32, z = (-1) := ⟨_, rfl⟩
  have ekm1 : km1.toInt = (-1) := by rw [qkm1]; rfl
  have rg1 := n_rng a1
  have hln9 := owSt_b (k := a1.toInt) hp0 hk0
  refine r_aload_n C (j := 0) (oDec_at oX4_stepOf 0 rfl) rfl rfl ?_
  refine r_iload_n C (j := 1) (oDec_at oX4_stepOf 1 rfl) rfl rfl ?_
  refine r_callVi C oCl4 hk0 miX4_holds mlX4_52 (ct9_X4_holds l E (s) c0 hk0 a1 ) (by decide) rfl rfl rfl (Nat.le_of_ble_eq_true rfl) (oDec_at oX4_stepOf 2 rfl) (fun r2 u1 pu1 fu1 => ?_)
  try dsimp only at pu1
  obtain ⟨pu1_0, pu1_1, pu1_2⟩ := pu1
  have hxu1 := oFr_nil fu1; subst hxu1
  have rr2 := n_rng r2
  refine r_if_eq C 17 (oDec_at oX4_stepOf 3 rfl) (by decide) (fun cd3 => ?_) (fun cd3 => ?_)
  · skip
    refine r_iconst C (oDec_at oX4_stepOf 9 rfl) (v := km1) (by rw [qkm1]; rfl) ?_
    have hsr9 : km1.toInt = owSt s c0 a1.toInt := by first | (rw [owSt_n (by omega)]; omega) | (rw [owSt_y (by omega), show a1.toInt.toNat = a1.toNatClampNeg from rfl]; exact (congrArg Int32.toInt ekm1).symm)
    exact r_iret C (oDec_at oX4_stepOf 10 rfl) ⟨_, rfl, ⟨by omega, by omega⟩⟩
  · skip
    refine r_aload_n C (j := 0) (oDec_at oX4_stepOf 4 rfl) rfl rfl ?_
    refine r_getR (k := 0) (b := 1) C oCl4 hk0 (by decide) flX4_9 rfl rfl rfl (oDec_at oX4_stepOf 5 rfl) ?_
    refine r_iload_n C (j := 1) (oDec_at oX4_stepOf 6 rfl) rfl rfl ?_
    obtain ⟨v5, ev5⟩ : ∃ z : Int32, (s).1 (c0 + 1) a1.toNatClampNeg = z := ⟨_, rfl⟩
    have gv5 : (s.1 (c0 + 1) a1.toNatClampNeg).toInt = v5.toInt := congrArg Int32.toInt (ev5)
    have rv5 := n_rng v5
    refine r_iald (n := 24) (lo := (-2147483648)) (hi := 2147483647) C v5 (kr4_1 hk0) (by decide) rfl rfl ⟨by omega, by omega⟩ (by decide) ev5 rfl rfl (oDec_at oX4_stepOf 7 rfl) (fun _ _ => ?_)
    refine r_goto C (tgt := 18) (oDec_at oX4_stepOf 8 rfl) (by decide) ?_
    have hsr9 : v5.toInt = owSt s c0 a1.toInt := by first | (rw [owSt_n (by omega)]; omega) | (rw [owSt_y (by omega), show a1.toInt.toNat = a1.toNatClampNeg from rfl]; exact (congrArg Int32.toInt ev5).symm)
    exact r_iret C (oDec_at oX4_stepOf 10 rfl) ⟨_, rfl, ⟨by omega, by omega⟩⟩
set_option maxHeartbeats 4000000 in
set_option maxRecDepth 100000 in
theorem ct9_X9_take (l : Launch) (E : oE) (s : oS) (c0 : Nat) (hk0 : okd c0 = 9) (a1 : Int32)  (hp0 : -1 ≤ a1.toInt ∧ a1.toInt ≤ 4499) : oMet l 1 yX9_take cX9_take 2 none [(9, 0), (9, 1), (9, 2), (9, 3), (9, 4)] E s [.ref (oad E c0), .int a1] (oPv (fun u => (-21 ≤ (u.1 c0 1).toInt ∧ (u.1 c0 1).toInt ≤ 7) ∧ (0 ≤ (u.1 c0 0).toInt ∧ (u.1 c0 0).toInt ≤ 24) ∧ (0 ≤ a1.toInt → owVo c0 a1.toInt u) ∧ (∀ c k : Nat, c ≠ c0 → u.1 c k = s.1 c k))) := by
  refine oMet.of (lv := [(0, .ref (oad E c0)), (1, .int a1)]) (by decide +kernel) (Nat.le_of_ble_eq_true rfl) rfl (fun J C hT => ?_)
  have C : oC l 1 cX9_take RX9 2 none [(9, 0), (9, 1), (9, 2), (9, 3), (9, 4)] E s (oPv (fun u => (-21 ≤ (u.1 c0 1).toInt ∧ (u.1 c0 1).toInt ≤ 7) ∧ (0 ≤ (u.1 c0 0).toInt ∧ (u.1 c0 0).toInt ≤ 24) ∧ (0 ≤ a1.toInt → owVo c0 a1.toInt u) ∧ (∀ c k : Nat, c ≠ c0 → u.1 c k = s.1 c k))) J := C
  obtain ⟨k2, qk2⟩ : ∃ z : Int32, z = 2 := ⟨_, rfl⟩
  have ek2 : k2.toInt = 2 := by rw [qk2]; rfl
  obtain ⟨k3, qk3⟩ : ∃ z : Int32, z = 3 := ⟨_, rfl⟩
  have ek3 : k3.toInt = 3 := by rw [qk3]; rfl
  obtain ⟨k6, qk6⟩ : ∃ z : Int32, z = 6 := ⟨_, rfl⟩
  have ek6 : k6.toInt = 6 := by rw [qk6]; rfl
  obtain ⟨k7, qk7⟩ : ∃ z : Int32, z = 7 := ⟨_, rfl⟩
  have ek7 : k7.toInt = 7 := by rw [qk7]; rfl
  obtain ⟨k12, qk12⟩ : ∃ z : Int32, z = 12 := ⟨_, rfl⟩
  have ek12 : k12.toInt = 12 := by rw [qk12]; rfl
  obtain ⟨k15, qk15⟩ : ∃ z : Int32, z = 15 := ⟨_, rfl⟩
  have ek15 : k15.toInt = 15 := by rw [qk15]; rfl
  obtain ⟨k180, qk180⟩ : ∃ z : Int32, z = 180 := ⟨_, rfl⟩
  have ek180 : k180.toInt = 180 := by rw [qk180]; rfl
  have rg1 := n_rng a1
  refine r_aload_n C (j := 0) (oDec_at oX9_take 0 rfl) rfl rfl ?_
  refine r_iload_n C (j := 1) (oDec_at oX9_take 1 rfl) rfl rfl ?_
  refine r_sipush C (oDec_at oX9_take 2 rfl) (v := k180) (by rw [qk180]; rfl) ?_
  obtain ⟨v1, ev1⟩ : ∃ z : Int32, z = a1 / k180 := ⟨_, rfl⟩
  have rv1 := n_rng v1
  refine r_idiv C v1 (oDec_at oX9_take 3 rfl) (n_ne0 (by omega)) ev1 ?_
  refine r_puti (k := 0) (lo := (-2147483648)) (hi := 2147483647) C oCl9 hk0 (by decide) flX9_9 rfl rfl rfl rfl rfl rfl rfl rfl (n_rng _) (oDec_at oX9_take 4 rfl) ?_
  refine r_aload_n C (j := 0) (oDec_at oX9_take 5 rfl) rfl rfl ?_
  refine r_pc C 10 rfl ?_
  refine r_iload_n C (j := 1) (oDec_at oX9_take 6 rfl) rfl rfl ?_
  refine r_bipush C (oDec_at oX9_take 7 rfl) (v := k12) (by rw [qk12]; rfl) ?_
  obtain ⟨v2, ev2⟩ : ∃ z : Int32, z = a1 / k12 := ⟨_, rfl⟩
  have rv2 := n_rng v2
  refine r_idiv C v2 (oDec_at oX9_take 8 rfl) (n_ne0 (by omega)) ev2 ?_
  refine r_bipush C (oDec_at oX9_take 9 rfl) (v := k15) (by rw [qk15]; rfl) ?_
  obtain ⟨v3, ev3⟩ : ∃ z : Int32, z = v2 - v2 / k15 * k15 := ⟨_, rfl⟩
  have rv3 := n_rng v3
  refine r_irem C v3 (oDec_at oX9_take 10 rfl) (n_ne0 (by omega)) ev3 ?_
  refine r_bipush C (oDec_at oX9_take 11 rfl) (v := k7) (by rw [qk7]; rfl) ?_
  refine r_pc C 19 rfl ?_
  obtain ⟨v4, ev4⟩ : ∃ z : Int32, z = v3 - k7 := ⟨_, rfl⟩
  have rv4 := n_rng v4
  refine r_isub C v4 (oDec_at oX9_take 12 rfl) ev4 ?_
  refine r_puti (k := 1) (lo := (-2147483648)) (hi := 2147483647) C oCl9 hk0 (by decide) flX9_15 rfl rfl rfl rfl rfl rfl rfl rfl (n_rng _) (oDec_at oX9_take 13 rfl) ?_
  refine r_aload_n C (j := 0) (oDec_at oX9_take 14 rfl) rfl rfl ?_
  refine r_iload_n C (j := 1) (oDec_at oX9_take 15 rfl) rfl rfl ?_
  refine r_bipush C (oDec_at oX9_take 16 rfl) (v := k6) (by rw [qk6]; rfl) ?_
  obtain ⟨v5, ev5⟩ : ∃ z : Int32, z = a1 / k6 := ⟨_, rfl⟩
  have rv5 := n_rng v5
  refine r_idiv C v5 (oDec_at oX9_take 17 rfl) (n_ne0 (by omega)) ev5 ?_
  refine r_pc C 28 rfl ?_
  refine r_iconst C (oDec_at oX9_take 18 rfl) (v := k2) (by rw [qk2]; rfl) ?_
  obtain ⟨v6, ev6⟩ : ∃ z : Int32, z = v5 - v5 / k2 * k2 := ⟨_, rfl⟩
  have rv6 := n_rng v6
  refine r_irem C v6 (oDec_at oX9_take 19 rfl) (n_ne0 (by omega)) ev6 ?_
  refine r_puti (k := 2) (lo := (-2147483648)) (hi := 2147483647) C oCl9 hk0 (by decide) flX9_18 rfl rfl rfl rfl rfl rfl rfl rfl (n_rng _) (oDec_at oX9_take 20 rfl) ?_
  refine r_aload_n C (j := 0) (oDec_at oX9_take 21 rfl) rfl rfl ?_
  refine r_iload_n C (j := 1) (oDec_at oX9_take 22 rfl) rfl rfl ?_
  refine r_iconst C (oDec_at oX9_take 23 rfl) (v := k3) (by rw [qk3]; rfl) ?_
  refine r_pc C 36 rfl ?_
  obtain ⟨v7, ev7⟩ : ∃ z : Int32, z = a1 / k3 := ⟨_, rfl⟩
  have rv7 := n_rng v7
  refine r_idiv C v7 (oDec_at oX9_take 24 rfl) (n_ne0 (by omega)) ev7 ?_
  refine r_iconst C (oDec_at oX9_take 25 rfl) (v := k2) (by rw [qk2]; rfl) ?_
  obtain ⟨v8, ev8⟩ : ∃ z : Int32, z = v7 - v7 / k2 * k2 := ⟨_, rfl⟩
  have rv8 := n_rng v8
  refine r_irem C v8 (oDec_at oX9_take 26 rfl) (n_ne0 (by omega)) ev8 ?_
  refine r_puti (k := 3) (lo := (-2147483648)) (hi := 2147483647) C oCl9 hk0 (by decide) flX9_21 rfl rfl rfl rfl rfl rfl rfl rfl (n_rng _) (oDec_at oX9_take 27 rfl) ?_
  refine r_aload_n C (j := 0) (oDec_at oX9_take 28 rfl) rfl rfl ?_
  refine r_iload_n C (j := 1) (oDec_at oX9_take 29 rfl) rfl rfl ?_
  refine r_pc C 44 rfl ?_
  refine r_iconst C (oDec_at oX9_take 30 rfl) (v := k3) (by rw [qk3]; rfl) ?_
  obtain ⟨v9, ev9⟩ : ∃ z : Int32, z = a1 - a1 / k3 * k3 := ⟨_, rfl⟩
  have rv9 := n_rng v9
  refine r_irem C v9 (oDec_at oX9_take 31 rfl) (n_ne0 (by omega)) ev9 ?_
  refine r_puti (k := 4) (lo := (-2147483648)) (hi := 2147483647) C oCl9 hk0 (by decide) flX9_24 rfl rfl rfl rfl rfl rfl rfl rfl (n_rng _) (oDec_at oX9_take 32 rfl) ?_
  obtain ⟨hT1, hT2, hT3⟩ := owTake ev1 ev2 ev3 ev4 ev5 ev6 ev7 ev8 ev9 ek180 ek12 ek15 ek7 ek6 ek2 ek3 hp0
  have lk10 : (((pI (pI (pI (pI (pI s c0 0 v1) c0 1 v4) c0 2 v6) c0 3 v8) c0 4 v9)).1 c0 1).toInt = v4.toInt := congrArg Int32.toInt (((pI_ne (a := c0) (b := 1) (c := c0) (k := 4) _ _ (Or.inr (by decide)))).trans (((pI_ne (a := c0) (b := 1) (c := c0) (k := 3) _ _ (Or.inr (by decide)))).trans (((pI_ne (a := c0) (b := 1) (c := c0) (k := 2) _ _ (Or.inr (by decide)))).trans ((pI_self _ _ _ _)))))
  have lk11 : (((pI (pI (pI (pI (pI s c0 0 v1) c0 1 v4) c0 2 v6) c0 3 v8) c0 4 v9)).1 c0 0).toInt = v1.toInt := congrArg Int32.toInt (((pI_ne (a := c0) (b := 0) (c := c0) (k := 4) _ _ (Or.inr (by decide)))).trans (((pI_ne (a := c0) (b := 0) (c := c0) (k := 3) _ _ (Or.inr (by decide)))).trans (((pI_ne (a := c0) (b := 0) (c := c0) (k := 2) _ _ (Or.inr (by decide)))).trans (((pI_ne (a := c0) (b := 0) (c := c0) (k := 1) _ _ (Or.inr (by decide)))).trans ((pI_self _ _ _ _))))))
  exact r_vret C (oDec_at oX9_take 33 rfl) ⟨rfl, ⟨by omega, by omega, fun h9 => by have h8 := hT3 h9; exact owVo_of h8.1 h8.2.1 h8.2.2.1 h8.2.2.2.1 h8.2.2.2.2 hk0, fun c k h9 => owPut5 h9⟩⟩
set_option maxHeartbeats 4000000 in
set_option maxRecDepth 100000 in
theorem ct9_X9_tone (l : Launch) (E : oE) (s : oS) (c0 : Nat) (hk0 : okd c0 = 9) (c1 : Nat) (hk1 : okd c1 = 4) (a2 : Int32)  (hp0 : owLN s) (hp1 : -21 ≤ (s.1 c0 1).toInt ∧ (s.1 c0 1).toInt ≤ 7) : oMet l 3 yX9_tone cX9_tone 4 (some .int) [] E s [.ref (oad E c0), .ref (oad E c1), .int a2] (oPi (fun r u => (r.toInt = owTn s c0 c1 a2.toInt))) := by
  refine oMet.of (lv := [(0, .ref (oad E c0)), (1, .ref (oad E c1)), (2, .int a2)]) (by decide +kernel) (Nat.le_of_ble_eq_true rfl) rfl (fun J C hT => ?_)
  have C : oC l 3 cX9_tone RX9 4 (some .int) [] E s (oPi (fun r u => (r.toInt = owTn s c0 c1 a2.toInt))) J := C
  obtain ⟨km1000000000, qkm1000000000⟩ : ∃ z : Int32, z = (-1000000000) := ⟨_, rfl⟩
  have ekm1000000000 : km1000000000.toInt = (-1000000000) := by rw [qkm1000000000]; rfl
  obtain ⟨km1, qkm1⟩ : ∃ z : Int32, z = (-1) := ⟨_, rfl⟩
  have ekm1 : km1.toInt = (-1) := by rw [qkm1]; rfl
  obtain ⟨k1, qk1⟩ : ∃ z : Int32, z = 1 := ⟨_, rfl⟩
  have ek1 : k1.toInt = 1 := by rw [qk1]; rfl
  obtain ⟨k2, qk2⟩ : ∃ z : Int32, z = 2 := ⟨_, rfl⟩
  have ek2 : k2.toInt = 2 := by rw [qk2]; rfl
  have rg2 := n_rng a2
  have hop9 := (hp0 c1 hk1).1
  refine r_aload_n C (j := 1) (oDec_at oX9_tone 0 rfl) rfl rfl ?_
  refine r_iload_n C (j := 2) (oDec_at oX9_tone 1 rfl) rfl rfl ?_
  refine r_callVi C oCl4 hk1 miX4_stepOf mlX9_43 (ct9_X4_stepOf l E (s) c1 hk1 a2 hp0) (by decide) rfl rfl rfl (Nat.le_of_ble_eq_true rfl) (oDec_at oX9_tone 2 rfl) (fun r2 u1 pu1 fu1 => ?_)
  try dsimp only at pu1
  obtain ⟨pu1_0, pu1_1⟩ := pu1
  have hxu1 := oFr_nil fu1; subst hxu1
  have rr2 := n_rng r2
  refine r_istore_n C (lv' := [(0, .ref (oad E c0)), (1, .ref (oad E c1)), (2, .int a2), (3, .int r2)]) [1, 2, 3, 0] (oDec_at oX9_tone 3 rfl) rfl (by decide) rfl ?_
  refine r_iload_n C (j := 3) (oDec_at oX9_tone 4 rfl) rfl rfl ?_
  refine r_iconst C (oDec_at oX9_tone 5 rfl) (v := km1) (by rw [qkm1]; rfl) ?_
  refine r_pc C 8 rfl ?_
  refine r_icmp_ne C 14 (oDec_at oX9_tone 6 rfl) (by decide) (fun cd3 => ?_) (fun cd3 => ?_)
  · skip
    refine r_aload_n C (j := 0) (oDec_at oX9_tone 9 rfl) rfl rfl ?_
    obtain ⟨v4, ev4⟩ : ∃ z : Int32, (s).1 c0 1 = z := ⟨_, rfl⟩
    have gv4 : (s.1 c0 1).toInt = v4.toInt := congrArg Int32.toInt (ev4)
    have rv4 := n_rng v4
    refine r_geti (k := 1) (lo := (-2147483648)) (hi := 2147483647) C v4 oCl9 hk0 (by decide) flX9_15 rfl rfl (ev4) rfl rfl (oDec_at oX9_tone 10 rfl) (fun _ _ => ?_)
    refine r_aload_n C (j := 0) (oDec_at oX9_tone 11 rfl) rfl rfl ?_
    obtain ⟨v5, ev5⟩ : ∃ z : Int32, (s).1 c0 2 = z := ⟨_, rfl⟩
    have gv5 : (s.1 c0 2).toInt = v5.toInt := congrArg Int32.toInt (ev5)
    have rv5 := n_rng v5
    refine r_geti (k := 2) (lo := (-2147483648)) (hi := 2147483647) C v5 oCl9 hk0 (by decide) flX9_18 rfl rfl (ev5) rfl rfl (oDec_at oX9_tone 12 rfl) (fun _ _ => ?_)
    refine r_iconst C (oDec_at oX9_tone 13 rfl) (v := k1) (by rw [qk1]; rfl) ?_
    refine r_icmp_ne C 37 (oDec_at oX9_tone 14 rfl) (by decide) (fun cd6 => ?_) (fun cd6 => ?_)
    · skip
      refine r_iload_n C (j := 3) (oDec_at oX9_tone 22 rfl) rfl rfl ?_
      obtain ⟨v7, ev7⟩ : ∃ z : Int32, z = v4 + r2 := ⟨_, rfl⟩
      have hv7 : v7.toInt = v4.toInt + r2.toInt := n_add ev7 (by omega) (by omega)
      refine r_iadd C v7 (oDec_at oX9_tone 23 rfl) ev7 ?_
      exact r_iret C (oDec_at oX9_tone 24 rfl) ⟨_, rfl, by rw [owTn_y (by omega)]; first | (rw [if_pos (by omega)] <;> omega) | (rw [if_neg (by omega)] <;> omega)⟩
    · skip
      refine r_iconst C (oDec_at oX9_tone 15 rfl) (v := k2) (by rw [qk2]; rfl) ?_
      refine r_aload_n C (j := 1) (oDec_at oX9_tone 16 rfl) rfl rfl ?_
      obtain ⟨v8, ev8⟩ : ∃ z : Int32, (s).1 c1 6 = z := ⟨_, rfl⟩
      have gv8 : (s.1 c1 6).toInt = v8.toInt := congrArg Int32.toInt (ev8)
      have rv8 := n_rng v8
      refine r_getiN (k := 6) (lo := (-2147483648)) (hi := 2147483647) C v8 oCl4 hk1 (by decide) flX9_47 rfl rfl (ev8) rfl rfl (oDec_at oX9_tone 17 rfl) (fun _ _ => ?_)
      obtain ⟨v9, ev9⟩ : ∃ z : Int32, z = k2 * v8 := ⟨_, rfl⟩
      have hv9 : v9.toInt = 2 * v8.toInt := n_mulK' 2 ev9 ek2 (by omega) (by omega)
      refine r_imul C v9 (oDec_at oX9_tone 18 rfl) ev9 ?_
      refine r_iload_n C (j := 3) (oDec_at oX9_tone 19 rfl) rfl rfl ?_
      obtain ⟨v10, ev10⟩ : ∃ z : Int32, z = v9 - r2 := ⟨_, rfl⟩
      have hv10 : v10.toInt = v9.toInt - r2.toInt := n_sub ev10 (by omega) (by omega)
      refine r_isub C v10 (oDec_at oX9_tone 20 rfl) ev10 ?_
      refine r_pc C 34 rfl ?_
      refine r_goto C (tgt := 38) (oDec_at oX9_tone 21 rfl) (by decide) ?_
      obtain ⟨v11, ev11⟩ : ∃ z : Int32, z = v4 + v10 := ⟨_, rfl⟩
      have hv11 : v11.toInt = v4.toInt + v10.toInt := n_add ev11 (by omega) (by omega)
      refine r_iadd C v11 (oDec_at oX9_tone 23 rfl) ev11 ?_
      exact r_iret C (oDec_at oX9_tone 24 rfl) ⟨_, rfl, by rw [owTn_y (by omega)]; first | (rw [if_pos (by omega)] <;> omega) | (rw [if_neg (by omega)] <;> omega)⟩
  · skip
    refine r_ldc C (v := km1000000000) (by rw [qkm1000000000]; exact kcX9_46) (oDec_at oX9_tone 7 rfl) ?_
    exact r_iret C (oDec_at oX9_tone 8 rfl) ⟨_, rfl, by rw [owTn_n (by omega)]; omega⟩
set_option maxHeartbeats 4000000 in
set_option maxRecDepth 100000 in
theorem ct9_X1_apartAt (l : Launch) (E : oE) (s : oS) (c1 : Nat) (hk1 : okd c1 = 4) (a2 : Int32) (a3 : Int32)  (hp0 : owLN s) (hp1 : owVR s) : oMet l 4 yX1_apartAt cX1_apartAt 6 (some .int) [] E s [.ref (oad E 35), .ref (oad E c1), .int a2, .int a3] (oPi (fun r u => (r.toInt = owAp s c1 a2.toInt a3.toInt))) := by
  refine oMet.of (lv := [(0, .ref (oad E 35)), (1, .ref (oad E c1)), (2, .int a2), (3, .int a3)]) (by decide +kernel) (Nat.le_of_ble_eq_true rfl) rfl (fun J C hT => ?_)
  have C : oC l 4 cX1_apartAt RX1 6 (some .int) [] E s (oPi (fun r u => (r.toInt = owAp s c1 a2.toInt a3.toInt))) J := C
  obtain ⟨km1000000000, qkm1000000000⟩ : ∃ z : Int32, z = (-1000000000) := ⟨_, rfl⟩
  have ekm1000000000 : km1000000000.toInt = (-1000000000) := by rw [qkm1000000000]; rfl
  have rg2 := n_rng a2
  have rg3 := n_rng a3
  have hv40 := hp1.1.1
  have hv41 := hp1.2.1
  have hta := owTn_b (vc := 40) (k := a2.toInt) hp0 hk1 hv40
  have htb := owTn_b (vc := 41) (k := a3.toInt) hp0 hk1 hv41
  refine r_aload_n C (j := 0) (oDec_at oX1_apartAt 0 rfl) rfl rfl ?_
  refine r_getF (k := 4) (b := 40) C oCl1 rfl (by decide) flX1_27 rfl rfl rfl (oDec_at oX1_apartAt 1 rfl) ?_
  refine r_aload_n C (j := 1) (oDec_at oX1_apartAt 2 rfl) rfl rfl ?_
  refine r_iload_n C (j := 2) (oDec_at oX1_apartAt 3 rfl) rfl rfl ?_
  refine r_callVi C oCl9 rfl miX9_tone mlX1_107 (ct9_X9_tone l E (s) 40 rfl c1 hk1 a2 hp0 (by omega)) (by decide) rfl rfl rfl (Nat.le_of_ble_eq_true rfl) (oDec_at oX1_apartAt 4 rfl) (fun r2 u1 pu1 fu1 => ?_)
  try dsimp only at pu1
  have hxu1 := oFr_nil fu1; subst hxu1
  have rr2 := n_rng r2
  refine r_istore C (lv' := [(0, .ref (oad E 35)), (1, .ref (oad E c1)), (2, .int a2), (3, .int a3), (4, .int r2)]) [1, 2, 3, 4, 0] (oDec_at oX1_apartAt 5 rfl) (by decide) rfl ?_
  refine r_pc C 11 rfl ?_
  refine r_aload_n C (j := 0) (oDec_at oX1_apartAt 6 rfl) rfl rfl ?_
  refine r_getF (k := 5) (b := 41) C oCl1 rfl (by decide) flX1_31 rfl rfl rfl (oDec_at oX1_apartAt 7 rfl) ?_
  refine r_aload_n C (j := 1) (oDec_at oX1_apartAt 8 rfl) rfl rfl ?_
  refine r_iload_n C (j := 3) (oDec_at oX1_apartAt 9 rfl) rfl rfl ?_
  refine r_callVi C oCl9 rfl miX9_tone mlX1_107 (ct9_X9_tone l E (s) 41 rfl c1 hk1 a3 hp0 (by omega)) (by decide) rfl rfl rfl (Nat.le_of_ble_eq_true rfl) (oDec_at oX1_apartAt 10 rfl) (fun r4 u3 pu3 fu3 => ?_)
  try dsimp only at pu3
  have hxu3 := oFr_nil fu3; subst hxu3
  have rr4 := n_rng r4
  refine r_istore C (lv' := [(0, .ref (oad E 35)), (1, .ref (oad E c1)), (2, .int a2), (3, .int a3), (4, .int r2), (5, .int r4)]) [1, 2, 3, 4, 5, 0] (oDec_at oX1_apartAt 11 rfl) (by decide) rfl ?_
  refine r_pc C 22 rfl ?_
  refine r_iload C (j := 4) (oDec_at oX1_apartAt 12 rfl) rfl ?_
  refine r_ldc C (v := km1000000000) (by rw [qkm1000000000]; exact kcX1_63) (oDec_at oX1_apartAt 13 rfl) ?_
  refine r_icmp_eq C 36 (oDec_at oX1_apartAt 14 rfl) (by decide) (fun cd5 => ?_) (fun cd5 => ?_)
  · skip
    refine r_ldc C (v := km1000000000) (by rw [qkm1000000000]; exact kcX1_63) (oDec_at oX1_apartAt 18 rfl) ?_
    refine r_goto C (tgt := 46) (oDec_at oX1_apartAt 19 rfl) (by decide) ?_
    exact r_iret C (oDec_at oX1_apartAt 23 rfl) ⟨_, rfl, by unfold owAp; first | (rw [if_pos (by omega)] <;> omega) | (rw [if_neg (by omega)] <;> omega)⟩
  · skip
    refine r_iload C (j := 5) (oDec_at oX1_apartAt 15 rfl) rfl ?_
    refine r_ldc C (v := km1000000000) (by rw [qkm1000000000]; exact kcX1_63) (oDec_at oX1_apartAt 16 rfl) ?_
    refine r_icmp_ne C 41 (oDec_at oX1_apartAt 17 rfl) (by decide) (fun cd6 => ?_) (fun cd6 => ?_)
    · skip
      refine r_iload C (j := 5) (oDec_at oX1_apartAt 20 rfl) rfl ?_
      refine r_iload C (j := 4) (oDec_at oX1_apartAt 21 rfl) rfl ?_
      obtain ⟨v7, ev7⟩ : ∃ z : Int32, z = r4 - r2 := ⟨_, rfl⟩
      have hv7 : v7.toInt = r4.toInt - r2.toInt := n_sub ev7 (by omega) (by omega)
      refine r_isub C v7 (oDec_at oX1_apartAt 22 rfl) ev7 ?_
      exact r_iret C (oDec_at oX1_apartAt 23 rfl) ⟨_, rfl, by unfold owAp; first | (rw [if_pos (by omega)] <;> omega) | (rw [if_neg (by omega)] <;> omega)⟩
    · skip
      refine r_ldc C (v := km1000000000) (by rw [qkm1000000000]; exact kcX1_63) (oDec_at oX1_apartAt 18 rfl) ?_
      refine r_goto C (tgt := 46) (oDec_at oX1_apartAt 19 rfl) (by decide) ?_
      exact r_iret C (oDec_at oX1_apartAt 23 rfl) ⟨_, rfl, by unfold owAp; first | (rw [if_pos (by omega)] <;> omega) | (rw [if_neg (by omega)] <;> omega)⟩
set_option maxHeartbeats 4000000 in
set_option maxRecDepth 100000 in
theorem ct9_X1_rise (l : Launch) (E : oE) (s : oS) (c0 : Nat) (hk0 : okd c0 = 9) (c1 : Nat) (hk1 : okd c1 = 4) (a2 : Int32) (a3 : Int32)  (hp0 : owLN s) (hp1 : -21 ≤ (s.1 c0 1).toInt ∧ (s.1 c0 1).toInt ≤ 7) (hp2 : owTn s c0 c1 a3.toInt ≠ -1000000000) : oMet l 4 yX1_rise cX1_rise 5 (some .int) [] E s [.ref (oad E c0), .ref (oad E c1), .int a2, .int a3] (oPi (fun r u => (r.toInt = owRi s c0 c1 a2.toInt a3.toInt) ∧ (-28 ≤ r.toInt ∧ r.toInt ≤ 28))) := by
  refine oMet.of (lv := [(0, .ref (oad E c0)), (1, .ref (oad E c1)), (2, .int a2), (3, .int a3)]) (by decide +kernel) (Nat.le_of_ble_eq_true rfl) rfl (fun J C hT => ?_)
  have C : oC l 4 cX1_rise RX1 5 (some .int) [] E s (oPi (fun r u => (r.toInt = owRi s c0 c1 a2.toInt a3.toInt) ∧ (-28 ≤ r.toInt ∧ r.toInt ≤ 28))) J := C
  obtain ⟨km1000000000, qkm1000000000⟩ : ∃ z : Int32, z = (-1000000000) := ⟨_, rfl⟩
  have ekm1000000000 : km1000000000.toInt = (-1000000000) := by rw [qkm1000000000]; rfl
  obtain ⟨k0, qk0⟩ : ∃ z : Int32, z = 0 := ⟨_, rfl⟩
  have ek0 : k0.toInt = 0 := by rw [qk0]; rfl
  have rg2 := n_rng a2
  have rg3 := n_rng a3
  have hrb9 := owRi_b (j := a2.toInt) hp0 hk1 hp1 hp2
  have hta := owTn_b (vc := c0) (k := a2.toInt) hp0 hk1 hp1
  have htb := owTn_b (vc := c0) (k := a3.toInt) hp0 hk1 hp1
  have hri9 : owRi s c0 c1 a2.toInt a3.toInt = if owTn s c0 c1 a2.toInt = -1000000000 then 0 else owTn s c0 c1 a3.toInt - owTn s c0 c1 a2.toInt := rfl
  refine r_aload_n C (j := 0) (oDec_at oX1_rise 0 rfl) rfl rfl ?_
  refine r_aload_n C (j := 1) (oDec_at oX1_rise 1 rfl) rfl rfl ?_
  refine r_iload_n C (j := 2) (oDec_at oX1_rise 2 rfl) rfl rfl ?_
  refine r_callVi C oCl9 hk0 miX9_tone mlX1_107 (ct9_X9_tone l E (s) c0 hk0 c1 hk1 a2 hp0 (by omega)) (by decide) rfl rfl rfl (Nat.le_of_ble_eq_true rfl) (oDec_at oX1_rise 3 rfl) (fun r2 u1 pu1 fu1 => ?_)
  try dsimp only at pu1
  have hxu1 := oFr_nil fu1; subst hxu1
  have rr2 := n_rng r2
  refine r_istore C (lv' := [(0, .ref (oad E c0)), (1, .ref (oad E c1)), (2, .int a2), (3, .int a3), (4, .int r2)]) [1, 2, 3, 4, 0] (oDec_at oX1_rise 4 rfl) (by decide) rfl ?_
  refine r_iload C (j := 4) (oDec_at oX1_rise 5 rfl) rfl ?_
  refine r_pc C 10 rfl ?_
  refine r_ldc C (v := km1000000000) (by rw [qkm1000000000]; exact kcX1_63) (oDec_at oX1_rise 6 rfl) ?_
  refine r_icmp_ne C 19 (oDec_at oX1_rise 7 rfl) (by decide) (fun cd3 => ?_) (fun cd3 => ?_)
  · skip
    refine r_aload_n C (j := 0) (oDec_at oX1_rise 10 rfl) rfl rfl ?_
    refine r_aload_n C (j := 1) (oDec_at oX1_rise 11 rfl) rfl rfl ?_
    refine r_iload_n C (j := 3) (oDec_at oX1_rise 12 rfl) rfl rfl ?_
    refine r_callVi C oCl9 hk0 miX9_tone mlX1_107 (ct9_X9_tone l E (s) c0 hk0 c1 hk1 a3 hp0 (by omega)) (by decide) rfl rfl rfl (Nat.le_of_ble_eq_true rfl) (oDec_at oX1_rise 13 rfl) (fun r5 u4 pu4 fu4 => ?_)
    try dsimp only at pu4
    have hxu4 := oFr_nil fu4; subst hxu4
    have rr5 := n_rng r5
    refine r_iload C (j := 4) (oDec_at oX1_rise 14 rfl) rfl ?_
    obtain ⟨v6, ev6⟩ : ∃ z : Int32, z = r5 - r2 := ⟨_, rfl⟩
    have hv6 : v6.toInt = r5.toInt - r2.toInt := n_sub ev6 (by omega) (by omega)
    refine r_isub C v6 (oDec_at oX1_rise 15 rfl) ev6 ?_
    refine r_pc C 28 rfl ?_
    try (rw [if_neg (by omega)] at hri9)
    exact r_iret C (oDec_at oX1_rise 16 rfl) ⟨_, rfl, ⟨by omega, by omega⟩⟩
  · skip
    rw [if_pos (by omega)] at hri9
    refine r_iconst C (oDec_at oX1_rise 8 rfl) (v := k0) (by rw [qk0]; rfl) ?_
    refine r_goto C (tgt := 28) (oDec_at oX1_rise 9 rfl) (by decide) ?_
    try (rw [if_neg (by omega)] at hri9)
    exact r_iret C (oDec_at oX1_rise 16 rfl) ⟨_, rfl, ⟨by omega, by omega⟩⟩
set_option maxHeartbeats 4000000 in
set_option maxRecDepth 100000 in
theorem ct9_X1_beatOf (l : Launch) (E : oE) (s : oS) (a0 : Int32) (a1 : Int32)  (hp0 : 0 ≤ a0.toInt) (hp1 : 2 ≤ a1.toInt ∧ a1.toInt ≤ 12) : oMet l 1 yX1_beatOf cX1_beatOf 2 (some .int) [] E s [.int a0, .int a1] (oPi (fun r u => (r.toInt = a0.toInt % a1.toInt) ∧ (0 ≤ r.toInt ∧ r.toInt ≤ 11))) := by
  refine oMet.of (lv := [(0, .int a0), (1, .int a1)]) (by decide +kernel) (Nat.le_of_ble_eq_true rfl) rfl (fun J C hT => ?_)
  have C : oC l 1 cX1_beatOf RX1 2 (some .int) [] E s (oPi (fun r u => (r.toInt = a0.toInt % a1.toInt) ∧ (0 ≤ r.toInt ∧ r.toInt ≤ 11))) J := C
  obtain ⟨k0, qk0⟩ : ∃ z : Int32, z = 0 := ⟨_, rfl⟩
  have ek0 : k0.toInt = 0 := by rw [qk0]; rfl
  have rg0 := n_rng a0
  have rg1 := n_rng a1
  refine r_iload_n C (j := 1) (oDec_at oX1_beatOf 0 rfl) rfl rfl ?_
  refine r_if_le C 10 (oDec_at oX1_beatOf 1 rfl) (by decide) (fun cd1 => ?_) (fun cd1 => ?_)
  · skip
    refine r_iconst C (oDec_at oX1_beatOf 6 rfl) (v := k0) (by rw [qk0]; rfl) ?_
    exact r_iret C (oDec_at oX1_beatOf 7 rfl) ⟨_, rfl, ⟨by omega, by omega⟩⟩
  · skip
    refine r_iload_n C (j := 0) (oDec_at oX1_beatOf 2 rfl) rfl rfl ?_
    refine r_iload_n C (j := 1) (oDec_at oX1_beatOf 3 rfl) rfl rfl ?_
    obtain ⟨v2, ev2⟩ : ∃ z : Int32, z = a0 - a0 / a1 * a1 := ⟨_, rfl⟩
    have rv2 := n_rng v2
    have hv2 := n_remE ev2 (by omega) (by omega); have hmv2 := Int.emod_nonneg a0.toInt (b := a1.toInt) (by omega); have hnv2 := Int.emod_lt_of_pos a0.toInt (b := a1.toInt) (by omega)
    refine r_irem C v2 (oDec_at oX1_beatOf 4 rfl) (n_ne0 (by omega)) ev2 ?_
    refine r_goto C (tgt := 11) (oDec_at oX1_beatOf 5 rfl) (by decide) ?_
    exact r_iret C (oDec_at oX1_beatOf 7 rfl) ⟨_, rfl, ⟨by omega, by omega⟩⟩
set_option maxHeartbeats 4000000 in
set_option maxRecDepth 100000 in
theorem ct9_X2_packMoves (l : Launch) (E : oE) (s : oS) (a0 : Int32) (a1 : Int32) (a2 : Int32) (a3 : Int32)  (hp0 : 0 ≤ a0.toInt ∧ a0.toInt ≤ 11) (hp1 : -28 ≤ a1.toInt ∧ a1.toInt ≤ 28) (hp2 : -28 ≤ a2.toInt ∧ a2.toInt ≤ 28) (hp3 : 0 ≤ a3.toInt ∧ a3.toInt ≤ 1) : oMet l 1 yX2_packMoves cX2_packMoves 4 (some .int) [] E s [.int a0, .int a1, .int a2, .int a3] (oPi (fun r u => (r.toInt = ((a0.toInt * 64 + a1.toInt + 32) * 64 + a2.toInt + 32) * 2 + a3.toInt))) := by
  refine oMet.of (lv := [(0, .int a0), (1, .int a1), (2, .int a2), (3, .int a3)]) (by decide +kernel) (Nat.le_of_ble_eq_true rfl) rfl (fun J C hT => ?_)
  have C : oC l 1 cX2_packMoves RX2 4 (some .int) [] E s (oPi (fun r u => (r.toInt = ((a0.toInt * 64 + a1.toInt + 32) * 64 + a2.toInt + 32) * 2 + a3.toInt))) J := C
  obtain ⟨k2, qk2⟩ : ∃ z : Int32, z = 2 := ⟨_, rfl⟩
  have ek2 : k2.toInt = 2 := by rw [qk2]; rfl
  obtain ⟨k32, qk32⟩ : ∃ z : Int32, z = 32 := ⟨_, rfl⟩
  have ek32 : k32.toInt = 32 := by rw [qk32]; rfl
  obtain ⟨k64, qk64⟩ : ∃ z : Int32, z = 64 := ⟨_, rfl⟩
  have ek64 : k64.toInt = 64 := by rw [qk64]; rfl
  have rg0 := n_rng a0
  have rg1 := n_rng a1
  have rg2 := n_rng a2
  have rg3 := n_rng a3
  refine r_iload_n C (j := 0) (oDec_at oX2_packMoves 0 rfl) rfl rfl ?_
  refine r_bipush C (oDec_at oX2_packMoves 1 rfl) (v := k64) (by rw [qk64]; rfl) ?_
  obtain ⟨v1, ev1⟩ : ∃ z : Int32, z = a0 * k64 := ⟨_, rfl⟩
  have hv1 : v1.toInt = a0.toInt * 64 := n_mulK 64 ev1 ek64 (by omega) (by omega)
  refine r_imul C v1 (oDec_at oX2_packMoves 2 rfl) ev1 ?_
  refine r_iload_n C (j := 1) (oDec_at oX2_packMoves 3 rfl) rfl rfl ?_
  obtain ⟨v2, ev2⟩ : ∃ z : Int32, z = v1 + a1 := ⟨_, rfl⟩
  have hv2 : v2.toInt = v1.toInt + a1.toInt := n_add ev2 (by omega) (by omega)
  refine r_iadd C v2 (oDec_at oX2_packMoves 4 rfl) ev2 ?_
  refine r_bipush C (oDec_at oX2_packMoves 5 rfl) (v := k32) (by rw [qk32]; rfl) ?_
  refine r_pc C 8 rfl ?_
  obtain ⟨v3, ev3⟩ : ∃ z : Int32, z = v2 + k32 := ⟨_, rfl⟩
  have hv3 : v3.toInt = v2.toInt + k32.toInt := n_add ev3 (by omega) (by omega)
  refine r_iadd C v3 (oDec_at oX2_packMoves 6 rfl) ev3 ?_
  refine r_bipush C (oDec_at oX2_packMoves 7 rfl) (v := k64) (by rw [qk64]; rfl) ?_
  obtain ⟨v4, ev4⟩ : ∃ z : Int32, z = v3 * k64 := ⟨_, rfl⟩
  have hv4 : v4.toInt = v3.toInt * 64 := n_mulK 64 ev4 ek64 (by omega) (by omega)
  refine r_imul C v4 (oDec_at oX2_packMoves 8 rfl) ev4 ?_
  refine r_iload_n C (j := 2) (oDec_at oX2_packMoves 9 rfl) rfl rfl ?_
  obtain ⟨v5, ev5⟩ : ∃ z : Int32, z = v4 + a2 := ⟨_, rfl⟩
  have hv5 : v5.toInt = v4.toInt + a2.toInt := n_add ev5 (by omega) (by omega)
  refine r_iadd C v5 (oDec_at oX2_packMoves 10 rfl) ev5 ?_
  refine r_bipush C (oDec_at oX2_packMoves 11 rfl) (v := k32) (by rw [qk32]; rfl) ?_
  refine r_pc C 16 rfl ?_
  obtain ⟨v6, ev6⟩ : ∃ z : Int32, z = v5 + k32 := ⟨_, rfl⟩
  have hv6 : v6.toInt = v5.toInt + k32.toInt := n_add ev6 (by omega) (by omega)
  refine r_iadd C v6 (oDec_at oX2_packMoves 12 rfl) ev6 ?_
  refine r_iconst C (oDec_at oX2_packMoves 13 rfl) (v := k2) (by rw [qk2]; rfl) ?_
  obtain ⟨v7, ev7⟩ : ∃ z : Int32, z = v6 * k2 := ⟨_, rfl⟩
  have hv7 : v7.toInt = v6.toInt * 2 := n_mulK 2 ev7 ek2 (by omega) (by omega)
  refine r_imul C v7 (oDec_at oX2_packMoves 14 rfl) ev7 ?_
  refine r_iload_n C (j := 3) (oDec_at oX2_packMoves 15 rfl) rfl rfl ?_
  obtain ⟨v8, ev8⟩ : ∃ z : Int32, z = v7 + a3 := ⟨_, rfl⟩
  have hv8 : v8.toInt = v7.toInt + a3.toInt := n_add ev8 (by omega) (by omega)
  refine r_iadd C v8 (oDec_at oX2_packMoves 16 rfl) ev8 ?_
  exact r_iret C (oDec_at oX2_packMoves 17 rfl) ⟨_, rfl, by omega⟩
set_option maxHeartbeats 4000000 in
set_option maxRecDepth 100000 in
theorem ct9_X1_mark (l : Launch) (E : oE) (s : oS) (a1 : Int32) (a2 : Int32) (a3 : Int32)  (hp0 : owDN s) (hp1 : -114 ≤ a2.toInt ∧ a2.toInt ≤ 114) (hp2 : -1000000000 ≤ a3.toInt ∧ a3.toInt ≤ 114) : oMet l 1 yX1_mark cX1_mark 4 none [(28, 9999), (29, 9999), (30, 9999)] E s [.ref (oad E 35), .int a1, .int a2, .int a3] (oPv (fun u => (owDN u) ∧ ((s.1 35 6).toInt < 48 → owMk s u a1 a2 a3))) := by
  refine oMet.of (lv := [(0, .ref (oad E 35)), (1, .int a1), (2, .int a2), (3, .int a3)]) (by decide +kernel) (Nat.le_of_ble_eq_true rfl) rfl (fun J C hT => ?_)
  have C : oC l 1 cX1_mark RX1 4 none [(28, 9999), (29, 9999), (30, 9999)] E s (oPv (fun u => (owDN u) ∧ ((s.1 35 6).toInt < 48 → owMk s u a1 a2 a3))) J := C
  obtain ⟨k48, qk48⟩ : ∃ z : Int32, z = 48 := ⟨_, rfl⟩
  have ek48 : k48.toInt = 48 := by rw [qk48]; rfl
  have rg1 := n_rng a1
  have rg2 := n_rng a2
  have rg3 := n_rng a3
  refine r_aload_n C (j := 0) (oDec_at oX1_mark 0 rfl) rfl rfl ?_
  obtain ⟨v1, ev1⟩ : ∃ z : Int32, (s).1 35 6 = z := ⟨_, rfl⟩
  have gv1 : (s.1 35 6).toInt = v1.toInt := congrArg Int32.toInt (ev1)
  refine r_geti (k := 6) (lo := 0) (hi := 48) C v1 oCl1 rfl (by decide) flX1_104 rfl rfl (ev1) rfl rfl (oDec_at oX1_mark 1 rfl) (fun b2 b2h => ?_)
  refine r_bipush C (oDec_at oX1_mark 2 rfl) (v := k48) (by rw [qk48]; rfl) ?_
  refine r_icmp_ge C 39 (oDec_at oX1_mark 3 rfl) (by decide) (fun cd3 => ?_) (fun cd3 => ?_)
  · skip
    have hq4 : owDN (s) := by first | exact hp0 | exact owDN_b (by assumption) (by omega)
    exact r_vret C (oDec_at oX1_mark 22 rfl) ⟨rfl, ⟨hq4, by first | (intro h9; exfalso; omega) | exact fun _ => owMk_of (by assumption)⟩⟩
  · skip
    refine r_aload_n C (j := 0) (oDec_at oX1_mark 4 rfl) rfl rfl ?_
    refine r_getF (k := 0) (b := 36) C oCl1 rfl (by decide) flX1_11 rfl rfl rfl (oDec_at oX1_mark 5 rfl) ?_
    refine r_aload_n C (j := 0) (oDec_at oX1_mark 6 rfl) rfl rfl ?_
    refine r_geti (k := 6) (lo := 0) (hi := 48) C v1 oCl1 rfl (by decide) flX1_104 rfl rfl (ev1) rfl rfl (oDec_at oX1_mark 7 rfl) (fun _ _ => ?_)
    refine r_iload_n C (j := 1) (oDec_at oX1_mark 8 rfl) rfl rfl ?_
    refine r_iast (n := 48) (lo := (-2147483648)) (hi := 2147483647) C rfl (by decide) rfl rfl ⟨by omega, by omega⟩ (by decide) rfl rfl rfl rfl (n_rng _) (oDec_at oX1_mark 9 rfl) ?_
    refine r_pc C 19 rfl ?_
    refine r_aload_n C (j := 0) (oDec_at oX1_mark 10 rfl) rfl rfl ?_
    refine r_getF (k := 1) (b := 37) C oCl1 rfl (by decide) flX1_15 rfl rfl rfl (oDec_at oX1_mark 11 rfl) ?_
    refine r_aload_n C (j := 0) (oDec_at oX1_mark 12 rfl) rfl rfl ?_
    refine r_geti (k := 6) (lo := 0) (hi := 48) C v1 oCl1 rfl (by decide) flX1_104 rfl rfl (((pI_ne (a := 35) (b := 6) (c := 36) _ _ (Or.inl (by decide)))).trans (ev1)) rfl rfl (oDec_at oX1_mark 13 rfl) (fun _ _ => ?_)
    refine r_iload_n C (j := 2) (oDec_at oX1_mark 14 rfl) rfl rfl ?_
    refine r_iast (n := 48) (lo := (-2147483648)) (hi := 2147483647) C rfl (by decide) rfl rfl ⟨by omega, by omega⟩ (by decide) rfl rfl rfl rfl (n_rng _) (oDec_at oX1_mark 15 rfl) ?_
    refine r_pc C 29 rfl ?_
    have hq5 : owDN ((pI (pI s 36 v1.toNatClampNeg a1) 37 v1.toNatClampNeg a2)) := owDN_a (owDN_fr (oFr_oneI (q := 28) (m := 9999) rfl (by rfl)) rfl hp0) (by omega)
    refine r_aload_n C (j := 0) (oDec_at oX1_mark 16 rfl) rfl rfl ?_
    refine r_getF (k := 2) (b := 38) C oCl1 rfl (by decide) flX1_18 rfl rfl rfl (oDec_at oX1_mark 17 rfl) ?_
    refine r_aload_n C (j := 0) (oDec_at oX1_mark 18 rfl) rfl rfl ?_
    refine r_geti (k := 6) (lo := 0) (hi := 48) C v1 oCl1 rfl (by decide) flX1_104 rfl rfl (((pI_ne (a := 35) (b := 6) (c := 37) _ _ (Or.inl (by decide)))).trans (((pI_ne (a := 35) (b := 6) (c := 36) _ _ (Or.inl (by decide)))).trans (ev1))) rfl rfl (oDec_at oX1_mark 19 rfl) (fun _ _ => ?_)
    refine r_iload_n C (j := 3) (oDec_at oX1_mark 20 rfl) rfl rfl ?_
    refine r_iast (n := 48) (lo := (-2147483648)) (hi := 2147483647) C rfl (by decide) rfl rfl ⟨by omega, by omega⟩ (by decide) rfl rfl rfl rfl (n_rng _) (oDec_at oX1_mark 21 rfl) ?_
    refine r_pc C 39 rfl ?_
    have hq6 : owDN ((pI (pI (pI s 36 v1.toNatClampNeg a1) 37 v1.toNatClampNeg a2) 38 v1.toNatClampNeg a3)) := by first | exact (by assumption) | exact owDN_b hq5 (by omega)
    exact r_vret C (oDec_at oX1_mark 22 rfl) ⟨rfl, ⟨hq6, by first | (intro h9; exfalso; omega) | exact fun _ => owMk_of ev1⟩⟩
set_option maxHeartbeats 4000000 in
set_option maxRecDepth 100000 in
theorem ct9_X1_moved (l : Launch) (E : oE) (s : oS) (a1 : Int32) (a2 : Int32) (a3 : Int32) (a4 : Int32)  (hp0 : owDN s) (hp1 : 0 ≤ a1.toInt ∧ a1.toInt ≤ 11) (hp2 : -28 ≤ a2.toInt ∧ a2.toInt ≤ 28) (hp3 : -28 ≤ a3.toInt ∧ a3.toInt ≤ 28) (hp4 : 0 ≤ a4.toInt ∧ a4.toInt ≤ 1) : oMet l 2 yX1_moved cX1_moved 5 none [(1, 6), (31, 9999)] E s [.ref (oad E 35), .int a1, .int a2, .int a3, .int a4] (oPv (fun u => (owDN u) ∧ ((s.1 35 6).toInt < 48 → owMv s u a1.toInt a2.toInt a3.toInt a4.toInt))) := by
  refine oMet.of (lv := [(0, .ref (oad E 35)), (1, .int a1), (2, .int a2), (3, .int a3), (4, .int a4)]) (by decide +kernel) (Nat.le_of_ble_eq_true rfl) rfl (fun J C hT => ?_)
  have C : oC l 2 cX1_moved RX1 5 none [(1, 6), (31, 9999)] E s (oPv (fun u => (owDN u) ∧ ((s.1 35 6).toInt < 48 → owMv s u a1.toInt a2.toInt a3.toInt a4.toInt))) J := C
  obtain ⟨k1, qk1⟩ : ∃ z : Int32, z = 1 := ⟨_, rfl⟩
  have ek1 : k1.toInt = 1 := by rw [qk1]; rfl
  obtain ⟨k48, qk48⟩ : ∃ z : Int32, z = 48 := ⟨_, rfl⟩
  have ek48 : k48.toInt = 48 := by rw [qk48]; rfl
  have rg1 := n_rng a1
  have rg2 := n_rng a2
  have rg3 := n_rng a3
  have rg4 := n_rng a4
  refine r_aload_n C (j := 0) (oDec_at oX1_moved 0 rfl) rfl rfl ?_
  obtain ⟨v1, ev1⟩ : ∃ z : Int32, (s).1 35 6 = z := ⟨_, rfl⟩
  have gv1 : (s.1 35 6).toInt = v1.toInt := congrArg Int32.toInt (ev1)
  refine r_geti (k := 6) (lo := 0) (hi := 48) C v1 oCl1 rfl (by decide) flX1_104 rfl rfl (ev1) rfl rfl (oDec_at oX1_moved 1 rfl) (fun b2 b2h => ?_)
  refine r_bipush C (oDec_at oX1_moved 2 rfl) (v := k48) (by rw [qk48]; rfl) ?_
  refine r_icmp_ge C 36 (oDec_at oX1_moved 3 rfl) (by decide) (fun cd3 => ?_) (fun cd3 => ?_)
  · skip
    exact r_vret C (oDec_at oX1_moved 20 rfl) ⟨rfl, ⟨hp0, by first | (intro h9; exfalso; omega) | exact fun _ => owMv_of (by assumption) (by assumption) (by omega)⟩⟩
  · skip
    refine r_aload_n C (j := 0) (oDec_at oX1_moved 4 rfl) rfl rfl ?_
    refine r_getF (k := 3) (b := 39) C oCl1 rfl (by decide) flX1_21 rfl rfl rfl (oDec_at oX1_moved 5 rfl) ?_
    refine r_aload_n C (j := 0) (oDec_at oX1_moved 6 rfl) rfl rfl ?_
    refine r_geti (k := 6) (lo := 0) (hi := 48) C v1 oCl1 rfl (by decide) flX1_104 rfl rfl (ev1) rfl rfl (oDec_at oX1_moved 7 rfl) (fun _ _ => ?_)
    refine r_iload_n C (j := 1) (oDec_at oX1_moved 8 rfl) rfl rfl ?_
    refine r_iload_n C (j := 2) (oDec_at oX1_moved 9 rfl) rfl rfl ?_
    refine r_pc C 19 rfl ?_
    refine r_iload_n C (j := 3) (oDec_at oX1_moved 10 rfl) rfl rfl ?_
    refine r_iload C (j := 4) (oDec_at oX1_moved 11 rfl) rfl ?_
    refine r_callSi C miX2_packMoves mlX1_110 (ct9_X2_packMoves l E (s) a1 a2 a3 a4 (by omega) (by omega) (by omega) (by omega)) (by decide) rfl rfl rfl (Nat.le_of_ble_eq_true rfl) (oDec_at oX1_moved 12 rfl) (fun r5 u4 pu4 fu4 => ?_)
    try dsimp only at pu4
    have hxu4 := oFr_nil fu4; subst hxu4
    have rr5 := n_rng r5
    refine r_iast (n := 48) (lo := (-2147483648)) (hi := 2147483647) C rfl (by decide) rfl rfl ⟨by omega, by omega⟩ (by decide) rfl rfl rfl rfl (n_rng _) (oDec_at oX1_moved 13 rfl) ?_
    have hq6 : owDN ((pI s 39 v1.toNatClampNeg r5)) := owDN_m hp0 (by omega)
    refine r_aload_n C (j := 0) (oDec_at oX1_moved 14 rfl) rfl rfl ?_
    refine r_dup C (oDec_at oX1_moved 15 rfl) rfl ?_
    refine r_pc C 28 rfl ?_
    refine r_geti (k := 6) (lo := 0) (hi := 48) C v1 oCl1 rfl (by decide) flX1_104 rfl rfl (((pI_ne (a := 35) (b := 6) (c := 39) _ _ (Or.inl (by decide)))).trans (ev1)) rfl rfl (oDec_at oX1_moved 16 rfl) (fun _ _ => ?_)
    refine r_iconst C (oDec_at oX1_moved 17 rfl) (v := k1) (by rw [qk1]; rfl) ?_
    obtain ⟨v7, ev7⟩ : ∃ z : Int32, z = v1 + k1 := ⟨_, rfl⟩
    have hv7 : v7.toInt = v1.toInt + k1.toInt := n_add ev7 (by omega) (by omega)
    refine r_iadd C v7 (oDec_at oX1_moved 18 rfl) ev7 ?_
    refine r_puti (k := 6) (lo := 0) (hi := 48) C oCl1 rfl (by decide) flX1_104 rfl rfl rfl rfl rfl rfl rfl rfl ⟨by omega, by omega⟩ (oDec_at oX1_moved 19 rfl) ?_
    exact r_vret C (oDec_at oX1_moved 20 rfl) ⟨rfl, ⟨(owDN_fr (oFr_oneI (q := 1) (m := 6) rfl (by rfl)) rfl hq6), by first | (intro h9; exfalso; omega) | exact fun _ => owMv_of ev1 pu4 (by omega)⟩⟩
