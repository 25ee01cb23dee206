set_option maxHeartbeats 4000000 in
set_option maxRecDepth 100000 in
theorem ct_X4_clear (l : Launch) (E : oE) (s : oS) (c0 : Nat) (hk0 : okd c0 = 4)  : oMet l 1 yX4_clear cX4_clear 1 none [(4, 4), (4, 5), (4, 6), (4, 7)] E s [.ref (oad E c0)] (oPv (fun u => ((u.1 c0 4).toInt = 0) ∧ ((u.1 c0 5).toInt = 0))) := by
  refine oMet.of (lv := [(0, .ref (oad E c0))]) (by decide +kernel) (Nat.le_of_ble_eq_true rfl) rfl (fun J C hT => ?_)
  have C : oC l 1 cX4_clear RX4 1 none [(4, 4), (4, 5), (4, 6), (4, 7)] E s (oPv (fun u => ((u.1 c0 4).toInt = 0) ∧ ((u.1 c0 5).toInt = 0))) J := C
  obtain ⟨km1, qkm1⟩ : ∃ z : Int32, z = (-1) := ⟨_, rfl⟩
  have ekm1 : km1.toInt = (-1) := by rw [qkm1]; rfl
  obtain ⟨k0, qk0⟩ : ∃ z : Int32, z = 0 := ⟨_, rfl⟩
  have ek0 : k0.toInt = 0 := by rw [qk0]; rfl
  refine r_aload_n C (j := 0) (oDec_at oX4_clear 0 rfl) rfl rfl ?_
  refine r_iconst C (oDec_at oX4_clear 1 rfl) (v := k0) (by rw [qk0]; rfl) ?_
  refine r_puti (k := 4) (lo := 0) (hi := 24) C oCl4 hk0 (by decide) flX4_28 rfl rfl rfl rfl rfl rfl rfl rfl ⟨by omega, by omega⟩ (oDec_at oX4_clear 2 rfl) ?_
  refine r_aload_n C (j := 0) (oDec_at oX4_clear 3 rfl) rfl rfl ?_
  refine r_iconst C (oDec_at oX4_clear 4 rfl) (v := k0) (by rw [qk0]; rfl) ?_
  refine r_puti (k := 5) (lo := 0) (hi := 96) C oCl4 hk0 (by decide) flX4_31 rfl rfl rfl rfl rfl rfl rfl rfl ⟨by omega, by omega⟩ (oDec_at oX4_clear 5 rfl) ?_
  refine r_pc C 10 rfl ?_
  refine r_aload_n C (j := 0) (oDec_at oX4_clear 6 rfl) rfl rfl ?_
  refine r_iconst C (oDec_at oX4_clear 7 rfl) (v := km1) (by rw [qkm1]; rfl) ?_
  refine r_puti (k := 6) (lo := (-2147483648)) (hi := 2147483647) C oCl4 hk0 (by decide) flX4_24 rfl rfl rfl rfl rfl rfl rfl rfl (n_rng _) (oDec_at oX4_clear 8 rfl) ?_
  refine r_aload_n C (j := 0) (oDec_at oX4_clear 9 rfl) rfl rfl ?_
  refine r_iconst C (oDec_at oX4_clear 10 rfl) (v := k0) (by rw [qk0]; rfl) ?_
  refine r_puti (k := 7) (lo := 0) (hi := 1) C oCl4 hk0 (by decide) flX4_34 rfl rfl rfl rfl rfl (n_bool (by omega)) (n_fitz (by omega)) rfl ⟨by omega, by omega⟩ (oDec_at oX4_clear 11 rfl) ?_
  refine r_pc C 20 rfl ?_
  have lk1 : (((pI (pI (pI (pI s c0 4 k0) c0 5 k0) c0 6 km1) c0 7 k0)).1 c0 4).toInt = k0.toInt := congrArg Int32.toInt (((pI_ne (a := c0) (b := 4) (c := c0) (k := 7) _ _ (Or.inr (by decide)))).trans (((pI_ne (a := c0) (b := 4) (c := c0) (k := 6) _ _ (Or.inr (by decide)))).trans (((pI_ne (a := c0) (b := 4) (c := c0) (k := 5) _ _ (Or.inr (by decide)))).trans ((pI_self _ _ _ _)))))
  have lk2 : (((pI (pI (pI (pI s c0 4 k0) c0 5 k0) c0 6 km1) c0 7 k0)).1 c0 5).toInt = k0.toInt := congrArg Int32.toInt (((pI_ne (a := c0) (b := 5) (c := c0) (k := 7) _ _ (Or.inr (by decide)))).trans (((pI_ne (a := c0) (b := 5) (c := c0) (k := 6) _ _ (Or.inr (by decide)))).trans ((pI_self _ _ _ _))))
  exact r_vret C (oDec_at oX4_clear 12 rfl) ⟨rfl, ⟨by omega, by omega⟩⟩
set_option maxHeartbeats 4000000 in
set_option maxRecDepth 100000 in
theorem ct_X4_holds (l : Launch) (E : oE) (s : oS) (c0 : Nat) (hk0 : okd c0 = 4) (a1 : Int32)  : oMet l 1 yX4_holds cX4_holds 2 (some .boolean) [] E s [.ref (oad E c0), .int a1] (oPi (fun r u => (0 ≤ r.toInt ∧ r.toInt ≤ 1) ∧ ((r.toInt = 1 ∧ 0 ≤ a1.toInt ∧ a1.toInt < (s.1 c0 4).toInt ∧ a1.toInt < 24) ∨ r.toInt = 0))) := by
  refine oMet.of (lv := [(0, .ref (oad E c0)), (1, .int a1)]) (by decide +kernel) (Nat.le_of_ble_eq_true rfl) rfl (fun J C hT => ?_)
  have C : oC l 1 cX4_holds RX4 2 (some .boolean) [] E s (oPi (fun r u => (0 ≤ r.toInt ∧ r.toInt ≤ 1) ∧ ((r.toInt = 1 ∧ 0 ≤ a1.toInt ∧ a1.toInt < (s.1 c0 4).toInt ∧ a1.toInt < 24) ∨ r.toInt = 0))) J := C
  obtain ⟨k0, qk0⟩ : ∃ z : Int32, z = 0 := ⟨_, rfl⟩
  have ek0 : k0.toInt = 0 := by rw [qk0]; rfl
  obtain ⟨k1, qk1⟩ : ∃ z : Int32, z = 1 := ⟨_, rfl⟩
  have ek1 : k1.toInt = 1 := by rw [qk1]; rfl
  obtain ⟨k24, qk24⟩ : ∃ z : Int32, z = 24 := ⟨_, rfl⟩
  have ek24 : k24.toInt = 24 := by rw [qk24]; rfl
  have rg1 := n_rng a1
  refine r_iload_n C (j := 1) (oDec_at oX4_holds 0 rfl) rfl rfl ?_
  refine r_if_lt C 22 (oDec_at oX4_holds 1 rfl) (by decide) (fun cd1 => ?_) (fun cd1 => ?_)
  · skip
    refine r_iconst C (oDec_at oX4_holds 11 rfl) (v := k0) (by rw [qk0]; rfl) ?_
    exact r_zret C (n_bool (by omega)) (oDec_at oX4_holds 12 rfl) ⟨_, rfl, ⟨by omega, by omega⟩⟩
  · skip
    refine r_iload_n C (j := 1) (oDec_at oX4_holds 2 rfl) rfl rfl ?_
    refine r_aload_n C (j := 0) (oDec_at oX4_holds 3 rfl) rfl rfl ?_
    obtain ⟨v2, ev2⟩ : ∃ z : Int32, (s).1 c0 4 = z := ⟨_, rfl⟩
    have gv2 : (s.1 c0 4).toInt = v2.toInt := congrArg Int32.toInt (ev2)
    refine r_geti (k := 4) (lo := 0) (hi := 24) C v2 oCl4 hk0 (by decide) flX4_28 rfl rfl (ev2) rfl rfl (oDec_at oX4_holds 4 rfl) (fun b3 b3h => ?_)
    refine r_icmp_ge C 22 (oDec_at oX4_holds 5 rfl) (by decide) (fun cd4 => ?_) (fun cd4 => ?_)
    · skip
      refine r_iconst C (oDec_at oX4_holds 11 rfl) (v := k0) (by rw [qk0]; rfl) ?_
      exact r_zret C (n_bool (by omega)) (oDec_at oX4_holds 12 rfl) ⟨_, rfl, ⟨by omega, by omega⟩⟩
    · skip
      refine r_iload_n C (j := 1) (oDec_at oX4_holds 6 rfl) rfl rfl ?_
      refine r_bipush C (oDec_at oX4_holds 7 rfl) (v := k24) (by rw [qk24]; rfl) ?_
      refine r_icmp_ge C 22 (oDec_at oX4_holds 8 rfl) (by decide) (fun cd5 => ?_) (fun cd5 => ?_)
      · skip
        refine r_iconst C (oDec_at oX4_holds 11 rfl) (v := k0) (by rw [qk0]; rfl) ?_
        exact r_zret C (n_bool (by omega)) (oDec_at oX4_holds 12 rfl) ⟨_, rfl, ⟨by omega, by omega⟩⟩
      · skip
        refine r_iconst C (oDec_at oX4_holds 9 rfl) (v := k1) (by rw [qk1]; rfl) ?_
        refine r_goto C (tgt := 23) (oDec_at oX4_holds 10 rfl) (by decide) ?_
        exact r_zret C (n_bool (by omega)) (oDec_at oX4_holds 12 rfl) ⟨_, rfl, ⟨by omega, by omega⟩⟩
set_option maxHeartbeats 4000000 in
set_option maxRecDepth 100000 in
theorem ct_X4_stepOf (l : Launch) (E : oE) (s : oS) (c0 : Nat) (hk0 : okd c0 = 4) (a1 : Int32)  : oMet l 2 yX4_stepOf cX4_stepOf 2 (some .int) [] E s [.ref (oad E c0), .int a1] (oPi (fun r u => True)) := by
  refine oMet.of (lv := [(0, .ref (oad E c0)), (1, .int a1)]) (by decide +kernel) (Nat.le_of_ble_eq_true rfl) rfl (fun J C hT => ?_)
  have C : oC l 2 cX4_stepOf RX4 2 (some .int) [] E s (oPi (fun r u => True)) J := C
  obtain ⟨km1, qkm1⟩ : ∃ z : Int32, z = (-1) := ⟨_, rfl⟩
  have ekm1 : km1.toInt = (-1) := by rw [qkm1]; rfl
  have rg1 := n_rng a1
  refine r_aload_n C (j := 0) (oDec_at oX4_stepOf 0 rfl) rfl rfl ?_
  refine r_iload_n C (j := 1) (oDec_at oX4_stepOf 1 rfl) rfl rfl ?_
  refine r_callVi C oCl4 hk0 miX4_holds mlX4_52 (ct_X4_holds l E (s) c0 hk0 a1 ) (by decide) rfl rfl rfl (Nat.le_of_ble_eq_true rfl) (oDec_at oX4_stepOf 2 rfl) (fun r2 u1 pu1 fu1 => ?_)
  try dsimp only at pu1
  have rr2 := n_rng r2
  refine r_if_eq C 17 (oDec_at oX4_stepOf 3 rfl) (by decide) (fun cd3 => ?_) (fun cd3 => ?_)
  · skip
    refine r_iconst C (oDec_at oX4_stepOf 9 rfl) (v := km1) (by rw [qkm1]; rfl) ?_
    exact r_iret C (oDec_at oX4_stepOf 10 rfl) ⟨_, rfl, trivial⟩
  · skip
    refine r_aload_n C (j := 0) (oDec_at oX4_stepOf 4 rfl) rfl rfl ?_
    refine r_getR (k := 0) (b := 1) C oCl4 hk0 (by decide) flX4_9 rfl rfl rfl (oDec_at oX4_stepOf 5 rfl) ?_
    refine r_iload_n C (j := 1) (oDec_at oX4_stepOf 6 rfl) rfl rfl ?_
    obtain ⟨v4, ev4⟩ : ∃ z : Int32, (u1).1 (c0 + 1) a1.toNatClampNeg = z := ⟨_, rfl⟩
    have rv4 := n_rng v4
    refine r_iald (n := 24) (lo := (-2147483648)) (hi := 2147483647) C v4 (kr4_1 hk0) (by decide) rfl rfl ⟨by omega, by omega⟩ (by decide) ev4 rfl rfl (oDec_at oX4_stepOf 7 rfl) (fun _ _ => ?_)
    refine r_goto C (tgt := 18) (oDec_at oX4_stepOf 8 rfl) (by decide) ?_
    exact r_iret C (oDec_at oX4_stepOf 10 rfl) ⟨_, rfl, trivial⟩
set_option maxHeartbeats 4000000 in
set_option maxRecDepth 100000 in
theorem ct_X4_lengthOf (l : Launch) (E : oE) (s : oS) (c0 : Nat) (hk0 : okd c0 = 4) (a1 : Int32)  : oMet l 2 yX4_lengthOf cX4_lengthOf 2 (some .int) [] E s [.ref (oad E c0), .int a1] (oPi (fun r u => True)) := by
  refine oMet.of (lv := [(0, .ref (oad E c0)), (1, .int a1)]) (by decide +kernel) (Nat.le_of_ble_eq_true rfl) rfl (fun J C hT => ?_)
  have C : oC l 2 cX4_lengthOf RX4 2 (some .int) [] E s (oPi (fun r u => True)) J := C
  obtain ⟨km1, qkm1⟩ : ∃ z : Int32, z = (-1) := ⟨_, rfl⟩
  have ekm1 : km1.toInt = (-1) := by rw [qkm1]; rfl
  have rg1 := n_rng a1
  refine r_aload_n C (j := 0) (oDec_at oX4_lengthOf 0 rfl) rfl rfl ?_
  refine r_iload_n C (j := 1) (oDec_at oX4_lengthOf 1 rfl) rfl rfl ?_
  refine r_callVi C oCl4 hk0 miX4_holds mlX4_52 (ct_X4_holds l E (s) c0 hk0 a1 ) (by decide) rfl rfl rfl (Nat.le_of_ble_eq_true rfl) (oDec_at oX4_lengthOf 2 rfl) (fun r2 u1 pu1 fu1 => ?_)
  try dsimp only at pu1
  have rr2 := n_rng r2
  refine r_if_eq C 17 (oDec_at oX4_lengthOf 3 rfl) (by decide) (fun cd3 => ?_) (fun cd3 => ?_)
  · skip
    refine r_iconst C (oDec_at oX4_lengthOf 9 rfl) (v := km1) (by rw [qkm1]; rfl) ?_
    exact r_iret C (oDec_at oX4_lengthOf 10 rfl) ⟨_, rfl, trivial⟩
  · skip
    refine r_aload_n C (j := 0) (oDec_at oX4_lengthOf 4 rfl) rfl rfl ?_
    refine r_getR (k := 1) (b := 2) C oCl4 hk0 (by decide) flX4_15 rfl rfl rfl (oDec_at oX4_lengthOf 5 rfl) ?_
    refine r_iload_n C (j := 1) (oDec_at oX4_lengthOf 6 rfl) rfl rfl ?_
    obtain ⟨v4, ev4⟩ : ∃ z : Int32, (u1).1 (c0 + 2) a1.toNatClampNeg = z := ⟨_, rfl⟩
    have rv4 := n_rng v4
    refine r_iald (n := 24) (lo := (-2147483648)) (hi := 2147483647) C v4 (kr4_2 hk0) (by decide) rfl rfl ⟨by omega, by omega⟩ (by decide) ev4 rfl rfl (oDec_at oX4_lengthOf 7 rfl) (fun _ _ => ?_)
    refine r_goto C (tgt := 18) (oDec_at oX4_lengthOf 8 rfl) (by decide) ?_
    exact r_iret C (oDec_at oX4_lengthOf 10 rfl) ⟨_, rfl, trivial⟩
set_option maxHeartbeats 4000000 in
set_option maxRecDepth 100000 in
theorem ct_X4_startOf (l : Launch) (E : oE) (s : oS) (c0 : Nat) (hk0 : okd c0 = 4) (a1 : Int32)  : oMet l 2 yX4_startOf cX4_startOf 2 (some .int) [] E s [.ref (oad E c0), .int a1] (oPi (fun r u => True)) := by
  refine oMet.of (lv := [(0, .ref (oad E c0)), (1, .int a1)]) (by decide +kernel) (Nat.le_of_ble_eq_true rfl) rfl (fun J C hT => ?_)
  have C : oC l 2 cX4_startOf RX4 2 (some .int) [] E s (oPi (fun r u => True)) J := C
  obtain ⟨km1, qkm1⟩ : ∃ z : Int32, z = (-1) := ⟨_, rfl⟩
  have ekm1 : km1.toInt = (-1) := by rw [qkm1]; rfl
  have rg1 := n_rng a1
  refine r_aload_n C (j := 0) (oDec_at oX4_startOf 0 rfl) rfl rfl ?_
  refine r_iload_n C (j := 1) (oDec_at oX4_startOf 1 rfl) rfl rfl ?_
  refine r_callVi C oCl4 hk0 miX4_holds mlX4_52 (ct_X4_holds l E (s) c0 hk0 a1 ) (by decide) rfl rfl rfl (Nat.le_of_ble_eq_true rfl) (oDec_at oX4_startOf 2 rfl) (fun r2 u1 pu1 fu1 => ?_)
  try dsimp only at pu1
  have rr2 := n_rng r2
  refine r_if_eq C 17 (oDec_at oX4_startOf 3 rfl) (by decide) (fun cd3 => ?_) (fun cd3 => ?_)
  · skip
    refine r_iconst C (oDec_at oX4_startOf 9 rfl) (v := km1) (by rw [qkm1]; rfl) ?_
    exact r_iret C (oDec_at oX4_startOf 10 rfl) ⟨_, rfl, trivial⟩
  · skip
    refine r_aload_n C (j := 0) (oDec_at oX4_startOf 4 rfl) rfl rfl ?_
    refine r_getR (k := 2) (b := 3) C oCl4 hk0 (by decide) flX4_18 rfl rfl rfl (oDec_at oX4_startOf 5 rfl) ?_
    refine r_iload_n C (j := 1) (oDec_at oX4_startOf 6 rfl) rfl rfl ?_
    obtain ⟨v4, ev4⟩ : ∃ z : Int32, (u1).1 (c0 + 3) a1.toNatClampNeg = z := ⟨_, rfl⟩
    have rv4 := n_rng v4
    refine r_iald (n := 24) (lo := (-2147483648)) (hi := 2147483647) C v4 (kr4_3 hk0) (by decide) rfl rfl ⟨by omega, by omega⟩ (by decide) ev4 rfl rfl (oDec_at oX4_startOf 7 rfl) (fun _ _ => ?_)
    refine r_goto C (tgt := 18) (oDec_at oX4_startOf 8 rfl) (by decide) ?_
    exact r_iret C (oDec_at oX4_startOf 10 rfl) ⟨_, rfl, trivial⟩
set_option maxHeartbeats 4000000 in
set_option maxRecDepth 100000 in
theorem ct_X4_ownerOf (l : Launch) (E : oE) (s : oS) (c0 : Nat) (hk0 : okd c0 = 4) (a1 : Int32)  : oMet l 1 yX4_ownerOf cX4_ownerOf 2 (some .int) [] E s [.ref (oad E c0), .int a1] (oPi (fun r u => True)) := by
  refine oMet.of (lv := [(0, .ref (oad E c0)), (1, .int a1)]) (by decide +kernel) (Nat.le_of_ble_eq_true rfl) rfl (fun J C hT => ?_)
  have C : oC l 1 cX4_ownerOf RX4 2 (some .int) [] E s (oPi (fun r u => True)) J := C
  obtain ⟨km1, qkm1⟩ : ∃ z : Int32, z = (-1) := ⟨_, rfl⟩
  have ekm1 : km1.toInt = (-1) := by rw [qkm1]; rfl
  obtain ⟨k96, qk96⟩ : ∃ z : Int32, z = 96 := ⟨_, rfl⟩
  have ek96 : k96.toInt = 96 := by rw [qk96]; rfl
  have rg1 := n_rng a1
  refine r_iload_n C (j := 1) (oDec_at oX4_ownerOf 0 rfl) rfl rfl ?_
  refine r_if_lt C 27 (oDec_at oX4_ownerOf 1 rfl) (by decide) (fun cd1 => ?_) (fun cd1 => ?_)
  · skip
    refine r_iconst C (oDec_at oX4_ownerOf 14 rfl) (v := km1) (by rw [qkm1]; rfl) ?_
    exact r_iret C (oDec_at oX4_ownerOf 15 rfl) ⟨_, rfl, trivial⟩
  · skip
    refine r_iload_n C (j := 1) (oDec_at oX4_ownerOf 2 rfl) rfl rfl ?_
    refine r_aload_n C (j := 0) (oDec_at oX4_ownerOf 3 rfl) rfl rfl ?_
    obtain ⟨v2, ev2⟩ : ∃ z : Int32, (s).1 c0 5 = z := ⟨_, rfl⟩
    have gv2 : (s.1 c0 5).toInt = v2.toInt := congrArg Int32.toInt (ev2)
    refine r_geti (k := 5) (lo := 0) (hi := 96) C v2 oCl4 hk0 (by decide) flX4_31 rfl rfl (ev2) rfl rfl (oDec_at oX4_ownerOf 4 rfl) (fun b3 b3h => ?_)
    refine r_icmp_ge C 27 (oDec_at oX4_ownerOf 5 rfl) (by decide) (fun cd4 => ?_) (fun cd4 => ?_)
    · skip
      refine r_iconst C (oDec_at oX4_ownerOf 14 rfl) (v := km1) (by rw [qkm1]; rfl) ?_
      exact r_iret C (oDec_at oX4_ownerOf 15 rfl) ⟨_, rfl, trivial⟩
    · skip
      refine r_iload_n C (j := 1) (oDec_at oX4_ownerOf 6 rfl) rfl rfl ?_
      refine r_bipush C (oDec_at oX4_ownerOf 7 rfl) (v := k96) (by rw [qk96]; rfl) ?_
      refine r_icmp_ge C 27 (oDec_at oX4_ownerOf 8 rfl) (by decide) (fun cd5 => ?_) (fun cd5 => ?_)
      · skip
        refine r_iconst C (oDec_at oX4_ownerOf 14 rfl) (v := km1) (by rw [qkm1]; rfl) ?_
        exact r_iret C (oDec_at oX4_ownerOf 15 rfl) ⟨_, rfl, trivial⟩
      · skip
        refine r_aload_n C (j := 0) (oDec_at oX4_ownerOf 9 rfl) rfl rfl ?_
        refine r_getR (k := 3) (b := 4) C oCl4 hk0 (by decide) flX4_21 rfl rfl rfl (oDec_at oX4_ownerOf 10 rfl) ?_
        refine r_iload_n C (j := 1) (oDec_at oX4_ownerOf 11 rfl) rfl rfl ?_
        obtain ⟨v6, ev6⟩ : ∃ z : Int32, (s).1 (c0 + 4) a1.toNatClampNeg = z := ⟨_, rfl⟩
        have rv6 := n_rng v6
        refine r_iald (n := 96) (lo := (-2147483648)) (hi := 2147483647) C v6 (kr4_4 hk0) (by decide) rfl rfl ⟨by omega, by omega⟩ (by decide) ev6 rfl rfl (oDec_at oX4_ownerOf 12 rfl) (fun _ _ => ?_)
        refine r_goto C (tgt := 28) (oDec_at oX4_ownerOf 13 rfl) (by decide) ?_
        exact r_iret C (oDec_at oX4_ownerOf 15 rfl) ⟨_, rfl, trivial⟩
set_option maxHeartbeats 4000000 in
set_option maxRecDepth 100000 in
theorem ct_X4_rests (l : Launch) (E : oE) (s : oS) (c0 : Nat) (hk0 : okd c0 = 4)  : oMet l 3 yX4_rests cX4_rests 3 (some .int) [] E s [.ref (oad E c0)] (oPi (fun r u => True)) := by
  refine oMet.of (lv := [(0, .ref (oad E c0))]) (by decide +kernel) (Nat.le_of_ble_eq_true rfl) rfl (fun J C hT => ?_)
  have C : oC l 3 cX4_rests RX4 3 (some .int) [] E s (oPi (fun r u => True)) J := C
  obtain ⟨km1, qkm1⟩ : ∃ z : Int32, z = (-1) := ⟨_, rfl⟩
  have ekm1 : km1.toInt = (-1) := by rw [qkm1]; rfl
  obtain ⟨k0, qk0⟩ : ∃ z : Int32, z = 0 := ⟨_, rfl⟩
  have ek0 : k0.toInt = 0 := by rw [qk0]; rfl
  obtain ⟨k1, qk1⟩ : ∃ z : Int32, z = 1 := ⟨_, rfl⟩
  have ek1 : k1.toInt = 1 := by rw [qk1]; rfl
  have key : ∀ n : Nat, (∀ (t : oS) (x1 : Int32) (x2 : Int32), (0 ≤ x1.toInt ∧ x1.toInt ≤ x2.toInt) → (0 ≤ x2.toInt ∧ x2.toInt ≤ 24) → 25 - x2.toInt ≤ (n : Int) → J t 4 [(0, .ref (oad E c0)), (1, .int x1), (2, .int x2)] []) := by
    intro n
    induction n using Nat.strongRecOn with
    | _ n ih =>
      skip
      · intro t x1 x2  iv0 iv1 hmu
        have rx1 := n_rng x1
        have rx2 := n_rng x2
        refine r_iload_n C (j := 2) (oDec_at oX4_rests 4 rfl) rfl rfl ?_
        refine r_aload_n C (j := 0) (oDec_at oX4_rests 5 rfl) rfl rfl ?_
        obtain ⟨v1, ev1⟩ : ∃ z : Int32, (t).1 c0 4 = z := ⟨_, rfl⟩
        have gv1 : (t.1 c0 4).toInt = v1.toInt := congrArg Int32.toInt (ev1)
        refine r_geti (k := 4) (lo := 0) (hi := 24) C v1 oCl4 hk0 (by decide) flX4_28 rfl rfl (ev1) rfl rfl (oDec_at oX4_rests 6 rfl) (fun b2 b2h => ?_)
        refine r_icmp_ge C 35 (oDec_at oX4_rests 7 rfl) (by decide) (fun cd3 => ?_) (fun cd3 => ?_)
        · skip
          refine r_iload_n C (j := 1) (oDec_at oX4_rests 21 rfl) rfl rfl ?_
          exact r_iret C (oDec_at oX4_rests 22 rfl) ⟨_, rfl, trivial⟩
        · skip
          refine r_iload_n C (j := 1) (oDec_at oX4_rests 8 rfl) rfl rfl ?_
          refine r_aload_n C (j := 0) (oDec_at oX4_rests 9 rfl) rfl rfl ?_
          refine r_iload_n C (j := 2) (oDec_at oX4_rests 10 rfl) rfl rfl ?_
          refine r_callVi C oCl4 hk0 miX4_stepOf mlX4_41 (ct_X4_stepOf l E (t) c0 hk0 x2 ) (by decide) rfl rfl rfl (Nat.le_of_ble_eq_true rfl) (oDec_at oX4_rests 11 rfl) (fun r5 u4 pu4 fu4 => ?_)
          try dsimp only at pu4
          have rr5 := n_rng r5
          refine r_iconst C (oDec_at oX4_rests 12 rfl) (v := km1) (by rw [qkm1]; rfl) ?_
          refine r_icmp_ne C 26 (oDec_at oX4_rests 13 rfl) (by decide) (fun cd6 => ?_) (fun cd6 => ?_)
          · skip
            refine r_iconst C (oDec_at oX4_rests 16 rfl) (v := k0) (by rw [qk0]; rfl) ?_
            obtain ⟨v7, ev7⟩ : ∃ z : Int32, z = x1 + k0 := ⟨_, rfl⟩
            have hv7 : v7.toInt = x1.toInt + k0.toInt := n_add ev7 (by omega) (by omega)
            refine r_iadd C v7 (oDec_at oX4_rests 17 rfl) ev7 ?_
            refine r_istore_n C (lv' := [(0, .ref (oad E c0)), (1, .int v7), (2, .int x2)]) [1, 0, 2] (oDec_at oX4_rests 18 rfl) rfl (by decide) rfl ?_
            obtain ⟨v8, ev8⟩ : ∃ z : Int32, x2 + Int32.ofInt 1 = z := ⟨_, rfl⟩
            have hv8 : v8.toInt = x2.toInt + 1 := n_inc ev8 (by decide) (by omega) (by omega)
            refine r_iinc C (j := 2) (lv' := [(0, .ref (oad E c0)), (1, .int v7), (2, .int v8)]) v8 [1, 2, 0] (oDec_at oX4_rests 19 rfl) rfl ev8 (by decide) rfl ?_
            refine r_goto C (tgt := 4) (oDec_at oX4_rests 20 rfl) (by decide) ?_
            exact (ih (n - 1) (by omega)) (u4) v7 v8  (by omega) (by omega) (by omega)
          · skip
            refine r_iconst C (oDec_at oX4_rests 14 rfl) (v := k1) (by rw [qk1]; rfl) ?_
            refine r_goto C (tgt := 27) (oDec_at oX4_rests 15 rfl) (by decide) ?_
            obtain ⟨v9, ev9⟩ : ∃ z : Int32, z = x1 + k1 := ⟨_, rfl⟩
            have hv9 : v9.toInt = x1.toInt + k1.toInt := n_add ev9 (by omega) (by omega)
            refine r_iadd C v9 (oDec_at oX4_rests 17 rfl) ev9 ?_
            refine r_istore_n C (lv' := [(0, .ref (oad E c0)), (1, .int v9), (2, .int x2)]) [1, 0, 2] (oDec_at oX4_rests 18 rfl) rfl (by decide) rfl ?_
            obtain ⟨v10, ev10⟩ : ∃ z : Int32, x2 + Int32.ofInt 1 = z := ⟨_, rfl⟩
            have hv10 : v10.toInt = x2.toInt + 1 := n_inc ev10 (by decide) (by omega) (by omega)
            refine r_iinc C (j := 2) (lv' := [(0, .ref (oad E c0)), (1, .int v9), (2, .int v10)]) v10 [1, 2, 0] (oDec_at oX4_rests 19 rfl) rfl ev10 (by decide) rfl ?_
            refine r_goto C (tgt := 4) (oDec_at oX4_rests 20 rfl) (by decide) ?_
            exact (ih (n - 1) (by omega)) (u4) v9 v10  (by omega) (by omega) (by omega)
  refine r_iconst C (oDec_at oX4_rests 0 rfl) (v := k0) (by rw [qk0]; rfl) ?_
  refine r_istore_n C (lv' := [(0, .ref (oad E c0)), (1, .int k0)]) [1, 0] (oDec_at oX4_rests 1 rfl) rfl (by decide) rfl ?_
  refine r_iconst C (oDec_at oX4_rests 2 rfl) (v := k0) (by rw [qk0]; rfl) ?_
  refine r_istore_n C (lv' := [(0, .ref (oad E c0)), (1, .int k0), (2, .int k0)]) [1, 2, 0] (oDec_at oX4_rests 3 rfl) rfl (by decide) rfl ?_
  exact (key (25 - k0.toInt).toNat) (s) k0 k0  (by omega) (by omega) (by omega)
set_option maxHeartbeats 4000000 in
set_option maxRecDepth 100000 in
theorem ct_X4_setStep (l : Launch) (E : oE) (s : oS) (c0 : Nat) (hk0 : okd c0 = 4) (a1 : Int32) (a2 : Int32)  : oMet l 3 yX4_setStep cX4_setStep 4 none [(4, 6), (16, 9999)] E s [.ref (oad E c0), .int a1, .int a2] (oPv (fun u => True)) := by
  refine oMet.of (lv := [(0, .ref (oad E c0)), (1, .int a1), (2, .int a2)]) (by decide +kernel) (Nat.le_of_ble_eq_true rfl) rfl (fun J C hT => ?_)
  have C : oC l 3 cX4_setStep RX4 4 none [(4, 6), (16, 9999)] E s (oPv (fun u => True)) J := C
  obtain ⟨km1, qkm1⟩ : ∃ z : Int32, z = (-1) := ⟨_, rfl⟩
  have ekm1 : km1.toInt = (-1) := by rw [qkm1]; rfl
  obtain ⟨k0, qk0⟩ : ∃ z : Int32, z = 0 := ⟨_, rfl⟩
  have ek0 : k0.toInt = 0 := by rw [qk0]; rfl
  have rg1 := n_rng a1
  have rg2 := n_rng a2
  have key : ∀ n : Nat, (∀ (t : oS) (x3 : Int32), (0 ≤ x3.toInt ∧ x3.toInt ≤ 24) → 25 - x3.toInt ≤ (n : Int) → J t 23 [(0, .ref (oad E c0)), (3, .int x3)] []) := by
    intro n
    induction n using Nat.strongRecOn with
    | _ n ih =>
      skip
      · intro t x3  iv0 hmu
        have rx3 := n_rng x3
        refine r_iload_n C (j := 1) (oDec_at oX4_setStep 15 rfl) rfl rfl ?_
        refine r_aload_n C (j := 0) (oDec_at oX4_setStep 16 rfl) rfl rfl ?_
        obtain ⟨v1, ev1⟩ : ∃ z : Int32, (t).1 c0 4 = z := ⟨_, rfl⟩
        have gv1 : (t.1 c0 4).toInt = v1.toInt := congrArg Int32.toInt (ev1)
        refine r_geti (k := 4) (lo := 0) (hi := 24) C v1 oCl4 hk0 (by decide) flX4_28 rfl rfl (ev1) rfl rfl (oDec_at oX4_setStep 17 rfl) (fun b2 b2h => ?_)
        refine r_icmp_ge C 54 (oDec_at oX4_setStep 18 rfl) (by decide) (fun cd3 => ?_) (fun cd3 => ?_)
        · skip
          exact r_vret C (oDec_at oX4_setStep 30 rfl) ⟨rfl, trivial⟩
        · skip
          refine r_aload_n C (j := 0) (oDec_at oX4_setStep 19 rfl) rfl rfl ?_
          obtain ⟨v4, ev4⟩ : ∃ z : Int32, (t).1 c0 6 = z := ⟨_, rfl⟩
          have gv4 : (t.1 c0 6).toInt = v4.toInt := congrArg Int32.toInt (ev4)
          have rv4 := n_rng v4
          refine r_geti (k := 6) (lo := (-2147483648)) (hi := 2147483647) C v4 oCl4 hk0 (by decide) flX4_24 rfl rfl (ev4) rfl rfl (oDec_at oX4_setStep 20 rfl) (fun _ _ => ?_)
          refine r_iconst C (oDec_at oX4_setStep 21 rfl) (v := km1) (by rw [qkm1]; rfl) ?_
          refine r_icmp_ne C 54 (oDec_at oX4_setStep 22 rfl) (by decide) (fun cd5 => ?_) (fun cd5 => ?_)
          · skip
            exact r_vret C (oDec_at oX4_setStep 30 rfl) ⟨rfl, trivial⟩
          · skip
            refine r_aload_n C (j := 0) (oDec_at oX4_setStep 23 rfl) rfl rfl ?_
            refine r_aload_n C (j := 0) (oDec_at oX4_setStep 24 rfl) rfl rfl ?_
            refine r_iload_n C (j := 1) (oDec_at oX4_setStep 25 rfl) rfl rfl ?_
            refine r_callVi C oCl4 hk0 miX4_stepOf mlX4_41 (ct_X4_stepOf l E (t) c0 hk0 x3 ) (by decide) rfl rfl rfl (Nat.le_of_ble_eq_true rfl) (oDec_at oX4_setStep 26 rfl) (fun r7 u6 pu6 fu6 => ?_)
            try dsimp only at pu6
            have rr7 := n_rng r7
            refine r_puti (k := 6) (lo := (-2147483648)) (hi := 2147483647) C oCl4 hk0 (by decide) flX4_24 rfl rfl rfl rfl rfl rfl rfl rfl (n_rng _) (oDec_at oX4_setStep 27 rfl) ?_
            obtain ⟨v8, ev8⟩ : ∃ z : Int32, x3 + Int32.ofInt 1 = z := ⟨_, rfl⟩
            have hv8 : v8.toInt = x3.toInt + 1 := n_inc ev8 (by decide) (by omega) (by omega)
            refine r_iinc C (j := 1) (lv' := [(0, .ref (oad E c0)), (3, .int v8)]) v8 [1, 0] (oDec_at oX4_setStep 28 rfl) rfl ev8 (by decide) rfl ?_
            refine r_pc C 51 rfl ?_
            refine r_goto C (tgt := 23) (oDec_at oX4_setStep 29 rfl) (by decide) ?_
            exact (ih (n - 1) (by omega)) ((pI u6 c0 6 r7)) v8  (by omega) (by omega)
  refine r_aload_n C (j := 0) (oDec_at oX4_setStep 0 rfl) rfl rfl ?_
  refine r_iload_n C (j := 1) (oDec_at oX4_setStep 1 rfl) rfl rfl ?_
  refine r_callVi C oCl4 hk0 miX4_holds mlX4_52 (ct_X4_holds l E (s) c0 hk0 a1 ) (by decide) rfl rfl rfl (Nat.le_of_ble_eq_true rfl) (oDec_at oX4_setStep 2 rfl) (fun r10 u9 pu9 fu9 => ?_)
  try dsimp only at pu9
  have rr10 := n_rng r10
  refine r_if_ne C 9 (oDec_at oX4_setStep 3 rfl) (by decide) (fun cd11 => ?_) (fun cd11 => ?_)
  · skip
    refine r_aload_n C (j := 0) (oDec_at oX4_setStep 5 rfl) rfl rfl ?_
    refine r_getR (k := 0) (b := 1) C oCl4 hk0 (by decide) flX4_9 rfl rfl rfl (oDec_at oX4_setStep 6 rfl) ?_
    refine r_iload_n C (j := 1) (oDec_at oX4_setStep 7 rfl) rfl rfl ?_
    refine r_iload_n C (j := 2) (oDec_at oX4_setStep 8 rfl) rfl rfl ?_
    refine r_iast (n := 24) (lo := (-2147483648)) (hi := 2147483647) C (kr4_1 hk0) (by decide) rfl rfl ⟨by omega, by omega⟩ (by decide) rfl rfl rfl rfl (n_rng _) (oDec_at oX4_setStep 9 rfl) ?_
    refine r_aload_n C (j := 0) (oDec_at oX4_setStep 10 rfl) rfl rfl ?_
    refine r_pc C 17 rfl ?_
    refine r_iconst C (oDec_at oX4_setStep 11 rfl) (v := km1) (by rw [qkm1]; rfl) ?_
    refine r_puti (k := 6) (lo := (-2147483648)) (hi := 2147483647) C oCl4 hk0 (by decide) flX4_24 rfl rfl rfl rfl rfl rfl rfl rfl (n_rng _) (oDec_at oX4_setStep 12 rfl) ?_
    refine r_iconst C (oDec_at oX4_setStep 13 rfl) (v := k0) (by rw [qk0]; rfl) ?_
    refine r_istore_n C (lv' := [(0, .ref (oad E c0)), (1, .int a1), (2, .int a2), (3, .int k0)]) [1, 2, 3, 0] (oDec_at oX4_setStep 14 rfl) rfl (by decide) rfl ?_
    refine r_pick C [0, 3] rfl ?_
    exact (key (25 - k0.toInt).toNat) ((pI (pI u9 (c0 + 1) a1.toNatClampNeg a2) c0 6 km1)) k0  (by omega) (by omega)
  · skip
    exact r_vret C (oDec_at oX4_setStep 4 rfl) ⟨rfl, trivial⟩
set_option maxHeartbeats 4000000 in
set_option maxRecDepth 100000 in
theorem ct_X4_add (l : Launch) (E : oE) (s : oS) (c0 : Nat) (hk0 : okd c0 = 4) (a1 : Int32) (a2 : Int32)  : oMet l 1 yX4_add cX4_add 4 (some .boolean) [(4, 4), (4, 5), (4, 6), (4, 7), (16, 9999), (17, 9999), (18, 9999), (19, 9999)] E s [.ref (oad E c0), .int a1, .int a2] (oPi (fun r u => (0 ≤ r.toInt ∧ r.toInt ≤ 1) ∧ ((r.toInt = 1 ∧ (u.1 c0 4).toInt = (s.1 c0 4).toInt + 1 ∧ (u.1 c0 5).toInt = (s.1 c0 5).toInt + a2.toInt) ∨ (r.toInt = 0 ∧ (u.1 c0 4).toInt = (s.1 c0 4).toInt ∧ (u.1 c0 5).toInt = (s.1 c0 5).toInt)))) := by
  refine oMet.of (lv := [(0, .ref (oad E c0)), (1, .int a1), (2, .int a2)]) (by decide +kernel) (Nat.le_of_ble_eq_true rfl) rfl (fun J C hT => ?_)
  have C : oC l 1 cX4_add RX4 4 (some .boolean) [(4, 4), (4, 5), (4, 6), (4, 7), (16, 9999), (17, 9999), (18, 9999), (19, 9999)] E s (oPi (fun r u => (0 ≤ r.toInt ∧ r.toInt ≤ 1) ∧ ((r.toInt = 1 ∧ (u.1 c0 4).toInt = (s.1 c0 4).toInt + 1 ∧ (u.1 c0 5).toInt = (s.1 c0 5).toInt + a2.toInt) ∨ (r.toInt = 0 ∧ (u.1 c0 4).toInt = (s.1 c0 4).toInt ∧ (u.1 c0 5).toInt = (s.1 c0 5).toInt)))) J := C
  obtain ⟨km1, qkm1⟩ : ∃ z : Int32, z = (-1) := ⟨_, rfl⟩
  have ekm1 : km1.toInt = (-1) := by rw [qkm1]; rfl
  obtain ⟨k0, qk0⟩ : ∃ z : Int32, z = 0 := ⟨_, rfl⟩
  have ek0 : k0.toInt = 0 := by rw [qk0]; rfl
  obtain ⟨k1, qk1⟩ : ∃ z : Int32, z = 1 := ⟨_, rfl⟩
  have ek1 : k1.toInt = 1 := by rw [qk1]; rfl
  obtain ⟨k2, qk2⟩ : ∃ z : Int32, z = 2 := ⟨_, rfl⟩
  have ek2 : k2.toInt = 2 := by rw [qk2]; rfl
  obtain ⟨k16, qk16⟩ : ∃ z : Int32, z = 16 := ⟨_, rfl⟩
  have ek16 : k16.toInt = 16 := by rw [qk16]; rfl
  obtain ⟨k24, qk24⟩ : ∃ z : Int32, z = 24 := ⟨_, rfl⟩
  have ek24 : k24.toInt = 24 := by rw [qk24]; rfl
  obtain ⟨k28, qk28⟩ : ∃ z : Int32, z = 28 := ⟨_, rfl⟩
  have ek28 : k28.toInt = 28 := by rw [qk28]; rfl
  obtain ⟨k96, qk96⟩ : ∃ z : Int32, z = 96 := ⟨_, rfl⟩
  have ek96 : k96.toInt = 96 := by rw [qk96]; rfl
  have rg1 := n_rng a1
  have rg2 := n_rng a2
  have key : ∀ n : Nat, (∀ (t : oS) (x3 : Int32), (1 ≤ a2.toInt ∧ a2.toInt ≤ 16) → ((t.1 c0 4).toInt = (s.1 c0 4).toInt) → ((t.1 c0 5).toInt = (s.1 c0 5).toInt) → ((s.1 c0 4).toInt ≤ 23) → ((s.1 c0 5).toInt + a2.toInt ≤ 96) → ((s.1 c0 5).toInt ≤ x3.toInt ∧ x3.toInt ≤ (s.1 c0 5).toInt + a2.toInt) → (0 ≤ (s.1 c0 5).toInt) → (s.1 c0 5).toInt + a2.toInt - x3.toInt + 1 ≤ (n : Int) → J t 84 [(0, .ref (oad E c0)), (1, .int a1), (2, .int a2), (3, .int x3)] []) := by
    intro n
    induction n using Nat.strongRecOn with
    | _ n ih =>
      skip
      · intro t x3  iv0 iv1 iv2 iv3 iv4 iv5 iv6 hmu
        have rx3 := n_rng x3
        refine r_iload_n C (j := 3) (oDec_at oX4_add 48 rfl) rfl rfl ?_
        refine r_aload_n C (j := 0) (oDec_at oX4_add 49 rfl) rfl rfl ?_
        obtain ⟨v1, ev1⟩ : ∃ z : Int32, (t).1 c0 5 = z := ⟨_, rfl⟩
        have gv1 : (t.1 c0 5).toInt = v1.toInt := congrArg Int32.toInt (ev1)
        refine r_geti (k := 5) (lo := 0) (hi := 96) C v1 oCl4 hk0 (by decide) flX4_31 rfl rfl (ev1) rfl rfl (oDec_at oX4_add 50 rfl) (fun b2 b2h => ?_)
        refine r_iload_n C (j := 2) (oDec_at oX4_add 51 rfl) rfl rfl ?_
        obtain ⟨v3, ev3⟩ : ∃ z : Int32, z = v1 + a2 := ⟨_, rfl⟩
        have hv3 : v3.toInt = v1.toInt + a2.toInt := n_add ev3 (by omega) (by omega)
        refine r_iadd C v3 (oDec_at oX4_add 52 rfl) ev3 ?_
        refine r_icmp_ge C 110 (oDec_at oX4_add 53 rfl) (by decide) (fun cd4 => ?_) (fun cd4 => ?_)
        · skip
          refine r_aload_n C (j := 0) (oDec_at oX4_add 62 rfl) rfl rfl ?_
          obtain ⟨v5, ev5⟩ : ∃ z : Int32, (t).1 c0 6 = z := ⟨_, rfl⟩
          have gv5 : (t.1 c0 6).toInt = v5.toInt := congrArg Int32.toInt (ev5)
          have rv5 := n_rng v5
          refine r_geti (k := 6) (lo := (-2147483648)) (hi := 2147483647) C v5 oCl4 hk0 (by decide) flX4_24 rfl rfl (ev5) rfl rfl (oDec_at oX4_add 63 rfl) (fun _ _ => ?_)
          refine r_iconst C (oDec_at oX4_add 64 rfl) (v := km1) (by rw [qkm1]; rfl) ?_
          refine r_icmp_ne C 123 (oDec_at oX4_add 65 rfl) (by decide) (fun cd6 => ?_) (fun cd6 => ?_)
          · skip
            refine r_aload_n C (j := 0) (oDec_at oX4_add 69 rfl) rfl rfl ?_
            refine r_aload_n C (j := 0) (oDec_at oX4_add 70 rfl) rfl rfl ?_
            obtain ⟨v7, ev7⟩ : ∃ z : Int32, (t).1 c0 7 = z := ⟨_, rfl⟩
            have gv7 : (t.1 c0 7).toInt = v7.toInt := congrArg Int32.toInt (ev7)
            refine r_geti (k := 7) (lo := 0) (hi := 1) C v7 oCl4 hk0 (by decide) flX4_34 rfl rfl (ev7) rfl rfl (oDec_at oX4_add 71 rfl) (fun b8 b8h => ?_)
            refine r_if_ne C 138 (oDec_at oX4_add 72 rfl) (by decide) (fun cd9 => ?_) (fun cd9 => ?_)
            · skip
              refine r_iconst C (oDec_at oX4_add 78 rfl) (v := k1) (by rw [qk1]; rfl) ?_
              refine r_goto C (tgt := 143) (oDec_at oX4_add 79 rfl) (by decide) ?_
              refine r_puti (k := 7) (lo := 0) (hi := 1) C oCl4 hk0 (by decide) flX4_34 rfl rfl rfl rfl rfl (n_bool (by omega)) (n_fitz (by omega)) rfl ⟨by omega, by omega⟩ (oDec_at oX4_add 81 rfl) ?_
              refine r_aload_n C (j := 0) (oDec_at oX4_add 82 rfl) rfl rfl ?_
              refine r_dup C (oDec_at oX4_add 83 rfl) rfl ?_
              refine r_geti (k := 5) (lo := 0) (hi := 96) C v1 oCl4 hk0 (by decide) flX4_31 rfl rfl (((pI_ne (a := c0) (b := 5) (c := c0) (k := 7) _ _ (Or.inr (by decide)))).trans (ev1)) rfl rfl (oDec_at oX4_add 84 rfl) (fun _ _ => ?_)
              refine r_iload_n C (j := 2) (oDec_at oX4_add 85 rfl) rfl rfl ?_
              refine r_pc C 152 rfl ?_
              obtain ⟨v10, ev10⟩ : ∃ z : Int32, z = v1 + a2 := ⟨_, rfl⟩
              have hv10 : v10.toInt = v1.toInt + a2.toInt := n_add ev10 (by omega) (by omega)
              refine r_iadd C v10 (oDec_at oX4_add 86 rfl) ev10 ?_
              refine r_puti (k := 5) (lo := 0) (hi := 96) C oCl4 hk0 (by decide) flX4_31 rfl rfl rfl rfl rfl rfl rfl rfl ⟨by omega, by omega⟩ (oDec_at oX4_add 87 rfl) ?_
              refine r_aload_n C (j := 0) (oDec_at oX4_add 88 rfl) rfl rfl ?_
              refine r_dup C (oDec_at oX4_add 89 rfl) rfl ?_
              obtain ⟨v11, ev11⟩ : ∃ z : Int32, ((pI (pI t c0 7 k1) c0 5 v10)).1 c0 4 = z := ⟨_, rfl⟩
              have gv11 : (t.1 c0 4).toInt = v11.toInt := congrArg Int32.toInt ((((pI_ne (a := c0) (b := 4) (c := c0) (k := 5) _ _ (Or.inr (by decide)))).trans ((pI_ne (a := c0) (b := 4) (c := c0) (k := 7) _ _ (Or.inr (by decide))))).symm.trans ev11)
              refine r_geti (k := 4) (lo := 0) (hi := 24) C v11 oCl4 hk0 (by decide) flX4_28 rfl rfl (ev11) rfl rfl (oDec_at oX4_add 90 rfl) (fun b12 b12h => ?_)
              refine r_iconst C (oDec_at oX4_add 91 rfl) (v := k1) (by rw [qk1]; rfl) ?_
              refine r_pc C 162 rfl ?_
              obtain ⟨v13, ev13⟩ : ∃ z : Int32, z = v11 + k1 := ⟨_, rfl⟩
              have hv13 : v13.toInt = v11.toInt + k1.toInt := n_add ev13 (by omega) (by omega)
              refine r_iadd C v13 (oDec_at oX4_add 92 rfl) ev13 ?_
              refine r_puti (k := 4) (lo := 0) (hi := 24) C oCl4 hk0 (by decide) flX4_28 rfl rfl rfl rfl rfl rfl rfl rfl ⟨by omega, by omega⟩ (oDec_at oX4_add 93 rfl) ?_
              refine r_iconst C (oDec_at oX4_add 94 rfl) (v := k1) (by rw [qk1]; rfl) ?_
              have lk14 : (((pI (pI (pI t c0 7 k1) c0 5 v10) c0 4 v13)).1 c0 4).toInt = v13.toInt := congrArg Int32.toInt ((pI_self _ _ _ _))
              have lk15 : (((pI (pI (pI t c0 7 k1) c0 5 v10) c0 4 v13)).1 c0 5).toInt = v10.toInt := congrArg Int32.toInt (((pI_ne (a := c0) (b := 5) (c := c0) (k := 4) _ _ (Or.inr (by decide)))).trans ((pI_self _ _ _ _)))
              exact r_zret C (n_bool (by omega)) (oDec_at oX4_add 95 rfl) ⟨_, rfl, ⟨by omega, by omega⟩⟩
            · skip
              refine r_iload_n C (j := 2) (oDec_at oX4_add 73 rfl) rfl rfl ?_
              refine r_iconst C (oDec_at oX4_add 74 rfl) (v := k2) (by rw [qk2]; rfl) ?_
              obtain ⟨v16, ev16⟩ : ∃ z : Int32, z = a2 - a2 / k2 * k2 := ⟨_, rfl⟩
              have hv16 := n_rem (k := 2) ev16 ek2 (by decide)
              have rv16 := n_rng v16
              refine r_irem C v16 (oDec_at oX4_add 75 rfl) (n_ne0 (by omega)) ev16 ?_
              refine r_iconst C (oDec_at oX4_add 76 rfl) (v := k1) (by rw [qk1]; rfl) ?_
              refine r_icmp_ne C 142 (oDec_at oX4_add 77 rfl) (by decide) (fun cd17 => ?_) (fun cd17 => ?_)
              · skip
                refine r_iconst C (oDec_at oX4_add 80 rfl) (v := k0) (by rw [qk0]; rfl) ?_
                refine r_puti (k := 7) (lo := 0) (hi := 1) C oCl4 hk0 (by decide) flX4_34 rfl rfl rfl rfl rfl (n_bool (by omega)) (n_fitz (by omega)) rfl ⟨by omega, by omega⟩ (oDec_at oX4_add 81 rfl) ?_
                refine r_aload_n C (j := 0) (oDec_at oX4_add 82 rfl) rfl rfl ?_
                refine r_dup C (oDec_at oX4_add 83 rfl) rfl ?_
                refine r_geti (k := 5) (lo := 0) (hi := 96) C v1 oCl4 hk0 (by decide) flX4_31 rfl rfl (((pI_ne (a := c0) (b := 5) (c := c0) (k := 7) _ _ (Or.inr (by decide)))).trans (ev1)) rfl rfl (oDec_at oX4_add 84 rfl) (fun _ _ => ?_)
                refine r_iload_n C (j := 2) (oDec_at oX4_add 85 rfl) rfl rfl ?_
                refine r_pc C 152 rfl ?_
                obtain ⟨v18, ev18⟩ : ∃ z : Int32, z = v1 + a2 := ⟨_, rfl⟩
                have hv18 : v18.toInt = v1.toInt + a2.toInt := n_add ev18 (by omega) (by omega)
                refine r_iadd C v18 (oDec_at oX4_add 86 rfl) ev18 ?_
                refine r_puti (k := 5) (lo := 0) (hi := 96) C oCl4 hk0 (by decide) flX4_31 rfl rfl rfl rfl rfl rfl rfl rfl ⟨by omega, by omega⟩ (oDec_at oX4_add 87 rfl) ?_
                refine r_aload_n C (j := 0) (oDec_at oX4_add 88 rfl) rfl rfl ?_
                refine r_dup C (oDec_at oX4_add 89 rfl) rfl ?_
                obtain ⟨v19, ev19⟩ : ∃ z : Int32, ((pI (pI t c0 7 k0) c0 5 v18)).1 c0 4 = z := ⟨_, rfl⟩
                have gv19 : (t.1 c0 4).toInt = v19.toInt := congrArg Int32.toInt ((((pI_ne (a := c0) (b := 4) (c := c0) (k := 5) _ _ (Or.inr (by decide)))).trans ((pI_ne (a := c0) (b := 4) (c := c0) (k := 7) _ _ (Or.inr (by decide))))).symm.trans ev19)
                refine r_geti (k := 4) (lo := 0) (hi := 24) C v19 oCl4 hk0 (by decide) flX4_28 rfl rfl (ev19) rfl rfl (oDec_at oX4_add 90 rfl) (fun b20 b20h => ?_)
                refine r_iconst C (oDec_at oX4_add 91 rfl) (v := k1) (by rw [qk1]; rfl) ?_
                refine r_pc C 162 rfl ?_
                obtain ⟨v21, ev21⟩ : ∃ z : Int32, z = v19 + k1 := ⟨_, rfl⟩
                have hv21 : v21.toInt = v19.toInt + k1.toInt := n_add ev21 (by omega) (by omega)
                refine r_iadd C v21 (oDec_at oX4_add 92 rfl) ev21 ?_
                refine r_puti (k := 4) (lo := 0) (hi := 24) C oCl4 hk0 (by decide) flX4_28 rfl rfl rfl rfl rfl rfl rfl rfl ⟨by omega, by omega⟩ (oDec_at oX4_add 93 rfl) ?_
                refine r_iconst C (oDec_at oX4_add 94 rfl) (v := k1) (by rw [qk1]; rfl) ?_
                have lk22 : (((pI (pI (pI t c0 7 k0) c0 5 v18) c0 4 v21)).1 c0 4).toInt = v21.toInt := congrArg Int32.toInt ((pI_self _ _ _ _))
                have lk23 : (((pI (pI (pI t c0 7 k0) c0 5 v18) c0 4 v21)).1 c0 5).toInt = v18.toInt := congrArg Int32.toInt (((pI_ne (a := c0) (b := 5) (c := c0) (k := 4) _ _ (Or.inr (by decide)))).trans ((pI_self _ _ _ _)))
                exact r_zret C (n_bool (by omega)) (oDec_at oX4_add 95 rfl) ⟨_, rfl, ⟨by omega, by omega⟩⟩
              · skip
                refine r_iconst C (oDec_at oX4_add 78 rfl) (v := k1) (by rw [qk1]; rfl) ?_
                refine r_goto C (tgt := 143) (oDec_at oX4_add 79 rfl) (by decide) ?_
                refine r_puti (k := 7) (lo := 0) (hi := 1) C oCl4 hk0 (by decide) flX4_34 rfl rfl rfl rfl rfl (n_bool (by omega)) (n_fitz (by omega)) rfl ⟨by omega, by omega⟩ (oDec_at oX4_add 81 rfl) ?_
                refine r_aload_n C (j := 0) (oDec_at oX4_add 82 rfl) rfl rfl ?_
                refine r_dup C (oDec_at oX4_add 83 rfl) rfl ?_
                refine r_geti (k := 5) (lo := 0) (hi := 96) C v1 oCl4 hk0 (by decide) flX4_31 rfl rfl (((pI_ne (a := c0) (b := 5) (c := c0) (k := 7) _ _ (Or.inr (by decide)))).trans (ev1)) rfl rfl (oDec_at oX4_add 84 rfl) (fun _ _ => ?_)
                refine r_iload_n C (j := 2) (oDec_at oX4_add 85 rfl) rfl rfl ?_
                refine r_pc C 152 rfl ?_
                obtain ⟨v24, ev24⟩ : ∃ z : Int32, z = v1 + a2 := ⟨_, rfl⟩
                have hv24 : v24.toInt = v1.toInt + a2.toInt := n_add ev24 (by omega) (by omega)
                refine r_iadd C v24 (oDec_at oX4_add 86 rfl) ev24 ?_
                refine r_puti (k := 5) (lo := 0) (hi := 96) C oCl4 hk0 (by decide) flX4_31 rfl rfl rfl rfl rfl rfl rfl rfl ⟨by omega, by omega⟩ (oDec_at oX4_add 87 rfl) ?_
                refine r_aload_n C (j := 0) (oDec_at oX4_add 88 rfl) rfl rfl ?_
                refine r_dup C (oDec_at oX4_add 89 rfl) rfl ?_
                obtain ⟨v25, ev25⟩ : ∃ z : Int32, ((pI (pI t c0 7 k1) c0 5 v24)).1 c0 4 = z := ⟨_, rfl⟩
                have gv25 : (t.1 c0 4).toInt = v25.toInt := congrArg Int32.toInt ((((pI_ne (a := c0) (b := 4) (c := c0) (k := 5) _ _ (Or.inr (by decide)))).trans ((pI_ne (a := c0) (b := 4) (c := c0) (k := 7) _ _ (Or.inr (by decide))))).symm.trans ev25)
                refine r_geti (k := 4) (lo := 0) (hi := 24) C v25 oCl4 hk0 (by decide) flX4_28 rfl rfl (ev25) rfl rfl (oDec_at oX4_add 90 rfl) (fun b26 b26h => ?_)
                refine r_iconst C (oDec_at oX4_add 91 rfl) (v := k1) (by rw [qk1]; rfl) ?_
                refine r_pc C 162 rfl ?_
                obtain ⟨v27, ev27⟩ : ∃ z : Int32, z = v25 + k1 := ⟨_, rfl⟩
                have hv27 : v27.toInt = v25.toInt + k1.toInt := n_add ev27 (by omega) (by omega)
                refine r_iadd C v27 (oDec_at oX4_add 92 rfl) ev27 ?_
                refine r_puti (k := 4) (lo := 0) (hi := 24) C oCl4 hk0 (by decide) flX4_28 rfl rfl rfl rfl rfl rfl rfl rfl ⟨by omega, by omega⟩ (oDec_at oX4_add 93 rfl) ?_
                refine r_iconst C (oDec_at oX4_add 94 rfl) (v := k1) (by rw [qk1]; rfl) ?_
                have lk28 : (((pI (pI (pI t c0 7 k1) c0 5 v24) c0 4 v27)).1 c0 4).toInt = v27.toInt := congrArg Int32.toInt ((pI_self _ _ _ _))
                have lk29 : (((pI (pI (pI t c0 7 k1) c0 5 v24) c0 4 v27)).1 c0 5).toInt = v24.toInt := congrArg Int32.toInt (((pI_ne (a := c0) (b := 5) (c := c0) (k := 4) _ _ (Or.inr (by decide)))).trans ((pI_self _ _ _ _)))
                exact r_zret C (n_bool (by omega)) (oDec_at oX4_add 95 rfl) ⟨_, rfl, ⟨by omega, by omega⟩⟩
          · skip
            refine r_aload_n C (j := 0) (oDec_at oX4_add 66 rfl) rfl rfl ?_
            refine r_iload_n C (j := 1) (oDec_at oX4_add 67 rfl) rfl rfl ?_
            refine r_puti (k := 6) (lo := (-2147483648)) (hi := 2147483647) C oCl4 hk0 (by decide) flX4_24 rfl rfl rfl rfl rfl rfl rfl rfl (n_rng _) (oDec_at oX4_add 68 rfl) ?_
            refine r_aload_n C (j := 0) (oDec_at oX4_add 69 rfl) rfl rfl ?_
            refine r_aload_n C (j := 0) (oDec_at oX4_add 70 rfl) rfl rfl ?_
            obtain ⟨v30, ev30⟩ : ∃ z : Int32, ((pI t c0 6 a1)).1 c0 7 = z := ⟨_, rfl⟩
            have gv30 : (t.1 c0 7).toInt = v30.toInt := congrArg Int32.toInt (((pI_ne (a := c0) (b := 7) (c := c0) (k := 6) _ _ (Or.inr (by decide)))).symm.trans ev30)
            refine r_geti (k := 7) (lo := 0) (hi := 1) C v30 oCl4 hk0 (by decide) flX4_34 rfl rfl (ev30) rfl rfl (oDec_at oX4_add 71 rfl) (fun b31 b31h => ?_)
            refine r_pc C 128 rfl ?_
            refine r_if_ne C 138 (oDec_at oX4_add 72 rfl) (by decide) (fun cd32 => ?_) (fun cd32 => ?_)
            · skip
              refine r_iconst C (oDec_at oX4_add 78 rfl) (v := k1) (by rw [qk1]; rfl) ?_
              refine r_goto C (tgt := 143) (oDec_at oX4_add 79 rfl) (by decide) ?_
              refine r_puti (k := 7) (lo := 0) (hi := 1) C oCl4 hk0 (by decide) flX4_34 rfl rfl rfl rfl rfl (n_bool (by omega)) (n_fitz (by omega)) rfl ⟨by omega, by omega⟩ (oDec_at oX4_add 81 rfl) ?_
              refine r_aload_n C (j := 0) (oDec_at oX4_add 82 rfl) rfl rfl ?_
              refine r_dup C (oDec_at oX4_add 83 rfl) rfl ?_
              refine r_geti (k := 5) (lo := 0) (hi := 96) C v1 oCl4 hk0 (by decide) flX4_31 rfl rfl (((pI_ne (a := c0) (b := 5) (c := c0) (k := 7) _ _ (Or.inr (by decide)))).trans (((pI_ne (a := c0) (b := 5) (c := c0) (k := 6) _ _ (Or.inr (by decide)))).trans (ev1))) rfl rfl (oDec_at oX4_add 84 rfl) (fun _ _ => ?_)
              refine r_iload_n C (j := 2) (oDec_at oX4_add 85 rfl) rfl rfl ?_
              refine r_pc C 152 rfl ?_
              obtain ⟨v33, ev33⟩ : ∃ z : Int32, z = v1 + a2 := ⟨_, rfl⟩
              have hv33 : v33.toInt = v1.toInt + a2.toInt := n_add ev33 (by omega) (by omega)
              refine r_iadd C v33 (oDec_at oX4_add 86 rfl) ev33 ?_
              refine r_puti (k := 5) (lo := 0) (hi := 96) C oCl4 hk0 (by decide) flX4_31 rfl rfl rfl rfl rfl rfl rfl rfl ⟨by omega, by omega⟩ (oDec_at oX4_add 87 rfl) ?_
              refine r_aload_n C (j := 0) (oDec_at oX4_add 88 rfl) rfl rfl ?_
              refine r_dup C (oDec_at oX4_add 89 rfl) rfl ?_
              obtain ⟨v34, ev34⟩ : ∃ z : Int32, ((pI (pI (pI t c0 6 a1) c0 7 k1) c0 5 v33)).1 c0 4 = z := ⟨_, rfl⟩
              have gv34 : (t.1 c0 4).toInt = v34.toInt := congrArg Int32.toInt ((((pI_ne (a := c0) (b := 4) (c := c0) (k := 5) _ _ (Or.inr (by decide)))).trans (((pI_ne (a := c0) (b := 4) (c := c0) (k := 7) _ _ (Or.inr (by decide)))).trans ((pI_ne (a := c0) (b := 4) (c := c0) (k := 6) _ _ (Or.inr (by decide)))))).symm.trans ev34)
              refine r_geti (k := 4) (lo := 0) (hi := 24) C v34 oCl4 hk0 (by decide) flX4_28 rfl rfl (ev34) rfl rfl (oDec_at oX4_add 90 rfl) (fun b35 b35h => ?_)
              refine r_iconst C (oDec_at oX4_add 91 rfl) (v := k1) (by rw [qk1]; rfl) ?_
              refine r_pc C 162 rfl ?_
              obtain ⟨v36, ev36⟩ : ∃ z : Int32, z = v34 + k1 := ⟨_, rfl⟩
              have hv36 : v36.toInt = v34.toInt + k1.toInt := n_add ev36 (by omega) (by omega)
              refine r_iadd C v36 (oDec_at oX4_add 92 rfl) ev36 ?_
              refine r_puti (k := 4) (lo := 0) (hi := 24) C oCl4 hk0 (by decide) flX4_28 rfl rfl rfl rfl rfl rfl rfl rfl ⟨by omega, by omega⟩ (oDec_at oX4_add 93 rfl) ?_
              refine r_iconst C (oDec_at oX4_add 94 rfl) (v := k1) (by rw [qk1]; rfl) ?_
              have lk37 : (((pI (pI (pI (pI t c0 6 a1) c0 7 k1) c0 5 v33) c0 4 v36)).1 c0 4).toInt = v36.toInt := congrArg Int32.toInt ((pI_self _ _ _ _))
              have lk38 : (((pI (pI (pI (pI t c0 6 a1) c0 7 k1) c0 5 v33) c0 4 v36)).1 c0 5).toInt = v33.toInt := congrArg Int32.toInt (((pI_ne (a := c0) (b := 5) (c := c0) (k := 4) _ _ (Or.inr (by decide)))).trans ((pI_self _ _ _ _)))
              exact r_zret C (n_bool (by omega)) (oDec_at oX4_add 95 rfl) ⟨_, rfl, ⟨by omega, by omega⟩⟩
            · skip
              refine r_iload_n C (j := 2) (oDec_at oX4_add 73 rfl) rfl rfl ?_
              refine r_iconst C (oDec_at oX4_add 74 rfl) (v := k2) (by rw [qk2]; rfl) ?_
              obtain ⟨v39, ev39⟩ : ∃ z : Int32, z = a2 - a2 / k2 * k2 := ⟨_, rfl⟩
              have hv39 := n_rem (k := 2) ev39 ek2 (by decide)
              have rv39 := n_rng v39
              refine r_irem C v39 (oDec_at oX4_add 75 rfl) (n_ne0 (by omega)) ev39 ?_
              refine r_iconst C (oDec_at oX4_add 76 rfl) (v := k1) (by rw [qk1]; rfl) ?_
              refine r_icmp_ne C 142 (oDec_at oX4_add 77 rfl) (by decide) (fun cd40 => ?_) (fun cd40 => ?_)
              · skip
                refine r_iconst C (oDec_at oX4_add 80 rfl) (v := k0) (by rw [qk0]; rfl) ?_
                refine r_puti (k := 7) (lo := 0) (hi := 1) C oCl4 hk0 (by decide) flX4_34 rfl rfl rfl rfl rfl (n_bool (by omega)) (n_fitz (by omega)) rfl ⟨by omega, by omega⟩ (oDec_at oX4_add 81 rfl) ?_
                refine r_aload_n C (j := 0) (oDec_at oX4_add 82 rfl) rfl rfl ?_
                refine r_dup C (oDec_at oX4_add 83 rfl) rfl ?_
                refine r_geti (k := 5) (lo := 0) (hi := 96) C v1 oCl4 hk0 (by decide) flX4_31 rfl rfl (((pI_ne (a := c0) (b := 5) (c := c0) (k := 7) _ _ (Or.inr (by decide)))).trans (((pI_ne (a := c0) (b := 5) (c := c0) (k := 6) _ _ (Or.inr (by decide)))).trans (ev1))) rfl rfl (oDec_at oX4_add 84 rfl) (fun _ _ => ?_)
                refine r_iload_n C (j := 2) (oDec_at oX4_add 85 rfl) rfl rfl ?_
                refine r_pc C 152 rfl ?_
                obtain ⟨v41, ev41⟩ : ∃ z : Int32, z = v1 + a2 := ⟨_, rfl⟩
                have hv41 : v41.toInt = v1.toInt + a2.toInt := n_add ev41 (by omega) (by omega)
                refine r_iadd C v41 (oDec_at oX4_add 86 rfl) ev41 ?_
                refine r_puti (k := 5) (lo := 0) (hi := 96) C oCl4 hk0 (by decide) flX4_31 rfl rfl rfl rfl rfl rfl rfl rfl ⟨by omega, by omega⟩ (oDec_at oX4_add 87 rfl) ?_
                refine r_aload_n C (j := 0) (oDec_at oX4_add 88 rfl) rfl rfl ?_
                refine r_dup C (oDec_at oX4_add 89 rfl) rfl ?_
                obtain ⟨v42, ev42⟩ : ∃ z : Int32, ((pI (pI (pI t c0 6 a1) c0 7 k0) c0 5 v41)).1 c0 4 = z := ⟨_, rfl⟩
                have gv42 : (t.1 c0 4).toInt = v42.toInt := congrArg Int32.toInt ((((pI_ne (a := c0) (b := 4) (c := c0) (k := 5) _ _ (Or.inr (by decide)))).trans (((pI_ne (a := c0) (b := 4) (c := c0) (k := 7) _ _ (Or.inr (by decide)))).trans ((pI_ne (a := c0) (b := 4) (c := c0) (k := 6) _ _ (Or.inr (by decide)))))).symm.trans ev42)
                refine r_geti (k := 4) (lo := 0) (hi := 24) C v42 oCl4 hk0 (by decide) flX4_28 rfl rfl (ev42) rfl rfl (oDec_at oX4_add 90 rfl) (fun b43 b43h => ?_)
                refine r_iconst C (oDec_at oX4_add 91 rfl) (v := k1) (by rw [qk1]; rfl) ?_
                refine r_pc C 162 rfl ?_
                obtain ⟨v44, ev44⟩ : ∃ z : Int32, z = v42 + k1 := ⟨_, rfl⟩
                have hv44 : v44.toInt = v42.toInt + k1.toInt := n_add ev44 (by omega) (by omega)
                refine r_iadd C v44 (oDec_at oX4_add 92 rfl) ev44 ?_
                refine r_puti (k := 4) (lo := 0) (hi := 24) C oCl4 hk0 (by decide) flX4_28 rfl rfl rfl rfl rfl rfl rfl rfl ⟨by omega, by omega⟩ (oDec_at oX4_add 93 rfl) ?_
                refine r_iconst C (oDec_at oX4_add 94 rfl) (v := k1) (by rw [qk1]; rfl) ?_
                have lk45 : (((pI (pI (pI (pI t c0 6 a1) c0 7 k0) c0 5 v41) c0 4 v44)).1 c0 4).toInt = v44.toInt := congrArg Int32.toInt ((pI_self _ _ _ _))
                have lk46 : (((pI (pI (pI (pI t c0 6 a1) c0 7 k0) c0 5 v41) c0 4 v44)).1 c0 5).toInt = v41.toInt := congrArg Int32.toInt (((pI_ne (a := c0) (b := 5) (c := c0) (k := 4) _ _ (Or.inr (by decide)))).trans ((pI_self _ _ _ _)))
                exact r_zret C (n_bool (by omega)) (oDec_at oX4_add 95 rfl) ⟨_, rfl, ⟨by omega, by omega⟩⟩
              · skip
                refine r_iconst C (oDec_at oX4_add 78 rfl) (v := k1) (by rw [qk1]; rfl) ?_
                refine r_goto C (tgt := 143) (oDec_at oX4_add 79 rfl) (by decide) ?_
                refine r_puti (k := 7) (lo := 0) (hi := 1) C oCl4 hk0 (by decide) flX4_34 rfl rfl rfl rfl rfl (n_bool (by omega)) (n_fitz (by omega)) rfl ⟨by omega, by omega⟩ (oDec_at oX4_add 81 rfl) ?_
                refine r_aload_n C (j := 0) (oDec_at oX4_add 82 rfl) rfl rfl ?_
                refine r_dup C (oDec_at oX4_add 83 rfl) rfl ?_
                refine r_geti (k := 5) (lo := 0) (hi := 96) C v1 oCl4 hk0 (by decide) flX4_31 rfl rfl (((pI_ne (a := c0) (b := 5) (c := c0) (k := 7) _ _ (Or.inr (by decide)))).trans (((pI_ne (a := c0) (b := 5) (c := c0) (k := 6) _ _ (Or.inr (by decide)))).trans (ev1))) rfl rfl (oDec_at oX4_add 84 rfl) (fun _ _ => ?_)
                refine r_iload_n C (j := 2) (oDec_at oX4_add 85 rfl) rfl rfl ?_
                refine r_pc C 152 rfl ?_
                obtain ⟨v47, ev47⟩ : ∃ z : Int32, z = v1 + a2 := ⟨_, rfl⟩
                have hv47 : v47.toInt = v1.toInt + a2.toInt := n_add ev47 (by omega) (by omega)
                refine r_iadd C v47 (oDec_at oX4_add 86 rfl) ev47 ?_
                refine r_puti (k := 5) (lo := 0) (hi := 96) C oCl4 hk0 (by decide) flX4_31 rfl rfl rfl rfl rfl rfl rfl rfl ⟨by omega, by omega⟩ (oDec_at oX4_add 87 rfl) ?_
                refine r_aload_n C (j := 0) (oDec_at oX4_add 88 rfl) rfl rfl ?_
                refine r_dup C (oDec_at oX4_add 89 rfl) rfl ?_
                obtain ⟨v48, ev48⟩ : ∃ z : Int32, ((pI (pI (pI t c0 6 a1) c0 7 k1) c0 5 v47)).1 c0 4 = z := ⟨_, rfl⟩
                have gv48 : (t.1 c0 4).toInt = v48.toInt := congrArg Int32.toInt ((((pI_ne (a := c0) (b := 4) (c := c0) (k := 5) _ _ (Or.inr (by decide)))).trans (((pI_ne (a := c0) (b := 4) (c := c0) (k := 7) _ _ (Or.inr (by decide)))).trans ((pI_ne (a := c0) (b := 4) (c := c0) (k := 6) _ _ (Or.inr (by decide)))))).symm.trans ev48)
                refine r_geti (k := 4) (lo := 0) (hi := 24) C v48 oCl4 hk0 (by decide) flX4_28 rfl rfl (ev48) rfl rfl (oDec_at oX4_add 90 rfl) (fun b49 b49h => ?_)
                refine r_iconst C (oDec_at oX4_add 91 rfl) (v := k1) (by rw [qk1]; rfl) ?_
                refine r_pc C 162 rfl ?_
                obtain ⟨v50, ev50⟩ : ∃ z : Int32, z = v48 + k1 := ⟨_, rfl⟩
                have hv50 : v50.toInt = v48.toInt + k1.toInt := n_add ev50 (by omega) (by omega)
                refine r_iadd C v50 (oDec_at oX4_add 92 rfl) ev50 ?_
                refine r_puti (k := 4) (lo := 0) (hi := 24) C oCl4 hk0 (by decide) flX4_28 rfl rfl rfl rfl rfl rfl rfl rfl ⟨by omega, by omega⟩ (oDec_at oX4_add 93 rfl) ?_
                refine r_iconst C (oDec_at oX4_add 94 rfl) (v := k1) (by rw [qk1]; rfl) ?_
                have lk51 : (((pI (pI (pI (pI t c0 6 a1) c0 7 k1) c0 5 v47) c0 4 v50)).1 c0 4).toInt = v50.toInt := congrArg Int32.toInt ((pI_self _ _ _ _))
                have lk52 : (((pI (pI (pI (pI t c0 6 a1) c0 7 k1) c0 5 v47) c0 4 v50)).1 c0 5).toInt = v47.toInt := congrArg Int32.toInt (((pI_ne (a := c0) (b := 5) (c := c0) (k := 4) _ _ (Or.inr (by decide)))).trans ((pI_self _ _ _ _)))
                exact r_zret C (n_bool (by omega)) (oDec_at oX4_add 95 rfl) ⟨_, rfl, ⟨by omega, by omega⟩⟩
        · skip
          refine r_aload_n C (j := 0) (oDec_at oX4_add 54 rfl) rfl rfl ?_
          refine r_getR (k := 3) (b := 4) C oCl4 hk0 (by decide) flX4_21 rfl rfl rfl (oDec_at oX4_add 55 rfl) ?_
          refine r_iload_n C (j := 3) (oDec_at oX4_add 56 rfl) rfl rfl ?_
          refine r_aload_n C (j := 0) (oDec_at oX4_add 57 rfl) rfl rfl ?_
          obtain ⟨v53, ev53⟩ : ∃ z : Int32, (t).1 c0 4 = z := ⟨_, rfl⟩
          have gv53 : (t.1 c0 4).toInt = v53.toInt := congrArg Int32.toInt (ev53)
          refine r_geti (k := 4) (lo := 0) (hi := 24) C v53 oCl4 hk0 (by decide) flX4_28 rfl rfl (ev53) rfl rfl (oDec_at oX4_add 58 rfl) (fun b54 b54h => ?_)
          refine r_iast (n := 96) (lo := (-2147483648)) (hi := 2147483647) C (kr4_4 hk0) (by decide) rfl rfl ⟨by omega, by omega⟩ (by decide) rfl rfl rfl rfl (n_rng _) (oDec_at oX4_add 59 rfl) ?_
          refine r_pc C 104 rfl ?_
          obtain ⟨v55, ev55⟩ : ∃ z : Int32, x3 + Int32.ofInt 1 = z := ⟨_, rfl⟩
          have hv55 : v55.toInt = x3.toInt + 1 := n_inc ev55 (by decide) (by omega) (by omega)
          refine r_iinc C (j := 3) (lv' := [(0, .ref (oad E c0)), (1, .int a1), (2, .int a2), (3, .int v55)]) v55 [1, 2, 3, 0] (oDec_at oX4_add 60 rfl) rfl ev55 (by decide) rfl ?_
          refine r_goto C (tgt := 84) (oDec_at oX4_add 61 rfl) (by decide) ?_
          have lk56 : (((pI t (c0 + 4) x3.toNatClampNeg v53)).1 c0 4).toInt = v53.toInt := congrArg Int32.toInt (((pI_ne _ _ (Or.inl (okd_ne hk0 (kr4_4 hk0) (by decide))))).trans (ev53))
          have lk57 : (((pI t (c0 + 4) x3.toNatClampNeg v53)).1 c0 5).toInt = v1.toInt := congrArg Int32.toInt (((pI_ne _ _ (Or.inl (okd_ne hk0 (kr4_4 hk0) (by decide))))).trans (ev1))
          exact (ih (n - 1) (by omega)) ((pI t (c0 + 4) x3.toNatClampNeg v53)) v55  (by omega) (by omega) (by omega) (by omega) (by omega) (by omega) (by omega) (by omega)
  refine r_iload_n C (j := 1) (oDec_at oX4_add 0 rfl) rfl rfl ?_
  refine r_iconst C (oDec_at oX4_add 1 rfl) (v := km1) (by rw [qkm1]; rfl) ?_
  refine r_icmp_lt C 22 (oDec_at oX4_add 2 rfl) (by decide) (fun cd58 => ?_) (fun cd58 => ?_)
  · skip
    refine r_iconst C (oDec_at oX4_add 12 rfl) (v := k0) (by rw [qk0]; rfl) ?_
    exact r_zret C (n_bool (by omega)) (oDec_at oX4_add 13 rfl) ⟨_, rfl, ⟨by omega, by omega⟩⟩
  · skip
    refine r_iload_n C (j := 1) (oDec_at oX4_add 3 rfl) rfl rfl ?_
    refine r_bipush C (oDec_at oX4_add 4 rfl) (v := k28) (by rw [qk28]; rfl) ?_
    refine r_icmp_gt C 22 (oDec_at oX4_add 5 rfl) (by decide) (fun cd59 => ?_) (fun cd59 => ?_)
    · skip
      refine r_iconst C (oDec_at oX4_add 12 rfl) (v := k0) (by rw [qk0]; rfl) ?_
      exact r_zret C (n_bool (by omega)) (oDec_at oX4_add 13 rfl) ⟨_, rfl, ⟨by omega, by omega⟩⟩
    · skip
      refine r_iload_n C (j := 2) (oDec_at oX4_add 6 rfl) rfl rfl ?_
      refine r_iconst C (oDec_at oX4_add 7 rfl) (v := k1) (by rw [qk1]; rfl) ?_
      refine r_icmp_lt C 22 (oDec_at oX4_add 8 rfl) (by decide) (fun cd60 => ?_) (fun cd60 => ?_)
      · skip
        refine r_iconst C (oDec_at oX4_add 12 rfl) (v := k0) (by rw [qk0]; rfl) ?_
        exact r_zret C (n_bool (by omega)) (oDec_at oX4_add 13 rfl) ⟨_, rfl, ⟨by omega, by omega⟩⟩
      · skip
        refine r_iload_n C (j := 2) (oDec_at oX4_add 9 rfl) rfl rfl ?_
        refine r_bipush C (oDec_at oX4_add 10 rfl) (v := k16) (by rw [qk16]; rfl) ?_
        refine r_icmp_le C 24 (oDec_at oX4_add 11 rfl) (by decide) (fun cd61 => ?_) (fun cd61 => ?_)
        · skip
          refine r_aload_n C (j := 0) (oDec_at oX4_add 14 rfl) rfl rfl ?_
          obtain ⟨v62, ev62⟩ : ∃ z : Int32, (s).1 c0 4 = z := ⟨_, rfl⟩
          have gv62 : (s.1 c0 4).toInt = v62.toInt := congrArg Int32.toInt (ev62)
          refine r_geti (k := 4) (lo := 0) (hi := 24) C v62 oCl4 hk0 (by decide) flX4_28 rfl rfl (ev62) rfl rfl (oDec_at oX4_add 15 rfl) (fun b63 b63h => ?_)
          refine r_bipush C (oDec_at oX4_add 16 rfl) (v := k24) (by rw [qk24]; rfl) ?_
          refine r_icmp_ge C 44 (oDec_at oX4_add 17 rfl) (by decide) (fun cd64 => ?_) (fun cd64 => ?_)
          · skip
            refine r_iconst C (oDec_at oX4_add 24 rfl) (v := k0) (by rw [qk0]; rfl) ?_
            have lk65 : ((s).1 c0 4).toInt = v62.toInt := congrArg Int32.toInt (ev62)
            exact r_zret C (n_bool (by omega)) (oDec_at oX4_add 25 rfl) ⟨_, rfl, ⟨by omega, by omega⟩⟩
          · skip
            refine r_aload_n C (j := 0) (oDec_at oX4_add 18 rfl) rfl rfl ?_
            obtain ⟨v66, ev66⟩ : ∃ z : Int32, (s).1 c0 5 = z := ⟨_, rfl⟩
            have gv66 : (s.1 c0 5).toInt = v66.toInt := congrArg Int32.toInt (ev66)
            refine r_geti (k := 5) (lo := 0) (hi := 96) C v66 oCl4 hk0 (by decide) flX4_31 rfl rfl (ev66) rfl rfl (oDec_at oX4_add 19 rfl) (fun b67 b67h => ?_)
            refine r_iload_n C (j := 2) (oDec_at oX4_add 20 rfl) rfl rfl ?_
            obtain ⟨v68, ev68⟩ : ∃ z : Int32, z = v66 + a2 := ⟨_, rfl⟩
            have hv68 : v68.toInt = v66.toInt + a2.toInt := n_add ev68 (by omega) (by omega)
            refine r_iadd C v68 (oDec_at oX4_add 21 rfl) ev68 ?_
            refine r_bipush C (oDec_at oX4_add 22 rfl) (v := k96) (by rw [qk96]; rfl) ?_
            refine r_icmp_le C 46 (oDec_at oX4_add 23 rfl) (by decide) (fun cd69 => ?_) (fun cd69 => ?_)
            · skip
              refine r_aload_n C (j := 0) (oDec_at oX4_add 26 rfl) rfl rfl ?_
              refine r_getR (k := 0) (b := 1) C oCl4 hk0 (by decide) flX4_9 rfl rfl rfl (oDec_at oX4_add 27 rfl) ?_
              refine r_aload_n C (j := 0) (oDec_at oX4_add 28 rfl) rfl rfl ?_
              refine r_geti (k := 4) (lo := 0) (hi := 24) C v62 oCl4 hk0 (by decide) flX4_28 rfl rfl (ev62) rfl rfl (oDec_at oX4_add 29 rfl) (fun _ _ => ?_)
              refine r_iload_n C (j := 1) (oDec_at oX4_add 30 rfl) rfl rfl ?_
              refine r_iast (n := 24) (lo := (-2147483648)) (hi := 2147483647) C (kr4_1 hk0) (by decide) rfl rfl ⟨by omega, by omega⟩ (by decide) rfl rfl rfl rfl (n_rng _) (oDec_at oX4_add 31 rfl) ?_
              refine r_pc C 56 rfl ?_
              refine r_aload_n C (j := 0) (oDec_at oX4_add 32 rfl) rfl rfl ?_
              refine r_getR (k := 1) (b := 2) C oCl4 hk0 (by decide) flX4_15 rfl rfl rfl (oDec_at oX4_add 33 rfl) ?_
              refine r_aload_n C (j := 0) (oDec_at oX4_add 34 rfl) rfl rfl ?_
              refine r_geti (k := 4) (lo := 0) (hi := 24) C v62 oCl4 hk0 (by decide) flX4_28 rfl rfl (((pI_ne _ _ (Or.inl (okd_ne hk0 (kr4_1 hk0) (by decide))))).trans (ev62)) rfl rfl (oDec_at oX4_add 35 rfl) (fun _ _ => ?_)
              refine r_iload_n C (j := 2) (oDec_at oX4_add 36 rfl) rfl rfl ?_
              refine r_iast (n := 24) (lo := (-2147483648)) (hi := 2147483647) C (kr4_2 hk0) (by decide) rfl rfl ⟨by omega, by omega⟩ (by decide) rfl rfl rfl rfl (n_rng _) (oDec_at oX4_add 37 rfl) ?_
              refine r_pc C 66 rfl ?_
              refine r_aload_n C (j := 0) (oDec_at oX4_add 38 rfl) rfl rfl ?_
              refine r_getR (k := 2) (b := 3) C oCl4 hk0 (by decide) flX4_18 rfl rfl rfl (oDec_at oX4_add 39 rfl) ?_
              refine r_aload_n C (j := 0) (oDec_at oX4_add 40 rfl) rfl rfl ?_
              refine r_geti (k := 4) (lo := 0) (hi := 24) C v62 oCl4 hk0 (by decide) flX4_28 rfl rfl (((pI_ne _ _ (Or.inl (okd_ne hk0 (kr4_2 hk0) (by decide))))).trans (((pI_ne _ _ (Or.inl (okd_ne hk0 (kr4_1 hk0) (by decide))))).trans (ev62))) rfl rfl (oDec_at oX4_add 41 rfl) (fun _ _ => ?_)
              refine r_aload_n C (j := 0) (oDec_at oX4_add 42 rfl) rfl rfl ?_
              refine r_geti (k := 5) (lo := 0) (hi := 96) C v66 oCl4 hk0 (by decide) flX4_31 rfl rfl (((pI_ne _ _ (Or.inl (okd_ne hk0 (kr4_2 hk0) (by decide))))).trans (((pI_ne _ _ (Or.inl (okd_ne hk0 (kr4_1 hk0) (by decide))))).trans (ev66))) rfl rfl (oDec_at oX4_add 43 rfl) (fun _ _ => ?_)
              refine r_pc C 78 rfl ?_
              refine r_iast (n := 24) (lo := (-2147483648)) (hi := 2147483647) C (kr4_3 hk0) (by decide) rfl rfl ⟨by omega, by omega⟩ (by decide) rfl rfl rfl rfl (n_rng _) (oDec_at oX4_add 44 rfl) ?_
              refine r_aload_n C (j := 0) (oDec_at oX4_add 45 rfl) rfl rfl ?_
              refine r_geti (k := 5) (lo := 0) (hi := 96) C v66 oCl4 hk0 (by decide) flX4_31 rfl rfl (((pI_ne _ _ (Or.inl (okd_ne hk0 (kr4_3 hk0) (by decide))))).trans (((pI_ne _ _ (Or.inl (okd_ne hk0 (kr4_2 hk0) (by decide))))).trans (((pI_ne _ _ (Or.inl (okd_ne hk0 (kr4_1 hk0) (by decide))))).trans (ev66)))) rfl rfl (oDec_at oX4_add 46 rfl) (fun _ _ => ?_)
              refine r_istore_n C (lv' := [(0, .ref (oad E c0)), (1, .int a1), (2, .int a2), (3, .int v66)]) [1, 2, 3, 0] (oDec_at oX4_add 47 rfl) rfl (by decide) rfl ?_
              have lk70 : (((pI (pI (pI s (c0 + 1) v62.toNatClampNeg a1) (c0 + 2) v62.toNatClampNeg a2) (c0 + 3) v62.toNatClampNeg v66)).1 c0 4).toInt = v62.toInt := congrArg Int32.toInt (((pI_ne _ _ (Or.inl (okd_ne hk0 (kr4_3 hk0) (by decide))))).trans (((pI_ne _ _ (Or.inl (okd_ne hk0 (kr4_2 hk0) (by decide))))).trans (((pI_ne _ _ (Or.inl (okd_ne hk0 (kr4_1 hk0) (by decide))))).trans (ev62))))
              have lk71 : (((pI (pI (pI s (c0 + 1) v62.toNatClampNeg a1) (c0 + 2) v62.toNatClampNeg a2) (c0 + 3) v62.toNatClampNeg v66)).1 c0 5).toInt = v66.toInt := congrArg Int32.toInt (((pI_ne _ _ (Or.inl (okd_ne hk0 (kr4_3 hk0) (by decide))))).trans (((pI_ne _ _ (Or.inl (okd_ne hk0 (kr4_2 hk0) (by decide))))).trans (((pI_ne _ _ (Or.inl (okd_ne hk0 (kr4_1 hk0) (by decide))))).trans (ev66))))
              exact (key ((s.1 c0 5).toInt + a2.toInt - v66.toInt + 1).toNat) ((pI (pI (pI s (c0 + 1) v62.toNatClampNeg a1) (c0 + 2) v62.toNatClampNeg a2) (c0 + 3) v62.toNatClampNeg v66)) v66  (by omega) (by omega) (by omega) (by omega) (by omega) (by omega) (by omega) (by omega)
            · skip
              refine r_iconst C (oDec_at oX4_add 24 rfl) (v := k0) (by rw [qk0]; rfl) ?_
              have lk72 : ((s).1 c0 4).toInt = v62.toInt := congrArg Int32.toInt (ev62)
              have lk73 : ((s).1 c0 5).toInt = v66.toInt := congrArg Int32.toInt (ev66)
              exact r_zret C (n_bool (by omega)) (oDec_at oX4_add 25 rfl) ⟨_, rfl, ⟨by omega, by omega⟩⟩
        · skip
          refine r_iconst C (oDec_at oX4_add 12 rfl) (v := k0) (by rw [qk0]; rfl) ?_
          exact r_zret C (n_bool (by omega)) (oDec_at oX4_add 13 rfl) ⟨_, rfl, ⟨by omega, by omega⟩⟩
set_option maxHeartbeats 4000000 in
set_option maxRecDepth 100000 in
theorem ct_X4_copyFrom (l : Launch) (E : oE) (s : oS) (c0 : Nat) (hk0 : okd c0 = 4) (c1 : Nat) (hk1 : okd c1 = 4)  : oMet l 3 yX4_copyFrom cX4_copyFrom 3 none [(4, 4), (4, 5), (4, 6), (4, 7), (16, 9999), (17, 9999), (18, 9999), (19, 9999)] E s [.ref (oad E c0), .ref (oad E c1)] (oPv (fun u => True)) := by
  refine oMet.of (lv := [(0, .ref (oad E c0)), (1, .ref (oad E c1))]) (by decide +kernel) (Nat.le_of_ble_eq_true rfl) rfl (fun J C hT => ?_)
  have C : oC l 3 cX4_copyFrom RX4 3 none [(4, 4), (4, 5), (4, 6), (4, 7), (16, 9999), (17, 9999), (18, 9999), (19, 9999)] E s (oPv (fun u => True)) J := C
  obtain ⟨k0, qk0⟩ : ∃ z : Int32, z = 0 := ⟨_, rfl⟩
  have ek0 : k0.toInt = 0 := by rw [qk0]; rfl
  have key : ∀ n : Nat, (∀ (t : oS) (x2 : Int32), (0 ≤ x2.toInt ∧ x2.toInt ≤ 24) → 25 - x2.toInt ≤ (n : Int) → J t 6 [(0, .ref (oad E c0)), (1, .ref (oad E c1)), (2, .int x2)] []) := by
    intro n
    induction n using Nat.strongRecOn with
    | _ n ih =>
      skip
      · intro t x2  iv0 hmu
        have rx2 := n_rng x2
        refine r_iload_n C (j := 2) (oDec_at oX4_copyFrom 4 rfl) rfl rfl ?_
        refine r_aload_n C (j := 1) (oDec_at oX4_copyFrom 5 rfl) rfl rfl ?_
        obtain ⟨v1, ev1⟩ : ∃ z : Int32, (t).1 c1 4 = z := ⟨_, rfl⟩
        have gv1 : (t.1 c1 4).toInt = v1.toInt := congrArg Int32.toInt (ev1)
        refine r_geti (k := 4) (lo := 0) (hi := 24) C v1 oCl4 hk1 (by decide) flX4_28 rfl rfl (ev1) rfl rfl (oDec_at oX4_copyFrom 6 rfl) (fun b2 b2h => ?_)
        refine r_icmp_ge C 35 (oDec_at oX4_copyFrom 7 rfl) (by decide) (fun cd3 => ?_) (fun cd3 => ?_)
        · skip
          exact r_vret C (oDec_at oX4_copyFrom 19 rfl) ⟨rfl, trivial⟩
        · skip
          refine r_aload_n C (j := 0) (oDec_at oX4_copyFrom 8 rfl) rfl rfl ?_
          refine r_aload_n C (j := 1) (oDec_at oX4_copyFrom 9 rfl) rfl rfl ?_
          refine r_iload_n C (j := 2) (oDec_at oX4_copyFrom 10 rfl) rfl rfl ?_
          refine r_callVi C oCl4 hk1 miX4_stepOf mlX4_41 (ct_X4_stepOf l E (t) c1 hk1 x2 ) (by decide) rfl rfl rfl (Nat.le_of_ble_eq_true rfl) (oDec_at oX4_copyFrom 11 rfl) (fun r5 u4 pu4 fu4 => ?_)
          try dsimp only at pu4
          have rr5 := n_rng r5
          refine r_aload_n C (j := 1) (oDec_at oX4_copyFrom 12 rfl) rfl rfl ?_
          refine r_iload_n C (j := 2) (oDec_at oX4_copyFrom 13 rfl) rfl rfl ?_
          refine r_pc C 22 rfl ?_
          refine r_callVi C oCl4 hk1 miX4_lengthOf mlX4_45 (ct_X4_lengthOf l E (u4) c1 hk1 x2 ) (by decide) rfl rfl rfl (Nat.le_of_ble_eq_true rfl) (oDec_at oX4_copyFrom 14 rfl) (fun r7 u6 pu6 fu6 => ?_)
          try dsimp only at pu6
          have rr7 := n_rng r7
          have lk8 : ((u6).1 c0 4).toInt = (t.1 c0 4).toInt := congrArg Int32.toInt (((fu6 c0 4 (by rw [hk0]; rfl)).1).trans ((fu4 c0 4 (by rw [hk0]; rfl)).1))
          have lk9 : ((u6).1 c0 5).toInt = (t.1 c0 5).toInt := congrArg Int32.toInt (((fu6 c0 5 (by rw [hk0]; rfl)).1).trans ((fu4 c0 5 (by rw [hk0]; rfl)).1))
          refine r_callVi C oCl4 hk0 miX4_add mlX4_48 (ct_X4_add l E (u6) c0 hk0 r5 r7 ) (by decide) rfl rfl rfl (Nat.le_of_ble_eq_true rfl) (oDec_at oX4_copyFrom 15 rfl) (fun r11 u10 pu10 fu10 => ?_)
          try dsimp only at pu10
          have rr11 := n_rng r11
          refine r_pop C (oDec_at oX4_copyFrom 16 rfl) rfl ?_
          obtain ⟨v12, ev12⟩ : ∃ z : Int32, x2 + Int32.ofInt 1 = z := ⟨_, rfl⟩
          have hv12 : v12.toInt = x2.toInt + 1 := n_inc ev12 (by decide) (by omega) (by omega)
          refine r_iinc C (j := 2) (lv' := [(0, .ref (oad E c0)), (1, .ref (oad E c1)), (2, .int v12)]) v12 [1, 2, 0] (oDec_at oX4_copyFrom 17 rfl) rfl ev12 (by decide) rfl ?_
          refine r_goto C (tgt := 6) (oDec_at oX4_copyFrom 18 rfl) (by decide) ?_
          exact (ih (n - 1) (by omega)) (u10) v12  (by omega) (by omega)
  refine r_aload_n C (j := 0) (oDec_at oX4_copyFrom 0 rfl) rfl rfl ?_
  refine r_callVv C oCl4 hk0 miX4_clear mlX4_38 (ct_X4_clear l E (s) c0 hk0 ) (by decide) rfl rfl rfl (Nat.le_of_ble_eq_true rfl) (oDec_at oX4_copyFrom 1 rfl) (fun u13 pu13 fu13 => ?_)
  try dsimp only at pu13
  refine r_iconst C (oDec_at oX4_copyFrom 2 rfl) (v := k0) (by rw [qk0]; rfl) ?_
  refine r_istore_n C (lv' := [(0, .ref (oad E c0)), (1, .ref (oad E c1)), (2, .int k0)]) [1, 2, 0] (oDec_at oX4_copyFrom 3 rfl) rfl (by decide) rfl ?_
  exact (key (25 - k0.toInt).toNat) (u13) k0  (by omega) (by omega)
set_option maxHeartbeats 4000000 in
set_option maxRecDepth 100000 in
theorem ct_X4_fillMade (l : Launch) (E : oE) (s : oS) (c0 : Nat) (hk0 : okd c0 = 4) (a1 : Int32) (a2 : Int32)  : oMet l 4 yX4_fillMade cX4_fillMade 5 (some .boolean) [(4, 6), (16, 9999)] E s [.ref (oad E c0), .int a1, .int a2] (oPi (fun r u => (0 ≤ r.toInt ∧ r.toInt ≤ 1))) := by
  refine oMet.of (lv := [(0, .ref (oad E c0)), (1, .int a1), (2, .int a2)]) (by decide +kernel) (Nat.le_of_ble_eq_true rfl) rfl (fun J C hT => ?_)
  have C : oC l 4 cX4_fillMade RX4 5 (some .boolean) [(4, 6), (16, 9999)] E s (oPi (fun r u => (0 ≤ r.toInt ∧ r.toInt ≤ 1))) J := C
  obtain ⟨k0, qk0⟩ : ∃ z : Int32, z = 0 := ⟨_, rfl⟩
  have ek0 : k0.toInt = 0 := by rw [qk0]; rfl
  obtain ⟨k1, qk1⟩ : ∃ z : Int32, z = 1 := ⟨_, rfl⟩
  have ek1 : k1.toInt = 1 := by rw [qk1]; rfl
  have rg1 := n_rng a1
  have rg2 := n_rng a2
  have key : ∀ n : Nat, (∀ (t : oS) (x3 : Int32), 2147483648 - x3.toInt ≤ (n : Int) → J t 2 [(0, .ref (oad E c0)), (2, .int a2), (3, .int x3)] []) := by
    intro n
    induction n using Nat.strongRecOn with
    | _ n ih =>
      skip
      · intro t x3   hmu
        have rx3 := n_rng x3
        refine r_iload_n C (j := 2) (oDec_at oX4_fillMade 2 rfl) rfl rfl ?_
        refine r_aload_n C (j := 0) (oDec_at oX4_fillMade 3 rfl) rfl rfl ?_
        obtain ⟨v1, ev1⟩ : ∃ z : Int32, (t).1 c0 4 = z := ⟨_, rfl⟩
        have gv1 : (t.1 c0 4).toInt = v1.toInt := congrArg Int32.toInt (ev1)
        refine r_geti (k := 4) (lo := 0) (hi := 24) C v1 oCl4 hk0 (by decide) flX4_28 rfl rfl (ev1) rfl rfl (oDec_at oX4_fillMade 4 rfl) (fun b2 b2h => ?_)
        refine r_icmp_ge C 52 (oDec_at oX4_fillMade 5 rfl) (by decide) (fun cd3 => ?_) (fun cd3 => ?_)
        · skip
          refine r_iconst C (oDec_at oX4_fillMade 29 rfl) (v := k1) (by rw [qk1]; rfl) ?_
          exact r_zret C (n_bool (by omega)) (oDec_at oX4_fillMade 30 rfl) ⟨_, rfl, by omega⟩
        · skip
          refine r_iload_n C (j := 2) (oDec_at oX4_fillMade 6 rfl) rfl rfl ?_
          refine r_if_le C 28 (oDec_at oX4_fillMade 7 rfl) (by decide) (fun cd4 => ?_) (fun cd4 => ?_)
          · skip
            refine r_iconst C (oDec_at oX4_fillMade 16 rfl) (v := k0) (by rw [qk0]; rfl) ?_
            refine r_istore C (lv' := [(0, .ref (oad E c0)), (2, .int a2), (3, .int x3), (4, .int k0)]) [1, 2, 3, 0] (oDec_at oX4_fillMade 17 rfl) (by decide) rfl ?_
            refine r_iload C (j := 3) (oDec_at oX4_fillMade 18 rfl) rfl ?_
            refine r_iload_n C (j := 1) (oDec_at oX4_fillMade 19 rfl) rfl rfl ?_
            refine r_icmp_le C 39 (oDec_at oX4_fillMade 20 rfl) (by decide) (fun cd5 => ?_) (fun cd5 => ?_)
            · skip
              refine r_aload_n C (j := 0) (oDec_at oX4_fillMade 23 rfl) rfl rfl ?_
              refine r_iload_n C (j := 2) (oDec_at oX4_fillMade 24 rfl) rfl rfl ?_
              refine r_iload C (j := 3) (oDec_at oX4_fillMade 25 rfl) rfl ?_
              refine r_callVv C oCl4 hk0 miX4_setStep mlX4_59 (ct_X4_setStep l E (t) c0 hk0 x3 k0 ) (by decide) rfl rfl rfl (Nat.le_of_ble_eq_true rfl) (oDec_at oX4_fillMade 26 rfl) (fun u6 pu6 fu6 => ?_)
              try dsimp only at pu6
              obtain ⟨v8, ev8⟩ : ∃ z : Int32, x3 + Int32.ofInt 1 = z := ⟨_, rfl⟩
              have hv8 : v8.toInt = x3.toInt + 1 := n_inc ev8 (by decide) (by omega) (by omega)
              refine r_iinc C (j := 2) (lv' := [(0, .ref (oad E c0)), (2, .int a2), (3, .int v8), (4, .int k0)]) v8 [1, 2, 0, 3] (oDec_at oX4_fillMade 27 rfl) rfl ev8 (by decide) rfl ?_
              refine r_goto C (tgt := 2) (oDec_at oX4_fillMade 28 rfl) (by decide) ?_
              refine r_pick C [0, 1, 2] rfl ?_
              exact (ih (n - 1) (by omega)) (u6) v8   (by omega)
            · skip
              refine r_iconst C (oDec_at oX4_fillMade 21 rfl) (v := k0) (by rw [qk0]; rfl) ?_
              exact r_zret C (n_bool (by omega)) (oDec_at oX4_fillMade 22 rfl) ⟨_, rfl, by omega⟩
          · skip
            refine r_aload_n C (j := 0) (oDec_at oX4_fillMade 8 rfl) rfl rfl ?_
            refine r_iload_n C (j := 2) (oDec_at oX4_fillMade 9 rfl) rfl rfl ?_
            refine r_iconst C (oDec_at oX4_fillMade 10 rfl) (v := k1) (by rw [qk1]; rfl) ?_
            obtain ⟨v9, ev9⟩ : ∃ z : Int32, z = x3 - k1 := ⟨_, rfl⟩
            have rv9 := n_rng v9
            refine r_isub C v9 (oDec_at oX4_fillMade 11 rfl) ev9 ?_
            refine r_callVi C oCl4 hk0 miX4_stepOf mlX4_41 (ct_X4_stepOf l E (t) c0 hk0 v9 ) (by decide) rfl rfl rfl (Nat.le_of_ble_eq_true rfl) (oDec_at oX4_fillMade 12 rfl) (fun r11 u10 pu10 fu10 => ?_)
            try dsimp only at pu10
            have rr11 := n_rng r11
            refine r_if_ne C 28 (oDec_at oX4_fillMade 13 rfl) (by decide) (fun cd12 => ?_) (fun cd12 => ?_)
            · skip
              refine r_iconst C (oDec_at oX4_fillMade 16 rfl) (v := k0) (by rw [qk0]; rfl) ?_
              refine r_istore C (lv' := [(0, .ref (oad E c0)), (2, .int a2), (3, .int x3), (4, .int k0)]) [1, 2, 3, 0] (oDec_at oX4_fillMade 17 rfl) (by decide) rfl ?_
              refine r_iload C (j := 3) (oDec_at oX4_fillMade 18 rfl) rfl ?_
              refine r_iload_n C (j := 1) (oDec_at oX4_fillMade 19 rfl) rfl rfl ?_
              refine r_icmp_le C 39 (oDec_at oX4_fillMade 20 rfl) (by decide) (fun cd13 => ?_) (fun cd13 => ?_)
              · skip
                refine r_aload_n C (j := 0) (oDec_at oX4_fillMade 23 rfl) rfl rfl ?_
                refine r_iload_n C (j := 2) (oDec_at oX4_fillMade 24 rfl) rfl rfl ?_
                refine r_iload C (j := 3) (oDec_at oX4_fillMade 25 rfl) rfl ?_
                refine r_callVv C oCl4 hk0 miX4_setStep mlX4_59 (ct_X4_setStep l E (u10) c0 hk0 x3 k0 ) (by decide) rfl rfl rfl (Nat.le_of_ble_eq_true rfl) (oDec_at oX4_fillMade 26 rfl) (fun u14 pu14 fu14 => ?_)
                try dsimp only at pu14
                obtain ⟨v16, ev16⟩ : ∃ z : Int32, x3 + Int32.ofInt 1 = z := ⟨_, rfl⟩
                have hv16 : v16.toInt = x3.toInt + 1 := n_inc ev16 (by decide) (by omega) (by omega)
                refine r_iinc C (j := 2) (lv' := [(0, .ref (oad E c0)), (2, .int a2), (3, .int v16), (4, .int k0)]) v16 [1, 2, 0, 3] (oDec_at oX4_fillMade 27 rfl) rfl ev16 (by decide) rfl ?_
                refine r_goto C (tgt := 2) (oDec_at oX4_fillMade 28 rfl) (by decide) ?_
                refine r_pick C [0, 1, 2] rfl ?_
                exact (ih (n - 1) (by omega)) (u14) v16   (by omega)
              · skip
                refine r_iconst C (oDec_at oX4_fillMade 21 rfl) (v := k0) (by rw [qk0]; rfl) ?_
                exact r_zret C (n_bool (by omega)) (oDec_at oX4_fillMade 22 rfl) ⟨_, rfl, by omega⟩
            · skip
              refine r_iconst C (oDec_at oX4_fillMade 14 rfl) (v := k1) (by rw [qk1]; rfl) ?_
              refine r_goto C (tgt := 29) (oDec_at oX4_fillMade 15 rfl) (by decide) ?_
              refine r_istore C (lv' := [(0, .ref (oad E c0)), (2, .int a2), (3, .int x3), (4, .int k1)]) [1, 2, 3, 0] (oDec_at oX4_fillMade 17 rfl) (by decide) rfl ?_
              refine r_iload C (j := 3) (oDec_at oX4_fillMade 18 rfl) rfl ?_
              refine r_iload_n C (j := 1) (oDec_at oX4_fillMade 19 rfl) rfl rfl ?_
              refine r_icmp_le C 39 (oDec_at oX4_fillMade 20 rfl) (by decide) (fun cd17 => ?_) (fun cd17 => ?_)
              · skip
                refine r_aload_n C (j := 0) (oDec_at oX4_fillMade 23 rfl) rfl rfl ?_
                refine r_iload_n C (j := 2) (oDec_at oX4_fillMade 24 rfl) rfl rfl ?_
                refine r_iload C (j := 3) (oDec_at oX4_fillMade 25 rfl) rfl ?_
                refine r_callVv C oCl4 hk0 miX4_setStep mlX4_59 (ct_X4_setStep l E (u10) c0 hk0 x3 k1 ) (by decide) rfl rfl rfl (Nat.le_of_ble_eq_true rfl) (oDec_at oX4_fillMade 26 rfl) (fun u18 pu18 fu18 => ?_)
                try dsimp only at pu18
                obtain ⟨v20, ev20⟩ : ∃ z : Int32, x3 + Int32.ofInt 1 = z := ⟨_, rfl⟩
                have hv20 : v20.toInt = x3.toInt + 1 := n_inc ev20 (by decide) (by omega) (by omega)
                refine r_iinc C (j := 2) (lv' := [(0, .ref (oad E c0)), (2, .int a2), (3, .int v20), (4, .int k1)]) v20 [1, 2, 0, 3] (oDec_at oX4_fillMade 27 rfl) rfl ev20 (by decide) rfl ?_
                refine r_goto C (tgt := 2) (oDec_at oX4_fillMade 28 rfl) (by decide) ?_
                refine r_pick C [0, 1, 2] rfl ?_
                exact (ih (n - 1) (by omega)) (u18) v20   (by omega)
              · skip
                refine r_iconst C (oDec_at oX4_fillMade 21 rfl) (v := k0) (by rw [qk0]; rfl) ?_
                exact r_zret C (n_bool (by omega)) (oDec_at oX4_fillMade 22 rfl) ⟨_, rfl, by omega⟩
  refine r_iload_n C (j := 1) (oDec_at oX4_fillMade 0 rfl) rfl rfl ?_
  refine r_istore_n C (lv' := [(0, .ref (oad E c0)), (1, .int a1), (2, .int a2), (3, .int a1)]) [1, 2, 3, 0] (oDec_at oX4_fillMade 1 rfl) rfl (by decide) rfl ?_
  refine r_pick C [0, 2, 3] rfl ?_
  exact (key (2147483648 - a1.toInt).toNat) (s) a1   (by omega)
set_option maxHeartbeats 4000000 in
set_option maxRecDepth 100000 in
theorem ct_X4_beginMade (l : Launch) (E : oE) (s : oS) (c0 : Nat) (hk0 : okd c0 = 4) (a1 : Int32) (a2 : Int32)  : oMet l 5 yX4_beginMade cX4_beginMade 4 (some .boolean) [(4, 4), (4, 5), (4, 6), (4, 7), (16, 9999), (17, 9999), (18, 9999), (19, 9999)] E s [.ref (oad E c0), .int a1, .int a2] (oPi (fun r u => (0 ≤ r.toInt ∧ r.toInt ≤ 1))) := by
  refine oMet.of (lv := [(0, .ref (oad E c0)), (1, .int a1), (2, .int a2)]) (by decide +kernel) (Nat.le_of_ble_eq_true rfl) rfl (fun J C hT => ?_)
  have C : oC l 5 cX4_beginMade RX4 4 (some .boolean) [(4, 4), (4, 5), (4, 6), (4, 7), (16, 9999), (17, 9999), (18, 9999), (19, 9999)] E s (oPi (fun r u => (0 ≤ r.toInt ∧ r.toInt ≤ 1))) J := C
  obtain ⟨k0, qk0⟩ : ∃ z : Int32, z = 0 := ⟨_, rfl⟩
  have ek0 : k0.toInt = 0 := by rw [qk0]; rfl
  obtain ⟨k2, qk2⟩ : ∃ z : Int32, z = 2 := ⟨_, rfl⟩
  have ek2 : k2.toInt = 2 := by rw [qk2]; rfl
  have rg1 := n_rng a1
  have rg2 := n_rng a2
  have key : ∀ n : Nat, (∀ (t : oS) (x3 : Int32), (0 ≤ x3.toInt) → 2147483648 - x3.toInt ≤ (n : Int) → J t 6 [(0, .ref (oad E c0)), (1, .int a1), (2, .int a2), (3, .int x3)] []) := by
    intro n
    induction n using Nat.strongRecOn with
    | _ n ih =>
      skip
      · intro t x3  iv0 hmu
        have rx3 := n_rng x3
        refine r_iload_n C (j := 3) (oDec_at oX4_beginMade 4 rfl) rfl rfl ?_
        refine r_iload_n C (j := 1) (oDec_at oX4_beginMade 5 rfl) rfl rfl ?_
        refine r_icmp_ge C 24 (oDec_at oX4_beginMade 6 rfl) (by decide) (fun cd1 => ?_) (fun cd1 => ?_)
        · skip
          refine r_aload_n C (j := 0) (oDec_at oX4_beginMade 14 rfl) rfl rfl ?_
          refine r_iconst C (oDec_at oX4_beginMade 15 rfl) (v := k0) (by rw [qk0]; rfl) ?_
          refine r_iload_n C (j := 2) (oDec_at oX4_beginMade 16 rfl) rfl rfl ?_
          refine r_callVi C oCl4 hk0 miX4_fillMade mlX4_56 (ct_X4_fillMade l E (t) c0 hk0 k0 a2 ) (by decide) rfl rfl rfl (Nat.le_of_ble_eq_true rfl) (oDec_at oX4_beginMade 17 rfl) (fun r3 u2 pu2 fu2 => ?_)
          try dsimp only at pu2
          have rr3 := n_rng r3
          exact r_zret C (n_bool (by omega)) (oDec_at oX4_beginMade 18 rfl) ⟨_, rfl, by omega⟩
        · skip
          refine r_aload_n C (j := 0) (oDec_at oX4_beginMade 7 rfl) rfl rfl ?_
          refine r_iconst C (oDec_at oX4_beginMade 8 rfl) (v := k0) (by rw [qk0]; rfl) ?_
          refine r_iconst C (oDec_at oX4_beginMade 9 rfl) (v := k2) (by rw [qk2]; rfl) ?_
          refine r_callVi C oCl4 hk0 miX4_add mlX4_48 (ct_X4_add l E (t) c0 hk0 k0 k2 ) (by decide) rfl rfl rfl (Nat.le_of_ble_eq_true rfl) (oDec_at oX4_beginMade 10 rfl) (fun r5 u4 pu4 fu4 => ?_)
          try dsimp only at pu4
          have rr5 := n_rng r5
          refine r_pop C (oDec_at oX4_beginMade 11 rfl) rfl ?_
          obtain ⟨v6, ev6⟩ : ∃ z : Int32, x3 + Int32.ofInt 1 = z := ⟨_, rfl⟩
          have hv6 : v6.toInt = x3.toInt + 1 := n_inc ev6 (by decide) (by omega) (by omega)
          refine r_iinc C (j := 3) (lv' := [(0, .ref (oad E c0)), (1, .int a1), (2, .int a2), (3, .int v6)]) v6 [1, 2, 3, 0] (oDec_at oX4_beginMade 12 rfl) rfl ev6 (by decide) rfl ?_
          refine r_pc C 21 rfl ?_
          refine r_goto C (tgt := 6) (oDec_at oX4_beginMade 13 rfl) (by decide) ?_
          exact (ih (n - 1) (by omega)) (u4) v6  (by omega) (by omega)
  refine r_aload_n C (j := 0) (oDec_at oX4_beginMade 0 rfl) rfl rfl ?_
  refine r_callVv C oCl4 hk0 miX4_clear mlX4_38 (ct_X4_clear l E (s) c0 hk0 ) (by decide) rfl rfl rfl (Nat.le_of_ble_eq_true rfl) (oDec_at oX4_beginMade 1 rfl) (fun u7 pu7 fu7 => ?_)
  try dsimp only at pu7
  refine r_iconst C (oDec_at oX4_beginMade 2 rfl) (v := k0) (by rw [qk0]; rfl) ?_
  refine r_istore_n C (lv' := [(0, .ref (oad E c0)), (1, .int a1), (2, .int a2), (3, .int k0)]) [1, 2, 3, 0] (oDec_at oX4_beginMade 3 rfl) rfl (by decide) rfl ?_
  exact (key (2147483648 - k0.toInt).toNat) (u7) k0  (by omega) (by omega)
set_option maxHeartbeats 4000000 in
set_option maxRecDepth 100000 in
theorem ct_X4_advanceMade (l : Launch) (E : oE) (s : oS) (c0 : Nat) (hk0 : okd c0 = 4) (a1 : Int32)  : oMet l 5 yX4_advanceMade cX4_advanceMade 4 (some .boolean) [(4, 6), (16, 9999)] E s [.ref (oad E c0), .int a1] (oPi (fun r u => (0 ≤ r.toInt ∧ r.toInt ≤ 1))) := by
  refine oMet.of (lv := [(0, .ref (oad E c0)), (1, .int a1)]) (by decide +kernel) (Nat.le_of_ble_eq_true rfl) rfl (fun J C hT => ?_)
  have C : oC l 5 cX4_advanceMade RX4 4 (some .boolean) [(4, 6), (16, 9999)] E s (oPi (fun r u => (0 ≤ r.toInt ∧ r.toInt ≤ 1))) J := C
  obtain ⟨k0, qk0⟩ : ∃ z : Int32, z = 0 := ⟨_, rfl⟩
  have ek0 : k0.toInt = 0 := by rw [qk0]; rfl
  obtain ⟨k1, qk1⟩ : ∃ z : Int32, z = 1 := ⟨_, rfl⟩
  have ek1 : k1.toInt = 1 := by rw [qk1]; rfl
  have rg1 := n_rng a1
  have key : ∀ n : Nat, (∀ (t : oS) (x2 : Int32), (-1 ≤ x2.toInt ∧ x2.toInt ≤ 23) → x2.toInt + 2 ≤ (n : Int) → J t 7 [(0, .ref (oad E c0)), (1, .int a1), (2, .int x2)] []) := by
    intro n
    induction n using Nat.strongRecOn with
    | _ n ih =>
      skip
      · intro t x2  iv0 hmu
        have rx2 := n_rng x2
        refine r_iload_n C (j := 2) (oDec_at oX4_advanceMade 5 rfl) rfl rfl ?_
        refine r_if_lt C 63 (oDec_at oX4_advanceMade 6 rfl) (by decide) (fun cd1 => ?_) (fun cd1 => ?_)
        · skip
          refine r_iconst C (oDec_at oX4_advanceMade 39 rfl) (v := k0) (by rw [qk0]; rfl) ?_
          exact r_zret C (n_bool (by omega)) (oDec_at oX4_advanceMade 40 rfl) ⟨_, rfl, by omega⟩
        · skip
          refine r_aload_n C (j := 0) (oDec_at oX4_advanceMade 7 rfl) rfl rfl ?_
          refine r_iload_n C (j := 2) (oDec_at oX4_advanceMade 8 rfl) rfl rfl ?_
          refine r_callVi C oCl4 hk0 miX4_stepOf mlX4_41 (ct_X4_stepOf l E (t) c0 hk0 x2 ) (by decide) rfl rfl rfl (Nat.le_of_ble_eq_true rfl) (oDec_at oX4_advanceMade 9 rfl) (fun r3 u2 pu2 fu2 => ?_)
          try dsimp only at pu2
          have rr3 := n_rng r3
          refine r_iconst C (oDec_at oX4_advanceMade 10 rfl) (v := k1) (by rw [qk1]; rfl) ?_
          obtain ⟨v4, ev4⟩ : ∃ z : Int32, z = r3 + k1 := ⟨_, rfl⟩
          have rv4 := n_rng v4
          refine r_iadd C v4 (oDec_at oX4_advanceMade 11 rfl) ev4 ?_
          refine r_istore_n C (lv' := [(0, .ref (oad E c0)), (1, .int a1), (2, .int x2), (3, .int v4)]) [1, 2, 3, 0] (oDec_at oX4_advanceMade 12 rfl) rfl (by decide) rfl ?_
          refine r_pc C 19 rfl ?_
          refine r_iload_n C (j := 2) (oDec_at oX4_advanceMade 13 rfl) rfl rfl ?_
          refine r_if_le C 37 (oDec_at oX4_advanceMade 14 rfl) (by decide) (fun cd5 => ?_) (fun cd5 => ?_)
          · skip
            refine r_iload_n C (j := 3) (oDec_at oX4_advanceMade 23 rfl) rfl rfl ?_
            refine r_iload_n C (j := 1) (oDec_at oX4_advanceMade 24 rfl) rfl rfl ?_
            refine r_icmp_gt C 57 (oDec_at oX4_advanceMade 25 rfl) (by decide) (fun cd6 => ?_) (fun cd6 => ?_)
            · skip
              obtain ⟨v7, ev7⟩ : ∃ z : Int32, x2 + Int32.ofInt (-1) = z := ⟨_, rfl⟩
              have hv7 : v7.toInt = x2.toInt + (-1) := n_inc ev7 (by decide) (by omega) (by omega)
              refine r_iinc C (j := 2) (lv' := [(0, .ref (oad E c0)), (1, .int a1), (2, .int v7), (3, .int v4)]) v7 [1, 2, 0, 3] (oDec_at oX4_advanceMade 37 rfl) rfl ev7 (by decide) rfl ?_
              refine r_goto C (tgt := 7) (oDec_at oX4_advanceMade 38 rfl) (by decide) ?_
              refine r_pick C [0, 1, 2] rfl ?_
              exact (ih (n - 1) (by omega)) (u2) v7  (by omega) (by omega)
            · skip
              refine r_aload_n C (j := 0) (oDec_at oX4_advanceMade 26 rfl) rfl rfl ?_
              refine r_iload_n C (j := 2) (oDec_at oX4_advanceMade 27 rfl) rfl rfl ?_
              refine r_iload_n C (j := 3) (oDec_at oX4_advanceMade 28 rfl) rfl rfl ?_
              refine r_callVv C oCl4 hk0 miX4_setStep mlX4_59 (ct_X4_setStep l E (u2) c0 hk0 x2 v4 ) (by decide) rfl rfl rfl (Nat.le_of_ble_eq_true rfl) (oDec_at oX4_advanceMade 29 rfl) (fun u8 pu8 fu8 => ?_)
              try dsimp only at pu8
              refine r_aload_n C (j := 0) (oDec_at oX4_advanceMade 30 rfl) rfl rfl ?_
              refine r_iload_n C (j := 2) (oDec_at oX4_advanceMade 31 rfl) rfl rfl ?_
              refine r_pc C 50 rfl ?_
              refine r_iconst C (oDec_at oX4_advanceMade 32 rfl) (v := k1) (by rw [qk1]; rfl) ?_
              obtain ⟨v10, ev10⟩ : ∃ z : Int32, z = x2 + k1 := ⟨_, rfl⟩
              have hv10 : v10.toInt = x2.toInt + k1.toInt := n_add ev10 (by omega) (by omega)
              refine r_iadd C v10 (oDec_at oX4_advanceMade 33 rfl) ev10 ?_
              refine r_iload_n C (j := 1) (oDec_at oX4_advanceMade 34 rfl) rfl rfl ?_
              refine r_callVi C oCl4 hk0 miX4_fillMade mlX4_56 (ct_X4_fillMade l E (u8) c0 hk0 v10 a1 ) (by decide) rfl rfl rfl (Nat.le_of_ble_eq_true rfl) (oDec_at oX4_advanceMade 35 rfl) (fun r12 u11 pu11 fu11 => ?_)
              try dsimp only at pu11
              have rr12 := n_rng r12
              exact r_zret C (n_bool (by omega)) (oDec_at oX4_advanceMade 36 rfl) ⟨_, rfl, by omega⟩
          · skip
            refine r_iload_n C (j := 3) (oDec_at oX4_advanceMade 15 rfl) rfl rfl ?_
            refine r_aload_n C (j := 0) (oDec_at oX4_advanceMade 16 rfl) rfl rfl ?_
            refine r_iload_n C (j := 2) (oDec_at oX4_advanceMade 17 rfl) rfl rfl ?_
            refine r_iconst C (oDec_at oX4_advanceMade 18 rfl) (v := k1) (by rw [qk1]; rfl) ?_
            obtain ⟨v13, ev13⟩ : ∃ z : Int32, z = x2 - k1 := ⟨_, rfl⟩
            have hv13 : v13.toInt = x2.toInt - k1.toInt := n_sub ev13 (by omega) (by omega)
            refine r_isub C v13 (oDec_at oX4_advanceMade 19 rfl) ev13 ?_
            refine r_callVi C oCl4 hk0 miX4_stepOf mlX4_41 (ct_X4_stepOf l E (u2) c0 hk0 v13 ) (by decide) rfl rfl rfl (Nat.le_of_ble_eq_true rfl) (oDec_at oX4_advanceMade 20 rfl) (fun r15 u14 pu14 fu14 => ?_)
            try dsimp only at pu14
            have rr15 := n_rng r15
            refine r_pc C 31 rfl ?_
            refine r_icmp_ne C 37 (oDec_at oX4_advanceMade 21 rfl) (by decide) (fun cd16 => ?_) (fun cd16 => ?_)
            · skip
              refine r_iload_n C (j := 3) (oDec_at oX4_advanceMade 23 rfl) rfl rfl ?_
              refine r_iload_n C (j := 1) (oDec_at oX4_advanceMade 24 rfl) rfl rfl ?_
              refine r_icmp_gt C 57 (oDec_at oX4_advanceMade 25 rfl) (by decide) (fun cd17 => ?_) (fun cd17 => ?_)
              · skip
                obtain ⟨v18, ev18⟩ : ∃ z : Int32, x2 + Int32.ofInt (-1) = z := ⟨_, rfl⟩
                have hv18 : v18.toInt = x2.toInt + (-1) := n_inc ev18 (by decide) (by omega) (by omega)
                refine r_iinc C (j := 2) (lv' := [(0, .ref (oad E c0)), (1, .int a1), (2, .int v18), (3, .int v4)]) v18 [1, 2, 0, 3] (oDec_at oX4_advanceMade 37 rfl) rfl ev18 (by decide) rfl ?_
                refine r_goto C (tgt := 7) (oDec_at oX4_advanceMade 38 rfl) (by decide) ?_
                refine r_pick C [0, 1, 2] rfl ?_
                exact (ih (n - 1) (by omega)) (u14) v18  (by omega) (by omega)
              · skip
                refine r_aload_n C (j := 0) (oDec_at oX4_advanceMade 26 rfl) rfl rfl ?_
                refine r_iload_n C (j := 2) (oDec_at oX4_advanceMade 27 rfl) rfl rfl ?_
                refine r_iload_n C (j := 3) (oDec_at oX4_advanceMade 28 rfl) rfl rfl ?_
                refine r_callVv C oCl4 hk0 miX4_setStep mlX4_59 (ct_X4_setStep l E (u14) c0 hk0 x2 v4 ) (by decide) rfl rfl rfl (Nat.le_of_ble_eq_true rfl) (oDec_at oX4_advanceMade 29 rfl) (fun u19 pu19 fu19 => ?_)
                try dsimp only at pu19
                refine r_aload_n C (j := 0) (oDec_at oX4_advanceMade 30 rfl) rfl rfl ?_
                refine r_iload_n C (j := 2) (oDec_at oX4_advanceMade 31 rfl) rfl rfl ?_
                refine r_pc C 50 rfl ?_
                refine r_iconst C (oDec_at oX4_advanceMade 32 rfl) (v := k1) (by rw [qk1]; rfl) ?_
                obtain ⟨v21, ev21⟩ : ∃ z : Int32, z = x2 + k1 := ⟨_, rfl⟩
                have hv21 : v21.toInt = x2.toInt + k1.toInt := n_add ev21 (by omega) (by omega)
                refine r_iadd C v21 (oDec_at oX4_advanceMade 33 rfl) ev21 ?_
                refine r_iload_n C (j := 1) (oDec_at oX4_advanceMade 34 rfl) rfl rfl ?_
                refine r_callVi C oCl4 hk0 miX4_fillMade mlX4_56 (ct_X4_fillMade l E (u19) c0 hk0 v21 a1 ) (by decide) rfl rfl rfl (Nat.le_of_ble_eq_true rfl) (oDec_at oX4_advanceMade 35 rfl) (fun r23 u22 pu22 fu22 => ?_)
                try dsimp only at pu22
                have rr23 := n_rng r23
                exact r_zret C (n_bool (by omega)) (oDec_at oX4_advanceMade 36 rfl) ⟨_, rfl, by omega⟩
            · skip
              obtain ⟨v24, ev24⟩ : ∃ z : Int32, v4 + Int32.ofInt 1 = z := ⟨_, rfl⟩
              refine r_iinc C (j := 3) (lv' := [(0, .ref (oad E c0)), (1, .int a1), (2, .int x2), (3, .int v24)]) v24 [1, 2, 3, 0] (oDec_at oX4_advanceMade 22 rfl) rfl ev24 (by decide) rfl ?_
              refine r_iload_n C (j := 3) (oDec_at oX4_advanceMade 23 rfl) rfl rfl ?_
              refine r_iload_n C (j := 1) (oDec_at oX4_advanceMade 24 rfl) rfl rfl ?_
              refine r_icmp_gt C 57 (oDec_at oX4_advanceMade 25 rfl) (by decide) (fun cd25 => ?_) (fun cd25 => ?_)
              · skip
                obtain ⟨v26, ev26⟩ : ∃ z : Int32, x2 + Int32.ofInt (-1) = z := ⟨_, rfl⟩
                have hv26 : v26.toInt = x2.toInt + (-1) := n_inc ev26 (by decide) (by omega) (by omega)
                refine r_iinc C (j := 2) (lv' := [(0, .ref (oad E c0)), (1, .int a1), (2, .int v26), (3, .int v24)]) v26 [1, 2, 0, 3] (oDec_at oX4_advanceMade 37 rfl) rfl ev26 (by decide) rfl ?_
                refine r_goto C (tgt := 7) (oDec_at oX4_advanceMade 38 rfl) (by decide) ?_
                refine r_pick C [0, 1, 2] rfl ?_
                exact (ih (n - 1) (by omega)) (u14) v26  (by omega) (by omega)
              · skip
                refine r_aload_n C (j := 0) (oDec_at oX4_advanceMade 26 rfl) rfl rfl ?_
                refine r_iload_n C (j := 2) (oDec_at oX4_advanceMade 27 rfl) rfl rfl ?_
                refine r_iload_n C (j := 3) (oDec_at oX4_advanceMade 28 rfl) rfl rfl ?_
                refine r_callVv C oCl4 hk0 miX4_setStep mlX4_59 (ct_X4_setStep l E (u14) c0 hk0 x2 v24 ) (by decide) rfl rfl rfl (Nat.le_of_ble_eq_true rfl) (oDec_at oX4_advanceMade 29 rfl) (fun u27 pu27 fu27 => ?_)
                try dsimp only at pu27
                refine r_aload_n C (j := 0) (oDec_at oX4_advanceMade 30 rfl) rfl rfl ?_
                refine r_iload_n C (j := 2) (oDec_at oX4_advanceMade 31 rfl) rfl rfl ?_
                refine r_pc C 50 rfl ?_
                refine r_iconst C (oDec_at oX4_advanceMade 32 rfl) (v := k1) (by rw [qk1]; rfl) ?_
                obtain ⟨v29, ev29⟩ : ∃ z : Int32, z = x2 + k1 := ⟨_, rfl⟩
                have hv29 : v29.toInt = x2.toInt + k1.toInt := n_add ev29 (by omega) (by omega)
                refine r_iadd C v29 (oDec_at oX4_advanceMade 33 rfl) ev29 ?_
                refine r_iload_n C (j := 1) (oDec_at oX4_advanceMade 34 rfl) rfl rfl ?_
                refine r_callVi C oCl4 hk0 miX4_fillMade mlX4_56 (ct_X4_fillMade l E (u27) c0 hk0 v29 a1 ) (by decide) rfl rfl rfl (Nat.le_of_ble_eq_true rfl) (oDec_at oX4_advanceMade 35 rfl) (fun r31 u30 pu30 fu30 => ?_)
                try dsimp only at pu30
                have rr31 := n_rng r31
                exact r_zret C (n_bool (by omega)) (oDec_at oX4_advanceMade 36 rfl) ⟨_, rfl, by omega⟩
  refine r_aload_n C (j := 0) (oDec_at oX4_advanceMade 0 rfl) rfl rfl ?_
  obtain ⟨v32, ev32⟩ : ∃ z : Int32, (s).1 c0 4 = z := ⟨_, rfl⟩
  have gv32 : (s.1 c0 4).toInt = v32.toInt := congrArg Int32.toInt (ev32)
  refine r_geti (k := 4) (lo := 0) (hi := 24) C v32 oCl4 hk0 (by decide) flX4_28 rfl rfl (ev32) rfl rfl (oDec_at oX4_advanceMade 1 rfl) (fun b33 b33h => ?_)
  refine r_iconst C (oDec_at oX4_advanceMade 2 rfl) (v := k1) (by rw [qk1]; rfl) ?_
  obtain ⟨v34, ev34⟩ : ∃ z : Int32, z = v32 - k1 := ⟨_, rfl⟩
  have hv34 : v34.toInt = v32.toInt - k1.toInt := n_sub ev34 (by omega) (by omega)
  refine r_isub C v34 (oDec_at oX4_advanceMade 3 rfl) ev34 ?_
  refine r_istore_n C (lv' := [(0, .ref (oad E c0)), (1, .int a1), (2, .int v34)]) [1, 2, 0] (oDec_at oX4_advanceMade 4 rfl) rfl (by decide) rfl ?_
  exact (key (v34.toInt + 2).toNat) (s) v34  (by omega) (by omega)
