set_option maxHeartbeats 4000000 in
set_option maxRecDepth 100000 in
theorem ct_X8_hasRoom (l : Launch) (E : oE) (s : oS) (a1 : Int32) (hp0 : 0 ≤ a1.toInt ∧ a1.toInt ≤ 2000) : oMet l 1 yX8_hasRoom cX8_hasRoom 2 (some .boolean) [] E s [.ref (oad E 1), .int a1] (oPi (fun r u => (0 ≤ r.toInt ∧ r.toInt ≤ 1) ∧ ((r.toInt = 1 ∧ (s.1 1 1).toInt + a1.toInt ≤ 1600) ∨ (r.toInt = 0 ∧ 1600 < (s.1 1 1).toInt + a1.toInt)))) := by
  refine oMet.of (lv := [(0, .ref (oad E 1)), (1, .int a1)]) (by decide +kernel) (Nat.le_of_ble_eq_true rfl) rfl (fun J C hT => ?_)
  have C : oC l 1 cX8_hasRoom RX8 2 (some .boolean) [] E s (oPi (fun r u => (0 ≤ r.toInt ∧ r.toInt ≤ 1) ∧ ((r.toInt = 1 ∧ (s.1 1 1).toInt + a1.toInt ≤ 1600) ∨ (r.toInt = 0 ∧ 1600 < (s.1 1 1).toInt + a1.toInt)))) J := C
  obtain ⟨k0, qk0⟩ : ∃ z : Int32, z = 0 := ⟨_, rfl⟩
  have ek0 : k0.toInt = 0 := by rw [qk0]; rfl
  obtain ⟨k1, qk1⟩ : ∃ z : Int32, z = 1 := ⟨_, rfl⟩
  have ek1 : k1.toInt = 1 := by rw [qk1]; rfl
  obtain ⟨k1600, qk1600⟩ : ∃ z : Int32, z = 1600 := ⟨_, rfl⟩
  have ek1600 : k1600.toInt = 1600 := by rw [qk1600]; rfl
  have rg1 := n_rng a1
  refine r_aload_n C (j := 0) (oDec_at oX8_hasRoom 0 rfl) rfl rfl ?_
  obtain ⟨v1, ev1⟩ : ∃ z : Int32, (s).1 1 1 = z := ⟨_, rfl⟩
  have gv1 : (s.1 1 1).toInt = v1.toInt := congrArg Int32.toInt (ev1)
  refine r_geti (k := 1) (lo := 0) (hi := 1600) C v1 oCl8 rfl (by decide) flX8_15 rfl rfl (ev1) rfl rfl (oDec_at oX8_hasRoom 1 rfl) (fun b2 b2h => ?_)
  refine r_iload_n C (j := 1) (oDec_at oX8_hasRoom 2 rfl) rfl rfl ?_
  obtain ⟨v3, ev3⟩ : ∃ z : Int32, z = v1 + a1 := ⟨_, rfl⟩
  have hv3 : v3.toInt = v1.toInt + a1.toInt := n_add ev3 (by omega) (by omega)
  refine r_iadd C v3 (oDec_at oX8_hasRoom 3 rfl) ev3 ?_
  refine r_sipush C (oDec_at oX8_hasRoom 4 rfl) (v := k1600) (by rw [qk1600]; rfl) ?_
  refine r_icmp_gt C 16 (oDec_at oX8_hasRoom 5 rfl) (by decide) (fun cd4 => ?_) (fun cd4 => ?_)
  · skip
    refine r_iconst C (oDec_at oX8_hasRoom 8 rfl) (v := k0) (by rw [qk0]; rfl) ?_
    exact r_zret C (n_bool (by omega)) (oDec_at oX8_hasRoom 9 rfl) ⟨_, rfl, ⟨by omega, by omega⟩⟩
  · skip
    refine r_iconst C (oDec_at oX8_hasRoom 6 rfl) (v := k1) (by rw [qk1]; rfl) ?_
    refine r_goto C (tgt := 17) (oDec_at oX8_hasRoom 7 rfl) (by decide) ?_
    exact r_zret C (n_bool (by omega)) (oDec_at oX8_hasRoom 9 rfl) ⟨_, rfl, ⟨by omega, by omega⟩⟩
set_option maxHeartbeats 4000000 in
set_option maxRecDepth 100000 in
theorem ct_X8_put (l : Launch) (E : oE) (s : oS) (a1 : Int32)  : oMet l 2 yX8_put cX8_put 3 none [(8, 1), (15, 9999)] E s [.ref (oad E 1), .int a1] (oPv (fun u => (((s.1 1 1).toInt + 4 ≤ 1600 ∧ (u.1 1 1).toInt = (s.1 1 1).toInt + 4) ∨ (1600 < (s.1 1 1).toInt + 4 ∧ (u.1 1 1).toInt = (s.1 1 1).toInt)))) := by
  refine oMet.of (lv := [(0, .ref (oad E 1)), (1, .int a1)]) (by decide +kernel) (Nat.le_of_ble_eq_true rfl) rfl (fun J C hT => ?_)
  have C : oC l 2 cX8_put RX8 3 none [(8, 1), (15, 9999)] E s (oPv (fun u => (((s.1 1 1).toInt + 4 ≤ 1600 ∧ (u.1 1 1).toInt = (s.1 1 1).toInt + 4) ∨ (1600 < (s.1 1 1).toInt + 4 ∧ (u.1 1 1).toInt = (s.1 1 1).toInt)))) J := C
  obtain ⟨k0, qk0⟩ : ∃ z : Int32, z = 0 := ⟨_, rfl⟩
  have ek0 : k0.toInt = 0 := by rw [qk0]; rfl
  obtain ⟨k1, qk1⟩ : ∃ z : Int32, z = 1 := ⟨_, rfl⟩
  have ek1 : k1.toInt = 1 := by rw [qk1]; rfl
  obtain ⟨k4, qk4⟩ : ∃ z : Int32, z = 4 := ⟨_, rfl⟩
  have ek4 : k4.toInt = 4 := by rw [qk4]; rfl
  obtain ⟨k8, qk8⟩ : ∃ z : Int32, z = 8 := ⟨_, rfl⟩
  have ek8 : k8.toInt = 8 := by rw [qk8]; rfl
  obtain ⟨k24, qk24⟩ : ∃ z : Int32, z = 24 := ⟨_, rfl⟩
  have ek24 : k24.toInt = 24 := by rw [qk24]; rfl
  obtain ⟨k255, qk255⟩ : ∃ z : Int32, z = 255 := ⟨_, rfl⟩
  have ek255 : k255.toInt = 255 := by rw [qk255]; rfl
  have rg1 := n_rng a1
  have key : ∀ n : Nat, (∀ (t : oS) (x2 : Int32), (0 ≤ x2.toInt ∧ x2.toInt ≤ 4) → ((t.1 1 1).toInt = (s.1 1 1).toInt + x2.toInt) → ((s.1 1 1).toInt + 4 ≤ 1600) → 5 - x2.toInt ≤ (n : Int) → J t 11 [(0, .ref (oad E 1)), (1, .int a1), (2, .int x2)] []) := by
    intro n
    induction n using Nat.strongRecOn with
    | _ n ih =>
      skip
      · intro t x2  iv0 iv1 iv2 hmu
        have rx2 := n_rng x2
        refine r_iload_n C (j := 2) (oDec_at oX8_put 7 rfl) rfl rfl ?_
        refine r_iconst C (oDec_at oX8_put 8 rfl) (v := k4) (by rw [qk4]; rfl) ?_
        refine r_icmp_ge C 54 (oDec_at oX8_put 9 rfl) (by decide) (fun cd1 => ?_) (fun cd1 => ?_)
        · skip
          exact r_vret C (oDec_at oX8_put 32 rfl) ⟨rfl, by omega⟩
        · skip
          refine r_aload_n C (j := 0) (oDec_at oX8_put 10 rfl) rfl rfl ?_
          refine r_getF (k := 0) (b := 2) C oCl8 rfl (by decide) flX8_11 rfl rfl rfl (oDec_at oX8_put 11 rfl) ?_
          refine r_aload_n C (j := 0) (oDec_at oX8_put 12 rfl) rfl rfl ?_
          obtain ⟨v2, ev2⟩ : ∃ z : Int32, (t).1 1 1 = z := ⟨_, rfl⟩
          have gv2 : (t.1 1 1).toInt = v2.toInt := congrArg Int32.toInt (ev2)
          refine r_geti (k := 1) (lo := 0) (hi := 1600) C v2 oCl8 rfl (by decide) flX8_15 rfl rfl (ev2) rfl rfl (oDec_at oX8_put 13 rfl) (fun b3 b3h => ?_)
          refine r_iload_n C (j := 1) (oDec_at oX8_put 14 rfl) rfl rfl ?_
          refine r_bipush C (oDec_at oX8_put 15 rfl) (v := k24) (by rw [qk24]; rfl) ?_
          refine r_pc C 27 rfl ?_
          refine r_bipush C (oDec_at oX8_put 16 rfl) (v := k8) (by rw [qk8]; rfl) ?_
          refine r_iload_n C (j := 2) (oDec_at oX8_put 17 rfl) rfl rfl ?_
          obtain ⟨v4, ev4⟩ : ∃ z : Int32, z = k8 * x2 := ⟨_, rfl⟩
          have hv4 : v4.toInt = 8 * x2.toInt := n_mulK' 8 ev4 ek8 (by omega) (by omega)
          refine r_imul C v4 (oDec_at oX8_put 18 rfl) ev4 ?_
          obtain ⟨v5, ev5⟩ : ∃ z : Int32, z = k24 - v4 := ⟨_, rfl⟩
          have hv5 : v5.toInt = k24.toInt - v4.toInt := n_sub ev5 (by omega) (by omega)
          refine r_isub C v5 (oDec_at oX8_put 19 rfl) ev5 ?_
          obtain ⟨v6, ev6⟩ : ∃ z : Int32, (a1.toUInt32 >>> (v5.toUInt32 &&& Int32.toUInt32 31)).toInt32 = z := ⟨_, rfl⟩
          have rv6 := n_rng v6
          refine r_iushr C v6 (oDec_at oX8_put 20 rfl) ev6 ?_
          refine r_sipush C (oDec_at oX8_put 21 rfl) (v := k255) (by rw [qk255]; rfl) ?_
          refine r_pc C 36 rfl ?_
          obtain ⟨v7, ev7⟩ : ∃ z : Int32, z = v6 &&& k255 := ⟨_, rfl⟩
          have hv7 := n_and ev7
          have rv7 := n_rng v7
          refine r_iand C v7 (oDec_at oX8_put 22 rfl) ev7 ?_
          refine r_iast (n := 1600) (lo := 0) (hi := 255) C rfl (by decide) rfl rfl ⟨by omega, by omega⟩ (by decide) rfl rfl rfl rfl ⟨by omega, by omega⟩ (oDec_at oX8_put 23 rfl) ?_
          refine r_aload_n C (j := 0) (oDec_at oX8_put 24 rfl) rfl rfl ?_
          refine r_dup C (oDec_at oX8_put 25 rfl) rfl ?_
          refine r_geti (k := 1) (lo := 0) (hi := 1600) C v2 oCl8 rfl (by decide) flX8_15 rfl rfl (((pI_ne (a := 1) (b := 1) (c := 2) _ _ (Or.inl (by decide)))).trans (ev2)) rfl rfl (oDec_at oX8_put 26 rfl) (fun _ _ => ?_)
          refine r_iconst C (oDec_at oX8_put 27 rfl) (v := k1) (by rw [qk1]; rfl) ?_
          refine r_pc C 44 rfl ?_
          obtain ⟨v8, ev8⟩ : ∃ z : Int32, z = v2 + k1 := ⟨_, rfl⟩
          have hv8 : v8.toInt = v2.toInt + k1.toInt := n_add ev8 (by omega) (by omega)
          refine r_iadd C v8 (oDec_at oX8_put 28 rfl) ev8 ?_
          refine r_puti (k := 1) (lo := 0) (hi := 1600) C oCl8 rfl (by decide) flX8_15 rfl rfl rfl rfl rfl rfl rfl rfl ⟨by omega, by omega⟩ (oDec_at oX8_put 29 rfl) ?_
          obtain ⟨v9, ev9⟩ : ∃ z : Int32, x2 + Int32.ofInt 1 = z := ⟨_, rfl⟩
          have hv9 : v9.toInt = x2.toInt + 1 := n_inc ev9 (by decide) (by omega) (by omega)
          refine r_iinc C (j := 2) (lv' := [(0, .ref (oad E 1)), (1, .int a1), (2, .int v9)]) v9 [1, 2, 0] (oDec_at oX8_put 30 rfl) rfl ev9 (by decide) rfl ?_
          refine r_goto C (tgt := 11) (oDec_at oX8_put 31 rfl) (by decide) ?_
          have lk10 : (((pI (pI t 2 v2.toNatClampNeg v7) 1 1 v8)).1 1 1).toInt = v8.toInt := congrArg Int32.toInt ((pI_self _ _ _ _))
          exact (ih (n - 1) (by omega)) ((pI (pI t 2 v2.toNatClampNeg v7) 1 1 v8)) v9  (by omega) (by omega) (by omega) (by omega)
  refine r_aload_n C (j := 0) (oDec_at oX8_put 0 rfl) rfl rfl ?_
  refine r_iconst C (oDec_at oX8_put 1 rfl) (v := k4) (by rw [qk4]; rfl) ?_
  refine r_callVi C oCl8 rfl miX8_hasRoom mlX8_19 (ct_X8_hasRoom l E (s) k4 (by omega)) (by decide) rfl rfl rfl (Nat.le_of_ble_eq_true rfl) (oDec_at oX8_put 2 rfl) (fun r12 u11 pu11 fu11 => ?_)
  try dsimp only at pu11
  have rr12 := n_rng r12
  refine r_if_ne C 9 (oDec_at oX8_put 3 rfl) (by decide) (fun cd13 => ?_) (fun cd13 => ?_)
  · skip
    refine r_iconst C (oDec_at oX8_put 5 rfl) (v := k0) (by rw [qk0]; rfl) ?_
    refine r_istore_n C (lv' := [(0, .ref (oad E 1)), (1, .int a1), (2, .int k0)]) [1, 2, 0] (oDec_at oX8_put 6 rfl) rfl (by decide) rfl ?_
    have lk14 : ((u11).1 1 1).toInt = (s.1 1 1).toInt := congrArg Int32.toInt ((fu11 1 1 rfl).1)
    exact (key (5 - k0.toInt).toNat) (u11) k0  (by omega) (by omega) (by omega) (by omega)
  · skip
    have lk15 : ((u11).1 1 1).toInt = (s.1 1 1).toInt := congrArg Int32.toInt ((fu11 1 1 rfl).1)
    exact r_vret C (oDec_at oX8_put 4 rfl) ⟨rfl, by omega⟩
set_option maxHeartbeats 4000000 in
set_option maxRecDepth 100000 in
theorem ct_X8_cut (l : Launch) (E : oE) (s : oS) (a1 : Int32)  : oMet l 1 yX8_cut cX8_cut 2 (some .boolean) [(8, 1)] E s [.ref (oad E 1), .int a1] (oPi (fun r u => (0 ≤ r.toInt ∧ r.toInt ≤ 1) ∧ ((r.toInt = 1 ∧ 0 ≤ a1.toInt ∧ a1.toInt ≤ (s.1 1 1).toInt ∧ (u.1 1 1).toInt = a1.toInt) ∨ (r.toInt = 0 ∧ (a1.toInt < 0 ∨ (s.1 1 1).toInt < a1.toInt) ∧ (u.1 1 1).toInt = (s.1 1 1).toInt)))) := by
  refine oMet.of (lv := [(0, .ref (oad E 1)), (1, .int a1)]) (by decide +kernel) (Nat.le_of_ble_eq_true rfl) rfl (fun J C hT => ?_)
  have C : oC l 1 cX8_cut RX8 2 (some .boolean) [(8, 1)] E s (oPi (fun r u => (0 ≤ r.toInt ∧ r.toInt ≤ 1) ∧ ((r.toInt = 1 ∧ 0 ≤ a1.toInt ∧ a1.toInt ≤ (s.1 1 1).toInt ∧ (u.1 1 1).toInt = a1.toInt) ∨ (r.toInt = 0 ∧ (a1.toInt < 0 ∨ (s.1 1 1).toInt < a1.toInt) ∧ (u.1 1 1).toInt = (s.1 1 1).toInt)))) J := C
  obtain ⟨k0, qk0⟩ : ∃ z : Int32, z = 0 := ⟨_, rfl⟩
  have ek0 : k0.toInt = 0 := by rw [qk0]; rfl
  obtain ⟨k1, qk1⟩ : ∃ z : Int32, z = 1 := ⟨_, rfl⟩
  have ek1 : k1.toInt = 1 := by rw [qk1]; rfl
  have rg1 := n_rng a1
  refine r_iload_n C (j := 1) (oDec_at oX8_cut 0 rfl) rfl rfl ?_
  refine r_if_lt C 12 (oDec_at oX8_cut 1 rfl) (by decide) (fun cd1 => ?_) (fun cd1 => ?_)
  · skip
    refine r_iconst C (oDec_at oX8_cut 6 rfl) (v := k0) (by rw [qk0]; rfl) ?_
    exact r_zret C (n_bool (by omega)) (oDec_at oX8_cut 7 rfl) ⟨_, rfl, ⟨by omega, by omega⟩⟩
  · skip
    refine r_iload_n C (j := 1) (oDec_at oX8_cut 2 rfl) rfl rfl ?_
    refine r_aload_n C (j := 0) (oDec_at oX8_cut 3 rfl) rfl rfl ?_
    obtain ⟨v2, ev2⟩ : ∃ z : Int32, (s).1 1 1 = z := ⟨_, rfl⟩
    have gv2 : (s.1 1 1).toInt = v2.toInt := congrArg Int32.toInt (ev2)
    refine r_geti (k := 1) (lo := 0) (hi := 1600) C v2 oCl8 rfl (by decide) flX8_15 rfl rfl (ev2) rfl rfl (oDec_at oX8_cut 4 rfl) (fun b3 b3h => ?_)
    refine r_icmp_le C 14 (oDec_at oX8_cut 5 rfl) (by decide) (fun cd4 => ?_) (fun cd4 => ?_)
    · skip
      refine r_aload_n C (j := 0) (oDec_at oX8_cut 8 rfl) rfl rfl ?_
      refine r_iload_n C (j := 1) (oDec_at oX8_cut 9 rfl) rfl rfl ?_
      refine r_puti (k := 1) (lo := 0) (hi := 1600) C oCl8 rfl (by decide) flX8_15 rfl rfl rfl rfl rfl rfl rfl rfl ⟨by omega, by omega⟩ (oDec_at oX8_cut 10 rfl) ?_
      refine r_iconst C (oDec_at oX8_cut 11 rfl) (v := k1) (by rw [qk1]; rfl) ?_
      have lk5 : (((pI s 1 1 a1)).1 1 1).toInt = a1.toInt := congrArg Int32.toInt ((pI_self _ _ _ _))
      exact r_zret C (n_bool (by omega)) (oDec_at oX8_cut 12 rfl) ⟨_, rfl, ⟨by omega, by omega⟩⟩
    · skip
      refine r_iconst C (oDec_at oX8_cut 6 rfl) (v := k0) (by rw [qk0]; rfl) ?_
      have lk6 : ((s).1 1 1).toInt = v2.toInt := congrArg Int32.toInt (ev2)
      exact r_zret C (n_bool (by omega)) (oDec_at oX8_cut 7 rfl) ⟨_, rfl, ⟨by omega, by omega⟩⟩
set_option maxHeartbeats 4000000 in
set_option maxRecDepth 100000 in
theorem ct_X8_at (l : Launch) (E : oE) (s : oS) (a1 : Int32)  : oMet l 1 yX8_at cX8_at 2 (some .int) [] E s [.ref (oad E 1), .int a1] (oPi (fun r u => (r.toInt = -1 ∨ (0 ≤ a1.toInt ∧ a1.toInt < (s.1 1 1).toInt ∧ a1.toInt ≤ 1599 ∧ 0 ≤ r.toInt ∧ r.toInt ≤ 255)))) := by
  refine oMet.of (lv := [(0, .ref (oad E 1)), (1, .int a1)]) (by decide +kernel) (Nat.le_of_ble_eq_true rfl) rfl (fun J C hT => ?_)
  have C : oC l 1 cX8_at RX8 2 (some .int) [] E s (oPi (fun r u => (r.toInt = -1 ∨ (0 ≤ a1.toInt ∧ a1.toInt < (s.1 1 1).toInt ∧ a1.toInt ≤ 1599 ∧ 0 ≤ r.toInt ∧ r.toInt ≤ 255)))) J := C
  obtain ⟨km1, qkm1⟩ : ∃ z : Int32, z = (-1) := ⟨_, rfl⟩
  have ekm1 : km1.toInt = (-1) := by rw [qkm1]; rfl
  have rg1 := n_rng a1
  refine r_iload_n C (j := 1) (oDec_at oX8_at 0 rfl) rfl rfl ?_
  refine r_if_lt C 21 (oDec_at oX8_at 1 rfl) (by decide) (fun cd1 => ?_) (fun cd1 => ?_)
  · skip
    refine r_iconst C (oDec_at oX8_at 11 rfl) (v := km1) (by rw [qkm1]; rfl) ?_
    exact r_iret C (oDec_at oX8_at 12 rfl) ⟨_, rfl, by omega⟩
  · skip
    refine r_iload_n C (j := 1) (oDec_at oX8_at 2 rfl) rfl rfl ?_
    refine r_aload_n C (j := 0) (oDec_at oX8_at 3 rfl) rfl rfl ?_
    obtain ⟨v2, ev2⟩ : ∃ z : Int32, (s).1 1 1 = z := ⟨_, rfl⟩
    have gv2 : (s.1 1 1).toInt = v2.toInt := congrArg Int32.toInt (ev2)
    refine r_geti (k := 1) (lo := 0) (hi := 1600) C v2 oCl8 rfl (by decide) flX8_15 rfl rfl (ev2) rfl rfl (oDec_at oX8_at 4 rfl) (fun b3 b3h => ?_)
    refine r_icmp_ge C 21 (oDec_at oX8_at 5 rfl) (by decide) (fun cd4 => ?_) (fun cd4 => ?_)
    · skip
      refine r_iconst C (oDec_at oX8_at 11 rfl) (v := km1) (by rw [qkm1]; rfl) ?_
      exact r_iret C (oDec_at oX8_at 12 rfl) ⟨_, rfl, by omega⟩
    · skip
      refine r_aload_n C (j := 0) (oDec_at oX8_at 6 rfl) rfl rfl ?_
      refine r_getF (k := 0) (b := 2) C oCl8 rfl (by decide) flX8_11 rfl rfl rfl (oDec_at oX8_at 7 rfl) ?_
      refine r_iload_n C (j := 1) (oDec_at oX8_at 8 rfl) rfl rfl ?_
      obtain ⟨v5, ev5⟩ : ∃ z : Int32, (s).1 2 a1.toNatClampNeg = z := ⟨_, rfl⟩
      refine r_iald (n := 1600) (lo := 0) (hi := 255) C v5 rfl (by decide) rfl rfl ⟨by omega, by omega⟩ (by decide) ev5 rfl rfl (oDec_at oX8_at 9 rfl) (fun b6 b6h => ?_)
      refine r_goto C (tgt := 22) (oDec_at oX8_at 10 rfl) (by decide) ?_
      exact r_iret C (oDec_at oX8_at 12 rfl) ⟨_, rfl, by omega⟩
