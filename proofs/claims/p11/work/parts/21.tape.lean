set_option maxHeartbeats 4000000 in
set_option maxRecDepth 100000 in
theorem ct_X8_hasRoom (l : Launch) (E : oE) (s : oS) (a1 : Int32) (hp0 : 0 ≤ a1.toInt ∧ a1.toInt ≤ 2000) : oMet l 1 yX8_hasRoom cX8_hasRoom 2 (some .boolean) [] E s [.ref (oad E 1), .int a1] (oPi (fun r u => (0 ≤ r.toInt ∧ r.toInt ≤ 1) ∧ ((r.toInt = 1 ∧ (s.1 1 1).toInt + a1.toInt ≤ 1600) ∨ (r.toInt = 0 ∧ 1600 < (s.1 1 1).toInt + a1.toInt)))) := by
  refine oMet.of (lv := [(0, .ref (oad E 1)), (1, .int a1)]) (by decide +kernel) (Nat.le_of_ble_eq_true rfl) rfl (fun J C hT => ?_)
  have C : oC l 1 cX8_hasRoom RX8 2 (some .boolean) [] E s (oPi (fun r u => (0 ≤ r.toInt ∧ r.toInt ≤ 1) ∧ ((r.toInt = 1 ∧ (s.1 1 1).toInt + a1.toInt ≤ 1600) ∨ (r.toInt = 0 ∧ 1600 < (s.1 1 1).toInt + a1.toInt)))) J := C
  obtain ⟨k0, qk0⟩ : ∃ z : Int32, z = 0 := ⟨_, rfl⟩
  have ek0 : k0.toInt = 0 := by rw [qk0]; rfl
  obtain ⟨k1, qk1⟩ : ∃ z : Int32, z = 1 := ⟨_, rfl⟩
  have ek1 : k1.toInt = 1 := by rw [qk1]; rfl
  obtain ⟨k1600, qk1600⟩ : ∃ z : Int32, z = 1600 := ⟨_, rfl⟩
  have ek1600 : k1600.toInt = 1600 := by rw [qk1600]; rfl
  have rg1 := n_rng a1
  refine r_aload_n C (j := 0) dX8_hasRoom_0 rfl rfl ?_
  obtain ⟨v1, ev1⟩ : ∃ z : Int32, (s).1 1 1 = z := ⟨_, rfl⟩
  have gv1 : (s.1 1 1).toInt = v1.toInt := congrArg Int32.toInt (ev1)
  refine r_geti (k := 1) (lo := 0) (hi := 1600) C v1 oCl8 rfl (by decide) flX8_15 rfl rfl (ev1) rfl rfl dX8_hasRoom_1 (fun b2 b2h => ?_)
  refine r_iload_n C (j := 1) dX8_hasRoom_4 rfl rfl ?_
  obtain ⟨v3, ev3⟩ : ∃ z : Int32, z = v1 + a1 := ⟨_, rfl⟩
  have hv3 : v3.toInt = v1.toInt + a1.toInt := n_add ev3 (by omega) (by omega)
  refine r_iadd C v3 dX8_hasRoom_5 ev3 ?_
  refine r_sipush C dX8_hasRoom_6 (v := k1600) (by rw [qk1600]; rfl) ?_
  refine r_icmp_gt C 16 dX8_hasRoom_9 (by decide) (fun c4 => ?_) (fun c4 => ?_)
  · skip
    refine r_iconst C dX8_hasRoom_16 (v := k0) (by rw [qk0]; rfl) ?_
    exact r_zret C (n_bool (by omega)) dX8_hasRoom_17 ⟨_, rfl, ⟨by omega, by omega⟩⟩
  · skip
    refine r_iconst C dX8_hasRoom_12 (v := k1) (by rw [qk1]; rfl) ?_
    refine r_goto C (tgt := 17) dX8_hasRoom_13 (by decide) ?_
    exact r_zret C (n_bool (by omega)) dX8_hasRoom_17 ⟨_, rfl, ⟨by omega, by omega⟩⟩
set_option maxHeartbeats 4000000 in
set_option maxRecDepth 100000 in
theorem ct_X8_put (l : Launch) (E : oE) (s : oS) (a1 : Int32)  : oMet l 2 yX8_put cX8_put 3 none [(8, 1), (15, 9999)] E s [.ref (oad E 1), .int a1] (oPv (fun u => (((s.1 1 1).toInt + 4 ≤ 1600 ∧ (u.1 1 1).toInt = (s.1 1 1).toInt + 4) ∨ (1600 < (s.1 1 1).toInt + 4 ∧ (u.1 1 1).toInt = (s.1 1 1).toInt)))) := by
  refine oMet.of (lv := [(0, .ref (oad E 1)), (1, .int a1)]) (by decide +kernel) (Nat.le_of_ble_eq_true rfl) rfl (fun J C hT => ?_)
  have C : oC l 2 cX8_put RX8 3 none [(8, 1), (15, 9999)] E s (oPv (fun u => (((s.1 1 1).toInt + 4 ≤ 1600 ∧ (u.1 1 1).toInt = (s.1 1 1).toInt + 4) ∨ (1600 < (s.1 1 1).toInt + 4 ∧ (u.1 1 1).toInt = (s.1 1 1).toInt)))) J := C
  obtain ⟨k0, qk0⟩ : ∃ z : Int32, z = 0 := ⟨_, rfl⟩
  have ek0 : k0.toInt = 0 := by rw [qk0]; rfl
  obtain ⟨k1, qk1⟩ : ∃ z : Int32, z = 1 := ⟨_, rfl⟩
  have ek1 : k1.toInt = 1 := by rw [qk1]; rfl
  obtain ⟨k4, qk4⟩ : ∃ z : Int32, z = 4 := ⟨_, rfl⟩
  have ek4 : k4.toInt = 4 := by rw [qk4]; rfl
  obtain ⟨k8, qk8⟩ : ∃ z : Int32, z = 8 := ⟨_, rfl⟩
  have ek8 : k8.toInt = 8 := by rw [qk8]; rfl
  obtain ⟨k24, qk24⟩ : ∃ z : Int32, z = 24 := ⟨_, rfl⟩
  have ek24 : k24.toInt = 24 := by rw [qk24]; rfl
  obtain ⟨k255, qk255⟩ : ∃ z : Int32, z = 255 := ⟨_, rfl⟩
  have ek255 : k255.toInt = 255 := by rw [qk255]; rfl
  have rg1 := n_rng a1
  have key : ∀ n : Nat, (∀ (t : oS) (x2 : Int32), 0 ≤ x2.toInt ∧ x2.toInt ≤ 4 → (t.1 1 1).toInt = (s.1 1 1).toInt + x2.toInt → (s.1 1 1).toInt + 4 ≤ 1600 → 5 - x2.toInt ≤ (n : Int) → J t 11 [(0, .ref (oad E 1)), (1, .int a1), (2, .int x2)] []) := by
    intro n
    induction n using Nat.strongRecOn with
    | _ n ih =>
      skip
      · intro t x2  iv0 iv1 iv2 hmu
        have rx2 := n_rng x2
        refine r_iload_n C (j := 2) dX8_put_11 rfl rfl ?_
        refine r_iconst C dX8_put_12 (v := k4) (by rw [qk4]; rfl) ?_
        refine r_icmp_ge C 54 dX8_put_13 (by decide) (fun c1 => ?_) (fun c1 => ?_)
        · skip
          exact r_vret C dX8_put_54 ⟨rfl, by omega⟩
        · skip
          refine r_aload_n C (j := 0) dX8_put_16 rfl rfl ?_
          refine r_getF (k := 0) (b := 2) C oCl8 rfl (by decide) flX8_11 rfl rfl rfl dX8_put_17 ?_
          refine r_aload_n C (j := 0) dX8_put_20 rfl rfl ?_
          obtain ⟨v2, ev2⟩ : ∃ z : Int32, (t).1 1 1 = z := ⟨_, rfl⟩
          have gv2 : (t.1 1 1).toInt = v2.toInt := congrArg Int32.toInt (ev2)
          refine r_geti (k := 1) (lo := 0) (hi := 1600) C v2 oCl8 rfl (by decide) flX8_15 rfl rfl (ev2) rfl rfl dX8_put_21 (fun b3 b3h => ?_)
          refine r_iload_n C (j := 1) dX8_put_24 rfl rfl ?_
          refine r_bipush C dX8_put_25 (v := k24) (by rw [qk24]; rfl) ?_
          refine r_bipush C dX8_put_27 (v := k8) (by rw [qk8]; rfl) ?_
          refine r_iload_n C (j := 2) dX8_put_29 rfl rfl ?_
          obtain ⟨v4, ev4⟩ : ∃ z : Int32, z = k8 * x2 := ⟨_, rfl⟩
          have hv4 : v4.toInt = 8 * x2.toInt := n_mulK' 8 ev4 ek8 (by omega) (by omega)
          refine r_imul C v4 dX8_put_30 ev4 ?_
          obtain ⟨v5, ev5⟩ : ∃ z : Int32, z = k24 - v4 := ⟨_, rfl⟩
          have hv5 : v5.toInt = k24.toInt - v4.toInt := n_sub ev5 (by omega) (by omega)
          refine r_isub C v5 dX8_put_31 ev5 ?_
          obtain ⟨v6, ev6⟩ : ∃ z : Int32, (a1.toUInt32 >>> (v5.toUInt32 &&& Int32.toUInt32 31)).toInt32 = z := ⟨_, rfl⟩
          have rv6 := n_rng v6
          refine r_iushr C v6 dX8_put_32 ev6 ?_
          refine r_sipush C dX8_put_33 (v := k255) (by rw [qk255]; rfl) ?_
          obtain ⟨v7, ev7⟩ : ∃ z : Int32, z = v6 &&& k255 := ⟨_, rfl⟩
          have hv7 := n_and ev7
          have rv7 := n_rng v7
          refine r_iand C v7 dX8_put_36 ev7 ?_
          refine r_iast (n := 1600) (lo := 0) (hi := 255) C rfl (by decide) rfl rfl ⟨by omega, by omega⟩ (by decide) rfl rfl rfl rfl ⟨by omega, by omega⟩ dX8_put_37 ?_
          refine r_aload_n C (j := 0) dX8_put_38 rfl rfl ?_
          refine r_dup C dX8_put_39 rfl ?_
          refine r_geti (k := 1) (lo := 0) (hi := 1600) C v2 oCl8 rfl (by decide) flX8_15 rfl rfl (((pI_ne _ _ (Or.inl (by decide)))).trans ev2) rfl rfl dX8_put_40 (fun _ _ => ?_)
          refine r_iconst C dX8_put_43 (v := k1) (by rw [qk1]; rfl) ?_
          obtain ⟨v8, ev8⟩ : ∃ z : Int32, z = v2 + k1 := ⟨_, rfl⟩
          have hv8 : v8.toInt = v2.toInt + k1.toInt := n_add ev8 (by omega) (by omega)
          refine r_iadd C v8 dX8_put_44 ev8 ?_
          refine r_puti (k := 1) (lo := 0) (hi := 1600) C oCl8 rfl (by decide) flX8_15 rfl rfl rfl rfl rfl rfl rfl rfl ⟨by omega, by omega⟩ dX8_put_45 ?_
          obtain ⟨v9, ev9⟩ : ∃ z : Int32, x2 + Int32.ofInt 1 = z := ⟨_, rfl⟩
          have hv9 : v9.toInt = x2.toInt + 1 := n_inc ev9 (by decide) (by omega) (by omega)
          refine r_iinc C (j := 2) (lv' := [(0, .ref (oad E 1)), (1, .int a1), (2, .int v9)]) v9 [1, 2, 0] dX8_put_48 rfl ev9 (by decide) rfl ?_
          refine r_goto C (tgt := 11) dX8_put_51 (by decide) ?_
          have lk10 : (((pI (pI t 2 v2.toNatClampNeg v7) 1 1 v8)).1 1 1).toInt = v8.toInt := congrArg Int32.toInt ((pI_self _ _ _ _))
          exact (ih (n - 1) (by omega)) ((pI (pI t 2 v2.toNatClampNeg v7) 1 1 v8)) v9  (by omega) (by omega) (by omega) (by omega)
  refine r_aload_n C (j := 0) dX8_put_0 rfl rfl ?_
  refine r_iconst C dX8_put_1 (v := k4) (by rw [qk4]; rfl) ?_
  refine r_callVi C oCl8 rfl miX8_hasRoom mlX8_19 (ct_X8_hasRoom l E (s) k4 (by omega)) (by decide) rfl rfl rfl (Nat.le_of_ble_eq_true rfl) dX8_put_2 (fun r12 u11 pu11 fu11 => ?_)
  try dsimp only at pu11
  have rr12 := n_rng r12
  refine r_if_ne C 9 dX8_put_5 (by decide) (fun c13 => ?_) (fun c13 => ?_)
  · skip
    refine r_iconst C dX8_put_9 (v := k0) (by rw [qk0]; rfl) ?_
    refine r_istore_n C (lv' := [(0, .ref (oad E 1)), (1, .int a1), (2, .int k0)]) [1, 2, 0] dX8_put_10 rfl (by decide) rfl ?_
    have lk14 : ((u11).1 1 1).toInt = (s.1 1 1).toInt := congrArg Int32.toInt ((fu11 1 1 rfl).1)
    exact (key (5 - k0.toInt).toNat) (u11) k0  (by omega) (by omega) (by omega) (by omega)
  · skip
    have lk15 : ((u11).1 1 1).toInt = (s.1 1 1).toInt := congrArg Int32.toInt ((fu11 1 1 rfl).1)
    exact r_vret C dX8_put_8 ⟨rfl, by omega⟩
set_option maxHeartbeats 4000000 in
set_option maxRecDepth 100000 in
theorem ct_X8_cut (l : Launch) (E : oE) (s : oS) (a1 : Int32)  : oMet l 1 yX8_cut cX8_cut 2 (some .boolean) [(8, 1)] E s [.ref (oad E 1), .int a1] (oPi (fun r u => (0 ≤ r.toInt ∧ r.toInt ≤ 1) ∧ ((r.toInt = 1 ∧ 0 ≤ a1.toInt ∧ a1.toInt ≤ (s.1 1 1).toInt ∧ (u.1 1 1).toInt = a1.toInt) ∨ (r.toInt = 0 ∧ (a1.toInt < 0 ∨ (s.1 1 1).toInt < a1.toInt) ∧ (u.1 1 1).toInt = (s.1 1 1).toInt)))) := by
  refine oMet.of (lv := [(0, .ref (oad E 1)), (1, .int a1)]) (by decide +kernel) (Nat.le_of_ble_eq_true rfl) rfl (fun J C hT => ?_)
  have C : oC l 1 cX8_cut RX8 2 (some .boolean) [(8, 1)] E s (oPi (fun r u => (0 ≤ r.toInt ∧ r.toInt ≤ 1) ∧ ((r.toInt = 1 ∧ 0 ≤ a1.toInt ∧ a1.toInt ≤ (s.1 1 1).toInt ∧ (u.1 1 1).toInt = a1.toInt) ∨ (r.toInt = 0 ∧ (a1.toInt < 0 ∨ (s.1 1 1).toInt < a1.toInt) ∧ (u.1 1 1).toInt = (s.1 1 1).toInt)))) J := C
  obtain ⟨k0, qk0⟩ : ∃ z : Int32, z = 0 := ⟨_, rfl⟩
  have ek0 : k0.toInt = 0 := by rw [qk0]; rfl
  obtain ⟨k1, qk1⟩ : ∃ z : Int32, z = 1 := ⟨_, rfl⟩
  have ek1 : k1.toInt = 1 := by rw [qk1]; rfl
  have rg1 := n_rng a1
  refine r_iload_n C (j := 1) dX8_cut_0 rfl rfl ?_
  refine r_if_lt C 12 dX8_cut_1 (by decide) (fun c1 => ?_) (fun c1 => ?_)
  · skip
    refine r_iconst C dX8_cut_12 (v := k0) (by rw [qk0]; rfl) ?_
    exact r_zret C (n_bool (by omega)) dX8_cut_13 ⟨_, rfl, ⟨by omega, by omega⟩⟩
  · skip
    refine r_iload_n C (j := 1) dX8_cut_4 rfl rfl ?_
    refine r_aload_n C (j := 0) dX8_cut_5 rfl rfl ?_
    obtain ⟨v2, ev2⟩ : ∃ z : Int32, (s).1 1 1 = z := ⟨_, rfl⟩
    have gv2 : (s.1 1 1).toInt = v2.toInt := congrArg Int32.toInt (ev2)
    refine r_geti (k := 1) (lo := 0) (hi := 1600) C v2 oCl8 rfl (by decide) flX8_15 rfl rfl (ev2) rfl rfl dX8_cut_6 (fun b3 b3h => ?_)
    refine r_icmp_le C 14 dX8_cut_9 (by decide) (fun c4 => ?_) (fun c4 => ?_)
    · skip
      refine r_aload_n C (j := 0) dX8_cut_14 rfl rfl ?_
      refine r_iload_n C (j := 1) dX8_cut_15 rfl rfl ?_
      refine r_puti (k := 1) (lo := 0) (hi := 1600) C oCl8 rfl (by decide) flX8_15 rfl rfl rfl rfl rfl rfl rfl rfl ⟨by omega, by omega⟩ dX8_cut_16 ?_
      refine r_iconst C dX8_cut_19 (v := k1) (by rw [qk1]; rfl) ?_
      have lk5 : (((pI s 1 1 a1)).1 1 1).toInt = a1.toInt := congrArg Int32.toInt ((pI_self _ _ _ _))
      exact r_zret C (n_bool (by omega)) dX8_cut_20 ⟨_, rfl, ⟨by omega, by omega⟩⟩
    · skip
      refine r_iconst C dX8_cut_12 (v := k0) (by rw [qk0]; rfl) ?_
      have lk6 : ((s).1 1 1).toInt = v2.toInt := congrArg Int32.toInt (ev2)
      exact r_zret C (n_bool (by omega)) dX8_cut_13 ⟨_, rfl, ⟨by omega, by omega⟩⟩
set_option maxHeartbeats 4000000 in
set_option maxRecDepth 100000 in
theorem ct_X8_at (l : Launch) (E : oE) (s : oS) (a1 : Int32)  : oMet l 1 yX8_at cX8_at 2 (some .int) [] E s [.ref (oad E 1), .int a1] (oPi (fun r u => (r.toInt = -1 ∨ (0 ≤ a1.toInt ∧ a1.toInt < (s.1 1 1).toInt ∧ 0 ≤ r.toInt ∧ r.toInt ≤ 255)))) := by
  refine oMet.of (lv := [(0, .ref (oad E 1)), (1, .int a1)]) (by decide +kernel) (Nat.le_of_ble_eq_true rfl) rfl (fun J C hT => ?_)
  have C : oC l 1 cX8_at RX8 2 (some .int) [] E s (oPi (fun r u => (r.toInt = -1 ∨ (0 ≤ a1.toInt ∧ a1.toInt < (s.1 1 1).toInt ∧ 0 ≤ r.toInt ∧ r.toInt ≤ 255)))) J := C
  obtain ⟨km1, qkm1⟩ : ∃ z : Int32, z = (-1) := ⟨_, rfl⟩
  have ekm1 : km1.toInt = (-1) := by rw [qkm1]; rfl
  have rg1 := n_rng a1
  refine r_iload_n C (j := 1) dX8_at_0 rfl rfl ?_
  refine r_if_lt C 21 dX8_at_1 (by decide) (fun c1 => ?_) (fun c1 => ?_)
  · skip
    refine r_iconst C dX8_at_21 (v := km1) (by rw [qkm1]; rfl) ?_
    exact r_iret C dX8_at_22 ⟨_, rfl, by omega⟩
  · skip
    refine r_iload_n C (j := 1) dX8_at_4 rfl rfl ?_
    refine r_aload_n C (j := 0) dX8_at_5 rfl rfl ?_
    obtain ⟨v2, ev2⟩ : ∃ z : Int32, (s).1 1 1 = z := ⟨_, rfl⟩
    have gv2 : (s.1 1 1).toInt = v2.toInt := congrArg Int32.toInt (ev2)
    refine r_geti (k := 1) (lo := 0) (hi := 1600) C v2 oCl8 rfl (by decide) flX8_15 rfl rfl (ev2) rfl rfl dX8_at_6 (fun b3 b3h => ?_)
    refine r_icmp_ge C 21 dX8_at_9 (by decide) (fun c4 => ?_) (fun c4 => ?_)
    · skip
      refine r_iconst C dX8_at_21 (v := km1) (by rw [qkm1]; rfl) ?_
      exact r_iret C dX8_at_22 ⟨_, rfl, by omega⟩
    · skip
      refine r_aload_n C (j := 0) dX8_at_12 rfl rfl ?_
      refine r_getF (k := 0) (b := 2) C oCl8 rfl (by decide) flX8_11 rfl rfl rfl dX8_at_13 ?_
      refine r_iload_n C (j := 1) dX8_at_16 rfl rfl ?_
      obtain ⟨v5, ev5⟩ : ∃ z : Int32, (s).1 2 a1.toNatClampNeg = z := ⟨_, rfl⟩
      refine r_iald (n := 1600) (lo := 0) (hi := 255) C v5 rfl (by decide) rfl rfl ⟨by omega, by omega⟩ (by decide) ev5 rfl rfl dX8_at_17 (fun b6 b6h => ?_)
      refine r_goto C (tgt := 22) dX8_at_18 (by decide) ?_
      exact r_iret C dX8_at_22 ⟨_, rfl, by omega⟩
