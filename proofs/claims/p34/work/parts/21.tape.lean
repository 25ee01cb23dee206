set_option maxHeartbeats 4000000 in
set_option maxRecDepth 100000 in
theorem ct_X8_hasRoom (l : Launch) (E : oE) (s : oS) (a1 : Int32) (hp0 : 0 ≤ a1.toInt ∧ a1.toInt ≤ 2000) : oMet l 1 yX8_hasRoom cX8_hasRoom 2 (some .boolean) [] E s [.ref (oad E 1), .int a1] (oPi (fun r u => (0 ≤ r.toInt ∧ r.toInt ≤ 1) ∧ ((r.toInt = 1 ∧ (s.1 1 1).toInt + a1.toInt ≤ 1600) ∨ (r.toInt = 0 ∧ 1600 < (s.1 1 1).toInt + a1.toInt)))) := by
  refine oMet.of (lv := [(0, .ref (oad E 1)), (1, .int a1)]) (by decide +kernel) (Nat.le_of_ble_eq_true rfl) rfl (fun J C hT => ?_)
  have C : oC l 1 cX8_hasRoom RX8 2 (some .boolean) [] E s (oPi (fun r u => (0 ≤ r.toInt ∧ r.toInt ≤ 1) ∧ ((r.toInt = 1 ∧ (s.1 1 1).toInt + a1.toInt ≤ 1600) ∨ (r.toInt = 0 ∧ 1600 < (s.1 1 1).toInt + a1.toInt)))) J := C
  obtain ⟨k0, qk0⟩ : ∃ z : Int32, z = 0 := ⟨_, rfl⟩
  have ek0 : k0.toInt = 0 := by rw [qk0]; rfl
  obtain ⟨k1, qk1⟩ : ∃ z : Int32, z = 1 := ⟨_, rfl⟩
  have ek1 : k1.toInt = 1 := by rw [qk1]; rfl
  obtain ⟨k1600, qk1600⟩ : ∃ z : Int32, z = 1600 := ⟨_, rfl⟩
  have ek1600 : k1600.toInt = 1600 := by rw [qk1600]; rfl
  have rg1 := n_rng a1
  refine r_aload_n C (j := 0) (oDec_at oX8_hasRoom 0 rfl) rfl rfl ?_
  obtain ⟨v1, ev1⟩ : ∃ z : Int32, (s).1 1 1 = z := ⟨_, rfl⟩
  have gv1 : (s.1 1 1).toInt = v1.toInt := congrArg Int32.toInt (ev1)
  refine r_geti (k := 1) (lo := 0) (hi := 1600) C v1 oCl8 rfl (by decide) flX8_15 rfl rfl (ev1) rfl rfl (oDec_at oX8_hasRoom 1 rfl) (fun b2 b2h => ?_)
  refine r_iload_n C (j := 1) (oDec_at oX8_hasRoom 2 rfl) rfl rfl ?_
  obtain ⟨v3, ev3⟩ : ∃ z : Int32, z = v1 + a1 := ⟨_, rfl⟩
  have hv3 : v3.toInt = v1.toInt + a1.toInt := n_add ev3 (by omega) (by omega)
  refine r_iadd C v3 (oDec_at oX8_hasRoom 3 rfl) ev3 ?_
  refine r_sipush C (oDec_at oX8_hasRoom 4 rfl) (v := k1600) (by rw [qk1600]; rfl) ?_
  refine r_icmp_gt C 16 (oDec_at oX8_hasRoom 5 rfl) (by decide) (fun cd4 => ?_) (fun cd4 => ?_)
  · skip
    refine r_iconst C (oDec_at oX8_hasRoom 8 rfl) (v := k0) (by rw [qk0]; rfl) ?_
    exact r_zret C (n_bool (by omega)) (oDec_at oX8_hasRoom 9 rfl) ⟨_, rfl, ⟨by omega, by omega⟩⟩
  · skip
    refine r_iconst C (oDec_at oX8_hasRoom 6 rfl) (v := k1) (by rw [qk1]; rfl) ?_
    refine r_goto C (tgt := 17) (oDec_at oX8_hasRoom 7 rfl) (by decide) ?_
    exact r_zret C (n_bool (by omega)) (oDec_at oX8_hasRoom 9 rfl) ⟨_, rfl, ⟨by omega, by omega⟩⟩
set_option maxHeartbeats 4000000 in
set_option maxRecDepth 100000 in
theorem ct_X8_cut (l : Launch) (E : oE) (s : oS) (a1 : Int32)  : oMet l 1 yX8_cut cX8_cut 2 (some .boolean) [(8, 1)] E s [.ref (oad E 1), .int a1] (oPi (fun r u => (0 ≤ r.toInt ∧ r.toInt ≤ 1) ∧ ((r.toInt = 1 ∧ 0 ≤ a1.toInt ∧ a1.toInt ≤ (s.1 1 1).toInt ∧ (u.1 1 1).toInt = a1.toInt) ∨ (r.toInt = 0 ∧ (a1.toInt < 0 ∨ (s.1 1 1).toInt < a1.toInt) ∧ (u.1 1 1).toInt = (s.1 1 1).toInt)))) := by
  refine oMet.of (lv := [(0, .ref (oad E 1)), (1, .int a1)]) (by decide +kernel) (Nat.le_of_ble_eq_true rfl) rfl (fun J C hT => ?_)
  have C : oC l 1 cX8_cut RX8 2 (some .boolean) [(8, 1)] E s (oPi (fun r u => (0 ≤ r.toInt ∧ r.toInt ≤ 1) ∧ ((r.toInt = 1 ∧ 0 ≤ a1.toInt ∧ a1.toInt ≤ (s.1 1 1).toInt ∧ (u.1 1 1).toInt = a1.toInt) ∨ (r.toInt = 0 ∧ (a1.toInt < 0 ∨ (s.1 1 1).toInt < a1.toInt) ∧ (u.1 1 1).toInt = (s.1 1 1).toInt)))) J := C
  obtain ⟨k0, qk0⟩ : ∃ z : Int32, z = 0 := ⟨_, rfl⟩
  have ek0 : k0.toInt = 0 := by rw [qk0]; rfl
  obtain ⟨k1, qk1⟩ : ∃ z : Int32, z = 1 := ⟨_, rfl⟩
  have ek1 : k1.toInt = 1 := by rw [qk1]; rfl
  have rg1 := n_rng a1
  refine r_iload_n C (j := 1) (oDec_at oX8_cut 0 rfl) rfl rfl ?_
  refine r_if_lt C 12 (oDec_at oX8_cut 1 rfl) (by decide) (fun cd1 => ?_) (fun cd1 => ?_)
  · skip
    refine r_iconst C (oDec_at oX8_cut 6 rfl) (v := k0) (by rw [qk0]; rfl) ?_
    exact r_zret C (n_bool (by omega)) (oDec_at oX8_cut 7 rfl) ⟨_, rfl, ⟨by omega, by omega⟩⟩
  · skip
    refine r_iload_n C (j := 1) (oDec_at oX8_cut 2 rfl) rfl rfl ?_
    refine r_aload_n C (j := 0) (oDec_at oX8_cut 3 rfl) rfl rfl ?_
    obtain ⟨v2, ev2⟩ : ∃ z : Int32, (s).1 1 1 = z := ⟨_, rfl⟩
    have gv2 : (s.1 1 1).toInt = v2.toInt := congrArg Int32.toInt (ev2)
    refine r_geti (k := 1) (lo := 0) (hi := 1600) C v2 oCl8 rfl (by decide) flX8_15 rfl rfl (ev2) rfl rfl (oDec_at oX8_cut 4 rfl) (fun b3 b3h => ?_)
    refine r_icmp_le C 14 (oDec_at oX8_cut 5 rfl) (by decide) (fun cd4 => ?_) (fun cd4 => ?_)
    · skip
      refine r_aload_n C (j := 0) (oDec_at oX8_cut 8 rfl) rfl rfl ?_
      refine r_iload_n C (j := 1) (oDec_at oX8_cut 9 rfl) rfl rfl ?_
      refine r_puti (k := 1) (lo := 0) (hi := 1600) C oCl8 rfl (by decide) flX8_15 rfl rfl rfl rfl rfl rfl rfl rfl ⟨by omega, by omega⟩ (oDec_at oX8_cut 10 rfl) ?_
      refine r_iconst C (oDec_at oX8_cut 11 rfl) (v := k1) (by rw [qk1]; rfl) ?_
      have lk5 : (((pI s 1 1 a1)).1 1 1).toInt = a1.toInt := congrArg Int32.toInt ((pI_self _ _ _ _))
      exact r_zret C (n_bool (by omega)) (oDec_at oX8_cut 12 rfl) ⟨_, rfl, ⟨by omega, by omega⟩⟩
    · skip
      refine r_iconst C (oDec_at oX8_cut 6 rfl) (v := k0) (by rw [qk0]; rfl) ?_
      have lk6 : ((s).1 1 1).toInt = v2.toInt := congrArg Int32.toInt (ev2)
      exact r_zret C (n_bool (by omega)) (oDec_at oX8_cut 7 rfl) ⟨_, rfl, ⟨by omega, by omega⟩⟩
