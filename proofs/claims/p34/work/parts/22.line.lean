set_option maxHeartbeats 4000000 in
set_option maxRecDepth 100000 in
theorem ct_X4_holds (l : Launch) (E : oE) (s : oS) (c0 : Nat) (hk0 : okd c0 = 4) (a1 : Int32)  : oMet l 1 yX4_holds cX4_holds 2 (some .boolean) [] E s [.ref (oad E c0), .int a1] (oPi (fun r u => (0 ≤ r.toInt ∧ r.toInt ≤ 1) ∧ ((r.toInt = 1 ∧ 0 ≤ a1.toInt ∧ a1.toInt < (s.1 c0 4).toInt ∧ a1.toInt < 24) ∨ r.toInt = 0))) := by
  refine oMet.of (lv := [(0, .ref (oad E c0)), (1, .int a1)]) (by decide +kernel) (Nat.le_of_ble_eq_true rfl) rfl (fun J C hT => ?_)
  have C : oC l 1 cX4_holds RX4 2 (some .boolean) [] E s (oPi (fun r u => (0 ≤ r.toInt ∧ r.toInt ≤ 1) ∧ ((r.toInt = 1 ∧ 0 ≤ a1.toInt ∧ a1.toInt < (s.1 c0 4).toInt ∧ a1.toInt < 24) ∨ r.toInt = 0))) J := C
  obtain ⟨k0, qk0⟩ : ∃ z : Int32, z = 0 := ⟨_, rfl⟩
  have ek0 : k0.toInt = 0 := by rw [qk0]; rfl
  obtain ⟨k1, qk1⟩ : ∃ z : Int32, z = 1 := ⟨_, rfl⟩
  have ek1 : k1.toInt = 1 := by rw [qk1]; rfl
  obtain ⟨k24, qk24⟩ : ∃ z : Int32, z = 24 := ⟨_, rfl⟩
  have ek24 : k24.toInt = 24 := by rw [qk24]; rfl
  have rg1 := n_rng a1
  refine r_iload_n C (j := 1) (oDec_at oX4_holds 0 rfl) rfl rfl ?_
  refine r_if_lt C 22 (oDec_at oX4_holds 1 rfl) (by decide) (fun cd1 => ?_) (fun cd1 => ?_)
  · skip
    refine r_iconst C (oDec_at oX4_holds 11 rfl) (v := k0) (by rw [qk0]; rfl) ?_
    exact r_zret C (n_bool (by omega)) (oDec_at oX4_holds 12 rfl) ⟨_, rfl, ⟨by omega, by omega⟩⟩
  · skip
    refine r_iload_n C (j := 1) (oDec_at oX4_holds 2 rfl) rfl rfl ?_
    refine r_aload_n C (j := 0) (oDec_at oX4_holds 3 rfl) rfl rfl ?_
    obtain ⟨v2, ev2⟩ : ∃ z : Int32, (s).1 c0 4 = z := ⟨_, rfl⟩
    have gv2 : (s.1 c0 4).toInt = v2.toInt := congrArg Int32.toInt (ev2)
    refine r_geti (k := 4) (lo := 0) (hi := 24) C v2 oCl4 hk0 (by decide) flX4_28 rfl rfl (ev2) rfl rfl (oDec_at oX4_holds 4 rfl) (fun b3 b3h => ?_)
    refine r_icmp_ge C 22 (oDec_at oX4_holds 5 rfl) (by decide) (fun cd4 => ?_) (fun cd4 => ?_)
    · skip
      refine r_iconst C (oDec_at oX4_holds 11 rfl) (v := k0) (by rw [qk0]; rfl) ?_
      exact r_zret C (n_bool (by omega)) (oDec_at oX4_holds 12 rfl) ⟨_, rfl, ⟨by omega, by omega⟩⟩
    · skip
      refine r_iload_n C (j := 1) (oDec_at oX4_holds 6 rfl) rfl rfl ?_
      refine r_bipush C (oDec_at oX4_holds 7 rfl) (v := k24) (by rw [qk24]; rfl) ?_
      refine r_icmp_ge C 22 (oDec_at oX4_holds 8 rfl) (by decide) (fun cd5 => ?_) (fun cd5 => ?_)
      · skip
        refine r_iconst C (oDec_at oX4_holds 11 rfl) (v := k0) (by rw [qk0]; rfl) ?_
        exact r_zret C (n_bool (by omega)) (oDec_at oX4_holds 12 rfl) ⟨_, rfl, ⟨by omega, by omega⟩⟩
      · skip
        refine r_iconst C (oDec_at oX4_holds 9 rfl) (v := k1) (by rw [qk1]; rfl) ?_
        refine r_goto C (tgt := 23) (oDec_at oX4_holds 10 rfl) (by decide) ?_
        exact r_zret C (n_bool (by omega)) (oDec_at oX4_holds 12 rfl) ⟨_, rfl, ⟨by omega, by omega⟩⟩
set_option maxHeartbeats 4000000 in
set_option maxRecDepth 100000 in
theorem ct_X4_stepOf (l : Launch) (E : oE) (s : oS) (c0 : Nat) (hk0 : okd c0 = 4) (a1 : Int32)  : oMet l 2 yX4_stepOf cX4_stepOf 2 (some .int) [] E s [.ref (oad E c0), .int a1] (oPi (fun r u => True)) := by
  refine oMet.of (lv := [(0, .ref (oad E c0)), (1, .int a1)]) (by decide +kernel) (Nat.le_of_ble_eq_true rfl) rfl (fun J C hT => ?_)
  have C : oC l 2 cX4_stepOf RX4 2 (some .int) [] E s (oPi (fun r u => True)) J := C
  obtain ⟨km1, qkm1⟩ : ∃ z : Int32, z = (-1) := ⟨_, rfl⟩
  have ekm1 : km1.toInt = (-1) := by rw [qkm1]; rfl
  have rg1 := n_rng a1
  refine r_aload_n C (j := 0) (oDec_at oX4_stepOf 0 rfl) rfl rfl ?_
  refine r_iload_n C (j := 1) (oDec_at oX4_stepOf 1 rfl) rfl rfl ?_
  refine r_callVi C oCl4 hk0 miX4_holds mlX4_52 (ct_X4_holds l E (s) c0 hk0 a1 ) (by decide) rfl rfl rfl (Nat.le_of_ble_eq_true rfl) (oDec_at oX4_stepOf 2 rfl) (fun r2 u1 pu1 fu1 => ?_)
  try dsimp only at pu1
  have rr2 := n_rng r2
  refine r_if_eq C 17 (oDec_at oX4_stepOf 3 rfl) (by decide) (fun cd3 => ?_) (fun cd3 => ?_)
  · skip
    refine r_iconst C (oDec_at oX4_stepOf 9 rfl) (v := km1) (by rw [qkm1]; rfl) ?_
    exact r_iret C (oDec_at oX4_stepOf 10 rfl) ⟨_, rfl, trivial⟩
  · skip
    refine r_aload_n C (j := 0) (oDec_at oX4_stepOf 4 rfl) rfl rfl ?_
    refine r_getR (k := 0) (b := 1) C oCl4 hk0 (by decide) flX4_9 rfl rfl rfl (oDec_at oX4_stepOf 5 rfl) ?_
    refine r_iload_n C (j := 1) (oDec_at oX4_stepOf 6 rfl) rfl rfl ?_
    obtain ⟨v4, ev4⟩ : ∃ z : Int32, (u1).1 (c0 + 1) a1.toNatClampNeg = z := ⟨_, rfl⟩
    have rv4 := n_rng v4
    refine r_iald (n := 24) (lo := (-2147483648)) (hi := 2147483647) C v4 (kr4_1 hk0) (by decide) rfl rfl ⟨by omega, by omega⟩ (by decide) ev4 rfl rfl (oDec_at oX4_stepOf 7 rfl) (fun _ _ => ?_)
    refine r_goto C (tgt := 18) (oDec_at oX4_stepOf 8 rfl) (by decide) ?_
    exact r_iret C (oDec_at oX4_stepOf 10 rfl) ⟨_, rfl, trivial⟩
set_option maxHeartbeats 4000000 in
set_option maxRecDepth 100000 in
theorem ct_X4_lengthOf (l : Launch) (E : oE) (s : oS) (c0 : Nat) (hk0 : okd c0 = 4) (a1 : Int32)  : oMet l 2 yX4_lengthOf cX4_lengthOf 2 (some .int) [] E s [.ref (oad E c0), .int a1] (oPi (fun r u => True)) := by
  refine oMet.of (lv := [(0, .ref (oad E c0)), (1, .int a1)]) (by decide +kernel) (Nat.le_of_ble_eq_true rfl) rfl (fun J C hT => ?_)
  have C : oC l 2 cX4_lengthOf RX4 2 (some .int) [] E s (oPi (fun r u => True)) J := C
  obtain ⟨km1, qkm1⟩ : ∃ z : Int32, z = (-1) := ⟨_, rfl⟩
  have ekm1 : km1.toInt = (-1) := by rw [qkm1]; rfl
  have rg1 := n_rng a1
  refine r_aload_n C (j := 0) (oDec_at oX4_lengthOf 0 rfl) rfl rfl ?_
  refine r_iload_n C (j := 1) (oDec_at oX4_lengthOf 1 rfl) rfl rfl ?_
  refine r_callVi C oCl4 hk0 miX4_holds mlX4_52 (ct_X4_holds l E (s) c0 hk0 a1 ) (by decide) rfl rfl rfl (Nat.le_of_ble_eq_true rfl) (oDec_at oX4_lengthOf 2 rfl) (fun r2 u1 pu1 fu1 => ?_)
  try dsimp only at pu1
  have rr2 := n_rng r2
  refine r_if_eq C 17 (oDec_at oX4_lengthOf 3 rfl) (by decide) (fun cd3 => ?_) (fun cd3 => ?_)
  · skip
    refine r_iconst C (oDec_at oX4_lengthOf 9 rfl) (v := km1) (by rw [qkm1]; rfl) ?_
    exact r_iret C (oDec_at oX4_lengthOf 10 rfl) ⟨_, rfl, trivial⟩
  · skip
    refine r_aload_n C (j := 0) (oDec_at oX4_lengthOf 4 rfl) rfl rfl ?_
    refine r_getR (k := 1) (b := 2) C oCl4 hk0 (by decide) flX4_15 rfl rfl rfl (oDec_at oX4_lengthOf 5 rfl) ?_
    refine r_iload_n C (j := 1) (oDec_at oX4_lengthOf 6 rfl) rfl rfl ?_
    obtain ⟨v4, ev4⟩ : ∃ z : Int32, (u1).1 (c0 + 2) a1.toNatClampNeg = z := ⟨_, rfl⟩
    have rv4 := n_rng v4
    refine r_iald (n := 24) (lo := (-2147483648)) (hi := 2147483647) C v4 (kr4_2 hk0) (by decide) rfl rfl ⟨by omega, by omega⟩ (by decide) ev4 rfl rfl (oDec_at oX4_lengthOf 7 rfl) (fun _ _ => ?_)
    refine r_goto C (tgt := 18) (oDec_at oX4_lengthOf 8 rfl) (by decide) ?_
    exact r_iret C (oDec_at oX4_lengthOf 10 rfl) ⟨_, rfl, trivial⟩
set_option maxHeartbeats 4000000 in
set_option maxRecDepth 100000 in
theorem ct_X4_startOf (l : Launch) (E : oE) (s : oS) (c0 : Nat) (hk0 : okd c0 = 4) (a1 : Int32)  : oMet l 2 yX4_startOf cX4_startOf 2 (some .int) [] E s [.ref (oad E c0), .int a1] (oPi (fun r u => True)) := by
  refine oMet.of (lv := [(0, .ref (oad E c0)), (1, .int a1)]) (by decide +kernel) (Nat.le_of_ble_eq_true rfl) rfl (fun J C hT => ?_)
  have C : oC l 2 cX4_startOf RX4 2 (some .int) [] E s (oPi (fun r u => True)) J := C
  obtain ⟨km1, qkm1⟩ : ∃ z : Int32, z = (-1) := ⟨_, rfl⟩
  have ekm1 : km1.toInt = (-1) := by rw [qkm1]; rfl
  have rg1 := n_rng a1
  refine r_aload_n C (j := 0) (oDec_at oX4_startOf 0 rfl) rfl rfl ?_
  refine r_iload_n C (j := 1) (oDec_at oX4_startOf 1 rfl) rfl rfl ?_
  refine r_callVi C oCl4 hk0 miX4_holds mlX4_52 (ct_X4_holds l E (s) c0 hk0 a1 ) (by decide) rfl rfl rfl (Nat.le_of_ble_eq_true rfl) (oDec_at oX4_startOf 2 rfl) (fun r2 u1 pu1 fu1 => ?_)
  try dsimp only at pu1
  have rr2 := n_rng r2
  refine r_if_eq C 17 (oDec_at oX4_startOf 3 rfl) (by decide) (fun cd3 => ?_) (fun cd3 => ?_)
  · skip
    refine r_iconst C (oDec_at oX4_startOf 9 rfl) (v := km1) (by rw [qkm1]; rfl) ?_
    exact r_iret C (oDec_at oX4_startOf 10 rfl) ⟨_, rfl, trivial⟩
  · skip
    refine r_aload_n C (j := 0) (oDec_at oX4_startOf 4 rfl) rfl rfl ?_
    refine r_getR (k := 2) (b := 3) C oCl4 hk0 (by decide) flX4_18 rfl rfl rfl (oDec_at oX4_startOf 5 rfl) ?_
    refine r_iload_n C (j := 1) (oDec_at oX4_startOf 6 rfl) rfl rfl ?_
    obtain ⟨v4, ev4⟩ : ∃ z : Int32, (u1).1 (c0 + 3) a1.toNatClampNeg = z := ⟨_, rfl⟩
    have rv4 := n_rng v4
    refine r_iald (n := 24) (lo := (-2147483648)) (hi := 2147483647) C v4 (kr4_3 hk0) (by decide) rfl rfl ⟨by omega, by omega⟩ (by decide) ev4 rfl rfl (oDec_at oX4_startOf 7 rfl) (fun _ _ => ?_)
    refine r_goto C (tgt := 18) (oDec_at oX4_startOf 8 rfl) (by decide) ?_
    exact r_iret C (oDec_at oX4_startOf 10 rfl) ⟨_, rfl, trivial⟩
set_option maxHeartbeats 4000000 in
set_option maxRecDepth 100000 in
theorem ct_X4_ownerOf (l : Launch) (E : oE) (s : oS) (c0 : Nat) (hk0 : okd c0 = 4) (a1 : Int32)  : oMet l 1 yX4_ownerOf cX4_ownerOf 2 (some .int) [] E s [.ref (oad E c0), .int a1] (oPi (fun r u => True)) := by
  refine oMet.of (lv := [(0, .ref (oad E c0)), (1, .int a1)]) (by decide +kernel) (Nat.le_of_ble_eq_true rfl) rfl (fun J C hT => ?_)
  have C : oC l 1 cX4_ownerOf RX4 2 (some .int) [] E s (oPi (fun r u => True)) J := C
  obtain ⟨km1, qkm1⟩ : ∃ z : Int32, z = (-1) := ⟨_, rfl⟩
  have ekm1 : km1.toInt = (-1) := by rw [qkm1]; rfl
  obtain ⟨k96, qk96⟩ : ∃ z : Int32, z = 96 := ⟨_, rfl⟩
  have ek96 : k96.toInt = 96 := by rw [qk96]; rfl
  have rg1 := n_rng a1
  refine r_iload_n C (j := 1) (oDec_at oX4_ownerOf 0 rfl) rfl rfl ?_
  refine r_if_lt C 27 (oDec_at oX4_ownerOf 1 rfl) (by decide) (fun cd1 => ?_) (fun cd1 => ?_)
  · skip
    refine r_iconst C (oDec_at oX4_ownerOf 14 rfl) (v := km1) (by rw [qkm1]; rfl) ?_
    exact r_iret C (oDec_at oX4_ownerOf 15 rfl) ⟨_, rfl, trivial⟩
  · skip
    refine r_iload_n C (j := 1) (oDec_at oX4_ownerOf 2 rfl) rfl rfl ?_
    refine r_aload_n C (j := 0) (oDec_at oX4_ownerOf 3 rfl) rfl rfl ?_
    obtain ⟨v2, ev2⟩ : ∃ z : Int32, (s).1 c0 5 = z := ⟨_, rfl⟩
    have gv2 : (s.1 c0 5).toInt = v2.toInt := congrArg Int32.toInt (ev2)
    refine r_geti (k := 5) (lo := 0) (hi := 96) C v2 oCl4 hk0 (by decide) flX4_31 rfl rfl (ev2) rfl rfl (oDec_at oX4_ownerOf 4 rfl) (fun b3 b3h => ?_)
    refine r_icmp_ge C 27 (oDec_at oX4_ownerOf 5 rfl) (by decide) (fun cd4 => ?_) (fun cd4 => ?_)
    · skip
      refine r_iconst C (oDec_at oX4_ownerOf 14 rfl) (v := km1) (by rw [qkm1]; rfl) ?_
      exact r_iret C (oDec_at oX4_ownerOf 15 rfl) ⟨_, rfl, trivial⟩
    · skip
      refine r_iload_n C (j := 1) (oDec_at oX4_ownerOf 6 rfl) rfl rfl ?_
      refine r_bipush C (oDec_at oX4_ownerOf 7 rfl) (v := k96) (by rw [qk96]; rfl) ?_
      refine r_icmp_ge C 27 (oDec_at oX4_ownerOf 8 rfl) (by decide) (fun cd5 => ?_) (fun cd5 => ?_)
      · skip
        refine r_iconst C (oDec_at oX4_ownerOf 14 rfl) (v := km1) (by rw [qkm1]; rfl) ?_
        exact r_iret C (oDec_at oX4_ownerOf 15 rfl) ⟨_, rfl, trivial⟩
      · skip
        refine r_aload_n C (j := 0) (oDec_at oX4_ownerOf 9 rfl) rfl rfl ?_
        refine r_getR (k := 3) (b := 4) C oCl4 hk0 (by decide) flX4_21 rfl rfl rfl (oDec_at oX4_ownerOf 10 rfl) ?_
        refine r_iload_n C (j := 1) (oDec_at oX4_ownerOf 11 rfl) rfl rfl ?_
        obtain ⟨v6, ev6⟩ : ∃ z : Int32, (s).1 (c0 + 4) a1.toNatClampNeg = z := ⟨_, rfl⟩
        have rv6 := n_rng v6
        refine r_iald (n := 96) (lo := (-2147483648)) (hi := 2147483647) C v6 (kr4_4 hk0) (by decide) rfl rfl ⟨by omega, by omega⟩ (by decide) ev6 rfl rfl (oDec_at oX4_ownerOf 12 rfl) (fun _ _ => ?_)
        refine r_goto C (tgt := 28) (oDec_at oX4_ownerOf 13 rfl) (by decide) ?_
        exact r_iret C (oDec_at oX4_ownerOf 15 rfl) ⟨_, rfl, trivial⟩
set_option maxHeartbeats 4000000 in
set_option maxRecDepth 100000 in
theorem ct_X4_rests (l : Launch) (E : oE) (s : oS) (c0 : Nat) (hk0 : okd c0 = 4)  : oMet l 3 yX4_rests cX4_rests 3 (some .int) [] E s [.ref (oad E c0)] (oPi (fun r u => True)) := by
  refine oMet.of (lv := [(0, .ref (oad E c0))]) (by decide +kernel) (Nat.le_of_ble_eq_true rfl) rfl (fun J C hT => ?_)
  have C : oC l 3 cX4_rests RX4 3 (some .int) [] E s (oPi (fun r u => True)) J := C
  obtain ⟨km1, qkm1⟩ : ∃ z : Int32, z = (-1) := ⟨_, rfl⟩
  have ekm1 : km1.toInt = (-1) := by rw [qkm1]; rfl
  obtain ⟨k0, qk0⟩ : ∃ z : Int32, z = 0 := ⟨_, rfl⟩
  have ek0 : k0.toInt = 0 := by rw [qk0]; rfl
  obtain ⟨k1, qk1⟩ : ∃ z : Int32, z = 1 := ⟨_, rfl⟩
  have ek1 : k1.toInt = 1 := by rw [qk1]; rfl
  have key : ∀ n : Nat, (∀ (t : oS) (x1 : Int32) (x2 : Int32), (0 ≤ x1.toInt ∧ x1.toInt ≤ x2.toInt) → (0 ≤ x2.toInt ∧ x2.toInt ≤ 24) → 25 - x2.toInt ≤ (n : Int) → J t 4 [(0, .ref (oad E c0)), (1, .int x1), (2, .int x2)] []) := by
    intro n
    induction n using Nat.strongRecOn with
    | _ n ih =>
      skip
      · intro t x1 x2  iv0 iv1 hmu
        have rx1 := n_rng x1
        have rx2 := n_rng x2
        refine r_iload_n C (j := 2) (oDec_at oX4_rests 4 rfl) rfl rfl ?_
        refine r_aload_n C (j := 0) (oDec_at oX4_rests 5 rfl) rfl rfl ?_
        obtain ⟨v1, ev1⟩ : ∃ z : Int32, (t).1 c0 4 = z := ⟨_, rfl⟩
        have gv1 : (t.1 c0 4).toInt = v1.toInt := congrArg Int32.toInt (ev1)
        refine r_geti (k := 4) (lo := 0) (hi := 24) C v1 oCl4 hk0 (by decide) flX4_28 rfl rfl (ev1) rfl rfl (oDec_at oX4_rests 6 rfl) (fun b2 b2h => ?_)
        refine r_icmp_ge C 35 (oDec_at oX4_rests 7 rfl) (by decide) (fun cd3 => ?_) (fun cd3 => ?_)
        · skip
          refine r_iload_n C (j := 1) (oDec_at oX4_rests 21 rfl) rfl rfl ?_
          exact r_iret C (oDec_at oX4_rests 22 rfl) ⟨_, rfl, trivial⟩
        · skip
          refine r_iload_n C (j := 1) (oDec_at oX4_rests 8 rfl) rfl rfl ?_
          refine r_aload_n C (j := 0) (oDec_at oX4_rests 9 rfl) rfl rfl ?_
          refine r_iload_n C (j := 2) (oDec_at oX4_rests 10 rfl) rfl rfl ?_
          refine r_callVi C oCl4 hk0 miX4_stepOf mlX4_41 (ct_X4_stepOf l E (t) c0 hk0 x2 ) (by decide) rfl rfl rfl (Nat.le_of_ble_eq_true rfl) (oDec_at oX4_rests 11 rfl) (fun r5 u4 pu4 fu4 => ?_)
          try dsimp only at pu4
          have rr5 := n_rng r5
          refine r_iconst C (oDec_at oX4_rests 12 rfl) (v := km1) (by rw [qkm1]; rfl) ?_
          refine r_icmp_ne C 26 (oDec_at oX4_rests 13 rfl) (by decide) (fun cd6 => ?_) (fun cd6 => ?_)
          · skip
            refine r_iconst C (oDec_at oX4_rests 16 rfl) (v := k0) (by rw [qk0]; rfl) ?_
            obtain ⟨v7, ev7⟩ : ∃ z : Int32, z = x1 + k0 := ⟨_, rfl⟩
            have hv7 : v7.toInt = x1.toInt + k0.toInt := n_add ev7 (by omega) (by omega)
            refine r_iadd C v7 (oDec_at oX4_rests 17 rfl) ev7 ?_
            refine r_istore_n C (lv' := [(0, .ref (oad E c0)), (1, .int v7), (2, .int x2)]) [1, 0, 2] (oDec_at oX4_rests 18 rfl) rfl (by decide) rfl ?_
            obtain ⟨v8, ev8⟩ : ∃ z : Int32, x2 + Int32.ofInt 1 = z := ⟨_, rfl⟩
            have hv8 : v8.toInt = x2.toInt + 1 := n_inc ev8 (by decide) (by omega) (by omega)
            refine r_iinc C (j := 2) (lv' := [(0, .ref (oad E c0)), (1, .int v7), (2, .int v8)]) v8 [1, 2, 0] (oDec_at oX4_rests 19 rfl) rfl ev8 (by decide) rfl ?_
            refine r_goto C (tgt := 4) (oDec_at oX4_rests 20 rfl) (by decide) ?_
            exact (ih (n - 1) (by omega)) (u4) v7 v8  (by omega) (by omega) (by omega)
          · skip
            refine r_iconst C (oDec_at oX4_rests 14 rfl) (v := k1) (by rw [qk1]; rfl) ?_
            refine r_goto C (tgt := 27) (oDec_at oX4_rests 15 rfl) (by decide) ?_
            obtain ⟨v9, ev9⟩ : ∃ z : Int32, z = x1 + k1 := ⟨_, rfl⟩
            have hv9 : v9.toInt = x1.toInt + k1.toInt := n_add ev9 (by omega) (by omega)
            refine r_iadd C v9 (oDec_at oX4_rests 17 rfl) ev9 ?_
            refine r_istore_n C (lv' := [(0, .ref (oad E c0)), (1, .int v9), (2, .int x2)]) [1, 0, 2] (oDec_at oX4_rests 18 rfl) rfl (by decide) rfl ?_
            obtain ⟨v10, ev10⟩ : ∃ z : Int32, x2 + Int32.ofInt 1 = z := ⟨_, rfl⟩
            have hv10 : v10.toInt = x2.toInt + 1 := n_inc ev10 (by decide) (by omega) (by omega)
            refine r_iinc C (j := 2) (lv' := [(0, .ref (oad E c0)), (1, .int v9), (2, .int v10)]) v10 [1, 2, 0] (oDec_at oX4_rests 19 rfl) rfl ev10 (by decide) rfl ?_
            refine r_goto C (tgt := 4) (oDec_at oX4_rests 20 rfl) (by decide) ?_
            exact (ih (n - 1) (by omega)) (u4) v9 v10  (by omega) (by omega) (by omega)
  refine r_iconst C (oDec_at oX4_rests 0 rfl) (v := k0) (by rw [qk0]; rfl) ?_
  refine r_istore_n C (lv' := [(0, .ref (oad E c0)), (1, .int k0)]) [1, 0] (oDec_at oX4_rests 1 rfl) rfl (by decide) rfl ?_
  refine r_iconst C (oDec_at oX4_rests 2 rfl) (v := k0) (by rw [qk0]; rfl) ?_
  refine r_istore_n C (lv' := [(0, .ref (oad E c0)), (1, .int k0), (2, .int k0)]) [1, 2, 0] (oDec_at oX4_rests 3 rfl) rfl (by decide) rfl ?_
  exact (key (25 - k0.toInt).toNat) (s) k0 k0  (by omega) (by omega) (by omega)
