set_option maxHeartbeats 4000000 in
set_option maxRecDepth 100000 in
theorem ct_X4_clear (l : Launch) (E : oE) (s : oS) (c0 : Nat) (hk0 : okd c0 = 4)  : oMet l 1 yX4_clear cX4_clear 1 none [(4, 4), (4, 5), (4, 6), (4, 7)] E s [.ref (oad E c0)] (oPv (fun u => ((u.1 c0 4).toInt = 0) ∧ ((u.1 c0 5).toInt = 0))) := by
  refine oMet.of (lv := [(0, .ref (oad E c0))]) (by decide +kernel) (Nat.le_of_ble_eq_true rfl) rfl (fun J C hT => ?_)
  have C : oC l 1 cX4_clear RX4 1 none [(4, 4), (4, 5), (4, 6), (4, 7)] E s (oPv (fun u => ((u.1 c0 4).toInt = 0) ∧ ((u.1 c0 5).toInt = 0))) J := C
  obtain ⟨km1, qkm1⟩ : ∃ z : Int32, z = (-1) := ⟨_, rfl⟩
  have ekm1 : km1.toInt = (-1) := by rw [qkm1]; rfl
  obtain ⟨k0, qk0⟩ : ∃ z : Int32, z = 0 := ⟨_, rfl⟩
  have ek0 : k0.toInt = 0 := by rw [qk0]; rfl
  refine r_aload_n C (j := 0) dX4_clear_0 rfl rfl ?_
  refine r_iconst C dX4_clear_1 (v := k0) (by rw [qk0]; rfl) ?_
  refine r_puti (k := 4) (lo := 0) (hi := 24) C oCl4 hk0 (by decide) flX4_28 rfl rfl rfl rfl rfl rfl rfl rfl ⟨by omega, by omega⟩ dX4_clear_2 ?_
  refine r_aload_n C (j := 0) dX4_clear_5 rfl rfl ?_
  refine r_iconst C dX4_clear_6 (v := k0) (by rw [qk0]; rfl) ?_
  refine r_puti (k := 5) (lo := 0) (hi := 96) C oCl4 hk0 (by decide) flX4_31 rfl rfl rfl rfl rfl rfl rfl rfl ⟨by omega, by omega⟩ dX4_clear_7 ?_
  refine r_aload_n C (j := 0) dX4_clear_10 rfl rfl ?_
  refine r_iconst C dX4_clear_11 (v := km1) (by rw [qkm1]; rfl) ?_
  refine r_puti (k := 6) (lo := (-2147483648)) (hi := 2147483647) C oCl4 hk0 (by decide) flX4_24 rfl rfl rfl rfl rfl rfl rfl rfl (n_rng _) dX4_clear_12 ?_
  refine r_aload_n C (j := 0) dX4_clear_15 rfl rfl ?_
  refine r_iconst C dX4_clear_16 (v := k0) (by rw [qk0]; rfl) ?_
  refine r_puti (k := 7) (lo := 0) (hi := 1) C oCl4 hk0 (by decide) flX4_34 rfl rfl rfl rfl rfl (n_bool (by omega)) rfl rfl ⟨by omega, by omega⟩ dX4_clear_17 ?_
  have lk1 : (((pI (pI (pI (pI s c0 4 k0) c0 5 k0) c0 6 km1) c0 7 k0)).1 c0 4).toInt = k0.toInt := congrArg Int32.toInt (((pI_ne _ _ (Or.inr (by decide)))).trans ((pI_ne _ _ (Or.inr (by decide)))).trans ((pI_ne _ _ (Or.inr (by decide)))).trans (pI_self _ _ _ _))
  have lk2 : (((pI (pI (pI (pI s c0 4 k0) c0 5 k0) c0 6 km1) c0 7 k0)).1 c0 5).toInt = k0.toInt := congrArg Int32.toInt (((pI_ne _ _ (Or.inr (by decide)))).trans ((pI_ne _ _ (Or.inr (by decide)))).trans (pI_self _ _ _ _))
  exact r_vret C dX4_clear_20 ⟨rfl, ⟨by omega, by omega⟩⟩
set_option maxHeartbeats 4000000 in
set_option maxRecDepth 100000 in
theorem ct_X4_holds (l : Launch) (E : oE) (s : oS) (c0 : Nat) (hk0 : okd c0 = 4) (a1 : Int32)  : oMet l 1 yX4_holds cX4_holds 2 (some .boolean) [] E s [.ref (oad E c0), .int a1] (oPi (fun r u => (0 ≤ r.toInt ∧ r.toInt ≤ 1) ∧ ((r.toInt = 1 ∧ 0 ≤ a1.toInt ∧ a1.toInt < (s.1 c0 4).toInt ∧ a1.toInt < 24) ∨ r.toInt = 0))) := by
  refine oMet.of (lv := [(0, .ref (oad E c0)), (1, .int a1)]) (by decide +kernel) (Nat.le_of_ble_eq_true rfl) rfl (fun J C hT => ?_)
  have C : oC l 1 cX4_holds RX4 2 (some .boolean) [] E s (oPi (fun r u => (0 ≤ r.toInt ∧ r.toInt ≤ 1) ∧ ((r.toInt = 1 ∧ 0 ≤ a1.toInt ∧ a1.toInt < (s.1 c0 4).toInt ∧ a1.toInt < 24) ∨ r.toInt = 0))) J := C
  obtain ⟨k0, qk0⟩ : ∃ z : Int32, z = 0 := ⟨_, rfl⟩
  have ek0 : k0.toInt = 0 := by rw [qk0]; rfl
  obtain ⟨k1, qk1⟩ : ∃ z : Int32, z = 1 := ⟨_, rfl⟩
  have ek1 : k1.toInt = 1 := by rw [qk1]; rfl
  obtain ⟨k24, qk24⟩ : ∃ z : Int32, z = 24 := ⟨_, rfl⟩
  have ek24 : k24.toInt = 24 := by rw [qk24]; rfl
  have rg1 := n_rng a1
  refine r_iload_n C (j := 1) dX4_holds_0 rfl rfl ?_
  refine r_if_lt C 22 dX4_holds_1 (by decide) (fun c1 => ?_) (fun c1 => ?_)
  · skip
    refine r_iconst C dX4_holds_22 (v := k0) (by rw [qk0]; rfl) ?_
    exact r_zret C (n_bool (by omega)) dX4_holds_23 ⟨_, rfl, ⟨by omega, by omega⟩⟩
  · skip
    refine r_iload_n C (j := 1) dX4_holds_4 rfl rfl ?_
    refine r_aload_n C (j := 0) dX4_holds_5 rfl rfl ?_
    obtain ⟨v2, ev2⟩ : ∃ z : Int32, (s).1 c0 4 = z := ⟨_, rfl⟩
    have gv2 : (s.1 c0 4).toInt = v2.toInt := congrArg Int32.toInt (ev2)
    refine r_geti (k := 4) (lo := 0) (hi := 24) C v2 oCl4 hk0 (by decide) flX4_28 rfl rfl (ev2) rfl rfl dX4_holds_6 (fun b3 b3h => ?_)
    refine r_icmp_ge C 22 dX4_holds_9 (by decide) (fun c4 => ?_) (fun c4 => ?_)
    · skip
      refine r_iconst C dX4_holds_22 (v := k0) (by rw [qk0]; rfl) ?_
      exact r_zret C (n_bool (by omega)) dX4_holds_23 ⟨_, rfl, ⟨by omega, by omega⟩⟩
    · skip
      refine r_iload_n C (j := 1) dX4_holds_12 rfl rfl ?_
      refine r_bipush C dX4_holds_13 (v := k24) (by rw [qk24]; rfl) ?_
      refine r_icmp_ge C 22 dX4_holds_15 (by decide) (fun c5 => ?_) (fun c5 => ?_)
      · skip
        refine r_iconst C dX4_holds_22 (v := k0) (by rw [qk0]; rfl) ?_
        exact r_zret C (n_bool (by omega)) dX4_holds_23 ⟨_, rfl, ⟨by omega, by omega⟩⟩
      · skip
        refine r_iconst C dX4_holds_18 (v := k1) (by rw [qk1]; rfl) ?_
        refine r_goto C (tgt := 23) dX4_holds_19 (by decide) ?_
        exact r_zret C (n_bool (by omega)) dX4_holds_23 ⟨_, rfl, ⟨by omega, by omega⟩⟩
set_option maxHeartbeats 4000000 in
set_option maxRecDepth 100000 in
theorem ct_X4_stepOf (l : Launch) (E : oE) (s : oS) (c0 : Nat) (hk0 : okd c0 = 4) (a1 : Int32)  : oMet l 2 yX4_stepOf cX4_stepOf 2 (some .int) [] E s [.ref (oad E c0), .int a1] (oPi (fun r u => True)) := by
  refine oMet.of (lv := [(0, .ref (oad E c0)), (1, .int a1)]) (by decide +kernel) (Nat.le_of_ble_eq_true rfl) rfl (fun J C hT => ?_)
  have C : oC l 2 cX4_stepOf RX4 2 (some .int) [] E s (oPi (fun r u => True)) J := C
  obtain ⟨km1, qkm1⟩ : ∃ z : Int32, z = (-1) := ⟨_, rfl⟩
  have ekm1 : km1.toInt = (-1) := by rw [qkm1]; rfl
  have rg1 := n_rng a1
  refine r_aload_n C (j := 0) dX4_stepOf_0 rfl rfl ?_
  refine r_iload_n C (j := 1) dX4_stepOf_1 rfl rfl ?_
  refine r_callVi C oCl4 hk0 miX4_holds mlX4_52 (ct_X4_holds l E (s) c0 hk0 a1 ) (by decide) rfl rfl rfl (Nat.le_of_ble_eq_true rfl) dX4_stepOf_2 (fun r2 u1 pu1 fu1 => ?_)
  try dsimp only at pu1
  have rr2 := n_rng r2
  refine r_if_eq C 17 dX4_stepOf_5 (by decide) (fun c3 => ?_) (fun c3 => ?_)
  · skip
    refine r_iconst C dX4_stepOf_17 (v := km1) (by rw [qkm1]; rfl) ?_
    exact r_iret C dX4_stepOf_18 ⟨_, rfl, trivial⟩
  · skip
    refine r_aload_n C (j := 0) dX4_stepOf_8 rfl rfl ?_
    refine r_getR (k := 0) (b := 1) C oCl4 hk0 (by decide) flX4_9 rfl rfl rfl dX4_stepOf_9 ?_
    refine r_iload_n C (j := 1) dX4_stepOf_12 rfl rfl ?_
    obtain ⟨v4, ev4⟩ : ∃ z : Int32, (u1).1 (c0 + 1) a1.toNatClampNeg = z := ⟨_, rfl⟩
    have rv4 := n_rng v4
    refine r_iald (n := 24) (lo := (-2147483648)) (hi := 2147483647) C v4 (kr4_1 hk0) (by decide) rfl rfl ⟨by omega, by omega⟩ (by decide) ev4 rfl rfl dX4_stepOf_13 (fun _ _ => ?_)
    refine r_goto C (tgt := 18) dX4_stepOf_14 (by decide) ?_
    exact r_iret C dX4_stepOf_18 ⟨_, rfl, trivial⟩
set_option maxHeartbeats 4000000 in
set_option maxRecDepth 100000 in
theorem ct_X4_lengthOf (l : Launch) (E : oE) (s : oS) (c0 : Nat) (hk0 : okd c0 = 4) (a1 : Int32)  : oMet l 2 yX4_lengthOf cX4_lengthOf 2 (some .int) [] E s [.ref (oad E c0), .int a1] (oPi (fun r u => True)) := by
  refine oMet.of (lv := [(0, .ref (oad E c0)), (1, .int a1)]) (by decide +kernel) (Nat.le_of_ble_eq_true rfl) rfl (fun J C hT => ?_)
  have C : oC l 2 cX4_lengthOf RX4 2 (some .int) [] E s (oPi (fun r u => True)) J := C
  obtain ⟨km1, qkm1⟩ : ∃ z : Int32, z = (-1) := ⟨_, rfl⟩
  have ekm1 : km1.toInt = (-1) := by rw [qkm1]; rfl
  have rg1 := n_rng a1
  refine r_aload_n C (j := 0) dX4_lengthOf_0 rfl rfl ?_
  refine r_iload_n C (j := 1) dX4_lengthOf_1 rfl rfl ?_
  refine r_callVi C oCl4 hk0 miX4_holds mlX4_52 (ct_X4_holds l E (s) c0 hk0 a1 ) (by decide) rfl rfl rfl (Nat.le_of_ble_eq_true rfl) dX4_lengthOf_2 (fun r2 u1 pu1 fu1 => ?_)
  try dsimp only at pu1
  have rr2 := n_rng r2
  refine r_if_eq C 17 dX4_lengthOf_5 (by decide) (fun c3 => ?_) (fun c3 => ?_)
  · skip
    refine r_iconst C dX4_lengthOf_17 (v := km1) (by rw [qkm1]; rfl) ?_
    exact r_iret C dX4_lengthOf_18 ⟨_, rfl, trivial⟩
  · skip
    refine r_aload_n C (j := 0) dX4_lengthOf_8 rfl rfl ?_
    refine r_getR (k := 1) (b := 2) C oCl4 hk0 (by decide) flX4_15 rfl rfl rfl dX4_lengthOf_9 ?_
    refine r_iload_n C (j := 1) dX4_lengthOf_12 rfl rfl ?_
    obtain ⟨v4, ev4⟩ : ∃ z : Int32, (u1).1 (c0 + 2) a1.toNatClampNeg = z := ⟨_, rfl⟩
    have rv4 := n_rng v4
    refine r_iald (n := 24) (lo := (-2147483648)) (hi := 2147483647) C v4 (kr4_2 hk0) (by decide) rfl rfl ⟨by omega, by omega⟩ (by decide) ev4 rfl rfl dX4_lengthOf_13 (fun _ _ => ?_)
    refine r_goto C (tgt := 18) dX4_lengthOf_14 (by decide) ?_
    exact r_iret C dX4_lengthOf_18 ⟨_, rfl, trivial⟩
set_option maxHeartbeats 4000000 in
set_option maxRecDepth 100000 in
theorem ct_X4_startOf (l : Launch) (E : oE) (s : oS) (c0 : Nat) (hk0 : okd c0 = 4) (a1 : Int32)  : oMet l 2 yX4_startOf cX4_startOf 2 (some .int) [] E s [.ref (oad E c0), .int a1] (oPi (fun r u => True)) := by
  refine oMet.of (lv := [(0, .ref (oad E c0)), (1, .int a1)]) (by decide +kernel) (Nat.le_of_ble_eq_true rfl) rfl (fun J C hT => ?_)
  have C : oC l 2 cX4_startOf RX4 2 (some .int) [] E s (oPi (fun r u => True)) J := C
  obtain ⟨km1, qkm1⟩ : ∃ z : Int32, z = (-1) := ⟨_, rfl⟩
  have ekm1 : km1.toInt = (-1) := by rw [qkm1]; rfl
  have rg1 := n_rng a1
  refine r_aload_n C (j := 0) dX4_startOf_0 rfl rfl ?_
  refine r_iload_n C (j := 1) dX4_startOf_1 rfl rfl ?_
  refine r_callVi C oCl4 hk0 miX4_holds mlX4_52 (ct_X4_holds l E (s) c0 hk0 a1 ) (by decide) rfl rfl rfl (Nat.le_of_ble_eq_true rfl) dX4_startOf_2 (fun r2 u1 pu1 fu1 => ?_)
  try dsimp only at pu1
  have rr2 := n_rng r2
  refine r_if_eq C 17 dX4_startOf_5 (by decide) (fun c3 => ?_) (fun c3 => ?_)
  · skip
    refine r_iconst C dX4_startOf_17 (v := km1) (by rw [qkm1]; rfl) ?_
    exact r_iret C dX4_startOf_18 ⟨_, rfl, trivial⟩
  · skip
    refine r_aload_n C (j := 0) dX4_startOf_8 rfl rfl ?_
    refine r_getR (k := 2) (b := 3) C oCl4 hk0 (by decide) flX4_18 rfl rfl rfl dX4_startOf_9 ?_
    refine r_iload_n C (j := 1) dX4_startOf_12 rfl rfl ?_
    obtain ⟨v4, ev4⟩ : ∃ z : Int32, (u1).1 (c0 + 3) a1.toNatClampNeg = z := ⟨_, rfl⟩
    have rv4 := n_rng v4
    refine r_iald (n := 24) (lo := (-2147483648)) (hi := 2147483647) C v4 (kr4_3 hk0) (by decide) rfl rfl ⟨by omega, by omega⟩ (by decide) ev4 rfl rfl dX4_startOf_13 (fun _ _ => ?_)
    refine r_goto C (tgt := 18) dX4_startOf_14 (by decide) ?_
    exact r_iret C dX4_startOf_18 ⟨_, rfl, trivial⟩
set_option maxHeartbeats 4000000 in
set_option maxRecDepth 100000 in
theorem ct_X4_ownerOf (l : Launch) (E : oE) (s : oS) (c0 : Nat) (hk0 : okd c0 = 4) (a1 : Int32)  : oMet l 1 yX4_ownerOf cX4_ownerOf 2 (some .int) [] E s [.ref (oad E c0), .int a1] (oPi (fun r u => True)) := by
  refine oMet.of (lv := [(0, .ref (oad E c0)), (1, .int a1)]) (by decide +kernel) (Nat.le_of_ble_eq_true rfl) rfl (fun J C hT => ?_)
  have C : oC l 1 cX4_ownerOf RX4 2 (some .int) [] E s (oPi (fun r u => True)) J := C
  obtain ⟨km1, qkm1⟩ : ∃ z : Int32, z = (-1) := ⟨_, rfl⟩
  have ekm1 : km1.toInt = (-1) := by rw [qkm1]; rfl
  obtain ⟨k96, qk96⟩ : ∃ z : Int32, z = 96 := ⟨_, rfl⟩
  have ek96 : k96.toInt = 96 := by rw [qk96]; rfl
  have rg1 := n_rng a1
  refine r_iload_n C (j := 1) dX4_ownerOf_0 rfl rfl ?_
  refine r_if_lt C 27 dX4_ownerOf_1 (by decide) (fun c1 => ?_) (fun c1 => ?_)
  · skip
    refine r_iconst C dX4_ownerOf_27 (v := km1) (by rw [qkm1]; rfl) ?_
    exact r_iret C dX4_ownerOf_28 ⟨_, rfl, trivial⟩
  · skip
    refine r_iload_n C (j := 1) dX4_ownerOf_4 rfl rfl ?_
    refine r_aload_n C (j := 0) dX4_ownerOf_5 rfl rfl ?_
    obtain ⟨v2, ev2⟩ : ∃ z : Int32, (s).1 c0 5 = z := ⟨_, rfl⟩
    have gv2 : (s.1 c0 5).toInt = v2.toInt := congrArg Int32.toInt (ev2)
    refine r_geti (k := 5) (lo := 0) (hi := 96) C v2 oCl4 hk0 (by decide) flX4_31 rfl rfl (ev2) rfl rfl dX4_ownerOf_6 (fun b3 b3h => ?_)
    refine r_icmp_ge C 27 dX4_ownerOf_9 (by decide) (fun c4 => ?_) (fun c4 => ?_)
    · skip
      refine r_iconst C dX4_ownerOf_27 (v := km1) (by rw [qkm1]; rfl) ?_
      exact r_iret C dX4_ownerOf_28 ⟨_, rfl, trivial⟩
    · skip
      refine r_iload_n C (j := 1) dX4_ownerOf_12 rfl rfl ?_
      refine r_bipush C dX4_ownerOf_13 (v := k96) (by rw [qk96]; rfl) ?_
      refine r_icmp_ge C 27 dX4_ownerOf_15 (by decide) (fun c5 => ?_) (fun c5 => ?_)
      · skip
        refine r_iconst C dX4_ownerOf_27 (v := km1) (by rw [qkm1]; rfl) ?_
        exact r_iret C dX4_ownerOf_28 ⟨_, rfl, trivial⟩
      · skip
        refine r_aload_n C (j := 0) dX4_ownerOf_18 rfl rfl ?_
        refine r_getR (k := 3) (b := 4) C oCl4 hk0 (by decide) flX4_21 rfl rfl rfl dX4_ownerOf_19 ?_
        refine r_iload_n C (j := 1) dX4_ownerOf_22 rfl rfl ?_
        obtain ⟨v6, ev6⟩ : ∃ z : Int32, (s).1 (c0 + 4) a1.toNatClampNeg = z := ⟨_, rfl⟩
        have rv6 := n_rng v6
        refine r_iald (n := 96) (lo := (-2147483648)) (hi := 2147483647) C v6 (kr4_4 hk0) (by decide) rfl rfl ⟨by omega, by omega⟩ (by decide) ev6 rfl rfl dX4_ownerOf_23 (fun _ _ => ?_)
        refine r_goto C (tgt := 28) dX4_ownerOf_24 (by decide) ?_
        exact r_iret C dX4_ownerOf_28 ⟨_, rfl, trivial⟩
set_option maxHeartbeats 4000000 in
set_option maxRecDepth 100000 in
theorem ct_X4_rests (l : Launch) (E : oE) (s : oS) (c0 : Nat) (hk0 : okd c0 = 4)  : oMet l 3 yX4_rests cX4_rests 3 (some .int) [] E s [.ref (oad E c0)] (oPi (fun r u => True)) := by
  refine oMet.of (lv := [(0, .ref (oad E c0))]) (by decide +kernel) (Nat.le_of_ble_eq_true rfl) rfl (fun J C hT => ?_)
  have C : oC l 3 cX4_rests RX4 3 (some .int) [] E s (oPi (fun r u => True)) J := C
  obtain ⟨km1, qkm1⟩ : ∃ z : Int32, z = (-1) := ⟨_, rfl⟩
  have ekm1 : km1.toInt = (-1) := by rw [qkm1]; rfl
  obtain ⟨k0, qk0⟩ : ∃ z : Int32, z = 0 := ⟨_, rfl⟩
  have ek0 : k0.toInt = 0 := by rw [qk0]; rfl
  obtain ⟨k1, qk1⟩ : ∃ z : Int32, z = 1 := ⟨_, rfl⟩
  have ek1 : k1.toInt = 1 := by rw [qk1]; rfl
  have key : ∀ n : Nat, (∀ (t : oS) (x1 : Int32) (x2 : Int32), 0 ≤ x1.toInt ∧ x1.toInt ≤ x2.toInt → 0 ≤ x2.toInt ∧ x2.toInt ≤ 24 → 25 - x2.toInt ≤ (n : Int) → J t 4 [(0, .ref (oad E c0)), (1, .int x1), (2, .int x2)] []) := by
    intro n
    induction n using Nat.strongRecOn with
    | _ n ih =>
      skip
      · intro t x1 x2  iv0 iv1 hmu
        have rx1 := n_rng x1
        have rx2 := n_rng x2
        refine r_iload_n C (j := 2) dX4_rests_4 rfl rfl ?_
        refine r_aload_n C (j := 0) dX4_rests_5 rfl rfl ?_
        obtain ⟨v1, ev1⟩ : ∃ z : Int32, (t).1 c0 4 = z := ⟨_, rfl⟩
        have gv1 : (t.1 c0 4).toInt = v1.toInt := congrArg Int32.toInt (ev1)
        refine r_geti (k := 4) (lo := 0) (hi := 24) C v1 oCl4 hk0 (by decide) flX4_28 rfl rfl (ev1) rfl rfl dX4_rests_6 (fun b2 b2h => ?_)
        refine r_icmp_ge C 35 dX4_rests_9 (by decide) (fun c3 => ?_) (fun c3 => ?_)
        · skip
          refine r_iload_n C (j := 1) dX4_rests_35 rfl rfl ?_
          exact r_iret C dX4_rests_36 ⟨_, rfl, trivial⟩
        · skip
          refine r_iload_n C (j := 1) dX4_rests_12 rfl rfl ?_
          refine r_aload_n C (j := 0) dX4_rests_13 rfl rfl ?_
          refine r_iload_n C (j := 2) dX4_rests_14 rfl rfl ?_
          refine r_callVi C oCl4 hk0 miX4_stepOf mlX4_41 (ct_X4_stepOf l E (t) c0 hk0 x2 ) (by decide) rfl rfl rfl (Nat.le_of_ble_eq_true rfl) dX4_rests_15 (fun r5 u4 pu4 fu4 => ?_)
          try dsimp only at pu4
          have rr5 := n_rng r5
          refine r_iconst C dX4_rests_18 (v := km1) (by rw [qkm1]; rfl) ?_
          refine r_icmp_ne C 26 dX4_rests_19 (by decide) (fun c6 => ?_) (fun c6 => ?_)
          · skip
            refine r_iconst C dX4_rests_26 (v := k0) (by rw [qk0]; rfl) ?_
            obtain ⟨v7, ev7⟩ : ∃ z : Int32, z = x1 + k0 := ⟨_, rfl⟩
            have hv7 : v7.toInt = x1.toInt + k0.toInt := n_add ev7 (by omega) (by omega)
            refine r_iadd C v7 dX4_rests_27 ev7 ?_
            refine r_istore_n C (lv' := [(0, .ref (oad E c0)), (1, .int v7), (2, .int x2)]) [1, 0, 2] dX4_rests_28 rfl (by decide) rfl ?_
            obtain ⟨v8, ev8⟩ : ∃ z : Int32, x2 + Int32.ofInt 1 = z := ⟨_, rfl⟩
            have hv8 : v8.toInt = x2.toInt + 1 := n_inc ev8 (by decide) (by omega) (by omega)
            refine r_iinc C (j := 2) (lv' := [(0, .ref (oad E c0)), (1, .int v7), (2, .int v8)]) v8 [1, 2, 0] dX4_rests_29 rfl ev8 (by decide) rfl ?_
            refine r_goto C (tgt := 4) dX4_rests_32 (by decide) ?_
            exact (ih (n - 1) (by omega)) (u4) v7 v8  (by omega) (by omega) (by omega)
          · skip
            refine r_iconst C dX4_rests_22 (v := k1) (by rw [qk1]; rfl) ?_
            refine r_goto C (tgt := 27) dX4_rests_23 (by decide) ?_
            obtain ⟨v9, ev9⟩ : ∃ z : Int32, z = x1 + k1 := ⟨_, rfl⟩
            have hv9 : v9.toInt = x1.toInt + k1.toInt := n_add ev9 (by omega) (by omega)
            refine r_iadd C v9 dX4_rests_27 ev9 ?_
            refine r_istore_n C (lv' := [(0, .ref (oad E c0)), (1, .int v9), (2, .int x2)]) [1, 0, 2] dX4_rests_28 rfl (by decide) rfl ?_
            obtain ⟨v10, ev10⟩ : ∃ z : Int32, x2 + Int32.ofInt 1 = z := ⟨_, rfl⟩
            have hv10 : v10.toInt = x2.toInt + 1 := n_inc ev10 (by decide) (by omega) (by omega)
            refine r_iinc C (j := 2) (lv' := [(0, .ref (oad E c0)), (1, .int v9), (2, .int v10)]) v10 [1, 2, 0] dX4_rests_29 rfl ev10 (by decide) rfl ?_
            refine r_goto C (tgt := 4) dX4_rests_32 (by decide) ?_
            exact (ih (n - 1) (by omega)) (u4) v9 v10  (by omega) (by omega) (by omega)
  refine r_iconst C dX4_rests_0 (v := k0) (by rw [qk0]; rfl) ?_
  refine r_istore_n C (lv' := [(0, .ref (oad E c0)), (1, .int k0)]) [1, 0] dX4_rests_1 rfl (by decide) rfl ?_
  refine r_iconst C dX4_rests_2 (v := k0) (by rw [qk0]; rfl) ?_
  refine r_istore_n C (lv' := [(0, .ref (oad E c0)), (1, .int k0), (2, .int k0)]) [1, 2, 0] dX4_rests_3 rfl (by decide) rfl ?_
  exact (key (25 - k0.toInt).toNat) (s) k0 k0  (by omega) (by omega) (by omega)
set_option maxHeartbeats 4000000 in
set_option maxRecDepth 100000 in
theorem ct_X4_setStep (l : Launch) (E : oE) (s : oS) (c0 : Nat) (hk0 : okd c0 = 4) (a1 : Int32) (a2 : Int32)  : oMet l 3 yX4_setStep cX4_setStep 4 none [(4, 6), (16, 9999)] E s [.ref (oad E c0), .int a1, .int a2] (oPv (fun u => True)) := by
  refine oMet.of (lv := [(0, .ref (oad E c0)), (1, .int a1), (2, .int a2)]) (by decide +kernel) (Nat.le_of_ble_eq_true rfl) rfl (fun J C hT => ?_)
  have C : oC l 3 cX4_setStep RX4 4 none [(4, 6), (16, 9999)] E s (oPv (fun u => True)) J := C
  obtain ⟨km1, qkm1⟩ : ∃ z : Int32, z = (-1) := ⟨_, rfl⟩
  have ekm1 : km1.toInt = (-1) := by rw [qkm1]; rfl
  obtain ⟨k0, qk0⟩ : ∃ z : Int32, z = 0 := ⟨_, rfl⟩
  have ek0 : k0.toInt = 0 := by rw [qk0]; rfl
  have rg1 := n_rng a1
  have rg2 := n_rng a2
  have key : ∀ n : Nat, (∀ (t : oS) (x3 : Int32), 0 ≤ x3.toInt ∧ x3.toInt ≤ 24 → 25 - x3.toInt ≤ (n : Int) → J t 23 [(0, .ref (oad E c0)), (3, .int x3)] []) := by
    intro n
    induction n using Nat.strongRecOn with
    | _ n ih =>
      skip
      · intro t x3  iv0 hmu
        have rx3 := n_rng x3
        refine r_iload_n C (j := 1) dX4_setStep_23 rfl rfl ?_
        refine r_aload_n C (j := 0) dX4_setStep_24 rfl rfl ?_
        obtain ⟨v1, ev1⟩ : ∃ z : Int32, (t).1 c0 4 = z := ⟨_, rfl⟩
        have gv1 : (t.1 c0 4).toInt = v1.toInt := congrArg Int32.toInt (ev1)
        refine r_geti (k := 4) (lo := 0) (hi := 24) C v1 oCl4 hk0 (by decide) flX4_28 rfl rfl (ev1) rfl rfl dX4_setStep_25 (fun b2 b2h => ?_)
        refine r_icmp_ge C 54 dX4_setStep_28 (by decide) (fun c3 => ?_) (fun c3 => ?_)
        · skip
          exact r_vret C dX4_setStep_54 ⟨rfl, trivial⟩
        · skip
          refine r_aload_n C (j := 0) dX4_setStep_31 rfl rfl ?_
          obtain ⟨v4, ev4⟩ : ∃ z : Int32, (t).1 c0 6 = z := ⟨_, rfl⟩
          have gv4 : (t.1 c0 6).toInt = v4.toInt := congrArg Int32.toInt (ev4)
          have rv4 := n_rng v4
          refine r_geti (k := 6) (lo := (-2147483648)) (hi := 2147483647) C v4 oCl4 hk0 (by decide) flX4_24 rfl rfl (ev4) rfl rfl dX4_setStep_32 (fun _ _ => ?_)
          refine r_iconst C dX4_setStep_35 (v := km1) (by rw [qkm1]; rfl) ?_
          refine r_icmp_ne C 54 dX4_setStep_36 (by decide) (fun c5 => ?_) (fun c5 => ?_)
          · skip
            exact r_vret C dX4_setStep_54 ⟨rfl, trivial⟩
          · skip
            refine r_aload_n C (j := 0) dX4_setStep_39 rfl rfl ?_
            refine r_aload_n C (j := 0) dX4_setStep_40 rfl rfl ?_
            refine r_iload_n C (j := 1) dX4_setStep_41 rfl rfl ?_
            refine r_callVi C oCl4 hk0 miX4_stepOf mlX4_41 (ct_X4_stepOf l E (t) c0 hk0 x3 ) (by decide) rfl rfl rfl (Nat.le_of_ble_eq_true rfl) dX4_setStep_42 (fun r7 u6 pu6 fu6 => ?_)
            try dsimp only at pu6
            have rr7 := n_rng r7
            refine r_puti (k := 6) (lo := (-2147483648)) (hi := 2147483647) C oCl4 hk0 (by decide) flX4_24 rfl rfl rfl rfl rfl rfl rfl rfl (n_rng _) dX4_setStep_45 ?_
            obtain ⟨v8, ev8⟩ : ∃ z : Int32, x3 + Int32.ofInt 1 = z := ⟨_, rfl⟩
            have hv8 : v8.toInt = x3.toInt + 1 := n_inc ev8 (by decide) (by omega) (by omega)
            refine r_iinc C (j := 1) (lv' := [(0, .ref (oad E c0)), (3, .int v8)]) v8 [1, 0] dX4_setStep_48 rfl ev8 (by decide) rfl ?_
            refine r_goto C (tgt := 23) dX4_setStep_51 (by decide) ?_
            exact (ih (n - 1) (by omega)) ((pI u6 c0 6 r7)) v8  (by omega) (by omega)
  refine r_aload_n C (j := 0) dX4_setStep_0 rfl rfl ?_
  refine r_iload_n C (j := 1) dX4_setStep_1 rfl rfl ?_
  refine r_callVi C oCl4 hk0 miX4_holds mlX4_52 (ct_X4_holds l E (s) c0 hk0 a1 ) (by decide) rfl rfl rfl (Nat.le_of_ble_eq_true rfl) dX4_setStep_2 (fun r10 u9 pu9 fu9 => ?_)
  try dsimp only at pu9
  have rr10 := n_rng r10
  refine r_if_ne C 9 dX4_setStep_5 (by decide) (fun c11 => ?_) (fun c11 => ?_)
  · skip
    refine r_aload_n C (j := 0) dX4_setStep_9 rfl rfl ?_
    refine r_getR (k := 0) (b := 1) C oCl4 hk0 (by decide) flX4_9 rfl rfl rfl dX4_setStep_10 ?_
    refine r_iload_n C (j := 1) dX4_setStep_13 rfl rfl ?_
    refine r_iload_n C (j := 2) dX4_setStep_14 rfl rfl ?_
    refine r_iast (n := 24) (lo := (-2147483648)) (hi := 2147483647) C (kr4_1 hk0) (by decide) rfl rfl ⟨by omega, by omega⟩ (by decide) rfl rfl rfl rfl (n_rng _) dX4_setStep_15 ?_
    refine r_aload_n C (j := 0) dX4_setStep_16 rfl rfl ?_
    refine r_iconst C dX4_setStep_17 (v := km1) (by rw [qkm1]; rfl) ?_
    refine r_puti (k := 6) (lo := (-2147483648)) (hi := 2147483647) C oCl4 hk0 (by decide) flX4_24 rfl rfl rfl rfl rfl rfl rfl rfl (n_rng _) dX4_setStep_18 ?_
    refine r_iconst C dX4_setStep_21 (v := k0) (by rw [qk0]; rfl) ?_
    refine r_istore_n C (lv' := [(0, .ref (oad E c0)), (1, .int a1), (2, .int a2), (3, .int k0)]) [1, 2, 3, 0] dX4_setStep_22 rfl (by decide) rfl ?_
    refine r_pick C [0, 3] rfl ?_
    exact (key (25 - k0.toInt).toNat) ((pI (pI u9 (c0 + 1) a1.toNatClampNeg a2) c0 6 km1)) k0  (by omega) (by omega)
  · skip
    exact r_vret C dX4_setStep_8 ⟨rfl, trivial⟩
set_option maxHeartbeats 4000000 in
set_option maxRecDepth 100000 in
theorem ct_X4_add (l : Launch) (E : oE) (s : oS) (c0 : Nat) (hk0 : okd c0 = 4) (a1 : Int32) (a2 : Int32)  : oMet l 1 yX4_add cX4_add 4 (some .boolean) [(4, 4), (4, 5), (4, 6), (4, 7), (16, 9999), (17, 9999), (18, 9999), (19, 9999)] E s [.ref (oad E c0), .int a1, .int a2] (oPi (fun r u => (0 ≤ r.toInt ∧ r.toInt ≤ 1) ∧ ((r.toInt = 1 ∧ (u.1 c0 4).toInt = (s.1 c0 4).toInt + 1 ∧ (u.1 c0 5).toInt = (s.1 c0 5).toInt + a2.toInt) ∨ (r.toInt = 0 ∧ (u.1 c0 4).toInt = (s.1 c0 4).toInt ∧ (u.1 c0 5).toInt = (s.1 c0 5).toInt)))) := by
  refine oMet.of (lv := [(0, .ref (oad E c0)), (1, .int a1), (2, .int a2)]) (by decide +kernel) (Nat.le_of_ble_eq_true rfl) rfl (fun J C hT => ?_)
  have C : oC l 1 cX4_add RX4 4 (some .boolean) [(4, 4), (4, 5), (4, 6), (4, 7), (16, 9999), (17, 9999), (18, 9999), (19, 9999)] E s (oPi (fun r u => (0 ≤ r.toInt ∧ r.toInt ≤ 1) ∧ ((r.toInt = 1 ∧ (u.1 c0 4).toInt = (s.1 c0 4).toInt + 1 ∧ (u.1 c0 5).toInt = (s.1 c0 5).toInt + a2.toInt) ∨ (r.toInt = 0 ∧ (u.1 c0 4).toInt = (s.1 c0 4).toInt ∧ (u.1 c0 5).toInt = (s.1 c0 5).toInt)))) J := C
  obtain ⟨km1, qkm1⟩ : ∃ z : Int32, z = (-1) := ⟨_, rfl⟩
  have ekm1 : km1.toInt = (-1) := by rw [qkm1]; rfl
  obtain ⟨k0, qk0⟩ : ∃ z : Int32, z = 0 := ⟨_, rfl⟩
  have ek0 : k0.toInt = 0 := by rw [qk0]; rfl
  obtain ⟨k1, qk1⟩ : ∃ z : Int32, z = 1 := ⟨_, rfl⟩
  have ek1 : k1.toInt = 1 := by rw [qk1]; rfl
  obtain ⟨k2, qk2⟩ : ∃ z : Int32, z = 2 := ⟨_, rfl⟩
  have ek2 : k2.toInt = 2 := by rw [qk2]; rfl
  obtain ⟨k16, qk16⟩ : ∃ z : Int32, z = 16 := ⟨_, rfl⟩
  have ek16 : k16.toInt = 16 := by rw [qk16]; rfl
  obtain ⟨k24, qk24⟩ : ∃ z : Int32, z = 24 := ⟨_, rfl⟩
  have ek24 : k24.toInt = 24 := by rw [qk24]; rfl
  obtain ⟨k28, qk28⟩ : ∃ z : Int32, z = 28 := ⟨_, rfl⟩
  have ek28 : k28.toInt = 28 := by rw [qk28]; rfl
  obtain ⟨k96, qk96⟩ : ∃ z : Int32, z = 96 := ⟨_, rfl⟩
  have ek96 : k96.toInt = 96 := by rw [qk96]; rfl
  have rg1 := n_rng a1
  have rg2 := n_rng a2
  have key : ∀ n : Nat, (∀ (t : oS) (x3 : Int32), 1 ≤ a2.toInt ∧ a2.toInt ≤ 16 → (t.1 c0 4).toInt = (s.1 c0 4).toInt → (t.1 c0 5).toInt = (s.1 c0 5).toInt → (s.1 c0 4).toInt ≤ 23 → (s.1 c0 5).toInt + a2.toInt ≤ 96 → (s.1 c0 5).toInt ≤ x3.toInt ∧ x3.toInt ≤ (s.1 c0 5).toInt + a2.toInt → 0 ≤ (s.1 c0 5).toInt → (s.1 c0 5).toInt + a2.toInt - x3.toInt + 1 ≤ (n : Int) → J t 84 [(0, .ref (oad E c0)), (1, .int a1), (2, .int a2), (3, .int x3)] []) := by
    intro n
    induction n using Nat.strongRecOn with
    | _ n ih =>
      skip
      · intro t x3  iv0 iv1 iv2 iv3 iv4 iv5 iv6 hmu
        have rx3 := n_rng x3
        refine r_iload_n C (j := 3) dX4_add_84 rfl rfl ?_
        refine r_aload_n C (j := 0) dX4_add_85 rfl rfl ?_
        obtain ⟨v1, ev1⟩ : ∃ z : Int32, (t).1 c0 5 = z := ⟨_, rfl⟩
        have gv1 : (t.1 c0 5).toInt = v1.toInt := congrArg Int32.toInt (ev1)
        refine r_geti (k := 5) (lo := 0) (hi := 96) C v1 oCl4 hk0 (by decide) flX4_31 rfl rfl (ev1) rfl rfl dX4_add_86 (fun b2 b2h => ?_)
        refine r_iload_n C (j := 2) dX4_add_89 rfl rfl ?_
        obtain ⟨v3, ev3⟩ : ∃ z : Int32, z = v1 + a2 := ⟨_, rfl⟩
        have hv3 : v3.toInt = v1.toInt + a2.toInt := n_add ev3 (by omega) (by omega)
        refine r_iadd C v3 dX4_add_90 ev3 ?_
        refine r_icmp_ge C 110 dX4_add_91 (by decide) (fun c4 => ?_) (fun c4 => ?_)
        · skip
          refine r_aload_n C (j := 0) dX4_add_110 rfl rfl ?_
          obtain ⟨v5, ev5⟩ : ∃ z : Int32, (t).1 c0 6 = z := ⟨_, rfl⟩
          have gv5 : (t.1 c0 6).toInt = v5.toInt := congrArg Int32.toInt (ev5)
          have rv5 := n_rng v5
          refine r_geti (k := 6) (lo := (-2147483648)) (hi := 2147483647) C v5 oCl4 hk0 (by decide) flX4_24 rfl rfl (ev5) rfl rfl dX4_add_111 (fun _ _ => ?_)
          refine r_iconst C dX4_add_114 (v := km1) (by rw [qkm1]; rfl) ?_
          refine r_icmp_ne C 123 dX4_add_115 (by decide) (fun c6 => ?_) (fun c6 => ?_)
          · skip
            refine r_aload_n C (j := 0) dX4_add_123 rfl rfl ?_
            refine r_aload_n C (j := 0) dX4_add_124 rfl rfl ?_
            obtain ⟨v7, ev7⟩ : ∃ z : Int32, (t).1 c0 7 = z := ⟨_, rfl⟩
            have gv7 : (t.1 c0 7).toInt = v7.toInt := congrArg Int32.toInt (ev7)
            refine r_geti (k := 7) (lo := 0) (hi := 1) C v7 oCl4 hk0 (by decide) flX4_34 rfl rfl (ev7) rfl rfl dX4_add_125 (fun b8 b8h => ?_)
            refine r_if_ne C 138 dX4_add_128 (by decide) (fun c9 => ?_) (fun c9 => ?_)
            · skip
              refine r_iconst C dX4_add_138 (v := k1) (by rw [qk1]; rfl) ?_
              refine r_goto C (tgt := 143) dX4_add_139 (by decide) ?_
              refine r_puti (k := 7) (lo := 0) (hi := 1) C oCl4 hk0 (by decide) flX4_34 rfl rfl rfl rfl rfl (n_bool (by omega)) rfl rfl ⟨by omega, by omega⟩ dX4_add_143 ?_
              refine r_aload_n C (j := 0) dX4_add_146 rfl rfl ?_
              refine r_dup C dX4_add_147 rfl ?_
              refine r_geti (k := 5) (lo := 0) (hi := 96) C v1 oCl4 hk0 (by decide) flX4_31 rfl rfl (((pI_ne _ _ (Or.inr (by decide)))).trans ev1) rfl rfl dX4_add_148 (fun _ _ => ?_)
              refine r_iload_n C (j := 2) dX4_add_151 rfl rfl ?_
              obtain ⟨v10, ev10⟩ : ∃ z : Int32, z = v1 + a2 := ⟨_, rfl⟩
              have hv10 : v10.toInt = v1.toInt + a2.toInt := n_add ev10 (by omega) (by omega)
              refine r_iadd C v10 dX4_add_152 ev10 ?_
              refine r_puti (k := 5) (lo := 0) (hi := 96) C oCl4 hk0 (by decide) flX4_31 rfl rfl rfl rfl rfl rfl rfl rfl ⟨by omega, by omega⟩ dX4_add_153 ?_
              refine r_aload_n C (j := 0) dX4_add_156 rfl rfl ?_
              refine r_dup C dX4_add_157 rfl ?_
              obtain ⟨v11, ev11⟩ : ∃ z : Int32, ((pI (pI t c0 7 k1) c0 5 v10)).1 c0 4 = z := ⟨_, rfl⟩
              have gv11 : (t.1 c0 4).toInt = v11.toInt := congrArg Int32.toInt ((((pI_ne _ _ (Or.inr (by decide)))).trans (pI_ne _ _ (Or.inr (by decide)))).symm.trans ev11)
              refine r_geti (k := 4) (lo := 0) (hi := 24) C v11 oCl4 hk0 (by decide) flX4_28 rfl rfl (ev11) rfl rfl dX4_add_158 (fun b12 b12h => ?_)
              refine r_iconst C dX4_add_161 (v := k1) (by rw [qk1]; rfl) ?_
              obtain ⟨v13, ev13⟩ : ∃ z : Int32, z = v11 + k1 := ⟨_, rfl⟩
              have hv13 : v13.toInt = v11.toInt + k1.toInt := n_add ev13 (by omega) (by omega)
              refine r_iadd C v13 dX4_add_162 ev13 ?_
              refine r_puti (k := 4) (lo := 0) (hi := 24) C oCl4 hk0 (by decide) flX4_28 rfl rfl rfl rfl rfl rfl rfl rfl ⟨by omega, by omega⟩ dX4_add_163 ?_
              refine r_iconst C dX4_add_166 (v := k1) (by rw [qk1]; rfl) ?_
              have lk14 : (((pI (pI (pI t c0 7 k1) c0 5 v10) c0 4 v13)).1 c0 4).toInt = v13.toInt := congrArg Int32.toInt ((pI_self _ _ _ _))
              have lk15 : (((pI (pI (pI t c0 7 k1) c0 5 v10) c0 4 v13)).1 c0 5).toInt = v10.toInt := congrArg Int32.toInt (((pI_ne _ _ (Or.inr (by decide)))).trans (pI_self _ _ _ _))
              exact r_zret C (n_bool (by omega)) dX4_add_167 ⟨_, rfl, ⟨by omega, by omega⟩⟩
            · skip
              refine r_iload_n C (j := 2) dX4_add_131 rfl rfl ?_
              refine r_iconst C dX4_add_132 (v := k2) (by rw [qk2]; rfl) ?_
              obtain ⟨v16, ev16⟩ : ∃ z : Int32, z = a2 - a2 / k2 * k2 := ⟨_, rfl⟩
              have hv16 := n_rem (k := 2) ev16 ek2 (by decide)
              have rv16 := n_rng v16
              refine r_irem C v16 dX4_add_133 (n_ne0 (by omega)) ev16 ?_
              refine r_iconst C dX4_add_134 (v := k1) (by rw [qk1]; rfl) ?_
              refine r_icmp_ne C 142 dX4_add_135 (by decide) (fun c17 => ?_) (fun c17 => ?_)
              · skip
                refine r_iconst C dX4_add_142 (v := k0) (by rw [qk0]; rfl) ?_
                refine r_puti (k := 7) (lo := 0) (hi := 1) C oCl4 hk0 (by decide) flX4_34 rfl rfl rfl rfl rfl (n_bool (by omega)) rfl rfl ⟨by omega, by omega⟩ dX4_add_143 ?_
                refine r_aload_n C (j := 0) dX4_add_146 rfl rfl ?_
                refine r_dup C dX4_add_147 rfl ?_
                refine r_geti (k := 5) (lo := 0) (hi := 96) C v1 oCl4 hk0 (by decide) flX4_31 rfl rfl (((pI_ne _ _ (Or.inr (by decide)))).trans ev1) rfl rfl dX4_add_148 (fun _ _ => ?_)
                refine r_iload_n C (j := 2) dX4_add_151 rfl rfl ?_
                obtain ⟨v18, ev18⟩ : ∃ z : Int32, z = v1 + a2 := ⟨_, rfl⟩
                have hv18 : v18.toInt = v1.toInt + a2.toInt := n_add ev18 (by omega) (by omega)
                refine r_iadd C v18 dX4_add_152 ev18 ?_
                refine r_puti (k := 5) (lo := 0) (hi := 96) C oCl4 hk0 (by decide) flX4_31 rfl rfl rfl rfl rfl rfl rfl rfl ⟨by omega, by omega⟩ dX4_add_153 ?_
                refine r_aload_n C (j := 0) dX4_add_156 rfl rfl ?_
                refine r_dup C dX4_add_157 rfl ?_
                obtain ⟨v19, ev19⟩ : ∃ z : Int32, ((pI (pI t c0 7 k0) c0 5 v18)).1 c0 4 = z := ⟨_, rfl⟩
                have gv19 : (t.1 c0 4).toInt = v19.toInt := congrArg Int32.toInt ((((pI_ne _ _ (Or.inr (by decide)))).trans (pI_ne _ _ (Or.inr (by decide)))).symm.trans ev19)
                refine r_geti (k := 4) (lo := 0) (hi := 24) C v19 oCl4 hk0 (by decide) flX4_28 rfl rfl (ev19) rfl rfl dX4_add_158 (fun b20 b20h => ?_)
                refine r_iconst C dX4_add_161 (v := k1) (by rw [qk1]; rfl) ?_
                obtain ⟨v21, ev21⟩ : ∃ z : Int32, z = v19 + k1 := ⟨_, rfl⟩
                have hv21 : v21.toInt = v19.toInt + k1.toInt := n_add ev21 (by omega) (by omega)
                refine r_iadd C v21 dX4_add_162 ev21 ?_
                refine r_puti (k := 4) (lo := 0) (hi := 24) C oCl4 hk0 (by decide) flX4_28 rfl rfl rfl rfl rfl rfl rfl rfl ⟨by omega, by omega⟩ dX4_add_163 ?_
                refine r_iconst C dX4_add_166 (v := k1) (by rw [qk1]; rfl) ?_
                have lk22 : (((pI (pI (pI t c0 7 k0) c0 5 v18) c0 4 v21)).1 c0 4).toInt = v21.toInt := congrArg Int32.toInt ((pI_self _ _ _ _))
                have lk23 : (((pI (pI (pI t c0 7 k0) c0 5 v18) c0 4 v21)).1 c0 5).toInt = v18.toInt := congrArg Int32.toInt (((pI_ne _ _ (Or.inr (by decide)))).trans (pI_self _ _ _ _))
                exact r_zret C (n_bool (by omega)) dX4_add_167 ⟨_, rfl, ⟨by omega, by omega⟩⟩
              · skip
                refine r_iconst C dX4_add_138 (v := k1) (by rw [qk1]; rfl) ?_
                refine r_goto C (tgt := 143) dX4_add_139 (by decide) ?_
                refine r_puti (k := 7) (lo := 0) (hi := 1) C oCl4 hk0 (by decide) flX4_34 rfl rfl rfl rfl rfl (n_bool (by omega)) rfl rfl ⟨by omega, by omega⟩ dX4_add_143 ?_
                refine r_aload_n C (j := 0) dX4_add_146 rfl rfl ?_
                refine r_dup C dX4_add_147 rfl ?_
                refine r_geti (k := 5) (lo := 0) (hi := 96) C v1 oCl4 hk0 (by decide) flX4_31 rfl rfl (((pI_ne _ _ (Or.inr (by decide)))).trans ev1) rfl rfl dX4_add_148 (fun _ _ => ?_)
                refine r_iload_n C (j := 2) dX4_add_151 rfl rfl ?_
                obtain ⟨v24, ev24⟩ : ∃ z : Int32, z = v1 + a2 := ⟨_, rfl⟩
                have hv24 : v24.toInt = v1.toInt + a2.toInt := n_add ev24 (by omega) (by omega)
                refine r_iadd C v24 dX4_add_152 ev24 ?_
                refine r_puti (k := 5) (lo := 0) (hi := 96) C oCl4 hk0 (by decide) flX4_31 rfl rfl rfl rfl rfl rfl rfl rfl ⟨by omega, by omega⟩ dX4_add_153 ?_
                refine r_aload_n C (j := 0) dX4_add_156 rfl rfl ?_
                refine r_dup C dX4_add_157 rfl ?_
                obtain ⟨v25, ev25⟩ : ∃ z : Int32, ((pI (pI t c0 7 k1) c0 5 v24)).1 c0 4 = z := ⟨_, rfl⟩
                have gv25 : (t.1 c0 4).toInt = v25.toInt := congrArg Int32.toInt ((((pI_ne _ _ (Or.inr (by decide)))).trans (pI_ne _ _ (Or.inr (by decide)))).symm.trans ev25)
                refine r_geti (k := 4) (lo := 0) (hi := 24) C v25 oCl4 hk0 (by decide) flX4_28 rfl rfl (ev25) rfl rfl dX4_add_158 (fun b26 b26h => ?_)
                refine r_iconst C dX4_add_161 (v := k1) (by rw [qk1]; rfl) ?_
                obtain ⟨v27, ev27⟩ : ∃ z : Int32, z = v25 + k1 := ⟨_, rfl⟩
                have hv27 : v27.toInt = v25.toInt + k1.toInt := n_add ev27 (by omega) (by omega)
                refine r_iadd C v27 dX4_add_162 ev27 ?_
                refine r_puti (k := 4) (lo := 0) (hi := 24) C oCl4 hk0 (by decide) flX4_28 rfl rfl rfl rfl rfl rfl rfl rfl ⟨by omega, by omega⟩ dX4_add_163 ?_
                refine r_iconst C dX4_add_166 (v := k1) (by rw [qk1]; rfl) ?_
                have lk28 : (((pI (pI (pI t c0 7 k1) c0 5 v24) c0 4 v27)).1 c0 4).toInt = v27.toInt := congrArg Int32.toInt ((pI_self _ _ _ _))
                have lk29 : (((pI (pI (pI t c0 7 k1) c0 5 v24) c0 4 v27)).1 c0 5).toInt = v24.toInt := congrArg Int32.toInt (((pI_ne _ _ (Or.inr (by decide)))).trans (pI_self _ _ _ _))
                exact r_zret C (n_bool (by omega)) dX4_add_167 ⟨_, rfl, ⟨by omega, by omega⟩⟩
          · skip
            refine r_aload_n C (j := 0) dX4_add_118 rfl rfl ?_
            refine r_iload_n C (j := 1) dX4_add_119 rfl rfl ?_
            refine r_puti (k := 6) (lo := (-2147483648)) (hi := 2147483647) C oCl4 hk0 (by decide) flX4_24 rfl rfl rfl rfl rfl rfl rfl rfl (n_rng _) dX4_add_120 ?_
            refine r_aload_n C (j := 0) dX4_add_123 rfl rfl ?_
            refine r_aload_n C (j := 0) dX4_add_124 rfl rfl ?_
            refine r_geti (k := 7) (lo := 0) (hi := 1) C v7 oCl4 hk0 (by decide) flX4_34 rfl rfl (((pI_ne _ _ (Or.inr (by decide)))).trans ev7) rfl rfl dX4_add_125 (fun _ _ => ?_)
            refine r_if_ne C 138 dX4_add_128 (by decide) (fun c30 => ?_) (fun c30 => ?_)
            · skip
              refine r_iconst C dX4_add_138 (v := k1) (by rw [qk1]; rfl) ?_
              refine r_goto C (tgt := 143) dX4_add_139 (by decide) ?_
              refine r_puti (k := 7) (lo := 0) (hi := 1) C oCl4 hk0 (by decide) flX4_34 rfl rfl rfl rfl rfl (n_bool (by omega)) rfl rfl ⟨by omega, by omega⟩ dX4_add_143 ?_
              refine r_aload_n C (j := 0) dX4_add_146 rfl rfl ?_
              refine r_dup C dX4_add_147 rfl ?_
              refine r_geti (k := 5) (lo := 0) (hi := 96) C v1 oCl4 hk0 (by decide) flX4_31 rfl rfl (((pI_ne _ _ (Or.inr (by decide)))).trans ((pI_ne _ _ (Or.inr (by decide)))).trans ev1) rfl rfl dX4_add_148 (fun _ _ => ?_)
              refine r_iload_n C (j := 2) dX4_add_151 rfl rfl ?_
              obtain ⟨v31, ev31⟩ : ∃ z : Int32, z = v1 + a2 := ⟨_, rfl⟩
              have hv31 : v31.toInt = v1.toInt + a2.toInt := n_add ev31 (by omega) (by omega)
              refine r_iadd C v31 dX4_add_152 ev31 ?_
              refine r_puti (k := 5) (lo := 0) (hi := 96) C oCl4 hk0 (by decide) flX4_31 rfl rfl rfl rfl rfl rfl rfl rfl ⟨by omega, by omega⟩ dX4_add_153 ?_
              refine r_aload_n C (j := 0) dX4_add_156 rfl rfl ?_
              refine r_dup C dX4_add_157 rfl ?_
              obtain ⟨v32, ev32⟩ : ∃ z : Int32, ((pI (pI (pI t c0 6 a1) c0 7 k1) c0 5 v31)).1 c0 4 = z := ⟨_, rfl⟩
              have gv32 : (t.1 c0 4).toInt = v32.toInt := congrArg Int32.toInt ((((pI_ne _ _ (Or.inr (by decide)))).trans ((pI_ne _ _ (Or.inr (by decide)))).trans (pI_ne _ _ (Or.inr (by decide)))).symm.trans ev32)
              refine r_geti (k := 4) (lo := 0) (hi := 24) C v32 oCl4 hk0 (by decide) flX4_28 rfl rfl (ev32) rfl rfl dX4_add_158 (fun b33 b33h => ?_)
              refine r_iconst C dX4_add_161 (v := k1) (by rw [qk1]; rfl) ?_
              obtain ⟨v34, ev34⟩ : ∃ z : Int32, z = v32 + k1 := ⟨_, rfl⟩
              have hv34 : v34.toInt = v32.toInt + k1.toInt := n_add ev34 (by omega) (by omega)
              refine r_iadd C v34 dX4_add_162 ev34 ?_
              refine r_puti (k := 4) (lo := 0) (hi := 24) C oCl4 hk0 (by decide) flX4_28 rfl rfl rfl rfl rfl rfl rfl rfl ⟨by omega, by omega⟩ dX4_add_163 ?_
              refine r_iconst C dX4_add_166 (v := k1) (by rw [qk1]; rfl) ?_
              have lk35 : (((pI (pI (pI (pI t c0 6 a1) c0 7 k1) c0 5 v31) c0 4 v34)).1 c0 4).toInt = v34.toInt := congrArg Int32.toInt ((pI_self _ _ _ _))
              have lk36 : (((pI (pI (pI (pI t c0 6 a1) c0 7 k1) c0 5 v31) c0 4 v34)).1 c0 5).toInt = v31.toInt := congrArg Int32.toInt (((pI_ne _ _ (Or.inr (by decide)))).trans (pI_self _ _ _ _))
              exact r_zret C (n_bool (by omega)) dX4_add_167 ⟨_, rfl, ⟨by omega, by omega⟩⟩
            · skip
              refine r_iload_n C (j := 2) dX4_add_131 rfl rfl ?_
              refine r_iconst C dX4_add_132 (v := k2) (by rw [qk2]; rfl) ?_
              obtain ⟨v37, ev37⟩ : ∃ z : Int32, z = a2 - a2 / k2 * k2 := ⟨_, rfl⟩
              have hv37 := n_rem (k := 2) ev37 ek2 (by decide)
              have rv37 := n_rng v37
              refine r_irem C v37 dX4_add_133 (n_ne0 (by omega)) ev37 ?_
              refine r_iconst C dX4_add_134 (v := k1) (by rw [qk1]; rfl) ?_
              refine r_icmp_ne C 142 dX4_add_135 (by decide) (fun c38 => ?_) (fun c38 => ?_)
              · skip
                refine r_iconst C dX4_add_142 (v := k0) (by rw [qk0]; rfl) ?_
                refine r_puti (k := 7) (lo := 0) (hi := 1) C oCl4 hk0 (by decide) flX4_34 rfl rfl rfl rfl rfl (n_bool (by omega)) rfl rfl ⟨by omega, by omega⟩ dX4_add_143 ?_
                refine r_aload_n C (j := 0) dX4_add_146 rfl rfl ?_
                refine r_dup C dX4_add_147 rfl ?_
                refine r_geti (k := 5) (lo := 0) (hi := 96) C v1 oCl4 hk0 (by decide) flX4_31 rfl rfl (((pI_ne _ _ (Or.inr (by decide)))).trans ((pI_ne _ _ (Or.inr (by decide)))).trans ev1) rfl rfl dX4_add_148 (fun _ _ => ?_)
                refine r_iload_n C (j := 2) dX4_add_151 rfl rfl ?_
                obtain ⟨v39, ev39⟩ : ∃ z : Int32, z = v1 + a2 := ⟨_, rfl⟩
                have hv39 : v39.toInt = v1.toInt + a2.toInt := n_add ev39 (by omega) (by omega)
                refine r_iadd C v39 dX4_add_152 ev39 ?_
                refine r_puti (k := 5) (lo := 0) (hi := 96) C oCl4 hk0 (by decide) flX4_31 rfl rfl rfl rfl rfl rfl rfl rfl ⟨by omega, by omega⟩ dX4_add_153 ?_
                refine r_aload_n C (j := 0) dX4_add_156 rfl rfl ?_
                refine r_dup C dX4_add_157 rfl ?_
                obtain ⟨v40, ev40⟩ : ∃ z : Int32, ((pI (pI (pI t c0 6 a1) c0 7 k0) c0 5 v39)).1 c0 4 = z := ⟨_, rfl⟩
                have gv40 : (t.1 c0 4).toInt = v40.toInt := congrArg Int32.toInt ((((pI_ne _ _ (Or.inr (by decide)))).trans ((pI_ne _ _ (Or.inr (by decide)))).trans (pI_ne _ _ (Or.inr (by decide)))).symm.trans ev40)
                refine r_geti (k := 4) (lo := 0) (hi := 24) C v40 oCl4 hk0 (by decide) flX4_28 rfl rfl (ev40) rfl rfl dX4_add_158 (fun b41 b41h => ?_)
                refine r_iconst C dX4_add_161 (v := k1) (by rw [qk1]; rfl) ?_
                obtain ⟨v42, ev42⟩ : ∃ z : Int32, z = v40 + k1 := ⟨_, rfl⟩
                have hv42 : v42.toInt = v40.toInt + k1.toInt := n_add ev42 (by omega) (by omega)
                refine r_iadd C v42 dX4_add_162 ev42 ?_
                refine r_puti (k := 4) (lo := 0) (hi := 24) C oCl4 hk0 (by decide) flX4_28 rfl rfl rfl rfl rfl rfl rfl rfl ⟨by omega, by omega⟩ dX4_add_163 ?_
                refine r_iconst C dX4_add_166 (v := k1) (by rw [qk1]; rfl) ?_
                have lk43 : (((pI (pI (pI (pI t c0 6 a1) c0 7 k0) c0 5 v39) c0 4 v42)).1 c0 4).toInt = v42.toInt := congrArg Int32.toInt ((pI_self _ _ _ _))
                have lk44 : (((pI (pI (pI (pI t c0 6 a1) c0 7 k0) c0 5 v39) c0 4 v42)).1 c0 5).toInt = v39.toInt := congrArg Int32.toInt (((pI_ne _ _ (Or.inr (by decide)))).trans (pI_self _ _ _ _))
                exact r_zret C (n_bool (by omega)) dX4_add_167 ⟨_, rfl, ⟨by omega, by omega⟩⟩
              · skip
                refine r_iconst C dX4_add_138 (v := k1) (by rw [qk1]; rfl) ?_
                refine r_goto C (tgt := 143) dX4_add_139 (by decide) ?_
                refine r_puti (k := 7) (lo := 0) (hi := 1) C oCl4 hk0 (by decide) flX4_34 rfl rfl rfl rfl rfl (n_bool (by omega)) rfl rfl ⟨by omega, by omega⟩ dX4_add_143 ?_
                refine r_aload_n C (j := 0) dX4_add_146 rfl rfl ?_
                refine r_dup C dX4_add_147 rfl ?_
                refine r_geti (k := 5) (lo := 0) (hi := 96) C v1 oCl4 hk0 (by decide) flX4_31 rfl rfl (((pI_ne _ _ (Or.inr (by decide)))).trans ((pI_ne _ _ (Or.inr (by decide)))).trans ev1) rfl rfl dX4_add_148 (fun _ _ => ?_)
                refine r_iload_n C (j := 2) dX4_add_151 rfl rfl ?_
                obtain ⟨v45, ev45⟩ : ∃ z : Int32, z = v1 + a2 := ⟨_, rfl⟩
                have hv45 : v45.toInt = v1.toInt + a2.toInt := n_add ev45 (by omega) (by omega)
                refine r_iadd C v45 dX4_add_152 ev45 ?_
                refine r_puti (k := 5) (lo := 0) (hi := 96) C oCl4 hk0 (by decide) flX4_31 rfl rfl rfl rfl rfl rfl rfl rfl ⟨by omega, by omega⟩ dX4_add_153 ?_
                refine r_aload_n C (j := 0) dX4_add_156 rfl rfl ?_
                refine r_dup C dX4_add_157 rfl ?_
                obtain ⟨v46, ev46⟩ : ∃ z : Int32, ((pI (pI (pI t c0 6 a1) c0 7 k1) c0 5 v45)).1 c0 4 = z := ⟨_, rfl⟩
                have gv46 : (t.1 c0 4).toInt = v46.toInt := congrArg Int32.toInt ((((pI_ne _ _ (Or.inr (by decide)))).trans ((pI_ne _ _ (Or.inr (by decide)))).trans (pI_ne _ _ (Or.inr (by decide)))).symm.trans ev46)
                refine r_geti (k := 4) (lo := 0) (hi := 24) C v46 oCl4 hk0 (by decide) flX4_28 rfl rfl (ev46) rfl rfl dX4_add_158 (fun b47 b47h => ?_)
                refine r_iconst C dX4_add_161 (v := k1) (by rw [qk1]; rfl) ?_
                obtain ⟨v48, ev48⟩ : ∃ z : Int32, z = v46 + k1 := ⟨_, rfl⟩
                have hv48 : v48.toInt = v46.toInt + k1.toInt := n_add ev48 (by omega) (by omega)
                refine r_iadd C v48 dX4_add_162 ev48 ?_
                refine r_puti (k := 4) (lo := 0) (hi := 24) C oCl4 hk0 (by decide) flX4_28 rfl rfl rfl rfl rfl rfl rfl rfl ⟨by omega, by omega⟩ dX4_add_163 ?_
                refine r_iconst C dX4_add_166 (v := k1) (by rw [qk1]; rfl) ?_
                have lk49 : (((pI (pI (pI (pI t c0 6 a1) c0 7 k1) c0 5 v45) c0 4 v48)).1 c0 4).toInt = v48.toInt := congrArg Int32.toInt ((pI_self _ _ _ _))
                have lk50 : (((pI (pI (pI (pI t c0 6 a1) c0 7 k1) c0 5 v45) c0 4 v48)).1 c0 5).toInt = v45.toInt := congrArg Int32.toInt (((pI_ne _ _ (Or.inr (by decide)))).trans (pI_self _ _ _ _))
                exact r_zret C (n_bool (by omega)) dX4_add_167 ⟨_, rfl, ⟨by omega, by omega⟩⟩
        · skip
          refine r_aload_n C (j := 0) dX4_add_94 rfl rfl ?_
          refine r_getR (k := 3) (b := 4) C oCl4 hk0 (by decide) flX4_21 rfl rfl rfl dX4_add_95 ?_
          refine r_iload_n C (j := 3) dX4_add_98 rfl rfl ?_
          refine r_aload_n C (j := 0) dX4_add_99 rfl rfl ?_
          obtain ⟨v51, ev51⟩ : ∃ z : Int32, (t).1 c0 4 = z := ⟨_, rfl⟩
          have gv51 : (t.1 c0 4).toInt = v51.toInt := congrArg Int32.toInt (ev51)
          refine r_geti (k := 4) (lo := 0) (hi := 24) C v51 oCl4 hk0 (by decide) flX4_28 rfl rfl (ev51) rfl rfl dX4_add_100 (fun b52 b52h => ?_)
          refine r_iast (n := 96) (lo := (-2147483648)) (hi := 2147483647) C (kr4_4 hk0) (by decide) rfl rfl ⟨by omega, by omega⟩ (by decide) rfl rfl rfl rfl (n_rng _) dX4_add_103 ?_
          obtain ⟨v53, ev53⟩ : ∃ z : Int32, x3 + Int32.ofInt 1 = z := ⟨_, rfl⟩
          have hv53 : v53.toInt = x3.toInt + 1 := n_inc ev53 (by decide) (by omega) (by omega)
          refine r_iinc C (j := 3) (lv' := [(0, .ref (oad E c0)), (1, .int a1), (2, .int a2), (3, .int v53)]) v53 [1, 2, 3, 0] dX4_add_104 rfl ev53 (by decide) rfl ?_
          refine r_goto C (tgt := 84) dX4_add_107 (by decide) ?_
          have lk54 : (((pI t (c0 + 4) x3.toNatClampNeg v51)).1 c0 4).toInt = v51.toInt := congrArg Int32.toInt (((pI_ne _ _ (Or.inl (okd_ne hk0 (kr4_4 hk0) (by decide))))).trans ev51)
          have lk55 : (((pI t (c0 + 4) x3.toNatClampNeg v51)).1 c0 5).toInt = v1.toInt := congrArg Int32.toInt (((pI_ne _ _ (Or.inl (okd_ne hk0 (kr4_4 hk0) (by decide))))).trans ev1)
          exact (ih (n - 1) (by omega)) ((pI t (c0 + 4) x3.toNatClampNeg v51)) v53  (by omega) (by omega) (by omega) (by omega) (by omega) (by omega) (by omega) (by omega)
  refine r_iload_n C (j := 1) dX4_add_0 rfl rfl ?_
  refine r_iconst C dX4_add_1 (v := km1) (by rw [qkm1]; rfl) ?_
  refine r_icmp_lt C 22 dX4_add_2 (by decide) (fun c56 => ?_) (fun c56 => ?_)
  · skip
    refine r_iconst C dX4_add_22 (v := k0) (by rw [qk0]; rfl) ?_
    exact r_zret C (n_bool (by omega)) dX4_add_23 ⟨_, rfl, ⟨by omega, by omega⟩⟩
  · skip
    refine r_iload_n C (j := 1) dX4_add_5 rfl rfl ?_
    refine r_bipush C dX4_add_6 (v := k28) (by rw [qk28]; rfl) ?_
    refine r_icmp_gt C 22 dX4_add_8 (by decide) (fun c57 => ?_) (fun c57 => ?_)
    · skip
      refine r_iconst C dX4_add_22 (v := k0) (by rw [qk0]; rfl) ?_
      exact r_zret C (n_bool (by omega)) dX4_add_23 ⟨_, rfl, ⟨by omega, by omega⟩⟩
    · skip
      refine r_iload_n C (j := 2) dX4_add_11 rfl rfl ?_
      refine r_iconst C dX4_add_12 (v := k1) (by rw [qk1]; rfl) ?_
      refine r_icmp_lt C 22 dX4_add_13 (by decide) (fun c58 => ?_) (fun c58 => ?_)
      · skip
        refine r_iconst C dX4_add_22 (v := k0) (by rw [qk0]; rfl) ?_
        exact r_zret C (n_bool (by omega)) dX4_add_23 ⟨_, rfl, ⟨by omega, by omega⟩⟩
      · skip
        refine r_iload_n C (j := 2) dX4_add_16 rfl rfl ?_
        refine r_bipush C dX4_add_17 (v := k16) (by rw [qk16]; rfl) ?_
        refine r_icmp_le C 24 dX4_add_19 (by decide) (fun c59 => ?_) (fun c59 => ?_)
        · skip
          refine r_aload_n C (j := 0) dX4_add_24 rfl rfl ?_
          obtain ⟨v60, ev60⟩ : ∃ z : Int32, (s).1 c0 4 = z := ⟨_, rfl⟩
          have gv60 : (s.1 c0 4).toInt = v60.toInt := congrArg Int32.toInt (ev60)
          refine r_geti (k := 4) (lo := 0) (hi := 24) C v60 oCl4 hk0 (by decide) flX4_28 rfl rfl (ev60) rfl rfl dX4_add_25 (fun b61 b61h => ?_)
          refine r_bipush C dX4_add_28 (v := k24) (by rw [qk24]; rfl) ?_
          refine r_icmp_ge C 44 dX4_add_30 (by decide) (fun c62 => ?_) (fun c62 => ?_)
          · skip
            refine r_iconst C dX4_add_44 (v := k0) (by rw [qk0]; rfl) ?_
            have lk63 : ((s).1 c0 4).toInt = v60.toInt := congrArg Int32.toInt (ev60)
            exact r_zret C (n_bool (by omega)) dX4_add_45 ⟨_, rfl, ⟨by omega, by omega⟩⟩
          · skip
            refine r_aload_n C (j := 0) dX4_add_33 rfl rfl ?_
            obtain ⟨v64, ev64⟩ : ∃ z : Int32, (s).1 c0 5 = z := ⟨_, rfl⟩
            have gv64 : (s.1 c0 5).toInt = v64.toInt := congrArg Int32.toInt (ev64)
            refine r_geti (k := 5) (lo := 0) (hi := 96) C v64 oCl4 hk0 (by decide) flX4_31 rfl rfl (ev64) rfl rfl dX4_add_34 (fun b65 b65h => ?_)
            refine r_iload_n C (j := 2) dX4_add_37 rfl rfl ?_
            obtain ⟨v66, ev66⟩ : ∃ z : Int32, z = v64 + a2 := ⟨_, rfl⟩
            have hv66 : v66.toInt = v64.toInt + a2.toInt := n_add ev66 (by omega) (by omega)
            refine r_iadd C v66 dX4_add_38 ev66 ?_
            refine r_bipush C dX4_add_39 (v := k96) (by rw [qk96]; rfl) ?_
            refine r_icmp_le C 46 dX4_add_41 (by decide) (fun c67 => ?_) (fun c67 => ?_)
            · skip
              refine r_aload_n C (j := 0) dX4_add_46 rfl rfl ?_
              refine r_getR (k := 0) (b := 1) C oCl4 hk0 (by decide) flX4_9 rfl rfl rfl dX4_add_47 ?_
              refine r_aload_n C (j := 0) dX4_add_50 rfl rfl ?_
              refine r_geti (k := 4) (lo := 0) (hi := 24) C v60 oCl4 hk0 (by decide) flX4_28 rfl rfl (ev60) rfl rfl dX4_add_51 (fun _ _ => ?_)
              refine r_iload_n C (j := 1) dX4_add_54 rfl rfl ?_
              refine r_iast (n := 24) (lo := (-2147483648)) (hi := 2147483647) C (kr4_1 hk0) (by decide) rfl rfl ⟨by omega, by omega⟩ (by decide) rfl rfl rfl rfl (n_rng _) dX4_add_55 ?_
              refine r_aload_n C (j := 0) dX4_add_56 rfl rfl ?_
              refine r_getR (k := 1) (b := 2) C oCl4 hk0 (by decide) flX4_15 rfl rfl rfl dX4_add_57 ?_
              refine r_aload_n C (j := 0) dX4_add_60 rfl rfl ?_
              refine r_geti (k := 4) (lo := 0) (hi := 24) C v60 oCl4 hk0 (by decide) flX4_28 rfl rfl (((pI_ne _ _ (Or.inl (okd_ne hk0 (kr4_1 hk0) (by decide))))).trans ev60) rfl rfl dX4_add_61 (fun _ _ => ?_)
              refine r_iload_n C (j := 2) dX4_add_64 rfl rfl ?_
              refine r_iast (n := 24) (lo := (-2147483648)) (hi := 2147483647) C (kr4_2 hk0) (by decide) rfl rfl ⟨by omega, by omega⟩ (by decide) rfl rfl rfl rfl (n_rng _) dX4_add_65 ?_
              refine r_aload_n C (j := 0) dX4_add_66 rfl rfl ?_
              refine r_getR (k := 2) (b := 3) C oCl4 hk0 (by decide) flX4_18 rfl rfl rfl dX4_add_67 ?_
              refine r_aload_n C (j := 0) dX4_add_70 rfl rfl ?_
              refine r_geti (k := 4) (lo := 0) (hi := 24) C v60 oCl4 hk0 (by decide) flX4_28 rfl rfl (((pI_ne _ _ (Or.inl (okd_ne hk0 (kr4_2 hk0) (by decide))))).trans ((pI_ne _ _ (Or.inl (okd_ne hk0 (kr4_1 hk0) (by decide))))).trans ev60) rfl rfl dX4_add_71 (fun _ _ => ?_)
              refine r_aload_n C (j := 0) dX4_add_74 rfl rfl ?_
              refine r_geti (k := 5) (lo := 0) (hi := 96) C v64 oCl4 hk0 (by decide) flX4_31 rfl rfl (((pI_ne _ _ (Or.inl (okd_ne hk0 (kr4_2 hk0) (by decide))))).trans ((pI_ne _ _ (Or.inl (okd_ne hk0 (kr4_1 hk0) (by decide))))).trans ev64) rfl rfl dX4_add_75 (fun _ _ => ?_)
              refine r_iast (n := 24) (lo := (-2147483648)) (hi := 2147483647) C (kr4_3 hk0) (by decide) rfl rfl ⟨by omega, by omega⟩ (by decide) rfl rfl rfl rfl (n_rng _) dX4_add_78 ?_
              refine r_aload_n C (j := 0) dX4_add_79 rfl rfl ?_
              refine r_geti (k := 5) (lo := 0) (hi := 96) C v64 oCl4 hk0 (by decide) flX4_31 rfl rfl (((pI_ne _ _ (Or.inl (okd_ne hk0 (kr4_3 hk0) (by decide))))).trans ((pI_ne _ _ (Or.inl (okd_ne hk0 (kr4_2 hk0) (by decide))))).trans ((pI_ne _ _ (Or.inl (okd_ne hk0 (kr4_1 hk0) (by decide))))).trans ev64) rfl rfl dX4_add_80 (fun _ _ => ?_)
              refine r_istore_n C (lv' := [(0, .ref (oad E c0)), (1, .int a1), (2, .int a2), (3, .int v64)]) [1, 2, 3, 0] dX4_add_83 rfl (by decide) rfl ?_
              have lk68 : (((pI (pI (pI s (c0 + 1) v60.toNatClampNeg a1) (c0 + 2) v60.toNatClampNeg a2) (c0 + 3) v60.toNatClampNeg v64)).1 c0 4).toInt = v60.toInt := congrArg Int32.toInt (((pI_ne _ _ (Or.inl (okd_ne hk0 (kr4_3 hk0) (by decide))))).trans ((pI_ne _ _ (Or.inl (okd_ne hk0 (kr4_2 hk0) (by decide))))).trans ((pI_ne _ _ (Or.inl (okd_ne hk0 (kr4_1 hk0) (by decide))))).trans ev60)
              have lk69 : (((pI (pI (pI s (c0 + 1) v60.toNatClampNeg a1) (c0 + 2) v60.toNatClampNeg a2) (c0 + 3) v60.toNatClampNeg v64)).1 c0 5).toInt = v64.toInt := congrArg Int32.toInt (((pI_ne _ _ (Or.inl (okd_ne hk0 (kr4_3 hk0) (by decide))))).trans ((pI_ne _ _ (Or.inl (okd_ne hk0 (kr4_2 hk0) (by decide))))).trans ((pI_ne _ _ (Or.inl (okd_ne hk0 (kr4_1 hk0) (by decide))))).trans ev64)
              exact (key ((s.1 c0 5).toInt + a2.toInt - v64.toInt + 1).toNat) ((pI (pI (pI s (c0 + 1) v60.toNatClampNeg a1) (c0 + 2) v60.toNatClampNeg a2) (c0 + 3) v60.toNatClampNeg v64)) v64  (by omega) (by omega) (by omega) (by omega) (by omega) (by omega) (by omega) (by omega)
            · skip
              refine r_iconst C dX4_add_44 (v := k0) (by rw [qk0]; rfl) ?_
              have lk70 : ((s).1 c0 4).toInt = v60.toInt := congrArg Int32.toInt (ev60)
              have lk71 : ((s).1 c0 5).toInt = v64.toInt := congrArg Int32.toInt (ev64)
              exact r_zret C (n_bool (by omega)) dX4_add_45 ⟨_, rfl, ⟨by omega, by omega⟩⟩
        · skip
          refine r_iconst C dX4_add_22 (v := k0) (by rw [qk0]; rfl) ?_
          have lk72 : ((s).1 c0 4).toInt = v60.toInt := congrArg Int32.toInt (ev60)
          have lk73 : ((s).1 c0 5).toInt = v64.toInt := congrArg Int32.toInt (ev64)
          exact r_zret C (n_bool (by omega)) dX4_add_23 ⟨_, rfl, ⟨by omega, by omega⟩⟩
set_option maxHeartbeats 4000000 in
set_option maxRecDepth 100000 in
theorem ct_X4_copyFrom (l : Launch) (E : oE) (s : oS) (c0 : Nat) (hk0 : okd c0 = 4) (c1 : Nat) (hk1 : okd c1 = 4)  : oMet l 3 yX4_copyFrom cX4_copyFrom 3 none [(4, 4), (4, 5), (4, 6), (4, 7), (16, 9999), (17, 9999), (18, 9999), (19, 9999)] E s [.ref (oad E c0), .ref (oad E c1)] (oPv (fun u => True)) := by
  refine oMet.of (lv := [(0, .ref (oad E c0)), (1, .ref (oad E c1))]) (by decide +kernel) (Nat.le_of_ble_eq_true rfl) rfl (fun J C hT => ?_)
  have C : oC l 3 cX4_copyFrom RX4 3 none [(4, 4), (4, 5), (4, 6), (4, 7), (16, 9999), (17, 9999), (18, 9999), (19, 9999)] E s (oPv (fun u => True)) J := C
  obtain ⟨k0, qk0⟩ : ∃ z : Int32, z = 0 := ⟨_, rfl⟩
  have ek0 : k0.toInt = 0 := by rw [qk0]; rfl
  have key : ∀ n : Nat, (∀ (t : oS) (x2 : Int32), 0 ≤ x2.toInt ∧ x2.toInt ≤ 24 → 25 - x2.toInt ≤ (n : Int) → J t 6 [(0, .ref (oad E c0)), (1, .ref (oad E c1)), (2, .int x2)] []) := by
    intro n
    induction n using Nat.strongRecOn with
    | _ n ih =>
      skip
      · intro t x2  iv0 hmu
        have rx2 := n_rng x2
        refine r_iload_n C (j := 2) dX4_copyFrom_6 rfl rfl ?_
        refine r_aload_n C (j := 1) dX4_copyFrom_7 rfl rfl ?_
        obtain ⟨v1, ev1⟩ : ∃ z : Int32, (t).1 c1 4 = z := ⟨_, rfl⟩
        have gv1 : (t.1 c1 4).toInt = v1.toInt := congrArg Int32.toInt (ev1)
        refine r_geti (k := 4) (lo := 0) (hi := 24) C v1 oCl4 hk1 (by decide) flX4_28 rfl rfl (ev1) rfl rfl dX4_copyFrom_8 (fun b2 b2h => ?_)
        refine r_icmp_ge C 35 dX4_copyFrom_11 (by decide) (fun c3 => ?_) (fun c3 => ?_)
        · skip
          exact r_vret C dX4_copyFrom_35 ⟨rfl, trivial⟩
        · skip
          refine r_aload_n C (j := 0) dX4_copyFrom_14 rfl rfl ?_
          refine r_aload_n C (j := 1) dX4_copyFrom_15 rfl rfl ?_
          refine r_iload_n C (j := 2) dX4_copyFrom_16 rfl rfl ?_
          refine r_callVi C oCl4 hk1 miX4_stepOf mlX4_41 (ct_X4_stepOf l E (t) c1 hk1 x2 ) (by decide) rfl rfl rfl (Nat.le_of_ble_eq_true rfl) dX4_copyFrom_17 (fun r5 u4 pu4 fu4 => ?_)
          try dsimp only at pu4
          have rr5 := n_rng r5
          refine r_aload_n C (j := 1) dX4_copyFrom_20 rfl rfl ?_
          refine r_iload_n C (j := 2) dX4_copyFrom_21 rfl rfl ?_
          refine r_callVi C oCl4 hk1 miX4_lengthOf mlX4_45 (ct_X4_lengthOf l E (u4) c1 hk1 x2 ) (by decide) rfl rfl rfl (Nat.le_of_ble_eq_true rfl) dX4_copyFrom_22 (fun r7 u6 pu6 fu6 => ?_)
          try dsimp only at pu6
          have rr7 := n_rng r7
          have lk8 : ((u6).1 c0 4).toInt = (t.1 c0 4).toInt := congrArg Int32.toInt (((fu6 c0 4 (by rw [hk0]; rfl)).1).trans (fu4 c0 4 (by rw [hk0]; rfl)).1)
          have lk9 : ((u6).1 c0 5).toInt = (t.1 c0 5).toInt := congrArg Int32.toInt (((fu6 c0 5 (by rw [hk0]; rfl)).1).trans (fu4 c0 5 (by rw [hk0]; rfl)).1)
          refine r_callVi C oCl4 hk0 miX4_add mlX4_48 (ct_X4_add l E (u6) c0 hk0 r5 r7 ) (by decide) rfl rfl rfl (Nat.le_of_ble_eq_true rfl) dX4_copyFrom_25 (fun r11 u10 pu10 fu10 => ?_)
          try dsimp only at pu10
          have rr11 := n_rng r11
          refine r_pop C dX4_copyFrom_28 rfl ?_
          obtain ⟨v12, ev12⟩ : ∃ z : Int32, x2 + Int32.ofInt 1 = z := ⟨_, rfl⟩
          have hv12 : v12.toInt = x2.toInt + 1 := n_inc ev12 (by decide) (by omega) (by omega)
          refine r_iinc C (j := 2) (lv' := [(0, .ref (oad E c0)), (1, .ref (oad E c1)), (2, .int v12)]) v12 [1, 2, 0] dX4_copyFrom_29 rfl ev12 (by decide) rfl ?_
          refine r_goto C (tgt := 6) dX4_copyFrom_32 (by decide) ?_
          exact (ih (n - 1) (by omega)) (u10) v12  (by omega) (by omega)
  refine r_aload_n C (j := 0) dX4_copyFrom_0 rfl rfl ?_
  refine r_callVv C oCl4 hk0 miX4_clear mlX4_38 (ct_X4_clear l E (s) c0 hk0 ) (by decide) rfl rfl rfl (Nat.le_of_ble_eq_true rfl) dX4_copyFrom_1 (fun u13 pu13 fu13 => ?_)
  try dsimp only at pu13
  refine r_iconst C dX4_copyFrom_4 (v := k0) (by rw [qk0]; rfl) ?_
  refine r_istore_n C (lv' := [(0, .ref (oad E c0)), (1, .ref (oad E c1)), (2, .int k0)]) [1, 2, 0] dX4_copyFrom_5 rfl (by decide) rfl ?_
  exact (key (25 - k0.toInt).toNat) (u13) k0  (by omega) (by omega)
set_option maxHeartbeats 4000000 in
set_option maxRecDepth 100000 in
theorem ct_X4_fillMade (l : Launch) (E : oE) (s : oS) (c0 : Nat) (hk0 : okd c0 = 4) (a1 : Int32) (a2 : Int32)  : oMet l 4 yX4_fillMade cX4_fillMade 5 (some .boolean) [(4, 6), (16, 9999)] E s [.ref (oad E c0), .int a1, .int a2] (oPi (fun r u => (0 ≤ r.toInt ∧ r.toInt ≤ 1))) := by
  refine oMet.of (lv := [(0, .ref (oad E c0)), (1, .int a1), (2, .int a2)]) (by decide +kernel) (Nat.le_of_ble_eq_true rfl) rfl (fun J C hT => ?_)
  have C : oC l 4 cX4_fillMade RX4 5 (some .boolean) [(4, 6), (16, 9999)] E s (oPi (fun r u => (0 ≤ r.toInt ∧ r.toInt ≤ 1))) J := C
  obtain ⟨k0, qk0⟩ : ∃ z : Int32, z = 0 := ⟨_, rfl⟩
  have ek0 : k0.toInt = 0 := by rw [qk0]; rfl
  obtain ⟨k1, qk1⟩ : ∃ z : Int32, z = 1 := ⟨_, rfl⟩
  have ek1 : k1.toInt = 1 := by rw [qk1]; rfl
  have rg1 := n_rng a1
  have rg2 := n_rng a2
  have key : ∀ n : Nat, (∀ (t : oS) (x3 : Int32), 2147483648 - x3.toInt ≤ (n : Int) → J t 2 [(0, .ref (oad E c0)), (2, .int a2), (3, .int x3)] []) := by
    intro n
    induction n using Nat.strongRecOn with
    | _ n ih =>
      skip
      · intro t x3   hmu
        have rx3 := n_rng x3
        refine r_iload_n C (j := 2) dX4_fillMade_2 rfl rfl ?_
        refine r_aload_n C (j := 0) dX4_fillMade_3 rfl rfl ?_
        obtain ⟨v1, ev1⟩ : ∃ z : Int32, (t).1 c0 4 = z := ⟨_, rfl⟩
        have gv1 : (t.1 c0 4).toInt = v1.toInt := congrArg Int32.toInt (ev1)
        refine r_geti (k := 4) (lo := 0) (hi := 24) C v1 oCl4 hk0 (by decide) flX4_28 rfl rfl (ev1) rfl rfl dX4_fillMade_4 (fun b2 b2h => ?_)
        refine r_icmp_ge C 52 dX4_fillMade_7 (by decide) (fun c3 => ?_) (fun c3 => ?_)
        · skip
          refine r_iconst C dX4_fillMade_52 (v := k1) (by rw [qk1]; rfl) ?_
          exact r_zret C (n_bool (by omega)) dX4_fillMade_53 ⟨_, rfl, by omega⟩
        · skip
          refine r_iload_n C (j := 2) dX4_fillMade_10 rfl rfl ?_
          refine r_if_le C 28 dX4_fillMade_11 (by decide) (fun c4 => ?_) (fun c4 => ?_)
          · skip
            refine r_iconst C dX4_fillMade_28 (v := k0) (by rw [qk0]; rfl) ?_
            refine r_istore C (lv' := [(0, .ref (oad E c0)), (2, .int a2), (3, .int x3), (4, .int k0)]) [1, 2, 3, 0] dX4_fillMade_29 (by decide) rfl ?_
            refine r_iload C (j := 3) dX4_fillMade_31 rfl ?_
            refine r_iload_n C (j := 1) dX4_fillMade_33 rfl rfl ?_
            refine r_icmp_le C 39 dX4_fillMade_34 (by decide) (fun c5 => ?_) (fun c5 => ?_)
            · skip
              refine r_aload_n C (j := 0) dX4_fillMade_39 rfl rfl ?_
              refine r_iload_n C (j := 2) dX4_fillMade_40 rfl rfl ?_
              refine r_iload C (j := 3) dX4_fillMade_41 rfl ?_
              refine r_callVv C oCl4 hk0 miX4_setStep mlX4_59 (ct_X4_setStep l E (t) c0 hk0 x3 k0 ) (by decide) rfl rfl rfl (Nat.le_of_ble_eq_true rfl) dX4_fillMade_43 (fun u6 pu6 fu6 => ?_)
              try dsimp only at pu6
              obtain ⟨v8, ev8⟩ : ∃ z : Int32, x3 + Int32.ofInt 1 = z := ⟨_, rfl⟩
              have hv8 : v8.toInt = x3.toInt + 1 := n_inc ev8 (by decide) (by omega) (by omega)
              refine r_iinc C (j := 2) (lv' := [(0, .ref (oad E c0)), (2, .int a2), (3, .int v8), (4, .int k0)]) v8 [1, 2, 0, 3] dX4_fillMade_46 rfl ev8 (by decide) rfl ?_
              refine r_goto C (tgt := 2) dX4_fillMade_49 (by decide) ?_
              refine r_pick C [0, 1, 2] rfl ?_
              exact (ih (n - 1) (by omega)) (u6) v8   (by omega)
            · skip
              refine r_iconst C dX4_fillMade_37 (v := k0) (by rw [qk0]; rfl) ?_
              exact r_zret C (n_bool (by omega)) dX4_fillMade_38 ⟨_, rfl, by omega⟩
          · skip
            refine r_aload_n C (j := 0) dX4_fillMade_14 rfl rfl ?_
            refine r_iload_n C (j := 2) dX4_fillMade_15 rfl rfl ?_
            refine r_iconst C dX4_fillMade_16 (v := k1) (by rw [qk1]; rfl) ?_
            obtain ⟨v9, ev9⟩ : ∃ z : Int32, z = x3 - k1 := ⟨_, rfl⟩
            have rv9 := n_rng v9
            refine r_isub C v9 dX4_fillMade_17 ev9 ?_
            refine r_callVi C oCl4 hk0 miX4_stepOf mlX4_41 (ct_X4_stepOf l E (t) c0 hk0 v9 ) (by decide) rfl rfl rfl (Nat.le_of_ble_eq_true rfl) dX4_fillMade_18 (fun r11 u10 pu10 fu10 => ?_)
            try dsimp only at pu10
            have rr11 := n_rng r11
            refine r_if_ne C 28 dX4_fillMade_21 (by decide) (fun c12 => ?_) (fun c12 => ?_)
            · skip
              refine r_iconst C dX4_fillMade_28 (v := k0) (by rw [qk0]; rfl) ?_
              refine r_istore C (lv' := [(0, .ref (oad E c0)), (2, .int a2), (3, .int x3), (4, .int k0)]) [1, 2, 3, 0] dX4_fillMade_29 (by decide) rfl ?_
              refine r_iload C (j := 3) dX4_fillMade_31 rfl ?_
              refine r_iload_n C (j := 1) dX4_fillMade_33 rfl rfl ?_
              refine r_icmp_le C 39 dX4_fillMade_34 (by decide) (fun c13 => ?_) (fun c13 => ?_)
              · skip
                refine r_aload_n C (j := 0) dX4_fillMade_39 rfl rfl ?_
                refine r_iload_n C (j := 2) dX4_fillMade_40 rfl rfl ?_
                refine r_iload C (j := 3) dX4_fillMade_41 rfl ?_
                refine r_callVv C oCl4 hk0 miX4_setStep mlX4_59 (ct_X4_setStep l E (u10) c0 hk0 x3 k0 ) (by decide) rfl rfl rfl (Nat.le_of_ble_eq_true rfl) dX4_fillMade_43 (fun u14 pu14 fu14 => ?_)
                try dsimp only at pu14
                obtain ⟨v16, ev16⟩ : ∃ z : Int32, x3 + Int32.ofInt 1 = z := ⟨_, rfl⟩
                have hv16 : v16.toInt = x3.toInt + 1 := n_inc ev16 (by decide) (by omega) (by omega)
                refine r_iinc C (j := 2) (lv' := [(0, .ref (oad E c0)), (2, .int a2), (3, .int v16), (4, .int k0)]) v16 [1, 2, 0, 3] dX4_fillMade_46 rfl ev16 (by decide) rfl ?_
                refine r_goto C (tgt := 2) dX4_fillMade_49 (by decide) ?_
                refine r_pick C [0, 1, 2] rfl ?_
                exact (ih (n - 1) (by omega)) (u14) v16   (by omega)
              · skip
                refine r_iconst C dX4_fillMade_37 (v := k0) (by rw [qk0]; rfl) ?_
                exact r_zret C (n_bool (by omega)) dX4_fillMade_38 ⟨_, rfl, by omega⟩
            · skip
              refine r_iconst C dX4_fillMade_24 (v := k1) (by rw [qk1]; rfl) ?_
              refine r_goto C (tgt := 29) dX4_fillMade_25 (by decide) ?_
              refine r_istore C (lv' := [(0, .ref (oad E c0)), (2, .int a2), (3, .int x3), (4, .int k1)]) [1, 2, 3, 0] dX4_fillMade_29 (by decide) rfl ?_
              refine r_iload C (j := 3) dX4_fillMade_31 rfl ?_
              refine r_iload_n C (j := 1) dX4_fillMade_33 rfl rfl ?_
              refine r_icmp_le C 39 dX4_fillMade_34 (by decide) (fun c17 => ?_) (fun c17 => ?_)
              · skip
                refine r_aload_n C (j := 0) dX4_fillMade_39 rfl rfl ?_
                refine r_iload_n C (j := 2) dX4_fillMade_40 rfl rfl ?_
                refine r_iload C (j := 3) dX4_fillMade_41 rfl ?_
                refine r_callVv C oCl4 hk0 miX4_setStep mlX4_59 (ct_X4_setStep l E (u10) c0 hk0 x3 k1 ) (by decide) rfl rfl rfl (Nat.le_of_ble_eq_true rfl) dX4_fillMade_43 (fun u18 pu18 fu18 => ?_)
                try dsimp only at pu18
                obtain ⟨v20, ev20⟩ : ∃ z : Int32, x3 + Int32.ofInt 1 = z := ⟨_, rfl⟩
                have hv20 : v20.toInt = x3.toInt + 1 := n_inc ev20 (by decide) (by omega) (by omega)
                refine r_iinc C (j := 2) (lv' := [(0, .ref (oad E c0)), (2, .int a2), (3, .int v20), (4, .int k1)]) v20 [1, 2, 0, 3] dX4_fillMade_46 rfl ev20 (by decide) rfl ?_
                refine r_goto C (tgt := 2) dX4_fillMade_49 (by decide) ?_
                refine r_pick C [0, 1, 2] rfl ?_
                exact (ih (n - 1) (by omega)) (u18) v20   (by omega)
              · skip
                refine r_iconst C dX4_fillMade_37 (v := k0) (by rw [qk0]; rfl) ?_
                exact r_zret C (n_bool (by omega)) dX4_fillMade_38 ⟨_, rfl, by omega⟩
  refine r_iload_n C (j := 1) dX4_fillMade_0 rfl rfl ?_
  refine r_istore_n C (lv' := [(0, .ref (oad E c0)), (1, .int a1), (2, .int a2), (3, .int a1)]) [1, 2, 3, 0] dX4_fillMade_1 rfl (by decide) rfl ?_
  refine r_pick C [0, 2, 3] rfl ?_
  exact (key (2147483648 - a1.toInt).toNat) (s) a1   (by omega)
set_option maxHeartbeats 4000000 in
set_option maxRecDepth 100000 in
theorem ct_X4_beginMade (l : Launch) (E : oE) (s : oS) (c0 : Nat) (hk0 : okd c0 = 4) (a1 : Int32) (a2 : Int32)  : oMet l 5 yX4_beginMade cX4_beginMade 4 (some .boolean) [(4, 4), (4, 5), (4, 6), (4, 7), (16, 9999), (17, 9999), (18, 9999), (19, 9999)] E s [.ref (oad E c0), .int a1, .int a2] (oPi (fun r u => (0 ≤ r.toInt ∧ r.toInt ≤ 1))) := by
  refine oMet.of (lv := [(0, .ref (oad E c0)), (1, .int a1), (2, .int a2)]) (by decide +kernel) (Nat.le_of_ble_eq_true rfl) rfl (fun J C hT => ?_)
  have C : oC l 5 cX4_beginMade RX4 4 (some .boolean) [(4, 4), (4, 5), (4, 6), (4, 7), (16, 9999), (17, 9999), (18, 9999), (19, 9999)] E s (oPi (fun r u => (0 ≤ r.toInt ∧ r.toInt ≤ 1))) J := C
  obtain ⟨k0, qk0⟩ : ∃ z : Int32, z = 0 := ⟨_, rfl⟩
  have ek0 : k0.toInt = 0 := by rw [qk0]; rfl
  obtain ⟨k2, qk2⟩ : ∃ z : Int32, z = 2 := ⟨_, rfl⟩
  have ek2 : k2.toInt = 2 := by rw [qk2]; rfl
  have rg1 := n_rng a1
  have rg2 := n_rng a2
  have key : ∀ n : Nat, (∀ (t : oS) (x3 : Int32), 0 ≤ x3.toInt → 2147483648 - x3.toInt ≤ (n : Int) → J t 6 [(0, .ref (oad E c0)), (1, .int a1), (2, .int a2), (3, .int x3)] []) := by
    intro n
    induction n using Nat.strongRecOn with
    | _ n ih =>
      skip
      · intro t x3  iv0 hmu
        have rx3 := n_rng x3
        refine r_iload_n C (j := 3) dX4_beginMade_6 rfl rfl ?_
        refine r_iload_n C (j := 1) dX4_beginMade_7 rfl rfl ?_
        refine r_icmp_ge C 24 dX4_beginMade_8 (by decide) (fun c1 => ?_) (fun c1 => ?_)
        · skip
          refine r_aload_n C (j := 0) dX4_beginMade_24 rfl rfl ?_
          refine r_iconst C dX4_beginMade_25 (v := k0) (by rw [qk0]; rfl) ?_
          refine r_iload_n C (j := 2) dX4_beginMade_26 rfl rfl ?_
          refine r_callVi C oCl4 hk0 miX4_fillMade mlX4_56 (ct_X4_fillMade l E (t) c0 hk0 k0 a2 ) (by decide) rfl rfl rfl (Nat.le_of_ble_eq_true rfl) dX4_beginMade_27 (fun r3 u2 pu2 fu2 => ?_)
          try dsimp only at pu2
          have rr3 := n_rng r3
          exact r_zret C (n_bool (by omega)) dX4_beginMade_30 ⟨_, rfl, by omega⟩
        · skip
          refine r_aload_n C (j := 0) dX4_beginMade_11 rfl rfl ?_
          refine r_iconst C dX4_beginMade_12 (v := k0) (by rw [qk0]; rfl) ?_
          refine r_iconst C dX4_beginMade_13 (v := k2) (by rw [qk2]; rfl) ?_
          refine r_callVi C oCl4 hk0 miX4_add mlX4_48 (ct_X4_add l E (t) c0 hk0 k0 k2 ) (by decide) rfl rfl rfl (Nat.le_of_ble_eq_true rfl) dX4_beginMade_14 (fun r5 u4 pu4 fu4 => ?_)
          try dsimp only at pu4
          have rr5 := n_rng r5
          refine r_pop C dX4_beginMade_17 rfl ?_
          obtain ⟨v6, ev6⟩ : ∃ z : Int32, x3 + Int32.ofInt 1 = z := ⟨_, rfl⟩
          have hv6 : v6.toInt = x3.toInt + 1 := n_inc ev6 (by decide) (by omega) (by omega)
          refine r_iinc C (j := 3) (lv' := [(0, .ref (oad E c0)), (1, .int a1), (2, .int a2), (3, .int v6)]) v6 [1, 2, 3, 0] dX4_beginMade_18 rfl ev6 (by decide) rfl ?_
          refine r_goto C (tgt := 6) dX4_beginMade_21 (by decide) ?_
          exact (ih (n - 1) (by omega)) (u4) v6  (by omega) (by omega)
  refine r_aload_n C (j := 0) dX4_beginMade_0 rfl rfl ?_
  refine r_callVv C oCl4 hk0 miX4_clear mlX4_38 (ct_X4_clear l E (s) c0 hk0 ) (by decide) rfl rfl rfl (Nat.le_of_ble_eq_true rfl) dX4_beginMade_1 (fun u7 pu7 fu7 => ?_)
  try dsimp only at pu7
  refine r_iconst C dX4_beginMade_4 (v := k0) (by rw [qk0]; rfl) ?_
  refine r_istore_n C (lv' := [(0, .ref (oad E c0)), (1, .int a1), (2, .int a2), (3, .int k0)]) [1, 2, 3, 0] dX4_beginMade_5 rfl (by decide) rfl ?_
  exact (key (2147483648 - k0.toInt).toNat) (u7) k0  (by omega) (by omega)
set_option maxHeartbeats 4000000 in
set_option maxRecDepth 100000 in
theorem ct_X4_advanceMade (l : Launch) (E : oE) (s : oS) (c0 : Nat) (hk0 : okd c0 = 4) (a1 : Int32)  : oMet l 5 yX4_advanceMade cX4_advanceMade 4 (some .boolean) [(4, 6), (16, 9999)] E s [.ref (oad E c0), .int a1] (oPi (fun r u => (0 ≤ r.toInt ∧ r.toInt ≤ 1))) := by
  refine oMet.of (lv := [(0, .ref (oad E c0)), (1, .int a1)]) (by decide +kernel) (Nat.le_of_ble_eq_true rfl) rfl (fun J C hT => ?_)
  have C : oC l 5 cX4_advanceMade RX4 4 (some .boolean) [(4, 6), (16, 9999)] E s (oPi (fun r u => (0 ≤ r.toInt ∧ r.toInt ≤ 1))) J := C
  obtain ⟨k0, qk0⟩ : ∃ z : Int32, z = 0 := ⟨_, rfl⟩
  have ek0 : k0.toInt = 0 := by rw [qk0]; rfl
  obtain ⟨k1, qk1⟩ : ∃ z : Int32, z = 1 := ⟨_, rfl⟩
  have ek1 : k1.toInt = 1 := by rw [qk1]; rfl
  have rg1 := n_rng a1
  have key : ∀ n : Nat, (∀ (t : oS) (x2 : Int32), -1 ≤ x2.toInt ∧ x2.toInt ≤ 23 → x2.toInt + 2 ≤ (n : Int) → J t 7 [(0, .ref (oad E c0)), (1, .int a1), (2, .int x2)] []) := by
    intro n
    induction n using Nat.strongRecOn with
    | _ n ih =>
      skip
      · intro t x2  iv0 hmu
        have rx2 := n_rng x2
        refine r_iload_n C (j := 2) dX4_advanceMade_7 rfl rfl ?_
        refine r_if_lt C 63 dX4_advanceMade_8 (by decide) (fun c1 => ?_) (fun c1 => ?_)
        · skip
          refine r_iconst C dX4_advanceMade_63 (v := k0) (by rw [qk0]; rfl) ?_
          exact r_zret C (n_bool (by omega)) dX4_advanceMade_64 ⟨_, rfl, by omega⟩
        · skip
          refine r_aload_n C (j := 0) dX4_advanceMade_11 rfl rfl ?_
          refine r_iload_n C (j := 2) dX4_advanceMade_12 rfl rfl ?_
          refine r_callVi C oCl4 hk0 miX4_stepOf mlX4_41 (ct_X4_stepOf l E (t) c0 hk0 x2 ) (by decide) rfl rfl rfl (Nat.le_of_ble_eq_true rfl) dX4_advanceMade_13 (fun r3 u2 pu2 fu2 => ?_)
          try dsimp only at pu2
          have rr3 := n_rng r3
          refine r_iconst C dX4_advanceMade_16 (v := k1) (by rw [qk1]; rfl) ?_
          obtain ⟨v4, ev4⟩ : ∃ z : Int32, z = r3 + k1 := ⟨_, rfl⟩
          have rv4 := n_rng v4
          refine r_iadd C v4 dX4_advanceMade_17 ev4 ?_
          refine r_istore_n C (lv' := [(0, .ref (oad E c0)), (1, .int a1), (2, .int x2), (3, .int v4)]) [1, 2, 3, 0] dX4_advanceMade_18 rfl (by decide) rfl ?_
          refine r_iload_n C (j := 2) dX4_advanceMade_19 rfl rfl ?_
          refine r_if_le C 37 dX4_advanceMade_20 (by decide) (fun c5 => ?_) (fun c5 => ?_)
          · skip
            refine r_iload_n C (j := 3) dX4_advanceMade_37 rfl rfl ?_
            refine r_iload_n C (j := 1) dX4_advanceMade_38 rfl rfl ?_
            refine r_icmp_gt C 57 dX4_advanceMade_39 (by decide) (fun c6 => ?_) (fun c6 => ?_)
            · skip
              obtain ⟨v7, ev7⟩ : ∃ z : Int32, x2 + Int32.ofInt (-1) = z := ⟨_, rfl⟩
              have hv7 : v7.toInt = x2.toInt + (-1) := n_inc ev7 (by decide) (by omega) (by omega)
              refine r_iinc C (j := 2) (lv' := [(0, .ref (oad E c0)), (1, .int a1), (2, .int v7), (3, .int v4)]) v7 [1, 2, 0, 3] dX4_advanceMade_57 rfl ev7 (by decide) rfl ?_
              refine r_goto C (tgt := 7) dX4_advanceMade_60 (by decide) ?_
              refine r_pick C [0, 1, 2] rfl ?_
              exact (ih (n - 1) (by omega)) (u2) v7  (by omega) (by omega)
            · skip
              refine r_aload_n C (j := 0) dX4_advanceMade_42 rfl rfl ?_
              refine r_iload_n C (j := 2) dX4_advanceMade_43 rfl rfl ?_
              refine r_iload_n C (j := 3) dX4_advanceMade_44 rfl rfl ?_
              refine r_callVv C oCl4 hk0 miX4_setStep mlX4_59 (ct_X4_setStep l E (u2) c0 hk0 x2 v4 ) (by decide) rfl rfl rfl (Nat.le_of_ble_eq_true rfl) dX4_advanceMade_45 (fun u8 pu8 fu8 => ?_)
              try dsimp only at pu8
              refine r_aload_n C (j := 0) dX4_advanceMade_48 rfl rfl ?_
              refine r_iload_n C (j := 2) dX4_advanceMade_49 rfl rfl ?_
              refine r_iconst C dX4_advanceMade_50 (v := k1) (by rw [qk1]; rfl) ?_
              obtain ⟨v10, ev10⟩ : ∃ z : Int32, z = x2 + k1 := ⟨_, rfl⟩
              have hv10 : v10.toInt = x2.toInt + k1.toInt := n_add ev10 (by omega) (by omega)
              refine r_iadd C v10 dX4_advanceMade_51 ev10 ?_
              refine r_iload_n C (j := 1) dX4_advanceMade_52 rfl rfl ?_
              refine r_callVi C oCl4 hk0 miX4_fillMade mlX4_56 (ct_X4_fillMade l E (u8) c0 hk0 v10 a1 ) (by decide) rfl rfl rfl (Nat.le_of_ble_eq_true rfl) dX4_advanceMade_53 (fun r12 u11 pu11 fu11 => ?_)
              try dsimp only at pu11
              have rr12 := n_rng r12
              exact r_zret C (n_bool (by omega)) dX4_advanceMade_56 ⟨_, rfl, by omega⟩
          · skip
            refine r_iload_n C (j := 3) dX4_advanceMade_23 rfl rfl ?_
            refine r_aload_n C (j := 0) dX4_advanceMade_24 rfl rfl ?_
            refine r_iload_n C (j := 2) dX4_advanceMade_25 rfl rfl ?_
            refine r_iconst C dX4_advanceMade_26 (v := k1) (by rw [qk1]; rfl) ?_
            obtain ⟨v13, ev13⟩ : ∃ z : Int32, z = x2 - k1 := ⟨_, rfl⟩
            have hv13 : v13.toInt = x2.toInt - k1.toInt := n_sub ev13 (by omega) (by omega)
            refine r_isub C v13 dX4_advanceMade_27 ev13 ?_
            refine r_callVi C oCl4 hk0 miX4_stepOf mlX4_41 (ct_X4_stepOf l E (u2) c0 hk0 v13 ) (by decide) rfl rfl rfl (Nat.le_of_ble_eq_true rfl) dX4_advanceMade_28 (fun r15 u14 pu14 fu14 => ?_)
            try dsimp only at pu14
            have rr15 := n_rng r15
            refine r_icmp_ne C 37 dX4_advanceMade_31 (by decide) (fun c16 => ?_) (fun c16 => ?_)
            · skip
              refine r_iload_n C (j := 3) dX4_advanceMade_37 rfl rfl ?_
              refine r_iload_n C (j := 1) dX4_advanceMade_38 rfl rfl ?_
              refine r_icmp_gt C 57 dX4_advanceMade_39 (by decide) (fun c17 => ?_) (fun c17 => ?_)
              · skip
                obtain ⟨v18, ev18⟩ : ∃ z : Int32, x2 + Int32.ofInt (-1) = z := ⟨_, rfl⟩
                have hv18 : v18.toInt = x2.toInt + (-1) := n_inc ev18 (by decide) (by omega) (by omega)
                refine r_iinc C (j := 2) (lv' := [(0, .ref (oad E c0)), (1, .int a1), (2, .int v18), (3, .int v4)]) v18 [1, 2, 0, 3] dX4_advanceMade_57 rfl ev18 (by decide) rfl ?_
                refine r_goto C (tgt := 7) dX4_advanceMade_60 (by decide) ?_
                refine r_pick C [0, 1, 2] rfl ?_
                exact (ih (n - 1) (by omega)) (u14) v18  (by omega) (by omega)
              · skip
                refine r_aload_n C (j := 0) dX4_advanceMade_42 rfl rfl ?_
                refine r_iload_n C (j := 2) dX4_advanceMade_43 rfl rfl ?_
                refine r_iload_n C (j := 3) dX4_advanceMade_44 rfl rfl ?_
                refine r_callVv C oCl4 hk0 miX4_setStep mlX4_59 (ct_X4_setStep l E (u14) c0 hk0 x2 v4 ) (by decide) rfl rfl rfl (Nat.le_of_ble_eq_true rfl) dX4_advanceMade_45 (fun u19 pu19 fu19 => ?_)
                try dsimp only at pu19
                refine r_aload_n C (j := 0) dX4_advanceMade_48 rfl rfl ?_
                refine r_iload_n C (j := 2) dX4_advanceMade_49 rfl rfl ?_
                refine r_iconst C dX4_advanceMade_50 (v := k1) (by rw [qk1]; rfl) ?_
                obtain ⟨v21, ev21⟩ : ∃ z : Int32, z = x2 + k1 := ⟨_, rfl⟩
                have hv21 : v21.toInt = x2.toInt + k1.toInt := n_add ev21 (by omega) (by omega)
                refine r_iadd C v21 dX4_advanceMade_51 ev21 ?_
                refine r_iload_n C (j := 1) dX4_advanceMade_52 rfl rfl ?_
                refine r_callVi C oCl4 hk0 miX4_fillMade mlX4_56 (ct_X4_fillMade l E (u19) c0 hk0 v21 a1 ) (by decide) rfl rfl rfl (Nat.le_of_ble_eq_true rfl) dX4_advanceMade_53 (fun r23 u22 pu22 fu22 => ?_)
                try dsimp only at pu22
                have rr23 := n_rng r23
                exact r_zret C (n_bool (by omega)) dX4_advanceMade_56 ⟨_, rfl, by omega⟩
            · skip
              obtain ⟨v24, ev24⟩ : ∃ z : Int32, v4 + Int32.ofInt 1 = z := ⟨_, rfl⟩
              refine r_iinc C (j := 3) (lv' := [(0, .ref (oad E c0)), (1, .int a1), (2, .int x2), (3, .int v24)]) v24 [1, 2, 3, 0] dX4_advanceMade_34 rfl ev24 (by decide) rfl ?_
              refine r_iload_n C (j := 3) dX4_advanceMade_37 rfl rfl ?_
              refine r_iload_n C (j := 1) dX4_advanceMade_38 rfl rfl ?_
              refine r_icmp_gt C 57 dX4_advanceMade_39 (by decide) (fun c25 => ?_) (fun c25 => ?_)
              · skip
                obtain ⟨v26, ev26⟩ : ∃ z : Int32, x2 + Int32.ofInt (-1) = z := ⟨_, rfl⟩
                have hv26 : v26.toInt = x2.toInt + (-1) := n_inc ev26 (by decide) (by omega) (by omega)
                refine r_iinc C (j := 2) (lv' := [(0, .ref (oad E c0)), (1, .int a1), (2, .int v26), (3, .int v24)]) v26 [1, 2, 0, 3] dX4_advanceMade_57 rfl ev26 (by decide) rfl ?_
                refine r_goto C (tgt := 7) dX4_advanceMade_60 (by decide) ?_
                refine r_pick C [0, 1, 2] rfl ?_
                exact (ih (n - 1) (by omega)) (u14) v26  (by omega) (by omega)
              · skip
                refine r_aload_n C (j := 0) dX4_advanceMade_42 rfl rfl ?_
                refine r_iload_n C (j := 2) dX4_advanceMade_43 rfl rfl ?_
                refine r_iload_n C (j := 3) dX4_advanceMade_44 rfl rfl ?_
                refine r_callVv C oCl4 hk0 miX4_setStep mlX4_59 (ct_X4_setStep l E (u14) c0 hk0 x2 v24 ) (by decide) rfl rfl rfl (Nat.le_of_ble_eq_true rfl) dX4_advanceMade_45 (fun u27 pu27 fu27 => ?_)
                try dsimp only at pu27
                refine r_aload_n C (j := 0) dX4_advanceMade_48 rfl rfl ?_
                refine r_iload_n C (j := 2) dX4_advanceMade_49 rfl rfl ?_
                refine r_iconst C dX4_advanceMade_50 (v := k1) (by rw [qk1]; rfl) ?_
                obtain ⟨v29, ev29⟩ : ∃ z : Int32, z = x2 + k1 := ⟨_, rfl⟩
                have hv29 : v29.toInt = x2.toInt + k1.toInt := n_add ev29 (by omega) (by omega)
                refine r_iadd C v29 dX4_advanceMade_51 ev29 ?_
                refine r_iload_n C (j := 1) dX4_advanceMade_52 rfl rfl ?_
                refine r_callVi C oCl4 hk0 miX4_fillMade mlX4_56 (ct_X4_fillMade l E (u27) c0 hk0 v29 a1 ) (by decide) rfl rfl rfl (Nat.le_of_ble_eq_true rfl) dX4_advanceMade_53 (fun r31 u30 pu30 fu30 => ?_)
                try dsimp only at pu30
                have rr31 := n_rng r31
                exact r_zret C (n_bool (by omega)) dX4_advanceMade_56 ⟨_, rfl, by omega⟩
  refine r_aload_n C (j := 0) dX4_advanceMade_0 rfl rfl ?_
  obtain ⟨v32, ev32⟩ : ∃ z : Int32, (s).1 c0 4 = z := ⟨_, rfl⟩
  have gv32 : (s.1 c0 4).toInt = v32.toInt := congrArg Int32.toInt (ev32)
  refine r_geti (k := 4) (lo := 0) (hi := 24) C v32 oCl4 hk0 (by decide) flX4_28 rfl rfl (ev32) rfl rfl dX4_advanceMade_1 (fun b33 b33h => ?_)
  refine r_iconst C dX4_advanceMade_4 (v := k1) (by rw [qk1]; rfl) ?_
  obtain ⟨v34, ev34⟩ : ∃ z : Int32, z = v32 - k1 := ⟨_, rfl⟩
  have hv34 : v34.toInt = v32.toInt - k1.toInt := n_sub ev34 (by omega) (by omega)
  refine r_isub C v34 dX4_advanceMade_5 ev34 ?_
  refine r_istore_n C (lv' := [(0, .ref (oad E c0)), (1, .int a1), (2, .int v34)]) [1, 2, 0] dX4_advanceMade_6 rfl (by decide) rfl ?_
  exact (key (v34.toInt + 2).toNat) (s) v34  (by omega) (by omega)
