set_option maxHeartbeats 4000000 in
set_option maxRecDepth 100000 in
theorem ct_X12_canBe (l : Launch) (E : oE) (s : oS) (a1 : Int32) (hp0 : 0 ≤ a1.toInt ∧ a1.toInt ≤ 4499) : oMet l 2 yX12_canBe cX12_canBe 3 (some .boolean) [] E s [.ref (oad E 71), .int a1] (oPi (fun r u => (0 ≤ r.toInt ∧ r.toInt ≤ 1))) := by
  refine oMet.of (lv := [(0, .ref (oad E 71)), (1, .int a1)]) (by decide +kernel) (Nat.le_of_ble_eq_true rfl) rfl (fun J C hT => ?_)
  have C : oC l 2 cX12_canBe RX12 3 (some .boolean) [] E s (oPi (fun r u => (0 ≤ r.toInt ∧ r.toInt ≤ 1))) J := C
  obtain ⟨k0, qk0⟩ : ∃ z : Int32, z = 0 := ⟨_, rfl⟩
  have ek0 : k0.toInt = 0 := by rw [qk0]; rfl
  obtain ⟨k1, qk1⟩ : ∃ z : Int32, z = 1 := ⟨_, rfl⟩
  have ek1 : k1.toInt = 1 := by rw [qk1]; rfl
  obtain ⟨k2, qk2⟩ : ∃ z : Int32, z = 2 := ⟨_, rfl⟩
  have ek2 : k2.toInt = 2 := by rw [qk2]; rfl
  have rg1 := n_rng a1
  have key : ∀ n : Nat, (∀ (t : oS) (x2 : Int32), (0 ≤ x2.toInt ∧ x2.toInt ≤ 24) → 25 - x2.toInt ≤ (n : Int) → J t 12 [(0, .ref (oad E 71)), (2, .int x2)] []) := by
    intro n
    induction n using Nat.strongRecOn with
    | _ n ih =>
      skip
      · intro t x2  iv0 hmu
        have rx2 := n_rng x2
        refine r_iload_n C (j := 1) (oDec_at oX12_canBe 8 rfl) rfl rfl ?_
        refine r_aload_n C (j := 0) (oDec_at oX12_canBe 9 rfl) rfl rfl ?_
        obtain ⟨v1, ev1⟩ : ∃ z : Int32, (t).1 71 38 = z := ⟨_, rfl⟩
        have gv1 : (t.1 71 38).toInt = v1.toInt := congrArg Int32.toInt (ev1)
        refine r_geti (k := 38) (lo := 0) (hi := 24) C v1 oCl12 rfl (by decide) flX12_261 rfl rfl (ev1) rfl rfl (oDec_at oX12_canBe 10 rfl) (fun b2 b2h => ?_)
        refine r_icmp_ge C 40 (oDec_at oX12_canBe 11 rfl) (by decide) (fun cd3 => ?_) (fun cd3 => ?_)
        · skip
          refine r_iconst C (oDec_at oX12_canBe 24 rfl) (v := k1) (by rw [qk1]; rfl) ?_
          exact r_zret C (n_bool (by omega)) (oDec_at oX12_canBe 25 rfl) ⟨_, rfl, by omega⟩
        · skip
          refine r_aload_n C (j := 0) (oDec_at oX12_canBe 12 rfl) rfl rfl ?_
          refine r_getF (k := 40) (b := 100) C oCl12 rfl (by decide) flX12_99 rfl rfl rfl (oDec_at oX12_canBe 13 rfl) ?_
          refine r_iload_n C (j := 1) (oDec_at oX12_canBe 14 rfl) rfl rfl ?_
          obtain ⟨v5, ev5⟩ : ∃ z : Int32, (t).1 100 x2.toNatClampNeg = z := ⟨_, rfl⟩
          have gv5 : (t.1 100 x2.toNatClampNeg).toInt = v5.toInt := congrArg Int32.toInt (ev5)
          refine r_iald (n := 48) (lo := 0) (hi := 9999) C v5 rfl (by decide) rfl rfl ⟨by omega, by omega⟩ (by decide) ev5 rfl rfl (oDec_at oX12_canBe 15 rfl) (fun b4 b4h => ?_)
          refine r_iconst C (oDec_at oX12_canBe 16 rfl) (v := k2) (by rw [qk2]; rfl) ?_
          obtain ⟨v6, ev6⟩ : ∃ z : Int32, z = v5 - v5 / k2 * k2 := ⟨_, rfl⟩
          have hv6 := n_rem (k := 2) ev6 ek2 (by decide)
          have rv6 := n_rng v6
          refine r_irem C v6 (oDec_at oX12_canBe 17 rfl) (n_ne0 (by omega)) ev6 ?_
          refine r_pc C 28 rfl ?_
          refine r_iconst C (oDec_at oX12_canBe 18 rfl) (v := k1) (by rw [qk1]; rfl) ?_
          refine r_icmp_ne C 34 (oDec_at oX12_canBe 19 rfl) (by decide) (fun cd7 => ?_) (fun cd7 => ?_)
          · skip
            obtain ⟨v8, ev8⟩ : ∃ z : Int32, x2 + Int32.ofInt 1 = z := ⟨_, rfl⟩
            have hv8 : v8.toInt = x2.toInt + 1 := n_inc ev8 (by decide) (by omega) (by omega)
            refine r_iinc C (j := 1) (lv' := [(0, .ref (oad E 71)), (2, .int v8)]) v8 [1, 0] (oDec_at oX12_canBe 22 rfl) rfl ev8 (by decide) rfl ?_
            refine r_goto C (tgt := 12) (oDec_at oX12_canBe 23 rfl) (by decide) ?_
            exact (ih (n - 1) (by omega)) (t) v8  (by omega) (by omega)
          · skip
            refine r_iconst C (oDec_at oX12_canBe 20 rfl) (v := k0) (by rw [qk0]; rfl) ?_
            exact r_zret C (n_bool (by omega)) (oDec_at oX12_canBe 21 rfl) ⟨_, rfl, by omega⟩
  refine r_iload_n C (j := 1) (oDec_at oX12_canBe 0 rfl) rfl rfl ?_
  refine r_callSi C miX12_paceOf mlX12_385 (ct_X12_paceOf l E (s) a1 (by omega)) (by decide) rfl rfl rfl (Nat.le_of_ble_eq_true rfl) (oDec_at oX12_canBe 1 rfl) (fun r10 u9 pu9 fu9 => ?_)
  try dsimp only at pu9
  have hxu9 := oFr_nil fu9; subst hxu9
  have rr10 := n_rng r10
  refine r_iconst C (oDec_at oX12_canBe 2 rfl) (v := k2) (by rw [qk2]; rfl) ?_
  refine r_icmp_eq C 10 (oDec_at oX12_canBe 3 rfl) (by decide) (fun cd11 => ?_) (fun cd11 => ?_)
  · skip
    refine r_iconst C (oDec_at oX12_canBe 6 rfl) (v := k0) (by rw [qk0]; rfl) ?_
    refine r_istore_n C (lv' := [(0, .ref (oad E 71)), (1, .int a1), (2, .int k0)]) [1, 2, 0] (oDec_at oX12_canBe 7 rfl) rfl (by decide) rfl ?_
    refine r_pick C [0, 2] rfl ?_
    exact (key (25 - k0.toInt).toNat) (s) k0  (by omega) (by omega)
  · skip
    refine r_iconst C (oDec_at oX12_canBe 4 rfl) (v := k1) (by rw [qk1]; rfl) ?_
    exact r_zret C (n_bool (by omega)) (oDec_at oX12_canBe 5 rfl) ⟨_, rfl, by omega⟩
set_option maxHeartbeats 4000000 in
set_option maxRecDepth 100000 in
theorem ct_X12_overAt (l : Launch) (E : oE) (s : oS) (a1 : Int32) (hp0 : 0 ≤ a1.toInt ∧ a1.toInt ≤ 4499) : oMet l 2 yX12_overAt cX12_overAt 3 (some .int) [] E s [.ref (oad E 71), .int a1] (oPi (fun r u => (0 ≤ r.toInt ∧ r.toInt ≤ 216) ∧ (r.toInt = oOv (s.1 71 42).toInt a1.toInt) ∧ ((a1.toInt % 3 = 1 → r.toInt = a1.toInt / 180 + 2 * (s.1 71 42).toInt) ∧ (a1.toInt % 3 = 2 → r.toInt = a1.toInt / 180 + ((s.1 71 42).toInt + 1) / 2) ∧ (a1.toInt % 3 = 0 → r.toInt = a1.toInt / 180 + (s.1 71 42).toInt)))) := by
  refine oMet.of (lv := [(0, .ref (oad E 71)), (1, .int a1)]) (by decide +kernel) (Nat.le_of_ble_eq_true rfl) rfl (fun J C hT => ?_)
  have C : oC l 2 cX12_overAt RX12 3 (some .int) [] E s (oPi (fun r u => (0 ≤ r.toInt ∧ r.toInt ≤ 216) ∧ (r.toInt = oOv (s.1 71 42).toInt a1.toInt) ∧ ((a1.toInt % 3 = 1 → r.toInt = a1.toInt / 180 + 2 * (s.1 71 42).toInt) ∧ (a1.toInt % 3 = 2 → r.toInt = a1.toInt / 180 + ((s.1 71 42).toInt + 1) / 2) ∧ (a1.toInt % 3 = 0 → r.toInt = a1.toInt / 180 + (s.1 71 42).toInt)))) J := C
  obtain ⟨k1, qk1⟩ : ∃ z : Int32, z = 1 := ⟨_, rfl⟩
  have ek1 : k1.toInt = 1 := by rw [qk1]; rfl
  obtain ⟨k2, qk2⟩ : ∃ z : Int32, z = 2 := ⟨_, rfl⟩
  have ek2 : k2.toInt = 2 := by rw [qk2]; rfl
  have rg1 := n_rng a1
  have htl : (0 : Int) ≤ (s.1 71 42).toInt ∧ (s.1 71 42).toInt ≤ 96 := hT.1 71 42
  refine r_aload_n C (j := 0) (oDec_at oX12_overAt 0 rfl) rfl rfl ?_
  obtain ⟨v1, ev1⟩ : ∃ z : Int32, (s).1 71 42 = z := ⟨_, rfl⟩
  have gv1 : (s.1 71 42).toInt = v1.toInt := congrArg Int32.toInt (ev1)
  refine r_geti (k := 42) (lo := 0) (hi := 96) C v1 oCl12 rfl (by decide) flX12_267 rfl rfl (ev1) rfl rfl (oDec_at oX12_overAt 1 rfl) (fun b2 b2h => ?_)
  refine r_istore_n C (lv' := [(0, .ref (oad E 71)), (1, .int a1), (2, .int v1)]) [1, 2, 0] (oDec_at oX12_overAt 2 rfl) rfl (by decide) rfl ?_
  refine r_iload_n C (j := 1) (oDec_at oX12_overAt 3 rfl) rfl rfl ?_
  refine r_callSi C miX12_paceOf mlX12_385 (ct_X12_paceOf l E (s) a1 (by omega)) (by decide) rfl rfl rfl (Nat.le_of_ble_eq_true rfl) (oDec_at oX12_overAt 4 rfl) (fun r4 u3 pu3 fu3 => ?_)
  try dsimp only at pu3
  have hxu3 := oFr_nil fu3; subst hxu3
  have rr4 := n_rng r4
  refine r_iconst C (oDec_at oX12_overAt 5 rfl) (v := k1) (by rw [qk1]; rfl) ?_
  refine r_pc C 10 rfl ?_
  refine r_icmp_ne C 20 (oDec_at oX12_overAt 6 rfl) (by decide) (fun cd5 => ?_) (fun cd5 => ?_)
  · skip
    refine r_iload_n C (j := 1) (oDec_at oX12_overAt 12 rfl) rfl rfl ?_
    refine r_callSi C miX12_paceOf mlX12_385 (ct_X12_paceOf l E (s) a1 (by omega)) (by decide) rfl rfl rfl (Nat.le_of_ble_eq_true rfl) (oDec_at oX12_overAt 13 rfl) (fun r7 u6 pu6 fu6 => ?_)
    try dsimp only at pu6
    have hxu6 := oFr_nil fu6; subst hxu6
    have rr7 := n_rng r7
    refine r_iconst C (oDec_at oX12_overAt 14 rfl) (v := k2) (by rw [qk2]; rfl) ?_
    refine r_icmp_ne C 37 (oDec_at oX12_overAt 15 rfl) (by decide) (fun cd8 => ?_) (fun cd8 => ?_)
    · skip
      refine r_iload_n C (j := 1) (oDec_at oX12_overAt 23 rfl) rfl rfl ?_
      refine r_callSi C miX12_delayOf mlX12_389 (ct_X12_delayOf l E (s) a1 (by omega)) (by decide) rfl rfl rfl (Nat.le_of_ble_eq_true rfl) (oDec_at oX12_overAt 24 rfl) (fun r10 u9 pu9 fu9 => ?_)
      try dsimp only at pu9
      have hxu9 := oFr_nil fu9; subst hxu9
      have rr10 := n_rng r10
      refine r_iload_n C (j := 2) (oDec_at oX12_overAt 25 rfl) rfl rfl ?_
      obtain ⟨v11, ev11⟩ : ∃ z : Int32, z = r10 + v1 := ⟨_, rfl⟩
      have hv11 : v11.toInt = r10.toInt + v1.toInt := n_add ev11 (by omega) (by omega)
      refine r_iadd C v11 (oDec_at oX12_overAt 26 rfl) ev11 ?_
      exact r_iret C (oDec_at oX12_overAt 27 rfl) ⟨_, rfl, ⟨by omega, by unfold oOv; (repeat' split) <;> omega, by omega⟩⟩
    · skip
      refine r_aload_n C (j := 0) (oDec_at oX12_overAt 16 rfl) rfl rfl ?_
      refine r_geti (k := 42) (lo := 0) (hi := 96) C v1 oCl12 rfl (by decide) flX12_267 rfl rfl (ev1) rfl rfl (oDec_at oX12_overAt 17 rfl) (fun _ _ => ?_)
      refine r_iconst C (oDec_at oX12_overAt 18 rfl) (v := k1) (by rw [qk1]; rfl) ?_
      obtain ⟨v12, ev12⟩ : ∃ z : Int32, z = v1 + k1 := ⟨_, rfl⟩
      have hv12 : v12.toInt = v1.toInt + k1.toInt := n_add ev12 (by omega) (by omega)
      refine r_iadd C v12 (oDec_at oX12_overAt 19 rfl) ev12 ?_
      refine r_iconst C (oDec_at oX12_overAt 20 rfl) (v := k2) (by rw [qk2]; rfl) ?_
      obtain ⟨v13, ev13⟩ : ∃ z : Int32, z = v12 / k2 := ⟨_, rfl⟩
      have hv13 := n_divP (k := 2) ev13 ek2 (by decide)
      have rv13 := n_rng v13
      refine r_idiv C v13 (oDec_at oX12_overAt 21 rfl) (n_ne0 (by omega)) ev13 ?_
      refine r_pc C 36 rfl ?_
      refine r_istore_n C (lv' := [(0, .ref (oad E 71)), (1, .int a1), (2, .int v13)]) [1, 2, 0] (oDec_at oX12_overAt 22 rfl) rfl (by decide) rfl ?_
      refine r_iload_n C (j := 1) (oDec_at oX12_overAt 23 rfl) rfl rfl ?_
      refine r_callSi C miX12_delayOf mlX12_389 (ct_X12_delayOf l E (s) a1 (by omega)) (by decide) rfl rfl rfl (Nat.le_of_ble_eq_true rfl) (oDec_at oX12_overAt 24 rfl) (fun r15 u14 pu14 fu14 => ?_)
      try dsimp only at pu14
      have hxu14 := oFr_nil fu14; subst hxu14
      have rr15 := n_rng r15
      refine r_iload_n C (j := 2) (oDec_at oX12_overAt 25 rfl) rfl rfl ?_
      obtain ⟨v16, ev16⟩ : ∃ z : Int32, z = r15 + v13 := ⟨_, rfl⟩
      have hv16 : v16.toInt = r15.toInt + v13.toInt := n_add ev16 (by omega) (by omega)
      refine r_iadd C v16 (oDec_at oX12_overAt 26 rfl) ev16 ?_
      exact r_iret C (oDec_at oX12_overAt 27 rfl) ⟨_, rfl, ⟨by omega, by unfold oOv; (repeat' split) <;> omega, by omega⟩⟩
  · skip
    refine r_iconst C (oDec_at oX12_overAt 7 rfl) (v := k2) (by rw [qk2]; rfl) ?_
    refine r_aload_n C (j := 0) (oDec_at oX12_overAt 8 rfl) rfl rfl ?_
    refine r_geti (k := 42) (lo := 0) (hi := 96) C v1 oCl12 rfl (by decide) flX12_267 rfl rfl (ev1) rfl rfl (oDec_at oX12_overAt 9 rfl) (fun _ _ => ?_)
    obtain ⟨v17, ev17⟩ : ∃ z : Int32, z = k2 * v1 := ⟨_, rfl⟩
    have hv17 : v17.toInt = 2 * v1.toInt := n_mulK' 2 ev17 ek2 (by omega) (by omega)
    refine r_imul C v17 (oDec_at oX12_overAt 10 rfl) ev17 ?_
    refine r_istore_n C (lv' := [(0, .ref (oad E 71)), (1, .int a1), (2, .int v17)]) [1, 2, 0] (oDec_at oX12_overAt 11 rfl) rfl (by decide) rfl ?_
    refine r_iload_n C (j := 1) (oDec_at oX12_overAt 12 rfl) rfl rfl ?_
    refine r_pc C 21 rfl ?_
    refine r_callSi C miX12_paceOf mlX12_385 (ct_X12_paceOf l E (s) a1 (by omega)) (by decide) rfl rfl rfl (Nat.le_of_ble_eq_true rfl) (oDec_at oX12_overAt 13 rfl) (fun r19 u18 pu18 fu18 => ?_)
    try dsimp only at pu18
    have hxu18 := oFr_nil fu18; subst hxu18
    have rr19 := n_rng r19
    refine r_iconst C (oDec_at oX12_overAt 14 rfl) (v := k2) (by rw [qk2]; rfl) ?_
    refine r_icmp_ne C 37 (oDec_at oX12_overAt 15 rfl) (by decide) (fun cd20 => ?_) (fun cd20 => ?_)
    · skip
      refine r_iload_n C (j := 1) (oDec_at oX12_overAt 23 rfl) rfl rfl ?_
      refine r_callSi C miX12_delayOf mlX12_389 (ct_X12_delayOf l E (s) a1 (by omega)) (by decide) rfl rfl rfl (Nat.le_of_ble_eq_true rfl) (oDec_at oX12_overAt 24 rfl) (fun r22 u21 pu21 fu21 => ?_)
      try dsimp only at pu21
      have hxu21 := oFr_nil fu21; subst hxu21
      have rr22 := n_rng r22
      refine r_iload_n C (j := 2) (oDec_at oX12_overAt 25 rfl) rfl rfl ?_
      obtain ⟨v23, ev23⟩ : ∃ z : Int32, z = r22 + v17 := ⟨_, rfl⟩
      have hv23 : v23.toInt = r22.toInt + v17.toInt := n_add ev23 (by omega) (by omega)
      refine r_iadd C v23 (oDec_at oX12_overAt 26 rfl) ev23 ?_
      exact r_iret C (oDec_at oX12_overAt 27 rfl) ⟨_, rfl, ⟨by omega, by unfold oOv; (repeat' split) <;> omega, by omega⟩⟩
    · skip
      refine r_aload_n C (j := 0) (oDec_at oX12_overAt 16 rfl) rfl rfl ?_
      refine r_geti (k := 42) (lo := 0) (hi := 96) C v1 oCl12 rfl (by decide) flX12_267 rfl rfl (ev1) rfl rfl (oDec_at oX12_overAt 17 rfl) (fun _ _ => ?_)
      refine r_iconst C (oDec_at oX12_overAt 18 rfl) (v := k1) (by rw [qk1]; rfl) ?_
      obtain ⟨v24, ev24⟩ : ∃ z : Int32, z = v1 + k1 := ⟨_, rfl⟩
      have hv24 : v24.toInt = v1.toInt + k1.toInt := n_add ev24 (by omega) (by omega)
      refine r_iadd C v24 (oDec_at oX12_overAt 19 rfl) ev24 ?_
      refine r_iconst C (oDec_at oX12_overAt 20 rfl) (v := k2) (by rw [qk2]; rfl) ?_
      obtain ⟨v25, ev25⟩ : ∃ z : Int32, z = v24 / k2 := ⟨_, rfl⟩
      have hv25 := n_divP (k := 2) ev25 ek2 (by decide)
      have rv25 := n_rng v25
      refine r_idiv C v25 (oDec_at oX12_overAt 21 rfl) (n_ne0 (by omega)) ev25 ?_
      refine r_pc C 36 rfl ?_
      refine r_istore_n C (lv' := [(0, .ref (oad E 71)), (1, .int a1), (2, .int v25)]) [1, 2, 0] (oDec_at oX12_overAt 22 rfl) rfl (by decide) rfl ?_
      refine r_iload_n C (j := 1) (oDec_at oX12_overAt 23 rfl) rfl rfl ?_
      refine r_callSi C miX12_delayOf mlX12_389 (ct_X12_delayOf l E (s) a1 (by omega)) (by decide) rfl rfl rfl (Nat.le_of_ble_eq_true rfl) (oDec_at oX12_overAt 24 rfl) (fun r27 u26 pu26 fu26 => ?_)
      try dsimp only at pu26
      have hxu26 := oFr_nil fu26; subst hxu26
      have rr27 := n_rng r27
      refine r_iload_n C (j := 2) (oDec_at oX12_overAt 25 rfl) rfl rfl ?_
      obtain ⟨v28, ev28⟩ : ∃ z : Int32, z = r27 + v25 := ⟨_, rfl⟩
      have hv28 : v28.toInt = r27.toInt + v25.toInt := n_add ev28 (by omega) (by omega)
      refine r_iadd C v28 (oDec_at oX12_overAt 26 rfl) ev28 ?_
      exact r_iret C (oDec_at oX12_overAt 27 rfl) ⟨_, rfl, ⟨by omega, by unfold oOv; (repeat' split) <;> omega, by omega⟩⟩
set_option maxHeartbeats 4000000 in
set_option maxRecDepth 100000 in
theorem ct_X12_noteAt (l : Launch) (E : oE) (s : oS) (a1 : Int32) (a2 : Int32) (hp0 : 0 ≤ a1.toInt ∧ a1.toInt ≤ 4499) (hp1 : -1 ≤ a2.toInt ∧ a2.toInt ≤ 5000) : oMet l 3 yX12_noteAt cX12_noteAt 5 (some .int) [] E s [.ref (oad E 71), .int a1, .int a2] (oPi (fun r u => (-1 ≤ r.toInt ∧ r.toInt ≤ 23) ∧ (r.toInt = oNA s a1.toInt a2.toInt))) := by
  refine oMet.of (lv := [(0, .ref (oad E 71)), (1, .int a1), (2, .int a2)]) (by decide +kernel) (Nat.le_of_ble_eq_true rfl) rfl (fun J C hT => ?_)
  have C : oC l 3 cX12_noteAt RX12 5 (some .int) [] E s (oPi (fun r u => (-1 ≤ r.toInt ∧ r.toInt ≤ 23) ∧ (r.toInt = oNA s a1.toInt a2.toInt))) J := C
  obtain ⟨km1, qkm1⟩ : ∃ z : Int32, z = (-1) := ⟨_, rfl⟩
  have ekm1 : km1.toInt = (-1) := by rw [qkm1]; rfl
  obtain ⟨k1, qk1⟩ : ∃ z : Int32, z = 1 := ⟨_, rfl⟩
  have ek1 : k1.toInt = 1 := by rw [qk1]; rfl
  obtain ⟨k2, qk2⟩ : ∃ z : Int32, z = 2 := ⟨_, rfl⟩
  have ek2 : k2.toInt = 2 := by rw [qk2]; rfl
  have rg1 := n_rng a1
  have rg2 := n_rng a2
  have htl : (0 : Int) ≤ (s.1 71 42).toInt ∧ (s.1 71 42).toInt ≤ 96 := hT.1 71 42
  refine r_iload_n C (j := 2) (oDec_at oX12_noteAt 0 rfl) rfl rfl ?_
  refine r_iload_n C (j := 1) (oDec_at oX12_noteAt 1 rfl) rfl rfl ?_
  refine r_callSi C miX12_delayOf mlX12_389 (ct_X12_delayOf l E (s) a1 (by omega)) (by decide) rfl rfl rfl (Nat.le_of_ble_eq_true rfl) (oDec_at oX12_noteAt 2 rfl) (fun r2 u1 pu1 fu1 => ?_)
  try dsimp only at pu1
  have hxu1 := oFr_nil fu1; subst hxu1
  have rr2 := n_rng r2
  obtain ⟨v3, ev3⟩ : ∃ z : Int32, z = a2 - r2 := ⟨_, rfl⟩
  have hv3 : v3.toInt = a2.toInt - r2.toInt := n_sub ev3 (by omega) (by omega)
  refine r_isub C v3 (oDec_at oX12_noteAt 3 rfl) ev3 ?_
  refine r_istore_n C (lv' := [(0, .ref (oad E 71)), (1, .int a1), (2, .int a2), (3, .int v3)]) [1, 2, 3, 0] (oDec_at oX12_noteAt 4 rfl) rfl (by decide) rfl ?_
  refine r_iload_n C (j := 3) (oDec_at oX12_noteAt 5 rfl) rfl rfl ?_
  refine r_pc C 8 rfl ?_
  refine r_if_lt C 20 (oDec_at oX12_noteAt 6 rfl) (by decide) (fun cd4 => ?_) (fun cd4 => ?_)
  · skip
    refine r_iconst C (oDec_at oX12_noteAt 12 rfl) (v := km1) (by rw [qkm1]; rfl) ?_
    exact r_iret C (oDec_at oX12_noteAt 13 rfl) ⟨_, rfl, ⟨by omega, by unfold oNA; rw [if_pos (by first | (left; omega) | (right; omega))]; omega⟩⟩
  · skip
    refine r_iload_n C (j := 2) (oDec_at oX12_noteAt 7 rfl) rfl rfl ?_
    refine r_aload_n C (j := 0) (oDec_at oX12_noteAt 8 rfl) rfl rfl ?_
    refine r_iload_n C (j := 1) (oDec_at oX12_noteAt 9 rfl) rfl rfl ?_
    refine r_callVi C oCl12 rfl miX12_overAt mlX12_392 (ct_X12_overAt l E (s) a1 (by omega)) (by decide) rfl rfl rfl (Nat.le_of_ble_eq_true rfl) (oDec_at oX12_noteAt 10 rfl) (fun r6 u5 pu5 fu5 => ?_)
    try dsimp only at pu5
    obtain ⟨pu5_0, pu5_1, pu5_2⟩ := pu5
    have hxu5 := oFr_nil fu5; subst hxu5
    have rr6 := n_rng r6
    refine r_icmp_lt C 22 (oDec_at oX12_noteAt 11 rfl) (by decide) (fun cd7 => ?_) (fun cd7 => ?_)
    · skip
      refine r_iload_n C (j := 3) (oDec_at oX12_noteAt 14 rfl) rfl rfl ?_
      refine r_istore C (lv' := [(0, .ref (oad E 71)), (1, .int a1), (2, .int a2), (3, .int v3), (4, .int v3)]) [1, 2, 3, 4, 0] (oDec_at oX12_noteAt 15 rfl) (by decide) rfl ?_
      refine r_iload_n C (j := 1) (oDec_at oX12_noteAt 16 rfl) rfl rfl ?_
      refine r_callSi C miX12_paceOf mlX12_385 (ct_X12_paceOf l E (s) a1 (by omega)) (by decide) rfl rfl rfl (Nat.le_of_ble_eq_true rfl) (oDec_at oX12_noteAt 17 rfl) (fun r9 u8 pu8 fu8 => ?_)
      try dsimp only at pu8
      have hxu8 := oFr_nil fu8; subst hxu8
      have rr9 := n_rng r9
      refine r_iconst C (oDec_at oX12_noteAt 18 rfl) (v := k1) (by rw [qk1]; rfl) ?_
      refine r_icmp_ne C 38 (oDec_at oX12_noteAt 19 rfl) (by decide) (fun cd10 => ?_) (fun cd10 => ?_)
      · skip
        refine r_iload_n C (j := 1) (oDec_at oX12_noteAt 24 rfl) rfl rfl ?_
        refine r_callSi C miX12_paceOf mlX12_385 (ct_X12_paceOf l E (s) a1 (by omega)) (by decide) rfl rfl rfl (Nat.le_of_ble_eq_true rfl) (oDec_at oX12_noteAt 25 rfl) (fun r12 u11 pu11 fu11 => ?_)
        try dsimp only at pu11
        have hxu11 := oFr_nil fu11; subst hxu11
        have rr12 := n_rng r12
        refine r_iconst C (oDec_at oX12_noteAt 26 rfl) (v := k2) (by rw [qk2]; rfl) ?_
        refine r_icmp_ne C 51 (oDec_at oX12_noteAt 27 rfl) (by decide) (fun cd13 => ?_) (fun cd13 => ?_)
        · skip
          refine r_aload_n C (j := 0) (oDec_at oX12_noteAt 32 rfl) rfl rfl ?_
          refine r_getF (k := 41) (b := 101) C oCl12 rfl (by decide) flX12_102 rfl rfl rfl (oDec_at oX12_noteAt 33 rfl) ?_
          refine r_iload_n C (j := 1) (oDec_at oX12_noteAt 34 rfl) rfl rfl ?_
          refine r_callSi C miX12_backOf mlX12_395 (ct_X12_backOf l E (s) a1 (by omega)) (by decide) rfl rfl rfl (Nat.le_of_ble_eq_true rfl) (oDec_at oX12_noteAt 35 rfl) (fun r15 u14 pu14 fu14 => ?_)
          try dsimp only at pu14
          have hxu14 := oFr_nil fu14; subst hxu14
          have rr15 := n_rng r15
          refine r_iconst C (oDec_at oX12_noteAt 36 rfl) (v := k1) (by rw [qk1]; rfl) ?_
          refine r_icmp_ne C 75 (oDec_at oX12_noteAt 37 rfl) (by decide) (fun cd16 => ?_) (fun cd16 => ?_)
          · skip
            refine r_iload C (j := 4) (oDec_at oX12_noteAt 45 rfl) rfl ?_
            obtain ⟨v18, ev18⟩ : ∃ z : Int32, (s).1 101 v3.toNatClampNeg = z := ⟨_, rfl⟩
            have gv18 : (s.1 101 v3.toNatClampNeg).toInt = v18.toInt := congrArg Int32.toInt (ev18)
            refine r_iald (n := 96) (lo := 0) (hi := 23) C v18 rfl (by decide) rfl rfl ⟨by omega, by omega⟩ (by decide) ev18 rfl rfl (oDec_at oX12_noteAt 46 rfl) (fun b17 b17h => ?_)
            exact r_iret C (oDec_at oX12_noteAt 47 rfl) ⟨_, rfl, ⟨by omega, by unfold oNA; rw [if_neg (by omega)]; have hi : (oIx (s.1 71 42).toInt a1.toInt a2.toInt).toNat = v3.toNatClampNeg := (by have e : v3.toInt.toNat = v3.toNatClampNeg := rfl; unfold oIx; (repeat' split) <;> omega); rw [hi]; exact gv18.symm⟩⟩
          · skip
            refine r_aload_n C (j := 0) (oDec_at oX12_noteAt 38 rfl) rfl rfl ?_
            obtain ⟨v19, ev19⟩ : ∃ z : Int32, (s).1 71 42 = z := ⟨_, rfl⟩
            have gv19 : (s.1 71 42).toInt = v19.toInt := congrArg Int32.toInt (ev19)
            refine r_geti (k := 42) (lo := 0) (hi := 96) C v19 oCl12 rfl (by decide) flX12_267 rfl rfl (ev19) rfl rfl (oDec_at oX12_noteAt 39 rfl) (fun b20 b20h => ?_)
            refine r_iconst C (oDec_at oX12_noteAt 40 rfl) (v := k1) (by rw [qk1]; rfl) ?_
            obtain ⟨v21, ev21⟩ : ∃ z : Int32, z = v19 - k1 := ⟨_, rfl⟩
            have hv21 : v21.toInt = v19.toInt - k1.toInt := n_sub ev21 (by omega) (by omega)
            refine r_isub C v21 (oDec_at oX12_noteAt 41 rfl) ev21 ?_
            refine r_iload C (j := 4) (oDec_at oX12_noteAt 42 rfl) rfl ?_
            obtain ⟨v22, ev22⟩ : ∃ z : Int32, z = v21 - v3 := ⟨_, rfl⟩
            have hv22 : v22.toInt = v21.toInt - v3.toInt := n_sub ev22 (by omega) (by omega)
            refine r_isub C v22 (oDec_at oX12_noteAt 43 rfl) ev22 ?_
            refine r_pc C 72 rfl ?_
            refine r_goto C (tgt := 77) (oDec_at oX12_noteAt 44 rfl) (by decide) ?_
            obtain ⟨v24, ev24⟩ : ∃ z : Int32, (s).1 101 v22.toNatClampNeg = z := ⟨_, rfl⟩
            have gv24 : (s.1 101 v22.toNatClampNeg).toInt = v24.toInt := congrArg Int32.toInt (ev24)
            refine r_iald (n := 96) (lo := 0) (hi := 23) C v24 rfl (by decide) rfl rfl ⟨by omega, by omega⟩ (by decide) ev24 rfl rfl (oDec_at oX12_noteAt 46 rfl) (fun b23 b23h => ?_)
            exact r_iret C (oDec_at oX12_noteAt 47 rfl) ⟨_, rfl, ⟨by omega, by unfold oNA; rw [if_neg (by omega)]; have hi : (oIx (s.1 71 42).toInt a1.toInt a2.toInt).toNat = v22.toNatClampNeg := (by have e : v22.toInt.toNat = v22.toNatClampNeg := rfl; unfold oIx; (repeat' split) <;> omega); rw [hi]; exact gv24.symm⟩⟩
        · skip
          refine r_iconst C (oDec_at oX12_noteAt 28 rfl) (v := k2) (by rw [qk2]; rfl) ?_
          refine r_iload_n C (j := 3) (oDec_at oX12_noteAt 29 rfl) rfl rfl ?_
          obtain ⟨v25, ev25⟩ : ∃ z : Int32, z = k2 * v3 := ⟨_, rfl⟩
          have hv25 : v25.toInt = 2 * v3.toInt := n_mulK' 2 ev25 ek2 (by omega) (by omega)
          refine r_imul C v25 (oDec_at oX12_noteAt 30 rfl) ev25 ?_
          refine r_istore C (lv' := [(0, .ref (oad E 71)), (1, .int a1), (2, .int a2), (3, .int v3), (4, .int v25)]) [1, 2, 3, 4, 0] (oDec_at oX12_noteAt 31 rfl) (by decide) rfl ?_
          refine r_aload_n C (j := 0) (oDec_at oX12_noteAt 32 rfl) rfl rfl ?_
          refine r_getF (k := 41) (b := 101) C oCl12 rfl (by decide) flX12_102 rfl rfl rfl (oDec_at oX12_noteAt 33 rfl) ?_
          refine r_pc C 55 rfl ?_
          refine r_iload_n C (j := 1) (oDec_at oX12_noteAt 34 rfl) rfl rfl ?_
          refine r_callSi C miX12_backOf mlX12_395 (ct_X12_backOf l E (s) a1 (by omega)) (by decide) rfl rfl rfl (Nat.le_of_ble_eq_true rfl) (oDec_at oX12_noteAt 35 rfl) (fun r27 u26 pu26 fu26 => ?_)
          try dsimp only at pu26
          have hxu26 := oFr_nil fu26; subst hxu26
          have rr27 := n_rng r27
          refine r_iconst C (oDec_at oX12_noteAt 36 rfl) (v := k1) (by rw [qk1]; rfl) ?_
          refine r_icmp_ne C 75 (oDec_at oX12_noteAt 37 rfl) (by decide) (fun cd28 => ?_) (fun cd28 => ?_)
          · skip
            refine r_iload C (j := 4) (oDec_at oX12_noteAt 45 rfl) rfl ?_
            obtain ⟨v30, ev30⟩ : ∃ z : Int32, (s).1 101 v25.toNatClampNeg = z := ⟨_, rfl⟩
            have gv30 : (s.1 101 v25.toNatClampNeg).toInt = v30.toInt := congrArg Int32.toInt (ev30)
            refine r_iald (n := 96) (lo := 0) (hi := 23) C v30 rfl (by decide) rfl rfl ⟨by omega, by omega⟩ (by decide) ev30 rfl rfl (oDec_at oX12_noteAt 46 rfl) (fun b29 b29h => ?_)
            exact r_iret C (oDec_at oX12_noteAt 47 rfl) ⟨_, rfl, ⟨by omega, by unfold oNA; rw [if_neg (by omega)]; have hi : (oIx (s.1 71 42).toInt a1.toInt a2.toInt).toNat = v25.toNatClampNeg := (by have e : v25.toInt.toNat = v25.toNatClampNeg := rfl; unfold oIx; (repeat' split) <;> omega); rw [hi]; exact gv30.symm⟩⟩
          · skip
            refine r_aload_n C (j := 0) (oDec_at oX12_noteAt 38 rfl) rfl rfl ?_
            obtain ⟨v31, ev31⟩ : ∃ z : Int32, (s).1 71 42 = z := ⟨_, rfl⟩
            have gv31 : (s.1 71 42).toInt = v31.toInt := congrArg Int32.toInt (ev31)
            refine r_geti (k := 42) (lo := 0) (hi := 96) C v31 oCl12 rfl (by decide) flX12_267 rfl rfl (ev31) rfl rfl (oDec_at oX12_noteAt 39 rfl) (fun b32 b32h => ?_)
            refine r_iconst C (oDec_at oX12_noteAt 40 rfl) (v := k1) (by rw [qk1]; rfl) ?_
            obtain ⟨v33, ev33⟩ : ∃ z : Int32, z = v31 - k1 := ⟨_, rfl⟩
            have hv33 : v33.toInt = v31.toInt - k1.toInt := n_sub ev33 (by omega) (by omega)
            refine r_isub C v33 (oDec_at oX12_noteAt 41 rfl) ev33 ?_
            refine r_iload C (j := 4) (oDec_at oX12_noteAt 42 rfl) rfl ?_
            obtain ⟨v34, ev34⟩ : ∃ z : Int32, z = v33 - v25 := ⟨_, rfl⟩
            have hv34 : v34.toInt = v33.toInt - v25.toInt := n_sub ev34 (by omega) (by omega)
            refine r_isub C v34 (oDec_at oX12_noteAt 43 rfl) ev34 ?_
            refine r_pc C 72 rfl ?_
            refine r_goto C (tgt := 77) (oDec_at oX12_noteAt 44 rfl) (by decide) ?_
            obtain ⟨v36, ev36⟩ : ∃ z : Int32, (s).1 101 v34.toNatClampNeg = z := ⟨_, rfl⟩
            have gv36 : (s.1 101 v34.toNatClampNeg).toInt = v36.toInt := congrArg Int32.toInt (ev36)
            refine r_iald (n := 96) (lo := 0) (hi := 23) C v36 rfl (by decide) rfl rfl ⟨by omega, by omega⟩ (by decide) ev36 rfl rfl (oDec_at oX12_noteAt 46 rfl) (fun b35 b35h => ?_)
            exact r_iret C (oDec_at oX12_noteAt 47 rfl) ⟨_, rfl, ⟨by omega, by unfold oNA; rw [if_neg (by omega)]; have hi : (oIx (s.1 71 42).toInt a1.toInt a2.toInt).toNat = v34.toNatClampNeg := (by have e : v34.toInt.toNat = v34.toNatClampNeg := rfl; unfold oIx; (repeat' split) <;> omega); rw [hi]; exact gv36.symm⟩⟩
      · skip
        refine r_iload_n C (j := 3) (oDec_at oX12_noteAt 20 rfl) rfl rfl ?_
        refine r_iconst C (oDec_at oX12_noteAt 21 rfl) (v := k2) (by rw [qk2]; rfl) ?_
        obtain ⟨v37, ev37⟩ : ∃ z : Int32, z = v3 / k2 := ⟨_, rfl⟩
        have hv37 := n_divP (k := 2) ev37 ek2 (by decide)
        have rv37 := n_rng v37
        refine r_idiv C v37 (oDec_at oX12_noteAt 22 rfl) (n_ne0 (by omega)) ev37 ?_
        refine r_istore C (lv' := [(0, .ref (oad E 71)), (1, .int a1), (2, .int a2), (3, .int v3), (4, .int v37)]) [1, 2, 3, 4, 0] (oDec_at oX12_noteAt 23 rfl) (by decide) rfl ?_
        refine r_iload_n C (j := 1) (oDec_at oX12_noteAt 24 rfl) rfl rfl ?_
        refine r_callSi C miX12_paceOf mlX12_385 (ct_X12_paceOf l E (s) a1 (by omega)) (by decide) rfl rfl rfl (Nat.le_of_ble_eq_true rfl) (oDec_at oX12_noteAt 25 rfl) (fun r39 u38 pu38 fu38 => ?_)
        try dsimp only at pu38
        have hxu38 := oFr_nil fu38; subst hxu38
        have rr39 := n_rng r39
        refine r_pc C 42 rfl ?_
        refine r_iconst C (oDec_at oX12_noteAt 26 rfl) (v := k2) (by rw [qk2]; rfl) ?_
        refine r_icmp_ne C 51 (oDec_at oX12_noteAt 27 rfl) (by decide) (fun cd40 => ?_) (fun cd40 => ?_)
        · skip
          refine r_aload_n C (j := 0) (oDec_at oX12_noteAt 32 rfl) rfl rfl ?_
          refine r_getF (k := 41) (b := 101) C oCl12 rfl (by decide) flX12_102 rfl rfl rfl (oDec_at oX12_noteAt 33 rfl) ?_
          refine r_iload_n C (j := 1) (oDec_at oX12_noteAt 34 rfl) rfl rfl ?_
          refine r_callSi C miX12_backOf mlX12_395 (ct_X12_backOf l E (s) a1 (by omega)) (by decide) rfl rfl rfl (Nat.le_of_ble_eq_true rfl) (oDec_at oX12_noteAt 35 rfl) (fun r42 u41 pu41 fu41 => ?_)
          try dsimp only at pu41
          have hxu41 := oFr_nil fu41; subst hxu41
          have rr42 := n_rng r42
          refine r_iconst C (oDec_at oX12_noteAt 36 rfl) (v := k1) (by rw [qk1]; rfl) ?_
          refine r_icmp_ne C 75 (oDec_at oX12_noteAt 37 rfl) (by decide) (fun cd43 => ?_) (fun cd43 => ?_)
          · skip
            refine r_iload C (j := 4) (oDec_at oX12_noteAt 45 rfl) rfl ?_
            obtain ⟨v45, ev45⟩ : ∃ z : Int32, (s).1 101 v37.toNatClampNeg = z := ⟨_, rfl⟩
            have gv45 : (s.1 101 v37.toNatClampNeg).toInt = v45.toInt := congrArg Int32.toInt (ev45)
            refine r_iald (n := 96) (lo := 0) (hi := 23) C v45 rfl (by decide) rfl rfl ⟨by omega, by omega⟩ (by decide) ev45 rfl rfl (oDec_at oX12_noteAt 46 rfl) (fun b44 b44h => ?_)
            exact r_iret C (oDec_at oX12_noteAt 47 rfl) ⟨_, rfl, ⟨by omega, by unfold oNA; rw [if_neg (by omega)]; have hi : (oIx (s.1 71 42).toInt a1.toInt a2.toInt).toNat = v37.toNatClampNeg := (by have e : v37.toInt.toNat = v37.toNatClampNeg := rfl; unfold oIx; (repeat' split) <;> omega); rw [hi]; exact gv45.symm⟩⟩
          · skip
            refine r_aload_n C (j := 0) (oDec_at oX12_noteAt 38 rfl) rfl rfl ?_
            obtain ⟨v46, ev46⟩ : ∃ z : Int32, (s).1 71 42 = z := ⟨_, rfl⟩
            have gv46 : (s.1 71 42).toInt = v46.toInt := congrArg Int32.toInt (ev46)
            refine r_geti (k := 42) (lo := 0) (hi := 96) C v46 oCl12 rfl (by decide) flX12_267 rfl rfl (ev46) rfl rfl (oDec_at oX12_noteAt 39 rfl) (fun b47 b47h => ?_)
            refine r_iconst C (oDec_at oX12_noteAt 40 rfl) (v := k1) (by rw [qk1]; rfl) ?_
            obtain ⟨v48, ev48⟩ : ∃ z : Int32, z = v46 - k1 := ⟨_, rfl⟩
            have hv48 : v48.toInt = v46.toInt - k1.toInt := n_sub ev48 (by omega) (by omega)
            refine r_isub C v48 (oDec_at oX12_noteAt 41 rfl) ev48 ?_
            refine r_iload C (j := 4) (oDec_at oX12_noteAt 42 rfl) rfl ?_
            obtain ⟨v49, ev49⟩ : ∃ z : Int32, z = v48 - v37 := ⟨_, rfl⟩
            have hv49 : v49.toInt = v48.toInt - v37.toInt := n_sub ev49 (by omega) (by omega)
            refine r_isub C v49 (oDec_at oX12_noteAt 43 rfl) ev49 ?_
            refine r_pc C 72 rfl ?_
            refine r_goto C (tgt := 77) (oDec_at oX12_noteAt 44 rfl) (by decide) ?_
            obtain ⟨v51, ev51⟩ : ∃ z : Int32, (s).1 101 v49.toNatClampNeg = z := ⟨_, rfl⟩
            have gv51 : (s.1 101 v49.toNatClampNeg).toInt = v51.toInt := congrArg Int32.toInt (ev51)
            refine r_iald (n := 96) (lo := 0) (hi := 23) C v51 rfl (by decide) rfl rfl ⟨by omega, by omega⟩ (by decide) ev51 rfl rfl (oDec_at oX12_noteAt 46 rfl) (fun b50 b50h => ?_)
            exact r_iret C (oDec_at oX12_noteAt 47 rfl) ⟨_, rfl, ⟨by omega, by unfold oNA; rw [if_neg (by omega)]; have hi : (oIx (s.1 71 42).toInt a1.toInt a2.toInt).toNat = v49.toNatClampNeg := (by have e : v49.toInt.toNat = v49.toNatClampNeg := rfl; unfold oIx; (repeat' split) <;> omega); rw [hi]; exact gv51.symm⟩⟩
        · skip
          refine r_iconst C (oDec_at oX12_noteAt 28 rfl) (v := k2) (by rw [qk2]; rfl) ?_
          refine r_iload_n C (j := 3) (oDec_at oX12_noteAt 29 rfl) rfl rfl ?_
          obtain ⟨v52, ev52⟩ : ∃ z : Int32, z = k2 * v3 := ⟨_, rfl⟩
          have hv52 : v52.toInt = 2 * v3.toInt := n_mulK' 2 ev52 ek2 (by omega) (by omega)
          refine r_imul C v52 (oDec_at oX12_noteAt 30 rfl) ev52 ?_
          refine r_istore C (lv' := [(0, .ref (oad E 71)), (1, .int a1), (2, .int a2), (3, .int v3), (4, .int v52)]) [1, 2, 3, 4, 0] (oDec_at oX12_noteAt 31 rfl) (by decide) rfl ?_
          refine r_aload_n C (j := 0) (oDec_at oX12_noteAt 32 rfl) rfl rfl ?_
          refine r_getF (k := 41) (b := 101) C oCl12 rfl (by decide) flX12_102 rfl rfl rfl (oDec_at oX12_noteAt 33 rfl) ?_
          refine r_pc C 55 rfl ?_
          refine r_iload_n C (j := 1) (oDec_at oX12_noteAt 34 rfl) rfl rfl ?_
          refine r_callSi C miX12_backOf mlX12_395 (ct_X12_backOf l E (s) a1 (by omega)) (by decide) rfl rfl rfl (Nat.le_of_ble_eq_true rfl) (oDec_at oX12_noteAt 35 rfl) (fun r54 u53 pu53 fu53 => ?_)
          try dsimp only at pu53
          have hxu53 := oFr_nil fu53; subst hxu53
          have rr54 := n_rng r54
          refine r_iconst C (oDec_at oX12_noteAt 36 rfl) (v := k1) (by rw [qk1]; rfl) ?_
          refine r_icmp_ne C 75 (oDec_at oX12_noteAt 37 rfl) (by decide) (fun cd55 => ?_) (fun cd55 => ?_)
          · skip
            refine r_iload C (j := 4) (oDec_at oX12_noteAt 45 rfl) rfl ?_
            obtain ⟨v57, ev57⟩ : ∃ z : Int32, (s).1 101 v52.toNatClampNeg = z := ⟨_, rfl⟩
            have gv57 : (s.1 101 v52.toNatClampNeg).toInt = v57.toInt := congrArg Int32.toInt (ev57)
            refine r_iald (n := 96) (lo := 0) (hi := 23) C v57 rfl (by decide) rfl rfl ⟨by omega, by omega⟩ (by decide) ev57 rfl rfl (oDec_at oX12_noteAt 46 rfl) (fun b56 b56h => ?_)
            exact r_iret C (oDec_at oX12_noteAt 47 rfl) ⟨_, rfl, ⟨by omega, by unfold oNA; rw [if_neg (by omega)]; have hi : (oIx (s.1 71 42).toInt a1.toInt a2.toInt).toNat = v52.toNatClampNeg := (by have e : v52.toInt.toNat = v52.toNatClampNeg := rfl; unfold oIx; (repeat' split) <;> omega); rw [hi]; exact gv57.symm⟩⟩
          · skip
            refine r_aload_n C (j := 0) (oDec_at oX12_noteAt 38 rfl) rfl rfl ?_
            obtain ⟨v58, ev58⟩ : ∃ z : Int32, (s).1 71 42 = z := ⟨_, rfl⟩
            have gv58 : (s.1 71 42).toInt = v58.toInt := congrArg Int32.toInt (ev58)
            refine r_geti (k := 42) (lo := 0) (hi := 96) C v58 oCl12 rfl (by decide) flX12_267 rfl rfl (ev58) rfl rfl (oDec_at oX12_noteAt 39 rfl) (fun b59 b59h => ?_)
            refine r_iconst C (oDec_at oX12_noteAt 40 rfl) (v := k1) (by rw [qk1]; rfl) ?_
            obtain ⟨v60, ev60⟩ : ∃ z : Int32, z = v58 - k1 := ⟨_, rfl⟩
            have hv60 : v60.toInt = v58.toInt - k1.toInt := n_sub ev60 (by omega) (by omega)
            refine r_isub C v60 (oDec_at oX12_noteAt 41 rfl) ev60 ?_
            refine r_iload C (j := 4) (oDec_at oX12_noteAt 42 rfl) rfl ?_
            obtain ⟨v61, ev61⟩ : ∃ z : Int32, z = v60 - v52 := ⟨_, rfl⟩
            have hv61 : v61.toInt = v60.toInt - v52.toInt := n_sub ev61 (by omega) (by omega)
            refine r_isub C v61 (oDec_at oX12_noteAt 43 rfl) ev61 ?_
            refine r_pc C 72 rfl ?_
            refine r_goto C (tgt := 77) (oDec_at oX12_noteAt 44 rfl) (by decide) ?_
            obtain ⟨v63, ev63⟩ : ∃ z : Int32, (s).1 101 v61.toNatClampNeg = z := ⟨_, rfl⟩
            have gv63 : (s.1 101 v61.toNatClampNeg).toInt = v63.toInt := congrArg Int32.toInt (ev63)
            refine r_iald (n := 96) (lo := 0) (hi := 23) C v63 rfl (by decide) rfl rfl ⟨by omega, by omega⟩ (by decide) ev63 rfl rfl (oDec_at oX12_noteAt 46 rfl) (fun b62 b62h => ?_)
            exact r_iret C (oDec_at oX12_noteAt 47 rfl) ⟨_, rfl, ⟨by omega, by unfold oNA; rw [if_neg (by omega)]; have hi : (oIx (s.1 71 42).toInt a1.toInt a2.toInt).toNat = v61.toNatClampNeg := (by have e : v61.toInt.toNat = v61.toNatClampNeg := rfl; unfold oIx; (repeat' split) <;> omega); rw [hi]; exact gv63.symm⟩⟩
    · skip
      refine r_iconst C (oDec_at oX12_noteAt 12 rfl) (v := km1) (by rw [qkm1]; rfl) ?_
      exact r_iret C (oDec_at oX12_noteAt 13 rfl) ⟨_, rfl, ⟨by omega, by unfold oNA; rw [if_pos (by first | (left; omega) | (right; omega))]; omega⟩⟩
set_option maxHeartbeats 4000000 in
set_option maxRecDepth 100000 in
theorem ct_X12_stepBy (l : Launch) (E : oE) (s : oS) (a1 : Int32) (a2 : Int32) (hp0 : 0 ≤ a1.toInt ∧ a1.toInt ≤ 4499) (hp1 : -1 ≤ a2.toInt ∧ a2.toInt ≤ 23) : oMet l 2 yX12_stepBy cX12_stepBy 4 (some .int) [] E s [.ref (oad E 71), .int a1, .int a2] (oPi (fun r u => (r = oSB s a1.toInt a2.toInt))) := by
  refine oMet.of (lv := [(0, .ref (oad E 71)), (1, .int a1), (2, .int a2)]) (by decide +kernel) (Nat.le_of_ble_eq_true rfl) rfl (fun J C hT => ?_)
  have C : oC l 2 cX12_stepBy RX12 4 (some .int) [] E s (oPi (fun r u => (r = oSB s a1.toInt a2.toInt))) J := C
  obtain ⟨km1000000000, qkm1000000000⟩ : ∃ z : Int32, z = (-1000000000) := ⟨_, rfl⟩
  have ekm1000000000 : km1000000000.toInt = (-1000000000) := by rw [qkm1000000000]; rfl
  obtain ⟨km1, qkm1⟩ : ∃ z : Int32, z = (-1) := ⟨_, rfl⟩
  have ekm1 : km1.toInt = (-1) := by rw [qkm1]; rfl
  obtain ⟨k1, qk1⟩ : ∃ z : Int32, z = 1 := ⟨_, rfl⟩
  have ek1 : k1.toInt = 1 := by rw [qk1]; rfl
  obtain ⟨k2, qk2⟩ : ∃ z : Int32, z = 2 := ⟨_, rfl⟩
  have ek2 : k2.toInt = 2 := by rw [qk2]; rfl
  have rg1 := n_rng a1
  have rg2 := n_rng a2
  refine r_iload_n C (j := 2) (oDec_at oX12_stepBy 0 rfl) rfl rfl ?_
  refine r_iconst C (oDec_at oX12_stepBy 1 rfl) (v := km1) (by rw [qkm1]; rfl) ?_
  refine r_icmp_eq C 15 (oDec_at oX12_stepBy 2 rfl) (by decide) (fun cd1 => ?_) (fun cd1 => ?_)
  · skip
    refine r_ldcw C (v := km1000000000) (by rw [qkm1000000000]; exact kcX12_398) (oDec_at oX12_stepBy 9 rfl) ?_
    exact r_iret C (oDec_at oX12_stepBy 10 rfl) ⟨_, rfl, by unfold oSB; rw [show a2.toInt.toNat = a2.toNatClampNeg from rfl]; first | (rw [if_pos (by omega)]; exact qkm1000000000) | (rw [if_neg (by omega), if_pos (n_eq (by show (s.1 99 a2.toNatClampNeg).toInt = -1; omega))]; exact qkm1000000000)⟩
  · skip
    refine r_aload_n C (j := 0) (oDec_at oX12_stepBy 3 rfl) rfl rfl ?_
    refine r_getF (k := 39) (b := 99) C oCl12 rfl (by decide) flX12_96 rfl rfl rfl (oDec_at oX12_stepBy 4 rfl) ?_
    refine r_iload_n C (j := 2) (oDec_at oX12_stepBy 5 rfl) rfl rfl ?_
    obtain ⟨v3, ev3⟩ : ∃ z : Int32, (s).1 99 a2.toNatClampNeg = z := ⟨_, rfl⟩
    have gv3 : (s.1 99 a2.toNatClampNeg).toInt = v3.toInt := congrArg Int32.toInt (ev3)
    have rv3 := n_rng v3
    refine r_iald (n := 48) (lo := (-2147483648)) (hi := 2147483647) C v3 rfl (by decide) rfl rfl ⟨by omega, by omega⟩ (by decide) ev3 rfl rfl (oDec_at oX12_stepBy 6 rfl) (fun _ _ => ?_)
    refine r_iconst C (oDec_at oX12_stepBy 7 rfl) (v := km1) (by rw [qkm1]; rfl) ?_
    refine r_icmp_ne C 19 (oDec_at oX12_stepBy 8 rfl) (by decide) (fun cd4 => ?_) (fun cd4 => ?_)
    · skip
      refine r_iload_n C (j := 1) (oDec_at oX12_stepBy 11 rfl) rfl rfl ?_
      refine r_callSi C miX12_mirrorOf mlX12_399 (ct_X12_mirrorOf l E (s) a1 (by omega)) (by decide) rfl rfl rfl (Nat.le_of_ble_eq_true rfl) (oDec_at oX12_stepBy 12 rfl) (fun r6 u5 pu5 fu5 => ?_)
      try dsimp only at pu5
      have hxu5 := oFr_nil fu5; subst hxu5
      have rr6 := n_rng r6
      refine r_iconst C (oDec_at oX12_stepBy 13 rfl) (v := k1) (by rw [qk1]; rfl) ?_
      refine r_icmp_ne C 43 (oDec_at oX12_stepBy 14 rfl) (by decide) (fun cd7 => ?_) (fun cd7 => ?_)
      · skip
        refine r_aload_n C (j := 0) (oDec_at oX12_stepBy 25 rfl) rfl rfl ?_
        refine r_getF (k := 39) (b := 99) C oCl12 rfl (by decide) flX12_96 rfl rfl rfl (oDec_at oX12_stepBy 26 rfl) ?_
        refine r_iload_n C (j := 2) (oDec_at oX12_stepBy 27 rfl) rfl rfl ?_
        refine r_iald (n := 48) (lo := (-2147483648)) (hi := 2147483647) C v3 rfl (by decide) rfl rfl ⟨by omega, by omega⟩ (by decide) (ev3) rfl rfl (oDec_at oX12_stepBy 28 rfl) (fun _ _ => ?_)
        refine r_istore_n C (lv' := [(0, .ref (oad E 71)), (1, .int a1), (2, .int a2), (3, .int v3)]) [1, 2, 3, 0] (oDec_at oX12_stepBy 29 rfl) rfl (by decide) rfl ?_
        refine r_iload_n C (j := 3) (oDec_at oX12_stepBy 30 rfl) rfl rfl ?_
        refine r_pc C 51 rfl ?_
        refine r_iload_n C (j := 1) (oDec_at oX12_stepBy 31 rfl) rfl rfl ?_
        refine r_callSi C miX12_highOf mlX12_402 (ct_X12_highOf l E (s) a1 (by omega)) (by decide) rfl rfl rfl (Nat.le_of_ble_eq_true rfl) (oDec_at oX12_stepBy 32 rfl) (fun r10 u9 pu9 fu9 => ?_)
        try dsimp only at pu9
        obtain ⟨pu9_0, pu9_1⟩ := pu9
        have hxu9 := oFr_nil fu9; subst hxu9
        have rr10 := n_rng r10
        obtain ⟨v11, ev11⟩ : ∃ z : Int32, z = v3 + r10 := ⟨_, rfl⟩
        have rv11 := n_rng v11
        refine r_iadd C v11 (oDec_at oX12_stepBy 33 rfl) ev11 ?_
        exact r_iret C (oDec_at oX12_stepBy 34 rfl) ⟨_, rfl, by unfold oSB; rw [show a2.toInt.toNat = a2.toNatClampNeg from rfl]; rw [if_neg (by omega), if_neg (fun h => by have h1 := congrArg Int32.toInt h; have h2 : (-1 : Int32).toInt = -1 := rfl; omega)]; first | (rw [if_pos (by omega)]; subst_vars; rfl) | (rw [if_neg (by omega)]; subst_vars; rfl)⟩
      · skip
        refine r_iconst C (oDec_at oX12_stepBy 15 rfl) (v := k2) (by rw [qk2]; rfl) ?_
        refine r_aload_n C (j := 0) (oDec_at oX12_stepBy 16 rfl) rfl rfl ?_
        obtain ⟨v12, ev12⟩ : ∃ z : Int32, (s).1 71 43 = z := ⟨_, rfl⟩
        have gv12 : (s.1 71 43).toInt = v12.toInt := congrArg Int32.toInt (ev12)
        have rv12 := n_rng v12
        refine r_geti (k := 43) (lo := (-2147483648)) (hi := 2147483647) C v12 oCl12 rfl (by decide) flX12_105 rfl rfl (ev12) rfl rfl (oDec_at oX12_stepBy 17 rfl) (fun _ _ => ?_)
        obtain ⟨v13, ev13⟩ : ∃ z : Int32, z = k2 * v12 := ⟨_, rfl⟩
        have rv13 := n_rng v13
        refine r_imul C v13 (oDec_at oX12_stepBy 18 rfl) ev13 ?_
        refine r_aload_n C (j := 0) (oDec_at oX12_stepBy 19 rfl) rfl rfl ?_
        refine r_getF (k := 39) (b := 99) C oCl12 rfl (by decide) flX12_96 rfl rfl rfl (oDec_at oX12_stepBy 20 rfl) ?_
        refine r_pc C 37 rfl ?_
        refine r_iload_n C (j := 2) (oDec_at oX12_stepBy 21 rfl) rfl rfl ?_
        refine r_iald (n := 48) (lo := (-2147483648)) (hi := 2147483647) C v3 rfl (by decide) rfl rfl ⟨by omega, by omega⟩ (by decide) (ev3) rfl rfl (oDec_at oX12_stepBy 22 rfl) (fun _ _ => ?_)
        obtain ⟨v15, ev15⟩ : ∃ z : Int32, z = v13 - v3 := ⟨_, rfl⟩
        have rv15 := n_rng v15
        refine r_isub C v15 (oDec_at oX12_stepBy 23 rfl) ev15 ?_
        refine r_goto C (tgt := 49) (oDec_at oX12_stepBy 24 rfl) (by decide) ?_
        refine r_istore_n C (lv' := [(0, .ref (oad E 71)), (1, .int a1), (2, .int a2), (3, .int v15)]) [1, 2, 3, 0] (oDec_at oX12_stepBy 29 rfl) rfl (by decide) rfl ?_
        refine r_iload_n C (j := 3) (oDec_at oX12_stepBy 30 rfl) rfl rfl ?_
        refine r_iload_n C (j := 1) (oDec_at oX12_stepBy 31 rfl) rfl rfl ?_
        refine r_pc C 52 rfl ?_
        refine r_callSi C miX12_highOf mlX12_402 (ct_X12_highOf l E (s) a1 (by omega)) (by decide) rfl rfl rfl (Nat.le_of_ble_eq_true rfl) (oDec_at oX12_stepBy 32 rfl) (fun r17 u16 pu16 fu16 => ?_)
        try dsimp only at pu16
        obtain ⟨pu16_0, pu16_1⟩ := pu16
        have hxu16 := oFr_nil fu16; subst hxu16
        have rr17 := n_rng r17
        obtain ⟨v18, ev18⟩ : ∃ z : Int32, z = v15 + r17 := ⟨_, rfl⟩
        have rv18 := n_rng v18
        refine r_iadd C v18 (oDec_at oX12_stepBy 33 rfl) ev18 ?_
        exact r_iret C (oDec_at oX12_stepBy 34 rfl) ⟨_, rfl, by unfold oSB; rw [show a2.toInt.toNat = a2.toNatClampNeg from rfl]; rw [if_neg (by omega), if_neg (fun h => by have h1 := congrArg Int32.toInt h; have h2 : (-1 : Int32).toInt = -1 := rfl; omega)]; first | (rw [if_pos (by omega)]; subst_vars; rfl) | (rw [if_neg (by omega)]; subst_vars; rfl)⟩
    · skip
      refine r_ldcw C (v := km1000000000) (by rw [qkm1000000000]; exact kcX12_398) (oDec_at oX12_stepBy 9 rfl) ?_
      exact r_iret C (oDec_at oX12_stepBy 10 rfl) ⟨_, rfl, by unfold oSB; rw [show a2.toInt.toNat = a2.toNatClampNeg from rfl]; first | (rw [if_pos (by omega)]; exact qkm1000000000) | (rw [if_neg (by omega), if_pos (n_eq (by show (s.1 99 a2.toNatClampNeg).toInt = -1; omega))]; exact qkm1000000000)⟩
set_option maxHeartbeats 4000000 in
set_option maxRecDepth 100000 in
theorem ct_X12_singsIn (l : Launch) (E : oE) (s : oS) (a1 : Int32) (a2 : Int32) (hp0 : 0 ≤ a1.toInt ∧ a1.toInt ≤ 4499) (hp1 : -1 ≤ a2.toInt ∧ a2.toInt ≤ 5000) : oMet l 4 yX12_singsIn cX12_singsIn 3 (some .int) [] E s [.ref (oad E 71), .int a1, .int a2] (oPi (fun r u => (r = oSB s a1.toInt (oNA s a1.toInt a2.toInt)))) := by
  refine oMet.of (lv := [(0, .ref (oad E 71)), (1, .int a1), (2, .int a2)]) (by decide +kernel) (Nat.le_of_ble_eq_true rfl) rfl (fun J C hT => ?_)
  have C : oC l 4 cX12_singsIn RX12 3 (some .int) [] E s (oPi (fun r u => (r = oSB s a1.toInt (oNA s a1.toInt a2.toInt)))) J := C
  have rg1 := n_rng a1
  have rg2 := n_rng a2
  refine r_aload_n C (j := 0) (oDec_at oX12_singsIn 0 rfl) rfl rfl ?_
  refine r_iload_n C (j := 1) (oDec_at oX12_singsIn 1 rfl) rfl rfl ?_
  refine r_aload_n C (j := 0) (oDec_at oX12_singsIn 2 rfl) rfl rfl ?_
  refine r_iload_n C (j := 1) (oDec_at oX12_singsIn 3 rfl) rfl rfl ?_
  refine r_iload_n C (j := 2) (oDec_at oX12_singsIn 4 rfl) rfl rfl ?_
  refine r_callVi C oCl12 rfl miX12_noteAt mlX12_405 (ct_X12_noteAt l E (s) a1 a2 (by omega) (by omega)) (by decide) rfl rfl rfl (Nat.le_of_ble_eq_true rfl) (oDec_at oX12_singsIn 5 rfl) (fun r2 u1 pu1 fu1 => ?_)
  try dsimp only at pu1
  obtain ⟨pu1_0, pu1_1⟩ := pu1
  have hxu1 := oFr_nil fu1; subst hxu1
  have rr2 := n_rng r2
  refine r_pc C 8 rfl ?_
  refine r_callVi C oCl12 rfl miX12_stepBy mlX12_408 (ct_X12_stepBy l E (s) a1 r2 (by omega) (by omega)) (by decide) rfl rfl rfl (Nat.le_of_ble_eq_true rfl) (oDec_at oX12_singsIn 6 rfl) (fun r4 u3 pu3 fu3 => ?_)
  try dsimp only at pu3
  have hxu3 := oFr_nil fu3; subst hxu3
  have rr4 := n_rng r4
  exact r_iret C (oDec_at oX12_singsIn 7 rfl) ⟨_, rfl, by simp_all⟩
