set_option maxHeartbeats 4000000 in
set_option maxRecDepth 100000 in
theorem ct_X12_isMeant (l : Launch) (E : oE) (s : oS) (a1 : Int32) (a2 : Int32)  (hp0 : oBI s) (hp1 : 0 ≤ a1.toInt) (hp2 : a1.toInt < (s.1 104 1).toInt) (hp3 : 0 ≤ a2.toInt ∧ a2.toInt ≤ 4499) : oMet l 4 yX12_isMeant cX12_isMeant 3 (some .boolean) [(12, 58), (84, 9999), (85, 9999)] E s [.ref (oad E 71), .int a1, .int a2] (oPi (fun r u => (0 ≤ r.toInt ∧ r.toInt ≤ 1))) := by
  refine oMet.of (lv := [(0, .ref (oad E 71)), (1, .int a1), (2, .int a2)]) (by decide +kernel) (Nat.le_of_ble_eq_true rfl) rfl (fun J C hT => ?_)
  have C : oC l 4 cX12_isMeant RX12 3 (some .boolean) [(12, 58), (84, 9999), (85, 9999)] E s (oPi (fun r u => (0 ≤ r.toInt ∧ r.toInt ≤ 1))) J := C
  obtain ⟨k0, qk0⟩ : ∃ z : Int32, z = 0 := ⟨_, rfl⟩
  have ek0 : k0.toInt = 0 := by rw [qk0]; rfl
  obtain ⟨k1, qk1⟩ : ∃ z : Int32, z = 1 := ⟨_, rfl⟩
  have ek1 : k1.toInt = 1 := by rw [qk1]; rfl
  obtain ⟨k2, qk2⟩ : ∃ z : Int32, z = 2 := ⟨_, rfl⟩
  have ek2 : k2.toInt = 2 := by rw [qk2]; rfl
  obtain ⟨k3, qk3⟩ : ∃ z : Int32, z = 3 := ⟨_, rfl⟩
  have ek3 : k3.toInt = 3 := by rw [qk3]; rfl
  obtain ⟨k4, qk4⟩ : ∃ z : Int32, z = 4 := ⟨_, rfl⟩
  have ek4 : k4.toInt = 4 := by rw [qk4]; rfl
  have rg1 := n_rng a1
  have rg2 := n_rng a2
  refine r_aload_n C (j := 0) (oDec_at oX12_isMeant 0 rfl) rfl rfl ?_
  refine r_getF (k := 59) (b := 109) C oCl12 rfl (by decide) flX12_133 rfl rfl rfl (oDec_at oX12_isMeant 1 rfl) ?_
  refine r_iconst C (oDec_at oX12_isMeant 2 rfl) (v := k0) (by rw [qk0]; rfl) ?_
  refine r_iload_n C (j := 2) (oDec_at oX12_isMeant 3 rfl) rfl rfl ?_
  refine r_callSi C miX12_delayOf mlX12_389 (ct_X12_delayOf l E (s) a2 (by omega)) (by decide) rfl rfl rfl (Nat.le_of_ble_eq_true rfl) (oDec_at oX12_isMeant 4 rfl) (fun r2 u1 pu1 fu1 => ?_)
  try dsimp only at pu1
  have hxu1 := oFr_nil fu1; subst hxu1
  have rr2 := n_rng r2
  refine r_iast (n := 8) (lo := (-2147483648)) (hi := 2147483647) C rfl (by decide) rfl rfl ⟨by omega, by omega⟩ (by decide) rfl rfl rfl rfl (n_rng _) (oDec_at oX12_isMeant 5 rfl) ?_
  refine r_pc C 10 rfl ?_
  refine r_aload_n C (j := 0) (oDec_at oX12_isMeant 6 rfl) rfl rfl ?_
  refine r_getF (k := 59) (b := 109) C oCl12 rfl (by decide) flX12_133 rfl rfl rfl (oDec_at oX12_isMeant 7 rfl) ?_
  refine r_iconst C (oDec_at oX12_isMeant 8 rfl) (v := k1) (by rw [qk1]; rfl) ?_
  refine r_iload_n C (j := 2) (oDec_at oX12_isMeant 9 rfl) rfl rfl ?_
  refine r_callSi C miX12_highOf mlX12_402 (ct_X12_highOf l E ((pI s 109 k0.toNatClampNeg r2)) a2 (by omega)) (by decide) rfl rfl rfl (Nat.le_of_ble_eq_true rfl) (oDec_at oX12_isMeant 10 rfl) (fun r4 u3 pu3 fu3 => ?_)
  try dsimp only at pu3
  obtain ⟨pu3_0, pu3_1⟩ := pu3
  have hxu3 := oFr_nil fu3; subst hxu3
  have rr4 := n_rng r4
  refine r_iast (n := 8) (lo := (-2147483648)) (hi := 2147483647) C rfl (by decide) rfl rfl ⟨by omega, by omega⟩ (by decide) rfl rfl rfl rfl (n_rng _) (oDec_at oX12_isMeant 11 rfl) ?_
  refine r_pc C 20 rfl ?_
  refine r_aload_n C (j := 0) (oDec_at oX12_isMeant 12 rfl) rfl rfl ?_
  refine r_getF (k := 59) (b := 109) C oCl12 rfl (by decide) flX12_133 rfl rfl rfl (oDec_at oX12_isMeant 13 rfl) ?_
  refine r_iconst C (oDec_at oX12_isMeant 14 rfl) (v := k2) (by rw [qk2]; rfl) ?_
  refine r_iload_n C (j := 2) (oDec_at oX12_isMeant 15 rfl) rfl rfl ?_
  refine r_callSi C miX12_mirrorOf mlX12_399 (ct_X12_mirrorOf l E ((pI (pI s 109 k0.toNatClampNeg r2) 109 k1.toNatClampNeg r4)) a2 (by omega)) (by decide) rfl rfl rfl (Nat.le_of_ble_eq_true rfl) (oDec_at oX12_isMeant 16 rfl) (fun r6 u5 pu5 fu5 => ?_)
  try dsimp only at pu5
  have hxu5 := oFr_nil fu5; subst hxu5
  have rr6 := n_rng r6
  refine r_iast (n := 8) (lo := (-2147483648)) (hi := 2147483647) C rfl (by decide) rfl rfl ⟨by omega, by omega⟩ (by decide) rfl rfl rfl rfl (n_rng _) (oDec_at oX12_isMeant 17 rfl) ?_
  refine r_pc C 30 rfl ?_
  refine r_aload_n C (j := 0) (oDec_at oX12_isMeant 18 rfl) rfl rfl ?_
  refine r_getF (k := 59) (b := 109) C oCl12 rfl (by decide) flX12_133 rfl rfl rfl (oDec_at oX12_isMeant 19 rfl) ?_
  refine r_iconst C (oDec_at oX12_isMeant 20 rfl) (v := k3) (by rw [qk3]; rfl) ?_
  refine r_iload_n C (j := 2) (oDec_at oX12_isMeant 21 rfl) rfl rfl ?_
  refine r_callSi C miX12_backOf mlX12_395 (ct_X12_backOf l E ((pI (pI (pI s 109 k0.toNatClampNeg r2) 109 k1.toNatClampNeg r4) 109 k2.toNatClampNeg r6)) a2 (by omega)) (by decide) rfl rfl rfl (Nat.le_of_ble_eq_true rfl) (oDec_at oX12_isMeant 22 rfl) (fun r8 u7 pu7 fu7 => ?_)
  try dsimp only at pu7
  have hxu7 := oFr_nil fu7; subst hxu7
  have rr8 := n_rng r8
  refine r_iast (n := 8) (lo := (-2147483648)) (hi := 2147483647) C rfl (by decide) rfl rfl ⟨by omega, by omega⟩ (by decide) rfl rfl rfl rfl (n_rng _) (oDec_at oX12_isMeant 23 rfl) ?_
  refine r_pc C 40 rfl ?_
  refine r_aload_n C (j := 0) (oDec_at oX12_isMeant 24 rfl) rfl rfl ?_
  refine r_getF (k := 59) (b := 109) C oCl12 rfl (by decide) flX12_133 rfl rfl rfl (oDec_at oX12_isMeant 25 rfl) ?_
  refine r_iconst C (oDec_at oX12_isMeant 26 rfl) (v := k4) (by rw [qk4]; rfl) ?_
  refine r_iload_n C (j := 2) (oDec_at oX12_isMeant 27 rfl) rfl rfl ?_
  refine r_callSi C miX12_paceOf mlX12_385 (ct_X12_paceOf l E ((pI (pI (pI (pI s 109 k0.toNatClampNeg r2) 109 k1.toNatClampNeg r4) 109 k2.toNatClampNeg r6) 109 k3.toNatClampNeg r8)) a2 (by omega)) (by decide) rfl rfl rfl (Nat.le_of_ble_eq_true rfl) (oDec_at oX12_isMeant 28 rfl) (fun r10 u9 pu9 fu9 => ?_)
  try dsimp only at pu9
  have hxu9 := oFr_nil fu9; subst hxu9
  have rr10 := n_rng r10
  refine r_iast (n := 8) (lo := (-2147483648)) (hi := 2147483647) C rfl (by decide) rfl rfl ⟨by omega, by omega⟩ (by decide) rfl rfl rfl rfl (n_rng _) (oDec_at oX12_isMeant 29 rfl) ?_
  refine r_pc C 50 rfl ?_
  refine r_aload_n C (j := 0) (oDec_at oX12_isMeant 30 rfl) rfl rfl ?_
  refine r_iconst C (oDec_at oX12_isMeant 31 rfl) (v := k1) (by rw [qk1]; rfl) ?_
  refine r_iload_n C (j := 1) (oDec_at oX12_isMeant 32 rfl) rfl rfl ?_
  have lc11 : (((pI (pI (pI (pI (pI s 109 k0.toNatClampNeg r2) 109 k1.toNatClampNeg r4) 109 k2.toNatClampNeg r6) 109 k3.toNatClampNeg r8) 109 k4.toNatClampNeg r10)).1 104 0).toInt = (s.1 104 0).toInt := congrArg Int32.toInt (((pI_ne (a := 104) (b := 0) (c := 109) _ _ (Or.inl (by decide)))).trans (((pI_ne (a := 104) (b := 0) (c := 109) _ _ (Or.inl (by decide)))).trans (((pI_ne (a := 104) (b := 0) (c := 109) _ _ (Or.inl (by decide)))).trans (((pI_ne (a := 104) (b := 0) (c := 109) _ _ (Or.inl (by decide)))).trans ((pI_ne (a := 104) (b := 0) (c := 109) _ _ (Or.inl (by decide))))))))
  have lc12 : (((pI (pI (pI (pI (pI s 109 k0.toNatClampNeg r2) 109 k1.toNatClampNeg r4) 109 k2.toNatClampNeg r6) 109 k3.toNatClampNeg r8) 109 k4.toNatClampNeg r10)).1 104 1).toInt = (s.1 104 1).toInt := congrArg Int32.toInt (((pI_ne (a := 104) (b := 1) (c := 109) _ _ (Or.inl (by decide)))).trans (((pI_ne (a := 104) (b := 1) (c := 109) _ _ (Or.inl (by decide)))).trans (((pI_ne (a := 104) (b := 1) (c := 109) _ _ (Or.inl (by decide)))).trans (((pI_ne (a := 104) (b := 1) (c := 109) _ _ (Or.inl (by decide)))).trans ((pI_ne (a := 104) (b := 1) (c := 109) _ _ (Or.inl (by decide))))))))
  refine r_callVi C oCl12 rfl miX12_holds mlX12_449 (ct_X12_holds l E ((pI (pI (pI (pI (pI s 109 k0.toNatClampNeg r2) 109 k1.toNatClampNeg r4) 109 k2.toNatClampNeg r6) 109 k3.toNatClampNeg r8) 109 k4.toNatClampNeg r10)) k1 a1 (oBI_fr (oFr_oneI (q := 85) (m := 9999) rfl (by rfl)) rfl (oBI_fr (oFr_oneI (q := 85) (m := 9999) rfl (by rfl)) rfl (oBI_fr (oFr_oneI (q := 85) (m := 9999) rfl (by rfl)) rfl (oBI_fr (oFr_oneI (q := 85) (m := 9999) rfl (by rfl)) rfl (oBI_fr (oFr_oneI (q := 85) (m := 9999) rfl (by rfl)) rfl hp0))))) (by omega) (by omega) (by omega) (by omega)) (by decide) rfl rfl rfl (Nat.le_of_ble_eq_true rfl) (oDec_at oX12_isMeant 33 rfl) (fun r14 u13 pu13 fu13 => ?_)
  try dsimp only at pu13
  have rr14 := n_rng r14
  exact r_zret C (n_bool (by omega)) (oDec_at oX12_isMeant 34 rfl) ⟨_, rfl, by omega⟩
set_option maxHeartbeats 4000000 in
set_option maxRecDepth 100000 in
theorem ct2_X12_isOfMottos (l : Launch) (E : oE) (s : oS) (a1 : Int32)   : oMet l 2 yX12_isOfMottos cX12_isOfMottos 2 (some .boolean) [] E s [.ref (oad E 71), .int a1] (oPi (fun r u => (0 ≤ r.toInt ∧ r.toInt ≤ 1) ∧ (r.toInt = 1 → (0 ≤ a1.toInt ∧ a1.toInt < (u.1 104 1).toInt)))) := by
  refine oMet.of (lv := [(0, .ref (oad E 71)), (1, .int a1)]) (by decide +kernel) (Nat.le_of_ble_eq_true rfl) rfl (fun J C hT => ?_)
  have C : oC l 2 cX12_isOfMottos RX12 2 (some .boolean) [] E s (oPi (fun r u => (0 ≤ r.toInt ∧ r.toInt ≤ 1) ∧ (r.toInt = 1 → (0 ≤ a1.toInt ∧ a1.toInt < (u.1 104 1).toInt)))) J := C
  obtain ⟨k1, qk1⟩ : ∃ z : Int32, z = 1 := ⟨_, rfl⟩
  have ek1 : k1.toInt = 1 := by rw [qk1]; rfl
  obtain ⟨j0, qj0⟩ : ∃ z : Int64, z = 0 := ⟨_, rfl⟩
  have ej0 : j0.toInt = 0 := by rw [qj0]; rfl
  have rg1 := n_rng a1
  refine r_iload_n C (j := 1) (oDec_at oX12_isOfMottos 0 rfl) rfl rfl ?_
  obtain ⟨v1, ev1⟩ : ∃ z : Int64, a1.toInt64 = z := ⟨_, rfl⟩
  have hv1 : v1.toInt = a1.toInt := n_i2l ev1
  refine r_i2l C v1 (oDec_at oX12_isOfMottos 1 rfl) ev1 ?_
  refine r_lconst C (oDec_at oX12_isOfMottos 2 rfl) (v := j0) (by rw [qj0]; rfl) ?_
  refine r_aload_n C (j := 0) (oDec_at oX12_isOfMottos 3 rfl) rfl rfl ?_
  refine r_getF (k := 49) (b := 104) C oCl12 rfl (by decide) flX12_114 rfl rfl rfl (oDec_at oX12_isOfMottos 4 rfl) ?_
  refine r_iconst C (oDec_at oX12_isOfMottos 5 rfl) (v := k1) (by rw [qk1]; rfl) ?_
  refine r_pc C 8 rfl ?_
  obtain ⟨v3, ev3⟩ : ∃ z : Int32, (s).1 104 k1.toNatClampNeg = z := ⟨_, rfl⟩
  have gv3 : (s.1 104 k1.toNatClampNeg).toInt = v3.toInt := congrArg Int32.toInt (ev3)
  refine r_iald (n := 4) (lo := 0) (hi := 12) C v3 rfl (by decide) rfl rfl ⟨by omega, by omega⟩ (by decide) ev3 rfl rfl (oDec_at oX12_isOfMottos 6 rfl) (fun b2 b2h => ?_)
  have h1 := oIx1 (i := k1) ev3 ek1
  refine r_iconst C (oDec_at oX12_isOfMottos 7 rfl) (v := k1) (by rw [qk1]; rfl) ?_
  obtain ⟨v4, ev4⟩ : ∃ z : Int32, z = v3 - k1 := ⟨_, rfl⟩
  have hv4 : v4.toInt = v3.toInt - k1.toInt := n_sub ev4 (by omega) (by omega)
  refine r_isub C v4 (oDec_at oX12_isOfMottos 8 rfl) ev4 ?_
  obtain ⟨v5, ev5⟩ : ∃ z : Int64, v4.toInt64 = z := ⟨_, rfl⟩
  have hv5 : v5.toInt = v4.toInt := n_i2l ev5
  refine r_i2l C v5 (oDec_at oX12_isOfMottos 9 rfl) ev5 ?_
  refine r_callSi C miX12_isIn mlX12_216 (ct_X12_isIn l E (s) v1 j0 v5 ) (by decide) rfl rfl rfl (Nat.le_of_ble_eq_true rfl) (oDec_at oX12_isOfMottos 10 rfl) (fun r7 u6 pu6 fu6 => ?_)
  try dsimp only at pu6
  obtain ⟨pu6_0, pu6_1⟩ := pu6
  have hxu6 := oFr_nil fu6; subst hxu6
  have rr7 := n_rng r7
  exact r_zret C (n_bool (by omega)) (oDec_at oX12_isOfMottos 11 rfl) ⟨_, rfl, ⟨by omega, by omega⟩⟩
set_option maxHeartbeats 4000000 in
set_option maxRecDepth 100000 in
theorem ct_X12_means (l : Launch) (E : oE) (s : oS) (a1 : Int32) (a2 : Int32)  (hp0 : oBI s) : oMet l 9 yX12_means cX12_means 5 (some .int) [(12, 58), (12, 60), (12, 61), (12, 62), (12, 63), (12, 65), (12, 69), (12, 71), (84, 9999), (85, 9999), (86, 9999), (87, 9999)] E s [.ref (oad E 71), .int a1, .int a2] (oPi (fun r u => True)) := by
  refine oMet.of (lv := [(0, .ref (oad E 71)), (1, .int a1), (2, .int a2)]) (by decide +kernel) (Nat.le_of_ble_eq_true rfl) rfl (fun J C hT => ?_)
  have C : oC l 9 cX12_means RX12 5 (some .int) [(12, 58), (12, 60), (12, 61), (12, 62), (12, 63), (12, 65), (12, 69), (12, 71), (84, 9999), (85, 9999), (86, 9999), (87, 9999)] E s (oPi (fun r u => True)) J := C
  obtain ⟨km1, qkm1⟩ : ∃ z : Int32, z = (-1) := ⟨_, rfl⟩
  have ekm1 : km1.toInt = (-1) := by rw [qkm1]; rfl
  obtain ⟨k0, qk0⟩ : ∃ z : Int32, z = 0 := ⟨_, rfl⟩
  have ek0 : k0.toInt = 0 := by rw [qk0]; rfl
  have rg1 := n_rng a1
  have rg2 := n_rng a2
  have key : ∀ n : Nat, (∀ (t : oS) (x3 : Int32) (x4 : Int32), (oBI t) → (0 ≤ a1.toInt) → (a1.toInt < (t.1 104 1).toInt) → (0 ≤ x4.toInt ∧ x4.toInt ≤ 4500) → (0 ≤ x3.toInt ∧ x3.toInt ≤ x4.toInt) → 4501 - x4.toInt ≤ (n : Int) → J t 24 [(0, .ref (oad E 71)), (1, .int a1), (2, .int a2), (3, .int x3), (4, .int x4)] []) := by
    intro n
    induction n using Nat.strongRecOn with
    | _ n ih =>
      skip
      · intro t x3 x4  iv0 iv1 iv2 iv3 iv4 hmu
        have rx3 := n_rng x3
        have rx4 := n_rng x4
        refine r_iload C (j := 4) (oDec_at oX12_means 15 rfl) rfl ?_
        refine r_aload_n C (j := 0) (oDec_at oX12_means 16 rfl) rfl rfl ?_
        obtain ⟨v1, ev1⟩ : ∃ z : Int32, (t).1 71 71 = z := ⟨_, rfl⟩
        have gv1 : (t.1 71 71).toInt = v1.toInt := congrArg Int32.toInt (ev1)
        refine r_geti (k := 71) (lo := 0) (hi := 4500) C v1 oCl12 rfl (by decide) flX12_482 rfl rfl (ev1) rfl rfl (oDec_at oX12_means 17 rfl) (fun b2 b2h => ?_)
        refine r_icmp_ge C 68 (oDec_at oX12_means 18 rfl) (by decide) (fun cd3 => ?_) (fun cd3 => ?_)
        · skip
          refine r_iload_n C (j := 2) (oDec_at oX12_means 36 rfl) rfl rfl ?_
          refine r_iconst C (oDec_at oX12_means 37 rfl) (v := km1) (by rw [qkm1]; rfl) ?_
          refine r_icmp_ne C 77 (oDec_at oX12_means 38 rfl) (by decide) (fun cd4 => ?_) (fun cd4 => ?_)
          · skip
            refine r_iconst C (oDec_at oX12_means 41 rfl) (v := km1) (by rw [qkm1]; rfl) ?_
            exact r_iret C (oDec_at oX12_means 42 rfl) ⟨_, rfl, trivial⟩
          · skip
            refine r_iload_n C (j := 3) (oDec_at oX12_means 39 rfl) rfl rfl ?_
            refine r_goto C (tgt := 78) (oDec_at oX12_means 40 rfl) (by decide) ?_
            exact r_iret C (oDec_at oX12_means 42 rfl) ⟨_, rfl, trivial⟩
        · skip
          refine r_aload_n C (j := 0) (oDec_at oX12_means 19 rfl) rfl rfl ?_
          refine r_iload_n C (j := 1) (oDec_at oX12_means 20 rfl) rfl rfl ?_
          refine r_aload_n C (j := 0) (oDec_at oX12_means 21 rfl) rfl rfl ?_
          refine r_getF (k := 70) (b := 110) C oCl12 rfl (by decide) flX12_145 rfl rfl rfl (oDec_at oX12_means 22 rfl) ?_
          refine r_iload C (j := 4) (oDec_at oX12_means 23 rfl) rfl ?_
          obtain ⟨v6, ev6⟩ : ∃ z : Int32, (t).1 110 x4.toNatClampNeg = z := ⟨_, rfl⟩
          have gv6 : (t.1 110 x4.toNatClampNeg).toInt = v6.toInt := congrArg Int32.toInt (ev6)
          refine r_iald (n := 4500) (lo := 0) (hi := 4499) C v6 rfl (by decide) rfl rfl ⟨by omega, by omega⟩ (by decide) ev6 rfl rfl (oDec_at oX12_means 24 rfl) (fun b5 b5h => ?_)
          refine r_pc C 42 rfl ?_
          refine r_callVi C oCl12 rfl miX12_isMeant mlX12_519 (ct_X12_isMeant l E (t) a1 v6 iv0 (by omega) (by omega) (by omega)) (by decide) rfl rfl rfl (Nat.le_of_ble_eq_true rfl) (oDec_at oX12_means 25 rfl) (fun r8 u7 pu7 fu7 => ?_)
          try dsimp only at pu7
          have rr8 := n_rng r8
          refine r_if_ne C 51 (oDec_at oX12_means 26 rfl) (by decide) (fun cd9 => ?_) (fun cd9 => ?_)
          · skip
            refine r_iload_n C (j := 3) (oDec_at oX12_means 28 rfl) rfl rfl ?_
            refine r_iload_n C (j := 2) (oDec_at oX12_means 29 rfl) rfl rfl ?_
            refine r_icmp_ne C 59 (oDec_at oX12_means 30 rfl) (by decide) (fun cd10 => ?_) (fun cd10 => ?_)
            · skip
              obtain ⟨v11, ev11⟩ : ∃ z : Int32, x3 + Int32.ofInt 1 = z := ⟨_, rfl⟩
              have hv11 : v11.toInt = x3.toInt + 1 := n_inc ev11 (by decide) (by omega) (by omega)
              refine r_iinc C (j := 3) (lv' := [(0, .ref (oad E 71)), (1, .int a1), (2, .int a2), (3, .int v11), (4, .int x4)]) v11 [1, 2, 3, 0, 4] (oDec_at oX12_means 33 rfl) rfl ev11 (by decide) rfl ?_
              obtain ⟨v12, ev12⟩ : ∃ z : Int32, x4 + Int32.ofInt 1 = z := ⟨_, rfl⟩
              have hv12 : v12.toInt = x4.toInt + 1 := n_inc ev12 (by decide) (by omega) (by omega)
              refine r_iinc C (j := 4) (lv' := [(0, .ref (oad E 71)), (1, .int a1), (2, .int a2), (3, .int v11), (4, .int v12)]) v12 [1, 2, 3, 4, 0] (oDec_at oX12_means 34 rfl) rfl ev12 (by decide) rfl ?_
              refine r_goto C (tgt := 24) (oDec_at oX12_means 35 rfl) (by decide) ?_
              have lc13 : ((u7).1 104 1).toInt = (t.1 104 1).toInt := congrArg Int32.toInt ((fu7 104 1 rfl).1)
              exact (ih (n - 1) (by omega)) (u7) v11 v12  (oBI_fr fu7 rfl iv0) (by omega) (by omega) (by omega) (by omega) (by omega)
            · skip
              refine r_iload C (j := 4) (oDec_at oX12_means 31 rfl) rfl ?_
              exact r_iret C (oDec_at oX12_means 32 rfl) ⟨_, rfl, trivial⟩
          · skip
            refine r_goto C (tgt := 62) (oDec_at oX12_means 27 rfl) (by decide) ?_
            obtain ⟨v14, ev14⟩ : ∃ z : Int32, x4 + Int32.ofInt 1 = z := ⟨_, rfl⟩
            have hv14 : v14.toInt = x4.toInt + 1 := n_inc ev14 (by decide) (by omega) (by omega)
            refine r_iinc C (j := 4) (lv' := [(0, .ref (oad E 71)), (1, .int a1), (2, .int a2), (3, .int x3), (4, .int v14)]) v14 [1, 2, 3, 4, 0] (oDec_at oX12_means 34 rfl) rfl ev14 (by decide) rfl ?_
            refine r_goto C (tgt := 24) (oDec_at oX12_means 35 rfl) (by decide) ?_
            have lc15 : ((u7).1 104 1).toInt = (t.1 104 1).toInt := congrArg Int32.toInt ((fu7 104 1 rfl).1)
            exact (ih (n - 1) (by omega)) (u7) x3 v14  (oBI_fr fu7 rfl iv0) (by omega) (by omega) (by omega) (by omega) (by omega)
  refine r_aload_n C (j := 0) (oDec_at oX12_means 0 rfl) rfl rfl ?_
  refine r_iload_n C (j := 1) (oDec_at oX12_means 1 rfl) rfl rfl ?_
  refine r_callVi C oCl12 rfl miX12_isOfMottos mlX12_516 (ct2_X12_isOfMottos l E (s) a1 ) (by decide) rfl rfl rfl (Nat.le_of_ble_eq_true rfl) (oDec_at oX12_means 2 rfl) (fun r17 u16 pu16 fu16 => ?_)
  try dsimp only at pu16
  obtain ⟨pu16_0, pu16_1⟩ := pu16
  have hxu16 := oFr_nil fu16; subst hxu16
  have rr17 := n_rng r17
  refine r_if_eq C 13 (oDec_at oX12_means 3 rfl) (by decide) (fun cd18 => ?_) (fun cd18 => ?_)
  · skip
    clear pu16_1
    refine r_iconst C (oDec_at oX12_means 7 rfl) (v := km1) (by rw [qkm1]; rfl) ?_
    exact r_iret C (oDec_at oX12_means 8 rfl) ⟨_, rfl, trivial⟩
  · skip
    replace pu16_1 := pu16_1 (by omega)
    refine r_iload_n C (j := 2) (oDec_at oX12_means 4 rfl) rfl rfl ?_
    refine r_iconst C (oDec_at oX12_means 5 rfl) (v := km1) (by rw [qkm1]; rfl) ?_
    refine r_icmp_ge C 15 (oDec_at oX12_means 6 rfl) (by decide) (fun cd19 => ?_) (fun cd19 => ?_)
    · skip
      refine r_aload_n C (j := 0) (oDec_at oX12_means 9 rfl) rfl rfl ?_
      refine r_callVv C oCl12 rfl miX12_knows mlX12_490 (ct_X12_knows l E (s)  hp0) (by decide) rfl rfl rfl (Nat.le_of_ble_eq_true rfl) (oDec_at oX12_means 10 rfl) (fun u20 pu20 fu20 => ?_)
      try dsimp only at pu20
      refine r_iconst C (oDec_at oX12_means 11 rfl) (v := k0) (by rw [qk0]; rfl) ?_
      refine r_istore_n C (lv' := [(0, .ref (oad E 71)), (1, .int a1), (2, .int a2), (3, .int k0)]) [1, 2, 3, 0] (oDec_at oX12_means 12 rfl) rfl (by decide) rfl ?_
      refine r_iconst C (oDec_at oX12_means 13 rfl) (v := k0) (by rw [qk0]; rfl) ?_
      refine r_istore C (lv' := [(0, .ref (oad E 71)), (1, .int a1), (2, .int a2), (3, .int k0), (4, .int k0)]) [1, 2, 3, 4, 0] (oDec_at oX12_means 14 rfl) (by decide) rfl ?_
      have lc22 : ((u20).1 104 1).toInt = (s.1 104 1).toInt := congrArg Int32.toInt ((fu20 104 1 rfl).1)
      exact (key (4501 - k0.toInt).toNat) (u20) k0 k0  (oBI_fr fu20 rfl hp0) (by omega) (by omega) (by omega) (by omega) (by omega)
    · skip
      refine r_iconst C (oDec_at oX12_means 7 rfl) (v := km1) (by rw [qkm1]; rfl) ?_
      exact r_iret C (oDec_at oX12_means 8 rfl) ⟨_, rfl, trivial⟩
set_option maxHeartbeats 4000000 in
set_option maxRecDepth 100000 in
theorem ct_X12_isMeantByAll (l : Launch) (E : oE) (s : oS) (a1 : Int32) (a2 : Int32)  (hp0 : oBI s) (hp1 : 0 ≤ a2.toInt ∧ a2.toInt ≤ 4499) : oMet l 5 yX12_isMeantByAll cX12_isMeantByAll 4 (some .boolean) [(12, 58), (84, 9999), (85, 9999)] E s [.ref (oad E 71), .int a1, .int a2] (oPi (fun r u => (0 ≤ r.toInt ∧ r.toInt ≤ 1))) := by
  refine oMet.of (lv := [(0, .ref (oad E 71)), (1, .int a1), (2, .int a2)]) (by decide +kernel) (Nat.le_of_ble_eq_true rfl) rfl (fun J C hT => ?_)
  have C : oC l 5 cX12_isMeantByAll RX12 4 (some .boolean) [(12, 58), (84, 9999), (85, 9999)] E s (oPi (fun r u => (0 ≤ r.toInt ∧ r.toInt ≤ 1))) J := C
  obtain ⟨k0, qk0⟩ : ∃ z : Int32, z = 0 := ⟨_, rfl⟩
  have ek0 : k0.toInt = 0 := by rw [qk0]; rfl
  obtain ⟨k1, qk1⟩ : ∃ z : Int32, z = 1 := ⟨_, rfl⟩
  have ek1 : k1.toInt = 1 := by rw [qk1]; rfl
  have rg1 := n_rng a1
  have rg2 := n_rng a2
  have key : ∀ n : Nat, (∀ (t : oS) (x3 : Int32), (oBI t) → (0 ≤ x3.toInt ∧ x3.toInt ≤ 12) → (0 ≤ a2.toInt ∧ a2.toInt ≤ 4499) → 13 - x3.toInt ≤ (n : Int) → J t 2 [(0, .ref (oad E 71)), (1, .int a1), (2, .int a2), (3, .int x3)] []) := by
    intro n
    induction n using Nat.strongRecOn with
    | _ n ih =>
      skip
      · intro t x3  iv0 iv1 iv2 hmu
        have rx3 := n_rng x3
        refine r_iload_n C (j := 3) (oDec_at oX12_isMeantByAll 2 rfl) rfl rfl ?_
        refine r_aload_n C (j := 0) (oDec_at oX12_isMeantByAll 3 rfl) rfl rfl ?_
        refine r_getF (k := 49) (b := 104) C oCl12 rfl (by decide) flX12_114 rfl rfl rfl (oDec_at oX12_isMeantByAll 4 rfl) ?_
        refine r_iconst C (oDec_at oX12_isMeantByAll 5 rfl) (v := k1) (by rw [qk1]; rfl) ?_
        obtain ⟨v2, ev2⟩ : ∃ z : Int32, (t).1 104 k1.toNatClampNeg = z := ⟨_, rfl⟩
        have gv2 : (t.1 104 k1.toNatClampNeg).toInt = v2.toInt := congrArg Int32.toInt (ev2)
        refine r_iald (n := 4) (lo := 0) (hi := 12) C v2 rfl (by decide) rfl rfl ⟨by omega, by omega⟩ (by decide) ev2 rfl rfl (oDec_at oX12_isMeantByAll 6 rfl) (fun b1 b1h => ?_)
        have h1 := oIx1 (i := k1) ev2 ek1
        refine r_icmp_ge C 38 (oDec_at oX12_isMeantByAll 7 rfl) (by decide) (fun cd3 => ?_) (fun cd3 => ?_)
        · skip
          refine r_iconst C (oDec_at oX12_isMeantByAll 24 rfl) (v := k1) (by rw [qk1]; rfl) ?_
          exact r_zret C (n_bool (by omega)) (oDec_at oX12_isMeantByAll 25 rfl) ⟨_, rfl, by omega⟩
        · skip
          refine r_iload_n C (j := 1) (oDec_at oX12_isMeantByAll 8 rfl) rfl rfl ?_
          refine r_iload_n C (j := 3) (oDec_at oX12_isMeantByAll 9 rfl) rfl rfl ?_
          obtain ⟨v4, ev4⟩ : ∃ z : Int32, z = a1 >>> (x3 &&& 31) := ⟨_, rfl⟩
          have rv4 := n_rng v4
          refine r_ishr C v4 (oDec_at oX12_isMeantByAll 10 rfl) ev4 ?_
          refine r_iconst C (oDec_at oX12_isMeantByAll 11 rfl) (v := k1) (by rw [qk1]; rfl) ?_
          obtain ⟨v5, ev5⟩ : ∃ z : Int32, z = v4 &&& k1 := ⟨_, rfl⟩
          have hv5 := n_and ev5
          have rv5 := n_rng v5
          refine r_iand C v5 (oDec_at oX12_isMeantByAll 12 rfl) ev5 ?_
          refine r_iconst C (oDec_at oX12_isMeantByAll 13 rfl) (v := k1) (by rw [qk1]; rfl) ?_
          refine r_pc C 18 rfl ?_
          refine r_icmp_ne C 32 (oDec_at oX12_isMeantByAll 14 rfl) (by decide) (fun cd6 => ?_) (fun cd6 => ?_)
          · skip
            obtain ⟨v7, ev7⟩ : ∃ z : Int32, x3 + Int32.ofInt 1 = z := ⟨_, rfl⟩
            have hv7 : v7.toInt = x3.toInt + 1 := n_inc ev7 (by decide) (by omega) (by omega)
            refine r_iinc C (j := 3) (lv' := [(0, .ref (oad E 71)), (1, .int a1), (2, .int a2), (3, .int v7)]) v7 [1, 2, 3, 0] (oDec_at oX12_isMeantByAll 22 rfl) rfl ev7 (by decide) rfl ?_
            refine r_goto C (tgt := 2) (oDec_at oX12_isMeantByAll 23 rfl) (by decide) ?_
            exact (ih (n - 1) (by omega)) (t) v7  iv0 (by omega) (by omega) (by omega)
          · skip
            refine r_aload_n C (j := 0) (oDec_at oX12_isMeantByAll 15 rfl) rfl rfl ?_
            refine r_iload_n C (j := 3) (oDec_at oX12_isMeantByAll 16 rfl) rfl rfl ?_
            refine r_iload_n C (j := 2) (oDec_at oX12_isMeantByAll 17 rfl) rfl rfl ?_
            refine r_callVi C oCl12 rfl miX12_isMeant mlX12_519 (ct_X12_isMeant l E (t) x3 a2 iv0 (by omega) (by omega) (by omega)) (by decide) rfl rfl rfl (Nat.le_of_ble_eq_true rfl) (oDec_at oX12_isMeantByAll 18 rfl) (fun r9 u8 pu8 fu8 => ?_)
            try dsimp only at pu8
            have rr9 := n_rng r9
            refine r_if_ne C 32 (oDec_at oX12_isMeantByAll 19 rfl) (by decide) (fun cd10 => ?_) (fun cd10 => ?_)
            · skip
              obtain ⟨v11, ev11⟩ : ∃ z : Int32, x3 + Int32.ofInt 1 = z := ⟨_, rfl⟩
              have hv11 : v11.toInt = x3.toInt + 1 := n_inc ev11 (by decide) (by omega) (by omega)
              refine r_iinc C (j := 3) (lv' := [(0, .ref (oad E 71)), (1, .int a1), (2, .int a2), (3, .int v11)]) v11 [1, 2, 3, 0] (oDec_at oX12_isMeantByAll 22 rfl) rfl ev11 (by decide) rfl ?_
              refine r_goto C (tgt := 2) (oDec_at oX12_isMeantByAll 23 rfl) (by decide) ?_
              exact (ih (n - 1) (by omega)) (u8) v11  (oBI_fr fu8 rfl iv0) (by omega) (by omega) (by omega)
            · skip
              refine r_iconst C (oDec_at oX12_isMeantByAll 20 rfl) (v := k0) (by rw [qk0]; rfl) ?_
              exact r_zret C (n_bool (by omega)) (oDec_at oX12_isMeantByAll 21 rfl) ⟨_, rfl, by omega⟩
  refine r_iconst C (oDec_at oX12_isMeantByAll 0 rfl) (v := k0) (by rw [qk0]; rfl) ?_
  refine r_istore_n C (lv' := [(0, .ref (oad E 71)), (1, .int a1), (2, .int a2), (3, .int k0)]) [1, 2, 3, 0] (oDec_at oX12_isMeantByAll 1 rfl) rfl (by decide) rfl ?_
  exact (key (13 - k0.toInt).toNat) (s) k0  hp0 (by omega) (by omega) (by omega)
set_option maxHeartbeats 4000000 in
set_option maxRecDepth 100000 in
theorem ct_X12_meanMany (l : Launch) (E : oE) (s : oS) (a1 : Int32)  (hp0 : oBI s) : oMet l 6 yX12_meanMany cX12_meanMany 4 (some .int) [(12, 58), (84, 9999), (85, 9999)] E s [.ref (oad E 71), .int a1] (oPi (fun r u => True)) := by
  refine oMet.of (lv := [(0, .ref (oad E 71)), (1, .int a1)]) (by decide +kernel) (Nat.le_of_ble_eq_true rfl) rfl (fun J C hT => ?_)
  have C : oC l 6 cX12_meanMany RX12 4 (some .int) [(12, 58), (84, 9999), (85, 9999)] E s (oPi (fun r u => True)) J := C
  obtain ⟨k0, qk0⟩ : ∃ z : Int32, z = 0 := ⟨_, rfl⟩
  have ek0 : k0.toInt = 0 := by rw [qk0]; rfl
  have rg1 := n_rng a1
  have key : ∀ n : Nat, (∀ (t : oS) (x2 : Int32) (x3 : Int32), (oBI t) → (0 ≤ x3.toInt ∧ x3.toInt ≤ 4500) → (0 ≤ x2.toInt ∧ x2.toInt ≤ x3.toInt) → 4501 - x3.toInt ≤ (n : Int) → J t 4 [(0, .ref (oad E 71)), (1, .int a1), (2, .int x2), (3, .int x3)] []) := by
    intro n
    induction n using Nat.strongRecOn with
    | _ n ih =>
      skip
      · intro t x2 x3  iv0 iv1 iv2 hmu
        have rx2 := n_rng x2
        have rx3 := n_rng x3
        refine r_iload_n C (j := 3) (oDec_at oX12_meanMany 4 rfl) rfl rfl ?_
        refine r_aload_n C (j := 0) (oDec_at oX12_meanMany 5 rfl) rfl rfl ?_
        obtain ⟨v1, ev1⟩ : ∃ z : Int32, (t).1 71 71 = z := ⟨_, rfl⟩
        have gv1 : (t.1 71 71).toInt = v1.toInt := congrArg Int32.toInt (ev1)
        refine r_geti (k := 71) (lo := 0) (hi := 4500) C v1 oCl12 rfl (by decide) flX12_482 rfl rfl (ev1) rfl rfl (oDec_at oX12_meanMany 6 rfl) (fun b2 b2h => ?_)
        refine r_icmp_ge C 35 (oDec_at oX12_meanMany 7 rfl) (by decide) (fun cd3 => ?_) (fun cd3 => ?_)
        · skip
          refine r_iload_n C (j := 2) (oDec_at oX12_meanMany 19 rfl) rfl rfl ?_
          exact r_iret C (oDec_at oX12_meanMany 20 rfl) ⟨_, rfl, trivial⟩
        · skip
          refine r_aload_n C (j := 0) (oDec_at oX12_meanMany 8 rfl) rfl rfl ?_
          refine r_iload_n C (j := 1) (oDec_at oX12_meanMany 9 rfl) rfl rfl ?_
          refine r_aload_n C (j := 0) (oDec_at oX12_meanMany 10 rfl) rfl rfl ?_
          refine r_getF (k := 70) (b := 110) C oCl12 rfl (by decide) flX12_145 rfl rfl rfl (oDec_at oX12_meanMany 11 rfl) ?_
          refine r_iload_n C (j := 3) (oDec_at oX12_meanMany 12 rfl) rfl rfl ?_
          obtain ⟨v5, ev5⟩ : ∃ z : Int32, (t).1 110 x3.toNatClampNeg = z := ⟨_, rfl⟩
          have gv5 : (t.1 110 x3.toNatClampNeg).toInt = v5.toInt := congrArg Int32.toInt (ev5)
          refine r_iald (n := 4500) (lo := 0) (hi := 4499) C v5 rfl (by decide) rfl rfl ⟨by omega, by omega⟩ (by decide) ev5 rfl rfl (oDec_at oX12_meanMany 13 rfl) (fun b4 b4h => ?_)
          refine r_pc C 20 rfl ?_
          refine r_callVi C oCl12 rfl miX12_isMeantByAll mlX12_522 (ct_X12_isMeantByAll l E (t) a1 v5 iv0 (by omega)) (by decide) rfl rfl rfl (Nat.le_of_ble_eq_true rfl) (oDec_at oX12_meanMany 14 rfl) (fun r7 u6 pu6 fu6 => ?_)
          try dsimp only at pu6
          have rr7 := n_rng r7
          refine r_if_eq C 29 (oDec_at oX12_meanMany 15 rfl) (by decide) (fun cd8 => ?_) (fun cd8 => ?_)
          · skip
            obtain ⟨v9, ev9⟩ : ∃ z : Int32, x3 + Int32.ofInt 1 = z := ⟨_, rfl⟩
            have hv9 : v9.toInt = x3.toInt + 1 := n_inc ev9 (by decide) (by omega) (by omega)
            refine r_iinc C (j := 3) (lv' := [(0, .ref (oad E 71)), (1, .int a1), (2, .int x2), (3, .int v9)]) v9 [1, 2, 3, 0] (oDec_at oX12_meanMany 17 rfl) rfl ev9 (by decide) rfl ?_
            refine r_goto C (tgt := 4) (oDec_at oX12_meanMany 18 rfl) (by decide) ?_
            exact (ih (n - 1) (by omega)) (u6) x2 v9  (oBI_fr fu6 rfl iv0) (by omega) (by omega) (by omega)
          · skip
            obtain ⟨v10, ev10⟩ : ∃ z : Int32, x2 + Int32.ofInt 1 = z := ⟨_, rfl⟩
            have hv10 : v10.toInt = x2.toInt + 1 := n_inc ev10 (by decide) (by omega) (by omega)
            refine r_iinc C (j := 2) (lv' := [(0, .ref (oad E 71)), (1, .int a1), (2, .int v10), (3, .int x3)]) v10 [1, 2, 0, 3] (oDec_at oX12_meanMany 16 rfl) rfl ev10 (by decide) rfl ?_
            obtain ⟨v11, ev11⟩ : ∃ z : Int32, x3 + Int32.ofInt 1 = z := ⟨_, rfl⟩
            have hv11 : v11.toInt = x3.toInt + 1 := n_inc ev11 (by decide) (by omega) (by omega)
            refine r_iinc C (j := 3) (lv' := [(0, .ref (oad E 71)), (1, .int a1), (2, .int v10), (3, .int v11)]) v11 [1, 2, 3, 0] (oDec_at oX12_meanMany 17 rfl) rfl ev11 (by decide) rfl ?_
            refine r_goto C (tgt := 4) (oDec_at oX12_meanMany 18 rfl) (by decide) ?_
            exact (ih (n - 1) (by omega)) (u6) v10 v11  (oBI_fr fu6 rfl iv0) (by omega) (by omega) (by omega)
  refine r_iconst C (oDec_at oX12_meanMany 0 rfl) (v := k0) (by rw [qk0]; rfl) ?_
  refine r_istore_n C (lv' := [(0, .ref (oad E 71)), (1, .int a1), (2, .int k0)]) [1, 2, 0] (oDec_at oX12_meanMany 1 rfl) rfl (by decide) rfl ?_
  refine r_iconst C (oDec_at oX12_meanMany 2 rfl) (v := k0) (by rw [qk0]; rfl) ?_
  refine r_istore_n C (lv' := [(0, .ref (oad E 71)), (1, .int a1), (2, .int k0), (3, .int k0)]) [1, 2, 3, 0] (oDec_at oX12_meanMany 3 rfl) rfl (by decide) rfl ?_
  exact (key (4501 - k0.toInt).toNat) (s) k0 k0  hp0 (by omega) (by omega) (by omega)
set_option maxHeartbeats 4000000 in
set_option maxRecDepth 100000 in
theorem ct_X12_mean (l : Launch) (E : oE) (s : oS) (a1 : Int32)  (hp0 : oBI s) : oMet l 9 yX12_mean cX12_mean 2 (some .int) [(12, 58), (12, 60), (12, 61), (12, 62), (12, 63), (12, 65), (12, 69), (12, 71), (84, 9999), (85, 9999), (86, 9999), (87, 9999)] E s [.ref (oad E 71), .int a1] (oPi (fun r u => True)) := by
  refine oMet.of (lv := [(0, .ref (oad E 71)), (1, .int a1)]) (by decide +kernel) (Nat.le_of_ble_eq_true rfl) rfl (fun J C hT => ?_)
  have C : oC l 9 cX12_mean RX12 2 (some .int) [(12, 58), (12, 60), (12, 61), (12, 62), (12, 63), (12, 65), (12, 69), (12, 71), (84, 9999), (85, 9999), (86, 9999), (87, 9999)] E s (oPi (fun r u => True)) J := C
  obtain ⟨km1, qkm1⟩ : ∃ z : Int32, z = (-1) := ⟨_, rfl⟩
  have ekm1 : km1.toInt = (-1) := by rw [qkm1]; rfl
  obtain ⟨k1, qk1⟩ : ∃ z : Int32, z = 1 := ⟨_, rfl⟩
  have ek1 : k1.toInt = 1 := by rw [qk1]; rfl
  obtain ⟨j0, qj0⟩ : ∃ z : Int64, z = 0 := ⟨_, rfl⟩
  have ej0 : j0.toInt = 0 := by rw [qj0]; rfl
  have rg1 := n_rng a1
  refine r_iload_n C (j := 1) (oDec_at oX12_mean 0 rfl) rfl rfl ?_
  obtain ⟨v1, ev1⟩ : ∃ z : Int64, a1.toInt64 = z := ⟨_, rfl⟩
  have hv1 : v1.toInt = a1.toInt := n_i2l ev1
  refine r_i2l C v1 (oDec_at oX12_mean 1 rfl) ev1 ?_
  refine r_lconst C (oDec_at oX12_mean 2 rfl) (v := j0) (by rw [qj0]; rfl) ?_
  refine r_iconst C (oDec_at oX12_mean 3 rfl) (v := k1) (by rw [qk1]; rfl) ?_
  refine r_aload_n C (j := 0) (oDec_at oX12_mean 4 rfl) rfl rfl ?_
  refine r_getF (k := 49) (b := 104) C oCl12 rfl (by decide) flX12_114 rfl rfl rfl (oDec_at oX12_mean 5 rfl) ?_
  refine r_pc C 8 rfl ?_
  refine r_iconst C (oDec_at oX12_mean 6 rfl) (v := k1) (by rw [qk1]; rfl) ?_
  obtain ⟨v3, ev3⟩ : ∃ z : Int32, (s).1 104 k1.toNatClampNeg = z := ⟨_, rfl⟩
  have gv3 : (s.1 104 k1.toNatClampNeg).toInt = v3.toInt := congrArg Int32.toInt (ev3)
  refine r_iald (n := 4) (lo := 0) (hi := 12) C v3 rfl (by decide) rfl rfl ⟨by omega, by omega⟩ (by decide) ev3 rfl rfl (oDec_at oX12_mean 7 rfl) (fun b2 b2h => ?_)
  obtain ⟨v4, ev4⟩ : ∃ z : Int32, z = k1 <<< (v3 &&& 31) := ⟨_, rfl⟩
  have rv4 := n_rng v4
  have hfv4 := n_shl1 ev4 ek1 (by omega)
  refine r_ishl C v4 (oDec_at oX12_mean 8 rfl) ev4 ?_
  refine r_iconst C (oDec_at oX12_mean 9 rfl) (v := k1) (by rw [qk1]; rfl) ?_
  obtain ⟨v5, ev5⟩ : ∃ z : Int32, z = v4 - k1 := ⟨_, rfl⟩
  have hv5 : v5.toInt = v4.toInt - k1.toInt := n_sub ev5 (by omega) (by omega)
  refine r_isub C v5 (oDec_at oX12_mean 10 rfl) ev5 ?_
  obtain ⟨v6, ev6⟩ : ∃ z : Int64, v5.toInt64 = z := ⟨_, rfl⟩
  have hv6 : v6.toInt = v5.toInt := n_i2l ev6
  refine r_i2l C v6 (oDec_at oX12_mean 11 rfl) ev6 ?_
  refine r_pc C 14 rfl ?_
  refine r_callSi C miX12_isIn mlX12_216 (ct_X12_isIn l E (s) v1 j0 v6 ) (by decide) rfl rfl rfl (Nat.le_of_ble_eq_true rfl) (oDec_at oX12_mean 12 rfl) (fun r8 u7 pu7 fu7 => ?_)
  try dsimp only at pu7
  obtain ⟨pu7_0, pu7_1⟩ := pu7
  have hxu7 := oFr_nil fu7; subst hxu7
  have rr8 := n_rng r8
  refine r_if_ne C 22 (oDec_at oX12_mean 13 rfl) (by decide) (fun cd9 => ?_) (fun cd9 => ?_)
  · skip
    refine r_aload_n C (j := 0) (oDec_at oX12_mean 16 rfl) rfl rfl ?_
    refine r_callVv C oCl12 rfl miX12_knows mlX12_490 (ct_X12_knows l E (s)  hp0) (by decide) rfl rfl rfl (Nat.le_of_ble_eq_true rfl) (oDec_at oX12_mean 17 rfl) (fun u10 pu10 fu10 => ?_)
    try dsimp only at pu10
    refine r_aload_n C (j := 0) (oDec_at oX12_mean 18 rfl) rfl rfl ?_
    refine r_iload_n C (j := 1) (oDec_at oX12_mean 19 rfl) rfl rfl ?_
    refine r_callVi C oCl12 rfl miX12_meanMany mlX12_525 (ct_X12_meanMany l E (u10) a1 (oBI_fr fu10 rfl hp0)) (by decide) rfl rfl rfl (Nat.le_of_ble_eq_true rfl) (oDec_at oX12_mean 20 rfl) (fun r13 u12 pu12 fu12 => ?_)
    try dsimp only at pu12
    have rr13 := n_rng r13
    exact r_iret C (oDec_at oX12_mean 21 rfl) ⟨_, rfl, trivial⟩
  · skip
    refine r_iconst C (oDec_at oX12_mean 14 rfl) (v := km1) (by rw [qkm1]; rfl) ?_
    exact r_iret C (oDec_at oX12_mean 15 rfl) ⟨_, rfl, trivial⟩
set_option maxHeartbeats 4000000 in
set_option maxRecDepth 100000 in
theorem ct2_X12_bits (l : Launch) (E : oE) (s : oS) (a0 : Int32)  (hp0 : 0 ≤ a0.toInt ∧ a0.toInt ≤ 5000) : oMet l 1 yX12_bits cX12_bits 3 (some .int) [] E s [.int a0] (oPi (fun r u => (0 ≤ r.toInt ∧ r.toInt ≤ 5000))) := by
  refine oMet.of (lv := [(0, .int a0)]) (by decide +kernel) (Nat.le_of_ble_eq_true rfl) rfl (fun J C hT => ?_)
  have C : oC l 1 cX12_bits RX12 3 (some .int) [] E s (oPi (fun r u => (0 ≤ r.toInt ∧ r.toInt ≤ 5000))) J := C
  obtain ⟨k0, qk0⟩ : ∃ z : Int32, z = 0 := ⟨_, rfl⟩
  have ek0 : k0.toInt = 0 := by rw [qk0]; rfl
  obtain ⟨k1, qk1⟩ : ∃ z : Int32, z = 1 := ⟨_, rfl⟩
  have ek1 : k1.toInt = 1 := by rw [qk1]; rfl
  have rg0 := n_rng a0
  have key : ∀ n : Nat, (∀ (t : oS) (x1 : Int32) (x2 : Int32), (0 ≤ x2.toInt ∧ 0 ≤ x1.toInt ∧ x1.toInt + x2.toInt ≤ 5000) → x2.toInt + 1 ≤ (n : Int) → J t 4 [(1, .int x1), (2, .int x2)] []) := by
    intro n
    induction n using Nat.strongRecOn with
    | _ n ih =>
      skip
      · intro t x1 x2  iv0 hmu
        have rx1 := n_rng x1
        have rx2 := n_rng x2
        refine r_iload_n C (j := 1) (oDec_at oX12_bits 4 rfl) rfl rfl ?_
        refine r_if_eq C 20 (oDec_at oX12_bits 5 rfl) (by decide) (fun cd1 => ?_) (fun cd1 => ?_)
        · skip
          refine r_iload_n C (j := 0) (oDec_at oX12_bits 14 rfl) rfl rfl ?_
          exact r_iret C (oDec_at oX12_bits 15 rfl) ⟨_, rfl, by omega⟩
        · skip
          obtain ⟨v2, ev2⟩ : ∃ z : Int32, x1 + Int32.ofInt 1 = z := ⟨_, rfl⟩
          have hv2 : v2.toInt = x1.toInt + 1 := n_inc ev2 (by decide) (by omega) (by omega)
          refine r_iinc C (j := 0) (lv' := [(1, .int v2), (2, .int x2)]) v2 [0, 1] (oDec_at oX12_bits 6 rfl) rfl ev2 (by decide) rfl ?_
          refine r_iload_n C (j := 1) (oDec_at oX12_bits 7 rfl) rfl rfl ?_
          refine r_iload_n C (j := 1) (oDec_at oX12_bits 8 rfl) rfl rfl ?_
          refine r_iconst C (oDec_at oX12_bits 9 rfl) (v := k1) (by rw [qk1]; rfl) ?_
          obtain ⟨v3, ev3⟩ : ∃ z : Int32, z = x2 - k1 := ⟨_, rfl⟩
          have hv3 : v3.toInt = x2.toInt - k1.toInt := n_sub ev3 (by omega) (by omega)
          refine r_isub C v3 (oDec_at oX12_bits 10 rfl) ev3 ?_
          obtain ⟨v4, ev4⟩ : ∃ z : Int32, z = x2 &&& v3 := ⟨_, rfl⟩
          have hv4 := n_and ev4
          have rv4 := n_rng v4
          refine r_iand C v4 (oDec_at oX12_bits 11 rfl) ev4 ?_
          refine r_pc C 16 rfl ?_
          refine r_istore_n C (lv' := [(1, .int v2), (2, .int v4)]) [1, 0] (oDec_at oX12_bits 12 rfl) rfl (by decide) rfl ?_
          refine r_goto C (tgt := 4) (oDec_at oX12_bits 13 rfl) (by decide) ?_
          exact (ih (n - 1) (by omega)) (t) v2 v4  (by omega) (by omega)
  refine r_iconst C (oDec_at oX12_bits 0 rfl) (v := k0) (by rw [qk0]; rfl) ?_
  refine r_istore_n C (lv' := [(0, .int a0), (1, .int k0)]) [1, 0] (oDec_at oX12_bits 1 rfl) rfl (by decide) rfl ?_
  refine r_iload_n C (j := 0) (oDec_at oX12_bits 2 rfl) rfl rfl ?_
  refine r_istore_n C (lv' := [(0, .int a0), (1, .int k0), (2, .int a0)]) [1, 2, 0] (oDec_at oX12_bits 3 rfl) rfl (by decide) rfl ?_
  refine r_pick C [1, 2] rfl ?_
  exact (key (a0.toInt + 1).toNat) (s) k0 a0  (by omega) (by omega)
set_option maxHeartbeats 4000000 in
set_option maxRecDepth 100000 in
theorem ct_X12_mottos (l : Launch) (E : oE) (s : oS) (a1 : Int32)  (hp0 : oBI s) : oMet l 10 yX12_mottos cX12_mottos 4 (some .int) [(12, 58), (12, 60), (12, 61), (12, 62), (12, 63), (12, 65), (12, 69), (12, 71), (84, 9999), (85, 9999), (86, 9999), (87, 9999)] E s [.ref (oad E 71), .int a1] (oPi (fun r u => True)) := by
  refine oMet.of (lv := [(0, .ref (oad E 71)), (1, .int a1)]) (by decide +kernel) (Nat.le_of_ble_eq_true rfl) rfl (fun J C hT => ?_)
  have C : oC l 10 cX12_mottos RX12 4 (some .int) [(12, 58), (12, 60), (12, 61), (12, 62), (12, 63), (12, 65), (12, 69), (12, 71), (84, 9999), (85, 9999), (86, 9999), (87, 9999)] E s (oPi (fun r u => True)) J := C
  obtain ⟨km1, qkm1⟩ : ∃ z : Int32, z = (-1) := ⟨_, rfl⟩
  have ekm1 : km1.toInt = (-1) := by rw [qkm1]; rfl
  obtain ⟨k0, qk0⟩ : ∃ z : Int32, z = 0 := ⟨_, rfl⟩
  have ek0 : k0.toInt = 0 := by rw [qk0]; rfl
  obtain ⟨k1, qk1⟩ : ∃ z : Int32, z = 1 := ⟨_, rfl⟩
  have ek1 : k1.toInt = 1 := by rw [qk1]; rfl
  have rg1 := n_rng a1
  have key : ∀ n : Nat, (∀ (t : oS) (x2 : Int32) (x3 : Int32), (oBI t) → (0 ≤ a1.toInt ∧ a1.toInt < 4500) → (0 ≤ x3.toInt ∧ x3.toInt ≤ 4096) → (-1 ≤ x2.toInt ∧ x2.toInt ≤ 4096) → 5000 - x3.toInt ≤ (n : Int) → J t 14 [(0, .ref (oad E 71)), (1, .int a1), (2, .int x2), (3, .int x3)] []) := by
    intro n
    induction n using Nat.strongRecOn with
    | _ n ih =>
      skip
      · intro t x2 x3  iv0 iv1 iv2 iv3 hmu
        have rx2 := n_rng x2
        have rx3 := n_rng x3
        refine r_iload_n C (j := 3) (oDec_at oX12_mottos 10 rfl) rfl rfl ?_
        refine r_iconst C (oDec_at oX12_mottos 11 rfl) (v := k1) (by rw [qk1]; rfl) ?_
        refine r_aload_n C (j := 0) (oDec_at oX12_mottos 12 rfl) rfl rfl ?_
        refine r_getF (k := 49) (b := 104) C oCl12 rfl (by decide) flX12_114 rfl rfl rfl (oDec_at oX12_mottos 13 rfl) ?_
        refine r_iconst C (oDec_at oX12_mottos 14 rfl) (v := k1) (by rw [qk1]; rfl) ?_
        obtain ⟨v2, ev2⟩ : ∃ z : Int32, (t).1 104 k1.toNatClampNeg = z := ⟨_, rfl⟩
        have gv2 : (t.1 104 k1.toNatClampNeg).toInt = v2.toInt := congrArg Int32.toInt (ev2)
        refine r_iald (n := 4) (lo := 0) (hi := 12) C v2 rfl (by decide) rfl rfl ⟨by omega, by omega⟩ (by decide) ev2 rfl rfl (oDec_at oX12_mottos 15 rfl) (fun b1 b1h => ?_)
        refine r_pc C 22 rfl ?_
        obtain ⟨v3, ev3⟩ : ∃ z : Int32, z = k1 <<< (v2 &&& 31) := ⟨_, rfl⟩
        have rv3 := n_rng v3
        have hfv3 := n_shl1 ev3 ek1 (by omega)
        refine r_ishl C v3 (oDec_at oX12_mottos 16 rfl) ev3 ?_
        refine r_icmp_ge C 76 (oDec_at oX12_mottos 17 rfl) (by decide) (fun cd4 => ?_) (fun cd4 => ?_)
        · skip
          refine r_iload_n C (j := 2) (oDec_at oX12_mottos 44 rfl) rfl rfl ?_
          exact r_iret C (oDec_at oX12_mottos 45 rfl) ⟨_, rfl, trivial⟩
        · skip
          refine r_iload_n C (j := 2) (oDec_at oX12_mottos 18 rfl) rfl rfl ?_
          refine r_iconst C (oDec_at oX12_mottos 19 rfl) (v := km1) (by rw [qkm1]; rfl) ?_
          refine r_icmp_eq C 42 (oDec_at oX12_mottos 20 rfl) (by decide) (fun cd5 => ?_) (fun cd5 => ?_)
          · skip
            refine r_aload_n C (j := 0) (oDec_at oX12_mottos 26 rfl) rfl rfl ?_
            refine r_iload_n C (j := 3) (oDec_at oX12_mottos 27 rfl) rfl rfl ?_
            refine r_aload_n C (j := 0) (oDec_at oX12_mottos 28 rfl) rfl rfl ?_
            refine r_getF (k := 70) (b := 110) C oCl12 rfl (by decide) flX12_145 rfl rfl rfl (oDec_at oX12_mottos 29 rfl) ?_
            refine r_iload_n C (j := 1) (oDec_at oX12_mottos 30 rfl) rfl rfl ?_
            obtain ⟨v7, ev7⟩ : ∃ z : Int32, (t).1 110 a1.toNatClampNeg = z := ⟨_, rfl⟩
            have gv7 : (t.1 110 a1.toNatClampNeg).toInt = v7.toInt := congrArg Int32.toInt (ev7)
            refine r_iald (n := 4500) (lo := 0) (hi := 4499) C v7 rfl (by decide) rfl rfl ⟨by omega, by omega⟩ (by decide) ev7 rfl rfl (oDec_at oX12_mottos 31 rfl) (fun b6 b6h => ?_)
            refine r_pc C 50 rfl ?_
            refine r_callVi C oCl12 rfl miX12_isMeantByAll mlX12_522 (ct_X12_isMeantByAll l E (t) x3 v7 iv0 (by omega)) (by decide) rfl rfl rfl (Nat.le_of_ble_eq_true rfl) (oDec_at oX12_mottos 32 rfl) (fun r9 u8 pu8 fu8 => ?_)
            try dsimp only at pu8
            have rr9 := n_rng r9
            refine r_if_eq C 70 (oDec_at oX12_mottos 33 rfl) (by decide) (fun cd10 => ?_) (fun cd10 => ?_)
            · skip
              obtain ⟨v11, ev11⟩ : ∃ z : Int32, x3 + Int32.ofInt 1 = z := ⟨_, rfl⟩
              have hv11 : v11.toInt = x3.toInt + 1 := n_inc ev11 (by decide) (by omega) (by omega)
              refine r_iinc C (j := 3) (lv' := [(0, .ref (oad E 71)), (1, .int a1), (2, .int x2), (3, .int v11)]) v11 [1, 2, 3, 0] (oDec_at oX12_mottos 42 rfl) rfl ev11 (by decide) rfl ?_
              refine r_goto C (tgt := 14) (oDec_at oX12_mottos 43 rfl) (by decide) ?_
              exact (ih (n - 1) (by omega)) (u8) x2 v11  (oBI_fr fu8 rfl iv0) (by omega) (by omega) (by omega) (by omega)
            · skip
              refine r_aload_n C (j := 0) (oDec_at oX12_mottos 34 rfl) rfl rfl ?_
              refine r_iload_n C (j := 3) (oDec_at oX12_mottos 35 rfl) rfl rfl ?_
              refine r_callVi C oCl12 rfl miX12_meanMany mlX12_525 (ct_X12_meanMany l E (u8) x3 (oBI_fr fu8 rfl iv0)) (by decide) rfl rfl rfl (Nat.le_of_ble_eq_true rfl) (oDec_at oX12_mottos 36 rfl) (fun r13 u12 pu12 fu12 => ?_)
              try dsimp only at pu12
              have rr13 := n_rng r13
              refine r_iconst C (oDec_at oX12_mottos 37 rfl) (v := k1) (by rw [qk1]; rfl) ?_
              refine r_icmp_eq C 68 (oDec_at oX12_mottos 38 rfl) (by decide) (fun cd14 => ?_) (fun cd14 => ?_)
              · skip
                refine r_iload_n C (j := 3) (oDec_at oX12_mottos 40 rfl) rfl rfl ?_
                refine r_istore_n C (lv' := [(0, .ref (oad E 71)), (1, .int a1), (2, .int x3), (3, .int x3)]) [1, 2, 0, 3] (oDec_at oX12_mottos 41 rfl) rfl (by decide) rfl ?_
                obtain ⟨v15, ev15⟩ : ∃ z : Int32, x3 + Int32.ofInt 1 = z := ⟨_, rfl⟩
                have hv15 : v15.toInt = x3.toInt + 1 := n_inc ev15 (by decide) (by omega) (by omega)
                refine r_iinc C (j := 3) (lv' := [(0, .ref (oad E 71)), (1, .int a1), (2, .int x3), (3, .int v15)]) v15 [1, 2, 3, 0] (oDec_at oX12_mottos 42 rfl) rfl ev15 (by decide) rfl ?_
                refine r_goto C (tgt := 14) (oDec_at oX12_mottos 43 rfl) (by decide) ?_
                exact (ih (n - 1) (by omega)) (u12) x3 v15  (oBI_fr fu12 rfl (oBI_fr fu8 rfl iv0)) (by omega) (by omega) (by omega) (by omega)
              · skip
                refine r_goto C (tgt := 70) (oDec_at oX12_mottos 39 rfl) (by decide) ?_
                obtain ⟨v16, ev16⟩ : ∃ z : Int32, x3 + Int32.ofInt 1 = z := ⟨_, rfl⟩
                have hv16 : v16.toInt = x3.toInt + 1 := n_inc ev16 (by decide) (by omega) (by omega)
                refine r_iinc C (j := 3) (lv' := [(0, .ref (oad E 71)), (1, .int a1), (2, .int x2), (3, .int v16)]) v16 [1, 2, 3, 0] (oDec_at oX12_mottos 42 rfl) rfl ev16 (by decide) rfl ?_
                refine r_goto C (tgt := 14) (oDec_at oX12_mottos 43 rfl) (by decide) ?_
                exact (ih (n - 1) (by omega)) (u12) x2 v16  (oBI_fr fu12 rfl (oBI_fr fu8 rfl iv0)) (by omega) (by omega) (by omega) (by omega)
          · skip
            refine r_iload_n C (j := 3) (oDec_at oX12_mottos 21 rfl) rfl rfl ?_
            refine r_callSi C miX12_bits mlX12_508 (ct2_X12_bits l E (t) x3 (by omega)) (by decide) rfl rfl rfl (Nat.le_of_ble_eq_true rfl) (oDec_at oX12_mottos 22 rfl) (fun r18 u17 pu17 fu17 => ?_)
            try dsimp only at pu17
            have hxu17 := oFr_nil fu17; subst hxu17
            have rr18 := n_rng r18
            refine r_iload_n C (j := 2) (oDec_at oX12_mottos 23 rfl) rfl rfl ?_
            refine r_callSi C miX12_bits mlX12_508 (ct2_X12_bits l E (t) x2 (by omega)) (by decide) rfl rfl rfl (Nat.le_of_ble_eq_true rfl) (oDec_at oX12_mottos 24 rfl) (fun r20 u19 pu19 fu19 => ?_)
            try dsimp only at pu19
            have hxu19 := oFr_nil fu19; subst hxu19
            have rr20 := n_rng r20
            refine r_icmp_ge C 70 (oDec_at oX12_mottos 25 rfl) (by decide) (fun cd21 => ?_) (fun cd21 => ?_)
            · skip
              obtain ⟨v22, ev22⟩ : ∃ z : Int32, x3 + Int32.ofInt 1 = z := ⟨_, rfl⟩
              have hv22 : v22.toInt = x3.toInt + 1 := n_inc ev22 (by decide) (by omega) (by omega)
              refine r_iinc C (j := 3) (lv' := [(0, .ref (oad E 71)), (1, .int a1), (2, .int x2), (3, .int v22)]) v22 [1, 2, 3, 0] (oDec_at oX12_mottos 42 rfl) rfl ev22 (by decide) rfl ?_
              refine r_goto C (tgt := 14) (oDec_at oX12_mottos 43 rfl) (by decide) ?_
              exact (ih (n - 1) (by omega)) (t) x2 v22  iv0 (by omega) (by omega) (by omega) (by omega)
            · skip
              refine r_aload_n C (j := 0) (oDec_at oX12_mottos 26 rfl) rfl rfl ?_
              refine r_iload_n C (j := 3) (oDec_at oX12_mottos 27 rfl) rfl rfl ?_
              refine r_aload_n C (j := 0) (oDec_at oX12_mottos 28 rfl) rfl rfl ?_
              refine r_getF (k := 70) (b := 110) C oCl12 rfl (by decide) flX12_145 rfl rfl rfl (oDec_at oX12_mottos 29 rfl) ?_
              refine r_iload_n C (j := 1) (oDec_at oX12_mottos 30 rfl) rfl rfl ?_
              obtain ⟨v24, ev24⟩ : ∃ z : Int32, (t).1 110 a1.toNatClampNeg = z := ⟨_, rfl⟩
              have gv24 : (t.1 110 a1.toNatClampNeg).toInt = v24.toInt := congrArg Int32.toInt (ev24)
              refine r_iald (n := 4500) (lo := 0) (hi := 4499) C v24 rfl (by decide) rfl rfl ⟨by omega, by omega⟩ (by decide) ev24 rfl rfl (oDec_at oX12_mottos 31 rfl) (fun b23 b23h => ?_)
              refine r_pc C 50 rfl ?_
              refine r_callVi C oCl12 rfl miX12_isMeantByAll mlX12_522 (ct_X12_isMeantByAll l E (t) x3 v24 iv0 (by omega)) (by decide) rfl rfl rfl (Nat.le_of_ble_eq_true rfl) (oDec_at oX12_mottos 32 rfl) (fun r26 u25 pu25 fu25 => ?_)
              try dsimp only at pu25
              have rr26 := n_rng r26
              refine r_if_eq C 70 (oDec_at oX12_mottos 33 rfl) (by decide) (fun cd27 => ?_) (fun cd27 => ?_)
              · skip
                obtain ⟨v28, ev28⟩ : ∃ z : Int32, x3 + Int32.ofInt 1 = z := ⟨_, rfl⟩
                have hv28 : v28.toInt = x3.toInt + 1 := n_inc ev28 (by decide) (by omega) (by omega)
                refine r_iinc C (j := 3) (lv' := [(0, .ref (oad E 71)), (1, .int a1), (2, .int x2), (3, .int v28)]) v28 [1, 2, 3, 0] (oDec_at oX12_mottos 42 rfl) rfl ev28 (by decide) rfl ?_
                refine r_goto C (tgt := 14) (oDec_at oX12_mottos 43 rfl) (by decide) ?_
                exact (ih (n - 1) (by omega)) (u25) x2 v28  (oBI_fr fu25 rfl iv0) (by omega) (by omega) (by omega) (by omega)
              · skip
                refine r_aload_n C (j := 0) (oDec_at oX12_mottos 34 rfl) rfl rfl ?_
                refine r_iload_n C (j := 3) (oDec_at oX12_mottos 35 rfl) rfl rfl ?_
                refine r_callVi C oCl12 rfl miX12_meanMany mlX12_525 (ct_X12_meanMany l E (u25) x3 (oBI_fr fu25 rfl iv0)) (by decide) rfl rfl rfl (Nat.le_of_ble_eq_true rfl) (oDec_at oX12_mottos 36 rfl) (fun r30 u29 pu29 fu29 => ?_)
                try dsimp only at pu29
                have rr30 := n_rng r30
                refine r_iconst C (oDec_at oX12_mottos 37 rfl) (v := k1) (by rw [qk1]; rfl) ?_
                refine r_icmp_eq C 68 (oDec_at oX12_mottos 38 rfl) (by decide) (fun cd31 => ?_) (fun cd31 => ?_)
                · skip
                  refine r_iload_n C (j := 3) (oDec_at oX12_mottos 40 rfl) rfl rfl ?_
                  refine r_istore_n C (lv' := [(0, .ref (oad E 71)), (1, .int a1), (2, .int x3), (3, .int x3)]) [1, 2, 0, 3] (oDec_at oX12_mottos 41 rfl) rfl (by decide) rfl ?_
                  obtain ⟨v32, ev32⟩ : ∃ z : Int32, x3 + Int32.ofInt 1 = z := ⟨_, rfl⟩
                  have hv32 : v32.toInt = x3.toInt + 1 := n_inc ev32 (by decide) (by omega) (by omega)
                  refine r_iinc C (j := 3) (lv' := [(0, .ref (oad E 71)), (1, .int a1), (2, .int x3), (3, .int v32)]) v32 [1, 2, 3, 0] (oDec_at oX12_mottos 42 rfl) rfl ev32 (by decide) rfl ?_
                  refine r_goto C (tgt := 14) (oDec_at oX12_mottos 43 rfl) (by decide) ?_
                  exact (ih (n - 1) (by omega)) (u29) x3 v32  (oBI_fr fu29 rfl (oBI_fr fu25 rfl iv0)) (by omega) (by omega) (by omega) (by omega)
                · skip
                  refine r_goto C (tgt := 70) (oDec_at oX12_mottos 39 rfl) (by decide) ?_
                  obtain ⟨v33, ev33⟩ : ∃ z : Int32, x3 + Int32.ofInt 1 = z := ⟨_, rfl⟩
                  have hv33 : v33.toInt = x3.toInt + 1 := n_inc ev33 (by decide) (by omega) (by omega)
                  refine r_iinc C (j := 3) (lv' := [(0, .ref (oad E 71)), (1, .int a1), (2, .int x2), (3, .int v33)]) v33 [1, 2, 3, 0] (oDec_at oX12_mottos 42 rfl) rfl ev33 (by decide) rfl ?_
                  refine r_goto C (tgt := 14) (oDec_at oX12_mottos 43 rfl) (by decide) ?_
                  exact (ih (n - 1) (by omega)) (u29) x2 v33  (oBI_fr fu29 rfl (oBI_fr fu25 rfl iv0)) (by omega) (by omega) (by omega) (by omega)
  refine r_aload_n C (j := 0) (oDec_at oX12_mottos 0 rfl) rfl rfl ?_
  refine r_iload_n C (j := 1) (oDec_at oX12_mottos 1 rfl) rfl rfl ?_
  refine r_callVi C oCl12 rfl miX12_isWay mlX12_505 (ct_X12_isWay l E (s) a1 hp0) (by decide) rfl rfl rfl (Nat.le_of_ble_eq_true rfl) (oDec_at oX12_mottos 2 rfl) (fun r35 u34 pu34 fu34 => ?_)
  try dsimp only at pu34
  obtain ⟨pu34_0, pu34_1⟩ := pu34
  have rr35 := n_rng r35
  refine r_if_ne C 10 (oDec_at oX12_mottos 3 rfl) (by decide) (fun cd36 => ?_) (fun cd36 => ?_)
  · skip
    replace pu34_1 := pu34_1 (by omega)
    refine r_iconst C (oDec_at oX12_mottos 6 rfl) (v := km1) (by rw [qkm1]; rfl) ?_
    refine r_istore_n C (lv' := [(0, .ref (oad E 71)), (1, .int a1), (2, .int km1)]) [1, 2, 0] (oDec_at oX12_mottos 7 rfl) rfl (by decide) rfl ?_
    refine r_iconst C (oDec_at oX12_mottos 8 rfl) (v := k0) (by rw [qk0]; rfl) ?_
    refine r_istore_n C (lv' := [(0, .ref (oad E 71)), (1, .int a1), (2, .int km1), (3, .int k0)]) [1, 2, 3, 0] (oDec_at oX12_mottos 9 rfl) rfl (by decide) rfl ?_
    exact (key (5000 - k0.toInt).toNat) (u34) km1 k0  (oBI_fr fu34 rfl hp0) (by omega) (by omega) (by omega) (by omega)
  · skip
    clear pu34_1
    refine r_iconst C (oDec_at oX12_mottos 4 rfl) (v := km1) (by rw [qkm1]; rfl) ?_
    exact r_iret C (oDec_at oX12_mottos 5 rfl) ⟨_, rfl, trivial⟩
set_option maxHeartbeats 4000000 in
set_option maxRecDepth 100000 in
theorem ct_X12_common (l : Launch) (E : oE) (s : oS) (a1 : Int32)  (hp0 : oBI s) : oMet l 9 yX12_common cX12_common 5 (some .int) [(12, 58), (12, 60), (12, 61), (12, 62), (12, 63), (12, 65), (12, 69), (12, 71), (84, 9999), (85, 9999), (86, 9999), (87, 9999), (89, 9999)] E s [.ref (oad E 71), .int a1] (oPi (fun r u => True)) := by
  refine oMet.of (lv := [(0, .ref (oad E 71)), (1, .int a1)]) (by decide +kernel) (Nat.le_of_ble_eq_true rfl) rfl (fun J C hT => ?_)
  have C : oC l 9 cX12_common RX12 5 (some .int) [(12, 58), (12, 60), (12, 61), (12, 62), (12, 63), (12, 65), (12, 69), (12, 71), (84, 9999), (85, 9999), (86, 9999), (87, 9999), (89, 9999)] E s (oPi (fun r u => True)) J := C
  obtain ⟨km1000000000, qkm1000000000⟩ : ∃ z : Int32, z = (-1000000000) := ⟨_, rfl⟩
  have ekm1000000000 : km1000000000.toInt = (-1000000000) := by rw [qkm1000000000]; rfl
  obtain ⟨k0, qk0⟩ : ∃ z : Int32, z = 0 := ⟨_, rfl⟩
  have ek0 : k0.toInt = 0 := by rw [qk0]; rfl
  obtain ⟨k1, qk1⟩ : ∃ z : Int32, z = 1 := ⟨_, rfl⟩
  have ek1 : k1.toInt = 1 := by rw [qk1]; rfl
  obtain ⟨k2, qk2⟩ : ∃ z : Int32, z = 2 := ⟨_, rfl⟩
  have ek2 : k2.toInt = 2 := by rw [qk2]; rfl
  obtain ⟨k7, qk7⟩ : ∃ z : Int32, z = 7 := ⟨_, rfl⟩
  have ek7 : k7.toInt = 7 := by rw [qk7]; rfl
  obtain ⟨k30, qk30⟩ : ∃ z : Int32, z = 30 := ⟨_, rfl⟩
  have ek30 : k30.toInt = 30 := by rw [qk30]; rfl
  obtain ⟨j0, qj0⟩ : ∃ z : Int64, z = 0 := ⟨_, rfl⟩
  have ej0 : j0.toInt = 0 := by rw [qj0]; rfl
  obtain ⟨j3, qj3⟩ : ∃ z : Int64, z = 3 := ⟨_, rfl⟩
  have ej3 : j3.toInt = 3 := by rw [qj3]; rfl
  have rg1 := n_rng a1
  have key : ∀ n : Nat, (∀ (t : oS) (x2 : Int32) (x3 : Int32), (0 ≤ x3.toInt ∧ x3.toInt ≤ 30) → (0 ≤ a1.toInt ∧ a1.toInt ≤ 3) → 20000 - x3.toInt ≤ (n : Int) → J t 41 [(0, .ref (oad E 71)), (1, .int a1), (2, .int x2), (3, .int x3)] []) ∧ (∀ (t : oS) (x2 : Int32) (x3 : Int32), (0 ≤ x3.toInt ∧ x3.toInt ≤ 4500) → (0 ≤ a1.toInt ∧ a1.toInt ≤ 3) → 10000 - x3.toInt ≤ (n : Int) → J t 62 [(0, .ref (oad E 71)), (1, .int a1), (2, .int x2), (3, .int x3)] []) ∧ (∀ (t : oS) (x2 : Int32) (x3 : Int32) (x4 : Int32), (0 ≤ x3.toInt ∧ x3.toInt ≤ 29) → (1 ≤ x4.toInt ∧ x4.toInt ≤ 30) → (0 ≤ a1.toInt ∧ a1.toInt ≤ 3) → 100 - x4.toInt ≤ (n : Int) → J t 118 [(0, .ref (oad E 71)), (1, .int a1), (2, .int x2), (3, .int x3), (4, .int x4)] []) := by
    intro n
    induction n using Nat.strongRecOn with
    | _ n ih =>
      refine ⟨?_, ?_, ?_⟩
      · intro t x2 x3  iv0 iv1 hmu
        have rx2 := n_rng x2
        have rx3 := n_rng x3
        refine r_iload_n C (j := 3) (oDec_at oX12_common 23 rfl) rfl rfl ?_
        refine r_bipush C (oDec_at oX12_common 24 rfl) (v := k30) (by rw [qk30]; rfl) ?_
        refine r_icmp_ge C 60 (oDec_at oX12_common 25 rfl) (by decide) (fun cd1 => ?_) (fun cd1 => ?_)
        · skip
          refine r_iconst C (oDec_at oX12_common 33 rfl) (v := k0) (by rw [qk0]; rfl) ?_
          refine r_istore_n C (lv' := [(0, .ref (oad E 71)), (1, .int a1), (2, .int x2), (3, .int k0)]) [1, 2, 3, 0] (oDec_at oX12_common 34 rfl) rfl (by decide) rfl ?_
          exact (ih (n - 1) (by omega)).2.1 (t) x2 k0  (by omega) (by omega) (by omega)
        · skip
          refine r_aload_n C (j := 0) (oDec_at oX12_common 26 rfl) rfl rfl ?_
          refine r_getF (k := 74) (b := 113) C oCl12 rfl (by decide) flX12_155 rfl rfl rfl (oDec_at oX12_common 27 rfl) ?_
          refine r_iload_n C (j := 3) (oDec_at oX12_common 28 rfl) rfl rfl ?_
          refine r_iconst C (oDec_at oX12_common 29 rfl) (v := k0) (by rw [qk0]; rfl) ?_
          refine r_iast (n := 30) (lo := (-2147483648)) (hi := 2147483647) C rfl (by decide) rfl rfl ⟨by omega, by omega⟩ (by decide) rfl rfl rfl rfl (n_rng _) (oDec_at oX12_common 30 rfl) ?_
          obtain ⟨v2, ev2⟩ : ∃ z : Int32, x3 + Int32.ofInt 1 = z := ⟨_, rfl⟩
          have hv2 : v2.toInt = x3.toInt + 1 := n_inc ev2 (by decide) (by omega) (by omega)
          refine r_iinc C (j := 3) (lv' := [(0, .ref (oad E 71)), (1, .int a1), (2, .int x2), (3, .int v2)]) v2 [1, 2, 3, 0] (oDec_at oX12_common 31 rfl) rfl ev2 (by decide) rfl ?_
          refine r_pc C 57 rfl ?_
          refine r_goto C (tgt := 41) (oDec_at oX12_common 32 rfl) (by decide) ?_
          exact (ih (n - 1) (by omega)).1 ((pI t 113 x3.toNatClampNeg k0)) x2 v2  (by omega) (by omega) (by omega)
      · intro t x2 x3  iv0 iv1 hmu
        have rx2 := n_rng x2
        have rx3 := n_rng x3
        refine r_iload_n C (j := 3) (oDec_at oX12_common 35 rfl) rfl rfl ?_
        refine r_aload_n C (j := 0) (oDec_at oX12_common 36 rfl) rfl rfl ?_
        obtain ⟨v3, ev3⟩ : ∃ z : Int32, (t).1 71 71 = z := ⟨_, rfl⟩
        have gv3 : (t.1 71 71).toInt = v3.toInt := congrArg Int32.toInt (ev3)
        refine r_geti (k := 71) (lo := 0) (hi := 4500) C v3 oCl12 rfl (by decide) flX12_482 rfl rfl (ev3) rfl rfl (oDec_at oX12_common 37 rfl) (fun b4 b4h => ?_)
        refine r_icmp_ge C 113 (oDec_at oX12_common 38 rfl) (by decide) (fun cd5 => ?_) (fun cd5 => ?_)
        · skip
          refine r_iconst C (oDec_at oX12_common 63 rfl) (v := k0) (by rw [qk0]; rfl) ?_
          refine r_istore_n C (lv' := [(0, .ref (oad E 71)), (1, .int a1), (2, .int x2), (3, .int k0)]) [1, 2, 3, 0] (oDec_at oX12_common 64 rfl) rfl (by decide) rfl ?_
          refine r_iconst C (oDec_at oX12_common 65 rfl) (v := k1) (by rw [qk1]; rfl) ?_
          refine r_istore C (lv' := [(0, .ref (oad E 71)), (1, .int a1), (2, .int x2), (3, .int k0), (4, .int k1)]) [1, 2, 3, 4, 0] (oDec_at oX12_common 66 rfl) (by decide) rfl ?_
          exact (ih (n - 1) (by omega)).2.2 (t) x2 k0 k1  (by omega) (by omega) (by omega) (by omega)
        · skip
          refine r_aload_n C (j := 0) (oDec_at oX12_common 39 rfl) rfl rfl ?_
          refine r_getF (k := 74) (b := 113) C oCl12 rfl (by decide) flX12_155 rfl rfl rfl (oDec_at oX12_common 40 rfl) ?_
          refine r_iload_n C (j := 2) (oDec_at oX12_common 41 rfl) rfl rfl ?_
          refine r_if_eq C 90 (oDec_at oX12_common 42 rfl) (by decide) (fun cd6 => ?_) (fun cd6 => ?_)
          · skip
            refine r_aload_n C (j := 0) (oDec_at oX12_common 49 rfl) rfl rfl ?_
            refine r_getF (k := 70) (b := 110) C oCl12 rfl (by decide) flX12_145 rfl rfl rfl (oDec_at oX12_common 50 rfl) ?_
            refine r_iload_n C (j := 3) (oDec_at oX12_common 51 rfl) rfl rfl ?_
            obtain ⟨v8, ev8⟩ : ∃ z : Int32, (t).1 110 x3.toNatClampNeg = z := ⟨_, rfl⟩
            have gv8 : (t.1 110 x3.toNatClampNeg).toInt = v8.toInt := congrArg Int32.toInt (ev8)
            refine r_iald (n := 4500) (lo := 0) (hi := 4499) C v8 rfl (by decide) rfl rfl ⟨by omega, by omega⟩ (by decide) ev8 rfl rfl (oDec_at oX12_common 52 rfl) (fun b7 b7h => ?_)
            refine r_callSi C miX12_highOf mlX12_402 (ct_X12_highOf l E (t) v8 (by omega)) (by decide) rfl rfl rfl (Nat.le_of_ble_eq_true rfl) (oDec_at oX12_common 53 rfl) (fun r10 u9 pu9 fu9 => ?_)
            try dsimp only at pu9
            obtain ⟨pu9_0, pu9_1⟩ := pu9
            have hxu9 := oFr_nil fu9; subst hxu9
            have rr10 := n_rng r10
            refine r_bipush C (oDec_at oX12_common 54 rfl) (v := k7) (by rw [qk7]; rfl) ?_
            refine r_pc C 101 rfl ?_
            obtain ⟨v11, ev11⟩ : ∃ z : Int32, z = r10 + k7 := ⟨_, rfl⟩
            have hv11 : v11.toInt = r10.toInt + k7.toInt := n_add ev11 (by omega) (by omega)
            refine r_iadd C v11 (oDec_at oX12_common 55 rfl) ev11 ?_
            refine r_dup2 C (oDec_at oX12_common 56 rfl) rfl rfl ?_
            obtain ⟨v13, ev13⟩ : ∃ z : Int32, (t).1 113 v11.toNatClampNeg = z := ⟨_, rfl⟩
            have gv13 : (t.1 113 v11.toNatClampNeg).toInt = v13.toInt := congrArg Int32.toInt (ev13)
            have rv13 := n_rng v13
            refine r_iald (n := 30) (lo := (-2147483648)) (hi := 2147483647) C v13 rfl (by decide) rfl rfl ⟨by omega, by omega⟩ (by decide) ev13 rfl rfl (oDec_at oX12_common 57 rfl) (fun _ _ => ?_)
            refine r_iconst C (oDec_at oX12_common 58 rfl) (v := k1) (by rw [qk1]; rfl) ?_
            obtain ⟨v14, ev14⟩ : ∃ z : Int32, z = v13 + k1 := ⟨_, rfl⟩
            have rv14 := n_rng v14
            refine r_iadd C v14 (oDec_at oX12_common 59 rfl) ev14 ?_
            refine r_iast (n := 30) (lo := (-2147483648)) (hi := 2147483647) C rfl (by decide) rfl rfl ⟨by omega, by omega⟩ (by decide) rfl rfl rfl rfl (n_rng _) (oDec_at oX12_common 60 rfl) ?_
            refine r_pc C 107 rfl ?_
            obtain ⟨v15, ev15⟩ : ∃ z : Int32, x3 + Int32.ofInt 1 = z := ⟨_, rfl⟩
            have hv15 : v15.toInt = x3.toInt + 1 := n_inc ev15 (by decide) (by omega) (by omega)
            refine r_iinc C (j := 3) (lv' := [(0, .ref (oad E 71)), (1, .int a1), (2, .int x2), (3, .int v15)]) v15 [1, 2, 3, 0] (oDec_at oX12_common 61 rfl) rfl ev15 (by decide) rfl ?_
            refine r_goto C (tgt := 62) (oDec_at oX12_common 62 rfl) (by decide) ?_
            exact (ih (n - 1) (by omega)).2.1 ((pI t 113 v11.toNatClampNeg v14)) x2 v15  (by omega) (by omega) (by omega)
          · skip
            refine r_aload_n C (j := 0) (oDec_at oX12_common 43 rfl) rfl rfl ?_
            refine r_getF (k := 70) (b := 110) C oCl12 rfl (by decide) flX12_145 rfl rfl rfl (oDec_at oX12_common 44 rfl) ?_
            refine r_iload_n C (j := 3) (oDec_at oX12_common 45 rfl) rfl rfl ?_
            obtain ⟨v17, ev17⟩ : ∃ z : Int32, (t).1 110 x3.toNatClampNeg = z := ⟨_, rfl⟩
            have gv17 : (t.1 110 x3.toNatClampNeg).toInt = v17.toInt := congrArg Int32.toInt (ev17)
            refine r_iald (n := 4500) (lo := 0) (hi := 4499) C v17 rfl (by decide) rfl rfl ⟨by omega, by omega⟩ (by decide) ev17 rfl rfl (oDec_at oX12_common 46 rfl) (fun b16 b16h => ?_)
            refine r_callSi C miX12_delayOf mlX12_389 (ct_X12_delayOf l E (t) v17 (by omega)) (by decide) rfl rfl rfl (Nat.le_of_ble_eq_true rfl) (oDec_at oX12_common 47 rfl) (fun r19 u18 pu18 fu18 => ?_)
            try dsimp only at pu18
            have hxu18 := oFr_nil fu18; subst hxu18
            have rr19 := n_rng r19
            refine r_goto C (tgt := 102) (oDec_at oX12_common 48 rfl) (by decide) ?_
            refine r_dup2 C (oDec_at oX12_common 56 rfl) rfl rfl ?_
            refine r_pc C 103 rfl ?_
            obtain ⟨v21, ev21⟩ : ∃ z : Int32, (t).1 113 r19.toNatClampNeg = z := ⟨_, rfl⟩
            have gv21 : (t.1 113 r19.toNatClampNeg).toInt = v21.toInt := congrArg Int32.toInt (ev21)
            have rv21 := n_rng v21
            refine r_iald (n := 30) (lo := (-2147483648)) (hi := 2147483647) C v21 rfl (by decide) rfl rfl ⟨by omega, by omega⟩ (by decide) ev21 rfl rfl (oDec_at oX12_common 57 rfl) (fun _ _ => ?_)
            refine r_iconst C (oDec_at oX12_common 58 rfl) (v := k1) (by rw [qk1]; rfl) ?_
            obtain ⟨v22, ev22⟩ : ∃ z : Int32, z = v21 + k1 := ⟨_, rfl⟩
            have rv22 := n_rng v22
            refine r_iadd C v22 (oDec_at oX12_common 59 rfl) ev22 ?_
            refine r_iast (n := 30) (lo := (-2147483648)) (hi := 2147483647) C rfl (by decide) rfl rfl ⟨by omega, by omega⟩ (by decide) rfl rfl rfl rfl (n_rng _) (oDec_at oX12_common 60 rfl) ?_
            obtain ⟨v23, ev23⟩ : ∃ z : Int32, x3 + Int32.ofInt 1 = z := ⟨_, rfl⟩
            have hv23 : v23.toInt = x3.toInt + 1 := n_inc ev23 (by decide) (by omega) (by omega)
            refine r_iinc C (j := 3) (lv' := [(0, .ref (oad E 71)), (1, .int a1), (2, .int x2), (3, .int v23)]) v23 [1, 2, 3, 0] (oDec_at oX12_common 61 rfl) rfl ev23 (by decide) rfl ?_
            refine r_goto C (tgt := 62) (oDec_at oX12_common 62 rfl) (by decide) ?_
            exact (ih (n - 1) (by omega)).2.1 ((pI t 113 r19.toNatClampNeg v22)) x2 v23  (by omega) (by omega) (by omega)
      · intro t x2 x3 x4  iv0 iv1 iv2 hmu
        have rx2 := n_rng x2
        have rx3 := n_rng x3
        have rx4 := n_rng x4
        refine r_iload C (j := 4) (oDec_at oX12_common 67 rfl) rfl ?_
        refine r_bipush C (oDec_at oX12_common 68 rfl) (v := k30) (by rw [qk30]; rfl) ?_
        refine r_icmp_ge C 150 (oDec_at oX12_common 69 rfl) (by decide) (fun cd24 => ?_) (fun cd24 => ?_)
        · skip
          refine r_iload_n C (j := 1) (oDec_at oX12_common 83 rfl) rfl rfl ?_
          refine r_iconst C (oDec_at oX12_common 84 rfl) (v := k1) (by rw [qk1]; rfl) ?_
          refine r_icmp_le C 164 (oDec_at oX12_common 85 rfl) (by decide) (fun cd25 => ?_) (fun cd25 => ?_)
          · skip
            refine r_iload_n C (j := 2) (oDec_at oX12_common 91 rfl) rfl rfl ?_
            refine r_if_eq C 172 (oDec_at oX12_common 92 rfl) (by decide) (fun cd26 => ?_) (fun cd26 => ?_)
            · skip
              refine r_iload_n C (j := 3) (oDec_at oX12_common 95 rfl) rfl rfl ?_
              refine r_bipush C (oDec_at oX12_common 96 rfl) (v := k7) (by rw [qk7]; rfl) ?_
              obtain ⟨v27, ev27⟩ : ∃ z : Int32, z = x3 - k7 := ⟨_, rfl⟩
              have hv27 : v27.toInt = x3.toInt - k7.toInt := n_sub ev27 (by omega) (by omega)
              refine r_isub C v27 (oDec_at oX12_common 97 rfl) ev27 ?_
              exact r_iret C (oDec_at oX12_common 98 rfl) ⟨_, rfl, trivial⟩
            · skip
              refine r_iload_n C (j := 3) (oDec_at oX12_common 93 rfl) rfl rfl ?_
              refine r_goto C (tgt := 176) (oDec_at oX12_common 94 rfl) (by decide) ?_
              exact r_iret C (oDec_at oX12_common 98 rfl) ⟨_, rfl, trivial⟩
          · skip
            refine r_aload_n C (j := 0) (oDec_at oX12_common 86 rfl) rfl rfl ?_
            refine r_getF (k := 74) (b := 113) C oCl12 rfl (by decide) flX12_155 rfl rfl rfl (oDec_at oX12_common 87 rfl) ?_
            refine r_iload_n C (j := 3) (oDec_at oX12_common 88 rfl) rfl rfl ?_
            obtain ⟨v29, ev29⟩ : ∃ z : Int32, (t).1 113 x3.toNatClampNeg = z := ⟨_, rfl⟩
            have gv29 : (t.1 113 x3.toNatClampNeg).toInt = v29.toInt := congrArg Int32.toInt (ev29)
            have rv29 := n_rng v29
            refine r_iald (n := 30) (lo := (-2147483648)) (hi := 2147483647) C v29 rfl (by decide) rfl rfl ⟨by omega, by omega⟩ (by decide) ev29 rfl rfl (oDec_at oX12_common 89 rfl) (fun _ _ => ?_)
            refine r_goto C (tgt := 176) (oDec_at oX12_common 90 rfl) (by decide) ?_
            exact r_iret C (oDec_at oX12_common 98 rfl) ⟨_, rfl, trivial⟩
        · skip
          refine r_aload_n C (j := 0) (oDec_at oX12_common 70 rfl) rfl rfl ?_
          refine r_getF (k := 74) (b := 113) C oCl12 rfl (by decide) flX12_155 rfl rfl rfl (oDec_at oX12_common 71 rfl) ?_
          refine r_iload C (j := 4) (oDec_at oX12_common 72 rfl) rfl ?_
          obtain ⟨v31, ev31⟩ : ∃ z : Int32, (t).1 113 x4.toNatClampNeg = z := ⟨_, rfl⟩
          have gv31 : (t.1 113 x4.toNatClampNeg).toInt = v31.toInt := congrArg Int32.toInt (ev31)
          have rv31 := n_rng v31
          refine r_iald (n := 30) (lo := (-2147483648)) (hi := 2147483647) C v31 rfl (by decide) rfl rfl ⟨by omega, by omega⟩ (by decide) ev31 rfl rfl (oDec_at oX12_common 73 rfl) (fun _ _ => ?_)
          refine r_aload_n C (j := 0) (oDec_at oX12_common 74 rfl) rfl rfl ?_
          refine r_getF (k := 74) (b := 113) C oCl12 rfl (by decide) flX12_155 rfl rfl rfl (oDec_at oX12_common 75 rfl) ?_
          refine r_pc C 136 rfl ?_
          refine r_iload_n C (j := 3) (oDec_at oX12_common 76 rfl) rfl rfl ?_
          obtain ⟨v33, ev33⟩ : ∃ z : Int32, (t).1 113 x3.toNatClampNeg = z := ⟨_, rfl⟩
          have gv33 : (t.1 113 x3.toNatClampNeg).toInt = v33.toInt := congrArg Int32.toInt (ev33)
          have rv33 := n_rng v33
          refine r_iald (n := 30) (lo := (-2147483648)) (hi := 2147483647) C v33 rfl (by decide) rfl rfl ⟨by omega, by omega⟩ (by decide) ev33 rfl rfl (oDec_at oX12_common 77 rfl) (fun _ _ => ?_)
          refine r_icmp_le C 144 (oDec_at oX12_common 78 rfl) (by decide) (fun cd34 => ?_) (fun cd34 => ?_)
          · skip
            obtain ⟨v35, ev35⟩ : ∃ z : Int32, x4 + Int32.ofInt 1 = z := ⟨_, rfl⟩
            have hv35 : v35.toInt = x4.toInt + 1 := n_inc ev35 (by decide) (by omega) (by omega)
            refine r_iinc C (j := 4) (lv' := [(0, .ref (oad E 71)), (1, .int a1), (2, .int x2), (3, .int x3), (4, .int v35)]) v35 [1, 2, 3, 4, 0] (oDec_at oX12_common 81 rfl) rfl ev35 (by decide) rfl ?_
            refine r_goto C (tgt := 118) (oDec_at oX12_common 82 rfl) (by decide) ?_
            exact (ih (n - 1) (by omega)).2.2 (t) x2 x3 v35  (by omega) (by omega) (by omega) (by omega)
          · skip
            refine r_iload C (j := 4) (oDec_at oX12_common 79 rfl) rfl ?_
            refine r_istore_n C (lv' := [(0, .ref (oad E 71)), (1, .int a1), (2, .int x2), (3, .int x4), (4, .int x4)]) [1, 2, 3, 0, 4] (oDec_at oX12_common 80 rfl) rfl (by decide) rfl ?_
            obtain ⟨v36, ev36⟩ : ∃ z : Int32, x4 + Int32.ofInt 1 = z := ⟨_, rfl⟩
            have hv36 : v36.toInt = x4.toInt + 1 := n_inc ev36 (by decide) (by omega) (by omega)
            refine r_iinc C (j := 4) (lv' := [(0, .ref (oad E 71)), (1, .int a1), (2, .int x2), (3, .int x4), (4, .int v36)]) v36 [1, 2, 3, 4, 0] (oDec_at oX12_common 81 rfl) rfl ev36 (by decide) rfl ?_
            refine r_goto C (tgt := 118) (oDec_at oX12_common 82 rfl) (by decide) ?_
            exact (ih (n - 1) (by omega)).2.2 (t) x2 x4 v36  (by omega) (by omega) (by omega) (by omega)
  refine r_aload_n C (j := 0) (oDec_at oX12_common 0 rfl) rfl rfl ?_
  refine r_callVv C oCl12 rfl miX12_knows mlX12_490 (ct_X12_knows l E (s)  hp0) (by decide) rfl rfl rfl (Nat.le_of_ble_eq_true rfl) (oDec_at oX12_common 1 rfl) (fun u37 pu37 fu37 => ?_)
  try dsimp only at pu37
  refine r_iload_n C (j := 1) (oDec_at oX12_common 2 rfl) rfl rfl ?_
  obtain ⟨v39, ev39⟩ : ∃ z : Int64, a1.toInt64 = z := ⟨_, rfl⟩
  have hv39 : v39.toInt = a1.toInt := n_i2l ev39
  refine r_i2l C v39 (oDec_at oX12_common 3 rfl) ev39 ?_
  refine r_lconst C (oDec_at oX12_common 4 rfl) (v := j0) (by rw [qj0]; rfl) ?_
  refine r_ldc2 C (v := j3) (by rw [qj3]; exact klX12_528) (oDec_at oX12_common 5 rfl) ?_
  refine r_pc C 10 rfl ?_
  refine r_callSi C miX12_isIn mlX12_216 (ct_X12_isIn l E (u37) v39 j0 j3 ) (by decide) rfl rfl rfl (Nat.le_of_ble_eq_true rfl) (oDec_at oX12_common 6 rfl) (fun r41 u40 pu40 fu40 => ?_)
  try dsimp only at pu40
  obtain ⟨pu40_0, pu40_1⟩ := pu40
  have hxu40 := oFr_nil fu40; subst hxu40
  have rr41 := n_rng r41
  refine r_if_eq C 23 (oDec_at oX12_common 7 rfl) (by decide) (fun cd42 => ?_) (fun cd42 => ?_)
  · skip
    refine r_ldcw C (v := km1000000000) (by rw [qkm1000000000]; exact kcX12_398) (oDec_at oX12_common 11 rfl) ?_
    exact r_iret C (oDec_at oX12_common 12 rfl) ⟨_, rfl, trivial⟩
  · skip
    refine r_aload_n C (j := 0) (oDec_at oX12_common 8 rfl) rfl rfl ?_
    obtain ⟨v43, ev43⟩ : ∃ z : Int32, (u37).1 71 71 = z := ⟨_, rfl⟩
    have gv43 : (u37.1 71 71).toInt = v43.toInt := congrArg Int32.toInt (ev43)
    refine r_geti (k := 71) (lo := 0) (hi := 4500) C v43 oCl12 rfl (by decide) flX12_482 rfl rfl (ev43) rfl rfl (oDec_at oX12_common 9 rfl) (fun b44 b44h => ?_)
    refine r_if_ne C 27 (oDec_at oX12_common 10 rfl) (by decide) (fun cd45 => ?_) (fun cd45 => ?_)
    · skip
      refine r_iload_n C (j := 1) (oDec_at oX12_common 13 rfl) rfl rfl ?_
      refine r_iconst C (oDec_at oX12_common 14 rfl) (v := k2) (by rw [qk2]; rfl) ?_
      obtain ⟨v46, ev46⟩ : ∃ z : Int32, z = a1 - a1 / k2 * k2 := ⟨_, rfl⟩
      have hv46 := n_rem (k := 2) ev46 ek2 (by decide)
      have rv46 := n_rng v46
      refine r_irem C v46 (oDec_at oX12_common 15 rfl) (n_ne0 (by omega)) ev46 ?_
      refine r_if_ne C 37 (oDec_at oX12_common 16 rfl) (by decide) (fun cd47 => ?_) (fun cd47 => ?_)
      · skip
        refine r_iconst C (oDec_at oX12_common 19 rfl) (v := k0) (by rw [qk0]; rfl) ?_
        refine r_istore_n C (lv' := [(0, .ref (oad E 71)), (1, .int a1), (2, .int k0)]) [1, 2, 0] (oDec_at oX12_common 20 rfl) rfl (by decide) rfl ?_
        refine r_iconst C (oDec_at oX12_common 21 rfl) (v := k0) (by rw [qk0]; rfl) ?_
        refine r_istore_n C (lv' := [(0, .ref (oad E 71)), (1, .int a1), (2, .int k0), (3, .int k0)]) [1, 2, 3, 0] (oDec_at oX12_common 22 rfl) rfl (by decide) rfl ?_
        exact (key (20000 - k0.toInt).toNat).1 (u37) k0 k0  (by omega) (by omega) (by omega)
      · skip
        refine r_iconst C (oDec_at oX12_common 17 rfl) (v := k1) (by rw [qk1]; rfl) ?_
        refine r_goto C (tgt := 38) (oDec_at oX12_common 18 rfl) (by decide) ?_
        refine r_istore_n C (lv' := [(0, .ref (oad E 71)), (1, .int a1), (2, .int k1)]) [1, 2, 0] (oDec_at oX12_common 20 rfl) rfl (by decide) rfl ?_
        refine r_iconst C (oDec_at oX12_common 21 rfl) (v := k0) (by rw [qk0]; rfl) ?_
        refine r_istore_n C (lv' := [(0, .ref (oad E 71)), (1, .int a1), (2, .int k1), (3, .int k0)]) [1, 2, 3, 0] (oDec_at oX12_common 22 rfl) rfl (by decide) rfl ?_
        exact (key (20000 - k0.toInt).toNat).1 (u37) k1 k0  (by omega) (by omega) (by omega)
    · skip
      refine r_ldcw C (v := km1000000000) (by rw [qkm1000000000]; exact kcX12_398) (oDec_at oX12_common 11 rfl) ?_
      exact r_iret C (oDec_at oX12_common 12 rfl) ⟨_, rfl, trivial⟩
set_option maxHeartbeats 4000000 in
set_option maxRecDepth 100000 in
theorem ct_X12_over (l : Launch) (E : oE) (s : oS) (a1 : Int32) (a2 : Int32)  (hp0 : oBI s) : oMet l 11 yX12_over cX12_over 7 (some .int) [(12, 58), (12, 60), (12, 61), (12, 62), (12, 63), (12, 65), (12, 69), (12, 71), (84, 9999), (85, 9999), (86, 9999), (87, 9999), (88, 9999)] E s [.ref (oad E 71), .int a1, .int a2] (oPi (fun r u => True)) := by
  refine oMet.of (lv := [(0, .ref (oad E 71)), (1, .int a1), (2, .int a2)]) (by decide +kernel) (Nat.le_of_ble_eq_true rfl) rfl (fun J C hT => ?_)
  have C : oC l 11 cX12_over RX12 7 (some .int) [(12, 58), (12, 60), (12, 61), (12, 62), (12, 63), (12, 65), (12, 69), (12, 71), (84, 9999), (85, 9999), (86, 9999), (87, 9999), (88, 9999)] E s (oPi (fun r u => True)) J := C
  obtain ⟨km1, qkm1⟩ : ∃ z : Int32, z = (-1) := ⟨_, rfl⟩
  have ekm1 : km1.toInt = (-1) := by rw [qkm1]; rfl
  obtain ⟨k0, qk0⟩ : ∃ z : Int32, z = 0 := ⟨_, rfl⟩
  have ek0 : k0.toInt = 0 := by rw [qk0]; rfl
  obtain ⟨k1, qk1⟩ : ∃ z : Int32, z = 1 := ⟨_, rfl⟩
  have ek1 : k1.toInt = 1 := by rw [qk1]; rfl
  have rg1 := n_rng a1
  have rg2 := n_rng a2
  have key : ∀ n : Nat, (∀ (t : oS) (x4 : Int32) (x5 : Int32), (3 ≤ a1.toInt → oPk a1.toInt t) → (a1.toInt = 2 → 0 ≤ (t.1 112 0).toInt ∧ (t.1 112 0).toInt < 4500) → (2 ≤ a1.toInt ∧ a1.toInt ≤ 4) → (0 ≤ x5.toInt ∧ x5.toInt ≤ 3) → 10 - x5.toInt ≤ (n : Int) → J t 27 [(0, .ref (oad E 71)), (1, .int a1), (4, .int x4), (5, .int x5)] []) := by
    intro n
    induction n using Nat.strongRecOn with
    | _ n ih =>
      skip
      · intro t x4 x5  iv0 iv1 iv2 iv3 hmu
        have rx4 := n_rng x4
        have rx5 := n_rng x5
        refine r_iload C (j := 3) (oDec_at oX12_over 17 rfl) rfl ?_
        refine r_iload_n C (j := 1) (oDec_at oX12_over 18 rfl) rfl rfl ?_
        refine r_iconst C (oDec_at oX12_over 19 rfl) (v := k1) (by rw [qk1]; rfl) ?_
        obtain ⟨v1, ev1⟩ : ∃ z : Int32, z = a1 - k1 := ⟨_, rfl⟩
        have hv1 : v1.toInt = a1.toInt - k1.toInt := n_sub ev1 (by omega) (by omega)
        refine r_isub C v1 (oDec_at oX12_over 20 rfl) ev1 ?_
        refine r_icmp_ge C 75 (oDec_at oX12_over 21 rfl) (by decide) (fun cd2 => ?_) (fun cd2 => ?_)
        · skip
          refine r_iload C (j := 2) (oDec_at oX12_over 41 rfl) rfl ?_
          exact r_iret C (oDec_at oX12_over 42 rfl) ⟨_, rfl, trivial⟩
        · skip
          refine r_aload_n C (j := 0) (oDec_at oX12_over 22 rfl) rfl rfl ?_
          refine r_aload_n C (j := 0) (oDec_at oX12_over 23 rfl) rfl rfl ?_
          refine r_getF (k := 70) (b := 110) C oCl12 rfl (by decide) flX12_145 rfl rfl rfl (oDec_at oX12_over 24 rfl) ?_
          refine r_aload_n C (j := 0) (oDec_at oX12_over 25 rfl) rfl rfl ?_
          refine r_getF (k := 73) (b := 112) C oCl12 rfl (by decide) flX12_152 rfl rfl rfl (oDec_at oX12_over 26 rfl) ?_
          refine r_iload C (j := 3) (oDec_at oX12_over 27 rfl) rfl ?_
          refine r_pc C 46 rfl ?_
          obtain ⟨v4, ev4⟩ : ∃ z : Int32, (t).1 112 x5.toNatClampNeg = z := ⟨_, rfl⟩
          have gv4 : (t.1 112 x5.toNatClampNeg).toInt = v4.toInt := congrArg Int32.toInt (ev4)
          have rv4 := n_rng v4
          refine r_iald (n := 3) (lo := (-2147483648)) (hi := 2147483647) C v4 rfl (by decide) rfl rfl ⟨by omega, by omega⟩ (by decide) ev4 rfl rfl (oDec_at oX12_over 28 rfl) (fun _ _ => ?_)
          have hpa := oPk_at (V := a1.toInt) iv0 (by omega) (by omega) ev4 (by omega)
          obtain ⟨v6, ev6⟩ : ∃ z : Int32, (t).1 110 v4.toNatClampNeg = z := ⟨_, rfl⟩
          have gv6 : (t.1 110 v4.toNatClampNeg).toInt = v6.toInt := congrArg Int32.toInt (ev6)
          refine r_iald (n := 4500) (lo := 0) (hi := 4499) C v6 rfl (by decide) rfl rfl ⟨by omega, by omega⟩ (by decide) ev6 rfl rfl (oDec_at oX12_over 29 rfl) (fun b5 b5h => ?_)
          refine r_callVi C oCl12 rfl miX12_overAt mlX12_392 (ct_X12_overAt l E (t) v6 (by omega)) (by decide) rfl rfl rfl (Nat.le_of_ble_eq_true rfl) (oDec_at oX12_over 30 rfl) (fun r8 u7 pu7 fu7 => ?_)
          try dsimp only at pu7
          obtain ⟨pu7_0, pu7_1, pu7_2⟩ := pu7
          have hxu7 := oFr_nil fu7; subst hxu7
          have rr8 := n_rng r8
          refine r_istore C (lv' := [(0, .ref (oad E 71)), (1, .int a1), (4, .int x4), (5, .int x5), (6, .int r8)]) [1, 2, 3, 4, 0] (oDec_at oX12_over 31 rfl) (by decide) rfl ?_
          refine r_iload C (j := 4) (oDec_at oX12_over 32 rfl) rfl ?_
          refine r_iload C (j := 2) (oDec_at oX12_over 33 rfl) rfl ?_
          refine r_pc C 57 rfl ?_
          refine r_icmp_le C 65 (oDec_at oX12_over 34 rfl) (by decide) (fun cd9 => ?_) (fun cd9 => ?_)
          · skip
            refine r_iload C (j := 2) (oDec_at oX12_over 37 rfl) rfl ?_
            refine r_istore C (lv' := [(0, .ref (oad E 71)), (1, .int a1), (4, .int x4), (5, .int x5), (6, .int r8)]) [1, 2, 0, 3, 4] (oDec_at oX12_over 38 rfl) (by decide) rfl ?_
            obtain ⟨v10, ev10⟩ : ∃ z : Int32, x5 + Int32.ofInt 1 = z := ⟨_, rfl⟩
            have hv10 : v10.toInt = x5.toInt + 1 := n_inc ev10 (by decide) (by omega) (by omega)
            refine r_iinc C (j := 3) (lv' := [(0, .ref (oad E 71)), (1, .int a1), (4, .int x4), (5, .int v10), (6, .int r8)]) v10 [1, 2, 3, 0, 4] (oDec_at oX12_over 39 rfl) rfl ev10 (by decide) rfl ?_
            refine r_goto C (tgt := 27) (oDec_at oX12_over 40 rfl) (by decide) ?_
            refine r_pick C [0, 1, 2, 3] rfl ?_
            exact (ih (n - 1) (by omega)) (t) x4 v10  (by first | exact iv0 | exact fun h3 => (by assumption) ((by assumption) (by omega) h3) h3) (by first | exact iv1 | omega) (by omega) (by omega) (by omega)
          · skip
            refine r_iload C (j := 4) (oDec_at oX12_over 35 rfl) rfl ?_
            refine r_goto C (tgt := 67) (oDec_at oX12_over 36 rfl) (by decide) ?_
            refine r_istore C (lv' := [(0, .ref (oad E 71)), (1, .int a1), (4, .int r8), (5, .int x5), (6, .int r8)]) [1, 2, 0, 3, 4] (oDec_at oX12_over 38 rfl) (by decide) rfl ?_
            obtain ⟨v11, ev11⟩ : ∃ z : Int32, x5 + Int32.ofInt 1 = z := ⟨_, rfl⟩
            have hv11 : v11.toInt = x5.toInt + 1 := n_inc ev11 (by decide) (by omega) (by omega)
            refine r_iinc C (j := 3) (lv' := [(0, .ref (oad E 71)), (1, .int a1), (4, .int r8), (5, .int v11), (6, .int r8)]) v11 [1, 2, 3, 0, 4] (oDec_at oX12_over 39 rfl) rfl ev11 (by decide) rfl ?_
            refine r_goto C (tgt := 27) (oDec_at oX12_over 40 rfl) (by decide) ?_
            refine r_pick C [0, 1, 2, 3] rfl ?_
            exact (ih (n - 1) (by omega)) (t) r8 v11  (by first | exact iv0 | exact fun h3 => (by assumption) ((by assumption) (by omega) h3) h3) (by first | exact iv1 | omega) (by omega) (by omega) (by omega)
  refine r_aload_n C (j := 0) (oDec_at oX12_over 0 rfl) rfl rfl ?_
  refine r_iload_n C (j := 1) (oDec_at oX12_over 1 rfl) rfl rfl ?_
  refine r_iload_n C (j := 2) (oDec_at oX12_over 2 rfl) rfl rfl ?_
  refine r_callVi C oCl12 rfl miX12_isWayOf mlX12_498 (ct_X12_isWayOf l E (s) a1 a2 hp0) (by decide) rfl rfl rfl (Nat.le_of_ble_eq_true rfl) (oDec_at oX12_over 3 rfl) (fun r13 u12 pu12 fu12 => ?_)
  try dsimp only at pu12
  obtain ⟨pu12_0, pu12_1, pu12_2⟩ := pu12
  have rr13 := n_rng r13
  refine r_if_ne C 11 (oDec_at oX12_over 4 rfl) (by decide) (fun cd14 => ?_) (fun cd14 => ?_)
  · skip
    replace pu12_1 := pu12_1 (by omega)
    refine r_aload_n C (j := 0) (oDec_at oX12_over 7 rfl) rfl rfl ?_
    refine r_iload_n C (j := 1) (oDec_at oX12_over 8 rfl) rfl rfl ?_
    refine r_iload_n C (j := 2) (oDec_at oX12_over 9 rfl) rfl rfl ?_
    refine r_callVi C oCl12 rfl miX12_picks mlX12_495 (ct_X12_picks l E (u12) a1 a2 (oBI_fr fu12 rfl hp0) (by omega) (by omega)) (by decide) rfl rfl rfl (Nat.le_of_ble_eq_true rfl) (oDec_at oX12_over 10 rfl) (fun r16 u15 pu15 fu15 => ?_)
    try dsimp only at pu15
    obtain ⟨pu15_0, pu15_1, pu15_2, pu15_3⟩ := pu15
    have rr16 := n_rng r16
    refine r_istore_n C (lv' := [(0, .ref (oad E 71)), (1, .int a1), (2, .int a2), (3, .int r16)]) [1, 2, 3, 0] (oDec_at oX12_over 11 rfl) rfl (by decide) rfl ?_
    refine r_aload_n C (j := 0) (oDec_at oX12_over 12 rfl) rfl rfl ?_
    refine r_pc C 19 rfl ?_
    obtain ⟨v17, ev17⟩ : ∃ z : Int32, (u15).1 71 42 = z := ⟨_, rfl⟩
    have gv17 : (s.1 71 42).toInt = v17.toInt := congrArg Int32.toInt ((((fu15 71 42 rfl).1).trans ((fu12 71 42 rfl).1)).symm.trans ev17)
    have ggv17 : ((u15).1 71 42).toInt = v17.toInt := congrArg Int32.toInt ev17
    refine r_geti (k := 42) (lo := 0) (hi := 96) C v17 oCl12 rfl (by decide) flX12_267 rfl rfl (ev17) rfl rfl (oDec_at oX12_over 13 rfl) (fun b18 b18h => ?_)
    refine r_istore C (lv' := [(0, .ref (oad E 71)), (1, .int a1), (2, .int a2), (3, .int r16), (4, .int v17)]) [1, 2, 3, 4, 0] (oDec_at oX12_over 14 rfl) (by decide) rfl ?_
    refine r_iconst C (oDec_at oX12_over 15 rfl) (v := k0) (by rw [qk0]; rfl) ?_
    refine r_istore C (lv' := [(0, .ref (oad E 71)), (1, .int a1), (2, .int a2), (3, .int r16), (4, .int v17), (5, .int k0)]) [1, 2, 3, 4, 5, 0] (oDec_at oX12_over 16 rfl) (by decide) rfl ?_
    refine r_pick C [0, 1, 4, 5] rfl ?_
    exact (key (10 - k0.toInt).toNat) (u15) v17 k0  (by first | exact fun h3 => pu15_1 (pu12_2 (by omega) h3) h3) (by first | omega) (by omega) (by omega) (by omega)
  · skip
    clear pu12_1
    refine r_iconst C (oDec_at oX12_over 5 rfl) (v := km1) (by rw [qkm1]; rfl) ?_
    exact r_iret C (oDec_at oX12_over 6 rfl) ⟨_, rfl, trivial⟩
set_option maxHeartbeats 4000000 in
set_option maxRecDepth 100000 in
theorem ct_X12_alikeTo (l : Launch) (E : oE) (s : oS) (a1 : Int32)  (hp0 : 0 ≤ a1.toInt ∧ a1.toInt < 4500) : oMet l 6 yX12_alikeTo cX12_alikeTo 3 (some .int) [] E s [.ref (oad E 71), .int a1] (oPi (fun r u => (0 ≤ r.toInt ∧ r.toInt ≤ a1.toInt))) := by
  refine oMet.of (lv := [(0, .ref (oad E 71)), (1, .int a1)]) (by decide +kernel) (Nat.le_of_ble_eq_true rfl) rfl (fun J C hT => ?_)
  have C : oC l 6 cX12_alikeTo RX12 3 (some .int) [] E s (oPi (fun r u => (0 ≤ r.toInt ∧ r.toInt ≤ a1.toInt))) J := C
  obtain ⟨k0, qk0⟩ : ∃ z : Int32, z = 0 := ⟨_, rfl⟩
  have ek0 : k0.toInt = 0 := by rw [qk0]; rfl
  have rg1 := n_rng a1
  have key : ∀ n : Nat, (∀ (t : oS) (x2 : Int32), (0 ≤ x2.toInt ∧ x2.toInt ≤ a1.toInt) → (a1.toInt < 4500) → a1.toInt - x2.toInt + 1 ≤ (n : Int) → J t 2 [(0, .ref (oad E 71)), (1, .int a1), (2, .int x2)] []) := by
    intro n
    induction n using Nat.strongRecOn with
    | _ n ih =>
      skip
      · intro t x2  iv0 iv1 hmu
        have rx2 := n_rng x2
        refine r_aload_n C (j := 0) (oDec_at oX12_alikeTo 2 rfl) rfl rfl ?_
        refine r_aload_n C (j := 0) (oDec_at oX12_alikeTo 3 rfl) rfl rfl ?_
        refine r_getF (k := 70) (b := 110) C oCl12 rfl (by decide) flX12_145 rfl rfl rfl (oDec_at oX12_alikeTo 4 rfl) ?_
        refine r_iload_n C (j := 2) (oDec_at oX12_alikeTo 5 rfl) rfl rfl ?_
        obtain ⟨v2, ev2⟩ : ∃ z : Int32, (t).1 110 x2.toNatClampNeg = z := ⟨_, rfl⟩
        have gv2 : (t.1 110 x2.toNatClampNeg).toInt = v2.toInt := congrArg Int32.toInt (ev2)
        refine r_iald (n := 4500) (lo := 0) (hi := 4499) C v2 rfl (by decide) rfl rfl ⟨by omega, by omega⟩ (by decide) ev2 rfl rfl (oDec_at oX12_alikeTo 6 rfl) (fun b1 b1h => ?_)
        refine r_aload_n C (j := 0) (oDec_at oX12_alikeTo 7 rfl) rfl rfl ?_
        refine r_pc C 10 rfl ?_
        refine r_getF (k := 70) (b := 110) C oCl12 rfl (by decide) flX12_145 rfl rfl rfl (oDec_at oX12_alikeTo 8 rfl) ?_
        refine r_iload_n C (j := 1) (oDec_at oX12_alikeTo 9 rfl) rfl rfl ?_
        obtain ⟨v4, ev4⟩ : ∃ z : Int32, (t).1 110 a1.toNatClampNeg = z := ⟨_, rfl⟩
        have gv4 : (t.1 110 a1.toNatClampNeg).toInt = v4.toInt := congrArg Int32.toInt (ev4)
        refine r_iald (n := 4500) (lo := 0) (hi := 4499) C v4 rfl (by decide) rfl rfl ⟨by omega, by omega⟩ (by decide) ev4 rfl rfl (oDec_at oX12_alikeTo 10 rfl) (fun b3 b3h => ?_)
        have hsm := oIxS ev2 ev4
        refine r_callVi C oCl12 rfl miX12_areAlike mlX12_530 (ct_X12_areAlike l E (t) v2 v4 (by omega) (by omega)) (by decide) rfl rfl rfl (Nat.le_of_ble_eq_true rfl) (oDec_at oX12_alikeTo 11 rfl) (fun r6 u5 pu5 fu5 => ?_)
        try dsimp only at pu5
        obtain ⟨pu5_0, pu5_1⟩ := pu5
        have hxu5 := oFr_nil fu5; subst hxu5
        have rr6 := n_rng r6
        refine r_if_ne C 27 (oDec_at oX12_alikeTo 12 rfl) (by decide) (fun cd7 => ?_) (fun cd7 => ?_)
        · skip
          refine r_iload_n C (j := 2) (oDec_at oX12_alikeTo 15 rfl) rfl rfl ?_
          exact r_iret C (oDec_at oX12_alikeTo 16 rfl) ⟨_, rfl, by omega⟩
        · skip
          obtain ⟨v8, ev8⟩ : ∃ z : Int32, x2 + Int32.ofInt 1 = z := ⟨_, rfl⟩
          have hv8 : v8.toInt = x2.toInt + 1 := n_inc ev8 (by decide) (by omega) (by omega)
          refine r_iinc C (j := 2) (lv' := [(0, .ref (oad E 71)), (1, .int a1), (2, .int v8)]) v8 [1, 2, 0] (oDec_at oX12_alikeTo 13 rfl) rfl ev8 (by decide) rfl ?_
          refine r_goto C (tgt := 2) (oDec_at oX12_alikeTo 14 rfl) (by decide) ?_
          exact (ih (n - 1) (by omega)) (t) v8  (by omega) (by omega) (by omega)
  refine r_iconst C (oDec_at oX12_alikeTo 0 rfl) (v := k0) (by rw [qk0]; rfl) ?_
  refine r_istore_n C (lv' := [(0, .ref (oad E 71)), (1, .int a1), (2, .int k0)]) [1, 2, 0] (oDec_at oX12_alikeTo 1 rfl) rfl (by decide) rfl ?_
  exact (key (a1.toInt - k0.toInt + 1).toNat) (s) k0  (by omega) (by omega) (by omega)
set_option maxHeartbeats 4000000 in
set_option maxRecDepth 100000 in
theorem ct_X12_alike (l : Launch) (E : oE) (s : oS) (a1 : Int32)  (hp0 : oBI s) : oMet l 10 yX12_alike cX12_alike 2 (some .int) [(12, 58), (12, 60), (12, 61), (12, 62), (12, 63), (12, 65), (12, 69), (12, 71), (84, 9999), (85, 9999), (86, 9999), (87, 9999)] E s [.ref (oad E 71), .int a1] (oPi (fun r u => True)) := by
  refine oMet.of (lv := [(0, .ref (oad E 71)), (1, .int a1)]) (by decide +kernel) (Nat.le_of_ble_eq_true rfl) rfl (fun J C hT => ?_)
  have C : oC l 10 cX12_alike RX12 2 (some .int) [(12, 58), (12, 60), (12, 61), (12, 62), (12, 63), (12, 65), (12, 69), (12, 71), (84, 9999), (85, 9999), (86, 9999), (87, 9999)] E s (oPi (fun r u => True)) J := C
  obtain ⟨km1, qkm1⟩ : ∃ z : Int32, z = (-1) := ⟨_, rfl⟩
  have ekm1 : km1.toInt = (-1) := by rw [qkm1]; rfl
  have rg1 := n_rng a1
  refine r_aload_n C (j := 0) (oDec_at oX12_alike 0 rfl) rfl rfl ?_
  refine r_iload_n C (j := 1) (oDec_at oX12_alike 1 rfl) rfl rfl ?_
  refine r_callVi C oCl12 rfl miX12_isWay mlX12_505 (ct_X12_isWay l E (s) a1 hp0) (by decide) rfl rfl rfl (Nat.le_of_ble_eq_true rfl) (oDec_at oX12_alike 2 rfl) (fun r2 u1 pu1 fu1 => ?_)
  try dsimp only at pu1
  obtain ⟨pu1_0, pu1_1⟩ := pu1
  have rr2 := n_rng r2
  refine r_if_eq C 16 (oDec_at oX12_alike 3 rfl) (by decide) (fun cd3 => ?_) (fun cd3 => ?_)
  · skip
    clear pu1_1
    refine r_iconst C (oDec_at oX12_alike 8 rfl) (v := km1) (by rw [qkm1]; rfl) ?_
    exact r_iret C (oDec_at oX12_alike 9 rfl) ⟨_, rfl, trivial⟩
  · skip
    replace pu1_1 := pu1_1 (by omega)
    refine r_aload_n C (j := 0) (oDec_at oX12_alike 4 rfl) rfl rfl ?_
    refine r_iload_n C (j := 1) (oDec_at oX12_alike 5 rfl) rfl rfl ?_
    refine r_callVi C oCl12 rfl miX12_alikeTo mlX12_533 (ct_X12_alikeTo l E (u1) a1 (by omega)) (by decide) rfl rfl rfl (Nat.le_of_ble_eq_true rfl) (oDec_at oX12_alike 6 rfl) (fun r5 u4 pu4 fu4 => ?_)
    try dsimp only at pu4
    have hxu4 := oFr_nil fu4; subst hxu4
    have rr5 := n_rng r5
    refine r_goto C (tgt := 17) (oDec_at oX12_alike 7 rfl) (by decide) ?_
    exact r_iret C (oDec_at oX12_alike 9 rfl) ⟨_, rfl, trivial⟩
set_option maxHeartbeats 4000000 in
set_option maxRecDepth 100000 in
theorem ct_X12_unlike (l : Launch) (E : oE) (s : oS)   (hp0 : oBI s) : oMet l 9 yX12_unlike cX12_unlike 3 (some .int) [(12, 58), (12, 60), (12, 61), (12, 62), (12, 63), (12, 65), (12, 69), (12, 71), (84, 9999), (85, 9999), (86, 9999), (87, 9999)] E s [.ref (oad E 71)] (oPi (fun r u => True)) := by
  refine oMet.of (lv := [(0, .ref (oad E 71))]) (by decide +kernel) (Nat.le_of_ble_eq_true rfl) rfl (fun J C hT => ?_)
  have C : oC l 9 cX12_unlike RX12 3 (some .int) [(12, 58), (12, 60), (12, 61), (12, 62), (12, 63), (12, 65), (12, 69), (12, 71), (84, 9999), (85, 9999), (86, 9999), (87, 9999)] E s (oPi (fun r u => True)) J := C
  obtain ⟨k0, qk0⟩ : ∃ z : Int32, z = 0 := ⟨_, rfl⟩
  have ek0 : k0.toInt = 0 := by rw [qk0]; rfl
  have key : ∀ n : Nat, (∀ (t : oS) (x1 : Int32) (x2 : Int32), (0 ≤ x2.toInt ∧ x2.toInt ≤ 4500) → (0 ≤ x1.toInt ∧ x1.toInt ≤ x2.toInt) → 4501 - x2.toInt ≤ (n : Int) → J t 8 [(0, .ref (oad E 71)), (1, .int x1), (2, .int x2)] []) := by
    intro n
    induction n using Nat.strongRecOn with
    | _ n ih =>
      skip
      · intro t x1 x2  iv0 iv1 hmu
        have rx1 := n_rng x1
        have rx2 := n_rng x2
        refine r_iload_n C (j := 2) (oDec_at oX12_unlike 6 rfl) rfl rfl ?_
        refine r_aload_n C (j := 0) (oDec_at oX12_unlike 7 rfl) rfl rfl ?_
        obtain ⟨v1, ev1⟩ : ∃ z : Int32, (t).1 71 71 = z := ⟨_, rfl⟩
        have gv1 : (t.1 71 71).toInt = v1.toInt := congrArg Int32.toInt (ev1)
        refine r_geti (k := 71) (lo := 0) (hi := 4500) C v1 oCl12 rfl (by decide) flX12_482 rfl rfl (ev1) rfl rfl (oDec_at oX12_unlike 8 rfl) (fun b2 b2h => ?_)
        refine r_icmp_ge C 34 (oDec_at oX12_unlike 9 rfl) (by decide) (fun cd3 => ?_) (fun cd3 => ?_)
        · skip
          refine r_iload_n C (j := 1) (oDec_at oX12_unlike 18 rfl) rfl rfl ?_
          exact r_iret C (oDec_at oX12_unlike 19 rfl) ⟨_, rfl, trivial⟩
        · skip
          refine r_aload_n C (j := 0) (oDec_at oX12_unlike 10 rfl) rfl rfl ?_
          refine r_iload_n C (j := 2) (oDec_at oX12_unlike 11 rfl) rfl rfl ?_
          refine r_callVi C oCl12 rfl miX12_alikeTo mlX12_533 (ct_X12_alikeTo l E (t) x2 (by omega)) (by decide) rfl rfl rfl (Nat.le_of_ble_eq_true rfl) (oDec_at oX12_unlike 12 rfl) (fun r5 u4 pu4 fu4 => ?_)
          try dsimp only at pu4
          have hxu4 := oFr_nil fu4; subst hxu4
          have rr5 := n_rng r5
          refine r_iload_n C (j := 2) (oDec_at oX12_unlike 13 rfl) rfl rfl ?_
          refine r_icmp_ne C 28 (oDec_at oX12_unlike 14 rfl) (by decide) (fun cd6 => ?_) (fun cd6 => ?_)
          · skip
            obtain ⟨v7, ev7⟩ : ∃ z : Int32, x2 + Int32.ofInt 1 = z := ⟨_, rfl⟩
            have hv7 : v7.toInt = x2.toInt + 1 := n_inc ev7 (by decide) (by omega) (by omega)
            refine r_iinc C (j := 2) (lv' := [(0, .ref (oad E 71)), (1, .int x1), (2, .int v7)]) v7 [1, 2, 0] (oDec_at oX12_unlike 16 rfl) rfl ev7 (by decide) rfl ?_
            refine r_goto C (tgt := 8) (oDec_at oX12_unlike 17 rfl) (by decide) ?_
            exact (ih (n - 1) (by omega)) (t) x1 v7  (by omega) (by omega) (by omega)
          · skip
            obtain ⟨v8, ev8⟩ : ∃ z : Int32, x1 + Int32.ofInt 1 = z := ⟨_, rfl⟩
            have hv8 : v8.toInt = x1.toInt + 1 := n_inc ev8 (by decide) (by omega) (by omega)
            refine r_iinc C (j := 1) (lv' := [(0, .ref (oad E 71)), (1, .int v8), (2, .int x2)]) v8 [1, 0, 2] (oDec_at oX12_unlike 15 rfl) rfl ev8 (by decide) rfl ?_
            obtain ⟨v9, ev9⟩ : ∃ z : Int32, x2 + Int32.ofInt 1 = z := ⟨_, rfl⟩
            have hv9 : v9.toInt = x2.toInt + 1 := n_inc ev9 (by decide) (by omega) (by omega)
            refine r_iinc C (j := 2) (lv' := [(0, .ref (oad E 71)), (1, .int v8), (2, .int v9)]) v9 [1, 2, 0] (oDec_at oX12_unlike 16 rfl) rfl ev9 (by decide) rfl ?_
            refine r_goto C (tgt := 8) (oDec_at oX12_unlike 17 rfl) (by decide) ?_
            exact (ih (n - 1) (by omega)) (t) v8 v9  (by omega) (by omega) (by omega)
  refine r_aload_n C (j := 0) (oDec_at oX12_unlike 0 rfl) rfl rfl ?_
  refine r_callVv C oCl12 rfl miX12_knows mlX12_490 (ct_X12_knows l E (s)  hp0) (by decide) rfl rfl rfl (Nat.le_of_ble_eq_true rfl) (oDec_at oX12_unlike 1 rfl) (fun u10 pu10 fu10 => ?_)
  try dsimp only at pu10
  refine r_iconst C (oDec_at oX12_unlike 2 rfl) (v := k0) (by rw [qk0]; rfl) ?_
  refine r_istore_n C (lv' := [(0, .ref (oad E 71)), (1, .int k0)]) [1, 0] (oDec_at oX12_unlike 3 rfl) rfl (by decide) rfl ?_
  refine r_iconst C (oDec_at oX12_unlike 4 rfl) (v := k0) (by rw [qk0]; rfl) ?_
  refine r_istore_n C (lv' := [(0, .ref (oad E 71)), (1, .int k0), (2, .int k0)]) [1, 2, 0] (oDec_at oX12_unlike 5 rfl) rfl (by decide) rfl ?_
  exact (key (4501 - k0.toInt).toNat) (u10) k0 k0  (by omega) (by omega) (by omega)
set_option maxHeartbeats 4000000 in
set_option maxRecDepth 100000 in
theorem ct_X12_meant (l : Launch) (E : oE) (s : oS) (a1 : Int32) (a2 : Int32)  (hp0 : oBI s) : oMet l 10 yX12_meant cX12_meant 7 (some .int) [(12, 58), (12, 60), (12, 61), (12, 62), (12, 63), (12, 65), (12, 69), (12, 71), (84, 9999), (85, 9999), (86, 9999), (87, 9999)] E s [.ref (oad E 71), .int a1, .int a2] (oPi (fun r u => True)) := by
  refine oMet.of (lv := [(0, .ref (oad E 71)), (1, .int a1), (2, .int a2)]) (by decide +kernel) (Nat.le_of_ble_eq_true rfl) rfl (fun J C hT => ?_)
  have C : oC l 10 cX12_meant RX12 7 (some .int) [(12, 58), (12, 60), (12, 61), (12, 62), (12, 63), (12, 65), (12, 69), (12, 71), (84, 9999), (85, 9999), (86, 9999), (87, 9999)] E s (oPi (fun r u => True)) J := C
  obtain ⟨km1, qkm1⟩ : ∃ z : Int32, z = (-1) := ⟨_, rfl⟩
  have ekm1 : km1.toInt = (-1) := by rw [qkm1]; rfl
  obtain ⟨k0, qk0⟩ : ∃ z : Int32, z = 0 := ⟨_, rfl⟩
  have ek0 : k0.toInt = 0 := by rw [qk0]; rfl
  obtain ⟨k1, qk1⟩ : ∃ z : Int32, z = 1 := ⟨_, rfl⟩
  have ek1 : k1.toInt = 1 := by rw [qk1]; rfl
  obtain ⟨k2, qk2⟩ : ∃ z : Int32, z = 2 := ⟨_, rfl⟩
  have ek2 : k2.toInt = 2 := by rw [qk2]; rfl
  obtain ⟨k3, qk3⟩ : ∃ z : Int32, z = 3 := ⟨_, rfl⟩
  have ek3 : k3.toInt = 3 := by rw [qk3]; rfl
  obtain ⟨k4, qk4⟩ : ∃ z : Int32, z = 4 := ⟨_, rfl⟩
  have ek4 : k4.toInt = 4 := by rw [qk4]; rfl
  obtain ⟨k40, qk40⟩ : ∃ z : Int32, z = 40 := ⟨_, rfl⟩
  have ek40 : k40.toInt = 40 := by rw [qk40]; rfl
  obtain ⟨j2, qj2⟩ : ∃ z : Int64, z = 2 := ⟨_, rfl⟩
  have ej2 : j2.toInt = 2 := by rw [qj2]; rfl
  obtain ⟨j4, qj4⟩ : ∃ z : Int64, z = 4 := ⟨_, rfl⟩
  have ej4 : j4.toInt = 4 := by rw [qj4]; rfl
  have rg1 := n_rng a1
  have rg2 := n_rng a2
  have key : ∀ n : Nat, (∀ (t : oS) (x3 : Int32) (x4 : Int32), (oBI t) → (0 ≤ a2.toInt) → (a2.toInt < (t.1 104 1).toInt) → (0 ≤ x4.toInt ∧ x4.toInt ≤ 40) → 3000 * (41 - x4.toInt) ≤ (n : Int) → J t 45 [(0, .ref (oad E 71)), (1, .int a1), (2, .int a2), (3, .int x3), (4, .int x4)] []) ∧ (∀ (t : oS) (x3 : Int32) (x4 : Int32) (x5 : Int32), (oBI t) → (0 ≤ a2.toInt) → (a2.toInt < (t.1 104 1).toInt) → (0 ≤ x4.toInt ∧ x4.toInt ≤ 39) → (x4.toInt < x5.toInt ∧ x5.toInt ≤ 40) → 3000 * (41 - x4.toInt) - 10 - 60 * x5.toInt ≤ (n : Int) → J t 78 [(0, .ref (oad E 71)), (1, .int a1), (2, .int a2), (3, .int x3), (4, .int x4), (5, .int x5)] []) ∧ (∀ (t : oS) (x3 : Int32) (x4 : Int32) (x5 : Int32) (x6 : Int32), (oBI t) → (0 ≤ a2.toInt) → (a2.toInt < (t.1 104 1).toInt) → (0 ≤ x4.toInt ∧ x4.toInt ≤ 39) → (x4.toInt < x5.toInt ∧ x5.toInt ≤ 39) → (x5.toInt < x6.toInt ∧ x6.toInt ≤ 40) → 3000 * (41 - x4.toInt) - 10 - 60 * x5.toInt - 5 - x6.toInt ≤ (n : Int) → J t 135 [(0, .ref (oad E 71)), (1, .int a1), (2, .int a2), (3, .int x3), (4, .int x4), (5, .int x5), (6, .int x6)] []) := by
    intro n
    induction n using Nat.strongRecOn with
    | _ n ih =>
      refine ⟨?_, ?_, ?_⟩
      · intro t x3 x4  iv0 iv1 iv2 iv3 hmu
        have rx3 := n_rng x3
        have rx4 := n_rng x4
        refine r_iload C (j := 4) (oDec_at oX12_meant 26 rfl) rfl ?_
        refine r_aload_n C (j := 0) (oDec_at oX12_meant 27 rfl) rfl rfl ?_
        refine r_callVi C oCl12 rfl miX12_chosen mlX12_485 (ct_X12_chosen l E (t)  ) (by decide) rfl rfl rfl (Nat.le_of_ble_eq_true rfl) (oDec_at oX12_meant 28 rfl) (fun r2 u1 pu1 fu1 => ?_)
        try dsimp only at pu1
        obtain ⟨pu1_0, pu1_1⟩ := pu1
        have hxu1 := oFr_nil fu1; subst hxu1
        have rr2 := n_rng r2
        refine r_icmp_ge C 217 (oDec_at oX12_meant 29 rfl) (by decide) (fun cd3 => ?_) (fun cd3 => ?_)
        · skip
          refine r_iload_n C (j := 3) (oDec_at oX12_meant 113 rfl) rfl rfl ?_
          exact r_iret C (oDec_at oX12_meant 114 rfl) ⟨_, rfl, trivial⟩
        · skip
          refine r_aload_n C (j := 0) (oDec_at oX12_meant 30 rfl) rfl rfl ?_
          refine r_iload_n C (j := 2) (oDec_at oX12_meant 31 rfl) rfl rfl ?_
          refine r_aload_n C (j := 0) (oDec_at oX12_meant 32 rfl) rfl rfl ?_
          refine r_getF (k := 70) (b := 110) C oCl12 rfl (by decide) flX12_145 rfl rfl rfl (oDec_at oX12_meant 33 rfl) ?_
          refine r_iload C (j := 4) (oDec_at oX12_meant 34 rfl) rfl ?_
          obtain ⟨v5, ev5⟩ : ∃ z : Int32, (t).1 110 x4.toNatClampNeg = z := ⟨_, rfl⟩
          have gv5 : (t.1 110 x4.toNatClampNeg).toInt = v5.toInt := congrArg Int32.toInt (ev5)
          refine r_iald (n := 4500) (lo := 0) (hi := 4499) C v5 rfl (by decide) rfl rfl ⟨by omega, by omega⟩ (by decide) ev5 rfl rfl (oDec_at oX12_meant 35 rfl) (fun b4 b4h => ?_)
          refine r_pc C 63 rfl ?_
          refine r_callVi C oCl12 rfl miX12_isMeant mlX12_519 (ct_X12_isMeant l E (t) a2 v5 iv0 (by omega) (by omega) (by omega)) (by decide) rfl rfl rfl (Nat.le_of_ble_eq_true rfl) (oDec_at oX12_meant 36 rfl) (fun r7 u6 pu6 fu6 => ?_)
          try dsimp only at pu6
          have rr7 := n_rng r7
          refine r_if_ne C 72 (oDec_at oX12_meant 37 rfl) (by decide) (fun cd8 => ?_) (fun cd8 => ?_)
          · skip
            refine r_iload C (j := 4) (oDec_at oX12_meant 39 rfl) rfl ?_
            refine r_iconst C (oDec_at oX12_meant 40 rfl) (v := k1) (by rw [qk1]; rfl) ?_
            obtain ⟨v9, ev9⟩ : ∃ z : Int32, z = x4 + k1 := ⟨_, rfl⟩
            have hv9 : v9.toInt = x4.toInt + k1.toInt := n_add ev9 (by omega) (by omega)
            refine r_iadd C v9 (oDec_at oX12_meant 41 rfl) ev9 ?_
            refine r_istore C (lv' := [(0, .ref (oad E 71)), (1, .int a1), (2, .int a2), (3, .int x3), (4, .int x4), (5, .int v9)]) [1, 2, 3, 4, 5, 0] (oDec_at oX12_meant 42 rfl) (by decide) rfl ?_
            have lc10 : ((u6).1 104 1).toInt = (t.1 104 1).toInt := congrArg Int32.toInt ((fu6 104 1 rfl).1)
            exact (ih (n - 1) (by omega)).2.1 (u6) x3 x4 v9  (oBI_fr fu6 rfl iv0) (by omega) (by omega) (by omega) (by omega) (by omega)
          · skip
            refine r_goto C (tgt := 211) (oDec_at oX12_meant 38 rfl) (by decide) ?_
            obtain ⟨v11, ev11⟩ : ∃ z : Int32, x4 + Int32.ofInt 1 = z := ⟨_, rfl⟩
            have hv11 : v11.toInt = x4.toInt + 1 := n_inc ev11 (by decide) (by omega) (by omega)
            refine r_iinc C (j := 4) (lv' := [(0, .ref (oad E 71)), (1, .int a1), (2, .int a2), (3, .int x3), (4, .int v11)]) v11 [1, 2, 3, 4, 0] (oDec_at oX12_meant 111 rfl) rfl ev11 (by decide) rfl ?_
            refine r_goto C (tgt := 45) (oDec_at oX12_meant 112 rfl) (by decide) ?_
            have lc12 : ((u6).1 104 1).toInt = (t.1 104 1).toInt := congrArg Int32.toInt ((fu6 104 1 rfl).1)
            exact (ih (n - 1) (by omega)).1 (u6) x3 v11  (oBI_fr fu6 rfl iv0) (by omega) (by omega) (by omega) (by omega)
      · intro t x3 x4 x5  iv0 iv1 iv2 iv3 iv4 hmu
        have rx3 := n_rng x3
        have rx4 := n_rng x4
        have rx5 := n_rng x5
        refine r_iload C (j := 5) (oDec_at oX12_meant 43 rfl) rfl ?_
        refine r_aload_n C (j := 0) (oDec_at oX12_meant 44 rfl) rfl rfl ?_
        refine r_callVi C oCl12 rfl miX12_chosen mlX12_485 (ct_X12_chosen l E (t)  ) (by decide) rfl rfl rfl (Nat.le_of_ble_eq_true rfl) (oDec_at oX12_meant 45 rfl) (fun r14 u13 pu13 fu13 => ?_)
        try dsimp only at pu13
        obtain ⟨pu13_0, pu13_1⟩ := pu13
        have hxu13 := oFr_nil fu13; subst hxu13
        have rr14 := n_rng r14
        refine r_icmp_ge C 211 (oDec_at oX12_meant 46 rfl) (by decide) (fun cd15 => ?_) (fun cd15 => ?_)
        · skip
          obtain ⟨v16, ev16⟩ : ∃ z : Int32, x4 + Int32.ofInt 1 = z := ⟨_, rfl⟩
          have hv16 : v16.toInt = x4.toInt + 1 := n_inc ev16 (by decide) (by omega) (by omega)
          refine r_iinc C (j := 4) (lv' := [(0, .ref (oad E 71)), (1, .int a1), (2, .int a2), (3, .int x3), (4, .int v16), (5, .int x5)]) v16 [1, 2, 3, 4, 0, 5] (oDec_at oX12_meant 111 rfl) rfl ev16 (by decide) rfl ?_
          refine r_goto C (tgt := 45) (oDec_at oX12_meant 112 rfl) (by decide) ?_
          refine r_pick C [0, 1, 2, 3, 4] rfl ?_
          exact (ih (n - 1) (by omega)).1 (t) x3 v16  iv0 (by omega) (by omega) (by omega) (by omega)
        · skip
          refine r_aload_n C (j := 0) (oDec_at oX12_meant 47 rfl) rfl rfl ?_
          refine r_getF (k := 72) (b := 111) C oCl12 rfl (by decide) flX12_148 rfl rfl rfl (oDec_at oX12_meant 48 rfl) ?_
          refine r_bipush C (oDec_at oX12_meant 49 rfl) (v := k40) (by rw [qk40]; rfl) ?_
          refine r_iload C (j := 4) (oDec_at oX12_meant 50 rfl) rfl ?_
          obtain ⟨v17, ev17⟩ : ∃ z : Int32, z = k40 * x4 := ⟨_, rfl⟩
          have hv17 : v17.toInt = 40 * x4.toInt := n_mulK' 40 ev17 ek40 (by omega) (by omega)
          refine r_imul C v17 (oDec_at oX12_meant 51 rfl) ev17 ?_
          refine r_iload C (j := 5) (oDec_at oX12_meant 52 rfl) rfl ?_
          refine r_pc C 98 rfl ?_
          obtain ⟨v18, ev18⟩ : ∃ z : Int32, z = v17 + x5 := ⟨_, rfl⟩
          have hv18 : v18.toInt = v17.toInt + x5.toInt := n_add ev18 (by omega) (by omega)
          refine r_iadd C v18 (oDec_at oX12_meant 53 rfl) ev18 ?_
          obtain ⟨v20, ev20⟩ : ∃ z : Int32, (t).1 111 v18.toNatClampNeg = z := ⟨_, rfl⟩
          have gv20 : (t.1 111 v18.toNatClampNeg).toInt = v20.toInt := congrArg Int32.toInt (ev20)
          refine r_zald (n := 1600) (lo := 0) (hi := 1) C v20 rfl (by decide) rfl rfl ⟨by omega, by omega⟩ (by decide) ev20 rfl rfl (oDec_at oX12_meant 54 rfl) (fun b19 b19h => ?_)
          refine r_if_eq C 205 (oDec_at oX12_meant 55 rfl) (by decide) (fun cd21 => ?_) (fun cd21 => ?_)
          · skip
            obtain ⟨v22, ev22⟩ : ∃ z : Int32, x5 + Int32.ofInt 1 = z := ⟨_, rfl⟩
            have hv22 : v22.toInt = x5.toInt + 1 := n_inc ev22 (by decide) (by omega) (by omega)
            refine r_iinc C (j := 5) (lv' := [(0, .ref (oad E 71)), (1, .int a1), (2, .int a2), (3, .int x3), (4, .int x4), (5, .int v22)]) v22 [1, 2, 3, 4, 5, 0] (oDec_at oX12_meant 109 rfl) rfl ev22 (by decide) rfl ?_
            refine r_goto C (tgt := 78) (oDec_at oX12_meant 110 rfl) (by decide) ?_
            exact (ih (n - 1) (by omega)).2.1 (t) x3 x4 v22  iv0 (by omega) (by omega) (by omega) (by omega) (by omega)
          · skip
            refine r_aload_n C (j := 0) (oDec_at oX12_meant 56 rfl) rfl rfl ?_
            refine r_iload_n C (j := 2) (oDec_at oX12_meant 57 rfl) rfl rfl ?_
            refine r_aload_n C (j := 0) (oDec_at oX12_meant 58 rfl) rfl rfl ?_
            refine r_getF (k := 70) (b := 110) C oCl12 rfl (by decide) flX12_145 rfl rfl rfl (oDec_at oX12_meant 59 rfl) ?_
            refine r_iload C (j := 5) (oDec_at oX12_meant 60 rfl) rfl ?_
            obtain ⟨v24, ev24⟩ : ∃ z : Int32, (t).1 110 x5.toNatClampNeg = z := ⟨_, rfl⟩
            have gv24 : (t.1 110 x5.toNatClampNeg).toInt = v24.toInt := congrArg Int32.toInt (ev24)
            refine r_iald (n := 4500) (lo := 0) (hi := 4499) C v24 rfl (by decide) rfl rfl ⟨by omega, by omega⟩ (by decide) ev24 rfl rfl (oDec_at oX12_meant 61 rfl) (fun b23 b23h => ?_)
            refine r_pc C 112 rfl ?_
            refine r_callVi C oCl12 rfl miX12_isMeant mlX12_519 (ct_X12_isMeant l E (t) a2 v24 iv0 (by omega) (by omega) (by omega)) (by decide) rfl rfl rfl (Nat.le_of_ble_eq_true rfl) (oDec_at oX12_meant 62 rfl) (fun r26 u25 pu25 fu25 => ?_)
            try dsimp only at pu25
            have rr26 := n_rng r26
            refine r_if_ne C 121 (oDec_at oX12_meant 63 rfl) (by decide) (fun cd27 => ?_) (fun cd27 => ?_)
            · skip
              refine r_iload_n C (j := 1) (oDec_at oX12_meant 65 rfl) rfl rfl ?_
              refine r_iconst C (oDec_at oX12_meant 66 rfl) (v := k3) (by rw [qk3]; rfl) ?_
              refine r_icmp_ne C 129 (oDec_at oX12_meant 67 rfl) (by decide) (fun cd28 => ?_) (fun cd28 => ?_)
              · skip
                refine r_iload C (j := 5) (oDec_at oX12_meant 69 rfl) rfl ?_
                refine r_iconst C (oDec_at oX12_meant 70 rfl) (v := k1) (by rw [qk1]; rfl) ?_
                obtain ⟨v29, ev29⟩ : ∃ z : Int32, z = x5 + k1 := ⟨_, rfl⟩
                have hv29 : v29.toInt = x5.toInt + k1.toInt := n_add ev29 (by omega) (by omega)
                refine r_iadd C v29 (oDec_at oX12_meant 71 rfl) ev29 ?_
                refine r_istore C (lv' := [(0, .ref (oad E 71)), (1, .int a1), (2, .int a2), (3, .int x3), (4, .int x4), (5, .int x5), (6, .int v29)]) [1, 2, 3, 4, 5, 6, 0] (oDec_at oX12_meant 72 rfl) (by decide) rfl ?_
                have lc30 : ((u25).1 104 1).toInt = (t.1 104 1).toInt := congrArg Int32.toInt ((fu25 104 1 rfl).1)
                exact (ih (n - 1) (by omega)).2.2 (u25) x3 x4 x5 v29  (oBI_fr fu25 rfl iv0) (by omega) (by omega) (by omega) (by omega) (by omega) (by omega)
              · skip
                obtain ⟨v31, ev31⟩ : ∃ z : Int32, x3 + Int32.ofInt 1 = z := ⟨_, rfl⟩
                refine r_iinc C (j := 3) (lv' := [(0, .ref (oad E 71)), (1, .int a1), (2, .int a2), (3, .int v31), (4, .int x4), (5, .int x5)]) v31 [1, 2, 3, 0, 4, 5] (oDec_at oX12_meant 68 rfl) rfl ev31 (by decide) rfl ?_
                refine r_iload C (j := 5) (oDec_at oX12_meant 69 rfl) rfl ?_
                refine r_iconst C (oDec_at oX12_meant 70 rfl) (v := k1) (by rw [qk1]; rfl) ?_
                obtain ⟨v32, ev32⟩ : ∃ z : Int32, z = x5 + k1 := ⟨_, rfl⟩
                have hv32 : v32.toInt = x5.toInt + k1.toInt := n_add ev32 (by omega) (by omega)
                refine r_iadd C v32 (oDec_at oX12_meant 71 rfl) ev32 ?_
                refine r_istore C (lv' := [(0, .ref (oad E 71)), (1, .int a1), (2, .int a2), (3, .int v31), (4, .int x4), (5, .int x5), (6, .int v32)]) [1, 2, 3, 4, 5, 6, 0] (oDec_at oX12_meant 72 rfl) (by decide) rfl ?_
                have lc33 : ((u25).1 104 1).toInt = (t.1 104 1).toInt := congrArg Int32.toInt ((fu25 104 1 rfl).1)
                exact (ih (n - 1) (by omega)).2.2 (u25) v31 x4 x5 v32  (oBI_fr fu25 rfl iv0) (by omega) (by omega) (by omega) (by omega) (by omega) (by omega)
            · skip
              refine r_goto C (tgt := 205) (oDec_at oX12_meant 64 rfl) (by decide) ?_
              obtain ⟨v34, ev34⟩ : ∃ z : Int32, x5 + Int32.ofInt 1 = z := ⟨_, rfl⟩
              have hv34 : v34.toInt = x5.toInt + 1 := n_inc ev34 (by decide) (by omega) (by omega)
              refine r_iinc C (j := 5) (lv' := [(0, .ref (oad E 71)), (1, .int a1), (2, .int a2), (3, .int x3), (4, .int x4), (5, .int v34)]) v34 [1, 2, 3, 4, 5, 0] (oDec_at oX12_meant 109 rfl) rfl ev34 (by decide) rfl ?_
              refine r_goto C (tgt := 78) (oDec_at oX12_meant 110 rfl) (by decide) ?_
              have lc35 : ((u25).1 104 1).toInt = (t.1 104 1).toInt := congrArg Int32.toInt ((fu25 104 1 rfl).1)
              exact (ih (n - 1) (by omega)).2.1 (u25) x3 x4 v34  (oBI_fr fu25 rfl iv0) (by omega) (by omega) (by omega) (by omega) (by omega)
      · intro t x3 x4 x5 x6  iv0 iv1 iv2 iv3 iv4 iv5 hmu
        have rx3 := n_rng x3
        have rx4 := n_rng x4
        have rx5 := n_rng x5
        have rx6 := n_rng x6
        refine r_iload C (j := 6) (oDec_at oX12_meant 73 rfl) rfl ?_
        refine r_aload_n C (j := 0) (oDec_at oX12_meant 74 rfl) rfl rfl ?_
        refine r_callVi C oCl12 rfl miX12_chosen mlX12_485 (ct_X12_chosen l E (t)  ) (by decide) rfl rfl rfl (Nat.le_of_ble_eq_true rfl) (oDec_at oX12_meant 75 rfl) (fun r37 u36 pu36 fu36 => ?_)
        try dsimp only at pu36
        obtain ⟨pu36_0, pu36_1⟩ := pu36
        have hxu36 := oFr_nil fu36; subst hxu36
        have rr37 := n_rng r37
        refine r_icmp_ge C 205 (oDec_at oX12_meant 76 rfl) (by decide) (fun cd38 => ?_) (fun cd38 => ?_)
        · skip
          obtain ⟨v39, ev39⟩ : ∃ z : Int32, x5 + Int32.ofInt 1 = z := ⟨_, rfl⟩
          have hv39 : v39.toInt = x5.toInt + 1 := n_inc ev39 (by decide) (by omega) (by omega)
          refine r_iinc C (j := 5) (lv' := [(0, .ref (oad E 71)), (1, .int a1), (2, .int a2), (3, .int x3), (4, .int x4), (5, .int v39), (6, .int x6)]) v39 [1, 2, 3, 4, 5, 0, 6] (oDec_at oX12_meant 109 rfl) rfl ev39 (by decide) rfl ?_
          refine r_goto C (tgt := 78) (oDec_at oX12_meant 110 rfl) (by decide) ?_
          refine r_pick C [0, 1, 2, 3, 4, 5] rfl ?_
          exact (ih (n - 1) (by omega)).2.1 (t) x3 x4 v39  iv0 (by omega) (by omega) (by omega) (by omega) (by omega)
        · skip
          refine r_iload_n C (j := 1) (oDec_at oX12_meant 77 rfl) rfl rfl ?_
          refine r_iconst C (oDec_at oX12_meant 78 rfl) (v := k4) (by rw [qk4]; rfl) ?_
          refine r_icmp_ne C 205 (oDec_at oX12_meant 79 rfl) (by decide) (fun cd40 => ?_) (fun cd40 => ?_)
          · skip
            obtain ⟨v41, ev41⟩ : ∃ z : Int32, x5 + Int32.ofInt 1 = z := ⟨_, rfl⟩
            have hv41 : v41.toInt = x5.toInt + 1 := n_inc ev41 (by decide) (by omega) (by omega)
            refine r_iinc C (j := 5) (lv' := [(0, .ref (oad E 71)), (1, .int a1), (2, .int a2), (3, .int x3), (4, .int x4), (5, .int v41), (6, .int x6)]) v41 [1, 2, 3, 4, 5, 0, 6] (oDec_at oX12_meant 109 rfl) rfl ev41 (by decide) rfl ?_
            refine r_goto C (tgt := 78) (oDec_at oX12_meant 110 rfl) (by decide) ?_
            refine r_pick C [0, 1, 2, 3, 4, 5] rfl ?_
            exact (ih (n - 1) (by omega)).2.1 (t) x3 x4 v41  iv0 (by omega) (by omega) (by omega) (by omega) (by omega)
          · skip
            refine r_aload_n C (j := 0) (oDec_at oX12_meant 80 rfl) rfl rfl ?_
            refine r_getF (k := 72) (b := 111) C oCl12 rfl (by decide) flX12_148 rfl rfl rfl (oDec_at oX12_meant 81 rfl) ?_
            refine r_bipush C (oDec_at oX12_meant 82 rfl) (v := k40) (by rw [qk40]; rfl) ?_
            refine r_iload C (j := 4) (oDec_at oX12_meant 83 rfl) rfl ?_
            obtain ⟨v42, ev42⟩ : ∃ z : Int32, z = k40 * x4 := ⟨_, rfl⟩
            have hv42 : v42.toInt = 40 * x4.toInt := n_mulK' 40 ev42 ek40 (by omega) (by omega)
            refine r_imul C v42 (oDec_at oX12_meant 84 rfl) ev42 ?_
            refine r_iload C (j := 6) (oDec_at oX12_meant 85 rfl) rfl ?_
            refine r_pc C 160 rfl ?_
            obtain ⟨v43, ev43⟩ : ∃ z : Int32, z = v42 + x6 := ⟨_, rfl⟩
            have hv43 : v43.toInt = v42.toInt + x6.toInt := n_add ev43 (by omega) (by omega)
            refine r_iadd C v43 (oDec_at oX12_meant 86 rfl) ev43 ?_
            obtain ⟨v45, ev45⟩ : ∃ z : Int32, (t).1 111 v43.toNatClampNeg = z := ⟨_, rfl⟩
            have gv45 : (t.1 111 v43.toNatClampNeg).toInt = v45.toInt := congrArg Int32.toInt (ev45)
            refine r_zald (n := 1600) (lo := 0) (hi := 1) C v45 rfl (by decide) rfl rfl ⟨by omega, by omega⟩ (by decide) ev45 rfl rfl (oDec_at oX12_meant 87 rfl) (fun b44 b44h => ?_)
            refine r_if_eq C 199 (oDec_at oX12_meant 88 rfl) (by decide) (fun cd46 => ?_) (fun cd46 => ?_)
            · skip
              obtain ⟨v47, ev47⟩ : ∃ z : Int32, x6 + Int32.ofInt 1 = z := ⟨_, rfl⟩
              have hv47 : v47.toInt = x6.toInt + 1 := n_inc ev47 (by decide) (by omega) (by omega)
              refine r_iinc C (j := 6) (lv' := [(0, .ref (oad E 71)), (1, .int a1), (2, .int a2), (3, .int x3), (4, .int x4), (5, .int x5), (6, .int v47)]) v47 [1, 2, 3, 4, 5, 6, 0] (oDec_at oX12_meant 107 rfl) rfl ev47 (by decide) rfl ?_
              refine r_goto C (tgt := 135) (oDec_at oX12_meant 108 rfl) (by decide) ?_
              exact (ih (n - 1) (by omega)).2.2 (t) x3 x4 x5 v47  iv0 (by omega) (by omega) (by omega) (by omega) (by omega) (by omega)
            · skip
              refine r_aload_n C (j := 0) (oDec_at oX12_meant 89 rfl) rfl rfl ?_
              refine r_getF (k := 72) (b := 111) C oCl12 rfl (by decide) flX12_148 rfl rfl rfl (oDec_at oX12_meant 90 rfl) ?_
              refine r_bipush C (oDec_at oX12_meant 91 rfl) (v := k40) (by rw [qk40]; rfl) ?_
              refine r_iload C (j := 5) (oDec_at oX12_meant 92 rfl) rfl ?_
              obtain ⟨v48, ev48⟩ : ∃ z : Int32, z = k40 * x5 := ⟨_, rfl⟩
              have hv48 : v48.toInt = 40 * x5.toInt := n_mulK' 40 ev48 ek40 (by omega) (by omega)
              refine r_imul C v48 (oDec_at oX12_meant 93 rfl) ev48 ?_
              refine r_iload C (j := 6) (oDec_at oX12_meant 94 rfl) rfl ?_
              refine r_pc C 176 rfl ?_
              obtain ⟨v49, ev49⟩ : ∃ z : Int32, z = v48 + x6 := ⟨_, rfl⟩
              have hv49 : v49.toInt = v48.toInt + x6.toInt := n_add ev49 (by omega) (by omega)
              refine r_iadd C v49 (oDec_at oX12_meant 95 rfl) ev49 ?_
              obtain ⟨v51, ev51⟩ : ∃ z : Int32, (t).1 111 v49.toNatClampNeg = z := ⟨_, rfl⟩
              have gv51 : (t.1 111 v49.toNatClampNeg).toInt = v51.toInt := congrArg Int32.toInt (ev51)
              refine r_zald (n := 1600) (lo := 0) (hi := 1) C v51 rfl (by decide) rfl rfl ⟨by omega, by omega⟩ (by decide) ev51 rfl rfl (oDec_at oX12_meant 96 rfl) (fun b50 b50h => ?_)
              refine r_if_eq C 199 (oDec_at oX12_meant 97 rfl) (by decide) (fun cd52 => ?_) (fun cd52 => ?_)
              · skip
                obtain ⟨v53, ev53⟩ : ∃ z : Int32, x6 + Int32.ofInt 1 = z := ⟨_, rfl⟩
                have hv53 : v53.toInt = x6.toInt + 1 := n_inc ev53 (by decide) (by omega) (by omega)
                refine r_iinc C (j := 6) (lv' := [(0, .ref (oad E 71)), (1, .int a1), (2, .int a2), (3, .int x3), (4, .int x4), (5, .int x5), (6, .int v53)]) v53 [1, 2, 3, 4, 5, 6, 0] (oDec_at oX12_meant 107 rfl) rfl ev53 (by decide) rfl ?_
                refine r_goto C (tgt := 135) (oDec_at oX12_meant 108 rfl) (by decide) ?_
                exact (ih (n - 1) (by omega)).2.2 (t) x3 x4 x5 v53  iv0 (by omega) (by omega) (by omega) (by omega) (by omega) (by omega)
              · skip
                refine r_aload_n C (j := 0) (oDec_at oX12_meant 98 rfl) rfl rfl ?_
                refine r_iload_n C (j := 2) (oDec_at oX12_meant 99 rfl) rfl rfl ?_
                refine r_aload_n C (j := 0) (oDec_at oX12_meant 100 rfl) rfl rfl ?_
                refine r_getF (k := 70) (b := 110) C oCl12 rfl (by decide) flX12_145 rfl rfl rfl (oDec_at oX12_meant 101 rfl) ?_
                refine r_iload C (j := 6) (oDec_at oX12_meant 102 rfl) rfl ?_
                obtain ⟨v55, ev55⟩ : ∃ z : Int32, (t).1 110 x6.toNatClampNeg = z := ⟨_, rfl⟩
                have gv55 : (t.1 110 x6.toNatClampNeg).toInt = v55.toInt := congrArg Int32.toInt (ev55)
                refine r_iald (n := 4500) (lo := 0) (hi := 4499) C v55 rfl (by decide) rfl rfl ⟨by omega, by omega⟩ (by decide) ev55 rfl rfl (oDec_at oX12_meant 103 rfl) (fun b54 b54h => ?_)
                refine r_pc C 190 rfl ?_
                refine r_callVi C oCl12 rfl miX12_isMeant mlX12_519 (ct_X12_isMeant l E (t) a2 v55 iv0 (by omega) (by omega) (by omega)) (by decide) rfl rfl rfl (Nat.le_of_ble_eq_true rfl) (oDec_at oX12_meant 104 rfl) (fun r57 u56 pu56 fu56 => ?_)
                try dsimp only at pu56
                have rr57 := n_rng r57
                refine r_if_eq C 199 (oDec_at oX12_meant 105 rfl) (by decide) (fun cd58 => ?_) (fun cd58 => ?_)
                · skip
                  obtain ⟨v59, ev59⟩ : ∃ z : Int32, x6 + Int32.ofInt 1 = z := ⟨_, rfl⟩
                  have hv59 : v59.toInt = x6.toInt + 1 := n_inc ev59 (by decide) (by omega) (by omega)
                  refine r_iinc C (j := 6) (lv' := [(0, .ref (oad E 71)), (1, .int a1), (2, .int a2), (3, .int x3), (4, .int x4), (5, .int x5), (6, .int v59)]) v59 [1, 2, 3, 4, 5, 6, 0] (oDec_at oX12_meant 107 rfl) rfl ev59 (by decide) rfl ?_
                  refine r_goto C (tgt := 135) (oDec_at oX12_meant 108 rfl) (by decide) ?_
                  have lc60 : ((u56).1 104 1).toInt = (t.1 104 1).toInt := congrArg Int32.toInt ((fu56 104 1 rfl).1)
                  exact (ih (n - 1) (by omega)).2.2 (u56) x3 x4 x5 v59  (oBI_fr fu56 rfl iv0) (by omega) (by omega) (by omega) (by omega) (by omega) (by omega)
                · skip
                  obtain ⟨v61, ev61⟩ : ∃ z : Int32, x3 + Int32.ofInt 1 = z := ⟨_, rfl⟩
                  refine r_iinc C (j := 3) (lv' := [(0, .ref (oad E 71)), (1, .int a1), (2, .int a2), (3, .int v61), (4, .int x4), (5, .int x5), (6, .int x6)]) v61 [1, 2, 3, 0, 4, 5, 6] (oDec_at oX12_meant 106 rfl) rfl ev61 (by decide) rfl ?_
                  obtain ⟨v62, ev62⟩ : ∃ z : Int32, x6 + Int32.ofInt 1 = z := ⟨_, rfl⟩
                  have hv62 : v62.toInt = x6.toInt + 1 := n_inc ev62 (by decide) (by omega) (by omega)
                  refine r_iinc C (j := 6) (lv' := [(0, .ref (oad E 71)), (1, .int a1), (2, .int a2), (3, .int v61), (4, .int x4), (5, .int x5), (6, .int v62)]) v62 [1, 2, 3, 4, 5, 6, 0] (oDec_at oX12_meant 107 rfl) rfl ev62 (by decide) rfl ?_
                  refine r_goto C (tgt := 135) (oDec_at oX12_meant 108 rfl) (by decide) ?_
                  have lc63 : ((u56).1 104 1).toInt = (t.1 104 1).toInt := congrArg Int32.toInt ((fu56 104 1 rfl).1)
                  exact (ih (n - 1) (by omega)).2.2 (u56) v61 x4 x5 v62  (oBI_fr fu56 rfl iv0) (by omega) (by omega) (by omega) (by omega) (by omega) (by omega)
  refine r_iload_n C (j := 1) (oDec_at oX12_meant 0 rfl) rfl rfl ?_
  obtain ⟨v64, ev64⟩ : ∃ z : Int64, a1.toInt64 = z := ⟨_, rfl⟩
  have hv64 : v64.toInt = a1.toInt := n_i2l ev64
  refine r_i2l C v64 (oDec_at oX12_meant 1 rfl) ev64 ?_
  refine r_ldc2 C (v := j2) (by rw [qj2]; exact klX12_417) (oDec_at oX12_meant 2 rfl) ?_
  refine r_ldc2 C (v := j4) (by rw [qj4]; exact klX12_493) (oDec_at oX12_meant 3 rfl) ?_
  refine r_callSi C miX12_isIn mlX12_216 (ct_X12_isIn l E (s) v64 j2 j4 ) (by decide) rfl rfl rfl (Nat.le_of_ble_eq_true rfl) (oDec_at oX12_meant 4 rfl) (fun r66 u65 pu65 fu65 => ?_)
  try dsimp only at pu65
  obtain ⟨pu65_0, pu65_1⟩ := pu65
  have hxu65 := oFr_nil fu65; subst hxu65
  have rr66 := n_rng r66
  refine r_if_eq C 22 (oDec_at oX12_meant 5 rfl) (by decide) (fun cd67 => ?_) (fun cd67 => ?_)
  · skip
    refine r_iconst C (oDec_at oX12_meant 10 rfl) (v := km1) (by rw [qkm1]; rfl) ?_
    exact r_iret C (oDec_at oX12_meant 11 rfl) ⟨_, rfl, trivial⟩
  · skip
    refine r_aload_n C (j := 0) (oDec_at oX12_meant 6 rfl) rfl rfl ?_
    refine r_iload_n C (j := 2) (oDec_at oX12_meant 7 rfl) rfl rfl ?_
    refine r_callVi C oCl12 rfl miX12_isOfMottos mlX12_516 (ct2_X12_isOfMottos l E (s) a2 ) (by decide) rfl rfl rfl (Nat.le_of_ble_eq_true rfl) (oDec_at oX12_meant 8 rfl) (fun r69 u68 pu68 fu68 => ?_)
    try dsimp only at pu68
    obtain ⟨pu68_0, pu68_1⟩ := pu68
    have hxu68 := oFr_nil fu68; subst hxu68
    have rr69 := n_rng r69
    refine r_if_ne C 24 (oDec_at oX12_meant 9 rfl) (by decide) (fun cd70 => ?_) (fun cd70 => ?_)
    · skip
      replace pu68_1 := pu68_1 (by omega)
      refine r_iload_n C (j := 1) (oDec_at oX12_meant 12 rfl) rfl rfl ?_
      refine r_iconst C (oDec_at oX12_meant 13 rfl) (v := k2) (by rw [qk2]; rfl) ?_
      refine r_icmp_ne C 36 (oDec_at oX12_meant 14 rfl) (by decide) (fun cd71 => ?_) (fun cd71 => ?_)
      · skip
        refine r_aload_n C (j := 0) (oDec_at oX12_meant 20 rfl) rfl rfl ?_
        refine r_callVv C oCl12 rfl miX12_knows mlX12_490 (ct_X12_knows l E (s)  hp0) (by decide) rfl rfl rfl (Nat.le_of_ble_eq_true rfl) (oDec_at oX12_meant 21 rfl) (fun u72 pu72 fu72 => ?_)
        try dsimp only at pu72
        refine r_iconst C (oDec_at oX12_meant 22 rfl) (v := k0) (by rw [qk0]; rfl) ?_
        refine r_istore_n C (lv' := [(0, .ref (oad E 71)), (1, .int a1), (2, .int a2), (3, .int k0)]) [1, 2, 3, 0] (oDec_at oX12_meant 23 rfl) rfl (by decide) rfl ?_
        refine r_iconst C (oDec_at oX12_meant 24 rfl) (v := k0) (by rw [qk0]; rfl) ?_
        refine r_istore C (lv' := [(0, .ref (oad E 71)), (1, .int a1), (2, .int a2), (3, .int k0), (4, .int k0)]) [1, 2, 3, 4, 0] (oDec_at oX12_meant 25 rfl) (by decide) rfl ?_
        have lc74 : ((u72).1 104 1).toInt = (s.1 104 1).toInt := congrArg Int32.toInt ((fu72 104 1 rfl).1)
        exact (key (3000 * (41 - k0.toInt)).toNat).1 (u72) k0 k0  (oBI_fr fu72 rfl hp0) (by omega) (by omega) (by omega) (by omega)
      · skip
        refine r_aload_n C (j := 0) (oDec_at oX12_meant 15 rfl) rfl rfl ?_
        refine r_iload_n C (j := 2) (oDec_at oX12_meant 16 rfl) rfl rfl ?_
        refine r_iconst C (oDec_at oX12_meant 17 rfl) (v := km1) (by rw [qkm1]; rfl) ?_
        refine r_callVi C oCl12 rfl miX12_means mlX12_536 (ct_X12_means l E (s) a2 km1 hp0) (by decide) rfl rfl rfl (Nat.le_of_ble_eq_true rfl) (oDec_at oX12_meant 18 rfl) (fun r76 u75 pu75 fu75 => ?_)
        try dsimp only at pu75
        have rr76 := n_rng r76
        exact r_iret C (oDec_at oX12_meant 19 rfl) ⟨_, rfl, trivial⟩
    · skip
      clear pu68_1
      refine r_iconst C (oDec_at oX12_meant 10 rfl) (v := km1) (by rw [qkm1]; rfl) ?_
      exact r_iret C (oDec_at oX12_meant 11 rfl) ⟨_, rfl, trivial⟩
set_option maxHeartbeats 4000000 in
set_option maxRecDepth 100000 in
theorem ct2_X12_within (l : Launch) (E : oE) (s : oS) (a0 : Int32) (a1 : Int32)  (hp0 : 1 ≤ a1.toInt ∧ a1.toInt ≤ 1000) : oMet l 1 yX12_within cX12_within 2 (some .int) [] E s [.int a0, .int a1] (oPi (fun r u => (0 ≤ r.toInt ∧ r.toInt < a1.toInt))) := by
  refine oMet.of (lv := [(0, .int a0), (1, .int a1)]) (by decide +kernel) (Nat.le_of_ble_eq_true rfl) rfl (fun J C hT => ?_)
  have C : oC l 1 cX12_within RX12 2 (some .int) [] E s (oPi (fun r u => (0 ≤ r.toInt ∧ r.toInt < a1.toInt))) J := C
  have rg0 := n_rng a0
  have rg1 := n_rng a1
  refine r_iload_n C (j := 0) (oDec_at oX12_within 0 rfl) rfl rfl ?_
  refine r_iload_n C (j := 1) (oDec_at oX12_within 1 rfl) rfl rfl ?_
  obtain ⟨v1, ev1⟩ : ∃ z : Int32, z = a0 - a0 / a1 * a1 := ⟨_, rfl⟩
  have rv1 := n_rng v1
  have hfv1 := n_remV ev1 (by omega)
  refine r_irem C v1 (oDec_at oX12_within 2 rfl) (n_ne0 (by omega)) ev1 ?_
  refine r_iload_n C (j := 1) (oDec_at oX12_within 3 rfl) rfl rfl ?_
  obtain ⟨v2, ev2⟩ : ∃ z : Int32, z = v1 + a1 := ⟨_, rfl⟩
  have hv2 : v2.toInt = v1.toInt + a1.toInt := n_add ev2 (by omega) (by omega)
  refine r_iadd C v2 (oDec_at oX12_within 4 rfl) ev2 ?_
  refine r_iload_n C (j := 1) (oDec_at oX12_within 5 rfl) rfl rfl ?_
  refine r_pc C 6 rfl ?_
  obtain ⟨v3, ev3⟩ : ∃ z : Int32, z = v2 - v2 / a1 * a1 := ⟨_, rfl⟩
  have rv3 := n_rng v3
  have hfv3 := n_remV ev3 (by omega)
  refine r_irem C v3 (oDec_at oX12_within 6 rfl) (n_ne0 (by omega)) ev3 ?_
  exact r_iret C (oDec_at oX12_within 7 rfl) ⟨_, rfl, by omega⟩
set_option maxHeartbeats 4000000 in
set_option maxRecDepth 100000 in
theorem ct_X12_roundNote (l : Launch) (E : oE) (s : oS) (a1 : Int32) (a2 : Int32)  (hp0 : 0 ≤ a1.toInt ∧ a1.toInt ≤ 4499) (hp1 : -1 ≤ a2.toInt ∧ a2.toInt ≤ 1000) (hp2 : 1 ≤ (s.1 71 42).toInt) : oMet l 2 yX12_roundNote cX12_roundNote 4 (some .int) [] E s [.ref (oad E 71), .int a1, .int a2] (oPi (fun r u => (0 ≤ r.toInt ∧ r.toInt ≤ 23))) := by
  refine oMet.of (lv := [(0, .ref (oad E 71)), (1, .int a1), (2, .int a2)]) (by decide +kernel) (Nat.le_of_ble_eq_true rfl) rfl (fun J C hT => ?_)
  have C : oC l 2 cX12_roundNote RX12 4 (some .int) [] E s (oPi (fun r u => (0 ≤ r.toInt ∧ r.toInt ≤ 23))) J := C
  obtain ⟨k1, qk1⟩ : ∃ z : Int32, z = 1 := ⟨_, rfl⟩
  have ek1 : k1.toInt = 1 := by rw [qk1]; rfl
  have rg1 := n_rng a1
  have rg2 := n_rng a2
  refine r_iload_n C (j := 2) (oDec_at oX12_roundNote 0 rfl) rfl rfl ?_
  refine r_iload_n C (j := 1) (oDec_at oX12_roundNote 1 rfl) rfl rfl ?_
  refine r_callSi C miX12_delayOf mlX12_389 (ct_X12_delayOf l E (s) a1 (by omega)) (by decide) rfl rfl rfl (Nat.le_of_ble_eq_true rfl) (oDec_at oX12_roundNote 2 rfl) (fun r2 u1 pu1 fu1 => ?_)
  try dsimp only at pu1
  have hxu1 := oFr_nil fu1; subst hxu1
  have rr2 := n_rng r2
  obtain ⟨v3, ev3⟩ : ∃ z : Int32, z = a2 - r2 := ⟨_, rfl⟩
  have hv3 : v3.toInt = a2.toInt - r2.toInt := n_sub ev3 (by omega) (by omega)
  refine r_isub C v3 (oDec_at oX12_roundNote 3 rfl) ev3 ?_
  refine r_aload_n C (j := 0) (oDec_at oX12_roundNote 4 rfl) rfl rfl ?_
  obtain ⟨v4, ev4⟩ : ∃ z : Int32, (s).1 71 42 = z := ⟨_, rfl⟩
  have gv4 : (s.1 71 42).toInt = v4.toInt := congrArg Int32.toInt (ev4)
  refine r_geti (k := 42) (lo := 0) (hi := 96) C v4 oCl12 rfl (by decide) flX12_267 rfl rfl (ev4) rfl rfl (oDec_at oX12_roundNote 5 rfl) (fun b5 b5h => ?_)
  refine r_pc C 10 rfl ?_
  refine r_callSi C miX12_within mlX12_539 (ct2_X12_within l E (s) v3 v4 (by omega)) (by decide) rfl rfl rfl (Nat.le_of_ble_eq_true rfl) (oDec_at oX12_roundNote 6 rfl) (fun r7 u6 pu6 fu6 => ?_)
  try dsimp only at pu6
  have hxu6 := oFr_nil fu6; subst hxu6
  have rr7 := n_rng r7
  refine r_istore_n C (lv' := [(0, .ref (oad E 71)), (1, .int a1), (2, .int a2), (3, .int r7)]) [1, 2, 3, 0] (oDec_at oX12_roundNote 7 rfl) rfl (by decide) rfl ?_
  refine r_aload_n C (j := 0) (oDec_at oX12_roundNote 8 rfl) rfl rfl ?_
  refine r_getF (k := 41) (b := 101) C oCl12 rfl (by decide) flX12_102 rfl rfl rfl (oDec_at oX12_roundNote 9 rfl) ?_
  refine r_iload_n C (j := 1) (oDec_at oX12_roundNote 10 rfl) rfl rfl ?_
  refine r_callSi C miX12_backOf mlX12_395 (ct_X12_backOf l E (s) a1 (by omega)) (by decide) rfl rfl rfl (Nat.le_of_ble_eq_true rfl) (oDec_at oX12_roundNote 11 rfl) (fun r9 u8 pu8 fu8 => ?_)
  try dsimp only at pu8
  have hxu8 := oFr_nil fu8; subst hxu8
  have rr9 := n_rng r9
  refine r_pc C 22 rfl ?_
  refine r_iconst C (oDec_at oX12_roundNote 12 rfl) (v := k1) (by rw [qk1]; rfl) ?_
  refine r_icmp_ne C 37 (oDec_at oX12_roundNote 13 rfl) (by decide) (fun cd10 => ?_) (fun cd10 => ?_)
  · skip
    refine r_iload_n C (j := 3) (oDec_at oX12_roundNote 21 rfl) rfl rfl ?_
    obtain ⟨v12, ev12⟩ : ∃ z : Int32, (s).1 101 r7.toNatClampNeg = z := ⟨_, rfl⟩
    have gv12 : (s.1 101 r7.toNatClampNeg).toInt = v12.toInt := congrArg Int32.toInt (ev12)
    refine r_iald (n := 96) (lo := 0) (hi := 23) C v12 rfl (by decide) rfl rfl ⟨by omega, by omega⟩ (by decide) ev12 rfl rfl (oDec_at oX12_roundNote 22 rfl) (fun b11 b11h => ?_)
    exact r_iret C (oDec_at oX12_roundNote 23 rfl) ⟨_, rfl, by omega⟩
  · skip
    refine r_aload_n C (j := 0) (oDec_at oX12_roundNote 14 rfl) rfl rfl ?_
    refine r_geti (k := 42) (lo := 0) (hi := 96) C v4 oCl12 rfl (by decide) flX12_267 rfl rfl (ev4) rfl rfl (oDec_at oX12_roundNote 15 rfl) (fun _ _ => ?_)
    refine r_iconst C (oDec_at oX12_roundNote 16 rfl) (v := k1) (by rw [qk1]; rfl) ?_
    obtain ⟨v13, ev13⟩ : ∃ z : Int32, z = v4 - k1 := ⟨_, rfl⟩
    have hv13 : v13.toInt = v4.toInt - k1.toInt := n_sub ev13 (by omega) (by omega)
    refine r_isub C v13 (oDec_at oX12_roundNote 17 rfl) ev13 ?_
    refine r_iload_n C (j := 3) (oDec_at oX12_roundNote 18 rfl) rfl rfl ?_
    obtain ⟨v14, ev14⟩ : ∃ z : Int32, z = v13 - r7 := ⟨_, rfl⟩
    have hv14 : v14.toInt = v13.toInt - r7.toInt := n_sub ev14 (by omega) (by omega)
    refine r_isub C v14 (oDec_at oX12_roundNote 19 rfl) ev14 ?_
    refine r_pc C 34 rfl ?_
    refine r_goto C (tgt := 38) (oDec_at oX12_roundNote 20 rfl) (by decide) ?_
    obtain ⟨v16, ev16⟩ : ∃ z : Int32, (s).1 101 v14.toNatClampNeg = z := ⟨_, rfl⟩
    have gv16 : (s.1 101 v14.toNatClampNeg).toInt = v16.toInt := congrArg Int32.toInt (ev16)
    refine r_iald (n := 96) (lo := 0) (hi := 23) C v16 rfl (by decide) rfl rfl ⟨by omega, by omega⟩ (by decide) ev16 rfl rfl (oDec_at oX12_roundNote 22 rfl) (fun b15 b15h => ?_)
    exact r_iret C (oDec_at oX12_roundNote 23 rfl) ⟨_, rfl, by omega⟩
set_option maxHeartbeats 4000000 in
set_option maxRecDepth 100000 in
theorem ct_X12_round (l : Launch) (E : oE) (s : oS) (a1 : Int32)  (hp0 : oBI s) (hp1 : 1 ≤ (s.1 71 38).toInt → 1 ≤ (s.1 71 42).toInt) : oMet l 5 yX12_round cX12_round 7 (some .int) [(12, 58), (12, 60), (12, 61), (12, 62), (12, 63), (84, 9999), (85, 9999)] E s [.ref (oad E 71), .int a1] (oPi (fun r u => True)) := by
  refine oMet.of (lv := [(0, .ref (oad E 71)), (1, .int a1)]) (by decide +kernel) (Nat.le_of_ble_eq_true rfl) rfl (fun J C hT => ?_)
  have C : oC l 5 cX12_round RX12 7 (some .int) [(12, 58), (12, 60), (12, 61), (12, 62), (12, 63), (84, 9999), (85, 9999)] E s (oPi (fun r u => True)) J := C
  obtain ⟨km1000000000, qkm1000000000⟩ : ∃ z : Int32, z = (-1000000000) := ⟨_, rfl⟩
  have ekm1000000000 : km1000000000.toInt = (-1000000000) := by rw [qkm1000000000]; rfl
  obtain ⟨km1, qkm1⟩ : ∃ z : Int32, z = (-1) := ⟨_, rfl⟩
  have ekm1 : km1.toInt = (-1) := by rw [qkm1]; rfl
  obtain ⟨k0, qk0⟩ : ∃ z : Int32, z = 0 := ⟨_, rfl⟩
  have ek0 : k0.toInt = 0 := by rw [qk0]; rfl
  obtain ⟨k1, qk1⟩ : ∃ z : Int32, z = 1 := ⟨_, rfl⟩
  have ek1 : k1.toInt = 1 := by rw [qk1]; rfl
  obtain ⟨k84, qk84⟩ : ∃ z : Int32, z = 84 := ⟨_, rfl⟩
  have ek84 : k84.toInt = 84 := by rw [qk84]; rfl
  have rg1 := n_rng a1
  have htl : (0 : Int) ≤ (s.1 71 42).toInt ∧ (s.1 71 42).toInt ≤ 96 := hT.1 71 42
  have htn : (0 : Int) ≤ (s.1 71 38).toInt ∧ (s.1 71 38).toInt ≤ 24 := hT.1 71 38
  have key : ∀ n : Nat, (∀ (t : oS) (x2 : Int32), (oBI t) → (0 ≤ a1.toInt ∧ a1.toInt ≤ 4499) → (1 ≤ (t.1 71 42).toInt ∧ (t.1 71 42).toInt ≤ 96) → (0 ≤ x2.toInt ∧ x2.toInt ≤ 121) → 200 - x2.toInt ≤ (n : Int) → J t 34 [(0, .ref (oad E 71)), (1, .int a1), (2, .int x2)] []) := by
    intro n
    induction n using Nat.strongRecOn with
    | _ n ih =>
      skip
      · intro t x2  iv0 iv1 iv2 iv3 hmu
        have rx2 := n_rng x2
        refine r_iload_n C (j := 2) (oDec_at oX12_round 17 rfl) rfl rfl ?_
        refine r_iload_n C (j := 1) (oDec_at oX12_round 18 rfl) rfl rfl ?_
        refine r_callSi C miX12_delayOf mlX12_389 (ct_X12_delayOf l E (t) a1 (by omega)) (by decide) rfl rfl rfl (Nat.le_of_ble_eq_true rfl) (oDec_at oX12_round 19 rfl) (fun r2 u1 pu1 fu1 => ?_)
        try dsimp only at pu1
        have hxu1 := oFr_nil fu1; subst hxu1
        have rr2 := n_rng r2
        refine r_aload_n C (j := 0) (oDec_at oX12_round 20 rfl) rfl rfl ?_
        obtain ⟨v3, ev3⟩ : ∃ z : Int32, (t).1 71 42 = z := ⟨_, rfl⟩
        have gv3 : (t.1 71 42).toInt = v3.toInt := congrArg Int32.toInt (ev3)
        refine r_geti (k := 42) (lo := 0) (hi := 96) C v3 oCl12 rfl (by decide) flX12_267 rfl rfl (ev3) rfl rfl (oDec_at oX12_round 21 rfl) (fun b4 b4h => ?_)
        obtain ⟨v5, ev5⟩ : ∃ z : Int32, z = r2 + v3 := ⟨_, rfl⟩
        have hv5 : v5.toInt = r2.toInt + v3.toInt := n_add ev5 (by omega) (by omega)
        refine r_iadd C v5 (oDec_at oX12_round 22 rfl) ev5 ?_
        refine r_pc C 44 rfl ?_
        refine r_icmp_ge C 187 (oDec_at oX12_round 23 rfl) (by decide) (fun cd6 => ?_) (fun cd6 => ?_)
        · skip
          refine r_iconst C (oDec_at oX12_round 99 rfl) (v := km1) (by rw [qkm1]; rfl) ?_
          exact r_iret C (oDec_at oX12_round 100 rfl) ⟨_, rfl, trivial⟩
        · skip
          refine r_aload_n C (j := 0) (oDec_at oX12_round 24 rfl) rfl rfl ?_
          refine r_bipush C (oDec_at oX12_round 25 rfl) (v := k84) (by rw [qk84]; rfl) ?_
          refine r_iload_n C (j := 2) (oDec_at oX12_round 26 rfl) rfl rfl ?_
          have lk7 : ((t).1 71 42).toInt = v3.toInt := congrArg Int32.toInt (ev3)
          refine r_callVi C oCl12 rfl miX12_roundNote mlX12_542 (ct_X12_roundNote l E (t) k84 x2 (by omega) (by omega) (by omega)) (by decide) rfl rfl rfl (Nat.le_of_ble_eq_true rfl) (oDec_at oX12_round 27 rfl) (fun r9 u8 pu8 fu8 => ?_)
          try dsimp only at pu8
          try simp only [lk7] at pu8
          have hxu8 := oFr_nil fu8; subst hxu8
          have rr9 := n_rng r9
          refine r_istore_n C (lv' := [(0, .ref (oad E 71)), (1, .int a1), (2, .int x2), (3, .int r9)]) [1, 2, 3, 0] (oDec_at oX12_round 28 rfl) rfl (by decide) rfl ?_
          refine r_aload_n C (j := 0) (oDec_at oX12_round 29 rfl) rfl rfl ?_
          refine r_pc C 56 rfl ?_
          refine r_iload_n C (j := 1) (oDec_at oX12_round 30 rfl) rfl rfl ?_
          refine r_iload_n C (j := 2) (oDec_at oX12_round 31 rfl) rfl rfl ?_
          have lk10 : ((t).1 71 42).toInt = v3.toInt := congrArg Int32.toInt (ev3)
          refine r_callVi C oCl12 rfl miX12_roundNote mlX12_542 (ct_X12_roundNote l E (t) a1 x2 (by omega) (by omega) (by omega)) (by decide) rfl rfl rfl (Nat.le_of_ble_eq_true rfl) (oDec_at oX12_round 32 rfl) (fun r12 u11 pu11 fu11 => ?_)
          try dsimp only at pu11
          try simp only [lk10] at pu11
          have hxu11 := oFr_nil fu11; subst hxu11
          have rr12 := n_rng r12
          refine r_istore C (lv' := [(0, .ref (oad E 71)), (1, .int a1), (2, .int x2), (3, .int r9), (4, .int r12)]) [1, 2, 3, 4, 0] (oDec_at oX12_round 33 rfl) (by decide) rfl ?_
          refine r_aload_n C (j := 0) (oDec_at oX12_round 34 rfl) rfl rfl ?_
          refine r_bipush C (oDec_at oX12_round 35 rfl) (v := k84) (by rw [qk84]; rfl) ?_
          refine r_pc C 66 rfl ?_
          refine r_iload_n C (j := 2) (oDec_at oX12_round 36 rfl) rfl rfl ?_
          refine r_iconst C (oDec_at oX12_round 37 rfl) (v := k1) (by rw [qk1]; rfl) ?_
          obtain ⟨v13, ev13⟩ : ∃ z : Int32, z = x2 - k1 := ⟨_, rfl⟩
          have hv13 : v13.toInt = x2.toInt - k1.toInt := n_sub ev13 (by omega) (by omega)
          refine r_isub C v13 (oDec_at oX12_round 38 rfl) ev13 ?_
          have lk14 : ((t).1 71 42).toInt = v3.toInt := congrArg Int32.toInt (ev3)
          refine r_callVi C oCl12 rfl miX12_roundNote mlX12_542 (ct_X12_roundNote l E (t) k84 v13 (by omega) (by omega) (by omega)) (by decide) rfl rfl rfl (Nat.le_of_ble_eq_true rfl) (oDec_at oX12_round 39 rfl) (fun r16 u15 pu15 fu15 => ?_)
          try dsimp only at pu15
          try simp only [lk14] at pu15
          have hxu15 := oFr_nil fu15; subst hxu15
          have rr16 := n_rng r16
          refine r_istore C (lv' := [(0, .ref (oad E 71)), (1, .int a1), (2, .int x2), (3, .int r9), (4, .int r12), (5, .int r16)]) [1, 2, 3, 4, 5, 0] (oDec_at oX12_round 40 rfl) (by decide) rfl ?_
          refine r_aload_n C (j := 0) (oDec_at oX12_round 41 rfl) rfl rfl ?_
          refine r_pc C 75 rfl ?_
          refine r_iload_n C (j := 1) (oDec_at oX12_round 42 rfl) rfl rfl ?_
          refine r_iload_n C (j := 2) (oDec_at oX12_round 43 rfl) rfl rfl ?_
          refine r_iconst C (oDec_at oX12_round 44 rfl) (v := k1) (by rw [qk1]; rfl) ?_
          obtain ⟨v17, ev17⟩ : ∃ z : Int32, z = x2 - k1 := ⟨_, rfl⟩
          have hv17 : v17.toInt = x2.toInt - k1.toInt := n_sub ev17 (by omega) (by omega)
          refine r_isub C v17 (oDec_at oX12_round 45 rfl) ev17 ?_
          have lk18 : ((t).1 71 42).toInt = v3.toInt := congrArg Int32.toInt (ev3)
          refine r_callVi C oCl12 rfl miX12_roundNote mlX12_542 (ct_X12_roundNote l E (t) a1 v17 (by omega) (by omega) (by omega)) (by decide) rfl rfl rfl (Nat.le_of_ble_eq_true rfl) (oDec_at oX12_round 46 rfl) (fun r20 u19 pu19 fu19 => ?_)
          try dsimp only at pu19
          try simp only [lk18] at pu19
          have hxu19 := oFr_nil fu19; subst hxu19
          have rr20 := n_rng r20
          refine r_istore C (lv' := [(0, .ref (oad E 71)), (1, .int a1), (2, .int x2), (3, .int r9), (4, .int r12), (5, .int r16), (6, .int r20)]) [1, 2, 3, 4, 5, 6, 0] (oDec_at oX12_round 47 rfl) (by decide) rfl ?_
          refine r_pc C 84 rfl ?_
          refine r_aload_n C (j := 0) (oDec_at oX12_round 48 rfl) rfl rfl ?_
          refine r_aload_n C (j := 0) (oDec_at oX12_round 49 rfl) rfl rfl ?_
          refine r_bipush C (oDec_at oX12_round 50 rfl) (v := k84) (by rw [qk84]; rfl) ?_
          refine r_iload_n C (j := 3) (oDec_at oX12_round 51 rfl) rfl rfl ?_
          refine r_callVi C oCl12 rfl miX12_stepBy mlX12_408 (ct_X12_stepBy l E (t) k84 r9 (by omega) (by omega)) (by decide) rfl rfl rfl (Nat.le_of_ble_eq_true rfl) (oDec_at oX12_round 52 rfl) (fun r22 u21 pu21 fu21 => ?_)
          try dsimp only at pu21
          have hxu21 := oFr_nil fu21; subst hxu21
          have rr22 := n_rng r22
          refine r_puti (k := 60) (lo := (-2147483648)) (hi := 2147483647) C oCl12 rfl (by decide) flX12_434 rfl rfl rfl rfl rfl rfl rfl rfl (n_rng _) (oDec_at oX12_round 53 rfl) ?_
          refine r_pc C 95 rfl ?_
          refine r_aload_n C (j := 0) (oDec_at oX12_round 54 rfl) rfl rfl ?_
          refine r_aload_n C (j := 0) (oDec_at oX12_round 55 rfl) rfl rfl ?_
          refine r_iload_n C (j := 1) (oDec_at oX12_round 56 rfl) rfl rfl ?_
          refine r_iload C (j := 4) (oDec_at oX12_round 57 rfl) rfl ?_
          refine r_callVi C oCl12 rfl miX12_stepBy mlX12_408 (ct_X12_stepBy l E ((pI t 71 60 r22)) a1 r12 (by omega) (by omega)) (by decide) rfl rfl rfl (Nat.le_of_ble_eq_true rfl) (oDec_at oX12_round 58 rfl) (fun r24 u23 pu23 fu23 => ?_)
          try dsimp only at pu23
          have hxu23 := oFr_nil fu23; subst hxu23
          have rr24 := n_rng r24
          refine r_puti (k := 61) (lo := (-2147483648)) (hi := 2147483647) C oCl12 rfl (by decide) flX12_437 rfl rfl rfl rfl rfl rfl rfl rfl (n_rng _) (oDec_at oX12_round 59 rfl) ?_
          refine r_pc C 106 rfl ?_
          refine r_aload_n C (j := 0) (oDec_at oX12_round 60 rfl) rfl rfl ?_
          refine r_aload_n C (j := 0) (oDec_at oX12_round 61 rfl) rfl rfl ?_
          refine r_bipush C (oDec_at oX12_round 62 rfl) (v := k84) (by rw [qk84]; rfl) ?_
          refine r_iload C (j := 5) (oDec_at oX12_round 63 rfl) rfl ?_
          refine r_callVi C oCl12 rfl miX12_stepBy mlX12_408 (ct_X12_stepBy l E ((pI (pI t 71 60 r22) 71 61 r24)) k84 r16 (by omega) (by omega)) (by decide) rfl rfl rfl (Nat.le_of_ble_eq_true rfl) (oDec_at oX12_round 64 rfl) (fun r26 u25 pu25 fu25 => ?_)
          try dsimp only at pu25
          have hxu25 := oFr_nil fu25; subst hxu25
          have rr26 := n_rng r26
          refine r_puti (k := 62) (lo := (-2147483648)) (hi := 2147483647) C oCl12 rfl (by decide) flX12_443 rfl rfl rfl rfl rfl rfl rfl rfl (n_rng _) (oDec_at oX12_round 65 rfl) ?_
          refine r_pc C 118 rfl ?_
          refine r_aload_n C (j := 0) (oDec_at oX12_round 66 rfl) rfl rfl ?_
          refine r_aload_n C (j := 0) (oDec_at oX12_round 67 rfl) rfl rfl ?_
          refine r_iload_n C (j := 1) (oDec_at oX12_round 68 rfl) rfl rfl ?_
          refine r_iload C (j := 6) (oDec_at oX12_round 69 rfl) rfl ?_
          refine r_callVi C oCl12 rfl miX12_stepBy mlX12_408 (ct_X12_stepBy l E ((pI (pI (pI t 71 60 r22) 71 61 r24) 71 62 r26)) a1 r20 (by omega) (by omega)) (by decide) rfl rfl rfl (Nat.le_of_ble_eq_true rfl) (oDec_at oX12_round 70 rfl) (fun r28 u27 pu27 fu27 => ?_)
          try dsimp only at pu27
          have hxu27 := oFr_nil fu27; subst hxu27
          have rr28 := n_rng r28
          refine r_puti (k := 63) (lo := (-2147483648)) (hi := 2147483647) C oCl12 rfl (by decide) flX12_446 rfl rfl rfl rfl rfl rfl rfl rfl (n_rng _) (oDec_at oX12_round 71 rfl) ?_
          refine r_pc C 129 rfl ?_
          refine r_aload_n C (j := 0) (oDec_at oX12_round 72 rfl) rfl rfl ?_
          refine r_geti (k := 60) (lo := (-2147483648)) (hi := 2147483647) C r22 oCl12 rfl (by decide) flX12_434 rfl rfl (((pI_ne (a := 71) (b := 60) (c := 71) (k := 63) _ _ (Or.inr (by decide)))).trans (((pI_ne (a := 71) (b := 60) (c := 71) (k := 62) _ _ (Or.inr (by decide)))).trans (((pI_ne (a := 71) (b := 60) (c := 71) (k := 61) _ _ (Or.inr (by decide)))).trans ((pI_self _ _ _ _))))) rfl rfl (oDec_at oX12_round 73 rfl) (fun _ _ => ?_)
          refine r_ldcw C (v := km1000000000) (by rw [qkm1000000000]; exact kcX12_398) (oDec_at oX12_round 74 rfl) ?_
          refine r_icmp_eq C 181 (oDec_at oX12_round 75 rfl) (by decide) (fun cd29 => ?_) (fun cd29 => ?_)
          · skip
            obtain ⟨v30, ev30⟩ : ∃ z : Int32, x2 + Int32.ofInt 1 = z := ⟨_, rfl⟩
            have hv30 : v30.toInt = x2.toInt + 1 := n_inc ev30 (by decide) (by omega) (by omega)
            refine r_iinc C (j := 2) (lv' := [(0, .ref (oad E 71)), (1, .int a1), (2, .int v30), (3, .int r9), (4, .int r12), (5, .int r16), (6, .int r20)]) v30 [1, 2, 0, 3, 4, 5, 6] (oDec_at oX12_round 97 rfl) rfl ev30 (by decide) rfl ?_
            refine r_goto C (tgt := 34) (oDec_at oX12_round 98 rfl) (by decide) ?_
            have lk31 : (((pI (pI (pI (pI t 71 60 r22) 71 61 r24) 71 62 r26) 71 63 r28)).1 71 42).toInt = v3.toInt := congrArg Int32.toInt (((pI_ne (a := 71) (b := 42) (c := 71) (k := 63) _ _ (Or.inr (by decide)))).trans (((pI_ne (a := 71) (b := 42) (c := 71) (k := 62) _ _ (Or.inr (by decide)))).trans (((pI_ne (a := 71) (b := 42) (c := 71) (k := 61) _ _ (Or.inr (by decide)))).trans (((pI_ne (a := 71) (b := 42) (c := 71) (k := 60) _ _ (Or.inr (by decide)))).trans (ev3)))))
            refine r_pick C [0, 1, 2] rfl ?_
            exact (ih (n - 1) (by omega)) ((pI (pI (pI (pI t 71 60 r22) 71 61 r24) 71 62 r26) 71 63 r28)) v30  (oBI_fr (oFr_oneI (q := 12) (m := 63) rfl (by rfl)) rfl (oBI_fr (oFr_oneI (q := 12) (m := 62) rfl (by rfl)) rfl (oBI_fr (oFr_oneI (q := 12) (m := 61) rfl (by rfl)) rfl (oBI_fr (oFr_oneI (q := 12) (m := 60) rfl (by rfl)) rfl iv0)))) (by omega) (by omega) (by omega) (by omega)
          · skip
            refine r_aload_n C (j := 0) (oDec_at oX12_round 76 rfl) rfl rfl ?_
            refine r_geti (k := 61) (lo := (-2147483648)) (hi := 2147483647) C r24 oCl12 rfl (by decide) flX12_437 rfl rfl (((pI_ne (a := 71) (b := 61) (c := 71) (k := 63) _ _ (Or.inr (by decide)))).trans (((pI_ne (a := 71) (b := 61) (c := 71) (k := 62) _ _ (Or.inr (by decide)))).trans ((pI_self _ _ _ _)))) rfl rfl (oDec_at oX12_round 77 rfl) (fun _ _ => ?_)
            refine r_ldcw C (v := km1000000000) (by rw [qkm1000000000]; exact kcX12_398) (oDec_at oX12_round 78 rfl) ?_
            refine r_icmp_eq C 181 (oDec_at oX12_round 79 rfl) (by decide) (fun cd32 => ?_) (fun cd32 => ?_)
            · skip
              obtain ⟨v33, ev33⟩ : ∃ z : Int32, x2 + Int32.ofInt 1 = z := ⟨_, rfl⟩
              have hv33 : v33.toInt = x2.toInt + 1 := n_inc ev33 (by decide) (by omega) (by omega)
              refine r_iinc C (j := 2) (lv' := [(0, .ref (oad E 71)), (1, .int a1), (2, .int v33), (3, .int r9), (4, .int r12), (5, .int r16), (6, .int r20)]) v33 [1, 2, 0, 3, 4, 5, 6] (oDec_at oX12_round 97 rfl) rfl ev33 (by decide) rfl ?_
              refine r_goto C (tgt := 34) (oDec_at oX12_round 98 rfl) (by decide) ?_
              have lk34 : (((pI (pI (pI (pI t 71 60 r22) 71 61 r24) 71 62 r26) 71 63 r28)).1 71 42).toInt = v3.toInt := congrArg Int32.toInt (((pI_ne (a := 71) (b := 42) (c := 71) (k := 63) _ _ (Or.inr (by decide)))).trans (((pI_ne (a := 71) (b := 42) (c := 71) (k := 62) _ _ (Or.inr (by decide)))).trans (((pI_ne (a := 71) (b := 42) (c := 71) (k := 61) _ _ (Or.inr (by decide)))).trans (((pI_ne (a := 71) (b := 42) (c := 71) (k := 60) _ _ (Or.inr (by decide)))).trans (ev3)))))
              refine r_pick C [0, 1, 2] rfl ?_
              exact (ih (n - 1) (by omega)) ((pI (pI (pI (pI t 71 60 r22) 71 61 r24) 71 62 r26) 71 63 r28)) v33  (oBI_fr (oFr_oneI (q := 12) (m := 63) rfl (by rfl)) rfl (oBI_fr (oFr_oneI (q := 12) (m := 62) rfl (by rfl)) rfl (oBI_fr (oFr_oneI (q := 12) (m := 61) rfl (by rfl)) rfl (oBI_fr (oFr_oneI (q := 12) (m := 60) rfl (by rfl)) rfl iv0)))) (by omega) (by omega) (by omega) (by omega)
            · skip
              refine r_iload_n C (j := 3) (oDec_at oX12_round 80 rfl) rfl rfl ?_
              refine r_iload C (j := 5) (oDec_at oX12_round 81 rfl) rfl ?_
              refine r_icmp_ne C 165 (oDec_at oX12_round 82 rfl) (by decide) (fun cd35 => ?_) (fun cd35 => ?_)
              · skip
                refine r_aload_n C (j := 0) (oDec_at oX12_round 87 rfl) rfl rfl ?_
                refine r_iload_n C (j := 2) (oDec_at oX12_round 88 rfl) rfl rfl ?_
                refine r_iconst C (oDec_at oX12_round 89 rfl) (v := k0) (by rw [qk0]; rfl) ?_
                refine r_callVv C oCl12 rfl miX12_asksAll mlX12_453 (ct_X12_asksAll l E ((pI (pI (pI (pI t 71 60 r22) 71 61 r24) 71 62 r26) 71 63 r28)) x2 k0 (by omega)) (by decide) rfl rfl rfl (Nat.le_of_ble_eq_true rfl) (oDec_at oX12_round 90 rfl) (fun u36 pu36 fu36 => ?_)
                try dsimp only at pu36
                refine r_aload_n C (j := 0) (oDec_at oX12_round 91 rfl) rfl rfl ?_
                refine r_callVi C oCl12 rfl miX12_firstRule mlX12_457 (ct_X12_firstRule l E (u36)  (oBI_fr fu36 rfl (oBI_fr (oFr_oneI (q := 12) (m := 63) rfl (by rfl)) rfl (oBI_fr (oFr_oneI (q := 12) (m := 62) rfl (by rfl)) rfl (oBI_fr (oFr_oneI (q := 12) (m := 61) rfl (by rfl)) rfl (oBI_fr (oFr_oneI (q := 12) (m := 60) rfl (by rfl)) rfl iv0)))))) (by decide) rfl rfl rfl (Nat.le_of_ble_eq_true rfl) (oDec_at oX12_round 92 rfl) (fun r39 u38 pu38 fu38 => ?_)
                try dsimp only at pu38
                have rr39 := n_rng r39
                refine r_pc C 175 rfl ?_
                refine r_iconst C (oDec_at oX12_round 93 rfl) (v := km1) (by rw [qkm1]; rfl) ?_
                refine r_icmp_eq C 181 (oDec_at oX12_round 94 rfl) (by decide) (fun cd40 => ?_) (fun cd40 => ?_)
                · skip
                  obtain ⟨v41, ev41⟩ : ∃ z : Int32, x2 + Int32.ofInt 1 = z := ⟨_, rfl⟩
                  have hv41 : v41.toInt = x2.toInt + 1 := n_inc ev41 (by decide) (by omega) (by omega)
                  refine r_iinc C (j := 2) (lv' := [(0, .ref (oad E 71)), (1, .int a1), (2, .int v41), (3, .int r9), (4, .int r12), (5, .int r16), (6, .int r20)]) v41 [1, 2, 0, 3, 4, 5, 6] (oDec_at oX12_round 97 rfl) rfl ev41 (by decide) rfl ?_
                  refine r_goto C (tgt := 34) (oDec_at oX12_round 98 rfl) (by decide) ?_
                  have lk42 : ((u38).1 71 42).toInt = v3.toInt := congrArg Int32.toInt (((fu38 71 42 rfl).1).trans (((fu36 71 42 rfl).1).trans (((pI_ne (a := 71) (b := 42) (c := 71) (k := 63) _ _ (Or.inr (by decide)))).trans (((pI_ne (a := 71) (b := 42) (c := 71) (k := 62) _ _ (Or.inr (by decide)))).trans (((pI_ne (a := 71) (b := 42) (c := 71) (k := 61) _ _ (Or.inr (by decide)))).trans (((pI_ne (a := 71) (b := 42) (c := 71) (k := 60) _ _ (Or.inr (by decide)))).trans (ev3)))))))
                  refine r_pick C [0, 1, 2] rfl ?_
                  exact (ih (n - 1) (by omega)) (u38) v41  (oBI_fr fu38 rfl (oBI_fr fu36 rfl (oBI_fr (oFr_oneI (q := 12) (m := 63) rfl (by rfl)) rfl (oBI_fr (oFr_oneI (q := 12) (m := 62) rfl (by rfl)) rfl (oBI_fr (oFr_oneI (q := 12) (m := 61) rfl (by rfl)) rfl (oBI_fr (oFr_oneI (q := 12) (m := 60) rfl (by rfl)) rfl iv0)))))) (by omega) (by omega) (by omega) (by omega)
                · skip
                  refine r_iload_n C (j := 2) (oDec_at oX12_round 95 rfl) rfl rfl ?_
                  exact r_iret C (oDec_at oX12_round 96 rfl) ⟨_, rfl, trivial⟩
              · skip
                refine r_iload C (j := 4) (oDec_at oX12_round 83 rfl) rfl ?_
                refine r_iload C (j := 6) (oDec_at oX12_round 84 rfl) rfl ?_
                refine r_icmp_ne C 165 (oDec_at oX12_round 85 rfl) (by decide) (fun cd43 => ?_) (fun cd43 => ?_)
                · skip
                  refine r_aload_n C (j := 0) (oDec_at oX12_round 87 rfl) rfl rfl ?_
                  refine r_iload_n C (j := 2) (oDec_at oX12_round 88 rfl) rfl rfl ?_
                  refine r_iconst C (oDec_at oX12_round 89 rfl) (v := k0) (by rw [qk0]; rfl) ?_
                  refine r_callVv C oCl12 rfl miX12_asksAll mlX12_453 (ct_X12_asksAll l E ((pI (pI (pI (pI t 71 60 r22) 71 61 r24) 71 62 r26) 71 63 r28)) x2 k0 (by omega)) (by decide) rfl rfl rfl (Nat.le_of_ble_eq_true rfl) (oDec_at oX12_round 90 rfl) (fun u44 pu44 fu44 => ?_)
                  try dsimp only at pu44
                  refine r_aload_n C (j := 0) (oDec_at oX12_round 91 rfl) rfl rfl ?_
                  refine r_callVi C oCl12 rfl miX12_firstRule mlX12_457 (ct_X12_firstRule l E (u44)  (oBI_fr fu44 rfl (oBI_fr (oFr_oneI (q := 12) (m := 63) rfl (by rfl)) rfl (oBI_fr (oFr_oneI (q := 12) (m := 62) rfl (by rfl)) rfl (oBI_fr (oFr_oneI (q := 12) (m := 61) rfl (by rfl)) rfl (oBI_fr (oFr_oneI (q := 12) (m := 60) rfl (by rfl)) rfl iv0)))))) (by decide) rfl rfl rfl (Nat.le_of_ble_eq_true rfl) (oDec_at oX12_round 92 rfl) (fun r47 u46 pu46 fu46 => ?_)
                  try dsimp only at pu46
                  have rr47 := n_rng r47
                  refine r_pc C 175 rfl ?_
                  refine r_iconst C (oDec_at oX12_round 93 rfl) (v := km1) (by rw [qkm1]; rfl) ?_
                  refine r_icmp_eq C 181 (oDec_at oX12_round 94 rfl) (by decide) (fun cd48 => ?_) (fun cd48 => ?_)
                  · skip
                    obtain ⟨v49, ev49⟩ : ∃ z : Int32, x2 + Int32.ofInt 1 = z := ⟨_, rfl⟩
                    have hv49 : v49.toInt = x2.toInt + 1 := n_inc ev49 (by decide) (by omega) (by omega)
                    refine r_iinc C (j := 2) (lv' := [(0, .ref (oad E 71)), (1, .int a1), (2, .int v49), (3, .int r9), (4, .int r12), (5, .int r16), (6, .int r20)]) v49 [1, 2, 0, 3, 4, 5, 6] (oDec_at oX12_round 97 rfl) rfl ev49 (by decide) rfl ?_
                    refine r_goto C (tgt := 34) (oDec_at oX12_round 98 rfl) (by decide) ?_
                    have lk50 : ((u46).1 71 42).toInt = v3.toInt := congrArg Int32.toInt (((fu46 71 42 rfl).1).trans (((fu44 71 42 rfl).1).trans (((pI_ne (a := 71) (b := 42) (c := 71) (k := 63) _ _ (Or.inr (by decide)))).trans (((pI_ne (a := 71) (b := 42) (c := 71) (k := 62) _ _ (Or.inr (by decide)))).trans (((pI_ne (a := 71) (b := 42) (c := 71) (k := 61) _ _ (Or.inr (by decide)))).trans (((pI_ne (a := 71) (b := 42) (c := 71) (k := 60) _ _ (Or.inr (by decide)))).trans (ev3)))))))
                    refine r_pick C [0, 1, 2] rfl ?_
                    exact (ih (n - 1) (by omega)) (u46) v49  (oBI_fr fu46 rfl (oBI_fr fu44 rfl (oBI_fr (oFr_oneI (q := 12) (m := 63) rfl (by rfl)) rfl (oBI_fr (oFr_oneI (q := 12) (m := 62) rfl (by rfl)) rfl (oBI_fr (oFr_oneI (q := 12) (m := 61) rfl (by rfl)) rfl (oBI_fr (oFr_oneI (q := 12) (m := 60) rfl (by rfl)) rfl iv0)))))) (by omega) (by omega) (by omega) (by omega)
                  · skip
                    refine r_iload_n C (j := 2) (oDec_at oX12_round 95 rfl) rfl rfl ?_
                    exact r_iret C (oDec_at oX12_round 96 rfl) ⟨_, rfl, trivial⟩
                · skip
                  refine r_goto C (tgt := 181) (oDec_at oX12_round 86 rfl) (by decide) ?_
                  obtain ⟨v51, ev51⟩ : ∃ z : Int32, x2 + Int32.ofInt 1 = z := ⟨_, rfl⟩
                  have hv51 : v51.toInt = x2.toInt + 1 := n_inc ev51 (by decide) (by omega) (by omega)
                  refine r_iinc C (j := 2) (lv' := [(0, .ref (oad E 71)), (1, .int a1), (2, .int v51), (3, .int r9), (4, .int r12), (5, .int r16), (6, .int r20)]) v51 [1, 2, 0, 3, 4, 5, 6] (oDec_at oX12_round 97 rfl) rfl ev51 (by decide) rfl ?_
                  refine r_goto C (tgt := 34) (oDec_at oX12_round 98 rfl) (by decide) ?_
                  have lk52 : (((pI (pI (pI (pI t 71 60 r22) 71 61 r24) 71 62 r26) 71 63 r28)).1 71 42).toInt = v3.toInt := congrArg Int32.toInt (((pI_ne (a := 71) (b := 42) (c := 71) (k := 63) _ _ (Or.inr (by decide)))).trans (((pI_ne (a := 71) (b := 42) (c := 71) (k := 62) _ _ (Or.inr (by decide)))).trans (((pI_ne (a := 71) (b := 42) (c := 71) (k := 61) _ _ (Or.inr (by decide)))).trans (((pI_ne (a := 71) (b := 42) (c := 71) (k := 60) _ _ (Or.inr (by decide)))).trans (ev3)))))
                  refine r_pick C [0, 1, 2] rfl ?_
                  exact (ih (n - 1) (by omega)) ((pI (pI (pI (pI t 71 60 r22) 71 61 r24) 71 62 r26) 71 63 r28)) v51  (oBI_fr (oFr_oneI (q := 12) (m := 63) rfl (by rfl)) rfl (oBI_fr (oFr_oneI (q := 12) (m := 62) rfl (by rfl)) rfl (oBI_fr (oFr_oneI (q := 12) (m := 61) rfl (by rfl)) rfl (oBI_fr (oFr_oneI (q := 12) (m := 60) rfl (by rfl)) rfl iv0)))) (by omega) (by omega) (by omega) (by omega)
  refine r_iload_n C (j := 1) (oDec_at oX12_round 0 rfl) rfl rfl ?_
  refine r_callSi C miX12_isCode mlX12_423 (ct_X12_isCode l E (s) a1 ) (by decide) rfl rfl rfl (Nat.le_of_ble_eq_true rfl) (oDec_at oX12_round 1 rfl) (fun r54 u53 pu53 fu53 => ?_)
  try dsimp only at pu53
  obtain ⟨pu53_0, pu53_1⟩ := pu53
  have hxu53 := oFr_nil fu53; subst hxu53
  have rr54 := n_rng r54
  refine r_if_eq C 27 (oDec_at oX12_round 2 rfl) (by decide) (fun cd55 => ?_) (fun cd55 => ?_)
  · skip
    refine r_iconst C (oDec_at oX12_round 12 rfl) (v := km1) (by rw [qkm1]; rfl) ?_
    exact r_iret C (oDec_at oX12_round 13 rfl) ⟨_, rfl, trivial⟩
  · skip
    refine r_iload_n C (j := 1) (oDec_at oX12_round 3 rfl) rfl rfl ?_
    refine r_bipush C (oDec_at oX12_round 4 rfl) (v := k84) (by rw [qk84]; rfl) ?_
    refine r_icmp_eq C 27 (oDec_at oX12_round 5 rfl) (by decide) (fun cd56 => ?_) (fun cd56 => ?_)
    · skip
      refine r_iconst C (oDec_at oX12_round 12 rfl) (v := km1) (by rw [qkm1]; rfl) ?_
      exact r_iret C (oDec_at oX12_round 13 rfl) ⟨_, rfl, trivial⟩
    · skip
      refine r_iload_n C (j := 1) (oDec_at oX12_round 6 rfl) rfl rfl ?_
      refine r_callSi C miX12_paceOf mlX12_385 (ct_X12_paceOf l E (s) a1 (by omega)) (by decide) rfl rfl rfl (Nat.le_of_ble_eq_true rfl) (oDec_at oX12_round 7 rfl) (fun r58 u57 pu57 fu57 => ?_)
      try dsimp only at pu57
      have hxu57 := oFr_nil fu57; subst hxu57
      have rr58 := n_rng r58
      refine r_if_ne C 27 (oDec_at oX12_round 8 rfl) (by decide) (fun cd59 => ?_) (fun cd59 => ?_)
      · skip
        refine r_iconst C (oDec_at oX12_round 12 rfl) (v := km1) (by rw [qkm1]; rfl) ?_
        exact r_iret C (oDec_at oX12_round 13 rfl) ⟨_, rfl, trivial⟩
      · skip
        refine r_aload_n C (j := 0) (oDec_at oX12_round 9 rfl) rfl rfl ?_
        obtain ⟨v60, ev60⟩ : ∃ z : Int32, (s).1 71 38 = z := ⟨_, rfl⟩
        have gv60 : (s.1 71 38).toInt = v60.toInt := congrArg Int32.toInt (ev60)
        refine r_geti (k := 38) (lo := 0) (hi := 24) C v60 oCl12 rfl (by decide) flX12_261 rfl rfl (ev60) rfl rfl (oDec_at oX12_round 10 rfl) (fun b61 b61h => ?_)
        refine r_if_ne C 29 (oDec_at oX12_round 11 rfl) (by decide) (fun cd62 => ?_) (fun cd62 => ?_)
        · skip
          refine r_iload_n C (j := 1) (oDec_at oX12_round 14 rfl) rfl rfl ?_
          refine r_callSi C miX12_delayOf mlX12_389 (ct_X12_delayOf l E (s) a1 (by omega)) (by decide) rfl rfl rfl (Nat.le_of_ble_eq_true rfl) (oDec_at oX12_round 15 rfl) (fun r64 u63 pu63 fu63 => ?_)
          try dsimp only at pu63
          have hxu63 := oFr_nil fu63; subst hxu63
          have rr64 := n_rng r64
          refine r_istore_n C (lv' := [(0, .ref (oad E 71)), (1, .int a1), (2, .int r64)]) [1, 2, 0] (oDec_at oX12_round 16 rfl) rfl (by decide) rfl ?_
          exact (key (200 - r64.toInt).toNat) (s) r64  hp0 (by omega) (by omega) (by omega) (by omega)
        · skip
          refine r_iconst C (oDec_at oX12_round 12 rfl) (v := km1) (by rw [qkm1]; rfl) ?_
          exact r_iret C (oDec_at oX12_round 13 rfl) ⟨_, rfl, trivial⟩
