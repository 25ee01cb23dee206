set_option maxHeartbeats 4000000 in
set_option maxRecDepth 100000 in
theorem ct9_X12_shortest (l : Launch) (E : oE) (s : oS) (a1 : Int32) (a2 : Int32) (R : Int) (W : Nat → List Int) (me : Int) (hp0 : oBI s) (hp1 : oLT s) (hp2 : 1 ≤ (s.1 71 38).toInt → 1 ≤ (s.1 71 42).toInt) (hp3 : owBE R W s) (hp4 : owMM me s) (hp5 : owLO s) : oMet l 8 yX12_shortest cX12_shortest 5 (some .int) [(12, 38), (12, 42), (12, 43), (12, 58), (12, 60), (12, 61), (12, 62), (12, 63), (12, 65), (12, 69), (12, 77), (75, 9999), (76, 9999), (77, 9999), (84, 9999), (85, 9999), (90, 9999), (91, 9999)] E s [.ref (oad E 71), .int a1, .int a2] (oPi (fun r u => (oLT u) ∧ (1 ≤ (u.1 71 38).toInt → 1 ≤ (u.1 71 42).toInt) ∧ (owSh R W me a1.toInt a2.toInt r.toInt))) := by
  refine oMet.of (lv := [(0, .ref (oad E 71)), (1, .int a1), (2, .int a2)]) (by decide +kernel) (Nat.le_of_ble_eq_true rfl) rfl (fun J C hT => ?_)
  have C : oC l 8 cX12_shortest RX12 5 (some .int) [(12, 38), (12, 42), (12, 43), (12, 58), (12, 60), (12, 61), (12, 62), (12, 63), (12, 65), (12, 69), (12, 77), (75, 9999), (76, 9999), (77, 9999), (84, 9999), (85, 9999), (90, 9999), (91, 9999)] E s (oPi (fun r u => (oLT u) ∧ (1 ≤ (u.1 71 38).toInt → 1 ≤ (u.1 71 42).toInt) ∧ (owSh R W me a1.toInt a2.toInt r.toInt))) J := C
  obtain ⟨km1, qkm1⟩ : ∃ z : Int32, z = (-1) := ⟨_, rfl⟩
  have ekm1 : km1.toInt = (-1) := by rw [qkm1]; rfl
  obtain ⟨k2, qk2⟩ : ∃ z : Int32, z = 2 := ⟨_, rfl⟩
  have ek2 : k2.toInt = 2 := by rw [qk2]; rfl
  obtain ⟨k7, qk7⟩ : ∃ z : Int32, z = 7 := ⟨_, rfl⟩
  have ek7 : k7.toInt = 7 := by rw [qk7]; rfl
  obtain ⟨j0, qj0⟩ : ∃ z : Int64, z = 0 := ⟨_, rfl⟩
  have ej0 : j0.toInt = 0 := by rw [qj0]; rfl
  obtain ⟨j4, qj4⟩ : ∃ z : Int64, z = 4 := ⟨_, rfl⟩
  have ej4 : j4.toInt = 4 := by rw [qj4]; rfl
  have rg1 := n_rng a1
  have rg2 := n_rng a2
  have hme9 : 2 ≤ me ∧ me ≤ 12 := by have h9 : (2 : Int) ≤ (s.1 71 53).toInt ∧ (s.1 71 53).toInt ≤ 12 := hT.1 71 53; have h8 : (s.1 71 53).toInt = me := hp4; omega
  have key : ∀ n : Nat, (∀ (t : oS) (x3 : Int32) (x4 : Int32), (oBI t) → (oLT t) → (1 ≤ (t.1 71 38).toInt → 1 ≤ (t.1 71 42).toInt) → (oAT t) → (0 ≤ a1.toInt ∧ a1.toInt ≤ 4499) → (0 ≤ a2.toInt ∧ a2.toInt ≤ 4) → (2 ≤ x4.toInt ∧ x4.toInt ≤ 7) → (owBE R W t) → (owMM me t) → (owLO t) → (a1.toInt ≠ 84) → (owSq R W me a1.toInt a2.toInt x4.toInt x3.toInt) → 8 - x4.toInt ≤ (n : Int) → J t 30 [(0, .ref (oad E 71)), (1, .int a1), (2, .int a2), (3, .int x3), (4, .int x4)] []) := by
    intro n
    induction n using Nat.strongRecOn with
    | _ n ih =>
      skip
      · intro t x3 x4  iv0 iv1 iv2 iv3 iv4 iv5 iv6 iv7 iv8 iv9 iv10 iv11 hmu
        have rx3 := n_rng x3
        have rx4 := n_rng x4
        refine r_iload C (j := 4) (oDec_at oX12_shortest 17 rfl) rfl ?_
        refine r_bipush C (oDec_at oX12_shortest 18 rfl) (v := k7) (by rw [qk7]; rfl) ?_
        refine r_icmp_ge C 62 (oDec_at oX12_shortest 19 rfl) (by decide) (fun cd1 => ?_) (fun cd1 => ?_)
        · skip
          refine r_aload_n C (j := 0) (oDec_at oX12_shortest 33 rfl) rfl rfl ?_
          refine r_callVv C oCl12 rfl miX12_takesBack mlX12_565 (ct_X12_takesBack l E (t)  iv3) (by decide) rfl rfl rfl (Nat.le_of_ble_eq_true rfl) (oDec_at oX12_shortest 34 rfl) (fun u2 pu2 fu2 => ?_)
          try dsimp only at pu2
          obtain ⟨pu2_0, pu2_1, pu2_2⟩ := pu2
          refine r_iload_n C (j := 3) (oDec_at oX12_shortest 35 rfl) rfl rfl ?_
          exact r_iret C (oDec_at oX12_shortest 36 rfl) ⟨_, rfl, ⟨pu2_0, by omega, owSh_e (by omega) iv11 (by omega) (by omega)⟩⟩
        · skip
          refine r_iload_n C (j := 3) (oDec_at oX12_shortest 20 rfl) rfl rfl ?_
          refine r_iconst C (oDec_at oX12_shortest 21 rfl) (v := km1) (by rw [qkm1]; rfl) ?_
          refine r_icmp_ne C 62 (oDec_at oX12_shortest 22 rfl) (by decide) (fun cd4 => ?_) (fun cd4 => ?_)
          · skip
            refine r_aload_n C (j := 0) (oDec_at oX12_shortest 33 rfl) rfl rfl ?_
            refine r_callVv C oCl12 rfl miX12_takesBack mlX12_565 (ct_X12_takesBack l E (t)  iv3) (by decide) rfl rfl rfl (Nat.le_of_ble_eq_true rfl) (oDec_at oX12_shortest 34 rfl) (fun u5 pu5 fu5 => ?_)
            try dsimp only at pu5
            obtain ⟨pu5_0, pu5_1, pu5_2⟩ := pu5
            refine r_iload_n C (j := 3) (oDec_at oX12_shortest 35 rfl) rfl rfl ?_
            exact r_iret C (oDec_at oX12_shortest 36 rfl) ⟨_, rfl, ⟨pu5_0, by omega, owSh_e (by omega) iv11 (by omega) (by omega)⟩⟩
          · skip
            refine r_aload_n C (j := 0) (oDec_at oX12_shortest 23 rfl) rfl rfl ?_
            refine r_iload_n C (j := 1) (oDec_at oX12_shortest 24 rfl) rfl rfl ?_
            refine r_iload C (j := 4) (oDec_at oX12_shortest 25 rfl) rfl ?_
            refine r_iload_n C (j := 2) (oDec_at oX12_shortest 26 rfl) rfl rfl ?_
            refine r_callVi C oCl12 rfl miX12_makes mlX12_562 (ct9_X12_makes l E (t) a1 x4 a2 (R) (W) (me) iv0 (by omega) (by omega) (by omega) iv7 iv8 iv9 (by omega) (by omega)) (by decide) rfl rfl rfl (Nat.le_of_ble_eq_true rfl) (oDec_at oX12_shortest 27 rfl) (fun r8 u7 pu7 fu7 => ?_)
            try dsimp only at pu7
            obtain ⟨pu7_0, pu7_1, pu7_2, pu7_3, pu7_4⟩ := pu7
            have rr8 := n_rng r8
            have hm19 := pu7_3
            have hm09 := pu7_4
            refine r_if_eq C 56 (oDec_at oX12_shortest 28 rfl) (by decide) (fun cd9 => ?_) (fun cd9 => ?_)
            · skip
              clear pu7_3
              replace pu7_4 := pu7_4 (by omega)
              obtain ⟨v10, ev10⟩ : ∃ z : Int32, x4 + Int32.ofInt 1 = z := ⟨_, rfl⟩
              have hv10 : v10.toInt = x4.toInt + 1 := n_inc ev10 (by decide) (by omega) (by omega)
              refine r_iinc C (j := 4) (lv' := [(0, .ref (oad E 71)), (1, .int a1), (2, .int a2), (3, .int x3), (4, .int v10)]) v10 [1, 2, 3, 4, 0] (oDec_at oX12_shortest 31 rfl) rfl ev10 (by decide) rfl ?_
              refine r_goto C (tgt := 30) (oDec_at oX12_shortest 32 rfl) (by decide) ?_
              exact (ih (n - 1) (by omega)) (u7) x3 v10  (oBI_fr fu7 rfl iv0) pu7_1 (by omega) (oAT_fr fu7 rfl iv3) (by omega) (by omega) (by omega) (owBE_fr fu7 rfl iv7) (owMM_fr fu7 rfl iv8) (owLO_fr fu7 rfl iv9) (by omega) (by first | exact owSq_y iv11 (by omega) (hm19 (by omega)) (by omega) (by omega) (by omega) | exact owSq_n iv11 (by omega) (hm09 (by omega)) (by omega) (by omega) | exact owSq_0 (by omega) (by omega)) (by omega)
            · skip
              replace pu7_3 := pu7_3 (by omega)
              clear pu7_4
              refine r_iload C (j := 4) (oDec_at oX12_shortest 29 rfl) rfl ?_
              refine r_istore_n C (lv' := [(0, .ref (oad E 71)), (1, .int a1), (2, .int a2), (3, .int x4), (4, .int x4)]) [1, 2, 3, 0, 4] (oDec_at oX12_shortest 30 rfl) rfl (by decide) rfl ?_
              obtain ⟨v11, ev11⟩ : ∃ z : Int32, x4 + Int32.ofInt 1 = z := ⟨_, rfl⟩
              have hv11 : v11.toInt = x4.toInt + 1 := n_inc ev11 (by decide) (by omega) (by omega)
              refine r_iinc C (j := 4) (lv' := [(0, .ref (oad E 71)), (1, .int a1), (2, .int a2), (3, .int x4), (4, .int v11)]) v11 [1, 2, 3, 4, 0] (oDec_at oX12_shortest 31 rfl) rfl ev11 (by decide) rfl ?_
              refine r_goto C (tgt := 30) (oDec_at oX12_shortest 32 rfl) (by decide) ?_
              exact (ih (n - 1) (by omega)) (u7) x4 v11  (oBI_fr fu7 rfl iv0) pu7_1 (by omega) (oAT_fr fu7 rfl iv3) (by omega) (by omega) (by omega) (owBE_fr fu7 rfl iv7) (owMM_fr fu7 rfl iv8) (owLO_fr fu7 rfl iv9) (by omega) (by first | exact owSq_y iv11 (by omega) (hm19 (by omega)) (by omega) (by omega) (by omega) | exact owSq_n iv11 (by omega) (hm09 (by omega)) (by omega) (by omega) | exact owSq_0 (by omega) (by omega)) (by omega)
  refine r_iload_n C (j := 1) (oDec_at oX12_shortest 0 rfl) rfl rfl ?_
  refine r_callSi C miX12_isFollower mlX12_554 (ct9_X12_isFollower l E (s) a1 ) (by decide) rfl rfl rfl (Nat.le_of_ble_eq_true rfl) (oDec_at oX12_shortest 1 rfl) (fun r13 u12 pu12 fu12 => ?_)
  try dsimp only at pu12
  obtain ⟨pu12_0, pu12_1, pu12_2⟩ := pu12
  have hxu12 := oFr_nil fu12; subst hxu12
  have rr13 := n_rng r13
  refine r_if_eq C 19 (oDec_at oX12_shortest 2 rfl) (by decide) (fun cd14 => ?_) (fun cd14 => ?_)
  · skip
    clear pu12_1
    refine r_iconst C (oDec_at oX12_shortest 9 rfl) (v := km1) (by rw [qkm1]; rfl) ?_
    exact r_iret C (oDec_at oX12_shortest 10 rfl) ⟨_, rfl, ⟨hp1, by omega, owSh_n (by omega) (by omega)⟩⟩
  · skip
    replace pu12_1 := pu12_1 (by omega)
    refine r_iload_n C (j := 2) (oDec_at oX12_shortest 3 rfl) rfl rfl ?_
    obtain ⟨v15, ev15⟩ : ∃ z : Int64, a2.toInt64 = z := ⟨_, rfl⟩
    have hv15 : v15.toInt = a2.toInt := n_i2l ev15
    refine r_i2l C v15 (oDec_at oX12_shortest 4 rfl) ev15 ?_
    refine r_lconst C (oDec_at oX12_shortest 5 rfl) (v := j0) (by rw [qj0]; rfl) ?_
    refine r_ldc2 C (v := j4) (by rw [qj4]; exact klX12_493) (oDec_at oX12_shortest 6 rfl) ?_
    refine r_callSi C miX12_isIn mlX12_216 (ct_X12_isIn l E (s) v15 j0 j4 ) (by decide) rfl rfl rfl (Nat.le_of_ble_eq_true rfl) (oDec_at oX12_shortest 7 rfl) (fun r17 u16 pu16 fu16 => ?_)
    try dsimp only at pu16
    obtain ⟨pu16_0, pu16_1⟩ := pu16
    have hxu16 := oFr_nil fu16; subst hxu16
    have rr17 := n_rng r17
    refine r_if_ne C 21 (oDec_at oX12_shortest 8 rfl) (by decide) (fun cd18 => ?_) (fun cd18 => ?_)
    · skip
      refine r_aload_n C (j := 0) (oDec_at oX12_shortest 11 rfl) rfl rfl ?_
      refine r_callVv C oCl12 rfl miX12_putsAside mlX12_559 (ct_X12_putsAside l E (s)  hp1) (by decide) rfl rfl rfl (Nat.le_of_ble_eq_true rfl) (oDec_at oX12_shortest 12 rfl) (fun u19 pu19 fu19 => ?_)
      try dsimp only at pu19
      obtain ⟨pu19_0, pu19_1, pu19_2⟩ := pu19
      have lu21 : ((u19).1 71 38).toInt = (s.1 71 38).toInt := congrArg Int32.toInt ((fu19 71 38 rfl).1)
      refine r_iconst C (oDec_at oX12_shortest 13 rfl) (v := km1) (by rw [qkm1]; rfl) ?_
      refine r_istore_n C (lv' := [(0, .ref (oad E 71)), (1, .int a1), (2, .int a2), (3, .int km1)]) [1, 2, 3, 0] (oDec_at oX12_shortest 14 rfl) rfl (by decide) rfl ?_
      refine r_iconst C (oDec_at oX12_shortest 15 rfl) (v := k2) (by rw [qk2]; rfl) ?_
      refine r_istore C (lv' := [(0, .ref (oad E 71)), (1, .int a1), (2, .int a2), (3, .int km1), (4, .int k2)]) [1, 2, 3, 4, 0] (oDec_at oX12_shortest 16 rfl) (by decide) rfl ?_
      have lk22 : ((u19).1 71 38).toInt = (s.1 71 38).toInt := congrArg Int32.toInt ((fu19 71 38 rfl).1)
      have lk23 : ((u19).1 71 42).toInt = (s.1 71 42).toInt := congrArg Int32.toInt ((fu19 71 42 rfl).1)
      exact (key (8 - k2.toInt).toNat) (u19) km1 k2  (oBI_fr fu19 rfl hp0) pu19_0 (by omega) pu19_1 (by omega) (by omega) (by omega) (owBE_fr fu19 rfl hp3) (owMM_fr fu19 rfl hp4) (owLO_fr fu19 rfl hp5) (by omega) (by first | exact owSq_0 (by omega) (by omega)) (by omega)
    · skip
      refine r_iconst C (oDec_at oX12_shortest 9 rfl) (v := km1) (by rw [qkm1]; rfl) ?_
      exact r_iret C (oDec_at oX12_shortest 10 rfl) ⟨_, rfl, ⟨hp1, by omega, owSh_n (by omega) (by omega)⟩⟩
