set_option maxHeartbeats 4000000 in
set_option maxRecDepth 100000 in
theorem ct9_X12_canBe (l : Launch) (E : oE) (s : oS) (a1 : Int32) (nn : Int) (hp0 : 0 ≤ a1.toInt ∧ a1.toInt ≤ 4499) (hp1 : owRA nn s) : oMet l 2 yX12_canBe cX12_canBe 3 (some .boolean) [] E s [.ref (oad E 71), .int a1] (oPi (fun r u => (0 ≤ r.toInt ∧ r.toInt ≤ 1) ∧ (r.toInt = 1))) := by
  refine oMet.of (lv := [(0, .ref (oad E 71)), (1, .int a1)]) (by decide +kernel) (Nat.le_of_ble_eq_true rfl) rfl (fun J C hT => ?_)
  have C : oC l 2 cX12_canBe RX12 3 (some .boolean) [] E s (oPi (fun r u => (0 ≤ r.toInt ∧ r.toInt ≤ 1) ∧ (r.toInt = 1))) J := C
  obtain ⟨k0, qk0⟩ : ∃ z : Int32, z = 0 := ⟨_, rfl⟩
  have ek0 : k0.toInt = 0 := by rw [qk0]; rfl
  obtain ⟨k1, qk1⟩ : ∃ z : Int32, z = 1 := ⟨_, rfl⟩
  have ek1 : k1.toInt = 1 := by rw [qk1]; rfl
  obtain ⟨k2, qk2⟩ : ∃ z : Int32, z = 2 := ⟨_, rfl⟩
  have ek2 : k2.toInt = 2 := by rw [qk2]; rfl
  have rg1 := n_rng a1
  have key : ∀ n : Nat, (∀ (t : oS) (x2 : Int32), (0 ≤ x2.toInt ∧ x2.toInt ≤ 24) → (owRA nn t) → 25 - x2.toInt ≤ (n : Int) → J t 12 [(0, .ref (oad E 71)), (2, .int x2)] []) := by
    intro n
    induction n using Nat.strongRecOn with
    | _ n ih =>
      skip
      · intro t x2  iv0 iv1 hmu
        have rx2 := n_rng x2
        refine r_iload_n C (j := 1) (oDec_at oX12_canBe 8 rfl) rfl rfl ?_
        refine r_aload_n C (j := 0) (oDec_at oX12_canBe 9 rfl) rfl rfl ?_
        obtain ⟨v1, ev1⟩ : ∃ z : Int32, (t).1 71 38 = z := ⟨_, rfl⟩
        have gv1 : (t.1 71 38).toInt = v1.toInt := congrArg Int32.toInt (ev1)
        refine r_geti (k := 38) (lo := 0) (hi := 24) C v1 oCl12 rfl (by decide) flX12_261 rfl rfl (ev1) rfl rfl (oDec_at oX12_canBe 10 rfl) (fun b2 b2h => ?_)
        refine r_icmp_ge C 40 (oDec_at oX12_canBe 11 rfl) (by decide) (fun cd3 => ?_) (fun cd3 => ?_)
        · skip
          refine r_iconst C (oDec_at oX12_canBe 24 rfl) (v := k1) (by rw [qk1]; rfl) ?_
          exact r_zret C (n_bool (by omega)) (oDec_at oX12_canBe 25 rfl) ⟨_, rfl, ⟨by omega, by omega⟩⟩
        · skip
          refine r_aload_n C (j := 0) (oDec_at oX12_canBe 12 rfl) rfl rfl ?_
          refine r_getF (k := 40) (b := 100) C oCl12 rfl (by decide) flX12_99 rfl rfl rfl (oDec_at oX12_canBe 13 rfl) ?_
          refine r_iload_n C (j := 1) (oDec_at oX12_canBe 14 rfl) rfl rfl ?_
          obtain ⟨v5, ev5⟩ : ∃ z : Int32, (t).1 100 x2.toNatClampNeg = z := ⟨_, rfl⟩
          have gv5 : (t.1 100 x2.toNatClampNeg).toInt = v5.toInt := congrArg Int32.toInt (ev5)
          refine r_iald (n := 48) (lo := 0) (hi := 9999) C v5 rfl (by decide) rfl rfl ⟨by omega, by omega⟩ (by decide) ev5 rfl rfl (oDec_at oX12_canBe 15 rfl) (fun b4 b4h => ?_)
          have htk9 : v5.toInt = 2 := by rw [← ev5]; exact (iv1).2 _ (by have h8 := (iv1).1; have h9 := n_nat x2; omega)
          refine r_iconst C (oDec_at oX12_canBe 16 rfl) (v := k2) (by rw [qk2]; rfl) ?_
          obtain ⟨v6, ev6⟩ : ∃ z : Int32, z = v5 - v5 / k2 * k2 := ⟨_, rfl⟩
          have hv6 := n_rem (k := 2) ev6 ek2 (by decide)
          have rv6 := n_rng v6
          refine r_irem C v6 (oDec_at oX12_canBe 17 rfl) (n_ne0 (by omega)) ev6 ?_
          refine r_pc C 28 rfl ?_
          refine r_iconst C (oDec_at oX12_canBe 18 rfl) (v := k1) (by rw [qk1]; rfl) ?_
          refine r_icmp_ne C 34 (oDec_at oX12_canBe 19 rfl) (by decide) (fun cd7 => ?_) (fun cd7 => ?_)
          · skip
            obtain ⟨v8, ev8⟩ : ∃ z : Int32, x2 + Int32.ofInt 1 = z := ⟨_, rfl⟩
            have hv8 : v8.toInt = x2.toInt + 1 := n_inc ev8 (by decide) (by omega) (by omega)
            refine r_iinc C (j := 1) (lv' := [(0, .ref (oad E 71)), (2, .int v8)]) v8 [1, 0] (oDec_at oX12_canBe 22 rfl) rfl ev8 (by decide) rfl ?_
            refine r_goto C (tgt := 12) (oDec_at oX12_canBe 23 rfl) (by decide) ?_
            exact (ih (n - 1) (by omega)) (t) v8  (by omega) iv1 (by omega)
          · skip
            refine r_iconst C (oDec_at oX12_canBe 20 rfl) (v := k0) (by rw [qk0]; rfl) ?_
            exact r_zret C (n_bool (by omega)) (oDec_at oX12_canBe 21 rfl) ⟨_, rfl, ⟨by omega, by omega⟩⟩
  refine r_iload_n C (j := 1) (oDec_at oX12_canBe 0 rfl) rfl rfl ?_
  refine r_callSi C miX12_paceOf mlX12_385 (ct_X12_paceOf l E (s) a1 (by omega)) (by decide) rfl rfl rfl (Nat.le_of_ble_eq_true rfl) (oDec_at oX12_canBe 1 rfl) (fun r10 u9 pu9 fu9 => ?_)
  try dsimp only at pu9
  have hxu9 := oFr_nil fu9; subst hxu9
  have rr10 := n_rng r10
  refine r_iconst C (oDec_at oX12_canBe 2 rfl) (v := k2) (by rw [qk2]; rfl) ?_
  refine r_icmp_eq C 10 (oDec_at oX12_canBe 3 rfl) (by decide) (fun cd11 => ?_) (fun cd11 => ?_)
  · skip
    refine r_iconst C (oDec_at oX12_canBe 6 rfl) (v := k0) (by rw [qk0]; rfl) ?_
    refine r_istore_n C (lv' := [(0, .ref (oad E 71)), (1, .int a1), (2, .int k0)]) [1, 2, 0] (oDec_at oX12_canBe 7 rfl) rfl (by decide) rfl ?_
    refine r_pick C [0, 2] rfl ?_
    exact (key (25 - k0.toInt).toNat) (s) k0  (by omega) hp1 (by omega)
  · skip
    refine r_iconst C (oDec_at oX12_canBe 4 rfl) (v := k1) (by rw [qk1]; rfl) ?_
    exact r_zret C (n_bool (by omega)) (oDec_at oX12_canBe 5 rfl) ⟨_, rfl, ⟨by omega, by omega⟩⟩
set_option maxHeartbeats 4000000 in
set_option maxRecDepth 100000 in
theorem ct9_X12_waysNow (l : Launch) (E : oE) (s : oS)  (nn : Int) (st : Nat → Int) (R : Int) (W : Nat → List Int) (me : Int) (D : Int) (S : Int) (K : Int) (hp0 : oBI s) (hp1 : owBE R W s) (hp2 : owMM me s) (hp3 : owLO s) (hp4 : owRL nn st s) (hp5 : owRA nn s) (hp6 : owBY D S K s) (hp7 : owDg nn st) (hp8 : 1 ≤ nn ∧ nn ≤ 6) (hp9 : 2 ≤ me ∧ me ≤ 12) : oMet l 7 yX12_waysNow cX12_waysNow 3 (some .int) [(12, 58), (12, 60), (12, 61), (12, 62), (12, 63), (12, 65), (84, 9999), (85, 9999), (86, 9999)] E s [.ref (oad E 71)] (oPi (fun r u => (0 ≤ r.toInt ∧ r.toInt ≤ 4500) ∧ (owCt (owWe R W me D S K nn st 0) 4500 r.toInt))) := by
  refine oMet.of (lv := [(0, .ref (oad E 71))]) (by decide +kernel) (Nat.le_of_ble_eq_true rfl) rfl (fun J C hT => ?_)
  have C : oC l 7 cX12_waysNow RX12 3 (some .int) [(12, 58), (12, 60), (12, 61), (12, 62), (12, 63), (12, 65), (84, 9999), (85, 9999), (86, 9999)] E s (oPi (fun r u => (0 ≤ r.toInt ∧ r.toInt ≤ 4500) ∧ (owCt (owWe R W me D S K nn st 0) 4500 r.toInt))) J := C
  obtain ⟨km1, qkm1⟩ : ∃ z : Int32, z = (-1) := ⟨_, rfl⟩
  have ekm1 : km1.toInt = (-1) := by rw [qkm1]; rfl
  obtain ⟨k0, qk0⟩ : ∃ z : Int32, z = 0 := ⟨_, rfl⟩
  have ek0 : k0.toInt = 0 := by rw [qk0]; rfl
  obtain ⟨k84, qk84⟩ : ∃ z : Int32, z = 84 := ⟨_, rfl⟩
  have ek84 : k84.toInt = 84 := by rw [qk84]; rfl
  obtain ⟨k4500, qk4500⟩ : ∃ z : Int32, z = 4500 := ⟨_, rfl⟩
  have ek4500 : k4500.toInt = 4500 := by rw [qk4500]; rfl
  have key : ∀ n : Nat, (∀ (t : oS) (x1 : Int32) (x2 : Int32), (oBI t) → (0 ≤ x2.toInt ∧ x2.toInt ≤ 4500) → (0 ≤ x1.toInt ∧ x1.toInt ≤ x2.toInt) → (owBE R W t) → (owMM me t) → (owLO t) → (owRL nn st t) → (owRA nn t) → (owBY D S K t) → (owCt (owWe R W me D S K nn st 0) x2.toNatClampNeg x1.toInt) → 4501 - x2.toInt ≤ (n : Int) → J t 4 [(0, .ref (oad E 71)), (1, .int x1), (2, .int x2)] []) := by
    intro n
    induction n using Nat.strongRecOn with
    | _ n ih =>
      skip
      · intro t x1 x2  iv0 iv1 iv2 iv3 iv4 iv5 iv6 iv7 iv8 iv9 hmu
        have rx1 := n_rng x1
        have rx2 := n_rng x2
        refine r_iload_n C (j := 2) (oDec_at oX12_waysNow 4 rfl) rfl rfl ?_
        refine r_sipush C (oDec_at oX12_waysNow 5 rfl) (v := k4500) (by rw [qk4500]; rfl) ?_
        refine r_icmp_ge C 57 (oDec_at oX12_waysNow 6 rfl) (by decide) (fun cd1 => ?_) (fun cd1 => ?_)
        · skip
          refine r_iload_n C (j := 1) (oDec_at oX12_waysNow 30 rfl) rfl rfl ?_
          exact r_iret C (oDec_at oX12_waysNow 31 rfl) ⟨_, rfl, ⟨by omega, by have h9 := iv9; rw [show x2.toNatClampNeg = 4500 by have h8 := n_nat x2; omega] at h9; exact h9⟩⟩
        · skip
          refine r_aload_n C (j := 0) (oDec_at oX12_waysNow 7 rfl) rfl rfl ?_
          refine r_iload_n C (j := 2) (oDec_at oX12_waysNow 8 rfl) rfl rfl ?_
          refine r_callVi C oCl12 rfl miX12_isBound mlX12_476 (ct3_X12_isBound l E (t) x2 (by omega)) (by decide) rfl rfl rfl (Nat.le_of_ble_eq_true rfl) (oDec_at oX12_waysNow 9 rfl) (fun r3 u2 pu2 fu2 => ?_)
          try dsimp only at pu2
          obtain ⟨pu2_0, pu2_1⟩ := pu2
          have hxu2 := oFr_nil fu2; subst hxu2
          have rr3 := n_rng r3
          have hbd9 := pu2_1 D S K ((iv8).1).symm ((iv8).2.1).symm ((iv8).2.2).symm
          have hb84 : oBd D S K x2.toInt = 1 → x2.toInt ≠ 84 := fun h9 => (oBd_y h9).1
          have hwi9 : owWe R W me D S K nn st 0 x2.toNatClampNeg ↔ (oBd D S K x2.toInt = 1 ∧ owAg R W me x2.toInt nn st) := owWe_i (by have h9 := n_nat x2; omega)
          refine r_if_eq C 51 (oDec_at oX12_waysNow 10 rfl) (by decide) (fun cd4 => ?_) (fun cd4 => ?_)
          · skip
            obtain ⟨v5, ev5⟩ : ∃ z : Int32, x2 + Int32.ofInt 1 = z := ⟨_, rfl⟩
            have hv5 : v5.toInt = x2.toInt + 1 := n_inc ev5 (by decide) (by omega) (by omega)
            refine r_iinc C (j := 2) (lv' := [(0, .ref (oad E 71)), (1, .int x1), (2, .int v5)]) v5 [1, 2, 0] (oDec_at oX12_waysNow 28 rfl) rfl ev5 (by decide) rfl ?_
            refine r_goto C (tgt := 4) (oDec_at oX12_waysNow 29 rfl) (by decide) ?_
            exact (ih (n - 1) (by omega)) (t) x1 v5  iv0 (by omega) (by omega) iv3 iv4 iv5 iv6 iv7 iv8 (by first | exact owCt_0 (by have h9 := n_nat v5; omega) (by omega) | exact owCt_n iv9 (fun h9 => by have h8 := (hwi9.mp h9).1; omega) (by have h9 := n_nat x2; have h8 := n_nat v5; omega) (by omega) | exact owCt_1 iv9 (hwi9.mpr ⟨by omega, hag9.mp (by omega)⟩) (by have h9 := n_nat x2; have h8 := n_nat v5; omega) (by omega) | exact owCt_n iv9 (fun h9 => by have h8 := hag9.mpr (hwi9.mp h9).2; omega) (by have h9 := n_nat x2; have h8 := n_nat v5; omega) (by omega) | (exfalso; omega)) (by omega)
          · skip
            refine r_aload_n C (j := 0) (oDec_at oX12_waysNow 11 rfl) rfl rfl ?_
            refine r_iload_n C (j := 2) (oDec_at oX12_waysNow 12 rfl) rfl rfl ?_
            refine r_callVi C oCl12 rfl miX12_canBe mlX12_426 (ct9_X12_canBe l E (t) x2 (nn) (by omega) iv7) (by decide) rfl rfl rfl (Nat.le_of_ble_eq_true rfl) (oDec_at oX12_waysNow 13 rfl) (fun r7 u6 pu6 fu6 => ?_)
            try dsimp only at pu6
            obtain ⟨pu6_0, pu6_1⟩ := pu6
            have hxu6 := oFr_nil fu6; subst hxu6
            have rr7 := n_rng r7
            refine r_if_eq C 51 (oDec_at oX12_waysNow 14 rfl) (by decide) (fun cd8 => ?_) (fun cd8 => ?_)
            · skip
              obtain ⟨v9, ev9⟩ : ∃ z : Int32, x2 + Int32.ofInt 1 = z := ⟨_, rfl⟩
              have hv9 : v9.toInt = x2.toInt + 1 := n_inc ev9 (by decide) (by omega) (by omega)
              refine r_iinc C (j := 2) (lv' := [(0, .ref (oad E 71)), (1, .int x1), (2, .int v9)]) v9 [1, 2, 0] (oDec_at oX12_waysNow 28 rfl) rfl ev9 (by decide) rfl ?_
              refine r_goto C (tgt := 4) (oDec_at oX12_waysNow 29 rfl) (by decide) ?_
              exact (ih (n - 1) (by omega)) (t) x1 v9  iv0 (by omega) (by omega) iv3 iv4 iv5 iv6 iv7 iv8 (by first | exact owCt_0 (by have h9 := n_nat v9; omega) (by omega) | exact owCt_n iv9 (fun h9 => by have h8 := (hwi9.mp h9).1; omega) (by have h9 := n_nat x2; have h8 := n_nat v9; omega) (by omega) | exact owCt_1 iv9 (hwi9.mpr ⟨by omega, hag9.mp (by omega)⟩) (by have h9 := n_nat x2; have h8 := n_nat v9; omega) (by omega) | exact owCt_n iv9 (fun h9 => by have h8 := hag9.mpr (hwi9.mp h9).2; omega) (by have h9 := n_nat x2; have h8 := n_nat v9; omega) (by omega) | (exfalso; omega)) (by omega)
            · skip
              refine r_aload_n C (j := 0) (oDec_at oX12_waysNow 15 rfl) rfl rfl ?_
              refine r_bipush C (oDec_at oX12_waysNow 16 rfl) (v := k84) (by rw [qk84]; rfl) ?_
              refine r_iload_n C (j := 2) (oDec_at oX12_waysNow 17 rfl) rfl rfl ?_
              refine r_callVi C oCl12 rfl miX12_breachOf mlX12_473 (ct9_X12_breachOf l E (t) k84 x2 (nn) (st) (R) (W) (me) (by omega) (by omega) iv0 iv3 iv4 iv5 iv6 hp7 (by omega) (by omega) (by omega) (by omega)) (by decide) rfl rfl rfl (Nat.le_of_ble_eq_true rfl) (oDec_at oX12_waysNow 18 rfl) (fun r11 u10 pu10 fu10 => ?_)
              try dsimp only at pu10
              obtain ⟨pu10_0, pu10_1⟩ := pu10
              have rr11 := n_rng r11
              refine r_iconst C (oDec_at oX12_waysNow 19 rfl) (v := km1) (by rw [qkm1]; rfl) ?_
              have hag9 := pu10_1
              refine r_icmp_eq C 41 (oDec_at oX12_waysNow 20 rfl) (by decide) (fun cd12 => ?_) (fun cd12 => ?_)
              · skip
                refine r_aload_n C (j := 0) (oDec_at oX12_waysNow 22 rfl) rfl rfl ?_
                refine r_getF (k := 70) (b := 110) C oCl12 rfl (by decide) flX12_145 rfl rfl rfl (oDec_at oX12_waysNow 23 rfl) ?_
                refine r_iload_n C (j := 1) (oDec_at oX12_waysNow 24 rfl) rfl rfl ?_
                refine r_iload_n C (j := 2) (oDec_at oX12_waysNow 25 rfl) rfl rfl ?_
                refine r_iast (n := 4500) (lo := 0) (hi := 4499) C rfl (by decide) rfl rfl ⟨by omega, by omega⟩ (by decide) rfl rfl rfl rfl ⟨by omega, by omega⟩ (oDec_at oX12_waysNow 26 rfl) ?_
                obtain ⟨v13, ev13⟩ : ∃ z : Int32, x1 + Int32.ofInt 1 = z := ⟨_, rfl⟩
                have hv13 : v13.toInt = x1.toInt + 1 := n_inc ev13 (by decide) (by omega) (by omega)
                refine r_iinc C (j := 1) (lv' := [(0, .ref (oad E 71)), (1, .int v13), (2, .int x2)]) v13 [1, 0, 2] (oDec_at oX12_waysNow 27 rfl) rfl ev13 (by decide) rfl ?_
                refine r_pc C 51 rfl ?_
                obtain ⟨v14, ev14⟩ : ∃ z : Int32, x2 + Int32.ofInt 1 = z := ⟨_, rfl⟩
                have hv14 : v14.toInt = x2.toInt + 1 := n_inc ev14 (by decide) (by omega) (by omega)
                refine r_iinc C (j := 2) (lv' := [(0, .ref (oad E 71)), (1, .int v13), (2, .int v14)]) v14 [1, 2, 0] (oDec_at oX12_waysNow 28 rfl) rfl ev14 (by decide) rfl ?_
                refine r_goto C (tgt := 4) (oDec_at oX12_waysNow 29 rfl) (by decide) ?_
                exact (ih (n - 1) (by omega)) ((pI u10 110 x1.toNatClampNeg x2)) v13 v14  (oBI_fr (oFr_oneI (q := 86) (m := 9999) rfl (by rfl)) rfl (oBI_fr fu10 rfl iv0)) (by omega) (by omega) (owBE_fr (oFr_oneI (q := 86) (m := 9999) rfl (by rfl)) rfl (owBE_fr fu10 rfl iv3)) (owMM_fr (oFr_oneI (q := 86) (m := 9999) rfl (by rfl)) rfl (owMM_fr fu10 rfl iv4)) (owLO_fr (oFr_oneI (q := 86) (m := 9999) rfl (by rfl)) rfl (owLO_fr fu10 rfl iv5)) (owRL_fr (oFr_oneI (q := 86) (m := 9999) rfl (by rfl)) rfl (owRL_fr fu10 rfl iv6)) (owRA_fr (oFr_oneI (q := 86) (m := 9999) rfl (by rfl)) rfl (owRA_fr fu10 rfl iv7)) (owBY_fr (oFr_oneI (q := 86) (m := 9999) rfl (by rfl)) rfl (owBY_fr fu10 rfl iv8)) (by first | exact owCt_0 (by have h9 := n_nat v14; omega) (by omega) | exact owCt_n iv9 (fun h9 => by have h8 := (hwi9.mp h9).1; omega) (by have h9 := n_nat x2; have h8 := n_nat v14; omega) (by omega) | exact owCt_1 iv9 (hwi9.mpr ⟨by omega, hag9.mp (by omega)⟩) (by have h9 := n_nat x2; have h8 := n_nat v14; omega) (by omega) | exact owCt_n iv9 (fun h9 => by have h8 := hag9.mpr (hwi9.mp h9).2; omega) (by have h9 := n_nat x2; have h8 := n_nat v14; omega) (by omega) | (exfalso; omega)) (by omega)
              · skip
                refine r_goto C (tgt := 51) (oDec_at oX12_waysNow 21 rfl) (by decide) ?_
                obtain ⟨v15, ev15⟩ : ∃ z : Int32, x2 + Int32.ofInt 1 = z := ⟨_, rfl⟩
                have hv15 : v15.toInt = x2.toInt + 1 := n_inc ev15 (by decide) (by omega) (by omega)
                refine r_iinc C (j := 2) (lv' := [(0, .ref (oad E 71)), (1, .int x1), (2, .int v15)]) v15 [1, 2, 0] (oDec_at oX12_waysNow 28 rfl) rfl ev15 (by decide) rfl ?_
                refine r_goto C (tgt := 4) (oDec_at oX12_waysNow 29 rfl) (by decide) ?_
                exact (ih (n - 1) (by omega)) (u10) x1 v15  (oBI_fr fu10 rfl iv0) (by omega) (by omega) (owBE_fr fu10 rfl iv3) (owMM_fr fu10 rfl iv4) (owLO_fr fu10 rfl iv5) (owRL_fr fu10 rfl iv6) (owRA_fr fu10 rfl iv7) (owBY_fr fu10 rfl iv8) (by first | exact owCt_0 (by have h9 := n_nat v15; omega) (by omega) | exact owCt_n iv9 (fun h9 => by have h8 := (hwi9.mp h9).1; omega) (by have h9 := n_nat x2; have h8 := n_nat v15; omega) (by omega) | exact owCt_1 iv9 (hwi9.mpr ⟨by omega, hag9.mp (by omega)⟩) (by have h9 := n_nat x2; have h8 := n_nat v15; omega) (by omega) | exact owCt_n iv9 (fun h9 => by have h8 := hag9.mpr (hwi9.mp h9).2; omega) (by have h9 := n_nat x2; have h8 := n_nat v15; omega) (by omega) | (exfalso; omega)) (by omega)
  refine r_iconst C (oDec_at oX12_waysNow 0 rfl) (v := k0) (by rw [qk0]; rfl) ?_
  refine r_istore_n C (lv' := [(0, .ref (oad E 71)), (1, .int k0)]) [1, 0] (oDec_at oX12_waysNow 1 rfl) rfl (by decide) rfl ?_
  refine r_iconst C (oDec_at oX12_waysNow 2 rfl) (v := k0) (by rw [qk0]; rfl) ?_
  refine r_istore_n C (lv' := [(0, .ref (oad E 71)), (1, .int k0), (2, .int k0)]) [1, 2, 0] (oDec_at oX12_waysNow 3 rfl) rfl (by decide) rfl ?_
  exact (key (4501 - k0.toInt).toNat) (s) k0 k0  hp0 (by omega) (by omega) hp1 hp2 hp3 hp4 hp5 hp6 (by first | exact owCt_0 (by have h9 := n_nat k0; omega) (by omega) | (exfalso; omega)) (by omega)
