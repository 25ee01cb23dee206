set_option maxHeartbeats 4000000 in
set_option maxRecDepth 100000 in
theorem ct9_X12_rule (l : Launch) (E : oE) (s : oS) (a1 : Int32) (a2 : Int32)  (hp0 : 0 ≤ a2.toInt ∧ a2.toInt ≤ 1) (hp1 : oBI s) (hp2 : owLO s) : oMet l 7 yX12_rule cX12_rule 6 (some .int) [(12, 58), (12, 60), (12, 61), (12, 62), (12, 63), (12, 64), (12, 65), (84, 9999), (85, 9999)] E s [.ref (oad E 71), .int a1, .int a2] (oPi (fun r u => (owLO u))) := by
  refine oMet.of (lv := [(0, .ref (oad E 71)), (1, .int a1), (2, .int a2)]) (by decide +kernel) (Nat.le_of_ble_eq_true rfl) rfl (fun J C hT => ?_)
  have C : oC l 7 cX12_rule RX12 6 (some .int) [(12, 58), (12, 60), (12, 61), (12, 62), (12, 63), (12, 64), (12, 65), (84, 9999), (85, 9999)] E s (oPi (fun r u => (owLO u))) J := C
  obtain ⟨km1, qkm1⟩ : ∃ z : Int32, z = (-1) := ⟨_, rfl⟩
  have ekm1 : km1.toInt = (-1) := by rw [qkm1]; rfl
  obtain ⟨k0, qk0⟩ : ∃ z : Int32, z = 0 := ⟨_, rfl⟩
  have ek0 : k0.toInt = 0 := by rw [qk0]; rfl
  obtain ⟨k1, qk1⟩ : ∃ z : Int32, z = 1 := ⟨_, rfl⟩
  have ek1 : k1.toInt = 1 := by rw [qk1]; rfl
  obtain ⟨k84, qk84⟩ : ∃ z : Int32, z = 84 := ⟨_, rfl⟩
  have ek84 : k84.toInt = 84 := by rw [qk84]; rfl
  obtain ⟨k4500, qk4500⟩ : ∃ z : Int32, z = 4500 := ⟨_, rfl⟩
  have ek4500 : k4500.toInt = 4500 := by rw [qk4500]; rfl
  obtain ⟨j0, qj0⟩ : ∃ z : Int64, z = 0 := ⟨_, rfl⟩
  have ej0 : j0.toInt = 0 := by rw [qj0]; rfl
  have rg1 := n_rng a1
  have rg2 := n_rng a2
  have key : ∀ n : Nat, (∀ (t : oS) (x3 : Int32) (x4 : Int32), (oBI t) → (0 ≤ x4.toInt ∧ x4.toInt ≤ 4500) → (0 ≤ x3.toInt ∧ x3.toInt ≤ x4.toInt) → 4501 - x4.toInt ≤ (n : Int) → J t 38 [(0, .ref (oad E 71)), (1, .int a1), (2, .int a2), (3, .int x3), (4, .int x4)] []) := by
    intro n
    induction n using Nat.strongRecOn with
    | _ n ih =>
      skip
      · intro t x3 x4  iv0 iv1 iv2 hmu
        have rx3 := n_rng x3
        have rx4 := n_rng x4
        refine r_iload C (j := 4) (oDec_at oX12_rule 25 rfl) rfl ?_
        refine r_sipush C (oDec_at oX12_rule 26 rfl) (v := k4500) (by rw [qk4500]; rfl) ?_
        refine r_icmp_ge C 113 (oDec_at oX12_rule 27 rfl) (by decide) (fun cd1 => ?_) (fun cd1 => ?_)
        · skip
          refine r_aload_n C (j := 0) (oDec_at oX12_rule 58 rfl) rfl rfl ?_
          refine r_iconst C (oDec_at oX12_rule 59 rfl) (v := km1) (by rw [qkm1]; rfl) ?_
          refine r_puti (k := 64) (lo := (-2147483648)) (hi := 2147483647) C oCl12 rfl (by decide) flX12_136 rfl rfl rfl rfl rfl rfl rfl rfl (n_rng _) (oDec_at oX12_rule 60 rfl) ?_
          have hq2 : owLO ((pI t 71 64 km1)) := (congrArg Int32.toInt (pI_self _ _ _ _)).trans ekm1
          refine r_iload_n C (j := 3) (oDec_at oX12_rule 61 rfl) rfl rfl ?_
          exact r_iret C (oDec_at oX12_rule 62 rfl) ⟨_, rfl, hq2⟩
        · skip
          refine r_aload_n C (j := 0) (oDec_at oX12_rule 28 rfl) rfl rfl ?_
          refine r_iload C (j := 4) (oDec_at oX12_rule 29 rfl) rfl ?_
          refine r_callVi C oCl12 rfl miX12_isBound mlX12_476 (ct_X12_isBound l E (t) x4 (by omega)) (by decide) rfl rfl rfl (Nat.le_of_ble_eq_true rfl) (oDec_at oX12_rule 30 rfl) (fun r4 u3 pu3 fu3 => ?_)
          try dsimp only at pu3
          have hxu3 := oFr_nil fu3; subst hxu3
          have rr4 := n_rng r4
          refine r_if_eq C 107 (oDec_at oX12_rule 31 rfl) (by decide) (fun cd5 => ?_) (fun cd5 => ?_)
          · skip
            obtain ⟨v6, ev6⟩ : ∃ z : Int32, x4 + Int32.ofInt 1 = z := ⟨_, rfl⟩
            have hv6 : v6.toInt = x4.toInt + 1 := n_inc ev6 (by decide) (by omega) (by omega)
            refine r_iinc C (j := 4) (lv' := [(0, .ref (oad E 71)), (1, .int a1), (2, .int a2), (3, .int x3), (4, .int v6)]) v6 [1, 2, 3, 4, 0] (oDec_at oX12_rule 56 rfl) rfl ev6 (by decide) rfl ?_
            refine r_goto C (tgt := 38) (oDec_at oX12_rule 57 rfl) (by decide) ?_
            exact (ih (n - 1) (by omega)) (t) x3 v6  iv0 (by omega) (by omega) (by omega)
          · skip
            refine r_aload_n C (j := 0) (oDec_at oX12_rule 32 rfl) rfl rfl ?_
            refine r_iload C (j := 4) (oDec_at oX12_rule 33 rfl) rfl ?_
            refine r_callVi C oCl12 rfl miX12_canBe mlX12_426 (ct_X12_canBe l E (t) x4 (by omega)) (by decide) rfl rfl rfl (Nat.le_of_ble_eq_true rfl) (oDec_at oX12_rule 34 rfl) (fun r8 u7 pu7 fu7 => ?_)
            try dsimp only at pu7
            have hxu7 := oFr_nil fu7; subst hxu7
            have rr8 := n_rng r8
            refine r_if_ne C 67 (oDec_at oX12_rule 35 rfl) (by decide) (fun cd9 => ?_) (fun cd9 => ?_)
            · skip
              refine r_aload_n C (j := 0) (oDec_at oX12_rule 37 rfl) rfl rfl ?_
              refine r_bipush C (oDec_at oX12_rule 38 rfl) (v := k84) (by rw [qk84]; rfl) ?_
              refine r_iload C (j := 4) (oDec_at oX12_rule 39 rfl) rfl ?_
              refine r_callVi C oCl12 rfl miX12_breachOf mlX12_473 (ct_X12_breachOf l E (t) k84 x4 (by omega) (by omega) iv0) (by decide) rfl rfl rfl (Nat.le_of_ble_eq_true rfl) (oDec_at oX12_rule 40 rfl) (fun r11 u10 pu10 fu10 => ?_)
              try dsimp only at pu10
              have rr11 := n_rng r11
              refine r_istore C (lv' := [(0, .ref (oad E 71)), (1, .int a1), (2, .int a2), (3, .int x3), (4, .int x4), (5, .int r11)]) [1, 2, 3, 4, 5, 0] (oDec_at oX12_rule 41 rfl) (by decide) rfl ?_
              refine r_iload_n C (j := 2) (oDec_at oX12_rule 42 rfl) rfl rfl ?_
              refine r_pc C 78 rfl ?_
              refine r_if_eq C 90 (oDec_at oX12_rule 43 rfl) (by decide) (fun cd12 => ?_) (fun cd12 => ?_)
              · skip
                refine r_iload C (j := 5) (oDec_at oX12_rule 48 rfl) rfl ?_
                refine r_iconst C (oDec_at oX12_rule 49 rfl) (v := km1) (by rw [qkm1]; rfl) ?_
                refine r_icmp_eq C 107 (oDec_at oX12_rule 50 rfl) (by decide) (fun cd13 => ?_) (fun cd13 => ?_)
                · skip
                  obtain ⟨v14, ev14⟩ : ∃ z : Int32, x4 + Int32.ofInt 1 = z := ⟨_, rfl⟩
                  have hv14 : v14.toInt = x4.toInt + 1 := n_inc ev14 (by decide) (by omega) (by omega)
                  refine r_iinc C (j := 4) (lv' := [(0, .ref (oad E 71)), (1, .int a1), (2, .int a2), (3, .int x3), (4, .int v14), (5, .int r11)]) v14 [1, 2, 3, 4, 0, 5] (oDec_at oX12_rule 56 rfl) rfl ev14 (by decide) rfl ?_
                  refine r_goto C (tgt := 38) (oDec_at oX12_rule 57 rfl) (by decide) ?_
                  refine r_pick C [0, 1, 2, 3, 4] rfl ?_
                  exact (ih (n - 1) (by omega)) (u10) x3 v14  (oBI_fr fu10 rfl iv0) (by omega) (by omega) (by omega)
                · skip
                  refine r_aload_n C (j := 0) (oDec_at oX12_rule 51 rfl) rfl rfl ?_
                  obtain ⟨v15, ev15⟩ : ∃ z : Int32, (u10).1 71 65 = z := ⟨_, rfl⟩
                  have gv15 : (u10.1 71 65).toInt = v15.toInt := congrArg Int32.toInt (ev15)
                  have rv15 := n_rng v15
                  refine r_geti (k := 65) (lo := (-2147483648)) (hi := 2147483647) C v15 oCl12 rfl (by decide) flX12_463 rfl rfl (ev15) rfl rfl (oDec_at oX12_rule 52 rfl) (fun _ _ => ?_)
                  refine r_iload_n C (j := 1) (oDec_at oX12_rule 53 rfl) rfl rfl ?_
                  refine r_icmp_ne C 107 (oDec_at oX12_rule 54 rfl) (by decide) (fun cd16 => ?_) (fun cd16 => ?_)
                  · skip
                    obtain ⟨v17, ev17⟩ : ∃ z : Int32, x4 + Int32.ofInt 1 = z := ⟨_, rfl⟩
                    have hv17 : v17.toInt = x4.toInt + 1 := n_inc ev17 (by decide) (by omega) (by omega)
                    refine r_iinc C (j := 4) (lv' := [(0, .ref (oad E 71)), (1, .int a1), (2, .int a2), (3, .int x3), (4, .int v17), (5, .int r11)]) v17 [1, 2, 3, 4, 0, 5] (oDec_at oX12_rule 56 rfl) rfl ev17 (by decide) rfl ?_
                    refine r_goto C (tgt := 38) (oDec_at oX12_rule 57 rfl) (by decide) ?_
                    refine r_pick C [0, 1, 2, 3, 4] rfl ?_
                    exact (ih (n - 1) (by omega)) (u10) x3 v17  (oBI_fr fu10 rfl iv0) (by omega) (by omega) (by omega)
                  · skip
                    obtain ⟨v18, ev18⟩ : ∃ z : Int32, x3 + Int32.ofInt 1 = z := ⟨_, rfl⟩
                    have hv18 : v18.toInt = x3.toInt + 1 := n_inc ev18 (by decide) (by omega) (by omega)
                    refine r_iinc C (j := 3) (lv' := [(0, .ref (oad E 71)), (1, .int a1), (2, .int a2), (3, .int v18), (4, .int x4), (5, .int r11)]) v18 [1, 2, 3, 0, 4, 5] (oDec_at oX12_rule 55 rfl) rfl ev18 (by decide) rfl ?_
                    obtain ⟨v19, ev19⟩ : ∃ z : Int32, x4 + Int32.ofInt 1 = z := ⟨_, rfl⟩
                    have hv19 : v19.toInt = x4.toInt + 1 := n_inc ev19 (by decide) (by omega) (by omega)
                    refine r_iinc C (j := 4) (lv' := [(0, .ref (oad E 71)), (1, .int a1), (2, .int a2), (3, .int v18), (4, .int v19), (5, .int r11)]) v19 [1, 2, 3, 4, 0, 5] (oDec_at oX12_rule 56 rfl) rfl ev19 (by decide) rfl ?_
                    refine r_goto C (tgt := 38) (oDec_at oX12_rule 57 rfl) (by decide) ?_
                    refine r_pick C [0, 1, 2, 3, 4] rfl ?_
                    exact (ih (n - 1) (by omega)) (u10) v18 v19  (oBI_fr fu10 rfl iv0) (by omega) (by omega) (by omega)
              · skip
                refine r_iload C (j := 5) (oDec_at oX12_rule 44 rfl) rfl ?_
                refine r_iconst C (oDec_at oX12_rule 45 rfl) (v := km1) (by rw [qkm1]; rfl) ?_
                refine r_icmp_ne C 107 (oDec_at oX12_rule 46 rfl) (by decide) (fun cd20 => ?_) (fun cd20 => ?_)
                · skip
                  obtain ⟨v21, ev21⟩ : ∃ z : Int32, x4 + Int32.ofInt 1 = z := ⟨_, rfl⟩
                  have hv21 : v21.toInt = x4.toInt + 1 := n_inc ev21 (by decide) (by omega) (by omega)
                  refine r_iinc C (j := 4) (lv' := [(0, .ref (oad E 71)), (1, .int a1), (2, .int a2), (3, .int x3), (4, .int v21), (5, .int r11)]) v21 [1, 2, 3, 4, 0, 5] (oDec_at oX12_rule 56 rfl) rfl ev21 (by decide) rfl ?_
                  refine r_goto C (tgt := 38) (oDec_at oX12_rule 57 rfl) (by decide) ?_
                  refine r_pick C [0, 1, 2, 3, 4] rfl ?_
                  exact (ih (n - 1) (by omega)) (u10) x3 v21  (oBI_fr fu10 rfl iv0) (by omega) (by omega) (by omega)
                · skip
                  refine r_goto C (tgt := 104) (oDec_at oX12_rule 47 rfl) (by decide) ?_
                  obtain ⟨v22, ev22⟩ : ∃ z : Int32, x3 + Int32.ofInt 1 = z := ⟨_, rfl⟩
                  have hv22 : v22.toInt = x3.toInt + 1 := n_inc ev22 (by decide) (by omega) (by omega)
                  refine r_iinc C (j := 3) (lv' := [(0, .ref (oad E 71)), (1, .int a1), (2, .int a2), (3, .int v22), (4, .int x4), (5, .int r11)]) v22 [1, 2, 3, 0, 4, 5] (oDec_at oX12_rule 55 rfl) rfl ev22 (by decide) rfl ?_
                  obtain ⟨v23, ev23⟩ : ∃ z : Int32, x4 + Int32.ofInt 1 = z := ⟨_, rfl⟩
                  have hv23 : v23.toInt = x4.toInt + 1 := n_inc ev23 (by decide) (by omega) (by omega)
                  refine r_iinc C (j := 4) (lv' := [(0, .ref (oad E 71)), (1, .int a1), (2, .int a2), (3, .int v22), (4, .int v23), (5, .int r11)]) v23 [1, 2, 3, 4, 0, 5] (oDec_at oX12_rule 56 rfl) rfl ev23 (by decide) rfl ?_
                  refine r_goto C (tgt := 38) (oDec_at oX12_rule 57 rfl) (by decide) ?_
                  refine r_pick C [0, 1, 2, 3, 4] rfl ?_
                  exact (ih (n - 1) (by omega)) (u10) v22 v23  (oBI_fr fu10 rfl iv0) (by omega) (by omega) (by omega)
            · skip
              refine r_goto C (tgt := 107) (oDec_at oX12_rule 36 rfl) (by decide) ?_
              obtain ⟨v24, ev24⟩ : ∃ z : Int32, x4 + Int32.ofInt 1 = z := ⟨_, rfl⟩
              have hv24 : v24.toInt = x4.toInt + 1 := n_inc ev24 (by decide) (by omega) (by omega)
              refine r_iinc C (j := 4) (lv' := [(0, .ref (oad E 71)), (1, .int a1), (2, .int a2), (3, .int x3), (4, .int v24)]) v24 [1, 2, 3, 4, 0] (oDec_at oX12_rule 56 rfl) rfl ev24 (by decide) rfl ?_
              refine r_goto C (tgt := 38) (oDec_at oX12_rule 57 rfl) (by decide) ?_
              exact (ih (n - 1) (by omega)) (t) x3 v24  iv0 (by omega) (by omega) (by omega)
  refine r_iload_n C (j := 1) (oDec_at oX12_rule 0 rfl) rfl rfl ?_
  obtain ⟨v25, ev25⟩ : ∃ z : Int64, a1.toInt64 = z := ⟨_, rfl⟩
  have hv25 : v25.toInt = a1.toInt := n_i2l ev25
  refine r_i2l C v25 (oDec_at oX12_rule 1 rfl) ev25 ?_
  refine r_lconst C (oDec_at oX12_rule 2 rfl) (v := j0) (by rw [qj0]; rfl) ?_
  refine r_aload_n C (j := 0) (oDec_at oX12_rule 3 rfl) rfl rfl ?_
  refine r_getF (k := 49) (b := 104) C oCl12 rfl (by decide) flX12_114 rfl rfl rfl (oDec_at oX12_rule 4 rfl) ?_
  refine r_iconst C (oDec_at oX12_rule 5 rfl) (v := k0) (by rw [qk0]; rfl) ?_
  refine r_pc C 8 rfl ?_
  obtain ⟨v27, ev27⟩ : ∃ z : Int32, (s).1 104 k0.toNatClampNeg = z := ⟨_, rfl⟩
  have gv27 : (s.1 104 k0.toNatClampNeg).toInt = v27.toInt := congrArg Int32.toInt (ev27)
  refine r_iald (n := 4) (lo := 0) (hi := 12) C v27 rfl (by decide) rfl rfl ⟨by omega, by omega⟩ (by decide) ev27 rfl rfl (oDec_at oX12_rule 6 rfl) (fun b26 b26h => ?_)
  refine r_iconst C (oDec_at oX12_rule 7 rfl) (v := k1) (by rw [qk1]; rfl) ?_
  obtain ⟨v28, ev28⟩ : ∃ z : Int32, z = v27 - k1 := ⟨_, rfl⟩
  have hv28 : v28.toInt = v27.toInt - k1.toInt := n_sub ev28 (by omega) (by omega)
  refine r_isub C v28 (oDec_at oX12_rule 8 rfl) ev28 ?_
  obtain ⟨v29, ev29⟩ : ∃ z : Int64, v28.toInt64 = z := ⟨_, rfl⟩
  have hv29 : v29.toInt = v28.toInt := n_i2l ev29
  refine r_i2l C v29 (oDec_at oX12_rule 9 rfl) ev29 ?_
  refine r_callSi C miX12_isIn mlX12_216 (ct_X12_isIn l E (s) v25 j0 v29 ) (by decide) rfl rfl rfl (Nat.le_of_ble_eq_true rfl) (oDec_at oX12_rule 10 rfl) (fun r31 u30 pu30 fu30 => ?_)
  try dsimp only at pu30
  obtain ⟨pu30_0, pu30_1⟩ := pu30
  have hxu30 := oFr_nil fu30; subst hxu30
  have rr31 := n_rng r31
  refine r_if_ne C 20 (oDec_at oX12_rule 11 rfl) (by decide) (fun cd32 => ?_) (fun cd32 => ?_)
  · skip
    refine r_iconst C (oDec_at oX12_rule 14 rfl) (v := k0) (by rw [qk0]; rfl) ?_
    refine r_istore_n C (lv' := [(0, .ref (oad E 71)), (1, .int a1), (2, .int a2), (3, .int k0)]) [1, 2, 3, 0] (oDec_at oX12_rule 15 rfl) rfl (by decide) rfl ?_
    refine r_aload_n C (j := 0) (oDec_at oX12_rule 16 rfl) rfl rfl ?_
    refine r_iload_n C (j := 2) (oDec_at oX12_rule 17 rfl) rfl rfl ?_
    refine r_if_eq C 31 (oDec_at oX12_rule 18 rfl) (by decide) (fun cd33 => ?_) (fun cd33 => ?_)
    · skip
      refine r_iconst C (oDec_at oX12_rule 21 rfl) (v := km1) (by rw [qkm1]; rfl) ?_
      refine r_puti (k := 64) (lo := (-2147483648)) (hi := 2147483647) C oCl12 rfl (by decide) flX12_136 rfl rfl rfl rfl rfl rfl rfl rfl (n_rng _) (oDec_at oX12_rule 22 rfl) ?_
      refine r_iconst C (oDec_at oX12_rule 23 rfl) (v := k0) (by rw [qk0]; rfl) ?_
      refine r_istore C (lv' := [(0, .ref (oad E 71)), (1, .int a1), (2, .int a2), (3, .int k0), (4, .int k0)]) [1, 2, 3, 4, 0] (oDec_at oX12_rule 24 rfl) (by decide) rfl ?_
      exact (key (4501 - k0.toInt).toNat) ((pI s 71 64 km1)) k0 k0  (oBI_fr (oFr_oneI (q := 12) (m := 64) rfl (by rfl)) rfl hp1) (by omega) (by omega) (by omega)
    · skip
      refine r_iload_n C (j := 1) (oDec_at oX12_rule 19 rfl) rfl rfl ?_
      refine r_goto C (tgt := 32) (oDec_at oX12_rule 20 rfl) (by decide) ?_
      refine r_puti (k := 64) (lo := (-2147483648)) (hi := 2147483647) C oCl12 rfl (by decide) flX12_136 rfl rfl rfl rfl rfl rfl rfl rfl (n_rng _) (oDec_at oX12_rule 22 rfl) ?_
      refine r_iconst C (oDec_at oX12_rule 23 rfl) (v := k0) (by rw [qk0]; rfl) ?_
      refine r_istore C (lv' := [(0, .ref (oad E 71)), (1, .int a1), (2, .int a2), (3, .int k0), (4, .int k0)]) [1, 2, 3, 4, 0] (oDec_at oX12_rule 24 rfl) (by decide) rfl ?_
      exact (key (4501 - k0.toInt).toNat) ((pI s 71 64 a1)) k0 k0  (oBI_fr (oFr_oneI (q := 12) (m := 64) rfl (by rfl)) rfl hp1) (by omega) (by omega) (by omega)
  · skip
    refine r_iconst C (oDec_at oX12_rule 12 rfl) (v := km1) (by rw [qkm1]; rfl) ?_
    exact r_iret C (oDec_at oX12_rule 13 rfl) ⟨_, rfl, hp2⟩
