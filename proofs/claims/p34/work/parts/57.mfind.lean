set_option maxHeartbeats 4000000 in
set_option maxRecDepth 100000 in
theorem ct_X12_holds (l : Launch) (E : oE) (s : oS) (a1 : Int32) (a2 : Int32)  (hp0 : oBI s) (hp1 : 0 ≤ a1.toInt ∧ a1.toInt ≤ 1) (hp2 : 0 ≤ a2.toInt) (hp3 : a1.toInt = 0 → a2.toInt < (s.1 104 0).toInt) (hp4 : a1.toInt = 1 → a2.toInt < (s.1 104 1).toInt) : oMet l 3 yX12_holds cX12_holds 6 (some .boolean) [(12, 58), (84, 9999)] E s [.ref (oad E 71), .int a1, .int a2] (oPi (fun r u => (0 ≤ r.toInt ∧ r.toInt ≤ 1))) := by
  refine oMet.of (lv := [(0, .ref (oad E 71)), (1, .int a1), (2, .int a2)]) (by decide +kernel) (Nat.le_of_ble_eq_true rfl) rfl (fun J C hT => ?_)
  have C : oC l 3 cX12_holds RX12 6 (some .boolean) [(12, 58), (84, 9999)] E s (oPi (fun r u => (0 ≤ r.toInt ∧ r.toInt ≤ 1))) J := C
  obtain ⟨k0, qk0⟩ : ∃ z : Int32, z = 0 := ⟨_, rfl⟩
  have ek0 : k0.toInt = 0 := by rw [qk0]; rfl
  obtain ⟨k1, qk1⟩ : ∃ z : Int32, z = 1 := ⟨_, rfl⟩
  have ek1 : k1.toInt = 1 := by rw [qk1]; rfl
  obtain ⟨k12, qk12⟩ : ∃ z : Int32, z = 12 := ⟨_, rfl⟩
  have ek12 : k12.toInt = 12 := by rw [qk12]; rfl
  obtain ⟨k16, qk16⟩ : ∃ z : Int32, z = 16 := ⟨_, rfl⟩
  have ek16 : k16.toInt = 16 := by rw [qk16]; rfl
  obtain ⟨k17, qk17⟩ : ∃ z : Int32, z = 17 := ⟨_, rfl⟩
  have ek17 : k17.toInt = 17 := by rw [qk17]; rfl
  obtain ⟨k40, qk40⟩ : ∃ z : Int32, z = 40 := ⟨_, rfl⟩
  have ek40 : k40.toInt = 40 := by rw [qk40]; rfl
  obtain ⟨k1000, qk1000⟩ : ∃ z : Int32, z = 1000 := ⟨_, rfl⟩
  have ek1000 : k1000.toInt = 1000 := by rw [qk1000]; rfl
  obtain ⟨j1, qj1⟩ : ∃ z : Int64, z = 1 := ⟨_, rfl⟩
  have ej1 : j1.toInt = 1 := by rw [qj1]; rfl
  have rg1 := n_rng a1
  have rg2 := n_rng a2
  have hm0 : (0 : Int) ≤ (s.1 104 0).toInt ∧ (s.1 104 0).toInt ≤ 12 := hT.1 104 0
  have hm1 : (0 : Int) ≤ (s.1 104 1).toInt ∧ (s.1 104 1).toInt ≤ 12 := hT.1 104 1
  have key : ∀ n : Nat, (∀ (t : oS) (x3 : Int32) (x4 : Int32), (0 ≤ x3.toInt ∧ x3.toInt ≤ 23) → (oHd x3 x4 t) → (0 ≤ x4.toInt ∧ x4.toInt ≤ 1600) → 1601 - x4.toInt ≤ (n : Int) → J t 20 [(0, .ref (oad E 71)), (3, .int x3), (4, .int x4)] []) := by
    intro n
    induction n using Nat.strongRecOn with
    | _ n ih =>
      skip
      · intro t x3 x4  iv0 iv1 iv2 hmu
        have rx3 := n_rng x3
        have rx4 := n_rng x4
        refine r_ty C (fun hty => ?_)
        have hty_piled : (0 : Int) ≤ ((t).1 71 58).toInt ∧ ((t).1 71 58).toInt ≤ 1700 := hty.1 71 58
        clear hty
        refine r_iload C (j := 2) (oDec_at oX12_holds 14 rfl) rfl ?_
        refine r_aload_n C (j := 0) (oDec_at oX12_holds 15 rfl) rfl rfl ?_
        refine r_getF (k := 51) (b := 106) C oCl12 rfl (by decide) flX12_120 rfl rfl rfl (oDec_at oX12_holds 16 rfl) ?_
        refine r_iload_n C (j := 1) (oDec_at oX12_holds 17 rfl) rfl rfl ?_
        obtain ⟨v2, ev2⟩ : ∃ z : Int32, (t).1 106 x3.toNatClampNeg = z := ⟨_, rfl⟩
        have gv2 : (t.1 106 x3.toNatClampNeg).toInt = v2.toInt := congrArg Int32.toInt (ev2)
        refine r_iald (n := 48) (lo := 0) (hi := 1600) C v2 rfl (by decide) rfl rfl ⟨by omega, by omega⟩ (by decide) ev2 rfl rfl (oDec_at oX12_holds 18 rfl) (fun b1 b1h => ?_)
        refine r_icmp_ge C 148 (oDec_at oX12_holds 19 rfl) (by decide) (fun cd3 => ?_) (fun cd3 => ?_)
        · skip
          refine r_aload_n C (j := 0) (oDec_at oX12_holds 80 rfl) rfl rfl ?_
          refine r_getF (k := 57) (b := 108) C oCl12 rfl (by decide) flX12_130 rfl rfl rfl (oDec_at oX12_holds 81 rfl) ?_
          refine r_iconst C (oDec_at oX12_holds 82 rfl) (v := k0) (by rw [qk0]; rfl) ?_
          obtain ⟨v4, ev4⟩ : ∃ z : Int64, (t).2.1 108 k0.toNatClampNeg = z := ⟨_, rfl⟩
          refine r_lald (n := 1700) C v4 rfl (by decide) rfl rfl ⟨by omega, by omega⟩ (by decide) ev4 (oDec_at oX12_holds 83 rfl) ?_
          refine r_lconst C (oDec_at oX12_holds 84 rfl) (v := j1) (by rw [qj1]; rfl) ?_
          obtain ⟨v5, ev5⟩ : ∃ z : Int32, z = lg_cmp v4 j1 := ⟨_, rfl⟩
          have hv5 := n_lcmp ev5
          refine r_lcmp C v5 (oDec_at oX12_holds 85 rfl) ev5 ?_
          refine r_pc C 156 rfl ?_
          refine r_if_ne C 163 (oDec_at oX12_holds 86 rfl) (by decide) (fun cd6 => ?_) (fun cd6 => ?_)
          · skip
            refine r_iconst C (oDec_at oX12_holds 89 rfl) (v := k0) (by rw [qk0]; rfl) ?_
            exact r_zret C (n_bool (by omega)) (oDec_at oX12_holds 90 rfl) ⟨_, rfl, by omega⟩
          · skip
            refine r_iconst C (oDec_at oX12_holds 87 rfl) (v := k1) (by rw [qk1]; rfl) ?_
            refine r_goto C (tgt := 164) (oDec_at oX12_holds 88 rfl) (by decide) ?_
            exact r_zret C (n_bool (by omega)) (oDec_at oX12_holds 90 rfl) ⟨_, rfl, by omega⟩
        · skip
          refine r_aload_n C (j := 0) (oDec_at oX12_holds 20 rfl) rfl rfl ?_
          refine r_getF (k := 44) (b := 102) C oCl12 rfl (by decide) flX12_108 rfl rfl rfl (oDec_at oX12_holds 21 rfl) ?_
          refine r_iload C (j := 2) (oDec_at oX12_holds 22 rfl) rfl ?_
          obtain ⟨v8, ev8⟩ : ∃ z : Int32, (t).1 102 x4.toNatClampNeg = z := ⟨_, rfl⟩
          have gv8 : (t.1 102 x4.toNatClampNeg).toInt = v8.toInt := congrArg Int32.toInt (ev8)
          have rv8 := n_rng v8
          refine r_iald (n := 3200) (lo := (-2147483648)) (hi := 2147483647) C v8 rfl (by decide) rfl rfl ⟨by omega, by omega⟩ (by decide) ev8 rfl rfl (oDec_at oX12_holds 23 rfl) (fun _ _ => ?_)
          have hf := oHd_f iv1 (by omega) (by omega) ev8 (by omega)
          refine r_istore C (lv' := [(0, .ref (oad E 71)), (3, .int x3), (4, .int x4), (5, .int v8)]) [1, 2, 3, 0] (oDec_at oX12_holds 24 rfl) (by decide) rfl ?_
          refine r_iload C (j := 3) (oDec_at oX12_holds 25 rfl) rfl ?_
          refine r_pc C 42 rfl ?_
          refine r_sipush C (oDec_at oX12_holds 26 rfl) (v := k1000) (by rw [qk1000]; rfl) ?_
          refine r_icmp_lt C 62 (oDec_at oX12_holds 27 rfl) (by decide) (fun cd9 => ?_) (fun cd9 => ?_)
          · skip
            refine r_iload C (j := 3) (oDec_at oX12_holds 35 rfl) rfl ?_
            refine r_bipush C (oDec_at oX12_holds 36 rfl) (v := k40) (by rw [qk40]; rfl) ?_
            refine r_icmp_lt C 87 (oDec_at oX12_holds 37 rfl) (by decide) (fun cd10 => ?_) (fun cd10 => ?_)
            · skip
              refine r_iload C (j := 3) (oDec_at oX12_holds 48 rfl) rfl ?_
              refine r_bipush C (oDec_at oX12_holds 49 rfl) (v := k17) (by rw [qk17]; rfl) ?_
              refine r_icmp_ne C 102 (oDec_at oX12_holds 50 rfl) (by decide) (fun cd11 => ?_) (fun cd11 => ?_)
              · skip
                refine r_iload C (j := 3) (oDec_at oX12_holds 55 rfl) rfl ?_
                refine r_bipush C (oDec_at oX12_holds 56 rfl) (v := k16) (by rw [qk16]; rfl) ?_
                refine r_icmp_ne C 136 (oDec_at oX12_holds 57 rfl) (by decide) (fun cd12 => ?_) (fun cd12 => ?_)
                · skip
                  refine r_aload_n C (j := 0) (oDec_at oX12_holds 75 rfl) rfl rfl ?_
                  refine r_iload C (j := 3) (oDec_at oX12_holds 76 rfl) rfl ?_
                  refine r_callVv C oCl12 rfl miX12_joins mlX12_375 (ct_X12_joins l E (t) v8 (by omega)) (by decide) rfl rfl rfl (Nat.le_of_ble_eq_true rfl) (oDec_at oX12_holds 77 rfl) (fun u13 pu13 fu13 => ?_)
                  try dsimp only at pu13
                  obtain ⟨v15, ev15⟩ : ∃ z : Int32, x4 + Int32.ofInt 1 = z := ⟨_, rfl⟩
                  have hv15 : v15.toInt = x4.toInt + 1 := n_inc ev15 (by decide) (by omega) (by omega)
                  refine r_iinc C (j := 2) (lv' := [(0, .ref (oad E 71)), (3, .int x3), (4, .int v15), (5, .int v8)]) v15 [1, 2, 0, 3] (oDec_at oX12_holds 78 rfl) rfl ev15 (by decide) rfl ?_
                  refine r_goto C (tgt := 20) (oDec_at oX12_holds 79 rfl) (by decide) ?_
                  refine r_pick C [0, 1, 2] rfl ?_
                  exact (ih (n - 1) (by omega)) (u13) x3 v15  (by omega) (by first | exact oHd_next iv1 (by omega) (by omega) (by assumption) (by omega) (by omega) (oFr_row fu13 rfl rfl) (oFr_row fu13 rfl rfl) (oFr_row fu13 rfl rfl) (by omega) | exact oHd_next iv1 (by omega) (by omega) (by assumption) (by omega) (by omega) rfl rfl rfl (by omega) | exact oHd_0 (by assumption) (by assumption) ek0 (by omega)) (by omega) (by omega)
                · skip
                  refine r_aload_n C (j := 0) (oDec_at oX12_holds 58 rfl) rfl rfl ?_
                  refine r_getF (k := 57) (b := 108) C oCl12 rfl (by decide) flX12_130 rfl rfl rfl (oDec_at oX12_holds 59 rfl) ?_
                  refine r_aload_n C (j := 0) (oDec_at oX12_holds 60 rfl) rfl rfl ?_
                  obtain ⟨v16, ev16⟩ : ∃ z : Int32, (t).1 71 58 = z := ⟨_, rfl⟩
                  have gv16 : (t.1 71 58).toInt = v16.toInt := congrArg Int32.toInt (ev16)
                  refine r_geti (k := 58) (lo := 0) (hi := 1700) C v16 oCl12 rfl (by decide) flX12_360 rfl rfl (ev16) rfl rfl (oDec_at oX12_holds 61 rfl) (fun b17 b17h => ?_)
                  refine r_iconst C (oDec_at oX12_holds 62 rfl) (v := k1) (by rw [qk1]; rfl) ?_
                  obtain ⟨v18, ev18⟩ : ∃ z : Int32, z = v16 - k1 := ⟨_, rfl⟩
                  have hv18 : v18.toInt = v16.toInt - k1.toInt := n_sub ev18 (by omega) (by omega)
                  refine r_isub C v18 (oDec_at oX12_holds 63 rfl) ev18 ?_
                  refine r_pc C 119 rfl ?_
                  refine r_lconst C (oDec_at oX12_holds 64 rfl) (v := j1) (by rw [qj1]; rfl) ?_
                  refine r_aload_n C (j := 0) (oDec_at oX12_holds 65 rfl) rfl rfl ?_
                  refine r_getF (k := 57) (b := 108) C oCl12 rfl (by decide) flX12_130 rfl rfl rfl (oDec_at oX12_holds 66 rfl) ?_
                  refine r_aload_n C (j := 0) (oDec_at oX12_holds 67 rfl) rfl rfl ?_
                  refine r_geti (k := 58) (lo := 0) (hi := 1700) C v16 oCl12 rfl (by decide) flX12_360 rfl rfl (ev16) rfl rfl (oDec_at oX12_holds 68 rfl) (fun _ _ => ?_)
                  refine r_iconst C (oDec_at oX12_holds 69 rfl) (v := k1) (by rw [qk1]; rfl) ?_
                  refine r_pc C 129 rfl ?_
                  obtain ⟨v19, ev19⟩ : ∃ z : Int32, z = v16 - k1 := ⟨_, rfl⟩
                  have hv19 : v19.toInt = v16.toInt - k1.toInt := n_sub ev19 (by omega) (by omega)
                  refine r_isub C v19 (oDec_at oX12_holds 70 rfl) ev19 ?_
                  obtain ⟨v20, ev20⟩ : ∃ z : Int64, (t).2.1 108 v19.toNatClampNeg = z := ⟨_, rfl⟩
                  refine r_lald (n := 1700) C v20 rfl (by decide) rfl rfl ⟨by omega, by omega⟩ (by decide) ev20 (oDec_at oX12_holds 71 rfl) ?_
                  obtain ⟨v21, ev21⟩ : ∃ z : Int64, z = j1 - v20 := ⟨_, rfl⟩
                  refine r_lsub C v21 (oDec_at oX12_holds 72 rfl) ev21 ?_
                  refine r_last (n := 1700) C rfl (by decide) rfl rfl ⟨by omega, by omega⟩ (by decide) rfl (oDec_at oX12_holds 73 rfl) ?_
                  refine r_goto C (tgt := 142) (oDec_at oX12_holds 74 rfl) (by decide) ?_
                  have lk22 : (((pL t 108 v18.toNatClampNeg v21)).1 71 58).toInt = v16.toInt := congrArg Int32.toInt ((show ((pL t 108 v18.toNatClampNeg v21)).1 71 58 = v16 from ev16))
                  obtain ⟨v23, ev23⟩ : ∃ z : Int32, x4 + Int32.ofInt 1 = z := ⟨_, rfl⟩
                  have hv23 : v23.toInt = x4.toInt + 1 := n_inc ev23 (by decide) (by omega) (by omega)
                  refine r_iinc C (j := 2) (lv' := [(0, .ref (oad E 71)), (3, .int x3), (4, .int v23), (5, .int v8)]) v23 [1, 2, 0, 3] (oDec_at oX12_holds 78 rfl) rfl ev23 (by decide) rfl ?_
                  refine r_goto C (tgt := 20) (oDec_at oX12_holds 79 rfl) (by decide) ?_
                  refine r_pick C [0, 1, 2] rfl ?_
                  exact (ih (n - 1) (by omega)) ((pL t 108 v18.toNatClampNeg v21)) x3 v23  (by omega) (by first | exact oHd_next iv1 (by omega) (by omega) (by assumption) (by omega) (by omega) rfl rfl rfl (by omega) | exact oHd_0 (by assumption) (by assumption) ek0 (by omega)) (by omega) (by omega)
              · skip
                refine r_aload_n C (j := 0) (oDec_at oX12_holds 51 rfl) rfl rfl ?_
                refine r_lconst C (oDec_at oX12_holds 52 rfl) (v := j1) (by rw [qj1]; rfl) ?_
                refine r_callVv C oCl12 rfl miX12_puts mlX12_367 (ct_X12_puts l E (t) j1 (by omega)) (by decide) rfl rfl rfl (Nat.le_of_ble_eq_true rfl) (oDec_at oX12_holds 53 rfl) (fun u24 pu24 fu24 => ?_)
                try dsimp only at pu24
                refine r_goto C (tgt := 142) (oDec_at oX12_holds 54 rfl) (by decide) ?_
                obtain ⟨v26, ev26⟩ : ∃ z : Int32, x4 + Int32.ofInt 1 = z := ⟨_, rfl⟩
                have hv26 : v26.toInt = x4.toInt + 1 := n_inc ev26 (by decide) (by omega) (by omega)
                refine r_iinc C (j := 2) (lv' := [(0, .ref (oad E 71)), (3, .int x3), (4, .int v26), (5, .int v8)]) v26 [1, 2, 0, 3] (oDec_at oX12_holds 78 rfl) rfl ev26 (by decide) rfl ?_
                refine r_goto C (tgt := 20) (oDec_at oX12_holds 79 rfl) (by decide) ?_
                refine r_pick C [0, 1, 2] rfl ?_
                exact (ih (n - 1) (by omega)) (u24) x3 v26  (by omega) (by first | exact oHd_next iv1 (by omega) (by omega) (by assumption) (by omega) (by omega) (oFr_row fu24 rfl rfl) (oFr_row fu24 rfl rfl) (oFr_row fu24 rfl rfl) (by omega) | exact oHd_next iv1 (by omega) (by omega) (by assumption) (by omega) (by omega) rfl rfl rfl (by omega) | exact oHd_0 (by assumption) (by assumption) ek0 (by omega)) (by omega) (by omega)
            · skip
              refine r_aload_n C (j := 0) (oDec_at oX12_holds 38 rfl) rfl rfl ?_
              refine r_aload_n C (j := 0) (oDec_at oX12_holds 39 rfl) rfl rfl ?_
              refine r_getF (k := 59) (b := 109) C oCl12 rfl (by decide) flX12_133 rfl rfl rfl (oDec_at oX12_holds 40 rfl) ?_
              refine r_iload C (j := 3) (oDec_at oX12_holds 41 rfl) rfl ?_
              refine r_bipush C (oDec_at oX12_holds 42 rfl) (v := k40) (by rw [qk40]; rfl) ?_
              obtain ⟨v27, ev27⟩ : ∃ z : Int32, z = v8 - k40 := ⟨_, rfl⟩
              have hv27 : v27.toInt = v8.toInt - k40.toInt := n_sub ev27 (by omega) (by omega)
              refine r_isub C v27 (oDec_at oX12_holds 43 rfl) ev27 ?_
              refine r_pc C 79 rfl ?_
              obtain ⟨v29, ev29⟩ : ∃ z : Int32, (t).1 109 v27.toNatClampNeg = z := ⟨_, rfl⟩
              have gv29 : (t.1 109 v27.toNatClampNeg).toInt = v29.toInt := congrArg Int32.toInt (ev29)
              have rv29 := n_rng v29
              refine r_iald (n := 8) (lo := (-2147483648)) (hi := 2147483647) C v29 rfl (by decide) rfl rfl ⟨by omega, by omega⟩ (by decide) ev29 rfl rfl (oDec_at oX12_holds 44 rfl) (fun _ _ => ?_)
              obtain ⟨v30, ev30⟩ : ∃ z : Int64, v29.toInt64 = z := ⟨_, rfl⟩
              have hv30 : v30.toInt = v29.toInt := n_i2l ev30
              refine r_i2l C v30 (oDec_at oX12_holds 45 rfl) ev30 ?_
              refine r_callVv C oCl12 rfl miX12_puts mlX12_367 (ct_X12_puts l E (t) v30 (by omega)) (by decide) rfl rfl rfl (Nat.le_of_ble_eq_true rfl) (oDec_at oX12_holds 46 rfl) (fun u31 pu31 fu31 => ?_)
              try dsimp only at pu31
              refine r_goto C (tgt := 142) (oDec_at oX12_holds 47 rfl) (by decide) ?_
              obtain ⟨v33, ev33⟩ : ∃ z : Int32, x4 + Int32.ofInt 1 = z := ⟨_, rfl⟩
              have hv33 : v33.toInt = x4.toInt + 1 := n_inc ev33 (by decide) (by omega) (by omega)
              refine r_iinc C (j := 2) (lv' := [(0, .ref (oad E 71)), (3, .int x3), (4, .int v33), (5, .int v8)]) v33 [1, 2, 0, 3] (oDec_at oX12_holds 78 rfl) rfl ev33 (by decide) rfl ?_
              refine r_goto C (tgt := 20) (oDec_at oX12_holds 79 rfl) (by decide) ?_
              refine r_pick C [0, 1, 2] rfl ?_
              exact (ih (n - 1) (by omega)) (u31) x3 v33  (by omega) (by first | exact oHd_next iv1 (by omega) (by omega) (by assumption) (by omega) (by omega) (oFr_row fu31 rfl rfl) (oFr_row fu31 rfl rfl) (oFr_row fu31 rfl rfl) (by omega) | exact oHd_next iv1 (by omega) (by omega) (by assumption) (by omega) (by omega) rfl rfl rfl (by omega) | exact oHd_0 (by assumption) (by assumption) ek0 (by omega)) (by omega) (by omega)
          · skip
            refine r_aload_n C (j := 0) (oDec_at oX12_holds 28 rfl) rfl rfl ?_
            refine r_iload C (j := 3) (oDec_at oX12_holds 29 rfl) rfl ?_
            refine r_sipush C (oDec_at oX12_holds 30 rfl) (v := k1000) (by rw [qk1000]; rfl) ?_
            obtain ⟨v34, ev34⟩ : ∃ z : Int32, z = v8 - k1000 := ⟨_, rfl⟩
            have hv34 : v34.toInt = v8.toInt - k1000.toInt := n_sub ev34 (by omega) (by omega)
            refine r_isub C v34 (oDec_at oX12_holds 31 rfl) ev34 ?_
            obtain ⟨v35, ev35⟩ : ∃ z : Int64, v34.toInt64 = z := ⟨_, rfl⟩
            have hv35 : v35.toInt = v34.toInt := n_i2l ev35
            refine r_i2l C v35 (oDec_at oX12_holds 32 rfl) ev35 ?_
            refine r_callVv C oCl12 rfl miX12_puts mlX12_367 (ct_X12_puts l E (t) v35 (by omega)) (by decide) rfl rfl rfl (Nat.le_of_ble_eq_true rfl) (oDec_at oX12_holds 33 rfl) (fun u36 pu36 fu36 => ?_)
            try dsimp only at pu36
            refine r_pc C 59 rfl ?_
            refine r_goto C (tgt := 142) (oDec_at oX12_holds 34 rfl) (by decide) ?_
            obtain ⟨v38, ev38⟩ : ∃ z : Int32, x4 + Int32.ofInt 1 = z := ⟨_, rfl⟩
            have hv38 : v38.toInt = x4.toInt + 1 := n_inc ev38 (by decide) (by omega) (by omega)
            refine r_iinc C (j := 2) (lv' := [(0, .ref (oad E 71)), (3, .int x3), (4, .int v38), (5, .int v8)]) v38 [1, 2, 0, 3] (oDec_at oX12_holds 78 rfl) rfl ev38 (by decide) rfl ?_
            refine r_goto C (tgt := 20) (oDec_at oX12_holds 79 rfl) (by decide) ?_
            refine r_pick C [0, 1, 2] rfl ?_
            exact (ih (n - 1) (by omega)) (u36) x3 v38  (by omega) (by first | exact oHd_next iv1 (by omega) (by omega) (by assumption) (by omega) (by omega) (oFr_row fu36 rfl rfl) (oFr_row fu36 rfl rfl) (oFr_row fu36 rfl rfl) (by omega) | exact oHd_next iv1 (by omega) (by omega) (by assumption) (by omega) (by omega) rfl rfl rfl (by omega) | exact oHd_0 (by assumption) (by assumption) ek0 (by omega)) (by omega) (by omega)
  refine r_bipush C (oDec_at oX12_holds 0 rfl) (v := k12) (by rw [qk12]; rfl) ?_
  refine r_iload_n C (j := 1) (oDec_at oX12_holds 1 rfl) rfl rfl ?_
  obtain ⟨v39, ev39⟩ : ∃ z : Int32, z = k12 * a1 := ⟨_, rfl⟩
  have hv39 : v39.toInt = 12 * a1.toInt := n_mulK' 12 ev39 ek12 (by omega) (by omega)
  refine r_imul C v39 (oDec_at oX12_holds 2 rfl) ev39 ?_
  refine r_iload_n C (j := 2) (oDec_at oX12_holds 3 rfl) rfl rfl ?_
  obtain ⟨v40, ev40⟩ : ∃ z : Int32, z = v39 + a2 := ⟨_, rfl⟩
  have hv40 : v40.toInt = v39.toInt + a2.toInt := n_add ev40 (by omega) (by omega)
  refine r_iadd C v40 (oDec_at oX12_holds 4 rfl) ev40 ?_
  refine r_istore_n C (lv' := [(0, .ref (oad E 71)), (1, .int a1), (2, .int a2), (3, .int v40)]) [1, 2, 3, 0] (oDec_at oX12_holds 5 rfl) rfl (by decide) rfl ?_
  refine r_pc C 7 rfl ?_
  refine r_aload_n C (j := 0) (oDec_at oX12_holds 6 rfl) rfl rfl ?_
  refine r_iconst C (oDec_at oX12_holds 7 rfl) (v := k0) (by rw [qk0]; rfl) ?_
  refine r_puti (k := 58) (lo := 0) (hi := 1700) C oCl12 rfl (by decide) flX12_360 rfl rfl rfl rfl rfl rfl rfl rfl ⟨by omega, by omega⟩ (oDec_at oX12_holds 8 rfl) ?_
  refine r_aload_n C (j := 0) (oDec_at oX12_holds 9 rfl) rfl rfl ?_
  refine r_getF (k := 50) (b := 105) C oCl12 rfl (by decide) flX12_117 rfl rfl rfl (oDec_at oX12_holds 10 rfl) ?_
  refine r_iload_n C (j := 3) (oDec_at oX12_holds 11 rfl) rfl rfl ?_
  refine r_pc C 17 rfl ?_
  obtain ⟨v42, ev42⟩ : ∃ z : Int32, ((pI s 71 58 k0)).1 105 v40.toNatClampNeg = z := ⟨_, rfl⟩
  have av42 : s.1 105 v40.toNatClampNeg = v42 := ((pI_ne (a := 105) (b := v40.toNatClampNeg) (c := 71) _ _ (Or.inl (by decide)))).symm.trans ev42
  have gv42 : (s.1 105 v40.toNatClampNeg).toInt = v42.toInt := congrArg Int32.toInt (((pI_ne (a := 105) (b := v40.toNatClampNeg) (c := 71) _ _ (Or.inl (by decide)))).symm.trans ev42)
  refine r_iald (n := 48) (lo := 0) (hi := 1600) C v42 rfl (by decide) rfl rfl ⟨by omega, by omega⟩ (by decide) ev42 rfl rfl (oDec_at oX12_holds 12 rfl) (fun b41 b41h => ?_)
  refine r_istore C (lv' := [(0, .ref (oad E 71)), (1, .int a1), (2, .int a2), (3, .int v40), (4, .int v42)]) [1, 2, 3, 4, 0] (oDec_at oX12_holds 13 rfl) (by decide) rfl ?_
  refine r_pick C [0, 3, 4] rfl ?_
  exact (key (1601 - v42.toInt).toNat) ((pI s 71 58 k0)) v40 v42  (by omega) (by first | exact oHd_0 hp0 (by assumption) ek0 (by omega)) (by omega) (by omega)
set_option maxHeartbeats 4000000 in
set_option maxRecDepth 100000 in
theorem ct_X12_firstRule (l : Launch) (E : oE) (s : oS)   (hp0 : oBI s) : oMet l 4 yX12_firstRule cX12_firstRule 2 (some .int) [(12, 58), (84, 9999)] E s [.ref (oad E 71)] (oPi (fun r u => (-1 ≤ r.toInt ∧ r.toInt ≤ 12))) := by
  refine oMet.of (lv := [(0, .ref (oad E 71))]) (by decide +kernel) (Nat.le_of_ble_eq_true rfl) rfl (fun J C hT => ?_)
  have C : oC l 4 cX12_firstRule RX12 2 (some .int) [(12, 58), (84, 9999)] E s (oPi (fun r u => (-1 ≤ r.toInt ∧ r.toInt ≤ 12))) J := C
  obtain ⟨km1, qkm1⟩ : ∃ z : Int32, z = (-1) := ⟨_, rfl⟩
  have ekm1 : km1.toInt = (-1) := by rw [qkm1]; rfl
  obtain ⟨k0, qk0⟩ : ∃ z : Int32, z = 0 := ⟨_, rfl⟩
  have ek0 : k0.toInt = 0 := by rw [qk0]; rfl
  have key : ∀ n : Nat, (∀ (t : oS) (x1 : Int32), (oBI t) → (0 ≤ x1.toInt ∧ x1.toInt ≤ 12) → 13 - x1.toInt ≤ (n : Int) → J t 2 [(0, .ref (oad E 71)), (1, .int x1)] []) := by
    intro n
    induction n using Nat.strongRecOn with
    | _ n ih =>
      skip
      · intro t x1  iv0 iv1 hmu
        have rx1 := n_rng x1
        refine r_iload_n C (j := 1) (oDec_at oX12_firstRule 2 rfl) rfl rfl ?_
        refine r_aload_n C (j := 0) (oDec_at oX12_firstRule 3 rfl) rfl rfl ?_
        refine r_getF (k := 49) (b := 104) C oCl12 rfl (by decide) flX12_114 rfl rfl rfl (oDec_at oX12_firstRule 4 rfl) ?_
        refine r_iconst C (oDec_at oX12_firstRule 5 rfl) (v := k0) (by rw [qk0]; rfl) ?_
        obtain ⟨v2, ev2⟩ : ∃ z : Int32, (t).1 104 k0.toNatClampNeg = z := ⟨_, rfl⟩
        have gv2 : (t.1 104 k0.toNatClampNeg).toInt = v2.toInt := congrArg Int32.toInt (ev2)
        refine r_iald (n := 4) (lo := 0) (hi := 12) C v2 rfl (by decide) rfl rfl ⟨by omega, by omega⟩ (by decide) ev2 rfl rfl (oDec_at oX12_firstRule 6 rfl) (fun b1 b1h => ?_)
        have h0 := oIx0 (i := k0) ev2 ek0
        refine r_icmp_ge C 37 (oDec_at oX12_firstRule 7 rfl) (by decide) (fun cd3 => ?_) (fun cd3 => ?_)
        · skip
          refine r_iconst C (oDec_at oX12_firstRule 21 rfl) (v := km1) (by rw [qkm1]; rfl) ?_
          exact r_iret C (oDec_at oX12_firstRule 22 rfl) ⟨_, rfl, by omega⟩
        · skip
          refine r_iload_n C (j := 1) (oDec_at oX12_firstRule 8 rfl) rfl rfl ?_
          refine r_aload_n C (j := 0) (oDec_at oX12_firstRule 9 rfl) rfl rfl ?_
          obtain ⟨v4, ev4⟩ : ∃ z : Int32, (t).1 71 64 = z := ⟨_, rfl⟩
          have gv4 : (t.1 71 64).toInt = v4.toInt := congrArg Int32.toInt (ev4)
          have rv4 := n_rng v4
          refine r_geti (k := 64) (lo := (-2147483648)) (hi := 2147483647) C v4 oCl12 rfl (by decide) flX12_136 rfl rfl (ev4) rfl rfl (oDec_at oX12_firstRule 10 rfl) (fun _ _ => ?_)
          refine r_icmp_eq C 31 (oDec_at oX12_firstRule 11 rfl) (by decide) (fun cd5 => ?_) (fun cd5 => ?_)
          · skip
            obtain ⟨v6, ev6⟩ : ∃ z : Int32, x1 + Int32.ofInt 1 = z := ⟨_, rfl⟩
            have hv6 : v6.toInt = x1.toInt + 1 := n_inc ev6 (by decide) (by omega) (by omega)
            refine r_iinc C (j := 1) (lv' := [(0, .ref (oad E 71)), (1, .int v6)]) v6 [1, 0] (oDec_at oX12_firstRule 19 rfl) rfl ev6 (by decide) rfl ?_
            refine r_goto C (tgt := 2) (oDec_at oX12_firstRule 20 rfl) (by decide) ?_
            exact (ih (n - 1) (by omega)) (t) v6  iv0 (by omega) (by omega)
          · skip
            refine r_aload_n C (j := 0) (oDec_at oX12_firstRule 12 rfl) rfl rfl ?_
            refine r_iconst C (oDec_at oX12_firstRule 13 rfl) (v := k0) (by rw [qk0]; rfl) ?_
            refine r_iload_n C (j := 1) (oDec_at oX12_firstRule 14 rfl) rfl rfl ?_
            refine r_callVi C oCl12 rfl miX12_holds mlX12_449 (ct_X12_holds l E (t) k0 x1 iv0 (by omega) (by omega) (by omega) (by omega)) (by decide) rfl rfl rfl (Nat.le_of_ble_eq_true rfl) (oDec_at oX12_firstRule 15 rfl) (fun r8 u7 pu7 fu7 => ?_)
            try dsimp only at pu7
            have rr8 := n_rng r8
            refine r_if_eq C 31 (oDec_at oX12_firstRule 16 rfl) (by decide) (fun cd9 => ?_) (fun cd9 => ?_)
            · skip
              obtain ⟨v10, ev10⟩ : ∃ z : Int32, x1 + Int32.ofInt 1 = z := ⟨_, rfl⟩
              have hv10 : v10.toInt = x1.toInt + 1 := n_inc ev10 (by decide) (by omega) (by omega)
              refine r_iinc C (j := 1) (lv' := [(0, .ref (oad E 71)), (1, .int v10)]) v10 [1, 0] (oDec_at oX12_firstRule 19 rfl) rfl ev10 (by decide) rfl ?_
              refine r_goto C (tgt := 2) (oDec_at oX12_firstRule 20 rfl) (by decide) ?_
              exact (ih (n - 1) (by omega)) (u7) v10  (oBI_fr fu7 rfl iv0) (by omega) (by omega)
            · skip
              refine r_iload_n C (j := 1) (oDec_at oX12_firstRule 17 rfl) rfl rfl ?_
              exact r_iret C (oDec_at oX12_firstRule 18 rfl) ⟨_, rfl, by omega⟩
  refine r_iconst C (oDec_at oX12_firstRule 0 rfl) (v := k0) (by rw [qk0]; rfl) ?_
  refine r_istore_n C (lv' := [(0, .ref (oad E 71)), (1, .int k0)]) [1, 0] (oDec_at oX12_firstRule 1 rfl) rfl (by decide) rfl ?_
  exact (key (13 - k0.toInt).toNat) (s) k0  hp0 (by omega) (by omega)
set_option maxHeartbeats 4000000 in
set_option maxRecDepth 100000 in
theorem ct_X12_brokenBy (l : Launch) (E : oE) (s : oS) (a1 : Int32) (a2 : Int32) (a3 : Int32)  (hp0 : 0 ≤ a1.toInt ∧ a1.toInt ≤ 4499) (hp1 : 0 ≤ a2.toInt ∧ a2.toInt ≤ 4499) (hp2 : 0 ≤ a3.toInt ∧ a3.toInt ≤ 2000) (hp3 : oBI s) : oMet l 5 yX12_brokenBy cX12_brokenBy 8 (some .int) [(12, 58), (12, 60), (12, 61), (12, 62), (12, 63), (84, 9999), (85, 9999)] E s [.ref (oad E 71), .int a1, .int a2, .int a3] (oPi (fun r u => (-1 ≤ r.toInt ∧ r.toInt ≤ 12))) := by
  refine oMet.of (lv := [(0, .ref (oad E 71)), (1, .int a1), (2, .int a2), (3, .int a3)]) (by decide +kernel) (Nat.le_of_ble_eq_true rfl) rfl (fun J C hT => ?_)
  have C : oC l 5 cX12_brokenBy RX12 8 (some .int) [(12, 58), (12, 60), (12, 61), (12, 62), (12, 63), (84, 9999), (85, 9999)] E s (oPi (fun r u => (-1 ≤ r.toInt ∧ r.toInt ≤ 12))) J := C
  obtain ⟨km1000000000, qkm1000000000⟩ : ∃ z : Int32, z = (-1000000000) := ⟨_, rfl⟩
  have ekm1000000000 : km1000000000.toInt = (-1000000000) := by rw [qkm1000000000]; rfl
  obtain ⟨km1, qkm1⟩ : ∃ z : Int32, z = (-1) := ⟨_, rfl⟩
  have ekm1 : km1.toInt = (-1) := by rw [qkm1]; rfl
  obtain ⟨k0, qk0⟩ : ∃ z : Int32, z = 0 := ⟨_, rfl⟩
  have ek0 : k0.toInt = 0 := by rw [qk0]; rfl
  obtain ⟨k1, qk1⟩ : ∃ z : Int32, z = 1 := ⟨_, rfl⟩
  have ek1 : k1.toInt = 1 := by rw [qk1]; rfl
  have rg1 := n_rng a1
  have rg2 := n_rng a2
  have rg3 := n_rng a3
  refine r_aload_n C (j := 0) (oDec_at oX12_brokenBy 0 rfl) rfl rfl ?_
  refine r_iload_n C (j := 1) (oDec_at oX12_brokenBy 1 rfl) rfl rfl ?_
  refine r_iload_n C (j := 3) (oDec_at oX12_brokenBy 2 rfl) rfl rfl ?_
  refine r_callVi C oCl12 rfl miX12_noteAt mlX12_405 (ct_X12_noteAt l E (s) a1 a3 (by omega) (by omega)) (by decide) rfl rfl rfl (Nat.le_of_ble_eq_true rfl) (oDec_at oX12_brokenBy 3 rfl) (fun r2 u1 pu1 fu1 => ?_)
  try dsimp only at pu1
  obtain ⟨pu1_0, pu1_1⟩ := pu1
  have hxu1 := oFr_nil fu1; subst hxu1
  have rr2 := n_rng r2
  refine r_istore C (lv' := [(0, .ref (oad E 71)), (1, .int a1), (2, .int a2), (3, .int a3), (4, .int r2)]) [1, 2, 3, 4, 0] (oDec_at oX12_brokenBy 4 rfl) (by decide) rfl ?_
  refine r_aload_n C (j := 0) (oDec_at oX12_brokenBy 5 rfl) rfl rfl ?_
  refine r_pc C 9 rfl ?_
  refine r_iload_n C (j := 2) (oDec_at oX12_brokenBy 6 rfl) rfl rfl ?_
  refine r_iload_n C (j := 3) (oDec_at oX12_brokenBy 7 rfl) rfl rfl ?_
  refine r_callVi C oCl12 rfl miX12_noteAt mlX12_405 (ct_X12_noteAt l E (s) a2 a3 (by omega) (by omega)) (by decide) rfl rfl rfl (Nat.le_of_ble_eq_true rfl) (oDec_at oX12_brokenBy 8 rfl) (fun r4 u3 pu3 fu3 => ?_)
  try dsimp only at pu3
  obtain ⟨pu3_0, pu3_1⟩ := pu3
  have hxu3 := oFr_nil fu3; subst hxu3
  have rr4 := n_rng r4
  refine r_istore C (lv' := [(0, .ref (oad E 71)), (1, .int a1), (2, .int a2), (3, .int a3), (4, .int r2), (5, .int r4)]) [1, 2, 3, 4, 5, 0] (oDec_at oX12_brokenBy 9 rfl) (by decide) rfl ?_
  refine r_aload_n C (j := 0) (oDec_at oX12_brokenBy 10 rfl) rfl rfl ?_
  refine r_aload_n C (j := 0) (oDec_at oX12_brokenBy 11 rfl) rfl rfl ?_
  refine r_pc C 18 rfl ?_
  refine r_iload_n C (j := 1) (oDec_at oX12_brokenBy 12 rfl) rfl rfl ?_
  refine r_iload C (j := 4) (oDec_at oX12_brokenBy 13 rfl) rfl ?_
  refine r_callVi C oCl12 rfl miX12_stepBy mlX12_408 (ct_X12_stepBy l E (s) a1 r2 (by omega) (by omega)) (by decide) rfl rfl rfl (Nat.le_of_ble_eq_true rfl) (oDec_at oX12_brokenBy 14 rfl) (fun r6 u5 pu5 fu5 => ?_)
  try dsimp only at pu5
  have hxu5 := oFr_nil fu5; subst hxu5
  have rr6 := n_rng r6
  refine r_puti (k := 60) (lo := (-2147483648)) (hi := 2147483647) C oCl12 rfl (by decide) flX12_434 rfl rfl rfl rfl rfl rfl rfl rfl (n_rng _) (oDec_at oX12_brokenBy 15 rfl) ?_
  refine r_aload_n C (j := 0) (oDec_at oX12_brokenBy 16 rfl) rfl rfl ?_
  refine r_aload_n C (j := 0) (oDec_at oX12_brokenBy 17 rfl) rfl rfl ?_
  refine r_pc C 29 rfl ?_
  refine r_iload_n C (j := 2) (oDec_at oX12_brokenBy 18 rfl) rfl rfl ?_
  refine r_iload C (j := 5) (oDec_at oX12_brokenBy 19 rfl) rfl ?_
  refine r_callVi C oCl12 rfl miX12_stepBy mlX12_408 (ct_X12_stepBy l E ((pI s 71 60 r6)) a2 r4 (by omega) (by omega)) (by decide) rfl rfl rfl (Nat.le_of_ble_eq_true rfl) (oDec_at oX12_brokenBy 20 rfl) (fun r8 u7 pu7 fu7 => ?_)
  try dsimp only at pu7
  have hxu7 := oFr_nil fu7; subst hxu7
  have rr8 := n_rng r8
  refine r_puti (k := 61) (lo := (-2147483648)) (hi := 2147483647) C oCl12 rfl (by decide) flX12_437 rfl rfl rfl rfl rfl rfl rfl rfl (n_rng _) (oDec_at oX12_brokenBy 21 rfl) ?_
  refine r_aload_n C (j := 0) (oDec_at oX12_brokenBy 22 rfl) rfl rfl ?_
  refine r_geti (k := 60) (lo := (-2147483648)) (hi := 2147483647) C r6 oCl12 rfl (by decide) flX12_434 rfl rfl (((pI_ne (a := 71) (b := 60) (c := 71) (k := 61) _ _ (Or.inr (by decide)))).trans ((pI_self _ _ _ _))) rfl rfl (oDec_at oX12_brokenBy 23 rfl) (fun _ _ => ?_)
  refine r_pc C 42 rfl ?_
  refine r_ldcw C (v := km1000000000) (by rw [qkm1000000000]; exact kcX12_398) (oDec_at oX12_brokenBy 24 rfl) ?_
  refine r_icmp_eq C 58 (oDec_at oX12_brokenBy 25 rfl) (by decide) (fun cd9 => ?_) (fun cd9 => ?_)
  · skip
    refine r_iconst C (oDec_at oX12_brokenBy 30 rfl) (v := km1) (by rw [qkm1]; rfl) ?_
    exact r_iret C (oDec_at oX12_brokenBy 31 rfl) ⟨_, rfl, by omega⟩
  · skip
    refine r_aload_n C (j := 0) (oDec_at oX12_brokenBy 26 rfl) rfl rfl ?_
    refine r_geti (k := 61) (lo := (-2147483648)) (hi := 2147483647) C r8 oCl12 rfl (by decide) flX12_437 rfl rfl ((pI_self _ _ _ _)) rfl rfl (oDec_at oX12_brokenBy 27 rfl) (fun _ _ => ?_)
    refine r_ldcw C (v := km1000000000) (by rw [qkm1000000000]; exact kcX12_398) (oDec_at oX12_brokenBy 28 rfl) ?_
    refine r_icmp_ne C 60 (oDec_at oX12_brokenBy 29 rfl) (by decide) (fun cd10 => ?_) (fun cd10 => ?_)
    · skip
      refine r_aload_n C (j := 0) (oDec_at oX12_brokenBy 32 rfl) rfl rfl ?_
      refine r_iload_n C (j := 1) (oDec_at oX12_brokenBy 33 rfl) rfl rfl ?_
      refine r_iload_n C (j := 3) (oDec_at oX12_brokenBy 34 rfl) rfl rfl ?_
      refine r_iconst C (oDec_at oX12_brokenBy 35 rfl) (v := k1) (by rw [qk1]; rfl) ?_
      obtain ⟨v11, ev11⟩ : ∃ z : Int32, z = a3 - k1 := ⟨_, rfl⟩
      have hv11 : v11.toInt = a3.toInt - k1.toInt := n_sub ev11 (by omega) (by omega)
      refine r_isub C v11 (oDec_at oX12_brokenBy 36 rfl) ev11 ?_
      refine r_callVi C oCl12 rfl miX12_noteAt mlX12_405 (ct_X12_noteAt l E ((pI (pI s 71 60 r6) 71 61 r8)) a1 v11 (by omega) (by omega)) (by decide) rfl rfl rfl (Nat.le_of_ble_eq_true rfl) (oDec_at oX12_brokenBy 37 rfl) (fun r13 u12 pu12 fu12 => ?_)
      try dsimp only at pu12
      obtain ⟨pu12_0, pu12_1⟩ := pu12
      have hxu12 := oFr_nil fu12; subst hxu12
      have rr13 := n_rng r13
      refine r_pc C 68 rfl ?_
      refine r_istore C (lv' := [(0, .ref (oad E 71)), (1, .int a1), (2, .int a2), (3, .int a3), (4, .int r2), (5, .int r4), (6, .int r13)]) [1, 2, 3, 4, 5, 6, 0] (oDec_at oX12_brokenBy 38 rfl) (by decide) rfl ?_
      refine r_aload_n C (j := 0) (oDec_at oX12_brokenBy 39 rfl) rfl rfl ?_
      refine r_iload_n C (j := 2) (oDec_at oX12_brokenBy 40 rfl) rfl rfl ?_
      refine r_iload_n C (j := 3) (oDec_at oX12_brokenBy 41 rfl) rfl rfl ?_
      refine r_iconst C (oDec_at oX12_brokenBy 42 rfl) (v := k1) (by rw [qk1]; rfl) ?_
      obtain ⟨v14, ev14⟩ : ∃ z : Int32, z = a3 - k1 := ⟨_, rfl⟩
      have hv14 : v14.toInt = a3.toInt - k1.toInt := n_sub ev14 (by omega) (by omega)
      refine r_isub C v14 (oDec_at oX12_brokenBy 43 rfl) ev14 ?_
      refine r_pc C 75 rfl ?_
      refine r_callVi C oCl12 rfl miX12_noteAt mlX12_405 (ct_X12_noteAt l E ((pI (pI s 71 60 r6) 71 61 r8)) a2 v14 (by omega) (by omega)) (by decide) rfl rfl rfl (Nat.le_of_ble_eq_true rfl) (oDec_at oX12_brokenBy 44 rfl) (fun r16 u15 pu15 fu15 => ?_)
      try dsimp only at pu15
      obtain ⟨pu15_0, pu15_1⟩ := pu15
      have hxu15 := oFr_nil fu15; subst hxu15
      have rr16 := n_rng r16
      refine r_istore C (lv' := [(0, .ref (oad E 71)), (1, .int a1), (2, .int a2), (3, .int a3), (4, .int r2), (5, .int r4), (6, .int r13), (7, .int r16)]) [1, 2, 3, 4, 5, 6, 7, 0] (oDec_at oX12_brokenBy 45 rfl) (by decide) rfl ?_
      refine r_iload C (j := 4) (oDec_at oX12_brokenBy 46 rfl) rfl ?_
      refine r_iload C (j := 6) (oDec_at oX12_brokenBy 47 rfl) rfl ?_
      refine r_icmp_ne C 96 (oDec_at oX12_brokenBy 48 rfl) (by decide) (fun cd17 => ?_) (fun cd17 => ?_)
      · skip
        refine r_aload_n C (j := 0) (oDec_at oX12_brokenBy 54 rfl) rfl rfl ?_
        refine r_aload_n C (j := 0) (oDec_at oX12_brokenBy 55 rfl) rfl rfl ?_
        refine r_iload_n C (j := 1) (oDec_at oX12_brokenBy 56 rfl) rfl rfl ?_
        refine r_iload C (j := 6) (oDec_at oX12_brokenBy 57 rfl) rfl ?_
        refine r_callVi C oCl12 rfl miX12_stepBy mlX12_408 (ct_X12_stepBy l E ((pI (pI s 71 60 r6) 71 61 r8)) a1 r13 (by omega) (by omega)) (by decide) rfl rfl rfl (Nat.le_of_ble_eq_true rfl) (oDec_at oX12_brokenBy 58 rfl) (fun r19 u18 pu18 fu18 => ?_)
        try dsimp only at pu18
        have hxu18 := oFr_nil fu18; subst hxu18
        have rr19 := n_rng r19
        refine r_puti (k := 62) (lo := (-2147483648)) (hi := 2147483647) C oCl12 rfl (by decide) flX12_443 rfl rfl rfl rfl rfl rfl rfl rfl (n_rng _) (oDec_at oX12_brokenBy 59 rfl) ?_
        refine r_pc C 107 rfl ?_
        refine r_aload_n C (j := 0) (oDec_at oX12_brokenBy 60 rfl) rfl rfl ?_
        refine r_aload_n C (j := 0) (oDec_at oX12_brokenBy 61 rfl) rfl rfl ?_
        refine r_iload_n C (j := 2) (oDec_at oX12_brokenBy 62 rfl) rfl rfl ?_
        refine r_iload C (j := 7) (oDec_at oX12_brokenBy 63 rfl) rfl ?_
        refine r_callVi C oCl12 rfl miX12_stepBy mlX12_408 (ct_X12_stepBy l E ((pI (pI (pI s 71 60 r6) 71 61 r8) 71 62 r19)) a2 r16 (by omega) (by omega)) (by decide) rfl rfl rfl (Nat.le_of_ble_eq_true rfl) (oDec_at oX12_brokenBy 64 rfl) (fun r21 u20 pu20 fu20 => ?_)
        try dsimp only at pu20
        have hxu20 := oFr_nil fu20; subst hxu20
        have rr21 := n_rng r21
        refine r_puti (k := 63) (lo := (-2147483648)) (hi := 2147483647) C oCl12 rfl (by decide) flX12_446 rfl rfl rfl rfl rfl rfl rfl rfl (n_rng _) (oDec_at oX12_brokenBy 65 rfl) ?_
        refine r_pc C 118 rfl ?_
        refine r_aload_n C (j := 0) (oDec_at oX12_brokenBy 66 rfl) rfl rfl ?_
        refine r_iload_n C (j := 3) (oDec_at oX12_brokenBy 67 rfl) rfl rfl ?_
        refine r_aload_n C (j := 0) (oDec_at oX12_brokenBy 68 rfl) rfl rfl ?_
        refine r_iload_n C (j := 1) (oDec_at oX12_brokenBy 69 rfl) rfl rfl ?_
        refine r_iload_n C (j := 3) (oDec_at oX12_brokenBy 70 rfl) rfl rfl ?_
        refine r_iconst C (oDec_at oX12_brokenBy 71 rfl) (v := k1) (by rw [qk1]; rfl) ?_
        refine r_pc C 124 rfl ?_
        obtain ⟨v22, ev22⟩ : ∃ z : Int32, z = a3 + k1 := ⟨_, rfl⟩
        have hv22 : v22.toInt = a3.toInt + k1.toInt := n_add ev22 (by omega) (by omega)
        refine r_iadd C v22 (oDec_at oX12_brokenBy 72 rfl) ev22 ?_
        refine r_callVi C oCl12 rfl miX12_singsIn mlX12_431 (ct_X12_singsIn l E ((pI (pI (pI (pI s 71 60 r6) 71 61 r8) 71 62 r19) 71 63 r21)) a1 v22 (by omega) (by omega)) (by decide) rfl rfl rfl (Nat.le_of_ble_eq_true rfl) (oDec_at oX12_brokenBy 73 rfl) (fun r24 u23 pu23 fu23 => ?_)
        try dsimp only at pu23
        have hxu23 := oFr_nil fu23; subst hxu23
        have rr24 := n_rng r24
        refine r_ldcw C (v := km1000000000) (by rw [qkm1000000000]; exact kcX12_398) (oDec_at oX12_brokenBy 74 rfl) ?_
        refine r_icmp_eq C 148 (oDec_at oX12_brokenBy 75 rfl) (by decide) (fun cd25 => ?_) (fun cd25 => ?_)
        · skip
          refine r_iconst C (oDec_at oX12_brokenBy 84 rfl) (v := k1) (by rw [qk1]; rfl) ?_
          refine r_goto C (tgt := 153) (oDec_at oX12_brokenBy 85 rfl) (by decide) ?_
          refine r_callVv C oCl12 rfl miX12_asksAll mlX12_453 (ct_X12_asksAll l E ((pI (pI (pI (pI s 71 60 r6) 71 61 r8) 71 62 r19) 71 63 r21)) a3 k1 (by omega)) (by decide) rfl rfl rfl (Nat.le_of_ble_eq_true rfl) (oDec_at oX12_brokenBy 87 rfl) (fun u26 pu26 fu26 => ?_)
          try dsimp only at pu26
          refine r_aload_n C (j := 0) (oDec_at oX12_brokenBy 88 rfl) rfl rfl ?_
          refine r_callVi C oCl12 rfl miX12_firstRule mlX12_457 (ct_X12_firstRule l E (u26)  (oBI_fr fu26 rfl (oBI_fr (oFr_oneI (q := 12) (m := 63) rfl (by rfl)) rfl (oBI_fr (oFr_oneI (q := 12) (m := 62) rfl (by rfl)) rfl (oBI_fr (oFr_oneI (q := 12) (m := 61) rfl (by rfl)) rfl (oBI_fr (oFr_oneI (q := 12) (m := 60) rfl (by rfl)) rfl hp3)))))) (by decide) rfl rfl rfl (Nat.le_of_ble_eq_true rfl) (oDec_at oX12_brokenBy 89 rfl) (fun r29 u28 pu28 fu28 => ?_)
          try dsimp only at pu28
          have rr29 := n_rng r29
          exact r_iret C (oDec_at oX12_brokenBy 90 rfl) ⟨_, rfl, by omega⟩
        · skip
          refine r_aload_n C (j := 0) (oDec_at oX12_brokenBy 76 rfl) rfl rfl ?_
          refine r_iload_n C (j := 2) (oDec_at oX12_brokenBy 77 rfl) rfl rfl ?_
          refine r_iload_n C (j := 3) (oDec_at oX12_brokenBy 78 rfl) rfl rfl ?_
          refine r_iconst C (oDec_at oX12_brokenBy 79 rfl) (v := k1) (by rw [qk1]; rfl) ?_
          obtain ⟨v30, ev30⟩ : ∃ z : Int32, z = a3 + k1 := ⟨_, rfl⟩
          have hv30 : v30.toInt = a3.toInt + k1.toInt := n_add ev30 (by omega) (by omega)
          refine r_iadd C v30 (oDec_at oX12_brokenBy 80 rfl) ev30 ?_
          refine r_callVi C oCl12 rfl miX12_singsIn mlX12_431 (ct_X12_singsIn l E ((pI (pI (pI (pI s 71 60 r6) 71 61 r8) 71 62 r19) 71 63 r21)) a2 v30 (by omega) (by omega)) (by decide) rfl rfl rfl (Nat.le_of_ble_eq_true rfl) (oDec_at oX12_brokenBy 81 rfl) (fun r32 u31 pu31 fu31 => ?_)
          try dsimp only at pu31
          have hxu31 := oFr_nil fu31; subst hxu31
          have rr32 := n_rng r32
          refine r_pc C 142 rfl ?_
          refine r_ldcw C (v := km1000000000) (by rw [qkm1000000000]; exact kcX12_398) (oDec_at oX12_brokenBy 82 rfl) ?_
          refine r_icmp_ne C 152 (oDec_at oX12_brokenBy 83 rfl) (by decide) (fun cd33 => ?_) (fun cd33 => ?_)
          · skip
            refine r_iconst C (oDec_at oX12_brokenBy 86 rfl) (v := k0) (by rw [qk0]; rfl) ?_
            refine r_callVv C oCl12 rfl miX12_asksAll mlX12_453 (ct_X12_asksAll l E ((pI (pI (pI (pI s 71 60 r6) 71 61 r8) 71 62 r19) 71 63 r21)) a3 k0 (by omega)) (by decide) rfl rfl rfl (Nat.le_of_ble_eq_true rfl) (oDec_at oX12_brokenBy 87 rfl) (fun u34 pu34 fu34 => ?_)
            try dsimp only at pu34
            refine r_aload_n C (j := 0) (oDec_at oX12_brokenBy 88 rfl) rfl rfl ?_
            refine r_callVi C oCl12 rfl miX12_firstRule mlX12_457 (ct_X12_firstRule l E (u34)  (oBI_fr fu34 rfl (oBI_fr (oFr_oneI (q := 12) (m := 63) rfl (by rfl)) rfl (oBI_fr (oFr_oneI (q := 12) (m := 62) rfl (by rfl)) rfl (oBI_fr (oFr_oneI (q := 12) (m := 61) rfl (by rfl)) rfl (oBI_fr (oFr_oneI (q := 12) (m := 60) rfl (by rfl)) rfl hp3)))))) (by decide) rfl rfl rfl (Nat.le_of_ble_eq_true rfl) (oDec_at oX12_brokenBy 89 rfl) (fun r37 u36 pu36 fu36 => ?_)
            try dsimp only at pu36
            have rr37 := n_rng r37
            exact r_iret C (oDec_at oX12_brokenBy 90 rfl) ⟨_, rfl, by omega⟩
          · skip
            refine r_iconst C (oDec_at oX12_brokenBy 84 rfl) (v := k1) (by rw [qk1]; rfl) ?_
            refine r_goto C (tgt := 153) (oDec_at oX12_brokenBy 85 rfl) (by decide) ?_
            refine r_callVv C oCl12 rfl miX12_asksAll mlX12_453 (ct_X12_asksAll l E ((pI (pI (pI (pI s 71 60 r6) 71 61 r8) 71 62 r19) 71 63 r21)) a3 k1 (by omega)) (by decide) rfl rfl rfl (Nat.le_of_ble_eq_true rfl) (oDec_at oX12_brokenBy 87 rfl) (fun u38 pu38 fu38 => ?_)
            try dsimp only at pu38
            refine r_aload_n C (j := 0) (oDec_at oX12_brokenBy 88 rfl) rfl rfl ?_
            refine r_callVi C oCl12 rfl miX12_firstRule mlX12_457 (ct_X12_firstRule l E (u38)  (oBI_fr fu38 rfl (oBI_fr (oFr_oneI (q := 12) (m := 63) rfl (by rfl)) rfl (oBI_fr (oFr_oneI (q := 12) (m := 62) rfl (by rfl)) rfl (oBI_fr (oFr_oneI (q := 12) (m := 61) rfl (by rfl)) rfl (oBI_fr (oFr_oneI (q := 12) (m := 60) rfl (by rfl)) rfl hp3)))))) (by decide) rfl rfl rfl (Nat.le_of_ble_eq_true rfl) (oDec_at oX12_brokenBy 89 rfl) (fun r41 u40 pu40 fu40 => ?_)
            try dsimp only at pu40
            have rr41 := n_rng r41
            exact r_iret C (oDec_at oX12_brokenBy 90 rfl) ⟨_, rfl, by omega⟩
      · skip
        refine r_iload C (j := 5) (oDec_at oX12_brokenBy 49 rfl) rfl ?_
        refine r_iload C (j := 7) (oDec_at oX12_brokenBy 50 rfl) rfl ?_
        refine r_icmp_ne C 96 (oDec_at oX12_brokenBy 51 rfl) (by decide) (fun cd42 => ?_) (fun cd42 => ?_)
        · skip
          refine r_aload_n C (j := 0) (oDec_at oX12_brokenBy 54 rfl) rfl rfl ?_
          refine r_aload_n C (j := 0) (oDec_at oX12_brokenBy 55 rfl) rfl rfl ?_
          refine r_iload_n C (j := 1) (oDec_at oX12_brokenBy 56 rfl) rfl rfl ?_
          refine r_iload C (j := 6) (oDec_at oX12_brokenBy 57 rfl) rfl ?_
          refine r_callVi C oCl12 rfl miX12_stepBy mlX12_408 (ct_X12_stepBy l E ((pI (pI s 71 60 r6) 71 61 r8)) a1 r13 (by omega) (by omega)) (by decide) rfl rfl rfl (Nat.le_of_ble_eq_true rfl) (oDec_at oX12_brokenBy 58 rfl) (fun r44 u43 pu43 fu43 => ?_)
          try dsimp only at pu43
          have hxu43 := oFr_nil fu43; subst hxu43
          have rr44 := n_rng r44
          refine r_puti (k := 62) (lo := (-2147483648)) (hi := 2147483647) C oCl12 rfl (by decide) flX12_443 rfl rfl rfl rfl rfl rfl rfl rfl (n_rng _) (oDec_at oX12_brokenBy 59 rfl) ?_
          refine r_pc C 107 rfl ?_
          refine r_aload_n C (j := 0) (oDec_at oX12_brokenBy 60 rfl) rfl rfl ?_
          refine r_aload_n C (j := 0) (oDec_at oX12_brokenBy 61 rfl) rfl rfl ?_
          refine r_iload_n C (j := 2) (oDec_at oX12_brokenBy 62 rfl) rfl rfl ?_
          refine r_iload C (j := 7) (oDec_at oX12_brokenBy 63 rfl) rfl ?_
          refine r_callVi C oCl12 rfl miX12_stepBy mlX12_408 (ct_X12_stepBy l E ((pI (pI (pI s 71 60 r6) 71 61 r8) 71 62 r44)) a2 r16 (by omega) (by omega)) (by decide) rfl rfl rfl (Nat.le_of_ble_eq_true rfl) (oDec_at oX12_brokenBy 64 rfl) (fun r46 u45 pu45 fu45 => ?_)
          try dsimp only at pu45
          have hxu45 := oFr_nil fu45; subst hxu45
          have rr46 := n_rng r46
          refine r_puti (k := 63) (lo := (-2147483648)) (hi := 2147483647) C oCl12 rfl (by decide) flX12_446 rfl rfl rfl rfl rfl rfl rfl rfl (n_rng _) (oDec_at oX12_brokenBy 65 rfl) ?_
          refine r_pc C 118 rfl ?_
          refine r_aload_n C (j := 0) (oDec_at oX12_brokenBy 66 rfl) rfl rfl ?_
          refine r_iload_n C (j := 3) (oDec_at oX12_brokenBy 67 rfl) rfl rfl ?_
          refine r_aload_n C (j := 0) (oDec_at oX12_brokenBy 68 rfl) rfl rfl ?_
          refine r_iload_n C (j := 1) (oDec_at oX12_brokenBy 69 rfl) rfl rfl ?_
          refine r_iload_n C (j := 3) (oDec_at oX12_brokenBy 70 rfl) rfl rfl ?_
          refine r_iconst C (oDec_at oX12_brokenBy 71 rfl) (v := k1) (by rw [qk1]; rfl) ?_
          refine r_pc C 124 rfl ?_
          obtain ⟨v47, ev47⟩ : ∃ z : Int32, z = a3 + k1 := ⟨_, rfl⟩
          have hv47 : v47.toInt = a3.toInt + k1.toInt := n_add ev47 (by omega) (by omega)
          refine r_iadd C v47 (oDec_at oX12_brokenBy 72 rfl) ev47 ?_
          refine r_callVi C oCl12 rfl miX12_singsIn mlX12_431 (ct_X12_singsIn l E ((pI (pI (pI (pI s 71 60 r6) 71 61 r8) 71 62 r44) 71 63 r46)) a1 v47 (by omega) (by omega)) (by decide) rfl rfl rfl (Nat.le_of_ble_eq_true rfl) (oDec_at oX12_brokenBy 73 rfl) (fun r49 u48 pu48 fu48 => ?_)
          try dsimp only at pu48
          have hxu48 := oFr_nil fu48; subst hxu48
          have rr49 := n_rng r49
          refine r_ldcw C (v := km1000000000) (by rw [qkm1000000000]; exact kcX12_398) (oDec_at oX12_brokenBy 74 rfl) ?_
          refine r_icmp_eq C 148 (oDec_at oX12_brokenBy 75 rfl) (by decide) (fun cd50 => ?_) (fun cd50 => ?_)
          · skip
            refine r_iconst C (oDec_at oX12_brokenBy 84 rfl) (v := k1) (by rw [qk1]; rfl) ?_
            refine r_goto C (tgt := 153) (oDec_at oX12_brokenBy 85 rfl) (by decide) ?_
            refine r_callVv C oCl12 rfl miX12_asksAll mlX12_453 (ct_X12_asksAll l E ((pI (pI (pI (pI s 71 60 r6) 71 61 r8) 71 62 r44) 71 63 r46)) a3 k1 (by omega)) (by decide) rfl rfl rfl (Nat.le_of_ble_eq_true rfl) (oDec_at oX12_brokenBy 87 rfl) (fun u51 pu51 fu51 => ?_)
            try dsimp only at pu51
            refine r_aload_n C (j := 0) (oDec_at oX12_brokenBy 88 rfl) rfl rfl ?_
            refine r_callVi C oCl12 rfl miX12_firstRule mlX12_457 (ct_X12_firstRule l E (u51)  (oBI_fr fu51 rfl (oBI_fr (oFr_oneI (q := 12) (m := 63) rfl (by rfl)) rfl (oBI_fr (oFr_oneI (q := 12) (m := 62) rfl (by rfl)) rfl (oBI_fr (oFr_oneI (q := 12) (m := 61) rfl (by rfl)) rfl (oBI_fr (oFr_oneI (q := 12) (m := 60) rfl (by rfl)) rfl hp3)))))) (by decide) rfl rfl rfl (Nat.le_of_ble_eq_true rfl) (oDec_at oX12_brokenBy 89 rfl) (fun r54 u53 pu53 fu53 => ?_)
            try dsimp only at pu53
            have rr54 := n_rng r54
            exact r_iret C (oDec_at oX12_brokenBy 90 rfl) ⟨_, rfl, by omega⟩
          · skip
            refine r_aload_n C (j := 0) (oDec_at oX12_brokenBy 76 rfl) rfl rfl ?_
            refine r_iload_n C (j := 2) (oDec_at oX12_brokenBy 77 rfl) rfl rfl ?_
            refine r_iload_n C (j := 3) (oDec_at oX12_brokenBy 78 rfl) rfl rfl ?_
            refine r_iconst C (oDec_at oX12_brokenBy 79 rfl) (v := k1) (by rw [qk1]; rfl) ?_
            obtain ⟨v55, ev55⟩ : ∃ z : Int32, z = a3 + k1 := ⟨_, rfl⟩
            have hv55 : v55.toInt = a3.toInt + k1.toInt := n_add ev55 (by omega) (by omega)
            refine r_iadd C v55 (oDec_at oX12_brokenBy 80 rfl) ev55 ?_
            refine r_callVi C oCl12 rfl miX12_singsIn mlX12_431 (ct_X12_singsIn l E ((pI (pI (pI (pI s 71 60 r6) 71 61 r8) 71 62 r44) 71 63 r46)) a2 v55 (by omega) (by omega)) (by decide) rfl rfl rfl (Nat.le_of_ble_eq_true rfl) (oDec_at oX12_brokenBy 81 rfl) (fun r57 u56 pu56 fu56 => ?_)
            try dsimp only at pu56
            have hxu56 := oFr_nil fu56; subst hxu56
            have rr57 := n_rng r57
            refine r_pc C 142 rfl ?_
            refine r_ldcw C (v := km1000000000) (by rw [qkm1000000000]; exact kcX12_398) (oDec_at oX12_brokenBy 82 rfl) ?_
            refine r_icmp_ne C 152 (oDec_at oX12_brokenBy 83 rfl) (by decide) (fun cd58 => ?_) (fun cd58 => ?_)
            · skip
              refine r_iconst C (oDec_at oX12_brokenBy 86 rfl) (v := k0) (by rw [qk0]; rfl) ?_
              refine r_callVv C oCl12 rfl miX12_asksAll mlX12_453 (ct_X12_asksAll l E ((pI (pI (pI (pI s 71 60 r6) 71 61 r8) 71 62 r44) 71 63 r46)) a3 k0 (by omega)) (by decide) rfl rfl rfl (Nat.le_of_ble_eq_true rfl) (oDec_at oX12_brokenBy 87 rfl) (fun u59 pu59 fu59 => ?_)
              try dsimp only at pu59
              refine r_aload_n C (j := 0) (oDec_at oX12_brokenBy 88 rfl) rfl rfl ?_
              refine r_callVi C oCl12 rfl miX12_firstRule mlX12_457 (ct_X12_firstRule l E (u59)  (oBI_fr fu59 rfl (oBI_fr (oFr_oneI (q := 12) (m := 63) rfl (by rfl)) rfl (oBI_fr (oFr_oneI (q := 12) (m := 62) rfl (by rfl)) rfl (oBI_fr (oFr_oneI (q := 12) (m := 61) rfl (by rfl)) rfl (oBI_fr (oFr_oneI (q := 12) (m := 60) rfl (by rfl)) rfl hp3)))))) (by decide) rfl rfl rfl (Nat.le_of_ble_eq_true rfl) (oDec_at oX12_brokenBy 89 rfl) (fun r62 u61 pu61 fu61 => ?_)
              try dsimp only at pu61
              have rr62 := n_rng r62
              exact r_iret C (oDec_at oX12_brokenBy 90 rfl) ⟨_, rfl, by omega⟩
            · skip
              refine r_iconst C (oDec_at oX12_brokenBy 84 rfl) (v := k1) (by rw [qk1]; rfl) ?_
              refine r_goto C (tgt := 153) (oDec_at oX12_brokenBy 85 rfl) (by decide) ?_
              refine r_callVv C oCl12 rfl miX12_asksAll mlX12_453 (ct_X12_asksAll l E ((pI (pI (pI (pI s 71 60 r6) 71 61 r8) 71 62 r44) 71 63 r46)) a3 k1 (by omega)) (by decide) rfl rfl rfl (Nat.le_of_ble_eq_true rfl) (oDec_at oX12_brokenBy 87 rfl) (fun u63 pu63 fu63 => ?_)
              try dsimp only at pu63
              refine r_aload_n C (j := 0) (oDec_at oX12_brokenBy 88 rfl) rfl rfl ?_
              refine r_callVi C oCl12 rfl miX12_firstRule mlX12_457 (ct_X12_firstRule l E (u63)  (oBI_fr fu63 rfl (oBI_fr (oFr_oneI (q := 12) (m := 63) rfl (by rfl)) rfl (oBI_fr (oFr_oneI (q := 12) (m := 62) rfl (by rfl)) rfl (oBI_fr (oFr_oneI (q := 12) (m := 61) rfl (by rfl)) rfl (oBI_fr (oFr_oneI (q := 12) (m := 60) rfl (by rfl)) rfl hp3)))))) (by decide) rfl rfl rfl (Nat.le_of_ble_eq_true rfl) (oDec_at oX12_brokenBy 89 rfl) (fun r66 u65 pu65 fu65 => ?_)
              try dsimp only at pu65
              have rr66 := n_rng r66
              exact r_iret C (oDec_at oX12_brokenBy 90 rfl) ⟨_, rfl, by omega⟩
        · skip
          refine r_iconst C (oDec_at oX12_brokenBy 52 rfl) (v := km1) (by rw [qkm1]; rfl) ?_
          exact r_iret C (oDec_at oX12_brokenBy 53 rfl) ⟨_, rfl, by omega⟩
    · skip
      refine r_iconst C (oDec_at oX12_brokenBy 30 rfl) (v := km1) (by rw [qkm1]; rfl) ?_
      exact r_iret C (oDec_at oX12_brokenBy 31 rfl) ⟨_, rfl, by omega⟩
set_option maxHeartbeats 4000000 in
set_option maxRecDepth 100000 in
theorem ct_X12_breachOf (l : Launch) (E : oE) (s : oS) (a1 : Int32) (a2 : Int32)  (hp0 : 0 ≤ a1.toInt ∧ a1.toInt ≤ 4499) (hp1 : 0 ≤ a2.toInt ∧ a2.toInt ≤ 4499) (hp2 : oBI s) : oMet l 6 yX12_breachOf cX12_breachOf 7 (some .int) [(12, 58), (12, 60), (12, 61), (12, 62), (12, 63), (12, 65), (84, 9999), (85, 9999)] E s [.ref (oad E 71), .int a1, .int a2] (oPi (fun r u => (-1 ≤ r.toInt ∧ r.toInt ≤ 216))) := by
  refine oMet.of (lv := [(0, .ref (oad E 71)), (1, .int a1), (2, .int a2)]) (by decide +kernel) (Nat.le_of_ble_eq_true rfl) rfl (fun J C hT => ?_)
  have C : oC l 6 cX12_breachOf RX12 7 (some .int) [(12, 58), (12, 60), (12, 61), (12, 62), (12, 63), (12, 65), (84, 9999), (85, 9999)] E s (oPi (fun r u => (-1 ≤ r.toInt ∧ r.toInt ≤ 216))) J := C
  obtain ⟨km1, qkm1⟩ : ∃ z : Int32, z = (-1) := ⟨_, rfl⟩
  have ekm1 : km1.toInt = (-1) := by rw [qkm1]; rfl
  have rg1 := n_rng a1
  have rg2 := n_rng a2
  have key : ∀ n : Nat, (∀ (t : oS) (x3 : Int32) (x4 : Int32) (x5 : Int32) (x6 : Int32), (oBI t) → (0 ≤ x3.toInt ∧ x3.toInt ≤ 4499) → (0 ≤ x4.toInt ∧ x4.toInt ≤ 4499) → (x5.toInt ≤ 216) → (0 ≤ x6.toInt ∧ x6.toInt ≤ 216) → 217 - x6.toInt ≤ (n : Int) → J t 87 [(0, .ref (oad E 71)), (3, .int x3), (4, .int x4), (5, .int x5), (6, .int x6)] []) := by
    intro n
    induction n using Nat.strongRecOn with
    | _ n ih =>
      skip
      · intro t x3 x4 x5 x6  iv0 iv1 iv2 iv3 iv4 hmu
        have rx3 := n_rng x3
        have rx4 := n_rng x4
        have rx5 := n_rng x5
        have rx6 := n_rng x6
        refine r_iload C (j := 4) (oDec_at oX12_breachOf 44 rfl) rfl ?_
        refine r_iload C (j := 3) (oDec_at oX12_breachOf 45 rfl) rfl ?_
        refine r_icmp_ge C 124 (oDec_at oX12_breachOf 46 rfl) (by decide) (fun cd1 => ?_) (fun cd1 => ?_)
        · skip
          refine r_iconst C (oDec_at oX12_breachOf 62 rfl) (v := km1) (by rw [qkm1]; rfl) ?_
          exact r_iret C (oDec_at oX12_breachOf 63 rfl) ⟨_, rfl, by omega⟩
        · skip
          refine r_aload_n C (j := 0) (oDec_at oX12_breachOf 47 rfl) rfl rfl ?_
          refine r_aload_n C (j := 0) (oDec_at oX12_breachOf 48 rfl) rfl rfl ?_
          refine r_iload_n C (j := 1) (oDec_at oX12_breachOf 49 rfl) rfl rfl ?_
          refine r_iload C (j := 2) (oDec_at oX12_breachOf 50 rfl) rfl ?_
          refine r_iload C (j := 4) (oDec_at oX12_breachOf 51 rfl) rfl ?_
          refine r_callVi C oCl12 rfl miX12_brokenBy mlX12_466 (ct_X12_brokenBy l E (t) x3 x4 x6 (by omega) (by omega) (by omega) iv0) (by decide) rfl rfl rfl (Nat.le_of_ble_eq_true rfl) (oDec_at oX12_breachOf 52 rfl) (fun r3 u2 pu2 fu2 => ?_)
          try dsimp only at pu2
          have rr3 := n_rng r3
          refine r_pc C 104 rfl ?_
          refine r_puti (k := 65) (lo := (-2147483648)) (hi := 2147483647) C oCl12 rfl (by decide) flX12_463 rfl rfl rfl rfl rfl rfl rfl rfl (n_rng _) (oDec_at oX12_breachOf 53 rfl) ?_
          refine r_aload_n C (j := 0) (oDec_at oX12_breachOf 54 rfl) rfl rfl ?_
          refine r_geti (k := 65) (lo := (-2147483648)) (hi := 2147483647) C r3 oCl12 rfl (by decide) flX12_463 rfl rfl ((pI_self _ _ _ _)) rfl rfl (oDec_at oX12_breachOf 55 rfl) (fun _ _ => ?_)
          refine r_iconst C (oDec_at oX12_breachOf 56 rfl) (v := km1) (by rw [qkm1]; rfl) ?_
          refine r_icmp_eq C 118 (oDec_at oX12_breachOf 57 rfl) (by decide) (fun cd4 => ?_) (fun cd4 => ?_)
          · skip
            obtain ⟨v5, ev5⟩ : ∃ z : Int32, x6 + Int32.ofInt 1 = z := ⟨_, rfl⟩
            have hv5 : v5.toInt = x6.toInt + 1 := n_inc ev5 (by decide) (by omega) (by omega)
            refine r_iinc C (j := 4) (lv' := [(0, .ref (oad E 71)), (3, .int x3), (4, .int x4), (5, .int x5), (6, .int v5)]) v5 [1, 2, 3, 4, 0] (oDec_at oX12_breachOf 60 rfl) rfl ev5 (by decide) rfl ?_
            refine r_goto C (tgt := 87) (oDec_at oX12_breachOf 61 rfl) (by decide) ?_
            exact (ih (n - 1) (by omega)) ((pI u2 71 65 r3)) x3 x4 x5 v5  (oBI_fr (oFr_oneI (q := 12) (m := 65) rfl (by rfl)) rfl (oBI_fr fu2 rfl iv0)) (by omega) (by omega) (by omega) (by omega) (by omega)
          · skip
            refine r_iload C (j := 4) (oDec_at oX12_breachOf 58 rfl) rfl ?_
            exact r_iret C (oDec_at oX12_breachOf 59 rfl) ⟨_, rfl, by omega⟩
  refine r_iload_n C (j := 1) (oDec_at oX12_breachOf 0 rfl) rfl rfl ?_
  refine r_iload_n C (j := 2) (oDec_at oX12_breachOf 1 rfl) rfl rfl ?_
  refine r_callSi C miX12_isFirst mlX12_460 (ct_X12_isFirst l E (s) a1 a2 ) (by decide) rfl rfl rfl (Nat.le_of_ble_eq_true rfl) (oDec_at oX12_breachOf 2 rfl) (fun r7 u6 pu6 fu6 => ?_)
  try dsimp only at pu6
  have hxu6 := oFr_nil fu6; subst hxu6
  have rr7 := n_rng r7
  refine r_if_eq C 12 (oDec_at oX12_breachOf 3 rfl) (by decide) (fun cd8 => ?_) (fun cd8 => ?_)
  · skip
    refine r_iload_n C (j := 2) (oDec_at oX12_breachOf 6 rfl) rfl rfl ?_
    refine r_istore_n C (lv' := [(0, .ref (oad E 71)), (1, .int a1), (2, .int a2), (3, .int a2)]) [1, 2, 3, 0] (oDec_at oX12_breachOf 7 rfl) rfl (by decide) rfl ?_
    refine r_iload_n C (j := 3) (oDec_at oX12_breachOf 8 rfl) rfl rfl ?_
    refine r_iload_n C (j := 1) (oDec_at oX12_breachOf 9 rfl) rfl rfl ?_
    refine r_icmp_ne C 23 (oDec_at oX12_breachOf 10 rfl) (by decide) (fun cd9 => ?_) (fun cd9 => ?_)
    · skip
      refine r_iload_n C (j := 1) (oDec_at oX12_breachOf 13 rfl) rfl rfl ?_
      refine r_istore C (lv' := [(0, .ref (oad E 71)), (1, .int a1), (2, .int a2), (3, .int a2), (4, .int a1)]) [1, 2, 3, 4, 0] (oDec_at oX12_breachOf 14 rfl) (by decide) rfl ?_
      refine r_aload_n C (j := 0) (oDec_at oX12_breachOf 15 rfl) rfl rfl ?_
      refine r_iload_n C (j := 3) (oDec_at oX12_breachOf 16 rfl) rfl rfl ?_
      refine r_callVi C oCl12 rfl miX12_overAt mlX12_392 (ct_X12_overAt l E (s) a2 (by omega)) (by decide) rfl rfl rfl (Nat.le_of_ble_eq_true rfl) (oDec_at oX12_breachOf 17 rfl) (fun r11 u10 pu10 fu10 => ?_)
      try dsimp only at pu10
      obtain ⟨pu10_0, pu10_1, pu10_2⟩ := pu10
      have hxu10 := oFr_nil fu10; subst hxu10
      have rr11 := n_rng r11
      refine r_aload_n C (j := 0) (oDec_at oX12_breachOf 18 rfl) rfl rfl ?_
      refine r_pc C 32 rfl ?_
      refine r_iload C (j := 4) (oDec_at oX12_breachOf 19 rfl) rfl ?_
      refine r_callVi C oCl12 rfl miX12_overAt mlX12_392 (ct_X12_overAt l E (s) a1 (by omega)) (by decide) rfl rfl rfl (Nat.le_of_ble_eq_true rfl) (oDec_at oX12_breachOf 20 rfl) (fun r13 u12 pu12 fu12 => ?_)
      try dsimp only at pu12
      obtain ⟨pu12_0, pu12_1, pu12_2⟩ := pu12
      have hxu12 := oFr_nil fu12; subst hxu12
      have rr13 := n_rng r13
      refine r_icmp_ge C 48 (oDec_at oX12_breachOf 21 rfl) (by decide) (fun cd14 => ?_) (fun cd14 => ?_)
      · skip
        refine r_aload_n C (j := 0) (oDec_at oX12_breachOf 26 rfl) rfl rfl ?_
        refine r_iload C (j := 4) (oDec_at oX12_breachOf 27 rfl) rfl ?_
        refine r_callVi C oCl12 rfl miX12_overAt mlX12_392 (ct_X12_overAt l E (s) a1 (by omega)) (by decide) rfl rfl rfl (Nat.le_of_ble_eq_true rfl) (oDec_at oX12_breachOf 28 rfl) (fun r16 u15 pu15 fu15 => ?_)
        try dsimp only at pu15
        obtain ⟨pu15_0, pu15_1, pu15_2⟩ := pu15
        have hxu15 := oFr_nil fu15; subst hxu15
        have rr16 := n_rng r16
        refine r_istore C (lv' := [(0, .ref (oad E 71)), (1, .int a1), (2, .int a2), (3, .int a2), (4, .int a1), (5, .int r16)]) [1, 2, 3, 4, 5, 0] (oDec_at oX12_breachOf 29 rfl) (by decide) rfl ?_
        refine r_aload_n C (j := 0) (oDec_at oX12_breachOf 30 rfl) rfl rfl ?_
        refine r_iconst C (oDec_at oX12_breachOf 31 rfl) (v := km1) (by rw [qkm1]; rfl) ?_
        refine r_pc C 58 rfl ?_
        refine r_puti (k := 65) (lo := (-2147483648)) (hi := 2147483647) C oCl12 rfl (by decide) flX12_463 rfl rfl rfl rfl rfl rfl rfl rfl (n_rng _) (oDec_at oX12_breachOf 32 rfl) ?_
        refine r_iload_n C (j := 3) (oDec_at oX12_breachOf 33 rfl) rfl rfl ?_
        refine r_callSi C miX12_delayOf mlX12_389 (ct_X12_delayOf l E ((pI s 71 65 km1)) a2 (by omega)) (by decide) rfl rfl rfl (Nat.le_of_ble_eq_true rfl) (oDec_at oX12_breachOf 34 rfl) (fun r18 u17 pu17 fu17 => ?_)
        try dsimp only at pu17
        have hxu17 := oFr_nil fu17; subst hxu17
        have rr18 := n_rng r18
        refine r_iload C (j := 4) (oDec_at oX12_breachOf 35 rfl) rfl ?_
        refine r_callSi C miX12_delayOf mlX12_389 (ct_X12_delayOf l E ((pI s 71 65 km1)) a1 (by omega)) (by decide) rfl rfl rfl (Nat.le_of_ble_eq_true rfl) (oDec_at oX12_breachOf 36 rfl) (fun r20 u19 pu19 fu19 => ?_)
        try dsimp only at pu19
        have hxu19 := oFr_nil fu19; subst hxu19
        have rr20 := n_rng r20
        refine r_icmp_le C 80 (oDec_at oX12_breachOf 37 rfl) (by decide) (fun cd21 => ?_) (fun cd21 => ?_)
        · skip
          refine r_iload C (j := 4) (oDec_at oX12_breachOf 41 rfl) rfl ?_
          refine r_callSi C miX12_delayOf mlX12_389 (ct_X12_delayOf l E ((pI s 71 65 km1)) a1 (by omega)) (by decide) rfl rfl rfl (Nat.le_of_ble_eq_true rfl) (oDec_at oX12_breachOf 42 rfl) (fun r23 u22 pu22 fu22 => ?_)
          try dsimp only at pu22
          have hxu22 := oFr_nil fu22; subst hxu22
          have rr23 := n_rng r23
          refine r_istore C (lv' := [(0, .ref (oad E 71)), (1, .int a1), (2, .int a2), (3, .int a2), (4, .int a1), (5, .int r16), (6, .int r23)]) [1, 2, 3, 4, 5, 6, 0] (oDec_at oX12_breachOf 43 rfl) (by decide) rfl ?_
          refine r_pick C [0, 3, 4, 5, 6] rfl ?_
          exact (key (217 - r23.toInt).toNat) ((pI s 71 65 km1)) a2 a1 r16 r23  (oBI_fr (oFr_oneI (q := 12) (m := 65) rfl (by rfl)) rfl hp2) (by omega) (by omega) (by omega) (by omega) (by omega)
        · skip
          refine r_iload_n C (j := 3) (oDec_at oX12_breachOf 38 rfl) rfl rfl ?_
          refine r_callSi C miX12_delayOf mlX12_389 (ct_X12_delayOf l E ((pI s 71 65 km1)) a2 (by omega)) (by decide) rfl rfl rfl (Nat.le_of_ble_eq_true rfl) (oDec_at oX12_breachOf 39 rfl) (fun r25 u24 pu24 fu24 => ?_)
          try dsimp only at pu24
          have hxu24 := oFr_nil fu24; subst hxu24
          have rr25 := n_rng r25
          refine r_goto C (tgt := 85) (oDec_at oX12_breachOf 40 rfl) (by decide) ?_
          refine r_istore C (lv' := [(0, .ref (oad E 71)), (1, .int a1), (2, .int a2), (3, .int a2), (4, .int a1), (5, .int r16), (6, .int r25)]) [1, 2, 3, 4, 5, 6, 0] (oDec_at oX12_breachOf 43 rfl) (by decide) rfl ?_
          refine r_pick C [0, 3, 4, 5, 6] rfl ?_
          exact (key (217 - r25.toInt).toNat) ((pI s 71 65 km1)) a2 a1 r16 r25  (oBI_fr (oFr_oneI (q := 12) (m := 65) rfl (by rfl)) rfl hp2) (by omega) (by omega) (by omega) (by omega) (by omega)
      · skip
        refine r_aload_n C (j := 0) (oDec_at oX12_breachOf 22 rfl) rfl rfl ?_
        refine r_iload_n C (j := 3) (oDec_at oX12_breachOf 23 rfl) rfl rfl ?_
        refine r_callVi C oCl12 rfl miX12_overAt mlX12_392 (ct_X12_overAt l E (s) a2 (by omega)) (by decide) rfl rfl rfl (Nat.le_of_ble_eq_true rfl) (oDec_at oX12_breachOf 24 rfl) (fun r27 u26 pu26 fu26 => ?_)
        try dsimp only at pu26
        obtain ⟨pu26_0, pu26_1, pu26_2⟩ := pu26
        have hxu26 := oFr_nil fu26; subst hxu26
        have rr27 := n_rng r27
        refine r_goto C (tgt := 54) (oDec_at oX12_breachOf 25 rfl) (by decide) ?_
        refine r_istore C (lv' := [(0, .ref (oad E 71)), (1, .int a1), (2, .int a2), (3, .int a2), (4, .int a1), (5, .int r27)]) [1, 2, 3, 4, 5, 0] (oDec_at oX12_breachOf 29 rfl) (by decide) rfl ?_
        refine r_aload_n C (j := 0) (oDec_at oX12_breachOf 30 rfl) rfl rfl ?_
        refine r_iconst C (oDec_at oX12_breachOf 31 rfl) (v := km1) (by rw [qkm1]; rfl) ?_
        refine r_pc C 58 rfl ?_
        refine r_puti (k := 65) (lo := (-2147483648)) (hi := 2147483647) C oCl12 rfl (by decide) flX12_463 rfl rfl rfl rfl rfl rfl rfl rfl (n_rng _) (oDec_at oX12_breachOf 32 rfl) ?_
        refine r_iload_n C (j := 3) (oDec_at oX12_breachOf 33 rfl) rfl rfl ?_
        refine r_callSi C miX12_delayOf mlX12_389 (ct_X12_delayOf l E ((pI s 71 65 km1)) a2 (by omega)) (by decide) rfl rfl rfl (Nat.le_of_ble_eq_true rfl) (oDec_at oX12_breachOf 34 rfl) (fun r29 u28 pu28 fu28 => ?_)
        try dsimp only at pu28
        have hxu28 := oFr_nil fu28; subst hxu28
        have rr29 := n_rng r29
        refine r_iload C (j := 4) (oDec_at oX12_breachOf 35 rfl) rfl ?_
        refine r_callSi C miX12_delayOf mlX12_389 (ct_X12_delayOf l E ((pI s 71 65 km1)) a1 (by omega)) (by decide) rfl rfl rfl (Nat.le_of_ble_eq_true rfl) (oDec_at oX12_breachOf 36 rfl) (fun r31 u30 pu30 fu30 => ?_)
        try dsimp only at pu30
        have hxu30 := oFr_nil fu30; subst hxu30
        have rr31 := n_rng r31
        refine r_icmp_le C 80 (oDec_at oX12_breachOf 37 rfl) (by decide) (fun cd32 => ?_) (fun cd32 => ?_)
        · skip
          refine r_iload C (j := 4) (oDec_at oX12_breachOf 41 rfl) rfl ?_
          refine r_callSi C miX12_delayOf mlX12_389 (ct_X12_delayOf l E ((pI s 71 65 km1)) a1 (by omega)) (by decide) rfl rfl rfl (Nat.le_of_ble_eq_true rfl) (oDec_at oX12_breachOf 42 rfl) (fun r34 u33 pu33 fu33 => ?_)
          try dsimp only at pu33
          have hxu33 := oFr_nil fu33; subst hxu33
          have rr34 := n_rng r34
          refine r_istore C (lv' := [(0, .ref (oad E 71)), (1, .int a1), (2, .int a2), (3, .int a2), (4, .int a1), (5, .int r27), (6, .int r34)]) [1, 2, 3, 4, 5, 6, 0] (oDec_at oX12_breachOf 43 rfl) (by decide) rfl ?_
          refine r_pick C [0, 3, 4, 5, 6] rfl ?_
          exact (key (217 - r34.toInt).toNat) ((pI s 71 65 km1)) a2 a1 r27 r34  (oBI_fr (oFr_oneI (q := 12) (m := 65) rfl (by rfl)) rfl hp2) (by omega) (by omega) (by omega) (by omega) (by omega)
        · skip
          refine r_iload_n C (j := 3) (oDec_at oX12_breachOf 38 rfl) rfl rfl ?_
          refine r_callSi C miX12_delayOf mlX12_389 (ct_X12_delayOf l E ((pI s 71 65 km1)) a2 (by omega)) (by decide) rfl rfl rfl (Nat.le_of_ble_eq_true rfl) (oDec_at oX12_breachOf 39 rfl) (fun r36 u35 pu35 fu35 => ?_)
          try dsimp only at pu35
          have hxu35 := oFr_nil fu35; subst hxu35
          have rr36 := n_rng r36
          refine r_goto C (tgt := 85) (oDec_at oX12_breachOf 40 rfl) (by decide) ?_
          refine r_istore C (lv' := [(0, .ref (oad E 71)), (1, .int a1), (2, .int a2), (3, .int a2), (4, .int a1), (5, .int r27), (6, .int r36)]) [1, 2, 3, 4, 5, 6, 0] (oDec_at oX12_breachOf 43 rfl) (by decide) rfl ?_
          refine r_pick C [0, 3, 4, 5, 6] rfl ?_
          exact (key (217 - r36.toInt).toNat) ((pI s 71 65 km1)) a2 a1 r27 r36  (oBI_fr (oFr_oneI (q := 12) (m := 65) rfl (by rfl)) rfl hp2) (by omega) (by omega) (by omega) (by omega) (by omega)
    · skip
      refine r_iload_n C (j := 2) (oDec_at oX12_breachOf 11 rfl) rfl rfl ?_
      refine r_goto C (tgt := 24) (oDec_at oX12_breachOf 12 rfl) (by decide) ?_
      refine r_istore C (lv' := [(0, .ref (oad E 71)), (1, .int a1), (2, .int a2), (3, .int a2), (4, .int a2)]) [1, 2, 3, 4, 0] (oDec_at oX12_breachOf 14 rfl) (by decide) rfl ?_
      refine r_aload_n C (j := 0) (oDec_at oX12_breachOf 15 rfl) rfl rfl ?_
      refine r_iload_n C (j := 3) (oDec_at oX12_breachOf 16 rfl) rfl rfl ?_
      refine r_callVi C oCl12 rfl miX12_overAt mlX12_392 (ct_X12_overAt l E (s) a2 (by omega)) (by decide) rfl rfl rfl (Nat.le_of_ble_eq_true rfl) (oDec_at oX12_breachOf 17 rfl) (fun r38 u37 pu37 fu37 => ?_)
      try dsimp only at pu37
      obtain ⟨pu37_0, pu37_1, pu37_2⟩ := pu37
      have hxu37 := oFr_nil fu37; subst hxu37
      have rr38 := n_rng r38
      refine r_aload_n C (j := 0) (oDec_at oX12_breachOf 18 rfl) rfl rfl ?_
      refine r_pc C 32 rfl ?_
      refine r_iload C (j := 4) (oDec_at oX12_breachOf 19 rfl) rfl ?_
      refine r_callVi C oCl12 rfl miX12_overAt mlX12_392 (ct_X12_overAt l E (s) a2 (by omega)) (by decide) rfl rfl rfl (Nat.le_of_ble_eq_true rfl) (oDec_at oX12_breachOf 20 rfl) (fun r40 u39 pu39 fu39 => ?_)
      try dsimp only at pu39
      obtain ⟨pu39_0, pu39_1, pu39_2⟩ := pu39
      have hxu39 := oFr_nil fu39; subst hxu39
      have rr40 := n_rng r40
      refine r_icmp_ge C 48 (oDec_at oX12_breachOf 21 rfl) (by decide) (fun cd41 => ?_) (fun cd41 => ?_)
      · skip
        refine r_aload_n C (j := 0) (oDec_at oX12_breachOf 26 rfl) rfl rfl ?_
        refine r_iload C (j := 4) (oDec_at oX12_breachOf 27 rfl) rfl ?_
        refine r_callVi C oCl12 rfl miX12_overAt mlX12_392 (ct_X12_overAt l E (s) a2 (by omega)) (by decide) rfl rfl rfl (Nat.le_of_ble_eq_true rfl) (oDec_at oX12_breachOf 28 rfl) (fun r43 u42 pu42 fu42 => ?_)
        try dsimp only at pu42
        obtain ⟨pu42_0, pu42_1, pu42_2⟩ := pu42
        have hxu42 := oFr_nil fu42; subst hxu42
        have rr43 := n_rng r43
        refine r_istore C (lv' := [(0, .ref (oad E 71)), (1, .int a1), (2, .int a2), (3, .int a2), (4, .int a2), (5, .int r43)]) [1, 2, 3, 4, 5, 0] (oDec_at oX12_breachOf 29 rfl) (by decide) rfl ?_
        refine r_aload_n C (j := 0) (oDec_at oX12_breachOf 30 rfl) rfl rfl ?_
        refine r_iconst C (oDec_at oX12_breachOf 31 rfl) (v := km1) (by rw [qkm1]; rfl) ?_
        refine r_pc C 58 rfl ?_
        refine r_puti (k := 65) (lo := (-2147483648)) (hi := 2147483647) C oCl12 rfl (by decide) flX12_463 rfl rfl rfl rfl rfl rfl rfl rfl (n_rng _) (oDec_at oX12_breachOf 32 rfl) ?_
        refine r_iload_n C (j := 3) (oDec_at oX12_breachOf 33 rfl) rfl rfl ?_
        refine r_callSi C miX12_delayOf mlX12_389 (ct_X12_delayOf l E ((pI s 71 65 km1)) a2 (by omega)) (by decide) rfl rfl rfl (Nat.le_of_ble_eq_true rfl) (oDec_at oX12_breachOf 34 rfl) (fun r45 u44 pu44 fu44 => ?_)
        try dsimp only at pu44
        have hxu44 := oFr_nil fu44; subst hxu44
        have rr45 := n_rng r45
        refine r_iload C (j := 4) (oDec_at oX12_breachOf 35 rfl) rfl ?_
        refine r_callSi C miX12_delayOf mlX12_389 (ct_X12_delayOf l E ((pI s 71 65 km1)) a2 (by omega)) (by decide) rfl rfl rfl (Nat.le_of_ble_eq_true rfl) (oDec_at oX12_breachOf 36 rfl) (fun r47 u46 pu46 fu46 => ?_)
        try dsimp only at pu46
        have hxu46 := oFr_nil fu46; subst hxu46
        have rr47 := n_rng r47
        refine r_icmp_le C 80 (oDec_at oX12_breachOf 37 rfl) (by decide) (fun cd48 => ?_) (fun cd48 => ?_)
        · skip
          refine r_iload C (j := 4) (oDec_at oX12_breachOf 41 rfl) rfl ?_
          refine r_callSi C miX12_delayOf mlX12_389 (ct_X12_delayOf l E ((pI s 71 65 km1)) a2 (by omega)) (by decide) rfl rfl rfl (Nat.le_of_ble_eq_true rfl) (oDec_at oX12_breachOf 42 rfl) (fun r50 u49 pu49 fu49 => ?_)
          try dsimp only at pu49
          have hxu49 := oFr_nil fu49; subst hxu49
          have rr50 := n_rng r50
          refine r_istore C (lv' := [(0, .ref (oad E 71)), (1, .int a1), (2, .int a2), (3, .int a2), (4, .int a2), (5, .int r43), (6, .int r50)]) [1, 2, 3, 4, 5, 6, 0] (oDec_at oX12_breachOf 43 rfl) (by decide) rfl ?_
          refine r_pick C [0, 3, 4, 5, 6] rfl ?_
          exact (key (217 - r50.toInt).toNat) ((pI s 71 65 km1)) a2 a2 r43 r50  (oBI_fr (oFr_oneI (q := 12) (m := 65) rfl (by rfl)) rfl hp2) (by omega) (by omega) (by omega) (by omega) (by omega)
        · skip
          refine r_iload_n C (j := 3) (oDec_at oX12_breachOf 38 rfl) rfl rfl ?_
          refine r_callSi C miX12_delayOf mlX12_389 (ct_X12_delayOf l E ((pI s 71 65 km1)) a2 (by omega)) (by decide) rfl rfl rfl (Nat.le_of_ble_eq_true rfl) (oDec_at oX12_breachOf 39 rfl) (fun r52 u51 pu51 fu51 => ?_)
          try dsimp only at pu51
          have hxu51 := oFr_nil fu51; subst hxu51
          have rr52 := n_rng r52
          refine r_goto C (tgt := 85) (oDec_at oX12_breachOf 40 rfl) (by decide) ?_
          refine r_istore C (lv' := [(0, .ref (oad E 71)), (1, .int a1), (2, .int a2), (3, .int a2), (4, .int a2), (5, .int r43), (6, .int r52)]) [1, 2, 3, 4, 5, 6, 0] (oDec_at oX12_breachOf 43 rfl) (by decide) rfl ?_
          refine r_pick C [0, 3, 4, 5, 6] rfl ?_
          exact (key (217 - r52.toInt).toNat) ((pI s 71 65 km1)) a2 a2 r43 r52  (oBI_fr (oFr_oneI (q := 12) (m := 65) rfl (by rfl)) rfl hp2) (by omega) (by omega) (by omega) (by omega) (by omega)
      · skip
        refine r_aload_n C (j := 0) (oDec_at oX12_breachOf 22 rfl) rfl rfl ?_
        refine r_iload_n C (j := 3) (oDec_at oX12_breachOf 23 rfl) rfl rfl ?_
        refine r_callVi C oCl12 rfl miX12_overAt mlX12_392 (ct_X12_overAt l E (s) a2 (by omega)) (by decide) rfl rfl rfl (Nat.le_of_ble_eq_true rfl) (oDec_at oX12_breachOf 24 rfl) (fun r54 u53 pu53 fu53 => ?_)
        try dsimp only at pu53
        obtain ⟨pu53_0, pu53_1, pu53_2⟩ := pu53
        have hxu53 := oFr_nil fu53; subst hxu53
        have rr54 := n_rng r54
        refine r_goto C (tgt := 54) (oDec_at oX12_breachOf 25 rfl) (by decide) ?_
        refine r_istore C (lv' := [(0, .ref (oad E 71)), (1, .int a1), (2, .int a2), (3, .int a2), (4, .int a2), (5, .int r54)]) [1, 2, 3, 4, 5, 0] (oDec_at oX12_breachOf 29 rfl) (by decide) rfl ?_
        refine r_aload_n C (j := 0) (oDec_at oX12_breachOf 30 rfl) rfl rfl ?_
        refine r_iconst C (oDec_at oX12_breachOf 31 rfl) (v := km1) (by rw [qkm1]; rfl) ?_
        refine r_pc C 58 rfl ?_
        refine r_puti (k := 65) (lo := (-2147483648)) (hi := 2147483647) C oCl12 rfl (by decide) flX12_463 rfl rfl rfl rfl rfl rfl rfl rfl (n_rng _) (oDec_at oX12_breachOf 32 rfl) ?_
        refine r_iload_n C (j := 3) (oDec_at oX12_breachOf 33 rfl) rfl rfl ?_
        refine r_callSi C miX12_delayOf mlX12_389 (ct_X12_delayOf l E ((pI s 71 65 km1)) a2 (by omega)) (by decide) rfl rfl rfl (Nat.le_of_ble_eq_true rfl) (oDec_at oX12_breachOf 34 rfl) (fun r56 u55 pu55 fu55 => ?_)
        try dsimp only at pu55
        have hxu55 := oFr_nil fu55; subst hxu55
        have rr56 := n_rng r56
        refine r_iload C (j := 4) (oDec_at oX12_breachOf 35 rfl) rfl ?_
        refine r_callSi C miX12_delayOf mlX12_389 (ct_X12_delayOf l E ((pI s 71 65 km1)) a2 (by omega)) (by decide) rfl rfl rfl (Nat.le_of_ble_eq_true rfl) (oDec_at oX12_breachOf 36 rfl) (fun r58 u57 pu57 fu57 => ?_)
        try dsimp only at pu57
        have hxu57 := oFr_nil fu57; subst hxu57
        have rr58 := n_rng r58
        refine r_icmp_le C 80 (oDec_at oX12_breachOf 37 rfl) (by decide) (fun cd59 => ?_) (fun cd59 => ?_)
        · skip
          refine r_iload C (j := 4) (oDec_at oX12_breachOf 41 rfl) rfl ?_
          refine r_callSi C miX12_delayOf mlX12_389 (ct_X12_delayOf l E ((pI s 71 65 km1)) a2 (by omega)) (by decide) rfl rfl rfl (Nat.le_of_ble_eq_true rfl) (oDec_at oX12_breachOf 42 rfl) (fun r61 u60 pu60 fu60 => ?_)
          try dsimp only at pu60
          have hxu60 := oFr_nil fu60; subst hxu60
          have rr61 := n_rng r61
          refine r_istore C (lv' := [(0, .ref (oad E 71)), (1, .int a1), (2, .int a2), (3, .int a2), (4, .int a2), (5, .int r54), (6, .int r61)]) [1, 2, 3, 4, 5, 6, 0] (oDec_at oX12_breachOf 43 rfl) (by decide) rfl ?_
          refine r_pick C [0, 3, 4, 5, 6] rfl ?_
          exact (key (217 - r61.toInt).toNat) ((pI s 71 65 km1)) a2 a2 r54 r61  (oBI_fr (oFr_oneI (q := 12) (m := 65) rfl (by rfl)) rfl hp2) (by omega) (by omega) (by omega) (by omega) (by omega)
        · skip
          refine r_iload_n C (j := 3) (oDec_at oX12_breachOf 38 rfl) rfl rfl ?_
          refine r_callSi C miX12_delayOf mlX12_389 (ct_X12_delayOf l E ((pI s 71 65 km1)) a2 (by omega)) (by decide) rfl rfl rfl (Nat.le_of_ble_eq_true rfl) (oDec_at oX12_breachOf 39 rfl) (fun r63 u62 pu62 fu62 => ?_)
          try dsimp only at pu62
          have hxu62 := oFr_nil fu62; subst hxu62
          have rr63 := n_rng r63
          refine r_goto C (tgt := 85) (oDec_at oX12_breachOf 40 rfl) (by decide) ?_
          refine r_istore C (lv' := [(0, .ref (oad E 71)), (1, .int a1), (2, .int a2), (3, .int a2), (4, .int a2), (5, .int r54), (6, .int r63)]) [1, 2, 3, 4, 5, 6, 0] (oDec_at oX12_breachOf 43 rfl) (by decide) rfl ?_
          refine r_pick C [0, 3, 4, 5, 6] rfl ?_
          exact (key (217 - r63.toInt).toNat) ((pI s 71 65 km1)) a2 a2 r54 r63  (oBI_fr (oFr_oneI (q := 12) (m := 65) rfl (by rfl)) rfl hp2) (by omega) (by omega) (by omega) (by omega) (by omega)
  · skip
    refine r_iload_n C (j := 1) (oDec_at oX12_breachOf 4 rfl) rfl rfl ?_
    refine r_goto C (tgt := 13) (oDec_at oX12_breachOf 5 rfl) (by decide) ?_
    refine r_istore_n C (lv' := [(0, .ref (oad E 71)), (1, .int a1), (2, .int a2), (3, .int a1)]) [1, 2, 3, 0] (oDec_at oX12_breachOf 7 rfl) rfl (by decide) rfl ?_
    refine r_iload_n C (j := 3) (oDec_at oX12_breachOf 8 rfl) rfl rfl ?_
    refine r_iload_n C (j := 1) (oDec_at oX12_breachOf 9 rfl) rfl rfl ?_
    refine r_icmp_ne C 23 (oDec_at oX12_breachOf 10 rfl) (by decide) (fun cd64 => ?_) (fun cd64 => ?_)
    · skip
      refine r_iload_n C (j := 1) (oDec_at oX12_breachOf 13 rfl) rfl rfl ?_
      refine r_istore C (lv' := [(0, .ref (oad E 71)), (1, .int a1), (2, .int a2), (3, .int a1), (4, .int a1)]) [1, 2, 3, 4, 0] (oDec_at oX12_breachOf 14 rfl) (by decide) rfl ?_
      refine r_aload_n C (j := 0) (oDec_at oX12_breachOf 15 rfl) rfl rfl ?_
      refine r_iload_n C (j := 3) (oDec_at oX12_breachOf 16 rfl) rfl rfl ?_
      refine r_callVi C oCl12 rfl miX12_overAt mlX12_392 (ct_X12_overAt l E (s) a1 (by omega)) (by decide) rfl rfl rfl (Nat.le_of_ble_eq_true rfl) (oDec_at oX12_breachOf 17 rfl) (fun r66 u65 pu65 fu65 => ?_)
      try dsimp only at pu65
      obtain ⟨pu65_0, pu65_1, pu65_2⟩ := pu65
      have hxu65 := oFr_nil fu65; subst hxu65
      have rr66 := n_rng r66
      refine r_aload_n C (j := 0) (oDec_at oX12_breachOf 18 rfl) rfl rfl ?_
      refine r_pc C 32 rfl ?_
      refine r_iload C (j := 4) (oDec_at oX12_breachOf 19 rfl) rfl ?_
      refine r_callVi C oCl12 rfl miX12_overAt mlX12_392 (ct_X12_overAt l E (s) a1 (by omega)) (by decide) rfl rfl rfl (Nat.le_of_ble_eq_true rfl) (oDec_at oX12_breachOf 20 rfl) (fun r68 u67 pu67 fu67 => ?_)
      try dsimp only at pu67
      obtain ⟨pu67_0, pu67_1, pu67_2⟩ := pu67
      have hxu67 := oFr_nil fu67; subst hxu67
      have rr68 := n_rng r68
      refine r_icmp_ge C 48 (oDec_at oX12_breachOf 21 rfl) (by decide) (fun cd69 => ?_) (fun cd69 => ?_)
      · skip
        refine r_aload_n C (j := 0) (oDec_at oX12_breachOf 26 rfl) rfl rfl ?_
        refine r_iload C (j := 4) (oDec_at oX12_breachOf 27 rfl) rfl ?_
        refine r_callVi C oCl12 rfl miX12_overAt mlX12_392 (ct_X12_overAt l E (s) a1 (by omega)) (by decide) rfl rfl rfl (Nat.le_of_ble_eq_true rfl) (oDec_at oX12_breachOf 28 rfl) (fun r71 u70 pu70 fu70 => ?_)
        try dsimp only at pu70
        obtain ⟨pu70_0, pu70_1, pu70_2⟩ := pu70
        have hxu70 := oFr_nil fu70; subst hxu70
        have rr71 := n_rng r71
        refine r_istore C (lv' := [(0, .ref (oad E 71)), (1, .int a1), (2, .int a2), (3, .int a1), (4, .int a1), (5, .int r71)]) [1, 2, 3, 4, 5, 0] (oDec_at oX12_breachOf 29 rfl) (by decide) rfl ?_
        refine r_aload_n C (j := 0) (oDec_at oX12_breachOf 30 rfl) rfl rfl ?_
        refine r_iconst C (oDec_at oX12_breachOf 31 rfl) (v := km1) (by rw [qkm1]; rfl) ?_
        refine r_pc C 58 rfl ?_
        refine r_puti (k := 65) (lo := (-2147483648)) (hi := 2147483647) C oCl12 rfl (by decide) flX12_463 rfl rfl rfl rfl rfl rfl rfl rfl (n_rng _) (oDec_at oX12_breachOf 32 rfl) ?_
        refine r_iload_n C (j := 3) (oDec_at oX12_breachOf 33 rfl) rfl rfl ?_
        refine r_callSi C miX12_delayOf mlX12_389 (ct_X12_delayOf l E ((pI s 71 65 km1)) a1 (by omega)) (by decide) rfl rfl rfl (Nat.le_of_ble_eq_true rfl) (oDec_at oX12_breachOf 34 rfl) (fun r73 u72 pu72 fu72 => ?_)
        try dsimp only at pu72
        have hxu72 := oFr_nil fu72; subst hxu72
        have rr73 := n_rng r73
        refine r_iload C (j := 4) (oDec_at oX12_breachOf 35 rfl) rfl ?_
        refine r_callSi C miX12_delayOf mlX12_389 (ct_X12_delayOf l E ((pI s 71 65 km1)) a1 (by omega)) (by decide) rfl rfl rfl (Nat.le_of_ble_eq_true rfl) (oDec_at oX12_breachOf 36 rfl) (fun r75 u74 pu74 fu74 => ?_)
        try dsimp only at pu74
        have hxu74 := oFr_nil fu74; subst hxu74
        have rr75 := n_rng r75
        refine r_icmp_le C 80 (oDec_at oX12_breachOf 37 rfl) (by decide) (fun cd76 => ?_) (fun cd76 => ?_)
        · skip
          refine r_iload C (j := 4) (oDec_at oX12_breachOf 41 rfl) rfl ?_
          refine r_callSi C miX12_delayOf mlX12_389 (ct_X12_delayOf l E ((pI s 71 65 km1)) a1 (by omega)) (by decide) rfl rfl rfl (Nat.le_of_ble_eq_true rfl) (oDec_at oX12_breachOf 42 rfl) (fun r78 u77 pu77 fu77 => ?_)
          try dsimp only at pu77
          have hxu77 := oFr_nil fu77; subst hxu77
          have rr78 := n_rng r78
          refine r_istore C (lv' := [(0, .ref (oad E 71)), (1, .int a1), (2, .int a2), (3, .int a1), (4, .int a1), (5, .int r71), (6, .int r78)]) [1, 2, 3, 4, 5, 6, 0] (oDec_at oX12_breachOf 43 rfl) (by decide) rfl ?_
          refine r_pick C [0, 3, 4, 5, 6] rfl ?_
          exact (key (217 - r78.toInt).toNat) ((pI s 71 65 km1)) a1 a1 r71 r78  (oBI_fr (oFr_oneI (q := 12) (m := 65) rfl (by rfl)) rfl hp2) (by omega) (by omega) (by omega) (by omega) (by omega)
        · skip
          refine r_iload_n C (j := 3) (oDec_at oX12_breachOf 38 rfl) rfl rfl ?_
          refine r_callSi C miX12_delayOf mlX12_389 (ct_X12_delayOf l E ((pI s 71 65 km1)) a1 (by omega)) (by decide) rfl rfl rfl (Nat.le_of_ble_eq_true rfl) (oDec_at oX12_breachOf 39 rfl) (fun r80 u79 pu79 fu79 => ?_)
          try dsimp only at pu79
          have hxu79 := oFr_nil fu79; subst hxu79
          have rr80 := n_rng r80
          refine r_goto C (tgt := 85) (oDec_at oX12_breachOf 40 rfl) (by decide) ?_
          refine r_istore C (lv' := [(0, .ref (oad E 71)), (1, .int a1), (2, .int a2), (3, .int a1), (4, .int a1), (5, .int r71), (6, .int r80)]) [1, 2, 3, 4, 5, 6, 0] (oDec_at oX12_breachOf 43 rfl) (by decide) rfl ?_
          refine r_pick C [0, 3, 4, 5, 6] rfl ?_
          exact (key (217 - r80.toInt).toNat) ((pI s 71 65 km1)) a1 a1 r71 r80  (oBI_fr (oFr_oneI (q := 12) (m := 65) rfl (by rfl)) rfl hp2) (by omega) (by omega) (by omega) (by omega) (by omega)
      · skip
        refine r_aload_n C (j := 0) (oDec_at oX12_breachOf 22 rfl) rfl rfl ?_
        refine r_iload_n C (j := 3) (oDec_at oX12_breachOf 23 rfl) rfl rfl ?_
        refine r_callVi C oCl12 rfl miX12_overAt mlX12_392 (ct_X12_overAt l E (s) a1 (by omega)) (by decide) rfl rfl rfl (Nat.le_of_ble_eq_true rfl) (oDec_at oX12_breachOf 24 rfl) (fun r82 u81 pu81 fu81 => ?_)
        try dsimp only at pu81
        obtain ⟨pu81_0, pu81_1, pu81_2⟩ := pu81
        have hxu81 := oFr_nil fu81; subst hxu81
        have rr82 := n_rng r82
        refine r_goto C (tgt := 54) (oDec_at oX12_breachOf 25 rfl) (by decide) ?_
        refine r_istore C (lv' := [(0, .ref (oad E 71)), (1, .int a1), (2, .int a2), (3, .int a1), (4, .int a1), (5, .int r82)]) [1, 2, 3, 4, 5, 0] (oDec_at oX12_breachOf 29 rfl) (by decide) rfl ?_
        refine r_aload_n C (j := 0) (oDec_at oX12_breachOf 30 rfl) rfl rfl ?_
        refine r_iconst C (oDec_at oX12_breachOf 31 rfl) (v := km1) (by rw [qkm1]; rfl) ?_
        refine r_pc C 58 rfl ?_
        refine r_puti (k := 65) (lo := (-2147483648)) (hi := 2147483647) C oCl12 rfl (by decide) flX12_463 rfl rfl rfl rfl rfl rfl rfl rfl (n_rng _) (oDec_at oX12_breachOf 32 rfl) ?_
        refine r_iload_n C (j := 3) (oDec_at oX12_breachOf 33 rfl) rfl rfl ?_
        refine r_callSi C miX12_delayOf mlX12_389 (ct_X12_delayOf l E ((pI s 71 65 km1)) a1 (by omega)) (by decide) rfl rfl rfl (Nat.le_of_ble_eq_true rfl) (oDec_at oX12_breachOf 34 rfl) (fun r84 u83 pu83 fu83 => ?_)
        try dsimp only at pu83
        have hxu83 := oFr_nil fu83; subst hxu83
        have rr84 := n_rng r84
        refine r_iload C (j := 4) (oDec_at oX12_breachOf 35 rfl) rfl ?_
        refine r_callSi C miX12_delayOf mlX12_389 (ct_X12_delayOf l E ((pI s 71 65 km1)) a1 (by omega)) (by decide) rfl rfl rfl (Nat.le_of_ble_eq_true rfl) (oDec_at oX12_breachOf 36 rfl) (fun r86 u85 pu85 fu85 => ?_)
        try dsimp only at pu85
        have hxu85 := oFr_nil fu85; subst hxu85
        have rr86 := n_rng r86
        refine r_icmp_le C 80 (oDec_at oX12_breachOf 37 rfl) (by decide) (fun cd87 => ?_) (fun cd87 => ?_)
        · skip
          refine r_iload C (j := 4) (oDec_at oX12_breachOf 41 rfl) rfl ?_
          refine r_callSi C miX12_delayOf mlX12_389 (ct_X12_delayOf l E ((pI s 71 65 km1)) a1 (by omega)) (by decide) rfl rfl rfl (Nat.le_of_ble_eq_true rfl) (oDec_at oX12_breachOf 42 rfl) (fun r89 u88 pu88 fu88 => ?_)
          try dsimp only at pu88
          have hxu88 := oFr_nil fu88; subst hxu88
          have rr89 := n_rng r89
          refine r_istore C (lv' := [(0, .ref (oad E 71)), (1, .int a1), (2, .int a2), (3, .int a1), (4, .int a1), (5, .int r82), (6, .int r89)]) [1, 2, 3, 4, 5, 6, 0] (oDec_at oX12_breachOf 43 rfl) (by decide) rfl ?_
          refine r_pick C [0, 3, 4, 5, 6] rfl ?_
          exact (key (217 - r89.toInt).toNat) ((pI s 71 65 km1)) a1 a1 r82 r89  (oBI_fr (oFr_oneI (q := 12) (m := 65) rfl (by rfl)) rfl hp2) (by omega) (by omega) (by omega) (by omega) (by omega)
        · skip
          refine r_iload_n C (j := 3) (oDec_at oX12_breachOf 38 rfl) rfl rfl ?_
          refine r_callSi C miX12_delayOf mlX12_389 (ct_X12_delayOf l E ((pI s 71 65 km1)) a1 (by omega)) (by decide) rfl rfl rfl (Nat.le_of_ble_eq_true rfl) (oDec_at oX12_breachOf 39 rfl) (fun r91 u90 pu90 fu90 => ?_)
          try dsimp only at pu90
          have hxu90 := oFr_nil fu90; subst hxu90
          have rr91 := n_rng r91
          refine r_goto C (tgt := 85) (oDec_at oX12_breachOf 40 rfl) (by decide) ?_
          refine r_istore C (lv' := [(0, .ref (oad E 71)), (1, .int a1), (2, .int a2), (3, .int a1), (4, .int a1), (5, .int r82), (6, .int r91)]) [1, 2, 3, 4, 5, 6, 0] (oDec_at oX12_breachOf 43 rfl) (by decide) rfl ?_
          refine r_pick C [0, 3, 4, 5, 6] rfl ?_
          exact (key (217 - r91.toInt).toNat) ((pI s 71 65 km1)) a1 a1 r82 r91  (oBI_fr (oFr_oneI (q := 12) (m := 65) rfl (by rfl)) rfl hp2) (by omega) (by omega) (by omega) (by omega) (by omega)
    · skip
      refine r_iload_n C (j := 2) (oDec_at oX12_breachOf 11 rfl) rfl rfl ?_
      refine r_goto C (tgt := 24) (oDec_at oX12_breachOf 12 rfl) (by decide) ?_
      refine r_istore C (lv' := [(0, .ref (oad E 71)), (1, .int a1), (2, .int a2), (3, .int a1), (4, .int a2)]) [1, 2, 3, 4, 0] (oDec_at oX12_breachOf 14 rfl) (by decide) rfl ?_
      refine r_aload_n C (j := 0) (oDec_at oX12_breachOf 15 rfl) rfl rfl ?_
      refine r_iload_n C (j := 3) (oDec_at oX12_breachOf 16 rfl) rfl rfl ?_
      refine r_callVi C oCl12 rfl miX12_overAt mlX12_392 (ct_X12_overAt l E (s) a1 (by omega)) (by decide) rfl rfl rfl (Nat.le_of_ble_eq_true rfl) (oDec_at oX12_breachOf 17 rfl) (fun r93 u92 pu92 fu92 => ?_)
      try dsimp only at pu92
      obtain ⟨pu92_0, pu92_1, pu92_2⟩ := pu92
      have hxu92 := oFr_nil fu92; subst hxu92
      have rr93 := n_rng r93
      refine r_aload_n C (j := 0) (oDec_at oX12_breachOf 18 rfl) rfl rfl ?_
      refine r_pc C 32 rfl ?_
      refine r_iload C (j := 4) (oDec_at oX12_breachOf 19 rfl) rfl ?_
      refine r_callVi C oCl12 rfl miX12_overAt mlX12_392 (ct_X12_overAt l E (s) a2 (by omega)) (by decide) rfl rfl rfl (Nat.le_of_ble_eq_true rfl) (oDec_at oX12_breachOf 20 rfl) (fun r95 u94 pu94 fu94 => ?_)
      try dsimp only at pu94
      obtain ⟨pu94_0, pu94_1, pu94_2⟩ := pu94
      have hxu94 := oFr_nil fu94; subst hxu94
      have rr95 := n_rng r95
      refine r_icmp_ge C 48 (oDec_at oX12_breachOf 21 rfl) (by decide) (fun cd96 => ?_) (fun cd96 => ?_)
      · skip
        refine r_aload_n C (j := 0) (oDec_at oX12_breachOf 26 rfl) rfl rfl ?_
        refine r_iload C (j := 4) (oDec_at oX12_breachOf 27 rfl) rfl ?_
        refine r_callVi C oCl12 rfl miX12_overAt mlX12_392 (ct_X12_overAt l E (s) a2 (by omega)) (by decide) rfl rfl rfl (Nat.le_of_ble_eq_true rfl) (oDec_at oX12_breachOf 28 rfl) (fun r98 u97 pu97 fu97 => ?_)
        try dsimp only at pu97
        obtain ⟨pu97_0, pu97_1, pu97_2⟩ := pu97
        have hxu97 := oFr_nil fu97; subst hxu97
        have rr98 := n_rng r98
        refine r_istore C (lv' := [(0, .ref (oad E 71)), (1, .int a1), (2, .int a2), (3, .int a1), (4, .int a2), (5, .int r98)]) [1, 2, 3, 4, 5, 0] (oDec_at oX12_breachOf 29 rfl) (by decide) rfl ?_
        refine r_aload_n C (j := 0) (oDec_at oX12_breachOf 30 rfl) rfl rfl ?_
        refine r_iconst C (oDec_at oX12_breachOf 31 rfl) (v := km1) (by rw [qkm1]; rfl) ?_
        refine r_pc C 58 rfl ?_
        refine r_puti (k := 65) (lo := (-2147483648)) (hi := 2147483647) C oCl12 rfl (by decide) flX12_463 rfl rfl rfl rfl rfl rfl rfl rfl (n_rng _) (oDec_at oX12_breachOf 32 rfl) ?_
        refine r_iload_n C (j := 3) (oDec_at oX12_breachOf 33 rfl) rfl rfl ?_
        refine r_callSi C miX12_delayOf mlX12_389 (ct_X12_delayOf l E ((pI s 71 65 km1)) a1 (by omega)) (by decide) rfl rfl rfl (Nat.le_of_ble_eq_true rfl) (oDec_at oX12_breachOf 34 rfl) (fun r100 u99 pu99 fu99 => ?_)
        try dsimp only at pu99
        have hxu99 := oFr_nil fu99; subst hxu99
        have rr100 := n_rng r100
        refine r_iload C (j := 4) (oDec_at oX12_breachOf 35 rfl) rfl ?_
        refine r_callSi C miX12_delayOf mlX12_389 (ct_X12_delayOf l E ((pI s 71 65 km1)) a2 (by omega)) (by decide) rfl rfl rfl (Nat.le_of_ble_eq_true rfl) (oDec_at oX12_breachOf 36 rfl) (fun r102 u101 pu101 fu101 => ?_)
        try dsimp only at pu101
        have hxu101 := oFr_nil fu101; subst hxu101
        have rr102 := n_rng r102
        refine r_icmp_le C 80 (oDec_at oX12_breachOf 37 rfl) (by decide) (fun cd103 => ?_) (fun cd103 => ?_)
        · skip
          refine r_iload C (j := 4) (oDec_at oX12_breachOf 41 rfl) rfl ?_
          refine r_callSi C miX12_delayOf mlX12_389 (ct_X12_delayOf l E ((pI s 71 65 km1)) a2 (by omega)) (by decide) rfl rfl rfl (Nat.le_of_ble_eq_true rfl) (oDec_at oX12_breachOf 42 rfl) (fun r105 u104 pu104 fu104 => ?_)
          try dsimp only at pu104
          have hxu104 := oFr_nil fu104; subst hxu104
          have rr105 := n_rng r105
          refine r_istore C (lv' := [(0, .ref (oad E 71)), (1, .int a1), (2, .int a2), (3, .int a1), (4, .int a2), (5, .int r98), (6, .int r105)]) [1, 2, 3, 4, 5, 6, 0] (oDec_at oX12_breachOf 43 rfl) (by decide) rfl ?_
          refine r_pick C [0, 3, 4, 5, 6] rfl ?_
          exact (key (217 - r105.toInt).toNat) ((pI s 71 65 km1)) a1 a2 r98 r105  (oBI_fr (oFr_oneI (q := 12) (m := 65) rfl (by rfl)) rfl hp2) (by omega) (by omega) (by omega) (by omega) (by omega)
        · skip
          refine r_iload_n C (j := 3) (oDec_at oX12_breachOf 38 rfl) rfl rfl ?_
          refine r_callSi C miX12_delayOf mlX12_389 (ct_X12_delayOf l E ((pI s 71 65 km1)) a1 (by omega)) (by decide) rfl rfl rfl (Nat.le_of_ble_eq_true rfl) (oDec_at oX12_breachOf 39 rfl) (fun r107 u106 pu106 fu106 => ?_)
          try dsimp only at pu106
          have hxu106 := oFr_nil fu106; subst hxu106
          have rr107 := n_rng r107
          refine r_goto C (tgt := 85) (oDec_at oX12_breachOf 40 rfl) (by decide) ?_
          refine r_istore C (lv' := [(0, .ref (oad E 71)), (1, .int a1), (2, .int a2), (3, .int a1), (4, .int a2), (5, .int r98), (6, .int r107)]) [1, 2, 3, 4, 5, 6, 0] (oDec_at oX12_breachOf 43 rfl) (by decide) rfl ?_
          refine r_pick C [0, 3, 4, 5, 6] rfl ?_
          exact (key (217 - r107.toInt).toNat) ((pI s 71 65 km1)) a1 a2 r98 r107  (oBI_fr (oFr_oneI (q := 12) (m := 65) rfl (by rfl)) rfl hp2) (by omega) (by omega) (by omega) (by omega) (by omega)
      · skip
        refine r_aload_n C (j := 0) (oDec_at oX12_breachOf 22 rfl) rfl rfl ?_
        refine r_iload_n C (j := 3) (oDec_at oX12_breachOf 23 rfl) rfl rfl ?_
        refine r_callVi C oCl12 rfl miX12_overAt mlX12_392 (ct_X12_overAt l E (s) a1 (by omega)) (by decide) rfl rfl rfl (Nat.le_of_ble_eq_true rfl) (oDec_at oX12_breachOf 24 rfl) (fun r109 u108 pu108 fu108 => ?_)
        try dsimp only at pu108
        obtain ⟨pu108_0, pu108_1, pu108_2⟩ := pu108
        have hxu108 := oFr_nil fu108; subst hxu108
        have rr109 := n_rng r109
        refine r_goto C (tgt := 54) (oDec_at oX12_breachOf 25 rfl) (by decide) ?_
        refine r_istore C (lv' := [(0, .ref (oad E 71)), (1, .int a1), (2, .int a2), (3, .int a1), (4, .int a2), (5, .int r109)]) [1, 2, 3, 4, 5, 0] (oDec_at oX12_breachOf 29 rfl) (by decide) rfl ?_
        refine r_aload_n C (j := 0) (oDec_at oX12_breachOf 30 rfl) rfl rfl ?_
        refine r_iconst C (oDec_at oX12_breachOf 31 rfl) (v := km1) (by rw [qkm1]; rfl) ?_
        refine r_pc C 58 rfl ?_
        refine r_puti (k := 65) (lo := (-2147483648)) (hi := 2147483647) C oCl12 rfl (by decide) flX12_463 rfl rfl rfl rfl rfl rfl rfl rfl (n_rng _) (oDec_at oX12_breachOf 32 rfl) ?_
        refine r_iload_n C (j := 3) (oDec_at oX12_breachOf 33 rfl) rfl rfl ?_
        refine r_callSi C miX12_delayOf mlX12_389 (ct_X12_delayOf l E ((pI s 71 65 km1)) a1 (by omega)) (by decide) rfl rfl rfl (Nat.le_of_ble_eq_true rfl) (oDec_at oX12_breachOf 34 rfl) (fun r111 u110 pu110 fu110 => ?_)
        try dsimp only at pu110
        have hxu110 := oFr_nil fu110; subst hxu110
        have rr111 := n_rng r111
        refine r_iload C (j := 4) (oDec_at oX12_breachOf 35 rfl) rfl ?_
        refine r_callSi C miX12_delayOf mlX12_389 (ct_X12_delayOf l E ((pI s 71 65 km1)) a2 (by omega)) (by decide) rfl rfl rfl (Nat.le_of_ble_eq_true rfl) (oDec_at oX12_breachOf 36 rfl) (fun r113 u112 pu112 fu112 => ?_)
        try dsimp only at pu112
        have hxu112 := oFr_nil fu112; subst hxu112
        have rr113 := n_rng r113
        refine r_icmp_le C 80 (oDec_at oX12_breachOf 37 rfl) (by decide) (fun cd114 => ?_) (fun cd114 => ?_)
        · skip
          refine r_iload C (j := 4) (oDec_at oX12_breachOf 41 rfl) rfl ?_
          refine r_callSi C miX12_delayOf mlX12_389 (ct_X12_delayOf l E ((pI s 71 65 km1)) a2 (by omega)) (by decide) rfl rfl rfl (Nat.le_of_ble_eq_true rfl) (oDec_at oX12_breachOf 42 rfl) (fun r116 u115 pu115 fu115 => ?_)
          try dsimp only at pu115
          have hxu115 := oFr_nil fu115; subst hxu115
          have rr116 := n_rng r116
          refine r_istore C (lv' := [(0, .ref (oad E 71)), (1, .int a1), (2, .int a2), (3, .int a1), (4, .int a2), (5, .int r109), (6, .int r116)]) [1, 2, 3, 4, 5, 6, 0] (oDec_at oX12_breachOf 43 rfl) (by decide) rfl ?_
          refine r_pick C [0, 3, 4, 5, 6] rfl ?_
          exact (key (217 - r116.toInt).toNat) ((pI s 71 65 km1)) a1 a2 r109 r116  (oBI_fr (oFr_oneI (q := 12) (m := 65) rfl (by rfl)) rfl hp2) (by omega) (by omega) (by omega) (by omega) (by omega)
        · skip
          refine r_iload_n C (j := 3) (oDec_at oX12_breachOf 38 rfl) rfl rfl ?_
          refine r_callSi C miX12_delayOf mlX12_389 (ct_X12_delayOf l E ((pI s 71 65 km1)) a1 (by omega)) (by decide) rfl rfl rfl (Nat.le_of_ble_eq_true rfl) (oDec_at oX12_breachOf 39 rfl) (fun r118 u117 pu117 fu117 => ?_)
          try dsimp only at pu117
          have hxu117 := oFr_nil fu117; subst hxu117
          have rr118 := n_rng r118
          refine r_goto C (tgt := 85) (oDec_at oX12_breachOf 40 rfl) (by decide) ?_
          refine r_istore C (lv' := [(0, .ref (oad E 71)), (1, .int a1), (2, .int a2), (3, .int a1), (4, .int a2), (5, .int r109), (6, .int r118)]) [1, 2, 3, 4, 5, 6, 0] (oDec_at oX12_breachOf 43 rfl) (by decide) rfl ?_
          refine r_pick C [0, 3, 4, 5, 6] rfl ?_
          exact (key (217 - r118.toInt).toNat) ((pI s 71 65 km1)) a1 a2 r109 r118  (oBI_fr (oFr_oneI (q := 12) (m := 65) rfl (by rfl)) rfl hp2) (by omega) (by omega) (by omega) (by omega) (by omega)
set_option maxHeartbeats 4000000 in
set_option maxRecDepth 100000 in
theorem ct_X12_breach (l : Launch) (E : oE) (s : oS) (a1 : Int32) (a2 : Int32) (a3 : Int32)  (hp0 : oBI s) : oMet l 7 yX12_breach cX12_breach 5 (some .int) [(12, 58), (12, 60), (12, 61), (12, 62), (12, 63), (12, 65), (84, 9999), (85, 9999)] E s [.ref (oad E 71), .int a1, .int a2, .int a3] (oPi (fun r u => True)) := by
  refine oMet.of (lv := [(0, .ref (oad E 71)), (1, .int a1), (2, .int a2), (3, .int a3)]) (by decide +kernel) (Nat.le_of_ble_eq_true rfl) rfl (fun J C hT => ?_)
  have C : oC l 7 cX12_breach RX12 5 (some .int) [(12, 58), (12, 60), (12, 61), (12, 62), (12, 63), (12, 65), (84, 9999), (85, 9999)] E s (oPi (fun r u => True)) J := C
  obtain ⟨km1, qkm1⟩ : ∃ z : Int32, z = (-1) := ⟨_, rfl⟩
  have ekm1 : km1.toInt = (-1) := by rw [qkm1]; rfl
  obtain ⟨j0, qj0⟩ : ∃ z : Int64, z = 0 := ⟨_, rfl⟩
  have ej0 : j0.toInt = 0 := by rw [qj0]; rfl
  obtain ⟨j1, qj1⟩ : ∃ z : Int64, z = 1 := ⟨_, rfl⟩
  have ej1 : j1.toInt = 1 := by rw [qj1]; rfl
  have rg1 := n_rng a1
  have rg2 := n_rng a2
  have rg3 := n_rng a3
  refine r_aload_n C (j := 0) (oDec_at oX12_breach 0 rfl) rfl rfl ?_
  refine r_iload_n C (j := 1) (oDec_at oX12_breach 1 rfl) rfl rfl ?_
  refine r_iload_n C (j := 2) (oDec_at oX12_breach 2 rfl) rfl rfl ?_
  refine r_callVi C oCl12 rfl miX12_areTwo mlX12_470 (ct_X12_areTwo l E (s) a1 a2 ) (by decide) rfl rfl rfl (Nat.le_of_ble_eq_true rfl) (oDec_at oX12_breach 3 rfl) (fun r2 u1 pu1 fu1 => ?_)
  try dsimp only at pu1
  obtain ⟨pu1_0, pu1_1⟩ := pu1
  have hxu1 := oFr_nil fu1; subst hxu1
  have rr2 := n_rng r2
  refine r_if_eq C 19 (oDec_at oX12_breach 4 rfl) (by decide) (fun cd3 => ?_) (fun cd3 => ?_)
  · skip
    clear pu1_1
    refine r_iconst C (oDec_at oX12_breach 11 rfl) (v := km1) (by rw [qkm1]; rfl) ?_
    exact r_iret C (oDec_at oX12_breach 12 rfl) ⟨_, rfl, trivial⟩
  · skip
    replace pu1_1 := pu1_1 (by omega)
    refine r_iload_n C (j := 3) (oDec_at oX12_breach 5 rfl) rfl rfl ?_
    obtain ⟨v4, ev4⟩ : ∃ z : Int64, a3.toInt64 = z := ⟨_, rfl⟩
    have hv4 : v4.toInt = a3.toInt := n_i2l ev4
    refine r_i2l C v4 (oDec_at oX12_breach 6 rfl) ev4 ?_
    refine r_lconst C (oDec_at oX12_breach 7 rfl) (v := j0) (by rw [qj0]; rfl) ?_
    refine r_lconst C (oDec_at oX12_breach 8 rfl) (v := j1) (by rw [qj1]; rfl) ?_
    refine r_callSi C miX12_isIn mlX12_216 (ct_X12_isIn l E (s) v4 j0 j1 ) (by decide) rfl rfl rfl (Nat.le_of_ble_eq_true rfl) (oDec_at oX12_breach 9 rfl) (fun r6 u5 pu5 fu5 => ?_)
    try dsimp only at pu5
    obtain ⟨pu5_0, pu5_1⟩ := pu5
    have hxu5 := oFr_nil fu5; subst hxu5
    have rr6 := n_rng r6
    refine r_if_ne C 21 (oDec_at oX12_breach 10 rfl) (by decide) (fun cd7 => ?_) (fun cd7 => ?_)
    · skip
      refine r_aload_n C (j := 0) (oDec_at oX12_breach 13 rfl) rfl rfl ?_
      refine r_iload_n C (j := 1) (oDec_at oX12_breach 14 rfl) rfl rfl ?_
      refine r_iload_n C (j := 2) (oDec_at oX12_breach 15 rfl) rfl rfl ?_
      refine r_callVi C oCl12 rfl miX12_breachOf mlX12_473 (ct_X12_breachOf l E (s) a1 a2 (by omega) (by omega) hp0) (by decide) rfl rfl rfl (Nat.le_of_ble_eq_true rfl) (oDec_at oX12_breach 16 rfl) (fun r9 u8 pu8 fu8 => ?_)
      try dsimp only at pu8
      have rr9 := n_rng r9
      refine r_istore C (lv' := [(0, .ref (oad E 71)), (1, .int a1), (2, .int a2), (3, .int a3), (4, .int r9)]) [1, 2, 3, 4, 0] (oDec_at oX12_breach 17 rfl) (by decide) rfl ?_
      refine r_iload_n C (j := 3) (oDec_at oX12_breach 18 rfl) rfl rfl ?_
      refine r_pc C 30 rfl ?_
      refine r_if_ne C 38 (oDec_at oX12_breach 19 rfl) (by decide) (fun cd10 => ?_) (fun cd10 => ?_)
      · skip
        refine r_aload_n C (j := 0) (oDec_at oX12_breach 22 rfl) rfl rfl ?_
        obtain ⟨v11, ev11⟩ : ∃ z : Int32, (u8).1 71 65 = z := ⟨_, rfl⟩
        have gv11 : (u8.1 71 65).toInt = v11.toInt := congrArg Int32.toInt (ev11)
        have rv11 := n_rng v11
        refine r_geti (k := 65) (lo := (-2147483648)) (hi := 2147483647) C v11 oCl12 rfl (by decide) flX12_463 rfl rfl (ev11) rfl rfl (oDec_at oX12_breach 23 rfl) (fun _ _ => ?_)
        exact r_iret C (oDec_at oX12_breach 24 rfl) ⟨_, rfl, trivial⟩
      · skip
        refine r_iload C (j := 4) (oDec_at oX12_breach 20 rfl) rfl ?_
        refine r_goto C (tgt := 42) (oDec_at oX12_breach 21 rfl) (by decide) ?_
        exact r_iret C (oDec_at oX12_breach 24 rfl) ⟨_, rfl, trivial⟩
    · skip
      refine r_iconst C (oDec_at oX12_breach 11 rfl) (v := km1) (by rw [qkm1]; rfl) ?_
      exact r_iret C (oDec_at oX12_breach 12 rfl) ⟨_, rfl, trivial⟩
set_option maxHeartbeats 4000000 in
set_option maxRecDepth 100000 in
theorem ct_X12_together (l : Launch) (E : oE) (s : oS) (a1 : Int32) (a2 : Int32) (a3 : Int32)  (hp0 : oBI s) : oMet l 6 yX12_together cX12_together 12 (some .int) [(12, 58), (12, 60), (12, 61), (12, 62), (12, 63), (84, 9999), (85, 9999)] E s [.ref (oad E 71), .int a1, .int a2, .int a3] (oPi (fun r u => True)) := by
  refine oMet.of (lv := [(0, .ref (oad E 71)), (1, .int a1), (2, .int a2), (3, .int a3)]) (by decide +kernel) (Nat.le_of_ble_eq_true rfl) rfl (fun J C hT => ?_)
  have C : oC l 6 cX12_together RX12 12 (some .int) [(12, 58), (12, 60), (12, 61), (12, 62), (12, 63), (84, 9999), (85, 9999)] E s (oPi (fun r u => True)) J := C
  obtain ⟨km1000000000, qkm1000000000⟩ : ∃ z : Int32, z = (-1000000000) := ⟨_, rfl⟩
  have ekm1000000000 : km1000000000.toInt = (-1000000000) := by rw [qkm1000000000]; rfl
  obtain ⟨km1, qkm1⟩ : ∃ z : Int32, z = (-1) := ⟨_, rfl⟩
  have ekm1 : km1.toInt = (-1) := by rw [qkm1]; rfl
  obtain ⟨k0, qk0⟩ : ∃ z : Int32, z = 0 := ⟨_, rfl⟩
  have ek0 : k0.toInt = 0 := by rw [qk0]; rfl
  obtain ⟨k1, qk1⟩ : ∃ z : Int32, z = 1 := ⟨_, rfl⟩
  have ek1 : k1.toInt = 1 := by rw [qk1]; rfl
  obtain ⟨j0, qj0⟩ : ∃ z : Int64, z = 0 := ⟨_, rfl⟩
  have ej0 : j0.toInt = 0 := by rw [qj0]; rfl
  obtain ⟨j2, qj2⟩ : ∃ z : Int64, z = 2 := ⟨_, rfl⟩
  have ej2 : j2.toInt = 2 := by rw [qj2]; rfl
  have rg1 := n_rng a1
  have rg2 := n_rng a2
  have rg3 := n_rng a3
  have key : ∀ n : Nat, (∀ (t : oS) (x4 : Int32) (x5 : Int32) (x6 : Int32) (x7 : Int32) (x8 : Int32) (x9 : Int32), (oBI t) → (0 ≤ x7.toInt ∧ x7.toInt ≤ 4499) → (0 ≤ x8.toInt ∧ x8.toInt ≤ 4499) → (0 ≤ x9.toInt ∧ x9.toInt ≤ 216) → (0 ≤ x4.toInt ∧ x4.toInt ≤ x9.toInt) → (0 ≤ x5.toInt ∧ x5.toInt ≤ x9.toInt) → 217 - x9.toInt ≤ (n : Int) → J t 63 [(0, .ref (oad E 71)), (3, .int a3), (4, .int x4), (5, .int x5), (6, .int x6), (7, .int x7), (8, .int x8), (9, .int x9)] []) := by
    intro n
    induction n using Nat.strongRecOn with
    | _ n ih =>
      skip
      · intro t x4 x5 x6 x7 x8 x9  iv0 iv1 iv2 iv3 iv4 iv5 hmu
        have rx4 := n_rng x4
        have rx5 := n_rng x5
        have rx6 := n_rng x6
        have rx7 := n_rng x7
        have rx8 := n_rng x8
        have rx9 := n_rng x9
        refine r_iload C (j := 7) (oDec_at oX12_together 36 rfl) rfl ?_
        refine r_aload_n C (j := 0) (oDec_at oX12_together 37 rfl) rfl rfl ?_
        refine r_iload C (j := 5) (oDec_at oX12_together 38 rfl) rfl ?_
        refine r_callVi C oCl12 rfl miX12_overAt mlX12_392 (ct_X12_overAt l E (t) x7 (by omega)) (by decide) rfl rfl rfl (Nat.le_of_ble_eq_true rfl) (oDec_at oX12_together 39 rfl) (fun r2 u1 pu1 fu1 => ?_)
        try dsimp only at pu1
        obtain ⟨pu1_0, pu1_1, pu1_2⟩ := pu1
        have hxu1 := oFr_nil fu1; subst hxu1
        have rr2 := n_rng r2
        refine r_icmp_ge C 160 (oDec_at oX12_together 40 rfl) (by decide) (fun cd3 => ?_) (fun cd3 => ?_)
        · skip
          refine r_iload_n C (j := 1) (oDec_at oX12_together 78 rfl) rfl rfl ?_
          refine r_if_ne C 169 (oDec_at oX12_together 79 rfl) (by decide) (fun cd4 => ?_) (fun cd4 => ?_)
          · skip
            refine r_iload_n C (j := 1) (oDec_at oX12_together 82 rfl) rfl rfl ?_
            refine r_iconst C (oDec_at oX12_together 83 rfl) (v := k1) (by rw [qk1]; rfl) ?_
            refine r_icmp_ne C 179 (oDec_at oX12_together 84 rfl) (by decide) (fun cd5 => ?_) (fun cd5 => ?_)
            · skip
              refine r_iload C (j := 4) (oDec_at oX12_together 87 rfl) rfl ?_
              exact r_iret C (oDec_at oX12_together 88 rfl) ⟨_, rfl, trivial⟩
            · skip
              refine r_iload C (j := 3) (oDec_at oX12_together 85 rfl) rfl ?_
              refine r_goto C (tgt := 181) (oDec_at oX12_together 86 rfl) (by decide) ?_
              exact r_iret C (oDec_at oX12_together 88 rfl) ⟨_, rfl, trivial⟩
          · skip
            refine r_iload C (j := 2) (oDec_at oX12_together 80 rfl) rfl ?_
            refine r_goto C (tgt := 181) (oDec_at oX12_together 81 rfl) (by decide) ?_
            exact r_iret C (oDec_at oX12_together 88 rfl) ⟨_, rfl, trivial⟩
        · skip
          refine r_aload_n C (j := 0) (oDec_at oX12_together 41 rfl) rfl rfl ?_
          refine r_iload C (j := 5) (oDec_at oX12_together 42 rfl) rfl ?_
          refine r_iload C (j := 7) (oDec_at oX12_together 43 rfl) rfl ?_
          refine r_callVi C oCl12 rfl miX12_singsIn mlX12_431 (ct_X12_singsIn l E (t) x7 x9 (by omega) (by omega)) (by decide) rfl rfl rfl (Nat.le_of_ble_eq_true rfl) (oDec_at oX12_together 44 rfl) (fun r7 u6 pu6 fu6 => ?_)
          try dsimp only at pu6
          have hxu6 := oFr_nil fu6; subst hxu6
          have rr7 := n_rng r7
          refine r_istore C (lv' := [(0, .ref (oad E 71)), (3, .int a3), (4, .int x4), (5, .int x5), (6, .int x6), (7, .int x7), (8, .int x8), (9, .int x9), (10, .int r7)]) [1, 2, 3, 4, 5, 6, 7, 8, 0] (oDec_at oX12_together 45 rfl) (by decide) rfl ?_
          refine r_aload_n C (j := 0) (oDec_at oX12_together 46 rfl) rfl rfl ?_
          refine r_pc C 85 rfl ?_
          refine r_iload C (j := 6) (oDec_at oX12_together 47 rfl) rfl ?_
          refine r_iload C (j := 7) (oDec_at oX12_together 48 rfl) rfl ?_
          refine r_callVi C oCl12 rfl miX12_singsIn mlX12_431 (ct_X12_singsIn l E (t) x8 x9 (by omega) (by omega)) (by decide) rfl rfl rfl (Nat.le_of_ble_eq_true rfl) (oDec_at oX12_together 49 rfl) (fun r9 u8 pu8 fu8 => ?_)
          try dsimp only at pu8
          have hxu8 := oFr_nil fu8; subst hxu8
          have rr9 := n_rng r9
          refine r_istore C (lv' := [(0, .ref (oad E 71)), (3, .int a3), (4, .int x4), (5, .int x5), (6, .int x6), (7, .int x7), (8, .int x8), (9, .int x9), (10, .int r7), (11, .int r9)]) [1, 2, 3, 4, 5, 6, 7, 8, 9, 0] (oDec_at oX12_together 50 rfl) (by decide) rfl ?_
          refine r_iload C (j := 8) (oDec_at oX12_together 51 rfl) rfl ?_
          refine r_ldcw C (v := km1000000000) (by rw [qkm1000000000]; exact kcX12_398) (oDec_at oX12_together 52 rfl) ?_
          refine r_pc C 99 rfl ?_
          refine r_icmp_eq C 154 (oDec_at oX12_together 53 rfl) (by decide) (fun cd10 => ?_) (fun cd10 => ?_)
          · skip
            obtain ⟨v11, ev11⟩ : ∃ z : Int32, x9 + Int32.ofInt 1 = z := ⟨_, rfl⟩
            have hv11 : v11.toInt = x9.toInt + 1 := n_inc ev11 (by decide) (by omega) (by omega)
            refine r_iinc C (j := 7) (lv' := [(0, .ref (oad E 71)), (3, .int a3), (4, .int x4), (5, .int x5), (6, .int x6), (7, .int x7), (8, .int x8), (9, .int v11), (10, .int r7), (11, .int r9)]) v11 [1, 2, 3, 4, 5, 6, 7, 0, 8, 9] (oDec_at oX12_together 76 rfl) rfl ev11 (by decide) rfl ?_
            refine r_goto C (tgt := 63) (oDec_at oX12_together 77 rfl) (by decide) ?_
            refine r_pick C [0, 1, 2, 3, 4, 5, 6, 7] rfl ?_
            exact (ih (n - 1) (by omega)) (t) x4 x5 x6 x7 x8 v11  iv0 (by omega) (by omega) (by omega) (by omega) (by omega) (by omega)
          · skip
            refine r_iload C (j := 9) (oDec_at oX12_together 54 rfl) rfl ?_
            refine r_ldcw C (v := km1000000000) (by rw [qkm1000000000]; exact kcX12_398) (oDec_at oX12_together 55 rfl) ?_
            refine r_icmp_ne C 113 (oDec_at oX12_together 56 rfl) (by decide) (fun cd12 => ?_) (fun cd12 => ?_)
            · skip
              obtain ⟨v13, ev13⟩ : ∃ z : Int32, x4 + Int32.ofInt 1 = z := ⟨_, rfl⟩
              have hv13 : v13.toInt = x4.toInt + 1 := n_inc ev13 (by decide) (by omega) (by omega)
              refine r_iinc C (j := 2) (lv' := [(0, .ref (oad E 71)), (3, .int a3), (4, .int v13), (5, .int x5), (6, .int x6), (7, .int x7), (8, .int x8), (9, .int x9), (10, .int r7), (11, .int r9)]) v13 [1, 2, 0, 3, 4, 5, 6, 7, 8, 9] (oDec_at oX12_together 58 rfl) rfl ev13 (by decide) rfl ?_
              refine r_iload C (j := 8) (oDec_at oX12_together 59 rfl) rfl ?_
              refine r_iload C (j := 9) (oDec_at oX12_together 60 rfl) rfl ?_
              refine r_callSi C miX12_apart mlX12_440 (ct_X12_apart l E (t) r7 r9 ) (by decide) rfl rfl rfl (Nat.le_of_ble_eq_true rfl) (oDec_at oX12_together 61 rfl) (fun r15 u14 pu14 fu14 => ?_)
              try dsimp only at pu14
              have hxu14 := oFr_nil fu14; subst hxu14
              have rr15 := n_rng r15
              refine r_iload C (j := 4) (oDec_at oX12_together 62 rfl) rfl ?_
              refine r_icmp_le C 137 (oDec_at oX12_together 63 rfl) (by decide) (fun cd16 => ?_) (fun cd16 => ?_)
              · skip
                refine r_aload_n C (j := 0) (oDec_at oX12_together 68 rfl) rfl rfl ?_
                refine r_iload C (j := 5) (oDec_at oX12_together 69 rfl) rfl ?_
                refine r_iload C (j := 6) (oDec_at oX12_together 70 rfl) rfl ?_
                refine r_iload C (j := 7) (oDec_at oX12_together 71 rfl) rfl ?_
                refine r_callVi C oCl12 rfl miX12_brokenBy mlX12_466 (ct_X12_brokenBy l E (t) x7 x8 x9 (by omega) (by omega) (by omega) iv0) (by decide) rfl rfl rfl (Nat.le_of_ble_eq_true rfl) (oDec_at oX12_together 72 rfl) (fun r18 u17 pu17 fu17 => ?_)
                try dsimp only at pu17
                have rr18 := n_rng r18
                refine r_iconst C (oDec_at oX12_together 73 rfl) (v := km1) (by rw [qkm1]; rfl) ?_
                refine r_pc C 148 rfl ?_
                refine r_icmp_eq C 154 (oDec_at oX12_together 74 rfl) (by decide) (fun cd19 => ?_) (fun cd19 => ?_)
                · skip
                  obtain ⟨v20, ev20⟩ : ∃ z : Int32, x9 + Int32.ofInt 1 = z := ⟨_, rfl⟩
                  have hv20 : v20.toInt = x9.toInt + 1 := n_inc ev20 (by decide) (by omega) (by omega)
                  refine r_iinc C (j := 7) (lv' := [(0, .ref (oad E 71)), (3, .int a3), (4, .int v13), (5, .int x5), (6, .int x6), (7, .int x7), (8, .int x8), (9, .int v20), (10, .int r7), (11, .int r9)]) v20 [1, 2, 3, 4, 5, 6, 7, 0, 8, 9] (oDec_at oX12_together 76 rfl) rfl ev20 (by decide) rfl ?_
                  refine r_goto C (tgt := 63) (oDec_at oX12_together 77 rfl) (by decide) ?_
                  refine r_pick C [0, 1, 2, 3, 4, 5, 6, 7] rfl ?_
                  exact (ih (n - 1) (by omega)) (u17) v13 x5 x6 x7 x8 v20  (oBI_fr fu17 rfl iv0) (by omega) (by omega) (by omega) (by omega) (by omega) (by omega)
                · skip
                  obtain ⟨v21, ev21⟩ : ∃ z : Int32, x5 + Int32.ofInt 1 = z := ⟨_, rfl⟩
                  have hv21 : v21.toInt = x5.toInt + 1 := n_inc ev21 (by decide) (by omega) (by omega)
                  refine r_iinc C (j := 3) (lv' := [(0, .ref (oad E 71)), (3, .int a3), (4, .int v13), (5, .int v21), (6, .int x6), (7, .int x7), (8, .int x8), (9, .int x9), (10, .int r7), (11, .int r9)]) v21 [1, 2, 3, 0, 4, 5, 6, 7, 8, 9] (oDec_at oX12_together 75 rfl) rfl ev21 (by decide) rfl ?_
                  obtain ⟨v22, ev22⟩ : ∃ z : Int32, x9 + Int32.ofInt 1 = z := ⟨_, rfl⟩
                  have hv22 : v22.toInt = x9.toInt + 1 := n_inc ev22 (by decide) (by omega) (by omega)
                  refine r_iinc C (j := 7) (lv' := [(0, .ref (oad E 71)), (3, .int a3), (4, .int v13), (5, .int v21), (6, .int x6), (7, .int x7), (8, .int x8), (9, .int v22), (10, .int r7), (11, .int r9)]) v22 [1, 2, 3, 4, 5, 6, 7, 0, 8, 9] (oDec_at oX12_together 76 rfl) rfl ev22 (by decide) rfl ?_
                  refine r_goto C (tgt := 63) (oDec_at oX12_together 77 rfl) (by decide) ?_
                  refine r_pick C [0, 1, 2, 3, 4, 5, 6, 7] rfl ?_
                  exact (ih (n - 1) (by omega)) (u17) v13 v21 x6 x7 x8 v22  (oBI_fr fu17 rfl iv0) (by omega) (by omega) (by omega) (by omega) (by omega) (by omega)
              · skip
                refine r_iload C (j := 8) (oDec_at oX12_together 64 rfl) rfl ?_
                refine r_iload C (j := 9) (oDec_at oX12_together 65 rfl) rfl ?_
                refine r_callSi C miX12_apart mlX12_440 (ct_X12_apart l E (t) r7 r9 ) (by decide) rfl rfl rfl (Nat.le_of_ble_eq_true rfl) (oDec_at oX12_together 66 rfl) (fun r24 u23 pu23 fu23 => ?_)
                try dsimp only at pu23
                have hxu23 := oFr_nil fu23; subst hxu23
                have rr24 := n_rng r24
                refine r_istore C (lv' := [(0, .ref (oad E 71)), (3, .int a3), (4, .int v13), (5, .int x5), (6, .int r24), (7, .int x7), (8, .int x8), (9, .int x9), (10, .int r7), (11, .int r9)]) [1, 2, 3, 4, 0, 5, 6, 7, 8, 9] (oDec_at oX12_together 67 rfl) (by decide) rfl ?_
                refine r_aload_n C (j := 0) (oDec_at oX12_together 68 rfl) rfl rfl ?_
                refine r_iload C (j := 5) (oDec_at oX12_together 69 rfl) rfl ?_
                refine r_pc C 140 rfl ?_
                refine r_iload C (j := 6) (oDec_at oX12_together 70 rfl) rfl ?_
                refine r_iload C (j := 7) (oDec_at oX12_together 71 rfl) rfl ?_
                refine r_callVi C oCl12 rfl miX12_brokenBy mlX12_466 (ct_X12_brokenBy l E (t) x7 x8 x9 (by omega) (by omega) (by omega) iv0) (by decide) rfl rfl rfl (Nat.le_of_ble_eq_true rfl) (oDec_at oX12_together 72 rfl) (fun r26 u25 pu25 fu25 => ?_)
                try dsimp only at pu25
                have rr26 := n_rng r26
                refine r_iconst C (oDec_at oX12_together 73 rfl) (v := km1) (by rw [qkm1]; rfl) ?_
                refine r_icmp_eq C 154 (oDec_at oX12_together 74 rfl) (by decide) (fun cd27 => ?_) (fun cd27 => ?_)
                · skip
                  obtain ⟨v28, ev28⟩ : ∃ z : Int32, x9 + Int32.ofInt 1 = z := ⟨_, rfl⟩
                  have hv28 : v28.toInt = x9.toInt + 1 := n_inc ev28 (by decide) (by omega) (by omega)
                  refine r_iinc C (j := 7) (lv' := [(0, .ref (oad E 71)), (3, .int a3), (4, .int v13), (5, .int x5), (6, .int r24), (7, .int x7), (8, .int x8), (9, .int v28), (10, .int r7), (11, .int r9)]) v28 [1, 2, 3, 4, 5, 6, 7, 0, 8, 9] (oDec_at oX12_together 76 rfl) rfl ev28 (by decide) rfl ?_
                  refine r_goto C (tgt := 63) (oDec_at oX12_together 77 rfl) (by decide) ?_
                  refine r_pick C [0, 1, 2, 3, 4, 5, 6, 7] rfl ?_
                  exact (ih (n - 1) (by omega)) (u25) v13 x5 r24 x7 x8 v28  (oBI_fr fu25 rfl iv0) (by omega) (by omega) (by omega) (by omega) (by omega) (by omega)
                · skip
                  obtain ⟨v29, ev29⟩ : ∃ z : Int32, x5 + Int32.ofInt 1 = z := ⟨_, rfl⟩
                  have hv29 : v29.toInt = x5.toInt + 1 := n_inc ev29 (by decide) (by omega) (by omega)
                  refine r_iinc C (j := 3) (lv' := [(0, .ref (oad E 71)), (3, .int a3), (4, .int v13), (5, .int v29), (6, .int r24), (7, .int x7), (8, .int x8), (9, .int x9), (10, .int r7), (11, .int r9)]) v29 [1, 2, 3, 0, 4, 5, 6, 7, 8, 9] (oDec_at oX12_together 75 rfl) rfl ev29 (by decide) rfl ?_
                  obtain ⟨v30, ev30⟩ : ∃ z : Int32, x9 + Int32.ofInt 1 = z := ⟨_, rfl⟩
                  have hv30 : v30.toInt = x9.toInt + 1 := n_inc ev30 (by decide) (by omega) (by omega)
                  refine r_iinc C (j := 7) (lv' := [(0, .ref (oad E 71)), (3, .int a3), (4, .int v13), (5, .int v29), (6, .int r24), (7, .int x7), (8, .int x8), (9, .int v30), (10, .int r7), (11, .int r9)]) v30 [1, 2, 3, 4, 5, 6, 7, 0, 8, 9] (oDec_at oX12_together 76 rfl) rfl ev30 (by decide) rfl ?_
                  refine r_goto C (tgt := 63) (oDec_at oX12_together 77 rfl) (by decide) ?_
                  refine r_pick C [0, 1, 2, 3, 4, 5, 6, 7] rfl ?_
                  exact (ih (n - 1) (by omega)) (u25) v13 v29 r24 x7 x8 v30  (oBI_fr fu25 rfl iv0) (by omega) (by omega) (by omega) (by omega) (by omega) (by omega)
            · skip
              refine r_goto C (tgt := 154) (oDec_at oX12_together 57 rfl) (by decide) ?_
              obtain ⟨v31, ev31⟩ : ∃ z : Int32, x9 + Int32.ofInt 1 = z := ⟨_, rfl⟩
              have hv31 : v31.toInt = x9.toInt + 1 := n_inc ev31 (by decide) (by omega) (by omega)
              refine r_iinc C (j := 7) (lv' := [(0, .ref (oad E 71)), (3, .int a3), (4, .int x4), (5, .int x5), (6, .int x6), (7, .int x7), (8, .int x8), (9, .int v31), (10, .int r7), (11, .int r9)]) v31 [1, 2, 3, 4, 5, 6, 7, 0, 8, 9] (oDec_at oX12_together 76 rfl) rfl ev31 (by decide) rfl ?_
              refine r_goto C (tgt := 63) (oDec_at oX12_together 77 rfl) (by decide) ?_
              refine r_pick C [0, 1, 2, 3, 4, 5, 6, 7] rfl ?_
              exact (ih (n - 1) (by omega)) (t) x4 x5 x6 x7 x8 v31  iv0 (by omega) (by omega) (by omega) (by omega) (by omega) (by omega)
  refine r_aload_n C (j := 0) (oDec_at oX12_together 0 rfl) rfl rfl ?_
  refine r_iload_n C (j := 1) (oDec_at oX12_together 1 rfl) rfl rfl ?_
  refine r_iload_n C (j := 2) (oDec_at oX12_together 2 rfl) rfl rfl ?_
  refine r_callVi C oCl12 rfl miX12_areTwo mlX12_470 (ct_X12_areTwo l E (s) a1 a2 ) (by decide) rfl rfl rfl (Nat.le_of_ble_eq_true rfl) (oDec_at oX12_together 3 rfl) (fun r33 u32 pu32 fu32 => ?_)
  try dsimp only at pu32
  obtain ⟨pu32_0, pu32_1⟩ := pu32
  have hxu32 := oFr_nil fu32; subst hxu32
  have rr33 := n_rng r33
  refine r_if_eq C 21 (oDec_at oX12_together 4 rfl) (by decide) (fun cd34 => ?_) (fun cd34 => ?_)
  · skip
    clear pu32_1
    refine r_iconst C (oDec_at oX12_together 11 rfl) (v := km1) (by rw [qkm1]; rfl) ?_
    exact r_iret C (oDec_at oX12_together 12 rfl) ⟨_, rfl, trivial⟩
  · skip
    replace pu32_1 := pu32_1 (by omega)
    refine r_iload_n C (j := 3) (oDec_at oX12_together 5 rfl) rfl rfl ?_
    obtain ⟨v35, ev35⟩ : ∃ z : Int64, a3.toInt64 = z := ⟨_, rfl⟩
    have hv35 : v35.toInt = a3.toInt := n_i2l ev35
    refine r_i2l C v35 (oDec_at oX12_together 6 rfl) ev35 ?_
    refine r_lconst C (oDec_at oX12_together 7 rfl) (v := j0) (by rw [qj0]; rfl) ?_
    refine r_ldc2 C (v := j2) (by rw [qj2]; exact klX12_417) (oDec_at oX12_together 8 rfl) ?_
    refine r_callSi C miX12_isIn mlX12_216 (ct_X12_isIn l E (s) v35 j0 j2 ) (by decide) rfl rfl rfl (Nat.le_of_ble_eq_true rfl) (oDec_at oX12_together 9 rfl) (fun r37 u36 pu36 fu36 => ?_)
    try dsimp only at pu36
    obtain ⟨pu36_0, pu36_1⟩ := pu36
    have hxu36 := oFr_nil fu36; subst hxu36
    have rr37 := n_rng r37
    refine r_if_ne C 23 (oDec_at oX12_together 10 rfl) (by decide) (fun cd38 => ?_) (fun cd38 => ?_)
    · skip
      refine r_iconst C (oDec_at oX12_together 13 rfl) (v := k0) (by rw [qk0]; rfl) ?_
      refine r_istore C (lv' := [(0, .ref (oad E 71)), (1, .int a1), (2, .int a2), (3, .int a3), (4, .int k0)]) [1, 2, 3, 4, 0] (oDec_at oX12_together 14 rfl) (by decide) rfl ?_
      refine r_iconst C (oDec_at oX12_together 15 rfl) (v := k0) (by rw [qk0]; rfl) ?_
      refine r_istore C (lv' := [(0, .ref (oad E 71)), (1, .int a1), (2, .int a2), (3, .int a3), (4, .int k0), (5, .int k0)]) [1, 2, 3, 4, 5, 0] (oDec_at oX12_together 16 rfl) (by decide) rfl ?_
      refine r_iconst C (oDec_at oX12_together 17 rfl) (v := k0) (by rw [qk0]; rfl) ?_
      refine r_istore C (lv' := [(0, .ref (oad E 71)), (1, .int a1), (2, .int a2), (3, .int a3), (4, .int k0), (5, .int k0), (6, .int k0)]) [1, 2, 3, 4, 5, 6, 0] (oDec_at oX12_together 18 rfl) (by decide) rfl ?_
      refine r_pc C 32 rfl ?_
      refine r_iload_n C (j := 1) (oDec_at oX12_together 19 rfl) rfl rfl ?_
      refine r_iload_n C (j := 2) (oDec_at oX12_together 20 rfl) rfl rfl ?_
      refine r_callSi C miX12_isFirst mlX12_460 (ct_X12_isFirst l E (s) a1 a2 ) (by decide) rfl rfl rfl (Nat.le_of_ble_eq_true rfl) (oDec_at oX12_together 21 rfl) (fun r40 u39 pu39 fu39 => ?_)
      try dsimp only at pu39
      have hxu39 := oFr_nil fu39; subst hxu39
      have rr40 := n_rng r40
      refine r_if_eq C 44 (oDec_at oX12_together 22 rfl) (by decide) (fun cd41 => ?_) (fun cd41 => ?_)
      · skip
        refine r_iload_n C (j := 2) (oDec_at oX12_together 25 rfl) rfl rfl ?_
        refine r_istore C (lv' := [(0, .ref (oad E 71)), (1, .int a1), (2, .int a2), (3, .int a3), (4, .int k0), (5, .int k0), (6, .int k0), (7, .int a2)]) [1, 2, 3, 4, 5, 6, 7, 0] (oDec_at oX12_together 26 rfl) (by decide) rfl ?_
        refine r_iload C (j := 7) (oDec_at oX12_together 27 rfl) rfl ?_
        refine r_iload_n C (j := 1) (oDec_at oX12_together 28 rfl) rfl rfl ?_
        refine r_icmp_ne C 57 (oDec_at oX12_together 29 rfl) (by decide) (fun cd42 => ?_) (fun cd42 => ?_)
        · skip
          refine r_iload_n C (j := 1) (oDec_at oX12_together 32 rfl) rfl rfl ?_
          refine r_istore C (lv' := [(0, .ref (oad E 71)), (1, .int a1), (2, .int a2), (3, .int a3), (4, .int k0), (5, .int k0), (6, .int k0), (7, .int a2), (8, .int a1)]) [1, 2, 3, 4, 5, 6, 7, 8, 0] (oDec_at oX12_together 33 rfl) (by decide) rfl ?_
          refine r_iconst C (oDec_at oX12_together 34 rfl) (v := k0) (by rw [qk0]; rfl) ?_
          refine r_istore C (lv' := [(0, .ref (oad E 71)), (1, .int a1), (2, .int a2), (3, .int a3), (4, .int k0), (5, .int k0), (6, .int k0), (7, .int a2), (8, .int a1), (9, .int k0)]) [1, 2, 3, 4, 5, 6, 7, 8, 9, 0] (oDec_at oX12_together 35 rfl) (by decide) rfl ?_
          refine r_pick C [0, 3, 4, 5, 6, 7, 8, 9] rfl ?_
          exact (key (217 - k0.toInt).toNat) (s) k0 k0 k0 a2 a1 k0  hp0 (by omega) (by omega) (by omega) (by omega) (by omega) (by omega)
        · skip
          refine r_iload_n C (j := 2) (oDec_at oX12_together 30 rfl) rfl rfl ?_
          refine r_goto C (tgt := 58) (oDec_at oX12_together 31 rfl) (by decide) ?_
          refine r_istore C (lv' := [(0, .ref (oad E 71)), (1, .int a1), (2, .int a2), (3, .int a3), (4, .int k0), (5, .int k0), (6, .int k0), (7, .int a2), (8, .int a2)]) [1, 2, 3, 4, 5, 6, 7, 8, 0] (oDec_at oX12_together 33 rfl) (by decide) rfl ?_
          refine r_iconst C (oDec_at oX12_together 34 rfl) (v := k0) (by rw [qk0]; rfl) ?_
          refine r_istore C (lv' := [(0, .ref (oad E 71)), (1, .int a1), (2, .int a2), (3, .int a3), (4, .int k0), (5, .int k0), (6, .int k0), (7, .int a2), (8, .int a2), (9, .int k0)]) [1, 2, 3, 4, 5, 6, 7, 8, 9, 0] (oDec_at oX12_together 35 rfl) (by decide) rfl ?_
          refine r_pick C [0, 3, 4, 5, 6, 7, 8, 9] rfl ?_
          exact (key (217 - k0.toInt).toNat) (s) k0 k0 k0 a2 a2 k0  hp0 (by omega) (by omega) (by omega) (by omega) (by omega) (by omega)
      · skip
        refine r_iload_n C (j := 1) (oDec_at oX12_together 23 rfl) rfl rfl ?_
        refine r_goto C (tgt := 45) (oDec_at oX12_together 24 rfl) (by decide) ?_
        refine r_istore C (lv' := [(0, .ref (oad E 71)), (1, .int a1), (2, .int a2), (3, .int a3), (4, .int k0), (5, .int k0), (6, .int k0), (7, .int a1)]) [1, 2, 3, 4, 5, 6, 7, 0] (oDec_at oX12_together 26 rfl) (by decide) rfl ?_
        refine r_iload C (j := 7) (oDec_at oX12_together 27 rfl) rfl ?_
        refine r_iload_n C (j := 1) (oDec_at oX12_together 28 rfl) rfl rfl ?_
        refine r_icmp_ne C 57 (oDec_at oX12_together 29 rfl) (by decide) (fun cd43 => ?_) (fun cd43 => ?_)
        · skip
          refine r_iload_n C (j := 1) (oDec_at oX12_together 32 rfl) rfl rfl ?_
          refine r_istore C (lv' := [(0, .ref (oad E 71)), (1, .int a1), (2, .int a2), (3, .int a3), (4, .int k0), (5, .int k0), (6, .int k0), (7, .int a1), (8, .int a1)]) [1, 2, 3, 4, 5, 6, 7, 8, 0] (oDec_at oX12_together 33 rfl) (by decide) rfl ?_
          refine r_iconst C (oDec_at oX12_together 34 rfl) (v := k0) (by rw [qk0]; rfl) ?_
          refine r_istore C (lv' := [(0, .ref (oad E 71)), (1, .int a1), (2, .int a2), (3, .int a3), (4, .int k0), (5, .int k0), (6, .int k0), (7, .int a1), (8, .int a1), (9, .int k0)]) [1, 2, 3, 4, 5, 6, 7, 8, 9, 0] (oDec_at oX12_together 35 rfl) (by decide) rfl ?_
          refine r_pick C [0, 3, 4, 5, 6, 7, 8, 9] rfl ?_
          exact (key (217 - k0.toInt).toNat) (s) k0 k0 k0 a1 a1 k0  hp0 (by omega) (by omega) (by omega) (by omega) (by omega) (by omega)
        · skip
          refine r_iload_n C (j := 2) (oDec_at oX12_together 30 rfl) rfl rfl ?_
          refine r_goto C (tgt := 58) (oDec_at oX12_together 31 rfl) (by decide) ?_
          refine r_istore C (lv' := [(0, .ref (oad E 71)), (1, .int a1), (2, .int a2), (3, .int a3), (4, .int k0), (5, .int k0), (6, .int k0), (7, .int a1), (8, .int a2)]) [1, 2, 3, 4, 5, 6, 7, 8, 0] (oDec_at oX12_together 33 rfl) (by decide) rfl ?_
          refine r_iconst C (oDec_at oX12_together 34 rfl) (v := k0) (by rw [qk0]; rfl) ?_
          refine r_istore C (lv' := [(0, .ref (oad E 71)), (1, .int a1), (2, .int a2), (3, .int a3), (4, .int k0), (5, .int k0), (6, .int k0), (7, .int a1), (8, .int a2), (9, .int k0)]) [1, 2, 3, 4, 5, 6, 7, 8, 9, 0] (oDec_at oX12_together 35 rfl) (by decide) rfl ?_
          refine r_pick C [0, 3, 4, 5, 6, 7, 8, 9] rfl ?_
          exact (key (217 - k0.toInt).toNat) (s) k0 k0 k0 a1 a2 k0  hp0 (by omega) (by omega) (by omega) (by omega) (by omega) (by omega)
    · skip
      refine r_iconst C (oDec_at oX12_together 11 rfl) (v := km1) (by rw [qkm1]; rfl) ?_
      exact r_iret C (oDec_at oX12_together 12 rfl) ⟨_, rfl, trivial⟩
set_option maxHeartbeats 4000000 in
set_option maxRecDepth 100000 in
theorem ct_X12_broken (l : Launch) (E : oE) (s : oS) (a1 : Int32) (a2 : Int32) (a3 : Int32)  (hp0 : oBI s) : oMet l 6 yX12_broken cX12_broken 9 (some .int) [(12, 58), (12, 60), (12, 61), (12, 62), (12, 63), (84, 9999), (85, 9999)] E s [.ref (oad E 71), .int a1, .int a2, .int a3] (oPi (fun r u => True)) := by
  refine oMet.of (lv := [(0, .ref (oad E 71)), (1, .int a1), (2, .int a2), (3, .int a3)]) (by decide +kernel) (Nat.le_of_ble_eq_true rfl) rfl (fun J C hT => ?_)
  have C : oC l 6 cX12_broken RX12 9 (some .int) [(12, 58), (12, 60), (12, 61), (12, 62), (12, 63), (84, 9999), (85, 9999)] E s (oPi (fun r u => True)) J := C
  obtain ⟨km1, qkm1⟩ : ∃ z : Int32, z = (-1) := ⟨_, rfl⟩
  have ekm1 : km1.toInt = (-1) := by rw [qkm1]; rfl
  obtain ⟨k0, qk0⟩ : ∃ z : Int32, z = 0 := ⟨_, rfl⟩
  have ek0 : k0.toInt = 0 := by rw [qk0]; rfl
  obtain ⟨k100, qk100⟩ : ∃ z : Int32, z = 100 := ⟨_, rfl⟩
  have ek100 : k100.toInt = 100 := by rw [qk100]; rfl
  have rg1 := n_rng a1
  have rg2 := n_rng a2
  have rg3 := n_rng a3
  have key : ∀ n : Nat, (∀ (t : oS) (x4 : Int32) (x5 : Int32) (x6 : Int32) (x7 : Int32), (oBI t) → (0 ≤ x4.toInt ∧ x4.toInt ≤ 4499) → (0 ≤ x5.toInt ∧ x5.toInt ≤ 4499) → (0 ≤ x7.toInt ∧ x7.toInt ≤ 216) → (0 ≤ x6.toInt ∧ x6.toInt ≤ x7.toInt) → 217 - x7.toInt ≤ (n : Int) → J t 49 [(0, .ref (oad E 71)), (3, .int a3), (4, .int x4), (5, .int x5), (6, .int x6), (7, .int x7)] []) := by
    intro n
    induction n using Nat.strongRecOn with
    | _ n ih =>
      skip
      · intro t x4 x5 x6 x7  iv0 iv1 iv2 iv3 iv4 hmu
        have rx4 := n_rng x4
        have rx5 := n_rng x5
        have rx6 := n_rng x6
        have rx7 := n_rng x7
        refine r_iload C (j := 5) (oDec_at oX12_broken 28 rfl) rfl ?_
        refine r_aload_n C (j := 0) (oDec_at oX12_broken 29 rfl) rfl rfl ?_
        refine r_iload C (j := 2) (oDec_at oX12_broken 30 rfl) rfl ?_
        refine r_callVi C oCl12 rfl miX12_overAt mlX12_392 (ct_X12_overAt l E (t) x4 (by omega)) (by decide) rfl rfl rfl (Nat.le_of_ble_eq_true rfl) (oDec_at oX12_broken 31 rfl) (fun r2 u1 pu1 fu1 => ?_)
        try dsimp only at pu1
        obtain ⟨pu1_0, pu1_1, pu1_2⟩ := pu1
        have hxu1 := oFr_nil fu1; subst hxu1
        have rr2 := n_rng r2
        refine r_icmp_ge C 105 (oDec_at oX12_broken 32 rfl) (by decide) (fun cd3 => ?_) (fun cd3 => ?_)
        · skip
          refine r_iconst C (oDec_at oX12_broken 55 rfl) (v := km1) (by rw [qkm1]; rfl) ?_
          exact r_iret C (oDec_at oX12_broken 56 rfl) ⟨_, rfl, trivial⟩
        · skip
          refine r_aload_n C (j := 0) (oDec_at oX12_broken 33 rfl) rfl rfl ?_
          refine r_iload C (j := 2) (oDec_at oX12_broken 34 rfl) rfl ?_
          refine r_iload C (j := 3) (oDec_at oX12_broken 35 rfl) rfl ?_
          refine r_iload C (j := 5) (oDec_at oX12_broken 36 rfl) rfl ?_
          refine r_callVi C oCl12 rfl miX12_brokenBy mlX12_466 (ct_X12_brokenBy l E (t) x4 x5 x7 (by omega) (by omega) (by omega) iv0) (by decide) rfl rfl rfl (Nat.le_of_ble_eq_true rfl) (oDec_at oX12_broken 37 rfl) (fun r5 u4 pu4 fu4 => ?_)
          try dsimp only at pu4
          have rr5 := n_rng r5
          refine r_istore C (lv' := [(0, .ref (oad E 71)), (3, .int a3), (4, .int x4), (5, .int x5), (6, .int x6), (7, .int x7), (8, .int r5)]) [1, 2, 3, 4, 5, 6, 0] (oDec_at oX12_broken 38 rfl) (by decide) rfl ?_
          refine r_pc C 72 rfl ?_
          refine r_iload C (j := 6) (oDec_at oX12_broken 39 rfl) rfl ?_
          refine r_iconst C (oDec_at oX12_broken 40 rfl) (v := km1) (by rw [qkm1]; rfl) ?_
          refine r_icmp_ne C 81 (oDec_at oX12_broken 41 rfl) (by decide) (fun cd6 => ?_) (fun cd6 => ?_)
          · skip
            refine r_iload C (j := 4) (oDec_at oX12_broken 43 rfl) rfl ?_
            refine r_iload_n C (j := 1) (oDec_at oX12_broken 44 rfl) rfl rfl ?_
            refine r_icmp_ne C 96 (oDec_at oX12_broken 45 rfl) (by decide) (fun cd7 => ?_) (fun cd7 => ?_)
            · skip
              obtain ⟨v8, ev8⟩ : ∃ z : Int32, x6 + Int32.ofInt 1 = z := ⟨_, rfl⟩
              have hv8 : v8.toInt = x6.toInt + 1 := n_inc ev8 (by decide) (by omega) (by omega)
              refine r_iinc C (j := 4) (lv' := [(0, .ref (oad E 71)), (3, .int a3), (4, .int x4), (5, .int x5), (6, .int v8), (7, .int x7), (8, .int r5)]) v8 [1, 2, 3, 4, 0, 5, 6] (oDec_at oX12_broken 52 rfl) rfl ev8 (by decide) rfl ?_
              obtain ⟨v9, ev9⟩ : ∃ z : Int32, x7 + Int32.ofInt 1 = z := ⟨_, rfl⟩
              have hv9 : v9.toInt = x7.toInt + 1 := n_inc ev9 (by decide) (by omega) (by omega)
              refine r_iinc C (j := 5) (lv' := [(0, .ref (oad E 71)), (3, .int a3), (4, .int x4), (5, .int x5), (6, .int v8), (7, .int v9), (8, .int r5)]) v9 [1, 2, 3, 4, 5, 0, 6] (oDec_at oX12_broken 53 rfl) rfl ev9 (by decide) rfl ?_
              refine r_goto C (tgt := 49) (oDec_at oX12_broken 54 rfl) (by decide) ?_
              refine r_pick C [0, 1, 2, 3, 4, 5] rfl ?_
              exact (ih (n - 1) (by omega)) (u4) x4 x5 v8 v9  (oBI_fr fu4 rfl iv0) (by omega) (by omega) (by omega) (by omega) (by omega)
            · skip
              refine r_bipush C (oDec_at oX12_broken 46 rfl) (v := k100) (by rw [qk100]; rfl) ?_
              refine r_iload C (j := 5) (oDec_at oX12_broken 47 rfl) rfl ?_
              obtain ⟨v10, ev10⟩ : ∃ z : Int32, z = k100 * x7 := ⟨_, rfl⟩
              have hv10 : v10.toInt = 100 * x7.toInt := n_mulK' 100 ev10 ek100 (by omega) (by omega)
              refine r_imul C v10 (oDec_at oX12_broken 48 rfl) ev10 ?_
              refine r_iload C (j := 6) (oDec_at oX12_broken 49 rfl) rfl ?_
              obtain ⟨v11, ev11⟩ : ∃ z : Int32, z = v10 + r5 := ⟨_, rfl⟩
              have hv11 : v11.toInt = v10.toInt + r5.toInt := n_add ev11 (by omega) (by omega)
              refine r_iadd C v11 (oDec_at oX12_broken 50 rfl) ev11 ?_
              exact r_iret C (oDec_at oX12_broken 51 rfl) ⟨_, rfl, trivial⟩
          · skip
            refine r_goto C (tgt := 99) (oDec_at oX12_broken 42 rfl) (by decide) ?_
            obtain ⟨v12, ev12⟩ : ∃ z : Int32, x7 + Int32.ofInt 1 = z := ⟨_, rfl⟩
            have hv12 : v12.toInt = x7.toInt + 1 := n_inc ev12 (by decide) (by omega) (by omega)
            refine r_iinc C (j := 5) (lv' := [(0, .ref (oad E 71)), (3, .int a3), (4, .int x4), (5, .int x5), (6, .int x6), (7, .int v12), (8, .int r5)]) v12 [1, 2, 3, 4, 5, 0, 6] (oDec_at oX12_broken 53 rfl) rfl ev12 (by decide) rfl ?_
            refine r_goto C (tgt := 49) (oDec_at oX12_broken 54 rfl) (by decide) ?_
            refine r_pick C [0, 1, 2, 3, 4, 5] rfl ?_
            exact (ih (n - 1) (by omega)) (u4) x4 x5 x6 v12  (oBI_fr fu4 rfl iv0) (by omega) (by omega) (by omega) (by omega) (by omega)
  refine r_aload_n C (j := 0) (oDec_at oX12_broken 0 rfl) rfl rfl ?_
  refine r_iload_n C (j := 1) (oDec_at oX12_broken 1 rfl) rfl rfl ?_
  refine r_iload_n C (j := 2) (oDec_at oX12_broken 2 rfl) rfl rfl ?_
  refine r_callVi C oCl12 rfl miX12_areTwo mlX12_470 (ct_X12_areTwo l E (s) a1 a2 ) (by decide) rfl rfl rfl (Nat.le_of_ble_eq_true rfl) (oDec_at oX12_broken 3 rfl) (fun r14 u13 pu13 fu13 => ?_)
  try dsimp only at pu13
  obtain ⟨pu13_0, pu13_1⟩ := pu13
  have hxu13 := oFr_nil fu13; subst hxu13
  have rr14 := n_rng r14
  refine r_if_eq C 13 (oDec_at oX12_broken 4 rfl) (by decide) (fun cd15 => ?_) (fun cd15 => ?_)
  · skip
    clear pu13_1
    refine r_iconst C (oDec_at oX12_broken 7 rfl) (v := km1) (by rw [qkm1]; rfl) ?_
    exact r_iret C (oDec_at oX12_broken 8 rfl) ⟨_, rfl, trivial⟩
  · skip
    replace pu13_1 := pu13_1 (by omega)
    refine r_iload_n C (j := 3) (oDec_at oX12_broken 5 rfl) rfl rfl ?_
    refine r_if_ge C 15 (oDec_at oX12_broken 6 rfl) (by decide) (fun cd16 => ?_) (fun cd16 => ?_)
    · skip
      refine r_iload_n C (j := 1) (oDec_at oX12_broken 9 rfl) rfl rfl ?_
      refine r_iload_n C (j := 2) (oDec_at oX12_broken 10 rfl) rfl rfl ?_
      refine r_callSi C miX12_isFirst mlX12_460 (ct_X12_isFirst l E (s) a1 a2 ) (by decide) rfl rfl rfl (Nat.le_of_ble_eq_true rfl) (oDec_at oX12_broken 11 rfl) (fun r18 u17 pu17 fu17 => ?_)
      try dsimp only at pu17
      have hxu17 := oFr_nil fu17; subst hxu17
      have rr18 := n_rng r18
      refine r_if_eq C 27 (oDec_at oX12_broken 12 rfl) (by decide) (fun cd19 => ?_) (fun cd19 => ?_)
      · skip
        refine r_iload_n C (j := 2) (oDec_at oX12_broken 15 rfl) rfl rfl ?_
        refine r_istore C (lv' := [(0, .ref (oad E 71)), (1, .int a1), (2, .int a2), (3, .int a3), (4, .int a2)]) [1, 2, 3, 4, 0] (oDec_at oX12_broken 16 rfl) (by decide) rfl ?_
        refine r_iload C (j := 4) (oDec_at oX12_broken 17 rfl) rfl ?_
        refine r_iload_n C (j := 1) (oDec_at oX12_broken 18 rfl) rfl rfl ?_
        refine r_icmp_ne C 40 (oDec_at oX12_broken 19 rfl) (by decide) (fun cd20 => ?_) (fun cd20 => ?_)
        · skip
          refine r_iload_n C (j := 1) (oDec_at oX12_broken 22 rfl) rfl rfl ?_
          refine r_istore C (lv' := [(0, .ref (oad E 71)), (1, .int a1), (2, .int a2), (3, .int a3), (4, .int a2), (5, .int a1)]) [1, 2, 3, 4, 5, 0] (oDec_at oX12_broken 23 rfl) (by decide) rfl ?_
          refine r_iconst C (oDec_at oX12_broken 24 rfl) (v := k0) (by rw [qk0]; rfl) ?_
          refine r_istore C (lv' := [(0, .ref (oad E 71)), (1, .int a1), (2, .int a2), (3, .int a3), (4, .int a2), (5, .int a1), (6, .int k0)]) [1, 2, 3, 4, 5, 6, 0] (oDec_at oX12_broken 25 rfl) (by decide) rfl ?_
          refine r_iconst C (oDec_at oX12_broken 26 rfl) (v := k0) (by rw [qk0]; rfl) ?_
          refine r_istore C (lv' := [(0, .ref (oad E 71)), (1, .int a1), (2, .int a2), (3, .int a3), (4, .int a2), (5, .int a1), (6, .int k0), (7, .int k0)]) [1, 2, 3, 4, 5, 6, 7, 0] (oDec_at oX12_broken 27 rfl) (by decide) rfl ?_
          refine r_pick C [0, 3, 4, 5, 6, 7] rfl ?_
          exact (key (217 - k0.toInt).toNat) (s) a2 a1 k0 k0  hp0 (by omega) (by omega) (by omega) (by omega) (by omega)
        · skip
          refine r_iload_n C (j := 2) (oDec_at oX12_broken 20 rfl) rfl rfl ?_
          refine r_goto C (tgt := 41) (oDec_at oX12_broken 21 rfl) (by decide) ?_
          refine r_istore C (lv' := [(0, .ref (oad E 71)), (1, .int a1), (2, .int a2), (3, .int a3), (4, .int a2), (5, .int a2)]) [1, 2, 3, 4, 5, 0] (oDec_at oX12_broken 23 rfl) (by decide) rfl ?_
          refine r_iconst C (oDec_at oX12_broken 24 rfl) (v := k0) (by rw [qk0]; rfl) ?_
          refine r_istore C (lv' := [(0, .ref (oad E 71)), (1, .int a1), (2, .int a2), (3, .int a3), (4, .int a2), (5, .int a2), (6, .int k0)]) [1, 2, 3, 4, 5, 6, 0] (oDec_at oX12_broken 25 rfl) (by decide) rfl ?_
          refine r_iconst C (oDec_at oX12_broken 26 rfl) (v := k0) (by rw [qk0]; rfl) ?_
          refine r_istore C (lv' := [(0, .ref (oad E 71)), (1, .int a1), (2, .int a2), (3, .int a3), (4, .int a2), (5, .int a2), (6, .int k0), (7, .int k0)]) [1, 2, 3, 4, 5, 6, 7, 0] (oDec_at oX12_broken 27 rfl) (by decide) rfl ?_
          refine r_pick C [0, 3, 4, 5, 6, 7] rfl ?_
          exact (key (217 - k0.toInt).toNat) (s) a2 a2 k0 k0  hp0 (by omega) (by omega) (by omega) (by omega) (by omega)
      · skip
        refine r_iload_n C (j := 1) (oDec_at oX12_broken 13 rfl) rfl rfl ?_
        refine r_goto C (tgt := 28) (oDec_at oX12_broken 14 rfl) (by decide) ?_
        refine r_istore C (lv' := [(0, .ref (oad E 71)), (1, .int a1), (2, .int a2), (3, .int a3), (4, .int a1)]) [1, 2, 3, 4, 0] (oDec_at oX12_broken 16 rfl) (by decide) rfl ?_
        refine r_iload C (j := 4) (oDec_at oX12_broken 17 rfl) rfl ?_
        refine r_iload_n C (j := 1) (oDec_at oX12_broken 18 rfl) rfl rfl ?_
        refine r_icmp_ne C 40 (oDec_at oX12_broken 19 rfl) (by decide) (fun cd21 => ?_) (fun cd21 => ?_)
        · skip
          refine r_iload_n C (j := 1) (oDec_at oX12_broken 22 rfl) rfl rfl ?_
          refine r_istore C (lv' := [(0, .ref (oad E 71)), (1, .int a1), (2, .int a2), (3, .int a3), (4, .int a1), (5, .int a1)]) [1, 2, 3, 4, 5, 0] (oDec_at oX12_broken 23 rfl) (by decide) rfl ?_
          refine r_iconst C (oDec_at oX12_broken 24 rfl) (v := k0) (by rw [qk0]; rfl) ?_
          refine r_istore C (lv' := [(0, .ref (oad E 71)), (1, .int a1), (2, .int a2), (3, .int a3), (4, .int a1), (5, .int a1), (6, .int k0)]) [1, 2, 3, 4, 5, 6, 0] (oDec_at oX12_broken 25 rfl) (by decide) rfl ?_
          refine r_iconst C (oDec_at oX12_broken 26 rfl) (v := k0) (by rw [qk0]; rfl) ?_
          refine r_istore C (lv' := [(0, .ref (oad E 71)), (1, .int a1), (2, .int a2), (3, .int a3), (4, .int a1), (5, .int a1), (6, .int k0), (7, .int k0)]) [1, 2, 3, 4, 5, 6, 7, 0] (oDec_at oX12_broken 27 rfl) (by decide) rfl ?_
          refine r_pick C [0, 3, 4, 5, 6, 7] rfl ?_
          exact (key (217 - k0.toInt).toNat) (s) a1 a1 k0 k0  hp0 (by omega) (by omega) (by omega) (by omega) (by omega)
        · skip
          refine r_iload_n C (j := 2) (oDec_at oX12_broken 20 rfl) rfl rfl ?_
          refine r_goto C (tgt := 41) (oDec_at oX12_broken 21 rfl) (by decide) ?_
          refine r_istore C (lv' := [(0, .ref (oad E 71)), (1, .int a1), (2, .int a2), (3, .int a3), (4, .int a1), (5, .int a2)]) [1, 2, 3, 4, 5, 0] (oDec_at oX12_broken 23 rfl) (by decide) rfl ?_
          refine r_iconst C (oDec_at oX12_broken 24 rfl) (v := k0) (by rw [qk0]; rfl) ?_
          refine r_istore C (lv' := [(0, .ref (oad E 71)), (1, .int a1), (2, .int a2), (3, .int a3), (4, .int a1), (5, .int a2), (6, .int k0)]) [1, 2, 3, 4, 5, 6, 0] (oDec_at oX12_broken 25 rfl) (by decide) rfl ?_
          refine r_iconst C (oDec_at oX12_broken 26 rfl) (v := k0) (by rw [qk0]; rfl) ?_
          refine r_istore C (lv' := [(0, .ref (oad E 71)), (1, .int a1), (2, .int a2), (3, .int a3), (4, .int a1), (5, .int a2), (6, .int k0), (7, .int k0)]) [1, 2, 3, 4, 5, 6, 7, 0] (oDec_at oX12_broken 27 rfl) (by decide) rfl ?_
          refine r_pick C [0, 3, 4, 5, 6, 7] rfl ?_
          exact (key (217 - k0.toInt).toNat) (s) a1 a2 k0 k0  hp0 (by omega) (by omega) (by omega) (by omega) (by omega)
    · skip
      refine r_iconst C (oDec_at oX12_broken 7 rfl) (v := km1) (by rw [qkm1]; rfl) ?_
      exact r_iret C (oDec_at oX12_broken 8 rfl) ⟨_, rfl, trivial⟩
set_option maxHeartbeats 4000000 in
set_option maxRecDepth 100000 in
theorem ct_X12_waysNow (l : Launch) (E : oE) (s : oS)   (hp0 : oBI s) : oMet l 7 yX12_waysNow cX12_waysNow 3 (some .int) [(12, 58), (12, 60), (12, 61), (12, 62), (12, 63), (12, 65), (84, 9999), (85, 9999), (86, 9999)] E s [.ref (oad E 71)] (oPi (fun r u => (0 ≤ r.toInt ∧ r.toInt ≤ 4500))) := by
  refine oMet.of (lv := [(0, .ref (oad E 71))]) (by decide +kernel) (Nat.le_of_ble_eq_true rfl) rfl (fun J C hT => ?_)
  have C : oC l 7 cX12_waysNow RX12 3 (some .int) [(12, 58), (12, 60), (12, 61), (12, 62), (12, 63), (12, 65), (84, 9999), (85, 9999), (86, 9999)] E s (oPi (fun r u => (0 ≤ r.toInt ∧ r.toInt ≤ 4500))) J := C
  obtain ⟨km1, qkm1⟩ : ∃ z : Int32, z = (-1) := ⟨_, rfl⟩
  have ekm1 : km1.toInt = (-1) := by rw [qkm1]; rfl
  obtain ⟨k0, qk0⟩ : ∃ z : Int32, z = 0 := ⟨_, rfl⟩
  have ek0 : k0.toInt = 0 := by rw [qk0]; rfl
  obtain ⟨k84, qk84⟩ : ∃ z : Int32, z = 84 := ⟨_, rfl⟩
  have ek84 : k84.toInt = 84 := by rw [qk84]; rfl
  obtain ⟨k4500, qk4500⟩ : ∃ z : Int32, z = 4500 := ⟨_, rfl⟩
  have ek4500 : k4500.toInt = 4500 := by rw [qk4500]; rfl
  have key : ∀ n : Nat, (∀ (t : oS) (x1 : Int32) (x2 : Int32), (oBI t) → (0 ≤ x2.toInt ∧ x2.toInt ≤ 4500) → (0 ≤ x1.toInt ∧ x1.toInt ≤ x2.toInt) → 4501 - x2.toInt ≤ (n : Int) → J t 4 [(0, .ref (oad E 71)), (1, .int x1), (2, .int x2)] []) := by
    intro n
    induction n using Nat.strongRecOn with
    | _ n ih =>
      skip
      · intro t x1 x2  iv0 iv1 iv2 hmu
        have rx1 := n_rng x1
        have rx2 := n_rng x2
        refine r_iload_n C (j := 2) (oDec_at oX12_waysNow 4 rfl) rfl rfl ?_
        refine r_sipush C (oDec_at oX12_waysNow 5 rfl) (v := k4500) (by rw [qk4500]; rfl) ?_
        refine r_icmp_ge C 57 (oDec_at oX12_waysNow 6 rfl) (by decide) (fun cd1 => ?_) (fun cd1 => ?_)
        · skip
          refine r_iload_n C (j := 1) (oDec_at oX12_waysNow 30 rfl) rfl rfl ?_
          exact r_iret C (oDec_at oX12_waysNow 31 rfl) ⟨_, rfl, by omega⟩
        · skip
          refine r_aload_n C (j := 0) (oDec_at oX12_waysNow 7 rfl) rfl rfl ?_
          refine r_iload_n C (j := 2) (oDec_at oX12_waysNow 8 rfl) rfl rfl ?_
          refine r_callVi C oCl12 rfl miX12_isBound mlX12_476 (ct_X12_isBound l E (t) x2 (by omega)) (by decide) rfl rfl rfl (Nat.le_of_ble_eq_true rfl) (oDec_at oX12_waysNow 9 rfl) (fun r3 u2 pu2 fu2 => ?_)
          try dsimp only at pu2
          have hxu2 := oFr_nil fu2; subst hxu2
          have rr3 := n_rng r3
          refine r_if_eq C 51 (oDec_at oX12_waysNow 10 rfl) (by decide) (fun cd4 => ?_) (fun cd4 => ?_)
          · skip
            obtain ⟨v5, ev5⟩ : ∃ z : Int32, x2 + Int32.ofInt 1 = z := ⟨_, rfl⟩
            have hv5 : v5.toInt = x2.toInt + 1 := n_inc ev5 (by decide) (by omega) (by omega)
            refine r_iinc C (j := 2) (lv' := [(0, .ref (oad E 71)), (1, .int x1), (2, .int v5)]) v5 [1, 2, 0] (oDec_at oX12_waysNow 28 rfl) rfl ev5 (by decide) rfl ?_
            refine r_goto C (tgt := 4) (oDec_at oX12_waysNow 29 rfl) (by decide) ?_
            exact (ih (n - 1) (by omega)) (t) x1 v5  iv0 (by omega) (by omega) (by omega)
          · skip
            refine r_aload_n C (j := 0) (oDec_at oX12_waysNow 11 rfl) rfl rfl ?_
            refine r_iload_n C (j := 2) (oDec_at oX12_waysNow 12 rfl) rfl rfl ?_
            refine r_callVi C oCl12 rfl miX12_canBe mlX12_426 (ct_X12_canBe l E (t) x2 (by omega)) (by decide) rfl rfl rfl (Nat.le_of_ble_eq_true rfl) (oDec_at oX12_waysNow 13 rfl) (fun r7 u6 pu6 fu6 => ?_)
            try dsimp only at pu6
            have hxu6 := oFr_nil fu6; subst hxu6
            have rr7 := n_rng r7
            refine r_if_eq C 51 (oDec_at oX12_waysNow 14 rfl) (by decide) (fun cd8 => ?_) (fun cd8 => ?_)
            · skip
              obtain ⟨v9, ev9⟩ : ∃ z : Int32, x2 + Int32.ofInt 1 = z := ⟨_, rfl⟩
              have hv9 : v9.toInt = x2.toInt + 1 := n_inc ev9 (by decide) (by omega) (by omega)
              refine r_iinc C (j := 2) (lv' := [(0, .ref (oad E 71)), (1, .int x1), (2, .int v9)]) v9 [1, 2, 0] (oDec_at oX12_waysNow 28 rfl) rfl ev9 (by decide) rfl ?_
              refine r_goto C (tgt := 4) (oDec_at oX12_waysNow 29 rfl) (by decide) ?_
              exact (ih (n - 1) (by omega)) (t) x1 v9  iv0 (by omega) (by omega) (by omega)
            · skip
              refine r_aload_n C (j := 0) (oDec_at oX12_waysNow 15 rfl) rfl rfl ?_
              refine r_bipush C (oDec_at oX12_waysNow 16 rfl) (v := k84) (by rw [qk84]; rfl) ?_
              refine r_iload_n C (j := 2) (oDec_at oX12_waysNow 17 rfl) rfl rfl ?_
              refine r_callVi C oCl12 rfl miX12_breachOf mlX12_473 (ct_X12_breachOf l E (t) k84 x2 (by omega) (by omega) iv0) (by decide) rfl rfl rfl (Nat.le_of_ble_eq_true rfl) (oDec_at oX12_waysNow 18 rfl) (fun r11 u10 pu10 fu10 => ?_)
              try dsimp only at pu10
              have rr11 := n_rng r11
              refine r_iconst C (oDec_at oX12_waysNow 19 rfl) (v := km1) (by rw [qkm1]; rfl) ?_
              refine r_icmp_eq C 41 (oDec_at oX12_waysNow 20 rfl) (by decide) (fun cd12 => ?_) (fun cd12 => ?_)
              · skip
                refine r_aload_n C (j := 0) (oDec_at oX12_waysNow 22 rfl) rfl rfl ?_
                refine r_getF (k := 70) (b := 110) C oCl12 rfl (by decide) flX12_145 rfl rfl rfl (oDec_at oX12_waysNow 23 rfl) ?_
                refine r_iload_n C (j := 1) (oDec_at oX12_waysNow 24 rfl) rfl rfl ?_
                refine r_iload_n C (j := 2) (oDec_at oX12_waysNow 25 rfl) rfl rfl ?_
                refine r_iast (n := 4500) (lo := 0) (hi := 4499) C rfl (by decide) rfl rfl ⟨by omega, by omega⟩ (by decide) rfl rfl rfl rfl ⟨by omega, by omega⟩ (oDec_at oX12_waysNow 26 rfl) ?_
                obtain ⟨v13, ev13⟩ : ∃ z : Int32, x1 + Int32.ofInt 1 = z := ⟨_, rfl⟩
                have hv13 : v13.toInt = x1.toInt + 1 := n_inc ev13 (by decide) (by omega) (by omega)
                refine r_iinc C (j := 1) (lv' := [(0, .ref (oad E 71)), (1, .int v13), (2, .int x2)]) v13 [1, 0, 2] (oDec_at oX12_waysNow 27 rfl) rfl ev13 (by decide) rfl ?_
                refine r_pc C 51 rfl ?_
                obtain ⟨v14, ev14⟩ : ∃ z : Int32, x2 + Int32.ofInt 1 = z := ⟨_, rfl⟩
                have hv14 : v14.toInt = x2.toInt + 1 := n_inc ev14 (by decide) (by omega) (by omega)
                refine r_iinc C (j := 2) (lv' := [(0, .ref (oad E 71)), (1, .int v13), (2, .int v14)]) v14 [1, 2, 0] (oDec_at oX12_waysNow 28 rfl) rfl ev14 (by decide) rfl ?_
                refine r_goto C (tgt := 4) (oDec_at oX12_waysNow 29 rfl) (by decide) ?_
                exact (ih (n - 1) (by omega)) ((pI u10 110 x1.toNatClampNeg x2)) v13 v14  (oBI_fr (oFr_oneI (q := 86) (m := 9999) rfl (by rfl)) rfl (oBI_fr fu10 rfl iv0)) (by omega) (by omega) (by omega)
              · skip
                refine r_goto C (tgt := 51) (oDec_at oX12_waysNow 21 rfl) (by decide) ?_
                obtain ⟨v15, ev15⟩ : ∃ z : Int32, x2 + Int32.ofInt 1 = z := ⟨_, rfl⟩
                have hv15 : v15.toInt = x2.toInt + 1 := n_inc ev15 (by decide) (by omega) (by omega)
                refine r_iinc C (j := 2) (lv' := [(0, .ref (oad E 71)), (1, .int x1), (2, .int v15)]) v15 [1, 2, 0] (oDec_at oX12_waysNow 28 rfl) rfl ev15 (by decide) rfl ?_
                refine r_goto C (tgt := 4) (oDec_at oX12_waysNow 29 rfl) (by decide) ?_
                exact (ih (n - 1) (by omega)) (u10) x1 v15  (oBI_fr fu10 rfl iv0) (by omega) (by omega) (by omega)
  refine r_iconst C (oDec_at oX12_waysNow 0 rfl) (v := k0) (by rw [qk0]; rfl) ?_
  refine r_istore_n C (lv' := [(0, .ref (oad E 71)), (1, .int k0)]) [1, 0] (oDec_at oX12_waysNow 1 rfl) rfl (by decide) rfl ?_
  refine r_iconst C (oDec_at oX12_waysNow 2 rfl) (v := k0) (by rw [qk0]; rfl) ?_
  refine r_istore_n C (lv' := [(0, .ref (oad E 71)), (1, .int k0), (2, .int k0)]) [1, 2, 0] (oDec_at oX12_waysNow 3 rfl) rfl (by decide) rfl ?_
  exact (key (4501 - k0.toInt).toNat) (s) k0 k0  hp0 (by omega) (by omega) (by omega)
set_option maxHeartbeats 4000000 in
set_option maxRecDepth 100000 in
theorem ct_X12_knows (l : Launch) (E : oE) (s : oS)   (hp0 : oBI s) : oMet l 8 yX12_knows cX12_knows 5 none [(12, 58), (12, 60), (12, 61), (12, 62), (12, 63), (12, 65), (12, 69), (12, 71), (84, 9999), (85, 9999), (86, 9999), (87, 9999)] E s [.ref (oad E 71)] (oPv (fun u => True)) := by
  refine oMet.of (lv := [(0, .ref (oad E 71))]) (by decide +kernel) (Nat.le_of_ble_eq_true rfl) rfl (fun J C hT => ?_)
  have C : oC l 8 cX12_knows RX12 5 none [(12, 58), (12, 60), (12, 61), (12, 62), (12, 63), (12, 65), (12, 69), (12, 71), (84, 9999), (85, 9999), (86, 9999), (87, 9999)] E s (oPv (fun u => True)) J := C
  obtain ⟨km1, qkm1⟩ : ∃ z : Int32, z = (-1) := ⟨_, rfl⟩
  have ekm1 : km1.toInt = (-1) := by rw [qkm1]; rfl
  obtain ⟨k0, qk0⟩ : ∃ z : Int32, z = 0 := ⟨_, rfl⟩
  have ek0 : k0.toInt = 0 := by rw [qk0]; rfl
  obtain ⟨k1, qk1⟩ : ∃ z : Int32, z = 1 := ⟨_, rfl⟩
  have ek1 : k1.toInt = 1 := by rw [qk1]; rfl
  obtain ⟨k40, qk40⟩ : ∃ z : Int32, z = 40 := ⟨_, rfl⟩
  have ek40 : k40.toInt = 40 := by rw [qk40]; rfl
  have key : ∀ n : Nat, (∀ (t : oS) (x1 : Int32) (x2 : Int32), (oBI t) → (0 ≤ x2.toInt ∧ x2.toInt ≤ 40) → (0 ≤ x1.toInt ∧ x1.toInt ≤ 40) → 100 * (41 - x2.toInt) ≤ (n : Int) → J t 23 [(0, .ref (oad E 71)), (1, .int x1), (2, .int x2)] []) ∧ (∀ (t : oS) (x1 : Int32) (x2 : Int32) (x3 : Int32), (oBI t) → (0 ≤ x2.toInt ∧ x2.toInt ≤ 39) → (0 ≤ x1.toInt ∧ x1.toInt ≤ 40) → (0 ≤ x3.toInt ∧ x3.toInt ≤ x2.toInt) → 100 * (41 - x2.toInt) - 10 - x3.toInt ≤ (n : Int) → J t 30 [(0, .ref (oad E 71)), (1, .int x1), (2, .int x2), (3, .int x3)] []) := by
    intro n
    induction n using Nat.strongRecOn with
    | _ n ih =>
      refine ⟨?_, ?_⟩
      · intro t x1 x2  iv0 iv1 iv2 hmu
        have rx1 := n_rng x1
        have rx2 := n_rng x2
        refine r_iload_n C (j := 2) (oDec_at oX12_knows 13 rfl) rfl rfl ?_
        refine r_iload_n C (j := 1) (oDec_at oX12_knows 14 rfl) rfl rfl ?_
        refine r_icmp_ge C 100 (oDec_at oX12_knows 15 rfl) (by decide) (fun cd1 => ?_) (fun cd1 => ?_)
        · skip
          refine r_aload_n C (j := 0) (oDec_at oX12_knows 59 rfl) rfl rfl ?_
          refine r_iconst C (oDec_at oX12_knows 60 rfl) (v := k1) (by rw [qk1]; rfl) ?_
          refine r_puti (k := 69) (lo := 0) (hi := 1) C oCl12 rfl (by decide) flX12_270 rfl rfl rfl rfl rfl (n_bool (by omega)) (n_fitz (by omega)) rfl ⟨by omega, by omega⟩ (oDec_at oX12_knows 61 rfl) ?_
          exact r_vret C (oDec_at oX12_knows 62 rfl) ⟨rfl, trivial⟩
        · skip
          refine r_iconst C (oDec_at oX12_knows 16 rfl) (v := k0) (by rw [qk0]; rfl) ?_
          refine r_istore_n C (lv' := [(0, .ref (oad E 71)), (1, .int x1), (2, .int x2), (3, .int k0)]) [1, 2, 3, 0] (oDec_at oX12_knows 17 rfl) rfl (by decide) rfl ?_
          exact (ih (n - 1) (by omega)).2 (t) x1 x2 k0  iv0 (by omega) (by omega) (by omega) (by omega)
      · intro t x1 x2 x3  iv0 iv1 iv2 iv3 hmu
        have rx1 := n_rng x1
        have rx2 := n_rng x2
        have rx3 := n_rng x3
        refine r_iload_n C (j := 3) (oDec_at oX12_knows 18 rfl) rfl rfl ?_
        refine r_iload_n C (j := 2) (oDec_at oX12_knows 19 rfl) rfl rfl ?_
        refine r_icmp_ge C 94 (oDec_at oX12_knows 20 rfl) (by decide) (fun cd2 => ?_) (fun cd2 => ?_)
        · skip
          obtain ⟨v3, ev3⟩ : ∃ z : Int32, x2 + Int32.ofInt 1 = z := ⟨_, rfl⟩
          have hv3 : v3.toInt = x2.toInt + 1 := n_inc ev3 (by decide) (by omega) (by omega)
          refine r_iinc C (j := 2) (lv' := [(0, .ref (oad E 71)), (1, .int x1), (2, .int v3), (3, .int x3)]) v3 [1, 2, 0, 3] (oDec_at oX12_knows 57 rfl) rfl ev3 (by decide) rfl ?_
          refine r_goto C (tgt := 23) (oDec_at oX12_knows 58 rfl) (by decide) ?_
          refine r_pick C [0, 1, 2] rfl ?_
          exact (ih (n - 1) (by omega)).1 (t) x1 v3  iv0 (by omega) (by omega) (by omega)
        · skip
          refine r_aload_n C (j := 0) (oDec_at oX12_knows 21 rfl) rfl rfl ?_
          refine r_aload_n C (j := 0) (oDec_at oX12_knows 22 rfl) rfl rfl ?_
          refine r_getF (k := 70) (b := 110) C oCl12 rfl (by decide) flX12_145 rfl rfl rfl (oDec_at oX12_knows 23 rfl) ?_
          refine r_iload_n C (j := 2) (oDec_at oX12_knows 24 rfl) rfl rfl ?_
          obtain ⟨v5, ev5⟩ : ∃ z : Int32, (t).1 110 x2.toNatClampNeg = z := ⟨_, rfl⟩
          have gv5 : (t.1 110 x2.toNatClampNeg).toInt = v5.toInt := congrArg Int32.toInt (ev5)
          refine r_iald (n := 4500) (lo := 0) (hi := 4499) C v5 rfl (by decide) rfl rfl ⟨by omega, by omega⟩ (by decide) ev5 rfl rfl (oDec_at oX12_knows 25 rfl) (fun b4 b4h => ?_)
          refine r_aload_n C (j := 0) (oDec_at oX12_knows 26 rfl) rfl rfl ?_
          refine r_pc C 43 rfl ?_
          refine r_getF (k := 70) (b := 110) C oCl12 rfl (by decide) flX12_145 rfl rfl rfl (oDec_at oX12_knows 27 rfl) ?_
          refine r_iload_n C (j := 3) (oDec_at oX12_knows 28 rfl) rfl rfl ?_
          obtain ⟨v7, ev7⟩ : ∃ z : Int32, (t).1 110 x3.toNatClampNeg = z := ⟨_, rfl⟩
          have gv7 : (t.1 110 x3.toNatClampNeg).toInt = v7.toInt := congrArg Int32.toInt (ev7)
          refine r_iald (n := 4500) (lo := 0) (hi := 4499) C v7 rfl (by decide) rfl rfl ⟨by omega, by omega⟩ (by decide) ev7 rfl rfl (oDec_at oX12_knows 29 rfl) (fun b6 b6h => ?_)
          refine r_callVi C oCl12 rfl miX12_breachOf mlX12_473 (ct_X12_breachOf l E (t) v5 v7 (by omega) (by omega) iv0) (by decide) rfl rfl rfl (Nat.le_of_ble_eq_true rfl) (oDec_at oX12_knows 30 rfl) (fun r9 u8 pu8 fu8 => ?_)
          try dsimp only at pu8
          have rr9 := n_rng r9
          refine r_iconst C (oDec_at oX12_knows 31 rfl) (v := km1) (by rw [qkm1]; rfl) ?_
          refine r_icmp_ne C 59 (oDec_at oX12_knows 32 rfl) (by decide) (fun cd10 => ?_) (fun cd10 => ?_)
          · skip
            refine r_iconst C (oDec_at oX12_knows 35 rfl) (v := k0) (by rw [qk0]; rfl) ?_
            refine r_istore C (lv' := [(0, .ref (oad E 71)), (1, .int x1), (2, .int x2), (3, .int x3), (4, .int k0)]) [1, 2, 3, 4, 0] (oDec_at oX12_knows 36 rfl) (by decide) rfl ?_
            refine r_aload_n C (j := 0) (oDec_at oX12_knows 37 rfl) rfl rfl ?_
            refine r_getF (k := 72) (b := 111) C oCl12 rfl (by decide) flX12_148 rfl rfl rfl (oDec_at oX12_knows 38 rfl) ?_
            refine r_bipush C (oDec_at oX12_knows 39 rfl) (v := k40) (by rw [qk40]; rfl) ?_
            refine r_iload_n C (j := 2) (oDec_at oX12_knows 40 rfl) rfl rfl ?_
            refine r_pc C 69 rfl ?_
            obtain ⟨v11, ev11⟩ : ∃ z : Int32, z = k40 * x2 := ⟨_, rfl⟩
            have hv11 : v11.toInt = 40 * x2.toInt := n_mulK' 40 ev11 ek40 (by omega) (by omega)
            refine r_imul C v11 (oDec_at oX12_knows 41 rfl) ev11 ?_
            refine r_iload_n C (j := 3) (oDec_at oX12_knows 42 rfl) rfl rfl ?_
            obtain ⟨v12, ev12⟩ : ∃ z : Int32, z = v11 + x3 := ⟨_, rfl⟩
            have hv12 : v12.toInt = v11.toInt + x3.toInt := n_add ev12 (by omega) (by omega)
            refine r_iadd C v12 (oDec_at oX12_knows 43 rfl) ev12 ?_
            refine r_iload C (j := 4) (oDec_at oX12_knows 44 rfl) rfl ?_
            refine r_zast (n := 1600) (lo := 0) (hi := 1) C rfl (by decide) rfl rfl ⟨by omega, by omega⟩ (by decide) rfl rfl rfl rfl (n_nar (by omega)) ⟨by omega, by omega⟩ (oDec_at oX12_knows 45 rfl) ?_
            refine r_aload_n C (j := 0) (oDec_at oX12_knows 46 rfl) rfl rfl ?_
            refine r_pc C 76 rfl ?_
            refine r_getF (k := 72) (b := 111) C oCl12 rfl (by decide) flX12_148 rfl rfl rfl (oDec_at oX12_knows 47 rfl) ?_
            refine r_bipush C (oDec_at oX12_knows 48 rfl) (v := k40) (by rw [qk40]; rfl) ?_
            refine r_iload_n C (j := 3) (oDec_at oX12_knows 49 rfl) rfl rfl ?_
            obtain ⟨v13, ev13⟩ : ∃ z : Int32, z = k40 * x3 := ⟨_, rfl⟩
            have hv13 : v13.toInt = 40 * x3.toInt := n_mulK' 40 ev13 ek40 (by omega) (by omega)
            refine r_imul C v13 (oDec_at oX12_knows 50 rfl) ev13 ?_
            refine r_iload_n C (j := 2) (oDec_at oX12_knows 51 rfl) rfl rfl ?_
            obtain ⟨v14, ev14⟩ : ∃ z : Int32, z = v13 + x2 := ⟨_, rfl⟩
            have hv14 : v14.toInt = v13.toInt + x2.toInt := n_add ev14 (by omega) (by omega)
            refine r_iadd C v14 (oDec_at oX12_knows 52 rfl) ev14 ?_
            refine r_pc C 85 rfl ?_
            refine r_iload C (j := 4) (oDec_at oX12_knows 53 rfl) rfl ?_
            refine r_zast (n := 1600) (lo := 0) (hi := 1) C rfl (by decide) rfl rfl ⟨by omega, by omega⟩ (by decide) rfl rfl rfl rfl (n_nar (by omega)) ⟨by omega, by omega⟩ (oDec_at oX12_knows 54 rfl) ?_
            obtain ⟨v15, ev15⟩ : ∃ z : Int32, x3 + Int32.ofInt 1 = z := ⟨_, rfl⟩
            have hv15 : v15.toInt = x3.toInt + 1 := n_inc ev15 (by decide) (by omega) (by omega)
            refine r_iinc C (j := 3) (lv' := [(0, .ref (oad E 71)), (1, .int x1), (2, .int x2), (3, .int v15), (4, .int k0)]) v15 [1, 2, 3, 0, 4] (oDec_at oX12_knows 55 rfl) rfl ev15 (by decide) rfl ?_
            refine r_goto C (tgt := 30) (oDec_at oX12_knows 56 rfl) (by decide) ?_
            refine r_pick C [0, 1, 2, 3] rfl ?_
            exact (ih (n - 1) (by omega)).2 ((pI (pI u8 111 v12.toNatClampNeg k0) 111 v14.toNatClampNeg k0)) x1 x2 v15  (oBI_fr (oFr_oneI (q := 87) (m := 9999) rfl (by rfl)) rfl (oBI_fr (oFr_oneI (q := 87) (m := 9999) rfl (by rfl)) rfl (oBI_fr fu8 rfl iv0))) (by omega) (by omega) (by omega) (by omega)
          · skip
            refine r_iconst C (oDec_at oX12_knows 33 rfl) (v := k1) (by rw [qk1]; rfl) ?_
            refine r_goto C (tgt := 60) (oDec_at oX12_knows 34 rfl) (by decide) ?_
            refine r_istore C (lv' := [(0, .ref (oad E 71)), (1, .int x1), (2, .int x2), (3, .int x3), (4, .int k1)]) [1, 2, 3, 4, 0] (oDec_at oX12_knows 36 rfl) (by decide) rfl ?_
            refine r_aload_n C (j := 0) (oDec_at oX12_knows 37 rfl) rfl rfl ?_
            refine r_getF (k := 72) (b := 111) C oCl12 rfl (by decide) flX12_148 rfl rfl rfl (oDec_at oX12_knows 38 rfl) ?_
            refine r_bipush C (oDec_at oX12_knows 39 rfl) (v := k40) (by rw [qk40]; rfl) ?_
            refine r_iload_n C (j := 2) (oDec_at oX12_knows 40 rfl) rfl rfl ?_
            refine r_pc C 69 rfl ?_
            obtain ⟨v16, ev16⟩ : ∃ z : Int32, z = k40 * x2 := ⟨_, rfl⟩
            have hv16 : v16.toInt = 40 * x2.toInt := n_mulK' 40 ev16 ek40 (by omega) (by omega)
            refine r_imul C v16 (oDec_at oX12_knows 41 rfl) ev16 ?_
            refine r_iload_n C (j := 3) (oDec_at oX12_knows 42 rfl) rfl rfl ?_
            obtain ⟨v17, ev17⟩ : ∃ z : Int32, z = v16 + x3 := ⟨_, rfl⟩
            have hv17 : v17.toInt = v16.toInt + x3.toInt := n_add ev17 (by omega) (by omega)
            refine r_iadd C v17 (oDec_at oX12_knows 43 rfl) ev17 ?_
            refine r_iload C (j := 4) (oDec_at oX12_knows 44 rfl) rfl ?_
            refine r_zast (n := 1600) (lo := 0) (hi := 1) C rfl (by decide) rfl rfl ⟨by omega, by omega⟩ (by decide) rfl rfl rfl rfl (n_nar (by omega)) ⟨by omega, by omega⟩ (oDec_at oX12_knows 45 rfl) ?_
            refine r_aload_n C (j := 0) (oDec_at oX12_knows 46 rfl) rfl rfl ?_
            refine r_pc C 76 rfl ?_
            refine r_getF (k := 72) (b := 111) C oCl12 rfl (by decide) flX12_148 rfl rfl rfl (oDec_at oX12_knows 47 rfl) ?_
            refine r_bipush C (oDec_at oX12_knows 48 rfl) (v := k40) (by rw [qk40]; rfl) ?_
            refine r_iload_n C (j := 3) (oDec_at oX12_knows 49 rfl) rfl rfl ?_
            obtain ⟨v18, ev18⟩ : ∃ z : Int32, z = k40 * x3 := ⟨_, rfl⟩
            have hv18 : v18.toInt = 40 * x3.toInt := n_mulK' 40 ev18 ek40 (by omega) (by omega)
            refine r_imul C v18 (oDec_at oX12_knows 50 rfl) ev18 ?_
            refine r_iload_n C (j := 2) (oDec_at oX12_knows 51 rfl) rfl rfl ?_
            obtain ⟨v19, ev19⟩ : ∃ z : Int32, z = v18 + x2 := ⟨_, rfl⟩
            have hv19 : v19.toInt = v18.toInt + x2.toInt := n_add ev19 (by omega) (by omega)
            refine r_iadd C v19 (oDec_at oX12_knows 52 rfl) ev19 ?_
            refine r_pc C 85 rfl ?_
            refine r_iload C (j := 4) (oDec_at oX12_knows 53 rfl) rfl ?_
            refine r_zast (n := 1600) (lo := 0) (hi := 1) C rfl (by decide) rfl rfl ⟨by omega, by omega⟩ (by decide) rfl rfl rfl rfl (n_nar (by omega)) ⟨by omega, by omega⟩ (oDec_at oX12_knows 54 rfl) ?_
            obtain ⟨v20, ev20⟩ : ∃ z : Int32, x3 + Int32.ofInt 1 = z := ⟨_, rfl⟩
            have hv20 : v20.toInt = x3.toInt + 1 := n_inc ev20 (by decide) (by omega) (by omega)
            refine r_iinc C (j := 3) (lv' := [(0, .ref (oad E 71)), (1, .int x1), (2, .int x2), (3, .int v20), (4, .int k1)]) v20 [1, 2, 3, 0, 4] (oDec_at oX12_knows 55 rfl) rfl ev20 (by decide) rfl ?_
            refine r_goto C (tgt := 30) (oDec_at oX12_knows 56 rfl) (by decide) ?_
            refine r_pick C [0, 1, 2, 3] rfl ?_
            exact (ih (n - 1) (by omega)).2 ((pI (pI u8 111 v17.toNatClampNeg k1) 111 v19.toNatClampNeg k1)) x1 x2 v20  (oBI_fr (oFr_oneI (q := 87) (m := 9999) rfl (by rfl)) rfl (oBI_fr (oFr_oneI (q := 87) (m := 9999) rfl (by rfl)) rfl (oBI_fr fu8 rfl iv0))) (by omega) (by omega) (by omega) (by omega)
  refine r_aload_n C (j := 0) (oDec_at oX12_knows 0 rfl) rfl rfl ?_
  obtain ⟨v21, ev21⟩ : ∃ z : Int32, (s).1 71 69 = z := ⟨_, rfl⟩
  have gv21 : (s.1 71 69).toInt = v21.toInt := congrArg Int32.toInt (ev21)
  refine r_geti (k := 69) (lo := 0) (hi := 1) C v21 oCl12 rfl (by decide) flX12_270 rfl rfl (ev21) rfl rfl (oDec_at oX12_knows 1 rfl) (fun b22 b22h => ?_)
  refine r_if_eq C 8 (oDec_at oX12_knows 2 rfl) (by decide) (fun cd23 => ?_) (fun cd23 => ?_)
  · skip
    refine r_aload_n C (j := 0) (oDec_at oX12_knows 4 rfl) rfl rfl ?_
    refine r_aload_n C (j := 0) (oDec_at oX12_knows 5 rfl) rfl rfl ?_
    refine r_callVi C oCl12 rfl miX12_waysNow mlX12_479 (ct_X12_waysNow l E (s)  hp0) (by decide) rfl rfl rfl (Nat.le_of_ble_eq_true rfl) (oDec_at oX12_knows 6 rfl) (fun r25 u24 pu24 fu24 => ?_)
    try dsimp only at pu24
    have rr25 := n_rng r25
    refine r_puti (k := 71) (lo := 0) (hi := 4500) C oCl12 rfl (by decide) flX12_482 rfl rfl rfl rfl rfl rfl rfl rfl ⟨by omega, by omega⟩ (oDec_at oX12_knows 7 rfl) ?_
    refine r_aload_n C (j := 0) (oDec_at oX12_knows 8 rfl) rfl rfl ?_
    have lk26 : (((pI u24 71 71 r25)).1 71 71).toInt = r25.toInt := congrArg Int32.toInt ((pI_self _ _ _ _))
    refine r_callVi C oCl12 rfl miX12_chosen mlX12_485 (ct_X12_chosen l E ((pI u24 71 71 r25))  ) (by decide) rfl rfl rfl (Nat.le_of_ble_eq_true rfl) (oDec_at oX12_knows 9 rfl) (fun r28 u27 pu27 fu27 => ?_)
    try dsimp only at pu27
    try simp only [lk26] at pu27
    obtain ⟨pu27_0, pu27_1⟩ := pu27
    have hxu27 := oFr_nil fu27; subst hxu27
    have rr28 := n_rng r28
    refine r_pc C 20 rfl ?_
    refine r_istore_n C (lv' := [(0, .ref (oad E 71)), (1, .int r28)]) [1, 0] (oDec_at oX12_knows 10 rfl) rfl (by decide) rfl ?_
    refine r_iconst C (oDec_at oX12_knows 11 rfl) (v := k0) (by rw [qk0]; rfl) ?_
    refine r_istore_n C (lv' := [(0, .ref (oad E 71)), (1, .int r28), (2, .int k0)]) [1, 2, 0] (oDec_at oX12_knows 12 rfl) rfl (by decide) rfl ?_
    exact (key (100 * (41 - k0.toInt)).toNat).1 ((pI u24 71 71 r25)) r28 k0  (oBI_fr (oFr_oneI (q := 12) (m := 71) rfl (by rfl)) rfl (oBI_fr fu24 rfl hp0)) (by omega) (by omega) (by omega)
  · skip
    exact r_vret C (oDec_at oX12_knows 3 rfl) ⟨rfl, trivial⟩
set_option maxHeartbeats 4000000 in
set_option maxRecDepth 100000 in
theorem ct_X12_picks (l : Launch) (E : oE) (s : oS) (a1 : Int32) (a2 : Int32)  (hp0 : oBI s) (hp1 : 2 ≤ a1.toInt ∧ a1.toInt ≤ 4) (hp2 : -1 ≤ a2.toInt) : oMet l 9 yX12_picks cX12_picks 7 (some .int) [(12, 58), (12, 60), (12, 61), (12, 62), (12, 63), (12, 65), (12, 69), (12, 71), (84, 9999), (85, 9999), (86, 9999), (87, 9999), (88, 9999)] E s [.ref (oad E 71), .int a1, .int a2] (oPi (fun r u => ((3 ≤ a1.toInt ∧ 1 ≤ r.toInt) → oPk a1.toInt u) ∧ (oPk a1.toInt s → 3 ≤ a1.toInt → oPk a1.toInt u) ∧ (a1.toInt = 2 → (u.1 112 0).toInt = a2.toInt) ∧ (3 ≤ a1.toInt → 0 ≤ r.toInt))) := by
  refine oMet.of (lv := [(0, .ref (oad E 71)), (1, .int a1), (2, .int a2)]) (by decide +kernel) (Nat.le_of_ble_eq_true rfl) rfl (fun J C hT => ?_)
  have C : oC l 9 cX12_picks RX12 7 (some .int) [(12, 58), (12, 60), (12, 61), (12, 62), (12, 63), (12, 65), (12, 69), (12, 71), (84, 9999), (85, 9999), (86, 9999), (87, 9999), (88, 9999)] E s (oPi (fun r u => ((3 ≤ a1.toInt ∧ 1 ≤ r.toInt) → oPk a1.toInt u) ∧ (oPk a1.toInt s → 3 ≤ a1.toInt → oPk a1.toInt u) ∧ (a1.toInt = 2 → (u.1 112 0).toInt = a2.toInt) ∧ (3 ≤ a1.toInt → 0 ≤ r.toInt))) J := C
  obtain ⟨km1, qkm1⟩ : ∃ z : Int32, z = (-1) := ⟨_, rfl⟩
  have ekm1 : km1.toInt = (-1) := by rw [qkm1]; rfl
  obtain ⟨k0, qk0⟩ : ∃ z : Int32, z = 0 := ⟨_, rfl⟩
  have ek0 : k0.toInt = 0 := by rw [qk0]; rfl
  obtain ⟨k1, qk1⟩ : ∃ z : Int32, z = 1 := ⟨_, rfl⟩
  have ek1 : k1.toInt = 1 := by rw [qk1]; rfl
  obtain ⟨k2, qk2⟩ : ∃ z : Int32, z = 2 := ⟨_, rfl⟩
  have ek2 : k2.toInt = 2 := by rw [qk2]; rfl
  obtain ⟨k3, qk3⟩ : ∃ z : Int32, z = 3 := ⟨_, rfl⟩
  have ek3 : k3.toInt = 3 := by rw [qk3]; rfl
  obtain ⟨k40, qk40⟩ : ∃ z : Int32, z = 40 := ⟨_, rfl⟩
  have ek40 : k40.toInt = 40 := by rw [qk40]; rfl
  have rg1 := n_rng a1
  have rg2 := n_rng a2
  have key : ∀ n : Nat, (∀ (t : oS) (x3 : Int32) (x4 : Int32), (1 ≤ x3.toInt → oPk a1.toInt t) → (oPk a1.toInt s → oPk a1.toInt t) → (3 ≤ a1.toInt ∧ a1.toInt ≤ 4) → (0 ≤ x4.toInt ∧ x4.toInt ≤ 40) → (0 ≤ x3.toInt ∧ x3.toInt ≤ 1600 * x4.toInt) → 3000 * (41 - x4.toInt) ≤ (n : Int) → J t 37 [(0, .ref (oad E 71)), (1, .int a1), (2, .int a2), (3, .int x3), (4, .int x4)] []) ∧ (∀ (t : oS) (x3 : Int32) (x4 : Int32) (x5 : Int32), (1 ≤ x3.toInt → oPk a1.toInt t) → (oPk a1.toInt s → oPk a1.toInt t) → (3 ≤ a1.toInt ∧ a1.toInt ≤ 4) → (0 ≤ x4.toInt ∧ x4.toInt ≤ 39) → (x4.toInt < x5.toInt ∧ x5.toInt ≤ 40) → (0 ≤ x3.toInt ∧ x3.toInt ≤ 1600 * x4.toInt + 40 * x5.toInt) → 3000 * (41 - x4.toInt) - 10 - 60 * x5.toInt ≤ (n : Int) → J t 52 [(0, .ref (oad E 71)), (1, .int a1), (2, .int a2), (3, .int x3), (4, .int x4), (5, .int x5)] []) ∧ (∀ (t : oS) (x3 : Int32) (x4 : Int32) (x5 : Int32) (x6 : Int32), (1 ≤ x3.toInt → oPk a1.toInt t) → (oPk a1.toInt s → oPk a1.toInt t) → (a1.toInt = 4) → (0 ≤ x4.toInt ∧ x4.toInt ≤ 39) → (x4.toInt < x5.toInt ∧ x5.toInt ≤ 39) → (x5.toInt < x6.toInt ∧ x6.toInt ≤ 40) → (0 ≤ x3.toInt ∧ x3.toInt ≤ 1600 * x4.toInt + 40 * x5.toInt + x6.toInt) → 3000 * (41 - x4.toInt) - 10 - 60 * x5.toInt - 5 - x6.toInt ≤ (n : Int) → J t 122 [(0, .ref (oad E 71)), (1, .int a1), (2, .int a2), (3, .int x3), (4, .int x4), (5, .int x5), (6, .int x6)] []) := by
    intro n
    induction n using Nat.strongRecOn with
    | _ n ih =>
      refine ⟨?_, ?_, ?_⟩
      · intro t x3 x4  iv0 iv1 iv2 iv3 iv4 hmu
        have rx3 := n_rng x3
        have rx4 := n_rng x4
        refine r_iload C (j := 4) (oDec_at oX12_picks 24 rfl) rfl ?_
        refine r_aload_n C (j := 0) (oDec_at oX12_picks 25 rfl) rfl rfl ?_
        refine r_callVi C oCl12 rfl miX12_chosen mlX12_485 (ct_X12_chosen l E (t)  ) (by decide) rfl rfl rfl (Nat.le_of_ble_eq_true rfl) (oDec_at oX12_picks 26 rfl) (fun r2 u1 pu1 fu1 => ?_)
        try dsimp only at pu1
        obtain ⟨pu1_0, pu1_1⟩ := pu1
        have hxu1 := oFr_nil fu1; subst hxu1
        have rr2 := n_rng r2
        refine r_icmp_ge C 220 (oDec_at oX12_picks 27 rfl) (by decide) (fun cd3 => ?_) (fun cd3 => ?_)
        · skip
          refine r_iload_n C (j := 3) (oDec_at oX12_picks 124 rfl) rfl rfl ?_
          exact r_iret C (oDec_at oX12_picks 125 rfl) ⟨_, rfl, ⟨by first | (intro h; exfalso; omega) | exact fun _ => (by assumption) | exact fun h => iv0 h.2, by first | exact fun _ _ => (by assumption) | exact fun h _ => iv1 h | (intro h0 h; exfalso; omega), by first | (intro h; exfalso; omega) | exact fun _ => by omega, by omega⟩⟩
        · skip
          refine r_iload C (j := 4) (oDec_at oX12_picks 28 rfl) rfl ?_
          refine r_iconst C (oDec_at oX12_picks 29 rfl) (v := k1) (by rw [qk1]; rfl) ?_
          obtain ⟨v4, ev4⟩ : ∃ z : Int32, z = x4 + k1 := ⟨_, rfl⟩
          have hv4 : v4.toInt = x4.toInt + k1.toInt := n_add ev4 (by omega) (by omega)
          refine r_iadd C v4 (oDec_at oX12_picks 30 rfl) ev4 ?_
          refine r_istore C (lv' := [(0, .ref (oad E 71)), (1, .int a1), (2, .int a2), (3, .int x3), (4, .int x4), (5, .int v4)]) [1, 2, 3, 4, 5, 0] (oDec_at oX12_picks 31 rfl) (by decide) rfl ?_
          exact (ih (n - 1) (by omega)).2.1 (t) x3 x4 v4  (by first | exact fun _ => (by assumption) | exact iv0 | (intro h; exfalso; omega)) (by first | exact fun _ => (by assumption) | exact iv1) (by omega) (by omega) (by omega) (by omega) (by omega)
      · intro t x3 x4 x5  iv0 iv1 iv2 iv3 iv4 iv5 hmu
        have rx3 := n_rng x3
        have rx4 := n_rng x4
        have rx5 := n_rng x5
        refine r_iload C (j := 5) (oDec_at oX12_picks 32 rfl) rfl ?_
        refine r_aload_n C (j := 0) (oDec_at oX12_picks 33 rfl) rfl rfl ?_
        refine r_callVi C oCl12 rfl miX12_chosen mlX12_485 (ct_X12_chosen l E (t)  ) (by decide) rfl rfl rfl (Nat.le_of_ble_eq_true rfl) (oDec_at oX12_picks 34 rfl) (fun r6 u5 pu5 fu5 => ?_)
        try dsimp only at pu5
        obtain ⟨pu5_0, pu5_1⟩ := pu5
        have hxu5 := oFr_nil fu5; subst hxu5
        have rr6 := n_rng r6
        refine r_icmp_ge C 214 (oDec_at oX12_picks 35 rfl) (by decide) (fun cd7 => ?_) (fun cd7 => ?_)
        · skip
          obtain ⟨v8, ev8⟩ : ∃ z : Int32, x4 + Int32.ofInt 1 = z := ⟨_, rfl⟩
          have hv8 : v8.toInt = x4.toInt + 1 := n_inc ev8 (by decide) (by omega) (by omega)
          refine r_iinc C (j := 4) (lv' := [(0, .ref (oad E 71)), (1, .int a1), (2, .int a2), (3, .int x3), (4, .int v8), (5, .int x5)]) v8 [1, 2, 3, 4, 0, 5] (oDec_at oX12_picks 122 rfl) rfl ev8 (by decide) rfl ?_
          refine r_goto C (tgt := 37) (oDec_at oX12_picks 123 rfl) (by decide) ?_
          refine r_pick C [0, 1, 2, 3, 4] rfl ?_
          exact (ih (n - 1) (by omega)).1 (t) x3 v8  (by first | exact fun _ => (by assumption) | exact iv0 | (intro h; exfalso; omega)) (by first | exact fun _ => (by assumption) | exact iv1) (by omega) (by omega) (by omega) (by omega)
        · skip
          refine r_aload_n C (j := 0) (oDec_at oX12_picks 36 rfl) rfl rfl ?_
          refine r_getF (k := 72) (b := 111) C oCl12 rfl (by decide) flX12_148 rfl rfl rfl (oDec_at oX12_picks 37 rfl) ?_
          refine r_bipush C (oDec_at oX12_picks 38 rfl) (v := k40) (by rw [qk40]; rfl) ?_
          refine r_iload C (j := 4) (oDec_at oX12_picks 39 rfl) rfl ?_
          obtain ⟨v9, ev9⟩ : ∃ z : Int32, z = k40 * x4 := ⟨_, rfl⟩
          have hv9 : v9.toInt = 40 * x4.toInt := n_mulK' 40 ev9 ek40 (by omega) (by omega)
          refine r_imul C v9 (oDec_at oX12_picks 40 rfl) ev9 ?_
          refine r_iload C (j := 5) (oDec_at oX12_picks 41 rfl) rfl ?_
          refine r_pc C 72 rfl ?_
          obtain ⟨v10, ev10⟩ : ∃ z : Int32, z = v9 + x5 := ⟨_, rfl⟩
          have hv10 : v10.toInt = v9.toInt + x5.toInt := n_add ev10 (by omega) (by omega)
          refine r_iadd C v10 (oDec_at oX12_picks 42 rfl) ev10 ?_
          obtain ⟨v12, ev12⟩ : ∃ z : Int32, (t).1 111 v10.toNatClampNeg = z := ⟨_, rfl⟩
          have gv12 : (t.1 111 v10.toNatClampNeg).toInt = v12.toInt := congrArg Int32.toInt (ev12)
          refine r_zald (n := 1600) (lo := 0) (hi := 1) C v12 rfl (by decide) rfl rfl ⟨by omega, by omega⟩ (by decide) ev12 rfl rfl (oDec_at oX12_picks 43 rfl) (fun b11 b11h => ?_)
          refine r_if_ne C 80 (oDec_at oX12_picks 44 rfl) (by decide) (fun cd13 => ?_) (fun cd13 => ?_)
          · skip
            refine r_iload_n C (j := 1) (oDec_at oX12_picks 46 rfl) rfl rfl ?_
            refine r_iconst C (oDec_at oX12_picks 47 rfl) (v := k3) (by rw [qk3]; rfl) ?_
            refine r_icmp_ne C 116 (oDec_at oX12_picks 48 rfl) (by decide) (fun cd14 => ?_) (fun cd14 => ?_)
            · skip
              refine r_iload C (j := 5) (oDec_at oX12_picks 68 rfl) rfl ?_
              refine r_iconst C (oDec_at oX12_picks 69 rfl) (v := k1) (by rw [qk1]; rfl) ?_
              obtain ⟨v15, ev15⟩ : ∃ z : Int32, z = x5 + k1 := ⟨_, rfl⟩
              have hv15 : v15.toInt = x5.toInt + k1.toInt := n_add ev15 (by omega) (by omega)
              refine r_iadd C v15 (oDec_at oX12_picks 70 rfl) ev15 ?_
              refine r_istore C (lv' := [(0, .ref (oad E 71)), (1, .int a1), (2, .int a2), (3, .int x3), (4, .int x4), (5, .int x5), (6, .int v15)]) [1, 2, 3, 4, 5, 6, 0] (oDec_at oX12_picks 71 rfl) (by decide) rfl ?_
              exact (ih (n - 1) (by omega)).2.2 (t) x3 x4 x5 v15  (by first | exact fun _ => (by assumption) | exact iv0 | (intro h; exfalso; omega)) (by first | exact fun _ => (by assumption) | exact iv1) (by omega) (by omega) (by omega) (by omega) (by omega) (by omega)
            · skip
              refine r_aload_n C (j := 0) (oDec_at oX12_picks 49 rfl) rfl rfl ?_
              refine r_getF (k := 73) (b := 112) C oCl12 rfl (by decide) flX12_152 rfl rfl rfl (oDec_at oX12_picks 50 rfl) ?_
              refine r_iconst C (oDec_at oX12_picks 51 rfl) (v := k0) (by rw [qk0]; rfl) ?_
              refine r_iload C (j := 4) (oDec_at oX12_picks 52 rfl) rfl ?_
              refine r_iast (n := 3) (lo := (-2147483648)) (hi := 2147483647) C rfl (by decide) rfl rfl ⟨by omega, by omega⟩ (by decide) rfl rfl rfl rfl (n_rng _) (oDec_at oX12_picks 53 rfl) ?_
              refine r_aload_n C (j := 0) (oDec_at oX12_picks 54 rfl) rfl rfl ?_
              refine r_pc C 94 rfl ?_
              refine r_getF (k := 73) (b := 112) C oCl12 rfl (by decide) flX12_152 rfl rfl rfl (oDec_at oX12_picks 55 rfl) ?_
              refine r_iconst C (oDec_at oX12_picks 56 rfl) (v := k1) (by rw [qk1]; rfl) ?_
              refine r_iload C (j := 5) (oDec_at oX12_picks 57 rfl) rfl ?_
              refine r_iast (n := 3) (lo := (-2147483648)) (hi := 2147483647) C rfl (by decide) rfl rfl ⟨by omega, by omega⟩ (by decide) rfl rfl rfl rfl (n_rng _) (oDec_at oX12_picks 58 rfl) ?_
              have hq16 : oPk a1.toInt ((pI (pI t 112 k0.toNatClampNeg x4) 112 k1.toNatClampNeg x5)) := oPk_3 ek0 ek1 (by omega) (by omega) (by omega)
              refine r_iload_n C (j := 3) (oDec_at oX12_picks 59 rfl) rfl rfl ?_
              refine r_iload_n C (j := 2) (oDec_at oX12_picks 60 rfl) rfl rfl ?_
              refine r_pc C 103 rfl ?_
              refine r_icmp_ne C 110 (oDec_at oX12_picks 61 rfl) (by decide) (fun cd17 => ?_) (fun cd17 => ?_)
              · skip
                obtain ⟨v18, ev18⟩ : ∃ z : Int32, x3 + Int32.ofInt 1 = z := ⟨_, rfl⟩
                have hv18 : v18.toInt = x3.toInt + 1 := n_inc ev18 (by decide) (by omega) (by omega)
                refine r_iinc C (j := 3) (lv' := [(0, .ref (oad E 71)), (1, .int a1), (2, .int a2), (3, .int v18), (4, .int x4), (5, .int x5)]) v18 [1, 2, 3, 0, 4, 5] (oDec_at oX12_picks 66 rfl) rfl ev18 (by decide) rfl ?_
                refine r_goto C (tgt := 208) (oDec_at oX12_picks 67 rfl) (by decide) ?_
                obtain ⟨v19, ev19⟩ : ∃ z : Int32, x5 + Int32.ofInt 1 = z := ⟨_, rfl⟩
                have hv19 : v19.toInt = x5.toInt + 1 := n_inc ev19 (by decide) (by omega) (by omega)
                refine r_iinc C (j := 5) (lv' := [(0, .ref (oad E 71)), (1, .int a1), (2, .int a2), (3, .int v18), (4, .int x4), (5, .int v19)]) v19 [1, 2, 3, 4, 5, 0] (oDec_at oX12_picks 120 rfl) rfl ev19 (by decide) rfl ?_
                refine r_goto C (tgt := 52) (oDec_at oX12_picks 121 rfl) (by decide) ?_
                exact (ih (n - 1) (by omega)).2.1 ((pI (pI t 112 k0.toNatClampNeg x4) 112 k1.toNatClampNeg x5)) v18 x4 v19  (by first | exact fun _ => hq16 | exact iv0 | (intro h; exfalso; omega)) (by first | exact fun _ => hq16 | exact iv1) (by omega) (by omega) (by omega) (by omega) (by omega)
              · skip
                refine r_iload_n C (j := 3) (oDec_at oX12_picks 62 rfl) rfl rfl ?_
                refine r_iconst C (oDec_at oX12_picks 63 rfl) (v := k1) (by rw [qk1]; rfl) ?_
                obtain ⟨v20, ev20⟩ : ∃ z : Int32, z = x3 + k1 := ⟨_, rfl⟩
                have hv20 : v20.toInt = x3.toInt + k1.toInt := n_add ev20 (by omega) (by omega)
                refine r_iadd C v20 (oDec_at oX12_picks 64 rfl) ev20 ?_
                exact r_iret C (oDec_at oX12_picks 65 rfl) ⟨_, rfl, ⟨by first | (intro h; exfalso; omega) | exact fun _ => hq16 | exact fun h => iv0 h.2, by first | exact fun _ _ => hq16 | exact fun h _ => iv1 h | (intro h0 h; exfalso; omega), by first | (intro h; exfalso; omega) | exact fun _ => by omega, by omega⟩⟩
          · skip
            refine r_goto C (tgt := 208) (oDec_at oX12_picks 45 rfl) (by decide) ?_
            obtain ⟨v21, ev21⟩ : ∃ z : Int32, x5 + Int32.ofInt 1 = z := ⟨_, rfl⟩
            have hv21 : v21.toInt = x5.toInt + 1 := n_inc ev21 (by decide) (by omega) (by omega)
            refine r_iinc C (j := 5) (lv' := [(0, .ref (oad E 71)), (1, .int a1), (2, .int a2), (3, .int x3), (4, .int x4), (5, .int v21)]) v21 [1, 2, 3, 4, 5, 0] (oDec_at oX12_picks 120 rfl) rfl ev21 (by decide) rfl ?_
            refine r_goto C (tgt := 52) (oDec_at oX12_picks 121 rfl) (by decide) ?_
            exact (ih (n - 1) (by omega)).2.1 (t) x3 x4 v21  (by first | exact fun _ => (by assumption) | exact iv0 | (intro h; exfalso; omega)) (by first | exact fun _ => (by assumption) | exact iv1) (by omega) (by omega) (by omega) (by omega) (by omega)
      · intro t x3 x4 x5 x6  iv0 iv1 iv2 iv3 iv4 iv5 iv6 hmu
        have rx3 := n_rng x3
        have rx4 := n_rng x4
        have rx5 := n_rng x5
        have rx6 := n_rng x6
        refine r_iload C (j := 6) (oDec_at oX12_picks 72 rfl) rfl ?_
        refine r_aload_n C (j := 0) (oDec_at oX12_picks 73 rfl) rfl rfl ?_
        refine r_callVi C oCl12 rfl miX12_chosen mlX12_485 (ct_X12_chosen l E (t)  ) (by decide) rfl rfl rfl (Nat.le_of_ble_eq_true rfl) (oDec_at oX12_picks 74 rfl) (fun r23 u22 pu22 fu22 => ?_)
        try dsimp only at pu22
        obtain ⟨pu22_0, pu22_1⟩ := pu22
        have hxu22 := oFr_nil fu22; subst hxu22
        have rr23 := n_rng r23
        refine r_icmp_ge C 208 (oDec_at oX12_picks 75 rfl) (by decide) (fun cd24 => ?_) (fun cd24 => ?_)
        · skip
          obtain ⟨v25, ev25⟩ : ∃ z : Int32, x5 + Int32.ofInt 1 = z := ⟨_, rfl⟩
          have hv25 : v25.toInt = x5.toInt + 1 := n_inc ev25 (by decide) (by omega) (by omega)
          refine r_iinc C (j := 5) (lv' := [(0, .ref (oad E 71)), (1, .int a1), (2, .int a2), (3, .int x3), (4, .int x4), (5, .int v25), (6, .int x6)]) v25 [1, 2, 3, 4, 5, 0, 6] (oDec_at oX12_picks 120 rfl) rfl ev25 (by decide) rfl ?_
          refine r_goto C (tgt := 52) (oDec_at oX12_picks 121 rfl) (by decide) ?_
          refine r_pick C [0, 1, 2, 3, 4, 5] rfl ?_
          exact (ih (n - 1) (by omega)).2.1 (t) x3 x4 v25  (by first | exact fun _ => (by assumption) | exact iv0 | (intro h; exfalso; omega)) (by first | exact fun _ => (by assumption) | exact iv1) (by omega) (by omega) (by omega) (by omega) (by omega)
        · skip
          refine r_aload_n C (j := 0) (oDec_at oX12_picks 76 rfl) rfl rfl ?_
          refine r_getF (k := 72) (b := 111) C oCl12 rfl (by decide) flX12_148 rfl rfl rfl (oDec_at oX12_picks 77 rfl) ?_
          refine r_bipush C (oDec_at oX12_picks 78 rfl) (v := k40) (by rw [qk40]; rfl) ?_
          refine r_iload C (j := 4) (oDec_at oX12_picks 79 rfl) rfl ?_
          obtain ⟨v26, ev26⟩ : ∃ z : Int32, z = k40 * x4 := ⟨_, rfl⟩
          have hv26 : v26.toInt = 40 * x4.toInt := n_mulK' 40 ev26 ek40 (by omega) (by omega)
          refine r_imul C v26 (oDec_at oX12_picks 80 rfl) ev26 ?_
          refine r_iload C (j := 6) (oDec_at oX12_picks 81 rfl) rfl ?_
          refine r_pc C 142 rfl ?_
          obtain ⟨v27, ev27⟩ : ∃ z : Int32, z = v26 + x6 := ⟨_, rfl⟩
          have hv27 : v27.toInt = v26.toInt + x6.toInt := n_add ev27 (by omega) (by omega)
          refine r_iadd C v27 (oDec_at oX12_picks 82 rfl) ev27 ?_
          obtain ⟨v29, ev29⟩ : ∃ z : Int32, (t).1 111 v27.toNatClampNeg = z := ⟨_, rfl⟩
          have gv29 : (t.1 111 v27.toNatClampNeg).toInt = v29.toInt := congrArg Int32.toInt (ev29)
          refine r_zald (n := 1600) (lo := 0) (hi := 1) C v29 rfl (by decide) rfl rfl ⟨by omega, by omega⟩ (by decide) ev29 rfl rfl (oDec_at oX12_picks 83 rfl) (fun b28 b28h => ?_)
          refine r_if_eq C 202 (oDec_at oX12_picks 84 rfl) (by decide) (fun cd30 => ?_) (fun cd30 => ?_)
          · skip
            obtain ⟨v31, ev31⟩ : ∃ z : Int32, x6 + Int32.ofInt 1 = z := ⟨_, rfl⟩
            have hv31 : v31.toInt = x6.toInt + 1 := n_inc ev31 (by decide) (by omega) (by omega)
            refine r_iinc C (j := 6) (lv' := [(0, .ref (oad E 71)), (1, .int a1), (2, .int a2), (3, .int x3), (4, .int x4), (5, .int x5), (6, .int v31)]) v31 [1, 2, 3, 4, 5, 6, 0] (oDec_at oX12_picks 118 rfl) rfl ev31 (by decide) rfl ?_
            refine r_goto C (tgt := 122) (oDec_at oX12_picks 119 rfl) (by decide) ?_
            exact (ih (n - 1) (by omega)).2.2 (t) x3 x4 x5 v31  (by first | exact fun _ => (by assumption) | exact iv0 | (intro h; exfalso; omega)) (by first | exact fun _ => (by assumption) | exact iv1) (by omega) (by omega) (by omega) (by omega) (by omega) (by omega)
          · skip
            refine r_aload_n C (j := 0) (oDec_at oX12_picks 85 rfl) rfl rfl ?_
            refine r_getF (k := 72) (b := 111) C oCl12 rfl (by decide) flX12_148 rfl rfl rfl (oDec_at oX12_picks 86 rfl) ?_
            refine r_bipush C (oDec_at oX12_picks 87 rfl) (v := k40) (by rw [qk40]; rfl) ?_
            refine r_iload C (j := 5) (oDec_at oX12_picks 88 rfl) rfl ?_
            obtain ⟨v32, ev32⟩ : ∃ z : Int32, z = k40 * x5 := ⟨_, rfl⟩
            have hv32 : v32.toInt = 40 * x5.toInt := n_mulK' 40 ev32 ek40 (by omega) (by omega)
            refine r_imul C v32 (oDec_at oX12_picks 89 rfl) ev32 ?_
            refine r_iload C (j := 6) (oDec_at oX12_picks 90 rfl) rfl ?_
            refine r_pc C 158 rfl ?_
            obtain ⟨v33, ev33⟩ : ∃ z : Int32, z = v32 + x6 := ⟨_, rfl⟩
            have hv33 : v33.toInt = v32.toInt + x6.toInt := n_add ev33 (by omega) (by omega)
            refine r_iadd C v33 (oDec_at oX12_picks 91 rfl) ev33 ?_
            obtain ⟨v35, ev35⟩ : ∃ z : Int32, (t).1 111 v33.toNatClampNeg = z := ⟨_, rfl⟩
            have gv35 : (t.1 111 v33.toNatClampNeg).toInt = v35.toInt := congrArg Int32.toInt (ev35)
            refine r_zald (n := 1600) (lo := 0) (hi := 1) C v35 rfl (by decide) rfl rfl ⟨by omega, by omega⟩ (by decide) ev35 rfl rfl (oDec_at oX12_picks 92 rfl) (fun b34 b34h => ?_)
            refine r_if_ne C 166 (oDec_at oX12_picks 93 rfl) (by decide) (fun cd36 => ?_) (fun cd36 => ?_)
            · skip
              refine r_aload_n C (j := 0) (oDec_at oX12_picks 95 rfl) rfl rfl ?_
              refine r_getF (k := 73) (b := 112) C oCl12 rfl (by decide) flX12_152 rfl rfl rfl (oDec_at oX12_picks 96 rfl) ?_
              refine r_iconst C (oDec_at oX12_picks 97 rfl) (v := k0) (by rw [qk0]; rfl) ?_
              refine r_iload C (j := 4) (oDec_at oX12_picks 98 rfl) rfl ?_
              refine r_iast (n := 3) (lo := (-2147483648)) (hi := 2147483647) C rfl (by decide) rfl rfl ⟨by omega, by omega⟩ (by decide) rfl rfl rfl rfl (n_rng _) (oDec_at oX12_picks 99 rfl) ?_
              refine r_aload_n C (j := 0) (oDec_at oX12_picks 100 rfl) rfl rfl ?_
              refine r_pc C 175 rfl ?_
              refine r_getF (k := 73) (b := 112) C oCl12 rfl (by decide) flX12_152 rfl rfl rfl (oDec_at oX12_picks 101 rfl) ?_
              refine r_iconst C (oDec_at oX12_picks 102 rfl) (v := k1) (by rw [qk1]; rfl) ?_
              refine r_iload C (j := 5) (oDec_at oX12_picks 103 rfl) rfl ?_
              refine r_iast (n := 3) (lo := (-2147483648)) (hi := 2147483647) C rfl (by decide) rfl rfl ⟨by omega, by omega⟩ (by decide) rfl rfl rfl rfl (n_rng _) (oDec_at oX12_picks 104 rfl) ?_
              refine r_aload_n C (j := 0) (oDec_at oX12_picks 105 rfl) rfl rfl ?_
              refine r_getF (k := 73) (b := 112) C oCl12 rfl (by decide) flX12_152 rfl rfl rfl (oDec_at oX12_picks 106 rfl) ?_
              refine r_pc C 186 rfl ?_
              refine r_iconst C (oDec_at oX12_picks 107 rfl) (v := k2) (by rw [qk2]; rfl) ?_
              refine r_iload C (j := 6) (oDec_at oX12_picks 108 rfl) rfl ?_
              refine r_iast (n := 3) (lo := (-2147483648)) (hi := 2147483647) C rfl (by decide) rfl rfl ⟨by omega, by omega⟩ (by decide) rfl rfl rfl rfl (n_rng _) (oDec_at oX12_picks 109 rfl) ?_
              have hq37 : oPk a1.toInt ((pI (pI (pI t 112 k0.toNatClampNeg x4) 112 k1.toNatClampNeg x5) 112 k2.toNatClampNeg x6)) := oPk_4 ek0 ek1 ek2 (by omega) (by omega) (by omega)
              refine r_iload_n C (j := 3) (oDec_at oX12_picks 110 rfl) rfl rfl ?_
              refine r_iload_n C (j := 2) (oDec_at oX12_picks 111 rfl) rfl rfl ?_
              refine r_icmp_ne C 199 (oDec_at oX12_picks 112 rfl) (by decide) (fun cd38 => ?_) (fun cd38 => ?_)
              · skip
                obtain ⟨v39, ev39⟩ : ∃ z : Int32, x3 + Int32.ofInt 1 = z := ⟨_, rfl⟩
                have hv39 : v39.toInt = x3.toInt + 1 := n_inc ev39 (by decide) (by omega) (by omega)
                refine r_iinc C (j := 3) (lv' := [(0, .ref (oad E 71)), (1, .int a1), (2, .int a2), (3, .int v39), (4, .int x4), (5, .int x5), (6, .int x6)]) v39 [1, 2, 3, 0, 4, 5, 6] (oDec_at oX12_picks 117 rfl) rfl ev39 (by decide) rfl ?_
                obtain ⟨v40, ev40⟩ : ∃ z : Int32, x6 + Int32.ofInt 1 = z := ⟨_, rfl⟩
                have hv40 : v40.toInt = x6.toInt + 1 := n_inc ev40 (by decide) (by omega) (by omega)
                refine r_iinc C (j := 6) (lv' := [(0, .ref (oad E 71)), (1, .int a1), (2, .int a2), (3, .int v39), (4, .int x4), (5, .int x5), (6, .int v40)]) v40 [1, 2, 3, 4, 5, 6, 0] (oDec_at oX12_picks 118 rfl) rfl ev40 (by decide) rfl ?_
                refine r_goto C (tgt := 122) (oDec_at oX12_picks 119 rfl) (by decide) ?_
                exact (ih (n - 1) (by omega)).2.2 ((pI (pI (pI t 112 k0.toNatClampNeg x4) 112 k1.toNatClampNeg x5) 112 k2.toNatClampNeg x6)) v39 x4 x5 v40  (by first | exact fun _ => hq37 | exact iv0 | (intro h; exfalso; omega)) (by first | exact fun _ => hq37 | exact iv1) (by omega) (by omega) (by omega) (by omega) (by omega) (by omega)
              · skip
                refine r_iload_n C (j := 3) (oDec_at oX12_picks 113 rfl) rfl rfl ?_
                refine r_iconst C (oDec_at oX12_picks 114 rfl) (v := k1) (by rw [qk1]; rfl) ?_
                obtain ⟨v41, ev41⟩ : ∃ z : Int32, z = x3 + k1 := ⟨_, rfl⟩
                have hv41 : v41.toInt = x3.toInt + k1.toInt := n_add ev41 (by omega) (by omega)
                refine r_iadd C v41 (oDec_at oX12_picks 115 rfl) ev41 ?_
                exact r_iret C (oDec_at oX12_picks 116 rfl) ⟨_, rfl, ⟨by first | (intro h; exfalso; omega) | exact fun _ => hq37 | exact fun h => iv0 h.2, by first | exact fun _ _ => hq37 | exact fun h _ => iv1 h | (intro h0 h; exfalso; omega), by first | (intro h; exfalso; omega) | exact fun _ => by omega, by omega⟩⟩
            · skip
              refine r_goto C (tgt := 202) (oDec_at oX12_picks 94 rfl) (by decide) ?_
              obtain ⟨v42, ev42⟩ : ∃ z : Int32, x6 + Int32.ofInt 1 = z := ⟨_, rfl⟩
              have hv42 : v42.toInt = x6.toInt + 1 := n_inc ev42 (by decide) (by omega) (by omega)
              refine r_iinc C (j := 6) (lv' := [(0, .ref (oad E 71)), (1, .int a1), (2, .int a2), (3, .int x3), (4, .int x4), (5, .int x5), (6, .int v42)]) v42 [1, 2, 3, 4, 5, 6, 0] (oDec_at oX12_picks 118 rfl) rfl ev42 (by decide) rfl ?_
              refine r_goto C (tgt := 122) (oDec_at oX12_picks 119 rfl) (by decide) ?_
              exact (ih (n - 1) (by omega)).2.2 (t) x3 x4 x5 v42  (by first | exact fun _ => (by assumption) | exact iv0 | (intro h; exfalso; omega)) (by first | exact fun _ => (by assumption) | exact iv1) (by omega) (by omega) (by omega) (by omega) (by omega) (by omega)
  refine r_aload_n C (j := 0) (oDec_at oX12_picks 0 rfl) rfl rfl ?_
  refine r_callVv C oCl12 rfl miX12_knows mlX12_490 (ct_X12_knows l E (s)  hp0) (by decide) rfl rfl rfl (Nat.le_of_ble_eq_true rfl) (oDec_at oX12_picks 1 rfl) (fun u43 pu43 fu43 => ?_)
  try dsimp only at pu43
  refine r_iload_n C (j := 1) (oDec_at oX12_picks 2 rfl) rfl rfl ?_
  refine r_iconst C (oDec_at oX12_picks 3 rfl) (v := k2) (by rw [qk2]; rfl) ?_
  refine r_icmp_ne C 32 (oDec_at oX12_picks 4 rfl) (by decide) (fun cd45 => ?_) (fun cd45 => ?_)
  · skip
    refine r_iconst C (oDec_at oX12_picks 20 rfl) (v := k0) (by rw [qk0]; rfl) ?_
    refine r_istore_n C (lv' := [(0, .ref (oad E 71)), (1, .int a1), (2, .int a2), (3, .int k0)]) [1, 2, 3, 0] (oDec_at oX12_picks 21 rfl) rfl (by decide) rfl ?_
    refine r_iconst C (oDec_at oX12_picks 22 rfl) (v := k0) (by rw [qk0]; rfl) ?_
    refine r_istore C (lv' := [(0, .ref (oad E 71)), (1, .int a1), (2, .int a2), (3, .int k0), (4, .int k0)]) [1, 2, 3, 4, 0] (oDec_at oX12_picks 23 rfl) (by decide) rfl ?_
    exact (key (3000 * (41 - k0.toInt)).toNat).1 (u43) k0 k0  (by first | exact fun _ => (by assumption) | (intro h; exfalso; omega)) (by first | exact fun _ => (by assumption) | exact fun h => oPk_fr fu43 rfl h) (by omega) (by omega) (by omega) (by omega)
  · skip
    refine r_aload_n C (j := 0) (oDec_at oX12_picks 5 rfl) rfl rfl ?_
    refine r_getF (k := 73) (b := 112) C oCl12 rfl (by decide) flX12_152 rfl rfl rfl (oDec_at oX12_picks 6 rfl) ?_
    refine r_iconst C (oDec_at oX12_picks 7 rfl) (v := k0) (by rw [qk0]; rfl) ?_
    refine r_iload_n C (j := 2) (oDec_at oX12_picks 8 rfl) rfl rfl ?_
    refine r_iast (n := 3) (lo := (-2147483648)) (hi := 2147483647) C rfl (by decide) rfl rfl ⟨by omega, by omega⟩ (by decide) rfl rfl rfl rfl (n_rng _) (oDec_at oX12_picks 9 rfl) ?_
    have hp0 := congrArg Int32.toInt (show ((pI u43 112 k0.toNatClampNeg a2)).1 112 0 = a2 from by rw [show (0 : Nat) = k0.toNatClampNeg by have := n_nat k0; omega]; exact pI_self _ _ _ _)
    refine r_iload_n C (j := 2) (oDec_at oX12_picks 10 rfl) rfl rfl ?_
    refine r_pc C 17 rfl ?_
    refine r_iconst C (oDec_at oX12_picks 11 rfl) (v := km1) (by rw [qkm1]; rfl) ?_
    refine r_icmp_ne C 28 (oDec_at oX12_picks 12 rfl) (by decide) (fun cd46 => ?_) (fun cd46 => ?_)
    · skip
      refine r_iload_n C (j := 2) (oDec_at oX12_picks 16 rfl) rfl rfl ?_
      refine r_iconst C (oDec_at oX12_picks 17 rfl) (v := k1) (by rw [qk1]; rfl) ?_
      obtain ⟨v47, ev47⟩ : ∃ z : Int32, z = a2 + k1 := ⟨_, rfl⟩
      have rv47 := n_rng v47
      refine r_iadd C v47 (oDec_at oX12_picks 18 rfl) ev47 ?_
      exact r_iret C (oDec_at oX12_picks 19 rfl) ⟨_, rfl, ⟨by first | (intro h; exfalso; omega) | exact fun _ => (by assumption), by first | exact fun _ _ => (by assumption) | (intro h0 h; exfalso; omega), by first | (intro h; exfalso; omega) | exact fun _ => by omega, by omega⟩⟩
    · skip
      refine r_aload_n C (j := 0) (oDec_at oX12_picks 13 rfl) rfl rfl ?_
      obtain ⟨v48, ev48⟩ : ∃ z : Int32, ((pI u43 112 k0.toNatClampNeg a2)).1 71 71 = z := ⟨_, rfl⟩
      have gv48 : (u43.1 71 71).toInt = v48.toInt := congrArg Int32.toInt (((pI_ne (a := 71) (b := 71) (c := 112) _ _ (Or.inl (by decide)))).symm.trans ev48)
      have ggv48 : (((pI u43 112 k0.toNatClampNeg a2)).1 71 71).toInt = v48.toInt := congrArg Int32.toInt ev48
      refine r_geti (k := 71) (lo := 0) (hi := 4500) C v48 oCl12 rfl (by decide) flX12_482 rfl rfl (ev48) rfl rfl (oDec_at oX12_picks 14 rfl) (fun b49 b49h => ?_)
      refine r_goto C (tgt := 31) (oDec_at oX12_picks 15 rfl) (by decide) ?_
      exact r_iret C (oDec_at oX12_picks 19 rfl) ⟨_, rfl, ⟨by first | (intro h; exfalso; omega) | exact fun _ => (by assumption), by first | exact fun _ _ => (by assumption) | (intro h0 h; exfalso; omega), by first | (intro h; exfalso; omega) | exact fun _ => by omega, by omega⟩⟩
set_option maxHeartbeats 4000000 in
set_option maxRecDepth 100000 in
theorem ct_X12_ways (l : Launch) (E : oE) (s : oS) (a1 : Int32)  (hp0 : oBI s) : oMet l 10 yX12_ways cX12_ways 2 (some .int) [(12, 58), (12, 60), (12, 61), (12, 62), (12, 63), (12, 65), (12, 69), (12, 71), (84, 9999), (85, 9999), (86, 9999), (87, 9999), (88, 9999)] E s [.ref (oad E 71), .int a1] (oPi (fun r u => True)) := by
  refine oMet.of (lv := [(0, .ref (oad E 71)), (1, .int a1)]) (by decide +kernel) (Nat.le_of_ble_eq_true rfl) rfl (fun J C hT => ?_)
  have C : oC l 10 cX12_ways RX12 2 (some .int) [(12, 58), (12, 60), (12, 61), (12, 62), (12, 63), (12, 65), (12, 69), (12, 71), (84, 9999), (85, 9999), (86, 9999), (87, 9999), (88, 9999)] E s (oPi (fun r u => True)) J := C
  obtain ⟨km1, qkm1⟩ : ∃ z : Int32, z = (-1) := ⟨_, rfl⟩
  have ekm1 : km1.toInt = (-1) := by rw [qkm1]; rfl
  obtain ⟨j2, qj2⟩ : ∃ z : Int64, z = 2 := ⟨_, rfl⟩
  have ej2 : j2.toInt = 2 := by rw [qj2]; rfl
  obtain ⟨j4, qj4⟩ : ∃ z : Int64, z = 4 := ⟨_, rfl⟩
  have ej4 : j4.toInt = 4 := by rw [qj4]; rfl
  have rg1 := n_rng a1
  refine r_iload_n C (j := 1) (oDec_at oX12_ways 0 rfl) rfl rfl ?_
  obtain ⟨v1, ev1⟩ : ∃ z : Int64, a1.toInt64 = z := ⟨_, rfl⟩
  have hv1 : v1.toInt = a1.toInt := n_i2l ev1
  refine r_i2l C v1 (oDec_at oX12_ways 1 rfl) ev1 ?_
  refine r_ldc2 C (v := j2) (by rw [qj2]; exact klX12_417) (oDec_at oX12_ways 2 rfl) ?_
  refine r_ldc2 C (v := j4) (by rw [qj4]; exact klX12_493) (oDec_at oX12_ways 3 rfl) ?_
  refine r_callSi C miX12_isIn mlX12_216 (ct_X12_isIn l E (s) v1 j2 j4 ) (by decide) rfl rfl rfl (Nat.le_of_ble_eq_true rfl) (oDec_at oX12_ways 4 rfl) (fun r3 u2 pu2 fu2 => ?_)
  try dsimp only at pu2
  obtain ⟨pu2_0, pu2_1⟩ := pu2
  have hxu2 := oFr_nil fu2; subst hxu2
  have rr3 := n_rng r3
  refine r_if_eq C 23 (oDec_at oX12_ways 5 rfl) (by decide) (fun cd4 => ?_) (fun cd4 => ?_)
  · skip
    refine r_iconst C (oDec_at oX12_ways 11 rfl) (v := km1) (by rw [qkm1]; rfl) ?_
    exact r_iret C (oDec_at oX12_ways 12 rfl) ⟨_, rfl, trivial⟩
  · skip
    refine r_aload_n C (j := 0) (oDec_at oX12_ways 6 rfl) rfl rfl ?_
    refine r_iload_n C (j := 1) (oDec_at oX12_ways 7 rfl) rfl rfl ?_
    refine r_iconst C (oDec_at oX12_ways 8 rfl) (v := km1) (by rw [qkm1]; rfl) ?_
    refine r_callVi C oCl12 rfl miX12_picks mlX12_495 (ct_X12_picks l E (s) a1 km1 hp0 (by omega) (by omega)) (by decide) rfl rfl rfl (Nat.le_of_ble_eq_true rfl) (oDec_at oX12_ways 9 rfl) (fun r6 u5 pu5 fu5 => ?_)
    try dsimp only at pu5
    obtain ⟨pu5_0, pu5_1, pu5_2, pu5_3⟩ := pu5
    have rr6 := n_rng r6
    refine r_goto C (tgt := 24) (oDec_at oX12_ways 10 rfl) (by decide) ?_
    exact r_iret C (oDec_at oX12_ways 12 rfl) ⟨_, rfl, trivial⟩
set_option maxHeartbeats 4000000 in
set_option maxRecDepth 100000 in
theorem ct_X12_isWayOf (l : Launch) (E : oE) (s : oS) (a1 : Int32) (a2 : Int32)  (hp0 : oBI s) : oMet l 10 yX12_isWayOf cX12_isWayOf 3 (some .boolean) [(12, 58), (12, 60), (12, 61), (12, 62), (12, 63), (12, 65), (12, 69), (12, 71), (84, 9999), (85, 9999), (86, 9999), (87, 9999), (88, 9999)] E s [.ref (oad E 71), .int a1, .int a2] (oPi (fun r u => (0 ≤ r.toInt ∧ r.toInt ≤ 1) ∧ (r.toInt = 1 → (2 ≤ a1.toInt ∧ a1.toInt ≤ 4 ∧ 0 ≤ a2.toInt ∧ (a1.toInt = 2 → a2.toInt < (u.1 71 71).toInt ∧ a2.toInt < 4500))) ∧ (r.toInt = 1 → 3 ≤ a1.toInt → oPk a1.toInt u))) := by
  refine oMet.of (lv := [(0, .ref (oad E 71)), (1, .int a1), (2, .int a2)]) (by decide +kernel) (Nat.le_of_ble_eq_true rfl) rfl (fun J C hT => ?_)
  have C : oC l 10 cX12_isWayOf RX12 3 (some .boolean) [(12, 58), (12, 60), (12, 61), (12, 62), (12, 63), (12, 65), (12, 69), (12, 71), (84, 9999), (85, 9999), (86, 9999), (87, 9999), (88, 9999)] E s (oPi (fun r u => (0 ≤ r.toInt ∧ r.toInt ≤ 1) ∧ (r.toInt = 1 → (2 ≤ a1.toInt ∧ a1.toInt ≤ 4 ∧ 0 ≤ a2.toInt ∧ (a1.toInt = 2 → a2.toInt < (u.1 71 71).toInt ∧ a2.toInt < 4500))) ∧ (r.toInt = 1 → 3 ≤ a1.toInt → oPk a1.toInt u))) J := C
  obtain ⟨k0, qk0⟩ : ∃ z : Int32, z = 0 := ⟨_, rfl⟩
  have ek0 : k0.toInt = 0 := by rw [qk0]; rfl
  obtain ⟨k1, qk1⟩ : ∃ z : Int32, z = 1 := ⟨_, rfl⟩
  have ek1 : k1.toInt = 1 := by rw [qk1]; rfl
  obtain ⟨k2, qk2⟩ : ∃ z : Int32, z = 2 := ⟨_, rfl⟩
  have ek2 : k2.toInt = 2 := by rw [qk2]; rfl
  obtain ⟨j2, qj2⟩ : ∃ z : Int64, z = 2 := ⟨_, rfl⟩
  have ej2 : j2.toInt = 2 := by rw [qj2]; rfl
  obtain ⟨j4, qj4⟩ : ∃ z : Int64, z = 4 := ⟨_, rfl⟩
  have ej4 : j4.toInt = 4 := by rw [qj4]; rfl
  have rg1 := n_rng a1
  have rg2 := n_rng a2
  refine r_iload_n C (j := 1) (oDec_at oX12_isWayOf 0 rfl) rfl rfl ?_
  obtain ⟨v1, ev1⟩ : ∃ z : Int64, a1.toInt64 = z := ⟨_, rfl⟩
  have hv1 : v1.toInt = a1.toInt := n_i2l ev1
  refine r_i2l C v1 (oDec_at oX12_isWayOf 1 rfl) ev1 ?_
  refine r_ldc2 C (v := j2) (by rw [qj2]; exact klX12_417) (oDec_at oX12_isWayOf 2 rfl) ?_
  refine r_ldc2 C (v := j4) (by rw [qj4]; exact klX12_493) (oDec_at oX12_isWayOf 3 rfl) ?_
  refine r_callSi C miX12_isIn mlX12_216 (ct_X12_isIn l E (s) v1 j2 j4 ) (by decide) rfl rfl rfl (Nat.le_of_ble_eq_true rfl) (oDec_at oX12_isWayOf 4 rfl) (fun r3 u2 pu2 fu2 => ?_)
  try dsimp only at pu2
  obtain ⟨pu2_0, pu2_1⟩ := pu2
  have hxu2 := oFr_nil fu2; subst hxu2
  have rr3 := n_rng r3
  refine r_if_eq C 18 (oDec_at oX12_isWayOf 5 rfl) (by decide) (fun cd4 => ?_) (fun cd4 => ?_)
  · skip
    refine r_iconst C (oDec_at oX12_isWayOf 8 rfl) (v := k0) (by rw [qk0]; rfl) ?_
    exact r_zret C (n_bool (by omega)) (oDec_at oX12_isWayOf 9 rfl) ⟨_, rfl, ⟨by omega, by omega, by first | (intro h; exfalso; omega) | (intro h h3; exfalso; omega) | exact fun _ _ => pu2_0 (by omega)⟩⟩
  · skip
    refine r_iload_n C (j := 2) (oDec_at oX12_isWayOf 6 rfl) rfl rfl ?_
    refine r_if_ge C 20 (oDec_at oX12_isWayOf 7 rfl) (by decide) (fun cd5 => ?_) (fun cd5 => ?_)
    · skip
      refine r_aload_n C (j := 0) (oDec_at oX12_isWayOf 10 rfl) rfl rfl ?_
      refine r_callVv C oCl12 rfl miX12_knows mlX12_490 (ct_X12_knows l E (s)  hp0) (by decide) rfl rfl rfl (Nat.le_of_ble_eq_true rfl) (oDec_at oX12_isWayOf 11 rfl) (fun u6 pu6 fu6 => ?_)
      try dsimp only at pu6
      refine r_iload_n C (j := 1) (oDec_at oX12_isWayOf 12 rfl) rfl rfl ?_
      refine r_iconst C (oDec_at oX12_isWayOf 13 rfl) (v := k2) (by rw [qk2]; rfl) ?_
      refine r_icmp_ne C 45 (oDec_at oX12_isWayOf 14 rfl) (by decide) (fun cd8 => ?_) (fun cd8 => ?_)
      · skip
        refine r_aload_n C (j := 0) (oDec_at oX12_isWayOf 23 rfl) rfl rfl ?_
        refine r_iload_n C (j := 1) (oDec_at oX12_isWayOf 24 rfl) rfl rfl ?_
        refine r_iload_n C (j := 2) (oDec_at oX12_isWayOf 25 rfl) rfl rfl ?_
        refine r_callVi C oCl12 rfl miX12_picks mlX12_495 (ct_X12_picks l E (u6) a1 a2 (oBI_fr fu6 rfl hp0) (by omega) (by omega)) (by decide) rfl rfl rfl (Nat.le_of_ble_eq_true rfl) (oDec_at oX12_isWayOf 26 rfl) (fun r10 u9 pu9 fu9 => ?_)
        try dsimp only at pu9
        obtain ⟨pu9_0, pu9_1, pu9_2, pu9_3⟩ := pu9
        have rr10 := n_rng r10
        refine r_iload_n C (j := 2) (oDec_at oX12_isWayOf 27 rfl) rfl rfl ?_
        refine r_iconst C (oDec_at oX12_isWayOf 28 rfl) (v := k1) (by rw [qk1]; rfl) ?_
        refine r_pc C 53 rfl ?_
        obtain ⟨v11, ev11⟩ : ∃ z : Int32, z = a2 + k1 := ⟨_, rfl⟩
        have rv11 := n_rng v11
        have hw53 := n_inc1 ev11 ek1
        refine r_iadd C v11 (oDec_at oX12_isWayOf 29 rfl) ev11 ?_
        refine r_icmp_ne C 61 (oDec_at oX12_isWayOf 30 rfl) (by decide) (fun cd12 => ?_) (fun cd12 => ?_)
        · skip
          refine r_iconst C (oDec_at oX12_isWayOf 33 rfl) (v := k0) (by rw [qk0]; rfl) ?_
          exact r_zret C (n_bool (by omega)) (oDec_at oX12_isWayOf 34 rfl) ⟨_, rfl, ⟨by omega, by omega, by first | (intro h; exfalso; omega) | (intro h h3; exfalso; omega) | exact fun _ _ => pu9_0 (by omega)⟩⟩
        · skip
          refine r_iconst C (oDec_at oX12_isWayOf 31 rfl) (v := k1) (by rw [qk1]; rfl) ?_
          refine r_goto C (tgt := 62) (oDec_at oX12_isWayOf 32 rfl) (by decide) ?_
          exact r_zret C (n_bool (by omega)) (oDec_at oX12_isWayOf 34 rfl) ⟨_, rfl, ⟨by omega, by omega, by first | (intro h; exfalso; omega) | (intro h h3; exfalso; omega) | exact fun _ _ => pu9_0 (by omega)⟩⟩
      · skip
        refine r_iload_n C (j := 2) (oDec_at oX12_isWayOf 15 rfl) rfl rfl ?_
        refine r_aload_n C (j := 0) (oDec_at oX12_isWayOf 16 rfl) rfl rfl ?_
        obtain ⟨v13, ev13⟩ : ∃ z : Int32, (u6).1 71 71 = z := ⟨_, rfl⟩
        have gv13 : (u6.1 71 71).toInt = v13.toInt := congrArg Int32.toInt (ev13)
        refine r_geti (k := 71) (lo := 0) (hi := 4500) C v13 oCl12 rfl (by decide) flX12_482 rfl rfl (ev13) rfl rfl (oDec_at oX12_isWayOf 17 rfl) (fun b14 b14h => ?_)
        refine r_icmp_ge C 41 (oDec_at oX12_isWayOf 18 rfl) (by decide) (fun cd15 => ?_) (fun cd15 => ?_)
        · skip
          refine r_iconst C (oDec_at oX12_isWayOf 21 rfl) (v := k0) (by rw [qk0]; rfl) ?_
          refine r_goto C (tgt := 62) (oDec_at oX12_isWayOf 22 rfl) (by decide) ?_
          have lk16 : ((u6).1 71 71).toInt = v13.toInt := congrArg Int32.toInt (ev13)
          exact r_zret C (n_bool (by omega)) (oDec_at oX12_isWayOf 34 rfl) ⟨_, rfl, ⟨by omega, by omega, by first | (intro h; exfalso; omega) | (intro h h3; exfalso; omega) | exact fun _ _ => pu6_0 (by omega)⟩⟩
        · skip
          refine r_iconst C (oDec_at oX12_isWayOf 19 rfl) (v := k1) (by rw [qk1]; rfl) ?_
          refine r_goto C (tgt := 62) (oDec_at oX12_isWayOf 20 rfl) (by decide) ?_
          have lk17 : ((u6).1 71 71).toInt = v13.toInt := congrArg Int32.toInt (ev13)
          exact r_zret C (n_bool (by omega)) (oDec_at oX12_isWayOf 34 rfl) ⟨_, rfl, ⟨by omega, by omega, by first | (intro h; exfalso; omega) | (intro h h3; exfalso; omega) | exact fun _ _ => pu6_0 (by omega)⟩⟩
    · skip
      refine r_iconst C (oDec_at oX12_isWayOf 8 rfl) (v := k0) (by rw [qk0]; rfl) ?_
      exact r_zret C (n_bool (by omega)) (oDec_at oX12_isWayOf 9 rfl) ⟨_, rfl, ⟨by omega, by omega, by first | (intro h; exfalso; omega) | (intro h h3; exfalso; omega) | exact fun _ _ => pu2_0 (by omega)⟩⟩
set_option maxHeartbeats 4000000 in
set_option maxRecDepth 100000 in
theorem ct_X12_way (l : Launch) (E : oE) (s : oS) (a1 : Int32) (a2 : Int32) (a3 : Int32)  (hp0 : oBI s) : oMet l 11 yX12_way cX12_way 5 (some .int) [(12, 58), (12, 60), (12, 61), (12, 62), (12, 63), (12, 65), (12, 69), (12, 71), (84, 9999), (85, 9999), (86, 9999), (87, 9999), (88, 9999)] E s [.ref (oad E 71), .int a1, .int a2, .int a3] (oPi (fun r u => True)) := by
  refine oMet.of (lv := [(0, .ref (oad E 71)), (1, .int a1), (2, .int a2), (3, .int a3)]) (by decide +kernel) (Nat.le_of_ble_eq_true rfl) rfl (fun J C hT => ?_)
  have C : oC l 11 cX12_way RX12 5 (some .int) [(12, 58), (12, 60), (12, 61), (12, 62), (12, 63), (12, 65), (12, 69), (12, 71), (84, 9999), (85, 9999), (86, 9999), (87, 9999), (88, 9999)] E s (oPi (fun r u => True)) J := C
  obtain ⟨km1, qkm1⟩ : ∃ z : Int32, z = (-1) := ⟨_, rfl⟩
  have ekm1 : km1.toInt = (-1) := by rw [qkm1]; rfl
  obtain ⟨k2, qk2⟩ : ∃ z : Int32, z = 2 := ⟨_, rfl⟩
  have ek2 : k2.toInt = 2 := by rw [qk2]; rfl
  obtain ⟨j0, qj0⟩ : ∃ z : Int64, z = 0 := ⟨_, rfl⟩
  have ej0 : j0.toInt = 0 := by rw [qj0]; rfl
  have rg1 := n_rng a1
  have rg2 := n_rng a2
  have rg3 := n_rng a3
  refine r_aload_n C (j := 0) (oDec_at oX12_way 0 rfl) rfl rfl ?_
  refine r_iload_n C (j := 1) (oDec_at oX12_way 1 rfl) rfl rfl ?_
  refine r_iload_n C (j := 2) (oDec_at oX12_way 2 rfl) rfl rfl ?_
  refine r_callVi C oCl12 rfl miX12_isWayOf mlX12_498 (ct_X12_isWayOf l E (s) a1 a2 hp0) (by decide) rfl rfl rfl (Nat.le_of_ble_eq_true rfl) (oDec_at oX12_way 3 rfl) (fun r2 u1 pu1 fu1 => ?_)
  try dsimp only at pu1
  obtain ⟨pu1_0, pu1_1, pu1_2⟩ := pu1
  have rr2 := n_rng r2
  refine r_if_eq C 22 (oDec_at oX12_way 4 rfl) (by decide) (fun cd3 => ?_) (fun cd3 => ?_)
  · skip
    clear pu1_1
    refine r_iconst C (oDec_at oX12_way 14 rfl) (v := km1) (by rw [qkm1]; rfl) ?_
    exact r_iret C (oDec_at oX12_way 15 rfl) ⟨_, rfl, trivial⟩
  · skip
    replace pu1_1 := pu1_1 (by omega)
    refine r_iload_n C (j := 3) (oDec_at oX12_way 5 rfl) rfl rfl ?_
    obtain ⟨v4, ev4⟩ : ∃ z : Int64, a3.toInt64 = z := ⟨_, rfl⟩
    have hv4 : v4.toInt = a3.toInt := n_i2l ev4
    refine r_i2l C v4 (oDec_at oX12_way 6 rfl) ev4 ?_
    refine r_lconst C (oDec_at oX12_way 7 rfl) (v := j0) (by rw [qj0]; rfl) ?_
    refine r_iload_n C (j := 1) (oDec_at oX12_way 8 rfl) rfl rfl ?_
    refine r_iconst C (oDec_at oX12_way 9 rfl) (v := k2) (by rw [qk2]; rfl) ?_
    obtain ⟨v5, ev5⟩ : ∃ z : Int32, z = a1 - k2 := ⟨_, rfl⟩
    have hv5 : v5.toInt = a1.toInt - k2.toInt := n_sub ev5 (by omega) (by omega)
    refine r_isub C v5 (oDec_at oX12_way 10 rfl) ev5 ?_
    refine r_pc C 15 rfl ?_
    obtain ⟨v6, ev6⟩ : ∃ z : Int64, v5.toInt64 = z := ⟨_, rfl⟩
    have hv6 : v6.toInt = v5.toInt := n_i2l ev6
    refine r_i2l C v6 (oDec_at oX12_way 11 rfl) ev6 ?_
    refine r_callSi C miX12_isIn mlX12_216 (ct_X12_isIn l E (u1) v4 j0 v6 ) (by decide) rfl rfl rfl (Nat.le_of_ble_eq_true rfl) (oDec_at oX12_way 12 rfl) (fun r8 u7 pu7 fu7 => ?_)
    try dsimp only at pu7
    obtain ⟨pu7_0, pu7_1⟩ := pu7
    have hxu7 := oFr_nil fu7; subst hxu7
    have rr8 := n_rng r8
    refine r_if_ne C 24 (oDec_at oX12_way 13 rfl) (by decide) (fun cd9 => ?_) (fun cd9 => ?_)
    · skip
      refine r_aload_n C (j := 0) (oDec_at oX12_way 16 rfl) rfl rfl ?_
      refine r_iload_n C (j := 1) (oDec_at oX12_way 17 rfl) rfl rfl ?_
      refine r_iload_n C (j := 2) (oDec_at oX12_way 18 rfl) rfl rfl ?_
      refine r_callVi C oCl12 rfl miX12_picks mlX12_495 (ct_X12_picks l E (u1) a1 a2 (oBI_fr fu1 rfl hp0) (by omega) (by omega)) (by decide) rfl rfl rfl (Nat.le_of_ble_eq_true rfl) (oDec_at oX12_way 19 rfl) (fun r11 u10 pu10 fu10 => ?_)
      try dsimp only at pu10
      obtain ⟨pu10_0, pu10_1, pu10_2, pu10_3⟩ := pu10
      have rr11 := n_rng r11
      refine r_istore C (lv' := [(0, .ref (oad E 71)), (1, .int a1), (2, .int a2), (3, .int a3), (4, .int r11)]) [1, 2, 3, 4, 0] (oDec_at oX12_way 20 rfl) (by decide) rfl ?_
      refine r_aload_n C (j := 0) (oDec_at oX12_way 21 rfl) rfl rfl ?_
      refine r_pc C 33 rfl ?_
      refine r_getF (k := 70) (b := 110) C oCl12 rfl (by decide) flX12_145 rfl rfl rfl (oDec_at oX12_way 22 rfl) ?_
      refine r_aload_n C (j := 0) (oDec_at oX12_way 23 rfl) rfl rfl ?_
      refine r_getF (k := 73) (b := 112) C oCl12 rfl (by decide) flX12_152 rfl rfl rfl (oDec_at oX12_way 24 rfl) ?_
      refine r_iload_n C (j := 3) (oDec_at oX12_way 25 rfl) rfl rfl ?_
      obtain ⟨v13, ev13⟩ : ∃ z : Int32, (u10).1 112 a3.toNatClampNeg = z := ⟨_, rfl⟩
      have gv13 : (u10.1 112 a3.toNatClampNeg).toInt = v13.toInt := congrArg Int32.toInt (ev13)
      have rv13 := n_rng v13
      refine r_iald (n := 3) (lo := (-2147483648)) (hi := 2147483647) C v13 rfl (by decide) rfl rfl ⟨by omega, by omega⟩ (by decide) ev13 rfl rfl (oDec_at oX12_way 26 rfl) (fun _ _ => ?_)
      have hpa := oPk_at (V := a1.toInt) (fun h3 => pu10_1 (pu1_2 (by omega) h3) h3) (by omega) (by omega) ev13 (by omega)
      obtain ⟨v15, ev15⟩ : ∃ z : Int32, (u10).1 110 v13.toNatClampNeg = z := ⟨_, rfl⟩
      have gv15 : (u10.1 110 v13.toNatClampNeg).toInt = v15.toInt := congrArg Int32.toInt (ev15)
      refine r_iald (n := 4500) (lo := 0) (hi := 4499) C v15 rfl (by decide) rfl rfl ⟨by omega, by omega⟩ (by decide) ev15 rfl rfl (oDec_at oX12_way 27 rfl) (fun b14 b14h => ?_)
      refine r_pc C 43 rfl ?_
      exact r_iret C (oDec_at oX12_way 28 rfl) ⟨_, rfl, trivial⟩
    · skip
      refine r_iconst C (oDec_at oX12_way 14 rfl) (v := km1) (by rw [qkm1]; rfl) ?_
      exact r_iret C (oDec_at oX12_way 15 rfl) ⟨_, rfl, trivial⟩
set_option maxHeartbeats 4000000 in
set_option maxRecDepth 100000 in
theorem ct_X12_isWay (l : Launch) (E : oE) (s : oS) (a1 : Int32)  (hp0 : oBI s) : oMet l 9 yX12_isWay cX12_isWay 2 (some .boolean) [(12, 58), (12, 60), (12, 61), (12, 62), (12, 63), (12, 65), (12, 69), (12, 71), (84, 9999), (85, 9999), (86, 9999), (87, 9999)] E s [.ref (oad E 71), .int a1] (oPi (fun r u => (0 ≤ r.toInt ∧ r.toInt ≤ 1) ∧ (r.toInt = 1 → (0 ≤ a1.toInt ∧ a1.toInt < 4500)))) := by
  refine oMet.of (lv := [(0, .ref (oad E 71)), (1, .int a1)]) (by decide +kernel) (Nat.le_of_ble_eq_true rfl) rfl (fun J C hT => ?_)
  have C : oC l 9 cX12_isWay RX12 2 (some .boolean) [(12, 58), (12, 60), (12, 61), (12, 62), (12, 63), (12, 65), (12, 69), (12, 71), (84, 9999), (85, 9999), (86, 9999), (87, 9999)] E s (oPi (fun r u => (0 ≤ r.toInt ∧ r.toInt ≤ 1) ∧ (r.toInt = 1 → (0 ≤ a1.toInt ∧ a1.toInt < 4500)))) J := C
  obtain ⟨k1, qk1⟩ : ∃ z : Int32, z = 1 := ⟨_, rfl⟩
  have ek1 : k1.toInt = 1 := by rw [qk1]; rfl
  obtain ⟨j0, qj0⟩ : ∃ z : Int64, z = 0 := ⟨_, rfl⟩
  have ej0 : j0.toInt = 0 := by rw [qj0]; rfl
  have rg1 := n_rng a1
  refine r_aload_n C (j := 0) (oDec_at oX12_isWay 0 rfl) rfl rfl ?_
  refine r_callVv C oCl12 rfl miX12_knows mlX12_490 (ct_X12_knows l E (s)  hp0) (by decide) rfl rfl rfl (Nat.le_of_ble_eq_true rfl) (oDec_at oX12_isWay 1 rfl) (fun u1 pu1 fu1 => ?_)
  try dsimp only at pu1
  refine r_iload_n C (j := 1) (oDec_at oX12_isWay 2 rfl) rfl rfl ?_
  obtain ⟨v3, ev3⟩ : ∃ z : Int64, a1.toInt64 = z := ⟨_, rfl⟩
  have hv3 : v3.toInt = a1.toInt := n_i2l ev3
  refine r_i2l C v3 (oDec_at oX12_isWay 3 rfl) ev3 ?_
  refine r_lconst C (oDec_at oX12_isWay 4 rfl) (v := j0) (by rw [qj0]; rfl) ?_
  refine r_aload_n C (j := 0) (oDec_at oX12_isWay 5 rfl) rfl rfl ?_
  refine r_pc C 8 rfl ?_
  obtain ⟨v4, ev4⟩ : ∃ z : Int32, (u1).1 71 71 = z := ⟨_, rfl⟩
  have gv4 : (u1.1 71 71).toInt = v4.toInt := congrArg Int32.toInt (ev4)
  refine r_geti (k := 71) (lo := 0) (hi := 4500) C v4 oCl12 rfl (by decide) flX12_482 rfl rfl (ev4) rfl rfl (oDec_at oX12_isWay 6 rfl) (fun b5 b5h => ?_)
  refine r_iconst C (oDec_at oX12_isWay 7 rfl) (v := k1) (by rw [qk1]; rfl) ?_
  obtain ⟨v6, ev6⟩ : ∃ z : Int32, z = v4 - k1 := ⟨_, rfl⟩
  have hv6 : v6.toInt = v4.toInt - k1.toInt := n_sub ev6 (by omega) (by omega)
  refine r_isub C v6 (oDec_at oX12_isWay 8 rfl) ev6 ?_
  obtain ⟨v7, ev7⟩ : ∃ z : Int64, v6.toInt64 = z := ⟨_, rfl⟩
  have hv7 : v7.toInt = v6.toInt := n_i2l ev7
  refine r_i2l C v7 (oDec_at oX12_isWay 9 rfl) ev7 ?_
  refine r_callSi C miX12_isIn mlX12_216 (ct_X12_isIn l E (u1) v3 j0 v7 ) (by decide) rfl rfl rfl (Nat.le_of_ble_eq_true rfl) (oDec_at oX12_isWay 10 rfl) (fun r9 u8 pu8 fu8 => ?_)
  try dsimp only at pu8
  obtain ⟨pu8_0, pu8_1⟩ := pu8
  have hxu8 := oFr_nil fu8; subst hxu8
  have rr9 := n_rng r9
  exact r_zret C (n_bool (by omega)) (oDec_at oX12_isWay 11 rfl) ⟨_, rfl, ⟨by omega, by omega⟩⟩
set_option maxHeartbeats 4000000 in
set_option maxRecDepth 100000 in
theorem ct_X12_likeMany (l : Launch) (E : oE) (s : oS) (a1 : Int32) (a2 : Int32)  (hp0 : 0 ≤ a1.toInt ∧ a1.toInt < 4500) : oMet l 3 yX12_likeMany cX12_likeMany 5 (some .int) [] E s [.ref (oad E 71), .int a1, .int a2] (oPi (fun r u => (0 ≤ r.toInt ∧ r.toInt ≤ 4500))) := by
  refine oMet.of (lv := [(0, .ref (oad E 71)), (1, .int a1), (2, .int a2)]) (by decide +kernel) (Nat.le_of_ble_eq_true rfl) rfl (fun J C hT => ?_)
  have C : oC l 3 cX12_likeMany RX12 5 (some .int) [] E s (oPi (fun r u => (0 ≤ r.toInt ∧ r.toInt ≤ 4500))) J := C
  obtain ⟨k0, qk0⟩ : ∃ z : Int32, z = 0 := ⟨_, rfl⟩
  have ek0 : k0.toInt = 0 := by rw [qk0]; rfl
  have rg1 := n_rng a1
  have rg2 := n_rng a2
  have key : ∀ n : Nat, (∀ (t : oS) (x3 : Int32) (x4 : Int32), (0 ≤ x4.toInt ∧ x4.toInt ≤ 4500) → (0 ≤ x3.toInt ∧ x3.toInt ≤ x4.toInt) → 4501 - x4.toInt ≤ (n : Int) → J t 5 [(0, .ref (oad E 71)), (1, .int a1), (2, .int a2), (3, .int x3), (4, .int x4)] []) := by
    intro n
    induction n using Nat.strongRecOn with
    | _ n ih =>
      skip
      · intro t x3 x4  iv0 iv1 hmu
        have rx3 := n_rng x3
        have rx4 := n_rng x4
        refine r_iload C (j := 4) (oDec_at oX12_likeMany 4 rfl) rfl ?_
        refine r_aload_n C (j := 0) (oDec_at oX12_likeMany 5 rfl) rfl rfl ?_
        obtain ⟨v1, ev1⟩ : ∃ z : Int32, (t).1 71 71 = z := ⟨_, rfl⟩
        have gv1 : (t.1 71 71).toInt = v1.toInt := congrArg Int32.toInt (ev1)
        refine r_geti (k := 71) (lo := 0) (hi := 4500) C v1 oCl12 rfl (by decide) flX12_482 rfl rfl (ev1) rfl rfl (oDec_at oX12_likeMany 6 rfl) (fun b2 b2h => ?_)
        refine r_icmp_ge C 43 (oDec_at oX12_likeMany 7 rfl) (by decide) (fun cd3 => ?_) (fun cd3 => ?_)
        · skip
          refine r_iload_n C (j := 3) (oDec_at oX12_likeMany 22 rfl) rfl rfl ?_
          exact r_iret C (oDec_at oX12_likeMany 23 rfl) ⟨_, rfl, by omega⟩
        · skip
          refine r_aload_n C (j := 0) (oDec_at oX12_likeMany 8 rfl) rfl rfl ?_
          refine r_getF (k := 70) (b := 110) C oCl12 rfl (by decide) flX12_145 rfl rfl rfl (oDec_at oX12_likeMany 9 rfl) ?_
          refine r_iload C (j := 4) (oDec_at oX12_likeMany 10 rfl) rfl ?_
          obtain ⟨v5, ev5⟩ : ∃ z : Int32, (t).1 110 x4.toNatClampNeg = z := ⟨_, rfl⟩
          have gv5 : (t.1 110 x4.toNatClampNeg).toInt = v5.toInt := congrArg Int32.toInt (ev5)
          refine r_iald (n := 4500) (lo := 0) (hi := 4499) C v5 rfl (by decide) rfl rfl ⟨by omega, by omega⟩ (by decide) ev5 rfl rfl (oDec_at oX12_likeMany 11 rfl) (fun b4 b4h => ?_)
          refine r_aload_n C (j := 0) (oDec_at oX12_likeMany 12 rfl) rfl rfl ?_
          refine r_getF (k := 70) (b := 110) C oCl12 rfl (by decide) flX12_145 rfl rfl rfl (oDec_at oX12_likeMany 13 rfl) ?_
          refine r_pc C 25 rfl ?_
          refine r_iload_n C (j := 1) (oDec_at oX12_likeMany 14 rfl) rfl rfl ?_
          obtain ⟨v7, ev7⟩ : ∃ z : Int32, (t).1 110 a1.toNatClampNeg = z := ⟨_, rfl⟩
          have gv7 : (t.1 110 a1.toNatClampNeg).toInt = v7.toInt := congrArg Int32.toInt (ev7)
          refine r_iald (n := 4500) (lo := 0) (hi := 4499) C v7 rfl (by decide) rfl rfl ⟨by omega, by omega⟩ (by decide) ev7 rfl rfl (oDec_at oX12_likeMany 15 rfl) (fun b6 b6h => ?_)
          refine r_iload_n C (j := 2) (oDec_at oX12_likeMany 16 rfl) rfl rfl ?_
          refine r_callSi C miX12_isLike mlX12_501 (ct_X12_isLike l E (t) v5 v7 a2 (by omega) (by omega)) (by decide) rfl rfl rfl (Nat.le_of_ble_eq_true rfl) (oDec_at oX12_likeMany 17 rfl) (fun r9 u8 pu8 fu8 => ?_)
          try dsimp only at pu8
          have hxu8 := oFr_nil fu8; subst hxu8
          have rr9 := n_rng r9
          refine r_if_eq C 37 (oDec_at oX12_likeMany 18 rfl) (by decide) (fun cd10 => ?_) (fun cd10 => ?_)
          · skip
            obtain ⟨v11, ev11⟩ : ∃ z : Int32, x4 + Int32.ofInt 1 = z := ⟨_, rfl⟩
            have hv11 : v11.toInt = x4.toInt + 1 := n_inc ev11 (by decide) (by omega) (by omega)
            refine r_iinc C (j := 4) (lv' := [(0, .ref (oad E 71)), (1, .int a1), (2, .int a2), (3, .int x3), (4, .int v11)]) v11 [1, 2, 3, 4, 0] (oDec_at oX12_likeMany 20 rfl) rfl ev11 (by decide) rfl ?_
            refine r_goto C (tgt := 5) (oDec_at oX12_likeMany 21 rfl) (by decide) ?_
            exact (ih (n - 1) (by omega)) (t) x3 v11  (by omega) (by omega) (by omega)
          · skip
            obtain ⟨v12, ev12⟩ : ∃ z : Int32, x3 + Int32.ofInt 1 = z := ⟨_, rfl⟩
            have hv12 : v12.toInt = x3.toInt + 1 := n_inc ev12 (by decide) (by omega) (by omega)
            refine r_iinc C (j := 3) (lv' := [(0, .ref (oad E 71)), (1, .int a1), (2, .int a2), (3, .int v12), (4, .int x4)]) v12 [1, 2, 3, 0, 4] (oDec_at oX12_likeMany 19 rfl) rfl ev12 (by decide) rfl ?_
            obtain ⟨v13, ev13⟩ : ∃ z : Int32, x4 + Int32.ofInt 1 = z := ⟨_, rfl⟩
            have hv13 : v13.toInt = x4.toInt + 1 := n_inc ev13 (by decide) (by omega) (by omega)
            refine r_iinc C (j := 4) (lv' := [(0, .ref (oad E 71)), (1, .int a1), (2, .int a2), (3, .int v12), (4, .int v13)]) v13 [1, 2, 3, 4, 0] (oDec_at oX12_likeMany 20 rfl) rfl ev13 (by decide) rfl ?_
            refine r_goto C (tgt := 5) (oDec_at oX12_likeMany 21 rfl) (by decide) ?_
            exact (ih (n - 1) (by omega)) (t) v12 v13  (by omega) (by omega) (by omega)
  refine r_iconst C (oDec_at oX12_likeMany 0 rfl) (v := k0) (by rw [qk0]; rfl) ?_
  refine r_istore_n C (lv' := [(0, .ref (oad E 71)), (1, .int a1), (2, .int a2), (3, .int k0)]) [1, 2, 3, 0] (oDec_at oX12_likeMany 1 rfl) rfl (by decide) rfl ?_
  refine r_iconst C (oDec_at oX12_likeMany 2 rfl) (v := k0) (by rw [qk0]; rfl) ?_
  refine r_istore C (lv' := [(0, .ref (oad E 71)), (1, .int a1), (2, .int a2), (3, .int k0), (4, .int k0)]) [1, 2, 3, 4, 0] (oDec_at oX12_likeMany 3 rfl) (by decide) rfl ?_
  exact (key (4501 - k0.toInt).toNat) (s) k0 k0  (by omega) (by omega) (by omega)
set_option maxHeartbeats 4000000 in
set_option maxRecDepth 100000 in
theorem ct_X12_signs (l : Launch) (E : oE) (s : oS) (a1 : Int32)  (hp0 : oBI s) : oMet l 10 yX12_signs cX12_signs 4 (some .int) [(12, 58), (12, 60), (12, 61), (12, 62), (12, 63), (12, 65), (12, 69), (12, 71), (84, 9999), (85, 9999), (86, 9999), (87, 9999)] E s [.ref (oad E 71), .int a1] (oPi (fun r u => True)) := by
  refine oMet.of (lv := [(0, .ref (oad E 71)), (1, .int a1)]) (by decide +kernel) (Nat.le_of_ble_eq_true rfl) rfl (fun J C hT => ?_)
  have C : oC l 10 cX12_signs RX12 4 (some .int) [(12, 58), (12, 60), (12, 61), (12, 62), (12, 63), (12, 65), (12, 69), (12, 71), (84, 9999), (85, 9999), (86, 9999), (87, 9999)] E s (oPi (fun r u => True)) J := C
  obtain ⟨km1, qkm1⟩ : ∃ z : Int32, z = (-1) := ⟨_, rfl⟩
  have ekm1 : km1.toInt = (-1) := by rw [qkm1]; rfl
  obtain ⟨k0, qk0⟩ : ∃ z : Int32, z = 0 := ⟨_, rfl⟩
  have ek0 : k0.toInt = 0 := by rw [qk0]; rfl
  obtain ⟨k1, qk1⟩ : ∃ z : Int32, z = 1 := ⟨_, rfl⟩
  have ek1 : k1.toInt = 1 := by rw [qk1]; rfl
  obtain ⟨k31, qk31⟩ : ∃ z : Int32, z = 31 := ⟨_, rfl⟩
  have ek31 : k31.toInt = 31 := by rw [qk31]; rfl
  obtain ⟨k32, qk32⟩ : ∃ z : Int32, z = 32 := ⟨_, rfl⟩
  have ek32 : k32.toInt = 32 := by rw [qk32]; rfl
  have rg1 := n_rng a1
  have key : ∀ n : Nat, (∀ (t : oS) (x2 : Int32) (x3 : Int32), (0 ≤ a1.toInt ∧ a1.toInt < 4500) → (0 ≤ x3.toInt ∧ x3.toInt ≤ 32) → (0 ≤ x2.toInt ∧ x2.toInt ≤ 31) → 33 - x3.toInt ≤ (n : Int) → J t 15 [(0, .ref (oad E 71)), (1, .int a1), (2, .int x2), (3, .int x3)] []) := by
    intro n
    induction n using Nat.strongRecOn with
    | _ n ih =>
      skip
      · intro t x2 x3  iv0 iv1 iv2 hmu
        have rx2 := n_rng x2
        have rx3 := n_rng x3
        refine r_iload_n C (j := 3) (oDec_at oX12_signs 10 rfl) rfl rfl ?_
        refine r_bipush C (oDec_at oX12_signs 11 rfl) (v := k32) (by rw [qk32]; rfl) ?_
        refine r_icmp_ge C 50 (oDec_at oX12_signs 12 rfl) (by decide) (fun cd1 => ?_) (fun cd1 => ?_)
        · skip
          refine r_iload_n C (j := 2) (oDec_at oX12_signs 28 rfl) rfl rfl ?_
          exact r_iret C (oDec_at oX12_signs 29 rfl) ⟨_, rfl, trivial⟩
        · skip
          refine r_iload_n C (j := 3) (oDec_at oX12_signs 13 rfl) rfl rfl ?_
          refine r_callSi C miX12_bits mlX12_508 (ct_X12_bits l E (t) x3 (by omega)) (by decide) rfl rfl rfl (Nat.le_of_ble_eq_true rfl) (oDec_at oX12_signs 14 rfl) (fun r3 u2 pu2 fu2 => ?_)
          try dsimp only at pu2
          have hxu2 := oFr_nil fu2; subst hxu2
          have rr3 := n_rng r3
          refine r_iload_n C (j := 2) (oDec_at oX12_signs 15 rfl) rfl rfl ?_
          refine r_callSi C miX12_bits mlX12_508 (ct_X12_bits l E (t) x2 (by omega)) (by decide) rfl rfl rfl (Nat.le_of_ble_eq_true rfl) (oDec_at oX12_signs 16 rfl) (fun r5 u4 pu4 fu4 => ?_)
          try dsimp only at pu4
          have hxu4 := oFr_nil fu4; subst hxu4
          have rr5 := n_rng r5
          refine r_icmp_ge C 44 (oDec_at oX12_signs 17 rfl) (by decide) (fun cd6 => ?_) (fun cd6 => ?_)
          · skip
            obtain ⟨v7, ev7⟩ : ∃ z : Int32, x3 + Int32.ofInt 1 = z := ⟨_, rfl⟩
            have hv7 : v7.toInt = x3.toInt + 1 := n_inc ev7 (by decide) (by omega) (by omega)
            refine r_iinc C (j := 3) (lv' := [(0, .ref (oad E 71)), (1, .int a1), (2, .int x2), (3, .int v7)]) v7 [1, 2, 3, 0] (oDec_at oX12_signs 26 rfl) rfl ev7 (by decide) rfl ?_
            refine r_goto C (tgt := 15) (oDec_at oX12_signs 27 rfl) (by decide) ?_
            exact (ih (n - 1) (by omega)) (t) x2 v7  (by omega) (by omega) (by omega) (by omega)
          · skip
            refine r_aload_n C (j := 0) (oDec_at oX12_signs 18 rfl) rfl rfl ?_
            refine r_iload_n C (j := 1) (oDec_at oX12_signs 19 rfl) rfl rfl ?_
            refine r_iload_n C (j := 3) (oDec_at oX12_signs 20 rfl) rfl rfl ?_
            refine r_callVi C oCl12 rfl miX12_likeMany mlX12_511 (ct_X12_likeMany l E (t) a1 x3 (by omega)) (by decide) rfl rfl rfl (Nat.le_of_ble_eq_true rfl) (oDec_at oX12_signs 21 rfl) (fun r9 u8 pu8 fu8 => ?_)
            try dsimp only at pu8
            have hxu8 := oFr_nil fu8; subst hxu8
            have rr9 := n_rng r9
            refine r_iconst C (oDec_at oX12_signs 22 rfl) (v := k1) (by rw [qk1]; rfl) ?_
            refine r_icmp_ne C 44 (oDec_at oX12_signs 23 rfl) (by decide) (fun cd10 => ?_) (fun cd10 => ?_)
            · skip
              obtain ⟨v11, ev11⟩ : ∃ z : Int32, x3 + Int32.ofInt 1 = z := ⟨_, rfl⟩
              have hv11 : v11.toInt = x3.toInt + 1 := n_inc ev11 (by decide) (by omega) (by omega)
              refine r_iinc C (j := 3) (lv' := [(0, .ref (oad E 71)), (1, .int a1), (2, .int x2), (3, .int v11)]) v11 [1, 2, 3, 0] (oDec_at oX12_signs 26 rfl) rfl ev11 (by decide) rfl ?_
              refine r_goto C (tgt := 15) (oDec_at oX12_signs 27 rfl) (by decide) ?_
              exact (ih (n - 1) (by omega)) (t) x2 v11  (by omega) (by omega) (by omega) (by omega)
            · skip
              refine r_iload_n C (j := 3) (oDec_at oX12_signs 24 rfl) rfl rfl ?_
              refine r_istore_n C (lv' := [(0, .ref (oad E 71)), (1, .int a1), (2, .int x3), (3, .int x3)]) [1, 2, 0, 3] (oDec_at oX12_signs 25 rfl) rfl (by decide) rfl ?_
              obtain ⟨v12, ev12⟩ : ∃ z : Int32, x3 + Int32.ofInt 1 = z := ⟨_, rfl⟩
              have hv12 : v12.toInt = x3.toInt + 1 := n_inc ev12 (by decide) (by omega) (by omega)
              refine r_iinc C (j := 3) (lv' := [(0, .ref (oad E 71)), (1, .int a1), (2, .int x3), (3, .int v12)]) v12 [1, 2, 3, 0] (oDec_at oX12_signs 26 rfl) rfl ev12 (by decide) rfl ?_
              refine r_goto C (tgt := 15) (oDec_at oX12_signs 27 rfl) (by decide) ?_
              exact (ih (n - 1) (by omega)) (t) x3 v12  (by omega) (by omega) (by omega) (by omega)
  refine r_aload_n C (j := 0) (oDec_at oX12_signs 0 rfl) rfl rfl ?_
  refine r_iload_n C (j := 1) (oDec_at oX12_signs 1 rfl) rfl rfl ?_
  refine r_callVi C oCl12 rfl miX12_isWay mlX12_505 (ct_X12_isWay l E (s) a1 hp0) (by decide) rfl rfl rfl (Nat.le_of_ble_eq_true rfl) (oDec_at oX12_signs 2 rfl) (fun r14 u13 pu13 fu13 => ?_)
  try dsimp only at pu13
  obtain ⟨pu13_0, pu13_1⟩ := pu13
  have rr14 := n_rng r14
  refine r_if_ne C 10 (oDec_at oX12_signs 3 rfl) (by decide) (fun cd15 => ?_) (fun cd15 => ?_)
  · skip
    replace pu13_1 := pu13_1 (by omega)
    refine r_bipush C (oDec_at oX12_signs 6 rfl) (v := k31) (by rw [qk31]; rfl) ?_
    refine r_istore_n C (lv' := [(0, .ref (oad E 71)), (1, .int a1), (2, .int k31)]) [1, 2, 0] (oDec_at oX12_signs 7 rfl) rfl (by decide) rfl ?_
    refine r_iconst C (oDec_at oX12_signs 8 rfl) (v := k0) (by rw [qk0]; rfl) ?_
    refine r_istore_n C (lv' := [(0, .ref (oad E 71)), (1, .int a1), (2, .int k31), (3, .int k0)]) [1, 2, 3, 0] (oDec_at oX12_signs 9 rfl) rfl (by decide) rfl ?_
    exact (key (33 - k0.toInt).toNat) (u13) k31 k0  (by omega) (by omega) (by omega) (by omega)
  · skip
    clear pu13_1
    refine r_iconst C (oDec_at oX12_signs 4 rfl) (v := km1) (by rw [qkm1]; rfl) ?_
    exact r_iret C (oDec_at oX12_signs 5 rfl) ⟨_, rfl, trivial⟩
set_option maxHeartbeats 4000000 in
set_option maxRecDepth 100000 in
theorem ct_X12_like (l : Launch) (E : oE) (s : oS) (a1 : Int32) (a2 : Int32)  (hp0 : oBI s) : oMet l 10 yX12_like cX12_like 3 (some .int) [(12, 58), (12, 60), (12, 61), (12, 62), (12, 63), (12, 65), (12, 69), (12, 71), (84, 9999), (85, 9999), (86, 9999), (87, 9999)] E s [.ref (oad E 71), .int a1, .int a2] (oPi (fun r u => True)) := by
  refine oMet.of (lv := [(0, .ref (oad E 71)), (1, .int a1), (2, .int a2)]) (by decide +kernel) (Nat.le_of_ble_eq_true rfl) rfl (fun J C hT => ?_)
  have C : oC l 10 cX12_like RX12 3 (some .int) [(12, 58), (12, 60), (12, 61), (12, 62), (12, 63), (12, 65), (12, 69), (12, 71), (84, 9999), (85, 9999), (86, 9999), (87, 9999)] E s (oPi (fun r u => True)) J := C
  obtain ⟨km1, qkm1⟩ : ∃ z : Int32, z = (-1) := ⟨_, rfl⟩
  have ekm1 : km1.toInt = (-1) := by rw [qkm1]; rfl
  obtain ⟨j0, qj0⟩ : ∃ z : Int64, z = 0 := ⟨_, rfl⟩
  have ej0 : j0.toInt = 0 := by rw [qj0]; rfl
  obtain ⟨j31, qj31⟩ : ∃ z : Int64, z = 31 := ⟨_, rfl⟩
  have ej31 : j31.toInt = 31 := by rw [qj31]; rfl
  have rg1 := n_rng a1
  have rg2 := n_rng a2
  refine r_aload_n C (j := 0) (oDec_at oX12_like 0 rfl) rfl rfl ?_
  refine r_iload_n C (j := 1) (oDec_at oX12_like 1 rfl) rfl rfl ?_
  refine r_callVi C oCl12 rfl miX12_isWay mlX12_505 (ct_X12_isWay l E (s) a1 hp0) (by decide) rfl rfl rfl (Nat.le_of_ble_eq_true rfl) (oDec_at oX12_like 2 rfl) (fun r2 u1 pu1 fu1 => ?_)
  try dsimp only at pu1
  obtain ⟨pu1_0, pu1_1⟩ := pu1
  have rr2 := n_rng r2
  refine r_if_eq C 29 (oDec_at oX12_like 3 rfl) (by decide) (fun cd3 => ?_) (fun cd3 => ?_)
  · skip
    clear pu1_1
    refine r_iconst C (oDec_at oX12_like 15 rfl) (v := km1) (by rw [qkm1]; rfl) ?_
    exact r_iret C (oDec_at oX12_like 16 rfl) ⟨_, rfl, trivial⟩
  · skip
    replace pu1_1 := pu1_1 (by omega)
    refine r_iload_n C (j := 2) (oDec_at oX12_like 4 rfl) rfl rfl ?_
    obtain ⟨v4, ev4⟩ : ∃ z : Int64, a2.toInt64 = z := ⟨_, rfl⟩
    have hv4 : v4.toInt = a2.toInt := n_i2l ev4
    refine r_i2l C v4 (oDec_at oX12_like 5 rfl) ev4 ?_
    refine r_lconst C (oDec_at oX12_like 6 rfl) (v := j0) (by rw [qj0]; rfl) ?_
    refine r_ldc2 C (v := j31) (by rw [qj31]; exact klX12_514) (oDec_at oX12_like 7 rfl) ?_
    refine r_callSi C miX12_isIn mlX12_216 (ct_X12_isIn l E (u1) v4 j0 j31 ) (by decide) rfl rfl rfl (Nat.le_of_ble_eq_true rfl) (oDec_at oX12_like 8 rfl) (fun r6 u5 pu5 fu5 => ?_)
    try dsimp only at pu5
    obtain ⟨pu5_0, pu5_1⟩ := pu5
    have hxu5 := oFr_nil fu5; subst hxu5
    have rr6 := n_rng r6
    refine r_if_eq C 29 (oDec_at oX12_like 9 rfl) (by decide) (fun cd7 => ?_) (fun cd7 => ?_)
    · skip
      refine r_iconst C (oDec_at oX12_like 15 rfl) (v := km1) (by rw [qkm1]; rfl) ?_
      exact r_iret C (oDec_at oX12_like 16 rfl) ⟨_, rfl, trivial⟩
    · skip
      refine r_aload_n C (j := 0) (oDec_at oX12_like 10 rfl) rfl rfl ?_
      refine r_iload_n C (j := 1) (oDec_at oX12_like 11 rfl) rfl rfl ?_
      refine r_iload_n C (j := 2) (oDec_at oX12_like 12 rfl) rfl rfl ?_
      refine r_callVi C oCl12 rfl miX12_likeMany mlX12_511 (ct_X12_likeMany l E (u1) a1 a2 (by omega)) (by decide) rfl rfl rfl (Nat.le_of_ble_eq_true rfl) (oDec_at oX12_like 13 rfl) (fun r9 u8 pu8 fu8 => ?_)
      try dsimp only at pu8
      have hxu8 := oFr_nil fu8; subst hxu8
      have rr9 := n_rng r9
      refine r_goto C (tgt := 30) (oDec_at oX12_like 14 rfl) (by decide) ?_
      exact r_iret C (oDec_at oX12_like 16 rfl) ⟨_, rfl, trivial⟩
