set_option maxHeartbeats 4000000 in
set_option maxRecDepth 100000 in
theorem ct9_X12_holds (l : Launch) (E : oE) (s : oS) (a1 : Int32) (a2 : Int32) (fa : Nat → Int) (R : List Int) (hp0 : oBI s) (hp1 : 0 ≤ a1.toInt ∧ a1.toInt ≤ 1) (hp2 : 0 ≤ a2.toInt) (hp3 : a1.toInt = 0 → a2.toInt < (s.1 104 0).toInt) (hp4 : a1.toInt = 1 → a2.toInt < (s.1 104 1).toInt) (hp5 : a1.toInt = 0) (hp6 : oqRst a2.toNatClampNeg R s) (hp7 : ∀ i : Nat, i < 8 → (s.1 109 i).toInt = fa i) (hp8 : ∀ i : Nat, i < 8 → -1000000 ≤ fa i ∧ fa i ≤ 1000000) : oMet l 3 yX12_holds cX12_holds 6 (some .boolean) [(12, 58), (84, 9999)] E s [.ref (oad E 71), .int a1, .int a2] (oPi (fun r u => (0 ≤ r.toInt ∧ r.toInt ≤ 1) ∧ (r.toInt = oqHl fa R))) := by
  refine oMet.of (lv := [(0, .ref (oad E 71)), (1, .int a1), (2, .int a2)]) (by decide +kernel) (Nat.le_of_ble_eq_true rfl) rfl (fun J C hT => ?_)
  have C : oC l 3 cX12_holds RX12 6 (some .boolean) [(12, 58), (84, 9999)] E s (oPi (fun r u => (0 ≤ r.toInt ∧ r.toInt ≤ 1) ∧ (r.toInt = oqHl fa R))) J := C
  obtain ⟨k0, qk0⟩ : ∃ z : Int32, z = 0 := ⟨_, rfl⟩
  have ek0 : k0.toInt = 0 := by rw [qk0]; rfl
  obtain ⟨k1, qk1⟩ : ∃ z : Int32, z = 1 := ⟨_, rfl⟩
  have ek1 : k1.toInt = 1 := by rw [qk1]; rfl
  obtain ⟨k12, qk12⟩ : ∃ z : Int32, z = 12 := ⟨_, rfl⟩
  have ek12 : k12.toInt = 12 := by rw [qk12]; rfl
  obtain ⟨k16, qk16⟩ : ∃ z : Int32, z = 16 := ⟨_, rfl⟩
  have ek16 : k16.toInt = 16 := by rw [qk16]; rfl
  obtain ⟨k17, qk17⟩ : ∃ z : Int32, z = 17 := ⟨_, rfl⟩
  have ek17 : k17.toInt = 17 := by rw [qk17]; rfl
  obtain ⟨k40, qk40⟩ : ∃ z : Int32, z = 40 := ⟨_, rfl⟩
  have ek40 : k40.toInt = 40 := by rw [qk40]; rfl
  obtain ⟨k1000, qk1000⟩ : ∃ z : Int32, z = 1000 := ⟨_, rfl⟩
  have ek1000 : k1000.toInt = 1000 := by rw [qk1000]; rfl
  obtain ⟨j1, qj1⟩ : ∃ z : Int64, z = 1 := ⟨_, rfl⟩
  have ej1 : j1.toInt = 1 := by rw [qj1]; rfl
  have rg1 := n_rng a1
  have rg2 := n_rng a2
  have hm0 : (0 : Int) ≤ (s.1 104 0).toInt ∧ (s.1 104 0).toInt ≤ 12 := hT.1 104 0
  have hm1 : (0 : Int) ≤ (s.1 104 1).toInt ∧ (s.1 104 1).toInt ≤ 12 := hT.1 104 1
  obtain ⟨hty, hok, st, hst, hen, hle, hwo⟩ := id hp6
  have hhb := oqHl_b hp8 hty hok
  have hn2 := n_nat a2
  have key : ∀ n : Nat, (∀ (t : oS) (x3 : Int32) (x4 : Int32), (0 ≤ x3.toInt ∧ x3.toInt ≤ 23) → (oHd x3 x4 t) → (0 ≤ x4.toInt ∧ x4.toInt ≤ 1600) → (x3.toInt = a2.toInt) → (oqTq s t) → (oqRv fa R st x4.toInt (t.1 71 58).toInt (t.2.1 108)) → 1601 - x4.toInt ≤ (n : Int) → J t 20 [(0, .ref (oad E 71)), (3, .int x3), (4, .int x4)] []) := by
    intro n
    induction n using Nat.strongRecOn with
    | _ n ih =>
      skip
      · intro t x3 x4  iv0 iv1 iv2 iv3 iv4 iv5 hmu
        have rx3 := n_rng x3
        have rx4 := n_rng x4
        refine r_ty C (fun hty => ?_)
        have hty_piled : (0 : Int) ≤ ((t).1 71 58).toInt ∧ ((t).1 71 58).toInt ≤ 1700 := hty.1 71 58
        clear hty
        refine r_iload C (j := 2) (oDec_at oX12_holds 14 rfl) rfl ?_
        refine r_aload_n C (j := 0) (oDec_at oX12_holds 15 rfl) rfl rfl ?_
        refine r_getF (k := 51) (b := 106) C oCl12 rfl (by decide) flX12_120 rfl rfl rfl (oDec_at oX12_holds 16 rfl) ?_
        refine r_iload_n C (j := 1) (oDec_at oX12_holds 17 rfl) rfl rfl ?_
        obtain ⟨v2, ev2⟩ : ∃ z : Int32, (t).1 106 x3.toNatClampNeg = z := ⟨_, rfl⟩
        have gv2 : (t.1 106 x3.toNatClampNeg).toInt = v2.toInt := congrArg Int32.toInt (ev2)
        refine r_iald (n := 48) (lo := 0) (hi := 1600) C v2 rfl (by decide) rfl rfl ⟨by omega, by omega⟩ (by decide) ev2 rfl rfl (oDec_at oX12_holds 18 rfl) (fun b1 b1h => ?_)
        have hen9 : v2.toInt = (st : Int) + (R.length : Int) := by rw [← hen, ← (iv4).2.2.1, show a2.toNatClampNeg = x3.toNatClampNeg by (have h9 := n_nat x3; omega)]; exact (congrArg Int32.toInt ev2).symm
        refine r_icmp_ge C 148 (oDec_at oX12_holds 19 rfl) (by decide) (fun cd3 => ?_) (fun cd3 => ?_)
        · skip
          have hend9 := oqRv_end iv5 (by omega)
          rw [hhb.2] at hend9
          obtain ⟨htp9, m9, hm9, hrm9, -⟩ := hend9
          have htp8 : (t.1 71 58).toInt = ((1 : Nat) : Int) := htp9
          refine r_aload_n C (j := 0) (oDec_at oX12_holds 80 rfl) rfl rfl ?_
          refine r_getF (k := 57) (b := 108) C oCl12 rfl (by decide) flX12_130 rfl rfl rfl (oDec_at oX12_holds 81 rfl) ?_
          refine r_iconst C (oDec_at oX12_holds 82 rfl) (v := k0) (by rw [qk0]; rfl) ?_
          obtain ⟨v4, ev4⟩ : ∃ z : Int64, (t).2.1 108 k0.toNatClampNeg = z := ⟨_, rfl⟩
          refine r_lald (n := 1700) C v4 rfl (by decide) rfl rfl ⟨by omega, by omega⟩ (by decide) ev4 (oDec_at oX12_holds 83 rfl) ?_
          have hv0 : v4.toInt = oqHl fa R := by rw [← hrm9, show m9 = k0.toNatClampNeg by (have h9 := n_nat k0; omega)]; exact (congrArg Int64.toInt ev4).symm
          refine r_lconst C (oDec_at oX12_holds 84 rfl) (v := j1) (by rw [qj1]; rfl) ?_
          obtain ⟨v5, ev5⟩ : ∃ z : Int32, z = lg_cmp v4 j1 := ⟨_, rfl⟩
          have hv5 := n_lcmp ev5
          refine r_lcmp C v5 (oDec_at oX12_holds 85 rfl) ev5 ?_
          refine r_pc C 156 rfl ?_
          refine r_if_ne C 163 (oDec_at oX12_holds 86 rfl) (by decide) (fun cd6 => ?_) (fun cd6 => ?_)
          · skip
            refine r_iconst C (oDec_at oX12_holds 89 rfl) (v := k0) (by rw [qk0]; rfl) ?_
            exact r_zret C (n_bool (by omega)) (oDec_at oX12_holds 90 rfl) ⟨_, rfl, ⟨by omega, by omega⟩⟩
          · skip
            refine r_iconst C (oDec_at oX12_holds 87 rfl) (v := k1) (by rw [qk1]; rfl) ?_
            refine r_goto C (tgt := 164) (oDec_at oX12_holds 88 rfl) (by decide) ?_
            exact r_zret C (n_bool (by omega)) (oDec_at oX12_holds 90 rfl) ⟨_, rfl, ⟨by omega, by omega⟩⟩
        · skip
          refine r_aload_n C (j := 0) (oDec_at oX12_holds 20 rfl) rfl rfl ?_
          refine r_getF (k := 44) (b := 102) C oCl12 rfl (by decide) flX12_108 rfl rfl rfl (oDec_at oX12_holds 21 rfl) ?_
          refine r_iload C (j := 2) (oDec_at oX12_holds 22 rfl) rfl ?_
          obtain ⟨v8, ev8⟩ : ∃ z : Int32, (t).1 102 x4.toNatClampNeg = z := ⟨_, rfl⟩
          have gv8 : (t.1 102 x4.toNatClampNeg).toInt = v8.toInt := congrArg Int32.toInt (ev8)
          have rv8 := n_rng v8
          refine r_iald (n := 3200) (lo := (-2147483648)) (hi := 2147483647) C v8 rfl (by decide) rfl rfl ⟨by omega, by omega⟩ (by decide) ev8 rfl rfl (oDec_at oX12_holds 23 rfl) (fun _ _ => ?_)
          have hf := oHd_f iv1 (by omega) (by omega) ev8 (by omega)
          refine r_istore C (lv' := [(0, .ref (oad E 71)), (3, .int x3), (4, .int x4), (5, .int v8)]) [1, 2, 3, 0] (oDec_at oX12_holds 24 rfl) (by decide) rfl ?_
          obtain ⟨U9, D9, hR9, hi9, htp9, hou9, hok9, X9, Y9, hY9, hl9, hfv9⟩ := oqRv_nx (w := v8.toInt) iv5 (by omega) hty hok hp8 hwo (by show (s.1 102 x4.toNatClampNeg).toInt = _; rw [← (iv4).1]; exact congrArg Int32.toInt ev8)
          have hok8 : (1 ≤ v8.toInt ∧ v8.toInt ≤ 6) ∨ (11 ≤ v8.toInt ∧ v8.toInt ≤ 17) ∨ (40 ≤ v8.toInt ∧ v8.toInt ≤ 47) ∨ (1000 ≤ v8.toInt ∧ v8.toInt ≤ 10999) := hok9
          have hsl9 := oqFv_l hfv9
          refine r_iload C (j := 3) (oDec_at oX12_holds 25 rfl) rfl ?_
          refine r_pc C 42 rfl ?_
          refine r_sipush C (oDec_at oX12_holds 26 rfl) (v := k1000) (by rw [qk1000]; rfl) ?_
          refine r_icmp_lt C 62 (oDec_at oX12_holds 27 rfl) (by decide) (fun cd9 => ?_) (fun cd9 => ?_)
          · skip
            refine r_iload C (j := 3) (oDec_at oX12_holds 35 rfl) rfl ?_
            refine r_bipush C (oDec_at oX12_holds 36 rfl) (v := k40) (by rw [qk40]; rfl) ?_
            refine r_icmp_lt C 87 (oDec_at oX12_holds 37 rfl) (by decide) (fun cd10 => ?_) (fun cd10 => ?_)
            · skip
              refine r_iload C (j := 3) (oDec_at oX12_holds 48 rfl) rfl ?_
              refine r_bipush C (oDec_at oX12_holds 49 rfl) (v := k17) (by rw [qk17]; rfl) ?_
              refine r_icmp_ne C 102 (oDec_at oX12_holds 50 rfl) (by decide) (fun cd11 => ?_) (fun cd11 => ?_)
              · skip
                refine r_iload C (j := 3) (oDec_at oX12_holds 55 rfl) rfl ?_
                refine r_bipush C (oDec_at oX12_holds 56 rfl) (v := k16) (by rw [qk16]; rfl) ?_
                refine r_icmp_ne C 136 (oDec_at oX12_holds 57 rfl) (by decide) (fun cd12 => ?_) (fun cd12 => ?_)
                · skip
                  have hjo9 := oqJo_of hok9 (by omega)
                  obtain ⟨a9, b9, S9, hS9, hra9, hrb9, hbb9⟩ := oqFv_jn hjo9 hY9 hfv9
                  rw [hS9] at htp9 hou9
                  obtain ⟨m9, hm9, hrm9, m8, hm8, hrm8, hou8⟩ := hou9
                  rw [List.length_cons, List.length_cons] at htp9
                  have hB9 : (t.2.1 108 (m8 + 1)).toInt = b9 := by rw [← hrm9, show m8 + 1 = m9 by omega]
                  have hA9 : (t.2.1 108 m8).toInt = a9 := hrm8
                  refine r_aload_n C (j := 0) (oDec_at oX12_holds 75 rfl) rfl rfl ?_
                  refine r_iload C (j := 3) (oDec_at oX12_holds 76 rfl) rfl ?_
                  refine r_callVv C oCl12 rfl miX12_joins mlX12_375 (ct9_X12_joins l E (t) v8 (a9) (b9) (m8) (by omega) (by omega) (by omega) (by omega) (by omega) (by omega) (by omega) (by omega)) (by decide) rfl rfl rfl (Nat.le_of_ble_eq_true rfl) (oDec_at oX12_holds 77 rfl) (fun u13 pu13 fu13 => ?_)
                  try dsimp only at pu13
                  obtain ⟨pu13_0, pu13_1⟩ := pu13
                  obtain ⟨w9, hw9, hu9⟩ := pu13_1
                  have hv9 : oqRv fa R st (x4.toInt + 1) ((t.1 71 58).toInt - 1) (oUl (t.2.1 108) m8 w9) := oqRv_put (S' := S9) hR9 hi9 (by rw [hS9, hw9]; exact oqE1_jn hjo9) hou8 (by omega) rfl (by omega)
                  have hrow9 := hu9
                  obtain ⟨v15, ev15⟩ : ∃ z : Int32, x4 + Int32.ofInt 1 = z := ⟨_, rfl⟩
                  have hv15 : v15.toInt = x4.toInt + 1 := n_inc ev15 (by decide) (by omega) (by omega)
                  refine r_iinc C (j := 2) (lv' := [(0, .ref (oad E 71)), (3, .int x3), (4, .int v15), (5, .int v8)]) v15 [1, 2, 0, 3] (oDec_at oX12_holds 78 rfl) rfl ev15 (by decide) rfl ?_
                  refine r_goto C (tgt := 20) (oDec_at oX12_holds 79 rfl) (by decide) ?_
                  refine r_pick C [0, 1, 2] rfl ?_
                  exact (ih (n - 1) (by omega)) (u13) x3 v15  (by omega) (by first | exact oHd_next iv1 (by omega) (by omega) (by assumption) (by omega) (by omega) (oFr_row fu13 rfl rfl) (oFr_row fu13 rfl rfl) (oFr_row fu13 rfl rfl) (by omega) | exact oHd_next iv1 (by omega) (by omega) (by assumption) (by omega) (by omega) rfl rfl rfl (by omega) | exact oHd_0 (by assumption) (by assumption) ek0 (by omega)) (by omega) (by omega) (by first | exact (oqTq_fr fu13 rfl iv4) | exact oqTq_0) (by first | exact oqRv.cast hv9 (by omega) (by omega) hrow9 | exact oqRv_0 (by omega) (by rw [pI_self]; omega)) (by omega)
                · skip
                  have ht16 : v8.toInt = 16 := by omega
                  rw [ht16] at hY9 hR9
                  obtain ⟨a9, S9, hS9, hb9⟩ := oqFv_16 hY9 hfv9
                  rw [hS9] at htp9 hou9
                  obtain ⟨m9, hm9, hrm9, hou8⟩ := hou9
                  rw [List.length_cons] at htp9
                  refine r_aload_n C (j := 0) (oDec_at oX12_holds 58 rfl) rfl rfl ?_
                  refine r_getF (k := 57) (b := 108) C oCl12 rfl (by decide) flX12_130 rfl rfl rfl (oDec_at oX12_holds 59 rfl) ?_
                  refine r_aload_n C (j := 0) (oDec_at oX12_holds 60 rfl) rfl rfl ?_
                  obtain ⟨v16, ev16⟩ : ∃ z : Int32, (t).1 71 58 = z := ⟨_, rfl⟩
                  have gv16 : (t.1 71 58).toInt = v16.toInt := congrArg Int32.toInt (ev16)
                  refine r_geti (k := 58) (lo := 0) (hi := 1700) C v16 oCl12 rfl (by decide) flX12_360 rfl rfl (ev16) rfl rfl (oDec_at oX12_holds 61 rfl) (fun b17 b17h => ?_)
                  refine r_iconst C (oDec_at oX12_holds 62 rfl) (v := k1) (by rw [qk1]; rfl) ?_
                  obtain ⟨v18, ev18⟩ : ∃ z : Int32, z = v16 - k1 := ⟨_, rfl⟩
                  have hv18 : v18.toInt = v16.toInt - k1.toInt := n_sub ev18 (by omega) (by omega)
                  refine r_isub C v18 (oDec_at oX12_holds 63 rfl) ev18 ?_
                  refine r_pc C 119 rfl ?_
                  refine r_lconst C (oDec_at oX12_holds 64 rfl) (v := j1) (by rw [qj1]; rfl) ?_
                  refine r_aload_n C (j := 0) (oDec_at oX12_holds 65 rfl) rfl rfl ?_
                  refine r_getF (k := 57) (b := 108) C oCl12 rfl (by decide) flX12_130 rfl rfl rfl (oDec_at oX12_holds 66 rfl) ?_
                  refine r_aload_n C (j := 0) (oDec_at oX12_holds 67 rfl) rfl rfl ?_
                  refine r_geti (k := 58) (lo := 0) (hi := 1700) C v16 oCl12 rfl (by decide) flX12_360 rfl rfl (ev16) rfl rfl (oDec_at oX12_holds 68 rfl) (fun _ _ => ?_)
                  refine r_iconst C (oDec_at oX12_holds 69 rfl) (v := k1) (by rw [qk1]; rfl) ?_
                  refine r_pc C 129 rfl ?_
                  obtain ⟨v19, ev19⟩ : ∃ z : Int32, z = v16 - k1 := ⟨_, rfl⟩
                  have hv19 : v19.toInt = v16.toInt - k1.toInt := n_sub ev19 (by omega) (by omega)
                  refine r_isub C v19 (oDec_at oX12_holds 70 rfl) ev19 ?_
                  obtain ⟨v20, ev20⟩ : ∃ z : Int64, (t).2.1 108 v19.toNatClampNeg = z := ⟨_, rfl⟩
                  refine r_lald (n := 1700) C v20 rfl (by decide) rfl rfl ⟨by omega, by omega⟩ (by decide) ev20 (oDec_at oX12_holds 71 rfl) ?_
                  have ha9 : v20.toInt = a9 := by rw [← hrm9, show m9 = v19.toNatClampNeg by (have h9 := n_nat v19; omega)]; exact (congrArg Int64.toInt ev20).symm
                  obtain ⟨v21, ev21⟩ : ∃ z : Int64, z = j1 - v20 := ⟨_, rfl⟩
                  have hv21 := n_lsub ev21 (by omega) (by omega)
                  refine r_lsub C v21 (oDec_at oX12_holds 72 rfl) ev21 ?_
                  have em9 : v18.toNatClampNeg = m9 := by (have h9 := n_nat v18; omega)
                  have hv9 : oqRv fa R st (x4.toInt + 1) (t.1 71 58).toInt (oUl (t.2.1 108) v18.toNatClampNeg v21) := oqRv_put (S' := S9) hR9 hi9 (by rw [hS9, show v21.toInt = 1 - a9 by omega]; exact oqE1_not) (by rw [em9]; exact hou8) (by omega) rfl (by omega)
                  have hrow9 := oqRowL_pu (s := t) (c := 108) (k := v18.toNatClampNeg) (v := v21)
                  refine r_last (n := 1700) C rfl (by decide) rfl rfl ⟨by omega, by omega⟩ (by decide) rfl (oDec_at oX12_holds 73 rfl) ?_
                  refine r_goto C (tgt := 142) (oDec_at oX12_holds 74 rfl) (by decide) ?_
                  have lk22 : (((pL t 108 v18.toNatClampNeg v21)).1 71 58).toInt = v16.toInt := congrArg Int32.toInt ((show ((pL t 108 v18.toNatClampNeg v21)).1 71 58 = v16 from ev16))
                  obtain ⟨v23, ev23⟩ : ∃ z : Int32, x4 + Int32.ofInt 1 = z := ⟨_, rfl⟩
                  have hv23 : v23.toInt = x4.toInt + 1 := n_inc ev23 (by decide) (by omega) (by omega)
                  refine r_iinc C (j := 2) (lv' := [(0, .ref (oad E 71)), (3, .int x3), (4, .int v23), (5, .int v8)]) v23 [1, 2, 0, 3] (oDec_at oX12_holds 78 rfl) rfl ev23 (by decide) rfl ?_
                  refine r_goto C (tgt := 20) (oDec_at oX12_holds 79 rfl) (by decide) ?_
                  refine r_pick C [0, 1, 2] rfl ?_
                  exact (ih (n - 1) (by omega)) ((pL t 108 v18.toNatClampNeg v21)) x3 v23  (by omega) (by first | exact oHd_next iv1 (by omega) (by omega) (by assumption) (by omega) (by omega) rfl rfl rfl (by omega) | exact oHd_0 (by assumption) (by assumption) ek0 (by omega)) (by omega) (by omega) (by first | exact (oqTq_fr (oFr_oneL (q := 84) (m := 9999) rfl (by rfl)) rfl iv4) | exact oqTq_0) (by first | exact oqRv.cast hv9 (by omega) (by omega) hrow9 | exact oqRv_0 (by omega) (by rw [pI_self]; omega)) (by omega)
              · skip
                refine r_aload_n C (j := 0) (oDec_at oX12_holds 51 rfl) rfl rfl ?_
                refine r_lconst C (oDec_at oX12_holds 52 rfl) (v := j1) (by rw [qj1]; rfl) ?_
                refine r_callVv C oCl12 rfl miX12_puts mlX12_367 (ct9_X12_puts l E (t) j1 (by omega)) (by decide) rfl rfl rfl (Nat.le_of_ble_eq_true rfl) (oDec_at oX12_holds 53 rfl) (fun u24 pu24 fu24 => ?_)
                try dsimp only at pu24
                obtain ⟨pu24_0, pu24_1⟩ := pu24
                have hv9 : oqRv fa R st (x4.toInt + 1) ((t.1 71 58).toInt + 1) (oUl (t.2.1 108) (t.1 71 58).toNatClampNeg j1) := oqRv_put hR9 hi9 (oqE1_val (by omega)) hou9 (by have h9 := n_nat (t.1 71 58); omega) rfl (by have h9 := n_nat (t.1 71 58); omega)
                have hrow9 := pu24_1
                refine r_goto C (tgt := 142) (oDec_at oX12_holds 54 rfl) (by decide) ?_
                obtain ⟨v26, ev26⟩ : ∃ z : Int32, x4 + Int32.ofInt 1 = z := ⟨_, rfl⟩
                have hv26 : v26.toInt = x4.toInt + 1 := n_inc ev26 (by decide) (by omega) (by omega)
                refine r_iinc C (j := 2) (lv' := [(0, .ref (oad E 71)), (3, .int x3), (4, .int v26), (5, .int v8)]) v26 [1, 2, 0, 3] (oDec_at oX12_holds 78 rfl) rfl ev26 (by decide) rfl ?_
                refine r_goto C (tgt := 20) (oDec_at oX12_holds 79 rfl) (by decide) ?_
                refine r_pick C [0, 1, 2] rfl ?_
                exact (ih (n - 1) (by omega)) (u24) x3 v26  (by omega) (by first | exact oHd_next iv1 (by omega) (by omega) (by assumption) (by omega) (by omega) (oFr_row fu24 rfl rfl) (oFr_row fu24 rfl rfl) (oFr_row fu24 rfl rfl) (by omega) | exact oHd_next iv1 (by omega) (by omega) (by assumption) (by omega) (by omega) rfl rfl rfl (by omega) | exact oHd_0 (by assumption) (by assumption) ek0 (by omega)) (by omega) (by omega) (by first | exact (oqTq_fr fu24 rfl iv4) | exact oqTq_0) (by first | exact oqRv.cast hv9 (by omega) (by omega) hrow9 | exact oqRv_0 (by omega) (by rw [pI_self]; omega)) (by omega)
            · skip
              refine r_aload_n C (j := 0) (oDec_at oX12_holds 38 rfl) rfl rfl ?_
              refine r_aload_n C (j := 0) (oDec_at oX12_holds 39 rfl) rfl rfl ?_
              refine r_getF (k := 59) (b := 109) C oCl12 rfl (by decide) flX12_133 rfl rfl rfl (oDec_at oX12_holds 40 rfl) ?_
              refine r_iload C (j := 3) (oDec_at oX12_holds 41 rfl) rfl ?_
              refine r_bipush C (oDec_at oX12_holds 42 rfl) (v := k40) (by rw [qk40]; rfl) ?_
              obtain ⟨v27, ev27⟩ : ∃ z : Int32, z = v8 - k40 := ⟨_, rfl⟩
              have hv27 : v27.toInt = v8.toInt - k40.toInt := n_sub ev27 (by omega) (by omega)
              refine r_isub C v27 (oDec_at oX12_holds 43 rfl) ev27 ?_
              refine r_pc C 79 rfl ?_
              obtain ⟨v29, ev29⟩ : ∃ z : Int32, (t).1 109 v27.toNatClampNeg = z := ⟨_, rfl⟩
              have gv29 : (t.1 109 v27.toNatClampNeg).toInt = v29.toInt := congrArg Int32.toInt (ev29)
              have rv29 := n_rng v29
              refine r_iald (n := 8) (lo := (-2147483648)) (hi := 2147483647) C v29 rfl (by decide) rfl rfl ⟨by omega, by omega⟩ (by decide) ev29 rfl rfl (oDec_at oX12_holds 44 rfl) (fun _ _ => ?_)
              have hak9 : v29.toInt = fa (v8.toInt - 40).toNat := by rw [← hp7 _ (by omega), ← (iv4).2.2.2, show (v8.toInt - 40).toNat = v27.toNatClampNeg by (have h9 := n_nat v27; omega)]; exact (congrArg Int32.toInt ev29).symm
              obtain ⟨v30, ev30⟩ : ∃ z : Int64, v29.toInt64 = z := ⟨_, rfl⟩
              have hv30 : v30.toInt = v29.toInt := n_i2l ev30
              refine r_i2l C v30 (oDec_at oX12_holds 45 rfl) ev30 ?_
              refine r_callVv C oCl12 rfl miX12_puts mlX12_367 (ct9_X12_puts l E (t) v30 (by omega)) (by decide) rfl rfl rfl (Nat.le_of_ble_eq_true rfl) (oDec_at oX12_holds 46 rfl) (fun u31 pu31 fu31 => ?_)
              try dsimp only at pu31
              obtain ⟨pu31_0, pu31_1⟩ := pu31
              have hv9 : oqRv fa R st (x4.toInt + 1) ((t.1 71 58).toInt + 1) (oUl (t.2.1 108) (t.1 71 58).toNatClampNeg v30) := oqRv_put hR9 hi9 (oqE1_fact (by omega) (by omega) (by omega)) hou9 (by have h9 := n_nat (t.1 71 58); omega) rfl (by have h9 := n_nat (t.1 71 58); omega)
              have hrow9 := pu31_1
              refine r_goto C (tgt := 142) (oDec_at oX12_holds 47 rfl) (by decide) ?_
              obtain ⟨v33, ev33⟩ : ∃ z : Int32, x4 + Int32.ofInt 1 = z := ⟨_, rfl⟩
              have hv33 : v33.toInt = x4.toInt + 1 := n_inc ev33 (by decide) (by omega) (by omega)
              refine r_iinc C (j := 2) (lv' := [(0, .ref (oad E 71)), (3, .int x3), (4, .int v33), (5, .int v8)]) v33 [1, 2, 0, 3] (oDec_at oX12_holds 78 rfl) rfl ev33 (by decide) rfl ?_
              refine r_goto C (tgt := 20) (oDec_at oX12_holds 79 rfl) (by decide) ?_
              refine r_pick C [0, 1, 2] rfl ?_
              exact (ih (n - 1) (by omega)) (u31) x3 v33  (by omega) (by first | exact oHd_next iv1 (by omega) (by omega) (by assumption) (by omega) (by omega) (oFr_row fu31 rfl rfl) (oFr_row fu31 rfl rfl) (oFr_row fu31 rfl rfl) (by omega) | exact oHd_next iv1 (by omega) (by omega) (by assumption) (by omega) (by omega) rfl rfl rfl (by omega) | exact oHd_0 (by assumption) (by assumption) ek0 (by omega)) (by omega) (by omega) (by first | exact (oqTq_fr fu31 rfl iv4) | exact oqTq_0) (by first | exact oqRv.cast hv9 (by omega) (by omega) hrow9 | exact oqRv_0 (by omega) (by rw [pI_self]; omega)) (by omega)
          · skip
            refine r_aload_n C (j := 0) (oDec_at oX12_holds 28 rfl) rfl rfl ?_
            refine r_iload C (j := 3) (oDec_at oX12_holds 29 rfl) rfl ?_
            refine r_sipush C (oDec_at oX12_holds 30 rfl) (v := k1000) (by rw [qk1000]; rfl) ?_
            obtain ⟨v34, ev34⟩ : ∃ z : Int32, z = v8 - k1000 := ⟨_, rfl⟩
            have hv34 : v34.toInt = v8.toInt - k1000.toInt := n_sub ev34 (by omega) (by omega)
            refine r_isub C v34 (oDec_at oX12_holds 31 rfl) ev34 ?_
            obtain ⟨v35, ev35⟩ : ∃ z : Int64, v34.toInt64 = z := ⟨_, rfl⟩
            have hv35 : v35.toInt = v34.toInt := n_i2l ev35
            refine r_i2l C v35 (oDec_at oX12_holds 32 rfl) ev35 ?_
            refine r_callVv C oCl12 rfl miX12_puts mlX12_367 (ct9_X12_puts l E (t) v35 (by omega)) (by decide) rfl rfl rfl (Nat.le_of_ble_eq_true rfl) (oDec_at oX12_holds 33 rfl) (fun u36 pu36 fu36 => ?_)
            try dsimp only at pu36
            obtain ⟨pu36_0, pu36_1⟩ := pu36
            refine r_pc C 59 rfl ?_
            have hv9 : oqRv fa R st (x4.toInt + 1) ((t.1 71 58).toInt + 1) (oUl (t.2.1 108) (t.1 71 58).toNatClampNeg v35) := oqRv_put hR9 hi9 (oqE1_val (by omega)) hou9 (by have h9 := n_nat (t.1 71 58); omega) rfl (by have h9 := n_nat (t.1 71 58); omega)
            have hrow9 := pu36_1
            refine r_goto C (tgt := 142) (oDec_at oX12_holds 34 rfl) (by decide) ?_
            obtain ⟨v38, ev38⟩ : ∃ z : Int32, x4 + Int32.ofInt 1 = z := ⟨_, rfl⟩
            have hv38 : v38.toInt = x4.toInt + 1 := n_inc ev38 (by decide) (by omega) (by omega)
            refine r_iinc C (j := 2) (lv' := [(0, .ref (oad E 71)), (3, .int x3), (4, .int v38), (5, .int v8)]) v38 [1, 2, 0, 3] (oDec_at oX12_holds 78 rfl) rfl ev38 (by decide) rfl ?_
            refine r_goto C (tgt := 20) (oDec_at oX12_holds 79 rfl) (by decide) ?_
            refine r_pick C [0, 1, 2] rfl ?_
            exact (ih (n - 1) (by omega)) (u36) x3 v38  (by omega) (by first | exact oHd_next iv1 (by omega) (by omega) (by assumption) (by omega) (by omega) (oFr_row fu36 rfl rfl) (oFr_row fu36 rfl rfl) (oFr_row fu36 rfl rfl) (by omega) | exact oHd_next iv1 (by omega) (by omega) (by assumption) (by omega) (by omega) rfl rfl rfl (by omega) | exact oHd_0 (by assumption) (by assumption) ek0 (by omega)) (by omega) (by omega) (by first | exact (oqTq_fr fu36 rfl iv4) | exact oqTq_0) (by first | exact oqRv.cast hv9 (by omega) (by omega) hrow9 | exact oqRv_0 (by omega) (by rw [pI_self]; omega)) (by omega)
  refine r_bipush C (oDec_at oX12_holds 0 rfl) (v := k12) (by rw [qk12]; rfl) ?_
  refine r_iload_n C (j := 1) (oDec_at oX12_holds 1 rfl) rfl rfl ?_
  obtain ⟨v39, ev39⟩ : ∃ z : Int32, z = k12 * a1 := ⟨_, rfl⟩
  have hv39 : v39.toInt = 12 * a1.toInt := n_mulK' 12 ev39 ek12 (by omega) (by omega)
  refine r_imul C v39 (oDec_at oX12_holds 2 rfl) ev39 ?_
  refine r_iload_n C (j := 2) (oDec_at oX12_holds 3 rfl) rfl rfl ?_
  obtain ⟨v40, ev40⟩ : ∃ z : Int32, z = v39 + a2 := ⟨_, rfl⟩
  have hv40 : v40.toInt = v39.toInt + a2.toInt := n_add ev40 (by omega) (by omega)
  refine r_iadd C v40 (oDec_at oX12_holds 4 rfl) ev40 ?_
  refine r_istore_n C (lv' := [(0, .ref (oad E 71)), (1, .int a1), (2, .int a2), (3, .int v40)]) [1, 2, 3, 0] (oDec_at oX12_holds 5 rfl) rfl (by decide) rfl ?_
  refine r_pc C 7 rfl ?_
  refine r_aload_n C (j := 0) (oDec_at oX12_holds 6 rfl) rfl rfl ?_
  refine r_iconst C (oDec_at oX12_holds 7 rfl) (v := k0) (by rw [qk0]; rfl) ?_
  refine r_puti (k := 58) (lo := 0) (hi := 1700) C oCl12 rfl (by decide) flX12_360 rfl rfl rfl rfl rfl rfl rfl rfl ⟨by omega, by omega⟩ (oDec_at oX12_holds 8 rfl) ?_
  refine r_aload_n C (j := 0) (oDec_at oX12_holds 9 rfl) rfl rfl ?_
  refine r_getF (k := 50) (b := 105) C oCl12 rfl (by decide) flX12_117 rfl rfl rfl (oDec_at oX12_holds 10 rfl) ?_
  refine r_iload_n C (j := 3) (oDec_at oX12_holds 11 rfl) rfl rfl ?_
  refine r_pc C 17 rfl ?_
  obtain ⟨v42, ev42⟩ : ∃ z : Int32, ((pI s 71 58 k0)).1 105 v40.toNatClampNeg = z := ⟨_, rfl⟩
  have av42 : s.1 105 v40.toNatClampNeg = v42 := ((pI_ne (a := 105) (b := v40.toNatClampNeg) (c := 71) _ _ (Or.inl (by decide)))).symm.trans ev42
  have gv42 : (s.1 105 v40.toNatClampNeg).toInt = v42.toInt := congrArg Int32.toInt (((pI_ne (a := 105) (b := v40.toNatClampNeg) (c := 71) _ _ (Or.inl (by decide)))).symm.trans ev42)
  refine r_iald (n := 48) (lo := 0) (hi := 1600) C v42 rfl (by decide) rfl rfl ⟨by omega, by omega⟩ (by decide) ev42 rfl rfl (oDec_at oX12_holds 12 rfl) (fun b41 b41h => ?_)
  have hst9 : v42.toInt = (st : Int) := by rw [← hst, show a2.toNatClampNeg = v40.toNatClampNeg by (have h9 := n_nat v40; omega)]; exact (congrArg Int32.toInt ev42).symm
  refine r_istore C (lv' := [(0, .ref (oad E 71)), (1, .int a1), (2, .int a2), (3, .int v40), (4, .int v42)]) [1, 2, 3, 4, 0] (oDec_at oX12_holds 13 rfl) (by decide) rfl ?_
  refine r_pick C [0, 3, 4] rfl ?_
  exact (key (1601 - v42.toInt).toNat) ((pI s 71 58 k0)) v40 v42  (by omega) (by first | exact oHd_0 hp0 (by assumption) ek0 (by omega)) (by omega) (by omega) (by first | exact (by assumption) | exact oqTq_0) (by first | exact oqRv.cast hv9 (by omega) (by omega) hrow9 | exact oqRv_0 (by omega) (by rw [pI_self]; omega)) (by omega)
