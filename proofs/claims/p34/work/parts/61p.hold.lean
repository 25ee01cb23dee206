set_option maxHeartbeats 4000000 in
set_option maxRecDepth 100000 in
theorem ct9_X0_factAt (l : Launch) (E : oE) (s : oS) (c0 q0 n0 : Nat) (hk0 : okd c0 = q0) (h13_0 : 13 ≤ q0) (h9_0 : q0 < 999) (ht0 : oat q0 = 0) (hn0 : oln q0 = n0) (a1 : Int32)  (hp0 : n0 ≤ 10000) : oMet l 1 yX0_factAt cX0_factAt 2 (some .int) [] E s [.ref (oad E c0), .int a1] (oPi (fun r u => ((0 ≤ a1.toInt ∧ a1.toInt < (n0 : Int)) → r.toInt = (s.1 c0 a1.toNatClampNeg).toInt))) := by
  refine oMet.of (lv := [(0, .ref (oad E c0)), (1, .int a1)]) (by decide +kernel) (Nat.le_of_ble_eq_true rfl) rfl (fun J C hT => ?_)
  have C : oC l 1 cX0_factAt RX0 2 (some .int) [] E s (oPi (fun r u => ((0 ≤ a1.toInt ∧ a1.toInt < (n0 : Int)) → r.toInt = (s.1 c0 a1.toNatClampNeg).toInt))) J := C
  obtain ⟨k0, qk0⟩ : ∃ z : Int32, z = 0 := ⟨_, rfl⟩
  have ek0 : k0.toInt = 0 := by rw [qk0]; rfl
  have rg1 := n_rng a1
  refine r_iload_n C (j := 1) (oDec_at oX0_factAt 0 rfl) rfl rfl ?_
  refine r_if_lt C 16 (oDec_at oX0_factAt 1 rfl) (by decide) (fun cd1 => ?_) (fun cd1 => ?_)
  · skip
    refine r_iconst C (oDec_at oX0_factAt 10 rfl) (v := k0) (by rw [qk0]; rfl) ?_
    exact r_iret C (oDec_at oX0_factAt 11 rfl) ⟨_, rfl, by first | (intro h9; exfalso; omega) | exact fun _ => (congrArg Int32.toInt ek0).symm⟩
  · skip
    refine r_iload_n C (j := 1) (oDec_at oX0_factAt 2 rfl) rfl rfl ?_
    refine r_aload_n C (j := 0) (oDec_at oX0_factAt 3 rfl) rfl rfl ?_
    obtain ⟨v2, ev2⟩ : ∃ z : Int32, Int32.ofNat n0 = z := ⟨_, rfl⟩
    have hv2 : v2.toInt = (n0 : Int) := n_ofNat ev2 (by omega)
    refine r_alen0 (n := n0) C v2 hk0 h13_0 ht0 hn0 h9_0 ev2 (oDec_at oX0_factAt 4 rfl) ?_
    refine r_icmp_ge C 16 (oDec_at oX0_factAt 5 rfl) (by decide) (fun cd3 => ?_) (fun cd3 => ?_)
    · skip
      refine r_iconst C (oDec_at oX0_factAt 10 rfl) (v := k0) (by rw [qk0]; rfl) ?_
      exact r_iret C (oDec_at oX0_factAt 11 rfl) ⟨_, rfl, by first | (intro h9; exfalso; omega) | exact fun _ => (congrArg Int32.toInt ek0).symm⟩
    · skip
      refine r_aload_n C (j := 0) (oDec_at oX0_factAt 6 rfl) rfl rfl ?_
      refine r_iload_n C (j := 1) (oDec_at oX0_factAt 7 rfl) rfl rfl ?_
      obtain ⟨v5, ev5⟩ : ∃ z : Int32, (s).1 c0 a1.toNatClampNeg = z := ⟨_, rfl⟩
      have gv5 : (s.1 c0 a1.toNatClampNeg).toInt = v5.toInt := congrArg Int32.toInt (ev5)
      have rv5 := n_rng v5
      refine r_iald (n := n0)  C v5 hk0 h13_0 ht0 hn0 ⟨by omega, by omega⟩ h9_0 ev5 rfl rfl (oDec_at oX0_factAt 8 rfl) (fun _ _ => ?_)
      have rv5 := n_rng v5
      refine r_goto C (tgt := 17) (oDec_at oX0_factAt 9 rfl) (by decide) ?_
      exact r_iret C (oDec_at oX0_factAt 11 rfl) ⟨_, rfl, by first | (intro h9; exfalso; omega) | exact fun _ => (congrArg Int32.toInt ev5).symm⟩
set_option maxHeartbeats 4000000 in
set_option maxRecDepth 100000 in
theorem ct9_X0_holds (l : Launch) (E : oE) (s : oS) (c0 : Nat) (hk0 : okd c0 = 0) (a1 : Int32) (c2 q2 n2 : Nat) (hk2 : okd c2 = q2) (h13_2 : 13 ≤ q2) (h9_2 : q2 < 999) (ht2 : oat q2 = 0) (hn2 : oln q2 = n2) (fa : Nat → Int) (R : List Int) (hp0 : n2 = 8) (hp1 : q2 ≠ 24) (hp2 : 0 ≤ a1.toInt ∧ a1.toInt < 18) (hp3 : oqTst c0 a1.toNatClampNeg R s) (hp4 : ∀ i : Nat, i < 8 → (s.1 c2 i).toInt = fa i) (hp5 : ∀ i : Nat, i < 8 → -1000000 ≤ fa i ∧ fa i ≤ 1000000) : oMet l 3 yX0_holds cX0_holds 6 (some .boolean) [(24, 9999)] E s [.ref (oad E c0), .int a1, .ref (oad E c2)] (oPi (fun r u => (0 ≤ r.toInt ∧ r.toInt ≤ 1) ∧ (r.toInt = oqHl fa R))) := by
  refine oMet.of (lv := [(0, .ref (oad E c0)), (1, .int a1), (2, .ref (oad E c2))]) (by decide +kernel) (Nat.le_of_ble_eq_true rfl) rfl (fun J C hT => ?_)
  have C : oC l 3 cX0_holds RX0 6 (some .boolean) [(24, 9999)] E s (oPi (fun r u => (0 ≤ r.toInt ∧ r.toInt ≤ 1) ∧ (r.toInt = oqHl fa R))) J := C
  obtain ⟨k0, qk0⟩ : ∃ z : Int32, z = 0 := ⟨_, rfl⟩
  have ek0 : k0.toInt = 0 := by rw [qk0]; rfl
  obtain ⟨k1, qk1⟩ : ∃ z : Int32, z = 1 := ⟨_, rfl⟩
  have ek1 : k1.toInt = 1 := by rw [qk1]; rfl
  obtain ⟨k18, qk18⟩ : ∃ z : Int32, z = 18 := ⟨_, rfl⟩
  have ek18 : k18.toInt = 18 := by rw [qk18]; rfl
  obtain ⟨k10000, qk10000⟩ : ∃ z : Int32, z = 10000 := ⟨_, rfl⟩
  have ek10000 : k10000.toInt = 10000 := by rw [qk10000]; rfl
  obtain ⟨k10020, qk10020⟩ : ∃ z : Int32, z = 10020 := ⟨_, rfl⟩
  have ek10020 : k10020.toInt = 10020 := by rw [qk10020]; rfl
  have rg1 := n_rng a1
  obtain ⟨hkc, hty, hok, st, hst, hen, hle, hwo⟩ := id hp3
  have hc2 : c2 ≠ c0 + 5 := okd_ne hk2 (kr0_5 hk0) hp1
  have hhb := oqHl_b hp5 hty hok
  have key : ∀ n : Nat, (∀ (t : oS) (x3 : Int32) (x4 : Int32), (0 ≤ x3.toInt ∧ x3.toInt ≤ 64) → (0 ≤ x4.toInt) → (0 ≤ a1.toInt ∧ a1.toInt < 18) → (oqTr c0 c2 s t) → (oqHv fa R st x4.toInt x3.toInt (t.1 (c0 + 5))) → 2147483648 - x4.toInt ≤ (n : Int) → J t 22 [(0, .ref (oad E c0)), (1, .int a1), (2, .ref (oad E c2)), (3, .int x3), (4, .int x4)] []) := by
    intro n
    induction n using Nat.strongRecOn with
    | _ n ih =>
      skip
      · intro t x3 x4  iv0 iv1 iv2 iv3 iv4 hmu
        have rx3 := n_rng x3
        have rx4 := n_rng x4
        refine r_iload C (j := 4) (oDec_at oX0_holds 14 rfl) rfl ?_
        refine r_aload_n C (j := 0) (oDec_at oX0_holds 15 rfl) rfl rfl ?_
        refine r_getR (k := 3) (b := 3) C oCl0 hk0 (by decide) flX0_20 rfl rfl rfl (oDec_at oX0_holds 16 rfl) ?_
        refine r_iload_n C (j := 1) (oDec_at oX0_holds 17 rfl) rfl rfl ?_
        obtain ⟨v2, ev2⟩ : ∃ z : Int32, (t).1 (c0 + 3) a1.toNatClampNeg = z := ⟨_, rfl⟩
        have gv2 : (t.1 (c0 + 3) a1.toNatClampNeg).toInt = v2.toInt := congrArg Int32.toInt (ev2)
        have rv2 := n_rng v2
        refine r_iald (n := 18) (lo := (-2147483648)) (hi := 2147483647) C v2 (kr0_3 hk0) (by decide) rfl rfl ⟨by omega, by omega⟩ (by decide) ev2 rfl rfl (oDec_at oX0_holds 18 rfl) (fun _ _ => ?_)
        have hen9 : v2.toInt = (st : Int) + (R.length : Int) := by rw [← ev2, (iv3).2.2.1]; exact hen
        refine r_icmp_ge C 178 (oDec_at oX0_holds 19 rfl) (by decide) (fun cd3 => ?_) (fun cd3 => ?_)
        · skip
          have hend9 := oqHv_end iv4 (by omega)
          rw [hhb.2] at hend9
          obtain ⟨htp9, m9, hm9, hrm9, -⟩ := hend9
          have htp8 : x3.toInt = ((1 : Nat) : Int) := htp9
          refine r_iload_n C (j := 3) (oDec_at oX0_holds 98 rfl) rfl rfl ?_
          refine r_if_le C 196 (oDec_at oX0_holds 99 rfl) (by decide) (fun cd4 => ?_) (fun cd4 => ?_)
          · skip
            refine r_iconst C (oDec_at oX0_holds 108 rfl) (v := k0) (by rw [qk0]; rfl) ?_
            exact r_zret C (n_bool (by omega)) (oDec_at oX0_holds 109 rfl) ⟨_, rfl, ⟨by omega, by omega⟩⟩
          · skip
            refine r_aload_n C (j := 0) (oDec_at oX0_holds 100 rfl) rfl rfl ?_
            refine r_getR (k := 5) (b := 5) C oCl0 hk0 (by decide) flX0_26 rfl rfl rfl (oDec_at oX0_holds 101 rfl) ?_
            refine r_iconst C (oDec_at oX0_holds 102 rfl) (v := k0) (by rw [qk0]; rfl) ?_
            obtain ⟨v6, ev6⟩ : ∃ z : Int32, (t).1 (c0 + 5) k0.toNatClampNeg = z := ⟨_, rfl⟩
            have gv6 : (t.1 (c0 + 5) k0.toNatClampNeg).toInt = v6.toInt := congrArg Int32.toInt (ev6)
            have rv6 := n_rng v6
            refine r_iald (n := 64) (lo := (-2147483648)) (hi := 2147483647) C v6 (kr0_5 hk0) (by decide) rfl rfl ⟨by omega, by omega⟩ (by decide) ev6 rfl rfl (oDec_at oX0_holds 103 rfl) (fun _ _ => ?_)
            have hv0 : v6.toInt = oqHl fa R := by rw [← hrm9, show m9 = k0.toNatClampNeg by (have h9 := n_nat k0; omega)]; exact (congrArg Int32.toInt ev6).symm
            refine r_iconst C (oDec_at oX0_holds 104 rfl) (v := k1) (by rw [qk1]; rfl) ?_
            refine r_icmp_ne C 196 (oDec_at oX0_holds 105 rfl) (by decide) (fun cd7 => ?_) (fun cd7 => ?_)
            · skip
              refine r_iconst C (oDec_at oX0_holds 108 rfl) (v := k0) (by rw [qk0]; rfl) ?_
              exact r_zret C (n_bool (by omega)) (oDec_at oX0_holds 109 rfl) ⟨_, rfl, ⟨by omega, by omega⟩⟩
            · skip
              refine r_iconst C (oDec_at oX0_holds 106 rfl) (v := k1) (by rw [qk1]; rfl) ?_
              refine r_goto C (tgt := 197) (oDec_at oX0_holds 107 rfl) (by decide) ?_
              exact r_zret C (n_bool (by omega)) (oDec_at oX0_holds 109 rfl) ⟨_, rfl, ⟨by omega, by omega⟩⟩
        · skip
          refine r_iload C (j := 4) (oDec_at oX0_holds 20 rfl) rfl ?_
          refine r_aload_n C (j := 0) (oDec_at oX0_holds 21 rfl) rfl rfl ?_
          refine r_getR (k := 0) (b := 1) C oCl0 hk0 (by decide) flX0_11 rfl rfl rfl (oDec_at oX0_holds 22 rfl) ?_
          obtain ⟨v8, ev8⟩ : ∃ z : Int32, Int32.ofNat 1600 = z := ⟨_, rfl⟩
          have hv8 : v8.toInt = 1600 := by rw [← ev8]; rfl
          refine r_alen0 (n := 1600) C v8 (kr0_1 hk0) (by decide) rfl rfl (by decide) ev8 (oDec_at oX0_holds 23 rfl) ?_
          refine r_icmp_ge C 178 (oDec_at oX0_holds 24 rfl) (by decide) (fun cd9 => ?_) (fun cd9 => ?_)
          · skip
            have hend9 := oqHv_end iv4 (by omega)
            rw [hhb.2] at hend9
            obtain ⟨htp9, m9, hm9, hrm9, -⟩ := hend9
            have htp8 : x3.toInt = ((1 : Nat) : Int) := htp9
            refine r_iload_n C (j := 3) (oDec_at oX0_holds 98 rfl) rfl rfl ?_
            refine r_if_le C 196 (oDec_at oX0_holds 99 rfl) (by decide) (fun cd10 => ?_) (fun cd10 => ?_)
            · skip
              refine r_iconst C (oDec_at oX0_holds 108 rfl) (v := k0) (by rw [qk0]; rfl) ?_
              exact r_zret C (n_bool (by omega)) (oDec_at oX0_holds 109 rfl) ⟨_, rfl, ⟨by omega, by omega⟩⟩
            · skip
              refine r_aload_n C (j := 0) (oDec_at oX0_holds 100 rfl) rfl rfl ?_
              refine r_getR (k := 5) (b := 5) C oCl0 hk0 (by decide) flX0_26 rfl rfl rfl (oDec_at oX0_holds 101 rfl) ?_
              refine r_iconst C (oDec_at oX0_holds 102 rfl) (v := k0) (by rw [qk0]; rfl) ?_
              obtain ⟨v12, ev12⟩ : ∃ z : Int32, (t).1 (c0 + 5) k0.toNatClampNeg = z := ⟨_, rfl⟩
              have gv12 : (t.1 (c0 + 5) k0.toNatClampNeg).toInt = v12.toInt := congrArg Int32.toInt (ev12)
              have rv12 := n_rng v12
              refine r_iald (n := 64) (lo := (-2147483648)) (hi := 2147483647) C v12 (kr0_5 hk0) (by decide) rfl rfl ⟨by omega, by omega⟩ (by decide) ev12 rfl rfl (oDec_at oX0_holds 103 rfl) (fun _ _ => ?_)
              have hv0 : v12.toInt = oqHl fa R := by rw [← hrm9, show m9 = k0.toNatClampNeg by (have h9 := n_nat k0; omega)]; exact (congrArg Int32.toInt ev12).symm
              refine r_iconst C (oDec_at oX0_holds 104 rfl) (v := k1) (by rw [qk1]; rfl) ?_
              refine r_icmp_ne C 196 (oDec_at oX0_holds 105 rfl) (by decide) (fun cd13 => ?_) (fun cd13 => ?_)
              · skip
                refine r_iconst C (oDec_at oX0_holds 108 rfl) (v := k0) (by rw [qk0]; rfl) ?_
                exact r_zret C (n_bool (by omega)) (oDec_at oX0_holds 109 rfl) ⟨_, rfl, ⟨by omega, by omega⟩⟩
              · skip
                refine r_iconst C (oDec_at oX0_holds 106 rfl) (v := k1) (by rw [qk1]; rfl) ?_
                refine r_goto C (tgt := 197) (oDec_at oX0_holds 107 rfl) (by decide) ?_
                exact r_zret C (n_bool (by omega)) (oDec_at oX0_holds 109 rfl) ⟨_, rfl, ⟨by omega, by omega⟩⟩
          · skip
            refine r_aload_n C (j := 0) (oDec_at oX0_holds 25 rfl) rfl rfl ?_
            refine r_getR (k := 0) (b := 1) C oCl0 hk0 (by decide) flX0_11 rfl rfl rfl (oDec_at oX0_holds 26 rfl) ?_
            refine r_iload C (j := 4) (oDec_at oX0_holds 27 rfl) rfl ?_
            obtain ⟨v15, ev15⟩ : ∃ z : Int32, (t).1 (c0 + 1) x4.toNatClampNeg = z := ⟨_, rfl⟩
            have gv15 : (t.1 (c0 + 1) x4.toNatClampNeg).toInt = v15.toInt := congrArg Int32.toInt (ev15)
            have rv15 := n_rng v15
            refine r_iald (n := 1600) (lo := (-2147483648)) (hi := 2147483647) C v15 (kr0_1 hk0) (by decide) rfl rfl ⟨by omega, by omega⟩ (by decide) ev15 rfl rfl (oDec_at oX0_holds 28 rfl) (fun _ _ => ?_)
            refine r_istore C (lv' := [(0, .ref (oad E c0)), (1, .int a1), (2, .ref (oad E c2)), (3, .int x3), (4, .int x4), (5, .int v15)]) [1, 2, 3, 4, 5, 0] (oDec_at oX0_holds 29 rfl) (by decide) rfl ?_
            obtain ⟨U9, t9, D9, hR9, hi9, htp9, hou9, hw9, hok9, X9, Y9, hY9, hl9, hfv9⟩ := oqHv_nx (w := v15.toInt) iv4 (by omega) hty hok hp5 hwo (by show (s.1 (c0 + 1) x4.toNatClampNeg).toInt = _; rw [← (iv3).1]; exact congrArg Int32.toInt ev15)
            have htc9 := oqTau_cl hok9 hw9
            have hsl9 := oqFv_l hfv9
            refine r_iload C (j := 5) (oDec_at oX0_holds 30 rfl) rfl ?_
            refine r_pc C 54 rfl ?_
            refine r_sipush C (oDec_at oX0_holds 31 rfl) (v := k10020) (by rw [qk10020]; rfl) ?_
            refine r_icmp_ge C 104 (oDec_at oX0_holds 32 rfl) (by decide) (fun cd16 => ?_) (fun cd16 => ?_)
            · skip
              refine r_iload C (j := 5) (oDec_at oX0_holds 54 rfl) rfl ?_
              refine r_sipush C (oDec_at oX0_holds 55 rfl) (v := k10020) (by rw [qk10020]; rfl) ?_
              refine r_icmp_ne C 137 (oDec_at oX0_holds 56 rfl) (by decide) (fun cd17 => ?_) (fun cd17 => ?_)
              · skip
                have hjo9 : oqJo t9 := htc9.2.2.2.1 (by omega)
                obtain ⟨a9, b9, S9, hS9, hra9, hrb9, hbb9⟩ := oqFv_jn hjo9 hY9 hfv9
                rw [hS9] at htp9 hou9
                obtain ⟨m9, hm9, hrm9, m8, hm8, hrm8, hou8⟩ := hou9
                rw [List.length_cons, List.length_cons] at htp9
                refine r_iload_n C (j := 3) (oDec_at oX0_holds 74 rfl) rfl rfl ?_
                refine r_iconst C (oDec_at oX0_holds 75 rfl) (v := k1) (by rw [qk1]; rfl) ?_
                refine r_icmp_le C 172 (oDec_at oX0_holds 76 rfl) (by decide) (fun cd18 => ?_) (fun cd18 => ?_)
                · skip
                  obtain ⟨v19, ev19⟩ : ∃ z : Int32, x4 + Int32.ofInt 1 = z := ⟨_, rfl⟩
                  have hv19 : v19.toInt = x4.toInt + 1 := n_inc ev19 (by decide) (by omega) (by omega)
                  refine r_iinc C (j := 4) (lv' := [(0, .ref (oad E c0)), (1, .int a1), (2, .ref (oad E c2)), (3, .int x3), (4, .int v19), (5, .int v15)]) v19 [1, 2, 3, 4, 0, 5] (oDec_at oX0_holds 96 rfl) rfl ev19 (by decide) rfl ?_
                  refine r_goto C (tgt := 22) (oDec_at oX0_holds 97 rfl) (by decide) ?_
                  refine r_pick C [0, 1, 2, 3, 4] rfl ?_
                  exact (ih (n - 1) (by omega)) (t) x3 v19  (by omega) (by omega) (by omega) (by first | exact oqTr_pu iv3 hc2 | exact iv3 | exact oqTr_0) (by first | exact oqHv.cast hv9 (by omega) (by omega) (by first | exact oqRow_pu | rfl) | exact oqHv_0 (by omega) (by omega) | (exfalso; omega)) (by omega)
                · skip
                  obtain ⟨v20, ev20⟩ : ∃ z : Int32, x3 + Int32.ofInt (-1) = z := ⟨_, rfl⟩
                  have hv20 : v20.toInt = x3.toInt + (-1) := n_inc ev20 (by decide) (by omega) (by omega)
                  refine r_iinc C (j := 3) (lv' := [(0, .ref (oad E c0)), (1, .int a1), (2, .ref (oad E c2)), (3, .int v20), (4, .int x4), (5, .int v15)]) v20 [1, 2, 3, 0, 4, 5] (oDec_at oX0_holds 77 rfl) rfl ev20 (by decide) rfl ?_
                  refine r_aload_n C (j := 0) (oDec_at oX0_holds 78 rfl) rfl rfl ?_
                  refine r_getR (k := 5) (b := 5) C oCl0 hk0 (by decide) flX0_26 rfl rfl rfl (oDec_at oX0_holds 79 rfl) ?_
                  refine r_iload_n C (j := 3) (oDec_at oX0_holds 80 rfl) rfl rfl ?_
                  refine r_iconst C (oDec_at oX0_holds 81 rfl) (v := k1) (by rw [qk1]; rfl) ?_
                  obtain ⟨v21, ev21⟩ : ∃ z : Int32, z = v20 - k1 := ⟨_, rfl⟩
                  have hv21 : v21.toInt = v20.toInt - k1.toInt := n_sub ev21 (by omega) (by omega)
                  refine r_isub C v21 (oDec_at oX0_holds 82 rfl) ev21 ?_
                  refine r_pc C 152 rfl ?_
                  refine r_iload C (j := 5) (oDec_at oX0_holds 83 rfl) rfl ?_
                  refine r_aload_n C (j := 0) (oDec_at oX0_holds 84 rfl) rfl rfl ?_
                  refine r_getR (k := 5) (b := 5) C oCl0 hk0 (by decide) flX0_26 rfl rfl rfl (oDec_at oX0_holds 85 rfl) ?_
                  refine r_iload_n C (j := 3) (oDec_at oX0_holds 86 rfl) rfl rfl ?_
                  refine r_iconst C (oDec_at oX0_holds 87 rfl) (v := k1) (by rw [qk1]; rfl) ?_
                  obtain ⟨v22, ev22⟩ : ∃ z : Int32, z = v20 - k1 := ⟨_, rfl⟩
                  have hv22 : v22.toInt = v20.toInt - k1.toInt := n_sub ev22 (by omega) (by omega)
                  refine r_isub C v22 (oDec_at oX0_holds 88 rfl) ev22 ?_
                  refine r_pc C 161 rfl ?_
                  obtain ⟨v24, ev24⟩ : ∃ z : Int32, (t).1 (c0 + 5) v22.toNatClampNeg = z := ⟨_, rfl⟩
                  have gv24 : (t.1 (c0 + 5) v22.toNatClampNeg).toInt = v24.toInt := congrArg Int32.toInt (ev24)
                  have rv24 := n_rng v24
                  refine r_iald (n := 64) (lo := (-2147483648)) (hi := 2147483647) C v24 (kr0_5 hk0) (by decide) rfl rfl ⟨by omega, by omega⟩ (by decide) ev24 rfl rfl (oDec_at oX0_holds 89 rfl) (fun _ _ => ?_)
                  have ha9 : v24.toInt = a9 := by rw [← hrm8, show m8 = v22.toNatClampNeg by (have h9 := n_nat v22; omega)]; exact (congrArg Int32.toInt ev24).symm
                  refine r_aload_n C (j := 0) (oDec_at oX0_holds 90 rfl) rfl rfl ?_
                  refine r_getR (k := 5) (b := 5) C oCl0 hk0 (by decide) flX0_26 rfl rfl rfl (oDec_at oX0_holds 91 rfl) ?_
                  refine r_iload_n C (j := 3) (oDec_at oX0_holds 92 rfl) rfl rfl ?_
                  obtain ⟨v26, ev26⟩ : ∃ z : Int32, (t).1 (c0 + 5) v20.toNatClampNeg = z := ⟨_, rfl⟩
                  have gv26 : (t.1 (c0 + 5) v20.toNatClampNeg).toInt = v26.toInt := congrArg Int32.toInt (ev26)
                  have rv26 := n_rng v26
                  refine r_iald (n := 64) (lo := (-2147483648)) (hi := 2147483647) C v26 (kr0_5 hk0) (by decide) rfl rfl ⟨by omega, by omega⟩ (by decide) ev26 rfl rfl (oDec_at oX0_holds 93 rfl) (fun _ _ => ?_)
                  have hb9 : v26.toInt = b9 := by rw [← hrm9, show m9 = v20.toNatClampNeg by (have h9 := n_nat v20; omega)]; exact (congrArg Int32.toInt ev26).symm
                  refine r_callSi C miX0_join mlX0_46 (ct9_X0_join l E (t) v15 v24 v26 (t9) (by omega) (by omega) (by omega) (by omega) (by omega)) (by decide) rfl rfl rfl (Nat.le_of_ble_eq_true rfl) (oDec_at oX0_holds 94 rfl) (fun r28 u27 pu27 fu27 => ?_)
                  try dsimp only at pu27
                  have hxu27 := oFr_nil fu27; subst hxu27
                  have rr28 := n_rng r28
                  refine r_pc C 171 rfl ?_
                  have em8 : v21.toNatClampNeg = m8 := by (have h9 := n_nat v21; omega)
                  have hj9 : r28.toInt = oqJn t9 a9 b9 := by rw [← ha9, ← hb9]; exact pu27
                  have hv9 : oqHv fa R st (x4.toInt + 1) v20.toInt (oU (t.1 (c0 + 5)) v21.toNatClampNeg r28) := oqHv_put (S' := S9) hR9 hi9 (by rw [hS9, hj9]; exact oqE1_jn hjo9) (by rw [em8]; exact hou8) (by omega) rfl (by omega)
                  refine r_iast (n := 64) (lo := (-2147483648)) (hi := 2147483647) C (kr0_5 hk0) (by decide) rfl rfl ⟨by omega, by omega⟩ (by decide) rfl rfl rfl rfl (n_rng _) (oDec_at oX0_holds 95 rfl) ?_
                  obtain ⟨v29, ev29⟩ : ∃ z : Int32, x4 + Int32.ofInt 1 = z := ⟨_, rfl⟩
                  have hv29 : v29.toInt = x4.toInt + 1 := n_inc ev29 (by decide) (by omega) (by omega)
                  refine r_iinc C (j := 4) (lv' := [(0, .ref (oad E c0)), (1, .int a1), (2, .ref (oad E c2)), (3, .int v20), (4, .int v29), (5, .int v15)]) v29 [1, 2, 3, 4, 0, 5] (oDec_at oX0_holds 96 rfl) rfl ev29 (by decide) rfl ?_
                  refine r_goto C (tgt := 22) (oDec_at oX0_holds 97 rfl) (by decide) ?_
                  refine r_pick C [0, 1, 2, 3, 4] rfl ?_
                  exact (ih (n - 1) (by omega)) ((pI t (c0 + 5) v21.toNatClampNeg r28)) v20 v29  (by omega) (by omega) (by omega) (by first | exact oqTr_pu iv3 hc2 | exact iv3 | exact oqTr_0) (by first | exact oqHv.cast hv9 (by omega) (by omega) (by first | exact oqRow_pu | rfl) | exact oqHv_0 (by omega) (by omega) | (exfalso; omega)) (by omega)
              · skip
                have ht16 : t9 = 16 := by omega
                subst ht16
                obtain ⟨a9, S9, hS9, hb9⟩ := oqFv_16 hY9 hfv9
                rw [hS9] at htp9 hou9
                obtain ⟨m9, hm9, hrm9, hou8⟩ := hou9
                rw [List.length_cons] at htp9
                refine r_iload_n C (j := 3) (oDec_at oX0_holds 57 rfl) rfl rfl ?_
                refine r_if_le C 172 (oDec_at oX0_holds 58 rfl) (by decide) (fun cd30 => ?_) (fun cd30 => ?_)
                · skip
                  obtain ⟨v31, ev31⟩ : ∃ z : Int32, x4 + Int32.ofInt 1 = z := ⟨_, rfl⟩
                  have hv31 : v31.toInt = x4.toInt + 1 := n_inc ev31 (by decide) (by omega) (by omega)
                  refine r_iinc C (j := 4) (lv' := [(0, .ref (oad E c0)), (1, .int a1), (2, .ref (oad E c2)), (3, .int x3), (4, .int v31), (5, .int v15)]) v31 [1, 2, 3, 4, 0, 5] (oDec_at oX0_holds 96 rfl) rfl ev31 (by decide) rfl ?_
                  refine r_goto C (tgt := 22) (oDec_at oX0_holds 97 rfl) (by decide) ?_
                  refine r_pick C [0, 1, 2, 3, 4] rfl ?_
                  exact (ih (n - 1) (by omega)) (t) x3 v31  (by omega) (by omega) (by omega) (by first | exact oqTr_pu iv3 hc2 | exact iv3 | exact oqTr_0) (by first | exact oqHv.cast hv9 (by omega) (by omega) (by first | exact oqRow_pu | rfl) | exact oqHv_0 (by omega) (by omega) | (exfalso; omega)) (by omega)
                · skip
                  refine r_aload_n C (j := 0) (oDec_at oX0_holds 59 rfl) rfl rfl ?_
                  refine r_getR (k := 5) (b := 5) C oCl0 hk0 (by decide) flX0_26 rfl rfl rfl (oDec_at oX0_holds 60 rfl) ?_
                  refine r_iload_n C (j := 3) (oDec_at oX0_holds 61 rfl) rfl rfl ?_
                  refine r_iconst C (oDec_at oX0_holds 62 rfl) (v := k1) (by rw [qk1]; rfl) ?_
                  obtain ⟨v32, ev32⟩ : ∃ z : Int32, z = x3 - k1 := ⟨_, rfl⟩
                  have hv32 : v32.toInt = x3.toInt - k1.toInt := n_sub ev32 (by omega) (by omega)
                  refine r_isub C v32 (oDec_at oX0_holds 63 rfl) ev32 ?_
                  refine r_iconst C (oDec_at oX0_holds 64 rfl) (v := k1) (by rw [qk1]; rfl) ?_
                  refine r_pc C 124 rfl ?_
                  refine r_aload_n C (j := 0) (oDec_at oX0_holds 65 rfl) rfl rfl ?_
                  refine r_getR (k := 5) (b := 5) C oCl0 hk0 (by decide) flX0_26 rfl rfl rfl (oDec_at oX0_holds 66 rfl) ?_
                  refine r_iload_n C (j := 3) (oDec_at oX0_holds 67 rfl) rfl rfl ?_
                  refine r_iconst C (oDec_at oX0_holds 68 rfl) (v := k1) (by rw [qk1]; rfl) ?_
                  obtain ⟨v33, ev33⟩ : ∃ z : Int32, z = x3 - k1 := ⟨_, rfl⟩
                  have hv33 : v33.toInt = x3.toInt - k1.toInt := n_sub ev33 (by omega) (by omega)
                  refine r_isub C v33 (oDec_at oX0_holds 69 rfl) ev33 ?_
                  obtain ⟨v35, ev35⟩ : ∃ z : Int32, (t).1 (c0 + 5) v33.toNatClampNeg = z := ⟨_, rfl⟩
                  have gv35 : (t.1 (c0 + 5) v33.toNatClampNeg).toInt = v35.toInt := congrArg Int32.toInt (ev35)
                  have rv35 := n_rng v35
                  refine r_iald (n := 64) (lo := (-2147483648)) (hi := 2147483647) C v35 (kr0_5 hk0) (by decide) rfl rfl ⟨by omega, by omega⟩ (by decide) ev35 rfl rfl (oDec_at oX0_holds 70 rfl) (fun _ _ => ?_)
                  refine r_pc C 132 rfl ?_
                  have ha9 : v35.toInt = a9 := by rw [← hrm9, show m9 = v33.toNatClampNeg by (have h9 := n_nat v33; omega)]; exact (congrArg Int32.toInt ev35).symm
                  obtain ⟨v36, ev36⟩ : ∃ z : Int32, z = k1 - v35 := ⟨_, rfl⟩
                  have hv36 : v36.toInt = k1.toInt - v35.toInt := n_sub ev36 (by omega) (by omega)
                  refine r_isub C v36 (oDec_at oX0_holds 71 rfl) ev36 ?_
                  have em9 : v32.toNatClampNeg = m9 := by (have h9 := n_nat v32; omega)
                  have hv9 : oqHv fa R st (x4.toInt + 1) x3.toInt (oU (t.1 (c0 + 5)) v32.toNatClampNeg v36) := oqHv_put (S' := S9) hR9 hi9 (by rw [hS9, show v36.toInt = 1 - a9 by omega]; exact oqE1_not) (by rw [em9]; exact hou8) (by omega) rfl (by omega)
                  refine r_iast (n := 64) (lo := (-2147483648)) (hi := 2147483647) C (kr0_5 hk0) (by decide) rfl rfl ⟨by omega, by omega⟩ (by decide) rfl rfl rfl rfl (n_rng _) (oDec_at oX0_holds 72 rfl) ?_
                  refine r_goto C (tgt := 172) (oDec_at oX0_holds 73 rfl) (by decide) ?_
                  obtain ⟨v37, ev37⟩ : ∃ z : Int32, x4 + Int32.ofInt 1 = z := ⟨_, rfl⟩
                  have hv37 : v37.toInt = x4.toInt + 1 := n_inc ev37 (by decide) (by omega) (by omega)
                  refine r_iinc C (j := 4) (lv' := [(0, .ref (oad E c0)), (1, .int a1), (2, .ref (oad E c2)), (3, .int x3), (4, .int v37), (5, .int v15)]) v37 [1, 2, 3, 4, 0, 5] (oDec_at oX0_holds 96 rfl) rfl ev37 (by decide) rfl ?_
                  refine r_goto C (tgt := 22) (oDec_at oX0_holds 97 rfl) (by decide) ?_
                  refine r_pick C [0, 1, 2, 3, 4] rfl ?_
                  exact (ih (n - 1) (by omega)) ((pI t (c0 + 5) v32.toNatClampNeg v36)) x3 v37  (by omega) (by omega) (by omega) (by first | exact oqTr_pu iv3 hc2 | exact iv3 | exact oqTr_0) (by first | exact oqHv.cast hv9 (by omega) (by omega) (by first | exact oqRow_pu | rfl) | exact oqHv_0 (by omega) (by omega) | (exfalso; omega)) (by omega)
            · skip
              have hyl9 := oqTy1_l hY9 (by omega)
              refine r_iload_n C (j := 3) (oDec_at oX0_holds 33 rfl) rfl rfl ?_
              refine r_aload_n C (j := 0) (oDec_at oX0_holds 34 rfl) rfl rfl ?_
              refine r_getR (k := 5) (b := 5) C oCl0 hk0 (by decide) flX0_26 rfl rfl rfl (oDec_at oX0_holds 35 rfl) ?_
              obtain ⟨v38, ev38⟩ : ∃ z : Int32, Int32.ofNat 64 = z := ⟨_, rfl⟩
              have hv38 : v38.toInt = 64 := by rw [← ev38]; rfl
              refine r_alen0 (n := 64) C v38 (kr0_5 hk0) (by decide) rfl rfl (by decide) ev38 (oDec_at oX0_holds 36 rfl) ?_
              refine r_icmp_ge C 172 (oDec_at oX0_holds 37 rfl) (by decide) (fun cd39 => ?_) (fun cd39 => ?_)
              · skip
                obtain ⟨v40, ev40⟩ : ∃ z : Int32, x4 + Int32.ofInt 1 = z := ⟨_, rfl⟩
                have hv40 : v40.toInt = x4.toInt + 1 := n_inc ev40 (by decide) (by omega) (by omega)
                refine r_iinc C (j := 4) (lv' := [(0, .ref (oad E c0)), (1, .int a1), (2, .ref (oad E c2)), (3, .int x3), (4, .int v40), (5, .int v15)]) v40 [1, 2, 3, 4, 0, 5] (oDec_at oX0_holds 96 rfl) rfl ev40 (by decide) rfl ?_
                refine r_goto C (tgt := 22) (oDec_at oX0_holds 97 rfl) (by decide) ?_
                refine r_pick C [0, 1, 2, 3, 4] rfl ?_
                exact (ih (n - 1) (by omega)) (t) x3 v40  (by omega) (by omega) (by omega) (by first | exact oqTr_pu iv3 hc2 | exact iv3 | exact oqTr_0) (by first | exact oqHv.cast hv9 (by omega) (by omega) (by first | exact oqRow_pu | rfl) | exact oqHv_0 (by omega) (by omega) | (exfalso; omega)) (by omega)
              · skip
                refine r_aload_n C (j := 0) (oDec_at oX0_holds 38 rfl) rfl rfl ?_
                refine r_getR (k := 5) (b := 5) C oCl0 hk0 (by decide) flX0_26 rfl rfl rfl (oDec_at oX0_holds 39 rfl) ?_
                refine r_iload_n C (j := 3) (oDec_at oX0_holds 40 rfl) rfl rfl ?_
                refine r_iload C (j := 5) (oDec_at oX0_holds 41 rfl) rfl ?_
                refine r_sipush C (oDec_at oX0_holds 42 rfl) (v := k10000) (by rw [qk10000]; rfl) ?_
                refine r_icmp_ge C 87 (oDec_at oX0_holds 43 rfl) (by decide) (fun cd41 => ?_) (fun cd41 => ?_)
                · skip
                  refine r_aload_n C (j := 2) (oDec_at oX0_holds 46 rfl) rfl rfl ?_
                  refine r_iload C (j := 5) (oDec_at oX0_holds 47 rfl) rfl ?_
                  refine r_sipush C (oDec_at oX0_holds 48 rfl) (v := k10000) (by rw [qk10000]; rfl) ?_
                  obtain ⟨v42, ev42⟩ : ∃ z : Int32, z = v15 - k10000 := ⟨_, rfl⟩
                  have hv42 : v42.toInt = v15.toInt - k10000.toInt := n_sub ev42 (by omega) (by omega)
                  refine r_isub C v42 (oDec_at oX0_holds 49 rfl) ev42 ?_
                  refine r_callSi C miX0_factAt mlX0_42 (ct9_X0_factAt l E (t) c2 q2 n2 hk2 h13_2 h9_2 ht2 hn2 v42 (by omega)) (by decide) rfl rfl rfl (Nat.le_of_ble_eq_true rfl) (oDec_at oX0_holds 50 rfl) (fun r44 u43 pu43 fu43 => ?_)
                  try dsimp only at pu43
                  have hxu43 := oFr_nil fu43; subst hxu43
                  have rr44 := n_rng r44
                  have hv9 : oqHv fa R st (x4.toInt + 1) (x3.toInt + 1) (oU (t.1 (c0 + 5)) x3.toNatClampNeg r44) := oqHv_put hR9 hi9 (by first | exact oqE1_val (by omega) | exact oqE1_fact (by omega) (by omega) (by (have h9 := pu43 (by omega); rw [(iv3).2.2.2, hp4 _ (by have h8 := n_nat v42; omega)] at h9; rw [h9, show v42.toNatClampNeg = (t9 - 40).toNat by (have h8 := n_nat v42; omega)]))) (by rw [show x3.toNatClampNeg = x3.toInt.toNat from rfl]; exact hou9) (by have h9 := n_nat x3; omega) rfl (by have h9 := n_nat x3; omega)
                  refine r_iast (n := 64) (lo := (-2147483648)) (hi := 2147483647) C (kr0_5 hk0) (by decide) rfl rfl ⟨by omega, by omega⟩ (by decide) rfl rfl rfl rfl (n_rng _) (oDec_at oX0_holds 51 rfl) ?_
                  refine r_pc C 98 rfl ?_
                  obtain ⟨v45, ev45⟩ : ∃ z : Int32, x3 + Int32.ofInt 1 = z := ⟨_, rfl⟩
                  have hv45 : v45.toInt = x3.toInt + 1 := n_inc ev45 (by decide) (by omega) (by omega)
                  refine r_iinc C (j := 3) (lv' := [(0, .ref (oad E c0)), (1, .int a1), (2, .ref (oad E c2)), (3, .int v45), (4, .int x4), (5, .int v15)]) v45 [1, 2, 3, 0, 4, 5] (oDec_at oX0_holds 52 rfl) rfl ev45 (by decide) rfl ?_
                  refine r_goto C (tgt := 172) (oDec_at oX0_holds 53 rfl) (by decide) ?_
                  obtain ⟨v46, ev46⟩ : ∃ z : Int32, x4 + Int32.ofInt 1 = z := ⟨_, rfl⟩
                  have hv46 : v46.toInt = x4.toInt + 1 := n_inc ev46 (by decide) (by omega) (by omega)
                  refine r_iinc C (j := 4) (lv' := [(0, .ref (oad E c0)), (1, .int a1), (2, .ref (oad E c2)), (3, .int v45), (4, .int v46), (5, .int v15)]) v46 [1, 2, 3, 4, 0, 5] (oDec_at oX0_holds 96 rfl) rfl ev46 (by decide) rfl ?_
                  refine r_goto C (tgt := 22) (oDec_at oX0_holds 97 rfl) (by decide) ?_
                  refine r_pick C [0, 1, 2, 3, 4] rfl ?_
                  exact (ih (n - 1) (by omega)) ((pI t (c0 + 5) x3.toNatClampNeg r44)) v45 v46  (by omega) (by omega) (by omega) (by first | exact oqTr_pu iv3 hc2 | exact iv3 | exact oqTr_0) (by first | exact oqHv.cast hv9 (by omega) (by omega) (by first | exact oqRow_pu | rfl) | exact oqHv_0 (by omega) (by omega) | (exfalso; omega)) (by omega)
                · skip
                  refine r_iload C (j := 5) (oDec_at oX0_holds 44 rfl) rfl ?_
                  refine r_goto C (tgt := 97) (oDec_at oX0_holds 45 rfl) (by decide) ?_
                  have hv9 : oqHv fa R st (x4.toInt + 1) (x3.toInt + 1) (oU (t.1 (c0 + 5)) x3.toNatClampNeg v15) := oqHv_put hR9 hi9 (by first | exact oqE1_val (by omega) | exact oqE1_fact (by omega) (by omega) (by (have h9 := p (by omega); rw [(iv3).2.2.2, hp4 _ (by have h8 := n_nat (by assumption); omega)] at h9; rw [h9, show (by assumption).toNatClampNeg = (t9 - 40).toNat by (have h8 := n_nat (by assumption); omega)]))) (by rw [show x3.toNatClampNeg = x3.toInt.toNat from rfl]; exact hou9) (by have h9 := n_nat x3; omega) rfl (by have h9 := n_nat x3; omega)
                  refine r_iast (n := 64) (lo := (-2147483648)) (hi := 2147483647) C (kr0_5 hk0) (by decide) rfl rfl ⟨by omega, by omega⟩ (by decide) rfl rfl rfl rfl (n_rng _) (oDec_at oX0_holds 51 rfl) ?_
                  obtain ⟨v47, ev47⟩ : ∃ z : Int32, x3 + Int32.ofInt 1 = z := ⟨_, rfl⟩
                  have hv47 : v47.toInt = x3.toInt + 1 := n_inc ev47 (by decide) (by omega) (by omega)
                  refine r_iinc C (j := 3) (lv' := [(0, .ref (oad E c0)), (1, .int a1), (2, .ref (oad E c2)), (3, .int v47), (4, .int x4), (5, .int v15)]) v47 [1, 2, 3, 0, 4, 5] (oDec_at oX0_holds 52 rfl) rfl ev47 (by decide) rfl ?_
                  refine r_goto C (tgt := 172) (oDec_at oX0_holds 53 rfl) (by decide) ?_
                  obtain ⟨v48, ev48⟩ : ∃ z : Int32, x4 + Int32.ofInt 1 = z := ⟨_, rfl⟩
                  have hv48 : v48.toInt = x4.toInt + 1 := n_inc ev48 (by decide) (by omega) (by omega)
                  refine r_iinc C (j := 4) (lv' := [(0, .ref (oad E c0)), (1, .int a1), (2, .ref (oad E c2)), (3, .int v47), (4, .int v48), (5, .int v15)]) v48 [1, 2, 3, 4, 0, 5] (oDec_at oX0_holds 96 rfl) rfl ev48 (by decide) rfl ?_
                  refine r_goto C (tgt := 22) (oDec_at oX0_holds 97 rfl) (by decide) ?_
                  refine r_pick C [0, 1, 2, 3, 4] rfl ?_
                  exact (ih (n - 1) (by omega)) ((pI t (c0 + 5) x3.toNatClampNeg v15)) v47 v48  (by omega) (by omega) (by omega) (by first | exact oqTr_pu iv3 hc2 | exact iv3 | exact oqTr_0) (by first | exact oqHv.cast hv9 (by omega) (by omega) (by first | exact oqRow_pu | rfl) | exact oqHv_0 (by omega) (by omega) | (exfalso; omega)) (by omega)
  refine r_iload_n C (j := 1) (oDec_at oX0_holds 0 rfl) rfl rfl ?_
  refine r_if_lt C 10 (oDec_at oX0_holds 1 rfl) (by decide) (fun cd49 => ?_) (fun cd49 => ?_)
  · skip
    refine r_iconst C (oDec_at oX0_holds 5 rfl) (v := k0) (by rw [qk0]; rfl) ?_
    exact r_zret C (n_bool (by omega)) (oDec_at oX0_holds 6 rfl) ⟨_, rfl, ⟨by omega, by omega⟩⟩
  · skip
    refine r_iload_n C (j := 1) (oDec_at oX0_holds 2 rfl) rfl rfl ?_
    refine r_bipush C (oDec_at oX0_holds 3 rfl) (v := k18) (by rw [qk18]; rfl) ?_
    refine r_icmp_lt C 12 (oDec_at oX0_holds 4 rfl) (by decide) (fun cd50 => ?_) (fun cd50 => ?_)
    · skip
      refine r_iconst C (oDec_at oX0_holds 7 rfl) (v := k0) (by rw [qk0]; rfl) ?_
      refine r_istore_n C (lv' := [(0, .ref (oad E c0)), (1, .int a1), (2, .ref (oad E c2)), (3, .int k0)]) [1, 2, 3, 0] (oDec_at oX0_holds 8 rfl) rfl (by decide) rfl ?_
      refine r_aload_n C (j := 0) (oDec_at oX0_holds 9 rfl) rfl rfl ?_
      refine r_getR (k := 2) (b := 2) C oCl0 hk0 (by decide) flX0_17 rfl rfl rfl (oDec_at oX0_holds 10 rfl) ?_
      refine r_iload_n C (j := 1) (oDec_at oX0_holds 11 rfl) rfl rfl ?_
      obtain ⟨v52, ev52⟩ : ∃ z : Int32, (s).1 (c0 + 2) a1.toNatClampNeg = z := ⟨_, rfl⟩
      have gv52 : (s.1 (c0 + 2) a1.toNatClampNeg).toInt = v52.toInt := congrArg Int32.toInt (ev52)
      refine r_iald (n := 18) (lo := 0) (hi := 1600) C v52 (kr0_2 hk0) (by decide) rfl rfl ⟨by omega, by omega⟩ (by decide) ev52 rfl rfl (oDec_at oX0_holds 12 rfl) (fun b51 b51h => ?_)
      refine r_pc C 20 rfl ?_
      have hst9 : v52.toInt = (st : Int) := by rw [← ev52]; exact hst
      refine r_istore C (lv' := [(0, .ref (oad E c0)), (1, .int a1), (2, .ref (oad E c2)), (3, .int k0), (4, .int v52)]) [1, 2, 3, 4, 0] (oDec_at oX0_holds 13 rfl) (by decide) rfl ?_
      exact (key (2147483648 - v52.toInt).toNat) (s) k0 v52  (by omega) (by omega) (by omega) (by first | exact oqTr_0) (by first | exact oqHv.cast hv9 (by omega) (by omega) (by first | exact oqRow_pu | rfl) | exact oqHv_0 (by omega) (by omega) | (exfalso; omega)) (by omega)
    · skip
      refine r_iconst C (oDec_at oX0_holds 5 rfl) (v := k0) (by rw [qk0]; rfl) ?_
      exact r_zret C (n_bool (by omega)) (oDec_at oX0_holds 6 rfl) ⟨_, rfl, ⟨by omega, by omega⟩⟩
