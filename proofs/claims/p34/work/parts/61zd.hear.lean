set_option maxHeartbeats 4000000 in
set_option maxRecDepth 100000 in
theorem ct10_X1_hear (l : Launch) (E : oE) (s : oS) (c1 : Nat) (hk1 : okd c1 = 4) (a2 : Int32) (a3 : Int32) (a4 : Int32) (nn : Int) (st : Nat → Int) (hp0 : owLN s) (hp1 : owDN s) (hp2 : owMA c1 nn s) (hp3 : owMS c1 nn st s) (hp4 : owDg nn st) (hp5 : 1 ≤ nn ∧ nn ≤ 6) (hp6 : 2 ≤ a2.toInt ∧ a2.toInt ≤ 12) (hp7 : a3.toInt = 84) (hp8 : 0 ≤ a4.toInt ∧ a4.toInt ≤ 4499) : oMet l 5 yX1_hear cX1_hear 16 none [(1, 6), (1, 7), (1, 8), (9, 0), (9, 1), (9, 2), (9, 3), (9, 4), (28, 9999), (29, 9999), (30, 9999), (31, 9999)] E s [.ref (oad E 35), .ref (oad E c1), .int a2, .int a3, .int a4] (oPv (fun u => (owDN u) ∧ (owHq a2.toInt a4.toInt nn st u))) := by
  refine oMet.of (lv := [(0, .ref (oad E 35)), (1, .ref (oad E c1)), (2, .int a2), (3, .int a3), (4, .int a4)]) (by decide +kernel) (Nat.le_of_ble_eq_true rfl) rfl (fun J C hT => ?_)
  have C : oC l 5 cX1_hear RX1 16 none [(1, 6), (1, 7), (1, 8), (9, 0), (9, 1), (9, 2), (9, 3), (9, 4), (28, 9999), (29, 9999), (30, 9999), (31, 9999)] E s (oPv (fun u => (owDN u) ∧ (owHq a2.toInt a4.toInt nn st u))) J := C
  obtain ⟨km1000000000, qkm1000000000⟩ : ∃ z : Int32, z = (-1000000000) := ⟨_, rfl⟩
  have ekm1000000000 : km1000000000.toInt = (-1000000000) := by rw [qkm1000000000]; rfl
  obtain ⟨k0, qk0⟩ : ∃ z : Int32, z = 0 := ⟨_, rfl⟩
  have ek0 : k0.toInt = 0 := by rw [qk0]; rfl
  obtain ⟨k1, qk1⟩ : ∃ z : Int32, z = 1 := ⟨_, rfl⟩
  have ek1 : k1.toInt = 1 := by rw [qk1]; rfl
  have rg2 := n_rng a2
  have rg3 := n_rng a3
  have rg4 := n_rng a4
  have hsp84 : owSp 84 nn = 2 * nn := owSp_84
  have key : ∀ n : Nat, (∀ (t : oS) (x6 : Int32) (x7 : Int32) (x8 : Int32) (x9 : Int32) (x10 : Int32) (x11 : Int32), (owLN t) → (owDN t) → (owVR t) → (0 ≤ x11.toInt) → (owMA c1 nn t) → (owMS c1 nn st t) → (owVc 40 84 t) → (owVc 41 a4.toInt t) → (owHi a2.toInt a4.toInt nn st x11.toInt t) → (x7.toInt = owNb 84 nn (x11.toInt - 1)) → (x8.toInt = owNb a4.toInt nn (x11.toInt - 1)) → (x9.toInt = owNb 84 nn x11.toInt) → (x10.toInt = owNb a4.toInt nn x11.toInt) → (x6.toInt ≤ 2 * nn ∧ x6.toInt ≤ owSp a4.toInt nn ∧ (x6.toInt = 2 * nn ∨ x6.toInt = owSp a4.toInt nn)) → (a4.toInt / 180 ≤ x11.toInt) → (x11.toInt ≤ x6.toInt ∨ x11.toInt = a4.toInt / 180) → (0 ≤ x6.toInt ∧ x6.toInt ≤ 60) → x6.toInt - x11.toInt + 4294967296 ≤ (n : Int) → J t 103 [(0, .ref (oad E 35)), (1, .ref (oad E c1)), (2, .int a2), (6, .int x6), (7, .int x7), (8, .int x8), (9, .int x9), (10, .int x10), (11, .int x11)] []) := by
    intro n
    induction n using Nat.strongRecOn with
    | _ n ih =>
      skip
      · intro t x6 x7 x8 x9 x10 x11  iv0 iv1 iv2 iv3 iv4 iv5 iv6 iv7 iv8 iv9 iv10 iv11 iv12 iv13 iv14 iv15 iv16 hmu
        have rx6 := n_rng x6
        have rx7 := n_rng x7
        have rx8 := n_rng x8
        have rx9 := n_rng x9
        have rx10 := n_rng x10
        have rx11 := n_rng x11
        refine r_iload C (j := 8) (oDec_at oX1_hear 52 rfl) rfl ?_
        refine r_iload C (j := 3) (oDec_at oX1_hear 53 rfl) rfl ?_
        refine r_icmp_ge C 292 (oDec_at oX1_hear 54 rfl) (by decide) (fun cd1 => ?_) (fun cd1 => ?_)
        · skip
          exact r_vret C (oDec_at oX1_hear 147 rfl) ⟨rfl, ⟨iv1, owHi_q iv8 (by omega) (by omega) (by omega) (by omega) (by omega)⟩⟩
        · skip
          refine r_aload_n C (j := 0) (oDec_at oX1_hear 55 rfl) rfl rfl ?_
          refine r_getF (k := 4) (b := 40) C oCl1 rfl (by decide) flX1_27 rfl rfl rfl (oDec_at oX1_hear 56 rfl) ?_
          refine r_aload_n C (j := 1) (oDec_at oX1_hear 57 rfl) rfl rfl ?_
          refine r_iload C (j := 8) (oDec_at oX1_hear 58 rfl) rfl ?_
          refine r_iconst C (oDec_at oX1_hear 59 rfl) (v := k1) (by rw [qk1]; rfl) ?_
          obtain ⟨v2, ev2⟩ : ∃ z : Int32, z = x11 + k1 := ⟨_, rfl⟩
          have hv2 : v2.toInt = x11.toInt + k1.toInt := n_add ev2 (by omega) (by omega)
          refine r_iadd C v2 (oDec_at oX1_hear 60 rfl) ev2 ?_
          refine r_pc C 119 rfl ?_
          -- !! !owVc c0 84 is not known here
          refine r_callVi C oCl9 rfl miX9_number mlX1_55 (ct10_X9_number l E (t) 40 rfl c1 hk1 v2 (nn) (84) iv4 iv6 (by omega) (by omega) (by omega)) (by decide) rfl rfl rfl (Nat.le_of_ble_eq_true rfl) (oDec_at oX1_hear 61 rfl) (fun r4 u3 pu3 fu3 => ?_)
          try dsimp only at pu3
          have hxu3 := oFr_nil fu3; subst hxu3
          have rr4 := n_rng r4
          have hn129 : r4.toInt = owNb 84 nn (x11.toInt + 1) := (pu3).trans (by rw [show v2.toInt = x11.toInt + 1 by omega])
          refine r_istore C (lv' := [(0, .ref (oad E 35)), (1, .ref (oad E c1)), (2, .int a2), (6, .int x6), (7, .int x7), (8, .int x8), (9, .int x9), (10, .int x10), (11, .int x11), (12, .int r4)]) [1, 2, 3, 4, 5, 6, 7, 8, 9, 0] (oDec_at oX1_hear 62 rfl) (by decide) rfl ?_
          refine r_aload_n C (j := 0) (oDec_at oX1_hear 63 rfl) rfl rfl ?_
          refine r_getF (k := 5) (b := 41) C oCl1 rfl (by decide) flX1_31 rfl rfl rfl (oDec_at oX1_hear 64 rfl) ?_
          refine r_aload_n C (j := 1) (oDec_at oX1_hear 65 rfl) rfl rfl ?_
          refine r_iload C (j := 8) (oDec_at oX1_hear 66 rfl) rfl ?_
          refine r_pc C 131 rfl ?_
          refine r_iconst C (oDec_at oX1_hear 67 rfl) (v := k1) (by rw [qk1]; rfl) ?_
          obtain ⟨v5, ev5⟩ : ∃ z : Int32, z = x11 + k1 := ⟨_, rfl⟩
          have hv5 : v5.toInt = x11.toInt + k1.toInt := n_add ev5 (by omega) (by omega)
          refine r_iadd C v5 (oDec_at oX1_hear 68 rfl) ev5 ?_
          -- !! !owVc c0 (a4.toInt) is not known here
          refine r_callVi C oCl9 rfl miX9_number mlX1_55 (ct10_X9_number l E (t) 41 rfl c1 hk1 v5 (nn) (a4.toInt) iv4 iv7 (by omega) (by omega) (by omega)) (by decide) rfl rfl rfl (Nat.le_of_ble_eq_true rfl) (oDec_at oX1_hear 69 rfl) (fun r7 u6 pu6 fu6 => ?_)
          try dsimp only at pu6
          have hxu6 := oFr_nil fu6; subst hxu6
          have rr7 := n_rng r7
          have hn139 : r7.toInt = owNb a4.toInt nn (x11.toInt + 1) := (pu6).trans (by rw [show v5.toInt = x11.toInt + 1 by omega])
          refine r_istore C (lv' := [(0, .ref (oad E 35)), (1, .ref (oad E c1)), (2, .int a2), (6, .int x6), (7, .int x7), (8, .int x8), (9, .int x9), (10, .int x10), (11, .int x11), (12, .int r4), (13, .int r7)]) [1, 2, 3, 4, 5, 6, 7, 8, 9, 10, 0] (oDec_at oX1_hear 70 rfl) (by decide) rfl ?_
          refine r_aload_n C (j := 0) (oDec_at oX1_hear 71 rfl) rfl rfl ?_
          refine r_aload_n C (j := 1) (oDec_at oX1_hear 72 rfl) rfl rfl ?_
          refine r_pc C 140 rfl ?_
          refine r_iload C (j := 6) (oDec_at oX1_hear 73 rfl) rfl ?_
          refine r_iload C (j := 7) (oDec_at oX1_hear 74 rfl) rfl ?_
          refine r_callVi C oCl1 rfl miX1_apartAt mlX1_59 (ct9_X1_apartAt l E (t) c1 hk1 x9 x10 iv0 iv2) (by decide) rfl rfl rfl (Nat.le_of_ble_eq_true rfl) (oDec_at oX1_hear 75 rfl) (fun r9 u8 pu8 fu8 => ?_)
          try dsimp only at pu8
          have hxu8 := oFr_nil fu8; subst hxu8
          have rr9 := n_rng r9
          have hap9 := pu8
          have hab9 := owAp_b (a := x9.toInt) (b := x10.toInt) (show owLN (t) from iv0) hk1 (show owVR (t) from iv2)
          have hxa9 : r9.toInt = owXa a4.toInt nn st x11.toInt := (pu8).trans (by rw [owAp_m (show owMA c1 nn (t) from iv4) (show owMS c1 nn st (t) from iv5) (show owVc 40 84 (t) from iv6).2 (show owVc 41 a4.toInt (t) from iv7).2 hp4, iv11, iv12]; rfl)
          have hq10 : owVL 40 c1 (owTn (t) 40 c1) (t) := ⟨rfl, hk1, fun _ => rfl⟩
          have hq11 : owVL 41 c1 (owTn (t) 41 c1) (t) := ⟨rfl, hk1, fun _ => rfl⟩
          refine r_istore C (lv' := [(0, .ref (oad E 35)), (1, .ref (oad E c1)), (2, .int a2), (6, .int x6), (7, .int x7), (8, .int x8), (9, .int x9), (10, .int x10), (11, .int x11), (12, .int r4), (13, .int r7), (14, .int r9)]) [1, 2, 3, 4, 5, 6, 7, 8, 9, 10, 11, 0] (oDec_at oX1_hear 76 rfl) (by decide) rfl ?_
          refine r_iload C (j := 11) (oDec_at oX1_hear 77 rfl) rfl ?_
          refine r_ldc C (v := km1000000000) (by rw [qkm1000000000]; exact kcX1_63) (oDec_at oX1_hear 78 rfl) ?_
          refine r_pc C 153 rfl ?_
          refine r_icmp_eq C 270 (oDec_at oX1_hear 79 rfl) (by decide) (fun cd12 => ?_) (fun cd12 => ?_)
          · skip
            refine r_iload C (j := 6) (oDec_at oX1_hear 137 rfl) rfl ?_
            refine r_istore C (lv' := [(0, .ref (oad E 35)), (1, .ref (oad E c1)), (2, .int a2), (6, .int x6), (7, .int x9), (8, .int x8), (9, .int x9), (10, .int x10), (11, .int x11), (12, .int r4), (13, .int r7), (14, .int r9)]) [1, 2, 3, 4, 0, 5, 6, 7, 8, 9, 10, 11] (oDec_at oX1_hear 138 rfl) (by decide) rfl ?_
            refine r_iload C (j := 7) (oDec_at oX1_hear 139 rfl) rfl ?_
            refine r_istore C (lv' := [(0, .ref (oad E 35)), (1, .ref (oad E c1)), (2, .int a2), (6, .int x6), (7, .int x9), (8, .int x10), (9, .int x9), (10, .int x10), (11, .int x11), (12, .int r4), (13, .int r7), (14, .int r9)]) [1, 2, 3, 4, 5, 0, 6, 7, 8, 9, 10, 11] (oDec_at oX1_hear 140 rfl) (by decide) rfl ?_
            refine r_iload C (j := 9) (oDec_at oX1_hear 141 rfl) rfl ?_
            refine r_istore C (lv' := [(0, .ref (oad E 35)), (1, .ref (oad E c1)), (2, .int a2), (6, .int x6), (7, .int x9), (8, .int x10), (9, .int r4), (10, .int x10), (11, .int x11), (12, .int r4), (13, .int r7), (14, .int r9)]) [1, 2, 3, 4, 5, 6, 0, 7, 8, 9, 10, 11] (oDec_at oX1_hear 142 rfl) (by decide) rfl ?_
            refine r_pc C 282 rfl ?_
            refine r_iload C (j := 10) (oDec_at oX1_hear 143 rfl) rfl ?_
            refine r_istore C (lv' := [(0, .ref (oad E 35)), (1, .ref (oad E c1)), (2, .int a2), (6, .int x6), (7, .int x9), (8, .int x10), (9, .int r4), (10, .int r7), (11, .int x11), (12, .int r4), (13, .int r7), (14, .int r9)]) [1, 2, 3, 4, 5, 6, 7, 0, 8, 9, 10, 11] (oDec_at oX1_hear 144 rfl) (by decide) rfl ?_
            obtain ⟨v13, ev13⟩ : ∃ z : Int32, x11 + Int32.ofInt 1 = z := ⟨_, rfl⟩
            have hv13 : v13.toInt = x11.toInt + 1 := n_inc ev13 (by decide) (by omega) (by omega)
            refine r_iinc C (j := 8) (lv' := [(0, .ref (oad E 35)), (1, .ref (oad E c1)), (2, .int a2), (6, .int x6), (7, .int x9), (8, .int x10), (9, .int r4), (10, .int r7), (11, .int v13), (12, .int r4), (13, .int r7), (14, .int r9)]) v13 [1, 2, 3, 4, 5, 6, 7, 8, 0, 9, 10, 11] (oDec_at oX1_hear 145 rfl) rfl ev13 (by decide) rfl ?_
            refine r_goto C (tgt := 103) (oDec_at oX1_hear 146 rfl) (by decide) ?_
            refine r_pick C [0, 1, 2, 3, 4, 5, 6, 7, 8] rfl ?_
            exact (ih (n - 1) (by omega)) (t) x6 x9 x10 r4 r7 v13  iv0 iv1 iv2 (by omega) iv4 iv5 iv6 iv7 (by first | exact owHi_c hhi9 (by omega) | exact owHi_sk iv8 (owXk_n1 hxa9 (by omega)) (by omega) | exact owHi_sk iv8 (owXk_n2 (by omega) (by omega)) (by omega) | exact owHi_0 (by omega) (by omega)) (by first | (rw [show v13.toInt - 1 = x11.toInt by omega] <;> omega) | (rw [show v13.toInt - 1 = (by assumption).toInt by omega] <;> omega)) (by first | (rw [show v13.toInt - 1 = x11.toInt by omega] <;> omega) | (rw [show v13.toInt - 1 = (by assumption).toInt by omega] <;> omega)) (by first | (rw [show v13.toInt = v2.toInt by omega] <;> omega) | omega) (by first | (rw [show v13.toInt = v5.toInt by omega] <;> omega) | omega) (by omega) (by omega) (by omega) (by omega) (by omega)
          · skip
            have hne9 : owTn (t) 40 c1 x9.toInt ≠ -1000000000 ∧ owTn (t) 41 c1 x10.toInt ≠ -1000000000 := owAp_ne (by omega)
            refine r_aload_n C (j := 0) (oDec_at oX1_hear 80 rfl) rfl rfl ?_
            refine r_dup C (oDec_at oX1_hear 81 rfl) rfl ?_
            obtain ⟨v14, ev14⟩ : ∃ z : Int32, (t).1 35 7 = z := ⟨_, rfl⟩
            have gv14 : (t.1 35 7).toInt = v14.toInt := congrArg Int32.toInt (ev14)
            have rv14 := n_rng v14
            refine r_geti (k := 7) (lo := (-2147483648)) (hi := 2147483647) C v14 oCl1 rfl (by decide) flX1_64 rfl rfl (ev14) rfl rfl (oDec_at oX1_hear 82 rfl) (fun _ _ => ?_)
            refine r_iconst C (oDec_at oX1_hear 83 rfl) (v := k1) (by rw [qk1]; rfl) ?_
            obtain ⟨v15, ev15⟩ : ∃ z : Int32, z = v14 + k1 := ⟨_, rfl⟩
            have rv15 := n_rng v15
            refine r_iadd C v15 (oDec_at oX1_hear 84 rfl) ev15 ?_
            refine r_puti (k := 7) (lo := (-2147483648)) (hi := 2147483647) C oCl1 rfl (by decide) flX1_64 rfl rfl rfl rfl rfl rfl rfl rfl (n_rng _) (oDec_at oX1_hear 85 rfl) ?_
            refine r_pc C 166 rfl ?_
            refine r_aload_n C (j := 0) (oDec_at oX1_hear 86 rfl) rfl rfl ?_
            refine r_aload_n C (j := 0) (oDec_at oX1_hear 87 rfl) rfl rfl ?_
            obtain ⟨v16, ev16⟩ : ∃ z : Int32, ((pI t 35 7 v15)).1 35 8 = z := ⟨_, rfl⟩
            have gv16 : (t.1 35 8).toInt = v16.toInt := congrArg Int32.toInt (((pI_ne (a := 35) (b := 8) (c := 35) (k := 7) _ _ (Or.inr (by decide)))).symm.trans ev16)
            have ggv16 : (((pI t 35 7 v15)).1 35 8).toInt = v16.toInt := congrArg Int32.toInt ev16
            have rv16 := n_rng v16
            refine r_geti (k := 8) (lo := (-2147483648)) (hi := 2147483647) C v16 oCl1 rfl (by decide) flX1_67 rfl rfl (ev16) rfl rfl (oDec_at oX1_hear 88 rfl) (fun _ _ => ?_)
            refine r_iload C (j := 11) (oDec_at oX1_hear 89 rfl) rfl ?_
            refine r_callSi C miJ9_abs_0f7a4 mlX1_70 (ct9_J9_abs l E ((pI t 35 7 v15)) r9 (by omega)) (by decide) rfl rfl rfl (Nat.le_of_ble_eq_true rfl) (oDec_at oX1_hear 90 rfl) (fun r18 u17 pu17 fu17 => ?_)
            try dsimp only at pu17
            have hxu17 := oFr_nil fu17; subst hxu17
            have rr18 := n_rng r18
            refine r_callSi C miJ9_max_7cf53 mlX1_42 (ct_J9_max_7cf53 l E ((pI t 35 7 v15)) v16 r18 ) (by decide) rfl rfl rfl (Nat.le_of_ble_eq_true rfl) (oDec_at oX1_hear 91 rfl) (fun r20 u19 pu19 fu19 => ?_)
            try dsimp only at pu19
            have hxu19 := oFr_nil fu19; subst hxu19
            have rr20 := n_rng r20
            refine r_pc C 179 rfl ?_
            refine r_puti (k := 8) (lo := (-2147483648)) (hi := 2147483647) C oCl1 rfl (by decide) flX1_67 rfl rfl rfl rfl rfl rfl rfl rfl (n_rng _) (oDec_at oX1_hear 92 rfl) ?_
            refine r_iload C (j := 6) (oDec_at oX1_hear 93 rfl) rfl ?_
            refine r_iload C (j := 4) (oDec_at oX1_hear 94 rfl) rfl ?_
            refine r_icmp_ne C 196 (oDec_at oX1_hear 95 rfl) (by decide) (fun cd21 => ?_) (fun cd21 => ?_)
            · skip
              have hxk9 : owXk a4.toInt nn st x11.toInt := owXk_y hxa9 (by omega) (by omega)
              refine r_aload_n C (j := 0) (oDec_at oX1_hear 99 rfl) rfl rfl ?_
              refine r_aload_n C (j := 1) (oDec_at oX1_hear 100 rfl) rfl rfl ?_
              refine r_iload C (j := 9) (oDec_at oX1_hear 101 rfl) rfl ?_
              refine r_iload C (j := 10) (oDec_at oX1_hear 102 rfl) rfl ?_
              refine r_callVi C oCl1 rfl miX1_apartAt mlX1_59 (ct9_X1_apartAt l E ((pI (pI t 35 7 v15) 35 8 r20)) c1 hk1 r4 r7 (owLN_fr (oFr_oneI (q := 1) (m := 8) rfl (by rfl)) rfl (owLN_fr (oFr_oneI (q := 1) (m := 7) rfl (by rfl)) rfl iv0)) (owVR_fr (oFr_oneI (q := 1) (m := 8) rfl (by rfl)) rfl (owVR_fr (oFr_oneI (q := 1) (m := 7) rfl (by rfl)) rfl iv2))) (by decide) rfl rfl rfl (Nat.le_of_ble_eq_true rfl) (oDec_at oX1_hear 103 rfl) (fun r23 u22 pu22 fu22 => ?_)
              try dsimp only at pu22
              have hxu22 := oFr_nil fu22; subst hxu22
              have rr23 := n_rng r23
              have hxn9 : r23.toInt = owAq a4.toInt nn st (owNb 84 nn (x11.toInt + 1)) (owNb a4.toInt nn (x11.toInt + 1)) := (pu22).trans (by rw [owAp_m (show owMA c1 nn ((pI (pI t 35 7 v15) 35 8 r20)) from (owMA_fr (oFr_oneI (q := 1) (m := 8) rfl (by rfl)) rfl (owMA_fr (oFr_oneI (q := 1) (m := 7) rfl (by rfl)) rfl iv4))) (show owMS c1 nn st ((pI (pI t 35 7 v15) 35 8 r20)) from (owMS_fr (oFr_oneI (q := 1) (m := 8) rfl (by rfl)) rfl (owMS_fr (oFr_oneI (q := 1) (m := 7) rfl (by rfl)) rfl iv5))) (show owVc 40 84 ((pI (pI t 35 7 v15) 35 8 r20)) from (owVc_fr (oFr_oneI (q := 1) (m := 8) rfl (by rfl)) rfl (owVc_fr (oFr_oneI (q := 1) (m := 7) rfl (by rfl)) rfl iv6))).2 (show owVc 41 a4.toInt ((pI (pI t 35 7 v15) 35 8 r20)) from (owVc_fr (oFr_oneI (q := 1) (m := 8) rfl (by rfl)) rfl (owVc_fr (oFr_oneI (q := 1) (m := 7) rfl (by rfl)) rfl iv7))).2 hp4, hn129, hn139])
              refine r_ldc C (v := km1000000000) (by rw [qkm1000000000]; exact kcX1_63) (oDec_at oX1_hear 104 rfl) ?_
              refine r_pc C 207 rfl ?_
              refine r_icmp_ne C 214 (oDec_at oX1_hear 105 rfl) (by decide) (fun cd24 => ?_) (fun cd24 => ?_)
              · skip
                refine r_iconst C (oDec_at oX1_hear 108 rfl) (v := k0) (by rw [qk0]; rfl) ?_
                have hxl9 : k0.toInt = owXl a4.toInt nn st x11.toInt := by unfold owXl; first | (rw [if_pos (by omega)] <;> omega) | (rw [if_neg (by omega)] <;> omega)
                refine r_istore C (lv' := [(0, .ref (oad E 35)), (1, .ref (oad E c1)), (2, .int a2), (6, .int x6), (7, .int x7), (8, .int x8), (9, .int x9), (10, .int x10), (11, .int x11), (12, .int r4), (13, .int r7), (14, .int r9), (15, .int k0)]) [1, 2, 3, 4, 5, 6, 7, 8, 9, 10, 11, 12, 0] (oDec_at oX1_hear 109 rfl) (by decide) rfl ?_
                refine r_aload_n C (j := 0) (oDec_at oX1_hear 110 rfl) rfl rfl ?_
                refine r_iload C (j := 8) (oDec_at oX1_hear 111 rfl) rfl ?_
                refine r_iload C (j := 11) (oDec_at oX1_hear 112 rfl) rfl ?_
                refine r_aload_n C (j := 0) (oDec_at oX1_hear 113 rfl) rfl rfl ?_
                refine r_pc C 223 rfl ?_
                refine r_aload_n C (j := 1) (oDec_at oX1_hear 114 rfl) rfl rfl ?_
                refine r_iload C (j := 4) (oDec_at oX1_hear 115 rfl) rfl ?_
                refine r_iload C (j := 5) (oDec_at oX1_hear 116 rfl) rfl ?_
                refine r_callVi C oCl1 rfl miX1_apartAt mlX1_59 (ct9_X1_apartAt l E ((pI (pI t 35 7 v15) 35 8 r20)) c1 hk1 x7 x8 (owLN_fr (oFr_oneI (q := 1) (m := 8) rfl (by rfl)) rfl (owLN_fr (oFr_oneI (q := 1) (m := 7) rfl (by rfl)) rfl iv0)) (owVR_fr (oFr_oneI (q := 1) (m := 8) rfl (by rfl)) rfl (owVR_fr (oFr_oneI (q := 1) (m := 7) rfl (by rfl)) rfl iv2))) (by decide) rfl rfl rfl (Nat.le_of_ble_eq_true rfl) (oDec_at oX1_hear 117 rfl) (fun r26 u25 pu25 fu25 => ?_)
                try dsimp only at pu25
                have hxu25 := oFr_nil fu25; subst hxu25
                have rr26 := n_rng r26
                have hlp9 := pu25
                have hlb9 := owAp_b (a := x7.toInt) (b := x8.toInt) (show owLN ((pI (pI t 35 7 v15) 35 8 r20)) from (owLN_fr (oFr_oneI (q := 1) (m := 8) rfl (by rfl)) rfl (owLN_fr (oFr_oneI (q := 1) (m := 7) rfl (by rfl)) rfl iv0))) hk1 (show owVR ((pI (pI t 35 7 v15) 35 8 r20)) from (owVR_fr (oFr_oneI (q := 1) (m := 8) rfl (by rfl)) rfl (owVR_fr (oFr_oneI (q := 1) (m := 7) rfl (by rfl)) rfl iv2)))
                have hxb9 : r26.toInt = owXa a4.toInt nn st (x11.toInt - 1) := (pu25).trans (by rw [owAp_m (show owMA c1 nn ((pI (pI t 35 7 v15) 35 8 r20)) from (owMA_fr (oFr_oneI (q := 1) (m := 8) rfl (by rfl)) rfl (owMA_fr (oFr_oneI (q := 1) (m := 7) rfl (by rfl)) rfl iv4))) (show owMS c1 nn st ((pI (pI t 35 7 v15) 35 8 r20)) from (owMS_fr (oFr_oneI (q := 1) (m := 8) rfl (by rfl)) rfl (owMS_fr (oFr_oneI (q := 1) (m := 7) rfl (by rfl)) rfl iv5))) (show owVc 40 84 ((pI (pI t 35 7 v15) 35 8 r20)) from (owVc_fr (oFr_oneI (q := 1) (m := 8) rfl (by rfl)) rfl (owVc_fr (oFr_oneI (q := 1) (m := 7) rfl (by rfl)) rfl iv6))).2 (show owVc 41 a4.toInt ((pI (pI t 35 7 v15) 35 8 r20)) from (owVc_fr (oFr_oneI (q := 1) (m := 8) rfl (by rfl)) rfl (owVc_fr (oFr_oneI (q := 1) (m := 7) rfl (by rfl)) rfl iv7))).2 hp4, iv9, iv10]; rfl)
                have hcn9 := (show owHi a2.toInt a4.toInt nn st x11.toInt ((pI (pI t 35 7 v15) 35 8 r20)) from (owHi_fr (oFr_oneI (q := 1) (m := 8) rfl (by rfl)) rfl (owHi_fr (oFr_oneI (q := 1) (m := 7) rfl (by rfl)) rfl iv8))).2.2
                have lk27 : (((pI (pI t 35 7 v15) 35 8 r20)).1 35 6).toInt = (t.1 35 6).toInt := congrArg Int32.toInt (((pI_ne (a := 35) (b := 6) (c := 35) (k := 8) _ _ (Or.inr (by decide)))).trans ((pI_ne (a := 35) (b := 6) (c := 35) (k := 7) _ _ (Or.inr (by decide)))))
                refine r_callVv C oCl1 rfl miX1_mark mlX1_74 (ct9_X1_mark l E ((pI (pI t 35 7 v15) 35 8 r20)) x11 r9 r26 (owDN_fr (oFr_oneI (q := 1) (m := 8) rfl (by rfl)) rfl (owDN_fr (oFr_oneI (q := 1) (m := 7) rfl (by rfl)) rfl iv1)) (by omega) (by omega)) (by decide) rfl rfl rfl (Nat.le_of_ble_eq_true rfl) (oDec_at oX1_hear 118 rfl) (fun u28 pu28 fu28 => ?_)
                try dsimp only at pu28
                try simp only [lk27] at pu28
                obtain ⟨pu28_0, pu28_1⟩ := pu28
                have hvr9 : owVR (u28) := (owVR_fr fu28 rfl (owVR_fr (oFr_oneI (q := 1) (m := 8) rfl (by rfl)) rfl (owVR_fr (oFr_oneI (q := 1) (m := 7) rfl (by rfl)) rfl iv2)))
                have hv40 := hvr9.1.1
                have hv41 := hvr9.2.1
                have hcn8 := congrArg Int32.toInt (fu28 35 6 rfl).1
                refine r_aload_n C (j := 0) (oDec_at oX1_hear 119 rfl) rfl rfl ?_
                refine r_pc C 235 rfl ?_
                refine r_iload C (j := 8) (oDec_at oX1_hear 120 rfl) rfl ?_
                refine r_iload_n C (j := 2) (oDec_at oX1_hear 121 rfl) rfl rfl ?_
                refine r_callSi C miX1_beatOf mlX1_78 (ct9_X1_beatOf l E (u28) x11 a2 (by omega) (by omega)) (by decide) rfl rfl rfl (Nat.le_of_ble_eq_true rfl) (oDec_at oX1_hear 122 rfl) (fun r31 u30 pu30 fu30 => ?_)
                try dsimp only at pu30
                obtain ⟨pu30_0, pu30_1⟩ := pu30
                have hxu30 := oFr_nil fu30; subst hxu30
                have rr31 := n_rng r31
                refine r_aload_n C (j := 0) (oDec_at oX1_hear 123 rfl) rfl rfl ?_
                refine r_getF (k := 4) (b := 40) C oCl1 rfl (by decide) flX1_27 rfl rfl rfl (oDec_at oX1_hear 124 rfl) ?_
                refine r_aload_n C (j := 1) (oDec_at oX1_hear 125 rfl) rfl rfl ?_
                refine r_pc C 246 rfl ?_
                refine r_iload C (j := 4) (oDec_at oX1_hear 126 rfl) rfl ?_
                refine r_iload C (j := 6) (oDec_at oX1_hear 127 rfl) rfl ?_
                have lk32 : ((u28).1 40 1).toInt = (t.1 40 1).toInt := congrArg Int32.toInt (((fu28 40 1 rfl).1).trans (((pI_ne (a := 40) (b := 1) (c := 35) _ _ (Or.inl (by decide)))).trans ((pI_ne (a := 40) (b := 1) (c := 35) _ _ (Or.inl (by decide))))))
                refine r_callSi C miX1_rise mlX1_81 (ct9_X1_rise l E (u28) 40 rfl c1 hk1 x7 x9 (owLN_fr fu28 rfl (owLN_fr (oFr_oneI (q := 1) (m := 8) rfl (by rfl)) rfl (owLN_fr (oFr_oneI (q := 1) (m := 7) rfl (by rfl)) rfl iv0))) hv40 (by rw [(show owVL 40 c1 (owTn (t) 40 c1) (u28) from (owVL_fr fu28 rfl (owVL_fr (oFr_oneI (q := 1) (m := 8) rfl (by rfl)) rfl (owVL_fr (oFr_oneI (q := 1) (m := 7) rfl (by rfl)) rfl hq10)))).2.2 _]; exact hne9.1)) (by decide) rfl rfl rfl (Nat.le_of_ble_eq_true rfl) (oDec_at oX1_hear 128 rfl) (fun r34 u33 pu33 fu33 => ?_)
                try dsimp only at pu33
                try simp only [lk32] at pu33
                obtain ⟨pu33_0, pu33_1⟩ := pu33
                have hxu33 := oFr_nil fu33; subst hxu33
                have rr34 := n_rng r34
                have hr19 : r34.toInt = owRq 84 nn st (owNb 84 nn (x11.toInt - 1)) (owNb 84 nn x11.toInt) := (pu33_0).trans (by rw [owRi_m (show owMA c1 nn (u28) from (owMA_fr fu28 rfl (owMA_fr (oFr_oneI (q := 1) (m := 8) rfl (by rfl)) rfl (owMA_fr (oFr_oneI (q := 1) (m := 7) rfl (by rfl)) rfl iv4)))) (show owMS c1 nn st (u28) from (owMS_fr fu28 rfl (owMS_fr (oFr_oneI (q := 1) (m := 8) rfl (by rfl)) rfl (owMS_fr (oFr_oneI (q := 1) (m := 7) rfl (by rfl)) rfl iv5)))) (show owVc 40 84 (u28) from (owVc_fr fu28 rfl (owVc_fr (oFr_oneI (q := 1) (m := 8) rfl (by rfl)) rfl (owVc_fr (oFr_oneI (q := 1) (m := 7) rfl (by rfl)) rfl iv6)))).2 hp4, iv9, iv11])
                refine r_aload_n C (j := 0) (oDec_at oX1_hear 129 rfl) rfl rfl ?_
                refine r_getF (k := 5) (b := 41) C oCl1 rfl (by decide) flX1_31 rfl rfl rfl (oDec_at oX1_hear 130 rfl) ?_
                refine r_aload_n C (j := 1) (oDec_at oX1_hear 131 rfl) rfl rfl ?_
                refine r_pc C 258 rfl ?_
                refine r_iload C (j := 5) (oDec_at oX1_hear 132 rfl) rfl ?_
                refine r_iload C (j := 7) (oDec_at oX1_hear 133 rfl) rfl ?_
                have lk35 : ((u28).1 41 1).toInt = (t.1 41 1).toInt := congrArg Int32.toInt (((fu28 41 1 rfl).1).trans (((pI_ne (a := 41) (b := 1) (c := 35) _ _ (Or.inl (by decide)))).trans ((pI_ne (a := 41) (b := 1) (c := 35) _ _ (Or.inl (by decide))))))
                refine r_callSi C miX1_rise mlX1_81 (ct9_X1_rise l E (u28) 41 rfl c1 hk1 x8 x10 (owLN_fr fu28 rfl (owLN_fr (oFr_oneI (q := 1) (m := 8) rfl (by rfl)) rfl (owLN_fr (oFr_oneI (q := 1) (m := 7) rfl (by rfl)) rfl iv0))) hv41 (by rw [(show owVL 41 c1 (owTn (t) 41 c1) (u28) from (owVL_fr fu28 rfl (owVL_fr (oFr_oneI (q := 1) (m := 8) rfl (by rfl)) rfl (owVL_fr (oFr_oneI (q := 1) (m := 7) rfl (by rfl)) rfl hq11)))).2.2 _]; exact hne9.2)) (by decide) rfl rfl rfl (Nat.le_of_ble_eq_true rfl) (oDec_at oX1_hear 134 rfl) (fun r37 u36 pu36 fu36 => ?_)
                try dsimp only at pu36
                try simp only [lk35] at pu36
                obtain ⟨pu36_0, pu36_1⟩ := pu36
                have hxu36 := oFr_nil fu36; subst hxu36
                have rr37 := n_rng r37
                have hr29 : r37.toInt = owRq a4.toInt nn st (owNb a4.toInt nn (x11.toInt - 1)) (owNb a4.toInt nn x11.toInt) := (pu36_0).trans (by rw [owRi_m (show owMA c1 nn (u28) from (owMA_fr fu28 rfl (owMA_fr (oFr_oneI (q := 1) (m := 8) rfl (by rfl)) rfl (owMA_fr (oFr_oneI (q := 1) (m := 7) rfl (by rfl)) rfl iv4)))) (show owMS c1 nn st (u28) from (owMS_fr fu28 rfl (owMS_fr (oFr_oneI (q := 1) (m := 8) rfl (by rfl)) rfl (owMS_fr (oFr_oneI (q := 1) (m := 7) rfl (by rfl)) rfl iv5)))) (show owVc 41 a4.toInt (u28) from (owVc_fr fu28 rfl (owVc_fr (oFr_oneI (q := 1) (m := 8) rfl (by rfl)) rfl (owVc_fr (oFr_oneI (q := 1) (m := 7) rfl (by rfl)) rfl iv7)))).2 hp4, iv10, iv12])
                refine r_iload C (j := 12) (oDec_at oX1_hear 135 rfl) rfl ?_
                have lk38 : ((u28).1 35 6).toInt = (t.1 35 6).toInt := congrArg Int32.toInt (((fu28 35 6 rfl).1).trans (((pI_ne (a := 35) (b := 6) (c := 35) (k := 8) _ _ (Or.inr (by decide)))).trans ((pI_ne (a := 35) (b := 6) (c := 35) (k := 7) _ _ (Or.inr (by decide))))))
                refine r_callVv C oCl1 rfl miX1_moved mlX1_85 (ct9_X1_moved l E (u28) r31 r34 r37 k0 pu28_0 (by omega) (by omega) (by omega) (by omega)) (by decide) rfl rfl rfl (Nat.le_of_ble_eq_true rfl) (oDec_at oX1_hear 136 rfl) (fun u39 pu39 fu39 => ?_)
                try dsimp only at pu39
                try simp only [lk38] at pu39
                obtain ⟨pu39_0, pu39_1⟩ := pu39
                have hhi9 : owHi a2.toInt a4.toInt nn st (x11.toInt + 1) (u39) := owHi_mk (owHi_fr (oFr_oneI (q := 1) (m := 8) rfl (by rfl)) rfl (owHi_fr (oFr_oneI (q := 1) (m := 7) rfl (by rfl)) rfl iv8)) hxk9 (by omega) rfl (pu28_1 (by omega)) (fu28 35 6 rfl).1 (oFr_row fu28 (c := 39) rfl rfl) (pu39_1 (by omega)) (oFr_row fu39 (c := 37) rfl rfl) (oFr_row fu39 (c := 38) rfl rfl) hxa9 hxb9 (by unfold owXm; rw [pu30_0, hr19, hr29, hxl9])
                refine r_iload C (j := 6) (oDec_at oX1_hear 137 rfl) rfl ?_
                refine r_pc C 272 rfl ?_
                refine r_istore C (lv' := [(0, .ref (oad E 35)), (1, .ref (oad E c1)), (2, .int a2), (6, .int x6), (7, .int x9), (8, .int x8), (9, .int x9), (10, .int x10), (11, .int x11), (12, .int r4), (13, .int r7), (14, .int r9), (15, .int k0)]) [1, 2, 3, 4, 0, 5, 6, 7, 8, 9, 10, 11, 12] (oDec_at oX1_hear 138 rfl) (by decide) rfl ?_
                refine r_iload C (j := 7) (oDec_at oX1_hear 139 rfl) rfl ?_
                refine r_istore C (lv' := [(0, .ref (oad E 35)), (1, .ref (oad E c1)), (2, .int a2), (6, .int x6), (7, .int x9), (8, .int x10), (9, .int x9), (10, .int x10), (11, .int x11), (12, .int r4), (13, .int r7), (14, .int r9), (15, .int k0)]) [1, 2, 3, 4, 5, 0, 6, 7, 8, 9, 10, 11, 12] (oDec_at oX1_hear 140 rfl) (by decide) rfl ?_
                refine r_iload C (j := 9) (oDec_at oX1_hear 141 rfl) rfl ?_
                refine r_istore C (lv' := [(0, .ref (oad E 35)), (1, .ref (oad E c1)), (2, .int a2), (6, .int x6), (7, .int x9), (8, .int x10), (9, .int r4), (10, .int x10), (11, .int x11), (12, .int r4), (13, .int r7), (14, .int r9), (15, .int k0)]) [1, 2, 3, 4, 5, 6, 0, 7, 8, 9, 10, 11, 12] (oDec_at oX1_hear 142 rfl) (by decide) rfl ?_
                refine r_iload C (j := 10) (oDec_at oX1_hear 143 rfl) rfl ?_
                refine r_pc C 284 rfl ?_
                refine r_istore C (lv' := [(0, .ref (oad E 35)), (1, .ref (oad E c1)), (2, .int a2), (6, .int x6), (7, .int x9), (8, .int x10), (9, .int r4), (10, .int r7), (11, .int x11), (12, .int r4), (13, .int r7), (14, .int r9), (15, .int k0)]) [1, 2, 3, 4, 5, 6, 7, 0, 8, 9, 10, 11, 12] (oDec_at oX1_hear 144 rfl) (by decide) rfl ?_
                obtain ⟨v41, ev41⟩ : ∃ z : Int32, x11 + Int32.ofInt 1 = z := ⟨_, rfl⟩
                have hv41 : v41.toInt = x11.toInt + 1 := n_inc ev41 (by decide) (by omega) (by omega)
                refine r_iinc C (j := 8) (lv' := [(0, .ref (oad E 35)), (1, .ref (oad E c1)), (2, .int a2), (6, .int x6), (7, .int x9), (8, .int x10), (9, .int r4), (10, .int r7), (11, .int v41), (12, .int r4), (13, .int r7), (14, .int r9), (15, .int k0)]) v41 [1, 2, 3, 4, 5, 6, 7, 8, 0, 9, 10, 11, 12] (oDec_at oX1_hear 145 rfl) rfl ev41 (by decide) rfl ?_
                refine r_goto C (tgt := 103) (oDec_at oX1_hear 146 rfl) (by decide) ?_
                refine r_pick C [0, 1, 2, 3, 4, 5, 6, 7, 8] rfl ?_
                exact (ih (n - 1) (by omega)) (u39) x6 x9 x10 r4 r7 v41  (owLN_fr fu39 rfl (owLN_fr fu28 rfl (owLN_fr (oFr_oneI (q := 1) (m := 8) rfl (by rfl)) rfl (owLN_fr (oFr_oneI (q := 1) (m := 7) rfl (by rfl)) rfl iv0)))) pu39_0 (owVR_fr fu39 rfl (owVR_fr fu28 rfl (owVR_fr (oFr_oneI (q := 1) (m := 8) rfl (by rfl)) rfl (owVR_fr (oFr_oneI (q := 1) (m := 7) rfl (by rfl)) rfl iv2)))) (by omega) (owMA_fr fu39 rfl (owMA_fr fu28 rfl (owMA_fr (oFr_oneI (q := 1) (m := 8) rfl (by rfl)) rfl (owMA_fr (oFr_oneI (q := 1) (m := 7) rfl (by rfl)) rfl iv4)))) (owMS_fr fu39 rfl (owMS_fr fu28 rfl (owMS_fr (oFr_oneI (q := 1) (m := 8) rfl (by rfl)) rfl (owMS_fr (oFr_oneI (q := 1) (m := 7) rfl (by rfl)) rfl iv5)))) (owVc_fr fu39 rfl (owVc_fr fu28 rfl (owVc_fr (oFr_oneI (q := 1) (m := 8) rfl (by rfl)) rfl (owVc_fr (oFr_oneI (q := 1) (m := 7) rfl (by rfl)) rfl iv6)))) (owVc_fr fu39 rfl (owVc_fr fu28 rfl (owVc_fr (oFr_oneI (q := 1) (m := 8) rfl (by rfl)) rfl (owVc_fr (oFr_oneI (q := 1) (m := 7) rfl (by rfl)) rfl iv7)))) (by first | exact owHi_c hhi9 (by omega) | exact owHi_sk (by assumption) (owXk_n1 hxa9 (by omega)) (by omega) | exact owHi_sk (by assumption) (owXk_n2 (by omega) (by omega)) (by omega) | exact owHi_0 (by omega) (by omega)) (by first | (rw [show v41.toInt - 1 = x11.toInt by omega] <;> omega) | (rw [show v41.toInt - 1 = (by assumption).toInt by omega] <;> omega)) (by first | (rw [show v41.toInt - 1 = x11.toInt by omega] <;> omega) | (rw [show v41.toInt - 1 = (by assumption).toInt by omega] <;> omega)) (by first | (rw [show v41.toInt = v2.toInt by omega] <;> omega) | omega) (by first | (rw [show v41.toInt = v5.toInt by omega] <;> omega) | omega) (by omega) (by omega) (by omega) (by omega) (by omega)
              · skip
                refine r_iconst C (oDec_at oX1_hear 106 rfl) (v := k1) (by rw [qk1]; rfl) ?_
                refine r_goto C (tgt := 215) (oDec_at oX1_hear 107 rfl) (by decide) ?_
                have hxl9 : k1.toInt = owXl a4.toInt nn st x11.toInt := by unfold owXl; first | (rw [if_pos (by omega)] <;> omega) | (rw [if_neg (by omega)] <;> omega)
                refine r_istore C (lv' := [(0, .ref (oad E 35)), (1, .ref (oad E c1)), (2, .int a2), (6, .int x6), (7, .int x7), (8, .int x8), (9, .int x9), (10, .int x10), (11, .int x11), (12, .int r4), (13, .int r7), (14, .int r9), (15, .int k1)]) [1, 2, 3, 4, 5, 6, 7, 8, 9, 10, 11, 12, 0] (oDec_at oX1_hear 109 rfl) (by decide) rfl ?_
                refine r_aload_n C (j := 0) (oDec_at oX1_hear 110 rfl) rfl rfl ?_
                refine r_iload C (j := 8) (oDec_at oX1_hear 111 rfl) rfl ?_
                refine r_iload C (j := 11) (oDec_at oX1_hear 112 rfl) rfl ?_
                refine r_aload_n C (j := 0) (oDec_at oX1_hear 113 rfl) rfl rfl ?_
                refine r_pc C 223 rfl ?_
                refine r_aload_n C (j := 1) (oDec_at oX1_hear 114 rfl) rfl rfl ?_
                refine r_iload C (j := 4) (oDec_at oX1_hear 115 rfl) rfl ?_
                refine r_iload C (j := 5) (oDec_at oX1_hear 116 rfl) rfl ?_
                refine r_callVi C oCl1 rfl miX1_apartAt mlX1_59 (ct9_X1_apartAt l E ((pI (pI t 35 7 v15) 35 8 r20)) c1 hk1 x7 x8 (owLN_fr (oFr_oneI (q := 1) (m := 8) rfl (by rfl)) rfl (owLN_fr (oFr_oneI (q := 1) (m := 7) rfl (by rfl)) rfl iv0)) (owVR_fr (oFr_oneI (q := 1) (m := 8) rfl (by rfl)) rfl (owVR_fr (oFr_oneI (q := 1) (m := 7) rfl (by rfl)) rfl iv2))) (by decide) rfl rfl rfl (Nat.le_of_ble_eq_true rfl) (oDec_at oX1_hear 117 rfl) (fun r43 u42 pu42 fu42 => ?_)
                try dsimp only at pu42
                have hxu42 := oFr_nil fu42; subst hxu42
                have rr43 := n_rng r43
                have hlp9 := pu42
                have hlb9 := owAp_b (a := x7.toInt) (b := x8.toInt) (show owLN ((pI (pI t 35 7 v15) 35 8 r20)) from (owLN_fr (oFr_oneI (q := 1) (m := 8) rfl (by rfl)) rfl (owLN_fr (oFr_oneI (q := 1) (m := 7) rfl (by rfl)) rfl iv0))) hk1 (show owVR ((pI (pI t 35 7 v15) 35 8 r20)) from (owVR_fr (oFr_oneI (q := 1) (m := 8) rfl (by rfl)) rfl (owVR_fr (oFr_oneI (q := 1) (m := 7) rfl (by rfl)) rfl iv2)))
                have hxb9 : r43.toInt = owXa a4.toInt nn st (x11.toInt - 1) := (pu42).trans (by rw [owAp_m (show owMA c1 nn ((pI (pI t 35 7 v15) 35 8 r20)) from (owMA_fr (oFr_oneI (q := 1) (m := 8) rfl (by rfl)) rfl (owMA_fr (oFr_oneI (q := 1) (m := 7) rfl (by rfl)) rfl iv4))) (show owMS c1 nn st ((pI (pI t 35 7 v15) 35 8 r20)) from (owMS_fr (oFr_oneI (q := 1) (m := 8) rfl (by rfl)) rfl (owMS_fr (oFr_oneI (q := 1) (m := 7) rfl (by rfl)) rfl iv5))) (show owVc 40 84 ((pI (pI t 35 7 v15) 35 8 r20)) from (owVc_fr (oFr_oneI (q := 1) (m := 8) rfl (by rfl)) rfl (owVc_fr (oFr_oneI (q := 1) (m := 7) rfl (by rfl)) rfl iv6))).2 (show owVc 41 a4.toInt ((pI (pI t 35 7 v15) 35 8 r20)) from (owVc_fr (oFr_oneI (q := 1) (m := 8) rfl (by rfl)) rfl (owVc_fr (oFr_oneI (q := 1) (m := 7) rfl (by rfl)) rfl iv7))).2 hp4, iv9, iv10]; rfl)
                have hcn9 := (show owHi a2.toInt a4.toInt nn st x11.toInt ((pI (pI t 35 7 v15) 35 8 r20)) from (owHi_fr (oFr_oneI (q := 1) (m := 8) rfl (by rfl)) rfl (owHi_fr (oFr_oneI (q := 1) (m := 7) rfl (by rfl)) rfl iv8))).2.2
                have lk44 : (((pI (pI t 35 7 v15) 35 8 r20)).1 35 6).toInt = (t.1 35 6).toInt := congrArg Int32.toInt (((pI_ne (a := 35) (b := 6) (c := 35) (k := 8) _ _ (Or.inr (by decide)))).trans ((pI_ne (a := 35) (b := 6) (c := 35) (k := 7) _ _ (Or.inr (by decide)))))
                refine r_callVv C oCl1 rfl miX1_mark mlX1_74 (ct9_X1_mark l E ((pI (pI t 35 7 v15) 35 8 r20)) x11 r9 r43 (owDN_fr (oFr_oneI (q := 1) (m := 8) rfl (by rfl)) rfl (owDN_fr (oFr_oneI (q := 1) (m := 7) rfl (by rfl)) rfl iv1)) (by omega) (by omega)) (by decide) rfl rfl rfl (Nat.le_of_ble_eq_true rfl) (oDec_at oX1_hear 118 rfl) (fun u45 pu45 fu45 => ?_)
                try dsimp only at pu45
                try simp only [lk44] at pu45
                obtain ⟨pu45_0, pu45_1⟩ := pu45
                have hvr9 : owVR (u45) := (owVR_fr fu45 rfl (owVR_fr (oFr_oneI (q := 1) (m := 8) rfl (by rfl)) rfl (owVR_fr (oFr_oneI (q := 1) (m := 7) rfl (by rfl)) rfl iv2)))
                have hv40 := hvr9.1.1
                have hv41 := hvr9.2.1
                have hcn8 := congrArg Int32.toInt (fu45 35 6 rfl).1
                refine r_aload_n C (j := 0) (oDec_at oX1_hear 119 rfl) rfl rfl ?_
                refine r_pc C 235 rfl ?_
                refine r_iload C (j := 8) (oDec_at oX1_hear 120 rfl) rfl ?_
                refine r_iload_n C (j := 2) (oDec_at oX1_hear 121 rfl) rfl rfl ?_
                refine r_callSi C miX1_beatOf mlX1_78 (ct9_X1_beatOf l E (u45) x11 a2 (by omega) (by omega)) (by decide) rfl rfl rfl (Nat.le_of_ble_eq_true rfl) (oDec_at oX1_hear 122 rfl) (fun r48 u47 pu47 fu47 => ?_)
                try dsimp only at pu47
                obtain ⟨pu47_0, pu47_1⟩ := pu47
                have hxu47 := oFr_nil fu47; subst hxu47
                have rr48 := n_rng r48
                refine r_aload_n C (j := 0) (oDec_at oX1_hear 123 rfl) rfl rfl ?_
                refine r_getF (k := 4) (b := 40) C oCl1 rfl (by decide) flX1_27 rfl rfl rfl (oDec_at oX1_hear 124 rfl) ?_
                refine r_aload_n C (j := 1) (oDec_at oX1_hear 125 rfl) rfl rfl ?_
                refine r_pc C 246 rfl ?_
                refine r_iload C (j := 4) (oDec_at oX1_hear 126 rfl) rfl ?_
                refine r_iload C (j := 6) (oDec_at oX1_hear 127 rfl) rfl ?_
                have lk49 : ((u45).1 40 1).toInt = (t.1 40 1).toInt := congrArg Int32.toInt (((fu45 40 1 rfl).1).trans (((pI_ne (a := 40) (b := 1) (c := 35) _ _ (Or.inl (by decide)))).trans ((pI_ne (a := 40) (b := 1) (c := 35) _ _ (Or.inl (by decide))))))
                refine r_callSi C miX1_rise mlX1_81 (ct9_X1_rise l E (u45) 40 rfl c1 hk1 x7 x9 (owLN_fr fu45 rfl (owLN_fr (oFr_oneI (q := 1) (m := 8) rfl (by rfl)) rfl (owLN_fr (oFr_oneI (q := 1) (m := 7) rfl (by rfl)) rfl iv0))) hv40 (by rw [(show owVL 40 c1 (owTn (t) 40 c1) (u45) from (owVL_fr fu45 rfl (owVL_fr (oFr_oneI (q := 1) (m := 8) rfl (by rfl)) rfl (owVL_fr (oFr_oneI (q := 1) (m := 7) rfl (by rfl)) rfl hq10)))).2.2 _]; exact hne9.1)) (by decide) rfl rfl rfl (Nat.le_of_ble_eq_true rfl) (oDec_at oX1_hear 128 rfl) (fun r51 u50 pu50 fu50 => ?_)
                try dsimp only at pu50
                try simp only [lk49] at pu50
                obtain ⟨pu50_0, pu50_1⟩ := pu50
                have hxu50 := oFr_nil fu50; subst hxu50
                have rr51 := n_rng r51
                have hr19 : r51.toInt = owRq 84 nn st (owNb 84 nn (x11.toInt - 1)) (owNb 84 nn x11.toInt) := (pu50_0).trans (by rw [owRi_m (show owMA c1 nn (u45) from (owMA_fr fu45 rfl (owMA_fr (oFr_oneI (q := 1) (m := 8) rfl (by rfl)) rfl (owMA_fr (oFr_oneI (q := 1) (m := 7) rfl (by rfl)) rfl iv4)))) (show owMS c1 nn st (u45) from (owMS_fr fu45 rfl (owMS_fr (oFr_oneI (q := 1) (m := 8) rfl (by rfl)) rfl (owMS_fr (oFr_oneI (q := 1) (m := 7) rfl (by rfl)) rfl iv5)))) (show owVc 40 84 (u45) from (owVc_fr fu45 rfl (owVc_fr (oFr_oneI (q := 1) (m := 8) rfl (by rfl)) rfl (owVc_fr (oFr_oneI (q := 1) (m := 7) rfl (by rfl)) rfl iv6)))).2 hp4, iv9, iv11])
                refine r_aload_n C (j := 0) (oDec_at oX1_hear 129 rfl) rfl rfl ?_
                refine r_getF (k := 5) (b := 41) C oCl1 rfl (by decide) flX1_31 rfl rfl rfl (oDec_at oX1_hear 130 rfl) ?_
                refine r_aload_n C (j := 1) (oDec_at oX1_hear 131 rfl) rfl rfl ?_
                refine r_pc C 258 rfl ?_
                refine r_iload C (j := 5) (oDec_at oX1_hear 132 rfl) rfl ?_
                refine r_iload C (j := 7) (oDec_at oX1_hear 133 rfl) rfl ?_
                have lk52 : ((u45).1 41 1).toInt = (t.1 41 1).toInt := congrArg Int32.toInt (((fu45 41 1 rfl).1).trans (((pI_ne (a := 41) (b := 1) (c := 35) _ _ (Or.inl (by decide)))).trans ((pI_ne (a := 41) (b := 1) (c := 35) _ _ (Or.inl (by decide))))))
                refine r_callSi C miX1_rise mlX1_81 (ct9_X1_rise l E (u45) 41 rfl c1 hk1 x8 x10 (owLN_fr fu45 rfl (owLN_fr (oFr_oneI (q := 1) (m := 8) rfl (by rfl)) rfl (owLN_fr (oFr_oneI (q := 1) (m := 7) rfl (by rfl)) rfl iv0))) hv41 (by rw [(show owVL 41 c1 (owTn (t) 41 c1) (u45) from (owVL_fr fu45 rfl (owVL_fr (oFr_oneI (q := 1) (m := 8) rfl (by rfl)) rfl (owVL_fr (oFr_oneI (q := 1) (m := 7) rfl (by rfl)) rfl hq11)))).2.2 _]; exact hne9.2)) (by decide) rfl rfl rfl (Nat.le_of_ble_eq_true rfl) (oDec_at oX1_hear 134 rfl) (fun r54 u53 pu53 fu53 => ?_)
                try dsimp only at pu53
                try simp only [lk52] at pu53
                obtain ⟨pu53_0, pu53_1⟩ := pu53
                have hxu53 := oFr_nil fu53; subst hxu53
                have rr54 := n_rng r54
                have hr29 : r54.toInt = owRq a4.toInt nn st (owNb a4.toInt nn (x11.toInt - 1)) (owNb a4.toInt nn x11.toInt) := (pu53_0).trans (by rw [owRi_m (show owMA c1 nn (u45) from (owMA_fr fu45 rfl (owMA_fr (oFr_oneI (q := 1) (m := 8) rfl (by rfl)) rfl (owMA_fr (oFr_oneI (q := 1) (m := 7) rfl (by rfl)) rfl iv4)))) (show owMS c1 nn st (u45) from (owMS_fr fu45 rfl (owMS_fr (oFr_oneI (q := 1) (m := 8) rfl (by rfl)) rfl (owMS_fr (oFr_oneI (q := 1) (m := 7) rfl (by rfl)) rfl iv5)))) (show owVc 41 a4.toInt (u45) from (owVc_fr fu45 rfl (owVc_fr (oFr_oneI (q := 1) (m := 8) rfl (by rfl)) rfl (owVc_fr (oFr_oneI (q := 1) (m := 7) rfl (by rfl)) rfl iv7)))).2 hp4, iv10, iv12])
                refine r_iload C (j := 12) (oDec_at oX1_hear 135 rfl) rfl ?_
                have lk55 : ((u45).1 35 6).toInt = (t.1 35 6).toInt := congrArg Int32.toInt (((fu45 35 6 rfl).1).trans (((pI_ne (a := 35) (b := 6) (c := 35) (k := 8) _ _ (Or.inr (by decide)))).trans ((pI_ne (a := 35) (b := 6) (c := 35) (k := 7) _ _ (Or.inr (by decide))))))
                refine r_callVv C oCl1 rfl miX1_moved mlX1_85 (ct9_X1_moved l E (u45) r48 r51 r54 k1 pu45_0 (by omega) (by omega) (by omega) (by omega)) (by decide) rfl rfl rfl (Nat.le_of_ble_eq_true rfl) (oDec_at oX1_hear 136 rfl) (fun u56 pu56 fu56 => ?_)
                try dsimp only at pu56
                try simp only [lk55] at pu56
                obtain ⟨pu56_0, pu56_1⟩ := pu56
                have hhi9 : owHi a2.toInt a4.toInt nn st (x11.toInt + 1) (u56) := owHi_mk (owHi_fr (oFr_oneI (q := 1) (m := 8) rfl (by rfl)) rfl (owHi_fr (oFr_oneI (q := 1) (m := 7) rfl (by rfl)) rfl iv8)) hxk9 (by omega) rfl (pu45_1 (by omega)) (fu45 35 6 rfl).1 (oFr_row fu45 (c := 39) rfl rfl) (pu56_1 (by omega)) (oFr_row fu56 (c := 37) rfl rfl) (oFr_row fu56 (c := 38) rfl rfl) hxa9 hxb9 (by unfold owXm; rw [pu47_0, hr19, hr29, hxl9])
                refine r_iload C (j := 6) (oDec_at oX1_hear 137 rfl) rfl ?_
                refine r_pc C 272 rfl ?_
                refine r_istore C (lv' := [(0, .ref (oad E 35)), (1, .ref (oad E c1)), (2, .int a2), (6, .int x6), (7, .int x9), (8, .int x8), (9, .int x9), (10, .int x10), (11, .int x11), (12, .int r4), (13, .int r7), (14, .int r9), (15, .int k1)]) [1, 2, 3, 4, 0, 5, 6, 7, 8, 9, 10, 11, 12] (oDec_at oX1_hear 138 rfl) (by decide) rfl ?_
                refine r_iload C (j := 7) (oDec_at oX1_hear 139 rfl) rfl ?_
                refine r_istore C (lv' := [(0, .ref (oad E 35)), (1, .ref (oad E c1)), (2, .int a2), (6, .int x6), (7, .int x9), (8, .int x10), (9, .int x9), (10, .int x10), (11, .int x11), (12, .int r4), (13, .int r7), (14, .int r9), (15, .int k1)]) [1, 2, 3, 4, 5, 0, 6, 7, 8, 9, 10, 11, 12] (oDec_at oX1_hear 140 rfl) (by decide) rfl ?_
                refine r_iload C (j := 9) (oDec_at oX1_hear 141 rfl) rfl ?_
                refine r_istore C (lv' := [(0, .ref (oad E 35)), (1, .ref (oad E c1)), (2, .int a2), (6, .int x6), (7, .int x9), (8, .int x10), (9, .int r4), (10, .int x10), (11, .int x11), (12, .int r4), (13, .int r7), (14, .int r9), (15, .int k1)]) [1, 2, 3, 4, 5, 6, 0, 7, 8, 9, 10, 11, 12] (oDec_at oX1_hear 142 rfl) (by decide) rfl ?_
                refine r_iload C (j := 10) (oDec_at oX1_hear 143 rfl) rfl ?_
                refine r_pc C 284 rfl ?_
                refine r_istore C (lv' := [(0, .ref (oad E 35)), (1, .ref (oad E c1)), (2, .int a2), (6, .int x6), (7, .int x9), (8, .int x10), (9, .int r4), (10, .int r7), (11, .int x11), (12, .int r4), (13, .int r7), (14, .int r9), (15, .int k1)]) [1, 2, 3, 4, 5, 6, 7, 0, 8, 9, 10, 11, 12] (oDec_at oX1_hear 144 rfl) (by decide) rfl ?_
                obtain ⟨v58, ev58⟩ : ∃ z : Int32, x11 + Int32.ofInt 1 = z := ⟨_, rfl⟩
                have hv58 : v58.toInt = x11.toInt + 1 := n_inc ev58 (by decide) (by omega) (by omega)
                refine r_iinc C (j := 8) (lv' := [(0, .ref (oad E 35)), (1, .ref (oad E c1)), (2, .int a2), (6, .int x6), (7, .int x9), (8, .int x10), (9, .int r4), (10, .int r7), (11, .int v58), (12, .int r4), (13, .int r7), (14, .int r9), (15, .int k1)]) v58 [1, 2, 3, 4, 5, 6, 7, 8, 0, 9, 10, 11, 12] (oDec_at oX1_hear 145 rfl) rfl ev58 (by decide) rfl ?_
                refine r_goto C (tgt := 103) (oDec_at oX1_hear 146 rfl) (by decide) ?_
                refine r_pick C [0, 1, 2, 3, 4, 5, 6, 7, 8] rfl ?_
                exact (ih (n - 1) (by omega)) (u56) x6 x9 x10 r4 r7 v58  (owLN_fr fu56 rfl (owLN_fr fu45 rfl (owLN_fr (oFr_oneI (q := 1) (m := 8) rfl (by rfl)) rfl (owLN_fr (oFr_oneI (q := 1) (m := 7) rfl (by rfl)) rfl iv0)))) pu56_0 (owVR_fr fu56 rfl (owVR_fr fu45 rfl (owVR_fr (oFr_oneI (q := 1) (m := 8) rfl (by rfl)) rfl (owVR_fr (oFr_oneI (q := 1) (m := 7) rfl (by rfl)) rfl iv2)))) (by omega) (owMA_fr fu56 rfl (owMA_fr fu45 rfl (owMA_fr (oFr_oneI (q := 1) (m := 8) rfl (by rfl)) rfl (owMA_fr (oFr_oneI (q := 1) (m := 7) rfl (by rfl)) rfl iv4)))) (owMS_fr fu56 rfl (owMS_fr fu45 rfl (owMS_fr (oFr_oneI (q := 1) (m := 8) rfl (by rfl)) rfl (owMS_fr (oFr_oneI (q := 1) (m := 7) rfl (by rfl)) rfl iv5)))) (owVc_fr fu56 rfl (owVc_fr fu45 rfl (owVc_fr (oFr_oneI (q := 1) (m := 8) rfl (by rfl)) rfl (owVc_fr (oFr_oneI (q := 1) (m := 7) rfl (by rfl)) rfl iv6)))) (owVc_fr fu56 rfl (owVc_fr fu45 rfl (owVc_fr (oFr_oneI (q := 1) (m := 8) rfl (by rfl)) rfl (owVc_fr (oFr_oneI (q := 1) (m := 7) rfl (by rfl)) rfl iv7)))) (by first | exact owHi_c hhi9 (by omega) | exact owHi_sk (by assumption) (owXk_n1 hxa9 (by omega)) (by omega) | exact owHi_sk (by assumption) (owXk_n2 (by omega) (by omega)) (by omega) | exact owHi_0 (by omega) (by omega)) (by first | (rw [show v58.toInt - 1 = x11.toInt by omega] <;> omega) | (rw [show v58.toInt - 1 = (by assumption).toInt by omega] <;> omega)) (by first | (rw [show v58.toInt - 1 = x11.toInt by omega] <;> omega) | (rw [show v58.toInt - 1 = (by assumption).toInt by omega] <;> omega)) (by first | (rw [show v58.toInt = v2.toInt by omega] <;> omega) | omega) (by first | (rw [show v58.toInt = v5.toInt by omega] <;> omega) | omega) (by omega) (by omega) (by omega) (by omega) (by omega)
            · skip
              refine r_iload C (j := 7) (oDec_at oX1_hear 96 rfl) rfl ?_
              refine r_iload C (j := 5) (oDec_at oX1_hear 97 rfl) rfl ?_
              refine r_icmp_eq C 270 (oDec_at oX1_hear 98 rfl) (by decide) (fun cd59 => ?_) (fun cd59 => ?_)
              · skip
                refine r_iload C (j := 6) (oDec_at oX1_hear 137 rfl) rfl ?_
                refine r_istore C (lv' := [(0, .ref (oad E 35)), (1, .ref (oad E c1)), (2, .int a2), (6, .int x6), (7, .int x9), (8, .int x8), (9, .int x9), (10, .int x10), (11, .int x11), (12, .int r4), (13, .int r7), (14, .int r9)]) [1, 2, 3, 4, 0, 5, 6, 7, 8, 9, 10, 11] (oDec_at oX1_hear 138 rfl) (by decide) rfl ?_
                refine r_iload C (j := 7) (oDec_at oX1_hear 139 rfl) rfl ?_
                refine r_istore C (lv' := [(0, .ref (oad E 35)), (1, .ref (oad E c1)), (2, .int a2), (6, .int x6), (7, .int x9), (8, .int x10), (9, .int x9), (10, .int x10), (11, .int x11), (12, .int r4), (13, .int r7), (14, .int r9)]) [1, 2, 3, 4, 5, 0, 6, 7, 8, 9, 10, 11] (oDec_at oX1_hear 140 rfl) (by decide) rfl ?_
                refine r_iload C (j := 9) (oDec_at oX1_hear 141 rfl) rfl ?_
                refine r_istore C (lv' := [(0, .ref (oad E 35)), (1, .ref (oad E c1)), (2, .int a2), (6, .int x6), (7, .int x9), (8, .int x10), (9, .int r4), (10, .int x10), (11, .int x11), (12, .int r4), (13, .int r7), (14, .int r9)]) [1, 2, 3, 4, 5, 6, 0, 7, 8, 9, 10, 11] (oDec_at oX1_hear 142 rfl) (by decide) rfl ?_
                refine r_pc C 282 rfl ?_
                refine r_iload C (j := 10) (oDec_at oX1_hear 143 rfl) rfl ?_
                refine r_istore C (lv' := [(0, .ref (oad E 35)), (1, .ref (oad E c1)), (2, .int a2), (6, .int x6), (7, .int x9), (8, .int x10), (9, .int r4), (10, .int r7), (11, .int x11), (12, .int r4), (13, .int r7), (14, .int r9)]) [1, 2, 3, 4, 5, 6, 7, 0, 8, 9, 10, 11] (oDec_at oX1_hear 144 rfl) (by decide) rfl ?_
                obtain ⟨v60, ev60⟩ : ∃ z : Int32, x11 + Int32.ofInt 1 = z := ⟨_, rfl⟩
                have hv60 : v60.toInt = x11.toInt + 1 := n_inc ev60 (by decide) (by omega) (by omega)
                refine r_iinc C (j := 8) (lv' := [(0, .ref (oad E 35)), (1, .ref (oad E c1)), (2, .int a2), (6, .int x6), (7, .int x9), (8, .int x10), (9, .int r4), (10, .int r7), (11, .int v60), (12, .int r4), (13, .int r7), (14, .int r9)]) v60 [1, 2, 3, 4, 5, 6, 7, 8, 0, 9, 10, 11] (oDec_at oX1_hear 145 rfl) rfl ev60 (by decide) rfl ?_
                refine r_goto C (tgt := 103) (oDec_at oX1_hear 146 rfl) (by decide) ?_
                refine r_pick C [0, 1, 2, 3, 4, 5, 6, 7, 8] rfl ?_
                exact (ih (n - 1) (by omega)) ((pI (pI t 35 7 v15) 35 8 r20)) x6 x9 x10 r4 r7 v60  (owLN_fr (oFr_oneI (q := 1) (m := 8) rfl (by rfl)) rfl (owLN_fr (oFr_oneI (q := 1) (m := 7) rfl (by rfl)) rfl iv0)) (owDN_fr (oFr_oneI (q := 1) (m := 8) rfl (by rfl)) rfl (owDN_fr (oFr_oneI (q := 1) (m := 7) rfl (by rfl)) rfl iv1)) (owVR_fr (oFr_oneI (q := 1) (m := 8) rfl (by rfl)) rfl (owVR_fr (oFr_oneI (q := 1) (m := 7) rfl (by rfl)) rfl iv2)) (by omega) (owMA_fr (oFr_oneI (q := 1) (m := 8) rfl (by rfl)) rfl (owMA_fr (oFr_oneI (q := 1) (m := 7) rfl (by rfl)) rfl iv4)) (owMS_fr (oFr_oneI (q := 1) (m := 8) rfl (by rfl)) rfl (owMS_fr (oFr_oneI (q := 1) (m := 7) rfl (by rfl)) rfl iv5)) (owVc_fr (oFr_oneI (q := 1) (m := 8) rfl (by rfl)) rfl (owVc_fr (oFr_oneI (q := 1) (m := 7) rfl (by rfl)) rfl iv6)) (owVc_fr (oFr_oneI (q := 1) (m := 8) rfl (by rfl)) rfl (owVc_fr (oFr_oneI (q := 1) (m := 7) rfl (by rfl)) rfl iv7)) (by first | exact owHi_c hhi9 (by omega) | exact owHi_sk (owHi_fr (oFr_oneI (q := 1) (m := 8) rfl (by rfl)) rfl (owHi_fr (oFr_oneI (q := 1) (m := 7) rfl (by rfl)) rfl iv8)) (owXk_n1 hxa9 (by omega)) (by omega) | exact owHi_sk (owHi_fr (oFr_oneI (q := 1) (m := 8) rfl (by rfl)) rfl (owHi_fr (oFr_oneI (q := 1) (m := 7) rfl (by rfl)) rfl iv8)) (owXk_n2 (by omega) (by omega)) (by omega) | exact owHi_0 (by omega) (by omega)) (by first | (rw [show v60.toInt - 1 = x11.toInt by omega] <;> omega) | (rw [show v60.toInt - 1 = (by assumption).toInt by omega] <;> omega)) (by first | (rw [show v60.toInt - 1 = x11.toInt by omega] <;> omega) | (rw [show v60.toInt - 1 = (by assumption).toInt by omega] <;> omega)) (by first | (rw [show v60.toInt = v2.toInt by omega] <;> omega) | omega) (by first | (rw [show v60.toInt = v5.toInt by omega] <;> omega) | omega) (by omega) (by omega) (by omega) (by omega) (by omega)
              · skip
                have hxk9 : owXk a4.toInt nn st x11.toInt := owXk_y hxa9 (by omega) (by omega)
                refine r_aload_n C (j := 0) (oDec_at oX1_hear 99 rfl) rfl rfl ?_
                refine r_aload_n C (j := 1) (oDec_at oX1_hear 100 rfl) rfl rfl ?_
                refine r_iload C (j := 9) (oDec_at oX1_hear 101 rfl) rfl ?_
                refine r_iload C (j := 10) (oDec_at oX1_hear 102 rfl) rfl ?_
                refine r_callVi C oCl1 rfl miX1_apartAt mlX1_59 (ct9_X1_apartAt l E ((pI (pI t 35 7 v15) 35 8 r20)) c1 hk1 r4 r7 (owLN_fr (oFr_oneI (q := 1) (m := 8) rfl (by rfl)) rfl (owLN_fr (oFr_oneI (q := 1) (m := 7) rfl (by rfl)) rfl iv0)) (owVR_fr (oFr_oneI (q := 1) (m := 8) rfl (by rfl)) rfl (owVR_fr (oFr_oneI (q := 1) (m := 7) rfl (by rfl)) rfl iv2))) (by decide) rfl rfl rfl (Nat.le_of_ble_eq_true rfl) (oDec_at oX1_hear 103 rfl) (fun r62 u61 pu61 fu61 => ?_)
                try dsimp only at pu61
                have hxu61 := oFr_nil fu61; subst hxu61
                have rr62 := n_rng r62
                have hxn9 : r62.toInt = owAq a4.toInt nn st (owNb 84 nn (x11.toInt + 1)) (owNb a4.toInt nn (x11.toInt + 1)) := (pu61).trans (by rw [owAp_m (show owMA c1 nn ((pI (pI t 35 7 v15) 35 8 r20)) from (owMA_fr (oFr_oneI (q := 1) (m := 8) rfl (by rfl)) rfl (owMA_fr (oFr_oneI (q := 1) (m := 7) rfl (by rfl)) rfl iv4))) (show owMS c1 nn st ((pI (pI t 35 7 v15) 35 8 r20)) from (owMS_fr (oFr_oneI (q := 1) (m := 8) rfl (by rfl)) rfl (owMS_fr (oFr_oneI (q := 1) (m := 7) rfl (by rfl)) rfl iv5))) (show owVc 40 84 ((pI (pI t 35 7 v15) 35 8 r20)) from (owVc_fr (oFr_oneI (q := 1) (m := 8) rfl (by rfl)) rfl (owVc_fr (oFr_oneI (q := 1) (m := 7) rfl (by rfl)) rfl iv6))).2 (show owVc 41 a4.toInt ((pI (pI t 35 7 v15) 35 8 r20)) from (owVc_fr (oFr_oneI (q := 1) (m := 8) rfl (by rfl)) rfl (owVc_fr (oFr_oneI (q := 1) (m := 7) rfl (by rfl)) rfl iv7))).2 hp4, hn129, hn139])
                refine r_ldc C (v := km1000000000) (by rw [qkm1000000000]; exact kcX1_63) (oDec_at oX1_hear 104 rfl) ?_
                refine r_pc C 207 rfl ?_
                refine r_icmp_ne C 214 (oDec_at oX1_hear 105 rfl) (by decide) (fun cd63 => ?_) (fun cd63 => ?_)
                · skip
                  refine r_iconst C (oDec_at oX1_hear 108 rfl) (v := k0) (by rw [qk0]; rfl) ?_
                  have hxl9 : k0.toInt = owXl a4.toInt nn st x11.toInt := by unfold owXl; first | (rw [if_pos (by omega)] <;> omega) | (rw [if_neg (by omega)] <;> omega)
                  refine r_istore C (lv' := [(0, .ref (oad E 35)), (1, .ref (oad E c1)), (2, .int a2), (6, .int x6), (7, .int x7), (8, .int x8), (9, .int x9), (10, .int x10), (11, .int x11), (12, .int r4), (13, .int r7), (14, .int r9), (15, .int k0)]) [1, 2, 3, 4, 5, 6, 7, 8, 9, 10, 11, 12, 0] (oDec_at oX1_hear 109 rfl) (by decide) rfl ?_
                  refine r_aload_n C (j := 0) (oDec_at oX1_hear 110 rfl) rfl rfl ?_
                  refine r_iload C (j := 8) (oDec_at oX1_hear 111 rfl) rfl ?_
                  refine r_iload C (j := 11) (oDec_at oX1_hear 112 rfl) rfl ?_
                  refine r_aload_n C (j := 0) (oDec_at oX1_hear 113 rfl) rfl rfl ?_
                  refine r_pc C 223 rfl ?_
                  refine r_aload_n C (j := 1) (oDec_at oX1_hear 114 rfl) rfl rfl ?_
                  refine r_iload C (j := 4) (oDec_at oX1_hear 115 rfl) rfl ?_
                  refine r_iload C (j := 5) (oDec_at oX1_hear 116 rfl) rfl ?_
                  refine r_callVi C oCl1 rfl miX1_apartAt mlX1_59 (ct9_X1_apartAt l E ((pI (pI t 35 7 v15) 35 8 r20)) c1 hk1 x7 x8 (owLN_fr (oFr_oneI (q := 1) (m := 8) rfl (by rfl)) rfl (owLN_fr (oFr_oneI (q := 1) (m := 7) rfl (by rfl)) rfl iv0)) (owVR_fr (oFr_oneI (q := 1) (m := 8) rfl (by rfl)) rfl (owVR_fr (oFr_oneI (q := 1) (m := 7) rfl (by rfl)) rfl iv2))) (by decide) rfl rfl rfl (Nat.le_of_ble_eq_true rfl) (oDec_at oX1_hear 117 rfl) (fun r65 u64 pu64 fu64 => ?_)
                  try dsimp only at pu64
                  have hxu64 := oFr_nil fu64; subst hxu64
                  have rr65 := n_rng r65
                  have hlp9 := pu64
                  have hlb9 := owAp_b (a := x7.toInt) (b := x8.toInt) (show owLN ((pI (pI t 35 7 v15) 35 8 r20)) from (owLN_fr (oFr_oneI (q := 1) (m := 8) rfl (by rfl)) rfl (owLN_fr (oFr_oneI (q := 1) (m := 7) rfl (by rfl)) rfl iv0))) hk1 (show owVR ((pI (pI t 35 7 v15) 35 8 r20)) from (owVR_fr (oFr_oneI (q := 1) (m := 8) rfl (by rfl)) rfl (owVR_fr (oFr_oneI (q := 1) (m := 7) rfl (by rfl)) rfl iv2)))
                  have hxb9 : r65.toInt = owXa a4.toInt nn st (x11.toInt - 1) := (pu64).trans (by rw [owAp_m (show owMA c1 nn ((pI (pI t 35 7 v15) 35 8 r20)) from (owMA_fr (oFr_oneI (q := 1) (m := 8) rfl (by rfl)) rfl (owMA_fr (oFr_oneI (q := 1) (m := 7) rfl (by rfl)) rfl iv4))) (show owMS c1 nn st ((pI (pI t 35 7 v15) 35 8 r20)) from (owMS_fr (oFr_oneI (q := 1) (m := 8) rfl (by rfl)) rfl (owMS_fr (oFr_oneI (q := 1) (m := 7) rfl (by rfl)) rfl iv5))) (show owVc 40 84 ((pI (pI t 35 7 v15) 35 8 r20)) from (owVc_fr (oFr_oneI (q := 1) (m := 8) rfl (by rfl)) rfl (owVc_fr (oFr_oneI (q := 1) (m := 7) rfl (by rfl)) rfl iv6))).2 (show owVc 41 a4.toInt ((pI (pI t 35 7 v15) 35 8 r20)) from (owVc_fr (oFr_oneI (q := 1) (m := 8) rfl (by rfl)) rfl (owVc_fr (oFr_oneI (q := 1) (m := 7) rfl (by rfl)) rfl iv7))).2 hp4, iv9, iv10]; rfl)
                  have hcn9 := (show owHi a2.toInt a4.toInt nn st x11.toInt ((pI (pI t 35 7 v15) 35 8 r20)) from (owHi_fr (oFr_oneI (q := 1) (m := 8) rfl (by rfl)) rfl (owHi_fr (oFr_oneI (q := 1) (m := 7) rfl (by rfl)) rfl iv8))).2.2
                  have lk66 : (((pI (pI t 35 7 v15) 35 8 r20)).1 35 6).toInt = (t.1 35 6).toInt := congrArg Int32.toInt (((pI_ne (a := 35) (b := 6) (c := 35) (k := 8) _ _ (Or.inr (by decide)))).trans ((pI_ne (a := 35) (b := 6) (c := 35) (k := 7) _ _ (Or.inr (by decide)))))
                  refine r_callVv C oCl1 rfl miX1_mark mlX1_74 (ct9_X1_mark l E ((pI (pI t 35 7 v15) 35 8 r20)) x11 r9 r65 (owDN_fr (oFr_oneI (q := 1) (m := 8) rfl (by rfl)) rfl (owDN_fr (oFr_oneI (q := 1) (m := 7) rfl (by rfl)) rfl iv1)) (by omega) (by omega)) (by decide) rfl rfl rfl (Nat.le_of_ble_eq_true rfl) (oDec_at oX1_hear 118 rfl) (fun u67 pu67 fu67 => ?_)
                  try dsimp only at pu67
                  try simp only [lk66] at pu67
                  obtain ⟨pu67_0, pu67_1⟩ := pu67
                  have hvr9 : owVR (u67) := (owVR_fr fu67 rfl (owVR_fr (oFr_oneI (q := 1) (m := 8) rfl (by rfl)) rfl (owVR_fr (oFr_oneI (q := 1) (m := 7) rfl (by rfl)) rfl iv2)))
                  have hv40 := hvr9.1.1
                  have hv41 := hvr9.2.1
                  have hcn8 := congrArg Int32.toInt (fu67 35 6 rfl).1
                  refine r_aload_n C (j := 0) (oDec_at oX1_hear 119 rfl) rfl rfl ?_
                  refine r_pc C 235 rfl ?_
                  refine r_iload C (j := 8) (oDec_at oX1_hear 120 rfl) rfl ?_
                  refine r_iload_n C (j := 2) (oDec_at oX1_hear 121 rfl) rfl rfl ?_
                  refine r_callSi C miX1_beatOf mlX1_78 (ct9_X1_beatOf l E (u67) x11 a2 (by omega) (by omega)) (by decide) rfl rfl rfl (Nat.le_of_ble_eq_true rfl) (oDec_at oX1_hear 122 rfl) (fun r70 u69 pu69 fu69 => ?_)
                  try dsimp only at pu69
                  obtain ⟨pu69_0, pu69_1⟩ := pu69
                  have hxu69 := oFr_nil fu69; subst hxu69
                  have rr70 := n_rng r70
                  refine r_aload_n C (j := 0) (oDec_at oX1_hear 123 rfl) rfl rfl ?_
                  refine r_getF (k := 4) (b := 40) C oCl1 rfl (by decide) flX1_27 rfl rfl rfl (oDec_at oX1_hear 124 rfl) ?_
                  refine r_aload_n C (j := 1) (oDec_at oX1_hear 125 rfl) rfl rfl ?_
                  refine r_pc C 246 rfl ?_
                  refine r_iload C (j := 4) (oDec_at oX1_hear 126 rfl) rfl ?_
                  refine r_iload C (j := 6) (oDec_at oX1_hear 127 rfl) rfl ?_
                  have lk71 : ((u67).1 40 1).toInt = (t.1 40 1).toInt := congrArg Int32.toInt (((fu67 40 1 rfl).1).trans (((pI_ne (a := 40) (b := 1) (c := 35) _ _ (Or.inl (by decide)))).trans ((pI_ne (a := 40) (b := 1) (c := 35) _ _ (Or.inl (by decide))))))
                  refine r_callSi C miX1_rise mlX1_81 (ct9_X1_rise l E (u67) 40 rfl c1 hk1 x7 x9 (owLN_fr fu67 rfl (owLN_fr (oFr_oneI (q := 1) (m := 8) rfl (by rfl)) rfl (owLN_fr (oFr_oneI (q := 1) (m := 7) rfl (by rfl)) rfl iv0))) hv40 (by rw [(show owVL 40 c1 (owTn (t) 40 c1) (u67) from (owVL_fr fu67 rfl (owVL_fr (oFr_oneI (q := 1) (m := 8) rfl (by rfl)) rfl (owVL_fr (oFr_oneI (q := 1) (m := 7) rfl (by rfl)) rfl hq10)))).2.2 _]; exact hne9.1)) (by decide) rfl rfl rfl (Nat.le_of_ble_eq_true rfl) (oDec_at oX1_hear 128 rfl) (fun r73 u72 pu72 fu72 => ?_)
                  try dsimp only at pu72
                  try simp only [lk71] at pu72
                  obtain ⟨pu72_0, pu72_1⟩ := pu72
                  have hxu72 := oFr_nil fu72; subst hxu72
                  have rr73 := n_rng r73
                  have hr19 : r73.toInt = owRq 84 nn st (owNb 84 nn (x11.toInt - 1)) (owNb 84 nn x11.toInt) := (pu72_0).trans (by rw [owRi_m (show owMA c1 nn (u67) from (owMA_fr fu67 rfl (owMA_fr (oFr_oneI (q := 1) (m := 8) rfl (by rfl)) rfl (owMA_fr (oFr_oneI (q := 1) (m := 7) rfl (by rfl)) rfl iv4)))) (show owMS c1 nn st (u67) from (owMS_fr fu67 rfl (owMS_fr (oFr_oneI (q := 1) (m := 8) rfl (by rfl)) rfl (owMS_fr (oFr_oneI (q := 1) (m := 7) rfl (by rfl)) rfl iv5)))) (show owVc 40 84 (u67) from (owVc_fr fu67 rfl (owVc_fr (oFr_oneI (q := 1) (m := 8) rfl (by rfl)) rfl (owVc_fr (oFr_oneI (q := 1) (m := 7) rfl (by rfl)) rfl iv6)))).2 hp4, iv9, iv11])
                  refine r_aload_n C (j := 0) (oDec_at oX1_hear 129 rfl) rfl rfl ?_
                  refine r_getF (k := 5) (b := 41) C oCl1 rfl (by decide) flX1_31 rfl rfl rfl (oDec_at oX1_hear 130 rfl) ?_
                  refine r_aload_n C (j := 1) (oDec_at oX1_hear 131 rfl) rfl rfl ?_
                  refine r_pc C 258 rfl ?_
                  refine r_iload C (j := 5) (oDec_at oX1_hear 132 rfl) rfl ?_
                  refine r_iload C (j := 7) (oDec_at oX1_hear 133 rfl) rfl ?_
                  have lk74 : ((u67).1 41 1).toInt = (t.1 41 1).toInt := congrArg Int32.toInt (((fu67 41 1 rfl).1).trans (((pI_ne (a := 41) (b := 1) (c := 35) _ _ (Or.inl (by decide)))).trans ((pI_ne (a := 41) (b := 1) (c := 35) _ _ (Or.inl (by decide))))))
                  refine r_callSi C miX1_rise mlX1_81 (ct9_X1_rise l E (u67) 41 rfl c1 hk1 x8 x10 (owLN_fr fu67 rfl (owLN_fr (oFr_oneI (q := 1) (m := 8) rfl (by rfl)) rfl (owLN_fr (oFr_oneI (q := 1) (m := 7) rfl (by rfl)) rfl iv0))) hv41 (by rw [(show owVL 41 c1 (owTn (t) 41 c1) (u67) from (owVL_fr fu67 rfl (owVL_fr (oFr_oneI (q := 1) (m := 8) rfl (by rfl)) rfl (owVL_fr (oFr_oneI (q := 1) (m := 7) rfl (by rfl)) rfl hq11)))).2.2 _]; exact hne9.2)) (by decide) rfl rfl rfl (Nat.le_of_ble_eq_true rfl) (oDec_at oX1_hear 134 rfl) (fun r76 u75 pu75 fu75 => ?_)
                  try dsimp only at pu75
                  try simp only [lk74] at pu75
                  obtain ⟨pu75_0, pu75_1⟩ := pu75
                  have hxu75 := oFr_nil fu75; subst hxu75
                  have rr76 := n_rng r76
                  have hr29 : r76.toInt = owRq a4.toInt nn st (owNb a4.toInt nn (x11.toInt - 1)) (owNb a4.toInt nn x11.toInt) := (pu75_0).trans (by rw [owRi_m (show owMA c1 nn (u67) from (owMA_fr fu67 rfl (owMA_fr (oFr_oneI (q := 1) (m := 8) rfl (by rfl)) rfl (owMA_fr (oFr_oneI (q := 1) (m := 7) rfl (by rfl)) rfl iv4)))) (show owMS c1 nn st (u67) from (owMS_fr fu67 rfl (owMS_fr (oFr_oneI (q := 1) (m := 8) rfl (by rfl)) rfl (owMS_fr (oFr_oneI (q := 1) (m := 7) rfl (by rfl)) rfl iv5)))) (show owVc 41 a4.toInt (u67) from (owVc_fr fu67 rfl (owVc_fr (oFr_oneI (q := 1) (m := 8) rfl (by rfl)) rfl (owVc_fr (oFr_oneI (q := 1) (m := 7) rfl (by rfl)) rfl iv7)))).2 hp4, iv10, iv12])
                  refine r_iload C (j := 12) (oDec_at oX1_hear 135 rfl) rfl ?_
                  have lk77 : ((u67).1 35 6).toInt = (t.1 35 6).toInt := congrArg Int32.toInt (((fu67 35 6 rfl).1).trans (((pI_ne (a := 35) (b := 6) (c := 35) (k := 8) _ _ (Or.inr (by decide)))).trans ((pI_ne (a := 35) (b := 6) (c := 35) (k := 7) _ _ (Or.inr (by decide))))))
                  refine r_callVv C oCl1 rfl miX1_moved mlX1_85 (ct9_X1_moved l E (u67) r70 r73 r76 k0 pu67_0 (by omega) (by omega) (by omega) (by omega)) (by decide) rfl rfl rfl (Nat.le_of_ble_eq_true rfl) (oDec_at oX1_hear 136 rfl) (fun u78 pu78 fu78 => ?_)
                  try dsimp only at pu78
                  try simp only [lk77] at pu78
                  obtain ⟨pu78_0, pu78_1⟩ := pu78
                  have hhi9 : owHi a2.toInt a4.toInt nn st (x11.toInt + 1) (u78) := owHi_mk (owHi_fr (oFr_oneI (q := 1) (m := 8) rfl (by rfl)) rfl (owHi_fr (oFr_oneI (q := 1) (m := 7) rfl (by rfl)) rfl iv8)) hxk9 (by omega) rfl (pu67_1 (by omega)) (fu67 35 6 rfl).1 (oFr_row fu67 (c := 39) rfl rfl) (pu78_1 (by omega)) (oFr_row fu78 (c := 37) rfl rfl) (oFr_row fu78 (c := 38) rfl rfl) hxa9 hxb9 (by unfold owXm; rw [pu69_0, hr19, hr29, hxl9])
                  refine r_iload C (j := 6) (oDec_at oX1_hear 137 rfl) rfl ?_
                  refine r_pc C 272 rfl ?_
                  refine r_istore C (lv' := [(0, .ref (oad E 35)), (1, .ref (oad E c1)), (2, .int a2), (6, .int x6), (7, .int x9), (8, .int x8), (9, .int x9), (10, .int x10), (11, .int x11), (12, .int r4), (13, .int r7), (14, .int r9), (15, .int k0)]) [1, 2, 3, 4, 0, 5, 6, 7, 8, 9, 10, 11, 12] (oDec_at oX1_hear 138 rfl) (by decide) rfl ?_
                  refine r_iload C (j := 7) (oDec_at oX1_hear 139 rfl) rfl ?_
                  refine r_istore C (lv' := [(0, .ref (oad E 35)), (1, .ref (oad E c1)), (2, .int a2), (6, .int x6), (7, .int x9), (8, .int x10), (9, .int x9), (10, .int x10), (11, .int x11), (12, .int r4), (13, .int r7), (14, .int r9), (15, .int k0)]) [1, 2, 3, 4, 5, 0, 6, 7, 8, 9, 10, 11, 12] (oDec_at oX1_hear 140 rfl) (by decide) rfl ?_
                  refine r_iload C (j := 9) (oDec_at oX1_hear 141 rfl) rfl ?_
                  refine r_istore C (lv' := [(0, .ref (oad E 35)), (1, .ref (oad E c1)), (2, .int a2), (6, .int x6), (7, .int x9), (8, .int x10), (9, .int r4), (10, .int x10), (11, .int x11), (12, .int r4), (13, .int r7), (14, .int r9), (15, .int k0)]) [1, 2, 3, 4, 5, 6, 0, 7, 8, 9, 10, 11, 12] (oDec_at oX1_hear 142 rfl) (by decide) rfl ?_
                  refine r_iload C (j := 10) (oDec_at oX1_hear 143 rfl) rfl ?_
                  refine r_pc C 284 rfl ?_
                  refine r_istore C (lv' := [(0, .ref (oad E 35)), (1, .ref (oad E c1)), (2, .int a2), (6, .int x6), (7, .int x9), (8, .int x10), (9, .int r4), (10, .int r7), (11, .int x11), (12, .int r4), (13, .int r7), (14, .int r9), (15, .int k0)]) [1, 2, 3, 4, 5, 6, 7, 0, 8, 9, 10, 11, 12] (oDec_at oX1_hear 144 rfl) (by decide) rfl ?_
                  obtain ⟨v80, ev80⟩ : ∃ z : Int32, x11 + Int32.ofInt 1 = z := ⟨_, rfl⟩
                  have hv80 : v80.toInt = x11.toInt + 1 := n_inc ev80 (by decide) (by omega) (by omega)
                  refine r_iinc C (j := 8) (lv' := [(0, .ref (oad E 35)), (1, .ref (oad E c1)), (2, .int a2), (6, .int x6), (7, .int x9), (8, .int x10), (9, .int r4), (10, .int r7), (11, .int v80), (12, .int r4), (13, .int r7), (14, .int r9), (15, .int k0)]) v80 [1, 2, 3, 4, 5, 6, 7, 8, 0, 9, 10, 11, 12] (oDec_at oX1_hear 145 rfl) rfl ev80 (by decide) rfl ?_
                  refine r_goto C (tgt := 103) (oDec_at oX1_hear 146 rfl) (by decide) ?_
                  refine r_pick C [0, 1, 2, 3, 4, 5, 6, 7, 8] rfl ?_
                  exact (ih (n - 1) (by omega)) (u78) x6 x9 x10 r4 r7 v80  (owLN_fr fu78 rfl (owLN_fr fu67 rfl (owLN_fr (oFr_oneI (q := 1) (m := 8) rfl (by rfl)) rfl (owLN_fr (oFr_oneI (q := 1) (m := 7) rfl (by rfl)) rfl iv0)))) pu78_0 (owVR_fr fu78 rfl (owVR_fr fu67 rfl (owVR_fr (oFr_oneI (q := 1) (m := 8) rfl (by rfl)) rfl (owVR_fr (oFr_oneI (q := 1) (m := 7) rfl (by rfl)) rfl iv2)))) (by omega) (owMA_fr fu78 rfl (owMA_fr fu67 rfl (owMA_fr (oFr_oneI (q := 1) (m := 8) rfl (by rfl)) rfl (owMA_fr (oFr_oneI (q := 1) (m := 7) rfl (by rfl)) rfl iv4)))) (owMS_fr fu78 rfl (owMS_fr fu67 rfl (owMS_fr (oFr_oneI (q := 1) (m := 8) rfl (by rfl)) rfl (owMS_fr (oFr_oneI (q := 1) (m := 7) rfl (by rfl)) rfl iv5)))) (owVc_fr fu78 rfl (owVc_fr fu67 rfl (owVc_fr (oFr_oneI (q := 1) (m := 8) rfl (by rfl)) rfl (owVc_fr (oFr_oneI (q := 1) (m := 7) rfl (by rfl)) rfl iv6)))) (owVc_fr fu78 rfl (owVc_fr fu67 rfl (owVc_fr (oFr_oneI (q := 1) (m := 8) rfl (by rfl)) rfl (owVc_fr (oFr_oneI (q := 1) (m := 7) rfl (by rfl)) rfl iv7)))) (by first | exact owHi_c hhi9 (by omega) | exact owHi_sk (by assumption) (owXk_n1 hxa9 (by omega)) (by omega) | exact owHi_sk (by assumption) (owXk_n2 (by omega) (by omega)) (by omega) | exact owHi_0 (by omega) (by omega)) (by first | (rw [show v80.toInt - 1 = x11.toInt by omega] <;> omega) | (rw [show v80.toInt - 1 = (by assumption).toInt by omega] <;> omega)) (by first | (rw [show v80.toInt - 1 = x11.toInt by omega] <;> omega) | (rw [show v80.toInt - 1 = (by assumption).toInt by omega] <;> omega)) (by first | (rw [show v80.toInt = v2.toInt by omega] <;> omega) | omega) (by first | (rw [show v80.toInt = v5.toInt by omega] <;> omega) | omega) (by omega) (by omega) (by omega) (by omega) (by omega)
                · skip
                  refine r_iconst C (oDec_at oX1_hear 106 rfl) (v := k1) (by rw [qk1]; rfl) ?_
                  refine r_goto C (tgt := 215) (oDec_at oX1_hear 107 rfl) (by decide) ?_
                  have hxl9 : k1.toInt = owXl a4.toInt nn st x11.toInt := by unfold owXl; first | (rw [if_pos (by omega)] <;> omega) | (rw [if_neg (by omega)] <;> omega)
                  refine r_istore C (lv' := [(0, .ref (oad E 35)), (1, .ref (oad E c1)), (2, .int a2), (6, .int x6), (7, .int x7), (8, .int x8), (9, .int x9), (10, .int x10), (11, .int x11), (12, .int r4), (13, .int r7), (14, .int r9), (15, .int k1)]) [1, 2, 3, 4, 5, 6, 7, 8, 9, 10, 11, 12, 0] (oDec_at oX1_hear 109 rfl) (by decide) rfl ?_
                  refine r_aload_n C (j := 0) (oDec_at oX1_hear 110 rfl) rfl rfl ?_
                  refine r_iload C (j := 8) (oDec_at oX1_hear 111 rfl) rfl ?_
                  refine r_iload C (j := 11) (oDec_at oX1_hear 112 rfl) rfl ?_
                  refine r_aload_n C (j := 0) (oDec_at oX1_hear 113 rfl) rfl rfl ?_
                  refine r_pc C 223 rfl ?_
                  refine r_aload_n C (j := 1) (oDec_at oX1_hear 114 rfl) rfl rfl ?_
                  refine r_iload C (j := 4) (oDec_at oX1_hear 115 rfl) rfl ?_
                  refine r_iload C (j := 5) (oDec_at oX1_hear 116 rfl) rfl ?_
                  refine r_callVi C oCl1 rfl miX1_apartAt mlX1_59 (ct9_X1_apartAt l E ((pI (pI t 35 7 v15) 35 8 r20)) c1 hk1 x7 x8 (owLN_fr (oFr_oneI (q := 1) (m := 8) rfl (by rfl)) rfl (owLN_fr (oFr_oneI (q := 1) (m := 7) rfl (by rfl)) rfl iv0)) (owVR_fr (oFr_oneI (q := 1) (m := 8) rfl (by rfl)) rfl (owVR_fr (oFr_oneI (q := 1) (m := 7) rfl (by rfl)) rfl iv2))) (by decide) rfl rfl rfl (Nat.le_of_ble_eq_true rfl) (oDec_at oX1_hear 117 rfl) (fun r82 u81 pu81 fu81 => ?_)
                  try dsimp only at pu81
                  have hxu81 := oFr_nil fu81; subst hxu81
                  have rr82 := n_rng r82
                  have hlp9 := pu81
                  have hlb9 := owAp_b (a := x7.toInt) (b := x8.toInt) (show owLN ((pI (pI t 35 7 v15) 35 8 r20)) from (owLN_fr (oFr_oneI (q := 1) (m := 8) rfl (by rfl)) rfl (owLN_fr (oFr_oneI (q := 1) (m := 7) rfl (by rfl)) rfl iv0))) hk1 (show owVR ((pI (pI t 35 7 v15) 35 8 r20)) from (owVR_fr (oFr_oneI (q := 1) (m := 8) rfl (by rfl)) rfl (owVR_fr (oFr_oneI (q := 1) (m := 7) rfl (by rfl)) rfl iv2)))
                  have hxb9 : r82.toInt = owXa a4.toInt nn st (x11.toInt - 1) := (pu81).trans (by rw [owAp_m (show owMA c1 nn ((pI (pI t 35 7 v15) 35 8 r20)) from (owMA_fr (oFr_oneI (q := 1) (m := 8) rfl (by rfl)) rfl (owMA_fr (oFr_oneI (q := 1) (m := 7) rfl (by rfl)) rfl iv4))) (show owMS c1 nn st ((pI (pI t 35 7 v15) 35 8 r20)) from (owMS_fr (oFr_oneI (q := 1) (m := 8) rfl (by rfl)) rfl (owMS_fr (oFr_oneI (q := 1) (m := 7) rfl (by rfl)) rfl iv5))) (show owVc 40 84 ((pI (pI t 35 7 v15) 35 8 r20)) from (owVc_fr (oFr_oneI (q := 1) (m := 8) rfl (by rfl)) rfl (owVc_fr (oFr_oneI (q := 1) (m := 7) rfl (by rfl)) rfl iv6))).2 (show owVc 41 a4.toInt ((pI (pI t 35 7 v15) 35 8 r20)) from (owVc_fr (oFr_oneI (q := 1) (m := 8) rfl (by rfl)) rfl (owVc_fr (oFr_oneI (q := 1) (m := 7) rfl (by rfl)) rfl iv7))).2 hp4, iv9, iv10]; rfl)
                  have hcn9 := (show owHi a2.toInt a4.toInt nn st x11.toInt ((pI (pI t 35 7 v15) 35 8 r20)) from (owHi_fr (oFr_oneI (q := 1) (m := 8) rfl (by rfl)) rfl (owHi_fr (oFr_oneI (q := 1) (m := 7) rfl (by rfl)) rfl iv8))).2.2
                  have lk83 : (((pI (pI t 35 7 v15) 35 8 r20)).1 35 6).toInt = (t.1 35 6).toInt := congrArg Int32.toInt (((pI_ne (a := 35) (b := 6) (c := 35) (k := 8) _ _ (Or.inr (by decide)))).trans ((pI_ne (a := 35) (b := 6) (c := 35) (k := 7) _ _ (Or.inr (by decide)))))
                  refine r_callVv C oCl1 rfl miX1_mark mlX1_74 (ct9_X1_mark l E ((pI (pI t 35 7 v15) 35 8 r20)) x11 r9 r82 (owDN_fr (oFr_oneI (q := 1) (m := 8) rfl (by rfl)) rfl (owDN_fr (oFr_oneI (q := 1) (m := 7) rfl (by rfl)) rfl iv1)) (by omega) (by omega)) (by decide) rfl rfl rfl (Nat.le_of_ble_eq_true rfl) (oDec_at oX1_hear 118 rfl) (fun u84 pu84 fu84 => ?_)
                  try dsimp only at pu84
                  try simp only [lk83] at pu84
                  obtain ⟨pu84_0, pu84_1⟩ := pu84
                  have hvr9 : owVR (u84) := (owVR_fr fu84 rfl (owVR_fr (oFr_oneI (q := 1) (m := 8) rfl (by rfl)) rfl (owVR_fr (oFr_oneI (q := 1) (m := 7) rfl (by rfl)) rfl iv2)))
                  have hv40 := hvr9.1.1
                  have hv41 := hvr9.2.1
                  have hcn8 := congrArg Int32.toInt (fu84 35 6 rfl).1
                  refine r_aload_n C (j := 0) (oDec_at oX1_hear 119 rfl) rfl rfl ?_
                  refine r_pc C 235 rfl ?_
                  refine r_iload C (j := 8) (oDec_at oX1_hear 120 rfl) rfl ?_
                  refine r_iload_n C (j := 2) (oDec_at oX1_hear 121 rfl) rfl rfl ?_
                  refine r_callSi C miX1_beatOf mlX1_78 (ct9_X1_beatOf l E (u84) x11 a2 (by omega) (by omega)) (by decide) rfl rfl rfl (Nat.le_of_ble_eq_true rfl) (oDec_at oX1_hear 122 rfl) (fun r87 u86 pu86 fu86 => ?_)
                  try dsimp only at pu86
                  obtain ⟨pu86_0, pu86_1⟩ := pu86
                  have hxu86 := oFr_nil fu86; subst hxu86
                  have rr87 := n_rng r87
                  refine r_aload_n C (j := 0) (oDec_at oX1_hear 123 rfl) rfl rfl ?_
                  refine r_getF (k := 4) (b := 40) C oCl1 rfl (by decide) flX1_27 rfl rfl rfl (oDec_at oX1_hear 124 rfl) ?_
                  refine r_aload_n C (j := 1) (oDec_at oX1_hear 125 rfl) rfl rfl ?_
                  refine r_pc C 246 rfl ?_
                  refine r_iload C (j := 4) (oDec_at oX1_hear 126 rfl) rfl ?_
                  refine r_iload C (j := 6) (oDec_at oX1_hear 127 rfl) rfl ?_
                  have lk88 : ((u84).1 40 1).toInt = (t.1 40 1).toInt := congrArg Int32.toInt (((fu84 40 1 rfl).1).trans (((pI_ne (a := 40) (b := 1) (c := 35) _ _ (Or.inl (by decide)))).trans ((pI_ne (a := 40) (b := 1) (c := 35) _ _ (Or.inl (by decide))))))
                  refine r_callSi C miX1_rise mlX1_81 (ct9_X1_rise l E (u84) 40 rfl c1 hk1 x7 x9 (owLN_fr fu84 rfl (owLN_fr (oFr_oneI (q := 1) (m := 8) rfl (by rfl)) rfl (owLN_fr (oFr_oneI (q := 1) (m := 7) rfl (by rfl)) rfl iv0))) hv40 (by rw [(show owVL 40 c1 (owTn (t) 40 c1) (u84) from (owVL_fr fu84 rfl (owVL_fr (oFr_oneI (q := 1) (m := 8) rfl (by rfl)) rfl (owVL_fr (oFr_oneI (q := 1) (m := 7) rfl (by rfl)) rfl hq10)))).2.2 _]; exact hne9.1)) (by decide) rfl rfl rfl (Nat.le_of_ble_eq_true rfl) (oDec_at oX1_hear 128 rfl) (fun r90 u89 pu89 fu89 => ?_)
                  try dsimp only at pu89
                  try simp only [lk88] at pu89
                  obtain ⟨pu89_0, pu89_1⟩ := pu89
                  have hxu89 := oFr_nil fu89; subst hxu89
                  have rr90 := n_rng r90
                  have hr19 : r90.toInt = owRq 84 nn st (owNb 84 nn (x11.toInt - 1)) (owNb 84 nn x11.toInt) := (pu89_0).trans (by rw [owRi_m (show owMA c1 nn (u84) from (owMA_fr fu84 rfl (owMA_fr (oFr_oneI (q := 1) (m := 8) rfl (by rfl)) rfl (owMA_fr (oFr_oneI (q := 1) (m := 7) rfl (by rfl)) rfl iv4)))) (show owMS c1 nn st (u84) from (owMS_fr fu84 rfl (owMS_fr (oFr_oneI (q := 1) (m := 8) rfl (by rfl)) rfl (owMS_fr (oFr_oneI (q := 1) (m := 7) rfl (by rfl)) rfl iv5)))) (show owVc 40 84 (u84) from (owVc_fr fu84 rfl (owVc_fr (oFr_oneI (q := 1) (m := 8) rfl (by rfl)) rfl (owVc_fr (oFr_oneI (q := 1) (m := 7) rfl (by rfl)) rfl iv6)))).2 hp4, iv9, iv11])
                  refine r_aload_n C (j := 0) (oDec_at oX1_hear 129 rfl) rfl rfl ?_
                  refine r_getF (k := 5) (b := 41) C oCl1 rfl (by decide) flX1_31 rfl rfl rfl (oDec_at oX1_hear 130 rfl) ?_
                  refine r_aload_n C (j := 1) (oDec_at oX1_hear 131 rfl) rfl rfl ?_
                  refine r_pc C 258 rfl ?_
                  refine r_iload C (j := 5) (oDec_at oX1_hear 132 rfl) rfl ?_
                  refine r_iload C (j := 7) (oDec_at oX1_hear 133 rfl) rfl ?_
                  have lk91 : ((u84).1 41 1).toInt = (t.1 41 1).toInt := congrArg Int32.toInt (((fu84 41 1 rfl).1).trans (((pI_ne (a := 41) (b := 1) (c := 35) _ _ (Or.inl (by decide)))).trans ((pI_ne (a := 41) (b := 1) (c := 35) _ _ (Or.inl (by decide))))))
                  refine r_callSi C miX1_rise mlX1_81 (ct9_X1_rise l E (u84) 41 rfl c1 hk1 x8 x10 (owLN_fr fu84 rfl (owLN_fr (oFr_oneI (q := 1) (m := 8) rfl (by rfl)) rfl (owLN_fr (oFr_oneI (q := 1) (m := 7) rfl (by rfl)) rfl iv0))) hv41 (by rw [(show owVL 41 c1 (owTn (t) 41 c1) (u84) from (owVL_fr fu84 rfl (owVL_fr (oFr_oneI (q := 1) (m := 8) rfl (by rfl)) rfl (owVL_fr (oFr_oneI (q := 1) (m := 7) rfl (by rfl)) rfl hq11)))).2.2 _]; exact hne9.2)) (by decide) rfl rfl rfl (Nat.le_of_ble_eq_true rfl) (oDec_at oX1_hear 134 rfl) (fun r93 u92 pu92 fu92 => ?_)
                  try dsimp only at pu92
                  try simp only [lk91] at pu92
                  obtain ⟨pu92_0, pu92_1⟩ := pu92
                  have hxu92 := oFr_nil fu92; subst hxu92
                  have rr93 := n_rng r93
                  have hr29 : r93.toInt = owRq a4.toInt nn st (owNb a4.toInt nn (x11.toInt - 1)) (owNb a4.toInt nn x11.toInt) := (pu92_0).trans (by rw [owRi_m (show owMA c1 nn (u84) from (owMA_fr fu84 rfl (owMA_fr (oFr_oneI (q := 1) (m := 8) rfl (by rfl)) rfl (owMA_fr (oFr_oneI (q := 1) (m := 7) rfl (by rfl)) rfl iv4)))) (show owMS c1 nn st (u84) from (owMS_fr fu84 rfl (owMS_fr (oFr_oneI (q := 1) (m := 8) rfl (by rfl)) rfl (owMS_fr (oFr_oneI (q := 1) (m := 7) rfl (by rfl)) rfl iv5)))) (show owVc 41 a4.toInt (u84) from (owVc_fr fu84 rfl (owVc_fr (oFr_oneI (q := 1) (m := 8) rfl (by rfl)) rfl (owVc_fr (oFr_oneI (q := 1) (m := 7) rfl (by rfl)) rfl iv7)))).2 hp4, iv10, iv12])
                  refine r_iload C (j := 12) (oDec_at oX1_hear 135 rfl) rfl ?_
                  have lk94 : ((u84).1 35 6).toInt = (t.1 35 6).toInt := congrArg Int32.toInt (((fu84 35 6 rfl).1).trans (((pI_ne (a := 35) (b := 6) (c := 35) (k := 8) _ _ (Or.inr (by decide)))).trans ((pI_ne (a := 35) (b := 6) (c := 35) (k := 7) _ _ (Or.inr (by decide))))))
                  refine r_callVv C oCl1 rfl miX1_moved mlX1_85 (ct9_X1_moved l E (u84) r87 r90 r93 k1 pu84_0 (by omega) (by omega) (by omega) (by omega)) (by decide) rfl rfl rfl (Nat.le_of_ble_eq_true rfl) (oDec_at oX1_hear 136 rfl) (fun u95 pu95 fu95 => ?_)
                  try dsimp only at pu95
                  try simp only [lk94] at pu95
                  obtain ⟨pu95_0, pu95_1⟩ := pu95
                  have hhi9 : owHi a2.toInt a4.toInt nn st (x11.toInt + 1) (u95) := owHi_mk (owHi_fr (oFr_oneI (q := 1) (m := 8) rfl (by rfl)) rfl (owHi_fr (oFr_oneI (q := 1) (m := 7) rfl (by rfl)) rfl iv8)) hxk9 (by omega) rfl (pu84_1 (by omega)) (fu84 35 6 rfl).1 (oFr_row fu84 (c := 39) rfl rfl) (pu95_1 (by omega)) (oFr_row fu95 (c := 37) rfl rfl) (oFr_row fu95 (c := 38) rfl rfl) hxa9 hxb9 (by unfold owXm; rw [pu86_0, hr19, hr29, hxl9])
                  refine r_iload C (j := 6) (oDec_at oX1_hear 137 rfl) rfl ?_
                  refine r_pc C 272 rfl ?_
                  refine r_istore C (lv' := [(0, .ref (oad E 35)), (1, .ref (oad E c1)), (2, .int a2), (6, .int x6), (7, .int x9), (8, .int x8), (9, .int x9), (10, .int x10), (11, .int x11), (12, .int r4), (13, .int r7), (14, .int r9), (15, .int k1)]) [1, 2, 3, 4, 0, 5, 6, 7, 8, 9, 10, 11, 12] (oDec_at oX1_hear 138 rfl) (by decide) rfl ?_
                  refine r_iload C (j := 7) (oDec_at oX1_hear 139 rfl) rfl ?_
                  refine r_istore C (lv' := [(0, .ref (oad E 35)), (1, .ref (oad E c1)), (2, .int a2), (6, .int x6), (7, .int x9), (8, .int x10), (9, .int x9), (10, .int x10), (11, .int x11), (12, .int r4), (13, .int r7), (14, .int r9), (15, .int k1)]) [1, 2, 3, 4, 5, 0, 6, 7, 8, 9, 10, 11, 12] (oDec_at oX1_hear 140 rfl) (by decide) rfl ?_
                  refine r_iload C (j := 9) (oDec_at oX1_hear 141 rfl) rfl ?_
                  refine r_istore C (lv' := [(0, .ref (oad E 35)), (1, .ref (oad E c1)), (2, .int a2), (6, .int x6), (7, .int x9), (8, .int x10), (9, .int r4), (10, .int x10), (11, .int x11), (12, .int r4), (13, .int r7), (14, .int r9), (15, .int k1)]) [1, 2, 3, 4, 5, 6, 0, 7, 8, 9, 10, 11, 12] (oDec_at oX1_hear 142 rfl) (by decide) rfl ?_
                  refine r_iload C (j := 10) (oDec_at oX1_hear 143 rfl) rfl ?_
                  refine r_pc C 284 rfl ?_
                  refine r_istore C (lv' := [(0, .ref (oad E 35)), (1, .ref (oad E c1)), (2, .int a2), (6, .int x6), (7, .int x9), (8, .int x10), (9, .int r4), (10, .int r7), (11, .int x11), (12, .int r4), (13, .int r7), (14, .int r9), (15, .int k1)]) [1, 2, 3, 4, 5, 6, 7, 0, 8, 9, 10, 11, 12] (oDec_at oX1_hear 144 rfl) (by decide) rfl ?_
                  obtain ⟨v97, ev97⟩ : ∃ z : Int32, x11 + Int32.ofInt 1 = z := ⟨_, rfl⟩
                  have hv97 : v97.toInt = x11.toInt + 1 := n_inc ev97 (by decide) (by omega) (by omega)
                  refine r_iinc C (j := 8) (lv' := [(0, .ref (oad E 35)), (1, .ref (oad E c1)), (2, .int a2), (6, .int x6), (7, .int x9), (8, .int x10), (9, .int r4), (10, .int r7), (11, .int v97), (12, .int r4), (13, .int r7), (14, .int r9), (15, .int k1)]) v97 [1, 2, 3, 4, 5, 6, 7, 8, 0, 9, 10, 11, 12] (oDec_at oX1_hear 145 rfl) rfl ev97 (by decide) rfl ?_
                  refine r_goto C (tgt := 103) (oDec_at oX1_hear 146 rfl) (by decide) ?_
                  refine r_pick C [0, 1, 2, 3, 4, 5, 6, 7, 8] rfl ?_
                  exact (ih (n - 1) (by omega)) (u95) x6 x9 x10 r4 r7 v97  (owLN_fr fu95 rfl (owLN_fr fu84 rfl (owLN_fr (oFr_oneI (q := 1) (m := 8) rfl (by rfl)) rfl (owLN_fr (oFr_oneI (q := 1) (m := 7) rfl (by rfl)) rfl iv0)))) pu95_0 (owVR_fr fu95 rfl (owVR_fr fu84 rfl (owVR_fr (oFr_oneI (q := 1) (m := 8) rfl (by rfl)) rfl (owVR_fr (oFr_oneI (q := 1) (m := 7) rfl (by rfl)) rfl iv2)))) (by omega) (owMA_fr fu95 rfl (owMA_fr fu84 rfl (owMA_fr (oFr_oneI (q := 1) (m := 8) rfl (by rfl)) rfl (owMA_fr (oFr_oneI (q := 1) (m := 7) rfl (by rfl)) rfl iv4)))) (owMS_fr fu95 rfl (owMS_fr fu84 rfl (owMS_fr (oFr_oneI (q := 1) (m := 8) rfl (by rfl)) rfl (owMS_fr (oFr_oneI (q := 1) (m := 7) rfl (by rfl)) rfl iv5)))) (owVc_fr fu95 rfl (owVc_fr fu84 rfl (owVc_fr (oFr_oneI (q := 1) (m := 8) rfl (by rfl)) rfl (owVc_fr (oFr_oneI (q := 1) (m := 7) rfl (by rfl)) rfl iv6)))) (owVc_fr fu95 rfl (owVc_fr fu84 rfl (owVc_fr (oFr_oneI (q := 1) (m := 8) rfl (by rfl)) rfl (owVc_fr (oFr_oneI (q := 1) (m := 7) rfl (by rfl)) rfl iv7)))) (by first | exact owHi_c hhi9 (by omega) | exact owHi_sk (by assumption) (owXk_n1 hxa9 (by omega)) (by omega) | exact owHi_sk (by assumption) (owXk_n2 (by omega) (by omega)) (by omega) | exact owHi_0 (by omega) (by omega)) (by first | (rw [show v97.toInt - 1 = x11.toInt by omega] <;> omega) | (rw [show v97.toInt - 1 = (by assumption).toInt by omega] <;> omega)) (by first | (rw [show v97.toInt - 1 = x11.toInt by omega] <;> omega) | (rw [show v97.toInt - 1 = (by assumption).toInt by omega] <;> omega)) (by first | (rw [show v97.toInt = v2.toInt by omega] <;> omega) | omega) (by first | (rw [show v97.toInt = v5.toInt by omega] <;> omega) | omega) (by omega) (by omega) (by omega) (by omega) (by omega)
  refine r_aload_n C (j := 0) (oDec_at oX1_hear 0 rfl) rfl rfl ?_
  refine r_iload_n C (j := 3) (oDec_at oX1_hear 1 rfl) rfl rfl ?_
  refine r_iload C (j := 4) (oDec_at oX1_hear 2 rfl) rfl ?_
  refine r_callVv C oCl1 rfl miX1_begin mlX1_34 (ct9_X1_begin l E (s) a3 a4 (by omega) (by omega)) (by decide) rfl rfl rfl (Nat.le_of_ble_eq_true rfl) (oDec_at oX1_hear 3 rfl) (fun u98 pu98 fu98 => ?_)
  try dsimp only at pu98
  obtain ⟨pu98_0, pu98_1, pu98_2⟩ := pu98
  have hvs9 : owVR (u98) := pu98_0
  have hvs1 := hvs9.1.2
  have hvs2 := hvs9.2.2
  obtain ⟨hvA9, hvB9⟩ := pu98_1 (by omega) (by omega)
  have hdA9 := hvA9.1
  have hdB9 := hvB9.1
  have hq100 : owVc 40 84 (u98) := ⟨rfl, hvA9⟩
  have hq101 : owVc 41 a4.toInt (u98) := ⟨rfl, hvB9⟩
  refine r_aload_n C (j := 0) (oDec_at oX1_hear 4 rfl) rfl rfl ?_
  refine r_getF (k := 4) (b := 40) C oCl1 rfl (by decide) flX1_27 rfl rfl rfl (oDec_at oX1_hear 5 rfl) ?_
  refine r_pc C 11 rfl ?_
  obtain ⟨v102, ev102⟩ : ∃ z : Int32, (u98).1 40 0 = z := ⟨_, rfl⟩
  have gv102 : (u98.1 40 0).toInt = v102.toInt := congrArg Int32.toInt (ev102)
  have rv102 := n_rng v102
  refine r_getiN (k := 0) (lo := (-2147483648)) (hi := 2147483647) C v102 oCl9 rfl (by decide) flX1_38 rfl rfl (ev102) rfl rfl (oDec_at oX1_hear 6 rfl) (fun _ _ => ?_)
  refine r_aload_n C (j := 0) (oDec_at oX1_hear 7 rfl) rfl rfl ?_
  refine r_getF (k := 5) (b := 41) C oCl1 rfl (by decide) flX1_31 rfl rfl rfl (oDec_at oX1_hear 8 rfl) ?_
  obtain ⟨v103, ev103⟩ : ∃ z : Int32, (u98).1 41 0 = z := ⟨_, rfl⟩
  have gv103 : (u98.1 41 0).toInt = v103.toInt := congrArg Int32.toInt (ev103)
  have rv103 := n_rng v103
  refine r_getiN (k := 0) (lo := (-2147483648)) (hi := 2147483647) C v103 oCl9 rfl (by decide) flX1_38 rfl rfl (ev103) rfl rfl (oDec_at oX1_hear 9 rfl) (fun _ _ => ?_)
  refine r_callSi C miJ9_max_7cf53 mlX1_42 (ct_J9_max_7cf53 l E (u98) v102 v103 ) (by decide) rfl rfl rfl (Nat.le_of_ble_eq_true rfl) (oDec_at oX1_hear 10 rfl) (fun r105 u104 pu104 fu104 => ?_)
  try dsimp only at pu104
  have hxu104 := oFr_nil fu104; subst hxu104
  have rr105 := n_rng r105
  refine r_istore C (lv' := [(0, .ref (oad E 35)), (1, .ref (oad E c1)), (2, .int a2), (3, .int a3), (4, .int a4), (5, .int r105)]) [1, 2, 3, 4, 5, 0] (oDec_at oX1_hear 11 rfl) (by decide) rfl ?_
  refine r_pc C 26 rfl ?_
  refine r_aload_n C (j := 0) (oDec_at oX1_hear 12 rfl) rfl rfl ?_
  refine r_getF (k := 4) (b := 40) C oCl1 rfl (by decide) flX1_27 rfl rfl rfl (oDec_at oX1_hear 13 rfl) ?_
  refine r_aload_n C (j := 1) (oDec_at oX1_hear 14 rfl) rfl rfl ?_
  -- !! !owVc c0 84 is not known here
  refine r_callVi C oCl9 rfl miX9_stop mlX1_48 (ct10_X9_stop l E (u98) 40 rfl c1 hk1 (nn) (84) (owMA_fr fu98 rfl hp2) hq100 (by omega) (by omega)) (by decide) rfl rfl rfl (Nat.le_of_ble_eq_true rfl) (oDec_at oX1_hear 15 rfl) (fun r107 u106 pu106 fu106 => ?_)
  try dsimp only at pu106
  obtain ⟨pu106_0, pu106_1⟩ := pu106
  have hxu106 := oFr_nil fu106; subst hxu106
  have rr107 := n_rng r107
  refine r_aload_n C (j := 0) (oDec_at oX1_hear 16 rfl) rfl rfl ?_
  refine r_getF (k := 5) (b := 41) C oCl1 rfl (by decide) flX1_31 rfl rfl rfl (oDec_at oX1_hear 17 rfl) ?_
  refine r_pc C 38 rfl ?_
  refine r_aload_n C (j := 1) (oDec_at oX1_hear 18 rfl) rfl rfl ?_
  -- !! !owVc c0 (a4.toInt) is not known here
  refine r_callVi C oCl9 rfl miX9_stop mlX1_48 (ct10_X9_stop l E (u98) 41 rfl c1 hk1 (nn) (a4.toInt) (owMA_fr fu98 rfl hp2) hq101 (by omega) (by omega)) (by decide) rfl rfl rfl (Nat.le_of_ble_eq_true rfl) (oDec_at oX1_hear 19 rfl) (fun r109 u108 pu108 fu108 => ?_)
  try dsimp only at pu108
  obtain ⟨pu108_0, pu108_1⟩ := pu108
  have hxu108 := oFr_nil fu108; subst hxu108
  have rr109 := n_rng r109
  refine r_callSi C miJ9_min_7cf53 mlX1_52 (ct_J9_min_7cf53 l E (u98) r107 r109 ) (by decide) rfl rfl rfl (Nat.le_of_ble_eq_true rfl) (oDec_at oX1_hear 20 rfl) (fun r111 u110 pu110 fu110 => ?_)
  try dsimp only at pu110
  have hxu110 := oFr_nil fu110; subst hxu110
  have rr111 := n_rng r111
  refine r_istore C (lv' := [(0, .ref (oad E 35)), (1, .ref (oad E c1)), (2, .int a2), (3, .int a3), (4, .int a4), (5, .int r105), (6, .int r111)]) [1, 2, 3, 4, 5, 6, 0] (oDec_at oX1_hear 21 rfl) (by decide) rfl ?_
  refine r_aload_n C (j := 0) (oDec_at oX1_hear 22 rfl) rfl rfl ?_
  refine r_getF (k := 4) (b := 40) C oCl1 rfl (by decide) flX1_27 rfl rfl rfl (oDec_at oX1_hear 23 rfl) ?_
  refine r_pc C 51 rfl ?_
  refine r_aload_n C (j := 1) (oDec_at oX1_hear 24 rfl) rfl rfl ?_
  refine r_iload C (j := 5) (oDec_at oX1_hear 25 rfl) rfl ?_
  refine r_iconst C (oDec_at oX1_hear 26 rfl) (v := k1) (by rw [qk1]; rfl) ?_
  obtain ⟨v112, ev112⟩ : ∃ z : Int32, z = r105 - k1 := ⟨_, rfl⟩
  have hv112 : v112.toInt = r105.toInt - k1.toInt := n_sub ev112 (by omega) (by omega)
  refine r_isub C v112 (oDec_at oX1_hear 27 rfl) ev112 ?_
  -- !! !owVc c0 84 is not known here
  refine r_callVi C oCl9 rfl miX9_number mlX1_55 (ct10_X9_number l E (u98) 40 rfl c1 hk1 v112 (nn) (84) (owMA_fr fu98 rfl hp2) hq100 (by omega) (by omega) (by omega)) (by decide) rfl rfl rfl (Nat.le_of_ble_eq_true rfl) (oDec_at oX1_hear 28 rfl) (fun r114 u113 pu113 fu113 => ?_)
  try dsimp only at pu113
  have hxu113 := oFr_nil fu113; subst hxu113
  have rr114 := n_rng r114
  refine r_istore C (lv' := [(0, .ref (oad E 35)), (1, .ref (oad E c1)), (2, .int a2), (3, .int a3), (4, .int a4), (5, .int r105), (6, .int r111), (7, .int r114)]) [1, 2, 3, 4, 5, 6, 7, 0] (oDec_at oX1_hear 29 rfl) (by decide) rfl ?_
  refine r_pc C 61 rfl ?_
  refine r_aload_n C (j := 0) (oDec_at oX1_hear 30 rfl) rfl rfl ?_
  refine r_getF (k := 5) (b := 41) C oCl1 rfl (by decide) flX1_31 rfl rfl rfl (oDec_at oX1_hear 31 rfl) ?_
  refine r_aload_n C (j := 1) (oDec_at oX1_hear 32 rfl) rfl rfl ?_
  refine r_iload C (j := 5) (oDec_at oX1_hear 33 rfl) rfl ?_
  refine r_iconst C (oDec_at oX1_hear 34 rfl) (v := k1) (by rw [qk1]; rfl) ?_
  obtain ⟨v115, ev115⟩ : ∃ z : Int32, z = r105 - k1 := ⟨_, rfl⟩
  have hv115 : v115.toInt = r105.toInt - k1.toInt := n_sub ev115 (by omega) (by omega)
  refine r_isub C v115 (oDec_at oX1_hear 35 rfl) ev115 ?_
  refine r_pc C 70 rfl ?_
  -- !! !owVc c0 (a4.toInt) is not known here
  refine r_callVi C oCl9 rfl miX9_number mlX1_55 (ct10_X9_number l E (u98) 41 rfl c1 hk1 v115 (nn) (a4.toInt) (owMA_fr fu98 rfl hp2) hq101 (by omega) (by omega) (by omega)) (by decide) rfl rfl rfl (Nat.le_of_ble_eq_true rfl) (oDec_at oX1_hear 36 rfl) (fun r117 u116 pu116 fu116 => ?_)
  try dsimp only at pu116
  have hxu116 := oFr_nil fu116; subst hxu116
  have rr117 := n_rng r117
  refine r_istore C (lv' := [(0, .ref (oad E 35)), (1, .ref (oad E c1)), (2, .int a2), (3, .int a3), (4, .int a4), (5, .int r105), (6, .int r111), (7, .int r114), (8, .int r117)]) [1, 2, 3, 4, 5, 6, 7, 8, 0] (oDec_at oX1_hear 37 rfl) (by decide) rfl ?_
  refine r_aload_n C (j := 0) (oDec_at oX1_hear 38 rfl) rfl rfl ?_
  refine r_getF (k := 4) (b := 40) C oCl1 rfl (by decide) flX1_27 rfl rfl rfl (oDec_at oX1_hear 39 rfl) ?_
  refine r_aload_n C (j := 1) (oDec_at oX1_hear 40 rfl) rfl rfl ?_
  refine r_iload C (j := 5) (oDec_at oX1_hear 41 rfl) rfl ?_
  refine r_pc C 82 rfl ?_
  -- !! !owVc c0 84 is not known here
  refine r_callVi C oCl9 rfl miX9_number mlX1_55 (ct10_X9_number l E (u98) 40 rfl c1 hk1 r105 (nn) (84) (owMA_fr fu98 rfl hp2) hq100 (by omega) (by omega) (by omega)) (by decide) rfl rfl rfl (Nat.le_of_ble_eq_true rfl) (oDec_at oX1_hear 42 rfl) (fun r119 u118 pu118 fu118 => ?_)
  try dsimp only at pu118
  have hxu118 := oFr_nil fu118; subst hxu118
  have rr119 := n_rng r119
  refine r_istore C (lv' := [(0, .ref (oad E 35)), (1, .ref (oad E c1)), (2, .int a2), (3, .int a3), (4, .int a4), (5, .int r105), (6, .int r111), (7, .int r114), (8, .int r117), (9, .int r119)]) [1, 2, 3, 4, 5, 6, 7, 8, 9, 0] (oDec_at oX1_hear 43 rfl) (by decide) rfl ?_
  refine r_aload_n C (j := 0) (oDec_at oX1_hear 44 rfl) rfl rfl ?_
  refine r_getF (k := 5) (b := 41) C oCl1 rfl (by decide) flX1_31 rfl rfl rfl (oDec_at oX1_hear 45 rfl) ?_
  refine r_aload_n C (j := 1) (oDec_at oX1_hear 46 rfl) rfl rfl ?_
  refine r_iload C (j := 5) (oDec_at oX1_hear 47 rfl) rfl ?_
  refine r_pc C 94 rfl ?_
  -- !! !owVc c0 (a4.toInt) is not known here
  refine r_callVi C oCl9 rfl miX9_number mlX1_55 (ct10_X9_number l E (u98) 41 rfl c1 hk1 r105 (nn) (a4.toInt) (owMA_fr fu98 rfl hp2) hq101 (by omega) (by omega) (by omega)) (by decide) rfl rfl rfl (Nat.le_of_ble_eq_true rfl) (oDec_at oX1_hear 48 rfl) (fun r121 u120 pu120 fu120 => ?_)
  try dsimp only at pu120
  have hxu120 := oFr_nil fu120; subst hxu120
  have rr121 := n_rng r121
  refine r_istore C (lv' := [(0, .ref (oad E 35)), (1, .ref (oad E c1)), (2, .int a2), (3, .int a3), (4, .int a4), (5, .int r105), (6, .int r111), (7, .int r114), (8, .int r117), (9, .int r119), (10, .int r121)]) [1, 2, 3, 4, 5, 6, 7, 8, 9, 10, 0] (oDec_at oX1_hear 49 rfl) (by decide) rfl ?_
  refine r_iload C (j := 5) (oDec_at oX1_hear 50 rfl) rfl ?_
  refine r_istore C (lv' := [(0, .ref (oad E 35)), (1, .ref (oad E c1)), (2, .int a2), (3, .int a3), (4, .int a4), (5, .int r105), (6, .int r111), (7, .int r114), (8, .int r117), (9, .int r119), (10, .int r121), (11, .int r105)]) [1, 2, 3, 4, 5, 6, 7, 8, 9, 10, 11, 0] (oDec_at oX1_hear 51 rfl) (by decide) rfl ?_
  refine r_pick C [0, 1, 2, 6, 7, 8, 9, 10, 11] rfl ?_
  exact (key (r111.toInt - r105.toInt + 4294967296).toNat) (u98) r111 r114 r117 r119 r121 r105  (owLN_fr fu98 rfl hp0) (owDN_fr fu98 rfl hp1) pu98_0 (by omega) (owMA_fr fu98 rfl hp2) (owMS_fr fu98 rfl hp3) hq100 hq101 (by first | exact owHi_c hhi9 (by omega) | exact owHi_sk (by assumption) (owXk_n1 hxa9 (by omega)) (by omega) | exact owHi_sk (by assumption) (owXk_n2 (by omega) (by omega)) (by omega) | exact owHi_0 (by omega) (by omega)) (by first | (rw [show r105.toInt - 1 = v112.toInt by omega] <;> omega)) (by first | (rw [show r105.toInt - 1 = v115.toInt by omega] <;> omega)) (by first | (rw [show r105.toInt = (by assumption).toInt by omega] <;> omega) | omega) (by first | (rw [show r105.toInt = (by assumption).toInt by omega] <;> omega) | omega) (by omega) (by omega) (by omega) (by omega) (by omega)
