set_option maxHeartbeats 4000000 in
set_option maxRecDepth 100000 in
theorem ct9_X10_tryOne (l : Launch) (E : oE) (s : oS) (a3 : Int32) (a4 : Int32) (b : Nat) (R : Int) (W : Nat → List Int) (hp0 : owBC b R W s) (hp1 : owKV R W s) (hp2 : owLN s) (hp3 : owDN s) (hp4 : -7 ≤ a4.toInt ∧ a4.toInt ≤ 7) : oMet l 5 yX10_tryOne cX10_tryOne 10 none [(24, 9999), (25, 9999), (26, 9999), (27, 9999), (34, 9999), (35, 9999), (36, 9999)] E s [.ref (oad E 43), .ref (oad E 31), .ref (oad E 35), .int a3, .int a4] (oPv (fun u => (owKV R W u))) := by
  refine oMet.of (lv := [(0, .ref (oad E 43)), (1, .ref (oad E 31)), (2, .ref (oad E 35)), (3, .int a3), (4, .int a4)]) (by decide +kernel) (Nat.le_of_ble_eq_true rfl) rfl (fun J C hT => ?_)
  have C : oC l 5 cX10_tryOne RX10 10 none [(24, 9999), (25, 9999), (26, 9999), (27, 9999), (34, 9999), (35, 9999), (36, 9999)] E s (oPv (fun u => (owKV R W u))) J := C
  obtain ⟨k0, qk0⟩ : ∃ z : Int32, z = 0 := ⟨_, rfl⟩
  have ek0 : k0.toInt = 0 := by rw [qk0]; rfl
  obtain ⟨k1, qk1⟩ : ∃ z : Int32, z = 1 := ⟨_, rfl⟩
  have ek1 : k1.toInt = 1 := by rw [qk1]; rfl
  obtain ⟨k2, qk2⟩ : ∃ z : Int32, z = 2 := ⟨_, rfl⟩
  have ek2 : k2.toInt = 2 := by rw [qk2]; rfl
  obtain ⟨k12, qk12⟩ : ∃ z : Int32, z = 12 := ⟨_, rfl⟩
  have ek12 : k12.toInt = 12 := by rw [qk12]; rfl
  obtain ⟨k84, qk84⟩ : ∃ z : Int32, z = 84 := ⟨_, rfl⟩
  have ek84 : k84.toInt = 84 := by rw [qk84]; rfl
  obtain ⟨k180, qk180⟩ : ∃ z : Int32, z = 180 := ⟨_, rfl⟩
  have ek180 : k180.toInt = 180 := by rw [qk180]; rfl
  have rg3 := n_rng a3
  have rg4 := n_rng a4
  have key : ∀ n : Nat, (∀ (t : oS) (x5 : Int32) (x6 : Int32) (x7 : Int32) (x8 : Int32), (0 ≤ x8.toInt ∧ x8.toInt ≤ 48) → (owBC b R W t) → (owKV R W t) → (owLN t) → (owDN t) → 149 - x8.toInt ≤ (n : Int) → J t 26 [(0, .ref (oad E 43)), (1, .ref (oad E 31)), (2, .ref (oad E 35)), (4, .int a4), (5, .int x5), (6, .int x6), (7, .int x7), (8, .int x8)] []) ∧ (∀ (t : oS) (x6 : Int32) (x7 : Int32) (x8 : Int32), (0 ≤ x8.toInt ∧ x8.toInt ≤ 12) → (owBC b R W t) → (owKV R W t) → (owLN t) → (owDN t) → 13 - x8.toInt ≤ (n : Int) → J t 108 [(0, .ref (oad E 43)), (6, .int x6), (7, .int x7), (8, .int x8)] []) := by
    intro n
    induction n using Nat.strongRecOn with
    | _ n ih =>
      refine ⟨?_, ?_⟩
      · intro t x5 x6 x7 x8  iv0 iv1 iv2 iv3 iv4 hmu
        have rx5 := n_rng x5
        have rx6 := n_rng x6
        have rx7 := n_rng x7
        have rx8 := n_rng x8
        refine r_iload C (j := 7) (oDec_at oX10_tryOne 16 rfl) rfl ?_
        refine r_aload_n C (j := 2) (oDec_at oX10_tryOne 17 rfl) rfl rfl ?_
        obtain ⟨v1, ev1⟩ : ∃ z : Int32, (t).1 35 6 = z := ⟨_, rfl⟩
        have gv1 : (t.1 35 6).toInt = v1.toInt := congrArg Int32.toInt (ev1)
        refine r_getiN (k := 6) (lo := 0) (hi := 48) C v1 oCl1 rfl (by decide) flX10_90 rfl rfl (ev1) rfl rfl (oDec_at oX10_tryOne 18 rfl) (fun b2 b2h => ?_)
        refine r_icmp_ge C 85 (oDec_at oX10_tryOne 19 rfl) (by decide) (fun cd3 => ?_) (fun cd3 => ?_)
        · skip
          refine r_iload C (j := 6) (oDec_at oX10_tryOne 43 rfl) rfl ?_
          refine r_if_ne C 105 (oDec_at oX10_tryOne 44 rfl) (by decide) (fun cd4 => ?_) (fun cd4 => ?_)
          · skip
            refine r_iconst C (oDec_at oX10_tryOne 53 rfl) (v := k0) (by rw [qk0]; rfl) ?_
            refine r_istore C (lv' := [(0, .ref (oad E 43)), (1, .ref (oad E 31)), (2, .ref (oad E 35)), (4, .int a4), (5, .int x5), (6, .int x6), (7, .int x7), (8, .int k0)]) [1, 2, 3, 4, 5, 6, 7, 0] (oDec_at oX10_tryOne 54 rfl) (by decide) rfl ?_
            refine r_pick C [0, 5, 6, 7] rfl ?_
            exact (ih (n - 1) (by omega)).2 (t) x6 x7 k0  (by omega) iv1 iv2 iv3 iv4 (by omega)
          · skip
            refine r_aload_n C (j := 0) (oDec_at oX10_tryOne 45 rfl) rfl rfl ?_
            refine r_getF (k := 9) (b := 48) C oCl10 rfl (by decide) flX10_31 rfl rfl rfl (oDec_at oX10_tryOne 46 rfl) ?_
            refine r_iload C (j := 4) (oDec_at oX10_tryOne 47 rfl) rfl ?_
            refine r_sipush C (oDec_at oX10_tryOne 48 rfl) (v := k180) (by rw [qk180]; rfl) ?_
            refine r_callSi C miJ9_floorMod_7cf53 mlX10_106 (ct_J9_floorMod_7cf53 l E (t) x5 k180 (by omega)) (by decide) rfl rfl rfl (Nat.le_of_ble_eq_true rfl) (oDec_at oX10_tryOne 49 rfl) (fun r6 u5 pu5 fu5 => ?_)
            try dsimp only at pu5
            have hxu5 := oFr_nil fu5; subst hxu5
            have rr6 := n_rng r6
            refine r_iconst C (oDec_at oX10_tryOne 50 rfl) (v := k1) (by rw [qk1]; rfl) ?_
            refine r_pc C 103 rfl ?_
            refine r_iast (n := 180) (lo := (-2147483648)) (hi := 2147483647) C rfl (by decide) rfl rfl ⟨by omega, by omega⟩ (by decide) rfl rfl rfl rfl (n_rng _) (oDec_at oX10_tryOne 51 rfl) ?_
            exact r_vret C (oDec_at oX10_tryOne 52 rfl) ⟨rfl, (owKV_fr (oFr_oneI (q := 36) (m := 9999) rfl (by rfl)) rfl iv2)⟩
        · skip
          refine r_iload C (j := 6) (oDec_at oX10_tryOne 20 rfl) rfl ?_
          refine r_callSi C miJ6_bitCount_0f7a4 mlX10_91 (ct_J6_bitCount_0f7a4 l E (t) x7 ) (by decide) rfl rfl rfl (Nat.le_of_ble_eq_true rfl) (oDec_at oX10_tryOne 21 rfl) (fun r8 u7 pu7 fu7 => ?_)
          try dsimp only at pu7
          have hxu7 := oFr_nil fu7; subst hxu7
          have rr8 := n_rng r8
          refine r_iconst C (oDec_at oX10_tryOne 22 rfl) (v := k2) (by rw [qk2]; rfl) ?_
          refine r_icmp_ge C 85 (oDec_at oX10_tryOne 23 rfl) (by decide) (fun cd9 => ?_) (fun cd9 => ?_)
          · skip
            refine r_iload C (j := 6) (oDec_at oX10_tryOne 43 rfl) rfl ?_
            refine r_if_ne C 105 (oDec_at oX10_tryOne 44 rfl) (by decide) (fun cd10 => ?_) (fun cd10 => ?_)
            · skip
              refine r_iconst C (oDec_at oX10_tryOne 53 rfl) (v := k0) (by rw [qk0]; rfl) ?_
              refine r_istore C (lv' := [(0, .ref (oad E 43)), (1, .ref (oad E 31)), (2, .ref (oad E 35)), (4, .int a4), (5, .int x5), (6, .int x6), (7, .int x7), (8, .int k0)]) [1, 2, 3, 4, 5, 6, 7, 0] (oDec_at oX10_tryOne 54 rfl) (by decide) rfl ?_
              refine r_pick C [0, 5, 6, 7] rfl ?_
              exact (ih (n - 1) (by omega)).2 (t) x6 x7 k0  (by omega) iv1 iv2 iv3 iv4 (by omega)
            · skip
              refine r_aload_n C (j := 0) (oDec_at oX10_tryOne 45 rfl) rfl rfl ?_
              refine r_getF (k := 9) (b := 48) C oCl10 rfl (by decide) flX10_31 rfl rfl rfl (oDec_at oX10_tryOne 46 rfl) ?_
              refine r_iload C (j := 4) (oDec_at oX10_tryOne 47 rfl) rfl ?_
              refine r_sipush C (oDec_at oX10_tryOne 48 rfl) (v := k180) (by rw [qk180]; rfl) ?_
              refine r_callSi C miJ9_floorMod_7cf53 mlX10_106 (ct_J9_floorMod_7cf53 l E (t) x5 k180 (by omega)) (by decide) rfl rfl rfl (Nat.le_of_ble_eq_true rfl) (oDec_at oX10_tryOne 49 rfl) (fun r12 u11 pu11 fu11 => ?_)
              try dsimp only at pu11
              have hxu11 := oFr_nil fu11; subst hxu11
              have rr12 := n_rng r12
              refine r_iconst C (oDec_at oX10_tryOne 50 rfl) (v := k1) (by rw [qk1]; rfl) ?_
              refine r_pc C 103 rfl ?_
              refine r_iast (n := 180) (lo := (-2147483648)) (hi := 2147483647) C rfl (by decide) rfl rfl ⟨by omega, by omega⟩ (by decide) rfl rfl rfl rfl (n_rng _) (oDec_at oX10_tryOne 51 rfl) ?_
              exact r_vret C (oDec_at oX10_tryOne 52 rfl) ⟨rfl, (owKV_fr (oFr_oneI (q := 36) (m := 9999) rfl (by rfl)) rfl iv2)⟩
          · skip
            refine r_aload_n C (j := 1) (oDec_at oX10_tryOne 24 rfl) rfl rfl ?_
            refine r_aload_n C (j := 2) (oDec_at oX10_tryOne 25 rfl) rfl rfl ?_
            refine r_iload C (j := 7) (oDec_at oX10_tryOne 26 rfl) rfl ?_
            refine r_iload C (j := 3) (oDec_at oX10_tryOne 27 rfl) rfl ?_
            have lk13 : ((t).1 35 6).toInt = v1.toInt := congrArg Int32.toInt (ev1)
            refine r_callVi C oCl2 rfl miX2_verdict mlX10_97 (ct9_X2_verdict l E (t) x8 a4 (b) (R) (W) (by omega) iv1 iv2 iv4) (by decide) rfl rfl rfl (Nat.le_of_ble_eq_true rfl) (oDec_at oX10_tryOne 28 rfl) (fun r15 u14 pu14 fu14 => ?_)
            try dsimp only at pu14
            try simp only [lk13] at pu14
            obtain ⟨pu14_0, pu14_1⟩ := pu14
            have rr15 := n_rng r15
            refine r_istore C (lv' := [(0, .ref (oad E 43)), (1, .ref (oad E 31)), (2, .ref (oad E 35)), (4, .int a4), (5, .int x5), (6, .int x6), (7, .int x7), (8, .int x8), (9, .int r15)]) [1, 2, 3, 4, 5, 6, 7, 8, 0] (oDec_at oX10_tryOne 29 rfl) (by decide) rfl ?_
            refine r_pc C 55 rfl ?_
            refine r_iload C (j := 6) (oDec_at oX10_tryOne 30 rfl) rfl ?_
            refine r_if_ne C 68 (oDec_at oX10_tryOne 31 rfl) (by decide) (fun cd16 => ?_) (fun cd16 => ?_)
            · skip
              refine r_iload C (j := 5) (oDec_at oX10_tryOne 35 rfl) rfl ?_
              refine r_istore C (lv' := [(0, .ref (oad E 43)), (1, .ref (oad E 31)), (2, .ref (oad E 35)), (4, .int a4), (5, .int x5), (6, .int x6), (7, .int x7), (8, .int x8), (9, .int r15)]) [1, 2, 3, 4, 5, 0, 6, 7, 8] (oDec_at oX10_tryOne 36 rfl) (by decide) rfl ?_
              refine r_iload C (j := 6) (oDec_at oX10_tryOne 37 rfl) rfl ?_
              refine r_iload C (j := 8) (oDec_at oX10_tryOne 38 rfl) rfl ?_
              obtain ⟨v17, ev17⟩ : ∃ z : Int32, z = x7 ||| r15 := ⟨_, rfl⟩
              have rv17 := n_rng v17
              refine r_ior C v17 (oDec_at oX10_tryOne 39 rfl) ev17 ?_
              refine r_istore C (lv' := [(0, .ref (oad E 43)), (1, .ref (oad E 31)), (2, .ref (oad E 35)), (4, .int a4), (5, .int x5), (6, .int x6), (7, .int v17), (8, .int x8), (9, .int r15)]) [1, 2, 3, 4, 5, 6, 0, 7, 8] (oDec_at oX10_tryOne 40 rfl) (by decide) rfl ?_
              refine r_pc C 79 rfl ?_
              obtain ⟨v18, ev18⟩ : ∃ z : Int32, x8 + Int32.ofInt 1 = z := ⟨_, rfl⟩
              have hv18 : v18.toInt = x8.toInt + 1 := n_inc ev18 (by decide) (by omega) (by omega)
              refine r_iinc C (j := 7) (lv' := [(0, .ref (oad E 43)), (1, .ref (oad E 31)), (2, .ref (oad E 35)), (4, .int a4), (5, .int x5), (6, .int x6), (7, .int v17), (8, .int v18), (9, .int r15)]) v18 [1, 2, 3, 4, 5, 6, 7, 0, 8] (oDec_at oX10_tryOne 41 rfl) rfl ev18 (by decide) rfl ?_
              refine r_goto C (tgt := 26) (oDec_at oX10_tryOne 42 rfl) (by decide) ?_
              refine r_pick C [0, 1, 2, 3, 4, 5, 6, 7] rfl ?_
              exact (ih (n - 1) (by omega)).1 (u14) x5 x6 v17 v18  (by omega) (owBC_fr fu14 rfl iv1) pu14_0 (owLN_fr fu14 rfl iv3) (owDN_fr fu14 rfl iv4) (by omega)
            · skip
              refine r_iload C (j := 8) (oDec_at oX10_tryOne 32 rfl) rfl ?_
              refine r_callSNi C miX11_lowestBit mlX10_103 (ct_X11_lowestBit l E (u14) r15 ) (by decide) rfl rfl rfl (Nat.le_of_ble_eq_true rfl) (oDec_at oX10_tryOne 33 rfl) (fun r20 u19 pu19 fu19 => ?_)
              try dsimp only at pu19
              have hxu19 := oFr_nil fu19; subst hxu19
              have rr20 := n_rng r20
              refine r_goto C (tgt := 70) (oDec_at oX10_tryOne 34 rfl) (by decide) ?_
              refine r_istore C (lv' := [(0, .ref (oad E 43)), (1, .ref (oad E 31)), (2, .ref (oad E 35)), (4, .int a4), (5, .int x5), (6, .int r20), (7, .int x7), (8, .int x8), (9, .int r15)]) [1, 2, 3, 4, 5, 0, 6, 7, 8] (oDec_at oX10_tryOne 36 rfl) (by decide) rfl ?_
              refine r_iload C (j := 6) (oDec_at oX10_tryOne 37 rfl) rfl ?_
              refine r_iload C (j := 8) (oDec_at oX10_tryOne 38 rfl) rfl ?_
              obtain ⟨v21, ev21⟩ : ∃ z : Int32, z = x7 ||| r15 := ⟨_, rfl⟩
              have rv21 := n_rng v21
              refine r_ior C v21 (oDec_at oX10_tryOne 39 rfl) ev21 ?_
              refine r_pc C 77 rfl ?_
              refine r_istore C (lv' := [(0, .ref (oad E 43)), (1, .ref (oad E 31)), (2, .ref (oad E 35)), (4, .int a4), (5, .int x5), (6, .int r20), (7, .int v21), (8, .int x8), (9, .int r15)]) [1, 2, 3, 4, 5, 6, 0, 7, 8] (oDec_at oX10_tryOne 40 rfl) (by decide) rfl ?_
              obtain ⟨v22, ev22⟩ : ∃ z : Int32, x8 + Int32.ofInt 1 = z := ⟨_, rfl⟩
              have hv22 : v22.toInt = x8.toInt + 1 := n_inc ev22 (by decide) (by omega) (by omega)
              refine r_iinc C (j := 7) (lv' := [(0, .ref (oad E 43)), (1, .ref (oad E 31)), (2, .ref (oad E 35)), (4, .int a4), (5, .int x5), (6, .int r20), (7, .int v21), (8, .int v22), (9, .int r15)]) v22 [1, 2, 3, 4, 5, 6, 7, 0, 8] (oDec_at oX10_tryOne 41 rfl) rfl ev22 (by decide) rfl ?_
              refine r_goto C (tgt := 26) (oDec_at oX10_tryOne 42 rfl) (by decide) ?_
              refine r_pick C [0, 1, 2, 3, 4, 5, 6, 7] rfl ?_
              exact (ih (n - 1) (by omega)).1 (u14) x5 r20 v21 v22  (by omega) (owBC_fr fu14 rfl iv1) pu14_0 (owLN_fr fu14 rfl iv3) (owDN_fr fu14 rfl iv4) (by omega)
      · intro t x6 x7 x8  iv0 iv1 iv2 iv3 iv4 hmu
        have rx6 := n_rng x6
        have rx7 := n_rng x7
        have rx8 := n_rng x8
        refine r_iload C (j := 3) (oDec_at oX10_tryOne 55 rfl) rfl ?_
        refine r_bipush C (oDec_at oX10_tryOne 56 rfl) (v := k12) (by rw [qk12]; rfl) ?_
        refine r_icmp_ge C 169 (oDec_at oX10_tryOne 57 rfl) (by decide) (fun cd23 => ?_) (fun cd23 => ?_)
        · skip
          exact r_vret C (oDec_at oX10_tryOne 90 rfl) ⟨rfl, iv2⟩
        · skip
          refine r_aload_n C (j := 0) (oDec_at oX10_tryOne 58 rfl) rfl rfl ?_
          refine r_getF (k := 7) (b := 46) C oCl10 rfl (by decide) flX10_25 rfl rfl rfl (oDec_at oX10_tryOne 59 rfl) ?_
          refine r_iload C (j := 3) (oDec_at oX10_tryOne 60 rfl) rfl ?_
          refine r_dup2 C (oDec_at oX10_tryOne 61 rfl) rfl rfl ?_
          obtain ⟨v25, ev25⟩ : ∃ z : Int32, (t).1 46 x8.toNatClampNeg = z := ⟨_, rfl⟩
          have gv25 : (t.1 46 x8.toNatClampNeg).toInt = v25.toInt := congrArg Int32.toInt (ev25)
          have rv25 := n_rng v25
          refine r_iald (n := 12) (lo := (-2147483648)) (hi := 2147483647) C v25 rfl (by decide) rfl rfl ⟨by omega, by omega⟩ (by decide) ev25 rfl rfl (oDec_at oX10_tryOne 62 rfl) (fun _ _ => ?_)
          refine r_iload C (j := 1) (oDec_at oX10_tryOne 63 rfl) rfl ?_
          refine r_pc C 125 rfl ?_
          refine r_iconst C (oDec_at oX10_tryOne 64 rfl) (v := k1) (by rw [qk1]; rfl) ?_
          refine r_iload C (j := 3) (oDec_at oX10_tryOne 65 rfl) rfl ?_
          obtain ⟨v26, ev26⟩ : ∃ z : Int32, z = k1 <<< (x8 &&& 31) := ⟨_, rfl⟩
          have rv26 := n_rng v26
          refine r_ishl C v26 (oDec_at oX10_tryOne 66 rfl) ev26 ?_
          refine r_icmp_ne C 136 (oDec_at oX10_tryOne 67 rfl) (by decide) (fun cd27 => ?_) (fun cd27 => ?_)
          · skip
            refine r_iconst C (oDec_at oX10_tryOne 70 rfl) (v := k0) (by rw [qk0]; rfl) ?_
            obtain ⟨v28, ev28⟩ : ∃ z : Int32, z = v25 + k0 := ⟨_, rfl⟩
            have rv28 := n_rng v28
            refine r_iadd C v28 (oDec_at oX10_tryOne 71 rfl) ev28 ?_
            refine r_iast (n := 12) (lo := (-2147483648)) (hi := 2147483647) C rfl (by decide) rfl rfl ⟨by omega, by omega⟩ (by decide) rfl rfl rfl rfl (n_rng _) (oDec_at oX10_tryOne 72 rfl) ?_
            refine r_aload_n C (j := 0) (oDec_at oX10_tryOne 73 rfl) rfl rfl ?_
            refine r_getF (k := 8) (b := 47) C oCl10 rfl (by decide) flX10_28 rfl rfl rfl (oDec_at oX10_tryOne 74 rfl) ?_
            refine r_iload C (j := 3) (oDec_at oX10_tryOne 75 rfl) rfl ?_
            refine r_pc C 145 rfl ?_
            refine r_dup2 C (oDec_at oX10_tryOne 76 rfl) rfl rfl ?_
            obtain ⟨v30, ev30⟩ : ∃ z : Int32, ((pI t 46 x8.toNatClampNeg v28)).1 47 x8.toNatClampNeg = z := ⟨_, rfl⟩
            have av30 : t.1 47 x8.toNatClampNeg = v30 := ((pI_ne (a := 47) (b := x8.toNatClampNeg) (c := 46) _ _ (Or.inl (by decide)))).symm.trans ev30
            have gv30 : (t.1 47 x8.toNatClampNeg).toInt = v30.toInt := congrArg Int32.toInt (((pI_ne (a := 47) (b := x8.toNatClampNeg) (c := 46) _ _ (Or.inl (by decide)))).symm.trans ev30)
            have rv30 := n_rng v30
            refine r_iald (n := 12) (lo := (-2147483648)) (hi := 2147483647) C v30 rfl (by decide) rfl rfl ⟨by omega, by omega⟩ (by decide) ev30 rfl rfl (oDec_at oX10_tryOne 77 rfl) (fun _ _ => ?_)
            refine r_iload C (j := 2) (oDec_at oX10_tryOne 78 rfl) rfl ?_
            refine r_iconst C (oDec_at oX10_tryOne 79 rfl) (v := k1) (by rw [qk1]; rfl) ?_
            refine r_iload C (j := 3) (oDec_at oX10_tryOne 80 rfl) rfl ?_
            obtain ⟨v31, ev31⟩ : ∃ z : Int32, z = k1 <<< (x8 &&& 31) := ⟨_, rfl⟩
            have rv31 := n_rng v31
            refine r_ishl C v31 (oDec_at oX10_tryOne 81 rfl) ev31 ?_
            refine r_pc C 153 rfl ?_
            refine r_icmp_ne C 160 (oDec_at oX10_tryOne 82 rfl) (by decide) (fun cd32 => ?_) (fun cd32 => ?_)
            · skip
              refine r_iconst C (oDec_at oX10_tryOne 85 rfl) (v := k0) (by rw [qk0]; rfl) ?_
              obtain ⟨v33, ev33⟩ : ∃ z : Int32, z = v30 + k0 := ⟨_, rfl⟩
              have rv33 := n_rng v33
              refine r_iadd C v33 (oDec_at oX10_tryOne 86 rfl) ev33 ?_
              refine r_iast (n := 12) (lo := (-2147483648)) (hi := 2147483647) C rfl (by decide) rfl rfl ⟨by omega, by omega⟩ (by decide) rfl rfl rfl rfl (n_rng _) (oDec_at oX10_tryOne 87 rfl) ?_
              obtain ⟨v34, ev34⟩ : ∃ z : Int32, x8 + Int32.ofInt 1 = z := ⟨_, rfl⟩
              have hv34 : v34.toInt = x8.toInt + 1 := n_inc ev34 (by decide) (by omega) (by omega)
              refine r_iinc C (j := 3) (lv' := [(0, .ref (oad E 43)), (6, .int x6), (7, .int x7), (8, .int v34)]) v34 [1, 2, 3, 0] (oDec_at oX10_tryOne 88 rfl) rfl ev34 (by decide) rfl ?_
              refine r_goto C (tgt := 108) (oDec_at oX10_tryOne 89 rfl) (by decide) ?_
              exact (ih (n - 1) (by omega)).2 ((pI (pI t 46 x8.toNatClampNeg v28) 47 x8.toNatClampNeg v33)) x6 x7 v34  (by omega) (owBC_fr (oFr_oneI (q := 35) (m := 9999) rfl (by rfl)) rfl (owBC_fr (oFr_oneI (q := 34) (m := 9999) rfl (by rfl)) rfl iv1)) (owKV_fr (oFr_oneI (q := 35) (m := 9999) rfl (by rfl)) rfl (owKV_fr (oFr_oneI (q := 34) (m := 9999) rfl (by rfl)) rfl iv2)) (owLN_fr (oFr_oneI (q := 35) (m := 9999) rfl (by rfl)) rfl (owLN_fr (oFr_oneI (q := 34) (m := 9999) rfl (by rfl)) rfl iv3)) (owDN_fr (oFr_oneI (q := 35) (m := 9999) rfl (by rfl)) rfl (owDN_fr (oFr_oneI (q := 34) (m := 9999) rfl (by rfl)) rfl iv4)) (by omega)
            · skip
              refine r_iconst C (oDec_at oX10_tryOne 83 rfl) (v := k1) (by rw [qk1]; rfl) ?_
              refine r_goto C (tgt := 161) (oDec_at oX10_tryOne 84 rfl) (by decide) ?_
              obtain ⟨v35, ev35⟩ : ∃ z : Int32, z = v30 + k1 := ⟨_, rfl⟩
              have rv35 := n_rng v35
              refine r_iadd C v35 (oDec_at oX10_tryOne 86 rfl) ev35 ?_
              refine r_iast (n := 12) (lo := (-2147483648)) (hi := 2147483647) C rfl (by decide) rfl rfl ⟨by omega, by omega⟩ (by decide) rfl rfl rfl rfl (n_rng _) (oDec_at oX10_tryOne 87 rfl) ?_
              obtain ⟨v36, ev36⟩ : ∃ z : Int32, x8 + Int32.ofInt 1 = z := ⟨_, rfl⟩
              have hv36 : v36.toInt = x8.toInt + 1 := n_inc ev36 (by decide) (by omega) (by omega)
              refine r_iinc C (j := 3) (lv' := [(0, .ref (oad E 43)), (6, .int x6), (7, .int x7), (8, .int v36)]) v36 [1, 2, 3, 0] (oDec_at oX10_tryOne 88 rfl) rfl ev36 (by decide) rfl ?_
              refine r_goto C (tgt := 108) (oDec_at oX10_tryOne 89 rfl) (by decide) ?_
              exact (ih (n - 1) (by omega)).2 ((pI (pI t 46 x8.toNatClampNeg v28) 47 x8.toNatClampNeg v35)) x6 x7 v36  (by omega) (owBC_fr (oFr_oneI (q := 35) (m := 9999) rfl (by rfl)) rfl (owBC_fr (oFr_oneI (q := 34) (m := 9999) rfl (by rfl)) rfl iv1)) (owKV_fr (oFr_oneI (q := 35) (m := 9999) rfl (by rfl)) rfl (owKV_fr (oFr_oneI (q := 34) (m := 9999) rfl (by rfl)) rfl iv2)) (owLN_fr (oFr_oneI (q := 35) (m := 9999) rfl (by rfl)) rfl (owLN_fr (oFr_oneI (q := 34) (m := 9999) rfl (by rfl)) rfl iv3)) (owDN_fr (oFr_oneI (q := 35) (m := 9999) rfl (by rfl)) rfl (owDN_fr (oFr_oneI (q := 34) (m := 9999) rfl (by rfl)) rfl iv4)) (by omega)
          · skip
            refine r_iconst C (oDec_at oX10_tryOne 68 rfl) (v := k1) (by rw [qk1]; rfl) ?_
            refine r_goto C (tgt := 137) (oDec_at oX10_tryOne 69 rfl) (by decide) ?_
            obtain ⟨v37, ev37⟩ : ∃ z : Int32, z = v25 + k1 := ⟨_, rfl⟩
            have rv37 := n_rng v37
            refine r_iadd C v37 (oDec_at oX10_tryOne 71 rfl) ev37 ?_
            refine r_iast (n := 12) (lo := (-2147483648)) (hi := 2147483647) C rfl (by decide) rfl rfl ⟨by omega, by omega⟩ (by decide) rfl rfl rfl rfl (n_rng _) (oDec_at oX10_tryOne 72 rfl) ?_
            refine r_aload_n C (j := 0) (oDec_at oX10_tryOne 73 rfl) rfl rfl ?_
            refine r_getF (k := 8) (b := 47) C oCl10 rfl (by decide) flX10_28 rfl rfl rfl (oDec_at oX10_tryOne 74 rfl) ?_
            refine r_iload C (j := 3) (oDec_at oX10_tryOne 75 rfl) rfl ?_
            refine r_pc C 145 rfl ?_
            refine r_dup2 C (oDec_at oX10_tryOne 76 rfl) rfl rfl ?_
            obtain ⟨v39, ev39⟩ : ∃ z : Int32, ((pI t 46 x8.toNatClampNeg v37)).1 47 x8.toNatClampNeg = z := ⟨_, rfl⟩
            have av39 : t.1 47 x8.toNatClampNeg = v39 := ((pI_ne (a := 47) (b := x8.toNatClampNeg) (c := 46) _ _ (Or.inl (by decide)))).symm.trans ev39
            have gv39 : (t.1 47 x8.toNatClampNeg).toInt = v39.toInt := congrArg Int32.toInt (((pI_ne (a := 47) (b := x8.toNatClampNeg) (c := 46) _ _ (Or.inl (by decide)))).symm.trans ev39)
            have rv39 := n_rng v39
            refine r_iald (n := 12) (lo := (-2147483648)) (hi := 2147483647) C v39 rfl (by decide) rfl rfl ⟨by omega, by omega⟩ (by decide) ev39 rfl rfl (oDec_at oX10_tryOne 77 rfl) (fun _ _ => ?_)
            refine r_iload C (j := 2) (oDec_at oX10_tryOne 78 rfl) rfl ?_
            refine r_iconst C (oDec_at oX10_tryOne 79 rfl) (v := k1) (by rw [qk1]; rfl) ?_
            refine r_iload C (j := 3) (oDec_at oX10_tryOne 80 rfl) rfl ?_
            obtain ⟨v40, ev40⟩ : ∃ z : Int32, z = k1 <<< (x8 &&& 31) := ⟨_, rfl⟩
            have rv40 := n_rng v40
            refine r_ishl C v40 (oDec_at oX10_tryOne 81 rfl) ev40 ?_
            refine r_pc C 153 rfl ?_
            refine r_icmp_ne C 160 (oDec_at oX10_tryOne 82 rfl) (by decide) (fun cd41 => ?_) (fun cd41 => ?_)
            · skip
              refine r_iconst C (oDec_at oX10_tryOne 85 rfl) (v := k0) (by rw [qk0]; rfl) ?_
              obtain ⟨v42, ev42⟩ : ∃ z : Int32, z = v39 + k0 := ⟨_, rfl⟩
              have rv42 := n_rng v42
              refine r_iadd C v42 (oDec_at oX10_tryOne 86 rfl) ev42 ?_
              refine r_iast (n := 12) (lo := (-2147483648)) (hi := 2147483647) C rfl (by decide) rfl rfl ⟨by omega, by omega⟩ (by decide) rfl rfl rfl rfl (n_rng _) (oDec_at oX10_tryOne 87 rfl) ?_
              obtain ⟨v43, ev43⟩ : ∃ z : Int32, x8 + Int32.ofInt 1 = z := ⟨_, rfl⟩
              have hv43 : v43.toInt = x8.toInt + 1 := n_inc ev43 (by decide) (by omega) (by omega)
              refine r_iinc C (j := 3) (lv' := [(0, .ref (oad E 43)), (6, .int x6), (7, .int x7), (8, .int v43)]) v43 [1, 2, 3, 0] (oDec_at oX10_tryOne 88 rfl) rfl ev43 (by decide) rfl ?_
              refine r_goto C (tgt := 108) (oDec_at oX10_tryOne 89 rfl) (by decide) ?_
              exact (ih (n - 1) (by omega)).2 ((pI (pI t 46 x8.toNatClampNeg v37) 47 x8.toNatClampNeg v42)) x6 x7 v43  (by omega) (owBC_fr (oFr_oneI (q := 35) (m := 9999) rfl (by rfl)) rfl (owBC_fr (oFr_oneI (q := 34) (m := 9999) rfl (by rfl)) rfl iv1)) (owKV_fr (oFr_oneI (q := 35) (m := 9999) rfl (by rfl)) rfl (owKV_fr (oFr_oneI (q := 34) (m := 9999) rfl (by rfl)) rfl iv2)) (owLN_fr (oFr_oneI (q := 35) (m := 9999) rfl (by rfl)) rfl (owLN_fr (oFr_oneI (q := 34) (m := 9999) rfl (by rfl)) rfl iv3)) (owDN_fr (oFr_oneI (q := 35) (m := 9999) rfl (by rfl)) rfl (owDN_fr (oFr_oneI (q := 34) (m := 9999) rfl (by rfl)) rfl iv4)) (by omega)
            · skip
              refine r_iconst C (oDec_at oX10_tryOne 83 rfl) (v := k1) (by rw [qk1]; rfl) ?_
              refine r_goto C (tgt := 161) (oDec_at oX10_tryOne 84 rfl) (by decide) ?_
              obtain ⟨v44, ev44⟩ : ∃ z : Int32, z = v39 + k1 := ⟨_, rfl⟩
              have rv44 := n_rng v44
              refine r_iadd C v44 (oDec_at oX10_tryOne 86 rfl) ev44 ?_
              refine r_iast (n := 12) (lo := (-2147483648)) (hi := 2147483647) C rfl (by decide) rfl rfl ⟨by omega, by omega⟩ (by decide) rfl rfl rfl rfl (n_rng _) (oDec_at oX10_tryOne 87 rfl) ?_
              obtain ⟨v45, ev45⟩ : ∃ z : Int32, x8 + Int32.ofInt 1 = z := ⟨_, rfl⟩
              have hv45 : v45.toInt = x8.toInt + 1 := n_inc ev45 (by decide) (by omega) (by omega)
              refine r_iinc C (j := 3) (lv' := [(0, .ref (oad E 43)), (6, .int x6), (7, .int x7), (8, .int v45)]) v45 [1, 2, 3, 0] (oDec_at oX10_tryOne 88 rfl) rfl ev45 (by decide) rfl ?_
              refine r_goto C (tgt := 108) (oDec_at oX10_tryOne 89 rfl) (by decide) ?_
              exact (ih (n - 1) (by omega)).2 ((pI (pI t 46 x8.toNatClampNeg v37) 47 x8.toNatClampNeg v44)) x6 x7 v45  (by omega) (owBC_fr (oFr_oneI (q := 35) (m := 9999) rfl (by rfl)) rfl (owBC_fr (oFr_oneI (q := 34) (m := 9999) rfl (by rfl)) rfl iv1)) (owKV_fr (oFr_oneI (q := 35) (m := 9999) rfl (by rfl)) rfl (owKV_fr (oFr_oneI (q := 34) (m := 9999) rfl (by rfl)) rfl iv2)) (owLN_fr (oFr_oneI (q := 35) (m := 9999) rfl (by rfl)) rfl (owLN_fr (oFr_oneI (q := 34) (m := 9999) rfl (by rfl)) rfl iv3)) (owDN_fr (oFr_oneI (q := 35) (m := 9999) rfl (by rfl)) rfl (owDN_fr (oFr_oneI (q := 34) (m := 9999) rfl (by rfl)) rfl iv4)) (by omega)
  refine r_iload_n C (j := 3) (oDec_at oX10_tryOne 0 rfl) rfl rfl ?_
  refine r_iload C (j := 4) (oDec_at oX10_tryOne 1 rfl) rfl ?_
  refine r_bipush C (oDec_at oX10_tryOne 2 rfl) (v := k12) (by rw [qk12]; rfl) ?_
  obtain ⟨v46, ev46⟩ : ∃ z : Int32, z = a4 * k12 := ⟨_, rfl⟩
  have rv46 := n_rng v46
  refine r_imul C v46 (oDec_at oX10_tryOne 3 rfl) ev46 ?_
  obtain ⟨v47, ev47⟩ : ∃ z : Int32, z = a3 + v46 := ⟨_, rfl⟩
  have rv47 := n_rng v47
  refine r_iadd C v47 (oDec_at oX10_tryOne 4 rfl) ev47 ?_
  refine r_istore C (lv' := [(0, .ref (oad E 43)), (1, .ref (oad E 31)), (2, .ref (oad E 35)), (3, .int a3), (4, .int a4), (5, .int v47)]) [1, 2, 3, 4, 5, 0] (oDec_at oX10_tryOne 5 rfl) (by decide) rfl ?_
  refine r_pc C 9 rfl ?_
  refine r_iload C (j := 5) (oDec_at oX10_tryOne 6 rfl) rfl ?_
  refine r_bipush C (oDec_at oX10_tryOne 7 rfl) (v := k84) (by rw [qk84]; rfl) ?_
  refine r_icmp_ne C 17 (oDec_at oX10_tryOne 8 rfl) (by decide) (fun cd48 => ?_) (fun cd48 => ?_)
  · skip
    refine r_iconst C (oDec_at oX10_tryOne 10 rfl) (v := k0) (by rw [qk0]; rfl) ?_
    refine r_istore C (lv' := [(0, .ref (oad E 43)), (1, .ref (oad E 31)), (2, .ref (oad E 35)), (3, .int a3), (4, .int a4), (5, .int v47), (6, .int k0)]) [1, 2, 3, 4, 5, 6, 0] (oDec_at oX10_tryOne 11 rfl) (by decide) rfl ?_
    refine r_iconst C (oDec_at oX10_tryOne 12 rfl) (v := k0) (by rw [qk0]; rfl) ?_
    refine r_istore C (lv' := [(0, .ref (oad E 43)), (1, .ref (oad E 31)), (2, .ref (oad E 35)), (3, .int a3), (4, .int a4), (5, .int v47), (6, .int k0), (7, .int k0)]) [1, 2, 3, 4, 5, 6, 7, 0] (oDec_at oX10_tryOne 13 rfl) (by decide) rfl ?_
    refine r_iconst C (oDec_at oX10_tryOne 14 rfl) (v := k0) (by rw [qk0]; rfl) ?_
    refine r_istore C (lv' := [(0, .ref (oad E 43)), (1, .ref (oad E 31)), (2, .ref (oad E 35)), (3, .int a3), (4, .int a4), (5, .int v47), (6, .int k0), (7, .int k0), (8, .int k0)]) [1, 2, 3, 4, 5, 6, 7, 8, 0] (oDec_at oX10_tryOne 15 rfl) (by decide) rfl ?_
    refine r_pick C [0, 1, 2, 4, 5, 6, 7, 8] rfl ?_
    exact (key (149 - k0.toInt).toNat).1 (s) v47 k0 k0 k0  (by omega) hp0 hp1 hp2 hp3 (by omega)
  · skip
    exact r_vret C (oDec_at oX10_tryOne 9 rfl) ⟨rfl, hp1⟩
set_option maxHeartbeats 4000000 in
set_option maxRecDepth 100000 in
theorem ct9_X10_survey (l : Launch) (E : oE) (s : oS) (c1 : Nat) (hk1 : okd c1 = 4) (c2 : Nat) (hk2 : okd c2 = 0) (b : Nat) (R : Int) (W : Nat → List Int) (hp0 : owBC b R W s) (hp1 : owKV R W s) (hp2 : owLN s) (hp3 : owDN s) : oMet l 6 yX10_survey cX10_survey 9 (some .int) [(1, 6), (1, 7), (1, 8), (9, 0), (9, 1), (9, 2), (9, 3), (9, 4), (10, 4), (24, 9999), (25, 9999), (26, 9999), (27, 9999), (28, 9999), (29, 9999), (30, 9999), (31, 9999), (32, 9999), (34, 9999), (35, 9999), (36, 9999)] E s [.ref (oad E 43), .ref (oad E c1), .ref (oad E c2), .ref (oad E 31), .ref (oad E 35)] (oPi (fun r u => (owKV R W u) ∧ (owDN u))) := by
  refine oMet.of (lv := [(0, .ref (oad E 43)), (1, .ref (oad E c1)), (2, .ref (oad E c2)), (3, .ref (oad E 31)), (4, .ref (oad E 35))]) (by decide +kernel) (Nat.le_of_ble_eq_true rfl) rfl (fun J C hT => ?_)
  have C : oC l 6 cX10_survey RX10 9 (some .int) [(1, 6), (1, 7), (1, 8), (9, 0), (9, 1), (9, 2), (9, 3), (9, 4), (10, 4), (24, 9999), (25, 9999), (26, 9999), (27, 9999), (28, 9999), (29, 9999), (30, 9999), (31, 9999), (32, 9999), (34, 9999), (35, 9999), (36, 9999)] E s (oPi (fun r u => (owKV R W u) ∧ (owDN u))) J := C
  obtain ⟨k0, qk0⟩ : ∃ z : Int32, z = 0 := ⟨_, rfl⟩
  have ek0 : k0.toInt = 0 := by rw [qk0]; rfl
  obtain ⟨k12, qk12⟩ : ∃ z : Int32, z = 12 := ⟨_, rfl⟩
  have ek12 : k12.toInt = 12 := by rw [qk12]; rfl
  obtain ⟨k84, qk84⟩ : ∃ z : Int32, z = 84 := ⟨_, rfl⟩
  have ek84 : k84.toInt = 84 := by rw [qk84]; rfl
  have key : ∀ n : Nat, (∀ (t : oS) (x5 : Int32), (0 ≤ x5.toInt ∧ x5.toInt ≤ 25) → (owBC b R W t) → (owKV R W t) → (owLN t) → (owDN t) → 1000 * (26 - x5.toInt) ≤ (n : Int) → J t 24 [(0, .ref (oad E 43)), (1, .ref (oad E c1)), (2, .ref (oad E c2)), (3, .ref (oad E 31)), (4, .ref (oad E 35)), (5, .int x5)] []) ∧ (∀ (t : oS) (x5 : Int32) (x6 : Int32), (0 ≤ x5.toInt ∧ x5.toInt ≤ 24) → (0 ≤ x6.toInt ∧ x6.toInt ≤ 12) → (owBC b R W t) → (owKV R W t) → (owLN t) → (owDN t) → 1000 * (26 - x5.toInt) - 10 - 40 * x6.toInt ≤ (n : Int) → J t 44 [(0, .ref (oad E 43)), (1, .ref (oad E c1)), (2, .ref (oad E c2)), (3, .ref (oad E 31)), (4, .ref (oad E 35)), (5, .int x5), (6, .int x6)] []) ∧ (∀ (t : oS) (x5 : Int32) (x6 : Int32) (x7 : Int32) (x8 : Int32), (0 ≤ x5.toInt ∧ x5.toInt ≤ 24) → (0 ≤ x6.toInt ∧ x6.toInt ≤ 11) → (-7 ≤ x8.toInt ∧ x8.toInt ≤ 8) → (owBC b R W t) → (owKV R W t) → (owLN t) → (owDN t) → 1000 * (26 - x5.toInt) - 27 - 40 * x6.toInt - x8.toInt ≤ (n : Int) → J t 103 [(0, .ref (oad E 43)), (1, .ref (oad E c1)), (2, .ref (oad E c2)), (3, .ref (oad E 31)), (4, .ref (oad E 35)), (5, .int x5), (6, .int x6), (7, .int x7), (8, .int x8)] []) := by
    intro n
    induction n using Nat.strongRecOn with
    | _ n ih =>
      refine ⟨?_, ?_, ?_⟩
      · intro t x5  iv0 iv1 iv2 iv3 iv4 hmu
        have rx5 := n_rng x5
        refine r_iload C (j := 5) (oDec_at oX10_survey 13 rfl) rfl ?_
        refine r_aload_n C (j := 0) (oDec_at oX10_survey 14 rfl) rfl rfl ?_
        obtain ⟨v1, ev1⟩ : ∃ z : Int32, (t).1 43 0 = z := ⟨_, rfl⟩
        have gv1 : (t.1 43 0).toInt = v1.toInt := congrArg Int32.toInt (ev1)
        refine r_geti (k := 0) (lo := 0) (hi := 24) C v1 oCl10 rfl (by decide) flX10_9 rfl rfl (ev1) rfl rfl (oDec_at oX10_survey 15 rfl) (fun b2 b2h => ?_)
        refine r_icmp_gt C 147 (oDec_at oX10_survey 16 rfl) (by decide) (fun cd3 => ?_) (fun cd3 => ?_)
        · skip
          refine r_aload_n C (j := 0) (oDec_at oX10_survey 70 rfl) rfl rfl ?_
          obtain ⟨v4, ev4⟩ : ∃ z : Int32, (t).1 43 4 = z := ⟨_, rfl⟩
          have gv4 : (t.1 43 4).toInt = v4.toInt := congrArg Int32.toInt (ev4)
          refine r_geti (k := 4) (lo := 0) (hi := 4500) C v4 oCl10 rfl (by decide) flX10_50 rfl rfl (ev4) rfl rfl (oDec_at oX10_survey 71 rfl) (fun b5 b5h => ?_)
          exact r_iret C (oDec_at oX10_survey 72 rfl) ⟨_, rfl, ⟨iv2, iv4⟩⟩
        · skip
          refine r_aload_n C (j := 0) (oDec_at oX10_survey 17 rfl) rfl rfl ?_
          refine r_getF (k := 9) (b := 48) C oCl10 rfl (by decide) flX10_31 rfl rfl rfl (oDec_at oX10_survey 18 rfl) ?_
          refine r_iconst C (oDec_at oX10_survey 19 rfl) (v := k0) (by rw [qk0]; rfl) ?_
          refine r_callSv C miJ7_fill_53178 mlX10_53 (ct9_J7_fill l E (t) 48 36 180 rfl (by decide) (by decide) rfl rfl k0 (fun _ => n_rng _) (by omega)) (by decide) rfl rfl rfl (Nat.le_of_ble_eq_true rfl) (oDec_at oX10_survey 20 rfl) (fun u6 pu6 fu6 => ?_)
          try dsimp only at pu6
          refine r_iconst C (oDec_at oX10_survey 21 rfl) (v := k0) (by rw [qk0]; rfl) ?_
          refine r_istore C (lv' := [(0, .ref (oad E 43)), (1, .ref (oad E c1)), (2, .ref (oad E c2)), (3, .ref (oad E 31)), (4, .ref (oad E 35)), (5, .int x5), (6, .int k0)]) [1, 2, 3, 4, 5, 6, 0] (oDec_at oX10_survey 22 rfl) (by decide) rfl ?_
          exact (ih (n - 1) (by omega)).2.1 (u6) x5 k0  (by omega) (by omega) (owBC_fr fu6 rfl iv1) (owKV_fr fu6 rfl iv2) (owLN_fr fu6 rfl iv3) (owDN_fr fu6 rfl iv4) (by omega)
      · intro t x5 x6  iv0 iv1 iv2 iv3 iv4 iv5 hmu
        have rx5 := n_rng x5
        have rx6 := n_rng x6
        refine r_iload C (j := 6) (oDec_at oX10_survey 23 rfl) rfl ?_
        refine r_bipush C (oDec_at oX10_survey 24 rfl) (v := k12) (by rw [qk12]; rfl) ?_
        refine r_icmp_ge C 135 (oDec_at oX10_survey 25 rfl) (by decide) (fun cd8 => ?_) (fun cd8 => ?_)
        · skip
          refine r_aload_n C (j := 0) (oDec_at oX10_survey 65 rfl) rfl rfl ?_
          refine r_iload C (j := 5) (oDec_at oX10_survey 66 rfl) rfl ?_
          refine r_callVv C oCl10 rfl miX10_gather mlX10_86 (ct_X10_gather l E (t) x5 (by omega)) (by decide) rfl rfl rfl (Nat.le_of_ble_eq_true rfl) (oDec_at oX10_survey 67 rfl) (fun u9 pu9 fu9 => ?_)
          try dsimp only at pu9
          obtain ⟨v11, ev11⟩ : ∃ z : Int32, x5 + Int32.ofInt 1 = z := ⟨_, rfl⟩
          have hv11 : v11.toInt = x5.toInt + 1 := n_inc ev11 (by decide) (by omega) (by omega)
          refine r_iinc C (j := 5) (lv' := [(0, .ref (oad E 43)), (1, .ref (oad E c1)), (2, .ref (oad E c2)), (3, .ref (oad E 31)), (4, .ref (oad E 35)), (5, .int v11), (6, .int x6)]) v11 [1, 2, 3, 4, 5, 0, 6] (oDec_at oX10_survey 68 rfl) rfl ev11 (by decide) rfl ?_
          refine r_goto C (tgt := 24) (oDec_at oX10_survey 69 rfl) (by decide) ?_
          refine r_pick C [0, 1, 2, 3, 4, 5] rfl ?_
          exact (ih (n - 1) (by omega)).1 (u9) v11  (by omega) (owBC_fr fu9 rfl iv2) (owKV_fr fu9 rfl iv3) (owLN_fr fu9 rfl iv4) (owDN_fr fu9 rfl iv5) (by omega)
        · skip
          refine r_iload C (j := 5) (oDec_at oX10_survey 26 rfl) rfl ?_
          refine r_iconst C (oDec_at oX10_survey 27 rfl) (v := k0) (by rw [qk0]; rfl) ?_
          refine r_iload C (j := 6) (oDec_at oX10_survey 28 rfl) rfl ?_
          refine r_callSNi C miX11_codeOf mlX10_59 (ct_X11_codeOf l E (t) x5 k0 x6 (by omega) (by omega) (by omega)) (by decide) rfl rfl rfl (Nat.le_of_ble_eq_true rfl) (oDec_at oX10_survey 29 rfl) (fun r13 u12 pu12 fu12 => ?_)
          try dsimp only at pu12
          have hxu12 := oFr_nil fu12; subst hxu12
          have rr13 := n_rng r13
          refine r_istore C (lv' := [(0, .ref (oad E 43)), (1, .ref (oad E c1)), (2, .ref (oad E c2)), (3, .ref (oad E 31)), (4, .ref (oad E 35)), (5, .int x5), (6, .int x6), (7, .int r13)]) [1, 2, 3, 4, 5, 6, 7, 0] (oDec_at oX10_survey 30 rfl) (by decide) rfl ?_
          refine r_aload_n C (j := 0) (oDec_at oX10_survey 31 rfl) rfl rfl ?_
          refine r_pc C 62 rfl ?_
          refine r_iload C (j := 6) (oDec_at oX10_survey 32 rfl) rfl ?_
          refine r_callVi C oCl10 rfl miX10_allows mlX10_63 (ct_X10_allows l E (t) x6 ) (by decide) rfl rfl rfl (Nat.le_of_ble_eq_true rfl) (oDec_at oX10_survey 33 rfl) (fun r15 u14 pu14 fu14 => ?_)
          try dsimp only at pu14
          have hxu14 := oFr_nil fu14; subst hxu14
          have rr15 := n_rng r15
          refine r_if_eq C 129 (oDec_at oX10_survey 34 rfl) (by decide) (fun cd16 => ?_) (fun cd16 => ?_)
          · skip
            obtain ⟨v17, ev17⟩ : ∃ z : Int32, x6 + Int32.ofInt 1 = z := ⟨_, rfl⟩
            have hv17 : v17.toInt = x6.toInt + 1 := n_inc ev17 (by decide) (by omega) (by omega)
            refine r_iinc C (j := 6) (lv' := [(0, .ref (oad E 43)), (1, .ref (oad E c1)), (2, .ref (oad E c2)), (3, .ref (oad E 31)), (4, .ref (oad E 35)), (5, .int x5), (6, .int v17), (7, .int r13)]) v17 [1, 2, 3, 4, 5, 6, 0, 7] (oDec_at oX10_survey 63 rfl) rfl ev17 (by decide) rfl ?_
            refine r_goto C (tgt := 44) (oDec_at oX10_survey 64 rfl) (by decide) ?_
            refine r_pick C [0, 1, 2, 3, 4, 5, 6] rfl ?_
            exact (ih (n - 1) (by omega)).2.1 (t) x5 v17  (by omega) (by omega) iv2 iv3 iv4 iv5 (by omega)
          · skip
            refine r_aload_n C (j := 1) (oDec_at oX10_survey 35 rfl) rfl rfl ?_
            refine r_iload C (j := 7) (oDec_at oX10_survey 36 rfl) rfl ?_
            refine r_callSNi C miX11_canBe mlX10_67 (ct_X11_canBe l E (t) c1 hk1 r13 ) (by decide) rfl rfl rfl (Nat.le_of_ble_eq_true rfl) (oDec_at oX10_survey 37 rfl) (fun r19 u18 pu18 fu18 => ?_)
            try dsimp only at pu18
            have hxu18 := oFr_nil fu18; subst hxu18
            have rr19 := n_rng r19
            refine r_if_ne C 82 (oDec_at oX10_survey 38 rfl) (by decide) (fun cd20 => ?_) (fun cd20 => ?_)
            · skip
              refine r_aload C (j := 4) (oDec_at oX10_survey 40 rfl) rfl ?_
              refine r_aload_n C (j := 1) (oDec_at oX10_survey 41 rfl) rfl rfl ?_
              refine r_aload_n C (j := 2) (oDec_at oX10_survey 42 rfl) rfl rfl ?_
              obtain ⟨v21, ev21⟩ : ∃ z : Int32, (t).1 c2 6 = z := ⟨_, rfl⟩
              have gv21 : (t.1 c2 6).toInt = v21.toInt := congrArg Int32.toInt (ev21)
              refine r_getiN (k := 6) (lo := 2) (hi := 12) C v21 oCl0 hk2 (by decide) flX10_71 rfl rfl (ev21) rfl rfl (oDec_at oX10_survey 43 rfl) (fun b22 b22h => ?_)
              refine r_bipush C (oDec_at oX10_survey 44 rfl) (v := k84) (by rw [qk84]; rfl) ?_
              refine r_iload C (j := 7) (oDec_at oX10_survey 45 rfl) rfl ?_
              refine r_pc C 93 rfl ?_
              refine r_callVv C oCl1 rfl miX1_hear mlX10_76 (ct9_X1_hear l E (t) c1 hk1 v21 k84 r13 iv4 iv5 (by omega) (by omega) (by omega)) (by decide) rfl rfl rfl (Nat.le_of_ble_eq_true rfl) (oDec_at oX10_survey 46 rfl) (fun u23 pu23 fu23 => ?_)
              try dsimp only at pu23
              refine r_aload_n C (j := 0) (oDec_at oX10_survey 47 rfl) rfl rfl ?_
              obtain ⟨v25, ev25⟩ : ∃ z : Int32, (u23).1 43 1 = z := ⟨_, rfl⟩
              have gv25 : (t.1 43 1).toInt = v25.toInt := congrArg Int32.toInt (((fu23 43 1 rfl).1).symm.trans ev25)
              have ggv25 : ((u23).1 43 1).toInt = v25.toInt := congrArg Int32.toInt ev25
              refine r_geti (k := 1) (lo := 0) (hi := 7) C v25 oCl10 rfl (by decide) flX10_15 rfl rfl (ev25) rfl rfl (oDec_at oX10_survey 48 rfl) (fun b26 b26h => ?_)
              obtain ⟨v27, ev27⟩ : ∃ z : Int32, z = -v25 := ⟨_, rfl⟩
              have hv27 : v27.toInt = -v25.toInt := n_neg ev27 (by omega)
              refine r_ineg C v27 (oDec_at oX10_survey 49 rfl) ev27 ?_
              refine r_istore C (lv' := [(0, .ref (oad E 43)), (1, .ref (oad E c1)), (2, .ref (oad E c2)), (3, .ref (oad E 31)), (4, .ref (oad E 35)), (5, .int x5), (6, .int x6), (7, .int r13), (8, .int v27)]) [1, 2, 3, 4, 5, 6, 7, 8, 0] (oDec_at oX10_survey 50 rfl) (by decide) rfl ?_
              exact (ih (n - 1) (by omega)).2.2 (u23) x5 x6 r13 v27  (by omega) (by omega) (by omega) (owBC_fr fu23 rfl iv2) (owKV_fr fu23 rfl iv3) (owLN_fr fu23 rfl iv4) pu23 (by omega)
            · skip
              refine r_goto C (tgt := 129) (oDec_at oX10_survey 39 rfl) (by decide) ?_
              obtain ⟨v28, ev28⟩ : ∃ z : Int32, x6 + Int32.ofInt 1 = z := ⟨_, rfl⟩
              have hv28 : v28.toInt = x6.toInt + 1 := n_inc ev28 (by decide) (by omega) (by omega)
              refine r_iinc C (j := 6) (lv' := [(0, .ref (oad E 43)), (1, .ref (oad E c1)), (2, .ref (oad E c2)), (3, .ref (oad E 31)), (4, .ref (oad E 35)), (5, .int x5), (6, .int v28), (7, .int r13)]) v28 [1, 2, 3, 4, 5, 6, 0, 7] (oDec_at oX10_survey 63 rfl) rfl ev28 (by decide) rfl ?_
              refine r_goto C (tgt := 44) (oDec_at oX10_survey 64 rfl) (by decide) ?_
              refine r_pick C [0, 1, 2, 3, 4, 5, 6] rfl ?_
              exact (ih (n - 1) (by omega)).2.1 (t) x5 v28  (by omega) (by omega) iv2 iv3 iv4 iv5 (by omega)
      · intro t x5 x6 x7 x8  iv0 iv1 iv2 iv3 iv4 iv5 iv6 hmu
        have rx5 := n_rng x5
        have rx6 := n_rng x6
        have rx7 := n_rng x7
        have rx8 := n_rng x8
        refine r_iload C (j := 8) (oDec_at oX10_survey 51 rfl) rfl ?_
        refine r_aload_n C (j := 0) (oDec_at oX10_survey 52 rfl) rfl rfl ?_
        obtain ⟨v29, ev29⟩ : ∃ z : Int32, (t).1 43 1 = z := ⟨_, rfl⟩
        have gv29 : (t.1 43 1).toInt = v29.toInt := congrArg Int32.toInt (ev29)
        refine r_geti (k := 1) (lo := 0) (hi := 7) C v29 oCl10 rfl (by decide) flX10_15 rfl rfl (ev29) rfl rfl (oDec_at oX10_survey 53 rfl) (fun b30 b30h => ?_)
        refine r_icmp_gt C 129 (oDec_at oX10_survey 54 rfl) (by decide) (fun cd31 => ?_) (fun cd31 => ?_)
        · skip
          obtain ⟨v32, ev32⟩ : ∃ z : Int32, x6 + Int32.ofInt 1 = z := ⟨_, rfl⟩
          have hv32 : v32.toInt = x6.toInt + 1 := n_inc ev32 (by decide) (by omega) (by omega)
          refine r_iinc C (j := 6) (lv' := [(0, .ref (oad E 43)), (1, .ref (oad E c1)), (2, .ref (oad E c2)), (3, .ref (oad E 31)), (4, .ref (oad E 35)), (5, .int x5), (6, .int v32), (7, .int x7), (8, .int x8)]) v32 [1, 2, 3, 4, 5, 6, 0, 7, 8] (oDec_at oX10_survey 63 rfl) rfl ev32 (by decide) rfl ?_
          refine r_goto C (tgt := 44) (oDec_at oX10_survey 64 rfl) (by decide) ?_
          refine r_pick C [0, 1, 2, 3, 4, 5, 6] rfl ?_
          exact (ih (n - 1) (by omega)).2.1 (t) x5 v32  (by omega) (by omega) iv3 iv4 iv5 iv6 (by omega)
        · skip
          refine r_aload_n C (j := 0) (oDec_at oX10_survey 55 rfl) rfl rfl ?_
          refine r_aload_n C (j := 3) (oDec_at oX10_survey 56 rfl) rfl rfl ?_
          refine r_aload C (j := 4) (oDec_at oX10_survey 57 rfl) rfl ?_
          refine r_iload C (j := 7) (oDec_at oX10_survey 58 rfl) rfl ?_
          refine r_iload C (j := 8) (oDec_at oX10_survey 59 rfl) rfl ?_
          refine r_callVv C oCl10 rfl miX10_tryOne mlX10_82 (ct9_X10_tryOne l E (t) x7 x8 (b) (R) (W) iv3 iv4 iv5 iv6 (by omega)) (by decide) rfl rfl rfl (Nat.le_of_ble_eq_true rfl) (oDec_at oX10_survey 60 rfl) (fun u33 pu33 fu33 => ?_)
          try dsimp only at pu33
          refine r_pc C 123 rfl ?_
          obtain ⟨v35, ev35⟩ : ∃ z : Int32, x8 + Int32.ofInt 1 = z := ⟨_, rfl⟩
          have hv35 : v35.toInt = x8.toInt + 1 := n_inc ev35 (by decide) (by omega) (by omega)
          refine r_iinc C (j := 8) (lv' := [(0, .ref (oad E 43)), (1, .ref (oad E c1)), (2, .ref (oad E c2)), (3, .ref (oad E 31)), (4, .ref (oad E 35)), (5, .int x5), (6, .int x6), (7, .int x7), (8, .int v35)]) v35 [1, 2, 3, 4, 5, 6, 7, 8, 0] (oDec_at oX10_survey 61 rfl) rfl ev35 (by decide) rfl ?_
          refine r_goto C (tgt := 103) (oDec_at oX10_survey 62 rfl) (by decide) ?_
          exact (ih (n - 1) (by omega)).2.2 (u33) x5 x6 x7 v35  (by omega) (by omega) (by omega) (owBC_fr fu33 rfl iv3) pu33 (owLN_fr fu33 rfl iv5) (owDN_fr fu33 rfl iv6) (by omega)
  refine r_aload_n C (j := 0) (oDec_at oX10_survey 0 rfl) rfl rfl ?_
  refine r_iconst C (oDec_at oX10_survey 1 rfl) (v := k0) (by rw [qk0]; rfl) ?_
  refine r_puti (k := 4) (lo := 0) (hi := 4500) C oCl10 rfl (by decide) flX10_50 rfl rfl rfl rfl rfl rfl rfl rfl ⟨by omega, by omega⟩ (oDec_at oX10_survey 2 rfl) ?_
  refine r_aload_n C (j := 0) (oDec_at oX10_survey 3 rfl) rfl rfl ?_
  refine r_getF (k := 7) (b := 46) C oCl10 rfl (by decide) flX10_25 rfl rfl rfl (oDec_at oX10_survey 4 rfl) ?_
  refine r_iconst C (oDec_at oX10_survey 5 rfl) (v := k0) (by rw [qk0]; rfl) ?_
  refine r_pc C 10 rfl ?_
  refine r_callSv C miJ7_fill_53178 mlX10_53 (ct9_J7_fill l E ((pI s 43 4 k0)) 46 34 12 rfl (by decide) (by decide) rfl rfl k0 (fun _ => n_rng _) (by omega)) (by decide) rfl rfl rfl (Nat.le_of_ble_eq_true rfl) (oDec_at oX10_survey 6 rfl) (fun u36 pu36 fu36 => ?_)
  try dsimp only at pu36
  refine r_aload_n C (j := 0) (oDec_at oX10_survey 7 rfl) rfl rfl ?_
  refine r_getF (k := 8) (b := 47) C oCl10 rfl (by decide) flX10_28 rfl rfl rfl (oDec_at oX10_survey 8 rfl) ?_
  refine r_iconst C (oDec_at oX10_survey 9 rfl) (v := k0) (by rw [qk0]; rfl) ?_
  refine r_callSv C miJ7_fill_53178 mlX10_53 (ct9_J7_fill l E (u36) 47 35 12 rfl (by decide) (by decide) rfl rfl k0 (fun _ => n_rng _) (by omega)) (by decide) rfl rfl rfl (Nat.le_of_ble_eq_true rfl) (oDec_at oX10_survey 10 rfl) (fun u38 pu38 fu38 => ?_)
  try dsimp only at pu38
  refine r_iconst C (oDec_at oX10_survey 11 rfl) (v := k0) (by rw [qk0]; rfl) ?_
  refine r_pc C 22 rfl ?_
  refine r_istore C (lv' := [(0, .ref (oad E 43)), (1, .ref (oad E c1)), (2, .ref (oad E c2)), (3, .ref (oad E 31)), (4, .ref (oad E 35)), (5, .int k0)]) [1, 2, 3, 4, 5, 0] (oDec_at oX10_survey 12 rfl) (by decide) rfl ?_
  exact (key (1000 * (26 - k0.toInt)).toNat).1 (u38) k0  (by omega) (owBC_fr fu38 rfl (owBC_fr fu36 rfl (owBC_fr (oFr_oneI (q := 10) (m := 4) rfl (by rfl)) rfl hp0))) (owKV_fr fu38 rfl (owKV_fr fu36 rfl (owKV_fr (oFr_oneI (q := 10) (m := 4) rfl (by rfl)) rfl hp1))) (owLN_fr fu38 rfl (owLN_fr fu36 rfl (owLN_fr (oFr_oneI (q := 10) (m := 4) rfl (by rfl)) rfl hp2))) (owDN_fr fu38 rfl (owDN_fr fu36 rfl (owDN_fr (oFr_oneI (q := 10) (m := 4) rfl (by rfl)) rfl hp3))) (by omega)
set_option maxHeartbeats 4000000 in
set_option maxRecDepth 100000 in
theorem ct9_X7_build (l : Launch) (E : oE) (s : oS) (c1 : Nat) (hk1 : okd c1 = 4) (c2 : Nat) (hk2 : okd c2 = 0) (b : Nat) (R : Int) (W : Nat → List Int) (hp0 : owBC b R W s) (hp1 : owKV R W s) (hp2 : owLN s) (hp3 : owDN s) : oMet l 6 yX7_build cX7_build 9 none [(1, 6), (1, 7), (1, 8), (7, 4), (7, 5), (9, 0), (9, 1), (9, 2), (9, 3), (9, 4), (24, 9999), (25, 9999), (26, 9999), (27, 9999), (28, 9999), (29, 9999), (30, 9999), (31, 9999), (39, 9999), (40, 9999), (41, 9999)] E s [.ref (oad E 52), .ref (oad E c1), .ref (oad E c2), .ref (oad E 43), .ref (oad E 31), .ref (oad E 35)] (oPv (fun u => (owKV R W u) ∧ (owDN u))) := by
  refine oMet.of (lv := [(0, .ref (oad E 52)), (1, .ref (oad E c1)), (2, .ref (oad E c2)), (3, .ref (oad E 43)), (4, .ref (oad E 31)), (5, .ref (oad E 35))]) (by decide +kernel) (Nat.le_of_ble_eq_true rfl) rfl (fun J C hT => ?_)
  have C : oC l 6 cX7_build RX7 9 none [(1, 6), (1, 7), (1, 8), (7, 4), (7, 5), (9, 0), (9, 1), (9, 2), (9, 3), (9, 4), (24, 9999), (25, 9999), (26, 9999), (27, 9999), (28, 9999), (29, 9999), (30, 9999), (31, 9999), (39, 9999), (40, 9999), (41, 9999)] E s (oPv (fun u => (owKV R W u) ∧ (owDN u))) J := C
  obtain ⟨km1, qkm1⟩ : ∃ z : Int32, z = (-1) := ⟨_, rfl⟩
  have ekm1 : km1.toInt = (-1) := by rw [qkm1]; rfl
  obtain ⟨k0, qk0⟩ : ∃ z : Int32, z = 0 := ⟨_, rfl⟩
  have ek0 : k0.toInt = 0 := by rw [qk0]; rfl
  obtain ⟨k1, qk1⟩ : ∃ z : Int32, z = 1 := ⟨_, rfl⟩
  have ek1 : k1.toInt = 1 := by rw [qk1]; rfl
  obtain ⟨k40, qk40⟩ : ∃ z : Int32, z = 40 := ⟨_, rfl⟩
  have ek40 : k40.toInt = 40 := by rw [qk40]; rfl
  obtain ⟨j0, qj0⟩ : ∃ z : Int64, z = 0 := ⟨_, rfl⟩
  have ej0 : j0.toInt = 0 := by rw [qj0]; rfl
  obtain ⟨j1, qj1⟩ : ∃ z : Int64, z = 1 := ⟨_, rfl⟩
  have ej1 : j1.toInt = 1 := by rw [qj1]; rfl
  have key : ∀ n : Nat, (∀ (t : oS) (x6 : Int32) (x7 : Int32), (0 ≤ x6.toInt ∧ x6.toInt ≤ 40) → (0 ≤ x7.toInt ∧ x7.toInt ≤ x6.toInt) → (owBC b R W t) → (owKV R W t) → (owLN t) → (owDN t) → 1000000 + 1000 * (41 - x7.toInt) ≤ (n : Int) → J t 24 [(0, .ref (oad E 52)), (1, .ref (oad E c1)), (2, .ref (oad E c2)), (3, .ref (oad E 43)), (4, .ref (oad E 31)), (5, .ref (oad E 35)), (6, .int x6), (7, .int x7)] []) ∧ (∀ (t : oS) (x6 : Int32) (x7 : Int32) (x8 : Int32), (0 ≤ x6.toInt ∧ x6.toInt ≤ 40) → (0 ≤ x7.toInt ∧ x7.toInt < x6.toInt) → (0 ≤ x8.toInt ∧ x8.toInt ≤ x6.toInt) → (owBC b R W t) → (owKV R W t) → (owLN t) → (owDN t) → 1000000 + 1000 * (41 - x7.toInt) - 10 - x8.toInt ≤ (n : Int) → J t 45 [(0, .ref (oad E 52)), (1, .ref (oad E c1)), (2, .ref (oad E c2)), (3, .ref (oad E 43)), (4, .ref (oad E 31)), (5, .ref (oad E 35)), (6, .int x6), (7, .int x7), (8, .int x8)] []) ∧ (∀ (t : oS) (x6 : Int32) (x7 : Int32), (0 ≤ x6.toInt ∧ x6.toInt ≤ 40) → (0 ≤ x7.toInt ∧ x7.toInt ≤ x6.toInt) → (owBC b R W t) → (owKV R W t) → (owLN t) → (owDN t) → 1000 * (41 - x7.toInt) ≤ (n : Int) → J t 115 [(0, .ref (oad E 52)), (6, .int x6), (7, .int x7)] []) ∧ (∀ (t : oS) (x6 : Int32) (x7 : Int32) (x8 : Int32), (0 ≤ x6.toInt ∧ x6.toInt ≤ 40) → (0 ≤ x7.toInt ∧ x7.toInt < x6.toInt) → (0 ≤ x8.toInt ∧ x8.toInt ≤ x6.toInt) → (owBC b R W t) → (owKV R W t) → (owLN t) → (owDN t) → 1000 * (41 - x7.toInt) - 10 - x8.toInt ≤ (n : Int) → J t 128 [(0, .ref (oad E 52)), (6, .int x6), (7, .int x7), (8, .int x8)] []) := by
    intro n
    induction n using Nat.strongRecOn with
    | _ n ih =>
      refine ⟨?_, ?_, ?_, ?_⟩
      · intro t x6 x7  iv0 iv1 iv2 iv3 iv4 iv5 hmu
        have rx6 := n_rng x6
        have rx7 := n_rng x7
        refine r_iload C (j := 7) (oDec_at oX7_build 13 rfl) rfl ?_
        refine r_iload C (j := 6) (oDec_at oX7_build 14 rfl) rfl ?_
        refine r_icmp_ge C 112 (oDec_at oX7_build 15 rfl) (by decide) (fun cd1 => ?_) (fun cd1 => ?_)
        · skip
          refine r_iconst C (oDec_at oX7_build 59 rfl) (v := k0) (by rw [qk0]; rfl) ?_
          refine r_istore C (lv' := [(0, .ref (oad E 52)), (1, .ref (oad E c1)), (2, .ref (oad E c2)), (3, .ref (oad E 43)), (4, .ref (oad E 31)), (5, .ref (oad E 35)), (6, .int x6), (7, .int k0)]) [1, 2, 3, 4, 5, 6, 7, 0] (oDec_at oX7_build 60 rfl) (by decide) rfl ?_
          refine r_pick C [0, 6, 7] rfl ?_
          exact (ih (n - 1) (by omega)).2.2.1 (t) x6 k0  (by omega) (by omega) iv2 iv3 iv4 iv5 (by omega)
        · skip
          refine r_aload_n C (j := 0) (oDec_at oX7_build 16 rfl) rfl rfl ?_
          refine r_getF (k := 1) (b := 53) C oCl7 rfl (by decide) flX7_11 rfl rfl rfl (oDec_at oX7_build 17 rfl) ?_
          refine r_iload C (j := 7) (oDec_at oX7_build 18 rfl) rfl ?_
          refine r_lconst C (oDec_at oX7_build 19 rfl) (v := j0) (by rw [qj0]; rfl) ?_
          refine r_last (n := 40) C rfl (by decide) rfl rfl ⟨by omega, by omega⟩ (by decide) rfl (oDec_at oX7_build 20 rfl) ?_
          refine r_iload C (j := 7) (oDec_at oX7_build 21 rfl) rfl ?_
          refine r_pc C 41 rfl ?_
          refine r_iconst C (oDec_at oX7_build 22 rfl) (v := k1) (by rw [qk1]; rfl) ?_
          obtain ⟨v2, ev2⟩ : ∃ z : Int32, z = x7 + k1 := ⟨_, rfl⟩
          have hv2 : v2.toInt = x7.toInt + k1.toInt := n_add ev2 (by omega) (by omega)
          refine r_iadd C v2 (oDec_at oX7_build 23 rfl) ev2 ?_
          refine r_istore C (lv' := [(0, .ref (oad E 52)), (1, .ref (oad E c1)), (2, .ref (oad E c2)), (3, .ref (oad E 43)), (4, .ref (oad E 31)), (5, .ref (oad E 35)), (6, .int x6), (7, .int x7), (8, .int v2)]) [1, 2, 3, 4, 5, 6, 7, 8, 0] (oDec_at oX7_build 24 rfl) (by decide) rfl ?_
          exact (ih (n - 1) (by omega)).2.1 ((pL t 53 x7.toNatClampNeg j0)) x6 x7 v2  (by omega) (by omega) (by omega) (owBC_fr (oFr_oneL (q := 39) (m := 9999) rfl (by rfl)) rfl iv2) (owKV_fr (oFr_oneL (q := 39) (m := 9999) rfl (by rfl)) rfl iv3) (owLN_fr (oFr_oneL (q := 39) (m := 9999) rfl (by rfl)) rfl iv4) (owDN_fr (oFr_oneL (q := 39) (m := 9999) rfl (by rfl)) rfl iv5) (by omega)
      · intro t x6 x7 x8  iv0 iv1 iv2 iv3 iv4 iv5 iv6 hmu
        have rx6 := n_rng x6
        have rx7 := n_rng x7
        have rx8 := n_rng x8
        refine r_iload C (j := 8) (oDec_at oX7_build 25 rfl) rfl ?_
        refine r_iload C (j := 6) (oDec_at oX7_build 26 rfl) rfl ?_
        refine r_icmp_ge C 106 (oDec_at oX7_build 27 rfl) (by decide) (fun cd3 => ?_) (fun cd3 => ?_)
        · skip
          obtain ⟨v4, ev4⟩ : ∃ z : Int32, x7 + Int32.ofInt 1 = z := ⟨_, rfl⟩
          have hv4 : v4.toInt = x7.toInt + 1 := n_inc ev4 (by decide) (by omega) (by omega)
          refine r_iinc C (j := 7) (lv' := [(0, .ref (oad E 52)), (1, .ref (oad E c1)), (2, .ref (oad E c2)), (3, .ref (oad E 43)), (4, .ref (oad E 31)), (5, .ref (oad E 35)), (6, .int x6), (7, .int v4), (8, .int x8)]) v4 [1, 2, 3, 4, 5, 6, 7, 0, 8] (oDec_at oX7_build 57 rfl) rfl ev4 (by decide) rfl ?_
          refine r_goto C (tgt := 24) (oDec_at oX7_build 58 rfl) (by decide) ?_
          refine r_pick C [0, 1, 2, 3, 4, 5, 6, 7] rfl ?_
          exact (ih (n - 1) (by omega)).1 (t) x6 v4  (by omega) (by omega) iv3 iv4 iv5 iv6 (by omega)
        · skip
          refine r_aload C (j := 5) (oDec_at oX7_build 28 rfl) rfl ?_
          refine r_aload_n C (j := 1) (oDec_at oX7_build 29 rfl) rfl rfl ?_
          refine r_aload_n C (j := 2) (oDec_at oX7_build 30 rfl) rfl rfl ?_
          obtain ⟨v5, ev5⟩ : ∃ z : Int32, (t).1 c2 6 = z := ⟨_, rfl⟩
          have gv5 : (t.1 c2 6).toInt = v5.toInt := congrArg Int32.toInt (ev5)
          refine r_getiN (k := 6) (lo := 2) (hi := 12) C v5 oCl0 hk2 (by decide) flX7_40 rfl rfl (ev5) rfl rfl (oDec_at oX7_build 31 rfl) (fun b6 b6h => ?_)
          refine r_aload_n C (j := 3) (oDec_at oX7_build 32 rfl) rfl rfl ?_
          refine r_iload C (j := 7) (oDec_at oX7_build 33 rfl) rfl ?_
          refine r_pc C 62 rfl ?_
          refine r_callVi C oCl10 rfl miX10_codeOf mlX7_45 (ct_X10_codeOf l E (t) x7 ) (by decide) rfl rfl rfl (Nat.le_of_ble_eq_true rfl) (oDec_at oX7_build 34 rfl) (fun r8 u7 pu7 fu7 => ?_)
          try dsimp only at pu7
          have hxu7 := oFr_nil fu7; subst hxu7
          have rr8 := n_rng r8
          refine r_aload_n C (j := 3) (oDec_at oX7_build 35 rfl) rfl rfl ?_
          refine r_iload C (j := 8) (oDec_at oX7_build 36 rfl) rfl ?_
          refine r_callVi C oCl10 rfl miX10_codeOf mlX7_45 (ct_X10_codeOf l E (t) x8 ) (by decide) rfl rfl rfl (Nat.le_of_ble_eq_true rfl) (oDec_at oX7_build 37 rfl) (fun r10 u9 pu9 fu9 => ?_)
          try dsimp only at pu9
          have hxu9 := oFr_nil fu9; subst hxu9
          have rr10 := n_rng r10
          refine r_callVv C oCl1 rfl miX1_hear mlX7_49 (ct9_X1_hear l E (t) c1 hk1 v5 r8 r10 iv5 iv6 (by omega) (by omega) (by omega)) (by decide) rfl rfl rfl (Nat.le_of_ble_eq_true rfl) (oDec_at oX7_build 38 rfl) (fun u11 pu11 fu11 => ?_)
          try dsimp only at pu11
          refine r_aload C (j := 4) (oDec_at oX7_build 39 rfl) rfl ?_
          refine r_pc C 76 rfl ?_
          refine r_aload C (j := 5) (oDec_at oX7_build 40 rfl) rfl ?_
          refine r_iconst C (oDec_at oX7_build 41 rfl) (v := k0) (by rw [qk0]; rfl) ?_
          refine r_callVi C oCl2 rfl miX2_nextBroken mlX7_55 (ct9_X2_nextBroken l E (u11) k0 (b) (R) (W) (owBC_fr fu11 rfl iv3) (owKV_fr fu11 rfl iv4) pu11) (by decide) rfl rfl rfl (Nat.le_of_ble_eq_true rfl) (oDec_at oX7_build 42 rfl) (fun r14 u13 pu13 fu13 => ?_)
          try dsimp only at pu13
          obtain ⟨pu13_0, pu13_1⟩ := pu13
          have rr14 := n_rng r14
          refine r_iconst C (oDec_at oX7_build 43 rfl) (v := km1) (by rw [qkm1]; rfl) ?_
          refine r_icmp_ne C 100 (oDec_at oX7_build 44 rfl) (by decide) (fun cd15 => ?_) (fun cd15 => ?_)
          · skip
            obtain ⟨v16, ev16⟩ : ∃ z : Int32, x8 + Int32.ofInt 1 = z := ⟨_, rfl⟩
            have hv16 : v16.toInt = x8.toInt + 1 := n_inc ev16 (by decide) (by omega) (by omega)
            refine r_iinc C (j := 8) (lv' := [(0, .ref (oad E 52)), (1, .ref (oad E c1)), (2, .ref (oad E c2)), (3, .ref (oad E 43)), (4, .ref (oad E 31)), (5, .ref (oad E 35)), (6, .int x6), (7, .int x7), (8, .int v16)]) v16 [1, 2, 3, 4, 5, 6, 7, 8, 0] (oDec_at oX7_build 55 rfl) rfl ev16 (by decide) rfl ?_
            refine r_goto C (tgt := 45) (oDec_at oX7_build 56 rfl) (by decide) ?_
            exact (ih (n - 1) (by omega)).2.1 (u13) x6 x7 v16  (by omega) (by omega) (by omega) (owBC_fr fu13 rfl (owBC_fr fu11 rfl iv3)) pu13_0 (owLN_fr fu13 rfl (owLN_fr fu11 rfl iv5)) (owDN_fr fu13 rfl pu11) (by omega)
          · skip
            refine r_aload_n C (j := 0) (oDec_at oX7_build 45 rfl) rfl rfl ?_
            refine r_getF (k := 1) (b := 53) C oCl7 rfl (by decide) flX7_11 rfl rfl rfl (oDec_at oX7_build 46 rfl) ?_
            refine r_iload C (j := 7) (oDec_at oX7_build 47 rfl) rfl ?_
            refine r_dup2 C (oDec_at oX7_build 48 rfl) rfl rfl ?_
            obtain ⟨v17, ev17⟩ : ∃ z : Int64, (u13).2.1 53 x7.toNatClampNeg = z := ⟨_, rfl⟩
            refine r_lald (n := 40) C v17 rfl (by decide) rfl rfl ⟨by omega, by omega⟩ (by decide) ev17 (oDec_at oX7_build 49 rfl) ?_
            refine r_lconst C (oDec_at oX7_build 50 rfl) (v := j1) (by rw [qj1]; rfl) ?_
            refine r_pc C 95 rfl ?_
            refine r_iload C (j := 8) (oDec_at oX7_build 51 rfl) rfl ?_
            obtain ⟨v18, ev18⟩ : ∃ z : Int64, j1 <<< (x8.toInt64 &&& 63) = z := ⟨_, rfl⟩
            refine r_lshl C v18 (oDec_at oX7_build 52 rfl) ev18 ?_
            obtain ⟨v19, ev19⟩ : ∃ z : Int64, z = v17 ||| v18 := ⟨_, rfl⟩
            refine r_lor C v19 (oDec_at oX7_build 53 rfl) ev19 ?_
            refine r_last (n := 40) C rfl (by decide) rfl rfl ⟨by omega, by omega⟩ (by decide) rfl (oDec_at oX7_build 54 rfl) ?_
            obtain ⟨v20, ev20⟩ : ∃ z : Int32, x8 + Int32.ofInt 1 = z := ⟨_, rfl⟩
            have hv20 : v20.toInt = x8.toInt + 1 := n_inc ev20 (by decide) (by omega) (by omega)
            refine r_iinc C (j := 8) (lv' := [(0, .ref (oad E 52)), (1, .ref (oad E c1)), (2, .ref (oad E c2)), (3, .ref (oad E 43)), (4, .ref (oad E 31)), (5, .ref (oad E 35)), (6, .int x6), (7, .int x7), (8, .int v20)]) v20 [1, 2, 3, 4, 5, 6, 7, 8, 0] (oDec_at oX7_build 55 rfl) rfl ev20 (by decide) rfl ?_
            refine r_goto C (tgt := 45) (oDec_at oX7_build 56 rfl) (by decide) ?_
            exact (ih (n - 1) (by omega)).2.1 ((pL u13 53 x7.toNatClampNeg v19)) x6 x7 v20  (by omega) (by omega) (by omega) (owBC_fr (oFr_oneL (q := 39) (m := 9999) rfl (by rfl)) rfl (owBC_fr fu13 rfl (owBC_fr fu11 rfl iv3))) (owKV_fr (oFr_oneL (q := 39) (m := 9999) rfl (by rfl)) rfl pu13_0) (owLN_fr (oFr_oneL (q := 39) (m := 9999) rfl (by rfl)) rfl (owLN_fr fu13 rfl (owLN_fr fu11 rfl iv5))) (owDN_fr (oFr_oneL (q := 39) (m := 9999) rfl (by rfl)) rfl (owDN_fr fu13 rfl pu11)) (by omega)
      · intro t x6 x7  iv0 iv1 iv2 iv3 iv4 iv5 hmu
        have rx6 := n_rng x6
        have rx7 := n_rng x7
        refine r_iload C (j := 2) (oDec_at oX7_build 61 rfl) rfl ?_
        refine r_iload C (j := 1) (oDec_at oX7_build 62 rfl) rfl ?_
        refine r_icmp_ge C 174 (oDec_at oX7_build 63 rfl) (by decide) (fun cd21 => ?_) (fun cd21 => ?_)
        · skip
          exact r_vret C (oDec_at oX7_build 91 rfl) ⟨rfl, ⟨iv3, iv5⟩⟩
        · skip
          refine r_iload C (j := 2) (oDec_at oX7_build 64 rfl) rfl ?_
          refine r_iconst C (oDec_at oX7_build 65 rfl) (v := k1) (by rw [qk1]; rfl) ?_
          obtain ⟨v22, ev22⟩ : ∃ z : Int32, z = x7 + k1 := ⟨_, rfl⟩
          have hv22 : v22.toInt = x7.toInt + k1.toInt := n_add ev22 (by omega) (by omega)
          refine r_iadd C v22 (oDec_at oX7_build 66 rfl) ev22 ?_
          refine r_istore C (lv' := [(0, .ref (oad E 52)), (6, .int x6), (7, .int x7), (8, .int v22)]) [1, 2, 3, 0] (oDec_at oX7_build 67 rfl) (by decide) rfl ?_
          exact (ih (n - 1) (by omega)).2.2.2 (t) x6 x7 v22  (by omega) (by omega) (by omega) iv2 iv3 iv4 iv5 (by omega)
      · intro t x6 x7 x8  iv0 iv1 iv2 iv3 iv4 iv5 iv6 hmu
        have rx6 := n_rng x6
        have rx7 := n_rng x7
        have rx8 := n_rng x8
        refine r_iload C (j := 3) (oDec_at oX7_build 68 rfl) rfl ?_
        refine r_iload C (j := 1) (oDec_at oX7_build 69 rfl) rfl ?_
        refine r_icmp_ge C 168 (oDec_at oX7_build 70 rfl) (by decide) (fun cd23 => ?_) (fun cd23 => ?_)
        · skip
          obtain ⟨v24, ev24⟩ : ∃ z : Int32, x7 + Int32.ofInt 1 = z := ⟨_, rfl⟩
          have hv24 : v24.toInt = x7.toInt + 1 := n_inc ev24 (by decide) (by omega) (by omega)
          refine r_iinc C (j := 2) (lv' := [(0, .ref (oad E 52)), (6, .int x6), (7, .int v24), (8, .int x8)]) v24 [1, 2, 0, 3] (oDec_at oX7_build 89 rfl) rfl ev24 (by decide) rfl ?_
          refine r_goto C (tgt := 115) (oDec_at oX7_build 90 rfl) (by decide) ?_
          refine r_pick C [0, 1, 2] rfl ?_
          exact (ih (n - 1) (by omega)).2.2.1 (t) x6 v24  (by omega) (by omega) iv3 iv4 iv5 iv6 (by omega)
        · skip
          refine r_aload_n C (j := 0) (oDec_at oX7_build 71 rfl) rfl rfl ?_
          refine r_getF (k := 1) (b := 53) C oCl7 rfl (by decide) flX7_11 rfl rfl rfl (oDec_at oX7_build 72 rfl) ?_
          refine r_iload C (j := 2) (oDec_at oX7_build 73 rfl) rfl ?_
          obtain ⟨v25, ev25⟩ : ∃ z : Int64, (t).2.1 53 x7.toNatClampNeg = z := ⟨_, rfl⟩
          refine r_lald (n := 40) C v25 rfl (by decide) rfl rfl ⟨by omega, by omega⟩ (by decide) ev25 (oDec_at oX7_build 74 rfl) ?_
          refine r_iload C (j := 3) (oDec_at oX7_build 75 rfl) rfl ?_
          obtain ⟨v26, ev26⟩ : ∃ z : Int64, v25 >>> (x8.toInt64 &&& 63) = z := ⟨_, rfl⟩
          refine r_lshr C v26 (oDec_at oX7_build 76 rfl) ev26 ?_
          refine r_pc C 145 rfl ?_
          refine r_lconst C (oDec_at oX7_build 77 rfl) (v := j1) (by rw [qj1]; rfl) ?_
          obtain ⟨v27, ev27⟩ : ∃ z : Int64, z = v26 &&& j1 := ⟨_, rfl⟩
          refine r_land C v27 (oDec_at oX7_build 78 rfl) ev27 ?_
          refine r_lconst C (oDec_at oX7_build 79 rfl) (v := j1) (by rw [qj1]; rfl) ?_
          obtain ⟨v28, ev28⟩ : ∃ z : Int32, z = lg_cmp v27 j1 := ⟨_, rfl⟩
          have hv28 := n_lcmp ev28
          refine r_lcmp C v28 (oDec_at oX7_build 80 rfl) ev28 ?_
          refine r_if_ne C 162 (oDec_at oX7_build 81 rfl) (by decide) (fun cd29 => ?_) (fun cd29 => ?_)
          · skip
            obtain ⟨v30, ev30⟩ : ∃ z : Int32, x8 + Int32.ofInt 1 = z := ⟨_, rfl⟩
            have hv30 : v30.toInt = x8.toInt + 1 := n_inc ev30 (by decide) (by omega) (by omega)
            refine r_iinc C (j := 3) (lv' := [(0, .ref (oad E 52)), (6, .int x6), (7, .int x7), (8, .int v30)]) v30 [1, 2, 3, 0] (oDec_at oX7_build 87 rfl) rfl ev30 (by decide) rfl ?_
            refine r_goto C (tgt := 128) (oDec_at oX7_build 88 rfl) (by decide) ?_
            exact (ih (n - 1) (by omega)).2.2.2 (t) x6 x7 v30  (by omega) (by omega) (by omega) iv3 iv4 iv5 iv6 (by omega)
          · skip
            refine r_aload_n C (j := 0) (oDec_at oX7_build 82 rfl) rfl rfl ?_
            refine r_iload C (j := 2) (oDec_at oX7_build 83 rfl) rfl ?_
            refine r_iload C (j := 3) (oDec_at oX7_build 84 rfl) rfl ?_
            refine r_iload C (j := 1) (oDec_at oX7_build 85 rfl) rfl ?_
            refine r_callVv C oCl7 rfl miX7_addPair mlX7_61 (ct_X7_addPair l E (t) x7 x8 x6 (by omega) (by omega) (by omega)) (by decide) rfl rfl rfl (Nat.le_of_ble_eq_true rfl) (oDec_at oX7_build 86 rfl) (fun u31 pu31 fu31 => ?_)
            try dsimp only at pu31
            obtain ⟨v33, ev33⟩ : ∃ z : Int32, x8 + Int32.ofInt 1 = z := ⟨_, rfl⟩
            have hv33 : v33.toInt = x8.toInt + 1 := n_inc ev33 (by decide) (by omega) (by omega)
            refine r_iinc C (j := 3) (lv' := [(0, .ref (oad E 52)), (6, .int x6), (7, .int x7), (8, .int v33)]) v33 [1, 2, 3, 0] (oDec_at oX7_build 87 rfl) rfl ev33 (by decide) rfl ?_
            refine r_pc C 165 rfl ?_
            refine r_goto C (tgt := 128) (oDec_at oX7_build 88 rfl) (by decide) ?_
            exact (ih (n - 1) (by omega)).2.2.2 (u31) x6 x7 v33  (by omega) (by omega) (by omega) (owBC_fr fu31 rfl iv3) (owKV_fr fu31 rfl iv4) (owLN_fr fu31 rfl iv5) (owDN_fr fu31 rfl iv6) (by omega)
  refine r_aload_n C (j := 3) (oDec_at oX7_build 0 rfl) rfl rfl ?_
  obtain ⟨v34, ev34⟩ : ∃ z : Int32, (s).1 43 4 = z := ⟨_, rfl⟩
  have gv34 : (s.1 43 4).toInt = v34.toInt := congrArg Int32.toInt (ev34)
  refine r_getiN (k := 4) (lo := 0) (hi := 4500) C v34 oCl10 rfl (by decide) flX7_22 rfl rfl (ev34) rfl rfl (oDec_at oX7_build 1 rfl) (fun b35 b35h => ?_)
  refine r_bipush C (oDec_at oX7_build 2 rfl) (v := k40) (by rw [qk40]; rfl) ?_
  refine r_callSi C miJ9_min_7cf53 mlX7_28 (ct_J9_min_7cf53 l E (s) v34 k40 ) (by decide) rfl rfl rfl (Nat.le_of_ble_eq_true rfl) (oDec_at oX7_build 3 rfl) (fun r37 u36 pu36 fu36 => ?_)
  try dsimp only at pu36
  have hxu36 := oFr_nil fu36; subst hxu36
  have rr37 := n_rng r37
  refine r_istore C (lv' := [(0, .ref (oad E 52)), (1, .ref (oad E c1)), (2, .ref (oad E c2)), (3, .ref (oad E 43)), (4, .ref (oad E 31)), (5, .ref (oad E 35)), (6, .int r37)]) [1, 2, 3, 4, 5, 6, 0] (oDec_at oX7_build 4 rfl) (by decide) rfl ?_
  refine r_aload_n C (j := 0) (oDec_at oX7_build 5 rfl) rfl rfl ?_
  refine r_pc C 12 rfl ?_
  refine r_iconst C (oDec_at oX7_build 6 rfl) (v := k0) (by rw [qk0]; rfl) ?_
  refine r_puti (k := 4) (lo := 0) (hi := 780) C oCl7 rfl (by decide) flX7_34 rfl rfl rfl rfl rfl rfl rfl rfl ⟨by omega, by omega⟩ (oDec_at oX7_build 7 rfl) ?_
  refine r_aload_n C (j := 0) (oDec_at oX7_build 8 rfl) rfl rfl ?_
  refine r_iconst C (oDec_at oX7_build 9 rfl) (v := k0) (by rw [qk0]; rfl) ?_
  refine r_puti (k := 5) (lo := 0) (hi := 9880) C oCl7 rfl (by decide) flX7_37 rfl rfl rfl rfl rfl rfl rfl rfl ⟨by omega, by omega⟩ (oDec_at oX7_build 10 rfl) ?_
  refine r_iconst C (oDec_at oX7_build 11 rfl) (v := k0) (by rw [qk0]; rfl) ?_
  refine r_pc C 22 rfl ?_
  refine r_istore C (lv' := [(0, .ref (oad E 52)), (1, .ref (oad E c1)), (2, .ref (oad E c2)), (3, .ref (oad E 43)), (4, .ref (oad E 31)), (5, .ref (oad E 35)), (6, .int r37), (7, .int k0)]) [1, 2, 3, 4, 5, 6, 7, 0] (oDec_at oX7_build 12 rfl) (by decide) rfl ?_
  exact (key (1000000 + 1000 * (41 - k0.toInt)).toNat).1 ((pI (pI s 52 4 k0) 52 5 k0)) r37 k0  (by omega) (by omega) (owBC_fr (oFr_oneI (q := 7) (m := 5) rfl (by rfl)) rfl (owBC_fr (oFr_oneI (q := 7) (m := 4) rfl (by rfl)) rfl hp0)) (owKV_fr (oFr_oneI (q := 7) (m := 5) rfl (by rfl)) rfl (owKV_fr (oFr_oneI (q := 7) (m := 4) rfl (by rfl)) rfl hp1)) (owLN_fr (oFr_oneI (q := 7) (m := 5) rfl (by rfl)) rfl (owLN_fr (oFr_oneI (q := 7) (m := 4) rfl (by rfl)) rfl hp2)) (owDN_fr (oFr_oneI (q := 7) (m := 5) rfl (by rfl)) rfl (owDN_fr (oFr_oneI (q := 7) (m := 4) rfl (by rfl)) rfl hp3)) (by omega)
set_option maxHeartbeats 4000000 in
set_option maxRecDepth 100000 in
theorem ct9_X11_prepare (l : Launch) (E : oE) (s : oS) (a1 : Int32) (b : Nat) (R : Int) (W : Nat → List Int) (hp0 : owBC b R W s) (hp1 : owKV R W s) (hp2 : owLN s) (hp3 : owDN s) : oMet l 7 yX11_prepare cX11_prepare 2 none [(1, 6), (1, 7), (1, 8), (7, 0), (7, 4), (7, 5), (9, 0), (9, 1), (9, 2), (9, 3), (9, 4), (10, 3), (10, 4), (24, 9999), (25, 9999), (26, 9999), (27, 9999), (28, 9999), (29, 9999), (30, 9999), (31, 9999), (32, 9999), (33, 9999), (34, 9999), (35, 9999), (36, 9999), (38, 9999), (39, 9999), (40, 9999), (41, 9999)] E s [.ref (oad E 0), .int a1] (oPv (fun u => (owKV R W u) ∧ (owDN u))) := by
  refine oMet.of (lv := [(0, .ref (oad E 0)), (1, .int a1)]) (by decide +kernel) (Nat.le_of_ble_eq_true rfl) rfl (fun J C hT => ?_)
  have C : oC l 7 cX11_prepare RX11 2 none [(1, 6), (1, 7), (1, 8), (7, 0), (7, 4), (7, 5), (9, 0), (9, 1), (9, 2), (9, 3), (9, 4), (10, 3), (10, 4), (24, 9999), (25, 9999), (26, 9999), (27, 9999), (28, 9999), (29, 9999), (30, 9999), (31, 9999), (32, 9999), (33, 9999), (34, 9999), (35, 9999), (36, 9999), (38, 9999), (39, 9999), (40, 9999), (41, 9999)] E s (oPv (fun u => (owKV R W u) ∧ (owDN u))) J := C
  obtain ⟨k1, qk1⟩ : ∃ z : Int32, z = 1 := ⟨_, rfl⟩
  have ek1 : k1.toInt = 1 := by rw [qk1]; rfl
  obtain ⟨k3, qk3⟩ : ∃ z : Int32, z = 3 := ⟨_, rfl⟩
  have ek3 : k3.toInt = 3 := by rw [qk3]; rfl
  obtain ⟨k4, qk4⟩ : ∃ z : Int32, z = 4 := ⟨_, rfl⟩
  have ek4 : k4.toInt = 4 := by rw [qk4]; rfl
  have rg1 := n_rng a1
  refine r_aload_n C (j := 0) (oDec_at oX11_prepare 0 rfl) rfl rfl ?_
  refine r_getF (k := 10) (b := 43) C oCl11 rfl (by decide) flX11_74 rfl rfl rfl (oDec_at oX11_prepare 1 rfl) ?_
  obtain ⟨v1, ev1⟩ : ∃ z : Int32, (s).1 43 3 = z := ⟨_, rfl⟩
  have gv1 : (s.1 43 3).toInt = v1.toInt := congrArg Int32.toInt (ev1)
  refine r_getiN (k := 3) (lo := 0) (hi := 1) C v1 oCl10 rfl (by decide) flX11_365 rfl rfl (ev1) rfl rfl (oDec_at oX11_prepare 2 rfl) (fun b2 b2h => ?_)
  refine r_if_ne C 53 (oDec_at oX11_prepare 3 rfl) (by decide) (fun cd3 => ?_) (fun cd3 => ?_)
  · skip
    refine r_iload_n C (j := 1) (oDec_at oX11_prepare 25 rfl) rfl rfl ?_
    refine r_iconst C (oDec_at oX11_prepare 26 rfl) (v := k3) (by rw [qk3]; rfl) ?_
    refine r_icmp_eq C 63 (oDec_at oX11_prepare 27 rfl) (by decide) (fun cd4 => ?_) (fun cd4 => ?_)
    · skip
      refine r_aload_n C (j := 0) (oDec_at oX11_prepare 31 rfl) rfl rfl ?_
      refine r_getF (k := 11) (b := 52) C oCl11 rfl (by decide) flX11_81 rfl rfl rfl (oDec_at oX11_prepare 32 rfl) ?_
      obtain ⟨v5, ev5⟩ : ∃ z : Int32, (s).1 52 0 = z := ⟨_, rfl⟩
      have gv5 : (s.1 52 0).toInt = v5.toInt := congrArg Int32.toInt (ev5)
      refine r_getiN (k := 0) (lo := 0) (hi := 1) C v5 oCl7 rfl (by decide) flX11_368 rfl rfl (ev5) rfl rfl (oDec_at oX11_prepare 33 rfl) (fun b6 b6h => ?_)
      refine r_if_ne C 108 (oDec_at oX11_prepare 34 rfl) (by decide) (fun cd7 => ?_) (fun cd7 => ?_)
      · skip
        exact r_vret C (oDec_at oX11_prepare 52 rfl) ⟨rfl, ⟨hp1, hp3⟩⟩
      · skip
        refine r_aload_n C (j := 0) (oDec_at oX11_prepare 35 rfl) rfl rfl ?_
        refine r_getF (k := 11) (b := 52) C oCl11 rfl (by decide) flX11_81 rfl rfl rfl (oDec_at oX11_prepare 36 rfl) ?_
        refine r_aload_n C (j := 0) (oDec_at oX11_prepare 37 rfl) rfl rfl ?_
        refine r_getS (k := 1) (q2 := 4) C oCl11 rfl (by decide) flX11_19 rfl rfl rfl ks0 (oDec_at oX11_prepare 38 rfl) (fun b8 rb8 mb8 hkb8 => ?_)
        refine r_aload_n C (j := 0) (oDec_at oX11_prepare 39 rfl) rfl rfl ?_
        refine r_getS (k := 4) (q2 := 0) C oCl11 rfl (by decide) flX11_32 rfl rfl rfl ks1 (oDec_at oX11_prepare 40 rfl) (fun b9 rb9 mb9 hkb9 => ?_)
        refine r_pc C 85 rfl ?_
        refine r_aload_n C (j := 0) (oDec_at oX11_prepare 41 rfl) rfl rfl ?_
        refine r_getF (k := 10) (b := 43) C oCl11 rfl (by decide) flX11_74 rfl rfl rfl (oDec_at oX11_prepare 42 rfl) ?_
        refine r_aload_n C (j := 0) (oDec_at oX11_prepare 43 rfl) rfl rfl ?_
        refine r_getF (k := 7) (b := 31) C oCl11 rfl (by decide) flX11_53 rfl rfl rfl (oDec_at oX11_prepare 44 rfl) ?_
        refine r_aload_n C (j := 0) (oDec_at oX11_prepare 45 rfl) rfl rfl ?_
        refine r_getF (k := 8) (b := 35) C oCl11 rfl (by decide) flX11_60 rfl rfl rfl (oDec_at oX11_prepare 46 rfl) ?_
        refine r_pc C 97 rfl ?_
        refine r_callVv C oCl7 rfl miX7_build mlX11_373 (ct9_X7_build l E (s) b8 hkb8 b9 hkb9 (b) (R) (W) hp0 hp1 hp2 hp3) (by decide) rfl rfl rfl (Nat.le_of_ble_eq_true rfl) (oDec_at oX11_prepare 47 rfl) (fun u10 pu10 fu10 => ?_)
        try dsimp only at pu10
        obtain ⟨pu10_0, pu10_1⟩ := pu10
        refine r_aload_n C (j := 0) (oDec_at oX11_prepare 48 rfl) rfl rfl ?_
        refine r_getF (k := 11) (b := 52) C oCl11 rfl (by decide) flX11_81 rfl rfl rfl (oDec_at oX11_prepare 49 rfl) ?_
        refine r_iconst C (oDec_at oX11_prepare 50 rfl) (v := k1) (by rw [qk1]; rfl) ?_
        refine r_putiN (k := 0) (lo := 0) (hi := 1) C oCl7 rfl (by decide) flX11_368 rfl rfl rfl rfl rfl (n_bool (by omega)) (n_fitz (by omega)) rfl ⟨by omega, by omega⟩ (oDec_at oX11_prepare 51 rfl) ?_
        exact r_vret C (oDec_at oX11_prepare 52 rfl) ⟨rfl, ⟨(owKV_fr (oFr_oneI (q := 7) (m := 0) rfl (by rfl)) rfl pu10_0), (owDN_fr (oFr_oneI (q := 7) (m := 0) rfl (by rfl)) rfl pu10_1)⟩⟩
    · skip
      refine r_iload_n C (j := 1) (oDec_at oX11_prepare 28 rfl) rfl rfl ?_
      refine r_iconst C (oDec_at oX11_prepare 29 rfl) (v := k4) (by rw [qk4]; rfl) ?_
      refine r_icmp_ne C 108 (oDec_at oX11_prepare 30 rfl) (by decide) (fun cd12 => ?_) (fun cd12 => ?_)
      · skip
        exact r_vret C (oDec_at oX11_prepare 52 rfl) ⟨rfl, ⟨hp1, hp3⟩⟩
      · skip
        refine r_aload_n C (j := 0) (oDec_at oX11_prepare 31 rfl) rfl rfl ?_
        refine r_getF (k := 11) (b := 52) C oCl11 rfl (by decide) flX11_81 rfl rfl rfl (oDec_at oX11_prepare 32 rfl) ?_
        obtain ⟨v13, ev13⟩ : ∃ z : Int32, (s).1 52 0 = z := ⟨_, rfl⟩
        have gv13 : (s.1 52 0).toInt = v13.toInt := congrArg Int32.toInt (ev13)
        refine r_getiN (k := 0) (lo := 0) (hi := 1) C v13 oCl7 rfl (by decide) flX11_368 rfl rfl (ev13) rfl rfl (oDec_at oX11_prepare 33 rfl) (fun b14 b14h => ?_)
        refine r_if_ne C 108 (oDec_at oX11_prepare 34 rfl) (by decide) (fun cd15 => ?_) (fun cd15 => ?_)
        · skip
          exact r_vret C (oDec_at oX11_prepare 52 rfl) ⟨rfl, ⟨hp1, hp3⟩⟩
        · skip
          refine r_aload_n C (j := 0) (oDec_at oX11_prepare 35 rfl) rfl rfl ?_
          refine r_getF (k := 11) (b := 52) C oCl11 rfl (by decide) flX11_81 rfl rfl rfl (oDec_at oX11_prepare 36 rfl) ?_
          refine r_aload_n C (j := 0) (oDec_at oX11_prepare 37 rfl) rfl rfl ?_
          refine r_getS (k := 1) (q2 := 4) C oCl11 rfl (by decide) flX11_19 rfl rfl rfl ks0 (oDec_at oX11_prepare 38 rfl) (fun b16 rb16 mb16 hkb16 => ?_)
          refine r_aload_n C (j := 0) (oDec_at oX11_prepare 39 rfl) rfl rfl ?_
          refine r_getS (k := 4) (q2 := 0) C oCl11 rfl (by decide) flX11_32 rfl rfl rfl ks1 (oDec_at oX11_prepare 40 rfl) (fun b17 rb17 mb17 hkb17 => ?_)
          refine r_pc C 85 rfl ?_
          refine r_aload_n C (j := 0) (oDec_at oX11_prepare 41 rfl) rfl rfl ?_
          refine r_getF (k := 10) (b := 43) C oCl11 rfl (by decide) flX11_74 rfl rfl rfl (oDec_at oX11_prepare 42 rfl) ?_
          refine r_aload_n C (j := 0) (oDec_at oX11_prepare 43 rfl) rfl rfl ?_
          refine r_getF (k := 7) (b := 31) C oCl11 rfl (by decide) flX11_53 rfl rfl rfl (oDec_at oX11_prepare 44 rfl) ?_
          refine r_aload_n C (j := 0) (oDec_at oX11_prepare 45 rfl) rfl rfl ?_
          refine r_getF (k := 8) (b := 35) C oCl11 rfl (by decide) flX11_60 rfl rfl rfl (oDec_at oX11_prepare 46 rfl) ?_
          refine r_pc C 97 rfl ?_
          refine r_callVv C oCl7 rfl miX7_build mlX11_373 (ct9_X7_build l E (s) b16 hkb16 b17 hkb17 (b) (R) (W) hp0 hp1 hp2 hp3) (by decide) rfl rfl rfl (Nat.le_of_ble_eq_true rfl) (oDec_at oX11_prepare 47 rfl) (fun u18 pu18 fu18 => ?_)
          try dsimp only at pu18
          obtain ⟨pu18_0, pu18_1⟩ := pu18
          refine r_aload_n C (j := 0) (oDec_at oX11_prepare 48 rfl) rfl rfl ?_
          refine r_getF (k := 11) (b := 52) C oCl11 rfl (by decide) flX11_81 rfl rfl rfl (oDec_at oX11_prepare 49 rfl) ?_
          refine r_iconst C (oDec_at oX11_prepare 50 rfl) (v := k1) (by rw [qk1]; rfl) ?_
          refine r_putiN (k := 0) (lo := 0) (hi := 1) C oCl7 rfl (by decide) flX11_368 rfl rfl rfl rfl rfl (n_bool (by omega)) (n_fitz (by omega)) rfl ⟨by omega, by omega⟩ (oDec_at oX11_prepare 51 rfl) ?_
          exact r_vret C (oDec_at oX11_prepare 52 rfl) ⟨rfl, ⟨(owKV_fr (oFr_oneI (q := 7) (m := 0) rfl (by rfl)) rfl pu18_0), (owDN_fr (oFr_oneI (q := 7) (m := 0) rfl (by rfl)) rfl pu18_1)⟩⟩
  · skip
    refine r_aload_n C (j := 0) (oDec_at oX11_prepare 4 rfl) rfl rfl ?_
    refine r_getF (k := 10) (b := 43) C oCl11 rfl (by decide) flX11_74 rfl rfl rfl (oDec_at oX11_prepare 5 rfl) ?_
    refine r_aload_n C (j := 0) (oDec_at oX11_prepare 6 rfl) rfl rfl ?_
    refine r_getS (k := 1) (q2 := 4) C oCl11 rfl (by decide) flX11_19 rfl rfl rfl ks0 (oDec_at oX11_prepare 7 rfl) (fun b20 rb20 mb20 hkb20 => ?_)
    refine r_aload_n C (j := 0) (oDec_at oX11_prepare 8 rfl) rfl rfl ?_
    refine r_getS (k := 4) (q2 := 0) C oCl11 rfl (by decide) flX11_32 rfl rfl rfl ks1 (oDec_at oX11_prepare 9 rfl) (fun b21 rb21 mb21 hkb21 => ?_)
    refine r_pc C 22 rfl ?_
    refine r_aload_n C (j := 0) (oDec_at oX11_prepare 10 rfl) rfl rfl ?_
    refine r_getF (k := 7) (b := 31) C oCl11 rfl (by decide) flX11_53 rfl rfl rfl (oDec_at oX11_prepare 11 rfl) ?_
    refine r_aload_n C (j := 0) (oDec_at oX11_prepare 12 rfl) rfl rfl ?_
    refine r_getF (k := 8) (b := 35) C oCl11 rfl (by decide) flX11_60 rfl rfl rfl (oDec_at oX11_prepare 13 rfl) ?_
    refine r_callVi C oCl10 rfl miX10_survey mlX11_319 (ct9_X10_survey l E (s) b20 hkb20 b21 hkb21 (b) (R) (W) hp0 hp1 hp2 hp3) (by decide) rfl rfl rfl (Nat.le_of_ble_eq_true rfl) (oDec_at oX11_prepare 14 rfl) (fun r23 u22 pu22 fu22 => ?_)
    try dsimp only at pu22
    obtain ⟨pu22_0, pu22_1⟩ := pu22
    have rr23 := n_rng r23
    refine r_pop C (oDec_at oX11_prepare 15 rfl) rfl ?_
    refine r_pc C 34 rfl ?_
    refine r_aload_n C (j := 0) (oDec_at oX11_prepare 16 rfl) rfl rfl ?_
    refine r_getF (k := 10) (b := 43) C oCl11 rfl (by decide) flX11_74 rfl rfl rfl (oDec_at oX11_prepare 17 rfl) ?_
    refine r_aload_n C (j := 0) (oDec_at oX11_prepare 18 rfl) rfl rfl ?_
    refine r_getK (k := 4) (b := b21) C oCl11 rfl (by decide) flX11_32 rfl rfl (((fu22 0 4 rfl).2.2).trans (rb21)) (oDec_at oX11_prepare 19 rfl) ?_
    refine r_callVv C oCl10 rfl miX10_weigh mlX11_370 (ct_X10_weigh l E (u22) b21 hkb21 ) (by decide) rfl rfl rfl (Nat.le_of_ble_eq_true rfl) (oDec_at oX11_prepare 20 rfl) (fun u25 pu25 fu25 => ?_)
    try dsimp only at pu25
    refine r_aload_n C (j := 0) (oDec_at oX11_prepare 21 rfl) rfl rfl ?_
    refine r_getF (k := 10) (b := 43) C oCl11 rfl (by decide) flX11_74 rfl rfl rfl (oDec_at oX11_prepare 22 rfl) ?_
    refine r_pc C 49 rfl ?_
    refine r_iconst C (oDec_at oX11_prepare 23 rfl) (v := k1) (by rw [qk1]; rfl) ?_
    refine r_putiN (k := 3) (lo := 0) (hi := 1) C oCl10 rfl (by decide) flX11_365 rfl rfl rfl rfl rfl (n_bool (by omega)) (n_fitz (by omega)) rfl ⟨by omega, by omega⟩ (oDec_at oX11_prepare 24 rfl) ?_
    refine r_iload_n C (j := 1) (oDec_at oX11_prepare 25 rfl) rfl rfl ?_
    refine r_iconst C (oDec_at oX11_prepare 26 rfl) (v := k3) (by rw [qk3]; rfl) ?_
    refine r_icmp_eq C 63 (oDec_at oX11_prepare 27 rfl) (by decide) (fun cd27 => ?_) (fun cd27 => ?_)
    · skip
      refine r_aload_n C (j := 0) (oDec_at oX11_prepare 31 rfl) rfl rfl ?_
      refine r_getF (k := 11) (b := 52) C oCl11 rfl (by decide) flX11_81 rfl rfl rfl (oDec_at oX11_prepare 32 rfl) ?_
      obtain ⟨v28, ev28⟩ : ∃ z : Int32, ((pI u25 43 3 k1)).1 52 0 = z := ⟨_, rfl⟩
      have gv28 : (s.1 52 0).toInt = v28.toInt := congrArg Int32.toInt ((((pI_ne (a := 52) (b := 0) (c := 43) _ _ (Or.inl (by decide)))).trans (((fu25 52 0 rfl).1).trans ((fu22 52 0 rfl).1))).symm.trans ev28)
      have ggv28 : (((pI u25 43 3 k1)).1 52 0).toInt = v28.toInt := congrArg Int32.toInt ev28
      refine r_getiN (k := 0) (lo := 0) (hi := 1) C v28 oCl7 rfl (by decide) flX11_368 rfl rfl (ev28) rfl rfl (oDec_at oX11_prepare 33 rfl) (fun b29 b29h => ?_)
      refine r_if_ne C 108 (oDec_at oX11_prepare 34 rfl) (by decide) (fun cd30 => ?_) (fun cd30 => ?_)
      · skip
        exact r_vret C (oDec_at oX11_prepare 52 rfl) ⟨rfl, ⟨(owKV_fr (oFr_oneI (q := 10) (m := 3) rfl (by rfl)) rfl (owKV_fr fu25 rfl pu22_0)), (owDN_fr (oFr_oneI (q := 10) (m := 3) rfl (by rfl)) rfl (owDN_fr fu25 rfl pu22_1))⟩⟩
      · skip
        refine r_aload_n C (j := 0) (oDec_at oX11_prepare 35 rfl) rfl rfl ?_
        refine r_getF (k := 11) (b := 52) C oCl11 rfl (by decide) flX11_81 rfl rfl rfl (oDec_at oX11_prepare 36 rfl) ?_
        refine r_aload_n C (j := 0) (oDec_at oX11_prepare 37 rfl) rfl rfl ?_
        refine r_getK (k := 1) (b := b20) C oCl11 rfl (by decide) flX11_19 rfl rfl ((show ((pI u25 43 3 k1)).2.2 0 1 = b20 + 1 from ((fu25 0 1 rfl).2.2).trans (((fu22 0 1 rfl).2.2).trans (rb20)))) (oDec_at oX11_prepare 38 rfl) ?_
        refine r_aload_n C (j := 0) (oDec_at oX11_prepare 39 rfl) rfl rfl ?_
        refine r_getK (k := 4) (b := b21) C oCl11 rfl (by decide) flX11_32 rfl rfl ((show ((pI u25 43 3 k1)).2.2 0 4 = b21 + 1 from ((fu25 0 4 rfl).2.2).trans (((fu22 0 4 rfl).2.2).trans (rb21)))) (oDec_at oX11_prepare 40 rfl) ?_
        refine r_aload_n C (j := 0) (oDec_at oX11_prepare 41 rfl) rfl rfl ?_
        refine r_getF (k := 10) (b := 43) C oCl11 rfl (by decide) flX11_74 rfl rfl rfl (oDec_at oX11_prepare 42 rfl) ?_
        refine r_pc C 89 rfl ?_
        refine r_aload_n C (j := 0) (oDec_at oX11_prepare 43 rfl) rfl rfl ?_
        refine r_getF (k := 7) (b := 31) C oCl11 rfl (by decide) flX11_53 rfl rfl rfl (oDec_at oX11_prepare 44 rfl) ?_
        refine r_aload_n C (j := 0) (oDec_at oX11_prepare 45 rfl) rfl rfl ?_
        refine r_getF (k := 8) (b := 35) C oCl11 rfl (by decide) flX11_60 rfl rfl rfl (oDec_at oX11_prepare 46 rfl) ?_
        refine r_callVv C oCl7 rfl miX7_build mlX11_373 (ct9_X7_build l E ((pI u25 43 3 k1)) b20 hkb20 b21 hkb21 (b) (R) (W) (owBC_fr (oFr_oneI (q := 10) (m := 3) rfl (by rfl)) rfl (owBC_fr fu25 rfl (owBC_fr fu22 rfl hp0))) (owKV_fr (oFr_oneI (q := 10) (m := 3) rfl (by rfl)) rfl (owKV_fr fu25 rfl pu22_0)) (owLN_fr (oFr_oneI (q := 10) (m := 3) rfl (by rfl)) rfl (owLN_fr fu25 rfl (owLN_fr fu22 rfl hp2))) (owDN_fr (oFr_oneI (q := 10) (m := 3) rfl (by rfl)) rfl (owDN_fr fu25 rfl pu22_1))) (by decide) rfl rfl rfl (Nat.le_of_ble_eq_true rfl) (oDec_at oX11_prepare 47 rfl) (fun u33 pu33 fu33 => ?_)
        try dsimp only at pu33
        obtain ⟨pu33_0, pu33_1⟩ := pu33
        refine r_aload_n C (j := 0) (oDec_at oX11_prepare 48 rfl) rfl rfl ?_
        refine r_pc C 101 rfl ?_
        refine r_getF (k := 11) (b := 52) C oCl11 rfl (by decide) flX11_81 rfl rfl rfl (oDec_at oX11_prepare 49 rfl) ?_
        refine r_iconst C (oDec_at oX11_prepare 50 rfl) (v := k1) (by rw [qk1]; rfl) ?_
        refine r_putiN (k := 0) (lo := 0) (hi := 1) C oCl7 rfl (by decide) flX11_368 rfl rfl rfl rfl rfl (n_bool (by omega)) (n_fitz (by omega)) rfl ⟨by omega, by omega⟩ (oDec_at oX11_prepare 51 rfl) ?_
        exact r_vret C (oDec_at oX11_prepare 52 rfl) ⟨rfl, ⟨(owKV_fr (oFr_oneI (q := 7) (m := 0) rfl (by rfl)) rfl pu33_0), (owDN_fr (oFr_oneI (q := 7) (m := 0) rfl (by rfl)) rfl pu33_1)⟩⟩
    · skip
      refine r_iload_n C (j := 1) (oDec_at oX11_prepare 28 rfl) rfl rfl ?_
      refine r_iconst C (oDec_at oX11_prepare 29 rfl) (v := k4) (by rw [qk4]; rfl) ?_
      refine r_icmp_ne C 108 (oDec_at oX11_prepare 30 rfl) (by decide) (fun cd35 => ?_) (fun cd35 => ?_)
      · skip
        exact r_vret C (oDec_at oX11_prepare 52 rfl) ⟨rfl, ⟨(owKV_fr (oFr_oneI (q := 10) (m := 3) rfl (by rfl)) rfl (owKV_fr fu25 rfl pu22_0)), (owDN_fr (oFr_oneI (q := 10) (m := 3) rfl (by rfl)) rfl (owDN_fr fu25 rfl pu22_1))⟩⟩
      · skip
        refine r_aload_n C (j := 0) (oDec_at oX11_prepare 31 rfl) rfl rfl ?_
        refine r_getF (k := 11) (b := 52) C oCl11 rfl (by decide) flX11_81 rfl rfl rfl (oDec_at oX11_prepare 32 rfl) ?_
        obtain ⟨v36, ev36⟩ : ∃ z : Int32, ((pI u25 43 3 k1)).1 52 0 = z := ⟨_, rfl⟩
        have gv36 : (s.1 52 0).toInt = v36.toInt := congrArg Int32.toInt ((((pI_ne (a := 52) (b := 0) (c := 43) _ _ (Or.inl (by decide)))).trans (((fu25 52 0 rfl).1).trans ((fu22 52 0 rfl).1))).symm.trans ev36)
        have ggv36 : (((pI u25 43 3 k1)).1 52 0).toInt = v36.toInt := congrArg Int32.toInt ev36
        refine r_getiN (k := 0) (lo := 0) (hi := 1) C v36 oCl7 rfl (by decide) flX11_368 rfl rfl (ev36) rfl rfl (oDec_at oX11_prepare 33 rfl) (fun b37 b37h => ?_)
        refine r_if_ne C 108 (oDec_at oX11_prepare 34 rfl) (by decide) (fun cd38 => ?_) (fun cd38 => ?_)
        · skip
          exact r_vret C (oDec_at oX11_prepare 52 rfl) ⟨rfl, ⟨(owKV_fr (oFr_oneI (q := 10) (m := 3) rfl (by rfl)) rfl (owKV_fr fu25 rfl pu22_0)), (owDN_fr (oFr_oneI (q := 10) (m := 3) rfl (by rfl)) rfl (owDN_fr fu25 rfl pu22_1))⟩⟩
        · skip
          refine r_aload_n C (j := 0) (oDec_at oX11_prepare 35 rfl) rfl rfl ?_
          refine r_getF (k := 11) (b := 52) C oCl11 rfl (by decide) flX11_81 rfl rfl rfl (oDec_at oX11_prepare 36 rfl) ?_
          refine r_aload_n C (j := 0) (oDec_at oX11_prepare 37 rfl) rfl rfl ?_
          refine r_getK (k := 1) (b := b20) C oCl11 rfl (by decide) flX11_19 rfl rfl ((show ((pI u25 43 3 k1)).2.2 0 1 = b20 + 1 from ((fu25 0 1 rfl).2.2).trans (((fu22 0 1 rfl).2.2).trans (rb20)))) (oDec_at oX11_prepare 38 rfl) ?_
          refine r_aload_n C (j := 0) (oDec_at oX11_prepare 39 rfl) rfl rfl ?_
          refine r_getK (k := 4) (b := b21) C oCl11 rfl (by decide) flX11_32 rfl rfl ((show ((pI u25 43 3 k1)).2.2 0 4 = b21 + 1 from ((fu25 0 4 rfl).2.2).trans (((fu22 0 4 rfl).2.2).trans (rb21)))) (oDec_at oX11_prepare 40 rfl) ?_
          refine r_aload_n C (j := 0) (oDec_at oX11_prepare 41 rfl) rfl rfl ?_
          refine r_getF (k := 10) (b := 43) C oCl11 rfl (by decide) flX11_74 rfl rfl rfl (oDec_at oX11_prepare 42 rfl) ?_
          refine r_pc C 89 rfl ?_
          refine r_aload_n C (j := 0) (oDec_at oX11_prepare 43 rfl) rfl rfl ?_
          refine r_getF (k := 7) (b := 31) C oCl11 rfl (by decide) flX11_53 rfl rfl rfl (oDec_at oX11_prepare 44 rfl) ?_
          refine r_aload_n C (j := 0) (oDec_at oX11_prepare 45 rfl) rfl rfl ?_
          refine r_getF (k := 8) (b := 35) C oCl11 rfl (by decide) flX11_60 rfl rfl rfl (oDec_at oX11_prepare 46 rfl) ?_
          refine r_callVv C oCl7 rfl miX7_build mlX11_373 (ct9_X7_build l E ((pI u25 43 3 k1)) b20 hkb20 b21 hkb21 (b) (R) (W) (owBC_fr (oFr_oneI (q := 10) (m := 3) rfl (by rfl)) rfl (owBC_fr fu25 rfl (owBC_fr fu22 rfl hp0))) (owKV_fr (oFr_oneI (q := 10) (m := 3) rfl (by rfl)) rfl (owKV_fr fu25 rfl pu22_0)) (owLN_fr (oFr_oneI (q := 10) (m := 3) rfl (by rfl)) rfl (owLN_fr fu25 rfl (owLN_fr fu22 rfl hp2))) (owDN_fr (oFr_oneI (q := 10) (m := 3) rfl (by rfl)) rfl (owDN_fr fu25 rfl pu22_1))) (by decide) rfl rfl rfl (Nat.le_of_ble_eq_true rfl) (oDec_at oX11_prepare 47 rfl) (fun u41 pu41 fu41 => ?_)
          try dsimp only at pu41
          obtain ⟨pu41_0, pu41_1⟩ := pu41
          refine r_aload_n C (j := 0) (oDec_at oX11_prepare 48 rfl) rfl rfl ?_
          refine r_pc C 101 rfl ?_
          refine r_getF (k := 11) (b := 52) C oCl11 rfl (by decide) flX11_81 rfl rfl rfl (oDec_at oX11_prepare 49 rfl) ?_
          refine r_iconst C (oDec_at oX11_prepare 50 rfl) (v := k1) (by rw [qk1]; rfl) ?_
          refine r_putiN (k := 0) (lo := 0) (hi := 1) C oCl7 rfl (by decide) flX11_368 rfl rfl rfl rfl rfl (n_bool (by omega)) (n_fitz (by omega)) rfl ⟨by omega, by omega⟩ (oDec_at oX11_prepare 51 rfl) ?_
          exact r_vret C (oDec_at oX11_prepare 52 rfl) ⟨rfl, ⟨(owKV_fr (oFr_oneI (q := 7) (m := 0) rfl (by rfl)) rfl pu41_0), (owDN_fr (oFr_oneI (q := 7) (m := 0) rfl (by rfl)) rfl pu41_1)⟩⟩
