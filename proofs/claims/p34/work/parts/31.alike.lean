set_option maxHeartbeats 4000000 in
set_option maxRecDepth 100000 in
theorem ct_X3_search (l : Launch) (E : oE) (s : oS) (c1 : Nat) (hk1 : okd c1 = 4) (a3 : Int32) (a4 : Int32)  : oMet l 5 yX3_search cX3_search 7 (some .int) [(6, 2), (9, 0), (9, 1), (9, 2), (9, 3), (9, 4), (46, 9999), (47, 9999)] E s [.ref (oad E 56), .ref (oad E c1), .ref (oad E 43), .int a3, .int a4] (oPi (fun r u => True)) := by
  refine oMet.of (lv := [(0, .ref (oad E 56)), (1, .ref (oad E c1)), (2, .ref (oad E 43)), (3, .int a3), (4, .int a4)]) (by decide +kernel) (Nat.le_of_ble_eq_true rfl) rfl (fun J C hT => ?_)
  have C : oC l 5 cX3_search RX3 7 (some .int) [(6, 2), (9, 0), (9, 1), (9, 2), (9, 3), (9, 4), (46, 9999), (47, 9999)] E s (oPi (fun r u => True)) J := C
  obtain ⟨km1, qkm1⟩ : ∃ z : Int32, z = (-1) := ⟨_, rfl⟩
  have ekm1 : km1.toInt = (-1) := by rw [qkm1]; rfl
  obtain ⟨k0, qk0⟩ : ∃ z : Int32, z = 0 := ⟨_, rfl⟩
  have ek0 : k0.toInt = 0 := by rw [qk0]; rfl
  obtain ⟨k4500, qk4500⟩ : ∃ z : Int32, z = 4500 := ⟨_, rfl⟩
  have ek4500 : k4500.toInt = 4500 := by rw [qk4500]; rfl
  have rg3 := n_rng a3
  have rg4 := n_rng a4
  have key : ∀ n : Nat, (∀ (t : oS) (x5 : Int32) (x6 : Int32), (0 ≤ x6.toInt ∧ x6.toInt ≤ 4500) → 4501 - x6.toInt ≤ (n : Int) → J t 6 [(0, .ref (oad E 56)), (1, .ref (oad E c1)), (2, .ref (oad E 43)), (4, .int a4), (5, .int x5), (6, .int x6)] []) := by
    intro n
    induction n using Nat.strongRecOn with
    | _ n ih =>
      skip
      · intro t x5 x6  iv0 hmu
        have rx5 := n_rng x5
        have rx6 := n_rng x6
        refine r_iload C (j := 5) (oDec_at oX3_search 4 rfl) rfl ?_
        refine r_sipush C (oDec_at oX3_search 5 rfl) (v := k4500) (by rw [qk4500]; rfl) ?_
        refine r_icmp_ge C 85 (oDec_at oX3_search 6 rfl) (by decide) (fun cd1 => ?_) (fun cd1 => ?_)
        · skip
          refine r_iconst C (oDec_at oX3_search 40 rfl) (v := km1) (by rw [qkm1]; rfl) ?_
          exact r_iret C (oDec_at oX3_search 41 rfl) ⟨_, rfl, trivial⟩
        · skip
          refine r_iload C (j := 4) (oDec_at oX3_search 7 rfl) rfl ?_
          refine r_if_lt C 85 (oDec_at oX3_search 8 rfl) (by decide) (fun cd2 => ?_) (fun cd2 => ?_)
          · skip
            refine r_iconst C (oDec_at oX3_search 40 rfl) (v := km1) (by rw [qkm1]; rfl) ?_
            exact r_iret C (oDec_at oX3_search 41 rfl) ⟨_, rfl, trivial⟩
          · skip
            refine r_iload C (j := 4) (oDec_at oX3_search 9 rfl) rfl ?_
            refine r_sipush C (oDec_at oX3_search 10 rfl) (v := k4500) (by rw [qk4500]; rfl) ?_
            refine r_icmp_ge C 85 (oDec_at oX3_search 11 rfl) (by decide) (fun cd3 => ?_) (fun cd3 => ?_)
            · skip
              refine r_iconst C (oDec_at oX3_search 40 rfl) (v := km1) (by rw [qkm1]; rfl) ?_
              exact r_iret C (oDec_at oX3_search 41 rfl) ⟨_, rfl, trivial⟩
            · skip
              refine r_aload_n C (j := 0) (oDec_at oX3_search 12 rfl) rfl rfl ?_
              refine r_getF (k := 4) (b := 58) C oCl3 rfl (by decide) flX3_15 rfl rfl rfl (oDec_at oX3_search 13 rfl) ?_
              refine r_iload C (j := 4) (oDec_at oX3_search 14 rfl) rfl ?_
              obtain ⟨v4, ev4⟩ : ∃ z : Int32, (t).1 58 x5.toNatClampNeg = z := ⟨_, rfl⟩
              have rv4 := n_rng v4
              refine r_iald (n := 4500) (lo := (-2147483648)) (hi := 2147483647) C v4 rfl (by decide) rfl rfl ⟨by omega, by omega⟩ (by decide) ev4 rfl rfl (oDec_at oX3_search 15 rfl) (fun _ _ => ?_)
              refine r_iload C (j := 3) (oDec_at oX3_search 16 rfl) rfl ?_
              refine r_icmp_ne C 70 (oDec_at oX3_search 17 rfl) (by decide) (fun cd6 => ?_) (fun cd6 => ?_)
              · skip
                refine r_aload_n C (j := 0) (oDec_at oX3_search 33 rfl) rfl rfl ?_
                refine r_getF (k := 6) (b := 60) C oCl3 rfl (by decide) flX3_21 rfl rfl rfl (oDec_at oX3_search 34 rfl) ?_
                refine r_iload C (j := 4) (oDec_at oX3_search 35 rfl) rfl ?_
                obtain ⟨v7, ev7⟩ : ∃ z : Int32, (t).1 60 x5.toNatClampNeg = z := ⟨_, rfl⟩
                have rv7 := n_rng v7
                refine r_iald (n := 4500) (lo := (-2147483648)) (hi := 2147483647) C v7 rfl (by decide) rfl rfl ⟨by omega, by omega⟩ (by decide) ev7 rfl rfl (oDec_at oX3_search 36 rfl) (fun _ _ => ?_)
                refine r_istore C (lv' := [(0, .ref (oad E 56)), (1, .ref (oad E c1)), (2, .ref (oad E 43)), (4, .int a4), (5, .int v7), (6, .int x6)]) [1, 2, 3, 4, 0, 5] (oDec_at oX3_search 37 rfl) (by decide) rfl ?_
                obtain ⟨v9, ev9⟩ : ∃ z : Int32, x6 + Int32.ofInt 1 = z := ⟨_, rfl⟩
                have hv9 : v9.toInt = x6.toInt + 1 := n_inc ev9 (by decide) (by omega) (by omega)
                refine r_iinc C (j := 5) (lv' := [(0, .ref (oad E 56)), (1, .ref (oad E c1)), (2, .ref (oad E 43)), (4, .int a4), (5, .int v7), (6, .int v9)]) v9 [1, 2, 3, 4, 5, 0] (oDec_at oX3_search 38 rfl) rfl ev9 (by decide) rfl ?_
                refine r_pc C 82 rfl ?_
                refine r_goto C (tgt := 6) (oDec_at oX3_search 39 rfl) (by decide) ?_
                exact (ih (n - 1) (by omega)) (t) v7 v9  (by omega) (by omega)
              · skip
                refine r_aload_n C (j := 0) (oDec_at oX3_search 18 rfl) rfl rfl ?_
                refine r_getF (k := 8) (b := 65) C oCl3 rfl (by decide) flX3_31 rfl rfl rfl (oDec_at oX3_search 19 rfl) ?_
                refine r_aload_n C (j := 1) (oDec_at oX3_search 20 rfl) rfl rfl ?_
                refine r_aload_n C (j := 2) (oDec_at oX3_search 21 rfl) rfl rfl ?_
                refine r_iload C (j := 4) (oDec_at oX3_search 22 rfl) rfl ?_
                refine r_callVi C oCl10 rfl miX10_codeOf mlX3_50 (ct_X10_codeOf l E (t) x5 ) (by decide) rfl rfl rfl (Nat.le_of_ble_eq_true rfl) (oDec_at oX3_search 23 rfl) (fun r11 u10 pu10 fu10 => ?_)
                try dsimp only at pu10
                have rr11 := n_rng r11
                refine r_pc C 50 rfl ?_
                refine r_callVv C oCl6 rfl miX6_write mlX3_54 (ct_X6_write l E (u10) 65 rfl c1 hk1 r11 ) (by decide) rfl rfl rfl (Nat.le_of_ble_eq_true rfl) (oDec_at oX3_search 24 rfl) (fun u12 pu12 fu12 => ?_)
                try dsimp only at pu12
                refine r_aload_n C (j := 0) (oDec_at oX3_search 25 rfl) rfl rfl ?_
                refine r_getF (k := 7) (b := 61) C oCl3 rfl (by decide) flX3_27 rfl rfl rfl (oDec_at oX3_search 26 rfl) ?_
                refine r_aload_n C (j := 0) (oDec_at oX3_search 27 rfl) rfl rfl ?_
                refine r_getF (k := 8) (b := 65) C oCl3 rfl (by decide) flX3_31 rfl rfl rfl (oDec_at oX3_search 28 rfl) ?_
                refine r_callVi C oCl6 rfl miX6_isSame mlX3_66 (ct_X6_isSame l E (u12) 61 rfl 65 rfl ) (by decide) rfl rfl rfl (Nat.le_of_ble_eq_true rfl) (oDec_at oX3_search 29 rfl) (fun r15 u14 pu14 fu14 => ?_)
                try dsimp only at pu14
                have rr15 := n_rng r15
                refine r_pc C 64 rfl ?_
                refine r_if_eq C 70 (oDec_at oX3_search 30 rfl) (by decide) (fun cd16 => ?_) (fun cd16 => ?_)
                · skip
                  refine r_aload_n C (j := 0) (oDec_at oX3_search 33 rfl) rfl rfl ?_
                  refine r_getF (k := 6) (b := 60) C oCl3 rfl (by decide) flX3_21 rfl rfl rfl (oDec_at oX3_search 34 rfl) ?_
                  refine r_iload C (j := 4) (oDec_at oX3_search 35 rfl) rfl ?_
                  obtain ⟨v17, ev17⟩ : ∃ z : Int32, (u14).1 60 x5.toNatClampNeg = z := ⟨_, rfl⟩
                  have rv17 := n_rng v17
                  refine r_iald (n := 4500) (lo := (-2147483648)) (hi := 2147483647) C v17 rfl (by decide) rfl rfl ⟨by omega, by omega⟩ (by decide) ev17 rfl rfl (oDec_at oX3_search 36 rfl) (fun _ _ => ?_)
                  refine r_istore C (lv' := [(0, .ref (oad E 56)), (1, .ref (oad E c1)), (2, .ref (oad E 43)), (4, .int a4), (5, .int v17), (6, .int x6)]) [1, 2, 3, 4, 0, 5] (oDec_at oX3_search 37 rfl) (by decide) rfl ?_
                  obtain ⟨v19, ev19⟩ : ∃ z : Int32, x6 + Int32.ofInt 1 = z := ⟨_, rfl⟩
                  have hv19 : v19.toInt = x6.toInt + 1 := n_inc ev19 (by decide) (by omega) (by omega)
                  refine r_iinc C (j := 5) (lv' := [(0, .ref (oad E 56)), (1, .ref (oad E c1)), (2, .ref (oad E 43)), (4, .int a4), (5, .int v17), (6, .int v19)]) v19 [1, 2, 3, 4, 5, 0] (oDec_at oX3_search 38 rfl) rfl ev19 (by decide) rfl ?_
                  refine r_pc C 82 rfl ?_
                  refine r_goto C (tgt := 6) (oDec_at oX3_search 39 rfl) (by decide) ?_
                  exact (ih (n - 1) (by omega)) (u14) v17 v19  (by omega) (by omega)
                · skip
                  refine r_iload C (j := 4) (oDec_at oX3_search 31 rfl) rfl ?_
                  exact r_iret C (oDec_at oX3_search 32 rfl) ⟨_, rfl, trivial⟩
  refine r_iload_n C (j := 3) (oDec_at oX3_search 0 rfl) rfl rfl ?_
  refine r_istore C (lv' := [(0, .ref (oad E 56)), (1, .ref (oad E c1)), (2, .ref (oad E 43)), (3, .int a3), (4, .int a4), (5, .int a3)]) [1, 2, 3, 4, 5, 0] (oDec_at oX3_search 1 rfl) (by decide) rfl ?_
  refine r_iconst C (oDec_at oX3_search 2 rfl) (v := k0) (by rw [qk0]; rfl) ?_
  refine r_istore C (lv' := [(0, .ref (oad E 56)), (1, .ref (oad E c1)), (2, .ref (oad E 43)), (3, .int a3), (4, .int a4), (5, .int a3), (6, .int k0)]) [1, 2, 3, 4, 5, 6, 0] (oDec_at oX3_search 3 rfl) (by decide) rfl ?_
  refine r_pick C [0, 1, 2, 4, 5, 6] rfl ?_
  exact (key (4501 - k0.toInt).toNat) (s) a3 k0  (by omega) (by omega)
set_option maxHeartbeats 4000000 in
set_option maxRecDepth 100000 in
theorem ct_X3_build (l : Launch) (E : oE) (s : oS) (c1 : Nat) (hk1 : okd c1 = 4)  : oMet l 6 yX3_build cX3_build 5 none [(3, 1), (3, 2), (6, 2), (9, 0), (9, 1), (9, 2), (9, 3), (9, 4), (42, 9999), (43, 9999), (44, 9999), (45, 9999), (46, 9999), (47, 9999)] E s [.ref (oad E 56), .ref (oad E c1), .ref (oad E 43)] (oPv (fun u => True)) := by
  refine oMet.of (lv := [(0, .ref (oad E 56)), (1, .ref (oad E c1)), (2, .ref (oad E 43))]) (by decide +kernel) (Nat.le_of_ble_eq_true rfl) rfl (fun J C hT => ?_)
  have C : oC l 6 cX3_build RX3 5 none [(3, 1), (3, 2), (6, 2), (9, 0), (9, 1), (9, 2), (9, 3), (9, 4), (42, 9999), (43, 9999), (44, 9999), (45, 9999), (46, 9999), (47, 9999)] E s (oPv (fun u => True)) J := C
  obtain ⟨km1, qkm1⟩ : ∃ z : Int32, z = (-1) := ⟨_, rfl⟩
  have ekm1 : km1.toInt = (-1) := by rw [qkm1]; rfl
  obtain ⟨k0, qk0⟩ : ∃ z : Int32, z = 0 := ⟨_, rfl⟩
  have ek0 : k0.toInt = 0 := by rw [qk0]; rfl
  obtain ⟨k1, qk1⟩ : ∃ z : Int32, z = 1 := ⟨_, rfl⟩
  have ek1 : k1.toInt = 1 := by rw [qk1]; rfl
  obtain ⟨k1023, qk1023⟩ : ∃ z : Int32, z = 1023 := ⟨_, rfl⟩
  have ek1023 : k1023.toInt = 1023 := by rw [qk1023]; rfl
  obtain ⟨k4500, qk4500⟩ : ∃ z : Int32, z = 4500 := ⟨_, rfl⟩
  have ek4500 : k4500.toInt = 4500 := by rw [qk4500]; rfl
  have key : ∀ n : Nat, (∀ (t : oS) (x3 : Int32), (0 ≤ x3.toInt ∧ x3.toInt ≤ 4500) → 4501 - x3.toInt ≤ (n : Int) → J t 23 [(0, .ref (oad E 56)), (1, .ref (oad E c1)), (2, .ref (oad E 43)), (3, .int x3)] []) := by
    intro n
    induction n using Nat.strongRecOn with
    | _ n ih =>
      skip
      · intro t x3  iv0 hmu
        have rx3 := n_rng x3
        refine r_iload_n C (j := 3) (oDec_at oX3_build 13 rfl) rfl rfl ?_
        refine r_aload_n C (j := 0) (oDec_at oX3_build 14 rfl) rfl rfl ?_
        obtain ⟨v1, ev1⟩ : ∃ z : Int32, (t).1 56 2 = z := ⟨_, rfl⟩
        have gv1 : (t.1 56 2).toInt = v1.toInt := congrArg Int32.toInt (ev1)
        refine r_geti (k := 2) (lo := 0) (hi := 4500) C v1 oCl3 rfl (by decide) flX3_43 rfl rfl (ev1) rfl rfl (oDec_at oX3_build 15 rfl) (fun b2 b2h => ?_)
        refine r_icmp_ge C 155 (oDec_at oX3_build 16 rfl) (by decide) (fun cd3 => ?_) (fun cd3 => ?_)
        · skip
          exact r_vret C (oDec_at oX3_build 89 rfl) ⟨rfl, trivial⟩
        · skip
          refine r_iload_n C (j := 3) (oDec_at oX3_build 17 rfl) rfl rfl ?_
          refine r_sipush C (oDec_at oX3_build 18 rfl) (v := k4500) (by rw [qk4500]; rfl) ?_
          refine r_icmp_ge C 155 (oDec_at oX3_build 19 rfl) (by decide) (fun cd4 => ?_) (fun cd4 => ?_)
          · skip
            exact r_vret C (oDec_at oX3_build 89 rfl) ⟨rfl, trivial⟩
          · skip
            refine r_aload_n C (j := 0) (oDec_at oX3_build 20 rfl) rfl rfl ?_
            refine r_getF (k := 7) (b := 61) C oCl3 rfl (by decide) flX3_27 rfl rfl rfl (oDec_at oX3_build 21 rfl) ?_
            refine r_aload_n C (j := 1) (oDec_at oX3_build 22 rfl) rfl rfl ?_
            refine r_aload_n C (j := 2) (oDec_at oX3_build 23 rfl) rfl rfl ?_
            refine r_iload_n C (j := 3) (oDec_at oX3_build 24 rfl) rfl rfl ?_
            refine r_callVi C oCl10 rfl miX10_codeOf mlX3_50 (ct_X10_codeOf l E (t) x3 ) (by decide) rfl rfl rfl (Nat.le_of_ble_eq_true rfl) (oDec_at oX3_build 25 rfl) (fun r6 u5 pu5 fu5 => ?_)
            try dsimp only at pu5
            have rr6 := n_rng r6
            refine r_pc C 48 rfl ?_
            refine r_callVv C oCl6 rfl miX6_write mlX3_54 (ct_X6_write l E (u5) 61 rfl c1 hk1 r6 ) (by decide) rfl rfl rfl (Nat.le_of_ble_eq_true rfl) (oDec_at oX3_build 26 rfl) (fun u7 pu7 fu7 => ?_)
            try dsimp only at pu7
            refine r_aload_n C (j := 0) (oDec_at oX3_build 27 rfl) rfl rfl ?_
            refine r_getF (k := 4) (b := 58) C oCl3 rfl (by decide) flX3_15 rfl rfl rfl (oDec_at oX3_build 28 rfl) ?_
            refine r_iload_n C (j := 3) (oDec_at oX3_build 29 rfl) rfl rfl ?_
            refine r_aload_n C (j := 0) (oDec_at oX3_build 30 rfl) rfl rfl ?_
            refine r_getF (k := 7) (b := 61) C oCl3 rfl (by decide) flX3_27 rfl rfl rfl (oDec_at oX3_build 31 rfl) ?_
            refine r_pc C 60 rfl ?_
            refine r_callVi C oCl6 rfl miX6_print mlX3_58 (ct_X6_print l E (u7) 61 rfl ) (by decide) rfl rfl rfl (Nat.le_of_ble_eq_true rfl) (oDec_at oX3_build 32 rfl) (fun r10 u9 pu9 fu9 => ?_)
            try dsimp only at pu9
            have rr10 := n_rng r10
            refine r_iast (n := 4500) (lo := (-2147483648)) (hi := 2147483647) C rfl (by decide) rfl rfl ⟨by omega, by omega⟩ (by decide) rfl rfl rfl rfl (n_rng _) (oDec_at oX3_build 33 rfl) ?_
            refine r_aload_n C (j := 0) (oDec_at oX3_build 34 rfl) rfl rfl ?_
            refine r_getF (k := 4) (b := 58) C oCl3 rfl (by decide) flX3_15 rfl rfl rfl (oDec_at oX3_build 35 rfl) ?_
            refine r_iload_n C (j := 3) (oDec_at oX3_build 36 rfl) rfl rfl ?_
            obtain ⟨v11, ev11⟩ : ∃ z : Int32, ((pI u9 58 x3.toNatClampNeg r10)).1 58 x3.toNatClampNeg = z := ⟨_, rfl⟩
            have rv11 := n_rng v11
            refine r_iald (n := 4500) (lo := (-2147483648)) (hi := 2147483647) C v11 rfl (by decide) rfl rfl ⟨by omega, by omega⟩ (by decide) ev11 rfl rfl (oDec_at oX3_build 37 rfl) (fun _ _ => ?_)
            refine r_pc C 70 rfl ?_
            refine r_sipush C (oDec_at oX3_build 38 rfl) (v := k1023) (by rw [qk1023]; rfl) ?_
            obtain ⟨v13, ev13⟩ : ∃ z : Int32, z = v11 &&& k1023 := ⟨_, rfl⟩
            have hv13 := n_and ev13
            have rv13 := n_rng v13
            refine r_iand C v13 (oDec_at oX3_build 39 rfl) ev13 ?_
            refine r_istore C (lv' := [(0, .ref (oad E 56)), (1, .ref (oad E c1)), (2, .ref (oad E 43)), (3, .int x3), (4, .int v13)]) [1, 2, 3, 4, 0] (oDec_at oX3_build 40 rfl) (by decide) rfl ?_
            refine r_aload_n C (j := 0) (oDec_at oX3_build 41 rfl) rfl rfl ?_
            refine r_getF (k := 3) (b := 57) C oCl3 rfl (by decide) flX3_9 rfl rfl rfl (oDec_at oX3_build 42 rfl) ?_
            refine r_iload_n C (j := 3) (oDec_at oX3_build 43 rfl) rfl rfl ?_
            refine r_pc C 81 rfl ?_
            refine r_aload_n C (j := 0) (oDec_at oX3_build 44 rfl) rfl rfl ?_
            refine r_aload_n C (j := 1) (oDec_at oX3_build 45 rfl) rfl rfl ?_
            refine r_aload_n C (j := 2) (oDec_at oX3_build 46 rfl) rfl rfl ?_
            refine r_aload_n C (j := 0) (oDec_at oX3_build 47 rfl) rfl rfl ?_
            refine r_getF (k := 5) (b := 59) C oCl3 rfl (by decide) flX3_18 rfl rfl rfl (oDec_at oX3_build 48 rfl) ?_
            refine r_iload C (j := 4) (oDec_at oX3_build 49 rfl) rfl ?_
            refine r_pc C 90 rfl ?_
            obtain ⟨v14, ev14⟩ : ∃ z : Int32, ((pI u9 58 x3.toNatClampNeg r10)).1 59 v13.toNatClampNeg = z := ⟨_, rfl⟩
            have rv14 := n_rng v14
            refine r_iald (n := 1024) (lo := (-2147483648)) (hi := 2147483647) C v14 rfl (by decide) rfl rfl ⟨by omega, by omega⟩ (by decide) ev14 rfl rfl (oDec_at oX3_build 50 rfl) (fun _ _ => ?_)
            refine r_aload_n C (j := 0) (oDec_at oX3_build 51 rfl) rfl rfl ?_
            refine r_getF (k := 4) (b := 58) C oCl3 rfl (by decide) flX3_15 rfl rfl rfl (oDec_at oX3_build 52 rfl) ?_
            refine r_iload_n C (j := 3) (oDec_at oX3_build 53 rfl) rfl rfl ?_
            obtain ⟨v16, ev16⟩ : ∃ z : Int32, ((pI u9 58 x3.toNatClampNeg r10)).1 58 x3.toNatClampNeg = z := ⟨_, rfl⟩
            have rv16 := n_rng v16
            refine r_iald (n := 4500) (lo := (-2147483648)) (hi := 2147483647) C v16 rfl (by decide) rfl rfl ⟨by omega, by omega⟩ (by decide) ev16 rfl rfl (oDec_at oX3_build 54 rfl) (fun _ _ => ?_)
            refine r_callVi C oCl3 rfl miX3_search mlX3_62 (ct_X3_search l E ((pI u9 58 x3.toNatClampNeg r10)) c1 hk1 v14 v16 ) (by decide) rfl rfl rfl (Nat.le_of_ble_eq_true rfl) (oDec_at oX3_build 55 rfl) (fun r19 u18 pu18 fu18 => ?_)
            try dsimp only at pu18
            have rr19 := n_rng r19
            refine r_pc C 100 rfl ?_
            refine r_iast (n := 4500) (lo := (-2147483648)) (hi := 2147483647) C rfl (by decide) rfl rfl ⟨by omega, by omega⟩ (by decide) rfl rfl rfl rfl (n_rng _) (oDec_at oX3_build 56 rfl) ?_
            refine r_aload_n C (j := 0) (oDec_at oX3_build 57 rfl) rfl rfl ?_
            refine r_getF (k := 3) (b := 57) C oCl3 rfl (by decide) flX3_9 rfl rfl rfl (oDec_at oX3_build 58 rfl) ?_
            refine r_iload_n C (j := 3) (oDec_at oX3_build 59 rfl) rfl rfl ?_
            obtain ⟨v20, ev20⟩ : ∃ z : Int32, ((pI u18 57 x3.toNatClampNeg r19)).1 57 x3.toNatClampNeg = z := ⟨_, rfl⟩
            have rv20 := n_rng v20
            refine r_iald (n := 4500) (lo := (-2147483648)) (hi := 2147483647) C v20 rfl (by decide) rfl rfl ⟨by omega, by omega⟩ (by decide) ev20 rfl rfl (oDec_at oX3_build 60 rfl) (fun _ _ => ?_)
            refine r_iconst C (oDec_at oX3_build 61 rfl) (v := km1) (by rw [qkm1]; rfl) ?_
            refine r_pc C 108 rfl ?_
            refine r_icmp_ne C 149 (oDec_at oX3_build 62 rfl) (by decide) (fun cd22 => ?_) (fun cd22 => ?_)
            · skip
              obtain ⟨v23, ev23⟩ : ∃ z : Int32, x3 + Int32.ofInt 1 = z := ⟨_, rfl⟩
              have hv23 : v23.toInt = x3.toInt + 1 := n_inc ev23 (by decide) (by omega) (by omega)
              refine r_iinc C (j := 3) (lv' := [(0, .ref (oad E 56)), (1, .ref (oad E c1)), (2, .ref (oad E 43)), (3, .int v23), (4, .int v13)]) v23 [1, 2, 3, 0, 4] (oDec_at oX3_build 87 rfl) rfl ev23 (by decide) rfl ?_
              refine r_goto C (tgt := 23) (oDec_at oX3_build 88 rfl) (by decide) ?_
              refine r_pick C [0, 1, 2, 3] rfl ?_
              exact (ih (n - 1) (by omega)) ((pI u18 57 x3.toNatClampNeg r19)) v23  (by omega) (by omega)
            · skip
              refine r_aload_n C (j := 0) (oDec_at oX3_build 63 rfl) rfl rfl ?_
              refine r_getF (k := 3) (b := 57) C oCl3 rfl (by decide) flX3_9 rfl rfl rfl (oDec_at oX3_build 64 rfl) ?_
              refine r_iload_n C (j := 3) (oDec_at oX3_build 65 rfl) rfl rfl ?_
              refine r_iload_n C (j := 3) (oDec_at oX3_build 66 rfl) rfl rfl ?_
              refine r_iast (n := 4500) (lo := (-2147483648)) (hi := 2147483647) C rfl (by decide) rfl rfl ⟨by omega, by omega⟩ (by decide) rfl rfl rfl rfl (n_rng _) (oDec_at oX3_build 67 rfl) ?_
              refine r_aload_n C (j := 0) (oDec_at oX3_build 68 rfl) rfl rfl ?_
              refine r_pc C 119 rfl ?_
              refine r_getF (k := 6) (b := 60) C oCl3 rfl (by decide) flX3_21 rfl rfl rfl (oDec_at oX3_build 69 rfl) ?_
              refine r_iload_n C (j := 3) (oDec_at oX3_build 70 rfl) rfl rfl ?_
              refine r_aload_n C (j := 0) (oDec_at oX3_build 71 rfl) rfl rfl ?_
              refine r_getF (k := 5) (b := 59) C oCl3 rfl (by decide) flX3_18 rfl rfl rfl (oDec_at oX3_build 72 rfl) ?_
              refine r_iload C (j := 4) (oDec_at oX3_build 73 rfl) rfl ?_
              obtain ⟨v24, ev24⟩ : ∃ z : Int32, ((pI (pI u18 57 x3.toNatClampNeg r19) 57 x3.toNatClampNeg x3)).1 59 v13.toNatClampNeg = z := ⟨_, rfl⟩
              have rv24 := n_rng v24
              refine r_iald (n := 1024) (lo := (-2147483648)) (hi := 2147483647) C v24 rfl (by decide) rfl rfl ⟨by omega, by omega⟩ (by decide) ev24 rfl rfl (oDec_at oX3_build 74 rfl) (fun _ _ => ?_)
              refine r_pc C 130 rfl ?_
              refine r_iast (n := 4500) (lo := (-2147483648)) (hi := 2147483647) C rfl (by decide) rfl rfl ⟨by omega, by omega⟩ (by decide) rfl rfl rfl rfl (n_rng _) (oDec_at oX3_build 75 rfl) ?_
              refine r_aload_n C (j := 0) (oDec_at oX3_build 76 rfl) rfl rfl ?_
              refine r_getF (k := 5) (b := 59) C oCl3 rfl (by decide) flX3_18 rfl rfl rfl (oDec_at oX3_build 77 rfl) ?_
              refine r_iload C (j := 4) (oDec_at oX3_build 78 rfl) rfl ?_
              refine r_iload_n C (j := 3) (oDec_at oX3_build 79 rfl) rfl rfl ?_
              refine r_iast (n := 1024) (lo := (-2147483648)) (hi := 2147483647) C rfl (by decide) rfl rfl ⟨by omega, by omega⟩ (by decide) rfl rfl rfl rfl (n_rng _) (oDec_at oX3_build 80 rfl) ?_
              refine r_pc C 139 rfl ?_
              refine r_aload_n C (j := 0) (oDec_at oX3_build 81 rfl) rfl rfl ?_
              refine r_dup C (oDec_at oX3_build 82 rfl) rfl ?_
              obtain ⟨v26, ev26⟩ : ∃ z : Int32, ((pI (pI (pI (pI u18 57 x3.toNatClampNeg r19) 57 x3.toNatClampNeg x3) 60 x3.toNatClampNeg v24) 59 v13.toNatClampNeg x3)).1 56 1 = z := ⟨_, rfl⟩
              have gv26 : (t.1 56 1).toInt = v26.toInt := congrArg Int32.toInt ((((pI_ne (a := 56) (b := 1) (c := 59) _ _ (Or.inl (by decide)))).trans (((pI_ne (a := 56) (b := 1) (c := 60) _ _ (Or.inl (by decide)))).trans (((pI_ne (a := 56) (b := 1) (c := 57) _ _ (Or.inl (by decide)))).trans (((pI_ne (a := 56) (b := 1) (c := 57) _ _ (Or.inl (by decide)))).trans (((fu18 56 1 rfl).1).trans (((pI_ne (a := 56) (b := 1) (c := 58) _ _ (Or.inl (by decide)))).trans (((fu9 56 1 rfl).1).trans (((fu7 56 1 rfl).1).trans ((fu5 56 1 rfl).1))))))))).symm.trans ev26)
              have rv26 := n_rng v26
              refine r_geti (k := 1) (lo := (-2147483648)) (hi := 2147483647) C v26 oCl3 rfl (by decide) flX3_34 rfl rfl (ev26) rfl rfl (oDec_at oX3_build 83 rfl) (fun _ _ => ?_)
              refine r_iconst C (oDec_at oX3_build 84 rfl) (v := k1) (by rw [qk1]; rfl) ?_
              obtain ⟨v27, ev27⟩ : ∃ z : Int32, z = v26 + k1 := ⟨_, rfl⟩
              have rv27 := n_rng v27
              refine r_iadd C v27 (oDec_at oX3_build 85 rfl) ev27 ?_
              refine r_puti (k := 1) (lo := (-2147483648)) (hi := 2147483647) C oCl3 rfl (by decide) flX3_34 rfl rfl rfl rfl rfl rfl rfl rfl (n_rng _) (oDec_at oX3_build 86 rfl) ?_
              refine r_pc C 149 rfl ?_
              obtain ⟨v28, ev28⟩ : ∃ z : Int32, x3 + Int32.ofInt 1 = z := ⟨_, rfl⟩
              have hv28 : v28.toInt = x3.toInt + 1 := n_inc ev28 (by decide) (by omega) (by omega)
              refine r_iinc C (j := 3) (lv' := [(0, .ref (oad E 56)), (1, .ref (oad E c1)), (2, .ref (oad E 43)), (3, .int v28), (4, .int v13)]) v28 [1, 2, 3, 0, 4] (oDec_at oX3_build 87 rfl) rfl ev28 (by decide) rfl ?_
              refine r_goto C (tgt := 23) (oDec_at oX3_build 88 rfl) (by decide) ?_
              refine r_pick C [0, 1, 2, 3] rfl ?_
              exact (ih (n - 1) (by omega)) ((pI (pI (pI (pI (pI u18 57 x3.toNatClampNeg r19) 57 x3.toNatClampNeg x3) 60 x3.toNatClampNeg v24) 59 v13.toNatClampNeg x3) 56 1 v27)) v28  (by omega) (by omega)
  refine r_aload_n C (j := 0) (oDec_at oX3_build 0 rfl) rfl rfl ?_
  refine r_iconst C (oDec_at oX3_build 1 rfl) (v := k0) (by rw [qk0]; rfl) ?_
  refine r_puti (k := 1) (lo := (-2147483648)) (hi := 2147483647) C oCl3 rfl (by decide) flX3_34 rfl rfl rfl rfl rfl rfl rfl rfl (n_rng _) (oDec_at oX3_build 2 rfl) ?_
  refine r_aload_n C (j := 0) (oDec_at oX3_build 3 rfl) rfl rfl ?_
  refine r_aload_n C (j := 2) (oDec_at oX3_build 4 rfl) rfl rfl ?_
  obtain ⟨v29, ev29⟩ : ∃ z : Int32, ((pI s 56 1 k0)).1 43 4 = z := ⟨_, rfl⟩
  have gv29 : (s.1 43 4).toInt = v29.toInt := congrArg Int32.toInt (((pI_ne (a := 43) (b := 4) (c := 56) _ _ (Or.inl (by decide)))).symm.trans ev29)
  refine r_getiN (k := 4) (lo := 0) (hi := 4500) C v29 oCl10 rfl (by decide) flX3_38 rfl rfl (ev29) rfl rfl (oDec_at oX3_build 5 rfl) (fun b30 b30h => ?_)
  refine r_pc C 10 rfl ?_
  refine r_puti (k := 2) (lo := 0) (hi := 4500) C oCl3 rfl (by decide) flX3_43 rfl rfl rfl rfl rfl rfl rfl rfl ⟨by omega, by omega⟩ (oDec_at oX3_build 6 rfl) ?_
  refine r_aload_n C (j := 0) (oDec_at oX3_build 7 rfl) rfl rfl ?_
  refine r_getF (k := 5) (b := 59) C oCl3 rfl (by decide) flX3_18 rfl rfl rfl (oDec_at oX3_build 8 rfl) ?_
  refine r_iconst C (oDec_at oX3_build 9 rfl) (v := km1) (by rw [qkm1]; rfl) ?_
  refine r_callSv C miJ7_fill_53178 mlX3_44 (ct_J7_fill_53178 l E ((pI (pI s 56 1 k0) 56 2 v29)) 59 44 1024 rfl (by decide) (by decide) rfl rfl km1 (fun _ => n_rng _) (by omega)) (by decide) rfl rfl rfl (Nat.le_of_ble_eq_true rfl) (oDec_at oX3_build 10 rfl) (fun u31 pu31 fu31 => ?_)
  try dsimp only at pu31
  refine r_iconst C (oDec_at oX3_build 11 rfl) (v := k0) (by rw [qk0]; rfl) ?_
  refine r_pc C 22 rfl ?_
  refine r_istore_n C (lv' := [(0, .ref (oad E 56)), (1, .ref (oad E c1)), (2, .ref (oad E 43)), (3, .int k0)]) [1, 2, 3, 0] (oDec_at oX3_build 12 rfl) rfl (by decide) rfl ?_
  exact (key (4501 - k0.toInt).toNat) (u31) k0  (by omega) (by omega)
set_option maxHeartbeats 4000000 in
set_option maxRecDepth 100000 in
theorem ct_X3_firstOf (l : Launch) (E : oE) (s : oS) (a1 : Int32)  : oMet l 1 yX3_firstOf cX3_firstOf 2 (some .int) [] E s [.ref (oad E 56), .int a1] (oPi (fun r u => True)) := by
  refine oMet.of (lv := [(0, .ref (oad E 56)), (1, .int a1)]) (by decide +kernel) (Nat.le_of_ble_eq_true rfl) rfl (fun J C hT => ?_)
  have C : oC l 1 cX3_firstOf RX3 2 (some .int) [] E s (oPi (fun r u => True)) J := C
  obtain ⟨km1, qkm1⟩ : ∃ z : Int32, z = (-1) := ⟨_, rfl⟩
  have ekm1 : km1.toInt = (-1) := by rw [qkm1]; rfl
  obtain ⟨k4500, qk4500⟩ : ∃ z : Int32, z = 4500 := ⟨_, rfl⟩
  have ek4500 : k4500.toInt = 4500 := by rw [qk4500]; rfl
  have rg1 := n_rng a1
  refine r_iload_n C (j := 1) (oDec_at oX3_firstOf 0 rfl) rfl rfl ?_
  refine r_if_lt C 28 (oDec_at oX3_firstOf 1 rfl) (by decide) (fun cd1 => ?_) (fun cd1 => ?_)
  · skip
    refine r_iconst C (oDec_at oX3_firstOf 14 rfl) (v := km1) (by rw [qkm1]; rfl) ?_
    exact r_iret C (oDec_at oX3_firstOf 15 rfl) ⟨_, rfl, trivial⟩
  · skip
    refine r_iload_n C (j := 1) (oDec_at oX3_firstOf 2 rfl) rfl rfl ?_
    refine r_aload_n C (j := 0) (oDec_at oX3_firstOf 3 rfl) rfl rfl ?_
    obtain ⟨v2, ev2⟩ : ∃ z : Int32, (s).1 56 2 = z := ⟨_, rfl⟩
    have gv2 : (s.1 56 2).toInt = v2.toInt := congrArg Int32.toInt (ev2)
    refine r_geti (k := 2) (lo := 0) (hi := 4500) C v2 oCl3 rfl (by decide) flX3_43 rfl rfl (ev2) rfl rfl (oDec_at oX3_firstOf 4 rfl) (fun b3 b3h => ?_)
    refine r_icmp_ge C 28 (oDec_at oX3_firstOf 5 rfl) (by decide) (fun cd4 => ?_) (fun cd4 => ?_)
    · skip
      refine r_iconst C (oDec_at oX3_firstOf 14 rfl) (v := km1) (by rw [qkm1]; rfl) ?_
      exact r_iret C (oDec_at oX3_firstOf 15 rfl) ⟨_, rfl, trivial⟩
    · skip
      refine r_iload_n C (j := 1) (oDec_at oX3_firstOf 6 rfl) rfl rfl ?_
      refine r_sipush C (oDec_at oX3_firstOf 7 rfl) (v := k4500) (by rw [qk4500]; rfl) ?_
      refine r_icmp_ge C 28 (oDec_at oX3_firstOf 8 rfl) (by decide) (fun cd5 => ?_) (fun cd5 => ?_)
      · skip
        refine r_iconst C (oDec_at oX3_firstOf 14 rfl) (v := km1) (by rw [qkm1]; rfl) ?_
        exact r_iret C (oDec_at oX3_firstOf 15 rfl) ⟨_, rfl, trivial⟩
      · skip
        refine r_aload_n C (j := 0) (oDec_at oX3_firstOf 9 rfl) rfl rfl ?_
        refine r_getF (k := 3) (b := 57) C oCl3 rfl (by decide) flX3_9 rfl rfl rfl (oDec_at oX3_firstOf 10 rfl) ?_
        refine r_iload_n C (j := 1) (oDec_at oX3_firstOf 11 rfl) rfl rfl ?_
        obtain ⟨v6, ev6⟩ : ∃ z : Int32, (s).1 57 a1.toNatClampNeg = z := ⟨_, rfl⟩
        have rv6 := n_rng v6
        refine r_iald (n := 4500) (lo := (-2147483648)) (hi := 2147483647) C v6 rfl (by decide) rfl rfl ⟨by omega, by omega⟩ (by decide) ev6 rfl rfl (oDec_at oX3_firstOf 12 rfl) (fun _ _ => ?_)
        refine r_goto C (tgt := 29) (oDec_at oX3_firstOf 13 rfl) (by decide) ?_
        exact r_iret C (oDec_at oX3_firstOf 15 rfl) ⟨_, rfl, trivial⟩
