set_option maxHeartbeats 4000000 in
set_option maxRecDepth 100000 in
theorem ct_X6_put (l : Launch) (E : oE) (s : oS) (c0 : Nat) (hk0 : okd c0 = 6) (a1 : Int32) (a2 : Int32)  : oMet l 1 yX6_put cX6_put 3 none [(6, 2), (46, 9999), (47, 9999)] E s [.ref (oad E c0), .int a1, .int a2] (oPv (fun u => True)) := by
  refine oMet.of (lv := [(0, .ref (oad E c0)), (1, .int a1), (2, .int a2)]) (by decide +kernel) (Nat.le_of_ble_eq_true rfl) rfl (fun J C hT => ?_)
  have C : oC l 1 cX6_put RX6 3 none [(6, 2), (46, 9999), (47, 9999)] E s (oPv (fun u => True)) J := C
  obtain ⟨k1, qk1⟩ : ∃ z : Int32, z = 1 := ⟨_, rfl⟩
  have ek1 : k1.toInt = 1 := by rw [qk1]; rfl
  have rg1 := n_rng a1
  have rg2 := n_rng a2
  refine r_aload_n C (j := 0) (oDec_at oX6_put 0 rfl) rfl rfl ?_
  obtain ⟨v1, ev1⟩ : ∃ z : Int32, (s).1 c0 2 = z := ⟨_, rfl⟩
  have gv1 : (s.1 c0 2).toInt = v1.toInt := congrArg Int32.toInt (ev1)
  refine r_geti (k := 2) (lo := 0) (hi := 25) C v1 oCl6 hk0 (by decide) flX6_29 rfl rfl (ev1) rfl rfl (oDec_at oX6_put 1 rfl) (fun b2 b2h => ?_)
  refine r_aload_n C (j := 0) (oDec_at oX6_put 2 rfl) rfl rfl ?_
  refine r_getR (k := 0) (b := 1) C oCl6 hk0 (by decide) flX6_9 rfl rfl rfl (oDec_at oX6_put 3 rfl) ?_
  obtain ⟨v3, ev3⟩ : ∃ z : Int32, Int32.ofNat 25 = z := ⟨_, rfl⟩
  have hv3 : v3.toInt = 25 := by rw [← ev3]; rfl
  refine r_alen0 (n := 25) C v3 (kr6_1 hk0) (by decide) rfl rfl (by decide) ev3 (oDec_at oX6_put 4 rfl) ?_
  refine r_icmp_ge C 42 (oDec_at oX6_put 5 rfl) (by decide) (fun cd4 => ?_) (fun cd4 => ?_)
  · skip
    exact r_vret C (oDec_at oX6_put 24 rfl) ⟨rfl, trivial⟩
  · skip
    refine r_aload_n C (j := 0) (oDec_at oX6_put 6 rfl) rfl rfl ?_
    refine r_getR (k := 0) (b := 1) C oCl6 hk0 (by decide) flX6_9 rfl rfl rfl (oDec_at oX6_put 7 rfl) ?_
    refine r_aload_n C (j := 0) (oDec_at oX6_put 8 rfl) rfl rfl ?_
    refine r_geti (k := 2) (lo := 0) (hi := 25) C v1 oCl6 hk0 (by decide) flX6_29 rfl rfl (ev1) rfl rfl (oDec_at oX6_put 9 rfl) (fun _ _ => ?_)
    refine r_iload_n C (j := 1) (oDec_at oX6_put 10 rfl) rfl rfl ?_
    refine r_iast (n := 25) (lo := (-2147483648)) (hi := 2147483647) C (kr6_1 hk0) (by decide) rfl rfl ⟨by omega, by omega⟩ (by decide) rfl rfl rfl rfl (n_rng _) (oDec_at oX6_put 11 rfl) ?_
    refine r_pc C 22 rfl ?_
    refine r_aload_n C (j := 0) (oDec_at oX6_put 12 rfl) rfl rfl ?_
    refine r_getR (k := 1) (b := 2) C oCl6 hk0 (by decide) flX6_15 rfl rfl rfl (oDec_at oX6_put 13 rfl) ?_
    refine r_aload_n C (j := 0) (oDec_at oX6_put 14 rfl) rfl rfl ?_
    refine r_geti (k := 2) (lo := 0) (hi := 25) C v1 oCl6 hk0 (by decide) flX6_29 rfl rfl (((pI_ne _ _ (Or.inl (okd_ne hk0 (kr6_1 hk0) (by decide))))).trans (ev1)) rfl rfl (oDec_at oX6_put 15 rfl) (fun _ _ => ?_)
    refine r_iload_n C (j := 2) (oDec_at oX6_put 16 rfl) rfl rfl ?_
    refine r_iast (n := 25) (lo := (-2147483648)) (hi := 2147483647) C (kr6_2 hk0) (by decide) rfl rfl ⟨by omega, by omega⟩ (by decide) rfl rfl rfl rfl (n_rng _) (oDec_at oX6_put 17 rfl) ?_
    refine r_pc C 32 rfl ?_
    refine r_aload_n C (j := 0) (oDec_at oX6_put 18 rfl) rfl rfl ?_
    refine r_dup C (oDec_at oX6_put 19 rfl) rfl ?_
    refine r_geti (k := 2) (lo := 0) (hi := 25) C v1 oCl6 hk0 (by decide) flX6_29 rfl rfl (((pI_ne _ _ (Or.inl (okd_ne hk0 (kr6_2 hk0) (by decide))))).trans (((pI_ne _ _ (Or.inl (okd_ne hk0 (kr6_1 hk0) (by decide))))).trans (ev1))) rfl rfl (oDec_at oX6_put 20 rfl) (fun _ _ => ?_)
    refine r_iconst C (oDec_at oX6_put 21 rfl) (v := k1) (by rw [qk1]; rfl) ?_
    obtain ⟨v5, ev5⟩ : ∃ z : Int32, z = v1 + k1 := ⟨_, rfl⟩
    have hv5 : v5.toInt = v1.toInt + k1.toInt := n_add ev5 (by omega) (by omega)
    refine r_iadd C v5 (oDec_at oX6_put 22 rfl) ev5 ?_
    refine r_puti (k := 2) (lo := 0) (hi := 25) C oCl6 hk0 (by decide) flX6_29 rfl rfl rfl rfl rfl rfl rfl rfl ⟨by omega, by omega⟩ (oDec_at oX6_put 23 rfl) ?_
    refine r_pc C 42 rfl ?_
    exact r_vret C (oDec_at oX6_put 24 rfl) ⟨rfl, trivial⟩
set_option maxHeartbeats 4000000 in
set_option maxRecDepth 100000 in
theorem ct_X6_write (l : Launch) (E : oE) (s : oS) (c0 : Nat) (hk0 : okd c0 = 6) (c1 : Nat) (hk1 : okd c1 = 4) (a2 : Int32)  : oMet l 4 yX6_write cX6_write 8 none [(6, 2), (9, 0), (9, 1), (9, 2), (9, 3), (9, 4), (46, 9999), (47, 9999)] E s [.ref (oad E c0), .ref (oad E c1), .int a2] (oPv (fun u => True)) := by
  refine oMet.of (lv := [(0, .ref (oad E c0)), (1, .ref (oad E c1)), (2, .int a2)]) (by decide +kernel) (Nat.le_of_ble_eq_true rfl) rfl (fun J C hT => ?_)
  have C : oC l 4 cX6_write RX6 8 none [(6, 2), (9, 0), (9, 1), (9, 2), (9, 3), (9, 4), (46, 9999), (47, 9999)] E s (oPv (fun u => True)) J := C
  obtain ⟨km1000000000, qkm1000000000⟩ : ∃ z : Int32, z = (-1000000000) := ⟨_, rfl⟩
  have ekm1000000000 : km1000000000.toInt = (-1000000000) := by rw [qkm1000000000]; rfl
  obtain ⟨k0, qk0⟩ : ∃ z : Int32, z = 0 := ⟨_, rfl⟩
  have ek0 : k0.toInt = 0 := by rw [qk0]; rfl
  obtain ⟨k1, qk1⟩ : ∃ z : Int32, z = 1 := ⟨_, rfl⟩
  have ek1 : k1.toInt = 1 := by rw [qk1]; rfl
  have rg2 := n_rng a2
  have key : ∀ n : Nat, (∀ (t : oS) (x3 : Int32) (x4 : Int32) (x5 : Int32), (0 ≤ x5.toInt ∧ x5.toInt ≤ 24) → 25 - x5.toInt ≤ (n : Int) → J t 28 [(0, .ref (oad E c0)), (1, .ref (oad E c1)), (3, .int x3), (4, .int x4), (5, .int x5)] []) := by
    intro n
    induction n using Nat.strongRecOn with
    | _ n ih =>
      skip
      · intro t x3 x4 x5  iv0 hmu
        have rx3 := n_rng x3
        have rx4 := n_rng x4
        have rx5 := n_rng x5
        refine r_iload C (j := 4) (oDec_at oX6_write 15 rfl) rfl ?_
        refine r_aload_n C (j := 1) (oDec_at oX6_write 16 rfl) rfl rfl ?_
        obtain ⟨v1, ev1⟩ : ∃ z : Int32, (t).1 c1 4 = z := ⟨_, rfl⟩
        have gv1 : (t.1 c1 4).toInt = v1.toInt := congrArg Int32.toInt (ev1)
        refine r_getiN (k := 4) (lo := 0) (hi := 24) C v1 oCl4 hk1 (by decide) flX6_37 rfl rfl (ev1) rfl rfl (oDec_at oX6_write 17 rfl) (fun b2 b2h => ?_)
        refine r_icmp_ge C 116 (oDec_at oX6_write 18 rfl) (by decide) (fun cd3 => ?_) (fun cd3 => ?_)
        · skip
          refine r_iload C (j := 3) (oDec_at oX6_write 59 rfl) rfl ?_
          refine r_ldc C (v := km1000000000) (by rw [qkm1000000000]; exact kcX6_36) (oDec_at oX6_write 60 rfl) ?_
          refine r_icmp_eq C 130 (oDec_at oX6_write 61 rfl) (by decide) (fun cd4 => ?_) (fun cd4 => ?_)
          · skip
            exact r_vret C (oDec_at oX6_write 66 rfl) ⟨rfl, trivial⟩
          · skip
            refine r_aload_n C (j := 0) (oDec_at oX6_write 62 rfl) rfl rfl ?_
            refine r_iload_n C (j := 2) (oDec_at oX6_write 63 rfl) rfl rfl ?_
            refine r_ldc C (v := km1000000000) (by rw [qkm1000000000]; exact kcX6_36) (oDec_at oX6_write 64 rfl) ?_
            refine r_callVv C oCl6 hk0 miX6_put mlX6_47 (ct_X6_put l E (t) c0 hk0 x3 km1000000000 ) (by decide) rfl rfl rfl (Nat.le_of_ble_eq_true rfl) (oDec_at oX6_write 65 rfl) (fun u5 pu5 fu5 => ?_)
            try dsimp only at pu5
            exact r_vret C (oDec_at oX6_write 66 rfl) ⟨rfl, trivial⟩
        · skip
          refine r_aload_n C (j := 0) (oDec_at oX6_write 19 rfl) rfl rfl ?_
          refine r_getR (k := 3) (b := 3) C oCl6 hk0 (by decide) flX6_21 rfl rfl rfl (oDec_at oX6_write 20 rfl) ?_
          obtain ⟨v7, ev7⟩ : ∃ z : Int32, (t).1 (c0 + 3) 3 = z := ⟨_, rfl⟩
          have gv7 : (t.1 (c0 + 3) 3).toInt = v7.toInt := congrArg Int32.toInt (ev7)
          have rv7 := n_rng v7
          refine r_getiN (k := 3) (lo := (-2147483648)) (hi := 2147483647) C v7 oCl9 (kr6_3 hk0) (by decide) flX6_40 rfl rfl (ev7) rfl rfl (oDec_at oX6_write 21 rfl) (fun _ _ => ?_)
          refine r_iconst C (oDec_at oX6_write 22 rfl) (v := k1) (by rw [qk1]; rfl) ?_
          refine r_icmp_ne C 60 (oDec_at oX6_write 23 rfl) (by decide) (fun cd8 => ?_) (fun cd8 => ?_)
          · skip
            refine r_iload C (j := 4) (oDec_at oX6_write 31 rfl) rfl ?_
            refine r_istore C (lv' := [(0, .ref (oad E c0)), (1, .ref (oad E c1)), (3, .int x3), (4, .int x4), (5, .int x5), (6, .int x5)]) [1, 2, 3, 4, 5, 0] (oDec_at oX6_write 32 rfl) (by decide) rfl ?_
            refine r_aload_n C (j := 0) (oDec_at oX6_write 33 rfl) rfl rfl ?_
            refine r_getR (k := 3) (b := 3) C oCl6 hk0 (by decide) flX6_21 rfl rfl rfl (oDec_at oX6_write 34 rfl) ?_
            refine r_aload_n C (j := 1) (oDec_at oX6_write 35 rfl) rfl rfl ?_
            refine r_iload C (j := 5) (oDec_at oX6_write 36 rfl) rfl ?_
            refine r_pc C 71 rfl ?_
            refine r_callVi C oCl9 (kr6_3 hk0) miX9_tone mlX6_43 (ct_X9_tone l E (t) (c0 + 3) (kr6_3 hk0) c1 hk1 x5 ) (by decide) rfl rfl rfl (Nat.le_of_ble_eq_true rfl) (oDec_at oX6_write 37 rfl) (fun r10 u9 pu9 fu9 => ?_)
            try dsimp only at pu9
            have rr10 := n_rng r10
            refine r_istore C (lv' := [(0, .ref (oad E c0)), (1, .ref (oad E c1)), (3, .int x3), (4, .int x4), (5, .int x5), (6, .int x5), (7, .int r10)]) [1, 2, 3, 4, 5, 6, 0] (oDec_at oX6_write 38 rfl) (by decide) rfl ?_
            refine r_iload C (j := 6) (oDec_at oX6_write 39 rfl) rfl ?_
            refine r_iload C (j := 3) (oDec_at oX6_write 40 rfl) rfl ?_
            refine r_icmp_eq C 90 (oDec_at oX6_write 41 rfl) (by decide) (fun cd11 => ?_) (fun cd11 => ?_)
            · skip
              refine r_iload C (j := 6) (oDec_at oX6_write 46 rfl) rfl ?_
              refine r_istore C (lv' := [(0, .ref (oad E c0)), (1, .ref (oad E c1)), (3, .int x3), (4, .int r10), (5, .int x5), (6, .int x5), (7, .int r10)]) [1, 2, 3, 0, 4, 5, 6] (oDec_at oX6_write 47 rfl) (by decide) rfl ?_
              refine r_iload_n C (j := 2) (oDec_at oX6_write 48 rfl) rfl rfl ?_
              refine r_aload_n C (j := 0) (oDec_at oX6_write 49 rfl) rfl rfl ?_
              refine r_getR (k := 3) (b := 3) C oCl6 hk0 (by decide) flX6_21 rfl rfl rfl (oDec_at oX6_write 50 rfl) ?_
              refine r_aload_n C (j := 1) (oDec_at oX6_write 51 rfl) rfl rfl ?_
              refine r_pc C 100 rfl ?_
              refine r_iload C (j := 5) (oDec_at oX6_write 52 rfl) rfl ?_
              refine r_callVi C oCl4 hk1 miX4_lengthOf mlX6_51 (ct_X4_lengthOf l E (u9) c1 hk1 x5 ) (by decide) rfl rfl rfl (Nat.le_of_ble_eq_true rfl) (oDec_at oX6_write 53 rfl) (fun r13 u12 pu12 fu12 => ?_)
              try dsimp only at pu12
              have rr13 := n_rng r13
              refine r_callVi C oCl9 (kr6_3 hk0) miX9_stretch mlX6_55 (ct_X9_stretch l E (u12) (c0 + 3) (kr6_3 hk0) r13 ) (by decide) rfl rfl rfl (Nat.le_of_ble_eq_true rfl) (oDec_at oX6_write 54 rfl) (fun r15 u14 pu14 fu14 => ?_)
              try dsimp only at pu14
              have rr15 := n_rng r15
              obtain ⟨v16, ev16⟩ : ∃ z : Int32, z = x3 + r15 := ⟨_, rfl⟩
              have rv16 := n_rng v16
              refine r_iadd C v16 (oDec_at oX6_write 55 rfl) ev16 ?_
              refine r_istore_n C (lv' := [(0, .ref (oad E c0)), (1, .ref (oad E c1)), (3, .int v16), (4, .int r10), (5, .int x5), (6, .int x5), (7, .int r10)]) [1, 2, 0, 3, 4, 5, 6] (oDec_at oX6_write 56 rfl) rfl (by decide) rfl ?_
              obtain ⟨v17, ev17⟩ : ∃ z : Int32, x5 + Int32.ofInt 1 = z := ⟨_, rfl⟩
              have hv17 : v17.toInt = x5.toInt + 1 := n_inc ev17 (by decide) (by omega) (by omega)
              refine r_iinc C (j := 4) (lv' := [(0, .ref (oad E c0)), (1, .ref (oad E c1)), (3, .int v16), (4, .int r10), (5, .int v17), (6, .int x5), (7, .int r10)]) v17 [1, 2, 3, 4, 0, 5, 6] (oDec_at oX6_write 57 rfl) rfl ev17 (by decide) rfl ?_
              refine r_pc C 113 rfl ?_
              refine r_goto C (tgt := 28) (oDec_at oX6_write 58 rfl) (by decide) ?_
              refine r_pick C [0, 1, 2, 3, 4] rfl ?_
              exact (ih (n - 1) (by omega)) (u14) v16 r10 v17  (by omega) (by omega)
            · skip
              refine r_aload_n C (j := 0) (oDec_at oX6_write 42 rfl) rfl rfl ?_
              refine r_iload_n C (j := 2) (oDec_at oX6_write 43 rfl) rfl rfl ?_
              refine r_iload C (j := 6) (oDec_at oX6_write 44 rfl) rfl ?_
              refine r_callVv C oCl6 hk0 miX6_put mlX6_47 (ct_X6_put l E (u9) c0 hk0 x3 r10 ) (by decide) rfl rfl rfl (Nat.le_of_ble_eq_true rfl) (oDec_at oX6_write 45 rfl) (fun u18 pu18 fu18 => ?_)
              try dsimp only at pu18
              refine r_iload C (j := 6) (oDec_at oX6_write 46 rfl) rfl ?_
              refine r_istore C (lv' := [(0, .ref (oad E c0)), (1, .ref (oad E c1)), (3, .int x3), (4, .int r10), (5, .int x5), (6, .int x5), (7, .int r10)]) [1, 2, 3, 0, 4, 5, 6] (oDec_at oX6_write 47 rfl) (by decide) rfl ?_
              refine r_pc C 94 rfl ?_
              refine r_iload_n C (j := 2) (oDec_at oX6_write 48 rfl) rfl rfl ?_
              refine r_aload_n C (j := 0) (oDec_at oX6_write 49 rfl) rfl rfl ?_
              refine r_getR (k := 3) (b := 3) C oCl6 hk0 (by decide) flX6_21 rfl rfl rfl (oDec_at oX6_write 50 rfl) ?_
              refine r_aload_n C (j := 1) (oDec_at oX6_write 51 rfl) rfl rfl ?_
              refine r_iload C (j := 5) (oDec_at oX6_write 52 rfl) rfl ?_
              refine r_callVi C oCl4 hk1 miX4_lengthOf mlX6_51 (ct_X4_lengthOf l E (u18) c1 hk1 x5 ) (by decide) rfl rfl rfl (Nat.le_of_ble_eq_true rfl) (oDec_at oX6_write 53 rfl) (fun r21 u20 pu20 fu20 => ?_)
              try dsimp only at pu20
              have rr21 := n_rng r21
              refine r_pc C 105 rfl ?_
              refine r_callVi C oCl9 (kr6_3 hk0) miX9_stretch mlX6_55 (ct_X9_stretch l E (u20) (c0 + 3) (kr6_3 hk0) r21 ) (by decide) rfl rfl rfl (Nat.le_of_ble_eq_true rfl) (oDec_at oX6_write 54 rfl) (fun r23 u22 pu22 fu22 => ?_)
              try dsimp only at pu22
              have rr23 := n_rng r23
              obtain ⟨v24, ev24⟩ : ∃ z : Int32, z = x3 + r23 := ⟨_, rfl⟩
              have rv24 := n_rng v24
              refine r_iadd C v24 (oDec_at oX6_write 55 rfl) ev24 ?_
              refine r_istore_n C (lv' := [(0, .ref (oad E c0)), (1, .ref (oad E c1)), (3, .int v24), (4, .int r10), (5, .int x5), (6, .int x5), (7, .int r10)]) [1, 2, 0, 3, 4, 5, 6] (oDec_at oX6_write 56 rfl) rfl (by decide) rfl ?_
              obtain ⟨v25, ev25⟩ : ∃ z : Int32, x5 + Int32.ofInt 1 = z := ⟨_, rfl⟩
              have hv25 : v25.toInt = x5.toInt + 1 := n_inc ev25 (by decide) (by omega) (by omega)
              refine r_iinc C (j := 4) (lv' := [(0, .ref (oad E c0)), (1, .ref (oad E c1)), (3, .int v24), (4, .int r10), (5, .int v25), (6, .int x5), (7, .int r10)]) v25 [1, 2, 3, 4, 0, 5, 6] (oDec_at oX6_write 57 rfl) rfl ev25 (by decide) rfl ?_
              refine r_goto C (tgt := 28) (oDec_at oX6_write 58 rfl) (by decide) ?_
              refine r_pick C [0, 1, 2, 3, 4] rfl ?_
              exact (ih (n - 1) (by omega)) (u22) v24 r10 v25  (by omega) (by omega)
          · skip
            refine r_aload_n C (j := 1) (oDec_at oX6_write 24 rfl) rfl rfl ?_
            refine r_getiN (k := 4) (lo := 0) (hi := 24) C v1 oCl4 hk1 (by decide) flX6_37 rfl rfl (ev1) rfl rfl (oDec_at oX6_write 25 rfl) (fun _ _ => ?_)
            refine r_iconst C (oDec_at oX6_write 26 rfl) (v := k1) (by rw [qk1]; rfl) ?_
            obtain ⟨v26, ev26⟩ : ∃ z : Int32, z = v1 - k1 := ⟨_, rfl⟩
            have rv26 := n_rng v26
            refine r_isub C v26 (oDec_at oX6_write 27 rfl) ev26 ?_
            refine r_iload C (j := 4) (oDec_at oX6_write 28 rfl) rfl ?_
            obtain ⟨v27, ev27⟩ : ∃ z : Int32, z = v26 - x5 := ⟨_, rfl⟩
            have rv27 := n_rng v27
            refine r_isub C v27 (oDec_at oX6_write 29 rfl) ev27 ?_
            refine r_pc C 57 rfl ?_
            refine r_goto C (tgt := 62) (oDec_at oX6_write 30 rfl) (by decide) ?_
            refine r_istore C (lv' := [(0, .ref (oad E c0)), (1, .ref (oad E c1)), (3, .int x3), (4, .int x4), (5, .int x5), (6, .int v27)]) [1, 2, 3, 4, 5, 0] (oDec_at oX6_write 32 rfl) (by decide) rfl ?_
            refine r_aload_n C (j := 0) (oDec_at oX6_write 33 rfl) rfl rfl ?_
            refine r_getR (k := 3) (b := 3) C oCl6 hk0 (by decide) flX6_21 rfl rfl rfl (oDec_at oX6_write 34 rfl) ?_
            refine r_aload_n C (j := 1) (oDec_at oX6_write 35 rfl) rfl rfl ?_
            refine r_iload C (j := 5) (oDec_at oX6_write 36 rfl) rfl ?_
            refine r_callVi C oCl9 (kr6_3 hk0) miX9_tone mlX6_43 (ct_X9_tone l E (t) (c0 + 3) (kr6_3 hk0) c1 hk1 v27 ) (by decide) rfl rfl rfl (Nat.le_of_ble_eq_true rfl) (oDec_at oX6_write 37 rfl) (fun r29 u28 pu28 fu28 => ?_)
            try dsimp only at pu28
            have rr29 := n_rng r29
            refine r_pc C 74 rfl ?_
            refine r_istore C (lv' := [(0, .ref (oad E c0)), (1, .ref (oad E c1)), (3, .int x3), (4, .int x4), (5, .int x5), (6, .int v27), (7, .int r29)]) [1, 2, 3, 4, 5, 6, 0] (oDec_at oX6_write 38 rfl) (by decide) rfl ?_
            refine r_iload C (j := 6) (oDec_at oX6_write 39 rfl) rfl ?_
            refine r_iload C (j := 3) (oDec_at oX6_write 40 rfl) rfl ?_
            refine r_icmp_eq C 90 (oDec_at oX6_write 41 rfl) (by decide) (fun cd30 => ?_) (fun cd30 => ?_)
            · skip
              refine r_iload C (j := 6) (oDec_at oX6_write 46 rfl) rfl ?_
              refine r_istore C (lv' := [(0, .ref (oad E c0)), (1, .ref (oad E c1)), (3, .int x3), (4, .int r29), (5, .int x5), (6, .int v27), (7, .int r29)]) [1, 2, 3, 0, 4, 5, 6] (oDec_at oX6_write 47 rfl) (by decide) rfl ?_
              refine r_iload_n C (j := 2) (oDec_at oX6_write 48 rfl) rfl rfl ?_
              refine r_aload_n C (j := 0) (oDec_at oX6_write 49 rfl) rfl rfl ?_
              refine r_getR (k := 3) (b := 3) C oCl6 hk0 (by decide) flX6_21 rfl rfl rfl (oDec_at oX6_write 50 rfl) ?_
              refine r_aload_n C (j := 1) (oDec_at oX6_write 51 rfl) rfl rfl ?_
              refine r_pc C 100 rfl ?_
              refine r_iload C (j := 5) (oDec_at oX6_write 52 rfl) rfl ?_
              refine r_callVi C oCl4 hk1 miX4_lengthOf mlX6_51 (ct_X4_lengthOf l E (u28) c1 hk1 v27 ) (by decide) rfl rfl rfl (Nat.le_of_ble_eq_true rfl) (oDec_at oX6_write 53 rfl) (fun r32 u31 pu31 fu31 => ?_)
              try dsimp only at pu31
              have rr32 := n_rng r32
              refine r_callVi C oCl9 (kr6_3 hk0) miX9_stretch mlX6_55 (ct_X9_stretch l E (u31) (c0 + 3) (kr6_3 hk0) r32 ) (by decide) rfl rfl rfl (Nat.le_of_ble_eq_true rfl) (oDec_at oX6_write 54 rfl) (fun r34 u33 pu33 fu33 => ?_)
              try dsimp only at pu33
              have rr34 := n_rng r34
              obtain ⟨v35, ev35⟩ : ∃ z : Int32, z = x3 + r34 := ⟨_, rfl⟩
              have rv35 := n_rng v35
              refine r_iadd C v35 (oDec_at oX6_write 55 rfl) ev35 ?_
              refine r_istore_n C (lv' := [(0, .ref (oad E c0)), (1, .ref (oad E c1)), (3, .int v35), (4, .int r29), (5, .int x5), (6, .int v27), (7, .int r29)]) [1, 2, 0, 3, 4, 5, 6] (oDec_at oX6_write 56 rfl) rfl (by decide) rfl ?_
              obtain ⟨v36, ev36⟩ : ∃ z : Int32, x5 + Int32.ofInt 1 = z := ⟨_, rfl⟩
              have hv36 : v36.toInt = x5.toInt + 1 := n_inc ev36 (by decide) (by omega) (by omega)
              refine r_iinc C (j := 4) (lv' := [(0, .ref (oad E c0)), (1, .ref (oad E c1)), (3, .int v35), (4, .int r29), (5, .int v36), (6, .int v27), (7, .int r29)]) v36 [1, 2, 3, 4, 0, 5, 6] (oDec_at oX6_write 57 rfl) rfl ev36 (by decide) rfl ?_
              refine r_pc C 113 rfl ?_
              refine r_goto C (tgt := 28) (oDec_at oX6_write 58 rfl) (by decide) ?_
              refine r_pick C [0, 1, 2, 3, 4] rfl ?_
              exact (ih (n - 1) (by omega)) (u33) v35 r29 v36  (by omega) (by omega)
            · skip
              refine r_aload_n C (j := 0) (oDec_at oX6_write 42 rfl) rfl rfl ?_
              refine r_iload_n C (j := 2) (oDec_at oX6_write 43 rfl) rfl rfl ?_
              refine r_iload C (j := 6) (oDec_at oX6_write 44 rfl) rfl ?_
              refine r_callVv C oCl6 hk0 miX6_put mlX6_47 (ct_X6_put l E (u28) c0 hk0 x3 r29 ) (by decide) rfl rfl rfl (Nat.le_of_ble_eq_true rfl) (oDec_at oX6_write 45 rfl) (fun u37 pu37 fu37 => ?_)
              try dsimp only at pu37
              refine r_iload C (j := 6) (oDec_at oX6_write 46 rfl) rfl ?_
              refine r_istore C (lv' := [(0, .ref (oad E c0)), (1, .ref (oad E c1)), (3, .int x3), (4, .int r29), (5, .int x5), (6, .int v27), (7, .int r29)]) [1, 2, 3, 0, 4, 5, 6] (oDec_at oX6_write 47 rfl) (by decide) rfl ?_
              refine r_pc C 94 rfl ?_
              refine r_iload_n C (j := 2) (oDec_at oX6_write 48 rfl) rfl rfl ?_
              refine r_aload_n C (j := 0) (oDec_at oX6_write 49 rfl) rfl rfl ?_
              refine r_getR (k := 3) (b := 3) C oCl6 hk0 (by decide) flX6_21 rfl rfl rfl (oDec_at oX6_write 50 rfl) ?_
              refine r_aload_n C (j := 1) (oDec_at oX6_write 51 rfl) rfl rfl ?_
              refine r_iload C (j := 5) (oDec_at oX6_write 52 rfl) rfl ?_
              refine r_callVi C oCl4 hk1 miX4_lengthOf mlX6_51 (ct_X4_lengthOf l E (u37) c1 hk1 v27 ) (by decide) rfl rfl rfl (Nat.le_of_ble_eq_true rfl) (oDec_at oX6_write 53 rfl) (fun r40 u39 pu39 fu39 => ?_)
              try dsimp only at pu39
              have rr40 := n_rng r40
              refine r_pc C 105 rfl ?_
              refine r_callVi C oCl9 (kr6_3 hk0) miX9_stretch mlX6_55 (ct_X9_stretch l E (u39) (c0 + 3) (kr6_3 hk0) r40 ) (by decide) rfl rfl rfl (Nat.le_of_ble_eq_true rfl) (oDec_at oX6_write 54 rfl) (fun r42 u41 pu41 fu41 => ?_)
              try dsimp only at pu41
              have rr42 := n_rng r42
              obtain ⟨v43, ev43⟩ : ∃ z : Int32, z = x3 + r42 := ⟨_, rfl⟩
              have rv43 := n_rng v43
              refine r_iadd C v43 (oDec_at oX6_write 55 rfl) ev43 ?_
              refine r_istore_n C (lv' := [(0, .ref (oad E c0)), (1, .ref (oad E c1)), (3, .int v43), (4, .int r29), (5, .int x5), (6, .int v27), (7, .int r29)]) [1, 2, 0, 3, 4, 5, 6] (oDec_at oX6_write 56 rfl) rfl (by decide) rfl ?_
              obtain ⟨v44, ev44⟩ : ∃ z : Int32, x5 + Int32.ofInt 1 = z := ⟨_, rfl⟩
              have hv44 : v44.toInt = x5.toInt + 1 := n_inc ev44 (by decide) (by omega) (by omega)
              refine r_iinc C (j := 4) (lv' := [(0, .ref (oad E c0)), (1, .ref (oad E c1)), (3, .int v43), (4, .int r29), (5, .int v44), (6, .int v27), (7, .int r29)]) v44 [1, 2, 3, 4, 0, 5, 6] (oDec_at oX6_write 57 rfl) rfl ev44 (by decide) rfl ?_
              refine r_goto C (tgt := 28) (oDec_at oX6_write 58 rfl) (by decide) ?_
              refine r_pick C [0, 1, 2, 3, 4] rfl ?_
              exact (ih (n - 1) (by omega)) (u41) v43 r29 v44  (by omega) (by omega)
  refine r_aload_n C (j := 0) (oDec_at oX6_write 0 rfl) rfl rfl ?_
  refine r_getR (k := 3) (b := 3) C oCl6 hk0 (by decide) flX6_21 rfl rfl rfl (oDec_at oX6_write 1 rfl) ?_
  refine r_iload_n C (j := 2) (oDec_at oX6_write 2 rfl) rfl rfl ?_
  refine r_callVv C oCl9 (kr6_3 hk0) miX9_take mlX6_25 (ct_X9_take l E (s) (c0 + 3) (kr6_3 hk0) a2 ) (by decide) rfl rfl rfl (Nat.le_of_ble_eq_true rfl) (oDec_at oX6_write 3 rfl) (fun u45 pu45 fu45 => ?_)
  try dsimp only at pu45
  refine r_aload_n C (j := 0) (oDec_at oX6_write 4 rfl) rfl rfl ?_
  refine r_iconst C (oDec_at oX6_write 5 rfl) (v := k0) (by rw [qk0]; rfl) ?_
  refine r_pc C 10 rfl ?_
  refine r_puti (k := 2) (lo := 0) (hi := 25) C oCl6 hk0 (by decide) flX6_29 rfl rfl rfl rfl rfl rfl rfl rfl ⟨by omega, by omega⟩ (oDec_at oX6_write 6 rfl) ?_
  refine r_aload_n C (j := 0) (oDec_at oX6_write 7 rfl) rfl rfl ?_
  refine r_getR (k := 3) (b := 3) C oCl6 hk0 (by decide) flX6_21 rfl rfl rfl (oDec_at oX6_write 8 rfl) ?_
  obtain ⟨v47, ev47⟩ : ∃ z : Int32, ((pI u45 c0 2 k0)).1 (c0 + 3) 0 = z := ⟨_, rfl⟩
  have gv47 : (u45.1 (c0 + 3) 0).toInt = v47.toInt := congrArg Int32.toInt (((pI_ne _ _ (Or.inl (okd_ne (kr6_3 hk0) hk0 (by decide))))).symm.trans ev47)
  have rv47 := n_rng v47
  refine r_getiN (k := 0) (lo := (-2147483648)) (hi := 2147483647) C v47 oCl9 (kr6_3 hk0) (by decide) flX6_33 rfl rfl (ev47) rfl rfl (oDec_at oX6_write 9 rfl) (fun _ _ => ?_)
  refine r_istore_n C (lv' := [(0, .ref (oad E c0)), (1, .ref (oad E c1)), (2, .int a2), (3, .int v47)]) [1, 2, 3, 0] (oDec_at oX6_write 10 rfl) rfl (by decide) rfl ?_
  refine r_ldc C (v := km1000000000) (by rw [qkm1000000000]; exact kcX6_36) (oDec_at oX6_write 11 rfl) ?_
  refine r_pc C 23 rfl ?_
  refine r_istore C (lv' := [(0, .ref (oad E c0)), (1, .ref (oad E c1)), (2, .int a2), (3, .int v47), (4, .int km1000000000)]) [1, 2, 3, 4, 0] (oDec_at oX6_write 12 rfl) (by decide) rfl ?_
  refine r_iconst C (oDec_at oX6_write 13 rfl) (v := k0) (by rw [qk0]; rfl) ?_
  refine r_istore C (lv' := [(0, .ref (oad E c0)), (1, .ref (oad E c1)), (2, .int a2), (3, .int v47), (4, .int km1000000000), (5, .int k0)]) [1, 2, 3, 4, 5, 0] (oDec_at oX6_write 14 rfl) (by decide) rfl ?_
  refine r_pick C [0, 1, 3, 4, 5] rfl ?_
  exact (key (25 - k0.toInt).toNat) ((pI u45 c0 2 k0)) v47 km1000000000 k0  (by omega) (by omega)
set_option maxHeartbeats 4000000 in
set_option maxRecDepth 100000 in
theorem ct_X6_print (l : Launch) (E : oE) (s : oS) (c0 : Nat) (hk0 : okd c0 = 6)  : oMet l 1 yX6_print cX6_print 3 (some .int) [] E s [.ref (oad E c0)] (oPi (fun r u => True)) := by
  refine oMet.of (lv := [(0, .ref (oad E c0))]) (by decide +kernel) (Nat.le_of_ble_eq_true rfl) rfl (fun J C hT => ?_)
  have C : oC l 1 cX6_print RX6 3 (some .int) [] E s (oPi (fun r u => True)) J := C
  obtain ⟨k0, qk0⟩ : ∃ z : Int32, z = 0 := ⟨_, rfl⟩
  have ek0 : k0.toInt = 0 := by rw [qk0]; rfl
  obtain ⟨k15, qk15⟩ : ∃ z : Int32, z = 15 := ⟨_, rfl⟩
  have ek15 : k15.toInt = 15 := by rw [qk15]; rfl
  obtain ⟨k31, qk31⟩ : ∃ z : Int32, z = 31 := ⟨_, rfl⟩
  have ek31 : k31.toInt = 31 := by rw [qk31]; rfl
  obtain ⟨k131, qk131⟩ : ∃ z : Int32, z = 131 := ⟨_, rfl⟩
  have ek131 : k131.toInt = 131 := by rw [qk131]; rfl
  have key : ∀ n : Nat, (∀ (t : oS) (x1 : Int32) (x2 : Int32), (0 ≤ x2.toInt ∧ x2.toInt ≤ 25) → 26 - x2.toInt ≤ (n : Int) → J t 7 [(0, .ref (oad E c0)), (1, .int x1), (2, .int x2)] []) := by
    intro n
    induction n using Nat.strongRecOn with
    | _ n ih =>
      skip
      · intro t x1 x2  iv0 hmu
        have rx1 := n_rng x1
        have rx2 := n_rng x2
        refine r_iload_n C (j := 2) (oDec_at oX6_print 5 rfl) rfl rfl ?_
        refine r_aload_n C (j := 0) (oDec_at oX6_print 6 rfl) rfl rfl ?_
        obtain ⟨v1, ev1⟩ : ∃ z : Int32, (t).1 c0 2 = z := ⟨_, rfl⟩
        have gv1 : (t.1 c0 2).toInt = v1.toInt := congrArg Int32.toInt (ev1)
        refine r_geti (k := 2) (lo := 0) (hi := 25) C v1 oCl6 hk0 (by decide) flX6_29 rfl rfl (ev1) rfl rfl (oDec_at oX6_print 7 rfl) (fun b2 b2h => ?_)
        refine r_icmp_ge C 44 (oDec_at oX6_print 8 rfl) (by decide) (fun cd3 => ?_) (fun cd3 => ?_)
        · skip
          refine r_iload_n C (j := 1) (oDec_at oX6_print 27 rfl) rfl rfl ?_
          refine r_iload_n C (j := 1) (oDec_at oX6_print 28 rfl) rfl rfl ?_
          refine r_bipush C (oDec_at oX6_print 29 rfl) (v := k15) (by rw [qk15]; rfl) ?_
          obtain ⟨v4, ev4⟩ : ∃ z : Int32, (x1.toUInt32 >>> (k15.toUInt32 &&& Int32.toUInt32 31)).toInt32 = z := ⟨_, rfl⟩
          have rv4 := n_rng v4
          have hv4 := n_ushr 15 ev4 (by rw [qk15]; rfl) (by decide) 131072 (by decide)
          refine r_iushr C v4 (oDec_at oX6_print 30 rfl) ev4 ?_
          obtain ⟨v5, ev5⟩ : ∃ z : Int32, z = x1 ^^^ v4 := ⟨_, rfl⟩
          have rv5 := n_rng v5
          refine r_ixor C v5 (oDec_at oX6_print 31 rfl) ev5 ?_
          exact r_iret C (oDec_at oX6_print 32 rfl) ⟨_, rfl, trivial⟩
        · skip
          refine r_iload_n C (j := 1) (oDec_at oX6_print 9 rfl) rfl rfl ?_
          refine r_bipush C (oDec_at oX6_print 10 rfl) (v := k31) (by rw [qk31]; rfl) ?_
          obtain ⟨v6, ev6⟩ : ∃ z : Int32, z = x1 * k31 := ⟨_, rfl⟩
          have rv6 := n_rng v6
          refine r_imul C v6 (oDec_at oX6_print 11 rfl) ev6 ?_
          refine r_aload_n C (j := 0) (oDec_at oX6_print 12 rfl) rfl rfl ?_
          refine r_getR (k := 0) (b := 1) C oCl6 hk0 (by decide) flX6_9 rfl rfl rfl (oDec_at oX6_print 13 rfl) ?_
          refine r_iload_n C (j := 2) (oDec_at oX6_print 14 rfl) rfl rfl ?_
          refine r_pc C 24 rfl ?_
          obtain ⟨v7, ev7⟩ : ∃ z : Int32, (t).1 (c0 + 1) x2.toNatClampNeg = z := ⟨_, rfl⟩
          have rv7 := n_rng v7
          refine r_iald (n := 25) (lo := (-2147483648)) (hi := 2147483647) C v7 (kr6_1 hk0) (by decide) rfl rfl ⟨by omega, by omega⟩ (by decide) ev7 rfl rfl (oDec_at oX6_print 15 rfl) (fun _ _ => ?_)
          obtain ⟨v9, ev9⟩ : ∃ z : Int32, z = v6 + v7 := ⟨_, rfl⟩
          have rv9 := n_rng v9
          refine r_iadd C v9 (oDec_at oX6_print 16 rfl) ev9 ?_
          refine r_sipush C (oDec_at oX6_print 17 rfl) (v := k131) (by rw [qk131]; rfl) ?_
          obtain ⟨v10, ev10⟩ : ∃ z : Int32, z = v9 * k131 := ⟨_, rfl⟩
          have rv10 := n_rng v10
          refine r_imul C v10 (oDec_at oX6_print 18 rfl) ev10 ?_
          refine r_aload_n C (j := 0) (oDec_at oX6_print 19 rfl) rfl rfl ?_
          refine r_getR (k := 1) (b := 2) C oCl6 hk0 (by decide) flX6_15 rfl rfl rfl (oDec_at oX6_print 20 rfl) ?_
          refine r_pc C 34 rfl ?_
          refine r_iload_n C (j := 2) (oDec_at oX6_print 21 rfl) rfl rfl ?_
          obtain ⟨v11, ev11⟩ : ∃ z : Int32, (t).1 (c0 + 2) x2.toNatClampNeg = z := ⟨_, rfl⟩
          have rv11 := n_rng v11
          refine r_iald (n := 25) (lo := (-2147483648)) (hi := 2147483647) C v11 (kr6_2 hk0) (by decide) rfl rfl ⟨by omega, by omega⟩ (by decide) ev11 rfl rfl (oDec_at oX6_print 22 rfl) (fun _ _ => ?_)
          obtain ⟨v13, ev13⟩ : ∃ z : Int32, z = v10 + v11 := ⟨_, rfl⟩
          have rv13 := n_rng v13
          refine r_iadd C v13 (oDec_at oX6_print 23 rfl) ev13 ?_
          refine r_istore_n C (lv' := [(0, .ref (oad E c0)), (1, .int v13), (2, .int x2)]) [1, 0, 2] (oDec_at oX6_print 24 rfl) rfl (by decide) rfl ?_
          obtain ⟨v14, ev14⟩ : ∃ z : Int32, x2 + Int32.ofInt 1 = z := ⟨_, rfl⟩
          have hv14 : v14.toInt = x2.toInt + 1 := n_inc ev14 (by decide) (by omega) (by omega)
          refine r_iinc C (j := 2) (lv' := [(0, .ref (oad E c0)), (1, .int v13), (2, .int v14)]) v14 [1, 2, 0] (oDec_at oX6_print 25 rfl) rfl ev14 (by decide) rfl ?_
          refine r_goto C (tgt := 7) (oDec_at oX6_print 26 rfl) (by decide) ?_
          exact (ih (n - 1) (by omega)) (t) v13 v14  (by omega) (by omega)
  refine r_aload_n C (j := 0) (oDec_at oX6_print 0 rfl) rfl rfl ?_
  obtain ⟨v15, ev15⟩ : ∃ z : Int32, (s).1 c0 2 = z := ⟨_, rfl⟩
  have gv15 : (s.1 c0 2).toInt = v15.toInt := congrArg Int32.toInt (ev15)
  refine r_geti (k := 2) (lo := 0) (hi := 25) C v15 oCl6 hk0 (by decide) flX6_29 rfl rfl (ev15) rfl rfl (oDec_at oX6_print 1 rfl) (fun b16 b16h => ?_)
  refine r_istore_n C (lv' := [(0, .ref (oad E c0)), (1, .int v15)]) [1, 0] (oDec_at oX6_print 2 rfl) rfl (by decide) rfl ?_
  refine r_iconst C (oDec_at oX6_print 3 rfl) (v := k0) (by rw [qk0]; rfl) ?_
  refine r_istore_n C (lv' := [(0, .ref (oad E c0)), (1, .int v15), (2, .int k0)]) [1, 2, 0] (oDec_at oX6_print 4 rfl) rfl (by decide) rfl ?_
  exact (key (26 - k0.toInt).toNat) (s) v15 k0  (by omega) (by omega)
set_option maxHeartbeats 4000000 in
set_option maxRecDepth 100000 in
theorem ct_X6_isSame (l : Launch) (E : oE) (s : oS) (c0 : Nat) (hk0 : okd c0 = 6) (c1 : Nat) (hk1 : okd c1 = 6)  : oMet l 1 yX6_isSame cX6_isSame 3 (some .boolean) [] E s [.ref (oad E c0), .ref (oad E c1)] (oPi (fun r u => (0 ≤ r.toInt ∧ r.toInt ≤ 1))) := by
  refine oMet.of (lv := [(0, .ref (oad E c0)), (1, .ref (oad E c1))]) (by decide +kernel) (Nat.le_of_ble_eq_true rfl) rfl (fun J C hT => ?_)
  have C : oC l 1 cX6_isSame RX6 3 (some .boolean) [] E s (oPi (fun r u => (0 ≤ r.toInt ∧ r.toInt ≤ 1))) J := C
  obtain ⟨k0, qk0⟩ : ∃ z : Int32, z = 0 := ⟨_, rfl⟩
  have ek0 : k0.toInt = 0 := by rw [qk0]; rfl
  obtain ⟨k1, qk1⟩ : ∃ z : Int32, z = 1 := ⟨_, rfl⟩
  have ek1 : k1.toInt = 1 := by rw [qk1]; rfl
  have key : ∀ n : Nat, (∀ (t : oS) (x2 : Int32), (0 ≤ x2.toInt ∧ x2.toInt ≤ 25) → 26 - x2.toInt ≤ (n : Int) → J t 15 [(0, .ref (oad E c0)), (1, .ref (oad E c1)), (2, .int x2)] []) := by
    intro n
    induction n using Nat.strongRecOn with
    | _ n ih =>
      skip
      · intro t x2  iv0 hmu
        have rx2 := n_rng x2
        refine r_iload_n C (j := 2) (oDec_at oX6_isSame 9 rfl) rfl rfl ?_
        refine r_aload_n C (j := 0) (oDec_at oX6_isSame 10 rfl) rfl rfl ?_
        obtain ⟨v1, ev1⟩ : ∃ z : Int32, (t).1 c0 2 = z := ⟨_, rfl⟩
        have gv1 : (t.1 c0 2).toInt = v1.toInt := congrArg Int32.toInt (ev1)
        refine r_geti (k := 2) (lo := 0) (hi := 25) C v1 oCl6 hk0 (by decide) flX6_29 rfl rfl (ev1) rfl rfl (oDec_at oX6_isSame 11 rfl) (fun b2 b2h => ?_)
        refine r_icmp_ge C 61 (oDec_at oX6_isSame 12 rfl) (by decide) (fun cd3 => ?_) (fun cd3 => ?_)
        · skip
          refine r_iconst C (oDec_at oX6_isSame 35 rfl) (v := k1) (by rw [qk1]; rfl) ?_
          exact r_zret C (n_bool (by omega)) (oDec_at oX6_isSame 36 rfl) ⟨_, rfl, by omega⟩
        · skip
          refine r_aload_n C (j := 0) (oDec_at oX6_isSame 13 rfl) rfl rfl ?_
          refine r_getR (k := 0) (b := 1) C oCl6 hk0 (by decide) flX6_9 rfl rfl rfl (oDec_at oX6_isSame 14 rfl) ?_
          refine r_iload_n C (j := 2) (oDec_at oX6_isSame 15 rfl) rfl rfl ?_
          obtain ⟨v4, ev4⟩ : ∃ z : Int32, (t).1 (c0 + 1) x2.toNatClampNeg = z := ⟨_, rfl⟩
          have rv4 := n_rng v4
          refine r_iald (n := 25) (lo := (-2147483648)) (hi := 2147483647) C v4 (kr6_1 hk0) (by decide) rfl rfl ⟨by omega, by omega⟩ (by decide) ev4 rfl rfl (oDec_at oX6_isSame 16 rfl) (fun _ _ => ?_)
          refine r_aload_n C (j := 1) (oDec_at oX6_isSame 17 rfl) rfl rfl ?_
          refine r_getR (k := 0) (b := 1) C oCl6 hk1 (by decide) flX6_9 rfl rfl rfl (oDec_at oX6_isSame 18 rfl) ?_
          refine r_pc C 33 rfl ?_
          refine r_iload_n C (j := 2) (oDec_at oX6_isSame 19 rfl) rfl rfl ?_
          obtain ⟨v6, ev6⟩ : ∃ z : Int32, (t).1 (c1 + 1) x2.toNatClampNeg = z := ⟨_, rfl⟩
          have rv6 := n_rng v6
          refine r_iald (n := 25) (lo := (-2147483648)) (hi := 2147483647) C v6 (kr6_1 hk1) (by decide) rfl rfl ⟨by omega, by omega⟩ (by decide) ev6 rfl rfl (oDec_at oX6_isSame 20 rfl) (fun _ _ => ?_)
          refine r_icmp_ne C 53 (oDec_at oX6_isSame 21 rfl) (by decide) (fun cd8 => ?_) (fun cd8 => ?_)
          · skip
            refine r_iconst C (oDec_at oX6_isSame 31 rfl) (v := k0) (by rw [qk0]; rfl) ?_
            exact r_zret C (n_bool (by omega)) (oDec_at oX6_isSame 32 rfl) ⟨_, rfl, by omega⟩
          · skip
            refine r_aload_n C (j := 0) (oDec_at oX6_isSame 22 rfl) rfl rfl ?_
            refine r_getR (k := 1) (b := 2) C oCl6 hk0 (by decide) flX6_15 rfl rfl rfl (oDec_at oX6_isSame 23 rfl) ?_
            refine r_iload_n C (j := 2) (oDec_at oX6_isSame 24 rfl) rfl rfl ?_
            obtain ⟨v9, ev9⟩ : ∃ z : Int32, (t).1 (c0 + 2) x2.toNatClampNeg = z := ⟨_, rfl⟩
            have rv9 := n_rng v9
            refine r_iald (n := 25) (lo := (-2147483648)) (hi := 2147483647) C v9 (kr6_2 hk0) (by decide) rfl rfl ⟨by omega, by omega⟩ (by decide) ev9 rfl rfl (oDec_at oX6_isSame 25 rfl) (fun _ _ => ?_)
            refine r_aload_n C (j := 1) (oDec_at oX6_isSame 26 rfl) rfl rfl ?_
            refine r_getR (k := 1) (b := 2) C oCl6 hk1 (by decide) flX6_15 rfl rfl rfl (oDec_at oX6_isSame 27 rfl) ?_
            refine r_pc C 48 rfl ?_
            refine r_iload_n C (j := 2) (oDec_at oX6_isSame 28 rfl) rfl rfl ?_
            obtain ⟨v11, ev11⟩ : ∃ z : Int32, (t).1 (c1 + 2) x2.toNatClampNeg = z := ⟨_, rfl⟩
            have rv11 := n_rng v11
            refine r_iald (n := 25) (lo := (-2147483648)) (hi := 2147483647) C v11 (kr6_2 hk1) (by decide) rfl rfl ⟨by omega, by omega⟩ (by decide) ev11 rfl rfl (oDec_at oX6_isSame 29 rfl) (fun _ _ => ?_)
            refine r_icmp_eq C 55 (oDec_at oX6_isSame 30 rfl) (by decide) (fun cd13 => ?_) (fun cd13 => ?_)
            · skip
              obtain ⟨v14, ev14⟩ : ∃ z : Int32, x2 + Int32.ofInt 1 = z := ⟨_, rfl⟩
              have hv14 : v14.toInt = x2.toInt + 1 := n_inc ev14 (by decide) (by omega) (by omega)
              refine r_iinc C (j := 2) (lv' := [(0, .ref (oad E c0)), (1, .ref (oad E c1)), (2, .int v14)]) v14 [1, 2, 0] (oDec_at oX6_isSame 33 rfl) rfl ev14 (by decide) rfl ?_
              refine r_goto C (tgt := 15) (oDec_at oX6_isSame 34 rfl) (by decide) ?_
              exact (ih (n - 1) (by omega)) (t) v14  (by omega) (by omega)
            · skip
              refine r_iconst C (oDec_at oX6_isSame 31 rfl) (v := k0) (by rw [qk0]; rfl) ?_
              exact r_zret C (n_bool (by omega)) (oDec_at oX6_isSame 32 rfl) ⟨_, rfl, by omega⟩
  refine r_aload_n C (j := 0) (oDec_at oX6_isSame 0 rfl) rfl rfl ?_
  obtain ⟨v15, ev15⟩ : ∃ z : Int32, (s).1 c0 2 = z := ⟨_, rfl⟩
  have gv15 : (s.1 c0 2).toInt = v15.toInt := congrArg Int32.toInt (ev15)
  refine r_geti (k := 2) (lo := 0) (hi := 25) C v15 oCl6 hk0 (by decide) flX6_29 rfl rfl (ev15) rfl rfl (oDec_at oX6_isSame 1 rfl) (fun b16 b16h => ?_)
  refine r_aload_n C (j := 1) (oDec_at oX6_isSame 2 rfl) rfl rfl ?_
  obtain ⟨v17, ev17⟩ : ∃ z : Int32, (s).1 c1 2 = z := ⟨_, rfl⟩
  have gv17 : (s.1 c1 2).toInt = v17.toInt := congrArg Int32.toInt (ev17)
  refine r_geti (k := 2) (lo := 0) (hi := 25) C v17 oCl6 hk1 (by decide) flX6_29 rfl rfl (ev17) rfl rfl (oDec_at oX6_isSame 3 rfl) (fun b18 b18h => ?_)
  refine r_icmp_eq C 13 (oDec_at oX6_isSame 4 rfl) (by decide) (fun cd19 => ?_) (fun cd19 => ?_)
  · skip
    refine r_iconst C (oDec_at oX6_isSame 7 rfl) (v := k0) (by rw [qk0]; rfl) ?_
    refine r_istore_n C (lv' := [(0, .ref (oad E c0)), (1, .ref (oad E c1)), (2, .int k0)]) [1, 2, 0] (oDec_at oX6_isSame 8 rfl) rfl (by decide) rfl ?_
    exact (key (26 - k0.toInt).toNat) (s) k0  (by omega) (by omega)
  · skip
    refine r_iconst C (oDec_at oX6_isSame 5 rfl) (v := k0) (by rw [qk0]; rfl) ?_
    exact r_zret C (n_bool (by omega)) (oDec_at oX6_isSame 6 rfl) ⟨_, rfl, by omega⟩
