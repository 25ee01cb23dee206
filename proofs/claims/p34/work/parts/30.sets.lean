set_option maxHeartbeats 4000000 in
set_option maxRecDepth 100000 in
theorem ct_X7_addPair (l : Launch) (E : oE) (s : oS) (a1 : Int32) (a2 : Int32) (a3 : Int32) (hp0 : 0 ≤ a1.toInt ∧ a1.toInt < 40) (hp1 : 0 ≤ a2.toInt ∧ a2.toInt < 40) (hp2 : a3.toInt ≤ 40) : oMet l 1 yX7_addPair cX7_addPair 7 none [(7, 4), (7, 5), (40, 9999), (41, 9999)] E s [.ref (oad E 52), .int a1, .int a2, .int a3] (oPv (fun u => True)) := by
  refine oMet.of (lv := [(0, .ref (oad E 52)), (1, .int a1), (2, .int a2), (3, .int a3)]) (by decide +kernel) (Nat.le_of_ble_eq_true rfl) rfl (fun J C hT => ?_)
  have C : oC l 1 cX7_addPair RX7 7 none [(7, 4), (7, 5), (40, 9999), (41, 9999)] E s (oPv (fun u => True)) J := C
  obtain ⟨k1, qk1⟩ : ∃ z : Int32, z = 1 := ⟨_, rfl⟩
  have ek1 : k1.toInt = 1 := by rw [qk1]; rfl
  obtain ⟨k40, qk40⟩ : ∃ z : Int32, z = 40 := ⟨_, rfl⟩
  have ek40 : k40.toInt = 40 := by rw [qk40]; rfl
  have rg1 := n_rng a1
  have rg2 := n_rng a2
  have rg3 := n_rng a3
  have key : ∀ n : Nat, (∀ (t : oS) (x4 : Int64) (x6 : Int32), (0 ≤ x6.toInt ∧ x6.toInt ≤ 40) → 41 - x6.toInt ≤ (n : Int) → J t 57 [(0, .ref (oad E 52)), (1, .int a1), (2, .int a2), (3, .int a3), (4, .long x4), (6, .int x6)] []) := by
    intro n
    induction n using Nat.strongRecOn with
    | _ n ih =>
      skip
      · intro t x4 x6  iv0 hmu
        have rx6 := n_rng x6
        refine r_iload C (j := 5) (oDec_at oX7_addPair 36 rfl) rfl ?_
        refine r_iload_n C (j := 3) (oDec_at oX7_addPair 37 rfl) rfl rfl ?_
        refine r_icmp_ge C 124 (oDec_at oX7_addPair 38 rfl) (by decide) (fun cd1 => ?_) (fun cd1 => ?_)
        · skip
          exact r_vret C (oDec_at oX7_addPair 75 rfl) ⟨rfl, trivial⟩
        · skip
          refine r_lload C (j := 4) (oDec_at oX7_addPair 39 rfl) rfl ?_
          refine r_iload C (j := 5) (oDec_at oX7_addPair 40 rfl) rfl ?_
          obtain ⟨v2, ev2⟩ : ∃ z : Int64, x4 >>> (x6.toInt64 &&& 63) = z := ⟨_, rfl⟩
          refine r_lshr C v2 (oDec_at oX7_addPair 41 rfl) ev2 ?_
          refine r_lconst C (oDec_at oX7_addPair 42 rfl) (v := 1) rfl ?_
          obtain ⟨v3, ev3⟩ : ∃ z : Int64, z = v2 &&& (1 : Int64) := ⟨_, rfl⟩
          refine r_land C v3 (oDec_at oX7_addPair 43 rfl) ev3 ?_
          refine r_lconst C (oDec_at oX7_addPair 44 rfl) (v := 1) rfl ?_
          refine r_pc C 71 rfl ?_
          obtain ⟨v4, ev4⟩ : ∃ z : Int32, z = lg_cmp v3 (1 : Int64) := ⟨_, rfl⟩
          have hv4 := n_lcmp ev4
          refine r_lcmp C v4 (oDec_at oX7_addPair 45 rfl) ev4 ?_
          refine r_if_ne C 118 (oDec_at oX7_addPair 46 rfl) (by decide) (fun cd5 => ?_) (fun cd5 => ?_)
          · skip
            obtain ⟨v6, ev6⟩ : ∃ z : Int32, x6 + Int32.ofInt 1 = z := ⟨_, rfl⟩
            have hv6 : v6.toInt = x6.toInt + 1 := n_inc ev6 (by decide) (by omega) (by omega)
            refine r_iinc C (j := 5) (lv' := [(0, .ref (oad E 52)), (1, .int a1), (2, .int a2), (3, .int a3), (4, .long x4), (6, .int v6)]) v6 [1, 2, 3, 4, 5, 0] (oDec_at oX7_addPair 73 rfl) rfl ev6 (by decide) rfl ?_
            refine r_goto C (tgt := 57) (oDec_at oX7_addPair 74 rfl) (by decide) ?_
            exact (ih (n - 1) (by omega)) (t) x4 v6  (by omega) (by omega)
          · skip
            refine r_aload_n C (j := 0) (oDec_at oX7_addPair 47 rfl) rfl rfl ?_
            obtain ⟨v7, ev7⟩ : ∃ z : Int32, (t).1 52 5 = z := ⟨_, rfl⟩
            have gv7 : (t.1 52 5).toInt = v7.toInt := congrArg Int32.toInt (ev7)
            refine r_geti (k := 5) (lo := 0) (hi := 9880) C v7 oCl7 rfl (by decide) flX7_37 rfl rfl (ev7) rfl rfl (oDec_at oX7_addPair 48 rfl) (fun b8 b8h => ?_)
            refine r_aload_n C (j := 0) (oDec_at oX7_addPair 49 rfl) rfl rfl ?_
            refine r_getF (k := 3) (b := 55) C oCl7 rfl (by decide) flX7_19 rfl rfl rfl (oDec_at oX7_addPair 50 rfl) ?_
            obtain ⟨v9, ev9⟩ : ∃ z : Int32, Int32.ofNat 9880 = z := ⟨_, rfl⟩
            have hv9 : v9.toInt = 9880 := by rw [← ev9]; rfl
            refine r_alen0 (n := 9880) C v9 rfl (by decide) rfl rfl (by decide) ev9 (oDec_at oX7_addPair 51 rfl) ?_
            refine r_icmp_ge C 118 (oDec_at oX7_addPair 52 rfl) (by decide) (fun cd10 => ?_) (fun cd10 => ?_)
            · skip
              obtain ⟨v11, ev11⟩ : ∃ z : Int32, x6 + Int32.ofInt 1 = z := ⟨_, rfl⟩
              have hv11 : v11.toInt = x6.toInt + 1 := n_inc ev11 (by decide) (by omega) (by omega)
              refine r_iinc C (j := 5) (lv' := [(0, .ref (oad E 52)), (1, .int a1), (2, .int a2), (3, .int a3), (4, .long x4), (6, .int v11)]) v11 [1, 2, 3, 4, 5, 0] (oDec_at oX7_addPair 73 rfl) rfl ev11 (by decide) rfl ?_
              refine r_goto C (tgt := 57) (oDec_at oX7_addPair 74 rfl) (by decide) ?_
              exact (ih (n - 1) (by omega)) (t) x4 v11  (by omega) (by omega)
            · skip
              refine r_aload_n C (j := 0) (oDec_at oX7_addPair 53 rfl) rfl rfl ?_
              refine r_getF (k := 3) (b := 55) C oCl7 rfl (by decide) flX7_19 rfl rfl rfl (oDec_at oX7_addPair 54 rfl) ?_
              refine r_aload_n C (j := 0) (oDec_at oX7_addPair 55 rfl) rfl rfl ?_
              refine r_geti (k := 5) (lo := 0) (hi := 9880) C v7 oCl7 rfl (by decide) flX7_37 rfl rfl (ev7) rfl rfl (oDec_at oX7_addPair 56 rfl) (fun _ _ => ?_)
              refine r_iload_n C (j := 1) (oDec_at oX7_addPair 57 rfl) rfl rfl ?_
              refine r_bipush C (oDec_at oX7_addPair 58 rfl) (v := k40) (by rw [qk40]; rfl) ?_
              refine r_pc C 98 rfl ?_
              obtain ⟨v12, ev12⟩ : ∃ z : Int32, z = a1 * k40 := ⟨_, rfl⟩
              have hv12 : v12.toInt = a1.toInt * 40 := n_mulK 40 ev12 ek40 (by omega) (by omega)
              refine r_imul C v12 (oDec_at oX7_addPair 59 rfl) ev12 ?_
              refine r_iload_n C (j := 2) (oDec_at oX7_addPair 60 rfl) rfl rfl ?_
              obtain ⟨v13, ev13⟩ : ∃ z : Int32, z = v12 + a2 := ⟨_, rfl⟩
              have hv13 : v13.toInt = v12.toInt + a2.toInt := n_add ev13 (by omega) (by omega)
              refine r_iadd C v13 (oDec_at oX7_addPair 61 rfl) ev13 ?_
              refine r_bipush C (oDec_at oX7_addPair 62 rfl) (v := k40) (by rw [qk40]; rfl) ?_
              obtain ⟨v14, ev14⟩ : ∃ z : Int32, z = v13 * k40 := ⟨_, rfl⟩
              have hv14 : v14.toInt = v13.toInt * 40 := n_mulK 40 ev14 ek40 (by omega) (by omega)
              refine r_imul C v14 (oDec_at oX7_addPair 63 rfl) ev14 ?_
              refine r_iload C (j := 5) (oDec_at oX7_addPair 64 rfl) rfl ?_
              refine r_pc C 106 rfl ?_
              obtain ⟨v15, ev15⟩ : ∃ z : Int32, z = v14 + x6 := ⟨_, rfl⟩
              have hv15 : v15.toInt = v14.toInt + x6.toInt := n_add ev15 (by omega) (by omega)
              refine r_iadd C v15 (oDec_at oX7_addPair 65 rfl) ev15 ?_
              refine r_iast (n := 9880) (lo := (-2147483648)) (hi := 2147483647) C rfl (by decide) rfl rfl ⟨by omega, by omega⟩ (by decide) rfl rfl rfl rfl (n_rng _) (oDec_at oX7_addPair 66 rfl) ?_
              refine r_aload_n C (j := 0) (oDec_at oX7_addPair 67 rfl) rfl rfl ?_
              refine r_dup C (oDec_at oX7_addPair 68 rfl) rfl ?_
              refine r_geti (k := 5) (lo := 0) (hi := 9880) C v7 oCl7 rfl (by decide) flX7_37 rfl rfl (((pI_ne (a := 52) (b := 5) (c := 55) _ _ (Or.inl (by decide)))).trans (ev7)) rfl rfl (oDec_at oX7_addPair 69 rfl) (fun _ _ => ?_)
              refine r_iconst C (oDec_at oX7_addPair 70 rfl) (v := k1) (by rw [qk1]; rfl) ?_
              refine r_pc C 114 rfl ?_
              obtain ⟨v16, ev16⟩ : ∃ z : Int32, z = v7 + k1 := ⟨_, rfl⟩
              have hv16 : v16.toInt = v7.toInt + k1.toInt := n_add ev16 (by omega) (by omega)
              refine r_iadd C v16 (oDec_at oX7_addPair 71 rfl) ev16 ?_
              refine r_puti (k := 5) (lo := 0) (hi := 9880) C oCl7 rfl (by decide) flX7_37 rfl rfl rfl rfl rfl rfl rfl rfl ⟨by omega, by omega⟩ (oDec_at oX7_addPair 72 rfl) ?_
              obtain ⟨v17, ev17⟩ : ∃ z : Int32, x6 + Int32.ofInt 1 = z := ⟨_, rfl⟩
              have hv17 : v17.toInt = x6.toInt + 1 := n_inc ev17 (by decide) (by omega) (by omega)
              refine r_iinc C (j := 5) (lv' := [(0, .ref (oad E 52)), (1, .int a1), (2, .int a2), (3, .int a3), (4, .long x4), (6, .int v17)]) v17 [1, 2, 3, 4, 5, 0] (oDec_at oX7_addPair 73 rfl) rfl ev17 (by decide) rfl ?_
              refine r_goto C (tgt := 57) (oDec_at oX7_addPair 74 rfl) (by decide) ?_
              exact (ih (n - 1) (by omega)) ((pI (pI t 55 v7.toNatClampNeg v15) 52 5 v16)) x4 v17  (by omega) (by omega)
  refine r_aload_n C (j := 0) (oDec_at oX7_addPair 0 rfl) rfl rfl ?_
  obtain ⟨v18, ev18⟩ : ∃ z : Int32, (s).1 52 4 = z := ⟨_, rfl⟩
  have gv18 : (s.1 52 4).toInt = v18.toInt := congrArg Int32.toInt (ev18)
  refine r_geti (k := 4) (lo := 0) (hi := 780) C v18 oCl7 rfl (by decide) flX7_34 rfl rfl (ev18) rfl rfl (oDec_at oX7_addPair 1 rfl) (fun b19 b19h => ?_)
  refine r_aload_n C (j := 0) (oDec_at oX7_addPair 2 rfl) rfl rfl ?_
  refine r_getF (k := 2) (b := 54) C oCl7 rfl (by decide) flX7_15 rfl rfl rfl (oDec_at oX7_addPair 3 rfl) ?_
  obtain ⟨v20, ev20⟩ : ∃ z : Int32, Int32.ofNat 780 = z := ⟨_, rfl⟩
  have hv20 : v20.toInt = 780 := by rw [← ev20]; rfl
  refine r_alen0 (n := 780) C v20 rfl (by decide) rfl rfl (by decide) ev20 (oDec_at oX7_addPair 4 rfl) ?_
  refine r_icmp_ge C 37 (oDec_at oX7_addPair 5 rfl) (by decide) (fun cd21 => ?_) (fun cd21 => ?_)
  · skip
    refine r_aload_n C (j := 0) (oDec_at oX7_addPair 22 rfl) rfl rfl ?_
    refine r_getF (k := 1) (b := 53) C oCl7 rfl (by decide) flX7_11 rfl rfl rfl (oDec_at oX7_addPair 23 rfl) ?_
    refine r_iload_n C (j := 1) (oDec_at oX7_addPair 24 rfl) rfl rfl ?_
    obtain ⟨v22, ev22⟩ : ∃ z : Int64, (s).2.1 53 a1.toNatClampNeg = z := ⟨_, rfl⟩
    refine r_lald (n := 40) C v22 rfl (by decide) rfl rfl ⟨by omega, by omega⟩ (by decide) ev22 (oDec_at oX7_addPair 25 rfl) ?_
    refine r_aload_n C (j := 0) (oDec_at oX7_addPair 26 rfl) rfl rfl ?_
    refine r_getF (k := 1) (b := 53) C oCl7 rfl (by decide) flX7_11 rfl rfl rfl (oDec_at oX7_addPair 27 rfl) ?_
    refine r_pc C 47 rfl ?_
    refine r_iload_n C (j := 2) (oDec_at oX7_addPair 28 rfl) rfl rfl ?_
    obtain ⟨v23, ev23⟩ : ∃ z : Int64, (s).2.1 53 a2.toNatClampNeg = z := ⟨_, rfl⟩
    refine r_lald (n := 40) C v23 rfl (by decide) rfl rfl ⟨by omega, by omega⟩ (by decide) ev23 (oDec_at oX7_addPair 29 rfl) ?_
    obtain ⟨v24, ev24⟩ : ∃ z : Int64, z = v22 &&& v23 := ⟨_, rfl⟩
    refine r_land C v24 (oDec_at oX7_addPair 30 rfl) ev24 ?_
    refine r_lstore C (lv' := [(0, .ref (oad E 52)), (1, .int a1), (2, .int a2), (3, .int a3), (4, .long v24)]) [1, 2, 3, 4, 0] (oDec_at oX7_addPair 31 rfl) (by decide) rfl ?_
    refine r_iload_n C (j := 2) (oDec_at oX7_addPair 32 rfl) rfl rfl ?_
    refine r_iconst C (oDec_at oX7_addPair 33 rfl) (v := k1) (by rw [qk1]; rfl) ?_
    refine r_pc C 54 rfl ?_
    obtain ⟨v25, ev25⟩ : ∃ z : Int32, z = a2 + k1 := ⟨_, rfl⟩
    have hv25 : v25.toInt = a2.toInt + k1.toInt := n_add ev25 (by omega) (by omega)
    refine r_iadd C v25 (oDec_at oX7_addPair 34 rfl) ev25 ?_
    refine r_istore C (lv' := [(0, .ref (oad E 52)), (1, .int a1), (2, .int a2), (3, .int a3), (4, .long v24), (6, .int v25)]) [1, 2, 3, 4, 5, 0] (oDec_at oX7_addPair 35 rfl) (by decide) rfl ?_
    exact (key (41 - v25.toInt).toNat) (s) v24 v25  (by omega) (by omega)
  · skip
    refine r_aload_n C (j := 0) (oDec_at oX7_addPair 6 rfl) rfl rfl ?_
    refine r_getF (k := 2) (b := 54) C oCl7 rfl (by decide) flX7_15 rfl rfl rfl (oDec_at oX7_addPair 7 rfl) ?_
    refine r_aload_n C (j := 0) (oDec_at oX7_addPair 8 rfl) rfl rfl ?_
    refine r_geti (k := 4) (lo := 0) (hi := 780) C v18 oCl7 rfl (by decide) flX7_34 rfl rfl (ev18) rfl rfl (oDec_at oX7_addPair 9 rfl) (fun _ _ => ?_)
    refine r_iload_n C (j := 1) (oDec_at oX7_addPair 10 rfl) rfl rfl ?_
    refine r_bipush C (oDec_at oX7_addPair 11 rfl) (v := k40) (by rw [qk40]; rfl) ?_
    refine r_pc C 23 rfl ?_
    obtain ⟨v26, ev26⟩ : ∃ z : Int32, z = a1 * k40 := ⟨_, rfl⟩
    have hv26 : v26.toInt = a1.toInt * 40 := n_mulK 40 ev26 ek40 (by omega) (by omega)
    refine r_imul C v26 (oDec_at oX7_addPair 12 rfl) ev26 ?_
    refine r_iload_n C (j := 2) (oDec_at oX7_addPair 13 rfl) rfl rfl ?_
    obtain ⟨v27, ev27⟩ : ∃ z : Int32, z = v26 + a2 := ⟨_, rfl⟩
    have hv27 : v27.toInt = v26.toInt + a2.toInt := n_add ev27 (by omega) (by omega)
    refine r_iadd C v27 (oDec_at oX7_addPair 14 rfl) ev27 ?_
    refine r_iast (n := 780) (lo := (-2147483648)) (hi := 2147483647) C rfl (by decide) rfl rfl ⟨by omega, by omega⟩ (by decide) rfl rfl rfl rfl (n_rng _) (oDec_at oX7_addPair 15 rfl) ?_
    refine r_aload_n C (j := 0) (oDec_at oX7_addPair 16 rfl) rfl rfl ?_
    refine r_dup C (oDec_at oX7_addPair 17 rfl) rfl ?_
    refine r_pc C 29 rfl ?_
    refine r_geti (k := 4) (lo := 0) (hi := 780) C v18 oCl7 rfl (by decide) flX7_34 rfl rfl (((pI_ne (a := 52) (b := 4) (c := 54) _ _ (Or.inl (by decide)))).trans (ev18)) rfl rfl (oDec_at oX7_addPair 18 rfl) (fun _ _ => ?_)
    refine r_iconst C (oDec_at oX7_addPair 19 rfl) (v := k1) (by rw [qk1]; rfl) ?_
    obtain ⟨v28, ev28⟩ : ∃ z : Int32, z = v18 + k1 := ⟨_, rfl⟩
    have hv28 : v28.toInt = v18.toInt + k1.toInt := n_add ev28 (by omega) (by omega)
    refine r_iadd C v28 (oDec_at oX7_addPair 20 rfl) ev28 ?_
    refine r_puti (k := 4) (lo := 0) (hi := 780) C oCl7 rfl (by decide) flX7_34 rfl rfl rfl rfl rfl rfl rfl rfl ⟨by omega, by omega⟩ (oDec_at oX7_addPair 21 rfl) ?_
    refine r_aload_n C (j := 0) (oDec_at oX7_addPair 22 rfl) rfl rfl ?_
    refine r_getF (k := 1) (b := 53) C oCl7 rfl (by decide) flX7_11 rfl rfl rfl (oDec_at oX7_addPair 23 rfl) ?_
    refine r_pc C 41 rfl ?_
    refine r_iload_n C (j := 1) (oDec_at oX7_addPair 24 rfl) rfl rfl ?_
    obtain ⟨v29, ev29⟩ : ∃ z : Int64, ((pI (pI s 54 v18.toNatClampNeg v27) 52 4 v28)).2.1 53 a1.toNatClampNeg = z := ⟨_, rfl⟩
    refine r_lald (n := 40) C v29 rfl (by decide) rfl rfl ⟨by omega, by omega⟩ (by decide) ev29 (oDec_at oX7_addPair 25 rfl) ?_
    refine r_aload_n C (j := 0) (oDec_at oX7_addPair 26 rfl) rfl rfl ?_
    refine r_getF (k := 1) (b := 53) C oCl7 rfl (by decide) flX7_11 rfl rfl rfl (oDec_at oX7_addPair 27 rfl) ?_
    refine r_iload_n C (j := 2) (oDec_at oX7_addPair 28 rfl) rfl rfl ?_
    obtain ⟨v30, ev30⟩ : ∃ z : Int64, ((pI (pI s 54 v18.toNatClampNeg v27) 52 4 v28)).2.1 53 a2.toNatClampNeg = z := ⟨_, rfl⟩
    refine r_lald (n := 40) C v30 rfl (by decide) rfl rfl ⟨by omega, by omega⟩ (by decide) ev30 (oDec_at oX7_addPair 29 rfl) ?_
    refine r_pc C 49 rfl ?_
    obtain ⟨v31, ev31⟩ : ∃ z : Int64, z = v29 &&& v30 := ⟨_, rfl⟩
    refine r_land C v31 (oDec_at oX7_addPair 30 rfl) ev31 ?_
    refine r_lstore C (lv' := [(0, .ref (oad E 52)), (1, .int a1), (2, .int a2), (3, .int a3), (4, .long v31)]) [1, 2, 3, 4, 0] (oDec_at oX7_addPair 31 rfl) (by decide) rfl ?_
    refine r_iload_n C (j := 2) (oDec_at oX7_addPair 32 rfl) rfl rfl ?_
    refine r_iconst C (oDec_at oX7_addPair 33 rfl) (v := k1) (by rw [qk1]; rfl) ?_
    obtain ⟨v32, ev32⟩ : ∃ z : Int32, z = a2 + k1 := ⟨_, rfl⟩
    have hv32 : v32.toInt = a2.toInt + k1.toInt := n_add ev32 (by omega) (by omega)
    refine r_iadd C v32 (oDec_at oX7_addPair 34 rfl) ev32 ?_
    refine r_istore C (lv' := [(0, .ref (oad E 52)), (1, .int a1), (2, .int a2), (3, .int a3), (4, .long v31), (6, .int v32)]) [1, 2, 3, 4, 5, 0] (oDec_at oX7_addPair 35 rfl) (by decide) rfl ?_
    exact (key (41 - v32.toInt).toNat) ((pI (pI s 54 v18.toNatClampNeg v27) 52 4 v28)) v31 v32  (by omega) (by omega)
set_option maxHeartbeats 4000000 in
set_option maxRecDepth 100000 in
theorem ct_X7_memberOf (l : Launch) (E : oE) (s : oS) (a1 : Int32) (a2 : Int32) (a3 : Int32)  : oMet l 1 yX7_memberOf cX7_memberOf 6 (some .int) [] E s [.ref (oad E 52), .int a1, .int a2, .int a3] (oPi (fun r u => True)) := by
  refine oMet.of (lv := [(0, .ref (oad E 52)), (1, .int a1), (2, .int a2), (3, .int a3)]) (by decide +kernel) (Nat.le_of_ble_eq_true rfl) rfl (fun J C hT => ?_)
  have C : oC l 1 cX7_memberOf RX7 6 (some .int) [] E s (oPi (fun r u => True)) J := C
  obtain ⟨km1, qkm1⟩ : ∃ z : Int32, z = (-1) := ⟨_, rfl⟩
  have ekm1 : km1.toInt = (-1) := by rw [qkm1]; rfl
  obtain ⟨k2, qk2⟩ : ∃ z : Int32, z = 2 := ⟨_, rfl⟩
  have ek2 : k2.toInt = 2 := by rw [qk2]; rfl
  obtain ⟨k3, qk3⟩ : ∃ z : Int32, z = 3 := ⟨_, rfl⟩
  have ek3 : k3.toInt = 3 := by rw [qk3]; rfl
  obtain ⟨k40, qk40⟩ : ∃ z : Int32, z = 40 := ⟨_, rfl⟩
  have ek40 : k40.toInt = 40 := by rw [qk40]; rfl
  have rg1 := n_rng a1
  have rg2 := n_rng a2
  have rg3 := n_rng a3
  have key : ∀ n : Nat, (∀ (t : oS) (x4 : Int32) (x5 : Int32), 2147483648 - x5.toInt ≤ (n : Int) → J t 62 [(1, .int a1), (4, .int x4), (5, .int x5)] []) := by
    intro n
    induction n using Nat.strongRecOn with
    | _ n ih =>
      skip
      · intro t x4 x5   hmu
        have rx4 := n_rng x4
        have rx5 := n_rng x5
        refine r_iload C (j := 2) (oDec_at oX7_memberOf 36 rfl) rfl ?_
        refine r_iload_n C (j := 0) (oDec_at oX7_memberOf 37 rfl) rfl rfl ?_
        refine r_iconst C (oDec_at oX7_memberOf 38 rfl) (v := k2) (by rw [qk2]; rfl) ?_
        obtain ⟨v1, ev1⟩ : ∃ z : Int32, z = a1 - k2 := ⟨_, rfl⟩
        have rv1 := n_rng v1
        refine r_isub C v1 (oDec_at oX7_memberOf 39 rfl) ev1 ?_
        refine r_icmp_ge C 83 (oDec_at oX7_memberOf 40 rfl) (by decide) (fun cd2 => ?_) (fun cd2 => ?_)
        · skip
          refine r_iload C (j := 1) (oDec_at oX7_memberOf 47 rfl) rfl ?_
          refine r_bipush C (oDec_at oX7_memberOf 48 rfl) (v := k40) (by rw [qk40]; rfl) ?_
          obtain ⟨v3, ev3⟩ : ∃ z : Int32, z = x4 - x4 / k40 * k40 := ⟨_, rfl⟩
          have hv3 := n_rem (k := 40) ev3 ek40 (by decide)
          have rv3 := n_rng v3
          refine r_irem C v3 (oDec_at oX7_memberOf 49 rfl) (n_ne0 (by omega)) ev3 ?_
          exact r_iret C (oDec_at oX7_memberOf 50 rfl) ⟨_, rfl, trivial⟩
        · skip
          refine r_iload C (j := 1) (oDec_at oX7_memberOf 41 rfl) rfl ?_
          refine r_bipush C (oDec_at oX7_memberOf 42 rfl) (v := k40) (by rw [qk40]; rfl) ?_
          obtain ⟨v4, ev4⟩ : ∃ z : Int32, z = x4 / k40 := ⟨_, rfl⟩
          have hv4 := n_divP (k := 40) ev4 ek40 (by decide)
          have rv4 := n_rng v4
          refine r_idiv C v4 (oDec_at oX7_memberOf 43 rfl) (n_ne0 (by omega)) ev4 ?_
          refine r_istore C (lv' := [(1, .int a1), (4, .int v4), (5, .int x5)]) [1, 0, 2] (oDec_at oX7_memberOf 44 rfl) (by decide) rfl ?_
          obtain ⟨v5, ev5⟩ : ∃ z : Int32, x5 + Int32.ofInt 1 = z := ⟨_, rfl⟩
          have hv5 : v5.toInt = x5.toInt + 1 := n_inc ev5 (by decide) (by omega) (by omega)
          refine r_iinc C (j := 2) (lv' := [(1, .int a1), (4, .int v4), (5, .int v5)]) v5 [1, 2, 0] (oDec_at oX7_memberOf 45 rfl) rfl ev5 (by decide) rfl ?_
          refine r_goto C (tgt := 62) (oDec_at oX7_memberOf 46 rfl) (by decide) ?_
          exact (ih (n - 1) (by omega)) (t) v4 v5   (by omega)
  refine r_iload_n C (j := 2) (oDec_at oX7_memberOf 0 rfl) rfl rfl ?_
  refine r_if_lt C 35 (oDec_at oX7_memberOf 1 rfl) (by decide) (fun cd6 => ?_) (fun cd6 => ?_)
  · skip
    refine r_iconst C (oDec_at oX7_memberOf 19 rfl) (v := km1) (by rw [qkm1]; rfl) ?_
    exact r_iret C (oDec_at oX7_memberOf 20 rfl) ⟨_, rfl, trivial⟩
  · skip
    refine r_iload_n C (j := 2) (oDec_at oX7_memberOf 2 rfl) rfl rfl ?_
    refine r_iload_n C (j := 1) (oDec_at oX7_memberOf 3 rfl) rfl rfl ?_
    refine r_iconst C (oDec_at oX7_memberOf 4 rfl) (v := k3) (by rw [qk3]; rfl) ?_
    refine r_icmp_ne C 17 (oDec_at oX7_memberOf 5 rfl) (by decide) (fun cd7 => ?_) (fun cd7 => ?_)
    · skip
      refine r_aload_n C (j := 0) (oDec_at oX7_memberOf 9 rfl) rfl rfl ?_
      obtain ⟨v8, ev8⟩ : ∃ z : Int32, (s).1 52 5 = z := ⟨_, rfl⟩
      have gv8 : (s.1 52 5).toInt = v8.toInt := congrArg Int32.toInt (ev8)
      refine r_geti (k := 5) (lo := 0) (hi := 9880) C v8 oCl7 rfl (by decide) flX7_37 rfl rfl (ev8) rfl rfl (oDec_at oX7_memberOf 10 rfl) (fun b9 b9h => ?_)
      refine r_icmp_ge C 35 (oDec_at oX7_memberOf 11 rfl) (by decide) (fun cd10 => ?_) (fun cd10 => ?_)
      · skip
        refine r_iconst C (oDec_at oX7_memberOf 19 rfl) (v := km1) (by rw [qkm1]; rfl) ?_
        exact r_iret C (oDec_at oX7_memberOf 20 rfl) ⟨_, rfl, trivial⟩
      · skip
        refine r_iload_n C (j := 3) (oDec_at oX7_memberOf 12 rfl) rfl rfl ?_
        refine r_if_lt C 35 (oDec_at oX7_memberOf 13 rfl) (by decide) (fun cd11 => ?_) (fun cd11 => ?_)
        · skip
          refine r_iconst C (oDec_at oX7_memberOf 19 rfl) (v := km1) (by rw [qkm1]; rfl) ?_
          exact r_iret C (oDec_at oX7_memberOf 20 rfl) ⟨_, rfl, trivial⟩
        · skip
          refine r_iload_n C (j := 3) (oDec_at oX7_memberOf 14 rfl) rfl rfl ?_
          refine r_iload_n C (j := 1) (oDec_at oX7_memberOf 15 rfl) rfl rfl ?_
          refine r_iconst C (oDec_at oX7_memberOf 16 rfl) (v := k2) (by rw [qk2]; rfl) ?_
          obtain ⟨v12, ev12⟩ : ∃ z : Int32, z = a1 - k2 := ⟨_, rfl⟩
          have rv12 := n_rng v12
          refine r_isub C v12 (oDec_at oX7_memberOf 17 rfl) ev12 ?_
          refine r_icmp_le C 37 (oDec_at oX7_memberOf 18 rfl) (by decide) (fun cd13 => ?_) (fun cd13 => ?_)
          · skip
            refine r_iload_n C (j := 1) (oDec_at oX7_memberOf 21 rfl) rfl rfl ?_
            refine r_iconst C (oDec_at oX7_memberOf 22 rfl) (v := k3) (by rw [qk3]; rfl) ?_
            refine r_icmp_ne C 51 (oDec_at oX7_memberOf 23 rfl) (by decide) (fun cd14 => ?_) (fun cd14 => ?_)
            · skip
              refine r_aload_n C (j := 0) (oDec_at oX7_memberOf 29 rfl) rfl rfl ?_
              refine r_getF (k := 3) (b := 55) C oCl7 rfl (by decide) flX7_19 rfl rfl rfl (oDec_at oX7_memberOf 30 rfl) ?_
              refine r_iload_n C (j := 2) (oDec_at oX7_memberOf 31 rfl) rfl rfl ?_
              obtain ⟨v15, ev15⟩ : ∃ z : Int32, (s).1 55 a2.toNatClampNeg = z := ⟨_, rfl⟩
              have rv15 := n_rng v15
              refine r_iald (n := 9880) (lo := (-2147483648)) (hi := 2147483647) C v15 rfl (by decide) rfl rfl ⟨by omega, by omega⟩ (by decide) ev15 rfl rfl (oDec_at oX7_memberOf 32 rfl) (fun _ _ => ?_)
              refine r_istore C (lv' := [(0, .ref (oad E 52)), (1, .int a1), (2, .int a2), (3, .int a3), (4, .int v15)]) [1, 2, 3, 4, 0] (oDec_at oX7_memberOf 33 rfl) (by decide) rfl ?_
              refine r_iload_n C (j := 3) (oDec_at oX7_memberOf 34 rfl) rfl rfl ?_
              refine r_pc C 60 rfl ?_
              refine r_istore C (lv' := [(0, .ref (oad E 52)), (1, .int a1), (2, .int a2), (3, .int a3), (4, .int v15), (5, .int a3)]) [1, 2, 3, 4, 5, 0] (oDec_at oX7_memberOf 35 rfl) (by decide) rfl ?_
              refine r_pick C [1, 4, 5] rfl ?_
              exact (key (2147483648 - a3.toInt).toNat) (s) v15 a3   (by omega)
            · omega
          · skip
            refine r_iconst C (oDec_at oX7_memberOf 19 rfl) (v := km1) (by rw [qkm1]; rfl) ?_
            exact r_iret C (oDec_at oX7_memberOf 20 rfl) ⟨_, rfl, trivial⟩
    · skip
      refine r_aload_n C (j := 0) (oDec_at oX7_memberOf 6 rfl) rfl rfl ?_
      obtain ⟨v17, ev17⟩ : ∃ z : Int32, (s).1 52 4 = z := ⟨_, rfl⟩
      have gv17 : (s.1 52 4).toInt = v17.toInt := congrArg Int32.toInt (ev17)
      refine r_geti (k := 4) (lo := 0) (hi := 780) C v17 oCl7 rfl (by decide) flX7_34 rfl rfl (ev17) rfl rfl (oDec_at oX7_memberOf 7 rfl) (fun b18 b18h => ?_)
      refine r_goto C (tgt := 21) (oDec_at oX7_memberOf 8 rfl) (by decide) ?_
      refine r_icmp_ge C 35 (oDec_at oX7_memberOf 11 rfl) (by decide) (fun cd19 => ?_) (fun cd19 => ?_)
      · skip
        refine r_iconst C (oDec_at oX7_memberOf 19 rfl) (v := km1) (by rw [qkm1]; rfl) ?_
        exact r_iret C (oDec_at oX7_memberOf 20 rfl) ⟨_, rfl, trivial⟩
      · skip
        refine r_iload_n C (j := 3) (oDec_at oX7_memberOf 12 rfl) rfl rfl ?_
        refine r_if_lt C 35 (oDec_at oX7_memberOf 13 rfl) (by decide) (fun cd20 => ?_) (fun cd20 => ?_)
        · skip
          refine r_iconst C (oDec_at oX7_memberOf 19 rfl) (v := km1) (by rw [qkm1]; rfl) ?_
          exact r_iret C (oDec_at oX7_memberOf 20 rfl) ⟨_, rfl, trivial⟩
        · skip
          refine r_iload_n C (j := 3) (oDec_at oX7_memberOf 14 rfl) rfl rfl ?_
          refine r_iload_n C (j := 1) (oDec_at oX7_memberOf 15 rfl) rfl rfl ?_
          refine r_iconst C (oDec_at oX7_memberOf 16 rfl) (v := k2) (by rw [qk2]; rfl) ?_
          obtain ⟨v21, ev21⟩ : ∃ z : Int32, z = a1 - k2 := ⟨_, rfl⟩
          have rv21 := n_rng v21
          refine r_isub C v21 (oDec_at oX7_memberOf 17 rfl) ev21 ?_
          refine r_icmp_le C 37 (oDec_at oX7_memberOf 18 rfl) (by decide) (fun cd22 => ?_) (fun cd22 => ?_)
          · skip
            refine r_iload_n C (j := 1) (oDec_at oX7_memberOf 21 rfl) rfl rfl ?_
            refine r_iconst C (oDec_at oX7_memberOf 22 rfl) (v := k3) (by rw [qk3]; rfl) ?_
            refine r_icmp_ne C 51 (oDec_at oX7_memberOf 23 rfl) (by decide) (fun cd23 => ?_) (fun cd23 => ?_)
            · omega
            · skip
              refine r_aload_n C (j := 0) (oDec_at oX7_memberOf 24 rfl) rfl rfl ?_
              refine r_getF (k := 2) (b := 54) C oCl7 rfl (by decide) flX7_15 rfl rfl rfl (oDec_at oX7_memberOf 25 rfl) ?_
              refine r_iload_n C (j := 2) (oDec_at oX7_memberOf 26 rfl) rfl rfl ?_
              obtain ⟨v24, ev24⟩ : ∃ z : Int32, (s).1 54 a2.toNatClampNeg = z := ⟨_, rfl⟩
              have rv24 := n_rng v24
              refine r_iald (n := 780) (lo := (-2147483648)) (hi := 2147483647) C v24 rfl (by decide) rfl rfl ⟨by omega, by omega⟩ (by decide) ev24 rfl rfl (oDec_at oX7_memberOf 27 rfl) (fun _ _ => ?_)
              refine r_goto C (tgt := 57) (oDec_at oX7_memberOf 28 rfl) (by decide) ?_
              refine r_istore C (lv' := [(0, .ref (oad E 52)), (1, .int a1), (2, .int a2), (3, .int a3), (4, .int v24)]) [1, 2, 3, 4, 0] (oDec_at oX7_memberOf 33 rfl) (by decide) rfl ?_
              refine r_iload_n C (j := 3) (oDec_at oX7_memberOf 34 rfl) rfl rfl ?_
              refine r_pc C 60 rfl ?_
              refine r_istore C (lv' := [(0, .ref (oad E 52)), (1, .int a1), (2, .int a2), (3, .int a3), (4, .int v24), (5, .int a3)]) [1, 2, 3, 4, 5, 0] (oDec_at oX7_memberOf 35 rfl) (by decide) rfl ?_
              refine r_pick C [1, 4, 5] rfl ?_
              exact (key (2147483648 - a3.toInt).toNat) (s) v24 a3   (by omega)
          · skip
            refine r_iconst C (oDec_at oX7_memberOf 19 rfl) (v := km1) (by rw [qkm1]; rfl) ?_
            exact r_iret C (oDec_at oX7_memberOf 20 rfl) ⟨_, rfl, trivial⟩
