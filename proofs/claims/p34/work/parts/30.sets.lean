set_option maxHeartbeats 4000000 in
set_option maxRecDepth 100000 in
theorem ct_X7_addPair (l : Launch) (E : oE) (s : oS) (a1 : Int32) (a2 : Int32) (a3 : Int32) (hp0 : 0 ≤ a1.toInt ∧ a1.toInt < 40) (hp1 : 0 ≤ a2.toInt ∧ a2.toInt < 40) (hp2 : a3.toInt ≤ 40) : oMet l 1 yX7_addPair cX7_addPair 7 none [(7, 4), (7, 5), (40, 9999), (41, 9999)] E s [.ref (oad E 52), .int a1, .int a2, .int a3] (oPv (fun u => True)) := by
  refine oMet.of (lv := [(0, .ref (oad E 52)), (1, .int a1), (2, .int a2), (3, .int a3)]) (by decide +kernel) (Nat.le_of_ble_eq_true rfl) rfl (fun J C hT => ?_)
  have C : oC l 1 cX7_addPair RX7 7 none [(7, 4), (7, 5), (40, 9999), (41, 9999)] E s (oPv (fun u => True)) J := C
  obtain ⟨k1, qk1⟩ : ∃ z : Int32, z = 1 := ⟨_, rfl⟩
  have ek1 : k1.toInt = 1 := by rw [qk1]; rfl
  obtain ⟨k40, qk40⟩ : ∃ z : Int32, z = 40 := ⟨_, rfl⟩
  have ek40 : k40.toInt = 40 := by rw [qk40]; rfl
  have rg1 := n_rng a1
  have rg2 := n_rng a2
  have rg3 := n_rng a3
  have key : ∀ n : Nat, (∀ (t : oS) (x4 : Int64) (x6 : Int32), (0 ≤ x6.toInt ∧ x6.toInt ≤ 40) → 41 - x6.toInt ≤ (n : Int) → J t 57 [(0, .ref (oad E 52)), (1, .int a1), (2, .int a2), (3, .int a3), (4, .long x4), (6, .int x6)] []) := by
    intro n
    induction n using Nat.strongRecOn with
    | _ n ih =>
      skip
      · intro t x4 x6  iv0 hmu
        have rx6 := n_rng x6
        refine r_iload C (j := 5) (oDec_at oX7_addPair 36 rfl) rfl ?_
        refine r_iload_n C (j := 3) (oDec_at oX7_addPair 37 rfl) rfl rfl ?_
        refine r_icmp_ge C 124 (oDec_at oX7_addPair 38 rfl) (by decide) (fun cd1 => ?_) (fun cd1 => ?_)
        · skip
          exact r_vret C (oDec_at oX7_addPair 75 rfl) ⟨rfl, trivial⟩
        · skip
          refine r_lload C (j := 4) (oDec_at oX7_addPair 39 rfl) rfl ?_
          refine r_iload C (j := 5) (oDec_at oX7_addPair 40 rfl) rfl ?_
          obtain ⟨v2, ev2⟩ : ∃ z : Int64, x4 >>> (x6.toInt64 &&& 63) = z := ⟨_, rfl⟩
          refine r_lshr C v2 (oDec_at oX7_addPair 41 rfl) ev2 ?_
          refine r_lconst C (oDec_at oX7_addPair 42 rfl) (v := 1) rfl ?_
          obtain ⟨v3, ev3⟩ : ∃ z : Int64, z = v2 &&& (1 : Int64) := ⟨_, rfl⟩
          refine r_land C v3 (oDec_at oX7_addPair 43 rfl) ev3 ?_
          refine r_lconst C (oDec_at oX7_addPair 44 rfl) (v := 1) rfl ?_
          refine r_pc C 71 rfl ?_
          obtain ⟨v4, ev4⟩ : ∃ z : Int32, z = lg_cmp v3 (1 : Int64) := ⟨_, rfl⟩
          have hv4 := n_lcmp ev4
          refine r_lcmp C v4 (oDec_at oX7_addPair 45 rfl) ev4 ?_
          refine r_if_ne C 118 (oDec_at oX7_addPair 46 rfl) (by decide) (fun cd5 => ?_) (fun cd5 => ?_)
          · skip
            obtain ⟨v6, ev6⟩ : ∃ z : Int32, x6 + Int32.ofInt 1 = z := ⟨_, rfl⟩
            have hv6 : v6.toInt = x6.toInt + 1 := n_inc ev6 (by decide) (by omega) (by omega)
            refine r_iinc C (j := 5) (lv' := [(0, .ref (oad E 52)), (1, .int a1), (2, .int a2), (3, .int a3), (4, .long x4), (6, .int v6)]) v6 [1, 2, 3, 4, 5, 0] (oDec_at oX7_addPair 73 rfl) rfl ev6 (by decide) rfl ?_
            refine r_goto C (tgt := 57) (oDec_at oX7_addPair 74 rfl) (by decide) ?_
            exact (ih (n - 1) (by omega)) (t) x4 v6  (by omega) (by omega)
          · skip
            refine r_aload_n C (j := 0) (oDec_at oX7_addPair 47 rfl) rfl rfl ?_
            obtain ⟨v7, ev7⟩ : ∃ z : Int32, (t).1 52 5 = z := ⟨_, rfl⟩
            have gv7 : (t.1 52 5).toInt = v7.toInt := congrArg Int32.toInt (ev7)
            refine r_geti (k := 5) (lo := 0) (hi := 9880) C v7 oCl7 rfl (by decide) flX7_37 rfl rfl (ev7) rfl rfl (oDec_at oX7_addPair 48 rfl) (fun b8 b8h => ?_)
            refine r_aload_n C (j := 0) (oDec_at oX7_addPair 49 rfl) rfl rfl ?_
            refine r_getF (k := 3) (b := 55) C oCl7 rfl (by decide) flX7_19 rfl rfl rfl (oDec_at oX7_addPair 50 rfl) ?_
            obtain ⟨v9, ev9⟩ : ∃ z : Int32, Int32.ofNat 9880 = z := ⟨_, rfl⟩
            have hv9 : v9.toInt = 9880 := by rw [← ev9]; rfl
            refine r_alen0 (n := 9880) C v9 rfl (by decide) rfl rfl (by decide) ev9 (oDec_at oX7_addPair 51 rfl) ?_
            refine r_icmp_ge C 118 (oDec_at oX7_addPair 52 rfl) (by decide) (fun cd10 => ?_) (fun cd10 => ?_)
            · skip
              obtain ⟨v11, ev11⟩ : ∃ z : Int32, x6 + Int32.ofInt 1 = z := ⟨_, rfl⟩
              have hv11 : v11.toInt = x6.toInt + 1 := n_inc ev11 (by decide) (by omega) (by omega)
              refine r_iinc C (j := 5) (lv' := [(0, .ref (oad E 52)), (1, .int a1), (2, .int a2), (3, .int a3), (4, .long x4), (6, .int v11)]) v11 [1, 2, 3, 4, 5, 0] (oDec_at oX7_addPair 73 rfl) rfl ev11 (by decide) rfl ?_
              refine r_goto C (tgt := 57) (oDec_at oX7_addPair 74 rfl) (by decide) ?_
              exact (ih (n - 1) (by omega)) (t) x4 v11  (by omega) (by omega)
            · skip
              refine r_aload_n C (j := 0) (oDec_at oX7_addPair 53 rfl) rfl rfl ?_
              refine r_getF (k := 3) (b := 55) C oCl7 rfl (by decide) flX7_19 rfl rfl rfl (oDec_at oX7_addPair 54 rfl) ?_
              refine r_aload_n C (j := 0) (oDec_at oX7_addPair 55 rfl) rfl rfl ?_
              refine r_geti (k := 5) (lo := 0) (hi := 9880) C v7 oCl7 rfl (by decide) flX7_37 rfl rfl (ev7) rfl rfl (oDec_at oX7_addPair 56 rfl) (fun _ _ => ?_)
              refine r_iload_n C (j := 1) (oDec_at oX7_addPair 57 rfl) rfl rfl ?_
              refine r_bipush C (oDec_at oX7_addPair 58 rfl) (v := k40) (by rw [qk40]; rfl) ?_
              refine r_pc C 98 rfl ?_
              obtain ⟨v12, ev12⟩ : ∃ z : Int32, z = a1 * k40 := ⟨_, rfl⟩
              have hv12 : v12.toInt = a1.toInt * 40 := n_mulK 40 ev12 ek40 (by omega) (by omega)
              refine r_imul C v12 (oDec_at oX7_addPair 59 rfl) ev12 ?_
              refine r_iload_n C (j := 2) (oDec_at oX7_addPair 60 rfl) rfl rfl ?_
              obtain ⟨v13, ev13⟩ : ∃ z : Int32, z = v12 + a2 := ⟨_, rfl⟩
              have hv13 : v13.toInt = v12.toInt + a2.toInt := n_add ev13 (by omega) (by omega)
              refine r_iadd C v13 (oDec_at oX7_addPair 61 rfl) ev13 ?_
              refine r_bipush C (oDec_at oX7_addPair 62 rfl) (v := k40) (by rw [qk40]; rfl) ?_
              obtain ⟨v14, ev14⟩ : ∃ z : Int32, z = v13 * k40 := ⟨_, rfl⟩
              have hv14 : v14.toInt = v13.toInt * 40 := n_mulK 40 ev14 ek40 (by omega) (by omega)
              refine r_imul C v14 (oDec_at oX7_addPair 63 rfl) ev14 ?_
              refine r_iload C (j := 5) (oDec_at oX7_addPair 64 rfl) rfl ?_
              refine r_pc C 106 rfl ?_
              obtain ⟨v15, ev15⟩ : ∃ z : Int32, z = v14 + x6 := ⟨_, rfl⟩
              have hv15 : v15.toInt = v14.toInt + x6.toInt := n_add ev15 (by omega) (by omega)
              refine r_iadd C v15 (oDec_at oX7_addPair 65 rfl) ev15 ?_
              refine r_iast (n := 9880) (lo := (-2147483648)) (hi := 2147483647) C rfl (by decide) rfl rfl ⟨by omega, by omega⟩ (by decide) rfl rfl rfl rfl (n_rng _) (oDec_at oX7_addPair 66 rfl) ?_
              refine r_aload_n C (j := 0) (oDec_at oX7_addPair 67 rfl) rfl rfl ?_
              refine r_dup C (oDec_at oX7_addPair 68 rfl) rfl ?_
              refine r_geti (k := 5) (lo := 0) (hi := 9880) C v7 oCl7 rfl (by decide) flX7_37 rfl rfl (((pI_ne (a := 52) (b := 5) (c := 55) _ _ (Or.inl (by decide)))).trans (ev7)) rfl rfl (oDec_at oX7_addPair 69 rfl) (fun _ _ => ?_)
              refine r_iconst C (oDec_at oX7_addPair 70 rfl) (v := k1) (by rw [qk1]; rfl) ?_
              refine r_pc C 114 rfl ?_
              obtain ⟨v16, ev16⟩ : ∃ z : Int32, z = v7 + k1 := ⟨_, rfl⟩
              have hv16 : v16.toInt = v7.toInt + k1.toInt := n_add ev16 (by omega) (by omega)
              refine r_iadd C v16 (oDec_at oX7_addPair 71 rfl) ev16 ?_
              refine r_puti (k := 5) (lo := 0) (hi := 9880) C oCl7 rfl (by decide) flX7_37 rfl rfl rfl rfl rfl rfl rfl rfl ⟨by omega, by omega⟩ (oDec_at oX7_addPair 72 rfl) ?_
              obtain ⟨v17, ev17⟩ : ∃ z : Int32, x6 + Int32.ofInt 1 = z := ⟨_, rfl⟩
              have hv17 : v17.toInt = x6.toInt + 1 := n_inc ev17 (by decide) (by omega) (by omega)
              refine r_iinc C (j := 5) (lv' := [(0, .ref (oad E 52)), (1, .int a1), (2, .int a2), (3, .int a3), (4, .long x4), (6, .int v17)]) v17 [1, 2, 3, 4, 5, 0] (oDec_at oX7_addPair 73 rfl) rfl ev17 (by decide) rfl ?_
              refine r_goto C (tgt := 57) (oDec_at oX7_addPair 74 rfl) (by decide) ?_
              exact (ih (n - 1) (by omega)) ((pI (pI t 55 v7.toNatClampNeg v15) 52 5 v16)) x4 v17  (by omega) (by omega)
  refine r_aload_n C (j := 0) (oDec_at oX7_addPair 0 rfl) rfl rfl ?_
  obtain ⟨v18, ev18⟩ : ∃ z : Int32, (s).1 52 4 = z := ⟨_, rfl⟩
  have gv18 : (s.1 52 4).toInt = v18.toInt := congrArg Int32.toInt (ev18)
  refine r_geti (k := 4) (lo := 0) (hi := 780) C v18 oCl7 rfl (by decide) flX7_34 rfl rfl (ev18) rfl rfl (oDec_at oX7_addPair 1 rfl) (fun b19 b19h => ?_)
  refine r_aload_n C (j := 0) (oDec_at oX7_addPair 2 rfl) rfl rfl ?_
  refine r_getF (k := 2) (b := 54) C oCl7 rfl (by decide) flX7_15 rfl rfl rfl (oDec_at oX7_addPair 3 rfl) ?_
  obtain ⟨v20, ev20⟩ : ∃ z : Int32, Int32.ofNat 780 = z := ⟨_, rfl⟩
  have hv20 : v20.toInt = 780 := by rw [← ev20]; rfl
  refine r_alen0 (n := 780) C v20 rfl (by decide) rfl rfl (by decide) ev20 (oDec_at oX7_addPair 4 rfl) ?_
  refine r_icmp_ge C 37 (oDec_at oX7_addPair 5 rfl) (by decide) (fun cd21 => ?_) (fun cd21 => ?_)
  · skip
    refine r_aload_n C (j := 0) (oDec_at oX7_addPair 22 rfl) rfl rfl ?_
    refine r_getF (k := 1) (b := 53) C oCl7 rfl (by decide) flX7_11 rfl rfl rfl (oDec_at oX7_addPair 23 rfl) ?_
    refine r_iload_n C (j := 1) (oDec_at oX7_addPair 24 rfl) rfl rfl ?_
    obtain ⟨v22, ev22⟩ : ∃ z : Int64, (s).2.1 53 a1.toNatClampNeg = z := ⟨_, rfl⟩
    refine r_lald (n := 40) C v22 rfl (by decide) rfl rfl ⟨by omega, by omega⟩ (by decide) ev22 (oDec_at oX7_addPair 25 rfl) ?_
    refine r_aload_n C (j := 0) (oDec_at oX7_addPair 26 rfl) rfl rfl ?_
    refine r_getF (k := 1) (b := 53) C oCl7 rfl (by decide) flX7_11 rfl rfl rfl (oDec_at oX7_addPair 27 rfl) ?_
    refine r_pc C 47 rfl ?_
    refine r_iload_n C (j := 2) (oDec_at oX7_addPair 28 rfl) rfl rfl ?_
    obtain ⟨v23, ev23⟩ : ∃ z : Int64, (s).2.1 53 a2.toNatClampNeg = z := ⟨_, rfl⟩
    refine r_lald (n := 40) C v23 rfl (by decide) rfl rfl ⟨by omega, by omega⟩ (by decide) ev23 (oDec_at oX7_addPair 29 rfl) ?_
    obtain ⟨v24, ev24⟩ : ∃ z : Int64, z = v22 &&& v23 := ⟨_, rfl⟩
    refine r_land C v24 (oDec_at oX7_addPair 30 rfl) ev24 ?_
    refine r_lstore C (lv' := [(0, .ref (oad E 52)), (1, .int a1), (2, .int a2), (3, .int a3), (4, .long v24)]) [1, 2, 3, 4, 0] (oDec_at oX7_addPair 31 rfl) (by decide) rfl ?_
    refine r_iload_n C (j := 2) (oDec_at oX7_addPair 32 rfl) rfl rfl ?_
    refine r_iconst C (oDec_at oX7_addPair 33 rfl) (v := k1) (by rw [qk1]; rfl) ?_
    refine r_pc C 54 rfl ?_
    obtain ⟨v25, ev25⟩ : ∃ z : Int32, z = a2 + k1 := ⟨_, rfl⟩
    have hv25 : v25.toInt = a2.toInt + k1.toInt := n_add ev25 (by omega) (by omega)
    refine r_iadd C v25 (oDec_at oX7_addPair 34 rfl) ev25 ?_
    refine r_istore C (lv' := [(0, .ref (oad E 52)), (1, .int a1), (2, .int a2), (3, .int a3), (4, .long v24), (6, .int v25)]) [1, 2, 3, 4, 5, 0] (oDec_at oX7_addPair 35 rfl) (by decide) rfl ?_
    exact (key (41 - v25.toInt).toNat) (s) v24 v25  (by omega) (by omega)
  · skip
    refine r_aload_n C (j := 0) (oDec_at oX7_addPair 6 rfl) rfl rfl ?_
    refine r_getF (k := 2) (b := 54) C oCl7 rfl (by decide) flX7_15 rfl rfl rfl (oDec_at oX7_addPair 7 rfl) ?_
    refine r_aload_n C (j := 0) (oDec_at oX7_addPair 8 rfl) rfl rfl ?_
    refine r_geti (k := 4) (lo := 0) (hi := 780) C v18 oCl7 rfl (by decide) flX7_34 rfl rfl (ev18) rfl rfl (oDec_at oX7_addPair 9 rfl) (fun _ _ => ?_)
    refine r_iload_n C (j := 1) (oDec_at oX7_addPair 10 rfl) rfl rfl ?_
    refine r_bipush C (oDec_at oX7_addPair 11 rfl) (v := k40) (by rw [qk40]; rfl) ?_
    refine r_pc C 23 rfl ?_
    obtain ⟨v26, ev26⟩ : ∃ z : Int32, z = a1 * k40 := ⟨_, rfl⟩
    have hv26 : v26.toInt = a1.toInt * 40 := n_mulK 40 ev26 ek40 (by omega) (by omega)
    refine r_imul C v26 (oDec_at oX7_addPair 12 rfl) ev26 ?_
    refine r_iload_n C (j := 2) (oDec_at oX7_addPair 13 rfl) rfl rfl ?_
    obtain ⟨v27, ev27⟩ : ∃ z : Int32, z = v26 + a2 := ⟨_, rfl⟩
    have hv27 : v27.toInt = v26.toInt + a2.toInt := n_add ev27 (by omega) (by omega)
    refine r_iadd C v27 (oDec_at oX7_addPair 14 rfl) ev27 ?_
    refine r_iast (n := 780) (lo := (-2147483648)) (hi := 2147483647) C rfl (by decide) rfl rfl ⟨by omega, by omega⟩ (by decide) rfl rfl rfl rfl (n_rng _) (oDec_at oX7_addPair 15 rfl) ?_
    refine r_aload_n C (j := 0) (oDec_at oX7_addPair 16 rfl) rfl rfl ?_
    refine r_dup C (oDec_at oX7_addPair 17 rfl) rfl ?_
    refine r_pc C 29 rfl ?_
    refine r_geti (k := 4) (lo := 0) (hi := 780) C v18 oCl7 rfl (by decide) flX7_34 rfl rfl (((pI_ne (a := 52) (b := 4) (c := 54) _ _ (Or.inl (by decide)))).trans (ev18)) rfl rfl (oDec_at oX7_addPair 18 rfl) (fun _ _ => ?_)
    refine r_iconst C (oDec_at oX7_addPair 19 rfl) (v := k1) (by rw [qk1]; rfl) ?_
    obtain ⟨v28, ev28⟩ : ∃ z : Int32, z = v18 + k1 := ⟨_, rfl⟩
    have hv28 : v28.toInt = v18.toInt + k1.toInt := n_add ev28 (by omega) (by omega)
    refine r_iadd C v28 (oDec_at oX7_addPair 20 rfl) ev28 ?_
    refine r_puti (k := 4) (lo := 0) (hi := 780) C oCl7 rfl (by decide) flX7_34 rfl rfl rfl rfl rfl rfl rfl rfl ⟨by omega, by omega⟩ (oDec_at oX7_addPair 21 rfl) ?_
    refine r_aload_n C (j := 0) (oDec_at oX7_addPair 22 rfl) rfl rfl ?_
    refine r_getF (k := 1) (b := 53) C oCl7 rfl (by decide) flX7_11 rfl rfl rfl (oDec_at oX7_addPair 23 rfl) ?_
    refine r_pc C 41 rfl ?_
    refine r_iload_n C (j := 1) (oDec_at oX7_addPair 24 rfl) rfl rfl ?_
    obtain ⟨v29, ev29⟩ : ∃ z : Int64, ((pI (pI s 54 v18.toNatClampNeg v27) 52 4 v28)).2.1 53 a1.toNatClampNeg = z := ⟨_, rfl⟩
    refine r_lald (n := 40) C v29 rfl (by decide) rfl rfl ⟨by omega, by omega⟩ (by decide) ev29 (oDec_at oX7_addPair 25 rfl) ?_
    refine r_aload_n C (j := 0) (oDec_at oX7_addPair 26 rfl) rfl rfl ?_
    refine r_getF (k := 1) (b := 53) C oCl7 rfl (by decide) flX7_11 rfl rfl rfl (oDec_at oX7_addPair 27 rfl) ?_
    refine r_iload_n C (j := 2) (oDec_at oX7_addPair 28 rfl) rfl rfl ?_
    obtain ⟨v30, ev30⟩ : ∃ z : Int64, ((pI (pI s 54 v18.toNatClampNeg v27) 52 4 v28)).2.1 53 a2.toNatClampNeg = z := ⟨_, rfl⟩
    refine r_lald (n := 40) C v30 rfl (by decide) rfl rfl ⟨by omega, by omega⟩ (by decide) ev30 (oDec_at oX7_addPair 29 rfl) ?_
    refine r_pc C 49 rfl ?_
    obtain ⟨v31, ev31⟩ : ∃ z : Int64, z = v29 &&& v30 := ⟨_, rfl⟩
    refine r_land C v31 (oDec_at oX7_addPair 30 rfl) ev31 ?_
    refine r_lstore C (lv' := [(0, .ref (oad E 52)), (1, .int a1), (2, .int a2), (3, .int a3), (4, .long v31)]) [1, 2, 3, 4, 0] (oDec_at oX7_addPair 31 rfl) (by decide) rfl ?_
    refine r_iload_n C (j := 2) (oDec_at oX7_addPair 32 rfl) rfl rfl ?_
    refine r_iconst C (oDec_at oX7_addPair 33 rfl) (v := k1) (by rw [qk1]; rfl) ?_
    obtain ⟨v32, ev32⟩ : ∃ z : Int32, z = a2 + k1 := ⟨_, rfl⟩
    have hv32 : v32.toInt = a2.toInt + k1.toInt := n_add ev32 (by omega) (by omega)
    refine r_iadd C v32 (oDec_at oX7_addPair 34 rfl) ev32 ?_
    refine r_istore C (lv' := [(0, .ref (oad E 52)), (1, .int a1), (2, .int a2), (3, .int a3), (4, .long v31), (6, .int v32)]) [1, 2, 3, 4, 5, 0] (oDec_at oX7_addPair 35 rfl) (by decide) rfl ?_
    exact (key (41 - v32.toInt).toNat) ((pI (pI s 54 v18.toNatClampNeg v27) 52 4 v28)) v31 v32  (by omega) (by omega)
set_option maxHeartbeats 4000000 in
set_option maxRecDepth 100000 in
theorem ct_X7_build (l : Launch) (E : oE) (s : oS) (c1 : Nat) (hk1 : okd c1 = 4) (c2 : Nat) (hk2 : okd c2 = 0)  : oMet l 6 yX7_build cX7_build 9 none [(1, 6), (1, 7), (1, 8), (7, 4), (7, 5), (9, 0), (9, 1), (9, 2), (9, 3), (9, 4), (24, 9999), (25, 9999), (26, 9999), (27, 9999), (28, 9999), (29, 9999), (30, 9999), (31, 9999), (39, 9999), (40, 9999), (41, 9999)] E s [.ref (oad E 52), .ref (oad E c1), .ref (oad E c2), .ref (oad E 43), .ref (oad E 31), .ref (oad E 35)] (oPv (fun u => True)) := by
  refine oMet.of (lv := [(0, .ref (oad E 52)), (1, .ref (oad E c1)), (2, .ref (oad E c2)), (3, .ref (oad E 43)), (4, .ref (oad E 31)), (5, .ref (oad E 35))]) (by decide +kernel) (Nat.le_of_ble_eq_true rfl) rfl (fun J C hT => ?_)
  have C : oC l 6 cX7_build RX7 9 none [(1, 6), (1, 7), (1, 8), (7, 4), (7, 5), (9, 0), (9, 1), (9, 2), (9, 3), (9, 4), (24, 9999), (25, 9999), (26, 9999), (27, 9999), (28, 9999), (29, 9999), (30, 9999), (31, 9999), (39, 9999), (40, 9999), (41, 9999)] E s (oPv (fun u => True)) J := C
  obtain ⟨km1, qkm1⟩ : ∃ z : Int32, z = (-1) := ⟨_, rfl⟩
  have ekm1 : km1.toInt = (-1) := by rw [qkm1]; rfl
  obtain ⟨k0, qk0⟩ : ∃ z : Int32, z = 0 := ⟨_, rfl⟩
  have ek0 : k0.toInt = 0 := by rw [qk0]; rfl
  obtain ⟨k1, qk1⟩ : ∃ z : Int32, z = 1 := ⟨_, rfl⟩
  have ek1 : k1.toInt = 1 := by rw [qk1]; rfl
  obtain ⟨k40, qk40⟩ : ∃ z : Int32, z = 40 := ⟨_, rfl⟩
  have ek40 : k40.toInt = 40 := by rw [qk40]; rfl
  have key : ∀ n : Nat, (∀ (t : oS) (x6 : Int32) (x7 : Int32), (0 ≤ x6.toInt ∧ x6.toInt ≤ 40) → (0 ≤ x7.toInt ∧ x7.toInt ≤ x6.toInt) → 1000000 + 1000 * (41 - x7.toInt) ≤ (n : Int) → J t 24 [(0, .ref (oad E 52)), (1, .ref (oad E c1)), (2, .ref (oad E c2)), (3, .ref (oad E 43)), (4, .ref (oad E 31)), (5, .ref (oad E 35)), (6, .int x6), (7, .int x7)] []) ∧ (∀ (t : oS) (x6 : Int32) (x7 : Int32) (x8 : Int32), (0 ≤ x6.toInt ∧ x6.toInt ≤ 40) → (0 ≤ x7.toInt ∧ x7.toInt < x6.toInt) → (0 ≤ x8.toInt ∧ x8.toInt ≤ x6.toInt) → 1000000 + 1000 * (41 - x7.toInt) - 10 - x8.toInt ≤ (n : Int) → J t 45 [(0, .ref (oad E 52)), (1, .ref (oad E c1)), (2, .ref (oad E c2)), (3, .ref (oad E 43)), (4, .ref (oad E 31)), (5, .ref (oad E 35)), (6, .int x6), (7, .int x7), (8, .int x8)] []) ∧ (∀ (t : oS) (x6 : Int32) (x7 : Int32), (0 ≤ x6.toInt ∧ x6.toInt ≤ 40) → (0 ≤ x7.toInt ∧ x7.toInt ≤ x6.toInt) → 1000 * (41 - x7.toInt) ≤ (n : Int) → J t 115 [(0, .ref (oad E 52)), (6, .int x6), (7, .int x7)] []) ∧ (∀ (t : oS) (x6 : Int32) (x7 : Int32) (x8 : Int32), (0 ≤ x6.toInt ∧ x6.toInt ≤ 40) → (0 ≤ x7.toInt ∧ x7.toInt < x6.toInt) → (0 ≤ x8.toInt ∧ x8.toInt ≤ x6.toInt) → 1000 * (41 - x7.toInt) - 10 - x8.toInt ≤ (n : Int) → J t 128 [(0, .ref (oad E 52)), (6, .int x6), (7, .int x7), (8, .int x8)] []) := by
    intro n
    induction n using Nat.strongRecOn with
    | _ n ih =>
      refine ⟨?_, ?_, ?_, ?_⟩
      · intro t x6 x7  iv0 iv1 hmu
        have rx6 := n_rng x6
        have rx7 := n_rng x7
        refine r_iload C (j := 7) (oDec_at oX7_build 13 rfl) rfl ?_
        refine r_iload C (j := 6) (oDec_at oX7_build 14 rfl) rfl ?_
        refine r_icmp_ge C 112 (oDec_at oX7_build 15 rfl) (by decide) (fun cd1 => ?_) (fun cd1 => ?_)
        · skip
          refine r_iconst C (oDec_at oX7_build 59 rfl) (v := k0) (by rw [qk0]; rfl) ?_
          refine r_istore C (lv' := [(0, .ref (oad E 52)), (1, .ref (oad E c1)), (2, .ref (oad E c2)), (3, .ref (oad E 43)), (4, .ref (oad E 31)), (5, .ref (oad E 35)), (6, .int x6), (7, .int k0)]) [1, 2, 3, 4, 5, 6, 7, 0] (oDec_at oX7_build 60 rfl) (by decide) rfl ?_
          refine r_pick C [0, 6, 7] rfl ?_
          exact (ih (n - 1) (by omega)).2.2.1 (t) x6 k0  (by omega) (by omega) (by omega)
        · skip
          refine r_aload_n C (j := 0) (oDec_at oX7_build 16 rfl) rfl rfl ?_
          refine r_getF (k := 1) (b := 53) C oCl7 rfl (by decide) flX7_11 rfl rfl rfl (oDec_at oX7_build 17 rfl) ?_
          refine r_iload C (j := 7) (oDec_at oX7_build 18 rfl) rfl ?_
          refine r_lconst C (oDec_at oX7_build 19 rfl) (v := 0) rfl ?_
          refine r_last (n := 40) C rfl (by decide) rfl rfl ⟨by omega, by omega⟩ (by decide) rfl (oDec_at oX7_build 20 rfl) ?_
          refine r_iload C (j := 7) (oDec_at oX7_build 21 rfl) rfl ?_
          refine r_pc C 41 rfl ?_
          refine r_iconst C (oDec_at oX7_build 22 rfl) (v := k1) (by rw [qk1]; rfl) ?_
          obtain ⟨v2, ev2⟩ : ∃ z : Int32, z = x7 + k1 := ⟨_, rfl⟩
          have hv2 : v2.toInt = x7.toInt + k1.toInt := n_add ev2 (by omega) (by omega)
          refine r_iadd C v2 (oDec_at oX7_build 23 rfl) ev2 ?_
          refine r_istore C (lv' := [(0, .ref (oad E 52)), (1, .ref (oad E c1)), (2, .ref (oad E c2)), (3, .ref (oad E 43)), (4, .ref (oad E 31)), (5, .ref (oad E 35)), (6, .int x6), (7, .int x7), (8, .int v2)]) [1, 2, 3, 4, 5, 6, 7, 8, 0] (oDec_at oX7_build 24 rfl) (by decide) rfl ?_
          exact (ih (n - 1) (by omega)).2.1 ((pL t 53 x7.toNatClampNeg (0 : Int64))) x6 x7 v2  (by omega) (by omega) (by omega) (by omega)
      · intro t x6 x7 x8  iv0 iv1 iv2 hmu
        have rx6 := n_rng x6
        have rx7 := n_rng x7
        have rx8 := n_rng x8
        refine r_iload C (j := 8) (oDec_at oX7_build 25 rfl) rfl ?_
        refine r_iload C (j := 6) (oDec_at oX7_build 26 rfl) rfl ?_
        refine r_icmp_ge C 106 (oDec_at oX7_build 27 rfl) (by decide) (fun cd3 => ?_) (fun cd3 => ?_)
        · skip
          obtain ⟨v4, ev4⟩ : ∃ z : Int32, x7 + Int32.ofInt 1 = z := ⟨_, rfl⟩
          have hv4 : v4.toInt = x7.toInt + 1 := n_inc ev4 (by decide) (by omega) (by omega)
          refine r_iinc C (j := 7) (lv' := [(0, .ref (oad E 52)), (1, .ref (oad E c1)), (2, .ref (oad E c2)), (3, .ref (oad E 43)), (4, .ref (oad E 31)), (5, .ref (oad E 35)), (6, .int x6), (7, .int v4), (8, .int x8)]) v4 [1, 2, 3, 4, 5, 6, 7, 0, 8] (oDec_at oX7_build 57 rfl) rfl ev4 (by decide) rfl ?_
          refine r_goto C (tgt := 24) (oDec_at oX7_build 58 rfl) (by decide) ?_
          refine r_pick C [0, 1, 2, 3, 4, 5, 6, 7] rfl ?_
          exact (ih (n - 1) (by omega)).1 (t) x6 v4  (by omega) (by omega) (by omega)
        · skip
          refine r_aload C (j := 5) (oDec_at oX7_build 28 rfl) rfl ?_
          refine r_aload_n C (j := 1) (oDec_at oX7_build 29 rfl) rfl rfl ?_
          refine r_aload_n C (j := 2) (oDec_at oX7_build 30 rfl) rfl rfl ?_
          obtain ⟨v5, ev5⟩ : ∃ z : Int32, (t).1 c2 6 = z := ⟨_, rfl⟩
          have gv5 : (t.1 c2 6).toInt = v5.toInt := congrArg Int32.toInt (ev5)
          refine r_getiN (k := 6) (lo := 2) (hi := 12) C v5 oCl0 hk2 (by decide) flX7_40 rfl rfl (ev5) rfl rfl (oDec_at oX7_build 31 rfl) (fun b6 b6h => ?_)
          refine r_aload_n C (j := 3) (oDec_at oX7_build 32 rfl) rfl rfl ?_
          refine r_iload C (j := 7) (oDec_at oX7_build 33 rfl) rfl ?_
          refine r_pc C 62 rfl ?_
          refine r_callVi C oCl10 rfl miX10_codeOf mlX7_45 (ct_X10_codeOf l E (t) x7 ) (by decide) rfl rfl rfl (Nat.le_of_ble_eq_true rfl) (oDec_at oX7_build 34 rfl) (fun r8 u7 pu7 fu7 => ?_)
          try dsimp only at pu7
          have rr8 := n_rng r8
          refine r_aload_n C (j := 3) (oDec_at oX7_build 35 rfl) rfl rfl ?_
          refine r_iload C (j := 8) (oDec_at oX7_build 36 rfl) rfl ?_
          refine r_callVi C oCl10 rfl miX10_codeOf mlX7_45 (ct_X10_codeOf l E (u7) x8 ) (by decide) rfl rfl rfl (Nat.le_of_ble_eq_true rfl) (oDec_at oX7_build 37 rfl) (fun r10 u9 pu9 fu9 => ?_)
          try dsimp only at pu9
          have rr10 := n_rng r10
          refine r_callVv C oCl1 rfl miX1_hear mlX7_49 (ct_X1_hear l E (u9) c1 hk1 v5 r8 r10 ) (by decide) rfl rfl rfl (Nat.le_of_ble_eq_true rfl) (oDec_at oX7_build 38 rfl) (fun u11 pu11 fu11 => ?_)
          try dsimp only at pu11
          refine r_aload C (j := 4) (oDec_at oX7_build 39 rfl) rfl ?_
          refine r_pc C 76 rfl ?_
          refine r_aload C (j := 5) (oDec_at oX7_build 40 rfl) rfl ?_
          refine r_iconst C (oDec_at oX7_build 41 rfl) (v := k0) (by rw [qk0]; rfl) ?_
          refine r_callVi C oCl2 rfl miX2_nextBroken mlX7_55 (ct_X2_nextBroken l E (u11) k0 ) (by decide) rfl rfl rfl (Nat.le_of_ble_eq_true rfl) (oDec_at oX7_build 42 rfl) (fun r14 u13 pu13 fu13 => ?_)
          try dsimp only at pu13
          have rr14 := n_rng r14
          refine r_iconst C (oDec_at oX7_build 43 rfl) (v := km1) (by rw [qkm1]; rfl) ?_
          refine r_icmp_ne C 100 (oDec_at oX7_build 44 rfl) (by decide) (fun cd15 => ?_) (fun cd15 => ?_)
          · skip
            obtain ⟨v16, ev16⟩ : ∃ z : Int32, x8 + Int32.ofInt 1 = z := ⟨_, rfl⟩
            have hv16 : v16.toInt = x8.toInt + 1 := n_inc ev16 (by decide) (by omega) (by omega)
            refine r_iinc C (j := 8) (lv' := [(0, .ref (oad E 52)), (1, .ref (oad E c1)), (2, .ref (oad E c2)), (3, .ref (oad E 43)), (4, .ref (oad E 31)), (5, .ref (oad E 35)), (6, .int x6), (7, .int x7), (8, .int v16)]) v16 [1, 2, 3, 4, 5, 6, 7, 8, 0] (oDec_at oX7_build 55 rfl) rfl ev16 (by decide) rfl ?_
            refine r_goto C (tgt := 45) (oDec_at oX7_build 56 rfl) (by decide) ?_
            exact (ih (n - 1) (by omega)).2.1 (u13) x6 x7 v16  (by omega) (by omega) (by omega) (by omega)
          · skip
            refine r_aload_n C (j := 0) (oDec_at oX7_build 45 rfl) rfl rfl ?_
            refine r_getF (k := 1) (b := 53) C oCl7 rfl (by decide) flX7_11 rfl rfl rfl (oDec_at oX7_build 46 rfl) ?_
            refine r_iload C (j := 7) (oDec_at oX7_build 47 rfl) rfl ?_
            refine r_dup2 C (oDec_at oX7_build 48 rfl) rfl rfl ?_
            obtain ⟨v17, ev17⟩ : ∃ z : Int64, (u13).2.1 53 x7.toNatClampNeg = z := ⟨_, rfl⟩
            refine r_lald (n := 40) C v17 rfl (by decide) rfl rfl ⟨by omega, by omega⟩ (by decide) ev17 (oDec_at oX7_build 49 rfl) ?_
            refine r_lconst C (oDec_at oX7_build 50 rfl) (v := 1) rfl ?_
            refine r_pc C 95 rfl ?_
            refine r_iload C (j := 8) (oDec_at oX7_build 51 rfl) rfl ?_
            obtain ⟨v18, ev18⟩ : ∃ z : Int64, (1 : Int64) <<< (x8.toInt64 &&& 63) = z := ⟨_, rfl⟩
            refine r_lshl C v18 (oDec_at oX7_build 52 rfl) ev18 ?_
            obtain ⟨v19, ev19⟩ : ∃ z : Int64, z = v17 ||| v18 := ⟨_, rfl⟩
            refine r_lor C v19 (oDec_at oX7_build 53 rfl) ev19 ?_
            refine r_last (n := 40) C rfl (by decide) rfl rfl ⟨by omega, by omega⟩ (by decide) rfl (oDec_at oX7_build 54 rfl) ?_
            obtain ⟨v20, ev20⟩ : ∃ z : Int32, x8 + Int32.ofInt 1 = z := ⟨_, rfl⟩
            have hv20 : v20.toInt = x8.toInt + 1 := n_inc ev20 (by decide) (by omega) (by omega)
            refine r_iinc C (j := 8) (lv' := [(0, .ref (oad E 52)), (1, .ref (oad E c1)), (2, .ref (oad E c2)), (3, .ref (oad E 43)), (4, .ref (oad E 31)), (5, .ref (oad E 35)), (6, .int x6), (7, .int x7), (8, .int v20)]) v20 [1, 2, 3, 4, 5, 6, 7, 8, 0] (oDec_at oX7_build 55 rfl) rfl ev20 (by decide) rfl ?_
            refine r_goto C (tgt := 45) (oDec_at oX7_build 56 rfl) (by decide) ?_
            exact (ih (n - 1) (by omega)).2.1 ((pL u13 53 x7.toNatClampNeg v19)) x6 x7 v20  (by omega) (by omega) (by omega) (by omega)
      · intro t x6 x7  iv0 iv1 hmu
        have rx6 := n_rng x6
        have rx7 := n_rng x7
        refine r_iload C (j := 2) (oDec_at oX7_build 61 rfl) rfl ?_
        refine r_iload C (j := 1) (oDec_at oX7_build 62 rfl) rfl ?_
        refine r_icmp_ge C 174 (oDec_at oX7_build 63 rfl) (by decide) (fun cd21 => ?_) (fun cd21 => ?_)
        · skip
          exact r_vret C (oDec_at oX7_build 91 rfl) ⟨rfl, trivial⟩
        · skip
          refine r_iload C (j := 2) (oDec_at oX7_build 64 rfl) rfl ?_
          refine r_iconst C (oDec_at oX7_build 65 rfl) (v := k1) (by rw [qk1]; rfl) ?_
          obtain ⟨v22, ev22⟩ : ∃ z : Int32, z = x7 + k1 := ⟨_, rfl⟩
          have hv22 : v22.toInt = x7.toInt + k1.toInt := n_add ev22 (by omega) (by omega)
          refine r_iadd C v22 (oDec_at oX7_build 66 rfl) ev22 ?_
          refine r_istore C (lv' := [(0, .ref (oad E 52)), (6, .int x6), (7, .int x7), (8, .int v22)]) [1, 2, 3, 0] (oDec_at oX7_build 67 rfl) (by decide) rfl ?_
          exact (ih (n - 1) (by omega)).2.2.2 (t) x6 x7 v22  (by omega) (by omega) (by omega) (by omega)
      · intro t x6 x7 x8  iv0 iv1 iv2 hmu
        have rx6 := n_rng x6
        have rx7 := n_rng x7
        have rx8 := n_rng x8
        refine r_iload C (j := 3) (oDec_at oX7_build 68 rfl) rfl ?_
        refine r_iload C (j := 1) (oDec_at oX7_build 69 rfl) rfl ?_
        refine r_icmp_ge C 168 (oDec_at oX7_build 70 rfl) (by decide) (fun cd23 => ?_) (fun cd23 => ?_)
        · skip
          obtain ⟨v24, ev24⟩ : ∃ z : Int32, x7 + Int32.ofInt 1 = z := ⟨_, rfl⟩
          have hv24 : v24.toInt = x7.toInt + 1 := n_inc ev24 (by decide) (by omega) (by omega)
          refine r_iinc C (j := 2) (lv' := [(0, .ref (oad E 52)), (6, .int x6), (7, .int v24), (8, .int x8)]) v24 [1, 2, 0, 3] (oDec_at oX7_build 89 rfl) rfl ev24 (by decide) rfl ?_
          refine r_goto C (tgt := 115) (oDec_at oX7_build 90 rfl) (by decide) ?_
          refine r_pick C [0, 1, 2] rfl ?_
          exact (ih (n - 1) (by omega)).2.2.1 (t) x6 v24  (by omega) (by omega) (by omega)
        · skip
          refine r_aload_n C (j := 0) (oDec_at oX7_build 71 rfl) rfl rfl ?_
          refine r_getF (k := 1) (b := 53) C oCl7 rfl (by decide) flX7_11 rfl rfl rfl (oDec_at oX7_build 72 rfl) ?_
          refine r_iload C (j := 2) (oDec_at oX7_build 73 rfl) rfl ?_
          obtain ⟨v25, ev25⟩ : ∃ z : Int64, (t).2.1 53 x7.toNatClampNeg = z := ⟨_, rfl⟩
          refine r_lald (n := 40) C v25 rfl (by decide) rfl rfl ⟨by omega, by omega⟩ (by decide) ev25 (oDec_at oX7_build 74 rfl) ?_
          refine r_iload C (j := 3) (oDec_at oX7_build 75 rfl) rfl ?_
          obtain ⟨v26, ev26⟩ : ∃ z : Int64, v25 >>> (x8.toInt64 &&& 63) = z := ⟨_, rfl⟩
          refine r_lshr C v26 (oDec_at oX7_build 76 rfl) ev26 ?_
          refine r_pc C 145 rfl ?_
          refine r_lconst C (oDec_at oX7_build 77 rfl) (v := 1) rfl ?_
          obtain ⟨v27, ev27⟩ : ∃ z : Int64, z = v26 &&& (1 : Int64) := ⟨_, rfl⟩
          refine r_land C v27 (oDec_at oX7_build 78 rfl) ev27 ?_
          refine r_lconst C (oDec_at oX7_build 79 rfl) (v := 1) rfl ?_
          obtain ⟨v28, ev28⟩ : ∃ z : Int32, z = lg_cmp v27 (1 : Int64) := ⟨_, rfl⟩
          have hv28 := n_lcmp ev28
          refine r_lcmp C v28 (oDec_at oX7_build 80 rfl) ev28 ?_
          refine r_if_ne C 162 (oDec_at oX7_build 81 rfl) (by decide) (fun cd29 => ?_) (fun cd29 => ?_)
          · skip
            obtain ⟨v30, ev30⟩ : ∃ z : Int32, x8 + Int32.ofInt 1 = z := ⟨_, rfl⟩
            have hv30 : v30.toInt = x8.toInt + 1 := n_inc ev30 (by decide) (by omega) (by omega)
            refine r_iinc C (j := 3) (lv' := [(0, .ref (oad E 52)), (6, .int x6), (7, .int x7), (8, .int v30)]) v30 [1, 2, 3, 0] (oDec_at oX7_build 87 rfl) rfl ev30 (by decide) rfl ?_
            refine r_goto C (tgt := 128) (oDec_at oX7_build 88 rfl) (by decide) ?_
            exact (ih (n - 1) (by omega)).2.2.2 (t) x6 x7 v30  (by omega) (by omega) (by omega) (by omega)
          · skip
            refine r_aload_n C (j := 0) (oDec_at oX7_build 82 rfl) rfl rfl ?_
            refine r_iload C (j := 2) (oDec_at oX7_build 83 rfl) rfl ?_
            refine r_iload C (j := 3) (oDec_at oX7_build 84 rfl) rfl ?_
            refine r_iload C (j := 1) (oDec_at oX7_build 85 rfl) rfl ?_
            refine r_callVv C oCl7 rfl miX7_addPair mlX7_61 (ct_X7_addPair l E (t) x7 x8 x6 (by omega) (by omega) (by omega)) (by decide) rfl rfl rfl (Nat.le_of_ble_eq_true rfl) (oDec_at oX7_build 86 rfl) (fun u31 pu31 fu31 => ?_)
            try dsimp only at pu31
            obtain ⟨v33, ev33⟩ : ∃ z : Int32, x8 + Int32.ofInt 1 = z := ⟨_, rfl⟩
            have hv33 : v33.toInt = x8.toInt + 1 := n_inc ev33 (by decide) (by omega) (by omega)
            refine r_iinc C (j := 3) (lv' := [(0, .ref (oad E 52)), (6, .int x6), (7, .int x7), (8, .int v33)]) v33 [1, 2, 3, 0] (oDec_at oX7_build 87 rfl) rfl ev33 (by decide) rfl ?_
            refine r_pc C 165 rfl ?_
            refine r_goto C (tgt := 128) (oDec_at oX7_build 88 rfl) (by decide) ?_
            exact (ih (n - 1) (by omega)).2.2.2 (u31) x6 x7 v33  (by omega) (by omega) (by omega) (by omega)
  refine r_aload_n C (j := 3) (oDec_at oX7_build 0 rfl) rfl rfl ?_
  obtain ⟨v34, ev34⟩ : ∃ z : Int32, (s).1 43 4 = z := ⟨_, rfl⟩
  have gv34 : (s.1 43 4).toInt = v34.toInt := congrArg Int32.toInt (ev34)
  refine r_getiN (k := 4) (lo := 0) (hi := 4500) C v34 oCl10 rfl (by decide) flX7_22 rfl rfl (ev34) rfl rfl (oDec_at oX7_build 1 rfl) (fun b35 b35h => ?_)
  refine r_bipush C (oDec_at oX7_build 2 rfl) (v := k40) (by rw [qk40]; rfl) ?_
  refine r_callSi C miJ9_min_7cf53 mlX7_28 (ct_J9_min_7cf53 l E (s) v34 k40 ) (by decide) rfl rfl rfl (Nat.le_of_ble_eq_true rfl) (oDec_at oX7_build 3 rfl) (fun r37 u36 pu36 fu36 => ?_)
  try dsimp only at pu36
  have rr37 := n_rng r37
  refine r_istore C (lv' := [(0, .ref (oad E 52)), (1, .ref (oad E c1)), (2, .ref (oad E c2)), (3, .ref (oad E 43)), (4, .ref (oad E 31)), (5, .ref (oad E 35)), (6, .int r37)]) [1, 2, 3, 4, 5, 6, 0] (oDec_at oX7_build 4 rfl) (by decide) rfl ?_
  refine r_aload_n C (j := 0) (oDec_at oX7_build 5 rfl) rfl rfl ?_
  refine r_pc C 12 rfl ?_
  refine r_iconst C (oDec_at oX7_build 6 rfl) (v := k0) (by rw [qk0]; rfl) ?_
  refine r_puti (k := 4) (lo := 0) (hi := 780) C oCl7 rfl (by decide) flX7_34 rfl rfl rfl rfl rfl rfl rfl rfl ⟨by omega, by omega⟩ (oDec_at oX7_build 7 rfl) ?_
  refine r_aload_n C (j := 0) (oDec_at oX7_build 8 rfl) rfl rfl ?_
  refine r_iconst C (oDec_at oX7_build 9 rfl) (v := k0) (by rw [qk0]; rfl) ?_
  refine r_puti (k := 5) (lo := 0) (hi := 9880) C oCl7 rfl (by decide) flX7_37 rfl rfl rfl rfl rfl rfl rfl rfl ⟨by omega, by omega⟩ (oDec_at oX7_build 10 rfl) ?_
  refine r_iconst C (oDec_at oX7_build 11 rfl) (v := k0) (by rw [qk0]; rfl) ?_
  refine r_pc C 22 rfl ?_
  refine r_istore C (lv' := [(0, .ref (oad E 52)), (1, .ref (oad E c1)), (2, .ref (oad E c2)), (3, .ref (oad E 43)), (4, .ref (oad E 31)), (5, .ref (oad E 35)), (6, .int r37), (7, .int k0)]) [1, 2, 3, 4, 5, 6, 7, 0] (oDec_at oX7_build 12 rfl) (by decide) rfl ?_
  exact (key (1000000 + 1000 * (41 - k0.toInt)).toNat).1 ((pI (pI u36 52 4 k0) 52 5 k0)) r37 k0  (by omega) (by omega) (by omega)
set_option maxHeartbeats 4000000 in
set_option maxRecDepth 100000 in
theorem ct_X7_memberOf (l : Launch) (E : oE) (s : oS) (a1 : Int32) (a2 : Int32) (a3 : Int32)  : oMet l 1 yX7_memberOf cX7_memberOf 6 (some .int) [] E s [.ref (oad E 52), .int a1, .int a2, .int a3] (oPi (fun r u => True)) := by
  refine oMet.of (lv := [(0, .ref (oad E 52)), (1, .int a1), (2, .int a2), (3, .int a3)]) (by decide +kernel) (Nat.le_of_ble_eq_true rfl) rfl (fun J C hT => ?_)
  have C : oC l 1 cX7_memberOf RX7 6 (some .int) [] E s (oPi (fun r u => True)) J := C
  obtain ⟨km1, qkm1⟩ : ∃ z : Int32, z = (-1) := ⟨_, rfl⟩
  have ekm1 : km1.toInt = (-1) := by rw [qkm1]; rfl
  obtain ⟨k2, qk2⟩ : ∃ z : Int32, z = 2 := ⟨_, rfl⟩
  have ek2 : k2.toInt = 2 := by rw [qk2]; rfl
  obtain ⟨k3, qk3⟩ : ∃ z : Int32, z = 3 := ⟨_, rfl⟩
  have ek3 : k3.toInt = 3 := by rw [qk3]; rfl
  obtain ⟨k40, qk40⟩ : ∃ z : Int32, z = 40 := ⟨_, rfl⟩
  have ek40 : k40.toInt = 40 := by rw [qk40]; rfl
  have rg1 := n_rng a1
  have rg2 := n_rng a2
  have rg3 := n_rng a3
  have key : ∀ n : Nat, (∀ (t : oS) (x4 : Int32) (x5 : Int32), 2147483648 - x5.toInt ≤ (n : Int) → J t 62 [(1, .int a1), (4, .int x4), (5, .int x5)] []) := by
    intro n
    induction n using Nat.strongRecOn with
    | _ n ih =>
      skip
      · intro t x4 x5   hmu
        have rx4 := n_rng x4
        have rx5 := n_rng x5
        refine r_iload C (j := 2) (oDec_at oX7_memberOf 36 rfl) rfl ?_
        refine r_iload_n C (j := 0) (oDec_at oX7_memberOf 37 rfl) rfl rfl ?_
        refine r_iconst C (oDec_at oX7_memberOf 38 rfl) (v := k2) (by rw [qk2]; rfl) ?_
        obtain ⟨v1, ev1⟩ : ∃ z : Int32, z = a1 - k2 := ⟨_, rfl⟩
        have rv1 := n_rng v1
        refine r_isub C v1 (oDec_at oX7_memberOf 39 rfl) ev1 ?_
        refine r_icmp_ge C 83 (oDec_at oX7_memberOf 40 rfl) (by decide) (fun cd2 => ?_) (fun cd2 => ?_)
        · skip
          refine r_iload C (j := 1) (oDec_at oX7_memberOf 47 rfl) rfl ?_
          refine r_bipush C (oDec_at oX7_memberOf 48 rfl) (v := k40) (by rw [qk40]; rfl) ?_
          obtain ⟨v3, ev3⟩ : ∃ z : Int32, z = x4 - x4 / k40 * k40 := ⟨_, rfl⟩
          have hv3 := n_rem (k := 40) ev3 ek40 (by decide)
          have rv3 := n_rng v3
          refine r_irem C v3 (oDec_at oX7_memberOf 49 rfl) (n_ne0 (by omega)) ev3 ?_
          exact r_iret C (oDec_at oX7_memberOf 50 rfl) ⟨_, rfl, trivial⟩
        · skip
          refine r_iload C (j := 1) (oDec_at oX7_memberOf 41 rfl) rfl ?_
          refine r_bipush C (oDec_at oX7_memberOf 42 rfl) (v := k40) (by rw [qk40]; rfl) ?_
          obtain ⟨v4, ev4⟩ : ∃ z : Int32, z = x4 / k40 := ⟨_, rfl⟩
          have hv4 := n_divP (k := 40) ev4 ek40 (by decide)
          have rv4 := n_rng v4
          refine r_idiv C v4 (oDec_at oX7_memberOf 43 rfl) (n_ne0 (by omega)) ev4 ?_
          refine r_istore C (lv' := [(1, .int a1), (4, .int v4), (5, .int x5)]) [1, 0, 2] (oDec_at oX7_memberOf 44 rfl) (by decide) rfl ?_
          obtain ⟨v5, ev5⟩ : ∃ z : Int32, x5 + Int32.ofInt 1 = z := ⟨_, rfl⟩
          have hv5 : v5.toInt = x5.toInt + 1 := n_inc ev5 (by decide) (by omega) (by omega)
          refine r_iinc C (j := 2) (lv' := [(1, .int a1), (4, .int v4), (5, .int v5)]) v5 [1, 2, 0] (oDec_at oX7_memberOf 45 rfl) rfl ev5 (by decide) rfl ?_
          refine r_goto C (tgt := 62) (oDec_at oX7_memberOf 46 rfl) (by decide) ?_
          exact (ih (n - 1) (by omega)) (t) v4 v5   (by omega)
  refine r_iload_n C (j := 2) (oDec_at oX7_memberOf 0 rfl) rfl rfl ?_
  refine r_if_lt C 35 (oDec_at oX7_memberOf 1 rfl) (by decide) (fun cd6 => ?_) (fun cd6 => ?_)
  · skip
    refine r_iconst C (oDec_at oX7_memberOf 19 rfl) (v := km1) (by rw [qkm1]; rfl) ?_
    exact r_iret C (oDec_at oX7_memberOf 20 rfl) ⟨_, rfl, trivial⟩
  · skip
    refine r_iload_n C (j := 2) (oDec_at oX7_memberOf 2 rfl) rfl rfl ?_
    refine r_iload_n C (j := 1) (oDec_at oX7_memberOf 3 rfl) rfl rfl ?_
    refine r_iconst C (oDec_at oX7_memberOf 4 rfl) (v := k3) (by rw [qk3]; rfl) ?_
    refine r_icmp_ne C 17 (oDec_at oX7_memberOf 5 rfl) (by decide) (fun cd7 => ?_) (fun cd7 => ?_)
    · skip
      refine r_aload_n C (j := 0) (oDec_at oX7_memberOf 9 rfl) rfl rfl ?_
      obtain ⟨v8, ev8⟩ : ∃ z : Int32, (s).1 52 5 = z := ⟨_, rfl⟩
      have gv8 : (s.1 52 5).toInt = v8.toInt := congrArg Int32.toInt (ev8)
      refine r_geti (k := 5) (lo := 0) (hi := 9880) C v8 oCl7 rfl (by decide) flX7_37 rfl rfl (ev8) rfl rfl (oDec_at oX7_memberOf 10 rfl) (fun b9 b9h => ?_)
      refine r_icmp_ge C 35 (oDec_at oX7_memberOf 11 rfl) (by decide) (fun cd10 => ?_) (fun cd10 => ?_)
      · skip
        refine r_iconst C (oDec_at oX7_memberOf 19 rfl) (v := km1) (by rw [qkm1]; rfl) ?_
        exact r_iret C (oDec_at oX7_memberOf 20 rfl) ⟨_, rfl, trivial⟩
      · skip
        refine r_iload_n C (j := 3) (oDec_at oX7_memberOf 12 rfl) rfl rfl ?_
        refine r_if_lt C 35 (oDec_at oX7_memberOf 13 rfl) (by decide) (fun cd11 => ?_) (fun cd11 => ?_)
        · skip
          refine r_iconst C (oDec_at oX7_memberOf 19 rfl) (v := km1) (by rw [qkm1]; rfl) ?_
          exact r_iret C (oDec_at oX7_memberOf 20 rfl) ⟨_, rfl, trivial⟩
        · skip
          refine r_iload_n C (j := 3) (oDec_at oX7_memberOf 14 rfl) rfl rfl ?_
          refine r_iload_n C (j := 1) (oDec_at oX7_memberOf 15 rfl) rfl rfl ?_
          refine r_iconst C (oDec_at oX7_memberOf 16 rfl) (v := k2) (by rw [qk2]; rfl) ?_
          obtain ⟨v12, ev12⟩ : ∃ z : Int32, z = a1 - k2 := ⟨_, rfl⟩
          have rv12 := n_rng v12
          refine r_isub C v12 (oDec_at oX7_memberOf 17 rfl) ev12 ?_
          refine r_icmp_le C 37 (oDec_at oX7_memberOf 18 rfl) (by decide) (fun cd13 => ?_) (fun cd13 => ?_)
          · skip
            refine r_iload_n C (j := 1) (oDec_at oX7_memberOf 21 rfl) rfl rfl ?_
            refine r_iconst C (oDec_at oX7_memberOf 22 rfl) (v := k3) (by rw [qk3]; rfl) ?_
            refine r_icmp_ne C 51 (oDec_at oX7_memberOf 23 rfl) (by decide) (fun cd14 => ?_) (fun cd14 => ?_)
            · skip
              refine r_aload_n C (j := 0) (oDec_at oX7_memberOf 29 rfl) rfl rfl ?_
              refine r_getF (k := 3) (b := 55) C oCl7 rfl (by decide) flX7_19 rfl rfl rfl (oDec_at oX7_memberOf 30 rfl) ?_
              refine r_iload_n C (j := 2) (oDec_at oX7_memberOf 31 rfl) rfl rfl ?_
              obtain ⟨v15, ev15⟩ : ∃ z : Int32, (s).1 55 a2.toNatClampNeg = z := ⟨_, rfl⟩
              have rv15 := n_rng v15
              refine r_iald (n := 9880) (lo := (-2147483648)) (hi := 2147483647) C v15 rfl (by decide) rfl rfl ⟨by omega, by omega⟩ (by decide) ev15 rfl rfl (oDec_at oX7_memberOf 32 rfl) (fun _ _ => ?_)
              refine r_istore C (lv' := [(0, .ref (oad E 52)), (1, .int a1), (2, .int a2), (3, .int a3), (4, .int v15)]) [1, 2, 3, 4, 0] (oDec_at oX7_memberOf 33 rfl) (by decide) rfl ?_
              refine r_iload_n C (j := 3) (oDec_at oX7_memberOf 34 rfl) rfl rfl ?_
              refine r_pc C 60 rfl ?_
              refine r_istore C (lv' := [(0, .ref (oad E 52)), (1, .int a1), (2, .int a2), (3, .int a3), (4, .int v15), (5, .int a3)]) [1, 2, 3, 4, 5, 0] (oDec_at oX7_memberOf 35 rfl) (by decide) rfl ?_
              refine r_pick C [1, 4, 5] rfl ?_
              exact (key (2147483648 - a3.toInt).toNat) (s) v15 a3   (by omega)
            · omega
          · skip
            refine r_iconst C (oDec_at oX7_memberOf 19 rfl) (v := km1) (by rw [qkm1]; rfl) ?_
            exact r_iret C (oDec_at oX7_memberOf 20 rfl) ⟨_, rfl, trivial⟩
    · skip
      refine r_aload_n C (j := 0) (oDec_at oX7_memberOf 6 rfl) rfl rfl ?_
      obtain ⟨v17, ev17⟩ : ∃ z : Int32, (s).1 52 4 = z := ⟨_, rfl⟩
      have gv17 : (s.1 52 4).toInt = v17.toInt := congrArg Int32.toInt (ev17)
      refine r_geti (k := 4) (lo := 0) (hi := 780) C v17 oCl7 rfl (by decide) flX7_34 rfl rfl (ev17) rfl rfl (oDec_at oX7_memberOf 7 rfl) (fun b18 b18h => ?_)
      refine r_goto C (tgt := 21) (oDec_at oX7_memberOf 8 rfl) (by decide) ?_
      refine r_icmp_ge C 35 (oDec_at oX7_memberOf 11 rfl) (by decide) (fun cd19 => ?_) (fun cd19 => ?_)
      · skip
        refine r_iconst C (oDec_at oX7_memberOf 19 rfl) (v := km1) (by rw [qkm1]; rfl) ?_
        exact r_iret C (oDec_at oX7_memberOf 20 rfl) ⟨_, rfl, trivial⟩
      · skip
        refine r_iload_n C (j := 3) (oDec_at oX7_memberOf 12 rfl) rfl rfl ?_
        refine r_if_lt C 35 (oDec_at oX7_memberOf 13 rfl) (by decide) (fun cd20 => ?_) (fun cd20 => ?_)
        · skip
          refine r_iconst C (oDec_at oX7_memberOf 19 rfl) (v := km1) (by rw [qkm1]; rfl) ?_
          exact r_iret C (oDec_at oX7_memberOf 20 rfl) ⟨_, rfl, trivial⟩
        · skip
          refine r_iload_n C (j := 3) (oDec_at oX7_memberOf 14 rfl) rfl rfl ?_
          refine r_iload_n C (j := 1) (oDec_at oX7_memberOf 15 rfl) rfl rfl ?_
          refine r_iconst C (oDec_at oX7_memberOf 16 rfl) (v := k2) (by rw [qk2]; rfl) ?_
          obtain ⟨v21, ev21⟩ : ∃ z : Int32, z = a1 - k2 := ⟨_, rfl⟩
          have rv21 := n_rng v21
          refine r_isub C v21 (oDec_at oX7_memberOf 17 rfl) ev21 ?_
          refine r_icmp_le C 37 (oDec_at oX7_memberOf 18 rfl) (by decide) (fun cd22 => ?_) (fun cd22 => ?_)
          · skip
            refine r_iload_n C (j := 1) (oDec_at oX7_memberOf 21 rfl) rfl rfl ?_
            refine r_iconst C (oDec_at oX7_memberOf 22 rfl) (v := k3) (by rw [qk3]; rfl) ?_
            refine r_icmp_ne C 51 (oDec_at oX7_memberOf 23 rfl) (by decide) (fun cd23 => ?_) (fun cd23 => ?_)
            · omega
            · skip
              refine r_aload_n C (j := 0) (oDec_at oX7_memberOf 24 rfl) rfl rfl ?_
              refine r_getF (k := 2) (b := 54) C oCl7 rfl (by decide) flX7_15 rfl rfl rfl (oDec_at oX7_memberOf 25 rfl) ?_
              refine r_iload_n C (j := 2) (oDec_at oX7_memberOf 26 rfl) rfl rfl ?_
              obtain ⟨v24, ev24⟩ : ∃ z : Int32, (s).1 54 a2.toNatClampNeg = z := ⟨_, rfl⟩
              have rv24 := n_rng v24
              refine r_iald (n := 780) (lo := (-2147483648)) (hi := 2147483647) C v24 rfl (by decide) rfl rfl ⟨by omega, by omega⟩ (by decide) ev24 rfl rfl (oDec_at oX7_memberOf 27 rfl) (fun _ _ => ?_)
              refine r_goto C (tgt := 57) (oDec_at oX7_memberOf 28 rfl) (by decide) ?_
              refine r_istore C (lv' := [(0, .ref (oad E 52)), (1, .int a1), (2, .int a2), (3, .int a3), (4, .int v24)]) [1, 2, 3, 4, 0] (oDec_at oX7_memberOf 33 rfl) (by decide) rfl ?_
              refine r_iload_n C (j := 3) (oDec_at oX7_memberOf 34 rfl) rfl rfl ?_
              refine r_pc C 60 rfl ?_
              refine r_istore C (lv' := [(0, .ref (oad E 52)), (1, .int a1), (2, .int a2), (3, .int a3), (4, .int v24), (5, .int a3)]) [1, 2, 3, 4, 5, 0] (oDec_at oX7_memberOf 35 rfl) (by decide) rfl ?_
              refine r_pick C [1, 4, 5] rfl ?_
              exact (key (2147483648 - a3.toInt).toNat) (s) v24 a3   (by omega)
          · skip
            refine r_iconst C (oDec_at oX7_memberOf 19 rfl) (v := km1) (by rw [qkm1]; rfl) ?_
            exact r_iret C (oDec_at oX7_memberOf 20 rfl) ⟨_, rfl, trivial⟩
