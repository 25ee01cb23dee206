set_option maxHeartbeats 4000000 in
set_option maxRecDepth 100000 in
theorem ct_X12_putsAside (l : Launch) (E : oE) (s : oS)  (hp0 : oLT s) : oMet l 1 yX12_putsAside cX12_putsAside 2 none [(12, 77), (90, 9999), (91, 9999)] E s [.ref (oad E 71)] (oPv (fun u => (oLT u) ∧ (oAT u) ∧ ((u.1 71 77).toInt = (u.1 71 38).toInt))) := by
  refine oMet.of (lv := [(0, .ref (oad E 71))]) (by decide +kernel) (Nat.le_of_ble_eq_true rfl) rfl (fun J C hT => ?_)
  have C : oC l 1 cX12_putsAside RX12 2 none [(12, 77), (90, 9999), (91, 9999)] E s (oPv (fun u => (oLT u) ∧ (oAT u) ∧ ((u.1 71 77).toInt = (u.1 71 38).toInt))) J := C
  obtain ⟨k0, qk0⟩ : ∃ z : Int32, z = 0 := ⟨_, rfl⟩
  have ek0 : k0.toInt = 0 := by rw [qk0]; rfl
  have htn : (0 : Int) ≤ (s.1 71 38).toInt ∧ (s.1 71 38).toInt ≤ 24 := hT.1 71 38
  have hta : (0 : Int) ≤ (s.1 71 77).toInt ∧ (s.1 71 77).toInt ≤ 24 := hT.1 71 77
  have key : ∀ n : Nat, (∀ (t : oS) (x1 : Int32), (oLT t) → (0 ≤ x1.toInt ∧ x1.toInt ≤ (t.1 71 38).toInt) → ((t.1 71 77).toInt = (t.1 71 38).toInt) → ((t.1 71 38).toInt ≤ 24) → (oCq x1 t) → 25 - x1.toInt ≤ (n : Int) → J t 10 [(0, .ref (oad E 71)), (1, .int x1)] []) := by
    intro n
    induction n using Nat.strongRecOn with
    | _ n ih =>
      skip
      · intro t x1  iv0 iv1 iv2 iv3 iv4 hmu
        have rx1 := n_rng x1
        refine r_iload_n C (j := 1) (oDec_at oX12_putsAside 6 rfl) rfl rfl ?_
        refine r_aload_n C (j := 0) (oDec_at oX12_putsAside 7 rfl) rfl rfl ?_
        obtain ⟨v1, ev1⟩ : ∃ z : Int32, (t).1 71 38 = z := ⟨_, rfl⟩
        have gv1 : (t.1 71 38).toInt = v1.toInt := congrArg Int32.toInt (ev1)
        refine r_geti (k := 38) (lo := 0) (hi := 24) C v1 oCl12 rfl (by decide) flX12_261 rfl rfl (ev1) rfl rfl (oDec_at oX12_putsAside 8 rfl) (fun b2 b2h => ?_)
        refine r_icmp_ge C 48 (oDec_at oX12_putsAside 9 rfl) (by decide) (fun cd3 => ?_) (fun cd3 => ?_)
        · skip
          have hq4 : oAT (t) := oAT_of (x := x1) iv4 iv0 (by omega) (by omega)
          have lk5 : ((t).1 71 38).toInt = v1.toInt := congrArg Int32.toInt (ev1)
          exact r_vret C (oDec_at oX12_putsAside 28 rfl) ⟨rfl, ⟨iv0, hq4, by omega⟩⟩
        · skip
          refine r_aload_n C (j := 0) (oDec_at oX12_putsAside 10 rfl) rfl rfl ?_
          refine r_getF (k := 75) (b := 114) C oCl12 rfl (by decide) flX12_158 rfl rfl rfl (oDec_at oX12_putsAside 11 rfl) ?_
          refine r_iload_n C (j := 1) (oDec_at oX12_putsAside 12 rfl) rfl rfl ?_
          refine r_aload_n C (j := 0) (oDec_at oX12_putsAside 13 rfl) rfl rfl ?_
          refine r_getF (k := 39) (b := 99) C oCl12 rfl (by decide) flX12_96 rfl rfl rfl (oDec_at oX12_putsAside 14 rfl) ?_
          refine r_iload_n C (j := 1) (oDec_at oX12_putsAside 15 rfl) rfl rfl ?_
          refine r_pc C 28 rfl ?_
          obtain ⟨v7, ev7⟩ : ∃ z : Int32, (t).1 99 x1.toNatClampNeg = z := ⟨_, rfl⟩
          have gv7 : (t.1 99 x1.toNatClampNeg).toInt = v7.toInt := congrArg Int32.toInt (ev7)
          have rv7 := n_rng v7
          refine r_iald (n := 48) (lo := (-2147483648)) (hi := 2147483647) C v7 rfl (by decide) rfl rfl ⟨by omega, by omega⟩ (by decide) ev7 rfl rfl (oDec_at oX12_putsAside 16 rfl) (fun _ _ => ?_)
          refine r_iast (n := 24) (lo := (-2147483648)) (hi := 2147483647) C rfl (by decide) rfl rfl ⟨by omega, by omega⟩ (by decide) rfl rfl rfl rfl (n_rng _) (oDec_at oX12_putsAside 17 rfl) ?_
          refine r_aload_n C (j := 0) (oDec_at oX12_putsAside 18 rfl) rfl rfl ?_
          refine r_getF (k := 76) (b := 115) C oCl12 rfl (by decide) flX12_161 rfl rfl rfl (oDec_at oX12_putsAside 19 rfl) ?_
          refine r_iload_n C (j := 1) (oDec_at oX12_putsAside 20 rfl) rfl rfl ?_
          refine r_aload_n C (j := 0) (oDec_at oX12_putsAside 21 rfl) rfl rfl ?_
          refine r_pc C 36 rfl ?_
          refine r_getF (k := 40) (b := 100) C oCl12 rfl (by decide) flX12_99 rfl rfl rfl (oDec_at oX12_putsAside 22 rfl) ?_
          refine r_iload_n C (j := 1) (oDec_at oX12_putsAside 23 rfl) rfl rfl ?_
          obtain ⟨v9, ev9⟩ : ∃ z : Int32, ((pI t 114 x1.toNatClampNeg v7)).1 100 x1.toNatClampNeg = z := ⟨_, rfl⟩
          have av9 : t.1 100 x1.toNatClampNeg = v9 := ((pI_ne (a := 100) (b := x1.toNatClampNeg) (c := 114) _ _ (Or.inl (by decide)))).symm.trans ev9
          have gv9 : (t.1 100 x1.toNatClampNeg).toInt = v9.toInt := congrArg Int32.toInt (((pI_ne (a := 100) (b := x1.toNatClampNeg) (c := 114) _ _ (Or.inl (by decide)))).symm.trans ev9)
          refine r_iald (n := 48) (lo := 0) (hi := 9999) C v9 rfl (by decide) rfl rfl ⟨by omega, by omega⟩ (by decide) ev9 rfl rfl (oDec_at oX12_putsAside 24 rfl) (fun b8 b8h => ?_)
          refine r_iast (n := 24) (lo := 0) (hi := 9999) C rfl (by decide) rfl rfl ⟨by omega, by omega⟩ (by decide) rfl rfl rfl rfl ⟨by omega, by omega⟩ (oDec_at oX12_putsAside 25 rfl) ?_
          obtain ⟨v10, ev10⟩ : ∃ z : Int32, x1 + Int32.ofInt 1 = z := ⟨_, rfl⟩
          have hv10 : v10.toInt = x1.toInt + 1 := n_inc ev10 (by decide) (by omega) (by omega)
          refine r_iinc C (j := 1) (lv' := [(0, .ref (oad E 71)), (1, .int v10)]) v10 [1, 0] (oDec_at oX12_putsAside 26 rfl) rfl ev10 (by decide) rfl ?_
          refine r_goto C (tgt := 10) (oDec_at oX12_putsAside 27 rfl) (by decide) ?_
          have lk11 : (((pI (pI t 114 x1.toNatClampNeg v7) 115 x1.toNatClampNeg v9)).1 71 38).toInt = v1.toInt := congrArg Int32.toInt (((pI_ne (a := 71) (b := 38) (c := 115) _ _ (Or.inl (by decide)))).trans (((pI_ne (a := 71) (b := 38) (c := 114) _ _ (Or.inl (by decide)))).trans (ev1)))
          have lk12 : (((pI (pI t 114 x1.toNatClampNeg v7) 115 x1.toNatClampNeg v9)).1 71 77).toInt = (t.1 71 77).toInt := congrArg Int32.toInt (((pI_ne (a := 71) (b := 77) (c := 115) _ _ (Or.inl (by decide)))).trans ((pI_ne (a := 71) (b := 77) (c := 114) _ _ (Or.inl (by decide)))))
          have lk13 : (((pI (pI t 114 x1.toNatClampNeg v7) 115 x1.toNatClampNeg v9)).1 71 38).toInt = v1.toInt := congrArg Int32.toInt (((pI_ne (a := 71) (b := 38) (c := 115) _ _ (Or.inl (by decide)))).trans (((pI_ne (a := 71) (b := 38) (c := 114) _ _ (Or.inl (by decide)))).trans (ev1)))
          have lk14 : (((pI (pI t 114 x1.toNatClampNeg v7) 115 x1.toNatClampNeg v9)).1 71 38).toInt = v1.toInt := congrArg Int32.toInt (((pI_ne (a := 71) (b := 38) (c := 115) _ _ (Or.inl (by decide)))).trans (((pI_ne (a := 71) (b := 38) (c := 114) _ _ (Or.inl (by decide)))).trans (ev1)))
          exact (ih (n - 1) (by omega)) ((pI (pI t 114 x1.toNatClampNeg v7) 115 x1.toNatClampNeg v9)) v10  (oLT_fr (oFr_oneI (q := 91) (m := 9999) rfl (by rfl)) rfl (oLT_fr (oFr_oneI (q := 90) (m := 9999) rfl (by rfl)) rfl iv0)) (by omega) (by omega) (by omega) (by first | exact oCq_step (x := x1) (y := v10) (w := v9) (oCq_fr (oFr_oneI (q := 90) (m := 9999) rfl (by rfl)) rfl iv4) (by omega) (by omega) (by assumption) | exact oCq_0 (by omega)) (by omega)
  refine r_aload_n C (j := 0) (oDec_at oX12_putsAside 0 rfl) rfl rfl ?_
  refine r_aload_n C (j := 0) (oDec_at oX12_putsAside 1 rfl) rfl rfl ?_
  obtain ⟨v15, ev15⟩ : ∃ z : Int32, (s).1 71 38 = z := ⟨_, rfl⟩
  have gv15 : (s.1 71 38).toInt = v15.toInt := congrArg Int32.toInt (ev15)
  refine r_geti (k := 38) (lo := 0) (hi := 24) C v15 oCl12 rfl (by decide) flX12_261 rfl rfl (ev15) rfl rfl (oDec_at oX12_putsAside 2 rfl) (fun b16 b16h => ?_)
  refine r_puti (k := 77) (lo := 0) (hi := 24) C oCl12 rfl (by decide) flX12_545 rfl rfl rfl rfl rfl rfl rfl rfl ⟨by omega, by omega⟩ (oDec_at oX12_putsAside 3 rfl) ?_
  refine r_iconst C (oDec_at oX12_putsAside 4 rfl) (v := k0) (by rw [qk0]; rfl) ?_
  refine r_istore_n C (lv' := [(0, .ref (oad E 71)), (1, .int k0)]) [1, 0] (oDec_at oX12_putsAside 5 rfl) rfl (by decide) rfl ?_
  have lk17 : (((pI s 71 77 v15)).1 71 38).toInt = v15.toInt := congrArg Int32.toInt (((pI_ne (a := 71) (b := 38) (c := 71) (k := 77) _ _ (Or.inr (by decide)))).trans (ev15))
  have lk18 : (((pI s 71 77 v15)).1 71 77).toInt = v15.toInt := congrArg Int32.toInt ((pI_self _ _ _ _))
  have lk19 : (((pI s 71 77 v15)).1 71 38).toInt = v15.toInt := congrArg Int32.toInt (((pI_ne (a := 71) (b := 38) (c := 71) (k := 77) _ _ (Or.inr (by decide)))).trans (ev15))
  have lk20 : (((pI s 71 77 v15)).1 71 38).toInt = v15.toInt := congrArg Int32.toInt (((pI_ne (a := 71) (b := 38) (c := 71) (k := 77) _ _ (Or.inr (by decide)))).trans (ev15))
  exact (key (25 - k0.toInt).toNat) ((pI s 71 77 v15)) k0  (oLT_fr (oFr_oneI (q := 12) (m := 77) rfl (by rfl)) rfl hp0) (by omega) (by omega) (by omega) (by first | exact oCq_step (x := x1) (y := k0) (w := v15) (by assumption) (by omega) (by omega) (by assumption) | exact oCq_0 (by omega)) (by omega)
set_option maxHeartbeats 4000000 in
set_option maxRecDepth 100000 in
theorem ct_X12_takesBack (l : Launch) (E : oE) (s : oS)  (hp0 : oAT s) : oMet l 2 yX12_takesBack cX12_takesBack 2 none [(12, 38), (12, 42), (12, 43), (12, 69), (75, 9999), (76, 9999), (77, 9999)] E s [.ref (oad E 71)] (oPv (fun u => (oLT u) ∧ (oAT u) ∧ (1 ≤ (u.1 71 38).toInt → 1 ≤ (u.1 71 42).toInt))) := by
  refine oMet.of (lv := [(0, .ref (oad E 71))]) (by decide +kernel) (Nat.le_of_ble_eq_true rfl) rfl (fun J C hT => ?_)
  have C : oC l 2 cX12_takesBack RX12 2 none [(12, 38), (12, 42), (12, 43), (12, 69), (75, 9999), (76, 9999), (77, 9999)] E s (oPv (fun u => (oLT u) ∧ (oAT u) ∧ (1 ≤ (u.1 71 38).toInt → 1 ≤ (u.1 71 42).toInt))) J := C
  obtain ⟨k0, qk0⟩ : ∃ z : Int32, z = 0 := ⟨_, rfl⟩
  have ek0 : k0.toInt = 0 := by rw [qk0]; rfl
  have htn : (0 : Int) ≤ (s.1 71 38).toInt ∧ (s.1 71 38).toInt ≤ 24 := hT.1 71 38
  have hta : (0 : Int) ≤ (s.1 71 77).toInt ∧ (s.1 71 77).toInt ≤ 24 := hT.1 71 77
  have key : ∀ n : Nat, (∀ (t : oS) (x1 : Int32), (oAT t) → (0 ≤ x1.toInt ∧ x1.toInt ≤ (t.1 71 38).toInt) → ((t.1 71 77).toInt = (t.1 71 38).toInt) → ((t.1 71 38).toInt ≤ 24) → (oCq x1 t) → 25 - x1.toInt ≤ (n : Int) → J t 10 [(0, .ref (oad E 71)), (1, .int x1)] []) := by
    intro n
    induction n using Nat.strongRecOn with
    | _ n ih =>
      skip
      · intro t x1  iv0 iv1 iv2 iv3 iv4 hmu
        have rx1 := n_rng x1
        refine r_iload_n C (j := 1) (oDec_at oX12_takesBack 6 rfl) rfl rfl ?_
        refine r_aload_n C (j := 0) (oDec_at oX12_takesBack 7 rfl) rfl rfl ?_
        obtain ⟨v1, ev1⟩ : ∃ z : Int32, (t).1 71 38 = z := ⟨_, rfl⟩
        have gv1 : (t.1 71 38).toInt = v1.toInt := congrArg Int32.toInt (ev1)
        refine r_geti (k := 38) (lo := 0) (hi := 24) C v1 oCl12 rfl (by decide) flX12_261 rfl rfl (ev1) rfl rfl (oDec_at oX12_takesBack 8 rfl) (fun b2 b2h => ?_)
        refine r_icmp_ge C 48 (oDec_at oX12_takesBack 9 rfl) (by decide) (fun cd3 => ?_) (fun cd3 => ?_)
        · skip
          have hq4 : oLT (t) := oLT_of (x := x1) iv4 iv0 (by omega) (by omega)
          refine r_aload_n C (j := 0) (oDec_at oX12_takesBack 28 rfl) rfl rfl ?_
          refine r_callVv C oCl12 rfl miX12_lies mlX12_264 (ct_X12_lies l E (t)  hq4) (by decide) rfl rfl rfl (Nat.le_of_ble_eq_true rfl) (oDec_at oX12_takesBack 29 rfl) (fun u5 pu5 fu5 => ?_)
          try dsimp only at pu5
          obtain ⟨pu5_0, pu5_1⟩ := pu5
          have lu7 : ((u5).1 71 38).toInt = v1.toInt := congrArg Int32.toInt (((fu5 71 38 rfl).1).trans (ev1))
          have lk8 : ((u5).1 71 38).toInt = v1.toInt := congrArg Int32.toInt (((fu5 71 38 rfl).1).trans (ev1))
          exact r_vret C (oDec_at oX12_takesBack 30 rfl) ⟨rfl, ⟨pu5_0, (oAT_fr fu5 rfl iv0), by omega⟩⟩
        · skip
          refine r_aload_n C (j := 0) (oDec_at oX12_takesBack 10 rfl) rfl rfl ?_
          refine r_getF (k := 39) (b := 99) C oCl12 rfl (by decide) flX12_96 rfl rfl rfl (oDec_at oX12_takesBack 11 rfl) ?_
          refine r_iload_n C (j := 1) (oDec_at oX12_takesBack 12 rfl) rfl rfl ?_
          refine r_aload_n C (j := 0) (oDec_at oX12_takesBack 13 rfl) rfl rfl ?_
          refine r_getF (k := 75) (b := 114) C oCl12 rfl (by decide) flX12_158 rfl rfl rfl (oDec_at oX12_takesBack 14 rfl) ?_
          refine r_iload_n C (j := 1) (oDec_at oX12_takesBack 15 rfl) rfl rfl ?_
          refine r_pc C 28 rfl ?_
          obtain ⟨v10, ev10⟩ : ∃ z : Int32, (t).1 114 x1.toNatClampNeg = z := ⟨_, rfl⟩
          have gv10 : (t.1 114 x1.toNatClampNeg).toInt = v10.toInt := congrArg Int32.toInt (ev10)
          have rv10 := n_rng v10
          refine r_iald (n := 24) (lo := (-2147483648)) (hi := 2147483647) C v10 rfl (by decide) rfl rfl ⟨by omega, by omega⟩ (by decide) ev10 rfl rfl (oDec_at oX12_takesBack 16 rfl) (fun _ _ => ?_)
          refine r_iast (n := 48) (lo := (-2147483648)) (hi := 2147483647) C rfl (by decide) rfl rfl ⟨by omega, by omega⟩ (by decide) rfl rfl rfl rfl (n_rng _) (oDec_at oX12_takesBack 17 rfl) ?_
          refine r_aload_n C (j := 0) (oDec_at oX12_takesBack 18 rfl) rfl rfl ?_
          refine r_getF (k := 40) (b := 100) C oCl12 rfl (by decide) flX12_99 rfl rfl rfl (oDec_at oX12_takesBack 19 rfl) ?_
          refine r_iload_n C (j := 1) (oDec_at oX12_takesBack 20 rfl) rfl rfl ?_
          refine r_aload_n C (j := 0) (oDec_at oX12_takesBack 21 rfl) rfl rfl ?_
          refine r_pc C 36 rfl ?_
          refine r_getF (k := 76) (b := 115) C oCl12 rfl (by decide) flX12_161 rfl rfl rfl (oDec_at oX12_takesBack 22 rfl) ?_
          refine r_iload_n C (j := 1) (oDec_at oX12_takesBack 23 rfl) rfl rfl ?_
          obtain ⟨v12, ev12⟩ : ∃ z : Int32, ((pI t 99 x1.toNatClampNeg v10)).1 115 x1.toNatClampNeg = z := ⟨_, rfl⟩
          have av12 : t.1 115 x1.toNatClampNeg = v12 := ((pI_ne (a := 115) (b := x1.toNatClampNeg) (c := 99) _ _ (Or.inl (by decide)))).symm.trans ev12
          have gv12 : (t.1 115 x1.toNatClampNeg).toInt = v12.toInt := congrArg Int32.toInt (((pI_ne (a := 115) (b := x1.toNatClampNeg) (c := 99) _ _ (Or.inl (by decide)))).symm.trans ev12)
          refine r_iald (n := 24) (lo := 0) (hi := 9999) C v12 rfl (by decide) rfl rfl ⟨by omega, by omega⟩ (by decide) ev12 rfl rfl (oDec_at oX12_takesBack 24 rfl) (fun b11 b11h => ?_)
          refine r_iast (n := 48) (lo := 0) (hi := 9999) C rfl (by decide) rfl rfl ⟨by omega, by omega⟩ (by decide) rfl rfl rfl rfl ⟨by omega, by omega⟩ (oDec_at oX12_takesBack 25 rfl) ?_
          obtain ⟨v13, ev13⟩ : ∃ z : Int32, x1 + Int32.ofInt 1 = z := ⟨_, rfl⟩
          have hv13 : v13.toInt = x1.toInt + 1 := n_inc ev13 (by decide) (by omega) (by omega)
          refine r_iinc C (j := 1) (lv' := [(0, .ref (oad E 71)), (1, .int v13)]) v13 [1, 0] (oDec_at oX12_takesBack 26 rfl) rfl ev13 (by decide) rfl ?_
          refine r_goto C (tgt := 10) (oDec_at oX12_takesBack 27 rfl) (by decide) ?_
          have lk14 : (((pI (pI t 99 x1.toNatClampNeg v10) 100 x1.toNatClampNeg v12)).1 71 38).toInt = v1.toInt := congrArg Int32.toInt (((pI_ne (a := 71) (b := 38) (c := 100) _ _ (Or.inl (by decide)))).trans (((pI_ne (a := 71) (b := 38) (c := 99) _ _ (Or.inl (by decide)))).trans (ev1)))
          have lk15 : (((pI (pI t 99 x1.toNatClampNeg v10) 100 x1.toNatClampNeg v12)).1 71 77).toInt = (t.1 71 77).toInt := congrArg Int32.toInt (((pI_ne (a := 71) (b := 77) (c := 100) _ _ (Or.inl (by decide)))).trans ((pI_ne (a := 71) (b := 77) (c := 99) _ _ (Or.inl (by decide)))))
          have lk16 : (((pI (pI t 99 x1.toNatClampNeg v10) 100 x1.toNatClampNeg v12)).1 71 38).toInt = v1.toInt := congrArg Int32.toInt (((pI_ne (a := 71) (b := 38) (c := 100) _ _ (Or.inl (by decide)))).trans (((pI_ne (a := 71) (b := 38) (c := 99) _ _ (Or.inl (by decide)))).trans (ev1)))
          have lk17 : (((pI (pI t 99 x1.toNatClampNeg v10) 100 x1.toNatClampNeg v12)).1 71 38).toInt = v1.toInt := congrArg Int32.toInt (((pI_ne (a := 71) (b := 38) (c := 100) _ _ (Or.inl (by decide)))).trans (((pI_ne (a := 71) (b := 38) (c := 99) _ _ (Or.inl (by decide)))).trans (ev1)))
          exact (ih (n - 1) (by omega)) ((pI (pI t 99 x1.toNatClampNeg v10) 100 x1.toNatClampNeg v12)) v13  (oAT_fr (oFr_oneI (q := 76) (m := 9999) rfl (by rfl)) rfl (oAT_fr (oFr_oneI (q := 75) (m := 9999) rfl (by rfl)) rfl iv0)) (by omega) (by omega) (by omega) (by first | exact oCq_back (x := x1) (y := v13) (w := v12) (oCq_fr (oFr_oneI (q := 75) (m := 9999) rfl (by rfl)) rfl iv4) (by omega) (by omega) (by assumption) | exact oCq_0 (by omega)) (by omega)
  refine r_aload_n C (j := 0) (oDec_at oX12_takesBack 0 rfl) rfl rfl ?_
  refine r_aload_n C (j := 0) (oDec_at oX12_takesBack 1 rfl) rfl rfl ?_
  obtain ⟨v18, ev18⟩ : ∃ z : Int32, (s).1 71 77 = z := ⟨_, rfl⟩
  have gv18 : (s.1 71 77).toInt = v18.toInt := congrArg Int32.toInt (ev18)
  refine r_geti (k := 77) (lo := 0) (hi := 24) C v18 oCl12 rfl (by decide) flX12_545 rfl rfl (ev18) rfl rfl (oDec_at oX12_takesBack 2 rfl) (fun b19 b19h => ?_)
  refine r_puti (k := 38) (lo := 0) (hi := 24) C oCl12 rfl (by decide) flX12_261 rfl rfl rfl rfl rfl rfl rfl rfl ⟨by omega, by omega⟩ (oDec_at oX12_takesBack 3 rfl) ?_
  refine r_iconst C (oDec_at oX12_takesBack 4 rfl) (v := k0) (by rw [qk0]; rfl) ?_
  refine r_istore_n C (lv' := [(0, .ref (oad E 71)), (1, .int k0)]) [1, 0] (oDec_at oX12_takesBack 5 rfl) rfl (by decide) rfl ?_
  have lk20 : (((pI s 71 38 v18)).1 71 38).toInt = v18.toInt := congrArg Int32.toInt ((pI_self _ _ _ _))
  have lk21 : (((pI s 71 38 v18)).1 71 77).toInt = v18.toInt := congrArg Int32.toInt (((pI_ne (a := 71) (b := 77) (c := 71) (k := 38) _ _ (Or.inr (by decide)))).trans (ev18))
  have lk22 : (((pI s 71 38 v18)).1 71 38).toInt = v18.toInt := congrArg Int32.toInt ((pI_self _ _ _ _))
  have lk23 : (((pI s 71 38 v18)).1 71 38).toInt = v18.toInt := congrArg Int32.toInt ((pI_self _ _ _ _))
  exact (key (25 - k0.toInt).toNat) ((pI s 71 38 v18)) k0  (oAT_fr (oFr_oneI (q := 12) (m := 38) rfl (by rfl)) rfl hp0) (by omega) (by omega) (by omega) (by first | exact oCq_back (x := x1) (y := k0) (w := v18) (by assumption) (by omega) (by omega) (by assumption) | exact oCq_0 (by omega)) (by omega)
set_option maxHeartbeats 4000000 in
set_option maxRecDepth 100000 in
theorem ct_X12_drawOf (l : Launch) (E : oE) (s : oS) (a1 : Int32) (hp0 : 1 ≤ a1.toInt) : oMet l 1 yX12_drawOf cX12_drawOf 2 (some .int) [(12, 79)] E s [.ref (oad E 71), .int a1] (oPi (fun r u => True)) := by
  refine oMet.of (lv := [(0, .ref (oad E 71)), (1, .int a1)]) (by decide +kernel) (Nat.le_of_ble_eq_true rfl) rfl (fun J C hT => ?_)
  have C : oC l 1 cX12_drawOf RX12 2 (some .int) [(12, 79)] E s (oPi (fun r u => True)) J := C
  obtain ⟨j64, qj64⟩ : ∃ z : Int64, z = 64 := ⟨_, rfl⟩
  have ej64 : j64.toInt = 64 := by rw [qj64]; rfl
  obtain ⟨j12345, qj12345⟩ : ∃ z : Int64, z = 12345 := ⟨_, rfl⟩
  have ej12345 : j12345.toInt = 12345 := by rw [qj12345]; rfl
  obtain ⟨j1103515245, qj1103515245⟩ : ∃ z : Int64, z = 1103515245 := ⟨_, rfl⟩
  have ej1103515245 : j1103515245.toInt = 1103515245 := by rw [qj1103515245]; rfl
  obtain ⟨j2147483648, qj2147483648⟩ : ∃ z : Int64, z = 2147483648 := ⟨_, rfl⟩
  have ej2147483648 : j2147483648.toInt = 2147483648 := by rw [qj2147483648]; rfl
  have rg1 := n_rng a1
  refine r_aload_n C (j := 0) (oDec_at oX12_drawOf 0 rfl) rfl rfl ?_
  refine r_ldc2 C (v := j1103515245) (by rw [qj1103515245]; exact klX12_570) (oDec_at oX12_drawOf 1 rfl) ?_
  refine r_aload_n C (j := 0) (oDec_at oX12_drawOf 2 rfl) rfl rfl ?_
  obtain ⟨v1, ev1⟩ : ∃ z : Int64, (s).2.1 71 79 = z := ⟨_, rfl⟩
  refine r_getl (k := 79) C v1 oCl12 rfl (by decide) flX12_572 rfl rfl ev1 (oDec_at oX12_drawOf 3 rfl) ?_
  obtain ⟨v2, ev2⟩ : ∃ z : Int64, z = j1103515245 * v1 := ⟨_, rfl⟩
  refine r_lmul C v2 (oDec_at oX12_drawOf 4 rfl) ev2 ?_
  refine r_ldc2 C (v := j12345) (by rw [qj12345]; exact klX12_576) (oDec_at oX12_drawOf 5 rfl) ?_
  refine r_pc C 12 rfl ?_
  obtain ⟨v3, ev3⟩ : ∃ z : Int64, z = v2 + j12345 := ⟨_, rfl⟩
  refine r_ladd C v3 (oDec_at oX12_drawOf 6 rfl) ev3 ?_
  refine r_ldc2 C (v := j2147483648) (by rw [qj2147483648]; exact klX12_578) (oDec_at oX12_drawOf 7 rfl) ?_
  obtain ⟨v4, ev4⟩ : ∃ z : Int64, z = v3 - v3 / j2147483648 * j2147483648 := ⟨_, rfl⟩
  refine r_lrem C v4 (oDec_at oX12_drawOf 8 rfl) (by rw [qj2147483648]; decide) ev4 ?_
  refine r_putl (k := 79) C oCl12 rfl (by decide) flX12_572 rfl rfl rfl rfl rfl rfl (oDec_at oX12_drawOf 9 rfl) ?_
  refine r_aload_n C (j := 0) (oDec_at oX12_drawOf 10 rfl) rfl rfl ?_
  obtain ⟨v5, ev5⟩ : ∃ z : Int64, ((pL s 71 79 v4)).2.1 71 79 = z := ⟨_, rfl⟩
  refine r_getl (k := 79) C v5 oCl12 rfl (by decide) flX12_572 rfl rfl ev5 (oDec_at oX12_drawOf 11 rfl) ?_
  refine r_pc C 24 rfl ?_
  refine r_ldc2 C (v := j64) (by rw [qj64]; exact klX12_580) (oDec_at oX12_drawOf 12 rfl) ?_
  obtain ⟨v6, ev6⟩ : ∃ z : Int64, z = v5 / j64 := ⟨_, rfl⟩
  refine r_ldiv C v6 (oDec_at oX12_drawOf 13 rfl) (by rw [qj64]; decide) ev6 ?_
  refine r_iload_n C (j := 1) (oDec_at oX12_drawOf 14 rfl) rfl rfl ?_
  obtain ⟨v7, ev7⟩ : ∃ z : Int64, a1.toInt64 = z := ⟨_, rfl⟩
  have hv7 : v7.toInt = a1.toInt := n_i2l ev7
  refine r_i2l C v7 (oDec_at oX12_drawOf 15 rfl) ev7 ?_
  obtain ⟨v8, ev8⟩ : ∃ z : Int64, z = v6 - v6 / v7 * v7 := ⟨_, rfl⟩
  refine r_lrem C v8 (oDec_at oX12_drawOf 16 rfl) (n_ne0L (by omega)) ev8 ?_
  obtain ⟨v9, ev9⟩ : ∃ z : Int32, v8.toInt32 = z := ⟨_, rfl⟩
  have rv9 := n_rng v9
  refine r_l2i C v9 (oDec_at oX12_drawOf 17 rfl) ev9 ?_
  refine r_pc C 32 rfl ?_
  exact r_iret C (oDec_at oX12_drawOf 18 rfl) ⟨_, rfl, trivial⟩
set_option maxHeartbeats 4000000 in
set_option maxRecDepth 100000 in
theorem ct_X12_draw (l : Launch) (E : oE) (s : oS) (a1 : Int32) (a2 : Int32) (a3 : Int32) (hp0 : oLT s) (hp1 : 1 ≤ (s.1 71 38).toInt → 1 ≤ (s.1 71 42).toInt) : oMet l 2 yX12_draw cX12_draw 6 (some .int) [(12, 38), (12, 42), (12, 43), (12, 69), (12, 79), (75, 9999), (76, 9999), (77, 9999)] E s [.ref (oad E 71), .int a1, .int a2, .int a3] (oPi (fun r u => (oLT u) ∧ (1 ≤ (u.1 71 38).toInt → 1 ≤ (u.1 71 42).toInt))) := by
  refine oMet.of (lv := [(0, .ref (oad E 71)), (1, .int a1), (2, .int a2), (3, .int a3)]) (by decide +kernel) (Nat.le_of_ble_eq_true rfl) rfl (fun J C hT => ?_)
  have C : oC l 2 cX12_draw RX12 6 (some .int) [(12, 38), (12, 42), (12, 43), (12, 69), (12, 79), (75, 9999), (76, 9999), (77, 9999)] E s (oPi (fun r u => (oLT u) ∧ (1 ≤ (u.1 71 38).toInt → 1 ≤ (u.1 71 42).toInt))) J := C
  obtain ⟨km1, qkm1⟩ : ∃ z : Int32, z = (-1) := ⟨_, rfl⟩
  have ekm1 : km1.toInt = (-1) := by rw [qkm1]; rfl
  obtain ⟨k0, qk0⟩ : ∃ z : Int32, z = 0 := ⟨_, rfl⟩
  have ek0 : k0.toInt = 0 := by rw [qk0]; rfl
  obtain ⟨k1, qk1⟩ : ∃ z : Int32, z = 1 := ⟨_, rfl⟩
  have ek1 : k1.toInt = 1 := by rw [qk1]; rfl
  obtain ⟨k2, qk2⟩ : ∃ z : Int32, z = 2 := ⟨_, rfl⟩
  have ek2 : k2.toInt = 2 := by rw [qk2]; rfl
  obtain ⟨k3, qk3⟩ : ∃ z : Int32, z = 3 := ⟨_, rfl⟩
  have ek3 : k3.toInt = 3 := by rw [qk3]; rfl
  obtain ⟨k4, qk4⟩ : ∃ z : Int32, z = 4 := ⟨_, rfl⟩
  have ek4 : k4.toInt = 4 := by rw [qk4]; rfl
  obtain ⟨j0, qj0⟩ : ∃ z : Int64, z = 0 := ⟨_, rfl⟩
  have ej0 : j0.toInt = 0 := by rw [qj0]; rfl
  obtain ⟨j1, qj1⟩ : ∃ z : Int64, z = 1 := ⟨_, rfl⟩
  have ej1 : j1.toInt = 1 := by rw [qj1]; rfl
  obtain ⟨j24, qj24⟩ : ∃ z : Int64, z = 24 := ⟨_, rfl⟩
  have ej24 : j24.toInt = 24 := by rw [qj24]; rfl
  obtain ⟨j28, qj28⟩ : ∃ z : Int64, z = 28 := ⟨_, rfl⟩
  have ej28 : j28.toInt = 28 := by rw [qj28]; rfl
  have rg1 := n_rng a1
  have rg2 := n_rng a2
  have rg3 := n_rng a3
  have key : ∀ n : Nat, (∀ (t : oS) (x4 : Int32), (0 ≤ x4.toInt ∧ x4.toInt ≤ a1.toInt) → (1 ≤ a1.toInt ∧ a1.toInt ≤ 24 ∧ 0 ≤ a2.toInt ∧ a2.toInt ≤ 28) → ((t.1 71 38).toInt = a1.toInt) → (oT4 x4 t) → 25 - x4.toInt ≤ (n : Int) → J t 44 [(0, .ref (oad E 71)), (1, .int a1), (2, .int a2), (4, .int x4)] []) := by
    intro n
    induction n using Nat.strongRecOn with
    | _ n ih =>
      skip
      · intro t x4  iv0 iv1 iv2 iv3 hmu
        have rx4 := n_rng x4
        refine r_iload C (j := 3) (oDec_at oX12_draw 25 rfl) rfl ?_
        refine r_iload_n C (j := 1) (oDec_at oX12_draw 26 rfl) rfl rfl ?_
        refine r_icmp_ge C 104 (oDec_at oX12_draw 27 rfl) (by decide) (fun cd1 => ?_) (fun cd1 => ?_)
        · skip
          have hq2 : oLT (t) := oLT_of4 (x := x4) iv3 (by omega) (by omega)
          refine r_aload_n C (j := 0) (oDec_at oX12_draw 57 rfl) rfl rfl ?_
          refine r_callVv C oCl12 rfl miX12_lies mlX12_264 (ct_X12_lies l E (t)  hq2) (by decide) rfl rfl rfl (Nat.le_of_ble_eq_true rfl) (oDec_at oX12_draw 58 rfl) (fun u3 pu3 fu3 => ?_)
          try dsimp only at pu3
          obtain ⟨pu3_0, pu3_1⟩ := pu3
          have lu5 : ((u3).1 71 38).toInt = (t.1 71 38).toInt := congrArg Int32.toInt ((fu3 71 38 rfl).1)
          refine r_aload_n C (j := 0) (oDec_at oX12_draw 59 rfl) rfl rfl ?_
          obtain ⟨v6, ev6⟩ : ∃ z : Int32, (u3).1 71 42 = z := ⟨_, rfl⟩
          have gv6 : (u3.1 71 42).toInt = v6.toInt := congrArg Int32.toInt (ev6)
          refine r_geti (k := 42) (lo := 0) (hi := 96) C v6 oCl12 rfl (by decide) flX12_267 rfl rfl (ev6) rfl rfl (oDec_at oX12_draw 60 rfl) (fun b7 b7h => ?_)
          have lk8 : ((u3).1 71 38).toInt = (t.1 71 38).toInt := congrArg Int32.toInt ((fu3 71 38 rfl).1)
          have lk9 : ((u3).1 71 42).toInt = v6.toInt := congrArg Int32.toInt (ev6)
          exact r_iret C (oDec_at oX12_draw 61 rfl) ⟨_, rfl, ⟨pu3_0, by omega⟩⟩
        · skip
          refine r_aload_n C (j := 0) (oDec_at oX12_draw 28 rfl) rfl rfl ?_
          refine r_getF (k := 39) (b := 99) C oCl12 rfl (by decide) flX12_96 rfl rfl rfl (oDec_at oX12_draw 29 rfl) ?_
          refine r_iload C (j := 3) (oDec_at oX12_draw 30 rfl) rfl ?_
          refine r_aload_n C (j := 0) (oDec_at oX12_draw 31 rfl) rfl rfl ?_
          refine r_iload_n C (j := 2) (oDec_at oX12_draw 32 rfl) rfl rfl ?_
          refine r_iconst C (oDec_at oX12_draw 33 rfl) (v := k1) (by rw [qk1]; rfl) ?_
          refine r_pc C 59 rfl ?_
          obtain ⟨v10, ev10⟩ : ∃ z : Int32, z = a2 + k1 := ⟨_, rfl⟩
          have hv10 : v10.toInt = a2.toInt + k1.toInt := n_add ev10 (by omega) (by omega)
          refine r_iadd C v10 (oDec_at oX12_draw 34 rfl) ev10 ?_
          refine r_callVi C oCl12 rfl miX12_drawOf mlX12_582 (ct_X12_drawOf l E (t) v10 (by omega)) (by decide) rfl rfl rfl (Nat.le_of_ble_eq_true rfl) (oDec_at oX12_draw 35 rfl) (fun r12 u11 pu11 fu11 => ?_)
          try dsimp only at pu11
          have rr12 := n_rng r12
          refine r_iast (n := 48) (lo := (-2147483648)) (hi := 2147483647) C rfl (by decide) rfl rfl ⟨by omega, by omega⟩ (by decide) rfl rfl rfl rfl (n_rng _) (oDec_at oX12_draw 36 rfl) ?_
          refine r_aload_n C (j := 0) (oDec_at oX12_draw 37 rfl) rfl rfl ?_
          refine r_iconst C (oDec_at oX12_draw 38 rfl) (v := k4) (by rw [qk4]; rfl) ?_
          refine r_callVi C oCl12 rfl miX12_drawOf mlX12_582 (ct_X12_drawOf l E ((pI u11 99 x4.toNatClampNeg r12)) k4 (by omega)) (by decide) rfl rfl rfl (Nat.le_of_ble_eq_true rfl) (oDec_at oX12_draw 39 rfl) (fun r14 u13 pu13 fu13 => ?_)
          try dsimp only at pu13
          have rr14 := n_rng r14
          refine r_pc C 69 rfl ?_
          refine r_istore C (lv' := [(0, .ref (oad E 71)), (1, .int a1), (2, .int a2), (4, .int x4), (5, .int r14)]) [1, 2, 3, 4, 0] (oDec_at oX12_draw 40 rfl) (by decide) rfl ?_
          refine r_aload_n C (j := 0) (oDec_at oX12_draw 41 rfl) rfl rfl ?_
          refine r_getF (k := 40) (b := 100) C oCl12 rfl (by decide) flX12_99 rfl rfl rfl (oDec_at oX12_draw 42 rfl) ?_
          refine r_iload C (j := 3) (oDec_at oX12_draw 43 rfl) rfl ?_
          refine r_iload C (j := 4) (oDec_at oX12_draw 44 rfl) rfl ?_
          refine r_if_ne C 86 (oDec_at oX12_draw 45 rfl) (by decide) (fun cd15 => ?_) (fun cd15 => ?_)
          · skip
            refine r_iload C (j := 4) (oDec_at oX12_draw 48 rfl) rfl ?_
            refine r_iconst C (oDec_at oX12_draw 49 rfl) (v := k3) (by rw [qk3]; rfl) ?_
            refine r_icmp_ne C 96 (oDec_at oX12_draw 50 rfl) (by decide) (fun cd16 => ?_) (fun cd16 => ?_)
            · skip
              refine r_iconst C (oDec_at oX12_draw 53 rfl) (v := k2) (by rw [qk2]; rfl) ?_
              refine r_iast (n := 48) (lo := 0) (hi := 9999) C rfl (by decide) rfl rfl ⟨by omega, by omega⟩ (by decide) rfl rfl rfl rfl ⟨by omega, by omega⟩ (oDec_at oX12_draw 54 rfl) ?_
              obtain ⟨v17, ev17⟩ : ∃ z : Int32, x4 + Int32.ofInt 1 = z := ⟨_, rfl⟩
              have hv17 : v17.toInt = x4.toInt + 1 := n_inc ev17 (by decide) (by omega) (by omega)
              refine r_iinc C (j := 3) (lv' := [(0, .ref (oad E 71)), (1, .int a1), (2, .int a2), (4, .int v17), (5, .int r14)]) v17 [1, 2, 3, 0, 4] (oDec_at oX12_draw 55 rfl) rfl ev17 (by decide) rfl ?_
              refine r_goto C (tgt := 44) (oDec_at oX12_draw 56 rfl) (by decide) ?_
              have lk18 : (((pI u13 100 x4.toNatClampNeg k2)).1 71 38).toInt = (t.1 71 38).toInt := congrArg Int32.toInt (((pI_ne (a := 71) (b := 38) (c := 100) _ _ (Or.inl (by decide)))).trans (((fu13 71 38 rfl).1).trans (((pI_ne (a := 71) (b := 38) (c := 99) _ _ (Or.inl (by decide)))).trans ((fu11 71 38 rfl).1))))
              refine r_pick C [0, 1, 2, 3] rfl ?_
              exact (ih (n - 1) (by omega)) ((pI u13 100 x4.toNatClampNeg k2)) v17  (by omega) (by omega) (by omega) (by first | exact oT4_step (x := x4) (y := v17) (oT4_fr fu13 rfl (oT4_fr (oFr_oneI (q := 75) (m := 9999) rfl (by rfl)) rfl (oT4_fr fu11 rfl iv3))) (by omega) (by omega) (by omega) | exact oT4_0 (by omega)) (by omega)
            · skip
              refine r_iconst C (oDec_at oX12_draw 51 rfl) (v := k4) (by rw [qk4]; rfl) ?_
              refine r_goto C (tgt := 97) (oDec_at oX12_draw 52 rfl) (by decide) ?_
              refine r_iast (n := 48) (lo := 0) (hi := 9999) C rfl (by decide) rfl rfl ⟨by omega, by omega⟩ (by decide) rfl rfl rfl rfl ⟨by omega, by omega⟩ (oDec_at oX12_draw 54 rfl) ?_
              obtain ⟨v19, ev19⟩ : ∃ z : Int32, x4 + Int32.ofInt 1 = z := ⟨_, rfl⟩
              have hv19 : v19.toInt = x4.toInt + 1 := n_inc ev19 (by decide) (by omega) (by omega)
              refine r_iinc C (j := 3) (lv' := [(0, .ref (oad E 71)), (1, .int a1), (2, .int a2), (4, .int v19), (5, .int r14)]) v19 [1, 2, 3, 0, 4] (oDec_at oX12_draw 55 rfl) rfl ev19 (by decide) rfl ?_
              refine r_goto C (tgt := 44) (oDec_at oX12_draw 56 rfl) (by decide) ?_
              have lk20 : (((pI u13 100 x4.toNatClampNeg k4)).1 71 38).toInt = (t.1 71 38).toInt := congrArg Int32.toInt (((pI_ne (a := 71) (b := 38) (c := 100) _ _ (Or.inl (by decide)))).trans (((fu13 71 38 rfl).1).trans (((pI_ne (a := 71) (b := 38) (c := 99) _ _ (Or.inl (by decide)))).trans ((fu11 71 38 rfl).1))))
              refine r_pick C [0, 1, 2, 3] rfl ?_
              exact (ih (n - 1) (by omega)) ((pI u13 100 x4.toNatClampNeg k4)) v19  (by omega) (by omega) (by omega) (by first | exact oT4_step (x := x4) (y := v19) (oT4_fr fu13 rfl (oT4_fr (oFr_oneI (q := 75) (m := 9999) rfl (by rfl)) rfl (oT4_fr fu11 rfl iv3))) (by omega) (by omega) (by omega) | exact oT4_0 (by omega)) (by omega)
          · skip
            refine r_iconst C (oDec_at oX12_draw 46 rfl) (v := k1) (by rw [qk1]; rfl) ?_
            refine r_goto C (tgt := 97) (oDec_at oX12_draw 47 rfl) (by decide) ?_
            refine r_iast (n := 48) (lo := 0) (hi := 9999) C rfl (by decide) rfl rfl ⟨by omega, by omega⟩ (by decide) rfl rfl rfl rfl ⟨by omega, by omega⟩ (oDec_at oX12_draw 54 rfl) ?_
            obtain ⟨v21, ev21⟩ : ∃ z : Int32, x4 + Int32.ofInt 1 = z := ⟨_, rfl⟩
            have hv21 : v21.toInt = x4.toInt + 1 := n_inc ev21 (by decide) (by omega) (by omega)
            refine r_iinc C (j := 3) (lv' := [(0, .ref (oad E 71)), (1, .int a1), (2, .int a2), (4, .int v21), (5, .int r14)]) v21 [1, 2, 3, 0, 4] (oDec_at oX12_draw 55 rfl) rfl ev21 (by decide) rfl ?_
            refine r_goto C (tgt := 44) (oDec_at oX12_draw 56 rfl) (by decide) ?_
            have lk22 : (((pI u13 100 x4.toNatClampNeg k1)).1 71 38).toInt = (t.1 71 38).toInt := congrArg Int32.toInt (((pI_ne (a := 71) (b := 38) (c := 100) _ _ (Or.inl (by decide)))).trans (((fu13 71 38 rfl).1).trans (((pI_ne (a := 71) (b := 38) (c := 99) _ _ (Or.inl (by decide)))).trans ((fu11 71 38 rfl).1))))
            refine r_pick C [0, 1, 2, 3] rfl ?_
            exact (ih (n - 1) (by omega)) ((pI u13 100 x4.toNatClampNeg k1)) v21  (by omega) (by omega) (by omega) (by first | exact oT4_step (x := x4) (y := v21) (oT4_fr fu13 rfl (oT4_fr (oFr_oneI (q := 75) (m := 9999) rfl (by rfl)) rfl (oT4_fr fu11 rfl iv3))) (by omega) (by omega) (by omega) | exact oT4_0 (by omega)) (by omega)
  refine r_iload_n C (j := 1) (oDec_at oX12_draw 0 rfl) rfl rfl ?_
  obtain ⟨v23, ev23⟩ : ∃ z : Int64, a1.toInt64 = z := ⟨_, rfl⟩
  have hv23 : v23.toInt = a1.toInt := n_i2l ev23
  refine r_i2l C v23 (oDec_at oX12_draw 1 rfl) ev23 ?_
  refine r_lconst C (oDec_at oX12_draw 2 rfl) (v := j1) (by rw [qj1]; rfl) ?_
  refine r_ldc2 C (v := j24) (by rw [qj24]; exact klX12_411) (oDec_at oX12_draw 3 rfl) ?_
  refine r_callSi C miX12_isIn mlX12_216 (ct_X12_isIn l E (s) v23 j1 j24 ) (by decide) rfl rfl rfl (Nat.le_of_ble_eq_true rfl) (oDec_at oX12_draw 4 rfl) (fun r25 u24 pu24 fu24 => ?_)
  try dsimp only at pu24
  obtain ⟨pu24_0, pu24_1⟩ := pu24
  have hxu24 := oFr_nil fu24; subst hxu24
  have rr25 := n_rng r25
  refine r_if_eq C 28 (oDec_at oX12_draw 5 rfl) (by decide) (fun cd26 => ?_) (fun cd26 => ?_)
  · skip
    refine r_iconst C (oDec_at oX12_draw 14 rfl) (v := km1) (by rw [qkm1]; rfl) ?_
    exact r_iret C (oDec_at oX12_draw 15 rfl) ⟨_, rfl, ⟨hp0, by omega⟩⟩
  · skip
    refine r_iload_n C (j := 2) (oDec_at oX12_draw 6 rfl) rfl rfl ?_
    obtain ⟨v27, ev27⟩ : ∃ z : Int64, a2.toInt64 = z := ⟨_, rfl⟩
    have hv27 : v27.toInt = a2.toInt := n_i2l ev27
    refine r_i2l C v27 (oDec_at oX12_draw 7 rfl) ev27 ?_
    refine r_lconst C (oDec_at oX12_draw 8 rfl) (v := j0) (by rw [qj0]; rfl) ?_
    refine r_ldc2 C (v := j28) (by rw [qj28]; exact klX12_568) (oDec_at oX12_draw 9 rfl) ?_
    refine r_callSi C miX12_isIn mlX12_216 (ct_X12_isIn l E (s) v27 j0 j28 ) (by decide) rfl rfl rfl (Nat.le_of_ble_eq_true rfl) (oDec_at oX12_draw 10 rfl) (fun r29 u28 pu28 fu28 => ?_)
    try dsimp only at pu28
    obtain ⟨pu28_0, pu28_1⟩ := pu28
    have hxu28 := oFr_nil fu28; subst hxu28
    have rr29 := n_rng r29
    refine r_if_eq C 28 (oDec_at oX12_draw 11 rfl) (by decide) (fun cd30 => ?_) (fun cd30 => ?_)
    · skip
      refine r_iconst C (oDec_at oX12_draw 14 rfl) (v := km1) (by rw [qkm1]; rfl) ?_
      exact r_iret C (oDec_at oX12_draw 15 rfl) ⟨_, rfl, ⟨hp0, by omega⟩⟩
    · skip
      refine r_iload_n C (j := 3) (oDec_at oX12_draw 12 rfl) rfl rfl ?_
      refine r_if_ge C 30 (oDec_at oX12_draw 13 rfl) (by decide) (fun cd31 => ?_) (fun cd31 => ?_)
      · skip
        refine r_aload_n C (j := 0) (oDec_at oX12_draw 16 rfl) rfl rfl ?_
        refine r_iload_n C (j := 3) (oDec_at oX12_draw 17 rfl) rfl rfl ?_
        obtain ⟨v32, ev32⟩ : ∃ z : Int64, a3.toInt64 = z := ⟨_, rfl⟩
        have hv32 : v32.toInt = a3.toInt := n_i2l ev32
        refine r_i2l C v32 (oDec_at oX12_draw 18 rfl) ev32 ?_
        refine r_putl (k := 79) C oCl12 rfl (by decide) flX12_572 rfl rfl rfl rfl rfl rfl (oDec_at oX12_draw 19 rfl) ?_
        refine r_aload_n C (j := 0) (oDec_at oX12_draw 20 rfl) rfl rfl ?_
        refine r_iload_n C (j := 1) (oDec_at oX12_draw 21 rfl) rfl rfl ?_
        refine r_pc C 38 rfl ?_
        refine r_puti (k := 38) (lo := 0) (hi := 24) C oCl12 rfl (by decide) flX12_261 rfl rfl rfl rfl rfl rfl rfl rfl ⟨by omega, by omega⟩ (oDec_at oX12_draw 22 rfl) ?_
        refine r_iconst C (oDec_at oX12_draw 23 rfl) (v := k0) (by rw [qk0]; rfl) ?_
        refine r_istore C (lv' := [(0, .ref (oad E 71)), (1, .int a1), (2, .int a2), (3, .int a3), (4, .int k0)]) [1, 2, 3, 4, 0] (oDec_at oX12_draw 24 rfl) (by decide) rfl ?_
        have lk33 : (((pI (pL s 71 79 v32) 71 38 a1)).1 71 38).toInt = a1.toInt := congrArg Int32.toInt ((pI_self _ _ _ _))
        refine r_pick C [0, 1, 2, 4] rfl ?_
        exact (key (25 - k0.toInt).toNat) ((pI (pL s 71 79 v32) 71 38 a1)) k0  (by omega) (by omega) (by omega) (by first | exact oT4_step (x := x4) (y := k0) (by assumption) (by omega) (by omega) (by omega) | exact oT4_0 (by omega)) (by omega)
      · skip
        refine r_iconst C (oDec_at oX12_draw 14 rfl) (v := km1) (by rw [qkm1]; rfl) ?_
        exact r_iret C (oDec_at oX12_draw 15 rfl) ⟨_, rfl, ⟨hp0, by omega⟩⟩
set_option maxHeartbeats 4000000 in
set_option maxRecDepth 100000 in
theorem ct_X12_change (l : Launch) (E : oE) (s : oS) (a1 : Int32) (a2 : Int32) (hp0 : oLT s) (hp1 : 1 ≤ (s.1 71 38).toInt → 1 ≤ (s.1 71 42).toInt) : oMet l 2 yX12_change cX12_change 4 (some .int) [(12, 42), (12, 43), (12, 69), (75, 9999), (77, 9999)] E s [.ref (oad E 71), .int a1, .int a2] (oPi (fun r u => (oLT u) ∧ (1 ≤ (u.1 71 38).toInt → 1 ≤ (u.1 71 42).toInt))) := by
  refine oMet.of (lv := [(0, .ref (oad E 71)), (1, .int a1), (2, .int a2)]) (by decide +kernel) (Nat.le_of_ble_eq_true rfl) rfl (fun J C hT => ?_)
  have C : oC l 2 cX12_change RX12 4 (some .int) [(12, 42), (12, 43), (12, 69), (75, 9999), (77, 9999)] E s (oPi (fun r u => (oLT u) ∧ (1 ≤ (u.1 71 38).toInt → 1 ≤ (u.1 71 42).toInt))) J := C
  obtain ⟨km2, qkm2⟩ : ∃ z : Int32, z = (-2) := ⟨_, rfl⟩
  have ekm2 : km2.toInt = (-2) := by rw [qkm2]; rfl
  obtain ⟨km1, qkm1⟩ : ∃ z : Int32, z = (-1) := ⟨_, rfl⟩
  have ekm1 : km1.toInt = (-1) := by rw [qkm1]; rfl
  obtain ⟨k1, qk1⟩ : ∃ z : Int32, z = 1 := ⟨_, rfl⟩
  have ek1 : k1.toInt = 1 := by rw [qk1]; rfl
  obtain ⟨j0, qj0⟩ : ∃ z : Int64, z = 0 := ⟨_, rfl⟩
  have ej0 : j0.toInt = 0 := by rw [qj0]; rfl
  obtain ⟨j28, qj28⟩ : ∃ z : Int64, z = 28 := ⟨_, rfl⟩
  have ej28 : j28.toInt = 28 := by rw [qj28]; rfl
  have rg1 := n_rng a1
  have rg2 := n_rng a2
  have htn : (0 : Int) ≤ (s.1 71 38).toInt ∧ (s.1 71 38).toInt ≤ 24 := hT.1 71 38
  have hta : (0 : Int) ≤ (s.1 71 77).toInt ∧ (s.1 71 77).toInt ≤ 24 := hT.1 71 77
  refine r_iload_n C (j := 1) (oDec_at oX12_change 0 rfl) rfl rfl ?_
  obtain ⟨v1, ev1⟩ : ∃ z : Int64, a1.toInt64 = z := ⟨_, rfl⟩
  have hv1 : v1.toInt = a1.toInt := n_i2l ev1
  refine r_i2l C v1 (oDec_at oX12_change 1 rfl) ev1 ?_
  refine r_lconst C (oDec_at oX12_change 2 rfl) (v := j0) (by rw [qj0]; rfl) ?_
  refine r_aload_n C (j := 0) (oDec_at oX12_change 3 rfl) rfl rfl ?_
  obtain ⟨v2, ev2⟩ : ∃ z : Int32, (s).1 71 38 = z := ⟨_, rfl⟩
  have gv2 : (s.1 71 38).toInt = v2.toInt := congrArg Int32.toInt (ev2)
  refine r_geti (k := 38) (lo := 0) (hi := 24) C v2 oCl12 rfl (by decide) flX12_261 rfl rfl (ev2) rfl rfl (oDec_at oX12_change 4 rfl) (fun b3 b3h => ?_)
  refine r_iconst C (oDec_at oX12_change 5 rfl) (v := k1) (by rw [qk1]; rfl) ?_
  refine r_pc C 8 rfl ?_
  obtain ⟨v4, ev4⟩ : ∃ z : Int32, z = v2 - k1 := ⟨_, rfl⟩
  have hv4 : v4.toInt = v2.toInt - k1.toInt := n_sub ev4 (by omega) (by omega)
  refine r_isub C v4 (oDec_at oX12_change 6 rfl) ev4 ?_
  obtain ⟨v5, ev5⟩ : ∃ z : Int64, v4.toInt64 = z := ⟨_, rfl⟩
  have hv5 : v5.toInt = v4.toInt := n_i2l ev5
  refine r_i2l C v5 (oDec_at oX12_change 7 rfl) ev5 ?_
  refine r_callSi C miX12_isIn mlX12_216 (ct_X12_isIn l E (s) v1 j0 v5 ) (by decide) rfl rfl rfl (Nat.le_of_ble_eq_true rfl) (oDec_at oX12_change 8 rfl) (fun r7 u6 pu6 fu6 => ?_)
  try dsimp only at pu6
  obtain ⟨pu6_0, pu6_1⟩ := pu6
  have hxu6 := oFr_nil fu6; subst hxu6
  have rr7 := n_rng r7
  refine r_if_eq C 28 (oDec_at oX12_change 9 rfl) (by decide) (fun cd8 => ?_) (fun cd8 => ?_)
  · skip
    refine r_iconst C (oDec_at oX12_change 16 rfl) (v := km1) (by rw [qkm1]; rfl) ?_
    have lk9 : ((s).1 71 38).toInt = v2.toInt := congrArg Int32.toInt (ev2)
    exact r_iret C (oDec_at oX12_change 17 rfl) ⟨_, rfl, ⟨hp0, by omega⟩⟩
  · skip
    refine r_iload_n C (j := 2) (oDec_at oX12_change 10 rfl) rfl rfl ?_
    obtain ⟨v10, ev10⟩ : ∃ z : Int64, a2.toInt64 = z := ⟨_, rfl⟩
    have hv10 : v10.toInt = a2.toInt := n_i2l ev10
    refine r_i2l C v10 (oDec_at oX12_change 11 rfl) ev10 ?_
    refine r_lconst C (oDec_at oX12_change 12 rfl) (v := j0) (by rw [qj0]; rfl) ?_
    refine r_ldc2 C (v := j28) (by rw [qj28]; exact klX12_568) (oDec_at oX12_change 13 rfl) ?_
    refine r_callSi C miX12_isIn mlX12_216 (ct_X12_isIn l E (s) v10 j0 j28 ) (by decide) rfl rfl rfl (Nat.le_of_ble_eq_true rfl) (oDec_at oX12_change 14 rfl) (fun r12 u11 pu11 fu11 => ?_)
    try dsimp only at pu11
    obtain ⟨pu11_0, pu11_1⟩ := pu11
    have hxu11 := oFr_nil fu11; subst hxu11
    have rr12 := n_rng r12
    refine r_if_ne C 30 (oDec_at oX12_change 15 rfl) (by decide) (fun cd13 => ?_) (fun cd13 => ?_)
    · skip
      refine r_aload_n C (j := 0) (oDec_at oX12_change 18 rfl) rfl rfl ?_
      refine r_getF (k := 39) (b := 99) C oCl12 rfl (by decide) flX12_96 rfl rfl rfl (oDec_at oX12_change 19 rfl) ?_
      refine r_iload_n C (j := 1) (oDec_at oX12_change 20 rfl) rfl rfl ?_
      obtain ⟨v15, ev15⟩ : ∃ z : Int32, (s).1 99 a1.toNatClampNeg = z := ⟨_, rfl⟩
      have gv15 : (s.1 99 a1.toNatClampNeg).toInt = v15.toInt := congrArg Int32.toInt (ev15)
      have rv15 := n_rng v15
      refine r_iald (n := 48) (lo := (-2147483648)) (hi := 2147483647) C v15 rfl (by decide) rfl rfl ⟨by omega, by omega⟩ (by decide) ev15 rfl rfl (oDec_at oX12_change 21 rfl) (fun _ _ => ?_)
      refine r_istore_n C (lv' := [(0, .ref (oad E 71)), (1, .int a1), (2, .int a2), (3, .int v15)]) [1, 2, 3, 0] (oDec_at oX12_change 22 rfl) rfl (by decide) rfl ?_
      refine r_aload_n C (j := 0) (oDec_at oX12_change 23 rfl) rfl rfl ?_
      refine r_pc C 38 rfl ?_
      refine r_getF (k := 39) (b := 99) C oCl12 rfl (by decide) flX12_96 rfl rfl rfl (oDec_at oX12_change 24 rfl) ?_
      refine r_iload_n C (j := 1) (oDec_at oX12_change 25 rfl) rfl rfl ?_
      refine r_iload_n C (j := 2) (oDec_at oX12_change 26 rfl) rfl rfl ?_
      refine r_iast (n := 48) (lo := (-2147483648)) (hi := 2147483647) C rfl (by decide) rfl rfl ⟨by omega, by omega⟩ (by decide) rfl rfl rfl rfl (n_rng _) (oDec_at oX12_change 27 rfl) ?_
      refine r_aload_n C (j := 0) (oDec_at oX12_change 28 rfl) rfl rfl ?_
      refine r_callVv C oCl12 rfl miX12_lies mlX12_264 (ct_X12_lies l E ((pI s 99 a1.toNatClampNeg a2))  (oLT_fr (oFr_oneI (q := 75) (m := 9999) rfl (by rfl)) rfl hp0)) (by decide) rfl rfl rfl (Nat.le_of_ble_eq_true rfl) (oDec_at oX12_change 29 rfl) (fun u16 pu16 fu16 => ?_)
      try dsimp only at pu16
      obtain ⟨pu16_0, pu16_1⟩ := pu16
      have lu18 : ((u16).1 71 38).toInt = v2.toInt := congrArg Int32.toInt (((fu16 71 38 rfl).1).trans (((pI_ne (a := 71) (b := 38) (c := 99) _ _ (Or.inl (by decide)))).trans (ev2)))
      refine r_pc C 48 rfl ?_
      refine r_iload_n C (j := 3) (oDec_at oX12_change 30 rfl) rfl rfl ?_
      refine r_iconst C (oDec_at oX12_change 31 rfl) (v := km1) (by rw [qkm1]; rfl) ?_
      refine r_icmp_ne C 58 (oDec_at oX12_change 32 rfl) (by decide) (fun cd19 => ?_) (fun cd19 => ?_)
      · skip
        refine r_iload_n C (j := 3) (oDec_at oX12_change 35 rfl) rfl rfl ?_
        have lk20 : ((u16).1 71 38).toInt = v2.toInt := congrArg Int32.toInt (((fu16 71 38 rfl).1).trans (((pI_ne (a := 71) (b := 38) (c := 99) _ _ (Or.inl (by decide)))).trans (ev2)))
        exact r_iret C (oDec_at oX12_change 36 rfl) ⟨_, rfl, ⟨pu16_0, by omega⟩⟩
      · skip
        refine r_bipush C (oDec_at oX12_change 33 rfl) (v := km2) (by rw [qkm2]; rfl) ?_
        refine r_goto C (tgt := 59) (oDec_at oX12_change 34 rfl) (by decide) ?_
        have lk21 : ((u16).1 71 38).toInt = v2.toInt := congrArg Int32.toInt (((fu16 71 38 rfl).1).trans (((pI_ne (a := 71) (b := 38) (c := 99) _ _ (Or.inl (by decide)))).trans (ev2)))
        exact r_iret C (oDec_at oX12_change 36 rfl) ⟨_, rfl, ⟨pu16_0, by omega⟩⟩
    · skip
      refine r_iconst C (oDec_at oX12_change 16 rfl) (v := km1) (by rw [qkm1]; rfl) ?_
      have lk22 : ((s).1 71 38).toInt = v2.toInt := congrArg Int32.toInt (ev2)
      exact r_iret C (oDec_at oX12_change 17 rfl) ⟨_, rfl, ⟨hp0, by omega⟩⟩
