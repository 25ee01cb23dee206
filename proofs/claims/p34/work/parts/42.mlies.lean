set_option maxHeartbeats 4000000 in
set_option maxRecDepth 100000 in
theorem ct_X12_lies (l : Launch) (E : oE) (s : oS)  (hp0 : oLT s) : oMet l 1 yX12_lies cX12_lies 3 none [(12, 42), (12, 43), (12, 69), (77, 9999)] E s [.ref (oad E 71)] (oPv (fun u => (oLT u) ∧ (1 ≤ (u.1 71 38).toInt → 1 ≤ (u.1 71 42).toInt))) := by
  refine oMet.of (lv := [(0, .ref (oad E 71))]) (by decide +kernel) (Nat.le_of_ble_eq_true rfl) rfl (fun J C hT => ?_)
  have C : oC l 1 cX12_lies RX12 3 none [(12, 42), (12, 43), (12, 69), (77, 9999)] E s (oPv (fun u => (oLT u) ∧ (1 ≤ (u.1 71 38).toInt → 1 ≤ (u.1 71 42).toInt))) J := C
  obtain ⟨km1, qkm1⟩ : ∃ z : Int32, z = (-1) := ⟨_, rfl⟩
  have ekm1 : km1.toInt = (-1) := by rw [qkm1]; rfl
  obtain ⟨k0, qk0⟩ : ∃ z : Int32, z = 0 := ⟨_, rfl⟩
  have ek0 : k0.toInt = 0 := by rw [qk0]; rfl
  obtain ⟨k1, qk1⟩ : ∃ z : Int32, z = 1 := ⟨_, rfl⟩
  have ek1 : k1.toInt = 1 := by rw [qk1]; rfl
  have htn : (0 : Int) ≤ (s.1 71 38).toInt ∧ (s.1 71 38).toInt ≤ 24 := hT.1 71 38
  have key : ∀ n : Nat, (∀ (t : oS) (x1 : Int32), (oLT t) → (0 ≤ x1.toInt ∧ x1.toInt ≤ (t.1 71 38).toInt) → ((t.1 71 42).toInt = oSm (t.1 100) x1.toNatClampNeg) → ((t.1 71 38).toInt ≤ 24 ∧ 0 ≤ (t.1 71 42).toInt) → 200 * (30 - x1.toInt) ≤ (n : Int) → J t 12 [(0, .ref (oad E 71)), (1, .int x1)] []) ∧ (∀ (t : oS) (x1 : Int32) (x2 : Int32), (oLT t) → (0 ≤ x1.toInt ∧ x1.toInt < (t.1 71 38).toInt) → (0 ≤ x2.toInt ∧ x2.toInt ≤ (t.1 100 x1.toNatClampNeg).toInt) → ((t.1 71 42).toInt = oSm (t.1 100) x1.toNatClampNeg + x2.toInt) → ((t.1 71 38).toInt ≤ 24 ∧ x2.toInt ≤ (t.1 71 42).toInt) → 200 * (30 - x1.toInt) - 10 - x2.toInt ≤ (n : Int) → J t 22 [(0, .ref (oad E 71)), (1, .int x1), (2, .int x2)] []) := by
    intro n
    induction n using Nat.strongRecOn with
    | _ n ih =>
      refine ⟨?_, ?_⟩
      · intro t x1  iv0 iv1 iv2 iv3 hmu
        have rx1 := n_rng x1
        refine r_iload_n C (j := 1) (oDec_at oX12_lies 8 rfl) rfl rfl ?_
        refine r_aload_n C (j := 0) (oDec_at oX12_lies 9 rfl) rfl rfl ?_
        obtain ⟨v1, ev1⟩ : ∃ z : Int32, (t).1 71 38 = z := ⟨_, rfl⟩
        have gv1 : (t.1 71 38).toInt = v1.toInt := congrArg Int32.toInt (ev1)
        refine r_geti (k := 38) (lo := 0) (hi := 24) C v1 oCl12 rfl (by decide) flX12_261 rfl rfl (ev1) rfl rfl (oDec_at oX12_lies 10 rfl) (fun b2 b2h => ?_)
        refine r_icmp_ge C 82 (oDec_at oX12_lies 11 rfl) (by decide) (fun cd3 => ?_) (fun cd3 => ?_)
        · skip
          have hge := oLT_ge iv0 (x := x1) (by omega)
          refine r_aload_n C (j := 0) (oDec_at oX12_lies 46 rfl) rfl rfl ?_
          refine r_iconst C (oDec_at oX12_lies 47 rfl) (v := k0) (by rw [qk0]; rfl) ?_
          refine r_puti (k := 69) (lo := 0) (hi := 1) C oCl12 rfl (by decide) flX12_270 rfl rfl rfl rfl rfl (n_bool (by omega)) (n_fitz (by omega)) rfl ⟨by omega, by omega⟩ (oDec_at oX12_lies 48 rfl) ?_
          have lk4 : (((pI t 71 69 k0)).1 71 38).toInt = v1.toInt := congrArg Int32.toInt (((pI_ne (a := 71) (b := 38) (c := 71) (k := 69) _ _ (Or.inr (by decide)))).trans (ev1))
          have lk5 : (((pI t 71 69 k0)).1 71 42).toInt = (t.1 71 42).toInt := congrArg Int32.toInt ((pI_ne (a := 71) (b := 42) (c := 71) (k := 69) _ _ (Or.inr (by decide))))
          exact r_vret C (oDec_at oX12_lies 49 rfl) ⟨rfl, ⟨(oLT_fr (oFr_oneI (q := 12) (m := 69) rfl (by rfl)) rfl iv0), by omega⟩⟩
        · skip
          have hle := oLT_le iv0 (x := x1) (by omega) (by omega)
          refine r_iconst C (oDec_at oX12_lies 12 rfl) (v := k0) (by rw [qk0]; rfl) ?_
          refine r_istore_n C (lv' := [(0, .ref (oad E 71)), (1, .int x1), (2, .int k0)]) [1, 2, 0] (oDec_at oX12_lies 13 rfl) rfl (by decide) rfl ?_
          have lk6 : ((t).1 71 38).toInt = v1.toInt := congrArg Int32.toInt (ev1)
          have lk7 : ((t).1 71 38).toInt = v1.toInt := congrArg Int32.toInt (ev1)
          exact (ih (n - 1) (by omega)).2 (t) x1 k0  iv0 (by omega) (by show _ ∧ _ ≤ (t.1 100 x1.toNatClampNeg).toInt; omega) (by have e : ((t).1 100) = t.1 100 := rfl; rw [e]; omega) (by omega) (by omega)
      · intro t x1 x2  iv0 iv1 iv2 iv3 iv4 hmu
        have rx1 := n_rng x1
        have rx2 := n_rng x2
        refine r_iload_n C (j := 2) (oDec_at oX12_lies 14 rfl) rfl rfl ?_
        refine r_aload_n C (j := 0) (oDec_at oX12_lies 15 rfl) rfl rfl ?_
        refine r_getF (k := 40) (b := 100) C oCl12 rfl (by decide) flX12_99 rfl rfl rfl (oDec_at oX12_lies 16 rfl) ?_
        refine r_iload_n C (j := 1) (oDec_at oX12_lies 17 rfl) rfl rfl ?_
        obtain ⟨v9, ev9⟩ : ∃ z : Int32, (t).1 100 x1.toNatClampNeg = z := ⟨_, rfl⟩
        have gv9 : (t.1 100 x1.toNatClampNeg).toInt = v9.toInt := congrArg Int32.toInt (ev9)
        refine r_iald (n := 48) (lo := 0) (hi := 9999) C v9 rfl (by decide) rfl rfl ⟨by omega, by omega⟩ (by decide) ev9 rfl rfl (oDec_at oX12_lies 18 rfl) (fun b8 b8h => ?_)
        have hle := oLT_le iv0 (x := x1) (by omega) (by omega)
        refine r_icmp_ge C 58 (oDec_at oX12_lies 19 rfl) (by decide) (fun cd10 => ?_) (fun cd10 => ?_)
        · skip
          refine r_aload_n C (j := 0) (oDec_at oX12_lies 34 rfl) rfl rfl ?_
          obtain ⟨v11, ev11⟩ : ∃ z : Int32, (t).1 71 43 = z := ⟨_, rfl⟩
          have gv11 : (t.1 71 43).toInt = v11.toInt := congrArg Int32.toInt (ev11)
          have rv11 := n_rng v11
          refine r_geti (k := 43) (lo := (-2147483648)) (hi := 2147483647) C v11 oCl12 rfl (by decide) flX12_105 rfl rfl (ev11) rfl rfl (oDec_at oX12_lies 35 rfl) (fun _ _ => ?_)
          refine r_iconst C (oDec_at oX12_lies 36 rfl) (v := km1) (by rw [qkm1]; rfl) ?_
          refine r_icmp_ne C 76 (oDec_at oX12_lies 37 rfl) (by decide) (fun cd12 => ?_) (fun cd12 => ?_)
          · skip
            obtain ⟨v13, ev13⟩ : ∃ z : Int32, x1 + Int32.ofInt 1 = z := ⟨_, rfl⟩
            have hv13 : v13.toInt = x1.toInt + 1 := n_inc ev13 (by decide) (by omega) (by omega)
            refine r_iinc C (j := 1) (lv' := [(0, .ref (oad E 71)), (1, .int v13), (2, .int x2)]) v13 [1, 0, 2] (oDec_at oX12_lies 44 rfl) rfl ev13 (by decide) rfl ?_
            refine r_goto C (tgt := 12) (oDec_at oX12_lies 45 rfl) (by decide) ?_
            refine r_pick C [0, 1] rfl ?_
            exact (ih (n - 1) (by omega)).1 (t) v13  iv0 (by omega) (by first | (have e : ((t).1 100) = t.1 100 := rfl; have e2 := oSm_succ (f := t.1 100) (x := x1) (y := v13) (by omega) (by omega); rw [e, e2]; omega) | (have e0 := oSm_at0 (f := (t).1 100) (x := v13) (by omega); omega)) (by omega) (by omega)
          · skip
            refine r_aload_n C (j := 0) (oDec_at oX12_lies 38 rfl) rfl rfl ?_
            refine r_aload_n C (j := 0) (oDec_at oX12_lies 39 rfl) rfl rfl ?_
            refine r_getF (k := 39) (b := 99) C oCl12 rfl (by decide) flX12_96 rfl rfl rfl (oDec_at oX12_lies 40 rfl) ?_
            refine r_iload_n C (j := 1) (oDec_at oX12_lies 41 rfl) rfl rfl ?_
            obtain ⟨v15, ev15⟩ : ∃ z : Int32, (t).1 99 x1.toNatClampNeg = z := ⟨_, rfl⟩
            have gv15 : (t.1 99 x1.toNatClampNeg).toInt = v15.toInt := congrArg Int32.toInt (ev15)
            have rv15 := n_rng v15
            refine r_iald (n := 48) (lo := (-2147483648)) (hi := 2147483647) C v15 rfl (by decide) rfl rfl ⟨by omega, by omega⟩ (by decide) ev15 rfl rfl (oDec_at oX12_lies 42 rfl) (fun _ _ => ?_)
            refine r_puti (k := 43) (lo := (-2147483648)) (hi := 2147483647) C oCl12 rfl (by decide) flX12_105 rfl rfl rfl rfl rfl rfl rfl rfl (n_rng _) (oDec_at oX12_lies 43 rfl) ?_
            refine r_pc C 76 rfl ?_
            obtain ⟨v16, ev16⟩ : ∃ z : Int32, x1 + Int32.ofInt 1 = z := ⟨_, rfl⟩
            have hv16 : v16.toInt = x1.toInt + 1 := n_inc ev16 (by decide) (by omega) (by omega)
            refine r_iinc C (j := 1) (lv' := [(0, .ref (oad E 71)), (1, .int v16), (2, .int x2)]) v16 [1, 0, 2] (oDec_at oX12_lies 44 rfl) rfl ev16 (by decide) rfl ?_
            refine r_goto C (tgt := 12) (oDec_at oX12_lies 45 rfl) (by decide) ?_
            have lk17 : (((pI t 71 43 v15)).1 71 38).toInt = (t.1 71 38).toInt := congrArg Int32.toInt ((pI_ne (a := 71) (b := 38) (c := 71) (k := 43) _ _ (Or.inr (by decide))))
            have lk18 : (((pI t 71 43 v15)).1 71 42).toInt = (t.1 71 42).toInt := congrArg Int32.toInt ((pI_ne (a := 71) (b := 42) (c := 71) (k := 43) _ _ (Or.inr (by decide))))
            have lk19 : (((pI t 71 43 v15)).1 71 38).toInt = (t.1 71 38).toInt := congrArg Int32.toInt ((pI_ne (a := 71) (b := 38) (c := 71) (k := 43) _ _ (Or.inr (by decide))))
            have lk20 : (((pI t 71 43 v15)).1 71 42).toInt = (t.1 71 42).toInt := congrArg Int32.toInt ((pI_ne (a := 71) (b := 42) (c := 71) (k := 43) _ _ (Or.inr (by decide))))
            refine r_pick C [0, 1] rfl ?_
            exact (ih (n - 1) (by omega)).1 ((pI t 71 43 v15)) v16  (oLT_fr (oFr_oneI (q := 12) (m := 43) rfl (by rfl)) rfl iv0) (by omega) (by first | (have e : (((pI t 71 43 v15)).1 100) = t.1 100 := rfl; have e2 := oSm_succ (f := t.1 100) (x := x1) (y := v16) (by omega) (by omega); rw [e, e2]; omega) | (have e0 := oSm_at0 (f := ((pI t 71 43 v15)).1 100) (x := v16) (by omega); omega)) (by omega) (by omega)
        · skip
          refine r_aload_n C (j := 0) (oDec_at oX12_lies 20 rfl) rfl rfl ?_
          refine r_getF (k := 41) (b := 101) C oCl12 rfl (by decide) flX12_102 rfl rfl rfl (oDec_at oX12_lies 21 rfl) ?_
          refine r_aload_n C (j := 0) (oDec_at oX12_lies 22 rfl) rfl rfl ?_
          obtain ⟨v21, ev21⟩ : ∃ z : Int32, (t).1 71 42 = z := ⟨_, rfl⟩
          have gv21 : (t.1 71 42).toInt = v21.toInt := congrArg Int32.toInt (ev21)
          refine r_geti (k := 42) (lo := 0) (hi := 96) C v21 oCl12 rfl (by decide) flX12_267 rfl rfl (ev21) rfl rfl (oDec_at oX12_lies 23 rfl) (fun b22 b22h => ?_)
          refine r_iload_n C (j := 1) (oDec_at oX12_lies 24 rfl) rfl rfl ?_
          refine r_iast (n := 96) (lo := 0) (hi := 23) C rfl (by decide) rfl rfl ⟨by omega, by omega⟩ (by decide) rfl rfl rfl rfl ⟨by omega, by omega⟩ (oDec_at oX12_lies 25 rfl) ?_
          refine r_pc C 42 rfl ?_
          refine r_aload_n C (j := 0) (oDec_at oX12_lies 26 rfl) rfl rfl ?_
          refine r_dup C (oDec_at oX12_lies 27 rfl) rfl ?_
          refine r_geti (k := 42) (lo := 0) (hi := 96) C v21 oCl12 rfl (by decide) flX12_267 rfl rfl (((pI_ne (a := 71) (b := 42) (c := 101) _ _ (Or.inl (by decide)))).trans (ev21)) rfl rfl (oDec_at oX12_lies 28 rfl) (fun _ _ => ?_)
          refine r_iconst C (oDec_at oX12_lies 29 rfl) (v := k1) (by rw [qk1]; rfl) ?_
          obtain ⟨v23, ev23⟩ : ∃ z : Int32, z = v21 + k1 := ⟨_, rfl⟩
          have hv23 : v23.toInt = v21.toInt + k1.toInt := n_add ev23 (by omega) (by omega)
          refine r_iadd C v23 (oDec_at oX12_lies 30 rfl) ev23 ?_
          refine r_puti (k := 42) (lo := 0) (hi := 96) C oCl12 rfl (by decide) flX12_267 rfl rfl rfl rfl rfl rfl rfl rfl ⟨by omega, by omega⟩ (oDec_at oX12_lies 31 rfl) ?_
          refine r_pc C 52 rfl ?_
          obtain ⟨v24, ev24⟩ : ∃ z : Int32, x2 + Int32.ofInt 1 = z := ⟨_, rfl⟩
          have hv24 : v24.toInt = x2.toInt + 1 := n_inc ev24 (by decide) (by omega) (by omega)
          refine r_iinc C (j := 2) (lv' := [(0, .ref (oad E 71)), (1, .int x1), (2, .int v24)]) v24 [1, 2, 0] (oDec_at oX12_lies 32 rfl) rfl ev24 (by decide) rfl ?_
          refine r_goto C (tgt := 22) (oDec_at oX12_lies 33 rfl) (by decide) ?_
          have lk25 : (((pI (pI t 101 v21.toNatClampNeg x1) 71 42 v23)).1 71 38).toInt = (t.1 71 38).toInt := congrArg Int32.toInt (((pI_ne (a := 71) (b := 38) (c := 71) (k := 42) _ _ (Or.inr (by decide)))).trans ((pI_ne (a := 71) (b := 38) (c := 101) _ _ (Or.inl (by decide)))))
          have lk26 : (((pI (pI t 101 v21.toNatClampNeg x1) 71 42 v23)).1 71 42).toInt = v23.toInt := congrArg Int32.toInt ((pI_self _ _ _ _))
          have lk27 : (((pI (pI t 101 v21.toNatClampNeg x1) 71 42 v23)).1 71 38).toInt = (t.1 71 38).toInt := congrArg Int32.toInt (((pI_ne (a := 71) (b := 38) (c := 71) (k := 42) _ _ (Or.inr (by decide)))).trans ((pI_ne (a := 71) (b := 38) (c := 101) _ _ (Or.inl (by decide)))))
          have lk28 : (((pI (pI t 101 v21.toNatClampNeg x1) 71 42 v23)).1 71 42).toInt = v23.toInt := congrArg Int32.toInt ((pI_self _ _ _ _))
          exact (ih (n - 1) (by omega)).2 ((pI (pI t 101 v21.toNatClampNeg x1) 71 42 v23)) x1 v24  (oLT_fr (oFr_oneI (q := 12) (m := 42) rfl (by rfl)) rfl (oLT_fr (oFr_oneI (q := 77) (m := 9999) rfl (by rfl)) rfl iv0)) (by omega) (by show _ ∧ _ ≤ (t.1 100 x1.toNatClampNeg).toInt; omega) (by have e : (((pI (pI t 101 v21.toNatClampNeg x1) 71 42 v23)).1 100) = t.1 100 := rfl; rw [e]; omega) (by omega) (by omega)
  refine r_aload_n C (j := 0) (oDec_at oX12_lies 0 rfl) rfl rfl ?_
  refine r_iconst C (oDec_at oX12_lies 1 rfl) (v := k0) (by rw [qk0]; rfl) ?_
  refine r_puti (k := 42) (lo := 0) (hi := 96) C oCl12 rfl (by decide) flX12_267 rfl rfl rfl rfl rfl rfl rfl rfl ⟨by omega, by omega⟩ (oDec_at oX12_lies 2 rfl) ?_
  refine r_aload_n C (j := 0) (oDec_at oX12_lies 3 rfl) rfl rfl ?_
  refine r_iconst C (oDec_at oX12_lies 4 rfl) (v := km1) (by rw [qkm1]; rfl) ?_
  refine r_puti (k := 43) (lo := (-2147483648)) (hi := 2147483647) C oCl12 rfl (by decide) flX12_105 rfl rfl rfl rfl rfl rfl rfl rfl (n_rng _) (oDec_at oX12_lies 5 rfl) ?_
  refine r_pc C 10 rfl ?_
  refine r_iconst C (oDec_at oX12_lies 6 rfl) (v := k0) (by rw [qk0]; rfl) ?_
  refine r_istore_n C (lv' := [(0, .ref (oad E 71)), (1, .int k0)]) [1, 0] (oDec_at oX12_lies 7 rfl) rfl (by decide) rfl ?_
  have lk29 : (((pI (pI s 71 42 k0) 71 43 km1)).1 71 38).toInt = (s.1 71 38).toInt := congrArg Int32.toInt (((pI_ne (a := 71) (b := 38) (c := 71) (k := 43) _ _ (Or.inr (by decide)))).trans ((pI_ne (a := 71) (b := 38) (c := 71) (k := 42) _ _ (Or.inr (by decide)))))
  have lk30 : (((pI (pI s 71 42 k0) 71 43 km1)).1 71 42).toInt = k0.toInt := congrArg Int32.toInt (((pI_ne (a := 71) (b := 42) (c := 71) (k := 43) _ _ (Or.inr (by decide)))).trans ((pI_self _ _ _ _)))
  have lk31 : (((pI (pI s 71 42 k0) 71 43 km1)).1 71 38).toInt = (s.1 71 38).toInt := congrArg Int32.toInt (((pI_ne (a := 71) (b := 38) (c := 71) (k := 43) _ _ (Or.inr (by decide)))).trans ((pI_ne (a := 71) (b := 38) (c := 71) (k := 42) _ _ (Or.inr (by decide)))))
  have lk32 : (((pI (pI s 71 42 k0) 71 43 km1)).1 71 42).toInt = k0.toInt := congrArg Int32.toInt (((pI_ne (a := 71) (b := 42) (c := 71) (k := 43) _ _ (Or.inr (by decide)))).trans ((pI_self _ _ _ _)))
  exact (key (200 * (30 - k0.toInt)).toNat).1 ((pI (pI s 71 42 k0) 71 43 km1)) k0  (oLT_fr (oFr_oneI (q := 12) (m := 43) rfl (by rfl)) rfl (oLT_fr (oFr_oneI (q := 12) (m := 42) rfl (by rfl)) rfl hp0)) (by omega) (by first | (have e : (((pI (pI s 71 42 k0) 71 43 km1)).1 100) = t.1 100 := rfl; have e2 := oSm_succ (f := t.1 100) (x := x1) (y := k0) (by omega) (by omega); rw [e, e2]; omega) | (have e0 := oSm_at0 (f := ((pI (pI s 71 42 k0) 71 43 km1)).1 100) (x := k0) (by omega); omega)) (by omega) (by omega)
