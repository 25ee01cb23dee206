set_option maxHeartbeats 4000000 in
set_option maxRecDepth 100000 in
theorem ct9_X12_lies (l : Launch) (E : oE) (s : oS)  (nn : Int) (st : Nat → Int) (hp0 : oLT s) (hp1 : owRA nn s) (hp2 : owRT nn st s) (hp3 : owDg nn st) (hp4 : 1 ≤ nn ∧ nn ≤ 6) : oMet l 1 yX12_lies cX12_lies 3 none [(12, 42), (12, 43), (12, 69), (77, 9999)] E s [.ref (oad E 71)] (oPv (fun u => (oLT u) ∧ (1 ≤ (u.1 71 38).toInt → 1 ≤ (u.1 71 42).toInt) ∧ (owRL nn st u))) := by
  refine oMet.of (lv := [(0, .ref (oad E 71))]) (by decide +kernel) (Nat.le_of_ble_eq_true rfl) rfl (fun J C hT => ?_)
  have C : oC l 1 cX12_lies RX12 3 none [(12, 42), (12, 43), (12, 69), (77, 9999)] E s (oPv (fun u => (oLT u) ∧ (1 ≤ (u.1 71 38).toInt → 1 ≤ (u.1 71 42).toInt) ∧ (owRL nn st u))) J := C
  obtain ⟨km1, qkm1⟩ : ∃ z : Int32, z = (-1) := ⟨_, rfl⟩
  have ekm1 : km1.toInt = (-1) := by rw [qkm1]; rfl
  obtain ⟨k0, qk0⟩ : ∃ z : Int32, z = 0 := ⟨_, rfl⟩
  have ek0 : k0.toInt = 0 := by rw [qk0]; rfl
  obtain ⟨k1, qk1⟩ : ∃ z : Int32, z = 1 := ⟨_, rfl⟩
  have ek1 : k1.toInt = 1 := by rw [qk1]; rfl
  have htn : (0 : Int) ≤ (s.1 71 38).toInt ∧ (s.1 71 38).toInt ≤ 24 := hT.1 71 38
  have hd09 := (hp3).1 0
  have key : ∀ n : Nat, (∀ (t : oS) (x1 : Int32), (oLT t) → (0 ≤ x1.toInt ∧ x1.toInt ≤ (t.1 71 38).toInt) → ((t.1 71 42).toInt = oSm (t.1 100) x1.toNatClampNeg) → ((t.1 71 38).toInt ≤ 24 ∧ 0 ≤ (t.1 71 42).toInt) → (owRA nn t) → (owRT nn st t) → ((t.1 71 42).toInt = 2 * x1.toInt) → ((x1.toInt = 0 ∧ (t.1 71 43).toInt = -1) ∨ (1 ≤ x1.toInt ∧ (t.1 71 43).toInt = st 0)) → (∀ j : Nat, (j : Int) < 2 * x1.toInt → (t.1 101 j).toInt = (j : Int) / 2) → 200 * (30 - x1.toInt) ≤ (n : Int) → J t 12 [(0, .ref (oad E 71)), (1, .int x1)] []) ∧ (∀ (t : oS) (x1 : Int32) (x2 : Int32), (oLT t) → (0 ≤ x1.toInt ∧ x1.toInt < (t.1 71 38).toInt) → (0 ≤ x2.toInt ∧ x2.toInt ≤ (t.1 100 x1.toNatClampNeg).toInt) → ((t.1 71 42).toInt = oSm (t.1 100) x1.toNatClampNeg + x2.toInt) → ((t.1 71 38).toInt ≤ 24 ∧ x2.toInt ≤ (t.1 71 42).toInt) → (owRA nn t) → (owRT nn st t) → ((t.1 71 42).toInt = 2 * x1.toInt + x2.toInt ∧ x2.toInt ≤ 2) → ((x1.toInt = 0 ∧ (t.1 71 43).toInt = -1) ∨ (1 ≤ x1.toInt ∧ (t.1 71 43).toInt = st 0)) → (∀ j : Nat, (j : Int) < 2 * x1.toInt + x2.toInt → (t.1 101 j).toInt = (j : Int) / 2) → 200 * (30 - x1.toInt) - 10 - x2.toInt ≤ (n : Int) → J t 22 [(0, .ref (oad E 71)), (1, .int x1), (2, .int x2)] []) := by
    intro n
    induction n using Nat.strongRecOn with
    | _ n ih =>
      refine ⟨?_, ?_⟩
      · intro t x1  iv0 iv1 iv2 iv3 iv4 iv5 iv6 iv7 iv8 hmu
        have rx1 := n_rng x1
        have hnt9 := (show owRA nn (t) from iv4).1
        have hn19 := n_nat x1
        have hz19 : x1.toInt = 0 → st x1.toNatClampNeg = st 0 := fun h9 => by rw [show x1.toNatClampNeg = 0 by omega]
        refine r_iload_n C (j := 1) (oDec_at oX12_lies 8 rfl) rfl rfl ?_
        refine r_aload_n C (j := 0) (oDec_at oX12_lies 9 rfl) rfl rfl ?_
        obtain ⟨v1, ev1⟩ : ∃ z : Int32, (t).1 71 38 = z := ⟨_, rfl⟩
        have gv1 : (t.1 71 38).toInt = v1.toInt := congrArg Int32.toInt (ev1)
        refine r_geti (k := 38) (lo := 0) (hi := 24) C v1 oCl12 rfl (by decide) flX12_261 rfl rfl (ev1) rfl rfl (oDec_at oX12_lies 10 rfl) (fun b2 b2h => ?_)
        refine r_icmp_ge C 82 (oDec_at oX12_lies 11 rfl) (by decide) (fun cd3 => ?_) (fun cd3 => ?_)
        · skip
          have hge := oLT_ge iv0 (x := x1) (by omega)
          have hq4 : owRL nn st (t) := ⟨by omega, by omega, fun j hj => iv8 j (by omega), iv5⟩
          refine r_aload_n C (j := 0) (oDec_at oX12_lies 46 rfl) rfl rfl ?_
          refine r_iconst C (oDec_at oX12_lies 47 rfl) (v := k0) (by rw [qk0]; rfl) ?_
          refine r_puti (k := 69) (lo := 0) (hi := 1) C oCl12 rfl (by decide) flX12_270 rfl rfl rfl rfl rfl (n_bool (by omega)) (n_fitz (by omega)) rfl ⟨by omega, by omega⟩ (oDec_at oX12_lies 48 rfl) ?_
          have lk5 : (((pI t 71 69 k0)).1 71 38).toInt = v1.toInt := congrArg Int32.toInt (((pI_ne (a := 71) (b := 38) (c := 71) (k := 69) _ _ (Or.inr (by decide)))).trans (ev1))
          have lk6 : (((pI t 71 69 k0)).1 71 42).toInt = (t.1 71 42).toInt := congrArg Int32.toInt ((pI_ne (a := 71) (b := 42) (c := 71) (k := 69) _ _ (Or.inr (by decide))))
          exact r_vret C (oDec_at oX12_lies 49 rfl) ⟨rfl, ⟨(oLT_fr (oFr_oneI (q := 12) (m := 69) rfl (by rfl)) rfl iv0), by omega, (owRL_fr (oFr_oneI (q := 12) (m := 69) rfl (by rfl)) rfl hq4)⟩⟩
        · skip
          have hle := oLT_le iv0 (x := x1) (by omega) (by omega)
          refine r_iconst C (oDec_at oX12_lies 12 rfl) (v := k0) (by rw [qk0]; rfl) ?_
          refine r_istore_n C (lv' := [(0, .ref (oad E 71)), (1, .int x1), (2, .int k0)]) [1, 2, 0] (oDec_at oX12_lies 13 rfl) rfl (by decide) rfl ?_
          have lk7 : ((t).1 71 38).toInt = v1.toInt := congrArg Int32.toInt (ev1)
          have lk8 : ((t).1 71 38).toInt = v1.toInt := congrArg Int32.toInt (ev1)
          exact (ih (n - 1) (by omega)).2 (t) x1 k0  iv0 (by omega) (by show _ ∧ _ ≤ (t.1 100 x1.toNatClampNeg).toInt; omega) (by have e : ((t).1 100) = t.1 100 := rfl; rw [e]; omega) (by omega) iv4 iv5 (by omega) (by omega) (by first | exact fun j hj => iv8 j (by omega)) (by omega)
      · intro t x1 x2  iv0 iv1 iv2 iv3 iv4 iv5 iv6 iv7 iv8 iv9 hmu
        have rx1 := n_rng x1
        have rx2 := n_rng x2
        have hnt9 := (show owRA nn (t) from iv5).1
        have hn19 := n_nat x1
        have hz19 : x1.toInt = 0 → st x1.toNatClampNeg = st 0 := fun h9 => by rw [show x1.toNatClampNeg = 0 by omega]
        refine r_iload_n C (j := 2) (oDec_at oX12_lies 14 rfl) rfl rfl ?_
        refine r_aload_n C (j := 0) (oDec_at oX12_lies 15 rfl) rfl rfl ?_
        refine r_getF (k := 40) (b := 100) C oCl12 rfl (by decide) flX12_99 rfl rfl rfl (oDec_at oX12_lies 16 rfl) ?_
        refine r_iload_n C (j := 1) (oDec_at oX12_lies 17 rfl) rfl rfl ?_
        obtain ⟨v10, ev10⟩ : ∃ z : Int32, (t).1 100 x1.toNatClampNeg = z := ⟨_, rfl⟩
        have gv10 : (t.1 100 x1.toNatClampNeg).toInt = v10.toInt := congrArg Int32.toInt (ev10)
        refine r_iald (n := 48) (lo := 0) (hi := 9999) C v10 rfl (by decide) rfl rfl ⟨by omega, by omega⟩ (by decide) ev10 rfl rfl (oDec_at oX12_lies 18 rfl) (fun b9 b9h => ?_)
        have hle := oLT_le iv0 (x := x1) (by omega) (by omega)
        have htk9 : v10.toInt = 2 := by rw [← ev10]; exact (iv5).2 _ (by omega)
        refine r_icmp_ge C 58 (oDec_at oX12_lies 19 rfl) (by decide) (fun cd11 => ?_) (fun cd11 => ?_)
        · skip
          refine r_aload_n C (j := 0) (oDec_at oX12_lies 34 rfl) rfl rfl ?_
          obtain ⟨v12, ev12⟩ : ∃ z : Int32, (t).1 71 43 = z := ⟨_, rfl⟩
          have gv12 : (t.1 71 43).toInt = v12.toInt := congrArg Int32.toInt (ev12)
          have rv12 := n_rng v12
          refine r_geti (k := 43) (lo := (-2147483648)) (hi := 2147483647) C v12 oCl12 rfl (by decide) flX12_105 rfl rfl (ev12) rfl rfl (oDec_at oX12_lies 35 rfl) (fun _ _ => ?_)
          refine r_iconst C (oDec_at oX12_lies 36 rfl) (v := km1) (by rw [qkm1]; rfl) ?_
          refine r_icmp_ne C 76 (oDec_at oX12_lies 37 rfl) (by decide) (fun cd13 => ?_) (fun cd13 => ?_)
          · skip
            obtain ⟨v14, ev14⟩ : ∃ z : Int32, x1 + Int32.ofInt 1 = z := ⟨_, rfl⟩
            have hv14 : v14.toInt = x1.toInt + 1 := n_inc ev14 (by decide) (by omega) (by omega)
            refine r_iinc C (j := 1) (lv' := [(0, .ref (oad E 71)), (1, .int v14), (2, .int x2)]) v14 [1, 0, 2] (oDec_at oX12_lies 44 rfl) rfl ev14 (by decide) rfl ?_
            refine r_goto C (tgt := 12) (oDec_at oX12_lies 45 rfl) (by decide) ?_
            have lk15 : ((t).1 71 43).toInt = v12.toInt := congrArg Int32.toInt (ev12)
            refine r_pick C [0, 1] rfl ?_
            exact (ih (n - 1) (by omega)).1 (t) v14  iv0 (by omega) (by first | (have e : ((t).1 100) = t.1 100 := rfl; have e2 := oSm_succ (f := t.1 100) (x := x1) (y := v14) (by omega) (by omega); rw [e, e2]; omega) | (have e0 := oSm_at0 (f := (t).1 100) (x := v14) (by omega); omega)) (by omega) iv5 iv6 (by omega) (by omega) (by first | exact fun j hj => iv9 j (by omega) | (intro j hj; exfalso; omega)) (by omega)
          · skip
            refine r_aload_n C (j := 0) (oDec_at oX12_lies 38 rfl) rfl rfl ?_
            refine r_aload_n C (j := 0) (oDec_at oX12_lies 39 rfl) rfl rfl ?_
            refine r_getF (k := 39) (b := 99) C oCl12 rfl (by decide) flX12_96 rfl rfl rfl (oDec_at oX12_lies 40 rfl) ?_
            refine r_iload_n C (j := 1) (oDec_at oX12_lies 41 rfl) rfl rfl ?_
            obtain ⟨v17, ev17⟩ : ∃ z : Int32, (t).1 99 x1.toNatClampNeg = z := ⟨_, rfl⟩
            have gv17 : (t.1 99 x1.toNatClampNeg).toInt = v17.toInt := congrArg Int32.toInt (ev17)
            have rv17 := n_rng v17
            refine r_iald (n := 48) (lo := (-2147483648)) (hi := 2147483647) C v17 rfl (by decide) rfl rfl ⟨by omega, by omega⟩ (by decide) ev17 rfl rfl (oDec_at oX12_lies 42 rfl) (fun _ _ => ?_)
            have hfs9 : v17.toInt = st x1.toNatClampNeg := by rw [← ev17]; exact (iv6).1 _ (by omega)
            refine r_puti (k := 43) (lo := (-2147483648)) (hi := 2147483647) C oCl12 rfl (by decide) flX12_105 rfl rfl rfl rfl rfl rfl rfl rfl (n_rng _) (oDec_at oX12_lies 43 rfl) ?_
            refine r_pc C 76 rfl ?_
            obtain ⟨v18, ev18⟩ : ∃ z : Int32, x1 + Int32.ofInt 1 = z := ⟨_, rfl⟩
            have hv18 : v18.toInt = x1.toInt + 1 := n_inc ev18 (by decide) (by omega) (by omega)
            refine r_iinc C (j := 1) (lv' := [(0, .ref (oad E 71)), (1, .int v18), (2, .int x2)]) v18 [1, 0, 2] (oDec_at oX12_lies 44 rfl) rfl ev18 (by decide) rfl ?_
            refine r_goto C (tgt := 12) (oDec_at oX12_lies 45 rfl) (by decide) ?_
            have lk19 : (((pI t 71 43 v17)).1 71 38).toInt = (t.1 71 38).toInt := congrArg Int32.toInt ((pI_ne (a := 71) (b := 38) (c := 71) (k := 43) _ _ (Or.inr (by decide))))
            have lk20 : (((pI t 71 43 v17)).1 71 42).toInt = (t.1 71 42).toInt := congrArg Int32.toInt ((pI_ne (a := 71) (b := 42) (c := 71) (k := 43) _ _ (Or.inr (by decide))))
            have lk21 : (((pI t 71 43 v17)).1 71 38).toInt = (t.1 71 38).toInt := congrArg Int32.toInt ((pI_ne (a := 71) (b := 38) (c := 71) (k := 43) _ _ (Or.inr (by decide))))
            have lk22 : (((pI t 71 43 v17)).1 71 42).toInt = (t.1 71 42).toInt := congrArg Int32.toInt ((pI_ne (a := 71) (b := 42) (c := 71) (k := 43) _ _ (Or.inr (by decide))))
            have lk23 : (((pI t 71 43 v17)).1 71 42).toInt = (t.1 71 42).toInt := congrArg Int32.toInt ((pI_ne (a := 71) (b := 42) (c := 71) (k := 43) _ _ (Or.inr (by decide))))
            have lk24 : (((pI t 71 43 v17)).1 71 43).toInt = v17.toInt := congrArg Int32.toInt ((pI_self _ _ _ _))
            refine r_pick C [0, 1] rfl ?_
            exact (ih (n - 1) (by omega)).1 ((pI t 71 43 v17)) v18  (oLT_fr (oFr_oneI (q := 12) (m := 43) rfl (by rfl)) rfl iv0) (by omega) (by first | (have e : (((pI t 71 43 v17)).1 100) = t.1 100 := rfl; have e2 := oSm_succ (f := t.1 100) (x := x1) (y := v18) (by omega) (by omega); rw [e, e2]; omega) | (have e0 := oSm_at0 (f := ((pI t 71 43 v17)).1 100) (x := v18) (by omega); omega)) (by omega) (owRA_fr (oFr_oneI (q := 12) (m := 43) rfl (by rfl)) rfl iv5) (owRT_fr (oFr_oneI (q := 12) (m := 43) rfl (by rfl)) rfl iv6) (by omega) (by omega) (by first | exact fun j hj => iv9 j (by omega) | (intro j hj; exfalso; omega)) (by omega)
        · skip
          refine r_aload_n C (j := 0) (oDec_at oX12_lies 20 rfl) rfl rfl ?_
          refine r_getF (k := 41) (b := 101) C oCl12 rfl (by decide) flX12_102 rfl rfl rfl (oDec_at oX12_lies 21 rfl) ?_
          refine r_aload_n C (j := 0) (oDec_at oX12_lies 22 rfl) rfl rfl ?_
          obtain ⟨v25, ev25⟩ : ∃ z : Int32, (t).1 71 42 = z := ⟨_, rfl⟩
          have gv25 : (t.1 71 42).toInt = v25.toInt := congrArg Int32.toInt (ev25)
          refine r_geti (k := 42) (lo := 0) (hi := 96) C v25 oCl12 rfl (by decide) flX12_267 rfl rfl (ev25) rfl rfl (oDec_at oX12_lies 23 rfl) (fun b26 b26h => ?_)
          refine r_iload_n C (j := 1) (oDec_at oX12_lies 24 rfl) rfl rfl ?_
          refine r_iast (n := 96) (lo := 0) (hi := 23) C rfl (by decide) rfl rfl ⟨by omega, by omega⟩ (by decide) rfl rfl rfl rfl ⟨by omega, by omega⟩ (oDec_at oX12_lies 25 rfl) ?_
          refine r_pc C 42 rfl ?_
          refine r_aload_n C (j := 0) (oDec_at oX12_lies 26 rfl) rfl rfl ?_
          refine r_dup C (oDec_at oX12_lies 27 rfl) rfl ?_
          refine r_geti (k := 42) (lo := 0) (hi := 96) C v25 oCl12 rfl (by decide) flX12_267 rfl rfl (((pI_ne (a := 71) (b := 42) (c := 101) _ _ (Or.inl (by decide)))).trans (ev25)) rfl rfl (oDec_at oX12_lies 28 rfl) (fun _ _ => ?_)
          refine r_iconst C (oDec_at oX12_lies 29 rfl) (v := k1) (by rw [qk1]; rfl) ?_
          obtain ⟨v27, ev27⟩ : ∃ z : Int32, z = v25 + k1 := ⟨_, rfl⟩
          have hv27 : v27.toInt = v25.toInt + k1.toInt := n_add ev27 (by omega) (by omega)
          refine r_iadd C v27 (oDec_at oX12_lies 30 rfl) ev27 ?_
          refine r_puti (k := 42) (lo := 0) (hi := 96) C oCl12 rfl (by decide) flX12_267 rfl rfl rfl rfl rfl rfl rfl rfl ⟨by omega, by omega⟩ (oDec_at oX12_lies 31 rfl) ?_
          refine r_pc C 52 rfl ?_
          obtain ⟨v28, ev28⟩ : ∃ z : Int32, x2 + Int32.ofInt 1 = z := ⟨_, rfl⟩
          have hv28 : v28.toInt = x2.toInt + 1 := n_inc ev28 (by decide) (by omega) (by omega)
          refine r_iinc C (j := 2) (lv' := [(0, .ref (oad E 71)), (1, .int x1), (2, .int v28)]) v28 [1, 2, 0] (oDec_at oX12_lies 32 rfl) rfl ev28 (by decide) rfl ?_
          refine r_goto C (tgt := 22) (oDec_at oX12_lies 33 rfl) (by decide) ?_
          have lk29 : (((pI (pI t 101 v25.toNatClampNeg x1) 71 42 v27)).1 71 38).toInt = (t.1 71 38).toInt := congrArg Int32.toInt (((pI_ne (a := 71) (b := 38) (c := 71) (k := 42) _ _ (Or.inr (by decide)))).trans ((pI_ne (a := 71) (b := 38) (c := 101) _ _ (Or.inl (by decide)))))
          have lk30 : (((pI (pI t 101 v25.toNatClampNeg x1) 71 42 v27)).1 71 42).toInt = v27.toInt := congrArg Int32.toInt ((pI_self _ _ _ _))
          have lk31 : (((pI (pI t 101 v25.toNatClampNeg x1) 71 42 v27)).1 71 38).toInt = (t.1 71 38).toInt := congrArg Int32.toInt (((pI_ne (a := 71) (b := 38) (c := 71) (k := 42) _ _ (Or.inr (by decide)))).trans ((pI_ne (a := 71) (b := 38) (c := 101) _ _ (Or.inl (by decide)))))
          have lk32 : (((pI (pI t 101 v25.toNatClampNeg x1) 71 42 v27)).1 71 42).toInt = v27.toInt := congrArg Int32.toInt ((pI_self _ _ _ _))
          have lk33 : (((pI (pI t 101 v25.toNatClampNeg x1) 71 42 v27)).1 71 42).toInt = v27.toInt := congrArg Int32.toInt ((pI_self _ _ _ _))
          have lk34 : (((pI (pI t 101 v25.toNatClampNeg x1) 71 42 v27)).1 71 43).toInt = (t.1 71 43).toInt := congrArg Int32.toInt (((pI_ne (a := 71) (b := 43) (c := 71) (k := 42) _ _ (Or.inr (by decide)))).trans ((pI_ne (a := 71) (b := 43) (c := 101) _ _ (Or.inl (by decide)))))
          exact (ih (n - 1) (by omega)).2 ((pI (pI t 101 v25.toNatClampNeg x1) 71 42 v27)) x1 v28  (oLT_fr (oFr_oneI (q := 12) (m := 42) rfl (by rfl)) rfl (oLT_fr (oFr_oneI (q := 77) (m := 9999) rfl (by rfl)) rfl iv0)) (by omega) (by show _ ∧ _ ≤ (t.1 100 x1.toNatClampNeg).toInt; omega) (by have e : (((pI (pI t 101 v25.toNatClampNeg x1) 71 42 v27)).1 100) = t.1 100 := rfl; rw [e]; omega) (by omega) (owRA_fr (oFr_oneI (q := 12) (m := 42) rfl (by rfl)) rfl (owRA_fr (oFr_oneI (q := 77) (m := 9999) rfl (by rfl)) rfl iv5)) (owRT_fr (oFr_oneI (q := 12) (m := 42) rfl (by rfl)) rfl (owRT_fr (oFr_oneI (q := 77) (m := 9999) rfl (by rfl)) rfl iv6)) (by omega) (by omega) (by first | exact owNI_pu iv9 (by omega) (by omega) (by omega) (by omega) | exact fun j hj => iv8 j (by omega)) (by omega)
  refine r_aload_n C (j := 0) (oDec_at oX12_lies 0 rfl) rfl rfl ?_
  refine r_iconst C (oDec_at oX12_lies 1 rfl) (v := k0) (by rw [qk0]; rfl) ?_
  refine r_puti (k := 42) (lo := 0) (hi := 96) C oCl12 rfl (by decide) flX12_267 rfl rfl rfl rfl rfl rfl rfl rfl ⟨by omega, by omega⟩ (oDec_at oX12_lies 2 rfl) ?_
  refine r_aload_n C (j := 0) (oDec_at oX12_lies 3 rfl) rfl rfl ?_
  refine r_iconst C (oDec_at oX12_lies 4 rfl) (v := km1) (by rw [qkm1]; rfl) ?_
  refine r_puti (k := 43) (lo := (-2147483648)) (hi := 2147483647) C oCl12 rfl (by decide) flX12_105 rfl rfl rfl rfl rfl rfl rfl rfl (n_rng _) (oDec_at oX12_lies 5 rfl) ?_
  refine r_pc C 10 rfl ?_
  refine r_iconst C (oDec_at oX12_lies 6 rfl) (v := k0) (by rw [qk0]; rfl) ?_
  refine r_istore_n C (lv' := [(0, .ref (oad E 71)), (1, .int k0)]) [1, 0] (oDec_at oX12_lies 7 rfl) rfl (by decide) rfl ?_
  have lk35 : (((pI (pI s 71 42 k0) 71 43 km1)).1 71 38).toInt = (s.1 71 38).toInt := congrArg Int32.toInt (((pI_ne (a := 71) (b := 38) (c := 71) (k := 43) _ _ (Or.inr (by decide)))).trans ((pI_ne (a := 71) (b := 38) (c := 71) (k := 42) _ _ (Or.inr (by decide)))))
  have lk36 : (((pI (pI s 71 42 k0) 71 43 km1)).1 71 42).toInt = k0.toInt := congrArg Int32.toInt (((pI_ne (a := 71) (b := 42) (c := 71) (k := 43) _ _ (Or.inr (by decide)))).trans ((pI_self _ _ _ _)))
  have lk37 : (((pI (pI s 71 42 k0) 71 43 km1)).1 71 38).toInt = (s.1 71 38).toInt := congrArg Int32.toInt (((pI_ne (a := 71) (b := 38) (c := 71) (k := 43) _ _ (Or.inr (by decide)))).trans ((pI_ne (a := 71) (b := 38) (c := 71) (k := 42) _ _ (Or.inr (by decide)))))
  have lk38 : (((pI (pI s 71 42 k0) 71 43 km1)).1 71 42).toInt = k0.toInt := congrArg Int32.toInt (((pI_ne (a := 71) (b := 42) (c := 71) (k := 43) _ _ (Or.inr (by decide)))).trans ((pI_self _ _ _ _)))
  have lk39 : (((pI (pI s 71 42 k0) 71 43 km1)).1 71 42).toInt = k0.toInt := congrArg Int32.toInt (((pI_ne (a := 71) (b := 42) (c := 71) (k := 43) _ _ (Or.inr (by decide)))).trans ((pI_self _ _ _ _)))
  have lk40 : (((pI (pI s 71 42 k0) 71 43 km1)).1 71 43).toInt = km1.toInt := congrArg Int32.toInt ((pI_self _ _ _ _))
  exact (key (200 * (30 - k0.toInt)).toNat).1 ((pI (pI s 71 42 k0) 71 43 km1)) k0  (oLT_fr (oFr_oneI (q := 12) (m := 43) rfl (by rfl)) rfl (oLT_fr (oFr_oneI (q := 12) (m := 42) rfl (by rfl)) rfl hp0)) (by omega) (by first | (have e0 := oSm_at0 (f := ((pI (pI s 71 42 k0) 71 43 km1)).1 100) (x := k0) (by omega); omega)) (by omega) (owRA_fr (oFr_oneI (q := 12) (m := 43) rfl (by rfl)) rfl (owRA_fr (oFr_oneI (q := 12) (m := 42) rfl (by rfl)) rfl hp1)) (owRT_fr (oFr_oneI (q := 12) (m := 43) rfl (by rfl)) rfl (owRT_fr (oFr_oneI (q := 12) (m := 42) rfl (by rfl)) rfl hp2)) (by omega) (by omega) (by first | (intro j hj; exfalso; omega)) (by omega)
