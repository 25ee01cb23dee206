set_option maxHeartbeats 4000000 in
set_option maxRecDepth 100000 in
theorem ct8_X12_book (l : Launch) (E : oE) (s : oS)  (g : Int → Int) (nn : Int) (M0 : Int) (N0 : Nat → Nat → Int) (hp0 : oBI s) (hp1 : (s.1 71 1).toInt = nn) (hp2 : oqY g nn s) (hp3 : oqWd s) (hp4 : oqNE M0 N0 s) : oMet l 12 yX12_book cX12_book 2 (some .int) [(12, 1), (12, 2), (12, 3), (12, 4), (12, 5), (12, 6), (12, 7), (12, 8), (12, 9), (12, 36), (12, 37), (12, 45), (12, 47), (12, 48), (12, 53), (12, 54), (12, 55), (12, 56), (12, 69), (78, 9999), (79, 9999), (80, 9999), (81, 9999), (82, 9999), (83, 9999)] E s [.ref (oad E 71)] (oPi (fun r u => (oBI u) ∧ ((u.1 71 1).toInt = 0) ∧ (r.toInt = oqB1 g) ∧ ((u.1 71 7).toInt = oqB2 g) ∧ ((u.1 71 8).toInt = oqB3 g) ∧ (oqNE (oqMb g M0) (oqNb g N0) u))) := by
  refine oMet.of (lv := [(0, .ref (oad E 71))]) (by decide +kernel) (Nat.le_of_ble_eq_true rfl) rfl (fun J C hT => ?_)
  have C : oC l 12 cX12_book RX12 2 (some .int) [(12, 1), (12, 2), (12, 3), (12, 4), (12, 5), (12, 6), (12, 7), (12, 8), (12, 9), (12, 36), (12, 37), (12, 45), (12, 47), (12, 48), (12, 53), (12, 54), (12, 55), (12, 56), (12, 69), (78, 9999), (79, 9999), (80, 9999), (81, 9999), (82, 9999), (83, 9999)] E s (oPi (fun r u => (oBI u) ∧ ((u.1 71 1).toInt = 0) ∧ (r.toInt = oqB1 g) ∧ ((u.1 71 7).toInt = oqB2 g) ∧ ((u.1 71 8).toInt = oqB3 g) ∧ (oqNE (oqMb g M0) (oqNb g N0) u))) J := C
  obtain ⟨km1, qkm1⟩ : ∃ z : Int32, z = (-1) := ⟨_, rfl⟩
  have ekm1 : km1.toInt = (-1) := by rw [qkm1]; rfl
  obtain ⟨k0, qk0⟩ : ∃ z : Int32, z = 0 := ⟨_, rfl⟩
  have ek0 : k0.toInt = 0 := by rw [qk0]; rfl
  obtain ⟨k1, qk1⟩ : ∃ z : Int32, z = 1 := ⟨_, rfl⟩
  have ek1 : k1.toInt = 1 := by rw [qk1]; rfl
  obtain ⟨k2, qk2⟩ : ∃ z : Int32, z = 2 := ⟨_, rfl⟩
  have ek2 : k2.toInt = 2 := by rw [qk2]; rfl
  obtain ⟨k3, qk3⟩ : ∃ z : Int32, z = 3 := ⟨_, rfl⟩
  have ek3 : k3.toInt = 3 := by rw [qk3]; rfl
  obtain ⟨k4, qk4⟩ : ∃ z : Int32, z = 4 := ⟨_, rfl⟩
  have ek4 : k4.toInt = 4 := by rw [qk4]; rfl
  obtain ⟨k6, qk6⟩ : ∃ z : Int32, z = 6 := ⟨_, rfl⟩
  have ek6 : k6.toInt = 6 := by rw [qk6]; rfl
  obtain ⟨k24, qk24⟩ : ∃ z : Int32, z = 24 := ⟨_, rfl⟩
  have ek24 : k24.toInt = 24 := by rw [qk24]; rfl
  obtain ⟨k1600, qk1600⟩ : ∃ z : Int32, z = 1600 := ⟨_, rfl⟩
  have ek1600 : k1600.toInt = 1600 := by rw [qk1600]; rfl
  have key : ∀ n : Nat, (∀ (t : oS), (oBB t) → ((t.1 71 5).toInt = 0 → (t.1 71 45).toInt ≤ (t.1 71 2).toInt) → ((t.1 71 5).toInt = 0 → (2 ≤ (t.1 71 54).toInt ∧ (t.1 71 54).toInt ≤ 12)) → ((t.1 104 3).toInt ≤ 6) → ((t.1 71 1).toInt = 0) → (oqZ g t) → (oqWd t) → ((t.1 104 2).toInt = (t.1 104 2).toInt ∧ (t.1 71 3).toInt = (t.1 71 3).toInt ∧ (t.1 71 6).toInt = (t.1 71 6).toInt ∧ (t.1 71 4).toInt = (t.1 71 4).toInt ∧ (t.1 71 2).toInt = (t.1 71 2).toInt) → (oqRS g t) → (oqNE M0 N0 t) → 10000 + 2 * (61 - (t.1 71 37).toInt) + oB1 (t.1 71 5) ≤ (n : Int) → J t 23 [(0, .ref (oad E 71))] []) ∧ (∀ (t : oS) (x1 : Int32), (oBD t) → (oM2 t) → (oCf x1 t) → (0 ≤ x1.toInt ∧ x1.toInt ≤ 24) → ((t.1 71 1).toInt = 0) → (oqB1 g = (t.1 71 37).toInt ∧ (t.1 71 7).toInt = oqB2 g ∧ (t.1 71 8).toInt = oqB3 g) → (oqM1 (oqB5 g) t) → (oqNR (oqB6 g) (oqB5 g) t) → (oqB5 g ≤ 6 ∧ 0 ≤ oqB5 g ∧ oqB1 g ≠ -1) → 5000 - x1.toInt ≤ (n : Int) → J t 88 [(0, .ref (oad E 71)), (1, .int x1)] []) ∧ (∀ (t : oS) (x1 : Int32), (oBD t) → (oM2 t) → (oCg t) → (0 ≤ x1.toInt ∧ x1.toInt ≤ 6) → ((t.1 71 1).toInt = 0) → (oqB1 g = (t.1 71 37).toInt ∧ (t.1 71 7).toInt = oqB2 g ∧ (t.1 71 8).toInt = oqB3 g) → (oqM1 (oqB5 g) t) → (oqNR (oqB6 g) (oqB5 g) t) → (oqB5 g ≤ 6 ∧ 0 ≤ oqB5 g ∧ oqB1 g ≠ -1) → (oqCp x1.toInt t) → 4000 - x1.toInt ≤ (n : Int) → J t 132 [(0, .ref (oad E 71)), (1, .int x1)] []) ∧ (∀ (t : oS) (x1 : Int32), (oBD t) → (oM2 t) → (oCg t) → (oCc x1 t) → (0 ≤ x1.toInt ∧ x1.toInt ≤ (t.1 71 45).toInt) → ((t.1 71 1).toInt = 0) → (oqB1 g = (t.1 71 37).toInt ∧ (t.1 71 7).toInt = oqB2 g ∧ (t.1 71 8).toInt = oqB3 g) → (oqNE (oqMb g M0) (oqNb g N0) t) → 2000 - x1.toInt ≤ (n : Int) → J t 161 [(0, .ref (oad E 71)), (1, .int x1)] []) := by
    intro n
    induction n using Nat.strongRecOn with
    | _ n ih =>
      refine ⟨?_, ?_, ?_, ?_⟩
      · intro t   iv0 iv1 iv2 iv3 iv4 iv5 iv6 iv7 iv8 iv9 hmu
        have hjn := oB1_nn (t.1 71 5)
        refine r_ty C (fun hty => ?_)
        have hty_statements : (0 : Int) ≤ ((t).1 71 37).toInt ∧ ((t).1 71 37).toInt ≤ 60 := hty.1 71 37
        have hty_at : (0 : Int) ≤ ((t).1 71 2).toInt ∧ ((t).1 71 2).toInt ≤ 1600 := hty.1 71 2
        have hty_coded : (0 : Int) ≤ ((t).1 71 45).toInt ∧ ((t).1 71 45).toInt ≤ 1600 := hty.1 71 45
        clear hty
        refine r_aload_n C (j := 0) (oDec_at oX12_book 15 rfl) rfl rfl ?_
        obtain ⟨v1, ev1⟩ : ∃ z : Int32, (t).1 71 5 = z := ⟨_, rfl⟩
        have gv1 : (t.1 71 5).toInt = v1.toInt := congrArg Int32.toInt (ev1)
        have rv1 := n_rng v1
        refine r_geti (k := 5) (lo := (-2147483648)) (hi := 2147483647) C v1 oCl12 rfl (by decide) flX12_173 rfl rfl (ev1) rfl rfl (oDec_at oX12_book 16 rfl) (fun _ _ => ?_)
        refine r_if_ne C 45 (oDec_at oX12_book 17 rfl) (by decide) (fun cd2 => ?_) (fun cd2 => ?_)
        · skip
          have lk3 : ((t).1 71 5).toInt = v1.toInt := congrArg Int32.toInt (ev1)
          have hR : (((t).1 71 5).toInt = 0 ∧ oqB1 g = ((t).1 71 37).toInt ∧ oqB2 g = 0 ∧ oqB3 g = -1 ∧ ((t).1 71 6).toInt = -1) ∨ (((t).1 71 5).toInt ≠ 0 ∧ oqB1 g = -1 ∧ oqB2 g = ((t).1 71 5).toInt ∧ oqB3 g = ((t).1 71 6).toInt) := by first | (right; have h9 := oqRS_bad iv8 (by omega); omega) | (left; have h9 := oqBu_end hBu (by omega); omega)
          have hX : ((t).1 71 5).toInt = 0 → (oqNR (oqB6 g) (oqB5 g) (t) ∧ ((t).1 104 3).toInt = oqB5 g ∧ oqB5 g ≤ 6 ∧ 0 ≤ oqB5 g ∧ oqB1 g ≠ -1) := by first | (intro h9; exfalso; omega) | (intro h9; have h8 := oqBu_end hBu (by omega); have h7 := hBu.1; rw [h8.2.2.2.2.2, h8.2.2.2.2.1]; exact ⟨(by assumption), by omega, by omega, by omega, by omega⟩)
          refine r_aload_n C (j := 0) (oDec_at oX12_book 25 rfl) rfl rfl ?_
          have lk4 : ((t).1 71 5).toInt = v1.toInt := congrArg Int32.toInt (ev1)
          refine r_callVi C oCl12 rfl miX12_isTaken mlX12_258 (ct4_X12_isTaken l E (t)  ) (by decide) rfl rfl rfl (Nat.le_of_ble_eq_true rfl) (oDec_at oX12_book 26 rfl) (fun r6 u5 pu5 fu5 => ?_)
          try dsimp only at pu5
          try simp only [lk4] at pu5
          obtain ⟨pu5_0, pu5_1, pu5_2⟩ := pu5
          have lu7 : ((u5).1 71 5).toInt = v1.toInt := congrArg Int32.toInt (((fu5 71 5 rfl).1).trans (ev1))
          have rr6 := n_rng r6
          refine r_if_ne C 54 (oDec_at oX12_book 27 rfl) (by decide) (fun cd8 => ?_) (fun cd8 => ?_)
          · skip
            have lk9 : ((u5).1 71 5).toInt = v1.toInt := congrArg Int32.toInt (((fu5 71 5 rfl).1).trans (ev1))
            have lk10 : ((u5).1 71 54).toInt = (t.1 71 54).toInt := congrArg Int32.toInt ((fu5 71 54 rfl).1)
            have lk11 : ((u5).1 71 45).toInt = (t.1 71 45).toInt := congrArg Int32.toInt ((fu5 71 45 rfl).1)
            have lk12 : ((u5).1 71 2).toInt = (t.1 71 2).toInt := congrArg Int32.toInt ((fu5 71 2 rfl).1)
            obtain ⟨hX1, hX3, hX6⟩ := hX (by omega)
            have hX4 : ((u5).1 104 3).toInt = oqB5 g := by rw [(fu5 104 3 rfl).1]; exact hX3
            have hq13 : oBD (u5) := oBB_BD (oBB_fr fu5 rfl iv0) (by omega)
            have hq14 : oqNR (oqB6 g) (oqB5 g) (u5) := oqNR_fr fu5 rfl hX1
            refine r_aload_n C (j := 0) (oDec_at oX12_book 30 rfl) rfl rfl ?_
            refine r_getF (k := 49) (b := 104) C oCl12 rfl (by decide) flX12_114 rfl rfl rfl (oDec_at oX12_book 31 rfl) ?_
            refine r_iconst C (oDec_at oX12_book 32 rfl) (v := k0) (by rw [qk0]; rfl) ?_
            refine r_aload_n C (j := 0) (oDec_at oX12_book 33 rfl) rfl rfl ?_
            refine r_getF (k := 49) (b := 104) C oCl12 rfl (by decide) flX12_114 rfl rfl rfl (oDec_at oX12_book 34 rfl) ?_
            refine r_iconst C (oDec_at oX12_book 35 rfl) (v := k2) (by rw [qk2]; rfl) ?_
            refine r_pc C 64 rfl ?_
            obtain ⟨v16, ev16⟩ : ∃ z : Int32, (u5).1 104 k2.toNatClampNeg = z := ⟨_, rfl⟩
            have av16 : t.1 104 k2.toNatClampNeg = v16 := ((fu5 104 k2.toNatClampNeg rfl).1).symm.trans ev16
            have gv16 : (t.1 104 k2.toNatClampNeg).toInt = v16.toInt := congrArg Int32.toInt (((fu5 104 k2.toNatClampNeg rfl).1).symm.trans ev16)
            refine r_iald (n := 4) (lo := 0) (hi := 12) C v16 rfl (by decide) rfl rfl ⟨by omega, by omega⟩ (by decide) ev16 rfl rfl (oDec_at oX12_book 36 rfl) (fun b15 b15h => ?_)
            refine r_iast (n := 4) (lo := 0) (hi := 12) C rfl (by decide) rfl rfl ⟨by omega, by omega⟩ (by decide) rfl rfl rfl rfl ⟨by omega, by omega⟩ (oDec_at oX12_book 37 rfl) ?_
            refine r_aload_n C (j := 0) (oDec_at oX12_book 38 rfl) rfl rfl ?_
            refine r_getF (k := 49) (b := 104) C oCl12 rfl (by decide) flX12_114 rfl rfl rfl (oDec_at oX12_book 39 rfl) ?_
            refine r_iconst C (oDec_at oX12_book 40 rfl) (v := k1) (by rw [qk1]; rfl) ?_
            refine r_aload_n C (j := 0) (oDec_at oX12_book 41 rfl) rfl rfl ?_
            refine r_pc C 72 rfl ?_
            refine r_getF (k := 49) (b := 104) C oCl12 rfl (by decide) flX12_114 rfl rfl rfl (oDec_at oX12_book 42 rfl) ?_
            refine r_iconst C (oDec_at oX12_book 43 rfl) (v := k3) (by rw [qk3]; rfl) ?_
            obtain ⟨v18, ev18⟩ : ∃ z : Int32, ((pI u5 104 k0.toNatClampNeg v16)).1 104 k3.toNatClampNeg = z := ⟨_, rfl⟩
            have gv18 : (((pI u5 104 k0.toNatClampNeg v16)).1 104 k3.toNatClampNeg).toInt = v18.toInt := congrArg Int32.toInt (ev18)
            refine r_iald (n := 4) (lo := 0) (hi := 12) C v18 rfl (by decide) rfl rfl ⟨by omega, by omega⟩ (by decide) ev18 rfl rfl (oDec_at oX12_book 44 rfl) (fun b17 b17h => ?_)
            have hw9 : v18.toInt = oqB5 g := oqWm3 ev18 (by omega) (by omega) hX4
            refine r_iast (n := 4) (lo := 0) (hi := 12) C rfl (by decide) rfl rfl ⟨by omega, by omega⟩ (by decide) rfl rfl rfl rfl ⟨by omega, by omega⟩ (oDec_at oX12_book 45 rfl) ?_
            have hq19 : oM2 ((pI (pI u5 104 k0.toNatClampNeg v16) 104 k1.toNatClampNeg v18)) := oM2_put (by assumption) (by assumption) ek0 ek1 ek2 ek3
            have hq20 : oBD ((pI (pI u5 104 k0.toNatClampNeg v16) 104 k1.toNatClampNeg v18)) := oBD_m2 hq13 ek0 ek1
            have hq21 : oqM1 (oqB5 g) ((pI (pI u5 104 k0.toNatClampNeg v16) 104 k1.toNatClampNeg v18)) := oqM1_of (by omega) hw9
            refine r_aload_n C (j := 0) (oDec_at oX12_book 46 rfl) rfl rfl ?_
            refine r_aload_n C (j := 0) (oDec_at oX12_book 47 rfl) rfl rfl ?_
            refine r_pc C 80 rfl ?_
            obtain ⟨v22, ev22⟩ : ∃ z : Int32, ((pI (pI u5 104 k0.toNatClampNeg v16) 104 k1.toNatClampNeg v18)).1 71 54 = z := ⟨_, rfl⟩
            have gv22 : (t.1 71 54).toInt = v22.toInt := congrArg Int32.toInt ((((pI_ne (a := 71) (b := 54) (c := 104) _ _ (Or.inl (by decide)))).trans (((pI_ne (a := 71) (b := 54) (c := 104) _ _ (Or.inl (by decide)))).trans ((fu5 71 54 rfl).1))).symm.trans ev22)
            have ggv22 : (((pI (pI u5 104 k0.toNatClampNeg v16) 104 k1.toNatClampNeg v18)).1 71 54).toInt = v22.toInt := congrArg Int32.toInt ev22
            have rv22 := n_rng v22
            refine r_geti (k := 54) (lo := (-2147483648)) (hi := 2147483647) C v22 oCl12 rfl (by decide) flX12_344 rfl rfl (ev22) rfl rfl (oDec_at oX12_book 48 rfl) (fun _ _ => ?_)
            refine r_puti (k := 53) (lo := 2) (hi := 12) C oCl12 rfl (by decide) flX12_127 rfl rfl rfl rfl rfl rfl rfl rfl ⟨by omega, by omega⟩ (oDec_at oX12_book 49 rfl) ?_
            refine r_iconst C (oDec_at oX12_book 50 rfl) (v := k0) (by rw [qk0]; rfl) ?_
            refine r_istore_n C (lv' := [(0, .ref (oad E 71)), (1, .int k0)]) [1, 0] (oDec_at oX12_book 51 rfl) rfl (by decide) rfl ?_
            have lk23 : (((pI (pI (pI u5 104 k0.toNatClampNeg v16) 104 k1.toNatClampNeg v18) 71 53 v22)).1 71 1).toInt = (t.1 71 1).toInt := congrArg Int32.toInt (((pI_ne (a := 71) (b := 1) (c := 71) (k := 53) _ _ (Or.inr (by decide)))).trans (((pI_ne (a := 71) (b := 1) (c := 104) _ _ (Or.inl (by decide)))).trans (((pI_ne (a := 71) (b := 1) (c := 104) _ _ (Or.inl (by decide)))).trans ((fu5 71 1 rfl).1))))
            have lk24 : (((pI (pI (pI u5 104 k0.toNatClampNeg v16) 104 k1.toNatClampNeg v18) 71 53 v22)).1 71 37).toInt = (t.1 71 37).toInt := congrArg Int32.toInt (((pI_ne (a := 71) (b := 37) (c := 71) (k := 53) _ _ (Or.inr (by decide)))).trans (((pI_ne (a := 71) (b := 37) (c := 104) _ _ (Or.inl (by decide)))).trans (((pI_ne (a := 71) (b := 37) (c := 104) _ _ (Or.inl (by decide)))).trans ((fu5 71 37 rfl).1))))
            have lk25 : (((pI (pI (pI u5 104 k0.toNatClampNeg v16) 104 k1.toNatClampNeg v18) 71 53 v22)).1 71 7).toInt = (u5.1 71 7).toInt := congrArg Int32.toInt (((pI_ne (a := 71) (b := 7) (c := 71) (k := 53) _ _ (Or.inr (by decide)))).trans (((pI_ne (a := 71) (b := 7) (c := 104) _ _ (Or.inl (by decide)))).trans ((pI_ne (a := 71) (b := 7) (c := 104) _ _ (Or.inl (by decide))))))
            have lk26 : (((pI (pI (pI u5 104 k0.toNatClampNeg v16) 104 k1.toNatClampNeg v18) 71 53 v22)).1 71 8).toInt = (u5.1 71 8).toInt := congrArg Int32.toInt (((pI_ne (a := 71) (b := 8) (c := 71) (k := 53) _ _ (Or.inr (by decide)))).trans (((pI_ne (a := 71) (b := 8) (c := 104) _ _ (Or.inl (by decide)))).trans ((pI_ne (a := 71) (b := 8) (c := 104) _ _ (Or.inl (by decide))))))
            exact (ih (n - 1) (by omega)).2.1 ((pI (pI (pI u5 104 k0.toNatClampNeg v16) 104 k1.toNatClampNeg v18) 71 53 v22)) k0  (oBD_fr (oFr_oneI (q := 12) (m := 53) rfl (by rfl)) rfl hq20) (oM2_fr (oFr_oneI (q := 12) (m := 53) rfl (by rfl)) rfl hq19) (by first | exact oCf_0 (by omega)) (by omega) (by omega) (by omega) (oqM1_fr (oFr_oneI (q := 12) (m := 53) rfl (by rfl)) rfl hq21) (oqNR_fr (oFr_oneI (q := 12) (m := 53) rfl (by rfl)) rfl (oqNR_fr (oFr_oneI (q := 80) (m := 9999) rfl (by rfl)) rfl (oqNR_fr (oFr_oneI (q := 80) (m := 9999) rfl (by rfl)) rfl hq14))) (by omega) (by omega)
          · skip
            have hq27 : oqNE (oqMb g M0) (oqNb g N0) (u5) := oqNE_no (oqNE_fr fu5 rfl iv9) (by omega)
            refine r_iconst C (oDec_at oX12_book 28 rfl) (v := km1) (by rw [qkm1]; rfl) ?_
            have hq28 : oBI (u5) := oBB_BI (oBB_fr fu5 rfl iv0)
            have lk29 : ((u5).1 71 1).toInt = (t.1 71 1).toInt := congrArg Int32.toInt ((fu5 71 1 rfl).1)
            exact r_iret C (oDec_at oX12_book 29 rfl) ⟨_, rfl, ⟨hq28, by omega, by omega, by omega, by omega, hq27⟩⟩
        · skip
          have hj0 := oB1_0 (x := t.1 71 5) (by omega)
          obtain ⟨hb6, R, M, N, hR2, hM3, hNR, hBu, hRM⟩ := oqRS_ok iv8 (by omega)
          have hq30 : oqNR N M (t) := hNR
          refine r_aload_n C (j := 0) (oDec_at oX12_book 18 rfl) rfl rfl ?_
          refine r_callVi C oCl12 rfl miX12_look mlX12_185 (ct4_X12_look l E (t)  (g) ((t.1 71 2).toInt) (by omega) iv5) (by decide) rfl rfl rfl (Nat.le_of_ble_eq_true rfl) (oDec_at oX12_book 19 rfl) (fun r32 u31 pu31 fu31 => ?_)
          try dsimp only at pu31
          obtain ⟨pu31_0, pu31_1, pu31_2, pu31_3, pu31_4, pu31_5⟩ := pu31
          have rr32 := n_rng r32
          refine r_iconst C (oDec_at oX12_book 20 rfl) (v := km1) (by rw [qkm1]; rfl) ?_
          refine r_icmp_eq C 45 (oDec_at oX12_book 21 rfl) (by decide) (fun cd33 => ?_) (fun cd33 => ?_)
          · skip
            have lc34 : ((u31).1 104 3).toInt = (t.1 104 3).toInt := congrArg Int32.toInt ((fu31 104 3 rfl).1)
            have lk35 : ((u31).1 71 5).toInt = v1.toInt := congrArg Int32.toInt (((fu31 71 5 rfl).1).trans (ev1))
            have lk36 : ((u31).1 71 6).toInt = (t.1 71 6).toInt := congrArg Int32.toInt ((fu31 71 6 rfl).1)
            have lk37 : ((u31).1 71 37).toInt = (t.1 71 37).toInt := congrArg Int32.toInt ((fu31 71 37 rfl).1)
            have hR : (((u31).1 71 5).toInt = 0 ∧ oqB1 g = ((u31).1 71 37).toInt ∧ oqB2 g = 0 ∧ oqB3 g = -1 ∧ ((u31).1 71 6).toInt = -1) ∨ (((u31).1 71 5).toInt ≠ 0 ∧ oqB1 g = -1 ∧ oqB2 g = ((u31).1 71 5).toInt ∧ oqB3 g = ((u31).1 71 6).toInt) := by first | (right; have h9 := oqRS_bad iv8 (by omega); omega) | (left; have h9 := oqBu_end hBu (by omega); omega)
            have hX : ((u31).1 71 5).toInt = 0 → (oqNR (oqB6 g) (oqB5 g) (u31) ∧ ((u31).1 104 3).toInt = oqB5 g ∧ oqB5 g ≤ 6 ∧ 0 ≤ oqB5 g ∧ oqB1 g ≠ -1) := by first | (intro h9; exfalso; omega) | (intro h9; have h8 := oqBu_end hBu (by omega); have h7 := hBu.1; rw [h8.2.2.2.2.2, h8.2.2.2.2.1]; exact ⟨(oqNR_fr fu31 rfl hq30), by omega, by omega, by omega, by omega⟩)
            refine r_aload_n C (j := 0) (oDec_at oX12_book 25 rfl) rfl rfl ?_
            have lk38 : ((u31).1 71 5).toInt = v1.toInt := congrArg Int32.toInt (((fu31 71 5 rfl).1).trans (ev1))
            have lk39 : ((u31).1 71 6).toInt = (t.1 71 6).toInt := congrArg Int32.toInt ((fu31 71 6 rfl).1)
            refine r_callVi C oCl12 rfl miX12_isTaken mlX12_258 (ct4_X12_isTaken l E (u31)  ) (by decide) rfl rfl rfl (Nat.le_of_ble_eq_true rfl) (oDec_at oX12_book 26 rfl) (fun r41 u40 pu40 fu40 => ?_)
            try dsimp only at pu40
            try simp only [lk38, lk39] at pu40
            obtain ⟨pu40_0, pu40_1, pu40_2⟩ := pu40
            have lu42 : ((u40).1 71 5).toInt = v1.toInt := congrArg Int32.toInt (((fu40 71 5 rfl).1).trans (((fu31 71 5 rfl).1).trans (ev1)))
            have rr41 := n_rng r41
            refine r_if_ne C 54 (oDec_at oX12_book 27 rfl) (by decide) (fun cd43 => ?_) (fun cd43 => ?_)
            · skip
              have lk44 : ((u40).1 71 5).toInt = v1.toInt := congrArg Int32.toInt (((fu40 71 5 rfl).1).trans (((fu31 71 5 rfl).1).trans (ev1)))
              have lk45 : ((u40).1 71 54).toInt = (t.1 71 54).toInt := congrArg Int32.toInt (((fu40 71 54 rfl).1).trans ((fu31 71 54 rfl).1))
              have lk46 : ((u40).1 71 45).toInt = (t.1 71 45).toInt := congrArg Int32.toInt (((fu40 71 45 rfl).1).trans ((fu31 71 45 rfl).1))
              have lk47 : ((u40).1 71 2).toInt = (u31.1 71 2).toInt := congrArg Int32.toInt ((fu40 71 2 rfl).1)
              obtain ⟨hX1, hX3, hX6⟩ := hX (by omega)
              have hX4 : ((u40).1 104 3).toInt = oqB5 g := by rw [(fu40 104 3 rfl).1]; exact hX3
              have hq48 : oBD (u40) := oBB_BD (oBB_fr fu40 rfl (oBB_fr fu31 rfl iv0)) (by omega)
              have hq49 : oqNR (oqB6 g) (oqB5 g) (u40) := oqNR_fr fu40 rfl hX1
              refine r_aload_n C (j := 0) (oDec_at oX12_book 30 rfl) rfl rfl ?_
              refine r_getF (k := 49) (b := 104) C oCl12 rfl (by decide) flX12_114 rfl rfl rfl (oDec_at oX12_book 31 rfl) ?_
              refine r_iconst C (oDec_at oX12_book 32 rfl) (v := k0) (by rw [qk0]; rfl) ?_
              refine r_aload_n C (j := 0) (oDec_at oX12_book 33 rfl) rfl rfl ?_
              refine r_getF (k := 49) (b := 104) C oCl12 rfl (by decide) flX12_114 rfl rfl rfl (oDec_at oX12_book 34 rfl) ?_
              refine r_iconst C (oDec_at oX12_book 35 rfl) (v := k2) (by rw [qk2]; rfl) ?_
              refine r_pc C 64 rfl ?_
              obtain ⟨v51, ev51⟩ : ∃ z : Int32, (u40).1 104 k2.toNatClampNeg = z := ⟨_, rfl⟩
              have av51 : t.1 104 k2.toNatClampNeg = v51 := (((fu40 104 k2.toNatClampNeg rfl).1).trans ((fu31 104 k2.toNatClampNeg rfl).1)).symm.trans ev51
              have gv51 : (t.1 104 k2.toNatClampNeg).toInt = v51.toInt := congrArg Int32.toInt ((((fu40 104 k2.toNatClampNeg rfl).1).trans ((fu31 104 k2.toNatClampNeg rfl).1)).symm.trans ev51)
              refine r_iald (n := 4) (lo := 0) (hi := 12) C v51 rfl (by decide) rfl rfl ⟨by omega, by omega⟩ (by decide) ev51 rfl rfl (oDec_at oX12_book 36 rfl) (fun b50 b50h => ?_)
              refine r_iast (n := 4) (lo := 0) (hi := 12) C rfl (by decide) rfl rfl ⟨by omega, by omega⟩ (by decide) rfl rfl rfl rfl ⟨by omega, by omega⟩ (oDec_at oX12_book 37 rfl) ?_
              refine r_aload_n C (j := 0) (oDec_at oX12_book 38 rfl) rfl rfl ?_
              refine r_getF (k := 49) (b := 104) C oCl12 rfl (by decide) flX12_114 rfl rfl rfl (oDec_at oX12_book 39 rfl) ?_
              refine r_iconst C (oDec_at oX12_book 40 rfl) (v := k1) (by rw [qk1]; rfl) ?_
              refine r_aload_n C (j := 0) (oDec_at oX12_book 41 rfl) rfl rfl ?_
              refine r_pc C 72 rfl ?_
              refine r_getF (k := 49) (b := 104) C oCl12 rfl (by decide) flX12_114 rfl rfl rfl (oDec_at oX12_book 42 rfl) ?_
              refine r_iconst C (oDec_at oX12_book 43 rfl) (v := k3) (by rw [qk3]; rfl) ?_
              obtain ⟨v53, ev53⟩ : ∃ z : Int32, ((pI u40 104 k0.toNatClampNeg v51)).1 104 k3.toNatClampNeg = z := ⟨_, rfl⟩
              have gv53 : (((pI u40 104 k0.toNatClampNeg v51)).1 104 k3.toNatClampNeg).toInt = v53.toInt := congrArg Int32.toInt (ev53)
              refine r_iald (n := 4) (lo := 0) (hi := 12) C v53 rfl (by decide) rfl rfl ⟨by omega, by omega⟩ (by decide) ev53 rfl rfl (oDec_at oX12_book 44 rfl) (fun b52 b52h => ?_)
              have hw9 : v53.toInt = oqB5 g := oqWm3 ev53 (by omega) (by omega) hX4
              refine r_iast (n := 4) (lo := 0) (hi := 12) C rfl (by decide) rfl rfl ⟨by omega, by omega⟩ (by decide) rfl rfl rfl rfl ⟨by omega, by omega⟩ (oDec_at oX12_book 45 rfl) ?_
              have hq54 : oM2 ((pI (pI u40 104 k0.toNatClampNeg v51) 104 k1.toNatClampNeg v53)) := oM2_put (by assumption) (by assumption) ek0 ek1 ek2 ek3
              have hq55 : oBD ((pI (pI u40 104 k0.toNatClampNeg v51) 104 k1.toNatClampNeg v53)) := oBD_m2 hq48 ek0 ek1
              have hq56 : oqM1 (oqB5 g) ((pI (pI u40 104 k0.toNatClampNeg v51) 104 k1.toNatClampNeg v53)) := oqM1_of (by omega) hw9
              refine r_aload_n C (j := 0) (oDec_at oX12_book 46 rfl) rfl rfl ?_
              refine r_aload_n C (j := 0) (oDec_at oX12_book 47 rfl) rfl rfl ?_
              refine r_pc C 80 rfl ?_
              obtain ⟨v57, ev57⟩ : ∃ z : Int32, ((pI (pI u40 104 k0.toNatClampNeg v51) 104 k1.toNatClampNeg v53)).1 71 54 = z := ⟨_, rfl⟩
              have gv57 : (t.1 71 54).toInt = v57.toInt := congrArg Int32.toInt ((((pI_ne (a := 71) (b := 54) (c := 104) _ _ (Or.inl (by decide)))).trans (((pI_ne (a := 71) (b := 54) (c := 104) _ _ (Or.inl (by decide)))).trans (((fu40 71 54 rfl).1).trans ((fu31 71 54 rfl).1)))).symm.trans ev57)
              have ggv57 : (((pI (pI u40 104 k0.toNatClampNeg v51) 104 k1.toNatClampNeg v53)).1 71 54).toInt = v57.toInt := congrArg Int32.toInt ev57
              have rv57 := n_rng v57
              refine r_geti (k := 54) (lo := (-2147483648)) (hi := 2147483647) C v57 oCl12 rfl (by decide) flX12_344 rfl rfl (ev57) rfl rfl (oDec_at oX12_book 48 rfl) (fun _ _ => ?_)
              refine r_puti (k := 53) (lo := 2) (hi := 12) C oCl12 rfl (by decide) flX12_127 rfl rfl rfl rfl rfl rfl rfl rfl ⟨by omega, by omega⟩ (oDec_at oX12_book 49 rfl) ?_
              refine r_iconst C (oDec_at oX12_book 50 rfl) (v := k0) (by rw [qk0]; rfl) ?_
              refine r_istore_n C (lv' := [(0, .ref (oad E 71)), (1, .int k0)]) [1, 0] (oDec_at oX12_book 51 rfl) rfl (by decide) rfl ?_
              have lk58 : (((pI (pI (pI u40 104 k0.toNatClampNeg v51) 104 k1.toNatClampNeg v53) 71 53 v57)).1 71 1).toInt = (t.1 71 1).toInt := congrArg Int32.toInt (((pI_ne (a := 71) (b := 1) (c := 71) (k := 53) _ _ (Or.inr (by decide)))).trans (((pI_ne (a := 71) (b := 1) (c := 104) _ _ (Or.inl (by decide)))).trans (((pI_ne (a := 71) (b := 1) (c := 104) _ _ (Or.inl (by decide)))).trans (((fu40 71 1 rfl).1).trans ((fu31 71 1 rfl).1)))))
              have lk59 : (((pI (pI (pI u40 104 k0.toNatClampNeg v51) 104 k1.toNatClampNeg v53) 71 53 v57)).1 71 37).toInt = (t.1 71 37).toInt := congrArg Int32.toInt (((pI_ne (a := 71) (b := 37) (c := 71) (k := 53) _ _ (Or.inr (by decide)))).trans (((pI_ne (a := 71) (b := 37) (c := 104) _ _ (Or.inl (by decide)))).trans (((pI_ne (a := 71) (b := 37) (c := 104) _ _ (Or.inl (by decide)))).trans (((fu40 71 37 rfl).1).trans ((fu31 71 37 rfl).1)))))
              have lk60 : (((pI (pI (pI u40 104 k0.toNatClampNeg v51) 104 k1.toNatClampNeg v53) 71 53 v57)).1 71 7).toInt = (u40.1 71 7).toInt := congrArg Int32.toInt (((pI_ne (a := 71) (b := 7) (c := 71) (k := 53) _ _ (Or.inr (by decide)))).trans (((pI_ne (a := 71) (b := 7) (c := 104) _ _ (Or.inl (by decide)))).trans ((pI_ne (a := 71) (b := 7) (c := 104) _ _ (Or.inl (by decide))))))
              have lk61 : (((pI (pI (pI u40 104 k0.toNatClampNeg v51) 104 k1.toNatClampNeg v53) 71 53 v57)).1 71 8).toInt = (u40.1 71 8).toInt := congrArg Int32.toInt (((pI_ne (a := 71) (b := 8) (c := 71) (k := 53) _ _ (Or.inr (by decide)))).trans (((pI_ne (a := 71) (b := 8) (c := 104) _ _ (Or.inl (by decide)))).trans ((pI_ne (a := 71) (b := 8) (c := 104) _ _ (Or.inl (by decide))))))
              exact (ih (n - 1) (by omega)).2.1 ((pI (pI (pI u40 104 k0.toNatClampNeg v51) 104 k1.toNatClampNeg v53) 71 53 v57)) k0  (oBD_fr (oFr_oneI (q := 12) (m := 53) rfl (by rfl)) rfl hq55) (oM2_fr (oFr_oneI (q := 12) (m := 53) rfl (by rfl)) rfl hq54) (by first | exact oCf_0 (by omega)) (by omega) (by omega) (by omega) (oqM1_fr (oFr_oneI (q := 12) (m := 53) rfl (by rfl)) rfl hq56) (oqNR_fr (oFr_oneI (q := 12) (m := 53) rfl (by rfl)) rfl (oqNR_fr (oFr_oneI (q := 80) (m := 9999) rfl (by rfl)) rfl (oqNR_fr (oFr_oneI (q := 80) (m := 9999) rfl (by rfl)) rfl hq49))) (by omega) (by omega)
            · skip
              have hq62 : oqNE (oqMb g M0) (oqNb g N0) (u40) := oqNE_no (oqNE_fr fu40 rfl (oqNE_fr fu31 rfl iv9)) (by omega)
              refine r_iconst C (oDec_at oX12_book 28 rfl) (v := km1) (by rw [qkm1]; rfl) ?_
              have hq63 : oBI (u40) := oBB_BI (oBB_fr fu40 rfl (oBB_fr fu31 rfl iv0))
              have lk64 : ((u40).1 71 1).toInt = (t.1 71 1).toInt := congrArg Int32.toInt (((fu40 71 1 rfl).1).trans ((fu31 71 1 rfl).1))
              exact r_iret C (oDec_at oX12_book 29 rfl) ⟨_, rfl, ⟨hq63, by omega, by omega, by omega, by omega, hq62⟩⟩
          · skip
            have lc65 : ((u31).1 104 2).toInt = (t.1 104 2).toInt := congrArg Int32.toInt ((fu31 104 2 rfl).1)
            have lc66 : ((u31).1 104 3).toInt = (t.1 104 3).toInt := congrArg Int32.toInt ((fu31 104 3 rfl).1)
            have lk67 : ((u31).1 71 5).toInt = v1.toInt := congrArg Int32.toInt (((fu31 71 5 rfl).1).trans (ev1))
            have lk68 : ((u31).1 71 6).toInt = (t.1 71 6).toInt := congrArg Int32.toInt ((fu31 71 6 rfl).1)
            have lk69 : ((u31).1 71 37).toInt = (t.1 71 37).toInt := congrArg Int32.toInt ((fu31 71 37 rfl).1)
            have hss := oqSk_sk (g := g) (a := (t.1 71 2).toInt) ⟨by omega, by omega⟩
            have hgs : g (oqSk g (oqSk g (t.1 71 2).toInt)) = g (oqSk g (t.1 71 2).toInt) := by rw [hss]
            refine r_aload_n C (j := 0) (oDec_at oX12_book 22 rfl) rfl rfl ?_
            have lk70 : ((u31).1 71 5).toInt = v1.toInt := congrArg Int32.toInt (((fu31 71 5 rfl).1).trans (ev1))
            have lk71 : ((u31).1 71 45).toInt = (t.1 71 45).toInt := congrArg Int32.toInt ((fu31 71 45 rfl).1)
            have lk72 : ((u31).1 71 5).toInt = v1.toInt := congrArg Int32.toInt (((fu31 71 5 rfl).1).trans (ev1))
            have lk73 : ((u31).1 71 54).toInt = (t.1 71 54).toInt := congrArg Int32.toInt ((fu31 71 54 rfl).1)
            have lk74 : ((u31).1 71 4).toInt = (t.1 71 4).toInt := congrArg Int32.toInt ((fu31 71 4 rfl).1)
            have lk75 : ((u31).1 71 6).toInt = (t.1 71 6).toInt := congrArg Int32.toInt ((fu31 71 6 rfl).1)
            have lk76 : ((u31).1 71 37).toInt = (t.1 71 37).toInt := congrArg Int32.toInt ((fu31 71 37 rfl).1)
            have lk77 : ((u31).1 71 37).toInt = (t.1 71 37).toInt := congrArg Int32.toInt ((fu31 71 37 rfl).1)
            have lk78 : ((u31).1 71 37).toInt = (t.1 71 37).toInt := congrArg Int32.toInt ((fu31 71 37 rfl).1)
            have lk79 : ((u31).1 71 37).toInt = (t.1 71 37).toInt := congrArg Int32.toInt ((fu31 71 37 rfl).1)
            have lk80 : ((u31).1 71 37).toInt = (t.1 71 37).toInt := congrArg Int32.toInt ((fu31 71 37 rfl).1)
            have lk81 : ((u31).1 71 37).toInt = (t.1 71 37).toInt := congrArg Int32.toInt ((fu31 71 37 rfl).1)
            have lc82 : ((u31).1 104 3).toInt = (t.1 104 3).toInt := congrArg Int32.toInt ((fu31 104 3 rfl).1)
            have lc83 : ((u31).1 104 2).toInt = (t.1 104 2).toInt := congrArg Int32.toInt ((fu31 104 2 rfl).1)
            have lc84 : ((u31).1 104 3).toInt = (t.1 104 3).toInt := congrArg Int32.toInt ((fu31 104 3 rfl).1)
            refine r_callVv C oCl12 rfl miX12_bookTold mlX12_353 (ct8_X12_bookTold l E (u31)  (g) (oqSk g (t.1 71 2).toInt) ((t.1 71 4).toInt) (R) (M) (N) (M0) (N0) (oBB_fr fu31 rfl iv0) (by omega) (by omega) (by omega) (by omega) (by omega) (by omega) (by omega) (by omega) (by omega) (oqNR_fr fu31 rfl hq30) (by omega) (by omega) (oqZ_fr fu31 rfl iv5) (oqWd_fr fu31 rfl iv6) (oqNE_fr fu31 rfl iv9)) (by decide) rfl rfl rfl (Nat.le_of_ble_eq_true rfl) (oDec_at oX12_book 23 rfl) (fun u85 pu85 fu85 => ?_)
            try dsimp only at pu85
            try simp only [lk70, lk71, lk72, lk73, lk74, lk75, lk76, lk77, lk78, lk79, lk80, lk81] at pu85
            obtain ⟨pu85_0, pu85_1, pu85_2, pu85_3, pu85_4, pu85_5, pu85_6, pu85_7, pu85_8⟩ := pu85
            refine r_goto C (tgt := 23) (oDec_at oX12_book 24 rfl) (by decide) ?_
            have lk87 : ((u85).1 71 1).toInt = (t.1 71 1).toInt := congrArg Int32.toInt (((fu85 71 1 rfl).1).trans ((fu31 71 1 rfl).1))
            have lk88 : ((u85).1 71 3).toInt = (t.1 71 3).toInt := congrArg Int32.toInt (((fu85 71 3 rfl).1).trans ((fu31 71 3 rfl).1))
            have hj := oB1_f ((u85).1 71 5)
            exact (ih (n - 1) (by omega)).1 (u85)   pu85_0 (by omega) (by omega) (by omega) (by omega) (by first | exact (oqZ_fr fu85 rfl (oqZ_fr fu31 rfl iv5)) | exact oqZ_of (by assumption) (by omega)) (oqWd_fr fu85 rfl (oqWd_fr fu31 rfl iv6)) (by omega) (by first | exact oqRS_nx hBu (by omega) hRM (by first | exact pu85_4 | omega) (by first | exact pu85_5 | omega) (by first | exact pu85_6 | omega) pu85_7 (by omega) | exact oqRS_0 (by omega) (by omega) (by omega) (by omega) (by omega) (by omega) (by omega)) pu85_8 (by omega)
      · intro t x1  iv0 iv1 iv2 iv3 iv4 iv5 iv6 iv7 iv8 hmu
        have rx1 := n_rng x1
        refine r_iload_n C (j := 1) (oDec_at oX12_book 52 rfl) rfl rfl ?_
        refine r_bipush C (oDec_at oX12_book 53 rfl) (v := k24) (by rw [qk24]; rfl) ?_
        refine r_icmp_ge C 130 (oDec_at oX12_book 54 rfl) (by decide) (fun cd89 => ?_) (fun cd89 => ?_)
        · skip
          have hq90 : oCg (t) := oCf_g iv2 (by omega)
          refine r_iconst C (oDec_at oX12_book 77 rfl) (v := k0) (by rw [qk0]; rfl) ?_
          refine r_istore_n C (lv' := [(0, .ref (oad E 71)), (1, .int k0)]) [1, 0] (oDec_at oX12_book 78 rfl) rfl (by decide) rfl ?_
          exact (ih (n - 1) (by omega)).2.2.1 (t) k0  iv0 iv1 hq90 (by omega) (by omega) (by omega) iv6 iv7 (by omega) (by first | exact oqCp_0 (by omega)) (by omega)
        · skip
          refine r_aload_n C (j := 0) (oDec_at oX12_book 55 rfl) rfl rfl ?_
          refine r_getF (k := 50) (b := 105) C oCl12 rfl (by decide) flX12_117 rfl rfl rfl (oDec_at oX12_book 56 rfl) ?_
          refine r_iload_n C (j := 1) (oDec_at oX12_book 57 rfl) rfl rfl ?_
          refine r_aload_n C (j := 0) (oDec_at oX12_book 58 rfl) rfl rfl ?_
          refine r_getF (k := 50) (b := 105) C oCl12 rfl (by decide) flX12_117 rfl rfl rfl (oDec_at oX12_book 59 rfl) ?_
          refine r_bipush C (oDec_at oX12_book 60 rfl) (v := k24) (by rw [qk24]; rfl) ?_
          refine r_pc C 105 rfl ?_
          refine r_iload_n C (j := 1) (oDec_at oX12_book 61 rfl) rfl rfl ?_
          obtain ⟨v91, ev91⟩ : ∃ z : Int32, z = k24 + x1 := ⟨_, rfl⟩
          have hv91 : v91.toInt = k24.toInt + x1.toInt := n_add ev91 (by omega) (by omega)
          refine r_iadd C v91 (oDec_at oX12_book 62 rfl) ev91 ?_
          obtain ⟨v93, ev93⟩ : ∃ z : Int32, (t).1 105 v91.toNatClampNeg = z := ⟨_, rfl⟩
          have gv93 : (t.1 105 v91.toNatClampNeg).toInt = v93.toInt := congrArg Int32.toInt (ev93)
          refine r_iald (n := 48) (lo := 0) (hi := 1600) C v93 rfl (by decide) rfl rfl ⟨by omega, by omega⟩ (by decide) ev93 rfl rfl (oDec_at oX12_book 63 rfl) (fun b92 b92h => ?_)
          have hq1 := oIxA 24 (i := v91) (x := x1) ev93 (by omega) (by omega)
          refine r_iast (n := 48) (lo := 0) (hi := 1600) C rfl (by decide) rfl rfl ⟨by omega, by omega⟩ (by decide) rfl rfl rfl rfl ⟨by omega, by omega⟩ (oDec_at oX12_book 64 rfl) ?_
          refine r_aload_n C (j := 0) (oDec_at oX12_book 65 rfl) rfl rfl ?_
          refine r_getF (k := 51) (b := 106) C oCl12 rfl (by decide) flX12_120 rfl rfl rfl (oDec_at oX12_book 66 rfl) ?_
          refine r_pc C 113 rfl ?_
          refine r_iload_n C (j := 1) (oDec_at oX12_book 67 rfl) rfl rfl ?_
          refine r_aload_n C (j := 0) (oDec_at oX12_book 68 rfl) rfl rfl ?_
          refine r_getF (k := 51) (b := 106) C oCl12 rfl (by decide) flX12_120 rfl rfl rfl (oDec_at oX12_book 69 rfl) ?_
          refine r_bipush C (oDec_at oX12_book 70 rfl) (v := k24) (by rw [qk24]; rfl) ?_
          refine r_iload_n C (j := 1) (oDec_at oX12_book 71 rfl) rfl rfl ?_
          obtain ⟨v94, ev94⟩ : ∃ z : Int32, z = k24 + x1 := ⟨_, rfl⟩
          have hv94 : v94.toInt = k24.toInt + x1.toInt := n_add ev94 (by omega) (by omega)
          refine r_iadd C v94 (oDec_at oX12_book 72 rfl) ev94 ?_
          refine r_pc C 122 rfl ?_
          obtain ⟨v96, ev96⟩ : ∃ z : Int32, ((pI t 105 x1.toNatClampNeg v93)).1 106 v94.toNatClampNeg = z := ⟨_, rfl⟩
          have av96 : t.1 106 v94.toNatClampNeg = v96 := ((pI_ne (a := 106) (b := v94.toNatClampNeg) (c := 105) _ _ (Or.inl (by decide)))).symm.trans ev96
          have gv96 : (t.1 106 v94.toNatClampNeg).toInt = v96.toInt := congrArg Int32.toInt (((pI_ne (a := 106) (b := v94.toNatClampNeg) (c := 105) _ _ (Or.inl (by decide)))).symm.trans ev96)
          refine r_iald (n := 48) (lo := 0) (hi := 1600) C v96 rfl (by decide) rfl rfl ⟨by omega, by omega⟩ (by decide) ev96 rfl rfl (oDec_at oX12_book 73 rfl) (fun b95 b95h => ?_)
          have hq2 := oIxA 24 (i := v94) (x := x1) ev96 (by omega) (by omega)
          refine r_iast (n := 48) (lo := 0) (hi := 1600) C rfl (by decide) rfl rfl ⟨by omega, by omega⟩ (by decide) rfl rfl rfl rfl ⟨by omega, by omega⟩ (oDec_at oX12_book 74 rfl) ?_
          have hq97 : oBD ((pI (pI t 105 x1.toNatClampNeg v93) 106 x1.toNatClampNeg v96)) := oBD_lo iv0 (by omega)
          obtain ⟨v98, ev98⟩ : ∃ z : Int32, x1 + Int32.ofInt 1 = z := ⟨_, rfl⟩
          have hv98 : v98.toInt = x1.toInt + 1 := n_inc ev98 (by decide) (by omega) (by omega)
          refine r_iinc C (j := 1) (lv' := [(0, .ref (oad E 71)), (1, .int v98)]) v98 [1, 0] (oDec_at oX12_book 75 rfl) rfl ev98 (by decide) rfl ?_
          refine r_goto C (tgt := 88) (oDec_at oX12_book 76 rfl) (by decide) ?_
          have lk99 : (((pI (pI t 105 x1.toNatClampNeg v93) 106 x1.toNatClampNeg v96)).1 71 1).toInt = (t.1 71 1).toInt := congrArg Int32.toInt (((pI_ne (a := 71) (b := 1) (c := 106) _ _ (Or.inl (by decide)))).trans ((pI_ne (a := 71) (b := 1) (c := 105) _ _ (Or.inl (by decide)))))
          have lk100 : (((pI (pI t 105 x1.toNatClampNeg v93) 106 x1.toNatClampNeg v96)).1 71 37).toInt = (t.1 71 37).toInt := congrArg Int32.toInt (((pI_ne (a := 71) (b := 37) (c := 106) _ _ (Or.inl (by decide)))).trans ((pI_ne (a := 71) (b := 37) (c := 105) _ _ (Or.inl (by decide)))))
          have lk101 : (((pI (pI t 105 x1.toNatClampNeg v93) 106 x1.toNatClampNeg v96)).1 71 7).toInt = (t.1 71 7).toInt := congrArg Int32.toInt (((pI_ne (a := 71) (b := 7) (c := 106) _ _ (Or.inl (by decide)))).trans ((pI_ne (a := 71) (b := 7) (c := 105) _ _ (Or.inl (by decide)))))
          have lk102 : (((pI (pI t 105 x1.toNatClampNeg v93) 106 x1.toNatClampNeg v96)).1 71 8).toInt = (t.1 71 8).toInt := congrArg Int32.toInt (((pI_ne (a := 71) (b := 8) (c := 106) _ _ (Or.inl (by decide)))).trans ((pI_ne (a := 71) (b := 8) (c := 105) _ _ (Or.inl (by decide)))))
          exact (ih (n - 1) (by omega)).2.1 ((pI (pI t 105 x1.toNatClampNeg v93) 106 x1.toNatClampNeg v96)) v98  hq97 (oM2_fr (oFr_oneI (q := 82) (m := 9999) rfl (by rfl)) rfl (oM2_fr (oFr_oneI (q := 81) (m := 9999) rfl (by rfl)) rfl iv1)) (by first | exact oCf_step (x := x1) (y := v98) iv2 (by omega) (by omega) (by assumption) (by assumption) | exact oCf_0 (by omega)) (by omega) (by omega) (by omega) (oqM1_fr (oFr_oneI (q := 82) (m := 9999) rfl (by rfl)) rfl (oqM1_fr (oFr_oneI (q := 81) (m := 9999) rfl (by rfl)) rfl iv6)) (oqNR_fr (oFr_oneI (q := 82) (m := 9999) rfl (by rfl)) rfl (oqNR_fr (oFr_oneI (q := 81) (m := 9999) rfl (by rfl)) rfl iv7)) (by omega) (by omega)
      · intro t x1  iv0 iv1 iv2 iv3 iv4 iv5 iv6 iv7 iv8 iv9 hmu
        have rx1 := n_rng x1
        refine r_ty C (fun hty => ?_)
        have hty_coded : (0 : Int) ≤ ((t).1 71 45).toInt ∧ ((t).1 71 45).toInt ≤ 1600 := hty.1 71 45
        clear hty
        refine r_iload_n C (j := 1) (oDec_at oX12_book 79 rfl) rfl rfl ?_
        refine r_bipush C (oDec_at oX12_book 80 rfl) (v := k6) (by rw [qk6]; rfl) ?_
        refine r_icmp_ge C 159 (oDec_at oX12_book 81 rfl) (by decide) (fun cd103 => ?_) (fun cd103 => ?_)
        · skip
          have hq104 : oqNE (oqMb g M0) (oqNb g N0) (t) := oqNE_new iv6 iv7 iv9 (by omega) (by omega) (by omega)
          refine r_iconst C (oDec_at oX12_book 94 rfl) (v := k0) (by rw [qk0]; rfl) ?_
          refine r_istore_n C (lv' := [(0, .ref (oad E 71)), (1, .int k0)]) [1, 0] (oDec_at oX12_book 95 rfl) rfl (by decide) rfl ?_
          exact (ih (n - 1) (by omega)).2.2.2 (t) k0  iv0 iv1 iv2 (by first | exact oCc_step (x := x1) (y := k0) iv3 (by omega) (by omega) (by assumption) | exact oCc_0 (by omega)) (by omega) (by omega) (by omega) hq104 (by omega)
        · skip
          refine r_aload_n C (j := 0) (oDec_at oX12_book 82 rfl) rfl rfl ?_
          refine r_getF (k := 52) (b := 107) C oCl12 rfl (by decide) flX12_123 rfl rfl rfl (oDec_at oX12_book 83 rfl) ?_
          refine r_iload_n C (j := 1) (oDec_at oX12_book 84 rfl) rfl rfl ?_
          refine r_aload_n C (j := 0) (oDec_at oX12_book 85 rfl) rfl rfl ?_
          refine r_getF (k := 52) (b := 107) C oCl12 rfl (by decide) flX12_123 rfl rfl rfl (oDec_at oX12_book 86 rfl) ?_
          refine r_bipush C (oDec_at oX12_book 87 rfl) (v := k6) (by rw [qk6]; rfl) ?_
          refine r_pc C 149 rfl ?_
          refine r_iload_n C (j := 1) (oDec_at oX12_book 88 rfl) rfl rfl ?_
          obtain ⟨v105, ev105⟩ : ∃ z : Int32, z = k6 + x1 := ⟨_, rfl⟩
          have hv105 : v105.toInt = k6.toInt + x1.toInt := n_add ev105 (by omega) (by omega)
          refine r_iadd C v105 (oDec_at oX12_book 89 rfl) ev105 ?_
          obtain ⟨v106, ev106⟩ : ∃ z : Int64, (t).2.1 107 v105.toNatClampNeg = z := ⟨_, rfl⟩
          refine r_lald (n := 12) C v106 rfl (by decide) rfl rfl ⟨by omega, by omega⟩ (by decide) ev106 (oDec_at oX12_book 90 rfl) ?_
          refine r_last (n := 12) C rfl (by decide) rfl rfl ⟨by omega, by omega⟩ (by decide) rfl (oDec_at oX12_book 91 rfl) ?_
          have hq107 : oqNR (oqB6 g) (oqB5 g) ((pL t 107 x1.toNatClampNeg v106)) := oqNR_lo iv7 (by omega) (by omega)
          obtain ⟨v108, ev108⟩ : ∃ z : Int32, x1 + Int32.ofInt 1 = z := ⟨_, rfl⟩
          have hv108 : v108.toInt = x1.toInt + 1 := n_inc ev108 (by decide) (by omega) (by omega)
          refine r_iinc C (j := 1) (lv' := [(0, .ref (oad E 71)), (1, .int v108)]) v108 [1, 0] (oDec_at oX12_book 92 rfl) rfl ev108 (by decide) rfl ?_
          refine r_goto C (tgt := 132) (oDec_at oX12_book 93 rfl) (by decide) ?_
          have lk109 : (((pL t 107 x1.toNatClampNeg v106)).1 71 1).toInt = (t.1 71 1).toInt := congrArg Int32.toInt ((show ((pL t 107 x1.toNatClampNeg v106)).1 71 1 = t.1 71 1 from rfl))
          have lk110 : (((pL t 107 x1.toNatClampNeg v106)).1 71 37).toInt = (t.1 71 37).toInt := congrArg Int32.toInt ((show ((pL t 107 x1.toNatClampNeg v106)).1 71 37 = t.1 71 37 from rfl))
          have lk111 : (((pL t 107 x1.toNatClampNeg v106)).1 71 7).toInt = (t.1 71 7).toInt := congrArg Int32.toInt ((show ((pL t 107 x1.toNatClampNeg v106)).1 71 7 = t.1 71 7 from rfl))
          have lk112 : (((pL t 107 x1.toNatClampNeg v106)).1 71 8).toInt = (t.1 71 8).toInt := congrArg Int32.toInt ((show ((pL t 107 x1.toNatClampNeg v106)).1 71 8 = t.1 71 8 from rfl))
          exact (ih (n - 1) (by omega)).2.2.1 ((pL t 107 x1.toNatClampNeg v106)) v108  (oBD_fr (oFr_oneL (q := 83) (m := 9999) rfl (by rfl)) rfl iv0) (oM2_fr (oFr_oneL (q := 83) (m := 9999) rfl (by rfl)) rfl iv1) (oCg_fr (oFr_oneL (q := 83) (m := 9999) rfl (by rfl)) rfl iv2) (by omega) (by omega) (by omega) (oqM1_fr (oFr_oneL (q := 83) (m := 9999) rfl (by rfl)) rfl iv6) hq107 (by omega) (by first | exact oqCp_nx iv9 ev106 (by omega) (by omega) (by omega) (by omega) (by omega) | exact oqCp_0 (by omega)) (by omega)
      · intro t x1  iv0 iv1 iv2 iv3 iv4 iv5 iv6 iv7 hmu
        have rx1 := n_rng x1
        refine r_ty C (fun hty => ?_)
        have hty_coded : (0 : Int) ≤ ((t).1 71 45).toInt ∧ ((t).1 71 45).toInt ≤ 1600 := hty.1 71 45
        clear hty
        refine r_iload_n C (j := 1) (oDec_at oX12_book 96 rfl) rfl rfl ?_
        refine r_aload_n C (j := 0) (oDec_at oX12_book 97 rfl) rfl rfl ?_
        obtain ⟨v113, ev113⟩ : ∃ z : Int32, (t).1 71 45 = z := ⟨_, rfl⟩
        have gv113 : (t.1 71 45).toInt = v113.toInt := congrArg Int32.toInt (ev113)
        refine r_geti (k := 45) (lo := 0) (hi := 1600) C v113 oCl12 rfl (by decide) flX12_234 rfl rfl (ev113) rfl rfl (oDec_at oX12_book 98 rfl) (fun b114 b114h => ?_)
        refine r_icmp_ge C 191 (oDec_at oX12_book 99 rfl) (by decide) (fun cd115 => ?_) (fun cd115 => ?_)
        · skip
          have lk116 : ((t).1 71 45).toInt = v113.toInt := congrArg Int32.toInt (ev113)
          refine r_ty C (fun hty => ?_)
          have hmD : ∀ i : Nat, (0 : Int) ≤ ((t).1 104 i).toInt ∧ ((t).1 104 i).toInt ≤ 12 := fun i => hty.1 104 i
          have hmD2 := hmD 2
          have hmD3 := hmD 3
          clear hty
          have hq117 : oBI (t) := oBI_of iv0 iv1 iv2 iv3 (by omega) (by omega) hmD
          refine r_aload_n C (j := 0) (oDec_at oX12_book 112 rfl) rfl rfl ?_
          refine r_iconst C (oDec_at oX12_book 113 rfl) (v := k0) (by rw [qk0]; rfl) ?_
          refine r_puti (k := 69) (lo := 0) (hi := 1) C oCl12 rfl (by decide) flX12_270 rfl rfl rfl rfl rfl (n_bool (by omega)) (n_fitz (by omega)) rfl ⟨by omega, by omega⟩ (oDec_at oX12_book 114 rfl) ?_
          refine r_aload_n C (j := 0) (oDec_at oX12_book 115 rfl) rfl rfl ?_
          obtain ⟨v118, ev118⟩ : ∃ z : Int32, ((pI t 71 69 k0)).1 71 37 = z := ⟨_, rfl⟩
          have gv118 : (t.1 71 37).toInt = v118.toInt := congrArg Int32.toInt (((pI_ne (a := 71) (b := 37) (c := 71) (k := 69) _ _ (Or.inr (by decide)))).symm.trans ev118)
          have ggv118 : (((pI t 71 69 k0)).1 71 37).toInt = v118.toInt := congrArg Int32.toInt ev118
          refine r_geti (k := 37) (lo := 0) (hi := 60) C v118 oCl12 rfl (by decide) flX12_231 rfl rfl (ev118) rfl rfl (oDec_at oX12_book 116 rfl) (fun b119 b119h => ?_)
          have lk120 : (((pI t 71 69 k0)).1 71 1).toInt = (t.1 71 1).toInt := congrArg Int32.toInt ((pI_ne (a := 71) (b := 1) (c := 71) (k := 69) _ _ (Or.inr (by decide))))
          have lk121 : (((pI t 71 69 k0)).1 71 7).toInt = (t.1 71 7).toInt := congrArg Int32.toInt ((pI_ne (a := 71) (b := 7) (c := 71) (k := 69) _ _ (Or.inr (by decide))))
          have lk122 : (((pI t 71 69 k0)).1 71 8).toInt = (t.1 71 8).toInt := congrArg Int32.toInt ((pI_ne (a := 71) (b := 8) (c := 71) (k := 69) _ _ (Or.inr (by decide))))
          exact r_iret C (oDec_at oX12_book 117 rfl) ⟨_, rfl, ⟨(oBI_fr (oFr_oneI (q := 12) (m := 69) rfl (by rfl)) rfl hq117), by omega, by omega, by omega, by omega, (oqNE_fr (oFr_oneI (q := 12) (m := 69) rfl (by rfl)) rfl iv7)⟩⟩
        · skip
          refine r_aload_n C (j := 0) (oDec_at oX12_book 100 rfl) rfl rfl ?_
          refine r_getF (k := 44) (b := 102) C oCl12 rfl (by decide) flX12_108 rfl rfl rfl (oDec_at oX12_book 101 rfl) ?_
          refine r_iload_n C (j := 1) (oDec_at oX12_book 102 rfl) rfl rfl ?_
          refine r_aload_n C (j := 0) (oDec_at oX12_book 103 rfl) rfl rfl ?_
          refine r_getF (k := 44) (b := 102) C oCl12 rfl (by decide) flX12_108 rfl rfl rfl (oDec_at oX12_book 104 rfl) ?_
          refine r_sipush C (oDec_at oX12_book 105 rfl) (v := k1600) (by rw [qk1600]; rfl) ?_
          refine r_pc C 181 rfl ?_
          refine r_iload_n C (j := 1) (oDec_at oX12_book 106 rfl) rfl rfl ?_
          obtain ⟨v123, ev123⟩ : ∃ z : Int32, z = k1600 + x1 := ⟨_, rfl⟩
          have hv123 : v123.toInt = k1600.toInt + x1.toInt := n_add ev123 (by omega) (by omega)
          refine r_iadd C v123 (oDec_at oX12_book 107 rfl) ev123 ?_
          obtain ⟨v125, ev125⟩ : ∃ z : Int32, (t).1 102 v123.toNatClampNeg = z := ⟨_, rfl⟩
          have gv125 : (t.1 102 v123.toNatClampNeg).toInt = v125.toInt := congrArg Int32.toInt (ev125)
          have rv125 := n_rng v125
          refine r_iald (n := 3200) (lo := (-2147483648)) (hi := 2147483647) C v125 rfl (by decide) rfl rfl ⟨by omega, by omega⟩ (by decide) ev125 rfl rfl (oDec_at oX12_book 108 rfl) (fun _ _ => ?_)
          have hq1 := oIxA 1600 (i := v123) (x := x1) ev125 (by omega) (by omega)
          refine r_iast (n := 3200) (lo := (-2147483648)) (hi := 2147483647) C rfl (by decide) rfl rfl ⟨by omega, by omega⟩ (by decide) rfl rfl rfl rfl (n_rng _) (oDec_at oX12_book 109 rfl) ?_
          have hq126 : oBD ((pI t 102 x1.toNatClampNeg v125)) := oBD_cd iv0 (by omega)
          obtain ⟨v127, ev127⟩ : ∃ z : Int32, x1 + Int32.ofInt 1 = z := ⟨_, rfl⟩
          have hv127 : v127.toInt = x1.toInt + 1 := n_inc ev127 (by decide) (by omega) (by omega)
          refine r_iinc C (j := 1) (lv' := [(0, .ref (oad E 71)), (1, .int v127)]) v127 [1, 0] (oDec_at oX12_book 110 rfl) rfl ev127 (by decide) rfl ?_
          refine r_goto C (tgt := 161) (oDec_at oX12_book 111 rfl) (by decide) ?_
          have lk128 : (((pI t 102 x1.toNatClampNeg v125)).1 71 45).toInt = v113.toInt := congrArg Int32.toInt (((pI_ne (a := 71) (b := 45) (c := 102) _ _ (Or.inl (by decide)))).trans (ev113))
          have lk129 : (((pI t 102 x1.toNatClampNeg v125)).1 71 1).toInt = (t.1 71 1).toInt := congrArg Int32.toInt ((pI_ne (a := 71) (b := 1) (c := 102) _ _ (Or.inl (by decide))))
          have lk130 : (((pI t 102 x1.toNatClampNeg v125)).1 71 37).toInt = (t.1 71 37).toInt := congrArg Int32.toInt ((pI_ne (a := 71) (b := 37) (c := 102) _ _ (Or.inl (by decide))))
          have lk131 : (((pI t 102 x1.toNatClampNeg v125)).1 71 7).toInt = (t.1 71 7).toInt := congrArg Int32.toInt ((pI_ne (a := 71) (b := 7) (c := 102) _ _ (Or.inl (by decide))))
          have lk132 : (((pI t 102 x1.toNatClampNeg v125)).1 71 8).toInt = (t.1 71 8).toInt := congrArg Int32.toInt ((pI_ne (a := 71) (b := 8) (c := 102) _ _ (Or.inl (by decide))))
          exact (ih (n - 1) (by omega)).2.2.2 ((pI t 102 x1.toNatClampNeg v125)) v127  hq126 (oM2_fr (oFr_oneI (q := 78) (m := 9999) rfl (by rfl)) rfl iv1) (oCg_fr (oFr_oneI (q := 78) (m := 9999) rfl (by rfl)) rfl iv2) (by first | exact oCc_step (x := x1) (y := v127) iv3 (by omega) (by omega) (by assumption) | exact oCc_0 (by omega)) (by omega) (by omega) (by omega) (oqNE_fr (oFr_oneI (q := 78) (m := 9999) rfl (by rfl)) rfl iv7) (by omega)
  refine r_aload_n C (j := 0) (oDec_at oX12_book 0 rfl) rfl rfl ?_
  refine r_callVv C oCl12 rfl miX12_begins mlX12_252 (ct4_X12_begins l E (s)  ) (by decide) rfl rfl rfl (Nat.le_of_ble_eq_true rfl) (oDec_at oX12_book 1 rfl) (fun u133 pu133 fu133 => ?_)
  try dsimp only at pu133
  obtain ⟨pu133_0, pu133_1, pu133_2, pu133_3, pu133_4, pu133_5, pu133_6, pu133_7⟩ := pu133
  refine r_aload_n C (j := 0) (oDec_at oX12_book 2 rfl) rfl rfl ?_
  refine r_getF (k := 49) (b := 104) C oCl12 rfl (by decide) flX12_114 rfl rfl rfl (oDec_at oX12_book 3 rfl) ?_
  refine r_iconst C (oDec_at oX12_book 4 rfl) (v := k2) (by rw [qk2]; rfl) ?_
  refine r_iconst C (oDec_at oX12_book 5 rfl) (v := k0) (by rw [qk0]; rfl) ?_
  refine r_pc C 10 rfl ?_
  refine r_iast (n := 4) (lo := 0) (hi := 12) C rfl (by decide) rfl rfl ⟨by omega, by omega⟩ (by decide) rfl rfl rfl rfl ⟨by omega, by omega⟩ (oDec_at oX12_book 6 rfl) ?_
  have hc2a := oMny23 (s := u133) (i := k2) (z := k0)
  have hq135 : oqNE M0 N0 ((pI u133 104 k2.toNatClampNeg k0)) := oqNE_many (oqNE_fr fu133 rfl hp4) (by omega)
  refine r_aload_n C (j := 0) (oDec_at oX12_book 7 rfl) rfl rfl ?_
  refine r_getF (k := 49) (b := 104) C oCl12 rfl (by decide) flX12_114 rfl rfl rfl (oDec_at oX12_book 8 rfl) ?_
  refine r_iconst C (oDec_at oX12_book 9 rfl) (v := k3) (by rw [qk3]; rfl) ?_
  refine r_iconst C (oDec_at oX12_book 10 rfl) (v := k0) (by rw [qk0]; rfl) ?_
  refine r_iast (n := 4) (lo := 0) (hi := 12) C rfl (by decide) rfl rfl ⟨by omega, by omega⟩ (by decide) rfl rfl rfl rfl ⟨by omega, by omega⟩ (oDec_at oX12_book 11 rfl) ?_
  refine r_pc C 18 rfl ?_
  have hc3 := oMny3 (s := (pI u133 104 k2.toNatClampNeg k0)) (i := k3) (z := k0)
  have hc2b := oMny23 (s := (pI u133 104 k2.toNatClampNeg k0)) (i := k3) (z := k0)
  have hq136 : oBB ((pI (pI u133 104 k2.toNatClampNeg k0) 104 k3.toNatClampNeg k0)) := oBB_init (oBI_fr fu133 rfl hp0) ek2 ek3 ek0 ek0
  have hq137 : oqNE M0 N0 ((pI (pI u133 104 k2.toNatClampNeg k0) 104 k3.toNatClampNeg k0)) := oqNE_many hq135 (by omega)
  refine r_aload_n C (j := 0) (oDec_at oX12_book 12 rfl) rfl rfl ?_
  refine r_iconst C (oDec_at oX12_book 13 rfl) (v := k4) (by rw [qk4]; rfl) ?_
  refine r_puti (k := 54) (lo := (-2147483648)) (hi := 2147483647) C oCl12 rfl (by decide) flX12_344 rfl rfl rfl rfl rfl rfl rfl rfl (n_rng _) (oDec_at oX12_book 14 rfl) ?_
  have lk138 : (((pI (pI (pI u133 104 k2.toNatClampNeg k0) 104 k3.toNatClampNeg k0) 71 54 k4)).1 71 5).toInt = (u133.1 71 5).toInt := congrArg Int32.toInt (((pI_ne (a := 71) (b := 5) (c := 71) (k := 54) _ _ (Or.inr (by decide)))).trans (((pI_ne (a := 71) (b := 5) (c := 104) _ _ (Or.inl (by decide)))).trans ((pI_ne (a := 71) (b := 5) (c := 104) _ _ (Or.inl (by decide))))))
  have lk139 : (((pI (pI (pI u133 104 k2.toNatClampNeg k0) 104 k3.toNatClampNeg k0) 71 54 k4)).1 71 45).toInt = (u133.1 71 45).toInt := congrArg Int32.toInt (((pI_ne (a := 71) (b := 45) (c := 71) (k := 54) _ _ (Or.inr (by decide)))).trans (((pI_ne (a := 71) (b := 45) (c := 104) _ _ (Or.inl (by decide)))).trans ((pI_ne (a := 71) (b := 45) (c := 104) _ _ (Or.inl (by decide))))))
  have lk140 : (((pI (pI (pI u133 104 k2.toNatClampNeg k0) 104 k3.toNatClampNeg k0) 71 54 k4)).1 71 2).toInt = (u133.1 71 2).toInt := congrArg Int32.toInt (((pI_ne (a := 71) (b := 2) (c := 71) (k := 54) _ _ (Or.inr (by decide)))).trans (((pI_ne (a := 71) (b := 2) (c := 104) _ _ (Or.inl (by decide)))).trans ((pI_ne (a := 71) (b := 2) (c := 104) _ _ (Or.inl (by decide))))))
  have lk141 : (((pI (pI (pI u133 104 k2.toNatClampNeg k0) 104 k3.toNatClampNeg k0) 71 54 k4)).1 71 5).toInt = (u133.1 71 5).toInt := congrArg Int32.toInt (((pI_ne (a := 71) (b := 5) (c := 71) (k := 54) _ _ (Or.inr (by decide)))).trans (((pI_ne (a := 71) (b := 5) (c := 104) _ _ (Or.inl (by decide)))).trans ((pI_ne (a := 71) (b := 5) (c := 104) _ _ (Or.inl (by decide))))))
  have lk142 : (((pI (pI (pI u133 104 k2.toNatClampNeg k0) 104 k3.toNatClampNeg k0) 71 54 k4)).1 71 54).toInt = k4.toInt := congrArg Int32.toInt ((pI_self _ _ _ _))
  have lc143 : (((pI (pI (pI u133 104 k2.toNatClampNeg k0) 104 k3.toNatClampNeg k0) 71 54 k4)).1 104 3).toInt = (((pI (pI u133 104 k2.toNatClampNeg k0) 104 k3.toNatClampNeg k0)).1 104 3).toInt := congrArg Int32.toInt ((pI_ne (a := 104) (b := 3) (c := 71) _ _ (Or.inl (by decide))))
  have lk144 : (((pI (pI (pI u133 104 k2.toNatClampNeg k0) 104 k3.toNatClampNeg k0) 71 54 k4)).1 71 1).toInt = (u133.1 71 1).toInt := congrArg Int32.toInt (((pI_ne (a := 71) (b := 1) (c := 71) (k := 54) _ _ (Or.inr (by decide)))).trans (((pI_ne (a := 71) (b := 1) (c := 104) _ _ (Or.inl (by decide)))).trans ((pI_ne (a := 71) (b := 1) (c := 104) _ _ (Or.inl (by decide))))))
  have lc145 : (((pI (pI (pI u133 104 k2.toNatClampNeg k0) 104 k3.toNatClampNeg k0) 71 54 k4)).1 104 2).toInt = (((pI (pI u133 104 k2.toNatClampNeg k0) 104 k3.toNatClampNeg k0)).1 104 2).toInt := congrArg Int32.toInt ((pI_ne (a := 104) (b := 2) (c := 71) _ _ (Or.inl (by decide))))
  have lk146 : (((pI (pI (pI u133 104 k2.toNatClampNeg k0) 104 k3.toNatClampNeg k0) 71 54 k4)).1 71 3).toInt = (u133.1 71 3).toInt := congrArg Int32.toInt (((pI_ne (a := 71) (b := 3) (c := 71) (k := 54) _ _ (Or.inr (by decide)))).trans (((pI_ne (a := 71) (b := 3) (c := 104) _ _ (Or.inl (by decide)))).trans ((pI_ne (a := 71) (b := 3) (c := 104) _ _ (Or.inl (by decide))))))
  have lk147 : (((pI (pI (pI u133 104 k2.toNatClampNeg k0) 104 k3.toNatClampNeg k0) 71 54 k4)).1 71 6).toInt = (u133.1 71 6).toInt := congrArg Int32.toInt (((pI_ne (a := 71) (b := 6) (c := 71) (k := 54) _ _ (Or.inr (by decide)))).trans (((pI_ne (a := 71) (b := 6) (c := 104) _ _ (Or.inl (by decide)))).trans ((pI_ne (a := 71) (b := 6) (c := 104) _ _ (Or.inl (by decide))))))
  have lk148 : (((pI (pI (pI u133 104 k2.toNatClampNeg k0) 104 k3.toNatClampNeg k0) 71 54 k4)).1 71 4).toInt = (u133.1 71 4).toInt := congrArg Int32.toInt (((pI_ne (a := 71) (b := 4) (c := 71) (k := 54) _ _ (Or.inr (by decide)))).trans (((pI_ne (a := 71) (b := 4) (c := 104) _ _ (Or.inl (by decide)))).trans ((pI_ne (a := 71) (b := 4) (c := 104) _ _ (Or.inl (by decide))))))
  have lk149 : (((pI (pI (pI u133 104 k2.toNatClampNeg k0) 104 k3.toNatClampNeg k0) 71 54 k4)).1 71 2).toInt = (u133.1 71 2).toInt := congrArg Int32.toInt (((pI_ne (a := 71) (b := 2) (c := 71) (k := 54) _ _ (Or.inr (by decide)))).trans (((pI_ne (a := 71) (b := 2) (c := 104) _ _ (Or.inl (by decide)))).trans ((pI_ne (a := 71) (b := 2) (c := 104) _ _ (Or.inl (by decide))))))
  have lk150 : (((pI (pI (pI u133 104 k2.toNatClampNeg k0) 104 k3.toNatClampNeg k0) 71 54 k4)).1 71 37).toInt = (u133.1 71 37).toInt := congrArg Int32.toInt (((pI_ne (a := 71) (b := 37) (c := 71) (k := 54) _ _ (Or.inr (by decide)))).trans (((pI_ne (a := 71) (b := 37) (c := 104) _ _ (Or.inl (by decide)))).trans ((pI_ne (a := 71) (b := 37) (c := 104) _ _ (Or.inl (by decide))))))
  have hj := oB1_f (((pI (pI (pI u133 104 k2.toNatClampNeg k0) 104 k3.toNatClampNeg k0) 71 54 k4)).1 71 5)
  exact (key (10000 + 2 * (61 - (((pI (pI (pI u133 104 k2.toNatClampNeg k0) 104 k3.toNatClampNeg k0) 71 54 k4)).1 71 37).toInt) + oB1 (((pI (pI (pI u133 104 k2.toNatClampNeg k0) 104 k3.toNatClampNeg k0) 71 54 k4)).1 71 5)).toNat).1 ((pI (pI (pI u133 104 k2.toNatClampNeg k0) 104 k3.toNatClampNeg k0) 71 54 k4))   (oBB_fr (oFr_oneI (q := 12) (m := 54) rfl (by rfl)) rfl hq136) (by omega) (by omega) (by omega) (by omega) (by first | exact (by assumption) | exact oqZ_of (oqY_fr (oFr_oneI (q := 12) (m := 54) rfl (by rfl)) rfl (oqY_fr (oFr_oneI (q := 80) (m := 9999) rfl (by rfl)) rfl (oqY_fr (oFr_oneI (q := 80) (m := 9999) rfl (by rfl)) rfl (oqY_fr fu133 rfl hp2)))) (by omega)) (oqWd_fr (oFr_oneI (q := 12) (m := 54) rfl (by rfl)) rfl (oqWd_fr (oFr_oneI (q := 80) (m := 9999) rfl (by rfl)) rfl (oqWd_fr (oFr_oneI (q := 80) (m := 9999) rfl (by rfl)) rfl (oqWd_fr fu133 rfl hp3)))) (by omega) (by first | exact oqRS_nx hBu (by omega) hRM (by first | exact pu133_4 | omega) (by first | exact pu133_5 | omega) (by first | exact pu133_6 | omega) pu133_7 (by omega) | exact oqRS_0 (by omega) (by omega) (by omega) (by omega) (by omega) (by omega) (by omega)) (oqNE_fr (oFr_oneI (q := 12) (m := 54) rfl (by rfl)) rfl hq137) (by omega)
