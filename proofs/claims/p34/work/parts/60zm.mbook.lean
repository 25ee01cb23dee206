set_option maxHeartbeats 4000000 in
set_option maxRecDepth 100000 in
theorem ct7_X12_book (l : Launch) (E : oE) (s : oS)  (g : Int → Int) (nn : Int) (hp0 : oBI s) (hp1 : (s.1 71 1).toInt = nn) (hp2 : oqY g nn s) (hp3 : oqWd s) : oMet l 12 yX12_book cX12_book 2 (some .int) [(12, 1), (12, 2), (12, 3), (12, 4), (12, 5), (12, 6), (12, 7), (12, 8), (12, 9), (12, 36), (12, 37), (12, 45), (12, 47), (12, 48), (12, 53), (12, 54), (12, 55), (12, 56), (12, 69), (78, 9999), (79, 9999), (80, 9999), (81, 9999), (82, 9999), (83, 9999)] E s [.ref (oad E 71)] (oPi (fun r u => (oBI u) ∧ ((u.1 71 1).toInt = 0) ∧ (r.toInt = oqB1 g) ∧ ((u.1 71 7).toInt = oqB2 g) ∧ ((u.1 71 8).toInt = oqB3 g))) := by
  refine oMet.of (lv := [(0, .ref (oad E 71))]) (by decide +kernel) (Nat.le_of_ble_eq_true rfl) rfl (fun J C hT => ?_)
  have C : oC l 12 cX12_book RX12 2 (some .int) [(12, 1), (12, 2), (12, 3), (12, 4), (12, 5), (12, 6), (12, 7), (12, 8), (12, 9), (12, 36), (12, 37), (12, 45), (12, 47), (12, 48), (12, 53), (12, 54), (12, 55), (12, 56), (12, 69), (78, 9999), (79, 9999), (80, 9999), (81, 9999), (82, 9999), (83, 9999)] E s (oPi (fun r u => (oBI u) ∧ ((u.1 71 1).toInt = 0) ∧ (r.toInt = oqB1 g) ∧ ((u.1 71 7).toInt = oqB2 g) ∧ ((u.1 71 8).toInt = oqB3 g))) J := C
  obtain ⟨km1, qkm1⟩ : ∃ z : Int32, z = (-1) := ⟨_, rfl⟩
  have ekm1 : km1.toInt = (-1) := by rw [qkm1]; rfl
  obtain ⟨k0, qk0⟩ : ∃ z : Int32, z = 0 := ⟨_, rfl⟩
  have ek0 : k0.toInt = 0 := by rw [qk0]; rfl
  obtain ⟨k1, qk1⟩ : ∃ z : Int32, z = 1 := ⟨_, rfl⟩
  have ek1 : k1.toInt = 1 := by rw [qk1]; rfl
  obtain ⟨k2, qk2⟩ : ∃ z : Int32, z = 2 := ⟨_, rfl⟩
  have ek2 : k2.toInt = 2 := by rw [qk2]; rfl
  obtain ⟨k3, qk3⟩ : ∃ z : Int32, z = 3 := ⟨_, rfl⟩
  have ek3 : k3.toInt = 3 := by rw [qk3]; rfl
  obtain ⟨k4, qk4⟩ : ∃ z : Int32, z = 4 := ⟨_, rfl⟩
  have ek4 : k4.toInt = 4 := by rw [qk4]; rfl
  obtain ⟨k6, qk6⟩ : ∃ z : Int32, z = 6 := ⟨_, rfl⟩
  have ek6 : k6.toInt = 6 := by rw [qk6]; rfl
  obtain ⟨k24, qk24⟩ : ∃ z : Int32, z = 24 := ⟨_, rfl⟩
  have ek24 : k24.toInt = 24 := by rw [qk24]; rfl
  obtain ⟨k1600, qk1600⟩ : ∃ z : Int32, z = 1600 := ⟨_, rfl⟩
  have ek1600 : k1600.toInt = 1600 := by rw [qk1600]; rfl
  have key : ∀ n : Nat, (∀ (t : oS), (oBB t) → ((t.1 71 5).toInt = 0 → (t.1 71 45).toInt ≤ (t.1 71 2).toInt) → ((t.1 71 5).toInt = 0 → (2 ≤ (t.1 71 54).toInt ∧ (t.1 71 54).toInt ≤ 12)) → ((t.1 104 3).toInt ≤ 6) → ((t.1 71 1).toInt = 0) → (oqZ g t) → (oqWd t) → ((t.1 104 2).toInt = (t.1 104 2).toInt ∧ (t.1 71 3).toInt = (t.1 71 3).toInt ∧ (t.1 71 6).toInt = (t.1 71 6).toInt ∧ (t.1 71 4).toInt = (t.1 71 4).toInt ∧ (t.1 71 2).toInt = (t.1 71 2).toInt) → (oqRS g t) → 10000 + 2 * (61 - (t.1 71 37).toInt) + oB1 (t.1 71 5) ≤ (n : Int) → J t 23 [(0, .ref (oad E 71))] []) ∧ (∀ (t : oS) (x1 : Int32), (oBD t) → (oM2 t) → (oCf x1 t) → (0 ≤ x1.toInt ∧ x1.toInt ≤ 24) → ((t.1 71 1).toInt = 0) → (oqB1 g = (t.1 71 37).toInt ∧ (t.1 71 7).toInt = oqB2 g ∧ (t.1 71 8).toInt = oqB3 g) → 5000 - x1.toInt ≤ (n : Int) → J t 88 [(0, .ref (oad E 71)), (1, .int x1)] []) ∧ (∀ (t : oS) (x1 : Int32), (oBD t) → (oM2 t) → (oCg t) → (0 ≤ x1.toInt ∧ x1.toInt ≤ 6) → ((t.1 71 1).toInt = 0) → (oqB1 g = (t.1 71 37).toInt ∧ (t.1 71 7).toInt = oqB2 g ∧ (t.1 71 8).toInt = oqB3 g) → 4000 - x1.toInt ≤ (n : Int) → J t 132 [(0, .ref (oad E 71)), (1, .int x1)] []) ∧ (∀ (t : oS) (x1 : Int32), (oBD t) → (oM2 t) → (oCg t) → (oCc x1 t) → (0 ≤ x1.toInt ∧ x1.toInt ≤ (t.1 71 45).toInt) → ((t.1 71 1).toInt = 0) → (oqB1 g = (t.1 71 37).toInt ∧ (t.1 71 7).toInt = oqB2 g ∧ (t.1 71 8).toInt = oqB3 g) → 2000 - x1.toInt ≤ (n : Int) → J t 161 [(0, .ref (oad E 71)), (1, .int x1)] []) := by
    intro n
    induction n using Nat.strongRecOn with
    | _ n ih =>
      refine ⟨?_, ?_, ?_, ?_⟩
      · intro t   iv0 iv1 iv2 iv3 iv4 iv5 iv6 iv7 iv8 hmu
        have hjn := oB1_nn (t.1 71 5)
        refine r_ty C (fun hty => ?_)
        have hty_statements : (0 : Int) ≤ ((t).1 71 37).toInt ∧ ((t).1 71 37).toInt ≤ 60 := hty.1 71 37
        have hty_at : (0 : Int) ≤ ((t).1 71 2).toInt ∧ ((t).1 71 2).toInt ≤ 1600 := hty.1 71 2
        have hty_coded : (0 : Int) ≤ ((t).1 71 45).toInt ∧ ((t).1 71 45).toInt ≤ 1600 := hty.1 71 45
        clear hty
        refine r_aload_n C (j := 0) (oDec_at oX12_book 15 rfl) rfl rfl ?_
        obtain ⟨v1, ev1⟩ : ∃ z : Int32, (t).1 71 5 = z := ⟨_, rfl⟩
        have gv1 : (t.1 71 5).toInt = v1.toInt := congrArg Int32.toInt (ev1)
        have rv1 := n_rng v1
        refine r_geti (k := 5) (lo := (-2147483648)) (hi := 2147483647) C v1 oCl12 rfl (by decide) flX12_173 rfl rfl (ev1) rfl rfl (oDec_at oX12_book 16 rfl) (fun _ _ => ?_)
        refine r_if_ne C 45 (oDec_at oX12_book 17 rfl) (by decide) (fun cd2 => ?_) (fun cd2 => ?_)
        · skip
          have lk3 : ((t).1 71 5).toInt = v1.toInt := congrArg Int32.toInt (ev1)
          have hR : (((t).1 71 5).toInt = 0 ∧ oqB1 g = ((t).1 71 37).toInt ∧ oqB2 g = 0 ∧ oqB3 g = -1 ∧ ((t).1 71 6).toInt = -1) ∨ (((t).1 71 5).toInt ≠ 0 ∧ oqB1 g = -1 ∧ oqB2 g = ((t).1 71 5).toInt ∧ oqB3 g = ((t).1 71 6).toInt) := by first | (right; have h9 := oqRS_bad iv8 (by omega); omega) | (left; have h9 := oqBu_end hBu (by omega); omega)
          refine r_aload_n C (j := 0) (oDec_at oX12_book 25 rfl) rfl rfl ?_
          have lk4 : ((t).1 71 5).toInt = v1.toInt := congrArg Int32.toInt (ev1)
          refine r_callVi C oCl12 rfl miX12_isTaken mlX12_258 (ct4_X12_isTaken l E (t)  ) (by decide) rfl rfl rfl (Nat.le_of_ble_eq_true rfl) (oDec_at oX12_book 26 rfl) (fun r6 u5 pu5 fu5 => ?_)
          try dsimp only at pu5
          try simp only [lk4] at pu5
          obtain ⟨pu5_0, pu5_1, pu5_2⟩ := pu5
          have lu7 : ((u5).1 71 5).toInt = v1.toInt := congrArg Int32.toInt (((fu5 71 5 rfl).1).trans (ev1))
          have rr6 := n_rng r6
          refine r_if_ne C 54 (oDec_at oX12_book 27 rfl) (by decide) (fun cd8 => ?_) (fun cd8 => ?_)
          · skip
            have lk9 : ((u5).1 71 5).toInt = v1.toInt := congrArg Int32.toInt (((fu5 71 5 rfl).1).trans (ev1))
            have lk10 : ((u5).1 71 54).toInt = (t.1 71 54).toInt := congrArg Int32.toInt ((fu5 71 54 rfl).1)
            have lk11 : ((u5).1 71 45).toInt = (t.1 71 45).toInt := congrArg Int32.toInt ((fu5 71 45 rfl).1)
            have lk12 : ((u5).1 71 2).toInt = (t.1 71 2).toInt := congrArg Int32.toInt ((fu5 71 2 rfl).1)
            have hq13 : oBD (u5) := oBB_BD (oBB_fr fu5 rfl iv0) (by omega)
            refine r_aload_n C (j := 0) (oDec_at oX12_book 30 rfl) rfl rfl ?_
            refine r_getF (k := 49) (b := 104) C oCl12 rfl (by decide) flX12_114 rfl rfl rfl (oDec_at oX12_book 31 rfl) ?_
            refine r_iconst C (oDec_at oX12_book 32 rfl) (v := k0) (by rw [qk0]; rfl) ?_
            refine r_aload_n C (j := 0) (oDec_at oX12_book 33 rfl) rfl rfl ?_
            refine r_getF (k := 49) (b := 104) C oCl12 rfl (by decide) flX12_114 rfl rfl rfl (oDec_at oX12_book 34 rfl) ?_
            refine r_iconst C (oDec_at oX12_book 35 rfl) (v := k2) (by rw [qk2]; rfl) ?_
            refine r_pc C 64 rfl ?_
            obtain ⟨v15, ev15⟩ : ∃ z : Int32, (u5).1 104 k2.toNatClampNeg = z := ⟨_, rfl⟩
            have av15 : t.1 104 k2.toNatClampNeg = v15 := ((fu5 104 k2.toNatClampNeg rfl).1).symm.trans ev15
            have gv15 : (t.1 104 k2.toNatClampNeg).toInt = v15.toInt := congrArg Int32.toInt (((fu5 104 k2.toNatClampNeg rfl).1).symm.trans ev15)
            refine r_iald (n := 4) (lo := 0) (hi := 12) C v15 rfl (by decide) rfl rfl ⟨by omega, by omega⟩ (by decide) ev15 rfl rfl (oDec_at oX12_book 36 rfl) (fun b14 b14h => ?_)
            refine r_iast (n := 4) (lo := 0) (hi := 12) C rfl (by decide) rfl rfl ⟨by omega, by omega⟩ (by decide) rfl rfl rfl rfl ⟨by omega, by omega⟩ (oDec_at oX12_book 37 rfl) ?_
            refine r_aload_n C (j := 0) (oDec_at oX12_book 38 rfl) rfl rfl ?_
            refine r_getF (k := 49) (b := 104) C oCl12 rfl (by decide) flX12_114 rfl rfl rfl (oDec_at oX12_book 39 rfl) ?_
            refine r_iconst C (oDec_at oX12_book 40 rfl) (v := k1) (by rw [qk1]; rfl) ?_
            refine r_aload_n C (j := 0) (oDec_at oX12_book 41 rfl) rfl rfl ?_
            refine r_pc C 72 rfl ?_
            refine r_getF (k := 49) (b := 104) C oCl12 rfl (by decide) flX12_114 rfl rfl rfl (oDec_at oX12_book 42 rfl) ?_
            refine r_iconst C (oDec_at oX12_book 43 rfl) (v := k3) (by rw [qk3]; rfl) ?_
            obtain ⟨v17, ev17⟩ : ∃ z : Int32, ((pI u5 104 k0.toNatClampNeg v15)).1 104 k3.toNatClampNeg = z := ⟨_, rfl⟩
            have gv17 : (((pI u5 104 k0.toNatClampNeg v15)).1 104 k3.toNatClampNeg).toInt = v17.toInt := congrArg Int32.toInt (ev17)
            refine r_iald (n := 4) (lo := 0) (hi := 12) C v17 rfl (by decide) rfl rfl ⟨by omega, by omega⟩ (by decide) ev17 rfl rfl (oDec_at oX12_book 44 rfl) (fun b16 b16h => ?_)
            refine r_iast (n := 4) (lo := 0) (hi := 12) C rfl (by decide) rfl rfl ⟨by omega, by omega⟩ (by decide) rfl rfl rfl rfl ⟨by omega, by omega⟩ (oDec_at oX12_book 45 rfl) ?_
            have hq18 : oM2 ((pI (pI u5 104 k0.toNatClampNeg v15) 104 k1.toNatClampNeg v17)) := oM2_put (by assumption) (by assumption) ek0 ek1 ek2 ek3
            have hq19 : oBD ((pI (pI u5 104 k0.toNatClampNeg v15) 104 k1.toNatClampNeg v17)) := oBD_m2 hq13 ek0 ek1
            refine r_aload_n C (j := 0) (oDec_at oX12_book 46 rfl) rfl rfl ?_
            refine r_aload_n C (j := 0) (oDec_at oX12_book 47 rfl) rfl rfl ?_
            refine r_pc C 80 rfl ?_
            obtain ⟨v20, ev20⟩ : ∃ z : Int32, ((pI (pI u5 104 k0.toNatClampNeg v15) 104 k1.toNatClampNeg v17)).1 71 54 = z := ⟨_, rfl⟩
            have gv20 : (t.1 71 54).toInt = v20.toInt := congrArg Int32.toInt ((((pI_ne (a := 71) (b := 54) (c := 104) _ _ (Or.inl (by decide)))).trans (((pI_ne (a := 71) (b := 54) (c := 104) _ _ (Or.inl (by decide)))).trans ((fu5 71 54 rfl).1))).symm.trans ev20)
            have ggv20 : (((pI (pI u5 104 k0.toNatClampNeg v15) 104 k1.toNatClampNeg v17)).1 71 54).toInt = v20.toInt := congrArg Int32.toInt ev20
            have rv20 := n_rng v20
            refine r_geti (k := 54) (lo := (-2147483648)) (hi := 2147483647) C v20 oCl12 rfl (by decide) flX12_344 rfl rfl (ev20) rfl rfl (oDec_at oX12_book 48 rfl) (fun _ _ => ?_)
            refine r_puti (k := 53) (lo := 2) (hi := 12) C oCl12 rfl (by decide) flX12_127 rfl rfl rfl rfl rfl rfl rfl rfl ⟨by omega, by omega⟩ (oDec_at oX12_book 49 rfl) ?_
            refine r_iconst C (oDec_at oX12_book 50 rfl) (v := k0) (by rw [qk0]; rfl) ?_
            refine r_istore_n C (lv' := [(0, .ref (oad E 71)), (1, .int k0)]) [1, 0] (oDec_at oX12_book 51 rfl) rfl (by decide) rfl ?_
            have lk21 : (((pI (pI (pI u5 104 k0.toNatClampNeg v15) 104 k1.toNatClampNeg v17) 71 53 v20)).1 71 1).toInt = (t.1 71 1).toInt := congrArg Int32.toInt (((pI_ne (a := 71) (b := 1) (c := 71) (k := 53) _ _ (Or.inr (by decide)))).trans (((pI_ne (a := 71) (b := 1) (c := 104) _ _ (Or.inl (by decide)))).trans (((pI_ne (a := 71) (b := 1) (c := 104) _ _ (Or.inl (by decide)))).trans ((fu5 71 1 rfl).1))))
            have lk22 : (((pI (pI (pI u5 104 k0.toNatClampNeg v15) 104 k1.toNatClampNeg v17) 71 53 v20)).1 71 37).toInt = (t.1 71 37).toInt := congrArg Int32.toInt (((pI_ne (a := 71) (b := 37) (c := 71) (k := 53) _ _ (Or.inr (by decide)))).trans (((pI_ne (a := 71) (b := 37) (c := 104) _ _ (Or.inl (by decide)))).trans (((pI_ne (a := 71) (b := 37) (c := 104) _ _ (Or.inl (by decide)))).trans ((fu5 71 37 rfl).1))))
            have lk23 : (((pI (pI (pI u5 104 k0.toNatClampNeg v15) 104 k1.toNatClampNeg v17) 71 53 v20)).1 71 7).toInt = (u5.1 71 7).toInt := congrArg Int32.toInt (((pI_ne (a := 71) (b := 7) (c := 71) (k := 53) _ _ (Or.inr (by decide)))).trans (((pI_ne (a := 71) (b := 7) (c := 104) _ _ (Or.inl (by decide)))).trans ((pI_ne (a := 71) (b := 7) (c := 104) _ _ (Or.inl (by decide))))))
            have lk24 : (((pI (pI (pI u5 104 k0.toNatClampNeg v15) 104 k1.toNatClampNeg v17) 71 53 v20)).1 71 8).toInt = (u5.1 71 8).toInt := congrArg Int32.toInt (((pI_ne (a := 71) (b := 8) (c := 71) (k := 53) _ _ (Or.inr (by decide)))).trans (((pI_ne (a := 71) (b := 8) (c := 104) _ _ (Or.inl (by decide)))).trans ((pI_ne (a := 71) (b := 8) (c := 104) _ _ (Or.inl (by decide))))))
            exact (ih (n - 1) (by omega)).2.1 ((pI (pI (pI u5 104 k0.toNatClampNeg v15) 104 k1.toNatClampNeg v17) 71 53 v20)) k0  (oBD_fr (oFr_oneI (q := 12) (m := 53) rfl (by rfl)) rfl hq19) (oM2_fr (oFr_oneI (q := 12) (m := 53) rfl (by rfl)) rfl hq18) (by first | exact oCf_0 (by omega)) (by omega) (by omega) (by omega) (by omega)
          · skip
            refine r_iconst C (oDec_at oX12_book 28 rfl) (v := km1) (by rw [qkm1]; rfl) ?_
            have hq25 : oBI (u5) := oBB_BI (oBB_fr fu5 rfl iv0)
            have lk26 : ((u5).1 71 1).toInt = (t.1 71 1).toInt := congrArg Int32.toInt ((fu5 71 1 rfl).1)
            exact r_iret C (oDec_at oX12_book 29 rfl) ⟨_, rfl, ⟨hq25, by omega, by omega, by omega, by omega⟩⟩
        · skip
          have hj0 := oB1_0 (x := t.1 71 5) (by omega)
          obtain ⟨hb6, R, M, N, hR2, hM3, hNR, hBu, hRM⟩ := oqRS_ok iv8 (by omega)
          have hq27 : oqNR N M (t) := hNR
          refine r_aload_n C (j := 0) (oDec_at oX12_book 18 rfl) rfl rfl ?_
          refine r_callVi C oCl12 rfl miX12_look mlX12_185 (ct4_X12_look l E (t)  (g) ((t.1 71 2).toInt) (by omega) iv5) (by decide) rfl rfl rfl (Nat.le_of_ble_eq_true rfl) (oDec_at oX12_book 19 rfl) (fun r29 u28 pu28 fu28 => ?_)
          try dsimp only at pu28
          obtain ⟨pu28_0, pu28_1, pu28_2, pu28_3, pu28_4, pu28_5⟩ := pu28
          have rr29 := n_rng r29
          refine r_iconst C (oDec_at oX12_book 20 rfl) (v := km1) (by rw [qkm1]; rfl) ?_
          refine r_icmp_eq C 45 (oDec_at oX12_book 21 rfl) (by decide) (fun cd30 => ?_) (fun cd30 => ?_)
          · skip
            have lk31 : ((u28).1 71 5).toInt = v1.toInt := congrArg Int32.toInt (((fu28 71 5 rfl).1).trans (ev1))
            have lk32 : ((u28).1 71 6).toInt = (t.1 71 6).toInt := congrArg Int32.toInt ((fu28 71 6 rfl).1)
            have lk33 : ((u28).1 71 37).toInt = (t.1 71 37).toInt := congrArg Int32.toInt ((fu28 71 37 rfl).1)
            have hR : (((u28).1 71 5).toInt = 0 ∧ oqB1 g = ((u28).1 71 37).toInt ∧ oqB2 g = 0 ∧ oqB3 g = -1 ∧ ((u28).1 71 6).toInt = -1) ∨ (((u28).1 71 5).toInt ≠ 0 ∧ oqB1 g = -1 ∧ oqB2 g = ((u28).1 71 5).toInt ∧ oqB3 g = ((u28).1 71 6).toInt) := by first | (right; have h9 := oqRS_bad iv8 (by omega); omega) | (left; have h9 := oqBu_end hBu (by omega); omega)
            refine r_aload_n C (j := 0) (oDec_at oX12_book 25 rfl) rfl rfl ?_
            have lk34 : ((u28).1 71 5).toInt = v1.toInt := congrArg Int32.toInt (((fu28 71 5 rfl).1).trans (ev1))
            have lk35 : ((u28).1 71 6).toInt = (t.1 71 6).toInt := congrArg Int32.toInt ((fu28 71 6 rfl).1)
            refine r_callVi C oCl12 rfl miX12_isTaken mlX12_258 (ct4_X12_isTaken l E (u28)  ) (by decide) rfl rfl rfl (Nat.le_of_ble_eq_true rfl) (oDec_at oX12_book 26 rfl) (fun r37 u36 pu36 fu36 => ?_)
            try dsimp only at pu36
            try simp only [lk34, lk35] at pu36
            obtain ⟨pu36_0, pu36_1, pu36_2⟩ := pu36
            have lu38 : ((u36).1 71 5).toInt = v1.toInt := congrArg Int32.toInt (((fu36 71 5 rfl).1).trans (((fu28 71 5 rfl).1).trans (ev1)))
            have rr37 := n_rng r37
            refine r_if_ne C 54 (oDec_at oX12_book 27 rfl) (by decide) (fun cd39 => ?_) (fun cd39 => ?_)
            · skip
              have lk40 : ((u36).1 71 5).toInt = v1.toInt := congrArg Int32.toInt (((fu36 71 5 rfl).1).trans (((fu28 71 5 rfl).1).trans (ev1)))
              have lk41 : ((u36).1 71 54).toInt = (t.1 71 54).toInt := congrArg Int32.toInt (((fu36 71 54 rfl).1).trans ((fu28 71 54 rfl).1))
              have lk42 : ((u36).1 71 45).toInt = (t.1 71 45).toInt := congrArg Int32.toInt (((fu36 71 45 rfl).1).trans ((fu28 71 45 rfl).1))
              have lk43 : ((u36).1 71 2).toInt = (u28.1 71 2).toInt := congrArg Int32.toInt ((fu36 71 2 rfl).1)
              have hq44 : oBD (u36) := oBB_BD (oBB_fr fu36 rfl (oBB_fr fu28 rfl iv0)) (by omega)
              refine r_aload_n C (j := 0) (oDec_at oX12_book 30 rfl) rfl rfl ?_
              refine r_getF (k := 49) (b := 104) C oCl12 rfl (by decide) flX12_114 rfl rfl rfl (oDec_at oX12_book 31 rfl) ?_
              refine r_iconst C (oDec_at oX12_book 32 rfl) (v := k0) (by rw [qk0]; rfl) ?_
              refine r_aload_n C (j := 0) (oDec_at oX12_book 33 rfl) rfl rfl ?_
              refine r_getF (k := 49) (b := 104) C oCl12 rfl (by decide) flX12_114 rfl rfl rfl (oDec_at oX12_book 34 rfl) ?_
              refine r_iconst C (oDec_at oX12_book 35 rfl) (v := k2) (by rw [qk2]; rfl) ?_
              refine r_pc C 64 rfl ?_
              obtain ⟨v46, ev46⟩ : ∃ z : Int32, (u36).1 104 k2.toNatClampNeg = z := ⟨_, rfl⟩
              have av46 : t.1 104 k2.toNatClampNeg = v46 := (((fu36 104 k2.toNatClampNeg rfl).1).trans ((fu28 104 k2.toNatClampNeg rfl).1)).symm.trans ev46
              have gv46 : (t.1 104 k2.toNatClampNeg).toInt = v46.toInt := congrArg Int32.toInt ((((fu36 104 k2.toNatClampNeg rfl).1).trans ((fu28 104 k2.toNatClampNeg rfl).1)).symm.trans ev46)
              refine r_iald (n := 4) (lo := 0) (hi := 12) C v46 rfl (by decide) rfl rfl ⟨by omega, by omega⟩ (by decide) ev46 rfl rfl (oDec_at oX12_book 36 rfl) (fun b45 b45h => ?_)
              refine r_iast (n := 4) (lo := 0) (hi := 12) C rfl (by decide) rfl rfl ⟨by omega, by omega⟩ (by decide) rfl rfl rfl rfl ⟨by omega, by omega⟩ (oDec_at oX12_book 37 rfl) ?_
              refine r_aload_n C (j := 0) (oDec_at oX12_book 38 rfl) rfl rfl ?_
              refine r_getF (k := 49) (b := 104) C oCl12 rfl (by decide) flX12_114 rfl rfl rfl (oDec_at oX12_book 39 rfl) ?_
              refine r_iconst C (oDec_at oX12_book 40 rfl) (v := k1) (by rw [qk1]; rfl) ?_
              refine r_aload_n C (j := 0) (oDec_at oX12_book 41 rfl) rfl rfl ?_
              refine r_pc C 72 rfl ?_
              refine r_getF (k := 49) (b := 104) C oCl12 rfl (by decide) flX12_114 rfl rfl rfl (oDec_at oX12_book 42 rfl) ?_
              refine r_iconst C (oDec_at oX12_book 43 rfl) (v := k3) (by rw [qk3]; rfl) ?_
              obtain ⟨v48, ev48⟩ : ∃ z : Int32, ((pI u36 104 k0.toNatClampNeg v46)).1 104 k3.toNatClampNeg = z := ⟨_, rfl⟩
              have gv48 : (((pI u36 104 k0.toNatClampNeg v46)).1 104 k3.toNatClampNeg).toInt = v48.toInt := congrArg Int32.toInt (ev48)
              refine r_iald (n := 4) (lo := 0) (hi := 12) C v48 rfl (by decide) rfl rfl ⟨by omega, by omega⟩ (by decide) ev48 rfl rfl (oDec_at oX12_book 44 rfl) (fun b47 b47h => ?_)
              refine r_iast (n := 4) (lo := 0) (hi := 12) C rfl (by decide) rfl rfl ⟨by omega, by omega⟩ (by decide) rfl rfl rfl rfl ⟨by omega, by omega⟩ (oDec_at oX12_book 45 rfl) ?_
              have hq49 : oM2 ((pI (pI u36 104 k0.toNatClampNeg v46) 104 k1.toNatClampNeg v48)) := oM2_put (by assumption) (by assumption) ek0 ek1 ek2 ek3
              have hq50 : oBD ((pI (pI u36 104 k0.toNatClampNeg v46) 104 k1.toNatClampNeg v48)) := oBD_m2 hq44 ek0 ek1
              refine r_aload_n C (j := 0) (oDec_at oX12_book 46 rfl) rfl rfl ?_
              refine r_aload_n C (j := 0) (oDec_at oX12_book 47 rfl) rfl rfl ?_
              refine r_pc C 80 rfl ?_
              obtain ⟨v51, ev51⟩ : ∃ z : Int32, ((pI (pI u36 104 k0.toNatClampNeg v46) 104 k1.toNatClampNeg v48)).1 71 54 = z := ⟨_, rfl⟩
              have gv51 : (t.1 71 54).toInt = v51.toInt := congrArg Int32.toInt ((((pI_ne (a := 71) (b := 54) (c := 104) _ _ (Or.inl (by decide)))).trans (((pI_ne (a := 71) (b := 54) (c := 104) _ _ (Or.inl (by decide)))).trans (((fu36 71 54 rfl).1).trans ((fu28 71 54 rfl).1)))).symm.trans ev51)
              have ggv51 : (((pI (pI u36 104 k0.toNatClampNeg v46) 104 k1.toNatClampNeg v48)).1 71 54).toInt = v51.toInt := congrArg Int32.toInt ev51
              have rv51 := n_rng v51
              refine r_geti (k := 54) (lo := (-2147483648)) (hi := 2147483647) C v51 oCl12 rfl (by decide) flX12_344 rfl rfl (ev51) rfl rfl (oDec_at oX12_book 48 rfl) (fun _ _ => ?_)
              refine r_puti (k := 53) (lo := 2) (hi := 12) C oCl12 rfl (by decide) flX12_127 rfl rfl rfl rfl rfl rfl rfl rfl ⟨by omega, by omega⟩ (oDec_at oX12_book 49 rfl) ?_
              refine r_iconst C (oDec_at oX12_book 50 rfl) (v := k0) (by rw [qk0]; rfl) ?_
              refine r_istore_n C (lv' := [(0, .ref (oad E 71)), (1, .int k0)]) [1, 0] (oDec_at oX12_book 51 rfl) rfl (by decide) rfl ?_
              have lk52 : (((pI (pI (pI u36 104 k0.toNatClampNeg v46) 104 k1.toNatClampNeg v48) 71 53 v51)).1 71 1).toInt = (t.1 71 1).toInt := congrArg Int32.toInt (((pI_ne (a := 71) (b := 1) (c := 71) (k := 53) _ _ (Or.inr (by decide)))).trans (((pI_ne (a := 71) (b := 1) (c := 104) _ _ (Or.inl (by decide)))).trans (((pI_ne (a := 71) (b := 1) (c := 104) _ _ (Or.inl (by decide)))).trans (((fu36 71 1 rfl).1).trans ((fu28 71 1 rfl).1)))))
              have lk53 : (((pI (pI (pI u36 104 k0.toNatClampNeg v46) 104 k1.toNatClampNeg v48) 71 53 v51)).1 71 37).toInt = (t.1 71 37).toInt := congrArg Int32.toInt (((pI_ne (a := 71) (b := 37) (c := 71) (k := 53) _ _ (Or.inr (by decide)))).trans (((pI_ne (a := 71) (b := 37) (c := 104) _ _ (Or.inl (by decide)))).trans (((pI_ne (a := 71) (b := 37) (c := 104) _ _ (Or.inl (by decide)))).trans (((fu36 71 37 rfl).1).trans ((fu28 71 37 rfl).1)))))
              have lk54 : (((pI (pI (pI u36 104 k0.toNatClampNeg v46) 104 k1.toNatClampNeg v48) 71 53 v51)).1 71 7).toInt = (u36.1 71 7).toInt := congrArg Int32.toInt (((pI_ne (a := 71) (b := 7) (c := 71) (k := 53) _ _ (Or.inr (by decide)))).trans (((pI_ne (a := 71) (b := 7) (c := 104) _ _ (Or.inl (by decide)))).trans ((pI_ne (a := 71) (b := 7) (c := 104) _ _ (Or.inl (by decide))))))
              have lk55 : (((pI (pI (pI u36 104 k0.toNatClampNeg v46) 104 k1.toNatClampNeg v48) 71 53 v51)).1 71 8).toInt = (u36.1 71 8).toInt := congrArg Int32.toInt (((pI_ne (a := 71) (b := 8) (c := 71) (k := 53) _ _ (Or.inr (by decide)))).trans (((pI_ne (a := 71) (b := 8) (c := 104) _ _ (Or.inl (by decide)))).trans ((pI_ne (a := 71) (b := 8) (c := 104) _ _ (Or.inl (by decide))))))
              exact (ih (n - 1) (by omega)).2.1 ((pI (pI (pI u36 104 k0.toNatClampNeg v46) 104 k1.toNatClampNeg v48) 71 53 v51)) k0  (oBD_fr (oFr_oneI (q := 12) (m := 53) rfl (by rfl)) rfl hq50) (oM2_fr (oFr_oneI (q := 12) (m := 53) rfl (by rfl)) rfl hq49) (by first | exact oCf_0 (by omega)) (by omega) (by omega) (by omega) (by omega)
            · skip
              refine r_iconst C (oDec_at oX12_book 28 rfl) (v := km1) (by rw [qkm1]; rfl) ?_
              have hq56 : oBI (u36) := oBB_BI (oBB_fr fu36 rfl (oBB_fr fu28 rfl iv0))
              have lk57 : ((u36).1 71 1).toInt = (t.1 71 1).toInt := congrArg Int32.toInt (((fu36 71 1 rfl).1).trans ((fu28 71 1 rfl).1))
              exact r_iret C (oDec_at oX12_book 29 rfl) ⟨_, rfl, ⟨hq56, by omega, by omega, by omega, by omega⟩⟩
          · skip
            have lc58 : ((u28).1 104 2).toInt = (t.1 104 2).toInt := congrArg Int32.toInt ((fu28 104 2 rfl).1)
            have lc59 : ((u28).1 104 3).toInt = (t.1 104 3).toInt := congrArg Int32.toInt ((fu28 104 3 rfl).1)
            have lk60 : ((u28).1 71 5).toInt = v1.toInt := congrArg Int32.toInt (((fu28 71 5 rfl).1).trans (ev1))
            have lk61 : ((u28).1 71 6).toInt = (t.1 71 6).toInt := congrArg Int32.toInt ((fu28 71 6 rfl).1)
            have lk62 : ((u28).1 71 37).toInt = (t.1 71 37).toInt := congrArg Int32.toInt ((fu28 71 37 rfl).1)
            have hss := oqSk_sk (g := g) (a := (t.1 71 2).toInt) ⟨by omega, by omega⟩
            have hgs : g (oqSk g (oqSk g (t.1 71 2).toInt)) = g (oqSk g (t.1 71 2).toInt) := by rw [hss]
            refine r_aload_n C (j := 0) (oDec_at oX12_book 22 rfl) rfl rfl ?_
            have lk63 : ((u28).1 71 5).toInt = v1.toInt := congrArg Int32.toInt (((fu28 71 5 rfl).1).trans (ev1))
            have lk64 : ((u28).1 71 45).toInt = (t.1 71 45).toInt := congrArg Int32.toInt ((fu28 71 45 rfl).1)
            have lk65 : ((u28).1 71 5).toInt = v1.toInt := congrArg Int32.toInt (((fu28 71 5 rfl).1).trans (ev1))
            have lk66 : ((u28).1 71 54).toInt = (t.1 71 54).toInt := congrArg Int32.toInt ((fu28 71 54 rfl).1)
            have lk67 : ((u28).1 71 4).toInt = (t.1 71 4).toInt := congrArg Int32.toInt ((fu28 71 4 rfl).1)
            have lk68 : ((u28).1 71 6).toInt = (t.1 71 6).toInt := congrArg Int32.toInt ((fu28 71 6 rfl).1)
            have lk69 : ((u28).1 71 37).toInt = (t.1 71 37).toInt := congrArg Int32.toInt ((fu28 71 37 rfl).1)
            have lk70 : ((u28).1 71 37).toInt = (t.1 71 37).toInt := congrArg Int32.toInt ((fu28 71 37 rfl).1)
            have lk71 : ((u28).1 71 37).toInt = (t.1 71 37).toInt := congrArg Int32.toInt ((fu28 71 37 rfl).1)
            have lk72 : ((u28).1 71 37).toInt = (t.1 71 37).toInt := congrArg Int32.toInt ((fu28 71 37 rfl).1)
            have lk73 : ((u28).1 71 37).toInt = (t.1 71 37).toInt := congrArg Int32.toInt ((fu28 71 37 rfl).1)
            have lk74 : ((u28).1 71 37).toInt = (t.1 71 37).toInt := congrArg Int32.toInt ((fu28 71 37 rfl).1)
            have lc75 : ((u28).1 104 3).toInt = (t.1 104 3).toInt := congrArg Int32.toInt ((fu28 104 3 rfl).1)
            have lc76 : ((u28).1 104 2).toInt = (t.1 104 2).toInt := congrArg Int32.toInt ((fu28 104 2 rfl).1)
            have lc77 : ((u28).1 104 3).toInt = (t.1 104 3).toInt := congrArg Int32.toInt ((fu28 104 3 rfl).1)
            refine r_callVv C oCl12 rfl miX12_bookTold mlX12_353 (ct7_X12_bookTold l E (u28)  (g) (oqSk g (t.1 71 2).toInt) ((t.1 71 4).toInt) (R) (M) (N) (oBB_fr fu28 rfl iv0) (by omega) (by omega) (by omega) (by omega) (by omega) (by omega) (by omega) (by omega) (by omega) (oqNR_fr fu28 rfl hq27) (by omega) (by omega) (oqZ_fr fu28 rfl iv5) (oqWd_fr fu28 rfl iv6)) (by decide) rfl rfl rfl (Nat.le_of_ble_eq_true rfl) (oDec_at oX12_book 23 rfl) (fun u78 pu78 fu78 => ?_)
            try dsimp only at pu78
            try simp only [lk63, lk64, lk65, lk66, lk67, lk68, lk69, lk70, lk71, lk72, lk73, lk74] at pu78
            obtain ⟨pu78_0, pu78_1, pu78_2, pu78_3, pu78_4, pu78_5, pu78_6, pu78_7⟩ := pu78
            refine r_goto C (tgt := 23) (oDec_at oX12_book 24 rfl) (by decide) ?_
            have lk80 : ((u78).1 71 1).toInt = (t.1 71 1).toInt := congrArg Int32.toInt (((fu78 71 1 rfl).1).trans ((fu28 71 1 rfl).1))
            have lk81 : ((u78).1 71 3).toInt = (t.1 71 3).toInt := congrArg Int32.toInt (((fu78 71 3 rfl).1).trans ((fu28 71 3 rfl).1))
            have hj := oB1_f ((u78).1 71 5)
            exact (ih (n - 1) (by omega)).1 (u78)   pu78_0 (by omega) (by omega) (by omega) (by omega) (by first | exact (oqZ_fr fu78 rfl (oqZ_fr fu28 rfl iv5)) | exact oqZ_of (by assumption) (by omega)) (oqWd_fr fu78 rfl (oqWd_fr fu28 rfl iv6)) (by omega) (by first | exact oqRS_nx hBu (by omega) hRM (by first | exact pu78_4 | omega) (by first | exact pu78_5 | omega) (by first | exact pu78_6 | omega) pu78_7 (by omega) | exact oqRS_0 (by omega) (by omega) (by omega) (by omega) (by omega) (by omega) (by omega)) (by omega)
      · intro t x1  iv0 iv1 iv2 iv3 iv4 iv5 hmu
        have rx1 := n_rng x1
        refine r_iload_n C (j := 1) (oDec_at oX12_book 52 rfl) rfl rfl ?_
        refine r_bipush C (oDec_at oX12_book 53 rfl) (v := k24) (by rw [qk24]; rfl) ?_
        refine r_icmp_ge C 130 (oDec_at oX12_book 54 rfl) (by decide) (fun cd82 => ?_) (fun cd82 => ?_)
        · skip
          have hq83 : oCg (t) := oCf_g iv2 (by omega)
          refine r_iconst C (oDec_at oX12_book 77 rfl) (v := k0) (by rw [qk0]; rfl) ?_
          refine r_istore_n C (lv' := [(0, .ref (oad E 71)), (1, .int k0)]) [1, 0] (oDec_at oX12_book 78 rfl) rfl (by decide) rfl ?_
          exact (ih (n - 1) (by omega)).2.2.1 (t) k0  iv0 iv1 hq83 (by omega) (by omega) (by omega) (by omega)
        · skip
          refine r_aload_n C (j := 0) (oDec_at oX12_book 55 rfl) rfl rfl ?_
          refine r_getF (k := 50) (b := 105) C oCl12 rfl (by decide) flX12_117 rfl rfl rfl (oDec_at oX12_book 56 rfl) ?_
          refine r_iload_n C (j := 1) (oDec_at oX12_book 57 rfl) rfl rfl ?_
          refine r_aload_n C (j := 0) (oDec_at oX12_book 58 rfl) rfl rfl ?_
          refine r_getF (k := 50) (b := 105) C oCl12 rfl (by decide) flX12_117 rfl rfl rfl (oDec_at oX12_book 59 rfl) ?_
          refine r_bipush C (oDec_at oX12_book 60 rfl) (v := k24) (by rw [qk24]; rfl) ?_
          refine r_pc C 105 rfl ?_
          refine r_iload_n C (j := 1) (oDec_at oX12_book 61 rfl) rfl rfl ?_
          obtain ⟨v84, ev84⟩ : ∃ z : Int32, z = k24 + x1 := ⟨_, rfl⟩
          have hv84 : v84.toInt = k24.toInt + x1.toInt := n_add ev84 (by omega) (by omega)
          refine r_iadd C v84 (oDec_at oX12_book 62 rfl) ev84 ?_
          obtain ⟨v86, ev86⟩ : ∃ z : Int32, (t).1 105 v84.toNatClampNeg = z := ⟨_, rfl⟩
          have gv86 : (t.1 105 v84.toNatClampNeg).toInt = v86.toInt := congrArg Int32.toInt (ev86)
          refine r_iald (n := 48) (lo := 0) (hi := 1600) C v86 rfl (by decide) rfl rfl ⟨by omega, by omega⟩ (by decide) ev86 rfl rfl (oDec_at oX12_book 63 rfl) (fun b85 b85h => ?_)
          have hq1 := oIxA 24 (i := v84) (x := x1) ev86 (by omega) (by omega)
          refine r_iast (n := 48) (lo := 0) (hi := 1600) C rfl (by decide) rfl rfl ⟨by omega, by omega⟩ (by decide) rfl rfl rfl rfl ⟨by omega, by omega⟩ (oDec_at oX12_book 64 rfl) ?_
          refine r_aload_n C (j := 0) (oDec_at oX12_book 65 rfl) rfl rfl ?_
          refine r_getF (k := 51) (b := 106) C oCl12 rfl (by decide) flX12_120 rfl rfl rfl (oDec_at oX12_book 66 rfl) ?_
          refine r_pc C 113 rfl ?_
          refine r_iload_n C (j := 1) (oDec_at oX12_book 67 rfl) rfl rfl ?_
          refine r_aload_n C (j := 0) (oDec_at oX12_book 68 rfl) rfl rfl ?_
          refine r_getF (k := 51) (b := 106) C oCl12 rfl (by decide) flX12_120 rfl rfl rfl (oDec_at oX12_book 69 rfl) ?_
          refine r_bipush C (oDec_at oX12_book 70 rfl) (v := k24) (by rw [qk24]; rfl) ?_
          refine r_iload_n C (j := 1) (oDec_at oX12_book 71 rfl) rfl rfl ?_
          obtain ⟨v87, ev87⟩ : ∃ z : Int32, z = k24 + x1 := ⟨_, rfl⟩
          have hv87 : v87.toInt = k24.toInt + x1.toInt := n_add ev87 (by omega) (by omega)
          refine r_iadd C v87 (oDec_at oX12_book 72 rfl) ev87 ?_
          refine r_pc C 122 rfl ?_
          obtain ⟨v89, ev89⟩ : ∃ z : Int32, ((pI t 105 x1.toNatClampNeg v86)).1 106 v87.toNatClampNeg = z := ⟨_, rfl⟩
          have av89 : t.1 106 v87.toNatClampNeg = v89 := ((pI_ne (a := 106) (b := v87.toNatClampNeg) (c := 105) _ _ (Or.inl (by decide)))).symm.trans ev89
          have gv89 : (t.1 106 v87.toNatClampNeg).toInt = v89.toInt := congrArg Int32.toInt (((pI_ne (a := 106) (b := v87.toNatClampNeg) (c := 105) _ _ (Or.inl (by decide)))).symm.trans ev89)
          refine r_iald (n := 48) (lo := 0) (hi := 1600) C v89 rfl (by decide) rfl rfl ⟨by omega, by omega⟩ (by decide) ev89 rfl rfl (oDec_at oX12_book 73 rfl) (fun b88 b88h => ?_)
          have hq2 := oIxA 24 (i := v87) (x := x1) ev89 (by omega) (by omega)
          refine r_iast (n := 48) (lo := 0) (hi := 1600) C rfl (by decide) rfl rfl ⟨by omega, by omega⟩ (by decide) rfl rfl rfl rfl ⟨by omega, by omega⟩ (oDec_at oX12_book 74 rfl) ?_
          have hq90 : oBD ((pI (pI t 105 x1.toNatClampNeg v86) 106 x1.toNatClampNeg v89)) := oBD_lo iv0 (by omega)
          obtain ⟨v91, ev91⟩ : ∃ z : Int32, x1 + Int32.ofInt 1 = z := ⟨_, rfl⟩
          have hv91 : v91.toInt = x1.toInt + 1 := n_inc ev91 (by decide) (by omega) (by omega)
          refine r_iinc C (j := 1) (lv' := [(0, .ref (oad E 71)), (1, .int v91)]) v91 [1, 0] (oDec_at oX12_book 75 rfl) rfl ev91 (by decide) rfl ?_
          refine r_goto C (tgt := 88) (oDec_at oX12_book 76 rfl) (by decide) ?_
          have lk92 : (((pI (pI t 105 x1.toNatClampNeg v86) 106 x1.toNatClampNeg v89)).1 71 1).toInt = (t.1 71 1).toInt := congrArg Int32.toInt (((pI_ne (a := 71) (b := 1) (c := 106) _ _ (Or.inl (by decide)))).trans ((pI_ne (a := 71) (b := 1) (c := 105) _ _ (Or.inl (by decide)))))
          have lk93 : (((pI (pI t 105 x1.toNatClampNeg v86) 106 x1.toNatClampNeg v89)).1 71 37).toInt = (t.1 71 37).toInt := congrArg Int32.toInt (((pI_ne (a := 71) (b := 37) (c := 106) _ _ (Or.inl (by decide)))).trans ((pI_ne (a := 71) (b := 37) (c := 105) _ _ (Or.inl (by decide)))))
          have lk94 : (((pI (pI t 105 x1.toNatClampNeg v86) 106 x1.toNatClampNeg v89)).1 71 7).toInt = (t.1 71 7).toInt := congrArg Int32.toInt (((pI_ne (a := 71) (b := 7) (c := 106) _ _ (Or.inl (by decide)))).trans ((pI_ne (a := 71) (b := 7) (c := 105) _ _ (Or.inl (by decide)))))
          have lk95 : (((pI (pI t 105 x1.toNatClampNeg v86) 106 x1.toNatClampNeg v89)).1 71 8).toInt = (t.1 71 8).toInt := congrArg Int32.toInt (((pI_ne (a := 71) (b := 8) (c := 106) _ _ (Or.inl (by decide)))).trans ((pI_ne (a := 71) (b := 8) (c := 105) _ _ (Or.inl (by decide)))))
          exact (ih (n - 1) (by omega)).2.1 ((pI (pI t 105 x1.toNatClampNeg v86) 106 x1.toNatClampNeg v89)) v91  hq90 (oM2_fr (oFr_oneI (q := 82) (m := 9999) rfl (by rfl)) rfl (oM2_fr (oFr_oneI (q := 81) (m := 9999) rfl (by rfl)) rfl iv1)) (by first | exact oCf_step (x := x1) (y := v91) iv2 (by omega) (by omega) (by assumption) (by assumption) | exact oCf_0 (by omega)) (by omega) (by omega) (by omega) (by omega)
      · intro t x1  iv0 iv1 iv2 iv3 iv4 iv5 hmu
        have rx1 := n_rng x1
        refine r_ty C (fun hty => ?_)
        have hty_coded : (0 : Int) ≤ ((t).1 71 45).toInt ∧ ((t).1 71 45).toInt ≤ 1600 := hty.1 71 45
        clear hty
        refine r_iload_n C (j := 1) (oDec_at oX12_book 79 rfl) rfl rfl ?_
        refine r_bipush C (oDec_at oX12_book 80 rfl) (v := k6) (by rw [qk6]; rfl) ?_
        refine r_icmp_ge C 159 (oDec_at oX12_book 81 rfl) (by decide) (fun cd96 => ?_) (fun cd96 => ?_)
        · skip
          refine r_iconst C (oDec_at oX12_book 94 rfl) (v := k0) (by rw [qk0]; rfl) ?_
          refine r_istore_n C (lv' := [(0, .ref (oad E 71)), (1, .int k0)]) [1, 0] (oDec_at oX12_book 95 rfl) rfl (by decide) rfl ?_
          exact (ih (n - 1) (by omega)).2.2.2 (t) k0  iv0 iv1 iv2 (by first | exact oCc_step (x := x1) (y := k0) iv3 (by omega) (by omega) (by assumption) | exact oCc_0 (by omega)) (by omega) (by omega) (by omega) (by omega)
        · skip
          refine r_aload_n C (j := 0) (oDec_at oX12_book 82 rfl) rfl rfl ?_
          refine r_getF (k := 52) (b := 107) C oCl12 rfl (by decide) flX12_123 rfl rfl rfl (oDec_at oX12_book 83 rfl) ?_
          refine r_iload_n C (j := 1) (oDec_at oX12_book 84 rfl) rfl rfl ?_
          refine r_aload_n C (j := 0) (oDec_at oX12_book 85 rfl) rfl rfl ?_
          refine r_getF (k := 52) (b := 107) C oCl12 rfl (by decide) flX12_123 rfl rfl rfl (oDec_at oX12_book 86 rfl) ?_
          refine r_bipush C (oDec_at oX12_book 87 rfl) (v := k6) (by rw [qk6]; rfl) ?_
          refine r_pc C 149 rfl ?_
          refine r_iload_n C (j := 1) (oDec_at oX12_book 88 rfl) rfl rfl ?_
          obtain ⟨v97, ev97⟩ : ∃ z : Int32, z = k6 + x1 := ⟨_, rfl⟩
          have hv97 : v97.toInt = k6.toInt + x1.toInt := n_add ev97 (by omega) (by omega)
          refine r_iadd C v97 (oDec_at oX12_book 89 rfl) ev97 ?_
          obtain ⟨v98, ev98⟩ : ∃ z : Int64, (t).2.1 107 v97.toNatClampNeg = z := ⟨_, rfl⟩
          refine r_lald (n := 12) C v98 rfl (by decide) rfl rfl ⟨by omega, by omega⟩ (by decide) ev98 (oDec_at oX12_book 90 rfl) ?_
          refine r_last (n := 12) C rfl (by decide) rfl rfl ⟨by omega, by omega⟩ (by decide) rfl (oDec_at oX12_book 91 rfl) ?_
          obtain ⟨v99, ev99⟩ : ∃ z : Int32, x1 + Int32.ofInt 1 = z := ⟨_, rfl⟩
          have hv99 : v99.toInt = x1.toInt + 1 := n_inc ev99 (by decide) (by omega) (by omega)
          refine r_iinc C (j := 1) (lv' := [(0, .ref (oad E 71)), (1, .int v99)]) v99 [1, 0] (oDec_at oX12_book 92 rfl) rfl ev99 (by decide) rfl ?_
          refine r_goto C (tgt := 132) (oDec_at oX12_book 93 rfl) (by decide) ?_
          have lk100 : (((pL t 107 x1.toNatClampNeg v98)).1 71 1).toInt = (t.1 71 1).toInt := congrArg Int32.toInt ((show ((pL t 107 x1.toNatClampNeg v98)).1 71 1 = t.1 71 1 from rfl))
          have lk101 : (((pL t 107 x1.toNatClampNeg v98)).1 71 37).toInt = (t.1 71 37).toInt := congrArg Int32.toInt ((show ((pL t 107 x1.toNatClampNeg v98)).1 71 37 = t.1 71 37 from rfl))
          have lk102 : (((pL t 107 x1.toNatClampNeg v98)).1 71 7).toInt = (t.1 71 7).toInt := congrArg Int32.toInt ((show ((pL t 107 x1.toNatClampNeg v98)).1 71 7 = t.1 71 7 from rfl))
          have lk103 : (((pL t 107 x1.toNatClampNeg v98)).1 71 8).toInt = (t.1 71 8).toInt := congrArg Int32.toInt ((show ((pL t 107 x1.toNatClampNeg v98)).1 71 8 = t.1 71 8 from rfl))
          exact (ih (n - 1) (by omega)).2.2.1 ((pL t 107 x1.toNatClampNeg v98)) v99  (oBD_fr (oFr_oneL (q := 83) (m := 9999) rfl (by rfl)) rfl iv0) (oM2_fr (oFr_oneL (q := 83) (m := 9999) rfl (by rfl)) rfl iv1) (oCg_fr (oFr_oneL (q := 83) (m := 9999) rfl (by rfl)) rfl iv2) (by omega) (by omega) (by omega) (by omega)
      · intro t x1  iv0 iv1 iv2 iv3 iv4 iv5 iv6 hmu
        have rx1 := n_rng x1
        refine r_ty C (fun hty => ?_)
        have hty_coded : (0 : Int) ≤ ((t).1 71 45).toInt ∧ ((t).1 71 45).toInt ≤ 1600 := hty.1 71 45
        clear hty
        refine r_iload_n C (j := 1) (oDec_at oX12_book 96 rfl) rfl rfl ?_
        refine r_aload_n C (j := 0) (oDec_at oX12_book 97 rfl) rfl rfl ?_
        obtain ⟨v104, ev104⟩ : ∃ z : Int32, (t).1 71 45 = z := ⟨_, rfl⟩
        have gv104 : (t.1 71 45).toInt = v104.toInt := congrArg Int32.toInt (ev104)
        refine r_geti (k := 45) (lo := 0) (hi := 1600) C v104 oCl12 rfl (by decide) flX12_234 rfl rfl (ev104) rfl rfl (oDec_at oX12_book 98 rfl) (fun b105 b105h => ?_)
        refine r_icmp_ge C 191 (oDec_at oX12_book 99 rfl) (by decide) (fun cd106 => ?_) (fun cd106 => ?_)
        · skip
          have lk107 : ((t).1 71 45).toInt = v104.toInt := congrArg Int32.toInt (ev104)
          refine r_ty C (fun hty => ?_)
          have hmD : ∀ i : Nat, (0 : Int) ≤ ((t).1 104 i).toInt ∧ ((t).1 104 i).toInt ≤ 12 := fun i => hty.1 104 i
          have hmD2 := hmD 2
          have hmD3 := hmD 3
          clear hty
          have hq108 : oBI (t) := oBI_of iv0 iv1 iv2 iv3 (by omega) (by omega) hmD
          refine r_aload_n C (j := 0) (oDec_at oX12_book 112 rfl) rfl rfl ?_
          refine r_iconst C (oDec_at oX12_book 113 rfl) (v := k0) (by rw [qk0]; rfl) ?_
          refine r_puti (k := 69) (lo := 0) (hi := 1) C oCl12 rfl (by decide) flX12_270 rfl rfl rfl rfl rfl (n_bool (by omega)) (n_fitz (by omega)) rfl ⟨by omega, by omega⟩ (oDec_at oX12_book 114 rfl) ?_
          refine r_aload_n C (j := 0) (oDec_at oX12_book 115 rfl) rfl rfl ?_
          obtain ⟨v109, ev109⟩ : ∃ z : Int32, ((pI t 71 69 k0)).1 71 37 = z := ⟨_, rfl⟩
          have gv109 : (t.1 71 37).toInt = v109.toInt := congrArg Int32.toInt (((pI_ne (a := 71) (b := 37) (c := 71) (k := 69) _ _ (Or.inr (by decide)))).symm.trans ev109)
          have ggv109 : (((pI t 71 69 k0)).1 71 37).toInt = v109.toInt := congrArg Int32.toInt ev109
          refine r_geti (k := 37) (lo := 0) (hi := 60) C v109 oCl12 rfl (by decide) flX12_231 rfl rfl (ev109) rfl rfl (oDec_at oX12_book 116 rfl) (fun b110 b110h => ?_)
          have lk111 : (((pI t 71 69 k0)).1 71 1).toInt = (t.1 71 1).toInt := congrArg Int32.toInt ((pI_ne (a := 71) (b := 1) (c := 71) (k := 69) _ _ (Or.inr (by decide))))
          have lk112 : (((pI t 71 69 k0)).1 71 7).toInt = (t.1 71 7).toInt := congrArg Int32.toInt ((pI_ne (a := 71) (b := 7) (c := 71) (k := 69) _ _ (Or.inr (by decide))))
          have lk113 : (((pI t 71 69 k0)).1 71 8).toInt = (t.1 71 8).toInt := congrArg Int32.toInt ((pI_ne (a := 71) (b := 8) (c := 71) (k := 69) _ _ (Or.inr (by decide))))
          exact r_iret C (oDec_at oX12_book 117 rfl) ⟨_, rfl, ⟨(oBI_fr (oFr_oneI (q := 12) (m := 69) rfl (by rfl)) rfl hq108), by omega, by omega, by omega, by omega⟩⟩
        · skip
          refine r_aload_n C (j := 0) (oDec_at oX12_book 100 rfl) rfl rfl ?_
          refine r_getF (k := 44) (b := 102) C oCl12 rfl (by decide) flX12_108 rfl rfl rfl (oDec_at oX12_book 101 rfl) ?_
          refine r_iload_n C (j := 1) (oDec_at oX12_book 102 rfl) rfl rfl ?_
          refine r_aload_n C (j := 0) (oDec_at oX12_book 103 rfl) rfl rfl ?_
          refine r_getF (k := 44) (b := 102) C oCl12 rfl (by decide) flX12_108 rfl rfl rfl (oDec_at oX12_book 104 rfl) ?_
          refine r_sipush C (oDec_at oX12_book 105 rfl) (v := k1600) (by rw [qk1600]; rfl) ?_
          refine r_pc C 181 rfl ?_
          refine r_iload_n C (j := 1) (oDec_at oX12_book 106 rfl) rfl rfl ?_
          obtain ⟨v114, ev114⟩ : ∃ z : Int32, z = k1600 + x1 := ⟨_, rfl⟩
          have hv114 : v114.toInt = k1600.toInt + x1.toInt := n_add ev114 (by omega) (by omega)
          refine r_iadd C v114 (oDec_at oX12_book 107 rfl) ev114 ?_
          obtain ⟨v116, ev116⟩ : ∃ z : Int32, (t).1 102 v114.toNatClampNeg = z := ⟨_, rfl⟩
          have gv116 : (t.1 102 v114.toNatClampNeg).toInt = v116.toInt := congrArg Int32.toInt (ev116)
          have rv116 := n_rng v116
          refine r_iald (n := 3200) (lo := (-2147483648)) (hi := 2147483647) C v116 rfl (by decide) rfl rfl ⟨by omega, by omega⟩ (by decide) ev116 rfl rfl (oDec_at oX12_book 108 rfl) (fun _ _ => ?_)
          have hq1 := oIxA 1600 (i := v114) (x := x1) ev116 (by omega) (by omega)
          refine r_iast (n := 3200) (lo := (-2147483648)) (hi := 2147483647) C rfl (by decide) rfl rfl ⟨by omega, by omega⟩ (by decide) rfl rfl rfl rfl (n_rng _) (oDec_at oX12_book 109 rfl) ?_
          have hq117 : oBD ((pI t 102 x1.toNatClampNeg v116)) := oBD_cd iv0 (by omega)
          obtain ⟨v118, ev118⟩ : ∃ z : Int32, x1 + Int32.ofInt 1 = z := ⟨_, rfl⟩
          have hv118 : v118.toInt = x1.toInt + 1 := n_inc ev118 (by decide) (by omega) (by omega)
          refine r_iinc C (j := 1) (lv' := [(0, .ref (oad E 71)), (1, .int v118)]) v118 [1, 0] (oDec_at oX12_book 110 rfl) rfl ev118 (by decide) rfl ?_
          refine r_goto C (tgt := 161) (oDec_at oX12_book 111 rfl) (by decide) ?_
          have lk119 : (((pI t 102 x1.toNatClampNeg v116)).1 71 45).toInt = v104.toInt := congrArg Int32.toInt (((pI_ne (a := 71) (b := 45) (c := 102) _ _ (Or.inl (by decide)))).trans (ev104))
          have lk120 : (((pI t 102 x1.toNatClampNeg v116)).1 71 1).toInt = (t.1 71 1).toInt := congrArg Int32.toInt ((pI_ne (a := 71) (b := 1) (c := 102) _ _ (Or.inl (by decide))))
          have lk121 : (((pI t 102 x1.toNatClampNeg v116)).1 71 37).toInt = (t.1 71 37).toInt := congrArg Int32.toInt ((pI_ne (a := 71) (b := 37) (c := 102) _ _ (Or.inl (by decide))))
          have lk122 : (((pI t 102 x1.toNatClampNeg v116)).1 71 7).toInt = (t.1 71 7).toInt := congrArg Int32.toInt ((pI_ne (a := 71) (b := 7) (c := 102) _ _ (Or.inl (by decide))))
          have lk123 : (((pI t 102 x1.toNatClampNeg v116)).1 71 8).toInt = (t.1 71 8).toInt := congrArg Int32.toInt ((pI_ne (a := 71) (b := 8) (c := 102) _ _ (Or.inl (by decide))))
          exact (ih (n - 1) (by omega)).2.2.2 ((pI t 102 x1.toNatClampNeg v116)) v118  hq117 (oM2_fr (oFr_oneI (q := 78) (m := 9999) rfl (by rfl)) rfl iv1) (oCg_fr (oFr_oneI (q := 78) (m := 9999) rfl (by rfl)) rfl iv2) (by first | exact oCc_step (x := x1) (y := v118) iv3 (by omega) (by omega) (by assumption) | exact oCc_0 (by omega)) (by omega) (by omega) (by omega) (by omega)
  refine r_aload_n C (j := 0) (oDec_at oX12_book 0 rfl) rfl rfl ?_
  refine r_callVv C oCl12 rfl miX12_begins mlX12_252 (ct4_X12_begins l E (s)  ) (by decide) rfl rfl rfl (Nat.le_of_ble_eq_true rfl) (oDec_at oX12_book 1 rfl) (fun u124 pu124 fu124 => ?_)
  try dsimp only at pu124
  obtain ⟨pu124_0, pu124_1, pu124_2, pu124_3, pu124_4, pu124_5, pu124_6, pu124_7⟩ := pu124
  refine r_aload_n C (j := 0) (oDec_at oX12_book 2 rfl) rfl rfl ?_
  refine r_getF (k := 49) (b := 104) C oCl12 rfl (by decide) flX12_114 rfl rfl rfl (oDec_at oX12_book 3 rfl) ?_
  refine r_iconst C (oDec_at oX12_book 4 rfl) (v := k2) (by rw [qk2]; rfl) ?_
  refine r_iconst C (oDec_at oX12_book 5 rfl) (v := k0) (by rw [qk0]; rfl) ?_
  refine r_pc C 10 rfl ?_
  refine r_iast (n := 4) (lo := 0) (hi := 12) C rfl (by decide) rfl rfl ⟨by omega, by omega⟩ (by decide) rfl rfl rfl rfl ⟨by omega, by omega⟩ (oDec_at oX12_book 6 rfl) ?_
  have hc2a := oMny23 (s := u124) (i := k2) (z := k0)
  refine r_aload_n C (j := 0) (oDec_at oX12_book 7 rfl) rfl rfl ?_
  refine r_getF (k := 49) (b := 104) C oCl12 rfl (by decide) flX12_114 rfl rfl rfl (oDec_at oX12_book 8 rfl) ?_
  refine r_iconst C (oDec_at oX12_book 9 rfl) (v := k3) (by rw [qk3]; rfl) ?_
  refine r_iconst C (oDec_at oX12_book 10 rfl) (v := k0) (by rw [qk0]; rfl) ?_
  refine r_iast (n := 4) (lo := 0) (hi := 12) C rfl (by decide) rfl rfl ⟨by omega, by omega⟩ (by decide) rfl rfl rfl rfl ⟨by omega, by omega⟩ (oDec_at oX12_book 11 rfl) ?_
  refine r_pc C 18 rfl ?_
  have hc3 := oMny3 (s := (pI u124 104 k2.toNatClampNeg k0)) (i := k3) (z := k0)
  have hc2b := oMny23 (s := (pI u124 104 k2.toNatClampNeg k0)) (i := k3) (z := k0)
  have hq126 : oBB ((pI (pI u124 104 k2.toNatClampNeg k0) 104 k3.toNatClampNeg k0)) := oBB_init (oBI_fr fu124 rfl hp0) ek2 ek3 ek0 ek0
  refine r_aload_n C (j := 0) (oDec_at oX12_book 12 rfl) rfl rfl ?_
  refine r_iconst C (oDec_at oX12_book 13 rfl) (v := k4) (by rw [qk4]; rfl) ?_
  refine r_puti (k := 54) (lo := (-2147483648)) (hi := 2147483647) C oCl12 rfl (by decide) flX12_344 rfl rfl rfl rfl rfl rfl rfl rfl (n_rng _) (oDec_at oX12_book 14 rfl) ?_
  have lk127 : (((pI (pI (pI u124 104 k2.toNatClampNeg k0) 104 k3.toNatClampNeg k0) 71 54 k4)).1 71 5).toInt = (u124.1 71 5).toInt := congrArg Int32.toInt (((pI_ne (a := 71) (b := 5) (c := 71) (k := 54) _ _ (Or.inr (by decide)))).trans (((pI_ne (a := 71) (b := 5) (c := 104) _ _ (Or.inl (by decide)))).trans ((pI_ne (a := 71) (b := 5) (c := 104) _ _ (Or.inl (by decide))))))
  have lk128 : (((pI (pI (pI u124 104 k2.toNatClampNeg k0) 104 k3.toNatClampNeg k0) 71 54 k4)).1 71 45).toInt = (u124.1 71 45).toInt := congrArg Int32.toInt (((pI_ne (a := 71) (b := 45) (c := 71) (k := 54) _ _ (Or.inr (by decide)))).trans (((pI_ne (a := 71) (b := 45) (c := 104) _ _ (Or.inl (by decide)))).trans ((pI_ne (a := 71) (b := 45) (c := 104) _ _ (Or.inl (by decide))))))
  have lk129 : (((pI (pI (pI u124 104 k2.toNatClampNeg k0) 104 k3.toNatClampNeg k0) 71 54 k4)).1 71 2).toInt = (u124.1 71 2).toInt := congrArg Int32.toInt (((pI_ne (a := 71) (b := 2) (c := 71) (k := 54) _ _ (Or.inr (by decide)))).trans (((pI_ne (a := 71) (b := 2) (c := 104) _ _ (Or.inl (by decide)))).trans ((pI_ne (a := 71) (b := 2) (c := 104) _ _ (Or.inl (by decide))))))
  have lk130 : (((pI (pI (pI u124 104 k2.toNatClampNeg k0) 104 k3.toNatClampNeg k0) 71 54 k4)).1 71 5).toInt = (u124.1 71 5).toInt := congrArg Int32.toInt (((pI_ne (a := 71) (b := 5) (c := 71) (k := 54) _ _ (Or.inr (by decide)))).trans (((pI_ne (a := 71) (b := 5) (c := 104) _ _ (Or.inl (by decide)))).trans ((pI_ne (a := 71) (b := 5) (c := 104) _ _ (Or.inl (by decide))))))
  have lk131 : (((pI (pI (pI u124 104 k2.toNatClampNeg k0) 104 k3.toNatClampNeg k0) 71 54 k4)).1 71 54).toInt = k4.toInt := congrArg Int32.toInt ((pI_self _ _ _ _))
  have lc132 : (((pI (pI (pI u124 104 k2.toNatClampNeg k0) 104 k3.toNatClampNeg k0) 71 54 k4)).1 104 3).toInt = (((pI (pI u124 104 k2.toNatClampNeg k0) 104 k3.toNatClampNeg k0)).1 104 3).toInt := congrArg Int32.toInt ((pI_ne (a := 104) (b := 3) (c := 71) _ _ (Or.inl (by decide))))
  have lk133 : (((pI (pI (pI u124 104 k2.toNatClampNeg k0) 104 k3.toNatClampNeg k0) 71 54 k4)).1 71 1).toInt = (u124.1 71 1).toInt := congrArg Int32.toInt (((pI_ne (a := 71) (b := 1) (c := 71) (k := 54) _ _ (Or.inr (by decide)))).trans (((pI_ne (a := 71) (b := 1) (c := 104) _ _ (Or.inl (by decide)))).trans ((pI_ne (a := 71) (b := 1) (c := 104) _ _ (Or.inl (by decide))))))
  have lc134 : (((pI (pI (pI u124 104 k2.toNatClampNeg k0) 104 k3.toNatClampNeg k0) 71 54 k4)).1 104 2).toInt = (((pI (pI u124 104 k2.toNatClampNeg k0) 104 k3.toNatClampNeg k0)).1 104 2).toInt := congrArg Int32.toInt ((pI_ne (a := 104) (b := 2) (c := 71) _ _ (Or.inl (by decide))))
  have lk135 : (((pI (pI (pI u124 104 k2.toNatClampNeg k0) 104 k3.toNatClampNeg k0) 71 54 k4)).1 71 3).toInt = (u124.1 71 3).toInt := congrArg Int32.toInt (((pI_ne (a := 71) (b := 3) (c := 71) (k := 54) _ _ (Or.inr (by decide)))).trans (((pI_ne (a := 71) (b := 3) (c := 104) _ _ (Or.inl (by decide)))).trans ((pI_ne (a := 71) (b := 3) (c := 104) _ _ (Or.inl (by decide))))))
  have lk136 : (((pI (pI (pI u124 104 k2.toNatClampNeg k0) 104 k3.toNatClampNeg k0) 71 54 k4)).1 71 6).toInt = (u124.1 71 6).toInt := congrArg Int32.toInt (((pI_ne (a := 71) (b := 6) (c := 71) (k := 54) _ _ (Or.inr (by decide)))).trans (((pI_ne (a := 71) (b := 6) (c := 104) _ _ (Or.inl (by decide)))).trans ((pI_ne (a := 71) (b := 6) (c := 104) _ _ (Or.inl (by decide))))))
  have lk137 : (((pI (pI (pI u124 104 k2.toNatClampNeg k0) 104 k3.toNatClampNeg k0) 71 54 k4)).1 71 4).toInt = (u124.1 71 4).toInt := congrArg Int32.toInt (((pI_ne (a := 71) (b := 4) (c := 71) (k := 54) _ _ (Or.inr (by decide)))).trans (((pI_ne (a := 71) (b := 4) (c := 104) _ _ (Or.inl (by decide)))).trans ((pI_ne (a := 71) (b := 4) (c := 104) _ _ (Or.inl (by decide))))))
  have lk138 : (((pI (pI (pI u124 104 k2.toNatClampNeg k0) 104 k3.toNatClampNeg k0) 71 54 k4)).1 71 2).toInt = (u124.1 71 2).toInt := congrArg Int32.toInt (((pI_ne (a := 71) (b := 2) (c := 71) (k := 54) _ _ (Or.inr (by decide)))).trans (((pI_ne (a := 71) (b := 2) (c := 104) _ _ (Or.inl (by decide)))).trans ((pI_ne (a := 71) (b := 2) (c := 104) _ _ (Or.inl (by decide))))))
  have lk139 : (((pI (pI (pI u124 104 k2.toNatClampNeg k0) 104 k3.toNatClampNeg k0) 71 54 k4)).1 71 37).toInt = (u124.1 71 37).toInt := congrArg Int32.toInt (((pI_ne (a := 71) (b := 37) (c := 71) (k := 54) _ _ (Or.inr (by decide)))).trans (((pI_ne (a := 71) (b := 37) (c := 104) _ _ (Or.inl (by decide)))).trans ((pI_ne (a := 71) (b := 37) (c := 104) _ _ (Or.inl (by decide))))))
  have hj := oB1_f (((pI (pI (pI u124 104 k2.toNatClampNeg k0) 104 k3.toNatClampNeg k0) 71 54 k4)).1 71 5)
  exact (key (10000 + 2 * (61 - (((pI (pI (pI u124 104 k2.toNatClampNeg k0) 104 k3.toNatClampNeg k0) 71 54 k4)).1 71 37).toInt) + oB1 (((pI (pI (pI u124 104 k2.toNatClampNeg k0) 104 k3.toNatClampNeg k0) 71 54 k4)).1 71 5)).toNat).1 ((pI (pI (pI u124 104 k2.toNatClampNeg k0) 104 k3.toNatClampNeg k0) 71 54 k4))   (oBB_fr (oFr_oneI (q := 12) (m := 54) rfl (by rfl)) rfl hq126) (by omega) (by omega) (by omega) (by omega) (by first | exact (by assumption) | exact oqZ_of (oqY_fr (oFr_oneI (q := 12) (m := 54) rfl (by rfl)) rfl (oqY_fr (oFr_oneI (q := 80) (m := 9999) rfl (by rfl)) rfl (oqY_fr (oFr_oneI (q := 80) (m := 9999) rfl (by rfl)) rfl (oqY_fr fu124 rfl hp2)))) (by omega)) (oqWd_fr (oFr_oneI (q := 12) (m := 54) rfl (by rfl)) rfl (oqWd_fr (oFr_oneI (q := 80) (m := 9999) rfl (by rfl)) rfl (oqWd_fr (oFr_oneI (q := 80) (m := 9999) rfl (by rfl)) rfl (oqWd_fr fu124 rfl hp3)))) (by omega) (by first | exact oqRS_nx hBu (by omega) hRM (by first | exact pu124_4 | omega) (by first | exact pu124_5 | omega) (by first | exact pu124_6 | omega) pu124_7 (by omega) | exact oqRS_0 (by omega) (by omega) (by omega) (by omega) (by omega) (by omega) (by omega)) (by omega)
