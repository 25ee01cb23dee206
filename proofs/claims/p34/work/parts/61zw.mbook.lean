set_option maxHeartbeats 4000000 in
set_option maxRecDepth 100000 in
theorem ct9_X12_book (l : Launch) (E : oE) (s : oS)  (g : Int → Int) (nn : Int) (R0 : Int) (W0 : Nat → List Int) (me0 : Int) (hp0 : oBI s) (hp1 : (s.1 71 1).toInt = nn) (hp2 : oqY g nn s) (hp3 : oqWd s) (hp4 : owBE R0 W0 s) (hp5 : owMM me0 s) : oMet l 12 yX12_book cX12_book 2 (some .int) [(12, 1), (12, 2), (12, 3), (12, 4), (12, 5), (12, 6), (12, 7), (12, 8), (12, 9), (12, 36), (12, 37), (12, 45), (12, 47), (12, 48), (12, 53), (12, 54), (12, 55), (12, 56), (12, 69), (78, 9999), (79, 9999), (80, 9999), (81, 9999), (82, 9999), (83, 9999)] E s [.ref (oad E 71)] (oPi (fun r u => (oBI u) ∧ ((u.1 71 1).toInt = 0) ∧ (r.toInt = oqB1 g) ∧ ((u.1 71 7).toInt = oqB2 g) ∧ ((u.1 71 8).toInt = oqB3 g) ∧ (owBE (owRb g R0) (owWb g W0) u) ∧ (owMM (owMb g me0) u))) := by
  refine oMet.of (lv := [(0, .ref (oad E 71))]) (by decide +kernel) (Nat.le_of_ble_eq_true rfl) rfl (fun J C hT => ?_)
  have C : oC l 12 cX12_book RX12 2 (some .int) [(12, 1), (12, 2), (12, 3), (12, 4), (12, 5), (12, 6), (12, 7), (12, 8), (12, 9), (12, 36), (12, 37), (12, 45), (12, 47), (12, 48), (12, 53), (12, 54), (12, 55), (12, 56), (12, 69), (78, 9999), (79, 9999), (80, 9999), (81, 9999), (82, 9999), (83, 9999)] E s (oPi (fun r u => (oBI u) ∧ ((u.1 71 1).toInt = 0) ∧ (r.toInt = oqB1 g) ∧ ((u.1 71 7).toInt = oqB2 g) ∧ ((u.1 71 8).toInt = oqB3 g) ∧ (owBE (owRb g R0) (owWb g W0) u) ∧ (owMM (owMb g me0) u))) J := C
  obtain ⟨km1, qkm1⟩ : ∃ z : Int32, z = (-1) := ⟨_, rfl⟩
  have ekm1 : km1.toInt = (-1) := by rw [qkm1]; rfl
  obtain ⟨k0, qk0⟩ : ∃ z : Int32, z = 0 := ⟨_, rfl⟩
  have ek0 : k0.toInt = 0 := by rw [qk0]; rfl
  obtain ⟨k1, qk1⟩ : ∃ z : Int32, z = 1 := ⟨_, rfl⟩
  have ek1 : k1.toInt = 1 := by rw [qk1]; rfl
  obtain ⟨k2, qk2⟩ : ∃ z : Int32, z = 2 := ⟨_, rfl⟩
  have ek2 : k2.toInt = 2 := by rw [qk2]; rfl
  obtain ⟨k3, qk3⟩ : ∃ z : Int32, z = 3 := ⟨_, rfl⟩
  have ek3 : k3.toInt = 3 := by rw [qk3]; rfl
  obtain ⟨k4, qk4⟩ : ∃ z : Int32, z = 4 := ⟨_, rfl⟩
  have ek4 : k4.toInt = 4 := by rw [qk4]; rfl
  obtain ⟨k6, qk6⟩ : ∃ z : Int32, z = 6 := ⟨_, rfl⟩
  have ek6 : k6.toInt = 6 := by rw [qk6]; rfl
  obtain ⟨k24, qk24⟩ : ∃ z : Int32, z = 24 := ⟨_, rfl⟩
  have ek24 : k24.toInt = 24 := by rw [qk24]; rfl
  obtain ⟨k1600, qk1600⟩ : ∃ z : Int32, z = 1600 := ⟨_, rfl⟩
  have ek1600 : k1600.toInt = 1600 := by rw [qk1600]; rfl
  obtain ⟨Cq, hCq⟩ : ∃ z, z = s.1 102 := ⟨_, rfl⟩
  obtain ⟨Fq, hFq⟩ : ∃ z, z = s.1 105 := ⟨_, rfl⟩
  obtain ⟨Tq, hTq⟩ : ∃ z, z = s.1 106 := ⟨_, rfl⟩
  obtain ⟨nq, hnq⟩ : ∃ z, z = s.1 104 0 := ⟨_, rfl⟩
  have hR12 : R0 ≤ 12 := by have h9 := (hT.1 104 0).2; have h8 := (hp4).1; have h7 : (s.1 104 0).toInt ≤ 12 := h9; omega
  have key : ∀ n : Nat, (∀ (t : oS), (oBB t) → ((t.1 71 5).toInt = 0 → (t.1 71 45).toInt ≤ (t.1 71 2).toInt) → ((t.1 71 5).toInt = 0 → (2 ≤ (t.1 71 54).toInt ∧ (t.1 71 54).toInt ≤ 12)) → ((t.1 104 3).toInt ≤ 6) → ((t.1 71 1).toInt = 0) → (oqZ g t) → (oqWd t) → ((t.1 104 2).toInt = (t.1 104 2).toInt ∧ (t.1 71 3).toInt = (t.1 71 3).toInt ∧ (t.1 71 6).toInt = (t.1 71 6).toInt ∧ (t.1 71 4).toInt = (t.1 71 4).toInt ∧ (t.1 71 2).toInt = (t.1 71 2).toInt) → (oqRS g t) → (owC0 Cq t) → (owLw Fq Tq nq t) → (owMM me0 t) → (owRY g t) → ((t.1 71 54).toInt = (t.1 71 54).toInt) → 10000 + 2 * (61 - (t.1 71 37).toInt) + oB1 (t.1 71 5) ≤ (n : Int) → J t 23 [(0, .ref (oad E 71))] []) ∧ (∀ (t : oS) (x1 : Int32), (oBD t) → (oM2 t) → (oCf x1 t) → (0 ≤ x1.toInt ∧ x1.toInt ≤ 24) → ((t.1 71 1).toInt = 0) → (oqB1 g = (t.1 71 37).toInt ∧ (t.1 71 7).toInt = oqB2 g ∧ (t.1 71 8).toInt = oqB3 g) → (owM0 (oqB4 g) t) → (owMM (owB6 g) t) → (owRU (oqB4 g) (owB7 g) t) → (oqB4 g ≤ 12 ∧ oqB1 g ≠ -1) → (owCF x1.toInt t) → 5000 - x1.toInt ≤ (n : Int) → J t 88 [(0, .ref (oad E 71)), (1, .int x1)] []) ∧ (∀ (t : oS) (x1 : Int32), (oBD t) → (oM2 t) → (oCg t) → (0 ≤ x1.toInt ∧ x1.toInt ≤ 6) → ((t.1 71 1).toInt = 0) → (oqB1 g = (t.1 71 37).toInt ∧ (t.1 71 7).toInt = oqB2 g ∧ (t.1 71 8).toInt = oqB3 g) → (owM0 (oqB4 g) t) → (owMM (owB6 g) t) → (owRU (oqB4 g) (owB7 g) t) → (oqB4 g ≤ 12 ∧ oqB1 g ≠ -1) → (owCF 24 t) → 4000 - x1.toInt ≤ (n : Int) → J t 132 [(0, .ref (oad E 71)), (1, .int x1)] []) ∧ (∀ (t : oS) (x1 : Int32), (oBD t) → (oM2 t) → (oCg t) → (oCc x1 t) → (0 ≤ x1.toInt ∧ x1.toInt ≤ (t.1 71 45).toInt) → ((t.1 71 1).toInt = 0) → (oqB1 g = (t.1 71 37).toInt ∧ (t.1 71 7).toInt = oqB2 g ∧ (t.1 71 8).toInt = oqB3 g) → (owM0 (oqB4 g) t) → (owMM (owB6 g) t) → (owRU (oqB4 g) (owB7 g) t) → (oqB4 g ≤ 12 ∧ oqB1 g ≠ -1) → (owCF 24 t) → (owCD x1.toInt t) → 2000 - x1.toInt ≤ (n : Int) → J t 161 [(0, .ref (oad E 71)), (1, .int x1)] []) := by
    intro n
    induction n using Nat.strongRecOn with
    | _ n ih =>
      refine ⟨?_, ?_, ?_, ?_⟩
      · intro t   iv0 iv1 iv2 iv3 iv4 iv5 iv6 iv7 iv8 iv9 iv10 iv11 iv12 iv13 hmu
        have hjn := oB1_nn (t.1 71 5)
        refine r_ty C (fun hty => ?_)
        have hty_statements : (0 : Int) ≤ ((t).1 71 37).toInt ∧ ((t).1 71 37).toInt ≤ 60 := hty.1 71 37
        have hty_at : (0 : Int) ≤ ((t).1 71 2).toInt ∧ ((t).1 71 2).toInt ≤ 1600 := hty.1 71 2
        have hty_coded : (0 : Int) ≤ ((t).1 71 45).toInt ∧ ((t).1 71 45).toInt ≤ 1600 := hty.1 71 45
        clear hty
        refine r_aload_n C (j := 0) (oDec_at oX12_book 15 rfl) rfl rfl ?_
        obtain ⟨v1, ev1⟩ : ∃ z : Int32, (t).1 71 5 = z := ⟨_, rfl⟩
        have gv1 : (t.1 71 5).toInt = v1.toInt := congrArg Int32.toInt (ev1)
        have rv1 := n_rng v1
        refine r_geti (k := 5) (lo := (-2147483648)) (hi := 2147483647) C v1 oCl12 rfl (by decide) flX12_173 rfl rfl (ev1) rfl rfl (oDec_at oX12_book 16 rfl) (fun _ _ => ?_)
        refine r_if_ne C 45 (oDec_at oX12_book 17 rfl) (by decide) (fun cd2 => ?_) (fun cd2 => ?_)
        · skip
          have lk3 : ((t).1 71 5).toInt = v1.toInt := congrArg Int32.toInt (ev1)
          have hR : (((t).1 71 5).toInt = 0 ∧ oqB1 g = ((t).1 71 37).toInt ∧ oqB2 g = 0 ∧ oqB3 g = -1 ∧ ((t).1 71 6).toInt = -1) ∨ (((t).1 71 5).toInt ≠ 0 ∧ oqB1 g = -1 ∧ oqB2 g = ((t).1 71 5).toInt ∧ oqB3 g = ((t).1 71 6).toInt) := by first | (right; have h9 := oqRS_bad iv8 (by omega); omega) | (left; have h9 := oqBu_end hBu (by omega); omega)
          have hX9 : owHid (((t).1 71 5).toInt = 0 → (owRU (oqB4 g) (owB7 g) (t) ∧ ((t).1 71 54).toInt = owB6 g ∧ ((t).1 104 2).toInt = oqB4 g ∧ oqB4 g ≤ 12 ∧ oqB1 g ≠ -1)) := fun h9 => by exfalso; omega
          refine r_aload_n C (j := 0) (oDec_at oX12_book 25 rfl) rfl rfl ?_
          have lk4 : ((t).1 71 5).toInt = v1.toInt := congrArg Int32.toInt (ev1)
          refine r_callVi C oCl12 rfl miX12_isTaken mlX12_258 (ct4_X12_isTaken l E (t)  ) (by decide) rfl rfl rfl (Nat.le_of_ble_eq_true rfl) (oDec_at oX12_book 26 rfl) (fun r6 u5 pu5 fu5 => ?_)
          try dsimp only at pu5
          try simp only [lk4] at pu5
          obtain ⟨pu5_0, pu5_1, pu5_2⟩ := pu5
          have lu7 : ((u5).1 71 5).toInt = v1.toInt := congrArg Int32.toInt (((fu5 71 5 rfl).1).trans (ev1))
          have rr6 := n_rng r6
          refine r_if_ne C 54 (oDec_at oX12_book 27 rfl) (by decide) (fun cd8 => ?_) (fun cd8 => ?_)
          · skip
            have lk9 : ((u5).1 71 5).toInt = v1.toInt := congrArg Int32.toInt (((fu5 71 5 rfl).1).trans (ev1))
            have lk10 : ((u5).1 71 54).toInt = (t.1 71 54).toInt := congrArg Int32.toInt ((fu5 71 54 rfl).1)
            have lk11 : ((u5).1 71 45).toInt = (t.1 71 45).toInt := congrArg Int32.toInt ((fu5 71 45 rfl).1)
            have lk12 : ((u5).1 71 2).toInt = (t.1 71 2).toInt := congrArg Int32.toInt ((fu5 71 2 rfl).1)
            have hX8 := hX9 (by omega)
            obtain ⟨hX81, hX82, hX83, hX84, hX85⟩ := hX8
            have hX86 : ((u5).1 71 54).toInt = owB6 g := by rw [(fu5 71 54 rfl).1]; exact hX82
            have hX87 : ((u5).1 104 2).toInt = oqB4 g := by rw [(fu5 104 2 rfl).1]; exact hX83
            have hX8 : owRU (oqB4 g) (owB7 g) (t) ∧ True := ⟨hX81, trivial⟩
            have hq13 : oBD (u5) := oBB_BD (oBB_fr fu5 rfl iv0) (by omega)
            have hq14 : owRU (oqB4 g) (owB7 g) (u5) := owRU_fr fu5 rfl hX8.1
            refine r_aload_n C (j := 0) (oDec_at oX12_book 30 rfl) rfl rfl ?_
            refine r_getF (k := 49) (b := 104) C oCl12 rfl (by decide) flX12_114 rfl rfl rfl (oDec_at oX12_book 31 rfl) ?_
            refine r_iconst C (oDec_at oX12_book 32 rfl) (v := k0) (by rw [qk0]; rfl) ?_
            refine r_aload_n C (j := 0) (oDec_at oX12_book 33 rfl) rfl rfl ?_
            refine r_getF (k := 49) (b := 104) C oCl12 rfl (by decide) flX12_114 rfl rfl rfl (oDec_at oX12_book 34 rfl) ?_
            refine r_iconst C (oDec_at oX12_book 35 rfl) (v := k2) (by rw [qk2]; rfl) ?_
            refine r_pc C 64 rfl ?_
            obtain ⟨v16, ev16⟩ : ∃ z : Int32, (u5).1 104 k2.toNatClampNeg = z := ⟨_, rfl⟩
            have av16 : t.1 104 k2.toNatClampNeg = v16 := ((fu5 104 k2.toNatClampNeg rfl).1).symm.trans ev16
            have gv16 : (t.1 104 k2.toNatClampNeg).toInt = v16.toInt := congrArg Int32.toInt (((fu5 104 k2.toNatClampNeg rfl).1).symm.trans ev16)
            refine r_iald (n := 4) (lo := 0) (hi := 12) C v16 rfl (by decide) rfl rfl ⟨by omega, by omega⟩ (by decide) ev16 rfl rfl (oDec_at oX12_book 36 rfl) (fun b15 b15h => ?_)
            have hw29 : v16.toInt = oqB4 g := oqWm2 ev16 (by omega) hX87
            refine r_iast (n := 4) (lo := 0) (hi := 12) C rfl (by decide) rfl rfl ⟨by omega, by omega⟩ (by decide) rfl rfl rfl rfl ⟨by omega, by omega⟩ (oDec_at oX12_book 37 rfl) ?_
            have hq17 : owM0 (oqB4 g) ((pI u5 104 k0.toNatClampNeg v16)) := oqWm0 hw29 ek0
            refine r_aload_n C (j := 0) (oDec_at oX12_book 38 rfl) rfl rfl ?_
            refine r_getF (k := 49) (b := 104) C oCl12 rfl (by decide) flX12_114 rfl rfl rfl (oDec_at oX12_book 39 rfl) ?_
            refine r_iconst C (oDec_at oX12_book 40 rfl) (v := k1) (by rw [qk1]; rfl) ?_
            refine r_aload_n C (j := 0) (oDec_at oX12_book 41 rfl) rfl rfl ?_
            refine r_pc C 72 rfl ?_
            refine r_getF (k := 49) (b := 104) C oCl12 rfl (by decide) flX12_114 rfl rfl rfl (oDec_at oX12_book 42 rfl) ?_
            refine r_iconst C (oDec_at oX12_book 43 rfl) (v := k3) (by rw [qk3]; rfl) ?_
            obtain ⟨v19, ev19⟩ : ∃ z : Int32, ((pI u5 104 k0.toNatClampNeg v16)).1 104 k3.toNatClampNeg = z := ⟨_, rfl⟩
            have gv19 : (((pI u5 104 k0.toNatClampNeg v16)).1 104 k3.toNatClampNeg).toInt = v19.toInt := congrArg Int32.toInt (ev19)
            refine r_iald (n := 4) (lo := 0) (hi := 12) C v19 rfl (by decide) rfl rfl ⟨by omega, by omega⟩ (by decide) ev19 rfl rfl (oDec_at oX12_book 44 rfl) (fun b18 b18h => ?_)
            refine r_iast (n := 4) (lo := 0) (hi := 12) C rfl (by decide) rfl rfl ⟨by omega, by omega⟩ (by decide) rfl rfl rfl rfl ⟨by omega, by omega⟩ (oDec_at oX12_book 45 rfl) ?_
            have hq20 : oM2 ((pI (pI u5 104 k0.toNatClampNeg v16) 104 k1.toNatClampNeg v19)) := oM2_put (by assumption) (by assumption) ek0 ek1 ek2 ek3
            have hq21 : oBD ((pI (pI u5 104 k0.toNatClampNeg v16) 104 k1.toNatClampNeg v19)) := oBD_m2 hq13 ek0 ek1
            have hq22 : owM0 (oqB4 g) ((pI (pI u5 104 k0.toNatClampNeg v16) 104 k1.toNatClampNeg v19)) := owM0_1 hq17 (by omega)
            refine r_aload_n C (j := 0) (oDec_at oX12_book 46 rfl) rfl rfl ?_
            refine r_aload_n C (j := 0) (oDec_at oX12_book 47 rfl) rfl rfl ?_
            refine r_pc C 80 rfl ?_
            obtain ⟨v23, ev23⟩ : ∃ z : Int32, ((pI (pI u5 104 k0.toNatClampNeg v16) 104 k1.toNatClampNeg v19)).1 71 54 = z := ⟨_, rfl⟩
            have gv23 : (t.1 71 54).toInt = v23.toInt := congrArg Int32.toInt ((((pI_ne (a := 71) (b := 54) (c := 104) _ _ (Or.inl (by decide)))).trans (((pI_ne (a := 71) (b := 54) (c := 104) _ _ (Or.inl (by decide)))).trans ((fu5 71 54 rfl).1))).symm.trans ev23)
            have ggv23 : (((pI (pI u5 104 k0.toNatClampNeg v16) 104 k1.toNatClampNeg v19)).1 71 54).toInt = v23.toInt := congrArg Int32.toInt ev23
            have rv23 := n_rng v23
            refine r_geti (k := 54) (lo := (-2147483648)) (hi := 2147483647) C v23 oCl12 rfl (by decide) flX12_344 rfl rfl (ev23) rfl rfl (oDec_at oX12_book 48 rfl) (fun _ _ => ?_)
            refine r_puti (k := 53) (lo := 2) (hi := 12) C oCl12 rfl (by decide) flX12_127 rfl rfl rfl rfl rfl rfl rfl rfl ⟨by omega, by omega⟩ (oDec_at oX12_book 49 rfl) ?_
            have hmm9 : owMM (owB6 g) ((pI (pI (pI u5 104 k0.toNatClampNeg v16) 104 k1.toNatClampNeg v19) 71 53 v23)) := (congrArg Int32.toInt (pI_self _ _ _ _)).trans (by omega)
            have hq24 : owMM (owB6 g) ((pI (pI (pI u5 104 k0.toNatClampNeg v16) 104 k1.toNatClampNeg v19) 71 53 v23)) := hmm9
            refine r_iconst C (oDec_at oX12_book 50 rfl) (v := k0) (by rw [qk0]; rfl) ?_
            refine r_istore_n C (lv' := [(0, .ref (oad E 71)), (1, .int k0)]) [1, 0] (oDec_at oX12_book 51 rfl) rfl (by decide) rfl ?_
            have lk25 : (((pI (pI (pI u5 104 k0.toNatClampNeg v16) 104 k1.toNatClampNeg v19) 71 53 v23)).1 71 1).toInt = (t.1 71 1).toInt := congrArg Int32.toInt (((pI_ne (a := 71) (b := 1) (c := 71) (k := 53) _ _ (Or.inr (by decide)))).trans (((pI_ne (a := 71) (b := 1) (c := 104) _ _ (Or.inl (by decide)))).trans (((pI_ne (a := 71) (b := 1) (c := 104) _ _ (Or.inl (by decide)))).trans ((fu5 71 1 rfl).1))))
            have lk26 : (((pI (pI (pI u5 104 k0.toNatClampNeg v16) 104 k1.toNatClampNeg v19) 71 53 v23)).1 71 37).toInt = (t.1 71 37).toInt := congrArg Int32.toInt (((pI_ne (a := 71) (b := 37) (c := 71) (k := 53) _ _ (Or.inr (by decide)))).trans (((pI_ne (a := 71) (b := 37) (c := 104) _ _ (Or.inl (by decide)))).trans (((pI_ne (a := 71) (b := 37) (c := 104) _ _ (Or.inl (by decide)))).trans ((fu5 71 37 rfl).1))))
            have lk27 : (((pI (pI (pI u5 104 k0.toNatClampNeg v16) 104 k1.toNatClampNeg v19) 71 53 v23)).1 71 7).toInt = (u5.1 71 7).toInt := congrArg Int32.toInt (((pI_ne (a := 71) (b := 7) (c := 71) (k := 53) _ _ (Or.inr (by decide)))).trans (((pI_ne (a := 71) (b := 7) (c := 104) _ _ (Or.inl (by decide)))).trans ((pI_ne (a := 71) (b := 7) (c := 104) _ _ (Or.inl (by decide))))))
            have lk28 : (((pI (pI (pI u5 104 k0.toNatClampNeg v16) 104 k1.toNatClampNeg v19) 71 53 v23)).1 71 8).toInt = (u5.1 71 8).toInt := congrArg Int32.toInt (((pI_ne (a := 71) (b := 8) (c := 71) (k := 53) _ _ (Or.inr (by decide)))).trans (((pI_ne (a := 71) (b := 8) (c := 104) _ _ (Or.inl (by decide)))).trans ((pI_ne (a := 71) (b := 8) (c := 104) _ _ (Or.inl (by decide))))))
            exact (ih (n - 1) (by omega)).2.1 ((pI (pI (pI u5 104 k0.toNatClampNeg v16) 104 k1.toNatClampNeg v19) 71 53 v23)) k0  (oBD_fr (oFr_oneI (q := 12) (m := 53) rfl (by rfl)) rfl hq21) (oM2_fr (oFr_oneI (q := 12) (m := 53) rfl (by rfl)) rfl hq20) (by first | exact oCf_0 (by omega)) (by omega) (by omega) (by omega) (owM0_fr (oFr_oneI (q := 12) (m := 53) rfl (by rfl)) rfl hq22) hq24 (owRU_fr (oFr_oneI (q := 12) (m := 53) rfl (by rfl)) rfl (owRU_fr (oFr_oneI (q := 80) (m := 9999) rfl (by rfl)) rfl (owRU_fr (oFr_oneI (q := 80) (m := 9999) rfl (by rfl)) rfl hq14))) (by omega) (by first | exact owCF_nx iv10 rfl (by omega) (by omega) hfr9 hto9 | (intro j hj; exfalso; omega)) (by omega)
          · skip
            have hq29 : owBE (owRb g R0) (owWb g W0) (u5) := (by rw [show owRb g R0 = R0 from if_pos (by omega), show owWb g W0 = W0 from if_pos (by omega)]; exact owBE_kp hp4 (hCq ▸ (owC0_fr fu5 rfl iv9)) (by rw [← hFq, ← hTq, ← hnq]; exact (owLw_fr fu5 rfl iv10)) hR12)
            have hq30 : owMM (owMb g me0) (u5) := (by rw [show owMb g me0 = me0 from if_pos (by omega)]; exact (owMM_fr fu5 rfl iv11))
            refine r_iconst C (oDec_at oX12_book 28 rfl) (v := km1) (by rw [qkm1]; rfl) ?_
            have hq31 : oBI (u5) := oBB_BI (oBB_fr fu5 rfl iv0)
            have lk32 : ((u5).1 71 1).toInt = (t.1 71 1).toInt := congrArg Int32.toInt ((fu5 71 1 rfl).1)
            exact r_iret C (oDec_at oX12_book 29 rfl) ⟨_, rfl, ⟨hq31, by omega, by omega, by omega, by omega, hq29, hq30⟩⟩
        · skip
          have hj0 := oB1_0 (x := t.1 71 5) (by omega)
          obtain ⟨hb6, R, M, N, me, W, hR2, hM3, hNR, hBu, hRM, hBv9, hRB9, hme9⟩ := iv12 (by omega)
          have hq33 : oqNR N M (t) := hNR
          have hq34 : owYl (oqRy 0 t) (t) := fun _ => rfl
          have hq35 : owRB R W (oqRy 0 t) (t) := hRB9
          refine r_aload_n C (j := 0) (oDec_at oX12_book 18 rfl) rfl rfl ?_
          refine r_callVi C oCl12 rfl miX12_look mlX12_185 (ct4_X12_look l E (t)  (g) ((t.1 71 2).toInt) (by omega) iv5) (by decide) rfl rfl rfl (Nat.le_of_ble_eq_true rfl) (oDec_at oX12_book 19 rfl) (fun r37 u36 pu36 fu36 => ?_)
          try dsimp only at pu36
          obtain ⟨pu36_0, pu36_1, pu36_2, pu36_3, pu36_4, pu36_5⟩ := pu36
          have rr37 := n_rng r37
          refine r_iconst C (oDec_at oX12_book 20 rfl) (v := km1) (by rw [qkm1]; rfl) ?_
          refine r_icmp_eq C 45 (oDec_at oX12_book 21 rfl) (by decide) (fun cd38 => ?_) (fun cd38 => ?_)
          · skip
            have lk39 : ((u36).1 71 5).toInt = v1.toInt := congrArg Int32.toInt (((fu36 71 5 rfl).1).trans (ev1))
            have lk40 : ((u36).1 71 6).toInt = (t.1 71 6).toInt := congrArg Int32.toInt ((fu36 71 6 rfl).1)
            have lk41 : ((u36).1 71 37).toInt = (t.1 71 37).toInt := congrArg Int32.toInt ((fu36 71 37 rfl).1)
            have hR : (((u36).1 71 5).toInt = 0 ∧ oqB1 g = ((u36).1 71 37).toInt ∧ oqB2 g = 0 ∧ oqB3 g = -1 ∧ ((u36).1 71 6).toInt = -1) ∨ (((u36).1 71 5).toInt ≠ 0 ∧ oqB1 g = -1 ∧ oqB2 g = ((u36).1 71 5).toInt ∧ oqB3 g = ((u36).1 71 6).toInt) := by first | (right; have h9 := oqRS_bad iv8 (by omega); omega) | (left; have h9 := oqBu_end hBu (by omega); omega)
            have hX9 : owHid (((u36).1 71 5).toInt = 0 → (owRU (oqB4 g) (owB7 g) (u36) ∧ ((u36).1 71 54).toInt = owB6 g ∧ ((u36).1 104 2).toInt = oqB4 g ∧ oqB4 g ≤ 12 ∧ oqB1 g ≠ -1)) := by first | (intro h9; exfalso; omega) | (intro h9; have h8 := oqBu_end hBu (by omega); have h7 := owBu_end hBv9 (by omega); have h6 := hBu.1; rw [h8.2.2.2.1, h7.1, h7.2]; exact ⟨owRU_fr fu36 rfl hRB9, by rw [(fu36 71 54 rfl).1]; exact hme9, by rw [(fu36 104 2 rfl).1]; exact hR2, by omega, by omega⟩)
            refine r_aload_n C (j := 0) (oDec_at oX12_book 25 rfl) rfl rfl ?_
            have lk42 : ((u36).1 71 5).toInt = v1.toInt := congrArg Int32.toInt (((fu36 71 5 rfl).1).trans (ev1))
            have lk43 : ((u36).1 71 6).toInt = (t.1 71 6).toInt := congrArg Int32.toInt ((fu36 71 6 rfl).1)
            refine r_callVi C oCl12 rfl miX12_isTaken mlX12_258 (ct4_X12_isTaken l E (u36)  ) (by decide) rfl rfl rfl (Nat.le_of_ble_eq_true rfl) (oDec_at oX12_book 26 rfl) (fun r45 u44 pu44 fu44 => ?_)
            try dsimp only at pu44
            try simp only [lk42, lk43] at pu44
            obtain ⟨pu44_0, pu44_1, pu44_2⟩ := pu44
            have lu46 : ((u44).1 71 5).toInt = v1.toInt := congrArg Int32.toInt (((fu44 71 5 rfl).1).trans (((fu36 71 5 rfl).1).trans (ev1)))
            have rr45 := n_rng r45
            refine r_if_ne C 54 (oDec_at oX12_book 27 rfl) (by decide) (fun cd47 => ?_) (fun cd47 => ?_)
            · skip
              have lk48 : ((u44).1 71 5).toInt = v1.toInt := congrArg Int32.toInt (((fu44 71 5 rfl).1).trans (((fu36 71 5 rfl).1).trans (ev1)))
              have lk49 : ((u44).1 71 54).toInt = (t.1 71 54).toInt := congrArg Int32.toInt (((fu44 71 54 rfl).1).trans ((fu36 71 54 rfl).1))
              have lk50 : ((u44).1 71 45).toInt = (t.1 71 45).toInt := congrArg Int32.toInt (((fu44 71 45 rfl).1).trans ((fu36 71 45 rfl).1))
              have lk51 : ((u44).1 71 2).toInt = (u36.1 71 2).toInt := congrArg Int32.toInt ((fu44 71 2 rfl).1)
              have hX8 := hX9 (by omega)
              obtain ⟨hX81, hX82, hX83, hX84, hX85⟩ := hX8
              have hX86 : ((u44).1 71 54).toInt = owB6 g := by rw [(fu44 71 54 rfl).1]; exact hX82
              have hX87 : ((u44).1 104 2).toInt = oqB4 g := by rw [(fu44 104 2 rfl).1]; exact hX83
              have hX8 : owRU (oqB4 g) (owB7 g) (u36) ∧ True := ⟨hX81, trivial⟩
              have hq52 : oBD (u44) := oBB_BD (oBB_fr fu44 rfl (oBB_fr fu36 rfl iv0)) (by omega)
              have hq53 : owRU (oqB4 g) (owB7 g) (u44) := owRU_fr fu44 rfl hX8.1
              refine r_aload_n C (j := 0) (oDec_at oX12_book 30 rfl) rfl rfl ?_
              refine r_getF (k := 49) (b := 104) C oCl12 rfl (by decide) flX12_114 rfl rfl rfl (oDec_at oX12_book 31 rfl) ?_
              refine r_iconst C (oDec_at oX12_book 32 rfl) (v := k0) (by rw [qk0]; rfl) ?_
              refine r_aload_n C (j := 0) (oDec_at oX12_book 33 rfl) rfl rfl ?_
              refine r_getF (k := 49) (b := 104) C oCl12 rfl (by decide) flX12_114 rfl rfl rfl (oDec_at oX12_book 34 rfl) ?_
              refine r_iconst C (oDec_at oX12_book 35 rfl) (v := k2) (by rw [qk2]; rfl) ?_
              refine r_pc C 64 rfl ?_
              obtain ⟨v55, ev55⟩ : ∃ z : Int32, (u44).1 104 k2.toNatClampNeg = z := ⟨_, rfl⟩
              have av55 : t.1 104 k2.toNatClampNeg = v55 := (((fu44 104 k2.toNatClampNeg rfl).1).trans ((fu36 104 k2.toNatClampNeg rfl).1)).symm.trans ev55
              have gv55 : (t.1 104 k2.toNatClampNeg).toInt = v55.toInt := congrArg Int32.toInt ((((fu44 104 k2.toNatClampNeg rfl).1).trans ((fu36 104 k2.toNatClampNeg rfl).1)).symm.trans ev55)
              refine r_iald (n := 4) (lo := 0) (hi := 12) C v55 rfl (by decide) rfl rfl ⟨by omega, by omega⟩ (by decide) ev55 rfl rfl (oDec_at oX12_book 36 rfl) (fun b54 b54h => ?_)
              have hw29 : v55.toInt = oqB4 g := oqWm2 ev55 (by omega) hX87
              refine r_iast (n := 4) (lo := 0) (hi := 12) C rfl (by decide) rfl rfl ⟨by omega, by omega⟩ (by decide) rfl rfl rfl rfl ⟨by omega, by omega⟩ (oDec_at oX12_book 37 rfl) ?_
              have hq56 : owM0 (oqB4 g) ((pI u44 104 k0.toNatClampNeg v55)) := oqWm0 hw29 ek0
              refine r_aload_n C (j := 0) (oDec_at oX12_book 38 rfl) rfl rfl ?_
              refine r_getF (k := 49) (b := 104) C oCl12 rfl (by decide) flX12_114 rfl rfl rfl (oDec_at oX12_book 39 rfl) ?_
              refine r_iconst C (oDec_at oX12_book 40 rfl) (v := k1) (by rw [qk1]; rfl) ?_
              refine r_aload_n C (j := 0) (oDec_at oX12_book 41 rfl) rfl rfl ?_
              refine r_pc C 72 rfl ?_
              refine r_getF (k := 49) (b := 104) C oCl12 rfl (by decide) flX12_114 rfl rfl rfl (oDec_at oX12_book 42 rfl) ?_
              refine r_iconst C (oDec_at oX12_book 43 rfl) (v := k3) (by rw [qk3]; rfl) ?_
              obtain ⟨v58, ev58⟩ : ∃ z : Int32, ((pI u44 104 k0.toNatClampNeg v55)).1 104 k3.toNatClampNeg = z := ⟨_, rfl⟩
              have gv58 : (((pI u44 104 k0.toNatClampNeg v55)).1 104 k3.toNatClampNeg).toInt = v58.toInt := congrArg Int32.toInt (ev58)
              refine r_iald (n := 4) (lo := 0) (hi := 12) C v58 rfl (by decide) rfl rfl ⟨by omega, by omega⟩ (by decide) ev58 rfl rfl (oDec_at oX12_book 44 rfl) (fun b57 b57h => ?_)
              refine r_iast (n := 4) (lo := 0) (hi := 12) C rfl (by decide) rfl rfl ⟨by omega, by omega⟩ (by decide) rfl rfl rfl rfl ⟨by omega, by omega⟩ (oDec_at oX12_book 45 rfl) ?_
              have hq59 : oM2 ((pI (pI u44 104 k0.toNatClampNeg v55) 104 k1.toNatClampNeg v58)) := oM2_put (by assumption) (by assumption) ek0 ek1 ek2 ek3
              have hq60 : oBD ((pI (pI u44 104 k0.toNatClampNeg v55) 104 k1.toNatClampNeg v58)) := oBD_m2 hq52 ek0 ek1
              have hq61 : owM0 (oqB4 g) ((pI (pI u44 104 k0.toNatClampNeg v55) 104 k1.toNatClampNeg v58)) := owM0_1 hq56 (by omega)
              refine r_aload_n C (j := 0) (oDec_at oX12_book 46 rfl) rfl rfl ?_
              refine r_aload_n C (j := 0) (oDec_at oX12_book 47 rfl) rfl rfl ?_
              refine r_pc C 80 rfl ?_
              obtain ⟨v62, ev62⟩ : ∃ z : Int32, ((pI (pI u44 104 k0.toNatClampNeg v55) 104 k1.toNatClampNeg v58)).1 71 54 = z := ⟨_, rfl⟩
              have gv62 : (t.1 71 54).toInt = v62.toInt := congrArg Int32.toInt ((((pI_ne (a := 71) (b := 54) (c := 104) _ _ (Or.inl (by decide)))).trans (((pI_ne (a := 71) (b := 54) (c := 104) _ _ (Or.inl (by decide)))).trans (((fu44 71 54 rfl).1).trans ((fu36 71 54 rfl).1)))).symm.trans ev62)
              have ggv62 : (((pI (pI u44 104 k0.toNatClampNeg v55) 104 k1.toNatClampNeg v58)).1 71 54).toInt = v62.toInt := congrArg Int32.toInt ev62
              have rv62 := n_rng v62
              refine r_geti (k := 54) (lo := (-2147483648)) (hi := 2147483647) C v62 oCl12 rfl (by decide) flX12_344 rfl rfl (ev62) rfl rfl (oDec_at oX12_book 48 rfl) (fun _ _ => ?_)
              refine r_puti (k := 53) (lo := 2) (hi := 12) C oCl12 rfl (by decide) flX12_127 rfl rfl rfl rfl rfl rfl rfl rfl ⟨by omega, by omega⟩ (oDec_at oX12_book 49 rfl) ?_
              have hmm9 : owMM (owB6 g) ((pI (pI (pI u44 104 k0.toNatClampNeg v55) 104 k1.toNatClampNeg v58) 71 53 v62)) := (congrArg Int32.toInt (pI_self _ _ _ _)).trans (by omega)
              have hq63 : owMM (owB6 g) ((pI (pI (pI u44 104 k0.toNatClampNeg v55) 104 k1.toNatClampNeg v58) 71 53 v62)) := hmm9
              refine r_iconst C (oDec_at oX12_book 50 rfl) (v := k0) (by rw [qk0]; rfl) ?_
              refine r_istore_n C (lv' := [(0, .ref (oad E 71)), (1, .int k0)]) [1, 0] (oDec_at oX12_book 51 rfl) rfl (by decide) rfl ?_
              have lk64 : (((pI (pI (pI u44 104 k0.toNatClampNeg v55) 104 k1.toNatClampNeg v58) 71 53 v62)).1 71 1).toInt = (t.1 71 1).toInt := congrArg Int32.toInt (((pI_ne (a := 71) (b := 1) (c := 71) (k := 53) _ _ (Or.inr (by decide)))).trans (((pI_ne (a := 71) (b := 1) (c := 104) _ _ (Or.inl (by decide)))).trans (((pI_ne (a := 71) (b := 1) (c := 104) _ _ (Or.inl (by decide)))).trans (((fu44 71 1 rfl).1).trans ((fu36 71 1 rfl).1)))))
              have lk65 : (((pI (pI (pI u44 104 k0.toNatClampNeg v55) 104 k1.toNatClampNeg v58) 71 53 v62)).1 71 37).toInt = (t.1 71 37).toInt := congrArg Int32.toInt (((pI_ne (a := 71) (b := 37) (c := 71) (k := 53) _ _ (Or.inr (by decide)))).trans (((pI_ne (a := 71) (b := 37) (c := 104) _ _ (Or.inl (by decide)))).trans (((pI_ne (a := 71) (b := 37) (c := 104) _ _ (Or.inl (by decide)))).trans (((fu44 71 37 rfl).1).trans ((fu36 71 37 rfl).1)))))
              have lk66 : (((pI (pI (pI u44 104 k0.toNatClampNeg v55) 104 k1.toNatClampNeg v58) 71 53 v62)).1 71 7).toInt = (u44.1 71 7).toInt := congrArg Int32.toInt (((pI_ne (a := 71) (b := 7) (c := 71) (k := 53) _ _ (Or.inr (by decide)))).trans (((pI_ne (a := 71) (b := 7) (c := 104) _ _ (Or.inl (by decide)))).trans ((pI_ne (a := 71) (b := 7) (c := 104) _ _ (Or.inl (by decide))))))
              have lk67 : (((pI (pI (pI u44 104 k0.toNatClampNeg v55) 104 k1.toNatClampNeg v58) 71 53 v62)).1 71 8).toInt = (u44.1 71 8).toInt := congrArg Int32.toInt (((pI_ne (a := 71) (b := 8) (c := 71) (k := 53) _ _ (Or.inr (by decide)))).trans (((pI_ne (a := 71) (b := 8) (c := 104) _ _ (Or.inl (by decide)))).trans ((pI_ne (a := 71) (b := 8) (c := 104) _ _ (Or.inl (by decide))))))
              exact (ih (n - 1) (by omega)).2.1 ((pI (pI (pI u44 104 k0.toNatClampNeg v55) 104 k1.toNatClampNeg v58) 71 53 v62)) k0  (oBD_fr (oFr_oneI (q := 12) (m := 53) rfl (by rfl)) rfl hq60) (oM2_fr (oFr_oneI (q := 12) (m := 53) rfl (by rfl)) rfl hq59) (by first | exact oCf_0 (by omega)) (by omega) (by omega) (by omega) (owM0_fr (oFr_oneI (q := 12) (m := 53) rfl (by rfl)) rfl hq61) hq63 (owRU_fr (oFr_oneI (q := 12) (m := 53) rfl (by rfl)) rfl (owRU_fr (oFr_oneI (q := 80) (m := 9999) rfl (by rfl)) rfl (owRU_fr (oFr_oneI (q := 80) (m := 9999) rfl (by rfl)) rfl hq53))) (by omega) (by first | exact owCF_nx iv10 rfl (by omega) (by omega) hfr9 hto9 | (intro j hj; exfalso; omega)) (by omega)
            · skip
              have hq68 : owBE (owRb g R0) (owWb g W0) (u44) := (by rw [show owRb g R0 = R0 from if_pos (by omega), show owWb g W0 = W0 from if_pos (by omega)]; exact owBE_kp hp4 (hCq ▸ (owC0_fr fu44 rfl (owC0_fr fu36 rfl iv9))) (by rw [← hFq, ← hTq, ← hnq]; exact (owLw_fr fu44 rfl (owLw_fr fu36 rfl iv10))) hR12)
              have hq69 : owMM (owMb g me0) (u44) := (by rw [show owMb g me0 = me0 from if_pos (by omega)]; exact (owMM_fr fu44 rfl (owMM_fr fu36 rfl iv11)))
              refine r_iconst C (oDec_at oX12_book 28 rfl) (v := km1) (by rw [qkm1]; rfl) ?_
              have hq70 : oBI (u44) := oBB_BI (oBB_fr fu44 rfl (oBB_fr fu36 rfl iv0))
              have lk71 : ((u44).1 71 1).toInt = (t.1 71 1).toInt := congrArg Int32.toInt (((fu44 71 1 rfl).1).trans ((fu36 71 1 rfl).1))
              exact r_iret C (oDec_at oX12_book 29 rfl) ⟨_, rfl, ⟨hq70, by omega, by omega, by omega, by omega, hq68, hq69⟩⟩
          · skip
            have lc72 : ((u36).1 104 2).toInt = (t.1 104 2).toInt := congrArg Int32.toInt ((fu36 104 2 rfl).1)
            have lc73 : ((u36).1 104 3).toInt = (t.1 104 3).toInt := congrArg Int32.toInt ((fu36 104 3 rfl).1)
            have lk74 : ((u36).1 71 5).toInt = v1.toInt := congrArg Int32.toInt (((fu36 71 5 rfl).1).trans (ev1))
            have lk75 : ((u36).1 71 6).toInt = (t.1 71 6).toInt := congrArg Int32.toInt ((fu36 71 6 rfl).1)
            have lk76 : ((u36).1 71 37).toInt = (t.1 71 37).toInt := congrArg Int32.toInt ((fu36 71 37 rfl).1)
            have hss := oqSk_sk (g := g) (a := (t.1 71 2).toInt) ⟨by omega, by omega⟩
            have hgs : g (oqSk g (oqSk g (t.1 71 2).toInt)) = g (oqSk g (t.1 71 2).toInt) := by rw [hss]
            refine r_aload_n C (j := 0) (oDec_at oX12_book 22 rfl) rfl rfl ?_
            have lk77 : ((u36).1 71 5).toInt = v1.toInt := congrArg Int32.toInt (((fu36 71 5 rfl).1).trans (ev1))
            have lk78 : ((u36).1 71 45).toInt = (t.1 71 45).toInt := congrArg Int32.toInt ((fu36 71 45 rfl).1)
            have lk79 : ((u36).1 71 5).toInt = v1.toInt := congrArg Int32.toInt (((fu36 71 5 rfl).1).trans (ev1))
            have lk80 : ((u36).1 71 54).toInt = (t.1 71 54).toInt := congrArg Int32.toInt ((fu36 71 54 rfl).1)
            have lk81 : ((u36).1 71 4).toInt = (t.1 71 4).toInt := congrArg Int32.toInt ((fu36 71 4 rfl).1)
            have lk82 : ((u36).1 71 6).toInt = (t.1 71 6).toInt := congrArg Int32.toInt ((fu36 71 6 rfl).1)
            have lk83 : ((u36).1 71 54).toInt = (t.1 71 54).toInt := congrArg Int32.toInt ((fu36 71 54 rfl).1)
            have lk84 : ((u36).1 71 37).toInt = (t.1 71 37).toInt := congrArg Int32.toInt ((fu36 71 37 rfl).1)
            have lk85 : ((u36).1 71 37).toInt = (t.1 71 37).toInt := congrArg Int32.toInt ((fu36 71 37 rfl).1)
            have lk86 : ((u36).1 71 37).toInt = (t.1 71 37).toInt := congrArg Int32.toInt ((fu36 71 37 rfl).1)
            have lk87 : ((u36).1 71 37).toInt = (t.1 71 37).toInt := congrArg Int32.toInt ((fu36 71 37 rfl).1)
            have lk88 : ((u36).1 71 37).toInt = (t.1 71 37).toInt := congrArg Int32.toInt ((fu36 71 37 rfl).1)
            have lk89 : ((u36).1 71 37).toInt = (t.1 71 37).toInt := congrArg Int32.toInt ((fu36 71 37 rfl).1)
            have lk90 : ((u36).1 71 37).toInt = (t.1 71 37).toInt := congrArg Int32.toInt ((fu36 71 37 rfl).1)
            have lc91 : ((u36).1 104 3).toInt = (t.1 104 3).toInt := congrArg Int32.toInt ((fu36 104 3 rfl).1)
            have lc92 : ((u36).1 104 2).toInt = (t.1 104 2).toInt := congrArg Int32.toInt ((fu36 104 2 rfl).1)
            have lc93 : ((u36).1 104 3).toInt = (t.1 104 3).toInt := congrArg Int32.toInt ((fu36 104 3 rfl).1)
            refine r_callVv C oCl12 rfl miX12_bookTold mlX12_353 (ct9_X12_bookTold l E (u36)  (g) (oqSk g (t.1 71 2).toInt) ((t.1 71 4).toInt) (R) (M) (N) (oqRy 0 t) (W) (me) (Cq) (Fq) (Tq) (nq) (oBB_fr fu36 rfl iv0) (by omega) (by omega) (by omega) (by omega) (by omega) (by omega) (by omega) (by omega) (by omega) (oqNR_fr fu36 rfl hq33) (by omega) (by omega) (oqZ_fr fu36 rfl iv5) (oqWd_fr fu36 rfl iv6) (owYl_fr fu36 rfl hq34) (owRB_fr fu36 rfl hq35) (by omega) (owC0_fr fu36 rfl iv9) (owLw_fr fu36 rfl iv10)) (by decide) rfl rfl rfl (Nat.le_of_ble_eq_true rfl) (oDec_at oX12_book 23 rfl) (fun u94 pu94 fu94 => ?_)
            try dsimp only at pu94
            try simp only [lk77, lk78, lk79, lk80, lk81, lk82, lk83, lk84, lk85, lk86, lk87, lk88, lk89, lk90] at pu94
            obtain ⟨pu94_0, pu94_1, pu94_2, pu94_3, pu94_4, pu94_5, pu94_6, pu94_7, pu94_8, pu94_9, pu94_10⟩ := pu94
            refine r_goto C (tgt := 23) (oDec_at oX12_book 24 rfl) (by decide) ?_
            have lk96 : ((u94).1 71 1).toInt = (t.1 71 1).toInt := congrArg Int32.toInt (((fu94 71 1 rfl).1).trans ((fu36 71 1 rfl).1))
            have lk97 : ((u94).1 71 3).toInt = (t.1 71 3).toInt := congrArg Int32.toInt (((fu94 71 3 rfl).1).trans ((fu36 71 3 rfl).1))
            have hj := oB1_f ((u94).1 71 5)
            exact (ih (n - 1) (by omega)).1 (u94)   pu94_0 (by omega) (by omega) (by omega) (by omega) (by first | exact (oqZ_fr fu94 rfl (oqZ_fr fu36 rfl iv5)) | exact oqZ_of (by assumption) (by omega)) (oqWd_fr fu94 rfl (oqWd_fr fu36 rfl iv6)) (by omega) (by first | exact oqRS_nx hBu (by omega) hRM (by first | exact pu94_4 | omega) (by first | exact pu94_5 | omega) (by first | exact pu94_6 | omega) pu94_7 (by omega) | exact oqRS_0 (by omega) (by omega) (by omega) (by omega) (by omega) (by omega) (by omega)) pu94_8 pu94_9 (owMM_fr fu94 rfl (owMM_fr fu36 rfl iv11)) (by first | exact owRY_nx hBu hBv9 (by omega) hRM (fun h9 => by have h8 := pu94_4 (by omega); omega) (fun h1 => pu94_5 (by omega)) (fun h1 => pu94_7 (by omega)) (fun h1 => pu94_10 (by omega)) (fun h9 => by have h8 := pu94_1 (by omega); omega) | exact owRY_0 (by omega) (by omega) (by omega) (by omega) (by omega) (by omega) (by omega)) (by omega) (by omega)
      · intro t x1  iv0 iv1 iv2 iv3 iv4 iv5 iv6 iv7 iv8 iv9 iv10 hmu
        have rx1 := n_rng x1
        refine r_iload_n C (j := 1) (oDec_at oX12_book 52 rfl) rfl rfl ?_
        refine r_bipush C (oDec_at oX12_book 53 rfl) (v := k24) (by rw [qk24]; rfl) ?_
        refine r_icmp_ge C 130 (oDec_at oX12_book 54 rfl) (by decide) (fun cd98 => ?_) (fun cd98 => ?_)
        · skip
          have hq99 : oCg (t) := oCf_g iv2 (by omega)
          refine r_iconst C (oDec_at oX12_book 77 rfl) (v := k0) (by rw [qk0]; rfl) ?_
          refine r_istore_n C (lv' := [(0, .ref (oad E 71)), (1, .int k0)]) [1, 0] (oDec_at oX12_book 78 rfl) rfl (by decide) rfl ?_
          exact (ih (n - 1) (by omega)).2.2.1 (t) k0  iv0 iv1 hq99 (by omega) (by omega) (by omega) iv6 iv7 iv8 (by omega) (by first | exact (by assumption) | exact owCF_c iv10 (by omega)) (by omega)
        · skip
          refine r_aload_n C (j := 0) (oDec_at oX12_book 55 rfl) rfl rfl ?_
          refine r_getF (k := 50) (b := 105) C oCl12 rfl (by decide) flX12_117 rfl rfl rfl (oDec_at oX12_book 56 rfl) ?_
          refine r_iload_n C (j := 1) (oDec_at oX12_book 57 rfl) rfl rfl ?_
          refine r_aload_n C (j := 0) (oDec_at oX12_book 58 rfl) rfl rfl ?_
          refine r_getF (k := 50) (b := 105) C oCl12 rfl (by decide) flX12_117 rfl rfl rfl (oDec_at oX12_book 59 rfl) ?_
          refine r_bipush C (oDec_at oX12_book 60 rfl) (v := k24) (by rw [qk24]; rfl) ?_
          refine r_pc C 105 rfl ?_
          refine r_iload_n C (j := 1) (oDec_at oX12_book 61 rfl) rfl rfl ?_
          obtain ⟨v100, ev100⟩ : ∃ z : Int32, z = k24 + x1 := ⟨_, rfl⟩
          have hv100 : v100.toInt = k24.toInt + x1.toInt := n_add ev100 (by omega) (by omega)
          refine r_iadd C v100 (oDec_at oX12_book 62 rfl) ev100 ?_
          obtain ⟨v102, ev102⟩ : ∃ z : Int32, (t).1 105 v100.toNatClampNeg = z := ⟨_, rfl⟩
          have gv102 : (t.1 105 v100.toNatClampNeg).toInt = v102.toInt := congrArg Int32.toInt (ev102)
          refine r_iald (n := 48) (lo := 0) (hi := 1600) C v102 rfl (by decide) rfl rfl ⟨by omega, by omega⟩ (by decide) ev102 rfl rfl (oDec_at oX12_book 63 rfl) (fun b101 b101h => ?_)
          have hq1 := oIxA 24 (i := v100) (x := x1) ev102 (by omega) (by omega)
          have hfr9 : ∀ j : Nat, (j : Int) = 24 + x1.toInt → t.1 105 j = v102 := fun j hj => by rw [← ev102, show v100.toNatClampNeg = j by (have h8 := n_nat v100; omega)]
          refine r_iast (n := 48) (lo := 0) (hi := 1600) C rfl (by decide) rfl rfl ⟨by omega, by omega⟩ (by decide) rfl rfl rfl rfl ⟨by omega, by omega⟩ (oDec_at oX12_book 64 rfl) ?_
          refine r_aload_n C (j := 0) (oDec_at oX12_book 65 rfl) rfl rfl ?_
          refine r_getF (k := 51) (b := 106) C oCl12 rfl (by decide) flX12_120 rfl rfl rfl (oDec_at oX12_book 66 rfl) ?_
          refine r_pc C 113 rfl ?_
          refine r_iload_n C (j := 1) (oDec_at oX12_book 67 rfl) rfl rfl ?_
          refine r_aload_n C (j := 0) (oDec_at oX12_book 68 rfl) rfl rfl ?_
          refine r_getF (k := 51) (b := 106) C oCl12 rfl (by decide) flX12_120 rfl rfl rfl (oDec_at oX12_book 69 rfl) ?_
          refine r_bipush C (oDec_at oX12_book 70 rfl) (v := k24) (by rw [qk24]; rfl) ?_
          refine r_iload_n C (j := 1) (oDec_at oX12_book 71 rfl) rfl rfl ?_
          obtain ⟨v103, ev103⟩ : ∃ z : Int32, z = k24 + x1 := ⟨_, rfl⟩
          have hv103 : v103.toInt = k24.toInt + x1.toInt := n_add ev103 (by omega) (by omega)
          refine r_iadd C v103 (oDec_at oX12_book 72 rfl) ev103 ?_
          refine r_pc C 122 rfl ?_
          obtain ⟨v105, ev105⟩ : ∃ z : Int32, ((pI t 105 x1.toNatClampNeg v102)).1 106 v103.toNatClampNeg = z := ⟨_, rfl⟩
          have av105 : t.1 106 v103.toNatClampNeg = v105 := ((pI_ne (a := 106) (b := v103.toNatClampNeg) (c := 105) _ _ (Or.inl (by decide)))).symm.trans ev105
          have gv105 : (t.1 106 v103.toNatClampNeg).toInt = v105.toInt := congrArg Int32.toInt (((pI_ne (a := 106) (b := v103.toNatClampNeg) (c := 105) _ _ (Or.inl (by decide)))).symm.trans ev105)
          refine r_iald (n := 48) (lo := 0) (hi := 1600) C v105 rfl (by decide) rfl rfl ⟨by omega, by omega⟩ (by decide) ev105 rfl rfl (oDec_at oX12_book 73 rfl) (fun b104 b104h => ?_)
          have hq2 := oIxA 24 (i := v103) (x := x1) ev105 (by omega) (by omega)
          have hto9 : ∀ j : Nat, (j : Int) = 24 + x1.toInt → t.1 106 j = v105 := fun j hj => by rw [← av105, show v103.toNatClampNeg = j by (have h8 := n_nat v103; omega)]
          refine r_iast (n := 48) (lo := 0) (hi := 1600) C rfl (by decide) rfl rfl ⟨by omega, by omega⟩ (by decide) rfl rfl rfl rfl ⟨by omega, by omega⟩ (oDec_at oX12_book 74 rfl) ?_
          have hq106 : oBD ((pI (pI t 105 x1.toNatClampNeg v102) 106 x1.toNatClampNeg v105)) := oBD_lo iv0 (by omega)
          have hq107 : owRU (oqB4 g) (owB7 g) ((pI (pI t 105 x1.toNatClampNeg v102) 106 x1.toNatClampNeg v105)) := owRU_56 iv8 (by omega)
          obtain ⟨v108, ev108⟩ : ∃ z : Int32, x1 + Int32.ofInt 1 = z := ⟨_, rfl⟩
          have hv108 : v108.toInt = x1.toInt + 1 := n_inc ev108 (by decide) (by omega) (by omega)
          refine r_iinc C (j := 1) (lv' := [(0, .ref (oad E 71)), (1, .int v108)]) v108 [1, 0] (oDec_at oX12_book 75 rfl) rfl ev108 (by decide) rfl ?_
          refine r_goto C (tgt := 88) (oDec_at oX12_book 76 rfl) (by decide) ?_
          have lk109 : (((pI (pI t 105 x1.toNatClampNeg v102) 106 x1.toNatClampNeg v105)).1 71 1).toInt = (t.1 71 1).toInt := congrArg Int32.toInt (((pI_ne (a := 71) (b := 1) (c := 106) _ _ (Or.inl (by decide)))).trans ((pI_ne (a := 71) (b := 1) (c := 105) _ _ (Or.inl (by decide)))))
          have lk110 : (((pI (pI t 105 x1.toNatClampNeg v102) 106 x1.toNatClampNeg v105)).1 71 37).toInt = (t.1 71 37).toInt := congrArg Int32.toInt (((pI_ne (a := 71) (b := 37) (c := 106) _ _ (Or.inl (by decide)))).trans ((pI_ne (a := 71) (b := 37) (c := 105) _ _ (Or.inl (by decide)))))
          have lk111 : (((pI (pI t 105 x1.toNatClampNeg v102) 106 x1.toNatClampNeg v105)).1 71 7).toInt = (t.1 71 7).toInt := congrArg Int32.toInt (((pI_ne (a := 71) (b := 7) (c := 106) _ _ (Or.inl (by decide)))).trans ((pI_ne (a := 71) (b := 7) (c := 105) _ _ (Or.inl (by decide)))))
          have lk112 : (((pI (pI t 105 x1.toNatClampNeg v102) 106 x1.toNatClampNeg v105)).1 71 8).toInt = (t.1 71 8).toInt := congrArg Int32.toInt (((pI_ne (a := 71) (b := 8) (c := 106) _ _ (Or.inl (by decide)))).trans ((pI_ne (a := 71) (b := 8) (c := 105) _ _ (Or.inl (by decide)))))
          exact (ih (n - 1) (by omega)).2.1 ((pI (pI t 105 x1.toNatClampNeg v102) 106 x1.toNatClampNeg v105)) v108  hq106 (oM2_fr (oFr_oneI (q := 82) (m := 9999) rfl (by rfl)) rfl (oM2_fr (oFr_oneI (q := 81) (m := 9999) rfl (by rfl)) rfl iv1)) (by first | exact oCf_step (x := x1) (y := v108) iv2 (by omega) (by omega) (by assumption) (by assumption) | exact oCf_0 (by omega)) (by omega) (by omega) (by omega) (owM0_fr (oFr_oneI (q := 82) (m := 9999) rfl (by rfl)) rfl (owM0_fr (oFr_oneI (q := 81) (m := 9999) rfl (by rfl)) rfl iv6)) (owMM_fr (oFr_oneI (q := 82) (m := 9999) rfl (by rfl)) rfl (owMM_fr (oFr_oneI (q := 81) (m := 9999) rfl (by rfl)) rfl iv7)) hq107 (by omega) (by first | exact owCF_nx iv10 rfl (by omega) (by omega) hfr9 hto9 | (intro j hj; exfalso; omega)) (by omega)
      · intro t x1  iv0 iv1 iv2 iv3 iv4 iv5 iv6 iv7 iv8 iv9 iv10 hmu
        have rx1 := n_rng x1
        refine r_ty C (fun hty => ?_)
        have hty_coded : (0 : Int) ≤ ((t).1 71 45).toInt ∧ ((t).1 71 45).toInt ≤ 1600 := hty.1 71 45
        clear hty
        refine r_iload_n C (j := 1) (oDec_at oX12_book 79 rfl) rfl rfl ?_
        refine r_bipush C (oDec_at oX12_book 80 rfl) (v := k6) (by rw [qk6]; rfl) ?_
        refine r_icmp_ge C 159 (oDec_at oX12_book 81 rfl) (by decide) (fun cd113 => ?_) (fun cd113 => ?_)
        · skip
          refine r_iconst C (oDec_at oX12_book 94 rfl) (v := k0) (by rw [qk0]; rfl) ?_
          refine r_istore_n C (lv' := [(0, .ref (oad E 71)), (1, .int k0)]) [1, 0] (oDec_at oX12_book 95 rfl) rfl (by decide) rfl ?_
          exact (ih (n - 1) (by omega)).2.2.2 (t) k0  iv0 iv1 iv2 (by first | exact oCc_step (x := x1) (y := k0) iv3 (by omega) (by omega) (by assumption) | exact oCc_0 (by omega)) (by omega) (by omega) (by omega) iv6 iv7 iv8 (by omega) iv10 (by first | (intro j hj; exfalso; omega)) (by omega)
        · skip
          refine r_aload_n C (j := 0) (oDec_at oX12_book 82 rfl) rfl rfl ?_
          refine r_getF (k := 52) (b := 107) C oCl12 rfl (by decide) flX12_123 rfl rfl rfl (oDec_at oX12_book 83 rfl) ?_
          refine r_iload_n C (j := 1) (oDec_at oX12_book 84 rfl) rfl rfl ?_
          refine r_aload_n C (j := 0) (oDec_at oX12_book 85 rfl) rfl rfl ?_
          refine r_getF (k := 52) (b := 107) C oCl12 rfl (by decide) flX12_123 rfl rfl rfl (oDec_at oX12_book 86 rfl) ?_
          refine r_bipush C (oDec_at oX12_book 87 rfl) (v := k6) (by rw [qk6]; rfl) ?_
          refine r_pc C 149 rfl ?_
          refine r_iload_n C (j := 1) (oDec_at oX12_book 88 rfl) rfl rfl ?_
          obtain ⟨v114, ev114⟩ : ∃ z : Int32, z = k6 + x1 := ⟨_, rfl⟩
          have hv114 : v114.toInt = k6.toInt + x1.toInt := n_add ev114 (by omega) (by omega)
          refine r_iadd C v114 (oDec_at oX12_book 89 rfl) ev114 ?_
          obtain ⟨v115, ev115⟩ : ∃ z : Int64, (t).2.1 107 v114.toNatClampNeg = z := ⟨_, rfl⟩
          refine r_lald (n := 12) C v115 rfl (by decide) rfl rfl ⟨by omega, by omega⟩ (by decide) ev115 (oDec_at oX12_book 90 rfl) ?_
          refine r_last (n := 12) C rfl (by decide) rfl rfl ⟨by omega, by omega⟩ (by decide) rfl (oDec_at oX12_book 91 rfl) ?_
          obtain ⟨v116, ev116⟩ : ∃ z : Int32, x1 + Int32.ofInt 1 = z := ⟨_, rfl⟩
          have hv116 : v116.toInt = x1.toInt + 1 := n_inc ev116 (by decide) (by omega) (by omega)
          refine r_iinc C (j := 1) (lv' := [(0, .ref (oad E 71)), (1, .int v116)]) v116 [1, 0] (oDec_at oX12_book 92 rfl) rfl ev116 (by decide) rfl ?_
          refine r_goto C (tgt := 132) (oDec_at oX12_book 93 rfl) (by decide) ?_
          have lk117 : (((pL t 107 x1.toNatClampNeg v115)).1 71 1).toInt = (t.1 71 1).toInt := congrArg Int32.toInt ((show ((pL t 107 x1.toNatClampNeg v115)).1 71 1 = t.1 71 1 from rfl))
          have lk118 : (((pL t 107 x1.toNatClampNeg v115)).1 71 37).toInt = (t.1 71 37).toInt := congrArg Int32.toInt ((show ((pL t 107 x1.toNatClampNeg v115)).1 71 37 = t.1 71 37 from rfl))
          have lk119 : (((pL t 107 x1.toNatClampNeg v115)).1 71 7).toInt = (t.1 71 7).toInt := congrArg Int32.toInt ((show ((pL t 107 x1.toNatClampNeg v115)).1 71 7 = t.1 71 7 from rfl))
          have lk120 : (((pL t 107 x1.toNatClampNeg v115)).1 71 8).toInt = (t.1 71 8).toInt := congrArg Int32.toInt ((show ((pL t 107 x1.toNatClampNeg v115)).1 71 8 = t.1 71 8 from rfl))
          exact (ih (n - 1) (by omega)).2.2.1 ((pL t 107 x1.toNatClampNeg v115)) v116  (oBD_fr (oFr_oneL (q := 83) (m := 9999) rfl (by rfl)) rfl iv0) (oM2_fr (oFr_oneL (q := 83) (m := 9999) rfl (by rfl)) rfl iv1) (oCg_fr (oFr_oneL (q := 83) (m := 9999) rfl (by rfl)) rfl iv2) (by omega) (by omega) (by omega) (owM0_fr (oFr_oneL (q := 83) (m := 9999) rfl (by rfl)) rfl iv6) (owMM_fr (oFr_oneL (q := 83) (m := 9999) rfl (by rfl)) rfl iv7) (owRU_fr (oFr_oneL (q := 83) (m := 9999) rfl (by rfl)) rfl iv8) (by omega) (by first | exact (owCF_fr (oFr_oneL (q := 83) (m := 9999) rfl (by rfl)) rfl iv10) | exact owCF_c (by assumption) (by omega)) (by omega)
      · intro t x1  iv0 iv1 iv2 iv3 iv4 iv5 iv6 iv7 iv8 iv9 iv10 iv11 iv12 hmu
        have rx1 := n_rng x1
        refine r_ty C (fun hty => ?_)
        have hty_coded : (0 : Int) ≤ ((t).1 71 45).toInt ∧ ((t).1 71 45).toInt ≤ 1600 := hty.1 71 45
        clear hty
        refine r_iload_n C (j := 1) (oDec_at oX12_book 96 rfl) rfl rfl ?_
        refine r_aload_n C (j := 0) (oDec_at oX12_book 97 rfl) rfl rfl ?_
        obtain ⟨v121, ev121⟩ : ∃ z : Int32, (t).1 71 45 = z := ⟨_, rfl⟩
        have gv121 : (t.1 71 45).toInt = v121.toInt := congrArg Int32.toInt (ev121)
        refine r_geti (k := 45) (lo := 0) (hi := 1600) C v121 oCl12 rfl (by decide) flX12_234 rfl rfl (ev121) rfl rfl (oDec_at oX12_book 98 rfl) (fun b122 b122h => ?_)
        refine r_icmp_ge C 191 (oDec_at oX12_book 99 rfl) (by decide) (fun cd123 => ?_) (fun cd123 => ?_)
        · skip
          have lk124 : ((t).1 71 45).toInt = v121.toInt := congrArg Int32.toInt (ev121)
          refine r_ty C (fun hty => ?_)
          have hmD : ∀ i : Nat, (0 : Int) ≤ ((t).1 104 i).toInt ∧ ((t).1 104 i).toInt ≤ 12 := fun i => hty.1 104 i
          have hmD2 := hmD 2
          have hmD3 := hmD 3
          clear hty
          have hq125 : oBI (t) := oBI_of iv0 iv1 iv2 iv3 (by omega) (by omega) hmD
          have hq126 : owBE (owRb g R0) (owWb g W0) (t) := (by rw [show owRb g R0 = oqB4 g from if_neg (by omega), show owWb g W0 = owB7 g from if_neg (by omega)]; exact owBE_fin iv7 (by omega) iv9 iv11 iv12 (by omega) (by omega))
          have hq127 : owMM (owMb g me0) (t) := (by rw [show owMb g me0 = owB6 g from if_neg (by omega)]; exact iv8)
          refine r_aload_n C (j := 0) (oDec_at oX12_book 112 rfl) rfl rfl ?_
          refine r_iconst C (oDec_at oX12_book 113 rfl) (v := k0) (by rw [qk0]; rfl) ?_
          refine r_puti (k := 69) (lo := 0) (hi := 1) C oCl12 rfl (by decide) flX12_270 rfl rfl rfl rfl rfl (n_bool (by omega)) (n_fitz (by omega)) rfl ⟨by omega, by omega⟩ (oDec_at oX12_book 114 rfl) ?_
          refine r_aload_n C (j := 0) (oDec_at oX12_book 115 rfl) rfl rfl ?_
          obtain ⟨v128, ev128⟩ : ∃ z : Int32, ((pI t 71 69 k0)).1 71 37 = z := ⟨_, rfl⟩
          have gv128 : (t.1 71 37).toInt = v128.toInt := congrArg Int32.toInt (((pI_ne (a := 71) (b := 37) (c := 71) (k := 69) _ _ (Or.inr (by decide)))).symm.trans ev128)
          have ggv128 : (((pI t 71 69 k0)).1 71 37).toInt = v128.toInt := congrArg Int32.toInt ev128
          refine r_geti (k := 37) (lo := 0) (hi := 60) C v128 oCl12 rfl (by decide) flX12_231 rfl rfl (ev128) rfl rfl (oDec_at oX12_book 116 rfl) (fun b129 b129h => ?_)
          have lk130 : (((pI t 71 69 k0)).1 71 1).toInt = (t.1 71 1).toInt := congrArg Int32.toInt ((pI_ne (a := 71) (b := 1) (c := 71) (k := 69) _ _ (Or.inr (by decide))))
          have lk131 : (((pI t 71 69 k0)).1 71 7).toInt = (t.1 71 7).toInt := congrArg Int32.toInt ((pI_ne (a := 71) (b := 7) (c := 71) (k := 69) _ _ (Or.inr (by decide))))
          have lk132 : (((pI t 71 69 k0)).1 71 8).toInt = (t.1 71 8).toInt := congrArg Int32.toInt ((pI_ne (a := 71) (b := 8) (c := 71) (k := 69) _ _ (Or.inr (by decide))))
          exact r_iret C (oDec_at oX12_book 117 rfl) ⟨_, rfl, ⟨(oBI_fr (oFr_oneI (q := 12) (m := 69) rfl (by rfl)) rfl hq125), by omega, by omega, by omega, by omega, (owBE_fr (oFr_oneI (q := 12) (m := 69) rfl (by rfl)) rfl hq126), (owMM_fr (oFr_oneI (q := 12) (m := 69) rfl (by rfl)) rfl hq127)⟩⟩
        · skip
          refine r_aload_n C (j := 0) (oDec_at oX12_book 100 rfl) rfl rfl ?_
          refine r_getF (k := 44) (b := 102) C oCl12 rfl (by decide) flX12_108 rfl rfl rfl (oDec_at oX12_book 101 rfl) ?_
          refine r_iload_n C (j := 1) (oDec_at oX12_book 102 rfl) rfl rfl ?_
          refine r_aload_n C (j := 0) (oDec_at oX12_book 103 rfl) rfl rfl ?_
          refine r_getF (k := 44) (b := 102) C oCl12 rfl (by decide) flX12_108 rfl rfl rfl (oDec_at oX12_book 104 rfl) ?_
          refine r_sipush C (oDec_at oX12_book 105 rfl) (v := k1600) (by rw [qk1600]; rfl) ?_
          refine r_pc C 181 rfl ?_
          refine r_iload_n C (j := 1) (oDec_at oX12_book 106 rfl) rfl rfl ?_
          obtain ⟨v133, ev133⟩ : ∃ z : Int32, z = k1600 + x1 := ⟨_, rfl⟩
          have hv133 : v133.toInt = k1600.toInt + x1.toInt := n_add ev133 (by omega) (by omega)
          refine r_iadd C v133 (oDec_at oX12_book 107 rfl) ev133 ?_
          obtain ⟨v135, ev135⟩ : ∃ z : Int32, (t).1 102 v133.toNatClampNeg = z := ⟨_, rfl⟩
          have gv135 : (t.1 102 v133.toNatClampNeg).toInt = v135.toInt := congrArg Int32.toInt (ev135)
          have rv135 := n_rng v135
          refine r_iald (n := 3200) (lo := (-2147483648)) (hi := 2147483647) C v135 rfl (by decide) rfl rfl ⟨by omega, by omega⟩ (by decide) ev135 rfl rfl (oDec_at oX12_book 108 rfl) (fun _ _ => ?_)
          have hq1 := oIxA 1600 (i := v133) (x := x1) ev135 (by omega) (by omega)
          have hcd9 : ∀ j : Nat, (j : Int) = 1600 + x1.toInt → t.1 102 j = v135 := fun j hj => by rw [← ev135, show v133.toNatClampNeg = j by (have h8 := n_nat v133; omega)]
          refine r_iast (n := 3200) (lo := (-2147483648)) (hi := 2147483647) C rfl (by decide) rfl rfl ⟨by omega, by omega⟩ (by decide) rfl rfl rfl rfl (n_rng _) (oDec_at oX12_book 109 rfl) ?_
          have hq136 : oBD ((pI t 102 x1.toNatClampNeg v135)) := oBD_cd iv0 (by omega)
          have hq137 : owRU (oqB4 g) (owB7 g) ((pI t 102 x1.toNatClampNeg v135)) := owRU_c iv9 (by omega)
          obtain ⟨v138, ev138⟩ : ∃ z : Int32, x1 + Int32.ofInt 1 = z := ⟨_, rfl⟩
          have hv138 : v138.toInt = x1.toInt + 1 := n_inc ev138 (by decide) (by omega) (by omega)
          refine r_iinc C (j := 1) (lv' := [(0, .ref (oad E 71)), (1, .int v138)]) v138 [1, 0] (oDec_at oX12_book 110 rfl) rfl ev138 (by decide) rfl ?_
          refine r_goto C (tgt := 161) (oDec_at oX12_book 111 rfl) (by decide) ?_
          have lk139 : (((pI t 102 x1.toNatClampNeg v135)).1 71 45).toInt = v121.toInt := congrArg Int32.toInt (((pI_ne (a := 71) (b := 45) (c := 102) _ _ (Or.inl (by decide)))).trans (ev121))
          have lk140 : (((pI t 102 x1.toNatClampNeg v135)).1 71 1).toInt = (t.1 71 1).toInt := congrArg Int32.toInt ((pI_ne (a := 71) (b := 1) (c := 102) _ _ (Or.inl (by decide))))
          have lk141 : (((pI t 102 x1.toNatClampNeg v135)).1 71 37).toInt = (t.1 71 37).toInt := congrArg Int32.toInt ((pI_ne (a := 71) (b := 37) (c := 102) _ _ (Or.inl (by decide))))
          have lk142 : (((pI t 102 x1.toNatClampNeg v135)).1 71 7).toInt = (t.1 71 7).toInt := congrArg Int32.toInt ((pI_ne (a := 71) (b := 7) (c := 102) _ _ (Or.inl (by decide))))
          have lk143 : (((pI t 102 x1.toNatClampNeg v135)).1 71 8).toInt = (t.1 71 8).toInt := congrArg Int32.toInt ((pI_ne (a := 71) (b := 8) (c := 102) _ _ (Or.inl (by decide))))
          exact (ih (n - 1) (by omega)).2.2.2 ((pI t 102 x1.toNatClampNeg v135)) v138  hq136 (oM2_fr (oFr_oneI (q := 78) (m := 9999) rfl (by rfl)) rfl iv1) (oCg_fr (oFr_oneI (q := 78) (m := 9999) rfl (by rfl)) rfl iv2) (by first | exact oCc_step (x := x1) (y := v138) iv3 (by omega) (by omega) (by assumption) | exact oCc_0 (by omega)) (by omega) (by omega) (by omega) (owM0_fr (oFr_oneI (q := 78) (m := 9999) rfl (by rfl)) rfl iv7) (owMM_fr (oFr_oneI (q := 78) (m := 9999) rfl (by rfl)) rfl iv8) hq137 (by omega) (owCF_fr (oFr_oneI (q := 78) (m := 9999) rfl (by rfl)) rfl iv11) (by first | exact owCD_nx iv12 rfl (by omega) (by omega) hcd9 | (intro j hj; exfalso; omega)) (by omega)
  have hq144 : owC0 Cq (s) := fun j _ => by rw [hCq]
  have hq145 : owLw Fq Tq nq (s) := ⟨fun j _ => ⟨by rw [hFq], by rw [hTq]⟩, hnq.symm⟩
  refine r_aload_n C (j := 0) (oDec_at oX12_book 0 rfl) rfl rfl ?_
  refine r_callVv C oCl12 rfl miX12_begins mlX12_252 (ct4_X12_begins l E (s)  ) (by decide) rfl rfl rfl (Nat.le_of_ble_eq_true rfl) (oDec_at oX12_book 1 rfl) (fun u146 pu146 fu146 => ?_)
  try dsimp only at pu146
  obtain ⟨pu146_0, pu146_1, pu146_2, pu146_3, pu146_4, pu146_5, pu146_6, pu146_7⟩ := pu146
  refine r_aload_n C (j := 0) (oDec_at oX12_book 2 rfl) rfl rfl ?_
  refine r_getF (k := 49) (b := 104) C oCl12 rfl (by decide) flX12_114 rfl rfl rfl (oDec_at oX12_book 3 rfl) ?_
  refine r_iconst C (oDec_at oX12_book 4 rfl) (v := k2) (by rw [qk2]; rfl) ?_
  refine r_iconst C (oDec_at oX12_book 5 rfl) (v := k0) (by rw [qk0]; rfl) ?_
  refine r_pc C 10 rfl ?_
  refine r_iast (n := 4) (lo := 0) (hi := 12) C rfl (by decide) rfl rfl ⟨by omega, by omega⟩ (by decide) rfl rfl rfl rfl ⟨by omega, by omega⟩ (oDec_at oX12_book 6 rfl) ?_
  have hc2a := oMny23 (s := u146) (i := k2) (z := k0)
  have hq148 : owLw Fq Tq nq ((pI u146 104 k2.toNatClampNeg k0)) := owLw_4 (owLw_fr fu146 rfl hq145) (by omega)
  refine r_aload_n C (j := 0) (oDec_at oX12_book 7 rfl) rfl rfl ?_
  refine r_getF (k := 49) (b := 104) C oCl12 rfl (by decide) flX12_114 rfl rfl rfl (oDec_at oX12_book 8 rfl) ?_
  refine r_iconst C (oDec_at oX12_book 9 rfl) (v := k3) (by rw [qk3]; rfl) ?_
  refine r_iconst C (oDec_at oX12_book 10 rfl) (v := k0) (by rw [qk0]; rfl) ?_
  refine r_iast (n := 4) (lo := 0) (hi := 12) C rfl (by decide) rfl rfl ⟨by omega, by omega⟩ (by decide) rfl rfl rfl rfl ⟨by omega, by omega⟩ (oDec_at oX12_book 11 rfl) ?_
  refine r_pc C 18 rfl ?_
  have hc3 := oMny3 (s := (pI u146 104 k2.toNatClampNeg k0)) (i := k3) (z := k0)
  have hc2b := oMny23 (s := (pI u146 104 k2.toNatClampNeg k0)) (i := k3) (z := k0)
  have hq149 : oBB ((pI (pI u146 104 k2.toNatClampNeg k0) 104 k3.toNatClampNeg k0)) := oBB_init (oBI_fr fu146 rfl hp0) ek2 ek3 ek0 ek0
  have hq150 : owLw Fq Tq nq ((pI (pI u146 104 k2.toNatClampNeg k0) 104 k3.toNatClampNeg k0)) := owLw_4 hq148 (by omega)
  refine r_aload_n C (j := 0) (oDec_at oX12_book 12 rfl) rfl rfl ?_
  refine r_iconst C (oDec_at oX12_book 13 rfl) (v := k4) (by rw [qk4]; rfl) ?_
  refine r_puti (k := 54) (lo := (-2147483648)) (hi := 2147483647) C oCl12 rfl (by decide) flX12_344 rfl rfl rfl rfl rfl rfl rfl rfl (n_rng _) (oDec_at oX12_book 14 rfl) ?_
  have lk151 : (((pI (pI (pI u146 104 k2.toNatClampNeg k0) 104 k3.toNatClampNeg k0) 71 54 k4)).1 71 5).toInt = (u146.1 71 5).toInt := congrArg Int32.toInt (((pI_ne (a := 71) (b := 5) (c := 71) (k := 54) _ _ (Or.inr (by decide)))).trans (((pI_ne (a := 71) (b := 5) (c := 104) _ _ (Or.inl (by decide)))).trans ((pI_ne (a := 71) (b := 5) (c := 104) _ _ (Or.inl (by decide))))))
  have lk152 : (((pI (pI (pI u146 104 k2.toNatClampNeg k0) 104 k3.toNatClampNeg k0) 71 54 k4)).1 71 45).toInt = (u146.1 71 45).toInt := congrArg Int32.toInt (((pI_ne (a := 71) (b := 45) (c := 71) (k := 54) _ _ (Or.inr (by decide)))).trans (((pI_ne (a := 71) (b := 45) (c := 104) _ _ (Or.inl (by decide)))).trans ((pI_ne (a := 71) (b := 45) (c := 104) _ _ (Or.inl (by decide))))))
  have lk153 : (((pI (pI (pI u146 104 k2.toNatClampNeg k0) 104 k3.toNatClampNeg k0) 71 54 k4)).1 71 2).toInt = (u146.1 71 2).toInt := congrArg Int32.toInt (((pI_ne (a := 71) (b := 2) (c := 71) (k := 54) _ _ (Or.inr (by decide)))).trans (((pI_ne (a := 71) (b := 2) (c := 104) _ _ (Or.inl (by decide)))).trans ((pI_ne (a := 71) (b := 2) (c := 104) _ _ (Or.inl (by decide))))))
  have lk154 : (((pI (pI (pI u146 104 k2.toNatClampNeg k0) 104 k3.toNatClampNeg k0) 71 54 k4)).1 71 5).toInt = (u146.1 71 5).toInt := congrArg Int32.toInt (((pI_ne (a := 71) (b := 5) (c := 71) (k := 54) _ _ (Or.inr (by decide)))).trans (((pI_ne (a := 71) (b := 5) (c := 104) _ _ (Or.inl (by decide)))).trans ((pI_ne (a := 71) (b := 5) (c := 104) _ _ (Or.inl (by decide))))))
  have lk155 : (((pI (pI (pI u146 104 k2.toNatClampNeg k0) 104 k3.toNatClampNeg k0) 71 54 k4)).1 71 54).toInt = k4.toInt := congrArg Int32.toInt ((pI_self _ _ _ _))
  have lc156 : (((pI (pI (pI u146 104 k2.toNatClampNeg k0) 104 k3.toNatClampNeg k0) 71 54 k4)).1 104 3).toInt = (((pI (pI u146 104 k2.toNatClampNeg k0) 104 k3.toNatClampNeg k0)).1 104 3).toInt := congrArg Int32.toInt ((pI_ne (a := 104) (b := 3) (c := 71) _ _ (Or.inl (by decide))))
  have lk157 : (((pI (pI (pI u146 104 k2.toNatClampNeg k0) 104 k3.toNatClampNeg k0) 71 54 k4)).1 71 1).toInt = (u146.1 71 1).toInt := congrArg Int32.toInt (((pI_ne (a := 71) (b := 1) (c := 71) (k := 54) _ _ (Or.inr (by decide)))).trans (((pI_ne (a := 71) (b := 1) (c := 104) _ _ (Or.inl (by decide)))).trans ((pI_ne (a := 71) (b := 1) (c := 104) _ _ (Or.inl (by decide))))))
  have lc158 : (((pI (pI (pI u146 104 k2.toNatClampNeg k0) 104 k3.toNatClampNeg k0) 71 54 k4)).1 104 2).toInt = (((pI (pI u146 104 k2.toNatClampNeg k0) 104 k3.toNatClampNeg k0)).1 104 2).toInt := congrArg Int32.toInt ((pI_ne (a := 104) (b := 2) (c := 71) _ _ (Or.inl (by decide))))
  have lk159 : (((pI (pI (pI u146 104 k2.toNatClampNeg k0) 104 k3.toNatClampNeg k0) 71 54 k4)).1 71 3).toInt = (u146.1 71 3).toInt := congrArg Int32.toInt (((pI_ne (a := 71) (b := 3) (c := 71) (k := 54) _ _ (Or.inr (by decide)))).trans (((pI_ne (a := 71) (b := 3) (c := 104) _ _ (Or.inl (by decide)))).trans ((pI_ne (a := 71) (b := 3) (c := 104) _ _ (Or.inl (by decide))))))
  have lk160 : (((pI (pI (pI u146 104 k2.toNatClampNeg k0) 104 k3.toNatClampNeg k0) 71 54 k4)).1 71 6).toInt = (u146.1 71 6).toInt := congrArg Int32.toInt (((pI_ne (a := 71) (b := 6) (c := 71) (k := 54) _ _ (Or.inr (by decide)))).trans (((pI_ne (a := 71) (b := 6) (c := 104) _ _ (Or.inl (by decide)))).trans ((pI_ne (a := 71) (b := 6) (c := 104) _ _ (Or.inl (by decide))))))
  have lk161 : (((pI (pI (pI u146 104 k2.toNatClampNeg k0) 104 k3.toNatClampNeg k0) 71 54 k4)).1 71 4).toInt = (u146.1 71 4).toInt := congrArg Int32.toInt (((pI_ne (a := 71) (b := 4) (c := 71) (k := 54) _ _ (Or.inr (by decide)))).trans (((pI_ne (a := 71) (b := 4) (c := 104) _ _ (Or.inl (by decide)))).trans ((pI_ne (a := 71) (b := 4) (c := 104) _ _ (Or.inl (by decide))))))
  have lk162 : (((pI (pI (pI u146 104 k2.toNatClampNeg k0) 104 k3.toNatClampNeg k0) 71 54 k4)).1 71 2).toInt = (u146.1 71 2).toInt := congrArg Int32.toInt (((pI_ne (a := 71) (b := 2) (c := 71) (k := 54) _ _ (Or.inr (by decide)))).trans (((pI_ne (a := 71) (b := 2) (c := 104) _ _ (Or.inl (by decide)))).trans ((pI_ne (a := 71) (b := 2) (c := 104) _ _ (Or.inl (by decide))))))
  have lk163 : (((pI (pI (pI u146 104 k2.toNatClampNeg k0) 104 k3.toNatClampNeg k0) 71 54 k4)).1 71 54).toInt = k4.toInt := congrArg Int32.toInt ((pI_self _ _ _ _))
  have lk164 : (((pI (pI (pI u146 104 k2.toNatClampNeg k0) 104 k3.toNatClampNeg k0) 71 54 k4)).1 71 37).toInt = (u146.1 71 37).toInt := congrArg Int32.toInt (((pI_ne (a := 71) (b := 37) (c := 71) (k := 54) _ _ (Or.inr (by decide)))).trans (((pI_ne (a := 71) (b := 37) (c := 104) _ _ (Or.inl (by decide)))).trans ((pI_ne (a := 71) (b := 37) (c := 104) _ _ (Or.inl (by decide))))))
  have hj := oB1_f (((pI (pI (pI u146 104 k2.toNatClampNeg k0) 104 k3.toNatClampNeg k0) 71 54 k4)).1 71 5)
  exact (key (10000 + 2 * (61 - (((pI (pI (pI u146 104 k2.toNatClampNeg k0) 104 k3.toNatClampNeg k0) 71 54 k4)).1 71 37).toInt) + oB1 (((pI (pI (pI u146 104 k2.toNatClampNeg k0) 104 k3.toNatClampNeg k0) 71 54 k4)).1 71 5)).toNat).1 ((pI (pI (pI u146 104 k2.toNatClampNeg k0) 104 k3.toNatClampNeg k0) 71 54 k4))   (oBB_fr (oFr_oneI (q := 12) (m := 54) rfl (by rfl)) rfl hq149) (by omega) (by omega) (by omega) (by omega) (by first | exact (by assumption) | exact oqZ_of (oqY_fr (oFr_oneI (q := 12) (m := 54) rfl (by rfl)) rfl (oqY_fr (oFr_oneI (q := 80) (m := 9999) rfl (by rfl)) rfl (oqY_fr (oFr_oneI (q := 80) (m := 9999) rfl (by rfl)) rfl (oqY_fr fu146 rfl hp2)))) (by omega)) (oqWd_fr (oFr_oneI (q := 12) (m := 54) rfl (by rfl)) rfl (oqWd_fr (oFr_oneI (q := 80) (m := 9999) rfl (by rfl)) rfl (oqWd_fr (oFr_oneI (q := 80) (m := 9999) rfl (by rfl)) rfl (oqWd_fr fu146 rfl hp3)))) (by omega) (by first | exact oqRS_nx hBu (by omega) hRM (by first | exact pu146_4 | omega) (by first | exact pu146_5 | omega) (by first | exact pu146_6 | omega) pu146_7 (by omega) | exact oqRS_0 (by omega) (by omega) (by omega) (by omega) (by omega) (by omega) (by omega)) (owC0_fr (oFr_oneI (q := 12) (m := 54) rfl (by rfl)) rfl (owC0_fr (oFr_oneI (q := 80) (m := 9999) rfl (by rfl)) rfl (owC0_fr (oFr_oneI (q := 80) (m := 9999) rfl (by rfl)) rfl (owC0_fr fu146 rfl hq144)))) (owLw_fr (oFr_oneI (q := 12) (m := 54) rfl (by rfl)) rfl hq150) (owMM_fr (oFr_oneI (q := 12) (m := 54) rfl (by rfl)) rfl (owMM_fr (oFr_oneI (q := 80) (m := 9999) rfl (by rfl)) rfl (owMM_fr (oFr_oneI (q := 80) (m := 9999) rfl (by rfl)) rfl (owMM_fr fu146 rfl hp5)))) (by first | exact owRY_nx hBu hBv9 (by omega) hRM (fun h9 => by have h8 := pu146_4 (by omega); omega) (fun h1 => pu146_5 (by omega)) (fun h1 => pu146_7 (by omega)) (fun h1 => pu146_10 (by omega)) (fun h9 => by have h8 := pu146_1 (by omega); omega) | exact owRY_0 (by omega) (by omega) (by omega) (by omega) (by omega) (by omega) (by omega)) (by omega) (by omega)
