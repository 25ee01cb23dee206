set_option maxHeartbeats 4000000 in
set_option maxRecDepth 100000 in
theorem ct7_X12_bookTold (l : Launch) (E : oE) (s : oS)  (g : Int → Int) (a : Int) (b : Int) (R : Int) (M : Int) (N : Nat → Nat → Int) (hp0 : oBB s) (hp1 : (s.1 71 5).toInt = 0) (hp2 : (s.1 71 45).toInt ≤ (s.1 71 2).toInt) (hp3 : (s.1 104 3).toInt ≤ 6) (hp4 : (s.1 71 5).toInt = 0 → (2 ≤ (s.1 71 54).toInt ∧ (s.1 71 54).toInt ≤ 12)) (hp5 : (s.1 71 2).toInt = a) (hp6 : (s.1 71 4).toInt = b) (hp7 : oqSk g a = a) (hp8 : (s.1 104 2).toInt = R) (hp9 : (s.1 104 3).toInt = M) (hp10 : oqNR N M s) (hp11 : (s.1 71 6).toInt = -1) (hp12 : 0 ≤ R ∧ R ≤ 12 ∧ 0 ≤ M ∧ M ≤ 6) (hp13 : oqZ g s) (hp14 : oqWd s) : oMet l 11 yX12_bookTold cX12_bookTold 2 none [(12, 2), (12, 4), (12, 5), (12, 6), (12, 9), (12, 36), (12, 37), (12, 45), (12, 47), (12, 48), (12, 54), (12, 55), (12, 56), (78, 9999), (79, 9999), (80, 9999), (81, 9999), (82, 9999), (83, 9999)] E s [.ref (oad E 71)] (oPv (fun u => (oBB u) ∧ ((u.1 71 5).toInt = 0 → ((u.1 71 45).toInt ≤ (u.1 71 2).toInt ∧ 2 ≤ (u.1 71 54).toInt ∧ (u.1 71 54).toInt ≤ 12 ∧ (u.1 71 37).toInt = (s.1 71 37).toInt + 1)) ∧ ((s.1 71 37).toInt ≤ (u.1 71 37).toInt) ∧ ((u.1 104 3).toInt ≤ 6) ∧ ((s.1 71 37).toInt = 60 → ((u.1 71 5).toInt = 5 ∧ (u.1 71 6).toInt = a)) ∧ ((s.1 71 37).toInt < 60 → (u.1 71 5).toInt = 0 → (oqBk g a b R M N = 0 ∧ (u.1 71 2).toInt = oqBa g a b ∧ (u.1 71 4).toInt = oqBb g a b ∧ (u.1 71 6).toInt = -1 ∧ (u.1 104 2).toInt = oqBR g a b R ∧ (u.1 104 3).toInt = oqBM g a b M)) ∧ ((s.1 71 37).toInt < 60 → (u.1 71 5).toInt ≠ 0 → (oqBk g a b R M N ≠ 0 ∧ (u.1 71 5).toInt = oqBk g a b R M N ∧ (u.1 71 6).toInt = oqBp g a b R M N)) ∧ ((s.1 71 37).toInt < 60 → (u.1 71 5).toInt = 0 → oqNR (oqBN g a b N M) (oqBM g a b M) u))) := by
  refine oMet.of (lv := [(0, .ref (oad E 71))]) (by decide +kernel) (Nat.le_of_ble_eq_true rfl) rfl (fun J C hT => ?_)
  have C : oC l 11 cX12_bookTold RX12 2 none [(12, 2), (12, 4), (12, 5), (12, 6), (12, 9), (12, 36), (12, 37), (12, 45), (12, 47), (12, 48), (12, 54), (12, 55), (12, 56), (78, 9999), (79, 9999), (80, 9999), (81, 9999), (82, 9999), (83, 9999)] E s (oPv (fun u => (oBB u) ∧ ((u.1 71 5).toInt = 0 → ((u.1 71 45).toInt ≤ (u.1 71 2).toInt ∧ 2 ≤ (u.1 71 54).toInt ∧ (u.1 71 54).toInt ≤ 12 ∧ (u.1 71 37).toInt = (s.1 71 37).toInt + 1)) ∧ ((s.1 71 37).toInt ≤ (u.1 71 37).toInt) ∧ ((u.1 104 3).toInt ≤ 6) ∧ ((s.1 71 37).toInt = 60 → ((u.1 71 5).toInt = 5 ∧ (u.1 71 6).toInt = a)) ∧ ((s.1 71 37).toInt < 60 → (u.1 71 5).toInt = 0 → (oqBk g a b R M N = 0 ∧ (u.1 71 2).toInt = oqBa g a b ∧ (u.1 71 4).toInt = oqBb g a b ∧ (u.1 71 6).toInt = -1 ∧ (u.1 104 2).toInt = oqBR g a b R ∧ (u.1 104 3).toInt = oqBM g a b M)) ∧ ((s.1 71 37).toInt < 60 → (u.1 71 5).toInt ≠ 0 → (oqBk g a b R M N ≠ 0 ∧ (u.1 71 5).toInt = oqBk g a b R M N ∧ (u.1 71 6).toInt = oqBp g a b R M N)) ∧ ((s.1 71 37).toInt < 60 → (u.1 71 5).toInt = 0 → oqNR (oqBN g a b N M) (oqBM g a b M) u))) J := C
  obtain ⟨k1, qk1⟩ : ∃ z : Int32, z = 1 := ⟨_, rfl⟩
  have ek1 : k1.toInt = 1 := by rw [qk1]; rfl
  obtain ⟨k2, qk2⟩ : ∃ z : Int32, z = 2 := ⟨_, rfl⟩
  have ek2 : k2.toInt = 2 := by rw [qk2]; rfl
  obtain ⟨k5, qk5⟩ : ∃ z : Int32, z = 5 := ⟨_, rfl⟩
  have ek5 : k5.toInt = 5 := by rw [qk5]; rfl
  obtain ⟨k12, qk12⟩ : ∃ z : Int32, z = 12 := ⟨_, rfl⟩
  have ek12 : k12.toInt = 12 := by rw [qk12]; rfl
  obtain ⟨k59, qk59⟩ : ∃ z : Int32, z = 59 := ⟨_, rfl⟩
  have ek59 : k59.toInt = 59 := by rw [qk59]; rfl
  obtain ⟨k60, qk60⟩ : ∃ z : Int32, z = 60 := ⟨_, rfl⟩
  have ek60 : k60.toInt = 60 := by rw [qk60]; rfl
  have htz_coded : (0 : Int) ≤ (s.1 71 45).toInt ∧ (s.1 71 45).toInt ≤ 1600 := hT.1 71 45
  have htz_at : (0 : Int) ≤ (s.1 71 2).toInt ∧ (s.1 71 2).toInt ≤ 1600 := hT.1 71 2
  have htz_statements : (0 : Int) ≤ (s.1 71 37).toInt ∧ (s.1 71 37).toInt ≤ 60 := hT.1 71 37
  have hmt := hp4 (by omega)
  clear hp4
  have hHa3 : oqHa g a 3 = oqSk g a + (oqWl 3 : Int) := rfl
  have hHa4 : oqHa g a 4 = oqSk g a + (oqWl 4 : Int) := rfl
  have hHa5 : oqHa g a 5 = oqSk g a + (oqWl 5 : Int) := rfl
  have hl3 : oqWl 3 = 7 := rfl
  have hl4 : oqWl 4 = 3 := rfl
  have hl5 : oqWl 5 = 5 := rfl
  have key : ∀ n : Nat, (∀ (t : oS), (oBB t) → (oqB85 g a b R M N t) → (oqC85 g a b R M t) → (oqD85 g a b M N t) → ((t.1 71 37).toInt = (s.1 71 37).toInt ∧ (t.1 71 37).toInt ≤ 59) → ((t.1 104 3).toInt ≤ 6) → (oqBP t) → (oqZ g t) → ((t.1 71 2).toInt = (t.1 71 2).toInt ∧ (t.1 71 5).toInt = (t.1 71 5).toInt ∧ (t.1 71 4).toInt = (t.1 71 4).toInt ∧ (t.1 71 6).toInt = (t.1 71 6).toInt ∧ (t.1 71 45).toInt = (t.1 71 45).toInt ∧ (t.1 71 54).toInt = (t.1 71 54).toInt ∧ (t.1 104 2).toInt = (t.1 104 2).toInt ∧ (t.1 104 3).toInt = (t.1 104 3).toInt) → (1 : Int) ≤ (n : Int) → J t 85 [(0, .ref (oad E 71))] []) := by
    intro n
    induction n using Nat.strongRecOn with
    | _ n ih =>
      skip
      · intro t   iv0 iv1 iv2 iv3 iv4 iv5 iv6 iv7 iv8 hmu
        refine r_aload_n C (j := 0) (oDec_at oX12_bookTold 43 rfl) rfl rfl ?_
        refine r_bipush C (oDec_at oX12_bookTold 44 rfl) (v := k59) (by rw [qk59]; rfl) ?_
        refine r_callVv C oCl12 rfl miX12_asksSign mlX12_248 (ct7_X12_asksSign l E (t) k59 (g) ((t.1 71 2).toInt) (59) (by omega) iv7 (by omega) (by omega) iv6) (by decide) rfl rfl rfl (Nat.le_of_ble_eq_true rfl) (oDec_at oX12_bookTold 45 rfl) (fun u1 pu1 fu1 => ?_)
        try dsimp only at pu1
        obtain ⟨pu1_0, pu1_1, pu1_2, pu1_3, pu1_4⟩ := pu1
        have lc3 : ((u1).1 104 2).toInt = (t.1 104 2).toInt := congrArg Int32.toInt ((fu1 104 2 rfl).1)
        have lc4 : ((u1).1 104 3).toInt = (t.1 104 3).toInt := congrArg Int32.toInt ((fu1 104 3 rfl).1)
        have lk5 : ((u1).1 71 4).toInt = (t.1 71 4).toInt := congrArg Int32.toInt ((fu1 71 4 rfl).1)
        have lk6 : ((u1).1 71 48).toInt = (t.1 71 48).toInt := congrArg Int32.toInt ((fu1 71 48 rfl).1)
        have lk7 : ((u1).1 71 47).toInt = (t.1 71 47).toInt := congrArg Int32.toInt ((fu1 71 47 rfl).1)
        have lk8 : ((u1).1 71 37).toInt = (t.1 71 37).toInt := congrArg Int32.toInt ((fu1 71 37 rfl).1)
        have lk9 : ((u1).1 71 45).toInt = (t.1 71 45).toInt := congrArg Int32.toInt ((fu1 71 45 rfl).1)
        have lk10 : ((u1).1 71 54).toInt = (t.1 71 54).toInt := congrArg Int32.toInt ((fu1 71 54 rfl).1)
        have hmono : ((u1).1 71 5).toInt = 0 → (t.1 71 5).toInt = 0 := fun h9 => (pu1_0 h9).1
        have hF := iv1 (u1) (fun h9 => pu1_3 h9) (fun h9 => by (have h8 := pu1_0 h9; omega)) (fun h9 => by (have h8 := pu1_1 h9; omega))
        have hC : (((u1).1 71 5).toInt = 0 → ((u1).1 71 45).toInt ≤ ((u1).1 71 2).toInt ∧ 2 ≤ ((u1).1 71 54).toInt ∧ ((u1).1 71 54).toInt ≤ 12 ∧ ((u1).1 104 2).toInt = oqBR g a b R ∧ ((u1).1 104 3).toInt = oqBM g a b M) := fun h9 => by (have h8 := iv2 (hmono h9); clear hF hmono pu1_0 pu1_1 pu1_3; omega)
        have hD : ((u1).1 71 5).toInt = 0 → oqNR (oqBN g a b N M) (oqBM g a b M) (u1) := fun h9 => oqNR_fr fu1 rfl (iv3 (hmono h9))
        have hbp : ((u1).1 71 5).toInt = 0 → ((u1).1 71 6).toInt = -1 := pu1_4
        clear pu1_0 pu1_1 pu1_3
        refine r_aload_n C (j := 0) (oDec_at oX12_bookTold 46 rfl) rfl rfl ?_
        refine r_dup C (oDec_at oX12_bookTold 47 rfl) rfl ?_
        obtain ⟨v11, ev11⟩ : ∃ z : Int32, (u1).1 71 37 = z := ⟨_, rfl⟩
        have gv11 : (t.1 71 37).toInt = v11.toInt := congrArg Int32.toInt (((fu1 71 37 rfl).1).symm.trans ev11)
        have ggv11 : ((u1).1 71 37).toInt = v11.toInt := congrArg Int32.toInt ev11
        refine r_geti (k := 37) (lo := 0) (hi := 60) C v11 oCl12 rfl (by decide) flX12_231 rfl rfl (ev11) rfl rfl (oDec_at oX12_bookTold 48 rfl) (fun b12 b12h => ?_)
        refine r_pc C 96 rfl ?_
        refine r_iconst C (oDec_at oX12_bookTold 49 rfl) (v := k1) (by rw [qk1]; rfl) ?_
        obtain ⟨v13, ev13⟩ : ∃ z : Int32, z = v11 + k1 := ⟨_, rfl⟩
        have hv13 : v13.toInt = v11.toInt + k1.toInt := n_add ev13 (by omega) (by omega)
        refine r_iadd C v13 (oDec_at oX12_bookTold 50 rfl) ev13 ?_
        refine r_puti (k := 37) (lo := 0) (hi := 60) C oCl12 rfl (by decide) flX12_231 rfl rfl rfl rfl rfl rfl rfl rfl ⟨by omega, by omega⟩ (oDec_at oX12_bookTold 51 rfl) ?_
        have lk14 : (((pI u1 71 37 v13)).1 71 6).toInt = (u1.1 71 6).toInt := congrArg Int32.toInt ((pI_ne (a := 71) (b := 6) (c := 71) (k := 37) _ _ (Or.inr (by decide))))
        have lk15 : (((pI u1 71 37 v13)).1 71 5).toInt = (u1.1 71 5).toInt := congrArg Int32.toInt ((pI_ne (a := 71) (b := 5) (c := 71) (k := 37) _ _ (Or.inr (by decide))))
        have lk16 : (((pI u1 71 37 v13)).1 71 5).toInt = (u1.1 71 5).toInt := congrArg Int32.toInt ((pI_ne (a := 71) (b := 5) (c := 71) (k := 37) _ _ (Or.inr (by decide))))
        have lk17 : (((pI u1 71 37 v13)).1 71 45).toInt = (t.1 71 45).toInt := congrArg Int32.toInt (((pI_ne (a := 71) (b := 45) (c := 71) (k := 37) _ _ (Or.inr (by decide)))).trans ((fu1 71 45 rfl).1))
        have lk18 : (((pI u1 71 37 v13)).1 71 2).toInt = (u1.1 71 2).toInt := congrArg Int32.toInt ((pI_ne (a := 71) (b := 2) (c := 71) (k := 37) _ _ (Or.inr (by decide))))
        have lk19 : (((pI u1 71 37 v13)).1 71 54).toInt = (t.1 71 54).toInt := congrArg Int32.toInt (((pI_ne (a := 71) (b := 54) (c := 71) (k := 37) _ _ (Or.inr (by decide)))).trans ((fu1 71 54 rfl).1))
        have lk20 : (((pI u1 71 37 v13)).1 71 37).toInt = v13.toInt := congrArg Int32.toInt ((pI_self _ _ _ _))
        have lk21 : (((pI u1 71 37 v13)).1 71 37).toInt = v13.toInt := congrArg Int32.toInt ((pI_self _ _ _ _))
        have lc22 : (((pI u1 71 37 v13)).1 104 3).toInt = (t.1 104 3).toInt := congrArg Int32.toInt (((pI_ne (a := 104) (b := 3) (c := 71) _ _ (Or.inl (by decide)))).trans ((fu1 104 3 rfl).1))
        have lk23 : (((pI u1 71 37 v13)).1 71 5).toInt = (u1.1 71 5).toInt := congrArg Int32.toInt ((pI_ne (a := 71) (b := 5) (c := 71) (k := 37) _ _ (Or.inr (by decide))))
        have lk24 : (((pI u1 71 37 v13)).1 71 6).toInt = (u1.1 71 6).toInt := congrArg Int32.toInt ((pI_ne (a := 71) (b := 6) (c := 71) (k := 37) _ _ (Or.inr (by decide))))
        have lc25 : (((pI u1 71 37 v13)).1 104 2).toInt = (t.1 104 2).toInt := congrArg Int32.toInt (((pI_ne (a := 104) (b := 2) (c := 71) _ _ (Or.inl (by decide)))).trans ((fu1 104 2 rfl).1))
        have lc26 : (((pI u1 71 37 v13)).1 104 3).toInt = (t.1 104 3).toInt := congrArg Int32.toInt (((pI_ne (a := 104) (b := 3) (c := 71) _ _ (Or.inl (by decide)))).trans ((fu1 104 3 rfl).1))
        have lk27 : (((pI u1 71 37 v13)).1 71 5).toInt = (u1.1 71 5).toInt := congrArg Int32.toInt ((pI_ne (a := 71) (b := 5) (c := 71) (k := 37) _ _ (Or.inr (by decide))))
        have lk28 : (((pI u1 71 37 v13)).1 71 2).toInt = (u1.1 71 2).toInt := congrArg Int32.toInt ((pI_ne (a := 71) (b := 2) (c := 71) (k := 37) _ _ (Or.inr (by decide))))
        have lk29 : (((pI u1 71 37 v13)).1 71 4).toInt = (t.1 71 4).toInt := congrArg Int32.toInt (((pI_ne (a := 71) (b := 4) (c := 71) (k := 37) _ _ (Or.inr (by decide)))).trans ((fu1 71 4 rfl).1))
        have lk30 : (((pI u1 71 37 v13)).1 71 6).toInt = (u1.1 71 6).toInt := congrArg Int32.toInt ((pI_ne (a := 71) (b := 6) (c := 71) (k := 37) _ _ (Or.inr (by decide))))
        have lk31 : (((pI u1 71 37 v13)).1 71 5).toInt = (u1.1 71 5).toInt := congrArg Int32.toInt ((pI_ne (a := 71) (b := 5) (c := 71) (k := 37) _ _ (Or.inr (by decide))))
        have lk32 : (((pI u1 71 37 v13)).1 71 6).toInt = (u1.1 71 6).toInt := congrArg Int32.toInt ((pI_ne (a := 71) (b := 6) (c := 71) (k := 37) _ _ (Or.inr (by decide))))
        have lk33 : (((pI u1 71 37 v13)).1 71 5).toInt = (u1.1 71 5).toInt := congrArg Int32.toInt ((pI_ne (a := 71) (b := 5) (c := 71) (k := 37) _ _ (Or.inr (by decide))))
        exact r_vret C (oDec_at oX12_bookTold 52 rfl) ⟨rfl, ⟨(oBB_fr (oFr_oneI (q := 12) (m := 37) rfl (by rfl)) rfl (oBB_frb fu1 rfl (by omega) iv0)), fun h9 => by (have h8 := hC (by omega); clear hC hF hbp hmono; omega), by omega, by omega, by omega, fun _ h9 => by (have h8 := hC (by omega); have h7 := hF.1 (by omega); have h6 := hbp (by omega); clear hC hF hbp hmono; omega), fun _ h9 => by (have h7 := hF.2 (by omega); clear hC hF hbp hmono; omega), fun _ h9 => oqNR_fr (oFr_oneI (q := 12) (m := 37) rfl (by rfl)) rfl (hD (by omega))⟩⟩
  have hq34 : oqBP (s) := fun _ => by omega
  refine r_aload_n C (j := 0) (oDec_at oX12_bookTold 0 rfl) rfl rfl ?_
  obtain ⟨v35, ev35⟩ : ∃ z : Int32, (s).1 71 2 = z := ⟨_, rfl⟩
  have gv35 : (s.1 71 2).toInt = v35.toInt := congrArg Int32.toInt (ev35)
  refine r_geti (k := 2) (lo := 0) (hi := 1600) C v35 oCl12 rfl (by decide) flX12_179 rfl rfl (ev35) rfl rfl (oDec_at oX12_bookTold 1 rfl) (fun b36 b36h => ?_)
  refine r_istore_n C (lv' := [(0, .ref (oad E 71)), (1, .int v35)]) [1, 0] (oDec_at oX12_bookTold 2 rfl) rfl (by decide) rfl ?_
  refine r_aload_n C (j := 0) (oDec_at oX12_bookTold 3 rfl) rfl rfl ?_
  obtain ⟨v37, ev37⟩ : ∃ z : Int32, (s).1 71 37 = z := ⟨_, rfl⟩
  have gv37 : (s.1 71 37).toInt = v37.toInt := congrArg Int32.toInt (ev37)
  refine r_geti (k := 37) (lo := 0) (hi := 60) C v37 oCl12 rfl (by decide) flX12_231 rfl rfl (ev37) rfl rfl (oDec_at oX12_bookTold 4 rfl) (fun b38 b38h => ?_)
  refine r_bipush C (oDec_at oX12_bookTold 5 rfl) (v := k60) (by rw [qk60]; rfl) ?_
  refine r_pc C 11 rfl ?_
  refine r_icmp_ne C 21 (oDec_at oX12_bookTold 6 rfl) (by decide) (fun cd39 => ?_) (fun cd39 => ?_)
  · skip
    refine r_aload_n C (j := 0) (oDec_at oX12_bookTold 12 rfl) rfl rfl ?_
    refine r_aload_n C (j := 0) (oDec_at oX12_bookTold 13 rfl) rfl rfl ?_
    refine r_getF (k := 13) (b := 76) C oCl12 rfl (by decide) flX12_27 rfl rfl rfl (oDec_at oX12_bookTold 14 rfl) ?_
    have lk40 : ((s).1 71 2).toInt = v35.toInt := congrArg Int32.toInt (ev35)
    have lk41 : ((s).1 71 2).toInt = v35.toInt := congrArg Int32.toInt (ev35)
    refine r_callVi C oCl12 rfl miX12_takes mlX12_200 (ct6_X12_takes l E (s) 76 52 7 rfl (by decide) (by decide) rfl rfl (g) (a) (b) (3) (by omega) (by omega) hp13 (by omega) (by omega) rfl (oqWd_at hp14 3 (by decide)) (by omega)) (by decide) rfl rfl rfl (Nat.le_of_ble_eq_true rfl) (oDec_at oX12_bookTold 15 rfl) (fun r43 u42 pu42 fu42 => ?_)
    try dsimp only at pu42
    try simp only [lk40, lk41] at pu42
    obtain ⟨pu42_0, pu42_1, pu42_2, pu42_3, pu42_4⟩ := pu42
    have rr43 := n_rng r43
    refine r_if_eq C 46 (oDec_at oX12_bookTold 16 rfl) (by decide) (fun cd44 => ?_) (fun cd44 => ?_)
    · skip
      clear pu42_1
      replace pu42_2 := pu42_2 (by omega)
      have hz3 := oqWi_w (g := g) (A := a) (E := b) (i := 3) (by decide) (by omega)
      refine r_aload_n C (j := 0) (oDec_at oX12_bookTold 24 rfl) rfl rfl ?_
      refine r_aload_n C (j := 0) (oDec_at oX12_bookTold 25 rfl) rfl rfl ?_
      refine r_getF (k := 14) (b := 77) C oCl12 rfl (by decide) flX12_30 rfl rfl rfl (oDec_at oX12_bookTold 26 rfl) ?_
      have lk45 : ((u42).1 71 5).toInt = (s.1 71 5).toInt := congrArg Int32.toInt ((fu42 71 5 rfl).1)
      refine r_callVi C oCl12 rfl miX12_takes mlX12_200 (ct6_X12_takes l E (u42) 77 53 3 rfl (by decide) (by decide) rfl rfl (g) (a) (b) (4) (by omega) (by omega) (oqZ_fr fu42 rfl hp13) (by omega) (by omega) rfl (oqWd_at (oqWd_fr fu42 rfl hp14) 4 (by decide)) (by omega)) (by decide) rfl rfl rfl (Nat.le_of_ble_eq_true rfl) (oDec_at oX12_bookTold 27 rfl) (fun r47 u46 pu46 fu46 => ?_)
      try dsimp only at pu46
      try simp only [lk45] at pu46
      obtain ⟨pu46_0, pu46_1, pu46_2, pu46_3, pu46_4⟩ := pu46
      have rr47 := n_rng r47
      refine r_if_eq C 65 (oDec_at oX12_bookTold 28 rfl) (by decide) (fun cd48 => ?_) (fun cd48 => ?_)
      · skip
        clear pu46_1
        replace pu46_2 := pu46_2 (by omega)
        have hz4 := oqWi_w (g := g) (A := a) (E := b) (i := 4) (by decide) (by omega)
        refine r_aload_n C (j := 0) (oDec_at oX12_bookTold 33 rfl) rfl rfl ?_
        refine r_aload_n C (j := 0) (oDec_at oX12_bookTold 34 rfl) rfl rfl ?_
        refine r_getF (k := 15) (b := 78) C oCl12 rfl (by decide) flX12_33 rfl rfl rfl (oDec_at oX12_bookTold 35 rfl) ?_
        have lk49 : ((u46).1 71 5).toInt = (s.1 71 5).toInt := congrArg Int32.toInt (((fu46 71 5 rfl).1).trans ((fu42 71 5 rfl).1))
        have lk50 : ((u46).1 71 5).toInt = (s.1 71 5).toInt := congrArg Int32.toInt (((fu46 71 5 rfl).1).trans ((fu42 71 5 rfl).1))
        have lk51 : ((u46).1 71 6).toInt = (s.1 71 6).toInt := congrArg Int32.toInt (((fu46 71 6 rfl).1).trans ((fu42 71 6 rfl).1))
        have lk52 : ((u46).1 71 5).toInt = (s.1 71 5).toInt := congrArg Int32.toInt (((fu46 71 5 rfl).1).trans ((fu42 71 5 rfl).1))
        have lk53 : ((u46).1 71 6).toInt = (s.1 71 6).toInt := congrArg Int32.toInt (((fu46 71 6 rfl).1).trans ((fu42 71 6 rfl).1))
        refine r_callVv C oCl12 rfl miX12_asks mlX12_240 (ct7_X12_asks l E (u46) 78 54 5 rfl (by decide) (by decide) rfl rfl (g) (a) (b) (5) (by omega) (oqZ_fr fu46 rfl (oqZ_fr fu42 rfl hp13)) (by omega) rfl (oqWd_at (oqWd_fr fu46 rfl (oqWd_fr fu42 rfl hp14)) 5 (by decide)) (by omega) (oqBP_fr fu46 rfl (oqBP_fr fu42 rfl hq34))) (by decide) rfl rfl rfl (Nat.le_of_ble_eq_true rfl) (oDec_at oX12_bookTold 36 rfl) (fun u54 pu54 fu54 => ?_)
        try dsimp only at pu54
        try simp only [lk49, lk50, lk51, lk52, lk53] at pu54
        obtain ⟨pu54_0, pu54_1, pu54_2, pu54_3⟩ := pu54
        refine r_aload_n C (j := 0) (oDec_at oX12_bookTold 37 rfl) rfl rfl ?_
        obtain ⟨v56, ev56⟩ : ∃ z : Int32, (u54).1 71 5 = z := ⟨_, rfl⟩
        have gv56 : (u54.1 71 5).toInt = v56.toInt := congrArg Int32.toInt (ev56)
        have rv56 := n_rng v56
        refine r_geti (k := 5) (lo := (-2147483648)) (hi := 2147483647) C v56 oCl12 rfl (by decide) flX12_173 rfl rfl (ev56) rfl rfl (oDec_at oX12_bookTold 38 rfl) (fun _ _ => ?_)
        refine r_pc C 77 rfl ?_
        refine r_if_ne C 85 (oDec_at oX12_bookTold 39 rfl) (by decide) (fun cd57 => ?_) (fun cd57 => ?_)
        · skip
          have lk58 : ((u54).1 71 37).toInt = v37.toInt := congrArg Int32.toInt (((fu54 71 37 rfl).1).trans (((fu46 71 37 rfl).1).trans (((fu42 71 37 rfl).1).trans (ev37))))
          have lc59 : ((u54).1 104 3).toInt = (s.1 104 3).toInt := congrArg Int32.toInt (((fu54 104 3 rfl).1).trans (((fu46 104 3 rfl).1).trans ((fu42 104 3 rfl).1)))
          have lc60 : ((u54).1 104 2).toInt = (s.1 104 2).toInt := congrArg Int32.toInt (((fu54 104 2 rfl).1).trans (((fu46 104 2 rfl).1).trans ((fu42 104 2 rfl).1)))
          have lc61 : ((u54).1 104 3).toInt = (s.1 104 3).toInt := congrArg Int32.toInt (((fu54 104 3 rfl).1).trans (((fu46 104 3 rfl).1).trans ((fu42 104 3 rfl).1)))
          have lk62 : ((u54).1 71 5).toInt = v56.toInt := congrArg Int32.toInt (ev56)
          have lk63 : ((u54).1 71 45).toInt = (s.1 71 45).toInt := congrArg Int32.toInt (((fu54 71 45 rfl).1).trans (((fu46 71 45 rfl).1).trans ((fu42 71 45 rfl).1)))
          have lk64 : ((u54).1 71 54).toInt = (s.1 71 54).toInt := congrArg Int32.toInt (((fu54 71 54 rfl).1).trans (((fu46 71 54 rfl).1).trans ((fu42 71 54 rfl).1)))
          refine r_pick C [0] rfl ?_
          exact (key ((1 : Int)).toNat) (u54)   (oBB_frb fu54 rfl (by omega) (oBB_fr fu46 rfl (oBB_fr fu42 rfl hp0))) (by first | exact oqB85_m rfl hW3 (fun h9 => by have h8 := hU1 h9; omega) (fun h9 => by have h8 := hU0 h9; omega) | exact oqB85_r hW4 hRT1 (fun h9 => by have h8 := hRT5 h9; omega) (by omega) | exact oqB85_o hW5 (fun h9 => by have h8 := pu54_4 h9; omega) pu54_5 pu54_6 (by omega) | exact oqB85_w hz3 hz4 (oqWi_w (i := 5) (by decide) (by omega)) (by omega) (by omega)) (by first | exact (fun h9 => by (have h7 := hU1 (by omega); have hb := oqBs_3 (g := g) (a := a) (b := b) (R := R) (M := M) (N := N) hW3; clear hU1 hU0; omega)) | exact (fun h9 => by (have h7 := hRTC (by omega); have h6 := hRTO (by omega); have hb := oqBs_4 (g := g) (a := a) (b := b) (R := R) (M := M) (N := N) hW4; clear hRTC hRTO hRT1 hRT5; omega)) | exact (fun h9 => by (have h7 := pu54_8 (by omega); have h6 := pu54_1 (by omega); have hb := oqBs_5 (g := g) (a := a) (b := b) (R := R) (M := M) (N := N) hW5; clear pu54_8 pu54_1 pu54_4 pu54_5; omega)) | exact (fun h9 => by exfalso; omega)) (by first | exact (fun h9 => by rw [(oqBs_3 (g := g) (a := a) (b := b) (R := R) (M := M) (N := N) hW3).2.2, (oqBs_3 (g := g) (a := a) (b := b) (R := R) (M := M) (N := N) hW3).2.1]; exact (oqNR_fr fu54 rfl (oqNR_fr fu46 rfl (oqNR_fr fu42 rfl hp10)))) | exact (fun h9 => by rw [(oqBs_4 (g := g) (a := a) (b := b) (R := R) (M := M) (N := N) hW4).2.2, (oqBs_4 (g := g) (a := a) (b := b) (R := R) (M := M) (N := N) hW4).2.1]; exact (oqNR_fr fu54 rfl (oqNR_fr fu46 rfl (oqNR_fr fu42 rfl hp10)))) | exact (fun h9 => by rw [(oqBs_5 (g := g) (a := a) (b := b) (R := R) (M := M) (N := N) hW5).2.2, (oqBs_5 (g := g) (a := a) (b := b) (R := R) (M := M) (N := N) hW5).2.1, oqBh_i (i := 5) hW5]; exact pu54_7 (by omega)) | exact (fun h9 => by exfalso; omega)) (by omega) (by omega) pu54_3 (oqZ_fr fu54 rfl (oqZ_fr fu46 rfl (oqZ_fr fu42 rfl hp13))) (by omega) (by omega)
        · skip
          have lc65 : ((u54).1 104 2).toInt = (s.1 104 2).toInt := congrArg Int32.toInt (((fu54 104 2 rfl).1).trans (((fu46 104 2 rfl).1).trans ((fu42 104 2 rfl).1)))
          have lc66 : ((u54).1 104 3).toInt = (s.1 104 3).toInt := congrArg Int32.toInt (((fu54 104 3 rfl).1).trans (((fu46 104 3 rfl).1).trans ((fu42 104 3 rfl).1)))
          have hQ1 := pu54_0 (by omega)
          clear pu54_0 pu54_1
          have hW5 := oqWi_y (g := g) (A := a) (E := b) (i := 5) (by decide) (by omega)
          have hnl5 : ¬ (97 ≤ g (oqHa g a 5) ∧ g (oqHa g a 5) ≤ 122) := (oqH_is (g := g) (a := a) (b := b) (i := 5) (by omega)).1.2
          refine r_aload_n C (j := 0) (oDec_at oX12_bookTold 40 rfl) rfl rfl ?_
          refine r_iload_n C (j := 1) (oDec_at oX12_bookTold 41 rfl) rfl rfl ?_
          have lk67 : ((u54).1 71 5).toInt = v56.toInt := congrArg Int32.toInt (ev56)
          have lk68 : ((u54).1 71 45).toInt = (s.1 71 45).toInt := congrArg Int32.toInt (((fu54 71 45 rfl).1).trans (((fu46 71 45 rfl).1).trans ((fu42 71 45 rfl).1)))
          have lk69 : ((u54).1 71 5).toInt = v56.toInt := congrArg Int32.toInt (ev56)
          have lk70 : ((u54).1 71 5).toInt = v56.toInt := congrArg Int32.toInt (ev56)
          have lc71 : ((u54).1 104 3).toInt = (s.1 104 3).toInt := congrArg Int32.toInt (((fu54 104 3 rfl).1).trans (((fu46 104 3 rfl).1).trans ((fu42 104 3 rfl).1)))
          have lc72 : ((u54).1 104 3).toInt = (s.1 104 3).toInt := congrArg Int32.toInt (((fu54 104 3 rfl).1).trans (((fu46 104 3 rfl).1).trans ((fu42 104 3 rfl).1)))
          refine r_callVv C oCl12 rfl miX12_mottoTold mlX12_350 (ct7_X12_mottoTold l E (u54) v35 (g) (oqHa g a 5) (N) (M) (oBB_frb fu54 rfl (by omega) (oBB_fr fu46 rfl (oBB_fr fu42 rfl hp0))) (by omega) (by omega) (by omega) (by omega) (by omega) (by omega) (oqNR_fr fu54 rfl (oqNR_fr fu46 rfl (oqNR_fr fu42 rfl hp10))) (by omega) pu54_3 (oqZ_fr fu54 rfl (oqZ_fr fu46 rfl (oqZ_fr fu42 rfl hp13))) (oqWd_fr fu54 rfl (oqWd_fr fu46 rfl (oqWd_fr fu42 rfl hp14)))) (by decide) rfl rfl rfl (Nat.le_of_ble_eq_true rfl) (oDec_at oX12_bookTold 42 rfl) (fun u73 pu73 fu73 => ?_)
          try dsimp only at pu73
          try simp only [lk67, lk68, lk69, lk70] at pu73
          obtain ⟨pu73_0, pu73_1, pu73_2, pu73_3, pu73_4, pu73_5, pu73_6, pu73_7, pu73_8, pu73_9⟩ := pu73
          have lk75 : ((u73).1 71 37).toInt = v37.toInt := congrArg Int32.toInt (((fu73 71 37 rfl).1).trans (((fu54 71 37 rfl).1).trans (((fu46 71 37 rfl).1).trans (((fu42 71 37 rfl).1).trans (ev37)))))
          have lk76 : ((u73).1 71 54).toInt = (s.1 71 54).toInt := congrArg Int32.toInt (((fu73 71 54 rfl).1).trans (((fu54 71 54 rfl).1).trans (((fu46 71 54 rfl).1).trans ((fu42 71 54 rfl).1))))
          refine r_pick C [0] rfl ?_
          exact (key ((1 : Int)).toNat) (u73)   pu73_0 (by first | exact oqB85_m rfl hW3 (fun h9 => by have h8 := hU1 h9; omega) (fun h9 => by have h8 := hU0 h9; omega) | exact oqB85_r hW4 hRT1 (fun h9 => by have h8 := hRT5 h9; omega) (by omega) | exact oqB85_o hW5 (fun h9 => by have h8 := pu73_4 h9; omega) pu73_5 pu73_6 (by omega) | exact oqB85_w hz3 hz4 (oqWi_w (i := 5) (by decide) (by omega)) (by omega) (by omega)) (by first | exact (fun h9 => by (have h7 := hU1 (by omega); have hb := oqBs_3 (g := g) (a := a) (b := b) (R := R) (M := M) (N := N) hW3; clear hU1 hU0; omega)) | exact (fun h9 => by (have h7 := hRTC (by omega); have h6 := hRTO (by omega); have hb := oqBs_4 (g := g) (a := a) (b := b) (R := R) (M := M) (N := N) hW4; clear hRTC hRTO hRT1 hRT5; omega)) | exact (fun h9 => by (have h7 := pu73_8 (by omega); have h6 := pu73_1 (by omega); have hb := oqBs_5 (g := g) (a := a) (b := b) (R := R) (M := M) (N := N) hW5; clear pu73_8 pu73_1 pu73_4 pu73_5; omega)) | exact (fun h9 => by exfalso; omega)) (by first | exact (fun h9 => by rw [(oqBs_3 (g := g) (a := a) (b := b) (R := R) (M := M) (N := N) hW3).2.2, (oqBs_3 (g := g) (a := a) (b := b) (R := R) (M := M) (N := N) hW3).2.1]; exact (by assumption)) | exact (fun h9 => by rw [(oqBs_4 (g := g) (a := a) (b := b) (R := R) (M := M) (N := N) hW4).2.2, (oqBs_4 (g := g) (a := a) (b := b) (R := R) (M := M) (N := N) hW4).2.1]; exact (by assumption)) | exact (fun h9 => by rw [(oqBs_5 (g := g) (a := a) (b := b) (R := R) (M := M) (N := N) hW5).2.2, (oqBs_5 (g := g) (a := a) (b := b) (R := R) (M := M) (N := N) hW5).2.1, oqBh_i (i := 5) hW5]; exact pu73_7 (by omega)) | exact (fun h9 => by exfalso; omega)) (by omega) (by omega) pu73_9 (oqZ_fr fu73 rfl (oqZ_fr fu54 rfl (oqZ_fr fu46 rfl (oqZ_fr fu42 rfl hp13)))) (by omega) (by omega)
      · skip
        replace pu46_1 := pu46_1 (by omega)
        clear pu46_2
        have lc77 : ((u46).1 104 2).toInt = (s.1 104 2).toInt := congrArg Int32.toInt (((fu46 104 2 rfl).1).trans ((fu42 104 2 rfl).1))
        have lc78 : ((u46).1 104 3).toInt = (s.1 104 3).toInt := congrArg Int32.toInt (((fu46 104 3 rfl).1).trans ((fu42 104 3 rfl).1))
        have hW4 := oqWi_y (g := g) (A := a) (E := b) (i := 4) (by decide) (by omega)
        refine r_aload_n C (j := 0) (oDec_at oX12_bookTold 29 rfl) rfl rfl ?_
        refine r_iload_n C (j := 1) (oDec_at oX12_bookTold 30 rfl) rfl rfl ?_
        have lk79 : ((u46).1 71 5).toInt = (s.1 71 5).toInt := congrArg Int32.toInt (((fu46 71 5 rfl).1).trans ((fu42 71 5 rfl).1))
        have lk80 : ((u46).1 71 45).toInt = (s.1 71 45).toInt := congrArg Int32.toInt (((fu46 71 45 rfl).1).trans ((fu42 71 45 rfl).1))
        have lk81 : ((u46).1 71 5).toInt = (s.1 71 5).toInt := congrArg Int32.toInt (((fu46 71 5 rfl).1).trans ((fu42 71 5 rfl).1))
        have lk82 : ((u46).1 71 5).toInt = (s.1 71 5).toInt := congrArg Int32.toInt (((fu46 71 5 rfl).1).trans ((fu42 71 5 rfl).1))
        have lc83 : ((u46).1 104 3).toInt = (s.1 104 3).toInt := congrArg Int32.toInt (((fu46 104 3 rfl).1).trans ((fu42 104 3 rfl).1))
        have lc84 : ((u46).1 104 2).toInt = (s.1 104 2).toInt := congrArg Int32.toInt (((fu46 104 2 rfl).1).trans ((fu42 104 2 rfl).1))
        refine r_callVv C oCl12 rfl miX12_ruleTold mlX12_347 (ct7_X12_ruleTold l E (u46) v35 (g) (oqHa g a 4) (R) (oBB_fr fu46 rfl (oBB_fr fu42 rfl hp0)) (by omega) (by omega) (by omega) (by omega) (by omega) (by omega) (oqBP_fr fu46 rfl (oqBP_fr fu42 rfl hq34)) (oqZ_fr fu46 rfl (oqZ_fr fu42 rfl hp13)) (oqWd_fr fu46 rfl (oqWd_fr fu42 rfl hp14))) (by decide) rfl rfl rfl (Nat.le_of_ble_eq_true rfl) (oDec_at oX12_bookTold 31 rfl) (fun u85 pu85 fu85 => ?_)
        try dsimp only at pu85
        try simp only [lk79, lk80, lk81, lk82] at pu85
        obtain ⟨pu85_0, pu85_1, pu85_2, pu85_3, pu85_4, pu85_5, pu85_6, pu85_7⟩ := pu85
        have hRTO := pu85_1
        have hRT1 := pu85_4
        have hRT5 := pu85_5
        have hRTC := pu85_6
        clear pu85_1 pu85_4 pu85_5 pu85_6
        refine r_goto C (tgt := 85) (oDec_at oX12_bookTold 32 rfl) (by decide) ?_
        have lk87 : ((u85).1 71 37).toInt = v37.toInt := congrArg Int32.toInt (((fu85 71 37 rfl).1).trans (((fu46 71 37 rfl).1).trans (((fu42 71 37 rfl).1).trans (ev37))))
        have lk88 : ((u85).1 71 54).toInt = (s.1 71 54).toInt := congrArg Int32.toInt (((fu85 71 54 rfl).1).trans (((fu46 71 54 rfl).1).trans ((fu42 71 54 rfl).1)))
        refine r_pick C [0] rfl ?_
        exact (key ((1 : Int)).toNat) (u85)   pu85_0 (by first | exact oqB85_m rfl hW3 (fun h9 => by have h8 := hU1 h9; omega) (fun h9 => by have h8 := hU0 h9; omega) | exact oqB85_r hW4 hRT1 (fun h9 => by have h8 := hRT5 h9; omega) (by omega) | exact oqB85_o hW5 (fun h9 => by have h8 := pu85_4 h9; omega) pu85_5 pu85_6 (by omega) | exact oqB85_w hz3 hz4 (oqWi_w (i := 5) (by decide) (by omega)) (by omega) (by omega)) (by first | exact (fun h9 => by (have h7 := hU1 (by omega); have hb := oqBs_3 (g := g) (a := a) (b := b) (R := R) (M := M) (N := N) hW3; clear hU1 hU0; omega)) | exact (fun h9 => by (have h7 := hRTC (by omega); have h6 := hRTO (by omega); have hb := oqBs_4 (g := g) (a := a) (b := b) (R := R) (M := M) (N := N) hW4; clear hRTC hRTO hRT1 hRT5; omega)) | exact (fun h9 => by (have h7 := pu85_8 (by omega); have h6 := pu85_1 (by omega); have hb := oqBs_5 (g := g) (a := a) (b := b) (R := R) (M := M) (N := N) hW5; clear pu85_8 pu85_1 pu85_4 pu85_5; omega)) | exact (fun h9 => by exfalso; omega)) (by first | exact (fun h9 => by rw [(oqBs_3 (g := g) (a := a) (b := b) (R := R) (M := M) (N := N) hW3).2.2, (oqBs_3 (g := g) (a := a) (b := b) (R := R) (M := M) (N := N) hW3).2.1]; exact (oqNR_fr fu85 rfl (oqNR_fr fu46 rfl (oqNR_fr fu42 rfl hp10)))) | exact (fun h9 => by rw [(oqBs_4 (g := g) (a := a) (b := b) (R := R) (M := M) (N := N) hW4).2.2, (oqBs_4 (g := g) (a := a) (b := b) (R := R) (M := M) (N := N) hW4).2.1]; exact (oqNR_fr fu85 rfl (oqNR_fr fu46 rfl (oqNR_fr fu42 rfl hp10)))) | exact (fun h9 => by rw [(oqBs_5 (g := g) (a := a) (b := b) (R := R) (M := M) (N := N) hW5).2.2, (oqBs_5 (g := g) (a := a) (b := b) (R := R) (M := M) (N := N) hW5).2.1, oqBh_i (i := 5) hW5]; exact pu85_7 (by omega)) | exact (fun h9 => by exfalso; omega)) (by omega) (by omega) pu85_7 (oqZ_fr fu85 rfl (oqZ_fr fu46 rfl (oqZ_fr fu42 rfl hp13))) (by omega) (by omega)
    · skip
      replace pu42_1 := pu42_1 (by omega)
      clear pu42_2
      have hW3 := oqWi_y (g := g) (A := a) (E := b) (i := 3) (by decide) (by omega)
      refine r_aload_n C (j := 0) (oDec_at oX12_bookTold 17 rfl) rfl rfl ?_
      refine r_aload_n C (j := 0) (oDec_at oX12_bookTold 18 rfl) rfl rfl ?_
      refine r_iconst C (oDec_at oX12_bookTold 19 rfl) (v := k2) (by rw [qk2]; rfl) ?_
      refine r_bipush C (oDec_at oX12_bookTold 20 rfl) (v := k12) (by rw [qk12]; rfl) ?_
      have lk89 : ((u42).1 71 5).toInt = (s.1 71 5).toInt := congrArg Int32.toInt ((fu42 71 5 rfl).1)
      have lk90 : ((u42).1 71 5).toInt = (s.1 71 5).toInt := congrArg Int32.toInt ((fu42 71 5 rfl).1)
      have lk91 : ((u42).1 71 6).toInt = (s.1 71 6).toInt := congrArg Int32.toInt ((fu42 71 6 rfl).1)
      have lk92 : ((u42).1 71 5).toInt = (s.1 71 5).toInt := congrArg Int32.toInt ((fu42 71 5 rfl).1)
      have lk93 : ((u42).1 71 6).toInt = (s.1 71 6).toInt := congrArg Int32.toInt ((fu42 71 6 rfl).1)
      refine r_callVi C oCl12 rfl miX12_number mlX12_244 (ct7_X12_number l E (u42) k2 k12 (g) (oqHa g a 3) (oqHa g a 3) (2) (12) (by omega) (oqZ_fr fu42 rfl hp13) (by omega) (by omega) (oqBP_fr fu42 rfl hq34)) (by decide) rfl rfl rfl (Nat.le_of_ble_eq_true rfl) (oDec_at oX12_bookTold 21 rfl) (fun r95 u94 pu94 fu94 => ?_)
      try dsimp only at pu94
      try simp only [lk89, lk90, lk91, lk92, lk93] at pu94
      obtain ⟨pu94_0, pu94_1, pu94_2, pu94_3, pu94_4⟩ := pu94
      have rr95 := n_rng r95
      have hU1 := pu94_1
      have hU0 := pu94_2
      clear pu94_1 pu94_2
      refine r_puti (k := 54) (lo := (-2147483648)) (hi := 2147483647) C oCl12 rfl (by decide) flX12_344 rfl rfl rfl rfl rfl rfl rfl rfl (n_rng _) (oDec_at oX12_bookTold 22 rfl) ?_
      refine r_pc C 43 rfl ?_
      refine r_goto C (tgt := 85) (oDec_at oX12_bookTold 23 rfl) (by decide) ?_
      have lk96 : (((pI u94 71 54 r95)).1 71 37).toInt = v37.toInt := congrArg Int32.toInt (((pI_ne (a := 71) (b := 37) (c := 71) (k := 54) _ _ (Or.inr (by decide)))).trans (((fu94 71 37 rfl).1).trans (((fu42 71 37 rfl).1).trans (ev37))))
      have lc97 : (((pI u94 71 54 r95)).1 104 3).toInt = (s.1 104 3).toInt := congrArg Int32.toInt (((pI_ne (a := 104) (b := 3) (c := 71) _ _ (Or.inl (by decide)))).trans (((fu94 104 3 rfl).1).trans ((fu42 104 3 rfl).1)))
      have lc98 : (((pI u94 71 54 r95)).1 104 2).toInt = (s.1 104 2).toInt := congrArg Int32.toInt (((pI_ne (a := 104) (b := 2) (c := 71) _ _ (Or.inl (by decide)))).trans (((fu94 104 2 rfl).1).trans ((fu42 104 2 rfl).1)))
      have lc99 : (((pI u94 71 54 r95)).1 104 3).toInt = (s.1 104 3).toInt := congrArg Int32.toInt (((pI_ne (a := 104) (b := 3) (c := 71) _ _ (Or.inl (by decide)))).trans (((fu94 104 3 rfl).1).trans ((fu42 104 3 rfl).1)))
      have lk100 : (((pI u94 71 54 r95)).1 71 2).toInt = (u94.1 71 2).toInt := congrArg Int32.toInt ((pI_ne (a := 71) (b := 2) (c := 71) (k := 54) _ _ (Or.inr (by decide))))
      have lk101 : (((pI u94 71 54 r95)).1 71 5).toInt = (u94.1 71 5).toInt := congrArg Int32.toInt ((pI_ne (a := 71) (b := 5) (c := 71) (k := 54) _ _ (Or.inr (by decide))))
      have lk102 : (((pI u94 71 54 r95)).1 71 4).toInt = (u94.1 71 4).toInt := congrArg Int32.toInt ((pI_ne (a := 71) (b := 4) (c := 71) (k := 54) _ _ (Or.inr (by decide))))
      have lk103 : (((pI u94 71 54 r95)).1 71 6).toInt = (u94.1 71 6).toInt := congrArg Int32.toInt ((pI_ne (a := 71) (b := 6) (c := 71) (k := 54) _ _ (Or.inr (by decide))))
      have lk104 : (((pI u94 71 54 r95)).1 71 45).toInt = (s.1 71 45).toInt := congrArg Int32.toInt (((pI_ne (a := 71) (b := 45) (c := 71) (k := 54) _ _ (Or.inr (by decide)))).trans (((fu94 71 45 rfl).1).trans ((fu42 71 45 rfl).1)))
      have lk105 : (((pI u94 71 54 r95)).1 71 54).toInt = r95.toInt := congrArg Int32.toInt ((pI_self _ _ _ _))
      refine r_pick C [0] rfl ?_
      exact (key ((1 : Int)).toNat) ((pI u94 71 54 r95))   (oBB_fr (oFr_oneI (q := 12) (m := 54) rfl (by rfl)) rfl (oBB_frb fu94 rfl (by omega) (oBB_fr fu42 rfl hp0))) (by first | exact oqB85_m rfl hW3 (fun h9 => by have h8 := hU1 h9; omega) (fun h9 => by have h8 := hU0 h9; omega) | exact oqB85_r hW4 hRT1 (fun h9 => by have h8 := hRT5 h9; omega) (by omega) | exact oqB85_o hW5 (fun h9 => by have h8 := pu94_4 h9; omega) pu94_5 pu94_6 (by omega) | exact oqB85_w hz3 hz4 (oqWi_w (i := 5) (by decide) (by omega)) (by omega) (by omega)) (by first | exact (fun h9 => by (have h7 := hU1 (by omega); have hb := oqBs_3 (g := g) (a := a) (b := b) (R := R) (M := M) (N := N) hW3; clear hU1 hU0; omega)) | exact (fun h9 => by (have h7 := hRTC (by omega); have h6 := hRTO (by omega); have hb := oqBs_4 (g := g) (a := a) (b := b) (R := R) (M := M) (N := N) hW4; clear hRTC hRTO hRT1 hRT5; omega)) | exact (fun h9 => by (have h7 := pu94_8 (by omega); have h6 := pu94_1 (by omega); have hb := oqBs_5 (g := g) (a := a) (b := b) (R := R) (M := M) (N := N) hW5; clear pu94_8 pu94_1 pu94_4 pu94_5; omega)) | exact (fun h9 => by exfalso; omega)) (by first | exact (fun h9 => by rw [(oqBs_3 (g := g) (a := a) (b := b) (R := R) (M := M) (N := N) hW3).2.2, (oqBs_3 (g := g) (a := a) (b := b) (R := R) (M := M) (N := N) hW3).2.1]; exact (oqNR_fr (oFr_oneI (q := 12) (m := 54) rfl (by rfl)) rfl (oqNR_fr fu94 rfl (oqNR_fr fu42 rfl hp10)))) | exact (fun h9 => by rw [(oqBs_4 (g := g) (a := a) (b := b) (R := R) (M := M) (N := N) hW4).2.2, (oqBs_4 (g := g) (a := a) (b := b) (R := R) (M := M) (N := N) hW4).2.1]; exact (oqNR_fr (oFr_oneI (q := 12) (m := 54) rfl (by rfl)) rfl (oqNR_fr fu94 rfl (oqNR_fr fu42 rfl hp10)))) | exact (fun h9 => by rw [(oqBs_5 (g := g) (a := a) (b := b) (R := R) (M := M) (N := N) hW5).2.2, (oqBs_5 (g := g) (a := a) (b := b) (R := R) (M := M) (N := N) hW5).2.1, oqBh_i (i := 5) hW5]; exact pu94_7 (by omega)) | exact (fun h9 => by exfalso; omega)) (by omega) (by omega) (oqBP_fr (oFr_oneI (q := 12) (m := 54) rfl (by rfl)) rfl pu94_4) (oqZ_fr (oFr_oneI (q := 12) (m := 54) rfl (by rfl)) rfl (oqZ_fr fu94 rfl (oqZ_fr fu42 rfl hp13))) (by omega) (by omega)
  · skip
    refine r_aload_n C (j := 0) (oDec_at oX12_bookTold 7 rfl) rfl rfl ?_
    refine r_iconst C (oDec_at oX12_bookTold 8 rfl) (v := k5) (by rw [qk5]; rfl) ?_
    refine r_iload_n C (j := 1) (oDec_at oX12_bookTold 9 rfl) rfl rfl ?_
    refine r_callVv C oCl12 rfl miX12_fail mlX12_203 (ct7_X12_fail l E (s) k5 v35 (by omega) hq34) (by decide) rfl rfl rfl (Nat.le_of_ble_eq_true rfl) (oDec_at oX12_bookTold 10 rfl) (fun u106 pu106 fu106 => ?_)
    try dsimp only at pu106
    obtain ⟨pu106_0, pu106_1, pu106_2⟩ := pu106
    have lk108 : ((u106).1 71 45).toInt = (s.1 71 45).toInt := congrArg Int32.toInt ((fu106 71 45 rfl).1)
    have lk109 : ((u106).1 71 2).toInt = v35.toInt := congrArg Int32.toInt (((fu106 71 2 rfl).1).trans (ev35))
    have lk110 : ((u106).1 71 54).toInt = (s.1 71 54).toInt := congrArg Int32.toInt ((fu106 71 54 rfl).1)
    have lk111 : ((u106).1 71 37).toInt = v37.toInt := congrArg Int32.toInt (((fu106 71 37 rfl).1).trans (ev37))
    have lk112 : ((u106).1 71 37).toInt = v37.toInt := congrArg Int32.toInt (((fu106 71 37 rfl).1).trans (ev37))
    have lc113 : ((u106).1 104 3).toInt = (s.1 104 3).toInt := congrArg Int32.toInt ((fu106 104 3 rfl).1)
    have lc114 : ((u106).1 104 2).toInt = (s.1 104 2).toInt := congrArg Int32.toInt ((fu106 104 2 rfl).1)
    have lc115 : ((u106).1 104 3).toInt = (s.1 104 3).toInt := congrArg Int32.toInt ((fu106 104 3 rfl).1)
    have lk116 : ((u106).1 71 2).toInt = v35.toInt := congrArg Int32.toInt (((fu106 71 2 rfl).1).trans (ev35))
    have lk117 : ((u106).1 71 4).toInt = (s.1 71 4).toInt := congrArg Int32.toInt ((fu106 71 4 rfl).1)
    exact r_vret C (oDec_at oX12_bookTold 11 rfl) ⟨rfl, ⟨(oBB_frb fu106 rfl (by omega) hp0), by omega, by omega, by omega, by omega, by omega, by omega, fun h9 => by exfalso; omega⟩⟩
