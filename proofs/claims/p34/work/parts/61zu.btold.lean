set_option maxHeartbeats 4000000 in
set_option maxRecDepth 100000 in
theorem ct9_X12_bookTold (l : Launch) (E : oE) (s : oS)  (g : Int → Int) (a : Int) (b : Int) (R : Int) (M : Int) (N : Nat → Nat → Int) (Z : List Int) (W : Nat → List Int) (me : Int) (Cq : Nat → Int32) (Fq : Nat → Int32) (Tq : Nat → Int32) (nq : Int32) (hp0 : oBB s) (hp1 : (s.1 71 5).toInt = 0) (hp2 : (s.1 71 45).toInt ≤ (s.1 71 2).toInt) (hp3 : (s.1 104 3).toInt ≤ 6) (hp4 : (s.1 71 5).toInt = 0 → (2 ≤ (s.1 71 54).toInt ∧ (s.1 71 54).toInt ≤ 12)) (hp5 : (s.1 71 2).toInt = a) (hp6 : (s.1 71 4).toInt = b) (hp7 : oqSk g a = a) (hp8 : (s.1 104 2).toInt = R) (hp9 : (s.1 104 3).toInt = M) (hp10 : oqNR N M s) (hp11 : (s.1 71 6).toInt = -1) (hp12 : 0 ≤ R ∧ R ≤ 12 ∧ 0 ≤ M ∧ M ≤ 6) (hp13 : oqZ g s) (hp14 : oqWd s) (hp15 : owYl Z s) (hp16 : owRB R W Z s) (hp17 : (s.1 71 54).toInt = me) (hp18 : owC0 Cq s) (hp19 : owLw Fq Tq nq s) : oMet l 11 yX12_bookTold cX12_bookTold 2 none [(12, 2), (12, 4), (12, 5), (12, 6), (12, 9), (12, 36), (12, 37), (12, 45), (12, 47), (12, 48), (12, 54), (12, 55), (12, 56), (78, 9999), (79, 9999), (80, 9999), (81, 9999), (82, 9999), (83, 9999)] E s [.ref (oad E 71)] (oPv (fun u => (oBB u) ∧ ((u.1 71 5).toInt = 0 → ((u.1 71 45).toInt ≤ (u.1 71 2).toInt ∧ 2 ≤ (u.1 71 54).toInt ∧ (u.1 71 54).toInt ≤ 12 ∧ (u.1 71 37).toInt = (s.1 71 37).toInt + 1)) ∧ ((s.1 71 37).toInt ≤ (u.1 71 37).toInt) ∧ ((u.1 104 3).toInt ≤ 6) ∧ ((s.1 71 37).toInt = 60 → ((u.1 71 5).toInt = 5 ∧ (u.1 71 6).toInt = a)) ∧ ((s.1 71 37).toInt < 60 → (u.1 71 5).toInt = 0 → (oqBk g a b R M N = 0 ∧ (u.1 71 2).toInt = oqBa g a b ∧ (u.1 71 4).toInt = oqBb g a b ∧ (u.1 71 6).toInt = -1 ∧ (u.1 104 2).toInt = oqBR g a b R ∧ (u.1 104 3).toInt = oqBM g a b M)) ∧ ((s.1 71 37).toInt < 60 → (u.1 71 5).toInt ≠ 0 → (oqBk g a b R M N ≠ 0 ∧ (u.1 71 5).toInt = oqBk g a b R M N ∧ (u.1 71 6).toInt = oqBp g a b R M N)) ∧ ((s.1 71 37).toInt < 60 → (u.1 71 5).toInt = 0 → oqNR (oqBN g a b N M) (oqBM g a b M) u) ∧ (owC0 Cq u) ∧ (owLw Fq Tq nq u) ∧ ((s.1 71 37).toInt < 60 → (u.1 71 5).toInt = 0 → (owRB (oqBR g a b R) (owWk g a b R W) (oqRy 0 u) u ∧ (u.1 71 54).toInt = owMf g a b me)))) := by
  refine oMet.of (lv := [(0, .ref (oad E 71))]) (by decide +kernel) (Nat.le_of_ble_eq_true rfl) rfl (fun J C hT => ?_)
  have C : oC l 11 cX12_bookTold RX12 2 none [(12, 2), (12, 4), (12, 5), (12, 6), (12, 9), (12, 36), (12, 37), (12, 45), (12, 47), (12, 48), (12, 54), (12, 55), (12, 56), (78, 9999), (79, 9999), (80, 9999), (81, 9999), (82, 9999), (83, 9999)] E s (oPv (fun u => (oBB u) ∧ ((u.1 71 5).toInt = 0 → ((u.1 71 45).toInt ≤ (u.1 71 2).toInt ∧ 2 ≤ (u.1 71 54).toInt ∧ (u.1 71 54).toInt ≤ 12 ∧ (u.1 71 37).toInt = (s.1 71 37).toInt + 1)) ∧ ((s.1 71 37).toInt ≤ (u.1 71 37).toInt) ∧ ((u.1 104 3).toInt ≤ 6) ∧ ((s.1 71 37).toInt = 60 → ((u.1 71 5).toInt = 5 ∧ (u.1 71 6).toInt = a)) ∧ ((s.1 71 37).toInt < 60 → (u.1 71 5).toInt = 0 → (oqBk g a b R M N = 0 ∧ (u.1 71 2).toInt = oqBa g a b ∧ (u.1 71 4).toInt = oqBb g a b ∧ (u.1 71 6).toInt = -1 ∧ (u.1 104 2).toInt = oqBR g a b R ∧ (u.1 104 3).toInt = oqBM g a b M)) ∧ ((s.1 71 37).toInt < 60 → (u.1 71 5).toInt ≠ 0 → (oqBk g a b R M N ≠ 0 ∧ (u.1 71 5).toInt = oqBk g a b R M N ∧ (u.1 71 6).toInt = oqBp g a b R M N)) ∧ ((s.1 71 37).toInt < 60 → (u.1 71 5).toInt = 0 → oqNR (oqBN g a b N M) (oqBM g a b M) u) ∧ (owC0 Cq u) ∧ (owLw Fq Tq nq u) ∧ ((s.1 71 37).toInt < 60 → (u.1 71 5).toInt = 0 → (owRB (oqBR g a b R) (owWk g a b R W) (oqRy 0 u) u ∧ (u.1 71 54).toInt = owMf g a b me)))) J := C
  obtain ⟨k1, qk1⟩ : ∃ z : Int32, z = 1 := ⟨_, rfl⟩
  have ek1 : k1.toInt = 1 := by rw [qk1]; rfl
  obtain ⟨k2, qk2⟩ : ∃ z : Int32, z = 2 := ⟨_, rfl⟩
  have ek2 : k2.toInt = 2 := by rw [qk2]; rfl
  obtain ⟨k5, qk5⟩ : ∃ z : Int32, z = 5 := ⟨_, rfl⟩
  have ek5 : k5.toInt = 5 := by rw [qk5]; rfl
  obtain ⟨k12, qk12⟩ : ∃ z : Int32, z = 12 := ⟨_, rfl⟩
  have ek12 : k12.toInt = 12 := by rw [qk12]; rfl
  obtain ⟨k59, qk59⟩ : ∃ z : Int32, z = 59 := ⟨_, rfl⟩
  have ek59 : k59.toInt = 59 := by rw [qk59]; rfl
  obtain ⟨k60, qk60⟩ : ∃ z : Int32, z = 60 := ⟨_, rfl⟩
  have ek60 : k60.toInt = 60 := by rw [qk60]; rfl
  have htz_coded : (0 : Int) ≤ (s.1 71 45).toInt ∧ (s.1 71 45).toInt ≤ 1600 := hT.1 71 45
  have htz_at : (0 : Int) ≤ (s.1 71 2).toInt ∧ (s.1 71 2).toInt ≤ 1600 := hT.1 71 2
  have htz_statements : (0 : Int) ≤ (s.1 71 37).toInt ∧ (s.1 71 37).toInt ≤ 60 := hT.1 71 37
  have hmt := hp4 (by omega)
  clear hp4
  have hHa3 : oqHa g a 3 = oqSk g a + (oqWl 3 : Int) := rfl
  have hHa4 : oqHa g a 4 = oqSk g a + (oqWl 4 : Int) := rfl
  have hHa5 : oqHa g a 5 = oqSk g a + (oqWl 5 : Int) := rfl
  have hl3 : oqWl 3 = 7 := rfl
  have hl4 : oqWl 4 = 3 := rfl
  have hl5 : oqWl 5 = 5 := rfl
  have key : ∀ n : Nat, (∀ (t : oS), (oBB t) → (oqB85 g a b R M N t) → (oqC85 g a b R M t) → (oqD85 g a b M N t) → ((t.1 71 37).toInt = (s.1 71 37).toInt ∧ (t.1 71 37).toInt ≤ 59) → ((t.1 104 3).toInt ≤ 6) → (oqBP t) → (oqZ g t) → ((t.1 71 2).toInt = (t.1 71 2).toInt ∧ (t.1 71 5).toInt = (t.1 71 5).toInt ∧ (t.1 71 4).toInt = (t.1 71 4).toInt ∧ (t.1 71 6).toInt = (t.1 71 6).toInt ∧ (t.1 71 45).toInt = (t.1 71 45).toInt ∧ (t.1 71 54).toInt = (t.1 71 54).toInt ∧ (t.1 104 2).toInt = (t.1 104 2).toInt ∧ (t.1 104 3).toInt = (t.1 104 3).toInt) → ((t.1 71 5).toInt = 0 → (owRB (oqBR g a b R) (owWk g a b R W) (oqRy 0 t) t ∧ (t.1 71 54).toInt = owMf g a b me)) → (owC0 Cq t) → (owLw Fq Tq nq t) → (1 : Int) ≤ (n : Int) → J t 85 [(0, .ref (oad E 71))] []) := by
    intro n
    induction n using Nat.strongRecOn with
    | _ n ih =>
      skip
      · intro t   iv0 iv1 iv2 iv3 iv4 iv5 iv6 iv7 iv8 iv9 iv10 iv11 hmu
        refine r_aload_n C (j := 0) (oDec_at oX12_bookTold 43 rfl) rfl rfl ?_
        refine r_bipush C (oDec_at oX12_bookTold 44 rfl) (v := k59) (by rw [qk59]; rfl) ?_
        refine r_callVv C oCl12 rfl miX12_asksSign mlX12_248 (ct7_X12_asksSign l E (t) k59 (g) ((t.1 71 2).toInt) (59) (by omega) iv7 (by omega) (by omega) iv6) (by decide) rfl rfl rfl (Nat.le_of_ble_eq_true rfl) (oDec_at oX12_bookTold 45 rfl) (fun u1 pu1 fu1 => ?_)
        try dsimp only at pu1
        obtain ⟨pu1_0, pu1_1, pu1_2, pu1_3, pu1_4⟩ := pu1
        have lc3 : ((u1).1 104 2).toInt = (t.1 104 2).toInt := congrArg Int32.toInt ((fu1 104 2 rfl).1)
        have lc4 : ((u1).1 104 3).toInt = (t.1 104 3).toInt := congrArg Int32.toInt ((fu1 104 3 rfl).1)
        have lk5 : ((u1).1 71 4).toInt = (t.1 71 4).toInt := congrArg Int32.toInt ((fu1 71 4 rfl).1)
        have lk6 : ((u1).1 71 48).toInt = (t.1 71 48).toInt := congrArg Int32.toInt ((fu1 71 48 rfl).1)
        have lk7 : ((u1).1 71 47).toInt = (t.1 71 47).toInt := congrArg Int32.toInt ((fu1 71 47 rfl).1)
        have lk8 : ((u1).1 71 37).toInt = (t.1 71 37).toInt := congrArg Int32.toInt ((fu1 71 37 rfl).1)
        have lk9 : ((u1).1 71 45).toInt = (t.1 71 45).toInt := congrArg Int32.toInt ((fu1 71 45 rfl).1)
        have lk10 : ((u1).1 71 54).toInt = (t.1 71 54).toInt := congrArg Int32.toInt ((fu1 71 54 rfl).1)
        have hE9 : ((u1).1 71 5).toInt = 0 → (owRB (oqBR g a b R) (owWk g a b R W) (oqRy 0 (u1)) (u1) ∧ ((u1).1 71 54).toInt = owMf g a b me) := fun h9 => by have h8 := iv9 ((pu1_0 h9).1); rw [oqRy_e (oFr_row fu1 (c := 102) rfl rfl) (fu1 71 45 rfl).1, (fu1 71 54 rfl).1]; exact ⟨owRB_fr fu1 rfl h8.1, h8.2⟩
        have hmono : ((u1).1 71 5).toInt = 0 → (t.1 71 5).toInt = 0 := fun h9 => (pu1_0 h9).1
        have hF := iv1 (u1) (fun h9 => pu1_3 h9) (fun h9 => by (have h8 := pu1_0 h9; omega)) (fun h9 => by (have h8 := pu1_1 h9; omega))
        have hC : (((u1).1 71 5).toInt = 0 → ((u1).1 71 45).toInt ≤ ((u1).1 71 2).toInt ∧ 2 ≤ ((u1).1 71 54).toInt ∧ ((u1).1 71 54).toInt ≤ 12 ∧ ((u1).1 104 2).toInt = oqBR g a b R ∧ ((u1).1 104 3).toInt = oqBM g a b M) := fun h9 => by (have h8 := iv2 (hmono h9); clear hF hmono pu1_0 pu1_1 pu1_3; omega)
        have hD : ((u1).1 71 5).toInt = 0 → oqNR (oqBN g a b N M) (oqBM g a b M) (u1) := fun h9 => oqNR_fr fu1 rfl (iv3 (hmono h9))
        have hbp : ((u1).1 71 5).toInt = 0 → ((u1).1 71 6).toInt = -1 := pu1_4
        clear pu1_0 pu1_1 pu1_3
        refine r_aload_n C (j := 0) (oDec_at oX12_bookTold 46 rfl) rfl rfl ?_
        refine r_dup C (oDec_at oX12_bookTold 47 rfl) rfl ?_
        obtain ⟨v11, ev11⟩ : ∃ z : Int32, (u1).1 71 37 = z := ⟨_, rfl⟩
        have gv11 : (t.1 71 37).toInt = v11.toInt := congrArg Int32.toInt (((fu1 71 37 rfl).1).symm.trans ev11)
        have ggv11 : ((u1).1 71 37).toInt = v11.toInt := congrArg Int32.toInt ev11
        refine r_geti (k := 37) (lo := 0) (hi := 60) C v11 oCl12 rfl (by decide) flX12_231 rfl rfl (ev11) rfl rfl (oDec_at oX12_bookTold 48 rfl) (fun b12 b12h => ?_)
        refine r_pc C 96 rfl ?_
        refine r_iconst C (oDec_at oX12_bookTold 49 rfl) (v := k1) (by rw [qk1]; rfl) ?_
        obtain ⟨v13, ev13⟩ : ∃ z : Int32, z = v11 + k1 := ⟨_, rfl⟩
        have hv13 : v13.toInt = v11.toInt + k1.toInt := n_add ev13 (by omega) (by omega)
        refine r_iadd C v13 (oDec_at oX12_bookTold 50 rfl) ev13 ?_
        refine r_puti (k := 37) (lo := 0) (hi := 60) C oCl12 rfl (by decide) flX12_231 rfl rfl rfl rfl rfl rfl rfl rfl ⟨by omega, by omega⟩ (oDec_at oX12_bookTold 51 rfl) ?_
        have lk14 : (((pI u1 71 37 v13)).1 71 6).toInt = (u1.1 71 6).toInt := congrArg Int32.toInt ((pI_ne (a := 71) (b := 6) (c := 71) (k := 37) _ _ (Or.inr (by decide))))
        have lk15 : (((pI u1 71 37 v13)).1 71 5).toInt = (u1.1 71 5).toInt := congrArg Int32.toInt ((pI_ne (a := 71) (b := 5) (c := 71) (k := 37) _ _ (Or.inr (by decide))))
        have lk16 : (((pI u1 71 37 v13)).1 71 54).toInt = (t.1 71 54).toInt := congrArg Int32.toInt (((pI_ne (a := 71) (b := 54) (c := 71) (k := 37) _ _ (Or.inr (by decide)))).trans ((fu1 71 54 rfl).1))
        have lk17 : (((pI u1 71 37 v13)).1 71 5).toInt = (u1.1 71 5).toInt := congrArg Int32.toInt ((pI_ne (a := 71) (b := 5) (c := 71) (k := 37) _ _ (Or.inr (by decide))))
        have lk18 : (((pI u1 71 37 v13)).1 71 45).toInt = (t.1 71 45).toInt := congrArg Int32.toInt (((pI_ne (a := 71) (b := 45) (c := 71) (k := 37) _ _ (Or.inr (by decide)))).trans ((fu1 71 45 rfl).1))
        have lk19 : (((pI u1 71 37 v13)).1 71 2).toInt = (u1.1 71 2).toInt := congrArg Int32.toInt ((pI_ne (a := 71) (b := 2) (c := 71) (k := 37) _ _ (Or.inr (by decide))))
        have lk20 : (((pI u1 71 37 v13)).1 71 54).toInt = (t.1 71 54).toInt := congrArg Int32.toInt (((pI_ne (a := 71) (b := 54) (c := 71) (k := 37) _ _ (Or.inr (by decide)))).trans ((fu1 71 54 rfl).1))
        have lk21 : (((pI u1 71 37 v13)).1 71 37).toInt = v13.toInt := congrArg Int32.toInt ((pI_self _ _ _ _))
        have lk22 : (((pI u1 71 37 v13)).1 71 37).toInt = v13.toInt := congrArg Int32.toInt ((pI_self _ _ _ _))
        have lc23 : (((pI u1 71 37 v13)).1 104 3).toInt = (t.1 104 3).toInt := congrArg Int32.toInt (((pI_ne (a := 104) (b := 3) (c := 71) _ _ (Or.inl (by decide)))).trans ((fu1 104 3 rfl).1))
        have lk24 : (((pI u1 71 37 v13)).1 71 5).toInt = (u1.1 71 5).toInt := congrArg Int32.toInt ((pI_ne (a := 71) (b := 5) (c := 71) (k := 37) _ _ (Or.inr (by decide))))
        have lk25 : (((pI u1 71 37 v13)).1 71 6).toInt = (u1.1 71 6).toInt := congrArg Int32.toInt ((pI_ne (a := 71) (b := 6) (c := 71) (k := 37) _ _ (Or.inr (by decide))))
        have lc26 : (((pI u1 71 37 v13)).1 104 2).toInt = (t.1 104 2).toInt := congrArg Int32.toInt (((pI_ne (a := 104) (b := 2) (c := 71) _ _ (Or.inl (by decide)))).trans ((fu1 104 2 rfl).1))
        have lc27 : (((pI u1 71 37 v13)).1 104 3).toInt = (t.1 104 3).toInt := congrArg Int32.toInt (((pI_ne (a := 104) (b := 3) (c := 71) _ _ (Or.inl (by decide)))).trans ((fu1 104 3 rfl).1))
        have lk28 : (((pI u1 71 37 v13)).1 71 5).toInt = (u1.1 71 5).toInt := congrArg Int32.toInt ((pI_ne (a := 71) (b := 5) (c := 71) (k := 37) _ _ (Or.inr (by decide))))
        have lk29 : (((pI u1 71 37 v13)).1 71 2).toInt = (u1.1 71 2).toInt := congrArg Int32.toInt ((pI_ne (a := 71) (b := 2) (c := 71) (k := 37) _ _ (Or.inr (by decide))))
        have lk30 : (((pI u1 71 37 v13)).1 71 4).toInt = (t.1 71 4).toInt := congrArg Int32.toInt (((pI_ne (a := 71) (b := 4) (c := 71) (k := 37) _ _ (Or.inr (by decide)))).trans ((fu1 71 4 rfl).1))
        have lk31 : (((pI u1 71 37 v13)).1 71 6).toInt = (u1.1 71 6).toInt := congrArg Int32.toInt ((pI_ne (a := 71) (b := 6) (c := 71) (k := 37) _ _ (Or.inr (by decide))))
        have lk32 : (((pI u1 71 37 v13)).1 71 5).toInt = (u1.1 71 5).toInt := congrArg Int32.toInt ((pI_ne (a := 71) (b := 5) (c := 71) (k := 37) _ _ (Or.inr (by decide))))
        have lk33 : (((pI u1 71 37 v13)).1 71 6).toInt = (u1.1 71 6).toInt := congrArg Int32.toInt ((pI_ne (a := 71) (b := 6) (c := 71) (k := 37) _ _ (Or.inr (by decide))))
        have lk34 : (((pI u1 71 37 v13)).1 71 5).toInt = (u1.1 71 5).toInt := congrArg Int32.toInt ((pI_ne (a := 71) (b := 5) (c := 71) (k := 37) _ _ (Or.inr (by decide))))
        have lk35 : (((pI u1 71 37 v13)).1 71 5).toInt = (u1.1 71 5).toInt := congrArg Int32.toInt ((pI_ne (a := 71) (b := 5) (c := 71) (k := 37) _ _ (Or.inr (by decide))))
        have lk36 : (((pI u1 71 37 v13)).1 71 54).toInt = (t.1 71 54).toInt := congrArg Int32.toInt (((pI_ne (a := 71) (b := 54) (c := 71) (k := 37) _ _ (Or.inr (by decide)))).trans ((fu1 71 54 rfl).1))
        exact r_vret C (oDec_at oX12_bookTold 52 rfl) ⟨rfl, ⟨(oBB_fr (oFr_oneI (q := 12) (m := 37) rfl (by rfl)) rfl (oBB_frb fu1 rfl (by omega) iv0)), fun h9 => by (have h8 := hC (by omega); clear hC hF hbp hmono; omega), by omega, by omega, by omega, fun _ h9 => by (have h8 := hC (by omega); have h7 := hF.1 (by omega); have h6 := hbp (by omega); clear hC hF hbp hmono; omega), fun _ h9 => by (have h7 := hF.2 (by omega); clear hC hF hbp hmono; omega), fun _ h9 => oqNR_fr (oFr_oneI (q := 12) (m := 37) rfl (by rfl)) rfl (hD (by omega)), (owC0_fr (oFr_oneI (q := 12) (m := 37) rfl (by rfl)) rfl (owC0_fr fu1 rfl iv10)), (owLw_fr (oFr_oneI (q := 12) (m := 37) rfl (by rfl)) rfl (owLw_fr fu1 rfl iv11)), fun _ h9 => by have h8 := hE9 (by omega); have hl8 := hE9; exact ⟨by rw [oqRy_e (oqRow_ne (by decide)) (pI_ne _ _ (Or.inr (by decide)))]; exact owRB_fr (oFr_oneI (q := 12) (m := 37) rfl (by rfl)) rfl h8.1, by omega⟩⟩⟩
  have hq37 : oqBP (s) := fun _ => by omega
  refine r_aload_n C (j := 0) (oDec_at oX12_bookTold 0 rfl) rfl rfl ?_
  obtain ⟨v38, ev38⟩ : ∃ z : Int32, (s).1 71 2 = z := ⟨_, rfl⟩
  have gv38 : (s.1 71 2).toInt = v38.toInt := congrArg Int32.toInt (ev38)
  refine r_geti (k := 2) (lo := 0) (hi := 1600) C v38 oCl12 rfl (by decide) flX12_179 rfl rfl (ev38) rfl rfl (oDec_at oX12_bookTold 1 rfl) (fun b39 b39h => ?_)
  refine r_istore_n C (lv' := [(0, .ref (oad E 71)), (1, .int v38)]) [1, 0] (oDec_at oX12_bookTold 2 rfl) rfl (by decide) rfl ?_
  refine r_aload_n C (j := 0) (oDec_at oX12_bookTold 3 rfl) rfl rfl ?_
  obtain ⟨v40, ev40⟩ : ∃ z : Int32, (s).1 71 37 = z := ⟨_, rfl⟩
  have gv40 : (s.1 71 37).toInt = v40.toInt := congrArg Int32.toInt (ev40)
  refine r_geti (k := 37) (lo := 0) (hi := 60) C v40 oCl12 rfl (by decide) flX12_231 rfl rfl (ev40) rfl rfl (oDec_at oX12_bookTold 4 rfl) (fun b41 b41h => ?_)
  refine r_bipush C (oDec_at oX12_bookTold 5 rfl) (v := k60) (by rw [qk60]; rfl) ?_
  refine r_pc C 11 rfl ?_
  refine r_icmp_ne C 21 (oDec_at oX12_bookTold 6 rfl) (by decide) (fun cd42 => ?_) (fun cd42 => ?_)
  · skip
    refine r_aload_n C (j := 0) (oDec_at oX12_bookTold 12 rfl) rfl rfl ?_
    refine r_aload_n C (j := 0) (oDec_at oX12_bookTold 13 rfl) rfl rfl ?_
    refine r_getF (k := 13) (b := 76) C oCl12 rfl (by decide) flX12_27 rfl rfl rfl (oDec_at oX12_bookTold 14 rfl) ?_
    have lk43 : ((s).1 71 2).toInt = v38.toInt := congrArg Int32.toInt (ev38)
    have lk44 : ((s).1 71 2).toInt = v38.toInt := congrArg Int32.toInt (ev38)
    refine r_callVi C oCl12 rfl miX12_takes mlX12_200 (ct6_X12_takes l E (s) 76 52 7 rfl (by decide) (by decide) rfl rfl (g) (a) (b) (3) (by omega) (by omega) hp13 (by omega) (by omega) rfl (oqWd_at hp14 3 (by decide)) (by omega)) (by decide) rfl rfl rfl (Nat.le_of_ble_eq_true rfl) (oDec_at oX12_bookTold 15 rfl) (fun r46 u45 pu45 fu45 => ?_)
    try dsimp only at pu45
    try simp only [lk43, lk44] at pu45
    obtain ⟨pu45_0, pu45_1, pu45_2, pu45_3, pu45_4⟩ := pu45
    have rr46 := n_rng r46
    refine r_if_eq C 46 (oDec_at oX12_bookTold 16 rfl) (by decide) (fun cd47 => ?_) (fun cd47 => ?_)
    · skip
      clear pu45_1
      replace pu45_2 := pu45_2 (by omega)
      have hz3 := oqWi_w (g := g) (A := a) (E := b) (i := 3) (by decide) (by omega)
      refine r_aload_n C (j := 0) (oDec_at oX12_bookTold 24 rfl) rfl rfl ?_
      refine r_aload_n C (j := 0) (oDec_at oX12_bookTold 25 rfl) rfl rfl ?_
      refine r_getF (k := 14) (b := 77) C oCl12 rfl (by decide) flX12_30 rfl rfl rfl (oDec_at oX12_bookTold 26 rfl) ?_
      have lk48 : ((u45).1 71 5).toInt = (s.1 71 5).toInt := congrArg Int32.toInt ((fu45 71 5 rfl).1)
      refine r_callVi C oCl12 rfl miX12_takes mlX12_200 (ct6_X12_takes l E (u45) 77 53 3 rfl (by decide) (by decide) rfl rfl (g) (a) (b) (4) (by omega) (by omega) (oqZ_fr fu45 rfl hp13) (by omega) (by omega) rfl (oqWd_at (oqWd_fr fu45 rfl hp14) 4 (by decide)) (by omega)) (by decide) rfl rfl rfl (Nat.le_of_ble_eq_true rfl) (oDec_at oX12_bookTold 27 rfl) (fun r50 u49 pu49 fu49 => ?_)
      try dsimp only at pu49
      try simp only [lk48] at pu49
      obtain ⟨pu49_0, pu49_1, pu49_2, pu49_3, pu49_4⟩ := pu49
      have rr50 := n_rng r50
      refine r_if_eq C 65 (oDec_at oX12_bookTold 28 rfl) (by decide) (fun cd51 => ?_) (fun cd51 => ?_)
      · skip
        clear pu49_1
        replace pu49_2 := pu49_2 (by omega)
        have hz4 := oqWi_w (g := g) (A := a) (E := b) (i := 4) (by decide) (by omega)
        refine r_aload_n C (j := 0) (oDec_at oX12_bookTold 33 rfl) rfl rfl ?_
        refine r_aload_n C (j := 0) (oDec_at oX12_bookTold 34 rfl) rfl rfl ?_
        refine r_getF (k := 15) (b := 78) C oCl12 rfl (by decide) flX12_33 rfl rfl rfl (oDec_at oX12_bookTold 35 rfl) ?_
        have lk52 : ((u49).1 71 5).toInt = (s.1 71 5).toInt := congrArg Int32.toInt (((fu49 71 5 rfl).1).trans ((fu45 71 5 rfl).1))
        have lk53 : ((u49).1 71 5).toInt = (s.1 71 5).toInt := congrArg Int32.toInt (((fu49 71 5 rfl).1).trans ((fu45 71 5 rfl).1))
        have lk54 : ((u49).1 71 6).toInt = (s.1 71 6).toInt := congrArg Int32.toInt (((fu49 71 6 rfl).1).trans ((fu45 71 6 rfl).1))
        have lk55 : ((u49).1 71 5).toInt = (s.1 71 5).toInt := congrArg Int32.toInt (((fu49 71 5 rfl).1).trans ((fu45 71 5 rfl).1))
        have lk56 : ((u49).1 71 6).toInt = (s.1 71 6).toInt := congrArg Int32.toInt (((fu49 71 6 rfl).1).trans ((fu45 71 6 rfl).1))
        refine r_callVv C oCl12 rfl miX12_asks mlX12_240 (ct7_X12_asks l E (u49) 78 54 5 rfl (by decide) (by decide) rfl rfl (g) (a) (b) (5) (by omega) (oqZ_fr fu49 rfl (oqZ_fr fu45 rfl hp13)) (by omega) rfl (oqWd_at (oqWd_fr fu49 rfl (oqWd_fr fu45 rfl hp14)) 5 (by decide)) (by omega) (oqBP_fr fu49 rfl (oqBP_fr fu45 rfl hq37))) (by decide) rfl rfl rfl (Nat.le_of_ble_eq_true rfl) (oDec_at oX12_bookTold 36 rfl) (fun u57 pu57 fu57 => ?_)
        try dsimp only at pu57
        try simp only [lk52, lk53, lk54, lk55, lk56] at pu57
        obtain ⟨pu57_0, pu57_1, pu57_2, pu57_3⟩ := pu57
        refine r_aload_n C (j := 0) (oDec_at oX12_bookTold 37 rfl) rfl rfl ?_
        obtain ⟨v59, ev59⟩ : ∃ z : Int32, (u57).1 71 5 = z := ⟨_, rfl⟩
        have gv59 : (u57.1 71 5).toInt = v59.toInt := congrArg Int32.toInt (ev59)
        have rv59 := n_rng v59
        refine r_geti (k := 5) (lo := (-2147483648)) (hi := 2147483647) C v59 oCl12 rfl (by decide) flX12_173 rfl rfl (ev59) rfl rfl (oDec_at oX12_bookTold 38 rfl) (fun _ _ => ?_)
        refine r_pc C 77 rfl ?_
        refine r_if_ne C 85 (oDec_at oX12_bookTold 39 rfl) (by decide) (fun cd60 => ?_) (fun cd60 => ?_)
        · skip
          have lk61 : ((u57).1 71 37).toInt = v40.toInt := congrArg Int32.toInt (((fu57 71 37 rfl).1).trans (((fu49 71 37 rfl).1).trans (((fu45 71 37 rfl).1).trans (ev40))))
          have lc62 : ((u57).1 104 3).toInt = (s.1 104 3).toInt := congrArg Int32.toInt (((fu57 104 3 rfl).1).trans (((fu49 104 3 rfl).1).trans ((fu45 104 3 rfl).1)))
          have lc63 : ((u57).1 104 2).toInt = (s.1 104 2).toInt := congrArg Int32.toInt (((fu57 104 2 rfl).1).trans (((fu49 104 2 rfl).1).trans ((fu45 104 2 rfl).1)))
          have lc64 : ((u57).1 104 3).toInt = (s.1 104 3).toInt := congrArg Int32.toInt (((fu57 104 3 rfl).1).trans (((fu49 104 3 rfl).1).trans ((fu45 104 3 rfl).1)))
          have lk65 : ((u57).1 71 5).toInt = v59.toInt := congrArg Int32.toInt (ev59)
          have lk66 : ((u57).1 71 45).toInt = (s.1 71 45).toInt := congrArg Int32.toInt (((fu57 71 45 rfl).1).trans (((fu49 71 45 rfl).1).trans ((fu45 71 45 rfl).1)))
          have lk67 : ((u57).1 71 54).toInt = (s.1 71 54).toInt := congrArg Int32.toInt (((fu57 71 54 rfl).1).trans (((fu49 71 54 rfl).1).trans ((fu45 71 54 rfl).1)))
          refine r_pick C [0] rfl ?_
          exact (key ((1 : Int)).toNat) (u57)   (oBB_frb fu57 rfl (by omega) (oBB_fr fu49 rfl (oBB_fr fu45 rfl hp0))) (by first | exact oqB85_m rfl hW3 (fun h9 => by have h8 := hU1 h9; omega) (fun h9 => by have h8 := hU0 h9; omega) | exact oqB85_r hW4 hRT1 (fun h9 => by have h8 := hRT5 h9; omega) (by omega) | exact oqB85_o hW5 (fun h9 => by have h8 := pu57_4 h9; omega) pu57_5 pu57_6 (by omega) | exact oqB85_w hz3 hz4 (oqWi_w (i := 5) (by decide) (by omega)) (by omega) (by omega)) (by first | exact (fun h9 => by (have h7 := hU1 (by omega); have hb := oqBs_3 (g := g) (a := a) (b := b) (R := R) (M := M) (N := N) hW3; clear hU1 hU0; omega)) | exact (fun h9 => by (have h7 := hRTC (by omega); have h6 := hRTO (by omega); have hb := oqBs_4 (g := g) (a := a) (b := b) (R := R) (M := M) (N := N) hW4; clear hRTC hRTO hRT1 hRT5; omega)) | exact (fun h9 => by (have h7 := pu57_8 (by omega); have h6 := pu57_1 (by omega); have hb := oqBs_5 (g := g) (a := a) (b := b) (R := R) (M := M) (N := N) hW5; clear pu57_8 pu57_1 pu57_4 pu57_5; omega)) | exact (fun h9 => by exfalso; omega)) (by first | exact (fun h9 => by rw [(oqBs_3 (g := g) (a := a) (b := b) (R := R) (M := M) (N := N) hW3).2.2, (oqBs_3 (g := g) (a := a) (b := b) (R := R) (M := M) (N := N) hW3).2.1]; exact (oqNR_fr fu57 rfl (oqNR_fr fu49 rfl (oqNR_fr fu45 rfl hp10)))) | exact (fun h9 => by rw [(oqBs_4 (g := g) (a := a) (b := b) (R := R) (M := M) (N := N) hW4).2.2, (oqBs_4 (g := g) (a := a) (b := b) (R := R) (M := M) (N := N) hW4).2.1]; exact (oqNR_fr fu57 rfl (oqNR_fr fu49 rfl (oqNR_fr fu45 rfl hp10)))) | exact (fun h9 => by rw [(oqBs_5 (g := g) (a := a) (b := b) (R := R) (M := M) (N := N) hW5).2.2, (oqBs_5 (g := g) (a := a) (b := b) (R := R) (M := M) (N := N) hW5).2.1, oqBh_i (i := 5) hW5]; exact pu57_7 (by omega)) | exact (fun h9 => by exfalso; omega)) (by omega) (by omega) pu57_3 (oqZ_fr fu57 rfl (oqZ_fr fu49 rfl (oqZ_fr fu45 rfl hp13))) (by omega) (by first | exact fun h9 => ⟨by rw [(oqBs_3 (g := g) (a := a) (b := b) (R := R) (M := M) (N := N) hW3).1, owWk_n (by omega), (show owYl Z (u57) from (owYl_frb fu57 rfl (by omega) (owYl_fr fu49 rfl (owYl_fr fu45 rfl hp15)))) h9]; exact (owRB_fr fu57 rfl (owRB_fr fu49 rfl (owRB_fr fu45 rfl hp16))), by rw [owMf_3 hW3, oqBh_i (i := 3) hW3]; have h8 := hU1 (by omega); omega⟩ | exact fun h9 => ⟨by rw [(oqBs_4 (g := g) (a := a) (b := b) (R := R) (M := M) (N := N) hW4).1, owWk_4 hW4, oqBh_i (i := 4) hW4]; exact hRTB (by omega), by rw [owMf_n (by omega)]; omega⟩ | exact fun h9 => ⟨by rw [(oqBs_5 (g := g) (a := a) (b := b) (R := R) (M := M) (N := N) hW5).1, owWk_n (by omega)]; exact pu57_12 (by omega), by rw [owMf_n (by omega)]; omega⟩ | exact (fun h9 => by exfalso; omega)) (owC0_fr fu57 rfl (owC0_fr fu49 rfl (owC0_fr fu45 rfl hp18))) (owLw_fr fu57 rfl (owLw_fr fu49 rfl (owLw_fr fu45 rfl hp19))) (by omega)
        · skip
          have lc68 : ((u57).1 104 2).toInt = (s.1 104 2).toInt := congrArg Int32.toInt (((fu57 104 2 rfl).1).trans (((fu49 104 2 rfl).1).trans ((fu45 104 2 rfl).1)))
          have lc69 : ((u57).1 104 3).toInt = (s.1 104 3).toInt := congrArg Int32.toInt (((fu57 104 3 rfl).1).trans (((fu49 104 3 rfl).1).trans ((fu45 104 3 rfl).1)))
          have hQ1 := pu57_0 (by omega)
          clear pu57_0 pu57_1
          have hW5 := oqWi_y (g := g) (A := a) (E := b) (i := 5) (by decide) (by omega)
          have hnl5 : ¬ (97 ≤ g (oqHa g a 5) ∧ g (oqHa g a 5) ≤ 122) := (oqH_is (g := g) (a := a) (b := b) (i := 5) (by omega)).1.2
          refine r_aload_n C (j := 0) (oDec_at oX12_bookTold 40 rfl) rfl rfl ?_
          refine r_iload_n C (j := 1) (oDec_at oX12_bookTold 41 rfl) rfl rfl ?_
          have lk70 : ((u57).1 71 5).toInt = v59.toInt := congrArg Int32.toInt (ev59)
          have lk71 : ((u57).1 71 45).toInt = (s.1 71 45).toInt := congrArg Int32.toInt (((fu57 71 45 rfl).1).trans (((fu49 71 45 rfl).1).trans ((fu45 71 45 rfl).1)))
          have lk72 : ((u57).1 71 5).toInt = v59.toInt := congrArg Int32.toInt (ev59)
          have lk73 : ((u57).1 71 5).toInt = v59.toInt := congrArg Int32.toInt (ev59)
          have lc74 : ((u57).1 104 3).toInt = (s.1 104 3).toInt := congrArg Int32.toInt (((fu57 104 3 rfl).1).trans (((fu49 104 3 rfl).1).trans ((fu45 104 3 rfl).1)))
          have lc75 : ((u57).1 104 3).toInt = (s.1 104 3).toInt := congrArg Int32.toInt (((fu57 104 3 rfl).1).trans (((fu49 104 3 rfl).1).trans ((fu45 104 3 rfl).1)))
          refine r_callVv C oCl12 rfl miX12_mottoTold mlX12_350 (ct9_X12_mottoTold l E (u57) v38 (g) (oqHa g a 5) (N) (M) (Z) (W) (R) (Cq) (Fq) (Tq) (nq) (oBB_frb fu57 rfl (by omega) (oBB_fr fu49 rfl (oBB_fr fu45 rfl hp0))) (by omega) (by omega) (by omega) (by omega) (by omega) (by omega) (oqNR_fr fu57 rfl (oqNR_fr fu49 rfl (oqNR_fr fu45 rfl hp10))) (by omega) pu57_3 (oqZ_fr fu57 rfl (oqZ_fr fu49 rfl (oqZ_fr fu45 rfl hp13))) (oqWd_fr fu57 rfl (oqWd_fr fu49 rfl (oqWd_fr fu45 rfl hp14))) (owYl_frb fu57 rfl (by omega) (owYl_fr fu49 rfl (owYl_fr fu45 rfl hp15))) (owRB_fr fu57 rfl (owRB_fr fu49 rfl (owRB_fr fu45 rfl hp16))) (by omega) (owC0_fr fu57 rfl (owC0_fr fu49 rfl (owC0_fr fu45 rfl hp18))) (owLw_fr fu57 rfl (owLw_fr fu49 rfl (owLw_fr fu45 rfl hp19)))) (by decide) rfl rfl rfl (Nat.le_of_ble_eq_true rfl) (oDec_at oX12_bookTold 42 rfl) (fun u76 pu76 fu76 => ?_)
          try dsimp only at pu76
          try simp only [lk70, lk71, lk72, lk73] at pu76
          obtain ⟨pu76_0, pu76_1, pu76_2, pu76_3, pu76_4, pu76_5, pu76_6, pu76_7, pu76_8, pu76_9, pu76_10, pu76_11, pu76_12⟩ := pu76
          have lk78 : ((u76).1 71 37).toInt = v40.toInt := congrArg Int32.toInt (((fu76 71 37 rfl).1).trans (((fu57 71 37 rfl).1).trans (((fu49 71 37 rfl).1).trans (((fu45 71 37 rfl).1).trans (ev40)))))
          have lk79 : ((u76).1 71 54).toInt = (s.1 71 54).toInt := congrArg Int32.toInt (((fu76 71 54 rfl).1).trans (((fu57 71 54 rfl).1).trans (((fu49 71 54 rfl).1).trans ((fu45 71 54 rfl).1))))
          refine r_pick C [0] rfl ?_
          exact (key ((1 : Int)).toNat) (u76)   pu76_0 (by first | exact oqB85_m rfl hW3 (fun h9 => by have h8 := hU1 h9; omega) (fun h9 => by have h8 := hU0 h9; omega) | exact oqB85_r hW4 hRT1 (fun h9 => by have h8 := hRT5 h9; omega) (by omega) | exact oqB85_o hW5 (fun h9 => by have h8 := pu76_4 h9; omega) pu76_5 pu76_6 (by omega) | exact oqB85_w hz3 hz4 (oqWi_w (i := 5) (by decide) (by omega)) (by omega) (by omega)) (by first | exact (fun h9 => by (have h7 := hU1 (by omega); have hb := oqBs_3 (g := g) (a := a) (b := b) (R := R) (M := M) (N := N) hW3; clear hU1 hU0; omega)) | exact (fun h9 => by (have h7 := hRTC (by omega); have h6 := hRTO (by omega); have hb := oqBs_4 (g := g) (a := a) (b := b) (R := R) (M := M) (N := N) hW4; clear hRTC hRTO hRT1 hRT5; omega)) | exact (fun h9 => by (have h7 := pu76_8 (by omega); have h6 := pu76_1 (by omega); have hb := oqBs_5 (g := g) (a := a) (b := b) (R := R) (M := M) (N := N) hW5; clear pu76_8 pu76_1 pu76_4 pu76_5; omega)) | exact (fun h9 => by exfalso; omega)) (by first | exact (fun h9 => by rw [(oqBs_3 (g := g) (a := a) (b := b) (R := R) (M := M) (N := N) hW3).2.2, (oqBs_3 (g := g) (a := a) (b := b) (R := R) (M := M) (N := N) hW3).2.1]; exact (by assumption)) | exact (fun h9 => by rw [(oqBs_4 (g := g) (a := a) (b := b) (R := R) (M := M) (N := N) hW4).2.2, (oqBs_4 (g := g) (a := a) (b := b) (R := R) (M := M) (N := N) hW4).2.1]; exact (by assumption)) | exact (fun h9 => by rw [(oqBs_5 (g := g) (a := a) (b := b) (R := R) (M := M) (N := N) hW5).2.2, (oqBs_5 (g := g) (a := a) (b := b) (R := R) (M := M) (N := N) hW5).2.1, oqBh_i (i := 5) hW5]; exact pu76_7 (by omega)) | exact (fun h9 => by exfalso; omega)) (by omega) (by omega) pu76_9 (oqZ_fr fu76 rfl (oqZ_fr fu57 rfl (oqZ_fr fu49 rfl (oqZ_fr fu45 rfl hp13)))) (by omega) (by first | exact fun h9 => ⟨by rw [(oqBs_3 (g := g) (a := a) (b := b) (R := R) (M := M) (N := N) hW3).1, owWk_n (by omega), (show owYl Z (u76) from (by assumption)) h9]; exact (by assumption), by rw [owMf_3 hW3, oqBh_i (i := 3) hW3]; have h8 := hU1 (by omega); omega⟩ | exact fun h9 => ⟨by rw [(oqBs_4 (g := g) (a := a) (b := b) (R := R) (M := M) (N := N) hW4).1, owWk_4 hW4, oqBh_i (i := 4) hW4]; exact hRTB (by omega), by rw [owMf_n (by omega)]; omega⟩ | exact fun h9 => ⟨by rw [(oqBs_5 (g := g) (a := a) (b := b) (R := R) (M := M) (N := N) hW5).1, owWk_n (by omega)]; exact pu76_12 (by omega), by rw [owMf_n (by omega)]; omega⟩ | exact (fun h9 => by exfalso; omega)) pu76_10 pu76_11 (by omega)
      · skip
        replace pu49_1 := pu49_1 (by omega)
        clear pu49_2
        have lc80 : ((u49).1 104 2).toInt = (s.1 104 2).toInt := congrArg Int32.toInt (((fu49 104 2 rfl).1).trans ((fu45 104 2 rfl).1))
        have lc81 : ((u49).1 104 3).toInt = (s.1 104 3).toInt := congrArg Int32.toInt (((fu49 104 3 rfl).1).trans ((fu45 104 3 rfl).1))
        have hW4 := oqWi_y (g := g) (A := a) (E := b) (i := 4) (by decide) (by omega)
        refine r_aload_n C (j := 0) (oDec_at oX12_bookTold 29 rfl) rfl rfl ?_
        refine r_iload_n C (j := 1) (oDec_at oX12_bookTold 30 rfl) rfl rfl ?_
        have lk82 : ((u49).1 71 5).toInt = (s.1 71 5).toInt := congrArg Int32.toInt (((fu49 71 5 rfl).1).trans ((fu45 71 5 rfl).1))
        have lk83 : ((u49).1 71 45).toInt = (s.1 71 45).toInt := congrArg Int32.toInt (((fu49 71 45 rfl).1).trans ((fu45 71 45 rfl).1))
        have lk84 : ((u49).1 71 5).toInt = (s.1 71 5).toInt := congrArg Int32.toInt (((fu49 71 5 rfl).1).trans ((fu45 71 5 rfl).1))
        have lk85 : ((u49).1 71 5).toInt = (s.1 71 5).toInt := congrArg Int32.toInt (((fu49 71 5 rfl).1).trans ((fu45 71 5 rfl).1))
        have lc86 : ((u49).1 104 3).toInt = (s.1 104 3).toInt := congrArg Int32.toInt (((fu49 104 3 rfl).1).trans ((fu45 104 3 rfl).1))
        have lc87 : ((u49).1 104 2).toInt = (s.1 104 2).toInt := congrArg Int32.toInt (((fu49 104 2 rfl).1).trans ((fu45 104 2 rfl).1))
        refine r_callVv C oCl12 rfl miX12_ruleTold mlX12_347 (ct9_X12_ruleTold l E (u49) v38 (g) (oqHa g a 4) (R) (Z) (W) (Cq) (Fq) (Tq) (nq) (oBB_fr fu49 rfl (oBB_fr fu45 rfl hp0)) (by omega) (by omega) (by omega) (by omega) (by omega) (by omega) (oqBP_fr fu49 rfl (oqBP_fr fu45 rfl hq37)) (oqZ_fr fu49 rfl (oqZ_fr fu45 rfl hp13)) (oqWd_fr fu49 rfl (oqWd_fr fu45 rfl hp14)) (owYl_fr fu49 rfl (owYl_fr fu45 rfl hp15)) (owRB_fr fu49 rfl (owRB_fr fu45 rfl hp16)) (owC0_fr fu49 rfl (owC0_fr fu45 rfl hp18)) (owLw_fr fu49 rfl (owLw_fr fu45 rfl hp19))) (by decide) rfl rfl rfl (Nat.le_of_ble_eq_true rfl) (oDec_at oX12_bookTold 31 rfl) (fun u88 pu88 fu88 => ?_)
        try dsimp only at pu88
        try simp only [lk82, lk83, lk84, lk85] at pu88
        obtain ⟨pu88_0, pu88_1, pu88_2, pu88_3, pu88_4, pu88_5, pu88_6, pu88_7, pu88_8, pu88_9, pu88_10⟩ := pu88
        have hRTO := pu88_1
        have hRT1 := pu88_4
        have hRT5 := pu88_5
        have hRTC := pu88_6
        clear pu88_1 pu88_4 pu88_5 pu88_6
        have hRTB := pu88_10
        refine r_goto C (tgt := 85) (oDec_at oX12_bookTold 32 rfl) (by decide) ?_
        have lk90 : ((u88).1 71 37).toInt = v40.toInt := congrArg Int32.toInt (((fu88 71 37 rfl).1).trans (((fu49 71 37 rfl).1).trans (((fu45 71 37 rfl).1).trans (ev40))))
        have lk91 : ((u88).1 71 54).toInt = (s.1 71 54).toInt := congrArg Int32.toInt (((fu88 71 54 rfl).1).trans (((fu49 71 54 rfl).1).trans ((fu45 71 54 rfl).1)))
        refine r_pick C [0] rfl ?_
        exact (key ((1 : Int)).toNat) (u88)   pu88_0 (by first | exact oqB85_m rfl hW3 (fun h9 => by have h8 := hU1 h9; omega) (fun h9 => by have h8 := hU0 h9; omega) | exact oqB85_r hW4 hRT1 (fun h9 => by have h8 := hRT5 h9; omega) (by omega) | exact oqB85_o hW5 (fun h9 => by have h8 := pu88_4 h9; omega) pu88_5 pu88_6 (by omega) | exact oqB85_w hz3 hz4 (oqWi_w (i := 5) (by decide) (by omega)) (by omega) (by omega)) (by first | exact (fun h9 => by (have h7 := hU1 (by omega); have hb := oqBs_3 (g := g) (a := a) (b := b) (R := R) (M := M) (N := N) hW3; clear hU1 hU0; omega)) | exact (fun h9 => by (have h7 := hRTC (by omega); have h6 := hRTO (by omega); have hb := oqBs_4 (g := g) (a := a) (b := b) (R := R) (M := M) (N := N) hW4; clear hRTC hRTO hRT1 hRT5; omega)) | exact (fun h9 => by (have h7 := pu88_8 (by omega); have h6 := pu88_1 (by omega); have hb := oqBs_5 (g := g) (a := a) (b := b) (R := R) (M := M) (N := N) hW5; clear pu88_8 pu88_1 pu88_4 pu88_5; omega)) | exact (fun h9 => by exfalso; omega)) (by first | exact (fun h9 => by rw [(oqBs_3 (g := g) (a := a) (b := b) (R := R) (M := M) (N := N) hW3).2.2, (oqBs_3 (g := g) (a := a) (b := b) (R := R) (M := M) (N := N) hW3).2.1]; exact (oqNR_fr fu88 rfl (oqNR_fr fu49 rfl (oqNR_fr fu45 rfl hp10)))) | exact (fun h9 => by rw [(oqBs_4 (g := g) (a := a) (b := b) (R := R) (M := M) (N := N) hW4).2.2, (oqBs_4 (g := g) (a := a) (b := b) (R := R) (M := M) (N := N) hW4).2.1]; exact (oqNR_fr fu88 rfl (oqNR_fr fu49 rfl (oqNR_fr fu45 rfl hp10)))) | exact (fun h9 => by rw [(oqBs_5 (g := g) (a := a) (b := b) (R := R) (M := M) (N := N) hW5).2.2, (oqBs_5 (g := g) (a := a) (b := b) (R := R) (M := M) (N := N) hW5).2.1, oqBh_i (i := 5) hW5]; exact pu88_7 (by omega)) | exact (fun h9 => by exfalso; omega)) (by omega) (by omega) pu88_7 (oqZ_fr fu88 rfl (oqZ_fr fu49 rfl (oqZ_fr fu45 rfl hp13))) (by omega) (by first | exact fun h9 => ⟨by rw [(oqBs_3 (g := g) (a := a) (b := b) (R := R) (M := M) (N := N) hW3).1, owWk_n (by omega), (show owYl Z (u88) from (by assumption)) h9]; exact (by assumption), by rw [owMf_3 hW3, oqBh_i (i := 3) hW3]; have h8 := hU1 (by omega); omega⟩ | exact fun h9 => ⟨by rw [(oqBs_4 (g := g) (a := a) (b := b) (R := R) (M := M) (N := N) hW4).1, owWk_4 hW4, oqBh_i (i := 4) hW4]; exact hRTB (by omega), by rw [owMf_n (by omega)]; omega⟩ | exact fun h9 => ⟨by rw [(oqBs_5 (g := g) (a := a) (b := b) (R := R) (M := M) (N := N) hW5).1, owWk_n (by omega)]; exact pu88_12 (by omega), by rw [owMf_n (by omega)]; omega⟩ | exact (fun h9 => by exfalso; omega)) pu88_8 pu88_9 (by omega)
    · skip
      replace pu45_1 := pu45_1 (by omega)
      clear pu45_2
      have hW3 := oqWi_y (g := g) (A := a) (E := b) (i := 3) (by decide) (by omega)
      refine r_aload_n C (j := 0) (oDec_at oX12_bookTold 17 rfl) rfl rfl ?_
      refine r_aload_n C (j := 0) (oDec_at oX12_bookTold 18 rfl) rfl rfl ?_
      refine r_iconst C (oDec_at oX12_bookTold 19 rfl) (v := k2) (by rw [qk2]; rfl) ?_
      refine r_bipush C (oDec_at oX12_bookTold 20 rfl) (v := k12) (by rw [qk12]; rfl) ?_
      have lk92 : ((u45).1 71 5).toInt = (s.1 71 5).toInt := congrArg Int32.toInt ((fu45 71 5 rfl).1)
      have lk93 : ((u45).1 71 5).toInt = (s.1 71 5).toInt := congrArg Int32.toInt ((fu45 71 5 rfl).1)
      have lk94 : ((u45).1 71 6).toInt = (s.1 71 6).toInt := congrArg Int32.toInt ((fu45 71 6 rfl).1)
      have lk95 : ((u45).1 71 5).toInt = (s.1 71 5).toInt := congrArg Int32.toInt ((fu45 71 5 rfl).1)
      have lk96 : ((u45).1 71 6).toInt = (s.1 71 6).toInt := congrArg Int32.toInt ((fu45 71 6 rfl).1)
      refine r_callVi C oCl12 rfl miX12_number mlX12_244 (ct7_X12_number l E (u45) k2 k12 (g) (oqHa g a 3) (oqHa g a 3) (2) (12) (by omega) (oqZ_fr fu45 rfl hp13) (by omega) (by omega) (oqBP_fr fu45 rfl hq37)) (by decide) rfl rfl rfl (Nat.le_of_ble_eq_true rfl) (oDec_at oX12_bookTold 21 rfl) (fun r98 u97 pu97 fu97 => ?_)
      try dsimp only at pu97
      try simp only [lk92, lk93, lk94, lk95, lk96] at pu97
      obtain ⟨pu97_0, pu97_1, pu97_2, pu97_3, pu97_4⟩ := pu97
      have rr98 := n_rng r98
      have hU1 := pu97_1
      have hU0 := pu97_2
      clear pu97_1 pu97_2
      refine r_puti (k := 54) (lo := (-2147483648)) (hi := 2147483647) C oCl12 rfl (by decide) flX12_344 rfl rfl rfl rfl rfl rfl rfl rfl (n_rng _) (oDec_at oX12_bookTold 22 rfl) ?_
      refine r_pc C 43 rfl ?_
      refine r_goto C (tgt := 85) (oDec_at oX12_bookTold 23 rfl) (by decide) ?_
      have lk99 : (((pI u97 71 54 r98)).1 71 37).toInt = v40.toInt := congrArg Int32.toInt (((pI_ne (a := 71) (b := 37) (c := 71) (k := 54) _ _ (Or.inr (by decide)))).trans (((fu97 71 37 rfl).1).trans (((fu45 71 37 rfl).1).trans (ev40))))
      have lc100 : (((pI u97 71 54 r98)).1 104 3).toInt = (s.1 104 3).toInt := congrArg Int32.toInt (((pI_ne (a := 104) (b := 3) (c := 71) _ _ (Or.inl (by decide)))).trans (((fu97 104 3 rfl).1).trans ((fu45 104 3 rfl).1)))
      have lc101 : (((pI u97 71 54 r98)).1 104 2).toInt = (s.1 104 2).toInt := congrArg Int32.toInt (((pI_ne (a := 104) (b := 2) (c := 71) _ _ (Or.inl (by decide)))).trans (((fu97 104 2 rfl).1).trans ((fu45 104 2 rfl).1)))
      have lc102 : (((pI u97 71 54 r98)).1 104 3).toInt = (s.1 104 3).toInt := congrArg Int32.toInt (((pI_ne (a := 104) (b := 3) (c := 71) _ _ (Or.inl (by decide)))).trans (((fu97 104 3 rfl).1).trans ((fu45 104 3 rfl).1)))
      have lk103 : (((pI u97 71 54 r98)).1 71 2).toInt = (u97.1 71 2).toInt := congrArg Int32.toInt ((pI_ne (a := 71) (b := 2) (c := 71) (k := 54) _ _ (Or.inr (by decide))))
      have lk104 : (((pI u97 71 54 r98)).1 71 5).toInt = (u97.1 71 5).toInt := congrArg Int32.toInt ((pI_ne (a := 71) (b := 5) (c := 71) (k := 54) _ _ (Or.inr (by decide))))
      have lk105 : (((pI u97 71 54 r98)).1 71 4).toInt = (u97.1 71 4).toInt := congrArg Int32.toInt ((pI_ne (a := 71) (b := 4) (c := 71) (k := 54) _ _ (Or.inr (by decide))))
      have lk106 : (((pI u97 71 54 r98)).1 71 6).toInt = (u97.1 71 6).toInt := congrArg Int32.toInt ((pI_ne (a := 71) (b := 6) (c := 71) (k := 54) _ _ (Or.inr (by decide))))
      have lk107 : (((pI u97 71 54 r98)).1 71 45).toInt = (s.1 71 45).toInt := congrArg Int32.toInt (((pI_ne (a := 71) (b := 45) (c := 71) (k := 54) _ _ (Or.inr (by decide)))).trans (((fu97 71 45 rfl).1).trans ((fu45 71 45 rfl).1)))
      have lk108 : (((pI u97 71 54 r98)).1 71 54).toInt = r98.toInt := congrArg Int32.toInt ((pI_self _ _ _ _))
      refine r_pick C [0] rfl ?_
      exact (key ((1 : Int)).toNat) ((pI u97 71 54 r98))   (oBB_fr (oFr_oneI (q := 12) (m := 54) rfl (by rfl)) rfl (oBB_frb fu97 rfl (by omega) (oBB_fr fu45 rfl hp0))) (by first | exact oqB85_m rfl hW3 (fun h9 => by have h8 := hU1 h9; omega) (fun h9 => by have h8 := hU0 h9; omega) | exact oqB85_r hW4 hRT1 (fun h9 => by have h8 := hRT5 h9; omega) (by omega) | exact oqB85_o hW5 (fun h9 => by have h8 := pu97_4 h9; omega) pu97_5 pu97_6 (by omega) | exact oqB85_w hz3 hz4 (oqWi_w (i := 5) (by decide) (by omega)) (by omega) (by omega)) (by first | exact (fun h9 => by (have h7 := hU1 (by omega); have hb := oqBs_3 (g := g) (a := a) (b := b) (R := R) (M := M) (N := N) hW3; clear hU1 hU0; omega)) | exact (fun h9 => by (have h7 := hRTC (by omega); have h6 := hRTO (by omega); have hb := oqBs_4 (g := g) (a := a) (b := b) (R := R) (M := M) (N := N) hW4; clear hRTC hRTO hRT1 hRT5; omega)) | exact (fun h9 => by (have h7 := pu97_8 (by omega); have h6 := pu97_1 (by omega); have hb := oqBs_5 (g := g) (a := a) (b := b) (R := R) (M := M) (N := N) hW5; clear pu97_8 pu97_1 pu97_4 pu97_5; omega)) | exact (fun h9 => by exfalso; omega)) (by first | exact (fun h9 => by rw [(oqBs_3 (g := g) (a := a) (b := b) (R := R) (M := M) (N := N) hW3).2.2, (oqBs_3 (g := g) (a := a) (b := b) (R := R) (M := M) (N := N) hW3).2.1]; exact (oqNR_fr (oFr_oneI (q := 12) (m := 54) rfl (by rfl)) rfl (oqNR_fr fu97 rfl (oqNR_fr fu45 rfl hp10)))) | exact (fun h9 => by rw [(oqBs_4 (g := g) (a := a) (b := b) (R := R) (M := M) (N := N) hW4).2.2, (oqBs_4 (g := g) (a := a) (b := b) (R := R) (M := M) (N := N) hW4).2.1]; exact (oqNR_fr (oFr_oneI (q := 12) (m := 54) rfl (by rfl)) rfl (oqNR_fr fu97 rfl (oqNR_fr fu45 rfl hp10)))) | exact (fun h9 => by rw [(oqBs_5 (g := g) (a := a) (b := b) (R := R) (M := M) (N := N) hW5).2.2, (oqBs_5 (g := g) (a := a) (b := b) (R := R) (M := M) (N := N) hW5).2.1, oqBh_i (i := 5) hW5]; exact pu97_7 (by omega)) | exact (fun h9 => by exfalso; omega)) (by omega) (by omega) (oqBP_fr (oFr_oneI (q := 12) (m := 54) rfl (by rfl)) rfl pu97_4) (oqZ_fr (oFr_oneI (q := 12) (m := 54) rfl (by rfl)) rfl (oqZ_fr fu97 rfl (oqZ_fr fu45 rfl hp13))) (by omega) (by first | exact fun h9 => ⟨by rw [(oqBs_3 (g := g) (a := a) (b := b) (R := R) (M := M) (N := N) hW3).1, owWk_n (by omega), (show owYl Z ((pI u97 71 54 r98)) from (owYl_fr (oFr_oneI (q := 12) (m := 54) rfl (by rfl)) rfl (owYl_frb fu97 rfl (by omega) (owYl_fr fu45 rfl hp15)))) h9]; exact (owRB_fr (oFr_oneI (q := 12) (m := 54) rfl (by rfl)) rfl (owRB_fr fu97 rfl (owRB_fr fu45 rfl hp16))), by rw [owMf_3 hW3, oqBh_i (i := 3) hW3]; have h8 := hU1 (by omega); omega⟩ | exact fun h9 => ⟨by rw [(oqBs_4 (g := g) (a := a) (b := b) (R := R) (M := M) (N := N) hW4).1, owWk_4 hW4, oqBh_i (i := 4) hW4]; exact hRTB (by omega), by rw [owMf_n (by omega)]; omega⟩ | exact fun h9 => ⟨by rw [(oqBs_5 (g := g) (a := a) (b := b) (R := R) (M := M) (N := N) hW5).1, owWk_n (by omega)]; exact pu97_12 (by omega), by rw [owMf_n (by omega)]; omega⟩ | exact (fun h9 => by exfalso; omega)) (owC0_fr (oFr_oneI (q := 12) (m := 54) rfl (by rfl)) rfl (owC0_fr fu97 rfl (owC0_fr fu45 rfl hp18))) (owLw_fr (oFr_oneI (q := 12) (m := 54) rfl (by rfl)) rfl (owLw_fr fu97 rfl (owLw_fr fu45 rfl hp19))) (by omega)
  · skip
    refine r_aload_n C (j := 0) (oDec_at oX12_bookTold 7 rfl) rfl rfl ?_
    refine r_iconst C (oDec_at oX12_bookTold 8 rfl) (v := k5) (by rw [qk5]; rfl) ?_
    refine r_iload_n C (j := 1) (oDec_at oX12_bookTold 9 rfl) rfl rfl ?_
    refine r_callVv C oCl12 rfl miX12_fail mlX12_203 (ct7_X12_fail l E (s) k5 v38 (by omega) hq37) (by decide) rfl rfl rfl (Nat.le_of_ble_eq_true rfl) (oDec_at oX12_bookTold 10 rfl) (fun u109 pu109 fu109 => ?_)
    try dsimp only at pu109
    obtain ⟨pu109_0, pu109_1, pu109_2⟩ := pu109
    have lk111 : ((u109).1 71 45).toInt = (s.1 71 45).toInt := congrArg Int32.toInt ((fu109 71 45 rfl).1)
    have lk112 : ((u109).1 71 2).toInt = v38.toInt := congrArg Int32.toInt (((fu109 71 2 rfl).1).trans (ev38))
    have lk113 : ((u109).1 71 54).toInt = (s.1 71 54).toInt := congrArg Int32.toInt ((fu109 71 54 rfl).1)
    have lk114 : ((u109).1 71 37).toInt = v40.toInt := congrArg Int32.toInt (((fu109 71 37 rfl).1).trans (ev40))
    have lk115 : ((u109).1 71 37).toInt = v40.toInt := congrArg Int32.toInt (((fu109 71 37 rfl).1).trans (ev40))
    have lc116 : ((u109).1 104 3).toInt = (s.1 104 3).toInt := congrArg Int32.toInt ((fu109 104 3 rfl).1)
    have lc117 : ((u109).1 104 2).toInt = (s.1 104 2).toInt := congrArg Int32.toInt ((fu109 104 2 rfl).1)
    have lc118 : ((u109).1 104 3).toInt = (s.1 104 3).toInt := congrArg Int32.toInt ((fu109 104 3 rfl).1)
    have lk119 : ((u109).1 71 2).toInt = v38.toInt := congrArg Int32.toInt (((fu109 71 2 rfl).1).trans (ev38))
    have lk120 : ((u109).1 71 4).toInt = (s.1 71 4).toInt := congrArg Int32.toInt ((fu109 71 4 rfl).1)
    have lk121 : ((u109).1 71 54).toInt = (s.1 71 54).toInt := congrArg Int32.toInt ((fu109 71 54 rfl).1)
    exact r_vret C (oDec_at oX12_bookTold 11 rfl) ⟨rfl, ⟨(oBB_frb fu109 rfl (by omega) hp0), by omega, by omega, by omega, by omega, by omega, by omega, fun h9 => by exfalso; omega, (owC0_fr fu109 rfl hp18), (owLw_fr fu109 rfl hp19), fun h9 => by exfalso; omega⟩⟩
