set_option maxHeartbeats 4000000 in
set_option maxRecDepth 100000 in
theorem ct7_X12_bookTold (l : Launch) (E : oE) (s : oS)  (g : Int → Int) (a : Int) (b : Int) (R : Int) (M : Int) (N : Nat → Nat → Int) (hp0 : oBB s) (hp1 : (s.1 71 5).toInt = 0) (hp2 : (s.1 71 45).toInt ≤ (s.1 71 2).toInt) (hp3 : (s.1 104 3).toInt ≤ 6) (hp4 : (s.1 71 5).toInt = 0 → (2 ≤ (s.1 71 54).toInt ∧ (s.1 71 54).toInt ≤ 12)) (hp5 : (s.1 71 2).toInt = a) (hp6 : (s.1 71 4).toInt = b) (hp7 : oqSk g a = a) (hp8 : (s.1 104 2).toInt = R) (hp9 : (s.1 104 3).toInt = M) (hp10 : oqNR N M s) (hp11 : (s.1 71 6).toInt = -1) (hp12 : 0 ≤ R ∧ R ≤ 12 ∧ 0 ≤ M ∧ M ≤ 6) (hp13 : oqZ g s) (hp14 : oqWd s) : oMet l 11 yX12_bookTold cX12_bookTold 2 none [(12, 2), (12, 4), (12, 5), (12, 6), (12, 9), (12, 36), (12, 37), (12, 45), (12, 47), (12, 48), (12, 54), (12, 55), (12, 56), (78, 9999), (79, 9999), (80, 9999), (81, 9999), (82, 9999), (83, 9999)] E s [.ref (oad E 71)] (oPv (fun u => (oBB u) ∧ ((u.1 71 5).toInt = 0 → ((u.1 71 45).toInt ≤ (u.1 71 2).toInt ∧ 2 ≤ (u.1 71 54).toInt ∧ (u.1 71 54).toInt ≤ 12 ∧ (u.1 71 37).toInt = (s.1 71 37).toInt + 1)) ∧ ((s.1 71 37).toInt ≤ (u.1 71 37).toInt) ∧ ((u.1 104 3).toInt ≤ 6) ∧ ((s.1 71 37).toInt = 60 → ((u.1 71 5).toInt = 5 ∧ (u.1 71 6).toInt = a)) ∧ ((s.1 71 37).toInt < 60 → (u.1 71 5).toInt = 0 → (oqBk g a b R M N = 0 ∧ (u.1 71 2).toInt = oqBa g a b ∧ (u.1 71 4).toInt = oqBb g a b ∧ (u.1 71 6).toInt = -1 ∧ (u.1 104 2).toInt = oqBR g a b R ∧ (u.1 104 3).toInt = oqBM g a b M)) ∧ ((s.1 71 37).toInt < 60 → (u.1 71 5).toInt ≠ 0 → (oqBk g a b R M N ≠ 0 ∧ (u.1 71 5).toInt = oqBk g a b R M N ∧ (u.1 71 6).toInt = oqBp g a b R M N)) ∧ ((s.1 71 37).toInt < 60 → (u.1 71 5).toInt = 0 → oqNR (oqBN g a b N M) (oqBM g a b M) u))) := by
  refine oMet.of (lv := [(0, .ref (oad E 71))]) (by decide +kernel) (Nat.le_of_ble_eq_true rfl) rfl (fun J C hT => ?_)
  have C : oC l 11 cX12_bookTold RX12 2 none [(12, 2), (12, 4), (12, 5), (12, 6), (12, 9), (12, 36), (12, 37), (12, 45), (12, 47), (12, 48), (12, 54), (12, 55), (12, 56), (78, 9999), (79, 9999), (80, 9999), (81, 9999), (82, 9999), (83, 9999)] E s (oPv (fun u => (oBB u) ∧ ((u.1 71 5).toInt = 0 → ((u.1 71 45).toInt ≤ (u.1 71 2).toInt ∧ 2 ≤ (u.1 71 54).toInt ∧ (u.1 71 54).toInt ≤ 12 ∧ (u.1 71 37).toInt = (s.1 71 37).toInt + 1)) ∧ ((s.1 71 37).toInt ≤ (u.1 71 37).toInt) ∧ ((u.1 104 3).toInt ≤ 6) ∧ ((s.1 71 37).toInt = 60 → ((u.1 71 5).toInt = 5 ∧ (u.1 71 6).toInt = a)) ∧ ((s.1 71 37).toInt < 60 → (u.1 71 5).toInt = 0 → (oqBk g a b R M N = 0 ∧ (u.1 71 2).toInt = oqBa g a b ∧ (u.1 71 4).toInt = oqBb g a b ∧ (u.1 71 6).toInt = -1 ∧ (u.1 104 2).toInt = oqBR g a b R ∧ (u.1 104 3).toInt = oqBM g a b M)) ∧ ((s.1 71 37).toInt < 60 → (u.1 71 5).toInt ≠ 0 → (oqBk g a b R M N ≠ 0 ∧ (u.1 71 5).toInt = oqBk g a b R M N ∧ (u.1 71 6).toInt = oqBp g a b R M N)) ∧ ((s.1 71 37).toInt < 60 → (u.1 71 5).toInt = 0 → oqNR (oqBN g a b N M) (oqBM g a b M) u))) J := C
  obtain ⟨k1, qk1⟩ : ∃ z : Int32, z = 1 := ⟨_, rfl⟩
  have ek1 : k1.toInt = 1 := by rw [qk1]; rfl
  obtain ⟨k2, qk2⟩ : ∃ z : Int32, z = 2 := ⟨_, rfl⟩
  have ek2 : k2.toInt = 2 := by rw [qk2]; rfl
  obtain ⟨k5, qk5⟩ : ∃ z : Int32, z = 5 := ⟨_, rfl⟩
  have ek5 : k5.toInt = 5 := by rw [qk5]; rfl
  obtain ⟨k12, qk12⟩ : ∃ z : Int32, z = 12 := ⟨_, rfl⟩
  have ek12 : k12.toInt = 12 := by rw [qk12]; rfl
  obtain ⟨k59, qk59⟩ : ∃ z : Int32, z = 59 := ⟨_, rfl⟩
  have ek59 : k59.toInt = 59 := by rw [qk59]; rfl
  obtain ⟨k60, qk60⟩ : ∃ z : Int32, z = 60 := ⟨_, rfl⟩
  have ek60 : k60.toInt = 60 := by rw [qk60]; rfl
  have htz_coded : (0 : Int) ≤ (s.1 71 45).toInt ∧ (s.1 71 45).toInt ≤ 1600 := hT.1 71 45
  have htz_at : (0 : Int) ≤ (s.1 71 2).toInt ∧ (s.1 71 2).toInt ≤ 1600 := hT.1 71 2
  have htz_statements : (0 : Int) ≤ (s.1 71 37).toInt ∧ (s.1 71 37).toInt ≤ 60 := hT.1 71 37
  have hrw := oqWi_rg g a b
  have hHa3 : oqHa g a 3 = oqSk g a + (oqWl 3 : Int) := rfl
  have hHa4 : oqHa g a 4 = oqSk g a + (oqWl 4 : Int) := rfl
  have hHa5 : oqHa g a 5 = oqSk g a + (oqWl 5 : Int) := rfl
  have hl3 : oqWl 3 = 7 := rfl
  have hl4 : oqWl 4 = 3 := rfl
  have hl5 : oqWl 5 = 5 := rfl
  have hq1 : oqBP (s) := fun _ => by omega
  refine r_aload_n C (j := 0) (oDec_at oX12_bookTold 0 rfl) rfl rfl ?_
  obtain ⟨v2, ev2⟩ : ∃ z : Int32, (s).1 71 2 = z := ⟨_, rfl⟩
  have gv2 : (s.1 71 2).toInt = v2.toInt := congrArg Int32.toInt (ev2)
  refine r_geti (k := 2) (lo := 0) (hi := 1600) C v2 oCl12 rfl (by decide) flX12_179 rfl rfl (ev2) rfl rfl (oDec_at oX12_bookTold 1 rfl) (fun b3 b3h => ?_)
  refine r_istore_n C (lv' := [(0, .ref (oad E 71)), (1, .int v2)]) [1, 0] (oDec_at oX12_bookTold 2 rfl) rfl (by decide) rfl ?_
  refine r_aload_n C (j := 0) (oDec_at oX12_bookTold 3 rfl) rfl rfl ?_
  obtain ⟨v4, ev4⟩ : ∃ z : Int32, (s).1 71 37 = z := ⟨_, rfl⟩
  have gv4 : (s.1 71 37).toInt = v4.toInt := congrArg Int32.toInt (ev4)
  refine r_geti (k := 37) (lo := 0) (hi := 60) C v4 oCl12 rfl (by decide) flX12_231 rfl rfl (ev4) rfl rfl (oDec_at oX12_bookTold 4 rfl) (fun b5 b5h => ?_)
  refine r_bipush C (oDec_at oX12_bookTold 5 rfl) (v := k60) (by rw [qk60]; rfl) ?_
  refine r_pc C 11 rfl ?_
  refine r_icmp_ne C 21 (oDec_at oX12_bookTold 6 rfl) (by decide) (fun cd6 => ?_) (fun cd6 => ?_)
  · skip
    refine r_aload_n C (j := 0) (oDec_at oX12_bookTold 12 rfl) rfl rfl ?_
    refine r_aload_n C (j := 0) (oDec_at oX12_bookTold 13 rfl) rfl rfl ?_
    refine r_getF (k := 13) (b := 76) C oCl12 rfl (by decide) flX12_27 rfl rfl rfl (oDec_at oX12_bookTold 14 rfl) ?_
    have lk7 : ((s).1 71 2).toInt = v2.toInt := congrArg Int32.toInt (ev2)
    have lk8 : ((s).1 71 2).toInt = v2.toInt := congrArg Int32.toInt (ev2)
    refine r_callVi C oCl12 rfl miX12_takes mlX12_200 (ct6_X12_takes l E (s) 76 52 7 rfl (by decide) (by decide) rfl rfl (g) (a) (b) (3) (by omega) (by omega) hp13 (by omega) (by omega) rfl (oqWd_at hp14 3 (by decide)) (by omega)) (by decide) rfl rfl rfl (Nat.le_of_ble_eq_true rfl) (oDec_at oX12_bookTold 15 rfl) (fun r10 u9 pu9 fu9 => ?_)
    try dsimp only at pu9
    try simp only [lk7, lk8] at pu9
    obtain ⟨pu9_0, pu9_1, pu9_2, pu9_3, pu9_4⟩ := pu9
    have rr10 := n_rng r10
    refine r_if_eq C 46 (oDec_at oX12_bookTold 16 rfl) (by decide) (fun cd11 => ?_) (fun cd11 => ?_)
    · skip
      clear pu9_1
      replace pu9_2 := pu9_2 (by omega)
      have hz3 := oqWi_w (g := g) (A := a) (E := b) (i := 3) (by decide) (by omega)
      refine r_aload_n C (j := 0) (oDec_at oX12_bookTold 24 rfl) rfl rfl ?_
      refine r_aload_n C (j := 0) (oDec_at oX12_bookTold 25 rfl) rfl rfl ?_
      refine r_getF (k := 14) (b := 77) C oCl12 rfl (by decide) flX12_30 rfl rfl rfl (oDec_at oX12_bookTold 26 rfl) ?_
      have lk12 : ((u9).1 71 5).toInt = (s.1 71 5).toInt := congrArg Int32.toInt ((fu9 71 5 rfl).1)
      refine r_callVi C oCl12 rfl miX12_takes mlX12_200 (ct6_X12_takes l E (u9) 77 53 3 rfl (by decide) (by decide) rfl rfl (g) (a) (b) (4) (by omega) (by omega) (oqZ_fr fu9 rfl hp13) (by omega) (by omega) rfl (oqWd_at (oqWd_fr fu9 rfl hp14) 4 (by decide)) (by omega)) (by decide) rfl rfl rfl (Nat.le_of_ble_eq_true rfl) (oDec_at oX12_bookTold 27 rfl) (fun r14 u13 pu13 fu13 => ?_)
      try dsimp only at pu13
      try simp only [lk12] at pu13
      obtain ⟨pu13_0, pu13_1, pu13_2, pu13_3, pu13_4⟩ := pu13
      have rr14 := n_rng r14
      refine r_if_eq C 65 (oDec_at oX12_bookTold 28 rfl) (by decide) (fun cd15 => ?_) (fun cd15 => ?_)
      · skip
        clear pu13_1
        replace pu13_2 := pu13_2 (by omega)
        have hz4 := oqWi_w (g := g) (A := a) (E := b) (i := 4) (by decide) (by omega)
        refine r_aload_n C (j := 0) (oDec_at oX12_bookTold 33 rfl) rfl rfl ?_
        refine r_aload_n C (j := 0) (oDec_at oX12_bookTold 34 rfl) rfl rfl ?_
        refine r_getF (k := 15) (b := 78) C oCl12 rfl (by decide) flX12_33 rfl rfl rfl (oDec_at oX12_bookTold 35 rfl) ?_
        have lk16 : ((u13).1 71 5).toInt = (s.1 71 5).toInt := congrArg Int32.toInt (((fu13 71 5 rfl).1).trans ((fu9 71 5 rfl).1))
        have lk17 : ((u13).1 71 5).toInt = (s.1 71 5).toInt := congrArg Int32.toInt (((fu13 71 5 rfl).1).trans ((fu9 71 5 rfl).1))
        have lk18 : ((u13).1 71 6).toInt = (s.1 71 6).toInt := congrArg Int32.toInt (((fu13 71 6 rfl).1).trans ((fu9 71 6 rfl).1))
        have lk19 : ((u13).1 71 5).toInt = (s.1 71 5).toInt := congrArg Int32.toInt (((fu13 71 5 rfl).1).trans ((fu9 71 5 rfl).1))
        have lk20 : ((u13).1 71 6).toInt = (s.1 71 6).toInt := congrArg Int32.toInt (((fu13 71 6 rfl).1).trans ((fu9 71 6 rfl).1))
        refine r_callVv C oCl12 rfl miX12_asks mlX12_240 (ct7_X12_asks l E (u13) 78 54 5 rfl (by decide) (by decide) rfl rfl (g) (a) (b) (5) (by omega) (oqZ_fr fu13 rfl (oqZ_fr fu9 rfl hp13)) (by omega) rfl (oqWd_at (oqWd_fr fu13 rfl (oqWd_fr fu9 rfl hp14)) 5 (by decide)) (by omega) (oqBP_fr fu13 rfl (oqBP_fr fu9 rfl hq1))) (by decide) rfl rfl rfl (Nat.le_of_ble_eq_true rfl) (oDec_at oX12_bookTold 36 rfl) (fun u21 pu21 fu21 => ?_)
        try dsimp only at pu21
        try simp only [lk16, lk17, lk18, lk19, lk20] at pu21
        obtain ⟨pu21_0, pu21_1, pu21_2, pu21_3⟩ := pu21
        refine r_aload_n C (j := 0) (oDec_at oX12_bookTold 37 rfl) rfl rfl ?_
        obtain ⟨v23, ev23⟩ : ∃ z : Int32, (u21).1 71 5 = z := ⟨_, rfl⟩
        have gv23 : (u21.1 71 5).toInt = v23.toInt := congrArg Int32.toInt (ev23)
        have rv23 := n_rng v23
        refine r_geti (k := 5) (lo := (-2147483648)) (hi := 2147483647) C v23 oCl12 rfl (by decide) flX12_173 rfl rfl (ev23) rfl rfl (oDec_at oX12_bookTold 38 rfl) (fun _ _ => ?_)
        refine r_pc C 77 rfl ?_
        refine r_if_ne C 85 (oDec_at oX12_bookTold 39 rfl) (by decide) (fun cd24 => ?_) (fun cd24 => ?_)
        · skip
          have lc25 : ((u21).1 104 2).toInt = (s.1 104 2).toInt := congrArg Int32.toInt (((fu21 104 2 rfl).1).trans (((fu13 104 2 rfl).1).trans ((fu9 104 2 rfl).1)))
          have lc26 : ((u21).1 104 3).toInt = (s.1 104 3).toInt := congrArg Int32.toInt (((fu21 104 3 rfl).1).trans (((fu13 104 3 rfl).1).trans ((fu9 104 3 rfl).1)))
          have lk27 : ((u21).1 71 5).toInt = v23.toInt := congrArg Int32.toInt (ev23)
          have lk28 : ((u21).1 71 48).toInt = (s.1 71 48).toInt := congrArg Int32.toInt (((fu21 71 48 rfl).1).trans (((fu13 71 48 rfl).1).trans ((fu9 71 48 rfl).1)))
          have lk29 : ((u21).1 71 47).toInt = (s.1 71 47).toInt := congrArg Int32.toInt (((fu21 71 47 rfl).1).trans (((fu13 71 47 rfl).1).trans ((fu9 71 47 rfl).1)))
          have lk30 : ((u21).1 71 37).toInt = v4.toInt := congrArg Int32.toInt (((fu21 71 37 rfl).1).trans (((fu13 71 37 rfl).1).trans (((fu9 71 37 rfl).1).trans (ev4))))
          obtain ⟨A, hA⟩ : ∃ z : Int, z = ((u21).1 71 2).toInt := ⟨_, rfl⟩
          try (have hMT5 := pu21_4)
          try (have hMTK := pu21_5)
          try (have hMTV := pu21_6)
          try (have hMTN := pu21_7)
          try (have hMTC := pu21_8)
          refine r_aload_n C (j := 0) (oDec_at oX12_bookTold 43 rfl) rfl rfl ?_
          refine r_bipush C (oDec_at oX12_bookTold 44 rfl) (v := k59) (by rw [qk59]; rfl) ?_
          have lk31 : ((u21).1 71 5).toInt = v23.toInt := congrArg Int32.toInt (ev23)
          have lk32 : ((u21).1 71 5).toInt = v23.toInt := congrArg Int32.toInt (ev23)
          have lk33 : ((u21).1 71 5).toInt = v23.toInt := congrArg Int32.toInt (ev23)
          have lk34 : ((u21).1 71 5).toInt = v23.toInt := congrArg Int32.toInt (ev23)
          refine r_callVv C oCl12 rfl miX12_asksSign mlX12_248 (ct7_X12_asksSign l E (u21) k59 (g) (A) (59) (by omega) (oqZ_fr fu21 rfl (oqZ_fr fu13 rfl (oqZ_fr fu9 rfl hp13))) (by omega) (by omega) pu21_3) (by decide) rfl rfl rfl (Nat.le_of_ble_eq_true rfl) (oDec_at oX12_bookTold 45 rfl) (fun u35 pu35 fu35 => ?_)
          try dsimp only at pu35
          try simp only [lk31, lk32, lk33, lk34] at pu35
          obtain ⟨pu35_0, pu35_1, pu35_2, pu35_3, pu35_4⟩ := pu35
          have lc37 : ((u35).1 104 2).toInt = (s.1 104 2).toInt := congrArg Int32.toInt (((fu35 104 2 rfl).1).trans (((fu21 104 2 rfl).1).trans (((fu13 104 2 rfl).1).trans ((fu9 104 2 rfl).1))))
          have lc38 : ((u35).1 104 3).toInt = (s.1 104 3).toInt := congrArg Int32.toInt (((fu35 104 3 rfl).1).trans (((fu21 104 3 rfl).1).trans (((fu13 104 3 rfl).1).trans ((fu9 104 3 rfl).1))))
          have lk39 : ((u35).1 71 4).toInt = (u21.1 71 4).toInt := congrArg Int32.toInt ((fu35 71 4 rfl).1)
          have lk40 : ((u35).1 71 48).toInt = (s.1 71 48).toInt := congrArg Int32.toInt (((fu35 71 48 rfl).1).trans (((fu21 71 48 rfl).1).trans (((fu13 71 48 rfl).1).trans ((fu9 71 48 rfl).1))))
          have lk41 : ((u35).1 71 47).toInt = (s.1 71 47).toInt := congrArg Int32.toInt (((fu35 71 47 rfl).1).trans (((fu21 71 47 rfl).1).trans (((fu13 71 47 rfl).1).trans ((fu9 71 47 rfl).1))))
          have lk42 : ((u35).1 71 37).toInt = v4.toInt := congrArg Int32.toInt (((fu35 71 37 rfl).1).trans (((fu21 71 37 rfl).1).trans (((fu13 71 37 rfl).1).trans (((fu9 71 37 rfl).1).trans (ev4)))))
          try (have hbs := oqBs_3 (g := g) (a := a) (b := b) (R := R) (M := M) (N := N) hW3)
          try (have hbs := oqBs_4 (g := g) (a := a) (b := b) (R := R) (M := M) (N := N) hW4)
          try (have hbs := oqBs_5 (g := g) (a := a) (b := b) (R := R) (M := M) (N := N) hW5)
          have hF : ((((u35).1 71 5).toInt = 0 → oqBk g a b R M N = 0 ∧ ((u35).1 71 2).toInt = oqBa g a b ∧ ((u35).1 71 4).toInt = oqBb g a b) ∧ (((u35).1 71 5).toInt ≠ 0 → oqBk g a b R M N ≠ 0 ∧ ((u35).1 71 5).toInt = oqBk g a b R M N ∧ ((u35).1 71 6).toInt = oqBp g a b R M N)) := by first | exact oqBt_m (g := g) (a := a) (b := b) (R := R) (M := M) (N := N) (bs := ((u21).1 71 5).toInt) (ps := ((u21).1 71 6).toInt) (as := A) (es := ((u21).1 71 4).toInt) hW3 (fun h9 => by have h8 := hU1 (by omega); omega) (fun h9 => by have h8 := hU0 (by omega); omega) (fun h9 => by have h8 := pu35_0 h9; omega) (fun h9 => by have h8 := pu35_1 h9; omega) | exact (by by_cases hR : R < 12; exact oqBt_r (g := g) (a := a) (b := b) (R := R) (M := M) (N := N) hW4 hR (oqVs_59 (a := A) (hRT1 hR) (by omega) (fun h9 => pu35_3 (by omega)) (fun h9 => by have h8 := pu35_0 h9; omega) (fun h9 => by have h8 := pu35_1 h9; omega)); (have h5 := hRT5 (by omega); exact oqBt_x (oqB_r5 (g := g) (a := a) (b := b) (R := R) (M := M) (N := N) hW4 (by omega)).1 (oqB_r5 (g := g) (a := a) (b := b) (R := R) (M := M) (N := N) hW4 (by omega)).2 (by omega) (by omega) (by omega))) | exact (by by_cases hM : M < 6; (by_cases hk : oqMk g (oqHa g a 5) N M = 0; exact oqBt_o (g := g) (a := a) (b := b) (R := R) (M := M) (N := N) hW5 hM hk (oqVs_59 (a := A) (hMTV hM hk) (by omega) (fun h9 => pu35_3 (by omega)) (fun h9 => by have h8 := pu35_0 h9; omega) (fun h9 => by have h8 := pu35_1 h9; omega)); (have h8 := hMTK hM hk; have e9 := oqB_on (g := g) (a := a) (b := b) (R := R) (M := M) (N := N) hW5 hM (by rw [oqBh_i (i := 5) hW5]; exact hk); rw [oqBh_i (i := 5) hW5] at e9; exact oqBt_x e9.1 e9.2 hk (by omega) (by omega))); (have h5 := hMT5 (by omega); exact oqBt_x (oqB_o5 (g := g) (a := a) (b := b) (R := R) (M := M) (N := N) hW5 (by omega)).1 (oqB_o5 (g := g) (a := a) (b := b) (R := R) (M := M) (N := N) hW5 (by omega)).2 (by omega) (by omega) (by omega))) | exact oqBt_x (oqB_w (g := g) (a := a) (b := b) (R := R) (M := M) (N := N) ⟨hz3, hz4, oqWi_w (i := 5) (by decide) (by omega)⟩).1 (oqB_w (g := g) (a := a) (b := b) (R := R) (M := M) (N := N) ⟨hz3, hz4, oqWi_w (i := 5) (by decide) (by omega)⟩).2 (by omega) (by omega) (by omega)
          have hN91 : ((u35).1 71 5).toInt = 0 → oqNR (oqBN g a b N M) (oqBM g a b M) (u35) := by first | (intro h9; exfalso; omega) | (intro h9; rw [hbs.2.2, hbs.2.1]; exact (oqNR_fr fu35 rfl (oqNR_fr fu21 rfl (oqNR_fr fu13 rfl (oqNR_fr fu9 rfl hp10))))) | (intro h9; rw [hbs.2.2, hbs.2.1, oqBh_i (i := 5) hW5]; exact oqNR_fr fu35 rfl (hMTN (by omega)))
          have hbp : ((u35).1 71 5).toInt = 0 → ((u35).1 71 6).toInt = -1 := pu35_4
          try (clear hMT5)
          try (clear hMTK)
          try (clear hMTV)
          try (clear hMTN)
          try (clear hRT1)
          try (clear hRT5)
          try (clear hU1)
          try (clear hU0)
          try (clear pu35_0)
          try (clear pu35_1)
          try (clear pu35_3)
          refine r_aload_n C (j := 0) (oDec_at oX12_bookTold 46 rfl) rfl rfl ?_
          refine r_dup C (oDec_at oX12_bookTold 47 rfl) rfl ?_
          refine r_geti (k := 37) (lo := 0) (hi := 60) C v4 oCl12 rfl (by decide) flX12_231 rfl rfl (((fu35 71 37 rfl).1).trans (((fu21 71 37 rfl).1).trans (((fu13 71 37 rfl).1).trans (((fu9 71 37 rfl).1).trans (ev4))))) rfl rfl (oDec_at oX12_bookTold 48 rfl) (fun _ _ => ?_)
          refine r_pc C 96 rfl ?_
          refine r_iconst C (oDec_at oX12_bookTold 49 rfl) (v := k1) (by rw [qk1]; rfl) ?_
          obtain ⟨v43, ev43⟩ : ∃ z : Int32, z = v4 + k1 := ⟨_, rfl⟩
          have hv43 : v43.toInt = v4.toInt + k1.toInt := n_add ev43 (by omega) (by omega)
          refine r_iadd C v43 (oDec_at oX12_bookTold 50 rfl) ev43 ?_
          refine r_puti (k := 37) (lo := 0) (hi := 60) C oCl12 rfl (by decide) flX12_231 rfl rfl rfl rfl rfl rfl rfl rfl ⟨by omega, by omega⟩ (oDec_at oX12_bookTold 51 rfl) ?_
          have lk44 : (((pI u35 71 37 v43)).1 71 6).toInt = (u35.1 71 6).toInt := congrArg Int32.toInt ((pI_ne (a := 71) (b := 6) (c := 71) (k := 37) _ _ (Or.inr (by decide))))
          have lk45 : (((pI u35 71 37 v43)).1 71 5).toInt = (u35.1 71 5).toInt := congrArg Int32.toInt ((pI_ne (a := 71) (b := 5) (c := 71) (k := 37) _ _ (Or.inr (by decide))))
          have lk46 : (((pI u35 71 37 v43)).1 71 5).toInt = (u35.1 71 5).toInt := congrArg Int32.toInt ((pI_ne (a := 71) (b := 5) (c := 71) (k := 37) _ _ (Or.inr (by decide))))
          have lk47 : (((pI u35 71 37 v43)).1 71 45).toInt = (s.1 71 45).toInt := congrArg Int32.toInt (((pI_ne (a := 71) (b := 45) (c := 71) (k := 37) _ _ (Or.inr (by decide)))).trans (((fu35 71 45 rfl).1).trans (((fu21 71 45 rfl).1).trans (((fu13 71 45 rfl).1).trans ((fu9 71 45 rfl).1)))))
          have lk48 : (((pI u35 71 37 v43)).1 71 2).toInt = (u35.1 71 2).toInt := congrArg Int32.toInt ((pI_ne (a := 71) (b := 2) (c := 71) (k := 37) _ _ (Or.inr (by decide))))
          have lk49 : (((pI u35 71 37 v43)).1 71 54).toInt = (s.1 71 54).toInt := congrArg Int32.toInt (((pI_ne (a := 71) (b := 54) (c := 71) (k := 37) _ _ (Or.inr (by decide)))).trans (((fu35 71 54 rfl).1).trans (((fu21 71 54 rfl).1).trans (((fu13 71 54 rfl).1).trans ((fu9 71 54 rfl).1)))))
          have lk50 : (((pI u35 71 37 v43)).1 71 37).toInt = v43.toInt := congrArg Int32.toInt ((pI_self _ _ _ _))
          have lk51 : (((pI u35 71 37 v43)).1 71 37).toInt = v43.toInt := congrArg Int32.toInt ((pI_self _ _ _ _))
          have lc52 : (((pI u35 71 37 v43)).1 104 3).toInt = (s.1 104 3).toInt := congrArg Int32.toInt (((pI_ne (a := 104) (b := 3) (c := 71) _ _ (Or.inl (by decide)))).trans (((fu35 104 3 rfl).1).trans (((fu21 104 3 rfl).1).trans (((fu13 104 3 rfl).1).trans ((fu9 104 3 rfl).1)))))
          have lk53 : (((pI u35 71 37 v43)).1 71 5).toInt = (u35.1 71 5).toInt := congrArg Int32.toInt ((pI_ne (a := 71) (b := 5) (c := 71) (k := 37) _ _ (Or.inr (by decide))))
          have lk54 : (((pI u35 71 37 v43)).1 71 6).toInt = (u35.1 71 6).toInt := congrArg Int32.toInt ((pI_ne (a := 71) (b := 6) (c := 71) (k := 37) _ _ (Or.inr (by decide))))
          have lc55 : (((pI u35 71 37 v43)).1 104 2).toInt = (s.1 104 2).toInt := congrArg Int32.toInt (((pI_ne (a := 104) (b := 2) (c := 71) _ _ (Or.inl (by decide)))).trans (((fu35 104 2 rfl).1).trans (((fu21 104 2 rfl).1).trans (((fu13 104 2 rfl).1).trans ((fu9 104 2 rfl).1)))))
          have lc56 : (((pI u35 71 37 v43)).1 104 3).toInt = (s.1 104 3).toInt := congrArg Int32.toInt (((pI_ne (a := 104) (b := 3) (c := 71) _ _ (Or.inl (by decide)))).trans (((fu35 104 3 rfl).1).trans (((fu21 104 3 rfl).1).trans (((fu13 104 3 rfl).1).trans ((fu9 104 3 rfl).1)))))
          have lk57 : (((pI u35 71 37 v43)).1 71 5).toInt = (u35.1 71 5).toInt := congrArg Int32.toInt ((pI_ne (a := 71) (b := 5) (c := 71) (k := 37) _ _ (Or.inr (by decide))))
          have lk58 : (((pI u35 71 37 v43)).1 71 2).toInt = (u35.1 71 2).toInt := congrArg Int32.toInt ((pI_ne (a := 71) (b := 2) (c := 71) (k := 37) _ _ (Or.inr (by decide))))
          have lk59 : (((pI u35 71 37 v43)).1 71 4).toInt = (u21.1 71 4).toInt := congrArg Int32.toInt (((pI_ne (a := 71) (b := 4) (c := 71) (k := 37) _ _ (Or.inr (by decide)))).trans ((fu35 71 4 rfl).1))
          have lk60 : (((pI u35 71 37 v43)).1 71 6).toInt = (u35.1 71 6).toInt := congrArg Int32.toInt ((pI_ne (a := 71) (b := 6) (c := 71) (k := 37) _ _ (Or.inr (by decide))))
          have lk61 : (((pI u35 71 37 v43)).1 71 5).toInt = (u35.1 71 5).toInt := congrArg Int32.toInt ((pI_ne (a := 71) (b := 5) (c := 71) (k := 37) _ _ (Or.inr (by decide))))
          have lk62 : (((pI u35 71 37 v43)).1 71 6).toInt = (u35.1 71 6).toInt := congrArg Int32.toInt ((pI_ne (a := 71) (b := 6) (c := 71) (k := 37) _ _ (Or.inr (by decide))))
          have lk63 : (((pI u35 71 37 v43)).1 71 5).toInt = (u35.1 71 5).toInt := congrArg Int32.toInt ((pI_ne (a := 71) (b := 5) (c := 71) (k := 37) _ _ (Or.inr (by decide))))
          exact r_vret C (oDec_at oX12_bookTold 52 rfl) ⟨rfl, ⟨(oBB_fr (oFr_oneI (q := 12) (m := 37) rfl (by rfl)) rfl (oBB_frb fu35 rfl (by omega) (oBB_frb fu21 rfl (by omega) (oBB_fr fu13 rfl (oBB_fr fu9 rfl hp0))))), by omega, by omega, by omega, by omega, by omega, by omega, fun _ h9 => oqNR_fr (oFr_oneI (q := 12) (m := 37) rfl (by rfl)) rfl (hN91 (by omega))⟩⟩
        · skip
          have hQ1 := pu21_0 (by omega)
          clear pu21_0 pu21_1
          have hW5 := oqWi_y (g := g) (A := a) (E := b) (i := 5) (by decide) (by omega)
          have hnl5 : ¬ (97 ≤ g (oqHa g a 5) ∧ g (oqHa g a 5) ≤ 122) := (oqH_is (g := g) (a := a) (b := b) (i := 5) (by omega)).1.2
          refine r_aload_n C (j := 0) (oDec_at oX12_bookTold 40 rfl) rfl rfl ?_
          refine r_iload_n C (j := 1) (oDec_at oX12_bookTold 41 rfl) rfl rfl ?_
          have lk64 : ((u21).1 71 5).toInt = v23.toInt := congrArg Int32.toInt (ev23)
          have lk65 : ((u21).1 71 45).toInt = (s.1 71 45).toInt := congrArg Int32.toInt (((fu21 71 45 rfl).1).trans (((fu13 71 45 rfl).1).trans ((fu9 71 45 rfl).1)))
          have lk66 : ((u21).1 71 5).toInt = v23.toInt := congrArg Int32.toInt (ev23)
          have lk67 : ((u21).1 71 5).toInt = v23.toInt := congrArg Int32.toInt (ev23)
          have lc68 : ((u21).1 104 3).toInt = (s.1 104 3).toInt := congrArg Int32.toInt (((fu21 104 3 rfl).1).trans (((fu13 104 3 rfl).1).trans ((fu9 104 3 rfl).1)))
          have lc69 : ((u21).1 104 3).toInt = (s.1 104 3).toInt := congrArg Int32.toInt (((fu21 104 3 rfl).1).trans (((fu13 104 3 rfl).1).trans ((fu9 104 3 rfl).1)))
          refine r_callVv C oCl12 rfl miX12_mottoTold mlX12_350 (ct7_X12_mottoTold l E (u21) v2 (g) (oqHa g a 5) (N) (M) (oBB_frb fu21 rfl (by omega) (oBB_fr fu13 rfl (oBB_fr fu9 rfl hp0))) (by omega) (by omega) (by omega) (by omega) (by omega) (by omega) (oqNR_fr fu21 rfl (oqNR_fr fu13 rfl (oqNR_fr fu9 rfl hp10))) (by omega) pu21_3 (oqZ_fr fu21 rfl (oqZ_fr fu13 rfl (oqZ_fr fu9 rfl hp13))) (oqWd_fr fu21 rfl (oqWd_fr fu13 rfl (oqWd_fr fu9 rfl hp14)))) (by decide) rfl rfl rfl (Nat.le_of_ble_eq_true rfl) (oDec_at oX12_bookTold 42 rfl) (fun u70 pu70 fu70 => ?_)
          try dsimp only at pu70
          try simp only [lk64, lk65, lk66, lk67] at pu70
          obtain ⟨pu70_0, pu70_1, pu70_2, pu70_3, pu70_4, pu70_5, pu70_6, pu70_7, pu70_8, pu70_9⟩ := pu70
          have lk72 : ((u70).1 71 37).toInt = v4.toInt := congrArg Int32.toInt (((fu70 71 37 rfl).1).trans (((fu21 71 37 rfl).1).trans (((fu13 71 37 rfl).1).trans (((fu9 71 37 rfl).1).trans (ev4)))))
          obtain ⟨A, hA⟩ : ∃ z : Int, z = ((u70).1 71 2).toInt := ⟨_, rfl⟩
          try (have hMT5 := pu70_4)
          try (have hMTK := pu70_5)
          try (have hMTV := pu70_6)
          try (have hMTN := pu70_7)
          try (have hMTC := pu70_8)
          refine r_aload_n C (j := 0) (oDec_at oX12_bookTold 43 rfl) rfl rfl ?_
          refine r_bipush C (oDec_at oX12_bookTold 44 rfl) (v := k59) (by rw [qk59]; rfl) ?_
          refine r_callVv C oCl12 rfl miX12_asksSign mlX12_248 (ct7_X12_asksSign l E (u70) k59 (g) (A) (59) (by omega) (oqZ_fr fu70 rfl (oqZ_fr fu21 rfl (oqZ_fr fu13 rfl (oqZ_fr fu9 rfl hp13)))) (by omega) (by omega) pu70_9) (by decide) rfl rfl rfl (Nat.le_of_ble_eq_true rfl) (oDec_at oX12_bookTold 45 rfl) (fun u73 pu73 fu73 => ?_)
          try dsimp only at pu73
          obtain ⟨pu73_0, pu73_1, pu73_2, pu73_3, pu73_4⟩ := pu73
          refine r_pc C 91 rfl ?_
          have lc75 : ((u73).1 104 2).toInt = (u70.1 104 2).toInt := congrArg Int32.toInt ((fu73 104 2 rfl).1)
          have lc76 : ((u73).1 104 3).toInt = (u70.1 104 3).toInt := congrArg Int32.toInt ((fu73 104 3 rfl).1)
          have lk77 : ((u73).1 71 4).toInt = (u70.1 71 4).toInt := congrArg Int32.toInt ((fu73 71 4 rfl).1)
          have lk78 : ((u73).1 71 48).toInt = (u70.1 71 48).toInt := congrArg Int32.toInt ((fu73 71 48 rfl).1)
          have lk79 : ((u73).1 71 47).toInt = (u70.1 71 47).toInt := congrArg Int32.toInt ((fu73 71 47 rfl).1)
          have lk80 : ((u73).1 71 37).toInt = v4.toInt := congrArg Int32.toInt (((fu73 71 37 rfl).1).trans (((fu70 71 37 rfl).1).trans (((fu21 71 37 rfl).1).trans (((fu13 71 37 rfl).1).trans (((fu9 71 37 rfl).1).trans (ev4))))))
          try (have hbs := oqBs_3 (g := g) (a := a) (b := b) (R := R) (M := M) (N := N) hW3)
          try (have hbs := oqBs_4 (g := g) (a := a) (b := b) (R := R) (M := M) (N := N) hW4)
          try (have hbs := oqBs_5 (g := g) (a := a) (b := b) (R := R) (M := M) (N := N) hW5)
          have hF : ((((u73).1 71 5).toInt = 0 → oqBk g a b R M N = 0 ∧ ((u73).1 71 2).toInt = oqBa g a b ∧ ((u73).1 71 4).toInt = oqBb g a b) ∧ (((u73).1 71 5).toInt ≠ 0 → oqBk g a b R M N ≠ 0 ∧ ((u73).1 71 5).toInt = oqBk g a b R M N ∧ ((u73).1 71 6).toInt = oqBp g a b R M N)) := by first | exact oqBt_m (g := g) (a := a) (b := b) (R := R) (M := M) (N := N) (bs := ((u70).1 71 5).toInt) (ps := ((u70).1 71 6).toInt) (as := A) (es := ((u70).1 71 4).toInt) hW3 (fun h9 => by have h8 := hU1 (by omega); omega) (fun h9 => by have h8 := hU0 (by omega); omega) (fun h9 => by have h8 := pu73_0 h9; omega) (fun h9 => by have h8 := pu73_1 h9; omega) | exact (by by_cases hR : R < 12; exact oqBt_r (g := g) (a := a) (b := b) (R := R) (M := M) (N := N) hW4 hR (oqVs_59 (a := A) (hRT1 hR) (by omega) (fun h9 => pu73_3 (by omega)) (fun h9 => by have h8 := pu73_0 h9; omega) (fun h9 => by have h8 := pu73_1 h9; omega)); (have h5 := hRT5 (by omega); exact oqBt_x (oqB_r5 (g := g) (a := a) (b := b) (R := R) (M := M) (N := N) hW4 (by omega)).1 (oqB_r5 (g := g) (a := a) (b := b) (R := R) (M := M) (N := N) hW4 (by omega)).2 (by omega) (by omega) (by omega))) | exact (by by_cases hM : M < 6; (by_cases hk : oqMk g (oqHa g a 5) N M = 0; exact oqBt_o (g := g) (a := a) (b := b) (R := R) (M := M) (N := N) hW5 hM hk (oqVs_59 (a := A) (hMTV hM hk) (by omega) (fun h9 => pu73_3 (by omega)) (fun h9 => by have h8 := pu73_0 h9; omega) (fun h9 => by have h8 := pu73_1 h9; omega)); (have h8 := hMTK hM hk; have e9 := oqB_on (g := g) (a := a) (b := b) (R := R) (M := M) (N := N) hW5 hM (by rw [oqBh_i (i := 5) hW5]; exact hk); rw [oqBh_i (i := 5) hW5] at e9; exact oqBt_x e9.1 e9.2 hk (by omega) (by omega))); (have h5 := hMT5 (by omega); exact oqBt_x (oqB_o5 (g := g) (a := a) (b := b) (R := R) (M := M) (N := N) hW5 (by omega)).1 (oqB_o5 (g := g) (a := a) (b := b) (R := R) (M := M) (N := N) hW5 (by omega)).2 (by omega) (by omega) (by omega))) | exact oqBt_x (oqB_w (g := g) (a := a) (b := b) (R := R) (M := M) (N := N) ⟨hz3, hz4, oqWi_w (i := 5) (by decide) (by omega)⟩).1 (oqB_w (g := g) (a := a) (b := b) (R := R) (M := M) (N := N) ⟨hz3, hz4, oqWi_w (i := 5) (by decide) (by omega)⟩).2 (by omega) (by omega) (by omega)
          have hN91 : ((u73).1 71 5).toInt = 0 → oqNR (oqBN g a b N M) (oqBM g a b M) (u73) := by first | (intro h9; exfalso; omega) | (intro h9; rw [hbs.2.2, hbs.2.1]; exact (by assumption)) | (intro h9; rw [hbs.2.2, hbs.2.1, oqBh_i (i := 5) hW5]; exact oqNR_fr fu73 rfl (hMTN (by omega)))
          have hbp : ((u73).1 71 5).toInt = 0 → ((u73).1 71 6).toInt = -1 := pu73_4
          try (clear hMT5)
          try (clear hMTK)
          try (clear hMTV)
          try (clear hMTN)
          try (clear hRT1)
          try (clear hRT5)
          try (clear hU1)
          try (clear hU0)
          try (clear pu73_0)
          try (clear pu73_1)
          try (clear pu73_3)
          refine r_aload_n C (j := 0) (oDec_at oX12_bookTold 46 rfl) rfl rfl ?_
          refine r_dup C (oDec_at oX12_bookTold 47 rfl) rfl ?_
          refine r_geti (k := 37) (lo := 0) (hi := 60) C v4 oCl12 rfl (by decide) flX12_231 rfl rfl (((fu73 71 37 rfl).1).trans (((fu70 71 37 rfl).1).trans (((fu21 71 37 rfl).1).trans (((fu13 71 37 rfl).1).trans (((fu9 71 37 rfl).1).trans (ev4)))))) rfl rfl (oDec_at oX12_bookTold 48 rfl) (fun _ _ => ?_)
          refine r_iconst C (oDec_at oX12_bookTold 49 rfl) (v := k1) (by rw [qk1]; rfl) ?_
          obtain ⟨v81, ev81⟩ : ∃ z : Int32, z = v4 + k1 := ⟨_, rfl⟩
          have hv81 : v81.toInt = v4.toInt + k1.toInt := n_add ev81 (by omega) (by omega)
          refine r_iadd C v81 (oDec_at oX12_bookTold 50 rfl) ev81 ?_
          refine r_puti (k := 37) (lo := 0) (hi := 60) C oCl12 rfl (by decide) flX12_231 rfl rfl rfl rfl rfl rfl rfl rfl ⟨by omega, by omega⟩ (oDec_at oX12_bookTold 51 rfl) ?_
          refine r_pc C 101 rfl ?_
          have lk82 : (((pI u73 71 37 v81)).1 71 6).toInt = (u73.1 71 6).toInt := congrArg Int32.toInt ((pI_ne (a := 71) (b := 6) (c := 71) (k := 37) _ _ (Or.inr (by decide))))
          have lk83 : (((pI u73 71 37 v81)).1 71 5).toInt = (u73.1 71 5).toInt := congrArg Int32.toInt ((pI_ne (a := 71) (b := 5) (c := 71) (k := 37) _ _ (Or.inr (by decide))))
          have lk84 : (((pI u73 71 37 v81)).1 71 5).toInt = (u73.1 71 5).toInt := congrArg Int32.toInt ((pI_ne (a := 71) (b := 5) (c := 71) (k := 37) _ _ (Or.inr (by decide))))
          have lk85 : (((pI u73 71 37 v81)).1 71 45).toInt = (u70.1 71 45).toInt := congrArg Int32.toInt (((pI_ne (a := 71) (b := 45) (c := 71) (k := 37) _ _ (Or.inr (by decide)))).trans ((fu73 71 45 rfl).1))
          have lk86 : (((pI u73 71 37 v81)).1 71 2).toInt = (u73.1 71 2).toInt := congrArg Int32.toInt ((pI_ne (a := 71) (b := 2) (c := 71) (k := 37) _ _ (Or.inr (by decide))))
          have lk87 : (((pI u73 71 37 v81)).1 71 54).toInt = (s.1 71 54).toInt := congrArg Int32.toInt (((pI_ne (a := 71) (b := 54) (c := 71) (k := 37) _ _ (Or.inr (by decide)))).trans (((fu73 71 54 rfl).1).trans (((fu70 71 54 rfl).1).trans (((fu21 71 54 rfl).1).trans (((fu13 71 54 rfl).1).trans ((fu9 71 54 rfl).1))))))
          have lk88 : (((pI u73 71 37 v81)).1 71 37).toInt = v81.toInt := congrArg Int32.toInt ((pI_self _ _ _ _))
          have lk89 : (((pI u73 71 37 v81)).1 71 37).toInt = v81.toInt := congrArg Int32.toInt ((pI_self _ _ _ _))
          have lc90 : (((pI u73 71 37 v81)).1 104 3).toInt = (u70.1 104 3).toInt := congrArg Int32.toInt (((pI_ne (a := 104) (b := 3) (c := 71) _ _ (Or.inl (by decide)))).trans ((fu73 104 3 rfl).1))
          have lk91 : (((pI u73 71 37 v81)).1 71 5).toInt = (u73.1 71 5).toInt := congrArg Int32.toInt ((pI_ne (a := 71) (b := 5) (c := 71) (k := 37) _ _ (Or.inr (by decide))))
          have lk92 : (((pI u73 71 37 v81)).1 71 6).toInt = (u73.1 71 6).toInt := congrArg Int32.toInt ((pI_ne (a := 71) (b := 6) (c := 71) (k := 37) _ _ (Or.inr (by decide))))
          have lc93 : (((pI u73 71 37 v81)).1 104 2).toInt = (u70.1 104 2).toInt := congrArg Int32.toInt (((pI_ne (a := 104) (b := 2) (c := 71) _ _ (Or.inl (by decide)))).trans ((fu73 104 2 rfl).1))
          have lc94 : (((pI u73 71 37 v81)).1 104 3).toInt = (u70.1 104 3).toInt := congrArg Int32.toInt (((pI_ne (a := 104) (b := 3) (c := 71) _ _ (Or.inl (by decide)))).trans ((fu73 104 3 rfl).1))
          have lk95 : (((pI u73 71 37 v81)).1 71 5).toInt = (u73.1 71 5).toInt := congrArg Int32.toInt ((pI_ne (a := 71) (b := 5) (c := 71) (k := 37) _ _ (Or.inr (by decide))))
          have lk96 : (((pI u73 71 37 v81)).1 71 2).toInt = (u73.1 71 2).toInt := congrArg Int32.toInt ((pI_ne (a := 71) (b := 2) (c := 71) (k := 37) _ _ (Or.inr (by decide))))
          have lk97 : (((pI u73 71 37 v81)).1 71 4).toInt = (u70.1 71 4).toInt := congrArg Int32.toInt (((pI_ne (a := 71) (b := 4) (c := 71) (k := 37) _ _ (Or.inr (by decide)))).trans ((fu73 71 4 rfl).1))
          have lk98 : (((pI u73 71 37 v81)).1 71 6).toInt = (u73.1 71 6).toInt := congrArg Int32.toInt ((pI_ne (a := 71) (b := 6) (c := 71) (k := 37) _ _ (Or.inr (by decide))))
          have lk99 : (((pI u73 71 37 v81)).1 71 5).toInt = (u73.1 71 5).toInt := congrArg Int32.toInt ((pI_ne (a := 71) (b := 5) (c := 71) (k := 37) _ _ (Or.inr (by decide))))
          have lk100 : (((pI u73 71 37 v81)).1 71 6).toInt = (u73.1 71 6).toInt := congrArg Int32.toInt ((pI_ne (a := 71) (b := 6) (c := 71) (k := 37) _ _ (Or.inr (by decide))))
          have lk101 : (((pI u73 71 37 v81)).1 71 5).toInt = (u73.1 71 5).toInt := congrArg Int32.toInt ((pI_ne (a := 71) (b := 5) (c := 71) (k := 37) _ _ (Or.inr (by decide))))
          exact r_vret C (oDec_at oX12_bookTold 52 rfl) ⟨rfl, ⟨(oBB_fr (oFr_oneI (q := 12) (m := 37) rfl (by rfl)) rfl (oBB_frb fu73 rfl (by omega) pu70_0)), by omega, by omega, by omega, by omega, by omega, by omega, fun _ h9 => oqNR_fr (oFr_oneI (q := 12) (m := 37) rfl (by rfl)) rfl (hN91 (by omega))⟩⟩
      · skip
        replace pu13_1 := pu13_1 (by omega)
        clear pu13_2
        have hW4 := oqWi_y (g := g) (A := a) (E := b) (i := 4) (by decide) (by omega)
        refine r_aload_n C (j := 0) (oDec_at oX12_bookTold 29 rfl) rfl rfl ?_
        refine r_iload_n C (j := 1) (oDec_at oX12_bookTold 30 rfl) rfl rfl ?_
        have lk102 : ((u13).1 71 5).toInt = (s.1 71 5).toInt := congrArg Int32.toInt (((fu13 71 5 rfl).1).trans ((fu9 71 5 rfl).1))
        have lk103 : ((u13).1 71 45).toInt = (s.1 71 45).toInt := congrArg Int32.toInt (((fu13 71 45 rfl).1).trans ((fu9 71 45 rfl).1))
        have lk104 : ((u13).1 71 5).toInt = (s.1 71 5).toInt := congrArg Int32.toInt (((fu13 71 5 rfl).1).trans ((fu9 71 5 rfl).1))
        have lk105 : ((u13).1 71 5).toInt = (s.1 71 5).toInt := congrArg Int32.toInt (((fu13 71 5 rfl).1).trans ((fu9 71 5 rfl).1))
        have lc106 : ((u13).1 104 3).toInt = (s.1 104 3).toInt := congrArg Int32.toInt (((fu13 104 3 rfl).1).trans ((fu9 104 3 rfl).1))
        have lc107 : ((u13).1 104 2).toInt = (s.1 104 2).toInt := congrArg Int32.toInt (((fu13 104 2 rfl).1).trans ((fu9 104 2 rfl).1))
        refine r_callVv C oCl12 rfl miX12_ruleTold mlX12_347 (ct7_X12_ruleTold l E (u13) v2 (g) (oqHa g a 4) (R) (oBB_fr fu13 rfl (oBB_fr fu9 rfl hp0)) (by omega) (by omega) (by omega) (by omega) (by omega) (by omega) (oqBP_fr fu13 rfl (oqBP_fr fu9 rfl hq1)) (oqZ_fr fu13 rfl (oqZ_fr fu9 rfl hp13)) (oqWd_fr fu13 rfl (oqWd_fr fu9 rfl hp14))) (by decide) rfl rfl rfl (Nat.le_of_ble_eq_true rfl) (oDec_at oX12_bookTold 31 rfl) (fun u108 pu108 fu108 => ?_)
        try dsimp only at pu108
        try simp only [lk102, lk103, lk104, lk105] at pu108
        obtain ⟨pu108_0, pu108_1, pu108_2, pu108_3, pu108_4, pu108_5, pu108_6, pu108_7⟩ := pu108
        have hRT1 := pu108_4
        have hRT5 := pu108_5
        have hRTC := pu108_6
        refine r_goto C (tgt := 85) (oDec_at oX12_bookTold 32 rfl) (by decide) ?_
        have lk110 : ((u108).1 71 37).toInt = v4.toInt := congrArg Int32.toInt (((fu108 71 37 rfl).1).trans (((fu13 71 37 rfl).1).trans (((fu9 71 37 rfl).1).trans (ev4))))
        obtain ⟨A, hA⟩ : ∃ z : Int, z = ((u108).1 71 2).toInt := ⟨_, rfl⟩
        try (have hMT5 := pu108_4)
        try (have hMTK := pu108_5)
        try (have hMTV := pu108_6)
        try (have hMTN := pu108_7)
        try (have hMTC := pu108_8)
        refine r_aload_n C (j := 0) (oDec_at oX12_bookTold 43 rfl) rfl rfl ?_
        refine r_bipush C (oDec_at oX12_bookTold 44 rfl) (v := k59) (by rw [qk59]; rfl) ?_
        refine r_callVv C oCl12 rfl miX12_asksSign mlX12_248 (ct7_X12_asksSign l E (u108) k59 (g) (A) (59) (by omega) (oqZ_fr fu108 rfl (oqZ_fr fu13 rfl (oqZ_fr fu9 rfl hp13))) (by omega) (by omega) pu108_7) (by decide) rfl rfl rfl (Nat.le_of_ble_eq_true rfl) (oDec_at oX12_bookTold 45 rfl) (fun u111 pu111 fu111 => ?_)
        try dsimp only at pu111
        obtain ⟨pu111_0, pu111_1, pu111_2, pu111_3, pu111_4⟩ := pu111
        refine r_pc C 91 rfl ?_
        have lc113 : ((u111).1 104 2).toInt = (u108.1 104 2).toInt := congrArg Int32.toInt ((fu111 104 2 rfl).1)
        have lc114 : ((u111).1 104 3).toInt = (u108.1 104 3).toInt := congrArg Int32.toInt ((fu111 104 3 rfl).1)
        have lk115 : ((u111).1 71 4).toInt = (u108.1 71 4).toInt := congrArg Int32.toInt ((fu111 71 4 rfl).1)
        have lk116 : ((u111).1 71 48).toInt = (u108.1 71 48).toInt := congrArg Int32.toInt ((fu111 71 48 rfl).1)
        have lk117 : ((u111).1 71 47).toInt = (u108.1 71 47).toInt := congrArg Int32.toInt ((fu111 71 47 rfl).1)
        have lk118 : ((u111).1 71 37).toInt = v4.toInt := congrArg Int32.toInt (((fu111 71 37 rfl).1).trans (((fu108 71 37 rfl).1).trans (((fu13 71 37 rfl).1).trans (((fu9 71 37 rfl).1).trans (ev4)))))
        try (have hbs := oqBs_3 (g := g) (a := a) (b := b) (R := R) (M := M) (N := N) hW3)
        try (have hbs := oqBs_4 (g := g) (a := a) (b := b) (R := R) (M := M) (N := N) hW4)
        try (have hbs := oqBs_5 (g := g) (a := a) (b := b) (R := R) (M := M) (N := N) hW5)
        have hF : ((((u111).1 71 5).toInt = 0 → oqBk g a b R M N = 0 ∧ ((u111).1 71 2).toInt = oqBa g a b ∧ ((u111).1 71 4).toInt = oqBb g a b) ∧ (((u111).1 71 5).toInt ≠ 0 → oqBk g a b R M N ≠ 0 ∧ ((u111).1 71 5).toInt = oqBk g a b R M N ∧ ((u111).1 71 6).toInt = oqBp g a b R M N)) := by first | exact oqBt_m (g := g) (a := a) (b := b) (R := R) (M := M) (N := N) (bs := ((u108).1 71 5).toInt) (ps := ((u108).1 71 6).toInt) (as := A) (es := ((u108).1 71 4).toInt) hW3 (fun h9 => by have h8 := hU1 (by omega); omega) (fun h9 => by have h8 := hU0 (by omega); omega) (fun h9 => by have h8 := pu111_0 h9; omega) (fun h9 => by have h8 := pu111_1 h9; omega) | exact (by by_cases hR : R < 12; exact oqBt_r (g := g) (a := a) (b := b) (R := R) (M := M) (N := N) hW4 hR (oqVs_59 (a := A) (hRT1 hR) (by omega) (fun h9 => pu111_3 (by omega)) (fun h9 => by have h8 := pu111_0 h9; omega) (fun h9 => by have h8 := pu111_1 h9; omega)); (have h5 := hRT5 (by omega); exact oqBt_x (oqB_r5 (g := g) (a := a) (b := b) (R := R) (M := M) (N := N) hW4 (by omega)).1 (oqB_r5 (g := g) (a := a) (b := b) (R := R) (M := M) (N := N) hW4 (by omega)).2 (by omega) (by omega) (by omega))) | exact (by by_cases hM : M < 6; (by_cases hk : oqMk g (oqHa g a 5) N M = 0; exact oqBt_o (g := g) (a := a) (b := b) (R := R) (M := M) (N := N) hW5 hM hk (oqVs_59 (a := A) (hMTV hM hk) (by omega) (fun h9 => pu111_3 (by omega)) (fun h9 => by have h8 := pu111_0 h9; omega) (fun h9 => by have h8 := pu111_1 h9; omega)); (have h8 := hMTK hM hk; have e9 := oqB_on (g := g) (a := a) (b := b) (R := R) (M := M) (N := N) hW5 hM (by rw [oqBh_i (i := 5) hW5]; exact hk); rw [oqBh_i (i := 5) hW5] at e9; exact oqBt_x e9.1 e9.2 hk (by omega) (by omega))); (have h5 := hMT5 (by omega); exact oqBt_x (oqB_o5 (g := g) (a := a) (b := b) (R := R) (M := M) (N := N) hW5 (by omega)).1 (oqB_o5 (g := g) (a := a) (b := b) (R := R) (M := M) (N := N) hW5 (by omega)).2 (by omega) (by omega) (by omega))) | exact oqBt_x (oqB_w (g := g) (a := a) (b := b) (R := R) (M := M) (N := N) ⟨hz3, hz4, oqWi_w (i := 5) (by decide) (by omega)⟩).1 (oqB_w (g := g) (a := a) (b := b) (R := R) (M := M) (N := N) ⟨hz3, hz4, oqWi_w (i := 5) (by decide) (by omega)⟩).2 (by omega) (by omega) (by omega)
        have hN91 : ((u111).1 71 5).toInt = 0 → oqNR (oqBN g a b N M) (oqBM g a b M) (u111) := by first | (intro h9; exfalso; omega) | (intro h9; rw [hbs.2.2, hbs.2.1]; exact (oqNR_fr fu111 rfl (oqNR_fr fu108 rfl (oqNR_fr fu13 rfl (oqNR_fr fu9 rfl hp10))))) | (intro h9; rw [hbs.2.2, hbs.2.1, oqBh_i (i := 5) hW5]; exact oqNR_fr fu111 rfl (hMTN (by omega)))
        have hbp : ((u111).1 71 5).toInt = 0 → ((u111).1 71 6).toInt = -1 := pu111_4
        try (clear hMT5)
        try (clear hMTK)
        try (clear hMTV)
        try (clear hMTN)
        try (clear hRT1)
        try (clear hRT5)
        try (clear hU1)
        try (clear hU0)
        try (clear pu111_0)
        try (clear pu111_1)
        try (clear pu111_3)
        refine r_aload_n C (j := 0) (oDec_at oX12_bookTold 46 rfl) rfl rfl ?_
        refine r_dup C (oDec_at oX12_bookTold 47 rfl) rfl ?_
        refine r_geti (k := 37) (lo := 0) (hi := 60) C v4 oCl12 rfl (by decide) flX12_231 rfl rfl (((fu111 71 37 rfl).1).trans (((fu108 71 37 rfl).1).trans (((fu13 71 37 rfl).1).trans (((fu9 71 37 rfl).1).trans (ev4))))) rfl rfl (oDec_at oX12_bookTold 48 rfl) (fun _ _ => ?_)
        refine r_iconst C (oDec_at oX12_bookTold 49 rfl) (v := k1) (by rw [qk1]; rfl) ?_
        obtain ⟨v119, ev119⟩ : ∃ z : Int32, z = v4 + k1 := ⟨_, rfl⟩
        have hv119 : v119.toInt = v4.toInt + k1.toInt := n_add ev119 (by omega) (by omega)
        refine r_iadd C v119 (oDec_at oX12_bookTold 50 rfl) ev119 ?_
        refine r_puti (k := 37) (lo := 0) (hi := 60) C oCl12 rfl (by decide) flX12_231 rfl rfl rfl rfl rfl rfl rfl rfl ⟨by omega, by omega⟩ (oDec_at oX12_bookTold 51 rfl) ?_
        refine r_pc C 101 rfl ?_
        have lk120 : (((pI u111 71 37 v119)).1 71 6).toInt = (u111.1 71 6).toInt := congrArg Int32.toInt ((pI_ne (a := 71) (b := 6) (c := 71) (k := 37) _ _ (Or.inr (by decide))))
        have lk121 : (((pI u111 71 37 v119)).1 71 5).toInt = (u111.1 71 5).toInt := congrArg Int32.toInt ((pI_ne (a := 71) (b := 5) (c := 71) (k := 37) _ _ (Or.inr (by decide))))
        have lk122 : (((pI u111 71 37 v119)).1 71 5).toInt = (u111.1 71 5).toInt := congrArg Int32.toInt ((pI_ne (a := 71) (b := 5) (c := 71) (k := 37) _ _ (Or.inr (by decide))))
        have lk123 : (((pI u111 71 37 v119)).1 71 45).toInt = (u108.1 71 45).toInt := congrArg Int32.toInt (((pI_ne (a := 71) (b := 45) (c := 71) (k := 37) _ _ (Or.inr (by decide)))).trans ((fu111 71 45 rfl).1))
        have lk124 : (((pI u111 71 37 v119)).1 71 2).toInt = (u111.1 71 2).toInt := congrArg Int32.toInt ((pI_ne (a := 71) (b := 2) (c := 71) (k := 37) _ _ (Or.inr (by decide))))
        have lk125 : (((pI u111 71 37 v119)).1 71 54).toInt = (s.1 71 54).toInt := congrArg Int32.toInt (((pI_ne (a := 71) (b := 54) (c := 71) (k := 37) _ _ (Or.inr (by decide)))).trans (((fu111 71 54 rfl).1).trans (((fu108 71 54 rfl).1).trans (((fu13 71 54 rfl).1).trans ((fu9 71 54 rfl).1)))))
        have lk126 : (((pI u111 71 37 v119)).1 71 37).toInt = v119.toInt := congrArg Int32.toInt ((pI_self _ _ _ _))
        have lk127 : (((pI u111 71 37 v119)).1 71 37).toInt = v119.toInt := congrArg Int32.toInt ((pI_self _ _ _ _))
        have lc128 : (((pI u111 71 37 v119)).1 104 3).toInt = (u108.1 104 3).toInt := congrArg Int32.toInt (((pI_ne (a := 104) (b := 3) (c := 71) _ _ (Or.inl (by decide)))).trans ((fu111 104 3 rfl).1))
        have lk129 : (((pI u111 71 37 v119)).1 71 5).toInt = (u111.1 71 5).toInt := congrArg Int32.toInt ((pI_ne (a := 71) (b := 5) (c := 71) (k := 37) _ _ (Or.inr (by decide))))
        have lk130 : (((pI u111 71 37 v119)).1 71 6).toInt = (u111.1 71 6).toInt := congrArg Int32.toInt ((pI_ne (a := 71) (b := 6) (c := 71) (k := 37) _ _ (Or.inr (by decide))))
        have lc131 : (((pI u111 71 37 v119)).1 104 2).toInt = (u108.1 104 2).toInt := congrArg Int32.toInt (((pI_ne (a := 104) (b := 2) (c := 71) _ _ (Or.inl (by decide)))).trans ((fu111 104 2 rfl).1))
        have lc132 : (((pI u111 71 37 v119)).1 104 3).toInt = (u108.1 104 3).toInt := congrArg Int32.toInt (((pI_ne (a := 104) (b := 3) (c := 71) _ _ (Or.inl (by decide)))).trans ((fu111 104 3 rfl).1))
        have lk133 : (((pI u111 71 37 v119)).1 71 5).toInt = (u111.1 71 5).toInt := congrArg Int32.toInt ((pI_ne (a := 71) (b := 5) (c := 71) (k := 37) _ _ (Or.inr (by decide))))
        have lk134 : (((pI u111 71 37 v119)).1 71 2).toInt = (u111.1 71 2).toInt := congrArg Int32.toInt ((pI_ne (a := 71) (b := 2) (c := 71) (k := 37) _ _ (Or.inr (by decide))))
        have lk135 : (((pI u111 71 37 v119)).1 71 4).toInt = (u108.1 71 4).toInt := congrArg Int32.toInt (((pI_ne (a := 71) (b := 4) (c := 71) (k := 37) _ _ (Or.inr (by decide)))).trans ((fu111 71 4 rfl).1))
        have lk136 : (((pI u111 71 37 v119)).1 71 6).toInt = (u111.1 71 6).toInt := congrArg Int32.toInt ((pI_ne (a := 71) (b := 6) (c := 71) (k := 37) _ _ (Or.inr (by decide))))
        have lk137 : (((pI u111 71 37 v119)).1 71 5).toInt = (u111.1 71 5).toInt := congrArg Int32.toInt ((pI_ne (a := 71) (b := 5) (c := 71) (k := 37) _ _ (Or.inr (by decide))))
        have lk138 : (((pI u111 71 37 v119)).1 71 6).toInt = (u111.1 71 6).toInt := congrArg Int32.toInt ((pI_ne (a := 71) (b := 6) (c := 71) (k := 37) _ _ (Or.inr (by decide))))
        have lk139 : (((pI u111 71 37 v119)).1 71 5).toInt = (u111.1 71 5).toInt := congrArg Int32.toInt ((pI_ne (a := 71) (b := 5) (c := 71) (k := 37) _ _ (Or.inr (by decide))))
        exact r_vret C (oDec_at oX12_bookTold 52 rfl) ⟨rfl, ⟨(oBB_fr (oFr_oneI (q := 12) (m := 37) rfl (by rfl)) rfl (oBB_frb fu111 rfl (by omega) pu108_0)), by omega, by omega, by omega, by omega, by omega, by omega, fun _ h9 => oqNR_fr (oFr_oneI (q := 12) (m := 37) rfl (by rfl)) rfl (hN91 (by omega))⟩⟩
    · skip
      replace pu9_1 := pu9_1 (by omega)
      clear pu9_2
      have hW3 := oqWi_y (g := g) (A := a) (E := b) (i := 3) (by decide) (by omega)
      refine r_aload_n C (j := 0) (oDec_at oX12_bookTold 17 rfl) rfl rfl ?_
      refine r_aload_n C (j := 0) (oDec_at oX12_bookTold 18 rfl) rfl rfl ?_
      refine r_iconst C (oDec_at oX12_bookTold 19 rfl) (v := k2) (by rw [qk2]; rfl) ?_
      refine r_bipush C (oDec_at oX12_bookTold 20 rfl) (v := k12) (by rw [qk12]; rfl) ?_
      have lk140 : ((u9).1 71 5).toInt = (s.1 71 5).toInt := congrArg Int32.toInt ((fu9 71 5 rfl).1)
      have lk141 : ((u9).1 71 5).toInt = (s.1 71 5).toInt := congrArg Int32.toInt ((fu9 71 5 rfl).1)
      have lk142 : ((u9).1 71 6).toInt = (s.1 71 6).toInt := congrArg Int32.toInt ((fu9 71 6 rfl).1)
      have lk143 : ((u9).1 71 5).toInt = (s.1 71 5).toInt := congrArg Int32.toInt ((fu9 71 5 rfl).1)
      have lk144 : ((u9).1 71 6).toInt = (s.1 71 6).toInt := congrArg Int32.toInt ((fu9 71 6 rfl).1)
      refine r_callVi C oCl12 rfl miX12_number mlX12_244 (ct7_X12_number l E (u9) k2 k12 (g) (oqHa g a 3) (oqHa g a 3) (2) (12) (by omega) (oqZ_fr fu9 rfl hp13) (by omega) (by omega) (oqBP_fr fu9 rfl hq1)) (by decide) rfl rfl rfl (Nat.le_of_ble_eq_true rfl) (oDec_at oX12_bookTold 21 rfl) (fun r146 u145 pu145 fu145 => ?_)
      try dsimp only at pu145
      try simp only [lk140, lk141, lk142, lk143, lk144] at pu145
      obtain ⟨pu145_0, pu145_1, pu145_2, pu145_3, pu145_4⟩ := pu145
      have rr146 := n_rng r146
      have hU1 := pu145_1
      have hU0 := pu145_2
      refine r_puti (k := 54) (lo := (-2147483648)) (hi := 2147483647) C oCl12 rfl (by decide) flX12_344 rfl rfl rfl rfl rfl rfl rfl rfl (n_rng _) (oDec_at oX12_bookTold 22 rfl) ?_
      refine r_pc C 43 rfl ?_
      refine r_goto C (tgt := 85) (oDec_at oX12_bookTold 23 rfl) (by decide) ?_
      have lc147 : (((pI u145 71 54 r146)).1 104 2).toInt = (s.1 104 2).toInt := congrArg Int32.toInt (((pI_ne (a := 104) (b := 2) (c := 71) _ _ (Or.inl (by decide)))).trans (((fu145 104 2 rfl).1).trans ((fu9 104 2 rfl).1)))
      have lc148 : (((pI u145 71 54 r146)).1 104 3).toInt = (s.1 104 3).toInt := congrArg Int32.toInt (((pI_ne (a := 104) (b := 3) (c := 71) _ _ (Or.inl (by decide)))).trans (((fu145 104 3 rfl).1).trans ((fu9 104 3 rfl).1)))
      have lk149 : (((pI u145 71 54 r146)).1 71 2).toInt = (u145.1 71 2).toInt := congrArg Int32.toInt ((pI_ne (a := 71) (b := 2) (c := 71) (k := 54) _ _ (Or.inr (by decide))))
      have lk150 : (((pI u145 71 54 r146)).1 71 4).toInt = (u145.1 71 4).toInt := congrArg Int32.toInt ((pI_ne (a := 71) (b := 4) (c := 71) (k := 54) _ _ (Or.inr (by decide))))
      have lk151 : (((pI u145 71 54 r146)).1 71 5).toInt = (u145.1 71 5).toInt := congrArg Int32.toInt ((pI_ne (a := 71) (b := 5) (c := 71) (k := 54) _ _ (Or.inr (by decide))))
      have lk152 : (((pI u145 71 54 r146)).1 71 48).toInt = (s.1 71 48).toInt := congrArg Int32.toInt (((pI_ne (a := 71) (b := 48) (c := 71) (k := 54) _ _ (Or.inr (by decide)))).trans (((fu145 71 48 rfl).1).trans ((fu9 71 48 rfl).1)))
      have lk153 : (((pI u145 71 54 r146)).1 71 47).toInt = (s.1 71 47).toInt := congrArg Int32.toInt (((pI_ne (a := 71) (b := 47) (c := 71) (k := 54) _ _ (Or.inr (by decide)))).trans (((fu145 71 47 rfl).1).trans ((fu9 71 47 rfl).1)))
      have lk154 : (((pI u145 71 54 r146)).1 71 6).toInt = (u145.1 71 6).toInt := congrArg Int32.toInt ((pI_ne (a := 71) (b := 6) (c := 71) (k := 54) _ _ (Or.inr (by decide))))
      have lk155 : (((pI u145 71 54 r146)).1 71 37).toInt = v4.toInt := congrArg Int32.toInt (((pI_ne (a := 71) (b := 37) (c := 71) (k := 54) _ _ (Or.inr (by decide)))).trans (((fu145 71 37 rfl).1).trans (((fu9 71 37 rfl).1).trans (ev4))))
      obtain ⟨A, hA⟩ : ∃ z : Int, z = (((pI u145 71 54 r146)).1 71 2).toInt := ⟨_, rfl⟩
      try (have hMT5 := pu145_4)
      try (have hMTK := pu145_5)
      try (have hMTV := pu145_6)
      try (have hMTN := pu145_7)
      try (have hMTC := pu145_8)
      refine r_aload_n C (j := 0) (oDec_at oX12_bookTold 43 rfl) rfl rfl ?_
      refine r_bipush C (oDec_at oX12_bookTold 44 rfl) (v := k59) (by rw [qk59]; rfl) ?_
      have lk156 : (((pI u145 71 54 r146)).1 71 5).toInt = (u145.1 71 5).toInt := congrArg Int32.toInt ((pI_ne (a := 71) (b := 5) (c := 71) (k := 54) _ _ (Or.inr (by decide))))
      have lk157 : (((pI u145 71 54 r146)).1 71 2).toInt = (u145.1 71 2).toInt := congrArg Int32.toInt ((pI_ne (a := 71) (b := 2) (c := 71) (k := 54) _ _ (Or.inr (by decide))))
      have lk158 : (((pI u145 71 54 r146)).1 71 5).toInt = (u145.1 71 5).toInt := congrArg Int32.toInt ((pI_ne (a := 71) (b := 5) (c := 71) (k := 54) _ _ (Or.inr (by decide))))
      have lk159 : (((pI u145 71 54 r146)).1 71 6).toInt = (u145.1 71 6).toInt := congrArg Int32.toInt ((pI_ne (a := 71) (b := 6) (c := 71) (k := 54) _ _ (Or.inr (by decide))))
      have lk160 : (((pI u145 71 54 r146)).1 71 5).toInt = (u145.1 71 5).toInt := congrArg Int32.toInt ((pI_ne (a := 71) (b := 5) (c := 71) (k := 54) _ _ (Or.inr (by decide))))
      have lk161 : (((pI u145 71 54 r146)).1 71 6).toInt = (u145.1 71 6).toInt := congrArg Int32.toInt ((pI_ne (a := 71) (b := 6) (c := 71) (k := 54) _ _ (Or.inr (by decide))))
      have lk162 : (((pI u145 71 54 r146)).1 71 2).toInt = (u145.1 71 2).toInt := congrArg Int32.toInt ((pI_ne (a := 71) (b := 2) (c := 71) (k := 54) _ _ (Or.inr (by decide))))
      have lk163 : (((pI u145 71 54 r146)).1 71 5).toInt = (u145.1 71 5).toInt := congrArg Int32.toInt ((pI_ne (a := 71) (b := 5) (c := 71) (k := 54) _ _ (Or.inr (by decide))))
      refine r_callVv C oCl12 rfl miX12_asksSign mlX12_248 (ct7_X12_asksSign l E ((pI u145 71 54 r146)) k59 (g) (A) (59) (by omega) (oqZ_fr (oFr_oneI (q := 12) (m := 54) rfl (by rfl)) rfl (oqZ_fr fu145 rfl (oqZ_fr fu9 rfl hp13))) (by omega) (by omega) (oqBP_fr (oFr_oneI (q := 12) (m := 54) rfl (by rfl)) rfl pu145_4)) (by decide) rfl rfl rfl (Nat.le_of_ble_eq_true rfl) (oDec_at oX12_bookTold 45 rfl) (fun u164 pu164 fu164 => ?_)
      try dsimp only at pu164
      try simp only [lk156, lk157, lk158, lk159, lk160, lk161, lk162, lk163] at pu164
      obtain ⟨pu164_0, pu164_1, pu164_2, pu164_3, pu164_4⟩ := pu164
      have lc166 : ((u164).1 104 2).toInt = (s.1 104 2).toInt := congrArg Int32.toInt (((fu164 104 2 rfl).1).trans (((pI_ne (a := 104) (b := 2) (c := 71) _ _ (Or.inl (by decide)))).trans (((fu145 104 2 rfl).1).trans ((fu9 104 2 rfl).1))))
      have lc167 : ((u164).1 104 3).toInt = (s.1 104 3).toInt := congrArg Int32.toInt (((fu164 104 3 rfl).1).trans (((pI_ne (a := 104) (b := 3) (c := 71) _ _ (Or.inl (by decide)))).trans (((fu145 104 3 rfl).1).trans ((fu9 104 3 rfl).1))))
      have lk168 : ((u164).1 71 4).toInt = (u145.1 71 4).toInt := congrArg Int32.toInt (((fu164 71 4 rfl).1).trans ((pI_ne (a := 71) (b := 4) (c := 71) (k := 54) _ _ (Or.inr (by decide)))))
      have lk169 : ((u164).1 71 48).toInt = (s.1 71 48).toInt := congrArg Int32.toInt (((fu164 71 48 rfl).1).trans (((pI_ne (a := 71) (b := 48) (c := 71) (k := 54) _ _ (Or.inr (by decide)))).trans (((fu145 71 48 rfl).1).trans ((fu9 71 48 rfl).1))))
      have lk170 : ((u164).1 71 47).toInt = (s.1 71 47).toInt := congrArg Int32.toInt (((fu164 71 47 rfl).1).trans (((pI_ne (a := 71) (b := 47) (c := 71) (k := 54) _ _ (Or.inr (by decide)))).trans (((fu145 71 47 rfl).1).trans ((fu9 71 47 rfl).1))))
      have lk171 : ((u164).1 71 37).toInt = v4.toInt := congrArg Int32.toInt (((fu164 71 37 rfl).1).trans (((pI_ne (a := 71) (b := 37) (c := 71) (k := 54) _ _ (Or.inr (by decide)))).trans (((fu145 71 37 rfl).1).trans (((fu9 71 37 rfl).1).trans (ev4)))))
      try (have hbs := oqBs_3 (g := g) (a := a) (b := b) (R := R) (M := M) (N := N) hW3)
      try (have hbs := oqBs_4 (g := g) (a := a) (b := b) (R := R) (M := M) (N := N) hW4)
      try (have hbs := oqBs_5 (g := g) (a := a) (b := b) (R := R) (M := M) (N := N) hW5)
      have hF : ((((u164).1 71 5).toInt = 0 → oqBk g a b R M N = 0 ∧ ((u164).1 71 2).toInt = oqBa g a b ∧ ((u164).1 71 4).toInt = oqBb g a b) ∧ (((u164).1 71 5).toInt ≠ 0 → oqBk g a b R M N ≠ 0 ∧ ((u164).1 71 5).toInt = oqBk g a b R M N ∧ ((u164).1 71 6).toInt = oqBp g a b R M N)) := by first | exact oqBt_m (g := g) (a := a) (b := b) (R := R) (M := M) (N := N) (bs := (((pI u145 71 54 r146)).1 71 5).toInt) (ps := (((pI u145 71 54 r146)).1 71 6).toInt) (as := A) (es := (((pI u145 71 54 r146)).1 71 4).toInt) hW3 (fun h9 => by have h8 := hU1 (by omega); omega) (fun h9 => by have h8 := hU0 (by omega); omega) (fun h9 => by have h8 := pu164_0 h9; omega) (fun h9 => by have h8 := pu164_1 h9; omega) | exact (by by_cases hR : R < 12; exact oqBt_r (g := g) (a := a) (b := b) (R := R) (M := M) (N := N) hW4 hR (oqVs_59 (a := A) (hRT1 hR) (by omega) (fun h9 => pu164_3 (by omega)) (fun h9 => by have h8 := pu164_0 h9; omega) (fun h9 => by have h8 := pu164_1 h9; omega)); (have h5 := hRT5 (by omega); exact oqBt_x (oqB_r5 (g := g) (a := a) (b := b) (R := R) (M := M) (N := N) hW4 (by omega)).1 (oqB_r5 (g := g) (a := a) (b := b) (R := R) (M := M) (N := N) hW4 (by omega)).2 (by omega) (by omega) (by omega))) | exact (by by_cases hM : M < 6; (by_cases hk : oqMk g (oqHa g a 5) N M = 0; exact oqBt_o (g := g) (a := a) (b := b) (R := R) (M := M) (N := N) hW5 hM hk (oqVs_59 (a := A) (hMTV hM hk) (by omega) (fun h9 => pu164_3 (by omega)) (fun h9 => by have h8 := pu164_0 h9; omega) (fun h9 => by have h8 := pu164_1 h9; omega)); (have h8 := hMTK hM hk; have e9 := oqB_on (g := g) (a := a) (b := b) (R := R) (M := M) (N := N) hW5 hM (by rw [oqBh_i (i := 5) hW5]; exact hk); rw [oqBh_i (i := 5) hW5] at e9; exact oqBt_x e9.1 e9.2 hk (by omega) (by omega))); (have h5 := hMT5 (by omega); exact oqBt_x (oqB_o5 (g := g) (a := a) (b := b) (R := R) (M := M) (N := N) hW5 (by omega)).1 (oqB_o5 (g := g) (a := a) (b := b) (R := R) (M := M) (N := N) hW5 (by omega)).2 (by omega) (by omega) (by omega))) | exact oqBt_x (oqB_w (g := g) (a := a) (b := b) (R := R) (M := M) (N := N) ⟨hz3, hz4, oqWi_w (i := 5) (by decide) (by omega)⟩).1 (oqB_w (g := g) (a := a) (b := b) (R := R) (M := M) (N := N) ⟨hz3, hz4, oqWi_w (i := 5) (by decide) (by omega)⟩).2 (by omega) (by omega) (by omega)
      have hN91 : ((u164).1 71 5).toInt = 0 → oqNR (oqBN g a b N M) (oqBM g a b M) (u164) := by first | (intro h9; exfalso; omega) | (intro h9; rw [hbs.2.2, hbs.2.1]; exact (oqNR_fr fu164 rfl (oqNR_fr (oFr_oneI (q := 12) (m := 54) rfl (by rfl)) rfl (oqNR_fr fu145 rfl (oqNR_fr fu9 rfl hp10))))) | (intro h9; rw [hbs.2.2, hbs.2.1, oqBh_i (i := 5) hW5]; exact oqNR_fr fu164 rfl (hMTN (by omega)))
      have hbp : ((u164).1 71 5).toInt = 0 → ((u164).1 71 6).toInt = -1 := pu164_4
      try (clear hMT5)
      try (clear hMTK)
      try (clear hMTV)
      try (clear hMTN)
      try (clear hRT1)
      try (clear hRT5)
      try (clear hU1)
      try (clear hU0)
      try (clear pu164_0)
      try (clear pu164_1)
      try (clear pu164_3)
      refine r_aload_n C (j := 0) (oDec_at oX12_bookTold 46 rfl) rfl rfl ?_
      refine r_dup C (oDec_at oX12_bookTold 47 rfl) rfl ?_
      refine r_geti (k := 37) (lo := 0) (hi := 60) C v4 oCl12 rfl (by decide) flX12_231 rfl rfl (((fu164 71 37 rfl).1).trans (((pI_ne (a := 71) (b := 37) (c := 71) (k := 54) _ _ (Or.inr (by decide)))).trans (((fu145 71 37 rfl).1).trans (((fu9 71 37 rfl).1).trans (ev4))))) rfl rfl (oDec_at oX12_bookTold 48 rfl) (fun _ _ => ?_)
      refine r_pc C 96 rfl ?_
      refine r_iconst C (oDec_at oX12_bookTold 49 rfl) (v := k1) (by rw [qk1]; rfl) ?_
      obtain ⟨v172, ev172⟩ : ∃ z : Int32, z = v4 + k1 := ⟨_, rfl⟩
      have hv172 : v172.toInt = v4.toInt + k1.toInt := n_add ev172 (by omega) (by omega)
      refine r_iadd C v172 (oDec_at oX12_bookTold 50 rfl) ev172 ?_
      refine r_puti (k := 37) (lo := 0) (hi := 60) C oCl12 rfl (by decide) flX12_231 rfl rfl rfl rfl rfl rfl rfl rfl ⟨by omega, by omega⟩ (oDec_at oX12_bookTold 51 rfl) ?_
      have lk173 : (((pI u164 71 37 v172)).1 71 6).toInt = (u164.1 71 6).toInt := congrArg Int32.toInt ((pI_ne (a := 71) (b := 6) (c := 71) (k := 37) _ _ (Or.inr (by decide))))
      have lk174 : (((pI u164 71 37 v172)).1 71 5).toInt = (u164.1 71 5).toInt := congrArg Int32.toInt ((pI_ne (a := 71) (b := 5) (c := 71) (k := 37) _ _ (Or.inr (by decide))))
      have lk175 : (((pI u164 71 37 v172)).1 71 5).toInt = (u164.1 71 5).toInt := congrArg Int32.toInt ((pI_ne (a := 71) (b := 5) (c := 71) (k := 37) _ _ (Or.inr (by decide))))
      have lk176 : (((pI u164 71 37 v172)).1 71 45).toInt = (s.1 71 45).toInt := congrArg Int32.toInt (((pI_ne (a := 71) (b := 45) (c := 71) (k := 37) _ _ (Or.inr (by decide)))).trans (((fu164 71 45 rfl).1).trans (((pI_ne (a := 71) (b := 45) (c := 71) (k := 54) _ _ (Or.inr (by decide)))).trans (((fu145 71 45 rfl).1).trans ((fu9 71 45 rfl).1)))))
      have lk177 : (((pI u164 71 37 v172)).1 71 2).toInt = (u164.1 71 2).toInt := congrArg Int32.toInt ((pI_ne (a := 71) (b := 2) (c := 71) (k := 37) _ _ (Or.inr (by decide))))
      have lk178 : (((pI u164 71 37 v172)).1 71 54).toInt = r146.toInt := congrArg Int32.toInt (((pI_ne (a := 71) (b := 54) (c := 71) (k := 37) _ _ (Or.inr (by decide)))).trans (((fu164 71 54 rfl).1).trans ((pI_self _ _ _ _))))
      have lk179 : (((pI u164 71 37 v172)).1 71 37).toInt = v172.toInt := congrArg Int32.toInt ((pI_self _ _ _ _))
      have lk180 : (((pI u164 71 37 v172)).1 71 37).toInt = v172.toInt := congrArg Int32.toInt ((pI_self _ _ _ _))
      have lc181 : (((pI u164 71 37 v172)).1 104 3).toInt = (s.1 104 3).toInt := congrArg Int32.toInt (((pI_ne (a := 104) (b := 3) (c := 71) _ _ (Or.inl (by decide)))).trans (((fu164 104 3 rfl).1).trans (((pI_ne (a := 104) (b := 3) (c := 71) _ _ (Or.inl (by decide)))).trans (((fu145 104 3 rfl).1).trans ((fu9 104 3 rfl).1)))))
      have lk182 : (((pI u164 71 37 v172)).1 71 5).toInt = (u164.1 71 5).toInt := congrArg Int32.toInt ((pI_ne (a := 71) (b := 5) (c := 71) (k := 37) _ _ (Or.inr (by decide))))
      have lk183 : (((pI u164 71 37 v172)).1 71 6).toInt = (u164.1 71 6).toInt := congrArg Int32.toInt ((pI_ne (a := 71) (b := 6) (c := 71) (k := 37) _ _ (Or.inr (by decide))))
      have lc184 : (((pI u164 71 37 v172)).1 104 2).toInt = (s.1 104 2).toInt := congrArg Int32.toInt (((pI_ne (a := 104) (b := 2) (c := 71) _ _ (Or.inl (by decide)))).trans (((fu164 104 2 rfl).1).trans (((pI_ne (a := 104) (b := 2) (c := 71) _ _ (Or.inl (by decide)))).trans (((fu145 104 2 rfl).1).trans ((fu9 104 2 rfl).1)))))
      have lc185 : (((pI u164 71 37 v172)).1 104 3).toInt = (s.1 104 3).toInt := congrArg Int32.toInt (((pI_ne (a := 104) (b := 3) (c := 71) _ _ (Or.inl (by decide)))).trans (((fu164 104 3 rfl).1).trans (((pI_ne (a := 104) (b := 3) (c := 71) _ _ (Or.inl (by decide)))).trans (((fu145 104 3 rfl).1).trans ((fu9 104 3 rfl).1)))))
      have lk186 : (((pI u164 71 37 v172)).1 71 5).toInt = (u164.1 71 5).toInt := congrArg Int32.toInt ((pI_ne (a := 71) (b := 5) (c := 71) (k := 37) _ _ (Or.inr (by decide))))
      have lk187 : (((pI u164 71 37 v172)).1 71 2).toInt = (u164.1 71 2).toInt := congrArg Int32.toInt ((pI_ne (a := 71) (b := 2) (c := 71) (k := 37) _ _ (Or.inr (by decide))))
      have lk188 : (((pI u164 71 37 v172)).1 71 4).toInt = (u145.1 71 4).toInt := congrArg Int32.toInt (((pI_ne (a := 71) (b := 4) (c := 71) (k := 37) _ _ (Or.inr (by decide)))).trans (((fu164 71 4 rfl).1).trans ((pI_ne (a := 71) (b := 4) (c := 71) (k := 54) _ _ (Or.inr (by decide))))))
      have lk189 : (((pI u164 71 37 v172)).1 71 6).toInt = (u164.1 71 6).toInt := congrArg Int32.toInt ((pI_ne (a := 71) (b := 6) (c := 71) (k := 37) _ _ (Or.inr (by decide))))
      have lk190 : (((pI u164 71 37 v172)).1 71 5).toInt = (u164.1 71 5).toInt := congrArg Int32.toInt ((pI_ne (a := 71) (b := 5) (c := 71) (k := 37) _ _ (Or.inr (by decide))))
      have lk191 : (((pI u164 71 37 v172)).1 71 6).toInt = (u164.1 71 6).toInt := congrArg Int32.toInt ((pI_ne (a := 71) (b := 6) (c := 71) (k := 37) _ _ (Or.inr (by decide))))
      have lk192 : (((pI u164 71 37 v172)).1 71 5).toInt = (u164.1 71 5).toInt := congrArg Int32.toInt ((pI_ne (a := 71) (b := 5) (c := 71) (k := 37) _ _ (Or.inr (by decide))))
      exact r_vret C (oDec_at oX12_bookTold 52 rfl) ⟨rfl, ⟨(oBB_fr (oFr_oneI (q := 12) (m := 37) rfl (by rfl)) rfl (oBB_frb fu164 rfl (by omega) (oBB_fr (oFr_oneI (q := 12) (m := 54) rfl (by rfl)) rfl (oBB_frb fu145 rfl (by omega) (oBB_fr fu9 rfl hp0))))), by omega, by omega, by omega, by omega, by omega, by omega, fun _ h9 => oqNR_fr (oFr_oneI (q := 12) (m := 37) rfl (by rfl)) rfl (hN91 (by omega))⟩⟩
  · skip
    refine r_aload_n C (j := 0) (oDec_at oX12_bookTold 7 rfl) rfl rfl ?_
    refine r_iconst C (oDec_at oX12_bookTold 8 rfl) (v := k5) (by rw [qk5]; rfl) ?_
    refine r_iload_n C (j := 1) (oDec_at oX12_bookTold 9 rfl) rfl rfl ?_
    refine r_callVv C oCl12 rfl miX12_fail mlX12_203 (ct7_X12_fail l E (s) k5 v2 (by omega) hq1) (by decide) rfl rfl rfl (Nat.le_of_ble_eq_true rfl) (oDec_at oX12_bookTold 10 rfl) (fun u193 pu193 fu193 => ?_)
    try dsimp only at pu193
    obtain ⟨pu193_0, pu193_1, pu193_2⟩ := pu193
    have lk195 : ((u193).1 71 45).toInt = (s.1 71 45).toInt := congrArg Int32.toInt ((fu193 71 45 rfl).1)
    have lk196 : ((u193).1 71 2).toInt = v2.toInt := congrArg Int32.toInt (((fu193 71 2 rfl).1).trans (ev2))
    have lk197 : ((u193).1 71 54).toInt = (s.1 71 54).toInt := congrArg Int32.toInt ((fu193 71 54 rfl).1)
    have lk198 : ((u193).1 71 37).toInt = v4.toInt := congrArg Int32.toInt (((fu193 71 37 rfl).1).trans (ev4))
    have lk199 : ((u193).1 71 37).toInt = v4.toInt := congrArg Int32.toInt (((fu193 71 37 rfl).1).trans (ev4))
    have lc200 : ((u193).1 104 3).toInt = (s.1 104 3).toInt := congrArg Int32.toInt ((fu193 104 3 rfl).1)
    have lc201 : ((u193).1 104 2).toInt = (s.1 104 2).toInt := congrArg Int32.toInt ((fu193 104 2 rfl).1)
    have lc202 : ((u193).1 104 3).toInt = (s.1 104 3).toInt := congrArg Int32.toInt ((fu193 104 3 rfl).1)
    have lk203 : ((u193).1 71 2).toInt = v2.toInt := congrArg Int32.toInt (((fu193 71 2 rfl).1).trans (ev2))
    have lk204 : ((u193).1 71 4).toInt = (s.1 71 4).toInt := congrArg Int32.toInt ((fu193 71 4 rfl).1)
    exact r_vret C (oDec_at oX12_bookTold 11 rfl) ⟨rfl, ⟨(oBB_frb fu193 rfl (by omega) hp0), by omega, by omega, by omega, by omega, by omega, by omega, fun h9 => by exfalso; omega⟩⟩
