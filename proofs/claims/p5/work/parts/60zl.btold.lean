set_option maxHeartbeats 4000000 in
set_option maxRecDepth 100000 in
theorem ct7_X12_bookTold (l : Launch) (E : oE) (s : oS)  (g : Int → Int) (a : Int) (b : Int) (R : Int) (M : Int) (N : Nat → Nat → Int) (hp0 : oBB s) (hp1 : (s.1 71 5).toInt = 0) (hp2 : (s.1 71 45).toInt ≤ (s.1 71 2).toInt) (hp3 : (s.1 104 3).toInt ≤ 6) (hp4 : (s.1 71 5).toInt = 0 → (2 ≤ (s.1 71 54).toInt ∧ (s.1 71 54).toInt ≤ 12)) (hp5 : (s.1 71 2).toInt = a) (hp6 : (s.1 71 4).toInt = b) (hp7 : oqSk g a = a) (hp8 : (s.1 104 2).toInt = R) (hp9 : (s.1 104 3).toInt = M) (hp10 : oqNR N M s) (hp11 : (s.1 71 6).toInt = -1) (hp12 : 0 ≤ R ∧ R ≤ 12 ∧ 0 ≤ M ∧ M ≤ 6) (hp13 : oqZ g s) (hp14 : oqWd s) : oMet l 11 yX12_bookTold cX12_bookTold 2 none [(12, 2), (12, 4), (12, 5), (12, 6), (12, 9), (12, 36), (12, 37), (12, 45), (12, 47), (12, 48), (12, 54), (12, 55), (12, 56), (78, 9999), (79, 9999), (80, 9999), (81, 9999), (82, 9999), (83, 9999)] E s [.ref (oad E 71)] (oPv (fun u => (oBB u) ∧ ((u.1 71 5).toInt = 0 → ((u.1 71 45).toInt ≤ (u.1 71 2).toInt ∧ 2 ≤ (u.1 71 54).toInt ∧ (u.1 71 54).toInt ≤ 12 ∧ (u.1 71 37).toInt = (s.1 71 37).toInt + 1)) ∧ ((s.1 71 37).toInt ≤ (u.1 71 37).toInt) ∧ ((u.1 104 3).toInt ≤ 6) ∧ ((s.1 71 37).toInt = 60 → ((u.1 71 5).toInt = 5 ∧ (u.1 71 6).toInt = a)) ∧ ((s.1 71 37).toInt < 60 → (u.1 71 5).toInt = 0 → (oqBk g a b R M N = 0 ∧ (u.1 71 2).toInt = oqBa g a b ∧ (u.1 71 4).toInt = oqBb g a b ∧ (u.1 71 6).toInt = -1 ∧ (u.1 104 2).toInt = oqBR g a b R ∧ (u.1 104 3).toInt = oqBM g a b M)) ∧ ((s.1 71 37).toInt < 60 → (u.1 71 5).toInt ≠ 0 → (oqBk g a b R M N ≠ 0 ∧ (u.1 71 5).toInt = oqBk g a b R M N ∧ (u.1 71 6).toInt = oqBp g a b R M N)) ∧ ((s.1 71 37).toInt < 60 → (u.1 71 5).toInt = 0 → oqNR (oqBN g a b N M) (oqBM g a b M) u))) := by
  refine oMet.of (lv := [(0, .ref (oad E 71))]) (by decide +kernel) (Nat.le_of_ble_eq_true rfl) rfl (fun J C hT => ?_)
  have C : oC l 11 cX12_bookTold RX12 2 none [(12, 2), (12, 4), (12, 5), (12, 6), (12, 9), (12, 36), (12, 37), (12, 45), (12, 47), (12, 48), (12, 54), (12, 55), (12, 56), (78, 9999), (79, 9999), (80, 9999), (81, 9999), (82, 9999), (83, 9999)] E s (oPv (fun u => (oBB u) ∧ ((u.1 71 5).toInt = 0 → ((u.1 71 45).toInt ≤ (u.1 71 2).toInt ∧ 2 ≤ (u.1 71 54).toInt ∧ (u.1 71 54).toInt ≤ 12 ∧ (u.1 71 37).toInt = (s.1 71 37).toInt + 1)) ∧ ((s.1 71 37).toInt ≤ (u.1 71 37).toInt) ∧ ((u.1 104 3).toInt ≤ 6) ∧ ((s.1 71 37).toInt = 60 → ((u.1 71 5).toInt = 5 ∧ (u.1 71 6).toInt = a)) ∧ ((s.1 71 37).toInt < 60 → (u.1 71 5).toInt = 0 → (oqBk g a b R M N = 0 ∧ (u.1 71 2).toInt = oqBa g a b ∧ (u.1 71 4).toInt = oqBb g a b ∧ (u.1 71 6).toInt = -1 ∧ (u.1 104 2).toInt = oqBR g a b R ∧ (u.1 104 3).toInt = oqBM g a b M)) ∧ ((s.1 71 37).toInt < 60 → (u.1 71 5).toInt ≠ 0 → (oqBk g a b R M N ≠ 0 ∧ (u.1 71 5).toInt = oqBk g a b R M N ∧ (u.1 71 6).toInt = oqBp g a b R M N)) ∧ ((s.1 71 37).toInt < 60 → (u.1 71 5).toInt = 0 → oqNR (oqBN g a b N M) (oqBM g a b M) u))) J := C
  obtain ⟨k1, qk1⟩ : ∃ z : Int32, z = 1 := ⟨_, rfl⟩
  have ek1 : k1.toInt = 1 := by rw [qk1]; rfl
  obtain ⟨k2, qk2⟩ : ∃ z : Int32, z = 2 := ⟨_, rfl⟩
  have ek2 : k2.toInt = 2 := by rw [qk2]; rfl
  obtain ⟨k5, qk5⟩ : ∃ z : Int32, z = 5 := ⟨_, rfl⟩
  have ek5 : k5.toInt = 5 := by rw [qk5]; rfl
  obtain ⟨k12, qk12⟩ : ∃ z : Int32, z = 12 := ⟨_, rfl⟩
  have ek12 : k12.toInt = 12 := by rw [qk12]; rfl
  obtain ⟨k59, qk59⟩ : ∃ z : Int32, z = 59 := ⟨_, rfl⟩
  have ek59 : k59.toInt = 59 := by rw [qk59]; rfl
  obtain ⟨k60, qk60⟩ : ∃ z : Int32, z = 60 := ⟨_, rfl⟩
  have ek60 : k60.toInt = 60 := by rw [qk60]; rfl
  have htz_coded : (0 : Int) ≤ (s.1 71 45).toInt ∧ (s.1 71 45).toInt ≤ 1600 := hT.1 71 45
  have htz_at : (0 : Int) ≤ (s.1 71 2).toInt ∧ (s.1 71 2).toInt ≤ 1600 := hT.1 71 2
  have htz_statements : (0 : Int) ≤ (s.1 71 37).toInt ∧ (s.1 71 37).toInt ≤ 60 := hT.1 71 37
  have hmt := hp4 (by omega)
  clear hp4
  have hHa3 : oqHa g a 3 = oqSk g a + (oqWl 3 : Int) := rfl
  have hHa4 : oqHa g a 4 = oqSk g a + (oqWl 4 : Int) := rfl
  have hHa5 : oqHa g a 5 = oqSk g a + (oqWl 5 : Int) := rfl
  have hl3 : oqWl 3 = 7 := rfl
  have hl4 : oqWl 4 = 3 := rfl
  have hl5 : oqWl 5 = 5 := rfl
  have hq1 : oqBP (s) := fun _ => by omega
  refine r_aload_n C (j := 0) (oDec_at oX12_bookTold 0 rfl) rfl rfl ?_
  obtain ⟨v2, ev2⟩ : ∃ z : Int32, (s).1 71 2 = z := ⟨_, rfl⟩
  have gv2 : (s.1 71 2).toInt = v2.toInt := congrArg Int32.toInt (ev2)
  refine r_geti (k := 2) (lo := 0) (hi := 1600) C v2 oCl12 rfl (by decide) flX12_179 rfl rfl (ev2) rfl rfl (oDec_at oX12_bookTold 1 rfl) (fun b3 b3h => ?_)
  refine r_istore_n C (lv' := [(0, .ref (oad E 71)), (1, .int v2)]) [1, 0] (oDec_at oX12_bookTold 2 rfl) rfl (by decide) rfl ?_
  refine r_aload_n C (j := 0) (oDec_at oX12_bookTold 3 rfl) rfl rfl ?_
  obtain ⟨v4, ev4⟩ : ∃ z : Int32, (s).1 71 37 = z := ⟨_, rfl⟩
  have gv4 : (s.1 71 37).toInt = v4.toInt := congrArg Int32.toInt (ev4)
  refine r_geti (k := 37) (lo := 0) (hi := 60) C v4 oCl12 rfl (by decide) flX12_231 rfl rfl (ev4) rfl rfl (oDec_at oX12_bookTold 4 rfl) (fun b5 b5h => ?_)
  refine r_bipush C (oDec_at oX12_bookTold 5 rfl) (v := k60) (by rw [qk60]; rfl) ?_
  refine r_pc C 11 rfl ?_
  refine r_icmp_ne C 21 (oDec_at oX12_bookTold 6 rfl) (by decide) (fun cd6 => ?_) (fun cd6 => ?_)
  · skip
    refine r_aload_n C (j := 0) (oDec_at oX12_bookTold 12 rfl) rfl rfl ?_
    refine r_aload_n C (j := 0) (oDec_at oX12_bookTold 13 rfl) rfl rfl ?_
    refine r_getF (k := 13) (b := 76) C oCl12 rfl (by decide) flX12_27 rfl rfl rfl (oDec_at oX12_bookTold 14 rfl) ?_
    have lk7 : ((s).1 71 2).toInt = v2.toInt := congrArg Int32.toInt (ev2)
    have lk8 : ((s).1 71 2).toInt = v2.toInt := congrArg Int32.toInt (ev2)
    refine r_callVi C oCl12 rfl miX12_takes mlX12_200 (ct6_X12_takes l E (s) 76 52 7 rfl (by decide) (by decide) rfl rfl (g) (a) (b) (3) (by omega) (by omega) hp13 (by omega) (by omega) rfl (oqWd_at hp14 3 (by decide)) (by omega)) (by decide) rfl rfl rfl (Nat.le_of_ble_eq_true rfl) (oDec_at oX12_bookTold 15 rfl) (fun r10 u9 pu9 fu9 => ?_)
    try dsimp only at pu9
    try simp only [lk7, lk8] at pu9
    obtain ⟨pu9_0, pu9_1, pu9_2, pu9_3, pu9_4⟩ := pu9
    have rr10 := n_rng r10
    refine r_if_eq C 46 (oDec_at oX12_bookTold 16 rfl) (by decide) (fun cd11 => ?_) (fun cd11 => ?_)
    · skip
      clear pu9_1
      replace pu9_2 := pu9_2 (by omega)
      have hz3 := oqWi_w (g := g) (A := a) (E := b) (i := 3) (by decide) (by omega)
      refine r_aload_n C (j := 0) (oDec_at oX12_bookTold 24 rfl) rfl rfl ?_
      refine r_aload_n C (j := 0) (oDec_at oX12_bookTold 25 rfl) rfl rfl ?_
      refine r_getF (k := 14) (b := 77) C oCl12 rfl (by decide) flX12_30 rfl rfl rfl (oDec_at oX12_bookTold 26 rfl) ?_
      have lk12 : ((u9).1 71 5).toInt = (s.1 71 5).toInt := congrArg Int32.toInt ((fu9 71 5 rfl).1)
      refine r_callVi C oCl12 rfl miX12_takes mlX12_200 (ct6_X12_takes l E (u9) 77 53 3 rfl (by decide) (by decide) rfl rfl (g) (a) (b) (4) (by omega) (by omega) (oqZ_fr fu9 rfl hp13) (by omega) (by omega) rfl (oqWd_at (oqWd_fr fu9 rfl hp14) 4 (by decide)) (by omega)) (by decide) rfl rfl rfl (Nat.le_of_ble_eq_true rfl) (oDec_at oX12_bookTold 27 rfl) (fun r14 u13 pu13 fu13 => ?_)
      try dsimp only at pu13
      try simp only [lk12] at pu13
      obtain ⟨pu13_0, pu13_1, pu13_2, pu13_3, pu13_4⟩ := pu13
      have rr14 := n_rng r14
      refine r_if_eq C 65 (oDec_at oX12_bookTold 28 rfl) (by decide) (fun cd15 => ?_) (fun cd15 => ?_)
      · skip
        clear pu13_1
        replace pu13_2 := pu13_2 (by omega)
        have hz4 := oqWi_w (g := g) (A := a) (E := b) (i := 4) (by decide) (by omega)
        refine r_aload_n C (j := 0) (oDec_at oX12_bookTold 33 rfl) rfl rfl ?_
        refine r_aload_n C (j := 0) (oDec_at oX12_bookTold 34 rfl) rfl rfl ?_
        refine r_getF (k := 15) (b := 78) C oCl12 rfl (by decide) flX12_33 rfl rfl rfl (oDec_at oX12_bookTold 35 rfl) ?_
        have lk16 : ((u13).1 71 5).toInt = (s.1 71 5).toInt := congrArg Int32.toInt (((fu13 71 5 rfl).1).trans ((fu9 71 5 rfl).1))
        have lk17 : ((u13).1 71 5).toInt = (s.1 71 5).toInt := congrArg Int32.toInt (((fu13 71 5 rfl).1).trans ((fu9 71 5 rfl).1))
        have lk18 : ((u13).1 71 6).toInt = (s.1 71 6).toInt := congrArg Int32.toInt (((fu13 71 6 rfl).1).trans ((fu9 71 6 rfl).1))
        have lk19 : ((u13).1 71 5).toInt = (s.1 71 5).toInt := congrArg Int32.toInt (((fu13 71 5 rfl).1).trans ((fu9 71 5 rfl).1))
        have lk20 : ((u13).1 71 6).toInt = (s.1 71 6).toInt := congrArg Int32.toInt (((fu13 71 6 rfl).1).trans ((fu9 71 6 rfl).1))
        refine r_callVv C oCl12 rfl miX12_asks mlX12_240 (ct7_X12_asks l E (u13) 78 54 5 rfl (by decide) (by decide) rfl rfl (g) (a) (b) (5) (by omega) (oqZ_fr fu13 rfl (oqZ_fr fu9 rfl hp13)) (by omega) rfl (oqWd_at (oqWd_fr fu13 rfl (oqWd_fr fu9 rfl hp14)) 5 (by decide)) (by omega) (oqBP_fr fu13 rfl (oqBP_fr fu9 rfl hq1))) (by decide) rfl rfl rfl (Nat.le_of_ble_eq_true rfl) (oDec_at oX12_bookTold 36 rfl) (fun u21 pu21 fu21 => ?_)
        try dsimp only at pu21
        try simp only [lk16, lk17, lk18, lk19, lk20] at pu21
        obtain ⟨pu21_0, pu21_1, pu21_2, pu21_3⟩ := pu21
        refine r_aload_n C (j := 0) (oDec_at oX12_bookTold 37 rfl) rfl rfl ?_
        obtain ⟨v23, ev23⟩ : ∃ z : Int32, (u21).1 71 5 = z := ⟨_, rfl⟩
        have gv23 : (u21.1 71 5).toInt = v23.toInt := congrArg Int32.toInt (ev23)
        have rv23 := n_rng v23
        refine r_geti (k := 5) (lo := (-2147483648)) (hi := 2147483647) C v23 oCl12 rfl (by decide) flX12_173 rfl rfl (ev23) rfl rfl (oDec_at oX12_bookTold 38 rfl) (fun _ _ => ?_)
        refine r_pc C 77 rfl ?_
        refine r_if_ne C 85 (oDec_at oX12_bookTold 39 rfl) (by decide) (fun cd24 => ?_) (fun cd24 => ?_)
        · skip
          have lc25 : ((u21).1 104 2).toInt = (s.1 104 2).toInt := congrArg Int32.toInt (((fu21 104 2 rfl).1).trans (((fu13 104 2 rfl).1).trans ((fu9 104 2 rfl).1)))
          have lc26 : ((u21).1 104 3).toInt = (s.1 104 3).toInt := congrArg Int32.toInt (((fu21 104 3 rfl).1).trans (((fu13 104 3 rfl).1).trans ((fu9 104 3 rfl).1)))
          have lk27 : ((u21).1 71 5).toInt = v23.toInt := congrArg Int32.toInt (ev23)
          have lk28 : ((u21).1 71 48).toInt = (s.1 71 48).toInt := congrArg Int32.toInt (((fu21 71 48 rfl).1).trans (((fu13 71 48 rfl).1).trans ((fu9 71 48 rfl).1)))
          have lk29 : ((u21).1 71 47).toInt = (s.1 71 47).toInt := congrArg Int32.toInt (((fu21 71 47 rfl).1).trans (((fu13 71 47 rfl).1).trans ((fu9 71 47 rfl).1)))
          have lk30 : ((u21).1 71 37).toInt = v4.toInt := congrArg Int32.toInt (((fu21 71 37 rfl).1).trans (((fu13 71 37 rfl).1).trans (((fu9 71 37 rfl).1).trans (ev4))))
          obtain ⟨A, hA⟩ : ∃ z : Int, z = ((u21).1 71 2).toInt := ⟨_, rfl⟩
          try (have hMTO := pu21_1)
          try (have hMT5 := pu21_4)
          try (have hMTK := pu21_5)
          try (have hMTV := pu21_6)
          try (have hMTN := pu21_7)
          try (have hMTC := pu21_8)
          try (clear pu21_1 pu21_4 pu21_5 pu21_6 pu21_7 pu21_8)
          refine r_aload_n C (j := 0) (oDec_at oX12_bookTold 43 rfl) rfl rfl ?_
          refine r_bipush C (oDec_at oX12_bookTold 44 rfl) (v := k59) (by rw [qk59]; rfl) ?_
          have lk31 : ((u21).1 71 5).toInt = v23.toInt := congrArg Int32.toInt (ev23)
          have lk32 : ((u21).1 71 5).toInt = v23.toInt := congrArg Int32.toInt (ev23)
          have lk33 : ((u21).1 71 5).toInt = v23.toInt := congrArg Int32.toInt (ev23)
          have lk34 : ((u21).1 71 5).toInt = v23.toInt := congrArg Int32.toInt (ev23)
          refine r_callVv C oCl12 rfl miX12_asksSign mlX12_248 (ct7_X12_asksSign l E (u21) k59 (g) (A) (59) (by omega) (oqZ_fr fu21 rfl (oqZ_fr fu13 rfl (oqZ_fr fu9 rfl hp13))) (by omega) (by omega) pu21_3) (by decide) rfl rfl rfl (Nat.le_of_ble_eq_true rfl) (oDec_at oX12_bookTold 45 rfl) (fun u35 pu35 fu35 => ?_)
          try dsimp only at pu35
          try simp only [lk31, lk32, lk33, lk34] at pu35
          obtain ⟨pu35_0, pu35_1, pu35_2, pu35_3, pu35_4⟩ := pu35
          have lc37 : ((u35).1 104 2).toInt = (s.1 104 2).toInt := congrArg Int32.toInt (((fu35 104 2 rfl).1).trans (((fu21 104 2 rfl).1).trans (((fu13 104 2 rfl).1).trans ((fu9 104 2 rfl).1))))
          have lc38 : ((u35).1 104 3).toInt = (s.1 104 3).toInt := congrArg Int32.toInt (((fu35 104 3 rfl).1).trans (((fu21 104 3 rfl).1).trans (((fu13 104 3 rfl).1).trans ((fu9 104 3 rfl).1))))
          have lk39 : ((u35).1 71 4).toInt = (u21.1 71 4).toInt := congrArg Int32.toInt ((fu35 71 4 rfl).1)
          have lk40 : ((u35).1 71 48).toInt = (s.1 71 48).toInt := congrArg Int32.toInt (((fu35 71 48 rfl).1).trans (((fu21 71 48 rfl).1).trans (((fu13 71 48 rfl).1).trans ((fu9 71 48 rfl).1))))
          have lk41 : ((u35).1 71 47).toInt = (s.1 71 47).toInt := congrArg Int32.toInt (((fu35 71 47 rfl).1).trans (((fu21 71 47 rfl).1).trans (((fu13 71 47 rfl).1).trans ((fu9 71 47 rfl).1))))
          have lk42 : ((u35).1 71 37).toInt = v4.toInt := congrArg Int32.toInt (((fu35 71 37 rfl).1).trans (((fu21 71 37 rfl).1).trans (((fu13 71 37 rfl).1).trans (((fu9 71 37 rfl).1).trans (ev4)))))
          have lk43 : ((u35).1 71 45).toInt = (s.1 71 45).toInt := congrArg Int32.toInt (((fu35 71 45 rfl).1).trans (((fu21 71 45 rfl).1).trans (((fu13 71 45 rfl).1).trans ((fu9 71 45 rfl).1))))
          have lk44 : ((u35).1 71 54).toInt = (s.1 71 54).toInt := congrArg Int32.toInt (((fu35 71 54 rfl).1).trans (((fu21 71 54 rfl).1).trans (((fu13 71 54 rfl).1).trans ((fu9 71 54 rfl).1))))
          try (have hbs := oqBs_3 (g := g) (a := a) (b := b) (R := R) (M := M) (N := N) hW3)
          try (have hbs := oqBs_4 (g := g) (a := a) (b := b) (R := R) (M := M) (N := N) hW4)
          try (have hbs := oqBs_5 (g := g) (a := a) (b := b) (R := R) (M := M) (N := N) hW5)
          have hF : ((((u35).1 71 5).toInt = 0 → oqBk g a b R M N = 0 ∧ ((u35).1 71 2).toInt = oqBa g a b ∧ ((u35).1 71 4).toInt = oqBb g a b) ∧ (((u35).1 71 5).toInt ≠ 0 → oqBk g a b R M N ≠ 0 ∧ ((u35).1 71 5).toInt = oqBk g a b R M N ∧ ((u35).1 71 6).toInt = oqBp g a b R M N)) := by first | exact oqBt_m (g := g) (a := a) (b := b) (R := R) (M := M) (N := N) (bs := ((u21).1 71 5).toInt) (ps := ((u21).1 71 6).toInt) (as := A) (es := ((u21).1 71 4).toInt) hW3 (fun h9 => by have h8 := hU1 (by omega); omega) (fun h9 => by have h8 := hU0 (by omega); omega) (fun h9 => by have h8 := pu35_0 h9; omega) (fun h9 => by have h8 := pu35_1 h9; omega) | exact (by by_cases hR : R < 12; exact oqBt_r (g := g) (a := a) (b := b) (R := R) (M := M) (N := N) hW4 hR (oqVs_59 (a := A) (hRT1 hR) (by omega) (fun h9 => pu35_3 (by omega)) (fun h9 => by have h8 := pu35_0 h9; omega) (fun h9 => by have h8 := pu35_1 h9; omega)); (have h5 := hRT5 (by omega); exact oqBt_x (oqB_r5 (g := g) (a := a) (b := b) (R := R) (M := M) (N := N) hW4 (by omega)).1 (oqB_r5 (g := g) (a := a) (b := b) (R := R) (M := M) (N := N) hW4 (by omega)).2 (by omega) (by omega) (by omega))) | exact (by by_cases hM : M < 6; (by_cases hk : oqMk g (oqHa g a 5) N M = 0; exact oqBt_o (g := g) (a := a) (b := b) (R := R) (M := M) (N := N) hW5 hM hk (oqVs_59 (a := A) (hMTV hM hk) (by omega) (fun h9 => pu35_3 (by omega)) (fun h9 => by have h8 := pu35_0 h9; omega) (fun h9 => by have h8 := pu35_1 h9; omega)); (have h8 := hMTK hM hk; have e9 := oqB_on (g := g) (a := a) (b := b) (R := R) (M := M) (N := N) hW5 hM (by rw [oqBh_i (i := 5) hW5]; exact hk); rw [oqBh_i (i := 5) hW5] at e9; exact oqBt_x e9.1 e9.2 hk (by omega) (by omega))); (have h5 := hMT5 (by omega); exact oqBt_x (oqB_o5 (g := g) (a := a) (b := b) (R := R) (M := M) (N := N) hW5 (by omega)).1 (oqB_o5 (g := g) (a := a) (b := b) (R := R) (M := M) (N := N) hW5 (by omega)).2 (by omega) (by omega) (by omega))) | exact oqBt_x (oqB_w (g := g) (a := a) (b := b) (R := R) (M := M) (N := N) ⟨hz3, hz4, oqWi_w (i := 5) (by decide) (by omega)⟩).1 (oqB_w (g := g) (a := a) (b := b) (R := R) (M := M) (N := N) ⟨hz3, hz4, oqWi_w (i := 5) (by decide) (by omega)⟩).2 (by omega) (by omega) (by omega)
          have hN91 : ((u35).1 71 5).toInt = 0 → oqNR (oqBN g a b N M) (oqBM g a b M) (u35) := by first | (intro h9; exfalso; omega) | (intro h9; rw [hbs.2.2, hbs.2.1]; exact (oqNR_fr fu35 rfl (oqNR_fr fu21 rfl (oqNR_fr fu13 rfl (oqNR_fr fu9 rfl hp10))))) | (intro h9; rw [hbs.2.2, hbs.2.1, oqBh_i (i := 5) hW5]; exact oqNR_fr fu35 rfl (hMTN (by omega)))
          have hbp : ((u35).1 71 5).toInt = 0 → ((u35).1 71 6).toInt = -1 := pu35_4
          have hA91 : ((u35).1 71 5).toInt = 0 → ((u35).1 71 45).toInt ≤ ((u35).1 71 2).toInt ∧ 2 ≤ ((u35).1 71 54).toInt ∧ ((u35).1 71 54).toInt ≤ 12 ∧ ((u35).1 104 2).toInt = oqBR g a b R ∧ ((u35).1 104 3).toInt = oqBM g a b M := fun h9 => by (have h8 := pu35_0 h9; try (have h7 := hU1 (by omega)); try (have h7 := hRTC (by omega); have h6 := hRTO (by omega)); try (have h7 := hMTC (by omega); have h6 := hMTO (by omega)); try clear hU1 hU0; try clear hRT1 hRT5 hRTC hRTO; try clear hMT5 hMTK hMTV hMTN hMTC hMTO; clear pu35_0 pu35_1 pu35_3; omega)
          try (clear hMT5)
          try (clear hMTK)
          try (clear hMTV)
          try (clear hMTN)
          try (clear hMTC)
          try (clear hMTO)
          try (clear hRT1)
          try (clear hRT5)
          try (clear hRTC)
          try (clear hRTO)
          try (clear hU1)
          try (clear hU0)
          try (clear pu35_0)
          try (clear pu35_1)
          try (clear pu35_3)
          refine r_aload_n C (j := 0) (oDec_at oX12_bookTold 46 rfl) rfl rfl ?_
          refine r_dup C (oDec_at oX12_bookTold 47 rfl) rfl ?_
          refine r_geti (k := 37) (lo := 0) (hi := 60) C v4 oCl12 rfl (by decide) flX12_231 rfl rfl (((fu35 71 37 rfl).1).trans (((fu21 71 37 rfl).1).trans (((fu13 71 37 rfl).1).trans (((fu9 71 37 rfl).1).trans (ev4))))) rfl rfl (oDec_at oX12_bookTold 48 rfl) (fun _ _ => ?_)
          refine r_pc C 96 rfl ?_
          refine r_iconst C (oDec_at oX12_bookTold 49 rfl) (v := k1) (by rw [qk1]; rfl) ?_
          obtain ⟨v45, ev45⟩ : ∃ z : Int32, z = v4 + k1 := ⟨_, rfl⟩
          have hv45 : v45.toInt = v4.toInt + k1.toInt := n_add ev45 (by omega) (by omega)
          refine r_iadd C v45 (oDec_at oX12_bookTold 50 rfl) ev45 ?_
          refine r_puti (k := 37) (lo := 0) (hi := 60) C oCl12 rfl (by decide) flX12_231 rfl rfl rfl rfl rfl rfl rfl rfl ⟨by omega, by omega⟩ (oDec_at oX12_bookTold 51 rfl) ?_
          have lk46 : (((pI u35 71 37 v45)).1 71 6).toInt = (u35.1 71 6).toInt := congrArg Int32.toInt ((pI_ne (a := 71) (b := 6) (c := 71) (k := 37) _ _ (Or.inr (by decide))))
          have lk47 : (((pI u35 71 37 v45)).1 71 5).toInt = (u35.1 71 5).toInt := congrArg Int32.toInt ((pI_ne (a := 71) (b := 5) (c := 71) (k := 37) _ _ (Or.inr (by decide))))
          have lk48 : (((pI u35 71 37 v45)).1 71 5).toInt = (u35.1 71 5).toInt := congrArg Int32.toInt ((pI_ne (a := 71) (b := 5) (c := 71) (k := 37) _ _ (Or.inr (by decide))))
          have lk49 : (((pI u35 71 37 v45)).1 71 45).toInt = (s.1 71 45).toInt := congrArg Int32.toInt (((pI_ne (a := 71) (b := 45) (c := 71) (k := 37) _ _ (Or.inr (by decide)))).trans (((fu35 71 45 rfl).1).trans (((fu21 71 45 rfl).1).trans (((fu13 71 45 rfl).1).trans ((fu9 71 45 rfl).1)))))
          have lk50 : (((pI u35 71 37 v45)).1 71 2).toInt = (u35.1 71 2).toInt := congrArg Int32.toInt ((pI_ne (a := 71) (b := 2) (c := 71) (k := 37) _ _ (Or.inr (by decide))))
          have lk51 : (((pI u35 71 37 v45)).1 71 54).toInt = (s.1 71 54).toInt := congrArg Int32.toInt (((pI_ne (a := 71) (b := 54) (c := 71) (k := 37) _ _ (Or.inr (by decide)))).trans (((fu35 71 54 rfl).1).trans (((fu21 71 54 rfl).1).trans (((fu13 71 54 rfl).1).trans ((fu9 71 54 rfl).1)))))
          have lk52 : (((pI u35 71 37 v45)).1 71 37).toInt = v45.toInt := congrArg Int32.toInt ((pI_self _ _ _ _))
          have lk53 : (((pI u35 71 37 v45)).1 71 37).toInt = v45.toInt := congrArg Int32.toInt ((pI_self _ _ _ _))
          have lc54 : (((pI u35 71 37 v45)).1 104 3).toInt = (s.1 104 3).toInt := congrArg Int32.toInt (((pI_ne (a := 104) (b := 3) (c := 71) _ _ (Or.inl (by decide)))).trans (((fu35 104 3 rfl).1).trans (((fu21 104 3 rfl).1).trans (((fu13 104 3 rfl).1).trans ((fu9 104 3 rfl).1)))))
          have lk55 : (((pI u35 71 37 v45)).1 71 5).toInt = (u35.1 71 5).toInt := congrArg Int32.toInt ((pI_ne (a := 71) (b := 5) (c := 71) (k := 37) _ _ (Or.inr (by decide))))
          have lk56 : (((pI u35 71 37 v45)).1 71 6).toInt = (u35.1 71 6).toInt := congrArg Int32.toInt ((pI_ne (a := 71) (b := 6) (c := 71) (k := 37) _ _ (Or.inr (by decide))))
          have lc57 : (((pI u35 71 37 v45)).1 104 2).toInt = (s.1 104 2).toInt := congrArg Int32.toInt (((pI_ne (a := 104) (b := 2) (c := 71) _ _ (Or.inl (by decide)))).trans (((fu35 104 2 rfl).1).trans (((fu21 104 2 rfl).1).trans (((fu13 104 2 rfl).1).trans ((fu9 104 2 rfl).1)))))
          have lc58 : (((pI u35 71 37 v45)).1 104 3).toInt = (s.1 104 3).toInt := congrArg Int32.toInt (((pI_ne (a := 104) (b := 3) (c := 71) _ _ (Or.inl (by decide)))).trans (((fu35 104 3 rfl).1).trans (((fu21 104 3 rfl).1).trans (((fu13 104 3 rfl).1).trans ((fu9 104 3 rfl).1)))))
          have lk59 : (((pI u35 71 37 v45)).1 71 5).toInt = (u35.1 71 5).toInt := congrArg Int32.toInt ((pI_ne (a := 71) (b := 5) (c := 71) (k := 37) _ _ (Or.inr (by decide))))
          have lk60 : (((pI u35 71 37 v45)).1 71 2).toInt = (u35.1 71 2).toInt := congrArg Int32.toInt ((pI_ne (a := 71) (b := 2) (c := 71) (k := 37) _ _ (Or.inr (by decide))))
          have lk61 : (((pI u35 71 37 v45)).1 71 4).toInt = (u21.1 71 4).toInt := congrArg Int32.toInt (((pI_ne (a := 71) (b := 4) (c := 71) (k := 37) _ _ (Or.inr (by decide)))).trans ((fu35 71 4 rfl).1))
          have lk62 : (((pI u35 71 37 v45)).1 71 6).toInt = (u35.1 71 6).toInt := congrArg Int32.toInt ((pI_ne (a := 71) (b := 6) (c := 71) (k := 37) _ _ (Or.inr (by decide))))
          have lk63 : (((pI u35 71 37 v45)).1 71 5).toInt = (u35.1 71 5).toInt := congrArg Int32.toInt ((pI_ne (a := 71) (b := 5) (c := 71) (k := 37) _ _ (Or.inr (by decide))))
          have lk64 : (((pI u35 71 37 v45)).1 71 6).toInt = (u35.1 71 6).toInt := congrArg Int32.toInt ((pI_ne (a := 71) (b := 6) (c := 71) (k := 37) _ _ (Or.inr (by decide))))
          have lk65 : (((pI u35 71 37 v45)).1 71 5).toInt = (u35.1 71 5).toInt := congrArg Int32.toInt ((pI_ne (a := 71) (b := 5) (c := 71) (k := 37) _ _ (Or.inr (by decide))))
          exact r_vret C (oDec_at oX12_bookTold 52 rfl) ⟨rfl, ⟨(oBB_fr (oFr_oneI (q := 12) (m := 37) rfl (by rfl)) rfl (oBB_frb fu35 rfl (by omega) (oBB_frb fu21 rfl (by omega) (oBB_fr fu13 rfl (oBB_fr fu9 rfl hp0))))), fun h9 => by (have h8 := hA91 (by omega); clear hA91 hF hbp; omega), by omega, by omega, by omega, fun _ h9 => by (have h8 := hA91 (by omega); have h7 := hF.1 (by omega); have h6 := hbp (by omega); clear hA91 hF hbp; omega), fun _ h9 => by (have h7 := hF.2 (by omega); clear hA91 hF hbp; omega), fun _ h9 => oqNR_fr (oFr_oneI (q := 12) (m := 37) rfl (by rfl)) rfl (hN91 (by omega))⟩⟩
        · skip
          have hQ1 := pu21_0 (by omega)
          clear pu21_0 pu21_1
          have hW5 := oqWi_y (g := g) (A := a) (E := b) (i := 5) (by decide) (by omega)
          have hnl5 : ¬ (97 ≤ g (oqHa g a 5) ∧ g (oqHa g a 5) ≤ 122) := (oqH_is (g := g) (a := a) (b := b) (i := 5) (by omega)).1.2
          refine r_aload_n C (j := 0) (oDec_at oX12_bookTold 40 rfl) rfl rfl ?_
          refine r_iload_n C (j := 1) (oDec_at oX12_bookTold 41 rfl) rfl rfl ?_
          have lk66 : ((u21).1 71 5).toInt = v23.toInt := congrArg Int32.toInt (ev23)
          have lk67 : ((u21).1 71 45).toInt = (s.1 71 45).toInt := congrArg Int32.toInt (((fu21 71 45 rfl).1).trans (((fu13 71 45 rfl).1).trans ((fu9 71 45 rfl).1)))
          have lk68 : ((u21).1 71 5).toInt = v23.toInt := congrArg Int32.toInt (ev23)
          have lk69 : ((u21).1 71 5).toInt = v23.toInt := congrArg Int32.toInt (ev23)
          have lc70 : ((u21).1 104 3).toInt = (s.1 104 3).toInt := congrArg Int32.toInt (((fu21 104 3 rfl).1).trans (((fu13 104 3 rfl).1).trans ((fu9 104 3 rfl).1)))
          have lc71 : ((u21).1 104 3).toInt = (s.1 104 3).toInt := congrArg Int32.toInt (((fu21 104 3 rfl).1).trans (((fu13 104 3 rfl).1).trans ((fu9 104 3 rfl).1)))
          refine r_callVv C oCl12 rfl miX12_mottoTold mlX12_350 (ct7_X12_mottoTold l E (u21) v2 (g) (oqHa g a 5) (N) (M) (oBB_frb fu21 rfl (by omega) (oBB_fr fu13 rfl (oBB_fr fu9 rfl hp0))) (by omega) (by omega) (by omega) (by omega) (by omega) (by omega) (oqNR_fr fu21 rfl (oqNR_fr fu13 rfl (oqNR_fr fu9 rfl hp10))) (by omega) pu21_3 (oqZ_fr fu21 rfl (oqZ_fr fu13 rfl (oqZ_fr fu9 rfl hp13))) (oqWd_fr fu21 rfl (oqWd_fr fu13 rfl (oqWd_fr fu9 rfl hp14)))) (by decide) rfl rfl rfl (Nat.le_of_ble_eq_true rfl) (oDec_at oX12_bookTold 42 rfl) (fun u72 pu72 fu72 => ?_)
          try dsimp only at pu72
          try simp only [lk66, lk67, lk68, lk69] at pu72
          obtain ⟨pu72_0, pu72_1, pu72_2, pu72_3, pu72_4, pu72_5, pu72_6, pu72_7, pu72_8, pu72_9⟩ := pu72
          have lk74 : ((u72).1 71 37).toInt = v4.toInt := congrArg Int32.toInt (((fu72 71 37 rfl).1).trans (((fu21 71 37 rfl).1).trans (((fu13 71 37 rfl).1).trans (((fu9 71 37 rfl).1).trans (ev4)))))
          obtain ⟨A, hA⟩ : ∃ z : Int, z = ((u72).1 71 2).toInt := ⟨_, rfl⟩
          try (have hMTO := pu72_1)
          try (have hMT5 := pu72_4)
          try (have hMTK := pu72_5)
          try (have hMTV := pu72_6)
          try (have hMTN := pu72_7)
          try (have hMTC := pu72_8)
          try (clear pu72_1 pu72_4 pu72_5 pu72_6 pu72_7 pu72_8)
          refine r_aload_n C (j := 0) (oDec_at oX12_bookTold 43 rfl) rfl rfl ?_
          refine r_bipush C (oDec_at oX12_bookTold 44 rfl) (v := k59) (by rw [qk59]; rfl) ?_
          refine r_callVv C oCl12 rfl miX12_asksSign mlX12_248 (ct7_X12_asksSign l E (u72) k59 (g) (A) (59) (by omega) (oqZ_fr fu72 rfl (oqZ_fr fu21 rfl (oqZ_fr fu13 rfl (oqZ_fr fu9 rfl hp13)))) (by omega) (by omega) pu72_9) (by decide) rfl rfl rfl (Nat.le_of_ble_eq_true rfl) (oDec_at oX12_bookTold 45 rfl) (fun u75 pu75 fu75 => ?_)
          try dsimp only at pu75
          obtain ⟨pu75_0, pu75_1, pu75_2, pu75_3, pu75_4⟩ := pu75
          refine r_pc C 91 rfl ?_
          have lc77 : ((u75).1 104 2).toInt = (u72.1 104 2).toInt := congrArg Int32.toInt ((fu75 104 2 rfl).1)
          have lc78 : ((u75).1 104 3).toInt = (u72.1 104 3).toInt := congrArg Int32.toInt ((fu75 104 3 rfl).1)
          have lk79 : ((u75).1 71 4).toInt = (u72.1 71 4).toInt := congrArg Int32.toInt ((fu75 71 4 rfl).1)
          have lk80 : ((u75).1 71 48).toInt = (u72.1 71 48).toInt := congrArg Int32.toInt ((fu75 71 48 rfl).1)
          have lk81 : ((u75).1 71 47).toInt = (u72.1 71 47).toInt := congrArg Int32.toInt ((fu75 71 47 rfl).1)
          have lk82 : ((u75).1 71 37).toInt = v4.toInt := congrArg Int32.toInt (((fu75 71 37 rfl).1).trans (((fu72 71 37 rfl).1).trans (((fu21 71 37 rfl).1).trans (((fu13 71 37 rfl).1).trans (((fu9 71 37 rfl).1).trans (ev4))))))
          have lk83 : ((u75).1 71 45).toInt = (u72.1 71 45).toInt := congrArg Int32.toInt ((fu75 71 45 rfl).1)
          have lk84 : ((u75).1 71 54).toInt = (s.1 71 54).toInt := congrArg Int32.toInt (((fu75 71 54 rfl).1).trans (((fu72 71 54 rfl).1).trans (((fu21 71 54 rfl).1).trans (((fu13 71 54 rfl).1).trans ((fu9 71 54 rfl).1)))))
          try (have hbs := oqBs_3 (g := g) (a := a) (b := b) (R := R) (M := M) (N := N) hW3)
          try (have hbs := oqBs_4 (g := g) (a := a) (b := b) (R := R) (M := M) (N := N) hW4)
          try (have hbs := oqBs_5 (g := g) (a := a) (b := b) (R := R) (M := M) (N := N) hW5)
          have hF : ((((u75).1 71 5).toInt = 0 → oqBk g a b R M N = 0 ∧ ((u75).1 71 2).toInt = oqBa g a b ∧ ((u75).1 71 4).toInt = oqBb g a b) ∧ (((u75).1 71 5).toInt ≠ 0 → oqBk g a b R M N ≠ 0 ∧ ((u75).1 71 5).toInt = oqBk g a b R M N ∧ ((u75).1 71 6).toInt = oqBp g a b R M N)) := by first | exact oqBt_m (g := g) (a := a) (b := b) (R := R) (M := M) (N := N) (bs := ((u72).1 71 5).toInt) (ps := ((u72).1 71 6).toInt) (as := A) (es := ((u72).1 71 4).toInt) hW3 (fun h9 => by have h8 := hU1 (by omega); omega) (fun h9 => by have h8 := hU0 (by omega); omega) (fun h9 => by have h8 := pu75_0 h9; omega) (fun h9 => by have h8 := pu75_1 h9; omega) | exact (by by_cases hR : R < 12; exact oqBt_r (g := g) (a := a) (b := b) (R := R) (M := M) (N := N) hW4 hR (oqVs_59 (a := A) (hRT1 hR) (by omega) (fun h9 => pu75_3 (by omega)) (fun h9 => by have h8 := pu75_0 h9; omega) (fun h9 => by have h8 := pu75_1 h9; omega)); (have h5 := hRT5 (by omega); exact oqBt_x (oqB_r5 (g := g) (a := a) (b := b) (R := R) (M := M) (N := N) hW4 (by omega)).1 (oqB_r5 (g := g) (a := a) (b := b) (R := R) (M := M) (N := N) hW4 (by omega)).2 (by omega) (by omega) (by omega))) | exact (by by_cases hM : M < 6; (by_cases hk : oqMk g (oqHa g a 5) N M = 0; exact oqBt_o (g := g) (a := a) (b := b) (R := R) (M := M) (N := N) hW5 hM hk (oqVs_59 (a := A) (hMTV hM hk) (by omega) (fun h9 => pu75_3 (by omega)) (fun h9 => by have h8 := pu75_0 h9; omega) (fun h9 => by have h8 := pu75_1 h9; omega)); (have h8 := hMTK hM hk; have e9 := oqB_on (g := g) (a := a) (b := b) (R := R) (M := M) (N := N) hW5 hM (by rw [oqBh_i (i := 5) hW5]; exact hk); rw [oqBh_i (i := 5) hW5] at e9; exact oqBt_x e9.1 e9.2 hk (by omega) (by omega))); (have h5 := hMT5 (by omega); exact oqBt_x (oqB_o5 (g := g) (a := a) (b := b) (R := R) (M := M) (N := N) hW5 (by omega)).1 (oqB_o5 (g := g) (a := a) (b := b) (R := R) (M := M) (N := N) hW5 (by omega)).2 (by omega) (by omega) (by omega))) | exact oqBt_x (oqB_w (g := g) (a := a) (b := b) (R := R) (M := M) (N := N) ⟨hz3, hz4, oqWi_w (i := 5) (by decide) (by omega)⟩).1 (oqB_w (g := g) (a := a) (b := b) (R := R) (M := M) (N := N) ⟨hz3, hz4, oqWi_w (i := 5) (by decide) (by omega)⟩).2 (by omega) (by omega) (by omega)
          have hN91 : ((u75).1 71 5).toInt = 0 → oqNR (oqBN g a b N M) (oqBM g a b M) (u75) := by first | (intro h9; exfalso; omega) | (intro h9; rw [hbs.2.2, hbs.2.1]; exact (by assumption)) | (intro h9; rw [hbs.2.2, hbs.2.1, oqBh_i (i := 5) hW5]; exact oqNR_fr fu75 rfl (hMTN (by omega)))
          have hbp : ((u75).1 71 5).toInt = 0 → ((u75).1 71 6).toInt = -1 := pu75_4
          have hA91 : ((u75).1 71 5).toInt = 0 → ((u75).1 71 45).toInt ≤ ((u75).1 71 2).toInt ∧ 2 ≤ ((u75).1 71 54).toInt ∧ ((u75).1 71 54).toInt ≤ 12 ∧ ((u75).1 104 2).toInt = oqBR g a b R ∧ ((u75).1 104 3).toInt = oqBM g a b M := fun h9 => by (have h8 := pu75_0 h9; try (have h7 := hU1 (by omega)); try (have h7 := hRTC (by omega); have h6 := hRTO (by omega)); try (have h7 := hMTC (by omega); have h6 := hMTO (by omega)); try clear hU1 hU0; try clear hRT1 hRT5 hRTC hRTO; try clear hMT5 hMTK hMTV hMTN hMTC hMTO; clear pu75_0 pu75_1 pu75_3; omega)
          try (clear hMT5)
          try (clear hMTK)
          try (clear hMTV)
          try (clear hMTN)
          try (clear hMTC)
          try (clear hMTO)
          try (clear hRT1)
          try (clear hRT5)
          try (clear hRTC)
          try (clear hRTO)
          try (clear hU1)
          try (clear hU0)
          try (clear pu75_0)
          try (clear pu75_1)
          try (clear pu75_3)
          refine r_aload_n C (j := 0) (oDec_at oX12_bookTold 46 rfl) rfl rfl ?_
          refine r_dup C (oDec_at oX12_bookTold 47 rfl) rfl ?_
          refine r_geti (k := 37) (lo := 0) (hi := 60) C v4 oCl12 rfl (by decide) flX12_231 rfl rfl (((fu75 71 37 rfl).1).trans (((fu72 71 37 rfl).1).trans (((fu21 71 37 rfl).1).trans (((fu13 71 37 rfl).1).trans (((fu9 71 37 rfl).1).trans (ev4)))))) rfl rfl (oDec_at oX12_bookTold 48 rfl) (fun _ _ => ?_)
          refine r_iconst C (oDec_at oX12_bookTold 49 rfl) (v := k1) (by rw [qk1]; rfl) ?_
          obtain ⟨v85, ev85⟩ : ∃ z : Int32, z = v4 + k1 := ⟨_, rfl⟩
          have hv85 : v85.toInt = v4.toInt + k1.toInt := n_add ev85 (by omega) (by omega)
          refine r_iadd C v85 (oDec_at oX12_bookTold 50 rfl) ev85 ?_
          refine r_puti (k := 37) (lo := 0) (hi := 60) C oCl12 rfl (by decide) flX12_231 rfl rfl rfl rfl rfl rfl rfl rfl ⟨by omega, by omega⟩ (oDec_at oX12_bookTold 51 rfl) ?_
          refine r_pc C 101 rfl ?_
          have lk86 : (((pI u75 71 37 v85)).1 71 6).toInt = (u75.1 71 6).toInt := congrArg Int32.toInt ((pI_ne (a := 71) (b := 6) (c := 71) (k := 37) _ _ (Or.inr (by decide))))
          have lk87 : (((pI u75 71 37 v85)).1 71 5).toInt = (u75.1 71 5).toInt := congrArg Int32.toInt ((pI_ne (a := 71) (b := 5) (c := 71) (k := 37) _ _ (Or.inr (by decide))))
          have lk88 : (((pI u75 71 37 v85)).1 71 5).toInt = (u75.1 71 5).toInt := congrArg Int32.toInt ((pI_ne (a := 71) (b := 5) (c := 71) (k := 37) _ _ (Or.inr (by decide))))
          have lk89 : (((pI u75 71 37 v85)).1 71 45).toInt = (u72.1 71 45).toInt := congrArg Int32.toInt (((pI_ne (a := 71) (b := 45) (c := 71) (k := 37) _ _ (Or.inr (by decide)))).trans ((fu75 71 45 rfl).1))
          have lk90 : (((pI u75 71 37 v85)).1 71 2).toInt = (u75.1 71 2).toInt := congrArg Int32.toInt ((pI_ne (a := 71) (b := 2) (c := 71) (k := 37) _ _ (Or.inr (by decide))))
          have lk91 : (((pI u75 71 37 v85)).1 71 54).toInt = (s.1 71 54).toInt := congrArg Int32.toInt (((pI_ne (a := 71) (b := 54) (c := 71) (k := 37) _ _ (Or.inr (by decide)))).trans (((fu75 71 54 rfl).1).trans (((fu72 71 54 rfl).1).trans (((fu21 71 54 rfl).1).trans (((fu13 71 54 rfl).1).trans ((fu9 71 54 rfl).1))))))
          have lk92 : (((pI u75 71 37 v85)).1 71 37).toInt = v85.toInt := congrArg Int32.toInt ((pI_self _ _ _ _))
          have lk93 : (((pI u75 71 37 v85)).1 71 37).toInt = v85.toInt := congrArg Int32.toInt ((pI_self _ _ _ _))
          have lc94 : (((pI u75 71 37 v85)).1 104 3).toInt = (u72.1 104 3).toInt := congrArg Int32.toInt (((pI_ne (a := 104) (b := 3) (c := 71) _ _ (Or.inl (by decide)))).trans ((fu75 104 3 rfl).1))
          have lk95 : (((pI u75 71 37 v85)).1 71 5).toInt = (u75.1 71 5).toInt := congrArg Int32.toInt ((pI_ne (a := 71) (b := 5) (c := 71) (k := 37) _ _ (Or.inr (by decide))))
          have lk96 : (((pI u75 71 37 v85)).1 71 6).toInt = (u75.1 71 6).toInt := congrArg Int32.toInt ((pI_ne (a := 71) (b := 6) (c := 71) (k := 37) _ _ (Or.inr (by decide))))
          have lc97 : (((pI u75 71 37 v85)).1 104 2).toInt = (u72.1 104 2).toInt := congrArg Int32.toInt (((pI_ne (a := 104) (b := 2) (c := 71) _ _ (Or.inl (by decide)))).trans ((fu75 104 2 rfl).1))
          have lc98 : (((pI u75 71 37 v85)).1 104 3).toInt = (u72.1 104 3).toInt := congrArg Int32.toInt (((pI_ne (a := 104) (b := 3) (c := 71) _ _ (Or.inl (by decide)))).trans ((fu75 104 3 rfl).1))
          have lk99 : (((pI u75 71 37 v85)).1 71 5).toInt = (u75.1 71 5).toInt := congrArg Int32.toInt ((pI_ne (a := 71) (b := 5) (c := 71) (k := 37) _ _ (Or.inr (by decide))))
          have lk100 : (((pI u75 71 37 v85)).1 71 2).toInt = (u75.1 71 2).toInt := congrArg Int32.toInt ((pI_ne (a := 71) (b := 2) (c := 71) (k := 37) _ _ (Or.inr (by decide))))
          have lk101 : (((pI u75 71 37 v85)).1 71 4).toInt = (u72.1 71 4).toInt := congrArg Int32.toInt (((pI_ne (a := 71) (b := 4) (c := 71) (k := 37) _ _ (Or.inr (by decide)))).trans ((fu75 71 4 rfl).1))
          have lk102 : (((pI u75 71 37 v85)).1 71 6).toInt = (u75.1 71 6).toInt := congrArg Int32.toInt ((pI_ne (a := 71) (b := 6) (c := 71) (k := 37) _ _ (Or.inr (by decide))))
          have lk103 : (((pI u75 71 37 v85)).1 71 5).toInt = (u75.1 71 5).toInt := congrArg Int32.toInt ((pI_ne (a := 71) (b := 5) (c := 71) (k := 37) _ _ (Or.inr (by decide))))
          have lk104 : (((pI u75 71 37 v85)).1 71 6).toInt = (u75.1 71 6).toInt := congrArg Int32.toInt ((pI_ne (a := 71) (b := 6) (c := 71) (k := 37) _ _ (Or.inr (by decide))))
          have lk105 : (((pI u75 71 37 v85)).1 71 5).toInt = (u75.1 71 5).toInt := congrArg Int32.toInt ((pI_ne (a := 71) (b := 5) (c := 71) (k := 37) _ _ (Or.inr (by decide))))
          exact r_vret C (oDec_at oX12_bookTold 52 rfl) ⟨rfl, ⟨(oBB_fr (oFr_oneI (q := 12) (m := 37) rfl (by rfl)) rfl (oBB_frb fu75 rfl (by omega) pu72_0)), fun h9 => by (have h8 := hA91 (by omega); clear hA91 hF hbp; omega), by omega, by omega, by omega, fun _ h9 => by (have h8 := hA91 (by omega); have h7 := hF.1 (by omega); have h6 := hbp (by omega); clear hA91 hF hbp; omega), fun _ h9 => by (have h7 := hF.2 (by omega); clear hA91 hF hbp; omega), fun _ h9 => oqNR_fr (oFr_oneI (q := 12) (m := 37) rfl (by rfl)) rfl (hN91 (by omega))⟩⟩
      · skip
        replace pu13_1 := pu13_1 (by omega)
        clear pu13_2
        have hW4 := oqWi_y (g := g) (A := a) (E := b) (i := 4) (by decide) (by omega)
        refine r_aload_n C (j := 0) (oDec_at oX12_bookTold 29 rfl) rfl rfl ?_
        refine r_iload_n C (j := 1) (oDec_at oX12_bookTold 30 rfl) rfl rfl ?_
        have lk106 : ((u13).1 71 5).toInt = (s.1 71 5).toInt := congrArg Int32.toInt (((fu13 71 5 rfl).1).trans ((fu9 71 5 rfl).1))
        have lk107 : ((u13).1 71 45).toInt = (s.1 71 45).toInt := congrArg Int32.toInt (((fu13 71 45 rfl).1).trans ((fu9 71 45 rfl).1))
        have lk108 : ((u13).1 71 5).toInt = (s.1 71 5).toInt := congrArg Int32.toInt (((fu13 71 5 rfl).1).trans ((fu9 71 5 rfl).1))
        have lk109 : ((u13).1 71 5).toInt = (s.1 71 5).toInt := congrArg Int32.toInt (((fu13 71 5 rfl).1).trans ((fu9 71 5 rfl).1))
        have lc110 : ((u13).1 104 3).toInt = (s.1 104 3).toInt := congrArg Int32.toInt (((fu13 104 3 rfl).1).trans ((fu9 104 3 rfl).1))
        have lc111 : ((u13).1 104 2).toInt = (s.1 104 2).toInt := congrArg Int32.toInt (((fu13 104 2 rfl).1).trans ((fu9 104 2 rfl).1))
        refine r_callVv C oCl12 rfl miX12_ruleTold mlX12_347 (ct7_X12_ruleTold l E (u13) v2 (g) (oqHa g a 4) (R) (oBB_fr fu13 rfl (oBB_fr fu9 rfl hp0)) (by omega) (by omega) (by omega) (by omega) (by omega) (by omega) (oqBP_fr fu13 rfl (oqBP_fr fu9 rfl hq1)) (oqZ_fr fu13 rfl (oqZ_fr fu9 rfl hp13)) (oqWd_fr fu13 rfl (oqWd_fr fu9 rfl hp14))) (by decide) rfl rfl rfl (Nat.le_of_ble_eq_true rfl) (oDec_at oX12_bookTold 31 rfl) (fun u112 pu112 fu112 => ?_)
        try dsimp only at pu112
        try simp only [lk106, lk107, lk108, lk109] at pu112
        obtain ⟨pu112_0, pu112_1, pu112_2, pu112_3, pu112_4, pu112_5, pu112_6, pu112_7⟩ := pu112
        have hRTO := pu112_1
        have hRT1 := pu112_4
        have hRT5 := pu112_5
        have hRTC := pu112_6
        clear pu112_1 pu112_4 pu112_5 pu112_6
        refine r_goto C (tgt := 85) (oDec_at oX12_bookTold 32 rfl) (by decide) ?_
        have lk114 : ((u112).1 71 37).toInt = v4.toInt := congrArg Int32.toInt (((fu112 71 37 rfl).1).trans (((fu13 71 37 rfl).1).trans (((fu9 71 37 rfl).1).trans (ev4))))
        obtain ⟨A, hA⟩ : ∃ z : Int, z = ((u112).1 71 2).toInt := ⟨_, rfl⟩
        try (have hMTO := pu112_1)
        try (have hMT5 := pu112_4)
        try (have hMTK := pu112_5)
        try (have hMTV := pu112_6)
        try (have hMTN := pu112_7)
        try (have hMTC := pu112_8)
        try (clear pu112_1 pu112_4 pu112_5 pu112_6 pu112_7 pu112_8)
        refine r_aload_n C (j := 0) (oDec_at oX12_bookTold 43 rfl) rfl rfl ?_
        refine r_bipush C (oDec_at oX12_bookTold 44 rfl) (v := k59) (by rw [qk59]; rfl) ?_
        refine r_callVv C oCl12 rfl miX12_asksSign mlX12_248 (ct7_X12_asksSign l E (u112) k59 (g) (A) (59) (by omega) (oqZ_fr fu112 rfl (oqZ_fr fu13 rfl (oqZ_fr fu9 rfl hp13))) (by omega) (by omega) pu112_7) (by decide) rfl rfl rfl (Nat.le_of_ble_eq_true rfl) (oDec_at oX12_bookTold 45 rfl) (fun u115 pu115 fu115 => ?_)
        try dsimp only at pu115
        obtain ⟨pu115_0, pu115_1, pu115_2, pu115_3, pu115_4⟩ := pu115
        refine r_pc C 91 rfl ?_
        have lc117 : ((u115).1 104 2).toInt = (u112.1 104 2).toInt := congrArg Int32.toInt ((fu115 104 2 rfl).1)
        have lc118 : ((u115).1 104 3).toInt = (u112.1 104 3).toInt := congrArg Int32.toInt ((fu115 104 3 rfl).1)
        have lk119 : ((u115).1 71 4).toInt = (u112.1 71 4).toInt := congrArg Int32.toInt ((fu115 71 4 rfl).1)
        have lk120 : ((u115).1 71 48).toInt = (u112.1 71 48).toInt := congrArg Int32.toInt ((fu115 71 48 rfl).1)
        have lk121 : ((u115).1 71 47).toInt = (u112.1 71 47).toInt := congrArg Int32.toInt ((fu115 71 47 rfl).1)
        have lk122 : ((u115).1 71 37).toInt = v4.toInt := congrArg Int32.toInt (((fu115 71 37 rfl).1).trans (((fu112 71 37 rfl).1).trans (((fu13 71 37 rfl).1).trans (((fu9 71 37 rfl).1).trans (ev4)))))
        have lk123 : ((u115).1 71 45).toInt = (u112.1 71 45).toInt := congrArg Int32.toInt ((fu115 71 45 rfl).1)
        have lk124 : ((u115).1 71 54).toInt = (s.1 71 54).toInt := congrArg Int32.toInt (((fu115 71 54 rfl).1).trans (((fu112 71 54 rfl).1).trans (((fu13 71 54 rfl).1).trans ((fu9 71 54 rfl).1))))
        try (have hbs := oqBs_3 (g := g) (a := a) (b := b) (R := R) (M := M) (N := N) hW3)
        try (have hbs := oqBs_4 (g := g) (a := a) (b := b) (R := R) (M := M) (N := N) hW4)
        try (have hbs := oqBs_5 (g := g) (a := a) (b := b) (R := R) (M := M) (N := N) hW5)
        have hF : ((((u115).1 71 5).toInt = 0 → oqBk g a b R M N = 0 ∧ ((u115).1 71 2).toInt = oqBa g a b ∧ ((u115).1 71 4).toInt = oqBb g a b) ∧ (((u115).1 71 5).toInt ≠ 0 → oqBk g a b R M N ≠ 0 ∧ ((u115).1 71 5).toInt = oqBk g a b R M N ∧ ((u115).1 71 6).toInt = oqBp g a b R M N)) := by first | exact oqBt_m (g := g) (a := a) (b := b) (R := R) (M := M) (N := N) (bs := ((u112).1 71 5).toInt) (ps := ((u112).1 71 6).toInt) (as := A) (es := ((u112).1 71 4).toInt) hW3 (fun h9 => by have h8 := hU1 (by omega); omega) (fun h9 => by have h8 := hU0 (by omega); omega) (fun h9 => by have h8 := pu115_0 h9; omega) (fun h9 => by have h8 := pu115_1 h9; omega) | exact (by by_cases hR : R < 12; exact oqBt_r (g := g) (a := a) (b := b) (R := R) (M := M) (N := N) hW4 hR (oqVs_59 (a := A) (hRT1 hR) (by omega) (fun h9 => pu115_3 (by omega)) (fun h9 => by have h8 := pu115_0 h9; omega) (fun h9 => by have h8 := pu115_1 h9; omega)); (have h5 := hRT5 (by omega); exact oqBt_x (oqB_r5 (g := g) (a := a) (b := b) (R := R) (M := M) (N := N) hW4 (by omega)).1 (oqB_r5 (g := g) (a := a) (b := b) (R := R) (M := M) (N := N) hW4 (by omega)).2 (by omega) (by omega) (by omega))) | exact (by by_cases hM : M < 6; (by_cases hk : oqMk g (oqHa g a 5) N M = 0; exact oqBt_o (g := g) (a := a) (b := b) (R := R) (M := M) (N := N) hW5 hM hk (oqVs_59 (a := A) (hMTV hM hk) (by omega) (fun h9 => pu115_3 (by omega)) (fun h9 => by have h8 := pu115_0 h9; omega) (fun h9 => by have h8 := pu115_1 h9; omega)); (have h8 := hMTK hM hk; have e9 := oqB_on (g := g) (a := a) (b := b) (R := R) (M := M) (N := N) hW5 hM (by rw [oqBh_i (i := 5) hW5]; exact hk); rw [oqBh_i (i := 5) hW5] at e9; exact oqBt_x e9.1 e9.2 hk (by omega) (by omega))); (have h5 := hMT5 (by omega); exact oqBt_x (oqB_o5 (g := g) (a := a) (b := b) (R := R) (M := M) (N := N) hW5 (by omega)).1 (oqB_o5 (g := g) (a := a) (b := b) (R := R) (M := M) (N := N) hW5 (by omega)).2 (by omega) (by omega) (by omega))) | exact oqBt_x (oqB_w (g := g) (a := a) (b := b) (R := R) (M := M) (N := N) ⟨hz3, hz4, oqWi_w (i := 5) (by decide) (by omega)⟩).1 (oqB_w (g := g) (a := a) (b := b) (R := R) (M := M) (N := N) ⟨hz3, hz4, oqWi_w (i := 5) (by decide) (by omega)⟩).2 (by omega) (by omega) (by omega)
        have hN91 : ((u115).1 71 5).toInt = 0 → oqNR (oqBN g a b N M) (oqBM g a b M) (u115) := by first | (intro h9; exfalso; omega) | (intro h9; rw [hbs.2.2, hbs.2.1]; exact (oqNR_fr fu115 rfl (oqNR_fr fu112 rfl (oqNR_fr fu13 rfl (oqNR_fr fu9 rfl hp10))))) | (intro h9; rw [hbs.2.2, hbs.2.1, oqBh_i (i := 5) hW5]; exact oqNR_fr fu115 rfl (hMTN (by omega)))
        have hbp : ((u115).1 71 5).toInt = 0 → ((u115).1 71 6).toInt = -1 := pu115_4
        have hA91 : ((u115).1 71 5).toInt = 0 → ((u115).1 71 45).toInt ≤ ((u115).1 71 2).toInt ∧ 2 ≤ ((u115).1 71 54).toInt ∧ ((u115).1 71 54).toInt ≤ 12 ∧ ((u115).1 104 2).toInt = oqBR g a b R ∧ ((u115).1 104 3).toInt = oqBM g a b M := fun h9 => by (have h8 := pu115_0 h9; try (have h7 := hU1 (by omega)); try (have h7 := hRTC (by omega); have h6 := hRTO (by omega)); try (have h7 := hMTC (by omega); have h6 := hMTO (by omega)); try clear hU1 hU0; try clear hRT1 hRT5 hRTC hRTO; try clear hMT5 hMTK hMTV hMTN hMTC hMTO; clear pu115_0 pu115_1 pu115_3; omega)
        try (clear hMT5)
        try (clear hMTK)
        try (clear hMTV)
        try (clear hMTN)
        try (clear hMTC)
        try (clear hMTO)
        try (clear hRT1)
        try (clear hRT5)
        try (clear hRTC)
        try (clear hRTO)
        try (clear hU1)
        try (clear hU0)
        try (clear pu115_0)
        try (clear pu115_1)
        try (clear pu115_3)
        refine r_aload_n C (j := 0) (oDec_at oX12_bookTold 46 rfl) rfl rfl ?_
        refine r_dup C (oDec_at oX12_bookTold 47 rfl) rfl ?_
        refine r_geti (k := 37) (lo := 0) (hi := 60) C v4 oCl12 rfl (by decide) flX12_231 rfl rfl (((fu115 71 37 rfl).1).trans (((fu112 71 37 rfl).1).trans (((fu13 71 37 rfl).1).trans (((fu9 71 37 rfl).1).trans (ev4))))) rfl rfl (oDec_at oX12_bookTold 48 rfl) (fun _ _ => ?_)
        refine r_iconst C (oDec_at oX12_bookTold 49 rfl) (v := k1) (by rw [qk1]; rfl) ?_
        obtain ⟨v125, ev125⟩ : ∃ z : Int32, z = v4 + k1 := ⟨_, rfl⟩
        have hv125 : v125.toInt = v4.toInt + k1.toInt := n_add ev125 (by omega) (by omega)
        refine r_iadd C v125 (oDec_at oX12_bookTold 50 rfl) ev125 ?_
        refine r_puti (k := 37) (lo := 0) (hi := 60) C oCl12 rfl (by decide) flX12_231 rfl rfl rfl rfl rfl rfl rfl rfl ⟨by omega, by omega⟩ (oDec_at oX12_bookTold 51 rfl) ?_
        refine r_pc C 101 rfl ?_
        have lk126 : (((pI u115 71 37 v125)).1 71 6).toInt = (u115.1 71 6).toInt := congrArg Int32.toInt ((pI_ne (a := 71) (b := 6) (c := 71) (k := 37) _ _ (Or.inr (by decide))))
        have lk127 : (((pI u115 71 37 v125)).1 71 5).toInt = (u115.1 71 5).toInt := congrArg Int32.toInt ((pI_ne (a := 71) (b := 5) (c := 71) (k := 37) _ _ (Or.inr (by decide))))
        have lk128 : (((pI u115 71 37 v125)).1 71 5).toInt = (u115.1 71 5).toInt := congrArg Int32.toInt ((pI_ne (a := 71) (b := 5) (c := 71) (k := 37) _ _ (Or.inr (by decide))))
        have lk129 : (((pI u115 71 37 v125)).1 71 45).toInt = (u112.1 71 45).toInt := congrArg Int32.toInt (((pI_ne (a := 71) (b := 45) (c := 71) (k := 37) _ _ (Or.inr (by decide)))).trans ((fu115 71 45 rfl).1))
        have lk130 : (((pI u115 71 37 v125)).1 71 2).toInt = (u115.1 71 2).toInt := congrArg Int32.toInt ((pI_ne (a := 71) (b := 2) (c := 71) (k := 37) _ _ (Or.inr (by decide))))
        have lk131 : (((pI u115 71 37 v125)).1 71 54).toInt = (s.1 71 54).toInt := congrArg Int32.toInt (((pI_ne (a := 71) (b := 54) (c := 71) (k := 37) _ _ (Or.inr (by decide)))).trans (((fu115 71 54 rfl).1).trans (((fu112 71 54 rfl).1).trans (((fu13 71 54 rfl).1).trans ((fu9 71 54 rfl).1)))))
        have lk132 : (((pI u115 71 37 v125)).1 71 37).toInt = v125.toInt := congrArg Int32.toInt ((pI_self _ _ _ _))
        have lk133 : (((pI u115 71 37 v125)).1 71 37).toInt = v125.toInt := congrArg Int32.toInt ((pI_self _ _ _ _))
        have lc134 : (((pI u115 71 37 v125)).1 104 3).toInt = (u112.1 104 3).toInt := congrArg Int32.toInt (((pI_ne (a := 104) (b := 3) (c := 71) _ _ (Or.inl (by decide)))).trans ((fu115 104 3 rfl).1))
        have lk135 : (((pI u115 71 37 v125)).1 71 5).toInt = (u115.1 71 5).toInt := congrArg Int32.toInt ((pI_ne (a := 71) (b := 5) (c := 71) (k := 37) _ _ (Or.inr (by decide))))
        have lk136 : (((pI u115 71 37 v125)).1 71 6).toInt = (u115.1 71 6).toInt := congrArg Int32.toInt ((pI_ne (a := 71) (b := 6) (c := 71) (k := 37) _ _ (Or.inr (by decide))))
        have lc137 : (((pI u115 71 37 v125)).1 104 2).toInt = (u112.1 104 2).toInt := congrArg Int32.toInt (((pI_ne (a := 104) (b := 2) (c := 71) _ _ (Or.inl (by decide)))).trans ((fu115 104 2 rfl).1))
        have lc138 : (((pI u115 71 37 v125)).1 104 3).toInt = (u112.1 104 3).toInt := congrArg Int32.toInt (((pI_ne (a := 104) (b := 3) (c := 71) _ _ (Or.inl (by decide)))).trans ((fu115 104 3 rfl).1))
        have lk139 : (((pI u115 71 37 v125)).1 71 5).toInt = (u115.1 71 5).toInt := congrArg Int32.toInt ((pI_ne (a := 71) (b := 5) (c := 71) (k := 37) _ _ (Or.inr (by decide))))
        have lk140 : (((pI u115 71 37 v125)).1 71 2).toInt = (u115.1 71 2).toInt := congrArg Int32.toInt ((pI_ne (a := 71) (b := 2) (c := 71) (k := 37) _ _ (Or.inr (by decide))))
        have lk141 : (((pI u115 71 37 v125)).1 71 4).toInt = (u112.1 71 4).toInt := congrArg Int32.toInt (((pI_ne (a := 71) (b := 4) (c := 71) (k := 37) _ _ (Or.inr (by decide)))).trans ((fu115 71 4 rfl).1))
        have lk142 : (((pI u115 71 37 v125)).1 71 6).toInt = (u115.1 71 6).toInt := congrArg Int32.toInt ((pI_ne (a := 71) (b := 6) (c := 71) (k := 37) _ _ (Or.inr (by decide))))
        have lk143 : (((pI u115 71 37 v125)).1 71 5).toInt = (u115.1 71 5).toInt := congrArg Int32.toInt ((pI_ne (a := 71) (b := 5) (c := 71) (k := 37) _ _ (Or.inr (by decide))))
        have lk144 : (((pI u115 71 37 v125)).1 71 6).toInt = (u115.1 71 6).toInt := congrArg Int32.toInt ((pI_ne (a := 71) (b := 6) (c := 71) (k := 37) _ _ (Or.inr (by decide))))
        have lk145 : (((pI u115 71 37 v125)).1 71 5).toInt = (u115.1 71 5).toInt := congrArg Int32.toInt ((pI_ne (a := 71) (b := 5) (c := 71) (k := 37) _ _ (Or.inr (by decide))))
        exact r_vret C (oDec_at oX12_bookTold 52 rfl) ⟨rfl, ⟨(oBB_fr (oFr_oneI (q := 12) (m := 37) rfl (by rfl)) rfl (oBB_frb fu115 rfl (by omega) pu112_0)), fun h9 => by (have h8 := hA91 (by omega); clear hA91 hF hbp; omega), by omega, by omega, by omega, fun _ h9 => by (have h8 := hA91 (by omega); have h7 := hF.1 (by omega); have h6 := hbp (by omega); clear hA91 hF hbp; omega), fun _ h9 => by (have h7 := hF.2 (by omega); clear hA91 hF hbp; omega), fun _ h9 => oqNR_fr (oFr_oneI (q := 12) (m := 37) rfl (by rfl)) rfl (hN91 (by omega))⟩⟩
    · skip
      replace pu9_1 := pu9_1 (by omega)
      clear pu9_2
      have hW3 := oqWi_y (g := g) (A := a) (E := b) (i := 3) (by decide) (by omega)
      refine r_aload_n C (j := 0) (oDec_at oX12_bookTold 17 rfl) rfl rfl ?_
      refine r_aload_n C (j := 0) (oDec_at oX12_bookTold 18 rfl) rfl rfl ?_
      refine r_iconst C (oDec_at oX12_bookTold 19 rfl) (v := k2) (by rw [qk2]; rfl) ?_
      refine r_bipush C (oDec_at oX12_bookTold 20 rfl) (v := k12) (by rw [qk12]; rfl) ?_
      have lk146 : ((u9).1 71 5).toInt = (s.1 71 5).toInt := congrArg Int32.toInt ((fu9 71 5 rfl).1)
      have lk147 : ((u9).1 71 5).toInt = (s.1 71 5).toInt := congrArg Int32.toInt ((fu9 71 5 rfl).1)
      have lk148 : ((u9).1 71 6).toInt = (s.1 71 6).toInt := congrArg Int32.toInt ((fu9 71 6 rfl).1)
      have lk149 : ((u9).1 71 5).toInt = (s.1 71 5).toInt := congrArg Int32.toInt ((fu9 71 5 rfl).1)
      have lk150 : ((u9).1 71 6).toInt = (s.1 71 6).toInt := congrArg Int32.toInt ((fu9 71 6 rfl).1)
      refine r_callVi C oCl12 rfl miX12_number mlX12_244 (ct7_X12_number l E (u9) k2 k12 (g) (oqHa g a 3) (oqHa g a 3) (2) (12) (by omega) (oqZ_fr fu9 rfl hp13) (by omega) (by omega) (oqBP_fr fu9 rfl hq1)) (by decide) rfl rfl rfl (Nat.le_of_ble_eq_true rfl) (oDec_at oX12_bookTold 21 rfl) (fun r152 u151 pu151 fu151 => ?_)
      try dsimp only at pu151
      try simp only [lk146, lk147, lk148, lk149, lk150] at pu151
      obtain ⟨pu151_0, pu151_1, pu151_2, pu151_3, pu151_4⟩ := pu151
      have rr152 := n_rng r152
      have hU1 := pu151_1
      have hU0 := pu151_2
      clear pu151_1 pu151_2
      refine r_puti (k := 54) (lo := (-2147483648)) (hi := 2147483647) C oCl12 rfl (by decide) flX12_344 rfl rfl rfl rfl rfl rfl rfl rfl (n_rng _) (oDec_at oX12_bookTold 22 rfl) ?_
      refine r_pc C 43 rfl ?_
      refine r_goto C (tgt := 85) (oDec_at oX12_bookTold 23 rfl) (by decide) ?_
      have lc153 : (((pI u151 71 54 r152)).1 104 2).toInt = (s.1 104 2).toInt := congrArg Int32.toInt (((pI_ne (a := 104) (b := 2) (c := 71) _ _ (Or.inl (by decide)))).trans (((fu151 104 2 rfl).1).trans ((fu9 104 2 rfl).1)))
      have lc154 : (((pI u151 71 54 r152)).1 104 3).toInt = (s.1 104 3).toInt := congrArg Int32.toInt (((pI_ne (a := 104) (b := 3) (c := 71) _ _ (Or.inl (by decide)))).trans (((fu151 104 3 rfl).1).trans ((fu9 104 3 rfl).1)))
      have lk155 : (((pI u151 71 54 r152)).1 71 2).toInt = (u151.1 71 2).toInt := congrArg Int32.toInt ((pI_ne (a := 71) (b := 2) (c := 71) (k := 54) _ _ (Or.inr (by decide))))
      have lk156 : (((pI u151 71 54 r152)).1 71 4).toInt = (u151.1 71 4).toInt := congrArg Int32.toInt ((pI_ne (a := 71) (b := 4) (c := 71) (k := 54) _ _ (Or.inr (by decide))))
      have lk157 : (((pI u151 71 54 r152)).1 71 5).toInt = (u151.1 71 5).toInt := congrArg Int32.toInt ((pI_ne (a := 71) (b := 5) (c := 71) (k := 54) _ _ (Or.inr (by decide))))
      have lk158 : (((pI u151 71 54 r152)).1 71 48).toInt = (s.1 71 48).toInt := congrArg Int32.toInt (((pI_ne (a := 71) (b := 48) (c := 71) (k := 54) _ _ (Or.inr (by decide)))).trans (((fu151 71 48 rfl).1).trans ((fu9 71 48 rfl).1)))
      have lk159 : (((pI u151 71 54 r152)).1 71 47).toInt = (s.1 71 47).toInt := congrArg Int32.toInt (((pI_ne (a := 71) (b := 47) (c := 71) (k := 54) _ _ (Or.inr (by decide)))).trans (((fu151 71 47 rfl).1).trans ((fu9 71 47 rfl).1)))
      have lk160 : (((pI u151 71 54 r152)).1 71 6).toInt = (u151.1 71 6).toInt := congrArg Int32.toInt ((pI_ne (a := 71) (b := 6) (c := 71) (k := 54) _ _ (Or.inr (by decide))))
      have lk161 : (((pI u151 71 54 r152)).1 71 37).toInt = v4.toInt := congrArg Int32.toInt (((pI_ne (a := 71) (b := 37) (c := 71) (k := 54) _ _ (Or.inr (by decide)))).trans (((fu151 71 37 rfl).1).trans (((fu9 71 37 rfl).1).trans (ev4))))
      obtain ⟨A, hA⟩ : ∃ z : Int, z = (((pI u151 71 54 r152)).1 71 2).toInt := ⟨_, rfl⟩
      try (have hMTO := pu151_1)
      try (have hMT5 := pu151_4)
      try (have hMTK := pu151_5)
      try (have hMTV := pu151_6)
      try (have hMTN := pu151_7)
      try (have hMTC := pu151_8)
      try (clear pu151_1 pu151_4 pu151_5 pu151_6 pu151_7 pu151_8)
      refine r_aload_n C (j := 0) (oDec_at oX12_bookTold 43 rfl) rfl rfl ?_
      refine r_bipush C (oDec_at oX12_bookTold 44 rfl) (v := k59) (by rw [qk59]; rfl) ?_
      have lk162 : (((pI u151 71 54 r152)).1 71 5).toInt = (u151.1 71 5).toInt := congrArg Int32.toInt ((pI_ne (a := 71) (b := 5) (c := 71) (k := 54) _ _ (Or.inr (by decide))))
      have lk163 : (((pI u151 71 54 r152)).1 71 2).toInt = (u151.1 71 2).toInt := congrArg Int32.toInt ((pI_ne (a := 71) (b := 2) (c := 71) (k := 54) _ _ (Or.inr (by decide))))
      have lk164 : (((pI u151 71 54 r152)).1 71 5).toInt = (u151.1 71 5).toInt := congrArg Int32.toInt ((pI_ne (a := 71) (b := 5) (c := 71) (k := 54) _ _ (Or.inr (by decide))))
      have lk165 : (((pI u151 71 54 r152)).1 71 6).toInt = (u151.1 71 6).toInt := congrArg Int32.toInt ((pI_ne (a := 71) (b := 6) (c := 71) (k := 54) _ _ (Or.inr (by decide))))
      have lk166 : (((pI u151 71 54 r152)).1 71 5).toInt = (u151.1 71 5).toInt := congrArg Int32.toInt ((pI_ne (a := 71) (b := 5) (c := 71) (k := 54) _ _ (Or.inr (by decide))))
      have lk167 : (((pI u151 71 54 r152)).1 71 6).toInt = (u151.1 71 6).toInt := congrArg Int32.toInt ((pI_ne (a := 71) (b := 6) (c := 71) (k := 54) _ _ (Or.inr (by decide))))
      have lk168 : (((pI u151 71 54 r152)).1 71 2).toInt = (u151.1 71 2).toInt := congrArg Int32.toInt ((pI_ne (a := 71) (b := 2) (c := 71) (k := 54) _ _ (Or.inr (by decide))))
      have lk169 : (((pI u151 71 54 r152)).1 71 5).toInt = (u151.1 71 5).toInt := congrArg Int32.toInt ((pI_ne (a := 71) (b := 5) (c := 71) (k := 54) _ _ (Or.inr (by decide))))
      refine r_callVv C oCl12 rfl miX12_asksSign mlX12_248 (ct7_X12_asksSign l E ((pI u151 71 54 r152)) k59 (g) (A) (59) (by omega) (oqZ_fr (oFr_oneI (q := 12) (m := 54) rfl (by rfl)) rfl (oqZ_fr fu151 rfl (oqZ_fr fu9 rfl hp13))) (by omega) (by omega) (oqBP_fr (oFr_oneI (q := 12) (m := 54) rfl (by rfl)) rfl pu151_4)) (by decide) rfl rfl rfl (Nat.le_of_ble_eq_true rfl) (oDec_at oX12_bookTold 45 rfl) (fun u170 pu170 fu170 => ?_)
      try dsimp only at pu170
      try simp only [lk162, lk163, lk164, lk165, lk166, lk167, lk168, lk169] at pu170
      obtain ⟨pu170_0, pu170_1, pu170_2, pu170_3, pu170_4⟩ := pu170
      have lc172 : ((u170).1 104 2).toInt = (s.1 104 2).toInt := congrArg Int32.toInt (((fu170 104 2 rfl).1).trans (((pI_ne (a := 104) (b := 2) (c := 71) _ _ (Or.inl (by decide)))).trans (((fu151 104 2 rfl).1).trans ((fu9 104 2 rfl).1))))
      have lc173 : ((u170).1 104 3).toInt = (s.1 104 3).toInt := congrArg Int32.toInt (((fu170 104 3 rfl).1).trans (((pI_ne (a := 104) (b := 3) (c := 71) _ _ (Or.inl (by decide)))).trans (((fu151 104 3 rfl).1).trans ((fu9 104 3 rfl).1))))
      have lk174 : ((u170).1 71 4).toInt = (u151.1 71 4).toInt := congrArg Int32.toInt (((fu170 71 4 rfl).1).trans ((pI_ne (a := 71) (b := 4) (c := 71) (k := 54) _ _ (Or.inr (by decide)))))
      have lk175 : ((u170).1 71 48).toInt = (s.1 71 48).toInt := congrArg Int32.toInt (((fu170 71 48 rfl).1).trans (((pI_ne (a := 71) (b := 48) (c := 71) (k := 54) _ _ (Or.inr (by decide)))).trans (((fu151 71 48 rfl).1).trans ((fu9 71 48 rfl).1))))
      have lk176 : ((u170).1 71 47).toInt = (s.1 71 47).toInt := congrArg Int32.toInt (((fu170 71 47 rfl).1).trans (((pI_ne (a := 71) (b := 47) (c := 71) (k := 54) _ _ (Or.inr (by decide)))).trans (((fu151 71 47 rfl).1).trans ((fu9 71 47 rfl).1))))
      have lk177 : ((u170).1 71 37).toInt = v4.toInt := congrArg Int32.toInt (((fu170 71 37 rfl).1).trans (((pI_ne (a := 71) (b := 37) (c := 71) (k := 54) _ _ (Or.inr (by decide)))).trans (((fu151 71 37 rfl).1).trans (((fu9 71 37 rfl).1).trans (ev4)))))
      have lk178 : ((u170).1 71 45).toInt = (s.1 71 45).toInt := congrArg Int32.toInt (((fu170 71 45 rfl).1).trans (((pI_ne (a := 71) (b := 45) (c := 71) (k := 54) _ _ (Or.inr (by decide)))).trans (((fu151 71 45 rfl).1).trans ((fu9 71 45 rfl).1))))
      have lk179 : ((u170).1 71 54).toInt = r152.toInt := congrArg Int32.toInt (((fu170 71 54 rfl).1).trans ((pI_self _ _ _ _)))
      try (have hbs := oqBs_3 (g := g) (a := a) (b := b) (R := R) (M := M) (N := N) hW3)
      try (have hbs := oqBs_4 (g := g) (a := a) (b := b) (R := R) (M := M) (N := N) hW4)
      try (have hbs := oqBs_5 (g := g) (a := a) (b := b) (R := R) (M := M) (N := N) hW5)
      have hF : ((((u170).1 71 5).toInt = 0 → oqBk g a b R M N = 0 ∧ ((u170).1 71 2).toInt = oqBa g a b ∧ ((u170).1 71 4).toInt = oqBb g a b) ∧ (((u170).1 71 5).toInt ≠ 0 → oqBk g a b R M N ≠ 0 ∧ ((u170).1 71 5).toInt = oqBk g a b R M N ∧ ((u170).1 71 6).toInt = oqBp g a b R M N)) := by first | exact oqBt_m (g := g) (a := a) (b := b) (R := R) (M := M) (N := N) (bs := (((pI u151 71 54 r152)).1 71 5).toInt) (ps := (((pI u151 71 54 r152)).1 71 6).toInt) (as := A) (es := (((pI u151 71 54 r152)).1 71 4).toInt) hW3 (fun h9 => by have h8 := hU1 (by omega); omega) (fun h9 => by have h8 := hU0 (by omega); omega) (fun h9 => by have h8 := pu170_0 h9; omega) (fun h9 => by have h8 := pu170_1 h9; omega) | exact (by by_cases hR : R < 12; exact oqBt_r (g := g) (a := a) (b := b) (R := R) (M := M) (N := N) hW4 hR (oqVs_59 (a := A) (hRT1 hR) (by omega) (fun h9 => pu170_3 (by omega)) (fun h9 => by have h8 := pu170_0 h9; omega) (fun h9 => by have h8 := pu170_1 h9; omega)); (have h5 := hRT5 (by omega); exact oqBt_x (oqB_r5 (g := g) (a := a) (b := b) (R := R) (M := M) (N := N) hW4 (by omega)).1 (oqB_r5 (g := g) (a := a) (b := b) (R := R) (M := M) (N := N) hW4 (by omega)).2 (by omega) (by omega) (by omega))) | exact (by by_cases hM : M < 6; (by_cases hk : oqMk g (oqHa g a 5) N M = 0; exact oqBt_o (g := g) (a := a) (b := b) (R := R) (M := M) (N := N) hW5 hM hk (oqVs_59 (a := A) (hMTV hM hk) (by omega) (fun h9 => pu170_3 (by omega)) (fun h9 => by have h8 := pu170_0 h9; omega) (fun h9 => by have h8 := pu170_1 h9; omega)); (have h8 := hMTK hM hk; have e9 := oqB_on (g := g) (a := a) (b := b) (R := R) (M := M) (N := N) hW5 hM (by rw [oqBh_i (i := 5) hW5]; exact hk); rw [oqBh_i (i := 5) hW5] at e9; exact oqBt_x e9.1 e9.2 hk (by omega) (by omega))); (have h5 := hMT5 (by omega); exact oqBt_x (oqB_o5 (g := g) (a := a) (b := b) (R := R) (M := M) (N := N) hW5 (by omega)).1 (oqB_o5 (g := g) (a := a) (b := b) (R := R) (M := M) (N := N) hW5 (by omega)).2 (by omega) (by omega) (by omega))) | exact oqBt_x (oqB_w (g := g) (a := a) (b := b) (R := R) (M := M) (N := N) ⟨hz3, hz4, oqWi_w (i := 5) (by decide) (by omega)⟩).1 (oqB_w (g := g) (a := a) (b := b) (R := R) (M := M) (N := N) ⟨hz3, hz4, oqWi_w (i := 5) (by decide) (by omega)⟩).2 (by omega) (by omega) (by omega)
      have hN91 : ((u170).1 71 5).toInt = 0 → oqNR (oqBN g a b N M) (oqBM g a b M) (u170) := by first | (intro h9; exfalso; omega) | (intro h9; rw [hbs.2.2, hbs.2.1]; exact (oqNR_fr fu170 rfl (oqNR_fr (oFr_oneI (q := 12) (m := 54) rfl (by rfl)) rfl (oqNR_fr fu151 rfl (oqNR_fr fu9 rfl hp10))))) | (intro h9; rw [hbs.2.2, hbs.2.1, oqBh_i (i := 5) hW5]; exact oqNR_fr fu170 rfl (hMTN (by omega)))
      have hbp : ((u170).1 71 5).toInt = 0 → ((u170).1 71 6).toInt = -1 := pu170_4
      have hA91 : ((u170).1 71 5).toInt = 0 → ((u170).1 71 45).toInt ≤ ((u170).1 71 2).toInt ∧ 2 ≤ ((u170).1 71 54).toInt ∧ ((u170).1 71 54).toInt ≤ 12 ∧ ((u170).1 104 2).toInt = oqBR g a b R ∧ ((u170).1 104 3).toInt = oqBM g a b M := fun h9 => by (have h8 := pu170_0 h9; try (have h7 := hU1 (by omega)); try (have h7 := hRTC (by omega); have h6 := hRTO (by omega)); try (have h7 := hMTC (by omega); have h6 := hMTO (by omega)); try clear hU1 hU0; try clear hRT1 hRT5 hRTC hRTO; try clear hMT5 hMTK hMTV hMTN hMTC hMTO; clear pu170_0 pu170_1 pu170_3; omega)
      try (clear hMT5)
      try (clear hMTK)
      try (clear hMTV)
      try (clear hMTN)
      try (clear hMTC)
      try (clear hMTO)
      try (clear hRT1)
      try (clear hRT5)
      try (clear hRTC)
      try (clear hRTO)
      try (clear hU1)
      try (clear hU0)
      try (clear pu170_0)
      try (clear pu170_1)
      try (clear pu170_3)
      refine r_aload_n C (j := 0) (oDec_at oX12_bookTold 46 rfl) rfl rfl ?_
      refine r_dup C (oDec_at oX12_bookTold 47 rfl) rfl ?_
      refine r_geti (k := 37) (lo := 0) (hi := 60) C v4 oCl12 rfl (by decide) flX12_231 rfl rfl (((fu170 71 37 rfl).1).trans (((pI_ne (a := 71) (b := 37) (c := 71) (k := 54) _ _ (Or.inr (by decide)))).trans (((fu151 71 37 rfl).1).trans (((fu9 71 37 rfl).1).trans (ev4))))) rfl rfl (oDec_at oX12_bookTold 48 rfl) (fun _ _ => ?_)
      refine r_pc C 96 rfl ?_
      refine r_iconst C (oDec_at oX12_bookTold 49 rfl) (v := k1) (by rw [qk1]; rfl) ?_
      obtain ⟨v180, ev180⟩ : ∃ z : Int32, z = v4 + k1 := ⟨_, rfl⟩
      have hv180 : v180.toInt = v4.toInt + k1.toInt := n_add ev180 (by omega) (by omega)
      refine r_iadd C v180 (oDec_at oX12_bookTold 50 rfl) ev180 ?_
      refine r_puti (k := 37) (lo := 0) (hi := 60) C oCl12 rfl (by decide) flX12_231 rfl rfl rfl rfl rfl rfl rfl rfl ⟨by omega, by omega⟩ (oDec_at oX12_bookTold 51 rfl) ?_
      have lk181 : (((pI u170 71 37 v180)).1 71 6).toInt = (u170.1 71 6).toInt := congrArg Int32.toInt ((pI_ne (a := 71) (b := 6) (c := 71) (k := 37) _ _ (Or.inr (by decide))))
      have lk182 : (((pI u170 71 37 v180)).1 71 5).toInt = (u170.1 71 5).toInt := congrArg Int32.toInt ((pI_ne (a := 71) (b := 5) (c := 71) (k := 37) _ _ (Or.inr (by decide))))
      have lk183 : (((pI u170 71 37 v180)).1 71 5).toInt = (u170.1 71 5).toInt := congrArg Int32.toInt ((pI_ne (a := 71) (b := 5) (c := 71) (k := 37) _ _ (Or.inr (by decide))))
      have lk184 : (((pI u170 71 37 v180)).1 71 45).toInt = (s.1 71 45).toInt := congrArg Int32.toInt (((pI_ne (a := 71) (b := 45) (c := 71) (k := 37) _ _ (Or.inr (by decide)))).trans (((fu170 71 45 rfl).1).trans (((pI_ne (a := 71) (b := 45) (c := 71) (k := 54) _ _ (Or.inr (by decide)))).trans (((fu151 71 45 rfl).1).trans ((fu9 71 45 rfl).1)))))
      have lk185 : (((pI u170 71 37 v180)).1 71 2).toInt = (u170.1 71 2).toInt := congrArg Int32.toInt ((pI_ne (a := 71) (b := 2) (c := 71) (k := 37) _ _ (Or.inr (by decide))))
      have lk186 : (((pI u170 71 37 v180)).1 71 54).toInt = r152.toInt := congrArg Int32.toInt (((pI_ne (a := 71) (b := 54) (c := 71) (k := 37) _ _ (Or.inr (by decide)))).trans (((fu170 71 54 rfl).1).trans ((pI_self _ _ _ _))))
      have lk187 : (((pI u170 71 37 v180)).1 71 37).toInt = v180.toInt := congrArg Int32.toInt ((pI_self _ _ _ _))
      have lk188 : (((pI u170 71 37 v180)).1 71 37).toInt = v180.toInt := congrArg Int32.toInt ((pI_self _ _ _ _))
      have lc189 : (((pI u170 71 37 v180)).1 104 3).toInt = (s.1 104 3).toInt := congrArg Int32.toInt (((pI_ne (a := 104) (b := 3) (c := 71) _ _ (Or.inl (by decide)))).trans (((fu170 104 3 rfl).1).trans (((pI_ne (a := 104) (b := 3) (c := 71) _ _ (Or.inl (by decide)))).trans (((fu151 104 3 rfl).1).trans ((fu9 104 3 rfl).1)))))
      have lk190 : (((pI u170 71 37 v180)).1 71 5).toInt = (u170.1 71 5).toInt := congrArg Int32.toInt ((pI_ne (a := 71) (b := 5) (c := 71) (k := 37) _ _ (Or.inr (by decide))))
      have lk191 : (((pI u170 71 37 v180)).1 71 6).toInt = (u170.1 71 6).toInt := congrArg Int32.toInt ((pI_ne (a := 71) (b := 6) (c := 71) (k := 37) _ _ (Or.inr (by decide))))
      have lc192 : (((pI u170 71 37 v180)).1 104 2).toInt = (s.1 104 2).toInt := congrArg Int32.toInt (((pI_ne (a := 104) (b := 2) (c := 71) _ _ (Or.inl (by decide)))).trans (((fu170 104 2 rfl).1).trans (((pI_ne (a := 104) (b := 2) (c := 71) _ _ (Or.inl (by decide)))).trans (((fu151 104 2 rfl).1).trans ((fu9 104 2 rfl).1)))))
      have lc193 : (((pI u170 71 37 v180)).1 104 3).toInt = (s.1 104 3).toInt := congrArg Int32.toInt (((pI_ne (a := 104) (b := 3) (c := 71) _ _ (Or.inl (by decide)))).trans (((fu170 104 3 rfl).1).trans (((pI_ne (a := 104) (b := 3) (c := 71) _ _ (Or.inl (by decide)))).trans (((fu151 104 3 rfl).1).trans ((fu9 104 3 rfl).1)))))
      have lk194 : (((pI u170 71 37 v180)).1 71 5).toInt = (u170.1 71 5).toInt := congrArg Int32.toInt ((pI_ne (a := 71) (b := 5) (c := 71) (k := 37) _ _ (Or.inr (by decide))))
      have lk195 : (((pI u170 71 37 v180)).1 71 2).toInt = (u170.1 71 2).toInt := congrArg Int32.toInt ((pI_ne (a := 71) (b := 2) (c := 71) (k := 37) _ _ (Or.inr (by decide))))
      have lk196 : (((pI u170 71 37 v180)).1 71 4).toInt = (u151.1 71 4).toInt := congrArg Int32.toInt (((pI_ne (a := 71) (b := 4) (c := 71) (k := 37) _ _ (Or.inr (by decide)))).trans (((fu170 71 4 rfl).1).trans ((pI_ne (a := 71) (b := 4) (c := 71) (k := 54) _ _ (Or.inr (by decide))))))
      have lk197 : (((pI u170 71 37 v180)).1 71 6).toInt = (u170.1 71 6).toInt := congrArg Int32.toInt ((pI_ne (a := 71) (b := 6) (c := 71) (k := 37) _ _ (Or.inr (by decide))))
      have lk198 : (((pI u170 71 37 v180)).1 71 5).toInt = (u170.1 71 5).toInt := congrArg Int32.toInt ((pI_ne (a := 71) (b := 5) (c := 71) (k := 37) _ _ (Or.inr (by decide))))
      have lk199 : (((pI u170 71 37 v180)).1 71 6).toInt = (u170.1 71 6).toInt := congrArg Int32.toInt ((pI_ne (a := 71) (b := 6) (c := 71) (k := 37) _ _ (Or.inr (by decide))))
      have lk200 : (((pI u170 71 37 v180)).1 71 5).toInt = (u170.1 71 5).toInt := congrArg Int32.toInt ((pI_ne (a := 71) (b := 5) (c := 71) (k := 37) _ _ (Or.inr (by decide))))
      exact r_vret C (oDec_at oX12_bookTold 52 rfl) ⟨rfl, ⟨(oBB_fr (oFr_oneI (q := 12) (m := 37) rfl (by rfl)) rfl (oBB_frb fu170 rfl (by omega) (oBB_fr (oFr_oneI (q := 12) (m := 54) rfl (by rfl)) rfl (oBB_frb fu151 rfl (by omega) (oBB_fr fu9 rfl hp0))))), fun h9 => by (have h8 := hA91 (by omega); clear hA91 hF hbp; omega), by omega, by omega, by omega, fun _ h9 => by (have h8 := hA91 (by omega); have h7 := hF.1 (by omega); have h6 := hbp (by omega); clear hA91 hF hbp; omega), fun _ h9 => by (have h7 := hF.2 (by omega); clear hA91 hF hbp; omega), fun _ h9 => oqNR_fr (oFr_oneI (q := 12) (m := 37) rfl (by rfl)) rfl (hN91 (by omega))⟩⟩
  · skip
    refine r_aload_n C (j := 0) (oDec_at oX12_bookTold 7 rfl) rfl rfl ?_
    refine r_iconst C (oDec_at oX12_bookTold 8 rfl) (v := k5) (by rw [qk5]; rfl) ?_
    refine r_iload_n C (j := 1) (oDec_at oX12_bookTold 9 rfl) rfl rfl ?_
    refine r_callVv C oCl12 rfl miX12_fail mlX12_203 (ct7_X12_fail l E (s) k5 v2 (by omega) hq1) (by decide) rfl rfl rfl (Nat.le_of_ble_eq_true rfl) (oDec_at oX12_bookTold 10 rfl) (fun u201 pu201 fu201 => ?_)
    try dsimp only at pu201
    obtain ⟨pu201_0, pu201_1, pu201_2⟩ := pu201
    have lk203 : ((u201).1 71 45).toInt = (s.1 71 45).toInt := congrArg Int32.toInt ((fu201 71 45 rfl).1)
    have lk204 : ((u201).1 71 2).toInt = v2.toInt := congrArg Int32.toInt (((fu201 71 2 rfl).1).trans (ev2))
    have lk205 : ((u201).1 71 54).toInt = (s.1 71 54).toInt := congrArg Int32.toInt ((fu201 71 54 rfl).1)
    have lk206 : ((u201).1 71 37).toInt = v4.toInt := congrArg Int32.toInt (((fu201 71 37 rfl).1).trans (ev4))
    have lk207 : ((u201).1 71 37).toInt = v4.toInt := congrArg Int32.toInt (((fu201 71 37 rfl).1).trans (ev4))
    have lc208 : ((u201).1 104 3).toInt = (s.1 104 3).toInt := congrArg Int32.toInt ((fu201 104 3 rfl).1)
    have lc209 : ((u201).1 104 2).toInt = (s.1 104 2).toInt := congrArg Int32.toInt ((fu201 104 2 rfl).1)
    have lc210 : ((u201).1 104 3).toInt = (s.1 104 3).toInt := congrArg Int32.toInt ((fu201 104 3 rfl).1)
    have lk211 : ((u201).1 71 2).toInt = v2.toInt := congrArg Int32.toInt (((fu201 71 2 rfl).1).trans (ev2))
    have lk212 : ((u201).1 71 4).toInt = (s.1 71 4).toInt := congrArg Int32.toInt ((fu201 71 4 rfl).1)
    exact r_vret C (oDec_at oX12_bookTold 11 rfl) ⟨rfl, ⟨(oBB_frb fu201 rfl (by omega) hp0), by omega, by omega, by omega, by omega, by omega, by omega, fun h9 => by exfalso; omega⟩⟩
