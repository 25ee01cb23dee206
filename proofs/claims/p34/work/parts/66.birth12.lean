def t_X12_init_71 (σ : oS) : oS := (pR (pR (pR (pR (pR (pR (pR (pR (pI (pI (pI (pR (pR (pI (pR (pR (pR (pR (pR (pR (pI (pR (pR (pR (pR (pI (pI (pI (pR (pI (pI (pI (pR (pI (pI (pI (pI (pR (pI (pI (pI (pI (pR (pI (pI (pI (pI (pI (pI (pR (pI (pI (pI (pI (pR (pI (pI (pI (pI (pI (pR (pI (pI (pI (pI (pR (pI (pI (pI (pR (pI (pI (pI (pI (pI (pR (pI (pI (pI (pI (pR (pI (pI (pI (pI (pR (pI (pI (pI (pI (pI (pR (pI (pI (pI (pI (pR (pI (pI (pI (pR (pI (pI (pI (pR (pI (pI (pI (pR (pI (pI (pI (pR (pI (pI (pR (pI (pI (pI (pI (pR (pI (pI (pI (pI (pI (pR (pI (pI (pI (pR (pI (pI (pI (pI (pI (pI (pI (pR (pI (pI (pI (pI (pR (pI (pI (pI (pR (pI (pI (pI (pI (pI (pR σ 71 0 73) 71 8 (-1)) 73 0 115) 73 1 116) 73 2 101) 73 3 112) 71 10 74) 74 0 102) 74 1 111) 74 2 114) 71 11 75) 75 0 114) 75 1 101) 75 2 115) 75 3 116) 71 12 76) 76 0 109) 76 1 101) 76 2 97) 76 3 115) 76 4 117) 76 5 114) 76 6 101) 71 13 77) 77 0 98) 77 1 97) 77 2 100) 71 14 78) 78 0 109) 78 1 111) 78 2 116) 78 3 116) 78 4 111) 71 15 79) 79 0 119) 79 1 104) 79 2 101) 79 3 110) 71 16 80) 80 0 111) 80 1 114) 71 17 81) 81 0 97) 81 1 110) 81 2 100) 71 18 82) 82 0 110) 82 1 111) 82 2 116) 71 19 83) 83 0 97) 83 1 108) 83 2 108) 71 20 84) 84 0 103) 84 1 97) 84 2 112) 71 21 85) 85 0 115) 85 1 111) 85 2 114) 85 3 116) 71 22 86) 86 0 117) 86 1 110) 86 2 100) 86 3 101) 86 4 114) 71 23 87) 87 0 98) 87 1 101) 87 2 97) 87 3 116) 71 24 88) 88 0 114) 88 1 105) 88 2 115) 88 3 101) 71 25 89) 89 0 99) 89 1 108) 89 2 105) 89 3 109) 89 4 98) 71 26 90) 90 0 119) 90 1 97) 90 2 115) 71 27 91) 91 0 108) 91 1 97) 91 2 115) 91 3 116) 71 28 92) 92 0 100) 92 1 101) 92 2 108) 92 3 97) 92 4 121) 71 29 93) 93 0 104) 93 1 105) 93 2 103) 93 3 104) 71 30 94) 94 0 109) 94 1 105) 94 2 114) 94 3 114) 94 4 111) 94 5 114) 71 31 95) 95 0 98) 95 1 97) 95 2 99) 95 3 107) 71 32 96) 96 0 112) 96 1 97) 96 2 99) 96 3 101) 71 33 97) 97 0 109) 97 1 105) 97 2 110) 71 34 98) 98 0 109) 98 1 97) 98 2 120) 71 35 99) 71 39 100) 71 40 101) 71 41 102) 71 43 (-1)) 71 44 103) 71 46 104) 71 49 105) 71 50 106) 71 51 107) 71 52 108) 71 53 4) 71 57 109) 71 59 110) 71 64 (-1)) 71 66 8) 71 67 4) 71 70 111) 71 72 112) 71 73 113) 71 74 114) 71 75 115) 71 76 116) 71 78 117) 71 80 118)
set_option maxHeartbeats 4000000 in
set_option maxRecDepth 100000 in
theorem ci_X12_init_71 (l : Launch) : oMi l 1 yX12_init cX12_init 1 46 14859 72 118 (fun E => [.ref (oad E 71)]) t_X12_init_71 := by
  refine oMi.of (lv := fun E => [(0, .ref (oad E 71))]) (by decide +kernel) (fun _ => Nat.le_of_ble_eq_true rfl) (fun _ => rfl) (fun E σ J C => ?_)
  have C : oCi l 1 46 14859 cX12_init RX12 "<init>" 1 E 72 118 (t_X12_init_71 σ) J := C
  refine i_aload_n C (j := 0) (oDec_at oX12i_0 0 rfl) rfl rfl ?_
  refine i_obj C obX12 obI obC (Nat.le_of_ble_eq_true rfl) (by decide) (oDec_at oX12i_0 1 rfl) ?_
  refine i_at C (n2 := 72) (k2 := 0) (s2 := 0) (pc2 := 4) rfl rfl rfl rfl ?_
  refine i_aload_n C (j := 0) (oDec_at oX12i_0 2 rfl) rfl rfl ?_
  refine i_sipush C (x := 1600) (oDec_at oX12i_0 3 rfl) rfl ?_
  refine i_at C (n2 := 72) (k2 := 0) (s2 := 0) (pc2 := 8) rfl rfl rfl rfl ?_
  refine i_newa C (at' := .int) (t := 0) (N := 1600) ac_int rfl rfl ra_int rfl (by decide) rfl rfl (Or.inl ⟨by decide, rfl⟩) (by decide) rfl (by decide) (by decide) (by decide) (oDec_at oX12i_0 4 rfl) (fun ad1 h1 => ?_)
  rw [← h1 71 (by decide)]
  refine i_at C (n2 := 73) (k2 := 1) (s2 := 1600) (pc2 := 10) rfl rfl rfl rfl ?_
  refine i_putrF C (a := 71) (k1 := 0) (b := 72) oCl12 rfl (by decide) (by decide) (by decide) flX12_7 rfl rfl rfl rfl (fun _ => rfl) (fun _ => rfl) (oDec_at oX12i_0 5 rfl) ?_
  refine i_aload_n C (j := 0) (oDec_at oX12i_0 6 rfl) rfl rfl ?_
  refine i_iconst C (x := (-1)) (oDec_at oX12i_0 7 rfl) rfl ?_
  refine i_at C (n2 := 73) (k2 := 1) (s2 := 1600) (pc2 := 15) rfl rfl rfl rfl ?_
  refine i_puti C (a := 71) (k1 := 8) oCl12 rfl (by decide) (by decide) flX12_13 rfl rfl rfl rfl rfl (oDec_at oX12i_0 8 rfl) ?_
  refine i_aload_n C (j := 0) (oDec_at oX12i_0 9 rfl) rfl rfl ?_
  refine i_iconst C (x := 4) (oDec_at oX12i_0 10 rfl) rfl ?_
  refine i_newa C (at' := .char) (t := 1) (N := 4) ac_char rfl rfl ra_char rfl (by decide) rfl rfl (Or.inl ⟨by decide, rfl⟩) (by decide) rfl (by decide) (by decide) (by decide) (oDec_at oX12i_0 11 rfl) (fun ad2 h2 => ?_)
  rw [← h2 71 (by decide)]
  refine i_at C (n2 := 74) (k2 := 2) (s2 := 1604) (pc2 := 22) rfl rfl rfl rfl ?_
  refine i_dup C (oDec_at oX12i_0 12 rfl) ?_
  refine i_iconst C (x := 0) (oDec_at oX12i_0 13 rfl) rfl ?_
  refine i_bipush C (x := 115) (oDec_at oX12i_0 14 rfl) rfl ?_
  refine i_cast C (a := 73) rfl (by decide) (by decide) rfl rfl (by decide) rfl (oDec_at oX12i_0 15 rfl) ?_
  refine i_at C (n2 := 74) (k2 := 2) (s2 := 1604) (pc2 := 27) rfl rfl rfl rfl ?_
  refine i_dup C (oDec_at oX12i_0 16 rfl) ?_
  refine i_iconst C (x := 1) (oDec_at oX12i_0 17 rfl) rfl ?_
  refine i_bipush C (x := 116) (oDec_at oX12i_0 18 rfl) rfl ?_
  refine i_cast C (a := 73) rfl (by decide) (by decide) rfl rfl (by decide) rfl (oDec_at oX12i_0 19 rfl) ?_
  refine i_at C (n2 := 74) (k2 := 2) (s2 := 1604) (pc2 := 32) rfl rfl rfl rfl ?_
  refine i_dup C (oDec_at oX12i_0 20 rfl) ?_
  refine i_iconst C (x := 2) (oDec_at oX12i_0 21 rfl) rfl ?_
  refine i_bipush C (x := 101) (oDec_at oX12i_0 22 rfl) rfl ?_
  refine i_cast C (a := 73) rfl (by decide) (by decide) rfl rfl (by decide) rfl (oDec_at oX12i_0 23 rfl) ?_
  refine i_at C (n2 := 74) (k2 := 2) (s2 := 1604) (pc2 := 37) rfl rfl rfl rfl ?_
  refine i_dup C (oDec_at oX12i_0 24 rfl) ?_
  refine i_iconst C (x := 3) (oDec_at oX12i_0 25 rfl) rfl ?_
  refine i_bipush C (x := 112) (oDec_at oX12i_0 26 rfl) rfl ?_
  refine i_cast C (a := 73) rfl (by decide) (by decide) rfl rfl (by decide) rfl (oDec_at oX12i_0 27 rfl) ?_
  refine i_at C (n2 := 74) (k2 := 2) (s2 := 1604) (pc2 := 42) rfl rfl rfl rfl ?_
  refine i_putrF C (a := 71) (k1 := 10) (b := 73) oCl12 rfl (by decide) (by decide) (by decide) flX12_17 rfl rfl rfl rfl (fun _ => rfl) (fun _ => rfl) (oDec_at oX12i_0 28 rfl) ?_
  refine i_aload_n C (j := 0) (oDec_at oX12i_0 29 rfl) rfl rfl ?_
  refine i_iconst C (x := 3) (oDec_at oX12i_0 30 rfl) rfl ?_
  refine i_newa C (at' := .char) (t := 1) (N := 3) ac_char rfl rfl ra_char rfl (by decide) rfl rfl (Or.inl ⟨by decide, rfl⟩) (by decide) rfl (by decide) (by decide) (by decide) (oDec_at oX12i_0 31 rfl) (fun ad3 h3 => ?_)
  rw [← h3 71 (by decide)]
  refine i_at C (n2 := 75) (k2 := 3) (s2 := 1607) (pc2 := 49) rfl rfl rfl rfl ?_
  refine i_dup C (oDec_at oX12i_0 32 rfl) ?_
  refine i_iconst C (x := 0) (oDec_at oX12i_0 33 rfl) rfl ?_
  refine i_bipush C (x := 102) (oDec_at oX12i_0 34 rfl) rfl ?_
  refine i_cast C (a := 74) rfl (by decide) (by decide) rfl rfl (by decide) rfl (oDec_at oX12i_0 35 rfl) ?_
  refine i_at C (n2 := 75) (k2 := 3) (s2 := 1607) (pc2 := 54) rfl rfl rfl rfl ?_
  refine i_dup C (oDec_at oX12i_0 36 rfl) ?_
  refine i_iconst C (x := 1) (oDec_at oX12i_0 37 rfl) rfl ?_
  refine i_bipush C (x := 111) (oDec_at oX12i_0 38 rfl) rfl ?_
  refine i_cast C (a := 74) rfl (by decide) (by decide) rfl rfl (by decide) rfl (oDec_at oX12i_0 39 rfl) ?_
  refine i_at C (n2 := 75) (k2 := 3) (s2 := 1607) (pc2 := 59) rfl rfl rfl rfl ?_
  refine i_dup C (oDec_at oX12i_0 40 rfl) ?_
  refine i_iconst C (x := 2) (oDec_at oX12i_0 41 rfl) rfl ?_
  refine i_bipush C (x := 114) (oDec_at oX12i_0 42 rfl) rfl ?_
  refine i_cast C (a := 74) rfl (by decide) (by decide) rfl rfl (by decide) rfl (oDec_at oX12i_0 43 rfl) ?_
  refine i_at C (n2 := 75) (k2 := 3) (s2 := 1607) (pc2 := 64) rfl rfl rfl rfl ?_
  refine i_putrF C (a := 71) (k1 := 11) (b := 74) oCl12 rfl (by decide) (by decide) (by decide) flX12_21 rfl rfl rfl rfl (fun _ => rfl) (fun _ => rfl) (oDec_at oX12i_0 44 rfl) ?_
  refine i_aload_n C (j := 0) (oDec_at oX12i_0 45 rfl) rfl rfl ?_
  refine i_iconst C (x := 4) (oDec_at oX12i_0 46 rfl) rfl ?_
  refine i_newa C (at' := .char) (t := 1) (N := 4) ac_char rfl rfl ra_char rfl (by decide) rfl rfl (Or.inl ⟨by decide, rfl⟩) (by decide) rfl (by decide) (by decide) (by decide) (oDec_at oX12i_0 47 rfl) (fun ad4 h4 => ?_)
  rw [← h4 71 (by decide)]
  refine i_at C (n2 := 76) (k2 := 4) (s2 := 1611) (pc2 := 71) rfl rfl rfl rfl ?_
  refine i_dup C (oDec_at oX12i_0 48 rfl) ?_
  refine i_iconst C (x := 0) (oDec_at oX12i_0 49 rfl) rfl ?_
  refine i_bipush C (x := 114) (oDec_at oX12i_1 0 rfl) rfl ?_
  refine i_cast C (a := 75) rfl (by decide) (by decide) rfl rfl (by decide) rfl (oDec_at oX12i_1 1 rfl) ?_
  refine i_at C (n2 := 76) (k2 := 4) (s2 := 1611) (pc2 := 76) rfl rfl rfl rfl ?_
  refine i_dup C (oDec_at oX12i_1 2 rfl) ?_
  refine i_iconst C (x := 1) (oDec_at oX12i_1 3 rfl) rfl ?_
  refine i_bipush C (x := 101) (oDec_at oX12i_1 4 rfl) rfl ?_
  refine i_cast C (a := 75) rfl (by decide) (by decide) rfl rfl (by decide) rfl (oDec_at oX12i_1 5 rfl) ?_
  refine i_at C (n2 := 76) (k2 := 4) (s2 := 1611) (pc2 := 81) rfl rfl rfl rfl ?_
  refine i_dup C (oDec_at oX12i_1 6 rfl) ?_
  refine i_iconst C (x := 2) (oDec_at oX12i_1 7 rfl) rfl ?_
  refine i_bipush C (x := 115) (oDec_at oX12i_1 8 rfl) rfl ?_
  refine i_cast C (a := 75) rfl (by decide) (by decide) rfl rfl (by decide) rfl (oDec_at oX12i_1 9 rfl) ?_
  refine i_at C (n2 := 76) (k2 := 4) (s2 := 1611) (pc2 := 86) rfl rfl rfl rfl ?_
  refine i_dup C (oDec_at oX12i_1 10 rfl) ?_
  refine i_iconst C (x := 3) (oDec_at oX12i_1 11 rfl) rfl ?_
  refine i_bipush C (x := 116) (oDec_at oX12i_1 12 rfl) rfl ?_
  refine i_cast C (a := 75) rfl (by decide) (by decide) rfl rfl (by decide) rfl (oDec_at oX12i_1 13 rfl) ?_
  refine i_at C (n2 := 76) (k2 := 4) (s2 := 1611) (pc2 := 91) rfl rfl rfl rfl ?_
  refine i_putrF C (a := 71) (k1 := 12) (b := 75) oCl12 rfl (by decide) (by decide) (by decide) flX12_24 rfl rfl rfl rfl (fun _ => rfl) (fun _ => rfl) (oDec_at oX12i_1 14 rfl) ?_
  refine i_aload_n C (j := 0) (oDec_at oX12i_1 15 rfl) rfl rfl ?_
  refine i_bipush C (x := 7) (oDec_at oX12i_1 16 rfl) rfl ?_
  refine i_newa C (at' := .char) (t := 1) (N := 7) ac_char rfl rfl ra_char rfl (by decide) rfl rfl (Or.inl ⟨by decide, rfl⟩) (by decide) rfl (by decide) (by decide) (by decide) (oDec_at oX12i_1 17 rfl) (fun ad5 h5 => ?_)
  rw [← h5 71 (by decide)]
  refine i_at C (n2 := 77) (k2 := 5) (s2 := 1618) (pc2 := 99) rfl rfl rfl rfl ?_
  refine i_dup C (oDec_at oX12i_1 18 rfl) ?_
  refine i_iconst C (x := 0) (oDec_at oX12i_1 19 rfl) rfl ?_
  refine i_bipush C (x := 109) (oDec_at oX12i_1 20 rfl) rfl ?_
  refine i_cast C (a := 76) rfl (by decide) (by decide) rfl rfl (by decide) rfl (oDec_at oX12i_1 21 rfl) ?_
  refine i_at C (n2 := 77) (k2 := 5) (s2 := 1618) (pc2 := 104) rfl rfl rfl rfl ?_
  refine i_dup C (oDec_at oX12i_1 22 rfl) ?_
  refine i_iconst C (x := 1) (oDec_at oX12i_1 23 rfl) rfl ?_
  refine i_bipush C (x := 101) (oDec_at oX12i_1 24 rfl) rfl ?_
  refine i_cast C (a := 76) rfl (by decide) (by decide) rfl rfl (by decide) rfl (oDec_at oX12i_1 25 rfl) ?_
  refine i_at C (n2 := 77) (k2 := 5) (s2 := 1618) (pc2 := 109) rfl rfl rfl rfl ?_
  refine i_dup C (oDec_at oX12i_1 26 rfl) ?_
  refine i_iconst C (x := 2) (oDec_at oX12i_1 27 rfl) rfl ?_
  refine i_bipush C (x := 97) (oDec_at oX12i_1 28 rfl) rfl ?_
  refine i_cast C (a := 76) rfl (by decide) (by decide) rfl rfl (by decide) rfl (oDec_at oX12i_1 29 rfl) ?_
  refine i_at C (n2 := 77) (k2 := 5) (s2 := 1618) (pc2 := 114) rfl rfl rfl rfl ?_
  refine i_dup C (oDec_at oX12i_1 30 rfl) ?_
  refine i_iconst C (x := 3) (oDec_at oX12i_1 31 rfl) rfl ?_
  refine i_bipush C (x := 115) (oDec_at oX12i_1 32 rfl) rfl ?_
  refine i_cast C (a := 76) rfl (by decide) (by decide) rfl rfl (by decide) rfl (oDec_at oX12i_1 33 rfl) ?_
  refine i_at C (n2 := 77) (k2 := 5) (s2 := 1618) (pc2 := 119) rfl rfl rfl rfl ?_
  refine i_dup C (oDec_at oX12i_1 34 rfl) ?_
  refine i_iconst C (x := 4) (oDec_at oX12i_1 35 rfl) rfl ?_
  refine i_bipush C (x := 117) (oDec_at oX12i_1 36 rfl) rfl ?_
  refine i_cast C (a := 76) rfl (by decide) (by decide) rfl rfl (by decide) rfl (oDec_at oX12i_1 37 rfl) ?_
  refine i_at C (n2 := 77) (k2 := 5) (s2 := 1618) (pc2 := 124) rfl rfl rfl rfl ?_
  refine i_dup C (oDec_at oX12i_1 38 rfl) ?_
  refine i_iconst C (x := 5) (oDec_at oX12i_1 39 rfl) rfl ?_
  refine i_bipush C (x := 114) (oDec_at oX12i_1 40 rfl) rfl ?_
  refine i_cast C (a := 76) rfl (by decide) (by decide) rfl rfl (by decide) rfl (oDec_at oX12i_1 41 rfl) ?_
  refine i_at C (n2 := 77) (k2 := 5) (s2 := 1618) (pc2 := 129) rfl rfl rfl rfl ?_
  refine i_dup C (oDec_at oX12i_1 42 rfl) ?_
  refine i_bipush C (x := 6) (oDec_at oX12i_1 43 rfl) rfl ?_
  refine i_bipush C (x := 101) (oDec_at oX12i_1 44 rfl) rfl ?_
  refine i_cast C (a := 76) rfl (by decide) (by decide) rfl rfl (by decide) rfl (oDec_at oX12i_1 45 rfl) ?_
  refine i_at C (n2 := 77) (k2 := 5) (s2 := 1618) (pc2 := 135) rfl rfl rfl rfl ?_
  refine i_putrF C (a := 71) (k1 := 13) (b := 76) oCl12 rfl (by decide) (by decide) (by decide) flX12_27 rfl rfl rfl rfl (fun _ => rfl) (fun _ => rfl) (oDec_at oX12i_1 46 rfl) ?_
  refine i_aload_n C (j := 0) (oDec_at oX12i_1 47 rfl) rfl rfl ?_
  refine i_iconst C (x := 3) (oDec_at oX12i_1 48 rfl) rfl ?_
  refine i_newa C (at' := .char) (t := 1) (N := 3) ac_char rfl rfl ra_char rfl (by decide) rfl rfl (Or.inl ⟨by decide, rfl⟩) (by decide) rfl (by decide) (by decide) (by decide) (oDec_at oX12i_1 49 rfl) (fun ad6 h6 => ?_)
  rw [← h6 71 (by decide)]
  refine i_at C (n2 := 78) (k2 := 6) (s2 := 1621) (pc2 := 142) rfl rfl rfl rfl ?_
  refine i_dup C (oDec_at oX12i_2 0 rfl) ?_
  refine i_iconst C (x := 0) (oDec_at oX12i_2 1 rfl) rfl ?_
  refine i_bipush C (x := 98) (oDec_at oX12i_2 2 rfl) rfl ?_
  refine i_cast C (a := 77) rfl (by decide) (by decide) rfl rfl (by decide) rfl (oDec_at oX12i_2 3 rfl) ?_
  refine i_at C (n2 := 78) (k2 := 6) (s2 := 1621) (pc2 := 147) rfl rfl rfl rfl ?_
  refine i_dup C (oDec_at oX12i_2 4 rfl) ?_
  refine i_iconst C (x := 1) (oDec_at oX12i_2 5 rfl) rfl ?_
  refine i_bipush C (x := 97) (oDec_at oX12i_2 6 rfl) rfl ?_
  refine i_cast C (a := 77) rfl (by decide) (by decide) rfl rfl (by decide) rfl (oDec_at oX12i_2 7 rfl) ?_
  refine i_at C (n2 := 78) (k2 := 6) (s2 := 1621) (pc2 := 152) rfl rfl rfl rfl ?_
  refine i_dup C (oDec_at oX12i_2 8 rfl) ?_
  refine i_iconst C (x := 2) (oDec_at oX12i_2 9 rfl) rfl ?_
  refine i_bipush C (x := 100) (oDec_at oX12i_2 10 rfl) rfl ?_
  refine i_cast C (a := 77) rfl (by decide) (by decide) rfl rfl (by decide) rfl (oDec_at oX12i_2 11 rfl) ?_
  refine i_at C (n2 := 78) (k2 := 6) (s2 := 1621) (pc2 := 157) rfl rfl rfl rfl ?_
  refine i_putrF C (a := 71) (k1 := 14) (b := 77) oCl12 rfl (by decide) (by decide) (by decide) flX12_30 rfl rfl rfl rfl (fun _ => rfl) (fun _ => rfl) (oDec_at oX12i_2 12 rfl) ?_
  refine i_aload_n C (j := 0) (oDec_at oX12i_2 13 rfl) rfl rfl ?_
  refine i_iconst C (x := 5) (oDec_at oX12i_2 14 rfl) rfl ?_
  refine i_newa C (at' := .char) (t := 1) (N := 5) ac_char rfl rfl ra_char rfl (by decide) rfl rfl (Or.inl ⟨by decide, rfl⟩) (by decide) rfl (by decide) (by decide) (by decide) (oDec_at oX12i_2 15 rfl) (fun ad7 h7 => ?_)
  rw [← h7 71 (by decide)]
  refine i_at C (n2 := 79) (k2 := 7) (s2 := 1626) (pc2 := 164) rfl rfl rfl rfl ?_
  refine i_dup C (oDec_at oX12i_2 16 rfl) ?_
  refine i_iconst C (x := 0) (oDec_at oX12i_2 17 rfl) rfl ?_
  refine i_bipush C (x := 109) (oDec_at oX12i_2 18 rfl) rfl ?_
  refine i_cast C (a := 78) rfl (by decide) (by decide) rfl rfl (by decide) rfl (oDec_at oX12i_2 19 rfl) ?_
  refine i_at C (n2 := 79) (k2 := 7) (s2 := 1626) (pc2 := 169) rfl rfl rfl rfl ?_
  refine i_dup C (oDec_at oX12i_2 20 rfl) ?_
  refine i_iconst C (x := 1) (oDec_at oX12i_2 21 rfl) rfl ?_
  refine i_bipush C (x := 111) (oDec_at oX12i_2 22 rfl) rfl ?_
  refine i_cast C (a := 78) rfl (by decide) (by decide) rfl rfl (by decide) rfl (oDec_at oX12i_2 23 rfl) ?_
  refine i_at C (n2 := 79) (k2 := 7) (s2 := 1626) (pc2 := 174) rfl rfl rfl rfl ?_
  refine i_dup C (oDec_at oX12i_2 24 rfl) ?_
  refine i_iconst C (x := 2) (oDec_at oX12i_2 25 rfl) rfl ?_
  refine i_bipush C (x := 116) (oDec_at oX12i_2 26 rfl) rfl ?_
  refine i_cast C (a := 78) rfl (by decide) (by decide) rfl rfl (by decide) rfl (oDec_at oX12i_2 27 rfl) ?_
  refine i_at C (n2 := 79) (k2 := 7) (s2 := 1626) (pc2 := 179) rfl rfl rfl rfl ?_
  refine i_dup C (oDec_at oX12i_2 28 rfl) ?_
  refine i_iconst C (x := 3) (oDec_at oX12i_2 29 rfl) rfl ?_
  refine i_bipush C (x := 116) (oDec_at oX12i_2 30 rfl) rfl ?_
  refine i_cast C (a := 78) rfl (by decide) (by decide) rfl rfl (by decide) rfl (oDec_at oX12i_2 31 rfl) ?_
  refine i_at C (n2 := 79) (k2 := 7) (s2 := 1626) (pc2 := 184) rfl rfl rfl rfl ?_
  refine i_dup C (oDec_at oX12i_2 32 rfl) ?_
  refine i_iconst C (x := 4) (oDec_at oX12i_2 33 rfl) rfl ?_
  refine i_bipush C (x := 111) (oDec_at oX12i_2 34 rfl) rfl ?_
  refine i_cast C (a := 78) rfl (by decide) (by decide) rfl rfl (by decide) rfl (oDec_at oX12i_2 35 rfl) ?_
  refine i_at C (n2 := 79) (k2 := 7) (s2 := 1626) (pc2 := 189) rfl rfl rfl rfl ?_
  refine i_putrF C (a := 71) (k1 := 15) (b := 78) oCl12 rfl (by decide) (by decide) (by decide) flX12_33 rfl rfl rfl rfl (fun _ => rfl) (fun _ => rfl) (oDec_at oX12i_2 36 rfl) ?_
  refine i_aload_n C (j := 0) (oDec_at oX12i_2 37 rfl) rfl rfl ?_
  refine i_iconst C (x := 4) (oDec_at oX12i_2 38 rfl) rfl ?_
  refine i_newa C (at' := .char) (t := 1) (N := 4) ac_char rfl rfl ra_char rfl (by decide) rfl rfl (Or.inl ⟨by decide, rfl⟩) (by decide) rfl (by decide) (by decide) (by decide) (oDec_at oX12i_2 39 rfl) (fun ad8 h8 => ?_)
  rw [← h8 71 (by decide)]
  refine i_at C (n2 := 80) (k2 := 8) (s2 := 1630) (pc2 := 196) rfl rfl rfl rfl ?_
  refine i_dup C (oDec_at oX12i_2 40 rfl) ?_
  refine i_iconst C (x := 0) (oDec_at oX12i_2 41 rfl) rfl ?_
  refine i_bipush C (x := 119) (oDec_at oX12i_2 42 rfl) rfl ?_
  refine i_cast C (a := 79) rfl (by decide) (by decide) rfl rfl (by decide) rfl (oDec_at oX12i_2 43 rfl) ?_
  refine i_at C (n2 := 80) (k2 := 8) (s2 := 1630) (pc2 := 201) rfl rfl rfl rfl ?_
  refine i_dup C (oDec_at oX12i_2 44 rfl) ?_
  refine i_iconst C (x := 1) (oDec_at oX12i_2 45 rfl) rfl ?_
  refine i_bipush C (x := 104) (oDec_at oX12i_2 46 rfl) rfl ?_
  refine i_cast C (a := 79) rfl (by decide) (by decide) rfl rfl (by decide) rfl (oDec_at oX12i_2 47 rfl) ?_
  refine i_at C (n2 := 80) (k2 := 8) (s2 := 1630) (pc2 := 206) rfl rfl rfl rfl ?_
  refine i_dup C (oDec_at oX12i_2 48 rfl) ?_
  refine i_iconst C (x := 2) (oDec_at oX12i_2 49 rfl) rfl ?_
  refine i_bipush C (x := 101) (oDec_at oX12i_3 0 rfl) rfl ?_
  refine i_cast C (a := 79) rfl (by decide) (by decide) rfl rfl (by decide) rfl (oDec_at oX12i_3 1 rfl) ?_
  refine i_at C (n2 := 80) (k2 := 8) (s2 := 1630) (pc2 := 211) rfl rfl rfl rfl ?_
  refine i_dup C (oDec_at oX12i_3 2 rfl) ?_
  refine i_iconst C (x := 3) (oDec_at oX12i_3 3 rfl) rfl ?_
  refine i_bipush C (x := 110) (oDec_at oX12i_3 4 rfl) rfl ?_
  refine i_cast C (a := 79) rfl (by decide) (by decide) rfl rfl (by decide) rfl (oDec_at oX12i_3 5 rfl) ?_
  refine i_at C (n2 := 80) (k2 := 8) (s2 := 1630) (pc2 := 216) rfl rfl rfl rfl ?_
  refine i_putrF C (a := 71) (k1 := 16) (b := 79) oCl12 rfl (by decide) (by decide) (by decide) flX12_36 rfl rfl rfl rfl (fun _ => rfl) (fun _ => rfl) (oDec_at oX12i_3 6 rfl) ?_
  refine i_aload_n C (j := 0) (oDec_at oX12i_3 7 rfl) rfl rfl ?_
  refine i_iconst C (x := 2) (oDec_at oX12i_3 8 rfl) rfl ?_
  refine i_newa C (at' := .char) (t := 1) (N := 2) ac_char rfl rfl ra_char rfl (by decide) rfl rfl (Or.inl ⟨by decide, rfl⟩) (by decide) rfl (by decide) (by decide) (by decide) (oDec_at oX12i_3 9 rfl) (fun ad9 h9 => ?_)
  rw [← h9 71 (by decide)]
  refine i_at C (n2 := 81) (k2 := 9) (s2 := 1632) (pc2 := 223) rfl rfl rfl rfl ?_
  refine i_dup C (oDec_at oX12i_3 10 rfl) ?_
  refine i_iconst C (x := 0) (oDec_at oX12i_3 11 rfl) rfl ?_
  refine i_bipush C (x := 111) (oDec_at oX12i_3 12 rfl) rfl ?_
  refine i_cast C (a := 80) rfl (by decide) (by decide) rfl rfl (by decide) rfl (oDec_at oX12i_3 13 rfl) ?_
  refine i_at C (n2 := 81) (k2 := 9) (s2 := 1632) (pc2 := 228) rfl rfl rfl rfl ?_
  refine i_dup C (oDec_at oX12i_3 14 rfl) ?_
  refine i_iconst C (x := 1) (oDec_at oX12i_3 15 rfl) rfl ?_
  refine i_bipush C (x := 114) (oDec_at oX12i_3 16 rfl) rfl ?_
  refine i_cast C (a := 80) rfl (by decide) (by decide) rfl rfl (by decide) rfl (oDec_at oX12i_3 17 rfl) ?_
  refine i_at C (n2 := 81) (k2 := 9) (s2 := 1632) (pc2 := 233) rfl rfl rfl rfl ?_
  refine i_putrF C (a := 71) (k1 := 17) (b := 80) oCl12 rfl (by decide) (by decide) (by decide) flX12_39 rfl rfl rfl rfl (fun _ => rfl) (fun _ => rfl) (oDec_at oX12i_3 18 rfl) ?_
  refine i_aload_n C (j := 0) (oDec_at oX12i_3 19 rfl) rfl rfl ?_
  refine i_iconst C (x := 3) (oDec_at oX12i_3 20 rfl) rfl ?_
  refine i_newa C (at' := .char) (t := 1) (N := 3) ac_char rfl rfl ra_char rfl (by decide) rfl rfl (Or.inl ⟨by decide, rfl⟩) (by decide) rfl (by decide) (by decide) (by decide) (oDec_at oX12i_3 21 rfl) (fun ad10 h10 => ?_)
  rw [← h10 71 (by decide)]
  refine i_at C (n2 := 82) (k2 := 10) (s2 := 1635) (pc2 := 240) rfl rfl rfl rfl ?_
  refine i_dup C (oDec_at oX12i_3 22 rfl) ?_
  refine i_iconst C (x := 0) (oDec_at oX12i_3 23 rfl) rfl ?_
  refine i_bipush C (x := 97) (oDec_at oX12i_3 24 rfl) rfl ?_
  refine i_cast C (a := 81) rfl (by decide) (by decide) rfl rfl (by decide) rfl (oDec_at oX12i_3 25 rfl) ?_
  refine i_at C (n2 := 82) (k2 := 10) (s2 := 1635) (pc2 := 245) rfl rfl rfl rfl ?_
  refine i_dup C (oDec_at oX12i_3 26 rfl) ?_
  refine i_iconst C (x := 1) (oDec_at oX12i_3 27 rfl) rfl ?_
  refine i_bipush C (x := 110) (oDec_at oX12i_3 28 rfl) rfl ?_
  refine i_cast C (a := 81) rfl (by decide) (by decide) rfl rfl (by decide) rfl (oDec_at oX12i_3 29 rfl) ?_
  refine i_at C (n2 := 82) (k2 := 10) (s2 := 1635) (pc2 := 250) rfl rfl rfl rfl ?_
  refine i_dup C (oDec_at oX12i_3 30 rfl) ?_
  refine i_iconst C (x := 2) (oDec_at oX12i_3 31 rfl) rfl ?_
  refine i_bipush C (x := 100) (oDec_at oX12i_3 32 rfl) rfl ?_
  refine i_cast C (a := 81) rfl (by decide) (by decide) rfl rfl (by decide) rfl (oDec_at oX12i_3 33 rfl) ?_
  refine i_at C (n2 := 82) (k2 := 10) (s2 := 1635) (pc2 := 255) rfl rfl rfl rfl ?_
  refine i_putrF C (a := 71) (k1 := 18) (b := 81) oCl12 rfl (by decide) (by decide) (by decide) flX12_42 rfl rfl rfl rfl (fun _ => rfl) (fun _ => rfl) (oDec_at oX12i_3 34 rfl) ?_
  refine i_aload_n C (j := 0) (oDec_at oX12i_3 35 rfl) rfl rfl ?_
  refine i_iconst C (x := 3) (oDec_at oX12i_3 36 rfl) rfl ?_
  refine i_newa C (at' := .char) (t := 1) (N := 3) ac_char rfl rfl ra_char rfl (by decide) rfl rfl (Or.inl ⟨by decide, rfl⟩) (by decide) rfl (by decide) (by decide) (by decide) (oDec_at oX12i_3 37 rfl) (fun ad11 h11 => ?_)
  rw [← h11 71 (by decide)]
  refine i_at C (n2 := 83) (k2 := 11) (s2 := 1638) (pc2 := 262) rfl rfl rfl rfl ?_
  refine i_dup C (oDec_at oX12i_3 38 rfl) ?_
  refine i_iconst C (x := 0) (oDec_at oX12i_3 39 rfl) rfl ?_
  refine i_bipush C (x := 110) (oDec_at oX12i_3 40 rfl) rfl ?_
  refine i_cast C (a := 82) rfl (by decide) (by decide) rfl rfl (by decide) rfl (oDec_at oX12i_3 41 rfl) ?_
  refine i_at C (n2 := 83) (k2 := 11) (s2 := 1638) (pc2 := 267) rfl rfl rfl rfl ?_
  refine i_dup C (oDec_at oX12i_3 42 rfl) ?_
  refine i_iconst C (x := 1) (oDec_at oX12i_3 43 rfl) rfl ?_
  refine i_bipush C (x := 111) (oDec_at oX12i_3 44 rfl) rfl ?_
  refine i_cast C (a := 82) rfl (by decide) (by decide) rfl rfl (by decide) rfl (oDec_at oX12i_3 45 rfl) ?_
  refine i_at C (n2 := 83) (k2 := 11) (s2 := 1638) (pc2 := 272) rfl rfl rfl rfl ?_
  refine i_dup C (oDec_at oX12i_3 46 rfl) ?_
  refine i_iconst C (x := 2) (oDec_at oX12i_3 47 rfl) rfl ?_
  refine i_bipush C (x := 116) (oDec_at oX12i_3 48 rfl) rfl ?_
  refine i_cast C (a := 82) rfl (by decide) (by decide) rfl rfl (by decide) rfl (oDec_at oX12i_3 49 rfl) ?_
  refine i_at C (n2 := 83) (k2 := 11) (s2 := 1638) (pc2 := 277) rfl rfl rfl rfl ?_
  refine i_putrF C (a := 71) (k1 := 19) (b := 82) oCl12 rfl (by decide) (by decide) (by decide) flX12_45 rfl rfl rfl rfl (fun _ => rfl) (fun _ => rfl) (oDec_at oX12i_4 0 rfl) ?_
  refine i_aload_n C (j := 0) (oDec_at oX12i_4 1 rfl) rfl rfl ?_
  refine i_iconst C (x := 3) (oDec_at oX12i_4 2 rfl) rfl ?_
  refine i_newa C (at' := .char) (t := 1) (N := 3) ac_char rfl rfl ra_char rfl (by decide) rfl rfl (Or.inl ⟨by decide, rfl⟩) (by decide) rfl (by decide) (by decide) (by decide) (oDec_at oX12i_4 3 rfl) (fun ad12 h12 => ?_)
  rw [← h12 71 (by decide)]
  refine i_at C (n2 := 84) (k2 := 12) (s2 := 1641) (pc2 := 284) rfl rfl rfl rfl ?_
  refine i_dup C (oDec_at oX12i_4 4 rfl) ?_
  refine i_iconst C (x := 0) (oDec_at oX12i_4 5 rfl) rfl ?_
  refine i_bipush C (x := 97) (oDec_at oX12i_4 6 rfl) rfl ?_
  refine i_cast C (a := 83) rfl (by decide) (by decide) rfl rfl (by decide) rfl (oDec_at oX12i_4 7 rfl) ?_
  refine i_at C (n2 := 84) (k2 := 12) (s2 := 1641) (pc2 := 289) rfl rfl rfl rfl ?_
  refine i_dup C (oDec_at oX12i_4 8 rfl) ?_
  refine i_iconst C (x := 1) (oDec_at oX12i_4 9 rfl) rfl ?_
  refine i_bipush C (x := 108) (oDec_at oX12i_4 10 rfl) rfl ?_
  refine i_cast C (a := 83) rfl (by decide) (by decide) rfl rfl (by decide) rfl (oDec_at oX12i_4 11 rfl) ?_
  refine i_at C (n2 := 84) (k2 := 12) (s2 := 1641) (pc2 := 294) rfl rfl rfl rfl ?_
  refine i_dup C (oDec_at oX12i_4 12 rfl) ?_
  refine i_iconst C (x := 2) (oDec_at oX12i_4 13 rfl) rfl ?_
  refine i_bipush C (x := 108) (oDec_at oX12i_4 14 rfl) rfl ?_
  refine i_cast C (a := 83) rfl (by decide) (by decide) rfl rfl (by decide) rfl (oDec_at oX12i_4 15 rfl) ?_
  refine i_at C (n2 := 84) (k2 := 12) (s2 := 1641) (pc2 := 299) rfl rfl rfl rfl ?_
  refine i_putrF C (a := 71) (k1 := 20) (b := 83) oCl12 rfl (by decide) (by decide) (by decide) flX12_48 rfl rfl rfl rfl (fun _ => rfl) (fun _ => rfl) (oDec_at oX12i_4 16 rfl) ?_
  refine i_aload_n C (j := 0) (oDec_at oX12i_4 17 rfl) rfl rfl ?_
  refine i_iconst C (x := 3) (oDec_at oX12i_4 18 rfl) rfl ?_
  refine i_newa C (at' := .char) (t := 1) (N := 3) ac_char rfl rfl ra_char rfl (by decide) rfl rfl (Or.inl ⟨by decide, rfl⟩) (by decide) rfl (by decide) (by decide) (by decide) (oDec_at oX12i_4 19 rfl) (fun ad13 h13 => ?_)
  rw [← h13 71 (by decide)]
  refine i_at C (n2 := 85) (k2 := 13) (s2 := 1644) (pc2 := 306) rfl rfl rfl rfl ?_
  refine i_dup C (oDec_at oX12i_4 20 rfl) ?_
  refine i_iconst C (x := 0) (oDec_at oX12i_4 21 rfl) rfl ?_
  refine i_bipush C (x := 103) (oDec_at oX12i_4 22 rfl) rfl ?_
  refine i_cast C (a := 84) rfl (by decide) (by decide) rfl rfl (by decide) rfl (oDec_at oX12i_4 23 rfl) ?_
  refine i_at C (n2 := 85) (k2 := 13) (s2 := 1644) (pc2 := 311) rfl rfl rfl rfl ?_
  refine i_dup C (oDec_at oX12i_4 24 rfl) ?_
  refine i_iconst C (x := 1) (oDec_at oX12i_4 25 rfl) rfl ?_
  refine i_bipush C (x := 97) (oDec_at oX12i_4 26 rfl) rfl ?_
  refine i_cast C (a := 84) rfl (by decide) (by decide) rfl rfl (by decide) rfl (oDec_at oX12i_4 27 rfl) ?_
  refine i_at C (n2 := 85) (k2 := 13) (s2 := 1644) (pc2 := 316) rfl rfl rfl rfl ?_
  refine i_dup C (oDec_at oX12i_4 28 rfl) ?_
  refine i_iconst C (x := 2) (oDec_at oX12i_4 29 rfl) rfl ?_
  refine i_bipush C (x := 112) (oDec_at oX12i_4 30 rfl) rfl ?_
  refine i_cast C (a := 84) rfl (by decide) (by decide) rfl rfl (by decide) rfl (oDec_at oX12i_4 31 rfl) ?_
  refine i_at C (n2 := 85) (k2 := 13) (s2 := 1644) (pc2 := 321) rfl rfl rfl rfl ?_
  refine i_putrF C (a := 71) (k1 := 21) (b := 84) oCl12 rfl (by decide) (by decide) (by decide) flX12_51 rfl rfl rfl rfl (fun _ => rfl) (fun _ => rfl) (oDec_at oX12i_4 32 rfl) ?_
  refine i_aload_n C (j := 0) (oDec_at oX12i_4 33 rfl) rfl rfl ?_
  refine i_iconst C (x := 4) (oDec_at oX12i_4 34 rfl) rfl ?_
  refine i_newa C (at' := .char) (t := 1) (N := 4) ac_char rfl rfl ra_char rfl (by decide) rfl rfl (Or.inl ⟨by decide, rfl⟩) (by decide) rfl (by decide) (by decide) (by decide) (oDec_at oX12i_4 35 rfl) (fun ad14 h14 => ?_)
  rw [← h14 71 (by decide)]
  refine i_at C (n2 := 86) (k2 := 14) (s2 := 1648) (pc2 := 328) rfl rfl rfl rfl ?_
  refine i_dup C (oDec_at oX12i_4 36 rfl) ?_
  refine i_iconst C (x := 0) (oDec_at oX12i_4 37 rfl) rfl ?_
  refine i_bipush C (x := 115) (oDec_at oX12i_4 38 rfl) rfl ?_
  refine i_cast C (a := 85) rfl (by decide) (by decide) rfl rfl (by decide) rfl (oDec_at oX12i_4 39 rfl) ?_
  refine i_at C (n2 := 86) (k2 := 14) (s2 := 1648) (pc2 := 333) rfl rfl rfl rfl ?_
  refine i_dup C (oDec_at oX12i_4 40 rfl) ?_
  refine i_iconst C (x := 1) (oDec_at oX12i_4 41 rfl) rfl ?_
  refine i_bipush C (x := 111) (oDec_at oX12i_4 42 rfl) rfl ?_
  refine i_cast C (a := 85) rfl (by decide) (by decide) rfl rfl (by decide) rfl (oDec_at oX12i_4 43 rfl) ?_
  refine i_at C (n2 := 86) (k2 := 14) (s2 := 1648) (pc2 := 338) rfl rfl rfl rfl ?_
  refine i_dup C (oDec_at oX12i_4 44 rfl) ?_
  refine i_iconst C (x := 2) (oDec_at oX12i_4 45 rfl) rfl ?_
  refine i_bipush C (x := 114) (oDec_at oX12i_4 46 rfl) rfl ?_
  refine i_cast C (a := 85) rfl (by decide) (by decide) rfl rfl (by decide) rfl (oDec_at oX12i_4 47 rfl) ?_
  refine i_at C (n2 := 86) (k2 := 14) (s2 := 1648) (pc2 := 343) rfl rfl rfl rfl ?_
  refine i_dup C (oDec_at oX12i_4 48 rfl) ?_
  refine i_iconst C (x := 3) (oDec_at oX12i_4 49 rfl) rfl ?_
  refine i_bipush C (x := 116) (oDec_at oX12i_5 0 rfl) rfl ?_
  refine i_cast C (a := 85) rfl (by decide) (by decide) rfl rfl (by decide) rfl (oDec_at oX12i_5 1 rfl) ?_
  refine i_at C (n2 := 86) (k2 := 14) (s2 := 1648) (pc2 := 348) rfl rfl rfl rfl ?_
  refine i_putrF C (a := 71) (k1 := 22) (b := 85) oCl12 rfl (by decide) (by decide) (by decide) flX12_54 rfl rfl rfl rfl (fun _ => rfl) (fun _ => rfl) (oDec_at oX12i_5 2 rfl) ?_
  refine i_aload_n C (j := 0) (oDec_at oX12i_5 3 rfl) rfl rfl ?_
  refine i_iconst C (x := 5) (oDec_at oX12i_5 4 rfl) rfl ?_
  refine i_newa C (at' := .char) (t := 1) (N := 5) ac_char rfl rfl ra_char rfl (by decide) rfl rfl (Or.inl ⟨by decide, rfl⟩) (by decide) rfl (by decide) (by decide) (by decide) (oDec_at oX12i_5 5 rfl) (fun ad15 h15 => ?_)
  rw [← h15 71 (by decide)]
  refine i_at C (n2 := 87) (k2 := 15) (s2 := 1653) (pc2 := 355) rfl rfl rfl rfl ?_
  refine i_dup C (oDec_at oX12i_5 6 rfl) ?_
  refine i_iconst C (x := 0) (oDec_at oX12i_5 7 rfl) rfl ?_
  refine i_bipush C (x := 117) (oDec_at oX12i_5 8 rfl) rfl ?_
  refine i_cast C (a := 86) rfl (by decide) (by decide) rfl rfl (by decide) rfl (oDec_at oX12i_5 9 rfl) ?_
  refine i_at C (n2 := 87) (k2 := 15) (s2 := 1653) (pc2 := 360) rfl rfl rfl rfl ?_
  refine i_dup C (oDec_at oX12i_5 10 rfl) ?_
  refine i_iconst C (x := 1) (oDec_at oX12i_5 11 rfl) rfl ?_
  refine i_bipush C (x := 110) (oDec_at oX12i_5 12 rfl) rfl ?_
  refine i_cast C (a := 86) rfl (by decide) (by decide) rfl rfl (by decide) rfl (oDec_at oX12i_5 13 rfl) ?_
  refine i_at C (n2 := 87) (k2 := 15) (s2 := 1653) (pc2 := 365) rfl rfl rfl rfl ?_
  refine i_dup C (oDec_at oX12i_5 14 rfl) ?_
  refine i_iconst C (x := 2) (oDec_at oX12i_5 15 rfl) rfl ?_
  refine i_bipush C (x := 100) (oDec_at oX12i_5 16 rfl) rfl ?_
  refine i_cast C (a := 86) rfl (by decide) (by decide) rfl rfl (by decide) rfl (oDec_at oX12i_5 17 rfl) ?_
  refine i_at C (n2 := 87) (k2 := 15) (s2 := 1653) (pc2 := 370) rfl rfl rfl rfl ?_
  refine i_dup C (oDec_at oX12i_5 18 rfl) ?_
  refine i_iconst C (x := 3) (oDec_at oX12i_5 19 rfl) rfl ?_
  refine i_bipush C (x := 101) (oDec_at oX12i_5 20 rfl) rfl ?_
  refine i_cast C (a := 86) rfl (by decide) (by decide) rfl rfl (by decide) rfl (oDec_at oX12i_5 21 rfl) ?_
  refine i_at C (n2 := 87) (k2 := 15) (s2 := 1653) (pc2 := 375) rfl rfl rfl rfl ?_
  refine i_dup C (oDec_at oX12i_5 22 rfl) ?_
  refine i_iconst C (x := 4) (oDec_at oX12i_5 23 rfl) rfl ?_
  refine i_bipush C (x := 114) (oDec_at oX12i_5 24 rfl) rfl ?_
  refine i_cast C (a := 86) rfl (by decide) (by decide) rfl rfl (by decide) rfl (oDec_at oX12i_5 25 rfl) ?_
  refine i_at C (n2 := 87) (k2 := 15) (s2 := 1653) (pc2 := 380) rfl rfl rfl rfl ?_
  refine i_putrF C (a := 71) (k1 := 23) (b := 86) oCl12 rfl (by decide) (by decide) (by decide) flX12_57 rfl rfl rfl rfl (fun _ => rfl) (fun _ => rfl) (oDec_at oX12i_5 26 rfl) ?_
  refine i_aload_n C (j := 0) (oDec_at oX12i_5 27 rfl) rfl rfl ?_
  refine i_iconst C (x := 4) (oDec_at oX12i_5 28 rfl) rfl ?_
  refine i_newa C (at' := .char) (t := 1) (N := 4) ac_char rfl rfl ra_char rfl (by decide) rfl rfl (Or.inl ⟨by decide, rfl⟩) (by decide) rfl (by decide) (by decide) (by decide) (oDec_at oX12i_5 29 rfl) (fun ad16 h16 => ?_)
  rw [← h16 71 (by decide)]
  refine i_at C (n2 := 88) (k2 := 16) (s2 := 1657) (pc2 := 387) rfl rfl rfl rfl ?_
  refine i_dup C (oDec_at oX12i_5 30 rfl) ?_
  refine i_iconst C (x := 0) (oDec_at oX12i_5 31 rfl) rfl ?_
  refine i_bipush C (x := 98) (oDec_at oX12i_5 32 rfl) rfl ?_
  refine i_cast C (a := 87) rfl (by decide) (by decide) rfl rfl (by decide) rfl (oDec_at oX12i_5 33 rfl) ?_
  refine i_at C (n2 := 88) (k2 := 16) (s2 := 1657) (pc2 := 392) rfl rfl rfl rfl ?_
  refine i_dup C (oDec_at oX12i_5 34 rfl) ?_
  refine i_iconst C (x := 1) (oDec_at oX12i_5 35 rfl) rfl ?_
  refine i_bipush C (x := 101) (oDec_at oX12i_5 36 rfl) rfl ?_
  refine i_cast C (a := 87) rfl (by decide) (by decide) rfl rfl (by decide) rfl (oDec_at oX12i_5 37 rfl) ?_
  refine i_at C (n2 := 88) (k2 := 16) (s2 := 1657) (pc2 := 397) rfl rfl rfl rfl ?_
  refine i_dup C (oDec_at oX12i_5 38 rfl) ?_
  refine i_iconst C (x := 2) (oDec_at oX12i_5 39 rfl) rfl ?_
  refine i_bipush C (x := 97) (oDec_at oX12i_5 40 rfl) rfl ?_
  refine i_cast C (a := 87) rfl (by decide) (by decide) rfl rfl (by decide) rfl (oDec_at oX12i_5 41 rfl) ?_
  refine i_at C (n2 := 88) (k2 := 16) (s2 := 1657) (pc2 := 402) rfl rfl rfl rfl ?_
  refine i_dup C (oDec_at oX12i_5 42 rfl) ?_
  refine i_iconst C (x := 3) (oDec_at oX12i_5 43 rfl) rfl ?_
  refine i_bipush C (x := 116) (oDec_at oX12i_5 44 rfl) rfl ?_
  refine i_cast C (a := 87) rfl (by decide) (by decide) rfl rfl (by decide) rfl (oDec_at oX12i_5 45 rfl) ?_
  refine i_at C (n2 := 88) (k2 := 16) (s2 := 1657) (pc2 := 407) rfl rfl rfl rfl ?_
  refine i_putrF C (a := 71) (k1 := 24) (b := 87) oCl12 rfl (by decide) (by decide) (by decide) flX12_60 rfl rfl rfl rfl (fun _ => rfl) (fun _ => rfl) (oDec_at oX12i_5 46 rfl) ?_
  refine i_aload_n C (j := 0) (oDec_at oX12i_5 47 rfl) rfl rfl ?_
  refine i_iconst C (x := 4) (oDec_at oX12i_5 48 rfl) rfl ?_
  refine i_newa C (at' := .char) (t := 1) (N := 4) ac_char rfl rfl ra_char rfl (by decide) rfl rfl (Or.inl ⟨by decide, rfl⟩) (by decide) rfl (by decide) (by decide) (by decide) (oDec_at oX12i_5 49 rfl) (fun ad17 h17 => ?_)
  rw [← h17 71 (by decide)]
  refine i_at C (n2 := 89) (k2 := 17) (s2 := 1661) (pc2 := 414) rfl rfl rfl rfl ?_
  refine i_dup C (oDec_at oX12i_6 0 rfl) ?_
  refine i_iconst C (x := 0) (oDec_at oX12i_6 1 rfl) rfl ?_
  refine i_bipush C (x := 114) (oDec_at oX12i_6 2 rfl) rfl ?_
  refine i_cast C (a := 88) rfl (by decide) (by decide) rfl rfl (by decide) rfl (oDec_at oX12i_6 3 rfl) ?_
  refine i_at C (n2 := 89) (k2 := 17) (s2 := 1661) (pc2 := 419) rfl rfl rfl rfl ?_
  refine i_dup C (oDec_at oX12i_6 4 rfl) ?_
  refine i_iconst C (x := 1) (oDec_at oX12i_6 5 rfl) rfl ?_
  refine i_bipush C (x := 105) (oDec_at oX12i_6 6 rfl) rfl ?_
  refine i_cast C (a := 88) rfl (by decide) (by decide) rfl rfl (by decide) rfl (oDec_at oX12i_6 7 rfl) ?_
  refine i_at C (n2 := 89) (k2 := 17) (s2 := 1661) (pc2 := 424) rfl rfl rfl rfl ?_
  refine i_dup C (oDec_at oX12i_6 8 rfl) ?_
  refine i_iconst C (x := 2) (oDec_at oX12i_6 9 rfl) rfl ?_
  refine i_bipush C (x := 115) (oDec_at oX12i_6 10 rfl) rfl ?_
  refine i_cast C (a := 88) rfl (by decide) (by decide) rfl rfl (by decide) rfl (oDec_at oX12i_6 11 rfl) ?_
  refine i_at C (n2 := 89) (k2 := 17) (s2 := 1661) (pc2 := 429) rfl rfl rfl rfl ?_
  refine i_dup C (oDec_at oX12i_6 12 rfl) ?_
  refine i_iconst C (x := 3) (oDec_at oX12i_6 13 rfl) rfl ?_
  refine i_bipush C (x := 101) (oDec_at oX12i_6 14 rfl) rfl ?_
  refine i_cast C (a := 88) rfl (by decide) (by decide) rfl rfl (by decide) rfl (oDec_at oX12i_6 15 rfl) ?_
  refine i_at C (n2 := 89) (k2 := 17) (s2 := 1661) (pc2 := 434) rfl rfl rfl rfl ?_
  refine i_putrF C (a := 71) (k1 := 25) (b := 88) oCl12 rfl (by decide) (by decide) (by decide) flX12_63 rfl rfl rfl rfl (fun _ => rfl) (fun _ => rfl) (oDec_at oX12i_6 16 rfl) ?_
  refine i_aload_n C (j := 0) (oDec_at oX12i_6 17 rfl) rfl rfl ?_
  refine i_iconst C (x := 5) (oDec_at oX12i_6 18 rfl) rfl ?_
  refine i_newa C (at' := .char) (t := 1) (N := 5) ac_char rfl rfl ra_char rfl (by decide) rfl rfl (Or.inl ⟨by decide, rfl⟩) (by decide) rfl (by decide) (by decide) (by decide) (oDec_at oX12i_6 19 rfl) (fun ad18 h18 => ?_)
  rw [← h18 71 (by decide)]
  refine i_at C (n2 := 90) (k2 := 18) (s2 := 1666) (pc2 := 441) rfl rfl rfl rfl ?_
  refine i_dup C (oDec_at oX12i_6 20 rfl) ?_
  refine i_iconst C (x := 0) (oDec_at oX12i_6 21 rfl) rfl ?_
  refine i_bipush C (x := 99) (oDec_at oX12i_6 22 rfl) rfl ?_
  refine i_cast C (a := 89) rfl (by decide) (by decide) rfl rfl (by decide) rfl (oDec_at oX12i_6 23 rfl) ?_
  refine i_at C (n2 := 90) (k2 := 18) (s2 := 1666) (pc2 := 446) rfl rfl rfl rfl ?_
  refine i_dup C (oDec_at oX12i_6 24 rfl) ?_
  refine i_iconst C (x := 1) (oDec_at oX12i_6 25 rfl) rfl ?_
  refine i_bipush C (x := 108) (oDec_at oX12i_6 26 rfl) rfl ?_
  refine i_cast C (a := 89) rfl (by decide) (by decide) rfl rfl (by decide) rfl (oDec_at oX12i_6 27 rfl) ?_
  refine i_at C (n2 := 90) (k2 := 18) (s2 := 1666) (pc2 := 451) rfl rfl rfl rfl ?_
  refine i_dup C (oDec_at oX12i_6 28 rfl) ?_
  refine i_iconst C (x := 2) (oDec_at oX12i_6 29 rfl) rfl ?_
  refine i_bipush C (x := 105) (oDec_at oX12i_6 30 rfl) rfl ?_
  refine i_cast C (a := 89) rfl (by decide) (by decide) rfl rfl (by decide) rfl (oDec_at oX12i_6 31 rfl) ?_
  refine i_at C (n2 := 90) (k2 := 18) (s2 := 1666) (pc2 := 456) rfl rfl rfl rfl ?_
  refine i_dup C (oDec_at oX12i_6 32 rfl) ?_
  refine i_iconst C (x := 3) (oDec_at oX12i_6 33 rfl) rfl ?_
  refine i_bipush C (x := 109) (oDec_at oX12i_6 34 rfl) rfl ?_
  refine i_cast C (a := 89) rfl (by decide) (by decide) rfl rfl (by decide) rfl (oDec_at oX12i_6 35 rfl) ?_
  refine i_at C (n2 := 90) (k2 := 18) (s2 := 1666) (pc2 := 461) rfl rfl rfl rfl ?_
  refine i_dup C (oDec_at oX12i_6 36 rfl) ?_
  refine i_iconst C (x := 4) (oDec_at oX12i_6 37 rfl) rfl ?_
  refine i_bipush C (x := 98) (oDec_at oX12i_6 38 rfl) rfl ?_
  refine i_cast C (a := 89) rfl (by decide) (by decide) rfl rfl (by decide) rfl (oDec_at oX12i_6 39 rfl) ?_
  refine i_at C (n2 := 90) (k2 := 18) (s2 := 1666) (pc2 := 466) rfl rfl rfl rfl ?_
  refine i_putrF C (a := 71) (k1 := 26) (b := 89) oCl12 rfl (by decide) (by decide) (by decide) flX12_66 rfl rfl rfl rfl (fun _ => rfl) (fun _ => rfl) (oDec_at oX12i_6 40 rfl) ?_
  refine i_aload_n C (j := 0) (oDec_at oX12i_6 41 rfl) rfl rfl ?_
  refine i_iconst C (x := 3) (oDec_at oX12i_6 42 rfl) rfl ?_
  refine i_newa C (at' := .char) (t := 1) (N := 3) ac_char rfl rfl ra_char rfl (by decide) rfl rfl (Or.inl ⟨by decide, rfl⟩) (by decide) rfl (by decide) (by decide) (by decide) (oDec_at oX12i_6 43 rfl) (fun ad19 h19 => ?_)
  rw [← h19 71 (by decide)]
  refine i_at C (n2 := 91) (k2 := 19) (s2 := 1669) (pc2 := 473) rfl rfl rfl rfl ?_
  refine i_dup C (oDec_at oX12i_6 44 rfl) ?_
  refine i_iconst C (x := 0) (oDec_at oX12i_6 45 rfl) rfl ?_
  refine i_bipush C (x := 119) (oDec_at oX12i_6 46 rfl) rfl ?_
  refine i_cast C (a := 90) rfl (by decide) (by decide) rfl rfl (by decide) rfl (oDec_at oX12i_6 47 rfl) ?_
  refine i_at C (n2 := 91) (k2 := 19) (s2 := 1669) (pc2 := 478) rfl rfl rfl rfl ?_
  refine i_dup C (oDec_at oX12i_6 48 rfl) ?_
  refine i_iconst C (x := 1) (oDec_at oX12i_6 49 rfl) rfl ?_
  refine i_bipush C (x := 97) (oDec_at oX12i_7 0 rfl) rfl ?_
  refine i_cast C (a := 90) rfl (by decide) (by decide) rfl rfl (by decide) rfl (oDec_at oX12i_7 1 rfl) ?_
  refine i_at C (n2 := 91) (k2 := 19) (s2 := 1669) (pc2 := 483) rfl rfl rfl rfl ?_
  refine i_dup C (oDec_at oX12i_7 2 rfl) ?_
  refine i_iconst C (x := 2) (oDec_at oX12i_7 3 rfl) rfl ?_
  refine i_bipush C (x := 115) (oDec_at oX12i_7 4 rfl) rfl ?_
  refine i_cast C (a := 90) rfl (by decide) (by decide) rfl rfl (by decide) rfl (oDec_at oX12i_7 5 rfl) ?_
  refine i_at C (n2 := 91) (k2 := 19) (s2 := 1669) (pc2 := 488) rfl rfl rfl rfl ?_
  refine i_putrF C (a := 71) (k1 := 27) (b := 90) oCl12 rfl (by decide) (by decide) (by decide) flX12_69 rfl rfl rfl rfl (fun _ => rfl) (fun _ => rfl) (oDec_at oX12i_7 6 rfl) ?_
  refine i_aload_n C (j := 0) (oDec_at oX12i_7 7 rfl) rfl rfl ?_
  refine i_iconst C (x := 4) (oDec_at oX12i_7 8 rfl) rfl ?_
  refine i_newa C (at' := .char) (t := 1) (N := 4) ac_char rfl rfl ra_char rfl (by decide) rfl rfl (Or.inl ⟨by decide, rfl⟩) (by decide) rfl (by decide) (by decide) (by decide) (oDec_at oX12i_7 9 rfl) (fun ad20 h20 => ?_)
  rw [← h20 71 (by decide)]
  refine i_at C (n2 := 92) (k2 := 20) (s2 := 1673) (pc2 := 495) rfl rfl rfl rfl ?_
  refine i_dup C (oDec_at oX12i_7 10 rfl) ?_
  refine i_iconst C (x := 0) (oDec_at oX12i_7 11 rfl) rfl ?_
  refine i_bipush C (x := 108) (oDec_at oX12i_7 12 rfl) rfl ?_
  refine i_cast C (a := 91) rfl (by decide) (by decide) rfl rfl (by decide) rfl (oDec_at oX12i_7 13 rfl) ?_
  refine i_at C (n2 := 92) (k2 := 20) (s2 := 1673) (pc2 := 500) rfl rfl rfl rfl ?_
  refine i_dup C (oDec_at oX12i_7 14 rfl) ?_
  refine i_iconst C (x := 1) (oDec_at oX12i_7 15 rfl) rfl ?_
  refine i_bipush C (x := 97) (oDec_at oX12i_7 16 rfl) rfl ?_
  refine i_cast C (a := 91) rfl (by decide) (by decide) rfl rfl (by decide) rfl (oDec_at oX12i_7 17 rfl) ?_
  refine i_at C (n2 := 92) (k2 := 20) (s2 := 1673) (pc2 := 505) rfl rfl rfl rfl ?_
  refine i_dup C (oDec_at oX12i_7 18 rfl) ?_
  refine i_iconst C (x := 2) (oDec_at oX12i_7 19 rfl) rfl ?_
  refine i_bipush C (x := 115) (oDec_at oX12i_7 20 rfl) rfl ?_
  refine i_cast C (a := 91) rfl (by decide) (by decide) rfl rfl (by decide) rfl (oDec_at oX12i_7 21 rfl) ?_
  refine i_at C (n2 := 92) (k2 := 20) (s2 := 1673) (pc2 := 510) rfl rfl rfl rfl ?_
  refine i_dup C (oDec_at oX12i_7 22 rfl) ?_
  refine i_iconst C (x := 3) (oDec_at oX12i_7 23 rfl) rfl ?_
  refine i_bipush C (x := 116) (oDec_at oX12i_7 24 rfl) rfl ?_
  refine i_cast C (a := 91) rfl (by decide) (by decide) rfl rfl (by decide) rfl (oDec_at oX12i_7 25 rfl) ?_
  refine i_at C (n2 := 92) (k2 := 20) (s2 := 1673) (pc2 := 515) rfl rfl rfl rfl ?_
  refine i_putrF C (a := 71) (k1 := 28) (b := 91) oCl12 rfl (by decide) (by decide) (by decide) flX12_72 rfl rfl rfl rfl (fun _ => rfl) (fun _ => rfl) (oDec_at oX12i_7 26 rfl) ?_
  refine i_aload_n C (j := 0) (oDec_at oX12i_7 27 rfl) rfl rfl ?_
  refine i_iconst C (x := 5) (oDec_at oX12i_7 28 rfl) rfl ?_
  refine i_newa C (at' := .char) (t := 1) (N := 5) ac_char rfl rfl ra_char rfl (by decide) rfl rfl (Or.inl ⟨by decide, rfl⟩) (by decide) rfl (by decide) (by decide) (by decide) (oDec_at oX12i_7 29 rfl) (fun ad21 h21 => ?_)
  rw [← h21 71 (by decide)]
  refine i_at C (n2 := 93) (k2 := 21) (s2 := 1678) (pc2 := 522) rfl rfl rfl rfl ?_
  refine i_dup C (oDec_at oX12i_7 30 rfl) ?_
  refine i_iconst C (x := 0) (oDec_at oX12i_7 31 rfl) rfl ?_
  refine i_bipush C (x := 100) (oDec_at oX12i_7 32 rfl) rfl ?_
  refine i_cast C (a := 92) rfl (by decide) (by decide) rfl rfl (by decide) rfl (oDec_at oX12i_7 33 rfl) ?_
  refine i_at C (n2 := 93) (k2 := 21) (s2 := 1678) (pc2 := 527) rfl rfl rfl rfl ?_
  refine i_dup C (oDec_at oX12i_7 34 rfl) ?_
  refine i_iconst C (x := 1) (oDec_at oX12i_7 35 rfl) rfl ?_
  refine i_bipush C (x := 101) (oDec_at oX12i_7 36 rfl) rfl ?_
  refine i_cast C (a := 92) rfl (by decide) (by decide) rfl rfl (by decide) rfl (oDec_at oX12i_7 37 rfl) ?_
  refine i_at C (n2 := 93) (k2 := 21) (s2 := 1678) (pc2 := 532) rfl rfl rfl rfl ?_
  refine i_dup C (oDec_at oX12i_7 38 rfl) ?_
  refine i_iconst C (x := 2) (oDec_at oX12i_7 39 rfl) rfl ?_
  refine i_bipush C (x := 108) (oDec_at oX12i_7 40 rfl) rfl ?_
  refine i_cast C (a := 92) rfl (by decide) (by decide) rfl rfl (by decide) rfl (oDec_at oX12i_7 41 rfl) ?_
  refine i_at C (n2 := 93) (k2 := 21) (s2 := 1678) (pc2 := 537) rfl rfl rfl rfl ?_
  refine i_dup C (oDec_at oX12i_7 42 rfl) ?_
  refine i_iconst C (x := 3) (oDec_at oX12i_7 43 rfl) rfl ?_
  refine i_bipush C (x := 97) (oDec_at oX12i_7 44 rfl) rfl ?_
  refine i_cast C (a := 92) rfl (by decide) (by decide) rfl rfl (by decide) rfl (oDec_at oX12i_7 45 rfl) ?_
  refine i_at C (n2 := 93) (k2 := 21) (s2 := 1678) (pc2 := 542) rfl rfl rfl rfl ?_
  refine i_dup C (oDec_at oX12i_7 46 rfl) ?_
  refine i_iconst C (x := 4) (oDec_at oX12i_7 47 rfl) rfl ?_
  refine i_bipush C (x := 121) (oDec_at oX12i_7 48 rfl) rfl ?_
  refine i_cast C (a := 92) rfl (by decide) (by decide) rfl rfl (by decide) rfl (oDec_at oX12i_7 49 rfl) ?_
  refine i_at C (n2 := 93) (k2 := 21) (s2 := 1678) (pc2 := 547) rfl rfl rfl rfl ?_
  refine i_putrF C (a := 71) (k1 := 29) (b := 92) oCl12 rfl (by decide) (by decide) (by decide) flX12_75 rfl rfl rfl rfl (fun _ => rfl) (fun _ => rfl) (oDec_at oX12i_8 0 rfl) ?_
  refine i_aload_n C (j := 0) (oDec_at oX12i_8 1 rfl) rfl rfl ?_
  refine i_iconst C (x := 4) (oDec_at oX12i_8 2 rfl) rfl ?_
  refine i_newa C (at' := .char) (t := 1) (N := 4) ac_char rfl rfl ra_char rfl (by decide) rfl rfl (Or.inl ⟨by decide, rfl⟩) (by decide) rfl (by decide) (by decide) (by decide) (oDec_at oX12i_8 3 rfl) (fun ad22 h22 => ?_)
  rw [← h22 71 (by decide)]
  refine i_at C (n2 := 94) (k2 := 22) (s2 := 1682) (pc2 := 554) rfl rfl rfl rfl ?_
  refine i_dup C (oDec_at oX12i_8 4 rfl) ?_
  refine i_iconst C (x := 0) (oDec_at oX12i_8 5 rfl) rfl ?_
  refine i_bipush C (x := 104) (oDec_at oX12i_8 6 rfl) rfl ?_
  refine i_cast C (a := 93) rfl (by decide) (by decide) rfl rfl (by decide) rfl (oDec_at oX12i_8 7 rfl) ?_
  refine i_at C (n2 := 94) (k2 := 22) (s2 := 1682) (pc2 := 559) rfl rfl rfl rfl ?_
  refine i_dup C (oDec_at oX12i_8 8 rfl) ?_
  refine i_iconst C (x := 1) (oDec_at oX12i_8 9 rfl) rfl ?_
  refine i_bipush C (x := 105) (oDec_at oX12i_8 10 rfl) rfl ?_
  refine i_cast C (a := 93) rfl (by decide) (by decide) rfl rfl (by decide) rfl (oDec_at oX12i_8 11 rfl) ?_
  refine i_at C (n2 := 94) (k2 := 22) (s2 := 1682) (pc2 := 564) rfl rfl rfl rfl ?_
  refine i_dup C (oDec_at oX12i_8 12 rfl) ?_
  refine i_iconst C (x := 2) (oDec_at oX12i_8 13 rfl) rfl ?_
  refine i_bipush C (x := 103) (oDec_at oX12i_8 14 rfl) rfl ?_
  refine i_cast C (a := 93) rfl (by decide) (by decide) rfl rfl (by decide) rfl (oDec_at oX12i_8 15 rfl) ?_
  refine i_at C (n2 := 94) (k2 := 22) (s2 := 1682) (pc2 := 569) rfl rfl rfl rfl ?_
  refine i_dup C (oDec_at oX12i_8 16 rfl) ?_
  refine i_iconst C (x := 3) (oDec_at oX12i_8 17 rfl) rfl ?_
  refine i_bipush C (x := 104) (oDec_at oX12i_8 18 rfl) rfl ?_
  refine i_cast C (a := 93) rfl (by decide) (by decide) rfl rfl (by decide) rfl (oDec_at oX12i_8 19 rfl) ?_
  refine i_at C (n2 := 94) (k2 := 22) (s2 := 1682) (pc2 := 574) rfl rfl rfl rfl ?_
  refine i_putrF C (a := 71) (k1 := 30) (b := 93) oCl12 rfl (by decide) (by decide) (by decide) flX12_78 rfl rfl rfl rfl (fun _ => rfl) (fun _ => rfl) (oDec_at oX12i_8 20 rfl) ?_
  refine i_aload_n C (j := 0) (oDec_at oX12i_8 21 rfl) rfl rfl ?_
  refine i_bipush C (x := 6) (oDec_at oX12i_8 22 rfl) rfl ?_
  refine i_newa C (at' := .char) (t := 1) (N := 6) ac_char rfl rfl ra_char rfl (by decide) rfl rfl (Or.inl ⟨by decide, rfl⟩) (by decide) rfl (by decide) (by decide) (by decide) (oDec_at oX12i_8 23 rfl) (fun ad23 h23 => ?_)
  rw [← h23 71 (by decide)]
  refine i_at C (n2 := 95) (k2 := 23) (s2 := 1688) (pc2 := 582) rfl rfl rfl rfl ?_
  refine i_dup C (oDec_at oX12i_8 24 rfl) ?_
  refine i_iconst C (x := 0) (oDec_at oX12i_8 25 rfl) rfl ?_
  refine i_bipush C (x := 109) (oDec_at oX12i_8 26 rfl) rfl ?_
  refine i_cast C (a := 94) rfl (by decide) (by decide) rfl rfl (by decide) rfl (oDec_at oX12i_8 27 rfl) ?_
  refine i_at C (n2 := 95) (k2 := 23) (s2 := 1688) (pc2 := 587) rfl rfl rfl rfl ?_
  refine i_dup C (oDec_at oX12i_8 28 rfl) ?_
  refine i_iconst C (x := 1) (oDec_at oX12i_8 29 rfl) rfl ?_
  refine i_bipush C (x := 105) (oDec_at oX12i_8 30 rfl) rfl ?_
  refine i_cast C (a := 94) rfl (by decide) (by decide) rfl rfl (by decide) rfl (oDec_at oX12i_8 31 rfl) ?_
  refine i_at C (n2 := 95) (k2 := 23) (s2 := 1688) (pc2 := 592) rfl rfl rfl rfl ?_
  refine i_dup C (oDec_at oX12i_8 32 rfl) ?_
  refine i_iconst C (x := 2) (oDec_at oX12i_8 33 rfl) rfl ?_
  refine i_bipush C (x := 114) (oDec_at oX12i_8 34 rfl) rfl ?_
  refine i_cast C (a := 94) rfl (by decide) (by decide) rfl rfl (by decide) rfl (oDec_at oX12i_8 35 rfl) ?_
  refine i_at C (n2 := 95) (k2 := 23) (s2 := 1688) (pc2 := 597) rfl rfl rfl rfl ?_
  refine i_dup C (oDec_at oX12i_8 36 rfl) ?_
  refine i_iconst C (x := 3) (oDec_at oX12i_8 37 rfl) rfl ?_
  refine i_bipush C (x := 114) (oDec_at oX12i_8 38 rfl) rfl ?_
  refine i_cast C (a := 94) rfl (by decide) (by decide) rfl rfl (by decide) rfl (oDec_at oX12i_8 39 rfl) ?_
  refine i_at C (n2 := 95) (k2 := 23) (s2 := 1688) (pc2 := 602) rfl rfl rfl rfl ?_
  refine i_dup C (oDec_at oX12i_8 40 rfl) ?_
  refine i_iconst C (x := 4) (oDec_at oX12i_8 41 rfl) rfl ?_
  refine i_bipush C (x := 111) (oDec_at oX12i_8 42 rfl) rfl ?_
  refine i_cast C (a := 94) rfl (by decide) (by decide) rfl rfl (by decide) rfl (oDec_at oX12i_8 43 rfl) ?_
  refine i_at C (n2 := 95) (k2 := 23) (s2 := 1688) (pc2 := 607) rfl rfl rfl rfl ?_
  refine i_dup C (oDec_at oX12i_8 44 rfl) ?_
  refine i_iconst C (x := 5) (oDec_at oX12i_8 45 rfl) rfl ?_
  refine i_bipush C (x := 114) (oDec_at oX12i_8 46 rfl) rfl ?_
  refine i_cast C (a := 94) rfl (by decide) (by decide) rfl rfl (by decide) rfl (oDec_at oX12i_8 47 rfl) ?_
  refine i_at C (n2 := 95) (k2 := 23) (s2 := 1688) (pc2 := 612) rfl rfl rfl rfl ?_
  refine i_putrF C (a := 71) (k1 := 31) (b := 94) oCl12 rfl (by decide) (by decide) (by decide) flX12_81 rfl rfl rfl rfl (fun _ => rfl) (fun _ => rfl) (oDec_at oX12i_8 48 rfl) ?_
  refine i_aload_n C (j := 0) (oDec_at oX12i_8 49 rfl) rfl rfl ?_
  refine i_iconst C (x := 4) (oDec_at oX12i_9 0 rfl) rfl ?_
  refine i_newa C (at' := .char) (t := 1) (N := 4) ac_char rfl rfl ra_char rfl (by decide) rfl rfl (Or.inl ⟨by decide, rfl⟩) (by decide) rfl (by decide) (by decide) (by decide) (oDec_at oX12i_9 1 rfl) (fun ad24 h24 => ?_)
  rw [← h24 71 (by decide)]
  refine i_at C (n2 := 96) (k2 := 24) (s2 := 1692) (pc2 := 619) rfl rfl rfl rfl ?_
  refine i_dup C (oDec_at oX12i_9 2 rfl) ?_
  refine i_iconst C (x := 0) (oDec_at oX12i_9 3 rfl) rfl ?_
  refine i_bipush C (x := 98) (oDec_at oX12i_9 4 rfl) rfl ?_
  refine i_cast C (a := 95) rfl (by decide) (by decide) rfl rfl (by decide) rfl (oDec_at oX12i_9 5 rfl) ?_
  refine i_at C (n2 := 96) (k2 := 24) (s2 := 1692) (pc2 := 624) rfl rfl rfl rfl ?_
  refine i_dup C (oDec_at oX12i_9 6 rfl) ?_
  refine i_iconst C (x := 1) (oDec_at oX12i_9 7 rfl) rfl ?_
  refine i_bipush C (x := 97) (oDec_at oX12i_9 8 rfl) rfl ?_
  refine i_cast C (a := 95) rfl (by decide) (by decide) rfl rfl (by decide) rfl (oDec_at oX12i_9 9 rfl) ?_
  refine i_at C (n2 := 96) (k2 := 24) (s2 := 1692) (pc2 := 629) rfl rfl rfl rfl ?_
  refine i_dup C (oDec_at oX12i_9 10 rfl) ?_
  refine i_iconst C (x := 2) (oDec_at oX12i_9 11 rfl) rfl ?_
  refine i_bipush C (x := 99) (oDec_at oX12i_9 12 rfl) rfl ?_
  refine i_cast C (a := 95) rfl (by decide) (by decide) rfl rfl (by decide) rfl (oDec_at oX12i_9 13 rfl) ?_
  refine i_at C (n2 := 96) (k2 := 24) (s2 := 1692) (pc2 := 634) rfl rfl rfl rfl ?_
  refine i_dup C (oDec_at oX12i_9 14 rfl) ?_
  refine i_iconst C (x := 3) (oDec_at oX12i_9 15 rfl) rfl ?_
  refine i_bipush C (x := 107) (oDec_at oX12i_9 16 rfl) rfl ?_
  refine i_cast C (a := 95) rfl (by decide) (by decide) rfl rfl (by decide) rfl (oDec_at oX12i_9 17 rfl) ?_
  refine i_at C (n2 := 96) (k2 := 24) (s2 := 1692) (pc2 := 639) rfl rfl rfl rfl ?_
  refine i_putrF C (a := 71) (k1 := 32) (b := 95) oCl12 rfl (by decide) (by decide) (by decide) flX12_84 rfl rfl rfl rfl (fun _ => rfl) (fun _ => rfl) (oDec_at oX12i_9 18 rfl) ?_
  refine i_aload_n C (j := 0) (oDec_at oX12i_9 19 rfl) rfl rfl ?_
  refine i_iconst C (x := 4) (oDec_at oX12i_9 20 rfl) rfl ?_
  refine i_newa C (at' := .char) (t := 1) (N := 4) ac_char rfl rfl ra_char rfl (by decide) rfl rfl (Or.inl ⟨by decide, rfl⟩) (by decide) rfl (by decide) (by decide) (by decide) (oDec_at oX12i_9 21 rfl) (fun ad25 h25 => ?_)
  rw [← h25 71 (by decide)]
  refine i_at C (n2 := 97) (k2 := 25) (s2 := 1696) (pc2 := 646) rfl rfl rfl rfl ?_
  refine i_dup C (oDec_at oX12i_9 22 rfl) ?_
  refine i_iconst C (x := 0) (oDec_at oX12i_9 23 rfl) rfl ?_
  refine i_bipush C (x := 112) (oDec_at oX12i_9 24 rfl) rfl ?_
  refine i_cast C (a := 96) rfl (by decide) (by decide) rfl rfl (by decide) rfl (oDec_at oX12i_9 25 rfl) ?_
  refine i_at C (n2 := 97) (k2 := 25) (s2 := 1696) (pc2 := 651) rfl rfl rfl rfl ?_
  refine i_dup C (oDec_at oX12i_9 26 rfl) ?_
  refine i_iconst C (x := 1) (oDec_at oX12i_9 27 rfl) rfl ?_
  refine i_bipush C (x := 97) (oDec_at oX12i_9 28 rfl) rfl ?_
  refine i_cast C (a := 96) rfl (by decide) (by decide) rfl rfl (by decide) rfl (oDec_at oX12i_9 29 rfl) ?_
  refine i_at C (n2 := 97) (k2 := 25) (s2 := 1696) (pc2 := 656) rfl rfl rfl rfl ?_
  refine i_dup C (oDec_at oX12i_9 30 rfl) ?_
  refine i_iconst C (x := 2) (oDec_at oX12i_9 31 rfl) rfl ?_
  refine i_bipush C (x := 99) (oDec_at oX12i_9 32 rfl) rfl ?_
  refine i_cast C (a := 96) rfl (by decide) (by decide) rfl rfl (by decide) rfl (oDec_at oX12i_9 33 rfl) ?_
  refine i_at C (n2 := 97) (k2 := 25) (s2 := 1696) (pc2 := 661) rfl rfl rfl rfl ?_
  refine i_dup C (oDec_at oX12i_9 34 rfl) ?_
  refine i_iconst C (x := 3) (oDec_at oX12i_9 35 rfl) rfl ?_
  refine i_bipush C (x := 101) (oDec_at oX12i_9 36 rfl) rfl ?_
  refine i_cast C (a := 96) rfl (by decide) (by decide) rfl rfl (by decide) rfl (oDec_at oX12i_9 37 rfl) ?_
  refine i_at C (n2 := 97) (k2 := 25) (s2 := 1696) (pc2 := 666) rfl rfl rfl rfl ?_
  refine i_putrF C (a := 71) (k1 := 33) (b := 96) oCl12 rfl (by decide) (by decide) (by decide) flX12_87 rfl rfl rfl rfl (fun _ => rfl) (fun _ => rfl) (oDec_at oX12i_9 38 rfl) ?_
  refine i_aload_n C (j := 0) (oDec_at oX12i_9 39 rfl) rfl rfl ?_
  refine i_iconst C (x := 3) (oDec_at oX12i_9 40 rfl) rfl ?_
  refine i_newa C (at' := .char) (t := 1) (N := 3) ac_char rfl rfl ra_char rfl (by decide) rfl rfl (Or.inl ⟨by decide, rfl⟩) (by decide) rfl (by decide) (by decide) (by decide) (oDec_at oX12i_9 41 rfl) (fun ad26 h26 => ?_)
  rw [← h26 71 (by decide)]
  refine i_at C (n2 := 98) (k2 := 26) (s2 := 1699) (pc2 := 673) rfl rfl rfl rfl ?_
  refine i_dup C (oDec_at oX12i_9 42 rfl) ?_
  refine i_iconst C (x := 0) (oDec_at oX12i_9 43 rfl) rfl ?_
  refine i_bipush C (x := 109) (oDec_at oX12i_9 44 rfl) rfl ?_
  refine i_cast C (a := 97) rfl (by decide) (by decide) rfl rfl (by decide) rfl (oDec_at oX12i_9 45 rfl) ?_
  refine i_at C (n2 := 98) (k2 := 26) (s2 := 1699) (pc2 := 678) rfl rfl rfl rfl ?_
  refine i_dup C (oDec_at oX12i_9 46 rfl) ?_
  refine i_iconst C (x := 1) (oDec_at oX12i_9 47 rfl) rfl ?_
  refine i_bipush C (x := 105) (oDec_at oX12i_9 48 rfl) rfl ?_
  refine i_cast C (a := 97) rfl (by decide) (by decide) rfl rfl (by decide) rfl (oDec_at oX12i_9 49 rfl) ?_
  refine i_at C (n2 := 98) (k2 := 26) (s2 := 1699) (pc2 := 683) rfl rfl rfl rfl ?_
  refine i_dup C (oDec_at oX12i_10 0 rfl) ?_
  refine i_iconst C (x := 2) (oDec_at oX12i_10 1 rfl) rfl ?_
  refine i_bipush C (x := 110) (oDec_at oX12i_10 2 rfl) rfl ?_
  refine i_cast C (a := 97) rfl (by decide) (by decide) rfl rfl (by decide) rfl (oDec_at oX12i_10 3 rfl) ?_
  refine i_at C (n2 := 98) (k2 := 26) (s2 := 1699) (pc2 := 688) rfl rfl rfl rfl ?_
  refine i_putrF C (a := 71) (k1 := 34) (b := 97) oCl12 rfl (by decide) (by decide) (by decide) flX12_90 rfl rfl rfl rfl (fun _ => rfl) (fun _ => rfl) (oDec_at oX12i_10 4 rfl) ?_
  refine i_aload_n C (j := 0) (oDec_at oX12i_10 5 rfl) rfl rfl ?_
  refine i_iconst C (x := 3) (oDec_at oX12i_10 6 rfl) rfl ?_
  refine i_newa C (at' := .char) (t := 1) (N := 3) ac_char rfl rfl ra_char rfl (by decide) rfl rfl (Or.inl ⟨by decide, rfl⟩) (by decide) rfl (by decide) (by decide) (by decide) (oDec_at oX12i_10 7 rfl) (fun ad27 h27 => ?_)
  rw [← h27 71 (by decide)]
  refine i_at C (n2 := 99) (k2 := 27) (s2 := 1702) (pc2 := 695) rfl rfl rfl rfl ?_
  refine i_dup C (oDec_at oX12i_10 8 rfl) ?_
  refine i_iconst C (x := 0) (oDec_at oX12i_10 9 rfl) rfl ?_
  refine i_bipush C (x := 109) (oDec_at oX12i_10 10 rfl) rfl ?_
  refine i_cast C (a := 98) rfl (by decide) (by decide) rfl rfl (by decide) rfl (oDec_at oX12i_10 11 rfl) ?_
  refine i_at C (n2 := 99) (k2 := 27) (s2 := 1702) (pc2 := 700) rfl rfl rfl rfl ?_
  refine i_dup C (oDec_at oX12i_10 12 rfl) ?_
  refine i_iconst C (x := 1) (oDec_at oX12i_10 13 rfl) rfl ?_
  refine i_bipush C (x := 97) (oDec_at oX12i_10 14 rfl) rfl ?_
  refine i_cast C (a := 98) rfl (by decide) (by decide) rfl rfl (by decide) rfl (oDec_at oX12i_10 15 rfl) ?_
  refine i_at C (n2 := 99) (k2 := 27) (s2 := 1702) (pc2 := 705) rfl rfl rfl rfl ?_
  refine i_dup C (oDec_at oX12i_10 16 rfl) ?_
  refine i_iconst C (x := 2) (oDec_at oX12i_10 17 rfl) rfl ?_
  refine i_bipush C (x := 120) (oDec_at oX12i_10 18 rfl) rfl ?_
  refine i_cast C (a := 98) rfl (by decide) (by decide) rfl rfl (by decide) rfl (oDec_at oX12i_10 19 rfl) ?_
  refine i_at C (n2 := 99) (k2 := 27) (s2 := 1702) (pc2 := 710) rfl rfl rfl rfl ?_
  refine i_putrF C (a := 71) (k1 := 35) (b := 98) oCl12 rfl (by decide) (by decide) (by decide) flX12_93 rfl rfl rfl rfl (fun _ => rfl) (fun _ => rfl) (oDec_at oX12i_10 20 rfl) ?_
  refine i_aload_n C (j := 0) (oDec_at oX12i_10 21 rfl) rfl rfl ?_
  refine i_bipush C (x := 48) (oDec_at oX12i_10 22 rfl) rfl ?_
  refine i_newa C (at' := .int) (t := 0) (N := 48) ac_int rfl rfl ra_int rfl (by decide) rfl rfl (Or.inl ⟨by decide, rfl⟩) (by decide) rfl (by decide) (by decide) (by decide) (oDec_at oX12i_10 23 rfl) (fun ad28 h28 => ?_)
  rw [← h28 71 (by decide)]
  refine i_at C (n2 := 100) (k2 := 28) (s2 := 1750) (pc2 := 718) rfl rfl rfl rfl ?_
  refine i_putrF C (a := 71) (k1 := 39) (b := 99) oCl12 rfl (by decide) (by decide) (by decide) flX12_96 rfl rfl rfl rfl (fun _ => rfl) (fun _ => rfl) (oDec_at oX12i_10 24 rfl) ?_
  refine i_aload_n C (j := 0) (oDec_at oX12i_10 25 rfl) rfl rfl ?_
  refine i_bipush C (x := 48) (oDec_at oX12i_10 26 rfl) rfl ?_
  refine i_newa C (at' := .int) (t := 0) (N := 48) ac_int rfl rfl ra_int rfl (by decide) rfl rfl (Or.inl ⟨by decide, rfl⟩) (by decide) rfl (by decide) (by decide) (by decide) (oDec_at oX12i_10 27 rfl) (fun ad29 h29 => ?_)
  rw [← h29 71 (by decide)]
  refine i_at C (n2 := 101) (k2 := 29) (s2 := 1798) (pc2 := 726) rfl rfl rfl rfl ?_
  refine i_putrF C (a := 71) (k1 := 40) (b := 100) oCl12 rfl (by decide) (by decide) (by decide) flX12_99 rfl rfl rfl rfl (fun _ => rfl) (fun _ => rfl) (oDec_at oX12i_10 28 rfl) ?_
  refine i_aload_n C (j := 0) (oDec_at oX12i_10 29 rfl) rfl rfl ?_
  refine i_bipush C (x := 96) (oDec_at oX12i_10 30 rfl) rfl ?_
  refine i_newa C (at' := .int) (t := 0) (N := 96) ac_int rfl rfl ra_int rfl (by decide) rfl rfl (Or.inl ⟨by decide, rfl⟩) (by decide) rfl (by decide) (by decide) (by decide) (oDec_at oX12i_10 31 rfl) (fun ad30 h30 => ?_)
  rw [← h30 71 (by decide)]
  refine i_at C (n2 := 102) (k2 := 30) (s2 := 1894) (pc2 := 734) rfl rfl rfl rfl ?_
  refine i_putrF C (a := 71) (k1 := 41) (b := 101) oCl12 rfl (by decide) (by decide) (by decide) flX12_102 rfl rfl rfl rfl (fun _ => rfl) (fun _ => rfl) (oDec_at oX12i_10 32 rfl) ?_
  refine i_aload_n C (j := 0) (oDec_at oX12i_10 33 rfl) rfl rfl ?_
  refine i_iconst C (x := (-1)) (oDec_at oX12i_10 34 rfl) rfl ?_
  refine i_puti C (a := 71) (k1 := 43) oCl12 rfl (by decide) (by decide) flX12_105 rfl rfl rfl rfl rfl (oDec_at oX12i_10 35 rfl) ?_
  refine i_at C (n2 := 102) (k2 := 30) (s2 := 1894) (pc2 := 742) rfl rfl rfl rfl ?_
  refine i_aload_n C (j := 0) (oDec_at oX12i_10 36 rfl) rfl rfl ?_
  refine i_sipush C (x := 3200) (oDec_at oX12i_10 37 rfl) rfl ?_
  refine i_newa C (at' := .int) (t := 0) (N := 3200) ac_int rfl rfl ra_int rfl (by decide) rfl rfl (Or.inl ⟨by decide, rfl⟩) (by decide) rfl (by decide) (by decide) (by decide) (oDec_at oX12i_10 38 rfl) (fun ad31 h31 => ?_)
  rw [← h31 71 (by decide)]
  refine i_at C (n2 := 103) (k2 := 31) (s2 := 5094) (pc2 := 748) rfl rfl rfl rfl ?_
  refine i_putrF C (a := 71) (k1 := 44) (b := 102) oCl12 rfl (by decide) (by decide) (by decide) flX12_108 rfl rfl rfl rfl (fun _ => rfl) (fun _ => rfl) (oDec_at oX12i_10 39 rfl) ?_
  refine i_at C (n2 := 103) (k2 := 31) (s2 := 5094) (pc2 := 751) rfl rfl rfl rfl ?_
  refine i_aload_n C (j := 0) (oDec_at oX12i_10 40 rfl) rfl rfl ?_
  refine i_sipush C (x := 1700) (oDec_at oX12i_10 41 rfl) rfl ?_
  refine i_newa C (at' := .int) (t := 0) (N := 1700) ac_int rfl rfl ra_int rfl (by decide) rfl rfl (Or.inl ⟨by decide, rfl⟩) (by decide) rfl (by decide) (by decide) (by decide) (oDec_at oX12i_10 42 rfl) (fun ad32 h32 => ?_)
  rw [← h32 71 (by decide)]
  refine i_at C (n2 := 104) (k2 := 32) (s2 := 6794) (pc2 := 757) rfl rfl rfl rfl ?_
  refine i_putrF C (a := 71) (k1 := 46) (b := 103) oCl12 rfl (by decide) (by decide) (by decide) flX12_111 rfl rfl rfl rfl (fun _ => rfl) (fun _ => rfl) (oDec_at oX12i_10 43 rfl) ?_
  refine i_at C (n2 := 104) (k2 := 32) (s2 := 6794) (pc2 := 760) rfl rfl rfl rfl ?_
  refine i_aload_n C (j := 0) (oDec_at oX12i_10 44 rfl) rfl rfl ?_
  refine i_iconst C (x := 4) (oDec_at oX12i_10 45 rfl) rfl ?_
  refine i_newa C (at' := .int) (t := 0) (N := 4) ac_int rfl rfl ra_int rfl (by decide) rfl rfl (Or.inl ⟨by decide, rfl⟩) (by decide) rfl (by decide) (by decide) (by decide) (oDec_at oX12i_10 46 rfl) (fun ad33 h33 => ?_)
  rw [← h33 71 (by decide)]
  refine i_at C (n2 := 105) (k2 := 33) (s2 := 6798) (pc2 := 764) rfl rfl rfl rfl ?_
  refine i_putrF C (a := 71) (k1 := 49) (b := 104) oCl12 rfl (by decide) (by decide) (by decide) flX12_114 rfl rfl rfl rfl (fun _ => rfl) (fun _ => rfl) (oDec_at oX12i_10 47 rfl) ?_
  refine i_at C (n2 := 105) (k2 := 33) (s2 := 6798) (pc2 := 767) rfl rfl rfl rfl ?_
  refine i_aload_n C (j := 0) (oDec_at oX12i_10 48 rfl) rfl rfl ?_
  refine i_bipush C (x := 48) (oDec_at oX12i_10 49 rfl) rfl ?_
  refine i_newa C (at' := .int) (t := 0) (N := 48) ac_int rfl rfl ra_int rfl (by decide) rfl rfl (Or.inl ⟨by decide, rfl⟩) (by decide) rfl (by decide) (by decide) (by decide) (oDec_at oX12i_11 0 rfl) (fun ad34 h34 => ?_)
  rw [← h34 71 (by decide)]
  refine i_at C (n2 := 106) (k2 := 34) (s2 := 6846) (pc2 := 772) rfl rfl rfl rfl ?_
  refine i_putrF C (a := 71) (k1 := 50) (b := 105) oCl12 rfl (by decide) (by decide) (by decide) flX12_117 rfl rfl rfl rfl (fun _ => rfl) (fun _ => rfl) (oDec_at oX12i_11 1 rfl) ?_
  refine i_at C (n2 := 106) (k2 := 34) (s2 := 6846) (pc2 := 775) rfl rfl rfl rfl ?_
  refine i_aload_n C (j := 0) (oDec_at oX12i_11 2 rfl) rfl rfl ?_
  refine i_bipush C (x := 48) (oDec_at oX12i_11 3 rfl) rfl ?_
  refine i_newa C (at' := .int) (t := 0) (N := 48) ac_int rfl rfl ra_int rfl (by decide) rfl rfl (Or.inl ⟨by decide, rfl⟩) (by decide) rfl (by decide) (by decide) (by decide) (oDec_at oX12i_11 4 rfl) (fun ad35 h35 => ?_)
  rw [← h35 71 (by decide)]
  refine i_at C (n2 := 107) (k2 := 35) (s2 := 6894) (pc2 := 780) rfl rfl rfl rfl ?_
  refine i_putrF C (a := 71) (k1 := 51) (b := 106) oCl12 rfl (by decide) (by decide) (by decide) flX12_120 rfl rfl rfl rfl (fun _ => rfl) (fun _ => rfl) (oDec_at oX12i_11 5 rfl) ?_
  refine i_at C (n2 := 107) (k2 := 35) (s2 := 6894) (pc2 := 783) rfl rfl rfl rfl ?_
  refine i_aload_n C (j := 0) (oDec_at oX12i_11 6 rfl) rfl rfl ?_
  refine i_bipush C (x := 12) (oDec_at oX12i_11 7 rfl) rfl ?_
  refine i_newa C (at' := .long) (t := 3) (N := 12) ac_long rfl rfl ra_long rfl (by decide) rfl rfl (Or.inr ⟨rfl, rfl⟩) (by decide) rfl (by decide) (by decide) (by decide) (oDec_at oX12i_11 8 rfl) (fun ad36 h36 => ?_)
  rw [← h36 71 (by decide)]
  refine i_at C (n2 := 108) (k2 := 36) (s2 := 6906) (pc2 := 788) rfl rfl rfl rfl ?_
  refine i_putrF C (a := 71) (k1 := 52) (b := 107) oCl12 rfl (by decide) (by decide) (by decide) flX12_123 rfl rfl rfl rfl (fun _ => rfl) (fun _ => rfl) (oDec_at oX12i_11 9 rfl) ?_
  refine i_at C (n2 := 108) (k2 := 36) (s2 := 6906) (pc2 := 791) rfl rfl rfl rfl ?_
  refine i_aload_n C (j := 0) (oDec_at oX12i_11 10 rfl) rfl rfl ?_
  refine i_iconst C (x := 4) (oDec_at oX12i_11 11 rfl) rfl ?_
  refine i_puti C (a := 71) (k1 := 53) oCl12 rfl (by decide) (by decide) flX12_127 rfl rfl rfl rfl rfl (oDec_at oX12i_11 12 rfl) ?_
  refine i_aload_n C (j := 0) (oDec_at oX12i_11 13 rfl) rfl rfl ?_
  refine i_at C (n2 := 108) (k2 := 36) (s2 := 6906) (pc2 := 797) rfl rfl rfl rfl ?_
  refine i_sipush C (x := 1700) (oDec_at oX12i_11 14 rfl) rfl ?_
  refine i_newa C (at' := .long) (t := 3) (N := 1700) ac_long rfl rfl ra_long rfl (by decide) rfl rfl (Or.inr ⟨rfl, rfl⟩) (by decide) rfl (by decide) (by decide) (by decide) (oDec_at oX12i_11 15 rfl) (fun ad37 h37 => ?_)
  rw [← h37 71 (by decide)]
  refine i_at C (n2 := 109) (k2 := 37) (s2 := 8606) (pc2 := 802) rfl rfl rfl rfl ?_
  refine i_putrF C (a := 71) (k1 := 57) (b := 108) oCl12 rfl (by decide) (by decide) (by decide) flX12_130 rfl rfl rfl rfl (fun _ => rfl) (fun _ => rfl) (oDec_at oX12i_11 16 rfl) ?_
  refine i_aload_n C (j := 0) (oDec_at oX12i_11 17 rfl) rfl rfl ?_
  refine i_at C (n2 := 109) (k2 := 37) (s2 := 8606) (pc2 := 806) rfl rfl rfl rfl ?_
  refine i_bipush C (x := 8) (oDec_at oX12i_11 18 rfl) rfl ?_
  refine i_newa C (at' := .int) (t := 0) (N := 8) ac_int rfl rfl ra_int rfl (by decide) rfl rfl (Or.inl ⟨by decide, rfl⟩) (by decide) rfl (by decide) (by decide) (by decide) (oDec_at oX12i_11 19 rfl) (fun ad38 h38 => ?_)
  rw [← h38 71 (by decide)]
  refine i_at C (n2 := 110) (k2 := 38) (s2 := 8614) (pc2 := 810) rfl rfl rfl rfl ?_
  refine i_putrF C (a := 71) (k1 := 59) (b := 109) oCl12 rfl (by decide) (by decide) (by decide) flX12_133 rfl rfl rfl rfl (fun _ => rfl) (fun _ => rfl) (oDec_at oX12i_11 20 rfl) ?_
  refine i_aload_n C (j := 0) (oDec_at oX12i_11 21 rfl) rfl rfl ?_
  refine i_at C (n2 := 110) (k2 := 38) (s2 := 8614) (pc2 := 814) rfl rfl rfl rfl ?_
  refine i_iconst C (x := (-1)) (oDec_at oX12i_11 22 rfl) rfl ?_
  refine i_puti C (a := 71) (k1 := 64) oCl12 rfl (by decide) (by decide) flX12_136 rfl rfl rfl rfl rfl (oDec_at oX12i_11 23 rfl) ?_
  refine i_aload_n C (j := 0) (oDec_at oX12i_11 24 rfl) rfl rfl ?_
  refine i_bipush C (x := 8) (oDec_at oX12i_11 25 rfl) rfl ?_
  refine i_at C (n2 := 110) (k2 := 38) (s2 := 8614) (pc2 := 821) rfl rfl rfl rfl ?_
  refine i_puti C (a := 71) (k1 := 66) oCl12 rfl (by decide) (by decide) flX12_139 rfl rfl rfl rfl rfl (oDec_at oX12i_11 26 rfl) ?_
  refine i_aload_n C (j := 0) (oDec_at oX12i_11 27 rfl) rfl rfl ?_
  refine i_iconst C (x := 4) (oDec_at oX12i_11 28 rfl) rfl ?_
  refine i_puti C (a := 71) (k1 := 67) oCl12 rfl (by decide) (by decide) flX12_142 rfl rfl rfl rfl rfl (oDec_at oX12i_11 29 rfl) ?_
  refine i_at C (n2 := 110) (k2 := 38) (s2 := 8614) (pc2 := 829) rfl rfl rfl rfl ?_
  refine i_aload_n C (j := 0) (oDec_at oX12i_11 30 rfl) rfl rfl ?_
  refine i_sipush C (x := 4500) (oDec_at oX12i_11 31 rfl) rfl ?_
  refine i_newa C (at' := .int) (t := 0) (N := 4500) ac_int rfl rfl ra_int rfl (by decide) rfl rfl (Or.inl ⟨by decide, rfl⟩) (by decide) rfl (by decide) (by decide) (by decide) (oDec_at oX12i_11 32 rfl) (fun ad39 h39 => ?_)
  rw [← h39 71 (by decide)]
  refine i_at C (n2 := 111) (k2 := 39) (s2 := 13114) (pc2 := 835) rfl rfl rfl rfl ?_
  refine i_putrF C (a := 71) (k1 := 70) (b := 110) oCl12 rfl (by decide) (by decide) (by decide) flX12_145 rfl rfl rfl rfl (fun _ => rfl) (fun _ => rfl) (oDec_at oX12i_11 33 rfl) ?_
  refine i_at C (n2 := 111) (k2 := 39) (s2 := 13114) (pc2 := 838) rfl rfl rfl rfl ?_
  refine i_aload_n C (j := 0) (oDec_at oX12i_11 34 rfl) rfl rfl ?_
  refine i_sipush C (x := 1600) (oDec_at oX12i_11 35 rfl) rfl ?_
  refine i_newa C (at' := .boolean) (t := 2) (N := 1600) ac_boolean rfl rfl ra_boolean rfl (by decide) rfl rfl (Or.inl ⟨by decide, rfl⟩) (by decide) rfl (by decide) (by decide) (by decide) (oDec_at oX12i_11 36 rfl) (fun ad40 h40 => ?_)
  rw [← h40 71 (by decide)]
  refine i_at C (n2 := 112) (k2 := 40) (s2 := 14714) (pc2 := 844) rfl rfl rfl rfl ?_
  refine i_putrF C (a := 71) (k1 := 72) (b := 111) oCl12 rfl (by decide) (by decide) (by decide) flX12_148 rfl rfl rfl rfl (fun _ => rfl) (fun _ => rfl) (oDec_at oX12i_11 37 rfl) ?_
  refine i_at C (n2 := 112) (k2 := 40) (s2 := 14714) (pc2 := 847) rfl rfl rfl rfl ?_
  refine i_aload_n C (j := 0) (oDec_at oX12i_11 38 rfl) rfl rfl ?_
  refine i_iconst C (x := 3) (oDec_at oX12i_11 39 rfl) rfl ?_
  refine i_newa C (at' := .int) (t := 0) (N := 3) ac_int rfl rfl ra_int rfl (by decide) rfl rfl (Or.inl ⟨by decide, rfl⟩) (by decide) rfl (by decide) (by decide) (by decide) (oDec_at oX12i_11 40 rfl) (fun ad41 h41 => ?_)
  rw [← h41 71 (by decide)]
  refine i_at C (n2 := 113) (k2 := 41) (s2 := 14717) (pc2 := 851) rfl rfl rfl rfl ?_
  refine i_putrF C (a := 71) (k1 := 73) (b := 112) oCl12 rfl (by decide) (by decide) (by decide) flX12_152 rfl rfl rfl rfl (fun _ => rfl) (fun _ => rfl) (oDec_at oX12i_11 41 rfl) ?_
  refine i_at C (n2 := 113) (k2 := 41) (s2 := 14717) (pc2 := 854) rfl rfl rfl rfl ?_
  refine i_aload_n C (j := 0) (oDec_at oX12i_11 42 rfl) rfl rfl ?_
  refine i_bipush C (x := 30) (oDec_at oX12i_11 43 rfl) rfl ?_
  refine i_newa C (at' := .int) (t := 0) (N := 30) ac_int rfl rfl ra_int rfl (by decide) rfl rfl (Or.inl ⟨by decide, rfl⟩) (by decide) rfl (by decide) (by decide) (by decide) (oDec_at oX12i_11 44 rfl) (fun ad42 h42 => ?_)
  rw [← h42 71 (by decide)]
  refine i_at C (n2 := 114) (k2 := 42) (s2 := 14747) (pc2 := 859) rfl rfl rfl rfl ?_
  refine i_putrF C (a := 71) (k1 := 74) (b := 113) oCl12 rfl (by decide) (by decide) (by decide) flX12_155 rfl rfl rfl rfl (fun _ => rfl) (fun _ => rfl) (oDec_at oX12i_11 45 rfl) ?_
  refine i_at C (n2 := 114) (k2 := 42) (s2 := 14747) (pc2 := 862) rfl rfl rfl rfl ?_
  refine i_aload_n C (j := 0) (oDec_at oX12i_11 46 rfl) rfl rfl ?_
  refine i_bipush C (x := 24) (oDec_at oX12i_11 47 rfl) rfl ?_
  refine i_newa C (at' := .int) (t := 0) (N := 24) ac_int rfl rfl ra_int rfl (by decide) rfl rfl (Or.inl ⟨by decide, rfl⟩) (by decide) rfl (by decide) (by decide) (by decide) (oDec_at oX12i_11 48 rfl) (fun ad43 h43 => ?_)
  rw [← h43 71 (by decide)]
  refine i_at C (n2 := 115) (k2 := 43) (s2 := 14771) (pc2 := 867) rfl rfl rfl rfl ?_
  refine i_putrF C (a := 71) (k1 := 75) (b := 114) oCl12 rfl (by decide) (by decide) (by decide) flX12_158 rfl rfl rfl rfl (fun _ => rfl) (fun _ => rfl) (oDec_at oX12i_11 49 rfl) ?_
  refine i_at C (n2 := 115) (k2 := 43) (s2 := 14771) (pc2 := 870) rfl rfl rfl rfl ?_
  refine i_aload_n C (j := 0) (oDec_at oX12i_12 0 rfl) rfl rfl ?_
  refine i_bipush C (x := 24) (oDec_at oX12i_12 1 rfl) rfl ?_
  refine i_newa C (at' := .int) (t := 0) (N := 24) ac_int rfl rfl ra_int rfl (by decide) rfl rfl (Or.inl ⟨by decide, rfl⟩) (by decide) rfl (by decide) (by decide) (by decide) (oDec_at oX12i_12 2 rfl) (fun ad44 h44 => ?_)
  rw [← h44 71 (by decide)]
  refine i_at C (n2 := 116) (k2 := 44) (s2 := 14795) (pc2 := 875) rfl rfl rfl rfl ?_
  refine i_putrF C (a := 71) (k1 := 76) (b := 115) oCl12 rfl (by decide) (by decide) (by decide) flX12_161 rfl rfl rfl rfl (fun _ => rfl) (fun _ => rfl) (oDec_at oX12i_12 3 rfl) ?_
  refine i_at C (n2 := 116) (k2 := 44) (s2 := 14795) (pc2 := 878) rfl rfl rfl rfl ?_
  refine i_aload_n C (j := 0) (oDec_at oX12i_12 4 rfl) rfl rfl ?_
  refine i_iconst C (x := 4) (oDec_at oX12i_12 5 rfl) rfl ?_
  refine i_newa C (at' := .int) (t := 0) (N := 4) ac_int rfl rfl ra_int rfl (by decide) rfl rfl (Or.inl ⟨by decide, rfl⟩) (by decide) rfl (by decide) (by decide) (by decide) (oDec_at oX12i_12 6 rfl) (fun ad45 h45 => ?_)
  rw [← h45 71 (by decide)]
  refine i_at C (n2 := 117) (k2 := 45) (s2 := 14799) (pc2 := 882) rfl rfl rfl rfl ?_
  refine i_putrF C (a := 71) (k1 := 78) (b := 116) oCl12 rfl (by decide) (by decide) (by decide) flX12_164 rfl rfl rfl rfl (fun _ => rfl) (fun _ => rfl) (oDec_at oX12i_12 7 rfl) ?_
  refine i_at C (n2 := 117) (k2 := 45) (s2 := 14799) (pc2 := 885) rfl rfl rfl rfl ?_
  refine i_aload_n C (j := 0) (oDec_at oX12i_12 8 rfl) rfl rfl ?_
  refine i_bipush C (x := 60) (oDec_at oX12i_12 9 rfl) rfl ?_
  refine i_newa C (at' := .int) (t := 0) (N := 60) ac_int rfl rfl ra_int rfl (by decide) rfl rfl (Or.inl ⟨by decide, rfl⟩) (by decide) rfl (by decide) (by decide) (by decide) (oDec_at oX12i_12 10 rfl) (fun ad46 h46 => ?_)
  rw [← h46 71 (by decide)]
  refine i_at C (n2 := 118) (k2 := 46) (s2 := 14859) (pc2 := 890) rfl rfl rfl rfl ?_
  refine i_putrF C (a := 71) (k1 := 80) (b := 117) oCl12 rfl (by decide) (by decide) (by decide) flX12_167 rfl rfl rfl rfl (fun _ => rfl) (fun _ => rfl) (oDec_at oX12i_12 11 rfl) ?_
  refine i_at C (n2 := 118) (k2 := 46) (s2 := 14859) (pc2 := 893) rfl rfl rfl rfl ?_
  exact i_ret C (oDec_at oX12i_12 12 rfl)
