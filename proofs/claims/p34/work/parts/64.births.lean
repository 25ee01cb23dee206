def t_X8_init_1 (σ : oS) : oS := (pR σ 1 0 3)
set_option maxHeartbeats 4000000 in
set_option maxRecDepth 100000 in
theorem ci_X8_init_1 (l : Launch) : oMi l 1 yX8_init cX8_init 1 1 1600 2 3 (fun E => [.ref (oad E 1)]) t_X8_init_1 := by
  refine oMi.of (lv := fun E => [(0, .ref (oad E 1))]) (by decide +kernel) (fun _ => Nat.le_of_ble_eq_true rfl) (fun _ => rfl) (fun E σ J C => ?_)
  have C : oCi l 1 1 1600 cX8_init RX8 "<init>" 1 E 2 3 (t_X8_init_1 σ) J := C
  refine i_aload_n C (j := 0) (oDec_at oX8_init 0 rfl) rfl rfl ?_
  refine i_obj C obX8 obI obC (Nat.le_of_ble_eq_true rfl) (by decide) (oDec_at oX8_init 1 rfl) ?_
  refine i_at C (n2 := 2) (k2 := 0) (s2 := 0) (pc2 := 4) rfl rfl rfl rfl ?_
  refine i_aload_n C (j := 0) (oDec_at oX8_init 2 rfl) rfl rfl ?_
  refine i_sipush C (x := 1600) (oDec_at oX8_init 3 rfl) rfl ?_
  refine i_at C (n2 := 2) (k2 := 0) (s2 := 0) (pc2 := 8) rfl rfl rfl rfl ?_
  refine i_newa C (at' := .int) (t := 0) (N := 1600) ac_int rfl rfl ra_int rfl (by decide) rfl rfl (Or.inl ⟨by decide, rfl⟩) (by decide) rfl (by decide) (by decide) (by decide) (oDec_at oX8_init 4 rfl) (fun ad1 h1 => ?_)
  rw [← h1 1 (by decide)]
  refine i_at C (n2 := 3) (k2 := 1) (s2 := 1600) (pc2 := 10) rfl rfl rfl rfl ?_
  refine i_putrF C (a := 1) (k1 := 0) (b := 2) oCl8 rfl (by decide) (by decide) (by decide) flX8_11 rfl rfl rfl rfl (fun _ => rfl) (fun _ => rfl) (oDec_at oX8_init 5 rfl) ?_
  exact i_ret C (oDec_at oX8_init 6 rfl)
def t_X4_init_3 (σ : oS) : oS := (pI (pR (pR (pR (pR σ 3 0 5) 3 1 6) 3 2 7) 3 3 8) 3 6 (-1))
set_option maxHeartbeats 4000000 in
set_option maxRecDepth 100000 in
theorem ci_X4_init_3 (l : Launch) : oMi l 1 yX4_init cX4_init 1 4 168 4 8 (fun E => [.ref (oad E 3)]) t_X4_init_3 := by
  refine oMi.of (lv := fun E => [(0, .ref (oad E 3))]) (by decide +kernel) (fun _ => Nat.le_of_ble_eq_true rfl) (fun _ => rfl) (fun E σ J C => ?_)
  have C : oCi l 1 4 168 cX4_init RX4 "<init>" 1 E 4 8 (t_X4_init_3 σ) J := C
  refine i_aload_n C (j := 0) (oDec_at oX4_init 0 rfl) rfl rfl ?_
  refine i_obj C obX4 obI obC (Nat.le_of_ble_eq_true rfl) (by decide) (oDec_at oX4_init 1 rfl) ?_
  refine i_at C (n2 := 4) (k2 := 0) (s2 := 0) (pc2 := 4) rfl rfl rfl rfl ?_
  refine i_aload_n C (j := 0) (oDec_at oX4_init 2 rfl) rfl rfl ?_
  refine i_bipush C (x := 24) (oDec_at oX4_init 3 rfl) rfl ?_
  refine i_at C (n2 := 4) (k2 := 0) (s2 := 0) (pc2 := 7) rfl rfl rfl rfl ?_
  refine i_newa C (at' := .int) (t := 0) (N := 24) ac_int rfl rfl ra_int rfl (by decide) rfl rfl (Or.inl ⟨by decide, rfl⟩) (by decide) rfl (by decide) (by decide) (by decide) (oDec_at oX4_init 4 rfl) (fun ad1 h1 => ?_)
  rw [← h1 3 (by decide)]
  refine i_at C (n2 := 5) (k2 := 1) (s2 := 24) (pc2 := 9) rfl rfl rfl rfl ?_
  refine i_putrF C (a := 3) (k1 := 0) (b := 4) oCl4 rfl (by decide) (by decide) (by decide) flX4_9 rfl rfl rfl rfl (fun _ => rfl) (fun _ => rfl) (oDec_at oX4_init 5 rfl) ?_
  refine i_aload_n C (j := 0) (oDec_at oX4_init 6 rfl) rfl rfl ?_
  refine i_bipush C (x := 24) (oDec_at oX4_init 7 rfl) rfl ?_
  refine i_at C (n2 := 5) (k2 := 1) (s2 := 24) (pc2 := 15) rfl rfl rfl rfl ?_
  refine i_newa C (at' := .int) (t := 0) (N := 24) ac_int rfl rfl ra_int rfl (by decide) rfl rfl (Or.inl ⟨by decide, rfl⟩) (by decide) rfl (by decide) (by decide) (by decide) (oDec_at oX4_init 8 rfl) (fun ad2 h2 => ?_)
  rw [← h2 3 (by decide)]
  refine i_at C (n2 := 6) (k2 := 2) (s2 := 48) (pc2 := 17) rfl rfl rfl rfl ?_
  refine i_putrF C (a := 3) (k1 := 1) (b := 5) oCl4 rfl (by decide) (by decide) (by decide) flX4_15 rfl rfl rfl rfl (fun _ => rfl) (fun _ => rfl) (oDec_at oX4_init 9 rfl) ?_
  refine i_aload_n C (j := 0) (oDec_at oX4_init 10 rfl) rfl rfl ?_
  refine i_bipush C (x := 24) (oDec_at oX4_init 11 rfl) rfl ?_
  refine i_at C (n2 := 6) (k2 := 2) (s2 := 48) (pc2 := 23) rfl rfl rfl rfl ?_
  refine i_newa C (at' := .int) (t := 0) (N := 24) ac_int rfl rfl ra_int rfl (by decide) rfl rfl (Or.inl ⟨by decide, rfl⟩) (by decide) rfl (by decide) (by decide) (by decide) (oDec_at oX4_init 12 rfl) (fun ad3 h3 => ?_)
  rw [← h3 3 (by decide)]
  refine i_at C (n2 := 7) (k2 := 3) (s2 := 72) (pc2 := 25) rfl rfl rfl rfl ?_
  refine i_putrF C (a := 3) (k1 := 2) (b := 6) oCl4 rfl (by decide) (by decide) (by decide) flX4_18 rfl rfl rfl rfl (fun _ => rfl) (fun _ => rfl) (oDec_at oX4_init 13 rfl) ?_
  refine i_aload_n C (j := 0) (oDec_at oX4_init 14 rfl) rfl rfl ?_
  refine i_bipush C (x := 96) (oDec_at oX4_init 15 rfl) rfl ?_
  refine i_at C (n2 := 7) (k2 := 3) (s2 := 72) (pc2 := 31) rfl rfl rfl rfl ?_
  refine i_newa C (at' := .int) (t := 0) (N := 96) ac_int rfl rfl ra_int rfl (by decide) rfl rfl (Or.inl ⟨by decide, rfl⟩) (by decide) rfl (by decide) (by decide) (by decide) (oDec_at oX4_init 16 rfl) (fun ad4 h4 => ?_)
  rw [← h4 3 (by decide)]
  refine i_at C (n2 := 8) (k2 := 4) (s2 := 168) (pc2 := 33) rfl rfl rfl rfl ?_
  refine i_putrF C (a := 3) (k1 := 3) (b := 7) oCl4 rfl (by decide) (by decide) (by decide) flX4_21 rfl rfl rfl rfl (fun _ => rfl) (fun _ => rfl) (oDec_at oX4_init 17 rfl) ?_
  refine i_aload_n C (j := 0) (oDec_at oX4_init 18 rfl) rfl rfl ?_
  refine i_iconst C (x := (-1)) (oDec_at oX4_init 19 rfl) rfl ?_
  refine i_at C (n2 := 8) (k2 := 4) (s2 := 168) (pc2 := 38) rfl rfl rfl rfl ?_
  refine i_puti C (a := 3) (k1 := 6) oCl4 rfl (by decide) (by decide) flX4_24 rfl rfl rfl rfl rfl (oDec_at oX4_init 20 rfl) ?_
  exact i_ret C (oDec_at oX4_init 21 rfl)
def t_X4_init_8 (σ : oS) : oS := (pI (pR (pR (pR (pR σ 8 0 10) 8 1 11) 8 2 12) 8 3 13) 8 6 (-1))
set_option maxHeartbeats 4000000 in
set_option maxRecDepth 100000 in
theorem ci_X4_init_8 (l : Launch) : oMi l 1 yX4_init cX4_init 1 4 168 9 13 (fun E => [.ref (oad E 8)]) t_X4_init_8 := by
  refine oMi.of (lv := fun E => [(0, .ref (oad E 8))]) (by decide +kernel) (fun _ => Nat.le_of_ble_eq_true rfl) (fun _ => rfl) (fun E σ J C => ?_)
  have C : oCi l 1 4 168 cX4_init RX4 "<init>" 1 E 9 13 (t_X4_init_8 σ) J := C
  refine i_aload_n C (j := 0) (oDec_at oX4_init 0 rfl) rfl rfl ?_
  refine i_obj C obX4 obI obC (Nat.le_of_ble_eq_true rfl) (by decide) (oDec_at oX4_init 1 rfl) ?_
  refine i_at C (n2 := 9) (k2 := 0) (s2 := 0) (pc2 := 4) rfl rfl rfl rfl ?_
  refine i_aload_n C (j := 0) (oDec_at oX4_init 2 rfl) rfl rfl ?_
  refine i_bipush C (x := 24) (oDec_at oX4_init 3 rfl) rfl ?_
  refine i_at C (n2 := 9) (k2 := 0) (s2 := 0) (pc2 := 7) rfl rfl rfl rfl ?_
  refine i_newa C (at' := .int) (t := 0) (N := 24) ac_int rfl rfl ra_int rfl (by decide) rfl rfl (Or.inl ⟨by decide, rfl⟩) (by decide) rfl (by decide) (by decide) (by decide) (oDec_at oX4_init 4 rfl) (fun ad1 h1 => ?_)
  rw [← h1 8 (by decide)]
  refine i_at C (n2 := 10) (k2 := 1) (s2 := 24) (pc2 := 9) rfl rfl rfl rfl ?_
  refine i_putrF C (a := 8) (k1 := 0) (b := 9) oCl4 rfl (by decide) (by decide) (by decide) flX4_9 rfl rfl rfl rfl (fun _ => rfl) (fun _ => rfl) (oDec_at oX4_init 5 rfl) ?_
  refine i_aload_n C (j := 0) (oDec_at oX4_init 6 rfl) rfl rfl ?_
  refine i_bipush C (x := 24) (oDec_at oX4_init 7 rfl) rfl ?_
  refine i_at C (n2 := 10) (k2 := 1) (s2 := 24) (pc2 := 15) rfl rfl rfl rfl ?_
  refine i_newa C (at' := .int) (t := 0) (N := 24) ac_int rfl rfl ra_int rfl (by decide) rfl rfl (Or.inl ⟨by decide, rfl⟩) (by decide) rfl (by decide) (by decide) (by decide) (oDec_at oX4_init 8 rfl) (fun ad2 h2 => ?_)
  rw [← h2 8 (by decide)]
  refine i_at C (n2 := 11) (k2 := 2) (s2 := 48) (pc2 := 17) rfl rfl rfl rfl ?_
  refine i_putrF C (a := 8) (k1 := 1) (b := 10) oCl4 rfl (by decide) (by decide) (by decide) flX4_15 rfl rfl rfl rfl (fun _ => rfl) (fun _ => rfl) (oDec_at oX4_init 9 rfl) ?_
  refine i_aload_n C (j := 0) (oDec_at oX4_init 10 rfl) rfl rfl ?_
  refine i_bipush C (x := 24) (oDec_at oX4_init 11 rfl) rfl ?_
  refine i_at C (n2 := 11) (k2 := 2) (s2 := 48) (pc2 := 23) rfl rfl rfl rfl ?_
  refine i_newa C (at' := .int) (t := 0) (N := 24) ac_int rfl rfl ra_int rfl (by decide) rfl rfl (Or.inl ⟨by decide, rfl⟩) (by decide) rfl (by decide) (by decide) (by decide) (oDec_at oX4_init 12 rfl) (fun ad3 h3 => ?_)
  rw [← h3 8 (by decide)]
  refine i_at C (n2 := 12) (k2 := 3) (s2 := 72) (pc2 := 25) rfl rfl rfl rfl ?_
  refine i_putrF C (a := 8) (k1 := 2) (b := 11) oCl4 rfl (by decide) (by decide) (by decide) flX4_18 rfl rfl rfl rfl (fun _ => rfl) (fun _ => rfl) (oDec_at oX4_init 13 rfl) ?_
  refine i_aload_n C (j := 0) (oDec_at oX4_init 14 rfl) rfl rfl ?_
  refine i_bipush C (x := 96) (oDec_at oX4_init 15 rfl) rfl ?_
  refine i_at C (n2 := 12) (k2 := 3) (s2 := 72) (pc2 := 31) rfl rfl rfl rfl ?_
  refine i_newa C (at' := .int) (t := 0) (N := 96) ac_int rfl rfl ra_int rfl (by decide) rfl rfl (Or.inl ⟨by decide, rfl⟩) (by decide) rfl (by decide) (by decide) (by decide) (oDec_at oX4_init 16 rfl) (fun ad4 h4 => ?_)
  rw [← h4 8 (by decide)]
  refine i_at C (n2 := 13) (k2 := 4) (s2 := 168) (pc2 := 33) rfl rfl rfl rfl ?_
  refine i_putrF C (a := 8) (k1 := 3) (b := 12) oCl4 rfl (by decide) (by decide) (by decide) flX4_21 rfl rfl rfl rfl (fun _ => rfl) (fun _ => rfl) (oDec_at oX4_init 17 rfl) ?_
  refine i_aload_n C (j := 0) (oDec_at oX4_init 18 rfl) rfl rfl ?_
  refine i_iconst C (x := (-1)) (oDec_at oX4_init 19 rfl) rfl ?_
  refine i_at C (n2 := 13) (k2 := 4) (s2 := 168) (pc2 := 38) rfl rfl rfl rfl ?_
  refine i_puti C (a := 8) (k1 := 6) oCl4 rfl (by decide) (by decide) flX4_24 rfl rfl rfl rfl rfl (oDec_at oX4_init 20 rfl) ?_
  exact i_ret C (oDec_at oX4_init 21 rfl)
def t_X4_init_13 (σ : oS) : oS := (pI (pR (pR (pR (pR σ 13 0 15) 13 1 16) 13 2 17) 13 3 18) 13 6 (-1))
set_option maxHeartbeats 4000000 in
set_option maxRecDepth 100000 in
theorem ci_X4_init_13 (l : Launch) : oMi l 1 yX4_init cX4_init 1 4 168 14 18 (fun E => [.ref (oad E 13)]) t_X4_init_13 := by
  refine oMi.of (lv := fun E => [(0, .ref (oad E 13))]) (by decide +kernel) (fun _ => Nat.le_of_ble_eq_true rfl) (fun _ => rfl) (fun E σ J C => ?_)
  have C : oCi l 1 4 168 cX4_init RX4 "<init>" 1 E 14 18 (t_X4_init_13 σ) J := C
  refine i_aload_n C (j := 0) (oDec_at oX4_init 0 rfl) rfl rfl ?_
  refine i_obj C obX4 obI obC (Nat.le_of_ble_eq_true rfl) (by decide) (oDec_at oX4_init 1 rfl) ?_
  refine i_at C (n2 := 14) (k2 := 0) (s2 := 0) (pc2 := 4) rfl rfl rfl rfl ?_
  refine i_aload_n C (j := 0) (oDec_at oX4_init 2 rfl) rfl rfl ?_
  refine i_bipush C (x := 24) (oDec_at oX4_init 3 rfl) rfl ?_
  refine i_at C (n2 := 14) (k2 := 0) (s2 := 0) (pc2 := 7) rfl rfl rfl rfl ?_
  refine i_newa C (at' := .int) (t := 0) (N := 24) ac_int rfl rfl ra_int rfl (by decide) rfl rfl (Or.inl ⟨by decide, rfl⟩) (by decide) rfl (by decide) (by decide) (by decide) (oDec_at oX4_init 4 rfl) (fun ad1 h1 => ?_)
  rw [← h1 13 (by decide)]
  refine i_at C (n2 := 15) (k2 := 1) (s2 := 24) (pc2 := 9) rfl rfl rfl rfl ?_
  refine i_putrF C (a := 13) (k1 := 0) (b := 14) oCl4 rfl (by decide) (by decide) (by decide) flX4_9 rfl rfl rfl rfl (fun _ => rfl) (fun _ => rfl) (oDec_at oX4_init 5 rfl) ?_
  refine i_aload_n C (j := 0) (oDec_at oX4_init 6 rfl) rfl rfl ?_
  refine i_bipush C (x := 24) (oDec_at oX4_init 7 rfl) rfl ?_
  refine i_at C (n2 := 15) (k2 := 1) (s2 := 24) (pc2 := 15) rfl rfl rfl rfl ?_
  refine i_newa C (at' := .int) (t := 0) (N := 24) ac_int rfl rfl ra_int rfl (by decide) rfl rfl (Or.inl ⟨by decide, rfl⟩) (by decide) rfl (by decide) (by decide) (by decide) (oDec_at oX4_init 8 rfl) (fun ad2 h2 => ?_)
  rw [← h2 13 (by decide)]
  refine i_at C (n2 := 16) (k2 := 2) (s2 := 48) (pc2 := 17) rfl rfl rfl rfl ?_
  refine i_putrF C (a := 13) (k1 := 1) (b := 15) oCl4 rfl (by decide) (by decide) (by decide) flX4_15 rfl rfl rfl rfl (fun _ => rfl) (fun _ => rfl) (oDec_at oX4_init 9 rfl) ?_
  refine i_aload_n C (j := 0) (oDec_at oX4_init 10 rfl) rfl rfl ?_
  refine i_bipush C (x := 24) (oDec_at oX4_init 11 rfl) rfl ?_
  refine i_at C (n2 := 16) (k2 := 2) (s2 := 48) (pc2 := 23) rfl rfl rfl rfl ?_
  refine i_newa C (at' := .int) (t := 0) (N := 24) ac_int rfl rfl ra_int rfl (by decide) rfl rfl (Or.inl ⟨by decide, rfl⟩) (by decide) rfl (by decide) (by decide) (by decide) (oDec_at oX4_init 12 rfl) (fun ad3 h3 => ?_)
  rw [← h3 13 (by decide)]
  refine i_at C (n2 := 17) (k2 := 3) (s2 := 72) (pc2 := 25) rfl rfl rfl rfl ?_
  refine i_putrF C (a := 13) (k1 := 2) (b := 16) oCl4 rfl (by decide) (by decide) (by decide) flX4_18 rfl rfl rfl rfl (fun _ => rfl) (fun _ => rfl) (oDec_at oX4_init 13 rfl) ?_
  refine i_aload_n C (j := 0) (oDec_at oX4_init 14 rfl) rfl rfl ?_
  refine i_bipush C (x := 96) (oDec_at oX4_init 15 rfl) rfl ?_
  refine i_at C (n2 := 17) (k2 := 3) (s2 := 72) (pc2 := 31) rfl rfl rfl rfl ?_
  refine i_newa C (at' := .int) (t := 0) (N := 96) ac_int rfl rfl ra_int rfl (by decide) rfl rfl (Or.inl ⟨by decide, rfl⟩) (by decide) rfl (by decide) (by decide) (by decide) (oDec_at oX4_init 16 rfl) (fun ad4 h4 => ?_)
  rw [← h4 13 (by decide)]
  refine i_at C (n2 := 18) (k2 := 4) (s2 := 168) (pc2 := 33) rfl rfl rfl rfl ?_
  refine i_putrF C (a := 13) (k1 := 3) (b := 17) oCl4 rfl (by decide) (by decide) (by decide) flX4_21 rfl rfl rfl rfl (fun _ => rfl) (fun _ => rfl) (oDec_at oX4_init 17 rfl) ?_
  refine i_aload_n C (j := 0) (oDec_at oX4_init 18 rfl) rfl rfl ?_
  refine i_iconst C (x := (-1)) (oDec_at oX4_init 19 rfl) rfl ?_
  refine i_at C (n2 := 18) (k2 := 4) (s2 := 168) (pc2 := 38) rfl rfl rfl rfl ?_
  refine i_puti C (a := 13) (k1 := 6) oCl4 rfl (by decide) (by decide) flX4_24 rfl rfl rfl rfl rfl (oDec_at oX4_init 20 rfl) ?_
  exact i_ret C (oDec_at oX4_init 21 rfl)
def t_X0_init_18 (σ : oS) : oS := (pI (pR (pR (pR (pR (pR σ 18 0 20) 18 2 21) 18 3 22) 18 4 23) 18 5 24) 18 6 4)
set_option maxHeartbeats 4000000 in
set_option maxRecDepth 100000 in
theorem ci_X0_init_18 (l : Launch) : oMi l 1 yX0_init cX0_init 1 5 1736 19 24 (fun E => [.ref (oad E 18)]) t_X0_init_18 := by
  refine oMi.of (lv := fun E => [(0, .ref (oad E 18))]) (by decide +kernel) (fun _ => Nat.le_of_ble_eq_true rfl) (fun _ => rfl) (fun E σ J C => ?_)
  have C : oCi l 1 5 1736 cX0_init RX0 "<init>" 1 E 19 24 (t_X0_init_18 σ) J := C
  refine i_aload_n C (j := 0) (oDec_at oX0_init 0 rfl) rfl rfl ?_
  refine i_obj C obX0 obI obC (Nat.le_of_ble_eq_true rfl) (by decide) (oDec_at oX0_init 1 rfl) ?_
  refine i_at C (n2 := 19) (k2 := 0) (s2 := 0) (pc2 := 4) rfl rfl rfl rfl ?_
  refine i_aload_n C (j := 0) (oDec_at oX0_init 2 rfl) rfl rfl ?_
  refine i_sipush C (x := 1600) (oDec_at oX0_init 3 rfl) rfl ?_
  refine i_at C (n2 := 19) (k2 := 0) (s2 := 0) (pc2 := 8) rfl rfl rfl rfl ?_
  refine i_newa C (at' := .int) (t := 0) (N := 1600) ac_int rfl rfl ra_int rfl (by decide) rfl rfl (Or.inl ⟨by decide, rfl⟩) (by decide) rfl (by decide) (by decide) (by decide) (oDec_at oX0_init 4 rfl) (fun ad1 h1 => ?_)
  rw [← h1 18 (by decide)]
  refine i_at C (n2 := 20) (k2 := 1) (s2 := 1600) (pc2 := 10) rfl rfl rfl rfl ?_
  refine i_putrF C (a := 18) (k1 := 0) (b := 19) oCl0 rfl (by decide) (by decide) (by decide) flX0_11 rfl rfl rfl rfl (fun _ => rfl) (fun _ => rfl) (oDec_at oX0_init 5 rfl) ?_
  refine i_aload_n C (j := 0) (oDec_at oX0_init 6 rfl) rfl rfl ?_
  refine i_bipush C (x := 18) (oDec_at oX0_init 7 rfl) rfl ?_
  refine i_at C (n2 := 20) (k2 := 1) (s2 := 1600) (pc2 := 16) rfl rfl rfl rfl ?_
  refine i_newa C (at' := .int) (t := 0) (N := 18) ac_int rfl rfl ra_int rfl (by decide) rfl rfl (Or.inl ⟨by decide, rfl⟩) (by decide) rfl (by decide) (by decide) (by decide) (oDec_at oX0_init 8 rfl) (fun ad2 h2 => ?_)
  rw [← h2 18 (by decide)]
  refine i_at C (n2 := 21) (k2 := 2) (s2 := 1618) (pc2 := 18) rfl rfl rfl rfl ?_
  refine i_putrF C (a := 18) (k1 := 2) (b := 20) oCl0 rfl (by decide) (by decide) (by decide) flX0_17 rfl rfl rfl rfl (fun _ => rfl) (fun _ => rfl) (oDec_at oX0_init 9 rfl) ?_
  refine i_aload_n C (j := 0) (oDec_at oX0_init 10 rfl) rfl rfl ?_
  refine i_bipush C (x := 18) (oDec_at oX0_init 11 rfl) rfl ?_
  refine i_at C (n2 := 21) (k2 := 2) (s2 := 1618) (pc2 := 24) rfl rfl rfl rfl ?_
  refine i_newa C (at' := .int) (t := 0) (N := 18) ac_int rfl rfl ra_int rfl (by decide) rfl rfl (Or.inl ⟨by decide, rfl⟩) (by decide) rfl (by decide) (by decide) (by decide) (oDec_at oX0_init 12 rfl) (fun ad3 h3 => ?_)
  rw [← h3 18 (by decide)]
  refine i_at C (n2 := 22) (k2 := 3) (s2 := 1636) (pc2 := 26) rfl rfl rfl rfl ?_
  refine i_putrF C (a := 18) (k1 := 3) (b := 21) oCl0 rfl (by decide) (by decide) (by decide) flX0_20 rfl rfl rfl rfl (fun _ => rfl) (fun _ => rfl) (oDec_at oX0_init 13 rfl) ?_
  refine i_aload_n C (j := 0) (oDec_at oX0_init 14 rfl) rfl rfl ?_
  refine i_bipush C (x := 36) (oDec_at oX0_init 15 rfl) rfl ?_
  refine i_at C (n2 := 22) (k2 := 3) (s2 := 1636) (pc2 := 32) rfl rfl rfl rfl ?_
  refine i_newa C (at' := .int) (t := 0) (N := 36) ac_int rfl rfl ra_int rfl (by decide) rfl rfl (Or.inl ⟨by decide, rfl⟩) (by decide) rfl (by decide) (by decide) (by decide) (oDec_at oX0_init 16 rfl) (fun ad4 h4 => ?_)
  rw [← h4 18 (by decide)]
  refine i_at C (n2 := 23) (k2 := 4) (s2 := 1672) (pc2 := 34) rfl rfl rfl rfl ?_
  refine i_putrF C (a := 18) (k1 := 4) (b := 22) oCl0 rfl (by decide) (by decide) (by decide) flX0_23 rfl rfl rfl rfl (fun _ => rfl) (fun _ => rfl) (oDec_at oX0_init 17 rfl) ?_
  refine i_aload_n C (j := 0) (oDec_at oX0_init 18 rfl) rfl rfl ?_
  refine i_bipush C (x := 64) (oDec_at oX0_init 19 rfl) rfl ?_
  refine i_at C (n2 := 23) (k2 := 4) (s2 := 1672) (pc2 := 40) rfl rfl rfl rfl ?_
  refine i_newa C (at' := .int) (t := 0) (N := 64) ac_int rfl rfl ra_int rfl (by decide) rfl rfl (Or.inl ⟨by decide, rfl⟩) (by decide) rfl (by decide) (by decide) (by decide) (oDec_at oX0_init 20 rfl) (fun ad5 h5 => ?_)
  rw [← h5 18 (by decide)]
  refine i_at C (n2 := 24) (k2 := 5) (s2 := 1736) (pc2 := 42) rfl rfl rfl rfl ?_
  refine i_putrF C (a := 18) (k1 := 5) (b := 23) oCl0 rfl (by decide) (by decide) (by decide) flX0_26 rfl rfl rfl rfl (fun _ => rfl) (fun _ => rfl) (oDec_at oX0_init 21 rfl) ?_
  refine i_aload_n C (j := 0) (oDec_at oX0_init 22 rfl) rfl rfl ?_
  refine i_iconst C (x := 4) (oDec_at oX0_init 23 rfl) rfl ?_
  refine i_at C (n2 := 24) (k2 := 5) (s2 := 1736) (pc2 := 47) rfl rfl rfl rfl ?_
  refine i_puti C (a := 18) (k1 := 6) oCl0 rfl (by decide) (by decide) flX0_29 rfl rfl rfl rfl rfl (oDec_at oX0_init 24 rfl) ?_
  exact i_ret C (oDec_at oX0_init 25 rfl)
def t_X0_init_24 (σ : oS) : oS := (pI (pR (pR (pR (pR (pR σ 24 0 26) 24 2 27) 24 3 28) 24 4 29) 24 5 30) 24 6 4)
set_option maxHeartbeats 4000000 in
set_option maxRecDepth 100000 in
theorem ci_X0_init_24 (l : Launch) : oMi l 1 yX0_init cX0_init 1 5 1736 25 30 (fun E => [.ref (oad E 24)]) t_X0_init_24 := by
  refine oMi.of (lv := fun E => [(0, .ref (oad E 24))]) (by decide +kernel) (fun _ => Nat.le_of_ble_eq_true rfl) (fun _ => rfl) (fun E σ J C => ?_)
  have C : oCi l 1 5 1736 cX0_init RX0 "<init>" 1 E 25 30 (t_X0_init_24 σ) J := C
  refine i_aload_n C (j := 0) (oDec_at oX0_init 0 rfl) rfl rfl ?_
  refine i_obj C obX0 obI obC (Nat.le_of_ble_eq_true rfl) (by decide) (oDec_at oX0_init 1 rfl) ?_
  refine i_at C (n2 := 25) (k2 := 0) (s2 := 0) (pc2 := 4) rfl rfl rfl rfl ?_
  refine i_aload_n C (j := 0) (oDec_at oX0_init 2 rfl) rfl rfl ?_
  refine i_sipush C (x := 1600) (oDec_at oX0_init 3 rfl) rfl ?_
  refine i_at C (n2 := 25) (k2 := 0) (s2 := 0) (pc2 := 8) rfl rfl rfl rfl ?_
  refine i_newa C (at' := .int) (t := 0) (N := 1600) ac_int rfl rfl ra_int rfl (by decide) rfl rfl (Or.inl ⟨by decide, rfl⟩) (by decide) rfl (by decide) (by decide) (by decide) (oDec_at oX0_init 4 rfl) (fun ad1 h1 => ?_)
  rw [← h1 24 (by decide)]
  refine i_at C (n2 := 26) (k2 := 1) (s2 := 1600) (pc2 := 10) rfl rfl rfl rfl ?_
  refine i_putrF C (a := 24) (k1 := 0) (b := 25) oCl0 rfl (by decide) (by decide) (by decide) flX0_11 rfl rfl rfl rfl (fun _ => rfl) (fun _ => rfl) (oDec_at oX0_init 5 rfl) ?_
  refine i_aload_n C (j := 0) (oDec_at oX0_init 6 rfl) rfl rfl ?_
  refine i_bipush C (x := 18) (oDec_at oX0_init 7 rfl) rfl ?_
  refine i_at C (n2 := 26) (k2 := 1) (s2 := 1600) (pc2 := 16) rfl rfl rfl rfl ?_
  refine i_newa C (at' := .int) (t := 0) (N := 18) ac_int rfl rfl ra_int rfl (by decide) rfl rfl (Or.inl ⟨by decide, rfl⟩) (by decide) rfl (by decide) (by decide) (by decide) (oDec_at oX0_init 8 rfl) (fun ad2 h2 => ?_)
  rw [← h2 24 (by decide)]
  refine i_at C (n2 := 27) (k2 := 2) (s2 := 1618) (pc2 := 18) rfl rfl rfl rfl ?_
  refine i_putrF C (a := 24) (k1 := 2) (b := 26) oCl0 rfl (by decide) (by decide) (by decide) flX0_17 rfl rfl rfl rfl (fun _ => rfl) (fun _ => rfl) (oDec_at oX0_init 9 rfl) ?_
  refine i_aload_n C (j := 0) (oDec_at oX0_init 10 rfl) rfl rfl ?_
  refine i_bipush C (x := 18) (oDec_at oX0_init 11 rfl) rfl ?_
  refine i_at C (n2 := 27) (k2 := 2) (s2 := 1618) (pc2 := 24) rfl rfl rfl rfl ?_
  refine i_newa C (at' := .int) (t := 0) (N := 18) ac_int rfl rfl ra_int rfl (by decide) rfl rfl (Or.inl ⟨by decide, rfl⟩) (by decide) rfl (by decide) (by decide) (by decide) (oDec_at oX0_init 12 rfl) (fun ad3 h3 => ?_)
  rw [← h3 24 (by decide)]
  refine i_at C (n2 := 28) (k2 := 3) (s2 := 1636) (pc2 := 26) rfl rfl rfl rfl ?_
  refine i_putrF C (a := 24) (k1 := 3) (b := 27) oCl0 rfl (by decide) (by decide) (by decide) flX0_20 rfl rfl rfl rfl (fun _ => rfl) (fun _ => rfl) (oDec_at oX0_init 13 rfl) ?_
  refine i_aload_n C (j := 0) (oDec_at oX0_init 14 rfl) rfl rfl ?_
  refine i_bipush C (x := 36) (oDec_at oX0_init 15 rfl) rfl ?_
  refine i_at C (n2 := 28) (k2 := 3) (s2 := 1636) (pc2 := 32) rfl rfl rfl rfl ?_
  refine i_newa C (at' := .int) (t := 0) (N := 36) ac_int rfl rfl ra_int rfl (by decide) rfl rfl (Or.inl ⟨by decide, rfl⟩) (by decide) rfl (by decide) (by decide) (by decide) (oDec_at oX0_init 16 rfl) (fun ad4 h4 => ?_)
  rw [← h4 24 (by decide)]
  refine i_at C (n2 := 29) (k2 := 4) (s2 := 1672) (pc2 := 34) rfl rfl rfl rfl ?_
  refine i_putrF C (a := 24) (k1 := 4) (b := 28) oCl0 rfl (by decide) (by decide) (by decide) flX0_23 rfl rfl rfl rfl (fun _ => rfl) (fun _ => rfl) (oDec_at oX0_init 17 rfl) ?_
  refine i_aload_n C (j := 0) (oDec_at oX0_init 18 rfl) rfl rfl ?_
  refine i_bipush C (x := 64) (oDec_at oX0_init 19 rfl) rfl ?_
  refine i_at C (n2 := 29) (k2 := 4) (s2 := 1672) (pc2 := 40) rfl rfl rfl rfl ?_
  refine i_newa C (at' := .int) (t := 0) (N := 64) ac_int rfl rfl ra_int rfl (by decide) rfl rfl (Or.inl ⟨by decide, rfl⟩) (by decide) rfl (by decide) (by decide) (by decide) (oDec_at oX0_init 20 rfl) (fun ad5 h5 => ?_)
  rw [← h5 24 (by decide)]
  refine i_at C (n2 := 30) (k2 := 5) (s2 := 1736) (pc2 := 42) rfl rfl rfl rfl ?_
  refine i_putrF C (a := 24) (k1 := 5) (b := 29) oCl0 rfl (by decide) (by decide) (by decide) flX0_26 rfl rfl rfl rfl (fun _ => rfl) (fun _ => rfl) (oDec_at oX0_init 21 rfl) ?_
  refine i_aload_n C (j := 0) (oDec_at oX0_init 22 rfl) rfl rfl ?_
  refine i_iconst C (x := 4) (oDec_at oX0_init 23 rfl) rfl ?_
  refine i_at C (n2 := 30) (k2 := 5) (s2 := 1736) (pc2 := 47) rfl rfl rfl rfl ?_
  refine i_puti C (a := 24) (k1 := 6) oCl0 rfl (by decide) (by decide) flX0_29 rfl rfl rfl rfl rfl (oDec_at oX0_init 24 rfl) ?_
  exact i_ret C (oDec_at oX0_init 25 rfl)
def t_X5_init_30 (σ : oS) : oS := (pR (pR (pI σ 30 9 (-1)) 30 0 2) 30 1 25)
set_option maxHeartbeats 4000000 in
set_option maxRecDepth 100000 in
theorem ci_X5_init_30 (l : Launch) : oMi l 1 yX5_init cX5_init 3 0 0 31 31 (fun E => [.ref (oad E 30), .ref (oad E 1), .ref (oad E 24)]) t_X5_init_30 := by
  refine oMi.of (lv := fun E => [(0, .ref (oad E 30)), (1, .ref (oad E 1)), (2, .ref (oad E 24))]) (by decide +kernel) (fun _ => Nat.le_of_ble_eq_true rfl) (fun _ => rfl) (fun E σ J C => ?_)
  have C : oCi l 1 0 0 cX5_init RX5 "<init>" 3 E 31 31 (t_X5_init_30 σ) J := C
  refine i_aload_n C (j := 0) (oDec_at oX5_init 0 rfl) rfl rfl ?_
  refine i_obj C obX5 obI obC (Nat.le_of_ble_eq_true rfl) (by decide) (oDec_at oX5_init 1 rfl) ?_
  refine i_at C (n2 := 31) (k2 := 0) (s2 := 0) (pc2 := 4) rfl rfl rfl rfl ?_
  refine i_aload_n C (j := 0) (oDec_at oX5_init 2 rfl) rfl rfl ?_
  refine i_iconst C (x := (-1)) (oDec_at oX5_init 3 rfl) rfl ?_
  refine i_at C (n2 := 31) (k2 := 0) (s2 := 0) (pc2 := 6) rfl rfl rfl rfl ?_
  refine i_puti C (a := 30) (k1 := 9) oCl5 rfl (by decide) (by decide) flX5_9 rfl rfl rfl rfl rfl (oDec_at oX5_init 4 rfl) ?_
  refine i_aload_n C (j := 0) (oDec_at oX5_init 5 rfl) rfl rfl ?_
  refine i_aload_n C (j := 1) (oDec_at oX5_init 6 rfl) rfl rfl ?_
  refine i_putrF C (a := 30) (k1 := 0) (b := 1) oCl5 rfl (by decide) (by decide) (by decide) flX5_15 rfl rfl rfl rfl (fun _ => rfl) (fun _ => rfl) (oDec_at oX5_init 7 rfl) ?_
  refine i_at C (n2 := 31) (k2 := 0) (s2 := 0) (pc2 := 14) rfl rfl rfl rfl ?_
  refine i_aload_n C (j := 0) (oDec_at oX5_init 8 rfl) rfl rfl ?_
  refine i_aload_n C (j := 2) (oDec_at oX5_init 9 rfl) rfl rfl ?_
  refine i_putr C (a := 30) (k1 := 1) (b := 24) oCl5 rfl (by decide) (by decide) (by decide) flX5_19 rfl rfl rfl (fun _ => rfl) (fun _ => rfl) (oDec_at oX5_init 10 rfl) ?_
  exact i_ret C (oDec_at oX5_init 11 rfl)
def t_X2_follow_31 (σ : oS) : oS := (t_fill (pR σ 31 3 19))
set_option maxHeartbeats 4000000 in
set_option maxRecDepth 100000 in
theorem ci_X2_follow_31 (l : Launch) (E : oE) (σ : oS) (hp : σ.2.2 31 0 = 33) : oMi1 l 2 yX2_follow cX2_follow 2 0 0 35 35 [.ref (oad E 31), .ref (oad E 18)] E σ (t_X2_follow_31 σ) := by
  refine oMi1.of (lv := [(0, .ref (oad E 31)), (1, .ref (oad E 18))]) (by decide +kernel) (Nat.le_of_ble_eq_true rfl) rfl (fun J C => ?_)
  have C : oCi l 2 0 0 cX2_follow RX2 "follow" 2 E 35 35 (t_X2_follow_31 σ) J := C
  refine i_aload_n C (j := 0) (oDec_at oX2_follow 0 rfl) rfl rfl ?_
  refine i_aload_n C (j := 1) (oDec_at oX2_follow 1 rfl) rfl rfl ?_
  refine i_putr C (a := 31) (k1 := 3) (b := 18) oCl2 rfl (by decide) (by decide) (by decide) flX2_25 rfl rfl rfl (fun _ => rfl) (fun _ => rfl) (oDec_at oX2_follow 2 rfl) ?_
  refine i_aload_n C (j := 0) (oDec_at oX2_follow 3 rfl) rfl rfl ?_
  refine i_at C (n2 := 35) (k2 := 0) (s2 := 0) (pc2 := 6) rfl rfl rfl rfl ?_
  refine i_getr C (a := 31) (k1 := 0) (b := 32) oCl2 rfl (by decide) (by decide) flX2_11 rfl rfl (by exact hp) (oDec_at oX2_follow 4 rfl) ?_
  refine i_iconst C (x := (-1)) (oDec_at oX2_follow 5 rfl) rfl ?_
  refine i_callS C miJ7_fill_53178 mlX2_29 (ci_fill l) rfl (by decide) (by decide) rfl rfl (Nat.le_of_ble_eq_true rfl) (by decide) (by decide) (oDec_at oX2_follow 6 rfl) (fun ad1 h1 => ?_)
  rw [← h1 18 (by decide)]
  rw [← h1 31 (by decide)]
  refine i_at C (n2 := 35) (k2 := 0) (s2 := 0) (pc2 := 13) rfl rfl rfl rfl ?_
  exact i_ret C (oDec_at oX2_follow 7 rfl)
def t_X2_init_31 (σ : oS) : oS := (t_X2_follow_31 (pR (pR (pR σ 31 0 33) 31 1 34) 31 2 35))
set_option maxHeartbeats 4000000 in
set_option maxRecDepth 100000 in
theorem ci_X2_init_31 (l : Launch) : oMi l 3 yX2_init cX2_init 2 3 8200 32 35 (fun E => [.ref (oad E 31), .ref (oad E 18)]) t_X2_init_31 := by
  refine oMi.of (lv := fun E => [(0, .ref (oad E 31)), (1, .ref (oad E 18))]) (by decide +kernel) (fun _ => Nat.le_of_ble_eq_true rfl) (fun _ => rfl) (fun E σ J C => ?_)
  have C : oCi l 3 3 8200 cX2_init RX2 "<init>" 2 E 32 35 (t_X2_init_31 σ) J := C
  refine i_aload_n C (j := 0) (oDec_at oX2_init 0 rfl) rfl rfl ?_
  refine i_obj C obX2 obI obC (Nat.le_of_ble_eq_true rfl) (by decide) (oDec_at oX2_init 1 rfl) ?_
  refine i_at C (n2 := 32) (k2 := 0) (s2 := 0) (pc2 := 4) rfl rfl rfl rfl ?_
  refine i_aload_n C (j := 0) (oDec_at oX2_init 2 rfl) rfl rfl ?_
  refine i_sipush C (x := 4096) (oDec_at oX2_init 3 rfl) rfl ?_
  refine i_at C (n2 := 32) (k2 := 0) (s2 := 0) (pc2 := 8) rfl rfl rfl rfl ?_
  refine i_newa C (at' := .int) (t := 0) (N := 4096) ac_int rfl rfl ra_int rfl (by decide) rfl rfl (Or.inl ⟨by decide, rfl⟩) (by decide) rfl (by decide) (by decide) (by decide) (oDec_at oX2_init 4 rfl) (fun ad1 h1 => ?_)
  rw [← h1 18 (by decide)]
  rw [← h1 31 (by decide)]
  refine i_at C (n2 := 33) (k2 := 1) (s2 := 4096) (pc2 := 10) rfl rfl rfl rfl ?_
  refine i_putrF C (a := 31) (k1 := 0) (b := 32) oCl2 rfl (by decide) (by decide) (by decide) flX2_11 rfl rfl rfl rfl (fun _ => rfl) (fun _ => rfl) (oDec_at oX2_init 5 rfl) ?_
  refine i_aload_n C (j := 0) (oDec_at oX2_init 6 rfl) rfl rfl ?_
  refine i_sipush C (x := 4096) (oDec_at oX2_init 7 rfl) rfl ?_
  refine i_at C (n2 := 33) (k2 := 1) (s2 := 4096) (pc2 := 17) rfl rfl rfl rfl ?_
  refine i_newa C (at' := .int) (t := 0) (N := 4096) ac_int rfl rfl ra_int rfl (by decide) rfl rfl (Or.inl ⟨by decide, rfl⟩) (by decide) rfl (by decide) (by decide) (by decide) (oDec_at oX2_init 8 rfl) (fun ad2 h2 => ?_)
  rw [← h2 18 (by decide)]
  rw [← h2 31 (by decide)]
  refine i_at C (n2 := 34) (k2 := 2) (s2 := 8192) (pc2 := 19) rfl rfl rfl rfl ?_
  refine i_putrF C (a := 31) (k1 := 1) (b := 33) oCl2 rfl (by decide) (by decide) (by decide) flX2_15 rfl rfl rfl rfl (fun _ => rfl) (fun _ => rfl) (oDec_at oX2_init 9 rfl) ?_
  refine i_aload_n C (j := 0) (oDec_at oX2_init 10 rfl) rfl rfl ?_
  refine i_bipush C (x := 8) (oDec_at oX2_init 11 rfl) rfl ?_
  refine i_at C (n2 := 34) (k2 := 2) (s2 := 8192) (pc2 := 25) rfl rfl rfl rfl ?_
  refine i_newa C (at' := .int) (t := 0) (N := 8) ac_int rfl rfl ra_int rfl (by decide) rfl rfl (Or.inl ⟨by decide, rfl⟩) (by decide) rfl (by decide) (by decide) (by decide) (oDec_at oX2_init 12 rfl) (fun ad3 h3 => ?_)
  rw [← h3 18 (by decide)]
  rw [← h3 31 (by decide)]
  refine i_at C (n2 := 35) (k2 := 3) (s2 := 8200) (pc2 := 27) rfl rfl rfl rfl ?_
  refine i_putrF C (a := 31) (k1 := 2) (b := 34) oCl2 rfl (by decide) (by decide) (by decide) flX2_18 rfl rfl rfl rfl (fun _ => rfl) (fun _ => rfl) (oDec_at oX2_init 13 rfl) ?_
  refine i_aload_n C (j := 0) (oDec_at oX2_init 14 rfl) rfl rfl ?_
  refine i_aload_n C (j := 1) (oDec_at oX2_init 15 rfl) rfl rfl ?_
  refine i_at C (n2 := 35) (k2 := 3) (s2 := 8200) (pc2 := 32) rfl rfl rfl rfl ?_
  refine i_callV1 C (a := 31) oCl2 rfl (by decide) miX2_follow mlX2_21 (ci_X2_follow_31 l (oEa E ad3) (pR (pR (pR σ 31 0 33) 31 1 34) 31 2 35) rfl) (by decide) (by decide) rfl rfl (Nat.le_of_ble_eq_true rfl) (by decide) (by decide) (oDec_at oX2_init 16 rfl) (fun ad4 h4 => ?_)
  rw [← h4 18 (by decide)]
  rw [← h4 31 (by decide)]
  refine i_at C (n2 := 35) (k2 := 3) (s2 := 8200) (pc2 := 35) rfl rfl rfl rfl ?_
  exact i_ret C (oDec_at oX2_init 17 rfl)
def t_X9_init_40 (σ : oS) : oS := σ
set_option maxHeartbeats 4000000 in
set_option maxRecDepth 100000 in
theorem ci_X9_init_40 (l : Launch) : oMi l 1 yX9_init cX9_init 1 0 0 41 41 (fun E => [.ref (oad E 40)]) t_X9_init_40 := by
  refine oMi.of (lv := fun E => [(0, .ref (oad E 40))]) (by decide +kernel) (fun _ => Nat.le_of_ble_eq_true rfl) (fun _ => rfl) (fun E σ J C => ?_)
  have C : oCi l 1 0 0 cX9_init RX9 "<init>" 1 E 41 41 (t_X9_init_40 σ) J := C
  refine i_aload_n C (j := 0) (oDec_at oX9_init 0 rfl) rfl rfl ?_
  refine i_obj C obX9 obI obC (Nat.le_of_ble_eq_true rfl) (by decide) (oDec_at oX9_init 1 rfl) ?_
  refine i_at C (n2 := 41) (k2 := 0) (s2 := 0) (pc2 := 4) rfl rfl rfl rfl ?_
  exact i_ret C (oDec_at oX9_init 2 rfl)
def t_X9_init_41 (σ : oS) : oS := σ
set_option maxHeartbeats 4000000 in
set_option maxRecDepth 100000 in
theorem ci_X9_init_41 (l : Launch) : oMi l 1 yX9_init cX9_init 1 0 0 42 42 (fun E => [.ref (oad E 41)]) t_X9_init_41 := by
  refine oMi.of (lv := fun E => [(0, .ref (oad E 41))]) (by decide +kernel) (fun _ => Nat.le_of_ble_eq_true rfl) (fun _ => rfl) (fun E σ J C => ?_)
  have C : oCi l 1 0 0 cX9_init RX9 "<init>" 1 E 42 42 (t_X9_init_41 σ) J := C
  refine i_aload_n C (j := 0) (oDec_at oX9_init 0 rfl) rfl rfl ?_
  refine i_obj C obX9 obI obC (Nat.le_of_ble_eq_true rfl) (by decide) (oDec_at oX9_init 1 rfl) ?_
  refine i_at C (n2 := 42) (k2 := 0) (s2 := 0) (pc2 := 4) rfl rfl rfl rfl ?_
  exact i_ret C (oDec_at oX9_init 2 rfl)
def t_X1_init_35 (σ : oS) : oS := (pR (t_X9_init_41 (pR (t_X9_init_40 (pR (pR (pR (pR σ 35 0 37) 35 1 38) 35 2 39) 35 3 40)) 35 4 41)) 35 5 42)
set_option maxHeartbeats 4000000 in
set_option maxRecDepth 100000 in
theorem ci_X1_init_35 (l : Launch) : oMi l 2 yX1_init cX1_init 1 6 202 36 42 (fun E => [.ref (oad E 35)]) t_X1_init_35 := by
  refine oMi.of (lv := fun E => [(0, .ref (oad E 35))]) (by decide +kernel) (fun _ => Nat.le_of_ble_eq_true rfl) (fun _ => rfl) (fun E σ J C => ?_)
  have C : oCi l 2 6 202 cX1_init RX1 "<init>" 1 E 36 42 (t_X1_init_35 σ) J := C
  refine i_aload_n C (j := 0) (oDec_at oX1_init 0 rfl) rfl rfl ?_
  refine i_obj C obX1 obI obC (Nat.le_of_ble_eq_true rfl) (by decide) (oDec_at oX1_init 1 rfl) ?_
  refine i_at C (n2 := 36) (k2 := 0) (s2 := 0) (pc2 := 4) rfl rfl rfl rfl ?_
  refine i_aload_n C (j := 0) (oDec_at oX1_init 2 rfl) rfl rfl ?_
  refine i_bipush C (x := 48) (oDec_at oX1_init 3 rfl) rfl ?_
  refine i_at C (n2 := 36) (k2 := 0) (s2 := 0) (pc2 := 7) rfl rfl rfl rfl ?_
  refine i_newa C (at' := .int) (t := 0) (N := 48) ac_int rfl rfl ra_int rfl (by decide) rfl rfl (Or.inl ⟨by decide, rfl⟩) (by decide) rfl (by decide) (by decide) (by decide) (oDec_at oX1_init 4 rfl) (fun ad1 h1 => ?_)
  rw [← h1 35 (by decide)]
  refine i_at C (n2 := 37) (k2 := 1) (s2 := 48) (pc2 := 9) rfl rfl rfl rfl ?_
  refine i_putrF C (a := 35) (k1 := 0) (b := 36) oCl1 rfl (by decide) (by decide) (by decide) flX1_11 rfl rfl rfl rfl (fun _ => rfl) (fun _ => rfl) (oDec_at oX1_init 5 rfl) ?_
  refine i_aload_n C (j := 0) (oDec_at oX1_init 6 rfl) rfl rfl ?_
  refine i_bipush C (x := 48) (oDec_at oX1_init 7 rfl) rfl ?_
  refine i_at C (n2 := 37) (k2 := 1) (s2 := 48) (pc2 := 15) rfl rfl rfl rfl ?_
  refine i_newa C (at' := .int) (t := 0) (N := 48) ac_int rfl rfl ra_int rfl (by decide) rfl rfl (Or.inl ⟨by decide, rfl⟩) (by decide) rfl (by decide) (by decide) (by decide) (oDec_at oX1_init 8 rfl) (fun ad2 h2 => ?_)
  rw [← h2 35 (by decide)]
  refine i_at C (n2 := 38) (k2 := 2) (s2 := 96) (pc2 := 17) rfl rfl rfl rfl ?_
  refine i_putrF C (a := 35) (k1 := 1) (b := 37) oCl1 rfl (by decide) (by decide) (by decide) flX1_15 rfl rfl rfl rfl (fun _ => rfl) (fun _ => rfl) (oDec_at oX1_init 9 rfl) ?_
  refine i_aload_n C (j := 0) (oDec_at oX1_init 10 rfl) rfl rfl ?_
  refine i_bipush C (x := 48) (oDec_at oX1_init 11 rfl) rfl ?_
  refine i_at C (n2 := 38) (k2 := 2) (s2 := 96) (pc2 := 23) rfl rfl rfl rfl ?_
  refine i_newa C (at' := .int) (t := 0) (N := 48) ac_int rfl rfl ra_int rfl (by decide) rfl rfl (Or.inl ⟨by decide, rfl⟩) (by decide) rfl (by decide) (by decide) (by decide) (oDec_at oX1_init 12 rfl) (fun ad3 h3 => ?_)
  rw [← h3 35 (by decide)]
  refine i_at C (n2 := 39) (k2 := 3) (s2 := 144) (pc2 := 25) rfl rfl rfl rfl ?_
  refine i_putrF C (a := 35) (k1 := 2) (b := 38) oCl1 rfl (by decide) (by decide) (by decide) flX1_18 rfl rfl rfl rfl (fun _ => rfl) (fun _ => rfl) (oDec_at oX1_init 13 rfl) ?_
  refine i_aload_n C (j := 0) (oDec_at oX1_init 14 rfl) rfl rfl ?_
  refine i_bipush C (x := 48) (oDec_at oX1_init 15 rfl) rfl ?_
  refine i_at C (n2 := 39) (k2 := 3) (s2 := 144) (pc2 := 31) rfl rfl rfl rfl ?_
  refine i_newa C (at' := .int) (t := 0) (N := 48) ac_int rfl rfl ra_int rfl (by decide) rfl rfl (Or.inl ⟨by decide, rfl⟩) (by decide) rfl (by decide) (by decide) (by decide) (oDec_at oX1_init 16 rfl) (fun ad4 h4 => ?_)
  rw [← h4 35 (by decide)]
  refine i_at C (n2 := 40) (k2 := 4) (s2 := 192) (pc2 := 33) rfl rfl rfl rfl ?_
  refine i_putrF C (a := 35) (k1 := 3) (b := 39) oCl1 rfl (by decide) (by decide) (by decide) flX1_21 rfl rfl rfl rfl (fun _ => rfl) (fun _ => rfl) (oDec_at oX1_init 17 rfl) ?_
  refine i_aload_n C (j := 0) (oDec_at oX1_init 18 rfl) rfl rfl ?_
  refine i_new C oCl9 rfl ckX1_24 isX9 inX9 df9 (by decide) (by decide) (oDec_at oX1_init 19 rfl) (fun ad5 h5 => ?_)
  rw [← h5 35 (by decide)]
  refine i_at C (n2 := 41) (k2 := 5) (s2 := 197) (pc2 := 40) rfl rfl rfl rfl ?_
  refine i_dup C (oDec_at oX1_init 20 rfl) ?_
  refine i_callN C mkX9_init rfl mlX1_26 (ci_X9_init_40 l) rfl (by decide) (by decide) rfl rfl (Nat.le_of_ble_eq_true rfl) (by decide) (by decide) (oDec_at oX1_init 21 rfl) (fun ad6 h6 => ?_)
  rw [← h6 35 (by decide)]
  rw [← h6 40 (by decide)]
  refine i_at C (n2 := 41) (k2 := 5) (s2 := 197) (pc2 := 44) rfl rfl rfl rfl ?_
  refine i_putrF C (a := 35) (k1 := 4) (b := 40) oCl1 rfl (by decide) (by decide) (by decide) flX1_27 rfl rfl rfl rfl (fun _ => rfl) (fun _ => rfl) (oDec_at oX1_init 22 rfl) ?_
  refine i_aload_n C (j := 0) (oDec_at oX1_init 23 rfl) rfl rfl ?_
  refine i_at C (n2 := 41) (k2 := 5) (s2 := 197) (pc2 := 48) rfl rfl rfl rfl ?_
  refine i_new C oCl9 rfl ckX1_24 isX9 inX9 df9 (by decide) (by decide) (oDec_at oX1_init 24 rfl) (fun ad7 h7 => ?_)
  rw [← h7 35 (by decide)]
  refine i_at C (n2 := 42) (k2 := 6) (s2 := 202) (pc2 := 51) rfl rfl rfl rfl ?_
  refine i_dup C (oDec_at oX1_init 25 rfl) ?_
  refine i_callN C mkX9_init rfl mlX1_26 (ci_X9_init_41 l) rfl (by decide) (by decide) rfl rfl (Nat.le_of_ble_eq_true rfl) (by decide) (by decide) (oDec_at oX1_init 26 rfl) (fun ad8 h8 => ?_)
  rw [← h8 35 (by decide)]
  rw [← h8 41 (by decide)]
  refine i_at C (n2 := 42) (k2 := 6) (s2 := 202) (pc2 := 55) rfl rfl rfl rfl ?_
  refine i_putrF C (a := 35) (k1 := 5) (b := 41) oCl1 rfl (by decide) (by decide) (by decide) flX1_31 rfl rfl rfl rfl (fun _ => rfl) (fun _ => rfl) (oDec_at oX1_init 27 rfl) ?_
  refine i_at C (n2 := 42) (k2 := 6) (s2 := 202) (pc2 := 58) rfl rfl rfl rfl ?_
  exact i_ret C (oDec_at oX1_init 28 rfl)
def t_X9_init_42 (σ : oS) : oS := σ
set_option maxHeartbeats 4000000 in
set_option maxRecDepth 100000 in
theorem ci_X9_init_42 (l : Launch) : oMi l 1 yX9_init cX9_init 1 0 0 43 43 (fun E => [.ref (oad E 42)]) t_X9_init_42 := by
  refine oMi.of (lv := fun E => [(0, .ref (oad E 42))]) (by decide +kernel) (fun _ => Nat.le_of_ble_eq_true rfl) (fun _ => rfl) (fun E σ J C => ?_)
  have C : oCi l 1 0 0 cX9_init RX9 "<init>" 1 E 43 43 (t_X9_init_42 σ) J := C
  refine i_aload_n C (j := 0) (oDec_at oX9_init 0 rfl) rfl rfl ?_
  refine i_obj C obX9 obI obC (Nat.le_of_ble_eq_true rfl) (by decide) (oDec_at oX9_init 1 rfl) ?_
  refine i_at C (n2 := 43) (k2 := 0) (s2 := 0) (pc2 := 4) rfl rfl rfl rfl ?_
  exact i_ret C (oDec_at oX9_init 2 rfl)
def t_X9_init_51 (σ : oS) : oS := σ
set_option maxHeartbeats 4000000 in
set_option maxRecDepth 100000 in
theorem ci_X9_init_51 (l : Launch) : oMi l 1 yX9_init cX9_init 1 0 0 52 52 (fun E => [.ref (oad E 51)]) t_X9_init_51 := by
  refine oMi.of (lv := fun E => [(0, .ref (oad E 51))]) (by decide +kernel) (fun _ => Nat.le_of_ble_eq_true rfl) (fun _ => rfl) (fun E σ J C => ?_)
  have C : oCi l 1 0 0 cX9_init RX9 "<init>" 1 E 52 52 (t_X9_init_51 σ) J := C
  refine i_aload_n C (j := 0) (oDec_at oX9_init 0 rfl) rfl rfl ?_
  refine i_obj C obX9 obI obC (Nat.le_of_ble_eq_true rfl) (by decide) (oDec_at oX9_init 1 rfl) ?_
  refine i_at C (n2 := 52) (k2 := 0) (s2 := 0) (pc2 := 4) rfl rfl rfl rfl ?_
  exact i_ret C (oDec_at oX9_init 2 rfl)
def t_X10_init_43 (σ : oS) : oS := (pR (t_X9_init_51 (pR (pR (pR (pR (pR (pR (pR (pI (pI σ 43 0 8) 43 1 4) 43 5 45) 43 6 46) 43 7 47) 43 8 48) 43 9 49) 43 10 50) 43 11 51)) 43 12 52)
set_option maxHeartbeats 4000000 in
set_option maxRecDepth 100000 in
theorem ci_X10_init_43 (l : Launch) : oMi l 2 yX10_init cX10_init 1 8 9278 44 52 (fun E => [.ref (oad E 43)]) t_X10_init_43 := by
  refine oMi.of (lv := fun E => [(0, .ref (oad E 43))]) (by decide +kernel) (fun _ => Nat.le_of_ble_eq_true rfl) (fun _ => rfl) (fun E σ J C => ?_)
  have C : oCi l 2 8 9278 cX10_init RX10 "<init>" 1 E 44 52 (t_X10_init_43 σ) J := C
  refine i_aload_n C (j := 0) (oDec_at oX10_init 0 rfl) rfl rfl ?_
  refine i_obj C obX10 obI obC (Nat.le_of_ble_eq_true rfl) (by decide) (oDec_at oX10_init 1 rfl) ?_
  refine i_at C (n2 := 44) (k2 := 0) (s2 := 0) (pc2 := 4) rfl rfl rfl rfl ?_
  refine i_aload_n C (j := 0) (oDec_at oX10_init 2 rfl) rfl rfl ?_
  refine i_bipush C (x := 8) (oDec_at oX10_init 3 rfl) rfl ?_
  refine i_at C (n2 := 44) (k2 := 0) (s2 := 0) (pc2 := 7) rfl rfl rfl rfl ?_
  refine i_puti C (a := 43) (k1 := 0) oCl10 rfl (by decide) (by decide) flX10_9 rfl rfl rfl rfl rfl (oDec_at oX10_init 4 rfl) ?_
  refine i_aload_n C (j := 0) (oDec_at oX10_init 5 rfl) rfl rfl ?_
  refine i_iconst C (x := 4) (oDec_at oX10_init 6 rfl) rfl ?_
  refine i_puti C (a := 43) (k1 := 1) oCl10 rfl (by decide) (by decide) flX10_15 rfl rfl rfl rfl rfl (oDec_at oX10_init 7 rfl) ?_
  refine i_at C (n2 := 44) (k2 := 0) (s2 := 0) (pc2 := 15) rfl rfl rfl rfl ?_
  refine i_aload_n C (j := 0) (oDec_at oX10_init 8 rfl) rfl rfl ?_
  refine i_sipush C (x := 4500) (oDec_at oX10_init 9 rfl) rfl ?_
  refine i_newa C (at' := .int) (t := 0) (N := 4500) ac_int rfl rfl ra_int rfl (by decide) rfl rfl (Or.inl ⟨by decide, rfl⟩) (by decide) rfl (by decide) (by decide) (by decide) (oDec_at oX10_init 10 rfl) (fun ad1 h1 => ?_)
  rw [← h1 43 (by decide)]
  refine i_at C (n2 := 45) (k2 := 1) (s2 := 4500) (pc2 := 21) rfl rfl rfl rfl ?_
  refine i_putrF C (a := 43) (k1 := 5) (b := 44) oCl10 rfl (by decide) (by decide) (by decide) flX10_18 rfl rfl rfl rfl (fun _ => rfl) (fun _ => rfl) (oDec_at oX10_init 11 rfl) ?_
  refine i_at C (n2 := 45) (k2 := 1) (s2 := 4500) (pc2 := 24) rfl rfl rfl rfl ?_
  refine i_aload_n C (j := 0) (oDec_at oX10_init 12 rfl) rfl rfl ?_
  refine i_sipush C (x := 4500) (oDec_at oX10_init 13 rfl) rfl ?_
  refine i_newa C (at' := .int) (t := 0) (N := 4500) ac_int rfl rfl ra_int rfl (by decide) rfl rfl (Or.inl ⟨by decide, rfl⟩) (by decide) rfl (by decide) (by decide) (by decide) (oDec_at oX10_init 14 rfl) (fun ad2 h2 => ?_)
  rw [← h2 43 (by decide)]
  refine i_at C (n2 := 46) (k2 := 2) (s2 := 9000) (pc2 := 30) rfl rfl rfl rfl ?_
  refine i_putrF C (a := 43) (k1 := 6) (b := 45) oCl10 rfl (by decide) (by decide) (by decide) flX10_22 rfl rfl rfl rfl (fun _ => rfl) (fun _ => rfl) (oDec_at oX10_init 15 rfl) ?_
  refine i_at C (n2 := 46) (k2 := 2) (s2 := 9000) (pc2 := 33) rfl rfl rfl rfl ?_
  refine i_aload_n C (j := 0) (oDec_at oX10_init 16 rfl) rfl rfl ?_
  refine i_bipush C (x := 12) (oDec_at oX10_init 17 rfl) rfl ?_
  refine i_newa C (at' := .int) (t := 0) (N := 12) ac_int rfl rfl ra_int rfl (by decide) rfl rfl (Or.inl ⟨by decide, rfl⟩) (by decide) rfl (by decide) (by decide) (by decide) (oDec_at oX10_init 18 rfl) (fun ad3 h3 => ?_)
  rw [← h3 43 (by decide)]
  refine i_at C (n2 := 47) (k2 := 3) (s2 := 9012) (pc2 := 38) rfl rfl rfl rfl ?_
  refine i_putrF C (a := 43) (k1 := 7) (b := 46) oCl10 rfl (by decide) (by decide) (by decide) flX10_25 rfl rfl rfl rfl (fun _ => rfl) (fun _ => rfl) (oDec_at oX10_init 19 rfl) ?_
  refine i_at C (n2 := 47) (k2 := 3) (s2 := 9012) (pc2 := 41) rfl rfl rfl rfl ?_
  refine i_aload_n C (j := 0) (oDec_at oX10_init 20 rfl) rfl rfl ?_
  refine i_bipush C (x := 12) (oDec_at oX10_init 21 rfl) rfl ?_
  refine i_newa C (at' := .int) (t := 0) (N := 12) ac_int rfl rfl ra_int rfl (by decide) rfl rfl (Or.inl ⟨by decide, rfl⟩) (by decide) rfl (by decide) (by decide) (by decide) (oDec_at oX10_init 22 rfl) (fun ad4 h4 => ?_)
  rw [← h4 43 (by decide)]
  refine i_at C (n2 := 48) (k2 := 4) (s2 := 9024) (pc2 := 46) rfl rfl rfl rfl ?_
  refine i_putrF C (a := 43) (k1 := 8) (b := 47) oCl10 rfl (by decide) (by decide) (by decide) flX10_28 rfl rfl rfl rfl (fun _ => rfl) (fun _ => rfl) (oDec_at oX10_init 23 rfl) ?_
  refine i_at C (n2 := 48) (k2 := 4) (s2 := 9024) (pc2 := 49) rfl rfl rfl rfl ?_
  refine i_aload_n C (j := 0) (oDec_at oX10_init 24 rfl) rfl rfl ?_
  refine i_sipush C (x := 180) (oDec_at oX10_init 25 rfl) rfl ?_
  refine i_newa C (at' := .int) (t := 0) (N := 180) ac_int rfl rfl ra_int rfl (by decide) rfl rfl (Or.inl ⟨by decide, rfl⟩) (by decide) rfl (by decide) (by decide) (by decide) (oDec_at oX10_init 26 rfl) (fun ad5 h5 => ?_)
  rw [← h5 43 (by decide)]
  refine i_at C (n2 := 49) (k2 := 5) (s2 := 9204) (pc2 := 55) rfl rfl rfl rfl ?_
  refine i_putrF C (a := 43) (k1 := 9) (b := 48) oCl10 rfl (by decide) (by decide) (by decide) flX10_31 rfl rfl rfl rfl (fun _ => rfl) (fun _ => rfl) (oDec_at oX10_init 27 rfl) ?_
  refine i_at C (n2 := 49) (k2 := 5) (s2 := 9204) (pc2 := 58) rfl rfl rfl rfl ?_
  refine i_aload_n C (j := 0) (oDec_at oX10_init 28 rfl) rfl rfl ?_
  refine i_bipush C (x := 64) (oDec_at oX10_init 29 rfl) rfl ?_
  refine i_newa C (at' := .int) (t := 0) (N := 64) ac_int rfl rfl ra_int rfl (by decide) rfl rfl (Or.inl ⟨by decide, rfl⟩) (by decide) rfl (by decide) (by decide) (by decide) (oDec_at oX10_init 30 rfl) (fun ad6 h6 => ?_)
  rw [← h6 43 (by decide)]
  refine i_at C (n2 := 50) (k2 := 6) (s2 := 9268) (pc2 := 63) rfl rfl rfl rfl ?_
  refine i_putrF C (a := 43) (k1 := 10) (b := 49) oCl10 rfl (by decide) (by decide) (by decide) flX10_34 rfl rfl rfl rfl (fun _ => rfl) (fun _ => rfl) (oDec_at oX10_init 31 rfl) ?_
  refine i_at C (n2 := 50) (k2 := 6) (s2 := 9268) (pc2 := 66) rfl rfl rfl rfl ?_
  refine i_aload_n C (j := 0) (oDec_at oX10_init 32 rfl) rfl rfl ?_
  refine i_iconst C (x := 5) (oDec_at oX10_init 33 rfl) rfl ?_
  refine i_newa C (at' := .int) (t := 0) (N := 5) ac_int rfl rfl ra_int rfl (by decide) rfl rfl (Or.inl ⟨by decide, rfl⟩) (by decide) rfl (by decide) (by decide) (by decide) (oDec_at oX10_init 34 rfl) (fun ad7 h7 => ?_)
  rw [← h7 43 (by decide)]
  refine i_at C (n2 := 51) (k2 := 7) (s2 := 9273) (pc2 := 70) rfl rfl rfl rfl ?_
  refine i_putrF C (a := 43) (k1 := 11) (b := 50) oCl10 rfl (by decide) (by decide) (by decide) flX10_37 rfl rfl rfl rfl (fun _ => rfl) (fun _ => rfl) (oDec_at oX10_init 35 rfl) ?_
  refine i_at C (n2 := 51) (k2 := 7) (s2 := 9273) (pc2 := 73) rfl rfl rfl rfl ?_
  refine i_aload_n C (j := 0) (oDec_at oX10_init 36 rfl) rfl rfl ?_
  refine i_new C oCl9 rfl ckX10_40 isX9 inX9 df9 (by decide) (by decide) (oDec_at oX10_init 37 rfl) (fun ad8 h8 => ?_)
  rw [← h8 43 (by decide)]
  refine i_at C (n2 := 52) (k2 := 8) (s2 := 9278) (pc2 := 77) rfl rfl rfl rfl ?_
  refine i_dup C (oDec_at oX10_init 38 rfl) ?_
  refine i_callN C mkX9_init rfl mlX10_42 (ci_X9_init_51 l) rfl (by decide) (by decide) rfl rfl (Nat.le_of_ble_eq_true rfl) (by decide) (by decide) (oDec_at oX10_init 39 rfl) (fun ad9 h9 => ?_)
  rw [← h9 43 (by decide)]
  rw [← h9 51 (by decide)]
  refine i_at C (n2 := 52) (k2 := 8) (s2 := 9278) (pc2 := 81) rfl rfl rfl rfl ?_
  refine i_putrF C (a := 43) (k1 := 12) (b := 51) oCl10 rfl (by decide) (by decide) (by decide) flX10_43 rfl rfl rfl rfl (fun _ => rfl) (fun _ => rfl) (oDec_at oX10_init 40 rfl) ?_
  exact i_ret C (oDec_at oX10_init 41 rfl)
def t_X7_init_52 (σ : oS) : oS := (pR (pR (pR σ 52 1 54) 52 2 55) 52 3 56)
set_option maxHeartbeats 4000000 in
set_option maxRecDepth 100000 in
theorem ci_X7_init_52 (l : Launch) : oMi l 1 yX7_init cX7_init 1 3 10700 53 56 (fun E => [.ref (oad E 52)]) t_X7_init_52 := by
  refine oMi.of (lv := fun E => [(0, .ref (oad E 52))]) (by decide +kernel) (fun _ => Nat.le_of_ble_eq_true rfl) (fun _ => rfl) (fun E σ J C => ?_)
  have C : oCi l 1 3 10700 cX7_init RX7 "<init>" 1 E 53 56 (t_X7_init_52 σ) J := C
  refine i_aload_n C (j := 0) (oDec_at oX7_init 0 rfl) rfl rfl ?_
  refine i_obj C obX7 obI obC (Nat.le_of_ble_eq_true rfl) (by decide) (oDec_at oX7_init 1 rfl) ?_
  refine i_at C (n2 := 53) (k2 := 0) (s2 := 0) (pc2 := 4) rfl rfl rfl rfl ?_
  refine i_aload_n C (j := 0) (oDec_at oX7_init 2 rfl) rfl rfl ?_
  refine i_bipush C (x := 40) (oDec_at oX7_init 3 rfl) rfl ?_
  refine i_at C (n2 := 53) (k2 := 0) (s2 := 0) (pc2 := 7) rfl rfl rfl rfl ?_
  refine i_newa C (at' := .long) (t := 3) (N := 40) ac_long rfl rfl ra_long rfl (by decide) rfl rfl (Or.inr ⟨rfl, rfl⟩) (by decide) rfl (by decide) (by decide) (by decide) (oDec_at oX7_init 4 rfl) (fun ad1 h1 => ?_)
  rw [← h1 52 (by decide)]
  refine i_at C (n2 := 54) (k2 := 1) (s2 := 40) (pc2 := 9) rfl rfl rfl rfl ?_
  refine i_putrF C (a := 52) (k1 := 1) (b := 53) oCl7 rfl (by decide) (by decide) (by decide) flX7_11 rfl rfl rfl rfl (fun _ => rfl) (fun _ => rfl) (oDec_at oX7_init 5 rfl) ?_
  refine i_aload_n C (j := 0) (oDec_at oX7_init 6 rfl) rfl rfl ?_
  refine i_sipush C (x := 780) (oDec_at oX7_init 7 rfl) rfl ?_
  refine i_at C (n2 := 54) (k2 := 1) (s2 := 40) (pc2 := 16) rfl rfl rfl rfl ?_
  refine i_newa C (at' := .int) (t := 0) (N := 780) ac_int rfl rfl ra_int rfl (by decide) rfl rfl (Or.inl ⟨by decide, rfl⟩) (by decide) rfl (by decide) (by decide) (by decide) (oDec_at oX7_init 8 rfl) (fun ad2 h2 => ?_)
  rw [← h2 52 (by decide)]
  refine i_at C (n2 := 55) (k2 := 2) (s2 := 820) (pc2 := 18) rfl rfl rfl rfl ?_
  refine i_putrF C (a := 52) (k1 := 2) (b := 54) oCl7 rfl (by decide) (by decide) (by decide) flX7_15 rfl rfl rfl rfl (fun _ => rfl) (fun _ => rfl) (oDec_at oX7_init 9 rfl) ?_
  refine i_aload_n C (j := 0) (oDec_at oX7_init 10 rfl) rfl rfl ?_
  refine i_sipush C (x := 9880) (oDec_at oX7_init 11 rfl) rfl ?_
  refine i_at C (n2 := 55) (k2 := 2) (s2 := 820) (pc2 := 25) rfl rfl rfl rfl ?_
  refine i_newa C (at' := .int) (t := 0) (N := 9880) ac_int rfl rfl ra_int rfl (by decide) rfl rfl (Or.inl ⟨by decide, rfl⟩) (by decide) rfl (by decide) (by decide) (by decide) (oDec_at oX7_init 12 rfl) (fun ad3 h3 => ?_)
  rw [← h3 52 (by decide)]
  refine i_at C (n2 := 56) (k2 := 3) (s2 := 10700) (pc2 := 27) rfl rfl rfl rfl ?_
  refine i_putrF C (a := 52) (k1 := 3) (b := 55) oCl7 rfl (by decide) (by decide) (by decide) flX7_19 rfl rfl rfl rfl (fun _ => rfl) (fun _ => rfl) (oDec_at oX7_init 13 rfl) ?_
  exact i_ret C (oDec_at oX7_init 14 rfl)
def t_X9_init_64 (σ : oS) : oS := σ
set_option maxHeartbeats 4000000 in
set_option maxRecDepth 100000 in
theorem ci_X9_init_64 (l : Launch) : oMi l 1 yX9_init cX9_init 1 0 0 65 65 (fun E => [.ref (oad E 64)]) t_X9_init_64 := by
  refine oMi.of (lv := fun E => [(0, .ref (oad E 64))]) (by decide +kernel) (fun _ => Nat.le_of_ble_eq_true rfl) (fun _ => rfl) (fun E σ J C => ?_)
  have C : oCi l 1 0 0 cX9_init RX9 "<init>" 1 E 65 65 (t_X9_init_64 σ) J := C
  refine i_aload_n C (j := 0) (oDec_at oX9_init 0 rfl) rfl rfl ?_
  refine i_obj C obX9 obI obC (Nat.le_of_ble_eq_true rfl) (by decide) (oDec_at oX9_init 1 rfl) ?_
  refine i_at C (n2 := 65) (k2 := 0) (s2 := 0) (pc2 := 4) rfl rfl rfl rfl ?_
  exact i_ret C (oDec_at oX9_init 2 rfl)
def t_X6_init_61 (σ : oS) : oS := (pR (t_X9_init_64 (pR (pR σ 61 0 63) 61 1 64)) 61 3 65)
set_option maxHeartbeats 4000000 in
set_option maxRecDepth 100000 in
theorem ci_X6_init_61 (l : Launch) : oMi l 2 yX6_init cX6_init 1 3 55 62 65 (fun E => [.ref (oad E 61)]) t_X6_init_61 := by
  refine oMi.of (lv := fun E => [(0, .ref (oad E 61))]) (by decide +kernel) (fun _ => Nat.le_of_ble_eq_true rfl) (fun _ => rfl) (fun E σ J C => ?_)
  have C : oCi l 2 3 55 cX6_init RX6 "<init>" 1 E 62 65 (t_X6_init_61 σ) J := C
  refine i_aload_n C (j := 0) (oDec_at oX6_init 0 rfl) rfl rfl ?_
  refine i_obj C obX6 obI obC (Nat.le_of_ble_eq_true rfl) (by decide) (oDec_at oX6_init 1 rfl) ?_
  refine i_at C (n2 := 62) (k2 := 0) (s2 := 0) (pc2 := 4) rfl rfl rfl rfl ?_
  refine i_aload_n C (j := 0) (oDec_at oX6_init 2 rfl) rfl rfl ?_
  refine i_bipush C (x := 25) (oDec_at oX6_init 3 rfl) rfl ?_
  refine i_at C (n2 := 62) (k2 := 0) (s2 := 0) (pc2 := 7) rfl rfl rfl rfl ?_
  refine i_newa C (at' := .int) (t := 0) (N := 25) ac_int rfl rfl ra_int rfl (by decide) rfl rfl (Or.inl ⟨by decide, rfl⟩) (by decide) rfl (by decide) (by decide) (by decide) (oDec_at oX6_init 4 rfl) (fun ad1 h1 => ?_)
  rw [← h1 61 (by decide)]
  refine i_at C (n2 := 63) (k2 := 1) (s2 := 25) (pc2 := 9) rfl rfl rfl rfl ?_
  refine i_putrF C (a := 61) (k1 := 0) (b := 62) oCl6 rfl (by decide) (by decide) (by decide) flX6_9 rfl rfl rfl rfl (fun _ => rfl) (fun _ => rfl) (oDec_at oX6_init 5 rfl) ?_
  refine i_aload_n C (j := 0) (oDec_at oX6_init 6 rfl) rfl rfl ?_
  refine i_bipush C (x := 25) (oDec_at oX6_init 7 rfl) rfl ?_
  refine i_at C (n2 := 63) (k2 := 1) (s2 := 25) (pc2 := 15) rfl rfl rfl rfl ?_
  refine i_newa C (at' := .int) (t := 0) (N := 25) ac_int rfl rfl ra_int rfl (by decide) rfl rfl (Or.inl ⟨by decide, rfl⟩) (by decide) rfl (by decide) (by decide) (by decide) (oDec_at oX6_init 8 rfl) (fun ad2 h2 => ?_)
  rw [← h2 61 (by decide)]
  refine i_at C (n2 := 64) (k2 := 2) (s2 := 50) (pc2 := 17) rfl rfl rfl rfl ?_
  refine i_putrF C (a := 61) (k1 := 1) (b := 63) oCl6 rfl (by decide) (by decide) (by decide) flX6_15 rfl rfl rfl rfl (fun _ => rfl) (fun _ => rfl) (oDec_at oX6_init 9 rfl) ?_
  refine i_aload_n C (j := 0) (oDec_at oX6_init 10 rfl) rfl rfl ?_
  refine i_new C oCl9 rfl ckX6_18 isX9 inX9 df9 (by decide) (by decide) (oDec_at oX6_init 11 rfl) (fun ad3 h3 => ?_)
  rw [← h3 61 (by decide)]
  refine i_at C (n2 := 65) (k2 := 3) (s2 := 55) (pc2 := 24) rfl rfl rfl rfl ?_
  refine i_dup C (oDec_at oX6_init 12 rfl) ?_
  refine i_callN C mkX9_init rfl mlX6_20 (ci_X9_init_64 l) rfl (by decide) (by decide) rfl rfl (Nat.le_of_ble_eq_true rfl) (by decide) (by decide) (oDec_at oX6_init 13 rfl) (fun ad4 h4 => ?_)
  rw [← h4 61 (by decide)]
  rw [← h4 64 (by decide)]
  refine i_at C (n2 := 65) (k2 := 3) (s2 := 55) (pc2 := 28) rfl rfl rfl rfl ?_
  refine i_putrF C (a := 61) (k1 := 3) (b := 64) oCl6 rfl (by decide) (by decide) (by decide) flX6_21 rfl rfl rfl rfl (fun _ => rfl) (fun _ => rfl) (oDec_at oX6_init 14 rfl) ?_
  exact i_ret C (oDec_at oX6_init 15 rfl)
def t_X9_init_68 (σ : oS) : oS := σ
set_option maxHeartbeats 4000000 in
set_option maxRecDepth 100000 in
theorem ci_X9_init_68 (l : Launch) : oMi l 1 yX9_init cX9_init 1 0 0 69 69 (fun E => [.ref (oad E 68)]) t_X9_init_68 := by
  refine oMi.of (lv := fun E => [(0, .ref (oad E 68))]) (by decide +kernel) (fun _ => Nat.le_of_ble_eq_true rfl) (fun _ => rfl) (fun E σ J C => ?_)
  have C : oCi l 1 0 0 cX9_init RX9 "<init>" 1 E 69 69 (t_X9_init_68 σ) J := C
  refine i_aload_n C (j := 0) (oDec_at oX9_init 0 rfl) rfl rfl ?_
  refine i_obj C obX9 obI obC (Nat.le_of_ble_eq_true rfl) (by decide) (oDec_at oX9_init 1 rfl) ?_
  refine i_at C (n2 := 69) (k2 := 0) (s2 := 0) (pc2 := 4) rfl rfl rfl rfl ?_
  exact i_ret C (oDec_at oX9_init 2 rfl)
def t_X6_init_65 (σ : oS) : oS := (pR (t_X9_init_68 (pR (pR σ 65 0 67) 65 1 68)) 65 3 69)
set_option maxHeartbeats 4000000 in
set_option maxRecDepth 100000 in
theorem ci_X6_init_65 (l : Launch) : oMi l 2 yX6_init cX6_init 1 3 55 66 69 (fun E => [.ref (oad E 65)]) t_X6_init_65 := by
  refine oMi.of (lv := fun E => [(0, .ref (oad E 65))]) (by decide +kernel) (fun _ => Nat.le_of_ble_eq_true rfl) (fun _ => rfl) (fun E σ J C => ?_)
  have C : oCi l 2 3 55 cX6_init RX6 "<init>" 1 E 66 69 (t_X6_init_65 σ) J := C
  refine i_aload_n C (j := 0) (oDec_at oX6_init 0 rfl) rfl rfl ?_
  refine i_obj C obX6 obI obC (Nat.le_of_ble_eq_true rfl) (by decide) (oDec_at oX6_init 1 rfl) ?_
  refine i_at C (n2 := 66) (k2 := 0) (s2 := 0) (pc2 := 4) rfl rfl rfl rfl ?_
  refine i_aload_n C (j := 0) (oDec_at oX6_init 2 rfl) rfl rfl ?_
  refine i_bipush C (x := 25) (oDec_at oX6_init 3 rfl) rfl ?_
  refine i_at C (n2 := 66) (k2 := 0) (s2 := 0) (pc2 := 7) rfl rfl rfl rfl ?_
  refine i_newa C (at' := .int) (t := 0) (N := 25) ac_int rfl rfl ra_int rfl (by decide) rfl rfl (Or.inl ⟨by decide, rfl⟩) (by decide) rfl (by decide) (by decide) (by decide) (oDec_at oX6_init 4 rfl) (fun ad1 h1 => ?_)
  rw [← h1 65 (by decide)]
  refine i_at C (n2 := 67) (k2 := 1) (s2 := 25) (pc2 := 9) rfl rfl rfl rfl ?_
  refine i_putrF C (a := 65) (k1 := 0) (b := 66) oCl6 rfl (by decide) (by decide) (by decide) flX6_9 rfl rfl rfl rfl (fun _ => rfl) (fun _ => rfl) (oDec_at oX6_init 5 rfl) ?_
  refine i_aload_n C (j := 0) (oDec_at oX6_init 6 rfl) rfl rfl ?_
  refine i_bipush C (x := 25) (oDec_at oX6_init 7 rfl) rfl ?_
  refine i_at C (n2 := 67) (k2 := 1) (s2 := 25) (pc2 := 15) rfl rfl rfl rfl ?_
  refine i_newa C (at' := .int) (t := 0) (N := 25) ac_int rfl rfl ra_int rfl (by decide) rfl rfl (Or.inl ⟨by decide, rfl⟩) (by decide) rfl (by decide) (by decide) (by decide) (oDec_at oX6_init 8 rfl) (fun ad2 h2 => ?_)
  rw [← h2 65 (by decide)]
  refine i_at C (n2 := 68) (k2 := 2) (s2 := 50) (pc2 := 17) rfl rfl rfl rfl ?_
  refine i_putrF C (a := 65) (k1 := 1) (b := 67) oCl6 rfl (by decide) (by decide) (by decide) flX6_15 rfl rfl rfl rfl (fun _ => rfl) (fun _ => rfl) (oDec_at oX6_init 9 rfl) ?_
  refine i_aload_n C (j := 0) (oDec_at oX6_init 10 rfl) rfl rfl ?_
  refine i_new C oCl9 rfl ckX6_18 isX9 inX9 df9 (by decide) (by decide) (oDec_at oX6_init 11 rfl) (fun ad3 h3 => ?_)
  rw [← h3 65 (by decide)]
  refine i_at C (n2 := 69) (k2 := 3) (s2 := 55) (pc2 := 24) rfl rfl rfl rfl ?_
  refine i_dup C (oDec_at oX6_init 12 rfl) ?_
  refine i_callN C mkX9_init rfl mlX6_20 (ci_X9_init_68 l) rfl (by decide) (by decide) rfl rfl (Nat.le_of_ble_eq_true rfl) (by decide) (by decide) (oDec_at oX6_init 13 rfl) (fun ad4 h4 => ?_)
  rw [← h4 65 (by decide)]
  rw [← h4 68 (by decide)]
  refine i_at C (n2 := 69) (k2 := 3) (s2 := 55) (pc2 := 28) rfl rfl rfl rfl ?_
  refine i_putrF C (a := 65) (k1 := 3) (b := 68) oCl6 rfl (by decide) (by decide) (by decide) flX6_21 rfl rfl rfl rfl (fun _ => rfl) (fun _ => rfl) (oDec_at oX6_init 14 rfl) ?_
  exact i_ret C (oDec_at oX6_init 15 rfl)
def t_X3_init_56 (σ : oS) : oS := (pR (t_X6_init_65 (pR (t_X6_init_61 (pR (pR (pR (pR σ 56 3 58) 56 4 59) 56 5 60) 56 6 61)) 56 7 62)) 56 8 66)
set_option maxHeartbeats 4000000 in
set_option maxRecDepth 100000 in
theorem ci_X3_init_56 (l : Launch) : oMi l 3 yX3_init cX3_init 1 12 14642 57 69 (fun E => [.ref (oad E 56)]) t_X3_init_56 := by
  refine oMi.of (lv := fun E => [(0, .ref (oad E 56))]) (by decide +kernel) (fun _ => Nat.le_of_ble_eq_true rfl) (fun _ => rfl) (fun E σ J C => ?_)
  have C : oCi l 3 12 14642 cX3_init RX3 "<init>" 1 E 57 69 (t_X3_init_56 σ) J := C
  refine i_aload_n C (j := 0) (oDec_at oX3_init 0 rfl) rfl rfl ?_
  refine i_obj C obX3 obI obC (Nat.le_of_ble_eq_true rfl) (by decide) (oDec_at oX3_init 1 rfl) ?_
  refine i_at C (n2 := 57) (k2 := 0) (s2 := 0) (pc2 := 4) rfl rfl rfl rfl ?_
  refine i_aload_n C (j := 0) (oDec_at oX3_init 2 rfl) rfl rfl ?_
  refine i_sipush C (x := 4500) (oDec_at oX3_init 3 rfl) rfl ?_
  refine i_at C (n2 := 57) (k2 := 0) (s2 := 0) (pc2 := 8) rfl rfl rfl rfl ?_
  refine i_newa C (at' := .int) (t := 0) (N := 4500) ac_int rfl rfl ra_int rfl (by decide) rfl rfl (Or.inl ⟨by decide, rfl⟩) (by decide) rfl (by decide) (by decide) (by decide) (oDec_at oX3_init 4 rfl) (fun ad1 h1 => ?_)
  rw [← h1 56 (by decide)]
  refine i_at C (n2 := 58) (k2 := 1) (s2 := 4500) (pc2 := 10) rfl rfl rfl rfl ?_
  refine i_putrF C (a := 56) (k1 := 3) (b := 57) oCl3 rfl (by decide) (by decide) (by decide) flX3_9 rfl rfl rfl rfl (fun _ => rfl) (fun _ => rfl) (oDec_at oX3_init 5 rfl) ?_
  refine i_aload_n C (j := 0) (oDec_at oX3_init 6 rfl) rfl rfl ?_
  refine i_sipush C (x := 4500) (oDec_at oX3_init 7 rfl) rfl ?_
  refine i_at C (n2 := 58) (k2 := 1) (s2 := 4500) (pc2 := 17) rfl rfl rfl rfl ?_
  refine i_newa C (at' := .int) (t := 0) (N := 4500) ac_int rfl rfl ra_int rfl (by decide) rfl rfl (Or.inl ⟨by decide, rfl⟩) (by decide) rfl (by decide) (by decide) (by decide) (oDec_at oX3_init 8 rfl) (fun ad2 h2 => ?_)
  rw [← h2 56 (by decide)]
  refine i_at C (n2 := 59) (k2 := 2) (s2 := 9000) (pc2 := 19) rfl rfl rfl rfl ?_
  refine i_putrF C (a := 56) (k1 := 4) (b := 58) oCl3 rfl (by decide) (by decide) (by decide) flX3_15 rfl rfl rfl rfl (fun _ => rfl) (fun _ => rfl) (oDec_at oX3_init 9 rfl) ?_
  refine i_aload_n C (j := 0) (oDec_at oX3_init 10 rfl) rfl rfl ?_
  refine i_sipush C (x := 1024) (oDec_at oX3_init 11 rfl) rfl ?_
  refine i_at C (n2 := 59) (k2 := 2) (s2 := 9000) (pc2 := 26) rfl rfl rfl rfl ?_
  refine i_newa C (at' := .int) (t := 0) (N := 1024) ac_int rfl rfl ra_int rfl (by decide) rfl rfl (Or.inl ⟨by decide, rfl⟩) (by decide) rfl (by decide) (by decide) (by decide) (oDec_at oX3_init 12 rfl) (fun ad3 h3 => ?_)
  rw [← h3 56 (by decide)]
  refine i_at C (n2 := 60) (k2 := 3) (s2 := 10024) (pc2 := 28) rfl rfl rfl rfl ?_
  refine i_putrF C (a := 56) (k1 := 5) (b := 59) oCl3 rfl (by decide) (by decide) (by decide) flX3_18 rfl rfl rfl rfl (fun _ => rfl) (fun _ => rfl) (oDec_at oX3_init 13 rfl) ?_
  refine i_aload_n C (j := 0) (oDec_at oX3_init 14 rfl) rfl rfl ?_
  refine i_sipush C (x := 4500) (oDec_at oX3_init 15 rfl) rfl ?_
  refine i_at C (n2 := 60) (k2 := 3) (s2 := 10024) (pc2 := 35) rfl rfl rfl rfl ?_
  refine i_newa C (at' := .int) (t := 0) (N := 4500) ac_int rfl rfl ra_int rfl (by decide) rfl rfl (Or.inl ⟨by decide, rfl⟩) (by decide) rfl (by decide) (by decide) (by decide) (oDec_at oX3_init 16 rfl) (fun ad4 h4 => ?_)
  rw [← h4 56 (by decide)]
  refine i_at C (n2 := 61) (k2 := 4) (s2 := 14524) (pc2 := 37) rfl rfl rfl rfl ?_
  refine i_putrF C (a := 56) (k1 := 6) (b := 60) oCl3 rfl (by decide) (by decide) (by decide) flX3_21 rfl rfl rfl rfl (fun _ => rfl) (fun _ => rfl) (oDec_at oX3_init 17 rfl) ?_
  refine i_aload_n C (j := 0) (oDec_at oX3_init 18 rfl) rfl rfl ?_
  refine i_new C oCl6 rfl ckX3_24 isX6 inX6 df6 (by decide) (by decide) (oDec_at oX3_init 19 rfl) (fun ad5 h5 => ?_)
  rw [← h5 56 (by decide)]
  refine i_at C (n2 := 62) (k2 := 5) (s2 := 14528) (pc2 := 44) rfl rfl rfl rfl ?_
  refine i_dup C (oDec_at oX3_init 20 rfl) ?_
  refine i_callN C mkX6_init rfl mlX3_26 (ci_X6_init_61 l) rfl (by decide) (by decide) rfl rfl (Nat.le_of_ble_eq_true rfl) (by decide) (by decide) (oDec_at oX3_init 21 rfl) (fun ad6 h6 => ?_)
  rw [← h6 56 (by decide)]
  rw [← h6 61 (by decide)]
  refine i_at C (n2 := 65) (k2 := 8) (s2 := 14583) (pc2 := 48) rfl rfl rfl rfl ?_
  refine i_putrF C (a := 56) (k1 := 7) (b := 61) oCl3 rfl (by decide) (by decide) (by decide) flX3_27 rfl rfl rfl rfl (fun _ => rfl) (fun _ => rfl) (oDec_at oX3_init 22 rfl) ?_
  refine i_aload_n C (j := 0) (oDec_at oX3_init 23 rfl) rfl rfl ?_
  refine i_at C (n2 := 65) (k2 := 8) (s2 := 14583) (pc2 := 52) rfl rfl rfl rfl ?_
  refine i_new C oCl6 rfl ckX3_24 isX6 inX6 df6 (by decide) (by decide) (oDec_at oX3_init 24 rfl) (fun ad7 h7 => ?_)
  rw [← h7 56 (by decide)]
  refine i_at C (n2 := 66) (k2 := 9) (s2 := 14587) (pc2 := 55) rfl rfl rfl rfl ?_
  refine i_dup C (oDec_at oX3_init 25 rfl) ?_
  refine i_callN C mkX6_init rfl mlX3_26 (ci_X6_init_65 l) rfl (by decide) (by decide) rfl rfl (Nat.le_of_ble_eq_true rfl) (by decide) (by decide) (oDec_at oX3_init 26 rfl) (fun ad8 h8 => ?_)
  rw [← h8 56 (by decide)]
  rw [← h8 65 (by decide)]
  refine i_at C (n2 := 69) (k2 := 12) (s2 := 14642) (pc2 := 59) rfl rfl rfl rfl ?_
  refine i_putrF C (a := 56) (k1 := 8) (b := 65) oCl3 rfl (by decide) (by decide) (by decide) flX3_31 rfl rfl rfl rfl (fun _ => rfl) (fun _ => rfl) (oDec_at oX3_init 27 rfl) ?_
  refine i_at C (n2 := 69) (k2 := 12) (s2 := 14642) (pc2 := 62) rfl rfl rfl rfl ?_
  exact i_ret C (oDec_at oX3_init 28 rfl)
def t_X11_init_0 (σ : oS) : oS := (pI (pR (pR (pR (t_X3_init_56 (pR (t_X7_init_52 (pR (t_X10_init_43 (pR (t_X9_init_42 (pR (t_X1_init_35 (pR (t_X2_init_31 (pR (t_X5_init_30 (pR (t_X0_init_24 (pR (t_X0_init_18 (pR (t_X4_init_13 (pR (t_X4_init_8 (pR (t_X4_init_3 (pR (t_X8_init_1 σ) 0 0 2)) 0 1 4)) 0 2 9)) 0 3 14)) 0 4 19)) 0 5 25)) 0 6 31)) 0 7 32)) 0 8 36)) 0 9 43)) 0 10 44)) 0 11 53)) 0 12 57) 0 13 70) 0 15 71) 0 17 (-1))
set_option maxHeartbeats 4000000 in
set_option maxRecDepth 100000 in
theorem ci_X11_init_0 (l : Launch) : oMi l 4 yX11_init cX11_init 1 70 49420 1 71 (fun E => [.ref (oad E 0)]) t_X11_init_0 := by
  refine oMi.of (lv := fun E => [(0, .ref (oad E 0))]) (by decide +kernel) (fun _ => Nat.le_of_ble_eq_true rfl) (fun _ => rfl) (fun E σ J C => ?_)
  have C : oCi l 4 70 49420 cX11_init RX11 "<init>" 1 E 1 71 (t_X11_init_0 σ) J := C
  refine i_aload_n C (j := 0) (oDec_at oX11_init 0 rfl) rfl rfl ?_
  refine i_obj C obX11 obI obC (Nat.le_of_ble_eq_true rfl) (by decide) (oDec_at oX11_init 1 rfl) ?_
  refine i_at C (n2 := 1) (k2 := 0) (s2 := 0) (pc2 := 4) rfl rfl rfl rfl ?_
  refine i_aload_n C (j := 0) (oDec_at oX11_init 2 rfl) rfl rfl ?_
  refine i_new C oCl8 rfl ckX11_7 isX8 inX8 df8 (by decide) (by decide) (oDec_at oX11_init 3 rfl) (fun ad1 h1 => ?_)
  rw [← h1 0 (by decide)]
  refine i_at C (n2 := 2) (k2 := 1) (s2 := 2) (pc2 := 8) rfl rfl rfl rfl ?_
  refine i_dup C (oDec_at oX11_init 4 rfl) ?_
  refine i_callN C mkX8_init rfl mlX11_9 (ci_X8_init_1 l) rfl (by decide) (by decide) rfl rfl (Nat.le_of_ble_eq_true rfl) (by decide) (by decide) (oDec_at oX11_init 5 rfl) (fun ad2 h2 => ?_)
  rw [← h2 0 (by decide)]
  rw [← h2 1 (by decide)]
  refine i_at C (n2 := 3) (k2 := 2) (s2 := 1602) (pc2 := 12) rfl rfl rfl rfl ?_
  refine i_putrF C (a := 0) (k1 := 0) (b := 1) oCl11 rfl (by decide) (by decide) (by decide) flX11_10 rfl rfl rfl rfl (fun _ => rfl) (fun _ => rfl) (oDec_at oX11_init 6 rfl) ?_
  refine i_aload_n C (j := 0) (oDec_at oX11_init 7 rfl) rfl rfl ?_
  refine i_at C (n2 := 3) (k2 := 2) (s2 := 1602) (pc2 := 16) rfl rfl rfl rfl ?_
  refine i_new C oCl4 rfl ckX11_16 isX4 inX4 df4 (by decide) (by decide) (oDec_at oX11_init 8 rfl) (fun ad3 h3 => ?_)
  rw [← h3 0 (by decide)]
  refine i_at C (n2 := 4) (k2 := 3) (s2 := 1610) (pc2 := 19) rfl rfl rfl rfl ?_
  refine i_dup C (oDec_at oX11_init 9 rfl) ?_
  refine i_callN C mkX4_init rfl mlX11_18 (ci_X4_init_3 l) rfl (by decide) (by decide) rfl rfl (Nat.le_of_ble_eq_true rfl) (by decide) (by decide) (oDec_at oX11_init 10 rfl) (fun ad4 h4 => ?_)
  rw [← h4 0 (by decide)]
  rw [← h4 3 (by decide)]
  refine i_at C (n2 := 8) (k2 := 7) (s2 := 1778) (pc2 := 23) rfl rfl rfl rfl ?_
  refine i_putr C (a := 0) (k1 := 1) (b := 3) oCl11 rfl (by decide) (by decide) (by decide) flX11_19 rfl rfl rfl (fun _ => rfl) (fun _ => rfl) (oDec_at oX11_init 11 rfl) ?_
  refine i_at C (n2 := 8) (k2 := 7) (s2 := 1778) (pc2 := 26) rfl rfl rfl rfl ?_
  refine i_aload_n C (j := 0) (oDec_at oX11_init 12 rfl) rfl rfl ?_
  refine i_new C oCl4 rfl ckX11_16 isX4 inX4 df4 (by decide) (by decide) (oDec_at oX11_init 13 rfl) (fun ad5 h5 => ?_)
  rw [← h5 0 (by decide)]
  refine i_at C (n2 := 9) (k2 := 8) (s2 := 1786) (pc2 := 30) rfl rfl rfl rfl ?_
  refine i_dup C (oDec_at oX11_init 14 rfl) ?_
  refine i_callN C mkX4_init rfl mlX11_18 (ci_X4_init_8 l) rfl (by decide) (by decide) rfl rfl (Nat.le_of_ble_eq_true rfl) (by decide) (by decide) (oDec_at oX11_init 15 rfl) (fun ad6 h6 => ?_)
  rw [← h6 0 (by decide)]
  rw [← h6 8 (by decide)]
  refine i_at C (n2 := 13) (k2 := 12) (s2 := 1954) (pc2 := 34) rfl rfl rfl rfl ?_
  refine i_putr C (a := 0) (k1 := 2) (b := 8) oCl11 rfl (by decide) (by decide) (by decide) flX11_23 rfl rfl rfl (fun _ => rfl) (fun _ => rfl) (oDec_at oX11_init 16 rfl) ?_
  refine i_aload_n C (j := 0) (oDec_at oX11_init 17 rfl) rfl rfl ?_
  refine i_new C oCl4 rfl ckX11_16 isX4 inX4 df4 (by decide) (by decide) (oDec_at oX11_init 18 rfl) (fun ad7 h7 => ?_)
  rw [← h7 0 (by decide)]
  refine i_at C (n2 := 14) (k2 := 13) (s2 := 1962) (pc2 := 41) rfl rfl rfl rfl ?_
  refine i_dup C (oDec_at oX11_init 19 rfl) ?_
  refine i_at C (n2 := 14) (k2 := 13) (s2 := 1962) (pc2 := 42) rfl rfl rfl rfl ?_
  refine i_callN C mkX4_init rfl mlX11_18 (ci_X4_init_13 l) rfl (by decide) (by decide) rfl rfl (Nat.le_of_ble_eq_true rfl) (by decide) (by decide) (oDec_at oX11_init 20 rfl) (fun ad8 h8 => ?_)
  rw [← h8 0 (by decide)]
  rw [← h8 13 (by decide)]
  refine i_at C (n2 := 18) (k2 := 17) (s2 := 2130) (pc2 := 45) rfl rfl rfl rfl ?_
  refine i_putrF C (a := 0) (k1 := 3) (b := 13) oCl11 rfl (by decide) (by decide) (by decide) flX11_26 rfl rfl rfl rfl (fun _ => rfl) (fun _ => rfl) (oDec_at oX11_init 21 rfl) ?_
  refine i_aload_n C (j := 0) (oDec_at oX11_init 22 rfl) rfl rfl ?_
  refine i_new C oCl0 rfl ckX11_29 isX0 inX0 df0 (by decide) (by decide) (oDec_at oX11_init 23 rfl) (fun ad9 h9 => ?_)
  rw [← h9 0 (by decide)]
  refine i_at C (n2 := 19) (k2 := 18) (s2 := 2139) (pc2 := 52) rfl rfl rfl rfl ?_
  refine i_dup C (oDec_at oX11_init 24 rfl) ?_
  refine i_callN C mkX0_init rfl mlX11_31 (ci_X0_init_18 l) rfl (by decide) (by decide) rfl rfl (Nat.le_of_ble_eq_true rfl) (by decide) (by decide) (oDec_at oX11_init 25 rfl) (fun ad10 h10 => ?_)
  rw [← h10 0 (by decide)]
  rw [← h10 18 (by decide)]
  refine i_at C (n2 := 24) (k2 := 23) (s2 := 3875) (pc2 := 56) rfl rfl rfl rfl ?_
  refine i_putr C (a := 0) (k1 := 4) (b := 18) oCl11 rfl (by decide) (by decide) (by decide) flX11_32 rfl rfl rfl (fun _ => rfl) (fun _ => rfl) (oDec_at oX11_init 26 rfl) ?_
  refine i_aload_n C (j := 0) (oDec_at oX11_init 27 rfl) rfl rfl ?_
  refine i_at C (n2 := 24) (k2 := 23) (s2 := 3875) (pc2 := 60) rfl rfl rfl rfl ?_
  refine i_new C oCl0 rfl ckX11_29 isX0 inX0 df0 (by decide) (by decide) (oDec_at oX11_init 28 rfl) (fun ad11 h11 => ?_)
  rw [← h11 0 (by decide)]
  refine i_at C (n2 := 25) (k2 := 24) (s2 := 3884) (pc2 := 63) rfl rfl rfl rfl ?_
  refine i_dup C (oDec_at oX11_init 29 rfl) ?_
  refine i_callN C mkX0_init rfl mlX11_31 (ci_X0_init_24 l) rfl (by decide) (by decide) rfl rfl (Nat.le_of_ble_eq_true rfl) (by decide) (by decide) (oDec_at oX11_init 30 rfl) (fun ad12 h12 => ?_)
  rw [← h12 0 (by decide)]
  rw [← h12 24 (by decide)]
  refine i_at C (n2 := 30) (k2 := 29) (s2 := 5620) (pc2 := 67) rfl rfl rfl rfl ?_
  refine i_putr C (a := 0) (k1 := 5) (b := 24) oCl11 rfl (by decide) (by decide) (by decide) flX11_36 rfl rfl rfl (fun _ => rfl) (fun _ => rfl) (oDec_at oX11_init 31 rfl) ?_
  refine i_at C (n2 := 30) (k2 := 29) (s2 := 5620) (pc2 := 70) rfl rfl rfl rfl ?_
  refine i_aload_n C (j := 0) (oDec_at oX11_init 32 rfl) rfl rfl ?_
  refine i_new C oCl5 rfl ckX11_39 isX5 inX5 df5 (by decide) (by decide) (oDec_at oX11_init 33 rfl) (fun ad13 h13 => ?_)
  rw [← h13 0 (by decide)]
  refine i_at C (n2 := 31) (k2 := 30) (s2 := 5630) (pc2 := 74) rfl rfl rfl rfl ?_
  refine i_dup C (oDec_at oX11_init 34 rfl) ?_
  refine i_aload_n C (j := 0) (oDec_at oX11_init 35 rfl) rfl rfl ?_
  refine i_at C (n2 := 31) (k2 := 30) (s2 := 5630) (pc2 := 76) rfl rfl rfl rfl ?_
  refine i_getr C (a := 0) (k1 := 0) (b := 1) oCl11 rfl (by decide) (by decide) flX11_10 rfl rfl (by rfl) (oDec_at oX11_init 36 rfl) ?_
  refine i_aload_n C (j := 0) (oDec_at oX11_init 37 rfl) rfl rfl ?_
  refine i_getr C (a := 0) (k1 := 5) (b := 24) oCl11 rfl (by decide) (by decide) flX11_36 rfl rfl (by rfl) (oDec_at oX11_init 38 rfl) ?_
  refine i_call C mkX5_init rfl mlX11_41 (ci_X5_init_30 l) rfl (by decide) (by decide) rfl rfl (Nat.le_of_ble_eq_true rfl) (by decide) (by decide) (oDec_at oX11_init 39 rfl) (fun ad14 h14 => ?_)
  rw [← h14 0 (by decide)]
  rw [← h14 30 (by decide)]
  refine i_at C (n2 := 31) (k2 := 30) (s2 := 5630) (pc2 := 86) rfl rfl rfl rfl ?_
  refine i_putrF C (a := 0) (k1 := 6) (b := 30) oCl11 rfl (by decide) (by decide) (by decide) flX11_44 rfl rfl rfl rfl (fun _ => rfl) (fun _ => rfl) (oDec_at oX11_init 40 rfl) ?_
  refine i_aload_n C (j := 0) (oDec_at oX11_init 41 rfl) rfl rfl ?_
  refine i_new C oCl2 rfl ckX11_48 isX2 inX2 df2 (by decide) (by decide) (oDec_at oX11_init 42 rfl) (fun ad15 h15 => ?_)
  rw [← h15 0 (by decide)]
  refine i_at C (n2 := 32) (k2 := 31) (s2 := 5634) (pc2 := 93) rfl rfl rfl rfl ?_
  refine i_dup C (oDec_at oX11_init 43 rfl) ?_
  refine i_at C (n2 := 32) (k2 := 31) (s2 := 5634) (pc2 := 94) rfl rfl rfl rfl ?_
  refine i_aload_n C (j := 0) (oDec_at oX11_init 44 rfl) rfl rfl ?_
  refine i_getr C (a := 0) (k1 := 4) (b := 18) oCl11 rfl (by decide) (by decide) flX11_32 rfl rfl (by rfl) (oDec_at oX11_init 45 rfl) ?_
  refine i_call C mkX2_init rfl mlX11_50 (ci_X2_init_31 l) rfl (by decide) (by decide) rfl rfl (Nat.le_of_ble_eq_true rfl) (by decide) (by decide) (oDec_at oX11_init 46 rfl) (fun ad16 h16 => ?_)
  rw [← h16 0 (by decide)]
  rw [← h16 31 (by decide)]
  refine i_at C (n2 := 35) (k2 := 34) (s2 := 13834) (pc2 := 101) rfl rfl rfl rfl ?_
  refine i_putrF C (a := 0) (k1 := 7) (b := 31) oCl11 rfl (by decide) (by decide) (by decide) flX11_53 rfl rfl rfl rfl (fun _ => rfl) (fun _ => rfl) (oDec_at oX11_init 47 rfl) ?_
  refine i_at C (n2 := 35) (k2 := 34) (s2 := 13834) (pc2 := 104) rfl rfl rfl rfl ?_
  refine i_aload_n C (j := 0) (oDec_at oX11_init 48 rfl) rfl rfl ?_
  refine i_new C oCl1 rfl ckX11_57 isX1 inX1 df1 (by decide) (by decide) (oDec_at oX11_init 49 rfl) (fun ad17 h17 => ?_)
  rw [← h17 0 (by decide)]
  refine i_at C (n2 := 36) (k2 := 35) (s2 := 13843) (pc2 := 108) rfl rfl rfl rfl ?_
  refine i_dup C (oDec_at oX11_init 50 rfl) ?_
  refine i_callN C mkX1_init rfl mlX11_59 (ci_X1_init_35 l) rfl (by decide) (by decide) rfl rfl (Nat.le_of_ble_eq_true rfl) (by decide) (by decide) (oDec_at oX11_init 51 rfl) (fun ad18 h18 => ?_)
  rw [← h18 0 (by decide)]
  rw [← h18 35 (by decide)]
  refine i_at C (n2 := 42) (k2 := 41) (s2 := 14045) (pc2 := 112) rfl rfl rfl rfl ?_
  refine i_putrF C (a := 0) (k1 := 8) (b := 35) oCl11 rfl (by decide) (by decide) (by decide) flX11_60 rfl rfl rfl rfl (fun _ => rfl) (fun _ => rfl) (oDec_at oX11_init 52 rfl) ?_
  refine i_aload_n C (j := 0) (oDec_at oX11_init 53 rfl) rfl rfl ?_
  refine i_new C oCl9 rfl ckX11_64 isX9 inX9 df9 (by decide) (by decide) (oDec_at oX11_init 54 rfl) (fun ad19 h19 => ?_)
  rw [← h19 0 (by decide)]
  refine i_at C (n2 := 43) (k2 := 42) (s2 := 14050) (pc2 := 119) rfl rfl rfl rfl ?_
  refine i_dup C (oDec_at oX11_init 55 rfl) ?_
  refine i_at C (n2 := 43) (k2 := 42) (s2 := 14050) (pc2 := 120) rfl rfl rfl rfl ?_
  refine i_callN C mkX9_init rfl mlX11_66 (ci_X9_init_42 l) rfl (by decide) (by decide) rfl rfl (Nat.le_of_ble_eq_true rfl) (by decide) (by decide) (oDec_at oX11_init 56 rfl) (fun ad20 h20 => ?_)
  rw [← h20 0 (by decide)]
  rw [← h20 42 (by decide)]
  refine i_at C (n2 := 43) (k2 := 42) (s2 := 14050) (pc2 := 123) rfl rfl rfl rfl ?_
  refine i_putrF C (a := 0) (k1 := 9) (b := 42) oCl11 rfl (by decide) (by decide) (by decide) flX11_67 rfl rfl rfl rfl (fun _ => rfl) (fun _ => rfl) (oDec_at oX11_init 57 rfl) ?_
  refine i_aload_n C (j := 0) (oDec_at oX11_init 58 rfl) rfl rfl ?_
  refine i_new C oCl10 rfl ckX11_71 isX10 inX10 df10 (by decide) (by decide) (oDec_at oX11_init 59 rfl) (fun ad21 h21 => ?_)
  rw [← h21 0 (by decide)]
  refine i_at C (n2 := 44) (k2 := 43) (s2 := 14063) (pc2 := 130) rfl rfl rfl rfl ?_
  refine i_dup C (oDec_at oX11_init 60 rfl) ?_
  refine i_callN C mkX10_init rfl mlX11_73 (ci_X10_init_43 l) rfl (by decide) (by decide) rfl rfl (Nat.le_of_ble_eq_true rfl) (by decide) (by decide) (oDec_at oX11_init 61 rfl) (fun ad22 h22 => ?_)
  rw [← h22 0 (by decide)]
  rw [← h22 43 (by decide)]
  refine i_at C (n2 := 52) (k2 := 51) (s2 := 23341) (pc2 := 134) rfl rfl rfl rfl ?_
  refine i_putrF C (a := 0) (k1 := 10) (b := 43) oCl11 rfl (by decide) (by decide) (by decide) flX11_74 rfl rfl rfl rfl (fun _ => rfl) (fun _ => rfl) (oDec_at oX11_init 62 rfl) ?_
  refine i_aload_n C (j := 0) (oDec_at oX11_init 63 rfl) rfl rfl ?_
  refine i_at C (n2 := 52) (k2 := 51) (s2 := 23341) (pc2 := 138) rfl rfl rfl rfl ?_
  refine i_new C oCl7 rfl ckX11_78 isX7 inX7 df7 (by decide) (by decide) (oDec_at oX11_init 64 rfl) (fun ad23 h23 => ?_)
  rw [← h23 0 (by decide)]
  refine i_at C (n2 := 53) (k2 := 52) (s2 := 23347) (pc2 := 141) rfl rfl rfl rfl ?_
  refine i_dup C (oDec_at oX11_init 65 rfl) ?_
  refine i_callN C mkX7_init rfl mlX11_80 (ci_X7_init_52 l) rfl (by decide) (by decide) rfl rfl (Nat.le_of_ble_eq_true rfl) (by decide) (by decide) (oDec_at oX11_init 66 rfl) (fun ad24 h24 => ?_)
  rw [← h24 0 (by decide)]
  rw [← h24 52 (by decide)]
  refine i_at C (n2 := 56) (k2 := 55) (s2 := 34047) (pc2 := 145) rfl rfl rfl rfl ?_
  refine i_putrF C (a := 0) (k1 := 11) (b := 52) oCl11 rfl (by decide) (by decide) (by decide) flX11_81 rfl rfl rfl rfl (fun _ => rfl) (fun _ => rfl) (oDec_at oX11_init 67 rfl) ?_
  refine i_at C (n2 := 56) (k2 := 55) (s2 := 34047) (pc2 := 148) rfl rfl rfl rfl ?_
  refine i_aload_n C (j := 0) (oDec_at oX11_init 68 rfl) rfl rfl ?_
  refine i_new C oCl3 rfl ckX11_85 isX3 inX3 df3 (by decide) (by decide) (oDec_at oX11_init 69 rfl) (fun ad25 h25 => ?_)
  rw [← h25 0 (by decide)]
  refine i_at C (n2 := 57) (k2 := 56) (s2 := 34056) (pc2 := 152) rfl rfl rfl rfl ?_
  refine i_dup C (oDec_at oX11_init 70 rfl) ?_
  refine i_callN C mkX3_init rfl mlX11_87 (ci_X3_init_56 l) rfl (by decide) (by decide) rfl rfl (Nat.le_of_ble_eq_true rfl) (by decide) (by decide) (oDec_at oX11_init 71 rfl) (fun ad26 h26 => ?_)
  rw [← h26 0 (by decide)]
  rw [← h26 56 (by decide)]
  refine i_at C (n2 := 69) (k2 := 68) (s2 := 48698) (pc2 := 156) rfl rfl rfl rfl ?_
  refine i_putrF C (a := 0) (k1 := 12) (b := 56) oCl11 rfl (by decide) (by decide) (by decide) flX11_88 rfl rfl rfl rfl (fun _ => rfl) (fun _ => rfl) (oDec_at oX11_init 72 rfl) ?_
  refine i_aload_n C (j := 0) (oDec_at oX11_init 73 rfl) rfl rfl ?_
  refine i_bipush C (x := 50) (oDec_at oX11_init 74 rfl) rfl ?_
  refine i_newa C (at' := .int) (t := 0) (N := 50) ac_int rfl rfl ra_int rfl (by decide) rfl rfl (Or.inl ⟨by decide, rfl⟩) (by decide) rfl (by decide) (by decide) (by decide) (oDec_at oX11_init 75 rfl) (fun ad27 h27 => ?_)
  rw [← h27 0 (by decide)]
  refine i_at C (n2 := 70) (k2 := 69) (s2 := 48748) (pc2 := 164) rfl rfl rfl rfl ?_
  refine i_putrF C (a := 0) (k1 := 13) (b := 69) oCl11 rfl (by decide) (by decide) (by decide) flX11_92 rfl rfl rfl rfl (fun _ => rfl) (fun _ => rfl) (oDec_at oX11_init 76 rfl) ?_
  refine i_aload_n C (j := 0) (oDec_at oX11_init 77 rfl) rfl rfl ?_
  refine i_sipush C (x := 672) (oDec_at oX11_init 78 rfl) rfl ?_
  refine i_newa C (at' := .int) (t := 0) (N := 672) ac_int rfl rfl ra_int rfl (by decide) rfl rfl (Or.inl ⟨by decide, rfl⟩) (by decide) rfl (by decide) (by decide) (by decide) (oDec_at oX11_init 79 rfl) (fun ad28 h28 => ?_)
  rw [← h28 0 (by decide)]
  refine i_at C (n2 := 71) (k2 := 70) (s2 := 49420) (pc2 := 173) rfl rfl rfl rfl ?_
  refine i_putrF C (a := 0) (k1 := 15) (b := 70) oCl11 rfl (by decide) (by decide) (by decide) flX11_96 rfl rfl rfl rfl (fun _ => rfl) (fun _ => rfl) (oDec_at oX11_init 80 rfl) ?_
  refine i_aload_n C (j := 0) (oDec_at oX11_init 81 rfl) rfl rfl ?_
  refine i_iconst C (x := (-1)) (oDec_at oX11_init 82 rfl) rfl ?_
  refine i_puti C (a := 0) (k1 := 17) oCl11 rfl (by decide) (by decide) flX11_99 rfl rfl rfl rfl rfl (oDec_at oX11_init 83 rfl) ?_
  refine i_at C (n2 := 71) (k2 := 70) (s2 := 49420) (pc2 := 181) rfl rfl rfl rfl ?_
  exact i_ret C (oDec_at oX11_init 84 rfl)
