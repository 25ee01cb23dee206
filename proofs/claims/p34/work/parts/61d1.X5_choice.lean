set_option maxHeartbeats 4000000 in
set_option maxRecDepth 100000 in
theorem gr9_X5_X5_choice (l : Launch) (E : oE) (N : Nat) (ih : ∀ m : Nat, m < N → ogr9_X5 l E m)  : ogr9_X5_X5_choice l E N := by
  intro s a1 g fp fq a b op bc L F d G hp0 hp1 hp2 hp3 hp4 hp5 hp6 hp7 hp8 hp9 hp10 hp11
  refine oMet.of (lv := [(0, .ref (oad E 30)), (1, .int a1)]) (by decide +kernel) (Nat.le_of_ble_eq_true rfl) rfl (fun J C hT => ?_)
  have C : oC l (7 + 10 * N + 1) cX5_choice RX5 2 (some .boolean) [(0, 1), (5, 2), (5, 3), (5, 4), (5, 5), (5, 8), (5, 9), (20, 9999)] E s (oPi (fun r u => (0 ≤ r.toInt ∧ r.toInt ≤ 1) ∧ (r.toInt = 1 → oqCy g fp fq a b op (oqSk g (u.1 30 2).toInt) (u.1 30 3).toInt) ∧ (r.toInt = 1 → ((u.1 30 5).toInt = op ∧ a + 1 ≤ (u.1 30 2).toInt ∧ (u.1 30 8).toInt = (s.1 30 8).toInt ∧ (u.1 30 9).toInt = (s.1 30 9).toInt)) ∧ (r.toInt = 0 → oqCn g fp fq a b op (u.1 30 8).toInt (u.1 30 9).toInt) ∧ (r.toInt = 1 → oqEcq g fp fq a b op (oqSk g (u.1 30 2).toInt) (u.1 30 3).toInt L F (u.1 bc 1).toInt (u.1 (bc + 1)) a1.toInt) ∧ (r.toInt = 1 → (u.1 bc 1).toInt - L ≤ (u.1 30 2).toInt - a) ∧ (oqKx d G u))) J := C
  obtain ⟨k0, qk0⟩ : ∃ z : Int32, z = 0 := ⟨_, rfl⟩
  have ek0 : k0.toInt = 0 := by rw [qk0]; rfl
  obtain ⟨k1, qk1⟩ : ∃ z : Int32, z = 1 := ⟨_, rfl⟩
  have ek1 : k1.toInt = 1 := by rw [qk1]; rfl
  obtain ⟨k40, qk40⟩ : ∃ z : Int32, z = 40 := ⟨_, rfl⟩
  have ek40 : k40.toInt = 40 := by rw [qk40]; rfl
  obtain ⟨k41, qk41⟩ : ∃ z : Int32, z = 41 := ⟨_, rfl⟩
  have ek41 : k41.toInt = 41 := by rw [qk41]; rfl
  obtain ⟨k44, qk44⟩ : ∃ z : Int32, z = 44 := ⟨_, rfl⟩
  have ek44 : k44.toInt = 44 := by rw [qk44]; rfl
  have rg1 := n_rng a1
  have hto : (0 : Int) ≤ (s.1 30 5).toInt ∧ (s.1 30 5).toInt ≤ 6 := hT.1 30 5
  have hge9 := oqSk_ge g a
  have hkb := (hp8 : oqAn bc L F s).1
  have hLs := (hp8 : oqAn bc L F s).2.1
  refine r_aload_n C (j := 0) (oDec_at oX5_choice 0 rfl) rfl rfl ?_
  refine r_callVi C oCl5 rfl miX5_peek mlX5_43 (ct4_X5_peek l E (s)  (g) (a) (by omega) hp2) (by omega) rfl rfl rfl (Nat.le_of_ble_eq_true rfl) (oDec_at oX5_choice 1 rfl) (fun r2 u1 pu1 fu1 => ?_)
  try dsimp only at pu1
  obtain ⟨pu1_0, pu1_1, pu1_2, pu1_3, pu1_4, pu1_5⟩ := pu1
  have rr2 := n_rng r2
  have hss := oqSk_sk (g := g) (a := a) ⟨by omega, by omega⟩
  have hg2 : g (oqSk g (oqSk g a)) = g (oqSk g a) := by rw [hss]
  refine r_bipush C (oDec_at oX5_choice 2 rfl) (v := k40) (by rw [qk40]; rfl) ?_
  refine r_icmp_eq C 19 (oDec_at oX5_choice 3 rfl) (by decide) (fun cd3 => ?_) (fun cd3 => ?_)
  · skip
    refine r_aload_n C (j := 0) (oDec_at oX5_choice 10 rfl) rfl rfl ?_
    have lk4 : ((u1).1 30 5).toInt = (s.1 30 5).toInt := congrArg Int32.toInt ((fu1 30 5 rfl).1)
    have lk5 : ((u1).1 30 8).toInt = (s.1 30 8).toInt := congrArg Int32.toInt ((fu1 30 8 rfl).1)
    have lk6 : ((u1).1 30 9).toInt = (s.1 30 9).toInt := congrArg Int32.toInt ((fu1 30 9 rfl).1)
    have lk7 : ((u1).1 30 5).toInt = (s.1 30 5).toInt := congrArg Int32.toInt ((fu1 30 5 rfl).1)
    refine r_callVi C oCl5 rfl miX5_opens mlX5_154 (ct4_X5_opens l E (u1)  ) (by omega) rfl rfl rfl (Nat.le_of_ble_eq_true rfl) (oDec_at oX5_choice 11 rfl) (fun r9 u8 pu8 fu8 => ?_)
    try dsimp only at pu8
    try simp only [lk4, lk5, lk6, lk7] at pu8
    obtain ⟨pu8_0, pu8_1, pu8_2⟩ := pu8
    have rr9 := n_rng r9
    refine r_if_eq C 67 (oDec_at oX5_choice 12 rfl) (by decide) (fun cd10 => ?_) (fun cd10 => ?_)
    · skip
      clear pu8_1
      replace pu8_2 := pu8_2 (by omega)
      refine r_iconst C (oDec_at oX5_choice 31 rfl) (v := k0) (by rw [qk0]; rfl) ?_
      have lk11 : ((u8).1 30 2).toInt = (u1.1 30 2).toInt := congrArg Int32.toInt ((fu8 30 2 rfl).1)
      have lk12 : ((u8).1 30 3).toInt = (s.1 30 3).toInt := congrArg Int32.toInt (((fu8 30 3 rfl).1).trans ((fu1 30 3 rfl).1))
      have lk13 : ((u8).1 30 2).toInt = (u1.1 30 2).toInt := congrArg Int32.toInt ((fu8 30 2 rfl).1)
      have lk14 : ((u8).1 30 2).toInt = (u1.1 30 2).toInt := congrArg Int32.toInt ((fu8 30 2 rfl).1)
      have lk15 : ((u8).1 30 3).toInt = (s.1 30 3).toInt := congrArg Int32.toInt (((fu8 30 3 rfl).1).trans ((fu1 30 3 rfl).1))
      have lk16 : ((u8).1 30 2).toInt = (u1.1 30 2).toInt := congrArg Int32.toInt ((fu8 30 2 rfl).1)
      exact r_zret C (n_bool (by omega)) (oDec_at oX5_choice 32 rfl) ⟨_, rfl, ⟨by omega, fun h => by exfalso; omega, fun h => by exfalso; omega, by first | exact fun _ => Or.inr (Or.inl ⟨by omega, by omega, by omega, by omega⟩) | exact fun _ => oqc_F (by omega) (by omega) pu8_4 | exact fun _ => (oqc_N1 (by omega) (by omega) (by assumption) (by assumption) (by omega)).cast (by omega) (by omega) | exact fun _ => oqc_F2 (by omega) (by omega) (by assumption) (by assumption) (by omega) pu8_4 | exact fun _ => (oqc_N2 (by omega) (by omega) (by assumption) (by assumption) (by omega) (by assumption) (by assumption) (by omega)).cast (by omega) (by omega) | (intro h; exfalso; omega), fun h => by exfalso; omega, fun h => by exfalso; omega, (oqKx_fr fu8 rfl (oqKx_fr fu1 rfl hp10))⟩⟩
    · skip
      replace pu8_1 := pu8_1 (by omega)
      clear pu8_2
      refine r_aload_n C (j := 0) (oDec_at oX5_choice 13 rfl) rfl rfl ?_
      refine r_bipush C (oDec_at oX5_choice 14 rfl) (v := k40) (by rw [qk40]; rfl) ?_
      have lk17 : ((u8).1 30 2).toInt = (u1.1 30 2).toInt := congrArg Int32.toInt ((fu8 30 2 rfl).1)
      refine r_callVi C oCl5 rfl miX5_expectSign mlX5_88 (ct4_X5_expectSign l E (u8) k40 (g) (oqSk g a) (40) (by omega) (oqX_fr fu8 rfl (oqX_fr fu1 rfl hp2)) (by omega) (by omega)) (by omega) rfl rfl rfl (Nat.le_of_ble_eq_true rfl) (oDec_at oX5_choice 15 rfl) (fun r19 u18 pu18 fu18 => ?_)
      try dsimp only at pu18
      try simp only [lk17] at pu18
      obtain ⟨pu18_0, pu18_1, pu18_2⟩ := pu18
      have rr19 := n_rng r19
      refine r_if_eq C 67 (oDec_at oX5_choice 16 rfl) (by decide) (fun cd20 => ?_) (fun cd20 => ?_)
      · skip
        clear pu18_1
        replace pu18_2 := pu18_2 (by omega)
        refine r_iconst C (oDec_at oX5_choice 31 rfl) (v := k0) (by rw [qk0]; rfl) ?_
        have lk21 : ((u18).1 30 3).toInt = (s.1 30 3).toInt := congrArg Int32.toInt (((fu18 30 3 rfl).1).trans (((fu8 30 3 rfl).1).trans ((fu1 30 3 rfl).1)))
        have lk22 : ((u18).1 30 5).toInt = (u8.1 30 5).toInt := congrArg Int32.toInt ((fu18 30 5 rfl).1)
        have lk23 : ((u18).1 30 3).toInt = (s.1 30 3).toInt := congrArg Int32.toInt (((fu18 30 3 rfl).1).trans (((fu8 30 3 rfl).1).trans ((fu1 30 3 rfl).1)))
        exact r_zret C (n_bool (by omega)) (oDec_at oX5_choice 32 rfl) ⟨_, rfl, ⟨by omega, fun h => by exfalso; omega, fun h => by exfalso; omega, by first | exact fun _ => Or.inr (Or.inl ⟨by omega, by omega, by omega, by omega⟩) | exact fun _ => oqc_F (by omega) (by omega) pu18_4 | exact fun _ => (oqc_N1 (by omega) (by omega) (by assumption) (by assumption) (by omega)).cast (by omega) (by omega) | exact fun _ => oqc_F2 (by omega) (by omega) (by assumption) (by assumption) (by omega) pu18_4 | exact fun _ => (oqc_N2 (by omega) (by omega) (by assumption) (by assumption) (by omega) (by assumption) (by assumption) (by omega)).cast (by omega) (by omega) | (intro h; exfalso; omega), fun h => by exfalso; omega, fun h => by exfalso; omega, (oqKx_fr fu18 rfl (oqKx_fr fu8 rfl (oqKx_fr fu1 rfl hp10)))⟩⟩
      · skip
        replace pu18_1 := pu18_1 (by omega)
        clear pu18_2
        refine r_aload_n C (j := 0) (oDec_at oX5_choice 17 rfl) rfl rfl ?_
        have lk24 : ((u18).1 30 3).toInt = (s.1 30 3).toInt := congrArg Int32.toInt (((fu18 30 3 rfl).1).trans (((fu8 30 3 rfl).1).trans ((fu1 30 3 rfl).1)))
        have lk25 : ((u18).1 30 5).toInt = (u8.1 30 5).toInt := congrArg Int32.toInt ((fu18 30 5 rfl).1)
        have lk26 : ((u18).1 30 6).toInt = (s.1 30 6).toInt := congrArg Int32.toInt (((fu18 30 6 rfl).1).trans (((fu8 30 6 rfl).1).trans ((fu1 30 6 rfl).1)))
        have lk27 : ((u18).1 30 7).toInt = (s.1 30 7).toInt := congrArg Int32.toInt (((fu18 30 7 rfl).1).trans (((fu8 30 7 rfl).1).trans ((fu1 30 7 rfl).1)))
        have lk28 : ((u18).1 30 5).toInt = (u8.1 30 5).toInt := congrArg Int32.toInt ((fu18 30 5 rfl).1)
        refine r_callVi C oCl5 rfl miX5_sum mlX5_160 (((ih (N - 1) (by omega)).2.2.2.1) (u18)  (g) (fp) (fq) (oqSk g a + 1) (b) (op + 1) (bc) (L) (F) (d) (G) (by omega) (by omega) (oqX_fr fu18 rfl (oqX_fr fu8 rfl (oqX_fr fu1 rfl hp2))) (by omega) (by omega) (by omega) (by omega) (oqRw_fr fu18 rfl (oqRw_fr fu8 rfl (oqRw_fr fu1 rfl hp7))) (oqAn_fr fu18 rfl (oqAn_fr fu8 rfl (oqAn_fr fu1 rfl hp8))) (by omega) (oqKx_fr fu18 rfl (oqKx_fr fu8 rfl (oqKx_fr fu1 rfl hp10)))) (by omega) rfl rfl rfl (Nat.le_of_ble_eq_true rfl) (oDec_at oX5_choice 18 rfl) (fun r30 u29 pu29 fu29 => ?_)
        try dsimp only at pu29
        try simp only [lk24, lk25, lk26, lk27, lk28] at pu29
        obtain ⟨pu29_0, pu29_1, pu29_2, pu29_3, pu29_4, pu29_5, pu29_6, pu29_7⟩ := pu29
        have rr30 := n_rng r30
        refine r_if_eq C 67 (oDec_at oX5_choice 19 rfl) (by decide) (fun cd31 => ?_) (fun cd31 => ?_)
        · skip
          clear pu29_1
          clear pu29_2
          clear pu29_3
          replace pu29_4 := pu29_4 (by omega)
          clear pu29_5
          clear pu29_6
          refine r_iconst C (oDec_at oX5_choice 31 rfl) (v := k0) (by rw [qk0]; rfl) ?_
          exact r_zret C (n_bool (by omega)) (oDec_at oX5_choice 32 rfl) ⟨_, rfl, ⟨by omega, fun h => by exfalso; omega, fun h => by exfalso; omega, by first | exact fun _ => Or.inr (Or.inl ⟨by omega, by omega, by omega, by omega⟩) | exact fun _ => oqc_F (by omega) (by omega) pu29_4 | exact fun _ => (oqc_N1 (by omega) (by omega) (by assumption) (by assumption) (by omega)).cast (by omega) (by omega) | exact fun _ => oqc_F2 (by omega) (by omega) (by assumption) (by assumption) (by omega) pu29_4 | exact fun _ => (oqc_N2 (by omega) (by omega) (by assumption) (by assumption) (by omega) (by assumption) (by assumption) (by omega)).cast (by omega) (by omega) | (intro h; exfalso; omega), fun h => by exfalso; omega, fun h => by exfalso; omega, pu29_7⟩⟩
        · skip
          replace pu29_1 := pu29_1 (by omega)
          replace pu29_2 := pu29_2 (by omega)
          replace pu29_3 := pu29_3 (by omega)
          clear pu29_4
          replace pu29_5 := pu29_5 (by omega)
          replace pu29_6 := pu29_6 (by omega)
          have hgX : g (oqSk g ((u29).1 30 2).toInt) = g ((u29).1 30 2).toInt := by rw [show oqSk g ((u29).1 30 2).toInt = ((u29).1 30 2).toInt by omega]
          obtain ⟨L1, hL1⟩ : ∃ z, z = ((u29).1 bc 1).toInt := ⟨_, rfl⟩
          obtain ⟨F1, hF1⟩ : ∃ z, z = (u29).1 (bc + 1) := ⟨_, rfl⟩
          have hE1 := pu29_5
          rw [← hL1, ← hF1] at hE1
          try (have hLe1 := hE1.le)
          have hq32 : oqAn bc L1 F1 (u29) := ⟨hkb, hL1.symm, hF1.symm⟩
          refine r_aload_n C (j := 0) (oDec_at oX5_choice 20 rfl) rfl rfl ?_
          refine r_bipush C (oDec_at oX5_choice 21 rfl) (v := k44) (by rw [qk44]; rfl) ?_
          refine r_callVi C oCl5 rfl miX5_expectSign mlX5_88 (ct4_X5_expectSign l E (u29) k44 (g) (((u29).1 30 2).toInt) (44) (by omega) (oqX_fr fu29 rfl (oqX_fr fu18 rfl (oqX_fr fu8 rfl (oqX_fr fu1 rfl hp2)))) (by omega) (by omega)) (by omega) rfl rfl rfl (Nat.le_of_ble_eq_true rfl) (oDec_at oX5_choice 22 rfl) (fun r34 u33 pu33 fu33 => ?_)
          try dsimp only at pu33
          obtain ⟨pu33_0, pu33_1, pu33_2⟩ := pu33
          have rr34 := n_rng r34
          refine r_if_eq C 67 (oDec_at oX5_choice 23 rfl) (by decide) (fun cd35 => ?_) (fun cd35 => ?_)
          · skip
            clear pu33_1
            replace pu33_2 := pu33_2 (by omega)
            refine r_iconst C (oDec_at oX5_choice 31 rfl) (v := k0) (by rw [qk0]; rfl) ?_
            have lk36 : ((u33).1 30 3).toInt = (u29.1 30 3).toInt := congrArg Int32.toInt ((fu33 30 3 rfl).1)
            have lk37 : ((u33).1 30 5).toInt = (u29.1 30 5).toInt := congrArg Int32.toInt ((fu33 30 5 rfl).1)
            have lk38 : ((u33).1 30 3).toInt = (u29.1 30 3).toInt := congrArg Int32.toInt ((fu33 30 3 rfl).1)
            exact r_zret C (n_bool (by omega)) (oDec_at oX5_choice 32 rfl) ⟨_, rfl, ⟨by omega, fun h => by exfalso; omega, fun h => by exfalso; omega, by first | exact fun _ => Or.inr (Or.inl ⟨by omega, by omega, by omega, by omega⟩) | exact fun _ => oqc_F (by omega) (by omega) pu33_4 | exact fun _ => (oqc_N1 (by omega) (by omega) pu29_1 pu29_2 (by omega)).cast (by omega) (by omega) | exact fun _ => oqc_F2 (by omega) (by omega) pu29_1 pu29_2 (by omega) pu33_4 | exact fun _ => (oqc_N2 (by omega) (by omega) pu29_1 pu29_2 (by omega) (by assumption) (by assumption) (by omega)).cast (by omega) (by omega) | (intro h; exfalso; omega), fun h => by exfalso; omega, fun h => by exfalso; omega, (oqKx_fr fu33 rfl pu29_7)⟩⟩
          · skip
            replace pu33_1 := pu33_1 (by omega)
            clear pu33_2
            refine r_aload_n C (j := 0) (oDec_at oX5_choice 24 rfl) rfl rfl ?_
            have lk39 : ((u33).1 30 3).toInt = (u29.1 30 3).toInt := congrArg Int32.toInt ((fu33 30 3 rfl).1)
            have lk40 : ((u33).1 30 5).toInt = (u29.1 30 5).toInt := congrArg Int32.toInt ((fu33 30 5 rfl).1)
            have lk41 : ((u33).1 30 6).toInt = (s.1 30 6).toInt := congrArg Int32.toInt (((fu33 30 6 rfl).1).trans (((fu29 30 6 rfl).1).trans (((fu18 30 6 rfl).1).trans (((fu8 30 6 rfl).1).trans ((fu1 30 6 rfl).1)))))
            have lk42 : ((u33).1 30 7).toInt = (s.1 30 7).toInt := congrArg Int32.toInt (((fu33 30 7 rfl).1).trans (((fu29 30 7 rfl).1).trans (((fu18 30 7 rfl).1).trans (((fu8 30 7 rfl).1).trans ((fu1 30 7 rfl).1)))))
            have lk43 : ((u33).1 30 5).toInt = (u29.1 30 5).toInt := congrArg Int32.toInt ((fu33 30 5 rfl).1)
            refine r_callVi C oCl5 rfl miX5_sum mlX5_160 (((ih (N - 1) (by omega)).2.2.2.1) (u33)  (g) (fp) (fq) (((u29).1 30 2).toInt + 1) (((u29).1 30 3).toInt) (op + 1) (bc) (L1) (F1) (d) (G) (by omega) (by omega) (oqX_fr fu33 rfl (oqX_fr fu29 rfl (oqX_fr fu18 rfl (oqX_fr fu8 rfl (oqX_fr fu1 rfl hp2))))) (by omega) (by omega) (by omega) (by omega) (oqRw_fr fu33 rfl (oqRw_fr fu29 rfl (oqRw_fr fu18 rfl (oqRw_fr fu8 rfl (oqRw_fr fu1 rfl hp7))))) (oqAn_fr fu33 rfl hq32) (by omega) (oqKx_fr fu33 rfl pu29_7)) (by omega) rfl rfl rfl (Nat.le_of_ble_eq_true rfl) (oDec_at oX5_choice 25 rfl) (fun r45 u44 pu44 fu44 => ?_)
            try dsimp only at pu44
            try simp only [lk39, lk40, lk41, lk42, lk43] at pu44
            obtain ⟨pu44_0, pu44_1, pu44_2, pu44_3, pu44_4, pu44_5, pu44_6, pu44_7⟩ := pu44
            have rr45 := n_rng r45
            refine r_if_eq C 67 (oDec_at oX5_choice 26 rfl) (by decide) (fun cd46 => ?_) (fun cd46 => ?_)
            · skip
              clear pu44_1
              clear pu44_2
              clear pu44_3
              replace pu44_4 := pu44_4 (by omega)
              clear pu44_5
              clear pu44_6
              refine r_iconst C (oDec_at oX5_choice 31 rfl) (v := k0) (by rw [qk0]; rfl) ?_
              exact r_zret C (n_bool (by omega)) (oDec_at oX5_choice 32 rfl) ⟨_, rfl, ⟨by omega, fun h => by exfalso; omega, fun h => by exfalso; omega, by first | exact fun _ => Or.inr (Or.inl ⟨by omega, by omega, by omega, by omega⟩) | exact fun _ => oqc_F (by omega) (by omega) pu44_4 | exact fun _ => (oqc_N1 (by omega) (by omega) pu29_1 pu29_2 (by omega)).cast (by omega) (by omega) | exact fun _ => oqc_F2 (by omega) (by omega) pu29_1 pu29_2 (by omega) pu44_4 | exact fun _ => (oqc_N2 (by omega) (by omega) pu29_1 pu29_2 (by omega) (by assumption) (by assumption) (by omega)).cast (by omega) (by omega) | (intro h; exfalso; omega), fun h => by exfalso; omega, fun h => by exfalso; omega, pu44_7⟩⟩
            · skip
              replace pu44_1 := pu44_1 (by omega)
              replace pu44_2 := pu44_2 (by omega)
              replace pu44_3 := pu44_3 (by omega)
              clear pu44_4
              replace pu44_5 := pu44_5 (by omega)
              replace pu44_6 := pu44_6 (by omega)
              have hgX : g (oqSk g ((u44).1 30 2).toInt) = g ((u44).1 30 2).toInt := by rw [show oqSk g ((u44).1 30 2).toInt = ((u44).1 30 2).toInt by omega]
              obtain ⟨L2, hL2⟩ : ∃ z, z = ((u44).1 bc 1).toInt := ⟨_, rfl⟩
              obtain ⟨F2, hF2⟩ : ∃ z, z = (u44).1 (bc + 1) := ⟨_, rfl⟩
              have hE2 := pu44_5
              rw [← hL2, ← hF2] at hE2
              try (have hLe2 := hE2.le)
              have hq47 : oqAn bc L2 F2 (u44) := ⟨hkb, hL2.symm, hF2.symm⟩
              refine r_aload_n C (j := 0) (oDec_at oX5_choice 27 rfl) rfl rfl ?_
              refine r_bipush C (oDec_at oX5_choice 28 rfl) (v := k41) (by rw [qk41]; rfl) ?_
              refine r_callVi C oCl5 rfl miX5_expectSign mlX5_88 (ct4_X5_expectSign l E (u44) k41 (g) (((u44).1 30 2).toInt) (41) (by omega) (oqX_fr fu44 rfl (oqX_fr fu33 rfl (oqX_fr fu29 rfl (oqX_fr fu18 rfl (oqX_fr fu8 rfl (oqX_fr fu1 rfl hp2)))))) (by omega) (by omega)) (by omega) rfl rfl rfl (Nat.le_of_ble_eq_true rfl) (oDec_at oX5_choice 29 rfl) (fun r49 u48 pu48 fu48 => ?_)
              try dsimp only at pu48
              obtain ⟨pu48_0, pu48_1, pu48_2⟩ := pu48
              have rr49 := n_rng r49
              refine r_if_ne C 69 (oDec_at oX5_choice 30 rfl) (by decide) (fun cd50 => ?_) (fun cd50 => ?_)
              · skip
                replace pu48_1 := pu48_1 (by omega)
                clear pu48_2
                refine r_aload_n C (j := 0) (oDec_at oX5_choice 33 rfl) rfl rfl ?_
                refine r_getS (k := 1) (q2 := 0) C oCl5 rfl (by decide) flX5_19 rfl rfl rfl ks1 (oDec_at oX5_choice 34 rfl) (fun b51 rb51 mb51 hkb51 => ?_)
                refine r_iload_n C (j := 1) (oDec_at oX5_choice 35 rfl) rfl rfl ?_
                refine r_ty C (fun hty => ?_)
                have hta : (0 : Int) ≤ ((u48).1 30 2).toInt ∧ ((u48).1 30 2).toInt ≤ 1600 := hty.1 30 2
                clear hty
                have hbb : b51 = bc := oqRw_eq (oqRw_fr fu48 rfl (oqRw_fr fu44 rfl (oqRw_fr fu33 rfl (oqRw_fr fu29 rfl (oqRw_fr fu18 rfl (oqRw_fr fu8 rfl (oqRw_fr fu1 rfl hp7))))))) (rb51); have hkn : b51 ≠ d := oqKx_ne (oqKx_fr fu48 rfl pu44_7) (rb51)
                -- !! !oqAn c0 L2 F2 is not known here
                refine r_callVv C oCl0 hkb51 miX0_emit mlX5_147 (ct9_X0_emit l E (u48) b51 hkb51 a1 (L2) (F2) (d) (G) (by rw [hbb]; exact (oqAn_fr fu48 rfl hq47)) (by omega) (oqKx_fr fu48 rfl pu44_7)) (by omega) rfl rfl rfl (Nat.le_of_ble_eq_true rfl) (oDec_at oX5_choice 36 rfl) (fun u52 pu52 fu52 => ?_)
                try dsimp only at pu52
                obtain ⟨pu52_0, pu52_1⟩ := pu52
                have hem := pu52_0 (by omega)
                rw [hbb] at hem
                obtain ⟨hem1, hem2⟩ := hem
                obtain ⟨L3, hL3⟩ : ∃ z, z = ((u52).1 bc 1).toInt := ⟨_, rfl⟩
                obtain ⟨F3, hF3⟩ : ∃ z, z = (u52).1 (bc + 1) := ⟨_, rfl⟩
                have hq54 : oqAn bc L3 F3 (u52) := ⟨hkb, hL3.symm, hF3.symm⟩
                refine r_aload_n C (j := 0) (oDec_at oX5_choice 37 rfl) rfl rfl ?_
                have lk55 : ((u52).1 30 5).toInt = (u44.1 30 5).toInt := congrArg Int32.toInt (((fu52 30 5 rfl).1).trans ((fu48 30 5 rfl).1))
                have lk56 : ((u52).1 30 5).toInt = (u44.1 30 5).toInt := congrArg Int32.toInt (((fu52 30 5 rfl).1).trans ((fu48 30 5 rfl).1))
                refine r_callVi C oCl5 rfl miX5_closes mlX5_157 (ct4_X5_closes l E (u52)  (by omega)) (by omega) rfl rfl rfl (Nat.le_of_ble_eq_true rfl) (oDec_at oX5_choice 38 rfl) (fun r58 u57 pu57 fu57 => ?_)
                try dsimp only at pu57
                try simp only [lk55, lk56] at pu57
                obtain ⟨pu57_0, pu57_1⟩ := pu57
                have rr58 := n_rng r58
                refine r_pc C 81 rfl ?_
                have lk59 : ((u57).1 30 2).toInt = (u48.1 30 2).toInt := congrArg Int32.toInt (((fu57 30 2 rfl).1).trans ((fu52 30 2 rfl).1))
                have lk60 : ((u57).1 30 3).toInt = (u44.1 30 3).toInt := congrArg Int32.toInt (((fu57 30 3 rfl).1).trans (((fu52 30 3 rfl).1).trans ((fu48 30 3 rfl).1)))
                have lk61 : ((u57).1 30 2).toInt = (u48.1 30 2).toInt := congrArg Int32.toInt (((fu57 30 2 rfl).1).trans ((fu52 30 2 rfl).1))
                have lk62 : ((u57).1 30 8).toInt = (u48.1 30 8).toInt := congrArg Int32.toInt (((fu57 30 8 rfl).1).trans ((fu52 30 8 rfl).1))
                have lk63 : ((u57).1 30 9).toInt = (u48.1 30 9).toInt := congrArg Int32.toInt (((fu57 30 9 rfl).1).trans ((fu52 30 9 rfl).1))
                have lk64 : ((u57).1 30 8).toInt = (u48.1 30 8).toInt := congrArg Int32.toInt (((fu57 30 8 rfl).1).trans ((fu52 30 8 rfl).1))
                have lk65 : ((u57).1 30 9).toInt = (u48.1 30 9).toInt := congrArg Int32.toInt (((fu57 30 9 rfl).1).trans ((fu52 30 9 rfl).1))
                have lk66 : ((u57).1 30 2).toInt = (u48.1 30 2).toInt := congrArg Int32.toInt (((fu57 30 2 rfl).1).trans ((fu52 30 2 rfl).1))
                have lk67 : ((u57).1 30 3).toInt = (u44.1 30 3).toInt := congrArg Int32.toInt (((fu57 30 3 rfl).1).trans (((fu52 30 3 rfl).1).trans ((fu48 30 3 rfl).1)))
                have lk68 : ((u57).1 30 2).toInt = (u48.1 30 2).toInt := congrArg Int32.toInt (((fu57 30 2 rfl).1).trans ((fu52 30 2 rfl).1))
                exact r_zret C (n_bool (by omega)) (oDec_at oX5_choice 39 rfl) ⟨_, rfl, ⟨by omega, fun _ => (oqc_Y (by omega) (by omega) pu29_1 pu29_2 (by omega) pu44_1 pu44_2 (by omega)).castS (by omega) (by omega), by omega, fun h => by exfalso; omega, fun _ => oqEcq.an ((oqe_C (v := a1) (by omega) hE1 pu29_2 hE2 pu44_2 (by omega) (by omega) (by rw [hF3]; exact hem2)).castS (by omega) (by omega)) (oqAn_fr fu57 rfl hq54), fun h9 => by (have hn9 := ((oqAn_fr fu57 rfl hq54)).2.1; omega), (oqKx_fr fu57 rfl pu52_1)⟩⟩
              · skip
                clear pu48_1
                replace pu48_2 := pu48_2 (by omega)
                refine r_iconst C (oDec_at oX5_choice 31 rfl) (v := k0) (by rw [qk0]; rfl) ?_
                have lk69 : ((u48).1 30 3).toInt = (u44.1 30 3).toInt := congrArg Int32.toInt ((fu48 30 3 rfl).1)
                have lk70 : ((u48).1 30 5).toInt = (u44.1 30 5).toInt := congrArg Int32.toInt ((fu48 30 5 rfl).1)
                have lk71 : ((u48).1 30 3).toInt = (u44.1 30 3).toInt := congrArg Int32.toInt ((fu48 30 3 rfl).1)
                exact r_zret C (n_bool (by omega)) (oDec_at oX5_choice 32 rfl) ⟨_, rfl, ⟨by omega, fun h => by exfalso; omega, fun h => by exfalso; omega, by first | exact fun _ => Or.inr (Or.inl ⟨by omega, by omega, by omega, by omega⟩) | exact fun _ => oqc_F (by omega) (by omega) pu48_4 | exact fun _ => (oqc_N1 (by omega) (by omega) pu29_1 pu29_2 (by omega)).cast (by omega) (by omega) | exact fun _ => oqc_F2 (by omega) (by omega) pu29_1 pu29_2 (by omega) pu48_4 | exact fun _ => (oqc_N2 (by omega) (by omega) pu29_1 pu29_2 (by omega) pu44_1 pu44_2 (by omega)).cast (by omega) (by omega) | (intro h; exfalso; omega), fun h => by exfalso; omega, fun h => by exfalso; omega, (oqKx_fr fu48 rfl pu44_7)⟩⟩
  · skip
    refine r_aload_n C (j := 0) (oDec_at oX5_choice 4 rfl) rfl rfl ?_
    refine r_iconst C (oDec_at oX5_choice 5 rfl) (v := k1) (by rw [qk1]; rfl) ?_
    refine r_aload_n C (j := 0) (oDec_at oX5_choice 6 rfl) rfl rfl ?_
    obtain ⟨v72, ev72⟩ : ∃ z : Int32, (u1).1 30 2 = z := ⟨_, rfl⟩
    have gv72 : (u1.1 30 2).toInt = v72.toInt := congrArg Int32.toInt (ev72)
    refine r_geti (k := 2) (lo := 0) (hi := 1600) C v72 oCl5 rfl (by decide) flX5_23 rfl rfl (ev72) rfl rfl (oDec_at oX5_choice 7 rfl) (fun b73 b73h => ?_)
    refine r_callVi C oCl5 rfl miX5_fail mlX5_62 (ct4_X5_fail l E (u1) k1 v72 ) (by omega) rfl rfl rfl (Nat.le_of_ble_eq_true rfl) (oDec_at oX5_choice 8 rfl) (fun r75 u74 pu74 fu74 => ?_)
    try dsimp only at pu74
    obtain ⟨pu74_0, pu74_1, pu74_2, pu74_3⟩ := pu74
    have rr75 := n_rng r75
    have lk76 : ((u74).1 30 2).toInt = v72.toInt := congrArg Int32.toInt (((fu74 30 2 rfl).1).trans (ev72))
    have lk77 : ((u74).1 30 3).toInt = (s.1 30 3).toInt := congrArg Int32.toInt (((fu74 30 3 rfl).1).trans ((fu1 30 3 rfl).1))
    have lk78 : ((u74).1 30 5).toInt = (s.1 30 5).toInt := congrArg Int32.toInt (((fu74 30 5 rfl).1).trans ((fu1 30 5 rfl).1))
    have lk79 : ((u74).1 30 2).toInt = v72.toInt := congrArg Int32.toInt (((fu74 30 2 rfl).1).trans (ev72))
    have lk80 : ((u74).1 30 2).toInt = v72.toInt := congrArg Int32.toInt (((fu74 30 2 rfl).1).trans (ev72))
    have lk81 : ((u74).1 30 3).toInt = (s.1 30 3).toInt := congrArg Int32.toInt (((fu74 30 3 rfl).1).trans ((fu1 30 3 rfl).1))
    have lk82 : ((u74).1 30 2).toInt = v72.toInt := congrArg Int32.toInt (((fu74 30 2 rfl).1).trans (ev72))
    exact r_zret C (n_bool (by omega)) (oDec_at oX5_choice 9 rfl) ⟨_, rfl, ⟨by omega, fun h => by exfalso; omega, by omega, fun _ => Or.inl ⟨by omega, by omega, by omega⟩, fun h => by exfalso; omega, fun h => by exfalso; omega, (oqKx_fr fu74 rfl (oqKx_fr fu1 rfl hp10))⟩⟩
