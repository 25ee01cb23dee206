set_option maxHeartbeats 4000000 in
set_option maxRecDepth 100000 in
theorem ct9_X5_bookStatement (l : Launch) (E : oE) (s : oS)  (g : Int → Int) (a : Int) (b : Int) (N : Nat → Nat → Int) (R : Int) (M : Int) (bc : Nat) (me : Int) (W : Nat → List Int) (d : Nat) (G : Nat → Nat → Int32) (hp0 : (s.1 30 2).toInt = a) (hp1 : (s.1 30 3).toInt = b) (hp2 : oqX g s) (hp3 : oqNl N R M M s) (hp4 : (s.1 30 5).toInt = 0) (hp5 : 0 ≤ R ∧ R ≤ 12 ∧ 0 ≤ M ∧ M ≤ 6) (hp6 : oqRw bc s) (hp7 : owCB bc R W s) (hp8 : owBM bc me s) (hp9 : oqKx d G s) (hp10 : (s.1 bc 1).toInt ≤ a) : oMet l 75 yX5_bookStatement cX5_bookStatement 3 (some .boolean) [(0, 1), (0, 6), (0, 7), (0, 8), (5, 2), (5, 3), (5, 4), (5, 5), (5, 6), (5, 7), (5, 8), (5, 9), (20, 9999), (21, 9999), (22, 9999), (23, 9999)] E s [.ref (oad E 30)] (oPi (fun r u => (0 ≤ r.toInt ∧ r.toInt ≤ 1) ∧ (r.toInt = 1 → (oqBk g a b R M N = 0 ∧ (u.1 30 2).toInt = oqBa g a b ∧ (u.1 30 3).toInt = oqBb g a b ∧ (u.1 30 5).toInt = 0 ∧ (u.1 30 8).toInt = (s.1 30 8).toInt ∧ (u.1 30 9).toInt = (s.1 30 9).toInt)) ∧ (r.toInt = 0 → (oqBk g a b R M N ≠ 0 ∧ (u.1 30 8).toInt = oqBk g a b R M N ∧ (u.1 30 9).toInt = oqBp g a b R M N)) ∧ (r.toInt = 1 → oqNl (oqBN g a b N M) (oqBR g a b R) (oqBM g a b M) (oqBM g a b M) u) ∧ (r.toInt = 1 → owCB bc (oqBR g a b R) (owWk g a b R W) u) ∧ (r.toInt = 1 → owBM bc (owMf g a b me) u) ∧ (r.toInt = 1 → (u.1 bc 1).toInt ≤ (u.1 30 2).toInt) ∧ (oqKx d G u) ∧ (oqRw bc u))) := by
  refine oMet.of (lv := [(0, .ref (oad E 30))]) (by decide +kernel) (Nat.le_of_ble_eq_true rfl) rfl (fun J C hT => ?_)
  have C : oC l 75 cX5_bookStatement RX5 3 (some .boolean) [(0, 1), (0, 6), (0, 7), (0, 8), (5, 2), (5, 3), (5, 4), (5, 5), (5, 6), (5, 7), (5, 8), (5, 9), (20, 9999), (21, 9999), (22, 9999), (23, 9999)] E s (oPi (fun r u => (0 ≤ r.toInt ∧ r.toInt ≤ 1) ∧ (r.toInt = 1 → (oqBk g a b R M N = 0 ∧ (u.1 30 2).toInt = oqBa g a b ∧ (u.1 30 3).toInt = oqBb g a b ∧ (u.1 30 5).toInt = 0 ∧ (u.1 30 8).toInt = (s.1 30 8).toInt ∧ (u.1 30 9).toInt = (s.1 30 9).toInt)) ∧ (r.toInt = 0 → (oqBk g a b R M N ≠ 0 ∧ (u.1 30 8).toInt = oqBk g a b R M N ∧ (u.1 30 9).toInt = oqBp g a b R M N)) ∧ (r.toInt = 1 → oqNl (oqBN g a b N M) (oqBR g a b R) (oqBM g a b M) (oqBM g a b M) u) ∧ (r.toInt = 1 → owCB bc (oqBR g a b R) (owWk g a b R W) u) ∧ (r.toInt = 1 → owBM bc (owMf g a b me) u) ∧ (r.toInt = 1 → (u.1 bc 1).toInt ≤ (u.1 30 2).toInt) ∧ (oqKx d G u) ∧ (oqRw bc u))) J := C
  obtain ⟨k0, qk0⟩ : ∃ z : Int32, z = 0 := ⟨_, rfl⟩
  have ek0 : k0.toInt = 0 := by rw [qk0]; rfl
  obtain ⟨k1, qk1⟩ : ∃ z : Int32, z = 1 := ⟨_, rfl⟩
  have ek1 : k1.toInt = 1 := by rw [qk1]; rfl
  obtain ⟨k3, qk3⟩ : ∃ z : Int32, z = 3 := ⟨_, rfl⟩
  have ek3 : k3.toInt = 3 := by rw [qk3]; rfl
  obtain ⟨k4, qk4⟩ : ∃ z : Int32, z = 4 := ⟨_, rfl⟩
  have ek4 : k4.toInt = 4 := by rw [qk4]; rfl
  obtain ⟨k5, qk5⟩ : ∃ z : Int32, z = 5 := ⟨_, rfl⟩
  have ek5 : k5.toInt = 5 := by rw [qk5]; rfl
  obtain ⟨k6, qk6⟩ : ∃ z : Int32, z = 6 := ⟨_, rfl⟩
  have ek6 : k6.toInt = 6 := by rw [qk6]; rfl
  obtain ⟨k11, qk11⟩ : ∃ z : Int32, z = 11 := ⟨_, rfl⟩
  have ek11 : k11.toInt = 11 := by rw [qk11]; rfl
  obtain ⟨k12, qk12⟩ : ∃ z : Int32, z = 12 := ⟨_, rfl⟩
  have ek12 : k12.toInt = 12 := by rw [qk12]; rfl
  obtain ⟨k19, qk19⟩ : ∃ z : Int32, z = 19 := ⟨_, rfl⟩
  have ek19 : k19.toInt = 19 := by rw [qk19]; rfl
  obtain ⟨k24, qk24⟩ : ∃ z : Int32, z = 24 := ⟨_, rfl⟩
  have ek24 : k24.toInt = 24 := by rw [qk24]; rfl
  obtain ⟨k59, qk59⟩ : ∃ z : Int32, z = 59 := ⟨_, rfl⟩
  have ek59 : k59.toInt = 59 := by rw [qk59]; rfl
  have ht5 : (0 : Int) ≤ (s.1 30 5).toInt ∧ (s.1 30 5).toInt ≤ 6 := hT.1 30 5
  obtain ⟨L9, hL9⟩ : ∃ z, z = (s.1 bc 1).toInt := ⟨_, rfl⟩
  obtain ⟨F9, hF9⟩ : ∃ z, z = s.1 (bc + 1) := ⟨_, rfl⟩
  have hkb := (hp7).1
  have hLr : (0 : Int) ≤ (s.1 bc 1).toInt ∧ (s.1 bc 1).toInt ≤ 1600 := (by have h9 := hT.1 bc 1; rw [hkb] at h9; exact h9)
  have hska9 := oqSk_ge g a
  have hq1 : oqAn bc L9 F9 (s) := ⟨hkb, hL9.symm, hF9.symm⟩
  refine r_aload_n C (j := 0) (oDec_at oX5_bookStatement 0 rfl) rfl rfl ?_
  refine r_callVi C oCl5 rfl miX5_wordAhead mlX5_91 (ct5_X5_wordAhead l E (s)  (g) (a) (b) (by omega) (by omega) hp2) (by decide) rfl rfl rfl (Nat.le_of_ble_eq_true rfl) (oDec_at oX5_bookStatement 1 rfl) (fun r3 u2 pu2 fu2 => ?_)
  try dsimp only at pu2
  obtain ⟨pu2_0, pu2_1, pu2_2, pu2_3, pu2_4, pu2_5, pu2_6⟩ := pu2
  have rr3 := n_rng r3
  have hj := oqWi_eq pu2_2 ⟨by omega, by omega⟩
  have hW2 := pu2_3
  clear pu2_2 pu2_3 pu2_6
  refine r_istore_n C (lv' := [(0, .ref (oad E 30)), (1, .int r3)]) [1, 0] (oDec_at oX5_bookStatement 2 rfl) rfl (by decide) rfl ?_
  refine r_iload_n C (j := 1) (oDec_at oX5_bookStatement 3 rfl) rfl rfl ?_
  refine r_iconst C (oDec_at oX5_bookStatement 4 rfl) (v := k3) (by rw [qk3]; rfl) ?_
  refine r_icmp_eq C 30 (oDec_at oX5_bookStatement 5 rfl) (by decide) (fun cd4 => ?_) (fun cd4 => ?_)
  · skip
    refine r_iload_n C (j := 1) (oDec_at oX5_bookStatement 18 rfl) rfl rfl ?_
    refine r_iconst C (oDec_at oX5_bookStatement 19 rfl) (v := k4) (by rw [qk4]; rfl) ?_
    refine r_icmp_ne C 47 (oDec_at oX5_bookStatement 20 rfl) (by decide) (fun cd5 => ?_) (fun cd5 => ?_)
    · skip
      refine r_iload_n C (j := 1) (oDec_at oX5_bookStatement 26 rfl) rfl rfl ?_
      refine r_iconst C (oDec_at oX5_bookStatement 27 rfl) (v := k5) (by rw [qk5]; rfl) ?_
      refine r_icmp_ne C 74 (oDec_at oX5_bookStatement 28 rfl) (by decide) (fun cd6 => ?_) (fun cd6 => ?_)
      · skip
        refine r_aload_n C (j := 0) (oDec_at oX5_bookStatement 40 rfl) rfl rfl ?_
        refine r_callVv C oCl5 rfl miX5_passWord mlX5_100 (ct4_X5_passWord l E (u2)  ) (by decide) rfl rfl rfl (Nat.le_of_ble_eq_true rfl) (oDec_at oX5_bookStatement 41 rfl) (fun u7 pu7 fu7 => ?_)
        try dsimp only at pu7
        obtain ⟨pu7_0, pu7_1⟩ := pu7
        have hW3 := hW2 (by omega)
        have hBh := oqBh_w (g := g) (a := a) (b := b) (i := r3.toInt.toNat) (by omega)
        clear hW2
        refine r_iload_n C (j := 1) (oDec_at oX5_bookStatement 42 rfl) rfl rfl ?_
        refine r_iconst C (oDec_at oX5_bookStatement 43 rfl) (v := k3) (by rw [qk3]; rfl) ?_
        refine r_icmp_ne C 105 (oDec_at oX5_bookStatement 44 rfl) (by decide) (fun cd9 => ?_) (fun cd9 => ?_)
        · omega
        · skip
          refine r_aload_n C (j := 0) (oDec_at oX5_bookStatement 45 rfl) rfl rfl ?_
          have lk10 : ((u7).1 30 8).toInt = (s.1 30 8).toInt := congrArg Int32.toInt (((fu7 30 8 rfl).1).trans ((fu2 30 8 rfl).1))
          have lk11 : ((u7).1 30 9).toInt = (s.1 30 9).toInt := congrArg Int32.toInt (((fu7 30 9 rfl).1).trans ((fu2 30 9 rfl).1))
          refine r_callVi C oCl5 rfl miX5_measure mlX5_103 (ct9_X5_measure l E (u7)  (g) (oqBh g a b) (oqBh g a b) (bc) (d) (G) (by omega) (by omega) (oqX_fr fu7 rfl (oqX_fr fu2 rfl hp2)) (oqRw_fr fu7 rfl (oqRw_fr fu2 rfl hp6)) (oqKx_fr fu7 rfl (oqKx_fr fu2 rfl hp9))) (by decide) rfl rfl rfl (Nat.le_of_ble_eq_true rfl) (oDec_at oX5_bookStatement 46 rfl) (fun r13 u12 pu12 fu12 => ?_)
          try dsimp only at pu12
          try simp only [lk10, lk11] at pu12
          obtain ⟨pu12_0, pu12_1, pu12_2, pu12_3, pu12_4⟩ := pu12
          have rr13 := n_rng r13
          refine r_if_eq C 103 (oDec_at oX5_bookStatement 47 rfl) (by decide) (fun cd14 => ?_) (fun cd14 => ?_)
          · skip
            clear pu12_1
            replace pu12_2 := pu12_2 (by omega)
            clear pu12_4
            refine r_iconst C (oDec_at oX5_bookStatement 54 rfl) (v := k0) (by rw [qk0]; rfl) ?_
            have lk15 : ((u12).1 30 5).toInt = (s.1 30 5).toInt := congrArg Int32.toInt (((fu12 30 5 rfl).1).trans (((fu7 30 5 rfl).1).trans ((fu2 30 5 rfl).1)))
            exact r_zret C (n_bool (by omega)) (oDec_at oX5_bookStatement 55 rfl) ⟨_, rfl, ⟨by omega, by first | (intro h; exfalso; omega) | (have hB := oqB_m0 (g := g) (a := a) (b := b) (R := R) (M := M) (N := N) (by omega) (by omega) (by omega); omega), by first | (intro h; exfalso; omega) | (have hB := oqB_m1 (g := g) (a := a) (b := b) (R := R) (M := M) (N := N) (by omega) (by omega); omega) | (have hB := oqB_m2 (g := g) (a := a) (b := b) (R := R) (M := M) (N := N) (by omega) (by omega) (by omega); omega), by first | (intro h; exfalso; omega) | (intro h; have hb := oqBs_3 (g := g) (a := a) (b := b) (R := R) (M := M) (N := N) (by omega); rw [hb.1, hb.2.1, hb.2.2]; exact (oqNl_fr fu12 rfl (oqNl_fr fu7 rfl (oqNl_fr fu2 rfl hp3)))), by first | (intro h; exfalso; omega) | (intro h; have hb := oqBs_3 (g := g) (a := a) (b := b) (R := R) (M := M) (N := N) (by omega); rw [hb.1, owWk_n (by omega)]; exact (owCB_fr fu12 rfl (owCB_fr fu7 rfl (owCB_fr fu2 rfl hp7)))), by first | (intro h; exfalso; omega) | (intro h; rw [owMf_3 (by omega)]; exact (by assumption)), by first | (intro h; exfalso; omega) | (intro h; have h9 := (show oqAn bc L9 F9 (u12) from (oqAn_fr fu12 rfl (oqAn_fr fu7 rfl (oqAn_fr fu2 rfl hq1)))).2.1; have h8 := oqSk_ge g (oqBh g a b); have h7 := oqDn_rg g (oqSk g (oqBh g a b)); have h6 : oqNa g (oqBh g a b) = oqSk g (oqBh g a b) + oqDn g (oqSk g (oqBh g a b)) := rfl; have h5 := oqSk_ge g (oqNa g (oqBh g a b)); omega), pu12_3, (oqRw_fr fu12 rfl (oqRw_fr fu7 rfl (oqRw_fr fu2 rfl hp6)))⟩⟩
          · skip
            replace pu12_1 := pu12_1 (by omega)
            clear pu12_2
            replace pu12_4 := pu12_4 (by omega)
            have hq16 : owBM bc (oqNv g (oqBh g a b)) (u12) := (by first | exact pu12_4 | exact pu12_4 (by omega))
            refine r_aload_n C (j := 0) (oDec_at oX5_bookStatement 48 rfl) rfl rfl ?_
            refine r_bipush C (oDec_at oX5_bookStatement 49 rfl) (v := k59) (by rw [qk59]; rfl) ?_
            refine r_callVi C oCl5 rfl miX5_expectSign mlX5_88 (ct4_X5_expectSign l E (u12) k59 (g) (oqNa g (oqBh g a b)) (59) (by omega) (oqX_fr fu12 rfl (oqX_fr fu7 rfl (oqX_fr fu2 rfl hp2))) (by omega) (by omega)) (by decide) rfl rfl rfl (Nat.le_of_ble_eq_true rfl) (oDec_at oX5_bookStatement 50 rfl) (fun r18 u17 pu17 fu17 => ?_)
            try dsimp only at pu17
            obtain ⟨pu17_0, pu17_1, pu17_2⟩ := pu17
            have rr18 := n_rng r18
            refine r_if_eq C 103 (oDec_at oX5_bookStatement 51 rfl) (by decide) (fun cd19 => ?_) (fun cd19 => ?_)
            · skip
              clear pu17_1
              replace pu17_2 := pu17_2 (by omega)
              refine r_iconst C (oDec_at oX5_bookStatement 54 rfl) (v := k0) (by rw [qk0]; rfl) ?_
              have lk20 : ((u17).1 30 3).toInt = (u12.1 30 3).toInt := congrArg Int32.toInt ((fu17 30 3 rfl).1)
              have lk21 : ((u17).1 30 5).toInt = (s.1 30 5).toInt := congrArg Int32.toInt (((fu17 30 5 rfl).1).trans (((fu12 30 5 rfl).1).trans (((fu7 30 5 rfl).1).trans ((fu2 30 5 rfl).1))))
              exact r_zret C (n_bool (by omega)) (oDec_at oX5_bookStatement 55 rfl) ⟨_, rfl, ⟨by omega, by first | (intro h; exfalso; omega) | (have hB := oqB_m0 (g := g) (a := a) (b := b) (R := R) (M := M) (N := N) (by omega) (by omega) (by omega); omega), by first | (intro h; exfalso; omega) | (have hB := oqB_m1 (g := g) (a := a) (b := b) (R := R) (M := M) (N := N) (by omega) (by omega); omega) | (have hB := oqB_m2 (g := g) (a := a) (b := b) (R := R) (M := M) (N := N) (by omega) (by omega) (by omega); omega), by first | (intro h; exfalso; omega) | (intro h; have hb := oqBs_3 (g := g) (a := a) (b := b) (R := R) (M := M) (N := N) (by omega); rw [hb.1, hb.2.1, hb.2.2]; exact (oqNl_fr fu17 rfl (oqNl_fr fu12 rfl (oqNl_fr fu7 rfl (oqNl_fr fu2 rfl hp3))))), by first | (intro h; exfalso; omega) | (intro h; have hb := oqBs_3 (g := g) (a := a) (b := b) (R := R) (M := M) (N := N) (by omega); rw [hb.1, owWk_n (by omega)]; exact (owCB_fr fu17 rfl (owCB_fr fu12 rfl (owCB_fr fu7 rfl (owCB_fr fu2 rfl hp7))))), by first | (intro h; exfalso; omega) | (intro h; rw [owMf_3 (by omega)]; exact (owBM_fr fu17 rfl hq16)), by first | (intro h; exfalso; omega) | (intro h; have h9 := (show oqAn bc L9 F9 (u17) from (oqAn_fr fu17 rfl (oqAn_fr fu12 rfl (oqAn_fr fu7 rfl (oqAn_fr fu2 rfl hq1))))).2.1; have h8 := oqSk_ge g (oqBh g a b); have h7 := oqDn_rg g (oqSk g (oqBh g a b)); have h6 : oqNa g (oqBh g a b) = oqSk g (oqBh g a b) + oqDn g (oqSk g (oqBh g a b)) := rfl; have h5 := oqSk_ge g (oqNa g (oqBh g a b)); omega), (oqKx_fr fu17 rfl pu12_3), (oqRw_fr fu17 rfl (oqRw_fr fu12 rfl (oqRw_fr fu7 rfl (oqRw_fr fu2 rfl hp6))))⟩⟩
            · skip
              replace pu17_1 := pu17_1 (by omega)
              clear pu17_2
              refine r_iconst C (oDec_at oX5_bookStatement 52 rfl) (v := k1) (by rw [qk1]; rfl) ?_
              refine r_goto C (tgt := 104) (oDec_at oX5_bookStatement 53 rfl) (by decide) ?_
              have lk22 : ((u17).1 30 3).toInt = (u12.1 30 3).toInt := congrArg Int32.toInt ((fu17 30 3 rfl).1)
              have lk23 : ((u17).1 30 5).toInt = (s.1 30 5).toInt := congrArg Int32.toInt (((fu17 30 5 rfl).1).trans (((fu12 30 5 rfl).1).trans (((fu7 30 5 rfl).1).trans ((fu2 30 5 rfl).1))))
              exact r_zret C (n_bool (by omega)) (oDec_at oX5_bookStatement 55 rfl) ⟨_, rfl, ⟨by omega, by first | (intro h; exfalso; omega) | (have hB := oqB_m0 (g := g) (a := a) (b := b) (R := R) (M := M) (N := N) (by omega) (by omega) (by omega); omega), by first | (intro h; exfalso; omega) | (have hB := oqB_m1 (g := g) (a := a) (b := b) (R := R) (M := M) (N := N) (by omega) (by omega); omega) | (have hB := oqB_m2 (g := g) (a := a) (b := b) (R := R) (M := M) (N := N) (by omega) (by omega) (by omega); omega), by first | (intro h; exfalso; omega) | (intro h; have hb := oqBs_3 (g := g) (a := a) (b := b) (R := R) (M := M) (N := N) (by omega); rw [hb.1, hb.2.1, hb.2.2]; exact (oqNl_fr fu17 rfl (oqNl_fr fu12 rfl (oqNl_fr fu7 rfl (oqNl_fr fu2 rfl hp3))))), by first | (intro h; exfalso; omega) | (intro h; have hb := oqBs_3 (g := g) (a := a) (b := b) (R := R) (M := M) (N := N) (by omega); rw [hb.1, owWk_n (by omega)]; exact (owCB_fr fu17 rfl (owCB_fr fu12 rfl (owCB_fr fu7 rfl (owCB_fr fu2 rfl hp7))))), by first | (intro h; exfalso; omega) | (intro h; rw [owMf_3 (by omega)]; exact (owBM_fr fu17 rfl hq16)), by first | (intro h; exfalso; omega) | (intro h; have h9 := (show oqAn bc L9 F9 (u17) from (oqAn_fr fu17 rfl (oqAn_fr fu12 rfl (oqAn_fr fu7 rfl (oqAn_fr fu2 rfl hq1))))).2.1; have h8 := oqSk_ge g (oqBh g a b); have h7 := oqDn_rg g (oqSk g (oqBh g a b)); have h6 : oqNa g (oqBh g a b) = oqSk g (oqBh g a b) + oqDn g (oqSk g (oqBh g a b)) := rfl; have h5 := oqSk_ge g (oqNa g (oqBh g a b)); omega), (oqKx_fr fu17 rfl pu12_3), (oqRw_fr fu17 rfl (oqRw_fr fu12 rfl (oqRw_fr fu7 rfl (oqRw_fr fu2 rfl hp6))))⟩⟩
      · omega
    · omega
  · skip
    refine r_iload_n C (j := 1) (oDec_at oX5_bookStatement 6 rfl) rfl rfl ?_
    refine r_iconst C (oDec_at oX5_bookStatement 7 rfl) (v := k4) (by rw [qk4]; rfl) ?_
    refine r_icmp_eq C 30 (oDec_at oX5_bookStatement 8 rfl) (by decide) (fun cd24 => ?_) (fun cd24 => ?_)
    · skip
      refine r_iload_n C (j := 1) (oDec_at oX5_bookStatement 18 rfl) rfl rfl ?_
      refine r_iconst C (oDec_at oX5_bookStatement 19 rfl) (v := k4) (by rw [qk4]; rfl) ?_
      refine r_icmp_ne C 47 (oDec_at oX5_bookStatement 20 rfl) (by decide) (fun cd25 => ?_) (fun cd25 => ?_)
      · omega
      · skip
        refine r_aload_n C (j := 0) (oDec_at oX5_bookStatement 21 rfl) rfl rfl ?_
        refine r_getS (k := 1) (q2 := 0) C oCl5 rfl (by decide) flX5_19 rfl rfl rfl ks1 (oDec_at oX5_bookStatement 22 rfl) (fun b26 rb26 mb26 hkb26 => ?_)
        have hnl := oqNl_at (oqNl_fr fu2 rfl hp3) (rb26)
        obtain ⟨hnl7, hnl8, hnl9⟩ := hnl
        clear hnl9
        have hnls := oqNl_at hp3 (((fu2 30 1 rfl).2.2).symm.trans (rb26))
        obtain ⟨hnls7, hnls8, hnls9⟩ := hnls
        clear hnls9
        obtain ⟨v27, ev27⟩ : ∃ z : Int32, (u2).1 b26 7 = z := ⟨_, rfl⟩
        have gv27 : (s.1 b26 7).toInt = v27.toInt := congrArg Int32.toInt (((fu2 b26 7 (by rw [hkb26]; rfl)).1).symm.trans ev27)
        have ggv27 : ((u2).1 b26 7).toInt = v27.toInt := congrArg Int32.toInt ev27
        refine r_getiN (k := 7) (lo := 0) (hi := 12) C v27 oCl0 hkb26 (by decide) flX5_94 rfl rfl (ev27) rfl rfl (oDec_at oX5_bookStatement 23 rfl) (fun b28 b28h => ?_)
        refine r_bipush C (oDec_at oX5_bookStatement 24 rfl) (v := k12) (by rw [qk12]; rfl) ?_
        refine r_icmp_ge C 64 (oDec_at oX5_bookStatement 25 rfl) (by decide) (fun cd29 => ?_) (fun cd29 => ?_)
        · skip
          have hB : (oqBk g a b R M N = 5 ∧ oqBp g a b R M N = oqSk g a) := by first | exact oqB_r5 (by omega) (by omega) | exact oqB_o5 (by omega) (by omega)
          refine r_aload_n C (j := 0) (oDec_at oX5_bookStatement 34 rfl) rfl rfl ?_
          refine r_iconst C (oDec_at oX5_bookStatement 35 rfl) (v := k5) (by rw [qk5]; rfl) ?_
          refine r_aload_n C (j := 0) (oDec_at oX5_bookStatement 36 rfl) rfl rfl ?_
          obtain ⟨v30, ev30⟩ : ∃ z : Int32, (u2).1 30 2 = z := ⟨_, rfl⟩
          have gv30 : (u2.1 30 2).toInt = v30.toInt := congrArg Int32.toInt (ev30)
          refine r_geti (k := 2) (lo := 0) (hi := 1600) C v30 oCl5 rfl (by decide) flX5_23 rfl rfl (ev30) rfl rfl (oDec_at oX5_bookStatement 37 rfl) (fun b31 b31h => ?_)
          refine r_callVi C oCl5 rfl miX5_fail mlX5_62 (ct4_X5_fail l E (u2) k5 v30 ) (by decide) rfl rfl rfl (Nat.le_of_ble_eq_true rfl) (oDec_at oX5_bookStatement 38 rfl) (fun r33 u32 pu32 fu32 => ?_)
          try dsimp only at pu32
          obtain ⟨pu32_0, pu32_1, pu32_2, pu32_3⟩ := pu32
          have rr33 := n_rng r33
          have lk34 : ((u32).1 30 2).toInt = v30.toInt := congrArg Int32.toInt (((fu32 30 2 rfl).1).trans (ev30))
          have lk35 : ((u32).1 30 3).toInt = (s.1 30 3).toInt := congrArg Int32.toInt (((fu32 30 3 rfl).1).trans ((fu2 30 3 rfl).1))
          have lk36 : ((u32).1 30 5).toInt = (s.1 30 5).toInt := congrArg Int32.toInt (((fu32 30 5 rfl).1).trans ((fu2 30 5 rfl).1))
          have lk37 : ((u32).1 30 2).toInt = v30.toInt := congrArg Int32.toInt (((fu32 30 2 rfl).1).trans (ev30))
          exact r_zret C (n_bool (by omega)) (oDec_at oX5_bookStatement 39 rfl) ⟨_, rfl, ⟨by omega, by omega, by omega, fun h => by exfalso; omega, fun h => by exfalso; omega, fun h => by exfalso; omega, fun h => by exfalso; omega, (oqKx_fr fu32 rfl (oqKx_fr fu2 rfl hp9)), (oqRw_fr fu32 rfl (oqRw_fr fu2 rfl hp6))⟩⟩
        · skip
          refine r_iload_n C (j := 1) (oDec_at oX5_bookStatement 26 rfl) rfl rfl ?_
          refine r_iconst C (oDec_at oX5_bookStatement 27 rfl) (v := k5) (by rw [qk5]; rfl) ?_
          refine r_icmp_ne C 74 (oDec_at oX5_bookStatement 28 rfl) (by decide) (fun cd38 => ?_) (fun cd38 => ?_)
          · skip
            refine r_aload_n C (j := 0) (oDec_at oX5_bookStatement 40 rfl) rfl rfl ?_
            refine r_callVv C oCl5 rfl miX5_passWord mlX5_100 (ct4_X5_passWord l E (u2)  ) (by decide) rfl rfl rfl (Nat.le_of_ble_eq_true rfl) (oDec_at oX5_bookStatement 41 rfl) (fun u39 pu39 fu39 => ?_)
            try dsimp only at pu39
            obtain ⟨pu39_0, pu39_1⟩ := pu39
            have hW3 := hW2 (by omega)
            have hBh := oqBh_w (g := g) (a := a) (b := b) (i := r3.toInt.toNat) (by omega)
            clear hW2
            refine r_iload_n C (j := 1) (oDec_at oX5_bookStatement 42 rfl) rfl rfl ?_
            refine r_iconst C (oDec_at oX5_bookStatement 43 rfl) (v := k3) (by rw [qk3]; rfl) ?_
            refine r_icmp_ne C 105 (oDec_at oX5_bookStatement 44 rfl) (by decide) (fun cd41 => ?_) (fun cd41 => ?_)
            · skip
              have hBs : (oqWi g a b = 4 ∨ oqWi g a b = 5) := by omega
              refine r_aload_n C (j := 0) (oDec_at oX5_bookStatement 56 rfl) rfl rfl ?_
              refine r_getK (k := 1) (b := b26) C oCl5 rfl (by decide) flX5_19 rfl rfl (((fu39 30 1 rfl).2.2).trans (rb26)) (oDec_at oX5_bookStatement 57 rfl) ?_
              have hnl := oqNl_at (oqNl_fr fu39 rfl (oqNl_fr fu2 rfl hp3)) (((fu39 30 1 rfl).2.2).trans (rb26))
              obtain ⟨hnl7, hnl8, hnl9⟩ := hnl
              clear hnl9
              have hbk9 : b26 = bc := oqRw_eq (oqRw_fr fu39 rfl (oqRw_fr fu2 rfl hp6)) (((fu39 30 1 rfl).2.2).trans (rb26))
              obtain ⟨v43, ev43⟩ : ∃ z : Int32, (u39).1 b26 1 = z := ⟨_, rfl⟩
              have gv43 : (s.1 b26 1).toInt = v43.toInt := congrArg Int32.toInt ((((fu39 b26 1 (by rw [hkb26]; rfl)).1).trans ((fu2 b26 1 (by rw [hkb26]; rfl)).1)).symm.trans ev43)
              have ggv43 : ((u39).1 b26 1).toInt = v43.toInt := congrArg Int32.toInt ev43
              refine r_getiN (k := 1) (lo := 0) (hi := 1600) C v43 oCl0 hkb26 (by decide) flX5_106 rfl rfl (ev43) rfl rfl (oDec_at oX5_bookStatement 58 rfl) (fun b44 b44h => ?_)
              have hln9 : v43.toInt = L9 := by rw [← ev43, hbk9]; exact (show oqAn bc L9 F9 (u39) from (oqAn_fr fu39 rfl (oqAn_fr fu2 rfl hq1))).2.1
              refine r_istore_n C (lv' := [(0, .ref (oad E 30)), (1, .int r3), (2, .int v43)]) [1, 2, 0] (oDec_at oX5_bookStatement 59 rfl) rfl (by decide) rfl ?_
              refine r_aload_n C (j := 0) (oDec_at oX5_bookStatement 60 rfl) rfl rfl ?_
              refine r_iload_n C (j := 1) (oDec_at oX5_bookStatement 61 rfl) rfl rfl ?_
              refine r_iconst C (oDec_at oX5_bookStatement 62 rfl) (v := k5) (by rw [qk5]; rfl) ?_
              refine r_pc C 116 rfl ?_
              refine r_icmp_ne C 124 (oDec_at oX5_bookStatement 63 rfl) (by decide) (fun cd45 => ?_) (fun cd45 => ?_)
              · skip
                refine r_bipush C (oDec_at oX5_bookStatement 66 rfl) (v := k11) (by rw [qk11]; rfl) ?_
                refine r_puti (k := 6) (lo := (-2147483648)) (hi := 2147483647) C oCl5 rfl (by decide) flX5_109 rfl rfl rfl rfl rfl rfl rfl rfl (n_rng _) (oDec_at oX5_bookStatement 67 rfl) ?_
                refine r_aload_n C (j := 0) (oDec_at oX5_bookStatement 68 rfl) rfl rfl ?_
                refine r_iload_n C (j := 1) (oDec_at oX5_bookStatement 69 rfl) rfl rfl ?_
                refine r_iconst C (oDec_at oX5_bookStatement 70 rfl) (v := k5) (by rw [qk5]; rfl) ?_
                refine r_icmp_ne C 140 (oDec_at oX5_bookStatement 71 rfl) (by decide) (fun cd46 => ?_) (fun cd46 => ?_)
                · skip
                  refine r_bipush C (oDec_at oX5_bookStatement 74 rfl) (v := k19) (by rw [qk19]; rfl) ?_
                  refine r_puti (k := 7) (lo := (-2147483648)) (hi := 2147483647) C oCl5 rfl (by decide) flX5_112 rfl rfl rfl rfl rfl rfl rfl rfl (n_rng _) (oDec_at oX5_bookStatement 75 rfl) ?_
                  refine r_iload_n C (j := 1) (oDec_at oX5_bookStatement 76 rfl) rfl rfl ?_
                  refine r_iconst C (oDec_at oX5_bookStatement 77 rfl) (v := k5) (by rw [qk5]; rfl) ?_
                  refine r_icmp_ne C 157 (oDec_at oX5_bookStatement 78 rfl) (by decide) (fun cd47 => ?_) (fun cd47 => ?_)
                  · skip
                    refine r_aload_n C (j := 0) (oDec_at oX5_bookStatement 82 rfl) rfl rfl ?_
                    refine r_bipush C (oDec_at oX5_bookStatement 83 rfl) (v := k6) (by rw [qk6]; rfl) ?_
                    have lk48 : (((pI (pI u39 30 6 k11) 30 7 k19)).1 30 2).toInt = (u39.1 30 2).toInt := congrArg Int32.toInt (((pI_ne (a := 30) (b := 2) (c := 30) (k := 7) _ _ (Or.inr (by decide)))).trans ((pI_ne (a := 30) (b := 2) (c := 30) (k := 6) _ _ (Or.inr (by decide)))))
                    have lk49 : (((pI (pI u39 30 6 k11) 30 7 k19)).1 30 3).toInt = (u39.1 30 3).toInt := congrArg Int32.toInt (((pI_ne (a := 30) (b := 3) (c := 30) (k := 7) _ _ (Or.inr (by decide)))).trans ((pI_ne (a := 30) (b := 3) (c := 30) (k := 6) _ _ (Or.inr (by decide)))))
                    have lk50 : (((pI (pI u39 30 6 k11) 30 7 k19)).1 30 8).toInt = (s.1 30 8).toInt := congrArg Int32.toInt (((pI_ne (a := 30) (b := 8) (c := 30) (k := 7) _ _ (Or.inr (by decide)))).trans (((pI_ne (a := 30) (b := 8) (c := 30) (k := 6) _ _ (Or.inr (by decide)))).trans (((fu39 30 8 rfl).1).trans ((fu2 30 8 rfl).1))))
                    have lk51 : (((pI (pI u39 30 6 k11) 30 7 k19)).1 30 9).toInt = (s.1 30 9).toInt := congrArg Int32.toInt (((pI_ne (a := 30) (b := 9) (c := 30) (k := 7) _ _ (Or.inr (by decide)))).trans (((pI_ne (a := 30) (b := 9) (c := 30) (k := 6) _ _ (Or.inr (by decide)))).trans (((fu39 30 9 rfl).1).trans ((fu2 30 9 rfl).1))))
                    refine r_callVi C oCl5 rfl miX5_expect mlX5_74 (ct4_X5_expect l E ((pI (pI u39 30 6 k11) 30 7 k19)) k6 (g) (oqBh g a b) (oqBh g a b) (6) (by omega) (by omega) (oqX_fr (oFr_oneI (q := 5) (m := 7) rfl (by rfl)) rfl (oqX_fr (oFr_oneI (q := 5) (m := 6) rfl (by rfl)) rfl (oqX_fr fu39 rfl (oqX_fr fu2 rfl hp2)))) (by omega) (by omega)) (by decide) rfl rfl rfl (Nat.le_of_ble_eq_true rfl) (oDec_at oX5_bookStatement 84 rfl) (fun r53 u52 pu52 fu52 => ?_)
                    try dsimp only at pu52
                    try simp only [lk48, lk49, lk50, lk51] at pu52
                    obtain ⟨pu52_0, pu52_1, pu52_2⟩ := pu52
                    have rr53 := n_rng r53
                    refine r_if_eq C 182 (oDec_at oX5_bookStatement 85 rfl) (by decide) (fun cd54 => ?_) (fun cd54 => ?_)
                    · skip
                      clear pu52_1
                      replace pu52_2 := pu52_2 (by omega)
                      refine r_iconst C (oDec_at oX5_bookStatement 93 rfl) (v := k0) (by rw [qk0]; rfl) ?_
                      have lk55 : ((u52).1 30 5).toInt = (s.1 30 5).toInt := congrArg Int32.toInt (((fu52 30 5 rfl).1).trans (((pI_ne (a := 30) (b := 5) (c := 30) (k := 7) _ _ (Or.inr (by decide)))).trans (((pI_ne (a := 30) (b := 5) (c := 30) (k := 6) _ _ (Or.inr (by decide)))).trans (((fu39 30 5 rfl).1).trans ((fu2 30 5 rfl).1)))))
                      exact r_zret C (n_bool (by omega)) (oDec_at oX5_bookStatement 94 rfl) ⟨_, rfl, ⟨by omega, by omega, by first | (have hB := oqB_on (g := g) (a := a) (b := b) (R := R) (M := M) (N := N) (by omega) (by omega) (by omega); omega) | (have hV := oqV_1 (g := g) (p := 19) (q := 24) (w := oqBn g a b) (by omega); have hB := oqB_o (g := g) (a := a) (b := b) (R := R) (M := M) (N := N) (by omega) (by omega) (by omega); omega) | (have hV := oqV_1 (g := g) (p := 11) (q := 19) (w := oqBh g a b) (by omega); have hB := oqB_r (g := g) (a := a) (b := b) (R := R) (M := M) (N := N) (by omega) (by omega); omega) | (have hV := oqV_2 (g := g) (p := 19) (q := 24) (w := oqBn g a b) (by omega) pu52_4; have hk0 := oqFn_k pu52_4; have hB := oqB_o (g := g) (a := a) (b := b) (R := R) (M := M) (N := N) (by omega) (by omega) (by omega); omega) | (have hV := oqV_2 (g := g) (p := 11) (q := 19) (w := oqBh g a b) (by omega) pu52_4; have hk0 := oqFn_k pu52_4; have hB := oqB_r (g := g) (a := a) (b := b) (R := R) (M := M) (N := N) (by omega) (by omega); omega) | (have hV := oqV_3 (g := g) (p := 19) (q := 24) (w := oqBn g a b) (by omega) (by assumption) (by assumption) (by omega); have hB := oqB_o (g := g) (a := a) (b := b) (R := R) (M := M) (N := N) (by omega) (by omega) (by omega); omega) | (have hV := oqV_3 (g := g) (p := 11) (q := 19) (w := oqBh g a b) (by omega) (by assumption) (by assumption) (by omega); have hB := oqB_r (g := g) (a := a) (b := b) (R := R) (M := M) (N := N) (by omega) (by omega); omega), fun h => by exfalso; omega, fun h => by exfalso; omega, fun h => by exfalso; omega, fun h => by exfalso; omega, (oqKx_fr fu52 rfl (oqKx_fr (oFr_oneI (q := 5) (m := 7) rfl (by rfl)) rfl (oqKx_fr (oFr_oneI (q := 5) (m := 6) rfl (by rfl)) rfl (oqKx_fr fu39 rfl (oqKx_fr fu2 rfl hp9))))), (oqRw_fr fu52 rfl (oqRw_fr (oFr_oneI (q := 5) (m := 7) rfl (by rfl)) rfl (oqRw_fr (oFr_oneI (q := 5) (m := 6) rfl (by rfl)) rfl (oqRw_fr fu39 rfl (oqRw_fr fu2 rfl hp6)))))⟩⟩
                    · skip
                      replace pu52_1 := pu52_1 (by omega)
                      clear pu52_2
                      have hge2 := oqSk_ge g (oqBh g a b)
                      have hH6 : oqHa g (oqBh g a b) 6 = oqSk g (oqBh g a b) + (oqWl 6 : Int) := rfl
                      have hl6 : oqWl 6 = 4 := rfl
                      have hge3 := oqSk_ge g (oqBh g a b)
                      have hge4 := oqWe_ge (g := g) (a := oqSk g (oqBh g a b))
                      refine r_aload_n C (j := 0) (oDec_at oX5_bookStatement 86 rfl) rfl rfl ?_
                      have lk56 : ((u52).1 30 5).toInt = (s.1 30 5).toInt := congrArg Int32.toInt (((fu52 30 5 rfl).1).trans (((pI_ne (a := 30) (b := 5) (c := 30) (k := 7) _ _ (Or.inr (by decide)))).trans (((pI_ne (a := 30) (b := 5) (c := 30) (k := 6) _ _ (Or.inr (by decide)))).trans (((fu39 30 5 rfl).1).trans ((fu2 30 5 rfl).1)))))
                      have lk57 : ((u52).1 30 6).toInt = k11.toInt := congrArg Int32.toInt (((fu52 30 6 rfl).1).trans (((pI_ne (a := 30) (b := 6) (c := 30) (k := 7) _ _ (Or.inr (by decide)))).trans ((pI_self _ _ _ _))))
                      have lk58 : ((u52).1 30 7).toInt = k19.toInt := congrArg Int32.toInt (((fu52 30 7 rfl).1).trans ((pI_self _ _ _ _)))
                      have lk59 : ((u52).1 30 5).toInt = (s.1 30 5).toInt := congrArg Int32.toInt (((fu52 30 5 rfl).1).trans (((pI_ne (a := 30) (b := 5) (c := 30) (k := 7) _ _ (Or.inr (by decide)))).trans (((pI_ne (a := 30) (b := 5) (c := 30) (k := 6) _ _ (Or.inr (by decide)))).trans (((fu39 30 5 rfl).1).trans ((fu2 30 5 rfl).1)))))
                      refine r_callVi C oCl5 rfl miX5_test mlX5_118 (ct9_X5_test l E (u52)  (g) (11) (19) (oqHa g (oqBh g a b) 6) (oqHa g (oqBh g a b) 6) (0) (bc) (L9) (F9) (d) (G) (by omega) (by omega) (oqX_fr fu52 rfl (oqX_fr (oFr_oneI (q := 5) (m := 7) rfl (by rfl)) rfl (oqX_fr (oFr_oneI (q := 5) (m := 6) rfl (by rfl)) rfl (oqX_fr fu39 rfl (oqX_fr fu2 rfl hp2))))) (by omega) (by omega) (by omega) (by omega) (oqRw_fr fu52 rfl (oqRw_fr (oFr_oneI (q := 5) (m := 7) rfl (by rfl)) rfl (oqRw_fr (oFr_oneI (q := 5) (m := 6) rfl (by rfl)) rfl (oqRw_fr fu39 rfl (oqRw_fr fu2 rfl hp6))))) (oqAn_fr fu52 rfl (oqAn_fr (oFr_oneI (q := 5) (m := 7) rfl (by rfl)) rfl (oqAn_fr (oFr_oneI (q := 5) (m := 6) rfl (by rfl)) rfl (oqAn_fr fu39 rfl (oqAn_fr fu2 rfl hq1))))) (by omega) (oqKx_fr fu52 rfl (oqKx_fr (oFr_oneI (q := 5) (m := 7) rfl (by rfl)) rfl (oqKx_fr (oFr_oneI (q := 5) (m := 6) rfl (by rfl)) rfl (oqKx_fr fu39 rfl (oqKx_fr fu2 rfl hp9)))))) (by decide) rfl rfl rfl (Nat.le_of_ble_eq_true rfl) (oDec_at oX5_bookStatement 87 rfl) (fun r61 u60 pu60 fu60 => ?_)
                      try dsimp only at pu60
                      try simp only [lk56, lk57, lk58, lk59] at pu60
                      obtain ⟨pu60_0, pu60_1, pu60_2, pu60_3, pu60_4, pu60_5, pu60_6, pu60_7⟩ := pu60
                      have rr61 := n_rng r61
                      refine r_if_eq C 182 (oDec_at oX5_bookStatement 88 rfl) (by decide) (fun cd62 => ?_) (fun cd62 => ?_)
                      · skip
                        clear pu60_1
                        clear pu60_2
                        clear pu60_3
                        replace pu60_4 := pu60_4 (by omega)
                        clear pu60_5
                        clear pu60_6
                        refine r_iconst C (oDec_at oX5_bookStatement 93 rfl) (v := k0) (by rw [qk0]; rfl) ?_
                        exact r_zret C (n_bool (by omega)) (oDec_at oX5_bookStatement 94 rfl) ⟨_, rfl, ⟨by omega, by omega, by first | (have hB := oqB_on (g := g) (a := a) (b := b) (R := R) (M := M) (N := N) (by omega) (by omega) (by omega); omega) | (have hV := oqV_1 (g := g) (p := 19) (q := 24) (w := oqBn g a b) (by omega); have hB := oqB_o (g := g) (a := a) (b := b) (R := R) (M := M) (N := N) (by omega) (by omega) (by omega); omega) | (have hV := oqV_1 (g := g) (p := 11) (q := 19) (w := oqBh g a b) (by omega); have hB := oqB_r (g := g) (a := a) (b := b) (R := R) (M := M) (N := N) (by omega) (by omega); omega) | (have hV := oqV_2 (g := g) (p := 19) (q := 24) (w := oqBn g a b) (by omega) pu60_4; have hk0 := oqFn_k pu60_4; have hB := oqB_o (g := g) (a := a) (b := b) (R := R) (M := M) (N := N) (by omega) (by omega) (by omega); omega) | (have hV := oqV_2 (g := g) (p := 11) (q := 19) (w := oqBh g a b) (by omega) pu60_4; have hk0 := oqFn_k pu60_4; have hB := oqB_r (g := g) (a := a) (b := b) (R := R) (M := M) (N := N) (by omega) (by omega); omega) | (have hV := oqV_3 (g := g) (p := 19) (q := 24) (w := oqBn g a b) (by omega) (by assumption) (by assumption) (by omega); have hB := oqB_o (g := g) (a := a) (b := b) (R := R) (M := M) (N := N) (by omega) (by omega) (by omega); omega) | (have hV := oqV_3 (g := g) (p := 11) (q := 19) (w := oqBh g a b) (by omega) (by assumption) (by assumption) (by omega); have hB := oqB_r (g := g) (a := a) (b := b) (R := R) (M := M) (N := N) (by omega) (by omega); omega), fun h => by exfalso; omega, fun h => by exfalso; omega, fun h => by exfalso; omega, fun h => by exfalso; omega, pu60_7, (oqRw_fr fu60 rfl (oqRw_fr fu52 rfl (oqRw_fr (oFr_oneI (q := 5) (m := 7) rfl (by rfl)) rfl (oqRw_fr (oFr_oneI (q := 5) (m := 6) rfl (by rfl)) rfl (oqRw_fr fu39 rfl (oqRw_fr fu2 rfl hp6))))))⟩⟩
                      · skip
                        replace pu60_1 := pu60_1 (by omega)
                        replace pu60_2 := pu60_2 (by omega)
                        replace pu60_3 := pu60_3 (by omega)
                        clear pu60_4
                        replace pu60_5 := pu60_5 (by omega)
                        replace pu60_6 := pu60_6 (by omega)
                        have hgX : g (oqSk g ((u60).1 30 2).toInt) = g ((u60).1 30 2).toInt := by rw [show oqSk g ((u60).1 30 2).toInt = ((u60).1 30 2).toInt by omega]
                        obtain ⟨w9, hgw9, hrl9⟩ := pu60_5
                        obtain ⟨L1, hL1⟩ : ∃ z, z = ((u60).1 bc 1).toInt := ⟨_, rfl⟩
                        obtain ⟨F1, hF1⟩ : ∃ z, z = (u60).1 (bc + 1) := ⟨_, rfl⟩
                        have hdl9 := pu60_6
                        rw [← hL1] at hdl9
                        rw [← hL1, ← hF1] at hrl9
                        have hw29 := pu60_2
                        refine r_ty C (fun hty8 => ?_)
                        have hL16 : L1 ≤ 1600 := by rw [hL1]; have h9 := hty8.1 bc 1; rw [hkb] at h9; exact h9.2
                        clear hty8
                        have hq63 : oqAn bc L1 F1 (u60) := ⟨hkb, hL1.symm, hF1.symm⟩
                        have hq64 : owCB bc R W (u60) := owCB_ts (owCB_fr fu52 rfl (owCB_fr (oFr_oneI (q := 5) (m := 7) rfl (by rfl)) rfl (owCB_fr (oFr_oneI (q := 5) (m := 6) rfl (by rfl)) rfl (owCB_fr fu39 rfl (owCB_fr fu2 rfl hp7))))) fu60 rfl (show oqAn bc L9 F9 (u52) from (oqAn_fr fu52 rfl (oqAn_fr (oFr_oneI (q := 5) (m := 7) rfl (by rfl)) rfl (oqAn_fr (oFr_oneI (q := 5) (m := 6) rfl (by rfl)) rfl (oqAn_fr fu39 rfl (oqAn_fr fu2 rfl hq1)))))) ⟨hkb, hL1.symm, hF1.symm⟩ hrl9
                        refine r_aload_n C (j := 0) (oDec_at oX5_bookStatement 89 rfl) rfl rfl ?_
                        refine r_bipush C (oDec_at oX5_bookStatement 90 rfl) (v := k59) (by rw [qk59]; rfl) ?_
                        refine r_callVi C oCl5 rfl miX5_expectSign mlX5_88 (ct4_X5_expectSign l E (u60) k59 (g) (((u60).1 30 2).toInt) (59) (by omega) (oqX_fr fu60 rfl (oqX_fr fu52 rfl (oqX_fr (oFr_oneI (q := 5) (m := 7) rfl (by rfl)) rfl (oqX_fr (oFr_oneI (q := 5) (m := 6) rfl (by rfl)) rfl (oqX_fr fu39 rfl (oqX_fr fu2 rfl hp2)))))) (by omega) (by omega)) (by decide) rfl rfl rfl (Nat.le_of_ble_eq_true rfl) (oDec_at oX5_bookStatement 91 rfl) (fun r66 u65 pu65 fu65 => ?_)
                        try dsimp only at pu65
                        obtain ⟨pu65_0, pu65_1, pu65_2⟩ := pu65
                        have rr66 := n_rng r66
                        refine r_if_ne C 184 (oDec_at oX5_bookStatement 92 rfl) (by decide) (fun cd67 => ?_) (fun cd67 => ?_)
                        · skip
                          replace pu65_1 := pu65_1 (by omega)
                          clear pu65_2
                          refine r_aload_n C (j := 0) (oDec_at oX5_bookStatement 95 rfl) rfl rfl ?_
                          refine r_getK (k := 1) (b := b26) C oCl5 rfl (by decide) flX5_19 rfl rfl (((fu65 30 1 rfl).2.2).trans (((fu60 30 1 rfl).2.2).trans (((fu52 30 1 rfl).2.2).trans ((show ((pI (pI u39 30 6 k11) 30 7 k19)).2.2 30 1 = b26 + 1 from (show ((pI u39 30 6 k11)).2.2 30 1 = b26 + 1 from ((fu39 30 1 rfl).2.2).trans (rb26))))))) (oDec_at oX5_bookStatement 96 rfl) ?_
                          refine r_iload_n C (j := 1) (oDec_at oX5_bookStatement 97 rfl) rfl rfl ?_
                          refine r_iconst C (oDec_at oX5_bookStatement 98 rfl) (v := k5) (by rw [qk5]; rfl) ?_
                          refine r_icmp_ne C 197 (oDec_at oX5_bookStatement 99 rfl) (by decide) (fun cd69 => ?_) (fun cd69 => ?_)
                          · skip
                            refine r_iconst C (oDec_at oX5_bookStatement 102 rfl) (v := k0) (by rw [qk0]; rfl) ?_
                            refine r_iload_n C (j := 2) (oDec_at oX5_bookStatement 103 rfl) rfl rfl ?_
                            refine r_ty C (fun hty8 => ?_)
                            have hM8 : 0 ≤ ((u65).1 bc 8).toInt := by have h9 := hty8.1 bc 8; rw [hkb] at h9; exact h9.1
                            clear hty8
                            have hkn := oqKx_ne (oqKx_fr fu65 rfl pu60_7) (((fu65 30 1 rfl).2.2).trans (((fu60 30 1 rfl).2.2).trans (((fu52 30 1 rfl).2.2).trans ((show ((pI (pI u39 30 6 k11) 30 7 k19)).2.2 30 1 = b26 + 1 from (show ((pI u39 30 6 k11)).2.2 30 1 = b26 + 1 from ((fu39 30 1 rfl).2.2).trans (rb26)))))))
                            have hb99 : b26 = bc := oqRw_eq (oqRw_fr fu65 rfl (oqRw_fr fu60 rfl (oqRw_fr fu52 rfl (oqRw_fr (oFr_oneI (q := 5) (m := 7) rfl (by rfl)) rfl (oqRw_fr (oFr_oneI (q := 5) (m := 6) rfl (by rfl)) rfl (oqRw_fr fu39 rfl (oqRw_fr fu2 rfl hp6))))))) (((fu65 30 1 rfl).2.2).trans (((fu60 30 1 rfl).2.2).trans (((fu52 30 1 rfl).2.2).trans ((show ((pI (pI u39 30 6 k11) 30 7 k19)).2.2 30 1 = b26 + 1 from (show ((pI u39 30 6 k11)).2.2 30 1 = b26 + 1 from ((fu39 30 1 rfl).2.2).trans (rb26)))))))
                            have lk70 : ((u65).1 b26 8).toInt = (s.1 b26 8).toInt := congrArg Int32.toInt (((fu65 b26 8 (by rw [hkb26]; rfl)).1).trans (((fu60 b26 8 (by rw [hkb26]; rfl)).1).trans (((fu52 b26 8 (by rw [hkb26]; rfl)).1).trans (((pI_ne _ _ (Or.inl (okd_ne hkb26 rfl (by decide))))).trans (((pI_ne _ _ (Or.inl (okd_ne hkb26 rfl (by decide))))).trans (((fu39 b26 8 (by rw [hkb26]; rfl)).1).trans ((fu2 b26 8 (by rw [hkb26]; rfl)).1)))))))
                            have lk71 : ((u65).1 b26 7).toInt = v27.toInt := congrArg Int32.toInt (((fu65 b26 7 (by rw [hkb26]; rfl)).1).trans (((fu60 b26 7 (by rw [hkb26]; rfl)).1).trans (((fu52 b26 7 (by rw [hkb26]; rfl)).1).trans (((pI_ne _ _ (Or.inl (okd_ne hkb26 rfl (by decide))))).trans (((pI_ne _ _ (Or.inl (okd_ne hkb26 rfl (by decide))))).trans (((fu39 b26 7 (by rw [hkb26]; rfl)).1).trans (ev27)))))))
                            have lk72 : ((u65).1 b26 8).toInt = (s.1 b26 8).toInt := congrArg Int32.toInt (((fu65 b26 8 (by rw [hkb26]; rfl)).1).trans (((fu60 b26 8 (by rw [hkb26]; rfl)).1).trans (((fu52 b26 8 (by rw [hkb26]; rfl)).1).trans (((pI_ne _ _ (Or.inl (okd_ne hkb26 rfl (by decide))))).trans (((pI_ne _ _ (Or.inl (okd_ne hkb26 rfl (by decide))))).trans (((fu39 b26 8 (by rw [hkb26]; rfl)).1).trans ((fu2 b26 8 (by rw [hkb26]; rfl)).1)))))))
                            have lk73 : ((u65).1 b26 7).toInt = v27.toInt := congrArg Int32.toInt (((fu65 b26 7 (by rw [hkb26]; rfl)).1).trans (((fu60 b26 7 (by rw [hkb26]; rfl)).1).trans (((fu52 b26 7 (by rw [hkb26]; rfl)).1).trans (((pI_ne _ _ (Or.inl (okd_ne hkb26 rfl (by decide))))).trans (((pI_ne _ _ (Or.inl (okd_ne hkb26 rfl (by decide))))).trans (((fu39 b26 7 (by rw [hkb26]; rfl)).1).trans (ev27)))))))
                            refine r_callVv C oCl0 hkb26 miX0_close mlX5_121 (ct9_X0_close l E (u65) b26 hkb26 k0 v43 (d) (G) (by omega) (by omega) (by omega) (by omega) (by omega) (oqKx_fr fu65 rfl pu60_7)) (by decide) rfl rfl rfl (Nat.le_of_ble_eq_true rfl) (oDec_at oX5_bookStatement 104 rfl) (fun u74 pu74 fu74 => ?_)
                            try dsimp only at pu74
                            try simp only [lk70, lk71, lk72, lk73] at pu74
                            obtain ⟨pu74_0, pu74_1, pu74_2, pu74_3⟩ := pu74
                            refine r_iconst C (oDec_at oX5_bookStatement 105 rfl) (v := k1) (by rw [qk1]; rfl) ?_
                            have lk76 : ((u74).1 30 2).toInt = (u65.1 30 2).toInt := congrArg Int32.toInt ((fu74 30 2 rfl).1)
                            have lk77 : ((u74).1 30 3).toInt = (u60.1 30 3).toInt := congrArg Int32.toInt (((fu74 30 3 rfl).1).trans ((fu65 30 3 rfl).1))
                            have lk78 : ((u74).1 30 5).toInt = (u60.1 30 5).toInt := congrArg Int32.toInt (((fu74 30 5 rfl).1).trans ((fu65 30 5 rfl).1))
                            have lk79 : ((u74).1 30 8).toInt = (u65.1 30 8).toInt := congrArg Int32.toInt ((fu74 30 8 rfl).1)
                            have lk80 : ((u74).1 30 9).toInt = (u65.1 30 9).toInt := congrArg Int32.toInt ((fu74 30 9 rfl).1)
                            have lk81 : ((u74).1 30 8).toInt = (u65.1 30 8).toInt := congrArg Int32.toInt ((fu74 30 8 rfl).1)
                            have lk82 : ((u74).1 30 9).toInt = (u65.1 30 9).toInt := congrArg Int32.toInt ((fu74 30 9 rfl).1)
                            have lk83 : ((u74).1 30 2).toInt = (u65.1 30 2).toInt := congrArg Int32.toInt ((fu74 30 2 rfl).1)
                            exact r_zret C (n_bool (by omega)) (oDec_at oX5_bookStatement 106 rfl) ⟨_, rfl, ⟨by omega, by first | (have hV := oqV_0 (g := g) (p := 19) (q := 24) (w := oqBn g a b) (by omega) pu60_1 pu60_2 (by omega); have hB := oqB_o (g := g) (a := a) (b := b) (R := R) (M := M) (N := N) (by omega) (by omega) (by omega); omega) | (have hV := oqV_0 (g := g) (p := 11) (q := 19) (w := oqBh g a b) (by omega) pu60_1 pu60_2 (by omega); have hB := oqB_r (g := g) (a := a) (b := b) (R := R) (M := M) (N := N) (by omega) (by omega); omega), fun h => by exfalso; omega, by first | (intro h; have hb := oqBs_4 (g := g) (a := a) (b := b) (R := R) (M := M) (N := N) (by omega); rw [hb.1, hb.2.1, hb.2.2]; exact oqNl_cl (oqNl_fr fu65 rfl (oqNl_fr fu60 rfl (oqNl_fr fu52 rfl (oqNl_fr (oFr_oneI (q := 5) (m := 7) rfl (by rfl)) rfl (oqNl_fr (oFr_oneI (q := 5) (m := 6) rfl (by rfl)) rfl (oqNl_fr fu39 rfl (oqNl_fr fu2 rfl hp3))))))) (((fu74 30 1 rfl).2.2).trans (((fu65 30 1 rfl).2.2).trans (((fu60 30 1 rfl).2.2).trans (((fu52 30 1 rfl).2.2).trans ((show ((pI (pI u39 30 6 k11) 30 7 k19)).2.2 30 1 = b26 + 1 from (show ((pI u39 30 6 k11)).2.2 30 1 = b26 + 1 from ((fu39 30 1 rfl).2.2).trans (rb26)))))))) fu74 rfl (by omega) (by omega) (by omega) rfl) | (intro h; have hb := oqBs_5 (g := g) (a := a) (b := b) (R := R) (M := M) (N := N) (by omega); rw [hb.1, hb.2.1, hb.2.2]; exact oqNl_cl (by assumption) (((fu74 30 1 rfl).2.2).trans (((fu65 30 1 rfl).2.2).trans (((fu60 30 1 rfl).2.2).trans (((fu52 30 1 rfl).2.2).trans ((show ((pI (pI u39 30 6 k11) 30 7 k19)).2.2 30 1 = b26 + 1 from (show ((pI u39 30 6 k11)).2.2 30 1 = b26 + 1 from ((fu39 30 1 rfl).2.2).trans (rb26)))))))) fu74 rfl (by omega) (by omega) (by omega) rfl), by first | (intro h; have hb := oqBs_4 (g := g) (a := a) (b := b) (R := R) (M := M) (N := N) (by omega); have hen8 := owEn_of hgw9 hw29; rw [hb.1, owWk_4 (by omega), owWt_e hen8]; exact owCB_c0 (owCB_fr fu65 rfl hq64) fu74 rfl (by have h9 := pu74_3; rw [hb99] at h9; exact h9) (by omega) (by have q := (show owCB bc R W (u65) from (owCB_fr fu65 rfl hq64)).2.2.1; rw [← hb99] at q ⊢; omega) (owEn_ty (by omega) hen8) (oqAn_fr fu65 rfl hq63) hrl9 (by omega) (by omega)) | (intro h; have hb := oqBs_5 (g := g) (a := a) (b := b) (R := R) (M := M) (N := N) (by omega); rw [hb.1, owWk_n (by omega)]; exact owCB_c1 (owCB_fr fu65 rfl hq64) fu74 rfl (by have h9 := pu74_3; rw [hb99] at h9; exact h9) (by omega) (by have q := (show owCB bc R W (u65) from (owCB_fr fu65 rfl hq64)).2.2.1; rw [← hb99] at q ⊢; omega) (by omega) hM8), by first | (intro h; rw [owMf_n (by omega)]; exact (owBM_fr fu74 rfl (owBM_fr fu65 rfl (owBM_fr fu60 rfl (owBM_fr fu52 rfl (owBM_fr (oFr_oneI (q := 5) (m := 7) rfl (by rfl)) rfl (owBM_fr (oFr_oneI (q := 5) (m := 6) rfl (by rfl)) rfl (owBM_fr fu39 rfl (owBM_fr fu2 rfl hp8))))))))), by intro h; have h9 := (show oqAn bc L1 F1 (u74) from (oqAn_fr fu74 rfl (oqAn_fr fu65 rfl hq63))).2.1; omega, pu74_2, (oqRw_fr fu74 rfl (oqRw_fr fu65 rfl (oqRw_fr fu60 rfl (oqRw_fr fu52 rfl (oqRw_fr (oFr_oneI (q := 5) (m := 7) rfl (by rfl)) rfl (oqRw_fr (oFr_oneI (q := 5) (m := 6) rfl (by rfl)) rfl (oqRw_fr fu39 rfl (oqRw_fr fu2 rfl hp6))))))))⟩⟩
                          · omega
                        · skip
                          clear pu65_1
                          replace pu65_2 := pu65_2 (by omega)
                          refine r_iconst C (oDec_at oX5_bookStatement 93 rfl) (v := k0) (by rw [qk0]; rfl) ?_
                          have lk84 : ((u65).1 30 3).toInt = (u60.1 30 3).toInt := congrArg Int32.toInt ((fu65 30 3 rfl).1)
                          have lk85 : ((u65).1 30 5).toInt = (u60.1 30 5).toInt := congrArg Int32.toInt ((fu65 30 5 rfl).1)
                          exact r_zret C (n_bool (by omega)) (oDec_at oX5_bookStatement 94 rfl) ⟨_, rfl, ⟨by omega, by omega, by first | (have hB := oqB_on (g := g) (a := a) (b := b) (R := R) (M := M) (N := N) (by omega) (by omega) (by omega); omega) | (have hV := oqV_1 (g := g) (p := 19) (q := 24) (w := oqBn g a b) (by omega); have hB := oqB_o (g := g) (a := a) (b := b) (R := R) (M := M) (N := N) (by omega) (by omega) (by omega); omega) | (have hV := oqV_1 (g := g) (p := 11) (q := 19) (w := oqBh g a b) (by omega); have hB := oqB_r (g := g) (a := a) (b := b) (R := R) (M := M) (N := N) (by omega) (by omega); omega) | (have hV := oqV_2 (g := g) (p := 19) (q := 24) (w := oqBn g a b) (by omega) pu65_4; have hk0 := oqFn_k pu65_4; have hB := oqB_o (g := g) (a := a) (b := b) (R := R) (M := M) (N := N) (by omega) (by omega) (by omega); omega) | (have hV := oqV_2 (g := g) (p := 11) (q := 19) (w := oqBh g a b) (by omega) pu65_4; have hk0 := oqFn_k pu65_4; have hB := oqB_r (g := g) (a := a) (b := b) (R := R) (M := M) (N := N) (by omega) (by omega); omega) | (have hV := oqV_3 (g := g) (p := 19) (q := 24) (w := oqBn g a b) (by omega) pu60_1 pu60_2 (by omega); have hB := oqB_o (g := g) (a := a) (b := b) (R := R) (M := M) (N := N) (by omega) (by omega) (by omega); omega) | (have hV := oqV_3 (g := g) (p := 11) (q := 19) (w := oqBh g a b) (by omega) pu60_1 pu60_2 (by omega); have hB := oqB_r (g := g) (a := a) (b := b) (R := R) (M := M) (N := N) (by omega) (by omega); omega), fun h => by exfalso; omega, fun h => by exfalso; omega, fun h => by exfalso; omega, fun h => by exfalso; omega, (oqKx_fr fu65 rfl pu60_7), (oqRw_fr fu65 rfl (oqRw_fr fu60 rfl (oqRw_fr fu52 rfl (oqRw_fr (oFr_oneI (q := 5) (m := 7) rfl (by rfl)) rfl (oqRw_fr (oFr_oneI (q := 5) (m := 6) rfl (by rfl)) rfl (oqRw_fr fu39 rfl (oqRw_fr fu2 rfl hp6)))))))⟩⟩
                  · omega
                · omega
              · omega
            · omega
          · omega
    · skip
      refine r_iload_n C (j := 1) (oDec_at oX5_bookStatement 9 rfl) rfl rfl ?_
      refine r_iconst C (oDec_at oX5_bookStatement 10 rfl) (v := k5) (by rw [qk5]; rfl) ?_
      refine r_icmp_eq C 30 (oDec_at oX5_bookStatement 11 rfl) (by decide) (fun cd86 => ?_) (fun cd86 => ?_)
      · skip
        refine r_iload_n C (j := 1) (oDec_at oX5_bookStatement 18 rfl) rfl rfl ?_
        refine r_iconst C (oDec_at oX5_bookStatement 19 rfl) (v := k4) (by rw [qk4]; rfl) ?_
        refine r_icmp_ne C 47 (oDec_at oX5_bookStatement 20 rfl) (by decide) (fun cd87 => ?_) (fun cd87 => ?_)
        · skip
          refine r_iload_n C (j := 1) (oDec_at oX5_bookStatement 26 rfl) rfl rfl ?_
          refine r_iconst C (oDec_at oX5_bookStatement 27 rfl) (v := k5) (by rw [qk5]; rfl) ?_
          refine r_icmp_ne C 74 (oDec_at oX5_bookStatement 28 rfl) (by decide) (fun cd88 => ?_) (fun cd88 => ?_)
          · omega
          · skip
            refine r_aload_n C (j := 0) (oDec_at oX5_bookStatement 29 rfl) rfl rfl ?_
            refine r_getS (k := 1) (q2 := 0) C oCl5 rfl (by decide) flX5_19 rfl rfl rfl ks1 (oDec_at oX5_bookStatement 30 rfl) (fun b89 rb89 mb89 hkb89 => ?_)
            have hnl := oqNl_at (oqNl_fr fu2 rfl hp3) (rb89)
            obtain ⟨hnl7, hnl8, hnl9⟩ := hnl
            clear hnl9
            have hnls := oqNl_at hp3 (((fu2 30 1 rfl).2.2).symm.trans (rb89))
            obtain ⟨hnls7, hnls8, hnls9⟩ := hnls
            clear hnls9
            obtain ⟨v90, ev90⟩ : ∃ z : Int32, (u2).1 b89 8 = z := ⟨_, rfl⟩
            have gv90 : (s.1 b89 8).toInt = v90.toInt := congrArg Int32.toInt (((fu2 b89 8 (by rw [hkb89]; rfl)).1).symm.trans ev90)
            have ggv90 : ((u2).1 b89 8).toInt = v90.toInt := congrArg Int32.toInt ev90
            refine r_getiN (k := 8) (lo := 0) (hi := 6) C v90 oCl0 hkb89 (by decide) flX5_97 rfl rfl (ev90) rfl rfl (oDec_at oX5_bookStatement 31 rfl) (fun b91 b91h => ?_)
            refine r_bipush C (oDec_at oX5_bookStatement 32 rfl) (v := k6) (by rw [qk6]; rfl) ?_
            refine r_icmp_lt C 74 (oDec_at oX5_bookStatement 33 rfl) (by decide) (fun cd92 => ?_) (fun cd92 => ?_)
            · skip
              refine r_aload_n C (j := 0) (oDec_at oX5_bookStatement 40 rfl) rfl rfl ?_
              refine r_callVv C oCl5 rfl miX5_passWord mlX5_100 (ct4_X5_passWord l E (u2)  ) (by decide) rfl rfl rfl (Nat.le_of_ble_eq_true rfl) (oDec_at oX5_bookStatement 41 rfl) (fun u93 pu93 fu93 => ?_)
              try dsimp only at pu93
              obtain ⟨pu93_0, pu93_1⟩ := pu93
              have hW3 := hW2 (by omega)
              have hBh := oqBh_w (g := g) (a := a) (b := b) (i := r3.toInt.toNat) (by omega)
              clear hW2
              refine r_iload_n C (j := 1) (oDec_at oX5_bookStatement 42 rfl) rfl rfl ?_
              refine r_iconst C (oDec_at oX5_bookStatement 43 rfl) (v := k3) (by rw [qk3]; rfl) ?_
              refine r_icmp_ne C 105 (oDec_at oX5_bookStatement 44 rfl) (by decide) (fun cd95 => ?_) (fun cd95 => ?_)
              · skip
                have hBs : (oqWi g a b = 4 ∨ oqWi g a b = 5) := by omega
                refine r_aload_n C (j := 0) (oDec_at oX5_bookStatement 56 rfl) rfl rfl ?_
                refine r_getK (k := 1) (b := b89) C oCl5 rfl (by decide) flX5_19 rfl rfl (((fu93 30 1 rfl).2.2).trans (rb89)) (oDec_at oX5_bookStatement 57 rfl) ?_
                have hnl := oqNl_at (oqNl_fr fu93 rfl (oqNl_fr fu2 rfl hp3)) (((fu93 30 1 rfl).2.2).trans (rb89))
                obtain ⟨hnl7, hnl8, hnl9⟩ := hnl
                clear hnl9
                have hbk9 : b89 = bc := oqRw_eq (oqRw_fr fu93 rfl (oqRw_fr fu2 rfl hp6)) (((fu93 30 1 rfl).2.2).trans (rb89))
                obtain ⟨v97, ev97⟩ : ∃ z : Int32, (u93).1 b89 1 = z := ⟨_, rfl⟩
                have gv97 : (s.1 b89 1).toInt = v97.toInt := congrArg Int32.toInt ((((fu93 b89 1 (by rw [hkb89]; rfl)).1).trans ((fu2 b89 1 (by rw [hkb89]; rfl)).1)).symm.trans ev97)
                have ggv97 : ((u93).1 b89 1).toInt = v97.toInt := congrArg Int32.toInt ev97
                refine r_getiN (k := 1) (lo := 0) (hi := 1600) C v97 oCl0 hkb89 (by decide) flX5_106 rfl rfl (ev97) rfl rfl (oDec_at oX5_bookStatement 58 rfl) (fun b98 b98h => ?_)
                have hln9 : v97.toInt = L9 := by rw [← ev97, hbk9]; exact (show oqAn bc L9 F9 (u93) from (oqAn_fr fu93 rfl (oqAn_fr fu2 rfl hq1))).2.1
                refine r_istore_n C (lv' := [(0, .ref (oad E 30)), (1, .int r3), (2, .int v97)]) [1, 2, 0] (oDec_at oX5_bookStatement 59 rfl) rfl (by decide) rfl ?_
                refine r_aload_n C (j := 0) (oDec_at oX5_bookStatement 60 rfl) rfl rfl ?_
                refine r_iload_n C (j := 1) (oDec_at oX5_bookStatement 61 rfl) rfl rfl ?_
                refine r_iconst C (oDec_at oX5_bookStatement 62 rfl) (v := k5) (by rw [qk5]; rfl) ?_
                refine r_pc C 116 rfl ?_
                refine r_icmp_ne C 124 (oDec_at oX5_bookStatement 63 rfl) (by decide) (fun cd99 => ?_) (fun cd99 => ?_)
                · omega
                · skip
                  refine r_bipush C (oDec_at oX5_bookStatement 64 rfl) (v := k19) (by rw [qk19]; rfl) ?_
                  refine r_goto C (tgt := 126) (oDec_at oX5_bookStatement 65 rfl) (by decide) ?_
                  refine r_puti (k := 6) (lo := (-2147483648)) (hi := 2147483647) C oCl5 rfl (by decide) flX5_109 rfl rfl rfl rfl rfl rfl rfl rfl (n_rng _) (oDec_at oX5_bookStatement 67 rfl) ?_
                  refine r_aload_n C (j := 0) (oDec_at oX5_bookStatement 68 rfl) rfl rfl ?_
                  refine r_iload_n C (j := 1) (oDec_at oX5_bookStatement 69 rfl) rfl rfl ?_
                  refine r_iconst C (oDec_at oX5_bookStatement 70 rfl) (v := k5) (by rw [qk5]; rfl) ?_
                  refine r_icmp_ne C 140 (oDec_at oX5_bookStatement 71 rfl) (by decide) (fun cd100 => ?_) (fun cd100 => ?_)
                  · omega
                  · skip
                    refine r_bipush C (oDec_at oX5_bookStatement 72 rfl) (v := k24) (by rw [qk24]; rfl) ?_
                    refine r_goto C (tgt := 142) (oDec_at oX5_bookStatement 73 rfl) (by decide) ?_
                    refine r_puti (k := 7) (lo := (-2147483648)) (hi := 2147483647) C oCl5 rfl (by decide) flX5_112 rfl rfl rfl rfl rfl rfl rfl rfl (n_rng _) (oDec_at oX5_bookStatement 75 rfl) ?_
                    refine r_iload_n C (j := 1) (oDec_at oX5_bookStatement 76 rfl) rfl rfl ?_
                    refine r_iconst C (oDec_at oX5_bookStatement 77 rfl) (v := k5) (by rw [qk5]; rfl) ?_
                    refine r_icmp_ne C 157 (oDec_at oX5_bookStatement 78 rfl) (by decide) (fun cd101 => ?_) (fun cd101 => ?_)
                    · omega
                    · skip
                      have hBn : oqBn g a b = oqWe g (oqSk g (oqBh g a b)) := rfl
                      have hnl5 := oqBh_nl (g := g) (a := a) (b := b) (i := 5) (by decide) (by omega)
                      refine r_aload_n C (j := 0) (oDec_at oX5_bookStatement 79 rfl) rfl rfl ?_
                      have lk102 : (((pI (pI u93 30 6 k19) 30 7 k24)).1 30 2).toInt = (u93.1 30 2).toInt := congrArg Int32.toInt (((pI_ne (a := 30) (b := 2) (c := 30) (k := 7) _ _ (Or.inr (by decide)))).trans ((pI_ne (a := 30) (b := 2) (c := 30) (k := 6) _ _ (Or.inr (by decide)))))
                      have lk103 : (((pI (pI u93 30 6 k19) 30 7 k24)).1 30 3).toInt = (u93.1 30 3).toInt := congrArg Int32.toInt (((pI_ne (a := 30) (b := 3) (c := 30) (k := 7) _ _ (Or.inr (by decide)))).trans ((pI_ne (a := 30) (b := 3) (c := 30) (k := 6) _ _ (Or.inr (by decide)))))
                      have lk104 : (((pI (pI u93 30 6 k19) 30 7 k24)).1 30 8).toInt = (s.1 30 8).toInt := congrArg Int32.toInt (((pI_ne (a := 30) (b := 8) (c := 30) (k := 7) _ _ (Or.inr (by decide)))).trans (((pI_ne (a := 30) (b := 8) (c := 30) (k := 6) _ _ (Or.inr (by decide)))).trans (((fu93 30 8 rfl).1).trans ((fu2 30 8 rfl).1))))
                      have lk105 : (((pI (pI u93 30 6 k19) 30 7 k24)).1 30 9).toInt = (s.1 30 9).toInt := congrArg Int32.toInt (((pI_ne (a := 30) (b := 9) (c := 30) (k := 7) _ _ (Or.inr (by decide)))).trans (((pI_ne (a := 30) (b := 9) (c := 30) (k := 6) _ _ (Or.inr (by decide)))).trans (((fu93 30 9 rfl).1).trans ((fu2 30 9 rfl).1))))
                      refine r_callVi C oCl5 rfl miX5_name mlX5_115 (ct9_X5_name l E ((pI (pI u93 30 6 k19) 30 7 k24))  (g) (oqBh g a b) (N) (R) (M) (d) (G) (by omega) (by omega) (oqX_fr (oFr_oneI (q := 5) (m := 7) rfl (by rfl)) rfl (oqX_fr (oFr_oneI (q := 5) (m := 6) rfl (by rfl)) rfl (oqX_fr fu93 rfl (oqX_fr fu2 rfl hp2)))) (oqNl_fr (oFr_oneI (q := 5) (m := 7) rfl (by rfl)) rfl (oqNl_fr (oFr_oneI (q := 5) (m := 6) rfl (by rfl)) rfl (oqNl_fr fu93 rfl (oqNl_fr fu2 rfl hp3)))) (by omega) (by omega) (oqKx_fr (oFr_oneI (q := 5) (m := 7) rfl (by rfl)) rfl (oqKx_fr (oFr_oneI (q := 5) (m := 6) rfl (by rfl)) rfl (oqKx_fr fu93 rfl (oqKx_fr fu2 rfl hp9))))) (by decide) rfl rfl rfl (Nat.le_of_ble_eq_true rfl) (oDec_at oX5_bookStatement 80 rfl) (fun r107 u106 pu106 fu106 => ?_)
                      try dsimp only at pu106
                      try simp only [lk102, lk103, lk104, lk105] at pu106
                      obtain ⟨pu106_0, pu106_1, pu106_2, pu106_3, pu106_4⟩ := pu106
                      have rr107 := n_rng r107
                      refine r_if_eq C 182 (oDec_at oX5_bookStatement 81 rfl) (by decide) (fun cd108 => ?_) (fun cd108 => ?_)
                      · skip
                        clear pu106_1
                        replace pu106_2 := pu106_2 (by omega)
                        clear pu106_3
                        refine r_iconst C (oDec_at oX5_bookStatement 93 rfl) (v := k0) (by rw [qk0]; rfl) ?_
                        have lk109 : ((u106).1 30 5).toInt = (s.1 30 5).toInt := congrArg Int32.toInt (((fu106 30 5 rfl).1).trans (((pI_ne (a := 30) (b := 5) (c := 30) (k := 7) _ _ (Or.inr (by decide)))).trans (((pI_ne (a := 30) (b := 5) (c := 30) (k := 6) _ _ (Or.inr (by decide)))).trans (((fu93 30 5 rfl).1).trans ((fu2 30 5 rfl).1)))))
                        exact r_zret C (n_bool (by omega)) (oDec_at oX5_bookStatement 94 rfl) ⟨_, rfl, ⟨by omega, by omega, by first | (have hB := oqB_on (g := g) (a := a) (b := b) (R := R) (M := M) (N := N) (by omega) (by omega) (by omega); omega) | (have hV := oqV_1 (g := g) (p := 19) (q := 24) (w := oqBn g a b) (by omega); have hB := oqB_o (g := g) (a := a) (b := b) (R := R) (M := M) (N := N) (by omega) (by omega) (by omega); omega) | (have hV := oqV_1 (g := g) (p := 11) (q := 19) (w := oqBh g a b) (by omega); have hB := oqB_r (g := g) (a := a) (b := b) (R := R) (M := M) (N := N) (by omega) (by omega); omega) | (have hV := oqV_2 (g := g) (p := 19) (q := 24) (w := oqBn g a b) (by omega) pu106_4; have hk0 := oqFn_k pu106_4; have hB := oqB_o (g := g) (a := a) (b := b) (R := R) (M := M) (N := N) (by omega) (by omega) (by omega); omega) | (have hV := oqV_2 (g := g) (p := 11) (q := 19) (w := oqBh g a b) (by omega) pu106_4; have hk0 := oqFn_k pu106_4; have hB := oqB_r (g := g) (a := a) (b := b) (R := R) (M := M) (N := N) (by omega) (by omega); omega) | (have hV := oqV_3 (g := g) (p := 19) (q := 24) (w := oqBn g a b) (by omega) (by assumption) (by assumption) (by omega); have hB := oqB_o (g := g) (a := a) (b := b) (R := R) (M := M) (N := N) (by omega) (by omega) (by omega); omega) | (have hV := oqV_3 (g := g) (p := 11) (q := 19) (w := oqBh g a b) (by omega) (by assumption) (by assumption) (by omega); have hB := oqB_r (g := g) (a := a) (b := b) (R := R) (M := M) (N := N) (by omega) (by omega); omega), fun h => by exfalso; omega, fun h => by exfalso; omega, fun h => by exfalso; omega, fun h => by exfalso; omega, pu106_4, (oqRw_fr fu106 rfl (oqRw_fr (oFr_oneI (q := 5) (m := 7) rfl (by rfl)) rfl (oqRw_fr (oFr_oneI (q := 5) (m := 6) rfl (by rfl)) rfl (oqRw_fr fu93 rfl (oqRw_fr fu2 rfl hp6)))))⟩⟩
                      · skip
                        replace pu106_1 := pu106_1 (by omega)
                        clear pu106_2
                        replace pu106_3 := pu106_3 (by omega)
                        have hq110 : oqNl (oqNx N M (oqN6 g (oqSk g (oqBh g a b)))) R M (M + 1) (u106) := pu106_3
                        refine r_aload_n C (j := 0) (oDec_at oX5_bookStatement 82 rfl) rfl rfl ?_
                        refine r_bipush C (oDec_at oX5_bookStatement 83 rfl) (v := k6) (by rw [qk6]; rfl) ?_
                        refine r_callVi C oCl5 rfl miX5_expect mlX5_74 (ct4_X5_expect l E (u106) k6 (g) (oqBn g a b) (oqBn g a b) (6) (by omega) (by omega) (oqX_fr fu106 rfl (oqX_fr (oFr_oneI (q := 5) (m := 7) rfl (by rfl)) rfl (oqX_fr (oFr_oneI (q := 5) (m := 6) rfl (by rfl)) rfl (oqX_fr fu93 rfl (oqX_fr fu2 rfl hp2))))) (by omega) (by omega)) (by decide) rfl rfl rfl (Nat.le_of_ble_eq_true rfl) (oDec_at oX5_bookStatement 84 rfl) (fun r112 u111 pu111 fu111 => ?_)
                        try dsimp only at pu111
                        obtain ⟨pu111_0, pu111_1, pu111_2⟩ := pu111
                        have rr112 := n_rng r112
                        refine r_if_eq C 182 (oDec_at oX5_bookStatement 85 rfl) (by decide) (fun cd113 => ?_) (fun cd113 => ?_)
                        · skip
                          clear pu111_1
                          replace pu111_2 := pu111_2 (by omega)
                          refine r_iconst C (oDec_at oX5_bookStatement 93 rfl) (v := k0) (by rw [qk0]; rfl) ?_
                          have lk114 : ((u111).1 30 5).toInt = (s.1 30 5).toInt := congrArg Int32.toInt (((fu111 30 5 rfl).1).trans (((fu106 30 5 rfl).1).trans (((pI_ne (a := 30) (b := 5) (c := 30) (k := 7) _ _ (Or.inr (by decide)))).trans (((pI_ne (a := 30) (b := 5) (c := 30) (k := 6) _ _ (Or.inr (by decide)))).trans (((fu93 30 5 rfl).1).trans ((fu2 30 5 rfl).1))))))
                          exact r_zret C (n_bool (by omega)) (oDec_at oX5_bookStatement 94 rfl) ⟨_, rfl, ⟨by omega, by omega, by first | (have hB := oqB_on (g := g) (a := a) (b := b) (R := R) (M := M) (N := N) (by omega) (by omega) (by omega); omega) | (have hV := oqV_1 (g := g) (p := 19) (q := 24) (w := oqBn g a b) (by omega); have hB := oqB_o (g := g) (a := a) (b := b) (R := R) (M := M) (N := N) (by omega) (by omega) (by omega); omega) | (have hV := oqV_1 (g := g) (p := 11) (q := 19) (w := oqBh g a b) (by omega); have hB := oqB_r (g := g) (a := a) (b := b) (R := R) (M := M) (N := N) (by omega) (by omega); omega) | (have hV := oqV_2 (g := g) (p := 19) (q := 24) (w := oqBn g a b) (by omega) pu111_4; have hk0 := oqFn_k pu111_4; have hB := oqB_o (g := g) (a := a) (b := b) (R := R) (M := M) (N := N) (by omega) (by omega) (by omega); omega) | (have hV := oqV_2 (g := g) (p := 11) (q := 19) (w := oqBh g a b) (by omega) pu111_4; have hk0 := oqFn_k pu111_4; have hB := oqB_r (g := g) (a := a) (b := b) (R := R) (M := M) (N := N) (by omega) (by omega); omega) | (have hV := oqV_3 (g := g) (p := 19) (q := 24) (w := oqBn g a b) (by omega) (by assumption) (by assumption) (by omega); have hB := oqB_o (g := g) (a := a) (b := b) (R := R) (M := M) (N := N) (by omega) (by omega) (by omega); omega) | (have hV := oqV_3 (g := g) (p := 11) (q := 19) (w := oqBh g a b) (by omega) (by assumption) (by assumption) (by omega); have hB := oqB_r (g := g) (a := a) (b := b) (R := R) (M := M) (N := N) (by omega) (by omega); omega), fun h => by exfalso; omega, fun h => by exfalso; omega, fun h => by exfalso; omega, fun h => by exfalso; omega, (oqKx_fr fu111 rfl pu106_4), (oqRw_fr fu111 rfl (oqRw_fr fu106 rfl (oqRw_fr (oFr_oneI (q := 5) (m := 7) rfl (by rfl)) rfl (oqRw_fr (oFr_oneI (q := 5) (m := 6) rfl (by rfl)) rfl (oqRw_fr fu93 rfl (oqRw_fr fu2 rfl hp6))))))⟩⟩
                        · skip
                          replace pu111_1 := pu111_1 (by omega)
                          clear pu111_2
                          have hge2 := oqSk_ge g (oqBn g a b)
                          have hH6 : oqHa g (oqBn g a b) 6 = oqSk g (oqBn g a b) + (oqWl 6 : Int) := rfl
                          have hl6 : oqWl 6 = 4 := rfl
                          have hge3 := oqSk_ge g (oqBh g a b)
                          have hge4 := oqWe_ge (g := g) (a := oqSk g (oqBh g a b))
                          refine r_aload_n C (j := 0) (oDec_at oX5_bookStatement 86 rfl) rfl rfl ?_
                          have lk115 : ((u111).1 30 5).toInt = (s.1 30 5).toInt := congrArg Int32.toInt (((fu111 30 5 rfl).1).trans (((fu106 30 5 rfl).1).trans (((pI_ne (a := 30) (b := 5) (c := 30) (k := 7) _ _ (Or.inr (by decide)))).trans (((pI_ne (a := 30) (b := 5) (c := 30) (k := 6) _ _ (Or.inr (by decide)))).trans (((fu93 30 5 rfl).1).trans ((fu2 30 5 rfl).1))))))
                          have lk116 : ((u111).1 30 6).toInt = k19.toInt := congrArg Int32.toInt (((fu111 30 6 rfl).1).trans (((fu106 30 6 rfl).1).trans (((pI_ne (a := 30) (b := 6) (c := 30) (k := 7) _ _ (Or.inr (by decide)))).trans ((pI_self _ _ _ _)))))
                          have lk117 : ((u111).1 30 7).toInt = k24.toInt := congrArg Int32.toInt (((fu111 30 7 rfl).1).trans (((fu106 30 7 rfl).1).trans ((pI_self _ _ _ _))))
                          have lk118 : ((u111).1 30 5).toInt = (s.1 30 5).toInt := congrArg Int32.toInt (((fu111 30 5 rfl).1).trans (((fu106 30 5 rfl).1).trans (((pI_ne (a := 30) (b := 5) (c := 30) (k := 7) _ _ (Or.inr (by decide)))).trans (((pI_ne (a := 30) (b := 5) (c := 30) (k := 6) _ _ (Or.inr (by decide)))).trans (((fu93 30 5 rfl).1).trans ((fu2 30 5 rfl).1))))))
                          refine r_callVi C oCl5 rfl miX5_test mlX5_118 (ct9_X5_test l E (u111)  (g) (19) (24) (oqHa g (oqBn g a b) 6) (oqHa g (oqBn g a b) 6) (0) (bc) (L9) (F9) (d) (G) (by omega) (by omega) (oqX_fr fu111 rfl (oqX_fr fu106 rfl (oqX_fr (oFr_oneI (q := 5) (m := 7) rfl (by rfl)) rfl (oqX_fr (oFr_oneI (q := 5) (m := 6) rfl (by rfl)) rfl (oqX_fr fu93 rfl (oqX_fr fu2 rfl hp2)))))) (by omega) (by omega) (by omega) (by omega) (oqRw_fr fu111 rfl (oqRw_fr fu106 rfl (oqRw_fr (oFr_oneI (q := 5) (m := 7) rfl (by rfl)) rfl (oqRw_fr (oFr_oneI (q := 5) (m := 6) rfl (by rfl)) rfl (oqRw_fr fu93 rfl (oqRw_fr fu2 rfl hp6)))))) (oqAn_fr fu111 rfl (oqAn_fr fu106 rfl (oqAn_fr (oFr_oneI (q := 5) (m := 7) rfl (by rfl)) rfl (oqAn_fr (oFr_oneI (q := 5) (m := 6) rfl (by rfl)) rfl (oqAn_fr fu93 rfl (oqAn_fr fu2 rfl hq1)))))) (by omega) (oqKx_fr fu111 rfl pu106_4)) (by decide) rfl rfl rfl (Nat.le_of_ble_eq_true rfl) (oDec_at oX5_bookStatement 87 rfl) (fun r120 u119 pu119 fu119 => ?_)
                          try dsimp only at pu119
                          try simp only [lk115, lk116, lk117, lk118] at pu119
                          obtain ⟨pu119_0, pu119_1, pu119_2, pu119_3, pu119_4, pu119_5, pu119_6, pu119_7⟩ := pu119
                          have rr120 := n_rng r120
                          refine r_if_eq C 182 (oDec_at oX5_bookStatement 88 rfl) (by decide) (fun cd121 => ?_) (fun cd121 => ?_)
                          · skip
                            clear pu119_1
                            clear pu119_2
                            clear pu119_3
                            replace pu119_4 := pu119_4 (by omega)
                            clear pu119_5
                            clear pu119_6
                            refine r_iconst C (oDec_at oX5_bookStatement 93 rfl) (v := k0) (by rw [qk0]; rfl) ?_
                            exact r_zret C (n_bool (by omega)) (oDec_at oX5_bookStatement 94 rfl) ⟨_, rfl, ⟨by omega, by omega, by first | (have hB := oqB_on (g := g) (a := a) (b := b) (R := R) (M := M) (N := N) (by omega) (by omega) (by omega); omega) | (have hV := oqV_1 (g := g) (p := 19) (q := 24) (w := oqBn g a b) (by omega); have hB := oqB_o (g := g) (a := a) (b := b) (R := R) (M := M) (N := N) (by omega) (by omega) (by omega); omega) | (have hV := oqV_1 (g := g) (p := 11) (q := 19) (w := oqBh g a b) (by omega); have hB := oqB_r (g := g) (a := a) (b := b) (R := R) (M := M) (N := N) (by omega) (by omega); omega) | (have hV := oqV_2 (g := g) (p := 19) (q := 24) (w := oqBn g a b) (by omega) pu119_4; have hk0 := oqFn_k pu119_4; have hB := oqB_o (g := g) (a := a) (b := b) (R := R) (M := M) (N := N) (by omega) (by omega) (by omega); omega) | (have hV := oqV_2 (g := g) (p := 11) (q := 19) (w := oqBh g a b) (by omega) pu119_4; have hk0 := oqFn_k pu119_4; have hB := oqB_r (g := g) (a := a) (b := b) (R := R) (M := M) (N := N) (by omega) (by omega); omega) | (have hV := oqV_3 (g := g) (p := 19) (q := 24) (w := oqBn g a b) (by omega) (by assumption) (by assumption) (by omega); have hB := oqB_o (g := g) (a := a) (b := b) (R := R) (M := M) (N := N) (by omega) (by omega) (by omega); omega) | (have hV := oqV_3 (g := g) (p := 11) (q := 19) (w := oqBh g a b) (by omega) (by assumption) (by assumption) (by omega); have hB := oqB_r (g := g) (a := a) (b := b) (R := R) (M := M) (N := N) (by omega) (by omega); omega), fun h => by exfalso; omega, fun h => by exfalso; omega, fun h => by exfalso; omega, fun h => by exfalso; omega, pu119_7, (oqRw_fr fu119 rfl (oqRw_fr fu111 rfl (oqRw_fr fu106 rfl (oqRw_fr (oFr_oneI (q := 5) (m := 7) rfl (by rfl)) rfl (oqRw_fr (oFr_oneI (q := 5) (m := 6) rfl (by rfl)) rfl (oqRw_fr fu93 rfl (oqRw_fr fu2 rfl hp6)))))))⟩⟩
                          · skip
                            replace pu119_1 := pu119_1 (by omega)
                            replace pu119_2 := pu119_2 (by omega)
                            replace pu119_3 := pu119_3 (by omega)
                            clear pu119_4
                            replace pu119_5 := pu119_5 (by omega)
                            replace pu119_6 := pu119_6 (by omega)
                            have hgX : g (oqSk g ((u119).1 30 2).toInt) = g ((u119).1 30 2).toInt := by rw [show oqSk g ((u119).1 30 2).toInt = ((u119).1 30 2).toInt by omega]
                            obtain ⟨w9, hgw9, hrl9⟩ := pu119_5
                            obtain ⟨L1, hL1⟩ : ∃ z, z = ((u119).1 bc 1).toInt := ⟨_, rfl⟩
                            obtain ⟨F1, hF1⟩ : ∃ z, z = (u119).1 (bc + 1) := ⟨_, rfl⟩
                            have hdl9 := pu119_6
                            rw [← hL1] at hdl9
                            rw [← hL1, ← hF1] at hrl9
                            have hw29 := pu119_2
                            refine r_ty C (fun hty8 => ?_)
                            have hL16 : L1 ≤ 1600 := by rw [hL1]; have h9 := hty8.1 bc 1; rw [hkb] at h9; exact h9.2
                            clear hty8
                            have hq122 : oqAn bc L1 F1 (u119) := ⟨hkb, hL1.symm, hF1.symm⟩
                            have hq123 : owCB bc R W (u119) := owCB_ts (owCB_fr fu111 rfl (owCB_fr fu106 rfl (owCB_fr (oFr_oneI (q := 5) (m := 7) rfl (by rfl)) rfl (owCB_fr (oFr_oneI (q := 5) (m := 6) rfl (by rfl)) rfl (owCB_fr fu93 rfl (owCB_fr fu2 rfl hp7)))))) fu119 rfl (show oqAn bc L9 F9 (u111) from (oqAn_fr fu111 rfl (oqAn_fr fu106 rfl (oqAn_fr (oFr_oneI (q := 5) (m := 7) rfl (by rfl)) rfl (oqAn_fr (oFr_oneI (q := 5) (m := 6) rfl (by rfl)) rfl (oqAn_fr fu93 rfl (oqAn_fr fu2 rfl hq1))))))) ⟨hkb, hL1.symm, hF1.symm⟩ hrl9
                            refine r_aload_n C (j := 0) (oDec_at oX5_bookStatement 89 rfl) rfl rfl ?_
                            refine r_bipush C (oDec_at oX5_bookStatement 90 rfl) (v := k59) (by rw [qk59]; rfl) ?_
                            refine r_callVi C oCl5 rfl miX5_expectSign mlX5_88 (ct4_X5_expectSign l E (u119) k59 (g) (((u119).1 30 2).toInt) (59) (by omega) (oqX_fr fu119 rfl (oqX_fr fu111 rfl (oqX_fr fu106 rfl (oqX_fr (oFr_oneI (q := 5) (m := 7) rfl (by rfl)) rfl (oqX_fr (oFr_oneI (q := 5) (m := 6) rfl (by rfl)) rfl (oqX_fr fu93 rfl (oqX_fr fu2 rfl hp2))))))) (by omega) (by omega)) (by decide) rfl rfl rfl (Nat.le_of_ble_eq_true rfl) (oDec_at oX5_bookStatement 91 rfl) (fun r125 u124 pu124 fu124 => ?_)
                            try dsimp only at pu124
                            obtain ⟨pu124_0, pu124_1, pu124_2⟩ := pu124
                            have rr125 := n_rng r125
                            refine r_if_ne C 184 (oDec_at oX5_bookStatement 92 rfl) (by decide) (fun cd126 => ?_) (fun cd126 => ?_)
                            · skip
                              replace pu124_1 := pu124_1 (by omega)
                              clear pu124_2
                              refine r_aload_n C (j := 0) (oDec_at oX5_bookStatement 95 rfl) rfl rfl ?_
                              refine r_getK (k := 1) (b := b89) C oCl5 rfl (by decide) flX5_19 rfl rfl (((fu124 30 1 rfl).2.2).trans (((fu119 30 1 rfl).2.2).trans (((fu111 30 1 rfl).2.2).trans (((fu106 30 1 rfl).2.2).trans ((show ((pI (pI u93 30 6 k19) 30 7 k24)).2.2 30 1 = b89 + 1 from (show ((pI u93 30 6 k19)).2.2 30 1 = b89 + 1 from ((fu93 30 1 rfl).2.2).trans (rb89)))))))) (oDec_at oX5_bookStatement 96 rfl) ?_
                              refine r_iload_n C (j := 1) (oDec_at oX5_bookStatement 97 rfl) rfl rfl ?_
                              refine r_iconst C (oDec_at oX5_bookStatement 98 rfl) (v := k5) (by rw [qk5]; rfl) ?_
                              refine r_icmp_ne C 197 (oDec_at oX5_bookStatement 99 rfl) (by decide) (fun cd128 => ?_) (fun cd128 => ?_)
                              · omega
                              · skip
                                refine r_iconst C (oDec_at oX5_bookStatement 100 rfl) (v := k1) (by rw [qk1]; rfl) ?_
                                refine r_goto C (tgt := 198) (oDec_at oX5_bookStatement 101 rfl) (by decide) ?_
                                refine r_iload_n C (j := 2) (oDec_at oX5_bookStatement 103 rfl) rfl rfl ?_
                                refine r_ty C (fun hty8 => ?_)
                                have hM8 : 0 ≤ ((u124).1 bc 8).toInt := by have h9 := hty8.1 bc 8; rw [hkb] at h9; exact h9.1
                                clear hty8
                                have hkn := oqKx_ne (oqKx_fr fu124 rfl pu119_7) (((fu124 30 1 rfl).2.2).trans (((fu119 30 1 rfl).2.2).trans (((fu111 30 1 rfl).2.2).trans (((fu106 30 1 rfl).2.2).trans ((show ((pI (pI u93 30 6 k19) 30 7 k24)).2.2 30 1 = b89 + 1 from (show ((pI u93 30 6 k19)).2.2 30 1 = b89 + 1 from ((fu93 30 1 rfl).2.2).trans (rb89))))))))
                                have hb99 : b89 = bc := oqRw_eq (oqRw_fr fu124 rfl (oqRw_fr fu119 rfl (oqRw_fr fu111 rfl (oqRw_fr fu106 rfl (oqRw_fr (oFr_oneI (q := 5) (m := 7) rfl (by rfl)) rfl (oqRw_fr (oFr_oneI (q := 5) (m := 6) rfl (by rfl)) rfl (oqRw_fr fu93 rfl (oqRw_fr fu2 rfl hp6)))))))) (((fu124 30 1 rfl).2.2).trans (((fu119 30 1 rfl).2.2).trans (((fu111 30 1 rfl).2.2).trans (((fu106 30 1 rfl).2.2).trans ((show ((pI (pI u93 30 6 k19) 30 7 k24)).2.2 30 1 = b89 + 1 from (show ((pI u93 30 6 k19)).2.2 30 1 = b89 + 1 from ((fu93 30 1 rfl).2.2).trans (rb89))))))))
                                have lk129 : ((u124).1 b89 8).toInt = v90.toInt := congrArg Int32.toInt (((fu124 b89 8 (by rw [hkb89]; rfl)).1).trans (((fu119 b89 8 (by rw [hkb89]; rfl)).1).trans (((fu111 b89 8 (by rw [hkb89]; rfl)).1).trans (((fu106 b89 8 (by rw [hkb89]; rfl)).1).trans (((pI_ne _ _ (Or.inl (okd_ne hkb89 rfl (by decide))))).trans (((pI_ne _ _ (Or.inl (okd_ne hkb89 rfl (by decide))))).trans (((fu93 b89 8 (by rw [hkb89]; rfl)).1).trans (ev90))))))))
                                have lk130 : ((u124).1 b89 7).toInt = (s.1 b89 7).toInt := congrArg Int32.toInt (((fu124 b89 7 (by rw [hkb89]; rfl)).1).trans (((fu119 b89 7 (by rw [hkb89]; rfl)).1).trans (((fu111 b89 7 (by rw [hkb89]; rfl)).1).trans (((fu106 b89 7 (by rw [hkb89]; rfl)).1).trans (((pI_ne _ _ (Or.inl (okd_ne hkb89 rfl (by decide))))).trans (((pI_ne _ _ (Or.inl (okd_ne hkb89 rfl (by decide))))).trans (((fu93 b89 7 (by rw [hkb89]; rfl)).1).trans ((fu2 b89 7 (by rw [hkb89]; rfl)).1))))))))
                                have lk131 : ((u124).1 b89 8).toInt = v90.toInt := congrArg Int32.toInt (((fu124 b89 8 (by rw [hkb89]; rfl)).1).trans (((fu119 b89 8 (by rw [hkb89]; rfl)).1).trans (((fu111 b89 8 (by rw [hkb89]; rfl)).1).trans (((fu106 b89 8 (by rw [hkb89]; rfl)).1).trans (((pI_ne _ _ (Or.inl (okd_ne hkb89 rfl (by decide))))).trans (((pI_ne _ _ (Or.inl (okd_ne hkb89 rfl (by decide))))).trans (((fu93 b89 8 (by rw [hkb89]; rfl)).1).trans (ev90))))))))
                                have lk132 : ((u124).1 b89 7).toInt = (s.1 b89 7).toInt := congrArg Int32.toInt (((fu124 b89 7 (by rw [hkb89]; rfl)).1).trans (((fu119 b89 7 (by rw [hkb89]; rfl)).1).trans (((fu111 b89 7 (by rw [hkb89]; rfl)).1).trans (((fu106 b89 7 (by rw [hkb89]; rfl)).1).trans (((pI_ne _ _ (Or.inl (okd_ne hkb89 rfl (by decide))))).trans (((pI_ne _ _ (Or.inl (okd_ne hkb89 rfl (by decide))))).trans (((fu93 b89 7 (by rw [hkb89]; rfl)).1).trans ((fu2 b89 7 (by rw [hkb89]; rfl)).1))))))))
                                refine r_callVv C oCl0 hkb89 miX0_close mlX5_121 (ct9_X0_close l E (u124) b89 hkb89 k1 v97 (d) (G) (by omega) (by omega) (by omega) (by omega) (by omega) (oqKx_fr fu124 rfl pu119_7)) (by decide) rfl rfl rfl (Nat.le_of_ble_eq_true rfl) (oDec_at oX5_bookStatement 104 rfl) (fun u133 pu133 fu133 => ?_)
                                try dsimp only at pu133
                                try simp only [lk129, lk130, lk131, lk132] at pu133
                                obtain ⟨pu133_0, pu133_1, pu133_2, pu133_3⟩ := pu133
                                refine r_iconst C (oDec_at oX5_bookStatement 105 rfl) (v := k1) (by rw [qk1]; rfl) ?_
                                have lk135 : ((u133).1 30 2).toInt = (u124.1 30 2).toInt := congrArg Int32.toInt ((fu133 30 2 rfl).1)
                                have lk136 : ((u133).1 30 3).toInt = (u119.1 30 3).toInt := congrArg Int32.toInt (((fu133 30 3 rfl).1).trans ((fu124 30 3 rfl).1))
                                have lk137 : ((u133).1 30 5).toInt = (u119.1 30 5).toInt := congrArg Int32.toInt (((fu133 30 5 rfl).1).trans ((fu124 30 5 rfl).1))
                                have lk138 : ((u133).1 30 8).toInt = (u124.1 30 8).toInt := congrArg Int32.toInt ((fu133 30 8 rfl).1)
                                have lk139 : ((u133).1 30 9).toInt = (u124.1 30 9).toInt := congrArg Int32.toInt ((fu133 30 9 rfl).1)
                                have lk140 : ((u133).1 30 8).toInt = (u124.1 30 8).toInt := congrArg Int32.toInt ((fu133 30 8 rfl).1)
                                have lk141 : ((u133).1 30 9).toInt = (u124.1 30 9).toInt := congrArg Int32.toInt ((fu133 30 9 rfl).1)
                                have lk142 : ((u133).1 30 2).toInt = (u124.1 30 2).toInt := congrArg Int32.toInt ((fu133 30 2 rfl).1)
                                exact r_zret C (n_bool (by omega)) (oDec_at oX5_bookStatement 106 rfl) ⟨_, rfl, ⟨by omega, by first | (have hV := oqV_0 (g := g) (p := 19) (q := 24) (w := oqBn g a b) (by omega) pu119_1 pu119_2 (by omega); have hB := oqB_o (g := g) (a := a) (b := b) (R := R) (M := M) (N := N) (by omega) (by omega) (by omega); omega) | (have hV := oqV_0 (g := g) (p := 11) (q := 19) (w := oqBh g a b) (by omega) pu119_1 pu119_2 (by omega); have hB := oqB_r (g := g) (a := a) (b := b) (R := R) (M := M) (N := N) (by omega) (by omega); omega), fun h => by exfalso; omega, by first | (intro h; have hb := oqBs_4 (g := g) (a := a) (b := b) (R := R) (M := M) (N := N) (by omega); rw [hb.1, hb.2.1, hb.2.2]; exact oqNl_cl (by assumption) (((fu133 30 1 rfl).2.2).trans (((fu124 30 1 rfl).2.2).trans (((fu119 30 1 rfl).2.2).trans (((fu111 30 1 rfl).2.2).trans (((fu106 30 1 rfl).2.2).trans ((show ((pI (pI u93 30 6 k19) 30 7 k24)).2.2 30 1 = b89 + 1 from (show ((pI u93 30 6 k19)).2.2 30 1 = b89 + 1 from ((fu93 30 1 rfl).2.2).trans (rb89))))))))) fu133 rfl (by omega) (by omega) (by omega) rfl) | (intro h; have hb := oqBs_5 (g := g) (a := a) (b := b) (R := R) (M := M) (N := N) (by omega); rw [hb.1, hb.2.1, hb.2.2]; exact oqNl_cl (oqNl_fr fu124 rfl (oqNl_fr fu119 rfl (oqNl_fr fu111 rfl hq110))) (((fu133 30 1 rfl).2.2).trans (((fu124 30 1 rfl).2.2).trans (((fu119 30 1 rfl).2.2).trans (((fu111 30 1 rfl).2.2).trans (((fu106 30 1 rfl).2.2).trans ((show ((pI (pI u93 30 6 k19) 30 7 k24)).2.2 30 1 = b89 + 1 from (show ((pI u93 30 6 k19)).2.2 30 1 = b89 + 1 from ((fu93 30 1 rfl).2.2).trans (rb89))))))))) fu133 rfl (by omega) (by omega) (by omega) rfl), by first | (intro h; have hb := oqBs_4 (g := g) (a := a) (b := b) (R := R) (M := M) (N := N) (by omega); have hen8 := owEn_of hgw9 hw29; rw [hb.1, owWk_4 (by omega), owWt_e hen8]; exact owCB_c0 (owCB_fr fu124 rfl hq123) fu133 rfl (by have h9 := pu133_3; rw [hb99] at h9; exact h9) (by omega) (by have q := (show owCB bc R W (u124) from (owCB_fr fu124 rfl hq123)).2.2.1; rw [← hb99] at q ⊢; omega) (owEn_ty (by omega) hen8) (oqAn_fr fu124 rfl hq122) hrl9 (by omega) (by omega)) | (intro h; have hb := oqBs_5 (g := g) (a := a) (b := b) (R := R) (M := M) (N := N) (by omega); rw [hb.1, owWk_n (by omega)]; exact owCB_c1 (owCB_fr fu124 rfl hq123) fu133 rfl (by have h9 := pu133_3; rw [hb99] at h9; exact h9) (by omega) (by have q := (show owCB bc R W (u124) from (owCB_fr fu124 rfl hq123)).2.2.1; rw [← hb99] at q ⊢; omega) (by omega) hM8), by first | (intro h; rw [owMf_n (by omega)]; exact (owBM_fr fu133 rfl (owBM_fr fu124 rfl (owBM_fr fu119 rfl (owBM_fr fu111 rfl (owBM_fr fu106 rfl (owBM_fr (oFr_oneI (q := 5) (m := 7) rfl (by rfl)) rfl (owBM_fr (oFr_oneI (q := 5) (m := 6) rfl (by rfl)) rfl (owBM_fr fu93 rfl (owBM_fr fu2 rfl hp8)))))))))), by intro h; have h9 := (show oqAn bc L1 F1 (u133) from (oqAn_fr fu133 rfl (oqAn_fr fu124 rfl hq122))).2.1; omega, pu133_2, (oqRw_fr fu133 rfl (oqRw_fr fu124 rfl (oqRw_fr fu119 rfl (oqRw_fr fu111 rfl (oqRw_fr fu106 rfl (oqRw_fr (oFr_oneI (q := 5) (m := 7) rfl (by rfl)) rfl (oqRw_fr (oFr_oneI (q := 5) (m := 6) rfl (by rfl)) rfl (oqRw_fr fu93 rfl (oqRw_fr fu2 rfl hp6)))))))))⟩⟩
                            · skip
                              clear pu124_1
                              replace pu124_2 := pu124_2 (by omega)
                              refine r_iconst C (oDec_at oX5_bookStatement 93 rfl) (v := k0) (by rw [qk0]; rfl) ?_
                              have lk143 : ((u124).1 30 3).toInt = (u119.1 30 3).toInt := congrArg Int32.toInt ((fu124 30 3 rfl).1)
                              have lk144 : ((u124).1 30 5).toInt = (u119.1 30 5).toInt := congrArg Int32.toInt ((fu124 30 5 rfl).1)
                              exact r_zret C (n_bool (by omega)) (oDec_at oX5_bookStatement 94 rfl) ⟨_, rfl, ⟨by omega, by omega, by first | (have hB := oqB_on (g := g) (a := a) (b := b) (R := R) (M := M) (N := N) (by omega) (by omega) (by omega); omega) | (have hV := oqV_1 (g := g) (p := 19) (q := 24) (w := oqBn g a b) (by omega); have hB := oqB_o (g := g) (a := a) (b := b) (R := R) (M := M) (N := N) (by omega) (by omega) (by omega); omega) | (have hV := oqV_1 (g := g) (p := 11) (q := 19) (w := oqBh g a b) (by omega); have hB := oqB_r (g := g) (a := a) (b := b) (R := R) (M := M) (N := N) (by omega) (by omega); omega) | (have hV := oqV_2 (g := g) (p := 19) (q := 24) (w := oqBn g a b) (by omega) pu124_4; have hk0 := oqFn_k pu124_4; have hB := oqB_o (g := g) (a := a) (b := b) (R := R) (M := M) (N := N) (by omega) (by omega) (by omega); omega) | (have hV := oqV_2 (g := g) (p := 11) (q := 19) (w := oqBh g a b) (by omega) pu124_4; have hk0 := oqFn_k pu124_4; have hB := oqB_r (g := g) (a := a) (b := b) (R := R) (M := M) (N := N) (by omega) (by omega); omega) | (have hV := oqV_3 (g := g) (p := 19) (q := 24) (w := oqBn g a b) (by omega) pu119_1 pu119_2 (by omega); have hB := oqB_o (g := g) (a := a) (b := b) (R := R) (M := M) (N := N) (by omega) (by omega) (by omega); omega) | (have hV := oqV_3 (g := g) (p := 11) (q := 19) (w := oqBh g a b) (by omega) pu119_1 pu119_2 (by omega); have hB := oqB_r (g := g) (a := a) (b := b) (R := R) (M := M) (N := N) (by omega) (by omega); omega), fun h => by exfalso; omega, fun h => by exfalso; omega, fun h => by exfalso; omega, fun h => by exfalso; omega, (oqKx_fr fu124 rfl pu119_7), (oqRw_fr fu124 rfl (oqRw_fr fu119 rfl (oqRw_fr fu111 rfl (oqRw_fr fu106 rfl (oqRw_fr (oFr_oneI (q := 5) (m := 7) rfl (by rfl)) rfl (oqRw_fr (oFr_oneI (q := 5) (m := 6) rfl (by rfl)) rfl (oqRw_fr fu93 rfl (oqRw_fr fu2 rfl hp6))))))))⟩⟩
              · omega
            · skip
              have hB : (oqBk g a b R M N = 5 ∧ oqBp g a b R M N = oqSk g a) := by first | exact oqB_r5 (by omega) (by omega) | exact oqB_o5 (by omega) (by omega)
              refine r_aload_n C (j := 0) (oDec_at oX5_bookStatement 34 rfl) rfl rfl ?_
              refine r_iconst C (oDec_at oX5_bookStatement 35 rfl) (v := k5) (by rw [qk5]; rfl) ?_
              refine r_aload_n C (j := 0) (oDec_at oX5_bookStatement 36 rfl) rfl rfl ?_
              obtain ⟨v145, ev145⟩ : ∃ z : Int32, (u2).1 30 2 = z := ⟨_, rfl⟩
              have gv145 : (u2.1 30 2).toInt = v145.toInt := congrArg Int32.toInt (ev145)
              refine r_geti (k := 2) (lo := 0) (hi := 1600) C v145 oCl5 rfl (by decide) flX5_23 rfl rfl (ev145) rfl rfl (oDec_at oX5_bookStatement 37 rfl) (fun b146 b146h => ?_)
              refine r_callVi C oCl5 rfl miX5_fail mlX5_62 (ct4_X5_fail l E (u2) k5 v145 ) (by decide) rfl rfl rfl (Nat.le_of_ble_eq_true rfl) (oDec_at oX5_bookStatement 38 rfl) (fun r148 u147 pu147 fu147 => ?_)
              try dsimp only at pu147
              obtain ⟨pu147_0, pu147_1, pu147_2, pu147_3⟩ := pu147
              have rr148 := n_rng r148
              have lk149 : ((u147).1 30 2).toInt = v145.toInt := congrArg Int32.toInt (((fu147 30 2 rfl).1).trans (ev145))
              have lk150 : ((u147).1 30 3).toInt = (s.1 30 3).toInt := congrArg Int32.toInt (((fu147 30 3 rfl).1).trans ((fu2 30 3 rfl).1))
              have lk151 : ((u147).1 30 5).toInt = (s.1 30 5).toInt := congrArg Int32.toInt (((fu147 30 5 rfl).1).trans ((fu2 30 5 rfl).1))
              have lk152 : ((u147).1 30 2).toInt = v145.toInt := congrArg Int32.toInt (((fu147 30 2 rfl).1).trans (ev145))
              exact r_zret C (n_bool (by omega)) (oDec_at oX5_bookStatement 39 rfl) ⟨_, rfl, ⟨by omega, by omega, by omega, fun h => by exfalso; omega, fun h => by exfalso; omega, fun h => by exfalso; omega, fun h => by exfalso; omega, (oqKx_fr fu147 rfl (oqKx_fr fu2 rfl hp9)), (oqRw_fr fu147 rfl (oqRw_fr fu2 rfl hp6))⟩⟩
        · omega
      · skip
        have hB := oqB_w (g := g) (a := a) (b := b) (R := R) (M := M) (N := N) ⟨by omega, by omega, by omega⟩
        refine r_aload_n C (j := 0) (oDec_at oX5_bookStatement 12 rfl) rfl rfl ?_
        refine r_iconst C (oDec_at oX5_bookStatement 13 rfl) (v := k1) (by rw [qk1]; rfl) ?_
        refine r_aload_n C (j := 0) (oDec_at oX5_bookStatement 14 rfl) rfl rfl ?_
        obtain ⟨v153, ev153⟩ : ∃ z : Int32, (u2).1 30 2 = z := ⟨_, rfl⟩
        have gv153 : (u2.1 30 2).toInt = v153.toInt := congrArg Int32.toInt (ev153)
        refine r_geti (k := 2) (lo := 0) (hi := 1600) C v153 oCl5 rfl (by decide) flX5_23 rfl rfl (ev153) rfl rfl (oDec_at oX5_bookStatement 15 rfl) (fun b154 b154h => ?_)
        refine r_callVi C oCl5 rfl miX5_fail mlX5_62 (ct4_X5_fail l E (u2) k1 v153 ) (by decide) rfl rfl rfl (Nat.le_of_ble_eq_true rfl) (oDec_at oX5_bookStatement 16 rfl) (fun r156 u155 pu155 fu155 => ?_)
        try dsimp only at pu155
        obtain ⟨pu155_0, pu155_1, pu155_2, pu155_3⟩ := pu155
        have rr156 := n_rng r156
        have lk157 : ((u155).1 30 2).toInt = v153.toInt := congrArg Int32.toInt (((fu155 30 2 rfl).1).trans (ev153))
        have lk158 : ((u155).1 30 3).toInt = (s.1 30 3).toInt := congrArg Int32.toInt (((fu155 30 3 rfl).1).trans ((fu2 30 3 rfl).1))
        have lk159 : ((u155).1 30 5).toInt = (s.1 30 5).toInt := congrArg Int32.toInt (((fu155 30 5 rfl).1).trans ((fu2 30 5 rfl).1))
        have lk160 : ((u155).1 30 2).toInt = v153.toInt := congrArg Int32.toInt (((fu155 30 2 rfl).1).trans (ev153))
        exact r_zret C (n_bool (by omega)) (oDec_at oX5_bookStatement 17 rfl) ⟨_, rfl, ⟨by omega, by omega, by omega, fun h => by exfalso; omega, fun h => by exfalso; omega, fun h => by exfalso; omega, fun h => by exfalso; omega, (oqKx_fr fu155 rfl (oqKx_fr fu2 rfl hp9)), (oqRw_fr fu155 rfl (oqRw_fr fu2 rfl hp6))⟩⟩
