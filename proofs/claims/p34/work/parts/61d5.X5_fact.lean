set_option maxHeartbeats 4000000 in
set_option maxRecDepth 100000 in
theorem gr9_X5_X5_fact (l : Launch) (E : oE) (N : Nat) (ih : ∀ m : Nat, m < N → ogr9_X5 l E m) (h_X5_sum : ogr9_X5_X5_sum l E N) : ogr9_X5_X5_fact l E N := by
  intro s g fp fq a b op bc L F d G hp0 hp1 hp2 hp3 hp4 hp5 hp6 hp7 hp8 hp9 hp10
  refine oMet.of (lv := [(0, .ref (oad E 30))]) (by decide +kernel) (Nat.le_of_ble_eq_true rfl) rfl (fun J C hT => ?_)
  have C : oC l (7 + 10 * N + 5) cX5_fact RX5 3 (some .boolean) [(0, 1), (5, 2), (5, 3), (5, 4), (5, 5), (5, 8), (5, 9), (20, 9999)] E s (oPi (fun r u => (0 ≤ r.toInt ∧ r.toInt ≤ 1) ∧ (r.toInt = 1 → oqGo g fp fq 0 (oqSk g a) b op 2 (oqSk g (u.1 30 2).toInt) (u.1 30 3).toInt op) ∧ (r.toInt = 1 → ((u.1 30 5).toInt = op ∧ a + 1 ≤ (u.1 30 2).toInt ∧ (u.1 30 8).toInt = (s.1 30 8).toInt ∧ (u.1 30 9).toInt = (s.1 30 9).toInt)) ∧ (r.toInt = 0 → oqFa g fp fq 0 (oqSk g a) b op (u.1 30 8).toInt (u.1 30 9).toInt) ∧ (r.toInt = 1 → oqEc oqT0 g fp fq 0 (oqSk g a) b op 2 (oqSk g (u.1 30 2).toInt) (u.1 30 3).toInt op L F (u.1 bc 1).toInt (u.1 (bc + 1))) ∧ (r.toInt = 1 → (u.1 bc 1).toInt - L ≤ (u.1 30 2).toInt - a) ∧ (oqKx d G u))) J := C
  obtain ⟨k0, qk0⟩ : ∃ z : Int32, z = 0 := ⟨_, rfl⟩
  have ek0 : k0.toInt = 0 := by rw [qk0]; rfl
  obtain ⟨k1, qk1⟩ : ∃ z : Int32, z = 1 := ⟨_, rfl⟩
  have ek1 : k1.toInt = 1 := by rw [qk1]; rfl
  obtain ⟨k9, qk9⟩ : ∃ z : Int32, z = 9 := ⟨_, rfl⟩
  have ek9 : k9.toInt = 9 := by rw [qk9]; rfl
  obtain ⟨k10, qk10⟩ : ∃ z : Int32, z = 10 := ⟨_, rfl⟩
  have ek10 : k10.toInt = 10 := by rw [qk10]; rfl
  obtain ⟨k60, qk60⟩ : ∃ z : Int32, z = 60 := ⟨_, rfl⟩
  have ek60 : k60.toInt = 60 := by rw [qk60]; rfl
  obtain ⟨k61, qk61⟩ : ∃ z : Int32, z = 61 := ⟨_, rfl⟩
  have ek61 : k61.toInt = 61 := by rw [qk61]; rfl
  obtain ⟨k62, qk62⟩ : ∃ z : Int32, z = 62 := ⟨_, rfl⟩
  have ek62 : k62.toInt = 62 := by rw [qk62]; rfl
  obtain ⟨k91, qk91⟩ : ∃ z : Int32, z = 91 := ⟨_, rfl⟩
  have ek91 : k91.toInt = 91 := by rw [qk91]; rfl
  obtain ⟨k93, qk93⟩ : ∃ z : Int32, z = 93 := ⟨_, rfl⟩
  have ek93 : k93.toInt = 93 := by rw [qk93]; rfl
  obtain ⟨k10020, qk10020⟩ : ∃ z : Int32, z = 10020 := ⟨_, rfl⟩
  have ek10020 : k10020.toInt = 10020 := by rw [qk10020]; rfl
  obtain ⟨k10023, qk10023⟩ : ∃ z : Int32, z = 10023 := ⟨_, rfl⟩
  have ek10023 : k10023.toInt = 10023 := by rw [qk10023]; rfl
  obtain ⟨k10024, qk10024⟩ : ∃ z : Int32, z = 10024 := ⟨_, rfl⟩
  have ek10024 : k10024.toInt = 10024 := by rw [qk10024]; rfl
  obtain ⟨k10025, qk10025⟩ : ∃ z : Int32, z = 10025 := ⟨_, rfl⟩
  have ek10025 : k10025.toInt = 10025 := by rw [qk10025]; rfl
  have hto : (0 : Int) ≤ (s.1 30 5).toInt ∧ (s.1 30 5).toInt ≤ 6 := hT.1 30 5
  have hge9 := oqSk_ge g a
  have hkb := (hp8 : oqAn bc L F s).1
  have hLs := (hp8 : oqAn bc L F s).2.1
  refine r_aload_n C (j := 0) (oDec_at oX5_fact 0 rfl) rfl rfl ?_
  refine r_callVi C oCl5 rfl miX5_peek mlX5_43 (ct4_X5_peek l E (s)  (g) (a) (by omega) hp2) (by omega) rfl rfl rfl (Nat.le_of_ble_eq_true rfl) (oDec_at oX5_fact 1 rfl) (fun r2 u1 pu1 fu1 => ?_)
  try dsimp only at pu1
  obtain ⟨pu1_0, pu1_1, pu1_2, pu1_3, pu1_4, pu1_5⟩ := pu1
  have rr2 := n_rng r2
  have hss := oqSk_sk (g := g) (a := a) ⟨by omega, by omega⟩
  have hg2 : g (oqSk g (oqSk g a)) = g (oqSk g a) := by rw [hss]
  refine r_bipush C (oDec_at oX5_fact 2 rfl) (v := k91) (by rw [qk91]; rfl) ?_
  refine r_icmp_ne C 54 (oDec_at oX5_fact 3 rfl) (by decide) (fun cd3 => ?_) (fun cd3 => ?_)
  · skip
    refine r_aload_n C (j := 0) (oDec_at oX5_fact 25 rfl) rfl rfl ?_
    have lk4 : ((u1).1 30 3).toInt = (s.1 30 3).toInt := congrArg Int32.toInt ((fu1 30 3 rfl).1)
    refine r_callVi C oCl5 rfl miX5_wordAhead mlX5_91 (ct5_X5_wordAhead l E (u1)  (g) (oqSk g a) (b) (by omega) (by omega) (oqX_fr fu1 rfl hp2)) (by omega) rfl rfl rfl (Nat.le_of_ble_eq_true rfl) (oDec_at oX5_fact 26 rfl) (fun r6 u5 pu5 fu5 => ?_)
    try dsimp only at pu5
    try simp only [lk4] at pu5
    obtain ⟨pu5_0, pu5_1, pu5_2, pu5_3, pu5_4, pu5_5, pu5_6⟩ := pu5
    have rr6 := n_rng r6
    have hj := oqWi_eq pu5_2 ⟨by omega, by omega⟩
    clear pu5_2 pu5_3
    refine r_istore_n C (lv' := [(0, .ref (oad E 30)), (1, .int r6)]) [1, 0] (oDec_at oX5_fact 27 rfl) rfl (by decide) rfl ?_
    refine r_iload_n C (j := 1) (oDec_at oX5_fact 28 rfl) rfl rfl ?_
    refine r_bipush C (oDec_at oX5_fact 29 rfl) (v := k9) (by rw [qk9]; rfl) ?_
    refine r_icmp_ne C 105 (oDec_at oX5_fact 30 rfl) (by decide) (fun cd7 => ?_) (fun cd7 => ?_)
    · skip
      refine r_iload_n C (j := 1) (oDec_at oX5_fact 50 rfl) rfl rfl ?_
      refine r_bipush C (oDec_at oX5_fact 51 rfl) (v := k10) (by rw [qk10]; rfl) ?_
      refine r_icmp_ne C 126 (oDec_at oX5_fact 52 rfl) (by decide) (fun cd8 => ?_) (fun cd8 => ?_)
      · skip
        refine r_aload_n C (j := 0) (oDec_at oX5_fact 61 rfl) rfl rfl ?_
        have lk9 : ((u5).1 30 3).toInt = (s.1 30 3).toInt := congrArg Int32.toInt (((fu5 30 3 rfl).1).trans ((fu1 30 3 rfl).1))
        have lk10 : ((u5).1 30 5).toInt = (s.1 30 5).toInt := congrArg Int32.toInt (((fu5 30 5 rfl).1).trans ((fu1 30 5 rfl).1))
        have lk11 : ((u5).1 30 6).toInt = (s.1 30 6).toInt := congrArg Int32.toInt (((fu5 30 6 rfl).1).trans ((fu1 30 6 rfl).1))
        have lk12 : ((u5).1 30 7).toInt = (s.1 30 7).toInt := congrArg Int32.toInt (((fu5 30 7 rfl).1).trans ((fu1 30 7 rfl).1))
        have lk13 : ((u5).1 30 5).toInt = (s.1 30 5).toInt := congrArg Int32.toInt (((fu5 30 5 rfl).1).trans ((fu1 30 5 rfl).1))
        have lk14 : ((u5).1 30 8).toInt = (s.1 30 8).toInt := congrArg Int32.toInt (((fu5 30 8 rfl).1).trans ((fu1 30 8 rfl).1))
        have lk15 : ((u5).1 30 9).toInt = (s.1 30 9).toInt := congrArg Int32.toInt (((fu5 30 9 rfl).1).trans ((fu1 30 9 rfl).1))
        refine r_callVi C oCl5 rfl miX5_sum mlX5_160 (h_X5_sum (u5)  (g) (fp) (fq) (oqSk g a) (b) (op) (bc) (L) (F) (d) (G) (by omega) (by omega) (oqX_fr fu5 rfl (oqX_fr fu1 rfl hp2)) (by omega) (by omega) (by omega) (by omega) (oqRw_fr fu5 rfl (oqRw_fr fu1 rfl hp7)) (oqAn_fr fu5 rfl (oqAn_fr fu1 rfl hp8)) (by omega) (oqKx_fr fu5 rfl (oqKx_fr fu1 rfl hp10))) (by omega) rfl rfl rfl (Nat.le_of_ble_eq_true rfl) (oDec_at oX5_fact 62 rfl) (fun r17 u16 pu16 fu16 => ?_)
        try dsimp only at pu16
        try simp only [lk9, lk10, lk11, lk12, lk13, lk14, lk15] at pu16
        obtain ⟨pu16_0, pu16_1, pu16_2, pu16_3, pu16_4, pu16_5, pu16_6, pu16_7⟩ := pu16
        have rr17 := n_rng r17
        refine r_if_ne C 135 (oDec_at oX5_fact 63 rfl) (by decide) (fun cd18 => ?_) (fun cd18 => ?_)
        · skip
          replace pu16_1 := pu16_1 (by omega)
          replace pu16_2 := pu16_2 (by omega)
          replace pu16_3 := pu16_3 (by omega)
          clear pu16_4
          replace pu16_5 := pu16_5 (by omega)
          replace pu16_6 := pu16_6 (by omega)
          rw [hss] at pu16_1
          have hgX : g (oqSk g ((u16).1 30 2).toInt) = g ((u16).1 30 2).toInt := by rw [show oqSk g ((u16).1 30 2).toInt = ((u16).1 30 2).toInt by omega]
          obtain ⟨L1, hL1⟩ : ∃ z, z = ((u16).1 bc 1).toInt := ⟨_, rfl⟩
          obtain ⟨F1, hF1⟩ : ∃ z, z = (u16).1 (bc + 1) := ⟨_, rfl⟩
          have hE1 := pu16_5
          rw [← hL1, ← hF1] at hE1
          try (have hLe1 := hE1.le)
          rw [hss] at hE1
          have hq19 : oqAn bc L1 F1 (u16) := ⟨hkb, hL1.symm, hF1.symm⟩
          refine r_aload_n C (j := 0) (oDec_at oX5_fact 66 rfl) rfl rfl ?_
          have lk20 : ((u16).1 1 1).toInt = (s.1 1 1).toInt := congrArg Int32.toInt (((fu16 1 1 rfl).1).trans (((fu5 1 1 rfl).1).trans ((fu1 1 1 rfl).1)))
          refine r_callVi C oCl5 rfl miX5_peek mlX5_43 (ct4_X5_peek l E (u16)  (g) (((u16).1 30 2).toInt) (by omega) (oqX_fr fu16 rfl (oqX_fr fu5 rfl (oqX_fr fu1 rfl hp2)))) (by omega) rfl rfl rfl (Nat.le_of_ble_eq_true rfl) (oDec_at oX5_fact 67 rfl) (fun r22 u21 pu21 fu21 => ?_)
          try dsimp only at pu21
          try simp only [lk20] at pu21
          obtain ⟨pu21_0, pu21_1, pu21_2, pu21_3, pu21_4, pu21_5⟩ := pu21
          have rr22 := n_rng r22
          have hxx : ((u21).1 30 2).toInt = ((u16).1 30 2).toInt := by omega
          refine r_istore_n C (lv' := [(0, .ref (oad E 30)), (1, .int r6), (2, .int r22)]) [1, 2, 0] (oDec_at oX5_fact 68 rfl) rfl (by decide) rfl ?_
          refine r_iload_n C (j := 2) (oDec_at oX5_fact 69 rfl) rfl rfl ?_
          refine r_bipush C (oDec_at oX5_fact 70 rfl) (v := k60) (by rw [qk60]; rfl) ?_
          refine r_icmp_eq C 168 (oDec_at oX5_fact 71 rfl) (by decide) (fun cd23 => ?_) (fun cd23 => ?_)
          · skip
            refine r_aload_n C (j := 0) (oDec_at oX5_fact 84 rfl) rfl rfl ?_
            refine r_dup C (oDec_at oX5_fact 85 rfl) rfl ?_
            obtain ⟨v24, ev24⟩ : ∃ z : Int32, (u21).1 30 2 = z := ⟨_, rfl⟩
            have gv24 : (u21.1 30 2).toInt = v24.toInt := congrArg Int32.toInt (ev24)
            refine r_geti (k := 2) (lo := 0) (hi := 1600) C v24 oCl5 rfl (by decide) flX5_23 rfl rfl (ev24) rfl rfl (oDec_at oX5_fact 86 rfl) (fun b25 b25h => ?_)
            refine r_iconst C (oDec_at oX5_fact 87 rfl) (v := k1) (by rw [qk1]; rfl) ?_
            obtain ⟨v26, ev26⟩ : ∃ z : Int32, z = v24 + k1 := ⟨_, rfl⟩
            have hv26 : v26.toInt = v24.toInt + k1.toInt := n_add ev26 (by omega) (by omega)
            refine r_iadd C v26 (oDec_at oX5_fact 88 rfl) ev26 ?_
            refine r_puti (k := 2) (lo := 0) (hi := 1600) C oCl5 rfl (by decide) flX5_23 rfl rfl rfl rfl rfl rfl rfl rfl ⟨by omega, by omega⟩ (oDec_at oX5_fact 89 rfl) ?_
            refine r_pc C 178 rfl ?_
            refine r_aload_n C (j := 0) (oDec_at oX5_fact 90 rfl) rfl rfl ?_
            have lk27 : (((pI u21 30 2 v26)).1 30 2).toInt = v26.toInt := congrArg Int32.toInt ((pI_self _ _ _ _))
            have lk28 : (((pI u21 30 2 v26)).1 30 3).toInt = (u16.1 30 3).toInt := congrArg Int32.toInt (((pI_ne (a := 30) (b := 3) (c := 30) (k := 2) _ _ (Or.inr (by decide)))).trans ((fu21 30 3 rfl).1))
            have lk29 : (((pI u21 30 2 v26)).1 30 5).toInt = (u16.1 30 5).toInt := congrArg Int32.toInt (((pI_ne (a := 30) (b := 5) (c := 30) (k := 2) _ _ (Or.inr (by decide)))).trans ((fu21 30 5 rfl).1))
            have lk30 : (((pI u21 30 2 v26)).1 30 6).toInt = (s.1 30 6).toInt := congrArg Int32.toInt (((pI_ne (a := 30) (b := 6) (c := 30) (k := 2) _ _ (Or.inr (by decide)))).trans (((fu21 30 6 rfl).1).trans (((fu16 30 6 rfl).1).trans (((fu5 30 6 rfl).1).trans ((fu1 30 6 rfl).1)))))
            have lk31 : (((pI u21 30 2 v26)).1 30 7).toInt = (s.1 30 7).toInt := congrArg Int32.toInt (((pI_ne (a := 30) (b := 7) (c := 30) (k := 2) _ _ (Or.inr (by decide)))).trans (((fu21 30 7 rfl).1).trans (((fu16 30 7 rfl).1).trans (((fu5 30 7 rfl).1).trans ((fu1 30 7 rfl).1)))))
            have lk32 : (((pI u21 30 2 v26)).1 30 5).toInt = (u16.1 30 5).toInt := congrArg Int32.toInt (((pI_ne (a := 30) (b := 5) (c := 30) (k := 2) _ _ (Or.inr (by decide)))).trans ((fu21 30 5 rfl).1))
            have lk33 : (((pI u21 30 2 v26)).1 30 8).toInt = (u16.1 30 8).toInt := congrArg Int32.toInt (((pI_ne (a := 30) (b := 8) (c := 30) (k := 2) _ _ (Or.inr (by decide)))).trans ((fu21 30 8 rfl).1))
            have lk34 : (((pI u21 30 2 v26)).1 30 9).toInt = (u16.1 30 9).toInt := congrArg Int32.toInt (((pI_ne (a := 30) (b := 9) (c := 30) (k := 2) _ _ (Or.inr (by decide)))).trans ((fu21 30 9 rfl).1))
            refine r_callVi C oCl5 rfl miX5_sum mlX5_160 (h_X5_sum ((pI u21 30 2 v26))  (g) (fp) (fq) (((u16).1 30 2).toInt + 1) (((u16).1 30 3).toInt) (op) (bc) (L1) (F1) (d) (G) (by omega) (by omega) (oqX_fr (oFr_oneI (q := 5) (m := 2) rfl (by rfl)) rfl (oqX_fr fu21 rfl (oqX_fr fu16 rfl (oqX_fr fu5 rfl (oqX_fr fu1 rfl hp2))))) (by omega) (by omega) (by omega) (by omega) (oqRw_fr (oFr_oneI (q := 5) (m := 2) rfl (by rfl)) rfl (oqRw_fr fu21 rfl (oqRw_fr fu16 rfl (oqRw_fr fu5 rfl (oqRw_fr fu1 rfl hp7))))) (oqAn_fr (oFr_oneI (q := 5) (m := 2) rfl (by rfl)) rfl (oqAn_fr fu21 rfl hq19)) (by omega) (oqKx_fr (oFr_oneI (q := 5) (m := 2) rfl (by rfl)) rfl (oqKx_fr fu21 rfl pu16_7))) (by omega) rfl rfl rfl (Nat.le_of_ble_eq_true rfl) (oDec_at oX5_fact 91 rfl) (fun r36 u35 pu35 fu35 => ?_)
            try dsimp only at pu35
            try simp only [lk27, lk28, lk29, lk30, lk31, lk32, lk33, lk34] at pu35
            obtain ⟨pu35_0, pu35_1, pu35_2, pu35_3, pu35_4, pu35_5, pu35_6, pu35_7⟩ := pu35
            have rr36 := n_rng r36
            refine r_if_ne C 187 (oDec_at oX5_fact 92 rfl) (by decide) (fun cd37 => ?_) (fun cd37 => ?_)
            · skip
              replace pu35_1 := pu35_1 (by omega)
              replace pu35_2 := pu35_2 (by omega)
              replace pu35_3 := pu35_3 (by omega)
              clear pu35_4
              replace pu35_5 := pu35_5 (by omega)
              replace pu35_6 := pu35_6 (by omega)
              obtain ⟨L2, hL2⟩ : ∃ z, z = ((u35).1 bc 1).toInt := ⟨_, rfl⟩
              obtain ⟨F2, hF2⟩ : ∃ z, z = (u35).1 (bc + 1) := ⟨_, rfl⟩
              have hE2 := pu35_5
              rw [← hL2, ← hF2] at hE2
              try (have hLe2 := hE2.le)
              have hq38 : oqAn bc L2 F2 (u35) := ⟨hkb, hL2.symm, hF2.symm⟩
              refine r_aload_n C (j := 0) (oDec_at oX5_fact 95 rfl) rfl rfl ?_
              refine r_getS (k := 1) (q2 := 0) C oCl5 rfl (by decide) flX5_19 rfl rfl rfl ks1 (oDec_at oX5_fact 96 rfl) (fun b39 rb39 mb39 hkb39 => ?_)
              refine r_iload_n C (j := 2) (oDec_at oX5_fact 97 rfl) rfl rfl ?_
              refine r_bipush C (oDec_at oX5_fact 98 rfl) (v := k60) (by rw [qk60]; rfl) ?_
              refine r_icmp_ne C 203 (oDec_at oX5_fact 99 rfl) (by decide) (fun cd40 => ?_) (fun cd40 => ?_)
              · omega
              · skip
                refine r_sipush C (oDec_at oX5_fact 100 rfl) (v := k10023) (by rw [qk10023]; rfl) ?_
                refine r_goto C (tgt := 218) (oDec_at oX5_fact 101 rfl) (by decide) ?_
                refine r_ty C (fun hty => ?_)
                have hta : (0 : Int) ≤ ((u35).1 30 2).toInt ∧ ((u35).1 30 2).toInt ≤ 1600 := hty.1 30 2
                clear hty
                have hbb : b39 = bc := oqRw_eq (oqRw_fr fu35 rfl (oqRw_fr (oFr_oneI (q := 5) (m := 2) rfl (by rfl)) rfl (oqRw_fr fu21 rfl (oqRw_fr fu16 rfl (oqRw_fr fu5 rfl (oqRw_fr fu1 rfl hp7)))))) (rb39); have hkn : b39 ≠ d := oqKx_ne pu35_7 (rb39)
                -- !! !oqAn c0 L2 F2 is not known here
                refine r_callVv C oCl0 hkb39 miX0_emit mlX5_147 (ct9_X0_emit l E (u35) b39 hkb39 k10023 (L2) (F2) (d) (G) (by rw [hbb]; exact hq38) (by omega) pu35_7) (by omega) rfl rfl rfl (Nat.le_of_ble_eq_true rfl) (oDec_at oX5_fact 108 rfl) (fun u41 pu41 fu41 => ?_)
                try dsimp only at pu41
                obtain ⟨pu41_0, pu41_1⟩ := pu41
                have hem := pu41_0 (by omega)
                rw [hbb] at hem
                obtain ⟨hem1, hem2⟩ := hem
                refine r_iconst C (oDec_at oX5_fact 109 rfl) (v := k1) (by rw [qk1]; rfl) ?_
                have lk43 : ((u41).1 30 2).toInt = (u35.1 30 2).toInt := congrArg Int32.toInt ((fu41 30 2 rfl).1)
                have lk44 : ((u41).1 30 3).toInt = (u35.1 30 3).toInt := congrArg Int32.toInt ((fu41 30 3 rfl).1)
                have lk45 : ((u41).1 30 5).toInt = (u35.1 30 5).toInt := congrArg Int32.toInt ((fu41 30 5 rfl).1)
                have lk46 : ((u41).1 30 2).toInt = (u35.1 30 2).toInt := congrArg Int32.toInt ((fu41 30 2 rfl).1)
                have lk47 : ((u41).1 30 8).toInt = (u35.1 30 8).toInt := congrArg Int32.toInt ((fu41 30 8 rfl).1)
                have lk48 : ((u41).1 30 9).toInt = (u35.1 30 9).toInt := congrArg Int32.toInt ((fu41 30 9 rfl).1)
                have lk49 : ((u41).1 30 8).toInt = (u35.1 30 8).toInt := congrArg Int32.toInt ((fu41 30 8 rfl).1)
                have lk50 : ((u41).1 30 9).toInt = (u35.1 30 9).toInt := congrArg Int32.toInt ((fu41 30 9 rfl).1)
                have lk51 : ((u41).1 30 2).toInt = (u35.1 30 2).toInt := congrArg Int32.toInt ((fu41 30 2 rfl).1)
                have lk52 : ((u41).1 30 3).toInt = (u35.1 30 3).toInt := congrArg Int32.toInt ((fu41 30 3 rfl).1)
                have lk53 : ((u41).1 30 2).toInt = (u35.1 30 2).toInt := congrArg Int32.toInt ((fu41 30 2 rfl).1)
                exact r_zret C (n_bool (by omega)) (oDec_at oX5_fact 110 rfl) ⟨_, rfl, ⟨by omega, fun _ => by rw [show oqSk g ((u41).1 30 2).toInt = ((u35).1 30 2).toInt by (rw [show ((u41).1 30 2).toInt = ((u35).1 30 2).toInt by omega]; omega)]; exact (oqf_sgnY (by omega) (by omega) (by omega) pu16_1 pu16_2 (by omega) pu35_1 pu35_2).cast (by omega) (by omega), by omega, fun h => by exfalso; omega, fun _ => by rw [show oqSk g ((u41).1 30 2).toInt = ((u35).1 30 2).toInt by (rw [show ((u41).1 30 2).toInt = ((u35).1 30 2).toInt by omega]; omega)]; exact oqEc.nw ((oqe_sgn (v := k10023) (by omega) (by omega) (by omega) hE1 pu16_2 hE2 pu35_2 (by omega) rfl rfl).cast (by omega) (by omega)) (by omega) hem2, fun h9 => by omega, pu41_1⟩⟩
            · skip
              clear pu35_1
              clear pu35_2
              clear pu35_3
              replace pu35_4 := pu35_4 (by omega)
              clear pu35_5
              clear pu35_6
              refine r_iconst C (oDec_at oX5_fact 93 rfl) (v := k0) (by rw [qk0]; rfl) ?_
              exact r_zret C (n_bool (by omega)) (oDec_at oX5_fact 94 rfl) ⟨_, rfl, ⟨by omega, fun h => by exfalso; omega, by omega, fun _ => oqf_sgnF (by omega) (by omega) (by omega) pu16_1 pu16_2 (by omega) pu35_4, fun h => by exfalso; omega, fun h => by exfalso; omega, pu35_7⟩⟩
          · skip
            refine r_iload_n C (j := 2) (oDec_at oX5_fact 72 rfl) rfl rfl ?_
            refine r_bipush C (oDec_at oX5_fact 73 rfl) (v := k62) (by rw [qk62]; rfl) ?_
            refine r_icmp_eq C 168 (oDec_at oX5_fact 74 rfl) (by decide) (fun cd54 => ?_) (fun cd54 => ?_)
            · skip
              refine r_aload_n C (j := 0) (oDec_at oX5_fact 84 rfl) rfl rfl ?_
              refine r_dup C (oDec_at oX5_fact 85 rfl) rfl ?_
              obtain ⟨v55, ev55⟩ : ∃ z : Int32, (u21).1 30 2 = z := ⟨_, rfl⟩
              have gv55 : (u21.1 30 2).toInt = v55.toInt := congrArg Int32.toInt (ev55)
              refine r_geti (k := 2) (lo := 0) (hi := 1600) C v55 oCl5 rfl (by decide) flX5_23 rfl rfl (ev55) rfl rfl (oDec_at oX5_fact 86 rfl) (fun b56 b56h => ?_)
              refine r_iconst C (oDec_at oX5_fact 87 rfl) (v := k1) (by rw [qk1]; rfl) ?_
              obtain ⟨v57, ev57⟩ : ∃ z : Int32, z = v55 + k1 := ⟨_, rfl⟩
              have hv57 : v57.toInt = v55.toInt + k1.toInt := n_add ev57 (by omega) (by omega)
              refine r_iadd C v57 (oDec_at oX5_fact 88 rfl) ev57 ?_
              refine r_puti (k := 2) (lo := 0) (hi := 1600) C oCl5 rfl (by decide) flX5_23 rfl rfl rfl rfl rfl rfl rfl rfl ⟨by omega, by omega⟩ (oDec_at oX5_fact 89 rfl) ?_
              refine r_pc C 178 rfl ?_
              refine r_aload_n C (j := 0) (oDec_at oX5_fact 90 rfl) rfl rfl ?_
              have lk58 : (((pI u21 30 2 v57)).1 30 2).toInt = v57.toInt := congrArg Int32.toInt ((pI_self _ _ _ _))
              have lk59 : (((pI u21 30 2 v57)).1 30 3).toInt = (u16.1 30 3).toInt := congrArg Int32.toInt (((pI_ne (a := 30) (b := 3) (c := 30) (k := 2) _ _ (Or.inr (by decide)))).trans ((fu21 30 3 rfl).1))
              have lk60 : (((pI u21 30 2 v57)).1 30 5).toInt = (u16.1 30 5).toInt := congrArg Int32.toInt (((pI_ne (a := 30) (b := 5) (c := 30) (k := 2) _ _ (Or.inr (by decide)))).trans ((fu21 30 5 rfl).1))
              have lk61 : (((pI u21 30 2 v57)).1 30 6).toInt = (s.1 30 6).toInt := congrArg Int32.toInt (((pI_ne (a := 30) (b := 6) (c := 30) (k := 2) _ _ (Or.inr (by decide)))).trans (((fu21 30 6 rfl).1).trans (((fu16 30 6 rfl).1).trans (((fu5 30 6 rfl).1).trans ((fu1 30 6 rfl).1)))))
              have lk62 : (((pI u21 30 2 v57)).1 30 7).toInt = (s.1 30 7).toInt := congrArg Int32.toInt (((pI_ne (a := 30) (b := 7) (c := 30) (k := 2) _ _ (Or.inr (by decide)))).trans (((fu21 30 7 rfl).1).trans (((fu16 30 7 rfl).1).trans (((fu5 30 7 rfl).1).trans ((fu1 30 7 rfl).1)))))
              have lk63 : (((pI u21 30 2 v57)).1 30 5).toInt = (u16.1 30 5).toInt := congrArg Int32.toInt (((pI_ne (a := 30) (b := 5) (c := 30) (k := 2) _ _ (Or.inr (by decide)))).trans ((fu21 30 5 rfl).1))
              have lk64 : (((pI u21 30 2 v57)).1 30 8).toInt = (u16.1 30 8).toInt := congrArg Int32.toInt (((pI_ne (a := 30) (b := 8) (c := 30) (k := 2) _ _ (Or.inr (by decide)))).trans ((fu21 30 8 rfl).1))
              have lk65 : (((pI u21 30 2 v57)).1 30 9).toInt = (u16.1 30 9).toInt := congrArg Int32.toInt (((pI_ne (a := 30) (b := 9) (c := 30) (k := 2) _ _ (Or.inr (by decide)))).trans ((fu21 30 9 rfl).1))
              refine r_callVi C oCl5 rfl miX5_sum mlX5_160 (h_X5_sum ((pI u21 30 2 v57))  (g) (fp) (fq) (((u16).1 30 2).toInt + 1) (((u16).1 30 3).toInt) (op) (bc) (L1) (F1) (d) (G) (by omega) (by omega) (oqX_fr (oFr_oneI (q := 5) (m := 2) rfl (by rfl)) rfl (oqX_fr fu21 rfl (oqX_fr fu16 rfl (oqX_fr fu5 rfl (oqX_fr fu1 rfl hp2))))) (by omega) (by omega) (by omega) (by omega) (oqRw_fr (oFr_oneI (q := 5) (m := 2) rfl (by rfl)) rfl (oqRw_fr fu21 rfl (oqRw_fr fu16 rfl (oqRw_fr fu5 rfl (oqRw_fr fu1 rfl hp7))))) (oqAn_fr (oFr_oneI (q := 5) (m := 2) rfl (by rfl)) rfl (oqAn_fr fu21 rfl hq19)) (by omega) (oqKx_fr (oFr_oneI (q := 5) (m := 2) rfl (by rfl)) rfl (oqKx_fr fu21 rfl pu16_7))) (by omega) rfl rfl rfl (Nat.le_of_ble_eq_true rfl) (oDec_at oX5_fact 91 rfl) (fun r67 u66 pu66 fu66 => ?_)
              try dsimp only at pu66
              try simp only [lk58, lk59, lk60, lk61, lk62, lk63, lk64, lk65] at pu66
              obtain ⟨pu66_0, pu66_1, pu66_2, pu66_3, pu66_4, pu66_5, pu66_6, pu66_7⟩ := pu66
              have rr67 := n_rng r67
              refine r_if_ne C 187 (oDec_at oX5_fact 92 rfl) (by decide) (fun cd68 => ?_) (fun cd68 => ?_)
              · skip
                replace pu66_1 := pu66_1 (by omega)
                replace pu66_2 := pu66_2 (by omega)
                replace pu66_3 := pu66_3 (by omega)
                clear pu66_4
                replace pu66_5 := pu66_5 (by omega)
                replace pu66_6 := pu66_6 (by omega)
                obtain ⟨L2, hL2⟩ : ∃ z, z = ((u66).1 bc 1).toInt := ⟨_, rfl⟩
                obtain ⟨F2, hF2⟩ : ∃ z, z = (u66).1 (bc + 1) := ⟨_, rfl⟩
                have hE2 := pu66_5
                rw [← hL2, ← hF2] at hE2
                try (have hLe2 := hE2.le)
                have hq69 : oqAn bc L2 F2 (u66) := ⟨hkb, hL2.symm, hF2.symm⟩
                refine r_aload_n C (j := 0) (oDec_at oX5_fact 95 rfl) rfl rfl ?_
                refine r_getS (k := 1) (q2 := 0) C oCl5 rfl (by decide) flX5_19 rfl rfl rfl ks1 (oDec_at oX5_fact 96 rfl) (fun b70 rb70 mb70 hkb70 => ?_)
                refine r_iload_n C (j := 2) (oDec_at oX5_fact 97 rfl) rfl rfl ?_
                refine r_bipush C (oDec_at oX5_fact 98 rfl) (v := k60) (by rw [qk60]; rfl) ?_
                refine r_icmp_ne C 203 (oDec_at oX5_fact 99 rfl) (by decide) (fun cd71 => ?_) (fun cd71 => ?_)
                · skip
                  refine r_iload_n C (j := 2) (oDec_at oX5_fact 102 rfl) rfl rfl ?_
                  refine r_bipush C (oDec_at oX5_fact 103 rfl) (v := k62) (by rw [qk62]; rfl) ?_
                  refine r_icmp_ne C 215 (oDec_at oX5_fact 104 rfl) (by decide) (fun cd72 => ?_) (fun cd72 => ?_)
                  · omega
                  · skip
                    refine r_sipush C (oDec_at oX5_fact 105 rfl) (v := k10024) (by rw [qk10024]; rfl) ?_
                    refine r_goto C (tgt := 218) (oDec_at oX5_fact 106 rfl) (by decide) ?_
                    refine r_ty C (fun hty => ?_)
                    have hta : (0 : Int) ≤ ((u66).1 30 2).toInt ∧ ((u66).1 30 2).toInt ≤ 1600 := hty.1 30 2
                    clear hty
                    have hbb : b70 = bc := oqRw_eq (oqRw_fr fu66 rfl (oqRw_fr (oFr_oneI (q := 5) (m := 2) rfl (by rfl)) rfl (oqRw_fr fu21 rfl (oqRw_fr fu16 rfl (oqRw_fr fu5 rfl (oqRw_fr fu1 rfl hp7)))))) (rb70); have hkn : b70 ≠ d := oqKx_ne pu66_7 (rb70)
                    -- !! !oqAn c0 L2 F2 is not known here
                    refine r_callVv C oCl0 hkb70 miX0_emit mlX5_147 (ct9_X0_emit l E (u66) b70 hkb70 k10024 (L2) (F2) (d) (G) (by rw [hbb]; exact hq69) (by omega) pu66_7) (by omega) rfl rfl rfl (Nat.le_of_ble_eq_true rfl) (oDec_at oX5_fact 108 rfl) (fun u73 pu73 fu73 => ?_)
                    try dsimp only at pu73
                    obtain ⟨pu73_0, pu73_1⟩ := pu73
                    have hem := pu73_0 (by omega)
                    rw [hbb] at hem
                    obtain ⟨hem1, hem2⟩ := hem
                    refine r_iconst C (oDec_at oX5_fact 109 rfl) (v := k1) (by rw [qk1]; rfl) ?_
                    have lk75 : ((u73).1 30 2).toInt = (u66.1 30 2).toInt := congrArg Int32.toInt ((fu73 30 2 rfl).1)
                    have lk76 : ((u73).1 30 3).toInt = (u66.1 30 3).toInt := congrArg Int32.toInt ((fu73 30 3 rfl).1)
                    have lk77 : ((u73).1 30 5).toInt = (u66.1 30 5).toInt := congrArg Int32.toInt ((fu73 30 5 rfl).1)
                    have lk78 : ((u73).1 30 2).toInt = (u66.1 30 2).toInt := congrArg Int32.toInt ((fu73 30 2 rfl).1)
                    have lk79 : ((u73).1 30 8).toInt = (u66.1 30 8).toInt := congrArg Int32.toInt ((fu73 30 8 rfl).1)
                    have lk80 : ((u73).1 30 9).toInt = (u66.1 30 9).toInt := congrArg Int32.toInt ((fu73 30 9 rfl).1)
                    have lk81 : ((u73).1 30 8).toInt = (u66.1 30 8).toInt := congrArg Int32.toInt ((fu73 30 8 rfl).1)
                    have lk82 : ((u73).1 30 9).toInt = (u66.1 30 9).toInt := congrArg Int32.toInt ((fu73 30 9 rfl).1)
                    have lk83 : ((u73).1 30 2).toInt = (u66.1 30 2).toInt := congrArg Int32.toInt ((fu73 30 2 rfl).1)
                    have lk84 : ((u73).1 30 3).toInt = (u66.1 30 3).toInt := congrArg Int32.toInt ((fu73 30 3 rfl).1)
                    have lk85 : ((u73).1 30 2).toInt = (u66.1 30 2).toInt := congrArg Int32.toInt ((fu73 30 2 rfl).1)
                    exact r_zret C (n_bool (by omega)) (oDec_at oX5_fact 110 rfl) ⟨_, rfl, ⟨by omega, fun _ => by rw [show oqSk g ((u73).1 30 2).toInt = ((u66).1 30 2).toInt by (rw [show ((u73).1 30 2).toInt = ((u66).1 30 2).toInt by omega]; omega)]; exact (oqf_sgnY (by omega) (by omega) (by omega) pu16_1 pu16_2 (by omega) pu66_1 pu66_2).cast (by omega) (by omega), by omega, fun h => by exfalso; omega, fun _ => by rw [show oqSk g ((u73).1 30 2).toInt = ((u66).1 30 2).toInt by (rw [show ((u73).1 30 2).toInt = ((u66).1 30 2).toInt by omega]; omega)]; exact oqEc.nw ((oqe_sgn (v := k10024) (by omega) (by omega) (by omega) hE1 pu16_2 hE2 pu66_2 (by omega) rfl rfl).cast (by omega) (by omega)) (by omega) hem2, fun h9 => by omega, pu73_1⟩⟩
                · omega
              · skip
                clear pu66_1
                clear pu66_2
                clear pu66_3
                replace pu66_4 := pu66_4 (by omega)
                clear pu66_5
                clear pu66_6
                refine r_iconst C (oDec_at oX5_fact 93 rfl) (v := k0) (by rw [qk0]; rfl) ?_
                exact r_zret C (n_bool (by omega)) (oDec_at oX5_fact 94 rfl) ⟨_, rfl, ⟨by omega, fun h => by exfalso; omega, by omega, fun _ => oqf_sgnF (by omega) (by omega) (by omega) pu16_1 pu16_2 (by omega) pu66_4, fun h => by exfalso; omega, fun h => by exfalso; omega, pu66_7⟩⟩
            · skip
              refine r_iload_n C (j := 2) (oDec_at oX5_fact 75 rfl) rfl rfl ?_
              refine r_bipush C (oDec_at oX5_fact 76 rfl) (v := k61) (by rw [qk61]; rfl) ?_
              refine r_icmp_eq C 168 (oDec_at oX5_fact 77 rfl) (by decide) (fun cd86 => ?_) (fun cd86 => ?_)
              · skip
                refine r_aload_n C (j := 0) (oDec_at oX5_fact 84 rfl) rfl rfl ?_
                refine r_dup C (oDec_at oX5_fact 85 rfl) rfl ?_
                obtain ⟨v87, ev87⟩ : ∃ z : Int32, (u21).1 30 2 = z := ⟨_, rfl⟩
                have gv87 : (u21.1 30 2).toInt = v87.toInt := congrArg Int32.toInt (ev87)
                refine r_geti (k := 2) (lo := 0) (hi := 1600) C v87 oCl5 rfl (by decide) flX5_23 rfl rfl (ev87) rfl rfl (oDec_at oX5_fact 86 rfl) (fun b88 b88h => ?_)
                refine r_iconst C (oDec_at oX5_fact 87 rfl) (v := k1) (by rw [qk1]; rfl) ?_
                obtain ⟨v89, ev89⟩ : ∃ z : Int32, z = v87 + k1 := ⟨_, rfl⟩
                have hv89 : v89.toInt = v87.toInt + k1.toInt := n_add ev89 (by omega) (by omega)
                refine r_iadd C v89 (oDec_at oX5_fact 88 rfl) ev89 ?_
                refine r_puti (k := 2) (lo := 0) (hi := 1600) C oCl5 rfl (by decide) flX5_23 rfl rfl rfl rfl rfl rfl rfl rfl ⟨by omega, by omega⟩ (oDec_at oX5_fact 89 rfl) ?_
                refine r_pc C 178 rfl ?_
                refine r_aload_n C (j := 0) (oDec_at oX5_fact 90 rfl) rfl rfl ?_
                have lk90 : (((pI u21 30 2 v89)).1 30 2).toInt = v89.toInt := congrArg Int32.toInt ((pI_self _ _ _ _))
                have lk91 : (((pI u21 30 2 v89)).1 30 3).toInt = (u16.1 30 3).toInt := congrArg Int32.toInt (((pI_ne (a := 30) (b := 3) (c := 30) (k := 2) _ _ (Or.inr (by decide)))).trans ((fu21 30 3 rfl).1))
                have lk92 : (((pI u21 30 2 v89)).1 30 5).toInt = (u16.1 30 5).toInt := congrArg Int32.toInt (((pI_ne (a := 30) (b := 5) (c := 30) (k := 2) _ _ (Or.inr (by decide)))).trans ((fu21 30 5 rfl).1))
                have lk93 : (((pI u21 30 2 v89)).1 30 6).toInt = (s.1 30 6).toInt := congrArg Int32.toInt (((pI_ne (a := 30) (b := 6) (c := 30) (k := 2) _ _ (Or.inr (by decide)))).trans (((fu21 30 6 rfl).1).trans (((fu16 30 6 rfl).1).trans (((fu5 30 6 rfl).1).trans ((fu1 30 6 rfl).1)))))
                have lk94 : (((pI u21 30 2 v89)).1 30 7).toInt = (s.1 30 7).toInt := congrArg Int32.toInt (((pI_ne (a := 30) (b := 7) (c := 30) (k := 2) _ _ (Or.inr (by decide)))).trans (((fu21 30 7 rfl).1).trans (((fu16 30 7 rfl).1).trans (((fu5 30 7 rfl).1).trans ((fu1 30 7 rfl).1)))))
                have lk95 : (((pI u21 30 2 v89)).1 30 5).toInt = (u16.1 30 5).toInt := congrArg Int32.toInt (((pI_ne (a := 30) (b := 5) (c := 30) (k := 2) _ _ (Or.inr (by decide)))).trans ((fu21 30 5 rfl).1))
                have lk96 : (((pI u21 30 2 v89)).1 30 8).toInt = (u16.1 30 8).toInt := congrArg Int32.toInt (((pI_ne (a := 30) (b := 8) (c := 30) (k := 2) _ _ (Or.inr (by decide)))).trans ((fu21 30 8 rfl).1))
                have lk97 : (((pI u21 30 2 v89)).1 30 9).toInt = (u16.1 30 9).toInt := congrArg Int32.toInt (((pI_ne (a := 30) (b := 9) (c := 30) (k := 2) _ _ (Or.inr (by decide)))).trans ((fu21 30 9 rfl).1))
                refine r_callVi C oCl5 rfl miX5_sum mlX5_160 (h_X5_sum ((pI u21 30 2 v89))  (g) (fp) (fq) (((u16).1 30 2).toInt + 1) (((u16).1 30 3).toInt) (op) (bc) (L1) (F1) (d) (G) (by omega) (by omega) (oqX_fr (oFr_oneI (q := 5) (m := 2) rfl (by rfl)) rfl (oqX_fr fu21 rfl (oqX_fr fu16 rfl (oqX_fr fu5 rfl (oqX_fr fu1 rfl hp2))))) (by omega) (by omega) (by omega) (by omega) (oqRw_fr (oFr_oneI (q := 5) (m := 2) rfl (by rfl)) rfl (oqRw_fr fu21 rfl (oqRw_fr fu16 rfl (oqRw_fr fu5 rfl (oqRw_fr fu1 rfl hp7))))) (oqAn_fr (oFr_oneI (q := 5) (m := 2) rfl (by rfl)) rfl (oqAn_fr fu21 rfl hq19)) (by omega) (oqKx_fr (oFr_oneI (q := 5) (m := 2) rfl (by rfl)) rfl (oqKx_fr fu21 rfl pu16_7))) (by omega) rfl rfl rfl (Nat.le_of_ble_eq_true rfl) (oDec_at oX5_fact 91 rfl) (fun r99 u98 pu98 fu98 => ?_)
                try dsimp only at pu98
                try simp only [lk90, lk91, lk92, lk93, lk94, lk95, lk96, lk97] at pu98
                obtain ⟨pu98_0, pu98_1, pu98_2, pu98_3, pu98_4, pu98_5, pu98_6, pu98_7⟩ := pu98
                have rr99 := n_rng r99
                refine r_if_ne C 187 (oDec_at oX5_fact 92 rfl) (by decide) (fun cd100 => ?_) (fun cd100 => ?_)
                · skip
                  replace pu98_1 := pu98_1 (by omega)
                  replace pu98_2 := pu98_2 (by omega)
                  replace pu98_3 := pu98_3 (by omega)
                  clear pu98_4
                  replace pu98_5 := pu98_5 (by omega)
                  replace pu98_6 := pu98_6 (by omega)
                  obtain ⟨L2, hL2⟩ : ∃ z, z = ((u98).1 bc 1).toInt := ⟨_, rfl⟩
                  obtain ⟨F2, hF2⟩ : ∃ z, z = (u98).1 (bc + 1) := ⟨_, rfl⟩
                  have hE2 := pu98_5
                  rw [← hL2, ← hF2] at hE2
                  try (have hLe2 := hE2.le)
                  have hq101 : oqAn bc L2 F2 (u98) := ⟨hkb, hL2.symm, hF2.symm⟩
                  refine r_aload_n C (j := 0) (oDec_at oX5_fact 95 rfl) rfl rfl ?_
                  refine r_getS (k := 1) (q2 := 0) C oCl5 rfl (by decide) flX5_19 rfl rfl rfl ks1 (oDec_at oX5_fact 96 rfl) (fun b102 rb102 mb102 hkb102 => ?_)
                  refine r_iload_n C (j := 2) (oDec_at oX5_fact 97 rfl) rfl rfl ?_
                  refine r_bipush C (oDec_at oX5_fact 98 rfl) (v := k60) (by rw [qk60]; rfl) ?_
                  refine r_icmp_ne C 203 (oDec_at oX5_fact 99 rfl) (by decide) (fun cd103 => ?_) (fun cd103 => ?_)
                  · skip
                    refine r_iload_n C (j := 2) (oDec_at oX5_fact 102 rfl) rfl rfl ?_
                    refine r_bipush C (oDec_at oX5_fact 103 rfl) (v := k62) (by rw [qk62]; rfl) ?_
                    refine r_icmp_ne C 215 (oDec_at oX5_fact 104 rfl) (by decide) (fun cd104 => ?_) (fun cd104 => ?_)
                    · skip
                      refine r_sipush C (oDec_at oX5_fact 107 rfl) (v := k10025) (by rw [qk10025]; rfl) ?_
                      refine r_ty C (fun hty => ?_)
                      have hta : (0 : Int) ≤ ((u98).1 30 2).toInt ∧ ((u98).1 30 2).toInt ≤ 1600 := hty.1 30 2
                      clear hty
                      have hbb : b102 = bc := oqRw_eq (oqRw_fr fu98 rfl (oqRw_fr (oFr_oneI (q := 5) (m := 2) rfl (by rfl)) rfl (oqRw_fr fu21 rfl (oqRw_fr fu16 rfl (oqRw_fr fu5 rfl (oqRw_fr fu1 rfl hp7)))))) (rb102); have hkn : b102 ≠ d := oqKx_ne pu98_7 (rb102)
                      -- !! !oqAn c0 L2 F2 is not known here
                      refine r_callVv C oCl0 hkb102 miX0_emit mlX5_147 (ct9_X0_emit l E (u98) b102 hkb102 k10025 (L2) (F2) (d) (G) (by rw [hbb]; exact hq101) (by omega) pu98_7) (by omega) rfl rfl rfl (Nat.le_of_ble_eq_true rfl) (oDec_at oX5_fact 108 rfl) (fun u105 pu105 fu105 => ?_)
                      try dsimp only at pu105
                      obtain ⟨pu105_0, pu105_1⟩ := pu105
                      have hem := pu105_0 (by omega)
                      rw [hbb] at hem
                      obtain ⟨hem1, hem2⟩ := hem
                      refine r_iconst C (oDec_at oX5_fact 109 rfl) (v := k1) (by rw [qk1]; rfl) ?_
                      have lk107 : ((u105).1 30 2).toInt = (u98.1 30 2).toInt := congrArg Int32.toInt ((fu105 30 2 rfl).1)
                      have lk108 : ((u105).1 30 3).toInt = (u98.1 30 3).toInt := congrArg Int32.toInt ((fu105 30 3 rfl).1)
                      have lk109 : ((u105).1 30 5).toInt = (u98.1 30 5).toInt := congrArg Int32.toInt ((fu105 30 5 rfl).1)
                      have lk110 : ((u105).1 30 2).toInt = (u98.1 30 2).toInt := congrArg Int32.toInt ((fu105 30 2 rfl).1)
                      have lk111 : ((u105).1 30 8).toInt = (u98.1 30 8).toInt := congrArg Int32.toInt ((fu105 30 8 rfl).1)
                      have lk112 : ((u105).1 30 9).toInt = (u98.1 30 9).toInt := congrArg Int32.toInt ((fu105 30 9 rfl).1)
                      have lk113 : ((u105).1 30 8).toInt = (u98.1 30 8).toInt := congrArg Int32.toInt ((fu105 30 8 rfl).1)
                      have lk114 : ((u105).1 30 9).toInt = (u98.1 30 9).toInt := congrArg Int32.toInt ((fu105 30 9 rfl).1)
                      have lk115 : ((u105).1 30 2).toInt = (u98.1 30 2).toInt := congrArg Int32.toInt ((fu105 30 2 rfl).1)
                      have lk116 : ((u105).1 30 3).toInt = (u98.1 30 3).toInt := congrArg Int32.toInt ((fu105 30 3 rfl).1)
                      have lk117 : ((u105).1 30 2).toInt = (u98.1 30 2).toInt := congrArg Int32.toInt ((fu105 30 2 rfl).1)
                      exact r_zret C (n_bool (by omega)) (oDec_at oX5_fact 110 rfl) ⟨_, rfl, ⟨by omega, fun _ => by rw [show oqSk g ((u105).1 30 2).toInt = ((u98).1 30 2).toInt by (rw [show ((u105).1 30 2).toInt = ((u98).1 30 2).toInt by omega]; omega)]; exact (oqf_sgnY (by omega) (by omega) (by omega) pu16_1 pu16_2 (by omega) pu98_1 pu98_2).cast (by omega) (by omega), by omega, fun h => by exfalso; omega, fun _ => by rw [show oqSk g ((u105).1 30 2).toInt = ((u98).1 30 2).toInt by (rw [show ((u105).1 30 2).toInt = ((u98).1 30 2).toInt by omega]; omega)]; exact oqEc.nw ((oqe_sgn (v := k10025) (by omega) (by omega) (by omega) hE1 pu16_2 hE2 pu98_2 (by omega) rfl rfl).cast (by omega) (by omega)) (by omega) hem2, fun h9 => by omega, pu105_1⟩⟩
                    · omega
                  · omega
                · skip
                  clear pu98_1
                  clear pu98_2
                  clear pu98_3
                  replace pu98_4 := pu98_4 (by omega)
                  clear pu98_5
                  clear pu98_6
                  refine r_iconst C (oDec_at oX5_fact 93 rfl) (v := k0) (by rw [qk0]; rfl) ?_
                  exact r_zret C (n_bool (by omega)) (oDec_at oX5_fact 94 rfl) ⟨_, rfl, ⟨by omega, fun h => by exfalso; omega, by omega, fun _ => oqf_sgnF (by omega) (by omega) (by omega) pu16_1 pu16_2 (by omega) pu98_4, fun h => by exfalso; omega, fun h => by exfalso; omega, pu98_7⟩⟩
              · skip
                refine r_aload_n C (j := 0) (oDec_at oX5_fact 78 rfl) rfl rfl ?_
                refine r_iconst C (oDec_at oX5_fact 79 rfl) (v := k1) (by rw [qk1]; rfl) ?_
                refine r_aload_n C (j := 0) (oDec_at oX5_fact 80 rfl) rfl rfl ?_
                obtain ⟨v118, ev118⟩ : ∃ z : Int32, (u21).1 30 2 = z := ⟨_, rfl⟩
                have gv118 : (u21.1 30 2).toInt = v118.toInt := congrArg Int32.toInt (ev118)
                refine r_geti (k := 2) (lo := 0) (hi := 1600) C v118 oCl5 rfl (by decide) flX5_23 rfl rfl (ev118) rfl rfl (oDec_at oX5_fact 81 rfl) (fun b119 b119h => ?_)
                refine r_callVi C oCl5 rfl miX5_fail mlX5_62 (ct4_X5_fail l E (u21) k1 v118 ) (by omega) rfl rfl rfl (Nat.le_of_ble_eq_true rfl) (oDec_at oX5_fact 82 rfl) (fun r121 u120 pu120 fu120 => ?_)
                try dsimp only at pu120
                obtain ⟨pu120_0, pu120_1, pu120_2, pu120_3⟩ := pu120
                have rr121 := n_rng r121
                have lk122 : ((u120).1 30 2).toInt = v118.toInt := congrArg Int32.toInt (((fu120 30 2 rfl).1).trans (ev118))
                have lk123 : ((u120).1 30 3).toInt = (u16.1 30 3).toInt := congrArg Int32.toInt (((fu120 30 3 rfl).1).trans ((fu21 30 3 rfl).1))
                have lk124 : ((u120).1 30 5).toInt = (u16.1 30 5).toInt := congrArg Int32.toInt (((fu120 30 5 rfl).1).trans ((fu21 30 5 rfl).1))
                have lk125 : ((u120).1 30 2).toInt = v118.toInt := congrArg Int32.toInt (((fu120 30 2 rfl).1).trans (ev118))
                have lk126 : ((u120).1 30 2).toInt = v118.toInt := congrArg Int32.toInt (((fu120 30 2 rfl).1).trans (ev118))
                have lk127 : ((u120).1 30 3).toInt = (u16.1 30 3).toInt := congrArg Int32.toInt (((fu120 30 3 rfl).1).trans ((fu21 30 3 rfl).1))
                have lk128 : ((u120).1 30 2).toInt = v118.toInt := congrArg Int32.toInt (((fu120 30 2 rfl).1).trans (ev118))
                exact r_zret C (n_bool (by omega)) (oDec_at oX5_fact 83 rfl) ⟨_, rfl, ⟨by omega, fun h => by exfalso; omega, by omega, fun _ => (oqf_sgnN (by omega) (by omega) (by omega) pu16_1 pu16_2 (by omega)).cast (by omega) (by omega), fun h => by exfalso; omega, fun h => by exfalso; omega, (oqKx_fr fu120 rfl (oqKx_fr fu21 rfl pu16_7))⟩⟩
        · skip
          clear pu16_1
          clear pu16_2
          clear pu16_3
          replace pu16_4 := pu16_4 (by omega)
          clear pu16_5
          clear pu16_6
          rw [hss] at pu16_4
          refine r_iconst C (oDec_at oX5_fact 64 rfl) (v := k0) (by rw [qk0]; rfl) ?_
          exact r_zret C (n_bool (by omega)) (oDec_at oX5_fact 65 rfl) ⟨_, rfl, ⟨by omega, fun h => by exfalso; omega, by omega, fun _ => oqf_sumF (by omega) (by omega) (by omega) pu16_4, fun h => by exfalso; omega, fun h => by exfalso; omega, pu16_7⟩⟩
      · skip
        have hH9 := oqWi_is (g := g) (a := oqSk g a) (b := b) (i := 10) (by decide)
        have hHa : oqHa g (oqSk g a) 10 = oqSk g (oqSk g a) + (oqWl 10 : Int) := rfl
        have hl9 : oqWl 10 = 3 := rfl
        refine r_aload_n C (j := 0) (oDec_at oX5_fact 53 rfl) rfl rfl ?_
        refine r_getS (k := 1) (q2 := 0) C oCl5 rfl (by decide) flX5_19 rfl rfl rfl ks1 (oDec_at oX5_fact 54 rfl) (fun b129 rb129 mb129 hkb129 => ?_)
        refine r_iconst C (oDec_at oX5_fact 55 rfl) (v := k1) (by rw [qk1]; rfl) ?_
        have hbb : b129 = bc := oqRw_eq (oqRw_fr fu5 rfl (oqRw_fr fu1 rfl hp7)) (rb129); have hkn : b129 ≠ d := oqKx_ne (oqKx_fr fu5 rfl (oqKx_fr fu1 rfl hp10)) (rb129)
        -- !! !oqAn c0 L F is not known here
        refine r_callVv C oCl0 hkb129 miX0_emit mlX5_147 (ct9_X0_emit l E (u5) b129 hkb129 k1 (L) (F) (d) (G) (by rw [hbb]; exact (oqAn_fr fu5 rfl (oqAn_fr fu1 rfl hp8))) (by omega) (oqKx_fr fu5 rfl (oqKx_fr fu1 rfl hp10))) (by omega) rfl rfl rfl (Nat.le_of_ble_eq_true rfl) (oDec_at oX5_fact 56 rfl) (fun u130 pu130 fu130 => ?_)
        try dsimp only at pu130
        obtain ⟨pu130_0, pu130_1⟩ := pu130
        obtain ⟨L3, hL3⟩ : ∃ z, z = ((u130).1 bc 1).toInt := ⟨_, rfl⟩
        obtain ⟨F3, hF3⟩ : ∃ z, z = (u130).1 (bc + 1) := ⟨_, rfl⟩
        have hem := pu130_0
        rw [hbb] at hem
        have hq132 : oqAn bc L3 F3 (u130) := ⟨hkb, hL3.symm, hF3.symm⟩
        refine r_aload_n C (j := 0) (oDec_at oX5_fact 57 rfl) rfl rfl ?_
        refine r_bipush C (oDec_at oX5_fact 58 rfl) (v := k10) (by rw [qk10]; rfl) ?_
        refine r_pc C 122 rfl ?_
        have lk133 : ((u130).1 30 2).toInt = (u5.1 30 2).toInt := congrArg Int32.toInt ((fu130 30 2 rfl).1)
        have lk134 : ((u130).1 30 3).toInt = (s.1 30 3).toInt := congrArg Int32.toInt (((fu130 30 3 rfl).1).trans (((fu5 30 3 rfl).1).trans ((fu1 30 3 rfl).1)))
        have lk135 : ((u130).1 30 8).toInt = (s.1 30 8).toInt := congrArg Int32.toInt (((fu130 30 8 rfl).1).trans (((fu5 30 8 rfl).1).trans ((fu1 30 8 rfl).1)))
        have lk136 : ((u130).1 30 9).toInt = (s.1 30 9).toInt := congrArg Int32.toInt (((fu130 30 9 rfl).1).trans (((fu5 30 9 rfl).1).trans ((fu1 30 9 rfl).1)))
        refine r_callVi C oCl5 rfl miX5_expect mlX5_74 (ct4_X5_expect l E (u130) k10 (g) (oqSk g a) (b) (10) (by omega) (by omega) (oqX_fr fu130 rfl (oqX_fr fu5 rfl (oqX_fr fu1 rfl hp2))) (by omega) (by omega)) (by omega) rfl rfl rfl (Nat.le_of_ble_eq_true rfl) (oDec_at oX5_fact 59 rfl) (fun r138 u137 pu137 fu137 => ?_)
        try dsimp only at pu137
        try simp only [lk133, lk134, lk135, lk136] at pu137
        obtain ⟨pu137_0, pu137_1, pu137_2⟩ := pu137
        have rr138 := n_rng r138
        refine r_ty C (fun hty8 => ?_)
        have hpl8 : ((u137).1 30 3).toInt ≤ 1600 := (hty8.1 30 3).2
        clear hty8
        have lk139 : ((u137).1 30 5).toInt = (s.1 30 5).toInt := congrArg Int32.toInt (((fu137 30 5 rfl).1).trans (((fu130 30 5 rfl).1).trans (((fu5 30 5 rfl).1).trans ((fu1 30 5 rfl).1))))
        exact r_zret C (n_bool (by omega)) (oDec_at oX5_fact 60 rfl) ⟨_, rfl, ⟨by omega, fun _ => (oqf_all (by omega) (by omega)).castS (by omega) (by omega), by omega, fun h => by exfalso; omega, fun _ => oqEc.an ((oqe_all (v := k1) (by omega) (by omega) (by omega) (by omega) (by (have h8 := hem (by omega); omega)) (by rw [hF3]; exact (hem (by omega)).2)).castS (by omega) (by omega)) (oqAn_fr fu137 rfl hq132), fun h9 => by (have h8 := (hem (by omega)).1; have hn9 := ((oqAn_fr fu137 rfl hq132)).2.1; omega), (oqKx_fr fu137 rfl pu130_1)⟩⟩
    · skip
      have hH9 := oqWi_is (g := g) (a := oqSk g a) (b := b) (i := 9) (by decide)
      have hHa : oqHa g (oqSk g a) 9 = oqSk g (oqSk g a) + (oqWl 9 : Int) := rfl
      have hl9 : oqWl 9 = 3 := rfl
      refine r_aload_n C (j := 0) (oDec_at oX5_fact 31 rfl) rfl rfl ?_
      have lk140 : ((u5).1 30 5).toInt = (s.1 30 5).toInt := congrArg Int32.toInt (((fu5 30 5 rfl).1).trans ((fu1 30 5 rfl).1))
      have lk141 : ((u5).1 30 8).toInt = (s.1 30 8).toInt := congrArg Int32.toInt (((fu5 30 8 rfl).1).trans ((fu1 30 8 rfl).1))
      have lk142 : ((u5).1 30 9).toInt = (s.1 30 9).toInt := congrArg Int32.toInt (((fu5 30 9 rfl).1).trans ((fu1 30 9 rfl).1))
      have lk143 : ((u5).1 30 5).toInt = (s.1 30 5).toInt := congrArg Int32.toInt (((fu5 30 5 rfl).1).trans ((fu1 30 5 rfl).1))
      refine r_callVi C oCl5 rfl miX5_opens mlX5_154 (ct4_X5_opens l E (u5)  ) (by omega) rfl rfl rfl (Nat.le_of_ble_eq_true rfl) (oDec_at oX5_fact 32 rfl) (fun r145 u144 pu144 fu144 => ?_)
      try dsimp only at pu144
      try simp only [lk140, lk141, lk142, lk143] at pu144
      obtain ⟨pu144_0, pu144_1, pu144_2⟩ := pu144
      have rr145 := n_rng r145
      refine r_if_eq C 88 (oDec_at oX5_fact 33 rfl) (by decide) (fun cd146 => ?_) (fun cd146 => ?_)
      · skip
        clear pu144_1
        replace pu144_2 := pu144_2 (by omega)
        refine r_iconst C (oDec_at oX5_fact 41 rfl) (v := k0) (by rw [qk0]; rfl) ?_
        have lk147 : ((u144).1 30 2).toInt = (u5.1 30 2).toInt := congrArg Int32.toInt ((fu144 30 2 rfl).1)
        have lk148 : ((u144).1 30 3).toInt = (s.1 30 3).toInt := congrArg Int32.toInt (((fu144 30 3 rfl).1).trans (((fu5 30 3 rfl).1).trans ((fu1 30 3 rfl).1)))
        have lk149 : ((u144).1 30 2).toInt = (u5.1 30 2).toInt := congrArg Int32.toInt ((fu144 30 2 rfl).1)
        have lk150 : ((u144).1 30 2).toInt = (u5.1 30 2).toInt := congrArg Int32.toInt ((fu144 30 2 rfl).1)
        have lk151 : ((u144).1 30 3).toInt = (s.1 30 3).toInt := congrArg Int32.toInt (((fu144 30 3 rfl).1).trans (((fu5 30 3 rfl).1).trans ((fu1 30 3 rfl).1)))
        have lk152 : ((u144).1 30 2).toInt = (u5.1 30 2).toInt := congrArg Int32.toInt ((fu144 30 2 rfl).1)
        exact r_zret C (n_bool (by omega)) (oDec_at oX5_fact 42 rfl) ⟨_, rfl, ⟨by omega, fun h => by exfalso; omega, by omega, by first | exact fun _ => (oqf_deepN (by omega) (by omega) (by omega)).cast (by omega) (by omega) | exact fun _ => oqf_notF (by omega) (by omega) (by omega) pu144_3 | (intro h; exfalso; omega), fun h => by exfalso; omega, fun h => by exfalso; omega, (oqKx_fr fu144 rfl (oqKx_fr fu5 rfl (oqKx_fr fu1 rfl hp10)))⟩⟩
      · skip
        replace pu144_1 := pu144_1 (by omega)
        clear pu144_2
        refine r_aload_n C (j := 0) (oDec_at oX5_fact 34 rfl) rfl rfl ?_
        refine r_bipush C (oDec_at oX5_fact 35 rfl) (v := k9) (by rw [qk9]; rfl) ?_
        have lk153 : ((u144).1 30 2).toInt = (u5.1 30 2).toInt := congrArg Int32.toInt ((fu144 30 2 rfl).1)
        have lk154 : ((u144).1 30 3).toInt = (s.1 30 3).toInt := congrArg Int32.toInt (((fu144 30 3 rfl).1).trans (((fu5 30 3 rfl).1).trans ((fu1 30 3 rfl).1)))
        refine r_callVi C oCl5 rfl miX5_expect mlX5_74 (ct4_X5_expect l E (u144) k9 (g) (oqSk g a) (b) (9) (by omega) (by omega) (oqX_fr fu144 rfl (oqX_fr fu5 rfl (oqX_fr fu1 rfl hp2))) (by omega) (by omega)) (by omega) rfl rfl rfl (Nat.le_of_ble_eq_true rfl) (oDec_at oX5_fact 36 rfl) (fun r156 u155 pu155 fu155 => ?_)
        try dsimp only at pu155
        try simp only [lk153, lk154] at pu155
        obtain ⟨pu155_0, pu155_1, pu155_2⟩ := pu155
        have rr156 := n_rng r156
        refine r_if_eq C 88 (oDec_at oX5_fact 37 rfl) (by decide) (fun cd157 => ?_) (fun cd157 => ?_)
        · skip
          clear pu155_1
          replace pu155_2 := pu155_2 (by omega)
          refine r_iconst C (oDec_at oX5_fact 41 rfl) (v := k0) (by rw [qk0]; rfl) ?_
          have lk158 : ((u155).1 30 5).toInt = (u144.1 30 5).toInt := congrArg Int32.toInt ((fu155 30 5 rfl).1)
          exact r_zret C (n_bool (by omega)) (oDec_at oX5_fact 42 rfl) ⟨_, rfl, ⟨by omega, fun h => by exfalso; omega, by omega, by first | exact fun _ => (oqf_deepN (by omega) (by omega) (by omega)).cast (by omega) (by omega) | exact fun _ => oqf_notF (by omega) (by omega) (by omega) pu155_3 | (intro h; exfalso; omega), fun h => by exfalso; omega, fun h => by exfalso; omega, (oqKx_fr fu155 rfl (oqKx_fr fu144 rfl (oqKx_fr fu5 rfl (oqKx_fr fu1 rfl hp10))))⟩⟩
        · skip
          replace pu155_1 := pu155_1 (by omega)
          clear pu155_2
          refine r_aload_n C (j := 0) (oDec_at oX5_fact 38 rfl) rfl rfl ?_
          have lk159 : ((u155).1 30 5).toInt = (u144.1 30 5).toInt := congrArg Int32.toInt ((fu155 30 5 rfl).1)
          have lk160 : ((u155).1 30 6).toInt = (s.1 30 6).toInt := congrArg Int32.toInt (((fu155 30 6 rfl).1).trans (((fu144 30 6 rfl).1).trans (((fu5 30 6 rfl).1).trans ((fu1 30 6 rfl).1))))
          have lk161 : ((u155).1 30 7).toInt = (s.1 30 7).toInt := congrArg Int32.toInt (((fu155 30 7 rfl).1).trans (((fu144 30 7 rfl).1).trans (((fu5 30 7 rfl).1).trans ((fu1 30 7 rfl).1))))
          have lk162 : ((u155).1 30 5).toInt = (u144.1 30 5).toInt := congrArg Int32.toInt ((fu155 30 5 rfl).1)
          refine r_callVi C oCl5 rfl miX5_fact mlX5_151 (((ih (N - 1) (by omega)).2.2.2.2.1) (u155)  (g) (fp) (fq) (oqHa g (oqSk g a) 9) (oqHa g (oqSk g a) 9) (op + 1) (bc) (L) (F) (d) (G) (by omega) (by omega) (oqX_fr fu155 rfl (oqX_fr fu144 rfl (oqX_fr fu5 rfl (oqX_fr fu1 rfl hp2)))) (by omega) (by omega) (by omega) (by omega) (oqRw_fr fu155 rfl (oqRw_fr fu144 rfl (oqRw_fr fu5 rfl (oqRw_fr fu1 rfl hp7)))) (oqAn_fr fu155 rfl (oqAn_fr fu144 rfl (oqAn_fr fu5 rfl (oqAn_fr fu1 rfl hp8)))) (by omega) (oqKx_fr fu155 rfl (oqKx_fr fu144 rfl (oqKx_fr fu5 rfl (oqKx_fr fu1 rfl hp10))))) (by omega) rfl rfl rfl (Nat.le_of_ble_eq_true rfl) (oDec_at oX5_fact 39 rfl) (fun r164 u163 pu163 fu163 => ?_)
          try dsimp only at pu163
          try simp only [lk159, lk160, lk161, lk162] at pu163
          obtain ⟨pu163_0, pu163_1, pu163_2, pu163_3, pu163_4, pu163_5, pu163_6⟩ := pu163
          have rr164 := n_rng r164
          refine r_if_ne C 90 (oDec_at oX5_fact 40 rfl) (by decide) (fun cd165 => ?_) (fun cd165 => ?_)
          · skip
            replace pu163_1 := pu163_1 (by omega)
            replace pu163_2 := pu163_2 (by omega)
            clear pu163_3
            replace pu163_4 := pu163_4 (by omega)
            replace pu163_5 := pu163_5 (by omega)
            obtain ⟨L1, hL1⟩ : ∃ z, z = ((u163).1 bc 1).toInt := ⟨_, rfl⟩
            obtain ⟨F1, hF1⟩ : ∃ z, z = (u163).1 (bc + 1) := ⟨_, rfl⟩
            have hE1 := pu163_4
            rw [← hL1, ← hF1] at hE1
            try (have hLe1 := hE1.le)
            have hq166 : oqAn bc L1 F1 (u163) := ⟨hkb, hL1.symm, hF1.symm⟩
            refine r_aload_n C (j := 0) (oDec_at oX5_fact 43 rfl) rfl rfl ?_
            refine r_getS (k := 1) (q2 := 0) C oCl5 rfl (by decide) flX5_19 rfl rfl rfl ks1 (oDec_at oX5_fact 44 rfl) (fun b167 rb167 mb167 hkb167 => ?_)
            refine r_sipush C (oDec_at oX5_fact 45 rfl) (v := k10020) (by rw [qk10020]; rfl) ?_
            refine r_ty C (fun hty => ?_)
            have hta : (0 : Int) ≤ ((u163).1 30 2).toInt ∧ ((u163).1 30 2).toInt ≤ 1600 := hty.1 30 2
            clear hty
            have hbb : b167 = bc := oqRw_eq (oqRw_fr fu163 rfl (oqRw_fr fu155 rfl (oqRw_fr fu144 rfl (oqRw_fr fu5 rfl (oqRw_fr fu1 rfl hp7))))) (rb167); have hkn : b167 ≠ d := oqKx_ne pu163_6 (rb167)
            -- !! !oqAn c0 L1 F1 is not known here
            refine r_callVv C oCl0 hkb167 miX0_emit mlX5_147 (ct9_X0_emit l E (u163) b167 hkb167 k10020 (L1) (F1) (d) (G) (by rw [hbb]; exact hq166) (by omega) pu163_6) (by omega) rfl rfl rfl (Nat.le_of_ble_eq_true rfl) (oDec_at oX5_fact 46 rfl) (fun u168 pu168 fu168 => ?_)
            try dsimp only at pu168
            obtain ⟨pu168_0, pu168_1⟩ := pu168
            have hem := pu168_0 (by omega)
            rw [hbb] at hem
            obtain ⟨hem1, hem2⟩ := hem
            obtain ⟨L3, hL3⟩ : ∃ z, z = ((u168).1 bc 1).toInt := ⟨_, rfl⟩
            obtain ⟨F3, hF3⟩ : ∃ z, z = (u168).1 (bc + 1) := ⟨_, rfl⟩
            have hq170 : oqAn bc L3 F3 (u168) := ⟨hkb, hL3.symm, hF3.symm⟩
            refine r_aload_n C (j := 0) (oDec_at oX5_fact 47 rfl) rfl rfl ?_
            have lk171 : ((u168).1 30 5).toInt = (u163.1 30 5).toInt := congrArg Int32.toInt ((fu168 30 5 rfl).1)
            have lk172 : ((u168).1 30 5).toInt = (u163.1 30 5).toInt := congrArg Int32.toInt ((fu168 30 5 rfl).1)
            refine r_callVi C oCl5 rfl miX5_closes mlX5_157 (ct4_X5_closes l E (u168)  (by omega)) (by omega) rfl rfl rfl (Nat.le_of_ble_eq_true rfl) (oDec_at oX5_fact 48 rfl) (fun r174 u173 pu173 fu173 => ?_)
            try dsimp only at pu173
            try simp only [lk171, lk172] at pu173
            obtain ⟨pu173_0, pu173_1⟩ := pu173
            have rr174 := n_rng r174
            refine r_pc C 104 rfl ?_
            have lk175 : ((u173).1 30 2).toInt = (u163.1 30 2).toInt := congrArg Int32.toInt (((fu173 30 2 rfl).1).trans ((fu168 30 2 rfl).1))
            have lk176 : ((u173).1 30 3).toInt = (u163.1 30 3).toInt := congrArg Int32.toInt (((fu173 30 3 rfl).1).trans ((fu168 30 3 rfl).1))
            have lk177 : ((u173).1 30 2).toInt = (u163.1 30 2).toInt := congrArg Int32.toInt (((fu173 30 2 rfl).1).trans ((fu168 30 2 rfl).1))
            have lk178 : ((u173).1 30 8).toInt = (u163.1 30 8).toInt := congrArg Int32.toInt (((fu173 30 8 rfl).1).trans ((fu168 30 8 rfl).1))
            have lk179 : ((u173).1 30 9).toInt = (u163.1 30 9).toInt := congrArg Int32.toInt (((fu173 30 9 rfl).1).trans ((fu168 30 9 rfl).1))
            have lk180 : ((u173).1 30 8).toInt = (u163.1 30 8).toInt := congrArg Int32.toInt (((fu173 30 8 rfl).1).trans ((fu168 30 8 rfl).1))
            have lk181 : ((u173).1 30 9).toInt = (u163.1 30 9).toInt := congrArg Int32.toInt (((fu173 30 9 rfl).1).trans ((fu168 30 9 rfl).1))
            have lk182 : ((u173).1 30 2).toInt = (u163.1 30 2).toInt := congrArg Int32.toInt (((fu173 30 2 rfl).1).trans ((fu168 30 2 rfl).1))
            have lk183 : ((u173).1 30 3).toInt = (u163.1 30 3).toInt := congrArg Int32.toInt (((fu173 30 3 rfl).1).trans ((fu168 30 3 rfl).1))
            have lk184 : ((u173).1 30 2).toInt = (u163.1 30 2).toInt := congrArg Int32.toInt (((fu173 30 2 rfl).1).trans ((fu168 30 2 rfl).1))
            exact r_zret C (n_bool (by omega)) (oDec_at oX5_fact 49 rfl) ⟨_, rfl, ⟨by omega, fun _ => (oqf_notY (by omega) (by omega) (by omega) pu163_1).castS (by omega) (by omega), by omega, fun h => by exfalso; omega, fun _ => oqEc.an ((oqe_not (v := k10020) (by omega) (by omega) (by omega) hE1 (by omega) (by omega) (by rw [hF3]; exact hem2)).castS (by omega) (by omega)) (oqAn_fr fu173 rfl hq170), fun h9 => by (have hn9 := ((oqAn_fr fu173 rfl hq170)).2.1; omega), (oqKx_fr fu173 rfl pu168_1)⟩⟩
          · skip
            clear pu163_1
            clear pu163_2
            replace pu163_3 := pu163_3 (by omega)
            clear pu163_4
            clear pu163_5
            refine r_iconst C (oDec_at oX5_fact 41 rfl) (v := k0) (by rw [qk0]; rfl) ?_
            exact r_zret C (n_bool (by omega)) (oDec_at oX5_fact 42 rfl) ⟨_, rfl, ⟨by omega, fun h => by exfalso; omega, by omega, by first | exact fun _ => (oqf_deepN (by omega) (by omega) (by omega)).cast (by omega) (by omega) | exact fun _ => oqf_notF (by omega) (by omega) (by omega) pu163_3 | (intro h; exfalso; omega), fun h => by exfalso; omega, fun h => by exfalso; omega, pu163_6⟩⟩
  · skip
    refine r_aload_n C (j := 0) (oDec_at oX5_fact 4 rfl) rfl rfl ?_
    have lk185 : ((u1).1 30 5).toInt = (s.1 30 5).toInt := congrArg Int32.toInt ((fu1 30 5 rfl).1)
    have lk186 : ((u1).1 30 8).toInt = (s.1 30 8).toInt := congrArg Int32.toInt ((fu1 30 8 rfl).1)
    have lk187 : ((u1).1 30 9).toInt = (s.1 30 9).toInt := congrArg Int32.toInt ((fu1 30 9 rfl).1)
    have lk188 : ((u1).1 30 5).toInt = (s.1 30 5).toInt := congrArg Int32.toInt ((fu1 30 5 rfl).1)
    refine r_callVi C oCl5 rfl miX5_opens mlX5_154 (ct4_X5_opens l E (u1)  ) (by omega) rfl rfl rfl (Nat.le_of_ble_eq_true rfl) (oDec_at oX5_fact 5 rfl) (fun r190 u189 pu189 fu189 => ?_)
    try dsimp only at pu189
    try simp only [lk185, lk186, lk187, lk188] at pu189
    obtain ⟨pu189_0, pu189_1, pu189_2⟩ := pu189
    have rr190 := n_rng r190
    refine r_if_eq C 52 (oDec_at oX5_fact 6 rfl) (by decide) (fun cd191 => ?_) (fun cd191 => ?_)
    · skip
      clear pu189_1
      replace pu189_2 := pu189_2 (by omega)
      refine r_iconst C (oDec_at oX5_fact 23 rfl) (v := k0) (by rw [qk0]; rfl) ?_
      have lk192 : ((u189).1 30 2).toInt = (u1.1 30 2).toInt := congrArg Int32.toInt ((fu189 30 2 rfl).1)
      have lk193 : ((u189).1 30 3).toInt = (s.1 30 3).toInt := congrArg Int32.toInt (((fu189 30 3 rfl).1).trans ((fu1 30 3 rfl).1))
      have lk194 : ((u189).1 30 2).toInt = (u1.1 30 2).toInt := congrArg Int32.toInt ((fu189 30 2 rfl).1)
      have lk195 : ((u189).1 30 2).toInt = (u1.1 30 2).toInt := congrArg Int32.toInt ((fu189 30 2 rfl).1)
      have lk196 : ((u189).1 30 3).toInt = (s.1 30 3).toInt := congrArg Int32.toInt (((fu189 30 3 rfl).1).trans ((fu1 30 3 rfl).1))
      have lk197 : ((u189).1 30 2).toInt = (u1.1 30 2).toInt := congrArg Int32.toInt ((fu189 30 2 rfl).1)
      exact r_zret C (n_bool (by omega)) (oDec_at oX5_fact 24 rfl) ⟨_, rfl, ⟨by omega, by first | (intro h; exfalso; omega) | exact fun _ => (oqf_sqY (by omega) (by omega) (by assumption) ⟨by omega, by omega⟩ (by omega)).castS (by omega) (by omega), by omega, by first | exact fun _ => (oqf_deepS (by omega) (by omega)).cast (by omega) (by omega) | exact fun _ => oqf_sqF (by omega) (by omega) pu189_4 | exact fun _ => (oqf_sqN (by omega) (by omega) (by assumption) ⟨by omega, by omega⟩ (by omega)).cast (by omega) (by omega) | (intro h; exfalso; omega), by first | exact fun _ => oqEc.an ((oqe_sq (by omega) (by omega) hE1 hQ1).castS (by omega) (by omega)) (by assumption) | (intro h9; exfalso; omega), by first | (intro h9; exfalso; omega) | exact (fun h9 => by (have hn9 := ((by assumption)).2.1; omega)), (oqKx_fr fu189 rfl (oqKx_fr fu1 rfl hp10))⟩⟩
    · skip
      replace pu189_1 := pu189_1 (by omega)
      clear pu189_2
      refine r_aload_n C (j := 0) (oDec_at oX5_fact 7 rfl) rfl rfl ?_
      refine r_bipush C (oDec_at oX5_fact 8 rfl) (v := k91) (by rw [qk91]; rfl) ?_
      have lk198 : ((u189).1 30 2).toInt = (u1.1 30 2).toInt := congrArg Int32.toInt ((fu189 30 2 rfl).1)
      refine r_callVi C oCl5 rfl miX5_expectSign mlX5_88 (ct4_X5_expectSign l E (u189) k91 (g) (oqSk g a) (91) (by omega) (oqX_fr fu189 rfl (oqX_fr fu1 rfl hp2)) (by omega) (by omega)) (by omega) rfl rfl rfl (Nat.le_of_ble_eq_true rfl) (oDec_at oX5_fact 9 rfl) (fun r200 u199 pu199 fu199 => ?_)
      try dsimp only at pu199
      try simp only [lk198] at pu199
      obtain ⟨pu199_0, pu199_1, pu199_2⟩ := pu199
      have rr200 := n_rng r200
      refine r_if_eq C 52 (oDec_at oX5_fact 10 rfl) (by decide) (fun cd201 => ?_) (fun cd201 => ?_)
      · skip
        clear pu199_1
        replace pu199_2 := pu199_2 (by omega)
        refine r_iconst C (oDec_at oX5_fact 23 rfl) (v := k0) (by rw [qk0]; rfl) ?_
        have lk202 : ((u199).1 30 3).toInt = (s.1 30 3).toInt := congrArg Int32.toInt (((fu199 30 3 rfl).1).trans (((fu189 30 3 rfl).1).trans ((fu1 30 3 rfl).1)))
        have lk203 : ((u199).1 30 5).toInt = (u189.1 30 5).toInt := congrArg Int32.toInt ((fu199 30 5 rfl).1)
        have lk204 : ((u199).1 30 3).toInt = (s.1 30 3).toInt := congrArg Int32.toInt (((fu199 30 3 rfl).1).trans (((fu189 30 3 rfl).1).trans ((fu1 30 3 rfl).1)))
        exact r_zret C (n_bool (by omega)) (oDec_at oX5_fact 24 rfl) ⟨_, rfl, ⟨by omega, by first | (intro h; exfalso; omega) | exact fun _ => (oqf_sqY (by omega) (by omega) (by assumption) ⟨by omega, by omega⟩ (by omega)).castS (by omega) (by omega), by omega, by first | exact fun _ => (oqf_deepS (by omega) (by omega)).cast (by omega) (by omega) | exact fun _ => oqf_sqF (by omega) (by omega) pu199_4 | exact fun _ => (oqf_sqN (by omega) (by omega) (by assumption) ⟨by omega, by omega⟩ (by omega)).cast (by omega) (by omega) | (intro h; exfalso; omega), by first | exact fun _ => oqEc.an ((oqe_sq (by omega) (by omega) hE1 hQ1).castS (by omega) (by omega)) (by assumption) | (intro h9; exfalso; omega), by first | (intro h9; exfalso; omega) | exact (fun h9 => by (have hn9 := ((by assumption)).2.1; omega)), (oqKx_fr fu199 rfl (oqKx_fr fu189 rfl (oqKx_fr fu1 rfl hp10)))⟩⟩
      · skip
        replace pu199_1 := pu199_1 (by omega)
        clear pu199_2
        refine r_aload_n C (j := 0) (oDec_at oX5_fact 11 rfl) rfl rfl ?_
        have lk205 : ((u199).1 30 3).toInt = (s.1 30 3).toInt := congrArg Int32.toInt (((fu199 30 3 rfl).1).trans (((fu189 30 3 rfl).1).trans ((fu1 30 3 rfl).1)))
        have lk206 : ((u199).1 30 5).toInt = (u189.1 30 5).toInt := congrArg Int32.toInt ((fu199 30 5 rfl).1)
        have lk207 : ((u199).1 30 6).toInt = (s.1 30 6).toInt := congrArg Int32.toInt (((fu199 30 6 rfl).1).trans (((fu189 30 6 rfl).1).trans ((fu1 30 6 rfl).1)))
        have lk208 : ((u199).1 30 7).toInt = (s.1 30 7).toInt := congrArg Int32.toInt (((fu199 30 7 rfl).1).trans (((fu189 30 7 rfl).1).trans ((fu1 30 7 rfl).1)))
        have lk209 : ((u199).1 30 5).toInt = (u189.1 30 5).toInt := congrArg Int32.toInt ((fu199 30 5 rfl).1)
        refine r_callVi C oCl5 rfl miX5_test mlX5_118 (((ih (N - 1) (by omega)).2.2.2.2.2.2) (u199)  (g) (fp) (fq) (oqSk g a + 1) (b) (op + 1) (bc) (L) (F) (d) (G) (by omega) (by omega) (oqX_fr fu199 rfl (oqX_fr fu189 rfl (oqX_fr fu1 rfl hp2))) (by omega) (by omega) (by omega) (by omega) (oqRw_fr fu199 rfl (oqRw_fr fu189 rfl (oqRw_fr fu1 rfl hp7))) (oqAn_fr fu199 rfl (oqAn_fr fu189 rfl (oqAn_fr fu1 rfl hp8))) (by omega) (oqKx_fr fu199 rfl (oqKx_fr fu189 rfl (oqKx_fr fu1 rfl hp10)))) (by omega) rfl rfl rfl (Nat.le_of_ble_eq_true rfl) (oDec_at oX5_fact 12 rfl) (fun r211 u210 pu210 fu210 => ?_)
        try dsimp only at pu210
        try simp only [lk205, lk206, lk207, lk208, lk209] at pu210
        obtain ⟨pu210_0, pu210_1, pu210_2, pu210_3, pu210_4, pu210_5, pu210_6, pu210_7⟩ := pu210
        have rr211 := n_rng r211
        refine r_if_eq C 52 (oDec_at oX5_fact 13 rfl) (by decide) (fun cd212 => ?_) (fun cd212 => ?_)
        · skip
          clear pu210_1
          clear pu210_2
          clear pu210_3
          replace pu210_4 := pu210_4 (by omega)
          clear pu210_5
          clear pu210_6
          refine r_iconst C (oDec_at oX5_fact 23 rfl) (v := k0) (by rw [qk0]; rfl) ?_
          exact r_zret C (n_bool (by omega)) (oDec_at oX5_fact 24 rfl) ⟨_, rfl, ⟨by omega, by first | (intro h; exfalso; omega) | exact fun _ => (oqf_sqY (by omega) (by omega) (by assumption) ⟨by omega, by omega⟩ (by omega)).castS (by omega) (by omega), by omega, by first | exact fun _ => (oqf_deepS (by omega) (by omega)).cast (by omega) (by omega) | exact fun _ => oqf_sqF (by omega) (by omega) pu210_4 | exact fun _ => (oqf_sqN (by omega) (by omega) (by assumption) ⟨by omega, by omega⟩ (by omega)).cast (by omega) (by omega) | (intro h; exfalso; omega), by first | exact fun _ => oqEc.an ((oqe_sq (by omega) (by omega) hE1 hQ1).castS (by omega) (by omega)) (by assumption) | (intro h9; exfalso; omega), by first | (intro h9; exfalso; omega) | exact (fun h9 => by (have hn9 := ((by assumption)).2.1; omega)), pu210_7⟩⟩
        · skip
          replace pu210_1 := pu210_1 (by omega)
          replace pu210_2 := pu210_2 (by omega)
          replace pu210_3 := pu210_3 (by omega)
          clear pu210_4
          replace pu210_5 := pu210_5 (by omega)
          replace pu210_6 := pu210_6 (by omega)
          have hgX : g (oqSk g ((u210).1 30 2).toInt) = g ((u210).1 30 2).toInt := by rw [show oqSk g ((u210).1 30 2).toInt = ((u210).1 30 2).toInt by omega]
          obtain ⟨L1, hL1⟩ : ∃ z, z = ((u210).1 bc 1).toInt := ⟨_, rfl⟩
          obtain ⟨F1, hF1⟩ : ∃ z, z = (u210).1 (bc + 1) := ⟨_, rfl⟩
          have hE1 := pu210_5
          rw [← hL1, ← hF1] at hE1
          try (have hLe1 := hE1.le)
          have hQ1 := pu210_2
          have hq213 : oqAn bc L1 F1 (u210) := ⟨hkb, hL1.symm, hF1.symm⟩
          refine r_aload_n C (j := 0) (oDec_at oX5_fact 14 rfl) rfl rfl ?_
          refine r_bipush C (oDec_at oX5_fact 15 rfl) (v := k93) (by rw [qk93]; rfl) ?_
          refine r_callVi C oCl5 rfl miX5_expectSign mlX5_88 (ct4_X5_expectSign l E (u210) k93 (g) (((u210).1 30 2).toInt) (93) (by omega) (oqX_fr fu210 rfl (oqX_fr fu199 rfl (oqX_fr fu189 rfl (oqX_fr fu1 rfl hp2)))) (by omega) (by omega)) (by omega) rfl rfl rfl (Nat.le_of_ble_eq_true rfl) (oDec_at oX5_fact 16 rfl) (fun r215 u214 pu214 fu214 => ?_)
          try dsimp only at pu214
          obtain ⟨pu214_0, pu214_1, pu214_2⟩ := pu214
          have rr215 := n_rng r215
          refine r_if_eq C 52 (oDec_at oX5_fact 17 rfl) (by decide) (fun cd216 => ?_) (fun cd216 => ?_)
          · skip
            clear pu214_1
            replace pu214_2 := pu214_2 (by omega)
            refine r_iconst C (oDec_at oX5_fact 23 rfl) (v := k0) (by rw [qk0]; rfl) ?_
            have lk217 : ((u214).1 30 3).toInt = (u210.1 30 3).toInt := congrArg Int32.toInt ((fu214 30 3 rfl).1)
            have lk218 : ((u214).1 30 5).toInt = (u210.1 30 5).toInt := congrArg Int32.toInt ((fu214 30 5 rfl).1)
            have lk219 : ((u214).1 30 3).toInt = (u210.1 30 3).toInt := congrArg Int32.toInt ((fu214 30 3 rfl).1)
            exact r_zret C (n_bool (by omega)) (oDec_at oX5_fact 24 rfl) ⟨_, rfl, ⟨by omega, by first | (intro h; exfalso; omega) | exact fun _ => (oqf_sqY (by omega) (by omega) pu210_1 ⟨by omega, by omega⟩ (by omega)).castS (by omega) (by omega), by omega, by first | exact fun _ => (oqf_deepS (by omega) (by omega)).cast (by omega) (by omega) | exact fun _ => oqf_sqF (by omega) (by omega) pu214_4 | exact fun _ => (oqf_sqN (by omega) (by omega) pu210_1 ⟨by omega, by omega⟩ (by omega)).cast (by omega) (by omega) | (intro h; exfalso; omega), by first | exact fun _ => oqEc.an ((oqe_sq (by omega) (by omega) hE1 hQ1).castS (by omega) (by omega)) (oqAn_fr fu214 rfl hq213) | (intro h9; exfalso; omega), by first | (intro h9; exfalso; omega) | exact (fun h9 => by (have hn9 := ((oqAn_fr fu214 rfl hq213)).2.1; omega)), (oqKx_fr fu214 rfl pu210_7)⟩⟩
          · skip
            replace pu214_1 := pu214_1 (by omega)
            clear pu214_2
            refine r_aload_n C (j := 0) (oDec_at oX5_fact 18 rfl) rfl rfl ?_
            have lk220 : ((u214).1 30 5).toInt = (u210.1 30 5).toInt := congrArg Int32.toInt ((fu214 30 5 rfl).1)
            have lk221 : ((u214).1 30 5).toInt = (u210.1 30 5).toInt := congrArg Int32.toInt ((fu214 30 5 rfl).1)
            refine r_callVi C oCl5 rfl miX5_closes mlX5_157 (ct4_X5_closes l E (u214)  (by omega)) (by omega) rfl rfl rfl (Nat.le_of_ble_eq_true rfl) (oDec_at oX5_fact 19 rfl) (fun r223 u222 pu222 fu222 => ?_)
            try dsimp only at pu222
            try simp only [lk220, lk221] at pu222
            obtain ⟨pu222_0, pu222_1⟩ := pu222
            have rr223 := n_rng r223
            refine r_if_eq C 52 (oDec_at oX5_fact 20 rfl) (by decide) (fun cd224 => ?_) (fun cd224 => ?_)
            · skip
              refine r_iconst C (oDec_at oX5_fact 23 rfl) (v := k0) (by rw [qk0]; rfl) ?_
              have lk225 : ((u222).1 30 2).toInt = (u214.1 30 2).toInt := congrArg Int32.toInt ((fu222 30 2 rfl).1)
              have lk226 : ((u222).1 30 3).toInt = (u210.1 30 3).toInt := congrArg Int32.toInt (((fu222 30 3 rfl).1).trans ((fu214 30 3 rfl).1))
              have lk227 : ((u222).1 30 2).toInt = (u214.1 30 2).toInt := congrArg Int32.toInt ((fu222 30 2 rfl).1)
              have lk228 : ((u222).1 30 8).toInt = (u214.1 30 8).toInt := congrArg Int32.toInt ((fu222 30 8 rfl).1)
              have lk229 : ((u222).1 30 9).toInt = (u214.1 30 9).toInt := congrArg Int32.toInt ((fu222 30 9 rfl).1)
              have lk230 : ((u222).1 30 8).toInt = (u214.1 30 8).toInt := congrArg Int32.toInt ((fu222 30 8 rfl).1)
              have lk231 : ((u222).1 30 9).toInt = (u214.1 30 9).toInt := congrArg Int32.toInt ((fu222 30 9 rfl).1)
              have lk232 : ((u222).1 30 2).toInt = (u214.1 30 2).toInt := congrArg Int32.toInt ((fu222 30 2 rfl).1)
              have lk233 : ((u222).1 30 3).toInt = (u210.1 30 3).toInt := congrArg Int32.toInt (((fu222 30 3 rfl).1).trans ((fu214 30 3 rfl).1))
              have lk234 : ((u222).1 30 2).toInt = (u214.1 30 2).toInt := congrArg Int32.toInt ((fu222 30 2 rfl).1)
              exact r_zret C (n_bool (by omega)) (oDec_at oX5_fact 24 rfl) ⟨_, rfl, ⟨by omega, by first | (intro h; exfalso; omega) | exact fun _ => (oqf_sqY (by omega) (by omega) pu210_1 ⟨by omega, by omega⟩ (by omega)).castS (by omega) (by omega), by omega, by first | exact fun _ => (oqf_deepS (by omega) (by omega)).cast (by omega) (by omega) | exact fun _ => oqf_sqF (by omega) (by omega) pu222_4 | exact fun _ => (oqf_sqN (by omega) (by omega) pu210_1 ⟨by omega, by omega⟩ (by omega)).cast (by omega) (by omega) | (intro h; exfalso; omega), by first | exact fun _ => oqEc.an ((oqe_sq (by omega) (by omega) hE1 hQ1).castS (by omega) (by omega)) (oqAn_fr fu222 rfl (oqAn_fr fu214 rfl hq213)) | (intro h9; exfalso; omega), by first | (intro h9; exfalso; omega) | exact (fun h9 => by (have hn9 := ((oqAn_fr fu222 rfl (oqAn_fr fu214 rfl hq213))).2.1; omega)), (oqKx_fr fu222 rfl (oqKx_fr fu214 rfl pu210_7))⟩⟩
            · skip
              refine r_iconst C (oDec_at oX5_fact 21 rfl) (v := k1) (by rw [qk1]; rfl) ?_
              refine r_goto C (tgt := 53) (oDec_at oX5_fact 22 rfl) (by decide) ?_
              have lk235 : ((u222).1 30 2).toInt = (u214.1 30 2).toInt := congrArg Int32.toInt ((fu222 30 2 rfl).1)
              have lk236 : ((u222).1 30 3).toInt = (u210.1 30 3).toInt := congrArg Int32.toInt (((fu222 30 3 rfl).1).trans ((fu214 30 3 rfl).1))
              have lk237 : ((u222).1 30 2).toInt = (u214.1 30 2).toInt := congrArg Int32.toInt ((fu222 30 2 rfl).1)
              have lk238 : ((u222).1 30 8).toInt = (u214.1 30 8).toInt := congrArg Int32.toInt ((fu222 30 8 rfl).1)
              have lk239 : ((u222).1 30 9).toInt = (u214.1 30 9).toInt := congrArg Int32.toInt ((fu222 30 9 rfl).1)
              have lk240 : ((u222).1 30 8).toInt = (u214.1 30 8).toInt := congrArg Int32.toInt ((fu222 30 8 rfl).1)
              have lk241 : ((u222).1 30 9).toInt = (u214.1 30 9).toInt := congrArg Int32.toInt ((fu222 30 9 rfl).1)
              have lk242 : ((u222).1 30 2).toInt = (u214.1 30 2).toInt := congrArg Int32.toInt ((fu222 30 2 rfl).1)
              have lk243 : ((u222).1 30 3).toInt = (u210.1 30 3).toInt := congrArg Int32.toInt (((fu222 30 3 rfl).1).trans ((fu214 30 3 rfl).1))
              have lk244 : ((u222).1 30 2).toInt = (u214.1 30 2).toInt := congrArg Int32.toInt ((fu222 30 2 rfl).1)
              exact r_zret C (n_bool (by omega)) (oDec_at oX5_fact 24 rfl) ⟨_, rfl, ⟨by omega, by first | (intro h; exfalso; omega) | exact fun _ => (oqf_sqY (by omega) (by omega) pu210_1 ⟨by omega, by omega⟩ (by omega)).castS (by omega) (by omega), by omega, by first | exact fun _ => (oqf_deepS (by omega) (by omega)).cast (by omega) (by omega) | exact fun _ => oqf_sqF (by omega) (by omega) pu222_4 | exact fun _ => (oqf_sqN (by omega) (by omega) pu210_1 ⟨by omega, by omega⟩ (by omega)).cast (by omega) (by omega) | (intro h; exfalso; omega), by first | exact fun _ => oqEc.an ((oqe_sq (by omega) (by omega) hE1 hQ1).castS (by omega) (by omega)) (oqAn_fr fu222 rfl (oqAn_fr fu214 rfl hq213)) | (intro h9; exfalso; omega), by first | (intro h9; exfalso; omega) | exact (fun h9 => by (have hn9 := ((oqAn_fr fu222 rfl (oqAn_fr fu214 rfl hq213))).2.1; omega)), (oqKx_fr fu222 rfl (oqKx_fr fu214 rfl pu210_7))⟩⟩
