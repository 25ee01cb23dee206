set_option maxHeartbeats 4000000 in
set_option maxRecDepth 100000 in
theorem gr9_X5_X5_part (l : Launch) (E : oE) (N : Nat) (ih : ∀ m : Nat, m < N → ogr9_X5 l E m) (h_X5_choice : ogr9_X5_X5_choice l E N) : ogr9_X5_X5_part l E N := by
  intro s g fp fq a b op bc L F d G hp0 hp1 hp2 hp3 hp4 hp5 hp6 hp7 hp8 hp9 hp10
  refine oMet.of (lv := [(0, .ref (oad E 30))]) (by decide +kernel) (Nat.le_of_ble_eq_true rfl) rfl (fun J C hT => ?_)
  have C : oC l (7 + 10 * N + 2) cX5_part RX5 3 (some .boolean) [(0, 1), (5, 2), (5, 3), (5, 4), (5, 5), (5, 8), (5, 9), (20, 9999)] E s (oPi (fun r u => (0 ≤ r.toInt ∧ r.toInt ≤ 1) ∧ (r.toInt = 1 → oqGo g fp fq 1 (oqSk g a) b op 3 (oqSk g (u.1 30 2).toInt) (u.1 30 3).toInt op) ∧ (r.toInt = 1 → ((u.1 30 5).toInt = op ∧ a + 1 ≤ (u.1 30 2).toInt ∧ (u.1 30 8).toInt = (s.1 30 8).toInt ∧ (u.1 30 9).toInt = (s.1 30 9).toInt)) ∧ (r.toInt = 0 → oqFa g fp fq 1 (oqSk g a) b op (u.1 30 8).toInt (u.1 30 9).toInt) ∧ (r.toInt = 1 → oqEc oqT0 g fp fq 1 (oqSk g a) b op 3 (oqSk g (u.1 30 2).toInt) (u.1 30 3).toInt op L F (u.1 bc 1).toInt (u.1 (bc + 1))) ∧ (r.toInt = 1 → (u.1 bc 1).toInt - L ≤ (u.1 30 2).toInt - a) ∧ (oqKx d G u))) J := C
  obtain ⟨km1, qkm1⟩ : ∃ z : Int32, z = (-1) := ⟨_, rfl⟩
  have ekm1 : km1.toInt = (-1) := by rw [qkm1]; rfl
  obtain ⟨k0, qk0⟩ : ∃ z : Int32, z = 0 := ⟨_, rfl⟩
  have ek0 : k0.toInt = 0 := by rw [qk0]; rfl
  obtain ⟨k1, qk1⟩ : ∃ z : Int32, z = 1 := ⟨_, rfl⟩
  have ek1 : k1.toInt = 1 := by rw [qk1]; rfl
  obtain ⟨k24, qk24⟩ : ∃ z : Int32, z = 24 := ⟨_, rfl⟩
  have ek24 : k24.toInt = 24 := by rw [qk24]; rfl
  obtain ⟨k25, qk25⟩ : ∃ z : Int32, z = 25 := ⟨_, rfl⟩
  have ek25 : k25.toInt = 25 := by rw [qk25]; rfl
  obtain ⟨k40, qk40⟩ : ∃ z : Int32, z = 40 := ⟨_, rfl⟩
  have ek40 : k40.toInt = 40 := by rw [qk40]; rfl
  obtain ⟨k41, qk41⟩ : ∃ z : Int32, z = 41 := ⟨_, rfl⟩
  have ek41 : k41.toInt = 41 := by rw [qk41]; rfl
  obtain ⟨k9999, qk9999⟩ : ∃ z : Int32, z = 9999 := ⟨_, rfl⟩
  have ek9999 : k9999.toInt = 9999 := by rw [qk9999]; rfl
  obtain ⟨k10000, qk10000⟩ : ∃ z : Int32, z = 10000 := ⟨_, rfl⟩
  have ek10000 : k10000.toInt = 10000 := by rw [qk10000]; rfl
  obtain ⟨k10030, qk10030⟩ : ∃ z : Int32, z = 10030 := ⟨_, rfl⟩
  have ek10030 : k10030.toInt = 10030 := by rw [qk10030]; rfl
  obtain ⟨k10031, qk10031⟩ : ∃ z : Int32, z = 10031 := ⟨_, rfl⟩
  have ek10031 : k10031.toInt = 10031 := by rw [qk10031]; rfl
  have hto : (0 : Int) ≤ (s.1 30 5).toInt ∧ (s.1 30 5).toInt ≤ 6 := hT.1 30 5
  have hge9 := oqSk_ge g a
  have hkb := (hp8 : oqAn bc L F s).1
  have hLs := (hp8 : oqAn bc L F s).2.1
  refine r_aload_n C (j := 0) (oDec_at oX5_part 0 rfl) rfl rfl ?_
  refine r_callVi C oCl5 rfl miX5_peek mlX5_43 (ct4_X5_peek l E (s)  (g) (a) (by omega) hp2) (by omega) rfl rfl rfl (Nat.le_of_ble_eq_true rfl) (oDec_at oX5_part 1 rfl) (fun r2 u1 pu1 fu1 => ?_)
  try dsimp only at pu1
  obtain ⟨pu1_0, pu1_1, pu1_2, pu1_3, pu1_4, pu1_5⟩ := pu1
  have rr2 := n_rng r2
  have hss := oqSk_sk (g := g) (a := a) ⟨by omega, by omega⟩
  have hg2 : g (oqSk g (oqSk g a)) = g (oqSk g a) := by rw [hss]
  refine r_istore_n C (lv' := [(0, .ref (oad E 30)), (1, .int r2)]) [1, 0] (oDec_at oX5_part 2 rfl) rfl (by decide) rfl ?_
  refine r_iload_n C (j := 1) (oDec_at oX5_part 3 rfl) rfl rfl ?_
  refine r_bipush C (oDec_at oX5_part 4 rfl) (v := k40) (by rw [qk40]; rfl) ?_
  refine r_icmp_ne C 56 (oDec_at oX5_part 5 rfl) (by decide) (fun cd3 => ?_) (fun cd3 => ?_)
  · skip
    refine r_iload_n C (j := 1) (oDec_at oX5_part 27 rfl) rfl rfl ?_
    refine r_callSi C miX5_isDigit mlX5_169 (ct_X5_isDigit l E (u1) r2 ) (by omega) rfl rfl rfl (Nat.le_of_ble_eq_true rfl) (oDec_at oX5_part 28 rfl) (fun r5 u4 pu4 fu4 => ?_)
    try dsimp only at pu4
    obtain ⟨pu4_0, pu4_1⟩ := pu4
    have hxu4 := oFr_nil fu4; subst hxu4
    have rr5 := n_rng r5
    refine r_if_eq C 91 (oDec_at oX5_part 29 rfl) (by decide) (fun cd6 => ?_) (fun cd6 => ?_)
    · skip
      refine r_aload_n C (j := 0) (oDec_at oX5_part 46 rfl) rfl rfl ?_
      have lk7 : ((u1).1 30 3).toInt = (s.1 30 3).toInt := congrArg Int32.toInt ((fu1 30 3 rfl).1)
      refine r_callVi C oCl5 rfl miX5_wordAhead mlX5_91 (ct5_X5_wordAhead l E (u1)  (g) (oqSk g a) (b) (by omega) (by omega) (oqX_fr fu1 rfl hp2)) (by omega) rfl rfl rfl (Nat.le_of_ble_eq_true rfl) (oDec_at oX5_part 47 rfl) (fun r9 u8 pu8 fu8 => ?_)
      try dsimp only at pu8
      try simp only [lk7] at pu8
      obtain ⟨pu8_0, pu8_1, pu8_2, pu8_3, pu8_4, pu8_5, pu8_6⟩ := pu8
      have rr9 := n_rng r9
      have hj := oqWi_eq pu8_2 ⟨by omega, by omega⟩
      clear pu8_2 pu8_3
      refine r_istore_n C (lv' := [(0, .ref (oad E 30)), (1, .int r2), (2, .int r9)]) [1, 2, 0] (oDec_at oX5_part 48 rfl) rfl (by decide) rfl ?_
      refine r_iload_n C (j := 2) (oDec_at oX5_part 49 rfl) rfl rfl ?_
      refine r_aload_n C (j := 0) (oDec_at oX5_part 50 rfl) rfl rfl ?_
      obtain ⟨v10, ev10⟩ : ∃ z : Int32, (u8).1 30 6 = z := ⟨_, rfl⟩
      have gv10 : (s.1 30 6).toInt = v10.toInt := congrArg Int32.toInt ((((fu8 30 6 rfl).1).trans ((fu1 30 6 rfl).1)).symm.trans ev10)
      have ggv10 : ((u8).1 30 6).toInt = v10.toInt := congrArg Int32.toInt ev10
      have rv10 := n_rng v10
      refine r_geti (k := 6) (lo := (-2147483648)) (hi := 2147483647) C v10 oCl5 rfl (by decide) flX5_109 rfl rfl (ev10) rfl rfl (oDec_at oX5_part 51 rfl) (fun _ _ => ?_)
      refine r_pc C 101 rfl ?_
      refine r_icmp_lt C 135 (oDec_at oX5_part 52 rfl) (by decide) (fun cd11 => ?_) (fun cd11 => ?_)
      · skip
        refine r_iload_n C (j := 2) (oDec_at oX5_part 70 rfl) rfl rfl ?_
        refine r_bipush C (oDec_at oX5_part 71 rfl) (v := k24) (by rw [qk24]; rfl) ?_
        refine r_icmp_eq C 157 (oDec_at oX5_part 72 rfl) (by decide) (fun cd12 => ?_) (fun cd12 => ?_)
        · skip
          have hjn : oqWi g (oqSk g a) b = ((r9.toInt.toNat : Nat) : Int) := by omega
          have hl1 := oq_w1 r9.toInt.toNat (by omega)
          have hHa : oqHa g (oqSk g a) (r9.toInt.toNat) = oqSk g (oqSk g a) + (oqWl (r9.toInt.toNat) : Int) := rfl
          have hH9 := (oqWi_is (g := g) (a := oqSk g a) (b := b) (i := r9.toInt.toNat) (by omega)).mp hjn
          refine r_aload_n C (j := 0) (oDec_at oX5_part 82 rfl) rfl rfl ?_
          refine r_iload_n C (j := 2) (oDec_at oX5_part 83 rfl) rfl rfl ?_
          have lk13 : ((u8).1 30 3).toInt = (s.1 30 3).toInt := congrArg Int32.toInt (((fu8 30 3 rfl).1).trans ((fu1 30 3 rfl).1))
          have lk14 : ((u8).1 30 8).toInt = (s.1 30 8).toInt := congrArg Int32.toInt (((fu8 30 8 rfl).1).trans ((fu1 30 8 rfl).1))
          have lk15 : ((u8).1 30 9).toInt = (s.1 30 9).toInt := congrArg Int32.toInt (((fu8 30 9 rfl).1).trans ((fu1 30 9 rfl).1))
          refine r_callVi C oCl5 rfl miX5_expect mlX5_74 (ct4_X5_expect l E (u8) r9 (g) (oqSk g a) (b) (r9.toInt.toNat) (by omega) (by omega) (oqX_fr fu8 rfl (oqX_fr fu1 rfl hp2)) (by omega) (by omega)) (by omega) rfl rfl rfl (Nat.le_of_ble_eq_true rfl) (oDec_at oX5_part 84 rfl) (fun r17 u16 pu16 fu16 => ?_)
          try dsimp only at pu16
          try simp only [lk13, lk14, lk15] at pu16
          obtain ⟨pu16_0, pu16_1, pu16_2⟩ := pu16
          have rr17 := n_rng r17
          refine r_if_eq C 191 (oDec_at oX5_part 85 rfl) (by decide) (fun cd18 => ?_) (fun cd18 => ?_)
          · skip
            clear pu16_1
            replace pu16_2 := pu16_2 (by omega)
            refine r_iconst C (oDec_at oX5_part 97 rfl) (v := k0) (by rw [qk0]; rfl) ?_
            have lk19 : ((u16).1 30 5).toInt = (s.1 30 5).toInt := congrArg Int32.toInt (((fu16 30 5 rfl).1).trans (((fu8 30 5 rfl).1).trans ((fu1 30 5 rfl).1)))
            exact r_zret C (n_bool (by omega)) (oDec_at oX5_part 98 rfl) ⟨_, rfl, ⟨by omega, by first | exact fun _ => oqp_minY (by omega) hjn (by omega) pu16_1 | (intro h; exfalso; omega), by omega, by first | (intro h; exfalso; omega) | exact fun _ => oqp_minN (by omega) hjn (by omega) pu16_3, by first | (intro h9; exfalso; omega) | (intro h9; have h7 := (by assumption); rw [← hL1, ← hF1] at h7; exact oqEc.an (oqe_min (by omega) hjn (by omega) (by omega) h7) (by assumption)), by first | (intro h9; exfalso; omega) | exact (fun h9 => by (have hn9 := ((by assumption)).2.1; omega)), (oqKx_fr fu16 rfl (oqKx_fr fu8 rfl (oqKx_fr fu1 rfl hp10)))⟩⟩
          · skip
            replace pu16_1 := pu16_1 (by omega)
            clear pu16_2
            refine r_aload_n C (j := 0) (oDec_at oX5_part 86 rfl) rfl rfl ?_
            refine r_iload_n C (j := 2) (oDec_at oX5_part 87 rfl) rfl rfl ?_
            refine r_bipush C (oDec_at oX5_part 88 rfl) (v := k24) (by rw [qk24]; rfl) ?_
            refine r_icmp_ne C 178 (oDec_at oX5_part 89 rfl) (by decide) (fun cd20 => ?_) (fun cd20 => ?_)
            · omega
            · skip
              refine r_sipush C (oDec_at oX5_part 90 rfl) (v := k10030) (by rw [qk10030]; rfl) ?_
              refine r_goto C (tgt := 181) (oDec_at oX5_part 91 rfl) (by decide) ?_
              have lk21 : ((u16).1 30 5).toInt = (s.1 30 5).toInt := congrArg Int32.toInt (((fu16 30 5 rfl).1).trans (((fu8 30 5 rfl).1).trans ((fu1 30 5 rfl).1)))
              have lk22 : ((u16).1 30 6).toInt = v10.toInt := congrArg Int32.toInt (((fu16 30 6 rfl).1).trans (ev10))
              have lk23 : ((u16).1 30 7).toInt = (s.1 30 7).toInt := congrArg Int32.toInt (((fu16 30 7 rfl).1).trans (((fu8 30 7 rfl).1).trans ((fu1 30 7 rfl).1)))
              have lk24 : ((u16).1 30 5).toInt = (s.1 30 5).toInt := congrArg Int32.toInt (((fu16 30 5 rfl).1).trans (((fu8 30 5 rfl).1).trans ((fu1 30 5 rfl).1)))
              refine r_callVi C oCl5 rfl miX5_choice mlX5_172 (h_X5_choice (u16) k10030 (g) (fp) (fq) (oqHa g (oqSk g a) (r9.toInt.toNat)) (oqHa g (oqSk g a) (r9.toInt.toNat)) (op) (bc) (L) (F) (d) (G) (by omega) (by omega) (oqX_fr fu16 rfl (oqX_fr fu8 rfl (oqX_fr fu1 rfl hp2))) (by omega) (by omega) (by omega) (by omega) (oqRw_fr fu16 rfl (oqRw_fr fu8 rfl (oqRw_fr fu1 rfl hp7))) (oqAn_fr fu16 rfl (oqAn_fr fu8 rfl (oqAn_fr fu1 rfl hp8))) (by omega) (oqKx_fr fu16 rfl (oqKx_fr fu8 rfl (oqKx_fr fu1 rfl hp10))) (by omega)) (by omega) rfl rfl rfl (Nat.le_of_ble_eq_true rfl) (oDec_at oX5_part 93 rfl) (fun r26 u25 pu25 fu25 => ?_)
              try dsimp only at pu25
              try simp only [lk21, lk22, lk23, lk24] at pu25
              obtain ⟨pu25_0, pu25_1, pu25_2, pu25_3, pu25_4, pu25_5, pu25_6⟩ := pu25
              have rr26 := n_rng r26
              refine r_if_eq C 191 (oDec_at oX5_part 94 rfl) (by decide) (fun cd27 => ?_) (fun cd27 => ?_)
              · skip
                clear pu25_1
                clear pu25_2
                replace pu25_3 := pu25_3 (by omega)
                clear pu25_4
                clear pu25_5
                refine r_iconst C (oDec_at oX5_part 97 rfl) (v := k0) (by rw [qk0]; rfl) ?_
                exact r_zret C (n_bool (by omega)) (oDec_at oX5_part 98 rfl) ⟨_, rfl, ⟨by omega, by first | exact fun _ => oqp_minY (by omega) hjn (by omega) pu25_1 | (intro h; exfalso; omega), by omega, by first | (intro h; exfalso; omega) | exact fun _ => oqp_minN (by omega) hjn (by omega) pu25_3, by first | (intro h9; exfalso; omega) | (intro h9; have h7 := (by assumption); rw [← hL1, ← hF1] at h7; exact oqEc.an (oqe_min (by omega) hjn (by omega) (by omega) h7) (by assumption)), by first | (intro h9; exfalso; omega) | exact (fun h9 => by (have hn9 := ((by assumption)).2.1; omega)), pu25_6⟩⟩
              · skip
                replace pu25_1 := pu25_1 (by omega)
                replace pu25_2 := pu25_2 (by omega)
                clear pu25_3
                replace pu25_4 := pu25_4 (by omega)
                replace pu25_5 := pu25_5 (by omega)
                obtain ⟨L1, hL1⟩ : ∃ z, z = ((u25).1 bc 1).toInt := ⟨_, rfl⟩
                obtain ⟨F1, hF1⟩ : ∃ z, z = (u25).1 (bc + 1) := ⟨_, rfl⟩
                have hq28 : oqAn bc L1 F1 (u25) := ⟨hkb, hL1.symm, hF1.symm⟩
                refine r_iconst C (oDec_at oX5_part 95 rfl) (v := k1) (by rw [qk1]; rfl) ?_
                refine r_goto C (tgt := 192) (oDec_at oX5_part 96 rfl) (by decide) ?_
                exact r_zret C (n_bool (by omega)) (oDec_at oX5_part 98 rfl) ⟨_, rfl, ⟨by omega, by first | exact fun _ => oqp_minY (by omega) hjn (by omega) pu25_1 | (intro h; exfalso; omega), by omega, by first | (intro h; exfalso; omega) | exact fun _ => oqp_minN (by omega) hjn (by omega) pu25_3, by first | (intro h9; exfalso; omega) | (intro h9; have h7 := pu25_4; rw [← hL1, ← hF1] at h7; exact oqEc.an (oqe_min (by omega) hjn (by omega) (by omega) h7) hq28), by first | (intro h9; exfalso; omega) | exact (fun h9 => by (have hn9 := (hq28).2.1; omega)), pu25_6⟩⟩
        · skip
          refine r_iload_n C (j := 2) (oDec_at oX5_part 73 rfl) rfl rfl ?_
          refine r_bipush C (oDec_at oX5_part 74 rfl) (v := k25) (by rw [qk25]; rfl) ?_
          refine r_icmp_eq C 157 (oDec_at oX5_part 75 rfl) (by decide) (fun cd29 => ?_) (fun cd29 => ?_)
          · skip
            have hjn : oqWi g (oqSk g a) b = ((r9.toInt.toNat : Nat) : Int) := by omega
            have hl1 := oq_w1 r9.toInt.toNat (by omega)
            have hHa : oqHa g (oqSk g a) (r9.toInt.toNat) = oqSk g (oqSk g a) + (oqWl (r9.toInt.toNat) : Int) := rfl
            have hH9 := (oqWi_is (g := g) (a := oqSk g a) (b := b) (i := r9.toInt.toNat) (by omega)).mp hjn
            refine r_aload_n C (j := 0) (oDec_at oX5_part 82 rfl) rfl rfl ?_
            refine r_iload_n C (j := 2) (oDec_at oX5_part 83 rfl) rfl rfl ?_
            have lk30 : ((u8).1 30 3).toInt = (s.1 30 3).toInt := congrArg Int32.toInt (((fu8 30 3 rfl).1).trans ((fu1 30 3 rfl).1))
            have lk31 : ((u8).1 30 8).toInt = (s.1 30 8).toInt := congrArg Int32.toInt (((fu8 30 8 rfl).1).trans ((fu1 30 8 rfl).1))
            have lk32 : ((u8).1 30 9).toInt = (s.1 30 9).toInt := congrArg Int32.toInt (((fu8 30 9 rfl).1).trans ((fu1 30 9 rfl).1))
            refine r_callVi C oCl5 rfl miX5_expect mlX5_74 (ct4_X5_expect l E (u8) r9 (g) (oqSk g a) (b) (r9.toInt.toNat) (by omega) (by omega) (oqX_fr fu8 rfl (oqX_fr fu1 rfl hp2)) (by omega) (by omega)) (by omega) rfl rfl rfl (Nat.le_of_ble_eq_true rfl) (oDec_at oX5_part 84 rfl) (fun r34 u33 pu33 fu33 => ?_)
            try dsimp only at pu33
            try simp only [lk30, lk31, lk32] at pu33
            obtain ⟨pu33_0, pu33_1, pu33_2⟩ := pu33
            have rr34 := n_rng r34
            refine r_if_eq C 191 (oDec_at oX5_part 85 rfl) (by decide) (fun cd35 => ?_) (fun cd35 => ?_)
            · skip
              clear pu33_1
              replace pu33_2 := pu33_2 (by omega)
              refine r_iconst C (oDec_at oX5_part 97 rfl) (v := k0) (by rw [qk0]; rfl) ?_
              have lk36 : ((u33).1 30 5).toInt = (s.1 30 5).toInt := congrArg Int32.toInt (((fu33 30 5 rfl).1).trans (((fu8 30 5 rfl).1).trans ((fu1 30 5 rfl).1)))
              exact r_zret C (n_bool (by omega)) (oDec_at oX5_part 98 rfl) ⟨_, rfl, ⟨by omega, by first | exact fun _ => oqp_minY (by omega) hjn (by omega) pu33_1 | (intro h; exfalso; omega), by omega, by first | (intro h; exfalso; omega) | exact fun _ => oqp_minN (by omega) hjn (by omega) pu33_3, by first | (intro h9; exfalso; omega) | (intro h9; have h7 := (by assumption); rw [← hL1, ← hF1] at h7; exact oqEc.an (oqe_min (by omega) hjn (by omega) (by omega) h7) (by assumption)), by first | (intro h9; exfalso; omega) | exact (fun h9 => by (have hn9 := ((by assumption)).2.1; omega)), (oqKx_fr fu33 rfl (oqKx_fr fu8 rfl (oqKx_fr fu1 rfl hp10)))⟩⟩
            · skip
              replace pu33_1 := pu33_1 (by omega)
              clear pu33_2
              refine r_aload_n C (j := 0) (oDec_at oX5_part 86 rfl) rfl rfl ?_
              refine r_iload_n C (j := 2) (oDec_at oX5_part 87 rfl) rfl rfl ?_
              refine r_bipush C (oDec_at oX5_part 88 rfl) (v := k24) (by rw [qk24]; rfl) ?_
              refine r_icmp_ne C 178 (oDec_at oX5_part 89 rfl) (by decide) (fun cd37 => ?_) (fun cd37 => ?_)
              · skip
                refine r_sipush C (oDec_at oX5_part 92 rfl) (v := k10031) (by rw [qk10031]; rfl) ?_
                have lk38 : ((u33).1 30 5).toInt = (s.1 30 5).toInt := congrArg Int32.toInt (((fu33 30 5 rfl).1).trans (((fu8 30 5 rfl).1).trans ((fu1 30 5 rfl).1)))
                have lk39 : ((u33).1 30 6).toInt = v10.toInt := congrArg Int32.toInt (((fu33 30 6 rfl).1).trans (ev10))
                have lk40 : ((u33).1 30 7).toInt = (s.1 30 7).toInt := congrArg Int32.toInt (((fu33 30 7 rfl).1).trans (((fu8 30 7 rfl).1).trans ((fu1 30 7 rfl).1)))
                have lk41 : ((u33).1 30 5).toInt = (s.1 30 5).toInt := congrArg Int32.toInt (((fu33 30 5 rfl).1).trans (((fu8 30 5 rfl).1).trans ((fu1 30 5 rfl).1)))
                refine r_callVi C oCl5 rfl miX5_choice mlX5_172 (h_X5_choice (u33) k10031 (g) (fp) (fq) (oqHa g (oqSk g a) (r9.toInt.toNat)) (oqHa g (oqSk g a) (r9.toInt.toNat)) (op) (bc) (L) (F) (d) (G) (by omega) (by omega) (oqX_fr fu33 rfl (oqX_fr fu8 rfl (oqX_fr fu1 rfl hp2))) (by omega) (by omega) (by omega) (by omega) (oqRw_fr fu33 rfl (oqRw_fr fu8 rfl (oqRw_fr fu1 rfl hp7))) (oqAn_fr fu33 rfl (oqAn_fr fu8 rfl (oqAn_fr fu1 rfl hp8))) (by omega) (oqKx_fr fu33 rfl (oqKx_fr fu8 rfl (oqKx_fr fu1 rfl hp10))) (by omega)) (by omega) rfl rfl rfl (Nat.le_of_ble_eq_true rfl) (oDec_at oX5_part 93 rfl) (fun r43 u42 pu42 fu42 => ?_)
                try dsimp only at pu42
                try simp only [lk38, lk39, lk40, lk41] at pu42
                obtain ⟨pu42_0, pu42_1, pu42_2, pu42_3, pu42_4, pu42_5, pu42_6⟩ := pu42
                have rr43 := n_rng r43
                refine r_if_eq C 191 (oDec_at oX5_part 94 rfl) (by decide) (fun cd44 => ?_) (fun cd44 => ?_)
                · skip
                  clear pu42_1
                  clear pu42_2
                  replace pu42_3 := pu42_3 (by omega)
                  clear pu42_4
                  clear pu42_5
                  refine r_iconst C (oDec_at oX5_part 97 rfl) (v := k0) (by rw [qk0]; rfl) ?_
                  exact r_zret C (n_bool (by omega)) (oDec_at oX5_part 98 rfl) ⟨_, rfl, ⟨by omega, by first | exact fun _ => oqp_minY (by omega) hjn (by omega) pu42_1 | (intro h; exfalso; omega), by omega, by first | (intro h; exfalso; omega) | exact fun _ => oqp_minN (by omega) hjn (by omega) pu42_3, by first | (intro h9; exfalso; omega) | (intro h9; have h7 := (by assumption); rw [← hL1, ← hF1] at h7; exact oqEc.an (oqe_min (by omega) hjn (by omega) (by omega) h7) (by assumption)), by first | (intro h9; exfalso; omega) | exact (fun h9 => by (have hn9 := ((by assumption)).2.1; omega)), pu42_6⟩⟩
                · skip
                  replace pu42_1 := pu42_1 (by omega)
                  replace pu42_2 := pu42_2 (by omega)
                  clear pu42_3
                  replace pu42_4 := pu42_4 (by omega)
                  replace pu42_5 := pu42_5 (by omega)
                  obtain ⟨L1, hL1⟩ : ∃ z, z = ((u42).1 bc 1).toInt := ⟨_, rfl⟩
                  obtain ⟨F1, hF1⟩ : ∃ z, z = (u42).1 (bc + 1) := ⟨_, rfl⟩
                  have hq45 : oqAn bc L1 F1 (u42) := ⟨hkb, hL1.symm, hF1.symm⟩
                  refine r_iconst C (oDec_at oX5_part 95 rfl) (v := k1) (by rw [qk1]; rfl) ?_
                  refine r_goto C (tgt := 192) (oDec_at oX5_part 96 rfl) (by decide) ?_
                  exact r_zret C (n_bool (by omega)) (oDec_at oX5_part 98 rfl) ⟨_, rfl, ⟨by omega, by first | exact fun _ => oqp_minY (by omega) hjn (by omega) pu42_1 | (intro h; exfalso; omega), by omega, by first | (intro h; exfalso; omega) | exact fun _ => oqp_minN (by omega) hjn (by omega) pu42_3, by first | (intro h9; exfalso; omega) | (intro h9; have h7 := pu42_4; rw [← hL1, ← hF1] at h7; exact oqEc.an (oqe_min (by omega) hjn (by omega) (by omega) h7) hq45), by first | (intro h9; exfalso; omega) | exact (fun h9 => by (have hn9 := (hq45).2.1; omega)), pu42_6⟩⟩
              · omega
          · skip
            refine r_aload_n C (j := 0) (oDec_at oX5_part 76 rfl) rfl rfl ?_
            refine r_iconst C (oDec_at oX5_part 77 rfl) (v := k1) (by rw [qk1]; rfl) ?_
            refine r_aload_n C (j := 0) (oDec_at oX5_part 78 rfl) rfl rfl ?_
            obtain ⟨v46, ev46⟩ : ∃ z : Int32, (u8).1 30 2 = z := ⟨_, rfl⟩
            have gv46 : (u8.1 30 2).toInt = v46.toInt := congrArg Int32.toInt (ev46)
            refine r_geti (k := 2) (lo := 0) (hi := 1600) C v46 oCl5 rfl (by decide) flX5_23 rfl rfl (ev46) rfl rfl (oDec_at oX5_part 79 rfl) (fun b47 b47h => ?_)
            refine r_callVi C oCl5 rfl miX5_fail mlX5_62 (ct4_X5_fail l E (u8) k1 v46 ) (by omega) rfl rfl rfl (Nat.le_of_ble_eq_true rfl) (oDec_at oX5_part 80 rfl) (fun r49 u48 pu48 fu48 => ?_)
            try dsimp only at pu48
            obtain ⟨pu48_0, pu48_1, pu48_2, pu48_3⟩ := pu48
            have rr49 := n_rng r49
            have lk50 : ((u48).1 30 2).toInt = v46.toInt := congrArg Int32.toInt (((fu48 30 2 rfl).1).trans (ev46))
            have lk51 : ((u48).1 30 3).toInt = (s.1 30 3).toInt := congrArg Int32.toInt (((fu48 30 3 rfl).1).trans (((fu8 30 3 rfl).1).trans ((fu1 30 3 rfl).1)))
            have lk52 : ((u48).1 30 5).toInt = (s.1 30 5).toInt := congrArg Int32.toInt (((fu48 30 5 rfl).1).trans (((fu8 30 5 rfl).1).trans ((fu1 30 5 rfl).1)))
            have lk53 : ((u48).1 30 2).toInt = v46.toInt := congrArg Int32.toInt (((fu48 30 2 rfl).1).trans (ev46))
            have lk54 : ((u48).1 30 2).toInt = v46.toInt := congrArg Int32.toInt (((fu48 30 2 rfl).1).trans (ev46))
            have lk55 : ((u48).1 30 3).toInt = (s.1 30 3).toInt := congrArg Int32.toInt (((fu48 30 3 rfl).1).trans (((fu8 30 3 rfl).1).trans ((fu1 30 3 rfl).1)))
            have lk56 : ((u48).1 30 2).toInt = v46.toInt := congrArg Int32.toInt (((fu48 30 2 rfl).1).trans (ev46))
            exact r_zret C (n_bool (by omega)) (oDec_at oX5_part 81 rfl) ⟨_, rfl, ⟨by omega, fun h => by exfalso; omega, by omega, fun _ => (oqp_none (by omega) hss (by omega) (by omega) (by omega)).cast (by omega) (by omega), fun h => by exfalso; omega, fun h => by exfalso; omega, (oqKx_fr fu48 rfl (oqKx_fr fu8 rfl (oqKx_fr fu1 rfl hp10)))⟩⟩
      · skip
        refine r_iload_n C (j := 2) (oDec_at oX5_part 53 rfl) rfl rfl ?_
        refine r_aload_n C (j := 0) (oDec_at oX5_part 54 rfl) rfl rfl ?_
        obtain ⟨v57, ev57⟩ : ∃ z : Int32, (u8).1 30 7 = z := ⟨_, rfl⟩
        have gv57 : (s.1 30 7).toInt = v57.toInt := congrArg Int32.toInt ((((fu8 30 7 rfl).1).trans ((fu1 30 7 rfl).1)).symm.trans ev57)
        have ggv57 : ((u8).1 30 7).toInt = v57.toInt := congrArg Int32.toInt ev57
        have rv57 := n_rng v57
        refine r_geti (k := 7) (lo := (-2147483648)) (hi := 2147483647) C v57 oCl5 rfl (by decide) flX5_112 rfl rfl (ev57) rfl rfl (oDec_at oX5_part 55 rfl) (fun _ _ => ?_)
        refine r_icmp_ge C 135 (oDec_at oX5_part 56 rfl) (by decide) (fun cd58 => ?_) (fun cd58 => ?_)
        · skip
          refine r_iload_n C (j := 2) (oDec_at oX5_part 70 rfl) rfl rfl ?_
          refine r_bipush C (oDec_at oX5_part 71 rfl) (v := k24) (by rw [qk24]; rfl) ?_
          refine r_icmp_eq C 157 (oDec_at oX5_part 72 rfl) (by decide) (fun cd59 => ?_) (fun cd59 => ?_)
          · skip
            have hjn : oqWi g (oqSk g a) b = ((r9.toInt.toNat : Nat) : Int) := by omega
            have hl1 := oq_w1 r9.toInt.toNat (by omega)
            have hHa : oqHa g (oqSk g a) (r9.toInt.toNat) = oqSk g (oqSk g a) + (oqWl (r9.toInt.toNat) : Int) := rfl
            have hH9 := (oqWi_is (g := g) (a := oqSk g a) (b := b) (i := r9.toInt.toNat) (by omega)).mp hjn
            refine r_aload_n C (j := 0) (oDec_at oX5_part 82 rfl) rfl rfl ?_
            refine r_iload_n C (j := 2) (oDec_at oX5_part 83 rfl) rfl rfl ?_
            have lk60 : ((u8).1 30 3).toInt = (s.1 30 3).toInt := congrArg Int32.toInt (((fu8 30 3 rfl).1).trans ((fu1 30 3 rfl).1))
            have lk61 : ((u8).1 30 8).toInt = (s.1 30 8).toInt := congrArg Int32.toInt (((fu8 30 8 rfl).1).trans ((fu1 30 8 rfl).1))
            have lk62 : ((u8).1 30 9).toInt = (s.1 30 9).toInt := congrArg Int32.toInt (((fu8 30 9 rfl).1).trans ((fu1 30 9 rfl).1))
            refine r_callVi C oCl5 rfl miX5_expect mlX5_74 (ct4_X5_expect l E (u8) r9 (g) (oqSk g a) (b) (r9.toInt.toNat) (by omega) (by omega) (oqX_fr fu8 rfl (oqX_fr fu1 rfl hp2)) (by omega) (by omega)) (by omega) rfl rfl rfl (Nat.le_of_ble_eq_true rfl) (oDec_at oX5_part 84 rfl) (fun r64 u63 pu63 fu63 => ?_)
            try dsimp only at pu63
            try simp only [lk60, lk61, lk62] at pu63
            obtain ⟨pu63_0, pu63_1, pu63_2⟩ := pu63
            have rr64 := n_rng r64
            refine r_if_eq C 191 (oDec_at oX5_part 85 rfl) (by decide) (fun cd65 => ?_) (fun cd65 => ?_)
            · skip
              clear pu63_1
              replace pu63_2 := pu63_2 (by omega)
              refine r_iconst C (oDec_at oX5_part 97 rfl) (v := k0) (by rw [qk0]; rfl) ?_
              have lk66 : ((u63).1 30 5).toInt = (s.1 30 5).toInt := congrArg Int32.toInt (((fu63 30 5 rfl).1).trans (((fu8 30 5 rfl).1).trans ((fu1 30 5 rfl).1)))
              exact r_zret C (n_bool (by omega)) (oDec_at oX5_part 98 rfl) ⟨_, rfl, ⟨by omega, by first | exact fun _ => oqp_minY (by omega) hjn (by omega) pu63_1 | (intro h; exfalso; omega), by omega, by first | (intro h; exfalso; omega) | exact fun _ => oqp_minN (by omega) hjn (by omega) pu63_3, by first | (intro h9; exfalso; omega) | (intro h9; have h7 := (by assumption); rw [← hL1, ← hF1] at h7; exact oqEc.an (oqe_min (by omega) hjn (by omega) (by omega) h7) (by assumption)), by first | (intro h9; exfalso; omega) | exact (fun h9 => by (have hn9 := ((by assumption)).2.1; omega)), (oqKx_fr fu63 rfl (oqKx_fr fu8 rfl (oqKx_fr fu1 rfl hp10)))⟩⟩
            · skip
              replace pu63_1 := pu63_1 (by omega)
              clear pu63_2
              refine r_aload_n C (j := 0) (oDec_at oX5_part 86 rfl) rfl rfl ?_
              refine r_iload_n C (j := 2) (oDec_at oX5_part 87 rfl) rfl rfl ?_
              refine r_bipush C (oDec_at oX5_part 88 rfl) (v := k24) (by rw [qk24]; rfl) ?_
              refine r_icmp_ne C 178 (oDec_at oX5_part 89 rfl) (by decide) (fun cd67 => ?_) (fun cd67 => ?_)
              · omega
              · skip
                refine r_sipush C (oDec_at oX5_part 90 rfl) (v := k10030) (by rw [qk10030]; rfl) ?_
                refine r_goto C (tgt := 181) (oDec_at oX5_part 91 rfl) (by decide) ?_
                have lk68 : ((u63).1 30 5).toInt = (s.1 30 5).toInt := congrArg Int32.toInt (((fu63 30 5 rfl).1).trans (((fu8 30 5 rfl).1).trans ((fu1 30 5 rfl).1)))
                have lk69 : ((u63).1 30 6).toInt = v10.toInt := congrArg Int32.toInt (((fu63 30 6 rfl).1).trans (ev10))
                have lk70 : ((u63).1 30 7).toInt = v57.toInt := congrArg Int32.toInt (((fu63 30 7 rfl).1).trans (ev57))
                have lk71 : ((u63).1 30 5).toInt = (s.1 30 5).toInt := congrArg Int32.toInt (((fu63 30 5 rfl).1).trans (((fu8 30 5 rfl).1).trans ((fu1 30 5 rfl).1)))
                refine r_callVi C oCl5 rfl miX5_choice mlX5_172 (h_X5_choice (u63) k10030 (g) (fp) (fq) (oqHa g (oqSk g a) (r9.toInt.toNat)) (oqHa g (oqSk g a) (r9.toInt.toNat)) (op) (bc) (L) (F) (d) (G) (by omega) (by omega) (oqX_fr fu63 rfl (oqX_fr fu8 rfl (oqX_fr fu1 rfl hp2))) (by omega) (by omega) (by omega) (by omega) (oqRw_fr fu63 rfl (oqRw_fr fu8 rfl (oqRw_fr fu1 rfl hp7))) (oqAn_fr fu63 rfl (oqAn_fr fu8 rfl (oqAn_fr fu1 rfl hp8))) (by omega) (oqKx_fr fu63 rfl (oqKx_fr fu8 rfl (oqKx_fr fu1 rfl hp10))) (by omega)) (by omega) rfl rfl rfl (Nat.le_of_ble_eq_true rfl) (oDec_at oX5_part 93 rfl) (fun r73 u72 pu72 fu72 => ?_)
                try dsimp only at pu72
                try simp only [lk68, lk69, lk70, lk71] at pu72
                obtain ⟨pu72_0, pu72_1, pu72_2, pu72_3, pu72_4, pu72_5, pu72_6⟩ := pu72
                have rr73 := n_rng r73
                refine r_if_eq C 191 (oDec_at oX5_part 94 rfl) (by decide) (fun cd74 => ?_) (fun cd74 => ?_)
                · skip
                  clear pu72_1
                  clear pu72_2
                  replace pu72_3 := pu72_3 (by omega)
                  clear pu72_4
                  clear pu72_5
                  refine r_iconst C (oDec_at oX5_part 97 rfl) (v := k0) (by rw [qk0]; rfl) ?_
                  exact r_zret C (n_bool (by omega)) (oDec_at oX5_part 98 rfl) ⟨_, rfl, ⟨by omega, by first | exact fun _ => oqp_minY (by omega) hjn (by omega) pu72_1 | (intro h; exfalso; omega), by omega, by first | (intro h; exfalso; omega) | exact fun _ => oqp_minN (by omega) hjn (by omega) pu72_3, by first | (intro h9; exfalso; omega) | (intro h9; have h7 := (by assumption); rw [← hL1, ← hF1] at h7; exact oqEc.an (oqe_min (by omega) hjn (by omega) (by omega) h7) (by assumption)), by first | (intro h9; exfalso; omega) | exact (fun h9 => by (have hn9 := ((by assumption)).2.1; omega)), pu72_6⟩⟩
                · skip
                  replace pu72_1 := pu72_1 (by omega)
                  replace pu72_2 := pu72_2 (by omega)
                  clear pu72_3
                  replace pu72_4 := pu72_4 (by omega)
                  replace pu72_5 := pu72_5 (by omega)
                  obtain ⟨L1, hL1⟩ : ∃ z, z = ((u72).1 bc 1).toInt := ⟨_, rfl⟩
                  obtain ⟨F1, hF1⟩ : ∃ z, z = (u72).1 (bc + 1) := ⟨_, rfl⟩
                  have hq75 : oqAn bc L1 F1 (u72) := ⟨hkb, hL1.symm, hF1.symm⟩
                  refine r_iconst C (oDec_at oX5_part 95 rfl) (v := k1) (by rw [qk1]; rfl) ?_
                  refine r_goto C (tgt := 192) (oDec_at oX5_part 96 rfl) (by decide) ?_
                  exact r_zret C (n_bool (by omega)) (oDec_at oX5_part 98 rfl) ⟨_, rfl, ⟨by omega, by first | exact fun _ => oqp_minY (by omega) hjn (by omega) pu72_1 | (intro h; exfalso; omega), by omega, by first | (intro h; exfalso; omega) | exact fun _ => oqp_minN (by omega) hjn (by omega) pu72_3, by first | (intro h9; exfalso; omega) | (intro h9; have h7 := pu72_4; rw [← hL1, ← hF1] at h7; exact oqEc.an (oqe_min (by omega) hjn (by omega) (by omega) h7) hq75), by first | (intro h9; exfalso; omega) | exact (fun h9 => by (have hn9 := (hq75).2.1; omega)), pu72_6⟩⟩
          · skip
            refine r_iload_n C (j := 2) (oDec_at oX5_part 73 rfl) rfl rfl ?_
            refine r_bipush C (oDec_at oX5_part 74 rfl) (v := k25) (by rw [qk25]; rfl) ?_
            refine r_icmp_eq C 157 (oDec_at oX5_part 75 rfl) (by decide) (fun cd76 => ?_) (fun cd76 => ?_)
            · skip
              have hjn : oqWi g (oqSk g a) b = ((r9.toInt.toNat : Nat) : Int) := by omega
              have hl1 := oq_w1 r9.toInt.toNat (by omega)
              have hHa : oqHa g (oqSk g a) (r9.toInt.toNat) = oqSk g (oqSk g a) + (oqWl (r9.toInt.toNat) : Int) := rfl
              have hH9 := (oqWi_is (g := g) (a := oqSk g a) (b := b) (i := r9.toInt.toNat) (by omega)).mp hjn
              refine r_aload_n C (j := 0) (oDec_at oX5_part 82 rfl) rfl rfl ?_
              refine r_iload_n C (j := 2) (oDec_at oX5_part 83 rfl) rfl rfl ?_
              have lk77 : ((u8).1 30 3).toInt = (s.1 30 3).toInt := congrArg Int32.toInt (((fu8 30 3 rfl).1).trans ((fu1 30 3 rfl).1))
              have lk78 : ((u8).1 30 8).toInt = (s.1 30 8).toInt := congrArg Int32.toInt (((fu8 30 8 rfl).1).trans ((fu1 30 8 rfl).1))
              have lk79 : ((u8).1 30 9).toInt = (s.1 30 9).toInt := congrArg Int32.toInt (((fu8 30 9 rfl).1).trans ((fu1 30 9 rfl).1))
              refine r_callVi C oCl5 rfl miX5_expect mlX5_74 (ct4_X5_expect l E (u8) r9 (g) (oqSk g a) (b) (r9.toInt.toNat) (by omega) (by omega) (oqX_fr fu8 rfl (oqX_fr fu1 rfl hp2)) (by omega) (by omega)) (by omega) rfl rfl rfl (Nat.le_of_ble_eq_true rfl) (oDec_at oX5_part 84 rfl) (fun r81 u80 pu80 fu80 => ?_)
              try dsimp only at pu80
              try simp only [lk77, lk78, lk79] at pu80
              obtain ⟨pu80_0, pu80_1, pu80_2⟩ := pu80
              have rr81 := n_rng r81
              refine r_if_eq C 191 (oDec_at oX5_part 85 rfl) (by decide) (fun cd82 => ?_) (fun cd82 => ?_)
              · skip
                clear pu80_1
                replace pu80_2 := pu80_2 (by omega)
                refine r_iconst C (oDec_at oX5_part 97 rfl) (v := k0) (by rw [qk0]; rfl) ?_
                have lk83 : ((u80).1 30 5).toInt = (s.1 30 5).toInt := congrArg Int32.toInt (((fu80 30 5 rfl).1).trans (((fu8 30 5 rfl).1).trans ((fu1 30 5 rfl).1)))
                exact r_zret C (n_bool (by omega)) (oDec_at oX5_part 98 rfl) ⟨_, rfl, ⟨by omega, by first | exact fun _ => oqp_minY (by omega) hjn (by omega) pu80_1 | (intro h; exfalso; omega), by omega, by first | (intro h; exfalso; omega) | exact fun _ => oqp_minN (by omega) hjn (by omega) pu80_3, by first | (intro h9; exfalso; omega) | (intro h9; have h7 := (by assumption); rw [← hL1, ← hF1] at h7; exact oqEc.an (oqe_min (by omega) hjn (by omega) (by omega) h7) (by assumption)), by first | (intro h9; exfalso; omega) | exact (fun h9 => by (have hn9 := ((by assumption)).2.1; omega)), (oqKx_fr fu80 rfl (oqKx_fr fu8 rfl (oqKx_fr fu1 rfl hp10)))⟩⟩
              · skip
                replace pu80_1 := pu80_1 (by omega)
                clear pu80_2
                refine r_aload_n C (j := 0) (oDec_at oX5_part 86 rfl) rfl rfl ?_
                refine r_iload_n C (j := 2) (oDec_at oX5_part 87 rfl) rfl rfl ?_
                refine r_bipush C (oDec_at oX5_part 88 rfl) (v := k24) (by rw [qk24]; rfl) ?_
                refine r_icmp_ne C 178 (oDec_at oX5_part 89 rfl) (by decide) (fun cd84 => ?_) (fun cd84 => ?_)
                · skip
                  refine r_sipush C (oDec_at oX5_part 92 rfl) (v := k10031) (by rw [qk10031]; rfl) ?_
                  have lk85 : ((u80).1 30 5).toInt = (s.1 30 5).toInt := congrArg Int32.toInt (((fu80 30 5 rfl).1).trans (((fu8 30 5 rfl).1).trans ((fu1 30 5 rfl).1)))
                  have lk86 : ((u80).1 30 6).toInt = v10.toInt := congrArg Int32.toInt (((fu80 30 6 rfl).1).trans (ev10))
                  have lk87 : ((u80).1 30 7).toInt = v57.toInt := congrArg Int32.toInt (((fu80 30 7 rfl).1).trans (ev57))
                  have lk88 : ((u80).1 30 5).toInt = (s.1 30 5).toInt := congrArg Int32.toInt (((fu80 30 5 rfl).1).trans (((fu8 30 5 rfl).1).trans ((fu1 30 5 rfl).1)))
                  refine r_callVi C oCl5 rfl miX5_choice mlX5_172 (h_X5_choice (u80) k10031 (g) (fp) (fq) (oqHa g (oqSk g a) (r9.toInt.toNat)) (oqHa g (oqSk g a) (r9.toInt.toNat)) (op) (bc) (L) (F) (d) (G) (by omega) (by omega) (oqX_fr fu80 rfl (oqX_fr fu8 rfl (oqX_fr fu1 rfl hp2))) (by omega) (by omega) (by omega) (by omega) (oqRw_fr fu80 rfl (oqRw_fr fu8 rfl (oqRw_fr fu1 rfl hp7))) (oqAn_fr fu80 rfl (oqAn_fr fu8 rfl (oqAn_fr fu1 rfl hp8))) (by omega) (oqKx_fr fu80 rfl (oqKx_fr fu8 rfl (oqKx_fr fu1 rfl hp10))) (by omega)) (by omega) rfl rfl rfl (Nat.le_of_ble_eq_true rfl) (oDec_at oX5_part 93 rfl) (fun r90 u89 pu89 fu89 => ?_)
                  try dsimp only at pu89
                  try simp only [lk85, lk86, lk87, lk88] at pu89
                  obtain ⟨pu89_0, pu89_1, pu89_2, pu89_3, pu89_4, pu89_5, pu89_6⟩ := pu89
                  have rr90 := n_rng r90
                  refine r_if_eq C 191 (oDec_at oX5_part 94 rfl) (by decide) (fun cd91 => ?_) (fun cd91 => ?_)
                  · skip
                    clear pu89_1
                    clear pu89_2
                    replace pu89_3 := pu89_3 (by omega)
                    clear pu89_4
                    clear pu89_5
                    refine r_iconst C (oDec_at oX5_part 97 rfl) (v := k0) (by rw [qk0]; rfl) ?_
                    exact r_zret C (n_bool (by omega)) (oDec_at oX5_part 98 rfl) ⟨_, rfl, ⟨by omega, by first | exact fun _ => oqp_minY (by omega) hjn (by omega) pu89_1 | (intro h; exfalso; omega), by omega, by first | (intro h; exfalso; omega) | exact fun _ => oqp_minN (by omega) hjn (by omega) pu89_3, by first | (intro h9; exfalso; omega) | (intro h9; have h7 := (by assumption); rw [← hL1, ← hF1] at h7; exact oqEc.an (oqe_min (by omega) hjn (by omega) (by omega) h7) (by assumption)), by first | (intro h9; exfalso; omega) | exact (fun h9 => by (have hn9 := ((by assumption)).2.1; omega)), pu89_6⟩⟩
                  · skip
                    replace pu89_1 := pu89_1 (by omega)
                    replace pu89_2 := pu89_2 (by omega)
                    clear pu89_3
                    replace pu89_4 := pu89_4 (by omega)
                    replace pu89_5 := pu89_5 (by omega)
                    obtain ⟨L1, hL1⟩ : ∃ z, z = ((u89).1 bc 1).toInt := ⟨_, rfl⟩
                    obtain ⟨F1, hF1⟩ : ∃ z, z = (u89).1 (bc + 1) := ⟨_, rfl⟩
                    have hq92 : oqAn bc L1 F1 (u89) := ⟨hkb, hL1.symm, hF1.symm⟩
                    refine r_iconst C (oDec_at oX5_part 95 rfl) (v := k1) (by rw [qk1]; rfl) ?_
                    refine r_goto C (tgt := 192) (oDec_at oX5_part 96 rfl) (by decide) ?_
                    exact r_zret C (n_bool (by omega)) (oDec_at oX5_part 98 rfl) ⟨_, rfl, ⟨by omega, by first | exact fun _ => oqp_minY (by omega) hjn (by omega) pu89_1 | (intro h; exfalso; omega), by omega, by first | (intro h; exfalso; omega) | exact fun _ => oqp_minN (by omega) hjn (by omega) pu89_3, by first | (intro h9; exfalso; omega) | (intro h9; have h7 := pu89_4; rw [← hL1, ← hF1] at h7; exact oqEc.an (oqe_min (by omega) hjn (by omega) (by omega) h7) hq92), by first | (intro h9; exfalso; omega) | exact (fun h9 => by (have hn9 := (hq92).2.1; omega)), pu89_6⟩⟩
                · omega
            · skip
              refine r_aload_n C (j := 0) (oDec_at oX5_part 76 rfl) rfl rfl ?_
              refine r_iconst C (oDec_at oX5_part 77 rfl) (v := k1) (by rw [qk1]; rfl) ?_
              refine r_aload_n C (j := 0) (oDec_at oX5_part 78 rfl) rfl rfl ?_
              obtain ⟨v93, ev93⟩ : ∃ z : Int32, (u8).1 30 2 = z := ⟨_, rfl⟩
              have gv93 : (u8.1 30 2).toInt = v93.toInt := congrArg Int32.toInt (ev93)
              refine r_geti (k := 2) (lo := 0) (hi := 1600) C v93 oCl5 rfl (by decide) flX5_23 rfl rfl (ev93) rfl rfl (oDec_at oX5_part 79 rfl) (fun b94 b94h => ?_)
              refine r_callVi C oCl5 rfl miX5_fail mlX5_62 (ct4_X5_fail l E (u8) k1 v93 ) (by omega) rfl rfl rfl (Nat.le_of_ble_eq_true rfl) (oDec_at oX5_part 80 rfl) (fun r96 u95 pu95 fu95 => ?_)
              try dsimp only at pu95
              obtain ⟨pu95_0, pu95_1, pu95_2, pu95_3⟩ := pu95
              have rr96 := n_rng r96
              have lk97 : ((u95).1 30 2).toInt = v93.toInt := congrArg Int32.toInt (((fu95 30 2 rfl).1).trans (ev93))
              have lk98 : ((u95).1 30 3).toInt = (s.1 30 3).toInt := congrArg Int32.toInt (((fu95 30 3 rfl).1).trans (((fu8 30 3 rfl).1).trans ((fu1 30 3 rfl).1)))
              have lk99 : ((u95).1 30 5).toInt = (s.1 30 5).toInt := congrArg Int32.toInt (((fu95 30 5 rfl).1).trans (((fu8 30 5 rfl).1).trans ((fu1 30 5 rfl).1)))
              have lk100 : ((u95).1 30 2).toInt = v93.toInt := congrArg Int32.toInt (((fu95 30 2 rfl).1).trans (ev93))
              have lk101 : ((u95).1 30 2).toInt = v93.toInt := congrArg Int32.toInt (((fu95 30 2 rfl).1).trans (ev93))
              have lk102 : ((u95).1 30 3).toInt = (s.1 30 3).toInt := congrArg Int32.toInt (((fu95 30 3 rfl).1).trans (((fu8 30 3 rfl).1).trans ((fu1 30 3 rfl).1)))
              have lk103 : ((u95).1 30 2).toInt = v93.toInt := congrArg Int32.toInt (((fu95 30 2 rfl).1).trans (ev93))
              exact r_zret C (n_bool (by omega)) (oDec_at oX5_part 81 rfl) ⟨_, rfl, ⟨by omega, fun h => by exfalso; omega, by omega, fun _ => (oqp_none (by omega) hss (by omega) (by omega) (by omega)).cast (by omega) (by omega), fun h => by exfalso; omega, fun h => by exfalso; omega, (oqKx_fr fu95 rfl (oqKx_fr fu8 rfl (oqKx_fr fu1 rfl hp10)))⟩⟩
        · skip
          refine r_aload_n C (j := 0) (oDec_at oX5_part 57 rfl) rfl rfl ?_
          refine r_getS (k := 1) (q2 := 0) C oCl5 rfl (by decide) flX5_19 rfl rfl rfl ks1 (oDec_at oX5_part 58 rfl) (fun b104 rb104 mb104 hkb104 => ?_)
          refine r_sipush C (oDec_at oX5_part 59 rfl) (v := k10000) (by rw [qk10000]; rfl) ?_
          refine r_iload_n C (j := 2) (oDec_at oX5_part 60 rfl) rfl rfl ?_
          obtain ⟨v105, ev105⟩ : ∃ z : Int32, z = k10000 + r9 := ⟨_, rfl⟩
          have hv105 : v105.toInt = k10000.toInt + r9.toInt := n_add ev105 (by omega) (by omega)
          refine r_iadd C v105 (oDec_at oX5_part 61 rfl) ev105 ?_
          refine r_aload_n C (j := 0) (oDec_at oX5_part 62 rfl) rfl rfl ?_
          refine r_pc C 122 rfl ?_
          refine r_geti (k := 6) (lo := (-2147483648)) (hi := 2147483647) C v10 oCl5 rfl (by decide) flX5_109 rfl rfl (ev10) rfl rfl (oDec_at oX5_part 63 rfl) (fun _ _ => ?_)
          obtain ⟨v106, ev106⟩ : ∃ z : Int32, z = v105 - v10 := ⟨_, rfl⟩
          have hv106 : v106.toInt = v105.toInt - v10.toInt := n_sub ev106 (by omega) (by omega)
          refine r_isub C v106 (oDec_at oX5_part 64 rfl) ev106 ?_
          have hbb : b104 = bc := oqRw_eq (oqRw_fr fu8 rfl (oqRw_fr fu1 rfl hp7)) (rb104); have hkn : b104 ≠ d := oqKx_ne (oqKx_fr fu8 rfl (oqKx_fr fu1 rfl hp10)) (rb104)
          -- !! !oqAn c0 L F is not known here
          refine r_callVv C oCl0 hkb104 miX0_emit mlX5_147 (ct9_X0_emit l E (u8) b104 hkb104 v106 (L) (F) (d) (G) (by rw [hbb]; exact (oqAn_fr fu8 rfl (oqAn_fr fu1 rfl hp8))) (by omega) (oqKx_fr fu8 rfl (oqKx_fr fu1 rfl hp10))) (by omega) rfl rfl rfl (Nat.le_of_ble_eq_true rfl) (oDec_at oX5_part 65 rfl) (fun u107 pu107 fu107 => ?_)
          try dsimp only at pu107
          obtain ⟨pu107_0, pu107_1⟩ := pu107
          have hjn : oqWi g (oqSk g a) b = ((r9.toInt.toNat : Nat) : Int) := by omega
          have hl1 := oq_w1 r9.toInt.toNat (by omega)
          have hHa : oqHa g (oqSk g a) (r9.toInt.toNat) = oqSk g (oqSk g a) + (oqWl (r9.toInt.toNat) : Int) := rfl
          have hH9 := (oqWi_is (g := g) (a := oqSk g a) (b := b) (i := r9.toInt.toNat) (by omega)).mp hjn
          obtain ⟨L3, hL3⟩ : ∃ z, z = ((u107).1 bc 1).toInt := ⟨_, rfl⟩
          obtain ⟨F3, hF3⟩ : ∃ z, z = (u107).1 (bc + 1) := ⟨_, rfl⟩
          have hem := pu107_0
          rw [hbb] at hem
          have hq109 : oqAn bc L3 F3 (u107) := ⟨hkb, hL3.symm, hF3.symm⟩
          refine r_aload_n C (j := 0) (oDec_at oX5_part 66 rfl) rfl rfl ?_
          refine r_iload_n C (j := 2) (oDec_at oX5_part 67 rfl) rfl rfl ?_
          have lk110 : ((u107).1 30 2).toInt = (u8.1 30 2).toInt := congrArg Int32.toInt ((fu107 30 2 rfl).1)
          have lk111 : ((u107).1 30 3).toInt = (s.1 30 3).toInt := congrArg Int32.toInt (((fu107 30 3 rfl).1).trans (((fu8 30 3 rfl).1).trans ((fu1 30 3 rfl).1)))
          have lk112 : ((u107).1 30 8).toInt = (s.1 30 8).toInt := congrArg Int32.toInt (((fu107 30 8 rfl).1).trans (((fu8 30 8 rfl).1).trans ((fu1 30 8 rfl).1)))
          have lk113 : ((u107).1 30 9).toInt = (s.1 30 9).toInt := congrArg Int32.toInt (((fu107 30 9 rfl).1).trans (((fu8 30 9 rfl).1).trans ((fu1 30 9 rfl).1)))
          refine r_callVi C oCl5 rfl miX5_expect mlX5_74 (ct4_X5_expect l E (u107) r9 (g) (oqSk g a) (b) (r9.toInt.toNat) (by omega) (by omega) (oqX_fr fu107 rfl (oqX_fr fu8 rfl (oqX_fr fu1 rfl hp2))) (by omega) (by omega)) (by omega) rfl rfl rfl (Nat.le_of_ble_eq_true rfl) (oDec_at oX5_part 68 rfl) (fun r115 u114 pu114 fu114 => ?_)
          try dsimp only at pu114
          try simp only [lk110, lk111, lk112, lk113] at pu114
          obtain ⟨pu114_0, pu114_1, pu114_2⟩ := pu114
          have rr115 := n_rng r115
          refine r_pc C 134 rfl ?_
          refine r_ty C (fun hty => ?_)
          have hta : (0 : Int) ≤ ((u114).1 30 2).toInt ∧ ((u114).1 30 2).toInt ≤ 1600 := hty.1 30 2
          clear hty
          have lk116 : ((u114).1 30 5).toInt = (s.1 30 5).toInt := congrArg Int32.toInt (((fu114 30 5 rfl).1).trans (((fu107 30 5 rfl).1).trans (((fu8 30 5 rfl).1).trans ((fu1 30 5 rfl).1))))
          exact r_zret C (n_bool (by omega)) (oDec_at oX5_part 69 rfl) ⟨_, rfl, ⟨by omega, fun _ => (oqp_wd (by omega) hjn (by omega) (by omega)).castS (by omega) (by omega), by omega, fun h => by exfalso; omega, fun _ => oqEc.an ((oqe_wd (v := v106) (by omega) hjn (by omega) (by omega) (by omega) (by omega) (by omega) (by (have h8 := hem (by omega); omega)) (by rw [hF3]; exact (hem (by omega)).2)).castS (by omega) (by omega)) (oqAn_fr fu114 rfl hq109), fun h9 => by (have h8 := (hem (by omega)).1; have hn9 := ((oqAn_fr fu114 rfl hq109)).2.1; omega), (oqKx_fr fu114 rfl pu107_1)⟩⟩
    · skip
      have hwn := oqWi_let (g := g) (a := oqSk g a) (b := b) (by omega)
      have hge := oqNk_rg g (oqSk g a) b 0 9999
      have hnr := oqDn_rg g (oqSk g (oqSk g a))
      have hna : oqNa g (oqSk g a) = oqSk g (oqSk g a) + oqDn g (oqSk g (oqSk g a)) := rfl
      refine r_aload_n C (j := 0) (oDec_at oX5_part 30 rfl) rfl rfl ?_
      refine r_iconst C (oDec_at oX5_part 31 rfl) (v := k0) (by rw [qk0]; rfl) ?_
      refine r_sipush C (oDec_at oX5_part 32 rfl) (v := k9999) (by rw [qk9999]; rfl) ?_
      have lk117 : ((u1).1 30 3).toInt = (s.1 30 3).toInt := congrArg Int32.toInt ((fu1 30 3 rfl).1)
      have lk118 : ((u1).1 30 8).toInt = (s.1 30 8).toInt := congrArg Int32.toInt ((fu1 30 8 rfl).1)
      have lk119 : ((u1).1 30 9).toInt = (s.1 30 9).toInt := congrArg Int32.toInt ((fu1 30 9 rfl).1)
      refine r_callVi C oCl5 rfl miX5_number mlX5_70 (ct4_X5_number l E (u1) k0 k9999 (g) (oqSk g a) (b) (0) (9999) (by omega) (by omega) (oqX_fr fu1 rfl hp2) (by omega) (by omega) (by omega)) (by omega) rfl rfl rfl (Nat.le_of_ble_eq_true rfl) (oDec_at oX5_part 33 rfl) (fun r121 u120 pu120 fu120 => ?_)
      try dsimp only at pu120
      try simp only [lk117, lk118, lk119] at pu120
      obtain ⟨pu120_0, pu120_1⟩ := pu120
      have rr121 := n_rng r121
      refine r_istore_n C (lv' := [(0, .ref (oad E 30)), (1, .int r2), (2, .int r121)]) [1, 2, 0] (oDec_at oX5_part 34 rfl) rfl (by decide) rfl ?_
      refine r_aload_n C (j := 0) (oDec_at oX5_part 35 rfl) rfl rfl ?_
      refine r_pc C 73 rfl ?_
      refine r_getS (k := 1) (q2 := 0) C oCl5 rfl (by decide) flX5_19 rfl rfl rfl ks1 (oDec_at oX5_part 36 rfl) (fun b122 rb122 mb122 hkb122 => ?_)
      refine r_iload_n C (j := 2) (oDec_at oX5_part 37 rfl) rfl rfl ?_
      refine r_ty C (fun hty => ?_)
      have hta : (0 : Int) ≤ ((u120).1 30 2).toInt ∧ ((u120).1 30 2).toInt ≤ 1600 := hty.1 30 2
      clear hty
      have hbb : b122 = bc := oqRw_eq (oqRw_fr fu120 rfl (oqRw_fr fu1 rfl hp7)) (rb122); have hkn : b122 ≠ d := oqKx_ne (oqKx_fr fu120 rfl (oqKx_fr fu1 rfl hp10)) (rb122)
      -- !! !oqAn c0 L F is not known here
      refine r_callVv C oCl0 hkb122 miX0_emit mlX5_147 (ct9_X0_emit l E (u120) b122 hkb122 r121 (L) (F) (d) (G) (by rw [hbb]; exact (oqAn_fr fu120 rfl (oqAn_fr fu1 rfl hp8))) (by omega) (oqKx_fr fu120 rfl (oqKx_fr fu1 rfl hp10))) (by omega) rfl rfl rfl (Nat.le_of_ble_eq_true rfl) (oDec_at oX5_part 38 rfl) (fun u123 pu123 fu123 => ?_)
      try dsimp only at pu123
      obtain ⟨pu123_0, pu123_1⟩ := pu123
      obtain ⟨L3, hL3⟩ : ∃ z, z = ((u123).1 bc 1).toInt := ⟨_, rfl⟩
      obtain ⟨F3, hF3⟩ : ∃ z, z = (u123).1 (bc + 1) := ⟨_, rfl⟩
      have hem := pu123_0
      rw [hbb] at hem
      have hq125 : oqAn bc L3 F3 (u123) := ⟨hkb, hL3.symm, hF3.symm⟩
      refine r_iload_n C (j := 2) (oDec_at oX5_part 39 rfl) rfl rfl ?_
      refine r_iconst C (oDec_at oX5_part 40 rfl) (v := km1) (by rw [qkm1]; rfl) ?_
      refine r_icmp_eq C 89 (oDec_at oX5_part 41 rfl) (by decide) (fun cd126 => ?_) (fun cd126 => ?_)
      · skip
        refine r_iconst C (oDec_at oX5_part 44 rfl) (v := k0) (by rw [qk0]; rfl) ?_
        have lk127 : ((u123).1 30 2).toInt = (u120.1 30 2).toInt := congrArg Int32.toInt ((fu123 30 2 rfl).1)
        have lk128 : ((u123).1 30 3).toInt = (u120.1 30 3).toInt := congrArg Int32.toInt ((fu123 30 3 rfl).1)
        have lk129 : ((u123).1 30 5).toInt = (s.1 30 5).toInt := congrArg Int32.toInt (((fu123 30 5 rfl).1).trans (((fu120 30 5 rfl).1).trans ((fu1 30 5 rfl).1)))
        have lk130 : ((u123).1 30 2).toInt = (u120.1 30 2).toInt := congrArg Int32.toInt ((fu123 30 2 rfl).1)
        have lk131 : ((u123).1 30 8).toInt = (u120.1 30 8).toInt := congrArg Int32.toInt ((fu123 30 8 rfl).1)
        have lk132 : ((u123).1 30 9).toInt = (u120.1 30 9).toInt := congrArg Int32.toInt ((fu123 30 9 rfl).1)
        have lk133 : ((u123).1 30 8).toInt = (u120.1 30 8).toInt := congrArg Int32.toInt ((fu123 30 8 rfl).1)
        have lk134 : ((u123).1 30 9).toInt = (u120.1 30 9).toInt := congrArg Int32.toInt ((fu123 30 9 rfl).1)
        have lk135 : ((u123).1 30 2).toInt = (u120.1 30 2).toInt := congrArg Int32.toInt ((fu123 30 2 rfl).1)
        have lk136 : ((u123).1 30 3).toInt = (u120.1 30 3).toInt := congrArg Int32.toInt ((fu123 30 3 rfl).1)
        have lk137 : ((u123).1 30 2).toInt = (u120.1 30 2).toInt := congrArg Int32.toInt ((fu123 30 2 rfl).1)
        exact r_zret C (n_bool (by omega)) (oDec_at oX5_part 45 rfl) ⟨_, rfl, ⟨by omega, by first | (intro h; exfalso; omega) | exact fun _ => (oqp_num (by omega) (by omega) (by omega) (by omega)).castS (by omega) (by omega), by omega, by first | (intro h; exfalso; omega) | exact fun _ => (oqp_numF (by omega) (by omega) (by omega) (by omega)).cast (by omega) (by omega), by first | (intro h9; exfalso; omega) | exact fun _ => oqEc.an ((oqe_num (v := r121) (by omega) (by omega) (by omega) (by omega) (by omega) (by omega) (by omega) (by (have h8 := hem (by omega); omega)) (by rw [hF3]; exact (hem (by omega)).2)).castS (by omega) (by omega)) hq125, by first | (intro h9; exfalso; omega) | exact fun h9 => by (have h8 := (hem (by omega)).1; have hn9 := (hq125).2.1; omega), pu123_1⟩⟩
      · skip
        replace pu120_0 := pu120_0.resolve_left (by omega)
        refine r_iconst C (oDec_at oX5_part 42 rfl) (v := k1) (by rw [qk1]; rfl) ?_
        refine r_goto C (tgt := 90) (oDec_at oX5_part 43 rfl) (by decide) ?_
        have lk138 : ((u123).1 30 2).toInt = (u120.1 30 2).toInt := congrArg Int32.toInt ((fu123 30 2 rfl).1)
        have lk139 : ((u123).1 30 3).toInt = (u120.1 30 3).toInt := congrArg Int32.toInt ((fu123 30 3 rfl).1)
        have lk140 : ((u123).1 30 5).toInt = (s.1 30 5).toInt := congrArg Int32.toInt (((fu123 30 5 rfl).1).trans (((fu120 30 5 rfl).1).trans ((fu1 30 5 rfl).1)))
        have lk141 : ((u123).1 30 2).toInt = (u120.1 30 2).toInt := congrArg Int32.toInt ((fu123 30 2 rfl).1)
        have lk142 : ((u123).1 30 8).toInt = (u120.1 30 8).toInt := congrArg Int32.toInt ((fu123 30 8 rfl).1)
        have lk143 : ((u123).1 30 9).toInt = (u120.1 30 9).toInt := congrArg Int32.toInt ((fu123 30 9 rfl).1)
        have lk144 : ((u123).1 30 8).toInt = (u120.1 30 8).toInt := congrArg Int32.toInt ((fu123 30 8 rfl).1)
        have lk145 : ((u123).1 30 9).toInt = (u120.1 30 9).toInt := congrArg Int32.toInt ((fu123 30 9 rfl).1)
        have lk146 : ((u123).1 30 2).toInt = (u120.1 30 2).toInt := congrArg Int32.toInt ((fu123 30 2 rfl).1)
        have lk147 : ((u123).1 30 3).toInt = (u120.1 30 3).toInt := congrArg Int32.toInt ((fu123 30 3 rfl).1)
        have lk148 : ((u123).1 30 2).toInt = (u120.1 30 2).toInt := congrArg Int32.toInt ((fu123 30 2 rfl).1)
        exact r_zret C (n_bool (by omega)) (oDec_at oX5_part 45 rfl) ⟨_, rfl, ⟨by omega, by first | (intro h; exfalso; omega) | exact fun _ => (oqp_num (by omega) (by omega) (by omega) (by omega)).castS (by omega) (by omega), by omega, by first | (intro h; exfalso; omega) | exact fun _ => (oqp_numF (by omega) (by omega) (by omega) (by omega)).cast (by omega) (by omega), by first | (intro h9; exfalso; omega) | exact fun _ => oqEc.an ((oqe_num (v := r121) (by omega) (by omega) (by omega) (by omega) (by omega) (by omega) (by omega) (by (have h8 := hem (by omega); omega)) (by rw [hF3]; exact (hem (by omega)).2)).castS (by omega) (by omega)) hq125, by first | (intro h9; exfalso; omega) | exact fun h9 => by (have h8 := (hem (by omega)).1; have hn9 := (hq125).2.1; omega), pu123_1⟩⟩
  · skip
    refine r_aload_n C (j := 0) (oDec_at oX5_part 6 rfl) rfl rfl ?_
    have lk149 : ((u1).1 30 5).toInt = (s.1 30 5).toInt := congrArg Int32.toInt ((fu1 30 5 rfl).1)
    have lk150 : ((u1).1 30 8).toInt = (s.1 30 8).toInt := congrArg Int32.toInt ((fu1 30 8 rfl).1)
    have lk151 : ((u1).1 30 9).toInt = (s.1 30 9).toInt := congrArg Int32.toInt ((fu1 30 9 rfl).1)
    have lk152 : ((u1).1 30 5).toInt = (s.1 30 5).toInt := congrArg Int32.toInt ((fu1 30 5 rfl).1)
    refine r_callVi C oCl5 rfl miX5_opens mlX5_154 (ct4_X5_opens l E (u1)  ) (by omega) rfl rfl rfl (Nat.le_of_ble_eq_true rfl) (oDec_at oX5_part 7 rfl) (fun r154 u153 pu153 fu153 => ?_)
    try dsimp only at pu153
    try simp only [lk149, lk150, lk151, lk152] at pu153
    obtain ⟨pu153_0, pu153_1, pu153_2⟩ := pu153
    have rr154 := n_rng r154
    refine r_if_eq C 54 (oDec_at oX5_part 8 rfl) (by decide) (fun cd155 => ?_) (fun cd155 => ?_)
    · skip
      clear pu153_1
      replace pu153_2 := pu153_2 (by omega)
      refine r_iconst C (oDec_at oX5_part 25 rfl) (v := k0) (by rw [qk0]; rfl) ?_
      have lk156 : ((u153).1 30 2).toInt = (u1.1 30 2).toInt := congrArg Int32.toInt ((fu153 30 2 rfl).1)
      have lk157 : ((u153).1 30 3).toInt = (s.1 30 3).toInt := congrArg Int32.toInt (((fu153 30 3 rfl).1).trans ((fu1 30 3 rfl).1))
      have lk158 : ((u153).1 30 2).toInt = (u1.1 30 2).toInt := congrArg Int32.toInt ((fu153 30 2 rfl).1)
      have lk159 : ((u153).1 30 2).toInt = (u1.1 30 2).toInt := congrArg Int32.toInt ((fu153 30 2 rfl).1)
      have lk160 : ((u153).1 30 3).toInt = (s.1 30 3).toInt := congrArg Int32.toInt (((fu153 30 3 rfl).1).trans ((fu1 30 3 rfl).1))
      have lk161 : ((u153).1 30 2).toInt = (u1.1 30 2).toInt := congrArg Int32.toInt ((fu153 30 2 rfl).1)
      exact r_zret C (n_bool (by omega)) (oDec_at oX5_part 26 rfl) ⟨_, rfl, ⟨by omega, by first | exact fun _ => (oqp_parY (by omega) (by omega) (by assumption) (by assumption) (by omega)).castS (by omega) (by omega) | (intro h; exfalso; omega), by omega, by first | exact fun _ => (oqp_deep (by omega) (by omega)).cast (by omega) (by omega) | exact fun _ => oqp_parF (by omega) (by omega) pu153_4 | exact fun _ => (oqp_parN (by omega) (by omega) (by assumption) (by assumption) (by omega)).cast (by omega) (by omega) | (intro h; exfalso; omega), by first | exact fun _ => oqEc.an ((oqe_par (by omega) (by omega) hE1 (by assumption)).castS (by omega) (by omega)) (by assumption) | (intro h9; exfalso; omega), by first | (intro h9; exfalso; omega) | exact (fun h9 => by (have hn9 := ((by assumption)).2.1; omega)), (oqKx_fr fu153 rfl (oqKx_fr fu1 rfl hp10))⟩⟩
    · skip
      replace pu153_1 := pu153_1 (by omega)
      clear pu153_2
      refine r_aload_n C (j := 0) (oDec_at oX5_part 9 rfl) rfl rfl ?_
      refine r_bipush C (oDec_at oX5_part 10 rfl) (v := k40) (by rw [qk40]; rfl) ?_
      have lk162 : ((u153).1 30 2).toInt = (u1.1 30 2).toInt := congrArg Int32.toInt ((fu153 30 2 rfl).1)
      refine r_callVi C oCl5 rfl miX5_expectSign mlX5_88 (ct4_X5_expectSign l E (u153) k40 (g) (oqSk g a) (40) (by omega) (oqX_fr fu153 rfl (oqX_fr fu1 rfl hp2)) (by omega) (by omega)) (by omega) rfl rfl rfl (Nat.le_of_ble_eq_true rfl) (oDec_at oX5_part 11 rfl) (fun r164 u163 pu163 fu163 => ?_)
      try dsimp only at pu163
      try simp only [lk162] at pu163
      obtain ⟨pu163_0, pu163_1, pu163_2⟩ := pu163
      have rr164 := n_rng r164
      refine r_if_eq C 54 (oDec_at oX5_part 12 rfl) (by decide) (fun cd165 => ?_) (fun cd165 => ?_)
      · skip
        clear pu163_1
        replace pu163_2 := pu163_2 (by omega)
        refine r_iconst C (oDec_at oX5_part 25 rfl) (v := k0) (by rw [qk0]; rfl) ?_
        have lk166 : ((u163).1 30 3).toInt = (s.1 30 3).toInt := congrArg Int32.toInt (((fu163 30 3 rfl).1).trans (((fu153 30 3 rfl).1).trans ((fu1 30 3 rfl).1)))
        have lk167 : ((u163).1 30 5).toInt = (u153.1 30 5).toInt := congrArg Int32.toInt ((fu163 30 5 rfl).1)
        have lk168 : ((u163).1 30 3).toInt = (s.1 30 3).toInt := congrArg Int32.toInt (((fu163 30 3 rfl).1).trans (((fu153 30 3 rfl).1).trans ((fu1 30 3 rfl).1)))
        exact r_zret C (n_bool (by omega)) (oDec_at oX5_part 26 rfl) ⟨_, rfl, ⟨by omega, by first | exact fun _ => (oqp_parY (by omega) (by omega) (by assumption) (by assumption) (by omega)).castS (by omega) (by omega) | (intro h; exfalso; omega), by omega, by first | exact fun _ => (oqp_deep (by omega) (by omega)).cast (by omega) (by omega) | exact fun _ => oqp_parF (by omega) (by omega) pu163_4 | exact fun _ => (oqp_parN (by omega) (by omega) (by assumption) (by assumption) (by omega)).cast (by omega) (by omega) | (intro h; exfalso; omega), by first | exact fun _ => oqEc.an ((oqe_par (by omega) (by omega) hE1 (by assumption)).castS (by omega) (by omega)) (by assumption) | (intro h9; exfalso; omega), by first | (intro h9; exfalso; omega) | exact (fun h9 => by (have hn9 := ((by assumption)).2.1; omega)), (oqKx_fr fu163 rfl (oqKx_fr fu153 rfl (oqKx_fr fu1 rfl hp10)))⟩⟩
      · skip
        replace pu163_1 := pu163_1 (by omega)
        clear pu163_2
        refine r_aload_n C (j := 0) (oDec_at oX5_part 13 rfl) rfl rfl ?_
        have lk169 : ((u163).1 30 3).toInt = (s.1 30 3).toInt := congrArg Int32.toInt (((fu163 30 3 rfl).1).trans (((fu153 30 3 rfl).1).trans ((fu1 30 3 rfl).1)))
        have lk170 : ((u163).1 30 5).toInt = (u153.1 30 5).toInt := congrArg Int32.toInt ((fu163 30 5 rfl).1)
        have lk171 : ((u163).1 30 6).toInt = (s.1 30 6).toInt := congrArg Int32.toInt (((fu163 30 6 rfl).1).trans (((fu153 30 6 rfl).1).trans ((fu1 30 6 rfl).1)))
        have lk172 : ((u163).1 30 7).toInt = (s.1 30 7).toInt := congrArg Int32.toInt (((fu163 30 7 rfl).1).trans (((fu153 30 7 rfl).1).trans ((fu1 30 7 rfl).1)))
        have lk173 : ((u163).1 30 5).toInt = (u153.1 30 5).toInt := congrArg Int32.toInt ((fu163 30 5 rfl).1)
        refine r_callVi C oCl5 rfl miX5_sum mlX5_160 (((ih (N - 1) (by omega)).2.2.2.1) (u163)  (g) (fp) (fq) (oqSk g a + 1) (b) (op + 1) (bc) (L) (F) (d) (G) (by omega) (by omega) (oqX_fr fu163 rfl (oqX_fr fu153 rfl (oqX_fr fu1 rfl hp2))) (by omega) (by omega) (by omega) (by omega) (oqRw_fr fu163 rfl (oqRw_fr fu153 rfl (oqRw_fr fu1 rfl hp7))) (oqAn_fr fu163 rfl (oqAn_fr fu153 rfl (oqAn_fr fu1 rfl hp8))) (by omega) (oqKx_fr fu163 rfl (oqKx_fr fu153 rfl (oqKx_fr fu1 rfl hp10)))) (by omega) rfl rfl rfl (Nat.le_of_ble_eq_true rfl) (oDec_at oX5_part 14 rfl) (fun r175 u174 pu174 fu174 => ?_)
        try dsimp only at pu174
        try simp only [lk169, lk170, lk171, lk172, lk173] at pu174
        obtain ⟨pu174_0, pu174_1, pu174_2, pu174_3, pu174_4, pu174_5, pu174_6, pu174_7⟩ := pu174
        have rr175 := n_rng r175
        refine r_if_eq C 54 (oDec_at oX5_part 15 rfl) (by decide) (fun cd176 => ?_) (fun cd176 => ?_)
        · skip
          clear pu174_1
          clear pu174_2
          clear pu174_3
          replace pu174_4 := pu174_4 (by omega)
          clear pu174_5
          clear pu174_6
          refine r_iconst C (oDec_at oX5_part 25 rfl) (v := k0) (by rw [qk0]; rfl) ?_
          exact r_zret C (n_bool (by omega)) (oDec_at oX5_part 26 rfl) ⟨_, rfl, ⟨by omega, by first | exact fun _ => (oqp_parY (by omega) (by omega) (by assumption) (by assumption) (by omega)).castS (by omega) (by omega) | (intro h; exfalso; omega), by omega, by first | exact fun _ => (oqp_deep (by omega) (by omega)).cast (by omega) (by omega) | exact fun _ => oqp_parF (by omega) (by omega) pu174_4 | exact fun _ => (oqp_parN (by omega) (by omega) (by assumption) (by assumption) (by omega)).cast (by omega) (by omega) | (intro h; exfalso; omega), by first | exact fun _ => oqEc.an ((oqe_par (by omega) (by omega) hE1 (by assumption)).castS (by omega) (by omega)) (by assumption) | (intro h9; exfalso; omega), by first | (intro h9; exfalso; omega) | exact (fun h9 => by (have hn9 := ((by assumption)).2.1; omega)), pu174_7⟩⟩
        · skip
          replace pu174_1 := pu174_1 (by omega)
          replace pu174_2 := pu174_2 (by omega)
          replace pu174_3 := pu174_3 (by omega)
          clear pu174_4
          replace pu174_5 := pu174_5 (by omega)
          replace pu174_6 := pu174_6 (by omega)
          have hgX : g (oqSk g ((u174).1 30 2).toInt) = g ((u174).1 30 2).toInt := by rw [show oqSk g ((u174).1 30 2).toInt = ((u174).1 30 2).toInt by omega]
          obtain ⟨L1, hL1⟩ : ∃ z, z = ((u174).1 bc 1).toInt := ⟨_, rfl⟩
          obtain ⟨F1, hF1⟩ : ∃ z, z = (u174).1 (bc + 1) := ⟨_, rfl⟩
          have hE1 := pu174_5
          rw [← hL1, ← hF1] at hE1
          try (have hLe1 := hE1.le)
          have hq177 : oqAn bc L1 F1 (u174) := ⟨hkb, hL1.symm, hF1.symm⟩
          refine r_aload_n C (j := 0) (oDec_at oX5_part 16 rfl) rfl rfl ?_
          refine r_bipush C (oDec_at oX5_part 17 rfl) (v := k41) (by rw [qk41]; rfl) ?_
          refine r_callVi C oCl5 rfl miX5_expectSign mlX5_88 (ct4_X5_expectSign l E (u174) k41 (g) (((u174).1 30 2).toInt) (41) (by omega) (oqX_fr fu174 rfl (oqX_fr fu163 rfl (oqX_fr fu153 rfl (oqX_fr fu1 rfl hp2)))) (by omega) (by omega)) (by omega) rfl rfl rfl (Nat.le_of_ble_eq_true rfl) (oDec_at oX5_part 18 rfl) (fun r179 u178 pu178 fu178 => ?_)
          try dsimp only at pu178
          obtain ⟨pu178_0, pu178_1, pu178_2⟩ := pu178
          have rr179 := n_rng r179
          refine r_if_eq C 54 (oDec_at oX5_part 19 rfl) (by decide) (fun cd180 => ?_) (fun cd180 => ?_)
          · skip
            clear pu178_1
            replace pu178_2 := pu178_2 (by omega)
            refine r_iconst C (oDec_at oX5_part 25 rfl) (v := k0) (by rw [qk0]; rfl) ?_
            have lk181 : ((u178).1 30 3).toInt = (u174.1 30 3).toInt := congrArg Int32.toInt ((fu178 30 3 rfl).1)
            have lk182 : ((u178).1 30 5).toInt = (u174.1 30 5).toInt := congrArg Int32.toInt ((fu178 30 5 rfl).1)
            have lk183 : ((u178).1 30 3).toInt = (u174.1 30 3).toInt := congrArg Int32.toInt ((fu178 30 3 rfl).1)
            exact r_zret C (n_bool (by omega)) (oDec_at oX5_part 26 rfl) ⟨_, rfl, ⟨by omega, by first | exact fun _ => (oqp_parY (by omega) (by omega) pu174_1 pu174_2 (by omega)).castS (by omega) (by omega) | (intro h; exfalso; omega), by omega, by first | exact fun _ => (oqp_deep (by omega) (by omega)).cast (by omega) (by omega) | exact fun _ => oqp_parF (by omega) (by omega) pu178_4 | exact fun _ => (oqp_parN (by omega) (by omega) pu174_1 pu174_2 (by omega)).cast (by omega) (by omega) | (intro h; exfalso; omega), by first | exact fun _ => oqEc.an ((oqe_par (by omega) (by omega) hE1 pu174_2).castS (by omega) (by omega)) (oqAn_fr fu178 rfl hq177) | (intro h9; exfalso; omega), by first | (intro h9; exfalso; omega) | exact (fun h9 => by (have hn9 := ((oqAn_fr fu178 rfl hq177)).2.1; omega)), (oqKx_fr fu178 rfl pu174_7)⟩⟩
          · skip
            replace pu178_1 := pu178_1 (by omega)
            clear pu178_2
            refine r_aload_n C (j := 0) (oDec_at oX5_part 20 rfl) rfl rfl ?_
            have lk184 : ((u178).1 30 5).toInt = (u174.1 30 5).toInt := congrArg Int32.toInt ((fu178 30 5 rfl).1)
            have lk185 : ((u178).1 30 5).toInt = (u174.1 30 5).toInt := congrArg Int32.toInt ((fu178 30 5 rfl).1)
            refine r_callVi C oCl5 rfl miX5_closes mlX5_157 (ct4_X5_closes l E (u178)  (by omega)) (by omega) rfl rfl rfl (Nat.le_of_ble_eq_true rfl) (oDec_at oX5_part 21 rfl) (fun r187 u186 pu186 fu186 => ?_)
            try dsimp only at pu186
            try simp only [lk184, lk185] at pu186
            obtain ⟨pu186_0, pu186_1⟩ := pu186
            have rr187 := n_rng r187
            refine r_if_eq C 54 (oDec_at oX5_part 22 rfl) (by decide) (fun cd188 => ?_) (fun cd188 => ?_)
            · skip
              refine r_iconst C (oDec_at oX5_part 25 rfl) (v := k0) (by rw [qk0]; rfl) ?_
              have lk189 : ((u186).1 30 2).toInt = (u178.1 30 2).toInt := congrArg Int32.toInt ((fu186 30 2 rfl).1)
              have lk190 : ((u186).1 30 3).toInt = (u174.1 30 3).toInt := congrArg Int32.toInt (((fu186 30 3 rfl).1).trans ((fu178 30 3 rfl).1))
              have lk191 : ((u186).1 30 2).toInt = (u178.1 30 2).toInt := congrArg Int32.toInt ((fu186 30 2 rfl).1)
              have lk192 : ((u186).1 30 8).toInt = (u178.1 30 8).toInt := congrArg Int32.toInt ((fu186 30 8 rfl).1)
              have lk193 : ((u186).1 30 9).toInt = (u178.1 30 9).toInt := congrArg Int32.toInt ((fu186 30 9 rfl).1)
              have lk194 : ((u186).1 30 8).toInt = (u178.1 30 8).toInt := congrArg Int32.toInt ((fu186 30 8 rfl).1)
              have lk195 : ((u186).1 30 9).toInt = (u178.1 30 9).toInt := congrArg Int32.toInt ((fu186 30 9 rfl).1)
              have lk196 : ((u186).1 30 2).toInt = (u178.1 30 2).toInt := congrArg Int32.toInt ((fu186 30 2 rfl).1)
              have lk197 : ((u186).1 30 3).toInt = (u174.1 30 3).toInt := congrArg Int32.toInt (((fu186 30 3 rfl).1).trans ((fu178 30 3 rfl).1))
              have lk198 : ((u186).1 30 2).toInt = (u178.1 30 2).toInt := congrArg Int32.toInt ((fu186 30 2 rfl).1)
              exact r_zret C (n_bool (by omega)) (oDec_at oX5_part 26 rfl) ⟨_, rfl, ⟨by omega, by first | exact fun _ => (oqp_parY (by omega) (by omega) pu174_1 pu174_2 (by omega)).castS (by omega) (by omega) | (intro h; exfalso; omega), by omega, by first | exact fun _ => (oqp_deep (by omega) (by omega)).cast (by omega) (by omega) | exact fun _ => oqp_parF (by omega) (by omega) pu186_4 | exact fun _ => (oqp_parN (by omega) (by omega) pu174_1 pu174_2 (by omega)).cast (by omega) (by omega) | (intro h; exfalso; omega), by first | exact fun _ => oqEc.an ((oqe_par (by omega) (by omega) hE1 pu174_2).castS (by omega) (by omega)) (oqAn_fr fu186 rfl (oqAn_fr fu178 rfl hq177)) | (intro h9; exfalso; omega), by first | (intro h9; exfalso; omega) | exact (fun h9 => by (have hn9 := ((oqAn_fr fu186 rfl (oqAn_fr fu178 rfl hq177))).2.1; omega)), (oqKx_fr fu186 rfl (oqKx_fr fu178 rfl pu174_7))⟩⟩
            · skip
              refine r_iconst C (oDec_at oX5_part 23 rfl) (v := k1) (by rw [qk1]; rfl) ?_
              refine r_goto C (tgt := 55) (oDec_at oX5_part 24 rfl) (by decide) ?_
              have lk199 : ((u186).1 30 2).toInt = (u178.1 30 2).toInt := congrArg Int32.toInt ((fu186 30 2 rfl).1)
              have lk200 : ((u186).1 30 3).toInt = (u174.1 30 3).toInt := congrArg Int32.toInt (((fu186 30 3 rfl).1).trans ((fu178 30 3 rfl).1))
              have lk201 : ((u186).1 30 2).toInt = (u178.1 30 2).toInt := congrArg Int32.toInt ((fu186 30 2 rfl).1)
              have lk202 : ((u186).1 30 8).toInt = (u178.1 30 8).toInt := congrArg Int32.toInt ((fu186 30 8 rfl).1)
              have lk203 : ((u186).1 30 9).toInt = (u178.1 30 9).toInt := congrArg Int32.toInt ((fu186 30 9 rfl).1)
              have lk204 : ((u186).1 30 8).toInt = (u178.1 30 8).toInt := congrArg Int32.toInt ((fu186 30 8 rfl).1)
              have lk205 : ((u186).1 30 9).toInt = (u178.1 30 9).toInt := congrArg Int32.toInt ((fu186 30 9 rfl).1)
              have lk206 : ((u186).1 30 2).toInt = (u178.1 30 2).toInt := congrArg Int32.toInt ((fu186 30 2 rfl).1)
              have lk207 : ((u186).1 30 3).toInt = (u174.1 30 3).toInt := congrArg Int32.toInt (((fu186 30 3 rfl).1).trans ((fu178 30 3 rfl).1))
              have lk208 : ((u186).1 30 2).toInt = (u178.1 30 2).toInt := congrArg Int32.toInt ((fu186 30 2 rfl).1)
              exact r_zret C (n_bool (by omega)) (oDec_at oX5_part 26 rfl) ⟨_, rfl, ⟨by omega, by first | exact fun _ => (oqp_parY (by omega) (by omega) pu174_1 pu174_2 (by omega)).castS (by omega) (by omega) | (intro h; exfalso; omega), by omega, by first | exact fun _ => (oqp_deep (by omega) (by omega)).cast (by omega) (by omega) | exact fun _ => oqp_parF (by omega) (by omega) pu186_4 | exact fun _ => (oqp_parN (by omega) (by omega) pu174_1 pu174_2 (by omega)).cast (by omega) (by omega) | (intro h; exfalso; omega), by first | exact fun _ => oqEc.an ((oqe_par (by omega) (by omega) hE1 pu174_2).castS (by omega) (by omega)) (oqAn_fr fu186 rfl (oqAn_fr fu178 rfl hq177)) | (intro h9; exfalso; omega), by first | (intro h9; exfalso; omega) | exact (fun h9 => by (have hn9 := ((oqAn_fr fu186 rfl (oqAn_fr fu178 rfl hq177))).2.1; omega)), (oqKx_fr fu186 rfl (oqKx_fr fu178 rfl pu174_7))⟩⟩
