set_option maxHeartbeats 4000000 in
set_option maxRecDepth 100000 in
theorem gr9_X5_X5_test (l : Launch) (E : oE) (N : Nat) (ih : ∀ m : Nat, m < N → ogr9_X5 l E m) (h_X5_both : ogr9_X5_X5_both l E N) : ogr9_X5_X5_test l E N := by
  intro s g fp fq a b op bc L F d G hp0 hp1 hp2 hp3 hp4 hp5 hp6 hp7 hp8 hp9 hp10
  refine oMet.of (lv := [(0, .ref (oad E 30))]) (by decide +kernel) (Nat.le_of_ble_eq_true rfl) rfl (fun J C hT => ?_)
  have C : oC l (7 + 10 * N + 7) cX5_test RX5 2 (some .boolean) [(0, 1), (5, 2), (5, 3), (5, 4), (5, 5), (5, 8), (5, 9), (20, 9999)] E s (oPi (fun r u => (0 ≤ r.toInt ∧ r.toInt ≤ 1) ∧ (r.toInt = 1 → oqGn g fp fq (oqSk g a) b op (u.1 30 2).toInt (u.1 30 3).toInt) ∧ (r.toInt = 1 → (oqWi g (u.1 30 2).toInt (u.1 30 3).toInt ≠ 7 ∧ oqWi g (u.1 30 2).toInt (u.1 30 3).toInt ≠ 8)) ∧ (r.toInt = 1 → (oqSk g (u.1 30 2).toInt = (u.1 30 2).toInt ∧ (u.1 30 5).toInt = op ∧ a + 1 ≤ (u.1 30 2).toInt ∧ (u.1 30 8).toInt = (s.1 30 8).toInt ∧ (u.1 30 9).toInt = (s.1 30 9).toInt)) ∧ (r.toInt = 0 → oqFn g fp fq (oqSk g a) b op (u.1 30 8).toInt (u.1 30 9).toInt) ∧ (r.toInt = 1 → oqEc oqT5 g fp fq 0 (oqSk g a) b op 2 (u.1 30 2).toInt (u.1 30 3).toInt op L F (u.1 bc 1).toInt (u.1 (bc + 1))) ∧ (r.toInt = 1 → (u.1 bc 1).toInt - L ≤ (u.1 30 2).toInt - a) ∧ (oqKx d G u))) J := C
  obtain ⟨k0, qk0⟩ : ∃ z : Int32, z = 0 := ⟨_, rfl⟩
  have ek0 : k0.toInt = 0 := by rw [qk0]; rfl
  obtain ⟨k1, qk1⟩ : ∃ z : Int32, z = 1 := ⟨_, rfl⟩
  have ek1 : k1.toInt = 1 := by rw [qk1]; rfl
  obtain ⟨k7, qk7⟩ : ∃ z : Int32, z = 7 := ⟨_, rfl⟩
  have ek7 : k7.toInt = 7 := by rw [qk7]; rfl
  obtain ⟨k1600, qk1600⟩ : ∃ z : Int32, z = 1600 := ⟨_, rfl⟩
  have ek1600 : k1600.toInt = 1600 := by rw [qk1600]; rfl
  obtain ⟨k10021, qk10021⟩ : ∃ z : Int32, z = 10021 := ⟨_, rfl⟩
  have ek10021 : k10021.toInt = 10021 := by rw [qk10021]; rfl
  have hge9 := oqSk_ge g a
  have hkb := (hp8 : oqAn bc L F s).1
  have hLs := (hp8 : oqAn bc L F s).2.1
  have key : ∀ n : Nat, (∀ (t : oS) (x1 : Int32), (oqX g t) → (0 ≤ x1.toInt ∧ 2 * x1.toInt ≤ (t.1 30 2).toInt) → ((t.1 30 5).toInt = op) → (oqGn g fp fq (oqSk g a) b op (t.1 30 2).toInt (t.1 30 3).toInt) → (a + 1 ≤ (t.1 30 2).toInt) → ((t.1 30 8).toInt = (s.1 30 8).toInt ∧ (t.1 30 9).toInt = (s.1 30 9).toInt) → ((t.1 30 6).toInt = fp ∧ (t.1 30 7).toInt = fq) → (oqWi g (t.1 30 2).toInt (t.1 30 3).toInt ≠ 8 ∧ oqSk g (t.1 30 2).toInt = (t.1 30 2).toInt) → (oqRw bc t) → (oqKx d G t) → (oqEc oqT5 g fp fq 0 (oqSk g a) b op 2 (t.1 30 2).toInt (t.1 30 3).toInt op L F (t.1 bc 1).toInt (t.1 (bc + 1))) → ((t.1 bc 1).toInt - L ≤ (t.1 30 2).toInt - a) → 1601 - x1.toInt ≤ (n : Int) → J t 11 [(0, .ref (oad E 30)), (1, .int x1)] []) := by
    intro n
    induction n using Nat.strongRecOn with
    | _ n ih =>
      skip
      · intro t x1  iv0 iv1 iv2 iv3 iv4 iv5 iv6 iv7 iv8 iv9 iv10 iv11 hmu
        have rx1 := n_rng x1
        have hEC := iv10
        obtain ⟨L1, hL1⟩ : ∃ z, z = ((t).1 bc 1).toInt := ⟨_, rfl⟩
        obtain ⟨F1, hF1⟩ : ∃ z, z = (t).1 (bc + 1) := ⟨_, rfl⟩
        rw [← hL1, ← hF1] at hEC
        have hLe9 := hEC.le
        have hq1 : oqAn bc L1 F1 (t) := ⟨hkb, hL1.symm, hF1.symm⟩
        refine r_iload_n C (j := 1) (oDec_at oX5_test 7 rfl) rfl rfl ?_
        refine r_sipush C (oDec_at oX5_test 8 rfl) (v := k1600) (by rw [qk1600]; rfl) ?_
        refine r_icmp_ge C 52 (oDec_at oX5_test 9 rfl) (by decide) (fun cd2 => ?_) (fun cd2 => ?_)
        · skip
          try (have hat9 : ((t).1 30 2).toInt = (t.1 30 2).toInt := by omega)
          try (have hgl9 : ((t).1 30 3).toInt = (t.1 30 3).toInt := by omega)
          refine r_ty C (fun hty => ?_)
          have hta : (0 : Int) ≤ ((t).1 30 2).toInt ∧ ((t).1 30 2).toInt ≤ 1600 := hty.1 30 2
          clear hty
          refine r_iconst C (oDec_at oX5_test 25 rfl) (v := k1) (by rw [qk1]; rfl) ?_
          exact r_zret C (n_bool (by omega)) (oDec_at oX5_test 26 rfl) ⟨_, rfl, ⟨by omega, by first | (exfalso; omega) | exact fun _ => iv3.cast (by omega) (by omega), by first | (exfalso; omega) | (intro _; rw [hat9, hgl9]; omega), by first | (exfalso; omega) | (intro _; refine ⟨by rw [hat9]; exact iv7.2, by omega, by omega, by omega, by omega⟩), fun h => by exfalso; omega, by first | (exfalso; omega) | exact fun _ => oqEc.an (hEC.cast (by omega) (by omega)) hq1, by first | (exfalso; omega) | exact fun h9 => by (have hn9 := (hq1).2.1; omega), iv9⟩⟩
        · skip
          refine r_aload_n C (j := 0) (oDec_at oX5_test 10 rfl) rfl rfl ?_
          refine r_bipush C (oDec_at oX5_test 11 rfl) (v := k7) (by rw [qk7]; rfl) ?_
          refine r_callVi C oCl5 rfl miX5_accept mlX5_66 (ct4_X5_accept l E (t) k7 (g) ((t.1 30 2).toInt) ((t.1 30 3).toInt) (7) (by omega) (by omega) iv0 (by omega) (by omega)) (by omega) rfl rfl rfl (Nat.le_of_ble_eq_true rfl) (oDec_at oX5_test 12 rfl) (fun r4 u3 pu3 fu3 => ?_)
          try dsimp only at pu3
          obtain ⟨pu3_0, pu3_1, pu3_2, pu3_3⟩ := pu3
          have rr4 := n_rng r4
          have hge := oqSk_ge g (t.1 30 2).toInt
          have hH7 := oqWi_is (g := g) (a := (t.1 30 2).toInt) (b := (t.1 30 3).toInt) (i := 7) (by decide)
          have hHa : oqHa g (t.1 30 2).toInt 7 = oqSk g (t.1 30 2).toInt + (oqWl 7 : Int) := rfl
          have hl8 : oqWl 7 = 2 := rfl
          refine r_if_eq C 52 (oDec_at oX5_test 13 rfl) (by decide) (fun cd5 => ?_) (fun cd5 => ?_)
          · skip
            clear pu3_1
            replace pu3_2 := pu3_2 (by omega)
            try (have hat9 : ((u3).1 30 2).toInt = (t.1 30 2).toInt := by omega)
            try (have hgl9 : ((u3).1 30 3).toInt = (t.1 30 3).toInt := by omega)
            refine r_ty C (fun hty => ?_)
            have hta : (0 : Int) ≤ ((u3).1 30 2).toInt ∧ ((u3).1 30 2).toInt ≤ 1600 := hty.1 30 2
            clear hty
            refine r_iconst C (oDec_at oX5_test 25 rfl) (v := k1) (by rw [qk1]; rfl) ?_
            have lk6 : ((u3).1 30 5).toInt = (t.1 30 5).toInt := congrArg Int32.toInt ((fu3 30 5 rfl).1)
            have lk7 : ((u3).1 30 8).toInt = (t.1 30 8).toInt := congrArg Int32.toInt ((fu3 30 8 rfl).1)
            have lk8 : ((u3).1 30 9).toInt = (t.1 30 9).toInt := congrArg Int32.toInt ((fu3 30 9 rfl).1)
            have lk9 : ((u3).1 30 8).toInt = (t.1 30 8).toInt := congrArg Int32.toInt ((fu3 30 8 rfl).1)
            have lk10 : ((u3).1 30 9).toInt = (t.1 30 9).toInt := congrArg Int32.toInt ((fu3 30 9 rfl).1)
            exact r_zret C (n_bool (by omega)) (oDec_at oX5_test 26 rfl) ⟨_, rfl, ⟨by omega, by first | (exfalso; omega) | exact fun _ => iv3.cast (by omega) (by omega), by first | (exfalso; omega) | (intro _; rw [hat9, hgl9]; omega), by first | (exfalso; omega) | (intro _; refine ⟨by rw [hat9]; exact iv7.2, by omega, by omega, by omega, by omega⟩), fun h => by exfalso; omega, by first | (exfalso; omega) | exact fun _ => oqEc.an (hEC.cast (by omega) (by omega)) (oqAn_fr fu3 rfl hq1), by first | (exfalso; omega) | exact fun h9 => by (have hn9 := ((oqAn_fr fu3 rfl hq1)).2.1; omega), (oqKx_fr fu3 rfl iv9)⟩⟩
          · skip
            replace pu3_1 := pu3_1 (by omega)
            clear pu3_2
            refine r_aload_n C (j := 0) (oDec_at oX5_test 14 rfl) rfl rfl ?_
            have lk11 : ((u3).1 30 5).toInt = (t.1 30 5).toInt := congrArg Int32.toInt ((fu3 30 5 rfl).1)
            have lk12 : ((u3).1 30 6).toInt = (t.1 30 6).toInt := congrArg Int32.toInt ((fu3 30 6 rfl).1)
            have lk13 : ((u3).1 30 7).toInt = (t.1 30 7).toInt := congrArg Int32.toInt ((fu3 30 7 rfl).1)
            have lk14 : ((u3).1 30 5).toInt = (t.1 30 5).toInt := congrArg Int32.toInt ((fu3 30 5 rfl).1)
            have lk15 : ((u3).1 30 8).toInt = (t.1 30 8).toInt := congrArg Int32.toInt ((fu3 30 8 rfl).1)
            have lk16 : ((u3).1 30 9).toInt = (t.1 30 9).toInt := congrArg Int32.toInt ((fu3 30 9 rfl).1)
            refine r_callVi C oCl5 rfl miX5_both mlX5_144 (h_X5_both (u3)  (g) (fp) (fq) (oqHa g (t.1 30 2).toInt 7) (oqHa g (t.1 30 2).toInt 7) (op) (bc) (L1) (F1) (d) (G) (by omega) (by omega) (oqX_fr fu3 rfl iv0) (by omega) (by omega) (by omega) (by omega) (oqRw_fr fu3 rfl iv8) (oqAn_fr fu3 rfl hq1) (by omega) (oqKx_fr fu3 rfl iv9)) (by omega) rfl rfl rfl (Nat.le_of_ble_eq_true rfl) (oDec_at oX5_test 15 rfl) (fun r18 u17 pu17 fu17 => ?_)
            try dsimp only at pu17
            try simp only [lk11, lk12, lk13, lk14, lk15, lk16] at pu17
            obtain ⟨pu17_0, pu17_1, pu17_2, pu17_3, pu17_4, pu17_5, pu17_6, pu17_7⟩ := pu17
            have rr18 := n_rng r18
            refine r_if_ne C 36 (oDec_at oX5_test 16 rfl) (by decide) (fun cd19 => ?_) (fun cd19 => ?_)
            · skip
              replace pu17_1 := pu17_1 (by omega)
              replace pu17_2 := pu17_2 (by omega)
              replace pu17_3 := pu17_3 (by omega)
              clear pu17_4
              replace pu17_5 := pu17_5 (by omega)
              replace pu17_6 := pu17_6 (by omega)
              obtain ⟨L2, hL2⟩ : ∃ z, z = ((u17).1 bc 1).toInt := ⟨_, rfl⟩
              obtain ⟨F2, hF2⟩ : ∃ z, z = (u17).1 (bc + 1) := ⟨_, rfl⟩
              have hE2 := pu17_5
              rw [← hL2, ← hF2] at hE2
              try (have hLe2 := hE2.le)
              have hQ2 := pu17_2
              have hq20 : oqAn bc L2 F2 (u17) := ⟨hkb, hL2.symm, hF2.symm⟩
              refine r_aload_n C (j := 0) (oDec_at oX5_test 19 rfl) rfl rfl ?_
              refine r_getS (k := 1) (q2 := 0) C oCl5 rfl (by decide) flX5_19 rfl rfl rfl ks1 (oDec_at oX5_test 20 rfl) (fun b21 rb21 mb21 hkb21 => ?_)
              refine r_sipush C (oDec_at oX5_test 21 rfl) (v := k10021) (by rw [qk10021]; rfl) ?_
              refine r_ty C (fun hty => ?_)
              have hta : (0 : Int) ≤ ((u17).1 30 2).toInt ∧ ((u17).1 30 2).toInt ≤ 1600 := hty.1 30 2
              clear hty
              have hbb : b21 = bc := oqRw_eq (oqRw_fr fu17 rfl (oqRw_fr fu3 rfl iv8)) (rb21); have hkn : b21 ≠ d := oqKx_ne pu17_7 (rb21)
              -- !! !oqAn c0 L2 F2 is not known here
              refine r_callVv C oCl0 hkb21 miX0_emit mlX5_147 (ct9_X0_emit l E (u17) b21 hkb21 k10021 (L2) (F2) (d) (G) (by rw [hbb]; exact hq20) (by omega) pu17_7) (by omega) rfl rfl rfl (Nat.le_of_ble_eq_true rfl) (oDec_at oX5_test 22 rfl) (fun u22 pu22 fu22 => ?_)
              try dsimp only at pu22
              obtain ⟨pu22_0, pu22_1⟩ := pu22
              have hem := pu22_0 (by omega)
              rw [hbb] at hem
              obtain ⟨hem1, hem2⟩ := hem
              obtain ⟨v24, ev24⟩ : ∃ z : Int32, x1 + Int32.ofInt 1 = z := ⟨_, rfl⟩
              have hv24 : v24.toInt = x1.toInt + 1 := n_inc ev24 (by decide) (by omega) (by omega)
              refine r_iinc C (j := 1) (lv' := [(0, .ref (oad E 30)), (1, .int v24)]) v24 [1, 0] (oDec_at oX5_test 23 rfl) rfl ev24 (by decide) rfl ?_
              refine r_goto C (tgt := 11) (oDec_at oX5_test 24 rfl) (by decide) ?_
              have lk25 : ((u22).1 30 2).toInt = (u17.1 30 2).toInt := congrArg Int32.toInt ((fu22 30 2 rfl).1)
              have lk26 : ((u22).1 30 5).toInt = (u17.1 30 5).toInt := congrArg Int32.toInt ((fu22 30 5 rfl).1)
              have lk27 : ((u22).1 30 2).toInt = (u17.1 30 2).toInt := congrArg Int32.toInt ((fu22 30 2 rfl).1)
              have lk28 : ((u22).1 30 3).toInt = (u17.1 30 3).toInt := congrArg Int32.toInt ((fu22 30 3 rfl).1)
              have lk29 : ((u22).1 30 2).toInt = (u17.1 30 2).toInt := congrArg Int32.toInt ((fu22 30 2 rfl).1)
              have lk30 : ((u22).1 30 8).toInt = (u17.1 30 8).toInt := congrArg Int32.toInt ((fu22 30 8 rfl).1)
              have lk31 : ((u22).1 30 9).toInt = (u17.1 30 9).toInt := congrArg Int32.toInt ((fu22 30 9 rfl).1)
              have lk32 : ((u22).1 30 6).toInt = (t.1 30 6).toInt := congrArg Int32.toInt (((fu22 30 6 rfl).1).trans (((fu17 30 6 rfl).1).trans ((fu3 30 6 rfl).1)))
              have lk33 : ((u22).1 30 7).toInt = (t.1 30 7).toInt := congrArg Int32.toInt (((fu22 30 7 rfl).1).trans (((fu17 30 7 rfl).1).trans ((fu3 30 7 rfl).1)))
              have lk34 : ((u22).1 30 2).toInt = (u17.1 30 2).toInt := congrArg Int32.toInt ((fu22 30 2 rfl).1)
              have lk35 : ((u22).1 30 3).toInt = (u17.1 30 3).toInt := congrArg Int32.toInt ((fu22 30 3 rfl).1)
              have lk36 : ((u22).1 30 2).toInt = (u17.1 30 2).toInt := congrArg Int32.toInt ((fu22 30 2 rfl).1)
              have lk37 : ((u22).1 30 3).toInt = (u17.1 30 3).toInt := congrArg Int32.toInt ((fu22 30 3 rfl).1)
              have lk38 : ((u22).1 30 2).toInt = (u17.1 30 2).toInt := congrArg Int32.toInt ((fu22 30 2 rfl).1)
              exact (ih (n - 1) (by omega)) (u22) v24  (oqX_fr fu22 rfl (oqX_fr fu17 rfl (oqX_fr fu3 rfl iv0))) (by omega) (by omega) (by first | exact (oqb_or iv3 (by omega) pu17_1).cast (by omega) (by omega) | exact ((by assumption)).cast (by omega) (by omega)) (by omega) (by omega) (by omega) (by first | omega | (have hat9 : ((u22).1 30 2).toInt = ((u17).1 30 2).toInt := (by omega); have hag9 : ((u22).1 30 3).toInt = ((u17).1 30 3).toInt := (by omega); rw [hat9, hag9]; omega)) (oqRw_fr fu22 rfl (oqRw_fr fu17 rfl (oqRw_fr fu3 rfl iv8))) pu22_1 (by first | exact oqEc.nw ((oqe_or (v := k10021) hEC (by omega) hE2 hQ2 (by omega) rfl rfl).cast (by omega) (by omega)) (by omega) hem2 | exact oqEc.nw ((oqe_b hE0).cast (by omega) (by omega)) (by omega) hF0.symm) (by omega) (by omega)
            · skip
              clear pu17_1
              clear pu17_2
              clear pu17_3
              replace pu17_4 := pu17_4 (by omega)
              clear pu17_5
              clear pu17_6
              refine r_iconst C (oDec_at oX5_test 17 rfl) (v := k0) (by rw [qk0]; rfl) ?_
              exact r_zret C (n_bool (by omega)) (oDec_at oX5_test 18 rfl) ⟨_, rfl, ⟨by omega, fun h => by exfalso; omega, fun h => by exfalso; omega, by omega, fun _ => oqb_orF iv3 (by omega) pu17_4, fun h => by exfalso; omega, fun h => by exfalso; omega, pu17_7⟩⟩
  refine r_aload_n C (j := 0) (oDec_at oX5_test 0 rfl) rfl rfl ?_
  refine r_callVi C oCl5 rfl miX5_both mlX5_144 (h_X5_both (s)  (g) (fp) (fq) (a) (b) (op) (bc) (L) (F) (d) (G) (by omega) (by omega) hp2 (by omega) (by omega) (by omega) (by omega) hp7 hp8 (by omega) hp10) (by omega) rfl rfl rfl (Nat.le_of_ble_eq_true rfl) (oDec_at oX5_test 1 rfl) (fun r40 u39 pu39 fu39 => ?_)
  try dsimp only at pu39
  obtain ⟨pu39_0, pu39_1, pu39_2, pu39_3, pu39_4, pu39_5, pu39_6, pu39_7⟩ := pu39
  have rr40 := n_rng r40
  refine r_if_ne C 9 (oDec_at oX5_test 2 rfl) (by decide) (fun cd41 => ?_) (fun cd41 => ?_)
  · skip
    replace pu39_1 := pu39_1 (by omega)
    replace pu39_2 := pu39_2 (by omega)
    replace pu39_3 := pu39_3 (by omega)
    clear pu39_4
    replace pu39_5 := pu39_5 (by omega)
    replace pu39_6 := pu39_6 (by omega)
    refine r_ty C (fun hty => ?_)
    have hta : (0 : Int) ≤ ((u39).1 30 2).toInt ∧ ((u39).1 30 2).toInt ≤ 1600 := hty.1 30 2
    clear hty
    obtain ⟨L0, hL0⟩ : ∃ z, z = ((u39).1 bc 1).toInt := ⟨_, rfl⟩
    obtain ⟨F0, hF0⟩ : ∃ z, z = (u39).1 (bc + 1) := ⟨_, rfl⟩
    have hE0 := pu39_5
    rw [← hL0, ← hF0] at hE0
    try (have hLe0 := hE0.le)
    have hq42 : oqAn bc L0 F0 (u39) := ⟨hkb, hL0.symm, hF0.symm⟩
    refine r_iconst C (oDec_at oX5_test 5 rfl) (v := k0) (by rw [qk0]; rfl) ?_
    refine r_istore_n C (lv' := [(0, .ref (oad E 30)), (1, .int k0)]) [1, 0] (oDec_at oX5_test 6 rfl) rfl (by decide) rfl ?_
    have lk43 : ((u39).1 30 6).toInt = (s.1 30 6).toInt := congrArg Int32.toInt ((fu39 30 6 rfl).1)
    have lk44 : ((u39).1 30 7).toInt = (s.1 30 7).toInt := congrArg Int32.toInt ((fu39 30 7 rfl).1)
    exact (key (1601 - k0.toInt).toNat) (u39) k0  (oqX_fr fu39 rfl hp2) (by omega) (by omega) (by first | exact (pu39_1).cast (by omega) (by omega)) (by omega) (by omega) (by omega) (by first | omega | (have hat9 : ((u39).1 30 2).toInt = ((u39).1 30 2).toInt := (by omega); have hag9 : ((u39).1 30 3).toInt = ((u39).1 30 3).toInt := (by omega); rw [hat9, hag9]; omega)) (oqRw_fr fu39 rfl hp7) pu39_7 (by first | exact oqEc.nw ((oqe_or (v := (by assumption)) hEC (by omega) hE2 hQ2 (by omega) rfl rfl).cast (by omega) (by omega)) (by omega) hem2 | exact oqEc.nw ((oqe_b hE0).cast (by omega) (by omega)) (by omega) hF0.symm) (by omega) (by omega)
  · skip
    clear pu39_1
    clear pu39_2
    clear pu39_3
    replace pu39_4 := pu39_4 (by omega)
    clear pu39_5
    clear pu39_6
    refine r_iconst C (oDec_at oX5_test 3 rfl) (v := k0) (by rw [qk0]; rfl) ?_
    exact r_zret C (n_bool (by omega)) (oDec_at oX5_test 4 rfl) ⟨_, rfl, ⟨by omega, fun h => by exfalso; omega, fun h => by exfalso; omega, by omega, fun _ => pu39_4, fun h => by exfalso; omega, fun h => by exfalso; omega, pu39_7⟩⟩
