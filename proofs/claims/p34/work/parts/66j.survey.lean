set_option maxHeartbeats 4000000 in
set_option maxRecDepth 100000 in
theorem ct10_X10_survey (l : Launch) (E : oE) (s : oS) (c1 : Nat) (hk1 : okd c1 = 4) (c2 : Nat) (hk2 : okd c2 = 0) (b : Nat) (R : Int) (W : Nat → List Int) (me : Int) (nn : Int) (st : Nat → Int) (D : Int) (S : Int) (K : Int) (hp0 : owBC b R W s) (hp1 : owKV R W s) (hp2 : owLN s) (hp3 : owDN s) (hp4 : owMA c1 nn s) (hp5 : owMS c1 nn st s) (hp6 : owME b me s) (hp7 : owBW D S K s) (hp8 : owDg nn st) (hp9 : 1 ≤ nn ∧ nn ≤ 6) (hp10 : c2 = b) (hp11 : 0 ≤ D ∧ D ≤ 24 ∧ 0 ≤ S ∧ S ≤ 7 ∧ 0 ≤ K ∧ K ≤ 15) : oMet l 6 yX10_survey cX10_survey 9 (some .int) [(1, 6), (1, 7), (1, 8), (9, 0), (9, 1), (9, 2), (9, 3), (9, 4), (10, 4), (24, 9999), (25, 9999), (26, 9999), (27, 9999), (28, 9999), (29, 9999), (30, 9999), (31, 9999), (32, 9999), (34, 9999), (35, 9999), (36, 9999)] E s [.ref (oad E 43), .ref (oad E c1), .ref (oad E c2), .ref (oad E 31), .ref (oad E 35)] (oPi (fun r u => (owKV R W u) ∧ (owDN u) ∧ (owCt (owWe R W me D S K nn st 0) 4500 r.toInt))) := by
  refine oMet.of (lv := [(0, .ref (oad E 43)), (1, .ref (oad E c1)), (2, .ref (oad E c2)), (3, .ref (oad E 31)), (4, .ref (oad E 35))]) (by decide +kernel) (Nat.le_of_ble_eq_true rfl) rfl (fun J C hT => ?_)
  have C : oC l 6 cX10_survey RX10 9 (some .int) [(1, 6), (1, 7), (1, 8), (9, 0), (9, 1), (9, 2), (9, 3), (9, 4), (10, 4), (24, 9999), (25, 9999), (26, 9999), (27, 9999), (28, 9999), (29, 9999), (30, 9999), (31, 9999), (32, 9999), (34, 9999), (35, 9999), (36, 9999)] E s (oPi (fun r u => (owKV R W u) ∧ (owDN u) ∧ (owCt (owWe R W me D S K nn st 0) 4500 r.toInt))) J := C
  obtain ⟨k0, qk0⟩ : ∃ z : Int32, z = 0 := ⟨_, rfl⟩
  have ek0 : k0.toInt = 0 := by rw [qk0]; rfl
  obtain ⟨k12, qk12⟩ : ∃ z : Int32, z = 12 := ⟨_, rfl⟩
  have ek12 : k12.toInt = 12 := by rw [qk12]; rfl
  obtain ⟨k84, qk84⟩ : ∃ z : Int32, z = 84 := ⟨_, rfl⟩
  have ek84 : k84.toInt = 84 := by rw [qk84]; rfl
  have key : ∀ n : Nat, (∀ (t : oS) (x5 : Int32), (0 ≤ x5.toInt ∧ x5.toInt ≤ 25) → (owBC b R W t) → (owKV R W t) → (owLN t) → (owDN t) → (owMA c1 nn t) → (owMS c1 nn st t) → (owME b me t) → (owBW D S K t) → (0 ≤ (t.1 43 4).toInt ∧ (t.1 43 4).toInt ≤ 180 * x5.toInt) → (owWc (owWe R W me D S K nn st 0) (180 * x5.toNatClampNeg) t) → (x5.toInt ≤ D + 1) → 1000 * (26 - x5.toInt) ≤ (n : Int) → J t 24 [(0, .ref (oad E 43)), (1, .ref (oad E c1)), (2, .ref (oad E c2)), (3, .ref (oad E 31)), (4, .ref (oad E 35)), (5, .int x5)] []) ∧ (∀ (t : oS) (x5 : Int32) (x6 : Int32), (0 ≤ x5.toInt ∧ x5.toInt ≤ 24) → (0 ≤ x6.toInt ∧ x6.toInt ≤ 12) → (owBC b R W t) → (owKV R W t) → (owLN t) → (owDN t) → (owMA c1 nn t) → (owMS c1 nn st t) → (owME b me t) → (owBW D S K t) → (0 ≤ (t.1 43 4).toInt ∧ (t.1 43 4).toInt ≤ 180 * x5.toInt) → (owWc (owWe R W me D S K nn st 0) (180 * x5.toNatClampNeg) t) → (owFe x6.toInt (-7) (owWe R W me D S K nn st x5.toInt) t) → (x5.toInt ≤ D) → 1000 * (26 - x5.toInt) - 10 - 40 * x6.toInt ≤ (n : Int) → J t 44 [(0, .ref (oad E 43)), (1, .ref (oad E c1)), (2, .ref (oad E c2)), (3, .ref (oad E 31)), (4, .ref (oad E 35)), (5, .int x5), (6, .int x6)] []) ∧ (∀ (t : oS) (x5 : Int32) (x6 : Int32) (x7 : Int32) (x8 : Int32), (0 ≤ x5.toInt ∧ x5.toInt ≤ 24) → (0 ≤ x6.toInt ∧ x6.toInt ≤ 11) → (-7 ≤ x8.toInt ∧ x8.toInt ≤ 8) → (owBC b R W t) → (owKV R W t) → (owLN t) → (owDN t) → (owMA c1 nn t) → (owMS c1 nn st t) → (owME b me t) → (owBW D S K t) → (0 ≤ (t.1 43 4).toInt ∧ (t.1 43 4).toInt ≤ 180 * x5.toInt) → (owWc (owWe R W me D S K nn st 0) (180 * x5.toNatClampNeg) t) → (owFe x6.toInt x8.toInt (owWe R W me D S K nn st x5.toInt) t) → (owHq me x7.toInt nn st t) → (x5.toInt ≤ D) → (x7.toInt = 180 * x5.toInt + 84 + x6.toInt) → (oAl K x6.toInt = 1) → (-S ≤ x8.toInt ∧ x8.toInt ≤ S + 1) → 1000 * (26 - x5.toInt) - 27 - 40 * x6.toInt - x8.toInt ≤ (n : Int) → J t 103 [(0, .ref (oad E 43)), (1, .ref (oad E c1)), (2, .ref (oad E c2)), (3, .ref (oad E 31)), (4, .ref (oad E 35)), (5, .int x5), (6, .int x6), (7, .int x7), (8, .int x8)] []) := by
    intro n
    induction n using Nat.strongRecOn with
    | _ n ih =>
      refine ⟨?_, ?_, ?_⟩
      · intro t x5  iv0 iv1 iv2 iv3 iv4 iv5 iv6 iv7 iv8 iv9 iv10 iv11 hmu
        have rx5 := n_rng x5
        refine r_iload C (j := 5) (oDec_at oX10_survey 13 rfl) rfl ?_
        refine r_aload_n C (j := 0) (oDec_at oX10_survey 14 rfl) rfl rfl ?_
        obtain ⟨v1, ev1⟩ : ∃ z : Int32, (t).1 43 0 = z := ⟨_, rfl⟩
        have gv1 : (t.1 43 0).toInt = v1.toInt := congrArg Int32.toInt (ev1)
        refine r_geti (k := 0) (lo := 0) (hi := 24) C v1 oCl10 rfl (by decide) flX10_9 rfl rfl (ev1) rfl rfl (oDec_at oX10_survey 15 rfl) (fun b2 b2h => ?_)
        have hla9 : v1.toInt = D := by rw [← ev1]; exact (iv8).1
        refine r_icmp_gt C 147 (oDec_at oX10_survey 16 rfl) (by decide) (fun cd3 => ?_) (fun cd3 => ?_)
        · skip
          refine r_aload_n C (j := 0) (oDec_at oX10_survey 70 rfl) rfl rfl ?_
          obtain ⟨v4, ev4⟩ : ∃ z : Int32, (t).1 43 4 = z := ⟨_, rfl⟩
          have gv4 : (t.1 43 4).toInt = v4.toInt := congrArg Int32.toInt (ev4)
          refine r_geti (k := 4) (lo := 0) (hi := 4500) C v4 oCl10 rfl (by decide) flX10_50 rfl rfl (ev4) rfl rfl (oDec_at oX10_survey 71 rfl) (fun b5 b5h => ?_)
          exact r_iret C (oDec_at oX10_survey 72 rfl) ⟨_, rfl, ⟨iv2, iv4, owWc_end iv10 (by have h9 := n_nat x5; omega) (by have h9 := n_nat x5; omega) (by omega)⟩⟩
        · skip
          refine r_aload_n C (j := 0) (oDec_at oX10_survey 17 rfl) rfl rfl ?_
          refine r_getF (k := 9) (b := 48) C oCl10 rfl (by decide) flX10_31 rfl rfl rfl (oDec_at oX10_survey 18 rfl) ?_
          refine r_iconst C (oDec_at oX10_survey 19 rfl) (v := k0) (by rw [qk0]; rfl) ?_
          refine r_callSv C miJ7_fill_53178 mlX10_53 (ct9_J7_fill l E (t) 48 36 180 rfl (by decide) (by decide) rfl rfl k0 (fun _ => n_rng _) (by omega)) (by decide) rfl rfl rfl (Nat.le_of_ble_eq_true rfl) (oDec_at oX10_survey 20 rfl) (fun u6 pu6 fu6 => ?_)
          try dsimp only at pu6
          have hfz9 : ∀ i : Nat, (i : Int) < 180 → ((u6).1 48 i).toInt = 0 := fun i hi => (pu6 i hi).trans ek0
          refine r_iconst C (oDec_at oX10_survey 21 rfl) (v := k0) (by rw [qk0]; rfl) ?_
          refine r_istore C (lv' := [(0, .ref (oad E 43)), (1, .ref (oad E c1)), (2, .ref (oad E c2)), (3, .ref (oad E 31)), (4, .ref (oad E 35)), (5, .int x5), (6, .int k0)]) [1, 2, 3, 4, 5, 6, 0] (oDec_at oX10_survey 22 rfl) (by decide) rfl ?_
          have lk8 : ((u6).1 43 4).toInt = (t.1 43 4).toInt := congrArg Int32.toInt ((fu6 43 4 rfl).1)
          exact (ih (n - 1) (by omega)).2.1 (u6) x5 k0  (by omega) (by omega) (owBC_fr fu6 rfl iv1) (owKV_fr fu6 rfl iv2) (owLN_fr fu6 rfl iv3) (owDN_fr fu6 rfl iv4) (owMA_fr fu6 rfl iv5) (owMS_fr fu6 rfl iv6) (owME_fr fu6 rfl iv7) (owBW_fr fu6 rfl iv8) (by omega) (by first | exact (owWc_fr fu6 rfl iv10) | exact owWc_c hwc9 (by have h8 := n_nat x5; have h9 := n_nat x5; omega) | exact owCt_0 (by have h9 := n_nat x5; omega) (show ((u6).1 43 4).toInt = 0 by omega)) (by first | exact owFe_0 hfz9 (by omega) (by decide) | exact owFe_na (by assumption) (by omega) rfl (by omega) | exact owFe_hi (by assumption) (by omega) (by omega) (by omega) | (exfalso; omega)) (by omega) (by omega)
      · intro t x5 x6  iv0 iv1 iv2 iv3 iv4 iv5 iv6 iv7 iv8 iv9 iv10 iv11 iv12 iv13 hmu
        have rx5 := n_rng x5
        have rx6 := n_rng x6
        refine r_iload C (j := 6) (oDec_at oX10_survey 23 rfl) rfl ?_
        refine r_bipush C (oDec_at oX10_survey 24 rfl) (v := k12) (by rw [qk12]; rfl) ?_
        refine r_icmp_ge C 135 (oDec_at oX10_survey 25 rfl) (by decide) (fun cd9 => ?_) (fun cd9 => ?_)
        · skip
          refine r_aload_n C (j := 0) (oDec_at oX10_survey 65 rfl) rfl rfl ?_
          refine r_iload C (j := 5) (oDec_at oX10_survey 66 rfl) rfl ?_
          refine r_callVv C oCl10 rfl miX10_gather mlX10_86 (ct9_X10_gather l E (t) x5 (by omega) (by omega)) (by decide) rfl rfl rfl (Nat.le_of_ble_eq_true rfl) (oDec_at oX10_survey 67 rfl) (fun u10 pu10 fu10 => ?_)
          try dsimp only at pu10
          have hcl9 := owFf_le (t)
          have hwc9 : owWc (owWe R W me D S K nn st 0) (180 * (x5.toNatClampNeg + 1)) (u10) := owWc_g iv11 iv12 (by omega) (by have h9 := n_nat x5; omega) pu10
          obtain ⟨v12, ev12⟩ : ∃ z : Int32, x5 + Int32.ofInt 1 = z := ⟨_, rfl⟩
          have hv12 : v12.toInt = x5.toInt + 1 := n_inc ev12 (by decide) (by omega) (by omega)
          refine r_iinc C (j := 5) (lv' := [(0, .ref (oad E 43)), (1, .ref (oad E c1)), (2, .ref (oad E c2)), (3, .ref (oad E 31)), (4, .ref (oad E 35)), (5, .int v12), (6, .int x6)]) v12 [1, 2, 3, 4, 5, 0, 6] (oDec_at oX10_survey 68 rfl) rfl ev12 (by decide) rfl ?_
          refine r_goto C (tgt := 24) (oDec_at oX10_survey 69 rfl) (by decide) ?_
          refine r_pick C [0, 1, 2, 3, 4, 5] rfl ?_
          exact (ih (n - 1) (by omega)).1 (u10) v12  (by omega) (owBC_fr fu10 rfl iv2) (owKV_fr fu10 rfl iv3) (owLN_fr fu10 rfl iv4) (owDN_fr fu10 rfl iv5) (owMA_fr fu10 rfl iv6) (owMS_fr fu10 rfl iv7) (owME_fr fu10 rfl iv8) (owBW_fr fu10 rfl iv9) (by omega) (by first | exact (by assumption) | exact owWc_c hwc9 (by have h8 := n_nat x5; have h9 := n_nat v12; omega) | exact owCt_0 (by have h9 := n_nat v12; omega) (show ((u10).1 43 4).toInt = 0 by omega)) (by omega) (by omega)
        · skip
          refine r_iload C (j := 5) (oDec_at oX10_survey 26 rfl) rfl ?_
          refine r_iconst C (oDec_at oX10_survey 27 rfl) (v := k0) (by rw [qk0]; rfl) ?_
          refine r_iload C (j := 6) (oDec_at oX10_survey 28 rfl) rfl ?_
          refine r_callSNi C miX11_codeOf mlX10_59 (ct_X11_codeOf l E (t) x5 k0 x6 (by omega) (by omega) (by omega)) (by decide) rfl rfl rfl (Nat.le_of_ble_eq_true rfl) (oDec_at oX10_survey 29 rfl) (fun r14 u13 pu13 fu13 => ?_)
          try dsimp only at pu13
          have hxu13 := oFr_nil fu13; subst hxu13
          have rr14 := n_rng r14
          refine r_istore C (lv' := [(0, .ref (oad E 43)), (1, .ref (oad E c1)), (2, .ref (oad E c2)), (3, .ref (oad E 31)), (4, .ref (oad E 35)), (5, .int x5), (6, .int x6), (7, .int r14)]) [1, 2, 3, 4, 5, 6, 7, 0] (oDec_at oX10_survey 30 rfl) (by decide) rfl ?_
          refine r_aload_n C (j := 0) (oDec_at oX10_survey 31 rfl) rfl rfl ?_
          refine r_pc C 62 rfl ?_
          refine r_iload C (j := 6) (oDec_at oX10_survey 32 rfl) rfl ?_
          refine r_callVi C oCl10 rfl miX10_allows mlX10_63 (ct3_X10_allows l E (t) x6 (by omega)) (by decide) rfl rfl rfl (Nat.le_of_ble_eq_true rfl) (oDec_at oX10_survey 33 rfl) (fun r16 u15 pu15 fu15 => ?_)
          try dsimp only at pu15
          obtain ⟨pu15_0, pu15_1⟩ := pu15
          have hxu15 := oFr_nil fu15; subst hxu15
          have rr16 := n_rng r16
          have hal9 := pu15_1 K ((iv9).2.2).symm
          have hal8 := oAl_01 K x6.toInt
          refine r_if_eq C 129 (oDec_at oX10_survey 34 rfl) (by decide) (fun cd17 => ?_) (fun cd17 => ?_)
          · skip
            obtain ⟨v18, ev18⟩ : ∃ z : Int32, x6 + Int32.ofInt 1 = z := ⟨_, rfl⟩
            have hv18 : v18.toInt = x6.toInt + 1 := n_inc ev18 (by decide) (by omega) (by omega)
            refine r_iinc C (j := 6) (lv' := [(0, .ref (oad E 43)), (1, .ref (oad E c1)), (2, .ref (oad E c2)), (3, .ref (oad E 31)), (4, .ref (oad E 35)), (5, .int x5), (6, .int v18), (7, .int r14)]) v18 [1, 2, 3, 4, 5, 6, 0, 7] (oDec_at oX10_survey 63 rfl) rfl ev18 (by decide) rfl ?_
            refine r_goto C (tgt := 44) (oDec_at oX10_survey 64 rfl) (by decide) ?_
            refine r_pick C [0, 1, 2, 3, 4, 5, 6] rfl ?_
            exact (ih (n - 1) (by omega)).2.1 (t) x5 v18  (by omega) (by omega) iv2 iv3 iv4 iv5 iv6 iv7 iv8 iv9 (by omega) (by first | exact iv11 | exact owWc_c hwc9 (by have h8 := n_nat x5; have h9 := n_nat x5; omega) | exact owCt_0 (by have h9 := n_nat x5; omega) (show ((t).1 43 4).toInt = 0 by omega)) (by first | exact owFe_0 hfz9 (by omega) (by decide) | exact owFe_na iv12 (by omega) rfl (by omega) | exact owFe_hi (by assumption) (by omega) (by omega) (by omega) | (exfalso; omega)) (by omega) (by omega)
          · skip
            refine r_aload_n C (j := 1) (oDec_at oX10_survey 35 rfl) rfl rfl ?_
            refine r_iload C (j := 7) (oDec_at oX10_survey 36 rfl) rfl ?_
            -- !! !owMA c0 nn is not known here
            refine r_callSNi C miX11_canBe mlX10_67 (ct10_X11_canBe l E (t) c1 hk1 r14 (nn) (by assumption)) (by decide) rfl rfl rfl (Nat.le_of_ble_eq_true rfl) (oDec_at oX10_survey 37 rfl) (fun r20 u19 pu19 fu19 => ?_)
            try dsimp only at pu19
            obtain ⟨pu19_0, pu19_1⟩ := pu19
            have hxu19 := oFr_nil fu19; subst hxu19
            have rr20 := n_rng r20
            refine r_if_ne C 82 (oDec_at oX10_survey 38 rfl) (by decide) (fun cd21 => ?_) (fun cd21 => ?_)
            · skip
              refine r_aload C (j := 4) (oDec_at oX10_survey 40 rfl) rfl ?_
              refine r_aload_n C (j := 1) (oDec_at oX10_survey 41 rfl) rfl rfl ?_
              refine r_aload_n C (j := 2) (oDec_at oX10_survey 42 rfl) rfl rfl ?_
              obtain ⟨v22, ev22⟩ : ∃ z : Int32, (t).1 c2 6 = z := ⟨_, rfl⟩
              have gv22 : (t.1 c2 6).toInt = v22.toInt := congrArg Int32.toInt (ev22)
              refine r_getiN (k := 6) (lo := 2) (hi := 12) C v22 oCl0 hk2 (by decide) flX10_71 rfl rfl (ev22) rfl rfl (oDec_at oX10_survey 43 rfl) (fun b23 b23h => ?_)
              have hme9 : v22.toInt = me := by rw [← ev22, hp10]; exact (iv8).2
              refine r_bipush C (oDec_at oX10_survey 44 rfl) (v := k84) (by rw [qk84]; rfl) ?_
              refine r_iload C (j := 7) (oDec_at oX10_survey 45 rfl) rfl ?_
              refine r_pc C 93 rfl ?_
              refine r_callVv C oCl1 rfl miX1_hear mlX10_76 (ct10_X1_hear l E (t) c1 hk1 v22 k84 r14 (nn) (st) iv4 iv5 iv6 iv7 hp8 (by omega) (by omega) (by omega) (by omega)) (by decide) rfl rfl rfl (Nat.le_of_ble_eq_true rfl) (oDec_at oX10_survey 46 rfl) (fun u24 pu24 fu24 => ?_)
              try dsimp only at pu24
              obtain ⟨pu24_0, pu24_1⟩ := pu24
              have lk26 : ((u24).1 43 4).toInt = (t.1 43 4).toInt := congrArg Int32.toInt ((fu24 43 4 rfl).1)
              have hhq9 : owHq me (r14).toInt nn st (u24) := by rw [← hme9]; exact pu24_1
              refine r_aload_n C (j := 0) (oDec_at oX10_survey 47 rfl) rfl rfl ?_
              obtain ⟨v27, ev27⟩ : ∃ z : Int32, (u24).1 43 1 = z := ⟨_, rfl⟩
              have gv27 : (t.1 43 1).toInt = v27.toInt := congrArg Int32.toInt (((fu24 43 1 rfl).1).symm.trans ev27)
              have ggv27 : ((u24).1 43 1).toInt = v27.toInt := congrArg Int32.toInt ev27
              refine r_geti (k := 1) (lo := 0) (hi := 7) C v27 oCl10 rfl (by decide) flX10_15 rfl rfl (ev27) rfl rfl (oDec_at oX10_survey 48 rfl) (fun b28 b28h => ?_)
              have hre9 : v27.toInt = S := by rw [← ev27]; exact ((owBW_fr fu24 rfl iv9)).2.1
              obtain ⟨v29, ev29⟩ : ∃ z : Int32, z = -v27 := ⟨_, rfl⟩
              have hv29 : v29.toInt = -v27.toInt := n_neg ev29 (by omega)
              refine r_ineg C v29 (oDec_at oX10_survey 49 rfl) ev29 ?_
              refine r_istore C (lv' := [(0, .ref (oad E 43)), (1, .ref (oad E c1)), (2, .ref (oad E c2)), (3, .ref (oad E 31)), (4, .ref (oad E 35)), (5, .int x5), (6, .int x6), (7, .int r14), (8, .int v29)]) [1, 2, 3, 4, 5, 6, 7, 8, 0] (oDec_at oX10_survey 50 rfl) (by decide) rfl ?_
              have lk30 : ((u24).1 43 4).toInt = (t.1 43 4).toInt := congrArg Int32.toInt ((fu24 43 4 rfl).1)
              exact (ih (n - 1) (by omega)).2.2 (u24) x5 x6 r14 v29  (by omega) (by omega) (by omega) (owBC_fr fu24 rfl iv2) (owKV_fr fu24 rfl iv3) (owLN_fr fu24 rfl iv4) pu24_0 (owMA_fr fu24 rfl iv6) (owMS_fr fu24 rfl iv7) (owME_fr fu24 rfl iv8) (owBW_fr fu24 rfl iv9) (by omega) (by first | exact (owWc_fr fu24 rfl iv11) | exact owWc_c hwc9 (by have h8 := n_nat x5; have h9 := n_nat x5; omega) | exact owCt_0 (by have h9 := n_nat x5; omega) (show ((u24).1 43 4).toInt = 0 by omega)) (by first | exact owFe_lo (owFe_fr fu24 rfl iv12) (by omega) rfl (by omega) | exact hft9 _ (by omega)) (by first | exact hhq9 | exact (by assumption)) (by omega) (by omega) (by omega) (by omega) (by omega)
            · skip
              refine r_goto C (tgt := 129) (oDec_at oX10_survey 39 rfl) (by decide) ?_
              obtain ⟨v31, ev31⟩ : ∃ z : Int32, x6 + Int32.ofInt 1 = z := ⟨_, rfl⟩
              have hv31 : v31.toInt = x6.toInt + 1 := n_inc ev31 (by decide) (by omega) (by omega)
              refine r_iinc C (j := 6) (lv' := [(0, .ref (oad E 43)), (1, .ref (oad E c1)), (2, .ref (oad E c2)), (3, .ref (oad E 31)), (4, .ref (oad E 35)), (5, .int x5), (6, .int v31), (7, .int r14)]) v31 [1, 2, 3, 4, 5, 6, 0, 7] (oDec_at oX10_survey 63 rfl) rfl ev31 (by decide) rfl ?_
              refine r_goto C (tgt := 44) (oDec_at oX10_survey 64 rfl) (by decide) ?_
              refine r_pick C [0, 1, 2, 3, 4, 5, 6] rfl ?_
              exact (ih (n - 1) (by omega)).2.1 (t) x5 v31  (by omega) (by omega) iv2 iv3 iv4 iv5 iv6 iv7 iv8 iv9 (by omega) (by first | exact iv11 | exact owWc_c hwc9 (by have h8 := n_nat x5; have h9 := n_nat x5; omega) | exact owCt_0 (by have h9 := n_nat x5; omega) (show ((t).1 43 4).toInt = 0 by omega)) (by first | exact owFe_0 hfz9 (by omega) (by decide) | exact owFe_na iv12 (by omega) rfl (by omega) | exact owFe_hi (by assumption) (by omega) (by omega) (by omega) | (exfalso; omega)) (by omega) (by omega)
      · intro t x5 x6 x7 x8  iv0 iv1 iv2 iv3 iv4 iv5 iv6 iv7 iv8 iv9 iv10 iv11 iv12 iv13 iv14 iv15 iv16 iv17 iv18 hmu
        have rx5 := n_rng x5
        have rx6 := n_rng x6
        have rx7 := n_rng x7
        have rx8 := n_rng x8
        refine r_iload C (j := 8) (oDec_at oX10_survey 51 rfl) rfl ?_
        refine r_aload_n C (j := 0) (oDec_at oX10_survey 52 rfl) rfl rfl ?_
        obtain ⟨v32, ev32⟩ : ∃ z : Int32, (t).1 43 1 = z := ⟨_, rfl⟩
        have gv32 : (t.1 43 1).toInt = v32.toInt := congrArg Int32.toInt (ev32)
        refine r_geti (k := 1) (lo := 0) (hi := 7) C v32 oCl10 rfl (by decide) flX10_15 rfl rfl (ev32) rfl rfl (oDec_at oX10_survey 53 rfl) (fun b33 b33h => ?_)
        have hre9 : v32.toInt = S := by rw [← ev32]; exact (iv10).2.1
        refine r_icmp_gt C 129 (oDec_at oX10_survey 54 rfl) (by decide) (fun cd34 => ?_) (fun cd34 => ?_)
        · skip
          obtain ⟨v35, ev35⟩ : ∃ z : Int32, x6 + Int32.ofInt 1 = z := ⟨_, rfl⟩
          have hv35 : v35.toInt = x6.toInt + 1 := n_inc ev35 (by decide) (by omega) (by omega)
          refine r_iinc C (j := 6) (lv' := [(0, .ref (oad E 43)), (1, .ref (oad E c1)), (2, .ref (oad E c2)), (3, .ref (oad E 31)), (4, .ref (oad E 35)), (5, .int x5), (6, .int v35), (7, .int x7), (8, .int x8)]) v35 [1, 2, 3, 4, 5, 6, 0, 7, 8] (oDec_at oX10_survey 63 rfl) rfl ev35 (by decide) rfl ?_
          refine r_goto C (tgt := 44) (oDec_at oX10_survey 64 rfl) (by decide) ?_
          refine r_pick C [0, 1, 2, 3, 4, 5, 6] rfl ?_
          exact (ih (n - 1) (by omega)).2.1 (t) x5 v35  (by omega) (by omega) iv3 iv4 iv5 iv6 iv7 iv8 iv9 iv10 (by omega) (by first | exact iv12 | exact owWc_c hwc9 (by have h8 := n_nat x5; have h9 := n_nat x5; omega) | exact owCt_0 (by have h9 := n_nat x5; omega) (show ((t).1 43 4).toInt = 0 by omega)) (by first | exact owFe_0 hfz9 (by omega) (by decide) | exact owFe_na (by assumption) (by omega) rfl (by omega) | exact owFe_hi iv13 (by omega) (by omega) (by omega) | (exfalso; omega)) (by omega) (by omega)
        · skip
          refine r_aload_n C (j := 0) (oDec_at oX10_survey 55 rfl) rfl rfl ?_
          refine r_aload_n C (j := 3) (oDec_at oX10_survey 56 rfl) rfl rfl ?_
          refine r_aload C (j := 4) (oDec_at oX10_survey 57 rfl) rfl ?_
          refine r_iload C (j := 7) (oDec_at oX10_survey 58 rfl) rfl ?_
          refine r_iload C (j := 8) (oDec_at oX10_survey 59 rfl) rfl ?_
          refine r_callVv C oCl10 rfl miX10_tryOne mlX10_82 (ct10_X10_tryOne l E (t) x7 x8 (b) (R) (W) iv3 iv4 iv5 iv6 (by omega) (by omega) (by omega)) (by decide) rfl rfl rfl (Nat.le_of_ble_eq_true rfl) (oDec_at oX10_survey 60 rfl) (fun u36 pu36 fu36 => ?_)
          try dsimp only at pu36
          obtain ⟨pu36_0, pu36_1⟩ := pu36
          refine r_pc C 123 rfl ?_
          have lk38 : ((u36).1 43 4).toInt = (t.1 43 4).toInt := congrArg Int32.toInt ((fu36 43 4 rfl).1)
          have hft9 : ∀ h9 : Int, h9 = x8.toInt + 1 → owFe x6.toInt h9 (owWe R W me D S K nn st x5.toInt) (u36) := fun h9 hh9 => owFe_t iv13 pu36_1 (by omega) (by omega) hh9 (by omega) (fun i hi => owWe_g iv14 (by omega) (by omega) (by omega) (by omega) (by omega) (by omega) rfl (by omega) hp8 hi)
          obtain ⟨v39, ev39⟩ : ∃ z : Int32, x8 + Int32.ofInt 1 = z := ⟨_, rfl⟩
          have hv39 : v39.toInt = x8.toInt + 1 := n_inc ev39 (by decide) (by omega) (by omega)
          refine r_iinc C (j := 8) (lv' := [(0, .ref (oad E 43)), (1, .ref (oad E c1)), (2, .ref (oad E c2)), (3, .ref (oad E 31)), (4, .ref (oad E 35)), (5, .int x5), (6, .int x6), (7, .int x7), (8, .int v39)]) v39 [1, 2, 3, 4, 5, 6, 7, 8, 0] (oDec_at oX10_survey 61 rfl) rfl ev39 (by decide) rfl ?_
          refine r_goto C (tgt := 103) (oDec_at oX10_survey 62 rfl) (by decide) ?_
          have lk40 : ((u36).1 43 4).toInt = (t.1 43 4).toInt := congrArg Int32.toInt ((fu36 43 4 rfl).1)
          exact (ih (n - 1) (by omega)).2.2 (u36) x5 x6 x7 v39  (by omega) (by omega) (by omega) (owBC_fr fu36 rfl iv3) pu36_0 (owLN_fr fu36 rfl iv5) (owDN_fr fu36 rfl iv6) (owMA_fr fu36 rfl iv7) (owMS_fr fu36 rfl iv8) (owME_fr fu36 rfl iv9) (owBW_fr fu36 rfl iv10) (by omega) (by first | exact (owWc_fr fu36 rfl iv12) | exact owWc_c hwc9 (by have h8 := n_nat x5; have h9 := n_nat x5; omega) | exact owCt_0 (by have h9 := n_nat x5; omega) (show ((u36).1 43 4).toInt = 0 by omega)) (by first | exact owFe_lo (by assumption) (by omega) rfl (by omega) | exact hft9 _ (by omega)) (by first | exact hhq9 | exact (owHq_fr fu36 rfl iv14)) (by omega) (by omega) (by omega) (by omega) (by omega)
  refine r_aload_n C (j := 0) (oDec_at oX10_survey 0 rfl) rfl rfl ?_
  refine r_iconst C (oDec_at oX10_survey 1 rfl) (v := k0) (by rw [qk0]; rfl) ?_
  refine r_puti (k := 4) (lo := 0) (hi := 4500) C oCl10 rfl (by decide) flX10_50 rfl rfl rfl rfl rfl rfl rfl rfl ⟨by omega, by omega⟩ (oDec_at oX10_survey 2 rfl) ?_
  refine r_aload_n C (j := 0) (oDec_at oX10_survey 3 rfl) rfl rfl ?_
  refine r_getF (k := 7) (b := 46) C oCl10 rfl (by decide) flX10_25 rfl rfl rfl (oDec_at oX10_survey 4 rfl) ?_
  refine r_iconst C (oDec_at oX10_survey 5 rfl) (v := k0) (by rw [qk0]; rfl) ?_
  refine r_pc C 10 rfl ?_
  refine r_callSv C miJ7_fill_53178 mlX10_53 (ct9_J7_fill l E ((pI s 43 4 k0)) 46 34 12 rfl (by decide) (by decide) rfl rfl k0 (fun _ => n_rng _) (by omega)) (by decide) rfl rfl rfl (Nat.le_of_ble_eq_true rfl) (oDec_at oX10_survey 6 rfl) (fun u41 pu41 fu41 => ?_)
  try dsimp only at pu41
  refine r_aload_n C (j := 0) (oDec_at oX10_survey 7 rfl) rfl rfl ?_
  refine r_getF (k := 8) (b := 47) C oCl10 rfl (by decide) flX10_28 rfl rfl rfl (oDec_at oX10_survey 8 rfl) ?_
  refine r_iconst C (oDec_at oX10_survey 9 rfl) (v := k0) (by rw [qk0]; rfl) ?_
  refine r_callSv C miJ7_fill_53178 mlX10_53 (ct9_J7_fill l E (u41) 47 35 12 rfl (by decide) (by decide) rfl rfl k0 (fun _ => n_rng _) (by omega)) (by decide) rfl rfl rfl (Nat.le_of_ble_eq_true rfl) (oDec_at oX10_survey 10 rfl) (fun u43 pu43 fu43 => ?_)
  try dsimp only at pu43
  refine r_iconst C (oDec_at oX10_survey 11 rfl) (v := k0) (by rw [qk0]; rfl) ?_
  refine r_pc C 22 rfl ?_
  refine r_istore C (lv' := [(0, .ref (oad E 43)), (1, .ref (oad E c1)), (2, .ref (oad E c2)), (3, .ref (oad E 31)), (4, .ref (oad E 35)), (5, .int k0)]) [1, 2, 3, 4, 5, 0] (oDec_at oX10_survey 12 rfl) (by decide) rfl ?_
  have lk45 : ((u43).1 43 4).toInt = k0.toInt := congrArg Int32.toInt (((fu43 43 4 rfl).1).trans (((fu41 43 4 rfl).1).trans ((pI_self _ _ _ _))))
  exact (key (1000 * (26 - k0.toInt)).toNat).1 (u43) k0  (by omega) (owBC_fr fu43 rfl (owBC_fr fu41 rfl (owBC_fr (oFr_oneI (q := 10) (m := 4) rfl (by rfl)) rfl hp0))) (owKV_fr fu43 rfl (owKV_fr fu41 rfl (owKV_fr (oFr_oneI (q := 10) (m := 4) rfl (by rfl)) rfl hp1))) (owLN_fr fu43 rfl (owLN_fr fu41 rfl (owLN_fr (oFr_oneI (q := 10) (m := 4) rfl (by rfl)) rfl hp2))) (owDN_fr fu43 rfl (owDN_fr fu41 rfl (owDN_fr (oFr_oneI (q := 10) (m := 4) rfl (by rfl)) rfl hp3))) (owMA_fr fu43 rfl (owMA_fr fu41 rfl (owMA_fr (oFr_oneI (q := 10) (m := 4) rfl (by rfl)) rfl hp4))) (owMS_fr fu43 rfl (owMS_fr fu41 rfl (owMS_fr (oFr_oneI (q := 10) (m := 4) rfl (by rfl)) rfl hp5))) (owME_fr fu43 rfl (owME_fr fu41 rfl (owME_fr (oFr_oneI (q := 10) (m := 4) rfl (by rfl)) rfl hp6))) (owBW_fr fu43 rfl (owBW_fr fu41 rfl (owBW_fr (oFr_oneI (q := 10) (m := 4) rfl (by rfl)) rfl hp7))) (by omega) (by first | exact (by assumption) | exact owCt_0 (by have h9 := n_nat k0; omega) (show ((u43).1 43 4).toInt = 0 by omega)) (by omega) (by omega)
