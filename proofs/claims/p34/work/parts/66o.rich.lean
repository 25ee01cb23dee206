set_option maxHeartbeats 4000000 in
set_option maxRecDepth 100000 in
theorem ct10_X11_richest (l : Launch) (E : oE) (s : oS) (a1 : Int32) (a2 : Int32) (a3 : Int32) (b : Nat) (R : Int) (W : Nat → List Int) (me : Int) (D : Int) (S : Int) (K : Int) (hp0 : owBC b R W s) (hp1 : owKV R W s) (hp2 : owLN s) (hp3 : owDN s) (hp4 : owBO b s) (hp5 : owME b me s) (hp6 : owBW D S K s) (hp7 : owCZ s) (hp8 : 0 ≤ D ∧ D ≤ 24 ∧ 0 ≤ S ∧ S ≤ 7 ∧ 0 ≤ K ∧ K ≤ 15) : oMet l 7 yX11_richest cX11_richest 8 (some .int) [(1, 6), (1, 7), (1, 8), (3, 0), (4, 4), (4, 5), (4, 6), (4, 7), (7, 0), (9, 0), (9, 1), (9, 2), (9, 3), (9, 4), (10, 3), (10, 4), (11, 1), (11, 2), (11, 17), (16, 9999), (17, 9999), (18, 9999), (19, 9999), (24, 9999), (25, 9999), (26, 9999), (27, 9999), (28, 9999), (29, 9999), (30, 9999), (31, 9999), (32, 9999), (34, 9999), (35, 9999), (36, 9999)] E s [.ref (oad E 0), .int a1, .int a2, .int a3] (oPi (fun r u => (owKV R W u) ∧ (owLN u) ∧ (owDN u) ∧ (owCZ u) ∧ (owRr (owCn R W me D S K a1.toInt) a1.toInt a2.toInt a3.toInt r.toInt))) := by
  refine oMet.of (lv := [(0, .ref (oad E 0)), (1, .int a1), (2, .int a2), (3, .int a3)]) (by decide +kernel) (Nat.le_of_ble_eq_true rfl) rfl (fun J C hT => ?_)
  have C : oC l 7 cX11_richest RX11 8 (some .int) [(1, 6), (1, 7), (1, 8), (3, 0), (4, 4), (4, 5), (4, 6), (4, 7), (7, 0), (9, 0), (9, 1), (9, 2), (9, 3), (9, 4), (10, 3), (10, 4), (11, 1), (11, 2), (11, 17), (16, 9999), (17, 9999), (18, 9999), (19, 9999), (24, 9999), (25, 9999), (26, 9999), (27, 9999), (28, 9999), (29, 9999), (30, 9999), (31, 9999), (32, 9999), (34, 9999), (35, 9999), (36, 9999)] E s (oPi (fun r u => (owKV R W u) ∧ (owLN u) ∧ (owDN u) ∧ (owCZ u) ∧ (owRr (owCn R W me D S K a1.toInt) a1.toInt a2.toInt a3.toInt r.toInt))) J := C
  obtain ⟨km1, qkm1⟩ : ∃ z : Int32, z = (-1) := ⟨_, rfl⟩
  have ekm1 : km1.toInt = (-1) := by rw [qkm1]; rfl
  obtain ⟨k0, qk0⟩ : ∃ z : Int32, z = 0 := ⟨_, rfl⟩
  have ek0 : k0.toInt = 0 := by rw [qk0]; rfl
  obtain ⟨k1, qk1⟩ : ∃ z : Int32, z = 1 := ⟨_, rfl⟩
  have ek1 : k1.toInt = 1 := by rw [qk1]; rfl
  obtain ⟨k2, qk2⟩ : ∃ z : Int32, z = 2 := ⟨_, rfl⟩
  have ek2 : k2.toInt = 2 := by rw [qk2]; rfl
  obtain ⟨k4, qk4⟩ : ∃ z : Int32, z = 4 := ⟨_, rfl⟩
  have ek4 : k4.toInt = 4 := by rw [qk4]; rfl
  obtain ⟨k20000, qk20000⟩ : ∃ z : Int32, z = 20000 := ⟨_, rfl⟩
  have ek20000 : k20000.toInt = 20000 := by rw [qk20000]; rfl
  have rg1 := n_rng a1
  have rg2 := n_rng a2
  have rg3 := n_rng a3
  obtain ⟨sp, hsp9⟩ := owSP_of hT
  have key : ∀ n : Nat, (∀ (t : oS) (x4 : Int32) (x5 : Int32) (x6 : Int32), (0 ≤ x6.toInt ∧ x6.toInt ≤ 20000) → (owBC b R W t) → (owKV R W t) → (owLN t) → (owDN t) → (a2.toInt ≤ 4) → (owBO b t) → (owME b me t) → (owBW D S K t) → (owCZ t) → (owSP sp t) → (0 ≤ x5.toInt ∧ x5.toInt ≤ 1) → ((1 ≤ a1.toInt ∧ a1.toInt ≤ 4) ∧ (0 ≤ a2.toInt ∧ a2.toInt ≤ 2) ∧ (0 ≤ a3.toInt ∧ a3.toInt ≤ 1)) → ((x5.toInt = 1 → owMA sp a1.toInt t)) → (x5.toInt = 1 → owLq sp a1.toInt a2.toInt (owCn R W me D S K a1.toInt) x4.toInt x6.toInt t) → (x5.toInt = 0 → owMx a1.toInt a2.toInt (owCn R W me D S K a1.toInt) x4.toInt) → 20001 - x6.toInt ≤ (n : Int) → J t 47 [(0, .ref (oad E 0)), (1, .int a1), (2, .int a2), (3, .int a3), (4, .int x4), (5, .int x5), (6, .int x6)] []) := by
    intro n
    induction n using Nat.strongRecOn with
    | _ n ih =>
      skip
      · intro t x4 x5 x6  iv0 iv1 iv2 iv3 iv4 iv5 iv6 iv7 iv8 iv9 iv10 iv11 iv12 iv13 iv14 iv15 hmu
        have rx4 := n_rng x4
        have rx5 := n_rng x5
        have rx6 := n_rng x6
        refine r_iload C (j := 5) (oDec_at oX11_richest 28 rfl) rfl ?_
        refine r_if_eq C 123 (oDec_at oX11_richest 29 rfl) (by decide) (fun cd1 => ?_) (fun cd1 => ?_)
        · skip
          refine r_aload_n C (j := 0) (oDec_at oX11_richest 62 rfl) rfl rfl ?_
          refine r_callVv C oCl11 rfl miX11_forget mlX11_131 (ct_X11_forget l E (t)  ) (by decide) rfl rfl rfl (Nat.le_of_ble_eq_true rfl) (oDec_at oX11_richest 63 rfl) (fun u2 pu2 fu2 => ?_)
          try dsimp only at pu2
          refine r_iload C (j := 4) (oDec_at oX11_richest 64 rfl) rfl ?_
          refine r_iconst C (oDec_at oX11_richest 65 rfl) (v := km1) (by rw [qkm1]; rfl) ?_
          refine r_icmp_eq C 137 (oDec_at oX11_richest 66 rfl) (by decide) (fun cd4 => ?_) (fun cd4 => ?_)
          · skip
            refine r_iload C (j := 4) (oDec_at oX11_richest 69 rfl) rfl ?_
            exact r_iret C (oDec_at oX11_richest 70 rfl) ⟨_, rfl, ⟨(owKV_fr fu2 rfl iv2), (owLN_fr fu2 rfl iv3), (owDN_fr fu2 rfl iv4), (owCZ_fr fu2 rfl iv9), owRr_y (k := (x4).toInt) (by omega) (by first | exact iv15 (by omega) | (exfalso; obtain ⟨st9, hms9, hdg9, hva9, hrn9⟩ := iv14 (by omega); have hvb9 := owVa_b hdg9; omega)) (by omega)⟩⟩
          · skip
            refine r_iload_n C (j := 3) (oDec_at oX11_richest 67 rfl) rfl rfl ?_
            refine r_if_ne C 140 (oDec_at oX11_richest 68 rfl) (by decide) (fun cd5 => ?_) (fun cd5 => ?_)
            · skip
              refine r_aload_n C (j := 0) (oDec_at oX11_richest 71 rfl) rfl rfl ?_
              refine r_getS (k := 2) (q2 := 4) C oCl11 rfl (by decide) flX11_23 rfl rfl rfl ks0 (oDec_at oX11_richest 72 rfl) (fun b6 rb6 mb6 hkb6 => ?_)
              refine r_aload_n C (j := 0) (oDec_at oX11_richest 73 rfl) rfl rfl ?_
              refine r_getS (k := 3) (q2 := 4) C oCl11 rfl (by decide) flX11_26 rfl rfl rfl ks0 (oDec_at oX11_richest 74 rfl) (fun b7 rb7 mb7 hkb7 => ?_)
              refine r_callVv C oCl4 hkb6 miX4_copyFrom mlX11_323 (ct10_X4_copyFrom l E (u2) b6 hkb6 b7 hkb7 (owLN_fr fu2 rfl iv3)) (by decide) rfl rfl rfl (Nat.le_of_ble_eq_true rfl) (oDec_at oX11_richest 75 rfl) (fun u8 pu8 fu8 => ?_)
              try dsimp only at pu8
              obtain ⟨pu8_0, pu8_1⟩ := pu8
              refine r_aload_n C (j := 0) (oDec_at oX11_richest 76 rfl) rfl rfl ?_
              refine r_pc C 152 rfl ?_
              refine r_callVv C oCl11 rfl miX11_takeSpare mlX11_121 (ct9_X11_takeSpare l E (u8)  (owCZ_fr fu8 rfl (owCZ_fr fu2 rfl iv9))) (by decide) rfl rfl rfl (Nat.le_of_ble_eq_true rfl) (oDec_at oX11_richest 77 rfl) (fun u10 pu10 fu10 => ?_)
              try dsimp only at pu10
              refine r_iload_n C (j := 1) (oDec_at oX11_richest 78 rfl) rfl rfl ?_
              exact r_iret C (oDec_at oX11_richest 79 rfl) ⟨_, rfl, ⟨(owKV_fr fu10 rfl (owKV_fr fu8 rfl (owKV_fr fu2 rfl iv2))), (owLN_fr fu10 rfl pu8_0), (owDN_fr fu10 rfl (owDN_fr fu8 rfl (owDN_fr fu2 rfl iv4))), pu10, owRr_y (k := (x4).toInt) (by omega) (by first | exact iv15 (by omega) | (exfalso; obtain ⟨st9, hms9, hdg9, hva9, hrn9⟩ := iv14 (by omega); have hvb9 := owVa_b hdg9; omega)) (by omega)⟩⟩
            · skip
              refine r_iload C (j := 4) (oDec_at oX11_richest 69 rfl) rfl ?_
              exact r_iret C (oDec_at oX11_richest 70 rfl) ⟨_, rfl, ⟨(owKV_fr fu2 rfl iv2), (owLN_fr fu2 rfl iv3), (owDN_fr fu2 rfl iv4), (owCZ_fr fu2 rfl iv9), owRr_y (k := (x4).toInt) (by omega) (by first | exact iv15 (by omega) | (exfalso; obtain ⟨st9, hms9, hdg9, hva9, hrn9⟩ := iv14 (by omega); have hvb9 := owVa_b hdg9; omega)) (by omega)⟩⟩
        · skip
          refine r_iload C (j := 6) (oDec_at oX11_richest 30 rfl) rfl ?_
          refine r_sipush C (oDec_at oX11_richest 31 rfl) (v := k20000) (by rw [qk20000]; rfl) ?_
          refine r_icmp_ge C 123 (oDec_at oX11_richest 32 rfl) (by decide) (fun cd12 => ?_) (fun cd12 => ?_)
          · skip
            refine r_aload_n C (j := 0) (oDec_at oX11_richest 62 rfl) rfl rfl ?_
            refine r_callVv C oCl11 rfl miX11_forget mlX11_131 (ct_X11_forget l E (t)  ) (by decide) rfl rfl rfl (Nat.le_of_ble_eq_true rfl) (oDec_at oX11_richest 63 rfl) (fun u13 pu13 fu13 => ?_)
            try dsimp only at pu13
            refine r_iload C (j := 4) (oDec_at oX11_richest 64 rfl) rfl ?_
            refine r_iconst C (oDec_at oX11_richest 65 rfl) (v := km1) (by rw [qkm1]; rfl) ?_
            refine r_icmp_eq C 137 (oDec_at oX11_richest 66 rfl) (by decide) (fun cd15 => ?_) (fun cd15 => ?_)
            · skip
              refine r_iload C (j := 4) (oDec_at oX11_richest 69 rfl) rfl ?_
              exact r_iret C (oDec_at oX11_richest 70 rfl) ⟨_, rfl, ⟨(owKV_fr fu13 rfl iv2), (owLN_fr fu13 rfl iv3), (owDN_fr fu13 rfl iv4), (owCZ_fr fu13 rfl iv9), owRr_y (k := (x4).toInt) (by omega) (by first | exact iv15 (by omega) | (exfalso; obtain ⟨st9, hms9, hdg9, hva9, hrn9⟩ := iv14 (by omega); have hvb9 := owVa_b hdg9; omega)) (by omega)⟩⟩
            · skip
              refine r_iload_n C (j := 3) (oDec_at oX11_richest 67 rfl) rfl rfl ?_
              refine r_if_ne C 140 (oDec_at oX11_richest 68 rfl) (by decide) (fun cd16 => ?_) (fun cd16 => ?_)
              · skip
                refine r_aload_n C (j := 0) (oDec_at oX11_richest 71 rfl) rfl rfl ?_
                refine r_getS (k := 2) (q2 := 4) C oCl11 rfl (by decide) flX11_23 rfl rfl rfl ks0 (oDec_at oX11_richest 72 rfl) (fun b17 rb17 mb17 hkb17 => ?_)
                refine r_aload_n C (j := 0) (oDec_at oX11_richest 73 rfl) rfl rfl ?_
                refine r_getS (k := 3) (q2 := 4) C oCl11 rfl (by decide) flX11_26 rfl rfl rfl ks0 (oDec_at oX11_richest 74 rfl) (fun b18 rb18 mb18 hkb18 => ?_)
                refine r_callVv C oCl4 hkb17 miX4_copyFrom mlX11_323 (ct10_X4_copyFrom l E (u13) b17 hkb17 b18 hkb18 (owLN_fr fu13 rfl iv3)) (by decide) rfl rfl rfl (Nat.le_of_ble_eq_true rfl) (oDec_at oX11_richest 75 rfl) (fun u19 pu19 fu19 => ?_)
                try dsimp only at pu19
                obtain ⟨pu19_0, pu19_1⟩ := pu19
                refine r_aload_n C (j := 0) (oDec_at oX11_richest 76 rfl) rfl rfl ?_
                refine r_pc C 152 rfl ?_
                refine r_callVv C oCl11 rfl miX11_takeSpare mlX11_121 (ct9_X11_takeSpare l E (u19)  (owCZ_fr fu19 rfl (owCZ_fr fu13 rfl iv9))) (by decide) rfl rfl rfl (Nat.le_of_ble_eq_true rfl) (oDec_at oX11_richest 77 rfl) (fun u21 pu21 fu21 => ?_)
                try dsimp only at pu21
                refine r_iload_n C (j := 1) (oDec_at oX11_richest 78 rfl) rfl rfl ?_
                exact r_iret C (oDec_at oX11_richest 79 rfl) ⟨_, rfl, ⟨(owKV_fr fu21 rfl (owKV_fr fu19 rfl (owKV_fr fu13 rfl iv2))), (owLN_fr fu21 rfl pu19_0), (owDN_fr fu21 rfl (owDN_fr fu19 rfl (owDN_fr fu13 rfl iv4))), pu21, owRr_y (k := (x4).toInt) (by omega) (by first | exact iv15 (by omega) | (exfalso; obtain ⟨st9, hms9, hdg9, hva9, hrn9⟩ := iv14 (by omega); have hvb9 := owVa_b hdg9; omega)) (by omega)⟩⟩
              · skip
                refine r_iload C (j := 4) (oDec_at oX11_richest 69 rfl) rfl ?_
                exact r_iret C (oDec_at oX11_richest 70 rfl) ⟨_, rfl, ⟨(owKV_fr fu13 rfl iv2), (owLN_fr fu13 rfl iv3), (owDN_fr fu13 rfl iv4), (owCZ_fr fu13 rfl iv9), owRr_y (k := (x4).toInt) (by omega) (by first | exact iv15 (by omega) | (exfalso; obtain ⟨st9, hms9, hdg9, hva9, hrn9⟩ := iv14 (by omega); have hvb9 := owVa_b hdg9; omega)) (by omega)⟩⟩
          · skip
            obtain ⟨st9, hms9, hdg9, hva9, hrn9⟩ := iv14 (by omega)
            have hvb9 := owVa_b hdg9
            have hsp8 : t.2.2 0 2 = sp + 1 := iv10.2
            have hcs8 := iv9.2.2
            have hcs7 := iv9.1
            have hq23 : owMS sp a1.toInt st9 (t) := hms9
            have hq24 : owMA sp a1.toInt (t) := iv13 (by omega)
            refine r_aload_n C (j := 0) (oDec_at oX11_richest 33 rfl) rfl rfl ?_
            refine r_getF (k := 10) (b := 43) C oCl11 rfl (by decide) flX11_74 rfl rfl rfl (oDec_at oX11_richest 34 rfl) ?_
            refine r_aload_n C (j := 0) (oDec_at oX11_richest 35 rfl) rfl rfl ?_
            refine r_getS (k := 2) (q2 := 4) C oCl11 rfl (by decide) flX11_23 rfl rfl rfl ks0 (oDec_at oX11_richest 36 rfl) (fun b25 rb25 mb25 hkb25 => ?_)
            have hs59 : b25 = sp := (by have h2 := (rb25); omega)
            refine r_aload_n C (j := 0) (oDec_at oX11_richest 37 rfl) rfl rfl ?_
            refine r_getS (k := 4) (q2 := 0) C oCl11 rfl (by decide) flX11_32 rfl rfl rfl ks1 (oDec_at oX11_richest 38 rfl) (fun b26 rb26 mb26 hkb26 => ?_)
            refine r_pc C 72 rfl ?_
            have hb59 : b26 = b := (by have h1 : (t.2.2 0 4) = b + 1 := iv6; have h2 := (rb26); omega)
            refine r_aload_n C (j := 0) (oDec_at oX11_richest 39 rfl) rfl rfl ?_
            refine r_getF (k := 7) (b := 31) C oCl11 rfl (by decide) flX11_53 rfl rfl rfl (oDec_at oX11_richest 40 rfl) ?_
            refine r_aload_n C (j := 0) (oDec_at oX11_richest 41 rfl) rfl rfl ?_
            refine r_getF (k := 8) (b := 35) C oCl11 rfl (by decide) flX11_60 rfl rfl rfl (oDec_at oX11_richest 42 rfl) ?_
            -- !! !owMA c1 (a1.toInt) is not known here
            -- !! !owMS c1 (a1.toInt) st9 is not known here
            refine r_callVi C oCl10 rfl miX10_survey mlX11_319 (ct10_X10_survey l E (t) b25 hkb25 b26 hkb26 (b) (R) (W) (me) (a1.toInt) (st9) (D) (S) (K) iv1 iv2 iv3 iv4 (by rw [hs59]; exact hq24) (by rw [hs59]; exact hq23) iv7 iv8 hdg9 (by omega) (by omega) (by omega)) (by decide) rfl rfl rfl (Nat.le_of_ble_eq_true rfl) (oDec_at oX11_richest 43 rfl) (fun r28 u27 pu27 fu27 => ?_)
            try dsimp only at pu27
            obtain ⟨pu27_0, pu27_1, pu27_2⟩ := pu27
            have rr28 := n_rng r28
            have hsv9 := pu27_2
            refine r_istore C (lv' := [(0, .ref (oad E 0)), (1, .int a1), (2, .int a2), (3, .int a3), (4, .int x4), (5, .int x5), (6, .int x6), (7, .int r28)]) [1, 2, 3, 4, 5, 6, 7, 0] (oDec_at oX11_richest 44 rfl) (by decide) rfl ?_
            refine r_pc C 85 rfl ?_
            refine r_iload C (j := 7) (oDec_at oX11_richest 45 rfl) rfl ?_
            refine r_iload C (j := 4) (oDec_at oX11_richest 46 rfl) rfl ?_
            refine r_icmp_le C 107 (oDec_at oX11_richest 47 rfl) (by decide) (fun cd29 => ?_) (fun cd29 => ?_)
            · skip
              refine r_aload_n C (j := 0) (oDec_at oX11_richest 55 rfl) rfl rfl ?_
              refine r_getK (k := 2) (b := b25) C oCl11 rfl (by decide) flX11_23 rfl rfl (((fu27 0 2 rfl).2.2).trans (rb25)) (oDec_at oX11_richest 56 rfl) ?_
              have hs69 : b25 = sp := (by have h1 : (u27).2.2 0 2 = sp + 1 := (show owSP sp (u27) from (owSP_fr fu27 rfl iv10)).2; have h2 := (((fu27 0 2 rfl).2.2).trans (rb25)); omega)
              refine r_iload_n C (j := 2) (oDec_at oX11_richest 57 rfl) rfl rfl ?_
              -- !! !owMA c0 (a1.toInt) is not known here
              -- !! !owMS c0 (a1.toInt) st9 is not known here
              refine r_callVi C oCl4 hkb25 miX4_advanceMade mlX11_327 (ct10_X4_advanceMade l E (u27) b25 hkb25 a2 (a1.toInt) (st9) (owLN_fr fu27 rfl iv3) (by rw [hs69]; exact (owMA_fr fu27 rfl hq24)) (by rw [hs69]; exact (owMS_fr fu27 rfl hq23)) hdg9 (by omega) (by omega)) (by decide) rfl rfl rfl (Nat.le_of_ble_eq_true rfl) (oDec_at oX11_richest 58 rfl) (fun r32 u31 pu31 fu31 => ?_)
              try dsimp only at pu31
              obtain ⟨pu31_0, pu31_1, pu31_2, pu31_3⟩ := pu31
              have rr32 := n_rng r32
              have hnx9 := pu31_2
              have hls9 := pu31_3
              refine r_istore C (lv' := [(0, .ref (oad E 0)), (1, .int a1), (2, .int a2), (3, .int a3), (4, .int x4), (5, .int r32), (6, .int x6), (7, .int r28)]) [1, 2, 3, 4, 5, 0, 6, 7] (oDec_at oX11_richest 59 rfl) (by decide) rfl ?_
              obtain ⟨v33, ev33⟩ : ∃ z : Int32, x6 + Int32.ofInt 1 = z := ⟨_, rfl⟩
              have hv33 : v33.toInt = x6.toInt + 1 := n_inc ev33 (by decide) (by omega) (by omega)
              refine r_iinc C (j := 6) (lv' := [(0, .ref (oad E 0)), (1, .int a1), (2, .int a2), (3, .int a3), (4, .int x4), (5, .int r32), (6, .int v33), (7, .int r28)]) v33 [1, 2, 3, 4, 5, 6, 0, 7] (oDec_at oX11_richest 60 rfl) rfl ev33 (by decide) rfl ?_
              refine r_goto C (tgt := 47) (oDec_at oX11_richest 61 rfl) (by decide) ?_
              refine r_pick C [0, 1, 2, 3, 4, 5, 6] rfl ?_
              exact (ih (n - 1) (by omega)) (u31) x4 r32 v33  (by omega) (owBC_fr fu31 rfl (owBC_fr fu27 rfl iv1)) (owKV_fr fu31 rfl pu27_0) pu31_1 (owDN_fr fu31 rfl pu27_1) (by omega) (owBO_fr fu31 rfl (owBO_fr fu27 rfl iv6)) (owME_fr fu31 rfl (owME_fr fu27 rfl iv7)) (owBW_fr fu31 rfl (owBW_fr fu27 rfl iv8)) (owCZ_fr fu31 rfl (owCZ_fr fu27 rfl iv9)) (owSP_fr fu31 rfl (owSP_fr fu27 rfl iv10)) (by omega) (by omega) (by first | exact fun _ => (owMA_fr fu31 rfl (owMA_fr fu27 rfl hq24)) | exact fun h9 => (hb19 h9).1) (by first | exact fun h9 => owLq_nx (hnx9 h9) hs69 hsv9 (by omega) hdg9 hva9 hrn9 (by omega) (by omega) (by omega) | exact fun h9 => owLq_0 (hb19 h9).2.1 rfl (hb19 h9).2.2 (by omega) (by omega)) (by first | exact fun h9 => owMx_l hsv9 (hls9 h9) (by omega) hrn9 | exact fun h9 => owMx_0 (hb09 h9) (by omega)) (by omega)
            · skip
              refine r_iload C (j := 7) (oDec_at oX11_richest 48 rfl) rfl ?_
              refine r_istore C (lv' := [(0, .ref (oad E 0)), (1, .int a1), (2, .int a2), (3, .int a3), (4, .int r28), (5, .int x5), (6, .int x6), (7, .int r28)]) [1, 2, 3, 4, 0, 5, 6, 7] (oDec_at oX11_richest 49 rfl) (by decide) rfl ?_
              refine r_aload_n C (j := 0) (oDec_at oX11_richest 50 rfl) rfl rfl ?_
              refine r_getS (k := 3) (q2 := 4) C oCl11 rfl (by decide) flX11_26 rfl rfl rfl ks0 (oDec_at oX11_richest 51 rfl) (fun b34 rb34 mb34 hkb34 => ?_)
              have hch9 : b34 = 13 := (by have h1 : (u27).2.2 0 3 = 14 := (show owCZ (u27) from (owCZ_fr fu27 rfl iv9)).1; have h2 := (rb34); omega)
              refine r_aload_n C (j := 0) (oDec_at oX11_richest 52 rfl) rfl rfl ?_
              refine r_getK (k := 2) (b := b25) C oCl11 rfl (by decide) flX11_23 rfl rfl (((fu27 0 2 rfl).2.2).trans (rb25)) (oDec_at oX11_richest 53 rfl) ?_
              refine r_callVv C oCl4 hkb34 miX4_copyFrom mlX11_323 (ct10_X4_copyFrom l E (u27) b34 hkb34 b25 hkb25 (owLN_fr fu27 rfl iv3)) (by decide) rfl rfl rfl (Nat.le_of_ble_eq_true rfl) (oDec_at oX11_richest 54 rfl) (fun u36 pu36 fu36 => ?_)
              try dsimp only at pu36
              obtain ⟨pu36_0, pu36_1⟩ := pu36
              refine r_pc C 107 rfl ?_
              have hkp9 := pu36_1
              have hq38 : owMS sp a1.toInt st9 (u36) := owMS_kp (owMS_fr fu27 rfl hq23) hkp9 (by omega)
              have hq39 : owMA sp a1.toInt (u36) := owMA_kp (owMA_fr fu27 rfl hq24) hkp9 (by omega)
              refine r_aload_n C (j := 0) (oDec_at oX11_richest 55 rfl) rfl rfl ?_
              refine r_getK (k := 2) (b := b25) C oCl11 rfl (by decide) flX11_23 rfl rfl (((fu36 0 2 rfl).2.2).trans (((fu27 0 2 rfl).2.2).trans (rb25))) (oDec_at oX11_richest 56 rfl) ?_
              have hs69 : b25 = sp := (by have h1 : (u36).2.2 0 2 = sp + 1 := (show owSP sp (u36) from (owSP_fr fu36 rfl (owSP_fr fu27 rfl iv10))).2; have h2 := (((fu36 0 2 rfl).2.2).trans (((fu27 0 2 rfl).2.2).trans (rb25))); omega)
              refine r_iload_n C (j := 2) (oDec_at oX11_richest 57 rfl) rfl rfl ?_
              -- !! !owMA c0 (a1.toInt) is not known here
              -- !! !owMS c0 (a1.toInt) st9 is not known here
              refine r_callVi C oCl4 hkb25 miX4_advanceMade mlX11_327 (ct10_X4_advanceMade l E (u36) b25 hkb25 a2 (a1.toInt) (st9) pu36_0 (by rw [hs69]; exact hq39) (by rw [hs69]; exact hq38) hdg9 (by omega) (by omega)) (by decide) rfl rfl rfl (Nat.le_of_ble_eq_true rfl) (oDec_at oX11_richest 58 rfl) (fun r42 u41 pu41 fu41 => ?_)
              try dsimp only at pu41
              obtain ⟨pu41_0, pu41_1, pu41_2, pu41_3⟩ := pu41
              have rr42 := n_rng r42
              have hnx9 := pu41_2
              have hls9 := pu41_3
              refine r_istore C (lv' := [(0, .ref (oad E 0)), (1, .int a1), (2, .int a2), (3, .int a3), (4, .int r28), (5, .int r42), (6, .int x6), (7, .int r28)]) [1, 2, 3, 4, 5, 0, 6, 7] (oDec_at oX11_richest 59 rfl) (by decide) rfl ?_
              obtain ⟨v43, ev43⟩ : ∃ z : Int32, x6 + Int32.ofInt 1 = z := ⟨_, rfl⟩
              have hv43 : v43.toInt = x6.toInt + 1 := n_inc ev43 (by decide) (by omega) (by omega)
              refine r_iinc C (j := 6) (lv' := [(0, .ref (oad E 0)), (1, .int a1), (2, .int a2), (3, .int a3), (4, .int r28), (5, .int r42), (6, .int v43), (7, .int r28)]) v43 [1, 2, 3, 4, 5, 6, 0, 7] (oDec_at oX11_richest 60 rfl) rfl ev43 (by decide) rfl ?_
              refine r_goto C (tgt := 47) (oDec_at oX11_richest 61 rfl) (by decide) ?_
              refine r_pick C [0, 1, 2, 3, 4, 5, 6] rfl ?_
              exact (ih (n - 1) (by omega)) (u41) r28 r42 v43  (by omega) (owBC_fr fu41 rfl (owBC_fr fu36 rfl (owBC_fr fu27 rfl iv1))) (owKV_fr fu41 rfl (owKV_fr fu36 rfl pu27_0)) pu41_1 (owDN_fr fu41 rfl (owDN_fr fu36 rfl pu27_1)) (by omega) (owBO_fr fu41 rfl (owBO_fr fu36 rfl (owBO_fr fu27 rfl iv6))) (owME_fr fu41 rfl (owME_fr fu36 rfl (owME_fr fu27 rfl iv7))) (owBW_fr fu41 rfl (owBW_fr fu36 rfl (owBW_fr fu27 rfl iv8))) (owCZ_fr fu41 rfl (owCZ_fr fu36 rfl (owCZ_fr fu27 rfl iv9))) (owSP_fr fu41 rfl (owSP_fr fu36 rfl (owSP_fr fu27 rfl iv10))) (by omega) (by omega) (by first | exact fun _ => (owMA_fr fu41 rfl hq39) | exact fun h9 => (hb19 h9).1) (by first | exact fun h9 => owLq_nx (hnx9 h9) hs69 hsv9 (by omega) hdg9 hva9 hrn9 (by omega) (by omega) (by omega) | exact fun h9 => owLq_0 (hb19 h9).2.1 rfl (hb19 h9).2.2 (by omega) (by omega)) (by first | exact fun h9 => owMx_l hsv9 (hls9 h9) (by omega) hrn9 | exact fun h9 => owMx_0 (hb09 h9) (by omega)) (by omega)
  have hq44 : owSP sp (s) := hsp9
  refine r_iload_n C (j := 1) (oDec_at oX11_richest 0 rfl) rfl rfl ?_
  refine r_iconst C (oDec_at oX11_richest 1 rfl) (v := k1) (by rw [qk1]; rfl) ?_
  refine r_icmp_lt C 28 (oDec_at oX11_richest 2 rfl) (by decide) (fun cd45 => ?_) (fun cd45 => ?_)
  · skip
    refine r_iconst C (oDec_at oX11_richest 16 rfl) (v := km1) (by rw [qkm1]; rfl) ?_
    exact r_iret C (oDec_at oX11_richest 17 rfl) ⟨_, rfl, ⟨hp1, hp2, hp3, hp7, owRr_n (by omega) (by omega)⟩⟩
  · skip
    refine r_iload_n C (j := 1) (oDec_at oX11_richest 3 rfl) rfl rfl ?_
    refine r_iconst C (oDec_at oX11_richest 4 rfl) (v := k4) (by rw [qk4]; rfl) ?_
    refine r_icmp_gt C 28 (oDec_at oX11_richest 5 rfl) (by decide) (fun cd46 => ?_) (fun cd46 => ?_)
    · skip
      refine r_iconst C (oDec_at oX11_richest 16 rfl) (v := km1) (by rw [qkm1]; rfl) ?_
      exact r_iret C (oDec_at oX11_richest 17 rfl) ⟨_, rfl, ⟨hp1, hp2, hp3, hp7, owRr_n (by omega) (by omega)⟩⟩
    · skip
      refine r_iload_n C (j := 2) (oDec_at oX11_richest 6 rfl) rfl rfl ?_
      refine r_if_lt C 28 (oDec_at oX11_richest 7 rfl) (by decide) (fun cd47 => ?_) (fun cd47 => ?_)
      · skip
        refine r_iconst C (oDec_at oX11_richest 16 rfl) (v := km1) (by rw [qkm1]; rfl) ?_
        exact r_iret C (oDec_at oX11_richest 17 rfl) ⟨_, rfl, ⟨hp1, hp2, hp3, hp7, owRr_n (by omega) (by omega)⟩⟩
      · skip
        refine r_iload_n C (j := 2) (oDec_at oX11_richest 8 rfl) rfl rfl ?_
        refine r_iconst C (oDec_at oX11_richest 9 rfl) (v := k2) (by rw [qk2]; rfl) ?_
        refine r_icmp_gt C 28 (oDec_at oX11_richest 10 rfl) (by decide) (fun cd48 => ?_) (fun cd48 => ?_)
        · skip
          refine r_iconst C (oDec_at oX11_richest 16 rfl) (v := km1) (by rw [qkm1]; rfl) ?_
          exact r_iret C (oDec_at oX11_richest 17 rfl) ⟨_, rfl, ⟨hp1, hp2, hp3, hp7, owRr_n (by omega) (by omega)⟩⟩
        · skip
          refine r_iload_n C (j := 3) (oDec_at oX11_richest 11 rfl) rfl rfl ?_
          refine r_if_lt C 28 (oDec_at oX11_richest 12 rfl) (by decide) (fun cd49 => ?_) (fun cd49 => ?_)
          · skip
            refine r_iconst C (oDec_at oX11_richest 16 rfl) (v := km1) (by rw [qkm1]; rfl) ?_
            exact r_iret C (oDec_at oX11_richest 17 rfl) ⟨_, rfl, ⟨hp1, hp2, hp3, hp7, owRr_n (by omega) (by omega)⟩⟩
          · skip
            refine r_iload_n C (j := 3) (oDec_at oX11_richest 13 rfl) rfl rfl ?_
            refine r_iconst C (oDec_at oX11_richest 14 rfl) (v := k1) (by rw [qk1]; rfl) ?_
            refine r_icmp_le C 30 (oDec_at oX11_richest 15 rfl) (by decide) (fun cd50 => ?_) (fun cd50 => ?_)
            · skip
              refine r_iconst C (oDec_at oX11_richest 18 rfl) (v := km1) (by rw [qkm1]; rfl) ?_
              refine r_istore C (lv' := [(0, .ref (oad E 0)), (1, .int a1), (2, .int a2), (3, .int a3), (4, .int km1)]) [1, 2, 3, 4, 0] (oDec_at oX11_richest 19 rfl) (by decide) rfl ?_
              refine r_aload_n C (j := 0) (oDec_at oX11_richest 20 rfl) rfl rfl ?_
              refine r_getS (k := 2) (q2 := 4) C oCl11 rfl (by decide) flX11_23 rfl rfl rfl ks0 (oDec_at oX11_richest 21 rfl) (fun b51 rb51 mb51 hkb51 => ?_)
              have hs49 : b51 = sp := (by have h1 := hsp9.2; have h2 := (rb51); omega)
              refine r_iload_n C (j := 1) (oDec_at oX11_richest 22 rfl) rfl rfl ?_
              refine r_iload_n C (j := 2) (oDec_at oX11_richest 23 rfl) rfl rfl ?_
              refine r_pc C 39 rfl ?_
              refine r_callVi C oCl4 hkb51 miX4_beginMade mlX11_316 (ct10_X4_beginMade l E (s) b51 hkb51 a1 a2 hp2 (by omega) (by omega)) (by decide) rfl rfl rfl (Nat.le_of_ble_eq_true rfl) (oDec_at oX11_richest 24 rfl) (fun r53 u52 pu52 fu52 => ?_)
              try dsimp only at pu52
              obtain ⟨pu52_0, pu52_1, pu52_2, pu52_3⟩ := pu52
              have rr53 := n_rng r53
              have hb19 := pu52_2
              have hb09 := pu52_3
              rw [hs49] at hb19
              refine r_istore C (lv' := [(0, .ref (oad E 0)), (1, .int a1), (2, .int a2), (3, .int a3), (4, .int km1), (5, .int r53)]) [1, 2, 3, 4, 5, 0] (oDec_at oX11_richest 25 rfl) (by decide) rfl ?_
              refine r_iconst C (oDec_at oX11_richest 26 rfl) (v := k0) (by rw [qk0]; rfl) ?_
              refine r_istore C (lv' := [(0, .ref (oad E 0)), (1, .int a1), (2, .int a2), (3, .int a3), (4, .int km1), (5, .int r53), (6, .int k0)]) [1, 2, 3, 4, 5, 6, 0] (oDec_at oX11_richest 27 rfl) (by decide) rfl ?_
              exact (key (20001 - k0.toInt).toNat) (u52) km1 r53 k0  (by omega) (owBC_fr fu52 rfl hp0) (owKV_fr fu52 rfl hp1) pu52_1 (owDN_fr fu52 rfl hp3) (by omega) (owBO_fr fu52 rfl hp4) (owME_fr fu52 rfl hp5) (owBW_fr fu52 rfl hp6) (owCZ_fr fu52 rfl hp7) (owSP_fr fu52 rfl hq44) (by omega) (by omega) (by first | exact fun _ => (by assumption) | exact fun h9 => (hb19 h9).1) (by first | exact fun h9 => owLq_nx (hnx9 h9) hs69 hsv9 (by omega) hdg9 hva9 hrn9 (by omega) (by omega) (by omega) | exact fun h9 => owLq_0 (hb19 h9).2.1 rfl (hb19 h9).2.2 (by omega) (by omega)) (by first | exact fun h9 => owMx_l hsv9 (hls9 h9) (by omega) hrn9 | exact fun h9 => owMx_0 (hb09 h9) (by omega)) (by omega)
            · skip
              refine r_iconst C (oDec_at oX11_richest 16 rfl) (v := km1) (by rw [qkm1]; rfl) ?_
              exact r_iret C (oDec_at oX11_richest 17 rfl) ⟨_, rfl, ⟨hp1, hp2, hp3, hp7, owRr_n (by omega) (by omega)⟩⟩
