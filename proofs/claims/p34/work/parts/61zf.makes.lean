set_option maxHeartbeats 4000000 in
set_option maxRecDepth 100000 in
theorem ct10_X11_madeInSpare (l : Launch) (E : oE) (s : oS) (a1 : Int32) (a2 : Int32) (a3 : Int32) (b : Nat) (R : Int) (W : Nat → List Int) (me : Int) (hp0 : owBC b R W s) (hp1 : owKV R W s) (hp2 : owDN s) (hp3 : owLN s) (hp4 : owBO b s) (hp5 : owME b me s) (hp6 : 0 ≤ a1.toInt ∧ a1.toInt ≤ 4499) (hp7 : 1 ≤ a2.toInt ∧ a2.toInt ≤ 6) (hp8 : 0 ≤ a3.toInt ∧ a3.toInt ≤ 4) : oMet l 7 yX11_madeInSpare cX11_madeInSpare 6 (some .boolean) [(1, 6), (1, 7), (1, 8), (4, 4), (4, 5), (4, 6), (4, 7), (9, 0), (9, 1), (9, 2), (9, 3), (9, 4), (16, 9999), (17, 9999), (18, 9999), (19, 9999), (24, 9999), (25, 9999), (26, 9999), (27, 9999), (28, 9999), (29, 9999), (30, 9999), (31, 9999)] E s [.ref (oad E 0), .int a1, .int a2, .int a3] (oPi (fun r u => (0 ≤ r.toInt ∧ r.toInt ≤ 1) ∧ (owKV R W u) ∧ (owDN u) ∧ (owLN u) ∧ (r.toInt = 1 → owMd a2.toInt a3.toInt (owAg R W me a1.toInt a2.toInt) 1) ∧ (r.toInt = 0 → owMd a2.toInt a3.toInt (owAg R W me a1.toInt a2.toInt) 0))) := by
  refine oMet.of (lv := [(0, .ref (oad E 0)), (1, .int a1), (2, .int a2), (3, .int a3)]) (by decide +kernel) (Nat.le_of_ble_eq_true rfl) rfl (fun J C hT => ?_)
  have C : oC l 7 cX11_madeInSpare RX11 6 (some .boolean) [(1, 6), (1, 7), (1, 8), (4, 4), (4, 5), (4, 6), (4, 7), (9, 0), (9, 1), (9, 2), (9, 3), (9, 4), (16, 9999), (17, 9999), (18, 9999), (19, 9999), (24, 9999), (25, 9999), (26, 9999), (27, 9999), (28, 9999), (29, 9999), (30, 9999), (31, 9999)] E s (oPi (fun r u => (0 ≤ r.toInt ∧ r.toInt ≤ 1) ∧ (owKV R W u) ∧ (owDN u) ∧ (owLN u) ∧ (r.toInt = 1 → owMd a2.toInt a3.toInt (owAg R W me a1.toInt a2.toInt) 1) ∧ (r.toInt = 0 → owMd a2.toInt a3.toInt (owAg R W me a1.toInt a2.toInt) 0))) J := C
  obtain ⟨k0, qk0⟩ : ∃ z : Int32, z = 0 := ⟨_, rfl⟩
  have ek0 : k0.toInt = 0 := by rw [qk0]; rfl
  obtain ⟨k1, qk1⟩ : ∃ z : Int32, z = 1 := ⟨_, rfl⟩
  have ek1 : k1.toInt = 1 := by rw [qk1]; rfl
  obtain ⟨k20000, qk20000⟩ : ∃ z : Int32, z = 20000 := ⟨_, rfl⟩
  have ek20000 : k20000.toInt = 20000 := by rw [qk20000]; rfl
  have rg1 := n_rng a1
  have rg2 := n_rng a2
  have rg3 := n_rng a3
  obtain ⟨sp, hsp9⟩ := owSP_of hT
  have key : ∀ n : Nat, (∀ (t : oS) (x4 : Int32) (x5 : Int32), (owBC b R W t) → (owKV R W t) → (owDN t) → (owLN t) → (owBO b t) → (owME b me t) → (owSP sp t) → ((x4.toInt = 1 → owMA sp a2.toInt t)) → (x4.toInt = 1 → owLp sp a2.toInt a3.toInt (owAg R W me a1.toInt a2.toInt) x5.toInt t) → (x4.toInt = 0 → owMd a2.toInt a3.toInt (owAg R W me a1.toInt a2.toInt) 0) → (0 ≤ x5.toInt ∧ x5.toInt ≤ 20000) → (0 ≤ x4.toInt ∧ x4.toInt ≤ 1) → 20001 - x5.toInt ≤ (n : Int) → J t 14 [(0, .ref (oad E 0)), (1, .int a1), (3, .int a3), (4, .int x4), (5, .int x5)] []) := by
    intro n
    induction n using Nat.strongRecOn with
    | _ n ih =>
      skip
      · intro t x4 x5  iv0 iv1 iv2 iv3 iv4 iv5 iv6 iv7 iv8 iv9 iv10 iv11 hmu
        have rx4 := n_rng x4
        have rx5 := n_rng x5
        refine r_iload C (j := 3) (oDec_at oX11_madeInSpare 8 rfl) rfl ?_
        refine r_if_eq C 57 (oDec_at oX11_madeInSpare 9 rfl) (by decide) (fun cd1 => ?_) (fun cd1 => ?_)
        · skip
          refine r_iconst C (oDec_at oX11_madeInSpare 28 rfl) (v := k0) (by rw [qk0]; rfl) ?_
          exact r_zret C (n_bool (by omega)) (oDec_at oX11_madeInSpare 29 rfl) ⟨_, rfl, ⟨by omega, iv1, iv2, iv3, fun h9 => by exfalso; omega, fun _ => by first | exact iv9 (by omega) | (exfalso; obtain ⟨st9, hms9, hdg9, hva9, hrn9⟩ := iv8 (by omega); have hvb9 := owVa_b hdg9; omega)⟩⟩
        · skip
          refine r_iload C (j := 4) (oDec_at oX11_madeInSpare 10 rfl) rfl ?_
          refine r_sipush C (oDec_at oX11_madeInSpare 11 rfl) (v := k20000) (by rw [qk20000]; rfl) ?_
          refine r_icmp_ge C 57 (oDec_at oX11_madeInSpare 12 rfl) (by decide) (fun cd2 => ?_) (fun cd2 => ?_)
          · skip
            refine r_iconst C (oDec_at oX11_madeInSpare 28 rfl) (v := k0) (by rw [qk0]; rfl) ?_
            exact r_zret C (n_bool (by omega)) (oDec_at oX11_madeInSpare 29 rfl) ⟨_, rfl, ⟨by omega, iv1, iv2, iv3, fun h9 => by exfalso; omega, fun _ => by first | exact iv9 (by omega) | (exfalso; obtain ⟨st9, hms9, hdg9, hva9, hrn9⟩ := iv8 (by omega); have hvb9 := owVa_b hdg9; omega)⟩⟩
          · skip
            obtain ⟨st9, hms9, hdg9, hva9, hrn9⟩ := iv8 (by omega)
            have hvb9 := owVa_b hdg9
            have hq3 : owMS sp a2.toInt st9 (t) := hms9
            have hq4 : owMA sp a2.toInt (t) := iv7 (by omega)
            refine r_aload_n C (j := 0) (oDec_at oX11_madeInSpare 13 rfl) rfl rfl ?_
            refine r_aload_n C (j := 0) (oDec_at oX11_madeInSpare 14 rfl) rfl rfl ?_
            refine r_getS (k := 2) (q2 := 4) C oCl11 rfl (by decide) flX11_23 rfl rfl rfl ks0 (oDec_at oX11_madeInSpare 15 rfl) (fun b5 rb5 mb5 hkb5 => ?_)
            have hs59 : b5 = sp := (by have h1 : (t.2.2 0 2) = sp + 1 := iv6.2; have h2 := (rb5); omega)
            refine r_iload_n C (j := 1) (oDec_at oX11_madeInSpare 16 rfl) rfl rfl ?_
            -- !! !owMA c1 (a2.toInt) is not known here
            -- !! !owMS c1 (a2.toInt) st9 is not known here
            refine r_callVi C oCl11 rfl miX11_agrees mlX11_393 (ct10_X11_agrees l E (t) b5 hkb5 a1 (b) (R) (W) (me) (a2.toInt) (st9) iv0 iv1 iv2 iv3 iv4 iv5 (by rw [hs59]; exact hq4) (by rw [hs59]; exact hms9) (by omega) (by omega) (by omega)) (by decide) rfl rfl rfl (Nat.le_of_ble_eq_true rfl) (oDec_at oX11_madeInSpare 17 rfl) (fun r7 u6 pu6 fu6 => ?_)
            try dsimp only at pu6
            obtain ⟨pu6_0, pu6_1, pu6_2, pu6_3⟩ := pu6
            have rr7 := n_rng r7
            have hag9 := pu6_3
            refine r_if_eq C 41 (oDec_at oX11_madeInSpare 18 rfl) (by decide) (fun cd8 => ?_) (fun cd8 => ?_)
            · skip
              refine r_aload_n C (j := 0) (oDec_at oX11_madeInSpare 21 rfl) rfl rfl ?_
              refine r_getK (k := 2) (b := b5) C oCl11 rfl (by decide) flX11_23 rfl rfl (((fu6 0 2 rfl).2.2).trans (rb5)) (oDec_at oX11_madeInSpare 22 rfl) ?_
              have hs69 : b5 = sp := (by have h1 : (u6).2.2 0 2 = sp + 1 := (show owSP sp (u6) from (owSP_fr fu6 rfl iv6)).2; have h2 := (((fu6 0 2 rfl).2.2).trans (rb5)); omega)
              refine r_iload_n C (j := 2) (oDec_at oX11_madeInSpare 23 rfl) rfl rfl ?_
              -- !! !owMA c0 (a2.toInt) is not known here
              -- !! !owMS c0 (a2.toInt) st9 is not known here
              refine r_callVi C oCl4 hkb5 miX4_advanceMade mlX11_327 (ct10_X4_advanceMade l E (u6) b5 hkb5 a3 (a2.toInt) (st9) (owLN_fr fu6 rfl iv3) (by rw [hs69]; exact (owMA_fr fu6 rfl hq4)) (by rw [hs69]; exact (owMS_fr fu6 rfl hq3)) (by omega) (by omega) (by omega)) (by decide) rfl rfl rfl (Nat.le_of_ble_eq_true rfl) (oDec_at oX11_madeInSpare 24 rfl) (fun r11 u10 pu10 fu10 => ?_)
              try dsimp only at pu10
              obtain ⟨pu10_0, pu10_1, pu10_2, pu10_3⟩ := pu10
              have rr11 := n_rng r11
              have hnx9 := pu10_2
              have hls9 := pu10_3
              refine r_istore C (lv' := [(0, .ref (oad E 0)), (1, .int a1), (3, .int a3), (4, .int r11), (5, .int x5)]) [1, 2, 3, 0, 4] (oDec_at oX11_madeInSpare 25 rfl) (by decide) rfl ?_
              obtain ⟨v12, ev12⟩ : ∃ z : Int32, x5 + Int32.ofInt 1 = z := ⟨_, rfl⟩
              have hv12 : v12.toInt = x5.toInt + 1 := n_inc ev12 (by decide) (by omega) (by omega)
              refine r_iinc C (j := 4) (lv' := [(0, .ref (oad E 0)), (1, .int a1), (3, .int a3), (4, .int r11), (5, .int v12)]) v12 [1, 2, 3, 4, 0] (oDec_at oX11_madeInSpare 26 rfl) rfl ev12 (by decide) rfl ?_
              refine r_goto C (tgt := 14) (oDec_at oX11_madeInSpare 27 rfl) (by decide) ?_
              exact (ih (n - 1) (by omega)) (u10) r11 v12  (owBC_fr fu10 rfl (owBC_fr fu6 rfl iv0)) (owKV_fr fu10 rfl pu6_1) (owDN_fr fu10 rfl pu6_2) pu10_1 (owBO_fr fu10 rfl (owBO_fr fu6 rfl iv4)) (owME_fr fu10 rfl (owME_fr fu6 rfl iv5)) (owSP_fr fu10 rfl (owSP_fr fu6 rfl iv6)) (by first | exact fun _ => (owMA_fr fu10 rfl (owMA_fr fu6 rfl hq4)) | exact fun h9 => (hb19 h9).1) (by first | exact fun h9 => owLp_nx (hnx9 h9) hs69 (fun h8 => by have h7 := hag9.mpr h8; omega) hdg9 hva9 hrn9 (by omega) (by omega) (by omega) | exact fun h9 => owLp_0 (hb19 h9).2.1 rfl (hb19 h9).2.2 (by omega)) (by first | exact fun h9 => hrn9 0 (owRn_n (fun h8 => by have h7 := hag9.mpr h8; omega) (hls9 h9)) | exact fun h9 => owMd_0 (hb09 h9)) (by omega) (by omega) (by omega)
            · skip
              refine r_iconst C (oDec_at oX11_madeInSpare 19 rfl) (v := k1) (by rw [qk1]; rfl) ?_
              exact r_zret C (n_bool (by omega)) (oDec_at oX11_madeInSpare 20 rfl) ⟨_, rfl, ⟨by omega, pu6_1, pu6_2, (owLN_fr fu6 rfl iv3), fun _ => hrn9 1 (owRn_y (hag9.mp (by omega))), fun h9 => by exfalso; omega⟩⟩
  have hq13 : owSP sp (s) := hsp9
  refine r_aload_n C (j := 0) (oDec_at oX11_madeInSpare 0 rfl) rfl rfl ?_
  refine r_getS (k := 2) (q2 := 4) C oCl11 rfl (by decide) flX11_23 rfl rfl rfl ks0 (oDec_at oX11_madeInSpare 1 rfl) (fun b14 rb14 mb14 hkb14 => ?_)
  have hs49 : b14 = sp := (by have h1 := hsp9.2; have h2 := (rb14); omega)
  refine r_iload_n C (j := 2) (oDec_at oX11_madeInSpare 2 rfl) rfl rfl ?_
  refine r_iload_n C (j := 3) (oDec_at oX11_madeInSpare 3 rfl) rfl rfl ?_
  refine r_callVi C oCl4 hkb14 miX4_beginMade mlX11_316 (ct10_X4_beginMade l E (s) b14 hkb14 a2 a3 hp3 (by omega) (by omega)) (by decide) rfl rfl rfl (Nat.le_of_ble_eq_true rfl) (oDec_at oX11_madeInSpare 4 rfl) (fun r16 u15 pu15 fu15 => ?_)
  try dsimp only at pu15
  obtain ⟨pu15_0, pu15_1, pu15_2, pu15_3⟩ := pu15
  have rr16 := n_rng r16
  have hb19 := pu15_2
  have hb09 := pu15_3
  rw [hs49] at hb19
  refine r_istore C (lv' := [(0, .ref (oad E 0)), (1, .int a1), (2, .int a2), (3, .int a3), (4, .int r16)]) [1, 2, 3, 4, 0] (oDec_at oX11_madeInSpare 5 rfl) (by decide) rfl ?_
  refine r_pc C 11 rfl ?_
  refine r_iconst C (oDec_at oX11_madeInSpare 6 rfl) (v := k0) (by rw [qk0]; rfl) ?_
  refine r_istore C (lv' := [(0, .ref (oad E 0)), (1, .int a1), (2, .int a2), (3, .int a3), (4, .int r16), (5, .int k0)]) [1, 2, 3, 4, 5, 0] (oDec_at oX11_madeInSpare 7 rfl) (by decide) rfl ?_
  refine r_pick C [0, 1, 3, 4, 5] rfl ?_
  exact (key (20001 - k0.toInt).toNat) (u15) r16 k0  (owBC_fr fu15 rfl hp0) (owKV_fr fu15 rfl hp1) (owDN_fr fu15 rfl hp2) pu15_1 (owBO_fr fu15 rfl hp4) (owME_fr fu15 rfl hp5) (owSP_fr fu15 rfl hq13) (by first | exact fun _ => (by assumption) | exact fun h9 => (hb19 h9).1) (by first | exact fun h9 => owLp_nx (hnx9 h9) hs69 (fun h8 => by have h7 := hag9.mpr h8; omega) hdg9 hva9 hrn9 (by omega) (by omega) (by omega) | exact fun h9 => owLp_0 (hb19 h9).2.1 rfl (hb19 h9).2.2 (by omega)) (by first | exact fun h9 => hrn9 0 (owRn_n (fun h8 => by have h7 := hag9.mpr h8; omega) (hls9 h9)) | exact fun h9 => owMd_0 (hb09 h9)) (by omega) (by omega) (by omega)
set_option maxHeartbeats 4000000 in
set_option maxRecDepth 100000 in
theorem ct10_X11_follows (l : Launch) (E : oE) (s : oS) (a0 : Int32)   : oMet l 2 yX11_follows cX11_follows 1 (some .boolean) [] E s [.int a0] (oPi (fun r u => (0 ≤ r.toInt ∧ r.toInt ≤ 1) ∧ (r.toInt = 1 → (0 ≤ a0.toInt ∧ a0.toInt < 4500)) ∧ (r.toInt = 1 ↔ (0 ≤ a0.toInt ∧ a0.toInt ≤ 4499 ∧ a0.toInt ≠ 84)))) := by
  refine oMet.of (lv := [(0, .int a0)]) (by decide +kernel) (Nat.le_of_ble_eq_true rfl) rfl (fun J C hT => ?_)
  have C : oC l 2 cX11_follows RX11 1 (some .boolean) [] E s (oPi (fun r u => (0 ≤ r.toInt ∧ r.toInt ≤ 1) ∧ (r.toInt = 1 → (0 ≤ a0.toInt ∧ a0.toInt < 4500)) ∧ (r.toInt = 1 ↔ (0 ≤ a0.toInt ∧ a0.toInt ≤ 4499 ∧ a0.toInt ≠ 84)))) J := C
  obtain ⟨k0, qk0⟩ : ∃ z : Int32, z = 0 := ⟨_, rfl⟩
  have ek0 : k0.toInt = 0 := by rw [qk0]; rfl
  obtain ⟨k1, qk1⟩ : ∃ z : Int32, z = 1 := ⟨_, rfl⟩
  have ek1 : k1.toInt = 1 := by rw [qk1]; rfl
  obtain ⟨k84, qk84⟩ : ∃ z : Int32, z = 84 := ⟨_, rfl⟩
  have ek84 : k84.toInt = 84 := by rw [qk84]; rfl
  have rg0 := n_rng a0
  refine r_iload_n C (j := 0) (oDec_at oX11_follows 0 rfl) rfl rfl ?_
  refine r_callSi C miX11_isCode mlX11_192 (ct_X11_isCode l E (s) a0 ) (by decide) rfl rfl rfl (Nat.le_of_ble_eq_true rfl) (oDec_at oX11_follows 1 rfl) (fun r2 u1 pu1 fu1 => ?_)
  try dsimp only at pu1
  obtain ⟨pu1_0, pu1_1⟩ := pu1
  have hxu1 := oFr_nil fu1; subst hxu1
  have rr2 := n_rng r2
  refine r_if_eq C 17 (oDec_at oX11_follows 2 rfl) (by decide) (fun cd3 => ?_) (fun cd3 => ?_)
  · skip
    refine r_iconst C (oDec_at oX11_follows 8 rfl) (v := k0) (by rw [qk0]; rfl) ?_
    exact r_zret C (n_bool (by omega)) (oDec_at oX11_follows 9 rfl) ⟨_, rfl, ⟨by omega, by omega, by omega⟩⟩
  · skip
    refine r_iload_n C (j := 0) (oDec_at oX11_follows 3 rfl) rfl rfl ?_
    refine r_bipush C (oDec_at oX11_follows 4 rfl) (v := k84) (by rw [qk84]; rfl) ?_
    refine r_icmp_eq C 17 (oDec_at oX11_follows 5 rfl) (by decide) (fun cd4 => ?_) (fun cd4 => ?_)
    · skip
      refine r_iconst C (oDec_at oX11_follows 8 rfl) (v := k0) (by rw [qk0]; rfl) ?_
      exact r_zret C (n_bool (by omega)) (oDec_at oX11_follows 9 rfl) ⟨_, rfl, ⟨by omega, by omega, by omega⟩⟩
    · skip
      refine r_iconst C (oDec_at oX11_follows 6 rfl) (v := k1) (by rw [qk1]; rfl) ?_
      refine r_goto C (tgt := 18) (oDec_at oX11_follows 7 rfl) (by decide) ?_
      exact r_zret C (n_bool (by omega)) (oDec_at oX11_follows 9 rfl) ⟨_, rfl, ⟨by omega, by omega, by omega⟩⟩
