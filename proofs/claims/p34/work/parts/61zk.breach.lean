set_option maxHeartbeats 4000000 in
set_option maxRecDepth 100000 in
theorem ct9_X12_isFirst (l : Launch) (E : oE) (s : oS) (a0 : Int32) (a1 : Int32)   : oMet l 1 yX12_isFirst cX12_isFirst 2 (some .boolean) [] E s [.int a0, .int a1] (oPi (fun r u => (0 ≤ r.toInt ∧ r.toInt ≤ 1) ∧ (a0.toInt = 84 → r.toInt = 1))) := by
  refine oMet.of (lv := [(0, .int a0), (1, .int a1)]) (by decide +kernel) (Nat.le_of_ble_eq_true rfl) rfl (fun J C hT => ?_)
  have C : oC l 1 cX12_isFirst RX12 2 (some .boolean) [] E s (oPi (fun r u => (0 ≤ r.toInt ∧ r.toInt ≤ 1) ∧ (a0.toInt = 84 → r.toInt = 1))) J := C
  obtain ⟨k0, qk0⟩ : ∃ z : Int32, z = 0 := ⟨_, rfl⟩
  have ek0 : k0.toInt = 0 := by rw [qk0]; rfl
  obtain ⟨k1, qk1⟩ : ∃ z : Int32, z = 1 := ⟨_, rfl⟩
  have ek1 : k1.toInt = 1 := by rw [qk1]; rfl
  obtain ⟨k84, qk84⟩ : ∃ z : Int32, z = 84 := ⟨_, rfl⟩
  have ek84 : k84.toInt = 84 := by rw [qk84]; rfl
  have rg0 := n_rng a0
  have rg1 := n_rng a1
  refine r_iload_n C (j := 0) (oDec_at oX12_isFirst 0 rfl) rfl rfl ?_
  refine r_bipush C (oDec_at oX12_isFirst 1 rfl) (v := k84) (by rw [qk84]; rfl) ?_
  refine r_icmp_eq C 17 (oDec_at oX12_isFirst 2 rfl) (by decide) (fun cd1 => ?_) (fun cd1 => ?_)
  · skip
    refine r_iconst C (oDec_at oX12_isFirst 9 rfl) (v := k1) (by rw [qk1]; rfl) ?_
    refine r_goto C (tgt := 22) (oDec_at oX12_isFirst 10 rfl) (by decide) ?_
    exact r_zret C (n_bool (by omega)) (oDec_at oX12_isFirst 12 rfl) ⟨_, rfl, ⟨by omega, by omega⟩⟩
  · skip
    refine r_iload_n C (j := 1) (oDec_at oX12_isFirst 3 rfl) rfl rfl ?_
    refine r_bipush C (oDec_at oX12_isFirst 4 rfl) (v := k84) (by rw [qk84]; rfl) ?_
    refine r_icmp_eq C 21 (oDec_at oX12_isFirst 5 rfl) (by decide) (fun cd2 => ?_) (fun cd2 => ?_)
    · skip
      refine r_iconst C (oDec_at oX12_isFirst 11 rfl) (v := k0) (by rw [qk0]; rfl) ?_
      exact r_zret C (n_bool (by omega)) (oDec_at oX12_isFirst 12 rfl) ⟨_, rfl, ⟨by omega, by omega⟩⟩
    · skip
      refine r_iload_n C (j := 0) (oDec_at oX12_isFirst 6 rfl) rfl rfl ?_
      refine r_iload_n C (j := 1) (oDec_at oX12_isFirst 7 rfl) rfl rfl ?_
      refine r_icmp_ge C 21 (oDec_at oX12_isFirst 8 rfl) (by decide) (fun cd3 => ?_) (fun cd3 => ?_)
      · skip
        refine r_iconst C (oDec_at oX12_isFirst 11 rfl) (v := k0) (by rw [qk0]; rfl) ?_
        exact r_zret C (n_bool (by omega)) (oDec_at oX12_isFirst 12 rfl) ⟨_, rfl, ⟨by omega, by omega⟩⟩
      · skip
        refine r_iconst C (oDec_at oX12_isFirst 9 rfl) (v := k1) (by rw [qk1]; rfl) ?_
        refine r_goto C (tgt := 22) (oDec_at oX12_isFirst 10 rfl) (by decide) ?_
        exact r_zret C (n_bool (by omega)) (oDec_at oX12_isFirst 12 rfl) ⟨_, rfl, ⟨by omega, by omega⟩⟩
set_option maxHeartbeats 4000000 in
set_option maxRecDepth 100000 in
theorem ct9_X12_breachOf (l : Launch) (E : oE) (s : oS) (a1 : Int32) (a2 : Int32) (nn : Int) (st : Nat → Int) (R : Int) (W : Nat → List Int) (me : Int) (hp0 : 0 ≤ a1.toInt ∧ a1.toInt ≤ 4499) (hp1 : 0 ≤ a2.toInt ∧ a2.toInt ≤ 4499) (hp2 : oBI s) (hp3 : owBE R W s) (hp4 : owMM me s) (hp5 : owLO s) (hp6 : owRL nn st s) (hp7 : owDg nn st) (hp8 : 1 ≤ nn ∧ nn ≤ 6) (hp9 : a1.toInt = 84) (hp10 : a2.toInt ≠ 84) (hp11 : 2 ≤ me ∧ me ≤ 12) : oMet l 6 yX12_breachOf cX12_breachOf 7 (some .int) [(12, 58), (12, 60), (12, 61), (12, 62), (12, 63), (12, 65), (84, 9999), (85, 9999)] E s [.ref (oad E 71), .int a1, .int a2] (oPi (fun r u => (-1 ≤ r.toInt ∧ r.toInt ≤ 216) ∧ (r.toInt = -1 ↔ owAg R W me a2.toInt nn st))) := by
  refine oMet.of (lv := [(0, .ref (oad E 71)), (1, .int a1), (2, .int a2)]) (by decide +kernel) (Nat.le_of_ble_eq_true rfl) rfl (fun J C hT => ?_)
  have C : oC l 6 cX12_breachOf RX12 7 (some .int) [(12, 58), (12, 60), (12, 61), (12, 62), (12, 63), (12, 65), (84, 9999), (85, 9999)] E s (oPi (fun r u => (-1 ≤ r.toInt ∧ r.toInt ≤ 216) ∧ (r.toInt = -1 ↔ owAg R W me a2.toInt nn st))) J := C
  obtain ⟨km1, qkm1⟩ : ∃ z : Int32, z = (-1) := ⟨_, rfl⟩
  have ekm1 : km1.toInt = (-1) := by rw [qkm1]; rfl
  have rg1 := n_rng a1
  have rg2 := n_rng a2
  have hsp84 : owSp 84 nn = 2 * nn := owSp_84
  have key : ∀ n : Nat, (∀ (t : oS) (x3 : Int32) (x4 : Int32) (x5 : Int32) (x6 : Int32), (oBI t) → (0 ≤ x3.toInt ∧ x3.toInt ≤ 4499) → (0 ≤ x4.toInt ∧ x4.toInt ≤ 4499) → (x5.toInt ≤ 216) → (0 ≤ x6.toInt ∧ x6.toInt ≤ 216) → (owBE R W t) → (owMM me t) → (owLO t) → (owRL nn st t) → (x3.toInt = 84) → (x4.toInt = a2.toInt) → (x5.toInt ≤ 2 * nn ∧ x5.toInt ≤ owSp a2.toInt nn ∧ (x5.toInt = 2 * nn ∨ x5.toInt = owSp a2.toInt nn)) → (a2.toInt / 180 ≤ x6.toInt) → (∀ k : Int, a2.toInt / 180 ≤ k → k < x6.toInt → owXk a2.toInt nn st k → ¬ owBk R W (owXf me a2.toInt nn st k)) → 217 - x6.toInt ≤ (n : Int) → J t 87 [(0, .ref (oad E 71)), (3, .int x3), (4, .int x4), (5, .int x5), (6, .int x6)] []) := by
    intro n
    induction n using Nat.strongRecOn with
    | _ n ih =>
      skip
      · intro t x3 x4 x5 x6  iv0 iv1 iv2 iv3 iv4 iv5 iv6 iv7 iv8 iv9 iv10 iv11 iv12 iv13 hmu
        have rx3 := n_rng x3
        have rx4 := n_rng x4
        have rx5 := n_rng x5
        have rx6 := n_rng x6
        refine r_iload C (j := 4) (oDec_at oX12_breachOf 44 rfl) rfl ?_
        refine r_iload C (j := 3) (oDec_at oX12_breachOf 45 rfl) rfl ?_
        refine r_icmp_ge C 124 (oDec_at oX12_breachOf 46 rfl) (by decide) (fun cd1 => ?_) (fun cd1 => ?_)
        · skip
          refine r_iconst C (oDec_at oX12_breachOf 62 rfl) (v := km1) (by rw [qkm1]; rfl) ?_
          exact r_iret C (oDec_at oX12_breachOf 63 rfl) ⟨_, rfl, ⟨by omega, ⟨fun _ k h1 h2 h3 h4 => iv13 k h1 (by omega) h4, fun _ => by omega⟩⟩⟩
        · skip
          refine r_aload_n C (j := 0) (oDec_at oX12_breachOf 47 rfl) rfl rfl ?_
          refine r_aload_n C (j := 0) (oDec_at oX12_breachOf 48 rfl) rfl rfl ?_
          refine r_iload_n C (j := 1) (oDec_at oX12_breachOf 49 rfl) rfl rfl ?_
          refine r_iload C (j := 2) (oDec_at oX12_breachOf 50 rfl) rfl ?_
          refine r_iload C (j := 4) (oDec_at oX12_breachOf 51 rfl) rfl ?_
          refine r_callVi C oCl12 rfl miX12_brokenBy mlX12_466 (ct9_X12_brokenBy l E (t) x3 x4 x6 (nn) (st) (R) (W) (me) (by omega) (by omega) (by omega) iv0 iv5 iv6 iv7 iv8 (by omega) (by omega) (by omega) (by omega) (by omega)) (by decide) rfl rfl rfl (Nat.le_of_ble_eq_true rfl) (oDec_at oX12_breachOf 52 rfl) (fun r3 u2 pu2 fu2 => ?_)
          try dsimp only at pu2
          obtain ⟨pu2_0, pu2_1⟩ := pu2
          have rr3 := n_rng r3
          refine r_pc C 104 rfl ?_
          have hbb9 := pu2_1
          refine r_puti (k := 65) (lo := (-2147483648)) (hi := 2147483647) C oCl12 rfl (by decide) flX12_463 rfl rfl rfl rfl rfl rfl rfl rfl (n_rng _) (oDec_at oX12_breachOf 53 rfl) ?_
          refine r_aload_n C (j := 0) (oDec_at oX12_breachOf 54 rfl) rfl rfl ?_
          refine r_geti (k := 65) (lo := (-2147483648)) (hi := 2147483647) C r3 oCl12 rfl (by decide) flX12_463 rfl rfl ((pI_self _ _ _ _)) rfl rfl (oDec_at oX12_breachOf 55 rfl) (fun _ _ => ?_)
          refine r_iconst C (oDec_at oX12_breachOf 56 rfl) (v := km1) (by rw [qkm1]; rfl) ?_
          refine r_icmp_eq C 118 (oDec_at oX12_breachOf 57 rfl) (by decide) (fun cd4 => ?_) (fun cd4 => ?_)
          · skip
            obtain ⟨v5, ev5⟩ : ∃ z : Int32, x6 + Int32.ofInt 1 = z := ⟨_, rfl⟩
            have hv5 : v5.toInt = x6.toInt + 1 := n_inc ev5 (by decide) (by omega) (by omega)
            refine r_iinc C (j := 4) (lv' := [(0, .ref (oad E 71)), (3, .int x3), (4, .int x4), (5, .int x5), (6, .int v5)]) v5 [1, 2, 3, 4, 0] (oDec_at oX12_breachOf 60 rfl) rfl ev5 (by decide) rfl ?_
            refine r_goto C (tgt := 87) (oDec_at oX12_breachOf 61 rfl) (by decide) ?_
            exact (ih (n - 1) (by omega)) ((pI u2 71 65 r3)) x3 x4 x5 v5  (oBI_fr (oFr_oneI (q := 12) (m := 65) rfl (by rfl)) rfl (oBI_fr fu2 rfl iv0)) (by omega) (by omega) (by omega) (by omega) (owBE_fr (oFr_oneI (q := 12) (m := 65) rfl (by rfl)) rfl (owBE_fr fu2 rfl iv5)) (owMM_fr (oFr_oneI (q := 12) (m := 65) rfl (by rfl)) rfl (owMM_fr fu2 rfl iv6)) (owLO_fr (oFr_oneI (q := 12) (m := 65) rfl (by rfl)) rfl (owLO_fr fu2 rfl iv7)) (owRL_fr (oFr_oneI (q := 12) (m := 65) rfl (by rfl)) rfl (owRL_fr fu2 rfl iv8)) (by omega) (by omega) (by omega) (by omega) (by first | exact owAg_nx iv13 (by have h7 := hbb9; rw [show x4.toInt = a2.toInt by omega] at h7; exact h7) (by omega) (by omega) | (intro k h1 h2; exfalso; omega)) (by omega)
          · skip
            refine r_iload C (j := 4) (oDec_at oX12_breachOf 58 rfl) rfl ?_
            exact r_iret C (oDec_at oX12_breachOf 59 rfl) ⟨_, rfl, ⟨by omega, ⟨fun h9 => by exfalso; omega, fun h9 => by exfalso; have h7 := hbb9; rw [show x4.toInt = a2.toInt by omega] at h7; have h6 := h7.mpr (fun h8 => h9 x6.toInt (by omega) (by omega) (by omega) h8.1 h8.2); omega⟩⟩⟩
  refine r_iload_n C (j := 1) (oDec_at oX12_breachOf 0 rfl) rfl rfl ?_
  refine r_iload_n C (j := 2) (oDec_at oX12_breachOf 1 rfl) rfl rfl ?_
  refine r_callSi C miX12_isFirst mlX12_460 (ct9_X12_isFirst l E (s) a1 a2 ) (by decide) rfl rfl rfl (Nat.le_of_ble_eq_true rfl) (oDec_at oX12_breachOf 2 rfl) (fun r7 u6 pu6 fu6 => ?_)
  try dsimp only at pu6
  obtain ⟨pu6_0, pu6_1⟩ := pu6
  have hxu6 := oFr_nil fu6; subst hxu6
  have rr7 := n_rng r7
  refine r_if_eq C 12 (oDec_at oX12_breachOf 3 rfl) (by decide) (fun cd8 => ?_) (fun cd8 => ?_)
  · skip
    refine r_iload_n C (j := 2) (oDec_at oX12_breachOf 6 rfl) rfl rfl ?_
    refine r_istore_n C (lv' := [(0, .ref (oad E 71)), (1, .int a1), (2, .int a2), (3, .int a2)]) [1, 2, 3, 0] (oDec_at oX12_breachOf 7 rfl) rfl (by decide) rfl ?_
    refine r_iload_n C (j := 3) (oDec_at oX12_breachOf 8 rfl) rfl rfl ?_
    refine r_iload_n C (j := 1) (oDec_at oX12_breachOf 9 rfl) rfl rfl ?_
    refine r_icmp_ne C 23 (oDec_at oX12_breachOf 10 rfl) (by decide) (fun cd9 => ?_) (fun cd9 => ?_)
    · skip
      refine r_iload_n C (j := 1) (oDec_at oX12_breachOf 13 rfl) rfl rfl ?_
      refine r_istore C (lv' := [(0, .ref (oad E 71)), (1, .int a1), (2, .int a2), (3, .int a2), (4, .int a1)]) [1, 2, 3, 4, 0] (oDec_at oX12_breachOf 14 rfl) (by decide) rfl ?_
      refine r_aload_n C (j := 0) (oDec_at oX12_breachOf 15 rfl) rfl rfl ?_
      refine r_iload_n C (j := 3) (oDec_at oX12_breachOf 16 rfl) rfl rfl ?_
      refine r_callVi C oCl12 rfl miX12_overAt mlX12_392 (ct_X12_overAt l E (s) a2 (by omega)) (by decide) rfl rfl rfl (Nat.le_of_ble_eq_true rfl) (oDec_at oX12_breachOf 17 rfl) (fun r11 u10 pu10 fu10 => ?_)
      try dsimp only at pu10
      obtain ⟨pu10_0, pu10_1, pu10_2⟩ := pu10
      have hxu10 := oFr_nil fu10; subst hxu10
      have rr11 := n_rng r11
      have ho1 : r11.toInt = owSp 84 nn := by first | (have h9 := pu10_1; rw [owOv_m (n := nn) ((show owRL nn st (s) from hp6)).1] at h9; rw [h9, show a2.toInt = 84 by omega]) | (exfalso; omega)
      refine r_aload_n C (j := 0) (oDec_at oX12_breachOf 18 rfl) rfl rfl ?_
      refine r_pc C 32 rfl ?_
      refine r_iload C (j := 4) (oDec_at oX12_breachOf 19 rfl) rfl ?_
      refine r_callVi C oCl12 rfl miX12_overAt mlX12_392 (ct_X12_overAt l E (s) a1 (by omega)) (by decide) rfl rfl rfl (Nat.le_of_ble_eq_true rfl) (oDec_at oX12_breachOf 20 rfl) (fun r13 u12 pu12 fu12 => ?_)
      try dsimp only at pu12
      obtain ⟨pu12_0, pu12_1, pu12_2⟩ := pu12
      have hxu12 := oFr_nil fu12; subst hxu12
      have rr13 := n_rng r13
      have ho2 : r13.toInt = owSp a2.toInt nn := by first | (have h9 := pu12_1; rw [owOv_m (n := nn) ((show owRL nn st (s) from hp6)).1] at h9; rw [h9, show a1.toInt = a2.toInt by omega]) | (exfalso; omega)
      refine r_icmp_ge C 48 (oDec_at oX12_breachOf 21 rfl) (by decide) (fun cd14 => ?_) (fun cd14 => ?_)
      · skip
        refine r_aload_n C (j := 0) (oDec_at oX12_breachOf 26 rfl) rfl rfl ?_
        refine r_iload C (j := 4) (oDec_at oX12_breachOf 27 rfl) rfl ?_
        refine r_callVi C oCl12 rfl miX12_overAt mlX12_392 (ct_X12_overAt l E (s) a1 (by omega)) (by decide) rfl rfl rfl (Nat.le_of_ble_eq_true rfl) (oDec_at oX12_breachOf 28 rfl) (fun r16 u15 pu15 fu15 => ?_)
        try dsimp only at pu15
        obtain ⟨pu15_0, pu15_1, pu15_2⟩ := pu15
        have hxu15 := oFr_nil fu15; subst hxu15
        have rr16 := n_rng r16
        have hov9 : r16.toInt = owSp 84 nn ∨ r16.toInt = owSp a2.toInt nn := by first | omega | (right; have h9 := pu15_1; rw [owOv_m (n := nn) ((show owRL nn st (s) from hp6)).1] at h9; rw [h9, show a1.toInt = a2.toInt by omega]) | (exfalso; omega)
        refine r_istore C (lv' := [(0, .ref (oad E 71)), (1, .int a1), (2, .int a2), (3, .int a2), (4, .int a1), (5, .int r16)]) [1, 2, 3, 4, 5, 0] (oDec_at oX12_breachOf 29 rfl) (by decide) rfl ?_
        refine r_aload_n C (j := 0) (oDec_at oX12_breachOf 30 rfl) rfl rfl ?_
        refine r_iconst C (oDec_at oX12_breachOf 31 rfl) (v := km1) (by rw [qkm1]; rfl) ?_
        refine r_pc C 58 rfl ?_
        refine r_puti (k := 65) (lo := (-2147483648)) (hi := 2147483647) C oCl12 rfl (by decide) flX12_463 rfl rfl rfl rfl rfl rfl rfl rfl (n_rng _) (oDec_at oX12_breachOf 32 rfl) ?_
        refine r_iload_n C (j := 3) (oDec_at oX12_breachOf 33 rfl) rfl rfl ?_
        refine r_callSi C miX12_delayOf mlX12_389 (ct_X12_delayOf l E ((pI s 71 65 km1)) a2 (by omega)) (by decide) rfl rfl rfl (Nat.le_of_ble_eq_true rfl) (oDec_at oX12_breachOf 34 rfl) (fun r18 u17 pu17 fu17 => ?_)
        try dsimp only at pu17
        have hxu17 := oFr_nil fu17; subst hxu17
        have rr18 := n_rng r18
        refine r_iload C (j := 4) (oDec_at oX12_breachOf 35 rfl) rfl ?_
        refine r_callSi C miX12_delayOf mlX12_389 (ct_X12_delayOf l E ((pI s 71 65 km1)) a1 (by omega)) (by decide) rfl rfl rfl (Nat.le_of_ble_eq_true rfl) (oDec_at oX12_breachOf 36 rfl) (fun r20 u19 pu19 fu19 => ?_)
        try dsimp only at pu19
        have hxu19 := oFr_nil fu19; subst hxu19
        have rr20 := n_rng r20
        refine r_icmp_le C 80 (oDec_at oX12_breachOf 37 rfl) (by decide) (fun cd21 => ?_) (fun cd21 => ?_)
        · skip
          refine r_iload C (j := 4) (oDec_at oX12_breachOf 41 rfl) rfl ?_
          refine r_callSi C miX12_delayOf mlX12_389 (ct_X12_delayOf l E ((pI s 71 65 km1)) a1 (by omega)) (by decide) rfl rfl rfl (Nat.le_of_ble_eq_true rfl) (oDec_at oX12_breachOf 42 rfl) (fun r23 u22 pu22 fu22 => ?_)
          try dsimp only at pu22
          have hxu22 := oFr_nil fu22; subst hxu22
          have rr23 := n_rng r23
          refine r_istore C (lv' := [(0, .ref (oad E 71)), (1, .int a1), (2, .int a2), (3, .int a2), (4, .int a1), (5, .int r16), (6, .int r23)]) [1, 2, 3, 4, 5, 6, 0] (oDec_at oX12_breachOf 43 rfl) (by decide) rfl ?_
          refine r_pick C [0, 3, 4, 5, 6] rfl ?_
          exact (key (217 - r23.toInt).toNat) ((pI s 71 65 km1)) a2 a1 r16 r23  (oBI_fr (oFr_oneI (q := 12) (m := 65) rfl (by rfl)) rfl hp2) (by omega) (by omega) (by omega) (by omega) (owBE_fr (oFr_oneI (q := 12) (m := 65) rfl (by rfl)) rfl hp3) (owMM_fr (oFr_oneI (q := 12) (m := 65) rfl (by rfl)) rfl hp4) (owLO_fr (oFr_oneI (q := 12) (m := 65) rfl (by rfl)) rfl hp5) (owRL_fr (oFr_oneI (q := 12) (m := 65) rfl (by rfl)) rfl hp6) (by omega) (by omega) (by omega) (by omega) (by first | (intro k h1 h2; exfalso; omega)) (by omega)
        · skip
          refine r_iload_n C (j := 3) (oDec_at oX12_breachOf 38 rfl) rfl rfl ?_
          refine r_callSi C miX12_delayOf mlX12_389 (ct_X12_delayOf l E ((pI s 71 65 km1)) a2 (by omega)) (by decide) rfl rfl rfl (Nat.le_of_ble_eq_true rfl) (oDec_at oX12_breachOf 39 rfl) (fun r25 u24 pu24 fu24 => ?_)
          try dsimp only at pu24
          have hxu24 := oFr_nil fu24; subst hxu24
          have rr25 := n_rng r25
          refine r_goto C (tgt := 85) (oDec_at oX12_breachOf 40 rfl) (by decide) ?_
          refine r_istore C (lv' := [(0, .ref (oad E 71)), (1, .int a1), (2, .int a2), (3, .int a2), (4, .int a1), (5, .int r16), (6, .int r25)]) [1, 2, 3, 4, 5, 6, 0] (oDec_at oX12_breachOf 43 rfl) (by decide) rfl ?_
          refine r_pick C [0, 3, 4, 5, 6] rfl ?_
          exact (key (217 - r25.toInt).toNat) ((pI s 71 65 km1)) a2 a1 r16 r25  (oBI_fr (oFr_oneI (q := 12) (m := 65) rfl (by rfl)) rfl hp2) (by omega) (by omega) (by omega) (by omega) (owBE_fr (oFr_oneI (q := 12) (m := 65) rfl (by rfl)) rfl hp3) (owMM_fr (oFr_oneI (q := 12) (m := 65) rfl (by rfl)) rfl hp4) (owLO_fr (oFr_oneI (q := 12) (m := 65) rfl (by rfl)) rfl hp5) (owRL_fr (oFr_oneI (q := 12) (m := 65) rfl (by rfl)) rfl hp6) (by omega) (by omega) (by omega) (by omega) (by first | (intro k h1 h2; exfalso; omega)) (by omega)
      · skip
        refine r_aload_n C (j := 0) (oDec_at oX12_breachOf 22 rfl) rfl rfl ?_
        refine r_iload_n C (j := 3) (oDec_at oX12_breachOf 23 rfl) rfl rfl ?_
        refine r_callVi C oCl12 rfl miX12_overAt mlX12_392 (ct_X12_overAt l E (s) a2 (by omega)) (by decide) rfl rfl rfl (Nat.le_of_ble_eq_true rfl) (oDec_at oX12_breachOf 24 rfl) (fun r27 u26 pu26 fu26 => ?_)
        try dsimp only at pu26
        obtain ⟨pu26_0, pu26_1, pu26_2⟩ := pu26
        have hxu26 := oFr_nil fu26; subst hxu26
        have rr27 := n_rng r27
        have ho3 : r27.toInt = owSp 84 nn := by first | (have h9 := pu26_1; rw [owOv_m (n := nn) ((show owRL nn st (s) from hp6)).1] at h9; rw [h9, show a2.toInt = 84 by omega]) | (exfalso; omega)
        refine r_goto C (tgt := 54) (oDec_at oX12_breachOf 25 rfl) (by decide) ?_
        have hov9 : r27.toInt = owSp 84 nn ∨ r27.toInt = owSp a2.toInt nn := by first | omega | (right; have h9 := pu26_1; rw [owOv_m (n := nn) ((show owRL nn st (s) from hp6)).1] at h9; rw [h9, show a1.toInt = a2.toInt by omega]) | (exfalso; omega)
        refine r_istore C (lv' := [(0, .ref (oad E 71)), (1, .int a1), (2, .int a2), (3, .int a2), (4, .int a1), (5, .int r27)]) [1, 2, 3, 4, 5, 0] (oDec_at oX12_breachOf 29 rfl) (by decide) rfl ?_
        refine r_aload_n C (j := 0) (oDec_at oX12_breachOf 30 rfl) rfl rfl ?_
        refine r_iconst C (oDec_at oX12_breachOf 31 rfl) (v := km1) (by rw [qkm1]; rfl) ?_
        refine r_pc C 58 rfl ?_
        refine r_puti (k := 65) (lo := (-2147483648)) (hi := 2147483647) C oCl12 rfl (by decide) flX12_463 rfl rfl rfl rfl rfl rfl rfl rfl (n_rng _) (oDec_at oX12_breachOf 32 rfl) ?_
        refine r_iload_n C (j := 3) (oDec_at oX12_breachOf 33 rfl) rfl rfl ?_
        refine r_callSi C miX12_delayOf mlX12_389 (ct_X12_delayOf l E ((pI s 71 65 km1)) a2 (by omega)) (by decide) rfl rfl rfl (Nat.le_of_ble_eq_true rfl) (oDec_at oX12_breachOf 34 rfl) (fun r29 u28 pu28 fu28 => ?_)
        try dsimp only at pu28
        have hxu28 := oFr_nil fu28; subst hxu28
        have rr29 := n_rng r29
        refine r_iload C (j := 4) (oDec_at oX12_breachOf 35 rfl) rfl ?_
        refine r_callSi C miX12_delayOf mlX12_389 (ct_X12_delayOf l E ((pI s 71 65 km1)) a1 (by omega)) (by decide) rfl rfl rfl (Nat.le_of_ble_eq_true rfl) (oDec_at oX12_breachOf 36 rfl) (fun r31 u30 pu30 fu30 => ?_)
        try dsimp only at pu30
        have hxu30 := oFr_nil fu30; subst hxu30
        have rr31 := n_rng r31
        refine r_icmp_le C 80 (oDec_at oX12_breachOf 37 rfl) (by decide) (fun cd32 => ?_) (fun cd32 => ?_)
        · skip
          refine r_iload C (j := 4) (oDec_at oX12_breachOf 41 rfl) rfl ?_
          refine r_callSi C miX12_delayOf mlX12_389 (ct_X12_delayOf l E ((pI s 71 65 km1)) a1 (by omega)) (by decide) rfl rfl rfl (Nat.le_of_ble_eq_true rfl) (oDec_at oX12_breachOf 42 rfl) (fun r34 u33 pu33 fu33 => ?_)
          try dsimp only at pu33
          have hxu33 := oFr_nil fu33; subst hxu33
          have rr34 := n_rng r34
          refine r_istore C (lv' := [(0, .ref (oad E 71)), (1, .int a1), (2, .int a2), (3, .int a2), (4, .int a1), (5, .int r27), (6, .int r34)]) [1, 2, 3, 4, 5, 6, 0] (oDec_at oX12_breachOf 43 rfl) (by decide) rfl ?_
          refine r_pick C [0, 3, 4, 5, 6] rfl ?_
          exact (key (217 - r34.toInt).toNat) ((pI s 71 65 km1)) a2 a1 r27 r34  (oBI_fr (oFr_oneI (q := 12) (m := 65) rfl (by rfl)) rfl hp2) (by omega) (by omega) (by omega) (by omega) (owBE_fr (oFr_oneI (q := 12) (m := 65) rfl (by rfl)) rfl hp3) (owMM_fr (oFr_oneI (q := 12) (m := 65) rfl (by rfl)) rfl hp4) (owLO_fr (oFr_oneI (q := 12) (m := 65) rfl (by rfl)) rfl hp5) (owRL_fr (oFr_oneI (q := 12) (m := 65) rfl (by rfl)) rfl hp6) (by omega) (by omega) (by omega) (by omega) (by first | (intro k h1 h2; exfalso; omega)) (by omega)
        · skip
          refine r_iload_n C (j := 3) (oDec_at oX12_breachOf 38 rfl) rfl rfl ?_
          refine r_callSi C miX12_delayOf mlX12_389 (ct_X12_delayOf l E ((pI s 71 65 km1)) a2 (by omega)) (by decide) rfl rfl rfl (Nat.le_of_ble_eq_true rfl) (oDec_at oX12_breachOf 39 rfl) (fun r36 u35 pu35 fu35 => ?_)
          try dsimp only at pu35
          have hxu35 := oFr_nil fu35; subst hxu35
          have rr36 := n_rng r36
          refine r_goto C (tgt := 85) (oDec_at oX12_breachOf 40 rfl) (by decide) ?_
          refine r_istore C (lv' := [(0, .ref (oad E 71)), (1, .int a1), (2, .int a2), (3, .int a2), (4, .int a1), (5, .int r27), (6, .int r36)]) [1, 2, 3, 4, 5, 6, 0] (oDec_at oX12_breachOf 43 rfl) (by decide) rfl ?_
          refine r_pick C [0, 3, 4, 5, 6] rfl ?_
          exact (key (217 - r36.toInt).toNat) ((pI s 71 65 km1)) a2 a1 r27 r36  (oBI_fr (oFr_oneI (q := 12) (m := 65) rfl (by rfl)) rfl hp2) (by omega) (by omega) (by omega) (by omega) (owBE_fr (oFr_oneI (q := 12) (m := 65) rfl (by rfl)) rfl hp3) (owMM_fr (oFr_oneI (q := 12) (m := 65) rfl (by rfl)) rfl hp4) (owLO_fr (oFr_oneI (q := 12) (m := 65) rfl (by rfl)) rfl hp5) (owRL_fr (oFr_oneI (q := 12) (m := 65) rfl (by rfl)) rfl hp6) (by omega) (by omega) (by omega) (by omega) (by first | (intro k h1 h2; exfalso; omega)) (by omega)
    · skip
      refine r_iload_n C (j := 2) (oDec_at oX12_breachOf 11 rfl) rfl rfl ?_
      refine r_goto C (tgt := 24) (oDec_at oX12_breachOf 12 rfl) (by decide) ?_
      refine r_istore C (lv' := [(0, .ref (oad E 71)), (1, .int a1), (2, .int a2), (3, .int a2), (4, .int a2)]) [1, 2, 3, 4, 0] (oDec_at oX12_breachOf 14 rfl) (by decide) rfl ?_
      refine r_aload_n C (j := 0) (oDec_at oX12_breachOf 15 rfl) rfl rfl ?_
      refine r_iload_n C (j := 3) (oDec_at oX12_breachOf 16 rfl) rfl rfl ?_
      refine r_callVi C oCl12 rfl miX12_overAt mlX12_392 (ct_X12_overAt l E (s) a2 (by omega)) (by decide) rfl rfl rfl (Nat.le_of_ble_eq_true rfl) (oDec_at oX12_breachOf 17 rfl) (fun r38 u37 pu37 fu37 => ?_)
      try dsimp only at pu37
      obtain ⟨pu37_0, pu37_1, pu37_2⟩ := pu37
      have hxu37 := oFr_nil fu37; subst hxu37
      have rr38 := n_rng r38
      have ho1 : r38.toInt = owSp 84 nn := by first | (have h9 := pu37_1; rw [owOv_m (n := nn) ((show owRL nn st (s) from hp6)).1] at h9; rw [h9, show a2.toInt = 84 by omega]) | (exfalso; omega)
      refine r_aload_n C (j := 0) (oDec_at oX12_breachOf 18 rfl) rfl rfl ?_
      refine r_pc C 32 rfl ?_
      refine r_iload C (j := 4) (oDec_at oX12_breachOf 19 rfl) rfl ?_
      refine r_callVi C oCl12 rfl miX12_overAt mlX12_392 (ct_X12_overAt l E (s) a2 (by omega)) (by decide) rfl rfl rfl (Nat.le_of_ble_eq_true rfl) (oDec_at oX12_breachOf 20 rfl) (fun r40 u39 pu39 fu39 => ?_)
      try dsimp only at pu39
      obtain ⟨pu39_0, pu39_1, pu39_2⟩ := pu39
      have hxu39 := oFr_nil fu39; subst hxu39
      have rr40 := n_rng r40
      have ho2 : r40.toInt = owSp a2.toInt nn := by first | (have h9 := pu39_1; rw [owOv_m (n := nn) ((show owRL nn st (s) from hp6)).1] at h9; rw [h9, show a2.toInt = a2.toInt by omega]) | (exfalso; omega)
      refine r_icmp_ge C 48 (oDec_at oX12_breachOf 21 rfl) (by decide) (fun cd41 => ?_) (fun cd41 => ?_)
      · skip
        refine r_aload_n C (j := 0) (oDec_at oX12_breachOf 26 rfl) rfl rfl ?_
        refine r_iload C (j := 4) (oDec_at oX12_breachOf 27 rfl) rfl ?_
        refine r_callVi C oCl12 rfl miX12_overAt mlX12_392 (ct_X12_overAt l E (s) a2 (by omega)) (by decide) rfl rfl rfl (Nat.le_of_ble_eq_true rfl) (oDec_at oX12_breachOf 28 rfl) (fun r43 u42 pu42 fu42 => ?_)
        try dsimp only at pu42
        obtain ⟨pu42_0, pu42_1, pu42_2⟩ := pu42
        have hxu42 := oFr_nil fu42; subst hxu42
        have rr43 := n_rng r43
        have hov9 : r43.toInt = owSp 84 nn ∨ r43.toInt = owSp a2.toInt nn := by first | omega | (right; have h9 := pu42_1; rw [owOv_m (n := nn) ((show owRL nn st (s) from hp6)).1] at h9; rw [h9, show a2.toInt = a2.toInt by omega]) | (exfalso; omega)
        refine r_istore C (lv' := [(0, .ref (oad E 71)), (1, .int a1), (2, .int a2), (3, .int a2), (4, .int a2), (5, .int r43)]) [1, 2, 3, 4, 5, 0] (oDec_at oX12_breachOf 29 rfl) (by decide) rfl ?_
        refine r_aload_n C (j := 0) (oDec_at oX12_breachOf 30 rfl) rfl rfl ?_
        refine r_iconst C (oDec_at oX12_breachOf 31 rfl) (v := km1) (by rw [qkm1]; rfl) ?_
        refine r_pc C 58 rfl ?_
        refine r_puti (k := 65) (lo := (-2147483648)) (hi := 2147483647) C oCl12 rfl (by decide) flX12_463 rfl rfl rfl rfl rfl rfl rfl rfl (n_rng _) (oDec_at oX12_breachOf 32 rfl) ?_
        refine r_iload_n C (j := 3) (oDec_at oX12_breachOf 33 rfl) rfl rfl ?_
        refine r_callSi C miX12_delayOf mlX12_389 (ct_X12_delayOf l E ((pI s 71 65 km1)) a2 (by omega)) (by decide) rfl rfl rfl (Nat.le_of_ble_eq_true rfl) (oDec_at oX12_breachOf 34 rfl) (fun r45 u44 pu44 fu44 => ?_)
        try dsimp only at pu44
        have hxu44 := oFr_nil fu44; subst hxu44
        have rr45 := n_rng r45
        refine r_iload C (j := 4) (oDec_at oX12_breachOf 35 rfl) rfl ?_
        refine r_callSi C miX12_delayOf mlX12_389 (ct_X12_delayOf l E ((pI s 71 65 km1)) a2 (by omega)) (by decide) rfl rfl rfl (Nat.le_of_ble_eq_true rfl) (oDec_at oX12_breachOf 36 rfl) (fun r47 u46 pu46 fu46 => ?_)
        try dsimp only at pu46
        have hxu46 := oFr_nil fu46; subst hxu46
        have rr47 := n_rng r47
        refine r_icmp_le C 80 (oDec_at oX12_breachOf 37 rfl) (by decide) (fun cd48 => ?_) (fun cd48 => ?_)
        · skip
          refine r_iload C (j := 4) (oDec_at oX12_breachOf 41 rfl) rfl ?_
          refine r_callSi C miX12_delayOf mlX12_389 (ct_X12_delayOf l E ((pI s 71 65 km1)) a2 (by omega)) (by decide) rfl rfl rfl (Nat.le_of_ble_eq_true rfl) (oDec_at oX12_breachOf 42 rfl) (fun r50 u49 pu49 fu49 => ?_)
          try dsimp only at pu49
          have hxu49 := oFr_nil fu49; subst hxu49
          have rr50 := n_rng r50
          refine r_istore C (lv' := [(0, .ref (oad E 71)), (1, .int a1), (2, .int a2), (3, .int a2), (4, .int a2), (5, .int r43), (6, .int r50)]) [1, 2, 3, 4, 5, 6, 0] (oDec_at oX12_breachOf 43 rfl) (by decide) rfl ?_
          refine r_pick C [0, 3, 4, 5, 6] rfl ?_
          exact (key (217 - r50.toInt).toNat) ((pI s 71 65 km1)) a2 a2 r43 r50  (oBI_fr (oFr_oneI (q := 12) (m := 65) rfl (by rfl)) rfl hp2) (by omega) (by omega) (by omega) (by omega) (owBE_fr (oFr_oneI (q := 12) (m := 65) rfl (by rfl)) rfl hp3) (owMM_fr (oFr_oneI (q := 12) (m := 65) rfl (by rfl)) rfl hp4) (owLO_fr (oFr_oneI (q := 12) (m := 65) rfl (by rfl)) rfl hp5) (owRL_fr (oFr_oneI (q := 12) (m := 65) rfl (by rfl)) rfl hp6) (by omega) (by omega) (by omega) (by omega) (by first | (intro k h1 h2; exfalso; omega)) (by omega)
        · skip
          refine r_iload_n C (j := 3) (oDec_at oX12_breachOf 38 rfl) rfl rfl ?_
          refine r_callSi C miX12_delayOf mlX12_389 (ct_X12_delayOf l E ((pI s 71 65 km1)) a2 (by omega)) (by decide) rfl rfl rfl (Nat.le_of_ble_eq_true rfl) (oDec_at oX12_breachOf 39 rfl) (fun r52 u51 pu51 fu51 => ?_)
          try dsimp only at pu51
          have hxu51 := oFr_nil fu51; subst hxu51
          have rr52 := n_rng r52
          refine r_goto C (tgt := 85) (oDec_at oX12_breachOf 40 rfl) (by decide) ?_
          refine r_istore C (lv' := [(0, .ref (oad E 71)), (1, .int a1), (2, .int a2), (3, .int a2), (4, .int a2), (5, .int r43), (6, .int r52)]) [1, 2, 3, 4, 5, 6, 0] (oDec_at oX12_breachOf 43 rfl) (by decide) rfl ?_
          refine r_pick C [0, 3, 4, 5, 6] rfl ?_
          exact (key (217 - r52.toInt).toNat) ((pI s 71 65 km1)) a2 a2 r43 r52  (oBI_fr (oFr_oneI (q := 12) (m := 65) rfl (by rfl)) rfl hp2) (by omega) (by omega) (by omega) (by omega) (owBE_fr (oFr_oneI (q := 12) (m := 65) rfl (by rfl)) rfl hp3) (owMM_fr (oFr_oneI (q := 12) (m := 65) rfl (by rfl)) rfl hp4) (owLO_fr (oFr_oneI (q := 12) (m := 65) rfl (by rfl)) rfl hp5) (owRL_fr (oFr_oneI (q := 12) (m := 65) rfl (by rfl)) rfl hp6) (by omega) (by omega) (by omega) (by omega) (by first | (intro k h1 h2; exfalso; omega)) (by omega)
      · skip
        refine r_aload_n C (j := 0) (oDec_at oX12_breachOf 22 rfl) rfl rfl ?_
        refine r_iload_n C (j := 3) (oDec_at oX12_breachOf 23 rfl) rfl rfl ?_
        refine r_callVi C oCl12 rfl miX12_overAt mlX12_392 (ct_X12_overAt l E (s) a2 (by omega)) (by decide) rfl rfl rfl (Nat.le_of_ble_eq_true rfl) (oDec_at oX12_breachOf 24 rfl) (fun r54 u53 pu53 fu53 => ?_)
        try dsimp only at pu53
        obtain ⟨pu53_0, pu53_1, pu53_2⟩ := pu53
        have hxu53 := oFr_nil fu53; subst hxu53
        have rr54 := n_rng r54
        have ho3 : r54.toInt = owSp 84 nn := by first | (have h9 := pu53_1; rw [owOv_m (n := nn) ((show owRL nn st (s) from hp6)).1] at h9; rw [h9, show a2.toInt = 84 by omega]) | (exfalso; omega)
        refine r_goto C (tgt := 54) (oDec_at oX12_breachOf 25 rfl) (by decide) ?_
        have hov9 : r54.toInt = owSp 84 nn ∨ r54.toInt = owSp a2.toInt nn := by first | omega | (right; have h9 := pu53_1; rw [owOv_m (n := nn) ((show owRL nn st (s) from hp6)).1] at h9; rw [h9, show a2.toInt = a2.toInt by omega]) | (exfalso; omega)
        refine r_istore C (lv' := [(0, .ref (oad E 71)), (1, .int a1), (2, .int a2), (3, .int a2), (4, .int a2), (5, .int r54)]) [1, 2, 3, 4, 5, 0] (oDec_at oX12_breachOf 29 rfl) (by decide) rfl ?_
        refine r_aload_n C (j := 0) (oDec_at oX12_breachOf 30 rfl) rfl rfl ?_
        refine r_iconst C (oDec_at oX12_breachOf 31 rfl) (v := km1) (by rw [qkm1]; rfl) ?_
        refine r_pc C 58 rfl ?_
        refine r_puti (k := 65) (lo := (-2147483648)) (hi := 2147483647) C oCl12 rfl (by decide) flX12_463 rfl rfl rfl rfl rfl rfl rfl rfl (n_rng _) (oDec_at oX12_breachOf 32 rfl) ?_
        refine r_iload_n C (j := 3) (oDec_at oX12_breachOf 33 rfl) rfl rfl ?_
        refine r_callSi C miX12_delayOf mlX12_389 (ct_X12_delayOf l E ((pI s 71 65 km1)) a2 (by omega)) (by decide) rfl rfl rfl (Nat.le_of_ble_eq_true rfl) (oDec_at oX12_breachOf 34 rfl) (fun r56 u55 pu55 fu55 => ?_)
        try dsimp only at pu55
        have hxu55 := oFr_nil fu55; subst hxu55
        have rr56 := n_rng r56
        refine r_iload C (j := 4) (oDec_at oX12_breachOf 35 rfl) rfl ?_
        refine r_callSi C miX12_delayOf mlX12_389 (ct_X12_delayOf l E ((pI s 71 65 km1)) a2 (by omega)) (by decide) rfl rfl rfl (Nat.le_of_ble_eq_true rfl) (oDec_at oX12_breachOf 36 rfl) (fun r58 u57 pu57 fu57 => ?_)
        try dsimp only at pu57
        have hxu57 := oFr_nil fu57; subst hxu57
        have rr58 := n_rng r58
        refine r_icmp_le C 80 (oDec_at oX12_breachOf 37 rfl) (by decide) (fun cd59 => ?_) (fun cd59 => ?_)
        · skip
          refine r_iload C (j := 4) (oDec_at oX12_breachOf 41 rfl) rfl ?_
          refine r_callSi C miX12_delayOf mlX12_389 (ct_X12_delayOf l E ((pI s 71 65 km1)) a2 (by omega)) (by decide) rfl rfl rfl (Nat.le_of_ble_eq_true rfl) (oDec_at oX12_breachOf 42 rfl) (fun r61 u60 pu60 fu60 => ?_)
          try dsimp only at pu60
          have hxu60 := oFr_nil fu60; subst hxu60
          have rr61 := n_rng r61
          refine r_istore C (lv' := [(0, .ref (oad E 71)), (1, .int a1), (2, .int a2), (3, .int a2), (4, .int a2), (5, .int r54), (6, .int r61)]) [1, 2, 3, 4, 5, 6, 0] (oDec_at oX12_breachOf 43 rfl) (by decide) rfl ?_
          refine r_pick C [0, 3, 4, 5, 6] rfl ?_
          exact (key (217 - r61.toInt).toNat) ((pI s 71 65 km1)) a2 a2 r54 r61  (oBI_fr (oFr_oneI (q := 12) (m := 65) rfl (by rfl)) rfl hp2) (by omega) (by omega) (by omega) (by omega) (owBE_fr (oFr_oneI (q := 12) (m := 65) rfl (by rfl)) rfl hp3) (owMM_fr (oFr_oneI (q := 12) (m := 65) rfl (by rfl)) rfl hp4) (owLO_fr (oFr_oneI (q := 12) (m := 65) rfl (by rfl)) rfl hp5) (owRL_fr (oFr_oneI (q := 12) (m := 65) rfl (by rfl)) rfl hp6) (by omega) (by omega) (by omega) (by omega) (by first | (intro k h1 h2; exfalso; omega)) (by omega)
        · skip
          refine r_iload_n C (j := 3) (oDec_at oX12_breachOf 38 rfl) rfl rfl ?_
          refine r_callSi C miX12_delayOf mlX12_389 (ct_X12_delayOf l E ((pI s 71 65 km1)) a2 (by omega)) (by decide) rfl rfl rfl (Nat.le_of_ble_eq_true rfl) (oDec_at oX12_breachOf 39 rfl) (fun r63 u62 pu62 fu62 => ?_)
          try dsimp only at pu62
          have hxu62 := oFr_nil fu62; subst hxu62
          have rr63 := n_rng r63
          refine r_goto C (tgt := 85) (oDec_at oX12_breachOf 40 rfl) (by decide) ?_
          refine r_istore C (lv' := [(0, .ref (oad E 71)), (1, .int a1), (2, .int a2), (3, .int a2), (4, .int a2), (5, .int r54), (6, .int r63)]) [1, 2, 3, 4, 5, 6, 0] (oDec_at oX12_breachOf 43 rfl) (by decide) rfl ?_
          refine r_pick C [0, 3, 4, 5, 6] rfl ?_
          exact (key (217 - r63.toInt).toNat) ((pI s 71 65 km1)) a2 a2 r54 r63  (oBI_fr (oFr_oneI (q := 12) (m := 65) rfl (by rfl)) rfl hp2) (by omega) (by omega) (by omega) (by omega) (owBE_fr (oFr_oneI (q := 12) (m := 65) rfl (by rfl)) rfl hp3) (owMM_fr (oFr_oneI (q := 12) (m := 65) rfl (by rfl)) rfl hp4) (owLO_fr (oFr_oneI (q := 12) (m := 65) rfl (by rfl)) rfl hp5) (owRL_fr (oFr_oneI (q := 12) (m := 65) rfl (by rfl)) rfl hp6) (by omega) (by omega) (by omega) (by omega) (by first | (intro k h1 h2; exfalso; omega)) (by omega)
  · skip
    refine r_iload_n C (j := 1) (oDec_at oX12_breachOf 4 rfl) rfl rfl ?_
    refine r_goto C (tgt := 13) (oDec_at oX12_breachOf 5 rfl) (by decide) ?_
    refine r_istore_n C (lv' := [(0, .ref (oad E 71)), (1, .int a1), (2, .int a2), (3, .int a1)]) [1, 2, 3, 0] (oDec_at oX12_breachOf 7 rfl) rfl (by decide) rfl ?_
    refine r_iload_n C (j := 3) (oDec_at oX12_breachOf 8 rfl) rfl rfl ?_
    refine r_iload_n C (j := 1) (oDec_at oX12_breachOf 9 rfl) rfl rfl ?_
    refine r_icmp_ne C 23 (oDec_at oX12_breachOf 10 rfl) (by decide) (fun cd64 => ?_) (fun cd64 => ?_)
    · skip
      refine r_iload_n C (j := 1) (oDec_at oX12_breachOf 13 rfl) rfl rfl ?_
      refine r_istore C (lv' := [(0, .ref (oad E 71)), (1, .int a1), (2, .int a2), (3, .int a1), (4, .int a1)]) [1, 2, 3, 4, 0] (oDec_at oX12_breachOf 14 rfl) (by decide) rfl ?_
      refine r_aload_n C (j := 0) (oDec_at oX12_breachOf 15 rfl) rfl rfl ?_
      refine r_iload_n C (j := 3) (oDec_at oX12_breachOf 16 rfl) rfl rfl ?_
      refine r_callVi C oCl12 rfl miX12_overAt mlX12_392 (ct_X12_overAt l E (s) a1 (by omega)) (by decide) rfl rfl rfl (Nat.le_of_ble_eq_true rfl) (oDec_at oX12_breachOf 17 rfl) (fun r66 u65 pu65 fu65 => ?_)
      try dsimp only at pu65
      obtain ⟨pu65_0, pu65_1, pu65_2⟩ := pu65
      have hxu65 := oFr_nil fu65; subst hxu65
      have rr66 := n_rng r66
      have ho1 : r66.toInt = owSp 84 nn := by first | (have h9 := pu65_1; rw [owOv_m (n := nn) ((show owRL nn st (s) from hp6)).1] at h9; rw [h9, show a1.toInt = 84 by omega]) | (exfalso; omega)
      refine r_aload_n C (j := 0) (oDec_at oX12_breachOf 18 rfl) rfl rfl ?_
      refine r_pc C 32 rfl ?_
      refine r_iload C (j := 4) (oDec_at oX12_breachOf 19 rfl) rfl ?_
      refine r_callVi C oCl12 rfl miX12_overAt mlX12_392 (ct_X12_overAt l E (s) a1 (by omega)) (by decide) rfl rfl rfl (Nat.le_of_ble_eq_true rfl) (oDec_at oX12_breachOf 20 rfl) (fun r68 u67 pu67 fu67 => ?_)
      try dsimp only at pu67
      obtain ⟨pu67_0, pu67_1, pu67_2⟩ := pu67
      have hxu67 := oFr_nil fu67; subst hxu67
      have rr68 := n_rng r68
      have ho2 : r68.toInt = owSp a2.toInt nn := by first | (have h9 := pu67_1; rw [owOv_m (n := nn) ((show owRL nn st (s) from hp6)).1] at h9; rw [h9, show a1.toInt = a2.toInt by omega]) | (exfalso; omega)
      refine r_icmp_ge C 48 (oDec_at oX12_breachOf 21 rfl) (by decide) (fun cd69 => ?_) (fun cd69 => ?_)
      · skip
        refine r_aload_n C (j := 0) (oDec_at oX12_breachOf 26 rfl) rfl rfl ?_
        refine r_iload C (j := 4) (oDec_at oX12_breachOf 27 rfl) rfl ?_
        refine r_callVi C oCl12 rfl miX12_overAt mlX12_392 (ct_X12_overAt l E (s) a1 (by omega)) (by decide) rfl rfl rfl (Nat.le_of_ble_eq_true rfl) (oDec_at oX12_breachOf 28 rfl) (fun r71 u70 pu70 fu70 => ?_)
        try dsimp only at pu70
        obtain ⟨pu70_0, pu70_1, pu70_2⟩ := pu70
        have hxu70 := oFr_nil fu70; subst hxu70
        have rr71 := n_rng r71
        have hov9 : r71.toInt = owSp 84 nn ∨ r71.toInt = owSp a2.toInt nn := by first | omega | (right; have h9 := pu70_1; rw [owOv_m (n := nn) ((show owRL nn st (s) from hp6)).1] at h9; rw [h9, show a1.toInt = a2.toInt by omega]) | (exfalso; omega)
        refine r_istore C (lv' := [(0, .ref (oad E 71)), (1, .int a1), (2, .int a2), (3, .int a1), (4, .int a1), (5, .int r71)]) [1, 2, 3, 4, 5, 0] (oDec_at oX12_breachOf 29 rfl) (by decide) rfl ?_
        refine r_aload_n C (j := 0) (oDec_at oX12_breachOf 30 rfl) rfl rfl ?_
        refine r_iconst C (oDec_at oX12_breachOf 31 rfl) (v := km1) (by rw [qkm1]; rfl) ?_
        refine r_pc C 58 rfl ?_
        refine r_puti (k := 65) (lo := (-2147483648)) (hi := 2147483647) C oCl12 rfl (by decide) flX12_463 rfl rfl rfl rfl rfl rfl rfl rfl (n_rng _) (oDec_at oX12_breachOf 32 rfl) ?_
        refine r_iload_n C (j := 3) (oDec_at oX12_breachOf 33 rfl) rfl rfl ?_
        refine r_callSi C miX12_delayOf mlX12_389 (ct_X12_delayOf l E ((pI s 71 65 km1)) a1 (by omega)) (by decide) rfl rfl rfl (Nat.le_of_ble_eq_true rfl) (oDec_at oX12_breachOf 34 rfl) (fun r73 u72 pu72 fu72 => ?_)
        try dsimp only at pu72
        have hxu72 := oFr_nil fu72; subst hxu72
        have rr73 := n_rng r73
        refine r_iload C (j := 4) (oDec_at oX12_breachOf 35 rfl) rfl ?_
        refine r_callSi C miX12_delayOf mlX12_389 (ct_X12_delayOf l E ((pI s 71 65 km1)) a1 (by omega)) (by decide) rfl rfl rfl (Nat.le_of_ble_eq_true rfl) (oDec_at oX12_breachOf 36 rfl) (fun r75 u74 pu74 fu74 => ?_)
        try dsimp only at pu74
        have hxu74 := oFr_nil fu74; subst hxu74
        have rr75 := n_rng r75
        refine r_icmp_le C 80 (oDec_at oX12_breachOf 37 rfl) (by decide) (fun cd76 => ?_) (fun cd76 => ?_)
        · skip
          refine r_iload C (j := 4) (oDec_at oX12_breachOf 41 rfl) rfl ?_
          refine r_callSi C miX12_delayOf mlX12_389 (ct_X12_delayOf l E ((pI s 71 65 km1)) a1 (by omega)) (by decide) rfl rfl rfl (Nat.le_of_ble_eq_true rfl) (oDec_at oX12_breachOf 42 rfl) (fun r78 u77 pu77 fu77 => ?_)
          try dsimp only at pu77
          have hxu77 := oFr_nil fu77; subst hxu77
          have rr78 := n_rng r78
          refine r_istore C (lv' := [(0, .ref (oad E 71)), (1, .int a1), (2, .int a2), (3, .int a1), (4, .int a1), (5, .int r71), (6, .int r78)]) [1, 2, 3, 4, 5, 6, 0] (oDec_at oX12_breachOf 43 rfl) (by decide) rfl ?_
          refine r_pick C [0, 3, 4, 5, 6] rfl ?_
          exact (key (217 - r78.toInt).toNat) ((pI s 71 65 km1)) a1 a1 r71 r78  (oBI_fr (oFr_oneI (q := 12) (m := 65) rfl (by rfl)) rfl hp2) (by omega) (by omega) (by omega) (by omega) (owBE_fr (oFr_oneI (q := 12) (m := 65) rfl (by rfl)) rfl hp3) (owMM_fr (oFr_oneI (q := 12) (m := 65) rfl (by rfl)) rfl hp4) (owLO_fr (oFr_oneI (q := 12) (m := 65) rfl (by rfl)) rfl hp5) (owRL_fr (oFr_oneI (q := 12) (m := 65) rfl (by rfl)) rfl hp6) (by omega) (by omega) (by omega) (by omega) (by first | (intro k h1 h2; exfalso; omega)) (by omega)
        · skip
          refine r_iload_n C (j := 3) (oDec_at oX12_breachOf 38 rfl) rfl rfl ?_
          refine r_callSi C miX12_delayOf mlX12_389 (ct_X12_delayOf l E ((pI s 71 65 km1)) a1 (by omega)) (by decide) rfl rfl rfl (Nat.le_of_ble_eq_true rfl) (oDec_at oX12_breachOf 39 rfl) (fun r80 u79 pu79 fu79 => ?_)
          try dsimp only at pu79
          have hxu79 := oFr_nil fu79; subst hxu79
          have rr80 := n_rng r80
          refine r_goto C (tgt := 85) (oDec_at oX12_breachOf 40 rfl) (by decide) ?_
          refine r_istore C (lv' := [(0, .ref (oad E 71)), (1, .int a1), (2, .int a2), (3, .int a1), (4, .int a1), (5, .int r71), (6, .int r80)]) [1, 2, 3, 4, 5, 6, 0] (oDec_at oX12_breachOf 43 rfl) (by decide) rfl ?_
          refine r_pick C [0, 3, 4, 5, 6] rfl ?_
          exact (key (217 - r80.toInt).toNat) ((pI s 71 65 km1)) a1 a1 r71 r80  (oBI_fr (oFr_oneI (q := 12) (m := 65) rfl (by rfl)) rfl hp2) (by omega) (by omega) (by omega) (by omega) (owBE_fr (oFr_oneI (q := 12) (m := 65) rfl (by rfl)) rfl hp3) (owMM_fr (oFr_oneI (q := 12) (m := 65) rfl (by rfl)) rfl hp4) (owLO_fr (oFr_oneI (q := 12) (m := 65) rfl (by rfl)) rfl hp5) (owRL_fr (oFr_oneI (q := 12) (m := 65) rfl (by rfl)) rfl hp6) (by omega) (by omega) (by omega) (by omega) (by first | (intro k h1 h2; exfalso; omega)) (by omega)
      · skip
        refine r_aload_n C (j := 0) (oDec_at oX12_breachOf 22 rfl) rfl rfl ?_
        refine r_iload_n C (j := 3) (oDec_at oX12_breachOf 23 rfl) rfl rfl ?_
        refine r_callVi C oCl12 rfl miX12_overAt mlX12_392 (ct_X12_overAt l E (s) a1 (by omega)) (by decide) rfl rfl rfl (Nat.le_of_ble_eq_true rfl) (oDec_at oX12_breachOf 24 rfl) (fun r82 u81 pu81 fu81 => ?_)
        try dsimp only at pu81
        obtain ⟨pu81_0, pu81_1, pu81_2⟩ := pu81
        have hxu81 := oFr_nil fu81; subst hxu81
        have rr82 := n_rng r82
        have ho3 : r82.toInt = owSp 84 nn := by first | (have h9 := pu81_1; rw [owOv_m (n := nn) ((show owRL nn st (s) from hp6)).1] at h9; rw [h9, show a1.toInt = 84 by omega]) | (exfalso; omega)
        refine r_goto C (tgt := 54) (oDec_at oX12_breachOf 25 rfl) (by decide) ?_
        have hov9 : r82.toInt = owSp 84 nn ∨ r82.toInt = owSp a2.toInt nn := by first | omega | (right; have h9 := pu81_1; rw [owOv_m (n := nn) ((show owRL nn st (s) from hp6)).1] at h9; rw [h9, show a1.toInt = a2.toInt by omega]) | (exfalso; omega)
        refine r_istore C (lv' := [(0, .ref (oad E 71)), (1, .int a1), (2, .int a2), (3, .int a1), (4, .int a1), (5, .int r82)]) [1, 2, 3, 4, 5, 0] (oDec_at oX12_breachOf 29 rfl) (by decide) rfl ?_
        refine r_aload_n C (j := 0) (oDec_at oX12_breachOf 30 rfl) rfl rfl ?_
        refine r_iconst C (oDec_at oX12_breachOf 31 rfl) (v := km1) (by rw [qkm1]; rfl) ?_
        refine r_pc C 58 rfl ?_
        refine r_puti (k := 65) (lo := (-2147483648)) (hi := 2147483647) C oCl12 rfl (by decide) flX12_463 rfl rfl rfl rfl rfl rfl rfl rfl (n_rng _) (oDec_at oX12_breachOf 32 rfl) ?_
        refine r_iload_n C (j := 3) (oDec_at oX12_breachOf 33 rfl) rfl rfl ?_
        refine r_callSi C miX12_delayOf mlX12_389 (ct_X12_delayOf l E ((pI s 71 65 km1)) a1 (by omega)) (by decide) rfl rfl rfl (Nat.le_of_ble_eq_true rfl) (oDec_at oX12_breachOf 34 rfl) (fun r84 u83 pu83 fu83 => ?_)
        try dsimp only at pu83
        have hxu83 := oFr_nil fu83; subst hxu83
        have rr84 := n_rng r84
        refine r_iload C (j := 4) (oDec_at oX12_breachOf 35 rfl) rfl ?_
        refine r_callSi C miX12_delayOf mlX12_389 (ct_X12_delayOf l E ((pI s 71 65 km1)) a1 (by omega)) (by decide) rfl rfl rfl (Nat.le_of_ble_eq_true rfl) (oDec_at oX12_breachOf 36 rfl) (fun r86 u85 pu85 fu85 => ?_)
        try dsimp only at pu85
        have hxu85 := oFr_nil fu85; subst hxu85
        have rr86 := n_rng r86
        refine r_icmp_le C 80 (oDec_at oX12_breachOf 37 rfl) (by decide) (fun cd87 => ?_) (fun cd87 => ?_)
        · skip
          refine r_iload C (j := 4) (oDec_at oX12_breachOf 41 rfl) rfl ?_
          refine r_callSi C miX12_delayOf mlX12_389 (ct_X12_delayOf l E ((pI s 71 65 km1)) a1 (by omega)) (by decide) rfl rfl rfl (Nat.le_of_ble_eq_true rfl) (oDec_at oX12_breachOf 42 rfl) (fun r89 u88 pu88 fu88 => ?_)
          try dsimp only at pu88
          have hxu88 := oFr_nil fu88; subst hxu88
          have rr89 := n_rng r89
          refine r_istore C (lv' := [(0, .ref (oad E 71)), (1, .int a1), (2, .int a2), (3, .int a1), (4, .int a1), (5, .int r82), (6, .int r89)]) [1, 2, 3, 4, 5, 6, 0] (oDec_at oX12_breachOf 43 rfl) (by decide) rfl ?_
          refine r_pick C [0, 3, 4, 5, 6] rfl ?_
          exact (key (217 - r89.toInt).toNat) ((pI s 71 65 km1)) a1 a1 r82 r89  (oBI_fr (oFr_oneI (q := 12) (m := 65) rfl (by rfl)) rfl hp2) (by omega) (by omega) (by omega) (by omega) (owBE_fr (oFr_oneI (q := 12) (m := 65) rfl (by rfl)) rfl hp3) (owMM_fr (oFr_oneI (q := 12) (m := 65) rfl (by rfl)) rfl hp4) (owLO_fr (oFr_oneI (q := 12) (m := 65) rfl (by rfl)) rfl hp5) (owRL_fr (oFr_oneI (q := 12) (m := 65) rfl (by rfl)) rfl hp6) (by omega) (by omega) (by omega) (by omega) (by first | (intro k h1 h2; exfalso; omega)) (by omega)
        · skip
          refine r_iload_n C (j := 3) (oDec_at oX12_breachOf 38 rfl) rfl rfl ?_
          refine r_callSi C miX12_delayOf mlX12_389 (ct_X12_delayOf l E ((pI s 71 65 km1)) a1 (by omega)) (by decide) rfl rfl rfl (Nat.le_of_ble_eq_true rfl) (oDec_at oX12_breachOf 39 rfl) (fun r91 u90 pu90 fu90 => ?_)
          try dsimp only at pu90
          have hxu90 := oFr_nil fu90; subst hxu90
          have rr91 := n_rng r91
          refine r_goto C (tgt := 85) (oDec_at oX12_breachOf 40 rfl) (by decide) ?_
          refine r_istore C (lv' := [(0, .ref (oad E 71)), (1, .int a1), (2, .int a2), (3, .int a1), (4, .int a1), (5, .int r82), (6, .int r91)]) [1, 2, 3, 4, 5, 6, 0] (oDec_at oX12_breachOf 43 rfl) (by decide) rfl ?_
          refine r_pick C [0, 3, 4, 5, 6] rfl ?_
          exact (key (217 - r91.toInt).toNat) ((pI s 71 65 km1)) a1 a1 r82 r91  (oBI_fr (oFr_oneI (q := 12) (m := 65) rfl (by rfl)) rfl hp2) (by omega) (by omega) (by omega) (by omega) (owBE_fr (oFr_oneI (q := 12) (m := 65) rfl (by rfl)) rfl hp3) (owMM_fr (oFr_oneI (q := 12) (m := 65) rfl (by rfl)) rfl hp4) (owLO_fr (oFr_oneI (q := 12) (m := 65) rfl (by rfl)) rfl hp5) (owRL_fr (oFr_oneI (q := 12) (m := 65) rfl (by rfl)) rfl hp6) (by omega) (by omega) (by omega) (by omega) (by first | (intro k h1 h2; exfalso; omega)) (by omega)
    · skip
      refine r_iload_n C (j := 2) (oDec_at oX12_breachOf 11 rfl) rfl rfl ?_
      refine r_goto C (tgt := 24) (oDec_at oX12_breachOf 12 rfl) (by decide) ?_
      refine r_istore C (lv' := [(0, .ref (oad E 71)), (1, .int a1), (2, .int a2), (3, .int a1), (4, .int a2)]) [1, 2, 3, 4, 0] (oDec_at oX12_breachOf 14 rfl) (by decide) rfl ?_
      refine r_aload_n C (j := 0) (oDec_at oX12_breachOf 15 rfl) rfl rfl ?_
      refine r_iload_n C (j := 3) (oDec_at oX12_breachOf 16 rfl) rfl rfl ?_
      refine r_callVi C oCl12 rfl miX12_overAt mlX12_392 (ct_X12_overAt l E (s) a1 (by omega)) (by decide) rfl rfl rfl (Nat.le_of_ble_eq_true rfl) (oDec_at oX12_breachOf 17 rfl) (fun r93 u92 pu92 fu92 => ?_)
      try dsimp only at pu92
      obtain ⟨pu92_0, pu92_1, pu92_2⟩ := pu92
      have hxu92 := oFr_nil fu92; subst hxu92
      have rr93 := n_rng r93
      have ho1 : r93.toInt = owSp 84 nn := by first | (have h9 := pu92_1; rw [owOv_m (n := nn) ((show owRL nn st (s) from hp6)).1] at h9; rw [h9, show a1.toInt = 84 by omega]) | (exfalso; omega)
      refine r_aload_n C (j := 0) (oDec_at oX12_breachOf 18 rfl) rfl rfl ?_
      refine r_pc C 32 rfl ?_
      refine r_iload C (j := 4) (oDec_at oX12_breachOf 19 rfl) rfl ?_
      refine r_callVi C oCl12 rfl miX12_overAt mlX12_392 (ct_X12_overAt l E (s) a2 (by omega)) (by decide) rfl rfl rfl (Nat.le_of_ble_eq_true rfl) (oDec_at oX12_breachOf 20 rfl) (fun r95 u94 pu94 fu94 => ?_)
      try dsimp only at pu94
      obtain ⟨pu94_0, pu94_1, pu94_2⟩ := pu94
      have hxu94 := oFr_nil fu94; subst hxu94
      have rr95 := n_rng r95
      have ho2 : r95.toInt = owSp a2.toInt nn := by first | (have h9 := pu94_1; rw [owOv_m (n := nn) ((show owRL nn st (s) from hp6)).1] at h9; rw [h9, show a2.toInt = a2.toInt by omega]) | (exfalso; omega)
      refine r_icmp_ge C 48 (oDec_at oX12_breachOf 21 rfl) (by decide) (fun cd96 => ?_) (fun cd96 => ?_)
      · skip
        refine r_aload_n C (j := 0) (oDec_at oX12_breachOf 26 rfl) rfl rfl ?_
        refine r_iload C (j := 4) (oDec_at oX12_breachOf 27 rfl) rfl ?_
        refine r_callVi C oCl12 rfl miX12_overAt mlX12_392 (ct_X12_overAt l E (s) a2 (by omega)) (by decide) rfl rfl rfl (Nat.le_of_ble_eq_true rfl) (oDec_at oX12_breachOf 28 rfl) (fun r98 u97 pu97 fu97 => ?_)
        try dsimp only at pu97
        obtain ⟨pu97_0, pu97_1, pu97_2⟩ := pu97
        have hxu97 := oFr_nil fu97; subst hxu97
        have rr98 := n_rng r98
        have hov9 : r98.toInt = owSp 84 nn ∨ r98.toInt = owSp a2.toInt nn := by first | omega | (right; have h9 := pu97_1; rw [owOv_m (n := nn) ((show owRL nn st (s) from hp6)).1] at h9; rw [h9, show a2.toInt = a2.toInt by omega]) | (exfalso; omega)
        refine r_istore C (lv' := [(0, .ref (oad E 71)), (1, .int a1), (2, .int a2), (3, .int a1), (4, .int a2), (5, .int r98)]) [1, 2, 3, 4, 5, 0] (oDec_at oX12_breachOf 29 rfl) (by decide) rfl ?_
        refine r_aload_n C (j := 0) (oDec_at oX12_breachOf 30 rfl) rfl rfl ?_
        refine r_iconst C (oDec_at oX12_breachOf 31 rfl) (v := km1) (by rw [qkm1]; rfl) ?_
        refine r_pc C 58 rfl ?_
        refine r_puti (k := 65) (lo := (-2147483648)) (hi := 2147483647) C oCl12 rfl (by decide) flX12_463 rfl rfl rfl rfl rfl rfl rfl rfl (n_rng _) (oDec_at oX12_breachOf 32 rfl) ?_
        refine r_iload_n C (j := 3) (oDec_at oX12_breachOf 33 rfl) rfl rfl ?_
        refine r_callSi C miX12_delayOf mlX12_389 (ct_X12_delayOf l E ((pI s 71 65 km1)) a1 (by omega)) (by decide) rfl rfl rfl (Nat.le_of_ble_eq_true rfl) (oDec_at oX12_breachOf 34 rfl) (fun r100 u99 pu99 fu99 => ?_)
        try dsimp only at pu99
        have hxu99 := oFr_nil fu99; subst hxu99
        have rr100 := n_rng r100
        refine r_iload C (j := 4) (oDec_at oX12_breachOf 35 rfl) rfl ?_
        refine r_callSi C miX12_delayOf mlX12_389 (ct_X12_delayOf l E ((pI s 71 65 km1)) a2 (by omega)) (by decide) rfl rfl rfl (Nat.le_of_ble_eq_true rfl) (oDec_at oX12_breachOf 36 rfl) (fun r102 u101 pu101 fu101 => ?_)
        try dsimp only at pu101
        have hxu101 := oFr_nil fu101; subst hxu101
        have rr102 := n_rng r102
        refine r_icmp_le C 80 (oDec_at oX12_breachOf 37 rfl) (by decide) (fun cd103 => ?_) (fun cd103 => ?_)
        · skip
          refine r_iload C (j := 4) (oDec_at oX12_breachOf 41 rfl) rfl ?_
          refine r_callSi C miX12_delayOf mlX12_389 (ct_X12_delayOf l E ((pI s 71 65 km1)) a2 (by omega)) (by decide) rfl rfl rfl (Nat.le_of_ble_eq_true rfl) (oDec_at oX12_breachOf 42 rfl) (fun r105 u104 pu104 fu104 => ?_)
          try dsimp only at pu104
          have hxu104 := oFr_nil fu104; subst hxu104
          have rr105 := n_rng r105
          refine r_istore C (lv' := [(0, .ref (oad E 71)), (1, .int a1), (2, .int a2), (3, .int a1), (4, .int a2), (5, .int r98), (6, .int r105)]) [1, 2, 3, 4, 5, 6, 0] (oDec_at oX12_breachOf 43 rfl) (by decide) rfl ?_
          refine r_pick C [0, 3, 4, 5, 6] rfl ?_
          exact (key (217 - r105.toInt).toNat) ((pI s 71 65 km1)) a1 a2 r98 r105  (oBI_fr (oFr_oneI (q := 12) (m := 65) rfl (by rfl)) rfl hp2) (by omega) (by omega) (by omega) (by omega) (owBE_fr (oFr_oneI (q := 12) (m := 65) rfl (by rfl)) rfl hp3) (owMM_fr (oFr_oneI (q := 12) (m := 65) rfl (by rfl)) rfl hp4) (owLO_fr (oFr_oneI (q := 12) (m := 65) rfl (by rfl)) rfl hp5) (owRL_fr (oFr_oneI (q := 12) (m := 65) rfl (by rfl)) rfl hp6) (by omega) (by omega) (by omega) (by omega) (by first | (intro k h1 h2; exfalso; omega)) (by omega)
        · skip
          refine r_iload_n C (j := 3) (oDec_at oX12_breachOf 38 rfl) rfl rfl ?_
          refine r_callSi C miX12_delayOf mlX12_389 (ct_X12_delayOf l E ((pI s 71 65 km1)) a1 (by omega)) (by decide) rfl rfl rfl (Nat.le_of_ble_eq_true rfl) (oDec_at oX12_breachOf 39 rfl) (fun r107 u106 pu106 fu106 => ?_)
          try dsimp only at pu106
          have hxu106 := oFr_nil fu106; subst hxu106
          have rr107 := n_rng r107
          refine r_goto C (tgt := 85) (oDec_at oX12_breachOf 40 rfl) (by decide) ?_
          refine r_istore C (lv' := [(0, .ref (oad E 71)), (1, .int a1), (2, .int a2), (3, .int a1), (4, .int a2), (5, .int r98), (6, .int r107)]) [1, 2, 3, 4, 5, 6, 0] (oDec_at oX12_breachOf 43 rfl) (by decide) rfl ?_
          refine r_pick C [0, 3, 4, 5, 6] rfl ?_
          exact (key (217 - r107.toInt).toNat) ((pI s 71 65 km1)) a1 a2 r98 r107  (oBI_fr (oFr_oneI (q := 12) (m := 65) rfl (by rfl)) rfl hp2) (by omega) (by omega) (by omega) (by omega) (owBE_fr (oFr_oneI (q := 12) (m := 65) rfl (by rfl)) rfl hp3) (owMM_fr (oFr_oneI (q := 12) (m := 65) rfl (by rfl)) rfl hp4) (owLO_fr (oFr_oneI (q := 12) (m := 65) rfl (by rfl)) rfl hp5) (owRL_fr (oFr_oneI (q := 12) (m := 65) rfl (by rfl)) rfl hp6) (by omega) (by omega) (by omega) (by omega) (by first | (intro k h1 h2; exfalso; omega)) (by omega)
      · skip
        refine r_aload_n C (j := 0) (oDec_at oX12_breachOf 22 rfl) rfl rfl ?_
        refine r_iload_n C (j := 3) (oDec_at oX12_breachOf 23 rfl) rfl rfl ?_
        refine r_callVi C oCl12 rfl miX12_overAt mlX12_392 (ct_X12_overAt l E (s) a1 (by omega)) (by decide) rfl rfl rfl (Nat.le_of_ble_eq_true rfl) (oDec_at oX12_breachOf 24 rfl) (fun r109 u108 pu108 fu108 => ?_)
        try dsimp only at pu108
        obtain ⟨pu108_0, pu108_1, pu108_2⟩ := pu108
        have hxu108 := oFr_nil fu108; subst hxu108
        have rr109 := n_rng r109
        have ho3 : r109.toInt = owSp 84 nn := by first | (have h9 := pu108_1; rw [owOv_m (n := nn) ((show owRL nn st (s) from hp6)).1] at h9; rw [h9, show a1.toInt = 84 by omega]) | (exfalso; omega)
        refine r_goto C (tgt := 54) (oDec_at oX12_breachOf 25 rfl) (by decide) ?_
        have hov9 : r109.toInt = owSp 84 nn ∨ r109.toInt = owSp a2.toInt nn := by first | omega | (right; have h9 := pu108_1; rw [owOv_m (n := nn) ((show owRL nn st (s) from hp6)).1] at h9; rw [h9, show a2.toInt = a2.toInt by omega]) | (exfalso; omega)
        refine r_istore C (lv' := [(0, .ref (oad E 71)), (1, .int a1), (2, .int a2), (3, .int a1), (4, .int a2), (5, .int r109)]) [1, 2, 3, 4, 5, 0] (oDec_at oX12_breachOf 29 rfl) (by decide) rfl ?_
        refine r_aload_n C (j := 0) (oDec_at oX12_breachOf 30 rfl) rfl rfl ?_
        refine r_iconst C (oDec_at oX12_breachOf 31 rfl) (v := km1) (by rw [qkm1]; rfl) ?_
        refine r_pc C 58 rfl ?_
        refine r_puti (k := 65) (lo := (-2147483648)) (hi := 2147483647) C oCl12 rfl (by decide) flX12_463 rfl rfl rfl rfl rfl rfl rfl rfl (n_rng _) (oDec_at oX12_breachOf 32 rfl) ?_
        refine r_iload_n C (j := 3) (oDec_at oX12_breachOf 33 rfl) rfl rfl ?_
        refine r_callSi C miX12_delayOf mlX12_389 (ct_X12_delayOf l E ((pI s 71 65 km1)) a1 (by omega)) (by decide) rfl rfl rfl (Nat.le_of_ble_eq_true rfl) (oDec_at oX12_breachOf 34 rfl) (fun r111 u110 pu110 fu110 => ?_)
        try dsimp only at pu110
        have hxu110 := oFr_nil fu110; subst hxu110
        have rr111 := n_rng r111
        refine r_iload C (j := 4) (oDec_at oX12_breachOf 35 rfl) rfl ?_
        refine r_callSi C miX12_delayOf mlX12_389 (ct_X12_delayOf l E ((pI s 71 65 km1)) a2 (by omega)) (by decide) rfl rfl rfl (Nat.le_of_ble_eq_true rfl) (oDec_at oX12_breachOf 36 rfl) (fun r113 u112 pu112 fu112 => ?_)
        try dsimp only at pu112
        have hxu112 := oFr_nil fu112; subst hxu112
        have rr113 := n_rng r113
        refine r_icmp_le C 80 (oDec_at oX12_breachOf 37 rfl) (by decide) (fun cd114 => ?_) (fun cd114 => ?_)
        · skip
          refine r_iload C (j := 4) (oDec_at oX12_breachOf 41 rfl) rfl ?_
          refine r_callSi C miX12_delayOf mlX12_389 (ct_X12_delayOf l E ((pI s 71 65 km1)) a2 (by omega)) (by decide) rfl rfl rfl (Nat.le_of_ble_eq_true rfl) (oDec_at oX12_breachOf 42 rfl) (fun r116 u115 pu115 fu115 => ?_)
          try dsimp only at pu115
          have hxu115 := oFr_nil fu115; subst hxu115
          have rr116 := n_rng r116
          refine r_istore C (lv' := [(0, .ref (oad E 71)), (1, .int a1), (2, .int a2), (3, .int a1), (4, .int a2), (5, .int r109), (6, .int r116)]) [1, 2, 3, 4, 5, 6, 0] (oDec_at oX12_breachOf 43 rfl) (by decide) rfl ?_
          refine r_pick C [0, 3, 4, 5, 6] rfl ?_
          exact (key (217 - r116.toInt).toNat) ((pI s 71 65 km1)) a1 a2 r109 r116  (oBI_fr (oFr_oneI (q := 12) (m := 65) rfl (by rfl)) rfl hp2) (by omega) (by omega) (by omega) (by omega) (owBE_fr (oFr_oneI (q := 12) (m := 65) rfl (by rfl)) rfl hp3) (owMM_fr (oFr_oneI (q := 12) (m := 65) rfl (by rfl)) rfl hp4) (owLO_fr (oFr_oneI (q := 12) (m := 65) rfl (by rfl)) rfl hp5) (owRL_fr (oFr_oneI (q := 12) (m := 65) rfl (by rfl)) rfl hp6) (by omega) (by omega) (by omega) (by omega) (by first | (intro k h1 h2; exfalso; omega)) (by omega)
        · skip
          refine r_iload_n C (j := 3) (oDec_at oX12_breachOf 38 rfl) rfl rfl ?_
          refine r_callSi C miX12_delayOf mlX12_389 (ct_X12_delayOf l E ((pI s 71 65 km1)) a1 (by omega)) (by decide) rfl rfl rfl (Nat.le_of_ble_eq_true rfl) (oDec_at oX12_breachOf 39 rfl) (fun r118 u117 pu117 fu117 => ?_)
          try dsimp only at pu117
          have hxu117 := oFr_nil fu117; subst hxu117
          have rr118 := n_rng r118
          refine r_goto C (tgt := 85) (oDec_at oX12_breachOf 40 rfl) (by decide) ?_
          refine r_istore C (lv' := [(0, .ref (oad E 71)), (1, .int a1), (2, .int a2), (3, .int a1), (4, .int a2), (5, .int r109), (6, .int r118)]) [1, 2, 3, 4, 5, 6, 0] (oDec_at oX12_breachOf 43 rfl) (by decide) rfl ?_
          refine r_pick C [0, 3, 4, 5, 6] rfl ?_
          exact (key (217 - r118.toInt).toNat) ((pI s 71 65 km1)) a1 a2 r109 r118  (oBI_fr (oFr_oneI (q := 12) (m := 65) rfl (by rfl)) rfl hp2) (by omega) (by omega) (by omega) (by omega) (owBE_fr (oFr_oneI (q := 12) (m := 65) rfl (by rfl)) rfl hp3) (owMM_fr (oFr_oneI (q := 12) (m := 65) rfl (by rfl)) rfl hp4) (owLO_fr (oFr_oneI (q := 12) (m := 65) rfl (by rfl)) rfl hp5) (owRL_fr (oFr_oneI (q := 12) (m := 65) rfl (by rfl)) rfl hp6) (by omega) (by omega) (by omega) (by omega) (by first | (intro k h1 h2; exfalso; omega)) (by omega)
