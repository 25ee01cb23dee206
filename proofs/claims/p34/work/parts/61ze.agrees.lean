set_option maxHeartbeats 4000000 in
set_option maxRecDepth 100000 in
theorem ct10_X11_canBe (l : Launch) (E : oE) (s : oS) (c0 : Nat) (hk0 : okd c0 = 4) (a1 : Int32) (nn : Int) (hp0 : owMA c0 nn s) : oMet l 1 yX11_canBe cX11_canBe 2 (some .boolean) [] E s [.ref (oad E c0), .int a1] (oPi (fun r u => (0 ≤ r.toInt ∧ r.toInt ≤ 1) ∧ (r.toInt = 1))) := by
  refine oMet.of (lv := [(0, .ref (oad E c0)), (1, .int a1)]) (by decide +kernel) (Nat.le_of_ble_eq_true rfl) rfl (fun J C hT => ?_)
  have C : oC l 1 cX11_canBe RX11 2 (some .boolean) [] E s (oPi (fun r u => (0 ≤ r.toInt ∧ r.toInt ≤ 1) ∧ (r.toInt = 1))) J := C
  obtain ⟨k0, qk0⟩ : ∃ z : Int32, z = 0 := ⟨_, rfl⟩
  have ek0 : k0.toInt = 0 := by rw [qk0]; rfl
  obtain ⟨k1, qk1⟩ : ∃ z : Int32, z = 1 := ⟨_, rfl⟩
  have ek1 : k1.toInt = 1 := by rw [qk1]; rfl
  obtain ⟨k2, qk2⟩ : ∃ z : Int32, z = 2 := ⟨_, rfl⟩
  have ek2 : k2.toInt = 2 := by rw [qk2]; rfl
  obtain ⟨k3, qk3⟩ : ∃ z : Int32, z = 3 := ⟨_, rfl⟩
  have ek3 : k3.toInt = 3 := by rw [qk3]; rfl
  have rg1 := n_rng a1
  have hod9 := hp0.2.2.2.1
  refine r_iload_n C (j := 1) (oDec_at oX11_canBe 0 rfl) rfl rfl ?_
  refine r_iconst C (oDec_at oX11_canBe 1 rfl) (v := k3) (by rw [qk3]; rfl) ?_
  obtain ⟨v1, ev1⟩ : ∃ z : Int32, z = a1 - a1 / k3 * k3 := ⟨_, rfl⟩
  have hv1 := n_rem (k := 3) ev1 ek3 (by decide)
  have rv1 := n_rng v1
  refine r_irem C v1 (oDec_at oX11_canBe 2 rfl) (n_ne0 (by omega)) ev1 ?_
  refine r_iconst C (oDec_at oX11_canBe 3 rfl) (v := k2) (by rw [qk2]; rfl) ?_
  refine r_icmp_ne C 14 (oDec_at oX11_canBe 4 rfl) (by decide) (fun cd2 => ?_) (fun cd2 => ?_)
  · skip
    refine r_iconst C (oDec_at oX11_canBe 8 rfl) (v := k1) (by rw [qk1]; rfl) ?_
    refine r_goto C (tgt := 19) (oDec_at oX11_canBe 9 rfl) (by decide) ?_
    exact r_zret C (n_bool (by omega)) (oDec_at oX11_canBe 11 rfl) ⟨_, rfl, ⟨by omega, by omega⟩⟩
  · skip
    refine r_aload_n C (j := 0) (oDec_at oX11_canBe 5 rfl) rfl rfl ?_
    obtain ⟨v3, ev3⟩ : ∃ z : Int32, (s).1 c0 7 = z := ⟨_, rfl⟩
    have gv3 : (s.1 c0 7).toInt = v3.toInt := congrArg Int32.toInt (ev3)
    refine r_getiN (k := 7) (lo := 0) (hi := 1) C v3 oCl4 hk0 (by decide) flX11_359 rfl rfl (ev3) rfl rfl (oDec_at oX11_canBe 6 rfl) (fun b4 b4h => ?_)
    refine r_if_ne C 18 (oDec_at oX11_canBe 7 rfl) (by decide) (fun cd5 => ?_) (fun cd5 => ?_)
    · skip
      refine r_iconst C (oDec_at oX11_canBe 10 rfl) (v := k0) (by rw [qk0]; rfl) ?_
      exact r_zret C (n_bool (by omega)) (oDec_at oX11_canBe 11 rfl) ⟨_, rfl, ⟨by omega, by omega⟩⟩
    · skip
      refine r_iconst C (oDec_at oX11_canBe 8 rfl) (v := k1) (by rw [qk1]; rfl) ?_
      refine r_goto C (tgt := 19) (oDec_at oX11_canBe 9 rfl) (by decide) ?_
      exact r_zret C (n_bool (by omega)) (oDec_at oX11_canBe 11 rfl) ⟨_, rfl, ⟨by omega, by omega⟩⟩
set_option maxHeartbeats 4000000 in
set_option maxRecDepth 100000 in
theorem ct10_X11_agrees (l : Launch) (E : oE) (s : oS) (c1 : Nat) (hk1 : okd c1 = 4) (a2 : Int32) (b : Nat) (R : Int) (W : Nat → List Int) (me : Int) (nn : Int) (st : Nat → Int) (hp0 : owBC b R W s) (hp1 : owKV R W s) (hp2 : owDN s) (hp3 : owLN s) (hp4 : owBO b s) (hp5 : owME b me s) (hp6 : owMA c1 nn s) (hp7 : owMS c1 nn st s) (hp8 : owDg nn st) (hp9 : 1 ≤ nn ∧ nn ≤ 6) (hp10 : 0 ≤ a2.toInt ∧ a2.toInt ≤ 4499) : oMet l 6 yX11_agrees cX11_agrees 3 (some .boolean) [(1, 6), (1, 7), (1, 8), (9, 0), (9, 1), (9, 2), (9, 3), (9, 4), (24, 9999), (25, 9999), (26, 9999), (27, 9999), (28, 9999), (29, 9999), (30, 9999), (31, 9999)] E s [.ref (oad E 0), .ref (oad E c1), .int a2] (oPi (fun r u => (0 ≤ r.toInt ∧ r.toInt ≤ 1) ∧ (owKV R W u) ∧ (owDN u) ∧ (r.toInt = 1 ↔ owAg R W me a2.toInt nn st))) := by
  refine oMet.of (lv := [(0, .ref (oad E 0)), (1, .ref (oad E c1)), (2, .int a2)]) (by decide +kernel) (Nat.le_of_ble_eq_true rfl) rfl (fun J C hT => ?_)
  have C : oC l 6 cX11_agrees RX11 3 (some .boolean) [(1, 6), (1, 7), (1, 8), (9, 0), (9, 1), (9, 2), (9, 3), (9, 4), (24, 9999), (25, 9999), (26, 9999), (27, 9999), (28, 9999), (29, 9999), (30, 9999), (31, 9999)] E s (oPi (fun r u => (0 ≤ r.toInt ∧ r.toInt ≤ 1) ∧ (owKV R W u) ∧ (owDN u) ∧ (r.toInt = 1 ↔ owAg R W me a2.toInt nn st))) J := C
  obtain ⟨km1, qkm1⟩ : ∃ z : Int32, z = (-1) := ⟨_, rfl⟩
  have ekm1 : km1.toInt = (-1) := by rw [qkm1]; rfl
  obtain ⟨k0, qk0⟩ : ∃ z : Int32, z = 0 := ⟨_, rfl⟩
  have ek0 : k0.toInt = 0 := by rw [qk0]; rfl
  obtain ⟨k1, qk1⟩ : ∃ z : Int32, z = 1 := ⟨_, rfl⟩
  have ek1 : k1.toInt = 1 := by rw [qk1]; rfl
  obtain ⟨k84, qk84⟩ : ∃ z : Int32, z = 84 := ⟨_, rfl⟩
  have ek84 : k84.toInt = 84 := by rw [qk84]; rfl
  have rg2 := n_rng a2
  refine r_aload_n C (j := 1) (oDec_at oX11_agrees 0 rfl) rfl rfl ?_
  refine r_iload_n C (j := 2) (oDec_at oX11_agrees 1 rfl) rfl rfl ?_
  -- !! !owMA c0 nn is not known here
  refine r_callSi C miX11_canBe mlX11_214 (ct10_X11_canBe l E (s) c1 hk1 a2 (nn) hp6) (by decide) rfl rfl rfl (Nat.le_of_ble_eq_true rfl) (oDec_at oX11_agrees 2 rfl) (fun r2 u1 pu1 fu1 => ?_)
  try dsimp only at pu1
  obtain ⟨pu1_0, pu1_1⟩ := pu1
  have hxu1 := oFr_nil fu1; subst hxu1
  have rr2 := n_rng r2
  refine r_if_ne C 10 (oDec_at oX11_agrees 3 rfl) (by decide) (fun cd3 => ?_) (fun cd3 => ?_)
  · skip
    refine r_aload_n C (j := 0) (oDec_at oX11_agrees 6 rfl) rfl rfl ?_
    refine r_getF (k := 8) (b := 35) C oCl11 rfl (by decide) flX11_60 rfl rfl rfl (oDec_at oX11_agrees 7 rfl) ?_
    refine r_aload_n C (j := 1) (oDec_at oX11_agrees 8 rfl) rfl rfl ?_
    refine r_aload_n C (j := 0) (oDec_at oX11_agrees 9 rfl) rfl rfl ?_
    refine r_getS (k := 4) (q2 := 0) C oCl11 rfl (by decide) flX11_32 rfl rfl rfl ks1 (oDec_at oX11_agrees 10 rfl) (fun b4 rb4 mb4 hkb4 => ?_)
    have hbo9 : b4 = b := (by have h1 : (s.2.2 0 4) = b + 1 := hp4; have h2 := (rb4); omega)
    obtain ⟨v5, ev5⟩ : ∃ z : Int32, (s).1 b4 6 = z := ⟨_, rfl⟩
    have gv5 : (s.1 b4 6).toInt = v5.toInt := congrArg Int32.toInt (ev5)
    refine r_getiN (k := 6) (lo := 2) (hi := 12) C v5 oCl0 hkb4 (by decide) flX11_156 rfl rfl (ev5) rfl rfl (oDec_at oX11_agrees 11 rfl) (fun b6 b6h => ?_)
    refine r_pc C 22 rfl ?_
    have hme9 : v5.toInt = me := by rw [← ev5, hbo9]; exact hp5.2
    refine r_bipush C (oDec_at oX11_agrees 12 rfl) (v := k84) (by rw [qk84]; rfl) ?_
    refine r_iload_n C (j := 2) (oDec_at oX11_agrees 13 rfl) rfl rfl ?_
    refine r_callVv C oCl1 rfl miX1_hear mlX11_389 (ct10_X1_hear l E (s) c1 hk1 v5 k84 a2 (nn) (st) hp3 hp2 hp6 hp7 (by omega) (by omega) (by omega) (by omega) (by omega)) (by decide) rfl rfl rfl (Nat.le_of_ble_eq_true rfl) (oDec_at oX11_agrees 14 rfl) (fun u7 pu7 fu7 => ?_)
    try dsimp only at pu7
    obtain ⟨pu7_0, pu7_1⟩ := pu7
    have hhq9 := pu7_1
    refine r_aload_n C (j := 0) (oDec_at oX11_agrees 15 rfl) rfl rfl ?_
    refine r_getF (k := 7) (b := 31) C oCl11 rfl (by decide) flX11_53 rfl rfl rfl (oDec_at oX11_agrees 16 rfl) ?_
    refine r_aload_n C (j := 0) (oDec_at oX11_agrees 17 rfl) rfl rfl ?_
    refine r_pc C 33 rfl ?_
    refine r_getF (k := 8) (b := 35) C oCl11 rfl (by decide) flX11_60 rfl rfl rfl (oDec_at oX11_agrees 18 rfl) ?_
    refine r_iconst C (oDec_at oX11_agrees 19 rfl) (v := k0) (by rw [qk0]; rfl) ?_
    refine r_callVi C oCl2 rfl miX2_nextBroken mlX11_232 (ct9_X2_nextBroken l E (u7) k0 (b) (R) (W) (owBC_fr fu7 rfl hp0) (owKV_fr fu7 rfl hp1) pu7_0) (by decide) rfl rfl rfl (Nat.le_of_ble_eq_true rfl) (oDec_at oX11_agrees 20 rfl) (fun r10 u9 pu9 fu9 => ?_)
    try dsimp only at pu9
    obtain ⟨pu9_0, pu9_1⟩ := pu9
    have rr10 := n_rng r10
    have hnb9 := pu9_1 ek0
    have hag9 := owAg_h (R := R) (W := W) pu7_1
    refine r_iconst C (oDec_at oX11_agrees 21 rfl) (v := km1) (by rw [qkm1]; rfl) ?_
    refine r_icmp_ne C 48 (oDec_at oX11_agrees 22 rfl) (by decide) (fun cd11 => ?_) (fun cd11 => ?_)
    · skip
      refine r_iconst C (oDec_at oX11_agrees 25 rfl) (v := k0) (by rw [qk0]; rfl) ?_
      exact r_zret C (n_bool (by omega)) (oDec_at oX11_agrees 26 rfl) ⟨_, rfl, ⟨by omega, pu9_0, (owDN_fr fu9 rfl pu7_0), by first | (exfalso; omega) | (rw [hme9] at hag9; rw [← hag9, ← hnb9]; omega)⟩⟩
    · skip
      refine r_iconst C (oDec_at oX11_agrees 23 rfl) (v := k1) (by rw [qk1]; rfl) ?_
      refine r_goto C (tgt := 49) (oDec_at oX11_agrees 24 rfl) (by decide) ?_
      exact r_zret C (n_bool (by omega)) (oDec_at oX11_agrees 26 rfl) ⟨_, rfl, ⟨by omega, pu9_0, (owDN_fr fu9 rfl pu7_0), by first | (exfalso; omega) | (rw [hme9] at hag9; rw [← hag9, ← hnb9]; omega)⟩⟩
  · skip
    refine r_iconst C (oDec_at oX11_agrees 4 rfl) (v := k0) (by rw [qk0]; rfl) ?_
    exact r_zret C (n_bool (by omega)) (oDec_at oX11_agrees 5 rfl) ⟨_, rfl, ⟨by omega, hp1, hp2, by first | (exfalso; omega) | (rw [hme9] at hag9; rw [← hag9, ← hnb9]; omega)⟩⟩
