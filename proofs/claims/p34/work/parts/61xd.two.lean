set_option maxHeartbeats 4000000 in
set_option maxRecDepth 100000 in
theorem ct9_X11_hearTwo (l : Launch) (E : oE) (s : oS) (a1 : Int32) (a2 : Int32) (b : Nat) (R : Int) (W : Nat → List Int) (hp0 : owBC b R W s) (hp1 : owKV R W s) (hp2 : owLN s) (hp3 : owDN s) : oMet l 6 yX11_hearTwo cX11_hearTwo 3 (some .boolean) [(1, 6), (1, 7), (1, 8), (9, 0), (9, 1), (9, 2), (9, 3), (9, 4), (28, 9999), (29, 9999), (30, 9999), (31, 9999)] E s [.ref (oad E 0), .int a1, .int a2] (oPi (fun r u => (0 ≤ r.toInt ∧ r.toInt ≤ 1) ∧ (owDN u))) := by
  refine oMet.of (lv := [(0, .ref (oad E 0)), (1, .int a1), (2, .int a2)]) (by decide +kernel) (Nat.le_of_ble_eq_true rfl) rfl (fun J C hT => ?_)
  have C : oC l 6 cX11_hearTwo RX11 3 (some .boolean) [(1, 6), (1, 7), (1, 8), (9, 0), (9, 1), (9, 2), (9, 3), (9, 4), (28, 9999), (29, 9999), (30, 9999), (31, 9999)] E s (oPi (fun r u => (0 ≤ r.toInt ∧ r.toInt ≤ 1) ∧ (owDN u))) J := C
  obtain ⟨k0, qk0⟩ : ∃ z : Int32, z = 0 := ⟨_, rfl⟩
  have ek0 : k0.toInt = 0 := by rw [qk0]; rfl
  obtain ⟨k1, qk1⟩ : ∃ z : Int32, z = 1 := ⟨_, rfl⟩
  have ek1 : k1.toInt = 1 := by rw [qk1]; rfl
  have rg1 := n_rng a1
  have rg2 := n_rng a2
  refine r_iload_n C (j := 1) (oDec_at oX11_hearTwo 0 rfl) rfl rfl ?_
  refine r_callSi C miX11_isCode mlX11_192 (ct_X11_isCode l E (s) a1 ) (by decide) rfl rfl rfl (Nat.le_of_ble_eq_true rfl) (oDec_at oX11_hearTwo 1 rfl) (fun r2 u1 pu1 fu1 => ?_)
  try dsimp only at pu1
  obtain ⟨pu1_0, pu1_1⟩ := pu1
  have hxu1 := oFr_nil fu1; subst hxu1
  have rr2 := n_rng r2
  refine r_if_eq C 19 (oDec_at oX11_hearTwo 2 rfl) (by decide) (fun cd3 => ?_) (fun cd3 => ?_)
  · skip
    refine r_iconst C (oDec_at oX11_hearTwo 9 rfl) (v := k0) (by rw [qk0]; rfl) ?_
    exact r_zret C (n_bool (by omega)) (oDec_at oX11_hearTwo 10 rfl) ⟨_, rfl, ⟨by omega, hp3⟩⟩
  · skip
    refine r_iload_n C (j := 2) (oDec_at oX11_hearTwo 3 rfl) rfl rfl ?_
    refine r_callSi C miX11_isCode mlX11_192 (ct_X11_isCode l E (s) a2 ) (by decide) rfl rfl rfl (Nat.le_of_ble_eq_true rfl) (oDec_at oX11_hearTwo 4 rfl) (fun r5 u4 pu4 fu4 => ?_)
    try dsimp only at pu4
    obtain ⟨pu4_0, pu4_1⟩ := pu4
    have hxu4 := oFr_nil fu4; subst hxu4
    have rr5 := n_rng r5
    refine r_if_eq C 19 (oDec_at oX11_hearTwo 5 rfl) (by decide) (fun cd6 => ?_) (fun cd6 => ?_)
    · skip
      refine r_iconst C (oDec_at oX11_hearTwo 9 rfl) (v := k0) (by rw [qk0]; rfl) ?_
      exact r_zret C (n_bool (by omega)) (oDec_at oX11_hearTwo 10 rfl) ⟨_, rfl, ⟨by omega, hp3⟩⟩
    · skip
      refine r_iload_n C (j := 1) (oDec_at oX11_hearTwo 6 rfl) rfl rfl ?_
      refine r_iload_n C (j := 2) (oDec_at oX11_hearTwo 7 rfl) rfl rfl ?_
      refine r_icmp_ne C 21 (oDec_at oX11_hearTwo 8 rfl) (by decide) (fun cd7 => ?_) (fun cd7 => ?_)
      · skip
        refine r_aload_n C (j := 0) (oDec_at oX11_hearTwo 11 rfl) rfl rfl ?_
        refine r_getS (k := 1) (q2 := 4) C oCl11 rfl (by decide) flX11_19 rfl rfl rfl ks0 (oDec_at oX11_hearTwo 12 rfl) (fun b8 rb8 mb8 hkb8 => ?_)
        refine r_iload_n C (j := 1) (oDec_at oX11_hearTwo 13 rfl) rfl rfl ?_
        refine r_callSi C miX11_canBe mlX11_214 (ct_X11_canBe l E (s) b8 hkb8 a1 ) (by decide) rfl rfl rfl (Nat.le_of_ble_eq_true rfl) (oDec_at oX11_hearTwo 14 rfl) (fun r10 u9 pu9 fu9 => ?_)
        try dsimp only at pu9
        have hxu9 := oFr_nil fu9; subst hxu9
        have rr10 := n_rng r10
        refine r_if_eq C 43 (oDec_at oX11_hearTwo 15 rfl) (by decide) (fun cd11 => ?_) (fun cd11 => ?_)
        · skip
          refine r_iconst C (oDec_at oX11_hearTwo 21 rfl) (v := k0) (by rw [qk0]; rfl) ?_
          exact r_zret C (n_bool (by omega)) (oDec_at oX11_hearTwo 22 rfl) ⟨_, rfl, ⟨by omega, hp3⟩⟩
        · skip
          refine r_aload_n C (j := 0) (oDec_at oX11_hearTwo 16 rfl) rfl rfl ?_
          refine r_getK (k := 1) (b := b8) C oCl11 rfl (by decide) flX11_19 rfl rfl (rb8) (oDec_at oX11_hearTwo 17 rfl) ?_
          refine r_iload_n C (j := 2) (oDec_at oX11_hearTwo 18 rfl) rfl rfl ?_
          refine r_callSi C miX11_canBe mlX11_214 (ct_X11_canBe l E (s) b8 hkb8 a2 ) (by decide) rfl rfl rfl (Nat.le_of_ble_eq_true rfl) (oDec_at oX11_hearTwo 19 rfl) (fun r14 u13 pu13 fu13 => ?_)
          try dsimp only at pu13
          have hxu13 := oFr_nil fu13; subst hxu13
          have rr14 := n_rng r14
          refine r_if_ne C 45 (oDec_at oX11_hearTwo 20 rfl) (by decide) (fun cd15 => ?_) (fun cd15 => ?_)
          · skip
            refine r_aload_n C (j := 0) (oDec_at oX11_hearTwo 23 rfl) rfl rfl ?_
            refine r_getF (k := 8) (b := 35) C oCl11 rfl (by decide) flX11_60 rfl rfl rfl (oDec_at oX11_hearTwo 24 rfl) ?_
            refine r_aload_n C (j := 0) (oDec_at oX11_hearTwo 25 rfl) rfl rfl ?_
            refine r_getK (k := 1) (b := b8) C oCl11 rfl (by decide) flX11_19 rfl rfl (rb8) (oDec_at oX11_hearTwo 26 rfl) ?_
            refine r_aload_n C (j := 0) (oDec_at oX11_hearTwo 27 rfl) rfl rfl ?_
            refine r_getS (k := 4) (q2 := 0) C oCl11 rfl (by decide) flX11_32 rfl rfl rfl ks1 (oDec_at oX11_hearTwo 28 rfl) (fun b17 rb17 mb17 hkb17 => ?_)
            obtain ⟨v18, ev18⟩ : ∃ z : Int32, (s).1 b17 6 = z := ⟨_, rfl⟩
            have gv18 : (s.1 b17 6).toInt = v18.toInt := congrArg Int32.toInt (ev18)
            refine r_getiN (k := 6) (lo := 2) (hi := 12) C v18 oCl0 hkb17 (by decide) flX11_156 rfl rfl (ev18) rfl rfl (oDec_at oX11_hearTwo 29 rfl) (fun b19 b19h => ?_)
            refine r_pc C 60 rfl ?_
            refine r_iload_n C (j := 1) (oDec_at oX11_hearTwo 30 rfl) rfl rfl ?_
            refine r_iload_n C (j := 2) (oDec_at oX11_hearTwo 31 rfl) rfl rfl ?_
            refine r_callVv C oCl1 rfl miX1_hear mlX11_389 (ct9_X1_hear l E (s) b8 hkb8 v18 a1 a2 hp2 hp3 (by omega) (by omega) (by omega)) (by decide) rfl rfl rfl (Nat.le_of_ble_eq_true rfl) (oDec_at oX11_hearTwo 32 rfl) (fun u20 pu20 fu20 => ?_)
            try dsimp only at pu20
            refine r_iconst C (oDec_at oX11_hearTwo 33 rfl) (v := k1) (by rw [qk1]; rfl) ?_
            exact r_zret C (n_bool (by omega)) (oDec_at oX11_hearTwo 34 rfl) ⟨_, rfl, ⟨by omega, pu20⟩⟩
          · skip
            refine r_iconst C (oDec_at oX11_hearTwo 21 rfl) (v := k0) (by rw [qk0]; rfl) ?_
            exact r_zret C (n_bool (by omega)) (oDec_at oX11_hearTwo 22 rfl) ⟨_, rfl, ⟨by omega, hp3⟩⟩
      · skip
        refine r_iconst C (oDec_at oX11_hearTwo 9 rfl) (v := k0) (by rw [qk0]; rfl) ?_
        exact r_zret C (n_bool (by omega)) (oDec_at oX11_hearTwo 10 rfl) ⟨_, rfl, ⟨by omega, hp3⟩⟩
set_option maxHeartbeats 4000000 in
set_option maxRecDepth 100000 in
theorem ct9_X11_agrees (l : Launch) (E : oE) (s : oS) (c1 : Nat) (hk1 : okd c1 = 4) (a2 : Int32) (b : Nat) (R : Int) (W : Nat → List Int) (hp0 : owBC b R W s) (hp1 : owKV R W s) (hp2 : owLN s) (hp3 : owDN s) (hp4 : -1 ≤ a2.toInt ∧ a2.toInt ≤ 4499) : oMet l 6 yX11_agrees cX11_agrees 3 (some .boolean) [(1, 6), (1, 7), (1, 8), (9, 0), (9, 1), (9, 2), (9, 3), (9, 4), (24, 9999), (25, 9999), (26, 9999), (27, 9999), (28, 9999), (29, 9999), (30, 9999), (31, 9999)] E s [.ref (oad E 0), .ref (oad E c1), .int a2] (oPi (fun r u => (0 ≤ r.toInt ∧ r.toInt ≤ 1) ∧ (owKV R W u) ∧ (owDN u))) := by
  refine oMet.of (lv := [(0, .ref (oad E 0)), (1, .ref (oad E c1)), (2, .int a2)]) (by decide +kernel) (Nat.le_of_ble_eq_true rfl) rfl (fun J C hT => ?_)
  have C : oC l 6 cX11_agrees RX11 3 (some .boolean) [(1, 6), (1, 7), (1, 8), (9, 0), (9, 1), (9, 2), (9, 3), (9, 4), (24, 9999), (25, 9999), (26, 9999), (27, 9999), (28, 9999), (29, 9999), (30, 9999), (31, 9999)] E s (oPi (fun r u => (0 ≤ r.toInt ∧ r.toInt ≤ 1) ∧ (owKV R W u) ∧ (owDN u))) J := C
  obtain ⟨km1, qkm1⟩ : ∃ z : Int32, z = (-1) := ⟨_, rfl⟩
  have ekm1 : km1.toInt = (-1) := by rw [qkm1]; rfl
  obtain ⟨k0, qk0⟩ : ∃ z : Int32, z = 0 := ⟨_, rfl⟩
  have ek0 : k0.toInt = 0 := by rw [qk0]; rfl
  obtain ⟨k1, qk1⟩ : ∃ z : Int32, z = 1 := ⟨_, rfl⟩
  have ek1 : k1.toInt = 1 := by rw [qk1]; rfl
  obtain ⟨k84, qk84⟩ : ∃ z : Int32, z = 84 := ⟨_, rfl⟩
  have ek84 : k84.toInt = 84 := by rw [qk84]; rfl
  have rg2 := n_rng a2
  refine r_aload_n C (j := 1) (oDec_at oX11_agrees 0 rfl) rfl rfl ?_
  refine r_iload_n C (j := 2) (oDec_at oX11_agrees 1 rfl) rfl rfl ?_
  refine r_callSi C miX11_canBe mlX11_214 (ct_X11_canBe l E (s) c1 hk1 a2 ) (by decide) rfl rfl rfl (Nat.le_of_ble_eq_true rfl) (oDec_at oX11_agrees 2 rfl) (fun r2 u1 pu1 fu1 => ?_)
  try dsimp only at pu1
  have hxu1 := oFr_nil fu1; subst hxu1
  have rr2 := n_rng r2
  refine r_if_ne C 10 (oDec_at oX11_agrees 3 rfl) (by decide) (fun cd3 => ?_) (fun cd3 => ?_)
  · skip
    refine r_aload_n C (j := 0) (oDec_at oX11_agrees 6 rfl) rfl rfl ?_
    refine r_getF (k := 8) (b := 35) C oCl11 rfl (by decide) flX11_60 rfl rfl rfl (oDec_at oX11_agrees 7 rfl) ?_
    refine r_aload_n C (j := 1) (oDec_at oX11_agrees 8 rfl) rfl rfl ?_
    refine r_aload_n C (j := 0) (oDec_at oX11_agrees 9 rfl) rfl rfl ?_
    refine r_getS (k := 4) (q2 := 0) C oCl11 rfl (by decide) flX11_32 rfl rfl rfl ks1 (oDec_at oX11_agrees 10 rfl) (fun b4 rb4 mb4 hkb4 => ?_)
    obtain ⟨v5, ev5⟩ : ∃ z : Int32, (s).1 b4 6 = z := ⟨_, rfl⟩
    have gv5 : (s.1 b4 6).toInt = v5.toInt := congrArg Int32.toInt (ev5)
    refine r_getiN (k := 6) (lo := 2) (hi := 12) C v5 oCl0 hkb4 (by decide) flX11_156 rfl rfl (ev5) rfl rfl (oDec_at oX11_agrees 11 rfl) (fun b6 b6h => ?_)
    refine r_pc C 22 rfl ?_
    refine r_bipush C (oDec_at oX11_agrees 12 rfl) (v := k84) (by rw [qk84]; rfl) ?_
    refine r_iload_n C (j := 2) (oDec_at oX11_agrees 13 rfl) rfl rfl ?_
    refine r_callVv C oCl1 rfl miX1_hear mlX11_389 (ct9_X1_hear l E (s) c1 hk1 v5 k84 a2 hp2 hp3 (by omega) (by omega) (by omega)) (by decide) rfl rfl rfl (Nat.le_of_ble_eq_true rfl) (oDec_at oX11_agrees 14 rfl) (fun u7 pu7 fu7 => ?_)
    try dsimp only at pu7
    refine r_aload_n C (j := 0) (oDec_at oX11_agrees 15 rfl) rfl rfl ?_
    refine r_getF (k := 7) (b := 31) C oCl11 rfl (by decide) flX11_53 rfl rfl rfl (oDec_at oX11_agrees 16 rfl) ?_
    refine r_aload_n C (j := 0) (oDec_at oX11_agrees 17 rfl) rfl rfl ?_
    refine r_pc C 33 rfl ?_
    refine r_getF (k := 8) (b := 35) C oCl11 rfl (by decide) flX11_60 rfl rfl rfl (oDec_at oX11_agrees 18 rfl) ?_
    refine r_iconst C (oDec_at oX11_agrees 19 rfl) (v := k0) (by rw [qk0]; rfl) ?_
    refine r_callVi C oCl2 rfl miX2_nextBroken mlX11_232 (ct9_X2_nextBroken l E (u7) k0 (b) (R) (W) (owBC_fr fu7 rfl hp0) (owKV_fr fu7 rfl hp1) pu7) (by decide) rfl rfl rfl (Nat.le_of_ble_eq_true rfl) (oDec_at oX11_agrees 20 rfl) (fun r10 u9 pu9 fu9 => ?_)
    try dsimp only at pu9
    obtain ⟨pu9_0, pu9_1⟩ := pu9
    have rr10 := n_rng r10
    refine r_iconst C (oDec_at oX11_agrees 21 rfl) (v := km1) (by rw [qkm1]; rfl) ?_
    refine r_icmp_ne C 48 (oDec_at oX11_agrees 22 rfl) (by decide) (fun cd11 => ?_) (fun cd11 => ?_)
    · skip
      refine r_iconst C (oDec_at oX11_agrees 25 rfl) (v := k0) (by rw [qk0]; rfl) ?_
      exact r_zret C (n_bool (by omega)) (oDec_at oX11_agrees 26 rfl) ⟨_, rfl, ⟨by omega, pu9_0, (owDN_fr fu9 rfl pu7)⟩⟩
    · skip
      refine r_iconst C (oDec_at oX11_agrees 23 rfl) (v := k1) (by rw [qk1]; rfl) ?_
      refine r_goto C (tgt := 49) (oDec_at oX11_agrees 24 rfl) (by decide) ?_
      exact r_zret C (n_bool (by omega)) (oDec_at oX11_agrees 26 rfl) ⟨_, rfl, ⟨by omega, pu9_0, (owDN_fr fu9 rfl pu7)⟩⟩
  · skip
    refine r_iconst C (oDec_at oX11_agrees 4 rfl) (v := k0) (by rw [qk0]; rfl) ?_
    exact r_zret C (n_bool (by omega)) (oDec_at oX11_agrees 5 rfl) ⟨_, rfl, ⟨by omega, hp1, hp3⟩⟩
set_option maxHeartbeats 4000000 in
set_option maxRecDepth 100000 in
theorem ct9_X11_seekWrongs (l : Launch) (E : oE) (s : oS) (a1 : Int32) (b : Nat) (R : Int) (W : Nat → List Int) (hp0 : owBC b R W s) (hp1 : owKV R W s) (hp2 : owLN s) (hp3 : owDN s) : oMet l 7 yX11_seekWrongs cX11_seekWrongs 5 (some .boolean) [(1, 6), (1, 7), (1, 8), (4, 4), (4, 5), (4, 6), (4, 7), (9, 0), (9, 1), (9, 2), (9, 3), (9, 4), (11, 16), (11, 17), (14, 9999), (16, 9999), (17, 9999), (18, 9999), (19, 9999), (24, 9999), (25, 9999), (26, 9999), (27, 9999), (28, 9999), (29, 9999), (30, 9999), (31, 9999)] E s [.ref (oad E 0), .int a1] (oPi (fun r u => (0 ≤ r.toInt ∧ r.toInt ≤ 1) ∧ (owKV R W u) ∧ (owLN u) ∧ (owDN u))) := by
  refine oMet.of (lv := [(0, .ref (oad E 0)), (1, .int a1)]) (by decide +kernel) (Nat.le_of_ble_eq_true rfl) rfl (fun J C hT => ?_)
  have C : oC l 7 cX11_seekWrongs RX11 5 (some .boolean) [(1, 6), (1, 7), (1, 8), (4, 4), (4, 5), (4, 6), (4, 7), (9, 0), (9, 1), (9, 2), (9, 3), (9, 4), (11, 16), (11, 17), (14, 9999), (16, 9999), (17, 9999), (18, 9999), (19, 9999), (24, 9999), (25, 9999), (26, 9999), (27, 9999), (28, 9999), (29, 9999), (30, 9999), (31, 9999)] E s (oPi (fun r u => (0 ≤ r.toInt ∧ r.toInt ≤ 1) ∧ (owKV R W u) ∧ (owLN u) ∧ (owDN u))) J := C
  obtain ⟨km1, qkm1⟩ : ∃ z : Int32, z = (-1) := ⟨_, rfl⟩
  have ekm1 : km1.toInt = (-1) := by rw [qkm1]; rfl
  obtain ⟨k0, qk0⟩ : ∃ z : Int32, z = 0 := ⟨_, rfl⟩
  have ek0 : k0.toInt = 0 := by rw [qk0]; rfl
  obtain ⟨k1, qk1⟩ : ∃ z : Int32, z = 1 := ⟨_, rfl⟩
  have ek1 : k1.toInt = 1 := by rw [qk1]; rfl
  obtain ⟨k28, qk28⟩ : ∃ z : Int32, z = 28 := ⟨_, rfl⟩
  have ek28 : k28.toInt = 28 := by rw [qk28]; rfl
  obtain ⟨k100, qk100⟩ : ∃ z : Int32, z = 100 := ⟨_, rfl⟩
  have ek100 : k100.toInt = 100 := by rw [qk100]; rfl
  have rg1 := n_rng a1
  have key : ∀ n : Nat, (∀ (t : oS) (x2 : Int32), (0 ≤ x2.toInt ∧ x2.toInt ≤ 24) → (owBC b R W t) → (owKV R W t) → (owLN t) → (owDN t) → (0 ≤ a1.toInt ∧ a1.toInt ≤ 4499) → 100 * (25 - x2.toInt) ≤ (n : Int) → J t 62 [(0, .ref (oad E 0)), (1, .int a1), (2, .int x2)] []) ∧ (∀ (t : oS) (x2 : Int32) (x3 : Int32) (x4 : Int32), (0 ≤ x2.toInt ∧ x2.toInt ≤ 23) → (0 ≤ x4.toInt ∧ x4.toInt ≤ 29) → (owBC b R W t) → (owKV R W t) → (owLN t) → (owDN t) → (0 ≤ a1.toInt ∧ a1.toInt ≤ 4499) → (-1 ≤ x3.toInt ∧ x3.toInt ≤ 28) → 100 * (25 - x2.toInt) - 10 - x4.toInt ≤ (n : Int) → J t 85 [(0, .ref (oad E 0)), (1, .int a1), (2, .int x2), (3, .int x3), (4, .int x4)] []) := by
    intro n
    induction n using Nat.strongRecOn with
    | _ n ih =>
      refine ⟨?_, ?_⟩
      · intro t x2  iv0 iv1 iv2 iv3 iv4 iv5 hmu
        have rx2 := n_rng x2
        refine r_iload_n C (j := 2) (oDec_at oX11_seekWrongs 34 rfl) rfl rfl ?_
        refine r_aload_n C (j := 0) (oDec_at oX11_seekWrongs 35 rfl) rfl rfl ?_
        refine r_getS (k := 1) (q2 := 4) C oCl11 rfl (by decide) flX11_19 rfl rfl rfl ks0 (oDec_at oX11_seekWrongs 36 rfl) (fun b1 rb1 mb1 hkb1 => ?_)
        obtain ⟨v2, ev2⟩ : ∃ z : Int32, (t).1 b1 4 = z := ⟨_, rfl⟩
        have gv2 : (t.1 b1 4).toInt = v2.toInt := congrArg Int32.toInt (ev2)
        refine r_getiN (k := 4) (lo := 0) (hi := 24) C v2 oCl4 hkb1 (by decide) flX11_140 rfl rfl (ev2) rfl rfl (oDec_at oX11_seekWrongs 37 rfl) (fun b3 b3h => ?_)
        refine r_icmp_ge C 157 (oDec_at oX11_seekWrongs 38 rfl) (by decide) (fun cd4 => ?_) (fun cd4 => ?_)
        · skip
          refine r_aload_n C (j := 0) (oDec_at oX11_seekWrongs 82 rfl) rfl rfl ?_
          refine r_iload_n C (j := 1) (oDec_at oX11_seekWrongs 83 rfl) rfl rfl ?_
          refine r_puti (k := 17) (lo := (-2147483648)) (hi := 2147483647) C oCl11 rfl (by decide) flX11_99 rfl rfl rfl rfl rfl rfl rfl rfl (n_rng _) (oDec_at oX11_seekWrongs 84 rfl) ?_
          refine r_iconst C (oDec_at oX11_seekWrongs 85 rfl) (v := k1) (by rw [qk1]; rfl) ?_
          exact r_zret C (n_bool (by omega)) (oDec_at oX11_seekWrongs 86 rfl) ⟨_, rfl, ⟨by omega, (owKV_fr (oFr_oneI (q := 11) (m := 17) rfl (by rfl)) rfl iv2), (owLN_fr (oFr_oneI (q := 11) (m := 17) rfl (by rfl)) rfl iv3), (owDN_fr (oFr_oneI (q := 11) (m := 17) rfl (by rfl)) rfl iv4)⟩⟩
        · skip
          refine r_aload_n C (j := 0) (oDec_at oX11_seekWrongs 39 rfl) rfl rfl ?_
          refine r_getK (k := 1) (b := b1) C oCl11 rfl (by decide) flX11_19 rfl rfl (rb1) (oDec_at oX11_seekWrongs 40 rfl) ?_
          refine r_iload_n C (j := 2) (oDec_at oX11_seekWrongs 41 rfl) rfl rfl ?_
          refine r_callVi C oCl4 hkb1 miX4_stepOf mlX11_175 (ct9_X4_stepOf l E (t) b1 hkb1 x2 iv3) (by decide) rfl rfl rfl (Nat.le_of_ble_eq_true rfl) (oDec_at oX11_seekWrongs 42 rfl) (fun r7 u6 pu6 fu6 => ?_)
          try dsimp only at pu6
          obtain ⟨pu6_0, pu6_1⟩ := pu6
          have hxu6 := oFr_nil fu6; subst hxu6
          have rr7 := n_rng r7
          refine r_istore_n C (lv' := [(0, .ref (oad E 0)), (1, .int a1), (2, .int x2), (3, .int r7)]) [1, 2, 3, 0] (oDec_at oX11_seekWrongs 43 rfl) rfl (by decide) rfl ?_
          refine r_iconst C (oDec_at oX11_seekWrongs 44 rfl) (v := k0) (by rw [qk0]; rfl) ?_
          refine r_istore C (lv' := [(0, .ref (oad E 0)), (1, .int a1), (2, .int x2), (3, .int r7), (4, .int k0)]) [1, 2, 3, 4, 0] (oDec_at oX11_seekWrongs 45 rfl) (by decide) rfl ?_
          exact (ih (n - 1) (by omega)).2 (t) x2 r7 k0  (by omega) (by omega) iv1 iv2 iv3 iv4 (by omega) (by omega) (by omega)
      · intro t x2 x3 x4  iv0 iv1 iv2 iv3 iv4 iv5 iv6 iv7 hmu
        have rx2 := n_rng x2
        have rx3 := n_rng x3
        have rx4 := n_rng x4
        refine r_iload C (j := 4) (oDec_at oX11_seekWrongs 46 rfl) rfl ?_
        refine r_bipush C (oDec_at oX11_seekWrongs 47 rfl) (v := k28) (by rw [qk28]; rfl) ?_
        refine r_icmp_gt C 142 (oDec_at oX11_seekWrongs 48 rfl) (by decide) (fun cd8 => ?_) (fun cd8 => ?_)
        · skip
          refine r_aload_n C (j := 0) (oDec_at oX11_seekWrongs 75 rfl) rfl rfl ?_
          refine r_getS (k := 2) (q2 := 4) C oCl11 rfl (by decide) flX11_23 rfl rfl rfl ks0 (oDec_at oX11_seekWrongs 76 rfl) (fun b9 rb9 mb9 hkb9 => ?_)
          refine r_iload_n C (j := 2) (oDec_at oX11_seekWrongs 77 rfl) rfl rfl ?_
          refine r_iload_n C (j := 3) (oDec_at oX11_seekWrongs 78 rfl) rfl rfl ?_
          refine r_callVv C oCl4 hkb9 miX4_setStep mlX11_336 (ct9_X4_setStep l E (t) b9 hkb9 x2 x3 iv4 (by omega)) (by decide) rfl rfl rfl (Nat.le_of_ble_eq_true rfl) (oDec_at oX11_seekWrongs 79 rfl) (fun u10 pu10 fu10 => ?_)
          try dsimp only at pu10
          obtain ⟨v12, ev12⟩ : ∃ z : Int32, x2 + Int32.ofInt 1 = z := ⟨_, rfl⟩
          have hv12 : v12.toInt = x2.toInt + 1 := n_inc ev12 (by decide) (by omega) (by omega)
          refine r_iinc C (j := 2) (lv' := [(0, .ref (oad E 0)), (1, .int a1), (2, .int v12), (3, .int x3), (4, .int x4)]) v12 [1, 2, 0, 3, 4] (oDec_at oX11_seekWrongs 80 rfl) rfl ev12 (by decide) rfl ?_
          refine r_pc C 154 rfl ?_
          refine r_goto C (tgt := 62) (oDec_at oX11_seekWrongs 81 rfl) (by decide) ?_
          refine r_pick C [0, 1, 2] rfl ?_
          exact (ih (n - 1) (by omega)).1 (u10) v12  (by omega) (owBC_fr fu10 rfl iv2) (owKV_fr fu10 rfl iv3) pu10 (owDN_fr fu10 rfl iv5) (by omega) (by omega)
        · skip
          refine r_iload_n C (j := 3) (oDec_at oX11_seekWrongs 49 rfl) rfl rfl ?_
          refine r_iconst C (oDec_at oX11_seekWrongs 50 rfl) (v := km1) (by rw [qkm1]; rfl) ?_
          refine r_icmp_eq C 142 (oDec_at oX11_seekWrongs 51 rfl) (by decide) (fun cd13 => ?_) (fun cd13 => ?_)
          · skip
            refine r_aload_n C (j := 0) (oDec_at oX11_seekWrongs 75 rfl) rfl rfl ?_
            refine r_getS (k := 2) (q2 := 4) C oCl11 rfl (by decide) flX11_23 rfl rfl rfl ks0 (oDec_at oX11_seekWrongs 76 rfl) (fun b14 rb14 mb14 hkb14 => ?_)
            refine r_iload_n C (j := 2) (oDec_at oX11_seekWrongs 77 rfl) rfl rfl ?_
            refine r_iload_n C (j := 3) (oDec_at oX11_seekWrongs 78 rfl) rfl rfl ?_
            refine r_callVv C oCl4 hkb14 miX4_setStep mlX11_336 (ct9_X4_setStep l E (t) b14 hkb14 x2 x3 iv4 (by omega)) (by decide) rfl rfl rfl (Nat.le_of_ble_eq_true rfl) (oDec_at oX11_seekWrongs 79 rfl) (fun u15 pu15 fu15 => ?_)
            try dsimp only at pu15
            obtain ⟨v17, ev17⟩ : ∃ z : Int32, x2 + Int32.ofInt 1 = z := ⟨_, rfl⟩
            have hv17 : v17.toInt = x2.toInt + 1 := n_inc ev17 (by decide) (by omega) (by omega)
            refine r_iinc C (j := 2) (lv' := [(0, .ref (oad E 0)), (1, .int a1), (2, .int v17), (3, .int x3), (4, .int x4)]) v17 [1, 2, 0, 3, 4] (oDec_at oX11_seekWrongs 80 rfl) rfl ev17 (by decide) rfl ?_
            refine r_pc C 154 rfl ?_
            refine r_goto C (tgt := 62) (oDec_at oX11_seekWrongs 81 rfl) (by decide) ?_
            refine r_pick C [0, 1, 2] rfl ?_
            exact (ih (n - 1) (by omega)).1 (u15) v17  (by omega) (owBC_fr fu15 rfl iv2) (owKV_fr fu15 rfl iv3) pu15 (owDN_fr fu15 rfl iv5) (by omega) (by omega)
          · skip
            refine r_aload_n C (j := 0) (oDec_at oX11_seekWrongs 52 rfl) rfl rfl ?_
            refine r_getS (k := 2) (q2 := 4) C oCl11 rfl (by decide) flX11_23 rfl rfl rfl ks0 (oDec_at oX11_seekWrongs 53 rfl) (fun b18 rb18 mb18 hkb18 => ?_)
            refine r_iload_n C (j := 2) (oDec_at oX11_seekWrongs 54 rfl) rfl rfl ?_
            refine r_iload C (j := 4) (oDec_at oX11_seekWrongs 55 rfl) rfl ?_
            refine r_callVv C oCl4 hkb18 miX4_setStep mlX11_336 (ct9_X4_setStep l E (t) b18 hkb18 x2 x4 iv4 (by omega)) (by decide) rfl rfl rfl (Nat.le_of_ble_eq_true rfl) (oDec_at oX11_seekWrongs 56 rfl) (fun u19 pu19 fu19 => ?_)
            try dsimp only at pu19
            refine r_iload C (j := 4) (oDec_at oX11_seekWrongs 57 rfl) rfl ?_
            refine r_pc C 109 rfl ?_
            refine r_iload_n C (j := 3) (oDec_at oX11_seekWrongs 58 rfl) rfl rfl ?_
            refine r_icmp_eq C 136 (oDec_at oX11_seekWrongs 59 rfl) (by decide) (fun cd21 => ?_) (fun cd21 => ?_)
            · skip
              obtain ⟨v22, ev22⟩ : ∃ z : Int32, x4 + Int32.ofInt 1 = z := ⟨_, rfl⟩
              have hv22 : v22.toInt = x4.toInt + 1 := n_inc ev22 (by decide) (by omega) (by omega)
              refine r_iinc C (j := 4) (lv' := [(0, .ref (oad E 0)), (1, .int a1), (2, .int x2), (3, .int x3), (4, .int v22)]) v22 [1, 2, 3, 4, 0] (oDec_at oX11_seekWrongs 73 rfl) rfl ev22 (by decide) rfl ?_
              refine r_goto C (tgt := 85) (oDec_at oX11_seekWrongs 74 rfl) (by decide) ?_
              exact (ih (n - 1) (by omega)).2 (u19) x2 x3 v22  (by omega) (by omega) (owBC_fr fu19 rfl iv2) (owKV_fr fu19 rfl iv3) pu19 (owDN_fr fu19 rfl iv5) (by omega) (by omega) (by omega)
            · skip
              refine r_aload_n C (j := 0) (oDec_at oX11_seekWrongs 60 rfl) rfl rfl ?_
              refine r_aload_n C (j := 0) (oDec_at oX11_seekWrongs 61 rfl) rfl rfl ?_
              refine r_getK (k := 2) (b := b18) C oCl11 rfl (by decide) flX11_23 rfl rfl (((fu19 0 2 rfl).2.2).trans (rb18)) (oDec_at oX11_seekWrongs 62 rfl) ?_
              refine r_iload_n C (j := 1) (oDec_at oX11_seekWrongs 63 rfl) rfl rfl ?_
              refine r_callVi C oCl11 rfl miX11_agrees mlX11_393 (ct9_X11_agrees l E (u19) b18 hkb18 a1 (b) (R) (W) (owBC_fr fu19 rfl iv2) (owKV_fr fu19 rfl iv3) pu19 (owDN_fr fu19 rfl iv5) (by omega)) (by decide) rfl rfl rfl (Nat.le_of_ble_eq_true rfl) (oDec_at oX11_seekWrongs 64 rfl) (fun r25 u24 pu24 fu24 => ?_)
              try dsimp only at pu24
              obtain ⟨pu24_0, pu24_1, pu24_2⟩ := pu24
              have rr25 := n_rng r25
              refine r_if_eq C 136 (oDec_at oX11_seekWrongs 65 rfl) (by decide) (fun cd26 => ?_) (fun cd26 => ?_)
              · skip
                obtain ⟨v27, ev27⟩ : ∃ z : Int32, x4 + Int32.ofInt 1 = z := ⟨_, rfl⟩
                have hv27 : v27.toInt = x4.toInt + 1 := n_inc ev27 (by decide) (by omega) (by omega)
                refine r_iinc C (j := 4) (lv' := [(0, .ref (oad E 0)), (1, .int a1), (2, .int x2), (3, .int x3), (4, .int v27)]) v27 [1, 2, 3, 4, 0] (oDec_at oX11_seekWrongs 73 rfl) rfl ev27 (by decide) rfl ?_
                refine r_goto C (tgt := 85) (oDec_at oX11_seekWrongs 74 rfl) (by decide) ?_
                exact (ih (n - 1) (by omega)).2 (u24) x2 x3 v27  (by omega) (by omega) (owBC_fr fu24 rfl (owBC_fr fu19 rfl iv2)) pu24_1 (owLN_fr fu24 rfl pu19) pu24_2 (by omega) (by omega) (by omega)
              · skip
                refine r_aload_n C (j := 0) (oDec_at oX11_seekWrongs 66 rfl) rfl rfl ?_
                refine r_bipush C (oDec_at oX11_seekWrongs 67 rfl) (v := k100) (by rw [qk100]; rfl) ?_
                refine r_iload_n C (j := 2) (oDec_at oX11_seekWrongs 68 rfl) rfl rfl ?_
                obtain ⟨v28, ev28⟩ : ∃ z : Int32, z = k100 * x2 := ⟨_, rfl⟩
                have hv28 : v28.toInt = 100 * x2.toInt := n_mulK' 100 ev28 ek100 (by omega) (by omega)
                refine r_imul C v28 (oDec_at oX11_seekWrongs 69 rfl) ev28 ?_
                refine r_iload C (j := 4) (oDec_at oX11_seekWrongs 70 rfl) rfl ?_
                obtain ⟨v29, ev29⟩ : ∃ z : Int32, z = v28 + x4 := ⟨_, rfl⟩
                have hv29 : v29.toInt = v28.toInt + x4.toInt := n_add ev29 (by omega) (by omega)
                refine r_iadd C v29 (oDec_at oX11_seekWrongs 71 rfl) ev29 ?_
                refine r_pc C 133 rfl ?_
                refine r_callVv C oCl11 rfl miX11_keepWrong mlX11_396 (ct_X11_keepWrong l E (u24) v29 ) (by decide) rfl rfl rfl (Nat.le_of_ble_eq_true rfl) (oDec_at oX11_seekWrongs 72 rfl) (fun u30 pu30 fu30 => ?_)
                try dsimp only at pu30
                obtain ⟨v32, ev32⟩ : ∃ z : Int32, x4 + Int32.ofInt 1 = z := ⟨_, rfl⟩
                have hv32 : v32.toInt = x4.toInt + 1 := n_inc ev32 (by decide) (by omega) (by omega)
                refine r_iinc C (j := 4) (lv' := [(0, .ref (oad E 0)), (1, .int a1), (2, .int x2), (3, .int x3), (4, .int v32)]) v32 [1, 2, 3, 4, 0] (oDec_at oX11_seekWrongs 73 rfl) rfl ev32 (by decide) rfl ?_
                refine r_goto C (tgt := 85) (oDec_at oX11_seekWrongs 74 rfl) (by decide) ?_
                exact (ih (n - 1) (by omega)).2 (u30) x2 x3 v32  (by omega) (by omega) (owBC_fr fu30 rfl (owBC_fr fu24 rfl (owBC_fr fu19 rfl iv2))) (owKV_fr fu30 rfl pu24_1) (owLN_fr fu30 rfl (owLN_fr fu24 rfl pu19)) (owDN_fr fu30 rfl pu24_2) (by omega) (by omega) (by omega)
  refine r_iload_n C (j := 1) (oDec_at oX11_seekWrongs 0 rfl) rfl rfl ?_
  refine r_callSi C miX11_follows mlX11_305 (ct_X11_follows l E (s) a1 ) (by decide) rfl rfl rfl (Nat.le_of_ble_eq_true rfl) (oDec_at oX11_seekWrongs 1 rfl) (fun r34 u33 pu33 fu33 => ?_)
  try dsimp only at pu33
  obtain ⟨pu33_0, pu33_1⟩ := pu33
  have hxu33 := oFr_nil fu33; subst hxu33
  have rr34 := n_rng r34
  refine r_if_eq C 18 (oDec_at oX11_seekWrongs 2 rfl) (by decide) (fun cd35 => ?_) (fun cd35 => ?_)
  · skip
    clear pu33_1
    refine r_iconst C (oDec_at oX11_seekWrongs 8 rfl) (v := k0) (by rw [qk0]; rfl) ?_
    exact r_zret C (n_bool (by omega)) (oDec_at oX11_seekWrongs 9 rfl) ⟨_, rfl, ⟨by omega, hp1, hp2, hp3⟩⟩
  · skip
    replace pu33_1 := pu33_1 (by omega)
    refine r_aload_n C (j := 0) (oDec_at oX11_seekWrongs 3 rfl) rfl rfl ?_
    refine r_getS (k := 1) (q2 := 4) C oCl11 rfl (by decide) flX11_19 rfl rfl rfl ks0 (oDec_at oX11_seekWrongs 4 rfl) (fun b36 rb36 mb36 hkb36 => ?_)
    refine r_iload_n C (j := 1) (oDec_at oX11_seekWrongs 5 rfl) rfl rfl ?_
    refine r_callSi C miX11_canBe mlX11_214 (ct_X11_canBe l E (s) b36 hkb36 a1 ) (by decide) rfl rfl rfl (Nat.le_of_ble_eq_true rfl) (oDec_at oX11_seekWrongs 6 rfl) (fun r38 u37 pu37 fu37 => ?_)
    try dsimp only at pu37
    have hxu37 := oFr_nil fu37; subst hxu37
    have rr38 := n_rng r38
    refine r_if_ne C 20 (oDec_at oX11_seekWrongs 7 rfl) (by decide) (fun cd39 => ?_) (fun cd39 => ?_)
    · skip
      refine r_iload_n C (j := 1) (oDec_at oX11_seekWrongs 10 rfl) rfl rfl ?_
      refine r_aload_n C (j := 0) (oDec_at oX11_seekWrongs 11 rfl) rfl rfl ?_
      obtain ⟨v40, ev40⟩ : ∃ z : Int32, (s).1 0 17 = z := ⟨_, rfl⟩
      have gv40 : (s.1 0 17).toInt = v40.toInt := congrArg Int32.toInt (ev40)
      have rv40 := n_rng v40
      refine r_geti (k := 17) (lo := (-2147483648)) (hi := 2147483647) C v40 oCl11 rfl (by decide) flX11_99 rfl rfl (ev40) rfl rfl (oDec_at oX11_seekWrongs 12 rfl) (fun _ _ => ?_)
      refine r_icmp_ne C 30 (oDec_at oX11_seekWrongs 13 rfl) (by decide) (fun cd41 => ?_) (fun cd41 => ?_)
      · skip
        refine r_aload_n C (j := 0) (oDec_at oX11_seekWrongs 16 rfl) rfl rfl ?_
        refine r_aload_n C (j := 0) (oDec_at oX11_seekWrongs 17 rfl) rfl rfl ?_
        refine r_getK (k := 1) (b := b36) C oCl11 rfl (by decide) flX11_19 rfl rfl (rb36) (oDec_at oX11_seekWrongs 18 rfl) ?_
        refine r_iload_n C (j := 1) (oDec_at oX11_seekWrongs 19 rfl) rfl rfl ?_
        refine r_callVi C oCl11 rfl miX11_agrees mlX11_393 (ct9_X11_agrees l E (s) b36 hkb36 a1 (b) (R) (W) hp0 hp1 hp2 hp3 (by omega)) (by decide) rfl rfl rfl (Nat.le_of_ble_eq_true rfl) (oDec_at oX11_seekWrongs 20 rfl) (fun r44 u43 pu43 fu43 => ?_)
        try dsimp only at pu43
        obtain ⟨pu43_0, pu43_1, pu43_2⟩ := pu43
        have rr44 := n_rng r44
        refine r_if_eq C 44 (oDec_at oX11_seekWrongs 21 rfl) (by decide) (fun cd45 => ?_) (fun cd45 => ?_)
        · skip
          refine r_aload_n C (j := 0) (oDec_at oX11_seekWrongs 24 rfl) rfl rfl ?_
          refine r_iconst C (oDec_at oX11_seekWrongs 25 rfl) (v := k0) (by rw [qk0]; rfl) ?_
          refine r_puti (k := 16) (lo := 0) (hi := 672) C oCl11 rfl (by decide) flX11_333 rfl rfl rfl rfl rfl rfl rfl rfl ⟨by omega, by omega⟩ (oDec_at oX11_seekWrongs 26 rfl) ?_
          refine r_aload_n C (j := 0) (oDec_at oX11_seekWrongs 27 rfl) rfl rfl ?_
          refine r_getS (k := 2) (q2 := 4) C oCl11 rfl (by decide) flX11_23 rfl rfl rfl ks0 (oDec_at oX11_seekWrongs 28 rfl) (fun b46 rb46 mb46 hkb46 => ?_)
          refine r_aload_n C (j := 0) (oDec_at oX11_seekWrongs 29 rfl) rfl rfl ?_
          refine r_pc C 54 rfl ?_
          refine r_getK (k := 1) (b := b36) C oCl11 rfl (by decide) flX11_19 rfl rfl ((show ((pI u43 0 16 k0)).2.2 0 1 = b36 + 1 from ((fu43 0 1 rfl).2.2).trans (rb36))) (oDec_at oX11_seekWrongs 30 rfl) ?_
          refine r_callVv C oCl4 hkb46 miX4_copyFrom mlX11_323 (ct9_X4_copyFrom l E ((pI u43 0 16 k0)) b46 hkb46 b36 hkb36 (owLN_fr (oFr_oneI (q := 11) (m := 16) rfl (by rfl)) rfl (owLN_fr fu43 rfl hp2))) (by decide) rfl rfl rfl (Nat.le_of_ble_eq_true rfl) (oDec_at oX11_seekWrongs 31 rfl) (fun u48 pu48 fu48 => ?_)
          try dsimp only at pu48
          refine r_iconst C (oDec_at oX11_seekWrongs 32 rfl) (v := k0) (by rw [qk0]; rfl) ?_
          refine r_istore_n C (lv' := [(0, .ref (oad E 0)), (1, .int a1), (2, .int k0)]) [1, 2, 0] (oDec_at oX11_seekWrongs 33 rfl) rfl (by decide) rfl ?_
          exact (key (100 * (25 - k0.toInt)).toNat).1 (u48) k0  (by omega) (owBC_fr fu48 rfl (owBC_fr (oFr_oneI (q := 11) (m := 16) rfl (by rfl)) rfl (owBC_fr fu43 rfl hp0))) (owKV_fr fu48 rfl (owKV_fr (oFr_oneI (q := 11) (m := 16) rfl (by rfl)) rfl pu43_1)) pu48 (owDN_fr fu48 rfl (owDN_fr (oFr_oneI (q := 11) (m := 16) rfl (by rfl)) rfl pu43_2)) (by omega) (by omega)
        · skip
          refine r_iconst C (oDec_at oX11_seekWrongs 22 rfl) (v := k0) (by rw [qk0]; rfl) ?_
          exact r_zret C (n_bool (by omega)) (oDec_at oX11_seekWrongs 23 rfl) ⟨_, rfl, ⟨by omega, pu43_1, (owLN_fr fu43 rfl hp2), pu43_2⟩⟩
      · skip
        refine r_iconst C (oDec_at oX11_seekWrongs 14 rfl) (v := k1) (by rw [qk1]; rfl) ?_
        exact r_zret C (n_bool (by omega)) (oDec_at oX11_seekWrongs 15 rfl) ⟨_, rfl, ⟨by omega, hp1, hp2, hp3⟩⟩
    · skip
      refine r_iconst C (oDec_at oX11_seekWrongs 8 rfl) (v := k0) (by rw [qk0]; rfl) ?_
      exact r_zret C (n_bool (by omega)) (oDec_at oX11_seekWrongs 9 rfl) ⟨_, rfl, ⟨by omega, hp1, hp2, hp3⟩⟩
