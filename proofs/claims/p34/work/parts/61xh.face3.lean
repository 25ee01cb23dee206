set_option maxHeartbeats 4000000 in
set_option maxRecDepth 100000 in
theorem ct9_X11_round (l : Launch) (E : oE) (s : oS) (a1 : Int32) (b : Nat) (R : Int) (W : Nat → List Int) (hp0 : owBC b R W s) (hp1 : owKV R W s) (hp2 : owLN s) (hp3 : owDN s) : oMet l 6 yX11_round cX11_round 3 (some .int) [(1, 6), (1, 7), (1, 8), (9, 0), (9, 1), (9, 2), (9, 3), (9, 4), (24, 9999), (25, 9999), (26, 9999), (27, 9999), (28, 9999), (29, 9999), (30, 9999), (31, 9999)] E s [.ref (oad E 0), .int a1] (oPi (fun r u => (owKV R W u) ∧ (owDN u))) := by
  refine oMet.of (lv := [(0, .ref (oad E 0)), (1, .int a1)]) (by decide +kernel) (Nat.le_of_ble_eq_true rfl) rfl (fun J C hT => ?_)
  have C : oC l 6 cX11_round RX11 3 (some .int) [(1, 6), (1, 7), (1, 8), (9, 0), (9, 1), (9, 2), (9, 3), (9, 4), (24, 9999), (25, 9999), (26, 9999), (27, 9999), (28, 9999), (29, 9999), (30, 9999), (31, 9999)] E s (oPi (fun r u => (owKV R W u) ∧ (owDN u))) J := C
  obtain ⟨km1, qkm1⟩ : ∃ z : Int32, z = (-1) := ⟨_, rfl⟩
  have ekm1 : km1.toInt = (-1) := by rw [qkm1]; rfl
  obtain ⟨k0, qk0⟩ : ∃ z : Int32, z = 0 := ⟨_, rfl⟩
  have ek0 : k0.toInt = 0 := by rw [qk0]; rfl
  obtain ⟨k3, qk3⟩ : ∃ z : Int32, z = 3 := ⟨_, rfl⟩
  have ek3 : k3.toInt = 3 := by rw [qk3]; rfl
  have rg1 := n_rng a1
  refine r_iload_n C (j := 1) (oDec_at oX11_round 0 rfl) rfl rfl ?_
  refine r_callSi C miX11_follows mlX11_305 (ct_X11_follows l E (s) a1 ) (by decide) rfl rfl rfl (Nat.le_of_ble_eq_true rfl) (oDec_at oX11_round 1 rfl) (fun r2 u1 pu1 fu1 => ?_)
  try dsimp only at pu1
  obtain ⟨pu1_0, pu1_1⟩ := pu1
  have hxu1 := oFr_nil fu1; subst hxu1
  have rr2 := n_rng r2
  refine r_if_eq C 23 (oDec_at oX11_round 2 rfl) (by decide) (fun cd3 => ?_) (fun cd3 => ?_)
  · skip
    clear pu1_1
    refine r_iconst C (oDec_at oX11_round 11 rfl) (v := km1) (by rw [qkm1]; rfl) ?_
    exact r_iret C (oDec_at oX11_round 12 rfl) ⟨_, rfl, ⟨hp1, hp3⟩⟩
  · skip
    replace pu1_1 := pu1_1 (by omega)
    refine r_iload_n C (j := 1) (oDec_at oX11_round 3 rfl) rfl rfl ?_
    refine r_iconst C (oDec_at oX11_round 4 rfl) (v := k3) (by rw [qk3]; rfl) ?_
    obtain ⟨v4, ev4⟩ : ∃ z : Int32, z = a1 - a1 / k3 * k3 := ⟨_, rfl⟩
    have hv4 := n_rem (k := 3) ev4 ek3 (by decide)
    have rv4 := n_rng v4
    refine r_irem C v4 (oDec_at oX11_round 5 rfl) (n_ne0 (by omega)) ev4 ?_
    refine r_if_ne C 23 (oDec_at oX11_round 6 rfl) (by decide) (fun cd5 => ?_) (fun cd5 => ?_)
    · skip
      refine r_iconst C (oDec_at oX11_round 11 rfl) (v := km1) (by rw [qkm1]; rfl) ?_
      exact r_iret C (oDec_at oX11_round 12 rfl) ⟨_, rfl, ⟨hp1, hp3⟩⟩
    · skip
      refine r_aload_n C (j := 0) (oDec_at oX11_round 7 rfl) rfl rfl ?_
      refine r_getS (k := 1) (q2 := 4) C oCl11 rfl (by decide) flX11_19 rfl rfl rfl ks0 (oDec_at oX11_round 8 rfl) (fun b6 rb6 mb6 hkb6 => ?_)
      obtain ⟨v7, ev7⟩ : ∃ z : Int32, (s).1 b6 5 = z := ⟨_, rfl⟩
      have gv7 : (s.1 b6 5).toInt = v7.toInt := congrArg Int32.toInt (ev7)
      refine r_getiN (k := 5) (lo := 0) (hi := 96) C v7 oCl4 hkb6 (by decide) flX11_147 rfl rfl (ev7) rfl rfl (oDec_at oX11_round 9 rfl) (fun b8 b8h => ?_)
      refine r_if_ne C 25 (oDec_at oX11_round 10 rfl) (by decide) (fun cd9 => ?_) (fun cd9 => ?_)
      · skip
        refine r_aload_n C (j := 0) (oDec_at oX11_round 13 rfl) rfl rfl ?_
        refine r_getF (k := 8) (b := 35) C oCl11 rfl (by decide) flX11_60 rfl rfl rfl (oDec_at oX11_round 14 rfl) ?_
        refine r_aload_n C (j := 0) (oDec_at oX11_round 15 rfl) rfl rfl ?_
        refine r_getK (k := 1) (b := b6) C oCl11 rfl (by decide) flX11_19 rfl rfl (rb6) (oDec_at oX11_round 16 rfl) ?_
        refine r_aload_n C (j := 0) (oDec_at oX11_round 17 rfl) rfl rfl ?_
        refine r_getS (k := 4) (q2 := 0) C oCl11 rfl (by decide) flX11_32 rfl rfl rfl ks1 (oDec_at oX11_round 18 rfl) (fun b11 rb11 mb11 hkb11 => ?_)
        obtain ⟨v12, ev12⟩ : ∃ z : Int32, (s).1 b11 6 = z := ⟨_, rfl⟩
        have gv12 : (s.1 b11 6).toInt = v12.toInt := congrArg Int32.toInt (ev12)
        refine r_getiN (k := 6) (lo := 2) (hi := 12) C v12 oCl0 hkb11 (by decide) flX11_156 rfl rfl (ev12) rfl rfl (oDec_at oX11_round 19 rfl) (fun b13 b13h => ?_)
        refine r_pc C 40 rfl ?_
        refine r_iload_n C (j := 1) (oDec_at oX11_round 20 rfl) rfl rfl ?_
        refine r_callVv C oCl1 rfl miX1_hearRound mlX11_308 (ct9_X1_hearRound l E (s) b6 hkb6 v12 a1 hp2 hp3 (by omega) (by omega)) (by decide) rfl rfl rfl (Nat.le_of_ble_eq_true rfl) (oDec_at oX11_round 21 rfl) (fun u14 pu14 fu14 => ?_)
        try dsimp only at pu14
        refine r_aload_n C (j := 0) (oDec_at oX11_round 22 rfl) rfl rfl ?_
        refine r_getF (k := 7) (b := 31) C oCl11 rfl (by decide) flX11_53 rfl rfl rfl (oDec_at oX11_round 23 rfl) ?_
        refine r_aload_n C (j := 0) (oDec_at oX11_round 24 rfl) rfl rfl ?_
        refine r_getF (k := 8) (b := 35) C oCl11 rfl (by decide) flX11_60 rfl rfl rfl (oDec_at oX11_round 25 rfl) ?_
        refine r_pc C 52 rfl ?_
        refine r_iconst C (oDec_at oX11_round 26 rfl) (v := k0) (by rw [qk0]; rfl) ?_
        refine r_callVi C oCl2 rfl miX2_nextBroken mlX11_232 (ct9_X2_nextBroken l E (u14) k0 (b) (R) (W) (owBC_fr fu14 rfl hp0) (owKV_fr fu14 rfl hp1) pu14) (by decide) rfl rfl rfl (Nat.le_of_ble_eq_true rfl) (oDec_at oX11_round 27 rfl) (fun r17 u16 pu16 fu16 => ?_)
        try dsimp only at pu16
        obtain ⟨pu16_0, pu16_1⟩ := pu16
        have rr17 := n_rng r17
        refine r_istore_n C (lv' := [(0, .ref (oad E 0)), (1, .int a1), (2, .int r17)]) [1, 2, 0] (oDec_at oX11_round 28 rfl) rfl (by decide) rfl ?_
        refine r_iload_n C (j := 2) (oDec_at oX11_round 29 rfl) rfl rfl ?_
        refine r_iconst C (oDec_at oX11_round 30 rfl) (v := km1) (by rw [qkm1]; rfl) ?_
        refine r_icmp_ne C 66 (oDec_at oX11_round 31 rfl) (by decide) (fun cd18 => ?_) (fun cd18 => ?_)
        · skip
          refine r_aload_n C (j := 0) (oDec_at oX11_round 34 rfl) rfl rfl ?_
          refine r_getF (k := 8) (b := 35) C oCl11 rfl (by decide) flX11_60 rfl rfl rfl (oDec_at oX11_round 35 rfl) ?_
          refine r_iload_n C (j := 2) (oDec_at oX11_round 36 rfl) rfl rfl ?_
          refine r_callVi C oCl1 rfl miX1_tickOf mlX11_236 (ct_X1_tickOf l E (u16) r17 ) (by decide) rfl rfl rfl (Nat.le_of_ble_eq_true rfl) (oDec_at oX11_round 37 rfl) (fun r20 u19 pu19 fu19 => ?_)
          try dsimp only at pu19
          have hxu19 := oFr_nil fu19; subst hxu19
          have rr20 := n_rng r20
          exact r_iret C (oDec_at oX11_round 38 rfl) ⟨_, rfl, ⟨pu16_0, (owDN_fr fu16 rfl pu14)⟩⟩
        · skip
          refine r_iconst C (oDec_at oX11_round 32 rfl) (v := km1) (by rw [qkm1]; rfl) ?_
          refine r_goto C (tgt := 74) (oDec_at oX11_round 33 rfl) (by decide) ?_
          exact r_iret C (oDec_at oX11_round 38 rfl) ⟨_, rfl, ⟨pu16_0, (owDN_fr fu16 rfl pu14)⟩⟩
      · skip
        refine r_iconst C (oDec_at oX11_round 11 rfl) (v := km1) (by rw [qkm1]; rfl) ?_
        exact r_iret C (oDec_at oX11_round 12 rfl) ⟨_, rfl, ⟨hp1, hp3⟩⟩
set_option maxHeartbeats 4000000 in
set_option maxRecDepth 100000 in
theorem ct9_X11_wrong (l : Launch) (E : oE) (s : oS) (a1 : Int32) (a2 : Int32) (b : Nat) (R : Int) (W : Nat → List Int) (hp0 : owBC b R W s) (hp1 : owKV R W s) (hp2 : owLN s) (hp3 : owDN s) : oMet l 8 yX11_wrong cX11_wrong 3 (some .int) [(1, 6), (1, 7), (1, 8), (4, 4), (4, 5), (4, 6), (4, 7), (9, 0), (9, 1), (9, 2), (9, 3), (9, 4), (11, 16), (11, 17), (14, 9999), (16, 9999), (17, 9999), (18, 9999), (19, 9999), (24, 9999), (25, 9999), (26, 9999), (27, 9999), (28, 9999), (29, 9999), (30, 9999), (31, 9999)] E s [.ref (oad E 0), .int a1, .int a2] (oPi (fun r u => (owKV R W u) ∧ (owLN u) ∧ (owDN u))) := by
  refine oMet.of (lv := [(0, .ref (oad E 0)), (1, .int a1), (2, .int a2)]) (by decide +kernel) (Nat.le_of_ble_eq_true rfl) rfl (fun J C hT => ?_)
  have C : oC l 8 cX11_wrong RX11 3 (some .int) [(1, 6), (1, 7), (1, 8), (4, 4), (4, 5), (4, 6), (4, 7), (9, 0), (9, 1), (9, 2), (9, 3), (9, 4), (11, 16), (11, 17), (14, 9999), (16, 9999), (17, 9999), (18, 9999), (19, 9999), (24, 9999), (25, 9999), (26, 9999), (27, 9999), (28, 9999), (29, 9999), (30, 9999), (31, 9999)] E s (oPi (fun r u => (owKV R W u) ∧ (owLN u) ∧ (owDN u))) J := C
  obtain ⟨km1, qkm1⟩ : ∃ z : Int32, z = (-1) := ⟨_, rfl⟩
  have ekm1 : km1.toInt = (-1) := by rw [qkm1]; rfl
  have rg1 := n_rng a1
  have rg2 := n_rng a2
  refine r_iload_n C (j := 2) (oDec_at oX11_wrong 0 rfl) rfl rfl ?_
  refine r_iconst C (oDec_at oX11_wrong 1 rfl) (v := km1) (by rw [qkm1]; rfl) ?_
  refine r_icmp_lt C 13 (oDec_at oX11_wrong 2 rfl) (by decide) (fun cd1 => ?_) (fun cd1 => ?_)
  · skip
    refine r_iconst C (oDec_at oX11_wrong 7 rfl) (v := km1) (by rw [qkm1]; rfl) ?_
    exact r_iret C (oDec_at oX11_wrong 8 rfl) ⟨_, rfl, ⟨hp1, hp2, hp3⟩⟩
  · skip
    refine r_aload_n C (j := 0) (oDec_at oX11_wrong 3 rfl) rfl rfl ?_
    refine r_iload_n C (j := 1) (oDec_at oX11_wrong 4 rfl) rfl rfl ?_
    refine r_callVi C oCl11 rfl miX11_seekWrongs mlX11_330 (ct9_X11_seekWrongs l E (s) a1 (b) (R) (W) hp0 hp1 hp2 hp3) (by decide) rfl rfl rfl (Nat.le_of_ble_eq_true rfl) (oDec_at oX11_wrong 5 rfl) (fun r3 u2 pu2 fu2 => ?_)
    try dsimp only at pu2
    obtain ⟨pu2_0, pu2_1, pu2_2, pu2_3⟩ := pu2
    have rr3 := n_rng r3
    refine r_if_ne C 15 (oDec_at oX11_wrong 6 rfl) (by decide) (fun cd4 => ?_) (fun cd4 => ?_)
    · skip
      refine r_iload_n C (j := 2) (oDec_at oX11_wrong 9 rfl) rfl rfl ?_
      refine r_iconst C (oDec_at oX11_wrong 10 rfl) (v := km1) (by rw [qkm1]; rfl) ?_
      refine r_icmp_ne C 25 (oDec_at oX11_wrong 11 rfl) (by decide) (fun cd5 => ?_) (fun cd5 => ?_)
      · skip
        refine r_iload_n C (j := 2) (oDec_at oX11_wrong 15 rfl) rfl rfl ?_
        refine r_aload_n C (j := 0) (oDec_at oX11_wrong 16 rfl) rfl rfl ?_
        obtain ⟨v6, ev6⟩ : ∃ z : Int32, (u2).1 0 16 = z := ⟨_, rfl⟩
        have gv6 : (u2.1 0 16).toInt = v6.toInt := congrArg Int32.toInt (ev6)
        refine r_geti (k := 16) (lo := 0) (hi := 672) C v6 oCl11 rfl (by decide) flX11_333 rfl rfl (ev6) rfl rfl (oDec_at oX11_wrong 17 rfl) (fun b7 b7h => ?_)
        refine r_icmp_ge C 51 (oDec_at oX11_wrong 18 rfl) (by decide) (fun cd8 => ?_) (fun cd8 => ?_)
        · skip
          refine r_iconst C (oDec_at oX11_wrong 29 rfl) (v := km1) (by rw [qkm1]; rfl) ?_
          exact r_iret C (oDec_at oX11_wrong 30 rfl) ⟨_, rfl, ⟨pu2_1, pu2_2, pu2_3⟩⟩
        · skip
          refine r_iload_n C (j := 2) (oDec_at oX11_wrong 19 rfl) rfl rfl ?_
          refine r_aload_n C (j := 0) (oDec_at oX11_wrong 20 rfl) rfl rfl ?_
          refine r_getF (k := 15) (b := 70) C oCl11 rfl (by decide) flX11_96 rfl rfl rfl (oDec_at oX11_wrong 21 rfl) ?_
          obtain ⟨v9, ev9⟩ : ∃ z : Int32, Int32.ofNat 672 = z := ⟨_, rfl⟩
          have hv9 : v9.toInt = 672 := by rw [← ev9]; rfl
          refine r_alen0 (n := 672) C v9 rfl (by decide) rfl rfl (by decide) ev9 (oDec_at oX11_wrong 22 rfl) ?_
          refine r_icmp_ge C 51 (oDec_at oX11_wrong 23 rfl) (by decide) (fun cd10 => ?_) (fun cd10 => ?_)
          · skip
            refine r_iconst C (oDec_at oX11_wrong 29 rfl) (v := km1) (by rw [qkm1]; rfl) ?_
            exact r_iret C (oDec_at oX11_wrong 30 rfl) ⟨_, rfl, ⟨pu2_1, pu2_2, pu2_3⟩⟩
          · skip
            refine r_aload_n C (j := 0) (oDec_at oX11_wrong 24 rfl) rfl rfl ?_
            refine r_getF (k := 15) (b := 70) C oCl11 rfl (by decide) flX11_96 rfl rfl rfl (oDec_at oX11_wrong 25 rfl) ?_
            refine r_iload_n C (j := 2) (oDec_at oX11_wrong 26 rfl) rfl rfl ?_
            obtain ⟨v12, ev12⟩ : ∃ z : Int32, (u2).1 70 a2.toNatClampNeg = z := ⟨_, rfl⟩
            have gv12 : (u2.1 70 a2.toNatClampNeg).toInt = v12.toInt := congrArg Int32.toInt (ev12)
            have rv12 := n_rng v12
            refine r_iald (n := 672) (lo := (-2147483648)) (hi := 2147483647) C v12 rfl (by decide) rfl rfl ⟨by omega, by omega⟩ (by decide) ev12 rfl rfl (oDec_at oX11_wrong 27 rfl) (fun _ _ => ?_)
            refine r_goto C (tgt := 52) (oDec_at oX11_wrong 28 rfl) (by decide) ?_
            exact r_iret C (oDec_at oX11_wrong 30 rfl) ⟨_, rfl, ⟨pu2_1, pu2_2, pu2_3⟩⟩
      · skip
        refine r_aload_n C (j := 0) (oDec_at oX11_wrong 12 rfl) rfl rfl ?_
        obtain ⟨v13, ev13⟩ : ∃ z : Int32, (u2).1 0 16 = z := ⟨_, rfl⟩
        have gv13 : (u2.1 0 16).toInt = v13.toInt := congrArg Int32.toInt (ev13)
        refine r_geti (k := 16) (lo := 0) (hi := 672) C v13 oCl11 rfl (by decide) flX11_333 rfl rfl (ev13) rfl rfl (oDec_at oX11_wrong 13 rfl) (fun b14 b14h => ?_)
        exact r_iret C (oDec_at oX11_wrong 14 rfl) ⟨_, rfl, ⟨pu2_1, pu2_2, pu2_3⟩⟩
    · skip
      refine r_iconst C (oDec_at oX11_wrong 7 rfl) (v := km1) (by rw [qkm1]; rfl) ?_
      exact r_iret C (oDec_at oX11_wrong 8 rfl) ⟨_, rfl, ⟨pu2_1, pu2_2, pu2_3⟩⟩
set_option maxHeartbeats 4000000 in
set_option maxRecDepth 100000 in
theorem ct9_X11_change (l : Launch) (E : oE) (s : oS) (a1 : Int32) (a2 : Int32)  (hp0 : owLN s) : oMet l 4 yX11_change cX11_change 4 (some .int) [(3, 0), (4, 6), (7, 0), (10, 3), (11, 17), (16, 9999)] E s [.ref (oad E 0), .int a1, .int a2] (oPi (fun r u => (owLN u))) := by
  refine oMet.of (lv := [(0, .ref (oad E 0)), (1, .int a1), (2, .int a2)]) (by decide +kernel) (Nat.le_of_ble_eq_true rfl) rfl (fun J C hT => ?_)
  have C : oC l 4 cX11_change RX11 4 (some .int) [(3, 0), (4, 6), (7, 0), (10, 3), (11, 17), (16, 9999)] E s (oPi (fun r u => (owLN u))) J := C
  obtain ⟨km2, qkm2⟩ : ∃ z : Int32, z = (-2) := ⟨_, rfl⟩
  have ekm2 : km2.toInt = (-2) := by rw [qkm2]; rfl
  obtain ⟨km1, qkm1⟩ : ∃ z : Int32, z = (-1) := ⟨_, rfl⟩
  have ekm1 : km1.toInt = (-1) := by rw [qkm1]; rfl
  obtain ⟨k28, qk28⟩ : ∃ z : Int32, z = 28 := ⟨_, rfl⟩
  have ek28 : k28.toInt = 28 := by rw [qk28]; rfl
  have rg1 := n_rng a1
  have rg2 := n_rng a2
  refine r_iload_n C (j := 1) (oDec_at oX11_change 0 rfl) rfl rfl ?_
  refine r_if_lt C 25 (oDec_at oX11_change 1 rfl) (by decide) (fun cd1 => ?_) (fun cd1 => ?_)
  · skip
    refine r_iconst C (oDec_at oX11_change 12 rfl) (v := km1) (by rw [qkm1]; rfl) ?_
    exact r_iret C (oDec_at oX11_change 13 rfl) ⟨_, rfl, hp0⟩
  · skip
    refine r_iload_n C (j := 1) (oDec_at oX11_change 2 rfl) rfl rfl ?_
    refine r_aload_n C (j := 0) (oDec_at oX11_change 3 rfl) rfl rfl ?_
    refine r_getS (k := 1) (q2 := 4) C oCl11 rfl (by decide) flX11_19 rfl rfl rfl ks0 (oDec_at oX11_change 4 rfl) (fun b2 rb2 mb2 hkb2 => ?_)
    obtain ⟨v3, ev3⟩ : ∃ z : Int32, (s).1 b2 4 = z := ⟨_, rfl⟩
    have gv3 : (s.1 b2 4).toInt = v3.toInt := congrArg Int32.toInt (ev3)
    refine r_getiN (k := 4) (lo := 0) (hi := 24) C v3 oCl4 hkb2 (by decide) flX11_140 rfl rfl (ev3) rfl rfl (oDec_at oX11_change 5 rfl) (fun b4 b4h => ?_)
    refine r_icmp_ge C 25 (oDec_at oX11_change 6 rfl) (by decide) (fun cd5 => ?_) (fun cd5 => ?_)
    · skip
      refine r_iconst C (oDec_at oX11_change 12 rfl) (v := km1) (by rw [qkm1]; rfl) ?_
      exact r_iret C (oDec_at oX11_change 13 rfl) ⟨_, rfl, hp0⟩
    · skip
      refine r_iload_n C (j := 2) (oDec_at oX11_change 7 rfl) rfl rfl ?_
      refine r_if_lt C 25 (oDec_at oX11_change 8 rfl) (by decide) (fun cd6 => ?_) (fun cd6 => ?_)
      · skip
        refine r_iconst C (oDec_at oX11_change 12 rfl) (v := km1) (by rw [qkm1]; rfl) ?_
        exact r_iret C (oDec_at oX11_change 13 rfl) ⟨_, rfl, hp0⟩
      · skip
        refine r_iload_n C (j := 2) (oDec_at oX11_change 9 rfl) rfl rfl ?_
        refine r_bipush C (oDec_at oX11_change 10 rfl) (v := k28) (by rw [qk28]; rfl) ?_
        refine r_icmp_le C 27 (oDec_at oX11_change 11 rfl) (by decide) (fun cd7 => ?_) (fun cd7 => ?_)
        · skip
          refine r_aload_n C (j := 0) (oDec_at oX11_change 14 rfl) rfl rfl ?_
          refine r_getK (k := 1) (b := b2) C oCl11 rfl (by decide) flX11_19 rfl rfl (rb2) (oDec_at oX11_change 15 rfl) ?_
          refine r_iload_n C (j := 1) (oDec_at oX11_change 16 rfl) rfl rfl ?_
          refine r_callVi C oCl4 hkb2 miX4_stepOf mlX11_175 (ct9_X4_stepOf l E (s) b2 hkb2 a1 hp0) (by decide) rfl rfl rfl (Nat.le_of_ble_eq_true rfl) (oDec_at oX11_change 17 rfl) (fun r10 u9 pu9 fu9 => ?_)
          try dsimp only at pu9
          obtain ⟨pu9_0, pu9_1⟩ := pu9
          have hxu9 := oFr_nil fu9; subst hxu9
          have rr10 := n_rng r10
          refine r_istore_n C (lv' := [(0, .ref (oad E 0)), (1, .int a1), (2, .int a2), (3, .int r10)]) [1, 2, 3, 0] (oDec_at oX11_change 18 rfl) rfl (by decide) rfl ?_
          refine r_aload_n C (j := 0) (oDec_at oX11_change 19 rfl) rfl rfl ?_
          refine r_getK (k := 1) (b := b2) C oCl11 rfl (by decide) flX11_19 rfl rfl (rb2) (oDec_at oX11_change 20 rfl) ?_
          refine r_iload_n C (j := 1) (oDec_at oX11_change 21 rfl) rfl rfl ?_
          refine r_pc C 41 rfl ?_
          refine r_iload_n C (j := 2) (oDec_at oX11_change 22 rfl) rfl rfl ?_
          refine r_callVv C oCl4 hkb2 miX4_setStep mlX11_336 (ct9_X4_setStep l E (s) b2 hkb2 a1 a2 hp0 (by omega)) (by decide) rfl rfl rfl (Nat.le_of_ble_eq_true rfl) (oDec_at oX11_change 23 rfl) (fun u12 pu12 fu12 => ?_)
          try dsimp only at pu12
          refine r_aload_n C (j := 0) (oDec_at oX11_change 24 rfl) rfl rfl ?_
          refine r_callVv C oCl11 rfl miX11_forget mlX11_131 (ct_X11_forget l E (u12)  ) (by decide) rfl rfl rfl (Nat.le_of_ble_eq_true rfl) (oDec_at oX11_change 25 rfl) (fun u14 pu14 fu14 => ?_)
          try dsimp only at pu14
          refine r_iload_n C (j := 3) (oDec_at oX11_change 26 rfl) rfl rfl ?_
          refine r_iconst C (oDec_at oX11_change 27 rfl) (v := km1) (by rw [qkm1]; rfl) ?_
          refine r_pc C 51 rfl ?_
          refine r_icmp_ne C 59 (oDec_at oX11_change 28 rfl) (by decide) (fun cd16 => ?_) (fun cd16 => ?_)
          · skip
            refine r_iload_n C (j := 3) (oDec_at oX11_change 31 rfl) rfl rfl ?_
            exact r_iret C (oDec_at oX11_change 32 rfl) ⟨_, rfl, (owLN_fr fu14 rfl pu12)⟩
          · skip
            refine r_bipush C (oDec_at oX11_change 29 rfl) (v := km2) (by rw [qkm2]; rfl) ?_
            refine r_goto C (tgt := 60) (oDec_at oX11_change 30 rfl) (by decide) ?_
            exact r_iret C (oDec_at oX11_change 32 rfl) ⟨_, rfl, (owLN_fr fu14 rfl pu12)⟩
        · skip
          refine r_iconst C (oDec_at oX11_change 12 rfl) (v := km1) (by rw [qkm1]; rfl) ?_
          exact r_iret C (oDec_at oX11_change 13 rfl) ⟨_, rfl, hp0⟩
set_option maxHeartbeats 4000000 in
set_option maxRecDepth 100000 in
theorem ct9_X11_draw (l : Launch) (E : oE) (s : oS) (a1 : Int32) (a2 : Int32) (a3 : Int32)  (hp0 : owLN s) : oMet l 2 yX11_draw cX11_draw 8 (some .int) [(3, 0), (4, 4), (4, 5), (4, 6), (4, 7), (7, 0), (10, 3), (11, 17), (16, 9999), (17, 9999), (18, 9999), (19, 9999)] E s [.ref (oad E 0), .int a1, .int a2, .int a3] (oPi (fun r u => (owLN u))) := by
  refine oMet.of (lv := [(0, .ref (oad E 0)), (1, .int a1), (2, .int a2), (3, .int a3)]) (by decide +kernel) (Nat.le_of_ble_eq_true rfl) rfl (fun J C hT => ?_)
  have C : oC l 2 cX11_draw RX11 8 (some .int) [(3, 0), (4, 4), (4, 5), (4, 6), (4, 7), (7, 0), (10, 3), (11, 17), (16, 9999), (17, 9999), (18, 9999), (19, 9999)] E s (oPi (fun r u => (owLN u))) J := C
  obtain ⟨km1, qkm1⟩ : ∃ z : Int32, z = (-1) := ⟨_, rfl⟩
  have ekm1 : km1.toInt = (-1) := by rw [qkm1]; rfl
  obtain ⟨k0, qk0⟩ : ∃ z : Int32, z = 0 := ⟨_, rfl⟩
  have ek0 : k0.toInt = 0 := by rw [qk0]; rfl
  obtain ⟨k1, qk1⟩ : ∃ z : Int32, z = 1 := ⟨_, rfl⟩
  have ek1 : k1.toInt = 1 := by rw [qk1]; rfl
  obtain ⟨k2, qk2⟩ : ∃ z : Int32, z = 2 := ⟨_, rfl⟩
  have ek2 : k2.toInt = 2 := by rw [qk2]; rfl
  obtain ⟨k3, qk3⟩ : ∃ z : Int32, z = 3 := ⟨_, rfl⟩
  have ek3 : k3.toInt = 3 := by rw [qk3]; rfl
  obtain ⟨k4, qk4⟩ : ∃ z : Int32, z = 4 := ⟨_, rfl⟩
  have ek4 : k4.toInt = 4 := by rw [qk4]; rfl
  obtain ⟨k24, qk24⟩ : ∃ z : Int32, z = 24 := ⟨_, rfl⟩
  have ek24 : k24.toInt = 24 := by rw [qk24]; rfl
  obtain ⟨k28, qk28⟩ : ∃ z : Int32, z = 28 := ⟨_, rfl⟩
  have ek28 : k28.toInt = 28 := by rw [qk28]; rfl
  obtain ⟨k64, qk64⟩ : ∃ z : Int32, z = 64 := ⟨_, rfl⟩
  have ek64 : k64.toInt = 64 := by rw [qk64]; rfl
  have rg1 := n_rng a1
  have rg2 := n_rng a2
  have rg3 := n_rng a3
  have key : ∀ n : Nat, (∀ (t : oS) (x4 : Int32) (x5 : Int32), (0 ≤ x5.toInt ∧ x5.toInt ≤ 24) → (1 ≤ a1.toInt ∧ a1.toInt ≤ 24) → (0 ≤ a2.toInt ∧ a2.toInt ≤ 28) → (owLN t) → 25 - x5.toInt ≤ (n : Int) → J t 36 [(0, .ref (oad E 0)), (1, .int a1), (2, .int a2), (4, .int x4), (5, .int x5)] []) := by
    intro n
    induction n using Nat.strongRecOn with
    | _ n ih =>
      skip
      · intro t x4 x5  iv0 iv1 iv2 iv3 hmu
        have rx4 := n_rng x4
        have rx5 := n_rng x5
        refine r_iload C (j := 4) (oDec_at oX11_draw 20 rfl) rfl ?_
        refine r_iload_n C (j := 1) (oDec_at oX11_draw 21 rfl) rfl rfl ?_
        refine r_icmp_ge C 112 (oDec_at oX11_draw 22 rfl) (by decide) (fun cd1 => ?_) (fun cd1 => ?_)
        · skip
          refine r_aload_n C (j := 0) (oDec_at oX11_draw 60 rfl) rfl rfl ?_
          refine r_callVv C oCl11 rfl miX11_forget mlX11_131 (ct_X11_forget l E (t)  ) (by decide) rfl rfl rfl (Nat.le_of_ble_eq_true rfl) (oDec_at oX11_draw 61 rfl) (fun u2 pu2 fu2 => ?_)
          try dsimp only at pu2
          refine r_aload_n C (j := 0) (oDec_at oX11_draw 62 rfl) rfl rfl ?_
          refine r_getS (k := 1) (q2 := 4) C oCl11 rfl (by decide) flX11_19 rfl rfl rfl ks0 (oDec_at oX11_draw 63 rfl) (fun b4 rb4 mb4 hkb4 => ?_)
          obtain ⟨v5, ev5⟩ : ∃ z : Int32, (u2).1 b4 5 = z := ⟨_, rfl⟩
          have gv5 : (t.1 b4 5).toInt = v5.toInt := congrArg Int32.toInt (((fu2 b4 5 (by rw [hkb4]; rfl)).1).symm.trans ev5)
          have ggv5 : ((u2).1 b4 5).toInt = v5.toInt := congrArg Int32.toInt ev5
          refine r_getiN (k := 5) (lo := 0) (hi := 96) C v5 oCl4 hkb4 (by decide) flX11_147 rfl rfl (ev5) rfl rfl (oDec_at oX11_draw 64 rfl) (fun b6 b6h => ?_)
          exact r_iret C (oDec_at oX11_draw 65 rfl) ⟨_, rfl, (owLN_fr fu2 rfl iv3)⟩
        · skip
          refine r_iload C (j := 3) (oDec_at oX11_draw 23 rfl) rfl ?_
          refine r_callSi C miX11_nextSeed mlX11_343 (ct_X11_nextSeed l E (t) x4 ) (by decide) rfl rfl rfl (Nat.le_of_ble_eq_true rfl) (oDec_at oX11_draw 24 rfl) (fun r8 u7 pu7 fu7 => ?_)
          try dsimp only at pu7
          have hxu7 := oFr_nil fu7; subst hxu7
          have rr8 := n_rng r8
          refine r_istore C (lv' := [(0, .ref (oad E 0)), (1, .int a1), (2, .int a2), (4, .int r8), (5, .int x5)]) [1, 2, 3, 0, 4] (oDec_at oX11_draw 25 rfl) (by decide) rfl ?_
          refine r_iload C (j := 3) (oDec_at oX11_draw 26 rfl) rfl ?_
          refine r_bipush C (oDec_at oX11_draw 27 rfl) (v := k64) (by rw [qk64]; rfl) ?_
          obtain ⟨v9, ev9⟩ : ∃ z : Int32, z = r8 / k64 := ⟨_, rfl⟩
          have hv9 := n_divP (k := 64) ev9 ek64 (by decide)
          have rv9 := n_rng v9
          refine r_idiv C v9 (oDec_at oX11_draw 28 rfl) (n_ne0 (by omega)) ev9 ?_
          refine r_pc C 54 rfl ?_
          refine r_iload_n C (j := 2) (oDec_at oX11_draw 29 rfl) rfl rfl ?_
          refine r_iconst C (oDec_at oX11_draw 30 rfl) (v := k1) (by rw [qk1]; rfl) ?_
          obtain ⟨v10, ev10⟩ : ∃ z : Int32, z = a2 + k1 := ⟨_, rfl⟩
          have hv10 : v10.toInt = a2.toInt + k1.toInt := n_add ev10 (by omega) (by omega)
          refine r_iadd C v10 (oDec_at oX11_draw 31 rfl) ev10 ?_
          obtain ⟨v11, ev11⟩ : ∃ z : Int32, z = v9 - v9 / v10 * v10 := ⟨_, rfl⟩
          have rv11 := n_rng v11
          refine r_irem C v11 (oDec_at oX11_draw 32 rfl) (n_ne0 (by omega)) ev11 ?_
          refine r_istore C (lv' := [(0, .ref (oad E 0)), (1, .int a1), (2, .int a2), (4, .int r8), (5, .int x5), (6, .int v11)]) [1, 2, 3, 4, 5, 0] (oDec_at oX11_draw 33 rfl) (by decide) rfl ?_
          refine r_iload C (j := 3) (oDec_at oX11_draw 34 rfl) rfl ?_
          refine r_pc C 62 rfl ?_
          refine r_callSi C miX11_nextSeed mlX11_343 (ct_X11_nextSeed l E (t) r8 ) (by decide) rfl rfl rfl (Nat.le_of_ble_eq_true rfl) (oDec_at oX11_draw 35 rfl) (fun r13 u12 pu12 fu12 => ?_)
          try dsimp only at pu12
          have hxu12 := oFr_nil fu12; subst hxu12
          have rr13 := n_rng r13
          refine r_istore C (lv' := [(0, .ref (oad E 0)), (1, .int a1), (2, .int a2), (4, .int r13), (5, .int x5), (6, .int v11)]) [1, 2, 3, 0, 4, 5] (oDec_at oX11_draw 36 rfl) (by decide) rfl ?_
          refine r_iload C (j := 3) (oDec_at oX11_draw 37 rfl) rfl ?_
          refine r_bipush C (oDec_at oX11_draw 38 rfl) (v := k64) (by rw [qk64]; rfl) ?_
          obtain ⟨v14, ev14⟩ : ∃ z : Int32, z = r13 / k64 := ⟨_, rfl⟩
          have hv14 := n_divP (k := 64) ev14 ek64 (by decide)
          have rv14 := n_rng v14
          refine r_idiv C v14 (oDec_at oX11_draw 39 rfl) (n_ne0 (by omega)) ev14 ?_
          refine r_iconst C (oDec_at oX11_draw 40 rfl) (v := k4) (by rw [qk4]; rfl) ?_
          refine r_pc C 73 rfl ?_
          obtain ⟨v15, ev15⟩ : ∃ z : Int32, z = v14 - v14 / k4 * k4 := ⟨_, rfl⟩
          have hv15 := n_rem (k := 4) ev15 ek4 (by decide)
          have rv15 := n_rng v15
          refine r_irem C v15 (oDec_at oX11_draw 41 rfl) (n_ne0 (by omega)) ev15 ?_
          refine r_istore C (lv' := [(0, .ref (oad E 0)), (1, .int a1), (2, .int a2), (4, .int r13), (5, .int x5), (6, .int v11), (7, .int v15)]) [1, 2, 3, 4, 5, 6, 0] (oDec_at oX11_draw 42 rfl) (by decide) rfl ?_
          refine r_aload_n C (j := 0) (oDec_at oX11_draw 43 rfl) rfl rfl ?_
          refine r_getS (k := 1) (q2 := 4) C oCl11 rfl (by decide) flX11_19 rfl rfl rfl ks0 (oDec_at oX11_draw 44 rfl) (fun b16 rb16 mb16 hkb16 => ?_)
          refine r_iload C (j := 5) (oDec_at oX11_draw 45 rfl) rfl ?_
          refine r_iload C (j := 6) (oDec_at oX11_draw 46 rfl) rfl ?_
          refine r_pc C 84 rfl ?_
          refine r_if_ne C 91 (oDec_at oX11_draw 47 rfl) (by decide) (fun cd17 => ?_) (fun cd17 => ?_)
          · skip
            refine r_iload C (j := 6) (oDec_at oX11_draw 50 rfl) rfl ?_
            refine r_iconst C (oDec_at oX11_draw 51 rfl) (v := k3) (by rw [qk3]; rfl) ?_
            refine r_icmp_ne C 101 (oDec_at oX11_draw 52 rfl) (by decide) (fun cd18 => ?_) (fun cd18 => ?_)
            · skip
              refine r_iconst C (oDec_at oX11_draw 55 rfl) (v := k2) (by rw [qk2]; rfl) ?_
              refine r_callVi C oCl4 hkb16 miX4_add mlX11_346 (ct9_X4_add l E (t) b16 hkb16 v11 k2 iv3) (by decide) rfl rfl rfl (Nat.le_of_ble_eq_true rfl) (oDec_at oX11_draw 56 rfl) (fun r20 u19 pu19 fu19 => ?_)
              try dsimp only at pu19
              obtain ⟨pu19_0, pu19_1, pu19_2, pu19_3, pu19_4⟩ := pu19
              have rr20 := n_rng r20
              refine r_pop C (oDec_at oX11_draw 57 rfl) rfl ?_
              obtain ⟨v21, ev21⟩ : ∃ z : Int32, x5 + Int32.ofInt 1 = z := ⟨_, rfl⟩
              have hv21 : v21.toInt = x5.toInt + 1 := n_inc ev21 (by decide) (by omega) (by omega)
              refine r_iinc C (j := 4) (lv' := [(0, .ref (oad E 0)), (1, .int a1), (2, .int a2), (4, .int r13), (5, .int v21), (6, .int v11), (7, .int v15)]) v21 [1, 2, 3, 4, 0, 5, 6] (oDec_at oX11_draw 58 rfl) rfl ev21 (by decide) rfl ?_
              refine r_goto C (tgt := 36) (oDec_at oX11_draw 59 rfl) (by decide) ?_
              refine r_pick C [0, 1, 2, 3, 4] rfl ?_
              exact (ih (n - 1) (by omega)) (u19) r13 v21  (by omega) (by omega) (by omega) pu19_3 (by omega)
            · skip
              refine r_iconst C (oDec_at oX11_draw 53 rfl) (v := k4) (by rw [qk4]; rfl) ?_
              refine r_goto C (tgt := 102) (oDec_at oX11_draw 54 rfl) (by decide) ?_
              refine r_callVi C oCl4 hkb16 miX4_add mlX11_346 (ct9_X4_add l E (t) b16 hkb16 v11 k4 iv3) (by decide) rfl rfl rfl (Nat.le_of_ble_eq_true rfl) (oDec_at oX11_draw 56 rfl) (fun r23 u22 pu22 fu22 => ?_)
              try dsimp only at pu22
              obtain ⟨pu22_0, pu22_1, pu22_2, pu22_3, pu22_4⟩ := pu22
              have rr23 := n_rng r23
              refine r_pop C (oDec_at oX11_draw 57 rfl) rfl ?_
              obtain ⟨v24, ev24⟩ : ∃ z : Int32, x5 + Int32.ofInt 1 = z := ⟨_, rfl⟩
              have hv24 : v24.toInt = x5.toInt + 1 := n_inc ev24 (by decide) (by omega) (by omega)
              refine r_iinc C (j := 4) (lv' := [(0, .ref (oad E 0)), (1, .int a1), (2, .int a2), (4, .int r13), (5, .int v24), (6, .int v11), (7, .int v15)]) v24 [1, 2, 3, 4, 0, 5, 6] (oDec_at oX11_draw 58 rfl) rfl ev24 (by decide) rfl ?_
              refine r_goto C (tgt := 36) (oDec_at oX11_draw 59 rfl) (by decide) ?_
              refine r_pick C [0, 1, 2, 3, 4] rfl ?_
              exact (ih (n - 1) (by omega)) (u22) r13 v24  (by omega) (by omega) (by omega) pu22_3 (by omega)
          · skip
            refine r_iconst C (oDec_at oX11_draw 48 rfl) (v := k1) (by rw [qk1]; rfl) ?_
            refine r_goto C (tgt := 102) (oDec_at oX11_draw 49 rfl) (by decide) ?_
            refine r_callVi C oCl4 hkb16 miX4_add mlX11_346 (ct9_X4_add l E (t) b16 hkb16 v11 k1 iv3) (by decide) rfl rfl rfl (Nat.le_of_ble_eq_true rfl) (oDec_at oX11_draw 56 rfl) (fun r26 u25 pu25 fu25 => ?_)
            try dsimp only at pu25
            obtain ⟨pu25_0, pu25_1, pu25_2, pu25_3, pu25_4⟩ := pu25
            have rr26 := n_rng r26
            refine r_pop C (oDec_at oX11_draw 57 rfl) rfl ?_
            obtain ⟨v27, ev27⟩ : ∃ z : Int32, x5 + Int32.ofInt 1 = z := ⟨_, rfl⟩
            have hv27 : v27.toInt = x5.toInt + 1 := n_inc ev27 (by decide) (by omega) (by omega)
            refine r_iinc C (j := 4) (lv' := [(0, .ref (oad E 0)), (1, .int a1), (2, .int a2), (4, .int r13), (5, .int v27), (6, .int v11), (7, .int v15)]) v27 [1, 2, 3, 4, 0, 5, 6] (oDec_at oX11_draw 58 rfl) rfl ev27 (by decide) rfl ?_
            refine r_goto C (tgt := 36) (oDec_at oX11_draw 59 rfl) (by decide) ?_
            refine r_pick C [0, 1, 2, 3, 4] rfl ?_
            exact (ih (n - 1) (by omega)) (u25) r13 v27  (by omega) (by omega) (by omega) pu25_3 (by omega)
  refine r_iload_n C (j := 1) (oDec_at oX11_draw 0 rfl) rfl rfl ?_
  refine r_iconst C (oDec_at oX11_draw 1 rfl) (v := k1) (by rw [qk1]; rfl) ?_
  refine r_icmp_lt C 21 (oDec_at oX11_draw 2 rfl) (by decide) (fun cd28 => ?_) (fun cd28 => ?_)
  · skip
    refine r_iconst C (oDec_at oX11_draw 11 rfl) (v := km1) (by rw [qkm1]; rfl) ?_
    exact r_iret C (oDec_at oX11_draw 12 rfl) ⟨_, rfl, hp0⟩
  · skip
    refine r_iload_n C (j := 1) (oDec_at oX11_draw 3 rfl) rfl rfl ?_
    refine r_bipush C (oDec_at oX11_draw 4 rfl) (v := k24) (by rw [qk24]; rfl) ?_
    refine r_icmp_gt C 21 (oDec_at oX11_draw 5 rfl) (by decide) (fun cd29 => ?_) (fun cd29 => ?_)
    · skip
      refine r_iconst C (oDec_at oX11_draw 11 rfl) (v := km1) (by rw [qkm1]; rfl) ?_
      exact r_iret C (oDec_at oX11_draw 12 rfl) ⟨_, rfl, hp0⟩
    · skip
      refine r_iload_n C (j := 2) (oDec_at oX11_draw 6 rfl) rfl rfl ?_
      refine r_if_lt C 21 (oDec_at oX11_draw 7 rfl) (by decide) (fun cd30 => ?_) (fun cd30 => ?_)
      · skip
        refine r_iconst C (oDec_at oX11_draw 11 rfl) (v := km1) (by rw [qkm1]; rfl) ?_
        exact r_iret C (oDec_at oX11_draw 12 rfl) ⟨_, rfl, hp0⟩
      · skip
        refine r_iload_n C (j := 2) (oDec_at oX11_draw 8 rfl) rfl rfl ?_
        refine r_bipush C (oDec_at oX11_draw 9 rfl) (v := k28) (by rw [qk28]; rfl) ?_
        refine r_icmp_le C 23 (oDec_at oX11_draw 10 rfl) (by decide) (fun cd31 => ?_) (fun cd31 => ?_)
        · skip
          refine r_aload_n C (j := 0) (oDec_at oX11_draw 13 rfl) rfl rfl ?_
          refine r_getS (k := 1) (q2 := 4) C oCl11 rfl (by decide) flX11_19 rfl rfl rfl ks0 (oDec_at oX11_draw 14 rfl) (fun b32 rb32 mb32 hkb32 => ?_)
          refine r_callVv C oCl4 hkb32 miX4_clear mlX11_340 (ct9_X4_clear l E (s) b32 hkb32 hp0) (by decide) rfl rfl rfl (Nat.le_of_ble_eq_true rfl) (oDec_at oX11_draw 15 rfl) (fun u33 pu33 fu33 => ?_)
          try dsimp only at pu33
          obtain ⟨pu33_0, pu33_1, pu33_2, pu33_3, pu33_4⟩ := pu33
          refine r_iload_n C (j := 3) (oDec_at oX11_draw 16 rfl) rfl rfl ?_
          refine r_istore C (lv' := [(0, .ref (oad E 0)), (1, .int a1), (2, .int a2), (3, .int a3), (4, .int a3)]) [1, 2, 3, 4, 0] (oDec_at oX11_draw 17 rfl) (by decide) rfl ?_
          refine r_iconst C (oDec_at oX11_draw 18 rfl) (v := k0) (by rw [qk0]; rfl) ?_
          refine r_pc C 34 rfl ?_
          refine r_istore C (lv' := [(0, .ref (oad E 0)), (1, .int a1), (2, .int a2), (3, .int a3), (4, .int a3), (5, .int k0)]) [1, 2, 3, 4, 5, 0] (oDec_at oX11_draw 19 rfl) (by decide) rfl ?_
          refine r_pick C [0, 1, 2, 4, 5] rfl ?_
          exact (key (25 - k0.toInt).toNat) (u33) a3 k0  (by omega) (by omega) (by omega) pu33_2 (by omega)
        · skip
          refine r_iconst C (oDec_at oX11_draw 11 rfl) (v := km1) (by rw [qkm1]; rfl) ?_
          exact r_iret C (oDec_at oX11_draw 12 rfl) ⟨_, rfl, hp0⟩
