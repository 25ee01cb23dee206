set_option maxHeartbeats 4000000 in
set_option maxRecDepth 100000 in
theorem ct9_X11_breach (l : Launch) (E : oE) (s : oS) (a1 : Int32) (a2 : Int32) (a3 : Int32) (b : Nat) (R : Int) (W : Nat → List Int) (hp0 : owBC b R W s) (hp1 : owKV R W s) (hp2 : owLN s) (hp3 : owDN s) : oMet l 7 yX11_breach cX11_breach 5 (some .int) [(1, 6), (1, 7), (1, 8), (9, 0), (9, 1), (9, 2), (9, 3), (9, 4), (24, 9999), (25, 9999), (26, 9999), (27, 9999), (28, 9999), (29, 9999), (30, 9999), (31, 9999)] E s [.ref (oad E 0), .int a1, .int a2, .int a3] (oPi (fun r u => (owKV R W u) ∧ (owDN u))) := by
  refine oMet.of (lv := [(0, .ref (oad E 0)), (1, .int a1), (2, .int a2), (3, .int a3)]) (by decide +kernel) (Nat.le_of_ble_eq_true rfl) rfl (fun J C hT => ?_)
  have C : oC l 7 cX11_breach RX11 5 (some .int) [(1, 6), (1, 7), (1, 8), (9, 0), (9, 1), (9, 2), (9, 3), (9, 4), (24, 9999), (25, 9999), (26, 9999), (27, 9999), (28, 9999), (29, 9999), (30, 9999), (31, 9999)] E s (oPi (fun r u => (owKV R W u) ∧ (owDN u))) J := C
  obtain ⟨km1, qkm1⟩ : ∃ z : Int32, z = (-1) := ⟨_, rfl⟩
  have ekm1 : km1.toInt = (-1) := by rw [qkm1]; rfl
  obtain ⟨k0, qk0⟩ : ∃ z : Int32, z = 0 := ⟨_, rfl⟩
  have ek0 : k0.toInt = 0 := by rw [qk0]; rfl
  obtain ⟨k1, qk1⟩ : ∃ z : Int32, z = 1 := ⟨_, rfl⟩
  have ek1 : k1.toInt = 1 := by rw [qk1]; rfl
  have rg1 := n_rng a1
  have rg2 := n_rng a2
  have rg3 := n_rng a3
  refine r_iload_n C (j := 3) (oDec_at oX11_breach 0 rfl) rfl rfl ?_
  refine r_if_lt C 18 (oDec_at oX11_breach 1 rfl) (by decide) (fun cd1 => ?_) (fun cd1 => ?_)
  · skip
    refine r_iconst C (oDec_at oX11_breach 10 rfl) (v := km1) (by rw [qkm1]; rfl) ?_
    exact r_iret C (oDec_at oX11_breach 11 rfl) ⟨_, rfl, ⟨hp1, hp3⟩⟩
  · skip
    refine r_iload_n C (j := 3) (oDec_at oX11_breach 2 rfl) rfl rfl ?_
    refine r_iconst C (oDec_at oX11_breach 3 rfl) (v := k1) (by rw [qk1]; rfl) ?_
    refine r_icmp_gt C 18 (oDec_at oX11_breach 4 rfl) (by decide) (fun cd2 => ?_) (fun cd2 => ?_)
    · skip
      refine r_iconst C (oDec_at oX11_breach 10 rfl) (v := km1) (by rw [qkm1]; rfl) ?_
      exact r_iret C (oDec_at oX11_breach 11 rfl) ⟨_, rfl, ⟨hp1, hp3⟩⟩
    · skip
      refine r_aload_n C (j := 0) (oDec_at oX11_breach 5 rfl) rfl rfl ?_
      refine r_iload_n C (j := 1) (oDec_at oX11_breach 6 rfl) rfl rfl ?_
      refine r_iload_n C (j := 2) (oDec_at oX11_breach 7 rfl) rfl rfl ?_
      refine r_callVi C oCl11 rfl miX11_hearTwo mlX11_228 (ct9_X11_hearTwo l E (s) a1 a2 (b) (R) (W) hp0 hp1 hp2 hp3) (by decide) rfl rfl rfl (Nat.le_of_ble_eq_true rfl) (oDec_at oX11_breach 8 rfl) (fun r4 u3 pu3 fu3 => ?_)
      try dsimp only at pu3
      obtain ⟨pu3_0, pu3_1⟩ := pu3
      have rr4 := n_rng r4
      refine r_if_ne C 20 (oDec_at oX11_breach 9 rfl) (by decide) (fun cd5 => ?_) (fun cd5 => ?_)
      · skip
        refine r_aload_n C (j := 0) (oDec_at oX11_breach 12 rfl) rfl rfl ?_
        refine r_getF (k := 7) (b := 31) C oCl11 rfl (by decide) flX11_53 rfl rfl rfl (oDec_at oX11_breach 13 rfl) ?_
        refine r_aload_n C (j := 0) (oDec_at oX11_breach 14 rfl) rfl rfl ?_
        refine r_getF (k := 8) (b := 35) C oCl11 rfl (by decide) flX11_60 rfl rfl rfl (oDec_at oX11_breach 15 rfl) ?_
        refine r_iconst C (oDec_at oX11_breach 16 rfl) (v := k0) (by rw [qk0]; rfl) ?_
        refine r_callVi C oCl2 rfl miX2_nextBroken mlX11_232 (ct9_X2_nextBroken l E (u3) k0 (b) (R) (W) (owBC_fr fu3 rfl hp0) (owKV_fr fu3 rfl hp1) pu3_1) (by decide) rfl rfl rfl (Nat.le_of_ble_eq_true rfl) (oDec_at oX11_breach 17 rfl) (fun r7 u6 pu6 fu6 => ?_)
        try dsimp only at pu6
        obtain ⟨pu6_0, pu6_1⟩ := pu6
        have rr7 := n_rng r7
        refine r_pc C 32 rfl ?_
        refine r_istore C (lv' := [(0, .ref (oad E 0)), (1, .int a1), (2, .int a2), (3, .int a3), (4, .int r7)]) [1, 2, 3, 4, 0] (oDec_at oX11_breach 18 rfl) (by decide) rfl ?_
        refine r_iload C (j := 4) (oDec_at oX11_breach 19 rfl) rfl ?_
        refine r_iconst C (oDec_at oX11_breach 20 rfl) (v := km1) (by rw [qkm1]; rfl) ?_
        refine r_icmp_ne C 42 (oDec_at oX11_breach 21 rfl) (by decide) (fun cd8 => ?_) (fun cd8 => ?_)
        · skip
          refine r_iload_n C (j := 3) (oDec_at oX11_breach 24 rfl) rfl rfl ?_
          refine r_if_ne C 58 (oDec_at oX11_breach 25 rfl) (by decide) (fun cd9 => ?_) (fun cd9 => ?_)
          · skip
            refine r_aload_n C (j := 0) (oDec_at oX11_breach 31 rfl) rfl rfl ?_
            refine r_getF (k := 7) (b := 31) C oCl11 rfl (by decide) flX11_53 rfl rfl rfl (oDec_at oX11_breach 32 rfl) ?_
            refine r_aload_n C (j := 0) (oDec_at oX11_breach 33 rfl) rfl rfl ?_
            refine r_getF (k := 8) (b := 35) C oCl11 rfl (by decide) flX11_60 rfl rfl rfl (oDec_at oX11_breach 34 rfl) ?_
            refine r_iload C (j := 4) (oDec_at oX11_breach 35 rfl) rfl ?_
            refine r_callVi C oCl2 rfl miX2_ruleAt mlX11_239 (ct9_X2_ruleAt l E (u6) r7 (b) (R) (W) (owBC_fr fu6 rfl (owBC_fr fu3 rfl hp0)) pu6_0 (owDN_fr fu6 rfl pu3_1)) (by decide) rfl rfl rfl (Nat.le_of_ble_eq_true rfl) (oDec_at oX11_breach 36 rfl) (fun r11 u10 pu10 fu10 => ?_)
            try dsimp only at pu10
            have rr11 := n_rng r11
            refine r_pc C 71 rfl ?_
            exact r_iret C (oDec_at oX11_breach 37 rfl) ⟨_, rfl, ⟨pu10, (owDN_fr fu10 rfl (owDN_fr fu6 rfl pu3_1))⟩⟩
          · skip
            refine r_aload_n C (j := 0) (oDec_at oX11_breach 26 rfl) rfl rfl ?_
            refine r_getF (k := 8) (b := 35) C oCl11 rfl (by decide) flX11_60 rfl rfl rfl (oDec_at oX11_breach 27 rfl) ?_
            refine r_iload C (j := 4) (oDec_at oX11_breach 28 rfl) rfl ?_
            refine r_callVi C oCl1 rfl miX1_tickOf mlX11_236 (ct_X1_tickOf l E (u6) r7 ) (by decide) rfl rfl rfl (Nat.le_of_ble_eq_true rfl) (oDec_at oX11_breach 29 rfl) (fun r13 u12 pu12 fu12 => ?_)
            try dsimp only at pu12
            have hxu12 := oFr_nil fu12; subst hxu12
            have rr13 := n_rng r13
            refine r_goto C (tgt := 71) (oDec_at oX11_breach 30 rfl) (by decide) ?_
            exact r_iret C (oDec_at oX11_breach 37 rfl) ⟨_, rfl, ⟨pu6_0, (owDN_fr fu6 rfl pu3_1)⟩⟩
        · skip
          refine r_iconst C (oDec_at oX11_breach 22 rfl) (v := km1) (by rw [qkm1]; rfl) ?_
          exact r_iret C (oDec_at oX11_breach 23 rfl) ⟨_, rfl, ⟨pu6_0, (owDN_fr fu6 rfl pu3_1)⟩⟩
      · skip
        refine r_iconst C (oDec_at oX11_breach 10 rfl) (v := km1) (by rw [qkm1]; rfl) ?_
        exact r_iret C (oDec_at oX11_breach 11 rfl) ⟨_, rfl, ⟨(owKV_fr fu3 rfl hp1), pu3_1⟩⟩
set_option maxHeartbeats 4000000 in
set_option maxRecDepth 100000 in
theorem ct9_X11_together (l : Launch) (E : oE) (s : oS) (a1 : Int32) (a2 : Int32) (a3 : Int32) (b : Nat) (R : Int) (W : Nat → List Int) (hp0 : owBC b R W s) (hp1 : owKV R W s) (hp2 : owLN s) (hp3 : owDN s) : oMet l 7 yX11_together cX11_together 4 (some .int) [(1, 6), (1, 7), (1, 8), (9, 0), (9, 1), (9, 2), (9, 3), (9, 4), (24, 9999), (25, 9999), (26, 9999), (27, 9999), (28, 9999), (29, 9999), (30, 9999), (31, 9999)] E s [.ref (oad E 0), .int a1, .int a2, .int a3] (oPi (fun r u => (owKV R W u) ∧ (owDN u))) := by
  refine oMet.of (lv := [(0, .ref (oad E 0)), (1, .int a1), (2, .int a2), (3, .int a3)]) (by decide +kernel) (Nat.le_of_ble_eq_true rfl) rfl (fun J C hT => ?_)
  have C : oC l 7 cX11_together RX11 4 (some .int) [(1, 6), (1, 7), (1, 8), (9, 0), (9, 1), (9, 2), (9, 3), (9, 4), (24, 9999), (25, 9999), (26, 9999), (27, 9999), (28, 9999), (29, 9999), (30, 9999), (31, 9999)] E s (oPi (fun r u => (owKV R W u) ∧ (owDN u))) J := C
  obtain ⟨km1, qkm1⟩ : ∃ z : Int32, z = (-1) := ⟨_, rfl⟩
  have ekm1 : km1.toInt = (-1) := by rw [qkm1]; rfl
  obtain ⟨k1, qk1⟩ : ∃ z : Int32, z = 1 := ⟨_, rfl⟩
  have ek1 : k1.toInt = 1 := by rw [qk1]; rfl
  obtain ⟨k2, qk2⟩ : ∃ z : Int32, z = 2 := ⟨_, rfl⟩
  have ek2 : k2.toInt = 2 := by rw [qk2]; rfl
  have rg1 := n_rng a1
  have rg2 := n_rng a2
  have rg3 := n_rng a3
  refine r_iload_n C (j := 3) (oDec_at oX11_together 0 rfl) rfl rfl ?_
  refine r_if_lt C 18 (oDec_at oX11_together 1 rfl) (by decide) (fun cd1 => ?_) (fun cd1 => ?_)
  · skip
    refine r_iconst C (oDec_at oX11_together 10 rfl) (v := km1) (by rw [qkm1]; rfl) ?_
    exact r_iret C (oDec_at oX11_together 11 rfl) ⟨_, rfl, ⟨hp1, hp3⟩⟩
  · skip
    refine r_iload_n C (j := 3) (oDec_at oX11_together 2 rfl) rfl rfl ?_
    refine r_iconst C (oDec_at oX11_together 3 rfl) (v := k2) (by rw [qk2]; rfl) ?_
    refine r_icmp_gt C 18 (oDec_at oX11_together 4 rfl) (by decide) (fun cd2 => ?_) (fun cd2 => ?_)
    · skip
      refine r_iconst C (oDec_at oX11_together 10 rfl) (v := km1) (by rw [qkm1]; rfl) ?_
      exact r_iret C (oDec_at oX11_together 11 rfl) ⟨_, rfl, ⟨hp1, hp3⟩⟩
    · skip
      refine r_aload_n C (j := 0) (oDec_at oX11_together 5 rfl) rfl rfl ?_
      refine r_iload_n C (j := 1) (oDec_at oX11_together 6 rfl) rfl rfl ?_
      refine r_iload_n C (j := 2) (oDec_at oX11_together 7 rfl) rfl rfl ?_
      refine r_callVi C oCl11 rfl miX11_hearTwo mlX11_228 (ct9_X11_hearTwo l E (s) a1 a2 (b) (R) (W) hp0 hp1 hp2 hp3) (by decide) rfl rfl rfl (Nat.le_of_ble_eq_true rfl) (oDec_at oX11_together 8 rfl) (fun r4 u3 pu3 fu3 => ?_)
      try dsimp only at pu3
      obtain ⟨pu3_0, pu3_1⟩ := pu3
      have rr4 := n_rng r4
      refine r_if_ne C 20 (oDec_at oX11_together 9 rfl) (by decide) (fun cd5 => ?_) (fun cd5 => ?_)
      · skip
        refine r_iload_n C (j := 3) (oDec_at oX11_together 12 rfl) rfl rfl ?_
        refine r_if_ne C 32 (oDec_at oX11_together 13 rfl) (by decide) (fun cd6 => ?_) (fun cd6 => ?_)
        · skip
          refine r_iload_n C (j := 3) (oDec_at oX11_together 18 rfl) rfl rfl ?_
          refine r_iconst C (oDec_at oX11_together 19 rfl) (v := k1) (by rw [qk1]; rfl) ?_
          refine r_icmp_ne C 51 (oDec_at oX11_together 20 rfl) (by decide) (fun cd7 => ?_) (fun cd7 => ?_)
          · skip
            refine r_aload_n C (j := 0) (oDec_at oX11_together 27 rfl) rfl rfl ?_
            refine r_getF (k := 8) (b := 35) C oCl11 rfl (by decide) flX11_60 rfl rfl rfl (oDec_at oX11_together 28 rfl) ?_
            obtain ⟨v8, ev8⟩ : ∃ z : Int32, (u3).1 35 8 = z := ⟨_, rfl⟩
            have gv8 : (u3.1 35 8).toInt = v8.toInt := congrArg Int32.toInt (ev8)
            have rv8 := n_rng v8
            refine r_getiN (k := 8) (lo := (-2147483648)) (hi := 2147483647) C v8 oCl1 rfl (by decide) flX11_249 rfl rfl (ev8) rfl rfl (oDec_at oX11_together 29 rfl) (fun _ _ => ?_)
            exact r_iret C (oDec_at oX11_together 30 rfl) ⟨_, rfl, ⟨(owKV_fr fu3 rfl hp1), pu3_1⟩⟩
          · skip
            refine r_aload_n C (j := 0) (oDec_at oX11_together 21 rfl) rfl rfl ?_
            refine r_getF (k := 7) (b := 31) C oCl11 rfl (by decide) flX11_53 rfl rfl rfl (oDec_at oX11_together 22 rfl) ?_
            refine r_aload_n C (j := 0) (oDec_at oX11_together 23 rfl) rfl rfl ?_
            refine r_getF (k := 8) (b := 35) C oCl11 rfl (by decide) flX11_60 rfl rfl rfl (oDec_at oX11_together 24 rfl) ?_
            refine r_callVi C oCl2 rfl miX2_countBroken mlX11_245 (ct9_X2_countBroken l E (u3)  (b) (R) (W) (owBC_fr fu3 rfl hp0) (owKV_fr fu3 rfl hp1) pu3_1) (by decide) rfl rfl rfl (Nat.le_of_ble_eq_true rfl) (oDec_at oX11_together 25 rfl) (fun r10 u9 pu9 fu9 => ?_)
            try dsimp only at pu9
            have rr10 := n_rng r10
            refine r_goto C (tgt := 58) (oDec_at oX11_together 26 rfl) (by decide) ?_
            exact r_iret C (oDec_at oX11_together 30 rfl) ⟨_, rfl, ⟨pu9, (owDN_fr fu9 rfl pu3_1)⟩⟩
        · skip
          refine r_aload_n C (j := 0) (oDec_at oX11_together 14 rfl) rfl rfl ?_
          refine r_getF (k := 8) (b := 35) C oCl11 rfl (by decide) flX11_60 rfl rfl rfl (oDec_at oX11_together 15 rfl) ?_
          obtain ⟨v11, ev11⟩ : ∃ z : Int32, (u3).1 35 7 = z := ⟨_, rfl⟩
          have gv11 : (u3.1 35 7).toInt = v11.toInt := congrArg Int32.toInt (ev11)
          have rv11 := n_rng v11
          refine r_getiN (k := 7) (lo := (-2147483648)) (hi := 2147483647) C v11 oCl1 rfl (by decide) flX11_242 rfl rfl (ev11) rfl rfl (oDec_at oX11_together 16 rfl) (fun _ _ => ?_)
          exact r_iret C (oDec_at oX11_together 17 rfl) ⟨_, rfl, ⟨(owKV_fr fu3 rfl hp1), pu3_1⟩⟩
      · skip
        refine r_iconst C (oDec_at oX11_together 10 rfl) (v := km1) (by rw [qkm1]; rfl) ?_
        exact r_iret C (oDec_at oX11_together 11 rfl) ⟨_, rfl, ⟨(owKV_fr fu3 rfl hp1), pu3_1⟩⟩
set_option maxHeartbeats 4000000 in
set_option maxRecDepth 100000 in
theorem ct9_X11_broken (l : Launch) (E : oE) (s : oS) (a1 : Int32) (a2 : Int32) (a3 : Int32) (b : Nat) (R : Int) (W : Nat → List Int) (hp0 : owBC b R W s) (hp1 : owKV R W s) (hp2 : owLN s) (hp3 : owDN s) : oMet l 7 yX11_broken cX11_broken 6 (some .int) [(1, 6), (1, 7), (1, 8), (9, 0), (9, 1), (9, 2), (9, 3), (9, 4), (24, 9999), (25, 9999), (26, 9999), (27, 9999), (28, 9999), (29, 9999), (30, 9999), (31, 9999)] E s [.ref (oad E 0), .int a1, .int a2, .int a3] (oPi (fun r u => (owKV R W u) ∧ (owDN u))) := by
  refine oMet.of (lv := [(0, .ref (oad E 0)), (1, .int a1), (2, .int a2), (3, .int a3)]) (by decide +kernel) (Nat.le_of_ble_eq_true rfl) rfl (fun J C hT => ?_)
  have C : oC l 7 cX11_broken RX11 6 (some .int) [(1, 6), (1, 7), (1, 8), (9, 0), (9, 1), (9, 2), (9, 3), (9, 4), (24, 9999), (25, 9999), (26, 9999), (27, 9999), (28, 9999), (29, 9999), (30, 9999), (31, 9999)] E s (oPi (fun r u => (owKV R W u) ∧ (owDN u))) J := C
  obtain ⟨km1, qkm1⟩ : ∃ z : Int32, z = (-1) := ⟨_, rfl⟩
  have ekm1 : km1.toInt = (-1) := by rw [qkm1]; rfl
  obtain ⟨k0, qk0⟩ : ∃ z : Int32, z = 0 := ⟨_, rfl⟩
  have ek0 : k0.toInt = 0 := by rw [qk0]; rfl
  obtain ⟨k1, qk1⟩ : ∃ z : Int32, z = 1 := ⟨_, rfl⟩
  have ek1 : k1.toInt = 1 := by rw [qk1]; rfl
  obtain ⟨k48, qk48⟩ : ∃ z : Int32, z = 48 := ⟨_, rfl⟩
  have ek48 : k48.toInt = 48 := by rw [qk48]; rfl
  obtain ⟨k100, qk100⟩ : ∃ z : Int32, z = 100 := ⟨_, rfl⟩
  have ek100 : k100.toInt = 100 := by rw [qk100]; rfl
  have rg1 := n_rng a1
  have rg2 := n_rng a2
  have rg3 := n_rng a3
  have key : ∀ n : Nat, (∀ (t : oS) (x4 : Int32) (x5 : Int32), (0 ≤ x5.toInt ∧ x5.toInt ≤ 48) → (a3.toInt ≤ 47) → (owBC b R W t) → (owKV R W t) → (owLN t) → (owDN t) → 49 - x5.toInt ≤ (n : Int) → J t 38 [(0, .ref (oad E 0)), (3, .int a3), (4, .int x4), (5, .int x5)] []) := by
    intro n
    induction n using Nat.strongRecOn with
    | _ n ih =>
      skip
      · intro t x4 x5  iv0 iv1 iv2 iv3 iv4 iv5 hmu
        have rx4 := n_rng x4
        have rx5 := n_rng x5
        refine r_iload C (j := 3) (oDec_at oX11_broken 21 rfl) rfl ?_
        refine r_iload_n C (j := 1) (oDec_at oX11_broken 22 rfl) rfl rfl ?_
        refine r_icmp_ge C 73 (oDec_at oX11_broken 23 rfl) (by decide) (fun cd1 => ?_) (fun cd1 => ?_)
        · skip
          refine r_iload C (j := 2) (oDec_at oX11_broken 38 rfl) rfl ?_
          refine r_iconst C (oDec_at oX11_broken 39 rfl) (v := km1) (by rw [qkm1]; rfl) ?_
          refine r_icmp_ne C 83 (oDec_at oX11_broken 40 rfl) (by decide) (fun cd2 => ?_) (fun cd2 => ?_)
          · skip
            refine r_bipush C (oDec_at oX11_broken 43 rfl) (v := k100) (by rw [qk100]; rfl) ?_
            refine r_aload_n C (j := 0) (oDec_at oX11_broken 44 rfl) rfl rfl ?_
            refine r_getF (k := 8) (b := 35) C oCl11 rfl (by decide) flX11_60 rfl rfl rfl (oDec_at oX11_broken 45 rfl) ?_
            refine r_iload C (j := 2) (oDec_at oX11_broken 46 rfl) rfl ?_
            refine r_callVi C oCl1 rfl miX1_tickOf mlX11_236 (ct_X1_tickOf l E (t) x4 ) (by decide) rfl rfl rfl (Nat.le_of_ble_eq_true rfl) (oDec_at oX11_broken 47 rfl) (fun r4 u3 pu3 fu3 => ?_)
            try dsimp only at pu3
            have hxu3 := oFr_nil fu3; subst hxu3
            have rr4 := n_rng r4
            obtain ⟨v5, ev5⟩ : ∃ z : Int32, z = k100 * r4 := ⟨_, rfl⟩
            have rv5 := n_rng v5
            refine r_imul C v5 (oDec_at oX11_broken 48 rfl) ev5 ?_
            refine r_pc C 95 rfl ?_
            refine r_aload_n C (j := 0) (oDec_at oX11_broken 49 rfl) rfl rfl ?_
            refine r_getF (k := 7) (b := 31) C oCl11 rfl (by decide) flX11_53 rfl rfl rfl (oDec_at oX11_broken 50 rfl) ?_
            refine r_aload_n C (j := 0) (oDec_at oX11_broken 51 rfl) rfl rfl ?_
            refine r_getF (k := 8) (b := 35) C oCl11 rfl (by decide) flX11_60 rfl rfl rfl (oDec_at oX11_broken 52 rfl) ?_
            refine r_iload C (j := 2) (oDec_at oX11_broken 53 rfl) rfl ?_
            refine r_callVi C oCl2 rfl miX2_ruleAt mlX11_239 (ct9_X2_ruleAt l E (t) x4 (b) (R) (W) iv2 iv3 iv5) (by decide) rfl rfl rfl (Nat.le_of_ble_eq_true rfl) (oDec_at oX11_broken 54 rfl) (fun r7 u6 pu6 fu6 => ?_)
            try dsimp only at pu6
            have rr7 := n_rng r7
            refine r_pc C 108 rfl ?_
            obtain ⟨v8, ev8⟩ : ∃ z : Int32, z = v5 + r7 := ⟨_, rfl⟩
            have rv8 := n_rng v8
            refine r_iadd C v8 (oDec_at oX11_broken 55 rfl) ev8 ?_
            exact r_iret C (oDec_at oX11_broken 56 rfl) ⟨_, rfl, ⟨pu6, (owDN_fr fu6 rfl iv5)⟩⟩
          · skip
            refine r_iconst C (oDec_at oX11_broken 41 rfl) (v := km1) (by rw [qkm1]; rfl) ?_
            refine r_goto C (tgt := 109) (oDec_at oX11_broken 42 rfl) (by decide) ?_
            exact r_iret C (oDec_at oX11_broken 56 rfl) ⟨_, rfl, ⟨iv3, iv5⟩⟩
        · skip
          refine r_iload C (j := 2) (oDec_at oX11_broken 24 rfl) rfl ?_
          refine r_iconst C (oDec_at oX11_broken 25 rfl) (v := km1) (by rw [qkm1]; rfl) ?_
          refine r_icmp_eq C 73 (oDec_at oX11_broken 26 rfl) (by decide) (fun cd9 => ?_) (fun cd9 => ?_)
          · skip
            refine r_iload C (j := 2) (oDec_at oX11_broken 38 rfl) rfl ?_
            refine r_iconst C (oDec_at oX11_broken 39 rfl) (v := km1) (by rw [qkm1]; rfl) ?_
            refine r_icmp_ne C 83 (oDec_at oX11_broken 40 rfl) (by decide) (fun cd10 => ?_) (fun cd10 => ?_)
            · omega
            · skip
              refine r_iconst C (oDec_at oX11_broken 41 rfl) (v := km1) (by rw [qkm1]; rfl) ?_
              refine r_goto C (tgt := 109) (oDec_at oX11_broken 42 rfl) (by decide) ?_
              exact r_iret C (oDec_at oX11_broken 56 rfl) ⟨_, rfl, ⟨iv3, iv5⟩⟩
          · skip
            refine r_aload_n C (j := 0) (oDec_at oX11_broken 27 rfl) rfl rfl ?_
            refine r_getF (k := 7) (b := 31) C oCl11 rfl (by decide) flX11_53 rfl rfl rfl (oDec_at oX11_broken 28 rfl) ?_
            refine r_aload_n C (j := 0) (oDec_at oX11_broken 29 rfl) rfl rfl ?_
            refine r_getF (k := 8) (b := 35) C oCl11 rfl (by decide) flX11_60 rfl rfl rfl (oDec_at oX11_broken 30 rfl) ?_
            refine r_iload C (j := 2) (oDec_at oX11_broken 31 rfl) rfl ?_
            refine r_iconst C (oDec_at oX11_broken 32 rfl) (v := k1) (by rw [qk1]; rfl) ?_
            refine r_pc C 61 rfl ?_
            obtain ⟨v11, ev11⟩ : ∃ z : Int32, z = x4 + k1 := ⟨_, rfl⟩
            have rv11 := n_rng v11
            refine r_iadd C v11 (oDec_at oX11_broken 33 rfl) ev11 ?_
            refine r_callVi C oCl2 rfl miX2_nextBroken mlX11_232 (ct9_X2_nextBroken l E (t) v11 (b) (R) (W) iv2 iv3 iv5) (by decide) rfl rfl rfl (Nat.le_of_ble_eq_true rfl) (oDec_at oX11_broken 34 rfl) (fun r13 u12 pu12 fu12 => ?_)
            try dsimp only at pu12
            obtain ⟨pu12_0, pu12_1⟩ := pu12
            have rr13 := n_rng r13
            refine r_istore C (lv' := [(0, .ref (oad E 0)), (3, .int a3), (4, .int r13), (5, .int x5)]) [1, 2, 0, 3] (oDec_at oX11_broken 35 rfl) (by decide) rfl ?_
            obtain ⟨v14, ev14⟩ : ∃ z : Int32, x5 + Int32.ofInt 1 = z := ⟨_, rfl⟩
            have hv14 : v14.toInt = x5.toInt + 1 := n_inc ev14 (by decide) (by omega) (by omega)
            refine r_iinc C (j := 3) (lv' := [(0, .ref (oad E 0)), (3, .int a3), (4, .int r13), (5, .int v14)]) v14 [1, 2, 3, 0] (oDec_at oX11_broken 36 rfl) rfl ev14 (by decide) rfl ?_
            refine r_goto C (tgt := 38) (oDec_at oX11_broken 37 rfl) (by decide) ?_
            exact (ih (n - 1) (by omega)) (u12) r13 v14  (by omega) (by omega) (owBC_fr fu12 rfl iv2) pu12_0 (owLN_fr fu12 rfl iv4) (owDN_fr fu12 rfl iv5) (by omega)
  refine r_iload_n C (j := 3) (oDec_at oX11_broken 0 rfl) rfl rfl ?_
  refine r_if_lt C 19 (oDec_at oX11_broken 1 rfl) (by decide) (fun cd15 => ?_) (fun cd15 => ?_)
  · skip
    refine r_iconst C (oDec_at oX11_broken 10 rfl) (v := km1) (by rw [qkm1]; rfl) ?_
    exact r_iret C (oDec_at oX11_broken 11 rfl) ⟨_, rfl, ⟨hp1, hp3⟩⟩
  · skip
    refine r_iload_n C (j := 3) (oDec_at oX11_broken 2 rfl) rfl rfl ?_
    refine r_bipush C (oDec_at oX11_broken 3 rfl) (v := k48) (by rw [qk48]; rfl) ?_
    refine r_icmp_ge C 19 (oDec_at oX11_broken 4 rfl) (by decide) (fun cd16 => ?_) (fun cd16 => ?_)
    · skip
      refine r_iconst C (oDec_at oX11_broken 10 rfl) (v := km1) (by rw [qkm1]; rfl) ?_
      exact r_iret C (oDec_at oX11_broken 11 rfl) ⟨_, rfl, ⟨hp1, hp3⟩⟩
    · skip
      refine r_aload_n C (j := 0) (oDec_at oX11_broken 5 rfl) rfl rfl ?_
      refine r_iload_n C (j := 1) (oDec_at oX11_broken 6 rfl) rfl rfl ?_
      refine r_iload_n C (j := 2) (oDec_at oX11_broken 7 rfl) rfl rfl ?_
      refine r_callVi C oCl11 rfl miX11_hearTwo mlX11_228 (ct9_X11_hearTwo l E (s) a1 a2 (b) (R) (W) hp0 hp1 hp2 hp3) (by decide) rfl rfl rfl (Nat.le_of_ble_eq_true rfl) (oDec_at oX11_broken 8 rfl) (fun r18 u17 pu17 fu17 => ?_)
      try dsimp only at pu17
      obtain ⟨pu17_0, pu17_1⟩ := pu17
      have rr18 := n_rng r18
      refine r_if_ne C 21 (oDec_at oX11_broken 9 rfl) (by decide) (fun cd19 => ?_) (fun cd19 => ?_)
      · skip
        refine r_aload_n C (j := 0) (oDec_at oX11_broken 12 rfl) rfl rfl ?_
        refine r_getF (k := 7) (b := 31) C oCl11 rfl (by decide) flX11_53 rfl rfl rfl (oDec_at oX11_broken 13 rfl) ?_
        refine r_aload_n C (j := 0) (oDec_at oX11_broken 14 rfl) rfl rfl ?_
        refine r_getF (k := 8) (b := 35) C oCl11 rfl (by decide) flX11_60 rfl rfl rfl (oDec_at oX11_broken 15 rfl) ?_
        refine r_iconst C (oDec_at oX11_broken 16 rfl) (v := k0) (by rw [qk0]; rfl) ?_
        refine r_callVi C oCl2 rfl miX2_nextBroken mlX11_232 (ct9_X2_nextBroken l E (u17) k0 (b) (R) (W) (owBC_fr fu17 rfl hp0) (owKV_fr fu17 rfl hp1) pu17_1) (by decide) rfl rfl rfl (Nat.le_of_ble_eq_true rfl) (oDec_at oX11_broken 17 rfl) (fun r21 u20 pu20 fu20 => ?_)
        try dsimp only at pu20
        obtain ⟨pu20_0, pu20_1⟩ := pu20
        have rr21 := n_rng r21
        refine r_pc C 33 rfl ?_
        refine r_istore C (lv' := [(0, .ref (oad E 0)), (1, .int a1), (2, .int a2), (3, .int a3), (4, .int r21)]) [1, 2, 3, 4, 0] (oDec_at oX11_broken 18 rfl) (by decide) rfl ?_
        refine r_iconst C (oDec_at oX11_broken 19 rfl) (v := k0) (by rw [qk0]; rfl) ?_
        refine r_istore C (lv' := [(0, .ref (oad E 0)), (1, .int a1), (2, .int a2), (3, .int a3), (4, .int r21), (5, .int k0)]) [1, 2, 3, 4, 5, 0] (oDec_at oX11_broken 20 rfl) (by decide) rfl ?_
        refine r_pick C [0, 3, 4, 5] rfl ?_
        exact (key (49 - k0.toInt).toNat) (u20) r21 k0  (by omega) (by omega) (owBC_fr fu20 rfl (owBC_fr fu17 rfl hp0)) pu20_0 (owLN_fr fu20 rfl (owLN_fr fu17 rfl hp2)) (owDN_fr fu20 rfl pu17_1) (by omega)
      · skip
        refine r_iconst C (oDec_at oX11_broken 10 rfl) (v := km1) (by rw [qkm1]; rfl) ?_
        exact r_iret C (oDec_at oX11_broken 11 rfl) ⟨_, rfl, ⟨(owKV_fr fu17 rfl hp1), pu17_1⟩⟩
set_option maxHeartbeats 4000000 in
set_option maxRecDepth 100000 in
theorem ct9_X11_ways (l : Launch) (E : oE) (s : oS) (a1 : Int32) (b : Nat) (R : Int) (W : Nat → List Int) (hp0 : owBC b R W s) (hp1 : owKV R W s) (hp2 : owLN s) (hp3 : owDN s) : oMet l 8 yX11_ways cX11_ways 2 (some .int) [(1, 6), (1, 7), (1, 8), (7, 0), (7, 4), (7, 5), (9, 0), (9, 1), (9, 2), (9, 3), (9, 4), (10, 3), (10, 4), (24, 9999), (25, 9999), (26, 9999), (27, 9999), (28, 9999), (29, 9999), (30, 9999), (31, 9999), (32, 9999), (33, 9999), (34, 9999), (35, 9999), (36, 9999), (38, 9999), (39, 9999), (40, 9999), (41, 9999)] E s [.ref (oad E 0), .int a1] (oPi (fun r u => (owKV R W u) ∧ (owDN u))) := by
  refine oMet.of (lv := [(0, .ref (oad E 0)), (1, .int a1)]) (by decide +kernel) (Nat.le_of_ble_eq_true rfl) rfl (fun J C hT => ?_)
  have C : oC l 8 cX11_ways RX11 2 (some .int) [(1, 6), (1, 7), (1, 8), (7, 0), (7, 4), (7, 5), (9, 0), (9, 1), (9, 2), (9, 3), (9, 4), (10, 3), (10, 4), (24, 9999), (25, 9999), (26, 9999), (27, 9999), (28, 9999), (29, 9999), (30, 9999), (31, 9999), (32, 9999), (33, 9999), (34, 9999), (35, 9999), (36, 9999), (38, 9999), (39, 9999), (40, 9999), (41, 9999)] E s (oPi (fun r u => (owKV R W u) ∧ (owDN u))) J := C
  have rg1 := n_rng a1
  refine r_aload_n C (j := 0) (oDec_at oX11_ways 0 rfl) rfl rfl ?_
  refine r_iload_n C (j := 1) (oDec_at oX11_ways 1 rfl) rfl rfl ?_
  refine r_callVv C oCl11 rfl miX11_prepare mlX11_252 (ct9_X11_prepare l E (s) a1 (b) (R) (W) hp0 hp1 hp2 hp3) (by decide) rfl rfl rfl (Nat.le_of_ble_eq_true rfl) (oDec_at oX11_ways 2 rfl) (fun u1 pu1 fu1 => ?_)
  try dsimp only at pu1
  obtain ⟨pu1_0, pu1_1⟩ := pu1
  refine r_aload_n C (j := 0) (oDec_at oX11_ways 3 rfl) rfl rfl ?_
  refine r_iload_n C (j := 1) (oDec_at oX11_ways 4 rfl) rfl rfl ?_
  refine r_callVi C oCl11 rfl miX11_howMany mlX11_255 (ct_X11_howMany l E (u1) a1 ) (by decide) rfl rfl rfl (Nat.le_of_ble_eq_true rfl) (oDec_at oX11_ways 5 rfl) (fun r4 u3 pu3 fu3 => ?_)
  try dsimp only at pu3
  have hxu3 := oFr_nil fu3; subst hxu3
  have rr4 := n_rng r4
  refine r_pc C 10 rfl ?_
  exact r_iret C (oDec_at oX11_ways 6 rfl) ⟨_, rfl, ⟨pu1_0, pu1_1⟩⟩
set_option maxHeartbeats 4000000 in
set_option maxRecDepth 100000 in
theorem ct9_X11_way (l : Launch) (E : oE) (s : oS) (a1 : Int32) (a2 : Int32) (a3 : Int32) (b : Nat) (R : Int) (W : Nat → List Int) (hp0 : owBC b R W s) (hp1 : owKV R W s) (hp2 : owLN s) (hp3 : owDN s) : oMet l 8 yX11_way cX11_way 4 (some .int) [(1, 6), (1, 7), (1, 8), (7, 0), (7, 4), (7, 5), (9, 0), (9, 1), (9, 2), (9, 3), (9, 4), (10, 3), (10, 4), (24, 9999), (25, 9999), (26, 9999), (27, 9999), (28, 9999), (29, 9999), (30, 9999), (31, 9999), (32, 9999), (33, 9999), (34, 9999), (35, 9999), (36, 9999), (38, 9999), (39, 9999), (40, 9999), (41, 9999)] E s [.ref (oad E 0), .int a1, .int a2, .int a3] (oPi (fun r u => (owKV R W u) ∧ (owDN u))) := by
  refine oMet.of (lv := [(0, .ref (oad E 0)), (1, .int a1), (2, .int a2), (3, .int a3)]) (by decide +kernel) (Nat.le_of_ble_eq_true rfl) rfl (fun J C hT => ?_)
  have C : oC l 8 cX11_way RX11 4 (some .int) [(1, 6), (1, 7), (1, 8), (7, 0), (7, 4), (7, 5), (9, 0), (9, 1), (9, 2), (9, 3), (9, 4), (10, 3), (10, 4), (24, 9999), (25, 9999), (26, 9999), (27, 9999), (28, 9999), (29, 9999), (30, 9999), (31, 9999), (32, 9999), (33, 9999), (34, 9999), (35, 9999), (36, 9999), (38, 9999), (39, 9999), (40, 9999), (41, 9999)] E s (oPi (fun r u => (owKV R W u) ∧ (owDN u))) J := C
  have rg1 := n_rng a1
  have rg2 := n_rng a2
  have rg3 := n_rng a3
  refine r_aload_n C (j := 0) (oDec_at oX11_way 0 rfl) rfl rfl ?_
  refine r_iload_n C (j := 1) (oDec_at oX11_way 1 rfl) rfl rfl ?_
  refine r_callVv C oCl11 rfl miX11_prepare mlX11_252 (ct9_X11_prepare l E (s) a1 (b) (R) (W) hp0 hp1 hp2 hp3) (by decide) rfl rfl rfl (Nat.le_of_ble_eq_true rfl) (oDec_at oX11_way 2 rfl) (fun u1 pu1 fu1 => ?_)
  try dsimp only at pu1
  obtain ⟨pu1_0, pu1_1⟩ := pu1
  refine r_aload_n C (j := 0) (oDec_at oX11_way 3 rfl) rfl rfl ?_
  refine r_getF (k := 10) (b := 43) C oCl11 rfl (by decide) flX11_74 rfl rfl rfl (oDec_at oX11_way 4 rfl) ?_
  refine r_aload_n C (j := 0) (oDec_at oX11_way 5 rfl) rfl rfl ?_
  refine r_pc C 10 rfl ?_
  refine r_iload_n C (j := 1) (oDec_at oX11_way 6 rfl) rfl rfl ?_
  refine r_iload_n C (j := 2) (oDec_at oX11_way 7 rfl) rfl rfl ?_
  refine r_iload_n C (j := 3) (oDec_at oX11_way 8 rfl) rfl rfl ?_
  refine r_callVi C oCl11 rfl miX11_member mlX11_258 (ct_X11_member l E (u1) a1 a2 a3 ) (by decide) rfl rfl rfl (Nat.le_of_ble_eq_true rfl) (oDec_at oX11_way 9 rfl) (fun r4 u3 pu3 fu3 => ?_)
  try dsimp only at pu3
  have hxu3 := oFr_nil fu3; subst hxu3
  have rr4 := n_rng r4
  refine r_callVi C oCl10 rfl miX10_codeOf mlX11_261 (ct_X10_codeOf l E (u1) r4 ) (by decide) rfl rfl rfl (Nat.le_of_ble_eq_true rfl) (oDec_at oX11_way 10 rfl) (fun r6 u5 pu5 fu5 => ?_)
  try dsimp only at pu5
  have hxu5 := oFr_nil fu5; subst hxu5
  have rr6 := n_rng r6
  exact r_iret C (oDec_at oX11_way 11 rfl) ⟨_, rfl, ⟨pu1_0, pu1_1⟩⟩
set_option maxHeartbeats 4000000 in
set_option maxRecDepth 100000 in
theorem ct9_X11_signs (l : Launch) (E : oE) (s : oS) (a1 : Int32) (b : Nat) (R : Int) (W : Nat → List Int) (hp0 : owBC b R W s) (hp1 : owKV R W s) (hp2 : owLN s) (hp3 : owDN s) : oMet l 8 yX11_signs cX11_signs 2 (some .int) [(1, 6), (1, 7), (1, 8), (7, 0), (7, 4), (7, 5), (9, 0), (9, 1), (9, 2), (9, 3), (9, 4), (10, 3), (10, 4), (24, 9999), (25, 9999), (26, 9999), (27, 9999), (28, 9999), (29, 9999), (30, 9999), (31, 9999), (32, 9999), (33, 9999), (34, 9999), (35, 9999), (36, 9999), (37, 9999), (38, 9999), (39, 9999), (40, 9999), (41, 9999)] E s [.ref (oad E 0), .int a1] (oPi (fun r u => (owKV R W u) ∧ (owDN u))) := by
  refine oMet.of (lv := [(0, .ref (oad E 0)), (1, .int a1)]) (by decide +kernel) (Nat.le_of_ble_eq_true rfl) rfl (fun J C hT => ?_)
  have C : oC l 8 cX11_signs RX11 2 (some .int) [(1, 6), (1, 7), (1, 8), (7, 0), (7, 4), (7, 5), (9, 0), (9, 1), (9, 2), (9, 3), (9, 4), (10, 3), (10, 4), (24, 9999), (25, 9999), (26, 9999), (27, 9999), (28, 9999), (29, 9999), (30, 9999), (31, 9999), (32, 9999), (33, 9999), (34, 9999), (35, 9999), (36, 9999), (37, 9999), (38, 9999), (39, 9999), (40, 9999), (41, 9999)] E s (oPi (fun r u => (owKV R W u) ∧ (owDN u))) J := C
  obtain ⟨k2, qk2⟩ : ∃ z : Int32, z = 2 := ⟨_, rfl⟩
  have ek2 : k2.toInt = 2 := by rw [qk2]; rfl
  have rg1 := n_rng a1
  refine r_aload_n C (j := 0) (oDec_at oX11_signs 0 rfl) rfl rfl ?_
  refine r_iconst C (oDec_at oX11_signs 1 rfl) (v := k2) (by rw [qk2]; rfl) ?_
  refine r_callVv C oCl11 rfl miX11_prepare mlX11_252 (ct9_X11_prepare l E (s) k2 (b) (R) (W) hp0 hp1 hp2 hp3) (by decide) rfl rfl rfl (Nat.le_of_ble_eq_true rfl) (oDec_at oX11_signs 2 rfl) (fun u1 pu1 fu1 => ?_)
  try dsimp only at pu1
  obtain ⟨pu1_0, pu1_1⟩ := pu1
  refine r_aload_n C (j := 0) (oDec_at oX11_signs 3 rfl) rfl rfl ?_
  refine r_getF (k := 10) (b := 43) C oCl11 rfl (by decide) flX11_74 rfl rfl rfl (oDec_at oX11_signs 4 rfl) ?_
  refine r_iload_n C (j := 1) (oDec_at oX11_signs 5 rfl) rfl rfl ?_
  refine r_pc C 10 rfl ?_
  refine r_callVi C oCl10 rfl miX10_fewestSigns mlX11_263 (ct_X10_fewestSigns l E (u1) a1 ) (by decide) rfl rfl rfl (Nat.le_of_ble_eq_true rfl) (oDec_at oX11_signs 6 rfl) (fun r4 u3 pu3 fu3 => ?_)
  try dsimp only at pu3
  have rr4 := n_rng r4
  exact r_iret C (oDec_at oX11_signs 7 rfl) ⟨_, rfl, ⟨(owKV_fr fu3 rfl pu1_0), (owDN_fr fu3 rfl pu1_1)⟩⟩
set_option maxHeartbeats 4000000 in
set_option maxRecDepth 100000 in
theorem ct9_X11_like (l : Launch) (E : oE) (s : oS) (a1 : Int32) (a2 : Int32) (b : Nat) (R : Int) (W : Nat → List Int) (hp0 : owBC b R W s) (hp1 : owKV R W s) (hp2 : owLN s) (hp3 : owDN s) : oMet l 8 yX11_like cX11_like 3 (some .int) [(1, 6), (1, 7), (1, 8), (7, 0), (7, 4), (7, 5), (9, 0), (9, 1), (9, 2), (9, 3), (9, 4), (10, 3), (10, 4), (24, 9999), (25, 9999), (26, 9999), (27, 9999), (28, 9999), (29, 9999), (30, 9999), (31, 9999), (32, 9999), (33, 9999), (34, 9999), (35, 9999), (36, 9999), (38, 9999), (39, 9999), (40, 9999), (41, 9999)] E s [.ref (oad E 0), .int a1, .int a2] (oPi (fun r u => (owKV R W u) ∧ (owDN u))) := by
  refine oMet.of (lv := [(0, .ref (oad E 0)), (1, .int a1), (2, .int a2)]) (by decide +kernel) (Nat.le_of_ble_eq_true rfl) rfl (fun J C hT => ?_)
  have C : oC l 8 cX11_like RX11 3 (some .int) [(1, 6), (1, 7), (1, 8), (7, 0), (7, 4), (7, 5), (9, 0), (9, 1), (9, 2), (9, 3), (9, 4), (10, 3), (10, 4), (24, 9999), (25, 9999), (26, 9999), (27, 9999), (28, 9999), (29, 9999), (30, 9999), (31, 9999), (32, 9999), (33, 9999), (34, 9999), (35, 9999), (36, 9999), (38, 9999), (39, 9999), (40, 9999), (41, 9999)] E s (oPi (fun r u => (owKV R W u) ∧ (owDN u))) J := C
  obtain ⟨k2, qk2⟩ : ∃ z : Int32, z = 2 := ⟨_, rfl⟩
  have ek2 : k2.toInt = 2 := by rw [qk2]; rfl
  have rg1 := n_rng a1
  have rg2 := n_rng a2
  refine r_aload_n C (j := 0) (oDec_at oX11_like 0 rfl) rfl rfl ?_
  refine r_iconst C (oDec_at oX11_like 1 rfl) (v := k2) (by rw [qk2]; rfl) ?_
  refine r_callVv C oCl11 rfl miX11_prepare mlX11_252 (ct9_X11_prepare l E (s) k2 (b) (R) (W) hp0 hp1 hp2 hp3) (by decide) rfl rfl rfl (Nat.le_of_ble_eq_true rfl) (oDec_at oX11_like 2 rfl) (fun u1 pu1 fu1 => ?_)
  try dsimp only at pu1
  obtain ⟨pu1_0, pu1_1⟩ := pu1
  refine r_aload_n C (j := 0) (oDec_at oX11_like 3 rfl) rfl rfl ?_
  refine r_getF (k := 10) (b := 43) C oCl11 rfl (by decide) flX11_74 rfl rfl rfl (oDec_at oX11_like 4 rfl) ?_
  refine r_iload_n C (j := 1) (oDec_at oX11_like 5 rfl) rfl rfl ?_
  refine r_pc C 10 rfl ?_
  refine r_iload_n C (j := 2) (oDec_at oX11_like 6 rfl) rfl rfl ?_
  refine r_callVi C oCl10 rfl miX10_countLike mlX11_266 (ct_X10_countLike l E (u1) a1 a2 ) (by decide) rfl rfl rfl (Nat.le_of_ble_eq_true rfl) (oDec_at oX11_like 7 rfl) (fun r4 u3 pu3 fu3 => ?_)
  try dsimp only at pu3
  have hxu3 := oFr_nil fu3; subst hxu3
  have rr4 := n_rng r4
  exact r_iret C (oDec_at oX11_like 8 rfl) ⟨_, rfl, ⟨pu1_0, pu1_1⟩⟩
