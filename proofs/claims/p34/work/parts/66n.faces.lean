set_option maxHeartbeats 4000000 in
set_option maxRecDepth 100000 in
theorem ct11_X11_line (l : Launch) (E : oE) (s : oS)  (g : Int → Int) (hp0 : oqX g s) (hp1 : owLN s) (hp2 : owCZ s) : oMet l 9 yX11_line cX11_line 2 (some .int) [(3, 0), (4, 4), (4, 5), (4, 6), (4, 7), (5, 2), (5, 3), (5, 4), (5, 5), (5, 8), (5, 9), (7, 0), (8, 1), (10, 3), (11, 1), (11, 2), (11, 17), (16, 9999), (17, 9999), (18, 9999), (19, 9999)] E s [.ref (oad E 0)] (oPi (fun r u => ((u.1 1 1).toInt = 0) ∧ (r.toInt = oqR1 g) ∧ ((u.1 30 8).toInt = oqR2 g) ∧ ((u.1 30 9).toInt = oqR3 g) ∧ (owLN u) ∧ (owCZ u))) := by
  refine oMet.of (lv := [(0, .ref (oad E 0))]) (by decide +kernel) (Nat.le_of_ble_eq_true rfl) rfl (fun J C hT => ?_)
  have C : oC l 9 cX11_line RX11 2 (some .int) [(3, 0), (4, 4), (4, 5), (4, 6), (4, 7), (5, 2), (5, 3), (5, 4), (5, 5), (5, 8), (5, 9), (7, 0), (8, 1), (10, 3), (11, 1), (11, 2), (11, 17), (16, 9999), (17, 9999), (18, 9999), (19, 9999)] E s (oPi (fun r u => ((u.1 1 1).toInt = 0) ∧ (r.toInt = oqR1 g) ∧ ((u.1 30 8).toInt = oqR2 g) ∧ ((u.1 30 9).toInt = oqR3 g) ∧ (owLN u) ∧ (owCZ u))) J := C
  obtain ⟨km1, qkm1⟩ : ∃ z : Int32, z = (-1) := ⟨_, rfl⟩
  have ekm1 : km1.toInt = (-1) := by rw [qkm1]; rfl
  obtain ⟨k0, qk0⟩ : ∃ z : Int32, z = 0 := ⟨_, rfl⟩
  have ek0 : k0.toInt = 0 := by rw [qk0]; rfl
  refine r_aload_n C (j := 0) (oDec_at oX11_line 0 rfl) rfl rfl ?_
  refine r_getF (k := 6) (b := 30) C oCl11 rfl (by decide) flX11_44 rfl rfl rfl (oDec_at oX11_line 1 rfl) ?_
  refine r_aload_n C (j := 0) (oDec_at oX11_line 2 rfl) rfl rfl ?_
  refine r_getS (k := 2) (q2 := 4) C oCl11 rfl (by decide) flX11_23 rfl rfl rfl ks0 (oDec_at oX11_line 3 rfl) (fun b1 rb1 mb1 hkb1 => ?_)
  refine r_callVi C oCl5 rfl miX5_readLine mlX11_117 (ct9_X5_readLine l E (s) b1 hkb1 (g) hp0 hp1) (by decide) rfl rfl rfl (Nat.le_of_ble_eq_true rfl) (oDec_at oX11_line 4 rfl) (fun r3 u2 pu2 fu2 => ?_)
  try dsimp only at pu2
  obtain ⟨pu2_0, pu2_1, pu2_2, pu2_3⟩ := pu2
  have rr3 := n_rng r3
  refine r_istore_n C (lv' := [(0, .ref (oad E 0)), (1, .int r3)]) [1, 0] (oDec_at oX11_line 5 rfl) rfl (by decide) rfl ?_
  refine r_pc C 12 rfl ?_
  refine r_aload_n C (j := 0) (oDec_at oX11_line 6 rfl) rfl rfl ?_
  refine r_getF (k := 0) (b := 1) C oCl11 rfl (by decide) flX11_10 rfl rfl rfl (oDec_at oX11_line 7 rfl) ?_
  refine r_iconst C (oDec_at oX11_line 8 rfl) (v := k0) (by rw [qk0]; rfl) ?_
  refine r_ty C (fun hty => ?_)
  have ht17 : (0 : Int) ≤ ((u2).1 1 1).toInt ∧ ((u2).1 1 1).toInt ≤ 1600 := hty.1 1 1
  have lk4 : ((u2).1 1 1).toInt = (s.1 1 1).toInt := congrArg Int32.toInt ((fu2 1 1 rfl).1)
  refine r_callVi C oCl8 rfl miX8_cut mlX11_114 (ct_X8_cut l E (u2) k0 ) (by decide) rfl rfl rfl (Nat.le_of_ble_eq_true rfl) (oDec_at oX11_line 9 rfl) (fun r6 u5 pu5 fu5 => ?_)
  try dsimp only at pu5
  try simp only [lk4] at pu5
  obtain ⟨pu5_0, pu5_1⟩ := pu5
  have rr6 := n_rng r6
  refine r_pop C (oDec_at oX11_line 10 rfl) rfl ?_
  refine r_iload_n C (j := 1) (oDec_at oX11_line 11 rfl) rfl rfl ?_
  refine r_pc C 22 rfl ?_
  refine r_iconst C (oDec_at oX11_line 12 rfl) (v := km1) (by rw [qkm1]; rfl) ?_
  refine r_icmp_ne C 28 (oDec_at oX11_line 13 rfl) (by decide) (fun cd7 => ?_) (fun cd7 => ?_)
  · skip
    refine r_aload_n C (j := 0) (oDec_at oX11_line 16 rfl) rfl rfl ?_
    refine r_callVv C oCl11 rfl miX11_takeSpare mlX11_121 (ct9_X11_takeSpare l E (u5)  (owCZ_fr fu5 rfl (owCZ_fr fu2 rfl hp2))) (by decide) rfl rfl rfl (Nat.le_of_ble_eq_true rfl) (oDec_at oX11_line 17 rfl) (fun u8 pu8 fu8 => ?_)
    try dsimp only at pu8
    refine r_iload_n C (j := 1) (oDec_at oX11_line 18 rfl) rfl rfl ?_
    have lk10 : ((u8).1 1 1).toInt = (u5.1 1 1).toInt := congrArg Int32.toInt ((fu8 1 1 rfl).1)
    have lk11 : ((u8).1 30 8).toInt = (u2.1 30 8).toInt := congrArg Int32.toInt (((fu8 30 8 rfl).1).trans ((fu5 30 8 rfl).1))
    have lk12 : ((u8).1 30 9).toInt = (u2.1 30 9).toInt := congrArg Int32.toInt (((fu8 30 9 rfl).1).trans ((fu5 30 9 rfl).1))
    exact r_iret C (oDec_at oX11_line 19 rfl) ⟨_, rfl, ⟨by omega, by omega, by omega, by omega, (owLN_fr fu8 rfl (owLN_fr fu5 rfl pu2_3)), pu8⟩⟩
  · skip
    refine r_iconst C (oDec_at oX11_line 14 rfl) (v := km1) (by rw [qkm1]; rfl) ?_
    have lk13 : ((u5).1 30 8).toInt = (u2.1 30 8).toInt := congrArg Int32.toInt ((fu5 30 8 rfl).1)
    have lk14 : ((u5).1 30 9).toInt = (u2.1 30 9).toInt := congrArg Int32.toInt ((fu5 30 9 rfl).1)
    exact r_iret C (oDec_at oX11_line 15 rfl) ⟨_, rfl, ⟨by omega, by omega, by omega, by omega, (owLN_fr fu5 rfl pu2_3), (owCZ_fr fu5 rfl (owCZ_fr fu2 rfl hp2))⟩⟩
set_option maxHeartbeats 4000000 in
set_option maxRecDepth 100000 in
theorem ct11_X11_make (l : Launch) (E : oE) (s : oS) (a1 : Int32) (a2 : Int32) (a3 : Int32) (b : Nat) (R : Int) (W : Nat → List Int) (me : Int) (hp0 : owBC b R W s) (hp1 : owKV R W s) (hp2 : owDN s) (hp3 : owLN s) (hp4 : owBO b s) (hp5 : owME b me s) (hp6 : owCZ s) : oMet l 8 yX11_make cX11_make 4 (some .int) [(1, 6), (1, 7), (1, 8), (3, 0), (4, 4), (4, 5), (4, 6), (4, 7), (7, 0), (9, 0), (9, 1), (9, 2), (9, 3), (9, 4), (10, 3), (11, 1), (11, 2), (11, 17), (16, 9999), (17, 9999), (18, 9999), (19, 9999), (24, 9999), (25, 9999), (26, 9999), (27, 9999), (28, 9999), (29, 9999), (30, 9999), (31, 9999)] E s [.ref (oad E 0), .int a1, .int a2, .int a3] (oPi (fun r u => (owKV R W u) ∧ (owDN u) ∧ (owLN u) ∧ (owMr R W me a1.toInt a2.toInt a3.toInt r.toInt) ∧ (owCZ u))) := by
  refine oMet.of (lv := [(0, .ref (oad E 0)), (1, .int a1), (2, .int a2), (3, .int a3)]) (by decide +kernel) (Nat.le_of_ble_eq_true rfl) rfl (fun J C hT => ?_)
  have C : oC l 8 cX11_make RX11 4 (some .int) [(1, 6), (1, 7), (1, 8), (3, 0), (4, 4), (4, 5), (4, 6), (4, 7), (7, 0), (9, 0), (9, 1), (9, 2), (9, 3), (9, 4), (10, 3), (11, 1), (11, 2), (11, 17), (16, 9999), (17, 9999), (18, 9999), (19, 9999), (24, 9999), (25, 9999), (26, 9999), (27, 9999), (28, 9999), (29, 9999), (30, 9999), (31, 9999)] E s (oPi (fun r u => (owKV R W u) ∧ (owDN u) ∧ (owLN u) ∧ (owMr R W me a1.toInt a2.toInt a3.toInt r.toInt) ∧ (owCZ u))) J := C
  obtain ⟨km1, qkm1⟩ : ∃ z : Int32, z = (-1) := ⟨_, rfl⟩
  have ekm1 : km1.toInt = (-1) := by rw [qkm1]; rfl
  obtain ⟨k0, qk0⟩ : ∃ z : Int32, z = 0 := ⟨_, rfl⟩
  have ek0 : k0.toInt = 0 := by rw [qk0]; rfl
  obtain ⟨k1, qk1⟩ : ∃ z : Int32, z = 1 := ⟨_, rfl⟩
  have ek1 : k1.toInt = 1 := by rw [qk1]; rfl
  obtain ⟨k4, qk4⟩ : ∃ z : Int32, z = 4 := ⟨_, rfl⟩
  have ek4 : k4.toInt = 4 := by rw [qk4]; rfl
  obtain ⟨k6, qk6⟩ : ∃ z : Int32, z = 6 := ⟨_, rfl⟩
  have ek6 : k6.toInt = 6 := by rw [qk6]; rfl
  have rg1 := n_rng a1
  have rg2 := n_rng a2
  have rg3 := n_rng a3
  refine r_iload_n C (j := 1) (oDec_at oX11_make 0 rfl) rfl rfl ?_
  refine r_callSi C miX11_follows mlX11_305 (ct10_X11_follows l E (s) a1 ) (by decide) rfl rfl rfl (Nat.le_of_ble_eq_true rfl) (oDec_at oX11_make 1 rfl) (fun r2 u1 pu1 fu1 => ?_)
  try dsimp only at pu1
  obtain ⟨pu1_0, pu1_1, pu1_2⟩ := pu1
  have hxu1 := oFr_nil fu1; subst hxu1
  have rr2 := n_rng r2
  refine r_if_eq C 27 (oDec_at oX11_make 2 rfl) (by decide) (fun cd3 => ?_) (fun cd3 => ?_)
  · skip
    clear pu1_1
    refine r_iconst C (oDec_at oX11_make 14 rfl) (v := km1) (by rw [qkm1]; rfl) ?_
    exact r_iret C (oDec_at oX11_make 15 rfl) ⟨_, rfl, ⟨hp1, hp2, hp3, owMr_n (by omega) (by omega), hp6⟩⟩
  · skip
    replace pu1_1 := pu1_1 (by omega)
    refine r_iload_n C (j := 2) (oDec_at oX11_make 3 rfl) rfl rfl ?_
    refine r_iconst C (oDec_at oX11_make 4 rfl) (v := k1) (by rw [qk1]; rfl) ?_
    refine r_icmp_lt C 27 (oDec_at oX11_make 5 rfl) (by decide) (fun cd4 => ?_) (fun cd4 => ?_)
    · skip
      refine r_iconst C (oDec_at oX11_make 14 rfl) (v := km1) (by rw [qkm1]; rfl) ?_
      exact r_iret C (oDec_at oX11_make 15 rfl) ⟨_, rfl, ⟨hp1, hp2, hp3, owMr_n (by omega) (by omega), hp6⟩⟩
    · skip
      refine r_iload_n C (j := 2) (oDec_at oX11_make 6 rfl) rfl rfl ?_
      refine r_bipush C (oDec_at oX11_make 7 rfl) (v := k6) (by rw [qk6]; rfl) ?_
      refine r_icmp_gt C 27 (oDec_at oX11_make 8 rfl) (by decide) (fun cd5 => ?_) (fun cd5 => ?_)
      · skip
        refine r_iconst C (oDec_at oX11_make 14 rfl) (v := km1) (by rw [qkm1]; rfl) ?_
        exact r_iret C (oDec_at oX11_make 15 rfl) ⟨_, rfl, ⟨hp1, hp2, hp3, owMr_n (by omega) (by omega), hp6⟩⟩
      · skip
        refine r_iload_n C (j := 3) (oDec_at oX11_make 9 rfl) rfl rfl ?_
        refine r_if_lt C 27 (oDec_at oX11_make 10 rfl) (by decide) (fun cd6 => ?_) (fun cd6 => ?_)
        · skip
          refine r_iconst C (oDec_at oX11_make 14 rfl) (v := km1) (by rw [qkm1]; rfl) ?_
          exact r_iret C (oDec_at oX11_make 15 rfl) ⟨_, rfl, ⟨hp1, hp2, hp3, owMr_n (by omega) (by omega), hp6⟩⟩
        · skip
          refine r_iload_n C (j := 3) (oDec_at oX11_make 11 rfl) rfl rfl ?_
          refine r_iconst C (oDec_at oX11_make 12 rfl) (v := k4) (by rw [qk4]; rfl) ?_
          refine r_icmp_le C 29 (oDec_at oX11_make 13 rfl) (by decide) (fun cd7 => ?_) (fun cd7 => ?_)
          · skip
            refine r_aload_n C (j := 0) (oDec_at oX11_make 16 rfl) rfl rfl ?_
            refine r_iload_n C (j := 1) (oDec_at oX11_make 17 rfl) rfl rfl ?_
            refine r_iload_n C (j := 2) (oDec_at oX11_make 18 rfl) rfl rfl ?_
            refine r_iload_n C (j := 3) (oDec_at oX11_make 19 rfl) rfl rfl ?_
            refine r_callVi C oCl11 rfl miX11_madeInSpare mlX11_312 (ct10_X11_madeInSpare l E (s) a1 a2 a3 (b) (R) (W) (me) hp0 hp1 hp2 hp3 hp4 hp5 (by omega) (by omega) (by omega)) (by decide) rfl rfl rfl (Nat.le_of_ble_eq_true rfl) (oDec_at oX11_make 20 rfl) (fun r9 u8 pu8 fu8 => ?_)
            try dsimp only at pu8
            obtain ⟨pu8_0, pu8_1, pu8_2, pu8_3, pu8_4, pu8_5⟩ := pu8
            have rr9 := n_rng r9
            have hm19 := pu8_4
            have hm09 := pu8_5
            refine r_if_ne C 41 (oDec_at oX11_make 21 rfl) (by decide) (fun cd10 => ?_) (fun cd10 => ?_)
            · skip
              replace pu8_4 := pu8_4 (by omega)
              clear pu8_5
              refine r_aload_n C (j := 0) (oDec_at oX11_make 24 rfl) rfl rfl ?_
              refine r_callVv C oCl11 rfl miX11_takeSpare mlX11_121 (ct9_X11_takeSpare l E (u8)  (owCZ_fr fu8 rfl hp6)) (by decide) rfl rfl rfl (Nat.le_of_ble_eq_true rfl) (oDec_at oX11_make 25 rfl) (fun u11 pu11 fu11 => ?_)
              try dsimp only at pu11
              refine r_iconst C (oDec_at oX11_make 26 rfl) (v := k1) (by rw [qk1]; rfl) ?_
              exact r_iret C (oDec_at oX11_make 27 rfl) ⟨_, rfl, ⟨(owKV_fr fu11 rfl pu8_1), (owDN_fr fu11 rfl pu8_2), (owLN_fr fu11 rfl pu8_3), owMr_y (by omega) ((show k1.toInt = 1 by omega) ▸ hm19 (by omega)), pu11⟩⟩
            · skip
              clear pu8_4
              replace pu8_5 := pu8_5 (by omega)
              refine r_iconst C (oDec_at oX11_make 22 rfl) (v := k0) (by rw [qk0]; rfl) ?_
              exact r_iret C (oDec_at oX11_make 23 rfl) ⟨_, rfl, ⟨pu8_1, pu8_2, pu8_3, owMr_y (by omega) ((show k0.toInt = 0 by omega) ▸ hm09 (by omega)), (owCZ_fr fu8 rfl hp6)⟩⟩
          · skip
            refine r_iconst C (oDec_at oX11_make 14 rfl) (v := km1) (by rw [qkm1]; rfl) ?_
            exact r_iret C (oDec_at oX11_make 15 rfl) ⟨_, rfl, ⟨hp1, hp2, hp3, owMr_n (by omega) (by omega), hp6⟩⟩
set_option maxHeartbeats 4000000 in
set_option maxRecDepth 100000 in
theorem ct11_X11_on (l : Launch) (E : oE) (s : oS)  (g : Int → Int) (nn : Int) (hp0 : (s.1 1 1).toInt = nn) (hp1 : oqX g s) (hp2 : owLN s) (hp3 : owCZ s) : oMet l 3 yX11_on cX11_on 2 (some .boolean) [(3, 0), (4, 4), (4, 5), (4, 6), (4, 7), (7, 0), (8, 1), (10, 3), (11, 1), (11, 2), (11, 17), (16, 9999), (17, 9999), (18, 9999), (19, 9999)] E s [.ref (oad E 0)] (oPi (fun r u => (0 ≤ r.toInt ∧ r.toInt ≤ 1) ∧ ((u.1 1 1).toInt = 0) ∧ (r.toInt = 1 ↔ oqI g nn) ∧ (owLN u) ∧ (owCZ u))) := by
  refine oMet.of (lv := [(0, .ref (oad E 0))]) (by decide +kernel) (Nat.le_of_ble_eq_true rfl) rfl (fun J C hT => ?_)
  have C : oC l 3 cX11_on RX11 2 (some .boolean) [(3, 0), (4, 4), (4, 5), (4, 6), (4, 7), (7, 0), (8, 1), (10, 3), (11, 1), (11, 2), (11, 17), (16, 9999), (17, 9999), (18, 9999), (19, 9999)] E s (oPi (fun r u => (0 ≤ r.toInt ∧ r.toInt ≤ 1) ∧ ((u.1 1 1).toInt = 0) ∧ (r.toInt = 1 ↔ oqI g nn) ∧ (owLN u) ∧ (owCZ u))) J := C
  obtain ⟨k0, qk0⟩ : ∃ z : Int32, z = 0 := ⟨_, rfl⟩
  have ek0 : k0.toInt = 0 := by rw [qk0]; rfl
  refine r_aload_n C (j := 0) (oDec_at oX11_on 0 rfl) rfl rfl ?_
  refine r_callVi C oCl11 rfl miX11_imageInSpare mlX11_355 (ct9_X11_imageInSpare l E (s)  (g) (nn) (by omega) hp1 hp2) (by decide) rfl rfl rfl (Nat.le_of_ble_eq_true rfl) (oDec_at oX11_on 1 rfl) (fun r2 u1 pu1 fu1 => ?_)
  try dsimp only at pu1
  obtain ⟨pu1_0, pu1_1, pu1_2⟩ := pu1
  have rr2 := n_rng r2
  refine r_istore_n C (lv' := [(0, .ref (oad E 0)), (1, .int r2)]) [1, 0] (oDec_at oX11_on 2 rfl) rfl (by decide) rfl ?_
  refine r_aload_n C (j := 0) (oDec_at oX11_on 3 rfl) rfl rfl ?_
  refine r_getF (k := 0) (b := 1) C oCl11 rfl (by decide) flX11_10 rfl rfl rfl (oDec_at oX11_on 4 rfl) ?_
  refine r_iconst C (oDec_at oX11_on 5 rfl) (v := k0) (by rw [qk0]; rfl) ?_
  refine r_pc C 10 rfl ?_
  refine r_ty C (fun hty => ?_)
  have ht10 : (0 : Int) ≤ ((u1).1 1 1).toInt ∧ ((u1).1 1 1).toInt ≤ 1600 := hty.1 1 1
  have lk3 : ((u1).1 1 1).toInt = (s.1 1 1).toInt := congrArg Int32.toInt ((fu1 1 1 rfl).1)
  refine r_callVi C oCl8 rfl miX8_cut mlX11_114 (ct_X8_cut l E (u1) k0 ) (by decide) rfl rfl rfl (Nat.le_of_ble_eq_true rfl) (oDec_at oX11_on 6 rfl) (fun r5 u4 pu4 fu4 => ?_)
  try dsimp only at pu4
  try simp only [lk3] at pu4
  obtain ⟨pu4_0, pu4_1⟩ := pu4
  have rr5 := n_rng r5
  refine r_pop C (oDec_at oX11_on 7 rfl) rfl ?_
  refine r_iload_n C (j := 1) (oDec_at oX11_on 8 rfl) rfl rfl ?_
  refine r_if_eq C 22 (oDec_at oX11_on 9 rfl) (by decide) (fun cd6 => ?_) (fun cd6 => ?_)
  · skip
    refine r_iload_n C (j := 1) (oDec_at oX11_on 12 rfl) rfl rfl ?_
    exact r_zret C (n_bool (by omega)) (oDec_at oX11_on 13 rfl) ⟨_, rfl, ⟨by omega, by omega, pu1_1, (owLN_fr fu4 rfl pu1_2), (owCZ_fr fu4 rfl (owCZ_fr fu1 rfl hp3))⟩⟩
  · skip
    refine r_aload_n C (j := 0) (oDec_at oX11_on 10 rfl) rfl rfl ?_
    refine r_callVv C oCl11 rfl miX11_takeSpare mlX11_121 (ct9_X11_takeSpare l E (u4)  (owCZ_fr fu4 rfl (owCZ_fr fu1 rfl hp3))) (by decide) rfl rfl rfl (Nat.le_of_ble_eq_true rfl) (oDec_at oX11_on 11 rfl) (fun u7 pu7 fu7 => ?_)
    try dsimp only at pu7
    refine r_iload_n C (j := 1) (oDec_at oX11_on 12 rfl) rfl rfl ?_
    have lk9 : ((u7).1 1 1).toInt = (u4.1 1 1).toInt := congrArg Int32.toInt ((fu7 1 1 rfl).1)
    exact r_zret C (n_bool (by omega)) (oDec_at oX11_on 13 rfl) ⟨_, rfl, ⟨by omega, by omega, pu1_1, (owLN_fr fu7 rfl (owLN_fr fu4 rfl pu1_2)), pu7⟩⟩
