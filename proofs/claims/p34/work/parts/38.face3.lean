set_option maxHeartbeats 4000000 in
set_option maxRecDepth 100000 in
theorem ct_X11_round (l : Launch) (E : oE) (s : oS) (a1 : Int32)  : oMet l 6 yX11_round cX11_round 3 (some .int) [(1, 6), (1, 7), (1, 8), (9, 0), (9, 1), (9, 2), (9, 3), (9, 4), (24, 9999), (25, 9999), (26, 9999), (27, 9999), (28, 9999), (29, 9999), (30, 9999), (31, 9999)] E s [.ref (oad E 0), .int a1] (oPi (fun r u => True)) := by
  refine oMet.of (lv := [(0, .ref (oad E 0)), (1, .int a1)]) (by decide +kernel) (Nat.le_of_ble_eq_true rfl) rfl (fun J C hT => ?_)
  have C : oC l 6 cX11_round RX11 3 (some .int) [(1, 6), (1, 7), (1, 8), (9, 0), (9, 1), (9, 2), (9, 3), (9, 4), (24, 9999), (25, 9999), (26, 9999), (27, 9999), (28, 9999), (29, 9999), (30, 9999), (31, 9999)] E s (oPi (fun r u => True)) J := C
  obtain ⟨km1, qkm1⟩ : ∃ z : Int32, z = (-1) := ⟨_, rfl⟩
  have ekm1 : km1.toInt = (-1) := by rw [qkm1]; rfl
  obtain ⟨k0, qk0⟩ : ∃ z : Int32, z = 0 := ⟨_, rfl⟩
  have ek0 : k0.toInt = 0 := by rw [qk0]; rfl
  obtain ⟨k3, qk3⟩ : ∃ z : Int32, z = 3 := ⟨_, rfl⟩
  have ek3 : k3.toInt = 3 := by rw [qk3]; rfl
  have rg1 := n_rng a1
  refine r_iload_n C (j := 1) (oDec_at oX11_round 0 rfl) rfl rfl ?_
  refine r_callSi C miX11_follows mlX11_305 (ct_X11_follows l E (s) a1 ) (by decide) rfl rfl rfl (Nat.le_of_ble_eq_true rfl) (oDec_at oX11_round 1 rfl) (fun r2 u1 pu1 fu1 => ?_)
  try dsimp only at pu1
  have rr2 := n_rng r2
  refine r_if_eq C 23 (oDec_at oX11_round 2 rfl) (by decide) (fun cd3 => ?_) (fun cd3 => ?_)
  · skip
    refine r_iconst C (oDec_at oX11_round 11 rfl) (v := km1) (by rw [qkm1]; rfl) ?_
    exact r_iret C (oDec_at oX11_round 12 rfl) ⟨_, rfl, trivial⟩
  · skip
    refine r_iload_n C (j := 1) (oDec_at oX11_round 3 rfl) rfl rfl ?_
    refine r_iconst C (oDec_at oX11_round 4 rfl) (v := k3) (by rw [qk3]; rfl) ?_
    obtain ⟨v4, ev4⟩ : ∃ z : Int32, z = a1 - a1 / k3 * k3 := ⟨_, rfl⟩
    have hv4 := n_rem (k := 3) ev4 ek3 (by decide)
    have rv4 := n_rng v4
    refine r_irem C v4 (oDec_at oX11_round 5 rfl) (n_ne0 (by omega)) ev4 ?_
    refine r_if_ne C 23 (oDec_at oX11_round 6 rfl) (by decide) (fun cd5 => ?_) (fun cd5 => ?_)
    · skip
      refine r_iconst C (oDec_at oX11_round 11 rfl) (v := km1) (by rw [qkm1]; rfl) ?_
      exact r_iret C (oDec_at oX11_round 12 rfl) ⟨_, rfl, trivial⟩
    · skip
      refine r_aload_n C (j := 0) (oDec_at oX11_round 7 rfl) rfl rfl ?_
      refine r_getS (k := 1) (q2 := 4) C oCl11 rfl (by decide) flX11_19 rfl rfl rfl ks0 (oDec_at oX11_round 8 rfl) (fun b6 rb6 mb6 hkb6 => ?_)
      obtain ⟨v7, ev7⟩ : ∃ z : Int32, (u1).1 b6 5 = z := ⟨_, rfl⟩
      have gv7 : (s.1 b6 5).toInt = v7.toInt := congrArg Int32.toInt (((fu1 b6 5 (by rw [hkb6]; rfl)).1).symm.trans ev7)
      refine r_getiN (k := 5) (lo := 0) (hi := 96) C v7 oCl4 hkb6 (by decide) flX11_147 rfl rfl (ev7) rfl rfl (oDec_at oX11_round 9 rfl) (fun b8 b8h => ?_)
      refine r_if_ne C 25 (oDec_at oX11_round 10 rfl) (by decide) (fun cd9 => ?_) (fun cd9 => ?_)
      · skip
        refine r_aload_n C (j := 0) (oDec_at oX11_round 13 rfl) rfl rfl ?_
        refine r_getF (k := 8) (b := 35) C oCl11 rfl (by decide) flX11_60 rfl rfl rfl (oDec_at oX11_round 14 rfl) ?_
        refine r_aload_n C (j := 0) (oDec_at oX11_round 15 rfl) rfl rfl ?_
        refine r_getK (k := 1) (b := b6) C oCl11 rfl (by decide) flX11_19 rfl rfl (rb6) (oDec_at oX11_round 16 rfl) ?_
        refine r_aload_n C (j := 0) (oDec_at oX11_round 17 rfl) rfl rfl ?_
        refine r_getS (k := 4) (q2 := 0) C oCl11 rfl (by decide) flX11_32 rfl rfl rfl ks1 (oDec_at oX11_round 18 rfl) (fun b11 rb11 mb11 hkb11 => ?_)
        obtain ⟨v12, ev12⟩ : ∃ z : Int32, (u1).1 b11 6 = z := ⟨_, rfl⟩
        have gv12 : (s.1 b11 6).toInt = v12.toInt := congrArg Int32.toInt (((fu1 b11 6 (by rw [hkb11]; rfl)).1).symm.trans ev12)
        refine r_getiN (k := 6) (lo := 2) (hi := 12) C v12 oCl0 hkb11 (by decide) flX11_156 rfl rfl (ev12) rfl rfl (oDec_at oX11_round 19 rfl) (fun b13 b13h => ?_)
        refine r_pc C 40 rfl ?_
        refine r_iload_n C (j := 1) (oDec_at oX11_round 20 rfl) rfl rfl ?_
        refine r_callVv C oCl1 rfl miX1_hearRound mlX11_308 (ct_X1_hearRound l E (u1) b6 hkb6 v12 a1 ) (by decide) rfl rfl rfl (Nat.le_of_ble_eq_true rfl) (oDec_at oX11_round 21 rfl) (fun u14 pu14 fu14 => ?_)
        try dsimp only at pu14
        refine r_aload_n C (j := 0) (oDec_at oX11_round 22 rfl) rfl rfl ?_
        refine r_getF (k := 7) (b := 31) C oCl11 rfl (by decide) flX11_53 rfl rfl rfl (oDec_at oX11_round 23 rfl) ?_
        refine r_aload_n C (j := 0) (oDec_at oX11_round 24 rfl) rfl rfl ?_
        refine r_getF (k := 8) (b := 35) C oCl11 rfl (by decide) flX11_60 rfl rfl rfl (oDec_at oX11_round 25 rfl) ?_
        refine r_pc C 52 rfl ?_
        refine r_iconst C (oDec_at oX11_round 26 rfl) (v := k0) (by rw [qk0]; rfl) ?_
        refine r_callVi C oCl2 rfl miX2_nextBroken mlX11_232 (ct_X2_nextBroken l E (u14) k0 ) (by decide) rfl rfl rfl (Nat.le_of_ble_eq_true rfl) (oDec_at oX11_round 27 rfl) (fun r17 u16 pu16 fu16 => ?_)
        try dsimp only at pu16
        have rr17 := n_rng r17
        refine r_istore_n C (lv' := [(0, .ref (oad E 0)), (1, .int a1), (2, .int r17)]) [1, 2, 0] (oDec_at oX11_round 28 rfl) rfl (by decide) rfl ?_
        refine r_iload_n C (j := 2) (oDec_at oX11_round 29 rfl) rfl rfl ?_
        refine r_iconst C (oDec_at oX11_round 30 rfl) (v := km1) (by rw [qkm1]; rfl) ?_
        refine r_icmp_ne C 66 (oDec_at oX11_round 31 rfl) (by decide) (fun cd18 => ?_) (fun cd18 => ?_)
        · skip
          refine r_aload_n C (j := 0) (oDec_at oX11_round 34 rfl) rfl rfl ?_
          refine r_getF (k := 8) (b := 35) C oCl11 rfl (by decide) flX11_60 rfl rfl rfl (oDec_at oX11_round 35 rfl) ?_
          refine r_iload_n C (j := 2) (oDec_at oX11_round 36 rfl) rfl rfl ?_
          refine r_callVi C oCl1 rfl miX1_tickOf mlX11_236 (ct_X1_tickOf l E (u16) r17 ) (by decide) rfl rfl rfl (Nat.le_of_ble_eq_true rfl) (oDec_at oX11_round 37 rfl) (fun r20 u19 pu19 fu19 => ?_)
          try dsimp only at pu19
          have rr20 := n_rng r20
          exact r_iret C (oDec_at oX11_round 38 rfl) ⟨_, rfl, trivial⟩
        · skip
          refine r_iconst C (oDec_at oX11_round 32 rfl) (v := km1) (by rw [qkm1]; rfl) ?_
          refine r_goto C (tgt := 74) (oDec_at oX11_round 33 rfl) (by decide) ?_
          exact r_iret C (oDec_at oX11_round 38 rfl) ⟨_, rfl, trivial⟩
      · skip
        refine r_iconst C (oDec_at oX11_round 11 rfl) (v := km1) (by rw [qkm1]; rfl) ?_
        exact r_iret C (oDec_at oX11_round 12 rfl) ⟨_, rfl, trivial⟩
set_option maxHeartbeats 4000000 in
set_option maxRecDepth 100000 in
theorem ct_X11_make (l : Launch) (E : oE) (s : oS) (a1 : Int32) (a2 : Int32) (a3 : Int32)  : oMet l 8 yX11_make cX11_make 4 (some .int) [(1, 6), (1, 7), (1, 8), (3, 0), (4, 4), (4, 5), (4, 6), (4, 7), (7, 0), (9, 0), (9, 1), (9, 2), (9, 3), (9, 4), (10, 3), (11, 1), (11, 2), (11, 17), (16, 9999), (17, 9999), (18, 9999), (19, 9999), (24, 9999), (25, 9999), (26, 9999), (27, 9999), (28, 9999), (29, 9999), (30, 9999), (31, 9999)] E s [.ref (oad E 0), .int a1, .int a2, .int a3] (oPi (fun r u => True)) := by
  refine oMet.of (lv := [(0, .ref (oad E 0)), (1, .int a1), (2, .int a2), (3, .int a3)]) (by decide +kernel) (Nat.le_of_ble_eq_true rfl) rfl (fun J C hT => ?_)
  have C : oC l 8 cX11_make RX11 4 (some .int) [(1, 6), (1, 7), (1, 8), (3, 0), (4, 4), (4, 5), (4, 6), (4, 7), (7, 0), (9, 0), (9, 1), (9, 2), (9, 3), (9, 4), (10, 3), (11, 1), (11, 2), (11, 17), (16, 9999), (17, 9999), (18, 9999), (19, 9999), (24, 9999), (25, 9999), (26, 9999), (27, 9999), (28, 9999), (29, 9999), (30, 9999), (31, 9999)] E s (oPi (fun r u => True)) J := C
  obtain ⟨km1, qkm1⟩ : ∃ z : Int32, z = (-1) := ⟨_, rfl⟩
  have ekm1 : km1.toInt = (-1) := by rw [qkm1]; rfl
  obtain ⟨k0, qk0⟩ : ∃ z : Int32, z = 0 := ⟨_, rfl⟩
  have ek0 : k0.toInt = 0 := by rw [qk0]; rfl
  obtain ⟨k1, qk1⟩ : ∃ z : Int32, z = 1 := ⟨_, rfl⟩
  have ek1 : k1.toInt = 1 := by rw [qk1]; rfl
  obtain ⟨k4, qk4⟩ : ∃ z : Int32, z = 4 := ⟨_, rfl⟩
  have ek4 : k4.toInt = 4 := by rw [qk4]; rfl
  obtain ⟨k6, qk6⟩ : ∃ z : Int32, z = 6 := ⟨_, rfl⟩
  have ek6 : k6.toInt = 6 := by rw [qk6]; rfl
  have rg1 := n_rng a1
  have rg2 := n_rng a2
  have rg3 := n_rng a3
  refine r_iload_n C (j := 1) (oDec_at oX11_make 0 rfl) rfl rfl ?_
  refine r_callSi C miX11_follows mlX11_305 (ct_X11_follows l E (s) a1 ) (by decide) rfl rfl rfl (Nat.le_of_ble_eq_true rfl) (oDec_at oX11_make 1 rfl) (fun r2 u1 pu1 fu1 => ?_)
  try dsimp only at pu1
  have rr2 := n_rng r2
  refine r_if_eq C 27 (oDec_at oX11_make 2 rfl) (by decide) (fun cd3 => ?_) (fun cd3 => ?_)
  · skip
    refine r_iconst C (oDec_at oX11_make 14 rfl) (v := km1) (by rw [qkm1]; rfl) ?_
    exact r_iret C (oDec_at oX11_make 15 rfl) ⟨_, rfl, trivial⟩
  · skip
    refine r_iload_n C (j := 2) (oDec_at oX11_make 3 rfl) rfl rfl ?_
    refine r_iconst C (oDec_at oX11_make 4 rfl) (v := k1) (by rw [qk1]; rfl) ?_
    refine r_icmp_lt C 27 (oDec_at oX11_make 5 rfl) (by decide) (fun cd4 => ?_) (fun cd4 => ?_)
    · skip
      refine r_iconst C (oDec_at oX11_make 14 rfl) (v := km1) (by rw [qkm1]; rfl) ?_
      exact r_iret C (oDec_at oX11_make 15 rfl) ⟨_, rfl, trivial⟩
    · skip
      refine r_iload_n C (j := 2) (oDec_at oX11_make 6 rfl) rfl rfl ?_
      refine r_bipush C (oDec_at oX11_make 7 rfl) (v := k6) (by rw [qk6]; rfl) ?_
      refine r_icmp_gt C 27 (oDec_at oX11_make 8 rfl) (by decide) (fun cd5 => ?_) (fun cd5 => ?_)
      · skip
        refine r_iconst C (oDec_at oX11_make 14 rfl) (v := km1) (by rw [qkm1]; rfl) ?_
        exact r_iret C (oDec_at oX11_make 15 rfl) ⟨_, rfl, trivial⟩
      · skip
        refine r_iload_n C (j := 3) (oDec_at oX11_make 9 rfl) rfl rfl ?_
        refine r_if_lt C 27 (oDec_at oX11_make 10 rfl) (by decide) (fun cd6 => ?_) (fun cd6 => ?_)
        · skip
          refine r_iconst C (oDec_at oX11_make 14 rfl) (v := km1) (by rw [qkm1]; rfl) ?_
          exact r_iret C (oDec_at oX11_make 15 rfl) ⟨_, rfl, trivial⟩
        · skip
          refine r_iload_n C (j := 3) (oDec_at oX11_make 11 rfl) rfl rfl ?_
          refine r_iconst C (oDec_at oX11_make 12 rfl) (v := k4) (by rw [qk4]; rfl) ?_
          refine r_icmp_le C 29 (oDec_at oX11_make 13 rfl) (by decide) (fun cd7 => ?_) (fun cd7 => ?_)
          · skip
            refine r_aload_n C (j := 0) (oDec_at oX11_make 16 rfl) rfl rfl ?_
            refine r_iload_n C (j := 1) (oDec_at oX11_make 17 rfl) rfl rfl ?_
            refine r_iload_n C (j := 2) (oDec_at oX11_make 18 rfl) rfl rfl ?_
            refine r_iload_n C (j := 3) (oDec_at oX11_make 19 rfl) rfl rfl ?_
            refine r_callVi C oCl11 rfl miX11_madeInSpare mlX11_312 (ct_X11_madeInSpare l E (u1) a1 a2 a3 ) (by decide) rfl rfl rfl (Nat.le_of_ble_eq_true rfl) (oDec_at oX11_make 20 rfl) (fun r9 u8 pu8 fu8 => ?_)
            try dsimp only at pu8
            have rr9 := n_rng r9
            refine r_if_ne C 41 (oDec_at oX11_make 21 rfl) (by decide) (fun cd10 => ?_) (fun cd10 => ?_)
            · skip
              refine r_aload_n C (j := 0) (oDec_at oX11_make 24 rfl) rfl rfl ?_
              refine r_callVv C oCl11 rfl miX11_takeSpare mlX11_121 (ct_X11_takeSpare l E (u8)  ) (by decide) rfl rfl rfl (Nat.le_of_ble_eq_true rfl) (oDec_at oX11_make 25 rfl) (fun u11 pu11 fu11 => ?_)
              try dsimp only at pu11
              refine r_iconst C (oDec_at oX11_make 26 rfl) (v := k1) (by rw [qk1]; rfl) ?_
              exact r_iret C (oDec_at oX11_make 27 rfl) ⟨_, rfl, trivial⟩
            · skip
              refine r_iconst C (oDec_at oX11_make 22 rfl) (v := k0) (by rw [qk0]; rfl) ?_
              exact r_iret C (oDec_at oX11_make 23 rfl) ⟨_, rfl, trivial⟩
          · skip
            refine r_iconst C (oDec_at oX11_make 14 rfl) (v := km1) (by rw [qkm1]; rfl) ?_
            exact r_iret C (oDec_at oX11_make 15 rfl) ⟨_, rfl, trivial⟩
set_option maxHeartbeats 4000000 in
set_option maxRecDepth 100000 in
theorem ct_X11_shortest (l : Launch) (E : oE) (s : oS) (a1 : Int32) (a2 : Int32)  : oMet l 8 yX11_shortest cX11_shortest 4 (some .int) [(1, 6), (1, 7), (1, 8), (4, 4), (4, 5), (4, 6), (4, 7), (9, 0), (9, 1), (9, 2), (9, 3), (9, 4), (16, 9999), (17, 9999), (18, 9999), (19, 9999), (24, 9999), (25, 9999), (26, 9999), (27, 9999), (28, 9999), (29, 9999), (30, 9999), (31, 9999)] E s [.ref (oad E 0), .int a1, .int a2] (oPi (fun r u => True)) := by
  refine oMet.of (lv := [(0, .ref (oad E 0)), (1, .int a1), (2, .int a2)]) (by decide +kernel) (Nat.le_of_ble_eq_true rfl) rfl (fun J C hT => ?_)
  have C : oC l 8 cX11_shortest RX11 4 (some .int) [(1, 6), (1, 7), (1, 8), (4, 4), (4, 5), (4, 6), (4, 7), (9, 0), (9, 1), (9, 2), (9, 3), (9, 4), (16, 9999), (17, 9999), (18, 9999), (19, 9999), (24, 9999), (25, 9999), (26, 9999), (27, 9999), (28, 9999), (29, 9999), (30, 9999), (31, 9999)] E s (oPi (fun r u => True)) J := C
  obtain ⟨km1, qkm1⟩ : ∃ z : Int32, z = (-1) := ⟨_, rfl⟩
  have ekm1 : km1.toInt = (-1) := by rw [qkm1]; rfl
  obtain ⟨k2, qk2⟩ : ∃ z : Int32, z = 2 := ⟨_, rfl⟩
  have ek2 : k2.toInt = 2 := by rw [qk2]; rfl
  obtain ⟨k4, qk4⟩ : ∃ z : Int32, z = 4 := ⟨_, rfl⟩
  have ek4 : k4.toInt = 4 := by rw [qk4]; rfl
  obtain ⟨k6, qk6⟩ : ∃ z : Int32, z = 6 := ⟨_, rfl⟩
  have ek6 : k6.toInt = 6 := by rw [qk6]; rfl
  have rg1 := n_rng a1
  have rg2 := n_rng a2
  have key : ∀ n : Nat, (∀ (t : oS) (x3 : Int32), (2 ≤ x3.toInt ∧ x3.toInt ≤ 7) → 8 - x3.toInt ≤ (n : Int) → J t 20 [(0, .ref (oad E 0)), (1, .int a1), (2, .int a2), (3, .int x3)] []) := by
    intro n
    induction n using Nat.strongRecOn with
    | _ n ih =>
      skip
      · intro t x3  iv0 hmu
        have rx3 := n_rng x3
        refine r_iload_n C (j := 3) (oDec_at oX11_shortest 12 rfl) rfl rfl ?_
        refine r_bipush C (oDec_at oX11_shortest 13 rfl) (v := k6) (by rw [qk6]; rfl) ?_
        refine r_icmp_gt C 44 (oDec_at oX11_shortest 14 rfl) (by decide) (fun cd1 => ?_) (fun cd1 => ?_)
        · skip
          refine r_iconst C (oDec_at oX11_shortest 25 rfl) (v := km1) (by rw [qkm1]; rfl) ?_
          exact r_iret C (oDec_at oX11_shortest 26 rfl) ⟨_, rfl, trivial⟩
        · skip
          refine r_aload_n C (j := 0) (oDec_at oX11_shortest 15 rfl) rfl rfl ?_
          refine r_iload_n C (j := 1) (oDec_at oX11_shortest 16 rfl) rfl rfl ?_
          refine r_iload_n C (j := 3) (oDec_at oX11_shortest 17 rfl) rfl rfl ?_
          refine r_iload_n C (j := 2) (oDec_at oX11_shortest 18 rfl) rfl rfl ?_
          refine r_callVi C oCl11 rfl miX11_madeInSpare mlX11_312 (ct_X11_madeInSpare l E (t) a1 x3 a2 ) (by decide) rfl rfl rfl (Nat.le_of_ble_eq_true rfl) (oDec_at oX11_shortest 19 rfl) (fun r3 u2 pu2 fu2 => ?_)
          try dsimp only at pu2
          have rr3 := n_rng r3
          refine r_if_eq C 38 (oDec_at oX11_shortest 20 rfl) (by decide) (fun cd4 => ?_) (fun cd4 => ?_)
          · skip
            obtain ⟨v5, ev5⟩ : ∃ z : Int32, x3 + Int32.ofInt 1 = z := ⟨_, rfl⟩
            have hv5 : v5.toInt = x3.toInt + 1 := n_inc ev5 (by decide) (by omega) (by omega)
            refine r_iinc C (j := 3) (lv' := [(0, .ref (oad E 0)), (1, .int a1), (2, .int a2), (3, .int v5)]) v5 [1, 2, 3, 0] (oDec_at oX11_shortest 23 rfl) rfl ev5 (by decide) rfl ?_
            refine r_goto C (tgt := 20) (oDec_at oX11_shortest 24 rfl) (by decide) ?_
            exact (ih (n - 1) (by omega)) (u2) v5  (by omega) (by omega)
          · skip
            refine r_iload_n C (j := 3) (oDec_at oX11_shortest 21 rfl) rfl rfl ?_
            exact r_iret C (oDec_at oX11_shortest 22 rfl) ⟨_, rfl, trivial⟩
  refine r_iload_n C (j := 1) (oDec_at oX11_shortest 0 rfl) rfl rfl ?_
  refine r_callSi C miX11_follows mlX11_305 (ct_X11_follows l E (s) a1 ) (by decide) rfl rfl rfl (Nat.le_of_ble_eq_true rfl) (oDec_at oX11_shortest 1 rfl) (fun r7 u6 pu6 fu6 => ?_)
  try dsimp only at pu6
  have rr7 := n_rng r7
  refine r_if_eq C 16 (oDec_at oX11_shortest 2 rfl) (by decide) (fun cd8 => ?_) (fun cd8 => ?_)
  · skip
    refine r_iconst C (oDec_at oX11_shortest 8 rfl) (v := km1) (by rw [qkm1]; rfl) ?_
    exact r_iret C (oDec_at oX11_shortest 9 rfl) ⟨_, rfl, trivial⟩
  · skip
    refine r_iload_n C (j := 2) (oDec_at oX11_shortest 3 rfl) rfl rfl ?_
    refine r_if_lt C 16 (oDec_at oX11_shortest 4 rfl) (by decide) (fun cd9 => ?_) (fun cd9 => ?_)
    · skip
      refine r_iconst C (oDec_at oX11_shortest 8 rfl) (v := km1) (by rw [qkm1]; rfl) ?_
      exact r_iret C (oDec_at oX11_shortest 9 rfl) ⟨_, rfl, trivial⟩
    · skip
      refine r_iload_n C (j := 2) (oDec_at oX11_shortest 5 rfl) rfl rfl ?_
      refine r_iconst C (oDec_at oX11_shortest 6 rfl) (v := k4) (by rw [qk4]; rfl) ?_
      refine r_icmp_le C 18 (oDec_at oX11_shortest 7 rfl) (by decide) (fun cd10 => ?_) (fun cd10 => ?_)
      · skip
        refine r_iconst C (oDec_at oX11_shortest 10 rfl) (v := k2) (by rw [qk2]; rfl) ?_
        refine r_istore_n C (lv' := [(0, .ref (oad E 0)), (1, .int a1), (2, .int a2), (3, .int k2)]) [1, 2, 3, 0] (oDec_at oX11_shortest 11 rfl) rfl (by decide) rfl ?_
        exact (key (8 - k2.toInt).toNat) (u6) k2  (by omega) (by omega)
      · skip
        refine r_iconst C (oDec_at oX11_shortest 8 rfl) (v := km1) (by rw [qkm1]; rfl) ?_
        exact r_iret C (oDec_at oX11_shortest 9 rfl) ⟨_, rfl, trivial⟩
set_option maxHeartbeats 4000000 in
set_option maxRecDepth 100000 in
theorem ct_X11_richest (l : Launch) (E : oE) (s : oS) (a1 : Int32) (a2 : Int32) (a3 : Int32)  : oMet l 7 yX11_richest cX11_richest 8 (some .int) [(1, 6), (1, 7), (1, 8), (3, 0), (4, 4), (4, 5), (4, 6), (4, 7), (7, 0), (9, 0), (9, 1), (9, 2), (9, 3), (9, 4), (10, 3), (10, 4), (11, 1), (11, 2), (11, 17), (16, 9999), (17, 9999), (18, 9999), (19, 9999), (24, 9999), (25, 9999), (26, 9999), (27, 9999), (28, 9999), (29, 9999), (30, 9999), (31, 9999), (32, 9999), (34, 9999), (35, 9999), (36, 9999)] E s [.ref (oad E 0), .int a1, .int a2, .int a3] (oPi (fun r u => True)) := by
  refine oMet.of (lv := [(0, .ref (oad E 0)), (1, .int a1), (2, .int a2), (3, .int a3)]) (by decide +kernel) (Nat.le_of_ble_eq_true rfl) rfl (fun J C hT => ?_)
  have C : oC l 7 cX11_richest RX11 8 (some .int) [(1, 6), (1, 7), (1, 8), (3, 0), (4, 4), (4, 5), (4, 6), (4, 7), (7, 0), (9, 0), (9, 1), (9, 2), (9, 3), (9, 4), (10, 3), (10, 4), (11, 1), (11, 2), (11, 17), (16, 9999), (17, 9999), (18, 9999), (19, 9999), (24, 9999), (25, 9999), (26, 9999), (27, 9999), (28, 9999), (29, 9999), (30, 9999), (31, 9999), (32, 9999), (34, 9999), (35, 9999), (36, 9999)] E s (oPi (fun r u => True)) J := C
  obtain ⟨km1, qkm1⟩ : ∃ z : Int32, z = (-1) := ⟨_, rfl⟩
  have ekm1 : km1.toInt = (-1) := by rw [qkm1]; rfl
  obtain ⟨k0, qk0⟩ : ∃ z : Int32, z = 0 := ⟨_, rfl⟩
  have ek0 : k0.toInt = 0 := by rw [qk0]; rfl
  obtain ⟨k1, qk1⟩ : ∃ z : Int32, z = 1 := ⟨_, rfl⟩
  have ek1 : k1.toInt = 1 := by rw [qk1]; rfl
  obtain ⟨k2, qk2⟩ : ∃ z : Int32, z = 2 := ⟨_, rfl⟩
  have ek2 : k2.toInt = 2 := by rw [qk2]; rfl
  obtain ⟨k4, qk4⟩ : ∃ z : Int32, z = 4 := ⟨_, rfl⟩
  have ek4 : k4.toInt = 4 := by rw [qk4]; rfl
  obtain ⟨k20000, qk20000⟩ : ∃ z : Int32, z = 20000 := ⟨_, rfl⟩
  have ek20000 : k20000.toInt = 20000 := by rw [qk20000]; rfl
  have rg1 := n_rng a1
  have rg2 := n_rng a2
  have rg3 := n_rng a3
  have key : ∀ n : Nat, (∀ (t : oS) (x4 : Int32) (x5 : Int32) (x6 : Int32), (0 ≤ x6.toInt ∧ x6.toInt ≤ 20000) → 20001 - x6.toInt ≤ (n : Int) → J t 47 [(0, .ref (oad E 0)), (1, .int a1), (2, .int a2), (3, .int a3), (4, .int x4), (5, .int x5), (6, .int x6)] []) := by
    intro n
    induction n using Nat.strongRecOn with
    | _ n ih =>
      skip
      · intro t x4 x5 x6  iv0 hmu
        have rx4 := n_rng x4
        have rx5 := n_rng x5
        have rx6 := n_rng x6
        refine r_iload C (j := 5) (oDec_at oX11_richest 28 rfl) rfl ?_
        refine r_if_eq C 123 (oDec_at oX11_richest 29 rfl) (by decide) (fun cd1 => ?_) (fun cd1 => ?_)
        · skip
          refine r_aload_n C (j := 0) (oDec_at oX11_richest 62 rfl) rfl rfl ?_
          refine r_callVv C oCl11 rfl miX11_forget mlX11_131 (ct_X11_forget l E (t)  ) (by decide) rfl rfl rfl (Nat.le_of_ble_eq_true rfl) (oDec_at oX11_richest 63 rfl) (fun u2 pu2 fu2 => ?_)
          try dsimp only at pu2
          refine r_iload C (j := 4) (oDec_at oX11_richest 64 rfl) rfl ?_
          refine r_iconst C (oDec_at oX11_richest 65 rfl) (v := km1) (by rw [qkm1]; rfl) ?_
          refine r_icmp_eq C 137 (oDec_at oX11_richest 66 rfl) (by decide) (fun cd4 => ?_) (fun cd4 => ?_)
          · skip
            refine r_iload C (j := 4) (oDec_at oX11_richest 69 rfl) rfl ?_
            exact r_iret C (oDec_at oX11_richest 70 rfl) ⟨_, rfl, trivial⟩
          · skip
            refine r_iload_n C (j := 3) (oDec_at oX11_richest 67 rfl) rfl rfl ?_
            refine r_if_ne C 140 (oDec_at oX11_richest 68 rfl) (by decide) (fun cd5 => ?_) (fun cd5 => ?_)
            · skip
              refine r_aload_n C (j := 0) (oDec_at oX11_richest 71 rfl) rfl rfl ?_
              refine r_getS (k := 2) (q2 := 4) C oCl11 rfl (by decide) flX11_23 rfl rfl rfl ks0 (oDec_at oX11_richest 72 rfl) (fun b6 rb6 mb6 hkb6 => ?_)
              refine r_aload_n C (j := 0) (oDec_at oX11_richest 73 rfl) rfl rfl ?_
              refine r_getS (k := 3) (q2 := 4) C oCl11 rfl (by decide) flX11_26 rfl rfl rfl ks0 (oDec_at oX11_richest 74 rfl) (fun b7 rb7 mb7 hkb7 => ?_)
              refine r_callVv C oCl4 hkb6 miX4_copyFrom mlX11_323 (ct_X4_copyFrom l E (u2) b6 hkb6 b7 hkb7 ) (by decide) rfl rfl rfl (Nat.le_of_ble_eq_true rfl) (oDec_at oX11_richest 75 rfl) (fun u8 pu8 fu8 => ?_)
              try dsimp only at pu8
              refine r_aload_n C (j := 0) (oDec_at oX11_richest 76 rfl) rfl rfl ?_
              refine r_pc C 152 rfl ?_
              refine r_callVv C oCl11 rfl miX11_takeSpare mlX11_121 (ct_X11_takeSpare l E (u8)  ) (by decide) rfl rfl rfl (Nat.le_of_ble_eq_true rfl) (oDec_at oX11_richest 77 rfl) (fun u10 pu10 fu10 => ?_)
              try dsimp only at pu10
              refine r_iload_n C (j := 1) (oDec_at oX11_richest 78 rfl) rfl rfl ?_
              exact r_iret C (oDec_at oX11_richest 79 rfl) ⟨_, rfl, trivial⟩
            · skip
              refine r_iload C (j := 4) (oDec_at oX11_richest 69 rfl) rfl ?_
              exact r_iret C (oDec_at oX11_richest 70 rfl) ⟨_, rfl, trivial⟩
        · skip
          refine r_iload C (j := 6) (oDec_at oX11_richest 30 rfl) rfl ?_
          refine r_sipush C (oDec_at oX11_richest 31 rfl) (v := k20000) (by rw [qk20000]; rfl) ?_
          refine r_icmp_ge C 123 (oDec_at oX11_richest 32 rfl) (by decide) (fun cd12 => ?_) (fun cd12 => ?_)
          · skip
            refine r_aload_n C (j := 0) (oDec_at oX11_richest 62 rfl) rfl rfl ?_
            refine r_callVv C oCl11 rfl miX11_forget mlX11_131 (ct_X11_forget l E (t)  ) (by decide) rfl rfl rfl (Nat.le_of_ble_eq_true rfl) (oDec_at oX11_richest 63 rfl) (fun u13 pu13 fu13 => ?_)
            try dsimp only at pu13
            refine r_iload C (j := 4) (oDec_at oX11_richest 64 rfl) rfl ?_
            refine r_iconst C (oDec_at oX11_richest 65 rfl) (v := km1) (by rw [qkm1]; rfl) ?_
            refine r_icmp_eq C 137 (oDec_at oX11_richest 66 rfl) (by decide) (fun cd15 => ?_) (fun cd15 => ?_)
            · skip
              refine r_iload C (j := 4) (oDec_at oX11_richest 69 rfl) rfl ?_
              exact r_iret C (oDec_at oX11_richest 70 rfl) ⟨_, rfl, trivial⟩
            · skip
              refine r_iload_n C (j := 3) (oDec_at oX11_richest 67 rfl) rfl rfl ?_
              refine r_if_ne C 140 (oDec_at oX11_richest 68 rfl) (by decide) (fun cd16 => ?_) (fun cd16 => ?_)
              · skip
                refine r_aload_n C (j := 0) (oDec_at oX11_richest 71 rfl) rfl rfl ?_
                refine r_getS (k := 2) (q2 := 4) C oCl11 rfl (by decide) flX11_23 rfl rfl rfl ks0 (oDec_at oX11_richest 72 rfl) (fun b17 rb17 mb17 hkb17 => ?_)
                refine r_aload_n C (j := 0) (oDec_at oX11_richest 73 rfl) rfl rfl ?_
                refine r_getS (k := 3) (q2 := 4) C oCl11 rfl (by decide) flX11_26 rfl rfl rfl ks0 (oDec_at oX11_richest 74 rfl) (fun b18 rb18 mb18 hkb18 => ?_)
                refine r_callVv C oCl4 hkb17 miX4_copyFrom mlX11_323 (ct_X4_copyFrom l E (u13) b17 hkb17 b18 hkb18 ) (by decide) rfl rfl rfl (Nat.le_of_ble_eq_true rfl) (oDec_at oX11_richest 75 rfl) (fun u19 pu19 fu19 => ?_)
                try dsimp only at pu19
                refine r_aload_n C (j := 0) (oDec_at oX11_richest 76 rfl) rfl rfl ?_
                refine r_pc C 152 rfl ?_
                refine r_callVv C oCl11 rfl miX11_takeSpare mlX11_121 (ct_X11_takeSpare l E (u19)  ) (by decide) rfl rfl rfl (Nat.le_of_ble_eq_true rfl) (oDec_at oX11_richest 77 rfl) (fun u21 pu21 fu21 => ?_)
                try dsimp only at pu21
                refine r_iload_n C (j := 1) (oDec_at oX11_richest 78 rfl) rfl rfl ?_
                exact r_iret C (oDec_at oX11_richest 79 rfl) ⟨_, rfl, trivial⟩
              · skip
                refine r_iload C (j := 4) (oDec_at oX11_richest 69 rfl) rfl ?_
                exact r_iret C (oDec_at oX11_richest 70 rfl) ⟨_, rfl, trivial⟩
          · skip
            refine r_aload_n C (j := 0) (oDec_at oX11_richest 33 rfl) rfl rfl ?_
            refine r_getF (k := 10) (b := 43) C oCl11 rfl (by decide) flX11_74 rfl rfl rfl (oDec_at oX11_richest 34 rfl) ?_
            refine r_aload_n C (j := 0) (oDec_at oX11_richest 35 rfl) rfl rfl ?_
            refine r_getS (k := 2) (q2 := 4) C oCl11 rfl (by decide) flX11_23 rfl rfl rfl ks0 (oDec_at oX11_richest 36 rfl) (fun b23 rb23 mb23 hkb23 => ?_)
            refine r_aload_n C (j := 0) (oDec_at oX11_richest 37 rfl) rfl rfl ?_
            refine r_getS (k := 4) (q2 := 0) C oCl11 rfl (by decide) flX11_32 rfl rfl rfl ks1 (oDec_at oX11_richest 38 rfl) (fun b24 rb24 mb24 hkb24 => ?_)
            refine r_pc C 72 rfl ?_
            refine r_aload_n C (j := 0) (oDec_at oX11_richest 39 rfl) rfl rfl ?_
            refine r_getF (k := 7) (b := 31) C oCl11 rfl (by decide) flX11_53 rfl rfl rfl (oDec_at oX11_richest 40 rfl) ?_
            refine r_aload_n C (j := 0) (oDec_at oX11_richest 41 rfl) rfl rfl ?_
            refine r_getF (k := 8) (b := 35) C oCl11 rfl (by decide) flX11_60 rfl rfl rfl (oDec_at oX11_richest 42 rfl) ?_
            refine r_callVi C oCl10 rfl miX10_survey mlX11_319 (ct_X10_survey l E (t) b23 hkb23 b24 hkb24 ) (by decide) rfl rfl rfl (Nat.le_of_ble_eq_true rfl) (oDec_at oX11_richest 43 rfl) (fun r26 u25 pu25 fu25 => ?_)
            try dsimp only at pu25
            have rr26 := n_rng r26
            refine r_istore C (lv' := [(0, .ref (oad E 0)), (1, .int a1), (2, .int a2), (3, .int a3), (4, .int x4), (5, .int x5), (6, .int x6), (7, .int r26)]) [1, 2, 3, 4, 5, 6, 7, 0] (oDec_at oX11_richest 44 rfl) (by decide) rfl ?_
            refine r_pc C 85 rfl ?_
            refine r_iload C (j := 7) (oDec_at oX11_richest 45 rfl) rfl ?_
            refine r_iload C (j := 4) (oDec_at oX11_richest 46 rfl) rfl ?_
            refine r_icmp_le C 107 (oDec_at oX11_richest 47 rfl) (by decide) (fun cd27 => ?_) (fun cd27 => ?_)
            · skip
              refine r_aload_n C (j := 0) (oDec_at oX11_richest 55 rfl) rfl rfl ?_
              refine r_getK (k := 2) (b := b23) C oCl11 rfl (by decide) flX11_23 rfl rfl (((fu25 0 2 rfl).2.2).trans (rb23)) (oDec_at oX11_richest 56 rfl) ?_
              refine r_iload_n C (j := 2) (oDec_at oX11_richest 57 rfl) rfl rfl ?_
              refine r_callVi C oCl4 hkb23 miX4_advanceMade mlX11_327 (ct_X4_advanceMade l E (u25) b23 hkb23 a2 ) (by decide) rfl rfl rfl (Nat.le_of_ble_eq_true rfl) (oDec_at oX11_richest 58 rfl) (fun r30 u29 pu29 fu29 => ?_)
              try dsimp only at pu29
              have rr30 := n_rng r30
              refine r_istore C (lv' := [(0, .ref (oad E 0)), (1, .int a1), (2, .int a2), (3, .int a3), (4, .int x4), (5, .int r30), (6, .int x6), (7, .int r26)]) [1, 2, 3, 4, 5, 0, 6, 7] (oDec_at oX11_richest 59 rfl) (by decide) rfl ?_
              obtain ⟨v31, ev31⟩ : ∃ z : Int32, x6 + Int32.ofInt 1 = z := ⟨_, rfl⟩
              have hv31 : v31.toInt = x6.toInt + 1 := n_inc ev31 (by decide) (by omega) (by omega)
              refine r_iinc C (j := 6) (lv' := [(0, .ref (oad E 0)), (1, .int a1), (2, .int a2), (3, .int a3), (4, .int x4), (5, .int r30), (6, .int v31), (7, .int r26)]) v31 [1, 2, 3, 4, 5, 6, 0, 7] (oDec_at oX11_richest 60 rfl) rfl ev31 (by decide) rfl ?_
              refine r_goto C (tgt := 47) (oDec_at oX11_richest 61 rfl) (by decide) ?_
              refine r_pick C [0, 1, 2, 3, 4, 5, 6] rfl ?_
              exact (ih (n - 1) (by omega)) (u29) x4 r30 v31  (by omega) (by omega)
            · skip
              refine r_iload C (j := 7) (oDec_at oX11_richest 48 rfl) rfl ?_
              refine r_istore C (lv' := [(0, .ref (oad E 0)), (1, .int a1), (2, .int a2), (3, .int a3), (4, .int r26), (5, .int x5), (6, .int x6), (7, .int r26)]) [1, 2, 3, 4, 0, 5, 6, 7] (oDec_at oX11_richest 49 rfl) (by decide) rfl ?_
              refine r_aload_n C (j := 0) (oDec_at oX11_richest 50 rfl) rfl rfl ?_
              refine r_getS (k := 3) (q2 := 4) C oCl11 rfl (by decide) flX11_26 rfl rfl rfl ks0 (oDec_at oX11_richest 51 rfl) (fun b32 rb32 mb32 hkb32 => ?_)
              refine r_aload_n C (j := 0) (oDec_at oX11_richest 52 rfl) rfl rfl ?_
              refine r_getK (k := 2) (b := b23) C oCl11 rfl (by decide) flX11_23 rfl rfl (((fu25 0 2 rfl).2.2).trans (rb23)) (oDec_at oX11_richest 53 rfl) ?_
              refine r_callVv C oCl4 hkb32 miX4_copyFrom mlX11_323 (ct_X4_copyFrom l E (u25) b32 hkb32 b23 hkb23 ) (by decide) rfl rfl rfl (Nat.le_of_ble_eq_true rfl) (oDec_at oX11_richest 54 rfl) (fun u34 pu34 fu34 => ?_)
              try dsimp only at pu34
              refine r_pc C 107 rfl ?_
              refine r_aload_n C (j := 0) (oDec_at oX11_richest 55 rfl) rfl rfl ?_
              refine r_getK (k := 2) (b := b23) C oCl11 rfl (by decide) flX11_23 rfl rfl (((fu34 0 2 rfl).2.2).trans (((fu25 0 2 rfl).2.2).trans (rb23))) (oDec_at oX11_richest 56 rfl) ?_
              refine r_iload_n C (j := 2) (oDec_at oX11_richest 57 rfl) rfl rfl ?_
              refine r_callVi C oCl4 hkb23 miX4_advanceMade mlX11_327 (ct_X4_advanceMade l E (u34) b23 hkb23 a2 ) (by decide) rfl rfl rfl (Nat.le_of_ble_eq_true rfl) (oDec_at oX11_richest 58 rfl) (fun r38 u37 pu37 fu37 => ?_)
              try dsimp only at pu37
              have rr38 := n_rng r38
              refine r_istore C (lv' := [(0, .ref (oad E 0)), (1, .int a1), (2, .int a2), (3, .int a3), (4, .int r26), (5, .int r38), (6, .int x6), (7, .int r26)]) [1, 2, 3, 4, 5, 0, 6, 7] (oDec_at oX11_richest 59 rfl) (by decide) rfl ?_
              obtain ⟨v39, ev39⟩ : ∃ z : Int32, x6 + Int32.ofInt 1 = z := ⟨_, rfl⟩
              have hv39 : v39.toInt = x6.toInt + 1 := n_inc ev39 (by decide) (by omega) (by omega)
              refine r_iinc C (j := 6) (lv' := [(0, .ref (oad E 0)), (1, .int a1), (2, .int a2), (3, .int a3), (4, .int r26), (5, .int r38), (6, .int v39), (7, .int r26)]) v39 [1, 2, 3, 4, 5, 6, 0, 7] (oDec_at oX11_richest 60 rfl) rfl ev39 (by decide) rfl ?_
              refine r_goto C (tgt := 47) (oDec_at oX11_richest 61 rfl) (by decide) ?_
              refine r_pick C [0, 1, 2, 3, 4, 5, 6] rfl ?_
              exact (ih (n - 1) (by omega)) (u37) r26 r38 v39  (by omega) (by omega)
  refine r_iload_n C (j := 1) (oDec_at oX11_richest 0 rfl) rfl rfl ?_
  refine r_iconst C (oDec_at oX11_richest 1 rfl) (v := k1) (by rw [qk1]; rfl) ?_
  refine r_icmp_lt C 28 (oDec_at oX11_richest 2 rfl) (by decide) (fun cd40 => ?_) (fun cd40 => ?_)
  · skip
    refine r_iconst C (oDec_at oX11_richest 16 rfl) (v := km1) (by rw [qkm1]; rfl) ?_
    exact r_iret C (oDec_at oX11_richest 17 rfl) ⟨_, rfl, trivial⟩
  · skip
    refine r_iload_n C (j := 1) (oDec_at oX11_richest 3 rfl) rfl rfl ?_
    refine r_iconst C (oDec_at oX11_richest 4 rfl) (v := k4) (by rw [qk4]; rfl) ?_
    refine r_icmp_gt C 28 (oDec_at oX11_richest 5 rfl) (by decide) (fun cd41 => ?_) (fun cd41 => ?_)
    · skip
      refine r_iconst C (oDec_at oX11_richest 16 rfl) (v := km1) (by rw [qkm1]; rfl) ?_
      exact r_iret C (oDec_at oX11_richest 17 rfl) ⟨_, rfl, trivial⟩
    · skip
      refine r_iload_n C (j := 2) (oDec_at oX11_richest 6 rfl) rfl rfl ?_
      refine r_if_lt C 28 (oDec_at oX11_richest 7 rfl) (by decide) (fun cd42 => ?_) (fun cd42 => ?_)
      · skip
        refine r_iconst C (oDec_at oX11_richest 16 rfl) (v := km1) (by rw [qkm1]; rfl) ?_
        exact r_iret C (oDec_at oX11_richest 17 rfl) ⟨_, rfl, trivial⟩
      · skip
        refine r_iload_n C (j := 2) (oDec_at oX11_richest 8 rfl) rfl rfl ?_
        refine r_iconst C (oDec_at oX11_richest 9 rfl) (v := k2) (by rw [qk2]; rfl) ?_
        refine r_icmp_gt C 28 (oDec_at oX11_richest 10 rfl) (by decide) (fun cd43 => ?_) (fun cd43 => ?_)
        · skip
          refine r_iconst C (oDec_at oX11_richest 16 rfl) (v := km1) (by rw [qkm1]; rfl) ?_
          exact r_iret C (oDec_at oX11_richest 17 rfl) ⟨_, rfl, trivial⟩
        · skip
          refine r_iload_n C (j := 3) (oDec_at oX11_richest 11 rfl) rfl rfl ?_
          refine r_if_lt C 28 (oDec_at oX11_richest 12 rfl) (by decide) (fun cd44 => ?_) (fun cd44 => ?_)
          · skip
            refine r_iconst C (oDec_at oX11_richest 16 rfl) (v := km1) (by rw [qkm1]; rfl) ?_
            exact r_iret C (oDec_at oX11_richest 17 rfl) ⟨_, rfl, trivial⟩
          · skip
            refine r_iload_n C (j := 3) (oDec_at oX11_richest 13 rfl) rfl rfl ?_
            refine r_iconst C (oDec_at oX11_richest 14 rfl) (v := k1) (by rw [qk1]; rfl) ?_
            refine r_icmp_le C 30 (oDec_at oX11_richest 15 rfl) (by decide) (fun cd45 => ?_) (fun cd45 => ?_)
            · skip
              refine r_iconst C (oDec_at oX11_richest 18 rfl) (v := km1) (by rw [qkm1]; rfl) ?_
              refine r_istore C (lv' := [(0, .ref (oad E 0)), (1, .int a1), (2, .int a2), (3, .int a3), (4, .int km1)]) [1, 2, 3, 4, 0] (oDec_at oX11_richest 19 rfl) (by decide) rfl ?_
              refine r_aload_n C (j := 0) (oDec_at oX11_richest 20 rfl) rfl rfl ?_
              refine r_getS (k := 2) (q2 := 4) C oCl11 rfl (by decide) flX11_23 rfl rfl rfl ks0 (oDec_at oX11_richest 21 rfl) (fun b46 rb46 mb46 hkb46 => ?_)
              refine r_iload_n C (j := 1) (oDec_at oX11_richest 22 rfl) rfl rfl ?_
              refine r_iload_n C (j := 2) (oDec_at oX11_richest 23 rfl) rfl rfl ?_
              refine r_pc C 39 rfl ?_
              refine r_callVi C oCl4 hkb46 miX4_beginMade mlX11_316 (ct_X4_beginMade l E (s) b46 hkb46 a1 a2 ) (by decide) rfl rfl rfl (Nat.le_of_ble_eq_true rfl) (oDec_at oX11_richest 24 rfl) (fun r48 u47 pu47 fu47 => ?_)
              try dsimp only at pu47
              have rr48 := n_rng r48
              refine r_istore C (lv' := [(0, .ref (oad E 0)), (1, .int a1), (2, .int a2), (3, .int a3), (4, .int km1), (5, .int r48)]) [1, 2, 3, 4, 5, 0] (oDec_at oX11_richest 25 rfl) (by decide) rfl ?_
              refine r_iconst C (oDec_at oX11_richest 26 rfl) (v := k0) (by rw [qk0]; rfl) ?_
              refine r_istore C (lv' := [(0, .ref (oad E 0)), (1, .int a1), (2, .int a2), (3, .int a3), (4, .int km1), (5, .int r48), (6, .int k0)]) [1, 2, 3, 4, 5, 6, 0] (oDec_at oX11_richest 27 rfl) (by decide) rfl ?_
              exact (key (20001 - k0.toInt).toNat) (u47) km1 r48 k0  (by omega) (by omega)
            · skip
              refine r_iconst C (oDec_at oX11_richest 16 rfl) (v := km1) (by rw [qkm1]; rfl) ?_
              exact r_iret C (oDec_at oX11_richest 17 rfl) ⟨_, rfl, trivial⟩
set_option maxHeartbeats 4000000 in
set_option maxRecDepth 100000 in
theorem ct_X11_wrong (l : Launch) (E : oE) (s : oS) (a1 : Int32) (a2 : Int32)  : oMet l 8 yX11_wrong cX11_wrong 3 (some .int) [(1, 6), (1, 7), (1, 8), (4, 4), (4, 5), (4, 6), (4, 7), (9, 0), (9, 1), (9, 2), (9, 3), (9, 4), (11, 16), (11, 17), (14, 9999), (16, 9999), (17, 9999), (18, 9999), (19, 9999), (24, 9999), (25, 9999), (26, 9999), (27, 9999), (28, 9999), (29, 9999), (30, 9999), (31, 9999)] E s [.ref (oad E 0), .int a1, .int a2] (oPi (fun r u => True)) := by
  refine oMet.of (lv := [(0, .ref (oad E 0)), (1, .int a1), (2, .int a2)]) (by decide +kernel) (Nat.le_of_ble_eq_true rfl) rfl (fun J C hT => ?_)
  have C : oC l 8 cX11_wrong RX11 3 (some .int) [(1, 6), (1, 7), (1, 8), (4, 4), (4, 5), (4, 6), (4, 7), (9, 0), (9, 1), (9, 2), (9, 3), (9, 4), (11, 16), (11, 17), (14, 9999), (16, 9999), (17, 9999), (18, 9999), (19, 9999), (24, 9999), (25, 9999), (26, 9999), (27, 9999), (28, 9999), (29, 9999), (30, 9999), (31, 9999)] E s (oPi (fun r u => True)) J := C
  obtain ⟨km1, qkm1⟩ : ∃ z : Int32, z = (-1) := ⟨_, rfl⟩
  have ekm1 : km1.toInt = (-1) := by rw [qkm1]; rfl
  have rg1 := n_rng a1
  have rg2 := n_rng a2
  refine r_iload_n C (j := 2) (oDec_at oX11_wrong 0 rfl) rfl rfl ?_
  refine r_iconst C (oDec_at oX11_wrong 1 rfl) (v := km1) (by rw [qkm1]; rfl) ?_
  refine r_icmp_lt C 13 (oDec_at oX11_wrong 2 rfl) (by decide) (fun cd1 => ?_) (fun cd1 => ?_)
  · skip
    refine r_iconst C (oDec_at oX11_wrong 7 rfl) (v := km1) (by rw [qkm1]; rfl) ?_
    exact r_iret C (oDec_at oX11_wrong 8 rfl) ⟨_, rfl, trivial⟩
  · skip
    refine r_aload_n C (j := 0) (oDec_at oX11_wrong 3 rfl) rfl rfl ?_
    refine r_iload_n C (j := 1) (oDec_at oX11_wrong 4 rfl) rfl rfl ?_
    refine r_callVi C oCl11 rfl miX11_seekWrongs mlX11_330 (ct_X11_seekWrongs l E (s) a1 ) (by decide) rfl rfl rfl (Nat.le_of_ble_eq_true rfl) (oDec_at oX11_wrong 5 rfl) (fun r3 u2 pu2 fu2 => ?_)
    try dsimp only at pu2
    have rr3 := n_rng r3
    refine r_if_ne C 15 (oDec_at oX11_wrong 6 rfl) (by decide) (fun cd4 => ?_) (fun cd4 => ?_)
    · skip
      refine r_iload_n C (j := 2) (oDec_at oX11_wrong 9 rfl) rfl rfl ?_
      refine r_iconst C (oDec_at oX11_wrong 10 rfl) (v := km1) (by rw [qkm1]; rfl) ?_
      refine r_icmp_ne C 25 (oDec_at oX11_wrong 11 rfl) (by decide) (fun cd5 => ?_) (fun cd5 => ?_)
      · skip
        refine r_iload_n C (j := 2) (oDec_at oX11_wrong 15 rfl) rfl rfl ?_
        refine r_aload_n C (j := 0) (oDec_at oX11_wrong 16 rfl) rfl rfl ?_
        obtain ⟨v6, ev6⟩ : ∃ z : Int32, (u2).1 0 16 = z := ⟨_, rfl⟩
        have gv6 : (u2.1 0 16).toInt = v6.toInt := congrArg Int32.toInt (ev6)
        refine r_geti (k := 16) (lo := 0) (hi := 672) C v6 oCl11 rfl (by decide) flX11_333 rfl rfl (ev6) rfl rfl (oDec_at oX11_wrong 17 rfl) (fun b7 b7h => ?_)
        refine r_icmp_ge C 51 (oDec_at oX11_wrong 18 rfl) (by decide) (fun cd8 => ?_) (fun cd8 => ?_)
        · skip
          refine r_iconst C (oDec_at oX11_wrong 29 rfl) (v := km1) (by rw [qkm1]; rfl) ?_
          exact r_iret C (oDec_at oX11_wrong 30 rfl) ⟨_, rfl, trivial⟩
        · skip
          refine r_iload_n C (j := 2) (oDec_at oX11_wrong 19 rfl) rfl rfl ?_
          refine r_aload_n C (j := 0) (oDec_at oX11_wrong 20 rfl) rfl rfl ?_
          refine r_getF (k := 15) (b := 70) C oCl11 rfl (by decide) flX11_96 rfl rfl rfl (oDec_at oX11_wrong 21 rfl) ?_
          obtain ⟨v9, ev9⟩ : ∃ z : Int32, Int32.ofNat 672 = z := ⟨_, rfl⟩
          have hv9 : v9.toInt = 672 := by rw [← ev9]; rfl
          refine r_alen0 (n := 672) C v9 rfl (by decide) rfl rfl (by decide) ev9 (oDec_at oX11_wrong 22 rfl) ?_
          refine r_icmp_ge C 51 (oDec_at oX11_wrong 23 rfl) (by decide) (fun cd10 => ?_) (fun cd10 => ?_)
          · skip
            refine r_iconst C (oDec_at oX11_wrong 29 rfl) (v := km1) (by rw [qkm1]; rfl) ?_
            exact r_iret C (oDec_at oX11_wrong 30 rfl) ⟨_, rfl, trivial⟩
          · skip
            refine r_aload_n C (j := 0) (oDec_at oX11_wrong 24 rfl) rfl rfl ?_
            refine r_getF (k := 15) (b := 70) C oCl11 rfl (by decide) flX11_96 rfl rfl rfl (oDec_at oX11_wrong 25 rfl) ?_
            refine r_iload_n C (j := 2) (oDec_at oX11_wrong 26 rfl) rfl rfl ?_
            obtain ⟨v11, ev11⟩ : ∃ z : Int32, (u2).1 70 a2.toNatClampNeg = z := ⟨_, rfl⟩
            have rv11 := n_rng v11
            refine r_iald (n := 672) (lo := (-2147483648)) (hi := 2147483647) C v11 rfl (by decide) rfl rfl ⟨by omega, by omega⟩ (by decide) ev11 rfl rfl (oDec_at oX11_wrong 27 rfl) (fun _ _ => ?_)
            refine r_goto C (tgt := 52) (oDec_at oX11_wrong 28 rfl) (by decide) ?_
            exact r_iret C (oDec_at oX11_wrong 30 rfl) ⟨_, rfl, trivial⟩
      · skip
        refine r_aload_n C (j := 0) (oDec_at oX11_wrong 12 rfl) rfl rfl ?_
        obtain ⟨v13, ev13⟩ : ∃ z : Int32, (u2).1 0 16 = z := ⟨_, rfl⟩
        have gv13 : (u2.1 0 16).toInt = v13.toInt := congrArg Int32.toInt (ev13)
        refine r_geti (k := 16) (lo := 0) (hi := 672) C v13 oCl11 rfl (by decide) flX11_333 rfl rfl (ev13) rfl rfl (oDec_at oX11_wrong 13 rfl) (fun b14 b14h => ?_)
        exact r_iret C (oDec_at oX11_wrong 14 rfl) ⟨_, rfl, trivial⟩
    · skip
      refine r_iconst C (oDec_at oX11_wrong 7 rfl) (v := km1) (by rw [qkm1]; rfl) ?_
      exact r_iret C (oDec_at oX11_wrong 8 rfl) ⟨_, rfl, trivial⟩
set_option maxHeartbeats 4000000 in
set_option maxRecDepth 100000 in
theorem ct_X11_change (l : Launch) (E : oE) (s : oS) (a1 : Int32) (a2 : Int32)  : oMet l 4 yX11_change cX11_change 4 (some .int) [(3, 0), (4, 6), (7, 0), (10, 3), (11, 17), (16, 9999)] E s [.ref (oad E 0), .int a1, .int a2] (oPi (fun r u => True)) := by
  refine oMet.of (lv := [(0, .ref (oad E 0)), (1, .int a1), (2, .int a2)]) (by decide +kernel) (Nat.le_of_ble_eq_true rfl) rfl (fun J C hT => ?_)
  have C : oC l 4 cX11_change RX11 4 (some .int) [(3, 0), (4, 6), (7, 0), (10, 3), (11, 17), (16, 9999)] E s (oPi (fun r u => True)) J := C
  obtain ⟨km2, qkm2⟩ : ∃ z : Int32, z = (-2) := ⟨_, rfl⟩
  have ekm2 : km2.toInt = (-2) := by rw [qkm2]; rfl
  obtain ⟨km1, qkm1⟩ : ∃ z : Int32, z = (-1) := ⟨_, rfl⟩
  have ekm1 : km1.toInt = (-1) := by rw [qkm1]; rfl
  obtain ⟨k28, qk28⟩ : ∃ z : Int32, z = 28 := ⟨_, rfl⟩
  have ek28 : k28.toInt = 28 := by rw [qk28]; rfl
  have rg1 := n_rng a1
  have rg2 := n_rng a2
  refine r_iload_n C (j := 1) (oDec_at oX11_change 0 rfl) rfl rfl ?_
  refine r_if_lt C 25 (oDec_at oX11_change 1 rfl) (by decide) (fun cd1 => ?_) (fun cd1 => ?_)
  · skip
    refine r_iconst C (oDec_at oX11_change 12 rfl) (v := km1) (by rw [qkm1]; rfl) ?_
    exact r_iret C (oDec_at oX11_change 13 rfl) ⟨_, rfl, trivial⟩
  · skip
    refine r_iload_n C (j := 1) (oDec_at oX11_change 2 rfl) rfl rfl ?_
    refine r_aload_n C (j := 0) (oDec_at oX11_change 3 rfl) rfl rfl ?_
    refine r_getS (k := 1) (q2 := 4) C oCl11 rfl (by decide) flX11_19 rfl rfl rfl ks0 (oDec_at oX11_change 4 rfl) (fun b2 rb2 mb2 hkb2 => ?_)
    obtain ⟨v3, ev3⟩ : ∃ z : Int32, (s).1 b2 4 = z := ⟨_, rfl⟩
    have gv3 : (s.1 b2 4).toInt = v3.toInt := congrArg Int32.toInt (ev3)
    refine r_getiN (k := 4) (lo := 0) (hi := 24) C v3 oCl4 hkb2 (by decide) flX11_140 rfl rfl (ev3) rfl rfl (oDec_at oX11_change 5 rfl) (fun b4 b4h => ?_)
    refine r_icmp_ge C 25 (oDec_at oX11_change 6 rfl) (by decide) (fun cd5 => ?_) (fun cd5 => ?_)
    · skip
      refine r_iconst C (oDec_at oX11_change 12 rfl) (v := km1) (by rw [qkm1]; rfl) ?_
      exact r_iret C (oDec_at oX11_change 13 rfl) ⟨_, rfl, trivial⟩
    · skip
      refine r_iload_n C (j := 2) (oDec_at oX11_change 7 rfl) rfl rfl ?_
      refine r_if_lt C 25 (oDec_at oX11_change 8 rfl) (by decide) (fun cd6 => ?_) (fun cd6 => ?_)
      · skip
        refine r_iconst C (oDec_at oX11_change 12 rfl) (v := km1) (by rw [qkm1]; rfl) ?_
        exact r_iret C (oDec_at oX11_change 13 rfl) ⟨_, rfl, trivial⟩
      · skip
        refine r_iload_n C (j := 2) (oDec_at oX11_change 9 rfl) rfl rfl ?_
        refine r_bipush C (oDec_at oX11_change 10 rfl) (v := k28) (by rw [qk28]; rfl) ?_
        refine r_icmp_le C 27 (oDec_at oX11_change 11 rfl) (by decide) (fun cd7 => ?_) (fun cd7 => ?_)
        · skip
          refine r_aload_n C (j := 0) (oDec_at oX11_change 14 rfl) rfl rfl ?_
          refine r_getK (k := 1) (b := b2) C oCl11 rfl (by decide) flX11_19 rfl rfl (rb2) (oDec_at oX11_change 15 rfl) ?_
          refine r_iload_n C (j := 1) (oDec_at oX11_change 16 rfl) rfl rfl ?_
          refine r_callVi C oCl4 hkb2 miX4_stepOf mlX11_175 (ct_X4_stepOf l E (s) b2 hkb2 a1 ) (by decide) rfl rfl rfl (Nat.le_of_ble_eq_true rfl) (oDec_at oX11_change 17 rfl) (fun r10 u9 pu9 fu9 => ?_)
          try dsimp only at pu9
          have rr10 := n_rng r10
          refine r_istore_n C (lv' := [(0, .ref (oad E 0)), (1, .int a1), (2, .int a2), (3, .int r10)]) [1, 2, 3, 0] (oDec_at oX11_change 18 rfl) rfl (by decide) rfl ?_
          refine r_aload_n C (j := 0) (oDec_at oX11_change 19 rfl) rfl rfl ?_
          refine r_getK (k := 1) (b := b2) C oCl11 rfl (by decide) flX11_19 rfl rfl (((fu9 0 1 rfl).2.2).trans (rb2)) (oDec_at oX11_change 20 rfl) ?_
          refine r_iload_n C (j := 1) (oDec_at oX11_change 21 rfl) rfl rfl ?_
          refine r_pc C 41 rfl ?_
          refine r_iload_n C (j := 2) (oDec_at oX11_change 22 rfl) rfl rfl ?_
          refine r_callVv C oCl4 hkb2 miX4_setStep mlX11_336 (ct_X4_setStep l E (u9) b2 hkb2 a1 a2 ) (by decide) rfl rfl rfl (Nat.le_of_ble_eq_true rfl) (oDec_at oX11_change 23 rfl) (fun u12 pu12 fu12 => ?_)
          try dsimp only at pu12
          refine r_aload_n C (j := 0) (oDec_at oX11_change 24 rfl) rfl rfl ?_
          refine r_callVv C oCl11 rfl miX11_forget mlX11_131 (ct_X11_forget l E (u12)  ) (by decide) rfl rfl rfl (Nat.le_of_ble_eq_true rfl) (oDec_at oX11_change 25 rfl) (fun u14 pu14 fu14 => ?_)
          try dsimp only at pu14
          refine r_iload_n C (j := 3) (oDec_at oX11_change 26 rfl) rfl rfl ?_
          refine r_iconst C (oDec_at oX11_change 27 rfl) (v := km1) (by rw [qkm1]; rfl) ?_
          refine r_pc C 51 rfl ?_
          refine r_icmp_ne C 59 (oDec_at oX11_change 28 rfl) (by decide) (fun cd16 => ?_) (fun cd16 => ?_)
          · skip
            refine r_iload_n C (j := 3) (oDec_at oX11_change 31 rfl) rfl rfl ?_
            exact r_iret C (oDec_at oX11_change 32 rfl) ⟨_, rfl, trivial⟩
          · skip
            refine r_bipush C (oDec_at oX11_change 29 rfl) (v := km2) (by rw [qkm2]; rfl) ?_
            refine r_goto C (tgt := 60) (oDec_at oX11_change 30 rfl) (by decide) ?_
            exact r_iret C (oDec_at oX11_change 32 rfl) ⟨_, rfl, trivial⟩
        · skip
          refine r_iconst C (oDec_at oX11_change 12 rfl) (v := km1) (by rw [qkm1]; rfl) ?_
          exact r_iret C (oDec_at oX11_change 13 rfl) ⟨_, rfl, trivial⟩
set_option maxHeartbeats 4000000 in
set_option maxRecDepth 100000 in
theorem ct_X11_draw (l : Launch) (E : oE) (s : oS) (a1 : Int32) (a2 : Int32) (a3 : Int32)  : oMet l 2 yX11_draw cX11_draw 8 (some .int) [(3, 0), (4, 4), (4, 5), (4, 6), (4, 7), (7, 0), (10, 3), (11, 17), (16, 9999), (17, 9999), (18, 9999), (19, 9999)] E s [.ref (oad E 0), .int a1, .int a2, .int a3] (oPi (fun r u => True)) := by
  refine oMet.of (lv := [(0, .ref (oad E 0)), (1, .int a1), (2, .int a2), (3, .int a3)]) (by decide +kernel) (Nat.le_of_ble_eq_true rfl) rfl (fun J C hT => ?_)
  have C : oC l 2 cX11_draw RX11 8 (some .int) [(3, 0), (4, 4), (4, 5), (4, 6), (4, 7), (7, 0), (10, 3), (11, 17), (16, 9999), (17, 9999), (18, 9999), (19, 9999)] E s (oPi (fun r u => True)) J := C
  obtain ⟨km1, qkm1⟩ : ∃ z : Int32, z = (-1) := ⟨_, rfl⟩
  have ekm1 : km1.toInt = (-1) := by rw [qkm1]; rfl
  obtain ⟨k0, qk0⟩ : ∃ z : Int32, z = 0 := ⟨_, rfl⟩
  have ek0 : k0.toInt = 0 := by rw [qk0]; rfl
  obtain ⟨k1, qk1⟩ : ∃ z : Int32, z = 1 := ⟨_, rfl⟩
  have ek1 : k1.toInt = 1 := by rw [qk1]; rfl
  obtain ⟨k2, qk2⟩ : ∃ z : Int32, z = 2 := ⟨_, rfl⟩
  have ek2 : k2.toInt = 2 := by rw [qk2]; rfl
  obtain ⟨k3, qk3⟩ : ∃ z : Int32, z = 3 := ⟨_, rfl⟩
  have ek3 : k3.toInt = 3 := by rw [qk3]; rfl
  obtain ⟨k4, qk4⟩ : ∃ z : Int32, z = 4 := ⟨_, rfl⟩
  have ek4 : k4.toInt = 4 := by rw [qk4]; rfl
  obtain ⟨k24, qk24⟩ : ∃ z : Int32, z = 24 := ⟨_, rfl⟩
  have ek24 : k24.toInt = 24 := by rw [qk24]; rfl
  obtain ⟨k28, qk28⟩ : ∃ z : Int32, z = 28 := ⟨_, rfl⟩
  have ek28 : k28.toInt = 28 := by rw [qk28]; rfl
  obtain ⟨k64, qk64⟩ : ∃ z : Int32, z = 64 := ⟨_, rfl⟩
  have ek64 : k64.toInt = 64 := by rw [qk64]; rfl
  have rg1 := n_rng a1
  have rg2 := n_rng a2
  have rg3 := n_rng a3
  have key : ∀ n : Nat, (∀ (t : oS) (x4 : Int32) (x5 : Int32), (0 ≤ x5.toInt ∧ x5.toInt ≤ 24) → (1 ≤ a1.toInt ∧ a1.toInt ≤ 24) → (0 ≤ a2.toInt ∧ a2.toInt ≤ 28) → 25 - x5.toInt ≤ (n : Int) → J t 36 [(0, .ref (oad E 0)), (1, .int a1), (2, .int a2), (4, .int x4), (5, .int x5)] []) := by
    intro n
    induction n using Nat.strongRecOn with
    | _ n ih =>
      skip
      · intro t x4 x5  iv0 iv1 iv2 hmu
        have rx4 := n_rng x4
        have rx5 := n_rng x5
        refine r_iload C (j := 4) (oDec_at oX11_draw 20 rfl) rfl ?_
        refine r_iload_n C (j := 1) (oDec_at oX11_draw 21 rfl) rfl rfl ?_
        refine r_icmp_ge C 112 (oDec_at oX11_draw 22 rfl) (by decide) (fun cd1 => ?_) (fun cd1 => ?_)
        · skip
          refine r_aload_n C (j := 0) (oDec_at oX11_draw 60 rfl) rfl rfl ?_
          refine r_callVv C oCl11 rfl miX11_forget mlX11_131 (ct_X11_forget l E (t)  ) (by decide) rfl rfl rfl (Nat.le_of_ble_eq_true rfl) (oDec_at oX11_draw 61 rfl) (fun u2 pu2 fu2 => ?_)
          try dsimp only at pu2
          refine r_aload_n C (j := 0) (oDec_at oX11_draw 62 rfl) rfl rfl ?_
          refine r_getS (k := 1) (q2 := 4) C oCl11 rfl (by decide) flX11_19 rfl rfl rfl ks0 (oDec_at oX11_draw 63 rfl) (fun b4 rb4 mb4 hkb4 => ?_)
          obtain ⟨v5, ev5⟩ : ∃ z : Int32, (u2).1 b4 5 = z := ⟨_, rfl⟩
          have gv5 : (t.1 b4 5).toInt = v5.toInt := congrArg Int32.toInt (((fu2 b4 5 (by rw [hkb4]; rfl)).1).symm.trans ev5)
          refine r_getiN (k := 5) (lo := 0) (hi := 96) C v5 oCl4 hkb4 (by decide) flX11_147 rfl rfl (ev5) rfl rfl (oDec_at oX11_draw 64 rfl) (fun b6 b6h => ?_)
          exact r_iret C (oDec_at oX11_draw 65 rfl) ⟨_, rfl, trivial⟩
        · skip
          refine r_iload C (j := 3) (oDec_at oX11_draw 23 rfl) rfl ?_
          refine r_callSi C miX11_nextSeed mlX11_343 (ct_X11_nextSeed l E (t) x4 ) (by decide) rfl rfl rfl (Nat.le_of_ble_eq_true rfl) (oDec_at oX11_draw 24 rfl) (fun r8 u7 pu7 fu7 => ?_)
          try dsimp only at pu7
          have rr8 := n_rng r8
          refine r_istore C (lv' := [(0, .ref (oad E 0)), (1, .int a1), (2, .int a2), (4, .int r8), (5, .int x5)]) [1, 2, 3, 0, 4] (oDec_at oX11_draw 25 rfl) (by decide) rfl ?_
          refine r_iload C (j := 3) (oDec_at oX11_draw 26 rfl) rfl ?_
          refine r_bipush C (oDec_at oX11_draw 27 rfl) (v := k64) (by rw [qk64]; rfl) ?_
          obtain ⟨v9, ev9⟩ : ∃ z : Int32, z = r8 / k64 := ⟨_, rfl⟩
          have hv9 := n_divP (k := 64) ev9 ek64 (by decide)
          have rv9 := n_rng v9
          refine r_idiv C v9 (oDec_at oX11_draw 28 rfl) (n_ne0 (by omega)) ev9 ?_
          refine r_pc C 54 rfl ?_
          refine r_iload_n C (j := 2) (oDec_at oX11_draw 29 rfl) rfl rfl ?_
          refine r_iconst C (oDec_at oX11_draw 30 rfl) (v := k1) (by rw [qk1]; rfl) ?_
          obtain ⟨v10, ev10⟩ : ∃ z : Int32, z = a2 + k1 := ⟨_, rfl⟩
          have hv10 : v10.toInt = a2.toInt + k1.toInt := n_add ev10 (by omega) (by omega)
          refine r_iadd C v10 (oDec_at oX11_draw 31 rfl) ev10 ?_
          obtain ⟨v11, ev11⟩ : ∃ z : Int32, z = v9 - v9 / v10 * v10 := ⟨_, rfl⟩
          have rv11 := n_rng v11
          refine r_irem C v11 (oDec_at oX11_draw 32 rfl) (n_ne0 (by omega)) ev11 ?_
          refine r_istore C (lv' := [(0, .ref (oad E 0)), (1, .int a1), (2, .int a2), (4, .int r8), (5, .int x5), (6, .int v11)]) [1, 2, 3, 4, 5, 0] (oDec_at oX11_draw 33 rfl) (by decide) rfl ?_
          refine r_iload C (j := 3) (oDec_at oX11_draw 34 rfl) rfl ?_
          refine r_pc C 62 rfl ?_
          refine r_callSi C miX11_nextSeed mlX11_343 (ct_X11_nextSeed l E (u7) r8 ) (by decide) rfl rfl rfl (Nat.le_of_ble_eq_true rfl) (oDec_at oX11_draw 35 rfl) (fun r13 u12 pu12 fu12 => ?_)
          try dsimp only at pu12
          have rr13 := n_rng r13
          refine r_istore C (lv' := [(0, .ref (oad E 0)), (1, .int a1), (2, .int a2), (4, .int r13), (5, .int x5), (6, .int v11)]) [1, 2, 3, 0, 4, 5] (oDec_at oX11_draw 36 rfl) (by decide) rfl ?_
          refine r_iload C (j := 3) (oDec_at oX11_draw 37 rfl) rfl ?_
          refine r_bipush C (oDec_at oX11_draw 38 rfl) (v := k64) (by rw [qk64]; rfl) ?_
          obtain ⟨v14, ev14⟩ : ∃ z : Int32, z = r13 / k64 := ⟨_, rfl⟩
          have hv14 := n_divP (k := 64) ev14 ek64 (by decide)
          have rv14 := n_rng v14
          refine r_idiv C v14 (oDec_at oX11_draw 39 rfl) (n_ne0 (by omega)) ev14 ?_
          refine r_iconst C (oDec_at oX11_draw 40 rfl) (v := k4) (by rw [qk4]; rfl) ?_
          refine r_pc C 73 rfl ?_
          obtain ⟨v15, ev15⟩ : ∃ z : Int32, z = v14 - v14 / k4 * k4 := ⟨_, rfl⟩
          have hv15 := n_rem (k := 4) ev15 ek4 (by decide)
          have rv15 := n_rng v15
          refine r_irem C v15 (oDec_at oX11_draw 41 rfl) (n_ne0 (by omega)) ev15 ?_
          refine r_istore C (lv' := [(0, .ref (oad E 0)), (1, .int a1), (2, .int a2), (4, .int r13), (5, .int x5), (6, .int v11), (7, .int v15)]) [1, 2, 3, 4, 5, 6, 0] (oDec_at oX11_draw 42 rfl) (by decide) rfl ?_
          refine r_aload_n C (j := 0) (oDec_at oX11_draw 43 rfl) rfl rfl ?_
          refine r_getS (k := 1) (q2 := 4) C oCl11 rfl (by decide) flX11_19 rfl rfl rfl ks0 (oDec_at oX11_draw 44 rfl) (fun b16 rb16 mb16 hkb16 => ?_)
          refine r_iload C (j := 5) (oDec_at oX11_draw 45 rfl) rfl ?_
          refine r_iload C (j := 6) (oDec_at oX11_draw 46 rfl) rfl ?_
          refine r_pc C 84 rfl ?_
          refine r_if_ne C 91 (oDec_at oX11_draw 47 rfl) (by decide) (fun cd17 => ?_) (fun cd17 => ?_)
          · skip
            refine r_iload C (j := 6) (oDec_at oX11_draw 50 rfl) rfl ?_
            refine r_iconst C (oDec_at oX11_draw 51 rfl) (v := k3) (by rw [qk3]; rfl) ?_
            refine r_icmp_ne C 101 (oDec_at oX11_draw 52 rfl) (by decide) (fun cd18 => ?_) (fun cd18 => ?_)
            · skip
              refine r_iconst C (oDec_at oX11_draw 55 rfl) (v := k2) (by rw [qk2]; rfl) ?_
              have lk19 : ((u12).1 b16 4).toInt = (t.1 b16 4).toInt := congrArg Int32.toInt (((fu12 b16 4 (by rw [hkb16]; rfl)).1).trans ((fu7 b16 4 (by rw [hkb16]; rfl)).1))
              have lk20 : ((u12).1 b16 5).toInt = (t.1 b16 5).toInt := congrArg Int32.toInt (((fu12 b16 5 (by rw [hkb16]; rfl)).1).trans ((fu7 b16 5 (by rw [hkb16]; rfl)).1))
              refine r_callVi C oCl4 hkb16 miX4_add mlX11_346 (ct_X4_add l E (u12) b16 hkb16 v11 k2 ) (by decide) rfl rfl rfl (Nat.le_of_ble_eq_true rfl) (oDec_at oX11_draw 56 rfl) (fun r22 u21 pu21 fu21 => ?_)
              try dsimp only at pu21
              have rr22 := n_rng r22
              refine r_pop C (oDec_at oX11_draw 57 rfl) rfl ?_
              obtain ⟨v23, ev23⟩ : ∃ z : Int32, x5 + Int32.ofInt 1 = z := ⟨_, rfl⟩
              have hv23 : v23.toInt = x5.toInt + 1 := n_inc ev23 (by decide) (by omega) (by omega)
              refine r_iinc C (j := 4) (lv' := [(0, .ref (oad E 0)), (1, .int a1), (2, .int a2), (4, .int r13), (5, .int v23), (6, .int v11), (7, .int v15)]) v23 [1, 2, 3, 4, 0, 5, 6] (oDec_at oX11_draw 58 rfl) rfl ev23 (by decide) rfl ?_
              refine r_goto C (tgt := 36) (oDec_at oX11_draw 59 rfl) (by decide) ?_
              refine r_pick C [0, 1, 2, 3, 4] rfl ?_
              exact (ih (n - 1) (by omega)) (u21) r13 v23  (by omega) (by omega) (by omega) (by omega)
            · skip
              refine r_iconst C (oDec_at oX11_draw 53 rfl) (v := k4) (by rw [qk4]; rfl) ?_
              refine r_goto C (tgt := 102) (oDec_at oX11_draw 54 rfl) (by decide) ?_
              have lk24 : ((u12).1 b16 4).toInt = (t.1 b16 4).toInt := congrArg Int32.toInt (((fu12 b16 4 (by rw [hkb16]; rfl)).1).trans ((fu7 b16 4 (by rw [hkb16]; rfl)).1))
              have lk25 : ((u12).1 b16 5).toInt = (t.1 b16 5).toInt := congrArg Int32.toInt (((fu12 b16 5 (by rw [hkb16]; rfl)).1).trans ((fu7 b16 5 (by rw [hkb16]; rfl)).1))
              refine r_callVi C oCl4 hkb16 miX4_add mlX11_346 (ct_X4_add l E (u12) b16 hkb16 v11 k4 ) (by decide) rfl rfl rfl (Nat.le_of_ble_eq_true rfl) (oDec_at oX11_draw 56 rfl) (fun r27 u26 pu26 fu26 => ?_)
              try dsimp only at pu26
              have rr27 := n_rng r27
              refine r_pop C (oDec_at oX11_draw 57 rfl) rfl ?_
              obtain ⟨v28, ev28⟩ : ∃ z : Int32, x5 + Int32.ofInt 1 = z := ⟨_, rfl⟩
              have hv28 : v28.toInt = x5.toInt + 1 := n_inc ev28 (by decide) (by omega) (by omega)
              refine r_iinc C (j := 4) (lv' := [(0, .ref (oad E 0)), (1, .int a1), (2, .int a2), (4, .int r13), (5, .int v28), (6, .int v11), (7, .int v15)]) v28 [1, 2, 3, 4, 0, 5, 6] (oDec_at oX11_draw 58 rfl) rfl ev28 (by decide) rfl ?_
              refine r_goto C (tgt := 36) (oDec_at oX11_draw 59 rfl) (by decide) ?_
              refine r_pick C [0, 1, 2, 3, 4] rfl ?_
              exact (ih (n - 1) (by omega)) (u26) r13 v28  (by omega) (by omega) (by omega) (by omega)
          · skip
            refine r_iconst C (oDec_at oX11_draw 48 rfl) (v := k1) (by rw [qk1]; rfl) ?_
            refine r_goto C (tgt := 102) (oDec_at oX11_draw 49 rfl) (by decide) ?_
            have lk29 : ((u12).1 b16 4).toInt = (t.1 b16 4).toInt := congrArg Int32.toInt (((fu12 b16 4 (by rw [hkb16]; rfl)).1).trans ((fu7 b16 4 (by rw [hkb16]; rfl)).1))
            have lk30 : ((u12).1 b16 5).toInt = (t.1 b16 5).toInt := congrArg Int32.toInt (((fu12 b16 5 (by rw [hkb16]; rfl)).1).trans ((fu7 b16 5 (by rw [hkb16]; rfl)).1))
            refine r_callVi C oCl4 hkb16 miX4_add mlX11_346 (ct_X4_add l E (u12) b16 hkb16 v11 k1 ) (by decide) rfl rfl rfl (Nat.le_of_ble_eq_true rfl) (oDec_at oX11_draw 56 rfl) (fun r32 u31 pu31 fu31 => ?_)
            try dsimp only at pu31
            have rr32 := n_rng r32
            refine r_pop C (oDec_at oX11_draw 57 rfl) rfl ?_
            obtain ⟨v33, ev33⟩ : ∃ z : Int32, x5 + Int32.ofInt 1 = z := ⟨_, rfl⟩
            have hv33 : v33.toInt = x5.toInt + 1 := n_inc ev33 (by decide) (by omega) (by omega)
            refine r_iinc C (j := 4) (lv' := [(0, .ref (oad E 0)), (1, .int a1), (2, .int a2), (4, .int r13), (5, .int v33), (6, .int v11), (7, .int v15)]) v33 [1, 2, 3, 4, 0, 5, 6] (oDec_at oX11_draw 58 rfl) rfl ev33 (by decide) rfl ?_
            refine r_goto C (tgt := 36) (oDec_at oX11_draw 59 rfl) (by decide) ?_
            refine r_pick C [0, 1, 2, 3, 4] rfl ?_
            exact (ih (n - 1) (by omega)) (u31) r13 v33  (by omega) (by omega) (by omega) (by omega)
  refine r_iload_n C (j := 1) (oDec_at oX11_draw 0 rfl) rfl rfl ?_
  refine r_iconst C (oDec_at oX11_draw 1 rfl) (v := k1) (by rw [qk1]; rfl) ?_
  refine r_icmp_lt C 21 (oDec_at oX11_draw 2 rfl) (by decide) (fun cd34 => ?_) (fun cd34 => ?_)
  · skip
    refine r_iconst C (oDec_at oX11_draw 11 rfl) (v := km1) (by rw [qkm1]; rfl) ?_
    exact r_iret C (oDec_at oX11_draw 12 rfl) ⟨_, rfl, trivial⟩
  · skip
    refine r_iload_n C (j := 1) (oDec_at oX11_draw 3 rfl) rfl rfl ?_
    refine r_bipush C (oDec_at oX11_draw 4 rfl) (v := k24) (by rw [qk24]; rfl) ?_
    refine r_icmp_gt C 21 (oDec_at oX11_draw 5 rfl) (by decide) (fun cd35 => ?_) (fun cd35 => ?_)
    · skip
      refine r_iconst C (oDec_at oX11_draw 11 rfl) (v := km1) (by rw [qkm1]; rfl) ?_
      exact r_iret C (oDec_at oX11_draw 12 rfl) ⟨_, rfl, trivial⟩
    · skip
      refine r_iload_n C (j := 2) (oDec_at oX11_draw 6 rfl) rfl rfl ?_
      refine r_if_lt C 21 (oDec_at oX11_draw 7 rfl) (by decide) (fun cd36 => ?_) (fun cd36 => ?_)
      · skip
        refine r_iconst C (oDec_at oX11_draw 11 rfl) (v := km1) (by rw [qkm1]; rfl) ?_
        exact r_iret C (oDec_at oX11_draw 12 rfl) ⟨_, rfl, trivial⟩
      · skip
        refine r_iload_n C (j := 2) (oDec_at oX11_draw 8 rfl) rfl rfl ?_
        refine r_bipush C (oDec_at oX11_draw 9 rfl) (v := k28) (by rw [qk28]; rfl) ?_
        refine r_icmp_le C 23 (oDec_at oX11_draw 10 rfl) (by decide) (fun cd37 => ?_) (fun cd37 => ?_)
        · skip
          refine r_aload_n C (j := 0) (oDec_at oX11_draw 13 rfl) rfl rfl ?_
          refine r_getS (k := 1) (q2 := 4) C oCl11 rfl (by decide) flX11_19 rfl rfl rfl ks0 (oDec_at oX11_draw 14 rfl) (fun b38 rb38 mb38 hkb38 => ?_)
          refine r_callVv C oCl4 hkb38 miX4_clear mlX11_340 (ct_X4_clear l E (s) b38 hkb38 ) (by decide) rfl rfl rfl (Nat.le_of_ble_eq_true rfl) (oDec_at oX11_draw 15 rfl) (fun u39 pu39 fu39 => ?_)
          try dsimp only at pu39
          refine r_iload_n C (j := 3) (oDec_at oX11_draw 16 rfl) rfl rfl ?_
          refine r_istore C (lv' := [(0, .ref (oad E 0)), (1, .int a1), (2, .int a2), (3, .int a3), (4, .int a3)]) [1, 2, 3, 4, 0] (oDec_at oX11_draw 17 rfl) (by decide) rfl ?_
          refine r_iconst C (oDec_at oX11_draw 18 rfl) (v := k0) (by rw [qk0]; rfl) ?_
          refine r_pc C 34 rfl ?_
          refine r_istore C (lv' := [(0, .ref (oad E 0)), (1, .int a1), (2, .int a2), (3, .int a3), (4, .int a3), (5, .int k0)]) [1, 2, 3, 4, 5, 0] (oDec_at oX11_draw 19 rfl) (by decide) rfl ?_
          refine r_pick C [0, 1, 2, 4, 5] rfl ?_
          exact (key (25 - k0.toInt).toNat) (u39) a3 k0  (by omega) (by omega) (by omega) (by omega)
        · skip
          refine r_iconst C (oDec_at oX11_draw 11 rfl) (v := km1) (by rw [qkm1]; rfl) ?_
          exact r_iret C (oDec_at oX11_draw 12 rfl) ⟨_, rfl, trivial⟩
set_option maxHeartbeats 4000000 in
set_option maxRecDepth 100000 in
theorem ct_X11_image (l : Launch) (E : oE) (s : oS)   : oMet l 3 yX11_image cX11_image 3 (some .int) [(11, 14), (13, 9999)] E s [.ref (oad E 0)] (oPi (fun r u => True)) := by
  refine oMet.of (lv := [(0, .ref (oad E 0))]) (by decide +kernel) (Nat.le_of_ble_eq_true rfl) rfl (fun J C hT => ?_)
  have C : oC l 3 cX11_image RX11 3 (some .int) [(11, 14), (13, 9999)] E s (oPi (fun r u => True)) J := C
  obtain ⟨km1, qkm1⟩ : ∃ z : Int32, z = (-1) := ⟨_, rfl⟩
  have ekm1 : km1.toInt = (-1) := by rw [qkm1]; rfl
  obtain ⟨k0, qk0⟩ : ∃ z : Int32, z = 0 := ⟨_, rfl⟩
  have ek0 : k0.toInt = 0 := by rw [qk0]; rfl
  obtain ⟨k1, qk1⟩ : ∃ z : Int32, z = 1 := ⟨_, rfl⟩
  have ek1 : k1.toInt = 1 := by rw [qk1]; rfl
  obtain ⟨k2, qk2⟩ : ∃ z : Int32, z = 2 := ⟨_, rfl⟩
  have ek2 : k2.toInt = 2 := by rw [qk2]; rfl
  obtain ⟨k23, qk23⟩ : ∃ z : Int32, z = 23 := ⟨_, rfl⟩
  have ek23 : k23.toInt = 23 := by rw [qk23]; rfl
  obtain ⟨k255, qk255⟩ : ∃ z : Int32, z = 255 := ⟨_, rfl⟩
  have ek255 : k255.toInt = 255 := by rw [qk255]; rfl
  have key : ∀ n : Nat, (∀ (t : oS) (x1 : Int32), (0 ≤ x1.toInt ∧ x1.toInt ≤ 24) → (1 ≤ (t.1 0 14).toInt ∧ (t.1 0 14).toInt ≤ 49) → 1000 - x1.toInt ≤ (n : Int) → J t 20 [(0, .ref (oad E 0)), (1, .int x1)] []) ∧ (∀ (t : oS) (x1 : Int32) (x2 : Int32), (0 ≤ x2.toInt ∧ x2.toInt ≤ 50) → (1 ≤ (t.1 0 14).toInt ∧ (t.1 0 14).toInt ≤ 49) → 51 - x2.toInt ≤ (n : Int) → J t 115 [(0, .ref (oad E 0)), (1, .int x1), (2, .int x2)] []) := by
    intro n
    induction n using Nat.strongRecOn with
    | _ n ih =>
      refine ⟨?_, ?_⟩
      · intro t x1  iv0 iv1 hmu
        have rx1 := n_rng x1
        refine r_iload_n C (j := 1) (oDec_at oX11_image 12 rfl) rfl rfl ?_
        refine r_aload_n C (j := 0) (oDec_at oX11_image 13 rfl) rfl rfl ?_
        refine r_getS (k := 1) (q2 := 4) C oCl11 rfl (by decide) flX11_19 rfl rfl rfl ks0 (oDec_at oX11_image 14 rfl) (fun b1 rb1 mb1 hkb1 => ?_)
        obtain ⟨v2, ev2⟩ : ∃ z : Int32, (t).1 b1 4 = z := ⟨_, rfl⟩
        have gv2 : (t.1 b1 4).toInt = v2.toInt := congrArg Int32.toInt (ev2)
        refine r_getiN (k := 4) (lo := 0) (hi := 24) C v2 oCl4 hkb1 (by decide) flX11_140 rfl rfl (ev2) rfl rfl (oDec_at oX11_image 15 rfl) (fun b3 b3h => ?_)
        refine r_icmp_ge C 110 (oDec_at oX11_image 16 rfl) (by decide) (fun cd4 => ?_) (fun cd4 => ?_)
        · skip
          refine r_bipush C (oDec_at oX11_image 60 rfl) (v := k23) (by rw [qk23]; rfl) ?_
          refine r_istore_n C (lv' := [(0, .ref (oad E 0)), (1, .int k23)]) [1, 0] (oDec_at oX11_image 61 rfl) rfl (by decide) rfl ?_
          refine r_iconst C (oDec_at oX11_image 62 rfl) (v := k0) (by rw [qk0]; rfl) ?_
          refine r_istore_n C (lv' := [(0, .ref (oad E 0)), (1, .int k23), (2, .int k0)]) [1, 2, 0] (oDec_at oX11_image 63 rfl) rfl (by decide) rfl ?_
          exact (ih (n - 1) (by omega)).2 (t) k23 k0  (by omega) (by omega) (by omega)
        · skip
          refine r_aload_n C (j := 0) (oDec_at oX11_image 17 rfl) rfl rfl ?_
          obtain ⟨v5, ev5⟩ : ∃ z : Int32, (t).1 0 14 = z := ⟨_, rfl⟩
          have gv5 : (t.1 0 14).toInt = v5.toInt := congrArg Int32.toInt (ev5)
          refine r_geti (k := 14) (lo := 0) (hi := 50) C v5 oCl11 rfl (by decide) flX11_349 rfl rfl (ev5) rfl rfl (oDec_at oX11_image 18 rfl) (fun b6 b6h => ?_)
          refine r_iconst C (oDec_at oX11_image 19 rfl) (v := k2) (by rw [qk2]; rfl) ?_
          obtain ⟨v7, ev7⟩ : ∃ z : Int32, z = v5 + k2 := ⟨_, rfl⟩
          have hv7 : v7.toInt = v5.toInt + k2.toInt := n_add ev7 (by omega) (by omega)
          refine r_iadd C v7 (oDec_at oX11_image 20 rfl) ev7 ?_
          refine r_aload_n C (j := 0) (oDec_at oX11_image 21 rfl) rfl rfl ?_
          refine r_getF (k := 13) (b := 69) C oCl11 rfl (by decide) flX11_92 rfl rfl rfl (oDec_at oX11_image 22 rfl) ?_
          refine r_pc C 41 rfl ?_
          obtain ⟨v8, ev8⟩ : ∃ z : Int32, Int32.ofNat 50 = z := ⟨_, rfl⟩
          have hv8 : v8.toInt = 50 := by rw [← ev8]; rfl
          refine r_alen0 (n := 50) C v8 rfl (by decide) rfl rfl (by decide) ev8 (oDec_at oX11_image 23 rfl) ?_
          refine r_icmp_ge C 110 (oDec_at oX11_image 24 rfl) (by decide) (fun cd9 => ?_) (fun cd9 => ?_)
          · skip
            refine r_bipush C (oDec_at oX11_image 60 rfl) (v := k23) (by rw [qk23]; rfl) ?_
            refine r_istore_n C (lv' := [(0, .ref (oad E 0)), (1, .int k23)]) [1, 0] (oDec_at oX11_image 61 rfl) rfl (by decide) rfl ?_
            refine r_iconst C (oDec_at oX11_image 62 rfl) (v := k0) (by rw [qk0]; rfl) ?_
            refine r_istore_n C (lv' := [(0, .ref (oad E 0)), (1, .int k23), (2, .int k0)]) [1, 2, 0] (oDec_at oX11_image 63 rfl) rfl (by decide) rfl ?_
            have lk10 : ((t).1 0 14).toInt = v5.toInt := congrArg Int32.toInt (ev5)
            exact (ih (n - 1) (by omega)).2 (t) k23 k0  (by omega) (by omega) (by omega)
          · skip
            refine r_aload_n C (j := 0) (oDec_at oX11_image 25 rfl) rfl rfl ?_
            refine r_getK (k := 1) (b := b1) C oCl11 rfl (by decide) flX11_19 rfl rfl (rb1) (oDec_at oX11_image 26 rfl) ?_
            refine r_iload_n C (j := 1) (oDec_at oX11_image 27 rfl) rfl rfl ?_
            refine r_callVi C oCl4 hkb1 miX4_stepOf mlX11_175 (ct_X4_stepOf l E (t) b1 hkb1 x1 ) (by decide) rfl rfl rfl (Nat.le_of_ble_eq_true rfl) (oDec_at oX11_image 28 rfl) (fun r13 u12 pu12 fu12 => ?_)
            try dsimp only at pu12
            have rr13 := n_rng r13
            refine r_istore_n C (lv' := [(0, .ref (oad E 0)), (1, .int x1), (2, .int r13)]) [1, 2, 0] (oDec_at oX11_image 29 rfl) rfl (by decide) rfl ?_
            refine r_aload_n C (j := 0) (oDec_at oX11_image 30 rfl) rfl rfl ?_
            refine r_getF (k := 13) (b := 69) C oCl11 rfl (by decide) flX11_92 rfl rfl rfl (oDec_at oX11_image 31 rfl) ?_
            refine r_pc C 58 rfl ?_
            refine r_aload_n C (j := 0) (oDec_at oX11_image 32 rfl) rfl rfl ?_
            refine r_geti (k := 14) (lo := 0) (hi := 50) C v5 oCl11 rfl (by decide) flX11_349 rfl rfl (((fu12 0 14 rfl).1).trans (ev5)) rfl rfl (oDec_at oX11_image 33 rfl) (fun _ _ => ?_)
            refine r_iload_n C (j := 2) (oDec_at oX11_image 34 rfl) rfl rfl ?_
            refine r_iconst C (oDec_at oX11_image 35 rfl) (v := km1) (by rw [qkm1]; rfl) ?_
            refine r_icmp_ne C 73 (oDec_at oX11_image 36 rfl) (by decide) (fun cd14 => ?_) (fun cd14 => ?_)
            · skip
              refine r_iload_n C (j := 2) (oDec_at oX11_image 39 rfl) rfl rfl ?_
              refine r_iast (n := 50) (lo := (-2147483648)) (hi := 2147483647) C rfl (by decide) rfl rfl ⟨by omega, by omega⟩ (by decide) rfl rfl rfl rfl (n_rng _) (oDec_at oX11_image 40 rfl) ?_
              refine r_aload_n C (j := 0) (oDec_at oX11_image 41 rfl) rfl rfl ?_
              refine r_getF (k := 13) (b := 69) C oCl11 rfl (by decide) flX11_92 rfl rfl rfl (oDec_at oX11_image 42 rfl) ?_
              refine r_aload_n C (j := 0) (oDec_at oX11_image 43 rfl) rfl rfl ?_
              refine r_geti (k := 14) (lo := 0) (hi := 50) C v5 oCl11 rfl (by decide) flX11_349 rfl rfl (((pI_ne (a := 0) (b := 14) (c := 69) _ _ (Or.inl (by decide)))).trans (((fu12 0 14 rfl).1).trans (ev5))) rfl rfl (oDec_at oX11_image 44 rfl) (fun _ _ => ?_)
              refine r_pc C 83 rfl ?_
              refine r_iconst C (oDec_at oX11_image 45 rfl) (v := k1) (by rw [qk1]; rfl) ?_
              obtain ⟨v15, ev15⟩ : ∃ z : Int32, z = v5 + k1 := ⟨_, rfl⟩
              have hv15 : v15.toInt = v5.toInt + k1.toInt := n_add ev15 (by omega) (by omega)
              refine r_iadd C v15 (oDec_at oX11_image 46 rfl) ev15 ?_
              refine r_aload_n C (j := 0) (oDec_at oX11_image 47 rfl) rfl rfl ?_
              refine r_getK (k := 1) (b := b1) C oCl11 rfl (by decide) flX11_19 rfl rfl ((show ((pI u12 69 v5.toNatClampNeg r13)).2.2 0 1 = b1 + 1 from ((fu12 0 1 rfl).2.2).trans (rb1))) (oDec_at oX11_image 48 rfl) ?_
              refine r_iload_n C (j := 1) (oDec_at oX11_image 49 rfl) rfl rfl ?_
              refine r_callVi C oCl4 hkb1 miX4_lengthOf mlX11_179 (ct_X4_lengthOf l E ((pI u12 69 v5.toNatClampNeg r13)) b1 hkb1 x1 ) (by decide) rfl rfl rfl (Nat.le_of_ble_eq_true rfl) (oDec_at oX11_image 50 rfl) (fun r18 u17 pu17 fu17 => ?_)
              try dsimp only at pu17
              have rr18 := n_rng r18
              refine r_iast (n := 50) (lo := (-2147483648)) (hi := 2147483647) C rfl (by decide) rfl rfl ⟨by omega, by omega⟩ (by decide) rfl rfl rfl rfl (n_rng _) (oDec_at oX11_image 51 rfl) ?_
              refine r_pc C 94 rfl ?_
              refine r_aload_n C (j := 0) (oDec_at oX11_image 52 rfl) rfl rfl ?_
              refine r_dup C (oDec_at oX11_image 53 rfl) rfl ?_
              refine r_geti (k := 14) (lo := 0) (hi := 50) C v5 oCl11 rfl (by decide) flX11_349 rfl rfl (((pI_ne (a := 0) (b := 14) (c := 69) _ _ (Or.inl (by decide)))).trans (((fu17 0 14 rfl).1).trans (((pI_ne (a := 0) (b := 14) (c := 69) _ _ (Or.inl (by decide)))).trans (((fu12 0 14 rfl).1).trans (ev5))))) rfl rfl (oDec_at oX11_image 54 rfl) (fun _ _ => ?_)
              refine r_iconst C (oDec_at oX11_image 55 rfl) (v := k2) (by rw [qk2]; rfl) ?_
              obtain ⟨v19, ev19⟩ : ∃ z : Int32, z = v5 + k2 := ⟨_, rfl⟩
              have hv19 : v19.toInt = v5.toInt + k2.toInt := n_add ev19 (by omega) (by omega)
              refine r_iadd C v19 (oDec_at oX11_image 56 rfl) ev19 ?_
              refine r_puti (k := 14) (lo := 0) (hi := 50) C oCl11 rfl (by decide) flX11_349 rfl rfl rfl rfl rfl rfl rfl rfl ⟨by omega, by omega⟩ (oDec_at oX11_image 57 rfl) ?_
              refine r_pc C 104 rfl ?_
              obtain ⟨v20, ev20⟩ : ∃ z : Int32, x1 + Int32.ofInt 1 = z := ⟨_, rfl⟩
              have hv20 : v20.toInt = x1.toInt + 1 := n_inc ev20 (by decide) (by omega) (by omega)
              refine r_iinc C (j := 1) (lv' := [(0, .ref (oad E 0)), (1, .int v20), (2, .int r13)]) v20 [1, 0, 2] (oDec_at oX11_image 58 rfl) rfl ev20 (by decide) rfl ?_
              refine r_goto C (tgt := 20) (oDec_at oX11_image 59 rfl) (by decide) ?_
              have lk21 : (((pI (pI u17 69 v15.toNatClampNeg r18) 0 14 v19)).1 0 14).toInt = v19.toInt := congrArg Int32.toInt ((pI_self _ _ _ _))
              refine r_pick C [0, 1] rfl ?_
              exact (ih (n - 1) (by omega)).1 ((pI (pI u17 69 v15.toNatClampNeg r18) 0 14 v19)) v20  (by omega) (by omega) (by omega)
            · skip
              refine r_sipush C (oDec_at oX11_image 37 rfl) (v := k255) (by rw [qk255]; rfl) ?_
              refine r_goto C (tgt := 74) (oDec_at oX11_image 38 rfl) (by decide) ?_
              refine r_iast (n := 50) (lo := (-2147483648)) (hi := 2147483647) C rfl (by decide) rfl rfl ⟨by omega, by omega⟩ (by decide) rfl rfl rfl rfl (n_rng _) (oDec_at oX11_image 40 rfl) ?_
              refine r_aload_n C (j := 0) (oDec_at oX11_image 41 rfl) rfl rfl ?_
              refine r_getF (k := 13) (b := 69) C oCl11 rfl (by decide) flX11_92 rfl rfl rfl (oDec_at oX11_image 42 rfl) ?_
              refine r_aload_n C (j := 0) (oDec_at oX11_image 43 rfl) rfl rfl ?_
              refine r_geti (k := 14) (lo := 0) (hi := 50) C v5 oCl11 rfl (by decide) flX11_349 rfl rfl (((pI_ne (a := 0) (b := 14) (c := 69) _ _ (Or.inl (by decide)))).trans (((fu12 0 14 rfl).1).trans (ev5))) rfl rfl (oDec_at oX11_image 44 rfl) (fun _ _ => ?_)
              refine r_pc C 83 rfl ?_
              refine r_iconst C (oDec_at oX11_image 45 rfl) (v := k1) (by rw [qk1]; rfl) ?_
              obtain ⟨v22, ev22⟩ : ∃ z : Int32, z = v5 + k1 := ⟨_, rfl⟩
              have hv22 : v22.toInt = v5.toInt + k1.toInt := n_add ev22 (by omega) (by omega)
              refine r_iadd C v22 (oDec_at oX11_image 46 rfl) ev22 ?_
              refine r_aload_n C (j := 0) (oDec_at oX11_image 47 rfl) rfl rfl ?_
              refine r_getK (k := 1) (b := b1) C oCl11 rfl (by decide) flX11_19 rfl rfl ((show ((pI u12 69 v5.toNatClampNeg k255)).2.2 0 1 = b1 + 1 from ((fu12 0 1 rfl).2.2).trans (rb1))) (oDec_at oX11_image 48 rfl) ?_
              refine r_iload_n C (j := 1) (oDec_at oX11_image 49 rfl) rfl rfl ?_
              refine r_callVi C oCl4 hkb1 miX4_lengthOf mlX11_179 (ct_X4_lengthOf l E ((pI u12 69 v5.toNatClampNeg k255)) b1 hkb1 x1 ) (by decide) rfl rfl rfl (Nat.le_of_ble_eq_true rfl) (oDec_at oX11_image 50 rfl) (fun r25 u24 pu24 fu24 => ?_)
              try dsimp only at pu24
              have rr25 := n_rng r25
              refine r_iast (n := 50) (lo := (-2147483648)) (hi := 2147483647) C rfl (by decide) rfl rfl ⟨by omega, by omega⟩ (by decide) rfl rfl rfl rfl (n_rng _) (oDec_at oX11_image 51 rfl) ?_
              refine r_pc C 94 rfl ?_
              refine r_aload_n C (j := 0) (oDec_at oX11_image 52 rfl) rfl rfl ?_
              refine r_dup C (oDec_at oX11_image 53 rfl) rfl ?_
              refine r_geti (k := 14) (lo := 0) (hi := 50) C v5 oCl11 rfl (by decide) flX11_349 rfl rfl (((pI_ne (a := 0) (b := 14) (c := 69) _ _ (Or.inl (by decide)))).trans (((fu24 0 14 rfl).1).trans (((pI_ne (a := 0) (b := 14) (c := 69) _ _ (Or.inl (by decide)))).trans (((fu12 0 14 rfl).1).trans (ev5))))) rfl rfl (oDec_at oX11_image 54 rfl) (fun _ _ => ?_)
              refine r_iconst C (oDec_at oX11_image 55 rfl) (v := k2) (by rw [qk2]; rfl) ?_
              obtain ⟨v26, ev26⟩ : ∃ z : Int32, z = v5 + k2 := ⟨_, rfl⟩
              have hv26 : v26.toInt = v5.toInt + k2.toInt := n_add ev26 (by omega) (by omega)
              refine r_iadd C v26 (oDec_at oX11_image 56 rfl) ev26 ?_
              refine r_puti (k := 14) (lo := 0) (hi := 50) C oCl11 rfl (by decide) flX11_349 rfl rfl rfl rfl rfl rfl rfl rfl ⟨by omega, by omega⟩ (oDec_at oX11_image 57 rfl) ?_
              refine r_pc C 104 rfl ?_
              obtain ⟨v27, ev27⟩ : ∃ z : Int32, x1 + Int32.ofInt 1 = z := ⟨_, rfl⟩
              have hv27 : v27.toInt = x1.toInt + 1 := n_inc ev27 (by decide) (by omega) (by omega)
              refine r_iinc C (j := 1) (lv' := [(0, .ref (oad E 0)), (1, .int v27), (2, .int r13)]) v27 [1, 0, 2] (oDec_at oX11_image 58 rfl) rfl ev27 (by decide) rfl ?_
              refine r_goto C (tgt := 20) (oDec_at oX11_image 59 rfl) (by decide) ?_
              have lk28 : (((pI (pI u24 69 v22.toNatClampNeg r25) 0 14 v26)).1 0 14).toInt = v26.toInt := congrArg Int32.toInt ((pI_self _ _ _ _))
              refine r_pick C [0, 1] rfl ?_
              exact (ih (n - 1) (by omega)).1 ((pI (pI u24 69 v22.toNatClampNeg r25) 0 14 v26)) v27  (by omega) (by omega) (by omega)
      · intro t x1 x2  iv0 iv1 hmu
        have rx1 := n_rng x1
        have rx2 := n_rng x2
        refine r_iload_n C (j := 2) (oDec_at oX11_image 64 rfl) rfl rfl ?_
        refine r_aload_n C (j := 0) (oDec_at oX11_image 65 rfl) rfl rfl ?_
        obtain ⟨v29, ev29⟩ : ∃ z : Int32, (t).1 0 14 = z := ⟨_, rfl⟩
        have gv29 : (t.1 0 14).toInt = v29.toInt := congrArg Int32.toInt (ev29)
        refine r_geti (k := 14) (lo := 0) (hi := 50) C v29 oCl11 rfl (by decide) flX11_349 rfl rfl (ev29) rfl rfl (oDec_at oX11_image 66 rfl) (fun b30 b30h => ?_)
        refine r_icmp_ge C 140 (oDec_at oX11_image 67 rfl) (by decide) (fun cd31 => ?_) (fun cd31 => ?_)
        · skip
          refine r_aload_n C (j := 0) (oDec_at oX11_image 77 rfl) rfl rfl ?_
          refine r_getF (k := 13) (b := 69) C oCl11 rfl (by decide) flX11_92 rfl rfl rfl (oDec_at oX11_image 78 rfl) ?_
          refine r_aload_n C (j := 0) (oDec_at oX11_image 79 rfl) rfl rfl ?_
          refine r_geti (k := 14) (lo := 0) (hi := 50) C v29 oCl11 rfl (by decide) flX11_349 rfl rfl (ev29) rfl rfl (oDec_at oX11_image 80 rfl) (fun _ _ => ?_)
          refine r_iload_n C (j := 1) (oDec_at oX11_image 81 rfl) rfl rfl ?_
          refine r_iast (n := 50) (lo := (-2147483648)) (hi := 2147483647) C rfl (by decide) rfl rfl ⟨by omega, by omega⟩ (by decide) rfl rfl rfl rfl (n_rng _) (oDec_at oX11_image 82 rfl) ?_
          refine r_pc C 150 rfl ?_
          refine r_aload_n C (j := 0) (oDec_at oX11_image 83 rfl) rfl rfl ?_
          refine r_dup C (oDec_at oX11_image 84 rfl) rfl ?_
          refine r_geti (k := 14) (lo := 0) (hi := 50) C v29 oCl11 rfl (by decide) flX11_349 rfl rfl (((pI_ne (a := 0) (b := 14) (c := 69) _ _ (Or.inl (by decide)))).trans (ev29)) rfl rfl (oDec_at oX11_image 85 rfl) (fun _ _ => ?_)
          refine r_iconst C (oDec_at oX11_image 86 rfl) (v := k1) (by rw [qk1]; rfl) ?_
          obtain ⟨v32, ev32⟩ : ∃ z : Int32, z = v29 + k1 := ⟨_, rfl⟩
          have hv32 : v32.toInt = v29.toInt + k1.toInt := n_add ev32 (by omega) (by omega)
          refine r_iadd C v32 (oDec_at oX11_image 87 rfl) ev32 ?_
          refine r_puti (k := 14) (lo := 0) (hi := 50) C oCl11 rfl (by decide) flX11_349 rfl rfl rfl rfl rfl rfl rfl rfl ⟨by omega, by omega⟩ (oDec_at oX11_image 88 rfl) ?_
          refine r_pc C 160 rfl ?_
          refine r_aload_n C (j := 0) (oDec_at oX11_image 89 rfl) rfl rfl ?_
          refine r_geti (k := 14) (lo := 0) (hi := 50) C v32 oCl11 rfl (by decide) flX11_349 rfl rfl ((pI_self _ _ _ _)) rfl rfl (oDec_at oX11_image 90 rfl) (fun _ _ => ?_)
          exact r_iret C (oDec_at oX11_image 91 rfl) ⟨_, rfl, trivial⟩
        · skip
          refine r_iload_n C (j := 1) (oDec_at oX11_image 68 rfl) rfl rfl ?_
          refine r_aload_n C (j := 0) (oDec_at oX11_image 69 rfl) rfl rfl ?_
          refine r_getF (k := 13) (b := 69) C oCl11 rfl (by decide) flX11_92 rfl rfl rfl (oDec_at oX11_image 70 rfl) ?_
          refine r_iload_n C (j := 2) (oDec_at oX11_image 71 rfl) rfl rfl ?_
          obtain ⟨v33, ev33⟩ : ∃ z : Int32, (t).1 69 x2.toNatClampNeg = z := ⟨_, rfl⟩
          have rv33 := n_rng v33
          refine r_iald (n := 50) (lo := (-2147483648)) (hi := 2147483647) C v33 rfl (by decide) rfl rfl ⟨by omega, by omega⟩ (by decide) ev33 rfl rfl (oDec_at oX11_image 72 rfl) (fun _ _ => ?_)
          refine r_callSi C miX11_nextCheck mlX11_352 (ct_X11_nextCheck l E (t) x1 v33 ) (by decide) rfl rfl rfl (Nat.le_of_ble_eq_true rfl) (oDec_at oX11_image 73 rfl) (fun r36 u35 pu35 fu35 => ?_)
          try dsimp only at pu35
          have rr36 := n_rng r36
          refine r_pc C 133 rfl ?_
          refine r_istore_n C (lv' := [(0, .ref (oad E 0)), (1, .int r36), (2, .int x2)]) [1, 0, 2] (oDec_at oX11_image 74 rfl) rfl (by decide) rfl ?_
          obtain ⟨v37, ev37⟩ : ∃ z : Int32, x2 + Int32.ofInt 1 = z := ⟨_, rfl⟩
          have hv37 : v37.toInt = x2.toInt + 1 := n_inc ev37 (by decide) (by omega) (by omega)
          refine r_iinc C (j := 2) (lv' := [(0, .ref (oad E 0)), (1, .int r36), (2, .int v37)]) v37 [1, 2, 0] (oDec_at oX11_image 75 rfl) rfl ev37 (by decide) rfl ?_
          refine r_goto C (tgt := 115) (oDec_at oX11_image 76 rfl) (by decide) ?_
          have lk38 : ((u35).1 0 14).toInt = v29.toInt := congrArg Int32.toInt (((fu35 0 14 rfl).1).trans (ev29))
          exact (ih (n - 1) (by omega)).2 (u35) r36 v37  (by omega) (by omega) (by omega)
  refine r_aload_n C (j := 0) (oDec_at oX11_image 0 rfl) rfl rfl ?_
  refine r_getF (k := 13) (b := 69) C oCl11 rfl (by decide) flX11_92 rfl rfl rfl (oDec_at oX11_image 1 rfl) ?_
  refine r_iconst C (oDec_at oX11_image 2 rfl) (v := k0) (by rw [qk0]; rfl) ?_
  refine r_aload_n C (j := 0) (oDec_at oX11_image 3 rfl) rfl rfl ?_
  refine r_getS (k := 1) (q2 := 4) C oCl11 rfl (by decide) flX11_19 rfl rfl rfl ks0 (oDec_at oX11_image 4 rfl) (fun b39 rb39 mb39 hkb39 => ?_)
  obtain ⟨v40, ev40⟩ : ∃ z : Int32, (s).1 b39 4 = z := ⟨_, rfl⟩
  have gv40 : (s.1 b39 4).toInt = v40.toInt := congrArg Int32.toInt (ev40)
  refine r_getiN (k := 4) (lo := 0) (hi := 24) C v40 oCl4 hkb39 (by decide) flX11_140 rfl rfl (ev40) rfl rfl (oDec_at oX11_image 5 rfl) (fun b41 b41h => ?_)
  refine r_pc C 12 rfl ?_
  refine r_iast (n := 50) (lo := (-2147483648)) (hi := 2147483647) C rfl (by decide) rfl rfl ⟨by omega, by omega⟩ (by decide) rfl rfl rfl rfl (n_rng _) (oDec_at oX11_image 6 rfl) ?_
  refine r_aload_n C (j := 0) (oDec_at oX11_image 7 rfl) rfl rfl ?_
  refine r_iconst C (oDec_at oX11_image 8 rfl) (v := k1) (by rw [qk1]; rfl) ?_
  refine r_puti (k := 14) (lo := 0) (hi := 50) C oCl11 rfl (by decide) flX11_349 rfl rfl rfl rfl rfl rfl rfl rfl ⟨by omega, by omega⟩ (oDec_at oX11_image 9 rfl) ?_
  refine r_iconst C (oDec_at oX11_image 10 rfl) (v := k0) (by rw [qk0]; rfl) ?_
  refine r_istore_n C (lv' := [(0, .ref (oad E 0)), (1, .int k0)]) [1, 0] (oDec_at oX11_image 11 rfl) rfl (by decide) rfl ?_
  have lk42 : (((pI (pI s 69 k0.toNatClampNeg v40) 0 14 k1)).1 0 14).toInt = k1.toInt := congrArg Int32.toInt ((pI_self _ _ _ _))
  exact (key (1000 - k0.toInt).toNat).1 ((pI (pI s 69 k0.toNatClampNeg v40) 0 14 k1)) k0  (by omega) (by omega) (by omega)
set_option maxHeartbeats 4000000 in
set_option maxRecDepth 100000 in
theorem ct_X11_octet (l : Launch) (E : oE) (s : oS) (a1 : Int32)  : oMet l 1 yX11_octet cX11_octet 2 (some .int) [] E s [.ref (oad E 0), .int a1] (oPi (fun r u => True)) := by
  refine oMet.of (lv := [(0, .ref (oad E 0)), (1, .int a1)]) (by decide +kernel) (Nat.le_of_ble_eq_true rfl) rfl (fun J C hT => ?_)
  have C : oC l 1 cX11_octet RX11 2 (some .int) [] E s (oPi (fun r u => True)) J := C
  obtain ⟨km1, qkm1⟩ : ∃ z : Int32, z = (-1) := ⟨_, rfl⟩
  have ekm1 : km1.toInt = (-1) := by rw [qkm1]; rfl
  have rg1 := n_rng a1
  refine r_iload_n C (j := 1) (oDec_at oX11_octet 0 rfl) rfl rfl ?_
  refine r_if_lt C 30 (oDec_at oX11_octet 1 rfl) (by decide) (fun cd1 => ?_) (fun cd1 => ?_)
  · skip
    refine r_iconst C (oDec_at oX11_octet 16 rfl) (v := km1) (by rw [qkm1]; rfl) ?_
    exact r_iret C (oDec_at oX11_octet 17 rfl) ⟨_, rfl, trivial⟩
  · skip
    refine r_iload_n C (j := 1) (oDec_at oX11_octet 2 rfl) rfl rfl ?_
    refine r_aload_n C (j := 0) (oDec_at oX11_octet 3 rfl) rfl rfl ?_
    obtain ⟨v2, ev2⟩ : ∃ z : Int32, (s).1 0 14 = z := ⟨_, rfl⟩
    have gv2 : (s.1 0 14).toInt = v2.toInt := congrArg Int32.toInt (ev2)
    refine r_geti (k := 14) (lo := 0) (hi := 50) C v2 oCl11 rfl (by decide) flX11_349 rfl rfl (ev2) rfl rfl (oDec_at oX11_octet 4 rfl) (fun b3 b3h => ?_)
    refine r_icmp_ge C 30 (oDec_at oX11_octet 5 rfl) (by decide) (fun cd4 => ?_) (fun cd4 => ?_)
    · skip
      refine r_iconst C (oDec_at oX11_octet 16 rfl) (v := km1) (by rw [qkm1]; rfl) ?_
      exact r_iret C (oDec_at oX11_octet 17 rfl) ⟨_, rfl, trivial⟩
    · skip
      refine r_iload_n C (j := 1) (oDec_at oX11_octet 6 rfl) rfl rfl ?_
      refine r_aload_n C (j := 0) (oDec_at oX11_octet 7 rfl) rfl rfl ?_
      refine r_getF (k := 13) (b := 69) C oCl11 rfl (by decide) flX11_92 rfl rfl rfl (oDec_at oX11_octet 8 rfl) ?_
      obtain ⟨v5, ev5⟩ : ∃ z : Int32, Int32.ofNat 50 = z := ⟨_, rfl⟩
      have hv5 : v5.toInt = 50 := by rw [← ev5]; rfl
      refine r_alen0 (n := 50) C v5 rfl (by decide) rfl rfl (by decide) ev5 (oDec_at oX11_octet 9 rfl) ?_
      refine r_icmp_ge C 30 (oDec_at oX11_octet 10 rfl) (by decide) (fun cd6 => ?_) (fun cd6 => ?_)
      · skip
        refine r_iconst C (oDec_at oX11_octet 16 rfl) (v := km1) (by rw [qkm1]; rfl) ?_
        exact r_iret C (oDec_at oX11_octet 17 rfl) ⟨_, rfl, trivial⟩
      · skip
        refine r_aload_n C (j := 0) (oDec_at oX11_octet 11 rfl) rfl rfl ?_
        refine r_getF (k := 13) (b := 69) C oCl11 rfl (by decide) flX11_92 rfl rfl rfl (oDec_at oX11_octet 12 rfl) ?_
        refine r_iload_n C (j := 1) (oDec_at oX11_octet 13 rfl) rfl rfl ?_
        obtain ⟨v7, ev7⟩ : ∃ z : Int32, (s).1 69 a1.toNatClampNeg = z := ⟨_, rfl⟩
        have rv7 := n_rng v7
        refine r_iald (n := 50) (lo := (-2147483648)) (hi := 2147483647) C v7 rfl (by decide) rfl rfl ⟨by omega, by omega⟩ (by decide) ev7 rfl rfl (oDec_at oX11_octet 14 rfl) (fun _ _ => ?_)
        refine r_goto C (tgt := 31) (oDec_at oX11_octet 15 rfl) (by decide) ?_
        exact r_iret C (oDec_at oX11_octet 17 rfl) ⟨_, rfl, trivial⟩
set_option maxHeartbeats 4000000 in
set_option maxRecDepth 100000 in
theorem ct_X11_on (l : Launch) (E : oE) (s : oS)   : oMet l 3 yX11_on cX11_on 2 (some .boolean) [(3, 0), (4, 4), (4, 5), (4, 6), (4, 7), (7, 0), (8, 1), (10, 3), (11, 1), (11, 2), (11, 17), (16, 9999), (17, 9999), (18, 9999), (19, 9999)] E s [.ref (oad E 0)] (oPi (fun r u => (0 ≤ r.toInt ∧ r.toInt ≤ 1) ∧ ((u.1 1 1).toInt = 0))) := by
  refine oMet.of (lv := [(0, .ref (oad E 0))]) (by decide +kernel) (Nat.le_of_ble_eq_true rfl) rfl (fun J C hT => ?_)
  have C : oC l 3 cX11_on RX11 2 (some .boolean) [(3, 0), (4, 4), (4, 5), (4, 6), (4, 7), (7, 0), (8, 1), (10, 3), (11, 1), (11, 2), (11, 17), (16, 9999), (17, 9999), (18, 9999), (19, 9999)] E s (oPi (fun r u => (0 ≤ r.toInt ∧ r.toInt ≤ 1) ∧ ((u.1 1 1).toInt = 0))) J := C
  obtain ⟨k0, qk0⟩ : ∃ z : Int32, z = 0 := ⟨_, rfl⟩
  have ek0 : k0.toInt = 0 := by rw [qk0]; rfl
  refine r_aload_n C (j := 0) (oDec_at oX11_on 0 rfl) rfl rfl ?_
  refine r_callVi C oCl11 rfl miX11_imageInSpare mlX11_355 (ct_X11_imageInSpare l E (s)  ) (by decide) rfl rfl rfl (Nat.le_of_ble_eq_true rfl) (oDec_at oX11_on 1 rfl) (fun r2 u1 pu1 fu1 => ?_)
  try dsimp only at pu1
  have rr2 := n_rng r2
  refine r_istore_n C (lv' := [(0, .ref (oad E 0)), (1, .int r2)]) [1, 0] (oDec_at oX11_on 2 rfl) rfl (by decide) rfl ?_
  refine r_aload_n C (j := 0) (oDec_at oX11_on 3 rfl) rfl rfl ?_
  refine r_getF (k := 0) (b := 1) C oCl11 rfl (by decide) flX11_10 rfl rfl rfl (oDec_at oX11_on 4 rfl) ?_
  refine r_iconst C (oDec_at oX11_on 5 rfl) (v := k0) (by rw [qk0]; rfl) ?_
  refine r_pc C 10 rfl ?_
  refine r_ty C (fun hty => ?_)
  have ht10 : (0 : Int) ≤ ((u1).1 1 1).toInt ∧ ((u1).1 1 1).toInt ≤ 1600 := hty.1 1 1
  have lk3 : ((u1).1 1 1).toInt = (s.1 1 1).toInt := congrArg Int32.toInt ((fu1 1 1 rfl).1)
  refine r_callVi C oCl8 rfl miX8_cut mlX11_114 (ct_X8_cut l E (u1) k0 ) (by decide) rfl rfl rfl (Nat.le_of_ble_eq_true rfl) (oDec_at oX11_on 6 rfl) (fun r5 u4 pu4 fu4 => ?_)
  try dsimp only at pu4
  have rr5 := n_rng r5
  refine r_pop C (oDec_at oX11_on 7 rfl) rfl ?_
  refine r_iload_n C (j := 1) (oDec_at oX11_on 8 rfl) rfl rfl ?_
  refine r_if_eq C 22 (oDec_at oX11_on 9 rfl) (by decide) (fun cd6 => ?_) (fun cd6 => ?_)
  · skip
    refine r_iload_n C (j := 1) (oDec_at oX11_on 12 rfl) rfl rfl ?_
    exact r_zret C (n_bool (by omega)) (oDec_at oX11_on 13 rfl) ⟨_, rfl, ⟨by omega, by omega⟩⟩
  · skip
    refine r_aload_n C (j := 0) (oDec_at oX11_on 10 rfl) rfl rfl ?_
    refine r_callVv C oCl11 rfl miX11_takeSpare mlX11_121 (ct_X11_takeSpare l E (u4)  ) (by decide) rfl rfl rfl (Nat.le_of_ble_eq_true rfl) (oDec_at oX11_on 11 rfl) (fun u7 pu7 fu7 => ?_)
    try dsimp only at pu7
    refine r_iload_n C (j := 1) (oDec_at oX11_on 12 rfl) rfl rfl ?_
    have lk9 : ((u7).1 1 1).toInt = (u4.1 1 1).toInt := congrArg Int32.toInt ((fu7 1 1 rfl).1)
    exact r_zret C (n_bool (by omega)) (oDec_at oX11_on 13 rfl) ⟨_, rfl, ⟨by omega, by omega⟩⟩
