set_option maxHeartbeats 4000000 in
set_option maxRecDepth 100000 in
theorem ct9_X11_shortest (l : Launch) (E : oE) (s : oS) (a1 : Int32) (a2 : Int32) (b : Nat) (R : Int) (W : Nat → List Int) (me : Int) (hp0 : owBC b R W s) (hp1 : owKV R W s) (hp2 : owDN s) (hp3 : owLN s) (hp4 : owBO b s) (hp5 : owME b me s) : oMet l 8 yX11_shortest cX11_shortest 4 (some .int) [(1, 6), (1, 7), (1, 8), (4, 4), (4, 5), (4, 6), (4, 7), (9, 0), (9, 1), (9, 2), (9, 3), (9, 4), (16, 9999), (17, 9999), (18, 9999), (19, 9999), (24, 9999), (25, 9999), (26, 9999), (27, 9999), (28, 9999), (29, 9999), (30, 9999), (31, 9999)] E s [.ref (oad E 0), .int a1, .int a2] (oPi (fun r u => (owKV R W u) ∧ (owDN u) ∧ (owLN u))) := by
  refine oMet.of (lv := [(0, .ref (oad E 0)), (1, .int a1), (2, .int a2)]) (by decide +kernel) (Nat.le_of_ble_eq_true rfl) rfl (fun J C hT => ?_)
  have C : oC l 8 cX11_shortest RX11 4 (some .int) [(1, 6), (1, 7), (1, 8), (4, 4), (4, 5), (4, 6), (4, 7), (9, 0), (9, 1), (9, 2), (9, 3), (9, 4), (16, 9999), (17, 9999), (18, 9999), (19, 9999), (24, 9999), (25, 9999), (26, 9999), (27, 9999), (28, 9999), (29, 9999), (30, 9999), (31, 9999)] E s (oPi (fun r u => (owKV R W u) ∧ (owDN u) ∧ (owLN u))) J := C
  obtain ⟨km1, qkm1⟩ : ∃ z : Int32, z = (-1) := ⟨_, rfl⟩
  have ekm1 : km1.toInt = (-1) := by rw [qkm1]; rfl
  obtain ⟨k2, qk2⟩ : ∃ z : Int32, z = 2 := ⟨_, rfl⟩
  have ek2 : k2.toInt = 2 := by rw [qk2]; rfl
  obtain ⟨k4, qk4⟩ : ∃ z : Int32, z = 4 := ⟨_, rfl⟩
  have ek4 : k4.toInt = 4 := by rw [qk4]; rfl
  obtain ⟨k6, qk6⟩ : ∃ z : Int32, z = 6 := ⟨_, rfl⟩
  have ek6 : k6.toInt = 6 := by rw [qk6]; rfl
  have rg1 := n_rng a1
  have rg2 := n_rng a2
  have key : ∀ n : Nat, (∀ (t : oS) (x3 : Int32), (2 ≤ x3.toInt ∧ x3.toInt ≤ 7) → (owBC b R W t) → (owKV R W t) → (owDN t) → (owLN t) → (owBO b t) → (owME b me t) → (0 ≤ a1.toInt ∧ a1.toInt ≤ 4499) → (0 ≤ a2.toInt ∧ a2.toInt ≤ 4) → 8 - x3.toInt ≤ (n : Int) → J t 20 [(0, .ref (oad E 0)), (1, .int a1), (2, .int a2), (3, .int x3)] []) := by
    intro n
    induction n using Nat.strongRecOn with
    | _ n ih =>
      skip
      · intro t x3  iv0 iv1 iv2 iv3 iv4 iv5 iv6 iv7 iv8 hmu
        have rx3 := n_rng x3
        refine r_iload_n C (j := 3) (oDec_at oX11_shortest 12 rfl) rfl rfl ?_
        refine r_bipush C (oDec_at oX11_shortest 13 rfl) (v := k6) (by rw [qk6]; rfl) ?_
        refine r_icmp_gt C 44 (oDec_at oX11_shortest 14 rfl) (by decide) (fun cd1 => ?_) (fun cd1 => ?_)
        · skip
          refine r_iconst C (oDec_at oX11_shortest 25 rfl) (v := km1) (by rw [qkm1]; rfl) ?_
          exact r_iret C (oDec_at oX11_shortest 26 rfl) ⟨_, rfl, ⟨iv2, iv3, iv4⟩⟩
        · skip
          refine r_aload_n C (j := 0) (oDec_at oX11_shortest 15 rfl) rfl rfl ?_
          refine r_iload_n C (j := 1) (oDec_at oX11_shortest 16 rfl) rfl rfl ?_
          refine r_iload_n C (j := 3) (oDec_at oX11_shortest 17 rfl) rfl rfl ?_
          refine r_iload_n C (j := 2) (oDec_at oX11_shortest 18 rfl) rfl rfl ?_
          refine r_callVi C oCl11 rfl miX11_madeInSpare mlX11_312 (ct10_X11_madeInSpare l E (t) a1 x3 a2 (b) (R) (W) (me) iv1 iv2 iv3 iv4 iv5 iv6 (by omega) (by omega) (by omega)) (by decide) rfl rfl rfl (Nat.le_of_ble_eq_true rfl) (oDec_at oX11_shortest 19 rfl) (fun r3 u2 pu2 fu2 => ?_)
          try dsimp only at pu2
          obtain ⟨pu2_0, pu2_1, pu2_2, pu2_3, pu2_4, pu2_5⟩ := pu2
          have rr3 := n_rng r3
          refine r_if_eq C 38 (oDec_at oX11_shortest 20 rfl) (by decide) (fun cd4 => ?_) (fun cd4 => ?_)
          · skip
            clear pu2_4
            replace pu2_5 := pu2_5 (by omega)
            obtain ⟨v5, ev5⟩ : ∃ z : Int32, x3 + Int32.ofInt 1 = z := ⟨_, rfl⟩
            have hv5 : v5.toInt = x3.toInt + 1 := n_inc ev5 (by decide) (by omega) (by omega)
            refine r_iinc C (j := 3) (lv' := [(0, .ref (oad E 0)), (1, .int a1), (2, .int a2), (3, .int v5)]) v5 [1, 2, 3, 0] (oDec_at oX11_shortest 23 rfl) rfl ev5 (by decide) rfl ?_
            refine r_goto C (tgt := 20) (oDec_at oX11_shortest 24 rfl) (by decide) ?_
            exact (ih (n - 1) (by omega)) (u2) v5  (by omega) (owBC_fr fu2 rfl iv1) pu2_1 pu2_2 pu2_3 (owBO_fr fu2 rfl iv5) (owME_fr fu2 rfl iv6) (by omega) (by omega) (by omega)
          · skip
            replace pu2_4 := pu2_4 (by omega)
            clear pu2_5
            refine r_iload_n C (j := 3) (oDec_at oX11_shortest 21 rfl) rfl rfl ?_
            exact r_iret C (oDec_at oX11_shortest 22 rfl) ⟨_, rfl, ⟨pu2_1, pu2_2, pu2_3⟩⟩
  refine r_iload_n C (j := 1) (oDec_at oX11_shortest 0 rfl) rfl rfl ?_
  refine r_callSi C miX11_follows mlX11_305 (ct10_X11_follows l E (s) a1 ) (by decide) rfl rfl rfl (Nat.le_of_ble_eq_true rfl) (oDec_at oX11_shortest 1 rfl) (fun r7 u6 pu6 fu6 => ?_)
  try dsimp only at pu6
  obtain ⟨pu6_0, pu6_1, pu6_2⟩ := pu6
  have hxu6 := oFr_nil fu6; subst hxu6
  have rr7 := n_rng r7
  refine r_if_eq C 16 (oDec_at oX11_shortest 2 rfl) (by decide) (fun cd8 => ?_) (fun cd8 => ?_)
  · skip
    clear pu6_1
    refine r_iconst C (oDec_at oX11_shortest 8 rfl) (v := km1) (by rw [qkm1]; rfl) ?_
    exact r_iret C (oDec_at oX11_shortest 9 rfl) ⟨_, rfl, ⟨hp1, hp2, hp3⟩⟩
  · skip
    replace pu6_1 := pu6_1 (by omega)
    refine r_iload_n C (j := 2) (oDec_at oX11_shortest 3 rfl) rfl rfl ?_
    refine r_if_lt C 16 (oDec_at oX11_shortest 4 rfl) (by decide) (fun cd9 => ?_) (fun cd9 => ?_)
    · skip
      refine r_iconst C (oDec_at oX11_shortest 8 rfl) (v := km1) (by rw [qkm1]; rfl) ?_
      exact r_iret C (oDec_at oX11_shortest 9 rfl) ⟨_, rfl, ⟨hp1, hp2, hp3⟩⟩
    · skip
      refine r_iload_n C (j := 2) (oDec_at oX11_shortest 5 rfl) rfl rfl ?_
      refine r_iconst C (oDec_at oX11_shortest 6 rfl) (v := k4) (by rw [qk4]; rfl) ?_
      refine r_icmp_le C 18 (oDec_at oX11_shortest 7 rfl) (by decide) (fun cd10 => ?_) (fun cd10 => ?_)
      · skip
        refine r_iconst C (oDec_at oX11_shortest 10 rfl) (v := k2) (by rw [qk2]; rfl) ?_
        refine r_istore_n C (lv' := [(0, .ref (oad E 0)), (1, .int a1), (2, .int a2), (3, .int k2)]) [1, 2, 3, 0] (oDec_at oX11_shortest 11 rfl) rfl (by decide) rfl ?_
        exact (key (8 - k2.toInt).toNat) (s) k2  (by omega) hp0 hp1 hp2 hp3 hp4 hp5 (by omega) (by omega) (by omega)
      · skip
        refine r_iconst C (oDec_at oX11_shortest 8 rfl) (v := km1) (by rw [qkm1]; rfl) ?_
        exact r_iret C (oDec_at oX11_shortest 9 rfl) ⟨_, rfl, ⟨hp1, hp2, hp3⟩⟩
