set_option maxHeartbeats 4000000 in
set_option maxRecDepth 100000 in
theorem ct9_X12_makes (l : Launch) (E : oE) (s : oS) (a1 : Int32) (a2 : Int32) (a3 : Int32) (R : Int) (W : Nat → List Int) (me : Int) (hp0 : oBI s) (hp1 : 0 ≤ a1.toInt ∧ a1.toInt ≤ 4499) (hp2 : 1 ≤ a2.toInt ∧ a2.toInt ≤ 6) (hp3 : 0 ≤ a3.toInt ∧ a3.toInt ≤ 4) (hp4 : owBE R W s) (hp5 : owMM me s) (hp6 : owLO s) (hp7 : a1.toInt ≠ 84) (hp8 : 2 ≤ me ∧ me ≤ 12) : oMet l 7 yX12_makes cX12_makes 5 (some .boolean) [(12, 38), (12, 42), (12, 43), (12, 58), (12, 60), (12, 61), (12, 62), (12, 63), (12, 65), (12, 69), (75, 9999), (76, 9999), (77, 9999), (84, 9999), (85, 9999)] E s [.ref (oad E 71), .int a1, .int a2, .int a3] (oPi (fun r u => (0 ≤ r.toInt ∧ r.toInt ≤ 1) ∧ (oLT u) ∧ (1 ≤ (u.1 71 38).toInt → 1 ≤ (u.1 71 42).toInt) ∧ (r.toInt = 1 → owMd a2.toInt a3.toInt (owAg R W me a1.toInt a2.toInt) 1) ∧ (r.toInt = 0 → owMd a2.toInt a3.toInt (owAg R W me a1.toInt a2.toInt) 0))) := by
  refine oMet.of (lv := [(0, .ref (oad E 71)), (1, .int a1), (2, .int a2), (3, .int a3)]) (by decide +kernel) (Nat.le_of_ble_eq_true rfl) rfl (fun J C hT => ?_)
  have C : oC l 7 cX12_makes RX12 5 (some .boolean) [(12, 38), (12, 42), (12, 43), (12, 58), (12, 60), (12, 61), (12, 62), (12, 63), (12, 65), (12, 69), (75, 9999), (76, 9999), (77, 9999), (84, 9999), (85, 9999)] E s (oPi (fun r u => (0 ≤ r.toInt ∧ r.toInt ≤ 1) ∧ (oLT u) ∧ (1 ≤ (u.1 71 38).toInt → 1 ≤ (u.1 71 42).toInt) ∧ (r.toInt = 1 → owMd a2.toInt a3.toInt (owAg R W me a1.toInt a2.toInt) 1) ∧ (r.toInt = 0 → owMd a2.toInt a3.toInt (owAg R W me a1.toInt a2.toInt) 0))) J := C
  obtain ⟨km1, qkm1⟩ : ∃ z : Int32, z = (-1) := ⟨_, rfl⟩
  have ekm1 : km1.toInt = (-1) := by rw [qkm1]; rfl
  obtain ⟨k0, qk0⟩ : ∃ z : Int32, z = 0 := ⟨_, rfl⟩
  have ek0 : k0.toInt = 0 := by rw [qk0]; rfl
  obtain ⟨k1, qk1⟩ : ∃ z : Int32, z = 1 := ⟨_, rfl⟩
  have ek1 : k1.toInt = 1 := by rw [qk1]; rfl
  obtain ⟨k84, qk84⟩ : ∃ z : Int32, z = 84 := ⟨_, rfl⟩
  have ek84 : k84.toInt = 84 := by rw [qk84]; rfl
  have rg1 := n_rng a1
  have rg2 := n_rng a2
  have rg3 := n_rng a3
  have key : ∀ n : Nat, (∀ (t : oS) (x4 : Int32), (oBI t) → (oLT t) → (1 ≤ (t.1 71 38).toInt → 1 ≤ (t.1 71 42).toInt) → (x4.toInt = 1 → oDg t) → (0 ≤ (t.1 71 38).toInt ∧ (t.1 71 38).toInt ≤ 6) → (0 ≤ x4.toInt ∧ x4.toInt ≤ 1) → (0 ≤ a1.toInt ∧ a1.toInt ≤ 4499) → (0 ≤ a3.toInt ∧ a3.toInt ≤ 4) → (owBE R W t) → (owMM me t) → (owLO t) → (x4.toInt = 1 → owRA a2.toInt t) → (x4.toInt = 1 → owLr a2.toInt a3.toInt (owAg R W me a1.toInt a2.toInt) t) → (x4.toInt = 0 → owMd a2.toInt a3.toInt (owAg R W me a1.toInt a2.toInt) 0) → oMM x4 t ≤ (n : Int) → J t 8 [(0, .ref (oad E 71)), (1, .int a1), (3, .int a3), (4, .int x4)] []) := by
    intro n
    induction n using Nat.strongRecOn with
    | _ n ih =>
      skip
      · intro t x4  iv0 iv1 iv2 iv3 iv4 iv5 iv6 iv7 iv8 iv9 iv10 iv11 iv12 iv13 hmu
        have rx4 := n_rng x4
        refine r_iload C (j := 3) (oDec_at oX12_makes 5 rfl) rfl ?_
        refine r_if_eq C 36 (oDec_at oX12_makes 6 rfl) (by decide) (fun cd1 => ?_) (fun cd1 => ?_)
        · skip
          refine r_iconst C (oDec_at oX12_makes 20 rfl) (v := k0) (by rw [qk0]; rfl) ?_
          exact r_zret C (n_bool (by omega)) (oDec_at oX12_makes 21 rfl) ⟨_, rfl, ⟨by omega, iv1, by omega, fun h9 => by exfalso; omega, fun _ => iv13 (by omega)⟩⟩
        · skip
          obtain ⟨st9, hrl9, hdg9, hrn9⟩ := iv12 (by omega)
          have hq2 : oVe (oVl (t.1 99) (t.1 71 38).toNatClampNeg) (t) := (show oVl _ _ = _ from rfl)
          have hq3 : oDg (t) := iv3 (by omega)
          have hq4 : owRL (a2.toInt) st9 (t) := hrl9
          have hq5 : owRA (a2.toInt) (t) := iv11 (by omega)
          refine r_aload_n C (j := 0) (oDec_at oX12_makes 7 rfl) rfl rfl ?_
          refine r_bipush C (oDec_at oX12_makes 8 rfl) (v := k84) (by rw [qk84]; rfl) ?_
          refine r_iload_n C (j := 1) (oDec_at oX12_makes 9 rfl) rfl rfl ?_
          refine r_callVi C oCl12 rfl miX12_breachOf mlX12_473 (ct9_X12_breachOf l E (t) k84 a1 (a2.toInt) (st9) (R) (W) (me) (by omega) (by omega) iv0 iv8 iv9 iv10 hq4 (by omega) (by omega) (by omega) (by omega) (by omega)) (by decide) rfl rfl rfl (Nat.le_of_ble_eq_true rfl) (oDec_at oX12_makes 10 rfl) (fun r7 u6 pu6 fu6 => ?_)
          try dsimp only at pu6
          obtain ⟨pu6_0, pu6_1⟩ := pu6
          have rr7 := n_rng r7
          have hag9 := pu6_1
          refine r_iconst C (oDec_at oX12_makes 11 rfl) (v := km1) (by rw [qkm1]; rfl) ?_
          refine r_icmp_ne C 26 (oDec_at oX12_makes 12 rfl) (by decide) (fun cd8 => ?_) (fun cd8 => ?_)
          · skip
            refine r_aload_n C (j := 0) (oDec_at oX12_makes 15 rfl) rfl rfl ?_
            refine r_iload_n C (j := 2) (oDec_at oX12_makes 16 rfl) rfl rfl ?_
            have lk9 : ((u6).1 71 38).toInt = (t.1 71 38).toInt := congrArg Int32.toInt ((fu6 71 38 rfl).1)
            have lk10 : ((u6).1 71 42).toInt = (t.1 71 42).toInt := congrArg Int32.toInt ((fu6 71 42 rfl).1)
            have lk11 : ((u6).1 71 38).toInt = (t.1 71 38).toInt := congrArg Int32.toInt ((fu6 71 38 rfl).1)
            refine r_callVi C oCl12 rfl miX12_nextLine mlX12_551 (ct9_X12_nextLine l E (u6) a3 (oVl (t.1 99) (t.1 71 38).toNatClampNeg) (a2.toInt) (st9) (by omega) (oLT_fr fu6 rfl iv1) (by omega) (oDg_fr fu6 rfl hq3) (oVe_fr fu6 rfl hq2) (owRA_fr fu6 rfl hq5) (owRL_fr fu6 rfl hq4) (by omega) (by omega)) (by decide) rfl rfl rfl (Nat.le_of_ble_eq_true rfl) (oDec_at oX12_makes 17 rfl) (fun r13 u12 pu12 fu12 => ?_)
            try dsimp only at pu12
            try simp only [lk9, lk10, lk11] at pu12
            obtain ⟨pu12_0, pu12_1, pu12_2, pu12_3, pu12_4, pu12_5, pu12_6, pu12_7⟩ := pu12
            have lu14 : ((u12).1 71 38).toInt = (t.1 71 38).toInt := congrArg Int32.toInt (((fu12 71 38 rfl).1).trans ((fu6 71 38 rfl).1))
            have lu15 : ((u12).1 71 38).toInt = (t.1 71 38).toInt := congrArg Int32.toInt (((fu12 71 38 rfl).1).trans ((fu6 71 38 rfl).1))
            have rr13 := n_rng r13
            have hra9 := pu12_5
            have hnx9 := pu12_6
            have hls9 := pu12_7
            refine r_istore C (lv' := [(0, .ref (oad E 71)), (1, .int a1), (3, .int a3), (4, .int r13)]) [1, 2, 3, 0] (oDec_at oX12_makes 18 rfl) (by decide) rfl ?_
            refine r_goto C (tgt := 8) (oDec_at oX12_makes 19 rfl) (by decide) ?_
            have lk16 : ((u12).1 71 38).toInt = (t.1 71 38).toInt := congrArg Int32.toInt (((fu12 71 38 rfl).1).trans ((fu6 71 38 rfl).1))
            have lk17 : ((u12).1 71 38).toInt = (t.1 71 38).toInt := congrArg Int32.toInt (((fu12 71 38 rfl).1).trans ((fu6 71 38 rfl).1))
            have hjl := oMM_lt (x := x4) (y := r13) (s := t) (t := u12) (by omega) (iv3 (by omega)) (by omega) (by omega) pu12_4
            have hjn := oMM_f (x := r13) (s := u12) (by omega) (by omega) (fun h => (pu12_4 h).1)
            exact (ih (n - 1) (by omega)) (u12) r13  (oBI_fr fu12 rfl (oBI_fr fu6 rfl iv0)) pu12_1 (by omega) (by first | exact fun _ => (by assumption) | exact fun h => (pu12_4 h).1) (by omega) (by omega) (by omega) (by omega) (owBE_fr fu12 rfl (owBE_fr fu6 rfl iv8)) (owMM_fr fu12 rfl (owMM_fr fu6 rfl iv9)) (owLO_fr fu12 rfl (owLO_fr fu6 rfl iv10)) (by first | exact fun _ => hra9 | exact fun _ => hfa9) (by first | exact fun h9 => owLr_nx (hnx9 h9) (fun h8 => by have h7 := hag9.mpr h8; omega) hdg9 hrn9 (by omega) (by omega) | exact fun h9 => owLr_0 hfb9 (by have h8 := hfc9.mp h9; omega)) (by first | exact fun h9 => hrn9 0 (owRn_n (fun h8 => by have h7 := hag9.mpr h8; omega) (hls9 h9)) | exact fun h9 => owMd_0 (by have h8 := mt hfc9.mpr (by omega); omega)) (by omega)
          · skip
            refine r_iconst C (oDec_at oX12_makes 13 rfl) (v := k1) (by rw [qk1]; rfl) ?_
            have lk18 : ((u6).1 71 38).toInt = (t.1 71 38).toInt := congrArg Int32.toInt ((fu6 71 38 rfl).1)
            have lk19 : ((u6).1 71 42).toInt = (t.1 71 42).toInt := congrArg Int32.toInt ((fu6 71 42 rfl).1)
            exact r_zret C (n_bool (by omega)) (oDec_at oX12_makes 14 rfl) ⟨_, rfl, ⟨by omega, (oLT_fr fu6 rfl iv1), by omega, fun _ => hrn9 1 (owRn_y (hag9.mp (by omega))), fun h9 => by exfalso; omega⟩⟩
  refine r_aload_n C (j := 0) (oDec_at oX12_makes 0 rfl) rfl rfl ?_
  refine r_iload_n C (j := 2) (oDec_at oX12_makes 1 rfl) rfl rfl ?_
  refine r_iload_n C (j := 3) (oDec_at oX12_makes 2 rfl) rfl rfl ?_
  refine r_callVi C oCl12 rfl miX12_firstLine mlX12_548 (ct9_X12_firstLine l E (s) a2 a3 (by omega) (by omega)) (by decide) rfl rfl rfl (Nat.le_of_ble_eq_true rfl) (oDec_at oX12_makes 3 rfl) (fun r21 u20 pu20 fu20 => ?_)
  try dsimp only at pu20
  obtain ⟨pu20_0, pu20_1, pu20_2, pu20_3, pu20_4, pu20_5, pu20_6, pu20_7⟩ := pu20
  have rr21 := n_rng r21
  have hfa9 := pu20_5
  have hfb9 := pu20_6
  have hfc9 := pu20_7
  refine r_istore C (lv' := [(0, .ref (oad E 71)), (1, .int a1), (2, .int a2), (3, .int a3), (4, .int r21)]) [1, 2, 3, 4, 0] (oDec_at oX12_makes 4 rfl) (by decide) rfl ?_
  refine r_pick C [0, 1, 3, 4] rfl ?_
  exact (key (oMM r21 (u20)).toNat) (u20) r21  (oBI_fr fu20 rfl hp0) pu20_1 (by omega) (by first | exact fun _ => pu20_4 | exact fun h => (pu20_4 h).1) (by omega) (by omega) (by omega) (by omega) (owBE_fr fu20 rfl hp4) (owMM_fr fu20 rfl hp5) (owLO_fr fu20 rfl hp6) (by first | exact fun _ => hra9 | exact fun _ => hfa9) (by first | exact fun h9 => owLr_nx (hnx9 h9) (fun h8 => by have h7 := hag9.mpr h8; omega) hdg9 hrn9 (by omega) (by omega) | exact fun h9 => owLr_0 hfb9 (by have h8 := hfc9.mp h9; omega)) (by first | exact fun h9 => hrn9 0 (owRn_n (fun h8 => by have h7 := hag9.mpr h8; omega) (hls9 h9)) | exact fun h9 => owMd_0 (by have h8 := mt hfc9.mpr (by omega); omega)) (by omega)
set_option maxHeartbeats 4000000 in
set_option maxRecDepth 100000 in
theorem ct9_X12_isFollower (l : Launch) (E : oE) (s : oS) (a0 : Int32)   : oMet l 3 yX12_isFollower cX12_isFollower 1 (some .boolean) [] E s [.int a0] (oPi (fun r u => (0 ≤ r.toInt ∧ r.toInt ≤ 1) ∧ (r.toInt = 1 → (0 ≤ a0.toInt ∧ a0.toInt ≤ 4499)) ∧ (r.toInt = 1 ↔ (0 ≤ a0.toInt ∧ a0.toInt ≤ 4499 ∧ a0.toInt ≠ 84)))) := by
  refine oMet.of (lv := [(0, .int a0)]) (by decide +kernel) (Nat.le_of_ble_eq_true rfl) rfl (fun J C hT => ?_)
  have C : oC l 3 cX12_isFollower RX12 1 (some .boolean) [] E s (oPi (fun r u => (0 ≤ r.toInt ∧ r.toInt ≤ 1) ∧ (r.toInt = 1 → (0 ≤ a0.toInt ∧ a0.toInt ≤ 4499)) ∧ (r.toInt = 1 ↔ (0 ≤ a0.toInt ∧ a0.toInt ≤ 4499 ∧ a0.toInt ≠ 84)))) J := C
  obtain ⟨k0, qk0⟩ : ∃ z : Int32, z = 0 := ⟨_, rfl⟩
  have ek0 : k0.toInt = 0 := by rw [qk0]; rfl
  obtain ⟨k1, qk1⟩ : ∃ z : Int32, z = 1 := ⟨_, rfl⟩
  have ek1 : k1.toInt = 1 := by rw [qk1]; rfl
  obtain ⟨k84, qk84⟩ : ∃ z : Int32, z = 84 := ⟨_, rfl⟩
  have ek84 : k84.toInt = 84 := by rw [qk84]; rfl
  have rg0 := n_rng a0
  refine r_iload_n C (j := 0) (oDec_at oX12_isFollower 0 rfl) rfl rfl ?_
  refine r_callSi C miX12_isCode mlX12_423 (ct_X12_isCode l E (s) a0 ) (by decide) rfl rfl rfl (Nat.le_of_ble_eq_true rfl) (oDec_at oX12_isFollower 1 rfl) (fun r2 u1 pu1 fu1 => ?_)
  try dsimp only at pu1
  obtain ⟨pu1_0, pu1_1⟩ := pu1
  have hxu1 := oFr_nil fu1; subst hxu1
  have rr2 := n_rng r2
  refine r_if_eq C 17 (oDec_at oX12_isFollower 2 rfl) (by decide) (fun cd3 => ?_) (fun cd3 => ?_)
  · skip
    refine r_iconst C (oDec_at oX12_isFollower 8 rfl) (v := k0) (by rw [qk0]; rfl) ?_
    exact r_zret C (n_bool (by omega)) (oDec_at oX12_isFollower 9 rfl) ⟨_, rfl, ⟨by omega, by omega, by omega⟩⟩
  · skip
    refine r_iload_n C (j := 0) (oDec_at oX12_isFollower 3 rfl) rfl rfl ?_
    refine r_bipush C (oDec_at oX12_isFollower 4 rfl) (v := k84) (by rw [qk84]; rfl) ?_
    refine r_icmp_eq C 17 (oDec_at oX12_isFollower 5 rfl) (by decide) (fun cd4 => ?_) (fun cd4 => ?_)
    · skip
      refine r_iconst C (oDec_at oX12_isFollower 8 rfl) (v := k0) (by rw [qk0]; rfl) ?_
      exact r_zret C (n_bool (by omega)) (oDec_at oX12_isFollower 9 rfl) ⟨_, rfl, ⟨by omega, by omega, by omega⟩⟩
    · skip
      refine r_iconst C (oDec_at oX12_isFollower 6 rfl) (v := k1) (by rw [qk1]; rfl) ?_
      refine r_goto C (tgt := 18) (oDec_at oX12_isFollower 7 rfl) (by decide) ?_
      exact r_zret C (n_bool (by omega)) (oDec_at oX12_isFollower 9 rfl) ⟨_, rfl, ⟨by omega, by omega, by omega⟩⟩
