set_option maxHeartbeats 4000000 in
set_option maxRecDepth 100000 in
theorem ct3_X10_allows (l : Launch) (E : oE) (s : oS) (a1 : Int32)  (hp0 : 0 ≤ a1.toInt ∧ a1.toInt ≤ 11) : oMet l 1 yX10_allows cX10_allows 3 (some .boolean) [] E s [.ref (oad E 43), .int a1] (oPi (fun r u => (0 ≤ r.toInt ∧ r.toInt ≤ 1) ∧ (∀ K : Int, K = (s.1 43 2).toInt → r.toInt = oAl K a1.toInt))) := by
  refine oMet.of (lv := [(0, .ref (oad E 43)), (1, .int a1)]) (by decide +kernel) (Nat.le_of_ble_eq_true rfl) rfl (fun J C hT => ?_)
  have C : oC l 1 cX10_allows RX10 3 (some .boolean) [] E s (oPi (fun r u => (0 ≤ r.toInt ∧ r.toInt ≤ 1) ∧ (∀ K : Int, K = (s.1 43 2).toInt → r.toInt = oAl K a1.toInt))) J := C
  obtain ⟨km1, qkm1⟩ : ∃ z : Int32, z = (-1) := ⟨_, rfl⟩
  have ekm1 : km1.toInt = (-1) := by rw [qkm1]; rfl
  obtain ⟨k0, qk0⟩ : ∃ z : Int32, z = 0 := ⟨_, rfl⟩
  have ek0 : k0.toInt = 0 := by rw [qk0]; rfl
  obtain ⟨k1, qk1⟩ : ∃ z : Int32, z = 1 := ⟨_, rfl⟩
  have ek1 : k1.toInt = 1 := by rw [qk1]; rfl
  obtain ⟨k2, qk2⟩ : ∃ z : Int32, z = 2 := ⟨_, rfl⟩
  have ek2 : k2.toInt = 2 := by rw [qk2]; rfl
  obtain ⟨k3, qk3⟩ : ∃ z : Int32, z = 3 := ⟨_, rfl⟩
  have ek3 : k3.toInt = 3 := by rw [qk3]; rfl
  obtain ⟨k4, qk4⟩ : ∃ z : Int32, z = 4 := ⟨_, rfl⟩
  have ek4 : k4.toInt = 4 := by rw [qk4]; rfl
  obtain ⟨k6, qk6⟩ : ∃ z : Int32, z = 6 := ⟨_, rfl⟩
  have ek6 : k6.toInt = 6 := by rw [qk6]; rfl
  obtain ⟨k8, qk8⟩ : ∃ z : Int32, z = 8 := ⟨_, rfl⟩
  have ek8 : k8.toInt = 8 := by rw [qk8]; rfl
  have rg1 := n_rng a1
  refine r_iload_n C (j := 1) (oDec_at oX10_allows 0 rfl) rfl rfl ?_
  refine r_bipush C (oDec_at oX10_allows 1 rfl) (v := k6) (by rw [qk6]; rfl) ?_
  obtain ⟨v1, ev1⟩ : ∃ z : Int32, z = a1 / k6 := ⟨_, rfl⟩
  have hv1 := (n_divP (k := 6) ev1 ek6 (by decide)).1 (by omega)
  refine r_idiv C v1 (oDec_at oX10_allows 2 rfl) (n_ne0 (by omega)) ev1 ?_
  refine r_iconst C (oDec_at oX10_allows 3 rfl) (v := k2) (by rw [qk2]; rfl) ?_
  obtain ⟨v2, ev2⟩ : ∃ z : Int32, z = v1 - v1 / k2 * k2 := ⟨_, rfl⟩
  have hv2 := (n_rem (k := 2) ev2 ek2 (by decide)).1 (by omega)
  refine r_irem C v2 (oDec_at oX10_allows 4 rfl) (n_ne0 (by omega)) ev2 ?_
  refine r_iload_n C (j := 1) (oDec_at oX10_allows 5 rfl) rfl rfl ?_
  refine r_pc C 7 rfl ?_
  refine r_iconst C (oDec_at oX10_allows 6 rfl) (v := k3) (by rw [qk3]; rfl) ?_
  obtain ⟨v3, ev3⟩ : ∃ z : Int32, z = a1 / k3 := ⟨_, rfl⟩
  have hv3 := (n_divP (k := 3) ev3 ek3 (by decide)).1 (by omega)
  refine r_idiv C v3 (oDec_at oX10_allows 7 rfl) (n_ne0 (by omega)) ev3 ?_
  refine r_iconst C (oDec_at oX10_allows 8 rfl) (v := k2) (by rw [qk2]; rfl) ?_
  obtain ⟨v4, ev4⟩ : ∃ z : Int32, z = v3 - v3 / k2 * k2 := ⟨_, rfl⟩
  have hv4 := (n_rem (k := 2) ev4 ek2 (by decide)).1 (by omega)
  refine r_irem C v4 (oDec_at oX10_allows 9 rfl) (n_ne0 (by omega)) ev4 ?_
  refine r_iconst C (oDec_at oX10_allows 10 rfl) (v := k2) (by rw [qk2]; rfl) ?_
  obtain ⟨v5, ev5⟩ : ∃ z : Int32, z = v4 * k2 := ⟨_, rfl⟩
  have hv5 : v5.toInt = v4.toInt * 2 := n_mulK 2 ev5 ek2 (by omega) (by omega)
  refine r_imul C v5 (oDec_at oX10_allows 11 rfl) ev5 ?_
  refine r_pc C 13 rfl ?_
  obtain ⟨v6, ev6⟩ : ∃ z : Int32, z = v2 + v5 := ⟨_, rfl⟩
  have hv6 : v6.toInt = v2.toInt + v5.toInt := n_add ev6 (by omega) (by omega)
  refine r_iadd C v6 (oDec_at oX10_allows 12 rfl) ev6 ?_
  refine r_istore_n C (lv' := [(0, .ref (oad E 43)), (1, .int a1), (2, .int v6)]) [1, 2, 0] (oDec_at oX10_allows 13 rfl) rfl (by decide) rfl ?_
  refine r_iload_n C (j := 1) (oDec_at oX10_allows 14 rfl) rfl rfl ?_
  refine r_iconst C (oDec_at oX10_allows 15 rfl) (v := k3) (by rw [qk3]; rfl) ?_
  obtain ⟨v7, ev7⟩ : ∃ z : Int32, z = a1 - a1 / k3 * k3 := ⟨_, rfl⟩
  have hv7 := (n_rem (k := 3) ev7 ek3 (by decide)).1 (by omega)
  refine r_irem C v7 (oDec_at oX10_allows 16 rfl) (n_ne0 (by omega)) ev7 ?_
  refine r_if_eq C 37 (oDec_at oX10_allows 17 rfl) (by decide) (fun cd8 => ?_) (fun cd8 => ?_)
  · skip
    refine r_iload_n C (j := 2) (oDec_at oX10_allows 29 rfl) rfl rfl ?_
    refine r_aload_n C (j := 0) (oDec_at oX10_allows 30 rfl) rfl rfl ?_
    obtain ⟨v9, ev9⟩ : ∃ z : Int32, (s).1 43 2 = z := ⟨_, rfl⟩
    have gv9 : (s.1 43 2).toInt = v9.toInt := congrArg Int32.toInt (ev9)
    refine r_geti (k := 2) (lo := 0) (hi := 15) C v9 oCl10 rfl (by decide) flX10_47 rfl rfl (ev9) rfl rfl (oDec_at oX10_allows 31 rfl) (fun b10 b10h => ?_)
    refine r_iconst C (oDec_at oX10_allows 32 rfl) (v := km1) (by rw [qkm1]; rfl) ?_
    obtain ⟨v11, ev11⟩ : ∃ z : Int32, z = v9 ^^^ km1 := ⟨_, rfl⟩
    have rv11 := n_rng v11
    refine r_ixor C v11 (oDec_at oX10_allows 33 rfl) ev11 ?_
    obtain ⟨v12, ev12⟩ : ∃ z : Int32, z = v6 &&& v11 := ⟨_, rfl⟩
    have hv12 := n_and ev12
    have rv12 := n_rng v12
    have hfv12 := n_nand ev11 ekm1 ev12 ⟨by omega, by omega⟩ ⟨by omega, by omega⟩; clear hv12
    refine r_iand C v12 (oDec_at oX10_allows 34 rfl) ev12 ?_
    refine r_pc C 45 rfl ?_
    refine r_if_ne C 52 (oDec_at oX10_allows 35 rfl) (by decide) (fun cd13 => ?_) (fun cd13 => ?_)
    · skip
      refine r_iconst C (oDec_at oX10_allows 38 rfl) (v := k0) (by rw [qk0]; rfl) ?_
      exact r_zret C (n_bool (by omega)) (oDec_at oX10_allows 39 rfl) ⟨_, rfl, ⟨by omega, by intro K hK; rw [oAl_rk0 (n := v6.toInt) hp0 (by omega) (by omega)]; omega⟩⟩
    · skip
      refine r_iconst C (oDec_at oX10_allows 36 rfl) (v := k1) (by rw [qk1]; rfl) ?_
      refine r_goto C (tgt := 53) (oDec_at oX10_allows 37 rfl) (by decide) ?_
      exact r_zret C (n_bool (by omega)) (oDec_at oX10_allows 39 rfl) ⟨_, rfl, ⟨by omega, by intro K hK; rw [oAl_rk1 (n := v6.toInt) hp0 (by omega) (by omega)]; omega⟩⟩
  · skip
    refine r_iload_n C (j := 2) (oDec_at oX10_allows 18 rfl) rfl rfl ?_
    refine r_iload_n C (j := 1) (oDec_at oX10_allows 19 rfl) rfl rfl ?_
    refine r_iconst C (oDec_at oX10_allows 20 rfl) (v := k3) (by rw [qk3]; rfl) ?_
    obtain ⟨v14, ev14⟩ : ∃ z : Int32, z = a1 - a1 / k3 * k3 := ⟨_, rfl⟩
    have hv14 := (n_rem (k := 3) ev14 ek3 (by decide)).1 (by omega)
    refine r_irem C v14 (oDec_at oX10_allows 21 rfl) (n_ne0 (by omega)) ev14 ?_
    refine r_iconst C (oDec_at oX10_allows 22 rfl) (v := k1) (by rw [qk1]; rfl) ?_
    refine r_icmp_ne C 33 (oDec_at oX10_allows 23 rfl) (by decide) (fun cd15 => ?_) (fun cd15 => ?_)
    · skip
      refine r_bipush C (oDec_at oX10_allows 26 rfl) (v := k8) (by rw [qk8]; rfl) ?_
      obtain ⟨v16, ev16⟩ : ∃ z : Int32, z = v6 + k8 := ⟨_, rfl⟩
      have hv16 : v16.toInt = v6.toInt + k8.toInt := n_add ev16 (by omega) (by omega)
      refine r_iadd C v16 (oDec_at oX10_allows 27 rfl) ev16 ?_
      refine r_istore_n C (lv' := [(0, .ref (oad E 43)), (1, .int a1), (2, .int v16)]) [1, 2, 0] (oDec_at oX10_allows 28 rfl) rfl (by decide) rfl ?_
      refine r_iload_n C (j := 2) (oDec_at oX10_allows 29 rfl) rfl rfl ?_
      refine r_aload_n C (j := 0) (oDec_at oX10_allows 30 rfl) rfl rfl ?_
      obtain ⟨v17, ev17⟩ : ∃ z : Int32, (s).1 43 2 = z := ⟨_, rfl⟩
      have gv17 : (s.1 43 2).toInt = v17.toInt := congrArg Int32.toInt (ev17)
      refine r_geti (k := 2) (lo := 0) (hi := 15) C v17 oCl10 rfl (by decide) flX10_47 rfl rfl (ev17) rfl rfl (oDec_at oX10_allows 31 rfl) (fun b18 b18h => ?_)
      refine r_pc C 42 rfl ?_
      refine r_iconst C (oDec_at oX10_allows 32 rfl) (v := km1) (by rw [qkm1]; rfl) ?_
      obtain ⟨v19, ev19⟩ : ∃ z : Int32, z = v17 ^^^ km1 := ⟨_, rfl⟩
      have rv19 := n_rng v19
      refine r_ixor C v19 (oDec_at oX10_allows 33 rfl) ev19 ?_
      obtain ⟨v20, ev20⟩ : ∃ z : Int32, z = v16 &&& v19 := ⟨_, rfl⟩
      have hv20 := n_and ev20
      have rv20 := n_rng v20
      have hfv20 := n_nand ev19 ekm1 ev20 ⟨by omega, by omega⟩ ⟨by omega, by omega⟩; clear hv20
      refine r_iand C v20 (oDec_at oX10_allows 34 rfl) ev20 ?_
      refine r_if_ne C 52 (oDec_at oX10_allows 35 rfl) (by decide) (fun cd21 => ?_) (fun cd21 => ?_)
      · skip
        refine r_iconst C (oDec_at oX10_allows 38 rfl) (v := k0) (by rw [qk0]; rfl) ?_
        exact r_zret C (n_bool (by omega)) (oDec_at oX10_allows 39 rfl) ⟨_, rfl, ⟨by omega, by intro K hK; rw [oAl_rk0 (n := v16.toInt) hp0 (by omega) (by omega)]; omega⟩⟩
      · skip
        refine r_iconst C (oDec_at oX10_allows 36 rfl) (v := k1) (by rw [qk1]; rfl) ?_
        refine r_goto C (tgt := 53) (oDec_at oX10_allows 37 rfl) (by decide) ?_
        exact r_zret C (n_bool (by omega)) (oDec_at oX10_allows 39 rfl) ⟨_, rfl, ⟨by omega, by intro K hK; rw [oAl_rk1 (n := v16.toInt) hp0 (by omega) (by omega)]; omega⟩⟩
    · skip
      refine r_iconst C (oDec_at oX10_allows 24 rfl) (v := k4) (by rw [qk4]; rfl) ?_
      refine r_goto C (tgt := 35) (oDec_at oX10_allows 25 rfl) (by decide) ?_
      obtain ⟨v22, ev22⟩ : ∃ z : Int32, z = v6 + k4 := ⟨_, rfl⟩
      have hv22 : v22.toInt = v6.toInt + k4.toInt := n_add ev22 (by omega) (by omega)
      refine r_iadd C v22 (oDec_at oX10_allows 27 rfl) ev22 ?_
      refine r_istore_n C (lv' := [(0, .ref (oad E 43)), (1, .int a1), (2, .int v22)]) [1, 2, 0] (oDec_at oX10_allows 28 rfl) rfl (by decide) rfl ?_
      refine r_iload_n C (j := 2) (oDec_at oX10_allows 29 rfl) rfl rfl ?_
      refine r_aload_n C (j := 0) (oDec_at oX10_allows 30 rfl) rfl rfl ?_
      obtain ⟨v23, ev23⟩ : ∃ z : Int32, (s).1 43 2 = z := ⟨_, rfl⟩
      have gv23 : (s.1 43 2).toInt = v23.toInt := congrArg Int32.toInt (ev23)
      refine r_geti (k := 2) (lo := 0) (hi := 15) C v23 oCl10 rfl (by decide) flX10_47 rfl rfl (ev23) rfl rfl (oDec_at oX10_allows 31 rfl) (fun b24 b24h => ?_)
      refine r_pc C 42 rfl ?_
      refine r_iconst C (oDec_at oX10_allows 32 rfl) (v := km1) (by rw [qkm1]; rfl) ?_
      obtain ⟨v25, ev25⟩ : ∃ z : Int32, z = v23 ^^^ km1 := ⟨_, rfl⟩
      have rv25 := n_rng v25
      refine r_ixor C v25 (oDec_at oX10_allows 33 rfl) ev25 ?_
      obtain ⟨v26, ev26⟩ : ∃ z : Int32, z = v22 &&& v25 := ⟨_, rfl⟩
      have hv26 := n_and ev26
      have rv26 := n_rng v26
      have hfv26 := n_nand ev25 ekm1 ev26 ⟨by omega, by omega⟩ ⟨by omega, by omega⟩; clear hv26
      refine r_iand C v26 (oDec_at oX10_allows 34 rfl) ev26 ?_
      refine r_if_ne C 52 (oDec_at oX10_allows 35 rfl) (by decide) (fun cd27 => ?_) (fun cd27 => ?_)
      · skip
        refine r_iconst C (oDec_at oX10_allows 38 rfl) (v := k0) (by rw [qk0]; rfl) ?_
        exact r_zret C (n_bool (by omega)) (oDec_at oX10_allows 39 rfl) ⟨_, rfl, ⟨by omega, by intro K hK; rw [oAl_rk0 (n := v22.toInt) hp0 (by omega) (by omega)]; omega⟩⟩
      · skip
        refine r_iconst C (oDec_at oX10_allows 36 rfl) (v := k1) (by rw [qk1]; rfl) ?_
        refine r_goto C (tgt := 53) (oDec_at oX10_allows 37 rfl) (by decide) ?_
        exact r_zret C (n_bool (by omega)) (oDec_at oX10_allows 39 rfl) ⟨_, rfl, ⟨by omega, by intro K hK; rw [oAl_rk1 (n := v22.toInt) hp0 (by omega) (by omega)]; omega⟩⟩
set_option maxHeartbeats 4000000 in
set_option maxRecDepth 100000 in
theorem ct3_X12_isBound (l : Launch) (E : oE) (s : oS) (a1 : Int32)  (hp0 : 0 ≤ a1.toInt ∧ a1.toInt ≤ 4499) : oMet l 2 yX12_isBound cX12_isBound 2 (some .boolean) [] E s [.ref (oad E 71), .int a1] (oPi (fun r u => (0 ≤ r.toInt ∧ r.toInt ≤ 1) ∧ (∀ D S K : Int, D = (s.1 71 66).toInt → S = (s.1 71 67).toInt → K = (s.1 71 68).toInt → r.toInt = oBd D S K a1.toInt))) := by
  refine oMet.of (lv := [(0, .ref (oad E 71)), (1, .int a1)]) (by decide +kernel) (Nat.le_of_ble_eq_true rfl) rfl (fun J C hT => ?_)
  have C : oC l 2 cX12_isBound RX12 2 (some .boolean) [] E s (oPi (fun r u => (0 ≤ r.toInt ∧ r.toInt ≤ 1) ∧ (∀ D S K : Int, D = (s.1 71 66).toInt → S = (s.1 71 67).toInt → K = (s.1 71 68).toInt → r.toInt = oBd D S K a1.toInt))) J := C
  obtain ⟨k0, qk0⟩ : ∃ z : Int32, z = 0 := ⟨_, rfl⟩
  have ek0 : k0.toInt = 0 := by rw [qk0]; rfl
  obtain ⟨k1, qk1⟩ : ∃ z : Int32, z = 1 := ⟨_, rfl⟩
  have ek1 : k1.toInt = 1 := by rw [qk1]; rfl
  obtain ⟨k2, qk2⟩ : ∃ z : Int32, z = 2 := ⟨_, rfl⟩
  have ek2 : k2.toInt = 2 := by rw [qk2]; rfl
  obtain ⟨k4, qk4⟩ : ∃ z : Int32, z = 4 := ⟨_, rfl⟩
  have ek4 : k4.toInt = 4 := by rw [qk4]; rfl
  obtain ⟨k8, qk8⟩ : ∃ z : Int32, z = 8 := ⟨_, rfl⟩
  have ek8 : k8.toInt = 8 := by rw [qk8]; rfl
  obtain ⟨k84, qk84⟩ : ∃ z : Int32, z = 84 := ⟨_, rfl⟩
  have ek84 : k84.toInt = 84 := by rw [qk84]; rfl
  have rg1 := n_rng a1
  refine r_iload_n C (j := 1) (oDec_at oX12_isBound 0 rfl) rfl rfl ?_
  refine r_bipush C (oDec_at oX12_isBound 1 rfl) (v := k84) (by rw [qk84]; rfl) ?_
  refine r_icmp_eq C 39 (oDec_at oX12_isBound 2 rfl) (by decide) (fun cd1 => ?_) (fun cd1 => ?_)
  · skip
    refine r_iconst C (oDec_at oX12_isBound 20 rfl) (v := k0) (by rw [qk0]; rfl) ?_
    exact r_zret C (n_bool (by omega)) (oDec_at oX12_isBound 21 rfl) ⟨_, rfl, ⟨by omega, by intro D S K h1 h2 h3; rw [oBd_n1 (by omega)]; omega⟩⟩
  · skip
    refine r_iload_n C (j := 1) (oDec_at oX12_isBound 3 rfl) rfl rfl ?_
    refine r_callSi C miX12_delayOf mlX12_389 (ct_X12_delayOf l E (s) a1 (by omega)) (by decide) rfl rfl rfl (Nat.le_of_ble_eq_true rfl) (oDec_at oX12_isBound 4 rfl) (fun r3 u2 pu2 fu2 => ?_)
    try dsimp only at pu2
    have hxu2 := oFr_nil fu2; subst hxu2
    have rr3 := n_rng r3
    refine r_aload_n C (j := 0) (oDec_at oX12_isBound 5 rfl) rfl rfl ?_
    obtain ⟨v4, ev4⟩ : ∃ z : Int32, (s).1 71 66 = z := ⟨_, rfl⟩
    have gv4 : (s.1 71 66).toInt = v4.toInt := congrArg Int32.toInt (ev4)
    refine r_geti (k := 66) (lo := 0) (hi := 24) C v4 oCl12 rfl (by decide) flX12_139 rfl rfl (ev4) rfl rfl (oDec_at oX12_isBound 6 rfl) (fun b5 b5h => ?_)
    refine r_icmp_gt C 39 (oDec_at oX12_isBound 7 rfl) (by decide) (fun cd6 => ?_) (fun cd6 => ?_)
    · skip
      refine r_iconst C (oDec_at oX12_isBound 20 rfl) (v := k0) (by rw [qk0]; rfl) ?_
      exact r_zret C (n_bool (by omega)) (oDec_at oX12_isBound 21 rfl) ⟨_, rfl, ⟨by omega, by intro D S K h1 h2 h3; rw [oBd_n1 (by omega)]; omega⟩⟩
    · skip
      refine r_iload_n C (j := 1) (oDec_at oX12_isBound 8 rfl) rfl rfl ?_
      refine r_callSi C miX12_highOf mlX12_402 (ct_X12_highOf l E (s) a1 (by omega)) (by decide) rfl rfl rfl (Nat.le_of_ble_eq_true rfl) (oDec_at oX12_isBound 9 rfl) (fun r8 u7 pu7 fu7 => ?_)
      try dsimp only at pu7
      obtain ⟨pu7_0, pu7_1⟩ := pu7
      have hxu7 := oFr_nil fu7; subst hxu7
      have rr8 := n_rng r8
      obtain ⟨v9, ev9⟩ : ∃ z : Int64, r8.toInt64 = z := ⟨_, rfl⟩
      have hv9 : v9.toInt = r8.toInt := n_i2l ev9
      refine r_i2l C v9 (oDec_at oX12_isBound 10 rfl) ev9 ?_
      refine r_aload_n C (j := 0) (oDec_at oX12_isBound 11 rfl) rfl rfl ?_
      obtain ⟨v10, ev10⟩ : ∃ z : Int32, (s).1 71 67 = z := ⟨_, rfl⟩
      have gv10 : (s.1 71 67).toInt = v10.toInt := congrArg Int32.toInt (ev10)
      refine r_geti (k := 67) (lo := 0) (hi := 7) C v10 oCl12 rfl (by decide) flX12_142 rfl rfl (ev10) rfl rfl (oDec_at oX12_isBound 12 rfl) (fun b11 b11h => ?_)
      obtain ⟨v12, ev12⟩ : ∃ z : Int32, z = -v10 := ⟨_, rfl⟩
      have hv12 : v12.toInt = -v10.toInt := n_neg ev12 (by omega)
      refine r_ineg C v12 (oDec_at oX12_isBound 13 rfl) ev12 ?_
      refine r_pc C 27 rfl ?_
      obtain ⟨v13, ev13⟩ : ∃ z : Int64, v12.toInt64 = z := ⟨_, rfl⟩
      have hv13 : v13.toInt = v12.toInt := n_i2l ev13
      refine r_i2l C v13 (oDec_at oX12_isBound 14 rfl) ev13 ?_
      refine r_aload_n C (j := 0) (oDec_at oX12_isBound 15 rfl) rfl rfl ?_
      refine r_geti (k := 67) (lo := 0) (hi := 7) C v10 oCl12 rfl (by decide) flX12_142 rfl rfl (ev10) rfl rfl (oDec_at oX12_isBound 16 rfl) (fun _ _ => ?_)
      obtain ⟨v14, ev14⟩ : ∃ z : Int64, v10.toInt64 = z := ⟨_, rfl⟩
      have hv14 : v14.toInt = v10.toInt := n_i2l ev14
      refine r_i2l C v14 (oDec_at oX12_isBound 17 rfl) ev14 ?_
      refine r_callSi C miX12_isIn mlX12_216 (ct_X12_isIn l E (s) v9 v13 v14 ) (by decide) rfl rfl rfl (Nat.le_of_ble_eq_true rfl) (oDec_at oX12_isBound 18 rfl) (fun r16 u15 pu15 fu15 => ?_)
      try dsimp only at pu15
      obtain ⟨pu15_0, pu15_1⟩ := pu15
      have hxu15 := oFr_nil fu15; subst hxu15
      have rr16 := n_rng r16
      refine r_if_ne C 41 (oDec_at oX12_isBound 19 rfl) (by decide) (fun cd17 => ?_) (fun cd17 => ?_)
      · skip
        refine r_iload_n C (j := 1) (oDec_at oX12_isBound 22 rfl) rfl rfl ?_
        refine r_callSi C miX12_mirrorOf mlX12_399 (ct_X12_mirrorOf l E (s) a1 (by omega)) (by decide) rfl rfl rfl (Nat.le_of_ble_eq_true rfl) (oDec_at oX12_isBound 23 rfl) (fun r19 u18 pu18 fu18 => ?_)
        try dsimp only at pu18
        have hxu18 := oFr_nil fu18; subst hxu18
        have rr19 := n_rng r19
        refine r_iconst C (oDec_at oX12_isBound 24 rfl) (v := k1) (by rw [qk1]; rfl) ?_
        refine r_icmp_ne C 58 (oDec_at oX12_isBound 25 rfl) (by decide) (fun cd20 => ?_) (fun cd20 => ?_)
        · skip
          refine r_iload_n C (j := 1) (oDec_at oX12_isBound 31 rfl) rfl rfl ?_
          refine r_callSi C miX12_backOf mlX12_395 (ct_X12_backOf l E (s) a1 (by omega)) (by decide) rfl rfl rfl (Nat.le_of_ble_eq_true rfl) (oDec_at oX12_isBound 32 rfl) (fun r22 u21 pu21 fu21 => ?_)
          try dsimp only at pu21
          have hxu21 := oFr_nil fu21; subst hxu21
          have rr22 := n_rng r22
          refine r_iconst C (oDec_at oX12_isBound 33 rfl) (v := k1) (by rw [qk1]; rfl) ?_
          refine r_icmp_ne C 79 (oDec_at oX12_isBound 34 rfl) (by decide) (fun cd23 => ?_) (fun cd23 => ?_)
          · skip
            refine r_iload_n C (j := 1) (oDec_at oX12_isBound 44 rfl) rfl rfl ?_
            refine r_callSi C miX12_paceOf mlX12_385 (ct_X12_paceOf l E (s) a1 (by omega)) (by decide) rfl rfl rfl (Nat.le_of_ble_eq_true rfl) (oDec_at oX12_isBound 45 rfl) (fun r25 u24 pu24 fu24 => ?_)
            try dsimp only at pu24
            have hxu24 := oFr_nil fu24; subst hxu24
            have rr25 := n_rng r25
            refine r_if_eq C 111 (oDec_at oX12_isBound 46 rfl) (by decide) (fun cd26 => ?_) (fun cd26 => ?_)
            · skip
              refine r_iconst C (oDec_at oX12_isBound 61 rfl) (v := k1) (by rw [qk1]; rfl) ?_
              refine r_goto C (tgt := 116) (oDec_at oX12_isBound 62 rfl) (by decide) ?_
              exact r_zret C (n_bool (by omega)) (oDec_at oX12_isBound 64 rfl) ⟨_, rfl, ⟨by omega, by intro D S K h1 h2 h3; rw [oBd_rk1 (by omega) (by omega) (by omega) (by omega) (by omega) (by omega) (by omega) (by omega)]; omega⟩⟩
            · skip
              refine r_aload_n C (j := 0) (oDec_at oX12_isBound 47 rfl) rfl rfl ?_
              obtain ⟨v27, ev27⟩ : ∃ z : Int32, (s).1 71 68 = z := ⟨_, rfl⟩
              have gv27 : (s.1 71 68).toInt = v27.toInt := congrArg Int32.toInt (ev27)
              refine r_geti (k := 68) (lo := 0) (hi := 15) C v27 oCl12 rfl (by decide) flX12_378 rfl rfl (ev27) rfl rfl (oDec_at oX12_isBound 48 rfl) (fun b28 b28h => ?_)
              refine r_iload_n C (j := 1) (oDec_at oX12_isBound 49 rfl) rfl rfl ?_
              refine r_callSi C miX12_paceOf mlX12_385 (ct_X12_paceOf l E (s) a1 (by omega)) (by decide) rfl rfl rfl (Nat.le_of_ble_eq_true rfl) (oDec_at oX12_isBound 50 rfl) (fun r30 u29 pu29 fu29 => ?_)
              try dsimp only at pu29
              have hxu29 := oFr_nil fu29; subst hxu29
              have rr30 := n_rng r30
              refine r_iconst C (oDec_at oX12_isBound 51 rfl) (v := k1) (by rw [qk1]; rfl) ?_
              refine r_icmp_ne C 102 (oDec_at oX12_isBound 52 rfl) (by decide) (fun cd31 => ?_) (fun cd31 => ?_)
              · skip
                refine r_bipush C (oDec_at oX12_isBound 55 rfl) (v := k8) (by rw [qk8]; rfl) ?_
                obtain ⟨v32, ev32⟩ : ∃ z : Int32, z = v27 / k8 := ⟨_, rfl⟩
                have hv32 := (n_divP (k := 8) ev32 ek8 (by decide)).1 (by omega)
                refine r_idiv C v32 (oDec_at oX12_isBound 56 rfl) (n_ne0 (by omega)) ev32 ?_
                refine r_iconst C (oDec_at oX12_isBound 57 rfl) (v := k2) (by rw [qk2]; rfl) ?_
                obtain ⟨v33, ev33⟩ : ∃ z : Int32, z = v32 - v32 / k2 * k2 := ⟨_, rfl⟩
                have hv33 := (n_rem (k := 2) ev33 ek2 (by decide)).1 (by omega)
                refine r_irem C v33 (oDec_at oX12_isBound 58 rfl) (n_ne0 (by omega)) ev33 ?_
                refine r_iconst C (oDec_at oX12_isBound 59 rfl) (v := k1) (by rw [qk1]; rfl) ?_
                refine r_icmp_ne C 115 (oDec_at oX12_isBound 60 rfl) (by decide) (fun cd34 => ?_) (fun cd34 => ?_)
                · skip
                  refine r_iconst C (oDec_at oX12_isBound 63 rfl) (v := k0) (by rw [qk0]; rfl) ?_
                  exact r_zret C (n_bool (by omega)) (oDec_at oX12_isBound 64 rfl) ⟨_, rfl, ⟨by omega, by intro D S K h1 h2 h3; rw [oBd_rk0 (by omega) (by omega) (by omega) (by omega) (by omega) (by omega) (by omega) (by omega)]; omega⟩⟩
                · skip
                  refine r_iconst C (oDec_at oX12_isBound 61 rfl) (v := k1) (by rw [qk1]; rfl) ?_
                  refine r_goto C (tgt := 116) (oDec_at oX12_isBound 62 rfl) (by decide) ?_
                  exact r_zret C (n_bool (by omega)) (oDec_at oX12_isBound 64 rfl) ⟨_, rfl, ⟨by omega, by intro D S K h1 h2 h3; rw [oBd_rk1 (by omega) (by omega) (by omega) (by omega) (by omega) (by omega) (by omega) (by omega)]; omega⟩⟩
              · skip
                refine r_iconst C (oDec_at oX12_isBound 53 rfl) (v := k4) (by rw [qk4]; rfl) ?_
                refine r_goto C (tgt := 104) (oDec_at oX12_isBound 54 rfl) (by decide) ?_
                obtain ⟨v35, ev35⟩ : ∃ z : Int32, z = v27 / k4 := ⟨_, rfl⟩
                have hv35 := (n_divP (k := 4) ev35 ek4 (by decide)).1 (by omega)
                refine r_idiv C v35 (oDec_at oX12_isBound 56 rfl) (n_ne0 (by omega)) ev35 ?_
                refine r_iconst C (oDec_at oX12_isBound 57 rfl) (v := k2) (by rw [qk2]; rfl) ?_
                obtain ⟨v36, ev36⟩ : ∃ z : Int32, z = v35 - v35 / k2 * k2 := ⟨_, rfl⟩
                have hv36 := (n_rem (k := 2) ev36 ek2 (by decide)).1 (by omega)
                refine r_irem C v36 (oDec_at oX12_isBound 58 rfl) (n_ne0 (by omega)) ev36 ?_
                refine r_iconst C (oDec_at oX12_isBound 59 rfl) (v := k1) (by rw [qk1]; rfl) ?_
                refine r_icmp_ne C 115 (oDec_at oX12_isBound 60 rfl) (by decide) (fun cd37 => ?_) (fun cd37 => ?_)
                · skip
                  refine r_iconst C (oDec_at oX12_isBound 63 rfl) (v := k0) (by rw [qk0]; rfl) ?_
                  exact r_zret C (n_bool (by omega)) (oDec_at oX12_isBound 64 rfl) ⟨_, rfl, ⟨by omega, by intro D S K h1 h2 h3; rw [oBd_rk0 (by omega) (by omega) (by omega) (by omega) (by omega) (by omega) (by omega) (by omega)]; omega⟩⟩
                · skip
                  refine r_iconst C (oDec_at oX12_isBound 61 rfl) (v := k1) (by rw [qk1]; rfl) ?_
                  refine r_goto C (tgt := 116) (oDec_at oX12_isBound 62 rfl) (by decide) ?_
                  exact r_zret C (n_bool (by omega)) (oDec_at oX12_isBound 64 rfl) ⟨_, rfl, ⟨by omega, by intro D S K h1 h2 h3; rw [oBd_rk1 (by omega) (by omega) (by omega) (by omega) (by omega) (by omega) (by omega) (by omega)]; omega⟩⟩
          · skip
            refine r_aload_n C (j := 0) (oDec_at oX12_isBound 35 rfl) rfl rfl ?_
            obtain ⟨v38, ev38⟩ : ∃ z : Int32, (s).1 71 68 = z := ⟨_, rfl⟩
            have gv38 : (s.1 71 68).toInt = v38.toInt := congrArg Int32.toInt (ev38)
            refine r_geti (k := 68) (lo := 0) (hi := 15) C v38 oCl12 rfl (by decide) flX12_378 rfl rfl (ev38) rfl rfl (oDec_at oX12_isBound 36 rfl) (fun b39 b39h => ?_)
            refine r_iconst C (oDec_at oX12_isBound 37 rfl) (v := k2) (by rw [qk2]; rfl) ?_
            obtain ⟨v40, ev40⟩ : ∃ z : Int32, z = v38 / k2 := ⟨_, rfl⟩
            have hv40 := (n_divP (k := 2) ev40 ek2 (by decide)).1 (by omega)
            refine r_idiv C v40 (oDec_at oX12_isBound 38 rfl) (n_ne0 (by omega)) ev40 ?_
            refine r_iconst C (oDec_at oX12_isBound 39 rfl) (v := k2) (by rw [qk2]; rfl) ?_
            obtain ⟨v41, ev41⟩ : ∃ z : Int32, z = v40 - v40 / k2 * k2 := ⟨_, rfl⟩
            have hv41 := (n_rem (k := 2) ev41 ek2 (by decide)).1 (by omega)
            refine r_irem C v41 (oDec_at oX12_isBound 40 rfl) (n_ne0 (by omega)) ev41 ?_
            refine r_pc C 74 rfl ?_
            refine r_if_ne C 79 (oDec_at oX12_isBound 41 rfl) (by decide) (fun cd42 => ?_) (fun cd42 => ?_)
            · skip
              refine r_iload_n C (j := 1) (oDec_at oX12_isBound 44 rfl) rfl rfl ?_
              refine r_callSi C miX12_paceOf mlX12_385 (ct_X12_paceOf l E (s) a1 (by omega)) (by decide) rfl rfl rfl (Nat.le_of_ble_eq_true rfl) (oDec_at oX12_isBound 45 rfl) (fun r44 u43 pu43 fu43 => ?_)
              try dsimp only at pu43
              have hxu43 := oFr_nil fu43; subst hxu43
              have rr44 := n_rng r44
              refine r_if_eq C 111 (oDec_at oX12_isBound 46 rfl) (by decide) (fun cd45 => ?_) (fun cd45 => ?_)
              · skip
                refine r_iconst C (oDec_at oX12_isBound 61 rfl) (v := k1) (by rw [qk1]; rfl) ?_
                refine r_goto C (tgt := 116) (oDec_at oX12_isBound 62 rfl) (by decide) ?_
                exact r_zret C (n_bool (by omega)) (oDec_at oX12_isBound 64 rfl) ⟨_, rfl, ⟨by omega, by intro D S K h1 h2 h3; rw [oBd_rk1 (by omega) (by omega) (by omega) (by omega) (by omega) (by omega) (by omega) (by omega)]; omega⟩⟩
              · skip
                refine r_aload_n C (j := 0) (oDec_at oX12_isBound 47 rfl) rfl rfl ?_
                refine r_geti (k := 68) (lo := 0) (hi := 15) C v38 oCl12 rfl (by decide) flX12_378 rfl rfl (ev38) rfl rfl (oDec_at oX12_isBound 48 rfl) (fun _ _ => ?_)
                refine r_iload_n C (j := 1) (oDec_at oX12_isBound 49 rfl) rfl rfl ?_
                refine r_callSi C miX12_paceOf mlX12_385 (ct_X12_paceOf l E (s) a1 (by omega)) (by decide) rfl rfl rfl (Nat.le_of_ble_eq_true rfl) (oDec_at oX12_isBound 50 rfl) (fun r47 u46 pu46 fu46 => ?_)
                try dsimp only at pu46
                have hxu46 := oFr_nil fu46; subst hxu46
                have rr47 := n_rng r47
                refine r_iconst C (oDec_at oX12_isBound 51 rfl) (v := k1) (by rw [qk1]; rfl) ?_
                refine r_icmp_ne C 102 (oDec_at oX12_isBound 52 rfl) (by decide) (fun cd48 => ?_) (fun cd48 => ?_)
                · skip
                  refine r_bipush C (oDec_at oX12_isBound 55 rfl) (v := k8) (by rw [qk8]; rfl) ?_
                  obtain ⟨v49, ev49⟩ : ∃ z : Int32, z = v38 / k8 := ⟨_, rfl⟩
                  have hv49 := (n_divP (k := 8) ev49 ek8 (by decide)).1 (by omega)
                  refine r_idiv C v49 (oDec_at oX12_isBound 56 rfl) (n_ne0 (by omega)) ev49 ?_
                  refine r_iconst C (oDec_at oX12_isBound 57 rfl) (v := k2) (by rw [qk2]; rfl) ?_
                  obtain ⟨v50, ev50⟩ : ∃ z : Int32, z = v49 - v49 / k2 * k2 := ⟨_, rfl⟩
                  have hv50 := (n_rem (k := 2) ev50 ek2 (by decide)).1 (by omega)
                  refine r_irem C v50 (oDec_at oX12_isBound 58 rfl) (n_ne0 (by omega)) ev50 ?_
                  refine r_iconst C (oDec_at oX12_isBound 59 rfl) (v := k1) (by rw [qk1]; rfl) ?_
                  refine r_icmp_ne C 115 (oDec_at oX12_isBound 60 rfl) (by decide) (fun cd51 => ?_) (fun cd51 => ?_)
                  · skip
                    refine r_iconst C (oDec_at oX12_isBound 63 rfl) (v := k0) (by rw [qk0]; rfl) ?_
                    exact r_zret C (n_bool (by omega)) (oDec_at oX12_isBound 64 rfl) ⟨_, rfl, ⟨by omega, by intro D S K h1 h2 h3; rw [oBd_rk0 (by omega) (by omega) (by omega) (by omega) (by omega) (by omega) (by omega) (by omega)]; omega⟩⟩
                  · skip
                    refine r_iconst C (oDec_at oX12_isBound 61 rfl) (v := k1) (by rw [qk1]; rfl) ?_
                    refine r_goto C (tgt := 116) (oDec_at oX12_isBound 62 rfl) (by decide) ?_
                    exact r_zret C (n_bool (by omega)) (oDec_at oX12_isBound 64 rfl) ⟨_, rfl, ⟨by omega, by intro D S K h1 h2 h3; rw [oBd_rk1 (by omega) (by omega) (by omega) (by omega) (by omega) (by omega) (by omega) (by omega)]; omega⟩⟩
                · skip
                  refine r_iconst C (oDec_at oX12_isBound 53 rfl) (v := k4) (by rw [qk4]; rfl) ?_
                  refine r_goto C (tgt := 104) (oDec_at oX12_isBound 54 rfl) (by decide) ?_
                  obtain ⟨v52, ev52⟩ : ∃ z : Int32, z = v38 / k4 := ⟨_, rfl⟩
                  have hv52 := (n_divP (k := 4) ev52 ek4 (by decide)).1 (by omega)
                  refine r_idiv C v52 (oDec_at oX12_isBound 56 rfl) (n_ne0 (by omega)) ev52 ?_
                  refine r_iconst C (oDec_at oX12_isBound 57 rfl) (v := k2) (by rw [qk2]; rfl) ?_
                  obtain ⟨v53, ev53⟩ : ∃ z : Int32, z = v52 - v52 / k2 * k2 := ⟨_, rfl⟩
                  have hv53 := (n_rem (k := 2) ev53 ek2 (by decide)).1 (by omega)
                  refine r_irem C v53 (oDec_at oX12_isBound 58 rfl) (n_ne0 (by omega)) ev53 ?_
                  refine r_iconst C (oDec_at oX12_isBound 59 rfl) (v := k1) (by rw [qk1]; rfl) ?_
                  refine r_icmp_ne C 115 (oDec_at oX12_isBound 60 rfl) (by decide) (fun cd54 => ?_) (fun cd54 => ?_)
                  · skip
                    refine r_iconst C (oDec_at oX12_isBound 63 rfl) (v := k0) (by rw [qk0]; rfl) ?_
                    exact r_zret C (n_bool (by omega)) (oDec_at oX12_isBound 64 rfl) ⟨_, rfl, ⟨by omega, by intro D S K h1 h2 h3; rw [oBd_rk0 (by omega) (by omega) (by omega) (by omega) (by omega) (by omega) (by omega) (by omega)]; omega⟩⟩
                  · skip
                    refine r_iconst C (oDec_at oX12_isBound 61 rfl) (v := k1) (by rw [qk1]; rfl) ?_
                    refine r_goto C (tgt := 116) (oDec_at oX12_isBound 62 rfl) (by decide) ?_
                    exact r_zret C (n_bool (by omega)) (oDec_at oX12_isBound 64 rfl) ⟨_, rfl, ⟨by omega, by intro D S K h1 h2 h3; rw [oBd_rk1 (by omega) (by omega) (by omega) (by omega) (by omega) (by omega) (by omega) (by omega)]; omega⟩⟩
            · skip
              refine r_iconst C (oDec_at oX12_isBound 42 rfl) (v := k0) (by rw [qk0]; rfl) ?_
              exact r_zret C (n_bool (by omega)) (oDec_at oX12_isBound 43 rfl) ⟨_, rfl, ⟨by omega, by intro D S K h1 h2 h3; rw [oBd_n2 (by omega)]; omega⟩⟩
        · skip
          refine r_aload_n C (j := 0) (oDec_at oX12_isBound 26 rfl) rfl rfl ?_
          obtain ⟨v55, ev55⟩ : ∃ z : Int32, (s).1 71 68 = z := ⟨_, rfl⟩
          have gv55 : (s.1 71 68).toInt = v55.toInt := congrArg Int32.toInt (ev55)
          refine r_geti (k := 68) (lo := 0) (hi := 15) C v55 oCl12 rfl (by decide) flX12_378 rfl rfl (ev55) rfl rfl (oDec_at oX12_isBound 27 rfl) (fun b56 b56h => ?_)
          refine r_iconst C (oDec_at oX12_isBound 28 rfl) (v := k2) (by rw [qk2]; rfl) ?_
          obtain ⟨v57, ev57⟩ : ∃ z : Int32, z = v55 - v55 / k2 * k2 := ⟨_, rfl⟩
          have hv57 := (n_rem (k := 2) ev57 ek2 (by decide)).1 (by omega)
          refine r_irem C v57 (oDec_at oX12_isBound 29 rfl) (n_ne0 (by omega)) ev57 ?_
          refine r_if_eq C 77 (oDec_at oX12_isBound 30 rfl) (by decide) (fun cd58 => ?_) (fun cd58 => ?_)
          · skip
            refine r_iconst C (oDec_at oX12_isBound 42 rfl) (v := k0) (by rw [qk0]; rfl) ?_
            exact r_zret C (n_bool (by omega)) (oDec_at oX12_isBound 43 rfl) ⟨_, rfl, ⟨by omega, by intro D S K h1 h2 h3; rw [oBd_n2 (by omega)]; omega⟩⟩
          · skip
            refine r_iload_n C (j := 1) (oDec_at oX12_isBound 31 rfl) rfl rfl ?_
            refine r_callSi C miX12_backOf mlX12_395 (ct_X12_backOf l E (s) a1 (by omega)) (by decide) rfl rfl rfl (Nat.le_of_ble_eq_true rfl) (oDec_at oX12_isBound 32 rfl) (fun r60 u59 pu59 fu59 => ?_)
            try dsimp only at pu59
            have hxu59 := oFr_nil fu59; subst hxu59
            have rr60 := n_rng r60
            refine r_iconst C (oDec_at oX12_isBound 33 rfl) (v := k1) (by rw [qk1]; rfl) ?_
            refine r_icmp_ne C 79 (oDec_at oX12_isBound 34 rfl) (by decide) (fun cd61 => ?_) (fun cd61 => ?_)
            · skip
              refine r_iload_n C (j := 1) (oDec_at oX12_isBound 44 rfl) rfl rfl ?_
              refine r_callSi C miX12_paceOf mlX12_385 (ct_X12_paceOf l E (s) a1 (by omega)) (by decide) rfl rfl rfl (Nat.le_of_ble_eq_true rfl) (oDec_at oX12_isBound 45 rfl) (fun r63 u62 pu62 fu62 => ?_)
              try dsimp only at pu62
              have hxu62 := oFr_nil fu62; subst hxu62
              have rr63 := n_rng r63
              refine r_if_eq C 111 (oDec_at oX12_isBound 46 rfl) (by decide) (fun cd64 => ?_) (fun cd64 => ?_)
              · skip
                refine r_iconst C (oDec_at oX12_isBound 61 rfl) (v := k1) (by rw [qk1]; rfl) ?_
                refine r_goto C (tgt := 116) (oDec_at oX12_isBound 62 rfl) (by decide) ?_
                exact r_zret C (n_bool (by omega)) (oDec_at oX12_isBound 64 rfl) ⟨_, rfl, ⟨by omega, by intro D S K h1 h2 h3; rw [oBd_rk1 (by omega) (by omega) (by omega) (by omega) (by omega) (by omega) (by omega) (by omega)]; omega⟩⟩
              · skip
                refine r_aload_n C (j := 0) (oDec_at oX12_isBound 47 rfl) rfl rfl ?_
                refine r_geti (k := 68) (lo := 0) (hi := 15) C v55 oCl12 rfl (by decide) flX12_378 rfl rfl (ev55) rfl rfl (oDec_at oX12_isBound 48 rfl) (fun _ _ => ?_)
                refine r_iload_n C (j := 1) (oDec_at oX12_isBound 49 rfl) rfl rfl ?_
                refine r_callSi C miX12_paceOf mlX12_385 (ct_X12_paceOf l E (s) a1 (by omega)) (by decide) rfl rfl rfl (Nat.le_of_ble_eq_true rfl) (oDec_at oX12_isBound 50 rfl) (fun r66 u65 pu65 fu65 => ?_)
                try dsimp only at pu65
                have hxu65 := oFr_nil fu65; subst hxu65
                have rr66 := n_rng r66
                refine r_iconst C (oDec_at oX12_isBound 51 rfl) (v := k1) (by rw [qk1]; rfl) ?_
                refine r_icmp_ne C 102 (oDec_at oX12_isBound 52 rfl) (by decide) (fun cd67 => ?_) (fun cd67 => ?_)
                · skip
                  refine r_bipush C (oDec_at oX12_isBound 55 rfl) (v := k8) (by rw [qk8]; rfl) ?_
                  obtain ⟨v68, ev68⟩ : ∃ z : Int32, z = v55 / k8 := ⟨_, rfl⟩
                  have hv68 := (n_divP (k := 8) ev68 ek8 (by decide)).1 (by omega)
                  refine r_idiv C v68 (oDec_at oX12_isBound 56 rfl) (n_ne0 (by omega)) ev68 ?_
                  refine r_iconst C (oDec_at oX12_isBound 57 rfl) (v := k2) (by rw [qk2]; rfl) ?_
                  obtain ⟨v69, ev69⟩ : ∃ z : Int32, z = v68 - v68 / k2 * k2 := ⟨_, rfl⟩
                  have hv69 := (n_rem (k := 2) ev69 ek2 (by decide)).1 (by omega)
                  refine r_irem C v69 (oDec_at oX12_isBound 58 rfl) (n_ne0 (by omega)) ev69 ?_
                  refine r_iconst C (oDec_at oX12_isBound 59 rfl) (v := k1) (by rw [qk1]; rfl) ?_
                  refine r_icmp_ne C 115 (oDec_at oX12_isBound 60 rfl) (by decide) (fun cd70 => ?_) (fun cd70 => ?_)
                  · skip
                    refine r_iconst C (oDec_at oX12_isBound 63 rfl) (v := k0) (by rw [qk0]; rfl) ?_
                    exact r_zret C (n_bool (by omega)) (oDec_at oX12_isBound 64 rfl) ⟨_, rfl, ⟨by omega, by intro D S K h1 h2 h3; rw [oBd_rk0 (by omega) (by omega) (by omega) (by omega) (by omega) (by omega) (by omega) (by omega)]; omega⟩⟩
                  · skip
                    refine r_iconst C (oDec_at oX12_isBound 61 rfl) (v := k1) (by rw [qk1]; rfl) ?_
                    refine r_goto C (tgt := 116) (oDec_at oX12_isBound 62 rfl) (by decide) ?_
                    exact r_zret C (n_bool (by omega)) (oDec_at oX12_isBound 64 rfl) ⟨_, rfl, ⟨by omega, by intro D S K h1 h2 h3; rw [oBd_rk1 (by omega) (by omega) (by omega) (by omega) (by omega) (by omega) (by omega) (by omega)]; omega⟩⟩
                · skip
                  refine r_iconst C (oDec_at oX12_isBound 53 rfl) (v := k4) (by rw [qk4]; rfl) ?_
                  refine r_goto C (tgt := 104) (oDec_at oX12_isBound 54 rfl) (by decide) ?_
                  obtain ⟨v71, ev71⟩ : ∃ z : Int32, z = v55 / k4 := ⟨_, rfl⟩
                  have hv71 := (n_divP (k := 4) ev71 ek4 (by decide)).1 (by omega)
                  refine r_idiv C v71 (oDec_at oX12_isBound 56 rfl) (n_ne0 (by omega)) ev71 ?_
                  refine r_iconst C (oDec_at oX12_isBound 57 rfl) (v := k2) (by rw [qk2]; rfl) ?_
                  obtain ⟨v72, ev72⟩ : ∃ z : Int32, z = v71 - v71 / k2 * k2 := ⟨_, rfl⟩
                  have hv72 := (n_rem (k := 2) ev72 ek2 (by decide)).1 (by omega)
                  refine r_irem C v72 (oDec_at oX12_isBound 58 rfl) (n_ne0 (by omega)) ev72 ?_
                  refine r_iconst C (oDec_at oX12_isBound 59 rfl) (v := k1) (by rw [qk1]; rfl) ?_
                  refine r_icmp_ne C 115 (oDec_at oX12_isBound 60 rfl) (by decide) (fun cd73 => ?_) (fun cd73 => ?_)
                  · skip
                    refine r_iconst C (oDec_at oX12_isBound 63 rfl) (v := k0) (by rw [qk0]; rfl) ?_
                    exact r_zret C (n_bool (by omega)) (oDec_at oX12_isBound 64 rfl) ⟨_, rfl, ⟨by omega, by intro D S K h1 h2 h3; rw [oBd_rk0 (by omega) (by omega) (by omega) (by omega) (by omega) (by omega) (by omega) (by omega)]; omega⟩⟩
                  · skip
                    refine r_iconst C (oDec_at oX12_isBound 61 rfl) (v := k1) (by rw [qk1]; rfl) ?_
                    refine r_goto C (tgt := 116) (oDec_at oX12_isBound 62 rfl) (by decide) ?_
                    exact r_zret C (n_bool (by omega)) (oDec_at oX12_isBound 64 rfl) ⟨_, rfl, ⟨by omega, by intro D S K h1 h2 h3; rw [oBd_rk1 (by omega) (by omega) (by omega) (by omega) (by omega) (by omega) (by omega) (by omega)]; omega⟩⟩
            · skip
              refine r_aload_n C (j := 0) (oDec_at oX12_isBound 35 rfl) rfl rfl ?_
              refine r_geti (k := 68) (lo := 0) (hi := 15) C v55 oCl12 rfl (by decide) flX12_378 rfl rfl (ev55) rfl rfl (oDec_at oX12_isBound 36 rfl) (fun _ _ => ?_)
              refine r_iconst C (oDec_at oX12_isBound 37 rfl) (v := k2) (by rw [qk2]; rfl) ?_
              obtain ⟨v74, ev74⟩ : ∃ z : Int32, z = v55 / k2 := ⟨_, rfl⟩
              have hv74 := (n_divP (k := 2) ev74 ek2 (by decide)).1 (by omega)
              refine r_idiv C v74 (oDec_at oX12_isBound 38 rfl) (n_ne0 (by omega)) ev74 ?_
              refine r_iconst C (oDec_at oX12_isBound 39 rfl) (v := k2) (by rw [qk2]; rfl) ?_
              obtain ⟨v75, ev75⟩ : ∃ z : Int32, z = v74 - v74 / k2 * k2 := ⟨_, rfl⟩
              have hv75 := (n_rem (k := 2) ev75 ek2 (by decide)).1 (by omega)
              refine r_irem C v75 (oDec_at oX12_isBound 40 rfl) (n_ne0 (by omega)) ev75 ?_
              refine r_pc C 74 rfl ?_
              refine r_if_ne C 79 (oDec_at oX12_isBound 41 rfl) (by decide) (fun cd76 => ?_) (fun cd76 => ?_)
              · skip
                refine r_iload_n C (j := 1) (oDec_at oX12_isBound 44 rfl) rfl rfl ?_
                refine r_callSi C miX12_paceOf mlX12_385 (ct_X12_paceOf l E (s) a1 (by omega)) (by decide) rfl rfl rfl (Nat.le_of_ble_eq_true rfl) (oDec_at oX12_isBound 45 rfl) (fun r78 u77 pu77 fu77 => ?_)
                try dsimp only at pu77
                have hxu77 := oFr_nil fu77; subst hxu77
                have rr78 := n_rng r78
                refine r_if_eq C 111 (oDec_at oX12_isBound 46 rfl) (by decide) (fun cd79 => ?_) (fun cd79 => ?_)
                · skip
                  refine r_iconst C (oDec_at oX12_isBound 61 rfl) (v := k1) (by rw [qk1]; rfl) ?_
                  refine r_goto C (tgt := 116) (oDec_at oX12_isBound 62 rfl) (by decide) ?_
                  exact r_zret C (n_bool (by omega)) (oDec_at oX12_isBound 64 rfl) ⟨_, rfl, ⟨by omega, by intro D S K h1 h2 h3; rw [oBd_rk1 (by omega) (by omega) (by omega) (by omega) (by omega) (by omega) (by omega) (by omega)]; omega⟩⟩
                · skip
                  refine r_aload_n C (j := 0) (oDec_at oX12_isBound 47 rfl) rfl rfl ?_
                  refine r_geti (k := 68) (lo := 0) (hi := 15) C v55 oCl12 rfl (by decide) flX12_378 rfl rfl (ev55) rfl rfl (oDec_at oX12_isBound 48 rfl) (fun _ _ => ?_)
                  refine r_iload_n C (j := 1) (oDec_at oX12_isBound 49 rfl) rfl rfl ?_
                  refine r_callSi C miX12_paceOf mlX12_385 (ct_X12_paceOf l E (s) a1 (by omega)) (by decide) rfl rfl rfl (Nat.le_of_ble_eq_true rfl) (oDec_at oX12_isBound 50 rfl) (fun r81 u80 pu80 fu80 => ?_)
                  try dsimp only at pu80
                  have hxu80 := oFr_nil fu80; subst hxu80
                  have rr81 := n_rng r81
                  refine r_iconst C (oDec_at oX12_isBound 51 rfl) (v := k1) (by rw [qk1]; rfl) ?_
                  refine r_icmp_ne C 102 (oDec_at oX12_isBound 52 rfl) (by decide) (fun cd82 => ?_) (fun cd82 => ?_)
                  · skip
                    refine r_bipush C (oDec_at oX12_isBound 55 rfl) (v := k8) (by rw [qk8]; rfl) ?_
                    obtain ⟨v83, ev83⟩ : ∃ z : Int32, z = v55 / k8 := ⟨_, rfl⟩
                    have hv83 := (n_divP (k := 8) ev83 ek8 (by decide)).1 (by omega)
                    refine r_idiv C v83 (oDec_at oX12_isBound 56 rfl) (n_ne0 (by omega)) ev83 ?_
                    refine r_iconst C (oDec_at oX12_isBound 57 rfl) (v := k2) (by rw [qk2]; rfl) ?_
                    obtain ⟨v84, ev84⟩ : ∃ z : Int32, z = v83 - v83 / k2 * k2 := ⟨_, rfl⟩
                    have hv84 := (n_rem (k := 2) ev84 ek2 (by decide)).1 (by omega)
                    refine r_irem C v84 (oDec_at oX12_isBound 58 rfl) (n_ne0 (by omega)) ev84 ?_
                    refine r_iconst C (oDec_at oX12_isBound 59 rfl) (v := k1) (by rw [qk1]; rfl) ?_
                    refine r_icmp_ne C 115 (oDec_at oX12_isBound 60 rfl) (by decide) (fun cd85 => ?_) (fun cd85 => ?_)
                    · skip
                      refine r_iconst C (oDec_at oX12_isBound 63 rfl) (v := k0) (by rw [qk0]; rfl) ?_
                      exact r_zret C (n_bool (by omega)) (oDec_at oX12_isBound 64 rfl) ⟨_, rfl, ⟨by omega, by intro D S K h1 h2 h3; rw [oBd_rk0 (by omega) (by omega) (by omega) (by omega) (by omega) (by omega) (by omega) (by omega)]; omega⟩⟩
                    · skip
                      refine r_iconst C (oDec_at oX12_isBound 61 rfl) (v := k1) (by rw [qk1]; rfl) ?_
                      refine r_goto C (tgt := 116) (oDec_at oX12_isBound 62 rfl) (by decide) ?_
                      exact r_zret C (n_bool (by omega)) (oDec_at oX12_isBound 64 rfl) ⟨_, rfl, ⟨by omega, by intro D S K h1 h2 h3; rw [oBd_rk1 (by omega) (by omega) (by omega) (by omega) (by omega) (by omega) (by omega) (by omega)]; omega⟩⟩
                  · skip
                    refine r_iconst C (oDec_at oX12_isBound 53 rfl) (v := k4) (by rw [qk4]; rfl) ?_
                    refine r_goto C (tgt := 104) (oDec_at oX12_isBound 54 rfl) (by decide) ?_
                    obtain ⟨v86, ev86⟩ : ∃ z : Int32, z = v55 / k4 := ⟨_, rfl⟩
                    have hv86 := (n_divP (k := 4) ev86 ek4 (by decide)).1 (by omega)
                    refine r_idiv C v86 (oDec_at oX12_isBound 56 rfl) (n_ne0 (by omega)) ev86 ?_
                    refine r_iconst C (oDec_at oX12_isBound 57 rfl) (v := k2) (by rw [qk2]; rfl) ?_
                    obtain ⟨v87, ev87⟩ : ∃ z : Int32, z = v86 - v86 / k2 * k2 := ⟨_, rfl⟩
                    have hv87 := (n_rem (k := 2) ev87 ek2 (by decide)).1 (by omega)
                    refine r_irem C v87 (oDec_at oX12_isBound 58 rfl) (n_ne0 (by omega)) ev87 ?_
                    refine r_iconst C (oDec_at oX12_isBound 59 rfl) (v := k1) (by rw [qk1]; rfl) ?_
                    refine r_icmp_ne C 115 (oDec_at oX12_isBound 60 rfl) (by decide) (fun cd88 => ?_) (fun cd88 => ?_)
                    · skip
                      refine r_iconst C (oDec_at oX12_isBound 63 rfl) (v := k0) (by rw [qk0]; rfl) ?_
                      exact r_zret C (n_bool (by omega)) (oDec_at oX12_isBound 64 rfl) ⟨_, rfl, ⟨by omega, by intro D S K h1 h2 h3; rw [oBd_rk0 (by omega) (by omega) (by omega) (by omega) (by omega) (by omega) (by omega) (by omega)]; omega⟩⟩
                    · skip
                      refine r_iconst C (oDec_at oX12_isBound 61 rfl) (v := k1) (by rw [qk1]; rfl) ?_
                      refine r_goto C (tgt := 116) (oDec_at oX12_isBound 62 rfl) (by decide) ?_
                      exact r_zret C (n_bool (by omega)) (oDec_at oX12_isBound 64 rfl) ⟨_, rfl, ⟨by omega, by intro D S K h1 h2 h3; rw [oBd_rk1 (by omega) (by omega) (by omega) (by omega) (by omega) (by omega) (by omega) (by omega)]; omega⟩⟩
              · skip
                refine r_iconst C (oDec_at oX12_isBound 42 rfl) (v := k0) (by rw [qk0]; rfl) ?_
                exact r_zret C (n_bool (by omega)) (oDec_at oX12_isBound 43 rfl) ⟨_, rfl, ⟨by omega, by intro D S K h1 h2 h3; rw [oBd_n2 (by omega)]; omega⟩⟩
      · skip
        refine r_iconst C (oDec_at oX12_isBound 20 rfl) (v := k0) (by rw [qk0]; rfl) ?_
        exact r_zret C (n_bool (by omega)) (oDec_at oX12_isBound 21 rfl) ⟨_, rfl, ⟨by omega, by intro D S K h1 h2 h3; rw [oBd_n1 (by omega)]; omega⟩⟩
