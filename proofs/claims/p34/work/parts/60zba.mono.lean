set_option maxHeartbeats 4000000 in
set_option maxRecDepth 100000 in
theorem ct6_X12_takes (l : Launch) (E : oE) (s : oS) (c1 q1 n1 : Nat) (hk1 : okd c1 = q1) (h13_1 : 13 ≤ q1) (h9_1 : q1 < 999) (ht1 : oat q1 = 1) (hn1 : oln q1 = n1) (g : Int → Int) (a : Int) (b : Int) (i : Nat) (hp0 : (s.1 71 2).toInt = a) (hp1 : (s.1 71 4).toInt = b) (hp2 : oqZ g s) (hp3 : (s.1 71 5).toInt = 0) (hp4 : i < 26) (hp5 : n1 = oqWl i) (hp6 : ∀ j : Nat, j < oqWl i → (s.1 c1 j).toInt = oqWc i j) (hp7 : 2 ≤ n1 ∧ n1 ≤ 7) : oMet l 3 yX12_takes cX12_takes 2 (some .boolean) [(12, 2), (12, 4)] E s [.ref (oad E 71), .ref (oad E c1)] (oPi (fun r u => (0 ≤ r.toInt ∧ r.toInt ≤ 1) ∧ (r.toInt = 1 → (oqH g a b i = 1 ∧ (u.1 71 2).toInt = oqHa g a i ∧ (u.1 71 4).toInt = oqHa g a i)) ∧ (r.toInt = 0 → (oqH g a b i = 0 ∧ (u.1 71 2).toInt = oqSk g a ∧ (u.1 71 4).toInt = b)) ∧ (g (oqSk g a) ≠ 32 ∧ g (oqSk g a) ≠ 10) ∧ ((s.1 71 2).toInt ≤ (u.1 71 2).toInt))) := by
  refine oMet.of (lv := [(0, .ref (oad E 71)), (1, .ref (oad E c1))]) (by decide +kernel) (Nat.le_of_ble_eq_true rfl) rfl (fun J C hT => ?_)
  have C : oC l 3 cX12_takes RX12 2 (some .boolean) [(12, 2), (12, 4)] E s (oPi (fun r u => (0 ≤ r.toInt ∧ r.toInt ≤ 1) ∧ (r.toInt = 1 → (oqH g a b i = 1 ∧ (u.1 71 2).toInt = oqHa g a i ∧ (u.1 71 4).toInt = oqHa g a i)) ∧ (r.toInt = 0 → (oqH g a b i = 0 ∧ (u.1 71 2).toInt = oqSk g a ∧ (u.1 71 4).toInt = b)) ∧ (g (oqSk g a) ≠ 32 ∧ g (oqSk g a) ≠ 10) ∧ ((s.1 71 2).toInt ≤ (u.1 71 2).toInt))) J := C
  obtain ⟨k0, qk0⟩ : ∃ z : Int32, z = 0 := ⟨_, rfl⟩
  have ek0 : k0.toInt = 0 := by rw [qk0]; rfl
  obtain ⟨k1, qk1⟩ : ∃ z : Int32, z = 1 := ⟨_, rfl⟩
  have ek1 : k1.toInt = 1 := by rw [qk1]; rfl
  have hHa : oqHa g a i = oqSk g a + (oqWl i : Int) := rfl
  have hge := oqSk_ge g a
  refine r_aload_n C (j := 0) (oDec_at oX12_takes 0 rfl) rfl rfl ?_
  refine r_aload_n C (j := 1) (oDec_at oX12_takes 1 rfl) rfl rfl ?_
  refine r_callVi C oCl12 rfl miX12_isHere mlX12_196 (ct4_X12_isHere l E (s) c1 q1 n1 hk1 h13_1 h9_1 ht1 hn1 (g) (a) (b) (i) (by omega) (by omega) hp2 (by omega) (by omega) (by omega) hp6 (by omega)) (by decide) rfl rfl rfl (Nat.le_of_ble_eq_true rfl) (oDec_at oX12_takes 2 rfl) (fun r2 u1 pu1 fu1 => ?_)
  try dsimp only at pu1
  obtain ⟨pu1_0, pu1_1, pu1_2, pu1_3, pu1_4, pu1_5, pu1_6⟩ := pu1
  have rr2 := n_rng r2
  refine r_if_ne C 10 (oDec_at oX12_takes 3 rfl) (by decide) (fun cd3 => ?_) (fun cd3 => ?_)
  · skip
    replace pu1_4 := pu1_4 (by omega)
    clear pu1_5
    replace pu1_6 := pu1_6 (by omega)
    refine r_aload_n C (j := 0) (oDec_at oX12_takes 6 rfl) rfl rfl ?_
    refine r_dup C (oDec_at oX12_takes 7 rfl) rfl ?_
    obtain ⟨v4, ev4⟩ : ∃ z : Int32, (u1).1 71 2 = z := ⟨_, rfl⟩
    have gv4 : (u1.1 71 2).toInt = v4.toInt := congrArg Int32.toInt (ev4)
    refine r_geti (k := 2) (lo := 0) (hi := 1600) C v4 oCl12 rfl (by decide) flX12_179 rfl rfl (ev4) rfl rfl (oDec_at oX12_takes 8 rfl) (fun b5 b5h => ?_)
    refine r_aload_n C (j := 1) (oDec_at oX12_takes 9 rfl) rfl rfl ?_
    obtain ⟨v6, ev6⟩ : ∃ z : Int32, Int32.ofNat n1 = z := ⟨_, rfl⟩
    have hv6 : v6.toInt = (n1 : Int) := n_ofNat ev6 (by omega)
    refine r_alen1 (n := n1) C v6 hk1 h13_1 ht1 hn1 h9_1 ev6 (oDec_at oX12_takes 10 rfl) ?_
    obtain ⟨v7, ev7⟩ : ∃ z : Int32, z = v4 + v6 := ⟨_, rfl⟩
    have hv7 : v7.toInt = v4.toInt + v6.toInt := n_add ev7 (by omega) (by omega)
    refine r_iadd C v7 (oDec_at oX12_takes 11 rfl) ev7 ?_
    refine r_pc C 18 rfl ?_
    refine r_puti (k := 2) (lo := 0) (hi := 1600) C oCl12 rfl (by decide) flX12_179 rfl rfl rfl rfl rfl rfl rfl rfl ⟨by omega, by omega⟩ (oDec_at oX12_takes 12 rfl) ?_
    refine r_aload_n C (j := 0) (oDec_at oX12_takes 13 rfl) rfl rfl ?_
    refine r_aload_n C (j := 0) (oDec_at oX12_takes 14 rfl) rfl rfl ?_
    refine r_geti (k := 2) (lo := 0) (hi := 1600) C v7 oCl12 rfl (by decide) flX12_179 rfl rfl ((pI_self _ _ _ _)) rfl rfl (oDec_at oX12_takes 15 rfl) (fun _ _ => ?_)
    refine r_puti (k := 4) (lo := (-1)) (hi := 1600) C oCl12 rfl (by decide) flX12_193 rfl rfl rfl rfl rfl rfl rfl rfl ⟨by omega, by omega⟩ (oDec_at oX12_takes 16 rfl) ?_
    refine r_iconst C (oDec_at oX12_takes 17 rfl) (v := k1) (by rw [qk1]; rfl) ?_
    refine r_pc C 30 rfl ?_
    have lk8 : (((pI (pI u1 71 2 v7) 71 4 v7)).1 71 2).toInt = v7.toInt := congrArg Int32.toInt (((pI_ne (a := 71) (b := 2) (c := 71) (k := 4) _ _ (Or.inr (by decide)))).trans ((pI_self _ _ _ _)))
    have lk9 : (((pI (pI u1 71 2 v7) 71 4 v7)).1 71 4).toInt = v7.toInt := congrArg Int32.toInt ((pI_self _ _ _ _))
    have lk10 : (((pI (pI u1 71 2 v7) 71 4 v7)).1 71 2).toInt = v7.toInt := congrArg Int32.toInt (((pI_ne (a := 71) (b := 2) (c := 71) (k := 4) _ _ (Or.inr (by decide)))).trans ((pI_self _ _ _ _)))
    have lk11 : (((pI (pI u1 71 2 v7) 71 4 v7)).1 71 4).toInt = v7.toInt := congrArg Int32.toInt ((pI_self _ _ _ _))
    have lk12 : (((pI (pI u1 71 2 v7) 71 4 v7)).1 71 2).toInt = v7.toInt := congrArg Int32.toInt (((pI_ne (a := 71) (b := 2) (c := 71) (k := 4) _ _ (Or.inr (by decide)))).trans ((pI_self _ _ _ _)))
    exact r_zret C (n_bool (by omega)) (oDec_at oX12_takes 18 rfl) ⟨_, rfl, ⟨by omega, by omega, by omega, by omega, by omega⟩⟩
  · skip
    clear pu1_4
    replace pu1_5 := pu1_5 (by omega)
    clear pu1_6
    refine r_iconst C (oDec_at oX12_takes 4 rfl) (v := k0) (by rw [qk0]; rfl) ?_
    have lk13 : ((u1).1 71 4).toInt = (s.1 71 4).toInt := congrArg Int32.toInt ((fu1 71 4 rfl).1)
    have lk14 : ((u1).1 71 4).toInt = (s.1 71 4).toInt := congrArg Int32.toInt ((fu1 71 4 rfl).1)
    exact r_zret C (n_bool (by omega)) (oDec_at oX12_takes 5 rfl) ⟨_, rfl, ⟨by omega, by omega, by omega, by omega, by omega⟩⟩
set_option maxHeartbeats 4000000 in
set_option maxRecDepth 100000 in
theorem ct6_X12_takesSign (l : Launch) (E : oE) (s : oS) (a1 : Int32) (g : Int → Int) (a : Int) (c : Int) (hp0 : (s.1 71 5).toInt = 0 → (s.1 71 2).toInt = a) (hp1 : oqZ g s) (hp2 : a1.toInt = c) (hp3 : 0 ≤ c) : oMet l 2 yX12_takesSign cX12_takesSign 2 (some .boolean) [(12, 2)] E s [.ref (oad E 71), .int a1] (oPi (fun r u => (0 ≤ r.toInt ∧ r.toInt ≤ 1) ∧ (r.toInt = 1 → ((s.1 71 5).toInt = 0 ∧ g (oqSk g a) = c ∧ (u.1 71 2).toInt = oqSk g a + 1)) ∧ (r.toInt = 0 → (s.1 71 5).toInt = 0 → (g (oqSk g a) ≠ c ∧ (u.1 71 2).toInt = oqSk g a)) ∧ ((s.1 71 5).toInt = 0 → g (oqSk g a) ≠ 32 ∧ g (oqSk g a) ≠ 10) ∧ ((s.1 71 2).toInt ≤ (u.1 71 2).toInt))) := by
  refine oMet.of (lv := [(0, .ref (oad E 71)), (1, .int a1)]) (by decide +kernel) (Nat.le_of_ble_eq_true rfl) rfl (fun J C hT => ?_)
  have C : oC l 2 cX12_takesSign RX12 2 (some .boolean) [(12, 2)] E s (oPi (fun r u => (0 ≤ r.toInt ∧ r.toInt ≤ 1) ∧ (r.toInt = 1 → ((s.1 71 5).toInt = 0 ∧ g (oqSk g a) = c ∧ (u.1 71 2).toInt = oqSk g a + 1)) ∧ (r.toInt = 0 → (s.1 71 5).toInt = 0 → (g (oqSk g a) ≠ c ∧ (u.1 71 2).toInt = oqSk g a)) ∧ ((s.1 71 5).toInt = 0 → g (oqSk g a) ≠ 32 ∧ g (oqSk g a) ≠ 10) ∧ ((s.1 71 2).toInt ≤ (u.1 71 2).toInt))) J := C
  obtain ⟨k0, qk0⟩ : ∃ z : Int32, z = 0 := ⟨_, rfl⟩
  have ek0 : k0.toInt = 0 := by rw [qk0]; rfl
  obtain ⟨k1, qk1⟩ : ∃ z : Int32, z = 1 := ⟨_, rfl⟩
  have ek1 : k1.toInt = 1 := by rw [qk1]; rfl
  have rg1 := n_rng a1
  have hge := oqSk_ge g a
  refine r_aload_n C (j := 0) (oDec_at oX12_takesSign 0 rfl) rfl rfl ?_
  obtain ⟨v1, ev1⟩ : ∃ z : Int32, (s).1 71 5 = z := ⟨_, rfl⟩
  have gv1 : (s.1 71 5).toInt = v1.toInt := congrArg Int32.toInt (ev1)
  have rv1 := n_rng v1
  refine r_geti (k := 5) (lo := (-2147483648)) (hi := 2147483647) C v1 oCl12 rfl (by decide) flX12_173 rfl rfl (ev1) rfl rfl (oDec_at oX12_takesSign 1 rfl) (fun _ _ => ?_)
  refine r_if_ne C 15 (oDec_at oX12_takesSign 2 rfl) (by decide) (fun cd2 => ?_) (fun cd2 => ?_)
  · skip
    refine r_iconst C (oDec_at oX12_takesSign 7 rfl) (v := k0) (by rw [qk0]; rfl) ?_
    exact r_zret C (n_bool (by omega)) (oDec_at oX12_takesSign 8 rfl) ⟨_, rfl, ⟨by omega, by omega, by omega, by omega, by omega⟩⟩
  · skip
    refine r_aload_n C (j := 0) (oDec_at oX12_takesSign 3 rfl) rfl rfl ?_
    refine r_callVi C oCl12 rfl miX12_look mlX12_185 (ct4_X12_look l E (s)  (g) (a) (by omega) hp1) (by decide) rfl rfl rfl (Nat.le_of_ble_eq_true rfl) (oDec_at oX12_takesSign 4 rfl) (fun r4 u3 pu3 fu3 => ?_)
    try dsimp only at pu3
    obtain ⟨pu3_0, pu3_1, pu3_2, pu3_3, pu3_4, pu3_5⟩ := pu3
    have rr4 := n_rng r4
    refine r_iload_n C (j := 1) (oDec_at oX12_takesSign 5 rfl) rfl rfl ?_
    refine r_icmp_eq C 17 (oDec_at oX12_takesSign 6 rfl) (by decide) (fun cd5 => ?_) (fun cd5 => ?_)
    · skip
      refine r_aload_n C (j := 0) (oDec_at oX12_takesSign 9 rfl) rfl rfl ?_
      refine r_dup C (oDec_at oX12_takesSign 10 rfl) rfl ?_
      obtain ⟨v6, ev6⟩ : ∃ z : Int32, (u3).1 71 2 = z := ⟨_, rfl⟩
      have gv6 : (u3.1 71 2).toInt = v6.toInt := congrArg Int32.toInt (ev6)
      refine r_geti (k := 2) (lo := 0) (hi := 1600) C v6 oCl12 rfl (by decide) flX12_179 rfl rfl (ev6) rfl rfl (oDec_at oX12_takesSign 11 rfl) (fun b7 b7h => ?_)
      refine r_iconst C (oDec_at oX12_takesSign 12 rfl) (v := k1) (by rw [qk1]; rfl) ?_
      obtain ⟨v8, ev8⟩ : ∃ z : Int32, z = v6 + k1 := ⟨_, rfl⟩
      have hv8 : v8.toInt = v6.toInt + k1.toInt := n_add ev8 (by omega) (by omega)
      refine r_iadd C v8 (oDec_at oX12_takesSign 13 rfl) ev8 ?_
      refine r_puti (k := 2) (lo := 0) (hi := 1600) C oCl12 rfl (by decide) flX12_179 rfl rfl rfl rfl rfl rfl rfl rfl ⟨by omega, by omega⟩ (oDec_at oX12_takesSign 14 rfl) ?_
      refine r_pc C 27 rfl ?_
      refine r_iconst C (oDec_at oX12_takesSign 15 rfl) (v := k1) (by rw [qk1]; rfl) ?_
      have lk9 : (((pI u3 71 2 v8)).1 71 2).toInt = v8.toInt := congrArg Int32.toInt ((pI_self _ _ _ _))
      have lk10 : (((pI u3 71 2 v8)).1 71 2).toInt = v8.toInt := congrArg Int32.toInt ((pI_self _ _ _ _))
      have lk11 : (((pI u3 71 2 v8)).1 71 2).toInt = v8.toInt := congrArg Int32.toInt ((pI_self _ _ _ _))
      exact r_zret C (n_bool (by omega)) (oDec_at oX12_takesSign 16 rfl) ⟨_, rfl, ⟨by omega, by omega, by omega, by omega, by omega⟩⟩
    · skip
      refine r_iconst C (oDec_at oX12_takesSign 7 rfl) (v := k0) (by rw [qk0]; rfl) ?_
      exact r_zret C (n_bool (by omega)) (oDec_at oX12_takesSign 8 rfl) ⟨_, rfl, ⟨by omega, by omega, by omega, by omega, by omega⟩⟩
