set_option maxHeartbeats 4000000 in
set_option maxRecDepth 100000 in
theorem ct6_X12_takes (l : Launch) (E : oE) (s : oS) (c1 q1 n1 : Nat) (hk1 : okd c1 = q1) (h13_1 : 13 ≤ q1) (h9_1 : q1 < 999) (ht1 : oat q1 = 1) (hn1 : oln q1 = n1) (g : Int → Int) (a : Int) (b : Int) (i : Nat) (hp0 : (s.1 71 2).toInt = a) (hp1 : (s.1 71 4).toInt = b) (hp2 : oqZ g s) (hp3 : (s.1 71 5).toInt = 0) (hp4 : i < 26) (hp5 : n1 = oqWl i) (hp6 : ∀ j : Nat, j < oqWl i → (s.1 c1 j).toInt = oqWc i j) (hp7 : 2 ≤ n1 ∧ n1 ≤ 7) : oMet l 3 yX12_takes cX12_takes 2 (some .boolean) [(12, 2), (12, 4)] E s [.ref (oad E 71), .ref (oad E c1)] (oPi (fun r u => (0 ≤ r.toInt ∧ r.toInt ≤ 1) ∧ (r.toInt = 1 → (oqH g a b i = 1 ∧ (u.1 71 2).toInt = oqHa g a i ∧ (u.1 71 4).toInt = oqHa g a i)) ∧ (r.toInt = 0 → (oqH g a b i = 0 ∧ (u.1 71 2).toInt = oqSk g a ∧ (u.1 71 4).toInt = b)) ∧ (g (oqSk g a) ≠ 32 ∧ g (oqSk g a) ≠ 10) ∧ ((s.1 71 2).toInt ≤ (u.1 71 2).toInt))) := by
  refine oMet.of (lv := [(0, .ref (oad E 71)), (1, .ref (oad E c1))]) (by decide +kernel) (Nat.le_of_ble_eq_true rfl) rfl (fun J C hT => ?_)
  have C : oC l 3 cX12_takes RX12 2 (some .boolean) [(12, 2), (12, 4)] E s (oPi (fun r u => (0 ≤ r.toInt ∧ r.toInt ≤ 1) ∧ (r.toInt = 1 → (oqH g a b i = 1 ∧ (u.1 71 2).toInt = oqHa g a i ∧ (u.1 71 4).toInt = oqHa g a i)) ∧ (r.toInt = 0 → (oqH g a b i = 0 ∧ (u.1 71 2).toInt = oqSk g a ∧ (u.1 71 4).toInt = b)) ∧ (g (oqSk g a) ≠ 32 ∧ g (oqSk g a) ≠ 10) ∧ ((s.1 71 2).toInt ≤ (u.1 71 2).toInt))) J := C
  obtain ⟨k0, qk0⟩ : ∃ z : Int32, z = 0 := ⟨_, rfl⟩
  have ek0 : k0.toInt = 0 := by rw [qk0]; rfl
  obtain ⟨k1, qk1⟩ : ∃ z : Int32, z = 1 := ⟨_, rfl⟩
  have ek1 : k1.toInt = 1 := by rw [qk1]; rfl
  have hHa : oqHa g a i = oqSk g a + (oqWl i : Int) := rfl
  have hge := oqSk_ge g a
  refine r_aload_n C (j := 0) (oDec_at oX12_takes 0 rfl) rfl rfl ?_
  refine r_aload_n C (j := 1) (oDec_at oX12_takes 1 rfl) rfl rfl ?_
  refine r_callVi C oCl12 rfl miX12_isHere mlX12_196 (ct4_X12_isHere l E (s) c1 q1 n1 hk1 h13_1 h9_1 ht1 hn1 (g) (a) (b) (i) (by omega) (by omega) hp2 (by omega) (by omega) (by omega) hp6 (by omega)) (by decide) rfl rfl rfl (Nat.le_of_ble_eq_true rfl) (oDec_at oX12_takes 2 rfl) (fun r2 u1 pu1 fu1 => ?_)
  try dsimp only at pu1
  obtain ⟨pu1_0, pu1_1, pu1_2, pu1_3, pu1_4, pu1_5, pu1_6⟩ := pu1
  have rr2 := n_rng r2
  refine r_if_ne C 10 (oDec_at oX12_takes 3 rfl) (by decide) (fun cd3 => ?_) (fun cd3 => ?_)
  · skip
    replace pu1_4 := pu1_4 (by omega)
    clear pu1_5
    replace pu1_6 := pu1_6 (by omega)
    refine r_aload_n C (j := 0) (oDec_at oX12_takes 6 rfl) rfl rfl ?_
    refine r_dup C (oDec_at oX12_takes 7 rfl) rfl ?_
    obtain ⟨v4, ev4⟩ : ∃ z : Int32, (u1).1 71 2 = z := ⟨_, rfl⟩
    have gv4 : (u1.1 71 2).toInt = v4.toInt := congrArg Int32.toInt (ev4)
    refine r_geti (k := 2) (lo := 0) (hi := 1600) C v4 oCl12 rfl (by decide) flX12_179 rfl rfl (ev4) rfl rfl (oDec_at oX12_takes 8 rfl) (fun b5 b5h => ?_)
    refine r_aload_n C (j := 1) (oDec_at oX12_takes 9 rfl) rfl rfl ?_
    obtain ⟨v6, ev6⟩ : ∃ z : Int32, Int32.ofNat n1 = z := ⟨_, rfl⟩
    have hv6 : v6.toInt = (n1 : Int) := n_ofNat ev6 (by omega)
    refine r_alen1 (n := n1) C v6 hk1 h13_1 ht1 hn1 h9_1 ev6 (oDec_at oX12_takes 10 rfl) ?_
    obtain ⟨v7, ev7⟩ : ∃ z : Int32, z = v4 + v6 := ⟨_, rfl⟩
    have hv7 : v7.toInt = v4.toInt + v6.toInt := n_add ev7 (by omega) (by omega)
    refine r_iadd C v7 (oDec_at oX12_takes 11 rfl) ev7 ?_
    refine r_pc C 18 rfl ?_
    refine r_puti (k := 2) (lo := 0) (hi := 1600) C oCl12 rfl (by decide) flX12_179 rfl rfl rfl rfl rfl rfl rfl rfl ⟨by omega, by omega⟩ (oDec_at oX12_takes 12 rfl) ?_
    refine r_aload_n C (j := 0) (oDec_at oX12_takes 13 rfl) rfl rfl ?_
    refine r_aload_n C (j := 0) (oDec_at oX12_takes 14 rfl) rfl rfl ?_
    refine r_geti (k := 2) (lo := 0) (hi := 1600) C v7 oCl12 rfl (by decide) flX12_179 rfl rfl ((pI_self _ _ _ _)) rfl rfl (oDec_at oX12_takes 15 rfl) (fun _ _ => ?_)
    refine r_puti (k := 4) (lo := (-1)) (hi := 1600) C oCl12 rfl (by decide) flX12_193 rfl rfl rfl rfl rfl rfl rfl rfl ⟨by omega, by omega⟩ (oDec_at oX12_takes 16 rfl) ?_
    refine r_iconst C (oDec_at oX12_takes 17 rfl) (v := k1) (by rw [qk1]; rfl) ?_
    refine r_pc C 30 rfl ?_
    have lk8 : (((pI (pI u1 71 2 v7) 71 4 v7)).1 71 2).toInt = v7.toInt := congrArg Int32.toInt (((pI_ne (a := 71) (b := 2) (c := 71) (k := 4) _ _ (Or.inr (by decide)))).trans ((pI_self _ _ _ _)))
    have lk9 : (((pI (pI u1 71 2 v7) 71 4 v7)).1 71 4).toInt = v7.toInt := congrArg Int32.toInt ((pI_self _ _ _ _))
    have lk10 : (((pI (pI u1 71 2 v7) 71 4 v7)).1 71 2).toInt = v7.toInt := congrArg Int32.toInt (((pI_ne (a := 71) (b := 2) (c := 71) (k := 4) _ _ (Or.inr (by decide)))).trans ((pI_self _ _ _ _)))
    have lk11 : (((pI (pI u1 71 2 v7) 71 4 v7)).1 71 4).toInt = v7.toInt := congrArg Int32.toInt ((pI_self _ _ _ _))
    have lk12 : (((pI (pI u1 71 2 v7) 71 4 v7)).1 71 2).toInt = v7.toInt := congrArg Int32.toInt (((pI_ne (a := 71) (b := 2) (c := 71) (k := 4) _ _ (Or.inr (by decide)))).trans ((pI_self _ _ _ _)))
    exact r_zret C (n_bool (by omega)) (oDec_at oX12_takes 18 rfl) ⟨_, rfl, ⟨by omega, by omega, by omega, by omega, by omega⟩⟩
  · skip
    clear pu1_4
    replace pu1_5 := pu1_5 (by omega)
    clear pu1_6
    refine r_iconst C (oDec_at oX12_takes 4 rfl) (v := k0) (by rw [qk0]; rfl) ?_
    have lk13 : ((u1).1 71 4).toInt = (s.1 71 4).toInt := congrArg Int32.toInt ((fu1 71 4 rfl).1)
    have lk14 : ((u1).1 71 4).toInt = (s.1 71 4).toInt := congrArg Int32.toInt ((fu1 71 4 rfl).1)
    exact r_zret C (n_bool (by omega)) (oDec_at oX12_takes 5 rfl) ⟨_, rfl, ⟨by omega, by omega, by omega, by omega, by omega⟩⟩
set_option maxHeartbeats 4000000 in
set_option maxRecDepth 100000 in
theorem ct6_X12_asks (l : Launch) (E : oE) (s : oS) (c1 q1 n1 : Nat) (hk1 : okd c1 = q1) (h13_1 : 13 ≤ q1) (h9_1 : q1 < 999) (ht1 : oat q1 = 1) (hn1 : oln q1 = n1) (g : Int → Int) (a : Int) (b : Int) (i : Nat) (hp0 : (s.1 71 5).toInt = 0 → ((s.1 71 2).toInt = a ∧ (s.1 71 4).toInt = b)) (hp1 : oqZ g s) (hp2 : i < 26) (hp3 : n1 = oqWl i) (hp4 : ∀ j : Nat, j < oqWl i → (s.1 c1 j).toInt = oqWc i j) (hp5 : 2 ≤ n1 ∧ n1 ≤ 7) : oMet l 4 yX12_asks cX12_asks 2 none [(12, 2), (12, 4), (12, 5), (12, 6)] E s [.ref (oad E 71), .ref (oad E c1)] (oPv (fun u => ((u.1 71 5).toInt = 0 → ((s.1 71 5).toInt = 0 ∧ oqH g a b i = 1 ∧ (u.1 71 2).toInt = oqHa g a i ∧ (u.1 71 4).toInt = oqHa g a i ∧ (u.1 71 6).toInt = (s.1 71 6).toInt)) ∧ ((u.1 71 5).toInt ≠ 0 → (((s.1 71 5).toInt = 0 ∧ oqH g a b i = 0 ∧ (u.1 71 5).toInt = 1 ∧ (u.1 71 6).toInt = oqSk g a) ∨ ((s.1 71 5).toInt ≠ 0 ∧ (u.1 71 5).toInt = (s.1 71 5).toInt ∧ (u.1 71 6).toInt = (s.1 71 6).toInt))) ∧ ((s.1 71 2).toInt ≤ (u.1 71 2).toInt))) := by
  refine oMet.of (lv := [(0, .ref (oad E 71)), (1, .ref (oad E c1))]) (by decide +kernel) (Nat.le_of_ble_eq_true rfl) rfl (fun J C hT => ?_)
  have C : oC l 4 cX12_asks RX12 2 none [(12, 2), (12, 4), (12, 5), (12, 6)] E s (oPv (fun u => ((u.1 71 5).toInt = 0 → ((s.1 71 5).toInt = 0 ∧ oqH g a b i = 1 ∧ (u.1 71 2).toInt = oqHa g a i ∧ (u.1 71 4).toInt = oqHa g a i ∧ (u.1 71 6).toInt = (s.1 71 6).toInt)) ∧ ((u.1 71 5).toInt ≠ 0 → (((s.1 71 5).toInt = 0 ∧ oqH g a b i = 0 ∧ (u.1 71 5).toInt = 1 ∧ (u.1 71 6).toInt = oqSk g a) ∨ ((s.1 71 5).toInt ≠ 0 ∧ (u.1 71 5).toInt = (s.1 71 5).toInt ∧ (u.1 71 6).toInt = (s.1 71 6).toInt))) ∧ ((s.1 71 2).toInt ≤ (u.1 71 2).toInt))) J := C
  obtain ⟨k1, qk1⟩ : ∃ z : Int32, z = 1 := ⟨_, rfl⟩
  have ek1 : k1.toInt = 1 := by rw [qk1]; rfl
  have hge := oqSk_ge g a
  have hHa : oqHa g a i = oqSk g a + (oqWl i : Int) := rfl
  refine r_aload_n C (j := 0) (oDec_at oX12_asks 0 rfl) rfl rfl ?_
  obtain ⟨v1, ev1⟩ : ∃ z : Int32, (s).1 71 5 = z := ⟨_, rfl⟩
  have gv1 : (s.1 71 5).toInt = v1.toInt := congrArg Int32.toInt (ev1)
  have rv1 := n_rng v1
  refine r_geti (k := 5) (lo := (-2147483648)) (hi := 2147483647) C v1 oCl12 rfl (by decide) flX12_173 rfl rfl (ev1) rfl rfl (oDec_at oX12_asks 1 rfl) (fun _ _ => ?_)
  refine r_if_ne C 24 (oDec_at oX12_asks 2 rfl) (by decide) (fun cd2 => ?_) (fun cd2 => ?_)
  · skip
    have lk3 : ((s).1 71 5).toInt = v1.toInt := congrArg Int32.toInt (ev1)
    have lk4 : ((s).1 71 5).toInt = v1.toInt := congrArg Int32.toInt (ev1)
    exact r_vret C (oDec_at oX12_asks 12 rfl) ⟨rfl, ⟨by omega, by omega, by omega⟩⟩
  · skip
    refine r_aload_n C (j := 0) (oDec_at oX12_asks 3 rfl) rfl rfl ?_
    refine r_aload_n C (j := 1) (oDec_at oX12_asks 4 rfl) rfl rfl ?_
    have lk5 : ((s).1 71 5).toInt = v1.toInt := congrArg Int32.toInt (ev1)
    refine r_callVi C oCl12 rfl miX12_takes mlX12_200 (ct6_X12_takes l E (s) c1 q1 n1 hk1 h13_1 h9_1 ht1 hn1 (g) (a) (b) (i) (by omega) (by omega) hp1 (by omega) (by omega) (by omega) hp4 (by omega)) (by decide) rfl rfl rfl (Nat.le_of_ble_eq_true rfl) (oDec_at oX12_asks 5 rfl) (fun r7 u6 pu6 fu6 => ?_)
    try dsimp only at pu6
    try simp only [lk5] at pu6
    obtain ⟨pu6_0, pu6_1, pu6_2, pu6_3, pu6_4⟩ := pu6
    have rr7 := n_rng r7
    refine r_if_ne C 24 (oDec_at oX12_asks 6 rfl) (by decide) (fun cd8 => ?_) (fun cd8 => ?_)
    · skip
      replace pu6_1 := pu6_1 (by omega)
      clear pu6_2
      have lk9 : ((u6).1 71 5).toInt = v1.toInt := congrArg Int32.toInt (((fu6 71 5 rfl).1).trans (ev1))
      have lk10 : ((u6).1 71 6).toInt = (s.1 71 6).toInt := congrArg Int32.toInt ((fu6 71 6 rfl).1)
      have lk11 : ((u6).1 71 5).toInt = v1.toInt := congrArg Int32.toInt (((fu6 71 5 rfl).1).trans (ev1))
      have lk12 : ((u6).1 71 6).toInt = (s.1 71 6).toInt := congrArg Int32.toInt ((fu6 71 6 rfl).1)
      exact r_vret C (oDec_at oX12_asks 12 rfl) ⟨rfl, ⟨by omega, by omega, by omega⟩⟩
    · skip
      clear pu6_1
      replace pu6_2 := pu6_2 (by omega)
      refine r_aload_n C (j := 0) (oDec_at oX12_asks 7 rfl) rfl rfl ?_
      refine r_iconst C (oDec_at oX12_asks 8 rfl) (v := k1) (by rw [qk1]; rfl) ?_
      refine r_aload_n C (j := 0) (oDec_at oX12_asks 9 rfl) rfl rfl ?_
      obtain ⟨v13, ev13⟩ : ∃ z : Int32, (u6).1 71 2 = z := ⟨_, rfl⟩
      have gv13 : (u6.1 71 2).toInt = v13.toInt := congrArg Int32.toInt (ev13)
      refine r_geti (k := 2) (lo := 0) (hi := 1600) C v13 oCl12 rfl (by decide) flX12_179 rfl rfl (ev13) rfl rfl (oDec_at oX12_asks 10 rfl) (fun b14 b14h => ?_)
      have lk15 : ((u6).1 71 5).toInt = v1.toInt := congrArg Int32.toInt (((fu6 71 5 rfl).1).trans (ev1))
      have lk16 : ((u6).1 71 5).toInt = v1.toInt := congrArg Int32.toInt (((fu6 71 5 rfl).1).trans (ev1))
      have lk17 : ((u6).1 71 6).toInt = (s.1 71 6).toInt := congrArg Int32.toInt ((fu6 71 6 rfl).1)
      refine r_callVv C oCl12 rfl miX12_fail mlX12_203 (ct4_X12_fail l E (u6) k1 v13 ) (by decide) rfl rfl rfl (Nat.le_of_ble_eq_true rfl) (oDec_at oX12_asks 11 rfl) (fun u18 pu18 fu18 => ?_)
      try dsimp only at pu18
      try simp only [lk15, lk16, lk17] at pu18
      obtain ⟨pu18_0, pu18_1⟩ := pu18
      have lk20 : ((u18).1 71 2).toInt = v13.toInt := congrArg Int32.toInt (((fu18 71 2 rfl).1).trans (ev13))
      have lk21 : ((u18).1 71 4).toInt = (u6.1 71 4).toInt := congrArg Int32.toInt ((fu18 71 4 rfl).1)
      have lk22 : ((u18).1 71 2).toInt = v13.toInt := congrArg Int32.toInt (((fu18 71 2 rfl).1).trans (ev13))
      exact r_vret C (oDec_at oX12_asks 12 rfl) ⟨rfl, ⟨by omega, by omega, by omega⟩⟩
set_option maxHeartbeats 4000000 in
set_option maxRecDepth 100000 in
theorem ct6_X12_takesSign (l : Launch) (E : oE) (s : oS) (a1 : Int32) (g : Int → Int) (a : Int) (c : Int) (hp0 : (s.1 71 5).toInt = 0 → (s.1 71 2).toInt = a) (hp1 : oqZ g s) (hp2 : a1.toInt = c) (hp3 : 0 ≤ c) : oMet l 2 yX12_takesSign cX12_takesSign 2 (some .boolean) [(12, 2)] E s [.ref (oad E 71), .int a1] (oPi (fun r u => (0 ≤ r.toInt ∧ r.toInt ≤ 1) ∧ (r.toInt = 1 → ((s.1 71 5).toInt = 0 ∧ g (oqSk g a) = c ∧ (u.1 71 2).toInt = oqSk g a + 1)) ∧ (r.toInt = 0 → (s.1 71 5).toInt = 0 → (g (oqSk g a) ≠ c ∧ (u.1 71 2).toInt = oqSk g a)) ∧ ((s.1 71 5).toInt = 0 → g (oqSk g a) ≠ 32 ∧ g (oqSk g a) ≠ 10) ∧ ((s.1 71 2).toInt ≤ (u.1 71 2).toInt))) := by
  refine oMet.of (lv := [(0, .ref (oad E 71)), (1, .int a1)]) (by decide +kernel) (Nat.le_of_ble_eq_true rfl) rfl (fun J C hT => ?_)
  have C : oC l 2 cX12_takesSign RX12 2 (some .boolean) [(12, 2)] E s (oPi (fun r u => (0 ≤ r.toInt ∧ r.toInt ≤ 1) ∧ (r.toInt = 1 → ((s.1 71 5).toInt = 0 ∧ g (oqSk g a) = c ∧ (u.1 71 2).toInt = oqSk g a + 1)) ∧ (r.toInt = 0 → (s.1 71 5).toInt = 0 → (g (oqSk g a) ≠ c ∧ (u.1 71 2).toInt = oqSk g a)) ∧ ((s.1 71 5).toInt = 0 → g (oqSk g a) ≠ 32 ∧ g (oqSk g a) ≠ 10) ∧ ((s.1 71 2).toInt ≤ (u.1 71 2).toInt))) J := C
  obtain ⟨k0, qk0⟩ : ∃ z : Int32, z = 0 := ⟨_, rfl⟩
  have ek0 : k0.toInt = 0 := by rw [qk0]; rfl
  obtain ⟨k1, qk1⟩ : ∃ z : Int32, z = 1 := ⟨_, rfl⟩
  have ek1 : k1.toInt = 1 := by rw [qk1]; rfl
  have rg1 := n_rng a1
  have hge := oqSk_ge g a
  refine r_aload_n C (j := 0) (oDec_at oX12_takesSign 0 rfl) rfl rfl ?_
  obtain ⟨v1, ev1⟩ : ∃ z : Int32, (s).1 71 5 = z := ⟨_, rfl⟩
  have gv1 : (s.1 71 5).toInt = v1.toInt := congrArg Int32.toInt (ev1)
  have rv1 := n_rng v1
  refine r_geti (k := 5) (lo := (-2147483648)) (hi := 2147483647) C v1 oCl12 rfl (by decide) flX12_173 rfl rfl (ev1) rfl rfl (oDec_at oX12_takesSign 1 rfl) (fun _ _ => ?_)
  refine r_if_ne C 15 (oDec_at oX12_takesSign 2 rfl) (by decide) (fun cd2 => ?_) (fun cd2 => ?_)
  · skip
    refine r_iconst C (oDec_at oX12_takesSign 7 rfl) (v := k0) (by rw [qk0]; rfl) ?_
    exact r_zret C (n_bool (by omega)) (oDec_at oX12_takesSign 8 rfl) ⟨_, rfl, ⟨by omega, by omega, by omega, by omega, by omega⟩⟩
  · skip
    refine r_aload_n C (j := 0) (oDec_at oX12_takesSign 3 rfl) rfl rfl ?_
    refine r_callVi C oCl12 rfl miX12_look mlX12_185 (ct4_X12_look l E (s)  (g) (a) (by omega) hp1) (by decide) rfl rfl rfl (Nat.le_of_ble_eq_true rfl) (oDec_at oX12_takesSign 4 rfl) (fun r4 u3 pu3 fu3 => ?_)
    try dsimp only at pu3
    obtain ⟨pu3_0, pu3_1, pu3_2, pu3_3, pu3_4, pu3_5⟩ := pu3
    have rr4 := n_rng r4
    refine r_iload_n C (j := 1) (oDec_at oX12_takesSign 5 rfl) rfl rfl ?_
    refine r_icmp_eq C 17 (oDec_at oX12_takesSign 6 rfl) (by decide) (fun cd5 => ?_) (fun cd5 => ?_)
    · skip
      refine r_aload_n C (j := 0) (oDec_at oX12_takesSign 9 rfl) rfl rfl ?_
      refine r_dup C (oDec_at oX12_takesSign 10 rfl) rfl ?_
      obtain ⟨v6, ev6⟩ : ∃ z : Int32, (u3).1 71 2 = z := ⟨_, rfl⟩
      have gv6 : (u3.1 71 2).toInt = v6.toInt := congrArg Int32.toInt (ev6)
      refine r_geti (k := 2) (lo := 0) (hi := 1600) C v6 oCl12 rfl (by decide) flX12_179 rfl rfl (ev6) rfl rfl (oDec_at oX12_takesSign 11 rfl) (fun b7 b7h => ?_)
      refine r_iconst C (oDec_at oX12_takesSign 12 rfl) (v := k1) (by rw [qk1]; rfl) ?_
      obtain ⟨v8, ev8⟩ : ∃ z : Int32, z = v6 + k1 := ⟨_, rfl⟩
      have hv8 : v8.toInt = v6.toInt + k1.toInt := n_add ev8 (by omega) (by omega)
      refine r_iadd C v8 (oDec_at oX12_takesSign 13 rfl) ev8 ?_
      refine r_puti (k := 2) (lo := 0) (hi := 1600) C oCl12 rfl (by decide) flX12_179 rfl rfl rfl rfl rfl rfl rfl rfl ⟨by omega, by omega⟩ (oDec_at oX12_takesSign 14 rfl) ?_
      refine r_pc C 27 rfl ?_
      refine r_iconst C (oDec_at oX12_takesSign 15 rfl) (v := k1) (by rw [qk1]; rfl) ?_
      have lk9 : (((pI u3 71 2 v8)).1 71 2).toInt = v8.toInt := congrArg Int32.toInt ((pI_self _ _ _ _))
      have lk10 : (((pI u3 71 2 v8)).1 71 2).toInt = v8.toInt := congrArg Int32.toInt ((pI_self _ _ _ _))
      have lk11 : (((pI u3 71 2 v8)).1 71 2).toInt = v8.toInt := congrArg Int32.toInt ((pI_self _ _ _ _))
      exact r_zret C (n_bool (by omega)) (oDec_at oX12_takesSign 16 rfl) ⟨_, rfl, ⟨by omega, by omega, by omega, by omega, by omega⟩⟩
    · skip
      refine r_iconst C (oDec_at oX12_takesSign 7 rfl) (v := k0) (by rw [qk0]; rfl) ?_
      exact r_zret C (n_bool (by omega)) (oDec_at oX12_takesSign 8 rfl) ⟨_, rfl, ⟨by omega, by omega, by omega, by omega, by omega⟩⟩
set_option maxHeartbeats 4000000 in
set_option maxRecDepth 100000 in
theorem ct6_X12_asksSign (l : Launch) (E : oE) (s : oS) (a1 : Int32) (g : Int → Int) (a : Int) (c : Int) (hp0 : (s.1 71 5).toInt = 0 → (s.1 71 2).toInt = a) (hp1 : oqZ g s) (hp2 : a1.toInt = c) (hp3 : 0 ≤ c) : oMet l 3 yX12_asksSign cX12_asksSign 2 none [(12, 2), (12, 5), (12, 6)] E s [.ref (oad E 71), .int a1] (oPv (fun u => ((u.1 71 5).toInt = 0 → ((s.1 71 5).toInt = 0 ∧ g (oqSk g a) = c ∧ (u.1 71 2).toInt = oqSk g a + 1 ∧ (u.1 71 6).toInt = (s.1 71 6).toInt)) ∧ ((u.1 71 5).toInt ≠ 0 → (((s.1 71 5).toInt = 0 ∧ g (oqSk g a) ≠ c ∧ (u.1 71 5).toInt = 1 ∧ (u.1 71 6).toInt = oqSk g a) ∨ ((s.1 71 5).toInt ≠ 0 ∧ (u.1 71 5).toInt = (s.1 71 5).toInt ∧ (u.1 71 6).toInt = (s.1 71 6).toInt))) ∧ ((s.1 71 2).toInt ≤ (u.1 71 2).toInt) ∧ ((s.1 71 5).toInt = 0 → (g (oqSk g a) ≠ 32 ∧ g (oqSk g a) ≠ 10)))) := by
  refine oMet.of (lv := [(0, .ref (oad E 71)), (1, .int a1)]) (by decide +kernel) (Nat.le_of_ble_eq_true rfl) rfl (fun J C hT => ?_)
  have C : oC l 3 cX12_asksSign RX12 2 none [(12, 2), (12, 5), (12, 6)] E s (oPv (fun u => ((u.1 71 5).toInt = 0 → ((s.1 71 5).toInt = 0 ∧ g (oqSk g a) = c ∧ (u.1 71 2).toInt = oqSk g a + 1 ∧ (u.1 71 6).toInt = (s.1 71 6).toInt)) ∧ ((u.1 71 5).toInt ≠ 0 → (((s.1 71 5).toInt = 0 ∧ g (oqSk g a) ≠ c ∧ (u.1 71 5).toInt = 1 ∧ (u.1 71 6).toInt = oqSk g a) ∨ ((s.1 71 5).toInt ≠ 0 ∧ (u.1 71 5).toInt = (s.1 71 5).toInt ∧ (u.1 71 6).toInt = (s.1 71 6).toInt))) ∧ ((s.1 71 2).toInt ≤ (u.1 71 2).toInt) ∧ ((s.1 71 5).toInt = 0 → (g (oqSk g a) ≠ 32 ∧ g (oqSk g a) ≠ 10)))) J := C
  obtain ⟨k1, qk1⟩ : ∃ z : Int32, z = 1 := ⟨_, rfl⟩
  have ek1 : k1.toInt = 1 := by rw [qk1]; rfl
  have rg1 := n_rng a1
  have hge := oqSk_ge g a
  refine r_aload_n C (j := 0) (oDec_at oX12_asksSign 0 rfl) rfl rfl ?_
  obtain ⟨v1, ev1⟩ : ∃ z : Int32, (s).1 71 5 = z := ⟨_, rfl⟩
  have gv1 : (s.1 71 5).toInt = v1.toInt := congrArg Int32.toInt (ev1)
  have rv1 := n_rng v1
  refine r_geti (k := 5) (lo := (-2147483648)) (hi := 2147483647) C v1 oCl12 rfl (by decide) flX12_173 rfl rfl (ev1) rfl rfl (oDec_at oX12_asksSign 1 rfl) (fun _ _ => ?_)
  refine r_if_ne C 24 (oDec_at oX12_asksSign 2 rfl) (by decide) (fun cd2 => ?_) (fun cd2 => ?_)
  · skip
    have lk3 : ((s).1 71 5).toInt = v1.toInt := congrArg Int32.toInt (ev1)
    have lk4 : ((s).1 71 5).toInt = v1.toInt := congrArg Int32.toInt (ev1)
    exact r_vret C (oDec_at oX12_asksSign 12 rfl) ⟨rfl, ⟨by omega, by omega, by omega, by omega⟩⟩
  · skip
    refine r_aload_n C (j := 0) (oDec_at oX12_asksSign 3 rfl) rfl rfl ?_
    refine r_iload_n C (j := 1) (oDec_at oX12_asksSign 4 rfl) rfl rfl ?_
    have lk5 : ((s).1 71 5).toInt = v1.toInt := congrArg Int32.toInt (ev1)
    have lk6 : ((s).1 71 5).toInt = v1.toInt := congrArg Int32.toInt (ev1)
    have lk7 : ((s).1 71 5).toInt = v1.toInt := congrArg Int32.toInt (ev1)
    have lk8 : ((s).1 71 5).toInt = v1.toInt := congrArg Int32.toInt (ev1)
    refine r_callVi C oCl12 rfl miX12_takesSign mlX12_207 (ct6_X12_takesSign l E (s) a1 (g) (a) (c) (by omega) hp1 (by omega) (by omega)) (by decide) rfl rfl rfl (Nat.le_of_ble_eq_true rfl) (oDec_at oX12_asksSign 5 rfl) (fun r10 u9 pu9 fu9 => ?_)
    try dsimp only at pu9
    try simp only [lk5, lk6, lk7, lk8] at pu9
    obtain ⟨pu9_0, pu9_1, pu9_2, pu9_3, pu9_4⟩ := pu9
    have rr10 := n_rng r10
    refine r_if_ne C 24 (oDec_at oX12_asksSign 6 rfl) (by decide) (fun cd11 => ?_) (fun cd11 => ?_)
    · skip
      replace pu9_1 := pu9_1 (by omega)
      clear pu9_2
      have lk12 : ((u9).1 71 5).toInt = v1.toInt := congrArg Int32.toInt (((fu9 71 5 rfl).1).trans (ev1))
      have lk13 : ((u9).1 71 6).toInt = (s.1 71 6).toInt := congrArg Int32.toInt ((fu9 71 6 rfl).1)
      have lk14 : ((u9).1 71 5).toInt = v1.toInt := congrArg Int32.toInt (((fu9 71 5 rfl).1).trans (ev1))
      have lk15 : ((u9).1 71 6).toInt = (s.1 71 6).toInt := congrArg Int32.toInt ((fu9 71 6 rfl).1)
      exact r_vret C (oDec_at oX12_asksSign 12 rfl) ⟨rfl, ⟨by omega, by omega, by omega, by omega⟩⟩
    · skip
      clear pu9_1
      replace pu9_2 := pu9_2 (by omega)
      refine r_aload_n C (j := 0) (oDec_at oX12_asksSign 7 rfl) rfl rfl ?_
      refine r_iconst C (oDec_at oX12_asksSign 8 rfl) (v := k1) (by rw [qk1]; rfl) ?_
      refine r_aload_n C (j := 0) (oDec_at oX12_asksSign 9 rfl) rfl rfl ?_
      obtain ⟨v16, ev16⟩ : ∃ z : Int32, (u9).1 71 2 = z := ⟨_, rfl⟩
      have gv16 : (u9.1 71 2).toInt = v16.toInt := congrArg Int32.toInt (ev16)
      refine r_geti (k := 2) (lo := 0) (hi := 1600) C v16 oCl12 rfl (by decide) flX12_179 rfl rfl (ev16) rfl rfl (oDec_at oX12_asksSign 10 rfl) (fun b17 b17h => ?_)
      have lk18 : ((u9).1 71 5).toInt = v1.toInt := congrArg Int32.toInt (((fu9 71 5 rfl).1).trans (ev1))
      have lk19 : ((u9).1 71 5).toInt = v1.toInt := congrArg Int32.toInt (((fu9 71 5 rfl).1).trans (ev1))
      have lk20 : ((u9).1 71 6).toInt = (s.1 71 6).toInt := congrArg Int32.toInt ((fu9 71 6 rfl).1)
      refine r_callVv C oCl12 rfl miX12_fail mlX12_203 (ct4_X12_fail l E (u9) k1 v16 ) (by decide) rfl rfl rfl (Nat.le_of_ble_eq_true rfl) (oDec_at oX12_asksSign 11 rfl) (fun u21 pu21 fu21 => ?_)
      try dsimp only at pu21
      try simp only [lk18, lk19, lk20] at pu21
      obtain ⟨pu21_0, pu21_1⟩ := pu21
      have lk23 : ((u21).1 71 2).toInt = v16.toInt := congrArg Int32.toInt (((fu21 71 2 rfl).1).trans (ev16))
      have lk24 : ((u21).1 71 2).toInt = v16.toInt := congrArg Int32.toInt (((fu21 71 2 rfl).1).trans (ev16))
      exact r_vret C (oDec_at oX12_asksSign 12 rfl) ⟨rfl, ⟨by omega, by omega, by omega, by omega⟩⟩
set_option maxHeartbeats 4000000 in
set_option maxRecDepth 100000 in
theorem ct6_X12_number (l : Launch) (E : oE) (s : oS) (a1 : Int32) (a2 : Int32) (g : Int → Int) (a : Int) (b : Int) (lo : Int) (hi : Int) (hp0 : (s.1 71 5).toInt = 0 → ((s.1 71 2).toInt = a ∧ (s.1 71 4).toInt = b)) (hp1 : oqZ g s) (hp2 : a1.toInt = lo) (hp3 : a2.toInt = hi) : oMet l 2 yX12_number cX12_number 4 (some .int) [(12, 2), (12, 4), (12, 5), (12, 6), (12, 9)] E s [.ref (oad E 71), .int a1, .int a2] (oPi (fun r u => (0 ≤ r.toInt ∧ r.toInt ≤ 9999) ∧ ((u.1 71 5).toInt = 0 → ((s.1 71 5).toInt = 0 ∧ oqNk g a b lo hi = 0 ∧ r.toInt = oqNv g a ∧ lo ≤ r.toInt ∧ r.toInt ≤ hi ∧ (u.1 71 2).toInt = oqNa g a ∧ (u.1 71 4).toInt = oqNa g a ∧ (u.1 71 9).toInt = oqSk g a ∧ (u.1 71 6).toInt = (s.1 71 6).toInt)) ∧ ((u.1 71 5).toInt ≠ 0 → (((s.1 71 5).toInt = 0 ∧ oqNk g a b lo hi ≠ 0 ∧ (u.1 71 5).toInt = oqNk g a b lo hi ∧ (u.1 71 6).toInt = oqNp g a b) ∨ ((s.1 71 5).toInt ≠ 0 ∧ (u.1 71 5).toInt = (s.1 71 5).toInt ∧ (u.1 71 6).toInt = (s.1 71 6).toInt))) ∧ ((s.1 71 2).toInt ≤ (u.1 71 2).toInt))) := by
  refine oMet.of (lv := [(0, .ref (oad E 71)), (1, .int a1), (2, .int a2)]) (by decide +kernel) (Nat.le_of_ble_eq_true rfl) rfl (fun J C hT => ?_)
  have C : oC l 2 cX12_number RX12 4 (some .int) [(12, 2), (12, 4), (12, 5), (12, 6), (12, 9)] E s (oPi (fun r u => (0 ≤ r.toInt ∧ r.toInt ≤ 9999) ∧ ((u.1 71 5).toInt = 0 → ((s.1 71 5).toInt = 0 ∧ oqNk g a b lo hi = 0 ∧ r.toInt = oqNv g a ∧ lo ≤ r.toInt ∧ r.toInt ≤ hi ∧ (u.1 71 2).toInt = oqNa g a ∧ (u.1 71 4).toInt = oqNa g a ∧ (u.1 71 9).toInt = oqSk g a ∧ (u.1 71 6).toInt = (s.1 71 6).toInt)) ∧ ((u.1 71 5).toInt ≠ 0 → (((s.1 71 5).toInt = 0 ∧ oqNk g a b lo hi ≠ 0 ∧ (u.1 71 5).toInt = oqNk g a b lo hi ∧ (u.1 71 6).toInt = oqNp g a b) ∨ ((s.1 71 5).toInt ≠ 0 ∧ (u.1 71 5).toInt = (s.1 71 5).toInt ∧ (u.1 71 6).toInt = (s.1 71 6).toInt))) ∧ ((s.1 71 2).toInt ≤ (u.1 71 2).toInt))) J := C
  obtain ⟨k0, qk0⟩ : ∃ z : Int32, z = 0 := ⟨_, rfl⟩
  have ek0 : k0.toInt = 0 := by rw [qk0]; rfl
  obtain ⟨k1, qk1⟩ : ∃ z : Int32, z = 1 := ⟨_, rfl⟩
  have ek1 : k1.toInt = 1 := by rw [qk1]; rfl
  obtain ⟨k2, qk2⟩ : ∃ z : Int32, z = 2 := ⟨_, rfl⟩
  have ek2 : k2.toInt = 2 := by rw [qk2]; rfl
  obtain ⟨k4, qk4⟩ : ∃ z : Int32, z = 4 := ⟨_, rfl⟩
  have ek4 : k4.toInt = 4 := by rw [qk4]; rfl
  obtain ⟨k10, qk10⟩ : ∃ z : Int32, z = 10 := ⟨_, rfl⟩
  have ek10 : k10.toInt = 10 := by rw [qk10]; rfl
  obtain ⟨k48, qk48⟩ : ∃ z : Int32, z = 48 := ⟨_, rfl⟩
  have ek48 : k48.toInt = 48 := by rw [qk48]; rfl
  have rg1 := n_rng a1
  have rg2 := n_rng a2
  have htE : (0 : Int) ≤ (s.1 71 3).toInt ∧ (s.1 71 3).toInt ≤ 1600 := hT.1 71 3
  have hge := oqSk_ge g a
  have key : ∀ n : Nat, (∀ (t : oS) (x3 : Int32), (oqZ g t) → ((t.1 71 9).toInt = oqSk g a ∧ oqSk g a ≤ (t.1 71 2).toInt ∧ (t.1 71 2).toInt ≤ oqSk g a + 4 ∧ 0 ≤ oqSk g a ∧ (t.1 71 3).toInt ≤ 1600) → ((t.1 71 5).toInt = 0 ∧ (s.1 71 5).toInt = 0 ∧ (t.1 71 6).toInt = (s.1 71 6).toInt) → (oqDs g (oqSk g a) ((t.1 71 2).toInt - oqSk g a)) → (x3.toInt = oqDv g (oqSk g a) ((t.1 71 2).toInt - oqSk g a).toNat) → (((t.1 71 2).toInt = (t.1 71 9).toInt ∧ x3.toInt = 0) ∨ ((t.1 71 2).toInt = (t.1 71 9).toInt + 1 ∧ x3.toInt ≤ 9) ∨ ((t.1 71 2).toInt = (t.1 71 9).toInt + 2 ∧ x3.toInt ≤ 99) ∨ ((t.1 71 2).toInt = (t.1 71 9).toInt + 3 ∧ x3.toInt ≤ 999) ∨ ((t.1 71 2).toInt = (t.1 71 9).toInt + 4 ∧ x3.toInt ≤ 9999)) → (0 ≤ x3.toInt) → (48 ≤ g (oqSk g a) ∧ g (oqSk g a) ≤ 57) → (oqSk g a ≠ b) → 1601 - (t.1 71 2).toInt ≤ (n : Int) → J t 51 [(0, .ref (oad E 71)), (1, .int a1), (2, .int a2), (3, .int x3)] []) := by
    intro n
    induction n using Nat.strongRecOn with
    | _ n ih =>
      skip
      · intro t x3  iv0 iv1 iv2 iv3 iv4 iv5 iv6 iv7 iv8 hmu
        have rx3 := n_rng x3
        refine r_aload_n C (j := 0) (oDec_at oX12_number 27 rfl) rfl rfl ?_
        obtain ⟨v1, ev1⟩ : ∃ z : Int32, (t).1 71 2 = z := ⟨_, rfl⟩
        have gv1 : (t.1 71 2).toInt = v1.toInt := congrArg Int32.toInt (ev1)
        refine r_geti (k := 2) (lo := 0) (hi := 1600) C v1 oCl12 rfl (by decide) flX12_179 rfl rfl (ev1) rfl rfl (oDec_at oX12_number 28 rfl) (fun b2 b2h => ?_)
        refine r_aload_n C (j := 0) (oDec_at oX12_number 29 rfl) rfl rfl ?_
        obtain ⟨v3, ev3⟩ : ∃ z : Int32, (t).1 71 3 = z := ⟨_, rfl⟩
        have gv3 : (t.1 71 3).toInt = v3.toInt := congrArg Int32.toInt (ev3)
        refine r_geti (k := 3) (lo := 0) (hi := 1600) C v3 oCl12 rfl (by decide) flX12_182 rfl rfl (ev3) rfl rfl (oDec_at oX12_number 30 rfl) (fun b4 b4h => ?_)
        refine r_icmp_ge C 132 (oDec_at oX12_number 31 rfl) (by decide) (fun cd5 => ?_) (fun cd5 => ?_)
        · skip
          have hrg := oqDn_rg g (oqSk g a)
          have hnd : ¬ (48 ≤ g (oqSk g a + ((t.1 71 2).toInt - oqSk g a)) ∧ g (oqSk g a + ((t.1 71 2).toInt - oqSk g a)) ≤ 57) := by first | omega | (have h9 := oqZ_no iv0 (a := oqSk g a + ((t.1 71 2).toInt - oqSk g a)) (by omega); omega)
          have hdn := oqDn_of iv3 (by omega) (by omega) hnd
          have hnv := oqNv_oi (g := g) (a := a) rfl hdn iv4
          have hna : oqNa g a = oqSk g a + oqDn g (oqSk g a) := rfl
          refine r_aload_n C (j := 0) (oDec_at oX12_number 72 rfl) rfl rfl ?_
          refine r_aload_n C (j := 0) (oDec_at oX12_number 73 rfl) rfl rfl ?_
          refine r_geti (k := 2) (lo := 0) (hi := 1600) C v1 oCl12 rfl (by decide) flX12_179 rfl rfl (ev1) rfl rfl (oDec_at oX12_number 74 rfl) (fun _ _ => ?_)
          refine r_puti (k := 4) (lo := (-1)) (hi := 1600) C oCl12 rfl (by decide) flX12_193 rfl rfl rfl rfl rfl rfl rfl rfl ⟨by omega, by omega⟩ (oDec_at oX12_number 75 rfl) ?_
          refine r_iload_n C (j := 3) (oDec_at oX12_number 76 rfl) rfl rfl ?_
          obtain ⟨v6, ev6⟩ : ∃ z : Int64, x3.toInt64 = z := ⟨_, rfl⟩
          have hv6 : v6.toInt = x3.toInt := n_i2l ev6
          refine r_i2l C v6 (oDec_at oX12_number 77 rfl) ev6 ?_
          refine r_pc C 142 rfl ?_
          refine r_iload_n C (j := 1) (oDec_at oX12_number 78 rfl) rfl rfl ?_
          obtain ⟨v7, ev7⟩ : ∃ z : Int64, a1.toInt64 = z := ⟨_, rfl⟩
          have hv7 : v7.toInt = a1.toInt := n_i2l ev7
          refine r_i2l C v7 (oDec_at oX12_number 79 rfl) ev7 ?_
          refine r_iload_n C (j := 2) (oDec_at oX12_number 80 rfl) rfl rfl ?_
          obtain ⟨v8, ev8⟩ : ∃ z : Int64, a2.toInt64 = z := ⟨_, rfl⟩
          have hv8 : v8.toInt = a2.toInt := n_i2l ev8
          refine r_i2l C v8 (oDec_at oX12_number 81 rfl) ev8 ?_
          refine r_callSi C miX12_isIn mlX12_216 (ct_X12_isIn l E ((pI t 71 4 v1)) v6 v7 v8 ) (by decide) rfl rfl rfl (Nat.le_of_ble_eq_true rfl) (oDec_at oX12_number 82 rfl) (fun r10 u9 pu9 fu9 => ?_)
          try dsimp only at pu9
          obtain ⟨pu9_0, pu9_1⟩ := pu9
          have hxu9 := oFr_nil fu9; subst hxu9
          have rr10 := n_rng r10
          refine r_if_ne C 161 (oDec_at oX12_number 83 rfl) (by decide) (fun cd11 => ?_) (fun cd11 => ?_)
          · skip
            refine r_iload_n C (j := 3) (oDec_at oX12_number 89 rfl) rfl rfl ?_
            have lk12 : (((pI t 71 4 v1)).1 71 5).toInt = (t.1 71 5).toInt := congrArg Int32.toInt ((pI_ne (a := 71) (b := 5) (c := 71) (k := 4) _ _ (Or.inr (by decide))))
            have lk13 : (((pI t 71 4 v1)).1 71 2).toInt = v1.toInt := congrArg Int32.toInt (((pI_ne (a := 71) (b := 2) (c := 71) (k := 4) _ _ (Or.inr (by decide)))).trans (ev1))
            have lk14 : (((pI t 71 4 v1)).1 71 4).toInt = v1.toInt := congrArg Int32.toInt ((pI_self _ _ _ _))
            have lk15 : (((pI t 71 4 v1)).1 71 9).toInt = (t.1 71 9).toInt := congrArg Int32.toInt ((pI_ne (a := 71) (b := 9) (c := 71) (k := 4) _ _ (Or.inr (by decide))))
            have lk16 : (((pI t 71 4 v1)).1 71 6).toInt = (t.1 71 6).toInt := congrArg Int32.toInt ((pI_ne (a := 71) (b := 6) (c := 71) (k := 4) _ _ (Or.inr (by decide))))
            have lk17 : (((pI t 71 4 v1)).1 71 5).toInt = (t.1 71 5).toInt := congrArg Int32.toInt ((pI_ne (a := 71) (b := 5) (c := 71) (k := 4) _ _ (Or.inr (by decide))))
            have lk18 : (((pI t 71 4 v1)).1 71 6).toInt = (t.1 71 6).toInt := congrArg Int32.toInt ((pI_ne (a := 71) (b := 6) (c := 71) (k := 4) _ _ (Or.inr (by decide))))
            have lk19 : (((pI t 71 4 v1)).1 71 2).toInt = v1.toInt := congrArg Int32.toInt (((pI_ne (a := 71) (b := 2) (c := 71) (k := 4) _ _ (Or.inr (by decide)))).trans (ev1))
            exact r_iret C (oDec_at oX12_number 90 rfl) ⟨_, rfl, ⟨by omega, by first | (intro h; exfalso; omega) | (have hN := oqN_0 (g := g) (a := a) (b := b) (lo := lo) (hi := hi) (by omega) hdn (by omega) (by omega); omega), by omega, by omega⟩⟩
          · skip
            have hN := oqN_2 (g := g) (a := a) (b := b) (lo := lo) (hi := hi) (by omega) hdn (by omega) (by omega)
            refine r_aload_n C (j := 0) (oDec_at oX12_number 84 rfl) rfl rfl ?_
            refine r_iconst C (oDec_at oX12_number 85 rfl) (v := k2) (by rw [qk2]; rfl) ?_
            refine r_aload_n C (j := 0) (oDec_at oX12_number 86 rfl) rfl rfl ?_
            obtain ⟨v20, ev20⟩ : ∃ z : Int32, ((pI t 71 4 v1)).1 71 9 = z := ⟨_, rfl⟩
            have gv20 : (t.1 71 9).toInt = v20.toInt := congrArg Int32.toInt (((pI_ne (a := 71) (b := 9) (c := 71) (k := 4) _ _ (Or.inr (by decide)))).symm.trans ev20)
            have ggv20 : (((pI t 71 4 v1)).1 71 9).toInt = v20.toInt := congrArg Int32.toInt ev20
            have rv20 := n_rng v20
            refine r_geti (k := 9) (lo := (-2147483648)) (hi := 2147483647) C v20 oCl12 rfl (by decide) flX12_213 rfl rfl (ev20) rfl rfl (oDec_at oX12_number 87 rfl) (fun _ _ => ?_)
            have lk21 : (((pI t 71 4 v1)).1 71 5).toInt = (t.1 71 5).toInt := congrArg Int32.toInt ((pI_ne (a := 71) (b := 5) (c := 71) (k := 4) _ _ (Or.inr (by decide))))
            have lk22 : (((pI t 71 4 v1)).1 71 5).toInt = (t.1 71 5).toInt := congrArg Int32.toInt ((pI_ne (a := 71) (b := 5) (c := 71) (k := 4) _ _ (Or.inr (by decide))))
            have lk23 : (((pI t 71 4 v1)).1 71 6).toInt = (t.1 71 6).toInt := congrArg Int32.toInt ((pI_ne (a := 71) (b := 6) (c := 71) (k := 4) _ _ (Or.inr (by decide))))
            refine r_callVv C oCl12 rfl miX12_fail mlX12_203 (ct4_X12_fail l E ((pI t 71 4 v1)) k2 v20 ) (by decide) rfl rfl rfl (Nat.le_of_ble_eq_true rfl) (oDec_at oX12_number 88 rfl) (fun u24 pu24 fu24 => ?_)
            try dsimp only at pu24
            try simp only [lk21, lk22, lk23] at pu24
            obtain ⟨pu24_0, pu24_1⟩ := pu24
            refine r_iload_n C (j := 3) (oDec_at oX12_number 89 rfl) rfl rfl ?_
            refine r_pc C 162 rfl ?_
            have lk26 : ((u24).1 71 2).toInt = v1.toInt := congrArg Int32.toInt (((fu24 71 2 rfl).1).trans (((pI_ne (a := 71) (b := 2) (c := 71) (k := 4) _ _ (Or.inr (by decide)))).trans (ev1)))
            have lk27 : ((u24).1 71 4).toInt = v1.toInt := congrArg Int32.toInt (((fu24 71 4 rfl).1).trans ((pI_self _ _ _ _)))
            have lk28 : ((u24).1 71 9).toInt = v20.toInt := congrArg Int32.toInt (((fu24 71 9 rfl).1).trans (ev20))
            have lk29 : ((u24).1 71 2).toInt = v1.toInt := congrArg Int32.toInt (((fu24 71 2 rfl).1).trans (((pI_ne (a := 71) (b := 2) (c := 71) (k := 4) _ _ (Or.inr (by decide)))).trans (ev1)))
            exact r_iret C (oDec_at oX12_number 90 rfl) ⟨_, rfl, ⟨by omega, by first | (intro h; exfalso; omega) | (have hN := oqN_0 (g := g) (a := a) (b := b) (lo := lo) (hi := hi) (by omega) hdn (by omega) (by omega); omega), by omega, by omega⟩⟩
        · skip
          refine r_aload_n C (j := 0) (oDec_at oX12_number 32 rfl) rfl rfl ?_
          refine r_getF (k := 0) (b := 72) C oCl12 rfl (by decide) flX12_7 rfl rfl rfl (oDec_at oX12_number 33 rfl) ?_
          refine r_aload_n C (j := 0) (oDec_at oX12_number 34 rfl) rfl rfl ?_
          refine r_geti (k := 2) (lo := 0) (hi := 1600) C v1 oCl12 rfl (by decide) flX12_179 rfl rfl (ev1) rfl rfl (oDec_at oX12_number 35 rfl) (fun _ _ => ?_)
          obtain ⟨v31, ev31⟩ : ∃ z : Int32, (t).1 72 v1.toNatClampNeg = z := ⟨_, rfl⟩
          have gv31 : (t.1 72 v1.toNatClampNeg).toInt = v31.toInt := congrArg Int32.toInt (ev31)
          refine r_iald (n := 1600) (lo := 0) (hi := 255) C v31 rfl (by decide) rfl rfl ⟨by omega, by omega⟩ (by decide) ev31 rfl rfl (oDec_at oX12_number 36 rfl) (fun b30 b30h => ?_)
          have la32 : ((t).1 72 ((t).1 71 2).toNatClampNeg).toInt = v31.toInt := by rw [ev1, ev31]
          have hg71 := oqZ_at iv0 ev31 (a := oqSk g a + ((t.1 71 2).toInt - oqSk g a)) (by omega) (by omega) (by omega)
          refine r_callSi C miX12_isDigit mlX12_210 (ct_X12_isDigit l E (t) v31 ) (by decide) rfl rfl rfl (Nat.le_of_ble_eq_true rfl) (oDec_at oX12_number 37 rfl) (fun r34 u33 pu33 fu33 => ?_)
          try dsimp only at pu33
          obtain ⟨pu33_0, pu33_1⟩ := pu33
          have hxu33 := oFr_nil fu33; subst hxu33
          have rr34 := n_rng r34
          refine r_pc C 74 rfl ?_
          refine r_if_eq C 132 (oDec_at oX12_number 38 rfl) (by decide) (fun cd35 => ?_) (fun cd35 => ?_)
          · skip
            have hrg := oqDn_rg g (oqSk g a)
            have hnd : ¬ (48 ≤ g (oqSk g a + ((t.1 71 2).toInt - oqSk g a)) ∧ g (oqSk g a + ((t.1 71 2).toInt - oqSk g a)) ≤ 57) := by first | omega | (have h9 := oqZ_no iv0 (a := oqSk g a + ((t.1 71 2).toInt - oqSk g a)) (by omega); omega)
            have hdn := oqDn_of iv3 (by omega) (by omega) hnd
            have hnv := oqNv_oi (g := g) (a := a) rfl hdn iv4
            have hna : oqNa g a = oqSk g a + oqDn g (oqSk g a) := rfl
            refine r_aload_n C (j := 0) (oDec_at oX12_number 72 rfl) rfl rfl ?_
            refine r_aload_n C (j := 0) (oDec_at oX12_number 73 rfl) rfl rfl ?_
            refine r_geti (k := 2) (lo := 0) (hi := 1600) C v1 oCl12 rfl (by decide) flX12_179 rfl rfl (ev1) rfl rfl (oDec_at oX12_number 74 rfl) (fun _ _ => ?_)
            refine r_puti (k := 4) (lo := (-1)) (hi := 1600) C oCl12 rfl (by decide) flX12_193 rfl rfl rfl rfl rfl rfl rfl rfl ⟨by omega, by omega⟩ (oDec_at oX12_number 75 rfl) ?_
            refine r_iload_n C (j := 3) (oDec_at oX12_number 76 rfl) rfl rfl ?_
            obtain ⟨v36, ev36⟩ : ∃ z : Int64, x3.toInt64 = z := ⟨_, rfl⟩
            have hv36 : v36.toInt = x3.toInt := n_i2l ev36
            refine r_i2l C v36 (oDec_at oX12_number 77 rfl) ev36 ?_
            refine r_pc C 142 rfl ?_
            refine r_iload_n C (j := 1) (oDec_at oX12_number 78 rfl) rfl rfl ?_
            obtain ⟨v37, ev37⟩ : ∃ z : Int64, a1.toInt64 = z := ⟨_, rfl⟩
            have hv37 : v37.toInt = a1.toInt := n_i2l ev37
            refine r_i2l C v37 (oDec_at oX12_number 79 rfl) ev37 ?_
            refine r_iload_n C (j := 2) (oDec_at oX12_number 80 rfl) rfl rfl ?_
            obtain ⟨v38, ev38⟩ : ∃ z : Int64, a2.toInt64 = z := ⟨_, rfl⟩
            have hv38 : v38.toInt = a2.toInt := n_i2l ev38
            refine r_i2l C v38 (oDec_at oX12_number 81 rfl) ev38 ?_
            refine r_callSi C miX12_isIn mlX12_216 (ct_X12_isIn l E ((pI t 71 4 v1)) v36 v37 v38 ) (by decide) rfl rfl rfl (Nat.le_of_ble_eq_true rfl) (oDec_at oX12_number 82 rfl) (fun r40 u39 pu39 fu39 => ?_)
            try dsimp only at pu39
            obtain ⟨pu39_0, pu39_1⟩ := pu39
            have hxu39 := oFr_nil fu39; subst hxu39
            have rr40 := n_rng r40
            refine r_if_ne C 161 (oDec_at oX12_number 83 rfl) (by decide) (fun cd41 => ?_) (fun cd41 => ?_)
            · skip
              refine r_iload_n C (j := 3) (oDec_at oX12_number 89 rfl) rfl rfl ?_
              have lk42 : (((pI t 71 4 v1)).1 71 5).toInt = (t.1 71 5).toInt := congrArg Int32.toInt ((pI_ne (a := 71) (b := 5) (c := 71) (k := 4) _ _ (Or.inr (by decide))))
              have lk43 : (((pI t 71 4 v1)).1 71 2).toInt = v1.toInt := congrArg Int32.toInt (((pI_ne (a := 71) (b := 2) (c := 71) (k := 4) _ _ (Or.inr (by decide)))).trans (ev1))
              have lk44 : (((pI t 71 4 v1)).1 71 4).toInt = v1.toInt := congrArg Int32.toInt ((pI_self _ _ _ _))
              have lk45 : (((pI t 71 4 v1)).1 71 9).toInt = (t.1 71 9).toInt := congrArg Int32.toInt ((pI_ne (a := 71) (b := 9) (c := 71) (k := 4) _ _ (Or.inr (by decide))))
              have lk46 : (((pI t 71 4 v1)).1 71 6).toInt = (t.1 71 6).toInt := congrArg Int32.toInt ((pI_ne (a := 71) (b := 6) (c := 71) (k := 4) _ _ (Or.inr (by decide))))
              have lk47 : (((pI t 71 4 v1)).1 71 5).toInt = (t.1 71 5).toInt := congrArg Int32.toInt ((pI_ne (a := 71) (b := 5) (c := 71) (k := 4) _ _ (Or.inr (by decide))))
              have lk48 : (((pI t 71 4 v1)).1 71 6).toInt = (t.1 71 6).toInt := congrArg Int32.toInt ((pI_ne (a := 71) (b := 6) (c := 71) (k := 4) _ _ (Or.inr (by decide))))
              have lk49 : (((pI t 71 4 v1)).1 71 2).toInt = v1.toInt := congrArg Int32.toInt (((pI_ne (a := 71) (b := 2) (c := 71) (k := 4) _ _ (Or.inr (by decide)))).trans (ev1))
              exact r_iret C (oDec_at oX12_number 90 rfl) ⟨_, rfl, ⟨by omega, by first | (intro h; exfalso; omega) | (have hN := oqN_0 (g := g) (a := a) (b := b) (lo := lo) (hi := hi) (by omega) hdn (by omega) (by omega); omega), by omega, by omega⟩⟩
            · skip
              have hN := oqN_2 (g := g) (a := a) (b := b) (lo := lo) (hi := hi) (by omega) hdn (by omega) (by omega)
              refine r_aload_n C (j := 0) (oDec_at oX12_number 84 rfl) rfl rfl ?_
              refine r_iconst C (oDec_at oX12_number 85 rfl) (v := k2) (by rw [qk2]; rfl) ?_
              refine r_aload_n C (j := 0) (oDec_at oX12_number 86 rfl) rfl rfl ?_
              obtain ⟨v50, ev50⟩ : ∃ z : Int32, ((pI t 71 4 v1)).1 71 9 = z := ⟨_, rfl⟩
              have gv50 : (t.1 71 9).toInt = v50.toInt := congrArg Int32.toInt (((pI_ne (a := 71) (b := 9) (c := 71) (k := 4) _ _ (Or.inr (by decide)))).symm.trans ev50)
              have ggv50 : (((pI t 71 4 v1)).1 71 9).toInt = v50.toInt := congrArg Int32.toInt ev50
              have rv50 := n_rng v50
              refine r_geti (k := 9) (lo := (-2147483648)) (hi := 2147483647) C v50 oCl12 rfl (by decide) flX12_213 rfl rfl (ev50) rfl rfl (oDec_at oX12_number 87 rfl) (fun _ _ => ?_)
              have lk51 : (((pI t 71 4 v1)).1 71 5).toInt = (t.1 71 5).toInt := congrArg Int32.toInt ((pI_ne (a := 71) (b := 5) (c := 71) (k := 4) _ _ (Or.inr (by decide))))
              have lk52 : (((pI t 71 4 v1)).1 71 5).toInt = (t.1 71 5).toInt := congrArg Int32.toInt ((pI_ne (a := 71) (b := 5) (c := 71) (k := 4) _ _ (Or.inr (by decide))))
              have lk53 : (((pI t 71 4 v1)).1 71 6).toInt = (t.1 71 6).toInt := congrArg Int32.toInt ((pI_ne (a := 71) (b := 6) (c := 71) (k := 4) _ _ (Or.inr (by decide))))
              refine r_callVv C oCl12 rfl miX12_fail mlX12_203 (ct4_X12_fail l E ((pI t 71 4 v1)) k2 v50 ) (by decide) rfl rfl rfl (Nat.le_of_ble_eq_true rfl) (oDec_at oX12_number 88 rfl) (fun u54 pu54 fu54 => ?_)
              try dsimp only at pu54
              try simp only [lk51, lk52, lk53] at pu54
              obtain ⟨pu54_0, pu54_1⟩ := pu54
              refine r_iload_n C (j := 3) (oDec_at oX12_number 89 rfl) rfl rfl ?_
              refine r_pc C 162 rfl ?_
              have lk56 : ((u54).1 71 2).toInt = v1.toInt := congrArg Int32.toInt (((fu54 71 2 rfl).1).trans (((pI_ne (a := 71) (b := 2) (c := 71) (k := 4) _ _ (Or.inr (by decide)))).trans (ev1)))
              have lk57 : ((u54).1 71 4).toInt = v1.toInt := congrArg Int32.toInt (((fu54 71 4 rfl).1).trans ((pI_self _ _ _ _)))
              have lk58 : ((u54).1 71 9).toInt = v50.toInt := congrArg Int32.toInt (((fu54 71 9 rfl).1).trans (ev50))
              have lk59 : ((u54).1 71 2).toInt = v1.toInt := congrArg Int32.toInt (((fu54 71 2 rfl).1).trans (((pI_ne (a := 71) (b := 2) (c := 71) (k := 4) _ _ (Or.inr (by decide)))).trans (ev1)))
              exact r_iret C (oDec_at oX12_number 90 rfl) ⟨_, rfl, ⟨by omega, by first | (intro h; exfalso; omega) | (have hN := oqN_0 (g := g) (a := a) (b := b) (lo := lo) (hi := hi) (by omega) hdn (by omega) (by omega); omega), by omega, by omega⟩⟩
          · skip
            refine r_aload_n C (j := 0) (oDec_at oX12_number 39 rfl) rfl rfl ?_
            refine r_geti (k := 2) (lo := 0) (hi := 1600) C v1 oCl12 rfl (by decide) flX12_179 rfl rfl (ev1) rfl rfl (oDec_at oX12_number 40 rfl) (fun _ _ => ?_)
            refine r_aload_n C (j := 0) (oDec_at oX12_number 41 rfl) rfl rfl ?_
            obtain ⟨v60, ev60⟩ : ∃ z : Int32, (t).1 71 9 = z := ⟨_, rfl⟩
            have gv60 : (t.1 71 9).toInt = v60.toInt := congrArg Int32.toInt (ev60)
            have rv60 := n_rng v60
            refine r_geti (k := 9) (lo := (-2147483648)) (hi := 2147483647) C v60 oCl12 rfl (by decide) flX12_213 rfl rfl (ev60) rfl rfl (oDec_at oX12_number 42 rfl) (fun _ _ => ?_)
            obtain ⟨v61, ev61⟩ : ∃ z : Int32, z = v1 - v60 := ⟨_, rfl⟩
            have hv61 : v61.toInt = v1.toInt - v60.toInt := n_sub ev61 (by omega) (by omega)
            refine r_isub C v61 (oDec_at oX12_number 43 rfl) ev61 ?_
            refine r_iconst C (oDec_at oX12_number 44 rfl) (v := k4) (by rw [qk4]; rfl) ?_
            refine r_pc C 87 rfl ?_
            refine r_icmp_ne C 101 (oDec_at oX12_number 45 rfl) (by decide) (fun cd62 => ?_) (fun cd62 => ?_)
            · skip
              refine r_bipush C (oDec_at oX12_number 53 rfl) (v := k10) (by rw [qk10]; rfl) ?_
              refine r_iload_n C (j := 3) (oDec_at oX12_number 54 rfl) rfl rfl ?_
              obtain ⟨v63, ev63⟩ : ∃ z : Int32, z = k10 * x3 := ⟨_, rfl⟩
              have hv63 : v63.toInt = 10 * x3.toInt := n_mulK' 10 ev63 ek10 (by omega) (by omega)
              refine r_imul C v63 (oDec_at oX12_number 55 rfl) ev63 ?_
              refine r_aload_n C (j := 0) (oDec_at oX12_number 56 rfl) rfl rfl ?_
              refine r_getF (k := 0) (b := 72) C oCl12 rfl (by decide) flX12_7 rfl rfl rfl (oDec_at oX12_number 57 rfl) ?_
              refine r_aload_n C (j := 0) (oDec_at oX12_number 58 rfl) rfl rfl ?_
              refine r_pc C 110 rfl ?_
              refine r_geti (k := 2) (lo := 0) (hi := 1600) C v1 oCl12 rfl (by decide) flX12_179 rfl rfl (ev1) rfl rfl (oDec_at oX12_number 59 rfl) (fun _ _ => ?_)
              refine r_iald (n := 1600) (lo := 0) (hi := 255) C v31 rfl (by decide) rfl rfl ⟨by omega, by omega⟩ (by decide) (ev31) rfl rfl (oDec_at oX12_number 60 rfl) (fun b64 b64h => ?_)
              have la65 : ((t).1 72 ((t).1 71 2).toNatClampNeg).toInt = v31.toInt := by rw [ev1, (ev31)]
              obtain ⟨v66, ev66⟩ : ∃ z : Int32, z = v63 + v31 := ⟨_, rfl⟩
              have hv66 : v66.toInt = v63.toInt + v31.toInt := n_add ev66 (by omega) (by omega)
              refine r_iadd C v66 (oDec_at oX12_number 61 rfl) ev66 ?_
              refine r_bipush C (oDec_at oX12_number 62 rfl) (v := k48) (by rw [qk48]; rfl) ?_
              obtain ⟨v67, ev67⟩ : ∃ z : Int32, z = v66 - k48 := ⟨_, rfl⟩
              have hv67 : v67.toInt = v66.toInt - k48.toInt := n_sub ev67 (by omega) (by omega)
              refine r_isub C v67 (oDec_at oX12_number 63 rfl) ev67 ?_
              refine r_istore_n C (lv' := [(0, .ref (oad E 71)), (1, .int a1), (2, .int a2), (3, .int v67)]) [1, 2, 3, 0] (oDec_at oX12_number 64 rfl) rfl (by decide) rfl ?_
              refine r_pc C 119 rfl ?_
              refine r_aload_n C (j := 0) (oDec_at oX12_number 65 rfl) rfl rfl ?_
              refine r_dup C (oDec_at oX12_number 66 rfl) rfl ?_
              refine r_geti (k := 2) (lo := 0) (hi := 1600) C v1 oCl12 rfl (by decide) flX12_179 rfl rfl (ev1) rfl rfl (oDec_at oX12_number 67 rfl) (fun _ _ => ?_)
              refine r_iconst C (oDec_at oX12_number 68 rfl) (v := k1) (by rw [qk1]; rfl) ?_
              obtain ⟨v68, ev68⟩ : ∃ z : Int32, z = v1 + k1 := ⟨_, rfl⟩
              have hv68 : v68.toInt = v1.toInt + k1.toInt := n_add ev68 (by omega) (by omega)
              refine r_iadd C v68 (oDec_at oX12_number 69 rfl) ev68 ?_
              refine r_puti (k := 2) (lo := 0) (hi := 1600) C oCl12 rfl (by decide) flX12_179 rfl rfl rfl rfl rfl rfl rfl rfl ⟨by omega, by omega⟩ (oDec_at oX12_number 70 rfl) ?_
              refine r_pc C 129 rfl ?_
              refine r_goto C (tgt := 51) (oDec_at oX12_number 71 rfl) (by decide) ?_
              have lk69 : (((pI t 71 2 v68)).1 71 9).toInt = v60.toInt := congrArg Int32.toInt (((pI_ne (a := 71) (b := 9) (c := 71) (k := 2) _ _ (Or.inr (by decide)))).trans (ev60))
              have lk70 : (((pI t 71 2 v68)).1 71 2).toInt = v68.toInt := congrArg Int32.toInt ((pI_self _ _ _ _))
              have lk71 : (((pI t 71 2 v68)).1 71 3).toInt = v3.toInt := congrArg Int32.toInt (((pI_ne (a := 71) (b := 3) (c := 71) (k := 2) _ _ (Or.inr (by decide)))).trans (ev3))
              have lk72 : (((pI t 71 2 v68)).1 71 5).toInt = (t.1 71 5).toInt := congrArg Int32.toInt ((pI_ne (a := 71) (b := 5) (c := 71) (k := 2) _ _ (Or.inr (by decide))))
              have lk73 : (((pI t 71 2 v68)).1 71 6).toInt = (t.1 71 6).toInt := congrArg Int32.toInt ((pI_ne (a := 71) (b := 6) (c := 71) (k := 2) _ _ (Or.inr (by decide))))
              have lk74 : (((pI t 71 2 v68)).1 71 2).toInt = v68.toInt := congrArg Int32.toInt ((pI_self _ _ _ _))
              have lk75 : (((pI t 71 2 v68)).1 71 2).toInt = v68.toInt := congrArg Int32.toInt ((pI_self _ _ _ _))
              have lk76 : (((pI t 71 2 v68)).1 71 2).toInt = v68.toInt := congrArg Int32.toInt ((pI_self _ _ _ _))
              have lk77 : (((pI t 71 2 v68)).1 71 9).toInt = v60.toInt := congrArg Int32.toInt (((pI_ne (a := 71) (b := 9) (c := 71) (k := 2) _ _ (Or.inr (by decide)))).trans (ev60))
              have lk78 : (((pI t 71 2 v68)).1 71 2).toInt = v68.toInt := congrArg Int32.toInt ((pI_self _ _ _ _))
              exact (ih (n - 1) (by omega)) ((pI t 71 2 v68)) v67  (oqZ_fr (oFr_oneI (q := 12) (m := 2) rfl (by rfl)) rfl iv0) (by omega) (by omega) (by first | exact oqDs_nx (b := oqSk g a + ((t.1 71 2).toInt - oqSk g a)) iv3 (by omega) (by omega) rfl (by omega) | exact oqDs_0 (by omega)) (by first | (rw [oqDv_ni (g := g) (a := oqSk g a) (n := (t.1 71 2).toInt - oqSk g a) (by omega) (by omega)]; omega) | (rw [oqDv_zi (by omega)]; omega)) (by omega) (by omega) (by omega) (by omega) (by omega)
            · skip
              have hN := oqN_5 (g := g) (a := a) (b := b) (lo := lo) (hi := hi) (by omega) (oqDn_5 iv3 (by omega) (by omega))
              refine r_aload_n C (j := 0) (oDec_at oX12_number 46 rfl) rfl rfl ?_
              refine r_iconst C (oDec_at oX12_number 47 rfl) (v := k1) (by rw [qk1]; rfl) ?_
              refine r_aload_n C (j := 0) (oDec_at oX12_number 48 rfl) rfl rfl ?_
              refine r_geti (k := 2) (lo := 0) (hi := 1600) C v1 oCl12 rfl (by decide) flX12_179 rfl rfl (ev1) rfl rfl (oDec_at oX12_number 49 rfl) (fun _ _ => ?_)
              refine r_callVv C oCl12 rfl miX12_fail mlX12_203 (ct4_X12_fail l E (t) k1 v1 ) (by decide) rfl rfl rfl (Nat.le_of_ble_eq_true rfl) (oDec_at oX12_number 50 rfl) (fun u79 pu79 fu79 => ?_)
              try dsimp only at pu79
              obtain ⟨pu79_0, pu79_1⟩ := pu79
              refine r_iconst C (oDec_at oX12_number 51 rfl) (v := k0) (by rw [qk0]; rfl) ?_
              refine r_pc C 100 rfl ?_
              have lk81 : ((u79).1 71 2).toInt = v1.toInt := congrArg Int32.toInt (((fu79 71 2 rfl).1).trans (ev1))
              have lk82 : ((u79).1 71 4).toInt = (t.1 71 4).toInt := congrArg Int32.toInt ((fu79 71 4 rfl).1)
              have lk83 : ((u79).1 71 9).toInt = v60.toInt := congrArg Int32.toInt (((fu79 71 9 rfl).1).trans (ev60))
              have lk84 : ((u79).1 71 2).toInt = v1.toInt := congrArg Int32.toInt (((fu79 71 2 rfl).1).trans (ev1))
              exact r_iret C (oDec_at oX12_number 52 rfl) ⟨_, rfl, ⟨by omega, by omega, by omega, by omega⟩⟩
  refine r_aload_n C (j := 0) (oDec_at oX12_number 0 rfl) rfl rfl ?_
  obtain ⟨v85, ev85⟩ : ∃ z : Int32, (s).1 71 5 = z := ⟨_, rfl⟩
  have gv85 : (s.1 71 5).toInt = v85.toInt := congrArg Int32.toInt (ev85)
  have rv85 := n_rng v85
  refine r_geti (k := 5) (lo := (-2147483648)) (hi := 2147483647) C v85 oCl12 rfl (by decide) flX12_173 rfl rfl (ev85) rfl rfl (oDec_at oX12_number 1 rfl) (fun _ _ => ?_)
  refine r_if_eq C 9 (oDec_at oX12_number 2 rfl) (by decide) (fun cd86 => ?_) (fun cd86 => ?_)
  · skip
    refine r_aload_n C (j := 0) (oDec_at oX12_number 5 rfl) rfl rfl ?_
    refine r_callVi C oCl12 rfl miX12_look mlX12_185 (ct4_X12_look l E (s)  (g) (a) (by omega) hp1) (by decide) rfl rfl rfl (Nat.le_of_ble_eq_true rfl) (oDec_at oX12_number 6 rfl) (fun r88 u87 pu87 fu87 => ?_)
    try dsimp only at pu87
    obtain ⟨pu87_0, pu87_1, pu87_2, pu87_3, pu87_4, pu87_5⟩ := pu87
    have rr88 := n_rng r88
    refine r_callSi C miX12_isDigit mlX12_210 (ct_X12_isDigit l E (u87) r88 ) (by decide) rfl rfl rfl (Nat.le_of_ble_eq_true rfl) (oDec_at oX12_number 7 rfl) (fun r90 u89 pu89 fu89 => ?_)
    try dsimp only at pu89
    obtain ⟨pu89_0, pu89_1⟩ := pu89
    have hxu89 := oFr_nil fu89; subst hxu89
    have rr90 := n_rng r90
    refine r_if_eq C 30 (oDec_at oX12_number 8 rfl) (by decide) (fun cd91 => ?_) (fun cd91 => ?_)
    · skip
      have hrg := oqDn_rg g (oqSk g a)
      have hN := oqN_1 (g := g) (a := a) (b := b) (lo := lo) (hi := hi) (by omega)
      refine r_aload_n C (j := 0) (oDec_at oX12_number 14 rfl) rfl rfl ?_
      refine r_iconst C (oDec_at oX12_number 15 rfl) (v := k1) (by rw [qk1]; rfl) ?_
      refine r_aload_n C (j := 0) (oDec_at oX12_number 16 rfl) rfl rfl ?_
      obtain ⟨v92, ev92⟩ : ∃ z : Int32, (u87).1 71 2 = z := ⟨_, rfl⟩
      have gv92 : (u87.1 71 2).toInt = v92.toInt := congrArg Int32.toInt (ev92)
      refine r_geti (k := 2) (lo := 0) (hi := 1600) C v92 oCl12 rfl (by decide) flX12_179 rfl rfl (ev92) rfl rfl (oDec_at oX12_number 17 rfl) (fun b93 b93h => ?_)
      have lk94 : ((u87).1 71 5).toInt = v85.toInt := congrArg Int32.toInt (((fu87 71 5 rfl).1).trans (ev85))
      have lk95 : ((u87).1 71 5).toInt = v85.toInt := congrArg Int32.toInt (((fu87 71 5 rfl).1).trans (ev85))
      have lk96 : ((u87).1 71 6).toInt = (s.1 71 6).toInt := congrArg Int32.toInt ((fu87 71 6 rfl).1)
      refine r_callVv C oCl12 rfl miX12_fail mlX12_203 (ct4_X12_fail l E (u87) k1 v92 ) (by decide) rfl rfl rfl (Nat.le_of_ble_eq_true rfl) (oDec_at oX12_number 18 rfl) (fun u97 pu97 fu97 => ?_)
      try dsimp only at pu97
      try simp only [lk94, lk95, lk96] at pu97
      obtain ⟨pu97_0, pu97_1⟩ := pu97
      refine r_iconst C (oDec_at oX12_number 19 rfl) (v := k0) (by rw [qk0]; rfl) ?_
      refine r_pc C 40 rfl ?_
      have lk99 : ((u97).1 71 2).toInt = v92.toInt := congrArg Int32.toInt (((fu97 71 2 rfl).1).trans (ev92))
      have lk100 : ((u97).1 71 4).toInt = (s.1 71 4).toInt := congrArg Int32.toInt (((fu97 71 4 rfl).1).trans ((fu87 71 4 rfl).1))
      have lk101 : ((u97).1 71 9).toInt = (s.1 71 9).toInt := congrArg Int32.toInt (((fu97 71 9 rfl).1).trans ((fu87 71 9 rfl).1))
      have lk102 : ((u97).1 71 2).toInt = v92.toInt := congrArg Int32.toInt (((fu97 71 2 rfl).1).trans (ev92))
      exact r_iret C (oDec_at oX12_number 20 rfl) ⟨_, rfl, ⟨by omega, by omega, by omega, by omega⟩⟩
    · skip
      refine r_aload_n C (j := 0) (oDec_at oX12_number 9 rfl) rfl rfl ?_
      obtain ⟨v103, ev103⟩ : ∃ z : Int32, (u87).1 71 2 = z := ⟨_, rfl⟩
      have gv103 : (u87.1 71 2).toInt = v103.toInt := congrArg Int32.toInt (ev103)
      refine r_geti (k := 2) (lo := 0) (hi := 1600) C v103 oCl12 rfl (by decide) flX12_179 rfl rfl (ev103) rfl rfl (oDec_at oX12_number 10 rfl) (fun b104 b104h => ?_)
      refine r_aload_n C (j := 0) (oDec_at oX12_number 11 rfl) rfl rfl ?_
      obtain ⟨v105, ev105⟩ : ∃ z : Int32, (u87).1 71 4 = z := ⟨_, rfl⟩
      have gv105 : (s.1 71 4).toInt = v105.toInt := congrArg Int32.toInt (((fu87 71 4 rfl).1).symm.trans ev105)
      have ggv105 : ((u87).1 71 4).toInt = v105.toInt := congrArg Int32.toInt ev105
      refine r_geti (k := 4) (lo := (-1)) (hi := 1600) C v105 oCl12 rfl (by decide) flX12_193 rfl rfl (ev105) rfl rfl (oDec_at oX12_number 12 rfl) (fun b106 b106h => ?_)
      refine r_icmp_ne C 41 (oDec_at oX12_number 13 rfl) (by decide) (fun cd107 => ?_) (fun cd107 => ?_)
      · skip
        refine r_aload_n C (j := 0) (oDec_at oX12_number 21 rfl) rfl rfl ?_
        refine r_aload_n C (j := 0) (oDec_at oX12_number 22 rfl) rfl rfl ?_
        refine r_geti (k := 2) (lo := 0) (hi := 1600) C v103 oCl12 rfl (by decide) flX12_179 rfl rfl (ev103) rfl rfl (oDec_at oX12_number 23 rfl) (fun _ _ => ?_)
        refine r_puti (k := 9) (lo := (-2147483648)) (hi := 2147483647) C oCl12 rfl (by decide) flX12_213 rfl rfl rfl rfl rfl rfl rfl rfl (n_rng _) (oDec_at oX12_number 24 rfl) ?_
        refine r_iconst C (oDec_at oX12_number 25 rfl) (v := k0) (by rw [qk0]; rfl) ?_
        refine r_istore_n C (lv' := [(0, .ref (oad E 71)), (1, .int a1), (2, .int a2), (3, .int k0)]) [1, 2, 3, 0] (oDec_at oX12_number 26 rfl) rfl (by decide) rfl ?_
        have lk108 : (((pI u87 71 9 v103)).1 71 9).toInt = v103.toInt := congrArg Int32.toInt ((pI_self _ _ _ _))
        have lk109 : (((pI u87 71 9 v103)).1 71 2).toInt = v103.toInt := congrArg Int32.toInt (((pI_ne (a := 71) (b := 2) (c := 71) (k := 9) _ _ (Or.inr (by decide)))).trans (ev103))
        have lk110 : (((pI u87 71 9 v103)).1 71 3).toInt = (s.1 71 3).toInt := congrArg Int32.toInt (((pI_ne (a := 71) (b := 3) (c := 71) (k := 9) _ _ (Or.inr (by decide)))).trans ((fu87 71 3 rfl).1))
        have lk111 : (((pI u87 71 9 v103)).1 71 5).toInt = v85.toInt := congrArg Int32.toInt (((pI_ne (a := 71) (b := 5) (c := 71) (k := 9) _ _ (Or.inr (by decide)))).trans (((fu87 71 5 rfl).1).trans (ev85)))
        have lk112 : (((pI u87 71 9 v103)).1 71 6).toInt = (s.1 71 6).toInt := congrArg Int32.toInt (((pI_ne (a := 71) (b := 6) (c := 71) (k := 9) _ _ (Or.inr (by decide)))).trans ((fu87 71 6 rfl).1))
        have lk113 : (((pI u87 71 9 v103)).1 71 2).toInt = v103.toInt := congrArg Int32.toInt (((pI_ne (a := 71) (b := 2) (c := 71) (k := 9) _ _ (Or.inr (by decide)))).trans (ev103))
        have lk114 : (((pI u87 71 9 v103)).1 71 2).toInt = v103.toInt := congrArg Int32.toInt (((pI_ne (a := 71) (b := 2) (c := 71) (k := 9) _ _ (Or.inr (by decide)))).trans (ev103))
        have lk115 : (((pI u87 71 9 v103)).1 71 2).toInt = v103.toInt := congrArg Int32.toInt (((pI_ne (a := 71) (b := 2) (c := 71) (k := 9) _ _ (Or.inr (by decide)))).trans (ev103))
        have lk116 : (((pI u87 71 9 v103)).1 71 9).toInt = v103.toInt := congrArg Int32.toInt ((pI_self _ _ _ _))
        have lk117 : (((pI u87 71 9 v103)).1 71 2).toInt = v103.toInt := congrArg Int32.toInt (((pI_ne (a := 71) (b := 2) (c := 71) (k := 9) _ _ (Or.inr (by decide)))).trans (ev103))
        exact (key (1601 - (((pI u87 71 9 v103)).1 71 2).toInt).toNat) ((pI u87 71 9 v103)) k0  (oqZ_fr (oFr_oneI (q := 12) (m := 9) rfl (by rfl)) rfl (oqZ_fr fu87 rfl hp1)) (by omega) (by omega) (by first | exact oqDs_0 (by omega)) (by first | (rw [oqDv_ni (g := g) (a := oqSk g a) (n := (t.1 71 2).toInt - oqSk g a) (by omega) (by omega)]; omega) | (rw [oqDv_zi (by omega)]; omega)) (by omega) (by omega) (by omega) (by omega) (by omega)
      · skip
        have hrg := oqDn_rg g (oqSk g a)
        have hN := oqN_1 (g := g) (a := a) (b := b) (lo := lo) (hi := hi) (by omega)
        refine r_aload_n C (j := 0) (oDec_at oX12_number 14 rfl) rfl rfl ?_
        refine r_iconst C (oDec_at oX12_number 15 rfl) (v := k1) (by rw [qk1]; rfl) ?_
        refine r_aload_n C (j := 0) (oDec_at oX12_number 16 rfl) rfl rfl ?_
        refine r_geti (k := 2) (lo := 0) (hi := 1600) C v103 oCl12 rfl (by decide) flX12_179 rfl rfl (ev103) rfl rfl (oDec_at oX12_number 17 rfl) (fun _ _ => ?_)
        have lk118 : ((u87).1 71 5).toInt = v85.toInt := congrArg Int32.toInt (((fu87 71 5 rfl).1).trans (ev85))
        have lk119 : ((u87).1 71 5).toInt = v85.toInt := congrArg Int32.toInt (((fu87 71 5 rfl).1).trans (ev85))
        have lk120 : ((u87).1 71 6).toInt = (s.1 71 6).toInt := congrArg Int32.toInt ((fu87 71 6 rfl).1)
        refine r_callVv C oCl12 rfl miX12_fail mlX12_203 (ct4_X12_fail l E (u87) k1 v103 ) (by decide) rfl rfl rfl (Nat.le_of_ble_eq_true rfl) (oDec_at oX12_number 18 rfl) (fun u121 pu121 fu121 => ?_)
        try dsimp only at pu121
        try simp only [lk118, lk119, lk120] at pu121
        obtain ⟨pu121_0, pu121_1⟩ := pu121
        refine r_iconst C (oDec_at oX12_number 19 rfl) (v := k0) (by rw [qk0]; rfl) ?_
        refine r_pc C 40 rfl ?_
        have lk123 : ((u121).1 71 2).toInt = v103.toInt := congrArg Int32.toInt (((fu121 71 2 rfl).1).trans (ev103))
        have lk124 : ((u121).1 71 4).toInt = v105.toInt := congrArg Int32.toInt (((fu121 71 4 rfl).1).trans (ev105))
        have lk125 : ((u121).1 71 9).toInt = (s.1 71 9).toInt := congrArg Int32.toInt (((fu121 71 9 rfl).1).trans ((fu87 71 9 rfl).1))
        have lk126 : ((u121).1 71 2).toInt = v103.toInt := congrArg Int32.toInt (((fu121 71 2 rfl).1).trans (ev103))
        exact r_iret C (oDec_at oX12_number 20 rfl) ⟨_, rfl, ⟨by omega, by omega, by omega, by omega⟩⟩
  · skip
    refine r_iconst C (oDec_at oX12_number 3 rfl) (v := k0) (by rw [qk0]; rfl) ?_
    have lk127 : ((s).1 71 5).toInt = v85.toInt := congrArg Int32.toInt (ev85)
    have lk128 : ((s).1 71 5).toInt = v85.toInt := congrArg Int32.toInt (ev85)
    exact r_iret C (oDec_at oX12_number 4 rfl) ⟨_, rfl, ⟨by omega, by omega, by omega, by omega⟩⟩
