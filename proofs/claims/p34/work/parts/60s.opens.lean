set_option maxHeartbeats 4000000 in
set_option maxRecDepth 100000 in
theorem ct4_X5_opens (l : Launch) (E : oE) (s : oS)    : oMet l 2 yX5_opens cX5_opens 1 (some .boolean) [(5, 5), (5, 8), (5, 9)] E s [.ref (oad E 30)] (oPi (fun r u => (0 ≤ r.toInt ∧ r.toInt ≤ 1) ∧ (r.toInt = 1 → ((s.1 30 5).toInt ≤ 5 ∧ (u.1 30 5).toInt = (s.1 30 5).toInt + 1 ∧ (u.1 30 8).toInt = (s.1 30 8).toInt ∧ (u.1 30 9).toInt = (s.1 30 9).toInt)) ∧ (r.toInt = 0 → (6 ≤ (s.1 30 5).toInt ∧ (u.1 30 5).toInt = (s.1 30 5).toInt ∧ (u.1 30 8).toInt = 4 ∧ (u.1 30 9).toInt = (s.1 30 2).toInt)))) := by
  refine oMet.of (lv := [(0, .ref (oad E 30))]) (by decide +kernel) (Nat.le_of_ble_eq_true rfl) rfl (fun J C hT => ?_)
  have C : oC l 2 cX5_opens RX5 1 (some .boolean) [(5, 5), (5, 8), (5, 9)] E s (oPi (fun r u => (0 ≤ r.toInt ∧ r.toInt ≤ 1) ∧ (r.toInt = 1 → ((s.1 30 5).toInt ≤ 5 ∧ (u.1 30 5).toInt = (s.1 30 5).toInt + 1 ∧ (u.1 30 8).toInt = (s.1 30 8).toInt ∧ (u.1 30 9).toInt = (s.1 30 9).toInt)) ∧ (r.toInt = 0 → (6 ≤ (s.1 30 5).toInt ∧ (u.1 30 5).toInt = (s.1 30 5).toInt ∧ (u.1 30 8).toInt = 4 ∧ (u.1 30 9).toInt = (s.1 30 2).toInt)))) J := C
  obtain ⟨k1, qk1⟩ : ∃ z : Int32, z = 1 := ⟨_, rfl⟩
  have ek1 : k1.toInt = 1 := by rw [qk1]; rfl
  obtain ⟨k4, qk4⟩ : ∃ z : Int32, z = 4 := ⟨_, rfl⟩
  have ek4 : k4.toInt = 4 := by rw [qk4]; rfl
  obtain ⟨k6, qk6⟩ : ∃ z : Int32, z = 6 := ⟨_, rfl⟩
  have ek6 : k6.toInt = 6 := by rw [qk6]; rfl
  refine r_aload_n C (j := 0) (oDec_at oX5_opens 0 rfl) rfl rfl ?_
  obtain ⟨v1, ev1⟩ : ∃ z : Int32, (s).1 30 5 = z := ⟨_, rfl⟩
  have gv1 : (s.1 30 5).toInt = v1.toInt := congrArg Int32.toInt (ev1)
  refine r_geti (k := 5) (lo := 0) (hi := 6) C v1 oCl5 rfl (by decide) flX5_29 rfl rfl (ev1) rfl rfl (oDec_at oX5_opens 1 rfl) (fun b2 b2h => ?_)
  refine r_bipush C (oDec_at oX5_opens 2 rfl) (v := k6) (by rw [qk6]; rfl) ?_
  refine r_icmp_lt C 19 (oDec_at oX5_opens 3 rfl) (by decide) (fun cd3 => ?_) (fun cd3 => ?_)
  · skip
    refine r_aload_n C (j := 0) (oDec_at oX5_opens 10 rfl) rfl rfl ?_
    refine r_dup C (oDec_at oX5_opens 11 rfl) rfl ?_
    refine r_geti (k := 5) (lo := 0) (hi := 6) C v1 oCl5 rfl (by decide) flX5_29 rfl rfl (ev1) rfl rfl (oDec_at oX5_opens 12 rfl) (fun _ _ => ?_)
    refine r_iconst C (oDec_at oX5_opens 13 rfl) (v := k1) (by rw [qk1]; rfl) ?_
    obtain ⟨v4, ev4⟩ : ∃ z : Int32, z = v1 + k1 := ⟨_, rfl⟩
    have hv4 : v4.toInt = v1.toInt + k1.toInt := n_add ev4 (by omega) (by omega)
    refine r_iadd C v4 (oDec_at oX5_opens 14 rfl) ev4 ?_
    refine r_puti (k := 5) (lo := 0) (hi := 6) C oCl5 rfl (by decide) flX5_29 rfl rfl rfl rfl rfl rfl rfl rfl ⟨by omega, by omega⟩ (oDec_at oX5_opens 15 rfl) ?_
    refine r_pc C 29 rfl ?_
    refine r_iconst C (oDec_at oX5_opens 16 rfl) (v := k1) (by rw [qk1]; rfl) ?_
    have lk5 : (((pI s 30 5 v4)).1 30 5).toInt = v4.toInt := congrArg Int32.toInt ((pI_self _ _ _ _))
    have lk6 : (((pI s 30 5 v4)).1 30 8).toInt = (s.1 30 8).toInt := congrArg Int32.toInt ((pI_ne (a := 30) (b := 8) (c := 30) (k := 5) _ _ (Or.inr (by decide))))
    have lk7 : (((pI s 30 5 v4)).1 30 9).toInt = (s.1 30 9).toInt := congrArg Int32.toInt ((pI_ne (a := 30) (b := 9) (c := 30) (k := 5) _ _ (Or.inr (by decide))))
    have lk8 : (((pI s 30 5 v4)).1 30 5).toInt = v4.toInt := congrArg Int32.toInt ((pI_self _ _ _ _))
    have lk9 : (((pI s 30 5 v4)).1 30 8).toInt = (s.1 30 8).toInt := congrArg Int32.toInt ((pI_ne (a := 30) (b := 8) (c := 30) (k := 5) _ _ (Or.inr (by decide))))
    have lk10 : (((pI s 30 5 v4)).1 30 9).toInt = (s.1 30 9).toInt := congrArg Int32.toInt ((pI_ne (a := 30) (b := 9) (c := 30) (k := 5) _ _ (Or.inr (by decide))))
    exact r_zret C (n_bool (by omega)) (oDec_at oX5_opens 17 rfl) ⟨_, rfl, ⟨by omega, by omega, by omega⟩⟩
  · skip
    refine r_aload_n C (j := 0) (oDec_at oX5_opens 4 rfl) rfl rfl ?_
    refine r_iconst C (oDec_at oX5_opens 5 rfl) (v := k4) (by rw [qk4]; rfl) ?_
    refine r_aload_n C (j := 0) (oDec_at oX5_opens 6 rfl) rfl rfl ?_
    obtain ⟨v11, ev11⟩ : ∃ z : Int32, (s).1 30 2 = z := ⟨_, rfl⟩
    have gv11 : (s.1 30 2).toInt = v11.toInt := congrArg Int32.toInt (ev11)
    refine r_geti (k := 2) (lo := 0) (hi := 1600) C v11 oCl5 rfl (by decide) flX5_23 rfl rfl (ev11) rfl rfl (oDec_at oX5_opens 7 rfl) (fun b12 b12h => ?_)
    refine r_callVi C oCl5 rfl miX5_fail mlX5_62 (ct4_X5_fail l E (s) k4 v11 ) (by decide) rfl rfl rfl (Nat.le_of_ble_eq_true rfl) (oDec_at oX5_opens 8 rfl) (fun r14 u13 pu13 fu13 => ?_)
    try dsimp only at pu13
    obtain ⟨pu13_0, pu13_1, pu13_2, pu13_3⟩ := pu13
    have rr14 := n_rng r14
    have lk15 : ((u13).1 30 5).toInt = v1.toInt := congrArg Int32.toInt (((fu13 30 5 rfl).1).trans (ev1))
    have lk16 : ((u13).1 30 5).toInt = v1.toInt := congrArg Int32.toInt (((fu13 30 5 rfl).1).trans (ev1))
    exact r_zret C (n_bool (by omega)) (oDec_at oX5_opens 9 rfl) ⟨_, rfl, ⟨by omega, by omega, by omega⟩⟩
set_option maxHeartbeats 4000000 in
set_option maxRecDepth 100000 in
theorem ct4_X5_closes (l : Launch) (E : oE) (s : oS)   (hp0 : 1 ≤ (s.1 30 5).toInt) : oMet l 1 yX5_closes cX5_closes 1 (some .boolean) [(5, 5)] E s [.ref (oad E 30)] (oPi (fun r u => (0 ≤ r.toInt ∧ r.toInt ≤ 1) ∧ (r.toInt = 1 ∧ (u.1 30 5).toInt = (s.1 30 5).toInt - 1))) := by
  refine oMet.of (lv := [(0, .ref (oad E 30))]) (by decide +kernel) (Nat.le_of_ble_eq_true rfl) rfl (fun J C hT => ?_)
  have C : oC l 1 cX5_closes RX5 1 (some .boolean) [(5, 5)] E s (oPi (fun r u => (0 ≤ r.toInt ∧ r.toInt ≤ 1) ∧ (r.toInt = 1 ∧ (u.1 30 5).toInt = (s.1 30 5).toInt - 1))) J := C
  obtain ⟨k1, qk1⟩ : ∃ z : Int32, z = 1 := ⟨_, rfl⟩
  have ek1 : k1.toInt = 1 := by rw [qk1]; rfl
  refine r_aload_n C (j := 0) (oDec_at oX5_closes 0 rfl) rfl rfl ?_
  refine r_dup C (oDec_at oX5_closes 1 rfl) rfl ?_
  obtain ⟨v1, ev1⟩ : ∃ z : Int32, (s).1 30 5 = z := ⟨_, rfl⟩
  have gv1 : (s.1 30 5).toInt = v1.toInt := congrArg Int32.toInt (ev1)
  refine r_geti (k := 5) (lo := 0) (hi := 6) C v1 oCl5 rfl (by decide) flX5_29 rfl rfl (ev1) rfl rfl (oDec_at oX5_closes 2 rfl) (fun b2 b2h => ?_)
  refine r_iconst C (oDec_at oX5_closes 3 rfl) (v := k1) (by rw [qk1]; rfl) ?_
  obtain ⟨v3, ev3⟩ : ∃ z : Int32, z = v1 - k1 := ⟨_, rfl⟩
  have hv3 : v3.toInt = v1.toInt - k1.toInt := n_sub ev3 (by omega) (by omega)
  refine r_isub C v3 (oDec_at oX5_closes 4 rfl) ev3 ?_
  refine r_puti (k := 5) (lo := 0) (hi := 6) C oCl5 rfl (by decide) flX5_29 rfl rfl rfl rfl rfl rfl rfl rfl ⟨by omega, by omega⟩ (oDec_at oX5_closes 5 rfl) ?_
  refine r_pc C 10 rfl ?_
  refine r_iconst C (oDec_at oX5_closes 6 rfl) (v := k1) (by rw [qk1]; rfl) ?_
  have lk4 : (((pI s 30 5 v3)).1 30 5).toInt = v3.toInt := congrArg Int32.toInt ((pI_self _ _ _ _))
  exact r_zret C (n_bool (by omega)) (oDec_at oX5_closes 7 rfl) ⟨_, rfl, ⟨by omega, by omega⟩⟩
