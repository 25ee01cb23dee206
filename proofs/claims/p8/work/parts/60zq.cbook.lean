set_option maxHeartbeats 4000000 in
set_option maxRecDepth 100000 in
theorem ct8_X0_spell (l : Launch) (E : oE) (s : oS) (c0 : Nat) (hk0 : okd c0 = 0) (a1 : Int32) (a2 : Int32) (d : Nat) (V : Int) (L : Nat → Int32) (hp0 : c0 ≠ d) (hp1 : oqKd d V L s) : oMet l 1 yX0_spell cX0_spell 3 none [(23, 9999)] E s [.ref (oad E c0), .int a1, .int a2] (oPv (fun u => ((0 ≤ a1.toInt ∧ a1.toInt ≤ 5 ∧ (s.1 c0 8).toInt ≤ 5) → oqPut (s.1 (c0 + 4)) (u.1 (c0 + 4)) (6 * (s.1 c0 8).toInt + a1.toInt) a2.toInt) ∧ (oqKd d V L u))) := by
  refine oMet.of (lv := [(0, .ref (oad E c0)), (1, .int a1), (2, .int a2)]) (by decide +kernel) (Nat.le_of_ble_eq_true rfl) rfl (fun J C hT => ?_)
  have C : oC l 1 cX0_spell RX0 3 none [(23, 9999)] E s (oPv (fun u => ((0 ≤ a1.toInt ∧ a1.toInt ≤ 5 ∧ (s.1 c0 8).toInt ≤ 5) → oqPut (s.1 (c0 + 4)) (u.1 (c0 + 4)) (6 * (s.1 c0 8).toInt + a1.toInt) a2.toInt) ∧ (oqKd d V L u))) J := C
  obtain ⟨k6, qk6⟩ : ∃ z : Int32, z = 6 := ⟨_, rfl⟩
  have ek6 : k6.toInt = 6 := by rw [qk6]; rfl
  have rg1 := n_rng a1
  have rg2 := n_rng a2
  refine r_aload_n C (j := 0) (oDec_at oX0_spell 0 rfl) rfl rfl ?_
  obtain ⟨v1, ev1⟩ : ∃ z : Int32, (s).1 c0 8 = z := ⟨_, rfl⟩
  have gv1 : (s.1 c0 8).toInt = v1.toInt := congrArg Int32.toInt (ev1)
  refine r_geti (k := 8) (lo := 0) (hi := 6) C v1 oCl0 hk0 (by decide) flX0_39 rfl rfl (ev1) rfl rfl (oDec_at oX0_spell 1 rfl) (fun b2 b2h => ?_)
  refine r_bipush C (oDec_at oX0_spell 2 rfl) (v := k6) (by rw [qk6]; rfl) ?_
  refine r_icmp_ge C 34 (oDec_at oX0_spell 3 rfl) (by decide) (fun cd3 => ?_) (fun cd3 => ?_)
  · skip
    have hq4 : oqKd d V L (s) := by first | exact hp1 | exact oqKd_sp (by assumption) hk0 (by assumption)
    exact r_vret C (oDec_at oX0_spell 19 rfl) ⟨rfl, ⟨by first | (intro h; exfalso; omega) | exact fun _ => oqPut_of (by omega) (by omega) rfl, hq4⟩⟩
  · skip
    refine r_iload_n C (j := 1) (oDec_at oX0_spell 4 rfl) rfl rfl ?_
    refine r_if_lt C 34 (oDec_at oX0_spell 5 rfl) (by decide) (fun cd5 => ?_) (fun cd5 => ?_)
    · skip
      have hq6 : oqKd d V L (s) := by first | exact hp1 | exact oqKd_sp (by assumption) hk0 (by assumption)
      exact r_vret C (oDec_at oX0_spell 19 rfl) ⟨rfl, ⟨by first | (intro h; exfalso; omega) | exact fun _ => oqPut_of (by omega) (by omega) rfl, hq6⟩⟩
    · skip
      refine r_iload_n C (j := 1) (oDec_at oX0_spell 6 rfl) rfl rfl ?_
      refine r_bipush C (oDec_at oX0_spell 7 rfl) (v := k6) (by rw [qk6]; rfl) ?_
      refine r_icmp_ge C 34 (oDec_at oX0_spell 8 rfl) (by decide) (fun cd7 => ?_) (fun cd7 => ?_)
      · skip
        have hq8 : oqKd d V L (s) := by first | exact hp1 | exact oqKd_sp (by assumption) hk0 (by assumption)
        exact r_vret C (oDec_at oX0_spell 19 rfl) ⟨rfl, ⟨by first | (intro h; exfalso; omega) | exact fun _ => oqPut_of (by omega) (by omega) rfl, hq8⟩⟩
      · skip
        refine r_aload_n C (j := 0) (oDec_at oX0_spell 9 rfl) rfl rfl ?_
        refine r_getR (k := 4) (b := 4) C oCl0 hk0 (by decide) flX0_23 rfl rfl rfl (oDec_at oX0_spell 10 rfl) ?_
        refine r_aload_n C (j := 0) (oDec_at oX0_spell 11 rfl) rfl rfl ?_
        refine r_geti (k := 8) (lo := 0) (hi := 6) C v1 oCl0 hk0 (by decide) flX0_39 rfl rfl (ev1) rfl rfl (oDec_at oX0_spell 12 rfl) (fun _ _ => ?_)
        refine r_bipush C (oDec_at oX0_spell 13 rfl) (v := k6) (by rw [qk6]; rfl) ?_
        obtain ⟨v9, ev9⟩ : ∃ z : Int32, z = v1 * k6 := ⟨_, rfl⟩
        have hv9 : v9.toInt = v1.toInt * 6 := n_mulK 6 ev9 ek6 (by omega) (by omega)
        refine r_imul C v9 (oDec_at oX0_spell 14 rfl) ev9 ?_
        refine r_pc C 30 rfl ?_
        refine r_iload_n C (j := 1) (oDec_at oX0_spell 15 rfl) rfl rfl ?_
        obtain ⟨v10, ev10⟩ : ∃ z : Int32, z = v9 + a1 := ⟨_, rfl⟩
        have hv10 : v10.toInt = v9.toInt + a1.toInt := n_add ev10 (by omega) (by omega)
        refine r_iadd C v10 (oDec_at oX0_spell 16 rfl) ev10 ?_
        refine r_iload_n C (j := 2) (oDec_at oX0_spell 17 rfl) rfl rfl ?_
        refine r_iast (n := 36) (lo := (-2147483648)) (hi := 2147483647) C (kr0_4 hk0) (by decide) rfl rfl ⟨by omega, by omega⟩ (by decide) rfl rfl rfl rfl (n_rng _) (oDec_at oX0_spell 18 rfl) ?_
        have hq11 : oqKd d V L ((pI s (c0 + 4) v10.toNatClampNeg a2)) := by first | exact (by assumption) | exact oqKd_sp hp1 hk0 (by assumption)
        exact r_vret C (oDec_at oX0_spell 19 rfl) ⟨rfl, ⟨by first | (intro h; exfalso; omega) | exact fun _ => oqPut_of (by omega) (by omega) rfl, hq11⟩⟩
set_option maxHeartbeats 4000000 in
set_option maxRecDepth 100000 in
theorem ct8_X0_clear (l : Launch) (E : oE) (s : oS) (c0 : Nat) (hk0 : okd c0 = 0) (d : Nat) (V : Int) (L : Nat → Int32) (hp0 : c0 ≠ d) (hp1 : oqKd d V L s) : oMet l 1 yX0_clear cX0_clear 1 none [(0, 1), (0, 6), (0, 7), (0, 8)] E s [.ref (oad E c0)] (oPv (fun u => ((u.1 c0 7).toInt = 0) ∧ ((u.1 c0 8).toInt = 0) ∧ (oqKd d V L u))) := by
  refine oMet.of (lv := [(0, .ref (oad E c0))]) (by decide +kernel) (Nat.le_of_ble_eq_true rfl) rfl (fun J C hT => ?_)
  have C : oC l 1 cX0_clear RX0 1 none [(0, 1), (0, 6), (0, 7), (0, 8)] E s (oPv (fun u => ((u.1 c0 7).toInt = 0) ∧ ((u.1 c0 8).toInt = 0) ∧ (oqKd d V L u))) J := C
  obtain ⟨k0, qk0⟩ : ∃ z : Int32, z = 0 := ⟨_, rfl⟩
  have ek0 : k0.toInt = 0 := by rw [qk0]; rfl
  obtain ⟨k4, qk4⟩ : ∃ z : Int32, z = 4 := ⟨_, rfl⟩
  have ek4 : k4.toInt = 4 := by rw [qk4]; rfl
  refine r_aload_n C (j := 0) (oDec_at oX0_clear 0 rfl) rfl rfl ?_
  refine r_iconst C (oDec_at oX0_clear 1 rfl) (v := k0) (by rw [qk0]; rfl) ?_
  refine r_puti (k := 1) (lo := 0) (hi := 1600) C oCl0 hk0 (by decide) flX0_33 rfl rfl rfl rfl rfl rfl rfl rfl ⟨by omega, by omega⟩ (oDec_at oX0_clear 2 rfl) ?_
  refine r_aload_n C (j := 0) (oDec_at oX0_clear 3 rfl) rfl rfl ?_
  refine r_iconst C (oDec_at oX0_clear 4 rfl) (v := k0) (by rw [qk0]; rfl) ?_
  refine r_puti (k := 7) (lo := 0) (hi := 12) C oCl0 hk0 (by decide) flX0_36 rfl rfl rfl rfl rfl rfl rfl rfl ⟨by omega, by omega⟩ (oDec_at oX0_clear 5 rfl) ?_
  refine r_pc C 10 rfl ?_
  refine r_aload_n C (j := 0) (oDec_at oX0_clear 6 rfl) rfl rfl ?_
  refine r_iconst C (oDec_at oX0_clear 7 rfl) (v := k0) (by rw [qk0]; rfl) ?_
  refine r_puti (k := 8) (lo := 0) (hi := 6) C oCl0 hk0 (by decide) flX0_39 rfl rfl rfl rfl rfl rfl rfl rfl ⟨by omega, by omega⟩ (oDec_at oX0_clear 8 rfl) ?_
  have hq1 : oqKd d V L ((pI (pI (pI s c0 1 k0) c0 7 k0) c0 8 k0)) := oqKd_p8 (oqKd_fr (oFr_oneI (q := 0) (m := 7) hk0 (by rfl)) rfl (oqKd_fr (oFr_oneI (q := 0) (m := 1) hk0 (by rfl)) rfl hp1)) hk0 (by assumption)
  refine r_aload_n C (j := 0) (oDec_at oX0_clear 9 rfl) rfl rfl ?_
  refine r_iconst C (oDec_at oX0_clear 10 rfl) (v := k4) (by rw [qk4]; rfl) ?_
  refine r_puti (k := 6) (lo := 2) (hi := 12) C oCl0 hk0 (by decide) flX0_29 rfl rfl rfl rfl rfl rfl rfl rfl ⟨by omega, by omega⟩ (oDec_at oX0_clear 11 rfl) ?_
  refine r_pc C 20 rfl ?_
  have lk2 : (((pI (pI (pI (pI s c0 1 k0) c0 7 k0) c0 8 k0) c0 6 k4)).1 c0 7).toInt = k0.toInt := congrArg Int32.toInt (((pI_ne (a := c0) (b := 7) (c := c0) (k := 6) _ _ (Or.inr (by decide)))).trans (((pI_ne (a := c0) (b := 7) (c := c0) (k := 8) _ _ (Or.inr (by decide)))).trans ((pI_self _ _ _ _))))
  have lk3 : (((pI (pI (pI (pI s c0 1 k0) c0 7 k0) c0 8 k0) c0 6 k4)).1 c0 8).toInt = k0.toInt := congrArg Int32.toInt (((pI_ne (a := c0) (b := 8) (c := c0) (k := 6) _ _ (Or.inr (by decide)))).trans ((pI_self _ _ _ _)))
  exact r_vret C (oDec_at oX0_clear 12 rfl) ⟨rfl, ⟨by omega, by omega, (oqKd_fr (oFr_oneI (q := 0) (m := 6) hk0 (by rfl)) rfl hq1)⟩⟩
set_option maxHeartbeats 4000000 in
set_option maxRecDepth 100000 in
theorem ct8_X0_close (l : Launch) (E : oE) (s : oS) (c0 : Nat) (hk0 : okd c0 = 0) (a1 : Int32) (a2 : Int32) (d : Nat) (V : Int) (L : Nat → Int32) (hp0 : 0 ≤ a1.toInt ∧ a1.toInt ≤ 1) (hp1 : 0 ≤ a2.toInt ∧ a2.toInt ≤ 1600) (hp2 : a1.toInt = 1 → (s.1 c0 8).toInt ≤ 5) (hp3 : a1.toInt = 0 → (s.1 c0 7).toInt ≤ 11) (hp4 : c0 ≠ d) (hp5 : oqKd d V L s) : oMet l 1 yX0_close cX0_close 4 none [(0, 7), (0, 8), (21, 9999), (22, 9999)] E s [.ref (oad E c0), .int a1, .int a2] (oPv (fun u => ((u.1 c0 8).toInt = (s.1 c0 8).toInt + a1.toInt) ∧ ((u.1 c0 7).toInt = (s.1 c0 7).toInt + 1 - a1.toInt) ∧ (oqKd d V L u))) := by
  refine oMet.of (lv := [(0, .ref (oad E c0)), (1, .int a1), (2, .int a2)]) (by decide +kernel) (Nat.le_of_ble_eq_true rfl) rfl (fun J C hT => ?_)
  have C : oC l 1 cX0_close RX0 4 none [(0, 7), (0, 8), (21, 9999), (22, 9999)] E s (oPv (fun u => ((u.1 c0 8).toInt = (s.1 c0 8).toInt + a1.toInt) ∧ ((u.1 c0 7).toInt = (s.1 c0 7).toInt + 1 - a1.toInt) ∧ (oqKd d V L u))) J := C
  obtain ⟨k0, qk0⟩ : ∃ z : Int32, z = 0 := ⟨_, rfl⟩
  have ek0 : k0.toInt = 0 := by rw [qk0]; rfl
  obtain ⟨k1, qk1⟩ : ∃ z : Int32, z = 1 := ⟨_, rfl⟩
  have ek1 : k1.toInt = 1 := by rw [qk1]; rfl
  obtain ⟨k12, qk12⟩ : ∃ z : Int32, z = 12 := ⟨_, rfl⟩
  have ek12 : k12.toInt = 12 := by rw [qk12]; rfl
  obtain ⟨k18, qk18⟩ : ∃ z : Int32, z = 18 := ⟨_, rfl⟩
  have ek18 : k18.toInt = 18 := by rw [qk18]; rfl
  have rg1 := n_rng a1
  have rg2 := n_rng a2
  refine r_iload_n C (j := 1) (oDec_at oX0_close 0 rfl) rfl rfl ?_
  refine r_if_eq C 14 (oDec_at oX0_close 1 rfl) (by decide) (fun cd1 => ?_) (fun cd1 => ?_)
  · skip
    refine r_aload_n C (j := 0) (oDec_at oX0_close 7 rfl) rfl rfl ?_
    obtain ⟨v2, ev2⟩ : ∃ z : Int32, (s).1 c0 7 = z := ⟨_, rfl⟩
    have gv2 : (s.1 c0 7).toInt = v2.toInt := congrArg Int32.toInt (ev2)
    refine r_geti (k := 7) (lo := 0) (hi := 12) C v2 oCl0 hk0 (by decide) flX0_36 rfl rfl (ev2) rfl rfl (oDec_at oX0_close 8 rfl) (fun b3 b3h => ?_)
    refine r_istore_n C (lv' := [(0, .ref (oad E c0)), (1, .int a1), (2, .int a2), (3, .int v2)]) [1, 2, 3, 0] (oDec_at oX0_close 9 rfl) rfl (by decide) rfl ?_
    refine r_iload_n C (j := 3) (oDec_at oX0_close 10 rfl) rfl rfl ?_
    refine r_bipush C (oDec_at oX0_close 11 rfl) (v := k18) (by rw [qk18]; rfl) ?_
    refine r_icmp_lt C 26 (oDec_at oX0_close 12 rfl) (by decide) (fun cd4 => ?_) (fun cd4 => ?_)
    · skip
      refine r_aload_n C (j := 0) (oDec_at oX0_close 14 rfl) rfl rfl ?_
      refine r_getR (k := 2) (b := 2) C oCl0 hk0 (by decide) flX0_17 rfl rfl rfl (oDec_at oX0_close 15 rfl) ?_
      refine r_iload_n C (j := 3) (oDec_at oX0_close 16 rfl) rfl rfl ?_
      refine r_iload_n C (j := 2) (oDec_at oX0_close 17 rfl) rfl rfl ?_
      refine r_iast (n := 18) (lo := 0) (hi := 1600) C (kr0_2 hk0) (by decide) rfl rfl ⟨by omega, by omega⟩ (by decide) rfl rfl rfl rfl ⟨by omega, by omega⟩ (oDec_at oX0_close 18 rfl) ?_
      refine r_aload_n C (j := 0) (oDec_at oX0_close 19 rfl) rfl rfl ?_
      refine r_pc C 34 rfl ?_
      refine r_getR (k := 3) (b := 3) C oCl0 hk0 (by decide) flX0_20 rfl rfl rfl (oDec_at oX0_close 20 rfl) ?_
      refine r_iload_n C (j := 3) (oDec_at oX0_close 21 rfl) rfl rfl ?_
      refine r_aload_n C (j := 0) (oDec_at oX0_close 22 rfl) rfl rfl ?_
      obtain ⟨v5, ev5⟩ : ∃ z : Int32, ((pI s (c0 + 2) v2.toNatClampNeg a2)).1 c0 1 = z := ⟨_, rfl⟩
      have gv5 : (s.1 c0 1).toInt = v5.toInt := congrArg Int32.toInt (((pI_ne _ _ (Or.inl (okd_ne hk0 (kr0_2 hk0) (by decide))))).symm.trans ev5)
      have ggv5 : (((pI s (c0 + 2) v2.toNatClampNeg a2)).1 c0 1).toInt = v5.toInt := congrArg Int32.toInt ev5
      refine r_geti (k := 1) (lo := 0) (hi := 1600) C v5 oCl0 hk0 (by decide) flX0_33 rfl rfl (ev5) rfl rfl (oDec_at oX0_close 23 rfl) (fun b6 b6h => ?_)
      refine r_iast (n := 18) (lo := (-2147483648)) (hi := 2147483647) C (kr0_3 hk0) (by decide) rfl rfl ⟨by omega, by omega⟩ (by decide) rfl rfl rfl rfl (n_rng _) (oDec_at oX0_close 24 rfl) ?_
      refine r_aload_n C (j := 0) (oDec_at oX0_close 25 rfl) rfl rfl ?_
      refine r_pc C 44 rfl ?_
      refine r_dup C (oDec_at oX0_close 26 rfl) rfl ?_
      obtain ⟨v7, ev7⟩ : ∃ z : Int32, ((pI (pI s (c0 + 2) v2.toNatClampNeg a2) (c0 + 3) v2.toNatClampNeg v5)).1 c0 8 = z := ⟨_, rfl⟩
      have gv7 : (s.1 c0 8).toInt = v7.toInt := congrArg Int32.toInt ((((pI_ne _ _ (Or.inl (okd_ne hk0 (kr0_3 hk0) (by decide))))).trans ((pI_ne _ _ (Or.inl (okd_ne hk0 (kr0_2 hk0) (by decide)))))).symm.trans ev7)
      have ggv7 : (((pI (pI s (c0 + 2) v2.toNatClampNeg a2) (c0 + 3) v2.toNatClampNeg v5)).1 c0 8).toInt = v7.toInt := congrArg Int32.toInt ev7
      refine r_geti (k := 8) (lo := 0) (hi := 6) C v7 oCl0 hk0 (by decide) flX0_39 rfl rfl (ev7) rfl rfl (oDec_at oX0_close 27 rfl) (fun b8 b8h => ?_)
      refine r_iload_n C (j := 1) (oDec_at oX0_close 28 rfl) rfl rfl ?_
      refine r_if_eq C 56 (oDec_at oX0_close 29 rfl) (by decide) (fun cd9 => ?_) (fun cd9 => ?_)
      · skip
        refine r_iconst C (oDec_at oX0_close 32 rfl) (v := k0) (by rw [qk0]; rfl) ?_
        obtain ⟨v10, ev10⟩ : ∃ z : Int32, z = v7 + k0 := ⟨_, rfl⟩
        have hv10 : v10.toInt = v7.toInt + k0.toInt := n_add ev10 (by omega) (by omega)
        refine r_iadd C v10 (oDec_at oX0_close 33 rfl) ev10 ?_
        refine r_puti (k := 8) (lo := 0) (hi := 6) C oCl0 hk0 (by decide) flX0_39 rfl rfl rfl rfl rfl rfl rfl rfl ⟨by omega, by omega⟩ (oDec_at oX0_close 34 rfl) ?_
        have hq11 : oqKd d V L ((pI (pI (pI s (c0 + 2) v2.toNatClampNeg a2) (c0 + 3) v2.toNatClampNeg v5) c0 8 v10)) := oqKd_p8 (oqKd_fr (oFr_oneI (q := 22) (m := 9999) (kr0_3 hk0) (by rfl)) rfl (oqKd_fr (oFr_oneI (q := 21) (m := 9999) (kr0_2 hk0) (by rfl)) rfl hp5)) hk0 (by assumption)
        refine r_aload_n C (j := 0) (oDec_at oX0_close 35 rfl) rfl rfl ?_
        refine r_dup C (oDec_at oX0_close 36 rfl) rfl ?_
        refine r_geti (k := 7) (lo := 0) (hi := 12) C v2 oCl0 hk0 (by decide) flX0_36 rfl rfl (((pI_ne (a := c0) (b := 7) (c := c0) (k := 8) _ _ (Or.inr (by decide)))).trans (((pI_ne _ _ (Or.inl (okd_ne hk0 (kr0_3 hk0) (by decide))))).trans (((pI_ne _ _ (Or.inl (okd_ne hk0 (kr0_2 hk0) (by decide))))).trans (ev2)))) rfl rfl (oDec_at oX0_close 37 rfl) (fun _ _ => ?_)
        refine r_pc C 66 rfl ?_
        refine r_iload_n C (j := 1) (oDec_at oX0_close 38 rfl) rfl rfl ?_
        refine r_if_eq C 74 (oDec_at oX0_close 39 rfl) (by decide) (fun cd12 => ?_) (fun cd12 => ?_)
        · skip
          refine r_iconst C (oDec_at oX0_close 42 rfl) (v := k1) (by rw [qk1]; rfl) ?_
          obtain ⟨v13, ev13⟩ : ∃ z : Int32, z = v2 + k1 := ⟨_, rfl⟩
          have hv13 : v13.toInt = v2.toInt + k1.toInt := n_add ev13 (by omega) (by omega)
          refine r_iadd C v13 (oDec_at oX0_close 43 rfl) ev13 ?_
          refine r_puti (k := 7) (lo := 0) (hi := 12) C oCl0 hk0 (by decide) flX0_36 rfl rfl rfl rfl rfl rfl rfl rfl ⟨by omega, by omega⟩ (oDec_at oX0_close 44 rfl) ?_
          have lk14 : (((pI (pI (pI (pI s (c0 + 2) v2.toNatClampNeg a2) (c0 + 3) v2.toNatClampNeg v5) c0 8 v10) c0 7 v13)).1 c0 8).toInt = v10.toInt := congrArg Int32.toInt (((pI_ne (a := c0) (b := 8) (c := c0) (k := 7) _ _ (Or.inr (by decide)))).trans ((pI_self _ _ _ _)))
          have lk15 : (((pI (pI (pI (pI s (c0 + 2) v2.toNatClampNeg a2) (c0 + 3) v2.toNatClampNeg v5) c0 8 v10) c0 7 v13)).1 c0 7).toInt = v13.toInt := congrArg Int32.toInt ((pI_self _ _ _ _))
          exact r_vret C (oDec_at oX0_close 45 rfl) ⟨rfl, ⟨by omega, by omega, (oqKd_fr (oFr_oneI (q := 0) (m := 7) hk0 (by rfl)) rfl hq11)⟩⟩
        · omega
      · omega
    · skip
      have lk16 : ((s).1 c0 7).toInt = v2.toInt := congrArg Int32.toInt (ev2)
      exact r_vret C (oDec_at oX0_close 13 rfl) ⟨rfl, ⟨by omega, by omega, hp5⟩⟩
  · skip
    refine r_bipush C (oDec_at oX0_close 2 rfl) (v := k12) (by rw [qk12]; rfl) ?_
    refine r_aload_n C (j := 0) (oDec_at oX0_close 3 rfl) rfl rfl ?_
    obtain ⟨v17, ev17⟩ : ∃ z : Int32, (s).1 c0 8 = z := ⟨_, rfl⟩
    have gv17 : (s.1 c0 8).toInt = v17.toInt := congrArg Int32.toInt (ev17)
    refine r_geti (k := 8) (lo := 0) (hi := 6) C v17 oCl0 hk0 (by decide) flX0_39 rfl rfl (ev17) rfl rfl (oDec_at oX0_close 4 rfl) (fun b18 b18h => ?_)
    obtain ⟨v19, ev19⟩ : ∃ z : Int32, z = k12 + v17 := ⟨_, rfl⟩
    have hv19 : v19.toInt = k12.toInt + v17.toInt := n_add ev19 (by omega) (by omega)
    refine r_iadd C v19 (oDec_at oX0_close 5 rfl) ev19 ?_
    refine r_goto C (tgt := 18) (oDec_at oX0_close 6 rfl) (by decide) ?_
    refine r_istore_n C (lv' := [(0, .ref (oad E c0)), (1, .int a1), (2, .int a2), (3, .int v19)]) [1, 2, 3, 0] (oDec_at oX0_close 9 rfl) rfl (by decide) rfl ?_
    refine r_iload_n C (j := 3) (oDec_at oX0_close 10 rfl) rfl rfl ?_
    refine r_pc C 20 rfl ?_
    refine r_bipush C (oDec_at oX0_close 11 rfl) (v := k18) (by rw [qk18]; rfl) ?_
    refine r_icmp_lt C 26 (oDec_at oX0_close 12 rfl) (by decide) (fun cd20 => ?_) (fun cd20 => ?_)
    · skip
      refine r_aload_n C (j := 0) (oDec_at oX0_close 14 rfl) rfl rfl ?_
      refine r_getR (k := 2) (b := 2) C oCl0 hk0 (by decide) flX0_17 rfl rfl rfl (oDec_at oX0_close 15 rfl) ?_
      refine r_iload_n C (j := 3) (oDec_at oX0_close 16 rfl) rfl rfl ?_
      refine r_iload_n C (j := 2) (oDec_at oX0_close 17 rfl) rfl rfl ?_
      refine r_iast (n := 18) (lo := 0) (hi := 1600) C (kr0_2 hk0) (by decide) rfl rfl ⟨by omega, by omega⟩ (by decide) rfl rfl rfl rfl ⟨by omega, by omega⟩ (oDec_at oX0_close 18 rfl) ?_
      refine r_aload_n C (j := 0) (oDec_at oX0_close 19 rfl) rfl rfl ?_
      refine r_pc C 34 rfl ?_
      refine r_getR (k := 3) (b := 3) C oCl0 hk0 (by decide) flX0_20 rfl rfl rfl (oDec_at oX0_close 20 rfl) ?_
      refine r_iload_n C (j := 3) (oDec_at oX0_close 21 rfl) rfl rfl ?_
      refine r_aload_n C (j := 0) (oDec_at oX0_close 22 rfl) rfl rfl ?_
      obtain ⟨v21, ev21⟩ : ∃ z : Int32, ((pI s (c0 + 2) v19.toNatClampNeg a2)).1 c0 1 = z := ⟨_, rfl⟩
      have gv21 : (s.1 c0 1).toInt = v21.toInt := congrArg Int32.toInt (((pI_ne _ _ (Or.inl (okd_ne hk0 (kr0_2 hk0) (by decide))))).symm.trans ev21)
      have ggv21 : (((pI s (c0 + 2) v19.toNatClampNeg a2)).1 c0 1).toInt = v21.toInt := congrArg Int32.toInt ev21
      refine r_geti (k := 1) (lo := 0) (hi := 1600) C v21 oCl0 hk0 (by decide) flX0_33 rfl rfl (ev21) rfl rfl (oDec_at oX0_close 23 rfl) (fun b22 b22h => ?_)
      refine r_iast (n := 18) (lo := (-2147483648)) (hi := 2147483647) C (kr0_3 hk0) (by decide) rfl rfl ⟨by omega, by omega⟩ (by decide) rfl rfl rfl rfl (n_rng _) (oDec_at oX0_close 24 rfl) ?_
      refine r_aload_n C (j := 0) (oDec_at oX0_close 25 rfl) rfl rfl ?_
      refine r_pc C 44 rfl ?_
      refine r_dup C (oDec_at oX0_close 26 rfl) rfl ?_
      refine r_geti (k := 8) (lo := 0) (hi := 6) C v17 oCl0 hk0 (by decide) flX0_39 rfl rfl (((pI_ne _ _ (Or.inl (okd_ne hk0 (kr0_3 hk0) (by decide))))).trans (((pI_ne _ _ (Or.inl (okd_ne hk0 (kr0_2 hk0) (by decide))))).trans (ev17))) rfl rfl (oDec_at oX0_close 27 rfl) (fun _ _ => ?_)
      refine r_iload_n C (j := 1) (oDec_at oX0_close 28 rfl) rfl rfl ?_
      refine r_if_eq C 56 (oDec_at oX0_close 29 rfl) (by decide) (fun cd23 => ?_) (fun cd23 => ?_)
      · omega
      · skip
        refine r_iconst C (oDec_at oX0_close 30 rfl) (v := k1) (by rw [qk1]; rfl) ?_
        refine r_goto C (tgt := 57) (oDec_at oX0_close 31 rfl) (by decide) ?_
        obtain ⟨v24, ev24⟩ : ∃ z : Int32, z = v17 + k1 := ⟨_, rfl⟩
        have hv24 : v24.toInt = v17.toInt + k1.toInt := n_add ev24 (by omega) (by omega)
        refine r_iadd C v24 (oDec_at oX0_close 33 rfl) ev24 ?_
        refine r_puti (k := 8) (lo := 0) (hi := 6) C oCl0 hk0 (by decide) flX0_39 rfl rfl rfl rfl rfl rfl rfl rfl ⟨by omega, by omega⟩ (oDec_at oX0_close 34 rfl) ?_
        have hq25 : oqKd d V L ((pI (pI (pI s (c0 + 2) v19.toNatClampNeg a2) (c0 + 3) v19.toNatClampNeg v21) c0 8 v24)) := oqKd_p8 (oqKd_fr (oFr_oneI (q := 22) (m := 9999) (kr0_3 hk0) (by rfl)) rfl (oqKd_fr (oFr_oneI (q := 21) (m := 9999) (kr0_2 hk0) (by rfl)) rfl hp5)) hk0 (by assumption)
        refine r_aload_n C (j := 0) (oDec_at oX0_close 35 rfl) rfl rfl ?_
        refine r_dup C (oDec_at oX0_close 36 rfl) rfl ?_
        obtain ⟨v26, ev26⟩ : ∃ z : Int32, ((pI (pI (pI s (c0 + 2) v19.toNatClampNeg a2) (c0 + 3) v19.toNatClampNeg v21) c0 8 v24)).1 c0 7 = z := ⟨_, rfl⟩
        have gv26 : (s.1 c0 7).toInt = v26.toInt := congrArg Int32.toInt ((((pI_ne (a := c0) (b := 7) (c := c0) (k := 8) _ _ (Or.inr (by decide)))).trans (((pI_ne _ _ (Or.inl (okd_ne hk0 (kr0_3 hk0) (by decide))))).trans ((pI_ne _ _ (Or.inl (okd_ne hk0 (kr0_2 hk0) (by decide))))))).symm.trans ev26)
        have ggv26 : (((pI (pI (pI s (c0 + 2) v19.toNatClampNeg a2) (c0 + 3) v19.toNatClampNeg v21) c0 8 v24)).1 c0 7).toInt = v26.toInt := congrArg Int32.toInt ev26
        refine r_geti (k := 7) (lo := 0) (hi := 12) C v26 oCl0 hk0 (by decide) flX0_36 rfl rfl (ev26) rfl rfl (oDec_at oX0_close 37 rfl) (fun b27 b27h => ?_)
        refine r_pc C 66 rfl ?_
        refine r_iload_n C (j := 1) (oDec_at oX0_close 38 rfl) rfl rfl ?_
        refine r_if_eq C 74 (oDec_at oX0_close 39 rfl) (by decide) (fun cd28 => ?_) (fun cd28 => ?_)
        · omega
        · skip
          refine r_iconst C (oDec_at oX0_close 40 rfl) (v := k0) (by rw [qk0]; rfl) ?_
          refine r_goto C (tgt := 75) (oDec_at oX0_close 41 rfl) (by decide) ?_
          obtain ⟨v29, ev29⟩ : ∃ z : Int32, z = v26 + k0 := ⟨_, rfl⟩
          have hv29 : v29.toInt = v26.toInt + k0.toInt := n_add ev29 (by omega) (by omega)
          refine r_iadd C v29 (oDec_at oX0_close 43 rfl) ev29 ?_
          refine r_puti (k := 7) (lo := 0) (hi := 12) C oCl0 hk0 (by decide) flX0_36 rfl rfl rfl rfl rfl rfl rfl rfl ⟨by omega, by omega⟩ (oDec_at oX0_close 44 rfl) ?_
          have lk30 : (((pI (pI (pI (pI s (c0 + 2) v19.toNatClampNeg a2) (c0 + 3) v19.toNatClampNeg v21) c0 8 v24) c0 7 v29)).1 c0 8).toInt = v24.toInt := congrArg Int32.toInt (((pI_ne (a := c0) (b := 8) (c := c0) (k := 7) _ _ (Or.inr (by decide)))).trans ((pI_self _ _ _ _)))
          have lk31 : (((pI (pI (pI (pI s (c0 + 2) v19.toNatClampNeg a2) (c0 + 3) v19.toNatClampNeg v21) c0 8 v24) c0 7 v29)).1 c0 7).toInt = v29.toInt := congrArg Int32.toInt ((pI_self _ _ _ _))
          exact r_vret C (oDec_at oX0_close 45 rfl) ⟨rfl, ⟨by omega, by omega, (oqKd_fr (oFr_oneI (q := 0) (m := 7) hk0 (by rfl)) rfl hq25)⟩⟩
    · skip
      have lk32 : ((s).1 c0 8).toInt = v17.toInt := congrArg Int32.toInt (ev17)
      exact r_vret C (oDec_at oX0_close 13 rfl) ⟨rfl, ⟨by omega, by omega, hp5⟩⟩
set_option maxHeartbeats 4000000 in
set_option maxRecDepth 100000 in
theorem ct8_X5_name (l : Launch) (E : oE) (s : oS)  (g : Int → Int) (a : Int) (N : Nat → Nat → Int) (R : Int) (M : Int) (d : Nat) (V : Int) (L : Nat → Int32) (hp0 : (s.1 30 2).toInt = a) (hp1 : (s.1 30 3).toInt = a) (hp2 : oqX g s) (hp3 : oqNl N R M M s) (hp4 : 0 ≤ M ∧ M ≤ 5) (hp5 : ¬ (97 ≤ g a ∧ g a ≤ 122)) (hp6 : oqKd d V L s) : oMet l 6 yX5_name cX5_name 2 (some .boolean) [(5, 2), (5, 3), (5, 4), (5, 8), (5, 9), (23, 9999)] E s [.ref (oad E 30)] (oPi (fun r u => (0 ≤ r.toInt ∧ r.toInt ≤ 1) ∧ (r.toInt = 1 → (oqMk g a N M = 0 ∧ (u.1 30 2).toInt = oqWe g (oqSk g a) ∧ (u.1 30 3).toInt = oqWe g (oqSk g a) ∧ (u.1 30 8).toInt = (s.1 30 8).toInt ∧ (u.1 30 9).toInt = (s.1 30 9).toInt)) ∧ (r.toInt = 0 → (oqMk g a N M ≠ 0 ∧ (u.1 30 8).toInt = oqMk g a N M ∧ (u.1 30 9).toInt = oqMp g a)) ∧ (r.toInt = 1 → oqNl (oqNx N M (oqN6 g (oqSk g a))) R M (M + 1) u) ∧ (oqKd d V L u))) := by
  refine oMet.of (lv := [(0, .ref (oad E 30))]) (by decide +kernel) (Nat.le_of_ble_eq_true rfl) rfl (fun J C hT => ?_)
  have C : oC l 6 cX5_name RX5 2 (some .boolean) [(5, 2), (5, 3), (5, 4), (5, 8), (5, 9), (23, 9999)] E s (oPi (fun r u => (0 ≤ r.toInt ∧ r.toInt ≤ 1) ∧ (r.toInt = 1 → (oqMk g a N M = 0 ∧ (u.1 30 2).toInt = oqWe g (oqSk g a) ∧ (u.1 30 3).toInt = oqWe g (oqSk g a) ∧ (u.1 30 8).toInt = (s.1 30 8).toInt ∧ (u.1 30 9).toInt = (s.1 30 9).toInt)) ∧ (r.toInt = 0 → (oqMk g a N M ≠ 0 ∧ (u.1 30 8).toInt = oqMk g a N M ∧ (u.1 30 9).toInt = oqMp g a)) ∧ (r.toInt = 1 → oqNl (oqNx N M (oqN6 g (oqSk g a))) R M (M + 1) u) ∧ (oqKd d V L u))) J := C
  obtain ⟨km1, qkm1⟩ : ∃ z : Int32, z = (-1) := ⟨_, rfl⟩
  have ekm1 : km1.toInt = (-1) := by rw [qkm1]; rfl
  obtain ⟨k0, qk0⟩ : ∃ z : Int32, z = 0 := ⟨_, rfl⟩
  have ek0 : k0.toInt = 0 := by rw [qk0]; rfl
  obtain ⟨k1, qk1⟩ : ∃ z : Int32, z = 1 := ⟨_, rfl⟩
  have ek1 : k1.toInt = 1 := by rw [qk1]; rfl
  obtain ⟨k3, qk3⟩ : ∃ z : Int32, z = 3 := ⟨_, rfl⟩
  have ek3 : k3.toInt = 3 := by rw [qk3]; rfl
  obtain ⟨k6, qk6⟩ : ∃ z : Int32, z = 6 := ⟨_, rfl⟩
  have ek6 : k6.toInt = 6 := by rw [qk6]; rfl
  obtain ⟨k97, qk97⟩ : ∃ z : Int32, z = 97 := ⟨_, rfl⟩
  have ek97 : k97.toInt = 97 := by rw [qk97]; rfl
  have key : ∀ n : Nat, (∀ (t : oS) (x1 : Int32), (oqX g t) → (0 ≤ x1.toInt ∧ x1.toInt ≤ 6) → ((t.1 30 2).toInt = oqSk g a ∧ 0 ≤ oqSk g a) → ((t.1 30 4).toInt = oqWe g (oqSk g a)) → ((t.1 30 8).toInt = (s.1 30 8).toInt ∧ (t.1 30 9).toInt = (s.1 30 9).toInt) → (oqNq N R M (oqN6 g (oqSk g a)) x1.toInt t) → (97 ≤ g (oqSk g a) ∧ g (oqSk g a) ≤ 122) → (oqWi g a a = -1) → (oqKd d V L t) → 7 - x1.toInt ≤ (n : Int) → J t 40 [(0, .ref (oad E 30)), (1, .int x1)] []) := by
    intro n
    induction n using Nat.strongRecOn with
    | _ n ih =>
      skip
      · intro t x1  iv0 iv1 iv2 iv3 iv4 iv5 iv6 iv7 iv8 hmu
        have rx1 := n_rng x1
        have hn1 := n_nat x1
        refine r_iload_n C (j := 1) (oDec_at oX5_name 22 rfl) rfl rfl ?_
        refine r_bipush C (oDec_at oX5_name 23 rfl) (v := k6) (by rw [qk6]; rfl) ?_
        refine r_icmp_ge C 95 (oDec_at oX5_name 24 rfl) (by decide) (fun cd1 => ?_) (fun cd1 => ?_)
        · skip
          refine r_aload_n C (j := 0) (oDec_at oX5_name 51 rfl) rfl rfl ?_
          obtain ⟨v2, ev2⟩ : ∃ z : Int32, (t).1 30 4 = z := ⟨_, rfl⟩
          have gv2 : (t.1 30 4).toInt = v2.toInt := congrArg Int32.toInt (ev2)
          refine r_geti (k := 4) (lo := 0) (hi := 1600) C v2 oCl5 rfl (by decide) flX5_130 rfl rfl (ev2) rfl rfl (oDec_at oX5_name 52 rfl) (fun b3 b3h => ?_)
          refine r_aload_n C (j := 0) (oDec_at oX5_name 53 rfl) rfl rfl ?_
          obtain ⟨v4, ev4⟩ : ∃ z : Int32, (t).1 30 2 = z := ⟨_, rfl⟩
          have gv4 : (t.1 30 2).toInt = v4.toInt := congrArg Int32.toInt (ev4)
          refine r_geti (k := 2) (lo := 0) (hi := 1600) C v4 oCl5 rfl (by decide) flX5_23 rfl rfl (ev4) rfl rfl (oDec_at oX5_name 54 rfl) (fun b5 b5h => ?_)
          obtain ⟨v6, ev6⟩ : ∃ z : Int32, z = v2 - v4 := ⟨_, rfl⟩
          have hv6 : v6.toInt = v2.toInt - v4.toInt := n_sub ev6 (by omega) (by omega)
          refine r_isub C v6 (oDec_at oX5_name 55 rfl) ev6 ?_
          refine r_bipush C (oDec_at oX5_name 56 rfl) (v := k6) (by rw [qk6]; rfl) ?_
          refine r_pc C 106 rfl ?_
          refine r_icmp_le C 122 (oDec_at oX5_name 57 rfl) (by decide) (fun cd7 => ?_) (fun cd7 => ?_)
          · skip
            refine r_aload_n C (j := 0) (oDec_at oX5_name 66 rfl) rfl rfl ?_
            refine r_getS (k := 1) (q2 := 0) C oCl5 rfl (by decide) flX5_19 rfl rfl rfl ks1 (oDec_at oX5_name 67 rfl) (fun b8 rb8 mb8 hkb8 => ?_)
            have hnq := oqNq_at iv5 rb8
            obtain ⟨hnq7, hnq8, hnq9⟩ := hnq
            have htt := oqTaken_tk hnq9 (by omega) (by omega)
            rw [show M.toNat = ((t).1 b8 8).toNatClampNeg by (have h9 := n_nat ((t).1 b8 8); omega)] at htt
            clear hnq9
            refine r_callVi C oCl0 hkb8 miX0_isNameTaken mlX5_141 (ct4_X0_isNameTaken l E (t) b8 hkb8 (by omega)) (by decide) rfl rfl rfl (Nat.le_of_ble_eq_true rfl) (oDec_at oX5_name 68 rfl) (fun r10 u9 pu9 fu9 => ?_)
            try dsimp only at pu9
            obtain ⟨pu9_0, pu9_1, pu9_2⟩ := pu9
            have hxu9 := oFr_nil fu9; subst hxu9
            have rr10 := n_rng r10
            refine r_if_eq C 142 (oDec_at oX5_name 69 rfl) (by decide) (fun cd11 => ?_) (fun cd11 => ?_)
            · skip
              clear pu9_1
              replace pu9_2 := pu9_2 (by omega)
              have hM := oqM_0 (g := g) (h := a) (M := M) (N := N) iv6 iv7 (by omega) (fun h9 => pu9_2 (htt.mpr h9))
              have hq12 : oqNl (oqNx N M (oqN6 g (oqSk g a))) R M (M + 1) (t) := oqNq_l iv5 (by omega) (by omega)
              refine r_aload_n C (j := 0) (oDec_at oX5_name 76 rfl) rfl rfl ?_
              have lk13 : ((t).1 30 4).toInt = v2.toInt := congrArg Int32.toInt (ev2)
              have lk14 : ((t).1 30 4).toInt = v2.toInt := congrArg Int32.toInt (ev2)
              refine r_callVv C oCl5 rfl miX5_passWord mlX5_100 (ct4_X5_passWord l E (t)  ) (by decide) rfl rfl rfl (Nat.le_of_ble_eq_true rfl) (oDec_at oX5_name 77 rfl) (fun u15 pu15 fu15 => ?_)
              try dsimp only at pu15
              try simp only [lk13, lk14] at pu15
              obtain ⟨pu15_0, pu15_1⟩ := pu15
              refine r_iconst C (oDec_at oX5_name 78 rfl) (v := k1) (by rw [qk1]; rfl) ?_
              have lk17 : ((u15).1 30 8).toInt = (t.1 30 8).toInt := congrArg Int32.toInt ((fu15 30 8 rfl).1)
              have lk18 : ((u15).1 30 9).toInt = (t.1 30 9).toInt := congrArg Int32.toInt ((fu15 30 9 rfl).1)
              have lk19 : ((u15).1 30 8).toInt = (t.1 30 8).toInt := congrArg Int32.toInt ((fu15 30 8 rfl).1)
              have lk20 : ((u15).1 30 9).toInt = (t.1 30 9).toInt := congrArg Int32.toInt ((fu15 30 9 rfl).1)
              exact r_zret C (n_bool (by omega)) (oDec_at oX5_name 79 rfl) ⟨_, rfl, ⟨by omega, by omega, by omega, fun _ => (oqNl_fr fu15 rfl hq12), (oqKd_fr fu15 rfl iv8)⟩⟩
            · skip
              replace pu9_1 := pu9_1 (by omega)
              clear pu9_2
              have hM := oqM_3 (g := g) (h := a) (M := M) (N := N) iv6 iv7 (by omega) (htt.mp pu9_1)
              refine r_aload_n C (j := 0) (oDec_at oX5_name 70 rfl) rfl rfl ?_
              refine r_iconst C (oDec_at oX5_name 71 rfl) (v := k3) (by rw [qk3]; rfl) ?_
              refine r_aload_n C (j := 0) (oDec_at oX5_name 72 rfl) rfl rfl ?_
              refine r_geti (k := 2) (lo := 0) (hi := 1600) C v4 oCl5 rfl (by decide) flX5_23 rfl rfl (ev4) rfl rfl (oDec_at oX5_name 73 rfl) (fun _ _ => ?_)
              refine r_callVi C oCl5 rfl miX5_fail mlX5_62 (ct4_X5_fail l E (t) k3 v4 ) (by decide) rfl rfl rfl (Nat.le_of_ble_eq_true rfl) (oDec_at oX5_name 74 rfl) (fun r22 u21 pu21 fu21 => ?_)
              try dsimp only at pu21
              obtain ⟨pu21_0, pu21_1, pu21_2, pu21_3⟩ := pu21
              have rr22 := n_rng r22
              have lk23 : ((u21).1 30 2).toInt = v4.toInt := congrArg Int32.toInt (((fu21 30 2 rfl).1).trans (ev4))
              have lk24 : ((u21).1 30 3).toInt = (t.1 30 3).toInt := congrArg Int32.toInt ((fu21 30 3 rfl).1)
              exact r_zret C (n_bool (by omega)) (oDec_at oX5_name 75 rfl) ⟨_, rfl, ⟨by omega, by omega, by omega, fun h => by exfalso; omega, (oqKd_fr fu21 rfl iv8)⟩⟩
          · skip
            have hM := oqM_2 (g := g) (h := a) (M := M) (N := N) iv6 iv7 (by omega)
            refine r_aload_n C (j := 0) (oDec_at oX5_name 58 rfl) rfl rfl ?_
            refine r_iconst C (oDec_at oX5_name 59 rfl) (v := k1) (by rw [qk1]; rfl) ?_
            refine r_aload_n C (j := 0) (oDec_at oX5_name 60 rfl) rfl rfl ?_
            refine r_geti (k := 2) (lo := 0) (hi := 1600) C v4 oCl5 rfl (by decide) flX5_23 rfl rfl (ev4) rfl rfl (oDec_at oX5_name 61 rfl) (fun _ _ => ?_)
            refine r_bipush C (oDec_at oX5_name 62 rfl) (v := k6) (by rw [qk6]; rfl) ?_
            obtain ⟨v25, ev25⟩ : ∃ z : Int32, z = v4 + k6 := ⟨_, rfl⟩
            have hv25 : v25.toInt = v4.toInt + k6.toInt := n_add ev25 (by omega) (by omega)
            refine r_iadd C v25 (oDec_at oX5_name 63 rfl) ev25 ?_
            refine r_pc C 118 rfl ?_
            refine r_callVi C oCl5 rfl miX5_fail mlX5_62 (ct4_X5_fail l E (t) k1 v25 ) (by decide) rfl rfl rfl (Nat.le_of_ble_eq_true rfl) (oDec_at oX5_name 64 rfl) (fun r27 u26 pu26 fu26 => ?_)
            try dsimp only at pu26
            obtain ⟨pu26_0, pu26_1, pu26_2, pu26_3⟩ := pu26
            have rr27 := n_rng r27
            have lk28 : ((u26).1 30 2).toInt = v4.toInt := congrArg Int32.toInt (((fu26 30 2 rfl).1).trans (ev4))
            have lk29 : ((u26).1 30 3).toInt = (t.1 30 3).toInt := congrArg Int32.toInt ((fu26 30 3 rfl).1)
            exact r_zret C (n_bool (by omega)) (oDec_at oX5_name 65 rfl) ⟨_, rfl, ⟨by omega, by omega, by omega, fun h => by exfalso; omega, (oqKd_fr fu26 rfl iv8)⟩⟩
        · skip
          refine r_aload_n C (j := 0) (oDec_at oX5_name 25 rfl) rfl rfl ?_
          refine r_getS (k := 1) (q2 := 0) C oCl5 rfl (by decide) flX5_19 rfl rfl rfl ks1 (oDec_at oX5_name 26 rfl) (fun b30 rb30 mb30 hkb30 => ?_)
          have hnq := oqNq_at iv5 rb30
          obtain ⟨hnq7, hnq8, hnq9⟩ := hnq
          clear hnq9
          refine r_iload_n C (j := 1) (oDec_at oX5_name 27 rfl) rfl rfl ?_
          refine r_aload_n C (j := 0) (oDec_at oX5_name 28 rfl) rfl rfl ?_
          obtain ⟨v31, ev31⟩ : ∃ z : Int32, (t).1 30 2 = z := ⟨_, rfl⟩
          have gv31 : (t.1 30 2).toInt = v31.toInt := congrArg Int32.toInt (ev31)
          refine r_geti (k := 2) (lo := 0) (hi := 1600) C v31 oCl5 rfl (by decide) flX5_23 rfl rfl (ev31) rfl rfl (oDec_at oX5_name 29 rfl) (fun b32 b32h => ?_)
          refine r_iload_n C (j := 1) (oDec_at oX5_name 30 rfl) rfl rfl ?_
          refine r_pc C 56 rfl ?_
          obtain ⟨v33, ev33⟩ : ∃ z : Int32, z = v31 + x1 := ⟨_, rfl⟩
          have hv33 : v33.toInt = v31.toInt + x1.toInt := n_add ev33 (by omega) (by omega)
          refine r_iadd C v33 (oDec_at oX5_name 31 rfl) ev33 ?_
          refine r_aload_n C (j := 0) (oDec_at oX5_name 32 rfl) rfl rfl ?_
          obtain ⟨v34, ev34⟩ : ∃ z : Int32, (t).1 30 4 = z := ⟨_, rfl⟩
          have gv34 : (t.1 30 4).toInt = v34.toInt := congrArg Int32.toInt (ev34)
          refine r_geti (k := 4) (lo := 0) (hi := 1600) C v34 oCl5 rfl (by decide) flX5_130 rfl rfl (ev34) rfl rfl (oDec_at oX5_name 33 rfl) (fun b35 b35h => ?_)
          refine r_icmp_ge C 85 (oDec_at oX5_name 34 rfl) (by decide) (fun cd36 => ?_) (fun cd36 => ?_)
          · skip
            refine r_iconst C (oDec_at oX5_name 47 rfl) (v := k0) (by rw [qk0]; rfl) ?_
            have hkn := oqKd_ne iv8 (rb30)
            refine r_callVv C oCl0 hkb30 miX0_spell mlX5_137 (ct8_X0_spell l E (t) b30 hkb30 x1 k0 (d) (V) (L) (by omega) iv8) (by decide) rfl rfl rfl (Nat.le_of_ble_eq_true rfl) (oDec_at oX5_name 48 rfl) (fun u37 pu37 fu37 => ?_)
            try dsimp only at pu37
            obtain ⟨pu37_0, pu37_1⟩ := pu37
            obtain ⟨v39, ev39⟩ : ∃ z : Int32, x1 + Int32.ofInt 1 = z := ⟨_, rfl⟩
            have hv39 : v39.toInt = x1.toInt + 1 := n_inc ev39 (by decide) (by omega) (by omega)
            refine r_iinc C (j := 1) (lv' := [(0, .ref (oad E 30)), (1, .int v39)]) v39 [1, 0] (oDec_at oX5_name 49 rfl) rfl ev39 (by decide) rfl ?_
            refine r_goto C (tgt := 40) (oDec_at oX5_name 50 rfl) (by decide) ?_
            have lk40 : ((u37).1 30 2).toInt = v31.toInt := congrArg Int32.toInt (((fu37 30 2 rfl).1).trans (ev31))
            have lk41 : ((u37).1 30 4).toInt = v34.toInt := congrArg Int32.toInt (((fu37 30 4 rfl).1).trans (ev34))
            have lk42 : ((u37).1 30 8).toInt = (t.1 30 8).toInt := congrArg Int32.toInt ((fu37 30 8 rfl).1)
            have lk43 : ((u37).1 30 9).toInt = (t.1 30 9).toInt := congrArg Int32.toInt ((fu37 30 9 rfl).1)
            exact (ih (n - 1) (by omega)) (u37) v39  (oqX_fr fu37 rfl iv0) (by omega) (by omega) (by omega) (by omega) (by first | exact oqNq_nx (k := x1.toNatClampNeg) iv5 (((fu37 30 1 rfl).2.2).trans (rb30)) fu37 rfl (pu37_0 (by omega)) (by omega) (by omega) (by omega) (by omega) (by first | (rw [oqN6_in (by omega)]; omega) | (rw [oqN6_out (by omega)]; omega)) (by omega) | exact oqNq_0 (by assumption) (by omega)) (by omega) (by omega) pu37_1 (by omega)
          · skip
            refine r_aload_n C (j := 0) (oDec_at oX5_name 35 rfl) rfl rfl ?_
            refine r_getF (k := 0) (b := 1) C oCl5 rfl (by decide) flX5_15 rfl rfl rfl (oDec_at oX5_name 36 rfl) ?_
            refine r_aload_n C (j := 0) (oDec_at oX5_name 37 rfl) rfl rfl ?_
            refine r_geti (k := 2) (lo := 0) (hi := 1600) C v31 oCl5 rfl (by decide) flX5_23 rfl rfl (ev31) rfl rfl (oDec_at oX5_name 38 rfl) (fun _ _ => ?_)
            refine r_iload_n C (j := 1) (oDec_at oX5_name 39 rfl) rfl rfl ?_
            obtain ⟨v44, ev44⟩ : ∃ z : Int32, z = v31 + x1 := ⟨_, rfl⟩
            have hv44 : v44.toInt = v31.toInt + x1.toInt := n_add ev44 (by omega) (by omega)
            refine r_iadd C v44 (oDec_at oX5_name 40 rfl) ev44 ?_
            refine r_pc C 74 rfl ?_
            refine r_callVi C oCl8 rfl miX8_at mlX5_133 (ct4_X8_at l E (t) v44 (g) (oqSk g a + (x1.toNatClampNeg : Int)) (by omega) iv0) (by decide) rfl rfl rfl (Nat.le_of_ble_eq_true rfl) (oDec_at oX5_name 41 rfl) (fun r46 u45 pu45 fu45 => ?_)
            try dsimp only at pu45
            obtain ⟨pu45_0, pu45_1, pu45_2, pu45_3⟩ := pu45
            have hxu45 := oFr_nil fu45; subst hxu45
            have rr46 := n_rng r46
            refine r_bipush C (oDec_at oX5_name 42 rfl) (v := k97) (by rw [qk97]; rfl) ?_
            obtain ⟨v47, ev47⟩ : ∃ z : Int32, z = r46 - k97 := ⟨_, rfl⟩
            have hv47 : v47.toInt = r46.toInt - k97.toInt := n_sub ev47 (by omega) (by omega)
            refine r_isub C v47 (oDec_at oX5_name 43 rfl) ev47 ?_
            refine r_iconst C (oDec_at oX5_name 44 rfl) (v := k1) (by rw [qk1]; rfl) ?_
            obtain ⟨v48, ev48⟩ : ∃ z : Int32, z = v47 + k1 := ⟨_, rfl⟩
            have hv48 : v48.toInt = v47.toInt + k1.toInt := n_add ev48 (by omega) (by omega)
            refine r_iadd C v48 (oDec_at oX5_name 45 rfl) ev48 ?_
            refine r_goto C (tgt := 86) (oDec_at oX5_name 46 rfl) (by decide) ?_
            have hkn := oqKd_ne iv8 (rb30)
            refine r_callVv C oCl0 hkb30 miX0_spell mlX5_137 (ct8_X0_spell l E (t) b30 hkb30 x1 v48 (d) (V) (L) (by omega) iv8) (by decide) rfl rfl rfl (Nat.le_of_ble_eq_true rfl) (oDec_at oX5_name 48 rfl) (fun u49 pu49 fu49 => ?_)
            try dsimp only at pu49
            obtain ⟨pu49_0, pu49_1⟩ := pu49
            refine r_pc C 89 rfl ?_
            obtain ⟨v51, ev51⟩ : ∃ z : Int32, x1 + Int32.ofInt 1 = z := ⟨_, rfl⟩
            have hv51 : v51.toInt = x1.toInt + 1 := n_inc ev51 (by decide) (by omega) (by omega)
            refine r_iinc C (j := 1) (lv' := [(0, .ref (oad E 30)), (1, .int v51)]) v51 [1, 0] (oDec_at oX5_name 49 rfl) rfl ev51 (by decide) rfl ?_
            refine r_goto C (tgt := 40) (oDec_at oX5_name 50 rfl) (by decide) ?_
            have lk52 : ((u49).1 30 2).toInt = v31.toInt := congrArg Int32.toInt (((fu49 30 2 rfl).1).trans (ev31))
            have lk53 : ((u49).1 30 4).toInt = v34.toInt := congrArg Int32.toInt (((fu49 30 4 rfl).1).trans (ev34))
            have lk54 : ((u49).1 30 8).toInt = (t.1 30 8).toInt := congrArg Int32.toInt ((fu49 30 8 rfl).1)
            have lk55 : ((u49).1 30 9).toInt = (t.1 30 9).toInt := congrArg Int32.toInt ((fu49 30 9 rfl).1)
            exact (ih (n - 1) (by omega)) (u49) v51  (oqX_fr fu49 rfl iv0) (by omega) (by omega) (by omega) (by omega) (by first | exact oqNq_nx (k := x1.toNatClampNeg) iv5 (((fu49 30 1 rfl).2.2).trans (rb30)) fu49 rfl (pu49_0 (by omega)) (by omega) (by omega) (by omega) (by omega) (by first | (rw [oqN6_in (by omega)]; omega) | (rw [oqN6_out (by omega)]; omega)) (by omega) | exact oqNq_0 (by assumption) (by omega)) (by omega) (by omega) pu49_1 (by omega)
  refine r_aload_n C (j := 0) (oDec_at oX5_name 0 rfl) rfl rfl ?_
  refine r_callVi C oCl5 rfl miX5_peek mlX5_43 (ct4_X5_peek l E (s)  (g) (a) (by omega) hp2) (by decide) rfl rfl rfl (Nat.le_of_ble_eq_true rfl) (oDec_at oX5_name 1 rfl) (fun r57 u56 pu56 fu56 => ?_)
  try dsimp only at pu56
  obtain ⟨pu56_0, pu56_1, pu56_2, pu56_3, pu56_4, pu56_5⟩ := pu56
  have rr57 := n_rng r57
  have hss := oqSk_sk (g := g) (a := a) ⟨by omega, by omega⟩
  have hg2 : g (oqSk g (oqSk g a)) = g (oqSk g a) := by rw [hss]
  refine r_callSi C miX5_isLetter mlX5_127 (ct_X5_isLetter l E (u56) r57 ) (by decide) rfl rfl rfl (Nat.le_of_ble_eq_true rfl) (oDec_at oX5_name 2 rfl) (fun r59 u58 pu58 fu58 => ?_)
  try dsimp only at pu58
  obtain ⟨pu58_0, pu58_1⟩ := pu58
  have hxu58 := oFr_nil fu58; subst hxu58
  have rr59 := n_rng r59
  refine r_if_ne C 20 (oDec_at oX5_name 3 rfl) (by decide) (fun cd60 => ?_) (fun cd60 => ?_)
  · skip
    have hna : oqSk g a ≠ a := fun h9 => by have h8 := congrArg g h9; omega
    refine r_aload_n C (j := 0) (oDec_at oX5_name 10 rfl) rfl rfl ?_
    have lk61 : ((u56).1 30 3).toInt = (s.1 30 3).toInt := congrArg Int32.toInt ((fu56 30 3 rfl).1)
    refine r_callVi C oCl5 rfl miX5_wordAhead mlX5_91 (ct5_X5_wordAhead l E (u56)  (g) (oqSk g a) (a) (by omega) (by omega) (oqX_fr fu56 rfl hp2)) (by decide) rfl rfl rfl (Nat.le_of_ble_eq_true rfl) (oDec_at oX5_name 11 rfl) (fun r63 u62 pu62 fu62 => ?_)
    try dsimp only at pu62
    try simp only [lk61] at pu62
    obtain ⟨pu62_0, pu62_1, pu62_2, pu62_3, pu62_4, pu62_5, pu62_6⟩ := pu62
    have rr63 := n_rng r63
    have hj := oqWi_eq pu62_2 ⟨by omega, by omega⟩
    have hjs := oqWi_sk (b := a) hss
    have hwe := pu62_6 (by omega) (by omega)
    rw [hss] at hwe
    clear pu62_2 pu62_3 pu62_6
    refine r_iconst C (oDec_at oX5_name 12 rfl) (v := km1) (by rw [qkm1]; rfl) ?_
    refine r_icmp_eq C 38 (oDec_at oX5_name 13 rfl) (by decide) (fun cd64 => ?_) (fun cd64 => ?_)
    · skip
      refine r_ty C (fun hty => ?_)
      have hta : (0 : Int) ≤ ((u62).1 30 2).toInt ∧ ((u62).1 30 2).toInt ≤ 1600 := hty.1 30 2
      clear hty
      refine r_iconst C (oDec_at oX5_name 20 rfl) (v := k0) (by rw [qk0]; rfl) ?_
      refine r_istore_n C (lv' := [(0, .ref (oad E 30)), (1, .int k0)]) [1, 0] (oDec_at oX5_name 21 rfl) rfl (by decide) rfl ?_
      have lk65 : ((u62).1 30 8).toInt = (s.1 30 8).toInt := congrArg Int32.toInt (((fu62 30 8 rfl).1).trans ((fu56 30 8 rfl).1))
      have lk66 : ((u62).1 30 9).toInt = (s.1 30 9).toInt := congrArg Int32.toInt (((fu62 30 9 rfl).1).trans ((fu56 30 9 rfl).1))
      exact (key (7 - k0.toInt).toNat) (u62) k0  (oqX_fr fu62 rfl (oqX_fr fu56 rfl hp2)) (by omega) (by omega) (by omega) (by omega) (by first | exact oqNq_0 (oqNl_fr fu62 rfl (oqNl_fr fu56 rfl hp3)) (by omega)) (by omega) (by omega) (oqKd_fr fu62 rfl (oqKd_fr fu56 rfl hp6)) (by omega)
    · skip
      have hM := oqM_1 (g := g) (h := a) (M := M) (N := N) (Or.inr (by omega))
      refine r_aload_n C (j := 0) (oDec_at oX5_name 14 rfl) rfl rfl ?_
      refine r_iconst C (oDec_at oX5_name 15 rfl) (v := k1) (by rw [qk1]; rfl) ?_
      refine r_aload_n C (j := 0) (oDec_at oX5_name 16 rfl) rfl rfl ?_
      obtain ⟨v67, ev67⟩ : ∃ z : Int32, (u62).1 30 2 = z := ⟨_, rfl⟩
      have gv67 : (u62.1 30 2).toInt = v67.toInt := congrArg Int32.toInt (ev67)
      refine r_geti (k := 2) (lo := 0) (hi := 1600) C v67 oCl5 rfl (by decide) flX5_23 rfl rfl (ev67) rfl rfl (oDec_at oX5_name 17 rfl) (fun b68 b68h => ?_)
      refine r_callVi C oCl5 rfl miX5_fail mlX5_62 (ct4_X5_fail l E (u62) k1 v67 ) (by decide) rfl rfl rfl (Nat.le_of_ble_eq_true rfl) (oDec_at oX5_name 18 rfl) (fun r70 u69 pu69 fu69 => ?_)
      try dsimp only at pu69
      obtain ⟨pu69_0, pu69_1, pu69_2, pu69_3⟩ := pu69
      have rr70 := n_rng r70
      have lk71 : ((u69).1 30 2).toInt = v67.toInt := congrArg Int32.toInt (((fu69 30 2 rfl).1).trans (ev67))
      have lk72 : ((u69).1 30 3).toInt = (s.1 30 3).toInt := congrArg Int32.toInt (((fu69 30 3 rfl).1).trans (((fu62 30 3 rfl).1).trans ((fu56 30 3 rfl).1)))
      exact r_zret C (n_bool (by omega)) (oDec_at oX5_name 19 rfl) ⟨_, rfl, ⟨by omega, by omega, by omega, fun h => by exfalso; omega, (oqKd_fr fu69 rfl (oqKd_fr fu62 rfl (oqKd_fr fu56 rfl hp6)))⟩⟩
  · skip
    have hM := oqM_1 (g := g) (h := a) (M := M) (N := N) (Or.inl (by omega))
    refine r_aload_n C (j := 0) (oDec_at oX5_name 4 rfl) rfl rfl ?_
    refine r_iconst C (oDec_at oX5_name 5 rfl) (v := k1) (by rw [qk1]; rfl) ?_
    refine r_aload_n C (j := 0) (oDec_at oX5_name 6 rfl) rfl rfl ?_
    obtain ⟨v73, ev73⟩ : ∃ z : Int32, (u56).1 30 2 = z := ⟨_, rfl⟩
    have gv73 : (u56.1 30 2).toInt = v73.toInt := congrArg Int32.toInt (ev73)
    refine r_geti (k := 2) (lo := 0) (hi := 1600) C v73 oCl5 rfl (by decide) flX5_23 rfl rfl (ev73) rfl rfl (oDec_at oX5_name 7 rfl) (fun b74 b74h => ?_)
    refine r_callVi C oCl5 rfl miX5_fail mlX5_62 (ct4_X5_fail l E (u56) k1 v73 ) (by decide) rfl rfl rfl (Nat.le_of_ble_eq_true rfl) (oDec_at oX5_name 8 rfl) (fun r76 u75 pu75 fu75 => ?_)
    try dsimp only at pu75
    obtain ⟨pu75_0, pu75_1, pu75_2, pu75_3⟩ := pu75
    have rr76 := n_rng r76
    have lk77 : ((u75).1 30 2).toInt = v73.toInt := congrArg Int32.toInt (((fu75 30 2 rfl).1).trans (ev73))
    have lk78 : ((u75).1 30 3).toInt = (s.1 30 3).toInt := congrArg Int32.toInt (((fu75 30 3 rfl).1).trans ((fu56 30 3 rfl).1))
    exact r_zret C (n_bool (by omega)) (oDec_at oX5_name 9 rfl) ⟨_, rfl, ⟨by omega, by omega, by omega, fun h => by exfalso; omega, (oqKd_fr fu75 rfl (oqKd_fr fu56 rfl hp6))⟩⟩
set_option maxHeartbeats 4000000 in
set_option maxRecDepth 100000 in
theorem ct8_X5_bookStatement (l : Launch) (E : oE) (s : oS)  (g : Int → Int) (a : Int) (b : Int) (N : Nat → Nat → Int) (R : Int) (M : Int) (d : Nat) (V : Int) (L : Nat → Int32) (hp0 : (s.1 30 2).toInt = a) (hp1 : (s.1 30 3).toInt = b) (hp2 : oqX g s) (hp3 : oqNl N R M M s) (hp4 : (s.1 30 5).toInt = 0) (hp5 : 0 ≤ R ∧ R ≤ 12 ∧ 0 ≤ M ∧ M ≤ 6) (hp6 : oqKd d V L s) : oMet l 75 yX5_bookStatement cX5_bookStatement 3 (some .boolean) [(0, 1), (0, 6), (0, 7), (0, 8), (5, 2), (5, 3), (5, 4), (5, 5), (5, 6), (5, 7), (5, 8), (5, 9), (20, 9999), (21, 9999), (22, 9999), (23, 9999)] E s [.ref (oad E 30)] (oPi (fun r u => (0 ≤ r.toInt ∧ r.toInt ≤ 1) ∧ (r.toInt = 1 → (oqBk g a b R M N = 0 ∧ (u.1 30 2).toInt = oqBa g a b ∧ (u.1 30 3).toInt = oqBb g a b ∧ (u.1 30 5).toInt = 0 ∧ (u.1 30 8).toInt = (s.1 30 8).toInt ∧ (u.1 30 9).toInt = (s.1 30 9).toInt)) ∧ (r.toInt = 0 → (oqBk g a b R M N ≠ 0 ∧ (u.1 30 8).toInt = oqBk g a b R M N ∧ (u.1 30 9).toInt = oqBp g a b R M N)) ∧ (r.toInt = 1 → oqNl (oqBN g a b N M) (oqBR g a b R) (oqBM g a b M) (oqBM g a b M) u) ∧ (oqKd d V L u))) := by
  refine oMet.of (lv := [(0, .ref (oad E 30))]) (by decide +kernel) (Nat.le_of_ble_eq_true rfl) rfl (fun J C hT => ?_)
  have C : oC l 75 cX5_bookStatement RX5 3 (some .boolean) [(0, 1), (0, 6), (0, 7), (0, 8), (5, 2), (5, 3), (5, 4), (5, 5), (5, 6), (5, 7), (5, 8), (5, 9), (20, 9999), (21, 9999), (22, 9999), (23, 9999)] E s (oPi (fun r u => (0 ≤ r.toInt ∧ r.toInt ≤ 1) ∧ (r.toInt = 1 → (oqBk g a b R M N = 0 ∧ (u.1 30 2).toInt = oqBa g a b ∧ (u.1 30 3).toInt = oqBb g a b ∧ (u.1 30 5).toInt = 0 ∧ (u.1 30 8).toInt = (s.1 30 8).toInt ∧ (u.1 30 9).toInt = (s.1 30 9).toInt)) ∧ (r.toInt = 0 → (oqBk g a b R M N ≠ 0 ∧ (u.1 30 8).toInt = oqBk g a b R M N ∧ (u.1 30 9).toInt = oqBp g a b R M N)) ∧ (r.toInt = 1 → oqNl (oqBN g a b N M) (oqBR g a b R) (oqBM g a b M) (oqBM g a b M) u) ∧ (oqKd d V L u))) J := C
  obtain ⟨k0, qk0⟩ : ∃ z : Int32, z = 0 := ⟨_, rfl⟩
  have ek0 : k0.toInt = 0 := by rw [qk0]; rfl
  obtain ⟨k1, qk1⟩ : ∃ z : Int32, z = 1 := ⟨_, rfl⟩
  have ek1 : k1.toInt = 1 := by rw [qk1]; rfl
  obtain ⟨k3, qk3⟩ : ∃ z : Int32, z = 3 := ⟨_, rfl⟩
  have ek3 : k3.toInt = 3 := by rw [qk3]; rfl
  obtain ⟨k4, qk4⟩ : ∃ z : Int32, z = 4 := ⟨_, rfl⟩
  have ek4 : k4.toInt = 4 := by rw [qk4]; rfl
  obtain ⟨k5, qk5⟩ : ∃ z : Int32, z = 5 := ⟨_, rfl⟩
  have ek5 : k5.toInt = 5 := by rw [qk5]; rfl
  obtain ⟨k6, qk6⟩ : ∃ z : Int32, z = 6 := ⟨_, rfl⟩
  have ek6 : k6.toInt = 6 := by rw [qk6]; rfl
  obtain ⟨k11, qk11⟩ : ∃ z : Int32, z = 11 := ⟨_, rfl⟩
  have ek11 : k11.toInt = 11 := by rw [qk11]; rfl
  obtain ⟨k12, qk12⟩ : ∃ z : Int32, z = 12 := ⟨_, rfl⟩
  have ek12 : k12.toInt = 12 := by rw [qk12]; rfl
  obtain ⟨k19, qk19⟩ : ∃ z : Int32, z = 19 := ⟨_, rfl⟩
  have ek19 : k19.toInt = 19 := by rw [qk19]; rfl
  obtain ⟨k24, qk24⟩ : ∃ z : Int32, z = 24 := ⟨_, rfl⟩
  have ek24 : k24.toInt = 24 := by rw [qk24]; rfl
  obtain ⟨k59, qk59⟩ : ∃ z : Int32, z = 59 := ⟨_, rfl⟩
  have ek59 : k59.toInt = 59 := by rw [qk59]; rfl
  have ht5 : (0 : Int) ≤ (s.1 30 5).toInt ∧ (s.1 30 5).toInt ≤ 6 := hT.1 30 5
  refine r_aload_n C (j := 0) (oDec_at oX5_bookStatement 0 rfl) rfl rfl ?_
  refine r_callVi C oCl5 rfl miX5_wordAhead mlX5_91 (ct5_X5_wordAhead l E (s)  (g) (a) (b) (by omega) (by omega) hp2) (by decide) rfl rfl rfl (Nat.le_of_ble_eq_true rfl) (oDec_at oX5_bookStatement 1 rfl) (fun r2 u1 pu1 fu1 => ?_)
  try dsimp only at pu1
  obtain ⟨pu1_0, pu1_1, pu1_2, pu1_3, pu1_4, pu1_5, pu1_6⟩ := pu1
  have rr2 := n_rng r2
  have hj := oqWi_eq pu1_2 ⟨by omega, by omega⟩
  have hW2 := pu1_3
  clear pu1_2 pu1_3 pu1_6
  refine r_istore_n C (lv' := [(0, .ref (oad E 30)), (1, .int r2)]) [1, 0] (oDec_at oX5_bookStatement 2 rfl) rfl (by decide) rfl ?_
  refine r_iload_n C (j := 1) (oDec_at oX5_bookStatement 3 rfl) rfl rfl ?_
  refine r_iconst C (oDec_at oX5_bookStatement 4 rfl) (v := k3) (by rw [qk3]; rfl) ?_
  refine r_icmp_eq C 30 (oDec_at oX5_bookStatement 5 rfl) (by decide) (fun cd3 => ?_) (fun cd3 => ?_)
  · skip
    refine r_iload_n C (j := 1) (oDec_at oX5_bookStatement 18 rfl) rfl rfl ?_
    refine r_iconst C (oDec_at oX5_bookStatement 19 rfl) (v := k4) (by rw [qk4]; rfl) ?_
    refine r_icmp_ne C 47 (oDec_at oX5_bookStatement 20 rfl) (by decide) (fun cd4 => ?_) (fun cd4 => ?_)
    · skip
      refine r_iload_n C (j := 1) (oDec_at oX5_bookStatement 26 rfl) rfl rfl ?_
      refine r_iconst C (oDec_at oX5_bookStatement 27 rfl) (v := k5) (by rw [qk5]; rfl) ?_
      refine r_icmp_ne C 74 (oDec_at oX5_bookStatement 28 rfl) (by decide) (fun cd5 => ?_) (fun cd5 => ?_)
      · skip
        refine r_aload_n C (j := 0) (oDec_at oX5_bookStatement 40 rfl) rfl rfl ?_
        refine r_callVv C oCl5 rfl miX5_passWord mlX5_100 (ct4_X5_passWord l E (u1)  ) (by decide) rfl rfl rfl (Nat.le_of_ble_eq_true rfl) (oDec_at oX5_bookStatement 41 rfl) (fun u6 pu6 fu6 => ?_)
        try dsimp only at pu6
        obtain ⟨pu6_0, pu6_1⟩ := pu6
        have hW3 := hW2 (by omega)
        have hBh := oqBh_w (g := g) (a := a) (b := b) (i := r2.toInt.toNat) (by omega)
        clear hW2
        refine r_iload_n C (j := 1) (oDec_at oX5_bookStatement 42 rfl) rfl rfl ?_
        refine r_iconst C (oDec_at oX5_bookStatement 43 rfl) (v := k3) (by rw [qk3]; rfl) ?_
        refine r_icmp_ne C 105 (oDec_at oX5_bookStatement 44 rfl) (by decide) (fun cd8 => ?_) (fun cd8 => ?_)
        · omega
        · skip
          refine r_aload_n C (j := 0) (oDec_at oX5_bookStatement 45 rfl) rfl rfl ?_
          have lk9 : ((u6).1 30 8).toInt = (s.1 30 8).toInt := congrArg Int32.toInt (((fu6 30 8 rfl).1).trans ((fu1 30 8 rfl).1))
          have lk10 : ((u6).1 30 9).toInt = (s.1 30 9).toInt := congrArg Int32.toInt (((fu6 30 9 rfl).1).trans ((fu1 30 9 rfl).1))
          refine r_callVi C oCl5 rfl miX5_measure mlX5_103 (ct4_X5_measure l E (u6)  (g) (oqBh g a b) (oqBh g a b) (by omega) (by omega) (oqX_fr fu6 rfl (oqX_fr fu1 rfl hp2))) (by decide) rfl rfl rfl (Nat.le_of_ble_eq_true rfl) (oDec_at oX5_bookStatement 46 rfl) (fun r12 u11 pu11 fu11 => ?_)
          try dsimp only at pu11
          try simp only [lk9, lk10] at pu11
          obtain ⟨pu11_0, pu11_1, pu11_2⟩ := pu11
          have rr12 := n_rng r12
          refine r_if_eq C 103 (oDec_at oX5_bookStatement 47 rfl) (by decide) (fun cd13 => ?_) (fun cd13 => ?_)
          · skip
            clear pu11_1
            replace pu11_2 := pu11_2 (by omega)
            refine r_iconst C (oDec_at oX5_bookStatement 54 rfl) (v := k0) (by rw [qk0]; rfl) ?_
            have lk14 : ((u11).1 30 5).toInt = (s.1 30 5).toInt := congrArg Int32.toInt (((fu11 30 5 rfl).1).trans (((fu6 30 5 rfl).1).trans ((fu1 30 5 rfl).1)))
            exact r_zret C (n_bool (by omega)) (oDec_at oX5_bookStatement 55 rfl) ⟨_, rfl, ⟨by omega, by first | (intro h; exfalso; omega) | (have hB := oqB_m0 (g := g) (a := a) (b := b) (R := R) (M := M) (N := N) (by omega) (by omega) (by omega); omega), by first | (intro h; exfalso; omega) | (have hB := oqB_m1 (g := g) (a := a) (b := b) (R := R) (M := M) (N := N) (by omega) (by omega); omega) | (have hB := oqB_m2 (g := g) (a := a) (b := b) (R := R) (M := M) (N := N) (by omega) (by omega) (by omega); omega), by first | (intro h; exfalso; omega) | (intro h; have hb := oqBs_3 (g := g) (a := a) (b := b) (R := R) (M := M) (N := N) (by omega); rw [hb.1, hb.2.1, hb.2.2]; exact (oqNl_fr fu11 rfl (oqNl_fr fu6 rfl (oqNl_fr fu1 rfl hp3)))), (oqKd_fr fu11 rfl (oqKd_fr fu6 rfl (oqKd_fr fu1 rfl hp6)))⟩⟩
          · skip
            replace pu11_1 := pu11_1 (by omega)
            clear pu11_2
            refine r_aload_n C (j := 0) (oDec_at oX5_bookStatement 48 rfl) rfl rfl ?_
            refine r_bipush C (oDec_at oX5_bookStatement 49 rfl) (v := k59) (by rw [qk59]; rfl) ?_
            refine r_callVi C oCl5 rfl miX5_expectSign mlX5_88 (ct4_X5_expectSign l E (u11) k59 (g) (oqNa g (oqBh g a b)) (59) (by omega) (oqX_fr fu11 rfl (oqX_fr fu6 rfl (oqX_fr fu1 rfl hp2))) (by omega) (by omega)) (by decide) rfl rfl rfl (Nat.le_of_ble_eq_true rfl) (oDec_at oX5_bookStatement 50 rfl) (fun r16 u15 pu15 fu15 => ?_)
            try dsimp only at pu15
            obtain ⟨pu15_0, pu15_1, pu15_2⟩ := pu15
            have rr16 := n_rng r16
            refine r_if_eq C 103 (oDec_at oX5_bookStatement 51 rfl) (by decide) (fun cd17 => ?_) (fun cd17 => ?_)
            · skip
              clear pu15_1
              replace pu15_2 := pu15_2 (by omega)
              refine r_iconst C (oDec_at oX5_bookStatement 54 rfl) (v := k0) (by rw [qk0]; rfl) ?_
              have lk18 : ((u15).1 30 3).toInt = (u11.1 30 3).toInt := congrArg Int32.toInt ((fu15 30 3 rfl).1)
              have lk19 : ((u15).1 30 5).toInt = (s.1 30 5).toInt := congrArg Int32.toInt (((fu15 30 5 rfl).1).trans (((fu11 30 5 rfl).1).trans (((fu6 30 5 rfl).1).trans ((fu1 30 5 rfl).1))))
              exact r_zret C (n_bool (by omega)) (oDec_at oX5_bookStatement 55 rfl) ⟨_, rfl, ⟨by omega, by first | (intro h; exfalso; omega) | (have hB := oqB_m0 (g := g) (a := a) (b := b) (R := R) (M := M) (N := N) (by omega) (by omega) (by omega); omega), by first | (intro h; exfalso; omega) | (have hB := oqB_m1 (g := g) (a := a) (b := b) (R := R) (M := M) (N := N) (by omega) (by omega); omega) | (have hB := oqB_m2 (g := g) (a := a) (b := b) (R := R) (M := M) (N := N) (by omega) (by omega) (by omega); omega), by first | (intro h; exfalso; omega) | (intro h; have hb := oqBs_3 (g := g) (a := a) (b := b) (R := R) (M := M) (N := N) (by omega); rw [hb.1, hb.2.1, hb.2.2]; exact (oqNl_fr fu15 rfl (oqNl_fr fu11 rfl (oqNl_fr fu6 rfl (oqNl_fr fu1 rfl hp3))))), (oqKd_fr fu15 rfl (oqKd_fr fu11 rfl (oqKd_fr fu6 rfl (oqKd_fr fu1 rfl hp6))))⟩⟩
            · skip
              replace pu15_1 := pu15_1 (by omega)
              clear pu15_2
              refine r_iconst C (oDec_at oX5_bookStatement 52 rfl) (v := k1) (by rw [qk1]; rfl) ?_
              refine r_goto C (tgt := 104) (oDec_at oX5_bookStatement 53 rfl) (by decide) ?_
              have lk20 : ((u15).1 30 3).toInt = (u11.1 30 3).toInt := congrArg Int32.toInt ((fu15 30 3 rfl).1)
              have lk21 : ((u15).1 30 5).toInt = (s.1 30 5).toInt := congrArg Int32.toInt (((fu15 30 5 rfl).1).trans (((fu11 30 5 rfl).1).trans (((fu6 30 5 rfl).1).trans ((fu1 30 5 rfl).1))))
              exact r_zret C (n_bool (by omega)) (oDec_at oX5_bookStatement 55 rfl) ⟨_, rfl, ⟨by omega, by first | (intro h; exfalso; omega) | (have hB := oqB_m0 (g := g) (a := a) (b := b) (R := R) (M := M) (N := N) (by omega) (by omega) (by omega); omega), by first | (intro h; exfalso; omega) | (have hB := oqB_m1 (g := g) (a := a) (b := b) (R := R) (M := M) (N := N) (by omega) (by omega); omega) | (have hB := oqB_m2 (g := g) (a := a) (b := b) (R := R) (M := M) (N := N) (by omega) (by omega) (by omega); omega), by first | (intro h; exfalso; omega) | (intro h; have hb := oqBs_3 (g := g) (a := a) (b := b) (R := R) (M := M) (N := N) (by omega); rw [hb.1, hb.2.1, hb.2.2]; exact (oqNl_fr fu15 rfl (oqNl_fr fu11 rfl (oqNl_fr fu6 rfl (oqNl_fr fu1 rfl hp3))))), (oqKd_fr fu15 rfl (oqKd_fr fu11 rfl (oqKd_fr fu6 rfl (oqKd_fr fu1 rfl hp6))))⟩⟩
      · omega
    · omega
  · skip
    refine r_iload_n C (j := 1) (oDec_at oX5_bookStatement 6 rfl) rfl rfl ?_
    refine r_iconst C (oDec_at oX5_bookStatement 7 rfl) (v := k4) (by rw [qk4]; rfl) ?_
    refine r_icmp_eq C 30 (oDec_at oX5_bookStatement 8 rfl) (by decide) (fun cd22 => ?_) (fun cd22 => ?_)
    · skip
      refine r_iload_n C (j := 1) (oDec_at oX5_bookStatement 18 rfl) rfl rfl ?_
      refine r_iconst C (oDec_at oX5_bookStatement 19 rfl) (v := k4) (by rw [qk4]; rfl) ?_
      refine r_icmp_ne C 47 (oDec_at oX5_bookStatement 20 rfl) (by decide) (fun cd23 => ?_) (fun cd23 => ?_)
      · omega
      · skip
        refine r_aload_n C (j := 0) (oDec_at oX5_bookStatement 21 rfl) rfl rfl ?_
        refine r_getS (k := 1) (q2 := 0) C oCl5 rfl (by decide) flX5_19 rfl rfl rfl ks1 (oDec_at oX5_bookStatement 22 rfl) (fun b24 rb24 mb24 hkb24 => ?_)
        have hnl := oqNl_at (oqNl_fr fu1 rfl hp3) (rb24)
        obtain ⟨hnl7, hnl8, hnl9⟩ := hnl
        clear hnl9
        have hnls := oqNl_at hp3 (((fu1 30 1 rfl).2.2).symm.trans (rb24))
        obtain ⟨hnls7, hnls8, hnls9⟩ := hnls
        clear hnls9
        obtain ⟨v25, ev25⟩ : ∃ z : Int32, (u1).1 b24 7 = z := ⟨_, rfl⟩
        have gv25 : (s.1 b24 7).toInt = v25.toInt := congrArg Int32.toInt (((fu1 b24 7 (by rw [hkb24]; rfl)).1).symm.trans ev25)
        have ggv25 : ((u1).1 b24 7).toInt = v25.toInt := congrArg Int32.toInt ev25
        refine r_getiN (k := 7) (lo := 0) (hi := 12) C v25 oCl0 hkb24 (by decide) flX5_94 rfl rfl (ev25) rfl rfl (oDec_at oX5_bookStatement 23 rfl) (fun b26 b26h => ?_)
        refine r_bipush C (oDec_at oX5_bookStatement 24 rfl) (v := k12) (by rw [qk12]; rfl) ?_
        refine r_icmp_ge C 64 (oDec_at oX5_bookStatement 25 rfl) (by decide) (fun cd27 => ?_) (fun cd27 => ?_)
        · skip
          have hB : (oqBk g a b R M N = 5 ∧ oqBp g a b R M N = oqSk g a) := by first | exact oqB_r5 (by omega) (by omega) | exact oqB_o5 (by omega) (by omega)
          refine r_aload_n C (j := 0) (oDec_at oX5_bookStatement 34 rfl) rfl rfl ?_
          refine r_iconst C (oDec_at oX5_bookStatement 35 rfl) (v := k5) (by rw [qk5]; rfl) ?_
          refine r_aload_n C (j := 0) (oDec_at oX5_bookStatement 36 rfl) rfl rfl ?_
          obtain ⟨v28, ev28⟩ : ∃ z : Int32, (u1).1 30 2 = z := ⟨_, rfl⟩
          have gv28 : (u1.1 30 2).toInt = v28.toInt := congrArg Int32.toInt (ev28)
          refine r_geti (k := 2) (lo := 0) (hi := 1600) C v28 oCl5 rfl (by decide) flX5_23 rfl rfl (ev28) rfl rfl (oDec_at oX5_bookStatement 37 rfl) (fun b29 b29h => ?_)
          refine r_callVi C oCl5 rfl miX5_fail mlX5_62 (ct4_X5_fail l E (u1) k5 v28 ) (by decide) rfl rfl rfl (Nat.le_of_ble_eq_true rfl) (oDec_at oX5_bookStatement 38 rfl) (fun r31 u30 pu30 fu30 => ?_)
          try dsimp only at pu30
          obtain ⟨pu30_0, pu30_1, pu30_2, pu30_3⟩ := pu30
          have rr31 := n_rng r31
          have lk32 : ((u30).1 30 2).toInt = v28.toInt := congrArg Int32.toInt (((fu30 30 2 rfl).1).trans (ev28))
          have lk33 : ((u30).1 30 3).toInt = (s.1 30 3).toInt := congrArg Int32.toInt (((fu30 30 3 rfl).1).trans ((fu1 30 3 rfl).1))
          have lk34 : ((u30).1 30 5).toInt = (s.1 30 5).toInt := congrArg Int32.toInt (((fu30 30 5 rfl).1).trans ((fu1 30 5 rfl).1))
          exact r_zret C (n_bool (by omega)) (oDec_at oX5_bookStatement 39 rfl) ⟨_, rfl, ⟨by omega, by omega, by omega, fun h => by exfalso; omega, (oqKd_fr fu30 rfl (oqKd_fr fu1 rfl hp6))⟩⟩
        · skip
          refine r_iload_n C (j := 1) (oDec_at oX5_bookStatement 26 rfl) rfl rfl ?_
          refine r_iconst C (oDec_at oX5_bookStatement 27 rfl) (v := k5) (by rw [qk5]; rfl) ?_
          refine r_icmp_ne C 74 (oDec_at oX5_bookStatement 28 rfl) (by decide) (fun cd35 => ?_) (fun cd35 => ?_)
          · skip
            refine r_aload_n C (j := 0) (oDec_at oX5_bookStatement 40 rfl) rfl rfl ?_
            refine r_callVv C oCl5 rfl miX5_passWord mlX5_100 (ct4_X5_passWord l E (u1)  ) (by decide) rfl rfl rfl (Nat.le_of_ble_eq_true rfl) (oDec_at oX5_bookStatement 41 rfl) (fun u36 pu36 fu36 => ?_)
            try dsimp only at pu36
            obtain ⟨pu36_0, pu36_1⟩ := pu36
            have hW3 := hW2 (by omega)
            have hBh := oqBh_w (g := g) (a := a) (b := b) (i := r2.toInt.toNat) (by omega)
            clear hW2
            refine r_iload_n C (j := 1) (oDec_at oX5_bookStatement 42 rfl) rfl rfl ?_
            refine r_iconst C (oDec_at oX5_bookStatement 43 rfl) (v := k3) (by rw [qk3]; rfl) ?_
            refine r_icmp_ne C 105 (oDec_at oX5_bookStatement 44 rfl) (by decide) (fun cd38 => ?_) (fun cd38 => ?_)
            · skip
              have hBs : (oqWi g a b = 4 ∨ oqWi g a b = 5) := by omega
              refine r_aload_n C (j := 0) (oDec_at oX5_bookStatement 56 rfl) rfl rfl ?_
              refine r_getK (k := 1) (b := b24) C oCl5 rfl (by decide) flX5_19 rfl rfl (((fu36 30 1 rfl).2.2).trans (rb24)) (oDec_at oX5_bookStatement 57 rfl) ?_
              have hnl := oqNl_at (oqNl_fr fu36 rfl (oqNl_fr fu1 rfl hp3)) (((fu36 30 1 rfl).2.2).trans (rb24))
              obtain ⟨hnl7, hnl8, hnl9⟩ := hnl
              clear hnl9
              obtain ⟨v40, ev40⟩ : ∃ z : Int32, (u36).1 b24 1 = z := ⟨_, rfl⟩
              have gv40 : (s.1 b24 1).toInt = v40.toInt := congrArg Int32.toInt ((((fu36 b24 1 (by rw [hkb24]; rfl)).1).trans ((fu1 b24 1 (by rw [hkb24]; rfl)).1)).symm.trans ev40)
              have ggv40 : ((u36).1 b24 1).toInt = v40.toInt := congrArg Int32.toInt ev40
              refine r_getiN (k := 1) (lo := 0) (hi := 1600) C v40 oCl0 hkb24 (by decide) flX5_106 rfl rfl (ev40) rfl rfl (oDec_at oX5_bookStatement 58 rfl) (fun b41 b41h => ?_)
              refine r_istore_n C (lv' := [(0, .ref (oad E 30)), (1, .int r2), (2, .int v40)]) [1, 2, 0] (oDec_at oX5_bookStatement 59 rfl) rfl (by decide) rfl ?_
              refine r_aload_n C (j := 0) (oDec_at oX5_bookStatement 60 rfl) rfl rfl ?_
              refine r_iload_n C (j := 1) (oDec_at oX5_bookStatement 61 rfl) rfl rfl ?_
              refine r_iconst C (oDec_at oX5_bookStatement 62 rfl) (v := k5) (by rw [qk5]; rfl) ?_
              refine r_pc C 116 rfl ?_
              refine r_icmp_ne C 124 (oDec_at oX5_bookStatement 63 rfl) (by decide) (fun cd42 => ?_) (fun cd42 => ?_)
              · skip
                refine r_bipush C (oDec_at oX5_bookStatement 66 rfl) (v := k11) (by rw [qk11]; rfl) ?_
                refine r_puti (k := 6) (lo := (-2147483648)) (hi := 2147483647) C oCl5 rfl (by decide) flX5_109 rfl rfl rfl rfl rfl rfl rfl rfl (n_rng _) (oDec_at oX5_bookStatement 67 rfl) ?_
                refine r_aload_n C (j := 0) (oDec_at oX5_bookStatement 68 rfl) rfl rfl ?_
                refine r_iload_n C (j := 1) (oDec_at oX5_bookStatement 69 rfl) rfl rfl ?_
                refine r_iconst C (oDec_at oX5_bookStatement 70 rfl) (v := k5) (by rw [qk5]; rfl) ?_
                refine r_icmp_ne C 140 (oDec_at oX5_bookStatement 71 rfl) (by decide) (fun cd43 => ?_) (fun cd43 => ?_)
                · skip
                  refine r_bipush C (oDec_at oX5_bookStatement 74 rfl) (v := k19) (by rw [qk19]; rfl) ?_
                  refine r_puti (k := 7) (lo := (-2147483648)) (hi := 2147483647) C oCl5 rfl (by decide) flX5_112 rfl rfl rfl rfl rfl rfl rfl rfl (n_rng _) (oDec_at oX5_bookStatement 75 rfl) ?_
                  refine r_iload_n C (j := 1) (oDec_at oX5_bookStatement 76 rfl) rfl rfl ?_
                  refine r_iconst C (oDec_at oX5_bookStatement 77 rfl) (v := k5) (by rw [qk5]; rfl) ?_
                  refine r_icmp_ne C 157 (oDec_at oX5_bookStatement 78 rfl) (by decide) (fun cd44 => ?_) (fun cd44 => ?_)
                  · skip
                    refine r_aload_n C (j := 0) (oDec_at oX5_bookStatement 82 rfl) rfl rfl ?_
                    refine r_bipush C (oDec_at oX5_bookStatement 83 rfl) (v := k6) (by rw [qk6]; rfl) ?_
                    have lk45 : (((pI (pI u36 30 6 k11) 30 7 k19)).1 30 2).toInt = (u36.1 30 2).toInt := congrArg Int32.toInt (((pI_ne (a := 30) (b := 2) (c := 30) (k := 7) _ _ (Or.inr (by decide)))).trans ((pI_ne (a := 30) (b := 2) (c := 30) (k := 6) _ _ (Or.inr (by decide)))))
                    have lk46 : (((pI (pI u36 30 6 k11) 30 7 k19)).1 30 3).toInt = (u36.1 30 3).toInt := congrArg Int32.toInt (((pI_ne (a := 30) (b := 3) (c := 30) (k := 7) _ _ (Or.inr (by decide)))).trans ((pI_ne (a := 30) (b := 3) (c := 30) (k := 6) _ _ (Or.inr (by decide)))))
                    have lk47 : (((pI (pI u36 30 6 k11) 30 7 k19)).1 30 8).toInt = (s.1 30 8).toInt := congrArg Int32.toInt (((pI_ne (a := 30) (b := 8) (c := 30) (k := 7) _ _ (Or.inr (by decide)))).trans (((pI_ne (a := 30) (b := 8) (c := 30) (k := 6) _ _ (Or.inr (by decide)))).trans (((fu36 30 8 rfl).1).trans ((fu1 30 8 rfl).1))))
                    have lk48 : (((pI (pI u36 30 6 k11) 30 7 k19)).1 30 9).toInt = (s.1 30 9).toInt := congrArg Int32.toInt (((pI_ne (a := 30) (b := 9) (c := 30) (k := 7) _ _ (Or.inr (by decide)))).trans (((pI_ne (a := 30) (b := 9) (c := 30) (k := 6) _ _ (Or.inr (by decide)))).trans (((fu36 30 9 rfl).1).trans ((fu1 30 9 rfl).1))))
                    refine r_callVi C oCl5 rfl miX5_expect mlX5_74 (ct4_X5_expect l E ((pI (pI u36 30 6 k11) 30 7 k19)) k6 (g) (oqBh g a b) (oqBh g a b) (6) (by omega) (by omega) (oqX_fr (oFr_oneI (q := 5) (m := 7) rfl (by rfl)) rfl (oqX_fr (oFr_oneI (q := 5) (m := 6) rfl (by rfl)) rfl (oqX_fr fu36 rfl (oqX_fr fu1 rfl hp2)))) (by omega) (by omega)) (by decide) rfl rfl rfl (Nat.le_of_ble_eq_true rfl) (oDec_at oX5_bookStatement 84 rfl) (fun r50 u49 pu49 fu49 => ?_)
                    try dsimp only at pu49
                    try simp only [lk45, lk46, lk47, lk48] at pu49
                    obtain ⟨pu49_0, pu49_1, pu49_2⟩ := pu49
                    have rr50 := n_rng r50
                    refine r_if_eq C 182 (oDec_at oX5_bookStatement 85 rfl) (by decide) (fun cd51 => ?_) (fun cd51 => ?_)
                    · skip
                      clear pu49_1
                      replace pu49_2 := pu49_2 (by omega)
                      refine r_iconst C (oDec_at oX5_bookStatement 93 rfl) (v := k0) (by rw [qk0]; rfl) ?_
                      have lk52 : ((u49).1 30 5).toInt = (s.1 30 5).toInt := congrArg Int32.toInt (((fu49 30 5 rfl).1).trans (((pI_ne (a := 30) (b := 5) (c := 30) (k := 7) _ _ (Or.inr (by decide)))).trans (((pI_ne (a := 30) (b := 5) (c := 30) (k := 6) _ _ (Or.inr (by decide)))).trans (((fu36 30 5 rfl).1).trans ((fu1 30 5 rfl).1)))))
                      exact r_zret C (n_bool (by omega)) (oDec_at oX5_bookStatement 94 rfl) ⟨_, rfl, ⟨by omega, by omega, by first | (have hB := oqB_on (g := g) (a := a) (b := b) (R := R) (M := M) (N := N) (by omega) (by omega) (by omega); omega) | (have hV := oqV_1 (g := g) (p := 19) (q := 24) (w := oqBn g a b) (by omega); have hB := oqB_o (g := g) (a := a) (b := b) (R := R) (M := M) (N := N) (by omega) (by omega) (by omega); omega) | (have hV := oqV_1 (g := g) (p := 11) (q := 19) (w := oqBh g a b) (by omega); have hB := oqB_r (g := g) (a := a) (b := b) (R := R) (M := M) (N := N) (by omega) (by omega); omega) | (have hV := oqV_2 (g := g) (p := 19) (q := 24) (w := oqBn g a b) (by omega) pu49_4; have hk0 := oqFn_k pu49_4; have hB := oqB_o (g := g) (a := a) (b := b) (R := R) (M := M) (N := N) (by omega) (by omega) (by omega); omega) | (have hV := oqV_2 (g := g) (p := 11) (q := 19) (w := oqBh g a b) (by omega) pu49_4; have hk0 := oqFn_k pu49_4; have hB := oqB_r (g := g) (a := a) (b := b) (R := R) (M := M) (N := N) (by omega) (by omega); omega) | (have hV := oqV_3 (g := g) (p := 19) (q := 24) (w := oqBn g a b) (by omega) (by assumption) (by assumption) (by omega); have hB := oqB_o (g := g) (a := a) (b := b) (R := R) (M := M) (N := N) (by omega) (by omega) (by omega); omega) | (have hV := oqV_3 (g := g) (p := 11) (q := 19) (w := oqBh g a b) (by omega) (by assumption) (by assumption) (by omega); have hB := oqB_r (g := g) (a := a) (b := b) (R := R) (M := M) (N := N) (by omega) (by omega); omega), fun h => by exfalso; omega, (oqKd_fr fu49 rfl (oqKd_fr (oFr_oneI (q := 5) (m := 7) rfl (by rfl)) rfl (oqKd_fr (oFr_oneI (q := 5) (m := 6) rfl (by rfl)) rfl (oqKd_fr fu36 rfl (oqKd_fr fu1 rfl hp6)))))⟩⟩
                    · skip
                      replace pu49_1 := pu49_1 (by omega)
                      clear pu49_2
                      refine r_aload_n C (j := 0) (oDec_at oX5_bookStatement 86 rfl) rfl rfl ?_
                      have lk53 : ((u49).1 30 5).toInt = (s.1 30 5).toInt := congrArg Int32.toInt (((fu49 30 5 rfl).1).trans (((pI_ne (a := 30) (b := 5) (c := 30) (k := 7) _ _ (Or.inr (by decide)))).trans (((pI_ne (a := 30) (b := 5) (c := 30) (k := 6) _ _ (Or.inr (by decide)))).trans (((fu36 30 5 rfl).1).trans ((fu1 30 5 rfl).1)))))
                      have lk54 : ((u49).1 30 6).toInt = k11.toInt := congrArg Int32.toInt (((fu49 30 6 rfl).1).trans (((pI_ne (a := 30) (b := 6) (c := 30) (k := 7) _ _ (Or.inr (by decide)))).trans ((pI_self _ _ _ _))))
                      have lk55 : ((u49).1 30 7).toInt = k19.toInt := congrArg Int32.toInt (((fu49 30 7 rfl).1).trans ((pI_self _ _ _ _)))
                      have lk56 : ((u49).1 30 5).toInt = (s.1 30 5).toInt := congrArg Int32.toInt (((fu49 30 5 rfl).1).trans (((pI_ne (a := 30) (b := 5) (c := 30) (k := 7) _ _ (Or.inr (by decide)))).trans (((pI_ne (a := 30) (b := 5) (c := 30) (k := 6) _ _ (Or.inr (by decide)))).trans (((fu36 30 5 rfl).1).trans ((fu1 30 5 rfl).1)))))
                      refine r_callVi C oCl5 rfl miX5_test mlX5_118 (ct4_X5_test l E (u49)  (g) (11) (19) (oqHa g (oqBh g a b) 6) (oqHa g (oqBh g a b) 6) (0) (by omega) (by omega) (oqX_fr fu49 rfl (oqX_fr (oFr_oneI (q := 5) (m := 7) rfl (by rfl)) rfl (oqX_fr (oFr_oneI (q := 5) (m := 6) rfl (by rfl)) rfl (oqX_fr fu36 rfl (oqX_fr fu1 rfl hp2))))) (by omega) (by omega) (by omega) (by omega)) (by decide) rfl rfl rfl (Nat.le_of_ble_eq_true rfl) (oDec_at oX5_bookStatement 87 rfl) (fun r58 u57 pu57 fu57 => ?_)
                      try dsimp only at pu57
                      try simp only [lk53, lk54, lk55, lk56] at pu57
                      obtain ⟨pu57_0, pu57_1, pu57_2, pu57_3, pu57_4⟩ := pu57
                      have rr58 := n_rng r58
                      refine r_if_eq C 182 (oDec_at oX5_bookStatement 88 rfl) (by decide) (fun cd59 => ?_) (fun cd59 => ?_)
                      · skip
                        clear pu57_1
                        clear pu57_2
                        clear pu57_3
                        replace pu57_4 := pu57_4 (by omega)
                        refine r_iconst C (oDec_at oX5_bookStatement 93 rfl) (v := k0) (by rw [qk0]; rfl) ?_
                        exact r_zret C (n_bool (by omega)) (oDec_at oX5_bookStatement 94 rfl) ⟨_, rfl, ⟨by omega, by omega, by first | (have hB := oqB_on (g := g) (a := a) (b := b) (R := R) (M := M) (N := N) (by omega) (by omega) (by omega); omega) | (have hV := oqV_1 (g := g) (p := 19) (q := 24) (w := oqBn g a b) (by omega); have hB := oqB_o (g := g) (a := a) (b := b) (R := R) (M := M) (N := N) (by omega) (by omega) (by omega); omega) | (have hV := oqV_1 (g := g) (p := 11) (q := 19) (w := oqBh g a b) (by omega); have hB := oqB_r (g := g) (a := a) (b := b) (R := R) (M := M) (N := N) (by omega) (by omega); omega) | (have hV := oqV_2 (g := g) (p := 19) (q := 24) (w := oqBn g a b) (by omega) pu57_4; have hk0 := oqFn_k pu57_4; have hB := oqB_o (g := g) (a := a) (b := b) (R := R) (M := M) (N := N) (by omega) (by omega) (by omega); omega) | (have hV := oqV_2 (g := g) (p := 11) (q := 19) (w := oqBh g a b) (by omega) pu57_4; have hk0 := oqFn_k pu57_4; have hB := oqB_r (g := g) (a := a) (b := b) (R := R) (M := M) (N := N) (by omega) (by omega); omega) | (have hV := oqV_3 (g := g) (p := 19) (q := 24) (w := oqBn g a b) (by omega) (by assumption) (by assumption) (by omega); have hB := oqB_o (g := g) (a := a) (b := b) (R := R) (M := M) (N := N) (by omega) (by omega) (by omega); omega) | (have hV := oqV_3 (g := g) (p := 11) (q := 19) (w := oqBh g a b) (by omega) (by assumption) (by assumption) (by omega); have hB := oqB_r (g := g) (a := a) (b := b) (R := R) (M := M) (N := N) (by omega) (by omega); omega), fun h => by exfalso; omega, (oqKd_fr fu57 rfl (oqKd_fr fu49 rfl (oqKd_fr (oFr_oneI (q := 5) (m := 7) rfl (by rfl)) rfl (oqKd_fr (oFr_oneI (q := 5) (m := 6) rfl (by rfl)) rfl (oqKd_fr fu36 rfl (oqKd_fr fu1 rfl hp6))))))⟩⟩
                      · skip
                        replace pu57_1 := pu57_1 (by omega)
                        replace pu57_2 := pu57_2 (by omega)
                        replace pu57_3 := pu57_3 (by omega)
                        clear pu57_4
                        have hgX : g (oqSk g ((u57).1 30 2).toInt) = g ((u57).1 30 2).toInt := by rw [show oqSk g ((u57).1 30 2).toInt = ((u57).1 30 2).toInt by omega]
                        refine r_aload_n C (j := 0) (oDec_at oX5_bookStatement 89 rfl) rfl rfl ?_
                        refine r_bipush C (oDec_at oX5_bookStatement 90 rfl) (v := k59) (by rw [qk59]; rfl) ?_
                        refine r_callVi C oCl5 rfl miX5_expectSign mlX5_88 (ct4_X5_expectSign l E (u57) k59 (g) (((u57).1 30 2).toInt) (59) (by omega) (oqX_fr fu57 rfl (oqX_fr fu49 rfl (oqX_fr (oFr_oneI (q := 5) (m := 7) rfl (by rfl)) rfl (oqX_fr (oFr_oneI (q := 5) (m := 6) rfl (by rfl)) rfl (oqX_fr fu36 rfl (oqX_fr fu1 rfl hp2)))))) (by omega) (by omega)) (by decide) rfl rfl rfl (Nat.le_of_ble_eq_true rfl) (oDec_at oX5_bookStatement 91 rfl) (fun r61 u60 pu60 fu60 => ?_)
                        try dsimp only at pu60
                        obtain ⟨pu60_0, pu60_1, pu60_2⟩ := pu60
                        have rr61 := n_rng r61
                        refine r_if_ne C 184 (oDec_at oX5_bookStatement 92 rfl) (by decide) (fun cd62 => ?_) (fun cd62 => ?_)
                        · skip
                          replace pu60_1 := pu60_1 (by omega)
                          clear pu60_2
                          refine r_aload_n C (j := 0) (oDec_at oX5_bookStatement 95 rfl) rfl rfl ?_
                          refine r_getK (k := 1) (b := b24) C oCl5 rfl (by decide) flX5_19 rfl rfl (((fu60 30 1 rfl).2.2).trans (((fu57 30 1 rfl).2.2).trans (((fu49 30 1 rfl).2.2).trans ((show ((pI (pI u36 30 6 k11) 30 7 k19)).2.2 30 1 = b24 + 1 from (show ((pI u36 30 6 k11)).2.2 30 1 = b24 + 1 from ((fu36 30 1 rfl).2.2).trans (rb24))))))) (oDec_at oX5_bookStatement 96 rfl) ?_
                          refine r_iload_n C (j := 1) (oDec_at oX5_bookStatement 97 rfl) rfl rfl ?_
                          refine r_iconst C (oDec_at oX5_bookStatement 98 rfl) (v := k5) (by rw [qk5]; rfl) ?_
                          refine r_icmp_ne C 197 (oDec_at oX5_bookStatement 99 rfl) (by decide) (fun cd64 => ?_) (fun cd64 => ?_)
                          · skip
                            refine r_iconst C (oDec_at oX5_bookStatement 102 rfl) (v := k0) (by rw [qk0]; rfl) ?_
                            refine r_iload_n C (j := 2) (oDec_at oX5_bookStatement 103 rfl) rfl rfl ?_
                            have hkn := oqKd_ne (oqKd_fr fu60 rfl (oqKd_fr fu57 rfl (oqKd_fr fu49 rfl (oqKd_fr (oFr_oneI (q := 5) (m := 7) rfl (by rfl)) rfl (oqKd_fr (oFr_oneI (q := 5) (m := 6) rfl (by rfl)) rfl (oqKd_fr fu36 rfl (oqKd_fr fu1 rfl hp6))))))) (((fu60 30 1 rfl).2.2).trans (((fu57 30 1 rfl).2.2).trans (((fu49 30 1 rfl).2.2).trans ((show ((pI (pI u36 30 6 k11) 30 7 k19)).2.2 30 1 = b24 + 1 from (show ((pI u36 30 6 k11)).2.2 30 1 = b24 + 1 from ((fu36 30 1 rfl).2.2).trans (rb24)))))))
                            have lk65 : ((u60).1 b24 8).toInt = (s.1 b24 8).toInt := congrArg Int32.toInt (((fu60 b24 8 (by rw [hkb24]; rfl)).1).trans (((fu57 b24 8 (by rw [hkb24]; rfl)).1).trans (((fu49 b24 8 (by rw [hkb24]; rfl)).1).trans (((pI_ne _ _ (Or.inl (okd_ne hkb24 rfl (by decide))))).trans (((pI_ne _ _ (Or.inl (okd_ne hkb24 rfl (by decide))))).trans (((fu36 b24 8 (by rw [hkb24]; rfl)).1).trans ((fu1 b24 8 (by rw [hkb24]; rfl)).1)))))))
                            have lk66 : ((u60).1 b24 7).toInt = v25.toInt := congrArg Int32.toInt (((fu60 b24 7 (by rw [hkb24]; rfl)).1).trans (((fu57 b24 7 (by rw [hkb24]; rfl)).1).trans (((fu49 b24 7 (by rw [hkb24]; rfl)).1).trans (((pI_ne _ _ (Or.inl (okd_ne hkb24 rfl (by decide))))).trans (((pI_ne _ _ (Or.inl (okd_ne hkb24 rfl (by decide))))).trans (((fu36 b24 7 (by rw [hkb24]; rfl)).1).trans (ev25)))))))
                            have lk67 : ((u60).1 b24 8).toInt = (s.1 b24 8).toInt := congrArg Int32.toInt (((fu60 b24 8 (by rw [hkb24]; rfl)).1).trans (((fu57 b24 8 (by rw [hkb24]; rfl)).1).trans (((fu49 b24 8 (by rw [hkb24]; rfl)).1).trans (((pI_ne _ _ (Or.inl (okd_ne hkb24 rfl (by decide))))).trans (((pI_ne _ _ (Or.inl (okd_ne hkb24 rfl (by decide))))).trans (((fu36 b24 8 (by rw [hkb24]; rfl)).1).trans ((fu1 b24 8 (by rw [hkb24]; rfl)).1)))))))
                            have lk68 : ((u60).1 b24 7).toInt = v25.toInt := congrArg Int32.toInt (((fu60 b24 7 (by rw [hkb24]; rfl)).1).trans (((fu57 b24 7 (by rw [hkb24]; rfl)).1).trans (((fu49 b24 7 (by rw [hkb24]; rfl)).1).trans (((pI_ne _ _ (Or.inl (okd_ne hkb24 rfl (by decide))))).trans (((pI_ne _ _ (Or.inl (okd_ne hkb24 rfl (by decide))))).trans (((fu36 b24 7 (by rw [hkb24]; rfl)).1).trans (ev25)))))))
                            refine r_callVv C oCl0 hkb24 miX0_close mlX5_121 (ct8_X0_close l E (u60) b24 hkb24 k0 v40 (d) (V) (L) (by omega) (by omega) (by omega) (by omega) (by omega) (oqKd_fr fu60 rfl (oqKd_fr fu57 rfl (oqKd_fr fu49 rfl (oqKd_fr (oFr_oneI (q := 5) (m := 7) rfl (by rfl)) rfl (oqKd_fr (oFr_oneI (q := 5) (m := 6) rfl (by rfl)) rfl (oqKd_fr fu36 rfl (oqKd_fr fu1 rfl hp6)))))))) (by decide) rfl rfl rfl (Nat.le_of_ble_eq_true rfl) (oDec_at oX5_bookStatement 104 rfl) (fun u69 pu69 fu69 => ?_)
                            try dsimp only at pu69
                            try simp only [lk65, lk66, lk67, lk68] at pu69
                            obtain ⟨pu69_0, pu69_1, pu69_2⟩ := pu69
                            refine r_iconst C (oDec_at oX5_bookStatement 105 rfl) (v := k1) (by rw [qk1]; rfl) ?_
                            have lk71 : ((u69).1 30 2).toInt = (u60.1 30 2).toInt := congrArg Int32.toInt ((fu69 30 2 rfl).1)
                            have lk72 : ((u69).1 30 3).toInt = (u57.1 30 3).toInt := congrArg Int32.toInt (((fu69 30 3 rfl).1).trans ((fu60 30 3 rfl).1))
                            have lk73 : ((u69).1 30 5).toInt = (u57.1 30 5).toInt := congrArg Int32.toInt (((fu69 30 5 rfl).1).trans ((fu60 30 5 rfl).1))
                            have lk74 : ((u69).1 30 8).toInt = (u60.1 30 8).toInt := congrArg Int32.toInt ((fu69 30 8 rfl).1)
                            have lk75 : ((u69).1 30 9).toInt = (u60.1 30 9).toInt := congrArg Int32.toInt ((fu69 30 9 rfl).1)
                            have lk76 : ((u69).1 30 8).toInt = (u60.1 30 8).toInt := congrArg Int32.toInt ((fu69 30 8 rfl).1)
                            have lk77 : ((u69).1 30 9).toInt = (u60.1 30 9).toInt := congrArg Int32.toInt ((fu69 30 9 rfl).1)
                            exact r_zret C (n_bool (by omega)) (oDec_at oX5_bookStatement 106 rfl) ⟨_, rfl, ⟨by omega, by first | (have hV := oqV_0 (g := g) (p := 19) (q := 24) (w := oqBn g a b) (by omega) pu57_1 pu57_2 (by omega); have hB := oqB_o (g := g) (a := a) (b := b) (R := R) (M := M) (N := N) (by omega) (by omega) (by omega); omega) | (have hV := oqV_0 (g := g) (p := 11) (q := 19) (w := oqBh g a b) (by omega) pu57_1 pu57_2 (by omega); have hB := oqB_r (g := g) (a := a) (b := b) (R := R) (M := M) (N := N) (by omega) (by omega); omega), fun h => by exfalso; omega, by first | (intro h; have hb := oqBs_4 (g := g) (a := a) (b := b) (R := R) (M := M) (N := N) (by omega); rw [hb.1, hb.2.1, hb.2.2]; exact oqNl_cl (oqNl_fr fu60 rfl (oqNl_fr fu57 rfl (oqNl_fr fu49 rfl (oqNl_fr (oFr_oneI (q := 5) (m := 7) rfl (by rfl)) rfl (oqNl_fr (oFr_oneI (q := 5) (m := 6) rfl (by rfl)) rfl (oqNl_fr fu36 rfl (oqNl_fr fu1 rfl hp3))))))) (((fu69 30 1 rfl).2.2).trans (((fu60 30 1 rfl).2.2).trans (((fu57 30 1 rfl).2.2).trans (((fu49 30 1 rfl).2.2).trans ((show ((pI (pI u36 30 6 k11) 30 7 k19)).2.2 30 1 = b24 + 1 from (show ((pI u36 30 6 k11)).2.2 30 1 = b24 + 1 from ((fu36 30 1 rfl).2.2).trans (rb24)))))))) fu69 rfl (by omega) (by omega) (by omega) rfl) | (intro h; have hb := oqBs_5 (g := g) (a := a) (b := b) (R := R) (M := M) (N := N) (by omega); rw [hb.1, hb.2.1, hb.2.2]; exact oqNl_cl (by assumption) (((fu69 30 1 rfl).2.2).trans (((fu60 30 1 rfl).2.2).trans (((fu57 30 1 rfl).2.2).trans (((fu49 30 1 rfl).2.2).trans ((show ((pI (pI u36 30 6 k11) 30 7 k19)).2.2 30 1 = b24 + 1 from (show ((pI u36 30 6 k11)).2.2 30 1 = b24 + 1 from ((fu36 30 1 rfl).2.2).trans (rb24)))))))) fu69 rfl (by omega) (by omega) (by omega) rfl), pu69_2⟩⟩
                          · omega
                        · skip
                          clear pu60_1
                          replace pu60_2 := pu60_2 (by omega)
                          refine r_iconst C (oDec_at oX5_bookStatement 93 rfl) (v := k0) (by rw [qk0]; rfl) ?_
                          have lk78 : ((u60).1 30 3).toInt = (u57.1 30 3).toInt := congrArg Int32.toInt ((fu60 30 3 rfl).1)
                          have lk79 : ((u60).1 30 5).toInt = (u57.1 30 5).toInt := congrArg Int32.toInt ((fu60 30 5 rfl).1)
                          exact r_zret C (n_bool (by omega)) (oDec_at oX5_bookStatement 94 rfl) ⟨_, rfl, ⟨by omega, by omega, by first | (have hB := oqB_on (g := g) (a := a) (b := b) (R := R) (M := M) (N := N) (by omega) (by omega) (by omega); omega) | (have hV := oqV_1 (g := g) (p := 19) (q := 24) (w := oqBn g a b) (by omega); have hB := oqB_o (g := g) (a := a) (b := b) (R := R) (M := M) (N := N) (by omega) (by omega) (by omega); omega) | (have hV := oqV_1 (g := g) (p := 11) (q := 19) (w := oqBh g a b) (by omega); have hB := oqB_r (g := g) (a := a) (b := b) (R := R) (M := M) (N := N) (by omega) (by omega); omega) | (have hV := oqV_2 (g := g) (p := 19) (q := 24) (w := oqBn g a b) (by omega) pu60_4; have hk0 := oqFn_k pu60_4; have hB := oqB_o (g := g) (a := a) (b := b) (R := R) (M := M) (N := N) (by omega) (by omega) (by omega); omega) | (have hV := oqV_2 (g := g) (p := 11) (q := 19) (w := oqBh g a b) (by omega) pu60_4; have hk0 := oqFn_k pu60_4; have hB := oqB_r (g := g) (a := a) (b := b) (R := R) (M := M) (N := N) (by omega) (by omega); omega) | (have hV := oqV_3 (g := g) (p := 19) (q := 24) (w := oqBn g a b) (by omega) pu57_1 pu57_2 (by omega); have hB := oqB_o (g := g) (a := a) (b := b) (R := R) (M := M) (N := N) (by omega) (by omega) (by omega); omega) | (have hV := oqV_3 (g := g) (p := 11) (q := 19) (w := oqBh g a b) (by omega) pu57_1 pu57_2 (by omega); have hB := oqB_r (g := g) (a := a) (b := b) (R := R) (M := M) (N := N) (by omega) (by omega); omega), fun h => by exfalso; omega, (oqKd_fr fu60 rfl (oqKd_fr fu57 rfl (oqKd_fr fu49 rfl (oqKd_fr (oFr_oneI (q := 5) (m := 7) rfl (by rfl)) rfl (oqKd_fr (oFr_oneI (q := 5) (m := 6) rfl (by rfl)) rfl (oqKd_fr fu36 rfl (oqKd_fr fu1 rfl hp6)))))))⟩⟩
                  · omega
                · omega
              · omega
            · omega
          · omega
    · skip
      refine r_iload_n C (j := 1) (oDec_at oX5_bookStatement 9 rfl) rfl rfl ?_
      refine r_iconst C (oDec_at oX5_bookStatement 10 rfl) (v := k5) (by rw [qk5]; rfl) ?_
      refine r_icmp_eq C 30 (oDec_at oX5_bookStatement 11 rfl) (by decide) (fun cd80 => ?_) (fun cd80 => ?_)
      · skip
        refine r_iload_n C (j := 1) (oDec_at oX5_bookStatement 18 rfl) rfl rfl ?_
        refine r_iconst C (oDec_at oX5_bookStatement 19 rfl) (v := k4) (by rw [qk4]; rfl) ?_
        refine r_icmp_ne C 47 (oDec_at oX5_bookStatement 20 rfl) (by decide) (fun cd81 => ?_) (fun cd81 => ?_)
        · skip
          refine r_iload_n C (j := 1) (oDec_at oX5_bookStatement 26 rfl) rfl rfl ?_
          refine r_iconst C (oDec_at oX5_bookStatement 27 rfl) (v := k5) (by rw [qk5]; rfl) ?_
          refine r_icmp_ne C 74 (oDec_at oX5_bookStatement 28 rfl) (by decide) (fun cd82 => ?_) (fun cd82 => ?_)
          · omega
          · skip
            refine r_aload_n C (j := 0) (oDec_at oX5_bookStatement 29 rfl) rfl rfl ?_
            refine r_getS (k := 1) (q2 := 0) C oCl5 rfl (by decide) flX5_19 rfl rfl rfl ks1 (oDec_at oX5_bookStatement 30 rfl) (fun b83 rb83 mb83 hkb83 => ?_)
            have hnl := oqNl_at (oqNl_fr fu1 rfl hp3) (rb83)
            obtain ⟨hnl7, hnl8, hnl9⟩ := hnl
            clear hnl9
            have hnls := oqNl_at hp3 (((fu1 30 1 rfl).2.2).symm.trans (rb83))
            obtain ⟨hnls7, hnls8, hnls9⟩ := hnls
            clear hnls9
            obtain ⟨v84, ev84⟩ : ∃ z : Int32, (u1).1 b83 8 = z := ⟨_, rfl⟩
            have gv84 : (s.1 b83 8).toInt = v84.toInt := congrArg Int32.toInt (((fu1 b83 8 (by rw [hkb83]; rfl)).1).symm.trans ev84)
            have ggv84 : ((u1).1 b83 8).toInt = v84.toInt := congrArg Int32.toInt ev84
            refine r_getiN (k := 8) (lo := 0) (hi := 6) C v84 oCl0 hkb83 (by decide) flX5_97 rfl rfl (ev84) rfl rfl (oDec_at oX5_bookStatement 31 rfl) (fun b85 b85h => ?_)
            refine r_bipush C (oDec_at oX5_bookStatement 32 rfl) (v := k6) (by rw [qk6]; rfl) ?_
            refine r_icmp_lt C 74 (oDec_at oX5_bookStatement 33 rfl) (by decide) (fun cd86 => ?_) (fun cd86 => ?_)
            · skip
              refine r_aload_n C (j := 0) (oDec_at oX5_bookStatement 40 rfl) rfl rfl ?_
              refine r_callVv C oCl5 rfl miX5_passWord mlX5_100 (ct4_X5_passWord l E (u1)  ) (by decide) rfl rfl rfl (Nat.le_of_ble_eq_true rfl) (oDec_at oX5_bookStatement 41 rfl) (fun u87 pu87 fu87 => ?_)
              try dsimp only at pu87
              obtain ⟨pu87_0, pu87_1⟩ := pu87
              have hW3 := hW2 (by omega)
              have hBh := oqBh_w (g := g) (a := a) (b := b) (i := r2.toInt.toNat) (by omega)
              clear hW2
              refine r_iload_n C (j := 1) (oDec_at oX5_bookStatement 42 rfl) rfl rfl ?_
              refine r_iconst C (oDec_at oX5_bookStatement 43 rfl) (v := k3) (by rw [qk3]; rfl) ?_
              refine r_icmp_ne C 105 (oDec_at oX5_bookStatement 44 rfl) (by decide) (fun cd89 => ?_) (fun cd89 => ?_)
              · skip
                have hBs : (oqWi g a b = 4 ∨ oqWi g a b = 5) := by omega
                refine r_aload_n C (j := 0) (oDec_at oX5_bookStatement 56 rfl) rfl rfl ?_
                refine r_getK (k := 1) (b := b83) C oCl5 rfl (by decide) flX5_19 rfl rfl (((fu87 30 1 rfl).2.2).trans (rb83)) (oDec_at oX5_bookStatement 57 rfl) ?_
                have hnl := oqNl_at (oqNl_fr fu87 rfl (oqNl_fr fu1 rfl hp3)) (((fu87 30 1 rfl).2.2).trans (rb83))
                obtain ⟨hnl7, hnl8, hnl9⟩ := hnl
                clear hnl9
                obtain ⟨v91, ev91⟩ : ∃ z : Int32, (u87).1 b83 1 = z := ⟨_, rfl⟩
                have gv91 : (s.1 b83 1).toInt = v91.toInt := congrArg Int32.toInt ((((fu87 b83 1 (by rw [hkb83]; rfl)).1).trans ((fu1 b83 1 (by rw [hkb83]; rfl)).1)).symm.trans ev91)
                have ggv91 : ((u87).1 b83 1).toInt = v91.toInt := congrArg Int32.toInt ev91
                refine r_getiN (k := 1) (lo := 0) (hi := 1600) C v91 oCl0 hkb83 (by decide) flX5_106 rfl rfl (ev91) rfl rfl (oDec_at oX5_bookStatement 58 rfl) (fun b92 b92h => ?_)
                refine r_istore_n C (lv' := [(0, .ref (oad E 30)), (1, .int r2), (2, .int v91)]) [1, 2, 0] (oDec_at oX5_bookStatement 59 rfl) rfl (by decide) rfl ?_
                refine r_aload_n C (j := 0) (oDec_at oX5_bookStatement 60 rfl) rfl rfl ?_
                refine r_iload_n C (j := 1) (oDec_at oX5_bookStatement 61 rfl) rfl rfl ?_
                refine r_iconst C (oDec_at oX5_bookStatement 62 rfl) (v := k5) (by rw [qk5]; rfl) ?_
                refine r_pc C 116 rfl ?_
                refine r_icmp_ne C 124 (oDec_at oX5_bookStatement 63 rfl) (by decide) (fun cd93 => ?_) (fun cd93 => ?_)
                · omega
                · skip
                  refine r_bipush C (oDec_at oX5_bookStatement 64 rfl) (v := k19) (by rw [qk19]; rfl) ?_
                  refine r_goto C (tgt := 126) (oDec_at oX5_bookStatement 65 rfl) (by decide) ?_
                  refine r_puti (k := 6) (lo := (-2147483648)) (hi := 2147483647) C oCl5 rfl (by decide) flX5_109 rfl rfl rfl rfl rfl rfl rfl rfl (n_rng _) (oDec_at oX5_bookStatement 67 rfl) ?_
                  refine r_aload_n C (j := 0) (oDec_at oX5_bookStatement 68 rfl) rfl rfl ?_
                  refine r_iload_n C (j := 1) (oDec_at oX5_bookStatement 69 rfl) rfl rfl ?_
                  refine r_iconst C (oDec_at oX5_bookStatement 70 rfl) (v := k5) (by rw [qk5]; rfl) ?_
                  refine r_icmp_ne C 140 (oDec_at oX5_bookStatement 71 rfl) (by decide) (fun cd94 => ?_) (fun cd94 => ?_)
                  · omega
                  · skip
                    refine r_bipush C (oDec_at oX5_bookStatement 72 rfl) (v := k24) (by rw [qk24]; rfl) ?_
                    refine r_goto C (tgt := 142) (oDec_at oX5_bookStatement 73 rfl) (by decide) ?_
                    refine r_puti (k := 7) (lo := (-2147483648)) (hi := 2147483647) C oCl5 rfl (by decide) flX5_112 rfl rfl rfl rfl rfl rfl rfl rfl (n_rng _) (oDec_at oX5_bookStatement 75 rfl) ?_
                    refine r_iload_n C (j := 1) (oDec_at oX5_bookStatement 76 rfl) rfl rfl ?_
                    refine r_iconst C (oDec_at oX5_bookStatement 77 rfl) (v := k5) (by rw [qk5]; rfl) ?_
                    refine r_icmp_ne C 157 (oDec_at oX5_bookStatement 78 rfl) (by decide) (fun cd95 => ?_) (fun cd95 => ?_)
                    · omega
                    · skip
                      have hBn : oqBn g a b = oqWe g (oqSk g (oqBh g a b)) := rfl
                      have hnl5 := oqBh_nl (g := g) (a := a) (b := b) (i := 5) (by decide) (by omega)
                      refine r_aload_n C (j := 0) (oDec_at oX5_bookStatement 79 rfl) rfl rfl ?_
                      have lk96 : (((pI (pI u87 30 6 k19) 30 7 k24)).1 30 2).toInt = (u87.1 30 2).toInt := congrArg Int32.toInt (((pI_ne (a := 30) (b := 2) (c := 30) (k := 7) _ _ (Or.inr (by decide)))).trans ((pI_ne (a := 30) (b := 2) (c := 30) (k := 6) _ _ (Or.inr (by decide)))))
                      have lk97 : (((pI (pI u87 30 6 k19) 30 7 k24)).1 30 3).toInt = (u87.1 30 3).toInt := congrArg Int32.toInt (((pI_ne (a := 30) (b := 3) (c := 30) (k := 7) _ _ (Or.inr (by decide)))).trans ((pI_ne (a := 30) (b := 3) (c := 30) (k := 6) _ _ (Or.inr (by decide)))))
                      have lk98 : (((pI (pI u87 30 6 k19) 30 7 k24)).1 30 8).toInt = (s.1 30 8).toInt := congrArg Int32.toInt (((pI_ne (a := 30) (b := 8) (c := 30) (k := 7) _ _ (Or.inr (by decide)))).trans (((pI_ne (a := 30) (b := 8) (c := 30) (k := 6) _ _ (Or.inr (by decide)))).trans (((fu87 30 8 rfl).1).trans ((fu1 30 8 rfl).1))))
                      have lk99 : (((pI (pI u87 30 6 k19) 30 7 k24)).1 30 9).toInt = (s.1 30 9).toInt := congrArg Int32.toInt (((pI_ne (a := 30) (b := 9) (c := 30) (k := 7) _ _ (Or.inr (by decide)))).trans (((pI_ne (a := 30) (b := 9) (c := 30) (k := 6) _ _ (Or.inr (by decide)))).trans (((fu87 30 9 rfl).1).trans ((fu1 30 9 rfl).1))))
                      refine r_callVi C oCl5 rfl miX5_name mlX5_115 (ct8_X5_name l E ((pI (pI u87 30 6 k19) 30 7 k24))  (g) (oqBh g a b) (N) (R) (M) (d) (V) (L) (by omega) (by omega) (oqX_fr (oFr_oneI (q := 5) (m := 7) rfl (by rfl)) rfl (oqX_fr (oFr_oneI (q := 5) (m := 6) rfl (by rfl)) rfl (oqX_fr fu87 rfl (oqX_fr fu1 rfl hp2)))) (oqNl_fr (oFr_oneI (q := 5) (m := 7) rfl (by rfl)) rfl (oqNl_fr (oFr_oneI (q := 5) (m := 6) rfl (by rfl)) rfl (oqNl_fr fu87 rfl (oqNl_fr fu1 rfl hp3)))) (by omega) (by omega) (oqKd_fr (oFr_oneI (q := 5) (m := 7) rfl (by rfl)) rfl (oqKd_fr (oFr_oneI (q := 5) (m := 6) rfl (by rfl)) rfl (oqKd_fr fu87 rfl (oqKd_fr fu1 rfl hp6))))) (by decide) rfl rfl rfl (Nat.le_of_ble_eq_true rfl) (oDec_at oX5_bookStatement 80 rfl) (fun r101 u100 pu100 fu100 => ?_)
                      try dsimp only at pu100
                      try simp only [lk96, lk97, lk98, lk99] at pu100
                      obtain ⟨pu100_0, pu100_1, pu100_2, pu100_3, pu100_4⟩ := pu100
                      have rr101 := n_rng r101
                      refine r_if_eq C 182 (oDec_at oX5_bookStatement 81 rfl) (by decide) (fun cd102 => ?_) (fun cd102 => ?_)
                      · skip
                        clear pu100_1
                        replace pu100_2 := pu100_2 (by omega)
                        clear pu100_3
                        refine r_iconst C (oDec_at oX5_bookStatement 93 rfl) (v := k0) (by rw [qk0]; rfl) ?_
                        have lk103 : ((u100).1 30 5).toInt = (s.1 30 5).toInt := congrArg Int32.toInt (((fu100 30 5 rfl).1).trans (((pI_ne (a := 30) (b := 5) (c := 30) (k := 7) _ _ (Or.inr (by decide)))).trans (((pI_ne (a := 30) (b := 5) (c := 30) (k := 6) _ _ (Or.inr (by decide)))).trans (((fu87 30 5 rfl).1).trans ((fu1 30 5 rfl).1)))))
                        exact r_zret C (n_bool (by omega)) (oDec_at oX5_bookStatement 94 rfl) ⟨_, rfl, ⟨by omega, by omega, by first | (have hB := oqB_on (g := g) (a := a) (b := b) (R := R) (M := M) (N := N) (by omega) (by omega) (by omega); omega) | (have hV := oqV_1 (g := g) (p := 19) (q := 24) (w := oqBn g a b) (by omega); have hB := oqB_o (g := g) (a := a) (b := b) (R := R) (M := M) (N := N) (by omega) (by omega) (by omega); omega) | (have hV := oqV_1 (g := g) (p := 11) (q := 19) (w := oqBh g a b) (by omega); have hB := oqB_r (g := g) (a := a) (b := b) (R := R) (M := M) (N := N) (by omega) (by omega); omega) | (have hV := oqV_2 (g := g) (p := 19) (q := 24) (w := oqBn g a b) (by omega) pu100_4; have hk0 := oqFn_k pu100_4; have hB := oqB_o (g := g) (a := a) (b := b) (R := R) (M := M) (N := N) (by omega) (by omega) (by omega); omega) | (have hV := oqV_2 (g := g) (p := 11) (q := 19) (w := oqBh g a b) (by omega) pu100_4; have hk0 := oqFn_k pu100_4; have hB := oqB_r (g := g) (a := a) (b := b) (R := R) (M := M) (N := N) (by omega) (by omega); omega) | (have hV := oqV_3 (g := g) (p := 19) (q := 24) (w := oqBn g a b) (by omega) (by assumption) (by assumption) (by omega); have hB := oqB_o (g := g) (a := a) (b := b) (R := R) (M := M) (N := N) (by omega) (by omega) (by omega); omega) | (have hV := oqV_3 (g := g) (p := 11) (q := 19) (w := oqBh g a b) (by omega) (by assumption) (by assumption) (by omega); have hB := oqB_r (g := g) (a := a) (b := b) (R := R) (M := M) (N := N) (by omega) (by omega); omega), fun h => by exfalso; omega, pu100_4⟩⟩
                      · skip
                        replace pu100_1 := pu100_1 (by omega)
                        clear pu100_2
                        replace pu100_3 := pu100_3 (by omega)
                        have hq104 : oqNl (oqNx N M (oqN6 g (oqSk g (oqBh g a b)))) R M (M + 1) (u100) := pu100_3
                        refine r_aload_n C (j := 0) (oDec_at oX5_bookStatement 82 rfl) rfl rfl ?_
                        refine r_bipush C (oDec_at oX5_bookStatement 83 rfl) (v := k6) (by rw [qk6]; rfl) ?_
                        refine r_callVi C oCl5 rfl miX5_expect mlX5_74 (ct4_X5_expect l E (u100) k6 (g) (oqBn g a b) (oqBn g a b) (6) (by omega) (by omega) (oqX_fr fu100 rfl (oqX_fr (oFr_oneI (q := 5) (m := 7) rfl (by rfl)) rfl (oqX_fr (oFr_oneI (q := 5) (m := 6) rfl (by rfl)) rfl (oqX_fr fu87 rfl (oqX_fr fu1 rfl hp2))))) (by omega) (by omega)) (by decide) rfl rfl rfl (Nat.le_of_ble_eq_true rfl) (oDec_at oX5_bookStatement 84 rfl) (fun r106 u105 pu105 fu105 => ?_)
                        try dsimp only at pu105
                        obtain ⟨pu105_0, pu105_1, pu105_2⟩ := pu105
                        have rr106 := n_rng r106
                        refine r_if_eq C 182 (oDec_at oX5_bookStatement 85 rfl) (by decide) (fun cd107 => ?_) (fun cd107 => ?_)
                        · skip
                          clear pu105_1
                          replace pu105_2 := pu105_2 (by omega)
                          refine r_iconst C (oDec_at oX5_bookStatement 93 rfl) (v := k0) (by rw [qk0]; rfl) ?_
                          have lk108 : ((u105).1 30 5).toInt = (s.1 30 5).toInt := congrArg Int32.toInt (((fu105 30 5 rfl).1).trans (((fu100 30 5 rfl).1).trans (((pI_ne (a := 30) (b := 5) (c := 30) (k := 7) _ _ (Or.inr (by decide)))).trans (((pI_ne (a := 30) (b := 5) (c := 30) (k := 6) _ _ (Or.inr (by decide)))).trans (((fu87 30 5 rfl).1).trans ((fu1 30 5 rfl).1))))))
                          exact r_zret C (n_bool (by omega)) (oDec_at oX5_bookStatement 94 rfl) ⟨_, rfl, ⟨by omega, by omega, by first | (have hB := oqB_on (g := g) (a := a) (b := b) (R := R) (M := M) (N := N) (by omega) (by omega) (by omega); omega) | (have hV := oqV_1 (g := g) (p := 19) (q := 24) (w := oqBn g a b) (by omega); have hB := oqB_o (g := g) (a := a) (b := b) (R := R) (M := M) (N := N) (by omega) (by omega) (by omega); omega) | (have hV := oqV_1 (g := g) (p := 11) (q := 19) (w := oqBh g a b) (by omega); have hB := oqB_r (g := g) (a := a) (b := b) (R := R) (M := M) (N := N) (by omega) (by omega); omega) | (have hV := oqV_2 (g := g) (p := 19) (q := 24) (w := oqBn g a b) (by omega) pu105_4; have hk0 := oqFn_k pu105_4; have hB := oqB_o (g := g) (a := a) (b := b) (R := R) (M := M) (N := N) (by omega) (by omega) (by omega); omega) | (have hV := oqV_2 (g := g) (p := 11) (q := 19) (w := oqBh g a b) (by omega) pu105_4; have hk0 := oqFn_k pu105_4; have hB := oqB_r (g := g) (a := a) (b := b) (R := R) (M := M) (N := N) (by omega) (by omega); omega) | (have hV := oqV_3 (g := g) (p := 19) (q := 24) (w := oqBn g a b) (by omega) (by assumption) (by assumption) (by omega); have hB := oqB_o (g := g) (a := a) (b := b) (R := R) (M := M) (N := N) (by omega) (by omega) (by omega); omega) | (have hV := oqV_3 (g := g) (p := 11) (q := 19) (w := oqBh g a b) (by omega) (by assumption) (by assumption) (by omega); have hB := oqB_r (g := g) (a := a) (b := b) (R := R) (M := M) (N := N) (by omega) (by omega); omega), fun h => by exfalso; omega, (oqKd_fr fu105 rfl pu100_4)⟩⟩
                        · skip
                          replace pu105_1 := pu105_1 (by omega)
                          clear pu105_2
                          refine r_aload_n C (j := 0) (oDec_at oX5_bookStatement 86 rfl) rfl rfl ?_
                          have lk109 : ((u105).1 30 5).toInt = (s.1 30 5).toInt := congrArg Int32.toInt (((fu105 30 5 rfl).1).trans (((fu100 30 5 rfl).1).trans (((pI_ne (a := 30) (b := 5) (c := 30) (k := 7) _ _ (Or.inr (by decide)))).trans (((pI_ne (a := 30) (b := 5) (c := 30) (k := 6) _ _ (Or.inr (by decide)))).trans (((fu87 30 5 rfl).1).trans ((fu1 30 5 rfl).1))))))
                          have lk110 : ((u105).1 30 6).toInt = k19.toInt := congrArg Int32.toInt (((fu105 30 6 rfl).1).trans (((fu100 30 6 rfl).1).trans (((pI_ne (a := 30) (b := 6) (c := 30) (k := 7) _ _ (Or.inr (by decide)))).trans ((pI_self _ _ _ _)))))
                          have lk111 : ((u105).1 30 7).toInt = k24.toInt := congrArg Int32.toInt (((fu105 30 7 rfl).1).trans (((fu100 30 7 rfl).1).trans ((pI_self _ _ _ _))))
                          have lk112 : ((u105).1 30 5).toInt = (s.1 30 5).toInt := congrArg Int32.toInt (((fu105 30 5 rfl).1).trans (((fu100 30 5 rfl).1).trans (((pI_ne (a := 30) (b := 5) (c := 30) (k := 7) _ _ (Or.inr (by decide)))).trans (((pI_ne (a := 30) (b := 5) (c := 30) (k := 6) _ _ (Or.inr (by decide)))).trans (((fu87 30 5 rfl).1).trans ((fu1 30 5 rfl).1))))))
                          refine r_callVi C oCl5 rfl miX5_test mlX5_118 (ct4_X5_test l E (u105)  (g) (19) (24) (oqHa g (oqBn g a b) 6) (oqHa g (oqBn g a b) 6) (0) (by omega) (by omega) (oqX_fr fu105 rfl (oqX_fr fu100 rfl (oqX_fr (oFr_oneI (q := 5) (m := 7) rfl (by rfl)) rfl (oqX_fr (oFr_oneI (q := 5) (m := 6) rfl (by rfl)) rfl (oqX_fr fu87 rfl (oqX_fr fu1 rfl hp2)))))) (by omega) (by omega) (by omega) (by omega)) (by decide) rfl rfl rfl (Nat.le_of_ble_eq_true rfl) (oDec_at oX5_bookStatement 87 rfl) (fun r114 u113 pu113 fu113 => ?_)
                          try dsimp only at pu113
                          try simp only [lk109, lk110, lk111, lk112] at pu113
                          obtain ⟨pu113_0, pu113_1, pu113_2, pu113_3, pu113_4⟩ := pu113
                          have rr114 := n_rng r114
                          refine r_if_eq C 182 (oDec_at oX5_bookStatement 88 rfl) (by decide) (fun cd115 => ?_) (fun cd115 => ?_)
                          · skip
                            clear pu113_1
                            clear pu113_2
                            clear pu113_3
                            replace pu113_4 := pu113_4 (by omega)
                            refine r_iconst C (oDec_at oX5_bookStatement 93 rfl) (v := k0) (by rw [qk0]; rfl) ?_
                            exact r_zret C (n_bool (by omega)) (oDec_at oX5_bookStatement 94 rfl) ⟨_, rfl, ⟨by omega, by omega, by first | (have hB := oqB_on (g := g) (a := a) (b := b) (R := R) (M := M) (N := N) (by omega) (by omega) (by omega); omega) | (have hV := oqV_1 (g := g) (p := 19) (q := 24) (w := oqBn g a b) (by omega); have hB := oqB_o (g := g) (a := a) (b := b) (R := R) (M := M) (N := N) (by omega) (by omega) (by omega); omega) | (have hV := oqV_1 (g := g) (p := 11) (q := 19) (w := oqBh g a b) (by omega); have hB := oqB_r (g := g) (a := a) (b := b) (R := R) (M := M) (N := N) (by omega) (by omega); omega) | (have hV := oqV_2 (g := g) (p := 19) (q := 24) (w := oqBn g a b) (by omega) pu113_4; have hk0 := oqFn_k pu113_4; have hB := oqB_o (g := g) (a := a) (b := b) (R := R) (M := M) (N := N) (by omega) (by omega) (by omega); omega) | (have hV := oqV_2 (g := g) (p := 11) (q := 19) (w := oqBh g a b) (by omega) pu113_4; have hk0 := oqFn_k pu113_4; have hB := oqB_r (g := g) (a := a) (b := b) (R := R) (M := M) (N := N) (by omega) (by omega); omega) | (have hV := oqV_3 (g := g) (p := 19) (q := 24) (w := oqBn g a b) (by omega) (by assumption) (by assumption) (by omega); have hB := oqB_o (g := g) (a := a) (b := b) (R := R) (M := M) (N := N) (by omega) (by omega) (by omega); omega) | (have hV := oqV_3 (g := g) (p := 11) (q := 19) (w := oqBh g a b) (by omega) (by assumption) (by assumption) (by omega); have hB := oqB_r (g := g) (a := a) (b := b) (R := R) (M := M) (N := N) (by omega) (by omega); omega), fun h => by exfalso; omega, (oqKd_fr fu113 rfl (oqKd_fr fu105 rfl pu100_4))⟩⟩
                          · skip
                            replace pu113_1 := pu113_1 (by omega)
                            replace pu113_2 := pu113_2 (by omega)
                            replace pu113_3 := pu113_3 (by omega)
                            clear pu113_4
                            have hgX : g (oqSk g ((u113).1 30 2).toInt) = g ((u113).1 30 2).toInt := by rw [show oqSk g ((u113).1 30 2).toInt = ((u113).1 30 2).toInt by omega]
                            refine r_aload_n C (j := 0) (oDec_at oX5_bookStatement 89 rfl) rfl rfl ?_
                            refine r_bipush C (oDec_at oX5_bookStatement 90 rfl) (v := k59) (by rw [qk59]; rfl) ?_
                            refine r_callVi C oCl5 rfl miX5_expectSign mlX5_88 (ct4_X5_expectSign l E (u113) k59 (g) (((u113).1 30 2).toInt) (59) (by omega) (oqX_fr fu113 rfl (oqX_fr fu105 rfl (oqX_fr fu100 rfl (oqX_fr (oFr_oneI (q := 5) (m := 7) rfl (by rfl)) rfl (oqX_fr (oFr_oneI (q := 5) (m := 6) rfl (by rfl)) rfl (oqX_fr fu87 rfl (oqX_fr fu1 rfl hp2))))))) (by omega) (by omega)) (by decide) rfl rfl rfl (Nat.le_of_ble_eq_true rfl) (oDec_at oX5_bookStatement 91 rfl) (fun r117 u116 pu116 fu116 => ?_)
                            try dsimp only at pu116
                            obtain ⟨pu116_0, pu116_1, pu116_2⟩ := pu116
                            have rr117 := n_rng r117
                            refine r_if_ne C 184 (oDec_at oX5_bookStatement 92 rfl) (by decide) (fun cd118 => ?_) (fun cd118 => ?_)
                            · skip
                              replace pu116_1 := pu116_1 (by omega)
                              clear pu116_2
                              refine r_aload_n C (j := 0) (oDec_at oX5_bookStatement 95 rfl) rfl rfl ?_
                              refine r_getK (k := 1) (b := b83) C oCl5 rfl (by decide) flX5_19 rfl rfl (((fu116 30 1 rfl).2.2).trans (((fu113 30 1 rfl).2.2).trans (((fu105 30 1 rfl).2.2).trans (((fu100 30 1 rfl).2.2).trans ((show ((pI (pI u87 30 6 k19) 30 7 k24)).2.2 30 1 = b83 + 1 from (show ((pI u87 30 6 k19)).2.2 30 1 = b83 + 1 from ((fu87 30 1 rfl).2.2).trans (rb83)))))))) (oDec_at oX5_bookStatement 96 rfl) ?_
                              refine r_iload_n C (j := 1) (oDec_at oX5_bookStatement 97 rfl) rfl rfl ?_
                              refine r_iconst C (oDec_at oX5_bookStatement 98 rfl) (v := k5) (by rw [qk5]; rfl) ?_
                              refine r_icmp_ne C 197 (oDec_at oX5_bookStatement 99 rfl) (by decide) (fun cd120 => ?_) (fun cd120 => ?_)
                              · omega
                              · skip
                                refine r_iconst C (oDec_at oX5_bookStatement 100 rfl) (v := k1) (by rw [qk1]; rfl) ?_
                                refine r_goto C (tgt := 198) (oDec_at oX5_bookStatement 101 rfl) (by decide) ?_
                                refine r_iload_n C (j := 2) (oDec_at oX5_bookStatement 103 rfl) rfl rfl ?_
                                have hkn := oqKd_ne (oqKd_fr fu116 rfl (oqKd_fr fu113 rfl (oqKd_fr fu105 rfl pu100_4))) (((fu116 30 1 rfl).2.2).trans (((fu113 30 1 rfl).2.2).trans (((fu105 30 1 rfl).2.2).trans (((fu100 30 1 rfl).2.2).trans ((show ((pI (pI u87 30 6 k19) 30 7 k24)).2.2 30 1 = b83 + 1 from (show ((pI u87 30 6 k19)).2.2 30 1 = b83 + 1 from ((fu87 30 1 rfl).2.2).trans (rb83))))))))
                                have lk121 : ((u116).1 b83 8).toInt = v84.toInt := congrArg Int32.toInt (((fu116 b83 8 (by rw [hkb83]; rfl)).1).trans (((fu113 b83 8 (by rw [hkb83]; rfl)).1).trans (((fu105 b83 8 (by rw [hkb83]; rfl)).1).trans (((fu100 b83 8 (by rw [hkb83]; rfl)).1).trans (((pI_ne _ _ (Or.inl (okd_ne hkb83 rfl (by decide))))).trans (((pI_ne _ _ (Or.inl (okd_ne hkb83 rfl (by decide))))).trans (((fu87 b83 8 (by rw [hkb83]; rfl)).1).trans (ev84))))))))
                                have lk122 : ((u116).1 b83 7).toInt = (s.1 b83 7).toInt := congrArg Int32.toInt (((fu116 b83 7 (by rw [hkb83]; rfl)).1).trans (((fu113 b83 7 (by rw [hkb83]; rfl)).1).trans (((fu105 b83 7 (by rw [hkb83]; rfl)).1).trans (((fu100 b83 7 (by rw [hkb83]; rfl)).1).trans (((pI_ne _ _ (Or.inl (okd_ne hkb83 rfl (by decide))))).trans (((pI_ne _ _ (Or.inl (okd_ne hkb83 rfl (by decide))))).trans (((fu87 b83 7 (by rw [hkb83]; rfl)).1).trans ((fu1 b83 7 (by rw [hkb83]; rfl)).1))))))))
                                have lk123 : ((u116).1 b83 8).toInt = v84.toInt := congrArg Int32.toInt (((fu116 b83 8 (by rw [hkb83]; rfl)).1).trans (((fu113 b83 8 (by rw [hkb83]; rfl)).1).trans (((fu105 b83 8 (by rw [hkb83]; rfl)).1).trans (((fu100 b83 8 (by rw [hkb83]; rfl)).1).trans (((pI_ne _ _ (Or.inl (okd_ne hkb83 rfl (by decide))))).trans (((pI_ne _ _ (Or.inl (okd_ne hkb83 rfl (by decide))))).trans (((fu87 b83 8 (by rw [hkb83]; rfl)).1).trans (ev84))))))))
                                have lk124 : ((u116).1 b83 7).toInt = (s.1 b83 7).toInt := congrArg Int32.toInt (((fu116 b83 7 (by rw [hkb83]; rfl)).1).trans (((fu113 b83 7 (by rw [hkb83]; rfl)).1).trans (((fu105 b83 7 (by rw [hkb83]; rfl)).1).trans (((fu100 b83 7 (by rw [hkb83]; rfl)).1).trans (((pI_ne _ _ (Or.inl (okd_ne hkb83 rfl (by decide))))).trans (((pI_ne _ _ (Or.inl (okd_ne hkb83 rfl (by decide))))).trans (((fu87 b83 7 (by rw [hkb83]; rfl)).1).trans ((fu1 b83 7 (by rw [hkb83]; rfl)).1))))))))
                                refine r_callVv C oCl0 hkb83 miX0_close mlX5_121 (ct8_X0_close l E (u116) b83 hkb83 k1 v91 (d) (V) (L) (by omega) (by omega) (by omega) (by omega) (by omega) (oqKd_fr fu116 rfl (oqKd_fr fu113 rfl (oqKd_fr fu105 rfl pu100_4)))) (by decide) rfl rfl rfl (Nat.le_of_ble_eq_true rfl) (oDec_at oX5_bookStatement 104 rfl) (fun u125 pu125 fu125 => ?_)
                                try dsimp only at pu125
                                try simp only [lk121, lk122, lk123, lk124] at pu125
                                obtain ⟨pu125_0, pu125_1, pu125_2⟩ := pu125
                                refine r_iconst C (oDec_at oX5_bookStatement 105 rfl) (v := k1) (by rw [qk1]; rfl) ?_
                                have lk127 : ((u125).1 30 2).toInt = (u116.1 30 2).toInt := congrArg Int32.toInt ((fu125 30 2 rfl).1)
                                have lk128 : ((u125).1 30 3).toInt = (u113.1 30 3).toInt := congrArg Int32.toInt (((fu125 30 3 rfl).1).trans ((fu116 30 3 rfl).1))
                                have lk129 : ((u125).1 30 5).toInt = (u113.1 30 5).toInt := congrArg Int32.toInt (((fu125 30 5 rfl).1).trans ((fu116 30 5 rfl).1))
                                have lk130 : ((u125).1 30 8).toInt = (u116.1 30 8).toInt := congrArg Int32.toInt ((fu125 30 8 rfl).1)
                                have lk131 : ((u125).1 30 9).toInt = (u116.1 30 9).toInt := congrArg Int32.toInt ((fu125 30 9 rfl).1)
                                have lk132 : ((u125).1 30 8).toInt = (u116.1 30 8).toInt := congrArg Int32.toInt ((fu125 30 8 rfl).1)
                                have lk133 : ((u125).1 30 9).toInt = (u116.1 30 9).toInt := congrArg Int32.toInt ((fu125 30 9 rfl).1)
                                exact r_zret C (n_bool (by omega)) (oDec_at oX5_bookStatement 106 rfl) ⟨_, rfl, ⟨by omega, by first | (have hV := oqV_0 (g := g) (p := 19) (q := 24) (w := oqBn g a b) (by omega) pu113_1 pu113_2 (by omega); have hB := oqB_o (g := g) (a := a) (b := b) (R := R) (M := M) (N := N) (by omega) (by omega) (by omega); omega) | (have hV := oqV_0 (g := g) (p := 11) (q := 19) (w := oqBh g a b) (by omega) pu113_1 pu113_2 (by omega); have hB := oqB_r (g := g) (a := a) (b := b) (R := R) (M := M) (N := N) (by omega) (by omega); omega), fun h => by exfalso; omega, by first | (intro h; have hb := oqBs_4 (g := g) (a := a) (b := b) (R := R) (M := M) (N := N) (by omega); rw [hb.1, hb.2.1, hb.2.2]; exact oqNl_cl (by assumption) (((fu125 30 1 rfl).2.2).trans (((fu116 30 1 rfl).2.2).trans (((fu113 30 1 rfl).2.2).trans (((fu105 30 1 rfl).2.2).trans (((fu100 30 1 rfl).2.2).trans ((show ((pI (pI u87 30 6 k19) 30 7 k24)).2.2 30 1 = b83 + 1 from (show ((pI u87 30 6 k19)).2.2 30 1 = b83 + 1 from ((fu87 30 1 rfl).2.2).trans (rb83))))))))) fu125 rfl (by omega) (by omega) (by omega) rfl) | (intro h; have hb := oqBs_5 (g := g) (a := a) (b := b) (R := R) (M := M) (N := N) (by omega); rw [hb.1, hb.2.1, hb.2.2]; exact oqNl_cl (oqNl_fr fu116 rfl (oqNl_fr fu113 rfl (oqNl_fr fu105 rfl hq104))) (((fu125 30 1 rfl).2.2).trans (((fu116 30 1 rfl).2.2).trans (((fu113 30 1 rfl).2.2).trans (((fu105 30 1 rfl).2.2).trans (((fu100 30 1 rfl).2.2).trans ((show ((pI (pI u87 30 6 k19) 30 7 k24)).2.2 30 1 = b83 + 1 from (show ((pI u87 30 6 k19)).2.2 30 1 = b83 + 1 from ((fu87 30 1 rfl).2.2).trans (rb83))))))))) fu125 rfl (by omega) (by omega) (by omega) rfl), pu125_2⟩⟩
                            · skip
                              clear pu116_1
                              replace pu116_2 := pu116_2 (by omega)
                              refine r_iconst C (oDec_at oX5_bookStatement 93 rfl) (v := k0) (by rw [qk0]; rfl) ?_
                              have lk134 : ((u116).1 30 3).toInt = (u113.1 30 3).toInt := congrArg Int32.toInt ((fu116 30 3 rfl).1)
                              have lk135 : ((u116).1 30 5).toInt = (u113.1 30 5).toInt := congrArg Int32.toInt ((fu116 30 5 rfl).1)
                              exact r_zret C (n_bool (by omega)) (oDec_at oX5_bookStatement 94 rfl) ⟨_, rfl, ⟨by omega, by omega, by first | (have hB := oqB_on (g := g) (a := a) (b := b) (R := R) (M := M) (N := N) (by omega) (by omega) (by omega); omega) | (have hV := oqV_1 (g := g) (p := 19) (q := 24) (w := oqBn g a b) (by omega); have hB := oqB_o (g := g) (a := a) (b := b) (R := R) (M := M) (N := N) (by omega) (by omega) (by omega); omega) | (have hV := oqV_1 (g := g) (p := 11) (q := 19) (w := oqBh g a b) (by omega); have hB := oqB_r (g := g) (a := a) (b := b) (R := R) (M := M) (N := N) (by omega) (by omega); omega) | (have hV := oqV_2 (g := g) (p := 19) (q := 24) (w := oqBn g a b) (by omega) pu116_4; have hk0 := oqFn_k pu116_4; have hB := oqB_o (g := g) (a := a) (b := b) (R := R) (M := M) (N := N) (by omega) (by omega) (by omega); omega) | (have hV := oqV_2 (g := g) (p := 11) (q := 19) (w := oqBh g a b) (by omega) pu116_4; have hk0 := oqFn_k pu116_4; have hB := oqB_r (g := g) (a := a) (b := b) (R := R) (M := M) (N := N) (by omega) (by omega); omega) | (have hV := oqV_3 (g := g) (p := 19) (q := 24) (w := oqBn g a b) (by omega) pu113_1 pu113_2 (by omega); have hB := oqB_o (g := g) (a := a) (b := b) (R := R) (M := M) (N := N) (by omega) (by omega) (by omega); omega) | (have hV := oqV_3 (g := g) (p := 11) (q := 19) (w := oqBh g a b) (by omega) pu113_1 pu113_2 (by omega); have hB := oqB_r (g := g) (a := a) (b := b) (R := R) (M := M) (N := N) (by omega) (by omega); omega), fun h => by exfalso; omega, (oqKd_fr fu116 rfl (oqKd_fr fu113 rfl (oqKd_fr fu105 rfl pu100_4)))⟩⟩
              · omega
            · skip
              have hB : (oqBk g a b R M N = 5 ∧ oqBp g a b R M N = oqSk g a) := by first | exact oqB_r5 (by omega) (by omega) | exact oqB_o5 (by omega) (by omega)
              refine r_aload_n C (j := 0) (oDec_at oX5_bookStatement 34 rfl) rfl rfl ?_
              refine r_iconst C (oDec_at oX5_bookStatement 35 rfl) (v := k5) (by rw [qk5]; rfl) ?_
              refine r_aload_n C (j := 0) (oDec_at oX5_bookStatement 36 rfl) rfl rfl ?_
              obtain ⟨v136, ev136⟩ : ∃ z : Int32, (u1).1 30 2 = z := ⟨_, rfl⟩
              have gv136 : (u1.1 30 2).toInt = v136.toInt := congrArg Int32.toInt (ev136)
              refine r_geti (k := 2) (lo := 0) (hi := 1600) C v136 oCl5 rfl (by decide) flX5_23 rfl rfl (ev136) rfl rfl (oDec_at oX5_bookStatement 37 rfl) (fun b137 b137h => ?_)
              refine r_callVi C oCl5 rfl miX5_fail mlX5_62 (ct4_X5_fail l E (u1) k5 v136 ) (by decide) rfl rfl rfl (Nat.le_of_ble_eq_true rfl) (oDec_at oX5_bookStatement 38 rfl) (fun r139 u138 pu138 fu138 => ?_)
              try dsimp only at pu138
              obtain ⟨pu138_0, pu138_1, pu138_2, pu138_3⟩ := pu138
              have rr139 := n_rng r139
              have lk140 : ((u138).1 30 2).toInt = v136.toInt := congrArg Int32.toInt (((fu138 30 2 rfl).1).trans (ev136))
              have lk141 : ((u138).1 30 3).toInt = (s.1 30 3).toInt := congrArg Int32.toInt (((fu138 30 3 rfl).1).trans ((fu1 30 3 rfl).1))
              have lk142 : ((u138).1 30 5).toInt = (s.1 30 5).toInt := congrArg Int32.toInt (((fu138 30 5 rfl).1).trans ((fu1 30 5 rfl).1))
              exact r_zret C (n_bool (by omega)) (oDec_at oX5_bookStatement 39 rfl) ⟨_, rfl, ⟨by omega, by omega, by omega, fun h => by exfalso; omega, (oqKd_fr fu138 rfl (oqKd_fr fu1 rfl hp6))⟩⟩
        · omega
      · skip
        have hB := oqB_w (g := g) (a := a) (b := b) (R := R) (M := M) (N := N) ⟨by omega, by omega, by omega⟩
        refine r_aload_n C (j := 0) (oDec_at oX5_bookStatement 12 rfl) rfl rfl ?_
        refine r_iconst C (oDec_at oX5_bookStatement 13 rfl) (v := k1) (by rw [qk1]; rfl) ?_
        refine r_aload_n C (j := 0) (oDec_at oX5_bookStatement 14 rfl) rfl rfl ?_
        obtain ⟨v143, ev143⟩ : ∃ z : Int32, (u1).1 30 2 = z := ⟨_, rfl⟩
        have gv143 : (u1.1 30 2).toInt = v143.toInt := congrArg Int32.toInt (ev143)
        refine r_geti (k := 2) (lo := 0) (hi := 1600) C v143 oCl5 rfl (by decide) flX5_23 rfl rfl (ev143) rfl rfl (oDec_at oX5_bookStatement 15 rfl) (fun b144 b144h => ?_)
        refine r_callVi C oCl5 rfl miX5_fail mlX5_62 (ct4_X5_fail l E (u1) k1 v143 ) (by decide) rfl rfl rfl (Nat.le_of_ble_eq_true rfl) (oDec_at oX5_bookStatement 16 rfl) (fun r146 u145 pu145 fu145 => ?_)
        try dsimp only at pu145
        obtain ⟨pu145_0, pu145_1, pu145_2, pu145_3⟩ := pu145
        have rr146 := n_rng r146
        have lk147 : ((u145).1 30 2).toInt = v143.toInt := congrArg Int32.toInt (((fu145 30 2 rfl).1).trans (ev143))
        have lk148 : ((u145).1 30 3).toInt = (s.1 30 3).toInt := congrArg Int32.toInt (((fu145 30 3 rfl).1).trans ((fu1 30 3 rfl).1))
        have lk149 : ((u145).1 30 5).toInt = (s.1 30 5).toInt := congrArg Int32.toInt (((fu145 30 5 rfl).1).trans ((fu1 30 5 rfl).1))
        exact r_zret C (n_bool (by omega)) (oDec_at oX5_bookStatement 17 rfl) ⟨_, rfl, ⟨by omega, by omega, by omega, fun h => by exfalso; omega, (oqKd_fr fu145 rfl (oqKd_fr fu1 rfl hp6))⟩⟩
set_option maxHeartbeats 4000000 in
set_option maxRecDepth 100000 in
theorem ct8_X5_readBook (l : Launch) (E : oE) (s : oS) (c1 : Nat) (hk1 : okd c1 = 0) (g : Int → Int) (d : Nat) (V : Int) (L : Nat → Int32) (hp0 : oqX g s) (hp1 : c1 ≠ d) (hp2 : oqK0 d V L s) : oMet l 76 yX5_readBook cX5_readBook 3 (some .int) [(0, 1), (0, 6), (0, 7), (0, 8), (5, 1), (5, 2), (5, 3), (5, 4), (5, 5), (5, 6), (5, 7), (5, 8), (5, 9), (20, 9999), (21, 9999), (22, 9999), (23, 9999)] E s [.ref (oad E 30), .ref (oad E c1)] (oPi (fun r u => (r.toInt = oqB1 g) ∧ ((u.1 30 8).toInt = oqB2 g) ∧ ((u.1 30 9).toInt = oqB3 g) ∧ (r.toInt ≠ -1 → oqNl (oqB6 g) (oqB4 g) (oqB5 g) (oqB5 g) u) ∧ (oqKd d V L u) ∧ (oqRB c1 u))) := by
  refine oMet.of (lv := [(0, .ref (oad E 30)), (1, .ref (oad E c1))]) (by decide +kernel) (Nat.le_of_ble_eq_true rfl) rfl (fun J C hT => ?_)
  have C : oC l 76 cX5_readBook RX5 3 (some .int) [(0, 1), (0, 6), (0, 7), (0, 8), (5, 1), (5, 2), (5, 3), (5, 4), (5, 5), (5, 6), (5, 7), (5, 8), (5, 9), (20, 9999), (21, 9999), (22, 9999), (23, 9999)] E s (oPi (fun r u => (r.toInt = oqB1 g) ∧ ((u.1 30 8).toInt = oqB2 g) ∧ ((u.1 30 9).toInt = oqB3 g) ∧ (r.toInt ≠ -1 → oqNl (oqB6 g) (oqB4 g) (oqB5 g) (oqB5 g) u) ∧ (oqKd d V L u) ∧ (oqRB c1 u))) J := C
  obtain ⟨km1, qkm1⟩ : ∃ z : Int32, z = (-1) := ⟨_, rfl⟩
  have ekm1 : km1.toInt = (-1) := by rw [qkm1]; rfl
  obtain ⟨k0, qk0⟩ : ∃ z : Int32, z = 0 := ⟨_, rfl⟩
  have ek0 : k0.toInt = 0 := by rw [qk0]; rfl
  obtain ⟨k60, qk60⟩ : ∃ z : Int32, z = 60 := ⟨_, rfl⟩
  have ek60 : k60.toInt = 60 := by rw [qk60]; rfl
  have key : ∀ n : Nat, (∀ (t : oS) (x2 : Int32), (oqX g t) → (oqCS g x2.toInt t) → (0 ≤ x2.toInt ∧ x2.toInt ≤ 60) → ((t.1 30 8).toInt = 0 ∧ (t.1 30 9).toInt = -1) → ((t.1 30 5).toInt = 0 ∧ (t.1 30 2).toInt = (t.1 30 2).toInt ∧ (t.1 30 3).toInt = (t.1 30 3).toInt) → (oqKd d V L t) → (oqRB c1 t) → 61 - x2.toInt ≤ (n : Int) → J t 18 [(0, .ref (oad E 30)), (2, .int x2)] []) := by
    intro n
    induction n using Nat.strongRecOn with
    | _ n ih =>
      skip
      · intro t x2  iv0 iv1 iv2 iv3 iv4 iv5 iv6 hmu
        have rx2 := n_rng x2
        refine r_iload_n C (j := 1) (oDec_at oX5_readBook 10 rfl) rfl rfl ?_
        refine r_bipush C (oDec_at oX5_readBook 11 rfl) (v := k60) (by rw [qk60]; rfl) ?_
        refine r_icmp_ge C 49 (oDec_at oX5_readBook 12 rfl) (by decide) (fun cd1 => ?_) (fun cd1 => ?_)
        · skip
          refine r_aload_n C (j := 0) (oDec_at oX5_readBook 26 rfl) rfl rfl ?_
          obtain ⟨R, M, N, hNl, hBu, hRM⟩ := iv1
          refine r_bipush C (oDec_at oX5_readBook 27 rfl) (v := k60) (by rw [qk60]; rfl) ?_
          refine r_callVi C oCl5 rfl miX5_closing mlX5_51 (ct4_X5_closing l E (t) k60 (g) ((t.1 30 2).toInt) (by omega) iv0) (by decide) rfl rfl rfl (Nat.le_of_ble_eq_true rfl) (oDec_at oX5_readBook 28 rfl) (fun r3 u2 pu2 fu2 => ?_)
          try dsimp only at pu2
          have rr3 := n_rng r3
          have hR : (oqB1 g = r3.toInt ∧ oqB2 g = ((u2).1 30 8).toInt ∧ oqB3 g = ((u2).1 30 9).toInt) := by (rcases pu2 with h8 | h8; (have h9 := oqBu_end hBu (by omega); omega); (have h9 := oqBu_5 hBu (by omega) (by omega); omega))
          exact r_iret C (oDec_at oX5_readBook 29 rfl) ⟨_, rfl, ⟨by omega, by omega, by omega, fun h => by (have h9 := oqBu_end hBu (by omega); exact oqCS_fin (oqNl_fr fu2 rfl hNl) h9.2.2.2.1 h9.2.2.2.2.1 h9.2.2.2.2.2), (oqKd_fr fu2 rfl iv5), (oqRB_fr fu2 rfl iv6)⟩⟩
        · skip
          obtain ⟨R, M, N, hNl, hBu, hRM⟩ := iv1
          refine r_aload_n C (j := 0) (oDec_at oX5_readBook 13 rfl) rfl rfl ?_
          refine r_callVi C oCl5 rfl miX5_peek mlX5_43 (ct4_X5_peek l E (t)  (g) ((t.1 30 2).toInt) (by omega) iv0) (by decide) rfl rfl rfl (Nat.le_of_ble_eq_true rfl) (oDec_at oX5_readBook 14 rfl) (fun r5 u4 pu4 fu4 => ?_)
          try dsimp only at pu4
          obtain ⟨pu4_0, pu4_1, pu4_2, pu4_3, pu4_4, pu4_5⟩ := pu4
          have rr5 := n_rng r5
          refine r_iconst C (oDec_at oX5_readBook 15 rfl) (v := km1) (by rw [qkm1]; rfl) ?_
          refine r_icmp_ne C 34 (oDec_at oX5_readBook 16 rfl) (by decide) (fun cd6 => ?_) (fun cd6 => ?_)
          · skip
            have hss := oqSk_sk (g := g) (a := (t.1 30 2).toInt) ⟨by omega, by omega⟩
            have hgs : g (oqSk g (oqSk g (t.1 30 2).toInt)) = g (oqSk g (t.1 30 2).toInt) := by rw [hss]
            have hq7 : oqNl N R M M (u4) := oqNl_fr fu4 rfl hNl
            refine r_aload_n C (j := 0) (oDec_at oX5_readBook 19 rfl) rfl rfl ?_
            have lk8 : ((u4).1 30 3).toInt = (t.1 30 3).toInt := congrArg Int32.toInt ((fu4 30 3 rfl).1)
            have lk9 : ((u4).1 30 5).toInt = (t.1 30 5).toInt := congrArg Int32.toInt ((fu4 30 5 rfl).1)
            have lk10 : ((u4).1 30 8).toInt = (t.1 30 8).toInt := congrArg Int32.toInt ((fu4 30 8 rfl).1)
            have lk11 : ((u4).1 30 9).toInt = (t.1 30 9).toInt := congrArg Int32.toInt ((fu4 30 9 rfl).1)
            refine r_callVi C oCl5 rfl miX5_bookStatement mlX5_58 (ct8_X5_bookStatement l E (u4)  (g) (oqSk g (t.1 30 2).toInt) ((t.1 30 3).toInt) (N) (R) (M) (d) (V) (L) (by omega) (by omega) (oqX_fr fu4 rfl iv0) hq7 (by omega) (by omega) (oqKd_fr fu4 rfl iv5)) (by decide) rfl rfl rfl (Nat.le_of_ble_eq_true rfl) (oDec_at oX5_readBook 20 rfl) (fun r13 u12 pu12 fu12 => ?_)
            try dsimp only at pu12
            try simp only [lk8, lk9, lk10, lk11] at pu12
            obtain ⟨pu12_0, pu12_1, pu12_2, pu12_3, pu12_4⟩ := pu12
            have rr13 := n_rng r13
            refine r_if_ne C 43 (oDec_at oX5_readBook 21 rfl) (by decide) (fun cd14 => ?_) (fun cd14 => ?_)
            · skip
              replace pu12_1 := pu12_1 (by omega)
              clear pu12_2
              replace pu12_3 := pu12_3 (by omega)
              obtain ⟨v15, ev15⟩ : ∃ z : Int32, x2 + Int32.ofInt 1 = z := ⟨_, rfl⟩
              have hv15 : v15.toInt = x2.toInt + 1 := n_inc ev15 (by decide) (by omega) (by omega)
              refine r_iinc C (j := 1) (lv' := [(0, .ref (oad E 30)), (2, .int v15)]) v15 [1, 0] (oDec_at oX5_readBook 24 rfl) rfl ev15 (by decide) rfl ?_
              refine r_goto C (tgt := 18) (oDec_at oX5_readBook 25 rfl) (by decide) ?_
              exact (ih (n - 1) (by omega)) (u12) v15  (oqX_fr fu12 rfl (oqX_fr fu4 rfl iv0)) (by first | exact oqCS_nx hBu (by omega) (by omega) (by omega) hRM pu12_3 (by omega) (by omega) (by omega) | exact oqCS_0 (by assumption) hk1 (by omega) (by omega) (by omega) (by omega) (by omega)) (by omega) (by omega) (by omega) pu12_4 (oqRB_fr fu12 rfl (oqRB_fr fu4 rfl iv6)) (by omega)
            · skip
              clear pu12_1
              replace pu12_2 := pu12_2 (by omega)
              clear pu12_3
              have hR := oqBu_bad hBu (by omega) (by omega) (by omega)
              refine r_iconst C (oDec_at oX5_readBook 22 rfl) (v := km1) (by rw [qkm1]; rfl) ?_
              exact r_iret C (oDec_at oX5_readBook 23 rfl) ⟨_, rfl, ⟨by omega, by omega, by omega, fun h => by exfalso; omega, pu12_4, (oqRB_fr fu12 rfl (oqRB_fr fu4 rfl iv6))⟩⟩
          · skip
            have hR := oqBu_end hBu (by omega)
            refine r_iload_n C (j := 1) (oDec_at oX5_readBook 17 rfl) rfl rfl ?_
            have lk16 : ((u4).1 30 8).toInt = (t.1 30 8).toInt := congrArg Int32.toInt ((fu4 30 8 rfl).1)
            have lk17 : ((u4).1 30 9).toInt = (t.1 30 9).toInt := congrArg Int32.toInt ((fu4 30 9 rfl).1)
            exact r_iret C (oDec_at oX5_readBook 18 rfl) ⟨_, rfl, ⟨by omega, by omega, by omega, fun _ => oqCS_fin (oqNl_fr fu4 rfl hNl) hR.2.2.2.1 hR.2.2.2.2.1 hR.2.2.2.2.2, (oqKd_fr fu4 rfl iv5), (oqRB_fr fu4 rfl iv6)⟩⟩
  refine r_aload_n C (j := 0) (oDec_at oX5_readBook 0 rfl) rfl rfl ?_
  refine r_callVv C oCl5 rfl miX5_begin mlX5_35 (ct5_X5_begin l E (s)  ) (by decide) rfl rfl rfl (Nat.le_of_ble_eq_true rfl) (oDec_at oX5_readBook 1 rfl) (fun u18 pu18 fu18 => ?_)
  try dsimp only at pu18
  obtain ⟨pu18_0, pu18_1, pu18_2, pu18_3, pu18_4⟩ := pu18
  refine r_aload_n C (j := 0) (oDec_at oX5_readBook 2 rfl) rfl rfl ?_
  refine r_aload_n C (j := 1) (oDec_at oX5_readBook 3 rfl) rfl rfl ?_
  refine r_putr (k := 1) C oCl5 rfl (by decide) flX5_19 rfl rfl rfl rfl rfl rfl (oRok_S (q := 5) (k := 1) (j := 1) rfl rfl (kin1 hk1)) (oDec_at oX5_readBook 4 rfl) ?_
  have hq20 : oqKd d V L ((pR u18 30 1 (c1 + 1))) := oqKd_mk (oqK0_fr fu18 rfl hp2) (by assumption)
  have hq21 : oqRB c1 ((pR u18 30 1 (c1 + 1))) := pR_self _ _ _ _
  refine r_aload_n C (j := 0) (oDec_at oX5_readBook 5 rfl) rfl rfl ?_
  refine r_pc C 10 rfl ?_
  refine r_getK (k := 1) (b := c1) C oCl5 rfl (by decide) flX5_19 rfl rfl ((pR_self _ _ _ _)) (oDec_at oX5_readBook 6 rfl) ?_
  refine r_callVv C oCl0 hk1 miX0_clear mlX5_55 (ct8_X0_clear l E ((pR u18 30 1 (c1 + 1))) c1 hk1 (d) (V) (L) (by omega) hq20) (by decide) rfl rfl rfl (Nat.le_of_ble_eq_true rfl) (oDec_at oX5_readBook 7 rfl) (fun u23 pu23 fu23 => ?_)
  try dsimp only at pu23
  obtain ⟨pu23_0, pu23_1, pu23_2⟩ := pu23
  refine r_iconst C (oDec_at oX5_readBook 8 rfl) (v := k0) (by rw [qk0]; rfl) ?_
  refine r_istore_n C (lv' := [(0, .ref (oad E 30)), (1, .ref (oad E c1)), (2, .int k0)]) [1, 2, 0] (oDec_at oX5_readBook 9 rfl) rfl (by decide) rfl ?_
  have lk25 : ((u23).1 30 8).toInt = (u18.1 30 8).toInt := congrArg Int32.toInt (((fu23 30 8 rfl).1).trans ((show ((pR u18 30 1 (c1 + 1))).1 30 8 = u18.1 30 8 from rfl)))
  have lk26 : ((u23).1 30 9).toInt = (u18.1 30 9).toInt := congrArg Int32.toInt (((fu23 30 9 rfl).1).trans ((show ((pR u18 30 1 (c1 + 1))).1 30 9 = u18.1 30 9 from rfl)))
  have lk27 : ((u23).1 30 5).toInt = (u18.1 30 5).toInt := congrArg Int32.toInt (((fu23 30 5 rfl).1).trans ((show ((pR u18 30 1 (c1 + 1))).1 30 5 = u18.1 30 5 from rfl)))
  have lk28 : ((u23).1 30 2).toInt = (u18.1 30 2).toInt := congrArg Int32.toInt (((fu23 30 2 rfl).1).trans ((show ((pR u18 30 1 (c1 + 1))).1 30 2 = u18.1 30 2 from rfl)))
  have lk29 : ((u23).1 30 3).toInt = (u18.1 30 3).toInt := congrArg Int32.toInt (((fu23 30 3 rfl).1).trans ((show ((pR u18 30 1 (c1 + 1))).1 30 3 = u18.1 30 3 from rfl)))
  refine r_pick C [0, 2] rfl ?_
  exact (key (61 - k0.toInt).toNat) (u23) k0  (oqX_fr fu23 rfl (oqX_fr (oFr_oneR (q := 5) (m := 1) rfl (by rfl)) rfl (oqX_fr fu18 rfl hp0))) (by first | exact oqCS_nx hBu (by omega) (by omega) (by omega) hRM pu23_3 (by omega) (by omega) (by omega) | exact oqCS_0 (((fu23 30 1 rfl).2.2).trans ((pR_self _ _ _ _))) hk1 (by omega) (by omega) (by omega) (by omega) (by omega)) (by omega) (by omega) (by omega) pu23_2 (oqRB_fr fu23 rfl hq21) (by omega)
set_option maxHeartbeats 4000000 in
set_option maxRecDepth 100000 in
theorem ct8_X11_book (l : Launch) (E : oE) (s : oS)  (g : Int → Int) (M : Int) (N : Nat → Nat → Int) (hp0 : oqX g s) (hp1 : oqNC M N s) : oMet l 77 yX11_book cX11_book 3 (some .int) [(0, 1), (0, 6), (0, 7), (0, 8), (2, 3), (3, 0), (5, 1), (5, 2), (5, 3), (5, 4), (5, 5), (5, 6), (5, 7), (5, 8), (5, 9), (7, 0), (8, 1), (10, 3), (11, 4), (11, 5), (11, 17), (20, 9999), (21, 9999), (22, 9999), (23, 9999), (25, 9999)] E s [.ref (oad E 0)] (oPi (fun r u => ((u.1 1 1).toInt = 0) ∧ (r.toInt = oqB1 g) ∧ ((u.1 30 8).toInt = oqB2 g) ∧ ((u.1 30 9).toInt = oqB3 g) ∧ (oqNC (oqMb g M) (oqNb g N) u))) := by
  refine oMet.of (lv := [(0, .ref (oad E 0))]) (by decide +kernel) (Nat.le_of_ble_eq_true rfl) rfl (fun J C hT => ?_)
  have C : oC l 77 cX11_book RX11 3 (some .int) [(0, 1), (0, 6), (0, 7), (0, 8), (2, 3), (3, 0), (5, 1), (5, 2), (5, 3), (5, 4), (5, 5), (5, 6), (5, 7), (5, 8), (5, 9), (7, 0), (8, 1), (10, 3), (11, 4), (11, 5), (11, 17), (20, 9999), (21, 9999), (22, 9999), (23, 9999), (25, 9999)] E s (oPi (fun r u => ((u.1 1 1).toInt = 0) ∧ (r.toInt = oqB1 g) ∧ ((u.1 30 8).toInt = oqB2 g) ∧ ((u.1 30 9).toInt = oqB3 g) ∧ (oqNC (oqMb g M) (oqNb g N) u))) J := C
  obtain ⟨km1, qkm1⟩ : ∃ z : Int32, z = (-1) := ⟨_, rfl⟩
  have ekm1 : km1.toInt = (-1) := by rw [qkm1]; rfl
  obtain ⟨k0, qk0⟩ : ∃ z : Int32, z = 0 := ⟨_, rfl⟩
  have ek0 : k0.toInt = 0 := by rw [qk0]; rfl
  obtain ⟨cb, db, hBD, hM, hNN⟩ := id hp1
  obtain ⟨LB, hLB⟩ : ∃ z, z = s.1 (cb + 4) := ⟨_, rfl⟩
  rw [← hLB] at hNN
  refine r_aload_n C (j := 0) (oDec_at oX11_book 0 rfl) rfl rfl ?_
  refine r_getF (k := 6) (b := 30) C oCl11 rfl (by decide) flX11_44 rfl rfl rfl (oDec_at oX11_book 1 rfl) ?_
  refine r_aload_n C (j := 0) (oDec_at oX11_book 2 rfl) rfl rfl ?_
  refine r_getS (k := 5) (q2 := 0) C oCl11 rfl (by decide) flX11_36 rfl rfl rfl ks1 (oDec_at oX11_book 3 rfl) (fun b1 rb1 mb1 hkb1 => ?_)
  have hdr : b1 ≠ cb := (by have h1 := hBD.2.1; have h2 := hBD.2.2.2.2; have h3 := (rb1); omega)
  have hq2 : oqK0 cb M LB (s) := ⟨hBD.2.2.1, hM, hLB.symm⟩
  have hq3 : oqBD cb db (s) := hBD
  refine r_callVi C oCl5 rfl miX5_readBook mlX11_124 (ct8_X5_readBook l E (s) b1 hkb1 (g) (cb) (M) (LB) hp0 (by omega) hq2) (by decide) rfl rfl rfl (Nat.le_of_ble_eq_true rfl) (oDec_at oX11_book 4 rfl) (fun r5 u4 pu4 fu4 => ?_)
  try dsimp only at pu4
  obtain ⟨pu4_0, pu4_1, pu4_2, pu4_3, pu4_4, pu4_5⟩ := pu4
  have rr5 := n_rng r5
  refine r_istore_n C (lv' := [(0, .ref (oad E 0)), (1, .int r5)]) [1, 0] (oDec_at oX11_book 5 rfl) rfl (by decide) rfl ?_
  refine r_pc C 12 rfl ?_
  refine r_aload_n C (j := 0) (oDec_at oX11_book 6 rfl) rfl rfl ?_
  refine r_getF (k := 0) (b := 1) C oCl11 rfl (by decide) flX11_10 rfl rfl rfl (oDec_at oX11_book 7 rfl) ?_
  refine r_iconst C (oDec_at oX11_book 8 rfl) (v := k0) (by rw [qk0]; rfl) ?_
  refine r_ty C (fun hty => ?_)
  have ht17 : (0 : Int) ≤ ((u4).1 1 1).toInt ∧ ((u4).1 1 1).toInt ≤ 1600 := hty.1 1 1
  have lk6 : ((u4).1 1 1).toInt = (s.1 1 1).toInt := congrArg Int32.toInt ((fu4 1 1 rfl).1)
  refine r_callVi C oCl8 rfl miX8_cut mlX11_114 (ct_X8_cut l E (u4) k0 ) (by decide) rfl rfl rfl (Nat.le_of_ble_eq_true rfl) (oDec_at oX11_book 9 rfl) (fun r8 u7 pu7 fu7 => ?_)
  try dsimp only at pu7
  try simp only [lk6] at pu7
  obtain ⟨pu7_0, pu7_1⟩ := pu7
  have rr8 := n_rng r8
  refine r_pop C (oDec_at oX11_book 10 rfl) rfl ?_
  refine r_iload_n C (j := 1) (oDec_at oX11_book 11 rfl) rfl rfl ?_
  refine r_pc C 22 rfl ?_
  refine r_iconst C (oDec_at oX11_book 12 rfl) (v := km1) (by rw [qkm1]; rfl) ?_
  refine r_icmp_ne C 28 (oDec_at oX11_book 13 rfl) (by decide) (fun cd9 => ?_) (fun cd9 => ?_)
  · skip
    have hq10 : oqNl (oqB6 g) (oqB4 g) (oqB5 g) (oqB5 g) (u7) := oqNl_fr fu7 rfl (pu4_3 (by omega))
    refine r_aload_n C (j := 0) (oDec_at oX11_book 16 rfl) rfl rfl ?_
    refine r_getS (k := 4) (q2 := 0) C oCl11 rfl (by decide) flX11_32 rfl rfl rfl ks1 (oDec_at oX11_book 17 rfl) (fun b11 rb11 mb11 hkb11 => ?_)
    refine r_astore_n C (lv' := [(0, .ref (oad E 0)), (1, .int r5), (2, .ref (oad E b11))]) [1, 2, 0] (oDec_at oX11_book 18 rfl) rfl (by decide) rfl ?_
    refine r_aload_n C (j := 0) (oDec_at oX11_book 19 rfl) rfl rfl ?_
    refine r_aload_n C (j := 0) (oDec_at oX11_book 20 rfl) rfl rfl ?_
    refine r_getK (k := 5) (b := b1) C oCl11 rfl (by decide) flX11_36 rfl rfl (((fu7 0 5 rfl).2.2).trans (((fu4 0 5 rfl).2.2).trans (rb1))) (oDec_at oX11_book 21 rfl) ?_
    refine r_putr (k := 4) C oCl11 rfl (by decide) flX11_32 rfl rfl rfl rfl rfl rfl (oRok_S (q := 11) (k := 4) (j := 1) rfl rfl (kin1 hkb1)) (oDec_at oX11_book 22 rfl) ?_
    refine r_pc C 41 rfl ?_
    refine r_aload_n C (j := 0) (oDec_at oX11_book 23 rfl) rfl rfl ?_
    refine r_aload_n C (j := 2) (oDec_at oX11_book 24 rfl) rfl rfl ?_
    refine r_putr (k := 5) C oCl11 rfl (by decide) flX11_36 rfl rfl rfl rfl rfl rfl (oRok_S (q := 11) (k := 5) (j := 1) rfl rfl (kin1 hkb11)) (oDec_at oX11_book 25 rfl) ?_
    have hq13 : oqNC (oqMb g M) (oqNb g N) ((pR (pR u7 0 4 (b1 + 1)) 0 5 (b11 + 1))) := oqNC_sw (oqBD_fr fu7 rfl (oqBD_fr fu4 rfl hq3)) (rb11) (((fu7 0 5 rfl).2.2).trans (((fu4 0 5 rfl).2.2).trans (rb1))) hq10 (oqRB_fr fu7 rfl pu4_5) (by omega)
    refine r_aload_n C (j := 0) (oDec_at oX11_book 26 rfl) rfl rfl ?_
    refine r_getF (k := 7) (b := 31) C oCl11 rfl (by decide) flX11_53 rfl rfl rfl (oDec_at oX11_book 27 rfl) ?_
    refine r_aload_n C (j := 0) (oDec_at oX11_book 28 rfl) rfl rfl ?_
    refine r_pc C 51 rfl ?_
    refine r_getK (k := 4) (b := b1) C oCl11 rfl (by decide) flX11_32 rfl rfl (((pR_ne (a := 0) (b := 4) (c := 0) (k := 5) _ _ (Or.inr (by decide)))).trans ((pR_self _ _ _ _))) (oDec_at oX11_book 29 rfl) ?_
    refine r_callVv C oCl2 rfl miX2_follow mlX11_128 (ct_X2_follow l E ((pR (pR u7 0 4 (b1 + 1)) 0 5 (b11 + 1))) b1 hkb1 ) (by decide) rfl rfl rfl (Nat.le_of_ble_eq_true rfl) (oDec_at oX11_book 30 rfl) (fun u15 pu15 fu15 => ?_)
    try dsimp only at pu15
    refine r_aload_n C (j := 0) (oDec_at oX11_book 31 rfl) rfl rfl ?_
    refine r_callVv C oCl11 rfl miX11_forget mlX11_131 (ct_X11_forget l E (u15)  ) (by decide) rfl rfl rfl (Nat.le_of_ble_eq_true rfl) (oDec_at oX11_book 32 rfl) (fun u17 pu17 fu17 => ?_)
    try dsimp only at pu17
    refine r_iload_n C (j := 1) (oDec_at oX11_book 33 rfl) rfl rfl ?_
    have lk19 : ((u17).1 1 1).toInt = (u7.1 1 1).toInt := congrArg Int32.toInt (((fu17 1 1 rfl).1).trans (((fu15 1 1 rfl).1).trans ((show ((pR (pR u7 0 4 (b1 + 1)) 0 5 (b11 + 1))).1 1 1 = u7.1 1 1 from (show ((pR u7 0 4 (b1 + 1))).1 1 1 = u7.1 1 1 from rfl)))))
    have lk20 : ((u17).1 30 8).toInt = (u4.1 30 8).toInt := congrArg Int32.toInt (((fu17 30 8 rfl).1).trans (((fu15 30 8 rfl).1).trans ((show ((pR (pR u7 0 4 (b1 + 1)) 0 5 (b11 + 1))).1 30 8 = u4.1 30 8 from (show ((pR u7 0 4 (b1 + 1))).1 30 8 = u4.1 30 8 from (fu7 30 8 rfl).1)))))
    have lk21 : ((u17).1 30 9).toInt = (u4.1 30 9).toInt := congrArg Int32.toInt (((fu17 30 9 rfl).1).trans (((fu15 30 9 rfl).1).trans ((show ((pR (pR u7 0 4 (b1 + 1)) 0 5 (b11 + 1))).1 30 9 = u4.1 30 9 from (show ((pR u7 0 4 (b1 + 1))).1 30 9 = u4.1 30 9 from (fu7 30 9 rfl).1)))))
    exact r_iret C (oDec_at oX11_book 34 rfl) ⟨_, rfl, ⟨by omega, by omega, by omega, by omega, (oqNC_fr fu17 rfl (oqNC_fr fu15 rfl hq13))⟩⟩
  · skip
    have hq22 : oqNC (oqMb g M) (oqNb g N) (u7) := oqNC_no (oqBD_fr fu7 rfl (oqBD_fr fu4 rfl hq3)) (oqKd_fr fu7 rfl pu4_4) hNN (by omega)
    refine r_iconst C (oDec_at oX11_book 14 rfl) (v := km1) (by rw [qkm1]; rfl) ?_
    have lk23 : ((u7).1 30 8).toInt = (u4.1 30 8).toInt := congrArg Int32.toInt ((fu7 30 8 rfl).1)
    have lk24 : ((u7).1 30 9).toInt = (u4.1 30 9).toInt := congrArg Int32.toInt ((fu7 30 9 rfl).1)
    exact r_iret C (oDec_at oX11_book 15 rfl) ⟨_, rfl, ⟨by omega, by omega, by omega, by omega, hq22⟩⟩
