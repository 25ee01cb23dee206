set_option maxHeartbeats 4000000 in
set_option maxRecDepth 100000 in
theorem ct9_X0_spell (l : Launch) (E : oE) (s : oS) (c0 : Nat) (hk0 : okd c0 = 0) (a1 : Int32) (a2 : Int32) (d : Nat) (G : Nat → Nat → Int32) (hp0 : c0 ≠ d) (hp1 : oqKx d G s) : oMet l 1 yX0_spell cX0_spell 3 none [(23, 9999)] E s [.ref (oad E c0), .int a1, .int a2] (oPv (fun u => ((0 ≤ a1.toInt ∧ a1.toInt ≤ 5 ∧ (s.1 c0 8).toInt ≤ 5) → oqPut (s.1 (c0 + 4)) (u.1 (c0 + 4)) (6 * (s.1 c0 8).toInt + a1.toInt) a2.toInt) ∧ (oqKx d G u))) := by
  refine oMet.of (lv := [(0, .ref (oad E c0)), (1, .int a1), (2, .int a2)]) (by decide +kernel) (Nat.le_of_ble_eq_true rfl) rfl (fun J C hT => ?_)
  have C : oC l 1 cX0_spell RX0 3 none [(23, 9999)] E s (oPv (fun u => ((0 ≤ a1.toInt ∧ a1.toInt ≤ 5 ∧ (s.1 c0 8).toInt ≤ 5) → oqPut (s.1 (c0 + 4)) (u.1 (c0 + 4)) (6 * (s.1 c0 8).toInt + a1.toInt) a2.toInt) ∧ (oqKx d G u))) J := C
  obtain ⟨k6, qk6⟩ : ∃ z : Int32, z = 6 := ⟨_, rfl⟩
  have ek6 : k6.toInt = 6 := by rw [qk6]; rfl
  have rg1 := n_rng a1
  have rg2 := n_rng a2
  refine r_aload_n C (j := 0) (oDec_at oX0_spell 0 rfl) rfl rfl ?_
  obtain ⟨v1, ev1⟩ : ∃ z : Int32, (s).1 c0 8 = z := ⟨_, rfl⟩
  have gv1 : (s.1 c0 8).toInt = v1.toInt := congrArg Int32.toInt (ev1)
  refine r_geti (k := 8) (lo := 0) (hi := 6) C v1 oCl0 hk0 (by decide) flX0_39 rfl rfl (ev1) rfl rfl (oDec_at oX0_spell 1 rfl) (fun b2 b2h => ?_)
  refine r_bipush C (oDec_at oX0_spell 2 rfl) (v := k6) (by rw [qk6]; rfl) ?_
  refine r_icmp_ge C 34 (oDec_at oX0_spell 3 rfl) (by decide) (fun cd3 => ?_) (fun cd3 => ?_)
  · skip
    have hq4 : oqKx d G (s) := by first | exact hp1 | exact oqKx_pr (i := 4) (by assumption) hk0 (by assumption) ⟨by decide, by decide⟩
    exact r_vret C (oDec_at oX0_spell 19 rfl) ⟨rfl, ⟨by first | (intro h; exfalso; omega) | exact fun _ => oqPut_of (by omega) (by omega) rfl, hq4⟩⟩
  · skip
    refine r_iload_n C (j := 1) (oDec_at oX0_spell 4 rfl) rfl rfl ?_
    refine r_if_lt C 34 (oDec_at oX0_spell 5 rfl) (by decide) (fun cd5 => ?_) (fun cd5 => ?_)
    · skip
      have hq6 : oqKx d G (s) := by first | exact hp1 | exact oqKx_pr (i := 4) (by assumption) hk0 (by assumption) ⟨by decide, by decide⟩
      exact r_vret C (oDec_at oX0_spell 19 rfl) ⟨rfl, ⟨by first | (intro h; exfalso; omega) | exact fun _ => oqPut_of (by omega) (by omega) rfl, hq6⟩⟩
    · skip
      refine r_iload_n C (j := 1) (oDec_at oX0_spell 6 rfl) rfl rfl ?_
      refine r_bipush C (oDec_at oX0_spell 7 rfl) (v := k6) (by rw [qk6]; rfl) ?_
      refine r_icmp_ge C 34 (oDec_at oX0_spell 8 rfl) (by decide) (fun cd7 => ?_) (fun cd7 => ?_)
      · skip
        have hq8 : oqKx d G (s) := by first | exact hp1 | exact oqKx_pr (i := 4) (by assumption) hk0 (by assumption) ⟨by decide, by decide⟩
        exact r_vret C (oDec_at oX0_spell 19 rfl) ⟨rfl, ⟨by first | (intro h; exfalso; omega) | exact fun _ => oqPut_of (by omega) (by omega) rfl, hq8⟩⟩
      · skip
        refine r_aload_n C (j := 0) (oDec_at oX0_spell 9 rfl) rfl rfl ?_
        refine r_getR (k := 4) (b := 4) C oCl0 hk0 (by decide) flX0_23 rfl rfl rfl (oDec_at oX0_spell 10 rfl) ?_
        refine r_aload_n C (j := 0) (oDec_at oX0_spell 11 rfl) rfl rfl ?_
        refine r_geti (k := 8) (lo := 0) (hi := 6) C v1 oCl0 hk0 (by decide) flX0_39 rfl rfl (ev1) rfl rfl (oDec_at oX0_spell 12 rfl) (fun _ _ => ?_)
        refine r_bipush C (oDec_at oX0_spell 13 rfl) (v := k6) (by rw [qk6]; rfl) ?_
        obtain ⟨v9, ev9⟩ : ∃ z : Int32, z = v1 * k6 := ⟨_, rfl⟩
        have hv9 : v9.toInt = v1.toInt * 6 := n_mulK 6 ev9 ek6 (by omega) (by omega)
        refine r_imul C v9 (oDec_at oX0_spell 14 rfl) ev9 ?_
        refine r_pc C 30 rfl ?_
        refine r_iload_n C (j := 1) (oDec_at oX0_spell 15 rfl) rfl rfl ?_
        obtain ⟨v10, ev10⟩ : ∃ z : Int32, z = v9 + a1 := ⟨_, rfl⟩
        have hv10 : v10.toInt = v9.toInt + a1.toInt := n_add ev10 (by omega) (by omega)
        refine r_iadd C v10 (oDec_at oX0_spell 16 rfl) ev10 ?_
        refine r_iload_n C (j := 2) (oDec_at oX0_spell 17 rfl) rfl rfl ?_
        refine r_iast (n := 36) (lo := (-2147483648)) (hi := 2147483647) C (kr0_4 hk0) (by decide) rfl rfl ⟨by omega, by omega⟩ (by decide) rfl rfl rfl rfl (n_rng _) (oDec_at oX0_spell 18 rfl) ?_
        have hq11 : oqKx d G ((pI s (c0 + 4) v10.toNatClampNeg a2)) := by first | exact (by assumption) | exact oqKx_pr (i := 4) hp1 hk0 (by assumption) ⟨by decide, by decide⟩
        exact r_vret C (oDec_at oX0_spell 19 rfl) ⟨rfl, ⟨by first | (intro h; exfalso; omega) | exact fun _ => oqPut_of (by omega) (by omega) rfl, hq11⟩⟩
set_option maxHeartbeats 4000000 in
set_option maxRecDepth 100000 in
theorem ct9_X0_clear (l : Launch) (E : oE) (s : oS) (c0 : Nat) (hk0 : okd c0 = 0) (d : Nat) (G : Nat → Nat → Int32) (hp0 : c0 ≠ d) (hp1 : oqKx d G s) : oMet l 1 yX0_clear cX0_clear 1 none [(0, 1), (0, 6), (0, 7), (0, 8)] E s [.ref (oad E c0)] (oPv (fun u => ((u.1 c0 7).toInt = 0) ∧ ((u.1 c0 8).toInt = 0) ∧ (oqKx d G u) ∧ ((u.1 c0 1).toInt = 0) ∧ ((u.1 c0 6).toInt = 4))) := by
  refine oMet.of (lv := [(0, .ref (oad E c0))]) (by decide +kernel) (Nat.le_of_ble_eq_true rfl) rfl (fun J C hT => ?_)
  have C : oC l 1 cX0_clear RX0 1 none [(0, 1), (0, 6), (0, 7), (0, 8)] E s (oPv (fun u => ((u.1 c0 7).toInt = 0) ∧ ((u.1 c0 8).toInt = 0) ∧ (oqKx d G u) ∧ ((u.1 c0 1).toInt = 0) ∧ ((u.1 c0 6).toInt = 4))) J := C
  obtain ⟨k0, qk0⟩ : ∃ z : Int32, z = 0 := ⟨_, rfl⟩
  have ek0 : k0.toInt = 0 := by rw [qk0]; rfl
  obtain ⟨k4, qk4⟩ : ∃ z : Int32, z = 4 := ⟨_, rfl⟩
  have ek4 : k4.toInt = 4 := by rw [qk4]; rfl
  refine r_aload_n C (j := 0) (oDec_at oX0_clear 0 rfl) rfl rfl ?_
  refine r_iconst C (oDec_at oX0_clear 1 rfl) (v := k0) (by rw [qk0]; rfl) ?_
  refine r_puti (k := 1) (lo := 0) (hi := 1600) C oCl0 hk0 (by decide) flX0_33 rfl rfl rfl rfl rfl rfl rfl rfl ⟨by omega, by omega⟩ (oDec_at oX0_clear 2 rfl) ?_
  have hq1 : oqKx d G ((pI s c0 1 k0)) := oqKx_p0 hp1 hk0 (by assumption)
  refine r_aload_n C (j := 0) (oDec_at oX0_clear 3 rfl) rfl rfl ?_
  refine r_iconst C (oDec_at oX0_clear 4 rfl) (v := k0) (by rw [qk0]; rfl) ?_
  refine r_puti (k := 7) (lo := 0) (hi := 12) C oCl0 hk0 (by decide) flX0_36 rfl rfl rfl rfl rfl rfl rfl rfl ⟨by omega, by omega⟩ (oDec_at oX0_clear 5 rfl) ?_
  refine r_pc C 10 rfl ?_
  have hq2 : oqKx d G ((pI (pI s c0 1 k0) c0 7 k0)) := oqKx_p0 hq1 hk0 (by assumption)
  refine r_aload_n C (j := 0) (oDec_at oX0_clear 6 rfl) rfl rfl ?_
  refine r_iconst C (oDec_at oX0_clear 7 rfl) (v := k0) (by rw [qk0]; rfl) ?_
  refine r_puti (k := 8) (lo := 0) (hi := 6) C oCl0 hk0 (by decide) flX0_39 rfl rfl rfl rfl rfl rfl rfl rfl ⟨by omega, by omega⟩ (oDec_at oX0_clear 8 rfl) ?_
  have hq3 : oqKx d G ((pI (pI (pI s c0 1 k0) c0 7 k0) c0 8 k0)) := oqKx_p0 hq2 hk0 (by assumption)
  refine r_aload_n C (j := 0) (oDec_at oX0_clear 9 rfl) rfl rfl ?_
  refine r_iconst C (oDec_at oX0_clear 10 rfl) (v := k4) (by rw [qk4]; rfl) ?_
  refine r_puti (k := 6) (lo := 2) (hi := 12) C oCl0 hk0 (by decide) flX0_29 rfl rfl rfl rfl rfl rfl rfl rfl ⟨by omega, by omega⟩ (oDec_at oX0_clear 11 rfl) ?_
  refine r_pc C 20 rfl ?_
  have hq4 : oqKx d G ((pI (pI (pI (pI s c0 1 k0) c0 7 k0) c0 8 k0) c0 6 k4)) := oqKx_p0 hq3 hk0 (by assumption)
  have lk5 : (((pI (pI (pI (pI s c0 1 k0) c0 7 k0) c0 8 k0) c0 6 k4)).1 c0 7).toInt = k0.toInt := congrArg Int32.toInt (((pI_ne (a := c0) (b := 7) (c := c0) (k := 6) _ _ (Or.inr (by decide)))).trans (((pI_ne (a := c0) (b := 7) (c := c0) (k := 8) _ _ (Or.inr (by decide)))).trans ((pI_self _ _ _ _))))
  have lk6 : (((pI (pI (pI (pI s c0 1 k0) c0 7 k0) c0 8 k0) c0 6 k4)).1 c0 8).toInt = k0.toInt := congrArg Int32.toInt (((pI_ne (a := c0) (b := 8) (c := c0) (k := 6) _ _ (Or.inr (by decide)))).trans ((pI_self _ _ _ _)))
  have lk7 : (((pI (pI (pI (pI s c0 1 k0) c0 7 k0) c0 8 k0) c0 6 k4)).1 c0 1).toInt = k0.toInt := congrArg Int32.toInt (((pI_ne (a := c0) (b := 1) (c := c0) (k := 6) _ _ (Or.inr (by decide)))).trans (((pI_ne (a := c0) (b := 1) (c := c0) (k := 8) _ _ (Or.inr (by decide)))).trans (((pI_ne (a := c0) (b := 1) (c := c0) (k := 7) _ _ (Or.inr (by decide)))).trans ((pI_self _ _ _ _)))))
  have lk8 : (((pI (pI (pI (pI s c0 1 k0) c0 7 k0) c0 8 k0) c0 6 k4)).1 c0 6).toInt = k4.toInt := congrArg Int32.toInt ((pI_self _ _ _ _))
  exact r_vret C (oDec_at oX0_clear 12 rfl) ⟨rfl, ⟨by omega, by omega, hq4, by omega, by omega⟩⟩
set_option maxHeartbeats 4000000 in
set_option maxRecDepth 100000 in
theorem ct9_X0_close (l : Launch) (E : oE) (s : oS) (c0 : Nat) (hk0 : okd c0 = 0) (a1 : Int32) (a2 : Int32) (d : Nat) (G : Nat → Nat → Int32) (hp0 : 0 ≤ a1.toInt ∧ a1.toInt ≤ 1) (hp1 : 0 ≤ a2.toInt ∧ a2.toInt ≤ 1600) (hp2 : a1.toInt = 1 → (s.1 c0 8).toInt ≤ 5) (hp3 : a1.toInt = 0 → (s.1 c0 7).toInt ≤ 11) (hp4 : c0 ≠ d) (hp5 : oqKx d G s) : oMet l 1 yX0_close cX0_close 4 none [(0, 7), (0, 8), (21, 9999), (22, 9999)] E s [.ref (oad E c0), .int a1, .int a2] (oPv (fun u => ((u.1 c0 8).toInt = (s.1 c0 8).toInt + a1.toInt) ∧ ((u.1 c0 7).toInt = (s.1 c0 7).toInt + 1 - a1.toInt) ∧ (oqKx d G u) ∧ (owCl c0 a1 a2 s u))) := by
  refine oMet.of (lv := [(0, .ref (oad E c0)), (1, .int a1), (2, .int a2)]) (by decide +kernel) (Nat.le_of_ble_eq_true rfl) rfl (fun J C hT => ?_)
  have C : oC l 1 cX0_close RX0 4 none [(0, 7), (0, 8), (21, 9999), (22, 9999)] E s (oPv (fun u => ((u.1 c0 8).toInt = (s.1 c0 8).toInt + a1.toInt) ∧ ((u.1 c0 7).toInt = (s.1 c0 7).toInt + 1 - a1.toInt) ∧ (oqKx d G u) ∧ (owCl c0 a1 a2 s u))) J := C
  obtain ⟨k0, qk0⟩ : ∃ z : Int32, z = 0 := ⟨_, rfl⟩
  have ek0 : k0.toInt = 0 := by rw [qk0]; rfl
  obtain ⟨k1, qk1⟩ : ∃ z : Int32, z = 1 := ⟨_, rfl⟩
  have ek1 : k1.toInt = 1 := by rw [qk1]; rfl
  obtain ⟨k12, qk12⟩ : ∃ z : Int32, z = 12 := ⟨_, rfl⟩
  have ek12 : k12.toInt = 12 := by rw [qk12]; rfl
  obtain ⟨k18, qk18⟩ : ∃ z : Int32, z = 18 := ⟨_, rfl⟩
  have ek18 : k18.toInt = 18 := by rw [qk18]; rfl
  have rg1 := n_rng a1
  have rg2 := n_rng a2
  refine r_iload_n C (j := 1) (oDec_at oX0_close 0 rfl) rfl rfl ?_
  refine r_if_eq C 14 (oDec_at oX0_close 1 rfl) (by decide) (fun cd1 => ?_) (fun cd1 => ?_)
  · skip
    refine r_aload_n C (j := 0) (oDec_at oX0_close 7 rfl) rfl rfl ?_
    obtain ⟨v2, ev2⟩ : ∃ z : Int32, (s).1 c0 7 = z := ⟨_, rfl⟩
    have gv2 : (s.1 c0 7).toInt = v2.toInt := congrArg Int32.toInt (ev2)
    refine r_geti (k := 7) (lo := 0) (hi := 12) C v2 oCl0 hk0 (by decide) flX0_36 rfl rfl (ev2) rfl rfl (oDec_at oX0_close 8 rfl) (fun b3 b3h => ?_)
    refine r_istore_n C (lv' := [(0, .ref (oad E c0)), (1, .int a1), (2, .int a2), (3, .int v2)]) [1, 2, 3, 0] (oDec_at oX0_close 9 rfl) rfl (by decide) rfl ?_
    refine r_iload_n C (j := 3) (oDec_at oX0_close 10 rfl) rfl rfl ?_
    refine r_bipush C (oDec_at oX0_close 11 rfl) (v := k18) (by rw [qk18]; rfl) ?_
    refine r_icmp_lt C 26 (oDec_at oX0_close 12 rfl) (by decide) (fun cd4 => ?_) (fun cd4 => ?_)
    · skip
      have hi9 : v2.toInt = if a1.toInt = 0 then (s.1 c0 7).toInt else 12 + (s.1 c0 8).toInt := by first | (rw [if_pos (by omega)] <;> omega) | (rw [if_neg (by omega)] <;> omega)
      have hi8 := v2
      refine r_aload_n C (j := 0) (oDec_at oX0_close 14 rfl) rfl rfl ?_
      refine r_getR (k := 2) (b := 2) C oCl0 hk0 (by decide) flX0_17 rfl rfl rfl (oDec_at oX0_close 15 rfl) ?_
      refine r_iload_n C (j := 3) (oDec_at oX0_close 16 rfl) rfl rfl ?_
      refine r_iload_n C (j := 2) (oDec_at oX0_close 17 rfl) rfl rfl ?_
      refine r_iast (n := 18) (lo := 0) (hi := 1600) C (kr0_2 hk0) (by decide) rfl rfl ⟨by omega, by omega⟩ (by decide) rfl rfl rfl rfl ⟨by omega, by omega⟩ (oDec_at oX0_close 18 rfl) ?_
      have hq5 : oqKx d G ((pI s (c0 + 2) v2.toNatClampNeg a2)) := oqKx_pr (i := 2) hp5 hk0 (by assumption) ⟨by decide, by decide⟩
      refine r_aload_n C (j := 0) (oDec_at oX0_close 19 rfl) rfl rfl ?_
      refine r_pc C 34 rfl ?_
      refine r_getR (k := 3) (b := 3) C oCl0 hk0 (by decide) flX0_20 rfl rfl rfl (oDec_at oX0_close 20 rfl) ?_
      refine r_iload_n C (j := 3) (oDec_at oX0_close 21 rfl) rfl rfl ?_
      refine r_aload_n C (j := 0) (oDec_at oX0_close 22 rfl) rfl rfl ?_
      obtain ⟨v6, ev6⟩ : ∃ z : Int32, ((pI s (c0 + 2) v2.toNatClampNeg a2)).1 c0 1 = z := ⟨_, rfl⟩
      have gv6 : (s.1 c0 1).toInt = v6.toInt := congrArg Int32.toInt (((pI_ne _ _ (Or.inl (okd_ne hk0 (kr0_2 hk0) (by decide))))).symm.trans ev6)
      have ggv6 : (((pI s (c0 + 2) v2.toNatClampNeg a2)).1 c0 1).toInt = v6.toInt := congrArg Int32.toInt ev6
      refine r_geti (k := 1) (lo := 0) (hi := 1600) C v6 oCl0 hk0 (by decide) flX0_33 rfl rfl (ev6) rfl rfl (oDec_at oX0_close 23 rfl) (fun b7 b7h => ?_)
      refine r_iast (n := 18) (lo := (-2147483648)) (hi := 2147483647) C (kr0_3 hk0) (by decide) rfl rfl ⟨by omega, by omega⟩ (by decide) rfl rfl rfl rfl (n_rng _) (oDec_at oX0_close 24 rfl) ?_
      have hq8 : oqKx d G ((pI (pI s (c0 + 2) v2.toNatClampNeg a2) (c0 + 3) v2.toNatClampNeg v6)) := oqKx_pr (i := 3) hq5 hk0 (by assumption) ⟨by decide, by decide⟩
      refine r_aload_n C (j := 0) (oDec_at oX0_close 25 rfl) rfl rfl ?_
      refine r_pc C 44 rfl ?_
      refine r_dup C (oDec_at oX0_close 26 rfl) rfl ?_
      obtain ⟨v9, ev9⟩ : ∃ z : Int32, ((pI (pI s (c0 + 2) v2.toNatClampNeg a2) (c0 + 3) v2.toNatClampNeg v6)).1 c0 8 = z := ⟨_, rfl⟩
      have gv9 : (s.1 c0 8).toInt = v9.toInt := congrArg Int32.toInt ((((pI_ne _ _ (Or.inl (okd_ne hk0 (kr0_3 hk0) (by decide))))).trans ((pI_ne _ _ (Or.inl (okd_ne hk0 (kr0_2 hk0) (by decide)))))).symm.trans ev9)
      have ggv9 : (((pI (pI s (c0 + 2) v2.toNatClampNeg a2) (c0 + 3) v2.toNatClampNeg v6)).1 c0 8).toInt = v9.toInt := congrArg Int32.toInt ev9
      refine r_geti (k := 8) (lo := 0) (hi := 6) C v9 oCl0 hk0 (by decide) flX0_39 rfl rfl (ev9) rfl rfl (oDec_at oX0_close 27 rfl) (fun b10 b10h => ?_)
      refine r_iload_n C (j := 1) (oDec_at oX0_close 28 rfl) rfl rfl ?_
      refine r_if_eq C 56 (oDec_at oX0_close 29 rfl) (by decide) (fun cd11 => ?_) (fun cd11 => ?_)
      · skip
        refine r_iconst C (oDec_at oX0_close 32 rfl) (v := k0) (by rw [qk0]; rfl) ?_
        obtain ⟨v12, ev12⟩ : ∃ z : Int32, z = v9 + k0 := ⟨_, rfl⟩
        have hv12 : v12.toInt = v9.toInt + k0.toInt := n_add ev12 (by omega) (by omega)
        refine r_iadd C v12 (oDec_at oX0_close 33 rfl) ev12 ?_
        refine r_puti (k := 8) (lo := 0) (hi := 6) C oCl0 hk0 (by decide) flX0_39 rfl rfl rfl rfl rfl rfl rfl rfl ⟨by omega, by omega⟩ (oDec_at oX0_close 34 rfl) ?_
        have hq13 : oqKx d G ((pI (pI (pI s (c0 + 2) v2.toNatClampNeg a2) (c0 + 3) v2.toNatClampNeg v6) c0 8 v12)) := oqKx_p0 hq8 hk0 (by assumption)
        refine r_aload_n C (j := 0) (oDec_at oX0_close 35 rfl) rfl rfl ?_
        refine r_dup C (oDec_at oX0_close 36 rfl) rfl ?_
        refine r_geti (k := 7) (lo := 0) (hi := 12) C v2 oCl0 hk0 (by decide) flX0_36 rfl rfl (((pI_ne (a := c0) (b := 7) (c := c0) (k := 8) _ _ (Or.inr (by decide)))).trans (((pI_ne _ _ (Or.inl (okd_ne hk0 (kr0_3 hk0) (by decide))))).trans (((pI_ne _ _ (Or.inl (okd_ne hk0 (kr0_2 hk0) (by decide))))).trans (ev2)))) rfl rfl (oDec_at oX0_close 37 rfl) (fun _ _ => ?_)
        refine r_pc C 66 rfl ?_
        refine r_iload_n C (j := 1) (oDec_at oX0_close 38 rfl) rfl rfl ?_
        refine r_if_eq C 74 (oDec_at oX0_close 39 rfl) (by decide) (fun cd14 => ?_) (fun cd14 => ?_)
        · skip
          refine r_iconst C (oDec_at oX0_close 42 rfl) (v := k1) (by rw [qk1]; rfl) ?_
          obtain ⟨v15, ev15⟩ : ∃ z : Int32, z = v2 + k1 := ⟨_, rfl⟩
          have hv15 : v15.toInt = v2.toInt + k1.toInt := n_add ev15 (by omega) (by omega)
          refine r_iadd C v15 (oDec_at oX0_close 43 rfl) ev15 ?_
          refine r_puti (k := 7) (lo := 0) (hi := 12) C oCl0 hk0 (by decide) flX0_36 rfl rfl rfl rfl rfl rfl rfl rfl ⟨by omega, by omega⟩ (oDec_at oX0_close 44 rfl) ?_
          have hq16 : oqKx d G ((pI (pI (pI (pI s (c0 + 2) v2.toNatClampNeg a2) (c0 + 3) v2.toNatClampNeg v6) c0 8 v12) c0 7 v15)) := oqKx_p0 hq13 hk0 (by assumption)
          have lk17 : (((pI (pI (pI (pI s (c0 + 2) v2.toNatClampNeg a2) (c0 + 3) v2.toNatClampNeg v6) c0 8 v12) c0 7 v15)).1 c0 8).toInt = v12.toInt := congrArg Int32.toInt (((pI_ne (a := c0) (b := 8) (c := c0) (k := 7) _ _ (Or.inr (by decide)))).trans ((pI_self _ _ _ _)))
          have lk18 : (((pI (pI (pI (pI s (c0 + 2) v2.toNatClampNeg a2) (c0 + 3) v2.toNatClampNeg v6) c0 8 v12) c0 7 v15)).1 c0 7).toInt = v15.toInt := congrArg Int32.toInt ((pI_self _ _ _ _))
          exact r_vret C (oDec_at oX0_close 45 rfl) ⟨rfl, ⟨by omega, by omega, hq16, owCl_of hi9 (by omega) (n_eq gv6) hk0⟩⟩
        · omega
      · omega
    · skip
      have lk19 : ((s).1 c0 7).toInt = v2.toInt := congrArg Int32.toInt (ev2)
      exact r_vret C (oDec_at oX0_close 13 rfl) ⟨rfl, ⟨by omega, by omega, hp5, by exfalso; omega⟩⟩
  · skip
    refine r_bipush C (oDec_at oX0_close 2 rfl) (v := k12) (by rw [qk12]; rfl) ?_
    refine r_aload_n C (j := 0) (oDec_at oX0_close 3 rfl) rfl rfl ?_
    obtain ⟨v20, ev20⟩ : ∃ z : Int32, (s).1 c0 8 = z := ⟨_, rfl⟩
    have gv20 : (s.1 c0 8).toInt = v20.toInt := congrArg Int32.toInt (ev20)
    refine r_geti (k := 8) (lo := 0) (hi := 6) C v20 oCl0 hk0 (by decide) flX0_39 rfl rfl (ev20) rfl rfl (oDec_at oX0_close 4 rfl) (fun b21 b21h => ?_)
    obtain ⟨v22, ev22⟩ : ∃ z : Int32, z = k12 + v20 := ⟨_, rfl⟩
    have hv22 : v22.toInt = k12.toInt + v20.toInt := n_add ev22 (by omega) (by omega)
    refine r_iadd C v22 (oDec_at oX0_close 5 rfl) ev22 ?_
    refine r_goto C (tgt := 18) (oDec_at oX0_close 6 rfl) (by decide) ?_
    refine r_istore_n C (lv' := [(0, .ref (oad E c0)), (1, .int a1), (2, .int a2), (3, .int v22)]) [1, 2, 3, 0] (oDec_at oX0_close 9 rfl) rfl (by decide) rfl ?_
    refine r_iload_n C (j := 3) (oDec_at oX0_close 10 rfl) rfl rfl ?_
    refine r_pc C 20 rfl ?_
    refine r_bipush C (oDec_at oX0_close 11 rfl) (v := k18) (by rw [qk18]; rfl) ?_
    refine r_icmp_lt C 26 (oDec_at oX0_close 12 rfl) (by decide) (fun cd23 => ?_) (fun cd23 => ?_)
    · skip
      have hi9 : v22.toInt = if a1.toInt = 0 then (s.1 c0 7).toInt else 12 + (s.1 c0 8).toInt := by first | (rw [if_pos (by omega)] <;> omega) | (rw [if_neg (by omega)] <;> omega)
      have hi8 := v22
      refine r_aload_n C (j := 0) (oDec_at oX0_close 14 rfl) rfl rfl ?_
      refine r_getR (k := 2) (b := 2) C oCl0 hk0 (by decide) flX0_17 rfl rfl rfl (oDec_at oX0_close 15 rfl) ?_
      refine r_iload_n C (j := 3) (oDec_at oX0_close 16 rfl) rfl rfl ?_
      refine r_iload_n C (j := 2) (oDec_at oX0_close 17 rfl) rfl rfl ?_
      refine r_iast (n := 18) (lo := 0) (hi := 1600) C (kr0_2 hk0) (by decide) rfl rfl ⟨by omega, by omega⟩ (by decide) rfl rfl rfl rfl ⟨by omega, by omega⟩ (oDec_at oX0_close 18 rfl) ?_
      have hq24 : oqKx d G ((pI s (c0 + 2) v22.toNatClampNeg a2)) := oqKx_pr (i := 2) hp5 hk0 (by assumption) ⟨by decide, by decide⟩
      refine r_aload_n C (j := 0) (oDec_at oX0_close 19 rfl) rfl rfl ?_
      refine r_pc C 34 rfl ?_
      refine r_getR (k := 3) (b := 3) C oCl0 hk0 (by decide) flX0_20 rfl rfl rfl (oDec_at oX0_close 20 rfl) ?_
      refine r_iload_n C (j := 3) (oDec_at oX0_close 21 rfl) rfl rfl ?_
      refine r_aload_n C (j := 0) (oDec_at oX0_close 22 rfl) rfl rfl ?_
      obtain ⟨v25, ev25⟩ : ∃ z : Int32, ((pI s (c0 + 2) v22.toNatClampNeg a2)).1 c0 1 = z := ⟨_, rfl⟩
      have gv25 : (s.1 c0 1).toInt = v25.toInt := congrArg Int32.toInt (((pI_ne _ _ (Or.inl (okd_ne hk0 (kr0_2 hk0) (by decide))))).symm.trans ev25)
      have ggv25 : (((pI s (c0 + 2) v22.toNatClampNeg a2)).1 c0 1).toInt = v25.toInt := congrArg Int32.toInt ev25
      refine r_geti (k := 1) (lo := 0) (hi := 1600) C v25 oCl0 hk0 (by decide) flX0_33 rfl rfl (ev25) rfl rfl (oDec_at oX0_close 23 rfl) (fun b26 b26h => ?_)
      refine r_iast (n := 18) (lo := (-2147483648)) (hi := 2147483647) C (kr0_3 hk0) (by decide) rfl rfl ⟨by omega, by omega⟩ (by decide) rfl rfl rfl rfl (n_rng _) (oDec_at oX0_close 24 rfl) ?_
      have hq27 : oqKx d G ((pI (pI s (c0 + 2) v22.toNatClampNeg a2) (c0 + 3) v22.toNatClampNeg v25)) := oqKx_pr (i := 3) hq24 hk0 (by assumption) ⟨by decide, by decide⟩
      refine r_aload_n C (j := 0) (oDec_at oX0_close 25 rfl) rfl rfl ?_
      refine r_pc C 44 rfl ?_
      refine r_dup C (oDec_at oX0_close 26 rfl) rfl ?_
      refine r_geti (k := 8) (lo := 0) (hi := 6) C v20 oCl0 hk0 (by decide) flX0_39 rfl rfl (((pI_ne _ _ (Or.inl (okd_ne hk0 (kr0_3 hk0) (by decide))))).trans (((pI_ne _ _ (Or.inl (okd_ne hk0 (kr0_2 hk0) (by decide))))).trans (ev20))) rfl rfl (oDec_at oX0_close 27 rfl) (fun _ _ => ?_)
      refine r_iload_n C (j := 1) (oDec_at oX0_close 28 rfl) rfl rfl ?_
      refine r_if_eq C 56 (oDec_at oX0_close 29 rfl) (by decide) (fun cd28 => ?_) (fun cd28 => ?_)
      · omega
      · skip
        refine r_iconst C (oDec_at oX0_close 30 rfl) (v := k1) (by rw [qk1]; rfl) ?_
        refine r_goto C (tgt := 57) (oDec_at oX0_close 31 rfl) (by decide) ?_
        obtain ⟨v29, ev29⟩ : ∃ z : Int32, z = v20 + k1 := ⟨_, rfl⟩
        have hv29 : v29.toInt = v20.toInt + k1.toInt := n_add ev29 (by omega) (by omega)
        refine r_iadd C v29 (oDec_at oX0_close 33 rfl) ev29 ?_
        refine r_puti (k := 8) (lo := 0) (hi := 6) C oCl0 hk0 (by decide) flX0_39 rfl rfl rfl rfl rfl rfl rfl rfl ⟨by omega, by omega⟩ (oDec_at oX0_close 34 rfl) ?_
        have hq30 : oqKx d G ((pI (pI (pI s (c0 + 2) v22.toNatClampNeg a2) (c0 + 3) v22.toNatClampNeg v25) c0 8 v29)) := oqKx_p0 hq27 hk0 (by assumption)
        refine r_aload_n C (j := 0) (oDec_at oX0_close 35 rfl) rfl rfl ?_
        refine r_dup C (oDec_at oX0_close 36 rfl) rfl ?_
        obtain ⟨v31, ev31⟩ : ∃ z : Int32, ((pI (pI (pI s (c0 + 2) v22.toNatClampNeg a2) (c0 + 3) v22.toNatClampNeg v25) c0 8 v29)).1 c0 7 = z := ⟨_, rfl⟩
        have gv31 : (s.1 c0 7).toInt = v31.toInt := congrArg Int32.toInt ((((pI_ne (a := c0) (b := 7) (c := c0) (k := 8) _ _ (Or.inr (by decide)))).trans (((pI_ne _ _ (Or.inl (okd_ne hk0 (kr0_3 hk0) (by decide))))).trans ((pI_ne _ _ (Or.inl (okd_ne hk0 (kr0_2 hk0) (by decide))))))).symm.trans ev31)
        have ggv31 : (((pI (pI (pI s (c0 + 2) v22.toNatClampNeg a2) (c0 + 3) v22.toNatClampNeg v25) c0 8 v29)).1 c0 7).toInt = v31.toInt := congrArg Int32.toInt ev31
        refine r_geti (k := 7) (lo := 0) (hi := 12) C v31 oCl0 hk0 (by decide) flX0_36 rfl rfl (ev31) rfl rfl (oDec_at oX0_close 37 rfl) (fun b32 b32h => ?_)
        refine r_pc C 66 rfl ?_
        refine r_iload_n C (j := 1) (oDec_at oX0_close 38 rfl) rfl rfl ?_
        refine r_if_eq C 74 (oDec_at oX0_close 39 rfl) (by decide) (fun cd33 => ?_) (fun cd33 => ?_)
        · omega
        · skip
          refine r_iconst C (oDec_at oX0_close 40 rfl) (v := k0) (by rw [qk0]; rfl) ?_
          refine r_goto C (tgt := 75) (oDec_at oX0_close 41 rfl) (by decide) ?_
          obtain ⟨v34, ev34⟩ : ∃ z : Int32, z = v31 + k0 := ⟨_, rfl⟩
          have hv34 : v34.toInt = v31.toInt + k0.toInt := n_add ev34 (by omega) (by omega)
          refine r_iadd C v34 (oDec_at oX0_close 43 rfl) ev34 ?_
          refine r_puti (k := 7) (lo := 0) (hi := 12) C oCl0 hk0 (by decide) flX0_36 rfl rfl rfl rfl rfl rfl rfl rfl ⟨by omega, by omega⟩ (oDec_at oX0_close 44 rfl) ?_
          have hq35 : oqKx d G ((pI (pI (pI (pI s (c0 + 2) v22.toNatClampNeg a2) (c0 + 3) v22.toNatClampNeg v25) c0 8 v29) c0 7 v34)) := oqKx_p0 hq30 hk0 (by assumption)
          have lk36 : (((pI (pI (pI (pI s (c0 + 2) v22.toNatClampNeg a2) (c0 + 3) v22.toNatClampNeg v25) c0 8 v29) c0 7 v34)).1 c0 8).toInt = v29.toInt := congrArg Int32.toInt (((pI_ne (a := c0) (b := 8) (c := c0) (k := 7) _ _ (Or.inr (by decide)))).trans ((pI_self _ _ _ _)))
          have lk37 : (((pI (pI (pI (pI s (c0 + 2) v22.toNatClampNeg a2) (c0 + 3) v22.toNatClampNeg v25) c0 8 v29) c0 7 v34)).1 c0 7).toInt = v34.toInt := congrArg Int32.toInt ((pI_self _ _ _ _))
          exact r_vret C (oDec_at oX0_close 45 rfl) ⟨rfl, ⟨by omega, by omega, hq35, owCl_of hi9 (by omega) (n_eq gv25) hk0⟩⟩
    · skip
      have lk38 : ((s).1 c0 8).toInt = v20.toInt := congrArg Int32.toInt (ev20)
      exact r_vret C (oDec_at oX0_close 13 rfl) ⟨rfl, ⟨by omega, by omega, hp5, by exfalso; omega⟩⟩
set_option maxHeartbeats 4000000 in
set_option maxRecDepth 100000 in
theorem ct9_X5_name (l : Launch) (E : oE) (s : oS)  (g : Int → Int) (a : Int) (N : Nat → Nat → Int) (R : Int) (M : Int) (d : Nat) (G : Nat → Nat → Int32) (hp0 : (s.1 30 2).toInt = a) (hp1 : (s.1 30 3).toInt = a) (hp2 : oqX g s) (hp3 : oqNl N R M M s) (hp4 : 0 ≤ M ∧ M ≤ 5) (hp5 : ¬ (97 ≤ g a ∧ g a ≤ 122)) (hp6 : oqKx d G s) : oMet l 6 yX5_name cX5_name 2 (some .boolean) [(5, 2), (5, 3), (5, 4), (5, 8), (5, 9), (23, 9999)] E s [.ref (oad E 30)] (oPi (fun r u => (0 ≤ r.toInt ∧ r.toInt ≤ 1) ∧ (r.toInt = 1 → (oqMk g a N M = 0 ∧ (u.1 30 2).toInt = oqWe g (oqSk g a) ∧ (u.1 30 3).toInt = oqWe g (oqSk g a) ∧ (u.1 30 8).toInt = (s.1 30 8).toInt ∧ (u.1 30 9).toInt = (s.1 30 9).toInt)) ∧ (r.toInt = 0 → (oqMk g a N M ≠ 0 ∧ (u.1 30 8).toInt = oqMk g a N M ∧ (u.1 30 9).toInt = oqMp g a)) ∧ (r.toInt = 1 → oqNl (oqNx N M (oqN6 g (oqSk g a))) R M (M + 1) u) ∧ (oqKx d G u))) := by
  refine oMet.of (lv := [(0, .ref (oad E 30))]) (by decide +kernel) (Nat.le_of_ble_eq_true rfl) rfl (fun J C hT => ?_)
  have C : oC l 6 cX5_name RX5 2 (some .boolean) [(5, 2), (5, 3), (5, 4), (5, 8), (5, 9), (23, 9999)] E s (oPi (fun r u => (0 ≤ r.toInt ∧ r.toInt ≤ 1) ∧ (r.toInt = 1 → (oqMk g a N M = 0 ∧ (u.1 30 2).toInt = oqWe g (oqSk g a) ∧ (u.1 30 3).toInt = oqWe g (oqSk g a) ∧ (u.1 30 8).toInt = (s.1 30 8).toInt ∧ (u.1 30 9).toInt = (s.1 30 9).toInt)) ∧ (r.toInt = 0 → (oqMk g a N M ≠ 0 ∧ (u.1 30 8).toInt = oqMk g a N M ∧ (u.1 30 9).toInt = oqMp g a)) ∧ (r.toInt = 1 → oqNl (oqNx N M (oqN6 g (oqSk g a))) R M (M + 1) u) ∧ (oqKx d G u))) J := C
  obtain ⟨km1, qkm1⟩ : ∃ z : Int32, z = (-1) := ⟨_, rfl⟩
  have ekm1 : km1.toInt = (-1) := by rw [qkm1]; rfl
  obtain ⟨k0, qk0⟩ : ∃ z : Int32, z = 0 := ⟨_, rfl⟩
  have ek0 : k0.toInt = 0 := by rw [qk0]; rfl
  obtain ⟨k1, qk1⟩ : ∃ z : Int32, z = 1 := ⟨_, rfl⟩
  have ek1 : k1.toInt = 1 := by rw [qk1]; rfl
  obtain ⟨k3, qk3⟩ : ∃ z : Int32, z = 3 := ⟨_, rfl⟩
  have ek3 : k3.toInt = 3 := by rw [qk3]; rfl
  obtain ⟨k6, qk6⟩ : ∃ z : Int32, z = 6 := ⟨_, rfl⟩
  have ek6 : k6.toInt = 6 := by rw [qk6]; rfl
  obtain ⟨k97, qk97⟩ : ∃ z : Int32, z = 97 := ⟨_, rfl⟩
  have ek97 : k97.toInt = 97 := by rw [qk97]; rfl
  have key : ∀ n : Nat, (∀ (t : oS) (x1 : Int32), (oqX g t) → (0 ≤ x1.toInt ∧ x1.toInt ≤ 6) → ((t.1 30 2).toInt = oqSk g a ∧ 0 ≤ oqSk g a) → ((t.1 30 4).toInt = oqWe g (oqSk g a)) → ((t.1 30 8).toInt = (s.1 30 8).toInt ∧ (t.1 30 9).toInt = (s.1 30 9).toInt) → (oqNq N R M (oqN6 g (oqSk g a)) x1.toInt t) → (97 ≤ g (oqSk g a) ∧ g (oqSk g a) ≤ 122) → (oqWi g a a = -1) → (oqKx d G t) → 7 - x1.toInt ≤ (n : Int) → J t 40 [(0, .ref (oad E 30)), (1, .int x1)] []) := by
    intro n
    induction n using Nat.strongRecOn with
    | _ n ih =>
      skip
      · intro t x1  iv0 iv1 iv2 iv3 iv4 iv5 iv6 iv7 iv8 hmu
        have rx1 := n_rng x1
        have hn1 := n_nat x1
        refine r_iload_n C (j := 1) (oDec_at oX5_name 22 rfl) rfl rfl ?_
        refine r_bipush C (oDec_at oX5_name 23 rfl) (v := k6) (by rw [qk6]; rfl) ?_
        refine r_icmp_ge C 95 (oDec_at oX5_name 24 rfl) (by decide) (fun cd1 => ?_) (fun cd1 => ?_)
        · skip
          refine r_aload_n C (j := 0) (oDec_at oX5_name 51 rfl) rfl rfl ?_
          obtain ⟨v2, ev2⟩ : ∃ z : Int32, (t).1 30 4 = z := ⟨_, rfl⟩
          have gv2 : (t.1 30 4).toInt = v2.toInt := congrArg Int32.toInt (ev2)
          refine r_geti (k := 4) (lo := 0) (hi := 1600) C v2 oCl5 rfl (by decide) flX5_130 rfl rfl (ev2) rfl rfl (oDec_at oX5_name 52 rfl) (fun b3 b3h => ?_)
          refine r_aload_n C (j := 0) (oDec_at oX5_name 53 rfl) rfl rfl ?_
          obtain ⟨v4, ev4⟩ : ∃ z : Int32, (t).1 30 2 = z := ⟨_, rfl⟩
          have gv4 : (t.1 30 2).toInt = v4.toInt := congrArg Int32.toInt (ev4)
          refine r_geti (k := 2) (lo := 0) (hi := 1600) C v4 oCl5 rfl (by decide) flX5_23 rfl rfl (ev4) rfl rfl (oDec_at oX5_name 54 rfl) (fun b5 b5h => ?_)
          obtain ⟨v6, ev6⟩ : ∃ z : Int32, z = v2 - v4 := ⟨_, rfl⟩
          have hv6 : v6.toInt = v2.toInt - v4.toInt := n_sub ev6 (by omega) (by omega)
          refine r_isub C v6 (oDec_at oX5_name 55 rfl) ev6 ?_
          refine r_bipush C (oDec_at oX5_name 56 rfl) (v := k6) (by rw [qk6]; rfl) ?_
          refine r_pc C 106 rfl ?_
          refine r_icmp_le C 122 (oDec_at oX5_name 57 rfl) (by decide) (fun cd7 => ?_) (fun cd7 => ?_)
          · skip
            refine r_aload_n C (j := 0) (oDec_at oX5_name 66 rfl) rfl rfl ?_
            refine r_getS (k := 1) (q2 := 0) C oCl5 rfl (by decide) flX5_19 rfl rfl rfl ks1 (oDec_at oX5_name 67 rfl) (fun b8 rb8 mb8 hkb8 => ?_)
            have hnq := oqNq_at iv5 rb8
            obtain ⟨hnq7, hnq8, hnq9⟩ := hnq
            have htt := oqTaken_tk hnq9 (by omega) (by omega)
            rw [show M.toNat = ((t).1 b8 8).toNatClampNeg by (have h9 := n_nat ((t).1 b8 8); omega)] at htt
            clear hnq9
            refine r_callVi C oCl0 hkb8 miX0_isNameTaken mlX5_141 (ct4_X0_isNameTaken l E (t) b8 hkb8 (by omega)) (by decide) rfl rfl rfl (Nat.le_of_ble_eq_true rfl) (oDec_at oX5_name 68 rfl) (fun r10 u9 pu9 fu9 => ?_)
            try dsimp only at pu9
            obtain ⟨pu9_0, pu9_1, pu9_2⟩ := pu9
            have hxu9 := oFr_nil fu9; subst hxu9
            have rr10 := n_rng r10
            refine r_if_eq C 142 (oDec_at oX5_name 69 rfl) (by decide) (fun cd11 => ?_) (fun cd11 => ?_)
            · skip
              clear pu9_1
              replace pu9_2 := pu9_2 (by omega)
              have hM := oqM_0 (g := g) (h := a) (M := M) (N := N) iv6 iv7 (by omega) (fun h9 => pu9_2 (htt.mpr h9))
              have hq12 : oqNl (oqNx N M (oqN6 g (oqSk g a))) R M (M + 1) (t) := oqNq_l iv5 (by omega) (by omega)
              refine r_aload_n C (j := 0) (oDec_at oX5_name 76 rfl) rfl rfl ?_
              have lk13 : ((t).1 30 4).toInt = v2.toInt := congrArg Int32.toInt (ev2)
              have lk14 : ((t).1 30 4).toInt = v2.toInt := congrArg Int32.toInt (ev2)
              refine r_callVv C oCl5 rfl miX5_passWord mlX5_100 (ct4_X5_passWord l E (t)  ) (by decide) rfl rfl rfl (Nat.le_of_ble_eq_true rfl) (oDec_at oX5_name 77 rfl) (fun u15 pu15 fu15 => ?_)
              try dsimp only at pu15
              try simp only [lk13, lk14] at pu15
              obtain ⟨pu15_0, pu15_1⟩ := pu15
              refine r_iconst C (oDec_at oX5_name 78 rfl) (v := k1) (by rw [qk1]; rfl) ?_
              have lk17 : ((u15).1 30 8).toInt = (t.1 30 8).toInt := congrArg Int32.toInt ((fu15 30 8 rfl).1)
              have lk18 : ((u15).1 30 9).toInt = (t.1 30 9).toInt := congrArg Int32.toInt ((fu15 30 9 rfl).1)
              have lk19 : ((u15).1 30 8).toInt = (t.1 30 8).toInt := congrArg Int32.toInt ((fu15 30 8 rfl).1)
              have lk20 : ((u15).1 30 9).toInt = (t.1 30 9).toInt := congrArg Int32.toInt ((fu15 30 9 rfl).1)
              exact r_zret C (n_bool (by omega)) (oDec_at oX5_name 79 rfl) ⟨_, rfl, ⟨by omega, by omega, by omega, fun _ => (oqNl_fr fu15 rfl hq12), (oqKx_fr fu15 rfl iv8)⟩⟩
            · skip
              replace pu9_1 := pu9_1 (by omega)
              clear pu9_2
              have hM := oqM_3 (g := g) (h := a) (M := M) (N := N) iv6 iv7 (by omega) (htt.mp pu9_1)
              refine r_aload_n C (j := 0) (oDec_at oX5_name 70 rfl) rfl rfl ?_
              refine r_iconst C (oDec_at oX5_name 71 rfl) (v := k3) (by rw [qk3]; rfl) ?_
              refine r_aload_n C (j := 0) (oDec_at oX5_name 72 rfl) rfl rfl ?_
              refine r_geti (k := 2) (lo := 0) (hi := 1600) C v4 oCl5 rfl (by decide) flX5_23 rfl rfl (ev4) rfl rfl (oDec_at oX5_name 73 rfl) (fun _ _ => ?_)
              refine r_callVi C oCl5 rfl miX5_fail mlX5_62 (ct4_X5_fail l E (t) k3 v4 ) (by decide) rfl rfl rfl (Nat.le_of_ble_eq_true rfl) (oDec_at oX5_name 74 rfl) (fun r22 u21 pu21 fu21 => ?_)
              try dsimp only at pu21
              obtain ⟨pu21_0, pu21_1, pu21_2, pu21_3⟩ := pu21
              have rr22 := n_rng r22
              have lk23 : ((u21).1 30 2).toInt = v4.toInt := congrArg Int32.toInt (((fu21 30 2 rfl).1).trans (ev4))
              have lk24 : ((u21).1 30 3).toInt = (t.1 30 3).toInt := congrArg Int32.toInt ((fu21 30 3 rfl).1)
              exact r_zret C (n_bool (by omega)) (oDec_at oX5_name 75 rfl) ⟨_, rfl, ⟨by omega, by omega, by omega, fun h => by exfalso; omega, (oqKx_fr fu21 rfl iv8)⟩⟩
          · skip
            have hM := oqM_2 (g := g) (h := a) (M := M) (N := N) iv6 iv7 (by omega)
            refine r_aload_n C (j := 0) (oDec_at oX5_name 58 rfl) rfl rfl ?_
            refine r_iconst C (oDec_at oX5_name 59 rfl) (v := k1) (by rw [qk1]; rfl) ?_
            refine r_aload_n C (j := 0) (oDec_at oX5_name 60 rfl) rfl rfl ?_
            refine r_geti (k := 2) (lo := 0) (hi := 1600) C v4 oCl5 rfl (by decide) flX5_23 rfl rfl (ev4) rfl rfl (oDec_at oX5_name 61 rfl) (fun _ _ => ?_)
            refine r_bipush C (oDec_at oX5_name 62 rfl) (v := k6) (by rw [qk6]; rfl) ?_
            obtain ⟨v25, ev25⟩ : ∃ z : Int32, z = v4 + k6 := ⟨_, rfl⟩
            have hv25 : v25.toInt = v4.toInt + k6.toInt := n_add ev25 (by omega) (by omega)
            refine r_iadd C v25 (oDec_at oX5_name 63 rfl) ev25 ?_
            refine r_pc C 118 rfl ?_
            refine r_callVi C oCl5 rfl miX5_fail mlX5_62 (ct4_X5_fail l E (t) k1 v25 ) (by decide) rfl rfl rfl (Nat.le_of_ble_eq_true rfl) (oDec_at oX5_name 64 rfl) (fun r27 u26 pu26 fu26 => ?_)
            try dsimp only at pu26
            obtain ⟨pu26_0, pu26_1, pu26_2, pu26_3⟩ := pu26
            have rr27 := n_rng r27
            have lk28 : ((u26).1 30 2).toInt = v4.toInt := congrArg Int32.toInt (((fu26 30 2 rfl).1).trans (ev4))
            have lk29 : ((u26).1 30 3).toInt = (t.1 30 3).toInt := congrArg Int32.toInt ((fu26 30 3 rfl).1)
            exact r_zret C (n_bool (by omega)) (oDec_at oX5_name 65 rfl) ⟨_, rfl, ⟨by omega, by omega, by omega, fun h => by exfalso; omega, (oqKx_fr fu26 rfl iv8)⟩⟩
        · skip
          refine r_aload_n C (j := 0) (oDec_at oX5_name 25 rfl) rfl rfl ?_
          refine r_getS (k := 1) (q2 := 0) C oCl5 rfl (by decide) flX5_19 rfl rfl rfl ks1 (oDec_at oX5_name 26 rfl) (fun b30 rb30 mb30 hkb30 => ?_)
          have hnq := oqNq_at iv5 rb30
          obtain ⟨hnq7, hnq8, hnq9⟩ := hnq
          clear hnq9
          refine r_iload_n C (j := 1) (oDec_at oX5_name 27 rfl) rfl rfl ?_
          refine r_aload_n C (j := 0) (oDec_at oX5_name 28 rfl) rfl rfl ?_
          obtain ⟨v31, ev31⟩ : ∃ z : Int32, (t).1 30 2 = z := ⟨_, rfl⟩
          have gv31 : (t.1 30 2).toInt = v31.toInt := congrArg Int32.toInt (ev31)
          refine r_geti (k := 2) (lo := 0) (hi := 1600) C v31 oCl5 rfl (by decide) flX5_23 rfl rfl (ev31) rfl rfl (oDec_at oX5_name 29 rfl) (fun b32 b32h => ?_)
          refine r_iload_n C (j := 1) (oDec_at oX5_name 30 rfl) rfl rfl ?_
          refine r_pc C 56 rfl ?_
          obtain ⟨v33, ev33⟩ : ∃ z : Int32, z = v31 + x1 := ⟨_, rfl⟩
          have hv33 : v33.toInt = v31.toInt + x1.toInt := n_add ev33 (by omega) (by omega)
          refine r_iadd C v33 (oDec_at oX5_name 31 rfl) ev33 ?_
          refine r_aload_n C (j := 0) (oDec_at oX5_name 32 rfl) rfl rfl ?_
          obtain ⟨v34, ev34⟩ : ∃ z : Int32, (t).1 30 4 = z := ⟨_, rfl⟩
          have gv34 : (t.1 30 4).toInt = v34.toInt := congrArg Int32.toInt (ev34)
          refine r_geti (k := 4) (lo := 0) (hi := 1600) C v34 oCl5 rfl (by decide) flX5_130 rfl rfl (ev34) rfl rfl (oDec_at oX5_name 33 rfl) (fun b35 b35h => ?_)
          refine r_icmp_ge C 85 (oDec_at oX5_name 34 rfl) (by decide) (fun cd36 => ?_) (fun cd36 => ?_)
          · skip
            refine r_iconst C (oDec_at oX5_name 47 rfl) (v := k0) (by rw [qk0]; rfl) ?_
            have hkn := oqKx_ne iv8 (rb30)
            refine r_callVv C oCl0 hkb30 miX0_spell mlX5_137 (ct9_X0_spell l E (t) b30 hkb30 x1 k0 (d) (G) (by omega) iv8) (by decide) rfl rfl rfl (Nat.le_of_ble_eq_true rfl) (oDec_at oX5_name 48 rfl) (fun u37 pu37 fu37 => ?_)
            try dsimp only at pu37
            obtain ⟨pu37_0, pu37_1⟩ := pu37
            obtain ⟨v39, ev39⟩ : ∃ z : Int32, x1 + Int32.ofInt 1 = z := ⟨_, rfl⟩
            have hv39 : v39.toInt = x1.toInt + 1 := n_inc ev39 (by decide) (by omega) (by omega)
            refine r_iinc C (j := 1) (lv' := [(0, .ref (oad E 30)), (1, .int v39)]) v39 [1, 0] (oDec_at oX5_name 49 rfl) rfl ev39 (by decide) rfl ?_
            refine r_goto C (tgt := 40) (oDec_at oX5_name 50 rfl) (by decide) ?_
            have lk40 : ((u37).1 30 2).toInt = v31.toInt := congrArg Int32.toInt (((fu37 30 2 rfl).1).trans (ev31))
            have lk41 : ((u37).1 30 4).toInt = v34.toInt := congrArg Int32.toInt (((fu37 30 4 rfl).1).trans (ev34))
            have lk42 : ((u37).1 30 8).toInt = (t.1 30 8).toInt := congrArg Int32.toInt ((fu37 30 8 rfl).1)
            have lk43 : ((u37).1 30 9).toInt = (t.1 30 9).toInt := congrArg Int32.toInt ((fu37 30 9 rfl).1)
            exact (ih (n - 1) (by omega)) (u37) v39  (oqX_fr fu37 rfl iv0) (by omega) (by omega) (by omega) (by omega) (by first | exact oqNq_nx (k := x1.toNatClampNeg) iv5 (((fu37 30 1 rfl).2.2).trans (rb30)) fu37 rfl (pu37_0 (by omega)) (by omega) (by omega) (by omega) (by omega) (by first | (rw [oqN6_in (by omega)]; omega) | (rw [oqN6_out (by omega)]; omega)) (by omega) | exact oqNq_0 (by assumption) (by omega)) (by omega) (by omega) pu37_1 (by omega)
          · skip
            refine r_aload_n C (j := 0) (oDec_at oX5_name 35 rfl) rfl rfl ?_
            refine r_getF (k := 0) (b := 1) C oCl5 rfl (by decide) flX5_15 rfl rfl rfl (oDec_at oX5_name 36 rfl) ?_
            refine r_aload_n C (j := 0) (oDec_at oX5_name 37 rfl) rfl rfl ?_
            refine r_geti (k := 2) (lo := 0) (hi := 1600) C v31 oCl5 rfl (by decide) flX5_23 rfl rfl (ev31) rfl rfl (oDec_at oX5_name 38 rfl) (fun _ _ => ?_)
            refine r_iload_n C (j := 1) (oDec_at oX5_name 39 rfl) rfl rfl ?_
            obtain ⟨v44, ev44⟩ : ∃ z : Int32, z = v31 + x1 := ⟨_, rfl⟩
            have hv44 : v44.toInt = v31.toInt + x1.toInt := n_add ev44 (by omega) (by omega)
            refine r_iadd C v44 (oDec_at oX5_name 40 rfl) ev44 ?_
            refine r_pc C 74 rfl ?_
            refine r_callVi C oCl8 rfl miX8_at mlX5_133 (ct4_X8_at l E (t) v44 (g) (oqSk g a + (x1.toNatClampNeg : Int)) (by omega) iv0) (by decide) rfl rfl rfl (Nat.le_of_ble_eq_true rfl) (oDec_at oX5_name 41 rfl) (fun r46 u45 pu45 fu45 => ?_)
            try dsimp only at pu45
            obtain ⟨pu45_0, pu45_1, pu45_2, pu45_3⟩ := pu45
            have hxu45 := oFr_nil fu45; subst hxu45
            have rr46 := n_rng r46
            refine r_bipush C (oDec_at oX5_name 42 rfl) (v := k97) (by rw [qk97]; rfl) ?_
            obtain ⟨v47, ev47⟩ : ∃ z : Int32, z = r46 - k97 := ⟨_, rfl⟩
            have hv47 : v47.toInt = r46.toInt - k97.toInt := n_sub ev47 (by omega) (by omega)
            refine r_isub C v47 (oDec_at oX5_name 43 rfl) ev47 ?_
            refine r_iconst C (oDec_at oX5_name 44 rfl) (v := k1) (by rw [qk1]; rfl) ?_
            obtain ⟨v48, ev48⟩ : ∃ z : Int32, z = v47 + k1 := ⟨_, rfl⟩
            have hv48 : v48.toInt = v47.toInt + k1.toInt := n_add ev48 (by omega) (by omega)
            refine r_iadd C v48 (oDec_at oX5_name 45 rfl) ev48 ?_
            refine r_goto C (tgt := 86) (oDec_at oX5_name 46 rfl) (by decide) ?_
            have hkn := oqKx_ne iv8 (rb30)
            refine r_callVv C oCl0 hkb30 miX0_spell mlX5_137 (ct9_X0_spell l E (t) b30 hkb30 x1 v48 (d) (G) (by omega) iv8) (by decide) rfl rfl rfl (Nat.le_of_ble_eq_true rfl) (oDec_at oX5_name 48 rfl) (fun u49 pu49 fu49 => ?_)
            try dsimp only at pu49
            obtain ⟨pu49_0, pu49_1⟩ := pu49
            refine r_pc C 89 rfl ?_
            obtain ⟨v51, ev51⟩ : ∃ z : Int32, x1 + Int32.ofInt 1 = z := ⟨_, rfl⟩
            have hv51 : v51.toInt = x1.toInt + 1 := n_inc ev51 (by decide) (by omega) (by omega)
            refine r_iinc C (j := 1) (lv' := [(0, .ref (oad E 30)), (1, .int v51)]) v51 [1, 0] (oDec_at oX5_name 49 rfl) rfl ev51 (by decide) rfl ?_
            refine r_goto C (tgt := 40) (oDec_at oX5_name 50 rfl) (by decide) ?_
            have lk52 : ((u49).1 30 2).toInt = v31.toInt := congrArg Int32.toInt (((fu49 30 2 rfl).1).trans (ev31))
            have lk53 : ((u49).1 30 4).toInt = v34.toInt := congrArg Int32.toInt (((fu49 30 4 rfl).1).trans (ev34))
            have lk54 : ((u49).1 30 8).toInt = (t.1 30 8).toInt := congrArg Int32.toInt ((fu49 30 8 rfl).1)
            have lk55 : ((u49).1 30 9).toInt = (t.1 30 9).toInt := congrArg Int32.toInt ((fu49 30 9 rfl).1)
            exact (ih (n - 1) (by omega)) (u49) v51  (oqX_fr fu49 rfl iv0) (by omega) (by omega) (by omega) (by omega) (by first | exact oqNq_nx (k := x1.toNatClampNeg) iv5 (((fu49 30 1 rfl).2.2).trans (rb30)) fu49 rfl (pu49_0 (by omega)) (by omega) (by omega) (by omega) (by omega) (by first | (rw [oqN6_in (by omega)]; omega) | (rw [oqN6_out (by omega)]; omega)) (by omega) | exact oqNq_0 (by assumption) (by omega)) (by omega) (by omega) pu49_1 (by omega)
  refine r_aload_n C (j := 0) (oDec_at oX5_name 0 rfl) rfl rfl ?_
  refine r_callVi C oCl5 rfl miX5_peek mlX5_43 (ct4_X5_peek l E (s)  (g) (a) (by omega) hp2) (by decide) rfl rfl rfl (Nat.le_of_ble_eq_true rfl) (oDec_at oX5_name 1 rfl) (fun r57 u56 pu56 fu56 => ?_)
  try dsimp only at pu56
  obtain ⟨pu56_0, pu56_1, pu56_2, pu56_3, pu56_4, pu56_5⟩ := pu56
  have rr57 := n_rng r57
  have hss := oqSk_sk (g := g) (a := a) ⟨by omega, by omega⟩
  have hg2 : g (oqSk g (oqSk g a)) = g (oqSk g a) := by rw [hss]
  refine r_callSi C miX5_isLetter mlX5_127 (ct_X5_isLetter l E (u56) r57 ) (by decide) rfl rfl rfl (Nat.le_of_ble_eq_true rfl) (oDec_at oX5_name 2 rfl) (fun r59 u58 pu58 fu58 => ?_)
  try dsimp only at pu58
  obtain ⟨pu58_0, pu58_1⟩ := pu58
  have hxu58 := oFr_nil fu58; subst hxu58
  have rr59 := n_rng r59
  refine r_if_ne C 20 (oDec_at oX5_name 3 rfl) (by decide) (fun cd60 => ?_) (fun cd60 => ?_)
  · skip
    have hna : oqSk g a ≠ a := fun h9 => by have h8 := congrArg g h9; omega
    refine r_aload_n C (j := 0) (oDec_at oX5_name 10 rfl) rfl rfl ?_
    have lk61 : ((u56).1 30 3).toInt = (s.1 30 3).toInt := congrArg Int32.toInt ((fu56 30 3 rfl).1)
    refine r_callVi C oCl5 rfl miX5_wordAhead mlX5_91 (ct5_X5_wordAhead l E (u56)  (g) (oqSk g a) (a) (by omega) (by omega) (oqX_fr fu56 rfl hp2)) (by decide) rfl rfl rfl (Nat.le_of_ble_eq_true rfl) (oDec_at oX5_name 11 rfl) (fun r63 u62 pu62 fu62 => ?_)
    try dsimp only at pu62
    try simp only [lk61] at pu62
    obtain ⟨pu62_0, pu62_1, pu62_2, pu62_3, pu62_4, pu62_5, pu62_6⟩ := pu62
    have rr63 := n_rng r63
    have hj := oqWi_eq pu62_2 ⟨by omega, by omega⟩
    have hjs := oqWi_sk (b := a) hss
    have hwe := pu62_6 (by omega) (by omega)
    rw [hss] at hwe
    clear pu62_2 pu62_3 pu62_6
    refine r_iconst C (oDec_at oX5_name 12 rfl) (v := km1) (by rw [qkm1]; rfl) ?_
    refine r_icmp_eq C 38 (oDec_at oX5_name 13 rfl) (by decide) (fun cd64 => ?_) (fun cd64 => ?_)
    · skip
      refine r_ty C (fun hty => ?_)
      have hta : (0 : Int) ≤ ((u62).1 30 2).toInt ∧ ((u62).1 30 2).toInt ≤ 1600 := hty.1 30 2
      clear hty
      refine r_iconst C (oDec_at oX5_name 20 rfl) (v := k0) (by rw [qk0]; rfl) ?_
      refine r_istore_n C (lv' := [(0, .ref (oad E 30)), (1, .int k0)]) [1, 0] (oDec_at oX5_name 21 rfl) rfl (by decide) rfl ?_
      have lk65 : ((u62).1 30 8).toInt = (s.1 30 8).toInt := congrArg Int32.toInt (((fu62 30 8 rfl).1).trans ((fu56 30 8 rfl).1))
      have lk66 : ((u62).1 30 9).toInt = (s.1 30 9).toInt := congrArg Int32.toInt (((fu62 30 9 rfl).1).trans ((fu56 30 9 rfl).1))
      exact (key (7 - k0.toInt).toNat) (u62) k0  (oqX_fr fu62 rfl (oqX_fr fu56 rfl hp2)) (by omega) (by omega) (by omega) (by omega) (by first | exact oqNq_0 (oqNl_fr fu62 rfl (oqNl_fr fu56 rfl hp3)) (by omega)) (by omega) (by omega) (oqKx_fr fu62 rfl (oqKx_fr fu56 rfl hp6)) (by omega)
    · skip
      have hM := oqM_1 (g := g) (h := a) (M := M) (N := N) (Or.inr (by omega))
      refine r_aload_n C (j := 0) (oDec_at oX5_name 14 rfl) rfl rfl ?_
      refine r_iconst C (oDec_at oX5_name 15 rfl) (v := k1) (by rw [qk1]; rfl) ?_
      refine r_aload_n C (j := 0) (oDec_at oX5_name 16 rfl) rfl rfl ?_
      obtain ⟨v67, ev67⟩ : ∃ z : Int32, (u62).1 30 2 = z := ⟨_, rfl⟩
      have gv67 : (u62.1 30 2).toInt = v67.toInt := congrArg Int32.toInt (ev67)
      refine r_geti (k := 2) (lo := 0) (hi := 1600) C v67 oCl5 rfl (by decide) flX5_23 rfl rfl (ev67) rfl rfl (oDec_at oX5_name 17 rfl) (fun b68 b68h => ?_)
      refine r_callVi C oCl5 rfl miX5_fail mlX5_62 (ct4_X5_fail l E (u62) k1 v67 ) (by decide) rfl rfl rfl (Nat.le_of_ble_eq_true rfl) (oDec_at oX5_name 18 rfl) (fun r70 u69 pu69 fu69 => ?_)
      try dsimp only at pu69
      obtain ⟨pu69_0, pu69_1, pu69_2, pu69_3⟩ := pu69
      have rr70 := n_rng r70
      have lk71 : ((u69).1 30 2).toInt = v67.toInt := congrArg Int32.toInt (((fu69 30 2 rfl).1).trans (ev67))
      have lk72 : ((u69).1 30 3).toInt = (s.1 30 3).toInt := congrArg Int32.toInt (((fu69 30 3 rfl).1).trans (((fu62 30 3 rfl).1).trans ((fu56 30 3 rfl).1)))
      exact r_zret C (n_bool (by omega)) (oDec_at oX5_name 19 rfl) ⟨_, rfl, ⟨by omega, by omega, by omega, fun h => by exfalso; omega, (oqKx_fr fu69 rfl (oqKx_fr fu62 rfl (oqKx_fr fu56 rfl hp6)))⟩⟩
  · skip
    have hM := oqM_1 (g := g) (h := a) (M := M) (N := N) (Or.inl (by omega))
    refine r_aload_n C (j := 0) (oDec_at oX5_name 4 rfl) rfl rfl ?_
    refine r_iconst C (oDec_at oX5_name 5 rfl) (v := k1) (by rw [qk1]; rfl) ?_
    refine r_aload_n C (j := 0) (oDec_at oX5_name 6 rfl) rfl rfl ?_
    obtain ⟨v73, ev73⟩ : ∃ z : Int32, (u56).1 30 2 = z := ⟨_, rfl⟩
    have gv73 : (u56.1 30 2).toInt = v73.toInt := congrArg Int32.toInt (ev73)
    refine r_geti (k := 2) (lo := 0) (hi := 1600) C v73 oCl5 rfl (by decide) flX5_23 rfl rfl (ev73) rfl rfl (oDec_at oX5_name 7 rfl) (fun b74 b74h => ?_)
    refine r_callVi C oCl5 rfl miX5_fail mlX5_62 (ct4_X5_fail l E (u56) k1 v73 ) (by decide) rfl rfl rfl (Nat.le_of_ble_eq_true rfl) (oDec_at oX5_name 8 rfl) (fun r76 u75 pu75 fu75 => ?_)
    try dsimp only at pu75
    obtain ⟨pu75_0, pu75_1, pu75_2, pu75_3⟩ := pu75
    have rr76 := n_rng r76
    have lk77 : ((u75).1 30 2).toInt = v73.toInt := congrArg Int32.toInt (((fu75 30 2 rfl).1).trans (ev73))
    have lk78 : ((u75).1 30 3).toInt = (s.1 30 3).toInt := congrArg Int32.toInt (((fu75 30 3 rfl).1).trans ((fu56 30 3 rfl).1))
    exact r_zret C (n_bool (by omega)) (oDec_at oX5_name 9 rfl) ⟨_, rfl, ⟨by omega, by omega, by omega, fun h => by exfalso; omega, (oqKx_fr fu75 rfl (oqKx_fr fu56 rfl hp6))⟩⟩
set_option maxHeartbeats 4000000 in
set_option maxRecDepth 100000 in
theorem ct9_X5_measure (l : Launch) (E : oE) (s : oS)  (g : Int → Int) (a : Int) (b : Int) (bc : Nat) (d : Nat) (G : Nat → Nat → Int32) (hp0 : (s.1 30 2).toInt = a) (hp1 : (s.1 30 3).toInt = b) (hp2 : oqX g s) (hp3 : oqRw bc s) (hp4 : oqKx d G s) : oMet l 3 yX5_measure cX5_measure 2 (some .boolean) [(0, 6), (5, 2), (5, 3), (5, 8), (5, 9)] E s [.ref (oad E 30)] (oPi (fun r u => (0 ≤ r.toInt ∧ r.toInt ≤ 1) ∧ (r.toInt = 1 → (oqNk g a b 2 12 = 0 ∧ (u.1 30 2).toInt = oqNa g a ∧ (u.1 30 3).toInt = oqNa g a ∧ (u.1 30 8).toInt = (s.1 30 8).toInt ∧ (u.1 30 9).toInt = (s.1 30 9).toInt)) ∧ (r.toInt = 0 → (oqNk g a b 2 12 ≠ 0 ∧ (u.1 30 8).toInt = oqNk g a b 2 12 ∧ (u.1 30 9).toInt = oqNp g a b)) ∧ (oqKx d G u) ∧ (r.toInt = 1 → owBM bc (oqNv g a) u))) := by
  refine oMet.of (lv := [(0, .ref (oad E 30))]) (by decide +kernel) (Nat.le_of_ble_eq_true rfl) rfl (fun J C hT => ?_)
  have C : oC l 3 cX5_measure RX5 2 (some .boolean) [(0, 6), (5, 2), (5, 3), (5, 8), (5, 9)] E s (oPi (fun r u => (0 ≤ r.toInt ∧ r.toInt ≤ 1) ∧ (r.toInt = 1 → (oqNk g a b 2 12 = 0 ∧ (u.1 30 2).toInt = oqNa g a ∧ (u.1 30 3).toInt = oqNa g a ∧ (u.1 30 8).toInt = (s.1 30 8).toInt ∧ (u.1 30 9).toInt = (s.1 30 9).toInt)) ∧ (r.toInt = 0 → (oqNk g a b 2 12 ≠ 0 ∧ (u.1 30 8).toInt = oqNk g a b 2 12 ∧ (u.1 30 9).toInt = oqNp g a b)) ∧ (oqKx d G u) ∧ (r.toInt = 1 → owBM bc (oqNv g a) u))) J := C
  obtain ⟨km1, qkm1⟩ : ∃ z : Int32, z = (-1) := ⟨_, rfl⟩
  have ekm1 : km1.toInt = (-1) := by rw [qkm1]; rfl
  obtain ⟨k0, qk0⟩ : ∃ z : Int32, z = 0 := ⟨_, rfl⟩
  have ek0 : k0.toInt = 0 := by rw [qk0]; rfl
  obtain ⟨k1, qk1⟩ : ∃ z : Int32, z = 1 := ⟨_, rfl⟩
  have ek1 : k1.toInt = 1 := by rw [qk1]; rfl
  obtain ⟨k2, qk2⟩ : ∃ z : Int32, z = 2 := ⟨_, rfl⟩
  have ek2 : k2.toInt = 2 := by rw [qk2]; rfl
  obtain ⟨k12, qk12⟩ : ∃ z : Int32, z = 12 := ⟨_, rfl⟩
  have ek12 : k12.toInt = 12 := by rw [qk12]; rfl
  refine r_aload_n C (j := 0) (oDec_at oX5_measure 0 rfl) rfl rfl ?_
  refine r_iconst C (oDec_at oX5_measure 1 rfl) (v := k2) (by rw [qk2]; rfl) ?_
  refine r_bipush C (oDec_at oX5_measure 2 rfl) (v := k12) (by rw [qk12]; rfl) ?_
  refine r_callVi C oCl5 rfl miX5_number mlX5_70 (ct4_X5_number l E (s) k2 k12 (g) (a) (b) (2) (12) (by omega) (by omega) hp2 (by omega) (by omega) (by omega)) (by decide) rfl rfl rfl (Nat.le_of_ble_eq_true rfl) (oDec_at oX5_measure 3 rfl) (fun r2 u1 pu1 fu1 => ?_)
  try dsimp only at pu1
  obtain ⟨pu1_0, pu1_1⟩ := pu1
  have rr2 := n_rng r2
  refine r_istore_n C (lv' := [(0, .ref (oad E 30)), (1, .int r2)]) [1, 0] (oDec_at oX5_measure 4 rfl) rfl (by decide) rfl ?_
  refine r_iload_n C (j := 1) (oDec_at oX5_measure 5 rfl) rfl rfl ?_
  refine r_pc C 9 rfl ?_
  refine r_iconst C (oDec_at oX5_measure 6 rfl) (v := km1) (by rw [qkm1]; rfl) ?_
  refine r_icmp_ne C 15 (oDec_at oX5_measure 7 rfl) (by decide) (fun cd3 => ?_) (fun cd3 => ?_)
  · skip
    replace pu1_0 := pu1_0.resolve_left (by omega)
    refine r_aload_n C (j := 0) (oDec_at oX5_measure 10 rfl) rfl rfl ?_
    refine r_getS (k := 1) (q2 := 0) C oCl5 rfl (by decide) flX5_19 rfl rfl rfl ks1 (oDec_at oX5_measure 11 rfl) (fun b4 rb4 mb4 hkb4 => ?_)
    have hbb : b4 = bc := oqRw_eq (oqRw_fr fu1 rfl hp3) (rb4)
    have hkn : b4 ≠ d := oqKx_ne (oqKx_fr fu1 rfl hp4) (rb4)
    have hok9 := hkb4
    have hrf9 := (rb4)
    refine r_iload_n C (j := 1) (oDec_at oX5_measure 12 rfl) rfl rfl ?_
    refine r_putiN (k := 6) (lo := 2) (hi := 12) C oCl0 hkb4 (by decide) flX5_125 rfl rfl rfl rfl rfl rfl rfl rfl ⟨by omega, by omega⟩ (oDec_at oX5_measure 13 rfl) ?_
    have hq5 : oqKx d G ((pI u1 b4 6 r2)) := oqKx_p0 (oqKx_fr fu1 rfl hp4) hok9 hkn
    refine r_iconst C (oDec_at oX5_measure 14 rfl) (v := k1) (by rw [qk1]; rfl) ?_
    have lk6 : (((pI u1 b4 6 r2)).1 30 2).toInt = (u1.1 30 2).toInt := congrArg Int32.toInt ((pI_ne _ _ (Or.inl (okd_ne rfl hkb4 (by decide)))))
    have lk7 : (((pI u1 b4 6 r2)).1 30 3).toInt = (u1.1 30 3).toInt := congrArg Int32.toInt ((pI_ne _ _ (Or.inl (okd_ne rfl hkb4 (by decide)))))
    have lk8 : (((pI u1 b4 6 r2)).1 30 8).toInt = (u1.1 30 8).toInt := congrArg Int32.toInt ((pI_ne _ _ (Or.inl (okd_ne rfl hkb4 (by decide)))))
    have lk9 : (((pI u1 b4 6 r2)).1 30 9).toInt = (u1.1 30 9).toInt := congrArg Int32.toInt ((pI_ne _ _ (Or.inl (okd_ne rfl hkb4 (by decide)))))
    have lk10 : (((pI u1 b4 6 r2)).1 30 8).toInt = (u1.1 30 8).toInt := congrArg Int32.toInt ((pI_ne _ _ (Or.inl (okd_ne rfl hkb4 (by decide)))))
    have lk11 : (((pI u1 b4 6 r2)).1 30 9).toInt = (u1.1 30 9).toInt := congrArg Int32.toInt ((pI_ne _ _ (Or.inl (okd_ne rfl hkb4 (by decide)))))
    exact r_zret C (n_bool (by omega)) (oDec_at oX5_measure 15 rfl) ⟨_, rfl, ⟨by omega, by omega, by omega, hq5, fun _ => owBM_of hbb hok9 hrf9 (by omega)⟩⟩
  · skip
    clear pu1_0
    replace pu1_1 := pu1_1.resolve_left (by omega)
    refine r_iconst C (oDec_at oX5_measure 8 rfl) (v := k0) (by rw [qk0]; rfl) ?_
    exact r_zret C (n_bool (by omega)) (oDec_at oX5_measure 9 rfl) ⟨_, rfl, ⟨by omega, by omega, by omega, (oqKx_fr fu1 rfl hp4), by intro h; exfalso; omega⟩⟩
