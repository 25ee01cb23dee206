set_option maxHeartbeats 4000000 in
set_option maxRecDepth 100000 in
theorem ct4_X5_measure (l : Launch) (E : oE) (s : oS)  (g : Int → Int) (a : Int) (b : Int) (hp0 : (s.1 30 2).toInt = a) (hp1 : (s.1 30 3).toInt = b) (hp2 : oqX g s) : oMet l 3 yX5_measure cX5_measure 2 (some .boolean) [(0, 6), (5, 2), (5, 3), (5, 8), (5, 9)] E s [.ref (oad E 30)] (oPi (fun r u => (0 ≤ r.toInt ∧ r.toInt ≤ 1) ∧ (r.toInt = 1 → (oqNk g a b 2 12 = 0 ∧ (u.1 30 2).toInt = oqNa g a ∧ (u.1 30 3).toInt = oqNa g a ∧ (u.1 30 8).toInt = (s.1 30 8).toInt ∧ (u.1 30 9).toInt = (s.1 30 9).toInt)) ∧ (r.toInt = 0 → (oqNk g a b 2 12 ≠ 0 ∧ (u.1 30 8).toInt = oqNk g a b 2 12 ∧ (u.1 30 9).toInt = oqNp g a b)))) := by
  refine oMet.of (lv := [(0, .ref (oad E 30))]) (by decide +kernel) (Nat.le_of_ble_eq_true rfl) rfl (fun J C hT => ?_)
  have C : oC l 3 cX5_measure RX5 2 (some .boolean) [(0, 6), (5, 2), (5, 3), (5, 8), (5, 9)] E s (oPi (fun r u => (0 ≤ r.toInt ∧ r.toInt ≤ 1) ∧ (r.toInt = 1 → (oqNk g a b 2 12 = 0 ∧ (u.1 30 2).toInt = oqNa g a ∧ (u.1 30 3).toInt = oqNa g a ∧ (u.1 30 8).toInt = (s.1 30 8).toInt ∧ (u.1 30 9).toInt = (s.1 30 9).toInt)) ∧ (r.toInt = 0 → (oqNk g a b 2 12 ≠ 0 ∧ (u.1 30 8).toInt = oqNk g a b 2 12 ∧ (u.1 30 9).toInt = oqNp g a b)))) J := C
  obtain ⟨km1, qkm1⟩ : ∃ z : Int32, z = (-1) := ⟨_, rfl⟩
  have ekm1 : km1.toInt = (-1) := by rw [qkm1]; rfl
  obtain ⟨k0, qk0⟩ : ∃ z : Int32, z = 0 := ⟨_, rfl⟩
  have ek0 : k0.toInt = 0 := by rw [qk0]; rfl
  obtain ⟨k1, qk1⟩ : ∃ z : Int32, z = 1 := ⟨_, rfl⟩
  have ek1 : k1.toInt = 1 := by rw [qk1]; rfl
  obtain ⟨k2, qk2⟩ : ∃ z : Int32, z = 2 := ⟨_, rfl⟩
  have ek2 : k2.toInt = 2 := by rw [qk2]; rfl
  obtain ⟨k12, qk12⟩ : ∃ z : Int32, z = 12 := ⟨_, rfl⟩
  have ek12 : k12.toInt = 12 := by rw [qk12]; rfl
  refine r_aload_n C (j := 0) (oDec_at oX5_measure 0 rfl) rfl rfl ?_
  refine r_iconst C (oDec_at oX5_measure 1 rfl) (v := k2) (by rw [qk2]; rfl) ?_
  refine r_bipush C (oDec_at oX5_measure 2 rfl) (v := k12) (by rw [qk12]; rfl) ?_
  refine r_callVi C oCl5 rfl miX5_number mlX5_70 (ct4_X5_number l E (s) k2 k12 (g) (a) (b) (2) (12) (by omega) (by omega) hp2 (by omega) (by omega) (by omega)) (by decide) rfl rfl rfl (Nat.le_of_ble_eq_true rfl) (oDec_at oX5_measure 3 rfl) (fun r2 u1 pu1 fu1 => ?_)
  try dsimp only at pu1
  obtain ⟨pu1_0, pu1_1⟩ := pu1
  have rr2 := n_rng r2
  refine r_istore_n C (lv' := [(0, .ref (oad E 30)), (1, .int r2)]) [1, 0] (oDec_at oX5_measure 4 rfl) rfl (by decide) rfl ?_
  refine r_iload_n C (j := 1) (oDec_at oX5_measure 5 rfl) rfl rfl ?_
  refine r_pc C 9 rfl ?_
  refine r_iconst C (oDec_at oX5_measure 6 rfl) (v := km1) (by rw [qkm1]; rfl) ?_
  refine r_icmp_ne C 15 (oDec_at oX5_measure 7 rfl) (by decide) (fun cd3 => ?_) (fun cd3 => ?_)
  · skip
    replace pu1_0 := pu1_0.resolve_left (by omega)
    refine r_aload_n C (j := 0) (oDec_at oX5_measure 10 rfl) rfl rfl ?_
    refine r_getS (k := 1) (q2 := 0) C oCl5 rfl (by decide) flX5_19 rfl rfl rfl ks1 (oDec_at oX5_measure 11 rfl) (fun b4 rb4 mb4 hkb4 => ?_)
    refine r_iload_n C (j := 1) (oDec_at oX5_measure 12 rfl) rfl rfl ?_
    refine r_putiN (k := 6) (lo := 2) (hi := 12) C oCl0 hkb4 (by decide) flX5_125 rfl rfl rfl rfl rfl rfl rfl rfl ⟨by omega, by omega⟩ (oDec_at oX5_measure 13 rfl) ?_
    refine r_iconst C (oDec_at oX5_measure 14 rfl) (v := k1) (by rw [qk1]; rfl) ?_
    have lk5 : (((pI u1 b4 6 r2)).1 30 2).toInt = (u1.1 30 2).toInt := congrArg Int32.toInt ((pI_ne _ _ (Or.inl (okd_ne rfl hkb4 (by decide)))))
    have lk6 : (((pI u1 b4 6 r2)).1 30 3).toInt = (u1.1 30 3).toInt := congrArg Int32.toInt ((pI_ne _ _ (Or.inl (okd_ne rfl hkb4 (by decide)))))
    have lk7 : (((pI u1 b4 6 r2)).1 30 8).toInt = (u1.1 30 8).toInt := congrArg Int32.toInt ((pI_ne _ _ (Or.inl (okd_ne rfl hkb4 (by decide)))))
    have lk8 : (((pI u1 b4 6 r2)).1 30 9).toInt = (u1.1 30 9).toInt := congrArg Int32.toInt ((pI_ne _ _ (Or.inl (okd_ne rfl hkb4 (by decide)))))
    have lk9 : (((pI u1 b4 6 r2)).1 30 8).toInt = (u1.1 30 8).toInt := congrArg Int32.toInt ((pI_ne _ _ (Or.inl (okd_ne rfl hkb4 (by decide)))))
    have lk10 : (((pI u1 b4 6 r2)).1 30 9).toInt = (u1.1 30 9).toInt := congrArg Int32.toInt ((pI_ne _ _ (Or.inl (okd_ne rfl hkb4 (by decide)))))
    exact r_zret C (n_bool (by omega)) (oDec_at oX5_measure 15 rfl) ⟨_, rfl, ⟨by omega, by omega, by omega⟩⟩
  · skip
    clear pu1_0
    replace pu1_1 := pu1_1.resolve_left (by omega)
    refine r_iconst C (oDec_at oX5_measure 8 rfl) (v := k0) (by rw [qk0]; rfl) ?_
    exact r_zret C (n_bool (by omega)) (oDec_at oX5_measure 9 rfl) ⟨_, rfl, ⟨by omega, by omega, by omega⟩⟩
set_option maxHeartbeats 4000000 in
set_option maxRecDepth 100000 in
theorem ct4_X0_close (l : Launch) (E : oE) (s : oS) (c0 : Nat) (hk0 : okd c0 = 0) (a1 : Int32) (a2 : Int32)  (hp0 : 0 ≤ a1.toInt ∧ a1.toInt ≤ 1) (hp1 : 0 ≤ a2.toInt ∧ a2.toInt ≤ 1600) (hp2 : a1.toInt = 1 → (s.1 c0 8).toInt ≤ 5) (hp3 : a1.toInt = 0 → (s.1 c0 7).toInt ≤ 11) : oMet l 1 yX0_close cX0_close 4 none [(0, 7), (0, 8), (21, 9999), (22, 9999)] E s [.ref (oad E c0), .int a1, .int a2] (oPv (fun u => ((u.1 c0 8).toInt = (s.1 c0 8).toInt + a1.toInt) ∧ ((u.1 c0 7).toInt = (s.1 c0 7).toInt + 1 - a1.toInt))) := by
  refine oMet.of (lv := [(0, .ref (oad E c0)), (1, .int a1), (2, .int a2)]) (by decide +kernel) (Nat.le_of_ble_eq_true rfl) rfl (fun J C hT => ?_)
  have C : oC l 1 cX0_close RX0 4 none [(0, 7), (0, 8), (21, 9999), (22, 9999)] E s (oPv (fun u => ((u.1 c0 8).toInt = (s.1 c0 8).toInt + a1.toInt) ∧ ((u.1 c0 7).toInt = (s.1 c0 7).toInt + 1 - a1.toInt))) J := C
  obtain ⟨k0, qk0⟩ : ∃ z : Int32, z = 0 := ⟨_, rfl⟩
  have ek0 : k0.toInt = 0 := by rw [qk0]; rfl
  obtain ⟨k1, qk1⟩ : ∃ z : Int32, z = 1 := ⟨_, rfl⟩
  have ek1 : k1.toInt = 1 := by rw [qk1]; rfl
  obtain ⟨k12, qk12⟩ : ∃ z : Int32, z = 12 := ⟨_, rfl⟩
  have ek12 : k12.toInt = 12 := by rw [qk12]; rfl
  obtain ⟨k18, qk18⟩ : ∃ z : Int32, z = 18 := ⟨_, rfl⟩
  have ek18 : k18.toInt = 18 := by rw [qk18]; rfl
  have rg1 := n_rng a1
  have rg2 := n_rng a2
  refine r_iload_n C (j := 1) (oDec_at oX0_close 0 rfl) rfl rfl ?_
  refine r_if_eq C 14 (oDec_at oX0_close 1 rfl) (by decide) (fun cd1 => ?_) (fun cd1 => ?_)
  · skip
    refine r_aload_n C (j := 0) (oDec_at oX0_close 7 rfl) rfl rfl ?_
    obtain ⟨v2, ev2⟩ : ∃ z : Int32, (s).1 c0 7 = z := ⟨_, rfl⟩
    have gv2 : (s.1 c0 7).toInt = v2.toInt := congrArg Int32.toInt (ev2)
    refine r_geti (k := 7) (lo := 0) (hi := 12) C v2 oCl0 hk0 (by decide) flX0_36 rfl rfl (ev2) rfl rfl (oDec_at oX0_close 8 rfl) (fun b3 b3h => ?_)
    refine r_istore_n C (lv' := [(0, .ref (oad E c0)), (1, .int a1), (2, .int a2), (3, .int v2)]) [1, 2, 3, 0] (oDec_at oX0_close 9 rfl) rfl (by decide) rfl ?_
    refine r_iload_n C (j := 3) (oDec_at oX0_close 10 rfl) rfl rfl ?_
    refine r_bipush C (oDec_at oX0_close 11 rfl) (v := k18) (by rw [qk18]; rfl) ?_
    refine r_icmp_lt C 26 (oDec_at oX0_close 12 rfl) (by decide) (fun cd4 => ?_) (fun cd4 => ?_)
    · skip
      refine r_aload_n C (j := 0) (oDec_at oX0_close 14 rfl) rfl rfl ?_
      refine r_getR (k := 2) (b := 2) C oCl0 hk0 (by decide) flX0_17 rfl rfl rfl (oDec_at oX0_close 15 rfl) ?_
      refine r_iload_n C (j := 3) (oDec_at oX0_close 16 rfl) rfl rfl ?_
      refine r_iload_n C (j := 2) (oDec_at oX0_close 17 rfl) rfl rfl ?_
      refine r_iast (n := 18) (lo := 0) (hi := 1600) C (kr0_2 hk0) (by decide) rfl rfl ⟨by omega, by omega⟩ (by decide) rfl rfl rfl rfl ⟨by omega, by omega⟩ (oDec_at oX0_close 18 rfl) ?_
      refine r_aload_n C (j := 0) (oDec_at oX0_close 19 rfl) rfl rfl ?_
      refine r_pc C 34 rfl ?_
      refine r_getR (k := 3) (b := 3) C oCl0 hk0 (by decide) flX0_20 rfl rfl rfl (oDec_at oX0_close 20 rfl) ?_
      refine r_iload_n C (j := 3) (oDec_at oX0_close 21 rfl) rfl rfl ?_
      refine r_aload_n C (j := 0) (oDec_at oX0_close 22 rfl) rfl rfl ?_
      obtain ⟨v5, ev5⟩ : ∃ z : Int32, ((pI s (c0 + 2) v2.toNatClampNeg a2)).1 c0 1 = z := ⟨_, rfl⟩
      have gv5 : (s.1 c0 1).toInt = v5.toInt := congrArg Int32.toInt (((pI_ne _ _ (Or.inl (okd_ne hk0 (kr0_2 hk0) (by decide))))).symm.trans ev5)
      have ggv5 : (((pI s (c0 + 2) v2.toNatClampNeg a2)).1 c0 1).toInt = v5.toInt := congrArg Int32.toInt ev5
      refine r_geti (k := 1) (lo := 0) (hi := 1600) C v5 oCl0 hk0 (by decide) flX0_33 rfl rfl (ev5) rfl rfl (oDec_at oX0_close 23 rfl) (fun b6 b6h => ?_)
      refine r_iast (n := 18) (lo := (-2147483648)) (hi := 2147483647) C (kr0_3 hk0) (by decide) rfl rfl ⟨by omega, by omega⟩ (by decide) rfl rfl rfl rfl (n_rng _) (oDec_at oX0_close 24 rfl) ?_
      refine r_aload_n C (j := 0) (oDec_at oX0_close 25 rfl) rfl rfl ?_
      refine r_pc C 44 rfl ?_
      refine r_dup C (oDec_at oX0_close 26 rfl) rfl ?_
      obtain ⟨v7, ev7⟩ : ∃ z : Int32, ((pI (pI s (c0 + 2) v2.toNatClampNeg a2) (c0 + 3) v2.toNatClampNeg v5)).1 c0 8 = z := ⟨_, rfl⟩
      have gv7 : (s.1 c0 8).toInt = v7.toInt := congrArg Int32.toInt ((((pI_ne _ _ (Or.inl (okd_ne hk0 (kr0_3 hk0) (by decide))))).trans ((pI_ne _ _ (Or.inl (okd_ne hk0 (kr0_2 hk0) (by decide)))))).symm.trans ev7)
      have ggv7 : (((pI (pI s (c0 + 2) v2.toNatClampNeg a2) (c0 + 3) v2.toNatClampNeg v5)).1 c0 8).toInt = v7.toInt := congrArg Int32.toInt ev7
      refine r_geti (k := 8) (lo := 0) (hi := 6) C v7 oCl0 hk0 (by decide) flX0_39 rfl rfl (ev7) rfl rfl (oDec_at oX0_close 27 rfl) (fun b8 b8h => ?_)
      refine r_iload_n C (j := 1) (oDec_at oX0_close 28 rfl) rfl rfl ?_
      refine r_if_eq C 56 (oDec_at oX0_close 29 rfl) (by decide) (fun cd9 => ?_) (fun cd9 => ?_)
      · skip
        refine r_iconst C (oDec_at oX0_close 32 rfl) (v := k0) (by rw [qk0]; rfl) ?_
        obtain ⟨v10, ev10⟩ : ∃ z : Int32, z = v7 + k0 := ⟨_, rfl⟩
        have hv10 : v10.toInt = v7.toInt + k0.toInt := n_add ev10 (by omega) (by omega)
        refine r_iadd C v10 (oDec_at oX0_close 33 rfl) ev10 ?_
        refine r_puti (k := 8) (lo := 0) (hi := 6) C oCl0 hk0 (by decide) flX0_39 rfl rfl rfl rfl rfl rfl rfl rfl ⟨by omega, by omega⟩ (oDec_at oX0_close 34 rfl) ?_
        refine r_aload_n C (j := 0) (oDec_at oX0_close 35 rfl) rfl rfl ?_
        refine r_dup C (oDec_at oX0_close 36 rfl) rfl ?_
        refine r_geti (k := 7) (lo := 0) (hi := 12) C v2 oCl0 hk0 (by decide) flX0_36 rfl rfl (((pI_ne (a := c0) (b := 7) (c := c0) (k := 8) _ _ (Or.inr (by decide)))).trans (((pI_ne _ _ (Or.inl (okd_ne hk0 (kr0_3 hk0) (by decide))))).trans (((pI_ne _ _ (Or.inl (okd_ne hk0 (kr0_2 hk0) (by decide))))).trans (ev2)))) rfl rfl (oDec_at oX0_close 37 rfl) (fun _ _ => ?_)
        refine r_pc C 66 rfl ?_
        refine r_iload_n C (j := 1) (oDec_at oX0_close 38 rfl) rfl rfl ?_
        refine r_if_eq C 74 (oDec_at oX0_close 39 rfl) (by decide) (fun cd11 => ?_) (fun cd11 => ?_)
        · skip
          refine r_iconst C (oDec_at oX0_close 42 rfl) (v := k1) (by rw [qk1]; rfl) ?_
          obtain ⟨v12, ev12⟩ : ∃ z : Int32, z = v2 + k1 := ⟨_, rfl⟩
          have hv12 : v12.toInt = v2.toInt + k1.toInt := n_add ev12 (by omega) (by omega)
          refine r_iadd C v12 (oDec_at oX0_close 43 rfl) ev12 ?_
          refine r_puti (k := 7) (lo := 0) (hi := 12) C oCl0 hk0 (by decide) flX0_36 rfl rfl rfl rfl rfl rfl rfl rfl ⟨by omega, by omega⟩ (oDec_at oX0_close 44 rfl) ?_
          have lk13 : (((pI (pI (pI (pI s (c0 + 2) v2.toNatClampNeg a2) (c0 + 3) v2.toNatClampNeg v5) c0 8 v10) c0 7 v12)).1 c0 8).toInt = v10.toInt := congrArg Int32.toInt (((pI_ne (a := c0) (b := 8) (c := c0) (k := 7) _ _ (Or.inr (by decide)))).trans ((pI_self _ _ _ _)))
          have lk14 : (((pI (pI (pI (pI s (c0 + 2) v2.toNatClampNeg a2) (c0 + 3) v2.toNatClampNeg v5) c0 8 v10) c0 7 v12)).1 c0 7).toInt = v12.toInt := congrArg Int32.toInt ((pI_self _ _ _ _))
          exact r_vret C (oDec_at oX0_close 45 rfl) ⟨rfl, ⟨by omega, by omega⟩⟩
        · omega
      · omega
    · skip
      have lk15 : ((s).1 c0 7).toInt = v2.toInt := congrArg Int32.toInt (ev2)
      exact r_vret C (oDec_at oX0_close 13 rfl) ⟨rfl, ⟨by omega, by omega⟩⟩
  · skip
    refine r_bipush C (oDec_at oX0_close 2 rfl) (v := k12) (by rw [qk12]; rfl) ?_
    refine r_aload_n C (j := 0) (oDec_at oX0_close 3 rfl) rfl rfl ?_
    obtain ⟨v16, ev16⟩ : ∃ z : Int32, (s).1 c0 8 = z := ⟨_, rfl⟩
    have gv16 : (s.1 c0 8).toInt = v16.toInt := congrArg Int32.toInt (ev16)
    refine r_geti (k := 8) (lo := 0) (hi := 6) C v16 oCl0 hk0 (by decide) flX0_39 rfl rfl (ev16) rfl rfl (oDec_at oX0_close 4 rfl) (fun b17 b17h => ?_)
    obtain ⟨v18, ev18⟩ : ∃ z : Int32, z = k12 + v16 := ⟨_, rfl⟩
    have hv18 : v18.toInt = k12.toInt + v16.toInt := n_add ev18 (by omega) (by omega)
    refine r_iadd C v18 (oDec_at oX0_close 5 rfl) ev18 ?_
    refine r_goto C (tgt := 18) (oDec_at oX0_close 6 rfl) (by decide) ?_
    refine r_istore_n C (lv' := [(0, .ref (oad E c0)), (1, .int a1), (2, .int a2), (3, .int v18)]) [1, 2, 3, 0] (oDec_at oX0_close 9 rfl) rfl (by decide) rfl ?_
    refine r_iload_n C (j := 3) (oDec_at oX0_close 10 rfl) rfl rfl ?_
    refine r_pc C 20 rfl ?_
    refine r_bipush C (oDec_at oX0_close 11 rfl) (v := k18) (by rw [qk18]; rfl) ?_
    refine r_icmp_lt C 26 (oDec_at oX0_close 12 rfl) (by decide) (fun cd19 => ?_) (fun cd19 => ?_)
    · skip
      refine r_aload_n C (j := 0) (oDec_at oX0_close 14 rfl) rfl rfl ?_
      refine r_getR (k := 2) (b := 2) C oCl0 hk0 (by decide) flX0_17 rfl rfl rfl (oDec_at oX0_close 15 rfl) ?_
      refine r_iload_n C (j := 3) (oDec_at oX0_close 16 rfl) rfl rfl ?_
      refine r_iload_n C (j := 2) (oDec_at oX0_close 17 rfl) rfl rfl ?_
      refine r_iast (n := 18) (lo := 0) (hi := 1600) C (kr0_2 hk0) (by decide) rfl rfl ⟨by omega, by omega⟩ (by decide) rfl rfl rfl rfl ⟨by omega, by omega⟩ (oDec_at oX0_close 18 rfl) ?_
      refine r_aload_n C (j := 0) (oDec_at oX0_close 19 rfl) rfl rfl ?_
      refine r_pc C 34 rfl ?_
      refine r_getR (k := 3) (b := 3) C oCl0 hk0 (by decide) flX0_20 rfl rfl rfl (oDec_at oX0_close 20 rfl) ?_
      refine r_iload_n C (j := 3) (oDec_at oX0_close 21 rfl) rfl rfl ?_
      refine r_aload_n C (j := 0) (oDec_at oX0_close 22 rfl) rfl rfl ?_
      obtain ⟨v20, ev20⟩ : ∃ z : Int32, ((pI s (c0 + 2) v18.toNatClampNeg a2)).1 c0 1 = z := ⟨_, rfl⟩
      have gv20 : (s.1 c0 1).toInt = v20.toInt := congrArg Int32.toInt (((pI_ne _ _ (Or.inl (okd_ne hk0 (kr0_2 hk0) (by decide))))).symm.trans ev20)
      have ggv20 : (((pI s (c0 + 2) v18.toNatClampNeg a2)).1 c0 1).toInt = v20.toInt := congrArg Int32.toInt ev20
      refine r_geti (k := 1) (lo := 0) (hi := 1600) C v20 oCl0 hk0 (by decide) flX0_33 rfl rfl (ev20) rfl rfl (oDec_at oX0_close 23 rfl) (fun b21 b21h => ?_)
      refine r_iast (n := 18) (lo := (-2147483648)) (hi := 2147483647) C (kr0_3 hk0) (by decide) rfl rfl ⟨by omega, by omega⟩ (by decide) rfl rfl rfl rfl (n_rng _) (oDec_at oX0_close 24 rfl) ?_
      refine r_aload_n C (j := 0) (oDec_at oX0_close 25 rfl) rfl rfl ?_
      refine r_pc C 44 rfl ?_
      refine r_dup C (oDec_at oX0_close 26 rfl) rfl ?_
      refine r_geti (k := 8) (lo := 0) (hi := 6) C v16 oCl0 hk0 (by decide) flX0_39 rfl rfl (((pI_ne _ _ (Or.inl (okd_ne hk0 (kr0_3 hk0) (by decide))))).trans (((pI_ne _ _ (Or.inl (okd_ne hk0 (kr0_2 hk0) (by decide))))).trans (ev16))) rfl rfl (oDec_at oX0_close 27 rfl) (fun _ _ => ?_)
      refine r_iload_n C (j := 1) (oDec_at oX0_close 28 rfl) rfl rfl ?_
      refine r_if_eq C 56 (oDec_at oX0_close 29 rfl) (by decide) (fun cd22 => ?_) (fun cd22 => ?_)
      · omega
      · skip
        refine r_iconst C (oDec_at oX0_close 30 rfl) (v := k1) (by rw [qk1]; rfl) ?_
        refine r_goto C (tgt := 57) (oDec_at oX0_close 31 rfl) (by decide) ?_
        obtain ⟨v23, ev23⟩ : ∃ z : Int32, z = v16 + k1 := ⟨_, rfl⟩
        have hv23 : v23.toInt = v16.toInt + k1.toInt := n_add ev23 (by omega) (by omega)
        refine r_iadd C v23 (oDec_at oX0_close 33 rfl) ev23 ?_
        refine r_puti (k := 8) (lo := 0) (hi := 6) C oCl0 hk0 (by decide) flX0_39 rfl rfl rfl rfl rfl rfl rfl rfl ⟨by omega, by omega⟩ (oDec_at oX0_close 34 rfl) ?_
        refine r_aload_n C (j := 0) (oDec_at oX0_close 35 rfl) rfl rfl ?_
        refine r_dup C (oDec_at oX0_close 36 rfl) rfl ?_
        obtain ⟨v24, ev24⟩ : ∃ z : Int32, ((pI (pI (pI s (c0 + 2) v18.toNatClampNeg a2) (c0 + 3) v18.toNatClampNeg v20) c0 8 v23)).1 c0 7 = z := ⟨_, rfl⟩
        have gv24 : (s.1 c0 7).toInt = v24.toInt := congrArg Int32.toInt ((((pI_ne (a := c0) (b := 7) (c := c0) (k := 8) _ _ (Or.inr (by decide)))).trans (((pI_ne _ _ (Or.inl (okd_ne hk0 (kr0_3 hk0) (by decide))))).trans ((pI_ne _ _ (Or.inl (okd_ne hk0 (kr0_2 hk0) (by decide))))))).symm.trans ev24)
        have ggv24 : (((pI (pI (pI s (c0 + 2) v18.toNatClampNeg a2) (c0 + 3) v18.toNatClampNeg v20) c0 8 v23)).1 c0 7).toInt = v24.toInt := congrArg Int32.toInt ev24
        refine r_geti (k := 7) (lo := 0) (hi := 12) C v24 oCl0 hk0 (by decide) flX0_36 rfl rfl (ev24) rfl rfl (oDec_at oX0_close 37 rfl) (fun b25 b25h => ?_)
        refine r_pc C 66 rfl ?_
        refine r_iload_n C (j := 1) (oDec_at oX0_close 38 rfl) rfl rfl ?_
        refine r_if_eq C 74 (oDec_at oX0_close 39 rfl) (by decide) (fun cd26 => ?_) (fun cd26 => ?_)
        · omega
        · skip
          refine r_iconst C (oDec_at oX0_close 40 rfl) (v := k0) (by rw [qk0]; rfl) ?_
          refine r_goto C (tgt := 75) (oDec_at oX0_close 41 rfl) (by decide) ?_
          obtain ⟨v27, ev27⟩ : ∃ z : Int32, z = v24 + k0 := ⟨_, rfl⟩
          have hv27 : v27.toInt = v24.toInt + k0.toInt := n_add ev27 (by omega) (by omega)
          refine r_iadd C v27 (oDec_at oX0_close 43 rfl) ev27 ?_
          refine r_puti (k := 7) (lo := 0) (hi := 12) C oCl0 hk0 (by decide) flX0_36 rfl rfl rfl rfl rfl rfl rfl rfl ⟨by omega, by omega⟩ (oDec_at oX0_close 44 rfl) ?_
          have lk28 : (((pI (pI (pI (pI s (c0 + 2) v18.toNatClampNeg a2) (c0 + 3) v18.toNatClampNeg v20) c0 8 v23) c0 7 v27)).1 c0 8).toInt = v23.toInt := congrArg Int32.toInt (((pI_ne (a := c0) (b := 8) (c := c0) (k := 7) _ _ (Or.inr (by decide)))).trans ((pI_self _ _ _ _)))
          have lk29 : (((pI (pI (pI (pI s (c0 + 2) v18.toNatClampNeg a2) (c0 + 3) v18.toNatClampNeg v20) c0 8 v23) c0 7 v27)).1 c0 7).toInt = v27.toInt := congrArg Int32.toInt ((pI_self _ _ _ _))
          exact r_vret C (oDec_at oX0_close 45 rfl) ⟨rfl, ⟨by omega, by omega⟩⟩
    · skip
      have lk30 : ((s).1 c0 8).toInt = v16.toInt := congrArg Int32.toInt (ev16)
      exact r_vret C (oDec_at oX0_close 13 rfl) ⟨rfl, ⟨by omega, by omega⟩⟩
set_option maxHeartbeats 4000000 in
set_option maxRecDepth 100000 in
theorem ct4_X5_bookStatement (l : Launch) (E : oE) (s : oS)  (g : Int → Int) (a : Int) (b : Int) (N : Nat → Nat → Int) (R : Int) (M : Int) (hp0 : (s.1 30 2).toInt = a) (hp1 : (s.1 30 3).toInt = b) (hp2 : oqX g s) (hp3 : oqNl N R M M s) (hp4 : (s.1 30 5).toInt = 0) (hp5 : 0 ≤ R ∧ R ≤ 12 ∧ 0 ≤ M ∧ M ≤ 6) : oMet l 75 yX5_bookStatement cX5_bookStatement 3 (some .boolean) [(0, 1), (0, 6), (0, 7), (0, 8), (5, 2), (5, 3), (5, 4), (5, 5), (5, 6), (5, 7), (5, 8), (5, 9), (20, 9999), (21, 9999), (22, 9999), (23, 9999)] E s [.ref (oad E 30)] (oPi (fun r u => (0 ≤ r.toInt ∧ r.toInt ≤ 1) ∧ (r.toInt = 1 → (oqBk g a b R M N = 0 ∧ (u.1 30 2).toInt = oqBa g a b ∧ (u.1 30 3).toInt = oqBb g a b ∧ (u.1 30 5).toInt = 0 ∧ (u.1 30 8).toInt = (s.1 30 8).toInt ∧ (u.1 30 9).toInt = (s.1 30 9).toInt)) ∧ (r.toInt = 0 → (oqBk g a b R M N ≠ 0 ∧ (u.1 30 8).toInt = oqBk g a b R M N ∧ (u.1 30 9).toInt = oqBp g a b R M N)) ∧ (r.toInt = 1 → oqNl (oqBN g a b N M) (oqBR g a b R) (oqBM g a b M) (oqBM g a b M) u))) := by
  refine oMet.of (lv := [(0, .ref (oad E 30))]) (by decide +kernel) (Nat.le_of_ble_eq_true rfl) rfl (fun J C hT => ?_)
  have C : oC l 75 cX5_bookStatement RX5 3 (some .boolean) [(0, 1), (0, 6), (0, 7), (0, 8), (5, 2), (5, 3), (5, 4), (5, 5), (5, 6), (5, 7), (5, 8), (5, 9), (20, 9999), (21, 9999), (22, 9999), (23, 9999)] E s (oPi (fun r u => (0 ≤ r.toInt ∧ r.toInt ≤ 1) ∧ (r.toInt = 1 → (oqBk g a b R M N = 0 ∧ (u.1 30 2).toInt = oqBa g a b ∧ (u.1 30 3).toInt = oqBb g a b ∧ (u.1 30 5).toInt = 0 ∧ (u.1 30 8).toInt = (s.1 30 8).toInt ∧ (u.1 30 9).toInt = (s.1 30 9).toInt)) ∧ (r.toInt = 0 → (oqBk g a b R M N ≠ 0 ∧ (u.1 30 8).toInt = oqBk g a b R M N ∧ (u.1 30 9).toInt = oqBp g a b R M N)) ∧ (r.toInt = 1 → oqNl (oqBN g a b N M) (oqBR g a b R) (oqBM g a b M) (oqBM g a b M) u))) J := C
  obtain ⟨k0, qk0⟩ : ∃ z : Int32, z = 0 := ⟨_, rfl⟩
  have ek0 : k0.toInt = 0 := by rw [qk0]; rfl
  obtain ⟨k1, qk1⟩ : ∃ z : Int32, z = 1 := ⟨_, rfl⟩
  have ek1 : k1.toInt = 1 := by rw [qk1]; rfl
  obtain ⟨k3, qk3⟩ : ∃ z : Int32, z = 3 := ⟨_, rfl⟩
  have ek3 : k3.toInt = 3 := by rw [qk3]; rfl
  obtain ⟨k4, qk4⟩ : ∃ z : Int32, z = 4 := ⟨_, rfl⟩
  have ek4 : k4.toInt = 4 := by rw [qk4]; rfl
  obtain ⟨k5, qk5⟩ : ∃ z : Int32, z = 5 := ⟨_, rfl⟩
  have ek5 : k5.toInt = 5 := by rw [qk5]; rfl
  obtain ⟨k6, qk6⟩ : ∃ z : Int32, z = 6 := ⟨_, rfl⟩
  have ek6 : k6.toInt = 6 := by rw [qk6]; rfl
  obtain ⟨k11, qk11⟩ : ∃ z : Int32, z = 11 := ⟨_, rfl⟩
  have ek11 : k11.toInt = 11 := by rw [qk11]; rfl
  obtain ⟨k12, qk12⟩ : ∃ z : Int32, z = 12 := ⟨_, rfl⟩
  have ek12 : k12.toInt = 12 := by rw [qk12]; rfl
  obtain ⟨k19, qk19⟩ : ∃ z : Int32, z = 19 := ⟨_, rfl⟩
  have ek19 : k19.toInt = 19 := by rw [qk19]; rfl
  obtain ⟨k24, qk24⟩ : ∃ z : Int32, z = 24 := ⟨_, rfl⟩
  have ek24 : k24.toInt = 24 := by rw [qk24]; rfl
  obtain ⟨k59, qk59⟩ : ∃ z : Int32, z = 59 := ⟨_, rfl⟩
  have ek59 : k59.toInt = 59 := by rw [qk59]; rfl
  have ht5 : (0 : Int) ≤ (s.1 30 5).toInt ∧ (s.1 30 5).toInt ≤ 6 := hT.1 30 5
  refine r_aload_n C (j := 0) (oDec_at oX5_bookStatement 0 rfl) rfl rfl ?_
  refine r_callVi C oCl5 rfl miX5_wordAhead mlX5_91 (ct5_X5_wordAhead l E (s)  (g) (a) (b) (by omega) (by omega) hp2) (by decide) rfl rfl rfl (Nat.le_of_ble_eq_true rfl) (oDec_at oX5_bookStatement 1 rfl) (fun r2 u1 pu1 fu1 => ?_)
  try dsimp only at pu1
  obtain ⟨pu1_0, pu1_1, pu1_2, pu1_3, pu1_4, pu1_5, pu1_6⟩ := pu1
  have rr2 := n_rng r2
  have hj := oqWi_eq pu1_2 ⟨by omega, by omega⟩
  have hW2 := pu1_3
  clear pu1_2 pu1_3 pu1_6
  refine r_istore_n C (lv' := [(0, .ref (oad E 30)), (1, .int r2)]) [1, 0] (oDec_at oX5_bookStatement 2 rfl) rfl (by decide) rfl ?_
  refine r_iload_n C (j := 1) (oDec_at oX5_bookStatement 3 rfl) rfl rfl ?_
  refine r_iconst C (oDec_at oX5_bookStatement 4 rfl) (v := k3) (by rw [qk3]; rfl) ?_
  refine r_icmp_eq C 30 (oDec_at oX5_bookStatement 5 rfl) (by decide) (fun cd3 => ?_) (fun cd3 => ?_)
  · skip
    refine r_iload_n C (j := 1) (oDec_at oX5_bookStatement 18 rfl) rfl rfl ?_
    refine r_iconst C (oDec_at oX5_bookStatement 19 rfl) (v := k4) (by rw [qk4]; rfl) ?_
    refine r_icmp_ne C 47 (oDec_at oX5_bookStatement 20 rfl) (by decide) (fun cd4 => ?_) (fun cd4 => ?_)
    · skip
      refine r_iload_n C (j := 1) (oDec_at oX5_bookStatement 26 rfl) rfl rfl ?_
      refine r_iconst C (oDec_at oX5_bookStatement 27 rfl) (v := k5) (by rw [qk5]; rfl) ?_
      refine r_icmp_ne C 74 (oDec_at oX5_bookStatement 28 rfl) (by decide) (fun cd5 => ?_) (fun cd5 => ?_)
      · skip
        refine r_aload_n C (j := 0) (oDec_at oX5_bookStatement 40 rfl) rfl rfl ?_
        refine r_callVv C oCl5 rfl miX5_passWord mlX5_100 (ct4_X5_passWord l E (u1)  ) (by decide) rfl rfl rfl (Nat.le_of_ble_eq_true rfl) (oDec_at oX5_bookStatement 41 rfl) (fun u6 pu6 fu6 => ?_)
        try dsimp only at pu6
        obtain ⟨pu6_0, pu6_1⟩ := pu6
        have hW3 := hW2 (by omega)
        have hBh := oqBh_w (g := g) (a := a) (b := b) (i := r2.toInt.toNat) (by omega)
        clear hW2
        refine r_iload_n C (j := 1) (oDec_at oX5_bookStatement 42 rfl) rfl rfl ?_
        refine r_iconst C (oDec_at oX5_bookStatement 43 rfl) (v := k3) (by rw [qk3]; rfl) ?_
        refine r_icmp_ne C 105 (oDec_at oX5_bookStatement 44 rfl) (by decide) (fun cd8 => ?_) (fun cd8 => ?_)
        · omega
        · skip
          refine r_aload_n C (j := 0) (oDec_at oX5_bookStatement 45 rfl) rfl rfl ?_
          have lk9 : ((u6).1 30 8).toInt = (s.1 30 8).toInt := congrArg Int32.toInt (((fu6 30 8 rfl).1).trans ((fu1 30 8 rfl).1))
          have lk10 : ((u6).1 30 9).toInt = (s.1 30 9).toInt := congrArg Int32.toInt (((fu6 30 9 rfl).1).trans ((fu1 30 9 rfl).1))
          refine r_callVi C oCl5 rfl miX5_measure mlX5_103 (ct4_X5_measure l E (u6)  (g) (oqBh g a b) (oqBh g a b) (by omega) (by omega) (oqX_fr fu6 rfl (oqX_fr fu1 rfl hp2))) (by decide) rfl rfl rfl (Nat.le_of_ble_eq_true rfl) (oDec_at oX5_bookStatement 46 rfl) (fun r12 u11 pu11 fu11 => ?_)
          try dsimp only at pu11
          try simp only [lk9, lk10] at pu11
          obtain ⟨pu11_0, pu11_1, pu11_2⟩ := pu11
          have rr12 := n_rng r12
          refine r_if_eq C 103 (oDec_at oX5_bookStatement 47 rfl) (by decide) (fun cd13 => ?_) (fun cd13 => ?_)
          · skip
            clear pu11_1
            replace pu11_2 := pu11_2 (by omega)
            refine r_iconst C (oDec_at oX5_bookStatement 54 rfl) (v := k0) (by rw [qk0]; rfl) ?_
            have lk14 : ((u11).1 30 5).toInt = (s.1 30 5).toInt := congrArg Int32.toInt (((fu11 30 5 rfl).1).trans (((fu6 30 5 rfl).1).trans ((fu1 30 5 rfl).1)))
            exact r_zret C (n_bool (by omega)) (oDec_at oX5_bookStatement 55 rfl) ⟨_, rfl, ⟨by omega, by first | (intro h; exfalso; omega) | (have hB := oqB_m0 (g := g) (a := a) (b := b) (R := R) (M := M) (N := N) (by omega) (by omega) (by omega); omega), by first | (intro h; exfalso; omega) | (have hB := oqB_m1 (g := g) (a := a) (b := b) (R := R) (M := M) (N := N) (by omega) (by omega); omega) | (have hB := oqB_m2 (g := g) (a := a) (b := b) (R := R) (M := M) (N := N) (by omega) (by omega) (by omega); omega), by first | (intro h; exfalso; omega) | (intro h; have hb := oqBs_3 (g := g) (a := a) (b := b) (R := R) (M := M) (N := N) (by omega); rw [hb.1, hb.2.1, hb.2.2]; exact (oqNl_fr fu11 rfl (oqNl_fr fu6 rfl (oqNl_fr fu1 rfl hp3))))⟩⟩
          · skip
            replace pu11_1 := pu11_1 (by omega)
            clear pu11_2
            refine r_aload_n C (j := 0) (oDec_at oX5_bookStatement 48 rfl) rfl rfl ?_
            refine r_bipush C (oDec_at oX5_bookStatement 49 rfl) (v := k59) (by rw [qk59]; rfl) ?_
            refine r_callVi C oCl5 rfl miX5_expectSign mlX5_88 (ct4_X5_expectSign l E (u11) k59 (g) (oqNa g (oqBh g a b)) (59) (by omega) (oqX_fr fu11 rfl (oqX_fr fu6 rfl (oqX_fr fu1 rfl hp2))) (by omega) (by omega)) (by decide) rfl rfl rfl (Nat.le_of_ble_eq_true rfl) (oDec_at oX5_bookStatement 50 rfl) (fun r16 u15 pu15 fu15 => ?_)
            try dsimp only at pu15
            obtain ⟨pu15_0, pu15_1, pu15_2⟩ := pu15
            have rr16 := n_rng r16
            refine r_if_eq C 103 (oDec_at oX5_bookStatement 51 rfl) (by decide) (fun cd17 => ?_) (fun cd17 => ?_)
            · skip
              clear pu15_1
              replace pu15_2 := pu15_2 (by omega)
              refine r_iconst C (oDec_at oX5_bookStatement 54 rfl) (v := k0) (by rw [qk0]; rfl) ?_
              have lk18 : ((u15).1 30 3).toInt = (u11.1 30 3).toInt := congrArg Int32.toInt ((fu15 30 3 rfl).1)
              have lk19 : ((u15).1 30 5).toInt = (s.1 30 5).toInt := congrArg Int32.toInt (((fu15 30 5 rfl).1).trans (((fu11 30 5 rfl).1).trans (((fu6 30 5 rfl).1).trans ((fu1 30 5 rfl).1))))
              exact r_zret C (n_bool (by omega)) (oDec_at oX5_bookStatement 55 rfl) ⟨_, rfl, ⟨by omega, by first | (intro h; exfalso; omega) | (have hB := oqB_m0 (g := g) (a := a) (b := b) (R := R) (M := M) (N := N) (by omega) (by omega) (by omega); omega), by first | (intro h; exfalso; omega) | (have hB := oqB_m1 (g := g) (a := a) (b := b) (R := R) (M := M) (N := N) (by omega) (by omega); omega) | (have hB := oqB_m2 (g := g) (a := a) (b := b) (R := R) (M := M) (N := N) (by omega) (by omega) (by omega); omega), by first | (intro h; exfalso; omega) | (intro h; have hb := oqBs_3 (g := g) (a := a) (b := b) (R := R) (M := M) (N := N) (by omega); rw [hb.1, hb.2.1, hb.2.2]; exact (oqNl_fr fu15 rfl (oqNl_fr fu11 rfl (oqNl_fr fu6 rfl (oqNl_fr fu1 rfl hp3)))))⟩⟩
            · skip
              replace pu15_1 := pu15_1 (by omega)
              clear pu15_2
              refine r_iconst C (oDec_at oX5_bookStatement 52 rfl) (v := k1) (by rw [qk1]; rfl) ?_
              refine r_goto C (tgt := 104) (oDec_at oX5_bookStatement 53 rfl) (by decide) ?_
              have lk20 : ((u15).1 30 3).toInt = (u11.1 30 3).toInt := congrArg Int32.toInt ((fu15 30 3 rfl).1)
              have lk21 : ((u15).1 30 5).toInt = (s.1 30 5).toInt := congrArg Int32.toInt (((fu15 30 5 rfl).1).trans (((fu11 30 5 rfl).1).trans (((fu6 30 5 rfl).1).trans ((fu1 30 5 rfl).1))))
              exact r_zret C (n_bool (by omega)) (oDec_at oX5_bookStatement 55 rfl) ⟨_, rfl, ⟨by omega, by first | (intro h; exfalso; omega) | (have hB := oqB_m0 (g := g) (a := a) (b := b) (R := R) (M := M) (N := N) (by omega) (by omega) (by omega); omega), by first | (intro h; exfalso; omega) | (have hB := oqB_m1 (g := g) (a := a) (b := b) (R := R) (M := M) (N := N) (by omega) (by omega); omega) | (have hB := oqB_m2 (g := g) (a := a) (b := b) (R := R) (M := M) (N := N) (by omega) (by omega) (by omega); omega), by first | (intro h; exfalso; omega) | (intro h; have hb := oqBs_3 (g := g) (a := a) (b := b) (R := R) (M := M) (N := N) (by omega); rw [hb.1, hb.2.1, hb.2.2]; exact (oqNl_fr fu15 rfl (oqNl_fr fu11 rfl (oqNl_fr fu6 rfl (oqNl_fr fu1 rfl hp3)))))⟩⟩
      · omega
    · omega
  · skip
    refine r_iload_n C (j := 1) (oDec_at oX5_bookStatement 6 rfl) rfl rfl ?_
    refine r_iconst C (oDec_at oX5_bookStatement 7 rfl) (v := k4) (by rw [qk4]; rfl) ?_
    refine r_icmp_eq C 30 (oDec_at oX5_bookStatement 8 rfl) (by decide) (fun cd22 => ?_) (fun cd22 => ?_)
    · skip
      refine r_iload_n C (j := 1) (oDec_at oX5_bookStatement 18 rfl) rfl rfl ?_
      refine r_iconst C (oDec_at oX5_bookStatement 19 rfl) (v := k4) (by rw [qk4]; rfl) ?_
      refine r_icmp_ne C 47 (oDec_at oX5_bookStatement 20 rfl) (by decide) (fun cd23 => ?_) (fun cd23 => ?_)
      · omega
      · skip
        refine r_aload_n C (j := 0) (oDec_at oX5_bookStatement 21 rfl) rfl rfl ?_
        refine r_getS (k := 1) (q2 := 0) C oCl5 rfl (by decide) flX5_19 rfl rfl rfl ks1 (oDec_at oX5_bookStatement 22 rfl) (fun b24 rb24 mb24 hkb24 => ?_)
        have hnl := oqNl_at (oqNl_fr fu1 rfl hp3) (rb24)
        obtain ⟨hnl7, hnl8, hnl9⟩ := hnl
        clear hnl9
        have hnls := oqNl_at hp3 (((fu1 30 1 rfl).2.2).symm.trans (rb24))
        obtain ⟨hnls7, hnls8, hnls9⟩ := hnls
        clear hnls9
        obtain ⟨v25, ev25⟩ : ∃ z : Int32, (u1).1 b24 7 = z := ⟨_, rfl⟩
        have gv25 : (s.1 b24 7).toInt = v25.toInt := congrArg Int32.toInt (((fu1 b24 7 (by rw [hkb24]; rfl)).1).symm.trans ev25)
        have ggv25 : ((u1).1 b24 7).toInt = v25.toInt := congrArg Int32.toInt ev25
        refine r_getiN (k := 7) (lo := 0) (hi := 12) C v25 oCl0 hkb24 (by decide) flX5_94 rfl rfl (ev25) rfl rfl (oDec_at oX5_bookStatement 23 rfl) (fun b26 b26h => ?_)
        refine r_bipush C (oDec_at oX5_bookStatement 24 rfl) (v := k12) (by rw [qk12]; rfl) ?_
        refine r_icmp_ge C 64 (oDec_at oX5_bookStatement 25 rfl) (by decide) (fun cd27 => ?_) (fun cd27 => ?_)
        · skip
          have hB : (oqBk g a b R M N = 5 ∧ oqBp g a b R M N = oqSk g a) := by first | exact oqB_r5 (by omega) (by omega) | exact oqB_o5 (by omega) (by omega)
          refine r_aload_n C (j := 0) (oDec_at oX5_bookStatement 34 rfl) rfl rfl ?_
          refine r_iconst C (oDec_at oX5_bookStatement 35 rfl) (v := k5) (by rw [qk5]; rfl) ?_
          refine r_aload_n C (j := 0) (oDec_at oX5_bookStatement 36 rfl) rfl rfl ?_
          obtain ⟨v28, ev28⟩ : ∃ z : Int32, (u1).1 30 2 = z := ⟨_, rfl⟩
          have gv28 : (u1.1 30 2).toInt = v28.toInt := congrArg Int32.toInt (ev28)
          refine r_geti (k := 2) (lo := 0) (hi := 1600) C v28 oCl5 rfl (by decide) flX5_23 rfl rfl (ev28) rfl rfl (oDec_at oX5_bookStatement 37 rfl) (fun b29 b29h => ?_)
          refine r_callVi C oCl5 rfl miX5_fail mlX5_62 (ct4_X5_fail l E (u1) k5 v28 ) (by decide) rfl rfl rfl (Nat.le_of_ble_eq_true rfl) (oDec_at oX5_bookStatement 38 rfl) (fun r31 u30 pu30 fu30 => ?_)
          try dsimp only at pu30
          obtain ⟨pu30_0, pu30_1, pu30_2, pu30_3⟩ := pu30
          have rr31 := n_rng r31
          have lk32 : ((u30).1 30 2).toInt = v28.toInt := congrArg Int32.toInt (((fu30 30 2 rfl).1).trans (ev28))
          have lk33 : ((u30).1 30 3).toInt = (s.1 30 3).toInt := congrArg Int32.toInt (((fu30 30 3 rfl).1).trans ((fu1 30 3 rfl).1))
          have lk34 : ((u30).1 30 5).toInt = (s.1 30 5).toInt := congrArg Int32.toInt (((fu30 30 5 rfl).1).trans ((fu1 30 5 rfl).1))
          exact r_zret C (n_bool (by omega)) (oDec_at oX5_bookStatement 39 rfl) ⟨_, rfl, ⟨by omega, by omega, by omega, fun h => by exfalso; omega⟩⟩
        · skip
          refine r_iload_n C (j := 1) (oDec_at oX5_bookStatement 26 rfl) rfl rfl ?_
          refine r_iconst C (oDec_at oX5_bookStatement 27 rfl) (v := k5) (by rw [qk5]; rfl) ?_
          refine r_icmp_ne C 74 (oDec_at oX5_bookStatement 28 rfl) (by decide) (fun cd35 => ?_) (fun cd35 => ?_)
          · skip
            refine r_aload_n C (j := 0) (oDec_at oX5_bookStatement 40 rfl) rfl rfl ?_
            refine r_callVv C oCl5 rfl miX5_passWord mlX5_100 (ct4_X5_passWord l E (u1)  ) (by decide) rfl rfl rfl (Nat.le_of_ble_eq_true rfl) (oDec_at oX5_bookStatement 41 rfl) (fun u36 pu36 fu36 => ?_)
            try dsimp only at pu36
            obtain ⟨pu36_0, pu36_1⟩ := pu36
            have hW3 := hW2 (by omega)
            have hBh := oqBh_w (g := g) (a := a) (b := b) (i := r2.toInt.toNat) (by omega)
            clear hW2
            refine r_iload_n C (j := 1) (oDec_at oX5_bookStatement 42 rfl) rfl rfl ?_
            refine r_iconst C (oDec_at oX5_bookStatement 43 rfl) (v := k3) (by rw [qk3]; rfl) ?_
            refine r_icmp_ne C 105 (oDec_at oX5_bookStatement 44 rfl) (by decide) (fun cd38 => ?_) (fun cd38 => ?_)
            · skip
              have hBs : (oqWi g a b = 4 ∨ oqWi g a b = 5) := by omega
              refine r_aload_n C (j := 0) (oDec_at oX5_bookStatement 56 rfl) rfl rfl ?_
              refine r_getK (k := 1) (b := b24) C oCl5 rfl (by decide) flX5_19 rfl rfl (((fu36 30 1 rfl).2.2).trans (rb24)) (oDec_at oX5_bookStatement 57 rfl) ?_
              have hnl := oqNl_at (oqNl_fr fu36 rfl (oqNl_fr fu1 rfl hp3)) (((fu36 30 1 rfl).2.2).trans (rb24))
              obtain ⟨hnl7, hnl8, hnl9⟩ := hnl
              clear hnl9
              obtain ⟨v40, ev40⟩ : ∃ z : Int32, (u36).1 b24 1 = z := ⟨_, rfl⟩
              have gv40 : (s.1 b24 1).toInt = v40.toInt := congrArg Int32.toInt ((((fu36 b24 1 (by rw [hkb24]; rfl)).1).trans ((fu1 b24 1 (by rw [hkb24]; rfl)).1)).symm.trans ev40)
              have ggv40 : ((u36).1 b24 1).toInt = v40.toInt := congrArg Int32.toInt ev40
              refine r_getiN (k := 1) (lo := 0) (hi := 1600) C v40 oCl0 hkb24 (by decide) flX5_106 rfl rfl (ev40) rfl rfl (oDec_at oX5_bookStatement 58 rfl) (fun b41 b41h => ?_)
              refine r_istore_n C (lv' := [(0, .ref (oad E 30)), (1, .int r2), (2, .int v40)]) [1, 2, 0] (oDec_at oX5_bookStatement 59 rfl) rfl (by decide) rfl ?_
              refine r_aload_n C (j := 0) (oDec_at oX5_bookStatement 60 rfl) rfl rfl ?_
              refine r_iload_n C (j := 1) (oDec_at oX5_bookStatement 61 rfl) rfl rfl ?_
              refine r_iconst C (oDec_at oX5_bookStatement 62 rfl) (v := k5) (by rw [qk5]; rfl) ?_
              refine r_pc C 116 rfl ?_
              refine r_icmp_ne C 124 (oDec_at oX5_bookStatement 63 rfl) (by decide) (fun cd42 => ?_) (fun cd42 => ?_)
              · skip
                refine r_bipush C (oDec_at oX5_bookStatement 66 rfl) (v := k11) (by rw [qk11]; rfl) ?_
                refine r_puti (k := 6) (lo := (-2147483648)) (hi := 2147483647) C oCl5 rfl (by decide) flX5_109 rfl rfl rfl rfl rfl rfl rfl rfl (n_rng _) (oDec_at oX5_bookStatement 67 rfl) ?_
                refine r_aload_n C (j := 0) (oDec_at oX5_bookStatement 68 rfl) rfl rfl ?_
                refine r_iload_n C (j := 1) (oDec_at oX5_bookStatement 69 rfl) rfl rfl ?_
                refine r_iconst C (oDec_at oX5_bookStatement 70 rfl) (v := k5) (by rw [qk5]; rfl) ?_
                refine r_icmp_ne C 140 (oDec_at oX5_bookStatement 71 rfl) (by decide) (fun cd43 => ?_) (fun cd43 => ?_)
                · skip
                  refine r_bipush C (oDec_at oX5_bookStatement 74 rfl) (v := k19) (by rw [qk19]; rfl) ?_
                  refine r_puti (k := 7) (lo := (-2147483648)) (hi := 2147483647) C oCl5 rfl (by decide) flX5_112 rfl rfl rfl rfl rfl rfl rfl rfl (n_rng _) (oDec_at oX5_bookStatement 75 rfl) ?_
                  refine r_iload_n C (j := 1) (oDec_at oX5_bookStatement 76 rfl) rfl rfl ?_
                  refine r_iconst C (oDec_at oX5_bookStatement 77 rfl) (v := k5) (by rw [qk5]; rfl) ?_
                  refine r_icmp_ne C 157 (oDec_at oX5_bookStatement 78 rfl) (by decide) (fun cd44 => ?_) (fun cd44 => ?_)
                  · skip
                    refine r_aload_n C (j := 0) (oDec_at oX5_bookStatement 82 rfl) rfl rfl ?_
                    refine r_bipush C (oDec_at oX5_bookStatement 83 rfl) (v := k6) (by rw [qk6]; rfl) ?_
                    have lk45 : (((pI (pI u36 30 6 k11) 30 7 k19)).1 30 2).toInt = (u36.1 30 2).toInt := congrArg Int32.toInt (((pI_ne (a := 30) (b := 2) (c := 30) (k := 7) _ _ (Or.inr (by decide)))).trans ((pI_ne (a := 30) (b := 2) (c := 30) (k := 6) _ _ (Or.inr (by decide)))))
                    have lk46 : (((pI (pI u36 30 6 k11) 30 7 k19)).1 30 3).toInt = (u36.1 30 3).toInt := congrArg Int32.toInt (((pI_ne (a := 30) (b := 3) (c := 30) (k := 7) _ _ (Or.inr (by decide)))).trans ((pI_ne (a := 30) (b := 3) (c := 30) (k := 6) _ _ (Or.inr (by decide)))))
                    have lk47 : (((pI (pI u36 30 6 k11) 30 7 k19)).1 30 8).toInt = (s.1 30 8).toInt := congrArg Int32.toInt (((pI_ne (a := 30) (b := 8) (c := 30) (k := 7) _ _ (Or.inr (by decide)))).trans (((pI_ne (a := 30) (b := 8) (c := 30) (k := 6) _ _ (Or.inr (by decide)))).trans (((fu36 30 8 rfl).1).trans ((fu1 30 8 rfl).1))))
                    have lk48 : (((pI (pI u36 30 6 k11) 30 7 k19)).1 30 9).toInt = (s.1 30 9).toInt := congrArg Int32.toInt (((pI_ne (a := 30) (b := 9) (c := 30) (k := 7) _ _ (Or.inr (by decide)))).trans (((pI_ne (a := 30) (b := 9) (c := 30) (k := 6) _ _ (Or.inr (by decide)))).trans (((fu36 30 9 rfl).1).trans ((fu1 30 9 rfl).1))))
                    refine r_callVi C oCl5 rfl miX5_expect mlX5_74 (ct4_X5_expect l E ((pI (pI u36 30 6 k11) 30 7 k19)) k6 (g) (oqBh g a b) (oqBh g a b) (6) (by omega) (by omega) (oqX_fr (oFr_oneI (q := 5) (m := 7) rfl (by rfl)) rfl (oqX_fr (oFr_oneI (q := 5) (m := 6) rfl (by rfl)) rfl (oqX_fr fu36 rfl (oqX_fr fu1 rfl hp2)))) (by omega) (by omega)) (by decide) rfl rfl rfl (Nat.le_of_ble_eq_true rfl) (oDec_at oX5_bookStatement 84 rfl) (fun r50 u49 pu49 fu49 => ?_)
                    try dsimp only at pu49
                    try simp only [lk45, lk46, lk47, lk48] at pu49
                    obtain ⟨pu49_0, pu49_1, pu49_2⟩ := pu49
                    have rr50 := n_rng r50
                    refine r_if_eq C 182 (oDec_at oX5_bookStatement 85 rfl) (by decide) (fun cd51 => ?_) (fun cd51 => ?_)
                    · skip
                      clear pu49_1
                      replace pu49_2 := pu49_2 (by omega)
                      refine r_iconst C (oDec_at oX5_bookStatement 93 rfl) (v := k0) (by rw [qk0]; rfl) ?_
                      have lk52 : ((u49).1 30 5).toInt = (s.1 30 5).toInt := congrArg Int32.toInt (((fu49 30 5 rfl).1).trans (((pI_ne (a := 30) (b := 5) (c := 30) (k := 7) _ _ (Or.inr (by decide)))).trans (((pI_ne (a := 30) (b := 5) (c := 30) (k := 6) _ _ (Or.inr (by decide)))).trans (((fu36 30 5 rfl).1).trans ((fu1 30 5 rfl).1)))))
                      exact r_zret C (n_bool (by omega)) (oDec_at oX5_bookStatement 94 rfl) ⟨_, rfl, ⟨by omega, by omega, by first | (have hB := oqB_on (g := g) (a := a) (b := b) (R := R) (M := M) (N := N) (by omega) (by omega) (by omega); omega) | (have hV := oqV_1 (g := g) (p := 19) (q := 24) (w := oqBn g a b) (by omega); have hB := oqB_o (g := g) (a := a) (b := b) (R := R) (M := M) (N := N) (by omega) (by omega) (by omega); omega) | (have hV := oqV_1 (g := g) (p := 11) (q := 19) (w := oqBh g a b) (by omega); have hB := oqB_r (g := g) (a := a) (b := b) (R := R) (M := M) (N := N) (by omega) (by omega); omega) | (have hV := oqV_2 (g := g) (p := 19) (q := 24) (w := oqBn g a b) (by omega) pu49_4; have hk0 := oqFn_k pu49_4; have hB := oqB_o (g := g) (a := a) (b := b) (R := R) (M := M) (N := N) (by omega) (by omega) (by omega); omega) | (have hV := oqV_2 (g := g) (p := 11) (q := 19) (w := oqBh g a b) (by omega) pu49_4; have hk0 := oqFn_k pu49_4; have hB := oqB_r (g := g) (a := a) (b := b) (R := R) (M := M) (N := N) (by omega) (by omega); omega) | (have hV := oqV_3 (g := g) (p := 19) (q := 24) (w := oqBn g a b) (by omega) (by assumption) (by assumption) (by omega); have hB := oqB_o (g := g) (a := a) (b := b) (R := R) (M := M) (N := N) (by omega) (by omega) (by omega); omega) | (have hV := oqV_3 (g := g) (p := 11) (q := 19) (w := oqBh g a b) (by omega) (by assumption) (by assumption) (by omega); have hB := oqB_r (g := g) (a := a) (b := b) (R := R) (M := M) (N := N) (by omega) (by omega); omega), fun h => by exfalso; omega⟩⟩
                    · skip
                      replace pu49_1 := pu49_1 (by omega)
                      clear pu49_2
                      refine r_aload_n C (j := 0) (oDec_at oX5_bookStatement 86 rfl) rfl rfl ?_
                      have lk53 : ((u49).1 30 5).toInt = (s.1 30 5).toInt := congrArg Int32.toInt (((fu49 30 5 rfl).1).trans (((pI_ne (a := 30) (b := 5) (c := 30) (k := 7) _ _ (Or.inr (by decide)))).trans (((pI_ne (a := 30) (b := 5) (c := 30) (k := 6) _ _ (Or.inr (by decide)))).trans (((fu36 30 5 rfl).1).trans ((fu1 30 5 rfl).1)))))
                      have lk54 : ((u49).1 30 6).toInt = k11.toInt := congrArg Int32.toInt (((fu49 30 6 rfl).1).trans (((pI_ne (a := 30) (b := 6) (c := 30) (k := 7) _ _ (Or.inr (by decide)))).trans ((pI_self _ _ _ _))))
                      have lk55 : ((u49).1 30 7).toInt = k19.toInt := congrArg Int32.toInt (((fu49 30 7 rfl).1).trans ((pI_self _ _ _ _)))
                      have lk56 : ((u49).1 30 5).toInt = (s.1 30 5).toInt := congrArg Int32.toInt (((fu49 30 5 rfl).1).trans (((pI_ne (a := 30) (b := 5) (c := 30) (k := 7) _ _ (Or.inr (by decide)))).trans (((pI_ne (a := 30) (b := 5) (c := 30) (k := 6) _ _ (Or.inr (by decide)))).trans (((fu36 30 5 rfl).1).trans ((fu1 30 5 rfl).1)))))
                      refine r_callVi C oCl5 rfl miX5_test mlX5_118 (ct4_X5_test l E (u49)  (g) (11) (19) (oqHa g (oqBh g a b) 6) (oqHa g (oqBh g a b) 6) (0) (by omega) (by omega) (oqX_fr fu49 rfl (oqX_fr (oFr_oneI (q := 5) (m := 7) rfl (by rfl)) rfl (oqX_fr (oFr_oneI (q := 5) (m := 6) rfl (by rfl)) rfl (oqX_fr fu36 rfl (oqX_fr fu1 rfl hp2))))) (by omega) (by omega) (by omega) (by omega)) (by decide) rfl rfl rfl (Nat.le_of_ble_eq_true rfl) (oDec_at oX5_bookStatement 87 rfl) (fun r58 u57 pu57 fu57 => ?_)
                      try dsimp only at pu57
                      try simp only [lk53, lk54, lk55, lk56] at pu57
                      obtain ⟨pu57_0, pu57_1, pu57_2, pu57_3, pu57_4⟩ := pu57
                      have rr58 := n_rng r58
                      refine r_if_eq C 182 (oDec_at oX5_bookStatement 88 rfl) (by decide) (fun cd59 => ?_) (fun cd59 => ?_)
                      · skip
                        clear pu57_1
                        clear pu57_2
                        clear pu57_3
                        replace pu57_4 := pu57_4 (by omega)
                        refine r_iconst C (oDec_at oX5_bookStatement 93 rfl) (v := k0) (by rw [qk0]; rfl) ?_
                        exact r_zret C (n_bool (by omega)) (oDec_at oX5_bookStatement 94 rfl) ⟨_, rfl, ⟨by omega, by omega, by first | (have hB := oqB_on (g := g) (a := a) (b := b) (R := R) (M := M) (N := N) (by omega) (by omega) (by omega); omega) | (have hV := oqV_1 (g := g) (p := 19) (q := 24) (w := oqBn g a b) (by omega); have hB := oqB_o (g := g) (a := a) (b := b) (R := R) (M := M) (N := N) (by omega) (by omega) (by omega); omega) | (have hV := oqV_1 (g := g) (p := 11) (q := 19) (w := oqBh g a b) (by omega); have hB := oqB_r (g := g) (a := a) (b := b) (R := R) (M := M) (N := N) (by omega) (by omega); omega) | (have hV := oqV_2 (g := g) (p := 19) (q := 24) (w := oqBn g a b) (by omega) pu57_4; have hk0 := oqFn_k pu57_4; have hB := oqB_o (g := g) (a := a) (b := b) (R := R) (M := M) (N := N) (by omega) (by omega) (by omega); omega) | (have hV := oqV_2 (g := g) (p := 11) (q := 19) (w := oqBh g a b) (by omega) pu57_4; have hk0 := oqFn_k pu57_4; have hB := oqB_r (g := g) (a := a) (b := b) (R := R) (M := M) (N := N) (by omega) (by omega); omega) | (have hV := oqV_3 (g := g) (p := 19) (q := 24) (w := oqBn g a b) (by omega) (by assumption) (by assumption) (by omega); have hB := oqB_o (g := g) (a := a) (b := b) (R := R) (M := M) (N := N) (by omega) (by omega) (by omega); omega) | (have hV := oqV_3 (g := g) (p := 11) (q := 19) (w := oqBh g a b) (by omega) (by assumption) (by assumption) (by omega); have hB := oqB_r (g := g) (a := a) (b := b) (R := R) (M := M) (N := N) (by omega) (by omega); omega), fun h => by exfalso; omega⟩⟩
                      · skip
                        replace pu57_1 := pu57_1 (by omega)
                        replace pu57_2 := pu57_2 (by omega)
                        replace pu57_3 := pu57_3 (by omega)
                        clear pu57_4
                        have hgX : g (oqSk g ((u57).1 30 2).toInt) = g ((u57).1 30 2).toInt := by rw [show oqSk g ((u57).1 30 2).toInt = ((u57).1 30 2).toInt by omega]
                        refine r_aload_n C (j := 0) (oDec_at oX5_bookStatement 89 rfl) rfl rfl ?_
                        refine r_bipush C (oDec_at oX5_bookStatement 90 rfl) (v := k59) (by rw [qk59]; rfl) ?_
                        refine r_callVi C oCl5 rfl miX5_expectSign mlX5_88 (ct4_X5_expectSign l E (u57) k59 (g) (((u57).1 30 2).toInt) (59) (by omega) (oqX_fr fu57 rfl (oqX_fr fu49 rfl (oqX_fr (oFr_oneI (q := 5) (m := 7) rfl (by rfl)) rfl (oqX_fr (oFr_oneI (q := 5) (m := 6) rfl (by rfl)) rfl (oqX_fr fu36 rfl (oqX_fr fu1 rfl hp2)))))) (by omega) (by omega)) (by decide) rfl rfl rfl (Nat.le_of_ble_eq_true rfl) (oDec_at oX5_bookStatement 91 rfl) (fun r61 u60 pu60 fu60 => ?_)
                        try dsimp only at pu60
                        obtain ⟨pu60_0, pu60_1, pu60_2⟩ := pu60
                        have rr61 := n_rng r61
                        refine r_if_ne C 184 (oDec_at oX5_bookStatement 92 rfl) (by decide) (fun cd62 => ?_) (fun cd62 => ?_)
                        · skip
                          replace pu60_1 := pu60_1 (by omega)
                          clear pu60_2
                          refine r_aload_n C (j := 0) (oDec_at oX5_bookStatement 95 rfl) rfl rfl ?_
                          refine r_getK (k := 1) (b := b24) C oCl5 rfl (by decide) flX5_19 rfl rfl (((fu60 30 1 rfl).2.2).trans (((fu57 30 1 rfl).2.2).trans (((fu49 30 1 rfl).2.2).trans ((show ((pI (pI u36 30 6 k11) 30 7 k19)).2.2 30 1 = b24 + 1 from (show ((pI u36 30 6 k11)).2.2 30 1 = b24 + 1 from ((fu36 30 1 rfl).2.2).trans (rb24))))))) (oDec_at oX5_bookStatement 96 rfl) ?_
                          refine r_iload_n C (j := 1) (oDec_at oX5_bookStatement 97 rfl) rfl rfl ?_
                          refine r_iconst C (oDec_at oX5_bookStatement 98 rfl) (v := k5) (by rw [qk5]; rfl) ?_
                          refine r_icmp_ne C 197 (oDec_at oX5_bookStatement 99 rfl) (by decide) (fun cd64 => ?_) (fun cd64 => ?_)
                          · skip
                            refine r_iconst C (oDec_at oX5_bookStatement 102 rfl) (v := k0) (by rw [qk0]; rfl) ?_
                            refine r_iload_n C (j := 2) (oDec_at oX5_bookStatement 103 rfl) rfl rfl ?_
                            have lk65 : ((u60).1 b24 8).toInt = (s.1 b24 8).toInt := congrArg Int32.toInt (((fu60 b24 8 (by rw [hkb24]; rfl)).1).trans (((fu57 b24 8 (by rw [hkb24]; rfl)).1).trans (((fu49 b24 8 (by rw [hkb24]; rfl)).1).trans (((pI_ne _ _ (Or.inl (okd_ne hkb24 rfl (by decide))))).trans (((pI_ne _ _ (Or.inl (okd_ne hkb24 rfl (by decide))))).trans (((fu36 b24 8 (by rw [hkb24]; rfl)).1).trans ((fu1 b24 8 (by rw [hkb24]; rfl)).1)))))))
                            have lk66 : ((u60).1 b24 7).toInt = v25.toInt := congrArg Int32.toInt (((fu60 b24 7 (by rw [hkb24]; rfl)).1).trans (((fu57 b24 7 (by rw [hkb24]; rfl)).1).trans (((fu49 b24 7 (by rw [hkb24]; rfl)).1).trans (((pI_ne _ _ (Or.inl (okd_ne hkb24 rfl (by decide))))).trans (((pI_ne _ _ (Or.inl (okd_ne hkb24 rfl (by decide))))).trans (((fu36 b24 7 (by rw [hkb24]; rfl)).1).trans (ev25)))))))
                            have lk67 : ((u60).1 b24 8).toInt = (s.1 b24 8).toInt := congrArg Int32.toInt (((fu60 b24 8 (by rw [hkb24]; rfl)).1).trans (((fu57 b24 8 (by rw [hkb24]; rfl)).1).trans (((fu49 b24 8 (by rw [hkb24]; rfl)).1).trans (((pI_ne _ _ (Or.inl (okd_ne hkb24 rfl (by decide))))).trans (((pI_ne _ _ (Or.inl (okd_ne hkb24 rfl (by decide))))).trans (((fu36 b24 8 (by rw [hkb24]; rfl)).1).trans ((fu1 b24 8 (by rw [hkb24]; rfl)).1)))))))
                            have lk68 : ((u60).1 b24 7).toInt = v25.toInt := congrArg Int32.toInt (((fu60 b24 7 (by rw [hkb24]; rfl)).1).trans (((fu57 b24 7 (by rw [hkb24]; rfl)).1).trans (((fu49 b24 7 (by rw [hkb24]; rfl)).1).trans (((pI_ne _ _ (Or.inl (okd_ne hkb24 rfl (by decide))))).trans (((pI_ne _ _ (Or.inl (okd_ne hkb24 rfl (by decide))))).trans (((fu36 b24 7 (by rw [hkb24]; rfl)).1).trans (ev25)))))))
                            refine r_callVv C oCl0 hkb24 miX0_close mlX5_121 (ct4_X0_close l E (u60) b24 hkb24 k0 v40 (by omega) (by omega) (by omega) (by omega)) (by decide) rfl rfl rfl (Nat.le_of_ble_eq_true rfl) (oDec_at oX5_bookStatement 104 rfl) (fun u69 pu69 fu69 => ?_)
                            try dsimp only at pu69
                            try simp only [lk65, lk66, lk67, lk68] at pu69
                            obtain ⟨pu69_0, pu69_1⟩ := pu69
                            refine r_iconst C (oDec_at oX5_bookStatement 105 rfl) (v := k1) (by rw [qk1]; rfl) ?_
                            have lk71 : ((u69).1 30 2).toInt = (u60.1 30 2).toInt := congrArg Int32.toInt ((fu69 30 2 rfl).1)
                            have lk72 : ((u69).1 30 3).toInt = (u57.1 30 3).toInt := congrArg Int32.toInt (((fu69 30 3 rfl).1).trans ((fu60 30 3 rfl).1))
                            have lk73 : ((u69).1 30 5).toInt = (u57.1 30 5).toInt := congrArg Int32.toInt (((fu69 30 5 rfl).1).trans ((fu60 30 5 rfl).1))
                            have lk74 : ((u69).1 30 8).toInt = (u60.1 30 8).toInt := congrArg Int32.toInt ((fu69 30 8 rfl).1)
                            have lk75 : ((u69).1 30 9).toInt = (u60.1 30 9).toInt := congrArg Int32.toInt ((fu69 30 9 rfl).1)
                            have lk76 : ((u69).1 30 8).toInt = (u60.1 30 8).toInt := congrArg Int32.toInt ((fu69 30 8 rfl).1)
                            have lk77 : ((u69).1 30 9).toInt = (u60.1 30 9).toInt := congrArg Int32.toInt ((fu69 30 9 rfl).1)
                            exact r_zret C (n_bool (by omega)) (oDec_at oX5_bookStatement 106 rfl) ⟨_, rfl, ⟨by omega, by first | (have hV := oqV_0 (g := g) (p := 19) (q := 24) (w := oqBn g a b) (by omega) pu57_1 pu57_2 (by omega); have hB := oqB_o (g := g) (a := a) (b := b) (R := R) (M := M) (N := N) (by omega) (by omega) (by omega); omega) | (have hV := oqV_0 (g := g) (p := 11) (q := 19) (w := oqBh g a b) (by omega) pu57_1 pu57_2 (by omega); have hB := oqB_r (g := g) (a := a) (b := b) (R := R) (M := M) (N := N) (by omega) (by omega); omega), fun h => by exfalso; omega, by first | (intro h; have hb := oqBs_4 (g := g) (a := a) (b := b) (R := R) (M := M) (N := N) (by omega); rw [hb.1, hb.2.1, hb.2.2]; exact oqNl_cl (oqNl_fr fu60 rfl (oqNl_fr fu57 rfl (oqNl_fr fu49 rfl (oqNl_fr (oFr_oneI (q := 5) (m := 7) rfl (by rfl)) rfl (oqNl_fr (oFr_oneI (q := 5) (m := 6) rfl (by rfl)) rfl (oqNl_fr fu36 rfl (oqNl_fr fu1 rfl hp3))))))) (((fu69 30 1 rfl).2.2).trans (((fu60 30 1 rfl).2.2).trans (((fu57 30 1 rfl).2.2).trans (((fu49 30 1 rfl).2.2).trans ((show ((pI (pI u36 30 6 k11) 30 7 k19)).2.2 30 1 = b24 + 1 from (show ((pI u36 30 6 k11)).2.2 30 1 = b24 + 1 from ((fu36 30 1 rfl).2.2).trans (rb24)))))))) fu69 rfl (by omega) (by omega) (by omega) rfl) | (intro h; have hb := oqBs_5 (g := g) (a := a) (b := b) (R := R) (M := M) (N := N) (by omega); rw [hb.1, hb.2.1, hb.2.2]; exact oqNl_cl (by assumption) (((fu69 30 1 rfl).2.2).trans (((fu60 30 1 rfl).2.2).trans (((fu57 30 1 rfl).2.2).trans (((fu49 30 1 rfl).2.2).trans ((show ((pI (pI u36 30 6 k11) 30 7 k19)).2.2 30 1 = b24 + 1 from (show ((pI u36 30 6 k11)).2.2 30 1 = b24 + 1 from ((fu36 30 1 rfl).2.2).trans (rb24)))))))) fu69 rfl (by omega) (by omega) (by omega) rfl)⟩⟩
                          · omega
                        · skip
                          clear pu60_1
                          replace pu60_2 := pu60_2 (by omega)
                          refine r_iconst C (oDec_at oX5_bookStatement 93 rfl) (v := k0) (by rw [qk0]; rfl) ?_
                          have lk78 : ((u60).1 30 3).toInt = (u57.1 30 3).toInt := congrArg Int32.toInt ((fu60 30 3 rfl).1)
                          have lk79 : ((u60).1 30 5).toInt = (u57.1 30 5).toInt := congrArg Int32.toInt ((fu60 30 5 rfl).1)
                          exact r_zret C (n_bool (by omega)) (oDec_at oX5_bookStatement 94 rfl) ⟨_, rfl, ⟨by omega, by omega, by first | (have hB := oqB_on (g := g) (a := a) (b := b) (R := R) (M := M) (N := N) (by omega) (by omega) (by omega); omega) | (have hV := oqV_1 (g := g) (p := 19) (q := 24) (w := oqBn g a b) (by omega); have hB := oqB_o (g := g) (a := a) (b := b) (R := R) (M := M) (N := N) (by omega) (by omega) (by omega); omega) | (have hV := oqV_1 (g := g) (p := 11) (q := 19) (w := oqBh g a b) (by omega); have hB := oqB_r (g := g) (a := a) (b := b) (R := R) (M := M) (N := N) (by omega) (by omega); omega) | (have hV := oqV_2 (g := g) (p := 19) (q := 24) (w := oqBn g a b) (by omega) pu60_4; have hk0 := oqFn_k pu60_4; have hB := oqB_o (g := g) (a := a) (b := b) (R := R) (M := M) (N := N) (by omega) (by omega) (by omega); omega) | (have hV := oqV_2 (g := g) (p := 11) (q := 19) (w := oqBh g a b) (by omega) pu60_4; have hk0 := oqFn_k pu60_4; have hB := oqB_r (g := g) (a := a) (b := b) (R := R) (M := M) (N := N) (by omega) (by omega); omega) | (have hV := oqV_3 (g := g) (p := 19) (q := 24) (w := oqBn g a b) (by omega) pu57_1 pu57_2 (by omega); have hB := oqB_o (g := g) (a := a) (b := b) (R := R) (M := M) (N := N) (by omega) (by omega) (by omega); omega) | (have hV := oqV_3 (g := g) (p := 11) (q := 19) (w := oqBh g a b) (by omega) pu57_1 pu57_2 (by omega); have hB := oqB_r (g := g) (a := a) (b := b) (R := R) (M := M) (N := N) (by omega) (by omega); omega), fun h => by exfalso; omega⟩⟩
                  · omega
                · omega
              · omega
            · omega
          · omega
    · skip
      refine r_iload_n C (j := 1) (oDec_at oX5_bookStatement 9 rfl) rfl rfl ?_
      refine r_iconst C (oDec_at oX5_bookStatement 10 rfl) (v := k5) (by rw [qk5]; rfl) ?_
      refine r_icmp_eq C 30 (oDec_at oX5_bookStatement 11 rfl) (by decide) (fun cd80 => ?_) (fun cd80 => ?_)
      · skip
        refine r_iload_n C (j := 1) (oDec_at oX5_bookStatement 18 rfl) rfl rfl ?_
        refine r_iconst C (oDec_at oX5_bookStatement 19 rfl) (v := k4) (by rw [qk4]; rfl) ?_
        refine r_icmp_ne C 47 (oDec_at oX5_bookStatement 20 rfl) (by decide) (fun cd81 => ?_) (fun cd81 => ?_)
        · skip
          refine r_iload_n C (j := 1) (oDec_at oX5_bookStatement 26 rfl) rfl rfl ?_
          refine r_iconst C (oDec_at oX5_bookStatement 27 rfl) (v := k5) (by rw [qk5]; rfl) ?_
          refine r_icmp_ne C 74 (oDec_at oX5_bookStatement 28 rfl) (by decide) (fun cd82 => ?_) (fun cd82 => ?_)
          · omega
          · skip
            refine r_aload_n C (j := 0) (oDec_at oX5_bookStatement 29 rfl) rfl rfl ?_
            refine r_getS (k := 1) (q2 := 0) C oCl5 rfl (by decide) flX5_19 rfl rfl rfl ks1 (oDec_at oX5_bookStatement 30 rfl) (fun b83 rb83 mb83 hkb83 => ?_)
            have hnl := oqNl_at (oqNl_fr fu1 rfl hp3) (rb83)
            obtain ⟨hnl7, hnl8, hnl9⟩ := hnl
            clear hnl9
            have hnls := oqNl_at hp3 (((fu1 30 1 rfl).2.2).symm.trans (rb83))
            obtain ⟨hnls7, hnls8, hnls9⟩ := hnls
            clear hnls9
            obtain ⟨v84, ev84⟩ : ∃ z : Int32, (u1).1 b83 8 = z := ⟨_, rfl⟩
            have gv84 : (s.1 b83 8).toInt = v84.toInt := congrArg Int32.toInt (((fu1 b83 8 (by rw [hkb83]; rfl)).1).symm.trans ev84)
            have ggv84 : ((u1).1 b83 8).toInt = v84.toInt := congrArg Int32.toInt ev84
            refine r_getiN (k := 8) (lo := 0) (hi := 6) C v84 oCl0 hkb83 (by decide) flX5_97 rfl rfl (ev84) rfl rfl (oDec_at oX5_bookStatement 31 rfl) (fun b85 b85h => ?_)
            refine r_bipush C (oDec_at oX5_bookStatement 32 rfl) (v := k6) (by rw [qk6]; rfl) ?_
            refine r_icmp_lt C 74 (oDec_at oX5_bookStatement 33 rfl) (by decide) (fun cd86 => ?_) (fun cd86 => ?_)
            · skip
              refine r_aload_n C (j := 0) (oDec_at oX5_bookStatement 40 rfl) rfl rfl ?_
              refine r_callVv C oCl5 rfl miX5_passWord mlX5_100 (ct4_X5_passWord l E (u1)  ) (by decide) rfl rfl rfl (Nat.le_of_ble_eq_true rfl) (oDec_at oX5_bookStatement 41 rfl) (fun u87 pu87 fu87 => ?_)
              try dsimp only at pu87
              obtain ⟨pu87_0, pu87_1⟩ := pu87
              have hW3 := hW2 (by omega)
              have hBh := oqBh_w (g := g) (a := a) (b := b) (i := r2.toInt.toNat) (by omega)
              clear hW2
              refine r_iload_n C (j := 1) (oDec_at oX5_bookStatement 42 rfl) rfl rfl ?_
              refine r_iconst C (oDec_at oX5_bookStatement 43 rfl) (v := k3) (by rw [qk3]; rfl) ?_
              refine r_icmp_ne C 105 (oDec_at oX5_bookStatement 44 rfl) (by decide) (fun cd89 => ?_) (fun cd89 => ?_)
              · skip
                have hBs : (oqWi g a b = 4 ∨ oqWi g a b = 5) := by omega
                refine r_aload_n C (j := 0) (oDec_at oX5_bookStatement 56 rfl) rfl rfl ?_
                refine r_getK (k := 1) (b := b83) C oCl5 rfl (by decide) flX5_19 rfl rfl (((fu87 30 1 rfl).2.2).trans (rb83)) (oDec_at oX5_bookStatement 57 rfl) ?_
                have hnl := oqNl_at (oqNl_fr fu87 rfl (oqNl_fr fu1 rfl hp3)) (((fu87 30 1 rfl).2.2).trans (rb83))
                obtain ⟨hnl7, hnl8, hnl9⟩ := hnl
                clear hnl9
                obtain ⟨v91, ev91⟩ : ∃ z : Int32, (u87).1 b83 1 = z := ⟨_, rfl⟩
                have gv91 : (s.1 b83 1).toInt = v91.toInt := congrArg Int32.toInt ((((fu87 b83 1 (by rw [hkb83]; rfl)).1).trans ((fu1 b83 1 (by rw [hkb83]; rfl)).1)).symm.trans ev91)
                have ggv91 : ((u87).1 b83 1).toInt = v91.toInt := congrArg Int32.toInt ev91
                refine r_getiN (k := 1) (lo := 0) (hi := 1600) C v91 oCl0 hkb83 (by decide) flX5_106 rfl rfl (ev91) rfl rfl (oDec_at oX5_bookStatement 58 rfl) (fun b92 b92h => ?_)
                refine r_istore_n C (lv' := [(0, .ref (oad E 30)), (1, .int r2), (2, .int v91)]) [1, 2, 0] (oDec_at oX5_bookStatement 59 rfl) rfl (by decide) rfl ?_
                refine r_aload_n C (j := 0) (oDec_at oX5_bookStatement 60 rfl) rfl rfl ?_
                refine r_iload_n C (j := 1) (oDec_at oX5_bookStatement 61 rfl) rfl rfl ?_
                refine r_iconst C (oDec_at oX5_bookStatement 62 rfl) (v := k5) (by rw [qk5]; rfl) ?_
                refine r_pc C 116 rfl ?_
                refine r_icmp_ne C 124 (oDec_at oX5_bookStatement 63 rfl) (by decide) (fun cd93 => ?_) (fun cd93 => ?_)
                · omega
                · skip
                  refine r_bipush C (oDec_at oX5_bookStatement 64 rfl) (v := k19) (by rw [qk19]; rfl) ?_
                  refine r_goto C (tgt := 126) (oDec_at oX5_bookStatement 65 rfl) (by decide) ?_
                  refine r_puti (k := 6) (lo := (-2147483648)) (hi := 2147483647) C oCl5 rfl (by decide) flX5_109 rfl rfl rfl rfl rfl rfl rfl rfl (n_rng _) (oDec_at oX5_bookStatement 67 rfl) ?_
                  refine r_aload_n C (j := 0) (oDec_at oX5_bookStatement 68 rfl) rfl rfl ?_
                  refine r_iload_n C (j := 1) (oDec_at oX5_bookStatement 69 rfl) rfl rfl ?_
                  refine r_iconst C (oDec_at oX5_bookStatement 70 rfl) (v := k5) (by rw [qk5]; rfl) ?_
                  refine r_icmp_ne C 140 (oDec_at oX5_bookStatement 71 rfl) (by decide) (fun cd94 => ?_) (fun cd94 => ?_)
                  · omega
                  · skip
                    refine r_bipush C (oDec_at oX5_bookStatement 72 rfl) (v := k24) (by rw [qk24]; rfl) ?_
                    refine r_goto C (tgt := 142) (oDec_at oX5_bookStatement 73 rfl) (by decide) ?_
                    refine r_puti (k := 7) (lo := (-2147483648)) (hi := 2147483647) C oCl5 rfl (by decide) flX5_112 rfl rfl rfl rfl rfl rfl rfl rfl (n_rng _) (oDec_at oX5_bookStatement 75 rfl) ?_
                    refine r_iload_n C (j := 1) (oDec_at oX5_bookStatement 76 rfl) rfl rfl ?_
                    refine r_iconst C (oDec_at oX5_bookStatement 77 rfl) (v := k5) (by rw [qk5]; rfl) ?_
                    refine r_icmp_ne C 157 (oDec_at oX5_bookStatement 78 rfl) (by decide) (fun cd95 => ?_) (fun cd95 => ?_)
                    · omega
                    · skip
                      have hBn : oqBn g a b = oqWe g (oqSk g (oqBh g a b)) := rfl
                      have hnl5 := oqBh_nl (g := g) (a := a) (b := b) (i := 5) (by decide) (by omega)
                      refine r_aload_n C (j := 0) (oDec_at oX5_bookStatement 79 rfl) rfl rfl ?_
                      have lk96 : (((pI (pI u87 30 6 k19) 30 7 k24)).1 30 2).toInt = (u87.1 30 2).toInt := congrArg Int32.toInt (((pI_ne (a := 30) (b := 2) (c := 30) (k := 7) _ _ (Or.inr (by decide)))).trans ((pI_ne (a := 30) (b := 2) (c := 30) (k := 6) _ _ (Or.inr (by decide)))))
                      have lk97 : (((pI (pI u87 30 6 k19) 30 7 k24)).1 30 3).toInt = (u87.1 30 3).toInt := congrArg Int32.toInt (((pI_ne (a := 30) (b := 3) (c := 30) (k := 7) _ _ (Or.inr (by decide)))).trans ((pI_ne (a := 30) (b := 3) (c := 30) (k := 6) _ _ (Or.inr (by decide)))))
                      have lk98 : (((pI (pI u87 30 6 k19) 30 7 k24)).1 30 8).toInt = (s.1 30 8).toInt := congrArg Int32.toInt (((pI_ne (a := 30) (b := 8) (c := 30) (k := 7) _ _ (Or.inr (by decide)))).trans (((pI_ne (a := 30) (b := 8) (c := 30) (k := 6) _ _ (Or.inr (by decide)))).trans (((fu87 30 8 rfl).1).trans ((fu1 30 8 rfl).1))))
                      have lk99 : (((pI (pI u87 30 6 k19) 30 7 k24)).1 30 9).toInt = (s.1 30 9).toInt := congrArg Int32.toInt (((pI_ne (a := 30) (b := 9) (c := 30) (k := 7) _ _ (Or.inr (by decide)))).trans (((pI_ne (a := 30) (b := 9) (c := 30) (k := 6) _ _ (Or.inr (by decide)))).trans (((fu87 30 9 rfl).1).trans ((fu1 30 9 rfl).1))))
                      refine r_callVi C oCl5 rfl miX5_name mlX5_115 (ct4_X5_name l E ((pI (pI u87 30 6 k19) 30 7 k24))  (g) (oqBh g a b) (N) (R) (M) (by omega) (by omega) (oqX_fr (oFr_oneI (q := 5) (m := 7) rfl (by rfl)) rfl (oqX_fr (oFr_oneI (q := 5) (m := 6) rfl (by rfl)) rfl (oqX_fr fu87 rfl (oqX_fr fu1 rfl hp2)))) (oqNl_fr (oFr_oneI (q := 5) (m := 7) rfl (by rfl)) rfl (oqNl_fr (oFr_oneI (q := 5) (m := 6) rfl (by rfl)) rfl (oqNl_fr fu87 rfl (oqNl_fr fu1 rfl hp3)))) (by omega) (by omega)) (by decide) rfl rfl rfl (Nat.le_of_ble_eq_true rfl) (oDec_at oX5_bookStatement 80 rfl) (fun r101 u100 pu100 fu100 => ?_)
                      try dsimp only at pu100
                      try simp only [lk96, lk97, lk98, lk99] at pu100
                      obtain ⟨pu100_0, pu100_1, pu100_2, pu100_3⟩ := pu100
                      have rr101 := n_rng r101
                      refine r_if_eq C 182 (oDec_at oX5_bookStatement 81 rfl) (by decide) (fun cd102 => ?_) (fun cd102 => ?_)
                      · skip
                        clear pu100_1
                        replace pu100_2 := pu100_2 (by omega)
                        clear pu100_3
                        refine r_iconst C (oDec_at oX5_bookStatement 93 rfl) (v := k0) (by rw [qk0]; rfl) ?_
                        have lk103 : ((u100).1 30 5).toInt = (s.1 30 5).toInt := congrArg Int32.toInt (((fu100 30 5 rfl).1).trans (((pI_ne (a := 30) (b := 5) (c := 30) (k := 7) _ _ (Or.inr (by decide)))).trans (((pI_ne (a := 30) (b := 5) (c := 30) (k := 6) _ _ (Or.inr (by decide)))).trans (((fu87 30 5 rfl).1).trans ((fu1 30 5 rfl).1)))))
                        exact r_zret C (n_bool (by omega)) (oDec_at oX5_bookStatement 94 rfl) ⟨_, rfl, ⟨by omega, by omega, by first | (have hB := oqB_on (g := g) (a := a) (b := b) (R := R) (M := M) (N := N) (by omega) (by omega) (by omega); omega) | (have hV := oqV_1 (g := g) (p := 19) (q := 24) (w := oqBn g a b) (by omega); have hB := oqB_o (g := g) (a := a) (b := b) (R := R) (M := M) (N := N) (by omega) (by omega) (by omega); omega) | (have hV := oqV_1 (g := g) (p := 11) (q := 19) (w := oqBh g a b) (by omega); have hB := oqB_r (g := g) (a := a) (b := b) (R := R) (M := M) (N := N) (by omega) (by omega); omega) | (have hV := oqV_2 (g := g) (p := 19) (q := 24) (w := oqBn g a b) (by omega) pu100_4; have hk0 := oqFn_k pu100_4; have hB := oqB_o (g := g) (a := a) (b := b) (R := R) (M := M) (N := N) (by omega) (by omega) (by omega); omega) | (have hV := oqV_2 (g := g) (p := 11) (q := 19) (w := oqBh g a b) (by omega) pu100_4; have hk0 := oqFn_k pu100_4; have hB := oqB_r (g := g) (a := a) (b := b) (R := R) (M := M) (N := N) (by omega) (by omega); omega) | (have hV := oqV_3 (g := g) (p := 19) (q := 24) (w := oqBn g a b) (by omega) (by assumption) (by assumption) (by omega); have hB := oqB_o (g := g) (a := a) (b := b) (R := R) (M := M) (N := N) (by omega) (by omega) (by omega); omega) | (have hV := oqV_3 (g := g) (p := 11) (q := 19) (w := oqBh g a b) (by omega) (by assumption) (by assumption) (by omega); have hB := oqB_r (g := g) (a := a) (b := b) (R := R) (M := M) (N := N) (by omega) (by omega); omega), fun h => by exfalso; omega⟩⟩
                      · skip
                        replace pu100_1 := pu100_1 (by omega)
                        clear pu100_2
                        replace pu100_3 := pu100_3 (by omega)
                        have hq104 : oqNl (oqNx N M (oqN6 g (oqSk g (oqBh g a b)))) R M (M + 1) (u100) := pu100_3
                        refine r_aload_n C (j := 0) (oDec_at oX5_bookStatement 82 rfl) rfl rfl ?_
                        refine r_bipush C (oDec_at oX5_bookStatement 83 rfl) (v := k6) (by rw [qk6]; rfl) ?_
                        refine r_callVi C oCl5 rfl miX5_expect mlX5_74 (ct4_X5_expect l E (u100) k6 (g) (oqBn g a b) (oqBn g a b) (6) (by omega) (by omega) (oqX_fr fu100 rfl (oqX_fr (oFr_oneI (q := 5) (m := 7) rfl (by rfl)) rfl (oqX_fr (oFr_oneI (q := 5) (m := 6) rfl (by rfl)) rfl (oqX_fr fu87 rfl (oqX_fr fu1 rfl hp2))))) (by omega) (by omega)) (by decide) rfl rfl rfl (Nat.le_of_ble_eq_true rfl) (oDec_at oX5_bookStatement 84 rfl) (fun r106 u105 pu105 fu105 => ?_)
                        try dsimp only at pu105
                        obtain ⟨pu105_0, pu105_1, pu105_2⟩ := pu105
                        have rr106 := n_rng r106
                        refine r_if_eq C 182 (oDec_at oX5_bookStatement 85 rfl) (by decide) (fun cd107 => ?_) (fun cd107 => ?_)
                        · skip
                          clear pu105_1
                          replace pu105_2 := pu105_2 (by omega)
                          refine r_iconst C (oDec_at oX5_bookStatement 93 rfl) (v := k0) (by rw [qk0]; rfl) ?_
                          have lk108 : ((u105).1 30 5).toInt = (s.1 30 5).toInt := congrArg Int32.toInt (((fu105 30 5 rfl).1).trans (((fu100 30 5 rfl).1).trans (((pI_ne (a := 30) (b := 5) (c := 30) (k := 7) _ _ (Or.inr (by decide)))).trans (((pI_ne (a := 30) (b := 5) (c := 30) (k := 6) _ _ (Or.inr (by decide)))).trans (((fu87 30 5 rfl).1).trans ((fu1 30 5 rfl).1))))))
                          exact r_zret C (n_bool (by omega)) (oDec_at oX5_bookStatement 94 rfl) ⟨_, rfl, ⟨by omega, by omega, by first | (have hB := oqB_on (g := g) (a := a) (b := b) (R := R) (M := M) (N := N) (by omega) (by omega) (by omega); omega) | (have hV := oqV_1 (g := g) (p := 19) (q := 24) (w := oqBn g a b) (by omega); have hB := oqB_o (g := g) (a := a) (b := b) (R := R) (M := M) (N := N) (by omega) (by omega) (by omega); omega) | (have hV := oqV_1 (g := g) (p := 11) (q := 19) (w := oqBh g a b) (by omega); have hB := oqB_r (g := g) (a := a) (b := b) (R := R) (M := M) (N := N) (by omega) (by omega); omega) | (have hV := oqV_2 (g := g) (p := 19) (q := 24) (w := oqBn g a b) (by omega) pu105_4; have hk0 := oqFn_k pu105_4; have hB := oqB_o (g := g) (a := a) (b := b) (R := R) (M := M) (N := N) (by omega) (by omega) (by omega); omega) | (have hV := oqV_2 (g := g) (p := 11) (q := 19) (w := oqBh g a b) (by omega) pu105_4; have hk0 := oqFn_k pu105_4; have hB := oqB_r (g := g) (a := a) (b := b) (R := R) (M := M) (N := N) (by omega) (by omega); omega) | (have hV := oqV_3 (g := g) (p := 19) (q := 24) (w := oqBn g a b) (by omega) (by assumption) (by assumption) (by omega); have hB := oqB_o (g := g) (a := a) (b := b) (R := R) (M := M) (N := N) (by omega) (by omega) (by omega); omega) | (have hV := oqV_3 (g := g) (p := 11) (q := 19) (w := oqBh g a b) (by omega) (by assumption) (by assumption) (by omega); have hB := oqB_r (g := g) (a := a) (b := b) (R := R) (M := M) (N := N) (by omega) (by omega); omega), fun h => by exfalso; omega⟩⟩
                        · skip
                          replace pu105_1 := pu105_1 (by omega)
                          clear pu105_2
                          refine r_aload_n C (j := 0) (oDec_at oX5_bookStatement 86 rfl) rfl rfl ?_
                          have lk109 : ((u105).1 30 5).toInt = (s.1 30 5).toInt := congrArg Int32.toInt (((fu105 30 5 rfl).1).trans (((fu100 30 5 rfl).1).trans (((pI_ne (a := 30) (b := 5) (c := 30) (k := 7) _ _ (Or.inr (by decide)))).trans (((pI_ne (a := 30) (b := 5) (c := 30) (k := 6) _ _ (Or.inr (by decide)))).trans (((fu87 30 5 rfl).1).trans ((fu1 30 5 rfl).1))))))
                          have lk110 : ((u105).1 30 6).toInt = k19.toInt := congrArg Int32.toInt (((fu105 30 6 rfl).1).trans (((fu100 30 6 rfl).1).trans (((pI_ne (a := 30) (b := 6) (c := 30) (k := 7) _ _ (Or.inr (by decide)))).trans ((pI_self _ _ _ _)))))
                          have lk111 : ((u105).1 30 7).toInt = k24.toInt := congrArg Int32.toInt (((fu105 30 7 rfl).1).trans (((fu100 30 7 rfl).1).trans ((pI_self _ _ _ _))))
                          have lk112 : ((u105).1 30 5).toInt = (s.1 30 5).toInt := congrArg Int32.toInt (((fu105 30 5 rfl).1).trans (((fu100 30 5 rfl).1).trans (((pI_ne (a := 30) (b := 5) (c := 30) (k := 7) _ _ (Or.inr (by decide)))).trans (((pI_ne (a := 30) (b := 5) (c := 30) (k := 6) _ _ (Or.inr (by decide)))).trans (((fu87 30 5 rfl).1).trans ((fu1 30 5 rfl).1))))))
                          refine r_callVi C oCl5 rfl miX5_test mlX5_118 (ct4_X5_test l E (u105)  (g) (19) (24) (oqHa g (oqBn g a b) 6) (oqHa g (oqBn g a b) 6) (0) (by omega) (by omega) (oqX_fr fu105 rfl (oqX_fr fu100 rfl (oqX_fr (oFr_oneI (q := 5) (m := 7) rfl (by rfl)) rfl (oqX_fr (oFr_oneI (q := 5) (m := 6) rfl (by rfl)) rfl (oqX_fr fu87 rfl (oqX_fr fu1 rfl hp2)))))) (by omega) (by omega) (by omega) (by omega)) (by decide) rfl rfl rfl (Nat.le_of_ble_eq_true rfl) (oDec_at oX5_bookStatement 87 rfl) (fun r114 u113 pu113 fu113 => ?_)
                          try dsimp only at pu113
                          try simp only [lk109, lk110, lk111, lk112] at pu113
                          obtain ⟨pu113_0, pu113_1, pu113_2, pu113_3, pu113_4⟩ := pu113
                          have rr114 := n_rng r114
                          refine r_if_eq C 182 (oDec_at oX5_bookStatement 88 rfl) (by decide) (fun cd115 => ?_) (fun cd115 => ?_)
                          · skip
                            clear pu113_1
                            clear pu113_2
                            clear pu113_3
                            replace pu113_4 := pu113_4 (by omega)
                            refine r_iconst C (oDec_at oX5_bookStatement 93 rfl) (v := k0) (by rw [qk0]; rfl) ?_
                            exact r_zret C (n_bool (by omega)) (oDec_at oX5_bookStatement 94 rfl) ⟨_, rfl, ⟨by omega, by omega, by first | (have hB := oqB_on (g := g) (a := a) (b := b) (R := R) (M := M) (N := N) (by omega) (by omega) (by omega); omega) | (have hV := oqV_1 (g := g) (p := 19) (q := 24) (w := oqBn g a b) (by omega); have hB := oqB_o (g := g) (a := a) (b := b) (R := R) (M := M) (N := N) (by omega) (by omega) (by omega); omega) | (have hV := oqV_1 (g := g) (p := 11) (q := 19) (w := oqBh g a b) (by omega); have hB := oqB_r (g := g) (a := a) (b := b) (R := R) (M := M) (N := N) (by omega) (by omega); omega) | (have hV := oqV_2 (g := g) (p := 19) (q := 24) (w := oqBn g a b) (by omega) pu113_4; have hk0 := oqFn_k pu113_4; have hB := oqB_o (g := g) (a := a) (b := b) (R := R) (M := M) (N := N) (by omega) (by omega) (by omega); omega) | (have hV := oqV_2 (g := g) (p := 11) (q := 19) (w := oqBh g a b) (by omega) pu113_4; have hk0 := oqFn_k pu113_4; have hB := oqB_r (g := g) (a := a) (b := b) (R := R) (M := M) (N := N) (by omega) (by omega); omega) | (have hV := oqV_3 (g := g) (p := 19) (q := 24) (w := oqBn g a b) (by omega) (by assumption) (by assumption) (by omega); have hB := oqB_o (g := g) (a := a) (b := b) (R := R) (M := M) (N := N) (by omega) (by omega) (by omega); omega) | (have hV := oqV_3 (g := g) (p := 11) (q := 19) (w := oqBh g a b) (by omega) (by assumption) (by assumption) (by omega); have hB := oqB_r (g := g) (a := a) (b := b) (R := R) (M := M) (N := N) (by omega) (by omega); omega), fun h => by exfalso; omega⟩⟩
                          · skip
                            replace pu113_1 := pu113_1 (by omega)
                            replace pu113_2 := pu113_2 (by omega)
                            replace pu113_3 := pu113_3 (by omega)
                            clear pu113_4
                            have hgX : g (oqSk g ((u113).1 30 2).toInt) = g ((u113).1 30 2).toInt := by rw [show oqSk g ((u113).1 30 2).toInt = ((u113).1 30 2).toInt by omega]
                            refine r_aload_n C (j := 0) (oDec_at oX5_bookStatement 89 rfl) rfl rfl ?_
                            refine r_bipush C (oDec_at oX5_bookStatement 90 rfl) (v := k59) (by rw [qk59]; rfl) ?_
                            refine r_callVi C oCl5 rfl miX5_expectSign mlX5_88 (ct4_X5_expectSign l E (u113) k59 (g) (((u113).1 30 2).toInt) (59) (by omega) (oqX_fr fu113 rfl (oqX_fr fu105 rfl (oqX_fr fu100 rfl (oqX_fr (oFr_oneI (q := 5) (m := 7) rfl (by rfl)) rfl (oqX_fr (oFr_oneI (q := 5) (m := 6) rfl (by rfl)) rfl (oqX_fr fu87 rfl (oqX_fr fu1 rfl hp2))))))) (by omega) (by omega)) (by decide) rfl rfl rfl (Nat.le_of_ble_eq_true rfl) (oDec_at oX5_bookStatement 91 rfl) (fun r117 u116 pu116 fu116 => ?_)
                            try dsimp only at pu116
                            obtain ⟨pu116_0, pu116_1, pu116_2⟩ := pu116
                            have rr117 := n_rng r117
                            refine r_if_ne C 184 (oDec_at oX5_bookStatement 92 rfl) (by decide) (fun cd118 => ?_) (fun cd118 => ?_)
                            · skip
                              replace pu116_1 := pu116_1 (by omega)
                              clear pu116_2
                              refine r_aload_n C (j := 0) (oDec_at oX5_bookStatement 95 rfl) rfl rfl ?_
                              refine r_getK (k := 1) (b := b83) C oCl5 rfl (by decide) flX5_19 rfl rfl (((fu116 30 1 rfl).2.2).trans (((fu113 30 1 rfl).2.2).trans (((fu105 30 1 rfl).2.2).trans (((fu100 30 1 rfl).2.2).trans ((show ((pI (pI u87 30 6 k19) 30 7 k24)).2.2 30 1 = b83 + 1 from (show ((pI u87 30 6 k19)).2.2 30 1 = b83 + 1 from ((fu87 30 1 rfl).2.2).trans (rb83)))))))) (oDec_at oX5_bookStatement 96 rfl) ?_
                              refine r_iload_n C (j := 1) (oDec_at oX5_bookStatement 97 rfl) rfl rfl ?_
                              refine r_iconst C (oDec_at oX5_bookStatement 98 rfl) (v := k5) (by rw [qk5]; rfl) ?_
                              refine r_icmp_ne C 197 (oDec_at oX5_bookStatement 99 rfl) (by decide) (fun cd120 => ?_) (fun cd120 => ?_)
                              · omega
                              · skip
                                refine r_iconst C (oDec_at oX5_bookStatement 100 rfl) (v := k1) (by rw [qk1]; rfl) ?_
                                refine r_goto C (tgt := 198) (oDec_at oX5_bookStatement 101 rfl) (by decide) ?_
                                refine r_iload_n C (j := 2) (oDec_at oX5_bookStatement 103 rfl) rfl rfl ?_
                                have lk121 : ((u116).1 b83 8).toInt = v84.toInt := congrArg Int32.toInt (((fu116 b83 8 (by rw [hkb83]; rfl)).1).trans (((fu113 b83 8 (by rw [hkb83]; rfl)).1).trans (((fu105 b83 8 (by rw [hkb83]; rfl)).1).trans (((fu100 b83 8 (by rw [hkb83]; rfl)).1).trans (((pI_ne _ _ (Or.inl (okd_ne hkb83 rfl (by decide))))).trans (((pI_ne _ _ (Or.inl (okd_ne hkb83 rfl (by decide))))).trans (((fu87 b83 8 (by rw [hkb83]; rfl)).1).trans (ev84))))))))
                                have lk122 : ((u116).1 b83 7).toInt = (s.1 b83 7).toInt := congrArg Int32.toInt (((fu116 b83 7 (by rw [hkb83]; rfl)).1).trans (((fu113 b83 7 (by rw [hkb83]; rfl)).1).trans (((fu105 b83 7 (by rw [hkb83]; rfl)).1).trans (((fu100 b83 7 (by rw [hkb83]; rfl)).1).trans (((pI_ne _ _ (Or.inl (okd_ne hkb83 rfl (by decide))))).trans (((pI_ne _ _ (Or.inl (okd_ne hkb83 rfl (by decide))))).trans (((fu87 b83 7 (by rw [hkb83]; rfl)).1).trans ((fu1 b83 7 (by rw [hkb83]; rfl)).1))))))))
                                have lk123 : ((u116).1 b83 8).toInt = v84.toInt := congrArg Int32.toInt (((fu116 b83 8 (by rw [hkb83]; rfl)).1).trans (((fu113 b83 8 (by rw [hkb83]; rfl)).1).trans (((fu105 b83 8 (by rw [hkb83]; rfl)).1).trans (((fu100 b83 8 (by rw [hkb83]; rfl)).1).trans (((pI_ne _ _ (Or.inl (okd_ne hkb83 rfl (by decide))))).trans (((pI_ne _ _ (Or.inl (okd_ne hkb83 rfl (by decide))))).trans (((fu87 b83 8 (by rw [hkb83]; rfl)).1).trans (ev84))))))))
                                have lk124 : ((u116).1 b83 7).toInt = (s.1 b83 7).toInt := congrArg Int32.toInt (((fu116 b83 7 (by rw [hkb83]; rfl)).1).trans (((fu113 b83 7 (by rw [hkb83]; rfl)).1).trans (((fu105 b83 7 (by rw [hkb83]; rfl)).1).trans (((fu100 b83 7 (by rw [hkb83]; rfl)).1).trans (((pI_ne _ _ (Or.inl (okd_ne hkb83 rfl (by decide))))).trans (((pI_ne _ _ (Or.inl (okd_ne hkb83 rfl (by decide))))).trans (((fu87 b83 7 (by rw [hkb83]; rfl)).1).trans ((fu1 b83 7 (by rw [hkb83]; rfl)).1))))))))
                                refine r_callVv C oCl0 hkb83 miX0_close mlX5_121 (ct4_X0_close l E (u116) b83 hkb83 k1 v91 (by omega) (by omega) (by omega) (by omega)) (by decide) rfl rfl rfl (Nat.le_of_ble_eq_true rfl) (oDec_at oX5_bookStatement 104 rfl) (fun u125 pu125 fu125 => ?_)
                                try dsimp only at pu125
                                try simp only [lk121, lk122, lk123, lk124] at pu125
                                obtain ⟨pu125_0, pu125_1⟩ := pu125
                                refine r_iconst C (oDec_at oX5_bookStatement 105 rfl) (v := k1) (by rw [qk1]; rfl) ?_
                                have lk127 : ((u125).1 30 2).toInt = (u116.1 30 2).toInt := congrArg Int32.toInt ((fu125 30 2 rfl).1)
                                have lk128 : ((u125).1 30 3).toInt = (u113.1 30 3).toInt := congrArg Int32.toInt (((fu125 30 3 rfl).1).trans ((fu116 30 3 rfl).1))
                                have lk129 : ((u125).1 30 5).toInt = (u113.1 30 5).toInt := congrArg Int32.toInt (((fu125 30 5 rfl).1).trans ((fu116 30 5 rfl).1))
                                have lk130 : ((u125).1 30 8).toInt = (u116.1 30 8).toInt := congrArg Int32.toInt ((fu125 30 8 rfl).1)
                                have lk131 : ((u125).1 30 9).toInt = (u116.1 30 9).toInt := congrArg Int32.toInt ((fu125 30 9 rfl).1)
                                have lk132 : ((u125).1 30 8).toInt = (u116.1 30 8).toInt := congrArg Int32.toInt ((fu125 30 8 rfl).1)
                                have lk133 : ((u125).1 30 9).toInt = (u116.1 30 9).toInt := congrArg Int32.toInt ((fu125 30 9 rfl).1)
                                exact r_zret C (n_bool (by omega)) (oDec_at oX5_bookStatement 106 rfl) ⟨_, rfl, ⟨by omega, by first | (have hV := oqV_0 (g := g) (p := 19) (q := 24) (w := oqBn g a b) (by omega) pu113_1 pu113_2 (by omega); have hB := oqB_o (g := g) (a := a) (b := b) (R := R) (M := M) (N := N) (by omega) (by omega) (by omega); omega) | (have hV := oqV_0 (g := g) (p := 11) (q := 19) (w := oqBh g a b) (by omega) pu113_1 pu113_2 (by omega); have hB := oqB_r (g := g) (a := a) (b := b) (R := R) (M := M) (N := N) (by omega) (by omega); omega), fun h => by exfalso; omega, by first | (intro h; have hb := oqBs_4 (g := g) (a := a) (b := b) (R := R) (M := M) (N := N) (by omega); rw [hb.1, hb.2.1, hb.2.2]; exact oqNl_cl (by assumption) (((fu125 30 1 rfl).2.2).trans (((fu116 30 1 rfl).2.2).trans (((fu113 30 1 rfl).2.2).trans (((fu105 30 1 rfl).2.2).trans (((fu100 30 1 rfl).2.2).trans ((show ((pI (pI u87 30 6 k19) 30 7 k24)).2.2 30 1 = b83 + 1 from (show ((pI u87 30 6 k19)).2.2 30 1 = b83 + 1 from ((fu87 30 1 rfl).2.2).trans (rb83))))))))) fu125 rfl (by omega) (by omega) (by omega) rfl) | (intro h; have hb := oqBs_5 (g := g) (a := a) (b := b) (R := R) (M := M) (N := N) (by omega); rw [hb.1, hb.2.1, hb.2.2]; exact oqNl_cl (oqNl_fr fu116 rfl (oqNl_fr fu113 rfl (oqNl_fr fu105 rfl hq104))) (((fu125 30 1 rfl).2.2).trans (((fu116 30 1 rfl).2.2).trans (((fu113 30 1 rfl).2.2).trans (((fu105 30 1 rfl).2.2).trans (((fu100 30 1 rfl).2.2).trans ((show ((pI (pI u87 30 6 k19) 30 7 k24)).2.2 30 1 = b83 + 1 from (show ((pI u87 30 6 k19)).2.2 30 1 = b83 + 1 from ((fu87 30 1 rfl).2.2).trans (rb83))))))))) fu125 rfl (by omega) (by omega) (by omega) rfl)⟩⟩
                            · skip
                              clear pu116_1
                              replace pu116_2 := pu116_2 (by omega)
                              refine r_iconst C (oDec_at oX5_bookStatement 93 rfl) (v := k0) (by rw [qk0]; rfl) ?_
                              have lk134 : ((u116).1 30 3).toInt = (u113.1 30 3).toInt := congrArg Int32.toInt ((fu116 30 3 rfl).1)
                              have lk135 : ((u116).1 30 5).toInt = (u113.1 30 5).toInt := congrArg Int32.toInt ((fu116 30 5 rfl).1)
                              exact r_zret C (n_bool (by omega)) (oDec_at oX5_bookStatement 94 rfl) ⟨_, rfl, ⟨by omega, by omega, by first | (have hB := oqB_on (g := g) (a := a) (b := b) (R := R) (M := M) (N := N) (by omega) (by omega) (by omega); omega) | (have hV := oqV_1 (g := g) (p := 19) (q := 24) (w := oqBn g a b) (by omega); have hB := oqB_o (g := g) (a := a) (b := b) (R := R) (M := M) (N := N) (by omega) (by omega) (by omega); omega) | (have hV := oqV_1 (g := g) (p := 11) (q := 19) (w := oqBh g a b) (by omega); have hB := oqB_r (g := g) (a := a) (b := b) (R := R) (M := M) (N := N) (by omega) (by omega); omega) | (have hV := oqV_2 (g := g) (p := 19) (q := 24) (w := oqBn g a b) (by omega) pu116_4; have hk0 := oqFn_k pu116_4; have hB := oqB_o (g := g) (a := a) (b := b) (R := R) (M := M) (N := N) (by omega) (by omega) (by omega); omega) | (have hV := oqV_2 (g := g) (p := 11) (q := 19) (w := oqBh g a b) (by omega) pu116_4; have hk0 := oqFn_k pu116_4; have hB := oqB_r (g := g) (a := a) (b := b) (R := R) (M := M) (N := N) (by omega) (by omega); omega) | (have hV := oqV_3 (g := g) (p := 19) (q := 24) (w := oqBn g a b) (by omega) pu113_1 pu113_2 (by omega); have hB := oqB_o (g := g) (a := a) (b := b) (R := R) (M := M) (N := N) (by omega) (by omega) (by omega); omega) | (have hV := oqV_3 (g := g) (p := 11) (q := 19) (w := oqBh g a b) (by omega) pu113_1 pu113_2 (by omega); have hB := oqB_r (g := g) (a := a) (b := b) (R := R) (M := M) (N := N) (by omega) (by omega); omega), fun h => by exfalso; omega⟩⟩
              · omega
            · skip
              have hB : (oqBk g a b R M N = 5 ∧ oqBp g a b R M N = oqSk g a) := by first | exact oqB_r5 (by omega) (by omega) | exact oqB_o5 (by omega) (by omega)
              refine r_aload_n C (j := 0) (oDec_at oX5_bookStatement 34 rfl) rfl rfl ?_
              refine r_iconst C (oDec_at oX5_bookStatement 35 rfl) (v := k5) (by rw [qk5]; rfl) ?_
              refine r_aload_n C (j := 0) (oDec_at oX5_bookStatement 36 rfl) rfl rfl ?_
              obtain ⟨v136, ev136⟩ : ∃ z : Int32, (u1).1 30 2 = z := ⟨_, rfl⟩
              have gv136 : (u1.1 30 2).toInt = v136.toInt := congrArg Int32.toInt (ev136)
              refine r_geti (k := 2) (lo := 0) (hi := 1600) C v136 oCl5 rfl (by decide) flX5_23 rfl rfl (ev136) rfl rfl (oDec_at oX5_bookStatement 37 rfl) (fun b137 b137h => ?_)
              refine r_callVi C oCl5 rfl miX5_fail mlX5_62 (ct4_X5_fail l E (u1) k5 v136 ) (by decide) rfl rfl rfl (Nat.le_of_ble_eq_true rfl) (oDec_at oX5_bookStatement 38 rfl) (fun r139 u138 pu138 fu138 => ?_)
              try dsimp only at pu138
              obtain ⟨pu138_0, pu138_1, pu138_2, pu138_3⟩ := pu138
              have rr139 := n_rng r139
              have lk140 : ((u138).1 30 2).toInt = v136.toInt := congrArg Int32.toInt (((fu138 30 2 rfl).1).trans (ev136))
              have lk141 : ((u138).1 30 3).toInt = (s.1 30 3).toInt := congrArg Int32.toInt (((fu138 30 3 rfl).1).trans ((fu1 30 3 rfl).1))
              have lk142 : ((u138).1 30 5).toInt = (s.1 30 5).toInt := congrArg Int32.toInt (((fu138 30 5 rfl).1).trans ((fu1 30 5 rfl).1))
              exact r_zret C (n_bool (by omega)) (oDec_at oX5_bookStatement 39 rfl) ⟨_, rfl, ⟨by omega, by omega, by omega, fun h => by exfalso; omega⟩⟩
        · omega
      · skip
        have hB := oqB_w (g := g) (a := a) (b := b) (R := R) (M := M) (N := N) ⟨by omega, by omega, by omega⟩
        refine r_aload_n C (j := 0) (oDec_at oX5_bookStatement 12 rfl) rfl rfl ?_
        refine r_iconst C (oDec_at oX5_bookStatement 13 rfl) (v := k1) (by rw [qk1]; rfl) ?_
        refine r_aload_n C (j := 0) (oDec_at oX5_bookStatement 14 rfl) rfl rfl ?_
        obtain ⟨v143, ev143⟩ : ∃ z : Int32, (u1).1 30 2 = z := ⟨_, rfl⟩
        have gv143 : (u1.1 30 2).toInt = v143.toInt := congrArg Int32.toInt (ev143)
        refine r_geti (k := 2) (lo := 0) (hi := 1600) C v143 oCl5 rfl (by decide) flX5_23 rfl rfl (ev143) rfl rfl (oDec_at oX5_bookStatement 15 rfl) (fun b144 b144h => ?_)
        refine r_callVi C oCl5 rfl miX5_fail mlX5_62 (ct4_X5_fail l E (u1) k1 v143 ) (by decide) rfl rfl rfl (Nat.le_of_ble_eq_true rfl) (oDec_at oX5_bookStatement 16 rfl) (fun r146 u145 pu145 fu145 => ?_)
        try dsimp only at pu145
        obtain ⟨pu145_0, pu145_1, pu145_2, pu145_3⟩ := pu145
        have rr146 := n_rng r146
        have lk147 : ((u145).1 30 2).toInt = v143.toInt := congrArg Int32.toInt (((fu145 30 2 rfl).1).trans (ev143))
        have lk148 : ((u145).1 30 3).toInt = (s.1 30 3).toInt := congrArg Int32.toInt (((fu145 30 3 rfl).1).trans ((fu1 30 3 rfl).1))
        have lk149 : ((u145).1 30 5).toInt = (s.1 30 5).toInt := congrArg Int32.toInt (((fu145 30 5 rfl).1).trans ((fu1 30 5 rfl).1))
        exact r_zret C (n_bool (by omega)) (oDec_at oX5_bookStatement 17 rfl) ⟨_, rfl, ⟨by omega, by omega, by omega, fun h => by exfalso; omega⟩⟩
