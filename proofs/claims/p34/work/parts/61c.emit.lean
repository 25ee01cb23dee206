set_option maxHeartbeats 4000000 in
set_option maxRecDepth 100000 in
theorem ct9_X0_emit (l : Launch) (E : oE) (s : oS) (c0 : Nat) (hk0 : okd c0 = 0) (a1 : Int32) (L : Int) (F : Nat → Int32) (d : Nat) (G : Nat → Nat → Int32) (hp0 : oqAn c0 L F s) (hp1 : c0 ≠ d) (hp2 : oqKx d G s) : oMet l 1 yX0_emit cX0_emit 2 none [(0, 1), (20, 9999)] E s [.ref (oad E c0), .int a1] (oPv (fun u => (L < 1600 → ((u.1 c0 1).toInt = L + 1 ∧ u.1 (c0 + 1) = oU F L.toNat a1)) ∧ (oqKx d G u))) := by
  refine oMet.of (lv := [(0, .ref (oad E c0)), (1, .int a1)]) (by decide +kernel) (Nat.le_of_ble_eq_true rfl) rfl (fun J C hT => ?_)
  have C : oC l 1 cX0_emit RX0 2 none [(0, 1), (20, 9999)] E s (oPv (fun u => (L < 1600 → ((u.1 c0 1).toInt = L + 1 ∧ u.1 (c0 + 1) = oU F L.toNat a1)) ∧ (oqKx d G u))) J := C
  obtain ⟨k1, qk1⟩ : ∃ z : Int32, z = 1 := ⟨_, rfl⟩
  have ek1 : k1.toInt = 1 := by rw [qk1]; rfl
  have rg1 := n_rng a1
  have hL := hp0.2.1
  refine r_aload_n C (j := 0) (oDec_at oX0_emit 0 rfl) rfl rfl ?_
  obtain ⟨v1, ev1⟩ : ∃ z : Int32, (s).1 c0 1 = z := ⟨_, rfl⟩
  have gv1 : (s.1 c0 1).toInt = v1.toInt := congrArg Int32.toInt (ev1)
  refine r_geti (k := 1) (lo := 0) (hi := 1600) C v1 oCl0 hk0 (by decide) flX0_33 rfl rfl (ev1) rfl rfl (oDec_at oX0_emit 1 rfl) (fun b2 b2h => ?_)
  refine r_aload_n C (j := 0) (oDec_at oX0_emit 2 rfl) rfl rfl ?_
  refine r_getR (k := 0) (b := 1) C oCl0 hk0 (by decide) flX0_11 rfl rfl rfl (oDec_at oX0_emit 3 rfl) ?_
  obtain ⟨v3, ev3⟩ : ∃ z : Int32, Int32.ofNat 1600 = z := ⟨_, rfl⟩
  have hv3 : v3.toInt = 1600 := by rw [← ev3]; rfl
  refine r_alen0 (n := 1600) C v3 (kr0_1 hk0) (by decide) rfl rfl (by decide) ev3 (oDec_at oX0_emit 4 rfl) ?_
  refine r_icmp_ge C 32 (oDec_at oX0_emit 5 rfl) (by decide) (fun cd4 => ?_) (fun cd4 => ?_)
  · skip
    have hq5 : oqKx d G (s) := by first | exact hp2 | exact oqKx_em (by assumption) hk0 hp1
    exact r_vret C (oDec_at oX0_emit 18 rfl) ⟨rfl, ⟨by first | (intro h9; exfalso; omega) | exact fun _ => oqEm_of hp0 (by omega) (by omega), hq5⟩⟩
  · skip
    refine r_aload_n C (j := 0) (oDec_at oX0_emit 6 rfl) rfl rfl ?_
    refine r_getR (k := 0) (b := 1) C oCl0 hk0 (by decide) flX0_11 rfl rfl rfl (oDec_at oX0_emit 7 rfl) ?_
    refine r_aload_n C (j := 0) (oDec_at oX0_emit 8 rfl) rfl rfl ?_
    refine r_geti (k := 1) (lo := 0) (hi := 1600) C v1 oCl0 hk0 (by decide) flX0_33 rfl rfl (ev1) rfl rfl (oDec_at oX0_emit 9 rfl) (fun _ _ => ?_)
    refine r_iload_n C (j := 1) (oDec_at oX0_emit 10 rfl) rfl rfl ?_
    refine r_iast (n := 1600) (lo := (-2147483648)) (hi := 2147483647) C (kr0_1 hk0) (by decide) rfl rfl ⟨by omega, by omega⟩ (by decide) rfl rfl rfl rfl (n_rng _) (oDec_at oX0_emit 11 rfl) ?_
    refine r_pc C 22 rfl ?_
    refine r_aload_n C (j := 0) (oDec_at oX0_emit 12 rfl) rfl rfl ?_
    refine r_dup C (oDec_at oX0_emit 13 rfl) rfl ?_
    refine r_geti (k := 1) (lo := 0) (hi := 1600) C v1 oCl0 hk0 (by decide) flX0_33 rfl rfl (((pI_ne _ _ (Or.inl (okd_ne hk0 (kr0_1 hk0) (by decide))))).trans (ev1)) rfl rfl (oDec_at oX0_emit 14 rfl) (fun _ _ => ?_)
    refine r_iconst C (oDec_at oX0_emit 15 rfl) (v := k1) (by rw [qk1]; rfl) ?_
    obtain ⟨v6, ev6⟩ : ∃ z : Int32, z = v1 + k1 := ⟨_, rfl⟩
    have hv6 : v6.toInt = v1.toInt + k1.toInt := n_add ev6 (by omega) (by omega)
    refine r_iadd C v6 (oDec_at oX0_emit 16 rfl) ev6 ?_
    refine r_puti (k := 1) (lo := 0) (hi := 1600) C oCl0 hk0 (by decide) flX0_33 rfl rfl rfl rfl rfl rfl rfl rfl ⟨by omega, by omega⟩ (oDec_at oX0_emit 17 rfl) ?_
    refine r_pc C 32 rfl ?_
    have hq7 : oqKx d G ((pI (pI s (c0 + 1) v1.toNatClampNeg a1) c0 1 v6)) := by first | exact (by assumption) | exact oqKx_em hp2 hk0 hp1
    exact r_vret C (oDec_at oX0_emit 18 rfl) ⟨rfl, ⟨by first | (intro h9; exfalso; omega) | exact fun _ => oqEm_of hp0 (by omega) (by omega), hq7⟩⟩
