set_option maxHeartbeats 4000000 in
set_option maxRecDepth 100000 in
theorem ct9_X12_apart (l : Launch) (E : oE) (s : oS) (a0 : Int32) (a1 : Int32)  (hp0 : -2000 ≤ a0.toInt ∧ a0.toInt ≤ 2000) (hp1 : -2000 ≤ a1.toInt ∧ a1.toInt ≤ 2000) : oMet l 1 yX12_apart cX12_apart 2 (some .int) [] E s [.int a0, .int a1] (oPi (fun r u => (r.toInt = owAb (a0.toInt - a1.toInt)))) := by
  refine oMet.of (lv := [(0, .int a0), (1, .int a1)]) (by decide +kernel) (Nat.le_of_ble_eq_true rfl) rfl (fun J C hT => ?_)
  have C : oC l 1 cX12_apart RX12 2 (some .int) [] E s (oPi (fun r u => (r.toInt = owAb (a0.toInt - a1.toInt)))) J := C
  have rg0 := n_rng a0
  have rg1 := n_rng a1
  refine r_iload_n C (j := 0) (oDec_at oX12_apart 0 rfl) rfl rfl ?_
  refine r_iload_n C (j := 1) (oDec_at oX12_apart 1 rfl) rfl rfl ?_
  refine r_icmp_le C 11 (oDec_at oX12_apart 2 rfl) (by decide) (fun cd1 => ?_) (fun cd1 => ?_)
  · skip
    refine r_iload_n C (j := 1) (oDec_at oX12_apart 7 rfl) rfl rfl ?_
    refine r_iload_n C (j := 0) (oDec_at oX12_apart 8 rfl) rfl rfl ?_
    obtain ⟨v2, ev2⟩ : ∃ z : Int32, z = a1 - a0 := ⟨_, rfl⟩
    have hv2 : v2.toInt = a1.toInt - a0.toInt := n_sub ev2 (by omega) (by omega)
    refine r_isub C v2 (oDec_at oX12_apart 9 rfl) ev2 ?_
    exact r_iret C (oDec_at oX12_apart 10 rfl) ⟨_, rfl, by unfold owAb; split <;> omega⟩
  · skip
    refine r_iload_n C (j := 0) (oDec_at oX12_apart 3 rfl) rfl rfl ?_
    refine r_iload_n C (j := 1) (oDec_at oX12_apart 4 rfl) rfl rfl ?_
    obtain ⟨v3, ev3⟩ : ∃ z : Int32, z = a0 - a1 := ⟨_, rfl⟩
    have hv3 : v3.toInt = a0.toInt - a1.toInt := n_sub ev3 (by omega) (by omega)
    refine r_isub C v3 (oDec_at oX12_apart 5 rfl) ev3 ?_
    refine r_goto C (tgt := 14) (oDec_at oX12_apart 6 rfl) (by decide) ?_
    exact r_iret C (oDec_at oX12_apart 10 rfl) ⟨_, rfl, by unfold owAb; split <;> omega⟩
set_option maxHeartbeats 4000000 in
set_option maxRecDepth 100000 in
theorem ct9_X12_asksAll (l : Launch) (E : oE) (s : oS) (a1 : Int32) (a2 : Int32) (A9 : Int) (B9 : Int) (p9 : Int) (q9 : Int) (me : Int) (hp0 : 0 ≤ a2.toInt ∧ a2.toInt ≤ 1) (hp1 : (s.1 71 60).toInt = A9) (hp2 : (s.1 71 61).toInt = B9) (hp3 : (s.1 71 62).toInt = p9) (hp4 : (s.1 71 63).toInt = q9) (hp5 : (s.1 71 53).toInt = me) (hp6 : 2 ≤ me ∧ me ≤ 12) (hp7 : -20 ≤ A9 ∧ A9 ≤ 20) (hp8 : -20 ≤ B9 ∧ B9 ≤ 20) (hp9 : p9 = -1000000000 ∨ (-20 ≤ p9 ∧ p9 ≤ 20 ∧ -28 ≤ A9 - p9 ∧ A9 - p9 ≤ 28)) (hp10 : q9 = -1000000000 ∨ (-20 ≤ q9 ∧ q9 ≤ 20 ∧ -28 ≤ B9 - q9 ∧ B9 - q9 ≤ 28)) (hp11 : 0 ≤ a1.toInt ∧ a1.toInt ≤ 1000) : oMet l 2 yX12_asksAll cX12_asksAll 3 none [(85, 9999)] E s [.ref (oad E 71), .int a1, .int a2] (oPv (fun u => (owQA (owFm (B9 - A9) (owWa (owBf p9 q9) 0) (owPk (a1.toInt % me) (owRw A9 p9) (owRw B9 q9) a2.toInt)) u))) := by
  refine oMet.of (lv := [(0, .ref (oad E 71)), (1, .int a1), (2, .int a2)]) (by decide +kernel) (Nat.le_of_ble_eq_true rfl) rfl (fun J C hT => ?_)
  have C : oC l 2 cX12_asksAll RX12 3 none [(85, 9999)] E s (oPv (fun u => (owQA (owFm (B9 - A9) (owWa (owBf p9 q9) 0) (owPk (a1.toInt % me) (owRw A9 p9) (owRw B9 q9) a2.toInt)) u))) J := C
  obtain ⟨km1000000000, qkm1000000000⟩ : ∃ z : Int32, z = (-1000000000) := ⟨_, rfl⟩
  have ekm1000000000 : km1000000000.toInt = (-1000000000) := by rw [qkm1000000000]; rfl
  obtain ⟨k0, qk0⟩ : ∃ z : Int32, z = 0 := ⟨_, rfl⟩
  have ek0 : k0.toInt = 0 := by rw [qk0]; rfl
  obtain ⟨k1, qk1⟩ : ∃ z : Int32, z = 1 := ⟨_, rfl⟩
  have ek1 : k1.toInt = 1 := by rw [qk1]; rfl
  obtain ⟨k2, qk2⟩ : ∃ z : Int32, z = 2 := ⟨_, rfl⟩
  have ek2 : k2.toInt = 2 := by rw [qk2]; rfl
  obtain ⟨k3, qk3⟩ : ∃ z : Int32, z = 3 := ⟨_, rfl⟩
  have ek3 : k3.toInt = 3 := by rw [qk3]; rfl
  obtain ⟨k4, qk4⟩ : ∃ z : Int32, z = 4 := ⟨_, rfl⟩
  have ek4 : k4.toInt = 4 := by rw [qk4]; rfl
  obtain ⟨k5, qk5⟩ : ∃ z : Int32, z = 5 := ⟨_, rfl⟩
  have ek5 : k5.toInt = 5 := by rw [qk5]; rfl
  obtain ⟨k6, qk6⟩ : ∃ z : Int32, z = 6 := ⟨_, rfl⟩
  have ek6 : k6.toInt = 6 := by rw [qk6]; rfl
  obtain ⟨k7, qk7⟩ : ∃ z : Int32, z = 7 := ⟨_, rfl⟩
  have ek7 : k7.toInt = 7 := by rw [qk7]; rfl
  have rg1 := n_rng a1
  have rg2 := n_rng a2
  have hT1 := Int.emod_nonneg a1.toInt (b := me) (by omega)
  have hT2 := Int.emod_lt_of_pos a1.toInt (b := me) (by omega)
  have hab9 := owAb_b (a := B9 - A9) (b := 100) (by omega)
  have hra9 : -28 ≤ owRw A9 p9 ∧ owRw A9 p9 ≤ 28 := by unfold owRw; split <;> omega
  have hrb9 : -28 ≤ owRw B9 q9 ∧ owRw B9 q9 ≤ 28 := by unfold owRw; split <;> omega
  refine r_aload_n C (j := 0) (oDec_at oX12_asksAll 0 rfl) rfl rfl ?_
  refine r_getF (k := 59) (b := 109) C oCl12 rfl (by decide) flX12_133 rfl rfl rfl (oDec_at oX12_asksAll 1 rfl) ?_
  refine r_iconst C (oDec_at oX12_asksAll 2 rfl) (v := k0) (by rw [qk0]; rfl) ?_
  refine r_aload_n C (j := 0) (oDec_at oX12_asksAll 3 rfl) rfl rfl ?_
  obtain ⟨v1, ev1⟩ : ∃ z : Int32, (s).1 71 60 = z := ⟨_, rfl⟩
  have gv1 : (s.1 71 60).toInt = v1.toInt := congrArg Int32.toInt (ev1)
  have rv1 := n_rng v1
  refine r_geti (k := 60) (lo := (-2147483648)) (hi := 2147483647) C v1 oCl12 rfl (by decide) flX12_434 rfl rfl (ev1) rfl rfl (oDec_at oX12_asksAll 4 rfl) (fun _ _ => ?_)
  refine r_aload_n C (j := 0) (oDec_at oX12_asksAll 5 rfl) rfl rfl ?_
  refine r_pc C 10 rfl ?_
  obtain ⟨v2, ev2⟩ : ∃ z : Int32, (s).1 71 61 = z := ⟨_, rfl⟩
  have gv2 : (s.1 71 61).toInt = v2.toInt := congrArg Int32.toInt (ev2)
  have rv2 := n_rng v2
  refine r_geti (k := 61) (lo := (-2147483648)) (hi := 2147483647) C v2 oCl12 rfl (by decide) flX12_437 rfl rfl (ev2) rfl rfl (oDec_at oX12_asksAll 6 rfl) (fun _ _ => ?_)
  refine r_callSi C miX12_apart mlX12_440 (ct9_X12_apart l E (s) v1 v2 (by omega) (by omega)) (by decide) rfl rfl rfl (Nat.le_of_ble_eq_true rfl) (oDec_at oX12_asksAll 7 rfl) (fun r4 u3 pu3 fu3 => ?_)
  try dsimp only at pu3
  have hxu3 := oFr_nil fu3; subst hxu3
  have rr4 := n_rng r4
  have hv09 : r4.toInt = owAb (B9 - A9) := by rw [pu3, show v1.toInt - v2.toInt = -(B9 - A9) by omega, owAb_n]
  refine r_iast (n := 8) (lo := (-2147483648)) (hi := 2147483647) C rfl (by decide) rfl rfl ⟨by omega, by omega⟩ (by decide) rfl rfl rfl rfl (n_rng _) (oDec_at oX12_asksAll 8 rfl) ?_
  refine r_aload_n C (j := 0) (oDec_at oX12_asksAll 9 rfl) rfl rfl ?_
  refine r_getF (k := 59) (b := 109) C oCl12 rfl (by decide) flX12_133 rfl rfl rfl (oDec_at oX12_asksAll 10 rfl) ?_
  refine r_iconst C (oDec_at oX12_asksAll 11 rfl) (v := k1) (by rw [qk1]; rfl) ?_
  refine r_pc C 22 rfl ?_
  refine r_aload_n C (j := 0) (oDec_at oX12_asksAll 12 rfl) rfl rfl ?_
  refine r_getF (k := 59) (b := 109) C oCl12 rfl (by decide) flX12_133 rfl rfl rfl (oDec_at oX12_asksAll 13 rfl) ?_
  refine r_iconst C (oDec_at oX12_asksAll 14 rfl) (v := k0) (by rw [qk0]; rfl) ?_
  refine r_iald (n := 8) (lo := (-2147483648)) (hi := 2147483647) C r4 rfl (by decide) rfl rfl ⟨by omega, by omega⟩ (by decide) ((pI_self _ _ _ _)) rfl rfl (oDec_at oX12_asksAll 15 rfl) (fun _ _ => ?_)
  refine r_bipush C (oDec_at oX12_asksAll 16 rfl) (v := k7) (by rw [qk7]; rfl) ?_
  obtain ⟨v6, ev6⟩ : ∃ z : Int32, z = r4 - r4 / k7 * k7 := ⟨_, rfl⟩
  have hv6 := n_rem (k := 7) ev6 ek7 (by decide)
  have rv6 := n_rng v6
  refine r_irem C v6 (oDec_at oX12_asksAll 17 rfl) (n_ne0 (by omega)) ev6 ?_
  refine r_pc C 31 rfl ?_
  have hv19 : v6.toInt = owAb (B9 - A9) % 7 := by omega
  refine r_iast (n := 8) (lo := (-2147483648)) (hi := 2147483647) C rfl (by decide) rfl rfl ⟨by omega, by omega⟩ (by decide) rfl rfl rfl rfl (n_rng _) (oDec_at oX12_asksAll 18 rfl) ?_
  refine r_aload_n C (j := 0) (oDec_at oX12_asksAll 19 rfl) rfl rfl ?_
  refine r_getF (k := 59) (b := 109) C oCl12 rfl (by decide) flX12_133 rfl rfl rfl (oDec_at oX12_asksAll 20 rfl) ?_
  refine r_iconst C (oDec_at oX12_asksAll 21 rfl) (v := k2) (by rw [qk2]; rfl) ?_
  refine r_aload_n C (j := 0) (oDec_at oX12_asksAll 22 rfl) rfl rfl ?_
  refine r_geti (k := 61) (lo := (-2147483648)) (hi := 2147483647) C v2 oCl12 rfl (by decide) flX12_437 rfl rfl (((pI_ne (a := 71) (b := 61) (c := 109) _ _ (Or.inl (by decide)))).trans (((pI_ne (a := 71) (b := 61) (c := 109) _ _ (Or.inl (by decide)))).trans (ev2))) rfl rfl (oDec_at oX12_asksAll 23 rfl) (fun _ _ => ?_)
  refine r_pc C 41 rfl ?_
  refine r_aload_n C (j := 0) (oDec_at oX12_asksAll 24 rfl) rfl rfl ?_
  refine r_geti (k := 60) (lo := (-2147483648)) (hi := 2147483647) C v1 oCl12 rfl (by decide) flX12_434 rfl rfl (((pI_ne (a := 71) (b := 60) (c := 109) _ _ (Or.inl (by decide)))).trans (((pI_ne (a := 71) (b := 60) (c := 109) _ _ (Or.inl (by decide)))).trans (ev1))) rfl rfl (oDec_at oX12_asksAll 25 rfl) (fun _ _ => ?_)
  refine r_icmp_ge C 52 (oDec_at oX12_asksAll 26 rfl) (by decide) (fun cd7 => ?_) (fun cd7 => ?_)
  · skip
    refine r_iconst C (oDec_at oX12_asksAll 29 rfl) (v := k0) (by rw [qk0]; rfl) ?_
    have hv29 : k0.toInt = if B9 - A9 < 0 then 1 else 0 := by first | (rw [if_pos (by omega)] <;> omega) | (rw [if_neg (by omega)] <;> omega)
    refine r_iast (n := 8) (lo := (-2147483648)) (hi := 2147483647) C rfl (by decide) rfl rfl ⟨by omega, by omega⟩ (by decide) rfl rfl rfl rfl (n_rng _) (oDec_at oX12_asksAll 30 rfl) ?_
    refine r_aload_n C (j := 0) (oDec_at oX12_asksAll 31 rfl) rfl rfl ?_
    refine r_getF (k := 59) (b := 109) C oCl12 rfl (by decide) flX12_133 rfl rfl rfl (oDec_at oX12_asksAll 32 rfl) ?_
    refine r_iconst C (oDec_at oX12_asksAll 33 rfl) (v := k3) (by rw [qk3]; rfl) ?_
    refine r_iload_n C (j := 1) (oDec_at oX12_asksAll 34 rfl) rfl rfl ?_
    refine r_pc C 60 rfl ?_
    refine r_aload_n C (j := 0) (oDec_at oX12_asksAll 35 rfl) rfl rfl ?_
    obtain ⟨v8, ev8⟩ : ∃ z : Int32, ((pI (pI (pI s 109 k0.toNatClampNeg r4) 109 k1.toNatClampNeg v6) 109 k2.toNatClampNeg k0)).1 71 53 = z := ⟨_, rfl⟩
    have gv8 : (s.1 71 53).toInt = v8.toInt := congrArg Int32.toInt ((((pI_ne (a := 71) (b := 53) (c := 109) _ _ (Or.inl (by decide)))).trans (((pI_ne (a := 71) (b := 53) (c := 109) _ _ (Or.inl (by decide)))).trans ((pI_ne (a := 71) (b := 53) (c := 109) _ _ (Or.inl (by decide)))))).symm.trans ev8)
    have ggv8 : (((pI (pI (pI s 109 k0.toNatClampNeg r4) 109 k1.toNatClampNeg v6) 109 k2.toNatClampNeg k0)).1 71 53).toInt = v8.toInt := congrArg Int32.toInt ev8
    refine r_geti (k := 53) (lo := 2) (hi := 12) C v8 oCl12 rfl (by decide) flX12_127 rfl rfl (ev8) rfl rfl (oDec_at oX12_asksAll 36 rfl) (fun b9 b9h => ?_)
    obtain ⟨v10, ev10⟩ : ∃ z : Int32, z = a1 - a1 / v8 * v8 := ⟨_, rfl⟩
    have rv10 := n_rng v10
    have hv10 := n_remE ev10 (by omega) (by omega)
    refine r_irem C v10 (oDec_at oX12_asksAll 37 rfl) (n_ne0 (by omega)) ev10 ?_
    have hv39 : v10.toInt = a1.toInt % me := by rw [hv10, show v8.toInt = me by omega]
    refine r_iast (n := 8) (lo := (-2147483648)) (hi := 2147483647) C rfl (by decide) rfl rfl ⟨by omega, by omega⟩ (by decide) rfl rfl rfl rfl (n_rng _) (oDec_at oX12_asksAll 38 rfl) ?_
    refine r_aload_n C (j := 0) (oDec_at oX12_asksAll 39 rfl) rfl rfl ?_
    refine r_getF (k := 59) (b := 109) C oCl12 rfl (by decide) flX12_133 rfl rfl rfl (oDec_at oX12_asksAll 40 rfl) ?_
    refine r_pc C 70 rfl ?_
    refine r_iconst C (oDec_at oX12_asksAll 41 rfl) (v := k4) (by rw [qk4]; rfl) ?_
    refine r_aload_n C (j := 0) (oDec_at oX12_asksAll 42 rfl) rfl rfl ?_
    obtain ⟨v11, ev11⟩ : ∃ z : Int32, ((pI (pI (pI (pI s 109 k0.toNatClampNeg r4) 109 k1.toNatClampNeg v6) 109 k2.toNatClampNeg k0) 109 k3.toNatClampNeg v10)).1 71 62 = z := ⟨_, rfl⟩
    have gv11 : (s.1 71 62).toInt = v11.toInt := congrArg Int32.toInt ((((pI_ne (a := 71) (b := 62) (c := 109) _ _ (Or.inl (by decide)))).trans (((pI_ne (a := 71) (b := 62) (c := 109) _ _ (Or.inl (by decide)))).trans (((pI_ne (a := 71) (b := 62) (c := 109) _ _ (Or.inl (by decide)))).trans ((pI_ne (a := 71) (b := 62) (c := 109) _ _ (Or.inl (by decide))))))).symm.trans ev11)
    have ggv11 : (((pI (pI (pI (pI s 109 k0.toNatClampNeg r4) 109 k1.toNatClampNeg v6) 109 k2.toNatClampNeg k0) 109 k3.toNatClampNeg v10)).1 71 62).toInt = v11.toInt := congrArg Int32.toInt ev11
    have rv11 := n_rng v11
    refine r_geti (k := 62) (lo := (-2147483648)) (hi := 2147483647) C v11 oCl12 rfl (by decide) flX12_443 rfl rfl (ev11) rfl rfl (oDec_at oX12_asksAll 43 rfl) (fun _ _ => ?_)
    refine r_ldcw C (v := km1000000000) (by rw [qkm1000000000]; exact kcX12_398) (oDec_at oX12_asksAll 44 rfl) ?_
    refine r_icmp_ne C 85 (oDec_at oX12_asksAll 45 rfl) (by decide) (fun cd12 => ?_) (fun cd12 => ?_)
    · skip
      refine r_aload_n C (j := 0) (oDec_at oX12_asksAll 48 rfl) rfl rfl ?_
      refine r_geti (k := 60) (lo := (-2147483648)) (hi := 2147483647) C v1 oCl12 rfl (by decide) flX12_434 rfl rfl (((pI_ne (a := 71) (b := 60) (c := 109) _ _ (Or.inl (by decide)))).trans (((pI_ne (a := 71) (b := 60) (c := 109) _ _ (Or.inl (by decide)))).trans (((pI_ne (a := 71) (b := 60) (c := 109) _ _ (Or.inl (by decide)))).trans (((pI_ne (a := 71) (b := 60) (c := 109) _ _ (Or.inl (by decide)))).trans (ev1))))) rfl rfl (oDec_at oX12_asksAll 49 rfl) (fun _ _ => ?_)
      refine r_aload_n C (j := 0) (oDec_at oX12_asksAll 50 rfl) rfl rfl ?_
      refine r_geti (k := 62) (lo := (-2147483648)) (hi := 2147483647) C v11 oCl12 rfl (by decide) flX12_443 rfl rfl (ev11) rfl rfl (oDec_at oX12_asksAll 51 rfl) (fun _ _ => ?_)
      obtain ⟨v13, ev13⟩ : ∃ z : Int32, z = v1 - v11 := ⟨_, rfl⟩
      have hv13 : v13.toInt = v1.toInt - v11.toInt := n_sub ev13 (by omega) (by omega)
      refine r_isub C v13 (oDec_at oX12_asksAll 52 rfl) ev13 ?_
      have hv49 : v13.toInt = owRw A9 p9 := by unfold owRw; first | (rw [if_pos (by omega)] <;> omega) | (rw [if_neg (by omega)] <;> omega)
      refine r_iast (n := 8) (lo := (-2147483648)) (hi := 2147483647) C rfl (by decide) rfl rfl ⟨by omega, by omega⟩ (by decide) rfl rfl rfl rfl (n_rng _) (oDec_at oX12_asksAll 53 rfl) ?_
      refine r_pc C 95 rfl ?_
      refine r_aload_n C (j := 0) (oDec_at oX12_asksAll 54 rfl) rfl rfl ?_
      refine r_getF (k := 59) (b := 109) C oCl12 rfl (by decide) flX12_133 rfl rfl rfl (oDec_at oX12_asksAll 55 rfl) ?_
      refine r_iconst C (oDec_at oX12_asksAll 56 rfl) (v := k5) (by rw [qk5]; rfl) ?_
      refine r_aload_n C (j := 0) (oDec_at oX12_asksAll 57 rfl) rfl rfl ?_
      obtain ⟨v14, ev14⟩ : ∃ z : Int32, ((pI (pI (pI (pI (pI s 109 k0.toNatClampNeg r4) 109 k1.toNatClampNeg v6) 109 k2.toNatClampNeg k0) 109 k3.toNatClampNeg v10) 109 k4.toNatClampNeg v13)).1 71 63 = z := ⟨_, rfl⟩
      have gv14 : (s.1 71 63).toInt = v14.toInt := congrArg Int32.toInt ((((pI_ne (a := 71) (b := 63) (c := 109) _ _ (Or.inl (by decide)))).trans (((pI_ne (a := 71) (b := 63) (c := 109) _ _ (Or.inl (by decide)))).trans (((pI_ne (a := 71) (b := 63) (c := 109) _ _ (Or.inl (by decide)))).trans (((pI_ne (a := 71) (b := 63) (c := 109) _ _ (Or.inl (by decide)))).trans ((pI_ne (a := 71) (b := 63) (c := 109) _ _ (Or.inl (by decide)))))))).symm.trans ev14)
      have ggv14 : (((pI (pI (pI (pI (pI s 109 k0.toNatClampNeg r4) 109 k1.toNatClampNeg v6) 109 k2.toNatClampNeg k0) 109 k3.toNatClampNeg v10) 109 k4.toNatClampNeg v13)).1 71 63).toInt = v14.toInt := congrArg Int32.toInt ev14
      have rv14 := n_rng v14
      refine r_geti (k := 63) (lo := (-2147483648)) (hi := 2147483647) C v14 oCl12 rfl (by decide) flX12_446 rfl rfl (ev14) rfl rfl (oDec_at oX12_asksAll 58 rfl) (fun _ _ => ?_)
      refine r_ldcw C (v := km1000000000) (by rw [qkm1000000000]; exact kcX12_398) (oDec_at oX12_asksAll 59 rfl) ?_
      refine r_pc C 107 rfl ?_
      refine r_icmp_ne C 114 (oDec_at oX12_asksAll 60 rfl) (by decide) (fun cd15 => ?_) (fun cd15 => ?_)
      · skip
        refine r_aload_n C (j := 0) (oDec_at oX12_asksAll 63 rfl) rfl rfl ?_
        refine r_geti (k := 61) (lo := (-2147483648)) (hi := 2147483647) C v2 oCl12 rfl (by decide) flX12_437 rfl rfl (((pI_ne (a := 71) (b := 61) (c := 109) _ _ (Or.inl (by decide)))).trans (((pI_ne (a := 71) (b := 61) (c := 109) _ _ (Or.inl (by decide)))).trans (((pI_ne (a := 71) (b := 61) (c := 109) _ _ (Or.inl (by decide)))).trans (((pI_ne (a := 71) (b := 61) (c := 109) _ _ (Or.inl (by decide)))).trans (((pI_ne (a := 71) (b := 61) (c := 109) _ _ (Or.inl (by decide)))).trans (ev2)))))) rfl rfl (oDec_at oX12_asksAll 64 rfl) (fun _ _ => ?_)
        refine r_aload_n C (j := 0) (oDec_at oX12_asksAll 65 rfl) rfl rfl ?_
        refine r_geti (k := 63) (lo := (-2147483648)) (hi := 2147483647) C v14 oCl12 rfl (by decide) flX12_446 rfl rfl (ev14) rfl rfl (oDec_at oX12_asksAll 66 rfl) (fun _ _ => ?_)
        obtain ⟨v16, ev16⟩ : ∃ z : Int32, z = v2 - v14 := ⟨_, rfl⟩
        have hv16 : v16.toInt = v2.toInt - v14.toInt := n_sub ev16 (by omega) (by omega)
        refine r_isub C v16 (oDec_at oX12_asksAll 67 rfl) ev16 ?_
        have hv59 : v16.toInt = owRw B9 q9 := by unfold owRw; first | (rw [if_pos (by omega)] <;> omega) | (rw [if_neg (by omega)] <;> omega)
        refine r_iast (n := 8) (lo := (-2147483648)) (hi := 2147483647) C rfl (by decide) rfl rfl ⟨by omega, by omega⟩ (by decide) rfl rfl rfl rfl (n_rng _) (oDec_at oX12_asksAll 68 rfl) ?_
        refine r_pc C 124 rfl ?_
        refine r_aload_n C (j := 0) (oDec_at oX12_asksAll 69 rfl) rfl rfl ?_
        refine r_getF (k := 59) (b := 109) C oCl12 rfl (by decide) flX12_133 rfl rfl rfl (oDec_at oX12_asksAll 70 rfl) ?_
        refine r_bipush C (oDec_at oX12_asksAll 71 rfl) (v := k6) (by rw [qk6]; rfl) ?_
        refine r_aload_n C (j := 0) (oDec_at oX12_asksAll 72 rfl) rfl rfl ?_
        refine r_geti (k := 62) (lo := (-2147483648)) (hi := 2147483647) C v11 oCl12 rfl (by decide) flX12_443 rfl rfl (((pI_ne (a := 71) (b := 62) (c := 109) _ _ (Or.inl (by decide)))).trans (((pI_ne (a := 71) (b := 62) (c := 109) _ _ (Or.inl (by decide)))).trans (ev11))) rfl rfl (oDec_at oX12_asksAll 73 rfl) (fun _ _ => ?_)
        refine r_ldcw C (v := km1000000000) (by rw [qkm1000000000]; exact kcX12_398) (oDec_at oX12_asksAll 74 rfl) ?_
        refine r_pc C 137 rfl ?_
        refine r_icmp_eq C 150 (oDec_at oX12_asksAll 75 rfl) (by decide) (fun cd17 => ?_) (fun cd17 => ?_)
        · omega
        · skip
          refine r_aload_n C (j := 0) (oDec_at oX12_asksAll 76 rfl) rfl rfl ?_
          refine r_geti (k := 63) (lo := (-2147483648)) (hi := 2147483647) C v14 oCl12 rfl (by decide) flX12_446 rfl rfl (((pI_ne (a := 71) (b := 63) (c := 109) _ _ (Or.inl (by decide)))).trans (ev14)) rfl rfl (oDec_at oX12_asksAll 77 rfl) (fun _ _ => ?_)
          refine r_ldcw C (v := km1000000000) (by rw [qkm1000000000]; exact kcX12_398) (oDec_at oX12_asksAll 78 rfl) ?_
          refine r_icmp_ne C 155 (oDec_at oX12_asksAll 79 rfl) (by decide) (fun cd18 => ?_) (fun cd18 => ?_)
          · skip
            refine r_aload_n C (j := 0) (oDec_at oX12_asksAll 82 rfl) rfl rfl ?_
            refine r_geti (k := 62) (lo := (-2147483648)) (hi := 2147483647) C v11 oCl12 rfl (by decide) flX12_443 rfl rfl (((pI_ne (a := 71) (b := 62) (c := 109) _ _ (Or.inl (by decide)))).trans (((pI_ne (a := 71) (b := 62) (c := 109) _ _ (Or.inl (by decide)))).trans (ev11))) rfl rfl (oDec_at oX12_asksAll 83 rfl) (fun _ _ => ?_)
            refine r_aload_n C (j := 0) (oDec_at oX12_asksAll 84 rfl) rfl rfl ?_
            refine r_geti (k := 63) (lo := (-2147483648)) (hi := 2147483647) C v14 oCl12 rfl (by decide) flX12_446 rfl rfl (((pI_ne (a := 71) (b := 63) (c := 109) _ _ (Or.inl (by decide)))).trans (ev14)) rfl rfl (oDec_at oX12_asksAll 85 rfl) (fun _ _ => ?_)
            refine r_callSi C miX12_apart mlX12_440 (ct9_X12_apart l E ((pI (pI (pI (pI (pI (pI s 109 k0.toNatClampNeg r4) 109 k1.toNatClampNeg v6) 109 k2.toNatClampNeg k0) 109 k3.toNatClampNeg v10) 109 k4.toNatClampNeg v13) 109 k5.toNatClampNeg v16)) v11 v14 (by omega) (by omega)) (by decide) rfl rfl rfl (Nat.le_of_ble_eq_true rfl) (oDec_at oX12_asksAll 86 rfl) (fun r20 u19 pu19 fu19 => ?_)
            try dsimp only at pu19
            have hxu19 := oFr_nil fu19; subst hxu19
            have rr20 := n_rng r20
            have hw89 : r20.toInt = owAb (q9 - p9) := by rw [pu19, show v11.toInt - v14.toInt = -(q9 - p9) by omega, owAb_n]
            have hw79 := owAb_b (a := q9 - p9) (b := 100) (by omega)
            refine r_bipush C (oDec_at oX12_asksAll 87 rfl) (v := k7) (by rw [qk7]; rfl) ?_
            refine r_pc C 168 rfl ?_
            obtain ⟨v21, ev21⟩ : ∃ z : Int32, z = r20 - r20 / k7 * k7 := ⟨_, rfl⟩
            have hv21 := n_rem (k := 7) ev21 ek7 (by decide)
            have rv21 := n_rng v21
            refine r_irem C v21 (oDec_at oX12_asksAll 88 rfl) (n_ne0 (by omega)) ev21 ?_
            have hv69 : v21.toInt = owWa (owBf p9 q9) 0 := by first | (rw [owWa_n (by omega)] <;> omega) | (rw [owWa_y (by omega) (by omega) (by omega)] <;> omega)
            refine r_iast (n := 8) (lo := (-2147483648)) (hi := 2147483647) C rfl (by decide) rfl rfl ⟨by omega, by omega⟩ (by decide) rfl rfl rfl rfl (n_rng _) (oDec_at oX12_asksAll 89 rfl) ?_
            refine r_aload_n C (j := 0) (oDec_at oX12_asksAll 90 rfl) rfl rfl ?_
            refine r_getF (k := 59) (b := 109) C oCl12 rfl (by decide) flX12_133 rfl rfl rfl (oDec_at oX12_asksAll 91 rfl) ?_
            refine r_bipush C (oDec_at oX12_asksAll 92 rfl) (v := k7) (by rw [qk7]; rfl) ?_
            refine r_iload_n C (j := 2) (oDec_at oX12_asksAll 93 rfl) rfl rfl ?_
            refine r_pc C 177 rfl ?_
            refine r_if_eq C 184 (oDec_at oX12_asksAll 94 rfl) (by decide) (fun cd22 => ?_) (fun cd22 => ?_)
            · skip
              refine r_iconst C (oDec_at oX12_asksAll 97 rfl) (v := k0) (by rw [qk0]; rfl) ?_
              have hv79 : k0.toInt = a2.toInt := by omega
              refine r_iast (n := 8) (lo := (-2147483648)) (hi := 2147483647) C rfl (by decide) rfl rfl ⟨by omega, by omega⟩ (by decide) rfl rfl rfl rfl (n_rng _) (oDec_at oX12_asksAll 98 rfl) ?_
              exact r_vret C (oDec_at oX12_asksAll 99 rfl) ⟨rfl, owQA_8 ek0 ek1 ek2 ek3 ek4 ek5 ek6 ek7 (by omega) hra9 hrb9 (by omega) hv09 hv19 hv29 hv39 hv49 hv59 hv69 hv79⟩
            · skip
              refine r_iconst C (oDec_at oX12_asksAll 95 rfl) (v := k1) (by rw [qk1]; rfl) ?_
              refine r_goto C (tgt := 185) (oDec_at oX12_asksAll 96 rfl) (by decide) ?_
              have hv79 : k1.toInt = a2.toInt := by omega
              refine r_iast (n := 8) (lo := (-2147483648)) (hi := 2147483647) C rfl (by decide) rfl rfl ⟨by omega, by omega⟩ (by decide) rfl rfl rfl rfl (n_rng _) (oDec_at oX12_asksAll 98 rfl) ?_
              exact r_vret C (oDec_at oX12_asksAll 99 rfl) ⟨rfl, owQA_8 ek0 ek1 ek2 ek3 ek4 ek5 ek6 ek7 (by omega) hra9 hrb9 (by omega) hv09 hv19 hv29 hv39 hv49 hv59 hv69 hv79⟩
          · omega
      · skip
        refine r_iconst C (oDec_at oX12_asksAll 61 rfl) (v := k0) (by rw [qk0]; rfl) ?_
        refine r_goto C (tgt := 123) (oDec_at oX12_asksAll 62 rfl) (by decide) ?_
        have hv59 : k0.toInt = owRw B9 q9 := by unfold owRw; first | (rw [if_pos (by omega)] <;> omega) | (rw [if_neg (by omega)] <;> omega)
        refine r_iast (n := 8) (lo := (-2147483648)) (hi := 2147483647) C rfl (by decide) rfl rfl ⟨by omega, by omega⟩ (by decide) rfl rfl rfl rfl (n_rng _) (oDec_at oX12_asksAll 68 rfl) ?_
        refine r_aload_n C (j := 0) (oDec_at oX12_asksAll 69 rfl) rfl rfl ?_
        refine r_getF (k := 59) (b := 109) C oCl12 rfl (by decide) flX12_133 rfl rfl rfl (oDec_at oX12_asksAll 70 rfl) ?_
        refine r_bipush C (oDec_at oX12_asksAll 71 rfl) (v := k6) (by rw [qk6]; rfl) ?_
        refine r_aload_n C (j := 0) (oDec_at oX12_asksAll 72 rfl) rfl rfl ?_
        refine r_pc C 131 rfl ?_
        refine r_geti (k := 62) (lo := (-2147483648)) (hi := 2147483647) C v11 oCl12 rfl (by decide) flX12_443 rfl rfl (((pI_ne (a := 71) (b := 62) (c := 109) _ _ (Or.inl (by decide)))).trans (((pI_ne (a := 71) (b := 62) (c := 109) _ _ (Or.inl (by decide)))).trans (ev11))) rfl rfl (oDec_at oX12_asksAll 73 rfl) (fun _ _ => ?_)
        refine r_ldcw C (v := km1000000000) (by rw [qkm1000000000]; exact kcX12_398) (oDec_at oX12_asksAll 74 rfl) ?_
        refine r_icmp_eq C 150 (oDec_at oX12_asksAll 75 rfl) (by decide) (fun cd23 => ?_) (fun cd23 => ?_)
        · omega
        · skip
          refine r_aload_n C (j := 0) (oDec_at oX12_asksAll 76 rfl) rfl rfl ?_
          refine r_geti (k := 63) (lo := (-2147483648)) (hi := 2147483647) C v14 oCl12 rfl (by decide) flX12_446 rfl rfl (((pI_ne (a := 71) (b := 63) (c := 109) _ _ (Or.inl (by decide)))).trans (ev14)) rfl rfl (oDec_at oX12_asksAll 77 rfl) (fun _ _ => ?_)
          refine r_ldcw C (v := km1000000000) (by rw [qkm1000000000]; exact kcX12_398) (oDec_at oX12_asksAll 78 rfl) ?_
          refine r_icmp_ne C 155 (oDec_at oX12_asksAll 79 rfl) (by decide) (fun cd24 => ?_) (fun cd24 => ?_)
          · omega
          · skip
            refine r_bipush C (oDec_at oX12_asksAll 80 rfl) (v := k7) (by rw [qk7]; rfl) ?_
            refine r_goto C (tgt := 169) (oDec_at oX12_asksAll 81 rfl) (by decide) ?_
            have hv69 : k7.toInt = owWa (owBf p9 q9) 0 := by first | (rw [owWa_n (by omega)] <;> omega) | (rw [owWa_y (by omega) (by omega) (by omega)] <;> omega)
            refine r_iast (n := 8) (lo := (-2147483648)) (hi := 2147483647) C rfl (by decide) rfl rfl ⟨by omega, by omega⟩ (by decide) rfl rfl rfl rfl (n_rng _) (oDec_at oX12_asksAll 89 rfl) ?_
            refine r_aload_n C (j := 0) (oDec_at oX12_asksAll 90 rfl) rfl rfl ?_
            refine r_getF (k := 59) (b := 109) C oCl12 rfl (by decide) flX12_133 rfl rfl rfl (oDec_at oX12_asksAll 91 rfl) ?_
            refine r_bipush C (oDec_at oX12_asksAll 92 rfl) (v := k7) (by rw [qk7]; rfl) ?_
            refine r_iload_n C (j := 2) (oDec_at oX12_asksAll 93 rfl) rfl rfl ?_
            refine r_pc C 177 rfl ?_
            refine r_if_eq C 184 (oDec_at oX12_asksAll 94 rfl) (by decide) (fun cd25 => ?_) (fun cd25 => ?_)
            · skip
              refine r_iconst C (oDec_at oX12_asksAll 97 rfl) (v := k0) (by rw [qk0]; rfl) ?_
              have hv79 : k0.toInt = a2.toInt := by omega
              refine r_iast (n := 8) (lo := (-2147483648)) (hi := 2147483647) C rfl (by decide) rfl rfl ⟨by omega, by omega⟩ (by decide) rfl rfl rfl rfl (n_rng _) (oDec_at oX12_asksAll 98 rfl) ?_
              exact r_vret C (oDec_at oX12_asksAll 99 rfl) ⟨rfl, owQA_8 ek0 ek1 ek2 ek3 ek4 ek5 ek6 ek7 (by omega) hra9 hrb9 (by omega) hv09 hv19 hv29 hv39 hv49 hv59 hv69 hv79⟩
            · skip
              refine r_iconst C (oDec_at oX12_asksAll 95 rfl) (v := k1) (by rw [qk1]; rfl) ?_
              refine r_goto C (tgt := 185) (oDec_at oX12_asksAll 96 rfl) (by decide) ?_
              have hv79 : k1.toInt = a2.toInt := by omega
              refine r_iast (n := 8) (lo := (-2147483648)) (hi := 2147483647) C rfl (by decide) rfl rfl ⟨by omega, by omega⟩ (by decide) rfl rfl rfl rfl (n_rng _) (oDec_at oX12_asksAll 98 rfl) ?_
              exact r_vret C (oDec_at oX12_asksAll 99 rfl) ⟨rfl, owQA_8 ek0 ek1 ek2 ek3 ek4 ek5 ek6 ek7 (by omega) hra9 hrb9 (by omega) hv09 hv19 hv29 hv39 hv49 hv59 hv69 hv79⟩
    · skip
      refine r_iconst C (oDec_at oX12_asksAll 46 rfl) (v := k0) (by rw [qk0]; rfl) ?_
      refine r_goto C (tgt := 94) (oDec_at oX12_asksAll 47 rfl) (by decide) ?_
      have hv49 : k0.toInt = owRw A9 p9 := by unfold owRw; first | (rw [if_pos (by omega)] <;> omega) | (rw [if_neg (by omega)] <;> omega)
      refine r_iast (n := 8) (lo := (-2147483648)) (hi := 2147483647) C rfl (by decide) rfl rfl ⟨by omega, by omega⟩ (by decide) rfl rfl rfl rfl (n_rng _) (oDec_at oX12_asksAll 53 rfl) ?_
      refine r_aload_n C (j := 0) (oDec_at oX12_asksAll 54 rfl) rfl rfl ?_
      refine r_getF (k := 59) (b := 109) C oCl12 rfl (by decide) flX12_133 rfl rfl rfl (oDec_at oX12_asksAll 55 rfl) ?_
      refine r_iconst C (oDec_at oX12_asksAll 56 rfl) (v := k5) (by rw [qk5]; rfl) ?_
      refine r_aload_n C (j := 0) (oDec_at oX12_asksAll 57 rfl) rfl rfl ?_
      refine r_pc C 101 rfl ?_
      obtain ⟨v26, ev26⟩ : ∃ z : Int32, ((pI (pI (pI (pI (pI s 109 k0.toNatClampNeg r4) 109 k1.toNatClampNeg v6) 109 k2.toNatClampNeg k0) 109 k3.toNatClampNeg v10) 109 k4.toNatClampNeg k0)).1 71 63 = z := ⟨_, rfl⟩
      have gv26 : (s.1 71 63).toInt = v26.toInt := congrArg Int32.toInt ((((pI_ne (a := 71) (b := 63) (c := 109) _ _ (Or.inl (by decide)))).trans (((pI_ne (a := 71) (b := 63) (c := 109) _ _ (Or.inl (by decide)))).trans (((pI_ne (a := 71) (b := 63) (c := 109) _ _ (Or.inl (by decide)))).trans (((pI_ne (a := 71) (b := 63) (c := 109) _ _ (Or.inl (by decide)))).trans ((pI_ne (a := 71) (b := 63) (c := 109) _ _ (Or.inl (by decide)))))))).symm.trans ev26)
      have ggv26 : (((pI (pI (pI (pI (pI s 109 k0.toNatClampNeg r4) 109 k1.toNatClampNeg v6) 109 k2.toNatClampNeg k0) 109 k3.toNatClampNeg v10) 109 k4.toNatClampNeg k0)).1 71 63).toInt = v26.toInt := congrArg Int32.toInt ev26
      have rv26 := n_rng v26
      refine r_geti (k := 63) (lo := (-2147483648)) (hi := 2147483647) C v26 oCl12 rfl (by decide) flX12_446 rfl rfl (ev26) rfl rfl (oDec_at oX12_asksAll 58 rfl) (fun _ _ => ?_)
      refine r_ldcw C (v := km1000000000) (by rw [qkm1000000000]; exact kcX12_398) (oDec_at oX12_asksAll 59 rfl) ?_
      refine r_icmp_ne C 114 (oDec_at oX12_asksAll 60 rfl) (by decide) (fun cd27 => ?_) (fun cd27 => ?_)
      · skip
        refine r_aload_n C (j := 0) (oDec_at oX12_asksAll 63 rfl) rfl rfl ?_
        refine r_geti (k := 61) (lo := (-2147483648)) (hi := 2147483647) C v2 oCl12 rfl (by decide) flX12_437 rfl rfl (((pI_ne (a := 71) (b := 61) (c := 109) _ _ (Or.inl (by decide)))).trans (((pI_ne (a := 71) (b := 61) (c := 109) _ _ (Or.inl (by decide)))).trans (((pI_ne (a := 71) (b := 61) (c := 109) _ _ (Or.inl (by decide)))).trans (((pI_ne (a := 71) (b := 61) (c := 109) _ _ (Or.inl (by decide)))).trans (((pI_ne (a := 71) (b := 61) (c := 109) _ _ (Or.inl (by decide)))).trans (ev2)))))) rfl rfl (oDec_at oX12_asksAll 64 rfl) (fun _ _ => ?_)
        refine r_aload_n C (j := 0) (oDec_at oX12_asksAll 65 rfl) rfl rfl ?_
        refine r_geti (k := 63) (lo := (-2147483648)) (hi := 2147483647) C v26 oCl12 rfl (by decide) flX12_446 rfl rfl (ev26) rfl rfl (oDec_at oX12_asksAll 66 rfl) (fun _ _ => ?_)
        obtain ⟨v28, ev28⟩ : ∃ z : Int32, z = v2 - v26 := ⟨_, rfl⟩
        have hv28 : v28.toInt = v2.toInt - v26.toInt := n_sub ev28 (by omega) (by omega)
        refine r_isub C v28 (oDec_at oX12_asksAll 67 rfl) ev28 ?_
        have hv59 : v28.toInt = owRw B9 q9 := by unfold owRw; first | (rw [if_pos (by omega)] <;> omega) | (rw [if_neg (by omega)] <;> omega)
        refine r_iast (n := 8) (lo := (-2147483648)) (hi := 2147483647) C rfl (by decide) rfl rfl ⟨by omega, by omega⟩ (by decide) rfl rfl rfl rfl (n_rng _) (oDec_at oX12_asksAll 68 rfl) ?_
        refine r_pc C 124 rfl ?_
        refine r_aload_n C (j := 0) (oDec_at oX12_asksAll 69 rfl) rfl rfl ?_
        refine r_getF (k := 59) (b := 109) C oCl12 rfl (by decide) flX12_133 rfl rfl rfl (oDec_at oX12_asksAll 70 rfl) ?_
        refine r_bipush C (oDec_at oX12_asksAll 71 rfl) (v := k6) (by rw [qk6]; rfl) ?_
        refine r_aload_n C (j := 0) (oDec_at oX12_asksAll 72 rfl) rfl rfl ?_
        refine r_geti (k := 62) (lo := (-2147483648)) (hi := 2147483647) C v11 oCl12 rfl (by decide) flX12_443 rfl rfl (((pI_ne (a := 71) (b := 62) (c := 109) _ _ (Or.inl (by decide)))).trans (((pI_ne (a := 71) (b := 62) (c := 109) _ _ (Or.inl (by decide)))).trans (ev11))) rfl rfl (oDec_at oX12_asksAll 73 rfl) (fun _ _ => ?_)
        refine r_ldcw C (v := km1000000000) (by rw [qkm1000000000]; exact kcX12_398) (oDec_at oX12_asksAll 74 rfl) ?_
        refine r_pc C 137 rfl ?_
        refine r_icmp_eq C 150 (oDec_at oX12_asksAll 75 rfl) (by decide) (fun cd29 => ?_) (fun cd29 => ?_)
        · skip
          refine r_bipush C (oDec_at oX12_asksAll 80 rfl) (v := k7) (by rw [qk7]; rfl) ?_
          refine r_goto C (tgt := 169) (oDec_at oX12_asksAll 81 rfl) (by decide) ?_
          have hv69 : k7.toInt = owWa (owBf p9 q9) 0 := by first | (rw [owWa_n (by omega)] <;> omega) | (rw [owWa_y (by omega) (by omega) (by omega)] <;> omega)
          refine r_iast (n := 8) (lo := (-2147483648)) (hi := 2147483647) C rfl (by decide) rfl rfl ⟨by omega, by omega⟩ (by decide) rfl rfl rfl rfl (n_rng _) (oDec_at oX12_asksAll 89 rfl) ?_
          refine r_aload_n C (j := 0) (oDec_at oX12_asksAll 90 rfl) rfl rfl ?_
          refine r_getF (k := 59) (b := 109) C oCl12 rfl (by decide) flX12_133 rfl rfl rfl (oDec_at oX12_asksAll 91 rfl) ?_
          refine r_bipush C (oDec_at oX12_asksAll 92 rfl) (v := k7) (by rw [qk7]; rfl) ?_
          refine r_iload_n C (j := 2) (oDec_at oX12_asksAll 93 rfl) rfl rfl ?_
          refine r_pc C 177 rfl ?_
          refine r_if_eq C 184 (oDec_at oX12_asksAll 94 rfl) (by decide) (fun cd30 => ?_) (fun cd30 => ?_)
          · skip
            refine r_iconst C (oDec_at oX12_asksAll 97 rfl) (v := k0) (by rw [qk0]; rfl) ?_
            have hv79 : k0.toInt = a2.toInt := by omega
            refine r_iast (n := 8) (lo := (-2147483648)) (hi := 2147483647) C rfl (by decide) rfl rfl ⟨by omega, by omega⟩ (by decide) rfl rfl rfl rfl (n_rng _) (oDec_at oX12_asksAll 98 rfl) ?_
            exact r_vret C (oDec_at oX12_asksAll 99 rfl) ⟨rfl, owQA_8 ek0 ek1 ek2 ek3 ek4 ek5 ek6 ek7 (by omega) hra9 hrb9 (by omega) hv09 hv19 hv29 hv39 hv49 hv59 hv69 hv79⟩
          · skip
            refine r_iconst C (oDec_at oX12_asksAll 95 rfl) (v := k1) (by rw [qk1]; rfl) ?_
            refine r_goto C (tgt := 185) (oDec_at oX12_asksAll 96 rfl) (by decide) ?_
            have hv79 : k1.toInt = a2.toInt := by omega
            refine r_iast (n := 8) (lo := (-2147483648)) (hi := 2147483647) C rfl (by decide) rfl rfl ⟨by omega, by omega⟩ (by decide) rfl rfl rfl rfl (n_rng _) (oDec_at oX12_asksAll 98 rfl) ?_
            exact r_vret C (oDec_at oX12_asksAll 99 rfl) ⟨rfl, owQA_8 ek0 ek1 ek2 ek3 ek4 ek5 ek6 ek7 (by omega) hra9 hrb9 (by omega) hv09 hv19 hv29 hv39 hv49 hv59 hv69 hv79⟩
        · omega
      · skip
        refine r_iconst C (oDec_at oX12_asksAll 61 rfl) (v := k0) (by rw [qk0]; rfl) ?_
        refine r_goto C (tgt := 123) (oDec_at oX12_asksAll 62 rfl) (by decide) ?_
        have hv59 : k0.toInt = owRw B9 q9 := by unfold owRw; first | (rw [if_pos (by omega)] <;> omega) | (rw [if_neg (by omega)] <;> omega)
        refine r_iast (n := 8) (lo := (-2147483648)) (hi := 2147483647) C rfl (by decide) rfl rfl ⟨by omega, by omega⟩ (by decide) rfl rfl rfl rfl (n_rng _) (oDec_at oX12_asksAll 68 rfl) ?_
        refine r_aload_n C (j := 0) (oDec_at oX12_asksAll 69 rfl) rfl rfl ?_
        refine r_getF (k := 59) (b := 109) C oCl12 rfl (by decide) flX12_133 rfl rfl rfl (oDec_at oX12_asksAll 70 rfl) ?_
        refine r_bipush C (oDec_at oX12_asksAll 71 rfl) (v := k6) (by rw [qk6]; rfl) ?_
        refine r_aload_n C (j := 0) (oDec_at oX12_asksAll 72 rfl) rfl rfl ?_
        refine r_pc C 131 rfl ?_
        refine r_geti (k := 62) (lo := (-2147483648)) (hi := 2147483647) C v11 oCl12 rfl (by decide) flX12_443 rfl rfl (((pI_ne (a := 71) (b := 62) (c := 109) _ _ (Or.inl (by decide)))).trans (((pI_ne (a := 71) (b := 62) (c := 109) _ _ (Or.inl (by decide)))).trans (ev11))) rfl rfl (oDec_at oX12_asksAll 73 rfl) (fun _ _ => ?_)
        refine r_ldcw C (v := km1000000000) (by rw [qkm1000000000]; exact kcX12_398) (oDec_at oX12_asksAll 74 rfl) ?_
        refine r_icmp_eq C 150 (oDec_at oX12_asksAll 75 rfl) (by decide) (fun cd31 => ?_) (fun cd31 => ?_)
        · skip
          refine r_bipush C (oDec_at oX12_asksAll 80 rfl) (v := k7) (by rw [qk7]; rfl) ?_
          refine r_goto C (tgt := 169) (oDec_at oX12_asksAll 81 rfl) (by decide) ?_
          have hv69 : k7.toInt = owWa (owBf p9 q9) 0 := by first | (rw [owWa_n (by omega)] <;> omega) | (rw [owWa_y (by omega) (by omega) (by omega)] <;> omega)
          refine r_iast (n := 8) (lo := (-2147483648)) (hi := 2147483647) C rfl (by decide) rfl rfl ⟨by omega, by omega⟩ (by decide) rfl rfl rfl rfl (n_rng _) (oDec_at oX12_asksAll 89 rfl) ?_
          refine r_aload_n C (j := 0) (oDec_at oX12_asksAll 90 rfl) rfl rfl ?_
          refine r_getF (k := 59) (b := 109) C oCl12 rfl (by decide) flX12_133 rfl rfl rfl (oDec_at oX12_asksAll 91 rfl) ?_
          refine r_bipush C (oDec_at oX12_asksAll 92 rfl) (v := k7) (by rw [qk7]; rfl) ?_
          refine r_iload_n C (j := 2) (oDec_at oX12_asksAll 93 rfl) rfl rfl ?_
          refine r_pc C 177 rfl ?_
          refine r_if_eq C 184 (oDec_at oX12_asksAll 94 rfl) (by decide) (fun cd32 => ?_) (fun cd32 => ?_)
          · skip
            refine r_iconst C (oDec_at oX12_asksAll 97 rfl) (v := k0) (by rw [qk0]; rfl) ?_
            have hv79 : k0.toInt = a2.toInt := by omega
            refine r_iast (n := 8) (lo := (-2147483648)) (hi := 2147483647) C rfl (by decide) rfl rfl ⟨by omega, by omega⟩ (by decide) rfl rfl rfl rfl (n_rng _) (oDec_at oX12_asksAll 98 rfl) ?_
            exact r_vret C (oDec_at oX12_asksAll 99 rfl) ⟨rfl, owQA_8 ek0 ek1 ek2 ek3 ek4 ek5 ek6 ek7 (by omega) hra9 hrb9 (by omega) hv09 hv19 hv29 hv39 hv49 hv59 hv69 hv79⟩
          · skip
            refine r_iconst C (oDec_at oX12_asksAll 95 rfl) (v := k1) (by rw [qk1]; rfl) ?_
            refine r_goto C (tgt := 185) (oDec_at oX12_asksAll 96 rfl) (by decide) ?_
            have hv79 : k1.toInt = a2.toInt := by omega
            refine r_iast (n := 8) (lo := (-2147483648)) (hi := 2147483647) C rfl (by decide) rfl rfl ⟨by omega, by omega⟩ (by decide) rfl rfl rfl rfl (n_rng _) (oDec_at oX12_asksAll 98 rfl) ?_
            exact r_vret C (oDec_at oX12_asksAll 99 rfl) ⟨rfl, owQA_8 ek0 ek1 ek2 ek3 ek4 ek5 ek6 ek7 (by omega) hra9 hrb9 (by omega) hv09 hv19 hv29 hv39 hv49 hv59 hv69 hv79⟩
        · omega
  · skip
    refine r_iconst C (oDec_at oX12_asksAll 27 rfl) (v := k1) (by rw [qk1]; rfl) ?_
    refine r_goto C (tgt := 53) (oDec_at oX12_asksAll 28 rfl) (by decide) ?_
    have hv29 : k1.toInt = if B9 - A9 < 0 then 1 else 0 := by first | (rw [if_pos (by omega)] <;> omega) | (rw [if_neg (by omega)] <;> omega)
    refine r_iast (n := 8) (lo := (-2147483648)) (hi := 2147483647) C rfl (by decide) rfl rfl ⟨by omega, by omega⟩ (by decide) rfl rfl rfl rfl (n_rng _) (oDec_at oX12_asksAll 30 rfl) ?_
    refine r_aload_n C (j := 0) (oDec_at oX12_asksAll 31 rfl) rfl rfl ?_
    refine r_getF (k := 59) (b := 109) C oCl12 rfl (by decide) flX12_133 rfl rfl rfl (oDec_at oX12_asksAll 32 rfl) ?_
    refine r_iconst C (oDec_at oX12_asksAll 33 rfl) (v := k3) (by rw [qk3]; rfl) ?_
    refine r_iload_n C (j := 1) (oDec_at oX12_asksAll 34 rfl) rfl rfl ?_
    refine r_pc C 60 rfl ?_
    refine r_aload_n C (j := 0) (oDec_at oX12_asksAll 35 rfl) rfl rfl ?_
    obtain ⟨v33, ev33⟩ : ∃ z : Int32, ((pI (pI (pI s 109 k0.toNatClampNeg r4) 109 k1.toNatClampNeg v6) 109 k2.toNatClampNeg k1)).1 71 53 = z := ⟨_, rfl⟩
    have gv33 : (s.1 71 53).toInt = v33.toInt := congrArg Int32.toInt ((((pI_ne (a := 71) (b := 53) (c := 109) _ _ (Or.inl (by decide)))).trans (((pI_ne (a := 71) (b := 53) (c := 109) _ _ (Or.inl (by decide)))).trans ((pI_ne (a := 71) (b := 53) (c := 109) _ _ (Or.inl (by decide)))))).symm.trans ev33)
    have ggv33 : (((pI (pI (pI s 109 k0.toNatClampNeg r4) 109 k1.toNatClampNeg v6) 109 k2.toNatClampNeg k1)).1 71 53).toInt = v33.toInt := congrArg Int32.toInt ev33
    refine r_geti (k := 53) (lo := 2) (hi := 12) C v33 oCl12 rfl (by decide) flX12_127 rfl rfl (ev33) rfl rfl (oDec_at oX12_asksAll 36 rfl) (fun b34 b34h => ?_)
    obtain ⟨v35, ev35⟩ : ∃ z : Int32, z = a1 - a1 / v33 * v33 := ⟨_, rfl⟩
    have rv35 := n_rng v35
    have hv35 := n_remE ev35 (by omega) (by omega)
    refine r_irem C v35 (oDec_at oX12_asksAll 37 rfl) (n_ne0 (by omega)) ev35 ?_
    have hv39 : v35.toInt = a1.toInt % me := by rw [hv35, show v33.toInt = me by omega]
    refine r_iast (n := 8) (lo := (-2147483648)) (hi := 2147483647) C rfl (by decide) rfl rfl ⟨by omega, by omega⟩ (by decide) rfl rfl rfl rfl (n_rng _) (oDec_at oX12_asksAll 38 rfl) ?_
    refine r_aload_n C (j := 0) (oDec_at oX12_asksAll 39 rfl) rfl rfl ?_
    refine r_getF (k := 59) (b := 109) C oCl12 rfl (by decide) flX12_133 rfl rfl rfl (oDec_at oX12_asksAll 40 rfl) ?_
    refine r_pc C 70 rfl ?_
    refine r_iconst C (oDec_at oX12_asksAll 41 rfl) (v := k4) (by rw [qk4]; rfl) ?_
    refine r_aload_n C (j := 0) (oDec_at oX12_asksAll 42 rfl) rfl rfl ?_
    obtain ⟨v36, ev36⟩ : ∃ z : Int32, ((pI (pI (pI (pI s 109 k0.toNatClampNeg r4) 109 k1.toNatClampNeg v6) 109 k2.toNatClampNeg k1) 109 k3.toNatClampNeg v35)).1 71 62 = z := ⟨_, rfl⟩
    have gv36 : (s.1 71 62).toInt = v36.toInt := congrArg Int32.toInt ((((pI_ne (a := 71) (b := 62) (c := 109) _ _ (Or.inl (by decide)))).trans (((pI_ne (a := 71) (b := 62) (c := 109) _ _ (Or.inl (by decide)))).trans (((pI_ne (a := 71) (b := 62) (c := 109) _ _ (Or.inl (by decide)))).trans ((pI_ne (a := 71) (b := 62) (c := 109) _ _ (Or.inl (by decide))))))).symm.trans ev36)
    have ggv36 : (((pI (pI (pI (pI s 109 k0.toNatClampNeg r4) 109 k1.toNatClampNeg v6) 109 k2.toNatClampNeg k1) 109 k3.toNatClampNeg v35)).1 71 62).toInt = v36.toInt := congrArg Int32.toInt ev36
    have rv36 := n_rng v36
    refine r_geti (k := 62) (lo := (-2147483648)) (hi := 2147483647) C v36 oCl12 rfl (by decide) flX12_443 rfl rfl (ev36) rfl rfl (oDec_at oX12_asksAll 43 rfl) (fun _ _ => ?_)
    refine r_ldcw C (v := km1000000000) (by rw [qkm1000000000]; exact kcX12_398) (oDec_at oX12_asksAll 44 rfl) ?_
    refine r_icmp_ne C 85 (oDec_at oX12_asksAll 45 rfl) (by decide) (fun cd37 => ?_) (fun cd37 => ?_)
    · skip
      refine r_aload_n C (j := 0) (oDec_at oX12_asksAll 48 rfl) rfl rfl ?_
      refine r_geti (k := 60) (lo := (-2147483648)) (hi := 2147483647) C v1 oCl12 rfl (by decide) flX12_434 rfl rfl (((pI_ne (a := 71) (b := 60) (c := 109) _ _ (Or.inl (by decide)))).trans (((pI_ne (a := 71) (b := 60) (c := 109) _ _ (Or.inl (by decide)))).trans (((pI_ne (a := 71) (b := 60) (c := 109) _ _ (Or.inl (by decide)))).trans (((pI_ne (a := 71) (b := 60) (c := 109) _ _ (Or.inl (by decide)))).trans (ev1))))) rfl rfl (oDec_at oX12_asksAll 49 rfl) (fun _ _ => ?_)
      refine r_aload_n C (j := 0) (oDec_at oX12_asksAll 50 rfl) rfl rfl ?_
      refine r_geti (k := 62) (lo := (-2147483648)) (hi := 2147483647) C v36 oCl12 rfl (by decide) flX12_443 rfl rfl (ev36) rfl rfl (oDec_at oX12_asksAll 51 rfl) (fun _ _ => ?_)
      obtain ⟨v38, ev38⟩ : ∃ z : Int32, z = v1 - v36 := ⟨_, rfl⟩
      have hv38 : v38.toInt = v1.toInt - v36.toInt := n_sub ev38 (by omega) (by omega)
      refine r_isub C v38 (oDec_at oX12_asksAll 52 rfl) ev38 ?_
      have hv49 : v38.toInt = owRw A9 p9 := by unfold owRw; first | (rw [if_pos (by omega)] <;> omega) | (rw [if_neg (by omega)] <;> omega)
      refine r_iast (n := 8) (lo := (-2147483648)) (hi := 2147483647) C rfl (by decide) rfl rfl ⟨by omega, by omega⟩ (by decide) rfl rfl rfl rfl (n_rng _) (oDec_at oX12_asksAll 53 rfl) ?_
      refine r_pc C 95 rfl ?_
      refine r_aload_n C (j := 0) (oDec_at oX12_asksAll 54 rfl) rfl rfl ?_
      refine r_getF (k := 59) (b := 109) C oCl12 rfl (by decide) flX12_133 rfl rfl rfl (oDec_at oX12_asksAll 55 rfl) ?_
      refine r_iconst C (oDec_at oX12_asksAll 56 rfl) (v := k5) (by rw [qk5]; rfl) ?_
      refine r_aload_n C (j := 0) (oDec_at oX12_asksAll 57 rfl) rfl rfl ?_
      obtain ⟨v39, ev39⟩ : ∃ z : Int32, ((pI (pI (pI (pI (pI s 109 k0.toNatClampNeg r4) 109 k1.toNatClampNeg v6) 109 k2.toNatClampNeg k1) 109 k3.toNatClampNeg v35) 109 k4.toNatClampNeg v38)).1 71 63 = z := ⟨_, rfl⟩
      have gv39 : (s.1 71 63).toInt = v39.toInt := congrArg Int32.toInt ((((pI_ne (a := 71) (b := 63) (c := 109) _ _ (Or.inl (by decide)))).trans (((pI_ne (a := 71) (b := 63) (c := 109) _ _ (Or.inl (by decide)))).trans (((pI_ne (a := 71) (b := 63) (c := 109) _ _ (Or.inl (by decide)))).trans (((pI_ne (a := 71) (b := 63) (c := 109) _ _ (Or.inl (by decide)))).trans ((pI_ne (a := 71) (b := 63) (c := 109) _ _ (Or.inl (by decide)))))))).symm.trans ev39)
      have ggv39 : (((pI (pI (pI (pI (pI s 109 k0.toNatClampNeg r4) 109 k1.toNatClampNeg v6) 109 k2.toNatClampNeg k1) 109 k3.toNatClampNeg v35) 109 k4.toNatClampNeg v38)).1 71 63).toInt = v39.toInt := congrArg Int32.toInt ev39
      have rv39 := n_rng v39
      refine r_geti (k := 63) (lo := (-2147483648)) (hi := 2147483647) C v39 oCl12 rfl (by decide) flX12_446 rfl rfl (ev39) rfl rfl (oDec_at oX12_asksAll 58 rfl) (fun _ _ => ?_)
      refine r_ldcw C (v := km1000000000) (by rw [qkm1000000000]; exact kcX12_398) (oDec_at oX12_asksAll 59 rfl) ?_
      refine r_pc C 107 rfl ?_
      refine r_icmp_ne C 114 (oDec_at oX12_asksAll 60 rfl) (by decide) (fun cd40 => ?_) (fun cd40 => ?_)
      · skip
        refine r_aload_n C (j := 0) (oDec_at oX12_asksAll 63 rfl) rfl rfl ?_
        refine r_geti (k := 61) (lo := (-2147483648)) (hi := 2147483647) C v2 oCl12 rfl (by decide) flX12_437 rfl rfl (((pI_ne (a := 71) (b := 61) (c := 109) _ _ (Or.inl (by decide)))).trans (((pI_ne (a := 71) (b := 61) (c := 109) _ _ (Or.inl (by decide)))).trans (((pI_ne (a := 71) (b := 61) (c := 109) _ _ (Or.inl (by decide)))).trans (((pI_ne (a := 71) (b := 61) (c := 109) _ _ (Or.inl (by decide)))).trans (((pI_ne (a := 71) (b := 61) (c := 109) _ _ (Or.inl (by decide)))).trans (ev2)))))) rfl rfl (oDec_at oX12_asksAll 64 rfl) (fun _ _ => ?_)
        refine r_aload_n C (j := 0) (oDec_at oX12_asksAll 65 rfl) rfl rfl ?_
        refine r_geti (k := 63) (lo := (-2147483648)) (hi := 2147483647) C v39 oCl12 rfl (by decide) flX12_446 rfl rfl (ev39) rfl rfl (oDec_at oX12_asksAll 66 rfl) (fun _ _ => ?_)
        obtain ⟨v41, ev41⟩ : ∃ z : Int32, z = v2 - v39 := ⟨_, rfl⟩
        have hv41 : v41.toInt = v2.toInt - v39.toInt := n_sub ev41 (by omega) (by omega)
        refine r_isub C v41 (oDec_at oX12_asksAll 67 rfl) ev41 ?_
        have hv59 : v41.toInt = owRw B9 q9 := by unfold owRw; first | (rw [if_pos (by omega)] <;> omega) | (rw [if_neg (by omega)] <;> omega)
        refine r_iast (n := 8) (lo := (-2147483648)) (hi := 2147483647) C rfl (by decide) rfl rfl ⟨by omega, by omega⟩ (by decide) rfl rfl rfl rfl (n_rng _) (oDec_at oX12_asksAll 68 rfl) ?_
        refine r_pc C 124 rfl ?_
        refine r_aload_n C (j := 0) (oDec_at oX12_asksAll 69 rfl) rfl rfl ?_
        refine r_getF (k := 59) (b := 109) C oCl12 rfl (by decide) flX12_133 rfl rfl rfl (oDec_at oX12_asksAll 70 rfl) ?_
        refine r_bipush C (oDec_at oX12_asksAll 71 rfl) (v := k6) (by rw [qk6]; rfl) ?_
        refine r_aload_n C (j := 0) (oDec_at oX12_asksAll 72 rfl) rfl rfl ?_
        refine r_geti (k := 62) (lo := (-2147483648)) (hi := 2147483647) C v36 oCl12 rfl (by decide) flX12_443 rfl rfl (((pI_ne (a := 71) (b := 62) (c := 109) _ _ (Or.inl (by decide)))).trans (((pI_ne (a := 71) (b := 62) (c := 109) _ _ (Or.inl (by decide)))).trans (ev36))) rfl rfl (oDec_at oX12_asksAll 73 rfl) (fun _ _ => ?_)
        refine r_ldcw C (v := km1000000000) (by rw [qkm1000000000]; exact kcX12_398) (oDec_at oX12_asksAll 74 rfl) ?_
        refine r_pc C 137 rfl ?_
        refine r_icmp_eq C 150 (oDec_at oX12_asksAll 75 rfl) (by decide) (fun cd42 => ?_) (fun cd42 => ?_)
        · omega
        · skip
          refine r_aload_n C (j := 0) (oDec_at oX12_asksAll 76 rfl) rfl rfl ?_
          refine r_geti (k := 63) (lo := (-2147483648)) (hi := 2147483647) C v39 oCl12 rfl (by decide) flX12_446 rfl rfl (((pI_ne (a := 71) (b := 63) (c := 109) _ _ (Or.inl (by decide)))).trans (ev39)) rfl rfl (oDec_at oX12_asksAll 77 rfl) (fun _ _ => ?_)
          refine r_ldcw C (v := km1000000000) (by rw [qkm1000000000]; exact kcX12_398) (oDec_at oX12_asksAll 78 rfl) ?_
          refine r_icmp_ne C 155 (oDec_at oX12_asksAll 79 rfl) (by decide) (fun cd43 => ?_) (fun cd43 => ?_)
          · skip
            refine r_aload_n C (j := 0) (oDec_at oX12_asksAll 82 rfl) rfl rfl ?_
            refine r_geti (k := 62) (lo := (-2147483648)) (hi := 2147483647) C v36 oCl12 rfl (by decide) flX12_443 rfl rfl (((pI_ne (a := 71) (b := 62) (c := 109) _ _ (Or.inl (by decide)))).trans (((pI_ne (a := 71) (b := 62) (c := 109) _ _ (Or.inl (by decide)))).trans (ev36))) rfl rfl (oDec_at oX12_asksAll 83 rfl) (fun _ _ => ?_)
            refine r_aload_n C (j := 0) (oDec_at oX12_asksAll 84 rfl) rfl rfl ?_
            refine r_geti (k := 63) (lo := (-2147483648)) (hi := 2147483647) C v39 oCl12 rfl (by decide) flX12_446 rfl rfl (((pI_ne (a := 71) (b := 63) (c := 109) _ _ (Or.inl (by decide)))).trans (ev39)) rfl rfl (oDec_at oX12_asksAll 85 rfl) (fun _ _ => ?_)
            refine r_callSi C miX12_apart mlX12_440 (ct9_X12_apart l E ((pI (pI (pI (pI (pI (pI s 109 k0.toNatClampNeg r4) 109 k1.toNatClampNeg v6) 109 k2.toNatClampNeg k1) 109 k3.toNatClampNeg v35) 109 k4.toNatClampNeg v38) 109 k5.toNatClampNeg v41)) v36 v39 (by omega) (by omega)) (by decide) rfl rfl rfl (Nat.le_of_ble_eq_true rfl) (oDec_at oX12_asksAll 86 rfl) (fun r45 u44 pu44 fu44 => ?_)
            try dsimp only at pu44
            have hxu44 := oFr_nil fu44; subst hxu44
            have rr45 := n_rng r45
            have hw89 : r45.toInt = owAb (q9 - p9) := by rw [pu44, show v36.toInt - v39.toInt = -(q9 - p9) by omega, owAb_n]
            have hw79 := owAb_b (a := q9 - p9) (b := 100) (by omega)
            refine r_bipush C (oDec_at oX12_asksAll 87 rfl) (v := k7) (by rw [qk7]; rfl) ?_
            refine r_pc C 168 rfl ?_
            obtain ⟨v46, ev46⟩ : ∃ z : Int32, z = r45 - r45 / k7 * k7 := ⟨_, rfl⟩
            have hv46 := n_rem (k := 7) ev46 ek7 (by decide)
            have rv46 := n_rng v46
            refine r_irem C v46 (oDec_at oX12_asksAll 88 rfl) (n_ne0 (by omega)) ev46 ?_
            have hv69 : v46.toInt = owWa (owBf p9 q9) 0 := by first | (rw [owWa_n (by omega)] <;> omega) | (rw [owWa_y (by omega) (by omega) (by omega)] <;> omega)
            refine r_iast (n := 8) (lo := (-2147483648)) (hi := 2147483647) C rfl (by decide) rfl rfl ⟨by omega, by omega⟩ (by decide) rfl rfl rfl rfl (n_rng _) (oDec_at oX12_asksAll 89 rfl) ?_
            refine r_aload_n C (j := 0) (oDec_at oX12_asksAll 90 rfl) rfl rfl ?_
            refine r_getF (k := 59) (b := 109) C oCl12 rfl (by decide) flX12_133 rfl rfl rfl (oDec_at oX12_asksAll 91 rfl) ?_
            refine r_bipush C (oDec_at oX12_asksAll 92 rfl) (v := k7) (by rw [qk7]; rfl) ?_
            refine r_iload_n C (j := 2) (oDec_at oX12_asksAll 93 rfl) rfl rfl ?_
            refine r_pc C 177 rfl ?_
            refine r_if_eq C 184 (oDec_at oX12_asksAll 94 rfl) (by decide) (fun cd47 => ?_) (fun cd47 => ?_)
            · skip
              refine r_iconst C (oDec_at oX12_asksAll 97 rfl) (v := k0) (by rw [qk0]; rfl) ?_
              have hv79 : k0.toInt = a2.toInt := by omega
              refine r_iast (n := 8) (lo := (-2147483648)) (hi := 2147483647) C rfl (by decide) rfl rfl ⟨by omega, by omega⟩ (by decide) rfl rfl rfl rfl (n_rng _) (oDec_at oX12_asksAll 98 rfl) ?_
              exact r_vret C (oDec_at oX12_asksAll 99 rfl) ⟨rfl, owQA_8 ek0 ek1 ek2 ek3 ek4 ek5 ek6 ek7 (by omega) hra9 hrb9 (by omega) hv09 hv19 hv29 hv39 hv49 hv59 hv69 hv79⟩
            · skip
              refine r_iconst C (oDec_at oX12_asksAll 95 rfl) (v := k1) (by rw [qk1]; rfl) ?_
              refine r_goto C (tgt := 185) (oDec_at oX12_asksAll 96 rfl) (by decide) ?_
              have hv79 : k1.toInt = a2.toInt := by omega
              refine r_iast (n := 8) (lo := (-2147483648)) (hi := 2147483647) C rfl (by decide) rfl rfl ⟨by omega, by omega⟩ (by decide) rfl rfl rfl rfl (n_rng _) (oDec_at oX12_asksAll 98 rfl) ?_
              exact r_vret C (oDec_at oX12_asksAll 99 rfl) ⟨rfl, owQA_8 ek0 ek1 ek2 ek3 ek4 ek5 ek6 ek7 (by omega) hra9 hrb9 (by omega) hv09 hv19 hv29 hv39 hv49 hv59 hv69 hv79⟩
          · omega
      · skip
        refine r_iconst C (oDec_at oX12_asksAll 61 rfl) (v := k0) (by rw [qk0]; rfl) ?_
        refine r_goto C (tgt := 123) (oDec_at oX12_asksAll 62 rfl) (by decide) ?_
        have hv59 : k0.toInt = owRw B9 q9 := by unfold owRw; first | (rw [if_pos (by omega)] <;> omega) | (rw [if_neg (by omega)] <;> omega)
        refine r_iast (n := 8) (lo := (-2147483648)) (hi := 2147483647) C rfl (by decide) rfl rfl ⟨by omega, by omega⟩ (by decide) rfl rfl rfl rfl (n_rng _) (oDec_at oX12_asksAll 68 rfl) ?_
        refine r_aload_n C (j := 0) (oDec_at oX12_asksAll 69 rfl) rfl rfl ?_
        refine r_getF (k := 59) (b := 109) C oCl12 rfl (by decide) flX12_133 rfl rfl rfl (oDec_at oX12_asksAll 70 rfl) ?_
        refine r_bipush C (oDec_at oX12_asksAll 71 rfl) (v := k6) (by rw [qk6]; rfl) ?_
        refine r_aload_n C (j := 0) (oDec_at oX12_asksAll 72 rfl) rfl rfl ?_
        refine r_pc C 131 rfl ?_
        refine r_geti (k := 62) (lo := (-2147483648)) (hi := 2147483647) C v36 oCl12 rfl (by decide) flX12_443 rfl rfl (((pI_ne (a := 71) (b := 62) (c := 109) _ _ (Or.inl (by decide)))).trans (((pI_ne (a := 71) (b := 62) (c := 109) _ _ (Or.inl (by decide)))).trans (ev36))) rfl rfl (oDec_at oX12_asksAll 73 rfl) (fun _ _ => ?_)
        refine r_ldcw C (v := km1000000000) (by rw [qkm1000000000]; exact kcX12_398) (oDec_at oX12_asksAll 74 rfl) ?_
        refine r_icmp_eq C 150 (oDec_at oX12_asksAll 75 rfl) (by decide) (fun cd48 => ?_) (fun cd48 => ?_)
        · omega
        · skip
          refine r_aload_n C (j := 0) (oDec_at oX12_asksAll 76 rfl) rfl rfl ?_
          refine r_geti (k := 63) (lo := (-2147483648)) (hi := 2147483647) C v39 oCl12 rfl (by decide) flX12_446 rfl rfl (((pI_ne (a := 71) (b := 63) (c := 109) _ _ (Or.inl (by decide)))).trans (ev39)) rfl rfl (oDec_at oX12_asksAll 77 rfl) (fun _ _ => ?_)
          refine r_ldcw C (v := km1000000000) (by rw [qkm1000000000]; exact kcX12_398) (oDec_at oX12_asksAll 78 rfl) ?_
          refine r_icmp_ne C 155 (oDec_at oX12_asksAll 79 rfl) (by decide) (fun cd49 => ?_) (fun cd49 => ?_)
          · omega
          · skip
            refine r_bipush C (oDec_at oX12_asksAll 80 rfl) (v := k7) (by rw [qk7]; rfl) ?_
            refine r_goto C (tgt := 169) (oDec_at oX12_asksAll 81 rfl) (by decide) ?_
            have hv69 : k7.toInt = owWa (owBf p9 q9) 0 := by first | (rw [owWa_n (by omega)] <;> omega) | (rw [owWa_y (by omega) (by omega) (by omega)] <;> omega)
            refine r_iast (n := 8) (lo := (-2147483648)) (hi := 2147483647) C rfl (by decide) rfl rfl ⟨by omega, by omega⟩ (by decide) rfl rfl rfl rfl (n_rng _) (oDec_at oX12_asksAll 89 rfl) ?_
            refine r_aload_n C (j := 0) (oDec_at oX12_asksAll 90 rfl) rfl rfl ?_
            refine r_getF (k := 59) (b := 109) C oCl12 rfl (by decide) flX12_133 rfl rfl rfl (oDec_at oX12_asksAll 91 rfl) ?_
            refine r_bipush C (oDec_at oX12_asksAll 92 rfl) (v := k7) (by rw [qk7]; rfl) ?_
            refine r_iload_n C (j := 2) (oDec_at oX12_asksAll 93 rfl) rfl rfl ?_
            refine r_pc C 177 rfl ?_
            refine r_if_eq C 184 (oDec_at oX12_asksAll 94 rfl) (by decide) (fun cd50 => ?_) (fun cd50 => ?_)
            · skip
              refine r_iconst C (oDec_at oX12_asksAll 97 rfl) (v := k0) (by rw [qk0]; rfl) ?_
              have hv79 : k0.toInt = a2.toInt := by omega
              refine r_iast (n := 8) (lo := (-2147483648)) (hi := 2147483647) C rfl (by decide) rfl rfl ⟨by omega, by omega⟩ (by decide) rfl rfl rfl rfl (n_rng _) (oDec_at oX12_asksAll 98 rfl) ?_
              exact r_vret C (oDec_at oX12_asksAll 99 rfl) ⟨rfl, owQA_8 ek0 ek1 ek2 ek3 ek4 ek5 ek6 ek7 (by omega) hra9 hrb9 (by omega) hv09 hv19 hv29 hv39 hv49 hv59 hv69 hv79⟩
            · skip
              refine r_iconst C (oDec_at oX12_asksAll 95 rfl) (v := k1) (by rw [qk1]; rfl) ?_
              refine r_goto C (tgt := 185) (oDec_at oX12_asksAll 96 rfl) (by decide) ?_
              have hv79 : k1.toInt = a2.toInt := by omega
              refine r_iast (n := 8) (lo := (-2147483648)) (hi := 2147483647) C rfl (by decide) rfl rfl ⟨by omega, by omega⟩ (by decide) rfl rfl rfl rfl (n_rng _) (oDec_at oX12_asksAll 98 rfl) ?_
              exact r_vret C (oDec_at oX12_asksAll 99 rfl) ⟨rfl, owQA_8 ek0 ek1 ek2 ek3 ek4 ek5 ek6 ek7 (by omega) hra9 hrb9 (by omega) hv09 hv19 hv29 hv39 hv49 hv59 hv69 hv79⟩
    · skip
      refine r_iconst C (oDec_at oX12_asksAll 46 rfl) (v := k0) (by rw [qk0]; rfl) ?_
      refine r_goto C (tgt := 94) (oDec_at oX12_asksAll 47 rfl) (by decide) ?_
      have hv49 : k0.toInt = owRw A9 p9 := by unfold owRw; first | (rw [if_pos (by omega)] <;> omega) | (rw [if_neg (by omega)] <;> omega)
      refine r_iast (n := 8) (lo := (-2147483648)) (hi := 2147483647) C rfl (by decide) rfl rfl ⟨by omega, by omega⟩ (by decide) rfl rfl rfl rfl (n_rng _) (oDec_at oX12_asksAll 53 rfl) ?_
      refine r_aload_n C (j := 0) (oDec_at oX12_asksAll 54 rfl) rfl rfl ?_
      refine r_getF (k := 59) (b := 109) C oCl12 rfl (by decide) flX12_133 rfl rfl rfl (oDec_at oX12_asksAll 55 rfl) ?_
      refine r_iconst C (oDec_at oX12_asksAll 56 rfl) (v := k5) (by rw [qk5]; rfl) ?_
      refine r_aload_n C (j := 0) (oDec_at oX12_asksAll 57 rfl) rfl rfl ?_
      refine r_pc C 101 rfl ?_
      obtain ⟨v51, ev51⟩ : ∃ z : Int32, ((pI (pI (pI (pI (pI s 109 k0.toNatClampNeg r4) 109 k1.toNatClampNeg v6) 109 k2.toNatClampNeg k1) 109 k3.toNatClampNeg v35) 109 k4.toNatClampNeg k0)).1 71 63 = z := ⟨_, rfl⟩
      have gv51 : (s.1 71 63).toInt = v51.toInt := congrArg Int32.toInt ((((pI_ne (a := 71) (b := 63) (c := 109) _ _ (Or.inl (by decide)))).trans (((pI_ne (a := 71) (b := 63) (c := 109) _ _ (Or.inl (by decide)))).trans (((pI_ne (a := 71) (b := 63) (c := 109) _ _ (Or.inl (by decide)))).trans (((pI_ne (a := 71) (b := 63) (c := 109) _ _ (Or.inl (by decide)))).trans ((pI_ne (a := 71) (b := 63) (c := 109) _ _ (Or.inl (by decide)))))))).symm.trans ev51)
      have ggv51 : (((pI (pI (pI (pI (pI s 109 k0.toNatClampNeg r4) 109 k1.toNatClampNeg v6) 109 k2.toNatClampNeg k1) 109 k3.toNatClampNeg v35) 109 k4.toNatClampNeg k0)).1 71 63).toInt = v51.toInt := congrArg Int32.toInt ev51
      have rv51 := n_rng v51
      refine r_geti (k := 63) (lo := (-2147483648)) (hi := 2147483647) C v51 oCl12 rfl (by decide) flX12_446 rfl rfl (ev51) rfl rfl (oDec_at oX12_asksAll 58 rfl) (fun _ _ => ?_)
      refine r_ldcw C (v := km1000000000) (by rw [qkm1000000000]; exact kcX12_398) (oDec_at oX12_asksAll 59 rfl) ?_
      refine r_icmp_ne C 114 (oDec_at oX12_asksAll 60 rfl) (by decide) (fun cd52 => ?_) (fun cd52 => ?_)
      · skip
        refine r_aload_n C (j := 0) (oDec_at oX12_asksAll 63 rfl) rfl rfl ?_
        refine r_geti (k := 61) (lo := (-2147483648)) (hi := 2147483647) C v2 oCl12 rfl (by decide) flX12_437 rfl rfl (((pI_ne (a := 71) (b := 61) (c := 109) _ _ (Or.inl (by decide)))).trans (((pI_ne (a := 71) (b := 61) (c := 109) _ _ (Or.inl (by decide)))).trans (((pI_ne (a := 71) (b := 61) (c := 109) _ _ (Or.inl (by decide)))).trans (((pI_ne (a := 71) (b := 61) (c := 109) _ _ (Or.inl (by decide)))).trans (((pI_ne (a := 71) (b := 61) (c := 109) _ _ (Or.inl (by decide)))).trans (ev2)))))) rfl rfl (oDec_at oX12_asksAll 64 rfl) (fun _ _ => ?_)
        refine r_aload_n C (j := 0) (oDec_at oX12_asksAll 65 rfl) rfl rfl ?_
        refine r_geti (k := 63) (lo := (-2147483648)) (hi := 2147483647) C v51 oCl12 rfl (by decide) flX12_446 rfl rfl (ev51) rfl rfl (oDec_at oX12_asksAll 66 rfl) (fun _ _ => ?_)
        obtain ⟨v53, ev53⟩ : ∃ z : Int32, z = v2 - v51 := ⟨_, rfl⟩
        have hv53 : v53.toInt = v2.toInt - v51.toInt := n_sub ev53 (by omega) (by omega)
        refine r_isub C v53 (oDec_at oX12_asksAll 67 rfl) ev53 ?_
        have hv59 : v53.toInt = owRw B9 q9 := by unfold owRw; first | (rw [if_pos (by omega)] <;> omega) | (rw [if_neg (by omega)] <;> omega)
        refine r_iast (n := 8) (lo := (-2147483648)) (hi := 2147483647) C rfl (by decide) rfl rfl ⟨by omega, by omega⟩ (by decide) rfl rfl rfl rfl (n_rng _) (oDec_at oX12_asksAll 68 rfl) ?_
        refine r_pc C 124 rfl ?_
        refine r_aload_n C (j := 0) (oDec_at oX12_asksAll 69 rfl) rfl rfl ?_
        refine r_getF (k := 59) (b := 109) C oCl12 rfl (by decide) flX12_133 rfl rfl rfl (oDec_at oX12_asksAll 70 rfl) ?_
        refine r_bipush C (oDec_at oX12_asksAll 71 rfl) (v := k6) (by rw [qk6]; rfl) ?_
        refine r_aload_n C (j := 0) (oDec_at oX12_asksAll 72 rfl) rfl rfl ?_
        refine r_geti (k := 62) (lo := (-2147483648)) (hi := 2147483647) C v36 oCl12 rfl (by decide) flX12_443 rfl rfl (((pI_ne (a := 71) (b := 62) (c := 109) _ _ (Or.inl (by decide)))).trans (((pI_ne (a := 71) (b := 62) (c := 109) _ _ (Or.inl (by decide)))).trans (ev36))) rfl rfl (oDec_at oX12_asksAll 73 rfl) (fun _ _ => ?_)
        refine r_ldcw C (v := km1000000000) (by rw [qkm1000000000]; exact kcX12_398) (oDec_at oX12_asksAll 74 rfl) ?_
        refine r_pc C 137 rfl ?_
        refine r_icmp_eq C 150 (oDec_at oX12_asksAll 75 rfl) (by decide) (fun cd54 => ?_) (fun cd54 => ?_)
        · skip
          refine r_bipush C (oDec_at oX12_asksAll 80 rfl) (v := k7) (by rw [qk7]; rfl) ?_
          refine r_goto C (tgt := 169) (oDec_at oX12_asksAll 81 rfl) (by decide) ?_
          have hv69 : k7.toInt = owWa (owBf p9 q9) 0 := by first | (rw [owWa_n (by omega)] <;> omega) | (rw [owWa_y (by omega) (by omega) (by omega)] <;> omega)
          refine r_iast (n := 8) (lo := (-2147483648)) (hi := 2147483647) C rfl (by decide) rfl rfl ⟨by omega, by omega⟩ (by decide) rfl rfl rfl rfl (n_rng _) (oDec_at oX12_asksAll 89 rfl) ?_
          refine r_aload_n C (j := 0) (oDec_at oX12_asksAll 90 rfl) rfl rfl ?_
          refine r_getF (k := 59) (b := 109) C oCl12 rfl (by decide) flX12_133 rfl rfl rfl (oDec_at oX12_asksAll 91 rfl) ?_
          refine r_bipush C (oDec_at oX12_asksAll 92 rfl) (v := k7) (by rw [qk7]; rfl) ?_
          refine r_iload_n C (j := 2) (oDec_at oX12_asksAll 93 rfl) rfl rfl ?_
          refine r_pc C 177 rfl ?_
          refine r_if_eq C 184 (oDec_at oX12_asksAll 94 rfl) (by decide) (fun cd55 => ?_) (fun cd55 => ?_)
          · skip
            refine r_iconst C (oDec_at oX12_asksAll 97 rfl) (v := k0) (by rw [qk0]; rfl) ?_
            have hv79 : k0.toInt = a2.toInt := by omega
            refine r_iast (n := 8) (lo := (-2147483648)) (hi := 2147483647) C rfl (by decide) rfl rfl ⟨by omega, by omega⟩ (by decide) rfl rfl rfl rfl (n_rng _) (oDec_at oX12_asksAll 98 rfl) ?_
            exact r_vret C (oDec_at oX12_asksAll 99 rfl) ⟨rfl, owQA_8 ek0 ek1 ek2 ek3 ek4 ek5 ek6 ek7 (by omega) hra9 hrb9 (by omega) hv09 hv19 hv29 hv39 hv49 hv59 hv69 hv79⟩
          · skip
            refine r_iconst C (oDec_at oX12_asksAll 95 rfl) (v := k1) (by rw [qk1]; rfl) ?_
            refine r_goto C (tgt := 185) (oDec_at oX12_asksAll 96 rfl) (by decide) ?_
            have hv79 : k1.toInt = a2.toInt := by omega
            refine r_iast (n := 8) (lo := (-2147483648)) (hi := 2147483647) C rfl (by decide) rfl rfl ⟨by omega, by omega⟩ (by decide) rfl rfl rfl rfl (n_rng _) (oDec_at oX12_asksAll 98 rfl) ?_
            exact r_vret C (oDec_at oX12_asksAll 99 rfl) ⟨rfl, owQA_8 ek0 ek1 ek2 ek3 ek4 ek5 ek6 ek7 (by omega) hra9 hrb9 (by omega) hv09 hv19 hv29 hv39 hv49 hv59 hv69 hv79⟩
        · omega
      · skip
        refine r_iconst C (oDec_at oX12_asksAll 61 rfl) (v := k0) (by rw [qk0]; rfl) ?_
        refine r_goto C (tgt := 123) (oDec_at oX12_asksAll 62 rfl) (by decide) ?_
        have hv59 : k0.toInt = owRw B9 q9 := by unfold owRw; first | (rw [if_pos (by omega)] <;> omega) | (rw [if_neg (by omega)] <;> omega)
        refine r_iast (n := 8) (lo := (-2147483648)) (hi := 2147483647) C rfl (by decide) rfl rfl ⟨by omega, by omega⟩ (by decide) rfl rfl rfl rfl (n_rng _) (oDec_at oX12_asksAll 68 rfl) ?_
        refine r_aload_n C (j := 0) (oDec_at oX12_asksAll 69 rfl) rfl rfl ?_
        refine r_getF (k := 59) (b := 109) C oCl12 rfl (by decide) flX12_133 rfl rfl rfl (oDec_at oX12_asksAll 70 rfl) ?_
        refine r_bipush C (oDec_at oX12_asksAll 71 rfl) (v := k6) (by rw [qk6]; rfl) ?_
        refine r_aload_n C (j := 0) (oDec_at oX12_asksAll 72 rfl) rfl rfl ?_
        refine r_pc C 131 rfl ?_
        refine r_geti (k := 62) (lo := (-2147483648)) (hi := 2147483647) C v36 oCl12 rfl (by decide) flX12_443 rfl rfl (((pI_ne (a := 71) (b := 62) (c := 109) _ _ (Or.inl (by decide)))).trans (((pI_ne (a := 71) (b := 62) (c := 109) _ _ (Or.inl (by decide)))).trans (ev36))) rfl rfl (oDec_at oX12_asksAll 73 rfl) (fun _ _ => ?_)
        refine r_ldcw C (v := km1000000000) (by rw [qkm1000000000]; exact kcX12_398) (oDec_at oX12_asksAll 74 rfl) ?_
        refine r_icmp_eq C 150 (oDec_at oX12_asksAll 75 rfl) (by decide) (fun cd56 => ?_) (fun cd56 => ?_)
        · skip
          refine r_bipush C (oDec_at oX12_asksAll 80 rfl) (v := k7) (by rw [qk7]; rfl) ?_
          refine r_goto C (tgt := 169) (oDec_at oX12_asksAll 81 rfl) (by decide) ?_
          have hv69 : k7.toInt = owWa (owBf p9 q9) 0 := by first | (rw [owWa_n (by omega)] <;> omega) | (rw [owWa_y (by omega) (by omega) (by omega)] <;> omega)
          refine r_iast (n := 8) (lo := (-2147483648)) (hi := 2147483647) C rfl (by decide) rfl rfl ⟨by omega, by omega⟩ (by decide) rfl rfl rfl rfl (n_rng _) (oDec_at oX12_asksAll 89 rfl) ?_
          refine r_aload_n C (j := 0) (oDec_at oX12_asksAll 90 rfl) rfl rfl ?_
          refine r_getF (k := 59) (b := 109) C oCl12 rfl (by decide) flX12_133 rfl rfl rfl (oDec_at oX12_asksAll 91 rfl) ?_
          refine r_bipush C (oDec_at oX12_asksAll 92 rfl) (v := k7) (by rw [qk7]; rfl) ?_
          refine r_iload_n C (j := 2) (oDec_at oX12_asksAll 93 rfl) rfl rfl ?_
          refine r_pc C 177 rfl ?_
          refine r_if_eq C 184 (oDec_at oX12_asksAll 94 rfl) (by decide) (fun cd57 => ?_) (fun cd57 => ?_)
          · skip
            refine r_iconst C (oDec_at oX12_asksAll 97 rfl) (v := k0) (by rw [qk0]; rfl) ?_
            have hv79 : k0.toInt = a2.toInt := by omega
            refine r_iast (n := 8) (lo := (-2147483648)) (hi := 2147483647) C rfl (by decide) rfl rfl ⟨by omega, by omega⟩ (by decide) rfl rfl rfl rfl (n_rng _) (oDec_at oX12_asksAll 98 rfl) ?_
            exact r_vret C (oDec_at oX12_asksAll 99 rfl) ⟨rfl, owQA_8 ek0 ek1 ek2 ek3 ek4 ek5 ek6 ek7 (by omega) hra9 hrb9 (by omega) hv09 hv19 hv29 hv39 hv49 hv59 hv69 hv79⟩
          · skip
            refine r_iconst C (oDec_at oX12_asksAll 95 rfl) (v := k1) (by rw [qk1]; rfl) ?_
            refine r_goto C (tgt := 185) (oDec_at oX12_asksAll 96 rfl) (by decide) ?_
            have hv79 : k1.toInt = a2.toInt := by omega
            refine r_iast (n := 8) (lo := (-2147483648)) (hi := 2147483647) C rfl (by decide) rfl rfl ⟨by omega, by omega⟩ (by decide) rfl rfl rfl rfl (n_rng _) (oDec_at oX12_asksAll 98 rfl) ?_
            exact r_vret C (oDec_at oX12_asksAll 99 rfl) ⟨rfl, owQA_8 ek0 ek1 ek2 ek3 ek4 ek5 ek6 ek7 (by omega) hra9 hrb9 (by omega) hv09 hv19 hv29 hv39 hv49 hv59 hv69 hv79⟩
        · omega
set_option maxHeartbeats 4000000 in
set_option maxRecDepth 100000 in
theorem ct9_X12_firstRule (l : Launch) (E : oE) (s : oS)  (fa : Nat → Int) (R : Int) (W : Nat → List Int) (hp0 : oBI s) (hp1 : owBE R W s) (hp2 : owLO s) (hp3 : owQA fa s) (hp4 : ∀ i : Nat, i < 8 → -1000000 ≤ fa i ∧ fa i ≤ 1000000) : oMet l 4 yX12_firstRule cX12_firstRule 2 (some .int) [(12, 58), (84, 9999)] E s [.ref (oad E 71)] (oPi (fun r u => (-1 ≤ r.toInt ∧ r.toInt ≤ 12) ∧ (r.toInt = -1 ↔ ¬ owBk R W fa))) := by
  refine oMet.of (lv := [(0, .ref (oad E 71))]) (by decide +kernel) (Nat.le_of_ble_eq_true rfl) rfl (fun J C hT => ?_)
  have C : oC l 4 cX12_firstRule RX12 2 (some .int) [(12, 58), (84, 9999)] E s (oPi (fun r u => (-1 ≤ r.toInt ∧ r.toInt ≤ 12) ∧ (r.toInt = -1 ↔ ¬ owBk R W fa))) J := C
  obtain ⟨km1, qkm1⟩ : ∃ z : Int32, z = (-1) := ⟨_, rfl⟩
  have ekm1 : km1.toInt = (-1) := by rw [qkm1]; rfl
  obtain ⟨k0, qk0⟩ : ∃ z : Int32, z = 0 := ⟨_, rfl⟩
  have ek0 : k0.toInt = 0 := by rw [qk0]; rfl
  have key : ∀ n : Nat, (∀ (t : oS) (x1 : Int32), (oBI t) → (0 ≤ x1.toInt ∧ x1.toInt ≤ 12) → (owBE R W t) → (owLO t) → (owQA fa t) → (x1.toInt ≤ R) → (¬ owBk x1.toInt W fa) → 13 - x1.toInt ≤ (n : Int) → J t 2 [(0, .ref (oad E 71)), (1, .int x1)] []) := by
    intro n
    induction n using Nat.strongRecOn with
    | _ n ih =>
      skip
      · intro t x1  iv0 iv1 iv2 iv3 iv4 iv5 iv6 hmu
        have rx1 := n_rng x1
        have hlo9 : ((t).1 71 64).toInt = -1 := iv3
        have hn19 := n_nat x1
        refine r_iload_n C (j := 1) (oDec_at oX12_firstRule 2 rfl) rfl rfl ?_
        refine r_aload_n C (j := 0) (oDec_at oX12_firstRule 3 rfl) rfl rfl ?_
        refine r_getF (k := 49) (b := 104) C oCl12 rfl (by decide) flX12_114 rfl rfl rfl (oDec_at oX12_firstRule 4 rfl) ?_
        refine r_iconst C (oDec_at oX12_firstRule 5 rfl) (v := k0) (by rw [qk0]; rfl) ?_
        obtain ⟨v2, ev2⟩ : ∃ z : Int32, (t).1 104 k0.toNatClampNeg = z := ⟨_, rfl⟩
        have gv2 : (t.1 104 k0.toNatClampNeg).toInt = v2.toInt := congrArg Int32.toInt (ev2)
        refine r_iald (n := 4) (lo := 0) (hi := 12) C v2 rfl (by decide) rfl rfl ⟨by omega, by omega⟩ (by decide) ev2 rfl rfl (oDec_at oX12_firstRule 6 rfl) (fun b1 b1h => ?_)
        have h0 := oIx0 (i := k0) ev2 ek0
        have hR9 : v2.toInt = R := h0.symm.trans (show owBE R W (t) from iv2).1
        refine r_icmp_ge C 37 (oDec_at oX12_firstRule 7 rfl) (by decide) (fun cd3 => ?_) (fun cd3 => ?_)
        · skip
          refine r_iconst C (oDec_at oX12_firstRule 21 rfl) (v := km1) (by rw [qkm1]; rfl) ?_
          exact r_iret C (oDec_at oX12_firstRule 22 rfl) ⟨_, rfl, ⟨by omega, ⟨fun _ => by have h9 := iv6; rw [show x1.toInt = R by omega] at h9; exact h9, fun _ => by omega⟩⟩⟩
        · skip
          refine r_iload_n C (j := 1) (oDec_at oX12_firstRule 8 rfl) rfl rfl ?_
          refine r_aload_n C (j := 0) (oDec_at oX12_firstRule 9 rfl) rfl rfl ?_
          obtain ⟨v4, ev4⟩ : ∃ z : Int32, (t).1 71 64 = z := ⟨_, rfl⟩
          have gv4 : (t.1 71 64).toInt = v4.toInt := congrArg Int32.toInt (ev4)
          have rv4 := n_rng v4
          refine r_geti (k := 64) (lo := (-2147483648)) (hi := 2147483647) C v4 oCl12 rfl (by decide) flX12_136 rfl rfl (ev4) rfl rfl (oDec_at oX12_firstRule 10 rfl) (fun _ _ => ?_)
          refine r_icmp_eq C 31 (oDec_at oX12_firstRule 11 rfl) (by decide) (fun cd5 => ?_) (fun cd5 => ?_)
          · skip
            obtain ⟨v6, ev6⟩ : ∃ z : Int32, x1 + Int32.ofInt 1 = z := ⟨_, rfl⟩
            have hv6 : v6.toInt = x1.toInt + 1 := n_inc ev6 (by decide) (by omega) (by omega)
            refine r_iinc C (j := 1) (lv' := [(0, .ref (oad E 71)), (1, .int v6)]) v6 [1, 0] (oDec_at oX12_firstRule 19 rfl) rfl ev6 (by decide) rfl ?_
            refine r_goto C (tgt := 2) (oDec_at oX12_firstRule 20 rfl) (by decide) ?_
            exact (ih (n - 1) (by omega)) (t) v6  iv0 (by omega) iv2 iv3 iv4 (by first | omega | (have h9 := hT.1 104 0; have h8 := (iv2).1; have h7 : (0 : Int) ≤ ((s).1 104 0).toInt := h9.1; omega)) (by first | exact owBk_n1 (k := x1.toNatClampNeg) iv6 (by omega) (by omega) (by omega) | exact owBk_0 (by omega) | (exfalso; omega)) (by omega)
          · skip
            refine r_aload_n C (j := 0) (oDec_at oX12_firstRule 12 rfl) rfl rfl ?_
            refine r_iconst C (oDec_at oX12_firstRule 13 rfl) (v := k0) (by rw [qk0]; rfl) ?_
            refine r_iload_n C (j := 1) (oDec_at oX12_firstRule 14 rfl) rfl rfl ?_
            refine r_callVi C oCl12 rfl miX12_holds mlX12_449 (ct9_X12_holds l E (t) k0 x1 (fa) (W x1.toNatClampNeg) iv0 (by omega) (by omega) (by omega) (by omega) (by omega) ((show owBE R W (t) from iv2).2 _ (by omega)) iv4 hp4) (by decide) rfl rfl rfl (Nat.le_of_ble_eq_true rfl) (oDec_at oX12_firstRule 15 rfl) (fun r8 u7 pu7 fu7 => ?_)
            try dsimp only at pu7
            obtain ⟨pu7_0, pu7_1⟩ := pu7
            have rr8 := n_rng r8
            have hho9 := pu7_1
            refine r_if_eq C 31 (oDec_at oX12_firstRule 16 rfl) (by decide) (fun cd9 => ?_) (fun cd9 => ?_)
            · skip
              obtain ⟨v10, ev10⟩ : ∃ z : Int32, x1 + Int32.ofInt 1 = z := ⟨_, rfl⟩
              have hv10 : v10.toInt = x1.toInt + 1 := n_inc ev10 (by decide) (by omega) (by omega)
              refine r_iinc C (j := 1) (lv' := [(0, .ref (oad E 71)), (1, .int v10)]) v10 [1, 0] (oDec_at oX12_firstRule 19 rfl) rfl ev10 (by decide) rfl ?_
              refine r_goto C (tgt := 2) (oDec_at oX12_firstRule 20 rfl) (by decide) ?_
              exact (ih (n - 1) (by omega)) (u7) v10  (oBI_fr fu7 rfl iv0) (by omega) (owBE_fr fu7 rfl iv2) (owLO_fr fu7 rfl iv3) (owQA_fr fu7 rfl iv4) (by first | omega | (have h9 := hT.1 104 0; have h8 := ((owBE_fr fu7 rfl iv2)).1; have h7 : (0 : Int) ≤ ((s).1 104 0).toInt := h9.1; omega)) (by first | exact owBk_n1 (k := x1.toNatClampNeg) iv6 (by omega) (by omega) (by omega) | exact owBk_0 (by omega) | (exfalso; omega)) (by omega)
            · skip
              refine r_iload_n C (j := 1) (oDec_at oX12_firstRule 17 rfl) rfl rfl ?_
              exact r_iret C (oDec_at oX12_firstRule 18 rfl) ⟨_, rfl, ⟨by omega, ⟨fun h9 => by exfalso; omega, fun h9 => absurd ⟨x1.toNatClampNeg, by omega, by omega⟩ h9⟩⟩⟩
  refine r_iconst C (oDec_at oX12_firstRule 0 rfl) (v := k0) (by rw [qk0]; rfl) ?_
  refine r_istore_n C (lv' := [(0, .ref (oad E 71)), (1, .int k0)]) [1, 0] (oDec_at oX12_firstRule 1 rfl) rfl (by decide) rfl ?_
  exact (key (13 - k0.toInt).toNat) (s) k0  hp0 (by omega) hp1 hp2 hp3 (by first | omega | (have h9 := hT.1 104 0; have h8 := (hp1).1; have h7 : (0 : Int) ≤ ((s).1 104 0).toInt := h9.1; omega)) (by first | exact owBk_0 (by omega) | (exfalso; omega)) (by omega)
set_option maxHeartbeats 4000000 in
set_option maxRecDepth 100000 in
theorem ct9_X12_brokenBy (l : Launch) (E : oE) (s : oS) (a1 : Int32) (a2 : Int32) (a3 : Int32) (nn : Int) (st : Nat → Int) (R : Int) (W : Nat → List Int) (me : Int) (hp0 : 0 ≤ a1.toInt ∧ a1.toInt ≤ 4499) (hp1 : 0 ≤ a2.toInt ∧ a2.toInt ≤ 4499) (hp2 : 0 ≤ a3.toInt ∧ a3.toInt ≤ 2000) (hp3 : oBI s) (hp4 : owBE R W s) (hp5 : owMM me s) (hp6 : owLO s) (hp7 : owRL nn st s) (hp8 : owDg nn st) (hp9 : 1 ≤ nn ∧ nn ≤ 6) (hp10 : a1.toInt = 84) (hp11 : a3.toInt ≤ 900) (hp12 : 2 ≤ me ∧ me ≤ 12) : oMet l 5 yX12_brokenBy cX12_brokenBy 8 (some .int) [(12, 58), (12, 60), (12, 61), (12, 62), (12, 63), (84, 9999), (85, 9999)] E s [.ref (oad E 71), .int a1, .int a2, .int a3] (oPi (fun r u => (-1 ≤ r.toInt ∧ r.toInt ≤ 12) ∧ (r.toInt = -1 ↔ ¬ (owXk a2.toInt nn st a3.toInt ∧ owBk R W (owXf me a2.toInt nn st a3.toInt))))) := by
  refine oMet.of (lv := [(0, .ref (oad E 71)), (1, .int a1), (2, .int a2), (3, .int a3)]) (by decide +kernel) (Nat.le_of_ble_eq_true rfl) rfl (fun J C hT => ?_)
  have C : oC l 5 cX12_brokenBy RX12 8 (some .int) [(12, 58), (12, 60), (12, 61), (12, 62), (12, 63), (84, 9999), (85, 9999)] E s (oPi (fun r u => (-1 ≤ r.toInt ∧ r.toInt ≤ 12) ∧ (r.toInt = -1 ↔ ¬ (owXk a2.toInt nn st a3.toInt ∧ owBk R W (owXf me a2.toInt nn st a3.toInt))))) J := C
  obtain ⟨km1000000000, qkm1000000000⟩ : ∃ z : Int32, z = (-1000000000) := ⟨_, rfl⟩
  have ekm1000000000 : km1000000000.toInt = (-1000000000) := by rw [qkm1000000000]; rfl
  obtain ⟨km1, qkm1⟩ : ∃ z : Int32, z = (-1) := ⟨_, rfl⟩
  have ekm1 : km1.toInt = (-1) := by rw [qkm1]; rfl
  obtain ⟨k0, qk0⟩ : ∃ z : Int32, z = 0 := ⟨_, rfl⟩
  have ek0 : k0.toInt = 0 := by rw [qk0]; rfl
  obtain ⟨k1, qk1⟩ : ∃ z : Int32, z = 1 := ⟨_, rfl⟩
  have ek1 : k1.toInt = 1 := by rw [qk1]; rfl
  have rg1 := n_rng a1
  have rg2 := n_rng a2
  have rg3 := n_rng a3
  have h84 : a1.toInt = 84 := hp10
  have hnb1 := owNb_b (c := 84) (n := nn) (t := a3.toInt)
  have hnb2 := owNb_b (c := a2.toInt) (n := nn) (t := a3.toInt)
  have hnb3 := owNb_b (c := 84) (n := nn) (t := a3.toInt - 1)
  have hnb4 := owNb_b (c := a2.toInt) (n := nn) (t := a3.toInt - 1)
  refine r_aload_n C (j := 0) (oDec_at oX12_brokenBy 0 rfl) rfl rfl ?_
  refine r_iload_n C (j := 1) (oDec_at oX12_brokenBy 1 rfl) rfl rfl ?_
  refine r_iload_n C (j := 3) (oDec_at oX12_brokenBy 2 rfl) rfl rfl ?_
  refine r_callVi C oCl12 rfl miX12_noteAt mlX12_405 (ct_X12_noteAt l E (s) a1 a3 (by omega) (by omega)) (by decide) rfl rfl rfl (Nat.le_of_ble_eq_true rfl) (oDec_at oX12_brokenBy 3 rfl) (fun r2 u1 pu1 fu1 => ?_)
  try dsimp only at pu1
  obtain ⟨pu1_0, pu1_1⟩ := pu1
  have hxu1 := oFr_nil fu1; subst hxu1
  have rr2 := n_rng r2
  have hN4 : r2.toInt = owNb 84 nn a3.toInt := by have h9 := pu1_1; rw [owNA_m (show owRL nn st (s) from hp7) (by omega) (by omega)] at h9; rw [h9, h84]
  refine r_istore C (lv' := [(0, .ref (oad E 71)), (1, .int a1), (2, .int a2), (3, .int a3), (4, .int r2)]) [1, 2, 3, 4, 0] (oDec_at oX12_brokenBy 4 rfl) (by decide) rfl ?_
  refine r_aload_n C (j := 0) (oDec_at oX12_brokenBy 5 rfl) rfl rfl ?_
  refine r_pc C 9 rfl ?_
  refine r_iload_n C (j := 2) (oDec_at oX12_brokenBy 6 rfl) rfl rfl ?_
  refine r_iload_n C (j := 3) (oDec_at oX12_brokenBy 7 rfl) rfl rfl ?_
  refine r_callVi C oCl12 rfl miX12_noteAt mlX12_405 (ct_X12_noteAt l E (s) a2 a3 (by omega) (by omega)) (by decide) rfl rfl rfl (Nat.le_of_ble_eq_true rfl) (oDec_at oX12_brokenBy 8 rfl) (fun r4 u3 pu3 fu3 => ?_)
  try dsimp only at pu3
  obtain ⟨pu3_0, pu3_1⟩ := pu3
  have hxu3 := oFr_nil fu3; subst hxu3
  have rr4 := n_rng r4
  have hN5 : r4.toInt = owNb a2.toInt nn a3.toInt := by have h9 := pu3_1; rw [owNA_m (show owRL nn st (s) from hp7) (by omega) (by omega)] at h9; rw [h9]
  refine r_istore C (lv' := [(0, .ref (oad E 71)), (1, .int a1), (2, .int a2), (3, .int a3), (4, .int r2), (5, .int r4)]) [1, 2, 3, 4, 5, 0] (oDec_at oX12_brokenBy 9 rfl) (by decide) rfl ?_
  refine r_aload_n C (j := 0) (oDec_at oX12_brokenBy 10 rfl) rfl rfl ?_
  refine r_aload_n C (j := 0) (oDec_at oX12_brokenBy 11 rfl) rfl rfl ?_
  refine r_pc C 18 rfl ?_
  refine r_iload_n C (j := 1) (oDec_at oX12_brokenBy 12 rfl) rfl rfl ?_
  refine r_iload C (j := 4) (oDec_at oX12_brokenBy 13 rfl) rfl ?_
  refine r_callVi C oCl12 rfl miX12_stepBy mlX12_408 (ct_X12_stepBy l E (s) a1 r2 (by omega) (by omega)) (by decide) rfl rfl rfl (Nat.le_of_ble_eq_true rfl) (oDec_at oX12_brokenBy 14 rfl) (fun r6 u5 pu5 fu5 => ?_)
  try dsimp only at pu5
  have hxu5 := oFr_nil fu5; subst hxu5
  have rr6 := n_rng r6
  have hA9 : r6.toInt = owTt 84 nn st (owNb 84 nn a3.toInt) := by have h9 := congrArg Int32.toInt pu5; rw [owSB_m (show owRL nn st (s) from hp7) hp8 (by omega) (by omega)] at h9; rw [h9, h84, hN4]
  refine r_puti (k := 60) (lo := (-2147483648)) (hi := 2147483647) C oCl12 rfl (by decide) flX12_434 rfl rfl rfl rfl rfl rfl rfl rfl (n_rng _) (oDec_at oX12_brokenBy 15 rfl) ?_
  refine r_aload_n C (j := 0) (oDec_at oX12_brokenBy 16 rfl) rfl rfl ?_
  refine r_aload_n C (j := 0) (oDec_at oX12_brokenBy 17 rfl) rfl rfl ?_
  refine r_pc C 29 rfl ?_
  refine r_iload_n C (j := 2) (oDec_at oX12_brokenBy 18 rfl) rfl rfl ?_
  refine r_iload C (j := 5) (oDec_at oX12_brokenBy 19 rfl) rfl ?_
  refine r_callVi C oCl12 rfl miX12_stepBy mlX12_408 (ct_X12_stepBy l E ((pI s 71 60 r6)) a2 r4 (by omega) (by omega)) (by decide) rfl rfl rfl (Nat.le_of_ble_eq_true rfl) (oDec_at oX12_brokenBy 20 rfl) (fun r8 u7 pu7 fu7 => ?_)
  try dsimp only at pu7
  have hxu7 := oFr_nil fu7; subst hxu7
  have rr8 := n_rng r8
  have hB9 : r8.toInt = owTt a2.toInt nn st (owNb a2.toInt nn a3.toInt) := by have h9 := congrArg Int32.toInt pu7; rw [owSB_m (show owRL nn st ((pI s 71 60 r6)) from (owRL_fr (oFr_oneI (q := 12) (m := 60) rfl (by rfl)) rfl hp7)) hp8 (by omega) (by omega)] at h9; rw [h9, hN5]
  refine r_puti (k := 61) (lo := (-2147483648)) (hi := 2147483647) C oCl12 rfl (by decide) flX12_437 rfl rfl rfl rfl rfl rfl rfl rfl (n_rng _) (oDec_at oX12_brokenBy 21 rfl) ?_
  refine r_aload_n C (j := 0) (oDec_at oX12_brokenBy 22 rfl) rfl rfl ?_
  refine r_geti (k := 60) (lo := (-2147483648)) (hi := 2147483647) C r6 oCl12 rfl (by decide) flX12_434 rfl rfl (((pI_ne (a := 71) (b := 60) (c := 71) (k := 61) _ _ (Or.inr (by decide)))).trans ((pI_self _ _ _ _))) rfl rfl (oDec_at oX12_brokenBy 23 rfl) (fun _ _ => ?_)
  refine r_pc C 42 rfl ?_
  refine r_ldcw C (v := km1000000000) (by rw [qkm1000000000]; exact kcX12_398) (oDec_at oX12_brokenBy 24 rfl) ?_
  refine r_icmp_eq C 58 (oDec_at oX12_brokenBy 25 rfl) (by decide) (fun cd9 => ?_) (fun cd9 => ?_)
  · skip
    refine r_iconst C (oDec_at oX12_brokenBy 30 rfl) (v := km1) (by rw [qkm1]; rfl) ?_
    exact r_iret C (oDec_at oX12_brokenBy 31 rfl) ⟨_, rfl, ⟨by omega, ⟨fun _ h9 => absurd ((owXk_e hp8 hA9 hB9 (by omega)).mp h9.1) (by omega), fun _ => by omega⟩⟩⟩
  · skip
    refine r_aload_n C (j := 0) (oDec_at oX12_brokenBy 26 rfl) rfl rfl ?_
    refine r_geti (k := 61) (lo := (-2147483648)) (hi := 2147483647) C r8 oCl12 rfl (by decide) flX12_437 rfl rfl ((pI_self _ _ _ _)) rfl rfl (oDec_at oX12_brokenBy 27 rfl) (fun _ _ => ?_)
    refine r_ldcw C (v := km1000000000) (by rw [qkm1000000000]; exact kcX12_398) (oDec_at oX12_brokenBy 28 rfl) ?_
    refine r_icmp_ne C 60 (oDec_at oX12_brokenBy 29 rfl) (by decide) (fun cd10 => ?_) (fun cd10 => ?_)
    · skip
      refine r_aload_n C (j := 0) (oDec_at oX12_brokenBy 32 rfl) rfl rfl ?_
      refine r_iload_n C (j := 1) (oDec_at oX12_brokenBy 33 rfl) rfl rfl ?_
      refine r_iload_n C (j := 3) (oDec_at oX12_brokenBy 34 rfl) rfl rfl ?_
      refine r_iconst C (oDec_at oX12_brokenBy 35 rfl) (v := k1) (by rw [qk1]; rfl) ?_
      obtain ⟨v11, ev11⟩ : ∃ z : Int32, z = a3 - k1 := ⟨_, rfl⟩
      have hv11 : v11.toInt = a3.toInt - k1.toInt := n_sub ev11 (by omega) (by omega)
      refine r_isub C v11 (oDec_at oX12_brokenBy 36 rfl) ev11 ?_
      refine r_callVi C oCl12 rfl miX12_noteAt mlX12_405 (ct_X12_noteAt l E ((pI (pI s 71 60 r6) 71 61 r8)) a1 v11 (by omega) (by omega)) (by decide) rfl rfl rfl (Nat.le_of_ble_eq_true rfl) (oDec_at oX12_brokenBy 37 rfl) (fun r13 u12 pu12 fu12 => ?_)
      try dsimp only at pu12
      obtain ⟨pu12_0, pu12_1⟩ := pu12
      have hxu12 := oFr_nil fu12; subst hxu12
      have rr13 := n_rng r13
      refine r_pc C 68 rfl ?_
      have hN6 : r13.toInt = owNb 84 nn (a3.toInt - 1) := by have h9 := pu12_1; rw [owNA_m (show owRL nn st ((pI (pI s 71 60 r6) 71 61 r8)) from (owRL_fr (oFr_oneI (q := 12) (m := 61) rfl (by rfl)) rfl (owRL_fr (oFr_oneI (q := 12) (m := 60) rfl (by rfl)) rfl hp7))) (by omega) (by omega)] at h9; rw [h9, h84, show v11.toInt = (a3.toInt - 1) by omega]
      refine r_istore C (lv' := [(0, .ref (oad E 71)), (1, .int a1), (2, .int a2), (3, .int a3), (4, .int r2), (5, .int r4), (6, .int r13)]) [1, 2, 3, 4, 5, 6, 0] (oDec_at oX12_brokenBy 38 rfl) (by decide) rfl ?_
      refine r_aload_n C (j := 0) (oDec_at oX12_brokenBy 39 rfl) rfl rfl ?_
      refine r_iload_n C (j := 2) (oDec_at oX12_brokenBy 40 rfl) rfl rfl ?_
      refine r_iload_n C (j := 3) (oDec_at oX12_brokenBy 41 rfl) rfl rfl ?_
      refine r_iconst C (oDec_at oX12_brokenBy 42 rfl) (v := k1) (by rw [qk1]; rfl) ?_
      obtain ⟨v14, ev14⟩ : ∃ z : Int32, z = a3 - k1 := ⟨_, rfl⟩
      have hv14 : v14.toInt = a3.toInt - k1.toInt := n_sub ev14 (by omega) (by omega)
      refine r_isub C v14 (oDec_at oX12_brokenBy 43 rfl) ev14 ?_
      refine r_pc C 75 rfl ?_
      refine r_callVi C oCl12 rfl miX12_noteAt mlX12_405 (ct_X12_noteAt l E ((pI (pI s 71 60 r6) 71 61 r8)) a2 v14 (by omega) (by omega)) (by decide) rfl rfl rfl (Nat.le_of_ble_eq_true rfl) (oDec_at oX12_brokenBy 44 rfl) (fun r16 u15 pu15 fu15 => ?_)
      try dsimp only at pu15
      obtain ⟨pu15_0, pu15_1⟩ := pu15
      have hxu15 := oFr_nil fu15; subst hxu15
      have rr16 := n_rng r16
      have hN7 : r16.toInt = owNb a2.toInt nn (a3.toInt - 1) := by have h9 := pu15_1; rw [owNA_m (show owRL nn st ((pI (pI s 71 60 r6) 71 61 r8)) from (owRL_fr (oFr_oneI (q := 12) (m := 61) rfl (by rfl)) rfl (owRL_fr (oFr_oneI (q := 12) (m := 60) rfl (by rfl)) rfl hp7))) (by omega) (by omega)] at h9; rw [h9, show v14.toInt = (a3.toInt - 1) by omega]
      refine r_istore C (lv' := [(0, .ref (oad E 71)), (1, .int a1), (2, .int a2), (3, .int a3), (4, .int r2), (5, .int r4), (6, .int r13), (7, .int r16)]) [1, 2, 3, 4, 5, 6, 7, 0] (oDec_at oX12_brokenBy 45 rfl) (by decide) rfl ?_
      refine r_iload C (j := 4) (oDec_at oX12_brokenBy 46 rfl) rfl ?_
      refine r_iload C (j := 6) (oDec_at oX12_brokenBy 47 rfl) rfl ?_
      refine r_icmp_ne C 96 (oDec_at oX12_brokenBy 48 rfl) (by decide) (fun cd17 => ?_) (fun cd17 => ?_)
      · skip
        refine r_aload_n C (j := 0) (oDec_at oX12_brokenBy 54 rfl) rfl rfl ?_
        refine r_aload_n C (j := 0) (oDec_at oX12_brokenBy 55 rfl) rfl rfl ?_
        refine r_iload_n C (j := 1) (oDec_at oX12_brokenBy 56 rfl) rfl rfl ?_
        refine r_iload C (j := 6) (oDec_at oX12_brokenBy 57 rfl) rfl ?_
        refine r_callVi C oCl12 rfl miX12_stepBy mlX12_408 (ct_X12_stepBy l E ((pI (pI s 71 60 r6) 71 61 r8)) a1 r13 (by omega) (by omega)) (by decide) rfl rfl rfl (Nat.le_of_ble_eq_true rfl) (oDec_at oX12_brokenBy 58 rfl) (fun r19 u18 pu18 fu18 => ?_)
        try dsimp only at pu18
        have hxu18 := oFr_nil fu18; subst hxu18
        have rr19 := n_rng r19
        have hp9 : r19.toInt = owTt 84 nn st (owNb 84 nn (a3.toInt - 1)) := by have h9 := congrArg Int32.toInt pu18; rw [owSB_m (show owRL nn st ((pI (pI s 71 60 r6) 71 61 r8)) from (owRL_fr (oFr_oneI (q := 12) (m := 61) rfl (by rfl)) rfl (owRL_fr (oFr_oneI (q := 12) (m := 60) rfl (by rfl)) rfl hp7))) hp8 (by omega) (by omega)] at h9; rw [h9, h84, hN6]
        refine r_puti (k := 62) (lo := (-2147483648)) (hi := 2147483647) C oCl12 rfl (by decide) flX12_443 rfl rfl rfl rfl rfl rfl rfl rfl (n_rng _) (oDec_at oX12_brokenBy 59 rfl) ?_
        refine r_pc C 107 rfl ?_
        refine r_aload_n C (j := 0) (oDec_at oX12_brokenBy 60 rfl) rfl rfl ?_
        refine r_aload_n C (j := 0) (oDec_at oX12_brokenBy 61 rfl) rfl rfl ?_
        refine r_iload_n C (j := 2) (oDec_at oX12_brokenBy 62 rfl) rfl rfl ?_
        refine r_iload C (j := 7) (oDec_at oX12_brokenBy 63 rfl) rfl ?_
        refine r_callVi C oCl12 rfl miX12_stepBy mlX12_408 (ct_X12_stepBy l E ((pI (pI (pI s 71 60 r6) 71 61 r8) 71 62 r19)) a2 r16 (by omega) (by omega)) (by decide) rfl rfl rfl (Nat.le_of_ble_eq_true rfl) (oDec_at oX12_brokenBy 64 rfl) (fun r21 u20 pu20 fu20 => ?_)
        try dsimp only at pu20
        have hxu20 := oFr_nil fu20; subst hxu20
        have rr21 := n_rng r21
        have hq9 : r21.toInt = owTt a2.toInt nn st (owNb a2.toInt nn (a3.toInt - 1)) := by have h9 := congrArg Int32.toInt pu20; rw [owSB_m (show owRL nn st ((pI (pI (pI s 71 60 r6) 71 61 r8) 71 62 r19)) from (owRL_fr (oFr_oneI (q := 12) (m := 62) rfl (by rfl)) rfl (owRL_fr (oFr_oneI (q := 12) (m := 61) rfl (by rfl)) rfl (owRL_fr (oFr_oneI (q := 12) (m := 60) rfl (by rfl)) rfl hp7)))) hp8 (by omega) (by omega)] at h9; rw [h9, hN7]
        refine r_puti (k := 63) (lo := (-2147483648)) (hi := 2147483647) C oCl12 rfl (by decide) flX12_446 rfl rfl rfl rfl rfl rfl rfl rfl (n_rng _) (oDec_at oX12_brokenBy 65 rfl) ?_
        refine r_pc C 118 rfl ?_
        refine r_aload_n C (j := 0) (oDec_at oX12_brokenBy 66 rfl) rfl rfl ?_
        refine r_iload_n C (j := 3) (oDec_at oX12_brokenBy 67 rfl) rfl rfl ?_
        refine r_aload_n C (j := 0) (oDec_at oX12_brokenBy 68 rfl) rfl rfl ?_
        refine r_iload_n C (j := 1) (oDec_at oX12_brokenBy 69 rfl) rfl rfl ?_
        refine r_iload_n C (j := 3) (oDec_at oX12_brokenBy 70 rfl) rfl rfl ?_
        refine r_iconst C (oDec_at oX12_brokenBy 71 rfl) (v := k1) (by rw [qk1]; rfl) ?_
        refine r_pc C 124 rfl ?_
        obtain ⟨v22, ev22⟩ : ∃ z : Int32, z = a3 + k1 := ⟨_, rfl⟩
        have hv22 : v22.toInt = a3.toInt + k1.toInt := n_add ev22 (by omega) (by omega)
        refine r_iadd C v22 (oDec_at oX12_brokenBy 72 rfl) ev22 ?_
        refine r_callVi C oCl12 rfl miX12_singsIn mlX12_431 (ct_X12_singsIn l E ((pI (pI (pI (pI s 71 60 r6) 71 61 r8) 71 62 r19) 71 63 r21)) a1 v22 (by omega) (by omega)) (by decide) rfl rfl rfl (Nat.le_of_ble_eq_true rfl) (oDec_at oX12_brokenBy 73 rfl) (fun r24 u23 pu23 fu23 => ?_)
        try dsimp only at pu23
        have hxu23 := oFr_nil fu23; subst hxu23
        have rr24 := n_rng r24
        have hsA : r24.toInt = owTt 84 nn st (owNb 84 nn (a3.toInt + 1)) := by have h9 := congrArg Int32.toInt pu23; have h8 := owNb_b (c := 84) (n := nn) (t := a3.toInt + 1); rw [owNA_m (show owRL nn st ((pI (pI (pI (pI s 71 60 r6) 71 61 r8) 71 62 r19) 71 63 r21)) from (owRL_fr (oFr_oneI (q := 12) (m := 63) rfl (by rfl)) rfl (owRL_fr (oFr_oneI (q := 12) (m := 62) rfl (by rfl)) rfl (owRL_fr (oFr_oneI (q := 12) (m := 61) rfl (by rfl)) rfl (owRL_fr (oFr_oneI (q := 12) (m := 60) rfl (by rfl)) rfl hp7))))) (by omega) (by omega), show v22.toInt = a3.toInt + 1 by omega, h84, owSB_m (show owRL nn st ((pI (pI (pI (pI s 71 60 r6) 71 61 r8) 71 62 r19) 71 63 r21)) from (owRL_fr (oFr_oneI (q := 12) (m := 63) rfl (by rfl)) rfl (owRL_fr (oFr_oneI (q := 12) (m := 62) rfl (by rfl)) rfl (owRL_fr (oFr_oneI (q := 12) (m := 61) rfl (by rfl)) rfl (owRL_fr (oFr_oneI (q := 12) (m := 60) rfl (by rfl)) rfl hp7))))) hp8 (by omega) (by omega)] at h9; exact h9
        refine r_ldcw C (v := km1000000000) (by rw [qkm1000000000]; exact kcX12_398) (oDec_at oX12_brokenBy 74 rfl) ?_
        refine r_icmp_eq C 148 (oDec_at oX12_brokenBy 75 rfl) (by decide) (fun cd25 => ?_) (fun cd25 => ?_)
        · skip
          refine r_iconst C (oDec_at oX12_brokenBy 84 rfl) (v := k1) (by rw [qk1]; rfl) ?_
          refine r_goto C (tgt := 153) (oDec_at oX12_brokenBy 85 rfl) (by decide) ?_
          have hl9 : k1.toInt = owXl a2.toInt nn st a3.toInt := by first | (rw [owXl_y (by omega)] <;> omega) | (rw [owXl_n hp8 (by omega) (by omega) (by omega)] <;> omega)
          have hxk9 : owXk a2.toInt nn st a3.toInt := (owXk_e hp8 hA9 hB9 (by omega)).mpr (by omega)
          have hb19 := owTt_b (c := 84) (k := owNb 84 nn a3.toInt) hp8 (by omega)
          have hb29 := owTt_b (c := a2.toInt) (k := owNb a2.toInt nn a3.toInt) hp8 (by omega)
          have hb39 := owTt_b (c := 84) (k := owNb 84 nn (a3.toInt - 1)) hp8 (by omega)
          have hb49 := owTt_b (c := a2.toInt) (k := owNb a2.toInt nn (a3.toInt - 1)) hp8 (by omega)
          have hd19 := owTt_dd (c := 84) (j := owNb 84 nn (a3.toInt - 1)) (k := owNb 84 nn a3.toInt) hp8 (by omega)
          have hd29 := owTt_dd (c := a2.toInt) (j := owNb a2.toInt nn (a3.toInt - 1)) (k := owNb a2.toInt nn a3.toInt) hp8 (by omega)
          have hmm9 : (((pI (pI (pI (pI s 71 60 r6) 71 61 r8) 71 62 r19) 71 63 r21)).1 71 53).toInt = me := (owMM_fr (oFr_oneI (q := 12) (m := 63) rfl (by rfl)) rfl (owMM_fr (oFr_oneI (q := 12) (m := 62) rfl (by rfl)) rfl (owMM_fr (oFr_oneI (q := 12) (m := 61) rfl (by rfl)) rfl (owMM_fr (oFr_oneI (q := 12) (m := 60) rfl (by rfl)) rfl hp5))))
          have hfb9 : ∀ i : Nat, i < 8 → -1000000 ≤ owXf me a2.toInt nn st a3.toInt i ∧ owXf me a2.toInt nn st a3.toInt i ≤ 1000000 := fun i hi => owXf_b hp8 (by omega) hxk9 (by omega) (by omega) i hi
          have lk26 : (((pI (pI (pI (pI s 71 60 r6) 71 61 r8) 71 62 r19) 71 63 r21)).1 71 60).toInt = r6.toInt := congrArg Int32.toInt (((pI_ne (a := 71) (b := 60) (c := 71) (k := 63) _ _ (Or.inr (by decide)))).trans (((pI_ne (a := 71) (b := 60) (c := 71) (k := 62) _ _ (Or.inr (by decide)))).trans (((pI_ne (a := 71) (b := 60) (c := 71) (k := 61) _ _ (Or.inr (by decide)))).trans ((pI_self _ _ _ _)))))
          have lk27 : (((pI (pI (pI (pI s 71 60 r6) 71 61 r8) 71 62 r19) 71 63 r21)).1 71 61).toInt = r8.toInt := congrArg Int32.toInt (((pI_ne (a := 71) (b := 61) (c := 71) (k := 63) _ _ (Or.inr (by decide)))).trans (((pI_ne (a := 71) (b := 61) (c := 71) (k := 62) _ _ (Or.inr (by decide)))).trans ((pI_self _ _ _ _))))
          have lk28 : (((pI (pI (pI (pI s 71 60 r6) 71 61 r8) 71 62 r19) 71 63 r21)).1 71 62).toInt = r19.toInt := congrArg Int32.toInt (((pI_ne (a := 71) (b := 62) (c := 71) (k := 63) _ _ (Or.inr (by decide)))).trans ((pI_self _ _ _ _)))
          have lk29 : (((pI (pI (pI (pI s 71 60 r6) 71 61 r8) 71 62 r19) 71 63 r21)).1 71 63).toInt = r21.toInt := congrArg Int32.toInt ((pI_self _ _ _ _))
          have lk30 : (((pI (pI (pI (pI s 71 60 r6) 71 61 r8) 71 62 r19) 71 63 r21)).1 71 53).toInt = (s.1 71 53).toInt := congrArg Int32.toInt (((pI_ne (a := 71) (b := 53) (c := 71) (k := 63) _ _ (Or.inr (by decide)))).trans (((pI_ne (a := 71) (b := 53) (c := 71) (k := 62) _ _ (Or.inr (by decide)))).trans (((pI_ne (a := 71) (b := 53) (c := 71) (k := 61) _ _ (Or.inr (by decide)))).trans ((pI_ne (a := 71) (b := 53) (c := 71) (k := 60) _ _ (Or.inr (by decide)))))))
          refine r_callVv C oCl12 rfl miX12_asksAll mlX12_453 (ct9_X12_asksAll l E ((pI (pI (pI (pI s 71 60 r6) 71 61 r8) 71 62 r19) 71 63 r21)) a3 k1 ((owTt 84 nn st (owNb 84 nn a3.toInt))) ((owTt a2.toInt nn st (owNb a2.toInt nn a3.toInt))) ((owTt 84 nn st (owNb 84 nn (a3.toInt - 1)))) ((owTt a2.toInt nn st (owNb a2.toInt nn (a3.toInt - 1)))) (me) (by omega) (by omega) (by omega) (by omega) (by omega) (by omega) (by omega) (by omega) (by omega) (by omega) (by omega) (by omega)) (by decide) rfl rfl rfl (Nat.le_of_ble_eq_true rfl) (oDec_at oX12_brokenBy 87 rfl) (fun u31 pu31 fu31 => ?_)
          try dsimp only at pu31
          try simp only [lk26, lk27, lk28, lk29, lk30] at pu31
          have hqa9 := pu31
          rw [hl9, owXf_e rfl rfl rfl rfl (by omega) (by omega) rfl] at hqa9
          have hq33 : owQA (owXf me a2.toInt nn st a3.toInt) (u31) := hqa9
          refine r_aload_n C (j := 0) (oDec_at oX12_brokenBy 88 rfl) rfl rfl ?_
          refine r_callVi C oCl12 rfl miX12_firstRule mlX12_457 (ct9_X12_firstRule l E (u31)  (owXf me a2.toInt nn st a3.toInt) (R) (W) (oBI_fr fu31 rfl (oBI_fr (oFr_oneI (q := 12) (m := 63) rfl (by rfl)) rfl (oBI_fr (oFr_oneI (q := 12) (m := 62) rfl (by rfl)) rfl (oBI_fr (oFr_oneI (q := 12) (m := 61) rfl (by rfl)) rfl (oBI_fr (oFr_oneI (q := 12) (m := 60) rfl (by rfl)) rfl hp3))))) (owBE_fr fu31 rfl (owBE_fr (oFr_oneI (q := 12) (m := 63) rfl (by rfl)) rfl (owBE_fr (oFr_oneI (q := 12) (m := 62) rfl (by rfl)) rfl (owBE_fr (oFr_oneI (q := 12) (m := 61) rfl (by rfl)) rfl (owBE_fr (oFr_oneI (q := 12) (m := 60) rfl (by rfl)) rfl hp4))))) (owLO_fr fu31 rfl (owLO_fr (oFr_oneI (q := 12) (m := 63) rfl (by rfl)) rfl (owLO_fr (oFr_oneI (q := 12) (m := 62) rfl (by rfl)) rfl (owLO_fr (oFr_oneI (q := 12) (m := 61) rfl (by rfl)) rfl (owLO_fr (oFr_oneI (q := 12) (m := 60) rfl (by rfl)) rfl hp6))))) hq33 hfb9) (by decide) rfl rfl rfl (Nat.le_of_ble_eq_true rfl) (oDec_at oX12_brokenBy 89 rfl) (fun r35 u34 pu34 fu34 => ?_)
          try dsimp only at pu34
          obtain ⟨pu34_0, pu34_1⟩ := pu34
          have rr35 := n_rng r35
          have hfr9 := pu34_1
          exact r_iret C (oDec_at oX12_brokenBy 90 rfl) ⟨_, rfl, ⟨by omega, ⟨fun h9 h8 => (hfr9.mp h9) h8.2, fun h9 => hfr9.mpr (fun h8 => h9 ⟨hxk9, h8⟩)⟩⟩⟩
        · skip
          refine r_aload_n C (j := 0) (oDec_at oX12_brokenBy 76 rfl) rfl rfl ?_
          refine r_iload_n C (j := 2) (oDec_at oX12_brokenBy 77 rfl) rfl rfl ?_
          refine r_iload_n C (j := 3) (oDec_at oX12_brokenBy 78 rfl) rfl rfl ?_
          refine r_iconst C (oDec_at oX12_brokenBy 79 rfl) (v := k1) (by rw [qk1]; rfl) ?_
          obtain ⟨v36, ev36⟩ : ∃ z : Int32, z = a3 + k1 := ⟨_, rfl⟩
          have hv36 : v36.toInt = a3.toInt + k1.toInt := n_add ev36 (by omega) (by omega)
          refine r_iadd C v36 (oDec_at oX12_brokenBy 80 rfl) ev36 ?_
          refine r_callVi C oCl12 rfl miX12_singsIn mlX12_431 (ct_X12_singsIn l E ((pI (pI (pI (pI s 71 60 r6) 71 61 r8) 71 62 r19) 71 63 r21)) a2 v36 (by omega) (by omega)) (by decide) rfl rfl rfl (Nat.le_of_ble_eq_true rfl) (oDec_at oX12_brokenBy 81 rfl) (fun r38 u37 pu37 fu37 => ?_)
          try dsimp only at pu37
          have hxu37 := oFr_nil fu37; subst hxu37
          have rr38 := n_rng r38
          refine r_pc C 142 rfl ?_
          have hsB : r38.toInt = owTt a2.toInt nn st (owNb a2.toInt nn (a3.toInt + 1)) := by have h9 := congrArg Int32.toInt pu37; have h8 := owNb_b (c := a2.toInt) (n := nn) (t := a3.toInt + 1); rw [owNA_m (show owRL nn st ((pI (pI (pI (pI s 71 60 r6) 71 61 r8) 71 62 r19) 71 63 r21)) from (owRL_fr (oFr_oneI (q := 12) (m := 63) rfl (by rfl)) rfl (owRL_fr (oFr_oneI (q := 12) (m := 62) rfl (by rfl)) rfl (owRL_fr (oFr_oneI (q := 12) (m := 61) rfl (by rfl)) rfl (owRL_fr (oFr_oneI (q := 12) (m := 60) rfl (by rfl)) rfl hp7))))) (by omega) (by omega), show v36.toInt = a3.toInt + 1 by omega, owSB_m (show owRL nn st ((pI (pI (pI (pI s 71 60 r6) 71 61 r8) 71 62 r19) 71 63 r21)) from (owRL_fr (oFr_oneI (q := 12) (m := 63) rfl (by rfl)) rfl (owRL_fr (oFr_oneI (q := 12) (m := 62) rfl (by rfl)) rfl (owRL_fr (oFr_oneI (q := 12) (m := 61) rfl (by rfl)) rfl (owRL_fr (oFr_oneI (q := 12) (m := 60) rfl (by rfl)) rfl hp7))))) hp8 (by omega) (by omega)] at h9; exact h9
          refine r_ldcw C (v := km1000000000) (by rw [qkm1000000000]; exact kcX12_398) (oDec_at oX12_brokenBy 82 rfl) ?_
          refine r_icmp_ne C 152 (oDec_at oX12_brokenBy 83 rfl) (by decide) (fun cd39 => ?_) (fun cd39 => ?_)
          · skip
            refine r_iconst C (oDec_at oX12_brokenBy 86 rfl) (v := k0) (by rw [qk0]; rfl) ?_
            have hl9 : k0.toInt = owXl a2.toInt nn st a3.toInt := by first | (rw [owXl_y (by omega)] <;> omega) | (rw [owXl_n hp8 (by omega) (by omega) (by omega)] <;> omega)
            have hxk9 : owXk a2.toInt nn st a3.toInt := (owXk_e hp8 hA9 hB9 (by omega)).mpr (by omega)
            have hb19 := owTt_b (c := 84) (k := owNb 84 nn a3.toInt) hp8 (by omega)
            have hb29 := owTt_b (c := a2.toInt) (k := owNb a2.toInt nn a3.toInt) hp8 (by omega)
            have hb39 := owTt_b (c := 84) (k := owNb 84 nn (a3.toInt - 1)) hp8 (by omega)
            have hb49 := owTt_b (c := a2.toInt) (k := owNb a2.toInt nn (a3.toInt - 1)) hp8 (by omega)
            have hd19 := owTt_dd (c := 84) (j := owNb 84 nn (a3.toInt - 1)) (k := owNb 84 nn a3.toInt) hp8 (by omega)
            have hd29 := owTt_dd (c := a2.toInt) (j := owNb a2.toInt nn (a3.toInt - 1)) (k := owNb a2.toInt nn a3.toInt) hp8 (by omega)
            have hmm9 : (((pI (pI (pI (pI s 71 60 r6) 71 61 r8) 71 62 r19) 71 63 r21)).1 71 53).toInt = me := (owMM_fr (oFr_oneI (q := 12) (m := 63) rfl (by rfl)) rfl (owMM_fr (oFr_oneI (q := 12) (m := 62) rfl (by rfl)) rfl (owMM_fr (oFr_oneI (q := 12) (m := 61) rfl (by rfl)) rfl (owMM_fr (oFr_oneI (q := 12) (m := 60) rfl (by rfl)) rfl hp5))))
            have hfb9 : ∀ i : Nat, i < 8 → -1000000 ≤ owXf me a2.toInt nn st a3.toInt i ∧ owXf me a2.toInt nn st a3.toInt i ≤ 1000000 := fun i hi => owXf_b hp8 (by omega) hxk9 (by omega) (by omega) i hi
            have lk40 : (((pI (pI (pI (pI s 71 60 r6) 71 61 r8) 71 62 r19) 71 63 r21)).1 71 60).toInt = r6.toInt := congrArg Int32.toInt (((pI_ne (a := 71) (b := 60) (c := 71) (k := 63) _ _ (Or.inr (by decide)))).trans (((pI_ne (a := 71) (b := 60) (c := 71) (k := 62) _ _ (Or.inr (by decide)))).trans (((pI_ne (a := 71) (b := 60) (c := 71) (k := 61) _ _ (Or.inr (by decide)))).trans ((pI_self _ _ _ _)))))
            have lk41 : (((pI (pI (pI (pI s 71 60 r6) 71 61 r8) 71 62 r19) 71 63 r21)).1 71 61).toInt = r8.toInt := congrArg Int32.toInt (((pI_ne (a := 71) (b := 61) (c := 71) (k := 63) _ _ (Or.inr (by decide)))).trans (((pI_ne (a := 71) (b := 61) (c := 71) (k := 62) _ _ (Or.inr (by decide)))).trans ((pI_self _ _ _ _))))
            have lk42 : (((pI (pI (pI (pI s 71 60 r6) 71 61 r8) 71 62 r19) 71 63 r21)).1 71 62).toInt = r19.toInt := congrArg Int32.toInt (((pI_ne (a := 71) (b := 62) (c := 71) (k := 63) _ _ (Or.inr (by decide)))).trans ((pI_self _ _ _ _)))
            have lk43 : (((pI (pI (pI (pI s 71 60 r6) 71 61 r8) 71 62 r19) 71 63 r21)).1 71 63).toInt = r21.toInt := congrArg Int32.toInt ((pI_self _ _ _ _))
            have lk44 : (((pI (pI (pI (pI s 71 60 r6) 71 61 r8) 71 62 r19) 71 63 r21)).1 71 53).toInt = (s.1 71 53).toInt := congrArg Int32.toInt (((pI_ne (a := 71) (b := 53) (c := 71) (k := 63) _ _ (Or.inr (by decide)))).trans (((pI_ne (a := 71) (b := 53) (c := 71) (k := 62) _ _ (Or.inr (by decide)))).trans (((pI_ne (a := 71) (b := 53) (c := 71) (k := 61) _ _ (Or.inr (by decide)))).trans ((pI_ne (a := 71) (b := 53) (c := 71) (k := 60) _ _ (Or.inr (by decide)))))))
            refine r_callVv C oCl12 rfl miX12_asksAll mlX12_453 (ct9_X12_asksAll l E ((pI (pI (pI (pI s 71 60 r6) 71 61 r8) 71 62 r19) 71 63 r21)) a3 k0 ((owTt 84 nn st (owNb 84 nn a3.toInt))) ((owTt a2.toInt nn st (owNb a2.toInt nn a3.toInt))) ((owTt 84 nn st (owNb 84 nn (a3.toInt - 1)))) ((owTt a2.toInt nn st (owNb a2.toInt nn (a3.toInt - 1)))) (me) (by omega) (by omega) (by omega) (by omega) (by omega) (by omega) (by omega) (by omega) (by omega) (by omega) (by omega) (by omega)) (by decide) rfl rfl rfl (Nat.le_of_ble_eq_true rfl) (oDec_at oX12_brokenBy 87 rfl) (fun u45 pu45 fu45 => ?_)
            try dsimp only at pu45
            try simp only [lk40, lk41, lk42, lk43, lk44] at pu45
            have hqa9 := pu45
            rw [hl9, owXf_e rfl rfl rfl rfl (by omega) (by omega) rfl] at hqa9
            have hq47 : owQA (owXf me a2.toInt nn st a3.toInt) (u45) := hqa9
            refine r_aload_n C (j := 0) (oDec_at oX12_brokenBy 88 rfl) rfl rfl ?_
            refine r_callVi C oCl12 rfl miX12_firstRule mlX12_457 (ct9_X12_firstRule l E (u45)  (owXf me a2.toInt nn st a3.toInt) (R) (W) (oBI_fr fu45 rfl (oBI_fr (oFr_oneI (q := 12) (m := 63) rfl (by rfl)) rfl (oBI_fr (oFr_oneI (q := 12) (m := 62) rfl (by rfl)) rfl (oBI_fr (oFr_oneI (q := 12) (m := 61) rfl (by rfl)) rfl (oBI_fr (oFr_oneI (q := 12) (m := 60) rfl (by rfl)) rfl hp3))))) (owBE_fr fu45 rfl (owBE_fr (oFr_oneI (q := 12) (m := 63) rfl (by rfl)) rfl (owBE_fr (oFr_oneI (q := 12) (m := 62) rfl (by rfl)) rfl (owBE_fr (oFr_oneI (q := 12) (m := 61) rfl (by rfl)) rfl (owBE_fr (oFr_oneI (q := 12) (m := 60) rfl (by rfl)) rfl hp4))))) (owLO_fr fu45 rfl (owLO_fr (oFr_oneI (q := 12) (m := 63) rfl (by rfl)) rfl (owLO_fr (oFr_oneI (q := 12) (m := 62) rfl (by rfl)) rfl (owLO_fr (oFr_oneI (q := 12) (m := 61) rfl (by rfl)) rfl (owLO_fr (oFr_oneI (q := 12) (m := 60) rfl (by rfl)) rfl hp6))))) hq47 hfb9) (by decide) rfl rfl rfl (Nat.le_of_ble_eq_true rfl) (oDec_at oX12_brokenBy 89 rfl) (fun r49 u48 pu48 fu48 => ?_)
            try dsimp only at pu48
            obtain ⟨pu48_0, pu48_1⟩ := pu48
            have rr49 := n_rng r49
            have hfr9 := pu48_1
            exact r_iret C (oDec_at oX12_brokenBy 90 rfl) ⟨_, rfl, ⟨by omega, ⟨fun h9 h8 => (hfr9.mp h9) h8.2, fun h9 => hfr9.mpr (fun h8 => h9 ⟨hxk9, h8⟩)⟩⟩⟩
          · skip
            refine r_iconst C (oDec_at oX12_brokenBy 84 rfl) (v := k1) (by rw [qk1]; rfl) ?_
            refine r_goto C (tgt := 153) (oDec_at oX12_brokenBy 85 rfl) (by decide) ?_
            have hl9 : k1.toInt = owXl a2.toInt nn st a3.toInt := by first | (rw [owXl_y (by omega)] <;> omega) | (rw [owXl_n hp8 (by omega) (by omega) (by omega)] <;> omega)
            have hxk9 : owXk a2.toInt nn st a3.toInt := (owXk_e hp8 hA9 hB9 (by omega)).mpr (by omega)
            have hb19 := owTt_b (c := 84) (k := owNb 84 nn a3.toInt) hp8 (by omega)
            have hb29 := owTt_b (c := a2.toInt) (k := owNb a2.toInt nn a3.toInt) hp8 (by omega)
            have hb39 := owTt_b (c := 84) (k := owNb 84 nn (a3.toInt - 1)) hp8 (by omega)
            have hb49 := owTt_b (c := a2.toInt) (k := owNb a2.toInt nn (a3.toInt - 1)) hp8 (by omega)
            have hd19 := owTt_dd (c := 84) (j := owNb 84 nn (a3.toInt - 1)) (k := owNb 84 nn a3.toInt) hp8 (by omega)
            have hd29 := owTt_dd (c := a2.toInt) (j := owNb a2.toInt nn (a3.toInt - 1)) (k := owNb a2.toInt nn a3.toInt) hp8 (by omega)
            have hmm9 : (((pI (pI (pI (pI s 71 60 r6) 71 61 r8) 71 62 r19) 71 63 r21)).1 71 53).toInt = me := (owMM_fr (oFr_oneI (q := 12) (m := 63) rfl (by rfl)) rfl (owMM_fr (oFr_oneI (q := 12) (m := 62) rfl (by rfl)) rfl (owMM_fr (oFr_oneI (q := 12) (m := 61) rfl (by rfl)) rfl (owMM_fr (oFr_oneI (q := 12) (m := 60) rfl (by rfl)) rfl hp5))))
            have hfb9 : ∀ i : Nat, i < 8 → -1000000 ≤ owXf me a2.toInt nn st a3.toInt i ∧ owXf me a2.toInt nn st a3.toInt i ≤ 1000000 := fun i hi => owXf_b hp8 (by omega) hxk9 (by omega) (by omega) i hi
            have lk50 : (((pI (pI (pI (pI s 71 60 r6) 71 61 r8) 71 62 r19) 71 63 r21)).1 71 60).toInt = r6.toInt := congrArg Int32.toInt (((pI_ne (a := 71) (b := 60) (c := 71) (k := 63) _ _ (Or.inr (by decide)))).trans (((pI_ne (a := 71) (b := 60) (c := 71) (k := 62) _ _ (Or.inr (by decide)))).trans (((pI_ne (a := 71) (b := 60) (c := 71) (k := 61) _ _ (Or.inr (by decide)))).trans ((pI_self _ _ _ _)))))
            have lk51 : (((pI (pI (pI (pI s 71 60 r6) 71 61 r8) 71 62 r19) 71 63 r21)).1 71 61).toInt = r8.toInt := congrArg Int32.toInt (((pI_ne (a := 71) (b := 61) (c := 71) (k := 63) _ _ (Or.inr (by decide)))).trans (((pI_ne (a := 71) (b := 61) (c := 71) (k := 62) _ _ (Or.inr (by decide)))).trans ((pI_self _ _ _ _))))
            have lk52 : (((pI (pI (pI (pI s 71 60 r6) 71 61 r8) 71 62 r19) 71 63 r21)).1 71 62).toInt = r19.toInt := congrArg Int32.toInt (((pI_ne (a := 71) (b := 62) (c := 71) (k := 63) _ _ (Or.inr (by decide)))).trans ((pI_self _ _ _ _)))
            have lk53 : (((pI (pI (pI (pI s 71 60 r6) 71 61 r8) 71 62 r19) 71 63 r21)).1 71 63).toInt = r21.toInt := congrArg Int32.toInt ((pI_self _ _ _ _))
            have lk54 : (((pI (pI (pI (pI s 71 60 r6) 71 61 r8) 71 62 r19) 71 63 r21)).1 71 53).toInt = (s.1 71 53).toInt := congrArg Int32.toInt (((pI_ne (a := 71) (b := 53) (c := 71) (k := 63) _ _ (Or.inr (by decide)))).trans (((pI_ne (a := 71) (b := 53) (c := 71) (k := 62) _ _ (Or.inr (by decide)))).trans (((pI_ne (a := 71) (b := 53) (c := 71) (k := 61) _ _ (Or.inr (by decide)))).trans ((pI_ne (a := 71) (b := 53) (c := 71) (k := 60) _ _ (Or.inr (by decide)))))))
            refine r_callVv C oCl12 rfl miX12_asksAll mlX12_453 (ct9_X12_asksAll l E ((pI (pI (pI (pI s 71 60 r6) 71 61 r8) 71 62 r19) 71 63 r21)) a3 k1 ((owTt 84 nn st (owNb 84 nn a3.toInt))) ((owTt a2.toInt nn st (owNb a2.toInt nn a3.toInt))) ((owTt 84 nn st (owNb 84 nn (a3.toInt - 1)))) ((owTt a2.toInt nn st (owNb a2.toInt nn (a3.toInt - 1)))) (me) (by omega) (by omega) (by omega) (by omega) (by omega) (by omega) (by omega) (by omega) (by omega) (by omega) (by omega) (by omega)) (by decide) rfl rfl rfl (Nat.le_of_ble_eq_true rfl) (oDec_at oX12_brokenBy 87 rfl) (fun u55 pu55 fu55 => ?_)
            try dsimp only at pu55
            try simp only [lk50, lk51, lk52, lk53, lk54] at pu55
            have hqa9 := pu55
            rw [hl9, owXf_e rfl rfl rfl rfl (by omega) (by omega) rfl] at hqa9
            have hq57 : owQA (owXf me a2.toInt nn st a3.toInt) (u55) := hqa9
            refine r_aload_n C (j := 0) (oDec_at oX12_brokenBy 88 rfl) rfl rfl ?_
            refine r_callVi C oCl12 rfl miX12_firstRule mlX12_457 (ct9_X12_firstRule l E (u55)  (owXf me a2.toInt nn st a3.toInt) (R) (W) (oBI_fr fu55 rfl (oBI_fr (oFr_oneI (q := 12) (m := 63) rfl (by rfl)) rfl (oBI_fr (oFr_oneI (q := 12) (m := 62) rfl (by rfl)) rfl (oBI_fr (oFr_oneI (q := 12) (m := 61) rfl (by rfl)) rfl (oBI_fr (oFr_oneI (q := 12) (m := 60) rfl (by rfl)) rfl hp3))))) (owBE_fr fu55 rfl (owBE_fr (oFr_oneI (q := 12) (m := 63) rfl (by rfl)) rfl (owBE_fr (oFr_oneI (q := 12) (m := 62) rfl (by rfl)) rfl (owBE_fr (oFr_oneI (q := 12) (m := 61) rfl (by rfl)) rfl (owBE_fr (oFr_oneI (q := 12) (m := 60) rfl (by rfl)) rfl hp4))))) (owLO_fr fu55 rfl (owLO_fr (oFr_oneI (q := 12) (m := 63) rfl (by rfl)) rfl (owLO_fr (oFr_oneI (q := 12) (m := 62) rfl (by rfl)) rfl (owLO_fr (oFr_oneI (q := 12) (m := 61) rfl (by rfl)) rfl (owLO_fr (oFr_oneI (q := 12) (m := 60) rfl (by rfl)) rfl hp6))))) hq57 hfb9) (by decide) rfl rfl rfl (Nat.le_of_ble_eq_true rfl) (oDec_at oX12_brokenBy 89 rfl) (fun r59 u58 pu58 fu58 => ?_)
            try dsimp only at pu58
            obtain ⟨pu58_0, pu58_1⟩ := pu58
            have rr59 := n_rng r59
            have hfr9 := pu58_1
            exact r_iret C (oDec_at oX12_brokenBy 90 rfl) ⟨_, rfl, ⟨by omega, ⟨fun h9 h8 => (hfr9.mp h9) h8.2, fun h9 => hfr9.mpr (fun h8 => h9 ⟨hxk9, h8⟩)⟩⟩⟩
      · skip
        refine r_iload C (j := 5) (oDec_at oX12_brokenBy 49 rfl) rfl ?_
        refine r_iload C (j := 7) (oDec_at oX12_brokenBy 50 rfl) rfl ?_
        refine r_icmp_ne C 96 (oDec_at oX12_brokenBy 51 rfl) (by decide) (fun cd60 => ?_) (fun cd60 => ?_)
        · skip
          refine r_aload_n C (j := 0) (oDec_at oX12_brokenBy 54 rfl) rfl rfl ?_
          refine r_aload_n C (j := 0) (oDec_at oX12_brokenBy 55 rfl) rfl rfl ?_
          refine r_iload_n C (j := 1) (oDec_at oX12_brokenBy 56 rfl) rfl rfl ?_
          refine r_iload C (j := 6) (oDec_at oX12_brokenBy 57 rfl) rfl ?_
          refine r_callVi C oCl12 rfl miX12_stepBy mlX12_408 (ct_X12_stepBy l E ((pI (pI s 71 60 r6) 71 61 r8)) a1 r13 (by omega) (by omega)) (by decide) rfl rfl rfl (Nat.le_of_ble_eq_true rfl) (oDec_at oX12_brokenBy 58 rfl) (fun r62 u61 pu61 fu61 => ?_)
          try dsimp only at pu61
          have hxu61 := oFr_nil fu61; subst hxu61
          have rr62 := n_rng r62
          have hp9 : r62.toInt = owTt 84 nn st (owNb 84 nn (a3.toInt - 1)) := by have h9 := congrArg Int32.toInt pu61; rw [owSB_m (show owRL nn st ((pI (pI s 71 60 r6) 71 61 r8)) from (owRL_fr (oFr_oneI (q := 12) (m := 61) rfl (by rfl)) rfl (owRL_fr (oFr_oneI (q := 12) (m := 60) rfl (by rfl)) rfl hp7))) hp8 (by omega) (by omega)] at h9; rw [h9, h84, hN6]
          refine r_puti (k := 62) (lo := (-2147483648)) (hi := 2147483647) C oCl12 rfl (by decide) flX12_443 rfl rfl rfl rfl rfl rfl rfl rfl (n_rng _) (oDec_at oX12_brokenBy 59 rfl) ?_
          refine r_pc C 107 rfl ?_
          refine r_aload_n C (j := 0) (oDec_at oX12_brokenBy 60 rfl) rfl rfl ?_
          refine r_aload_n C (j := 0) (oDec_at oX12_brokenBy 61 rfl) rfl rfl ?_
          refine r_iload_n C (j := 2) (oDec_at oX12_brokenBy 62 rfl) rfl rfl ?_
          refine r_iload C (j := 7) (oDec_at oX12_brokenBy 63 rfl) rfl ?_
          refine r_callVi C oCl12 rfl miX12_stepBy mlX12_408 (ct_X12_stepBy l E ((pI (pI (pI s 71 60 r6) 71 61 r8) 71 62 r62)) a2 r16 (by omega) (by omega)) (by decide) rfl rfl rfl (Nat.le_of_ble_eq_true rfl) (oDec_at oX12_brokenBy 64 rfl) (fun r64 u63 pu63 fu63 => ?_)
          try dsimp only at pu63
          have hxu63 := oFr_nil fu63; subst hxu63
          have rr64 := n_rng r64
          have hq9 : r64.toInt = owTt a2.toInt nn st (owNb a2.toInt nn (a3.toInt - 1)) := by have h9 := congrArg Int32.toInt pu63; rw [owSB_m (show owRL nn st ((pI (pI (pI s 71 60 r6) 71 61 r8) 71 62 r62)) from (owRL_fr (oFr_oneI (q := 12) (m := 62) rfl (by rfl)) rfl (owRL_fr (oFr_oneI (q := 12) (m := 61) rfl (by rfl)) rfl (owRL_fr (oFr_oneI (q := 12) (m := 60) rfl (by rfl)) rfl hp7)))) hp8 (by omega) (by omega)] at h9; rw [h9, hN7]
          refine r_puti (k := 63) (lo := (-2147483648)) (hi := 2147483647) C oCl12 rfl (by decide) flX12_446 rfl rfl rfl rfl rfl rfl rfl rfl (n_rng _) (oDec_at oX12_brokenBy 65 rfl) ?_
          refine r_pc C 118 rfl ?_
          refine r_aload_n C (j := 0) (oDec_at oX12_brokenBy 66 rfl) rfl rfl ?_
          refine r_iload_n C (j := 3) (oDec_at oX12_brokenBy 67 rfl) rfl rfl ?_
          refine r_aload_n C (j := 0) (oDec_at oX12_brokenBy 68 rfl) rfl rfl ?_
          refine r_iload_n C (j := 1) (oDec_at oX12_brokenBy 69 rfl) rfl rfl ?_
          refine r_iload_n C (j := 3) (oDec_at oX12_brokenBy 70 rfl) rfl rfl ?_
          refine r_iconst C (oDec_at oX12_brokenBy 71 rfl) (v := k1) (by rw [qk1]; rfl) ?_
          refine r_pc C 124 rfl ?_
          obtain ⟨v65, ev65⟩ : ∃ z : Int32, z = a3 + k1 := ⟨_, rfl⟩
          have hv65 : v65.toInt = a3.toInt + k1.toInt := n_add ev65 (by omega) (by omega)
          refine r_iadd C v65 (oDec_at oX12_brokenBy 72 rfl) ev65 ?_
          refine r_callVi C oCl12 rfl miX12_singsIn mlX12_431 (ct_X12_singsIn l E ((pI (pI (pI (pI s 71 60 r6) 71 61 r8) 71 62 r62) 71 63 r64)) a1 v65 (by omega) (by omega)) (by decide) rfl rfl rfl (Nat.le_of_ble_eq_true rfl) (oDec_at oX12_brokenBy 73 rfl) (fun r67 u66 pu66 fu66 => ?_)
          try dsimp only at pu66
          have hxu66 := oFr_nil fu66; subst hxu66
          have rr67 := n_rng r67
          have hsA : r67.toInt = owTt 84 nn st (owNb 84 nn (a3.toInt + 1)) := by have h9 := congrArg Int32.toInt pu66; have h8 := owNb_b (c := 84) (n := nn) (t := a3.toInt + 1); rw [owNA_m (show owRL nn st ((pI (pI (pI (pI s 71 60 r6) 71 61 r8) 71 62 r62) 71 63 r64)) from (owRL_fr (oFr_oneI (q := 12) (m := 63) rfl (by rfl)) rfl (owRL_fr (oFr_oneI (q := 12) (m := 62) rfl (by rfl)) rfl (owRL_fr (oFr_oneI (q := 12) (m := 61) rfl (by rfl)) rfl (owRL_fr (oFr_oneI (q := 12) (m := 60) rfl (by rfl)) rfl hp7))))) (by omega) (by omega), show v65.toInt = a3.toInt + 1 by omega, h84, owSB_m (show owRL nn st ((pI (pI (pI (pI s 71 60 r6) 71 61 r8) 71 62 r62) 71 63 r64)) from (owRL_fr (oFr_oneI (q := 12) (m := 63) rfl (by rfl)) rfl (owRL_fr (oFr_oneI (q := 12) (m := 62) rfl (by rfl)) rfl (owRL_fr (oFr_oneI (q := 12) (m := 61) rfl (by rfl)) rfl (owRL_fr (oFr_oneI (q := 12) (m := 60) rfl (by rfl)) rfl hp7))))) hp8 (by omega) (by omega)] at h9; exact h9
          refine r_ldcw C (v := km1000000000) (by rw [qkm1000000000]; exact kcX12_398) (oDec_at oX12_brokenBy 74 rfl) ?_
          refine r_icmp_eq C 148 (oDec_at oX12_brokenBy 75 rfl) (by decide) (fun cd68 => ?_) (fun cd68 => ?_)
          · skip
            refine r_iconst C (oDec_at oX12_brokenBy 84 rfl) (v := k1) (by rw [qk1]; rfl) ?_
            refine r_goto C (tgt := 153) (oDec_at oX12_brokenBy 85 rfl) (by decide) ?_
            have hl9 : k1.toInt = owXl a2.toInt nn st a3.toInt := by first | (rw [owXl_y (by omega)] <;> omega) | (rw [owXl_n hp8 (by omega) (by omega) (by omega)] <;> omega)
            have hxk9 : owXk a2.toInt nn st a3.toInt := (owXk_e hp8 hA9 hB9 (by omega)).mpr (by omega)
            have hb19 := owTt_b (c := 84) (k := owNb 84 nn a3.toInt) hp8 (by omega)
            have hb29 := owTt_b (c := a2.toInt) (k := owNb a2.toInt nn a3.toInt) hp8 (by omega)
            have hb39 := owTt_b (c := 84) (k := owNb 84 nn (a3.toInt - 1)) hp8 (by omega)
            have hb49 := owTt_b (c := a2.toInt) (k := owNb a2.toInt nn (a3.toInt - 1)) hp8 (by omega)
            have hd19 := owTt_dd (c := 84) (j := owNb 84 nn (a3.toInt - 1)) (k := owNb 84 nn a3.toInt) hp8 (by omega)
            have hd29 := owTt_dd (c := a2.toInt) (j := owNb a2.toInt nn (a3.toInt - 1)) (k := owNb a2.toInt nn a3.toInt) hp8 (by omega)
            have hmm9 : (((pI (pI (pI (pI s 71 60 r6) 71 61 r8) 71 62 r62) 71 63 r64)).1 71 53).toInt = me := (owMM_fr (oFr_oneI (q := 12) (m := 63) rfl (by rfl)) rfl (owMM_fr (oFr_oneI (q := 12) (m := 62) rfl (by rfl)) rfl (owMM_fr (oFr_oneI (q := 12) (m := 61) rfl (by rfl)) rfl (owMM_fr (oFr_oneI (q := 12) (m := 60) rfl (by rfl)) rfl hp5))))
            have hfb9 : ∀ i : Nat, i < 8 → -1000000 ≤ owXf me a2.toInt nn st a3.toInt i ∧ owXf me a2.toInt nn st a3.toInt i ≤ 1000000 := fun i hi => owXf_b hp8 (by omega) hxk9 (by omega) (by omega) i hi
            have lk69 : (((pI (pI (pI (pI s 71 60 r6) 71 61 r8) 71 62 r62) 71 63 r64)).1 71 60).toInt = r6.toInt := congrArg Int32.toInt (((pI_ne (a := 71) (b := 60) (c := 71) (k := 63) _ _ (Or.inr (by decide)))).trans (((pI_ne (a := 71) (b := 60) (c := 71) (k := 62) _ _ (Or.inr (by decide)))).trans (((pI_ne (a := 71) (b := 60) (c := 71) (k := 61) _ _ (Or.inr (by decide)))).trans ((pI_self _ _ _ _)))))
            have lk70 : (((pI (pI (pI (pI s 71 60 r6) 71 61 r8) 71 62 r62) 71 63 r64)).1 71 61).toInt = r8.toInt := congrArg Int32.toInt (((pI_ne (a := 71) (b := 61) (c := 71) (k := 63) _ _ (Or.inr (by decide)))).trans (((pI_ne (a := 71) (b := 61) (c := 71) (k := 62) _ _ (Or.inr (by decide)))).trans ((pI_self _ _ _ _))))
            have lk71 : (((pI (pI (pI (pI s 71 60 r6) 71 61 r8) 71 62 r62) 71 63 r64)).1 71 62).toInt = r62.toInt := congrArg Int32.toInt (((pI_ne (a := 71) (b := 62) (c := 71) (k := 63) _ _ (Or.inr (by decide)))).trans ((pI_self _ _ _ _)))
            have lk72 : (((pI (pI (pI (pI s 71 60 r6) 71 61 r8) 71 62 r62) 71 63 r64)).1 71 63).toInt = r64.toInt := congrArg Int32.toInt ((pI_self _ _ _ _))
            have lk73 : (((pI (pI (pI (pI s 71 60 r6) 71 61 r8) 71 62 r62) 71 63 r64)).1 71 53).toInt = (s.1 71 53).toInt := congrArg Int32.toInt (((pI_ne (a := 71) (b := 53) (c := 71) (k := 63) _ _ (Or.inr (by decide)))).trans (((pI_ne (a := 71) (b := 53) (c := 71) (k := 62) _ _ (Or.inr (by decide)))).trans (((pI_ne (a := 71) (b := 53) (c := 71) (k := 61) _ _ (Or.inr (by decide)))).trans ((pI_ne (a := 71) (b := 53) (c := 71) (k := 60) _ _ (Or.inr (by decide)))))))
            refine r_callVv C oCl12 rfl miX12_asksAll mlX12_453 (ct9_X12_asksAll l E ((pI (pI (pI (pI s 71 60 r6) 71 61 r8) 71 62 r62) 71 63 r64)) a3 k1 ((owTt 84 nn st (owNb 84 nn a3.toInt))) ((owTt a2.toInt nn st (owNb a2.toInt nn a3.toInt))) ((owTt 84 nn st (owNb 84 nn (a3.toInt - 1)))) ((owTt a2.toInt nn st (owNb a2.toInt nn (a3.toInt - 1)))) (me) (by omega) (by omega) (by omega) (by omega) (by omega) (by omega) (by omega) (by omega) (by omega) (by omega) (by omega) (by omega)) (by decide) rfl rfl rfl (Nat.le_of_ble_eq_true rfl) (oDec_at oX12_brokenBy 87 rfl) (fun u74 pu74 fu74 => ?_)
            try dsimp only at pu74
            try simp only [lk69, lk70, lk71, lk72, lk73] at pu74
            have hqa9 := pu74
            rw [hl9, owXf_e rfl rfl rfl rfl (by omega) (by omega) rfl] at hqa9
            have hq76 : owQA (owXf me a2.toInt nn st a3.toInt) (u74) := hqa9
            refine r_aload_n C (j := 0) (oDec_at oX12_brokenBy 88 rfl) rfl rfl ?_
            refine r_callVi C oCl12 rfl miX12_firstRule mlX12_457 (ct9_X12_firstRule l E (u74)  (owXf me a2.toInt nn st a3.toInt) (R) (W) (oBI_fr fu74 rfl (oBI_fr (oFr_oneI (q := 12) (m := 63) rfl (by rfl)) rfl (oBI_fr (oFr_oneI (q := 12) (m := 62) rfl (by rfl)) rfl (oBI_fr (oFr_oneI (q := 12) (m := 61) rfl (by rfl)) rfl (oBI_fr (oFr_oneI (q := 12) (m := 60) rfl (by rfl)) rfl hp3))))) (owBE_fr fu74 rfl (owBE_fr (oFr_oneI (q := 12) (m := 63) rfl (by rfl)) rfl (owBE_fr (oFr_oneI (q := 12) (m := 62) rfl (by rfl)) rfl (owBE_fr (oFr_oneI (q := 12) (m := 61) rfl (by rfl)) rfl (owBE_fr (oFr_oneI (q := 12) (m := 60) rfl (by rfl)) rfl hp4))))) (owLO_fr fu74 rfl (owLO_fr (oFr_oneI (q := 12) (m := 63) rfl (by rfl)) rfl (owLO_fr (oFr_oneI (q := 12) (m := 62) rfl (by rfl)) rfl (owLO_fr (oFr_oneI (q := 12) (m := 61) rfl (by rfl)) rfl (owLO_fr (oFr_oneI (q := 12) (m := 60) rfl (by rfl)) rfl hp6))))) hq76 hfb9) (by decide) rfl rfl rfl (Nat.le_of_ble_eq_true rfl) (oDec_at oX12_brokenBy 89 rfl) (fun r78 u77 pu77 fu77 => ?_)
            try dsimp only at pu77
            obtain ⟨pu77_0, pu77_1⟩ := pu77
            have rr78 := n_rng r78
            have hfr9 := pu77_1
            exact r_iret C (oDec_at oX12_brokenBy 90 rfl) ⟨_, rfl, ⟨by omega, ⟨fun h9 h8 => (hfr9.mp h9) h8.2, fun h9 => hfr9.mpr (fun h8 => h9 ⟨hxk9, h8⟩)⟩⟩⟩
          · skip
            refine r_aload_n C (j := 0) (oDec_at oX12_brokenBy 76 rfl) rfl rfl ?_
            refine r_iload_n C (j := 2) (oDec_at oX12_brokenBy 77 rfl) rfl rfl ?_
            refine r_iload_n C (j := 3) (oDec_at oX12_brokenBy 78 rfl) rfl rfl ?_
            refine r_iconst C (oDec_at oX12_brokenBy 79 rfl) (v := k1) (by rw [qk1]; rfl) ?_
            obtain ⟨v79, ev79⟩ : ∃ z : Int32, z = a3 + k1 := ⟨_, rfl⟩
            have hv79 : v79.toInt = a3.toInt + k1.toInt := n_add ev79 (by omega) (by omega)
            refine r_iadd C v79 (oDec_at oX12_brokenBy 80 rfl) ev79 ?_
            refine r_callVi C oCl12 rfl miX12_singsIn mlX12_431 (ct_X12_singsIn l E ((pI (pI (pI (pI s 71 60 r6) 71 61 r8) 71 62 r62) 71 63 r64)) a2 v79 (by omega) (by omega)) (by decide) rfl rfl rfl (Nat.le_of_ble_eq_true rfl) (oDec_at oX12_brokenBy 81 rfl) (fun r81 u80 pu80 fu80 => ?_)
            try dsimp only at pu80
            have hxu80 := oFr_nil fu80; subst hxu80
            have rr81 := n_rng r81
            refine r_pc C 142 rfl ?_
            have hsB : r81.toInt = owTt a2.toInt nn st (owNb a2.toInt nn (a3.toInt + 1)) := by have h9 := congrArg Int32.toInt pu80; have h8 := owNb_b (c := a2.toInt) (n := nn) (t := a3.toInt + 1); rw [owNA_m (show owRL nn st ((pI (pI (pI (pI s 71 60 r6) 71 61 r8) 71 62 r62) 71 63 r64)) from (owRL_fr (oFr_oneI (q := 12) (m := 63) rfl (by rfl)) rfl (owRL_fr (oFr_oneI (q := 12) (m := 62) rfl (by rfl)) rfl (owRL_fr (oFr_oneI (q := 12) (m := 61) rfl (by rfl)) rfl (owRL_fr (oFr_oneI (q := 12) (m := 60) rfl (by rfl)) rfl hp7))))) (by omega) (by omega), show v79.toInt = a3.toInt + 1 by omega, owSB_m (show owRL nn st ((pI (pI (pI (pI s 71 60 r6) 71 61 r8) 71 62 r62) 71 63 r64)) from (owRL_fr (oFr_oneI (q := 12) (m := 63) rfl (by rfl)) rfl (owRL_fr (oFr_oneI (q := 12) (m := 62) rfl (by rfl)) rfl (owRL_fr (oFr_oneI (q := 12) (m := 61) rfl (by rfl)) rfl (owRL_fr (oFr_oneI (q := 12) (m := 60) rfl (by rfl)) rfl hp7))))) hp8 (by omega) (by omega)] at h9; exact h9
            refine r_ldcw C (v := km1000000000) (by rw [qkm1000000000]; exact kcX12_398) (oDec_at oX12_brokenBy 82 rfl) ?_
            refine r_icmp_ne C 152 (oDec_at oX12_brokenBy 83 rfl) (by decide) (fun cd82 => ?_) (fun cd82 => ?_)
            · skip
              refine r_iconst C (oDec_at oX12_brokenBy 86 rfl) (v := k0) (by rw [qk0]; rfl) ?_
              have hl9 : k0.toInt = owXl a2.toInt nn st a3.toInt := by first | (rw [owXl_y (by omega)] <;> omega) | (rw [owXl_n hp8 (by omega) (by omega) (by omega)] <;> omega)
              have hxk9 : owXk a2.toInt nn st a3.toInt := (owXk_e hp8 hA9 hB9 (by omega)).mpr (by omega)
              have hb19 := owTt_b (c := 84) (k := owNb 84 nn a3.toInt) hp8 (by omega)
              have hb29 := owTt_b (c := a2.toInt) (k := owNb a2.toInt nn a3.toInt) hp8 (by omega)
              have hb39 := owTt_b (c := 84) (k := owNb 84 nn (a3.toInt - 1)) hp8 (by omega)
              have hb49 := owTt_b (c := a2.toInt) (k := owNb a2.toInt nn (a3.toInt - 1)) hp8 (by omega)
              have hd19 := owTt_dd (c := 84) (j := owNb 84 nn (a3.toInt - 1)) (k := owNb 84 nn a3.toInt) hp8 (by omega)
              have hd29 := owTt_dd (c := a2.toInt) (j := owNb a2.toInt nn (a3.toInt - 1)) (k := owNb a2.toInt nn a3.toInt) hp8 (by omega)
              have hmm9 : (((pI (pI (pI (pI s 71 60 r6) 71 61 r8) 71 62 r62) 71 63 r64)).1 71 53).toInt = me := (owMM_fr (oFr_oneI (q := 12) (m := 63) rfl (by rfl)) rfl (owMM_fr (oFr_oneI (q := 12) (m := 62) rfl (by rfl)) rfl (owMM_fr (oFr_oneI (q := 12) (m := 61) rfl (by rfl)) rfl (owMM_fr (oFr_oneI (q := 12) (m := 60) rfl (by rfl)) rfl hp5))))
              have hfb9 : ∀ i : Nat, i < 8 → -1000000 ≤ owXf me a2.toInt nn st a3.toInt i ∧ owXf me a2.toInt nn st a3.toInt i ≤ 1000000 := fun i hi => owXf_b hp8 (by omega) hxk9 (by omega) (by omega) i hi
              have lk83 : (((pI (pI (pI (pI s 71 60 r6) 71 61 r8) 71 62 r62) 71 63 r64)).1 71 60).toInt = r6.toInt := congrArg Int32.toInt (((pI_ne (a := 71) (b := 60) (c := 71) (k := 63) _ _ (Or.inr (by decide)))).trans (((pI_ne (a := 71) (b := 60) (c := 71) (k := 62) _ _ (Or.inr (by decide)))).trans (((pI_ne (a := 71) (b := 60) (c := 71) (k := 61) _ _ (Or.inr (by decide)))).trans ((pI_self _ _ _ _)))))
              have lk84 : (((pI (pI (pI (pI s 71 60 r6) 71 61 r8) 71 62 r62) 71 63 r64)).1 71 61).toInt = r8.toInt := congrArg Int32.toInt (((pI_ne (a := 71) (b := 61) (c := 71) (k := 63) _ _ (Or.inr (by decide)))).trans (((pI_ne (a := 71) (b := 61) (c := 71) (k := 62) _ _ (Or.inr (by decide)))).trans ((pI_self _ _ _ _))))
              have lk85 : (((pI (pI (pI (pI s 71 60 r6) 71 61 r8) 71 62 r62) 71 63 r64)).1 71 62).toInt = r62.toInt := congrArg Int32.toInt (((pI_ne (a := 71) (b := 62) (c := 71) (k := 63) _ _ (Or.inr (by decide)))).trans ((pI_self _ _ _ _)))
              have lk86 : (((pI (pI (pI (pI s 71 60 r6) 71 61 r8) 71 62 r62) 71 63 r64)).1 71 63).toInt = r64.toInt := congrArg Int32.toInt ((pI_self _ _ _ _))
              have lk87 : (((pI (pI (pI (pI s 71 60 r6) 71 61 r8) 71 62 r62) 71 63 r64)).1 71 53).toInt = (s.1 71 53).toInt := congrArg Int32.toInt (((pI_ne (a := 71) (b := 53) (c := 71) (k := 63) _ _ (Or.inr (by decide)))).trans (((pI_ne (a := 71) (b := 53) (c := 71) (k := 62) _ _ (Or.inr (by decide)))).trans (((pI_ne (a := 71) (b := 53) (c := 71) (k := 61) _ _ (Or.inr (by decide)))).trans ((pI_ne (a := 71) (b := 53) (c := 71) (k := 60) _ _ (Or.inr (by decide)))))))
              refine r_callVv C oCl12 rfl miX12_asksAll mlX12_453 (ct9_X12_asksAll l E ((pI (pI (pI (pI s 71 60 r6) 71 61 r8) 71 62 r62) 71 63 r64)) a3 k0 ((owTt 84 nn st (owNb 84 nn a3.toInt))) ((owTt a2.toInt nn st (owNb a2.toInt nn a3.toInt))) ((owTt 84 nn st (owNb 84 nn (a3.toInt - 1)))) ((owTt a2.toInt nn st (owNb a2.toInt nn (a3.toInt - 1)))) (me) (by omega) (by omega) (by omega) (by omega) (by omega) (by omega) (by omega) (by omega) (by omega) (by omega) (by omega) (by omega)) (by decide) rfl rfl rfl (Nat.le_of_ble_eq_true rfl) (oDec_at oX12_brokenBy 87 rfl) (fun u88 pu88 fu88 => ?_)
              try dsimp only at pu88
              try simp only [lk83, lk84, lk85, lk86, lk87] at pu88
              have hqa9 := pu88
              rw [hl9, owXf_e rfl rfl rfl rfl (by omega) (by omega) rfl] at hqa9
              have hq90 : owQA (owXf me a2.toInt nn st a3.toInt) (u88) := hqa9
              refine r_aload_n C (j := 0) (oDec_at oX12_brokenBy 88 rfl) rfl rfl ?_
              refine r_callVi C oCl12 rfl miX12_firstRule mlX12_457 (ct9_X12_firstRule l E (u88)  (owXf me a2.toInt nn st a3.toInt) (R) (W) (oBI_fr fu88 rfl (oBI_fr (oFr_oneI (q := 12) (m := 63) rfl (by rfl)) rfl (oBI_fr (oFr_oneI (q := 12) (m := 62) rfl (by rfl)) rfl (oBI_fr (oFr_oneI (q := 12) (m := 61) rfl (by rfl)) rfl (oBI_fr (oFr_oneI (q := 12) (m := 60) rfl (by rfl)) rfl hp3))))) (owBE_fr fu88 rfl (owBE_fr (oFr_oneI (q := 12) (m := 63) rfl (by rfl)) rfl (owBE_fr (oFr_oneI (q := 12) (m := 62) rfl (by rfl)) rfl (owBE_fr (oFr_oneI (q := 12) (m := 61) rfl (by rfl)) rfl (owBE_fr (oFr_oneI (q := 12) (m := 60) rfl (by rfl)) rfl hp4))))) (owLO_fr fu88 rfl (owLO_fr (oFr_oneI (q := 12) (m := 63) rfl (by rfl)) rfl (owLO_fr (oFr_oneI (q := 12) (m := 62) rfl (by rfl)) rfl (owLO_fr (oFr_oneI (q := 12) (m := 61) rfl (by rfl)) rfl (owLO_fr (oFr_oneI (q := 12) (m := 60) rfl (by rfl)) rfl hp6))))) hq90 hfb9) (by decide) rfl rfl rfl (Nat.le_of_ble_eq_true rfl) (oDec_at oX12_brokenBy 89 rfl) (fun r92 u91 pu91 fu91 => ?_)
              try dsimp only at pu91
              obtain ⟨pu91_0, pu91_1⟩ := pu91
              have rr92 := n_rng r92
              have hfr9 := pu91_1
              exact r_iret C (oDec_at oX12_brokenBy 90 rfl) ⟨_, rfl, ⟨by omega, ⟨fun h9 h8 => (hfr9.mp h9) h8.2, fun h9 => hfr9.mpr (fun h8 => h9 ⟨hxk9, h8⟩)⟩⟩⟩
            · skip
              refine r_iconst C (oDec_at oX12_brokenBy 84 rfl) (v := k1) (by rw [qk1]; rfl) ?_
              refine r_goto C (tgt := 153) (oDec_at oX12_brokenBy 85 rfl) (by decide) ?_
              have hl9 : k1.toInt = owXl a2.toInt nn st a3.toInt := by first | (rw [owXl_y (by omega)] <;> omega) | (rw [owXl_n hp8 (by omega) (by omega) (by omega)] <;> omega)
              have hxk9 : owXk a2.toInt nn st a3.toInt := (owXk_e hp8 hA9 hB9 (by omega)).mpr (by omega)
              have hb19 := owTt_b (c := 84) (k := owNb 84 nn a3.toInt) hp8 (by omega)
              have hb29 := owTt_b (c := a2.toInt) (k := owNb a2.toInt nn a3.toInt) hp8 (by omega)
              have hb39 := owTt_b (c := 84) (k := owNb 84 nn (a3.toInt - 1)) hp8 (by omega)
              have hb49 := owTt_b (c := a2.toInt) (k := owNb a2.toInt nn (a3.toInt - 1)) hp8 (by omega)
              have hd19 := owTt_dd (c := 84) (j := owNb 84 nn (a3.toInt - 1)) (k := owNb 84 nn a3.toInt) hp8 (by omega)
              have hd29 := owTt_dd (c := a2.toInt) (j := owNb a2.toInt nn (a3.toInt - 1)) (k := owNb a2.toInt nn a3.toInt) hp8 (by omega)
              have hmm9 : (((pI (pI (pI (pI s 71 60 r6) 71 61 r8) 71 62 r62) 71 63 r64)).1 71 53).toInt = me := (owMM_fr (oFr_oneI (q := 12) (m := 63) rfl (by rfl)) rfl (owMM_fr (oFr_oneI (q := 12) (m := 62) rfl (by rfl)) rfl (owMM_fr (oFr_oneI (q := 12) (m := 61) rfl (by rfl)) rfl (owMM_fr (oFr_oneI (q := 12) (m := 60) rfl (by rfl)) rfl hp5))))
              have hfb9 : ∀ i : Nat, i < 8 → -1000000 ≤ owXf me a2.toInt nn st a3.toInt i ∧ owXf me a2.toInt nn st a3.toInt i ≤ 1000000 := fun i hi => owXf_b hp8 (by omega) hxk9 (by omega) (by omega) i hi
              have lk93 : (((pI (pI (pI (pI s 71 60 r6) 71 61 r8) 71 62 r62) 71 63 r64)).1 71 60).toInt = r6.toInt := congrArg Int32.toInt (((pI_ne (a := 71) (b := 60) (c := 71) (k := 63) _ _ (Or.inr (by decide)))).trans (((pI_ne (a := 71) (b := 60) (c := 71) (k := 62) _ _ (Or.inr (by decide)))).trans (((pI_ne (a := 71) (b := 60) (c := 71) (k := 61) _ _ (Or.inr (by decide)))).trans ((pI_self _ _ _ _)))))
              have lk94 : (((pI (pI (pI (pI s 71 60 r6) 71 61 r8) 71 62 r62) 71 63 r64)).1 71 61).toInt = r8.toInt := congrArg Int32.toInt (((pI_ne (a := 71) (b := 61) (c := 71) (k := 63) _ _ (Or.inr (by decide)))).trans (((pI_ne (a := 71) (b := 61) (c := 71) (k := 62) _ _ (Or.inr (by decide)))).trans ((pI_self _ _ _ _))))
              have lk95 : (((pI (pI (pI (pI s 71 60 r6) 71 61 r8) 71 62 r62) 71 63 r64)).1 71 62).toInt = r62.toInt := congrArg Int32.toInt (((pI_ne (a := 71) (b := 62) (c := 71) (k := 63) _ _ (Or.inr (by decide)))).trans ((pI_self _ _ _ _)))
              have lk96 : (((pI (pI (pI (pI s 71 60 r6) 71 61 r8) 71 62 r62) 71 63 r64)).1 71 63).toInt = r64.toInt := congrArg Int32.toInt ((pI_self _ _ _ _))
              have lk97 : (((pI (pI (pI (pI s 71 60 r6) 71 61 r8) 71 62 r62) 71 63 r64)).1 71 53).toInt = (s.1 71 53).toInt := congrArg Int32.toInt (((pI_ne (a := 71) (b := 53) (c := 71) (k := 63) _ _ (Or.inr (by decide)))).trans (((pI_ne (a := 71) (b := 53) (c := 71) (k := 62) _ _ (Or.inr (by decide)))).trans (((pI_ne (a := 71) (b := 53) (c := 71) (k := 61) _ _ (Or.inr (by decide)))).trans ((pI_ne (a := 71) (b := 53) (c := 71) (k := 60) _ _ (Or.inr (by decide)))))))
              refine r_callVv C oCl12 rfl miX12_asksAll mlX12_453 (ct9_X12_asksAll l E ((pI (pI (pI (pI s 71 60 r6) 71 61 r8) 71 62 r62) 71 63 r64)) a3 k1 ((owTt 84 nn st (owNb 84 nn a3.toInt))) ((owTt a2.toInt nn st (owNb a2.toInt nn a3.toInt))) ((owTt 84 nn st (owNb 84 nn (a3.toInt - 1)))) ((owTt a2.toInt nn st (owNb a2.toInt nn (a3.toInt - 1)))) (me) (by omega) (by omega) (by omega) (by omega) (by omega) (by omega) (by omega) (by omega) (by omega) (by omega) (by omega) (by omega)) (by decide) rfl rfl rfl (Nat.le_of_ble_eq_true rfl) (oDec_at oX12_brokenBy 87 rfl) (fun u98 pu98 fu98 => ?_)
              try dsimp only at pu98
              try simp only [lk93, lk94, lk95, lk96, lk97] at pu98
              have hqa9 := pu98
              rw [hl9, owXf_e rfl rfl rfl rfl (by omega) (by omega) rfl] at hqa9
              have hq100 : owQA (owXf me a2.toInt nn st a3.toInt) (u98) := hqa9
              refine r_aload_n C (j := 0) (oDec_at oX12_brokenBy 88 rfl) rfl rfl ?_
              refine r_callVi C oCl12 rfl miX12_firstRule mlX12_457 (ct9_X12_firstRule l E (u98)  (owXf me a2.toInt nn st a3.toInt) (R) (W) (oBI_fr fu98 rfl (oBI_fr (oFr_oneI (q := 12) (m := 63) rfl (by rfl)) rfl (oBI_fr (oFr_oneI (q := 12) (m := 62) rfl (by rfl)) rfl (oBI_fr (oFr_oneI (q := 12) (m := 61) rfl (by rfl)) rfl (oBI_fr (oFr_oneI (q := 12) (m := 60) rfl (by rfl)) rfl hp3))))) (owBE_fr fu98 rfl (owBE_fr (oFr_oneI (q := 12) (m := 63) rfl (by rfl)) rfl (owBE_fr (oFr_oneI (q := 12) (m := 62) rfl (by rfl)) rfl (owBE_fr (oFr_oneI (q := 12) (m := 61) rfl (by rfl)) rfl (owBE_fr (oFr_oneI (q := 12) (m := 60) rfl (by rfl)) rfl hp4))))) (owLO_fr fu98 rfl (owLO_fr (oFr_oneI (q := 12) (m := 63) rfl (by rfl)) rfl (owLO_fr (oFr_oneI (q := 12) (m := 62) rfl (by rfl)) rfl (owLO_fr (oFr_oneI (q := 12) (m := 61) rfl (by rfl)) rfl (owLO_fr (oFr_oneI (q := 12) (m := 60) rfl (by rfl)) rfl hp6))))) hq100 hfb9) (by decide) rfl rfl rfl (Nat.le_of_ble_eq_true rfl) (oDec_at oX12_brokenBy 89 rfl) (fun r102 u101 pu101 fu101 => ?_)
              try dsimp only at pu101
              obtain ⟨pu101_0, pu101_1⟩ := pu101
              have rr102 := n_rng r102
              have hfr9 := pu101_1
              exact r_iret C (oDec_at oX12_brokenBy 90 rfl) ⟨_, rfl, ⟨by omega, ⟨fun h9 h8 => (hfr9.mp h9) h8.2, fun h9 => hfr9.mpr (fun h8 => h9 ⟨hxk9, h8⟩)⟩⟩⟩
        · skip
          refine r_iconst C (oDec_at oX12_brokenBy 52 rfl) (v := km1) (by rw [qkm1]; rfl) ?_
          exact r_iret C (oDec_at oX12_brokenBy 53 rfl) ⟨_, rfl, ⟨by omega, ⟨fun _ h9 => absurd ((owXk_e hp8 hA9 hB9 (by omega)).mp h9.1) (by omega), fun _ => by omega⟩⟩⟩
    · skip
      refine r_iconst C (oDec_at oX12_brokenBy 30 rfl) (v := km1) (by rw [qkm1]; rfl) ?_
      exact r_iret C (oDec_at oX12_brokenBy 31 rfl) ⟨_, rfl, ⟨by omega, ⟨fun _ h9 => absurd ((owXk_e hp8 hA9 hB9 (by omega)).mp h9.1) (by omega), fun _ => by omega⟩⟩⟩
