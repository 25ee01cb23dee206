set_option maxHeartbeats 4000000 in
set_option maxRecDepth 100000 in
theorem ct5_X5_wordAhead (l : Launch) (E : oE) (s : oS)  (g : Int → Int) (a : Int) (b : Int) (hp0 : (s.1 30 2).toInt = a) (hp1 : (s.1 30 3).toInt = b) (hp2 : oqX g s) : oMet l 5 yX5_wordAhead cX5_wordAhead 3 (some .int) [(5, 2), (5, 4)] E s [.ref (oad E 30)] (oPi (fun r u => ((u.1 30 2).toInt = oqSk g a) ∧ (a ≤ oqSk g a) ∧ (∀ i : Nat, i < 26 → (r.toInt = (i : Int) ↔ oqH g a b i = 1)) ∧ (0 ≤ r.toInt → (u.1 30 4).toInt = oqSk g a + (oqWl r.toInt.toNat : Int)) ∧ (-1 ≤ r.toInt ∧ r.toInt ≤ 25) ∧ (g (oqSk g a) ≠ 32 ∧ g (oqSk g a) ≠ 10) ∧ (97 ≤ g (oqSk g a) ∧ g (oqSk g a) ≤ 122 → oqSk g a ≠ b → (u.1 30 4).toInt = oqWe g (oqSk g a)))) := by
  refine oMet.of (lv := [(0, .ref (oad E 30))]) (by decide +kernel) (Nat.le_of_ble_eq_true rfl) rfl (fun J C hT => ?_)
  have C : oC l 5 cX5_wordAhead RX5 3 (some .int) [(5, 2), (5, 4)] E s (oPi (fun r u => ((u.1 30 2).toInt = oqSk g a) ∧ (a ≤ oqSk g a) ∧ (∀ i : Nat, i < 26 → (r.toInt = (i : Int) ↔ oqH g a b i = 1)) ∧ (0 ≤ r.toInt → (u.1 30 4).toInt = oqSk g a + (oqWl r.toInt.toNat : Int)) ∧ (-1 ≤ r.toInt ∧ r.toInt ≤ 25) ∧ (g (oqSk g a) ≠ 32 ∧ g (oqSk g a) ≠ 10) ∧ (97 ≤ g (oqSk g a) ∧ g (oqSk g a) ≤ 122 → oqSk g a ≠ b → (u.1 30 4).toInt = oqWe g (oqSk g a)))) J := C
  obtain ⟨km1, qkm1⟩ : ∃ z : Int32, z = (-1) := ⟨_, rfl⟩
  have ekm1 : km1.toInt = (-1) := by rw [qkm1]; rfl
  obtain ⟨k0, qk0⟩ : ∃ z : Int32, z = 0 := ⟨_, rfl⟩
  have ek0 : k0.toInt = 0 := by rw [qk0]; rfl
  obtain ⟨k1, qk1⟩ : ∃ z : Int32, z = 1 := ⟨_, rfl⟩
  have ek1 : k1.toInt = 1 := by rw [qk1]; rfl
  obtain ⟨k7, qk7⟩ : ∃ z : Int32, z = 7 := ⟨_, rfl⟩
  have ek7 : k7.toInt = 7 := by rw [qk7]; rfl
  obtain ⟨k32, qk32⟩ : ∃ z : Int32, z = 32 := ⟨_, rfl⟩
  have ek32 : k32.toInt = 32 := by rw [qk32]; rfl
  have key : ∀ n : Nat, (∀ (t : oS), (oqX g t) → ((t.1 30 2).toInt = oqSk g a) → ((t.1 30 3).toInt = b) → (a ≤ oqSk g a) → (oqSk g a ≠ b) → ((t.1 30 2).toInt ≤ (t.1 30 4).toInt) → (oqRun g (oqSk g a) (t.1 30 4).toInt) → (97 ≤ g (oqSk g a) ∧ g (oqSk g a) ≤ 122) → ((t.1 30 4).toInt ≤ 1600) → (g (oqSk g a) ≠ 32 ∧ g (oqSk g a) ≠ 10) → 11601 - (t.1 30 4).toInt ≤ (n : Int) → J t 31 [(0, .ref (oad E 30))] []) ∧ (∀ (t : oS) (x1 : Int32), (oqX g t) → ((t.1 30 2).toInt = oqSk g a) → ((t.1 30 3).toInt = b) → (a ≤ oqSk g a) → (oqSk g a ≠ b) → ((t.1 30 2).toInt ≤ (t.1 30 4).toInt) → (oqRun g (oqSk g a) (t.1 30 4).toInt) → (¬ (97 ≤ g (t.1 30 4).toInt ∧ g (t.1 30 4).toInt ≤ 122)) → (0 ≤ x1.toInt ∧ x1.toInt ≤ 182 ∧ x1.toInt % 7 = 0) → (oqNo g (oqSk g a) x1.toInt) → (g (oqSk g a) ≠ 32 ∧ g (oqSk g a) ≠ 10) → 5000 - 10 * x1.toInt ≤ (n : Int) → J t 77 [(0, .ref (oad E 30)), (1, .int x1)] []) ∧ (∀ (t : oS) (x1 : Int32) (x2 : Int32), (oqX g t) → ((t.1 30 2).toInt = oqSk g a) → ((t.1 30 3).toInt = b) → (a ≤ oqSk g a) → (oqSk g a ≠ b) → ((t.1 30 2).toInt ≤ (t.1 30 4).toInt) → (oqRun g (oqSk g a) (t.1 30 4).toInt) → (¬ (97 ≤ g (t.1 30 4).toInt ∧ g (t.1 30 4).toInt ≤ 122)) → (0 ≤ x1.toInt ∧ x1.toInt ≤ 175 ∧ x1.toInt % 7 = 0) → (oqNo g (oqSk g a) x1.toInt) → ((t.1 30 4).toInt - (t.1 30 2).toInt ≤ 7) → (0 ≤ x2.toInt ∧ x2.toInt ≤ 7) → (g (oqSk g a) ≠ 32 ∧ g (oqSk g a) ≠ 10) → (oqMt g (oqSk g a) (t.1 30 4).toInt (x1.toNatClampNeg / 7) x2.toInt) → 5000 - 10 * x1.toInt - 1 - x2.toInt ≤ (n : Int) → J t 105 [(0, .ref (oad E 30)), (1, .int x1), (2, .int x2)] []) := by
    intro n
    induction n using Nat.strongRecOn with
    | _ n ih =>
      refine ⟨?_, ?_, ?_⟩
      · intro t   iv0 iv1 iv2 iv3 iv4 iv5 iv6 iv7 iv8 iv9 hmu
        refine r_aload_n C (j := 0) (oDec_at oX5_wordAhead 15 rfl) rfl rfl ?_
        obtain ⟨v1, ev1⟩ : ∃ z : Int32, (t).1 30 4 = z := ⟨_, rfl⟩
        have gv1 : (t.1 30 4).toInt = v1.toInt := congrArg Int32.toInt (ev1)
        refine r_geti (k := 4) (lo := 0) (hi := 1600) C v1 oCl5 rfl (by decide) flX5_130 rfl rfl (ev1) rfl rfl (oDec_at oX5_wordAhead 16 rfl) (fun b2 b2h => ?_)
        refine r_aload_n C (j := 0) (oDec_at oX5_wordAhead 17 rfl) rfl rfl ?_
        refine r_getF (k := 0) (b := 1) C oCl5 rfl (by decide) flX5_15 rfl rfl rfl (oDec_at oX5_wordAhead 18 rfl) ?_
        obtain ⟨v3, ev3⟩ : ∃ z : Int32, (t).1 1 1 = z := ⟨_, rfl⟩
        have gv3 : (t.1 1 1).toInt = v3.toInt := congrArg Int32.toInt (ev3)
        refine r_getiN (k := 1) (lo := 0) (hi := 1600) C v3 oCl8 rfl (by decide) flX5_175 rfl rfl (ev3) rfl rfl (oDec_at oX5_wordAhead 19 rfl) (fun b4 b4h => ?_)
        refine r_icmp_ge C 75 (oDec_at oX5_wordAhead 20 rfl) (by decide) (fun cd5 => ?_) (fun cd5 => ?_)
        · skip
          have hnl : ¬ (97 ≤ g (t.1 30 4).toInt ∧ g (t.1 30 4).toInt ≤ 122) := by first | omega | (have h9 := oqX_no iv0 (a := (t.1 30 4).toInt) (by omega); omega)
          refine r_iconst C (oDec_at oX5_wordAhead 35 rfl) (v := k0) (by rw [qk0]; rfl) ?_
          refine r_istore_n C (lv' := [(0, .ref (oad E 30)), (1, .int k0)]) [1, 0] (oDec_at oX5_wordAhead 36 rfl) rfl (by decide) rfl ?_
          have lk6 : ((t).1 30 4).toInt = v1.toInt := congrArg Int32.toInt (ev1)
          exact (ih (n - 1) (by omega)).2.1 (t) k0  iv0 (by omega) (by omega) (by omega) (by omega) (by omega) (by first | exact iv6 | exact iv7) (by first | exact iv7 | exact hnl) (by omega) (by first | exact oqNo_0 (by omega)) (by omega) (by omega)
        · skip
          refine r_aload_n C (j := 0) (oDec_at oX5_wordAhead 21 rfl) rfl rfl ?_
          refine r_getF (k := 0) (b := 1) C oCl5 rfl (by decide) flX5_15 rfl rfl rfl (oDec_at oX5_wordAhead 22 rfl) ?_
          refine r_aload_n C (j := 0) (oDec_at oX5_wordAhead 23 rfl) rfl rfl ?_
          refine r_geti (k := 4) (lo := 0) (hi := 1600) C v1 oCl5 rfl (by decide) flX5_130 rfl rfl (ev1) rfl rfl (oDec_at oX5_wordAhead 24 rfl) (fun _ _ => ?_)
          have lk7 : ((t).1 1 1).toInt = v3.toInt := congrArg Int32.toInt (ev3)
          have lk8 : ((t).1 1 1).toInt = v3.toInt := congrArg Int32.toInt (ev3)
          refine r_callVi C oCl8 rfl miX8_at mlX5_133 (ct4_X8_at l E (t) v1 (g) ((t.1 30 4).toInt) (by omega) iv0) (by decide) rfl rfl rfl (Nat.le_of_ble_eq_true rfl) (oDec_at oX5_wordAhead 25 rfl) (fun r10 u9 pu9 fu9 => ?_)
          try dsimp only at pu9
          try simp only [lk7, lk8] at pu9
          obtain ⟨pu9_0, pu9_1, pu9_2, pu9_3⟩ := pu9
          have hxu9 := oFr_nil fu9; subst hxu9
          have rr10 := n_rng r10
          refine r_callSi C miX5_isLetter mlX5_127 (ct_X5_isLetter l E (t) r10 ) (by decide) rfl rfl rfl (Nat.le_of_ble_eq_true rfl) (oDec_at oX5_wordAhead 26 rfl) (fun r12 u11 pu11 fu11 => ?_)
          try dsimp only at pu11
          obtain ⟨pu11_0, pu11_1⟩ := pu11
          have hxu11 := oFr_nil fu11; subst hxu11
          have rr12 := n_rng r12
          refine r_pc C 59 rfl ?_
          refine r_if_eq C 75 (oDec_at oX5_wordAhead 27 rfl) (by decide) (fun cd13 => ?_) (fun cd13 => ?_)
          · skip
            have hnl : ¬ (97 ≤ g (t.1 30 4).toInt ∧ g (t.1 30 4).toInt ≤ 122) := by first | omega | (have h9 := oqX_no iv0 (a := (t.1 30 4).toInt) (by omega); omega)
            refine r_iconst C (oDec_at oX5_wordAhead 35 rfl) (v := k0) (by rw [qk0]; rfl) ?_
            refine r_istore_n C (lv' := [(0, .ref (oad E 30)), (1, .int k0)]) [1, 0] (oDec_at oX5_wordAhead 36 rfl) rfl (by decide) rfl ?_
            have lk14 : ((t).1 30 4).toInt = v1.toInt := congrArg Int32.toInt (ev1)
            exact (ih (n - 1) (by omega)).2.1 (t) k0  iv0 (by omega) (by omega) (by omega) (by omega) (by omega) (by first | exact iv6 | exact iv7) (by first | exact iv7 | exact hnl) (by omega) (by first | exact oqNo_0 (by omega)) (by omega) (by omega)
          · skip
            refine r_aload_n C (j := 0) (oDec_at oX5_wordAhead 28 rfl) rfl rfl ?_
            refine r_dup C (oDec_at oX5_wordAhead 29 rfl) rfl ?_
            refine r_geti (k := 4) (lo := 0) (hi := 1600) C v1 oCl5 rfl (by decide) flX5_130 rfl rfl (ev1) rfl rfl (oDec_at oX5_wordAhead 30 rfl) (fun _ _ => ?_)
            refine r_iconst C (oDec_at oX5_wordAhead 31 rfl) (v := k1) (by rw [qk1]; rfl) ?_
            obtain ⟨v15, ev15⟩ : ∃ z : Int32, z = v1 + k1 := ⟨_, rfl⟩
            have hv15 : v15.toInt = v1.toInt + k1.toInt := n_add ev15 (by omega) (by omega)
            refine r_iadd C v15 (oDec_at oX5_wordAhead 32 rfl) ev15 ?_
            refine r_puti (k := 4) (lo := 0) (hi := 1600) C oCl5 rfl (by decide) flX5_130 rfl rfl rfl rfl rfl rfl rfl rfl ⟨by omega, by omega⟩ (oDec_at oX5_wordAhead 33 rfl) ?_
            refine r_pc C 72 rfl ?_
            refine r_goto C (tgt := 31) (oDec_at oX5_wordAhead 34 rfl) (by decide) ?_
            have lk16 : (((pI t 30 4 v15)).1 30 2).toInt = (t.1 30 2).toInt := congrArg Int32.toInt ((pI_ne (a := 30) (b := 2) (c := 30) (k := 4) _ _ (Or.inr (by decide))))
            have lk17 : (((pI t 30 4 v15)).1 30 3).toInt = (t.1 30 3).toInt := congrArg Int32.toInt ((pI_ne (a := 30) (b := 3) (c := 30) (k := 4) _ _ (Or.inr (by decide))))
            have lk18 : (((pI t 30 4 v15)).1 30 2).toInt = (t.1 30 2).toInt := congrArg Int32.toInt ((pI_ne (a := 30) (b := 2) (c := 30) (k := 4) _ _ (Or.inr (by decide))))
            have lk19 : (((pI t 30 4 v15)).1 30 4).toInt = v15.toInt := congrArg Int32.toInt ((pI_self _ _ _ _))
            have lk20 : (((pI t 30 4 v15)).1 30 4).toInt = v15.toInt := congrArg Int32.toInt ((pI_self _ _ _ _))
            have lk21 : (((pI t 30 4 v15)).1 30 4).toInt = v15.toInt := congrArg Int32.toInt ((pI_self _ _ _ _))
            exact (ih (n - 1) (by omega)).1 ((pI t 30 4 v15))   (oqX_fr (oFr_oneI (q := 5) (m := 4) rfl (by rfl)) rfl iv0) (by omega) (by omega) (by omega) (by omega) (by omega) (by first | exact oqRun_nx iv6 (by omega) (by omega) | (rw [show (((pI t 30 4 v15)).1 30 4).toInt = oqSk g a by omega]; exact oqRun_0)) (by omega) (by omega) (by omega) (by omega)
      · intro t x1  iv0 iv1 iv2 iv3 iv4 iv5 iv6 iv7 iv8 iv9 iv10 hmu
        have rx1 := n_rng x1
        have hn1 := n_nat x1
        refine r_iload_n C (j := 1) (oDec_at oX5_wordAhead 37 rfl) rfl rfl ?_
        refine r_bipush C (oDec_at oX5_wordAhead 38 rfl) (v := k7) (by rw [qk7]; rfl) ?_
        obtain ⟨v22, ev22⟩ : ∃ z : Int32, z = x1 + k7 := ⟨_, rfl⟩
        have hv22 : v22.toInt = x1.toInt + k7.toInt := n_add ev22 (by omega) (by omega)
        refine r_iadd C v22 (oDec_at oX5_wordAhead 39 rfl) ev22 ?_
        refine r_ldcS C (oDec_at oX5_wordAhead 40 rfl) ?_
        refine r_callKi C miJ0_length_8abf5 mlX5_178 (ct_J0_length_8abf5 l E (t)  ) (by decide) rfl rfl rfl (Nat.le_of_ble_eq_true rfl) (oDec_at oX5_wordAhead 41 rfl) (fun r23 u24 pu24 fu24 => ?_)
        try dsimp only at pu24
        have rr23 := n_rng r23
        have hxu24 := oFr_nil fu24; subst hxu24
        refine r_icmp_gt C 176 (oDec_at oX5_wordAhead 42 rfl) (by decide) (fun cd25 => ?_) (fun cd25 => ?_)
        · skip
          refine r_ty C (fun hty => ?_)
          have htw : (0 : Int) ≤ ((t).1 30 4).toInt ∧ ((t).1 30 4).toInt ≤ 1600 := hty.1 30 4
          have hta : (0 : Int) ≤ ((t).1 30 2).toInt ∧ ((t).1 30 2).toInt ≤ 1600 := hty.1 30 2
          clear hty
          refine r_iconst C (oDec_at oX5_wordAhead 88 rfl) (v := km1) (by rw [qkm1]; rfl) ?_
          exact r_iret C (oDec_at oX5_wordAhead 89 rfl) ⟨_, rfl, ⟨by omega, by omega, by first | exact oqW_no (by omega) (fun i hi h => iv9 i (by omega) hi h.1) | exact oqW_no (by omega) (fun i hi h => by have h9 := oqIs_W hi h.1 iv6 iv7 (by omega); have h8 := oq_w1 i hi; omega), fun h => by omega, by omega, by omega, fun _ _ => (oqWe_of (by omega) iv6 iv7 (by omega)).symm⟩⟩
        · skip
          refine r_aload_n C (j := 0) (oDec_at oX5_wordAhead 43 rfl) rfl rfl ?_
          obtain ⟨v26, ev26⟩ : ∃ z : Int32, (t).1 30 4 = z := ⟨_, rfl⟩
          have gv26 : (t.1 30 4).toInt = v26.toInt := congrArg Int32.toInt (ev26)
          refine r_geti (k := 4) (lo := 0) (hi := 1600) C v26 oCl5 rfl (by decide) flX5_130 rfl rfl (ev26) rfl rfl (oDec_at oX5_wordAhead 44 rfl) (fun b27 b27h => ?_)
          refine r_aload_n C (j := 0) (oDec_at oX5_wordAhead 45 rfl) rfl rfl ?_
          obtain ⟨v28, ev28⟩ : ∃ z : Int32, (t).1 30 2 = z := ⟨_, rfl⟩
          have gv28 : (t.1 30 2).toInt = v28.toInt := congrArg Int32.toInt (ev28)
          refine r_geti (k := 2) (lo := 0) (hi := 1600) C v28 oCl5 rfl (by decide) flX5_23 rfl rfl (ev28) rfl rfl (oDec_at oX5_wordAhead 46 rfl) (fun b29 b29h => ?_)
          obtain ⟨v30, ev30⟩ : ∃ z : Int32, z = v26 - v28 := ⟨_, rfl⟩
          have hv30 : v30.toInt = v26.toInt - v28.toInt := n_sub ev30 (by omega) (by omega)
          refine r_isub C v30 (oDec_at oX5_wordAhead 47 rfl) ev30 ?_
          refine r_bipush C (oDec_at oX5_wordAhead 48 rfl) (v := k7) (by rw [qk7]; rfl) ?_
          refine r_pc C 100 rfl ?_
          refine r_icmp_gt C 176 (oDec_at oX5_wordAhead 49 rfl) (by decide) (fun cd31 => ?_) (fun cd31 => ?_)
          · skip
            refine r_ty C (fun hty => ?_)
            have htw : (0 : Int) ≤ ((t).1 30 4).toInt ∧ ((t).1 30 4).toInt ≤ 1600 := hty.1 30 4
            have hta : (0 : Int) ≤ ((t).1 30 2).toInt ∧ ((t).1 30 2).toInt ≤ 1600 := hty.1 30 2
            clear hty
            refine r_iconst C (oDec_at oX5_wordAhead 88 rfl) (v := km1) (by rw [qkm1]; rfl) ?_
            have lk32 : ((t).1 30 2).toInt = v28.toInt := congrArg Int32.toInt (ev28)
            exact r_iret C (oDec_at oX5_wordAhead 89 rfl) ⟨_, rfl, ⟨by omega, by omega, by first | exact oqW_no (by omega) (fun i hi h => iv9 i (by omega) hi h.1) | exact oqW_no (by omega) (fun i hi h => by have h9 := oqIs_W hi h.1 iv6 iv7 (by omega); have h8 := oq_w1 i hi; omega), fun h => by omega, by omega, by omega, fun _ _ => (oqWe_of (by omega) iv6 iv7 (by omega)).symm⟩⟩
          · skip
            refine r_iconst C (oDec_at oX5_wordAhead 50 rfl) (v := k0) (by rw [qk0]; rfl) ?_
            refine r_istore_n C (lv' := [(0, .ref (oad E 30)), (1, .int x1), (2, .int k0)]) [1, 2, 0] (oDec_at oX5_wordAhead 51 rfl) rfl (by decide) rfl ?_
            have lk33 : ((t).1 30 2).toInt = v28.toInt := congrArg Int32.toInt (ev28)
            have lk34 : ((t).1 30 2).toInt = v28.toInt := congrArg Int32.toInt (ev28)
            have lk35 : ((t).1 30 4).toInt = v26.toInt := congrArg Int32.toInt (ev26)
            have lk36 : ((t).1 30 4).toInt = v26.toInt := congrArg Int32.toInt (ev26)
            have lk37 : ((t).1 30 2).toInt = v28.toInt := congrArg Int32.toInt (ev28)
            exact (ih (n - 1) (by omega)).2.2 (t) x1 k0  iv0 (by omega) (by omega) (by omega) (by omega) (by omega) (by first | exact iv6 | exact iv7) (by first | exact iv7 | exact hnl) (by omega) (by exact iv9) (by omega) (by omega) (by omega) (by first | exact oqMt_0 (by omega)) (by omega)
      · intro t x1 x2  iv0 iv1 iv2 iv3 iv4 iv5 iv6 iv7 iv8 iv9 iv10 iv11 iv12 iv13 hmu
        have rx1 := n_rng x1
        have rx2 := n_rng x2
        have hn1 := n_nat x1
        have hn2 := n_nat x2
        refine r_iload_n C (j := 2) (oDec_at oX5_wordAhead 52 rfl) rfl rfl ?_
        refine r_bipush C (oDec_at oX5_wordAhead 53 rfl) (v := k7) (by rw [qk7]; rfl) ?_
        refine r_icmp_ge C 159 (oDec_at oX5_wordAhead 54 rfl) (by decide) (fun cd38 => ?_) (fun cd38 => ?_)
        · skip
          have hmm : x2.toInt = 7 ∨ ¬ oqIs g (oqSk g a) (x1.toNatClampNeg / 7) := by first | (left; omega) | (right; intro h; have h9 := oqIs_mt (j := x2.toNatClampNeg) (by omega) (by omega) h iv6 iv7 (by omega); first | (rw [if_pos (by omega)] at h9; omega) | (rw [if_neg (by omega)] at h9; omega))
          refine r_iload_n C (j := 2) (oDec_at oX5_wordAhead 79 rfl) rfl rfl ?_
          refine r_bipush C (oDec_at oX5_wordAhead 80 rfl) (v := k7) (by rw [qk7]; rfl) ?_
          refine r_icmp_ne C 170 (oDec_at oX5_wordAhead 81 rfl) (by decide) (fun cd39 => ?_) (fun cd39 => ?_)
          · skip
            obtain ⟨v40, ev40⟩ : ∃ z : Int32, x1 + Int32.ofInt 7 = z := ⟨_, rfl⟩
            have hv40 : v40.toInt = x1.toInt + 7 := n_inc ev40 (by decide) (by omega) (by omega)
            refine r_iinc C (j := 1) (lv' := [(0, .ref (oad E 30)), (1, .int v40), (2, .int x2)]) v40 [1, 0, 2] (oDec_at oX5_wordAhead 86 rfl) rfl ev40 (by decide) rfl ?_
            refine r_goto C (tgt := 77) (oDec_at oX5_wordAhead 87 rfl) (by decide) ?_
            refine r_pick C [0, 1] rfl ?_
            exact (ih (n - 1) (by omega)).2.1 (t) v40  iv0 (by omega) (by omega) (by omega) (by omega) (by omega) (by first | exact iv6 | exact iv7) (by first | exact iv7 | exact hnl) (by omega) (by first | exact oqNo_nx (i0 := x1.toNatClampNeg / 7) iv9 (by omega) (by omega) (hmm.resolve_left (by omega)) | exact oqNo_0 (by omega)) (by omega) (by omega)
          · skip
            have his : oqIs g (oqSk g a) (x1.toNatClampNeg / 7) := oqMt_is (by omega) iv13 (by omega) iv6 iv7 (by omega) (by omega)
            have hws := oqIs_W (by omega) his iv6 iv7 (by omega)
            refine r_ty C (fun hty => ?_)
            have htw : (0 : Int) ≤ ((t).1 30 4).toInt ∧ ((t).1 30 4).toInt ≤ 1600 := hty.1 30 4
            have hta : (0 : Int) ≤ ((t).1 30 2).toInt ∧ ((t).1 30 2).toInt ≤ 1600 := hty.1 30 2
            clear hty
            refine r_iload_n C (j := 1) (oDec_at oX5_wordAhead 82 rfl) rfl rfl ?_
            refine r_bipush C (oDec_at oX5_wordAhead 83 rfl) (v := k7) (by rw [qk7]; rfl) ?_
            obtain ⟨v41, ev41⟩ : ∃ z : Int32, z = x1 / k7 := ⟨_, rfl⟩
            have hv41 := n_divP (k := 7) ev41 ek7 (by decide)
            have rv41 := n_rng v41
            refine r_idiv C v41 (oDec_at oX5_wordAhead 84 rfl) (n_ne0 (by omega)) ev41 ?_
            exact r_iret C (oDec_at oX5_wordAhead 85 rfl) ⟨_, rfl, ⟨by omega, by omega, oqW_yes (i0 := x1.toNatClampNeg / 7) (by omega) (by omega) his (by omega), oqW_ws (i0 := x1.toNatClampNeg / 7) (by omega) (by omega), by omega, by omega, fun _ _ => (oqWe_of (by omega) iv6 iv7 (by omega)).symm⟩⟩
        · skip
          refine r_ldcS C (oDec_at oX5_wordAhead 55 rfl) ?_
          refine r_iload_n C (j := 1) (oDec_at oX5_wordAhead 56 rfl) rfl rfl ?_
          refine r_iload_n C (j := 2) (oDec_at oX5_wordAhead 57 rfl) rfl rfl ?_
          obtain ⟨v42, ev42⟩ : ∃ z : Int32, z = x1 + x2 := ⟨_, rfl⟩
          have hv42 : v42.toInt = x1.toInt + x2.toInt := n_add ev42 (by omega) (by omega)
          refine r_iadd C v42 (oDec_at oX5_wordAhead 58 rfl) ev42 ?_
          refine r_callKi C miJ0_charAt_5068e mlX5_182 (ct_J0_charAt_5068e l E (t) v42 (by omega) (by omega)) (by decide) rfl rfl rfl (Nat.le_of_ble_eq_true rfl) (oDec_at oX5_wordAhead 59 rfl) (fun r43 u44 pu44 fu44 => ?_)
          try dsimp only at pu44
          have rr43 := n_rng r43
          have hxu44 := oFr_nil fu44; subst hxu44
          have hch := oq_ch (i := x1.toNatClampNeg / 7) (j := x2.toNatClampNeg) pu44 (by omega) (by omega) (by omega)
          refine r_aload_n C (j := 0) (oDec_at oX5_wordAhead 60 rfl) rfl rfl ?_
          obtain ⟨v45, ev45⟩ : ∃ z : Int32, (t).1 30 2 = z := ⟨_, rfl⟩
          have gv45 : (t.1 30 2).toInt = v45.toInt := congrArg Int32.toInt (ev45)
          refine r_geti (k := 2) (lo := 0) (hi := 1600) C v45 oCl5 rfl (by decide) flX5_23 rfl rfl (ev45) rfl rfl (oDec_at oX5_wordAhead 61 rfl) (fun b46 b46h => ?_)
          refine r_pc C 123 rfl ?_
          refine r_iload_n C (j := 2) (oDec_at oX5_wordAhead 62 rfl) rfl rfl ?_
          obtain ⟨v47, ev47⟩ : ∃ z : Int32, z = v45 + x2 := ⟨_, rfl⟩
          have hv47 : v47.toInt = v45.toInt + x2.toInt := n_add ev47 (by omega) (by omega)
          refine r_iadd C v47 (oDec_at oX5_wordAhead 63 rfl) ev47 ?_
          refine r_aload_n C (j := 0) (oDec_at oX5_wordAhead 64 rfl) rfl rfl ?_
          obtain ⟨v48, ev48⟩ : ∃ z : Int32, (t).1 30 4 = z := ⟨_, rfl⟩
          have gv48 : (t.1 30 4).toInt = v48.toInt := congrArg Int32.toInt (ev48)
          refine r_geti (k := 4) (lo := 0) (hi := 1600) C v48 oCl5 rfl (by decide) flX5_130 rfl rfl (ev48) rfl rfl (oDec_at oX5_wordAhead 65 rfl) (fun b49 b49h => ?_)
          refine r_icmp_ge C 148 (oDec_at oX5_wordAhead 66 rfl) (by decide) (fun cd50 => ?_) (fun cd50 => ?_)
          · skip
            refine r_bipush C (oDec_at oX5_wordAhead 75 rfl) (v := k32) (by rw [qk32]; rfl) ?_
            refine r_icmp_ne C 159 (oDec_at oX5_wordAhead 76 rfl) (by decide) (fun cd51 => ?_) (fun cd51 => ?_)
            · skip
              have hmm : x2.toInt = 7 ∨ ¬ oqIs g (oqSk g a) (x1.toNatClampNeg / 7) := by first | (left; omega) | (right; intro h; have h9 := oqIs_mt (j := x2.toNatClampNeg) (by omega) (by omega) h iv6 iv7 (by omega); first | (rw [if_pos (by omega)] at h9; omega) | (rw [if_neg (by omega)] at h9; omega))
              refine r_iload_n C (j := 2) (oDec_at oX5_wordAhead 79 rfl) rfl rfl ?_
              refine r_bipush C (oDec_at oX5_wordAhead 80 rfl) (v := k7) (by rw [qk7]; rfl) ?_
              refine r_icmp_ne C 170 (oDec_at oX5_wordAhead 81 rfl) (by decide) (fun cd52 => ?_) (fun cd52 => ?_)
              · skip
                obtain ⟨v53, ev53⟩ : ∃ z : Int32, x1 + Int32.ofInt 7 = z := ⟨_, rfl⟩
                have hv53 : v53.toInt = x1.toInt + 7 := n_inc ev53 (by decide) (by omega) (by omega)
                refine r_iinc C (j := 1) (lv' := [(0, .ref (oad E 30)), (1, .int v53), (2, .int x2)]) v53 [1, 0, 2] (oDec_at oX5_wordAhead 86 rfl) rfl ev53 (by decide) rfl ?_
                refine r_goto C (tgt := 77) (oDec_at oX5_wordAhead 87 rfl) (by decide) ?_
                have lk54 : ((t).1 30 2).toInt = v45.toInt := congrArg Int32.toInt (ev45)
                have lk55 : ((t).1 30 2).toInt = v45.toInt := congrArg Int32.toInt (ev45)
                have lk56 : ((t).1 30 4).toInt = v48.toInt := congrArg Int32.toInt (ev48)
                refine r_pick C [0, 1] rfl ?_
                exact (ih (n - 1) (by omega)).2.1 (t) v53  iv0 (by omega) (by omega) (by omega) (by omega) (by omega) (by first | exact iv6 | exact iv7) (by first | exact iv7 | exact hnl) (by omega) (by first | exact oqNo_nx (i0 := x1.toNatClampNeg / 7) iv9 (by omega) (by omega) (hmm.resolve_left (by omega)) | exact oqNo_0 (by omega)) (by omega) (by omega)
              · skip
                have his : oqIs g (oqSk g a) (x1.toNatClampNeg / 7) := oqMt_is (by omega) iv13 (by omega) iv6 iv7 (by omega) (by omega)
                have hws := oqIs_W (by omega) his iv6 iv7 (by omega)
                refine r_ty C (fun hty => ?_)
                have htw : (0 : Int) ≤ ((t).1 30 4).toInt ∧ ((t).1 30 4).toInt ≤ 1600 := hty.1 30 4
                have hta : (0 : Int) ≤ ((t).1 30 2).toInt ∧ ((t).1 30 2).toInt ≤ 1600 := hty.1 30 2
                clear hty
                refine r_iload_n C (j := 1) (oDec_at oX5_wordAhead 82 rfl) rfl rfl ?_
                refine r_bipush C (oDec_at oX5_wordAhead 83 rfl) (v := k7) (by rw [qk7]; rfl) ?_
                obtain ⟨v57, ev57⟩ : ∃ z : Int32, z = x1 / k7 := ⟨_, rfl⟩
                have hv57 := n_divP (k := 7) ev57 ek7 (by decide)
                have rv57 := n_rng v57
                refine r_idiv C v57 (oDec_at oX5_wordAhead 84 rfl) (n_ne0 (by omega)) ev57 ?_
                have lk58 : ((t).1 30 2).toInt = v45.toInt := congrArg Int32.toInt (ev45)
                exact r_iret C (oDec_at oX5_wordAhead 85 rfl) ⟨_, rfl, ⟨by omega, by omega, oqW_yes (i0 := x1.toNatClampNeg / 7) (by omega) (by omega) his (by omega), oqW_ws (i0 := x1.toNatClampNeg / 7) (by omega) (by omega), by omega, by omega, fun _ _ => (oqWe_of (by omega) iv6 iv7 (by omega)).symm⟩⟩
            · skip
              obtain ⟨v59, ev59⟩ : ∃ z : Int32, x2 + Int32.ofInt 1 = z := ⟨_, rfl⟩
              have hv59 : v59.toInt = x2.toInt + 1 := n_inc ev59 (by decide) (by omega) (by omega)
              refine r_iinc C (j := 2) (lv' := [(0, .ref (oad E 30)), (1, .int x1), (2, .int v59)]) v59 [1, 2, 0] (oDec_at oX5_wordAhead 77 rfl) rfl ev59 (by decide) rfl ?_
              refine r_goto C (tgt := 105) (oDec_at oX5_wordAhead 78 rfl) (by decide) ?_
              have lk60 : ((t).1 30 2).toInt = v45.toInt := congrArg Int32.toInt (ev45)
              have lk61 : ((t).1 30 2).toInt = v45.toInt := congrArg Int32.toInt (ev45)
              have lk62 : ((t).1 30 4).toInt = v48.toInt := congrArg Int32.toInt (ev48)
              have lk63 : ((t).1 30 4).toInt = v48.toInt := congrArg Int32.toInt (ev48)
              have lk64 : ((t).1 30 2).toInt = v45.toInt := congrArg Int32.toInt (ev45)
              exact (ih (n - 1) (by omega)).2.2 (t) x1 v59  iv0 (by omega) (by omega) (by omega) (by omega) (by omega) (by first | exact iv6 | exact iv7) (by first | exact iv7 | exact hnl) (by omega) (by exact iv9) (by omega) (by omega) (by omega) (by first | exact oqMt_nx (k := x2.toNatClampNeg) iv13 (by omega) (by omega) (by first | (rw [if_pos (by omega)]; omega) | (rw [if_neg (by omega)]; omega)) | exact oqMt_0 (by omega)) (by omega)
          · skip
            refine r_aload_n C (j := 0) (oDec_at oX5_wordAhead 67 rfl) rfl rfl ?_
            refine r_getF (k := 0) (b := 1) C oCl5 rfl (by decide) flX5_15 rfl rfl rfl (oDec_at oX5_wordAhead 68 rfl) ?_
            refine r_aload_n C (j := 0) (oDec_at oX5_wordAhead 69 rfl) rfl rfl ?_
            refine r_geti (k := 2) (lo := 0) (hi := 1600) C v45 oCl5 rfl (by decide) flX5_23 rfl rfl (ev45) rfl rfl (oDec_at oX5_wordAhead 70 rfl) (fun _ _ => ?_)
            refine r_iload_n C (j := 2) (oDec_at oX5_wordAhead 71 rfl) rfl rfl ?_
            obtain ⟨v65, ev65⟩ : ∃ z : Int32, z = v45 + x2 := ⟨_, rfl⟩
            have hv65 : v65.toInt = v45.toInt + x2.toInt := n_add ev65 (by omega) (by omega)
            refine r_iadd C v65 (oDec_at oX5_wordAhead 72 rfl) ev65 ?_
            refine r_pc C 142 rfl ?_
            refine r_callVi C oCl8 rfl miX8_at mlX5_133 (ct4_X8_at l E (t) v65 (g) (oqSk g a + (x2.toNatClampNeg : Int)) (by omega) iv0) (by decide) rfl rfl rfl (Nat.le_of_ble_eq_true rfl) (oDec_at oX5_wordAhead 73 rfl) (fun r67 u66 pu66 fu66 => ?_)
            try dsimp only at pu66
            obtain ⟨pu66_0, pu66_1, pu66_2, pu66_3⟩ := pu66
            have hxu66 := oFr_nil fu66; subst hxu66
            have rr67 := n_rng r67
            refine r_goto C (tgt := 150) (oDec_at oX5_wordAhead 74 rfl) (by decide) ?_
            refine r_icmp_ne C 159 (oDec_at oX5_wordAhead 76 rfl) (by decide) (fun cd68 => ?_) (fun cd68 => ?_)
            · skip
              have hmm : x2.toInt = 7 ∨ ¬ oqIs g (oqSk g a) (x1.toNatClampNeg / 7) := by first | (left; omega) | (right; intro h; have h9 := oqIs_mt (j := x2.toNatClampNeg) (by omega) (by omega) h iv6 iv7 (by omega); first | (rw [if_pos (by omega)] at h9; omega) | (rw [if_neg (by omega)] at h9; omega))
              refine r_iload_n C (j := 2) (oDec_at oX5_wordAhead 79 rfl) rfl rfl ?_
              refine r_bipush C (oDec_at oX5_wordAhead 80 rfl) (v := k7) (by rw [qk7]; rfl) ?_
              refine r_icmp_ne C 170 (oDec_at oX5_wordAhead 81 rfl) (by decide) (fun cd69 => ?_) (fun cd69 => ?_)
              · skip
                obtain ⟨v70, ev70⟩ : ∃ z : Int32, x1 + Int32.ofInt 7 = z := ⟨_, rfl⟩
                have hv70 : v70.toInt = x1.toInt + 7 := n_inc ev70 (by decide) (by omega) (by omega)
                refine r_iinc C (j := 1) (lv' := [(0, .ref (oad E 30)), (1, .int v70), (2, .int x2)]) v70 [1, 0, 2] (oDec_at oX5_wordAhead 86 rfl) rfl ev70 (by decide) rfl ?_
                refine r_goto C (tgt := 77) (oDec_at oX5_wordAhead 87 rfl) (by decide) ?_
                have lk71 : ((t).1 30 2).toInt = v45.toInt := congrArg Int32.toInt (ev45)
                have lk72 : ((t).1 30 2).toInt = v45.toInt := congrArg Int32.toInt (ev45)
                have lk73 : ((t).1 30 4).toInt = v48.toInt := congrArg Int32.toInt (ev48)
                refine r_pick C [0, 1] rfl ?_
                exact (ih (n - 1) (by omega)).2.1 (t) v70  iv0 (by omega) (by omega) (by omega) (by omega) (by omega) (by first | exact iv6 | exact iv7) (by first | exact iv7 | exact hnl) (by omega) (by first | exact oqNo_nx (i0 := x1.toNatClampNeg / 7) iv9 (by omega) (by omega) (hmm.resolve_left (by omega)) | exact oqNo_0 (by omega)) (by omega) (by omega)
              · skip
                have his : oqIs g (oqSk g a) (x1.toNatClampNeg / 7) := oqMt_is (by omega) iv13 (by omega) iv6 iv7 (by omega) (by omega)
                have hws := oqIs_W (by omega) his iv6 iv7 (by omega)
                refine r_ty C (fun hty => ?_)
                have htw : (0 : Int) ≤ ((t).1 30 4).toInt ∧ ((t).1 30 4).toInt ≤ 1600 := hty.1 30 4
                have hta : (0 : Int) ≤ ((t).1 30 2).toInt ∧ ((t).1 30 2).toInt ≤ 1600 := hty.1 30 2
                clear hty
                refine r_iload_n C (j := 1) (oDec_at oX5_wordAhead 82 rfl) rfl rfl ?_
                refine r_bipush C (oDec_at oX5_wordAhead 83 rfl) (v := k7) (by rw [qk7]; rfl) ?_
                obtain ⟨v74, ev74⟩ : ∃ z : Int32, z = x1 / k7 := ⟨_, rfl⟩
                have hv74 := n_divP (k := 7) ev74 ek7 (by decide)
                have rv74 := n_rng v74
                refine r_idiv C v74 (oDec_at oX5_wordAhead 84 rfl) (n_ne0 (by omega)) ev74 ?_
                have lk75 : ((t).1 30 2).toInt = v45.toInt := congrArg Int32.toInt (ev45)
                exact r_iret C (oDec_at oX5_wordAhead 85 rfl) ⟨_, rfl, ⟨by omega, by omega, oqW_yes (i0 := x1.toNatClampNeg / 7) (by omega) (by omega) his (by omega), oqW_ws (i0 := x1.toNatClampNeg / 7) (by omega) (by omega), by omega, by omega, fun _ _ => (oqWe_of (by omega) iv6 iv7 (by omega)).symm⟩⟩
            · skip
              obtain ⟨v76, ev76⟩ : ∃ z : Int32, x2 + Int32.ofInt 1 = z := ⟨_, rfl⟩
              have hv76 : v76.toInt = x2.toInt + 1 := n_inc ev76 (by decide) (by omega) (by omega)
              refine r_iinc C (j := 2) (lv' := [(0, .ref (oad E 30)), (1, .int x1), (2, .int v76)]) v76 [1, 2, 0] (oDec_at oX5_wordAhead 77 rfl) rfl ev76 (by decide) rfl ?_
              refine r_goto C (tgt := 105) (oDec_at oX5_wordAhead 78 rfl) (by decide) ?_
              have lk77 : ((t).1 30 2).toInt = v45.toInt := congrArg Int32.toInt (ev45)
              have lk78 : ((t).1 30 2).toInt = v45.toInt := congrArg Int32.toInt (ev45)
              have lk79 : ((t).1 30 4).toInt = v48.toInt := congrArg Int32.toInt (ev48)
              have lk80 : ((t).1 30 4).toInt = v48.toInt := congrArg Int32.toInt (ev48)
              have lk81 : ((t).1 30 2).toInt = v45.toInt := congrArg Int32.toInt (ev45)
              exact (ih (n - 1) (by omega)).2.2 (t) x1 v76  iv0 (by omega) (by omega) (by omega) (by omega) (by omega) (by first | exact iv6 | exact iv7) (by first | exact iv7 | exact hnl) (by omega) (by exact iv9) (by omega) (by omega) (by omega) (by first | exact oqMt_nx (k := x2.toNatClampNeg) iv13 (by omega) (by omega) (by first | (rw [if_pos (by omega)]; omega) | (rw [if_neg (by omega)]; omega)) | exact oqMt_0 (by omega)) (by omega)
  refine r_aload_n C (j := 0) (oDec_at oX5_wordAhead 0 rfl) rfl rfl ?_
  refine r_callVi C oCl5 rfl miX5_peek mlX5_43 (ct4_X5_peek l E (s)  (g) (a) (by omega) hp2) (by decide) rfl rfl rfl (Nat.le_of_ble_eq_true rfl) (oDec_at oX5_wordAhead 1 rfl) (fun r83 u82 pu82 fu82 => ?_)
  try dsimp only at pu82
  obtain ⟨pu82_0, pu82_1, pu82_2, pu82_3, pu82_4, pu82_5⟩ := pu82
  have rr83 := n_rng r83
  refine r_callSi C miX5_isLetter mlX5_127 (ct_X5_isLetter l E (u82) r83 ) (by decide) rfl rfl rfl (Nat.le_of_ble_eq_true rfl) (oDec_at oX5_wordAhead 2 rfl) (fun r85 u84 pu84 fu84 => ?_)
  try dsimp only at pu84
  obtain ⟨pu84_0, pu84_1⟩ := pu84
  have hxu84 := oFr_nil fu84; subst hxu84
  have rr85 := n_rng r85
  refine r_if_eq C 21 (oDec_at oX5_wordAhead 3 rfl) (by decide) (fun cd86 => ?_) (fun cd86 => ?_)
  · skip
    refine r_iconst C (oDec_at oX5_wordAhead 9 rfl) (v := km1) (by rw [qkm1]; rfl) ?_
    exact r_iret C (oDec_at oX5_wordAhead 10 rfl) ⟨_, rfl, ⟨by omega, by omega, oqW_no (by omega) (fun i hi h => by have h8 := oqIs_let hi h.1; have h9 := h.2; omega), fun h => by omega, by omega, by omega, fun h1 h2 => by exfalso; omega⟩⟩
  · skip
    refine r_aload_n C (j := 0) (oDec_at oX5_wordAhead 4 rfl) rfl rfl ?_
    obtain ⟨v87, ev87⟩ : ∃ z : Int32, (u82).1 30 2 = z := ⟨_, rfl⟩
    have gv87 : (u82.1 30 2).toInt = v87.toInt := congrArg Int32.toInt (ev87)
    refine r_geti (k := 2) (lo := 0) (hi := 1600) C v87 oCl5 rfl (by decide) flX5_23 rfl rfl (ev87) rfl rfl (oDec_at oX5_wordAhead 5 rfl) (fun b88 b88h => ?_)
    refine r_aload_n C (j := 0) (oDec_at oX5_wordAhead 6 rfl) rfl rfl ?_
    obtain ⟨v89, ev89⟩ : ∃ z : Int32, (u82).1 30 3 = z := ⟨_, rfl⟩
    have gv89 : (s.1 30 3).toInt = v89.toInt := congrArg Int32.toInt (((fu82 30 3 rfl).1).symm.trans ev89)
    have ggv89 : ((u82).1 30 3).toInt = v89.toInt := congrArg Int32.toInt ev89
    refine r_geti (k := 3) (lo := (-1)) (hi := 1600) C v89 oCl5 rfl (by decide) flX5_26 rfl rfl (ev89) rfl rfl (oDec_at oX5_wordAhead 7 rfl) (fun b90 b90h => ?_)
    refine r_icmp_ne C 23 (oDec_at oX5_wordAhead 8 rfl) (by decide) (fun cd91 => ?_) (fun cd91 => ?_)
    · skip
      refine r_aload_n C (j := 0) (oDec_at oX5_wordAhead 11 rfl) rfl rfl ?_
      refine r_aload_n C (j := 0) (oDec_at oX5_wordAhead 12 rfl) rfl rfl ?_
      refine r_geti (k := 2) (lo := 0) (hi := 1600) C v87 oCl5 rfl (by decide) flX5_23 rfl rfl (ev87) rfl rfl (oDec_at oX5_wordAhead 13 rfl) (fun _ _ => ?_)
      refine r_puti (k := 4) (lo := 0) (hi := 1600) C oCl5 rfl (by decide) flX5_130 rfl rfl rfl rfl rfl rfl rfl rfl ⟨by omega, by omega⟩ (oDec_at oX5_wordAhead 14 rfl) ?_
      have lk92 : (((pI u82 30 4 v87)).1 30 2).toInt = v87.toInt := congrArg Int32.toInt (((pI_ne (a := 30) (b := 2) (c := 30) (k := 4) _ _ (Or.inr (by decide)))).trans (ev87))
      have lk93 : (((pI u82 30 4 v87)).1 30 3).toInt = v89.toInt := congrArg Int32.toInt (((pI_ne (a := 30) (b := 3) (c := 30) (k := 4) _ _ (Or.inr (by decide)))).trans (ev89))
      have lk94 : (((pI u82 30 4 v87)).1 30 2).toInt = v87.toInt := congrArg Int32.toInt (((pI_ne (a := 30) (b := 2) (c := 30) (k := 4) _ _ (Or.inr (by decide)))).trans (ev87))
      have lk95 : (((pI u82 30 4 v87)).1 30 4).toInt = v87.toInt := congrArg Int32.toInt ((pI_self _ _ _ _))
      have lk96 : (((pI u82 30 4 v87)).1 30 4).toInt = v87.toInt := congrArg Int32.toInt ((pI_self _ _ _ _))
      have lk97 : (((pI u82 30 4 v87)).1 30 4).toInt = v87.toInt := congrArg Int32.toInt ((pI_self _ _ _ _))
      exact (key (11601 - (((pI u82 30 4 v87)).1 30 4).toInt).toNat).1 ((pI u82 30 4 v87))   (oqX_fr (oFr_oneI (q := 5) (m := 4) rfl (by rfl)) rfl (oqX_fr fu82 rfl hp2)) (by omega) (by omega) (by omega) (by omega) (by omega) (by first | (rw [show (((pI u82 30 4 v87)).1 30 4).toInt = oqSk g a by omega]; exact oqRun_0)) (by omega) (by omega) (by omega) (by omega)
    · skip
      refine r_iconst C (oDec_at oX5_wordAhead 9 rfl) (v := km1) (by rw [qkm1]; rfl) ?_
      have lk98 : ((u82).1 30 2).toInt = v87.toInt := congrArg Int32.toInt (ev87)
      exact r_iret C (oDec_at oX5_wordAhead 10 rfl) ⟨_, rfl, ⟨by omega, by omega, oqW_no (by omega) (fun i hi h => by have h8 := oqIs_let hi h.1; have h9 := h.2; omega), fun h => by omega, by omega, by omega, fun h1 h2 => by exfalso; omega⟩⟩
set_option maxHeartbeats 4000000 in
set_option maxRecDepth 100000 in
theorem ct4_X0_isNameTaken (l : Launch) (E : oE) (s : oS) (c0 : Nat) (hk0 : okd c0 = 0)  (hp0 : (s.1 c0 8).toInt ≤ 5) : oMet l 1 yX0_isNameTaken cX0_isNameTaken 4 (some .boolean) [] E s [.ref (oad E c0)] (oPi (fun r u => (0 ≤ r.toInt ∧ r.toInt ≤ 1) ∧ (r.toInt = 1 → oqTaken (s.1 (c0 + 4)) (s.1 c0 8).toNatClampNeg) ∧ (r.toInt = 0 → ¬ oqTaken (s.1 (c0 + 4)) (s.1 c0 8).toNatClampNeg))) := by
  refine oMet.of (lv := [(0, .ref (oad E c0))]) (by decide +kernel) (Nat.le_of_ble_eq_true rfl) rfl (fun J C hT => ?_)
  have C : oC l 1 cX0_isNameTaken RX0 4 (some .boolean) [] E s (oPi (fun r u => (0 ≤ r.toInt ∧ r.toInt ≤ 1) ∧ (r.toInt = 1 → oqTaken (s.1 (c0 + 4)) (s.1 c0 8).toNatClampNeg) ∧ (r.toInt = 0 → ¬ oqTaken (s.1 (c0 + 4)) (s.1 c0 8).toNatClampNeg))) J := C
  obtain ⟨k0, qk0⟩ : ∃ z : Int32, z = 0 := ⟨_, rfl⟩
  have ek0 : k0.toInt = 0 := by rw [qk0]; rfl
  obtain ⟨k1, qk1⟩ : ∃ z : Int32, z = 1 := ⟨_, rfl⟩
  have ek1 : k1.toInt = 1 := by rw [qk1]; rfl
  obtain ⟨k6, qk6⟩ : ∃ z : Int32, z = 6 := ⟨_, rfl⟩
  have ek6 : k6.toInt = 6 := by rw [qk6]; rfl
  have htm : (0 : Int) ≤ (s.1 c0 8).toInt := (by have h9 := hT.1 c0 8; rw [hk0] at h9; exact h9.1)
  have hnM := n_nat (s.1 c0 8)
  have key : ∀ n : Nat, (∀ (t : oS) (x1 : Int32), (0 ≤ x1.toInt ∧ x1.toInt ≤ (t.1 c0 8).toInt) → (t.1 (c0 + 4) = s.1 (c0 + 4)) → ((t.1 c0 8).toInt = (s.1 c0 8).toInt) → (oqNt (s.1 (c0 + 4)) (s.1 c0 8).toNatClampNeg x1.toInt) → 100 * (7 - x1.toInt) ≤ (n : Int) → J t 2 [(0, .ref (oad E c0)), (1, .int x1)] []) ∧ (∀ (t : oS) (x1 : Int32) (x2 : Int32) (x3 : Int32), (0 ≤ x1.toInt ∧ x1.toInt < (t.1 c0 8).toInt ∧ 0 ≤ x2.toInt ∧ x2.toInt ≤ 1 ∧ 0 ≤ x3.toInt ∧ x3.toInt ≤ 6) → (t.1 (c0 + 4) = s.1 (c0 + 4)) → ((t.1 c0 8).toInt = (s.1 c0 8).toInt) → (oqNt (s.1 (c0 + 4)) (s.1 c0 8).toNatClampNeg x1.toInt) → (0 ≤ 0) → (x2.toInt = 1 → oqLk (s.1 (c0 + 4)) x1.toNatClampNeg (s.1 c0 8).toNatClampNeg x3.toInt) → (x2.toInt = 0 → ¬ oqLk (s.1 (c0 + 4)) x1.toNatClampNeg (s.1 c0 8).toNatClampNeg 6) → 100 * (7 - x1.toInt) - 10 - x3.toInt ≤ (n : Int) → J t 27 [(0, .ref (oad E c0)), (1, .int x1), (2, .int x2), (3, .int x3)] []) := by
    intro n
    induction n using Nat.strongRecOn with
    | _ n ih =>
      refine ⟨?_, ?_⟩
      · intro t x1  iv0 iv1 iv2 iv3 hmu
        have rx1 := n_rng x1
        have hn1 := n_nat x1
        refine r_iload_n C (j := 1) (oDec_at oX0_isNameTaken 2 rfl) rfl rfl ?_
        refine r_aload_n C (j := 0) (oDec_at oX0_isNameTaken 3 rfl) rfl rfl ?_
        obtain ⟨v1, ev1⟩ : ∃ z : Int32, (t).1 c0 8 = z := ⟨_, rfl⟩
        have gv1 : (t.1 c0 8).toInt = v1.toInt := congrArg Int32.toInt (ev1)
        refine r_geti (k := 8) (lo := 0) (hi := 6) C v1 oCl0 hk0 (by decide) flX0_39 rfl rfl (ev1) rfl rfl (oDec_at oX0_isNameTaken 4 rfl) (fun b2 b2h => ?_)
        refine r_icmp_ge C 89 (oDec_at oX0_isNameTaken 5 rfl) (by decide) (fun cd3 => ?_) (fun cd3 => ?_)
        · skip
          refine r_iconst C (oDec_at oX0_isNameTaken 51 rfl) (v := k0) (by rw [qk0]; rfl) ?_
          exact r_zret C (n_bool (by omega)) (oDec_at oX0_isNameTaken 52 rfl) ⟨_, rfl, ⟨by omega, fun h => by exfalso; omega, fun _ h => by obtain ⟨m, h1, h2⟩ := h; exact iv3 m (by omega) h2⟩⟩
        · skip
          refine r_aload_n C (j := 0) (oDec_at oX0_isNameTaken 6 rfl) rfl rfl ?_
          refine r_geti (k := 8) (lo := 0) (hi := 6) C v1 oCl0 hk0 (by decide) flX0_39 rfl rfl (ev1) rfl rfl (oDec_at oX0_isNameTaken 7 rfl) (fun _ _ => ?_)
          refine r_bipush C (oDec_at oX0_isNameTaken 8 rfl) (v := k6) (by rw [qk6]; rfl) ?_
          refine r_icmp_ge C 23 (oDec_at oX0_isNameTaken 9 rfl) (by decide) (fun cd4 => ?_) (fun cd4 => ?_)
          · skip
            refine r_iconst C (oDec_at oX0_isNameTaken 12 rfl) (v := k0) (by rw [qk0]; rfl) ?_
            refine r_istore_n C (lv' := [(0, .ref (oad E c0)), (1, .int x1), (2, .int k0)]) [1, 2, 0] (oDec_at oX0_isNameTaken 13 rfl) rfl (by decide) rfl ?_
            refine r_iconst C (oDec_at oX0_isNameTaken 14 rfl) (v := k0) (by rw [qk0]; rfl) ?_
            refine r_istore_n C (lv' := [(0, .ref (oad E c0)), (1, .int x1), (2, .int k0), (3, .int k0)]) [1, 2, 3, 0] (oDec_at oX0_isNameTaken 15 rfl) rfl (by decide) rfl ?_
            have lk5 : ((t).1 c0 8).toInt = v1.toInt := congrArg Int32.toInt (ev1)
            have lk6 : ((t).1 c0 8).toInt = v1.toInt := congrArg Int32.toInt (ev1)
            exact (ih (n - 1) (by omega)).2 (t) x1 k0 k0  (by omega) (by first | exact iv1 | rfl) (by omega) (by exact iv3) (by omega) (by first | (intro h; exfalso; omega) | exact fun _ => oqLk_0 (by omega)) (by first | (intro h; exfalso; omega)) (by omega)
          · skip
            refine r_iconst C (oDec_at oX0_isNameTaken 10 rfl) (v := k1) (by rw [qk1]; rfl) ?_
            refine r_goto C (tgt := 24) (oDec_at oX0_isNameTaken 11 rfl) (by decide) ?_
            refine r_istore_n C (lv' := [(0, .ref (oad E c0)), (1, .int x1), (2, .int k1)]) [1, 2, 0] (oDec_at oX0_isNameTaken 13 rfl) rfl (by decide) rfl ?_
            refine r_iconst C (oDec_at oX0_isNameTaken 14 rfl) (v := k0) (by rw [qk0]; rfl) ?_
            refine r_istore_n C (lv' := [(0, .ref (oad E c0)), (1, .int x1), (2, .int k1), (3, .int k0)]) [1, 2, 3, 0] (oDec_at oX0_isNameTaken 15 rfl) rfl (by decide) rfl ?_
            have lk7 : ((t).1 c0 8).toInt = v1.toInt := congrArg Int32.toInt (ev1)
            have lk8 : ((t).1 c0 8).toInt = v1.toInt := congrArg Int32.toInt (ev1)
            exact (ih (n - 1) (by omega)).2 (t) x1 k1 k0  (by omega) (by first | exact iv1 | rfl) (by omega) (by exact iv3) (by omega) (by first | (intro h; exfalso; omega) | exact fun _ => oqLk_0 (by omega)) (by first | (intro h; exfalso; omega)) (by omega)
      · intro t x1 x2 x3  iv0 iv1 iv2 iv3 iv4 iv5 iv6 hmu
        have rx1 := n_rng x1
        have rx2 := n_rng x2
        have rx3 := n_rng x3
        have hn1 := n_nat x1
        have hn3 := n_nat x3
        refine r_iload_n C (j := 3) (oDec_at oX0_isNameTaken 16 rfl) rfl rfl ?_
        refine r_bipush C (oDec_at oX0_isNameTaken 17 rfl) (v := k6) (by rw [qk6]; rfl) ?_
        refine r_icmp_ge C 77 (oDec_at oX0_isNameTaken 18 rfl) (by decide) (fun cd9 => ?_) (fun cd9 => ?_)
        · skip
          refine r_iload_n C (j := 2) (oDec_at oX0_isNameTaken 45 rfl) rfl rfl ?_
          refine r_if_eq C 83 (oDec_at oX0_isNameTaken 46 rfl) (by decide) (fun cd10 => ?_) (fun cd10 => ?_)
          · skip
            obtain ⟨v11, ev11⟩ : ∃ z : Int32, x1 + Int32.ofInt 1 = z := ⟨_, rfl⟩
            have hv11 : v11.toInt = x1.toInt + 1 := n_inc ev11 (by decide) (by omega) (by omega)
            refine r_iinc C (j := 1) (lv' := [(0, .ref (oad E c0)), (1, .int v11), (2, .int x2), (3, .int x3)]) v11 [1, 0, 2, 3] (oDec_at oX0_isNameTaken 49 rfl) rfl ev11 (by decide) rfl ?_
            refine r_goto C (tgt := 2) (oDec_at oX0_isNameTaken 50 rfl) (by decide) ?_
            refine r_pick C [0, 1] rfl ?_
            exact (ih (n - 1) (by omega)).1 (t) v11  (by omega) (by first | exact iv1 | rfl) (by omega) (by first | exact oqNt_nx (j := x1.toNatClampNeg) iv3 (by omega) (by omega) (iv6 (by omega)) | exact iv3 | exact oqNt_0 (by omega)) (by omega)
          · skip
            refine r_iconst C (oDec_at oX0_isNameTaken 47 rfl) (v := k1) (by rw [qk1]; rfl) ?_
            exact r_zret C (n_bool (by omega)) (oDec_at oX0_isNameTaken 48 rfl) ⟨_, rfl, ⟨by omega, fun _ => ⟨x1.toNatClampNeg, by omega, by have h9 := iv5 (by omega); rw [show x3.toInt = 6 by omega] at h9; exact h9⟩, fun h => by exfalso; omega⟩⟩
        · skip
          refine r_iload_n C (j := 2) (oDec_at oX0_isNameTaken 19 rfl) rfl rfl ?_
          refine r_if_eq C 77 (oDec_at oX0_isNameTaken 20 rfl) (by decide) (fun cd12 => ?_) (fun cd12 => ?_)
          · skip
            refine r_iload_n C (j := 2) (oDec_at oX0_isNameTaken 45 rfl) rfl rfl ?_
            refine r_if_eq C 83 (oDec_at oX0_isNameTaken 46 rfl) (by decide) (fun cd13 => ?_) (fun cd13 => ?_)
            · skip
              obtain ⟨v14, ev14⟩ : ∃ z : Int32, x1 + Int32.ofInt 1 = z := ⟨_, rfl⟩
              have hv14 : v14.toInt = x1.toInt + 1 := n_inc ev14 (by decide) (by omega) (by omega)
              refine r_iinc C (j := 1) (lv' := [(0, .ref (oad E c0)), (1, .int v14), (2, .int x2), (3, .int x3)]) v14 [1, 0, 2, 3] (oDec_at oX0_isNameTaken 49 rfl) rfl ev14 (by decide) rfl ?_
              refine r_goto C (tgt := 2) (oDec_at oX0_isNameTaken 50 rfl) (by decide) ?_
              refine r_pick C [0, 1] rfl ?_
              exact (ih (n - 1) (by omega)).1 (t) v14  (by omega) (by first | exact iv1 | rfl) (by omega) (by first | exact oqNt_nx (j := x1.toNatClampNeg) iv3 (by omega) (by omega) (iv6 (by omega)) | exact iv3 | exact oqNt_0 (by omega)) (by omega)
            · omega
          · skip
            refine r_aload_n C (j := 0) (oDec_at oX0_isNameTaken 21 rfl) rfl rfl ?_
            refine r_getR (k := 4) (b := 4) C oCl0 hk0 (by decide) flX0_23 rfl rfl rfl (oDec_at oX0_isNameTaken 22 rfl) ?_
            refine r_iload_n C (j := 1) (oDec_at oX0_isNameTaken 23 rfl) rfl rfl ?_
            refine r_bipush C (oDec_at oX0_isNameTaken 24 rfl) (v := k6) (by rw [qk6]; rfl) ?_
            obtain ⟨v15, ev15⟩ : ∃ z : Int32, z = x1 * k6 := ⟨_, rfl⟩
            have hv15 : v15.toInt = x1.toInt * 6 := n_mulK 6 ev15 ek6 (by omega) (by omega)
            refine r_imul C v15 (oDec_at oX0_isNameTaken 25 rfl) ev15 ?_
            refine r_iload_n C (j := 3) (oDec_at oX0_isNameTaken 26 rfl) rfl rfl ?_
            refine r_pc C 46 rfl ?_
            obtain ⟨v16, ev16⟩ : ∃ z : Int32, z = v15 + x3 := ⟨_, rfl⟩
            have hv16 : v16.toInt = v15.toInt + x3.toInt := n_add ev16 (by omega) (by omega)
            refine r_iadd C v16 (oDec_at oX0_isNameTaken 27 rfl) ev16 ?_
            obtain ⟨v18, ev18⟩ : ∃ z : Int32, (t).1 (c0 + 4) v16.toNatClampNeg = z := ⟨_, rfl⟩
            have gv18 : (t.1 (c0 + 4) v16.toNatClampNeg).toInt = v18.toInt := congrArg Int32.toInt (ev18)
            have rv18 := n_rng v18
            refine r_iald (n := 36) (lo := (-2147483648)) (hi := 2147483647) C v18 (kr0_4 hk0) (by decide) rfl rfl ⟨by omega, by omega⟩ (by decide) ev18 rfl rfl (oDec_at oX0_isNameTaken 28 rfl) (fun _ _ => ?_)
            have hl1 : ((s.1 (c0 + 4)) (6 * x1.toNatClampNeg + x3.toNatClampNeg)).toInt = v18.toInt := by rw [← iv1, show 6 * x1.toNatClampNeg + x3.toNatClampNeg = v16.toNatClampNeg by (have h9 := n_nat v16; omega)]; exact congrArg Int32.toInt ev18
            refine r_aload_n C (j := 0) (oDec_at oX0_isNameTaken 29 rfl) rfl rfl ?_
            refine r_getR (k := 4) (b := 4) C oCl0 hk0 (by decide) flX0_23 rfl rfl rfl (oDec_at oX0_isNameTaken 30 rfl) ?_
            refine r_aload_n C (j := 0) (oDec_at oX0_isNameTaken 31 rfl) rfl rfl ?_
            obtain ⟨v19, ev19⟩ : ∃ z : Int32, (t).1 c0 8 = z := ⟨_, rfl⟩
            have gv19 : (t.1 c0 8).toInt = v19.toInt := congrArg Int32.toInt (ev19)
            refine r_geti (k := 8) (lo := 0) (hi := 6) C v19 oCl0 hk0 (by decide) flX0_39 rfl rfl (ev19) rfl rfl (oDec_at oX0_isNameTaken 32 rfl) (fun b20 b20h => ?_)
            refine r_pc C 56 rfl ?_
            refine r_bipush C (oDec_at oX0_isNameTaken 33 rfl) (v := k6) (by rw [qk6]; rfl) ?_
            obtain ⟨v21, ev21⟩ : ∃ z : Int32, z = v19 * k6 := ⟨_, rfl⟩
            have hv21 : v21.toInt = v19.toInt * 6 := n_mulK 6 ev21 ek6 (by omega) (by omega)
            refine r_imul C v21 (oDec_at oX0_isNameTaken 34 rfl) ev21 ?_
            refine r_iload_n C (j := 3) (oDec_at oX0_isNameTaken 35 rfl) rfl rfl ?_
            obtain ⟨v22, ev22⟩ : ∃ z : Int32, z = v21 + x3 := ⟨_, rfl⟩
            have hv22 : v22.toInt = v21.toInt + x3.toInt := n_add ev22 (by omega) (by omega)
            refine r_iadd C v22 (oDec_at oX0_isNameTaken 36 rfl) ev22 ?_
            obtain ⟨v24, ev24⟩ : ∃ z : Int32, (t).1 (c0 + 4) v22.toNatClampNeg = z := ⟨_, rfl⟩
            have gv24 : (t.1 (c0 + 4) v22.toNatClampNeg).toInt = v24.toInt := congrArg Int32.toInt (ev24)
            have rv24 := n_rng v24
            refine r_iald (n := 36) (lo := (-2147483648)) (hi := 2147483647) C v24 (kr0_4 hk0) (by decide) rfl rfl ⟨by omega, by omega⟩ (by decide) ev24 rfl rfl (oDec_at oX0_isNameTaken 37 rfl) (fun _ _ => ?_)
            have hl2 : ((s.1 (c0 + 4)) (6 * (s.1 c0 8).toNatClampNeg + x3.toNatClampNeg)).toInt = v24.toInt := by rw [← iv1, show 6 * (s.1 c0 8).toNatClampNeg + x3.toNatClampNeg = v22.toNatClampNeg by (have h9 := n_nat v22; omega)]; exact congrArg Int32.toInt ev24
            refine r_icmp_ne C 69 (oDec_at oX0_isNameTaken 38 rfl) (by decide) (fun cd25 => ?_) (fun cd25 => ?_)
            · skip
              refine r_iconst C (oDec_at oX0_isNameTaken 41 rfl) (v := k0) (by rw [qk0]; rfl) ?_
              refine r_istore_n C (lv' := [(0, .ref (oad E c0)), (1, .int x1), (2, .int k0), (3, .int x3)]) [1, 2, 0, 3] (oDec_at oX0_isNameTaken 42 rfl) rfl (by decide) rfl ?_
              obtain ⟨v26, ev26⟩ : ∃ z : Int32, x3 + Int32.ofInt 1 = z := ⟨_, rfl⟩
              have hv26 : v26.toInt = x3.toInt + 1 := n_inc ev26 (by decide) (by omega) (by omega)
              refine r_iinc C (j := 3) (lv' := [(0, .ref (oad E c0)), (1, .int x1), (2, .int k0), (3, .int v26)]) v26 [1, 2, 3, 0] (oDec_at oX0_isNameTaken 43 rfl) rfl ev26 (by decide) rfl ?_
              refine r_goto C (tgt := 27) (oDec_at oX0_isNameTaken 44 rfl) (by decide) ?_
              have lk27 : ((t).1 c0 8).toInt = v19.toInt := congrArg Int32.toInt (ev19)
              have lk28 : ((t).1 c0 8).toInt = v19.toInt := congrArg Int32.toInt (ev19)
              exact (ih (n - 1) (by omega)).2 (t) x1 k0 v26  (by omega) (by first | exact iv1 | rfl) (by omega) (by exact iv3) (by omega) (by first | (intro h; exfalso; omega) | exact fun _ => oqLk_nx (j := x3.toNatClampNeg) (iv5 (by omega)) (by omega) (by omega) (by omega) | exact fun _ => oqLk_0 (by omega)) (by first | (intro h; exfalso; omega) | exact fun _ h => by have h9 := h x3.toNatClampNeg (by omega); omega) (by omega)
            · skip
              refine r_iconst C (oDec_at oX0_isNameTaken 39 rfl) (v := k1) (by rw [qk1]; rfl) ?_
              refine r_goto C (tgt := 70) (oDec_at oX0_isNameTaken 40 rfl) (by decide) ?_
              refine r_istore_n C (lv' := [(0, .ref (oad E c0)), (1, .int x1), (2, .int k1), (3, .int x3)]) [1, 2, 0, 3] (oDec_at oX0_isNameTaken 42 rfl) rfl (by decide) rfl ?_
              obtain ⟨v29, ev29⟩ : ∃ z : Int32, x3 + Int32.ofInt 1 = z := ⟨_, rfl⟩
              have hv29 : v29.toInt = x3.toInt + 1 := n_inc ev29 (by decide) (by omega) (by omega)
              refine r_iinc C (j := 3) (lv' := [(0, .ref (oad E c0)), (1, .int x1), (2, .int k1), (3, .int v29)]) v29 [1, 2, 3, 0] (oDec_at oX0_isNameTaken 43 rfl) rfl ev29 (by decide) rfl ?_
              refine r_goto C (tgt := 27) (oDec_at oX0_isNameTaken 44 rfl) (by decide) ?_
              have lk30 : ((t).1 c0 8).toInt = v19.toInt := congrArg Int32.toInt (ev19)
              have lk31 : ((t).1 c0 8).toInt = v19.toInt := congrArg Int32.toInt (ev19)
              exact (ih (n - 1) (by omega)).2 (t) x1 k1 v29  (by omega) (by first | exact iv1 | rfl) (by omega) (by exact iv3) (by omega) (by first | (intro h; exfalso; omega) | exact fun _ => oqLk_nx (j := x3.toNatClampNeg) (iv5 (by omega)) (by omega) (by omega) (by omega) | exact fun _ => oqLk_0 (by omega)) (by first | (intro h; exfalso; omega) | exact fun _ h => by have h9 := h x3.toNatClampNeg (by omega); omega) (by omega)
  refine r_iconst C (oDec_at oX0_isNameTaken 0 rfl) (v := k0) (by rw [qk0]; rfl) ?_
  refine r_istore_n C (lv' := [(0, .ref (oad E c0)), (1, .int k0)]) [1, 0] (oDec_at oX0_isNameTaken 1 rfl) rfl (by decide) rfl ?_
  exact (key (100 * (7 - k0.toInt)).toNat).1 (s) k0  (by omega) (by first | rfl) (by omega) (by first | exact oqNt_0 (by omega)) (by omega)
