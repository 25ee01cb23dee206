set_option maxHeartbeats 4000000 in
set_option maxRecDepth 100000 in
theorem ct5_X4_add (l : Launch) (E : oE) (s : oS) (c0 : Nat) (hk0 : okd c0 = 4) (a1 : Int32) (a2 : Int32)   : oMet l 1 yX4_add cX4_add 4 (some .boolean) [(4, 4), (4, 5), (4, 6), (4, 7), (16, 9999), (17, 9999), (18, 9999), (19, 9999)] E s [.ref (oad E c0), .int a1, .int a2] (oPi (fun r u => (0 ≤ r.toInt ∧ r.toInt ≤ 1) ∧ (r.toInt = 1 → ((u.1 c0 4).toInt = (s.1 c0 4).toInt + 1 ∧ (u.1 c0 5).toInt = (s.1 c0 5).toInt + a2.toInt)) ∧ (r.toInt = 0 → ¬ (-1 ≤ a1.toInt ∧ a1.toInt ≤ 28 ∧ 1 ≤ a2.toInt ∧ a2.toInt ≤ 16 ∧ (s.1 c0 4).toInt ≤ 23 ∧ (s.1 c0 5).toInt + a2.toInt ≤ 96)))) := by
  refine oMet.of (lv := [(0, .ref (oad E c0)), (1, .int a1), (2, .int a2)]) (by decide +kernel) (Nat.le_of_ble_eq_true rfl) rfl (fun J C hT => ?_)
  have C : oC l 1 cX4_add RX4 4 (some .boolean) [(4, 4), (4, 5), (4, 6), (4, 7), (16, 9999), (17, 9999), (18, 9999), (19, 9999)] E s (oPi (fun r u => (0 ≤ r.toInt ∧ r.toInt ≤ 1) ∧ (r.toInt = 1 → ((u.1 c0 4).toInt = (s.1 c0 4).toInt + 1 ∧ (u.1 c0 5).toInt = (s.1 c0 5).toInt + a2.toInt)) ∧ (r.toInt = 0 → ¬ (-1 ≤ a1.toInt ∧ a1.toInt ≤ 28 ∧ 1 ≤ a2.toInt ∧ a2.toInt ≤ 16 ∧ (s.1 c0 4).toInt ≤ 23 ∧ (s.1 c0 5).toInt + a2.toInt ≤ 96)))) J := C
  obtain ⟨km1, qkm1⟩ : ∃ z : Int32, z = (-1) := ⟨_, rfl⟩
  have ekm1 : km1.toInt = (-1) := by rw [qkm1]; rfl
  obtain ⟨k0, qk0⟩ : ∃ z : Int32, z = 0 := ⟨_, rfl⟩
  have ek0 : k0.toInt = 0 := by rw [qk0]; rfl
  obtain ⟨k1, qk1⟩ : ∃ z : Int32, z = 1 := ⟨_, rfl⟩
  have ek1 : k1.toInt = 1 := by rw [qk1]; rfl
  obtain ⟨k2, qk2⟩ : ∃ z : Int32, z = 2 := ⟨_, rfl⟩
  have ek2 : k2.toInt = 2 := by rw [qk2]; rfl
  obtain ⟨k16, qk16⟩ : ∃ z : Int32, z = 16 := ⟨_, rfl⟩
  have ek16 : k16.toInt = 16 := by rw [qk16]; rfl
  obtain ⟨k24, qk24⟩ : ∃ z : Int32, z = 24 := ⟨_, rfl⟩
  have ek24 : k24.toInt = 24 := by rw [qk24]; rfl
  obtain ⟨k28, qk28⟩ : ∃ z : Int32, z = 28 := ⟨_, rfl⟩
  have ek28 : k28.toInt = 28 := by rw [qk28]; rfl
  obtain ⟨k96, qk96⟩ : ∃ z : Int32, z = 96 := ⟨_, rfl⟩
  have ek96 : k96.toInt = 96 := by rw [qk96]; rfl
  have rg1 := n_rng a1
  have rg2 := n_rng a2
  have key : ∀ n : Nat, (∀ (t : oS) (x3 : Int32), (1 ≤ a2.toInt ∧ a2.toInt ≤ 16) → ((t.1 c0 4).toInt = (s.1 c0 4).toInt) → ((t.1 c0 5).toInt = (s.1 c0 5).toInt) → ((s.1 c0 4).toInt ≤ 23) → ((s.1 c0 5).toInt + a2.toInt ≤ 96) → ((s.1 c0 5).toInt ≤ x3.toInt ∧ x3.toInt ≤ (s.1 c0 5).toInt + a2.toInt) → (0 ≤ (s.1 c0 5).toInt) → (s.1 c0 5).toInt + a2.toInt - x3.toInt + 1 ≤ (n : Int) → J t 84 [(0, .ref (oad E c0)), (1, .int a1), (2, .int a2), (3, .int x3)] []) := by
    intro n
    induction n using Nat.strongRecOn with
    | _ n ih =>
      skip
      · intro t x3  iv0 iv1 iv2 iv3 iv4 iv5 iv6 hmu
        have rx3 := n_rng x3
        refine r_iload_n C (j := 3) (oDec_at oX4_add 48 rfl) rfl rfl ?_
        refine r_aload_n C (j := 0) (oDec_at oX4_add 49 rfl) rfl rfl ?_
        obtain ⟨v1, ev1⟩ : ∃ z : Int32, (t).1 c0 5 = z := ⟨_, rfl⟩
        have gv1 : (t.1 c0 5).toInt = v1.toInt := congrArg Int32.toInt (ev1)
        refine r_geti (k := 5) (lo := 0) (hi := 96) C v1 oCl4 hk0 (by decide) flX4_31 rfl rfl (ev1) rfl rfl (oDec_at oX4_add 50 rfl) (fun b2 b2h => ?_)
        refine r_iload_n C (j := 2) (oDec_at oX4_add 51 rfl) rfl rfl ?_
        obtain ⟨v3, ev3⟩ : ∃ z : Int32, z = v1 + a2 := ⟨_, rfl⟩
        have hv3 : v3.toInt = v1.toInt + a2.toInt := n_add ev3 (by omega) (by omega)
        refine r_iadd C v3 (oDec_at oX4_add 52 rfl) ev3 ?_
        refine r_icmp_ge C 110 (oDec_at oX4_add 53 rfl) (by decide) (fun cd4 => ?_) (fun cd4 => ?_)
        · skip
          refine r_aload_n C (j := 0) (oDec_at oX4_add 62 rfl) rfl rfl ?_
          obtain ⟨v5, ev5⟩ : ∃ z : Int32, (t).1 c0 6 = z := ⟨_, rfl⟩
          have gv5 : (t.1 c0 6).toInt = v5.toInt := congrArg Int32.toInt (ev5)
          have rv5 := n_rng v5
          refine r_geti (k := 6) (lo := (-2147483648)) (hi := 2147483647) C v5 oCl4 hk0 (by decide) flX4_24 rfl rfl (ev5) rfl rfl (oDec_at oX4_add 63 rfl) (fun _ _ => ?_)
          refine r_iconst C (oDec_at oX4_add 64 rfl) (v := km1) (by rw [qkm1]; rfl) ?_
          refine r_icmp_ne C 123 (oDec_at oX4_add 65 rfl) (by decide) (fun cd6 => ?_) (fun cd6 => ?_)
          · skip
            refine r_aload_n C (j := 0) (oDec_at oX4_add 69 rfl) rfl rfl ?_
            refine r_aload_n C (j := 0) (oDec_at oX4_add 70 rfl) rfl rfl ?_
            obtain ⟨v7, ev7⟩ : ∃ z : Int32, (t).1 c0 7 = z := ⟨_, rfl⟩
            have gv7 : (t.1 c0 7).toInt = v7.toInt := congrArg Int32.toInt (ev7)
            refine r_geti (k := 7) (lo := 0) (hi := 1) C v7 oCl4 hk0 (by decide) flX4_34 rfl rfl (ev7) rfl rfl (oDec_at oX4_add 71 rfl) (fun b8 b8h => ?_)
            refine r_if_ne C 138 (oDec_at oX4_add 72 rfl) (by decide) (fun cd9 => ?_) (fun cd9 => ?_)
            · skip
              refine r_iconst C (oDec_at oX4_add 78 rfl) (v := k1) (by rw [qk1]; rfl) ?_
              refine r_goto C (tgt := 143) (oDec_at oX4_add 79 rfl) (by decide) ?_
              refine r_puti (k := 7) (lo := 0) (hi := 1) C oCl4 hk0 (by decide) flX4_34 rfl rfl rfl rfl rfl (n_bool (by omega)) (n_fitz (by omega)) rfl ⟨by omega, by omega⟩ (oDec_at oX4_add 81 rfl) ?_
              refine r_aload_n C (j := 0) (oDec_at oX4_add 82 rfl) rfl rfl ?_
              refine r_dup C (oDec_at oX4_add 83 rfl) rfl ?_
              refine r_geti (k := 5) (lo := 0) (hi := 96) C v1 oCl4 hk0 (by decide) flX4_31 rfl rfl (((pI_ne (a := c0) (b := 5) (c := c0) (k := 7) _ _ (Or.inr (by decide)))).trans (ev1)) rfl rfl (oDec_at oX4_add 84 rfl) (fun _ _ => ?_)
              refine r_iload_n C (j := 2) (oDec_at oX4_add 85 rfl) rfl rfl ?_
              refine r_pc C 152 rfl ?_
              obtain ⟨v10, ev10⟩ : ∃ z : Int32, z = v1 + a2 := ⟨_, rfl⟩
              have hv10 : v10.toInt = v1.toInt + a2.toInt := n_add ev10 (by omega) (by omega)
              refine r_iadd C v10 (oDec_at oX4_add 86 rfl) ev10 ?_
              refine r_puti (k := 5) (lo := 0) (hi := 96) C oCl4 hk0 (by decide) flX4_31 rfl rfl rfl rfl rfl rfl rfl rfl ⟨by omega, by omega⟩ (oDec_at oX4_add 87 rfl) ?_
              refine r_aload_n C (j := 0) (oDec_at oX4_add 88 rfl) rfl rfl ?_
              refine r_dup C (oDec_at oX4_add 89 rfl) rfl ?_
              obtain ⟨v11, ev11⟩ : ∃ z : Int32, ((pI (pI t c0 7 k1) c0 5 v10)).1 c0 4 = z := ⟨_, rfl⟩
              have gv11 : (t.1 c0 4).toInt = v11.toInt := congrArg Int32.toInt ((((pI_ne (a := c0) (b := 4) (c := c0) (k := 5) _ _ (Or.inr (by decide)))).trans ((pI_ne (a := c0) (b := 4) (c := c0) (k := 7) _ _ (Or.inr (by decide))))).symm.trans ev11)
              have ggv11 : (((pI (pI t c0 7 k1) c0 5 v10)).1 c0 4).toInt = v11.toInt := congrArg Int32.toInt ev11
              refine r_geti (k := 4) (lo := 0) (hi := 24) C v11 oCl4 hk0 (by decide) flX4_28 rfl rfl (ev11) rfl rfl (oDec_at oX4_add 90 rfl) (fun b12 b12h => ?_)
              refine r_iconst C (oDec_at oX4_add 91 rfl) (v := k1) (by rw [qk1]; rfl) ?_
              refine r_pc C 162 rfl ?_
              obtain ⟨v13, ev13⟩ : ∃ z : Int32, z = v11 + k1 := ⟨_, rfl⟩
              have hv13 : v13.toInt = v11.toInt + k1.toInt := n_add ev13 (by omega) (by omega)
              refine r_iadd C v13 (oDec_at oX4_add 92 rfl) ev13 ?_
              refine r_puti (k := 4) (lo := 0) (hi := 24) C oCl4 hk0 (by decide) flX4_28 rfl rfl rfl rfl rfl rfl rfl rfl ⟨by omega, by omega⟩ (oDec_at oX4_add 93 rfl) ?_
              refine r_iconst C (oDec_at oX4_add 94 rfl) (v := k1) (by rw [qk1]; rfl) ?_
              have lk14 : (((pI (pI (pI t c0 7 k1) c0 5 v10) c0 4 v13)).1 c0 4).toInt = v13.toInt := congrArg Int32.toInt ((pI_self _ _ _ _))
              have lk15 : (((pI (pI (pI t c0 7 k1) c0 5 v10) c0 4 v13)).1 c0 5).toInt = v10.toInt := congrArg Int32.toInt (((pI_ne (a := c0) (b := 5) (c := c0) (k := 4) _ _ (Or.inr (by decide)))).trans ((pI_self _ _ _ _)))
              exact r_zret C (n_bool (by omega)) (oDec_at oX4_add 95 rfl) ⟨_, rfl, ⟨by omega, by omega, by omega⟩⟩
            · skip
              refine r_iload_n C (j := 2) (oDec_at oX4_add 73 rfl) rfl rfl ?_
              refine r_iconst C (oDec_at oX4_add 74 rfl) (v := k2) (by rw [qk2]; rfl) ?_
              obtain ⟨v16, ev16⟩ : ∃ z : Int32, z = a2 - a2 / k2 * k2 := ⟨_, rfl⟩
              have hv16 := n_rem (k := 2) ev16 ek2 (by decide)
              have rv16 := n_rng v16
              refine r_irem C v16 (oDec_at oX4_add 75 rfl) (n_ne0 (by omega)) ev16 ?_
              refine r_iconst C (oDec_at oX4_add 76 rfl) (v := k1) (by rw [qk1]; rfl) ?_
              refine r_icmp_ne C 142 (oDec_at oX4_add 77 rfl) (by decide) (fun cd17 => ?_) (fun cd17 => ?_)
              · skip
                refine r_iconst C (oDec_at oX4_add 80 rfl) (v := k0) (by rw [qk0]; rfl) ?_
                refine r_puti (k := 7) (lo := 0) (hi := 1) C oCl4 hk0 (by decide) flX4_34 rfl rfl rfl rfl rfl (n_bool (by omega)) (n_fitz (by omega)) rfl ⟨by omega, by omega⟩ (oDec_at oX4_add 81 rfl) ?_
                refine r_aload_n C (j := 0) (oDec_at oX4_add 82 rfl) rfl rfl ?_
                refine r_dup C (oDec_at oX4_add 83 rfl) rfl ?_
                refine r_geti (k := 5) (lo := 0) (hi := 96) C v1 oCl4 hk0 (by decide) flX4_31 rfl rfl (((pI_ne (a := c0) (b := 5) (c := c0) (k := 7) _ _ (Or.inr (by decide)))).trans (ev1)) rfl rfl (oDec_at oX4_add 84 rfl) (fun _ _ => ?_)
                refine r_iload_n C (j := 2) (oDec_at oX4_add 85 rfl) rfl rfl ?_
                refine r_pc C 152 rfl ?_
                obtain ⟨v18, ev18⟩ : ∃ z : Int32, z = v1 + a2 := ⟨_, rfl⟩
                have hv18 : v18.toInt = v1.toInt + a2.toInt := n_add ev18 (by omega) (by omega)
                refine r_iadd C v18 (oDec_at oX4_add 86 rfl) ev18 ?_
                refine r_puti (k := 5) (lo := 0) (hi := 96) C oCl4 hk0 (by decide) flX4_31 rfl rfl rfl rfl rfl rfl rfl rfl ⟨by omega, by omega⟩ (oDec_at oX4_add 87 rfl) ?_
                refine r_aload_n C (j := 0) (oDec_at oX4_add 88 rfl) rfl rfl ?_
                refine r_dup C (oDec_at oX4_add 89 rfl) rfl ?_
                obtain ⟨v19, ev19⟩ : ∃ z : Int32, ((pI (pI t c0 7 k0) c0 5 v18)).1 c0 4 = z := ⟨_, rfl⟩
                have gv19 : (t.1 c0 4).toInt = v19.toInt := congrArg Int32.toInt ((((pI_ne (a := c0) (b := 4) (c := c0) (k := 5) _ _ (Or.inr (by decide)))).trans ((pI_ne (a := c0) (b := 4) (c := c0) (k := 7) _ _ (Or.inr (by decide))))).symm.trans ev19)
                have ggv19 : (((pI (pI t c0 7 k0) c0 5 v18)).1 c0 4).toInt = v19.toInt := congrArg Int32.toInt ev19
                refine r_geti (k := 4) (lo := 0) (hi := 24) C v19 oCl4 hk0 (by decide) flX4_28 rfl rfl (ev19) rfl rfl (oDec_at oX4_add 90 rfl) (fun b20 b20h => ?_)
                refine r_iconst C (oDec_at oX4_add 91 rfl) (v := k1) (by rw [qk1]; rfl) ?_
                refine r_pc C 162 rfl ?_
                obtain ⟨v21, ev21⟩ : ∃ z : Int32, z = v19 + k1 := ⟨_, rfl⟩
                have hv21 : v21.toInt = v19.toInt + k1.toInt := n_add ev21 (by omega) (by omega)
                refine r_iadd C v21 (oDec_at oX4_add 92 rfl) ev21 ?_
                refine r_puti (k := 4) (lo := 0) (hi := 24) C oCl4 hk0 (by decide) flX4_28 rfl rfl rfl rfl rfl rfl rfl rfl ⟨by omega, by omega⟩ (oDec_at oX4_add 93 rfl) ?_
                refine r_iconst C (oDec_at oX4_add 94 rfl) (v := k1) (by rw [qk1]; rfl) ?_
                have lk22 : (((pI (pI (pI t c0 7 k0) c0 5 v18) c0 4 v21)).1 c0 4).toInt = v21.toInt := congrArg Int32.toInt ((pI_self _ _ _ _))
                have lk23 : (((pI (pI (pI t c0 7 k0) c0 5 v18) c0 4 v21)).1 c0 5).toInt = v18.toInt := congrArg Int32.toInt (((pI_ne (a := c0) (b := 5) (c := c0) (k := 4) _ _ (Or.inr (by decide)))).trans ((pI_self _ _ _ _)))
                exact r_zret C (n_bool (by omega)) (oDec_at oX4_add 95 rfl) ⟨_, rfl, ⟨by omega, by omega, by omega⟩⟩
              · skip
                refine r_iconst C (oDec_at oX4_add 78 rfl) (v := k1) (by rw [qk1]; rfl) ?_
                refine r_goto C (tgt := 143) (oDec_at oX4_add 79 rfl) (by decide) ?_
                refine r_puti (k := 7) (lo := 0) (hi := 1) C oCl4 hk0 (by decide) flX4_34 rfl rfl rfl rfl rfl (n_bool (by omega)) (n_fitz (by omega)) rfl ⟨by omega, by omega⟩ (oDec_at oX4_add 81 rfl) ?_
                refine r_aload_n C (j := 0) (oDec_at oX4_add 82 rfl) rfl rfl ?_
                refine r_dup C (oDec_at oX4_add 83 rfl) rfl ?_
                refine r_geti (k := 5) (lo := 0) (hi := 96) C v1 oCl4 hk0 (by decide) flX4_31 rfl rfl (((pI_ne (a := c0) (b := 5) (c := c0) (k := 7) _ _ (Or.inr (by decide)))).trans (ev1)) rfl rfl (oDec_at oX4_add 84 rfl) (fun _ _ => ?_)
                refine r_iload_n C (j := 2) (oDec_at oX4_add 85 rfl) rfl rfl ?_
                refine r_pc C 152 rfl ?_
                obtain ⟨v24, ev24⟩ : ∃ z : Int32, z = v1 + a2 := ⟨_, rfl⟩
                have hv24 : v24.toInt = v1.toInt + a2.toInt := n_add ev24 (by omega) (by omega)
                refine r_iadd C v24 (oDec_at oX4_add 86 rfl) ev24 ?_
                refine r_puti (k := 5) (lo := 0) (hi := 96) C oCl4 hk0 (by decide) flX4_31 rfl rfl rfl rfl rfl rfl rfl rfl ⟨by omega, by omega⟩ (oDec_at oX4_add 87 rfl) ?_
                refine r_aload_n C (j := 0) (oDec_at oX4_add 88 rfl) rfl rfl ?_
                refine r_dup C (oDec_at oX4_add 89 rfl) rfl ?_
                obtain ⟨v25, ev25⟩ : ∃ z : Int32, ((pI (pI t c0 7 k1) c0 5 v24)).1 c0 4 = z := ⟨_, rfl⟩
                have gv25 : (t.1 c0 4).toInt = v25.toInt := congrArg Int32.toInt ((((pI_ne (a := c0) (b := 4) (c := c0) (k := 5) _ _ (Or.inr (by decide)))).trans ((pI_ne (a := c0) (b := 4) (c := c0) (k := 7) _ _ (Or.inr (by decide))))).symm.trans ev25)
                have ggv25 : (((pI (pI t c0 7 k1) c0 5 v24)).1 c0 4).toInt = v25.toInt := congrArg Int32.toInt ev25
                refine r_geti (k := 4) (lo := 0) (hi := 24) C v25 oCl4 hk0 (by decide) flX4_28 rfl rfl (ev25) rfl rfl (oDec_at oX4_add 90 rfl) (fun b26 b26h => ?_)
                refine r_iconst C (oDec_at oX4_add 91 rfl) (v := k1) (by rw [qk1]; rfl) ?_
                refine r_pc C 162 rfl ?_
                obtain ⟨v27, ev27⟩ : ∃ z : Int32, z = v25 + k1 := ⟨_, rfl⟩
                have hv27 : v27.toInt = v25.toInt + k1.toInt := n_add ev27 (by omega) (by omega)
                refine r_iadd C v27 (oDec_at oX4_add 92 rfl) ev27 ?_
                refine r_puti (k := 4) (lo := 0) (hi := 24) C oCl4 hk0 (by decide) flX4_28 rfl rfl rfl rfl rfl rfl rfl rfl ⟨by omega, by omega⟩ (oDec_at oX4_add 93 rfl) ?_
                refine r_iconst C (oDec_at oX4_add 94 rfl) (v := k1) (by rw [qk1]; rfl) ?_
                have lk28 : (((pI (pI (pI t c0 7 k1) c0 5 v24) c0 4 v27)).1 c0 4).toInt = v27.toInt := congrArg Int32.toInt ((pI_self _ _ _ _))
                have lk29 : (((pI (pI (pI t c0 7 k1) c0 5 v24) c0 4 v27)).1 c0 5).toInt = v24.toInt := congrArg Int32.toInt (((pI_ne (a := c0) (b := 5) (c := c0) (k := 4) _ _ (Or.inr (by decide)))).trans ((pI_self _ _ _ _)))
                exact r_zret C (n_bool (by omega)) (oDec_at oX4_add 95 rfl) ⟨_, rfl, ⟨by omega, by omega, by omega⟩⟩
          · skip
            refine r_aload_n C (j := 0) (oDec_at oX4_add 66 rfl) rfl rfl ?_
            refine r_iload_n C (j := 1) (oDec_at oX4_add 67 rfl) rfl rfl ?_
            refine r_puti (k := 6) (lo := (-2147483648)) (hi := 2147483647) C oCl4 hk0 (by decide) flX4_24 rfl rfl rfl rfl rfl rfl rfl rfl (n_rng _) (oDec_at oX4_add 68 rfl) ?_
            refine r_aload_n C (j := 0) (oDec_at oX4_add 69 rfl) rfl rfl ?_
            refine r_aload_n C (j := 0) (oDec_at oX4_add 70 rfl) rfl rfl ?_
            obtain ⟨v30, ev30⟩ : ∃ z : Int32, ((pI t c0 6 a1)).1 c0 7 = z := ⟨_, rfl⟩
            have gv30 : (t.1 c0 7).toInt = v30.toInt := congrArg Int32.toInt (((pI_ne (a := c0) (b := 7) (c := c0) (k := 6) _ _ (Or.inr (by decide)))).symm.trans ev30)
            have ggv30 : (((pI t c0 6 a1)).1 c0 7).toInt = v30.toInt := congrArg Int32.toInt ev30
            refine r_geti (k := 7) (lo := 0) (hi := 1) C v30 oCl4 hk0 (by decide) flX4_34 rfl rfl (ev30) rfl rfl (oDec_at oX4_add 71 rfl) (fun b31 b31h => ?_)
            refine r_pc C 128 rfl ?_
            refine r_if_ne C 138 (oDec_at oX4_add 72 rfl) (by decide) (fun cd32 => ?_) (fun cd32 => ?_)
            · skip
              refine r_iconst C (oDec_at oX4_add 78 rfl) (v := k1) (by rw [qk1]; rfl) ?_
              refine r_goto C (tgt := 143) (oDec_at oX4_add 79 rfl) (by decide) ?_
              refine r_puti (k := 7) (lo := 0) (hi := 1) C oCl4 hk0 (by decide) flX4_34 rfl rfl rfl rfl rfl (n_bool (by omega)) (n_fitz (by omega)) rfl ⟨by omega, by omega⟩ (oDec_at oX4_add 81 rfl) ?_
              refine r_aload_n C (j := 0) (oDec_at oX4_add 82 rfl) rfl rfl ?_
              refine r_dup C (oDec_at oX4_add 83 rfl) rfl ?_
              refine r_geti (k := 5) (lo := 0) (hi := 96) C v1 oCl4 hk0 (by decide) flX4_31 rfl rfl (((pI_ne (a := c0) (b := 5) (c := c0) (k := 7) _ _ (Or.inr (by decide)))).trans (((pI_ne (a := c0) (b := 5) (c := c0) (k := 6) _ _ (Or.inr (by decide)))).trans (ev1))) rfl rfl (oDec_at oX4_add 84 rfl) (fun _ _ => ?_)
              refine r_iload_n C (j := 2) (oDec_at oX4_add 85 rfl) rfl rfl ?_
              refine r_pc C 152 rfl ?_
              obtain ⟨v33, ev33⟩ : ∃ z : Int32, z = v1 + a2 := ⟨_, rfl⟩
              have hv33 : v33.toInt = v1.toInt + a2.toInt := n_add ev33 (by omega) (by omega)
              refine r_iadd C v33 (oDec_at oX4_add 86 rfl) ev33 ?_
              refine r_puti (k := 5) (lo := 0) (hi := 96) C oCl4 hk0 (by decide) flX4_31 rfl rfl rfl rfl rfl rfl rfl rfl ⟨by omega, by omega⟩ (oDec_at oX4_add 87 rfl) ?_
              refine r_aload_n C (j := 0) (oDec_at oX4_add 88 rfl) rfl rfl ?_
              refine r_dup C (oDec_at oX4_add 89 rfl) rfl ?_
              obtain ⟨v34, ev34⟩ : ∃ z : Int32, ((pI (pI (pI t c0 6 a1) c0 7 k1) c0 5 v33)).1 c0 4 = z := ⟨_, rfl⟩
              have gv34 : (t.1 c0 4).toInt = v34.toInt := congrArg Int32.toInt ((((pI_ne (a := c0) (b := 4) (c := c0) (k := 5) _ _ (Or.inr (by decide)))).trans (((pI_ne (a := c0) (b := 4) (c := c0) (k := 7) _ _ (Or.inr (by decide)))).trans ((pI_ne (a := c0) (b := 4) (c := c0) (k := 6) _ _ (Or.inr (by decide)))))).symm.trans ev34)
              have ggv34 : (((pI (pI (pI t c0 6 a1) c0 7 k1) c0 5 v33)).1 c0 4).toInt = v34.toInt := congrArg Int32.toInt ev34
              refine r_geti (k := 4) (lo := 0) (hi := 24) C v34 oCl4 hk0 (by decide) flX4_28 rfl rfl (ev34) rfl rfl (oDec_at oX4_add 90 rfl) (fun b35 b35h => ?_)
              refine r_iconst C (oDec_at oX4_add 91 rfl) (v := k1) (by rw [qk1]; rfl) ?_
              refine r_pc C 162 rfl ?_
              obtain ⟨v36, ev36⟩ : ∃ z : Int32, z = v34 + k1 := ⟨_, rfl⟩
              have hv36 : v36.toInt = v34.toInt + k1.toInt := n_add ev36 (by omega) (by omega)
              refine r_iadd C v36 (oDec_at oX4_add 92 rfl) ev36 ?_
              refine r_puti (k := 4) (lo := 0) (hi := 24) C oCl4 hk0 (by decide) flX4_28 rfl rfl rfl rfl rfl rfl rfl rfl ⟨by omega, by omega⟩ (oDec_at oX4_add 93 rfl) ?_
              refine r_iconst C (oDec_at oX4_add 94 rfl) (v := k1) (by rw [qk1]; rfl) ?_
              have lk37 : (((pI (pI (pI (pI t c0 6 a1) c0 7 k1) c0 5 v33) c0 4 v36)).1 c0 4).toInt = v36.toInt := congrArg Int32.toInt ((pI_self _ _ _ _))
              have lk38 : (((pI (pI (pI (pI t c0 6 a1) c0 7 k1) c0 5 v33) c0 4 v36)).1 c0 5).toInt = v33.toInt := congrArg Int32.toInt (((pI_ne (a := c0) (b := 5) (c := c0) (k := 4) _ _ (Or.inr (by decide)))).trans ((pI_self _ _ _ _)))
              exact r_zret C (n_bool (by omega)) (oDec_at oX4_add 95 rfl) ⟨_, rfl, ⟨by omega, by omega, by omega⟩⟩
            · skip
              refine r_iload_n C (j := 2) (oDec_at oX4_add 73 rfl) rfl rfl ?_
              refine r_iconst C (oDec_at oX4_add 74 rfl) (v := k2) (by rw [qk2]; rfl) ?_
              obtain ⟨v39, ev39⟩ : ∃ z : Int32, z = a2 - a2 / k2 * k2 := ⟨_, rfl⟩
              have hv39 := n_rem (k := 2) ev39 ek2 (by decide)
              have rv39 := n_rng v39
              refine r_irem C v39 (oDec_at oX4_add 75 rfl) (n_ne0 (by omega)) ev39 ?_
              refine r_iconst C (oDec_at oX4_add 76 rfl) (v := k1) (by rw [qk1]; rfl) ?_
              refine r_icmp_ne C 142 (oDec_at oX4_add 77 rfl) (by decide) (fun cd40 => ?_) (fun cd40 => ?_)
              · skip
                refine r_iconst C (oDec_at oX4_add 80 rfl) (v := k0) (by rw [qk0]; rfl) ?_
                refine r_puti (k := 7) (lo := 0) (hi := 1) C oCl4 hk0 (by decide) flX4_34 rfl rfl rfl rfl rfl (n_bool (by omega)) (n_fitz (by omega)) rfl ⟨by omega, by omega⟩ (oDec_at oX4_add 81 rfl) ?_
                refine r_aload_n C (j := 0) (oDec_at oX4_add 82 rfl) rfl rfl ?_
                refine r_dup C (oDec_at oX4_add 83 rfl) rfl ?_
                refine r_geti (k := 5) (lo := 0) (hi := 96) C v1 oCl4 hk0 (by decide) flX4_31 rfl rfl (((pI_ne (a := c0) (b := 5) (c := c0) (k := 7) _ _ (Or.inr (by decide)))).trans (((pI_ne (a := c0) (b := 5) (c := c0) (k := 6) _ _ (Or.inr (by decide)))).trans (ev1))) rfl rfl (oDec_at oX4_add 84 rfl) (fun _ _ => ?_)
                refine r_iload_n C (j := 2) (oDec_at oX4_add 85 rfl) rfl rfl ?_
                refine r_pc C 152 rfl ?_
                obtain ⟨v41, ev41⟩ : ∃ z : Int32, z = v1 + a2 := ⟨_, rfl⟩
                have hv41 : v41.toInt = v1.toInt + a2.toInt := n_add ev41 (by omega) (by omega)
                refine r_iadd C v41 (oDec_at oX4_add 86 rfl) ev41 ?_
                refine r_puti (k := 5) (lo := 0) (hi := 96) C oCl4 hk0 (by decide) flX4_31 rfl rfl rfl rfl rfl rfl rfl rfl ⟨by omega, by omega⟩ (oDec_at oX4_add 87 rfl) ?_
                refine r_aload_n C (j := 0) (oDec_at oX4_add 88 rfl) rfl rfl ?_
                refine r_dup C (oDec_at oX4_add 89 rfl) rfl ?_
                obtain ⟨v42, ev42⟩ : ∃ z : Int32, ((pI (pI (pI t c0 6 a1) c0 7 k0) c0 5 v41)).1 c0 4 = z := ⟨_, rfl⟩
                have gv42 : (t.1 c0 4).toInt = v42.toInt := congrArg Int32.toInt ((((pI_ne (a := c0) (b := 4) (c := c0) (k := 5) _ _ (Or.inr (by decide)))).trans (((pI_ne (a := c0) (b := 4) (c := c0) (k := 7) _ _ (Or.inr (by decide)))).trans ((pI_ne (a := c0) (b := 4) (c := c0) (k := 6) _ _ (Or.inr (by decide)))))).symm.trans ev42)
                have ggv42 : (((pI (pI (pI t c0 6 a1) c0 7 k0) c0 5 v41)).1 c0 4).toInt = v42.toInt := congrArg Int32.toInt ev42
                refine r_geti (k := 4) (lo := 0) (hi := 24) C v42 oCl4 hk0 (by decide) flX4_28 rfl rfl (ev42) rfl rfl (oDec_at oX4_add 90 rfl) (fun b43 b43h => ?_)
                refine r_iconst C (oDec_at oX4_add 91 rfl) (v := k1) (by rw [qk1]; rfl) ?_
                refine r_pc C 162 rfl ?_
                obtain ⟨v44, ev44⟩ : ∃ z : Int32, z = v42 + k1 := ⟨_, rfl⟩
                have hv44 : v44.toInt = v42.toInt + k1.toInt := n_add ev44 (by omega) (by omega)
                refine r_iadd C v44 (oDec_at oX4_add 92 rfl) ev44 ?_
                refine r_puti (k := 4) (lo := 0) (hi := 24) C oCl4 hk0 (by decide) flX4_28 rfl rfl rfl rfl rfl rfl rfl rfl ⟨by omega, by omega⟩ (oDec_at oX4_add 93 rfl) ?_
                refine r_iconst C (oDec_at oX4_add 94 rfl) (v := k1) (by rw [qk1]; rfl) ?_
                have lk45 : (((pI (pI (pI (pI t c0 6 a1) c0 7 k0) c0 5 v41) c0 4 v44)).1 c0 4).toInt = v44.toInt := congrArg Int32.toInt ((pI_self _ _ _ _))
                have lk46 : (((pI (pI (pI (pI t c0 6 a1) c0 7 k0) c0 5 v41) c0 4 v44)).1 c0 5).toInt = v41.toInt := congrArg Int32.toInt (((pI_ne (a := c0) (b := 5) (c := c0) (k := 4) _ _ (Or.inr (by decide)))).trans ((pI_self _ _ _ _)))
                exact r_zret C (n_bool (by omega)) (oDec_at oX4_add 95 rfl) ⟨_, rfl, ⟨by omega, by omega, by omega⟩⟩
              · skip
                refine r_iconst C (oDec_at oX4_add 78 rfl) (v := k1) (by rw [qk1]; rfl) ?_
                refine r_goto C (tgt := 143) (oDec_at oX4_add 79 rfl) (by decide) ?_
                refine r_puti (k := 7) (lo := 0) (hi := 1) C oCl4 hk0 (by decide) flX4_34 rfl rfl rfl rfl rfl (n_bool (by omega)) (n_fitz (by omega)) rfl ⟨by omega, by omega⟩ (oDec_at oX4_add 81 rfl) ?_
                refine r_aload_n C (j := 0) (oDec_at oX4_add 82 rfl) rfl rfl ?_
                refine r_dup C (oDec_at oX4_add 83 rfl) rfl ?_
                refine r_geti (k := 5) (lo := 0) (hi := 96) C v1 oCl4 hk0 (by decide) flX4_31 rfl rfl (((pI_ne (a := c0) (b := 5) (c := c0) (k := 7) _ _ (Or.inr (by decide)))).trans (((pI_ne (a := c0) (b := 5) (c := c0) (k := 6) _ _ (Or.inr (by decide)))).trans (ev1))) rfl rfl (oDec_at oX4_add 84 rfl) (fun _ _ => ?_)
                refine r_iload_n C (j := 2) (oDec_at oX4_add 85 rfl) rfl rfl ?_
                refine r_pc C 152 rfl ?_
                obtain ⟨v47, ev47⟩ : ∃ z : Int32, z = v1 + a2 := ⟨_, rfl⟩
                have hv47 : v47.toInt = v1.toInt + a2.toInt := n_add ev47 (by omega) (by omega)
                refine r_iadd C v47 (oDec_at oX4_add 86 rfl) ev47 ?_
                refine r_puti (k := 5) (lo := 0) (hi := 96) C oCl4 hk0 (by decide) flX4_31 rfl rfl rfl rfl rfl rfl rfl rfl ⟨by omega, by omega⟩ (oDec_at oX4_add 87 rfl) ?_
                refine r_aload_n C (j := 0) (oDec_at oX4_add 88 rfl) rfl rfl ?_
                refine r_dup C (oDec_at oX4_add 89 rfl) rfl ?_
                obtain ⟨v48, ev48⟩ : ∃ z : Int32, ((pI (pI (pI t c0 6 a1) c0 7 k1) c0 5 v47)).1 c0 4 = z := ⟨_, rfl⟩
                have gv48 : (t.1 c0 4).toInt = v48.toInt := congrArg Int32.toInt ((((pI_ne (a := c0) (b := 4) (c := c0) (k := 5) _ _ (Or.inr (by decide)))).trans (((pI_ne (a := c0) (b := 4) (c := c0) (k := 7) _ _ (Or.inr (by decide)))).trans ((pI_ne (a := c0) (b := 4) (c := c0) (k := 6) _ _ (Or.inr (by decide)))))).symm.trans ev48)
                have ggv48 : (((pI (pI (pI t c0 6 a1) c0 7 k1) c0 5 v47)).1 c0 4).toInt = v48.toInt := congrArg Int32.toInt ev48
                refine r_geti (k := 4) (lo := 0) (hi := 24) C v48 oCl4 hk0 (by decide) flX4_28 rfl rfl (ev48) rfl rfl (oDec_at oX4_add 90 rfl) (fun b49 b49h => ?_)
                refine r_iconst C (oDec_at oX4_add 91 rfl) (v := k1) (by rw [qk1]; rfl) ?_
                refine r_pc C 162 rfl ?_
                obtain ⟨v50, ev50⟩ : ∃ z : Int32, z = v48 + k1 := ⟨_, rfl⟩
                have hv50 : v50.toInt = v48.toInt + k1.toInt := n_add ev50 (by omega) (by omega)
                refine r_iadd C v50 (oDec_at oX4_add 92 rfl) ev50 ?_
                refine r_puti (k := 4) (lo := 0) (hi := 24) C oCl4 hk0 (by decide) flX4_28 rfl rfl rfl rfl rfl rfl rfl rfl ⟨by omega, by omega⟩ (oDec_at oX4_add 93 rfl) ?_
                refine r_iconst C (oDec_at oX4_add 94 rfl) (v := k1) (by rw [qk1]; rfl) ?_
                have lk51 : (((pI (pI (pI (pI t c0 6 a1) c0 7 k1) c0 5 v47) c0 4 v50)).1 c0 4).toInt = v50.toInt := congrArg Int32.toInt ((pI_self _ _ _ _))
                have lk52 : (((pI (pI (pI (pI t c0 6 a1) c0 7 k1) c0 5 v47) c0 4 v50)).1 c0 5).toInt = v47.toInt := congrArg Int32.toInt (((pI_ne (a := c0) (b := 5) (c := c0) (k := 4) _ _ (Or.inr (by decide)))).trans ((pI_self _ _ _ _)))
                exact r_zret C (n_bool (by omega)) (oDec_at oX4_add 95 rfl) ⟨_, rfl, ⟨by omega, by omega, by omega⟩⟩
        · skip
          refine r_aload_n C (j := 0) (oDec_at oX4_add 54 rfl) rfl rfl ?_
          refine r_getR (k := 3) (b := 4) C oCl4 hk0 (by decide) flX4_21 rfl rfl rfl (oDec_at oX4_add 55 rfl) ?_
          refine r_iload_n C (j := 3) (oDec_at oX4_add 56 rfl) rfl rfl ?_
          refine r_aload_n C (j := 0) (oDec_at oX4_add 57 rfl) rfl rfl ?_
          obtain ⟨v53, ev53⟩ : ∃ z : Int32, (t).1 c0 4 = z := ⟨_, rfl⟩
          have gv53 : (t.1 c0 4).toInt = v53.toInt := congrArg Int32.toInt (ev53)
          refine r_geti (k := 4) (lo := 0) (hi := 24) C v53 oCl4 hk0 (by decide) flX4_28 rfl rfl (ev53) rfl rfl (oDec_at oX4_add 58 rfl) (fun b54 b54h => ?_)
          refine r_iast (n := 96) (lo := (-2147483648)) (hi := 2147483647) C (kr4_4 hk0) (by decide) rfl rfl ⟨by omega, by omega⟩ (by decide) rfl rfl rfl rfl (n_rng _) (oDec_at oX4_add 59 rfl) ?_
          refine r_pc C 104 rfl ?_
          obtain ⟨v55, ev55⟩ : ∃ z : Int32, x3 + Int32.ofInt 1 = z := ⟨_, rfl⟩
          have hv55 : v55.toInt = x3.toInt + 1 := n_inc ev55 (by decide) (by omega) (by omega)
          refine r_iinc C (j := 3) (lv' := [(0, .ref (oad E c0)), (1, .int a1), (2, .int a2), (3, .int v55)]) v55 [1, 2, 3, 0] (oDec_at oX4_add 60 rfl) rfl ev55 (by decide) rfl ?_
          refine r_goto C (tgt := 84) (oDec_at oX4_add 61 rfl) (by decide) ?_
          have lk56 : (((pI t (c0 + 4) x3.toNatClampNeg v53)).1 c0 4).toInt = v53.toInt := congrArg Int32.toInt (((pI_ne _ _ (Or.inl (okd_ne hk0 (kr4_4 hk0) (by decide))))).trans (ev53))
          have lk57 : (((pI t (c0 + 4) x3.toNatClampNeg v53)).1 c0 5).toInt = v1.toInt := congrArg Int32.toInt (((pI_ne _ _ (Or.inl (okd_ne hk0 (kr4_4 hk0) (by decide))))).trans (ev1))
          exact (ih (n - 1) (by omega)) ((pI t (c0 + 4) x3.toNatClampNeg v53)) v55  (by omega) (by omega) (by omega) (by omega) (by omega) (by omega) (by omega) (by omega)
  refine r_iload_n C (j := 1) (oDec_at oX4_add 0 rfl) rfl rfl ?_
  refine r_iconst C (oDec_at oX4_add 1 rfl) (v := km1) (by rw [qkm1]; rfl) ?_
  refine r_icmp_lt C 22 (oDec_at oX4_add 2 rfl) (by decide) (fun cd58 => ?_) (fun cd58 => ?_)
  · skip
    refine r_iconst C (oDec_at oX4_add 12 rfl) (v := k0) (by rw [qk0]; rfl) ?_
    exact r_zret C (n_bool (by omega)) (oDec_at oX4_add 13 rfl) ⟨_, rfl, ⟨by omega, by omega, by omega⟩⟩
  · skip
    refine r_iload_n C (j := 1) (oDec_at oX4_add 3 rfl) rfl rfl ?_
    refine r_bipush C (oDec_at oX4_add 4 rfl) (v := k28) (by rw [qk28]; rfl) ?_
    refine r_icmp_gt C 22 (oDec_at oX4_add 5 rfl) (by decide) (fun cd59 => ?_) (fun cd59 => ?_)
    · skip
      refine r_iconst C (oDec_at oX4_add 12 rfl) (v := k0) (by rw [qk0]; rfl) ?_
      exact r_zret C (n_bool (by omega)) (oDec_at oX4_add 13 rfl) ⟨_, rfl, ⟨by omega, by omega, by omega⟩⟩
    · skip
      refine r_iload_n C (j := 2) (oDec_at oX4_add 6 rfl) rfl rfl ?_
      refine r_iconst C (oDec_at oX4_add 7 rfl) (v := k1) (by rw [qk1]; rfl) ?_
      refine r_icmp_lt C 22 (oDec_at oX4_add 8 rfl) (by decide) (fun cd60 => ?_) (fun cd60 => ?_)
      · skip
        refine r_iconst C (oDec_at oX4_add 12 rfl) (v := k0) (by rw [qk0]; rfl) ?_
        exact r_zret C (n_bool (by omega)) (oDec_at oX4_add 13 rfl) ⟨_, rfl, ⟨by omega, by omega, by omega⟩⟩
      · skip
        refine r_iload_n C (j := 2) (oDec_at oX4_add 9 rfl) rfl rfl ?_
        refine r_bipush C (oDec_at oX4_add 10 rfl) (v := k16) (by rw [qk16]; rfl) ?_
        refine r_icmp_le C 24 (oDec_at oX4_add 11 rfl) (by decide) (fun cd61 => ?_) (fun cd61 => ?_)
        · skip
          refine r_aload_n C (j := 0) (oDec_at oX4_add 14 rfl) rfl rfl ?_
          obtain ⟨v62, ev62⟩ : ∃ z : Int32, (s).1 c0 4 = z := ⟨_, rfl⟩
          have gv62 : (s.1 c0 4).toInt = v62.toInt := congrArg Int32.toInt (ev62)
          refine r_geti (k := 4) (lo := 0) (hi := 24) C v62 oCl4 hk0 (by decide) flX4_28 rfl rfl (ev62) rfl rfl (oDec_at oX4_add 15 rfl) (fun b63 b63h => ?_)
          refine r_bipush C (oDec_at oX4_add 16 rfl) (v := k24) (by rw [qk24]; rfl) ?_
          refine r_icmp_ge C 44 (oDec_at oX4_add 17 rfl) (by decide) (fun cd64 => ?_) (fun cd64 => ?_)
          · skip
            refine r_iconst C (oDec_at oX4_add 24 rfl) (v := k0) (by rw [qk0]; rfl) ?_
            have lk65 : ((s).1 c0 4).toInt = v62.toInt := congrArg Int32.toInt (ev62)
            exact r_zret C (n_bool (by omega)) (oDec_at oX4_add 25 rfl) ⟨_, rfl, ⟨by omega, by omega, by omega⟩⟩
          · skip
            refine r_aload_n C (j := 0) (oDec_at oX4_add 18 rfl) rfl rfl ?_
            obtain ⟨v66, ev66⟩ : ∃ z : Int32, (s).1 c0 5 = z := ⟨_, rfl⟩
            have gv66 : (s.1 c0 5).toInt = v66.toInt := congrArg Int32.toInt (ev66)
            refine r_geti (k := 5) (lo := 0) (hi := 96) C v66 oCl4 hk0 (by decide) flX4_31 rfl rfl (ev66) rfl rfl (oDec_at oX4_add 19 rfl) (fun b67 b67h => ?_)
            refine r_iload_n C (j := 2) (oDec_at oX4_add 20 rfl) rfl rfl ?_
            obtain ⟨v68, ev68⟩ : ∃ z : Int32, z = v66 + a2 := ⟨_, rfl⟩
            have hv68 : v68.toInt = v66.toInt + a2.toInt := n_add ev68 (by omega) (by omega)
            refine r_iadd C v68 (oDec_at oX4_add 21 rfl) ev68 ?_
            refine r_bipush C (oDec_at oX4_add 22 rfl) (v := k96) (by rw [qk96]; rfl) ?_
            refine r_icmp_le C 46 (oDec_at oX4_add 23 rfl) (by decide) (fun cd69 => ?_) (fun cd69 => ?_)
            · skip
              refine r_aload_n C (j := 0) (oDec_at oX4_add 26 rfl) rfl rfl ?_
              refine r_getR (k := 0) (b := 1) C oCl4 hk0 (by decide) flX4_9 rfl rfl rfl (oDec_at oX4_add 27 rfl) ?_
              refine r_aload_n C (j := 0) (oDec_at oX4_add 28 rfl) rfl rfl ?_
              refine r_geti (k := 4) (lo := 0) (hi := 24) C v62 oCl4 hk0 (by decide) flX4_28 rfl rfl (ev62) rfl rfl (oDec_at oX4_add 29 rfl) (fun _ _ => ?_)
              refine r_iload_n C (j := 1) (oDec_at oX4_add 30 rfl) rfl rfl ?_
              refine r_iast (n := 24) (lo := (-2147483648)) (hi := 2147483647) C (kr4_1 hk0) (by decide) rfl rfl ⟨by omega, by omega⟩ (by decide) rfl rfl rfl rfl (n_rng _) (oDec_at oX4_add 31 rfl) ?_
              refine r_pc C 56 rfl ?_
              refine r_aload_n C (j := 0) (oDec_at oX4_add 32 rfl) rfl rfl ?_
              refine r_getR (k := 1) (b := 2) C oCl4 hk0 (by decide) flX4_15 rfl rfl rfl (oDec_at oX4_add 33 rfl) ?_
              refine r_aload_n C (j := 0) (oDec_at oX4_add 34 rfl) rfl rfl ?_
              refine r_geti (k := 4) (lo := 0) (hi := 24) C v62 oCl4 hk0 (by decide) flX4_28 rfl rfl (((pI_ne _ _ (Or.inl (okd_ne hk0 (kr4_1 hk0) (by decide))))).trans (ev62)) rfl rfl (oDec_at oX4_add 35 rfl) (fun _ _ => ?_)
              refine r_iload_n C (j := 2) (oDec_at oX4_add 36 rfl) rfl rfl ?_
              refine r_iast (n := 24) (lo := (-2147483648)) (hi := 2147483647) C (kr4_2 hk0) (by decide) rfl rfl ⟨by omega, by omega⟩ (by decide) rfl rfl rfl rfl (n_rng _) (oDec_at oX4_add 37 rfl) ?_
              refine r_pc C 66 rfl ?_
              refine r_aload_n C (j := 0) (oDec_at oX4_add 38 rfl) rfl rfl ?_
              refine r_getR (k := 2) (b := 3) C oCl4 hk0 (by decide) flX4_18 rfl rfl rfl (oDec_at oX4_add 39 rfl) ?_
              refine r_aload_n C (j := 0) (oDec_at oX4_add 40 rfl) rfl rfl ?_
              refine r_geti (k := 4) (lo := 0) (hi := 24) C v62 oCl4 hk0 (by decide) flX4_28 rfl rfl (((pI_ne _ _ (Or.inl (okd_ne hk0 (kr4_2 hk0) (by decide))))).trans (((pI_ne _ _ (Or.inl (okd_ne hk0 (kr4_1 hk0) (by decide))))).trans (ev62))) rfl rfl (oDec_at oX4_add 41 rfl) (fun _ _ => ?_)
              refine r_aload_n C (j := 0) (oDec_at oX4_add 42 rfl) rfl rfl ?_
              refine r_geti (k := 5) (lo := 0) (hi := 96) C v66 oCl4 hk0 (by decide) flX4_31 rfl rfl (((pI_ne _ _ (Or.inl (okd_ne hk0 (kr4_2 hk0) (by decide))))).trans (((pI_ne _ _ (Or.inl (okd_ne hk0 (kr4_1 hk0) (by decide))))).trans (ev66))) rfl rfl (oDec_at oX4_add 43 rfl) (fun _ _ => ?_)
              refine r_pc C 78 rfl ?_
              refine r_iast (n := 24) (lo := (-2147483648)) (hi := 2147483647) C (kr4_3 hk0) (by decide) rfl rfl ⟨by omega, by omega⟩ (by decide) rfl rfl rfl rfl (n_rng _) (oDec_at oX4_add 44 rfl) ?_
              refine r_aload_n C (j := 0) (oDec_at oX4_add 45 rfl) rfl rfl ?_
              refine r_geti (k := 5) (lo := 0) (hi := 96) C v66 oCl4 hk0 (by decide) flX4_31 rfl rfl (((pI_ne _ _ (Or.inl (okd_ne hk0 (kr4_3 hk0) (by decide))))).trans (((pI_ne _ _ (Or.inl (okd_ne hk0 (kr4_2 hk0) (by decide))))).trans (((pI_ne _ _ (Or.inl (okd_ne hk0 (kr4_1 hk0) (by decide))))).trans (ev66)))) rfl rfl (oDec_at oX4_add 46 rfl) (fun _ _ => ?_)
              refine r_istore_n C (lv' := [(0, .ref (oad E c0)), (1, .int a1), (2, .int a2), (3, .int v66)]) [1, 2, 3, 0] (oDec_at oX4_add 47 rfl) rfl (by decide) rfl ?_
              have lk70 : (((pI (pI (pI s (c0 + 1) v62.toNatClampNeg a1) (c0 + 2) v62.toNatClampNeg a2) (c0 + 3) v62.toNatClampNeg v66)).1 c0 4).toInt = v62.toInt := congrArg Int32.toInt (((pI_ne _ _ (Or.inl (okd_ne hk0 (kr4_3 hk0) (by decide))))).trans (((pI_ne _ _ (Or.inl (okd_ne hk0 (kr4_2 hk0) (by decide))))).trans (((pI_ne _ _ (Or.inl (okd_ne hk0 (kr4_1 hk0) (by decide))))).trans (ev62))))
              have lk71 : (((pI (pI (pI s (c0 + 1) v62.toNatClampNeg a1) (c0 + 2) v62.toNatClampNeg a2) (c0 + 3) v62.toNatClampNeg v66)).1 c0 5).toInt = v66.toInt := congrArg Int32.toInt (((pI_ne _ _ (Or.inl (okd_ne hk0 (kr4_3 hk0) (by decide))))).trans (((pI_ne _ _ (Or.inl (okd_ne hk0 (kr4_2 hk0) (by decide))))).trans (((pI_ne _ _ (Or.inl (okd_ne hk0 (kr4_1 hk0) (by decide))))).trans (ev66))))
              exact (key ((s.1 c0 5).toInt + a2.toInt - v66.toInt + 1).toNat) ((pI (pI (pI s (c0 + 1) v62.toNatClampNeg a1) (c0 + 2) v62.toNatClampNeg a2) (c0 + 3) v62.toNatClampNeg v66)) v66  (by omega) (by omega) (by omega) (by omega) (by omega) (by omega) (by omega) (by omega)
            · skip
              refine r_iconst C (oDec_at oX4_add 24 rfl) (v := k0) (by rw [qk0]; rfl) ?_
              have lk72 : ((s).1 c0 4).toInt = v62.toInt := congrArg Int32.toInt (ev62)
              have lk73 : ((s).1 c0 5).toInt = v66.toInt := congrArg Int32.toInt (ev66)
              exact r_zret C (n_bool (by omega)) (oDec_at oX4_add 25 rfl) ⟨_, rfl, ⟨by omega, by omega, by omega⟩⟩
        · skip
          refine r_iconst C (oDec_at oX4_add 12 rfl) (v := k0) (by rw [qk0]; rfl) ?_
          exact r_zret C (n_bool (by omega)) (oDec_at oX4_add 13 rfl) ⟨_, rfl, ⟨by omega, by omega, by omega⟩⟩
set_option maxHeartbeats 4000000 in
set_option maxRecDepth 100000 in
theorem ct4_X5_noteStatement (l : Launch) (E : oE) (s : oS) (c1 : Nat) (hk1 : okd c1 = 4) (g : Int → Int) (a : Int) (b : Int) (T : Int) (hp0 : (s.1 30 2).toInt = a) (hp1 : (s.1 30 3).toInt = b) (hp2 : oqX g s) (hp3 : (s.1 c1 5).toInt = T) (hp4 : (s.1 c1 4).toInt ≤ 23) (hp5 : g (oqSk g a) ≠ 32 ∧ g (oqSk g a) ≠ 10) : oMet l 7 yX5_noteStatement cX5_noteStatement 4 (some .boolean) [(4, 4), (4, 5), (4, 6), (4, 7), (5, 2), (5, 3), (5, 4), (5, 8), (5, 9), (16, 9999), (17, 9999), (18, 9999), (19, 9999)] E s [.ref (oad E 30), .ref (oad E c1)] (oPi (fun r u => (0 ≤ r.toInt ∧ r.toInt ≤ 1) ∧ (r.toInt = 1 → (oqTk g a b T = 0 ∧ (u.1 30 2).toInt = oqTa g a b ∧ (u.1 30 3).toInt = oqTb g a b ∧ (u.1 c1 5).toInt = T + oqTv g a b ∧ (u.1 c1 4).toInt = (s.1 c1 4).toInt + 1 ∧ (u.1 30 8).toInt = (s.1 30 8).toInt ∧ (u.1 30 9).toInt = (s.1 30 9).toInt)) ∧ (r.toInt = 0 → (oqTk g a b T ≠ 0 ∧ (u.1 30 8).toInt = oqTk g a b T ∧ (u.1 30 9).toInt = oqTp g a b T)))) := by
  refine oMet.of (lv := [(0, .ref (oad E 30)), (1, .ref (oad E c1))]) (by decide +kernel) (Nat.le_of_ble_eq_true rfl) rfl (fun J C hT => ?_)
  have C : oC l 7 cX5_noteStatement RX5 4 (some .boolean) [(4, 4), (4, 5), (4, 6), (4, 7), (5, 2), (5, 3), (5, 4), (5, 8), (5, 9), (16, 9999), (17, 9999), (18, 9999), (19, 9999)] E s (oPi (fun r u => (0 ≤ r.toInt ∧ r.toInt ≤ 1) ∧ (r.toInt = 1 → (oqTk g a b T = 0 ∧ (u.1 30 2).toInt = oqTa g a b ∧ (u.1 30 3).toInt = oqTb g a b ∧ (u.1 c1 5).toInt = T + oqTv g a b ∧ (u.1 c1 4).toInt = (s.1 c1 4).toInt + 1 ∧ (u.1 30 8).toInt = (s.1 30 8).toInt ∧ (u.1 30 9).toInt = (s.1 30 9).toInt)) ∧ (r.toInt = 0 → (oqTk g a b T ≠ 0 ∧ (u.1 30 8).toInt = oqTk g a b T ∧ (u.1 30 9).toInt = oqTp g a b T)))) J := C
  obtain ⟨km1, qkm1⟩ : ∃ z : Int32, z = (-1) := ⟨_, rfl⟩
  have ekm1 : km1.toInt = (-1) := by rw [qkm1]; rfl
  obtain ⟨k0, qk0⟩ : ∃ z : Int32, z = 0 := ⟨_, rfl⟩
  have ek0 : k0.toInt = 0 := by rw [qk0]; rfl
  obtain ⟨k1, qk1⟩ : ∃ z : Int32, z = 1 := ⟨_, rfl⟩
  have ek1 : k1.toInt = 1 := by rw [qk1]; rfl
  obtain ⟨k2, qk2⟩ : ∃ z : Int32, z = 2 := ⟨_, rfl⟩
  have ek2 : k2.toInt = 2 := by rw [qk2]; rfl
  obtain ⟨k16, qk16⟩ : ∃ z : Int32, z = 16 := ⟨_, rfl⟩
  have ek16 : k16.toInt = 16 := by rw [qk16]; rfl
  obtain ⟨k28, qk28⟩ : ∃ z : Int32, z = 28 := ⟨_, rfl⟩
  have ek28 : k28.toInt = 28 := by rw [qk28]; rfl
  obtain ⟨k59, qk59⟩ : ∃ z : Int32, z = 59 := ⟨_, rfl⟩
  have ek59 : k59.toInt = 59 := by rw [qk59]; rfl
  obtain ⟨k96, qk96⟩ : ∃ z : Int32, z = 96 := ⟨_, rfl⟩
  have ek96 : k96.toInt = 96 := by rw [qk96]; rfl
  have hss := oqSk_sk (g := g) (a := a) ⟨by omega, by omega⟩
  have hs2 := oqH_sk (b := b) (i := 2) hss
  have hsa := oqHa_sk (i := 2) hss
  have hKa : oqK1 g a = oqNk g (oqHa g a 0) (oqHa g a 0) 0 28 := rfl
  have hKb : oqK2 g a b T = oqNk g (oqA2 g a b) (oqA2 g a b) 1 (min 16 (96 - T)) := rfl
  have hA2 : oqA2 g a b = oqHa g (oqA1 g a b) 1 := rfl
  have hTb : oqTb g a b = oqNa g (oqA2 g a b) := rfl
  have hTa : oqTa g a b = oqSk g (oqTb g a b) + 1 := rfl
  have hTv : oqTv g a b = oqNv g (oqA2 g a b) := rfl
  refine r_iconst C (oDec_at oX5_noteStatement 0 rfl) (v := km1) (by rw [qkm1]; rfl) ?_
  refine r_istore_n C (lv' := [(0, .ref (oad E 30)), (1, .ref (oad E c1)), (2, .int km1)]) [1, 2, 0] (oDec_at oX5_noteStatement 1 rfl) rfl (by decide) rfl ?_
  refine r_aload_n C (j := 0) (oDec_at oX5_noteStatement 2 rfl) rfl rfl ?_
  refine r_iconst C (oDec_at oX5_noteStatement 3 rfl) (v := k0) (by rw [qk0]; rfl) ?_
  refine r_callVi C oCl5 rfl miX5_accept mlX5_66 (ct4_X5_accept l E (s) k0 (g) (a) (b) (0) (by omega) (by omega) hp2 (by omega) (by omega)) (by decide) rfl rfl rfl (Nat.le_of_ble_eq_true rfl) (oDec_at oX5_noteStatement 4 rfl) (fun r2 u1 pu1 fu1 => ?_)
  try dsimp only at pu1
  obtain ⟨pu1_0, pu1_1, pu1_2, pu1_3⟩ := pu1
  have rr2 := n_rng r2
  refine r_if_eq C 25 (oDec_at oX5_noteStatement 5 rfl) (by decide) (fun cd3 => ?_) (fun cd3 => ?_)
  · skip
    clear pu1_1
    replace pu1_2 := pu1_2 (by omega)
    refine r_aload_n C (j := 0) (oDec_at oX5_noteStatement 16 rfl) rfl rfl ?_
    refine r_iconst C (oDec_at oX5_noteStatement 17 rfl) (v := k2) (by rw [qk2]; rfl) ?_
    have lk4 : ((u1).1 30 8).toInt = (s.1 30 8).toInt := congrArg Int32.toInt ((fu1 30 8 rfl).1)
    have lk5 : ((u1).1 30 9).toInt = (s.1 30 9).toInt := congrArg Int32.toInt ((fu1 30 9 rfl).1)
    refine r_callVi C oCl5 rfl miX5_expect mlX5_74 (ct4_X5_expect l E (u1) k2 (g) (oqSk g a) (b) (2) (by omega) (by omega) (oqX_fr fu1 rfl hp2) (by omega) (by omega)) (by decide) rfl rfl rfl (Nat.le_of_ble_eq_true rfl) (oDec_at oX5_noteStatement 18 rfl) (fun r7 u6 pu6 fu6 => ?_)
    try dsimp only at pu6
    try simp only [lk4, lk5] at pu6
    obtain ⟨pu6_0, pu6_1, pu6_2⟩ := pu6
    have rr7 := n_rng r7
    refine r_if_ne C 35 (oDec_at oX5_noteStatement 19 rfl) (by decide) (fun cd8 => ?_) (fun cd8 => ?_)
    · skip
      replace pu6_1 := pu6_1 (by omega)
      clear pu6_2
      have hHD : oqHD g a b := by unfold oqHD; omega
      have hA1 : oqA1 g a b = ((u6).1 30 2).toInt := by first | (rw [oqA1_s (by omega)]; omega) | (rw [oqA1_r (by omega)]; omega)
      have hL2 : -1 ≤ km1.toInt ∧ km1.toInt ≤ 28 := by omega
      refine r_aload_n C (j := 0) (oDec_at oX5_noteStatement 22 rfl) rfl rfl ?_
      refine r_iconst C (oDec_at oX5_noteStatement 23 rfl) (v := k1) (by rw [qk1]; rfl) ?_
      refine r_callVi C oCl5 rfl miX5_expect mlX5_74 (ct4_X5_expect l E (u6) k1 (g) (oqA1 g a b) (oqA1 g a b) (1) (by omega) (by omega) (oqX_fr fu6 rfl (oqX_fr fu1 rfl hp2)) (by omega) (by omega)) (by decide) rfl rfl rfl (Nat.le_of_ble_eq_true rfl) (oDec_at oX5_noteStatement 24 rfl) (fun r10 u9 pu9 fu9 => ?_)
      try dsimp only at pu9
      obtain ⟨pu9_0, pu9_1, pu9_2⟩ := pu9
      have rr10 := n_rng r10
      refine r_if_ne C 45 (oDec_at oX5_noteStatement 25 rfl) (by decide) (fun cd11 => ?_) (fun cd11 => ?_)
      · skip
        replace pu9_1 := pu9_1 (by omega)
        clear pu9_2
        refine r_aload_n C (j := 0) (oDec_at oX5_noteStatement 28 rfl) rfl rfl ?_
        refine r_iconst C (oDec_at oX5_noteStatement 29 rfl) (v := k1) (by rw [qk1]; rfl) ?_
        refine r_bipush C (oDec_at oX5_noteStatement 30 rfl) (v := k16) (by rw [qk16]; rfl) ?_
        refine r_bipush C (oDec_at oX5_noteStatement 31 rfl) (v := k96) (by rw [qk96]; rfl) ?_
        refine r_aload_n C (j := 1) (oDec_at oX5_noteStatement 32 rfl) rfl rfl ?_
        obtain ⟨v12, ev12⟩ : ∃ z : Int32, (u9).1 c1 5 = z := ⟨_, rfl⟩
        have gv12 : (s.1 c1 5).toInt = v12.toInt := congrArg Int32.toInt ((((fu9 c1 5 (by rw [hk1]; rfl)).1).trans (((fu6 c1 5 (by rw [hk1]; rfl)).1).trans ((fu1 c1 5 (by rw [hk1]; rfl)).1))).symm.trans ev12)
        have ggv12 : ((u9).1 c1 5).toInt = v12.toInt := congrArg Int32.toInt ev12
        refine r_getiN (k := 5) (lo := 0) (hi := 96) C v12 oCl4 hk1 (by decide) flX5_77 rfl rfl (ev12) rfl rfl (oDec_at oX5_noteStatement 33 rfl) (fun b13 b13h => ?_)
        refine r_pc C 55 rfl ?_
        obtain ⟨v14, ev14⟩ : ∃ z : Int32, z = k96 - v12 := ⟨_, rfl⟩
        have hv14 : v14.toInt = k96.toInt - v12.toInt := n_sub ev14 (by omega) (by omega)
        refine r_isub C v14 (oDec_at oX5_noteStatement 34 rfl) ev14 ?_
        refine r_callSi C miJ9_min_7cf53 mlX5_80 (ct_J9_min_7cf53 l E (u9) k16 v14 ) (by decide) rfl rfl rfl (Nat.le_of_ble_eq_true rfl) (oDec_at oX5_noteStatement 35 rfl) (fun r16 u15 pu15 fu15 => ?_)
        try dsimp only at pu15
        have hxu15 := oFr_nil fu15; subst hxu15
        have rr16 := n_rng r16
        have hmin : r16.toInt = min 16 (96 - T) := by omega
        clear pu15
        refine r_callVi C oCl5 rfl miX5_number mlX5_70 (ct4_X5_number l E (u9) k1 r16 (g) (oqA2 g a b) (oqA2 g a b) (1) (min 16 (96 - T)) (by omega) (by omega) (oqX_fr fu9 rfl (oqX_fr fu6 rfl (oqX_fr fu1 rfl hp2))) (by omega) (by omega) (by omega)) (by decide) rfl rfl rfl (Nat.le_of_ble_eq_true rfl) (oDec_at oX5_noteStatement 36 rfl) (fun r18 u17 pu17 fu17 => ?_)
        try dsimp only at pu17
        obtain ⟨pu17_0, pu17_1⟩ := pu17
        have rr18 := n_rng r18
        refine r_istore_n C (lv' := [(0, .ref (oad E 30)), (1, .ref (oad E c1)), (2, .int km1), (3, .int r18)]) [1, 2, 3, 0] (oDec_at oX5_noteStatement 37 rfl) rfl (by decide) rfl ?_
        refine r_iload_n C (j := 3) (oDec_at oX5_noteStatement 38 rfl) rfl rfl ?_
        refine r_iconst C (oDec_at oX5_noteStatement 39 rfl) (v := km1) (by rw [qkm1]; rfl) ?_
        refine r_pc C 65 rfl ?_
        refine r_icmp_eq C 90 (oDec_at oX5_noteStatement 40 rfl) (by decide) (fun cd19 => ?_) (fun cd19 => ?_)
        · skip
          refine r_iconst C (oDec_at oX5_noteStatement 52 rfl) (v := k0) (by rw [qk0]; rfl) ?_
          have lk20 : ((u17).1 c1 5).toInt = v12.toInt := congrArg Int32.toInt (((fu17 c1 5 (by rw [hk1]; rfl)).1).trans (ev12))
          have lk21 : ((u17).1 c1 4).toInt = (s.1 c1 4).toInt := congrArg Int32.toInt (((fu17 c1 4 (by rw [hk1]; rfl)).1).trans (((fu9 c1 4 (by rw [hk1]; rfl)).1).trans (((fu6 c1 4 (by rw [hk1]; rfl)).1).trans ((fu1 c1 4 (by rw [hk1]; rfl)).1))))
          exact r_zret C (n_bool (by omega)) (oDec_at oX5_noteStatement 53 rfl) ⟨_, rfl, ⟨by omega, by first | (intro h; exfalso; omega) | (have hT := oqT_0 (g := g) (a := a) (b := b) (T := T) hHD (by omega) (by omega) (by omega); omega), by first | (intro h; exfalso; omega) | (have hT := oqT_5 (g := g) (a := a) (b := b) (T := T) hHD (by omega) (by omega) (by omega); omega) | (have hT := oqT_4 (g := g) (a := a) (b := b) (T := T) hHD (by omega) (by omega); omega)⟩⟩
        · skip
          replace pu17_0 := pu17_0.resolve_left (by omega)
          clear pu17_1
          refine r_aload_n C (j := 1) (oDec_at oX5_noteStatement 41 rfl) rfl rfl ?_
          refine r_iload_n C (j := 2) (oDec_at oX5_noteStatement 42 rfl) rfl rfl ?_
          refine r_iload_n C (j := 3) (oDec_at oX5_noteStatement 43 rfl) rfl rfl ?_
          have lk22 : ((u17).1 c1 4).toInt = (s.1 c1 4).toInt := congrArg Int32.toInt (((fu17 c1 4 (by rw [hk1]; rfl)).1).trans (((fu9 c1 4 (by rw [hk1]; rfl)).1).trans (((fu6 c1 4 (by rw [hk1]; rfl)).1).trans ((fu1 c1 4 (by rw [hk1]; rfl)).1))))
          have lk23 : ((u17).1 c1 5).toInt = v12.toInt := congrArg Int32.toInt (((fu17 c1 5 (by rw [hk1]; rfl)).1).trans (ev12))
          have lk24 : ((u17).1 c1 4).toInt = (s.1 c1 4).toInt := congrArg Int32.toInt (((fu17 c1 4 (by rw [hk1]; rfl)).1).trans (((fu9 c1 4 (by rw [hk1]; rfl)).1).trans (((fu6 c1 4 (by rw [hk1]; rfl)).1).trans ((fu1 c1 4 (by rw [hk1]; rfl)).1))))
          have lk25 : ((u17).1 c1 5).toInt = v12.toInt := congrArg Int32.toInt (((fu17 c1 5 (by rw [hk1]; rfl)).1).trans (ev12))
          refine r_callVi C oCl4 hk1 miX4_add mlX5_85 (ct5_X4_add l E (u17) c1 hk1 km1 r18 ) (by decide) rfl rfl rfl (Nat.le_of_ble_eq_true rfl) (oDec_at oX5_noteStatement 44 rfl) (fun r27 u26 pu26 fu26 => ?_)
          try dsimp only at pu26
          try simp only [lk22, lk23, lk24, lk25] at pu26
          obtain ⟨pu26_0, pu26_1, pu26_2⟩ := pu26
          have rr27 := n_rng r27
          refine r_if_eq C 90 (oDec_at oX5_noteStatement 45 rfl) (by decide) (fun cd28 => ?_) (fun cd28 => ?_)
          · skip
            clear pu26_1
            replace pu26_2 := pu26_2 (by omega)
            refine r_iconst C (oDec_at oX5_noteStatement 52 rfl) (v := k0) (by rw [qk0]; rfl) ?_
            have lk29 : ((u26).1 30 2).toInt = (u17.1 30 2).toInt := congrArg Int32.toInt ((fu26 30 2 rfl).1)
            have lk30 : ((u26).1 30 3).toInt = (u17.1 30 3).toInt := congrArg Int32.toInt ((fu26 30 3 rfl).1)
            have lk31 : ((u26).1 30 8).toInt = (u17.1 30 8).toInt := congrArg Int32.toInt ((fu26 30 8 rfl).1)
            have lk32 : ((u26).1 30 9).toInt = (u17.1 30 9).toInt := congrArg Int32.toInt ((fu26 30 9 rfl).1)
            have lk33 : ((u26).1 30 8).toInt = (u17.1 30 8).toInt := congrArg Int32.toInt ((fu26 30 8 rfl).1)
            have lk34 : ((u26).1 30 9).toInt = (u17.1 30 9).toInt := congrArg Int32.toInt ((fu26 30 9 rfl).1)
            exact r_zret C (n_bool (by omega)) (oDec_at oX5_noteStatement 53 rfl) ⟨_, rfl, ⟨by omega, by first | (intro h; exfalso; omega) | (have hT := oqT_0 (g := g) (a := a) (b := b) (T := T) hHD (by omega) (by omega) (by omega); omega), by first | (intro h; exfalso; omega) | (have hT := oqT_5 (g := g) (a := a) (b := b) (T := T) hHD (by omega) (by omega) (by omega); omega) | (have hT := oqT_4 (g := g) (a := a) (b := b) (T := T) hHD (by omega) (by omega); omega)⟩⟩
          · skip
            replace pu26_1 := pu26_1 (by omega)
            clear pu26_2
            refine r_aload_n C (j := 0) (oDec_at oX5_noteStatement 46 rfl) rfl rfl ?_
            refine r_bipush C (oDec_at oX5_noteStatement 47 rfl) (v := k59) (by rw [qk59]; rfl) ?_
            have lk35 : ((u26).1 30 2).toInt = (u17.1 30 2).toInt := congrArg Int32.toInt ((fu26 30 2 rfl).1)
            have lk36 : ((u26).1 30 8).toInt = (u17.1 30 8).toInt := congrArg Int32.toInt ((fu26 30 8 rfl).1)
            have lk37 : ((u26).1 30 9).toInt = (u17.1 30 9).toInt := congrArg Int32.toInt ((fu26 30 9 rfl).1)
            refine r_callVi C oCl5 rfl miX5_expectSign mlX5_88 (ct4_X5_expectSign l E (u26) k59 (g) (oqTb g a b) (59) (by omega) (oqX_fr fu26 rfl (oqX_fr fu17 rfl (oqX_fr fu9 rfl (oqX_fr fu6 rfl (oqX_fr fu1 rfl hp2))))) (by omega) (by omega)) (by decide) rfl rfl rfl (Nat.le_of_ble_eq_true rfl) (oDec_at oX5_noteStatement 48 rfl) (fun r39 u38 pu38 fu38 => ?_)
            try dsimp only at pu38
            try simp only [lk35, lk36, lk37] at pu38
            obtain ⟨pu38_0, pu38_1, pu38_2⟩ := pu38
            have rr39 := n_rng r39
            refine r_if_eq C 90 (oDec_at oX5_noteStatement 49 rfl) (by decide) (fun cd40 => ?_) (fun cd40 => ?_)
            · skip
              clear pu38_1
              replace pu38_2 := pu38_2 (by omega)
              refine r_iconst C (oDec_at oX5_noteStatement 52 rfl) (v := k0) (by rw [qk0]; rfl) ?_
              have lk41 : ((u38).1 30 3).toInt = (u17.1 30 3).toInt := congrArg Int32.toInt (((fu38 30 3 rfl).1).trans ((fu26 30 3 rfl).1))
              have lk42 : ((u38).1 c1 5).toInt = (u26.1 c1 5).toInt := congrArg Int32.toInt ((fu38 c1 5 (by rw [hk1]; rfl)).1)
              have lk43 : ((u38).1 c1 4).toInt = (u26.1 c1 4).toInt := congrArg Int32.toInt ((fu38 c1 4 (by rw [hk1]; rfl)).1)
              exact r_zret C (n_bool (by omega)) (oDec_at oX5_noteStatement 53 rfl) ⟨_, rfl, ⟨by omega, by first | (intro h; exfalso; omega) | (have hT := oqT_0 (g := g) (a := a) (b := b) (T := T) hHD (by omega) (by omega) (by omega); omega), by first | (intro h; exfalso; omega) | (have hT := oqT_5 (g := g) (a := a) (b := b) (T := T) hHD (by omega) (by omega) (by omega); omega) | (have hT := oqT_4 (g := g) (a := a) (b := b) (T := T) hHD (by omega) (by omega); omega)⟩⟩
            · skip
              replace pu38_1 := pu38_1 (by omega)
              clear pu38_2
              refine r_iconst C (oDec_at oX5_noteStatement 50 rfl) (v := k1) (by rw [qk1]; rfl) ?_
              refine r_goto C (tgt := 91) (oDec_at oX5_noteStatement 51 rfl) (by decide) ?_
              have lk44 : ((u38).1 30 3).toInt = (u17.1 30 3).toInt := congrArg Int32.toInt (((fu38 30 3 rfl).1).trans ((fu26 30 3 rfl).1))
              have lk45 : ((u38).1 c1 5).toInt = (u26.1 c1 5).toInt := congrArg Int32.toInt ((fu38 c1 5 (by rw [hk1]; rfl)).1)
              have lk46 : ((u38).1 c1 4).toInt = (u26.1 c1 4).toInt := congrArg Int32.toInt ((fu38 c1 4 (by rw [hk1]; rfl)).1)
              exact r_zret C (n_bool (by omega)) (oDec_at oX5_noteStatement 53 rfl) ⟨_, rfl, ⟨by omega, by first | (intro h; exfalso; omega) | (have hT := oqT_0 (g := g) (a := a) (b := b) (T := T) hHD (by omega) (by omega) (by omega); omega), by first | (intro h; exfalso; omega) | (have hT := oqT_5 (g := g) (a := a) (b := b) (T := T) hHD (by omega) (by omega) (by omega); omega) | (have hT := oqT_4 (g := g) (a := a) (b := b) (T := T) hHD (by omega) (by omega); omega)⟩⟩
      · skip
        clear pu9_1
        replace pu9_2 := pu9_2 (by omega)
        have hT := oqT_3 (g := g) (a := a) (b := b) (T := T) hHD (by omega)
        refine r_iconst C (oDec_at oX5_noteStatement 26 rfl) (v := k0) (by rw [qk0]; rfl) ?_
        have lk47 : ((u9).1 c1 5).toInt = (s.1 c1 5).toInt := congrArg Int32.toInt (((fu9 c1 5 (by rw [hk1]; rfl)).1).trans (((fu6 c1 5 (by rw [hk1]; rfl)).1).trans ((fu1 c1 5 (by rw [hk1]; rfl)).1)))
        have lk48 : ((u9).1 c1 4).toInt = (s.1 c1 4).toInt := congrArg Int32.toInt (((fu9 c1 4 (by rw [hk1]; rfl)).1).trans (((fu6 c1 4 (by rw [hk1]; rfl)).1).trans ((fu1 c1 4 (by rw [hk1]; rfl)).1)))
        exact r_zret C (n_bool (by omega)) (oDec_at oX5_noteStatement 27 rfl) ⟨_, rfl, ⟨by omega, by omega, by omega⟩⟩
    · skip
      clear pu6_1
      replace pu6_2 := pu6_2 (by omega)
      have hT := oqT_2 (g := g) (a := a) (b := b) (T := T) (by omega) (by omega)
      refine r_iconst C (oDec_at oX5_noteStatement 20 rfl) (v := k0) (by rw [qk0]; rfl) ?_
      have lk49 : ((u6).1 c1 5).toInt = (s.1 c1 5).toInt := congrArg Int32.toInt (((fu6 c1 5 (by rw [hk1]; rfl)).1).trans ((fu1 c1 5 (by rw [hk1]; rfl)).1))
      have lk50 : ((u6).1 c1 4).toInt = (s.1 c1 4).toInt := congrArg Int32.toInt (((fu6 c1 4 (by rw [hk1]; rfl)).1).trans ((fu1 c1 4 (by rw [hk1]; rfl)).1))
      exact r_zret C (n_bool (by omega)) (oDec_at oX5_noteStatement 21 rfl) ⟨_, rfl, ⟨by omega, by omega, by omega⟩⟩
  · skip
    replace pu1_1 := pu1_1 (by omega)
    clear pu1_2
    refine r_aload_n C (j := 0) (oDec_at oX5_noteStatement 6 rfl) rfl rfl ?_
    refine r_iconst C (oDec_at oX5_noteStatement 7 rfl) (v := k0) (by rw [qk0]; rfl) ?_
    refine r_bipush C (oDec_at oX5_noteStatement 8 rfl) (v := k28) (by rw [qk28]; rfl) ?_
    have lk51 : ((u1).1 30 8).toInt = (s.1 30 8).toInt := congrArg Int32.toInt ((fu1 30 8 rfl).1)
    have lk52 : ((u1).1 30 9).toInt = (s.1 30 9).toInt := congrArg Int32.toInt ((fu1 30 9 rfl).1)
    refine r_callVi C oCl5 rfl miX5_number mlX5_70 (ct4_X5_number l E (u1) k0 k28 (g) (oqHa g a 0) (oqHa g a 0) (0) (28) (by omega) (by omega) (oqX_fr fu1 rfl hp2) (by omega) (by omega) (by omega)) (by decide) rfl rfl rfl (Nat.le_of_ble_eq_true rfl) (oDec_at oX5_noteStatement 9 rfl) (fun r54 u53 pu53 fu53 => ?_)
    try dsimp only at pu53
    try simp only [lk51, lk52] at pu53
    obtain ⟨pu53_0, pu53_1⟩ := pu53
    have rr54 := n_rng r54
    refine r_istore_n C (lv' := [(0, .ref (oad E 30)), (1, .ref (oad E c1)), (2, .int r54)]) [1, 2, 0] (oDec_at oX5_noteStatement 10 rfl) rfl (by decide) rfl ?_
    refine r_iload_n C (j := 2) (oDec_at oX5_noteStatement 11 rfl) rfl rfl ?_
    refine r_pc C 19 rfl ?_
    refine r_iconst C (oDec_at oX5_noteStatement 12 rfl) (v := km1) (by rw [qkm1]; rfl) ?_
    refine r_icmp_ne C 35 (oDec_at oX5_noteStatement 13 rfl) (by decide) (fun cd55 => ?_) (fun cd55 => ?_)
    · skip
      replace pu53_0 := pu53_0.resolve_left (by omega)
      have hHD : oqHD g a b := by unfold oqHD; omega
      have hA1 : oqA1 g a b = ((u53).1 30 2).toInt := by first | (rw [oqA1_s (by omega)]; omega) | (rw [oqA1_r (by omega)]; omega)
      have hL2 : -1 ≤ r54.toInt ∧ r54.toInt ≤ 28 := by omega
      refine r_aload_n C (j := 0) (oDec_at oX5_noteStatement 22 rfl) rfl rfl ?_
      refine r_iconst C (oDec_at oX5_noteStatement 23 rfl) (v := k1) (by rw [qk1]; rfl) ?_
      refine r_callVi C oCl5 rfl miX5_expect mlX5_74 (ct4_X5_expect l E (u53) k1 (g) (oqA1 g a b) (oqA1 g a b) (1) (by omega) (by omega) (oqX_fr fu53 rfl (oqX_fr fu1 rfl hp2)) (by omega) (by omega)) (by decide) rfl rfl rfl (Nat.le_of_ble_eq_true rfl) (oDec_at oX5_noteStatement 24 rfl) (fun r57 u56 pu56 fu56 => ?_)
      try dsimp only at pu56
      obtain ⟨pu56_0, pu56_1, pu56_2⟩ := pu56
      have rr57 := n_rng r57
      refine r_if_ne C 45 (oDec_at oX5_noteStatement 25 rfl) (by decide) (fun cd58 => ?_) (fun cd58 => ?_)
      · skip
        replace pu56_1 := pu56_1 (by omega)
        clear pu56_2
        refine r_aload_n C (j := 0) (oDec_at oX5_noteStatement 28 rfl) rfl rfl ?_
        refine r_iconst C (oDec_at oX5_noteStatement 29 rfl) (v := k1) (by rw [qk1]; rfl) ?_
        refine r_bipush C (oDec_at oX5_noteStatement 30 rfl) (v := k16) (by rw [qk16]; rfl) ?_
        refine r_bipush C (oDec_at oX5_noteStatement 31 rfl) (v := k96) (by rw [qk96]; rfl) ?_
        refine r_aload_n C (j := 1) (oDec_at oX5_noteStatement 32 rfl) rfl rfl ?_
        obtain ⟨v59, ev59⟩ : ∃ z : Int32, (u56).1 c1 5 = z := ⟨_, rfl⟩
        have gv59 : (s.1 c1 5).toInt = v59.toInt := congrArg Int32.toInt ((((fu56 c1 5 (by rw [hk1]; rfl)).1).trans (((fu53 c1 5 (by rw [hk1]; rfl)).1).trans ((fu1 c1 5 (by rw [hk1]; rfl)).1))).symm.trans ev59)
        have ggv59 : ((u56).1 c1 5).toInt = v59.toInt := congrArg Int32.toInt ev59
        refine r_getiN (k := 5) (lo := 0) (hi := 96) C v59 oCl4 hk1 (by decide) flX5_77 rfl rfl (ev59) rfl rfl (oDec_at oX5_noteStatement 33 rfl) (fun b60 b60h => ?_)
        refine r_pc C 55 rfl ?_
        obtain ⟨v61, ev61⟩ : ∃ z : Int32, z = k96 - v59 := ⟨_, rfl⟩
        have hv61 : v61.toInt = k96.toInt - v59.toInt := n_sub ev61 (by omega) (by omega)
        refine r_isub C v61 (oDec_at oX5_noteStatement 34 rfl) ev61 ?_
        refine r_callSi C miJ9_min_7cf53 mlX5_80 (ct_J9_min_7cf53 l E (u56) k16 v61 ) (by decide) rfl rfl rfl (Nat.le_of_ble_eq_true rfl) (oDec_at oX5_noteStatement 35 rfl) (fun r63 u62 pu62 fu62 => ?_)
        try dsimp only at pu62
        have hxu62 := oFr_nil fu62; subst hxu62
        have rr63 := n_rng r63
        have hmin : r63.toInt = min 16 (96 - T) := by omega
        clear pu62
        refine r_callVi C oCl5 rfl miX5_number mlX5_70 (ct4_X5_number l E (u56) k1 r63 (g) (oqA2 g a b) (oqA2 g a b) (1) (min 16 (96 - T)) (by omega) (by omega) (oqX_fr fu56 rfl (oqX_fr fu53 rfl (oqX_fr fu1 rfl hp2))) (by omega) (by omega) (by omega)) (by decide) rfl rfl rfl (Nat.le_of_ble_eq_true rfl) (oDec_at oX5_noteStatement 36 rfl) (fun r65 u64 pu64 fu64 => ?_)
        try dsimp only at pu64
        obtain ⟨pu64_0, pu64_1⟩ := pu64
        have rr65 := n_rng r65
        refine r_istore_n C (lv' := [(0, .ref (oad E 30)), (1, .ref (oad E c1)), (2, .int r54), (3, .int r65)]) [1, 2, 3, 0] (oDec_at oX5_noteStatement 37 rfl) rfl (by decide) rfl ?_
        refine r_iload_n C (j := 3) (oDec_at oX5_noteStatement 38 rfl) rfl rfl ?_
        refine r_iconst C (oDec_at oX5_noteStatement 39 rfl) (v := km1) (by rw [qkm1]; rfl) ?_
        refine r_pc C 65 rfl ?_
        refine r_icmp_eq C 90 (oDec_at oX5_noteStatement 40 rfl) (by decide) (fun cd66 => ?_) (fun cd66 => ?_)
        · skip
          refine r_iconst C (oDec_at oX5_noteStatement 52 rfl) (v := k0) (by rw [qk0]; rfl) ?_
          have lk67 : ((u64).1 c1 5).toInt = v59.toInt := congrArg Int32.toInt (((fu64 c1 5 (by rw [hk1]; rfl)).1).trans (ev59))
          have lk68 : ((u64).1 c1 4).toInt = (s.1 c1 4).toInt := congrArg Int32.toInt (((fu64 c1 4 (by rw [hk1]; rfl)).1).trans (((fu56 c1 4 (by rw [hk1]; rfl)).1).trans (((fu53 c1 4 (by rw [hk1]; rfl)).1).trans ((fu1 c1 4 (by rw [hk1]; rfl)).1))))
          exact r_zret C (n_bool (by omega)) (oDec_at oX5_noteStatement 53 rfl) ⟨_, rfl, ⟨by omega, by first | (intro h; exfalso; omega) | (have hT := oqT_0 (g := g) (a := a) (b := b) (T := T) hHD (by omega) (by omega) (by omega); omega), by first | (intro h; exfalso; omega) | (have hT := oqT_5 (g := g) (a := a) (b := b) (T := T) hHD (by omega) (by omega) (by omega); omega) | (have hT := oqT_4 (g := g) (a := a) (b := b) (T := T) hHD (by omega) (by omega); omega)⟩⟩
        · skip
          replace pu64_0 := pu64_0.resolve_left (by omega)
          clear pu64_1
          refine r_aload_n C (j := 1) (oDec_at oX5_noteStatement 41 rfl) rfl rfl ?_
          refine r_iload_n C (j := 2) (oDec_at oX5_noteStatement 42 rfl) rfl rfl ?_
          refine r_iload_n C (j := 3) (oDec_at oX5_noteStatement 43 rfl) rfl rfl ?_
          have lk69 : ((u64).1 c1 4).toInt = (s.1 c1 4).toInt := congrArg Int32.toInt (((fu64 c1 4 (by rw [hk1]; rfl)).1).trans (((fu56 c1 4 (by rw [hk1]; rfl)).1).trans (((fu53 c1 4 (by rw [hk1]; rfl)).1).trans ((fu1 c1 4 (by rw [hk1]; rfl)).1))))
          have lk70 : ((u64).1 c1 5).toInt = v59.toInt := congrArg Int32.toInt (((fu64 c1 5 (by rw [hk1]; rfl)).1).trans (ev59))
          have lk71 : ((u64).1 c1 4).toInt = (s.1 c1 4).toInt := congrArg Int32.toInt (((fu64 c1 4 (by rw [hk1]; rfl)).1).trans (((fu56 c1 4 (by rw [hk1]; rfl)).1).trans (((fu53 c1 4 (by rw [hk1]; rfl)).1).trans ((fu1 c1 4 (by rw [hk1]; rfl)).1))))
          have lk72 : ((u64).1 c1 5).toInt = v59.toInt := congrArg Int32.toInt (((fu64 c1 5 (by rw [hk1]; rfl)).1).trans (ev59))
          refine r_callVi C oCl4 hk1 miX4_add mlX5_85 (ct5_X4_add l E (u64) c1 hk1 r54 r65 ) (by decide) rfl rfl rfl (Nat.le_of_ble_eq_true rfl) (oDec_at oX5_noteStatement 44 rfl) (fun r74 u73 pu73 fu73 => ?_)
          try dsimp only at pu73
          try simp only [lk69, lk70, lk71, lk72] at pu73
          obtain ⟨pu73_0, pu73_1, pu73_2⟩ := pu73
          have rr74 := n_rng r74
          refine r_if_eq C 90 (oDec_at oX5_noteStatement 45 rfl) (by decide) (fun cd75 => ?_) (fun cd75 => ?_)
          · skip
            clear pu73_1
            replace pu73_2 := pu73_2 (by omega)
            refine r_iconst C (oDec_at oX5_noteStatement 52 rfl) (v := k0) (by rw [qk0]; rfl) ?_
            have lk76 : ((u73).1 30 2).toInt = (u64.1 30 2).toInt := congrArg Int32.toInt ((fu73 30 2 rfl).1)
            have lk77 : ((u73).1 30 3).toInt = (u64.1 30 3).toInt := congrArg Int32.toInt ((fu73 30 3 rfl).1)
            have lk78 : ((u73).1 30 8).toInt = (u64.1 30 8).toInt := congrArg Int32.toInt ((fu73 30 8 rfl).1)
            have lk79 : ((u73).1 30 9).toInt = (u64.1 30 9).toInt := congrArg Int32.toInt ((fu73 30 9 rfl).1)
            have lk80 : ((u73).1 30 8).toInt = (u64.1 30 8).toInt := congrArg Int32.toInt ((fu73 30 8 rfl).1)
            have lk81 : ((u73).1 30 9).toInt = (u64.1 30 9).toInt := congrArg Int32.toInt ((fu73 30 9 rfl).1)
            exact r_zret C (n_bool (by omega)) (oDec_at oX5_noteStatement 53 rfl) ⟨_, rfl, ⟨by omega, by first | (intro h; exfalso; omega) | (have hT := oqT_0 (g := g) (a := a) (b := b) (T := T) hHD (by omega) (by omega) (by omega); omega), by first | (intro h; exfalso; omega) | (have hT := oqT_5 (g := g) (a := a) (b := b) (T := T) hHD (by omega) (by omega) (by omega); omega) | (have hT := oqT_4 (g := g) (a := a) (b := b) (T := T) hHD (by omega) (by omega); omega)⟩⟩
          · skip
            replace pu73_1 := pu73_1 (by omega)
            clear pu73_2
            refine r_aload_n C (j := 0) (oDec_at oX5_noteStatement 46 rfl) rfl rfl ?_
            refine r_bipush C (oDec_at oX5_noteStatement 47 rfl) (v := k59) (by rw [qk59]; rfl) ?_
            have lk82 : ((u73).1 30 2).toInt = (u64.1 30 2).toInt := congrArg Int32.toInt ((fu73 30 2 rfl).1)
            have lk83 : ((u73).1 30 8).toInt = (u64.1 30 8).toInt := congrArg Int32.toInt ((fu73 30 8 rfl).1)
            have lk84 : ((u73).1 30 9).toInt = (u64.1 30 9).toInt := congrArg Int32.toInt ((fu73 30 9 rfl).1)
            refine r_callVi C oCl5 rfl miX5_expectSign mlX5_88 (ct4_X5_expectSign l E (u73) k59 (g) (oqTb g a b) (59) (by omega) (oqX_fr fu73 rfl (oqX_fr fu64 rfl (oqX_fr fu56 rfl (oqX_fr fu53 rfl (oqX_fr fu1 rfl hp2))))) (by omega) (by omega)) (by decide) rfl rfl rfl (Nat.le_of_ble_eq_true rfl) (oDec_at oX5_noteStatement 48 rfl) (fun r86 u85 pu85 fu85 => ?_)
            try dsimp only at pu85
            try simp only [lk82, lk83, lk84] at pu85
            obtain ⟨pu85_0, pu85_1, pu85_2⟩ := pu85
            have rr86 := n_rng r86
            refine r_if_eq C 90 (oDec_at oX5_noteStatement 49 rfl) (by decide) (fun cd87 => ?_) (fun cd87 => ?_)
            · skip
              clear pu85_1
              replace pu85_2 := pu85_2 (by omega)
              refine r_iconst C (oDec_at oX5_noteStatement 52 rfl) (v := k0) (by rw [qk0]; rfl) ?_
              have lk88 : ((u85).1 30 3).toInt = (u64.1 30 3).toInt := congrArg Int32.toInt (((fu85 30 3 rfl).1).trans ((fu73 30 3 rfl).1))
              have lk89 : ((u85).1 c1 5).toInt = (u73.1 c1 5).toInt := congrArg Int32.toInt ((fu85 c1 5 (by rw [hk1]; rfl)).1)
              have lk90 : ((u85).1 c1 4).toInt = (u73.1 c1 4).toInt := congrArg Int32.toInt ((fu85 c1 4 (by rw [hk1]; rfl)).1)
              exact r_zret C (n_bool (by omega)) (oDec_at oX5_noteStatement 53 rfl) ⟨_, rfl, ⟨by omega, by first | (intro h; exfalso; omega) | (have hT := oqT_0 (g := g) (a := a) (b := b) (T := T) hHD (by omega) (by omega) (by omega); omega), by first | (intro h; exfalso; omega) | (have hT := oqT_5 (g := g) (a := a) (b := b) (T := T) hHD (by omega) (by omega) (by omega); omega) | (have hT := oqT_4 (g := g) (a := a) (b := b) (T := T) hHD (by omega) (by omega); omega)⟩⟩
            · skip
              replace pu85_1 := pu85_1 (by omega)
              clear pu85_2
              refine r_iconst C (oDec_at oX5_noteStatement 50 rfl) (v := k1) (by rw [qk1]; rfl) ?_
              refine r_goto C (tgt := 91) (oDec_at oX5_noteStatement 51 rfl) (by decide) ?_
              have lk91 : ((u85).1 30 3).toInt = (u64.1 30 3).toInt := congrArg Int32.toInt (((fu85 30 3 rfl).1).trans ((fu73 30 3 rfl).1))
              have lk92 : ((u85).1 c1 5).toInt = (u73.1 c1 5).toInt := congrArg Int32.toInt ((fu85 c1 5 (by rw [hk1]; rfl)).1)
              have lk93 : ((u85).1 c1 4).toInt = (u73.1 c1 4).toInt := congrArg Int32.toInt ((fu85 c1 4 (by rw [hk1]; rfl)).1)
              exact r_zret C (n_bool (by omega)) (oDec_at oX5_noteStatement 53 rfl) ⟨_, rfl, ⟨by omega, by first | (intro h; exfalso; omega) | (have hT := oqT_0 (g := g) (a := a) (b := b) (T := T) hHD (by omega) (by omega) (by omega); omega), by first | (intro h; exfalso; omega) | (have hT := oqT_5 (g := g) (a := a) (b := b) (T := T) hHD (by omega) (by omega) (by omega); omega) | (have hT := oqT_4 (g := g) (a := a) (b := b) (T := T) hHD (by omega) (by omega); omega)⟩⟩
      · skip
        clear pu56_1
        replace pu56_2 := pu56_2 (by omega)
        have hT := oqT_3 (g := g) (a := a) (b := b) (T := T) hHD (by omega)
        refine r_iconst C (oDec_at oX5_noteStatement 26 rfl) (v := k0) (by rw [qk0]; rfl) ?_
        have lk94 : ((u56).1 c1 5).toInt = (s.1 c1 5).toInt := congrArg Int32.toInt (((fu56 c1 5 (by rw [hk1]; rfl)).1).trans (((fu53 c1 5 (by rw [hk1]; rfl)).1).trans ((fu1 c1 5 (by rw [hk1]; rfl)).1)))
        have lk95 : ((u56).1 c1 4).toInt = (s.1 c1 4).toInt := congrArg Int32.toInt (((fu56 c1 4 (by rw [hk1]; rfl)).1).trans (((fu53 c1 4 (by rw [hk1]; rfl)).1).trans ((fu1 c1 4 (by rw [hk1]; rfl)).1)))
        exact r_zret C (n_bool (by omega)) (oDec_at oX5_noteStatement 27 rfl) ⟨_, rfl, ⟨by omega, by omega, by omega⟩⟩
    · skip
      clear pu53_0
      replace pu53_1 := pu53_1.resolve_left (by omega)
      have hT := oqT_1 (g := g) (a := a) (b := b) (T := T) (by omega) (by omega)
      refine r_iconst C (oDec_at oX5_noteStatement 14 rfl) (v := k0) (by rw [qk0]; rfl) ?_
      have lk96 : ((u53).1 c1 5).toInt = (s.1 c1 5).toInt := congrArg Int32.toInt (((fu53 c1 5 (by rw [hk1]; rfl)).1).trans ((fu1 c1 5 (by rw [hk1]; rfl)).1))
      have lk97 : ((u53).1 c1 4).toInt = (s.1 c1 4).toInt := congrArg Int32.toInt (((fu53 c1 4 (by rw [hk1]; rfl)).1).trans ((fu1 c1 4 (by rw [hk1]; rfl)).1))
      exact r_zret C (n_bool (by omega)) (oDec_at oX5_noteStatement 15 rfl) ⟨_, rfl, ⟨by omega, by omega, by omega⟩⟩
set_option maxHeartbeats 4000000 in
set_option maxRecDepth 100000 in
theorem ct4_X5_readLine (l : Launch) (E : oE) (s : oS) (c1 : Nat) (hk1 : okd c1 = 4) (g : Int → Int) (hp0 : oqX g s) : oMet l 8 yX5_readLine cX5_readLine 3 (some .int) [(4, 4), (4, 5), (4, 6), (4, 7), (5, 2), (5, 3), (5, 4), (5, 5), (5, 8), (5, 9), (16, 9999), (17, 9999), (18, 9999), (19, 9999)] E s [.ref (oad E 30), .ref (oad E c1)] (oPi (fun r u => (r.toInt = oqR1 g) ∧ ((u.1 30 8).toInt = oqR2 g) ∧ ((u.1 30 9).toInt = oqR3 g))) := by
  refine oMet.of (lv := [(0, .ref (oad E 30)), (1, .ref (oad E c1))]) (by decide +kernel) (Nat.le_of_ble_eq_true rfl) rfl (fun J C hT => ?_)
  have C : oC l 8 cX5_readLine RX5 3 (some .int) [(4, 4), (4, 5), (4, 6), (4, 7), (5, 2), (5, 3), (5, 4), (5, 5), (5, 8), (5, 9), (16, 9999), (17, 9999), (18, 9999), (19, 9999)] E s (oPi (fun r u => (r.toInt = oqR1 g) ∧ ((u.1 30 8).toInt = oqR2 g) ∧ ((u.1 30 9).toInt = oqR3 g))) J := C
  obtain ⟨km1, qkm1⟩ : ∃ z : Int32, z = (-1) := ⟨_, rfl⟩
  have ekm1 : km1.toInt = (-1) := by rw [qkm1]; rfl
  obtain ⟨k0, qk0⟩ : ∃ z : Int32, z = 0 := ⟨_, rfl⟩
  have ek0 : k0.toInt = 0 := by rw [qk0]; rfl
  obtain ⟨k24, qk24⟩ : ∃ z : Int32, z = 24 := ⟨_, rfl⟩
  have ek24 : k24.toInt = 24 := by rw [qk24]; rfl
  have key : ∀ n : Nat, (∀ (t : oS) (x2 : Int32), (oqX g t) → (oqRn g (t.1 30 2).toInt (t.1 30 3).toInt (t.1 c1 5).toInt x2.toInt) → (0 ≤ x2.toInt ∧ x2.toInt ≤ 24) → ((t.1 c1 4).toInt = x2.toInt) → ((t.1 30 8).toInt = 0 ∧ (t.1 30 9).toInt = -1) → 25 - x2.toInt ≤ (n : Int) → J t 10 [(0, .ref (oad E 30)), (1, .ref (oad E c1)), (2, .int x2)] []) := by
    intro n
    induction n using Nat.strongRecOn with
    | _ n ih =>
      skip
      · intro t x2  iv0 iv1 iv2 iv3 iv4 hmu
        have rx2 := n_rng x2
        refine r_iload_n C (j := 2) (oDec_at oX5_readLine 6 rfl) rfl rfl ?_
        refine r_bipush C (oDec_at oX5_readLine 7 rfl) (v := k24) (by rw [qk24]; rfl) ?_
        refine r_icmp_ge C 42 (oDec_at oX5_readLine 8 rfl) (by decide) (fun cd1 => ?_) (fun cd1 => ?_)
        · skip
          refine r_aload_n C (j := 0) (oDec_at oX5_readLine 23 rfl) rfl rfl ?_
          refine r_bipush C (oDec_at oX5_readLine 24 rfl) (v := k24) (by rw [qk24]; rfl) ?_
          refine r_callVi C oCl5 rfl miX5_closing mlX5_51 (ct4_X5_closing l E (t) k24 (g) ((t.1 30 2).toInt) (by omega) iv0) (by decide) rfl rfl rfl (Nat.le_of_ble_eq_true rfl) (oDec_at oX5_readLine 25 rfl) (fun r3 u2 pu2 fu2 => ?_)
          try dsimp only at pu2
          have rr3 := n_rng r3
          have hR : (oqR1 g = r3.toInt ∧ oqR2 g = ((u2).1 30 8).toInt ∧ oqR3 g = ((u2).1 30 9).toInt) := by (rcases pu2 with h8 | h8; (have h9 := oqRn_end iv1 (by omega); omega); (have h9 := oqRn_5 iv1 (by omega) (by omega); omega))
          exact r_iret C (oDec_at oX5_readLine 26 rfl) ⟨_, rfl, ⟨by omega, by omega, by omega⟩⟩
        · skip
          refine r_aload_n C (j := 0) (oDec_at oX5_readLine 9 rfl) rfl rfl ?_
          refine r_callVi C oCl5 rfl miX5_peek mlX5_43 (ct4_X5_peek l E (t)  (g) ((t.1 30 2).toInt) (by omega) iv0) (by decide) rfl rfl rfl (Nat.le_of_ble_eq_true rfl) (oDec_at oX5_readLine 10 rfl) (fun r5 u4 pu4 fu4 => ?_)
          try dsimp only at pu4
          obtain ⟨pu4_0, pu4_1, pu4_2, pu4_3, pu4_4, pu4_5⟩ := pu4
          have rr5 := n_rng r5
          refine r_iconst C (oDec_at oX5_readLine 11 rfl) (v := km1) (by rw [qkm1]; rfl) ?_
          refine r_icmp_ne C 26 (oDec_at oX5_readLine 12 rfl) (by decide) (fun cd6 => ?_) (fun cd6 => ?_)
          · skip
            have hss := oqSk_sk (g := g) (a := (t.1 30 2).toInt) ⟨by omega, by omega⟩
            have hgs : g (oqSk g (oqSk g (t.1 30 2).toInt)) = g (oqSk g (t.1 30 2).toInt) := by rw [hss]
            refine r_aload_n C (j := 0) (oDec_at oX5_readLine 15 rfl) rfl rfl ?_
            refine r_aload_n C (j := 1) (oDec_at oX5_readLine 16 rfl) rfl rfl ?_
            have lk7 : ((u4).1 30 3).toInt = (t.1 30 3).toInt := congrArg Int32.toInt ((fu4 30 3 rfl).1)
            have lk8 : ((u4).1 c1 5).toInt = (t.1 c1 5).toInt := congrArg Int32.toInt ((fu4 c1 5 (by rw [hk1]; rfl)).1)
            have lk9 : ((u4).1 c1 4).toInt = (t.1 c1 4).toInt := congrArg Int32.toInt ((fu4 c1 4 (by rw [hk1]; rfl)).1)
            have lk10 : ((u4).1 c1 4).toInt = (t.1 c1 4).toInt := congrArg Int32.toInt ((fu4 c1 4 (by rw [hk1]; rfl)).1)
            have lk11 : ((u4).1 30 8).toInt = (t.1 30 8).toInt := congrArg Int32.toInt ((fu4 30 8 rfl).1)
            have lk12 : ((u4).1 30 9).toInt = (t.1 30 9).toInt := congrArg Int32.toInt ((fu4 30 9 rfl).1)
            refine r_callVi C oCl5 rfl miX5_noteStatement mlX5_47 (ct4_X5_noteStatement l E (u4) c1 hk1 (g) (oqSk g (t.1 30 2).toInt) ((t.1 30 3).toInt) ((t.1 c1 5).toInt) (by omega) (by omega) (oqX_fr fu4 rfl iv0) (by omega) (by omega) (by omega)) (by decide) rfl rfl rfl (Nat.le_of_ble_eq_true rfl) (oDec_at oX5_readLine 17 rfl) (fun r14 u13 pu13 fu13 => ?_)
            try dsimp only at pu13
            try simp only [lk7, lk8, lk9, lk10, lk11, lk12] at pu13
            obtain ⟨pu13_0, pu13_1, pu13_2⟩ := pu13
            have rr14 := n_rng r14
            refine r_if_ne C 36 (oDec_at oX5_readLine 18 rfl) (by decide) (fun cd15 => ?_) (fun cd15 => ?_)
            · skip
              replace pu13_1 := pu13_1 (by omega)
              clear pu13_2
              obtain ⟨v16, ev16⟩ : ∃ z : Int32, x2 + Int32.ofInt 1 = z := ⟨_, rfl⟩
              have hv16 : v16.toInt = x2.toInt + 1 := n_inc ev16 (by decide) (by omega) (by omega)
              refine r_iinc C (j := 2) (lv' := [(0, .ref (oad E 30)), (1, .ref (oad E c1)), (2, .int v16)]) v16 [1, 2, 0] (oDec_at oX5_readLine 21 rfl) rfl ev16 (by decide) rfl ?_
              refine r_goto C (tgt := 10) (oDec_at oX5_readLine 22 rfl) (by decide) ?_
              exact (ih (n - 1) (by omega)) (u13) v16  (oqX_fr fu13 rfl (oqX_fr fu4 rfl iv0)) (by first | exact oqRn_nx iv1 (by omega) (by omega) (by omega) (by omega) (by omega) (by omega) (by omega) | exact oqRn_0 (by omega) (by omega) (by omega) (by omega)) (by omega) (by omega) (by omega) (by omega)
            · skip
              clear pu13_1
              replace pu13_2 := pu13_2 (by omega)
              have hR := oqRn_bad iv1 (by omega) (by omega) (by omega)
              refine r_iconst C (oDec_at oX5_readLine 19 rfl) (v := km1) (by rw [qkm1]; rfl) ?_
              exact r_iret C (oDec_at oX5_readLine 20 rfl) ⟨_, rfl, ⟨by omega, by omega, by omega⟩⟩
          · skip
            have hR := oqRn_end iv1 (by omega)
            refine r_iload_n C (j := 2) (oDec_at oX5_readLine 13 rfl) rfl rfl ?_
            have lk17 : ((u4).1 30 8).toInt = (t.1 30 8).toInt := congrArg Int32.toInt ((fu4 30 8 rfl).1)
            have lk18 : ((u4).1 30 9).toInt = (t.1 30 9).toInt := congrArg Int32.toInt ((fu4 30 9 rfl).1)
            exact r_iret C (oDec_at oX5_readLine 14 rfl) ⟨_, rfl, ⟨by omega, by omega, by omega⟩⟩
  refine r_aload_n C (j := 0) (oDec_at oX5_readLine 0 rfl) rfl rfl ?_
  refine r_callVv C oCl5 rfl miX5_begin mlX5_35 (ct4_X5_begin l E (s)  ) (by decide) rfl rfl rfl (Nat.le_of_ble_eq_true rfl) (oDec_at oX5_readLine 1 rfl) (fun u19 pu19 fu19 => ?_)
  try dsimp only at pu19
  obtain ⟨pu19_0, pu19_1, pu19_2, pu19_3⟩ := pu19
  refine r_aload_n C (j := 1) (oDec_at oX5_readLine 2 rfl) rfl rfl ?_
  refine r_callVv C oCl4 hk1 miX4_clear mlX5_38 (ct_X4_clear l E (u19) c1 hk1 ) (by decide) rfl rfl rfl (Nat.le_of_ble_eq_true rfl) (oDec_at oX5_readLine 3 rfl) (fun u21 pu21 fu21 => ?_)
  try dsimp only at pu21
  obtain ⟨pu21_0, pu21_1⟩ := pu21
  refine r_iconst C (oDec_at oX5_readLine 4 rfl) (v := k0) (by rw [qk0]; rfl) ?_
  refine r_istore_n C (lv' := [(0, .ref (oad E 30)), (1, .ref (oad E c1)), (2, .int k0)]) [1, 2, 0] (oDec_at oX5_readLine 5 rfl) rfl (by decide) rfl ?_
  have lk23 : ((u21).1 30 2).toInt = (u19.1 30 2).toInt := congrArg Int32.toInt ((fu21 30 2 rfl).1)
  have lk24 : ((u21).1 30 3).toInt = (u19.1 30 3).toInt := congrArg Int32.toInt ((fu21 30 3 rfl).1)
  have lk25 : ((u21).1 30 8).toInt = (u19.1 30 8).toInt := congrArg Int32.toInt ((fu21 30 8 rfl).1)
  have lk26 : ((u21).1 30 9).toInt = (u19.1 30 9).toInt := congrArg Int32.toInt ((fu21 30 9 rfl).1)
  exact (key (25 - k0.toInt).toNat) (u21) k0  (oqX_fr fu21 rfl (oqX_fr fu19 rfl hp0)) (by first | exact oqRn_0 (by omega) (by omega) (by omega) (by omega)) (by omega) (by omega) (by omega) (by omega)
set_option maxHeartbeats 4000000 in
set_option maxRecDepth 100000 in
theorem ct4_X11_line (l : Launch) (E : oE) (s : oS)  (g : Int → Int) (hp0 : oqX g s) : oMet l 9 yX11_line cX11_line 2 (some .int) [(3, 0), (4, 4), (4, 5), (4, 6), (4, 7), (5, 2), (5, 3), (5, 4), (5, 5), (5, 8), (5, 9), (7, 0), (8, 1), (10, 3), (11, 1), (11, 2), (11, 17), (16, 9999), (17, 9999), (18, 9999), (19, 9999)] E s [.ref (oad E 0)] (oPi (fun r u => ((u.1 1 1).toInt = 0) ∧ (r.toInt = oqR1 g) ∧ ((u.1 30 8).toInt = oqR2 g) ∧ ((u.1 30 9).toInt = oqR3 g))) := by
  refine oMet.of (lv := [(0, .ref (oad E 0))]) (by decide +kernel) (Nat.le_of_ble_eq_true rfl) rfl (fun J C hT => ?_)
  have C : oC l 9 cX11_line RX11 2 (some .int) [(3, 0), (4, 4), (4, 5), (4, 6), (4, 7), (5, 2), (5, 3), (5, 4), (5, 5), (5, 8), (5, 9), (7, 0), (8, 1), (10, 3), (11, 1), (11, 2), (11, 17), (16, 9999), (17, 9999), (18, 9999), (19, 9999)] E s (oPi (fun r u => ((u.1 1 1).toInt = 0) ∧ (r.toInt = oqR1 g) ∧ ((u.1 30 8).toInt = oqR2 g) ∧ ((u.1 30 9).toInt = oqR3 g))) J := C
  obtain ⟨km1, qkm1⟩ : ∃ z : Int32, z = (-1) := ⟨_, rfl⟩
  have ekm1 : km1.toInt = (-1) := by rw [qkm1]; rfl
  obtain ⟨k0, qk0⟩ : ∃ z : Int32, z = 0 := ⟨_, rfl⟩
  have ek0 : k0.toInt = 0 := by rw [qk0]; rfl
  refine r_aload_n C (j := 0) (oDec_at oX11_line 0 rfl) rfl rfl ?_
  refine r_getF (k := 6) (b := 30) C oCl11 rfl (by decide) flX11_44 rfl rfl rfl (oDec_at oX11_line 1 rfl) ?_
  refine r_aload_n C (j := 0) (oDec_at oX11_line 2 rfl) rfl rfl ?_
  refine r_getS (k := 2) (q2 := 4) C oCl11 rfl (by decide) flX11_23 rfl rfl rfl ks0 (oDec_at oX11_line 3 rfl) (fun b1 rb1 mb1 hkb1 => ?_)
  refine r_callVi C oCl5 rfl miX5_readLine mlX11_117 (ct4_X5_readLine l E (s) b1 hkb1 (g) hp0) (by decide) rfl rfl rfl (Nat.le_of_ble_eq_true rfl) (oDec_at oX11_line 4 rfl) (fun r3 u2 pu2 fu2 => ?_)
  try dsimp only at pu2
  obtain ⟨pu2_0, pu2_1, pu2_2⟩ := pu2
  have rr3 := n_rng r3
  refine r_istore_n C (lv' := [(0, .ref (oad E 0)), (1, .int r3)]) [1, 0] (oDec_at oX11_line 5 rfl) rfl (by decide) rfl ?_
  refine r_pc C 12 rfl ?_
  refine r_aload_n C (j := 0) (oDec_at oX11_line 6 rfl) rfl rfl ?_
  refine r_getF (k := 0) (b := 1) C oCl11 rfl (by decide) flX11_10 rfl rfl rfl (oDec_at oX11_line 7 rfl) ?_
  refine r_iconst C (oDec_at oX11_line 8 rfl) (v := k0) (by rw [qk0]; rfl) ?_
  refine r_ty C (fun hty => ?_)
  have ht17 : (0 : Int) ≤ ((u2).1 1 1).toInt ∧ ((u2).1 1 1).toInt ≤ 1600 := hty.1 1 1
  have lk4 : ((u2).1 1 1).toInt = (s.1 1 1).toInt := congrArg Int32.toInt ((fu2 1 1 rfl).1)
  refine r_callVi C oCl8 rfl miX8_cut mlX11_114 (ct_X8_cut l E (u2) k0 ) (by decide) rfl rfl rfl (Nat.le_of_ble_eq_true rfl) (oDec_at oX11_line 9 rfl) (fun r6 u5 pu5 fu5 => ?_)
  try dsimp only at pu5
  try simp only [lk4] at pu5
  obtain ⟨pu5_0, pu5_1⟩ := pu5
  have rr6 := n_rng r6
  refine r_pop C (oDec_at oX11_line 10 rfl) rfl ?_
  refine r_iload_n C (j := 1) (oDec_at oX11_line 11 rfl) rfl rfl ?_
  refine r_pc C 22 rfl ?_
  refine r_iconst C (oDec_at oX11_line 12 rfl) (v := km1) (by rw [qkm1]; rfl) ?_
  refine r_icmp_ne C 28 (oDec_at oX11_line 13 rfl) (by decide) (fun cd7 => ?_) (fun cd7 => ?_)
  · skip
    refine r_aload_n C (j := 0) (oDec_at oX11_line 16 rfl) rfl rfl ?_
    refine r_callVv C oCl11 rfl miX11_takeSpare mlX11_121 (ct_X11_takeSpare l E (u5)  ) (by decide) rfl rfl rfl (Nat.le_of_ble_eq_true rfl) (oDec_at oX11_line 17 rfl) (fun u8 pu8 fu8 => ?_)
    try dsimp only at pu8
    refine r_iload_n C (j := 1) (oDec_at oX11_line 18 rfl) rfl rfl ?_
    have lk10 : ((u8).1 1 1).toInt = (u5.1 1 1).toInt := congrArg Int32.toInt ((fu8 1 1 rfl).1)
    have lk11 : ((u8).1 30 8).toInt = (u2.1 30 8).toInt := congrArg Int32.toInt (((fu8 30 8 rfl).1).trans ((fu5 30 8 rfl).1))
    have lk12 : ((u8).1 30 9).toInt = (u2.1 30 9).toInt := congrArg Int32.toInt (((fu8 30 9 rfl).1).trans ((fu5 30 9 rfl).1))
    exact r_iret C (oDec_at oX11_line 19 rfl) ⟨_, rfl, ⟨by omega, by omega, by omega, by omega⟩⟩
  · skip
    refine r_iconst C (oDec_at oX11_line 14 rfl) (v := km1) (by rw [qkm1]; rfl) ?_
    have lk13 : ((u5).1 30 8).toInt = (u2.1 30 8).toInt := congrArg Int32.toInt ((fu5 30 8 rfl).1)
    have lk14 : ((u5).1 30 9).toInt = (u2.1 30 9).toInt := congrArg Int32.toInt ((fu5 30 9 rfl).1)
    exact r_iret C (oDec_at oX11_line 15 rfl) ⟨_, rfl, ⟨by omega, by omega, by omega, by omega⟩⟩
