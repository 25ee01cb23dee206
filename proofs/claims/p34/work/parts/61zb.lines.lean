set_option maxHeartbeats 4000000 in
set_option maxRecDepth 100000 in
theorem ct10_X4_add (l : Launch) (E : oE) (s : oS) (c0 : Nat) (hk0 : okd c0 = 4) (a1 : Int32) (a2 : Int32) (m : Int) (hp0 : owLN s) (hp1 : owMA c0 m s) (hp2 : owMS c0 m owZr s) (hp3 : 0 ≤ m ∧ m ≤ 5) (hp4 : a1.toInt = 0) (hp5 : a2.toInt = 2) : oMet l 1 yX4_add cX4_add 4 (some .boolean) [(4, 4), (4, 5), (4, 6), (4, 7), (16, 9999), (17, 9999), (18, 9999), (19, 9999)] E s [.ref (oad E c0), .int a1, .int a2] (oPi (fun r u => (0 ≤ r.toInt ∧ r.toInt ≤ 1) ∧ (r.toInt = 1 → ((u.1 c0 4).toInt = (s.1 c0 4).toInt + 1 ∧ (u.1 c0 5).toInt = (s.1 c0 5).toInt + a2.toInt)) ∧ (r.toInt = 0 → ¬ (-1 ≤ a1.toInt ∧ a1.toInt ≤ 28 ∧ 1 ≤ a2.toInt ∧ a2.toInt ≤ 16 ∧ (s.1 c0 4).toInt ≤ 23 ∧ (s.1 c0 5).toInt + a2.toInt ≤ 96)) ∧ (owLN u) ∧ (r.toInt = 1 → (-1 ≤ a1.toInt ∧ a1.toInt ≤ 28 ∧ 1 ≤ a2.toInt ∧ a2.toInt ≤ 16 ∧ (s.1 c0 4).toInt ≤ 23 ∧ (s.1 c0 5).toInt + a2.toInt ≤ 96)) ∧ (r.toInt = 1) ∧ (owMA c0 (m + 1) u) ∧ (owMS c0 (m + 1) owZr u))) := by
  refine oMet.of (lv := [(0, .ref (oad E c0)), (1, .int a1), (2, .int a2)]) (by decide +kernel) (Nat.le_of_ble_eq_true rfl) rfl (fun J C hT => ?_)
  have C : oC l 1 cX4_add RX4 4 (some .boolean) [(4, 4), (4, 5), (4, 6), (4, 7), (16, 9999), (17, 9999), (18, 9999), (19, 9999)] E s (oPi (fun r u => (0 ≤ r.toInt ∧ r.toInt ≤ 1) ∧ (r.toInt = 1 → ((u.1 c0 4).toInt = (s.1 c0 4).toInt + 1 ∧ (u.1 c0 5).toInt = (s.1 c0 5).toInt + a2.toInt)) ∧ (r.toInt = 0 → ¬ (-1 ≤ a1.toInt ∧ a1.toInt ≤ 28 ∧ 1 ≤ a2.toInt ∧ a2.toInt ≤ 16 ∧ (s.1 c0 4).toInt ≤ 23 ∧ (s.1 c0 5).toInt + a2.toInt ≤ 96)) ∧ (owLN u) ∧ (r.toInt = 1 → (-1 ≤ a1.toInt ∧ a1.toInt ≤ 28 ∧ 1 ≤ a2.toInt ∧ a2.toInt ≤ 16 ∧ (s.1 c0 4).toInt ≤ 23 ∧ (s.1 c0 5).toInt + a2.toInt ≤ 96)) ∧ (r.toInt = 1) ∧ (owMA c0 (m + 1) u) ∧ (owMS c0 (m + 1) owZr u))) J := C
  obtain ⟨km1, qkm1⟩ : ∃ z : Int32, z = (-1) := ⟨_, rfl⟩
  have ekm1 : km1.toInt = (-1) := by rw [qkm1]; rfl
  obtain ⟨k0, qk0⟩ : ∃ z : Int32, z = 0 := ⟨_, rfl⟩
  have ek0 : k0.toInt = 0 := by rw [qk0]; rfl
  obtain ⟨k1, qk1⟩ : ∃ z : Int32, z = 1 := ⟨_, rfl⟩
  have ek1 : k1.toInt = 1 := by rw [qk1]; rfl
  obtain ⟨k2, qk2⟩ : ∃ z : Int32, z = 2 := ⟨_, rfl⟩
  have ek2 : k2.toInt = 2 := by rw [qk2]; rfl
  obtain ⟨k16, qk16⟩ : ∃ z : Int32, z = 16 := ⟨_, rfl⟩
  have ek16 : k16.toInt = 16 := by rw [qk16]; rfl
  obtain ⟨k24, qk24⟩ : ∃ z : Int32, z = 24 := ⟨_, rfl⟩
  have ek24 : k24.toInt = 24 := by rw [qk24]; rfl
  obtain ⟨k28, qk28⟩ : ∃ z : Int32, z = 28 := ⟨_, rfl⟩
  have ek28 : k28.toInt = 28 := by rw [qk28]; rfl
  obtain ⟨k96, qk96⟩ : ∃ z : Int32, z = 96 := ⟨_, rfl⟩
  have ek96 : k96.toInt = 96 := by rw [qk96]; rfl
  have rg1 := n_rng a1
  have rg2 := n_rng a2
  obtain ⟨-, hA2, hA3, hA4, -⟩ := id hp1
  have hoM : (s.1 c0 6).toInt = -1 ∨ (s.1 c0 6).toInt = 0 := by rw [hp2.2.1]; split; exact Or.inl rfl; exact Or.inr rfl
  have key : ∀ n : Nat, (∀ (t : oS) (x3 : Int32), (1 ≤ a2.toInt ∧ a2.toInt ≤ 16) → ((t.1 c0 4).toInt = (s.1 c0 4).toInt) → ((t.1 c0 5).toInt = (s.1 c0 5).toInt) → ((s.1 c0 4).toInt ≤ 23) → ((s.1 c0 5).toInt + a2.toInt ≤ 96) → ((s.1 c0 5).toInt ≤ x3.toInt ∧ x3.toInt ≤ (s.1 c0 5).toInt + a2.toInt) → (0 ≤ (s.1 c0 5).toInt) → (owLN t) → (-1 ≤ a1.toInt ∧ a1.toInt ≤ 28) → ((t.1 c0 6).toInt = (s.1 c0 6).toInt) → ((t.1 c0 7).toInt = (s.1 c0 7).toInt) → (t.1 (c0 + 1) = oU (s.1 (c0 + 1)) (s.1 c0 4).toNatClampNeg a1) → (t.1 (c0 + 4) = owOr (s.1 (c0 + 4)) (s.1 c0 5).toInt x3.toInt (s.1 c0 4)) → (s.1 c0 5).toInt + a2.toInt - x3.toInt + 1 ≤ (n : Int) → J t 84 [(0, .ref (oad E c0)), (1, .int a1), (2, .int a2), (3, .int x3)] []) := by
    intro n
    induction n using Nat.strongRecOn with
    | _ n ih =>
      skip
      · intro t x3  iv0 iv1 iv2 iv3 iv4 iv5 iv6 iv7 iv8 iv9 iv10 iv11 iv12 hmu
        have rx3 := n_rng x3
        refine r_iload_n C (j := 3) (oDec_at oX4_add 48 rfl) rfl rfl ?_
        refine r_aload_n C (j := 0) (oDec_at oX4_add 49 rfl) rfl rfl ?_
        obtain ⟨v1, ev1⟩ : ∃ z : Int32, (t).1 c0 5 = z := ⟨_, rfl⟩
        have gv1 : (t.1 c0 5).toInt = v1.toInt := congrArg Int32.toInt (ev1)
        refine r_geti (k := 5) (lo := 0) (hi := 96) C v1 oCl4 hk0 (by decide) flX4_31 rfl rfl (ev1) rfl rfl (oDec_at oX4_add 50 rfl) (fun b2 b2h => ?_)
        refine r_iload_n C (j := 2) (oDec_at oX4_add 51 rfl) rfl rfl ?_
        obtain ⟨v3, ev3⟩ : ∃ z : Int32, z = v1 + a2 := ⟨_, rfl⟩
        have hv3 : v3.toInt = v1.toInt + a2.toInt := n_add ev3 (by omega) (by omega)
        refine r_iadd C v3 (oDec_at oX4_add 52 rfl) ev3 ?_
        refine r_icmp_ge C 110 (oDec_at oX4_add 53 rfl) (by decide) (fun cd4 => ?_) (fun cd4 => ?_)
        · skip
          refine r_aload_n C (j := 0) (oDec_at oX4_add 62 rfl) rfl rfl ?_
          obtain ⟨v5, ev5⟩ : ∃ z : Int32, (t).1 c0 6 = z := ⟨_, rfl⟩
          have gv5 : (t.1 c0 6).toInt = v5.toInt := congrArg Int32.toInt (ev5)
          have rv5 := n_rng v5
          refine r_geti (k := 6) (lo := (-2147483648)) (hi := 2147483647) C v5 oCl4 hk0 (by decide) flX4_24 rfl rfl (ev5) rfl rfl (oDec_at oX4_add 63 rfl) (fun _ _ => ?_)
          refine r_iconst C (oDec_at oX4_add 64 rfl) (v := km1) (by rw [qkm1]; rfl) ?_
          refine r_icmp_ne C 123 (oDec_at oX4_add 65 rfl) (by decide) (fun cd6 => ?_) (fun cd6 => ?_)
          · skip
            have hq7 : owLN (t) := by first | exact iv7 | exact owLN_op (by assumption) hk0 (by omega)
            refine r_aload_n C (j := 0) (oDec_at oX4_add 69 rfl) rfl rfl ?_
            refine r_aload_n C (j := 0) (oDec_at oX4_add 70 rfl) rfl rfl ?_
            obtain ⟨v8, ev8⟩ : ∃ z : Int32, (t).1 c0 7 = z := ⟨_, rfl⟩
            have gv8 : (t.1 c0 7).toInt = v8.toInt := congrArg Int32.toInt (ev8)
            refine r_geti (k := 7) (lo := 0) (hi := 1) C v8 oCl4 hk0 (by decide) flX4_34 rfl rfl (ev8) rfl rfl (oDec_at oX4_add 71 rfl) (fun b9 b9h => ?_)
            refine r_if_ne C 138 (oDec_at oX4_add 72 rfl) (by decide) (fun cd10 => ?_) (fun cd10 => ?_)
            · skip
              refine r_iconst C (oDec_at oX4_add 78 rfl) (v := k1) (by rw [qk1]; rfl) ?_
              refine r_goto C (tgt := 143) (oDec_at oX4_add 79 rfl) (by decide) ?_
              refine r_puti (k := 7) (lo := 0) (hi := 1) C oCl4 hk0 (by decide) flX4_34 rfl rfl rfl rfl rfl (n_bool (by omega)) (n_fitz (by omega)) rfl ⟨by omega, by omega⟩ (oDec_at oX4_add 81 rfl) ?_
              refine r_aload_n C (j := 0) (oDec_at oX4_add 82 rfl) rfl rfl ?_
              refine r_dup C (oDec_at oX4_add 83 rfl) rfl ?_
              refine r_geti (k := 5) (lo := 0) (hi := 96) C v1 oCl4 hk0 (by decide) flX4_31 rfl rfl (((pI_ne (a := c0) (b := 5) (c := c0) (k := 7) _ _ (Or.inr (by decide)))).trans (ev1)) rfl rfl (oDec_at oX4_add 84 rfl) (fun _ _ => ?_)
              refine r_iload_n C (j := 2) (oDec_at oX4_add 85 rfl) rfl rfl ?_
              refine r_pc C 152 rfl ?_
              obtain ⟨v11, ev11⟩ : ∃ z : Int32, z = v1 + a2 := ⟨_, rfl⟩
              have hv11 : v11.toInt = v1.toInt + a2.toInt := n_add ev11 (by omega) (by omega)
              refine r_iadd C v11 (oDec_at oX4_add 86 rfl) ev11 ?_
              refine r_puti (k := 5) (lo := 0) (hi := 96) C oCl4 hk0 (by decide) flX4_31 rfl rfl rfl rfl rfl rfl rfl rfl ⟨by omega, by omega⟩ (oDec_at oX4_add 87 rfl) ?_
              refine r_aload_n C (j := 0) (oDec_at oX4_add 88 rfl) rfl rfl ?_
              refine r_dup C (oDec_at oX4_add 89 rfl) rfl ?_
              obtain ⟨v12, ev12⟩ : ∃ z : Int32, ((pI (pI t c0 7 k1) c0 5 v11)).1 c0 4 = z := ⟨_, rfl⟩
              have gv12 : (t.1 c0 4).toInt = v12.toInt := congrArg Int32.toInt ((((pI_ne (a := c0) (b := 4) (c := c0) (k := 5) _ _ (Or.inr (by decide)))).trans ((pI_ne (a := c0) (b := 4) (c := c0) (k := 7) _ _ (Or.inr (by decide))))).symm.trans ev12)
              have ggv12 : (((pI (pI t c0 7 k1) c0 5 v11)).1 c0 4).toInt = v12.toInt := congrArg Int32.toInt ev12
              refine r_geti (k := 4) (lo := 0) (hi := 24) C v12 oCl4 hk0 (by decide) flX4_28 rfl rfl (ev12) rfl rfl (oDec_at oX4_add 90 rfl) (fun b13 b13h => ?_)
              refine r_iconst C (oDec_at oX4_add 91 rfl) (v := k1) (by rw [qk1]; rfl) ?_
              refine r_pc C 162 rfl ?_
              obtain ⟨v14, ev14⟩ : ∃ z : Int32, z = v12 + k1 := ⟨_, rfl⟩
              have hv14 : v14.toInt = v12.toInt + k1.toInt := n_add ev14 (by omega) (by omega)
              refine r_iadd C v14 (oDec_at oX4_add 92 rfl) ev14 ?_
              refine r_puti (k := 4) (lo := 0) (hi := 24) C oCl4 hk0 (by decide) flX4_28 rfl rfl rfl rfl rfl rfl rfl rfl ⟨by omega, by omega⟩ (oDec_at oX4_add 93 rfl) ?_
              refine r_iconst C (oDec_at oX4_add 94 rfl) (v := k1) (by rw [qk1]; rfl) ?_
              have lk15 : (((pI (pI (pI t c0 7 k1) c0 5 v11) c0 4 v14)).1 c0 6).toInt = v5.toInt := congrArg Int32.toInt (((pI_ne (a := c0) (b := 6) (c := c0) (k := 4) _ _ (Or.inr (by decide)))).trans (((pI_ne (a := c0) (b := 6) (c := c0) (k := 5) _ _ (Or.inr (by decide)))).trans (((pI_ne (a := c0) (b := 6) (c := c0) (k := 7) _ _ (Or.inr (by decide)))).trans (ev5))))
              have lk16 : (((pI (pI (pI t c0 7 k1) c0 5 v11) c0 4 v14)).1 c0 7).toInt = k1.toInt := congrArg Int32.toInt (((pI_ne (a := c0) (b := 7) (c := c0) (k := 4) _ _ (Or.inr (by decide)))).trans (((pI_ne (a := c0) (b := 7) (c := c0) (k := 5) _ _ (Or.inr (by decide)))).trans ((pI_self _ _ _ _))))
              have lk17 : (((pI (pI (pI t c0 7 k1) c0 5 v11) c0 4 v14)).1 c0 4).toInt = v14.toInt := congrArg Int32.toInt ((pI_self _ _ _ _))
              have lk18 : (((pI (pI (pI t c0 7 k1) c0 5 v11) c0 4 v14)).1 c0 5).toInt = v11.toInt := congrArg Int32.toInt (((pI_ne (a := c0) (b := 5) (c := c0) (k := 4) _ _ (Or.inr (by decide)))).trans ((pI_self _ _ _ _)))
              have lk19 : (((pI (pI (pI t c0 7 k1) c0 5 v11) c0 4 v14)).1 c0 4).toInt = v14.toInt := congrArg Int32.toInt ((pI_self _ _ _ _))
              have lk20 : (((pI (pI (pI t c0 7 k1) c0 5 v11) c0 4 v14)).1 c0 5).toInt = v11.toInt := congrArg Int32.toInt (((pI_ne (a := c0) (b := 5) (c := c0) (k := 4) _ _ (Or.inr (by decide)))).trans ((pI_self _ _ _ _)))
              exact r_zret C (n_bool (by omega)) (oDec_at oX4_add 95 rfl) ⟨_, rfl, ⟨by omega, by omega, by omega, (owLN_fr (oFr_oneI (q := 4) (m := 4) hk0 (by rfl)) rfl (owLN_fr (oFr_oneI (q := 4) (m := 5) hk0 (by rfl)) rfl (owLN_fr (oFr_oneI (q := 4) (m := 7) hk0 (by rfl)) rfl hq7))), by omega, by omega, by first | (exfalso; omega) | exact (owM_ad (x := a1) hp1 hp2 (by omega) (by omega) (by omega) (by omega) (by omega) (by omega) (by (repeat rw [oqRow_ne (a := c0 + 1) (c := c0) (by omega)]); exact iv11) (by (repeat rw [oqRow_ne (a := c0 + 4) (c := c0) (by omega)]); rw [show (s.1 c0 5).toInt + 2 = x3.toInt by omega]; exact iv12)).1, by first | (exfalso; omega) | exact (owM_ad (x := a1) hp1 hp2 (by omega) (by omega) (by omega) (by omega) (by omega) (by omega) (by (repeat rw [oqRow_ne (a := c0 + 1) (c := c0) (by omega)]); exact iv11) (by (repeat rw [oqRow_ne (a := c0 + 4) (c := c0) (by omega)]); rw [show (s.1 c0 5).toInt + 2 = x3.toInt by omega]; exact iv12)).2⟩⟩
            · skip
              refine r_iload_n C (j := 2) (oDec_at oX4_add 73 rfl) rfl rfl ?_
              refine r_iconst C (oDec_at oX4_add 74 rfl) (v := k2) (by rw [qk2]; rfl) ?_
              obtain ⟨v21, ev21⟩ : ∃ z : Int32, z = a2 - a2 / k2 * k2 := ⟨_, rfl⟩
              have hv21 := n_rem (k := 2) ev21 ek2 (by decide)
              have rv21 := n_rng v21
              refine r_irem C v21 (oDec_at oX4_add 75 rfl) (n_ne0 (by omega)) ev21 ?_
              refine r_iconst C (oDec_at oX4_add 76 rfl) (v := k1) (by rw [qk1]; rfl) ?_
              refine r_icmp_ne C 142 (oDec_at oX4_add 77 rfl) (by decide) (fun cd22 => ?_) (fun cd22 => ?_)
              · skip
                refine r_iconst C (oDec_at oX4_add 80 rfl) (v := k0) (by rw [qk0]; rfl) ?_
                refine r_puti (k := 7) (lo := 0) (hi := 1) C oCl4 hk0 (by decide) flX4_34 rfl rfl rfl rfl rfl (n_bool (by omega)) (n_fitz (by omega)) rfl ⟨by omega, by omega⟩ (oDec_at oX4_add 81 rfl) ?_
                refine r_aload_n C (j := 0) (oDec_at oX4_add 82 rfl) rfl rfl ?_
                refine r_dup C (oDec_at oX4_add 83 rfl) rfl ?_
                refine r_geti (k := 5) (lo := 0) (hi := 96) C v1 oCl4 hk0 (by decide) flX4_31 rfl rfl (((pI_ne (a := c0) (b := 5) (c := c0) (k := 7) _ _ (Or.inr (by decide)))).trans (ev1)) rfl rfl (oDec_at oX4_add 84 rfl) (fun _ _ => ?_)
                refine r_iload_n C (j := 2) (oDec_at oX4_add 85 rfl) rfl rfl ?_
                refine r_pc C 152 rfl ?_
                obtain ⟨v23, ev23⟩ : ∃ z : Int32, z = v1 + a2 := ⟨_, rfl⟩
                have hv23 : v23.toInt = v1.toInt + a2.toInt := n_add ev23 (by omega) (by omega)
                refine r_iadd C v23 (oDec_at oX4_add 86 rfl) ev23 ?_
                refine r_puti (k := 5) (lo := 0) (hi := 96) C oCl4 hk0 (by decide) flX4_31 rfl rfl rfl rfl rfl rfl rfl rfl ⟨by omega, by omega⟩ (oDec_at oX4_add 87 rfl) ?_
                refine r_aload_n C (j := 0) (oDec_at oX4_add 88 rfl) rfl rfl ?_
                refine r_dup C (oDec_at oX4_add 89 rfl) rfl ?_
                obtain ⟨v24, ev24⟩ : ∃ z : Int32, ((pI (pI t c0 7 k0) c0 5 v23)).1 c0 4 = z := ⟨_, rfl⟩
                have gv24 : (t.1 c0 4).toInt = v24.toInt := congrArg Int32.toInt ((((pI_ne (a := c0) (b := 4) (c := c0) (k := 5) _ _ (Or.inr (by decide)))).trans ((pI_ne (a := c0) (b := 4) (c := c0) (k := 7) _ _ (Or.inr (by decide))))).symm.trans ev24)
                have ggv24 : (((pI (pI t c0 7 k0) c0 5 v23)).1 c0 4).toInt = v24.toInt := congrArg Int32.toInt ev24
                refine r_geti (k := 4) (lo := 0) (hi := 24) C v24 oCl4 hk0 (by decide) flX4_28 rfl rfl (ev24) rfl rfl (oDec_at oX4_add 90 rfl) (fun b25 b25h => ?_)
                refine r_iconst C (oDec_at oX4_add 91 rfl) (v := k1) (by rw [qk1]; rfl) ?_
                refine r_pc C 162 rfl ?_
                obtain ⟨v26, ev26⟩ : ∃ z : Int32, z = v24 + k1 := ⟨_, rfl⟩
                have hv26 : v26.toInt = v24.toInt + k1.toInt := n_add ev26 (by omega) (by omega)
                refine r_iadd C v26 (oDec_at oX4_add 92 rfl) ev26 ?_
                refine r_puti (k := 4) (lo := 0) (hi := 24) C oCl4 hk0 (by decide) flX4_28 rfl rfl rfl rfl rfl rfl rfl rfl ⟨by omega, by omega⟩ (oDec_at oX4_add 93 rfl) ?_
                refine r_iconst C (oDec_at oX4_add 94 rfl) (v := k1) (by rw [qk1]; rfl) ?_
                have lk27 : (((pI (pI (pI t c0 7 k0) c0 5 v23) c0 4 v26)).1 c0 6).toInt = v5.toInt := congrArg Int32.toInt (((pI_ne (a := c0) (b := 6) (c := c0) (k := 4) _ _ (Or.inr (by decide)))).trans (((pI_ne (a := c0) (b := 6) (c := c0) (k := 5) _ _ (Or.inr (by decide)))).trans (((pI_ne (a := c0) (b := 6) (c := c0) (k := 7) _ _ (Or.inr (by decide)))).trans (ev5))))
                have lk28 : (((pI (pI (pI t c0 7 k0) c0 5 v23) c0 4 v26)).1 c0 7).toInt = k0.toInt := congrArg Int32.toInt (((pI_ne (a := c0) (b := 7) (c := c0) (k := 4) _ _ (Or.inr (by decide)))).trans (((pI_ne (a := c0) (b := 7) (c := c0) (k := 5) _ _ (Or.inr (by decide)))).trans ((pI_self _ _ _ _))))
                have lk29 : (((pI (pI (pI t c0 7 k0) c0 5 v23) c0 4 v26)).1 c0 4).toInt = v26.toInt := congrArg Int32.toInt ((pI_self _ _ _ _))
                have lk30 : (((pI (pI (pI t c0 7 k0) c0 5 v23) c0 4 v26)).1 c0 5).toInt = v23.toInt := congrArg Int32.toInt (((pI_ne (a := c0) (b := 5) (c := c0) (k := 4) _ _ (Or.inr (by decide)))).trans ((pI_self _ _ _ _)))
                have lk31 : (((pI (pI (pI t c0 7 k0) c0 5 v23) c0 4 v26)).1 c0 4).toInt = v26.toInt := congrArg Int32.toInt ((pI_self _ _ _ _))
                have lk32 : (((pI (pI (pI t c0 7 k0) c0 5 v23) c0 4 v26)).1 c0 5).toInt = v23.toInt := congrArg Int32.toInt (((pI_ne (a := c0) (b := 5) (c := c0) (k := 4) _ _ (Or.inr (by decide)))).trans ((pI_self _ _ _ _)))
                exact r_zret C (n_bool (by omega)) (oDec_at oX4_add 95 rfl) ⟨_, rfl, ⟨by omega, by omega, by omega, (owLN_fr (oFr_oneI (q := 4) (m := 4) hk0 (by rfl)) rfl (owLN_fr (oFr_oneI (q := 4) (m := 5) hk0 (by rfl)) rfl (owLN_fr (oFr_oneI (q := 4) (m := 7) hk0 (by rfl)) rfl hq7))), by omega, by omega, by first | (exfalso; omega) | exact (owM_ad (x := a1) hp1 hp2 (by omega) (by omega) (by omega) (by omega) (by omega) (by omega) (by (repeat rw [oqRow_ne (a := c0 + 1) (c := c0) (by omega)]); exact iv11) (by (repeat rw [oqRow_ne (a := c0 + 4) (c := c0) (by omega)]); rw [show (s.1 c0 5).toInt + 2 = x3.toInt by omega]; exact iv12)).1, by first | (exfalso; omega) | exact (owM_ad (x := a1) hp1 hp2 (by omega) (by omega) (by omega) (by omega) (by omega) (by omega) (by (repeat rw [oqRow_ne (a := c0 + 1) (c := c0) (by omega)]); exact iv11) (by (repeat rw [oqRow_ne (a := c0 + 4) (c := c0) (by omega)]); rw [show (s.1 c0 5).toInt + 2 = x3.toInt by omega]; exact iv12)).2⟩⟩
              · skip
                refine r_iconst C (oDec_at oX4_add 78 rfl) (v := k1) (by rw [qk1]; rfl) ?_
                refine r_goto C (tgt := 143) (oDec_at oX4_add 79 rfl) (by decide) ?_
                refine r_puti (k := 7) (lo := 0) (hi := 1) C oCl4 hk0 (by decide) flX4_34 rfl rfl rfl rfl rfl (n_bool (by omega)) (n_fitz (by omega)) rfl ⟨by omega, by omega⟩ (oDec_at oX4_add 81 rfl) ?_
                refine r_aload_n C (j := 0) (oDec_at oX4_add 82 rfl) rfl rfl ?_
                refine r_dup C (oDec_at oX4_add 83 rfl) rfl ?_
                refine r_geti (k := 5) (lo := 0) (hi := 96) C v1 oCl4 hk0 (by decide) flX4_31 rfl rfl (((pI_ne (a := c0) (b := 5) (c := c0) (k := 7) _ _ (Or.inr (by decide)))).trans (ev1)) rfl rfl (oDec_at oX4_add 84 rfl) (fun _ _ => ?_)
                refine r_iload_n C (j := 2) (oDec_at oX4_add 85 rfl) rfl rfl ?_
                refine r_pc C 152 rfl ?_
                obtain ⟨v33, ev33⟩ : ∃ z : Int32, z = v1 + a2 := ⟨_, rfl⟩
                have hv33 : v33.toInt = v1.toInt + a2.toInt := n_add ev33 (by omega) (by omega)
                refine r_iadd C v33 (oDec_at oX4_add 86 rfl) ev33 ?_
                refine r_puti (k := 5) (lo := 0) (hi := 96) C oCl4 hk0 (by decide) flX4_31 rfl rfl rfl rfl rfl rfl rfl rfl ⟨by omega, by omega⟩ (oDec_at oX4_add 87 rfl) ?_
                refine r_aload_n C (j := 0) (oDec_at oX4_add 88 rfl) rfl rfl ?_
                refine r_dup C (oDec_at oX4_add 89 rfl) rfl ?_
                obtain ⟨v34, ev34⟩ : ∃ z : Int32, ((pI (pI t c0 7 k1) c0 5 v33)).1 c0 4 = z := ⟨_, rfl⟩
                have gv34 : (t.1 c0 4).toInt = v34.toInt := congrArg Int32.toInt ((((pI_ne (a := c0) (b := 4) (c := c0) (k := 5) _ _ (Or.inr (by decide)))).trans ((pI_ne (a := c0) (b := 4) (c := c0) (k := 7) _ _ (Or.inr (by decide))))).symm.trans ev34)
                have ggv34 : (((pI (pI t c0 7 k1) c0 5 v33)).1 c0 4).toInt = v34.toInt := congrArg Int32.toInt ev34
                refine r_geti (k := 4) (lo := 0) (hi := 24) C v34 oCl4 hk0 (by decide) flX4_28 rfl rfl (ev34) rfl rfl (oDec_at oX4_add 90 rfl) (fun b35 b35h => ?_)
                refine r_iconst C (oDec_at oX4_add 91 rfl) (v := k1) (by rw [qk1]; rfl) ?_
                refine r_pc C 162 rfl ?_
                obtain ⟨v36, ev36⟩ : ∃ z : Int32, z = v34 + k1 := ⟨_, rfl⟩
                have hv36 : v36.toInt = v34.toInt + k1.toInt := n_add ev36 (by omega) (by omega)
                refine r_iadd C v36 (oDec_at oX4_add 92 rfl) ev36 ?_
                refine r_puti (k := 4) (lo := 0) (hi := 24) C oCl4 hk0 (by decide) flX4_28 rfl rfl rfl rfl rfl rfl rfl rfl ⟨by omega, by omega⟩ (oDec_at oX4_add 93 rfl) ?_
                refine r_iconst C (oDec_at oX4_add 94 rfl) (v := k1) (by rw [qk1]; rfl) ?_
                have lk37 : (((pI (pI (pI t c0 7 k1) c0 5 v33) c0 4 v36)).1 c0 6).toInt = v5.toInt := congrArg Int32.toInt (((pI_ne (a := c0) (b := 6) (c := c0) (k := 4) _ _ (Or.inr (by decide)))).trans (((pI_ne (a := c0) (b := 6) (c := c0) (k := 5) _ _ (Or.inr (by decide)))).trans (((pI_ne (a := c0) (b := 6) (c := c0) (k := 7) _ _ (Or.inr (by decide)))).trans (ev5))))
                have lk38 : (((pI (pI (pI t c0 7 k1) c0 5 v33) c0 4 v36)).1 c0 7).toInt = k1.toInt := congrArg Int32.toInt (((pI_ne (a := c0) (b := 7) (c := c0) (k := 4) _ _ (Or.inr (by decide)))).trans (((pI_ne (a := c0) (b := 7) (c := c0) (k := 5) _ _ (Or.inr (by decide)))).trans ((pI_self _ _ _ _))))
                have lk39 : (((pI (pI (pI t c0 7 k1) c0 5 v33) c0 4 v36)).1 c0 4).toInt = v36.toInt := congrArg Int32.toInt ((pI_self _ _ _ _))
                have lk40 : (((pI (pI (pI t c0 7 k1) c0 5 v33) c0 4 v36)).1 c0 5).toInt = v33.toInt := congrArg Int32.toInt (((pI_ne (a := c0) (b := 5) (c := c0) (k := 4) _ _ (Or.inr (by decide)))).trans ((pI_self _ _ _ _)))
                have lk41 : (((pI (pI (pI t c0 7 k1) c0 5 v33) c0 4 v36)).1 c0 4).toInt = v36.toInt := congrArg Int32.toInt ((pI_self _ _ _ _))
                have lk42 : (((pI (pI (pI t c0 7 k1) c0 5 v33) c0 4 v36)).1 c0 5).toInt = v33.toInt := congrArg Int32.toInt (((pI_ne (a := c0) (b := 5) (c := c0) (k := 4) _ _ (Or.inr (by decide)))).trans ((pI_self _ _ _ _)))
                exact r_zret C (n_bool (by omega)) (oDec_at oX4_add 95 rfl) ⟨_, rfl, ⟨by omega, by omega, by omega, (owLN_fr (oFr_oneI (q := 4) (m := 4) hk0 (by rfl)) rfl (owLN_fr (oFr_oneI (q := 4) (m := 5) hk0 (by rfl)) rfl (owLN_fr (oFr_oneI (q := 4) (m := 7) hk0 (by rfl)) rfl hq7))), by omega, by omega, by first | (exfalso; omega) | exact (owM_ad (x := a1) hp1 hp2 (by omega) (by omega) (by omega) (by omega) (by omega) (by omega) (by (repeat rw [oqRow_ne (a := c0 + 1) (c := c0) (by omega)]); exact iv11) (by (repeat rw [oqRow_ne (a := c0 + 4) (c := c0) (by omega)]); rw [show (s.1 c0 5).toInt + 2 = x3.toInt by omega]; exact iv12)).1, by first | (exfalso; omega) | exact (owM_ad (x := a1) hp1 hp2 (by omega) (by omega) (by omega) (by omega) (by omega) (by omega) (by (repeat rw [oqRow_ne (a := c0 + 1) (c := c0) (by omega)]); exact iv11) (by (repeat rw [oqRow_ne (a := c0 + 4) (c := c0) (by omega)]); rw [show (s.1 c0 5).toInt + 2 = x3.toInt by omega]; exact iv12)).2⟩⟩
          · skip
            refine r_aload_n C (j := 0) (oDec_at oX4_add 66 rfl) rfl rfl ?_
            refine r_iload_n C (j := 1) (oDec_at oX4_add 67 rfl) rfl rfl ?_
            refine r_puti (k := 6) (lo := (-2147483648)) (hi := 2147483647) C oCl4 hk0 (by decide) flX4_24 rfl rfl rfl rfl rfl rfl rfl rfl (n_rng _) (oDec_at oX4_add 68 rfl) ?_
            have hq43 : owLN ((pI t c0 6 a1)) := by first | exact (by assumption) | exact owLN_op iv7 hk0 (by omega)
            refine r_aload_n C (j := 0) (oDec_at oX4_add 69 rfl) rfl rfl ?_
            refine r_aload_n C (j := 0) (oDec_at oX4_add 70 rfl) rfl rfl ?_
            obtain ⟨v44, ev44⟩ : ∃ z : Int32, ((pI t c0 6 a1)).1 c0 7 = z := ⟨_, rfl⟩
            have gv44 : (t.1 c0 7).toInt = v44.toInt := congrArg Int32.toInt (((pI_ne (a := c0) (b := 7) (c := c0) (k := 6) _ _ (Or.inr (by decide)))).symm.trans ev44)
            have ggv44 : (((pI t c0 6 a1)).1 c0 7).toInt = v44.toInt := congrArg Int32.toInt ev44
            refine r_geti (k := 7) (lo := 0) (hi := 1) C v44 oCl4 hk0 (by decide) flX4_34 rfl rfl (ev44) rfl rfl (oDec_at oX4_add 71 rfl) (fun b45 b45h => ?_)
            refine r_pc C 128 rfl ?_
            refine r_if_ne C 138 (oDec_at oX4_add 72 rfl) (by decide) (fun cd46 => ?_) (fun cd46 => ?_)
            · skip
              refine r_iconst C (oDec_at oX4_add 78 rfl) (v := k1) (by rw [qk1]; rfl) ?_
              refine r_goto C (tgt := 143) (oDec_at oX4_add 79 rfl) (by decide) ?_
              refine r_puti (k := 7) (lo := 0) (hi := 1) C oCl4 hk0 (by decide) flX4_34 rfl rfl rfl rfl rfl (n_bool (by omega)) (n_fitz (by omega)) rfl ⟨by omega, by omega⟩ (oDec_at oX4_add 81 rfl) ?_
              refine r_aload_n C (j := 0) (oDec_at oX4_add 82 rfl) rfl rfl ?_
              refine r_dup C (oDec_at oX4_add 83 rfl) rfl ?_
              refine r_geti (k := 5) (lo := 0) (hi := 96) C v1 oCl4 hk0 (by decide) flX4_31 rfl rfl (((pI_ne (a := c0) (b := 5) (c := c0) (k := 7) _ _ (Or.inr (by decide)))).trans (((pI_ne (a := c0) (b := 5) (c := c0) (k := 6) _ _ (Or.inr (by decide)))).trans (ev1))) rfl rfl (oDec_at oX4_add 84 rfl) (fun _ _ => ?_)
              refine r_iload_n C (j := 2) (oDec_at oX4_add 85 rfl) rfl rfl ?_
              refine r_pc C 152 rfl ?_
              obtain ⟨v47, ev47⟩ : ∃ z : Int32, z = v1 + a2 := ⟨_, rfl⟩
              have hv47 : v47.toInt = v1.toInt + a2.toInt := n_add ev47 (by omega) (by omega)
              refine r_iadd C v47 (oDec_at oX4_add 86 rfl) ev47 ?_
              refine r_puti (k := 5) (lo := 0) (hi := 96) C oCl4 hk0 (by decide) flX4_31 rfl rfl rfl rfl rfl rfl rfl rfl ⟨by omega, by omega⟩ (oDec_at oX4_add 87 rfl) ?_
              refine r_aload_n C (j := 0) (oDec_at oX4_add 88 rfl) rfl rfl ?_
              refine r_dup C (oDec_at oX4_add 89 rfl) rfl ?_
              obtain ⟨v48, ev48⟩ : ∃ z : Int32, ((pI (pI (pI t c0 6 a1) c0 7 k1) c0 5 v47)).1 c0 4 = z := ⟨_, rfl⟩
              have gv48 : (t.1 c0 4).toInt = v48.toInt := congrArg Int32.toInt ((((pI_ne (a := c0) (b := 4) (c := c0) (k := 5) _ _ (Or.inr (by decide)))).trans (((pI_ne (a := c0) (b := 4) (c := c0) (k := 7) _ _ (Or.inr (by decide)))).trans ((pI_ne (a := c0) (b := 4) (c := c0) (k := 6) _ _ (Or.inr (by decide)))))).symm.trans ev48)
              have ggv48 : (((pI (pI (pI t c0 6 a1) c0 7 k1) c0 5 v47)).1 c0 4).toInt = v48.toInt := congrArg Int32.toInt ev48
              refine r_geti (k := 4) (lo := 0) (hi := 24) C v48 oCl4 hk0 (by decide) flX4_28 rfl rfl (ev48) rfl rfl (oDec_at oX4_add 90 rfl) (fun b49 b49h => ?_)
              refine r_iconst C (oDec_at oX4_add 91 rfl) (v := k1) (by rw [qk1]; rfl) ?_
              refine r_pc C 162 rfl ?_
              obtain ⟨v50, ev50⟩ : ∃ z : Int32, z = v48 + k1 := ⟨_, rfl⟩
              have hv50 : v50.toInt = v48.toInt + k1.toInt := n_add ev50 (by omega) (by omega)
              refine r_iadd C v50 (oDec_at oX4_add 92 rfl) ev50 ?_
              refine r_puti (k := 4) (lo := 0) (hi := 24) C oCl4 hk0 (by decide) flX4_28 rfl rfl rfl rfl rfl rfl rfl rfl ⟨by omega, by omega⟩ (oDec_at oX4_add 93 rfl) ?_
              refine r_iconst C (oDec_at oX4_add 94 rfl) (v := k1) (by rw [qk1]; rfl) ?_
              have lk51 : (((pI (pI (pI (pI t c0 6 a1) c0 7 k1) c0 5 v47) c0 4 v50)).1 c0 6).toInt = a1.toInt := congrArg Int32.toInt (((pI_ne (a := c0) (b := 6) (c := c0) (k := 4) _ _ (Or.inr (by decide)))).trans (((pI_ne (a := c0) (b := 6) (c := c0) (k := 5) _ _ (Or.inr (by decide)))).trans (((pI_ne (a := c0) (b := 6) (c := c0) (k := 7) _ _ (Or.inr (by decide)))).trans ((pI_self _ _ _ _)))))
              have lk52 : (((pI (pI (pI (pI t c0 6 a1) c0 7 k1) c0 5 v47) c0 4 v50)).1 c0 7).toInt = k1.toInt := congrArg Int32.toInt (((pI_ne (a := c0) (b := 7) (c := c0) (k := 4) _ _ (Or.inr (by decide)))).trans (((pI_ne (a := c0) (b := 7) (c := c0) (k := 5) _ _ (Or.inr (by decide)))).trans ((pI_self _ _ _ _))))
              have lk53 : (((pI (pI (pI (pI t c0 6 a1) c0 7 k1) c0 5 v47) c0 4 v50)).1 c0 4).toInt = v50.toInt := congrArg Int32.toInt ((pI_self _ _ _ _))
              have lk54 : (((pI (pI (pI (pI t c0 6 a1) c0 7 k1) c0 5 v47) c0 4 v50)).1 c0 5).toInt = v47.toInt := congrArg Int32.toInt (((pI_ne (a := c0) (b := 5) (c := c0) (k := 4) _ _ (Or.inr (by decide)))).trans ((pI_self _ _ _ _)))
              have lk55 : (((pI (pI (pI (pI t c0 6 a1) c0 7 k1) c0 5 v47) c0 4 v50)).1 c0 4).toInt = v50.toInt := congrArg Int32.toInt ((pI_self _ _ _ _))
              have lk56 : (((pI (pI (pI (pI t c0 6 a1) c0 7 k1) c0 5 v47) c0 4 v50)).1 c0 5).toInt = v47.toInt := congrArg Int32.toInt (((pI_ne (a := c0) (b := 5) (c := c0) (k := 4) _ _ (Or.inr (by decide)))).trans ((pI_self _ _ _ _)))
              exact r_zret C (n_bool (by omega)) (oDec_at oX4_add 95 rfl) ⟨_, rfl, ⟨by omega, by omega, by omega, (owLN_fr (oFr_oneI (q := 4) (m := 4) hk0 (by rfl)) rfl (owLN_fr (oFr_oneI (q := 4) (m := 5) hk0 (by rfl)) rfl (owLN_fr (oFr_oneI (q := 4) (m := 7) hk0 (by rfl)) rfl hq43))), by omega, by omega, by first | (exfalso; omega) | exact (owM_ad (x := a1) hp1 hp2 (by omega) (by omega) (by omega) (by omega) (by omega) (by omega) (by (repeat rw [oqRow_ne (a := c0 + 1) (c := c0) (by omega)]); exact iv11) (by (repeat rw [oqRow_ne (a := c0 + 4) (c := c0) (by omega)]); rw [show (s.1 c0 5).toInt + 2 = x3.toInt by omega]; exact iv12)).1, by first | (exfalso; omega) | exact (owM_ad (x := a1) hp1 hp2 (by omega) (by omega) (by omega) (by omega) (by omega) (by omega) (by (repeat rw [oqRow_ne (a := c0 + 1) (c := c0) (by omega)]); exact iv11) (by (repeat rw [oqRow_ne (a := c0 + 4) (c := c0) (by omega)]); rw [show (s.1 c0 5).toInt + 2 = x3.toInt by omega]; exact iv12)).2⟩⟩
            · skip
              refine r_iload_n C (j := 2) (oDec_at oX4_add 73 rfl) rfl rfl ?_
              refine r_iconst C (oDec_at oX4_add 74 rfl) (v := k2) (by rw [qk2]; rfl) ?_
              obtain ⟨v57, ev57⟩ : ∃ z : Int32, z = a2 - a2 / k2 * k2 := ⟨_, rfl⟩
              have hv57 := n_rem (k := 2) ev57 ek2 (by decide)
              have rv57 := n_rng v57
              refine r_irem C v57 (oDec_at oX4_add 75 rfl) (n_ne0 (by omega)) ev57 ?_
              refine r_iconst C (oDec_at oX4_add 76 rfl) (v := k1) (by rw [qk1]; rfl) ?_
              refine r_icmp_ne C 142 (oDec_at oX4_add 77 rfl) (by decide) (fun cd58 => ?_) (fun cd58 => ?_)
              · skip
                refine r_iconst C (oDec_at oX4_add 80 rfl) (v := k0) (by rw [qk0]; rfl) ?_
                refine r_puti (k := 7) (lo := 0) (hi := 1) C oCl4 hk0 (by decide) flX4_34 rfl rfl rfl rfl rfl (n_bool (by omega)) (n_fitz (by omega)) rfl ⟨by omega, by omega⟩ (oDec_at oX4_add 81 rfl) ?_
                refine r_aload_n C (j := 0) (oDec_at oX4_add 82 rfl) rfl rfl ?_
                refine r_dup C (oDec_at oX4_add 83 rfl) rfl ?_
                refine r_geti (k := 5) (lo := 0) (hi := 96) C v1 oCl4 hk0 (by decide) flX4_31 rfl rfl (((pI_ne (a := c0) (b := 5) (c := c0) (k := 7) _ _ (Or.inr (by decide)))).trans (((pI_ne (a := c0) (b := 5) (c := c0) (k := 6) _ _ (Or.inr (by decide)))).trans (ev1))) rfl rfl (oDec_at oX4_add 84 rfl) (fun _ _ => ?_)
                refine r_iload_n C (j := 2) (oDec_at oX4_add 85 rfl) rfl rfl ?_
                refine r_pc C 152 rfl ?_
                obtain ⟨v59, ev59⟩ : ∃ z : Int32, z = v1 + a2 := ⟨_, rfl⟩
                have hv59 : v59.toInt = v1.toInt + a2.toInt := n_add ev59 (by omega) (by omega)
                refine r_iadd C v59 (oDec_at oX4_add 86 rfl) ev59 ?_
                refine r_puti (k := 5) (lo := 0) (hi := 96) C oCl4 hk0 (by decide) flX4_31 rfl rfl rfl rfl rfl rfl rfl rfl ⟨by omega, by omega⟩ (oDec_at oX4_add 87 rfl) ?_
                refine r_aload_n C (j := 0) (oDec_at oX4_add 88 rfl) rfl rfl ?_
                refine r_dup C (oDec_at oX4_add 89 rfl) rfl ?_
                obtain ⟨v60, ev60⟩ : ∃ z : Int32, ((pI (pI (pI t c0 6 a1) c0 7 k0) c0 5 v59)).1 c0 4 = z := ⟨_, rfl⟩
                have gv60 : (t.1 c0 4).toInt = v60.toInt := congrArg Int32.toInt ((((pI_ne (a := c0) (b := 4) (c := c0) (k := 5) _ _ (Or.inr (by decide)))).trans (((pI_ne (a := c0) (b := 4) (c := c0) (k := 7) _ _ (Or.inr (by decide)))).trans ((pI_ne (a := c0) (b := 4) (c := c0) (k := 6) _ _ (Or.inr (by decide)))))).symm.trans ev60)
                have ggv60 : (((pI (pI (pI t c0 6 a1) c0 7 k0) c0 5 v59)).1 c0 4).toInt = v60.toInt := congrArg Int32.toInt ev60
                refine r_geti (k := 4) (lo := 0) (hi := 24) C v60 oCl4 hk0 (by decide) flX4_28 rfl rfl (ev60) rfl rfl (oDec_at oX4_add 90 rfl) (fun b61 b61h => ?_)
                refine r_iconst C (oDec_at oX4_add 91 rfl) (v := k1) (by rw [qk1]; rfl) ?_
                refine r_pc C 162 rfl ?_
                obtain ⟨v62, ev62⟩ : ∃ z : Int32, z = v60 + k1 := ⟨_, rfl⟩
                have hv62 : v62.toInt = v60.toInt + k1.toInt := n_add ev62 (by omega) (by omega)
                refine r_iadd C v62 (oDec_at oX4_add 92 rfl) ev62 ?_
                refine r_puti (k := 4) (lo := 0) (hi := 24) C oCl4 hk0 (by decide) flX4_28 rfl rfl rfl rfl rfl rfl rfl rfl ⟨by omega, by omega⟩ (oDec_at oX4_add 93 rfl) ?_
                refine r_iconst C (oDec_at oX4_add 94 rfl) (v := k1) (by rw [qk1]; rfl) ?_
                have lk63 : (((pI (pI (pI (pI t c0 6 a1) c0 7 k0) c0 5 v59) c0 4 v62)).1 c0 6).toInt = a1.toInt := congrArg Int32.toInt (((pI_ne (a := c0) (b := 6) (c := c0) (k := 4) _ _ (Or.inr (by decide)))).trans (((pI_ne (a := c0) (b := 6) (c := c0) (k := 5) _ _ (Or.inr (by decide)))).trans (((pI_ne (a := c0) (b := 6) (c := c0) (k := 7) _ _ (Or.inr (by decide)))).trans ((pI_self _ _ _ _)))))
                have lk64 : (((pI (pI (pI (pI t c0 6 a1) c0 7 k0) c0 5 v59) c0 4 v62)).1 c0 7).toInt = k0.toInt := congrArg Int32.toInt (((pI_ne (a := c0) (b := 7) (c := c0) (k := 4) _ _ (Or.inr (by decide)))).trans (((pI_ne (a := c0) (b := 7) (c := c0) (k := 5) _ _ (Or.inr (by decide)))).trans ((pI_self _ _ _ _))))
                have lk65 : (((pI (pI (pI (pI t c0 6 a1) c0 7 k0) c0 5 v59) c0 4 v62)).1 c0 4).toInt = v62.toInt := congrArg Int32.toInt ((pI_self _ _ _ _))
                have lk66 : (((pI (pI (pI (pI t c0 6 a1) c0 7 k0) c0 5 v59) c0 4 v62)).1 c0 5).toInt = v59.toInt := congrArg Int32.toInt (((pI_ne (a := c0) (b := 5) (c := c0) (k := 4) _ _ (Or.inr (by decide)))).trans ((pI_self _ _ _ _)))
                have lk67 : (((pI (pI (pI (pI t c0 6 a1) c0 7 k0) c0 5 v59) c0 4 v62)).1 c0 4).toInt = v62.toInt := congrArg Int32.toInt ((pI_self _ _ _ _))
                have lk68 : (((pI (pI (pI (pI t c0 6 a1) c0 7 k0) c0 5 v59) c0 4 v62)).1 c0 5).toInt = v59.toInt := congrArg Int32.toInt (((pI_ne (a := c0) (b := 5) (c := c0) (k := 4) _ _ (Or.inr (by decide)))).trans ((pI_self _ _ _ _)))
                exact r_zret C (n_bool (by omega)) (oDec_at oX4_add 95 rfl) ⟨_, rfl, ⟨by omega, by omega, by omega, (owLN_fr (oFr_oneI (q := 4) (m := 4) hk0 (by rfl)) rfl (owLN_fr (oFr_oneI (q := 4) (m := 5) hk0 (by rfl)) rfl (owLN_fr (oFr_oneI (q := 4) (m := 7) hk0 (by rfl)) rfl hq43))), by omega, by omega, by first | (exfalso; omega) | exact (owM_ad (x := a1) hp1 hp2 (by omega) (by omega) (by omega) (by omega) (by omega) (by omega) (by (repeat rw [oqRow_ne (a := c0 + 1) (c := c0) (by omega)]); exact iv11) (by (repeat rw [oqRow_ne (a := c0 + 4) (c := c0) (by omega)]); rw [show (s.1 c0 5).toInt + 2 = x3.toInt by omega]; exact iv12)).1, by first | (exfalso; omega) | exact (owM_ad (x := a1) hp1 hp2 (by omega) (by omega) (by omega) (by omega) (by omega) (by omega) (by (repeat rw [oqRow_ne (a := c0 + 1) (c := c0) (by omega)]); exact iv11) (by (repeat rw [oqRow_ne (a := c0 + 4) (c := c0) (by omega)]); rw [show (s.1 c0 5).toInt + 2 = x3.toInt by omega]; exact iv12)).2⟩⟩
              · skip
                refine r_iconst C (oDec_at oX4_add 78 rfl) (v := k1) (by rw [qk1]; rfl) ?_
                refine r_goto C (tgt := 143) (oDec_at oX4_add 79 rfl) (by decide) ?_
                refine r_puti (k := 7) (lo := 0) (hi := 1) C oCl4 hk0 (by decide) flX4_34 rfl rfl rfl rfl rfl (n_bool (by omega)) (n_fitz (by omega)) rfl ⟨by omega, by omega⟩ (oDec_at oX4_add 81 rfl) ?_
                refine r_aload_n C (j := 0) (oDec_at oX4_add 82 rfl) rfl rfl ?_
                refine r_dup C (oDec_at oX4_add 83 rfl) rfl ?_
                refine r_geti (k := 5) (lo := 0) (hi := 96) C v1 oCl4 hk0 (by decide) flX4_31 rfl rfl (((pI_ne (a := c0) (b := 5) (c := c0) (k := 7) _ _ (Or.inr (by decide)))).trans (((pI_ne (a := c0) (b := 5) (c := c0) (k := 6) _ _ (Or.inr (by decide)))).trans (ev1))) rfl rfl (oDec_at oX4_add 84 rfl) (fun _ _ => ?_)
                refine r_iload_n C (j := 2) (oDec_at oX4_add 85 rfl) rfl rfl ?_
                refine r_pc C 152 rfl ?_
                obtain ⟨v69, ev69⟩ : ∃ z : Int32, z = v1 + a2 := ⟨_, rfl⟩
                have hv69 : v69.toInt = v1.toInt + a2.toInt := n_add ev69 (by omega) (by omega)
                refine r_iadd C v69 (oDec_at oX4_add 86 rfl) ev69 ?_
                refine r_puti (k := 5) (lo := 0) (hi := 96) C oCl4 hk0 (by decide) flX4_31 rfl rfl rfl rfl rfl rfl rfl rfl ⟨by omega, by omega⟩ (oDec_at oX4_add 87 rfl) ?_
                refine r_aload_n C (j := 0) (oDec_at oX4_add 88 rfl) rfl rfl ?_
                refine r_dup C (oDec_at oX4_add 89 rfl) rfl ?_
                obtain ⟨v70, ev70⟩ : ∃ z : Int32, ((pI (pI (pI t c0 6 a1) c0 7 k1) c0 5 v69)).1 c0 4 = z := ⟨_, rfl⟩
                have gv70 : (t.1 c0 4).toInt = v70.toInt := congrArg Int32.toInt ((((pI_ne (a := c0) (b := 4) (c := c0) (k := 5) _ _ (Or.inr (by decide)))).trans (((pI_ne (a := c0) (b := 4) (c := c0) (k := 7) _ _ (Or.inr (by decide)))).trans ((pI_ne (a := c0) (b := 4) (c := c0) (k := 6) _ _ (Or.inr (by decide)))))).symm.trans ev70)
                have ggv70 : (((pI (pI (pI t c0 6 a1) c0 7 k1) c0 5 v69)).1 c0 4).toInt = v70.toInt := congrArg Int32.toInt ev70
                refine r_geti (k := 4) (lo := 0) (hi := 24) C v70 oCl4 hk0 (by decide) flX4_28 rfl rfl (ev70) rfl rfl (oDec_at oX4_add 90 rfl) (fun b71 b71h => ?_)
                refine r_iconst C (oDec_at oX4_add 91 rfl) (v := k1) (by rw [qk1]; rfl) ?_
                refine r_pc C 162 rfl ?_
                obtain ⟨v72, ev72⟩ : ∃ z : Int32, z = v70 + k1 := ⟨_, rfl⟩
                have hv72 : v72.toInt = v70.toInt + k1.toInt := n_add ev72 (by omega) (by omega)
                refine r_iadd C v72 (oDec_at oX4_add 92 rfl) ev72 ?_
                refine r_puti (k := 4) (lo := 0) (hi := 24) C oCl4 hk0 (by decide) flX4_28 rfl rfl rfl rfl rfl rfl rfl rfl ⟨by omega, by omega⟩ (oDec_at oX4_add 93 rfl) ?_
                refine r_iconst C (oDec_at oX4_add 94 rfl) (v := k1) (by rw [qk1]; rfl) ?_
                have lk73 : (((pI (pI (pI (pI t c0 6 a1) c0 7 k1) c0 5 v69) c0 4 v72)).1 c0 6).toInt = a1.toInt := congrArg Int32.toInt (((pI_ne (a := c0) (b := 6) (c := c0) (k := 4) _ _ (Or.inr (by decide)))).trans (((pI_ne (a := c0) (b := 6) (c := c0) (k := 5) _ _ (Or.inr (by decide)))).trans (((pI_ne (a := c0) (b := 6) (c := c0) (k := 7) _ _ (Or.inr (by decide)))).trans ((pI_self _ _ _ _)))))
                have lk74 : (((pI (pI (pI (pI t c0 6 a1) c0 7 k1) c0 5 v69) c0 4 v72)).1 c0 7).toInt = k1.toInt := congrArg Int32.toInt (((pI_ne (a := c0) (b := 7) (c := c0) (k := 4) _ _ (Or.inr (by decide)))).trans (((pI_ne (a := c0) (b := 7) (c := c0) (k := 5) _ _ (Or.inr (by decide)))).trans ((pI_self _ _ _ _))))
                have lk75 : (((pI (pI (pI (pI t c0 6 a1) c0 7 k1) c0 5 v69) c0 4 v72)).1 c0 4).toInt = v72.toInt := congrArg Int32.toInt ((pI_self _ _ _ _))
                have lk76 : (((pI (pI (pI (pI t c0 6 a1) c0 7 k1) c0 5 v69) c0 4 v72)).1 c0 5).toInt = v69.toInt := congrArg Int32.toInt (((pI_ne (a := c0) (b := 5) (c := c0) (k := 4) _ _ (Or.inr (by decide)))).trans ((pI_self _ _ _ _)))
                have lk77 : (((pI (pI (pI (pI t c0 6 a1) c0 7 k1) c0 5 v69) c0 4 v72)).1 c0 4).toInt = v72.toInt := congrArg Int32.toInt ((pI_self _ _ _ _))
                have lk78 : (((pI (pI (pI (pI t c0 6 a1) c0 7 k1) c0 5 v69) c0 4 v72)).1 c0 5).toInt = v69.toInt := congrArg Int32.toInt (((pI_ne (a := c0) (b := 5) (c := c0) (k := 4) _ _ (Or.inr (by decide)))).trans ((pI_self _ _ _ _)))
                exact r_zret C (n_bool (by omega)) (oDec_at oX4_add 95 rfl) ⟨_, rfl, ⟨by omega, by omega, by omega, (owLN_fr (oFr_oneI (q := 4) (m := 4) hk0 (by rfl)) rfl (owLN_fr (oFr_oneI (q := 4) (m := 5) hk0 (by rfl)) rfl (owLN_fr (oFr_oneI (q := 4) (m := 7) hk0 (by rfl)) rfl hq43))), by omega, by omega, by first | (exfalso; omega) | exact (owM_ad (x := a1) hp1 hp2 (by omega) (by omega) (by omega) (by omega) (by omega) (by omega) (by (repeat rw [oqRow_ne (a := c0 + 1) (c := c0) (by omega)]); exact iv11) (by (repeat rw [oqRow_ne (a := c0 + 4) (c := c0) (by omega)]); rw [show (s.1 c0 5).toInt + 2 = x3.toInt by omega]; exact iv12)).1, by first | (exfalso; omega) | exact (owM_ad (x := a1) hp1 hp2 (by omega) (by omega) (by omega) (by omega) (by omega) (by omega) (by (repeat rw [oqRow_ne (a := c0 + 1) (c := c0) (by omega)]); exact iv11) (by (repeat rw [oqRow_ne (a := c0 + 4) (c := c0) (by omega)]); rw [show (s.1 c0 5).toInt + 2 = x3.toInt by omega]; exact iv12)).2⟩⟩
        · skip
          refine r_aload_n C (j := 0) (oDec_at oX4_add 54 rfl) rfl rfl ?_
          refine r_getR (k := 3) (b := 4) C oCl4 hk0 (by decide) flX4_21 rfl rfl rfl (oDec_at oX4_add 55 rfl) ?_
          refine r_iload_n C (j := 3) (oDec_at oX4_add 56 rfl) rfl rfl ?_
          refine r_aload_n C (j := 0) (oDec_at oX4_add 57 rfl) rfl rfl ?_
          obtain ⟨v79, ev79⟩ : ∃ z : Int32, (t).1 c0 4 = z := ⟨_, rfl⟩
          have gv79 : (t.1 c0 4).toInt = v79.toInt := congrArg Int32.toInt (ev79)
          refine r_geti (k := 4) (lo := 0) (hi := 24) C v79 oCl4 hk0 (by decide) flX4_28 rfl rfl (ev79) rfl rfl (oDec_at oX4_add 58 rfl) (fun b80 b80h => ?_)
          refine r_iast (n := 96) (lo := (-2147483648)) (hi := 2147483647) C (kr4_4 hk0) (by decide) rfl rfl ⟨by omega, by omega⟩ (by decide) rfl rfl rfl rfl (n_rng _) (oDec_at oX4_add 59 rfl) ?_
          refine r_pc C 104 rfl ?_
          obtain ⟨v81, ev81⟩ : ∃ z : Int32, x3 + Int32.ofInt 1 = z := ⟨_, rfl⟩
          have hv81 : v81.toInt = x3.toInt + 1 := n_inc ev81 (by decide) (by omega) (by omega)
          refine r_iinc C (j := 3) (lv' := [(0, .ref (oad E c0)), (1, .int a1), (2, .int a2), (3, .int v81)]) v81 [1, 2, 3, 0] (oDec_at oX4_add 60 rfl) rfl ev81 (by decide) rfl ?_
          refine r_goto C (tgt := 84) (oDec_at oX4_add 61 rfl) (by decide) ?_
          have lk82 : (((pI t (c0 + 4) x3.toNatClampNeg v79)).1 c0 4).toInt = v79.toInt := congrArg Int32.toInt (((pI_ne _ _ (Or.inl (okd_ne hk0 (kr4_4 hk0) (by decide))))).trans (ev79))
          have lk83 : (((pI t (c0 + 4) x3.toNatClampNeg v79)).1 c0 5).toInt = v1.toInt := congrArg Int32.toInt (((pI_ne _ _ (Or.inl (okd_ne hk0 (kr4_4 hk0) (by decide))))).trans (ev1))
          have lk84 : (((pI t (c0 + 4) x3.toNatClampNeg v79)).1 c0 6).toInt = (t.1 c0 6).toInt := congrArg Int32.toInt ((pI_ne _ _ (Or.inl (okd_ne hk0 (kr4_4 hk0) (by decide)))))
          have lk85 : (((pI t (c0 + 4) x3.toNatClampNeg v79)).1 c0 7).toInt = (t.1 c0 7).toInt := congrArg Int32.toInt ((pI_ne _ _ (Or.inl (okd_ne hk0 (kr4_4 hk0) (by decide)))))
          exact (ih (n - 1) (by omega)) ((pI t (c0 + 4) x3.toNatClampNeg v79)) v81  (by omega) (by omega) (by omega) (by omega) (by omega) (by omega) (by omega) (owLN_fr (oFr_oneI (q := 19) (m := 9999) (kr4_4 hk0) (by rfl)) rfl iv7) (by omega) (by omega) (by omega) (by first | exact (oqRow_ne (by omega)).trans iv11 | (rw [oqRow_ne (by omega), oqRow_ne (by omega), oqRow_pu, (by assumption)])) (by first | (rw [oqRow_pu, show v79 = s.1 c0 4 from n_eq (by omega)]; exact owOr_nx iv12 (by omega) (by have h9 := n_nat x3; omega) (by omega)) | (rw [oqRow_ne (by omega), oqRow_ne (by omega), oqRow_ne (by omega)]; exact owOr_0 (by omega))) (by omega)
  refine r_iload_n C (j := 1) (oDec_at oX4_add 0 rfl) rfl rfl ?_
  refine r_iconst C (oDec_at oX4_add 1 rfl) (v := km1) (by rw [qkm1]; rfl) ?_
  refine r_icmp_lt C 22 (oDec_at oX4_add 2 rfl) (by decide) (fun cd86 => ?_) (fun cd86 => ?_)
  · skip
    refine r_iconst C (oDec_at oX4_add 12 rfl) (v := k0) (by rw [qk0]; rfl) ?_
    exact r_zret C (n_bool (by omega)) (oDec_at oX4_add 13 rfl) ⟨_, rfl, ⟨by omega, by omega, by omega, hp0, by omega, by omega, by first | (exfalso; omega), by first | (exfalso; omega)⟩⟩
  · skip
    refine r_iload_n C (j := 1) (oDec_at oX4_add 3 rfl) rfl rfl ?_
    refine r_bipush C (oDec_at oX4_add 4 rfl) (v := k28) (by rw [qk28]; rfl) ?_
    refine r_icmp_gt C 22 (oDec_at oX4_add 5 rfl) (by decide) (fun cd87 => ?_) (fun cd87 => ?_)
    · skip
      refine r_iconst C (oDec_at oX4_add 12 rfl) (v := k0) (by rw [qk0]; rfl) ?_
      exact r_zret C (n_bool (by omega)) (oDec_at oX4_add 13 rfl) ⟨_, rfl, ⟨by omega, by omega, by omega, hp0, by omega, by omega, by first | (exfalso; omega), by first | (exfalso; omega)⟩⟩
    · skip
      refine r_iload_n C (j := 2) (oDec_at oX4_add 6 rfl) rfl rfl ?_
      refine r_iconst C (oDec_at oX4_add 7 rfl) (v := k1) (by rw [qk1]; rfl) ?_
      refine r_icmp_lt C 22 (oDec_at oX4_add 8 rfl) (by decide) (fun cd88 => ?_) (fun cd88 => ?_)
      · skip
        refine r_iconst C (oDec_at oX4_add 12 rfl) (v := k0) (by rw [qk0]; rfl) ?_
        exact r_zret C (n_bool (by omega)) (oDec_at oX4_add 13 rfl) ⟨_, rfl, ⟨by omega, by omega, by omega, hp0, by omega, by omega, by first | (exfalso; omega), by first | (exfalso; omega)⟩⟩
      · skip
        refine r_iload_n C (j := 2) (oDec_at oX4_add 9 rfl) rfl rfl ?_
        refine r_bipush C (oDec_at oX4_add 10 rfl) (v := k16) (by rw [qk16]; rfl) ?_
        refine r_icmp_le C 24 (oDec_at oX4_add 11 rfl) (by decide) (fun cd89 => ?_) (fun cd89 => ?_)
        · skip
          refine r_aload_n C (j := 0) (oDec_at oX4_add 14 rfl) rfl rfl ?_
          obtain ⟨v90, ev90⟩ : ∃ z : Int32, (s).1 c0 4 = z := ⟨_, rfl⟩
          have gv90 : (s.1 c0 4).toInt = v90.toInt := congrArg Int32.toInt (ev90)
          refine r_geti (k := 4) (lo := 0) (hi := 24) C v90 oCl4 hk0 (by decide) flX4_28 rfl rfl (ev90) rfl rfl (oDec_at oX4_add 15 rfl) (fun b91 b91h => ?_)
          refine r_bipush C (oDec_at oX4_add 16 rfl) (v := k24) (by rw [qk24]; rfl) ?_
          refine r_icmp_ge C 44 (oDec_at oX4_add 17 rfl) (by decide) (fun cd92 => ?_) (fun cd92 => ?_)
          · skip
            refine r_iconst C (oDec_at oX4_add 24 rfl) (v := k0) (by rw [qk0]; rfl) ?_
            have lk93 : ((s).1 c0 4).toInt = v90.toInt := congrArg Int32.toInt (ev90)
            exact r_zret C (n_bool (by omega)) (oDec_at oX4_add 25 rfl) ⟨_, rfl, ⟨by omega, by omega, by omega, hp0, by omega, by omega, by first | (exfalso; omega), by first | (exfalso; omega)⟩⟩
          · skip
            refine r_aload_n C (j := 0) (oDec_at oX4_add 18 rfl) rfl rfl ?_
            obtain ⟨v94, ev94⟩ : ∃ z : Int32, (s).1 c0 5 = z := ⟨_, rfl⟩
            have gv94 : (s.1 c0 5).toInt = v94.toInt := congrArg Int32.toInt (ev94)
            refine r_geti (k := 5) (lo := 0) (hi := 96) C v94 oCl4 hk0 (by decide) flX4_31 rfl rfl (ev94) rfl rfl (oDec_at oX4_add 19 rfl) (fun b95 b95h => ?_)
            refine r_iload_n C (j := 2) (oDec_at oX4_add 20 rfl) rfl rfl ?_
            obtain ⟨v96, ev96⟩ : ∃ z : Int32, z = v94 + a2 := ⟨_, rfl⟩
            have hv96 : v96.toInt = v94.toInt + a2.toInt := n_add ev96 (by omega) (by omega)
            refine r_iadd C v96 (oDec_at oX4_add 21 rfl) ev96 ?_
            refine r_bipush C (oDec_at oX4_add 22 rfl) (v := k96) (by rw [qk96]; rfl) ?_
            refine r_icmp_le C 46 (oDec_at oX4_add 23 rfl) (by decide) (fun cd97 => ?_) (fun cd97 => ?_)
            · skip
              refine r_aload_n C (j := 0) (oDec_at oX4_add 26 rfl) rfl rfl ?_
              refine r_getR (k := 0) (b := 1) C oCl4 hk0 (by decide) flX4_9 rfl rfl rfl (oDec_at oX4_add 27 rfl) ?_
              refine r_aload_n C (j := 0) (oDec_at oX4_add 28 rfl) rfl rfl ?_
              refine r_geti (k := 4) (lo := 0) (hi := 24) C v90 oCl4 hk0 (by decide) flX4_28 rfl rfl (ev90) rfl rfl (oDec_at oX4_add 29 rfl) (fun _ _ => ?_)
              refine r_iload_n C (j := 1) (oDec_at oX4_add 30 rfl) rfl rfl ?_
              refine r_iast (n := 24) (lo := (-2147483648)) (hi := 2147483647) C (kr4_1 hk0) (by decide) rfl rfl ⟨by omega, by omega⟩ (by decide) rfl rfl rfl rfl (n_rng _) (oDec_at oX4_add 31 rfl) ?_
              refine r_pc C 56 rfl ?_
              have hq98 : owLN ((pI s (c0 + 1) v90.toNatClampNeg a1)) := owLN_st hp0 hk0 (by omega)
              refine r_aload_n C (j := 0) (oDec_at oX4_add 32 rfl) rfl rfl ?_
              refine r_getR (k := 1) (b := 2) C oCl4 hk0 (by decide) flX4_15 rfl rfl rfl (oDec_at oX4_add 33 rfl) ?_
              refine r_aload_n C (j := 0) (oDec_at oX4_add 34 rfl) rfl rfl ?_
              refine r_geti (k := 4) (lo := 0) (hi := 24) C v90 oCl4 hk0 (by decide) flX4_28 rfl rfl (((pI_ne _ _ (Or.inl (okd_ne hk0 (kr4_1 hk0) (by decide))))).trans (ev90)) rfl rfl (oDec_at oX4_add 35 rfl) (fun _ _ => ?_)
              refine r_iload_n C (j := 2) (oDec_at oX4_add 36 rfl) rfl rfl ?_
              refine r_iast (n := 24) (lo := (-2147483648)) (hi := 2147483647) C (kr4_2 hk0) (by decide) rfl rfl ⟨by omega, by omega⟩ (by decide) rfl rfl rfl rfl (n_rng _) (oDec_at oX4_add 37 rfl) ?_
              refine r_pc C 66 rfl ?_
              refine r_aload_n C (j := 0) (oDec_at oX4_add 38 rfl) rfl rfl ?_
              refine r_getR (k := 2) (b := 3) C oCl4 hk0 (by decide) flX4_18 rfl rfl rfl (oDec_at oX4_add 39 rfl) ?_
              refine r_aload_n C (j := 0) (oDec_at oX4_add 40 rfl) rfl rfl ?_
              refine r_geti (k := 4) (lo := 0) (hi := 24) C v90 oCl4 hk0 (by decide) flX4_28 rfl rfl (((pI_ne _ _ (Or.inl (okd_ne hk0 (kr4_2 hk0) (by decide))))).trans (((pI_ne _ _ (Or.inl (okd_ne hk0 (kr4_1 hk0) (by decide))))).trans (ev90))) rfl rfl (oDec_at oX4_add 41 rfl) (fun _ _ => ?_)
              refine r_aload_n C (j := 0) (oDec_at oX4_add 42 rfl) rfl rfl ?_
              refine r_geti (k := 5) (lo := 0) (hi := 96) C v94 oCl4 hk0 (by decide) flX4_31 rfl rfl (((pI_ne _ _ (Or.inl (okd_ne hk0 (kr4_2 hk0) (by decide))))).trans (((pI_ne _ _ (Or.inl (okd_ne hk0 (kr4_1 hk0) (by decide))))).trans (ev94))) rfl rfl (oDec_at oX4_add 43 rfl) (fun _ _ => ?_)
              refine r_pc C 78 rfl ?_
              refine r_iast (n := 24) (lo := (-2147483648)) (hi := 2147483647) C (kr4_3 hk0) (by decide) rfl rfl ⟨by omega, by omega⟩ (by decide) rfl rfl rfl rfl (n_rng _) (oDec_at oX4_add 44 rfl) ?_
              refine r_aload_n C (j := 0) (oDec_at oX4_add 45 rfl) rfl rfl ?_
              refine r_geti (k := 5) (lo := 0) (hi := 96) C v94 oCl4 hk0 (by decide) flX4_31 rfl rfl (((pI_ne _ _ (Or.inl (okd_ne hk0 (kr4_3 hk0) (by decide))))).trans (((pI_ne _ _ (Or.inl (okd_ne hk0 (kr4_2 hk0) (by decide))))).trans (((pI_ne _ _ (Or.inl (okd_ne hk0 (kr4_1 hk0) (by decide))))).trans (ev94)))) rfl rfl (oDec_at oX4_add 46 rfl) (fun _ _ => ?_)
              refine r_istore_n C (lv' := [(0, .ref (oad E c0)), (1, .int a1), (2, .int a2), (3, .int v94)]) [1, 2, 3, 0] (oDec_at oX4_add 47 rfl) rfl (by decide) rfl ?_
              have lk99 : (((pI (pI (pI s (c0 + 1) v90.toNatClampNeg a1) (c0 + 2) v90.toNatClampNeg a2) (c0 + 3) v90.toNatClampNeg v94)).1 c0 4).toInt = v90.toInt := congrArg Int32.toInt (((pI_ne _ _ (Or.inl (okd_ne hk0 (kr4_3 hk0) (by decide))))).trans (((pI_ne _ _ (Or.inl (okd_ne hk0 (kr4_2 hk0) (by decide))))).trans (((pI_ne _ _ (Or.inl (okd_ne hk0 (kr4_1 hk0) (by decide))))).trans (ev90))))
              have lk100 : (((pI (pI (pI s (c0 + 1) v90.toNatClampNeg a1) (c0 + 2) v90.toNatClampNeg a2) (c0 + 3) v90.toNatClampNeg v94)).1 c0 5).toInt = v94.toInt := congrArg Int32.toInt (((pI_ne _ _ (Or.inl (okd_ne hk0 (kr4_3 hk0) (by decide))))).trans (((pI_ne _ _ (Or.inl (okd_ne hk0 (kr4_2 hk0) (by decide))))).trans (((pI_ne _ _ (Or.inl (okd_ne hk0 (kr4_1 hk0) (by decide))))).trans (ev94))))
              have lk101 : (((pI (pI (pI s (c0 + 1) v90.toNatClampNeg a1) (c0 + 2) v90.toNatClampNeg a2) (c0 + 3) v90.toNatClampNeg v94)).1 c0 6).toInt = (s.1 c0 6).toInt := congrArg Int32.toInt (((pI_ne _ _ (Or.inl (okd_ne hk0 (kr4_3 hk0) (by decide))))).trans (((pI_ne _ _ (Or.inl (okd_ne hk0 (kr4_2 hk0) (by decide))))).trans ((pI_ne _ _ (Or.inl (okd_ne hk0 (kr4_1 hk0) (by decide)))))))
              have lk102 : (((pI (pI (pI s (c0 + 1) v90.toNatClampNeg a1) (c0 + 2) v90.toNatClampNeg a2) (c0 + 3) v90.toNatClampNeg v94)).1 c0 7).toInt = (s.1 c0 7).toInt := congrArg Int32.toInt (((pI_ne _ _ (Or.inl (okd_ne hk0 (kr4_3 hk0) (by decide))))).trans (((pI_ne _ _ (Or.inl (okd_ne hk0 (kr4_2 hk0) (by decide))))).trans ((pI_ne _ _ (Or.inl (okd_ne hk0 (kr4_1 hk0) (by decide)))))))
              exact (key ((s.1 c0 5).toInt + a2.toInt - v94.toInt + 1).toNat) ((pI (pI (pI s (c0 + 1) v90.toNatClampNeg a1) (c0 + 2) v90.toNatClampNeg a2) (c0 + 3) v90.toNatClampNeg v94)) v94  (by omega) (by omega) (by omega) (by omega) (by omega) (by omega) (by omega) (owLN_fr (oFr_oneI (q := 18) (m := 9999) (kr4_3 hk0) (by rfl)) rfl (owLN_fr (oFr_oneI (q := 17) (m := 9999) (kr4_2 hk0) (by rfl)) rfl hq98)) (by omega) (by omega) (by omega) (by first | (rw [oqRow_ne (by omega), oqRow_ne (by omega), oqRow_pu, ev90])) (by first | (rw [oqRow_ne (by omega), oqRow_ne (by omega), oqRow_ne (by omega)]; exact owOr_0 (by omega))) (by omega)
            · skip
              refine r_iconst C (oDec_at oX4_add 24 rfl) (v := k0) (by rw [qk0]; rfl) ?_
              have lk103 : ((s).1 c0 4).toInt = v90.toInt := congrArg Int32.toInt (ev90)
              have lk104 : ((s).1 c0 5).toInt = v94.toInt := congrArg Int32.toInt (ev94)
              exact r_zret C (n_bool (by omega)) (oDec_at oX4_add 25 rfl) ⟨_, rfl, ⟨by omega, by omega, by omega, hp0, by omega, by omega, by first | (exfalso; omega), by first | (exfalso; omega)⟩⟩
        · skip
          refine r_iconst C (oDec_at oX4_add 12 rfl) (v := k0) (by rw [qk0]; rfl) ?_
          exact r_zret C (n_bool (by omega)) (oDec_at oX4_add 13 rfl) ⟨_, rfl, ⟨by omega, by omega, by omega, hp0, by omega, by omega, by first | (exfalso; omega), by first | (exfalso; omega)⟩⟩
set_option maxHeartbeats 4000000 in
set_option maxRecDepth 100000 in
theorem ct10_X4_setStep (l : Launch) (E : oE) (s : oS) (c0 : Nat) (hk0 : okd c0 = 4) (a1 : Int32) (a2 : Int32) (nn : Int) (st : Nat → Int) (hp0 : owLN s) (hp1 : -1 ≤ a2.toInt ∧ a2.toInt ≤ 28) (hp2 : owMA c0 nn s) (hp3 : owMS c0 nn st s) (hp4 : 0 ≤ a1.toInt ∧ a1.toInt < nn) (hp5 : 0 ≤ a2.toInt ∧ a2.toInt ≤ 4) (hp6 : owDg nn st) (hp7 : nn ≤ 6) : oMet l 3 yX4_setStep cX4_setStep 4 none [(4, 6), (16, 9999)] E s [.ref (oad E c0), .int a1, .int a2] (oPv (fun u => (owLN u) ∧ (owMS c0 nn (owUs st a1.toNatClampNeg a2.toInt) u))) := by
  refine oMet.of (lv := [(0, .ref (oad E c0)), (1, .int a1), (2, .int a2)]) (by decide +kernel) (Nat.le_of_ble_eq_true rfl) rfl (fun J C hT => ?_)
  have C : oC l 3 cX4_setStep RX4 4 none [(4, 6), (16, 9999)] E s (oPv (fun u => (owLN u) ∧ (owMS c0 nn (owUs st a1.toNatClampNeg a2.toInt) u))) J := C
  obtain ⟨km1, qkm1⟩ : ∃ z : Int32, z = (-1) := ⟨_, rfl⟩
  have ekm1 : km1.toInt = (-1) := by rw [qkm1]; rfl
  obtain ⟨k0, qk0⟩ : ∃ z : Int32, z = 0 := ⟨_, rfl⟩
  have ek0 : k0.toInt = 0 := by rw [qk0]; rfl
  have rg1 := n_rng a1
  have rg2 := n_rng a2
  have hA2 := hp2.2.1
  have hu9 := (owUs_dg (k := a1.toNatClampNeg) (v := a2.toInt) hp6 (by have h9 := n_nat a1; omega) (by omega)).1 0
  have key : ∀ n : Nat, (∀ (t : oS) (x3 : Int32), (0 ≤ x3.toInt ∧ x3.toInt ≤ 24) → (owLN t) → (owMA c0 nn t) → (t.1 (c0 + 1) = oU (s.1 (c0 + 1)) a1.toNatClampNeg a2) → ((x3.toInt = 0 ∧ (t.1 c0 6).toInt = -1) ∨ (x3.toInt = 1 ∧ (t.1 c0 6).toInt = owUs st a1.toNatClampNeg a2.toInt 0)) → 25 - x3.toInt ≤ (n : Int) → J t 23 [(0, .ref (oad E c0)), (3, .int x3)] []) := by
    intro n
    induction n using Nat.strongRecOn with
    | _ n ih =>
      skip
      · intro t x3  iv0 iv1 iv2 iv3 iv4 hmu
        have rx3 := n_rng x3
        have hcn9 := (iv2).2.1
        refine r_iload_n C (j := 1) (oDec_at oX4_setStep 15 rfl) rfl rfl ?_
        refine r_aload_n C (j := 0) (oDec_at oX4_setStep 16 rfl) rfl rfl ?_
        obtain ⟨v1, ev1⟩ : ∃ z : Int32, (t).1 c0 4 = z := ⟨_, rfl⟩
        have gv1 : (t.1 c0 4).toInt = v1.toInt := congrArg Int32.toInt (ev1)
        refine r_geti (k := 4) (lo := 0) (hi := 24) C v1 oCl4 hk0 (by decide) flX4_28 rfl rfl (ev1) rfl rfl (oDec_at oX4_setStep 17 rfl) (fun b2 b2h => ?_)
        refine r_icmp_ge C 54 (oDec_at oX4_setStep 18 rfl) (by decide) (fun cd3 => ?_) (fun cd3 => ?_)
        · skip
          exact r_vret C (oDec_at oX4_setStep 30 rfl) ⟨rfl, ⟨iv1, by first | (exfalso; omega) | exact owMS_up hp3 (by have h9 := n_nat a1; omega) iv3 (by omega)⟩⟩
        · skip
          refine r_aload_n C (j := 0) (oDec_at oX4_setStep 19 rfl) rfl rfl ?_
          obtain ⟨v4, ev4⟩ : ∃ z : Int32, (t).1 c0 6 = z := ⟨_, rfl⟩
          have gv4 : (t.1 c0 6).toInt = v4.toInt := congrArg Int32.toInt (ev4)
          have rv4 := n_rng v4
          refine r_geti (k := 6) (lo := (-2147483648)) (hi := 2147483647) C v4 oCl4 hk0 (by decide) flX4_24 rfl rfl (ev4) rfl rfl (oDec_at oX4_setStep 20 rfl) (fun _ _ => ?_)
          refine r_iconst C (oDec_at oX4_setStep 21 rfl) (v := km1) (by rw [qkm1]; rfl) ?_
          refine r_icmp_ne C 54 (oDec_at oX4_setStep 22 rfl) (by decide) (fun cd5 => ?_) (fun cd5 => ?_)
          · skip
            have lk6 : ((t).1 c0 6).toInt = v4.toInt := congrArg Int32.toInt (ev4)
            exact r_vret C (oDec_at oX4_setStep 30 rfl) ⟨rfl, ⟨iv1, by first | (exfalso; omega) | exact owMS_up hp3 (by have h9 := n_nat a1; omega) iv3 (by omega)⟩⟩
          · skip
            refine r_aload_n C (j := 0) (oDec_at oX4_setStep 23 rfl) rfl rfl ?_
            refine r_aload_n C (j := 0) (oDec_at oX4_setStep 24 rfl) rfl rfl ?_
            refine r_iload_n C (j := 1) (oDec_at oX4_setStep 25 rfl) rfl rfl ?_
            refine r_callVi C oCl4 hk0 miX4_stepOf mlX4_41 (ct9_X4_stepOf l E (t) c0 hk0 x3 iv1) (by decide) rfl rfl rfl (Nat.le_of_ble_eq_true rfl) (oDec_at oX4_setStep 26 rfl) (fun r8 u7 pu7 fu7 => ?_)
            try dsimp only at pu7
            obtain ⟨pu7_0, pu7_1⟩ := pu7
            have hxu7 := oFr_nil fu7; subst hxu7
            have rr8 := n_rng r8
            have hr9 : r8.toInt = owUs st a1.toNatClampNeg a2.toInt 0 := by have h9 := pu7_0; rw [owSt_y (by omega), show x3.toInt.toNat = 0 by omega, iv3] at h9; rw [h9]; exact owMS_at0 hp3 (by omega)
            refine r_puti (k := 6) (lo := (-2147483648)) (hi := 2147483647) C oCl4 hk0 (by decide) flX4_24 rfl rfl rfl rfl rfl rfl rfl rfl (n_rng _) (oDec_at oX4_setStep 27 rfl) ?_
            have hq9 : owLN ((pI t c0 6 r8)) := owLN_op iv1 hk0 (by omega)
            obtain ⟨v10, ev10⟩ : ∃ z : Int32, x3 + Int32.ofInt 1 = z := ⟨_, rfl⟩
            have hv10 : v10.toInt = x3.toInt + 1 := n_inc ev10 (by decide) (by omega) (by omega)
            refine r_iinc C (j := 1) (lv' := [(0, .ref (oad E c0)), (3, .int v10)]) v10 [1, 0] (oDec_at oX4_setStep 28 rfl) rfl ev10 (by decide) rfl ?_
            refine r_pc C 51 rfl ?_
            refine r_goto C (tgt := 23) (oDec_at oX4_setStep 29 rfl) (by decide) ?_
            have lk11 : (((pI t c0 6 r8)).1 c0 6).toInt = r8.toInt := congrArg Int32.toInt ((pI_self _ _ _ _))
            exact (ih (n - 1) (by omega)) ((pI t c0 6 r8)) v10  (by omega) hq9 (owMA_fr (oFr_oneI (q := 4) (m := 6) hk0 (by rfl)) rfl iv2) (by first | exact (oqRow_ne (by omega)).trans iv3 | (rw [oqRow_ne (by omega), oqRow_pu])) (by omega) (by omega)
  refine r_aload_n C (j := 0) (oDec_at oX4_setStep 0 rfl) rfl rfl ?_
  refine r_iload_n C (j := 1) (oDec_at oX4_setStep 1 rfl) rfl rfl ?_
  refine r_callVi C oCl4 hk0 miX4_holds mlX4_52 (ct9_X4_holds l E (s) c0 hk0 a1 ) (by decide) rfl rfl rfl (Nat.le_of_ble_eq_true rfl) (oDec_at oX4_setStep 2 rfl) (fun r13 u12 pu12 fu12 => ?_)
  try dsimp only at pu12
  obtain ⟨pu12_0, pu12_1, pu12_2⟩ := pu12
  have hxu12 := oFr_nil fu12; subst hxu12
  have rr13 := n_rng r13
  refine r_if_ne C 9 (oDec_at oX4_setStep 3 rfl) (by decide) (fun cd14 => ?_) (fun cd14 => ?_)
  · skip
    refine r_aload_n C (j := 0) (oDec_at oX4_setStep 5 rfl) rfl rfl ?_
    refine r_getR (k := 0) (b := 1) C oCl4 hk0 (by decide) flX4_9 rfl rfl rfl (oDec_at oX4_setStep 6 rfl) ?_
    refine r_iload_n C (j := 1) (oDec_at oX4_setStep 7 rfl) rfl rfl ?_
    refine r_iload_n C (j := 2) (oDec_at oX4_setStep 8 rfl) rfl rfl ?_
    refine r_iast (n := 24) (lo := (-2147483648)) (hi := 2147483647) C (kr4_1 hk0) (by decide) rfl rfl ⟨by omega, by omega⟩ (by decide) rfl rfl rfl rfl (n_rng _) (oDec_at oX4_setStep 9 rfl) ?_
    have hq15 : owLN ((pI s (c0 + 1) a1.toNatClampNeg a2)) := owLN_st hp0 hk0 (by omega)
    refine r_aload_n C (j := 0) (oDec_at oX4_setStep 10 rfl) rfl rfl ?_
    refine r_pc C 17 rfl ?_
    refine r_iconst C (oDec_at oX4_setStep 11 rfl) (v := km1) (by rw [qkm1]; rfl) ?_
    refine r_puti (k := 6) (lo := (-2147483648)) (hi := 2147483647) C oCl4 hk0 (by decide) flX4_24 rfl rfl rfl rfl rfl rfl rfl rfl (n_rng _) (oDec_at oX4_setStep 12 rfl) ?_
    have hq16 : owLN ((pI (pI s (c0 + 1) a1.toNatClampNeg a2) c0 6 km1)) := owLN_op hq15 hk0 (by omega)
    refine r_iconst C (oDec_at oX4_setStep 13 rfl) (v := k0) (by rw [qk0]; rfl) ?_
    refine r_istore_n C (lv' := [(0, .ref (oad E c0)), (1, .int a1), (2, .int a2), (3, .int k0)]) [1, 2, 3, 0] (oDec_at oX4_setStep 14 rfl) rfl (by decide) rfl ?_
    have lk17 : (((pI (pI s (c0 + 1) a1.toNatClampNeg a2) c0 6 km1)).1 c0 6).toInt = km1.toInt := congrArg Int32.toInt ((pI_self _ _ _ _))
    refine r_pick C [0, 3] rfl ?_
    exact (key (25 - k0.toInt).toNat) ((pI (pI s (c0 + 1) a1.toNatClampNeg a2) c0 6 km1)) k0  (by omega) hq16 (owMA_fr (oFr_oneI (q := 4) (m := 6) hk0 (by rfl)) rfl (owMA_fr (oFr_oneI (q := 16) (m := 9999) (kr4_1 hk0) (by rfl)) rfl hp2)) (by first | (rw [oqRow_ne (by omega), oqRow_pu])) (by omega) (by omega)
  · skip
    exact r_vret C (oDec_at oX4_setStep 4 rfl) ⟨rfl, ⟨hp0, by first | (exfalso; omega)⟩⟩
set_option maxHeartbeats 4000000 in
set_option maxRecDepth 100000 in
theorem ct10_X4_fillMade (l : Launch) (E : oE) (s : oS) (c0 : Nat) (hk0 : okd c0 = 4) (a1 : Int32) (a2 : Int32) (nn : Int) (st : Nat → Int) (hp0 : owLN s) (hp1 : owMA c0 nn s) (hp2 : owMS c0 nn st s) (hp3 : owDg nn st) (hp4 : 0 ≤ a1.toInt ∧ a1.toInt ≤ nn) (hp5 : nn ≤ 6) (hp6 : 0 ≤ a2.toInt) : oMet l 4 yX4_fillMade cX4_fillMade 5 (some .boolean) [(4, 6), (16, 9999)] E s [.ref (oad E c0), .int a1, .int a2] (oPi (fun r u => (0 ≤ r.toInt ∧ r.toInt ≤ 1) ∧ (owLN u) ∧ (r.toInt = 1 → owFl c0 nn a2.toInt a1.toInt nn st u) ∧ (r.toInt = 0 → (a2.toInt < 1 ∧ 2 ≤ nn)))) := by
  refine oMet.of (lv := [(0, .ref (oad E c0)), (1, .int a1), (2, .int a2)]) (by decide +kernel) (Nat.le_of_ble_eq_true rfl) rfl (fun J C hT => ?_)
  have C : oC l 4 cX4_fillMade RX4 5 (some .boolean) [(4, 6), (16, 9999)] E s (oPi (fun r u => (0 ≤ r.toInt ∧ r.toInt ≤ 1) ∧ (owLN u) ∧ (r.toInt = 1 → owFl c0 nn a2.toInt a1.toInt nn st u) ∧ (r.toInt = 0 → (a2.toInt < 1 ∧ 2 ≤ nn)))) J := C
  obtain ⟨k0, qk0⟩ : ∃ z : Int32, z = 0 := ⟨_, rfl⟩
  have ek0 : k0.toInt = 0 := by rw [qk0]; rfl
  obtain ⟨k1, qk1⟩ : ∃ z : Int32, z = 1 := ⟨_, rfl⟩
  have ek1 : k1.toInt = 1 := by rw [qk1]; rfl
  have rg1 := n_rng a1
  have rg2 := n_rng a2
  have key : ∀ n : Nat, (∀ (t : oS) (x3 : Int32), (owLN t) → (owMA c0 nn t) → (a1.toInt ≤ x3.toInt ∧ x3.toInt ≤ nn) → (owFl c0 nn a2.toInt a1.toInt x3.toInt st t) → 2147483648 - x3.toInt ≤ (n : Int) → J t 2 [(0, .ref (oad E c0)), (2, .int a2), (3, .int x3)] []) := by
    intro n
    induction n using Nat.strongRecOn with
    | _ n ih =>
      skip
      · intro t x3  iv0 iv1 iv2 iv3 hmu
        have rx3 := n_rng x3
        have hcn9 := (iv1).2.1
        refine r_iload_n C (j := 2) (oDec_at oX4_fillMade 2 rfl) rfl rfl ?_
        refine r_aload_n C (j := 0) (oDec_at oX4_fillMade 3 rfl) rfl rfl ?_
        obtain ⟨v1, ev1⟩ : ∃ z : Int32, (t).1 c0 4 = z := ⟨_, rfl⟩
        have gv1 : (t.1 c0 4).toInt = v1.toInt := congrArg Int32.toInt (ev1)
        refine r_geti (k := 4) (lo := 0) (hi := 24) C v1 oCl4 hk0 (by decide) flX4_28 rfl rfl (ev1) rfl rfl (oDec_at oX4_fillMade 4 rfl) (fun b2 b2h => ?_)
        refine r_icmp_ge C 52 (oDec_at oX4_fillMade 5 rfl) (by decide) (fun cd3 => ?_) (fun cd3 => ?_)
        · skip
          refine r_iconst C (oDec_at oX4_fillMade 29 rfl) (v := k1) (by rw [qk1]; rfl) ?_
          exact r_zret C (n_bool (by omega)) (oDec_at oX4_fillMade 30 rfl) ⟨_, rfl, ⟨by omega, iv0, fun _ => owFl_c iv3 (by omega), fun h9 => by exfalso; omega⟩⟩
        · skip
          obtain ⟨st9, hms9, hfi9⟩ := iv3
          have hn9 := n_nat x3
          have hdg9 := owFi_dg hp3 hfi9 (by omega)
          have hq4 : owMS c0 nn st9 (t) := hms9
          refine r_iload_n C (j := 2) (oDec_at oX4_fillMade 6 rfl) rfl rfl ?_
          refine r_if_le C 28 (oDec_at oX4_fillMade 7 rfl) (by decide) (fun cd5 => ?_) (fun cd5 => ?_)
          · skip
            refine r_iconst C (oDec_at oX4_fillMade 16 rfl) (v := k0) (by rw [qk0]; rfl) ?_
            have hv9 : k0.toInt = if 0 < x3.toNatClampNeg ∧ st9 (x3.toNatClampNeg - 1) = 0 then 1 else 0 := by first | (rw [if_pos ⟨by omega, by omega⟩]; omega) | (rw [if_neg (by omega)] <;> omega)
            refine r_istore C (lv' := [(0, .ref (oad E c0)), (2, .int a2), (3, .int x3), (4, .int k0)]) [1, 2, 3, 0] (oDec_at oX4_fillMade 17 rfl) (by decide) rfl ?_
            refine r_iload C (j := 3) (oDec_at oX4_fillMade 18 rfl) rfl ?_
            refine r_iload_n C (j := 1) (oDec_at oX4_fillMade 19 rfl) rfl rfl ?_
            refine r_icmp_le C 39 (oDec_at oX4_fillMade 20 rfl) (by decide) (fun cd6 => ?_) (fun cd6 => ?_)
            · skip
              refine r_aload_n C (j := 0) (oDec_at oX4_fillMade 23 rfl) rfl rfl ?_
              refine r_iload_n C (j := 2) (oDec_at oX4_fillMade 24 rfl) rfl rfl ?_
              refine r_iload C (j := 3) (oDec_at oX4_fillMade 25 rfl) rfl ?_
              refine r_callVv C oCl4 hk0 miX4_setStep mlX4_59 (ct10_X4_setStep l E (t) c0 hk0 x3 k0 (nn) (st9) iv0 (by omega) iv1 hq4 (by omega) (by omega) (by omega) (by omega)) (by decide) rfl rfl rfl (Nat.le_of_ble_eq_true rfl) (oDec_at oX4_fillMade 26 rfl) (fun u7 pu7 fu7 => ?_)
              try dsimp only at pu7
              obtain ⟨pu7_0, pu7_1⟩ := pu7
              have hfl9 : owFl c0 nn a2.toInt a1.toInt (x3.toInt + 1) st (u7) := ⟨_, pu7_1, owFi_nx hfi9 (by omega) (by omega) rfl hv9 (by omega)⟩
              obtain ⟨v9, ev9⟩ : ∃ z : Int32, x3 + Int32.ofInt 1 = z := ⟨_, rfl⟩
              have hv9 : v9.toInt = x3.toInt + 1 := n_inc ev9 (by decide) (by omega) (by omega)
              refine r_iinc C (j := 2) (lv' := [(0, .ref (oad E c0)), (2, .int a2), (3, .int v9), (4, .int k0)]) v9 [1, 2, 0, 3] (oDec_at oX4_fillMade 27 rfl) rfl ev9 (by decide) rfl ?_
              refine r_goto C (tgt := 2) (oDec_at oX4_fillMade 28 rfl) (by decide) ?_
              refine r_pick C [0, 1, 2] rfl ?_
              exact (ih (n - 1) (by omega)) (u7) v9  pu7_0 (owMA_fr fu7 rfl iv1) (by omega) (by first | exact owFl_c hfl9 (by omega) | exact ⟨st, (by assumption), owFi_0 (by omega)⟩) (by omega)
            · skip
              refine r_iconst C (oDec_at oX4_fillMade 21 rfl) (v := k0) (by rw [qk0]; rfl) ?_
              exact r_zret C (n_bool (by omega)) (oDec_at oX4_fillMade 22 rfl) ⟨_, rfl, ⟨by omega, iv0, fun h9 => by exfalso; omega, fun _ => by omega⟩⟩
          · skip
            refine r_aload_n C (j := 0) (oDec_at oX4_fillMade 8 rfl) rfl rfl ?_
            refine r_iload_n C (j := 2) (oDec_at oX4_fillMade 9 rfl) rfl rfl ?_
            refine r_iconst C (oDec_at oX4_fillMade 10 rfl) (v := k1) (by rw [qk1]; rfl) ?_
            obtain ⟨v10, ev10⟩ : ∃ z : Int32, z = x3 - k1 := ⟨_, rfl⟩
            have hv10 : v10.toInt = x3.toInt - k1.toInt := n_sub ev10 (by omega) (by omega)
            refine r_isub C v10 (oDec_at oX4_fillMade 11 rfl) ev10 ?_
            refine r_callVi C oCl4 hk0 miX4_stepOf mlX4_41 (ct9_X4_stepOf l E (t) c0 hk0 v10 iv0) (by decide) rfl rfl rfl (Nat.le_of_ble_eq_true rfl) (oDec_at oX4_fillMade 12 rfl) (fun r12 u11 pu11 fu11 => ?_)
            try dsimp only at pu11
            obtain ⟨pu11_0, pu11_1⟩ := pu11
            have hxu11 := oFr_nil fu11; subst hxu11
            have rr12 := n_rng r12
            have hsp9 : r12.toInt = st9 (x3.toNatClampNeg - 1) := by have h9 := pu11_0; rw [owSt_m iv1 hq4, if_pos (by omega)] at h9; rw [h9]; congr 1; omega
            refine r_if_ne C 28 (oDec_at oX4_fillMade 13 rfl) (by decide) (fun cd13 => ?_) (fun cd13 => ?_)
            · skip
              refine r_iconst C (oDec_at oX4_fillMade 16 rfl) (v := k0) (by rw [qk0]; rfl) ?_
              have hv9 : k0.toInt = if 0 < x3.toNatClampNeg ∧ st9 (x3.toNatClampNeg - 1) = 0 then 1 else 0 := by first | (rw [if_pos ⟨by omega, by omega⟩]; omega) | (rw [if_neg (by omega)] <;> omega)
              refine r_istore C (lv' := [(0, .ref (oad E c0)), (2, .int a2), (3, .int x3), (4, .int k0)]) [1, 2, 3, 0] (oDec_at oX4_fillMade 17 rfl) (by decide) rfl ?_
              refine r_iload C (j := 3) (oDec_at oX4_fillMade 18 rfl) rfl ?_
              refine r_iload_n C (j := 1) (oDec_at oX4_fillMade 19 rfl) rfl rfl ?_
              refine r_icmp_le C 39 (oDec_at oX4_fillMade 20 rfl) (by decide) (fun cd14 => ?_) (fun cd14 => ?_)
              · skip
                refine r_aload_n C (j := 0) (oDec_at oX4_fillMade 23 rfl) rfl rfl ?_
                refine r_iload_n C (j := 2) (oDec_at oX4_fillMade 24 rfl) rfl rfl ?_
                refine r_iload C (j := 3) (oDec_at oX4_fillMade 25 rfl) rfl ?_
                refine r_callVv C oCl4 hk0 miX4_setStep mlX4_59 (ct10_X4_setStep l E (t) c0 hk0 x3 k0 (nn) (st9) iv0 (by omega) iv1 hq4 (by omega) (by omega) (by omega) (by omega)) (by decide) rfl rfl rfl (Nat.le_of_ble_eq_true rfl) (oDec_at oX4_fillMade 26 rfl) (fun u15 pu15 fu15 => ?_)
                try dsimp only at pu15
                obtain ⟨pu15_0, pu15_1⟩ := pu15
                have hfl9 : owFl c0 nn a2.toInt a1.toInt (x3.toInt + 1) st (u15) := ⟨_, pu15_1, owFi_nx hfi9 (by omega) (by omega) rfl hv9 (by omega)⟩
                obtain ⟨v17, ev17⟩ : ∃ z : Int32, x3 + Int32.ofInt 1 = z := ⟨_, rfl⟩
                have hv17 : v17.toInt = x3.toInt + 1 := n_inc ev17 (by decide) (by omega) (by omega)
                refine r_iinc C (j := 2) (lv' := [(0, .ref (oad E c0)), (2, .int a2), (3, .int v17), (4, .int k0)]) v17 [1, 2, 0, 3] (oDec_at oX4_fillMade 27 rfl) rfl ev17 (by decide) rfl ?_
                refine r_goto C (tgt := 2) (oDec_at oX4_fillMade 28 rfl) (by decide) ?_
                refine r_pick C [0, 1, 2] rfl ?_
                exact (ih (n - 1) (by omega)) (u15) v17  pu15_0 (owMA_fr fu15 rfl iv1) (by omega) (by first | exact owFl_c hfl9 (by omega) | exact ⟨st, (by assumption), owFi_0 (by omega)⟩) (by omega)
              · skip
                refine r_iconst C (oDec_at oX4_fillMade 21 rfl) (v := k0) (by rw [qk0]; rfl) ?_
                exact r_zret C (n_bool (by omega)) (oDec_at oX4_fillMade 22 rfl) ⟨_, rfl, ⟨by omega, iv0, fun h9 => by exfalso; omega, fun _ => by omega⟩⟩
            · skip
              refine r_iconst C (oDec_at oX4_fillMade 14 rfl) (v := k1) (by rw [qk1]; rfl) ?_
              refine r_goto C (tgt := 29) (oDec_at oX4_fillMade 15 rfl) (by decide) ?_
              have hv9 : k1.toInt = if 0 < x3.toNatClampNeg ∧ st9 (x3.toNatClampNeg - 1) = 0 then 1 else 0 := by first | (rw [if_pos ⟨by omega, by omega⟩]; omega) | (rw [if_neg (by omega)] <;> omega)
              refine r_istore C (lv' := [(0, .ref (oad E c0)), (2, .int a2), (3, .int x3), (4, .int k1)]) [1, 2, 3, 0] (oDec_at oX4_fillMade 17 rfl) (by decide) rfl ?_
              refine r_iload C (j := 3) (oDec_at oX4_fillMade 18 rfl) rfl ?_
              refine r_iload_n C (j := 1) (oDec_at oX4_fillMade 19 rfl) rfl rfl ?_
              refine r_icmp_le C 39 (oDec_at oX4_fillMade 20 rfl) (by decide) (fun cd18 => ?_) (fun cd18 => ?_)
              · skip
                refine r_aload_n C (j := 0) (oDec_at oX4_fillMade 23 rfl) rfl rfl ?_
                refine r_iload_n C (j := 2) (oDec_at oX4_fillMade 24 rfl) rfl rfl ?_
                refine r_iload C (j := 3) (oDec_at oX4_fillMade 25 rfl) rfl ?_
                refine r_callVv C oCl4 hk0 miX4_setStep mlX4_59 (ct10_X4_setStep l E (t) c0 hk0 x3 k1 (nn) (st9) iv0 (by omega) iv1 hq4 (by omega) (by omega) (by omega) (by omega)) (by decide) rfl rfl rfl (Nat.le_of_ble_eq_true rfl) (oDec_at oX4_fillMade 26 rfl) (fun u19 pu19 fu19 => ?_)
                try dsimp only at pu19
                obtain ⟨pu19_0, pu19_1⟩ := pu19
                have hfl9 : owFl c0 nn a2.toInt a1.toInt (x3.toInt + 1) st (u19) := ⟨_, pu19_1, owFi_nx hfi9 (by omega) (by omega) rfl hv9 (by omega)⟩
                obtain ⟨v21, ev21⟩ : ∃ z : Int32, x3 + Int32.ofInt 1 = z := ⟨_, rfl⟩
                have hv21 : v21.toInt = x3.toInt + 1 := n_inc ev21 (by decide) (by omega) (by omega)
                refine r_iinc C (j := 2) (lv' := [(0, .ref (oad E c0)), (2, .int a2), (3, .int v21), (4, .int k1)]) v21 [1, 2, 0, 3] (oDec_at oX4_fillMade 27 rfl) rfl ev21 (by decide) rfl ?_
                refine r_goto C (tgt := 2) (oDec_at oX4_fillMade 28 rfl) (by decide) ?_
                refine r_pick C [0, 1, 2] rfl ?_
                exact (ih (n - 1) (by omega)) (u19) v21  pu19_0 (owMA_fr fu19 rfl iv1) (by omega) (by first | exact owFl_c hfl9 (by omega) | exact ⟨st, (by assumption), owFi_0 (by omega)⟩) (by omega)
              · skip
                refine r_iconst C (oDec_at oX4_fillMade 21 rfl) (v := k0) (by rw [qk0]; rfl) ?_
                exact r_zret C (n_bool (by omega)) (oDec_at oX4_fillMade 22 rfl) ⟨_, rfl, ⟨by omega, iv0, fun h9 => by exfalso; omega, fun _ => by omega⟩⟩
  refine r_iload_n C (j := 1) (oDec_at oX4_fillMade 0 rfl) rfl rfl ?_
  refine r_istore_n C (lv' := [(0, .ref (oad E c0)), (1, .int a1), (2, .int a2), (3, .int a1)]) [1, 2, 3, 0] (oDec_at oX4_fillMade 1 rfl) rfl (by decide) rfl ?_
  refine r_pick C [0, 2, 3] rfl ?_
  exact (key (2147483648 - a1.toInt).toNat) (s) a1  hp0 hp1 (by omega) (by first | exact owFl_c hfl9 (by omega) | exact ⟨st, hp2, owFi_0 (by omega)⟩) (by omega)
set_option maxHeartbeats 4000000 in
set_option maxRecDepth 100000 in
theorem ct10_X4_beginMade (l : Launch) (E : oE) (s : oS) (c0 : Nat) (hk0 : okd c0 = 4) (a1 : Int32) (a2 : Int32)  (hp0 : owLN s) (hp1 : 1 ≤ a1.toInt ∧ a1.toInt ≤ 6) (hp2 : 0 ≤ a2.toInt ∧ a2.toInt ≤ 4) : oMet l 5 yX4_beginMade cX4_beginMade 4 (some .boolean) [(4, 4), (4, 5), (4, 6), (4, 7), (16, 9999), (17, 9999), (18, 9999), (19, 9999)] E s [.ref (oad E c0), .int a1, .int a2] (oPi (fun r u => (0 ≤ r.toInt ∧ r.toInt ≤ 1) ∧ (owLN u) ∧ (r.toInt = 1 → (owMA c0 a1.toInt u ∧ owMS c0 a1.toInt (owF0 a1.toInt) u ∧ ¬ (2 ≤ a1.toInt ∧ a2.toInt < 1))) ∧ (r.toInt = 0 → (2 ≤ a1.toInt ∧ a2.toInt < 1)))) := by
  refine oMet.of (lv := [(0, .ref (oad E c0)), (1, .int a1), (2, .int a2)]) (by decide +kernel) (Nat.le_of_ble_eq_true rfl) rfl (fun J C hT => ?_)
  have C : oC l 5 cX4_beginMade RX4 4 (some .boolean) [(4, 4), (4, 5), (4, 6), (4, 7), (16, 9999), (17, 9999), (18, 9999), (19, 9999)] E s (oPi (fun r u => (0 ≤ r.toInt ∧ r.toInt ≤ 1) ∧ (owLN u) ∧ (r.toInt = 1 → (owMA c0 a1.toInt u ∧ owMS c0 a1.toInt (owF0 a1.toInt) u ∧ ¬ (2 ≤ a1.toInt ∧ a2.toInt < 1))) ∧ (r.toInt = 0 → (2 ≤ a1.toInt ∧ a2.toInt < 1)))) J := C
  obtain ⟨k0, qk0⟩ : ∃ z : Int32, z = 0 := ⟨_, rfl⟩
  have ek0 : k0.toInt = 0 := by rw [qk0]; rfl
  obtain ⟨k2, qk2⟩ : ∃ z : Int32, z = 2 := ⟨_, rfl⟩
  have ek2 : k2.toInt = 2 := by rw [qk2]; rfl
  have rg1 := n_rng a1
  have rg2 := n_rng a2
  have key : ∀ n : Nat, (∀ (t : oS) (x3 : Int32), (owLN t) → (0 ≤ x3.toInt ∧ x3.toInt ≤ a1.toInt) → (owMA c0 x3.toInt t) → (owMS c0 x3.toInt owZr t) → 10 - x3.toInt ≤ (n : Int) → J t 6 [(0, .ref (oad E c0)), (1, .int a1), (2, .int a2), (3, .int x3)] []) := by
    intro n
    induction n using Nat.strongRecOn with
    | _ n ih =>
      skip
      · intro t x3  iv0 iv1 iv2 iv3 hmu
        have rx3 := n_rng x3
        refine r_iload_n C (j := 3) (oDec_at oX4_beginMade 4 rfl) rfl rfl ?_
        refine r_iload_n C (j := 1) (oDec_at oX4_beginMade 5 rfl) rfl rfl ?_
        refine r_icmp_ge C 24 (oDec_at oX4_beginMade 6 rfl) (by decide) (fun cd1 => ?_) (fun cd1 => ?_)
        · skip
          refine r_aload_n C (j := 0) (oDec_at oX4_beginMade 14 rfl) rfl rfl ?_
          refine r_iconst C (oDec_at oX4_beginMade 15 rfl) (v := k0) (by rw [qk0]; rfl) ?_
          refine r_iload_n C (j := 2) (oDec_at oX4_beginMade 16 rfl) rfl rfl ?_
          have hx39 : x3.toInt = a1.toInt := by omega
          refine r_callVi C oCl4 hk0 miX4_fillMade mlX4_56 (ct10_X4_fillMade l E (t) c0 hk0 k0 a2 (x3.toInt) (owZr) iv0 iv2 iv3 owDg_z (by omega) (by omega) (by omega)) (by decide) rfl rfl rfl (Nat.le_of_ble_eq_true rfl) (oDec_at oX4_beginMade 17 rfl) (fun r3 u2 pu2 fu2 => ?_)
          try dsimp only at pu2
          obtain ⟨pu2_0, pu2_1, pu2_2, pu2_3⟩ := pu2
          have rr3 := n_rng r3
          have hbg9 := pu2_2
          have hbh9 := pu2_3
          have hma9 := (owMA_fr fu2 rfl iv2)
          exact r_zret C (n_bool (by omega)) (oDec_at oX4_beginMade 18 rfl) ⟨_, rfl, ⟨by omega, pu2_1, fun h9 => by have h8 := owBeg (hbg9 h9) ek0; rw [← hx39]; exact ⟨hma9, h8.1, by omega⟩, fun h9 => by have h8 := hbh9 h9; omega⟩⟩
        · skip
          refine r_aload_n C (j := 0) (oDec_at oX4_beginMade 7 rfl) rfl rfl ?_
          refine r_iconst C (oDec_at oX4_beginMade 8 rfl) (v := k0) (by rw [qk0]; rfl) ?_
          refine r_iconst C (oDec_at oX4_beginMade 9 rfl) (v := k2) (by rw [qk2]; rfl) ?_
          refine r_callVi C oCl4 hk0 miX4_add mlX4_48 (ct10_X4_add l E (t) c0 hk0 k0 k2 (x3.toInt) iv0 iv2 iv3 (by omega) (by omega) (by omega)) (by decide) rfl rfl rfl (Nat.le_of_ble_eq_true rfl) (oDec_at oX4_beginMade 10 rfl) (fun r5 u4 pu4 fu4 => ?_)
          try dsimp only at pu4
          obtain ⟨pu4_0, pu4_1, pu4_2, pu4_3, pu4_4, pu4_5, pu4_6, pu4_7⟩ := pu4
          have rr5 := n_rng r5
          refine r_pop C (oDec_at oX4_beginMade 11 rfl) rfl ?_
          obtain ⟨v6, ev6⟩ : ∃ z : Int32, x3 + Int32.ofInt 1 = z := ⟨_, rfl⟩
          have hv6 : v6.toInt = x3.toInt + 1 := n_inc ev6 (by decide) (by omega) (by omega)
          refine r_iinc C (j := 3) (lv' := [(0, .ref (oad E c0)), (1, .int a1), (2, .int a2), (3, .int v6)]) v6 [1, 2, 3, 0] (oDec_at oX4_beginMade 12 rfl) rfl ev6 (by decide) rfl ?_
          refine r_pc C 21 rfl ?_
          refine r_goto C (tgt := 6) (oDec_at oX4_beginMade 13 rfl) (by decide) ?_
          exact (ih (n - 1) (by omega)) (u4) v6  pu4_3 (by omega) (by first | exact owMA_c pu4_6 (by omega) | exact owMA_0 hk0 (by omega) (by omega) (by omega) (by omega)) (by first | exact owMS_c pu4_7 (by omega) | exact owMS_0 hk0 (by omega) (by omega)) (by omega)
  refine r_aload_n C (j := 0) (oDec_at oX4_beginMade 0 rfl) rfl rfl ?_
  refine r_callVv C oCl4 hk0 miX4_clear mlX4_38 (ct9_X4_clear l E (s) c0 hk0 hp0) (by decide) rfl rfl rfl (Nat.le_of_ble_eq_true rfl) (oDec_at oX4_beginMade 1 rfl) (fun u7 pu7 fu7 => ?_)
  try dsimp only at pu7
  obtain ⟨pu7_0, pu7_1, pu7_2, pu7_3, pu7_4⟩ := pu7
  refine r_iconst C (oDec_at oX4_beginMade 2 rfl) (v := k0) (by rw [qk0]; rfl) ?_
  refine r_istore_n C (lv' := [(0, .ref (oad E c0)), (1, .int a1), (2, .int a2), (3, .int k0)]) [1, 2, 3, 0] (oDec_at oX4_beginMade 3 rfl) rfl (by decide) rfl ?_
  exact (key (10 - k0.toInt).toNat) (u7) k0  pu7_2 (by omega) (by first | exact owMA_c pu7_6 (by omega) | exact owMA_0 hk0 (by omega) (by omega) (by omega) (by omega)) (by first | exact owMS_c pu7_7 (by omega) | exact owMS_0 hk0 (by omega) (by omega)) (by omega)
set_option maxHeartbeats 4000000 in
set_option maxRecDepth 100000 in
theorem ct10_X4_advanceMade (l : Launch) (E : oE) (s : oS) (c0 : Nat) (hk0 : okd c0 = 4) (a1 : Int32) (nn : Int) (st : Nat → Int) (hp0 : owLN s) (hp1 : owMA c0 nn s) (hp2 : owMS c0 nn st s) (hp3 : owDg nn st) (hp4 : 1 ≤ nn ∧ nn ≤ 6) (hp5 : 0 ≤ a1.toInt ∧ a1.toInt ≤ 4) : oMet l 5 yX4_advanceMade cX4_advanceMade 4 (some .boolean) [(4, 6), (16, 9999)] E s [.ref (oad E c0), .int a1] (oPi (fun r u => (0 ≤ r.toInt ∧ r.toInt ≤ 1) ∧ (owLN u) ∧ (r.toInt = 1 → owNq c0 nn a1.toInt st u) ∧ (r.toInt = 0 → owLs nn a1.toInt st))) := by
  refine oMet.of (lv := [(0, .ref (oad E c0)), (1, .int a1)]) (by decide +kernel) (Nat.le_of_ble_eq_true rfl) rfl (fun J C hT => ?_)
  have C : oC l 5 cX4_advanceMade RX4 4 (some .boolean) [(4, 6), (16, 9999)] E s (oPi (fun r u => (0 ≤ r.toInt ∧ r.toInt ≤ 1) ∧ (owLN u) ∧ (r.toInt = 1 → owNq c0 nn a1.toInt st u) ∧ (r.toInt = 0 → owLs nn a1.toInt st))) J := C
  obtain ⟨k0, qk0⟩ : ∃ z : Int32, z = 0 := ⟨_, rfl⟩
  have ek0 : k0.toInt = 0 := by rw [qk0]; rfl
  obtain ⟨k1, qk1⟩ : ∃ z : Int32, z = 1 := ⟨_, rfl⟩
  have ek1 : k1.toInt = 1 := by rw [qk1]; rfl
  have rg1 := n_rng a1
  have hcn0 := hp1.2.1
  have key : ∀ n : Nat, (∀ (t : oS) (x2 : Int32), (owLN t) → (owMA c0 nn t) → (owMS c0 nn st t) → (-1 ≤ x2.toInt ∧ x2.toInt < nn) → (∀ j : Nat, x2.toInt < (j : Int) → (j : Int) < nn → a1.toInt < owBp st j) → x2.toInt + 2 ≤ (n : Int) → J t 7 [(0, .ref (oad E c0)), (1, .int a1), (2, .int x2)] []) := by
    intro n
    induction n using Nat.strongRecOn with
    | _ n ih =>
      skip
      · intro t x2  iv0 iv1 iv2 iv3 iv4 hmu
        have rx2 := n_rng x2
        have hn9 := n_nat x2
        have hd9 := hp3.1 x2.toNatClampNeg
        have hd8 := hp3.1 (x2.toNatClampNeg - 1)
        refine r_iload_n C (j := 2) (oDec_at oX4_advanceMade 5 rfl) rfl rfl ?_
        refine r_if_lt C 63 (oDec_at oX4_advanceMade 6 rfl) (by decide) (fun cd1 => ?_) (fun cd1 => ?_)
        · skip
          refine r_iconst C (oDec_at oX4_advanceMade 39 rfl) (v := k0) (by rw [qk0]; rfl) ?_
          exact r_zret C (n_bool (by omega)) (oDec_at oX4_advanceMade 40 rfl) ⟨_, rfl, ⟨by omega, iv0, fun h9 => by exfalso; omega, fun _ k hk => iv4 k (by omega) hk⟩⟩
        · skip
          refine r_aload_n C (j := 0) (oDec_at oX4_advanceMade 7 rfl) rfl rfl ?_
          refine r_iload_n C (j := 2) (oDec_at oX4_advanceMade 8 rfl) rfl rfl ?_
          refine r_callVi C oCl4 hk0 miX4_stepOf mlX4_41 (ct9_X4_stepOf l E (t) c0 hk0 x2 iv0) (by decide) rfl rfl rfl (Nat.le_of_ble_eq_true rfl) (oDec_at oX4_advanceMade 9 rfl) (fun r3 u2 pu2 fu2 => ?_)
          try dsimp only at pu2
          obtain ⟨pu2_0, pu2_1⟩ := pu2
          have hxu2 := oFr_nil fu2; subst hxu2
          have rr3 := n_rng r3
          have hs9 : r3.toInt = st x2.toNatClampNeg := by have h9 := pu2_0; rw [owSt_m iv1 iv2, if_pos (by omega)] at h9; exact h9
          refine r_iconst C (oDec_at oX4_advanceMade 10 rfl) (v := k1) (by rw [qk1]; rfl) ?_
          obtain ⟨v4, ev4⟩ : ∃ z : Int32, z = r3 + k1 := ⟨_, rfl⟩
          have hv4 : v4.toInt = r3.toInt + k1.toInt := n_add ev4 (by omega) (by omega)
          refine r_iadd C v4 (oDec_at oX4_advanceMade 11 rfl) ev4 ?_
          refine r_istore_n C (lv' := [(0, .ref (oad E c0)), (1, .int a1), (2, .int x2), (3, .int v4)]) [1, 2, 3, 0] (oDec_at oX4_advanceMade 12 rfl) rfl (by decide) rfl ?_
          refine r_pc C 19 rfl ?_
          refine r_iload_n C (j := 2) (oDec_at oX4_advanceMade 13 rfl) rfl rfl ?_
          refine r_if_le C 37 (oDec_at oX4_advanceMade 14 rfl) (by decide) (fun cd5 => ?_) (fun cd5 => ?_)
          · skip
            have hbp9 : v4.toInt = owBp st x2.toNatClampNeg := by unfold owBp; first | (rw [if_pos (by omega)] <;> omega) | (rw [if_neg (by omega)] <;> omega)
            refine r_iload_n C (j := 3) (oDec_at oX4_advanceMade 23 rfl) rfl rfl ?_
            refine r_iload_n C (j := 1) (oDec_at oX4_advanceMade 24 rfl) rfl rfl ?_
            refine r_icmp_gt C 57 (oDec_at oX4_advanceMade 25 rfl) (by decide) (fun cd6 => ?_) (fun cd6 => ?_)
            · skip
              obtain ⟨v7, ev7⟩ : ∃ z : Int32, x2 + Int32.ofInt (-1) = z := ⟨_, rfl⟩
              have hv7 : v7.toInt = x2.toInt + (-1) := n_inc ev7 (by decide) (by omega) (by omega)
              refine r_iinc C (j := 2) (lv' := [(0, .ref (oad E c0)), (1, .int a1), (2, .int v7), (3, .int v4)]) v7 [1, 2, 0, 3] (oDec_at oX4_advanceMade 37 rfl) rfl ev7 (by decide) rfl ?_
              refine r_goto C (tgt := 7) (oDec_at oX4_advanceMade 38 rfl) (by decide) ?_
              refine r_pick C [0, 1, 2] rfl ?_
              exact (ih (n - 1) (by omega)) (t) v7  iv0 iv1 iv2 (by omega) (by first | exact owLs_nx iv4 hbp9 (by omega) (by omega) (by omega) | (intro j h1 h2; exfalso; omega)) (by omega)
            · skip
              refine r_aload_n C (j := 0) (oDec_at oX4_advanceMade 26 rfl) rfl rfl ?_
              refine r_iload_n C (j := 2) (oDec_at oX4_advanceMade 27 rfl) rfl rfl ?_
              refine r_iload_n C (j := 3) (oDec_at oX4_advanceMade 28 rfl) rfl rfl ?_
              refine r_callVv C oCl4 hk0 miX4_setStep mlX4_59 (ct10_X4_setStep l E (t) c0 hk0 x2 v4 (nn) (st) iv0 (by omega) iv1 iv2 (by omega) (by omega) (by omega) (by omega)) (by decide) rfl rfl rfl (Nat.le_of_ble_eq_true rfl) (oDec_at oX4_advanceMade 29 rfl) (fun u8 pu8 fu8 => ?_)
              try dsimp only at pu8
              obtain ⟨pu8_0, pu8_1⟩ := pu8
              have hq10 : owMS c0 nn (owUs st x2.toNatClampNeg v4.toInt) (u8) := pu8_1
              refine r_aload_n C (j := 0) (oDec_at oX4_advanceMade 30 rfl) rfl rfl ?_
              refine r_iload_n C (j := 2) (oDec_at oX4_advanceMade 31 rfl) rfl rfl ?_
              refine r_pc C 50 rfl ?_
              refine r_iconst C (oDec_at oX4_advanceMade 32 rfl) (v := k1) (by rw [qk1]; rfl) ?_
              obtain ⟨v11, ev11⟩ : ∃ z : Int32, z = x2 + k1 := ⟨_, rfl⟩
              have hv11 : v11.toInt = x2.toInt + k1.toInt := n_add ev11 (by omega) (by omega)
              refine r_iadd C v11 (oDec_at oX4_advanceMade 33 rfl) ev11 ?_
              refine r_iload_n C (j := 1) (oDec_at oX4_advanceMade 34 rfl) rfl rfl ?_
              refine r_callVi C oCl4 hk0 miX4_fillMade mlX4_56 (ct10_X4_fillMade l E (u8) c0 hk0 v11 a1 (nn) (owUs st x2.toNatClampNeg v4.toInt) pu8_0 (owMA_fr fu8 rfl iv1) hq10 (owUs_dg hp3 (by omega) (by omega)) (by omega) (by omega) (by omega)) (by decide) rfl rfl rfl (Nat.le_of_ble_eq_true rfl) (oDec_at oX4_advanceMade 35 rfl) (fun r13 u12 pu12 fu12 => ?_)
              try dsimp only at pu12
              obtain ⟨pu12_0, pu12_1, pu12_2, pu12_3⟩ := pu12
              have rr13 := n_rng r13
              have hq9 := pu12_2
              have hq8 := pu12_3
              exact r_zret C (n_bool (by omega)) (oDec_at oX4_advanceMade 36 rfl) ⟨_, rfl, ⟨by omega, pu12_1, fun h9 => owNq_of (hq9 h9) (by omega) (by omega) hbp9 (by omega) iv4 (by omega), fun h9 => by exfalso; have h8 := hq8 h9; omega⟩⟩
          · skip
            refine r_iload_n C (j := 3) (oDec_at oX4_advanceMade 15 rfl) rfl rfl ?_
            refine r_aload_n C (j := 0) (oDec_at oX4_advanceMade 16 rfl) rfl rfl ?_
            refine r_iload_n C (j := 2) (oDec_at oX4_advanceMade 17 rfl) rfl rfl ?_
            refine r_iconst C (oDec_at oX4_advanceMade 18 rfl) (v := k1) (by rw [qk1]; rfl) ?_
            obtain ⟨v14, ev14⟩ : ∃ z : Int32, z = x2 - k1 := ⟨_, rfl⟩
            have hv14 : v14.toInt = x2.toInt - k1.toInt := n_sub ev14 (by omega) (by omega)
            refine r_isub C v14 (oDec_at oX4_advanceMade 19 rfl) ev14 ?_
            refine r_callVi C oCl4 hk0 miX4_stepOf mlX4_41 (ct9_X4_stepOf l E (t) c0 hk0 v14 iv0) (by decide) rfl rfl rfl (Nat.le_of_ble_eq_true rfl) (oDec_at oX4_advanceMade 20 rfl) (fun r16 u15 pu15 fu15 => ?_)
            try dsimp only at pu15
            obtain ⟨pu15_0, pu15_1⟩ := pu15
            have hxu15 := oFr_nil fu15; subst hxu15
            have rr16 := n_rng r16
            refine r_pc C 31 rfl ?_
            have hs8 : r16.toInt = st (x2.toNatClampNeg - 1) := by have h9 := pu15_0; rw [owSt_m iv1 iv2, if_pos (by omega)] at h9; rw [h9]; congr 1; omega
            refine r_icmp_ne C 37 (oDec_at oX4_advanceMade 21 rfl) (by decide) (fun cd17 => ?_) (fun cd17 => ?_)
            · skip
              have hbp9 : v4.toInt = owBp st x2.toNatClampNeg := by unfold owBp; first | (rw [if_pos (by omega)] <;> omega) | (rw [if_neg (by omega)] <;> omega)
              refine r_iload_n C (j := 3) (oDec_at oX4_advanceMade 23 rfl) rfl rfl ?_
              refine r_iload_n C (j := 1) (oDec_at oX4_advanceMade 24 rfl) rfl rfl ?_
              refine r_icmp_gt C 57 (oDec_at oX4_advanceMade 25 rfl) (by decide) (fun cd18 => ?_) (fun cd18 => ?_)
              · skip
                obtain ⟨v19, ev19⟩ : ∃ z : Int32, x2 + Int32.ofInt (-1) = z := ⟨_, rfl⟩
                have hv19 : v19.toInt = x2.toInt + (-1) := n_inc ev19 (by decide) (by omega) (by omega)
                refine r_iinc C (j := 2) (lv' := [(0, .ref (oad E c0)), (1, .int a1), (2, .int v19), (3, .int v4)]) v19 [1, 2, 0, 3] (oDec_at oX4_advanceMade 37 rfl) rfl ev19 (by decide) rfl ?_
                refine r_goto C (tgt := 7) (oDec_at oX4_advanceMade 38 rfl) (by decide) ?_
                refine r_pick C [0, 1, 2] rfl ?_
                exact (ih (n - 1) (by omega)) (t) v19  iv0 iv1 iv2 (by omega) (by first | exact owLs_nx iv4 hbp9 (by omega) (by omega) (by omega) | (intro j h1 h2; exfalso; omega)) (by omega)
              · skip
                refine r_aload_n C (j := 0) (oDec_at oX4_advanceMade 26 rfl) rfl rfl ?_
                refine r_iload_n C (j := 2) (oDec_at oX4_advanceMade 27 rfl) rfl rfl ?_
                refine r_iload_n C (j := 3) (oDec_at oX4_advanceMade 28 rfl) rfl rfl ?_
                refine r_callVv C oCl4 hk0 miX4_setStep mlX4_59 (ct10_X4_setStep l E (t) c0 hk0 x2 v4 (nn) (st) iv0 (by omega) iv1 iv2 (by omega) (by omega) (by omega) (by omega)) (by decide) rfl rfl rfl (Nat.le_of_ble_eq_true rfl) (oDec_at oX4_advanceMade 29 rfl) (fun u20 pu20 fu20 => ?_)
                try dsimp only at pu20
                obtain ⟨pu20_0, pu20_1⟩ := pu20
                have hq22 : owMS c0 nn (owUs st x2.toNatClampNeg v4.toInt) (u20) := pu20_1
                refine r_aload_n C (j := 0) (oDec_at oX4_advanceMade 30 rfl) rfl rfl ?_
                refine r_iload_n C (j := 2) (oDec_at oX4_advanceMade 31 rfl) rfl rfl ?_
                refine r_pc C 50 rfl ?_
                refine r_iconst C (oDec_at oX4_advanceMade 32 rfl) (v := k1) (by rw [qk1]; rfl) ?_
                obtain ⟨v23, ev23⟩ : ∃ z : Int32, z = x2 + k1 := ⟨_, rfl⟩
                have hv23 : v23.toInt = x2.toInt + k1.toInt := n_add ev23 (by omega) (by omega)
                refine r_iadd C v23 (oDec_at oX4_advanceMade 33 rfl) ev23 ?_
                refine r_iload_n C (j := 1) (oDec_at oX4_advanceMade 34 rfl) rfl rfl ?_
                refine r_callVi C oCl4 hk0 miX4_fillMade mlX4_56 (ct10_X4_fillMade l E (u20) c0 hk0 v23 a1 (nn) (owUs st x2.toNatClampNeg v4.toInt) pu20_0 (owMA_fr fu20 rfl iv1) hq22 (owUs_dg hp3 (by omega) (by omega)) (by omega) (by omega) (by omega)) (by decide) rfl rfl rfl (Nat.le_of_ble_eq_true rfl) (oDec_at oX4_advanceMade 35 rfl) (fun r25 u24 pu24 fu24 => ?_)
                try dsimp only at pu24
                obtain ⟨pu24_0, pu24_1, pu24_2, pu24_3⟩ := pu24
                have rr25 := n_rng r25
                have hq9 := pu24_2
                have hq8 := pu24_3
                exact r_zret C (n_bool (by omega)) (oDec_at oX4_advanceMade 36 rfl) ⟨_, rfl, ⟨by omega, pu24_1, fun h9 => owNq_of (hq9 h9) (by omega) (by omega) hbp9 (by omega) iv4 (by omega), fun h9 => by exfalso; have h8 := hq8 h9; omega⟩⟩
            · skip
              obtain ⟨v26, ev26⟩ : ∃ z : Int32, v4 + Int32.ofInt 1 = z := ⟨_, rfl⟩
              have hv26 : v26.toInt = v4.toInt + 1 := n_inc ev26 (by decide) (by omega) (by omega)
              refine r_iinc C (j := 3) (lv' := [(0, .ref (oad E c0)), (1, .int a1), (2, .int x2), (3, .int v26)]) v26 [1, 2, 3, 0] (oDec_at oX4_advanceMade 22 rfl) rfl ev26 (by decide) rfl ?_
              have hbp9 : v26.toInt = owBp st x2.toNatClampNeg := by unfold owBp; first | (rw [if_pos (by omega)] <;> omega) | (rw [if_neg (by omega)] <;> omega)
              refine r_iload_n C (j := 3) (oDec_at oX4_advanceMade 23 rfl) rfl rfl ?_
              refine r_iload_n C (j := 1) (oDec_at oX4_advanceMade 24 rfl) rfl rfl ?_
              refine r_icmp_gt C 57 (oDec_at oX4_advanceMade 25 rfl) (by decide) (fun cd27 => ?_) (fun cd27 => ?_)
              · skip
                obtain ⟨v28, ev28⟩ : ∃ z : Int32, x2 + Int32.ofInt (-1) = z := ⟨_, rfl⟩
                have hv28 : v28.toInt = x2.toInt + (-1) := n_inc ev28 (by decide) (by omega) (by omega)
                refine r_iinc C (j := 2) (lv' := [(0, .ref (oad E c0)), (1, .int a1), (2, .int v28), (3, .int v26)]) v28 [1, 2, 0, 3] (oDec_at oX4_advanceMade 37 rfl) rfl ev28 (by decide) rfl ?_
                refine r_goto C (tgt := 7) (oDec_at oX4_advanceMade 38 rfl) (by decide) ?_
                refine r_pick C [0, 1, 2] rfl ?_
                exact (ih (n - 1) (by omega)) (t) v28  iv0 iv1 iv2 (by omega) (by first | exact owLs_nx iv4 hbp9 (by omega) (by omega) (by omega) | (intro j h1 h2; exfalso; omega)) (by omega)
              · skip
                refine r_aload_n C (j := 0) (oDec_at oX4_advanceMade 26 rfl) rfl rfl ?_
                refine r_iload_n C (j := 2) (oDec_at oX4_advanceMade 27 rfl) rfl rfl ?_
                refine r_iload_n C (j := 3) (oDec_at oX4_advanceMade 28 rfl) rfl rfl ?_
                refine r_callVv C oCl4 hk0 miX4_setStep mlX4_59 (ct10_X4_setStep l E (t) c0 hk0 x2 v26 (nn) (st) iv0 (by omega) iv1 iv2 (by omega) (by omega) (by omega) (by omega)) (by decide) rfl rfl rfl (Nat.le_of_ble_eq_true rfl) (oDec_at oX4_advanceMade 29 rfl) (fun u29 pu29 fu29 => ?_)
                try dsimp only at pu29
                obtain ⟨pu29_0, pu29_1⟩ := pu29
                have hq31 : owMS c0 nn (owUs st x2.toNatClampNeg v26.toInt) (u29) := pu29_1
                refine r_aload_n C (j := 0) (oDec_at oX4_advanceMade 30 rfl) rfl rfl ?_
                refine r_iload_n C (j := 2) (oDec_at oX4_advanceMade 31 rfl) rfl rfl ?_
                refine r_pc C 50 rfl ?_
                refine r_iconst C (oDec_at oX4_advanceMade 32 rfl) (v := k1) (by rw [qk1]; rfl) ?_
                obtain ⟨v32, ev32⟩ : ∃ z : Int32, z = x2 + k1 := ⟨_, rfl⟩
                have hv32 : v32.toInt = x2.toInt + k1.toInt := n_add ev32 (by omega) (by omega)
                refine r_iadd C v32 (oDec_at oX4_advanceMade 33 rfl) ev32 ?_
                refine r_iload_n C (j := 1) (oDec_at oX4_advanceMade 34 rfl) rfl rfl ?_
                refine r_callVi C oCl4 hk0 miX4_fillMade mlX4_56 (ct10_X4_fillMade l E (u29) c0 hk0 v32 a1 (nn) (owUs st x2.toNatClampNeg v26.toInt) pu29_0 (owMA_fr fu29 rfl iv1) hq31 (owUs_dg hp3 (by omega) (by omega)) (by omega) (by omega) (by omega)) (by decide) rfl rfl rfl (Nat.le_of_ble_eq_true rfl) (oDec_at oX4_advanceMade 35 rfl) (fun r34 u33 pu33 fu33 => ?_)
                try dsimp only at pu33
                obtain ⟨pu33_0, pu33_1, pu33_2, pu33_3⟩ := pu33
                have rr34 := n_rng r34
                have hq9 := pu33_2
                have hq8 := pu33_3
                exact r_zret C (n_bool (by omega)) (oDec_at oX4_advanceMade 36 rfl) ⟨_, rfl, ⟨by omega, pu33_1, fun h9 => owNq_of (hq9 h9) (by omega) (by omega) hbp9 (by omega) iv4 (by omega), fun h9 => by exfalso; have h8 := hq8 h9; omega⟩⟩
  refine r_aload_n C (j := 0) (oDec_at oX4_advanceMade 0 rfl) rfl rfl ?_
  obtain ⟨v35, ev35⟩ : ∃ z : Int32, (s).1 c0 4 = z := ⟨_, rfl⟩
  have gv35 : (s.1 c0 4).toInt = v35.toInt := congrArg Int32.toInt (ev35)
  refine r_geti (k := 4) (lo := 0) (hi := 24) C v35 oCl4 hk0 (by decide) flX4_28 rfl rfl (ev35) rfl rfl (oDec_at oX4_advanceMade 1 rfl) (fun b36 b36h => ?_)
  refine r_iconst C (oDec_at oX4_advanceMade 2 rfl) (v := k1) (by rw [qk1]; rfl) ?_
  obtain ⟨v37, ev37⟩ : ∃ z : Int32, z = v35 - k1 := ⟨_, rfl⟩
  have hv37 : v37.toInt = v35.toInt - k1.toInt := n_sub ev37 (by omega) (by omega)
  refine r_isub C v37 (oDec_at oX4_advanceMade 3 rfl) ev37 ?_
  refine r_istore_n C (lv' := [(0, .ref (oad E c0)), (1, .int a1), (2, .int v37)]) [1, 2, 0] (oDec_at oX4_advanceMade 4 rfl) rfl (by decide) rfl ?_
  exact (key (v37.toInt + 2).toNat) (s) v37  hp0 hp1 hp2 (by omega) (by first | (intro j h1 h2; exfalso; omega)) (by omega)
