set_option maxHeartbeats 4000000 in
set_option maxRecDepth 100000 in
theorem ct9_X4_clear (l : Launch) (E : oE) (s : oS) (c0 : Nat) (hk0 : okd c0 = 4)  (hp0 : owLN s) : oMet l 1 yX4_clear cX4_clear 1 none [(4, 4), (4, 5), (4, 6), (4, 7)] E s [.ref (oad E c0)] (oPv (fun u => ((u.1 c0 4).toInt = 0) ∧ ((u.1 c0 5).toInt = 0) ∧ (owLN u) ∧ ((u.1 c0 6).toInt = -1) ∧ ((u.1 c0 7).toInt = 0))) := by
  refine oMet.of (lv := [(0, .ref (oad E c0))]) (by decide +kernel) (Nat.le_of_ble_eq_true rfl) rfl (fun J C hT => ?_)
  have C : oC l 1 cX4_clear RX4 1 none [(4, 4), (4, 5), (4, 6), (4, 7)] E s (oPv (fun u => ((u.1 c0 4).toInt = 0) ∧ ((u.1 c0 5).toInt = 0) ∧ (owLN u) ∧ ((u.1 c0 6).toInt = -1) ∧ ((u.1 c0 7).toInt = 0))) J := C
  obtain ⟨km1, qkm1⟩ : ∃ z : Int32, z = (-1) := ⟨_, rfl⟩
  have ekm1 : km1.toInt = (-1) := by rw [qkm1]; rfl
  obtain ⟨k0, qk0⟩ : ∃ z : Int32, z = 0 := ⟨_, rfl⟩
  have ek0 : k0.toInt = 0 := by rw [qk0]; rfl
  refine r_aload_n C (j := 0) (oDec_at oX4_clear 0 rfl) rfl rfl ?_
  refine r_iconst C (oDec_at oX4_clear 1 rfl) (v := k0) (by rw [qk0]; rfl) ?_
  refine r_puti (k := 4) (lo := 0) (hi := 24) C oCl4 hk0 (by decide) flX4_28 rfl rfl rfl rfl rfl rfl rfl rfl ⟨by omega, by omega⟩ (oDec_at oX4_clear 2 rfl) ?_
  refine r_aload_n C (j := 0) (oDec_at oX4_clear 3 rfl) rfl rfl ?_
  refine r_iconst C (oDec_at oX4_clear 4 rfl) (v := k0) (by rw [qk0]; rfl) ?_
  refine r_puti (k := 5) (lo := 0) (hi := 96) C oCl4 hk0 (by decide) flX4_31 rfl rfl rfl rfl rfl rfl rfl rfl ⟨by omega, by omega⟩ (oDec_at oX4_clear 5 rfl) ?_
  refine r_pc C 10 rfl ?_
  refine r_aload_n C (j := 0) (oDec_at oX4_clear 6 rfl) rfl rfl ?_
  refine r_iconst C (oDec_at oX4_clear 7 rfl) (v := km1) (by rw [qkm1]; rfl) ?_
  refine r_puti (k := 6) (lo := (-2147483648)) (hi := 2147483647) C oCl4 hk0 (by decide) flX4_24 rfl rfl rfl rfl rfl rfl rfl rfl (n_rng _) (oDec_at oX4_clear 8 rfl) ?_
  have hq1 : owLN ((pI (pI (pI s c0 4 k0) c0 5 k0) c0 6 km1)) := owLN_op (owLN_fr (oFr_oneI (q := 4) (m := 5) hk0 (by rfl)) rfl (owLN_fr (oFr_oneI (q := 4) (m := 4) hk0 (by rfl)) rfl hp0)) hk0 (by omega)
  refine r_aload_n C (j := 0) (oDec_at oX4_clear 9 rfl) rfl rfl ?_
  refine r_iconst C (oDec_at oX4_clear 10 rfl) (v := k0) (by rw [qk0]; rfl) ?_
  refine r_puti (k := 7) (lo := 0) (hi := 1) C oCl4 hk0 (by decide) flX4_34 rfl rfl rfl rfl rfl (n_bool (by omega)) (n_fitz (by omega)) rfl ⟨by omega, by omega⟩ (oDec_at oX4_clear 11 rfl) ?_
  refine r_pc C 20 rfl ?_
  have lk2 : (((pI (pI (pI (pI s c0 4 k0) c0 5 k0) c0 6 km1) c0 7 k0)).1 c0 4).toInt = k0.toInt := congrArg Int32.toInt (((pI_ne (a := c0) (b := 4) (c := c0) (k := 7) _ _ (Or.inr (by decide)))).trans (((pI_ne (a := c0) (b := 4) (c := c0) (k := 6) _ _ (Or.inr (by decide)))).trans (((pI_ne (a := c0) (b := 4) (c := c0) (k := 5) _ _ (Or.inr (by decide)))).trans ((pI_self _ _ _ _)))))
  have lk3 : (((pI (pI (pI (pI s c0 4 k0) c0 5 k0) c0 6 km1) c0 7 k0)).1 c0 5).toInt = k0.toInt := congrArg Int32.toInt (((pI_ne (a := c0) (b := 5) (c := c0) (k := 7) _ _ (Or.inr (by decide)))).trans (((pI_ne (a := c0) (b := 5) (c := c0) (k := 6) _ _ (Or.inr (by decide)))).trans ((pI_self _ _ _ _))))
  have lk4 : (((pI (pI (pI (pI s c0 4 k0) c0 5 k0) c0 6 km1) c0 7 k0)).1 c0 6).toInt = km1.toInt := congrArg Int32.toInt (((pI_ne (a := c0) (b := 6) (c := c0) (k := 7) _ _ (Or.inr (by decide)))).trans ((pI_self _ _ _ _)))
  have lk5 : (((pI (pI (pI (pI s c0 4 k0) c0 5 k0) c0 6 km1) c0 7 k0)).1 c0 7).toInt = k0.toInt := congrArg Int32.toInt ((pI_self _ _ _ _))
  exact r_vret C (oDec_at oX4_clear 12 rfl) ⟨rfl, ⟨by omega, by omega, (owLN_fr (oFr_oneI (q := 4) (m := 7) hk0 (by rfl)) rfl hq1), by omega, by omega⟩⟩
set_option maxHeartbeats 4000000 in
set_option maxRecDepth 100000 in
theorem ct9_X4_add (l : Launch) (E : oE) (s : oS) (c0 : Nat) (hk0 : okd c0 = 4) (a1 : Int32) (a2 : Int32)  (hp0 : owLN s) : oMet l 1 yX4_add cX4_add 4 (some .boolean) [(4, 4), (4, 5), (4, 6), (4, 7), (16, 9999), (17, 9999), (18, 9999), (19, 9999)] E s [.ref (oad E c0), .int a1, .int a2] (oPi (fun r u => (0 ≤ r.toInt ∧ r.toInt ≤ 1) ∧ (r.toInt = 1 → ((u.1 c0 4).toInt = (s.1 c0 4).toInt + 1 ∧ (u.1 c0 5).toInt = (s.1 c0 5).toInt + a2.toInt)) ∧ (r.toInt = 0 → ¬ (-1 ≤ a1.toInt ∧ a1.toInt ≤ 28 ∧ 1 ≤ a2.toInt ∧ a2.toInt ≤ 16 ∧ (s.1 c0 4).toInt ≤ 23 ∧ (s.1 c0 5).toInt + a2.toInt ≤ 96)) ∧ (owLN u) ∧ (r.toInt = 1 → (-1 ≤ a1.toInt ∧ a1.toInt ≤ 28 ∧ 1 ≤ a2.toInt ∧ a2.toInt ≤ 16 ∧ (s.1 c0 4).toInt ≤ 23 ∧ (s.1 c0 5).toInt + a2.toInt ≤ 96)))) := by
  refine oMet.of (lv := [(0, .ref (oad E c0)), (1, .int a1), (2, .int a2)]) (by decide +kernel) (Nat.le_of_ble_eq_true rfl) rfl (fun J C hT => ?_)
  have C : oC l 1 cX4_add RX4 4 (some .boolean) [(4, 4), (4, 5), (4, 6), (4, 7), (16, 9999), (17, 9999), (18, 9999), (19, 9999)] E s (oPi (fun r u => (0 ≤ r.toInt ∧ r.toInt ≤ 1) ∧ (r.toInt = 1 → ((u.1 c0 4).toInt = (s.1 c0 4).toInt + 1 ∧ (u.1 c0 5).toInt = (s.1 c0 5).toInt + a2.toInt)) ∧ (r.toInt = 0 → ¬ (-1 ≤ a1.toInt ∧ a1.toInt ≤ 28 ∧ 1 ≤ a2.toInt ∧ a2.toInt ≤ 16 ∧ (s.1 c0 4).toInt ≤ 23 ∧ (s.1 c0 5).toInt + a2.toInt ≤ 96)) ∧ (owLN u) ∧ (r.toInt = 1 → (-1 ≤ a1.toInt ∧ a1.toInt ≤ 28 ∧ 1 ≤ a2.toInt ∧ a2.toInt ≤ 16 ∧ (s.1 c0 4).toInt ≤ 23 ∧ (s.1 c0 5).toInt + a2.toInt ≤ 96)))) J := C
  obtain ⟨km1, qkm1⟩ : ∃ z : Int32, z = (-1) := ⟨_, rfl⟩
  have ekm1 : km1.toInt = (-1) := by rw [qkm1]; rfl
  obtain ⟨k0, qk0⟩ : ∃ z : Int32, z = 0 := ⟨_, rfl⟩
  have ek0 : k0.toInt = 0 := by rw [qk0]; rfl
  obtain ⟨k1, qk1⟩ : ∃ z : Int32, z = 1 := ⟨_, rfl⟩
  have ek1 : k1.toInt = 1 := by rw [qk1]; rfl
  obtain ⟨k2, qk2⟩ : ∃ z : Int32, z = 2 := ⟨_, rfl⟩
  have ek2 : k2.toInt = 2 := by rw [qk2]; rfl
  obtain ⟨k16, qk16⟩ : ∃ z : Int32, z = 16 := ⟨_, rfl⟩
  have ek16 : k16.toInt = 16 := by rw [qk16]; rfl
  obtain ⟨k24, qk24⟩ : ∃ z : Int32, z = 24 := ⟨_, rfl⟩
  have ek24 : k24.toInt = 24 := by rw [qk24]; rfl
  obtain ⟨k28, qk28⟩ : ∃ z : Int32, z = 28 := ⟨_, rfl⟩
  have ek28 : k28.toInt = 28 := by rw [qk28]; rfl
  obtain ⟨k96, qk96⟩ : ∃ z : Int32, z = 96 := ⟨_, rfl⟩
  have ek96 : k96.toInt = 96 := by rw [qk96]; rfl
  have rg1 := n_rng a1
  have rg2 := n_rng a2
  have key : ∀ n : Nat, (∀ (t : oS) (x3 : Int32), (1 ≤ a2.toInt ∧ a2.toInt ≤ 16) → ((t.1 c0 4).toInt = (s.1 c0 4).toInt) → ((t.1 c0 5).toInt = (s.1 c0 5).toInt) → ((s.1 c0 4).toInt ≤ 23) → ((s.1 c0 5).toInt + a2.toInt ≤ 96) → ((s.1 c0 5).toInt ≤ x3.toInt ∧ x3.toInt ≤ (s.1 c0 5).toInt + a2.toInt) → (0 ≤ (s.1 c0 5).toInt) → (owLN t) → (-1 ≤ a1.toInt ∧ a1.toInt ≤ 28) → (s.1 c0 5).toInt + a2.toInt - x3.toInt + 1 ≤ (n : Int) → J t 84 [(0, .ref (oad E c0)), (1, .int a1), (2, .int a2), (3, .int x3)] []) := by
    intro n
    induction n using Nat.strongRecOn with
    | _ n ih =>
      skip
      · intro t x3  iv0 iv1 iv2 iv3 iv4 iv5 iv6 iv7 iv8 hmu
        have rx3 := n_rng x3
        refine r_iload_n C (j := 3) (oDec_at oX4_add 48 rfl) rfl rfl ?_
        refine r_aload_n C (j := 0) (oDec_at oX4_add 49 rfl) rfl rfl ?_
        obtain ⟨v1, ev1⟩ : ∃ z : Int32, (t).1 c0 5 = z := ⟨_, rfl⟩
        have gv1 : (t.1 c0 5).toInt = v1.toInt := congrArg Int32.toInt (ev1)
        refine r_geti (k := 5) (lo := 0) (hi := 96) C v1 oCl4 hk0 (by decide) flX4_31 rfl rfl (ev1) rfl rfl (oDec_at oX4_add 50 rfl) (fun b2 b2h => ?_)
        refine r_iload_n C (j := 2) (oDec_at oX4_add 51 rfl) rfl rfl ?_
        obtain ⟨v3, ev3⟩ : ∃ z : Int32, z = v1 + a2 := ⟨_, rfl⟩
        have hv3 : v3.toInt = v1.toInt + a2.toInt := n_add ev3 (by omega) (by omega)
        refine r_iadd C v3 (oDec_at oX4_add 52 rfl) ev3 ?_
        refine r_icmp_ge C 110 (oDec_at oX4_add 53 rfl) (by decide) (fun cd4 => ?_) (fun cd4 => ?_)
        · skip
          refine r_aload_n C (j := 0) (oDec_at oX4_add 62 rfl) rfl rfl ?_
          obtain ⟨v5, ev5⟩ : ∃ z : Int32, (t).1 c0 6 = z := ⟨_, rfl⟩
          have gv5 : (t.1 c0 6).toInt = v5.toInt := congrArg Int32.toInt (ev5)
          have rv5 := n_rng v5
          refine r_geti (k := 6) (lo := (-2147483648)) (hi := 2147483647) C v5 oCl4 hk0 (by decide) flX4_24 rfl rfl (ev5) rfl rfl (oDec_at oX4_add 63 rfl) (fun _ _ => ?_)
          refine r_iconst C (oDec_at oX4_add 64 rfl) (v := km1) (by rw [qkm1]; rfl) ?_
          refine r_icmp_ne C 123 (oDec_at oX4_add 65 rfl) (by decide) (fun cd6 => ?_) (fun cd6 => ?_)
          · skip
            have hq7 : owLN (t) := by first | exact iv7 | exact owLN_op (by assumption) hk0 (by omega)
            refine r_aload_n C (j := 0) (oDec_at oX4_add 69 rfl) rfl rfl ?_
            refine r_aload_n C (j := 0) (oDec_at oX4_add 70 rfl) rfl rfl ?_
            obtain ⟨v8, ev8⟩ : ∃ z : Int32, (t).1 c0 7 = z := ⟨_, rfl⟩
            have gv8 : (t.1 c0 7).toInt = v8.toInt := congrArg Int32.toInt (ev8)
            refine r_geti (k := 7) (lo := 0) (hi := 1) C v8 oCl4 hk0 (by decide) flX4_34 rfl rfl (ev8) rfl rfl (oDec_at oX4_add 71 rfl) (fun b9 b9h => ?_)
            refine r_if_ne C 138 (oDec_at oX4_add 72 rfl) (by decide) (fun cd10 => ?_) (fun cd10 => ?_)
            · skip
              refine r_iconst C (oDec_at oX4_add 78 rfl) (v := k1) (by rw [qk1]; rfl) ?_
              refine r_goto C (tgt := 143) (oDec_at oX4_add 79 rfl) (by decide) ?_
              refine r_puti (k := 7) (lo := 0) (hi := 1) C oCl4 hk0 (by decide) flX4_34 rfl rfl rfl rfl rfl (n_bool (by omega)) (n_fitz (by omega)) rfl ⟨by omega, by omega⟩ (oDec_at oX4_add 81 rfl) ?_
              refine r_aload_n C (j := 0) (oDec_at oX4_add 82 rfl) rfl rfl ?_
              refine r_dup C (oDec_at oX4_add 83 rfl) rfl ?_
              refine r_geti (k := 5) (lo := 0) (hi := 96) C v1 oCl4 hk0 (by decide) flX4_31 rfl rfl (((pI_ne (a := c0) (b := 5) (c := c0) (k := 7) _ _ (Or.inr (by decide)))).trans (ev1)) rfl rfl (oDec_at oX4_add 84 rfl) (fun _ _ => ?_)
              refine r_iload_n C (j := 2) (oDec_at oX4_add 85 rfl) rfl rfl ?_
              refine r_pc C 152 rfl ?_
              obtain ⟨v11, ev11⟩ : ∃ z : Int32, z = v1 + a2 := ⟨_, rfl⟩
              have hv11 : v11.toInt = v1.toInt + a2.toInt := n_add ev11 (by omega) (by omega)
              refine r_iadd C v11 (oDec_at oX4_add 86 rfl) ev11 ?_
              refine r_puti (k := 5) (lo := 0) (hi := 96) C oCl4 hk0 (by decide) flX4_31 rfl rfl rfl rfl rfl rfl rfl rfl ⟨by omega, by omega⟩ (oDec_at oX4_add 87 rfl) ?_
              refine r_aload_n C (j := 0) (oDec_at oX4_add 88 rfl) rfl rfl ?_
              refine r_dup C (oDec_at oX4_add 89 rfl) rfl ?_
              obtain ⟨v12, ev12⟩ : ∃ z : Int32, ((pI (pI t c0 7 k1) c0 5 v11)).1 c0 4 = z := ⟨_, rfl⟩
              have gv12 : (t.1 c0 4).toInt = v12.toInt := congrArg Int32.toInt ((((pI_ne (a := c0) (b := 4) (c := c0) (k := 5) _ _ (Or.inr (by decide)))).trans ((pI_ne (a := c0) (b := 4) (c := c0) (k := 7) _ _ (Or.inr (by decide))))).symm.trans ev12)
              have ggv12 : (((pI (pI t c0 7 k1) c0 5 v11)).1 c0 4).toInt = v12.toInt := congrArg Int32.toInt ev12
              refine r_geti (k := 4) (lo := 0) (hi := 24) C v12 oCl4 hk0 (by decide) flX4_28 rfl rfl (ev12) rfl rfl (oDec_at oX4_add 90 rfl) (fun b13 b13h => ?_)
              refine r_iconst C (oDec_at oX4_add 91 rfl) (v := k1) (by rw [qk1]; rfl) ?_
              refine r_pc C 162 rfl ?_
              obtain ⟨v14, ev14⟩ : ∃ z : Int32, z = v12 + k1 := ⟨_, rfl⟩
              have hv14 : v14.toInt = v12.toInt + k1.toInt := n_add ev14 (by omega) (by omega)
              refine r_iadd C v14 (oDec_at oX4_add 92 rfl) ev14 ?_
              refine r_puti (k := 4) (lo := 0) (hi := 24) C oCl4 hk0 (by decide) flX4_28 rfl rfl rfl rfl rfl rfl rfl rfl ⟨by omega, by omega⟩ (oDec_at oX4_add 93 rfl) ?_
              refine r_iconst C (oDec_at oX4_add 94 rfl) (v := k1) (by rw [qk1]; rfl) ?_
              have lk15 : (((pI (pI (pI t c0 7 k1) c0 5 v11) c0 4 v14)).1 c0 4).toInt = v14.toInt := congrArg Int32.toInt ((pI_self _ _ _ _))
              have lk16 : (((pI (pI (pI t c0 7 k1) c0 5 v11) c0 4 v14)).1 c0 5).toInt = v11.toInt := congrArg Int32.toInt (((pI_ne (a := c0) (b := 5) (c := c0) (k := 4) _ _ (Or.inr (by decide)))).trans ((pI_self _ _ _ _)))
              exact r_zret C (n_bool (by omega)) (oDec_at oX4_add 95 rfl) ⟨_, rfl, ⟨by omega, by omega, by omega, (owLN_fr (oFr_oneI (q := 4) (m := 4) hk0 (by rfl)) rfl (owLN_fr (oFr_oneI (q := 4) (m := 5) hk0 (by rfl)) rfl (owLN_fr (oFr_oneI (q := 4) (m := 7) hk0 (by rfl)) rfl hq7))), by omega⟩⟩
            · skip
              refine r_iload_n C (j := 2) (oDec_at oX4_add 73 rfl) rfl rfl ?_
              refine r_iconst C (oDec_at oX4_add 74 rfl) (v := k2) (by rw [qk2]; rfl) ?_
              obtain ⟨v17, ev17⟩ : ∃ z : Int32, z = a2 - a2 / k2 * k2 := ⟨_, rfl⟩
              have hv17 := n_rem (k := 2) ev17 ek2 (by decide)
              have rv17 := n_rng v17
              refine r_irem C v17 (oDec_at oX4_add 75 rfl) (n_ne0 (by omega)) ev17 ?_
              refine r_iconst C (oDec_at oX4_add 76 rfl) (v := k1) (by rw [qk1]; rfl) ?_
              refine r_icmp_ne C 142 (oDec_at oX4_add 77 rfl) (by decide) (fun cd18 => ?_) (fun cd18 => ?_)
              · skip
                refine r_iconst C (oDec_at oX4_add 80 rfl) (v := k0) (by rw [qk0]; rfl) ?_
                refine r_puti (k := 7) (lo := 0) (hi := 1) C oCl4 hk0 (by decide) flX4_34 rfl rfl rfl rfl rfl (n_bool (by omega)) (n_fitz (by omega)) rfl ⟨by omega, by omega⟩ (oDec_at oX4_add 81 rfl) ?_
                refine r_aload_n C (j := 0) (oDec_at oX4_add 82 rfl) rfl rfl ?_
                refine r_dup C (oDec_at oX4_add 83 rfl) rfl ?_
                refine r_geti (k := 5) (lo := 0) (hi := 96) C v1 oCl4 hk0 (by decide) flX4_31 rfl rfl (((pI_ne (a := c0) (b := 5) (c := c0) (k := 7) _ _ (Or.inr (by decide)))).trans (ev1)) rfl rfl (oDec_at oX4_add 84 rfl) (fun _ _ => ?_)
                refine r_iload_n C (j := 2) (oDec_at oX4_add 85 rfl) rfl rfl ?_
                refine r_pc C 152 rfl ?_
                obtain ⟨v19, ev19⟩ : ∃ z : Int32, z = v1 + a2 := ⟨_, rfl⟩
                have hv19 : v19.toInt = v1.toInt + a2.toInt := n_add ev19 (by omega) (by omega)
                refine r_iadd C v19 (oDec_at oX4_add 86 rfl) ev19 ?_
                refine r_puti (k := 5) (lo := 0) (hi := 96) C oCl4 hk0 (by decide) flX4_31 rfl rfl rfl rfl rfl rfl rfl rfl ⟨by omega, by omega⟩ (oDec_at oX4_add 87 rfl) ?_
                refine r_aload_n C (j := 0) (oDec_at oX4_add 88 rfl) rfl rfl ?_
                refine r_dup C (oDec_at oX4_add 89 rfl) rfl ?_
                obtain ⟨v20, ev20⟩ : ∃ z : Int32, ((pI (pI t c0 7 k0) c0 5 v19)).1 c0 4 = z := ⟨_, rfl⟩
                have gv20 : (t.1 c0 4).toInt = v20.toInt := congrArg Int32.toInt ((((pI_ne (a := c0) (b := 4) (c := c0) (k := 5) _ _ (Or.inr (by decide)))).trans ((pI_ne (a := c0) (b := 4) (c := c0) (k := 7) _ _ (Or.inr (by decide))))).symm.trans ev20)
                have ggv20 : (((pI (pI t c0 7 k0) c0 5 v19)).1 c0 4).toInt = v20.toInt := congrArg Int32.toInt ev20
                refine r_geti (k := 4) (lo := 0) (hi := 24) C v20 oCl4 hk0 (by decide) flX4_28 rfl rfl (ev20) rfl rfl (oDec_at oX4_add 90 rfl) (fun b21 b21h => ?_)
                refine r_iconst C (oDec_at oX4_add 91 rfl) (v := k1) (by rw [qk1]; rfl) ?_
                refine r_pc C 162 rfl ?_
                obtain ⟨v22, ev22⟩ : ∃ z : Int32, z = v20 + k1 := ⟨_, rfl⟩
                have hv22 : v22.toInt = v20.toInt + k1.toInt := n_add ev22 (by omega) (by omega)
                refine r_iadd C v22 (oDec_at oX4_add 92 rfl) ev22 ?_
                refine r_puti (k := 4) (lo := 0) (hi := 24) C oCl4 hk0 (by decide) flX4_28 rfl rfl rfl rfl rfl rfl rfl rfl ⟨by omega, by omega⟩ (oDec_at oX4_add 93 rfl) ?_
                refine r_iconst C (oDec_at oX4_add 94 rfl) (v := k1) (by rw [qk1]; rfl) ?_
                have lk23 : (((pI (pI (pI t c0 7 k0) c0 5 v19) c0 4 v22)).1 c0 4).toInt = v22.toInt := congrArg Int32.toInt ((pI_self _ _ _ _))
                have lk24 : (((pI (pI (pI t c0 7 k0) c0 5 v19) c0 4 v22)).1 c0 5).toInt = v19.toInt := congrArg Int32.toInt (((pI_ne (a := c0) (b := 5) (c := c0) (k := 4) _ _ (Or.inr (by decide)))).trans ((pI_self _ _ _ _)))
                exact r_zret C (n_bool (by omega)) (oDec_at oX4_add 95 rfl) ⟨_, rfl, ⟨by omega, by omega, by omega, (owLN_fr (oFr_oneI (q := 4) (m := 4) hk0 (by rfl)) rfl (owLN_fr (oFr_oneI (q := 4) (m := 5) hk0 (by rfl)) rfl (owLN_fr (oFr_oneI (q := 4) (m := 7) hk0 (by rfl)) rfl hq7))), by omega⟩⟩
              · skip
                refine r_iconst C (oDec_at oX4_add 78 rfl) (v := k1) (by rw [qk1]; rfl) ?_
                refine r_goto C (tgt := 143) (oDec_at oX4_add 79 rfl) (by decide) ?_
                refine r_puti (k := 7) (lo := 0) (hi := 1) C oCl4 hk0 (by decide) flX4_34 rfl rfl rfl rfl rfl (n_bool (by omega)) (n_fitz (by omega)) rfl ⟨by omega, by omega⟩ (oDec_at oX4_add 81 rfl) ?_
                refine r_aload_n C (j := 0) (oDec_at oX4_add 82 rfl) rfl rfl ?_
                refine r_dup C (oDec_at oX4_add 83 rfl) rfl ?_
                refine r_geti (k := 5) (lo := 0) (hi := 96) C v1 oCl4 hk0 (by decide) flX4_31 rfl rfl (((pI_ne (a := c0) (b := 5) (c := c0) (k := 7) _ _ (Or.inr (by decide)))).trans (ev1)) rfl rfl (oDec_at oX4_add 84 rfl) (fun _ _ => ?_)
                refine r_iload_n C (j := 2) (oDec_at oX4_add 85 rfl) rfl rfl ?_
                refine r_pc C 152 rfl ?_
                obtain ⟨v25, ev25⟩ : ∃ z : Int32, z = v1 + a2 := ⟨_, rfl⟩
                have hv25 : v25.toInt = v1.toInt + a2.toInt := n_add ev25 (by omega) (by omega)
                refine r_iadd C v25 (oDec_at oX4_add 86 rfl) ev25 ?_
                refine r_puti (k := 5) (lo := 0) (hi := 96) C oCl4 hk0 (by decide) flX4_31 rfl rfl rfl rfl rfl rfl rfl rfl ⟨by omega, by omega⟩ (oDec_at oX4_add 87 rfl) ?_
                refine r_aload_n C (j := 0) (oDec_at oX4_add 88 rfl) rfl rfl ?_
                refine r_dup C (oDec_at oX4_add 89 rfl) rfl ?_
                obtain ⟨v26, ev26⟩ : ∃ z : Int32, ((pI (pI t c0 7 k1) c0 5 v25)).1 c0 4 = z := ⟨_, rfl⟩
                have gv26 : (t.1 c0 4).toInt = v26.toInt := congrArg Int32.toInt ((((pI_ne (a := c0) (b := 4) (c := c0) (k := 5) _ _ (Or.inr (by decide)))).trans ((pI_ne (a := c0) (b := 4) (c := c0) (k := 7) _ _ (Or.inr (by decide))))).symm.trans ev26)
                have ggv26 : (((pI (pI t c0 7 k1) c0 5 v25)).1 c0 4).toInt = v26.toInt := congrArg Int32.toInt ev26
                refine r_geti (k := 4) (lo := 0) (hi := 24) C v26 oCl4 hk0 (by decide) flX4_28 rfl rfl (ev26) rfl rfl (oDec_at oX4_add 90 rfl) (fun b27 b27h => ?_)
                refine r_iconst C (oDec_at oX4_add 91 rfl) (v := k1) (by rw [qk1]; rfl) ?_
                refine r_pc C 162 rfl ?_
                obtain ⟨v28, ev28⟩ : ∃ z : Int32, z = v26 + k1 := ⟨_, rfl⟩
                have hv28 : v28.toInt = v26.toInt + k1.toInt := n_add ev28 (by omega) (by omega)
                refine r_iadd C v28 (oDec_at oX4_add 92 rfl) ev28 ?_
                refine r_puti (k := 4) (lo := 0) (hi := 24) C oCl4 hk0 (by decide) flX4_28 rfl rfl rfl rfl rfl rfl rfl rfl ⟨by omega, by omega⟩ (oDec_at oX4_add 93 rfl) ?_
                refine r_iconst C (oDec_at oX4_add 94 rfl) (v := k1) (by rw [qk1]; rfl) ?_
                have lk29 : (((pI (pI (pI t c0 7 k1) c0 5 v25) c0 4 v28)).1 c0 4).toInt = v28.toInt := congrArg Int32.toInt ((pI_self _ _ _ _))
                have lk30 : (((pI (pI (pI t c0 7 k1) c0 5 v25) c0 4 v28)).1 c0 5).toInt = v25.toInt := congrArg Int32.toInt (((pI_ne (a := c0) (b := 5) (c := c0) (k := 4) _ _ (Or.inr (by decide)))).trans ((pI_self _ _ _ _)))
                exact r_zret C (n_bool (by omega)) (oDec_at oX4_add 95 rfl) ⟨_, rfl, ⟨by omega, by omega, by omega, (owLN_fr (oFr_oneI (q := 4) (m := 4) hk0 (by rfl)) rfl (owLN_fr (oFr_oneI (q := 4) (m := 5) hk0 (by rfl)) rfl (owLN_fr (oFr_oneI (q := 4) (m := 7) hk0 (by rfl)) rfl hq7))), by omega⟩⟩
          · skip
            refine r_aload_n C (j := 0) (oDec_at oX4_add 66 rfl) rfl rfl ?_
            refine r_iload_n C (j := 1) (oDec_at oX4_add 67 rfl) rfl rfl ?_
            refine r_puti (k := 6) (lo := (-2147483648)) (hi := 2147483647) C oCl4 hk0 (by decide) flX4_24 rfl rfl rfl rfl rfl rfl rfl rfl (n_rng _) (oDec_at oX4_add 68 rfl) ?_
            have hq31 : owLN ((pI t c0 6 a1)) := by first | exact (by assumption) | exact owLN_op iv7 hk0 (by omega)
            refine r_aload_n C (j := 0) (oDec_at oX4_add 69 rfl) rfl rfl ?_
            refine r_aload_n C (j := 0) (oDec_at oX4_add 70 rfl) rfl rfl ?_
            obtain ⟨v32, ev32⟩ : ∃ z : Int32, ((pI t c0 6 a1)).1 c0 7 = z := ⟨_, rfl⟩
            have gv32 : (t.1 c0 7).toInt = v32.toInt := congrArg Int32.toInt (((pI_ne (a := c0) (b := 7) (c := c0) (k := 6) _ _ (Or.inr (by decide)))).symm.trans ev32)
            have ggv32 : (((pI t c0 6 a1)).1 c0 7).toInt = v32.toInt := congrArg Int32.toInt ev32
            refine r_geti (k := 7) (lo := 0) (hi := 1) C v32 oCl4 hk0 (by decide) flX4_34 rfl rfl (ev32) rfl rfl (oDec_at oX4_add 71 rfl) (fun b33 b33h => ?_)
            refine r_pc C 128 rfl ?_
            refine r_if_ne C 138 (oDec_at oX4_add 72 rfl) (by decide) (fun cd34 => ?_) (fun cd34 => ?_)
            · skip
              refine r_iconst C (oDec_at oX4_add 78 rfl) (v := k1) (by rw [qk1]; rfl) ?_
              refine r_goto C (tgt := 143) (oDec_at oX4_add 79 rfl) (by decide) ?_
              refine r_puti (k := 7) (lo := 0) (hi := 1) C oCl4 hk0 (by decide) flX4_34 rfl rfl rfl rfl rfl (n_bool (by omega)) (n_fitz (by omega)) rfl ⟨by omega, by omega⟩ (oDec_at oX4_add 81 rfl) ?_
              refine r_aload_n C (j := 0) (oDec_at oX4_add 82 rfl) rfl rfl ?_
              refine r_dup C (oDec_at oX4_add 83 rfl) rfl ?_
              refine r_geti (k := 5) (lo := 0) (hi := 96) C v1 oCl4 hk0 (by decide) flX4_31 rfl rfl (((pI_ne (a := c0) (b := 5) (c := c0) (k := 7) _ _ (Or.inr (by decide)))).trans (((pI_ne (a := c0) (b := 5) (c := c0) (k := 6) _ _ (Or.inr (by decide)))).trans (ev1))) rfl rfl (oDec_at oX4_add 84 rfl) (fun _ _ => ?_)
              refine r_iload_n C (j := 2) (oDec_at oX4_add 85 rfl) rfl rfl ?_
              refine r_pc C 152 rfl ?_
              obtain ⟨v35, ev35⟩ : ∃ z : Int32, z = v1 + a2 := ⟨_, rfl⟩
              have hv35 : v35.toInt = v1.toInt + a2.toInt := n_add ev35 (by omega) (by omega)
              refine r_iadd C v35 (oDec_at oX4_add 86 rfl) ev35 ?_
              refine r_puti (k := 5) (lo := 0) (hi := 96) C oCl4 hk0 (by decide) flX4_31 rfl rfl rfl rfl rfl rfl rfl rfl ⟨by omega, by omega⟩ (oDec_at oX4_add 87 rfl) ?_
              refine r_aload_n C (j := 0) (oDec_at oX4_add 88 rfl) rfl rfl ?_
              refine r_dup C (oDec_at oX4_add 89 rfl) rfl ?_
              obtain ⟨v36, ev36⟩ : ∃ z : Int32, ((pI (pI (pI t c0 6 a1) c0 7 k1) c0 5 v35)).1 c0 4 = z := ⟨_, rfl⟩
              have gv36 : (t.1 c0 4).toInt = v36.toInt := congrArg Int32.toInt ((((pI_ne (a := c0) (b := 4) (c := c0) (k := 5) _ _ (Or.inr (by decide)))).trans (((pI_ne (a := c0) (b := 4) (c := c0) (k := 7) _ _ (Or.inr (by decide)))).trans ((pI_ne (a := c0) (b := 4) (c := c0) (k := 6) _ _ (Or.inr (by decide)))))).symm.trans ev36)
              have ggv36 : (((pI (pI (pI t c0 6 a1) c0 7 k1) c0 5 v35)).1 c0 4).toInt = v36.toInt := congrArg Int32.toInt ev36
              refine r_geti (k := 4) (lo := 0) (hi := 24) C v36 oCl4 hk0 (by decide) flX4_28 rfl rfl (ev36) rfl rfl (oDec_at oX4_add 90 rfl) (fun b37 b37h => ?_)
              refine r_iconst C (oDec_at oX4_add 91 rfl) (v := k1) (by rw [qk1]; rfl) ?_
              refine r_pc C 162 rfl ?_
              obtain ⟨v38, ev38⟩ : ∃ z : Int32, z = v36 + k1 := ⟨_, rfl⟩
              have hv38 : v38.toInt = v36.toInt + k1.toInt := n_add ev38 (by omega) (by omega)
              refine r_iadd C v38 (oDec_at oX4_add 92 rfl) ev38 ?_
              refine r_puti (k := 4) (lo := 0) (hi := 24) C oCl4 hk0 (by decide) flX4_28 rfl rfl rfl rfl rfl rfl rfl rfl ⟨by omega, by omega⟩ (oDec_at oX4_add 93 rfl) ?_
              refine r_iconst C (oDec_at oX4_add 94 rfl) (v := k1) (by rw [qk1]; rfl) ?_
              have lk39 : (((pI (pI (pI (pI t c0 6 a1) c0 7 k1) c0 5 v35) c0 4 v38)).1 c0 4).toInt = v38.toInt := congrArg Int32.toInt ((pI_self _ _ _ _))
              have lk40 : (((pI (pI (pI (pI t c0 6 a1) c0 7 k1) c0 5 v35) c0 4 v38)).1 c0 5).toInt = v35.toInt := congrArg Int32.toInt (((pI_ne (a := c0) (b := 5) (c := c0) (k := 4) _ _ (Or.inr (by decide)))).trans ((pI_self _ _ _ _)))
              exact r_zret C (n_bool (by omega)) (oDec_at oX4_add 95 rfl) ⟨_, rfl, ⟨by omega, by omega, by omega, (owLN_fr (oFr_oneI (q := 4) (m := 4) hk0 (by rfl)) rfl (owLN_fr (oFr_oneI (q := 4) (m := 5) hk0 (by rfl)) rfl (owLN_fr (oFr_oneI (q := 4) (m := 7) hk0 (by rfl)) rfl hq31))), by omega⟩⟩
            · skip
              refine r_iload_n C (j := 2) (oDec_at oX4_add 73 rfl) rfl rfl ?_
              refine r_iconst C (oDec_at oX4_add 74 rfl) (v := k2) (by rw [qk2]; rfl) ?_
              obtain ⟨v41, ev41⟩ : ∃ z : Int32, z = a2 - a2 / k2 * k2 := ⟨_, rfl⟩
              have hv41 := n_rem (k := 2) ev41 ek2 (by decide)
              have rv41 := n_rng v41
              refine r_irem C v41 (oDec_at oX4_add 75 rfl) (n_ne0 (by omega)) ev41 ?_
              refine r_iconst C (oDec_at oX4_add 76 rfl) (v := k1) (by rw [qk1]; rfl) ?_
              refine r_icmp_ne C 142 (oDec_at oX4_add 77 rfl) (by decide) (fun cd42 => ?_) (fun cd42 => ?_)
              · skip
                refine r_iconst C (oDec_at oX4_add 80 rfl) (v := k0) (by rw [qk0]; rfl) ?_
                refine r_puti (k := 7) (lo := 0) (hi := 1) C oCl4 hk0 (by decide) flX4_34 rfl rfl rfl rfl rfl (n_bool (by omega)) (n_fitz (by omega)) rfl ⟨by omega, by omega⟩ (oDec_at oX4_add 81 rfl) ?_
                refine r_aload_n C (j := 0) (oDec_at oX4_add 82 rfl) rfl rfl ?_
                refine r_dup C (oDec_at oX4_add 83 rfl) rfl ?_
                refine r_geti (k := 5) (lo := 0) (hi := 96) C v1 oCl4 hk0 (by decide) flX4_31 rfl rfl (((pI_ne (a := c0) (b := 5) (c := c0) (k := 7) _ _ (Or.inr (by decide)))).trans (((pI_ne (a := c0) (b := 5) (c := c0) (k := 6) _ _ (Or.inr (by decide)))).trans (ev1))) rfl rfl (oDec_at oX4_add 84 rfl) (fun _ _ => ?_)
                refine r_iload_n C (j := 2) (oDec_at oX4_add 85 rfl) rfl rfl ?_
                refine r_pc C 152 rfl ?_
                obtain ⟨v43, ev43⟩ : ∃ z : Int32, z = v1 + a2 := ⟨_, rfl⟩
                have hv43 : v43.toInt = v1.toInt + a2.toInt := n_add ev43 (by omega) (by omega)
                refine r_iadd C v43 (oDec_at oX4_add 86 rfl) ev43 ?_
                refine r_puti (k := 5) (lo := 0) (hi := 96) C oCl4 hk0 (by decide) flX4_31 rfl rfl rfl rfl rfl rfl rfl rfl ⟨by omega, by omega⟩ (oDec_at oX4_add 87 rfl) ?_
                refine r_aload_n C (j := 0) (oDec_at oX4_add 88 rfl) rfl rfl ?_
                refine r_dup C (oDec_at oX4_add 89 rfl) rfl ?_
                obtain ⟨v44, ev44⟩ : ∃ z : Int32, ((pI (pI (pI t c0 6 a1) c0 7 k0) c0 5 v43)).1 c0 4 = z := ⟨_, rfl⟩
                have gv44 : (t.1 c0 4).toInt = v44.toInt := congrArg Int32.toInt ((((pI_ne (a := c0) (b := 4) (c := c0) (k := 5) _ _ (Or.inr (by decide)))).trans (((pI_ne (a := c0) (b := 4) (c := c0) (k := 7) _ _ (Or.inr (by decide)))).trans ((pI_ne (a := c0) (b := 4) (c := c0) (k := 6) _ _ (Or.inr (by decide)))))).symm.trans ev44)
                have ggv44 : (((pI (pI (pI t c0 6 a1) c0 7 k0) c0 5 v43)).1 c0 4).toInt = v44.toInt := congrArg Int32.toInt ev44
                refine r_geti (k := 4) (lo := 0) (hi := 24) C v44 oCl4 hk0 (by decide) flX4_28 rfl rfl (ev44) rfl rfl (oDec_at oX4_add 90 rfl) (fun b45 b45h => ?_)
                refine r_iconst C (oDec_at oX4_add 91 rfl) (v := k1) (by rw [qk1]; rfl) ?_
                refine r_pc C 162 rfl ?_
                obtain ⟨v46, ev46⟩ : ∃ z : Int32, z = v44 + k1 := ⟨_, rfl⟩
                have hv46 : v46.toInt = v44.toInt + k1.toInt := n_add ev46 (by omega) (by omega)
                refine r_iadd C v46 (oDec_at oX4_add 92 rfl) ev46 ?_
                refine r_puti (k := 4) (lo := 0) (hi := 24) C oCl4 hk0 (by decide) flX4_28 rfl rfl rfl rfl rfl rfl rfl rfl ⟨by omega, by omega⟩ (oDec_at oX4_add 93 rfl) ?_
                refine r_iconst C (oDec_at oX4_add 94 rfl) (v := k1) (by rw [qk1]; rfl) ?_
                have lk47 : (((pI (pI (pI (pI t c0 6 a1) c0 7 k0) c0 5 v43) c0 4 v46)).1 c0 4).toInt = v46.toInt := congrArg Int32.toInt ((pI_self _ _ _ _))
                have lk48 : (((pI (pI (pI (pI t c0 6 a1) c0 7 k0) c0 5 v43) c0 4 v46)).1 c0 5).toInt = v43.toInt := congrArg Int32.toInt (((pI_ne (a := c0) (b := 5) (c := c0) (k := 4) _ _ (Or.inr (by decide)))).trans ((pI_self _ _ _ _)))
                exact r_zret C (n_bool (by omega)) (oDec_at oX4_add 95 rfl) ⟨_, rfl, ⟨by omega, by omega, by omega, (owLN_fr (oFr_oneI (q := 4) (m := 4) hk0 (by rfl)) rfl (owLN_fr (oFr_oneI (q := 4) (m := 5) hk0 (by rfl)) rfl (owLN_fr (oFr_oneI (q := 4) (m := 7) hk0 (by rfl)) rfl hq31))), by omega⟩⟩
              · skip
                refine r_iconst C (oDec_at oX4_add 78 rfl) (v := k1) (by rw [qk1]; rfl) ?_
                refine r_goto C (tgt := 143) (oDec_at oX4_add 79 rfl) (by decide) ?_
                refine r_puti (k := 7) (lo := 0) (hi := 1) C oCl4 hk0 (by decide) flX4_34 rfl rfl rfl rfl rfl (n_bool (by omega)) (n_fitz (by omega)) rfl ⟨by omega, by omega⟩ (oDec_at oX4_add 81 rfl) ?_
                refine r_aload_n C (j := 0) (oDec_at oX4_add 82 rfl) rfl rfl ?_
                refine r_dup C (oDec_at oX4_add 83 rfl) rfl ?_
                refine r_geti (k := 5) (lo := 0) (hi := 96) C v1 oCl4 hk0 (by decide) flX4_31 rfl rfl (((pI_ne (a := c0) (b := 5) (c := c0) (k := 7) _ _ (Or.inr (by decide)))).trans (((pI_ne (a := c0) (b := 5) (c := c0) (k := 6) _ _ (Or.inr (by decide)))).trans (ev1))) rfl rfl (oDec_at oX4_add 84 rfl) (fun _ _ => ?_)
                refine r_iload_n C (j := 2) (oDec_at oX4_add 85 rfl) rfl rfl ?_
                refine r_pc C 152 rfl ?_
                obtain ⟨v49, ev49⟩ : ∃ z : Int32, z = v1 + a2 := ⟨_, rfl⟩
                have hv49 : v49.toInt = v1.toInt + a2.toInt := n_add ev49 (by omega) (by omega)
                refine r_iadd C v49 (oDec_at oX4_add 86 rfl) ev49 ?_
                refine r_puti (k := 5) (lo := 0) (hi := 96) C oCl4 hk0 (by decide) flX4_31 rfl rfl rfl rfl rfl rfl rfl rfl ⟨by omega, by omega⟩ (oDec_at oX4_add 87 rfl) ?_
                refine r_aload_n C (j := 0) (oDec_at oX4_add 88 rfl) rfl rfl ?_
                refine r_dup C (oDec_at oX4_add 89 rfl) rfl ?_
                obtain ⟨v50, ev50⟩ : ∃ z : Int32, ((pI (pI (pI t c0 6 a1) c0 7 k1) c0 5 v49)).1 c0 4 = z := ⟨_, rfl⟩
                have gv50 : (t.1 c0 4).toInt = v50.toInt := congrArg Int32.toInt ((((pI_ne (a := c0) (b := 4) (c := c0) (k := 5) _ _ (Or.inr (by decide)))).trans (((pI_ne (a := c0) (b := 4) (c := c0) (k := 7) _ _ (Or.inr (by decide)))).trans ((pI_ne (a := c0) (b := 4) (c := c0) (k := 6) _ _ (Or.inr (by decide)))))).symm.trans ev50)
                have ggv50 : (((pI (pI (pI t c0 6 a1) c0 7 k1) c0 5 v49)).1 c0 4).toInt = v50.toInt := congrArg Int32.toInt ev50
                refine r_geti (k := 4) (lo := 0) (hi := 24) C v50 oCl4 hk0 (by decide) flX4_28 rfl rfl (ev50) rfl rfl (oDec_at oX4_add 90 rfl) (fun b51 b51h => ?_)
                refine r_iconst C (oDec_at oX4_add 91 rfl) (v := k1) (by rw [qk1]; rfl) ?_
                refine r_pc C 162 rfl ?_
                obtain ⟨v52, ev52⟩ : ∃ z : Int32, z = v50 + k1 := ⟨_, rfl⟩
                have hv52 : v52.toInt = v50.toInt + k1.toInt := n_add ev52 (by omega) (by omega)
                refine r_iadd C v52 (oDec_at oX4_add 92 rfl) ev52 ?_
                refine r_puti (k := 4) (lo := 0) (hi := 24) C oCl4 hk0 (by decide) flX4_28 rfl rfl rfl rfl rfl rfl rfl rfl ⟨by omega, by omega⟩ (oDec_at oX4_add 93 rfl) ?_
                refine r_iconst C (oDec_at oX4_add 94 rfl) (v := k1) (by rw [qk1]; rfl) ?_
                have lk53 : (((pI (pI (pI (pI t c0 6 a1) c0 7 k1) c0 5 v49) c0 4 v52)).1 c0 4).toInt = v52.toInt := congrArg Int32.toInt ((pI_self _ _ _ _))
                have lk54 : (((pI (pI (pI (pI t c0 6 a1) c0 7 k1) c0 5 v49) c0 4 v52)).1 c0 5).toInt = v49.toInt := congrArg Int32.toInt (((pI_ne (a := c0) (b := 5) (c := c0) (k := 4) _ _ (Or.inr (by decide)))).trans ((pI_self _ _ _ _)))
                exact r_zret C (n_bool (by omega)) (oDec_at oX4_add 95 rfl) ⟨_, rfl, ⟨by omega, by omega, by omega, (owLN_fr (oFr_oneI (q := 4) (m := 4) hk0 (by rfl)) rfl (owLN_fr (oFr_oneI (q := 4) (m := 5) hk0 (by rfl)) rfl (owLN_fr (oFr_oneI (q := 4) (m := 7) hk0 (by rfl)) rfl hq31))), by omega⟩⟩
        · skip
          refine r_aload_n C (j := 0) (oDec_at oX4_add 54 rfl) rfl rfl ?_
          refine r_getR (k := 3) (b := 4) C oCl4 hk0 (by decide) flX4_21 rfl rfl rfl (oDec_at oX4_add 55 rfl) ?_
          refine r_iload_n C (j := 3) (oDec_at oX4_add 56 rfl) rfl rfl ?_
          refine r_aload_n C (j := 0) (oDec_at oX4_add 57 rfl) rfl rfl ?_
          obtain ⟨v55, ev55⟩ : ∃ z : Int32, (t).1 c0 4 = z := ⟨_, rfl⟩
          have gv55 : (t.1 c0 4).toInt = v55.toInt := congrArg Int32.toInt (ev55)
          refine r_geti (k := 4) (lo := 0) (hi := 24) C v55 oCl4 hk0 (by decide) flX4_28 rfl rfl (ev55) rfl rfl (oDec_at oX4_add 58 rfl) (fun b56 b56h => ?_)
          refine r_iast (n := 96) (lo := (-2147483648)) (hi := 2147483647) C (kr4_4 hk0) (by decide) rfl rfl ⟨by omega, by omega⟩ (by decide) rfl rfl rfl rfl (n_rng _) (oDec_at oX4_add 59 rfl) ?_
          refine r_pc C 104 rfl ?_
          obtain ⟨v57, ev57⟩ : ∃ z : Int32, x3 + Int32.ofInt 1 = z := ⟨_, rfl⟩
          have hv57 : v57.toInt = x3.toInt + 1 := n_inc ev57 (by decide) (by omega) (by omega)
          refine r_iinc C (j := 3) (lv' := [(0, .ref (oad E c0)), (1, .int a1), (2, .int a2), (3, .int v57)]) v57 [1, 2, 3, 0] (oDec_at oX4_add 60 rfl) rfl ev57 (by decide) rfl ?_
          refine r_goto C (tgt := 84) (oDec_at oX4_add 61 rfl) (by decide) ?_
          have lk58 : (((pI t (c0 + 4) x3.toNatClampNeg v55)).1 c0 4).toInt = v55.toInt := congrArg Int32.toInt (((pI_ne _ _ (Or.inl (okd_ne hk0 (kr4_4 hk0) (by decide))))).trans (ev55))
          have lk59 : (((pI t (c0 + 4) x3.toNatClampNeg v55)).1 c0 5).toInt = v1.toInt := congrArg Int32.toInt (((pI_ne _ _ (Or.inl (okd_ne hk0 (kr4_4 hk0) (by decide))))).trans (ev1))
          exact (ih (n - 1) (by omega)) ((pI t (c0 + 4) x3.toNatClampNeg v55)) v57  (by omega) (by omega) (by omega) (by omega) (by omega) (by omega) (by omega) (owLN_fr (oFr_oneI (q := 19) (m := 9999) (kr4_4 hk0) (by rfl)) rfl iv7) (by omega) (by omega)
  refine r_iload_n C (j := 1) (oDec_at oX4_add 0 rfl) rfl rfl ?_
  refine r_iconst C (oDec_at oX4_add 1 rfl) (v := km1) (by rw [qkm1]; rfl) ?_
  refine r_icmp_lt C 22 (oDec_at oX4_add 2 rfl) (by decide) (fun cd60 => ?_) (fun cd60 => ?_)
  · skip
    refine r_iconst C (oDec_at oX4_add 12 rfl) (v := k0) (by rw [qk0]; rfl) ?_
    exact r_zret C (n_bool (by omega)) (oDec_at oX4_add 13 rfl) ⟨_, rfl, ⟨by omega, by omega, by omega, hp0, by omega⟩⟩
  · skip
    refine r_iload_n C (j := 1) (oDec_at oX4_add 3 rfl) rfl rfl ?_
    refine r_bipush C (oDec_at oX4_add 4 rfl) (v := k28) (by rw [qk28]; rfl) ?_
    refine r_icmp_gt C 22 (oDec_at oX4_add 5 rfl) (by decide) (fun cd61 => ?_) (fun cd61 => ?_)
    · skip
      refine r_iconst C (oDec_at oX4_add 12 rfl) (v := k0) (by rw [qk0]; rfl) ?_
      exact r_zret C (n_bool (by omega)) (oDec_at oX4_add 13 rfl) ⟨_, rfl, ⟨by omega, by omega, by omega, hp0, by omega⟩⟩
    · skip
      refine r_iload_n C (j := 2) (oDec_at oX4_add 6 rfl) rfl rfl ?_
      refine r_iconst C (oDec_at oX4_add 7 rfl) (v := k1) (by rw [qk1]; rfl) ?_
      refine r_icmp_lt C 22 (oDec_at oX4_add 8 rfl) (by decide) (fun cd62 => ?_) (fun cd62 => ?_)
      · skip
        refine r_iconst C (oDec_at oX4_add 12 rfl) (v := k0) (by rw [qk0]; rfl) ?_
        exact r_zret C (n_bool (by omega)) (oDec_at oX4_add 13 rfl) ⟨_, rfl, ⟨by omega, by omega, by omega, hp0, by omega⟩⟩
      · skip
        refine r_iload_n C (j := 2) (oDec_at oX4_add 9 rfl) rfl rfl ?_
        refine r_bipush C (oDec_at oX4_add 10 rfl) (v := k16) (by rw [qk16]; rfl) ?_
        refine r_icmp_le C 24 (oDec_at oX4_add 11 rfl) (by decide) (fun cd63 => ?_) (fun cd63 => ?_)
        · skip
          refine r_aload_n C (j := 0) (oDec_at oX4_add 14 rfl) rfl rfl ?_
          obtain ⟨v64, ev64⟩ : ∃ z : Int32, (s).1 c0 4 = z := ⟨_, rfl⟩
          have gv64 : (s.1 c0 4).toInt = v64.toInt := congrArg Int32.toInt (ev64)
          refine r_geti (k := 4) (lo := 0) (hi := 24) C v64 oCl4 hk0 (by decide) flX4_28 rfl rfl (ev64) rfl rfl (oDec_at oX4_add 15 rfl) (fun b65 b65h => ?_)
          refine r_bipush C (oDec_at oX4_add 16 rfl) (v := k24) (by rw [qk24]; rfl) ?_
          refine r_icmp_ge C 44 (oDec_at oX4_add 17 rfl) (by decide) (fun cd66 => ?_) (fun cd66 => ?_)
          · skip
            refine r_iconst C (oDec_at oX4_add 24 rfl) (v := k0) (by rw [qk0]; rfl) ?_
            have lk67 : ((s).1 c0 4).toInt = v64.toInt := congrArg Int32.toInt (ev64)
            exact r_zret C (n_bool (by omega)) (oDec_at oX4_add 25 rfl) ⟨_, rfl, ⟨by omega, by omega, by omega, hp0, by omega⟩⟩
          · skip
            refine r_aload_n C (j := 0) (oDec_at oX4_add 18 rfl) rfl rfl ?_
            obtain ⟨v68, ev68⟩ : ∃ z : Int32, (s).1 c0 5 = z := ⟨_, rfl⟩
            have gv68 : (s.1 c0 5).toInt = v68.toInt := congrArg Int32.toInt (ev68)
            refine r_geti (k := 5) (lo := 0) (hi := 96) C v68 oCl4 hk0 (by decide) flX4_31 rfl rfl (ev68) rfl rfl (oDec_at oX4_add 19 rfl) (fun b69 b69h => ?_)
            refine r_iload_n C (j := 2) (oDec_at oX4_add 20 rfl) rfl rfl ?_
            obtain ⟨v70, ev70⟩ : ∃ z : Int32, z = v68 + a2 := ⟨_, rfl⟩
            have hv70 : v70.toInt = v68.toInt + a2.toInt := n_add ev70 (by omega) (by omega)
            refine r_iadd C v70 (oDec_at oX4_add 21 rfl) ev70 ?_
            refine r_bipush C (oDec_at oX4_add 22 rfl) (v := k96) (by rw [qk96]; rfl) ?_
            refine r_icmp_le C 46 (oDec_at oX4_add 23 rfl) (by decide) (fun cd71 => ?_) (fun cd71 => ?_)
            · skip
              refine r_aload_n C (j := 0) (oDec_at oX4_add 26 rfl) rfl rfl ?_
              refine r_getR (k := 0) (b := 1) C oCl4 hk0 (by decide) flX4_9 rfl rfl rfl (oDec_at oX4_add 27 rfl) ?_
              refine r_aload_n C (j := 0) (oDec_at oX4_add 28 rfl) rfl rfl ?_
              refine r_geti (k := 4) (lo := 0) (hi := 24) C v64 oCl4 hk0 (by decide) flX4_28 rfl rfl (ev64) rfl rfl (oDec_at oX4_add 29 rfl) (fun _ _ => ?_)
              refine r_iload_n C (j := 1) (oDec_at oX4_add 30 rfl) rfl rfl ?_
              refine r_iast (n := 24) (lo := (-2147483648)) (hi := 2147483647) C (kr4_1 hk0) (by decide) rfl rfl ⟨by omega, by omega⟩ (by decide) rfl rfl rfl rfl (n_rng _) (oDec_at oX4_add 31 rfl) ?_
              refine r_pc C 56 rfl ?_
              have hq72 : owLN ((pI s (c0 + 1) v64.toNatClampNeg a1)) := owLN_st hp0 hk0 (by omega)
              refine r_aload_n C (j := 0) (oDec_at oX4_add 32 rfl) rfl rfl ?_
              refine r_getR (k := 1) (b := 2) C oCl4 hk0 (by decide) flX4_15 rfl rfl rfl (oDec_at oX4_add 33 rfl) ?_
              refine r_aload_n C (j := 0) (oDec_at oX4_add 34 rfl) rfl rfl ?_
              refine r_geti (k := 4) (lo := 0) (hi := 24) C v64 oCl4 hk0 (by decide) flX4_28 rfl rfl (((pI_ne _ _ (Or.inl (okd_ne hk0 (kr4_1 hk0) (by decide))))).trans (ev64)) rfl rfl (oDec_at oX4_add 35 rfl) (fun _ _ => ?_)
              refine r_iload_n C (j := 2) (oDec_at oX4_add 36 rfl) rfl rfl ?_
              refine r_iast (n := 24) (lo := (-2147483648)) (hi := 2147483647) C (kr4_2 hk0) (by decide) rfl rfl ⟨by omega, by omega⟩ (by decide) rfl rfl rfl rfl (n_rng _) (oDec_at oX4_add 37 rfl) ?_
              refine r_pc C 66 rfl ?_
              refine r_aload_n C (j := 0) (oDec_at oX4_add 38 rfl) rfl rfl ?_
              refine r_getR (k := 2) (b := 3) C oCl4 hk0 (by decide) flX4_18 rfl rfl rfl (oDec_at oX4_add 39 rfl) ?_
              refine r_aload_n C (j := 0) (oDec_at oX4_add 40 rfl) rfl rfl ?_
              refine r_geti (k := 4) (lo := 0) (hi := 24) C v64 oCl4 hk0 (by decide) flX4_28 rfl rfl (((pI_ne _ _ (Or.inl (okd_ne hk0 (kr4_2 hk0) (by decide))))).trans (((pI_ne _ _ (Or.inl (okd_ne hk0 (kr4_1 hk0) (by decide))))).trans (ev64))) rfl rfl (oDec_at oX4_add 41 rfl) (fun _ _ => ?_)
              refine r_aload_n C (j := 0) (oDec_at oX4_add 42 rfl) rfl rfl ?_
              refine r_geti (k := 5) (lo := 0) (hi := 96) C v68 oCl4 hk0 (by decide) flX4_31 rfl rfl (((pI_ne _ _ (Or.inl (okd_ne hk0 (kr4_2 hk0) (by decide))))).trans (((pI_ne _ _ (Or.inl (okd_ne hk0 (kr4_1 hk0) (by decide))))).trans (ev68))) rfl rfl (oDec_at oX4_add 43 rfl) (fun _ _ => ?_)
              refine r_pc C 78 rfl ?_
              refine r_iast (n := 24) (lo := (-2147483648)) (hi := 2147483647) C (kr4_3 hk0) (by decide) rfl rfl ⟨by omega, by omega⟩ (by decide) rfl rfl rfl rfl (n_rng _) (oDec_at oX4_add 44 rfl) ?_
              refine r_aload_n C (j := 0) (oDec_at oX4_add 45 rfl) rfl rfl ?_
              refine r_geti (k := 5) (lo := 0) (hi := 96) C v68 oCl4 hk0 (by decide) flX4_31 rfl rfl (((pI_ne _ _ (Or.inl (okd_ne hk0 (kr4_3 hk0) (by decide))))).trans (((pI_ne _ _ (Or.inl (okd_ne hk0 (kr4_2 hk0) (by decide))))).trans (((pI_ne _ _ (Or.inl (okd_ne hk0 (kr4_1 hk0) (by decide))))).trans (ev68)))) rfl rfl (oDec_at oX4_add 46 rfl) (fun _ _ => ?_)
              refine r_istore_n C (lv' := [(0, .ref (oad E c0)), (1, .int a1), (2, .int a2), (3, .int v68)]) [1, 2, 3, 0] (oDec_at oX4_add 47 rfl) rfl (by decide) rfl ?_
              have lk73 : (((pI (pI (pI s (c0 + 1) v64.toNatClampNeg a1) (c0 + 2) v64.toNatClampNeg a2) (c0 + 3) v64.toNatClampNeg v68)).1 c0 4).toInt = v64.toInt := congrArg Int32.toInt (((pI_ne _ _ (Or.inl (okd_ne hk0 (kr4_3 hk0) (by decide))))).trans (((pI_ne _ _ (Or.inl (okd_ne hk0 (kr4_2 hk0) (by decide))))).trans (((pI_ne _ _ (Or.inl (okd_ne hk0 (kr4_1 hk0) (by decide))))).trans (ev64))))
              have lk74 : (((pI (pI (pI s (c0 + 1) v64.toNatClampNeg a1) (c0 + 2) v64.toNatClampNeg a2) (c0 + 3) v64.toNatClampNeg v68)).1 c0 5).toInt = v68.toInt := congrArg Int32.toInt (((pI_ne _ _ (Or.inl (okd_ne hk0 (kr4_3 hk0) (by decide))))).trans (((pI_ne _ _ (Or.inl (okd_ne hk0 (kr4_2 hk0) (by decide))))).trans (((pI_ne _ _ (Or.inl (okd_ne hk0 (kr4_1 hk0) (by decide))))).trans (ev68))))
              exact (key ((s.1 c0 5).toInt + a2.toInt - v68.toInt + 1).toNat) ((pI (pI (pI s (c0 + 1) v64.toNatClampNeg a1) (c0 + 2) v64.toNatClampNeg a2) (c0 + 3) v64.toNatClampNeg v68)) v68  (by omega) (by omega) (by omega) (by omega) (by omega) (by omega) (by omega) (owLN_fr (oFr_oneI (q := 18) (m := 9999) (kr4_3 hk0) (by rfl)) rfl (owLN_fr (oFr_oneI (q := 17) (m := 9999) (kr4_2 hk0) (by rfl)) rfl hq72)) (by omega) (by omega)
            · skip
              refine r_iconst C (oDec_at oX4_add 24 rfl) (v := k0) (by rw [qk0]; rfl) ?_
              have lk75 : ((s).1 c0 4).toInt = v64.toInt := congrArg Int32.toInt (ev64)
              have lk76 : ((s).1 c0 5).toInt = v68.toInt := congrArg Int32.toInt (ev68)
              exact r_zret C (n_bool (by omega)) (oDec_at oX4_add 25 rfl) ⟨_, rfl, ⟨by omega, by omega, by omega, hp0, by omega⟩⟩
        · skip
          refine r_iconst C (oDec_at oX4_add 12 rfl) (v := k0) (by rw [qk0]; rfl) ?_
          exact r_zret C (n_bool (by omega)) (oDec_at oX4_add 13 rfl) ⟨_, rfl, ⟨by omega, by omega, by omega, hp0, by omega⟩⟩
set_option maxHeartbeats 4000000 in
set_option maxRecDepth 100000 in
theorem ct9_X4_copyFrom (l : Launch) (E : oE) (s : oS) (c0 : Nat) (hk0 : okd c0 = 4) (c1 : Nat) (hk1 : okd c1 = 4)  (hp0 : owLN s) : oMet l 3 yX4_copyFrom cX4_copyFrom 3 none [(4, 4), (4, 5), (4, 6), (4, 7), (16, 9999), (17, 9999), (18, 9999), (19, 9999)] E s [.ref (oad E c0), .ref (oad E c1)] (oPv (fun u => (owLN u))) := by
  refine oMet.of (lv := [(0, .ref (oad E c0)), (1, .ref (oad E c1))]) (by decide +kernel) (Nat.le_of_ble_eq_true rfl) rfl (fun J C hT => ?_)
  have C : oC l 3 cX4_copyFrom RX4 3 none [(4, 4), (4, 5), (4, 6), (4, 7), (16, 9999), (17, 9999), (18, 9999), (19, 9999)] E s (oPv (fun u => (owLN u))) J := C
  obtain ⟨k0, qk0⟩ : ∃ z : Int32, z = 0 := ⟨_, rfl⟩
  have ek0 : k0.toInt = 0 := by rw [qk0]; rfl
  have key : ∀ n : Nat, (∀ (t : oS) (x2 : Int32), (0 ≤ x2.toInt ∧ x2.toInt ≤ 24) → (owLN t) → 25 - x2.toInt ≤ (n : Int) → J t 6 [(0, .ref (oad E c0)), (1, .ref (oad E c1)), (2, .int x2)] []) := by
    intro n
    induction n using Nat.strongRecOn with
    | _ n ih =>
      skip
      · intro t x2  iv0 iv1 hmu
        have rx2 := n_rng x2
        refine r_iload_n C (j := 2) (oDec_at oX4_copyFrom 4 rfl) rfl rfl ?_
        refine r_aload_n C (j := 1) (oDec_at oX4_copyFrom 5 rfl) rfl rfl ?_
        obtain ⟨v1, ev1⟩ : ∃ z : Int32, (t).1 c1 4 = z := ⟨_, rfl⟩
        have gv1 : (t.1 c1 4).toInt = v1.toInt := congrArg Int32.toInt (ev1)
        refine r_geti (k := 4) (lo := 0) (hi := 24) C v1 oCl4 hk1 (by decide) flX4_28 rfl rfl (ev1) rfl rfl (oDec_at oX4_copyFrom 6 rfl) (fun b2 b2h => ?_)
        refine r_icmp_ge C 35 (oDec_at oX4_copyFrom 7 rfl) (by decide) (fun cd3 => ?_) (fun cd3 => ?_)
        · skip
          exact r_vret C (oDec_at oX4_copyFrom 19 rfl) ⟨rfl, iv1⟩
        · skip
          refine r_aload_n C (j := 0) (oDec_at oX4_copyFrom 8 rfl) rfl rfl ?_
          refine r_aload_n C (j := 1) (oDec_at oX4_copyFrom 9 rfl) rfl rfl ?_
          refine r_iload_n C (j := 2) (oDec_at oX4_copyFrom 10 rfl) rfl rfl ?_
          refine r_callVi C oCl4 hk1 miX4_stepOf mlX4_41 (ct9_X4_stepOf l E (t) c1 hk1 x2 iv1) (by decide) rfl rfl rfl (Nat.le_of_ble_eq_true rfl) (oDec_at oX4_copyFrom 11 rfl) (fun r5 u4 pu4 fu4 => ?_)
          try dsimp only at pu4
          obtain ⟨pu4_0, pu4_1⟩ := pu4
          have hxu4 := oFr_nil fu4; subst hxu4
          have rr5 := n_rng r5
          refine r_aload_n C (j := 1) (oDec_at oX4_copyFrom 12 rfl) rfl rfl ?_
          refine r_iload_n C (j := 2) (oDec_at oX4_copyFrom 13 rfl) rfl rfl ?_
          refine r_pc C 22 rfl ?_
          refine r_callVi C oCl4 hk1 miX4_lengthOf mlX4_45 (ct_X4_lengthOf l E (t) c1 hk1 x2 ) (by decide) rfl rfl rfl (Nat.le_of_ble_eq_true rfl) (oDec_at oX4_copyFrom 14 rfl) (fun r7 u6 pu6 fu6 => ?_)
          try dsimp only at pu6
          have hxu6 := oFr_nil fu6; subst hxu6
          have rr7 := n_rng r7
          refine r_callVi C oCl4 hk0 miX4_add mlX4_48 (ct9_X4_add l E (t) c0 hk0 r5 r7 iv1) (by decide) rfl rfl rfl (Nat.le_of_ble_eq_true rfl) (oDec_at oX4_copyFrom 15 rfl) (fun r9 u8 pu8 fu8 => ?_)
          try dsimp only at pu8
          obtain ⟨pu8_0, pu8_1, pu8_2, pu8_3, pu8_4⟩ := pu8
          have rr9 := n_rng r9
          refine r_pop C (oDec_at oX4_copyFrom 16 rfl) rfl ?_
          obtain ⟨v10, ev10⟩ : ∃ z : Int32, x2 + Int32.ofInt 1 = z := ⟨_, rfl⟩
          have hv10 : v10.toInt = x2.toInt + 1 := n_inc ev10 (by decide) (by omega) (by omega)
          refine r_iinc C (j := 2) (lv' := [(0, .ref (oad E c0)), (1, .ref (oad E c1)), (2, .int v10)]) v10 [1, 2, 0] (oDec_at oX4_copyFrom 17 rfl) rfl ev10 (by decide) rfl ?_
          refine r_goto C (tgt := 6) (oDec_at oX4_copyFrom 18 rfl) (by decide) ?_
          exact (ih (n - 1) (by omega)) (u8) v10  (by omega) pu8_3 (by omega)
  refine r_aload_n C (j := 0) (oDec_at oX4_copyFrom 0 rfl) rfl rfl ?_
  refine r_callVv C oCl4 hk0 miX4_clear mlX4_38 (ct9_X4_clear l E (s) c0 hk0 hp0) (by decide) rfl rfl rfl (Nat.le_of_ble_eq_true rfl) (oDec_at oX4_copyFrom 1 rfl) (fun u11 pu11 fu11 => ?_)
  try dsimp only at pu11
  obtain ⟨pu11_0, pu11_1, pu11_2, pu11_3, pu11_4⟩ := pu11
  refine r_iconst C (oDec_at oX4_copyFrom 2 rfl) (v := k0) (by rw [qk0]; rfl) ?_
  refine r_istore_n C (lv' := [(0, .ref (oad E c0)), (1, .ref (oad E c1)), (2, .int k0)]) [1, 2, 0] (oDec_at oX4_copyFrom 3 rfl) rfl (by decide) rfl ?_
  exact (key (25 - k0.toInt).toNat) (u11) k0  (by omega) pu11_2 (by omega)
set_option maxHeartbeats 4000000 in
set_option maxRecDepth 100000 in
theorem ct9_X4_setStep (l : Launch) (E : oE) (s : oS) (c0 : Nat) (hk0 : okd c0 = 4) (a1 : Int32) (a2 : Int32)  (hp0 : owLN s) (hp1 : -1 ≤ a2.toInt ∧ a2.toInt ≤ 28) : oMet l 3 yX4_setStep cX4_setStep 4 none [(4, 6), (16, 9999)] E s [.ref (oad E c0), .int a1, .int a2] (oPv (fun u => (owLN u))) := by
  refine oMet.of (lv := [(0, .ref (oad E c0)), (1, .int a1), (2, .int a2)]) (by decide +kernel) (Nat.le_of_ble_eq_true rfl) rfl (fun J C hT => ?_)
  have C : oC l 3 cX4_setStep RX4 4 none [(4, 6), (16, 9999)] E s (oPv (fun u => (owLN u))) J := C
  obtain ⟨km1, qkm1⟩ : ∃ z : Int32, z = (-1) := ⟨_, rfl⟩
  have ekm1 : km1.toInt = (-1) := by rw [qkm1]; rfl
  obtain ⟨k0, qk0⟩ : ∃ z : Int32, z = 0 := ⟨_, rfl⟩
  have ek0 : k0.toInt = 0 := by rw [qk0]; rfl
  have rg1 := n_rng a1
  have rg2 := n_rng a2
  have key : ∀ n : Nat, (∀ (t : oS) (x3 : Int32), (0 ≤ x3.toInt ∧ x3.toInt ≤ 24) → (owLN t) → 25 - x3.toInt ≤ (n : Int) → J t 23 [(0, .ref (oad E c0)), (3, .int x3)] []) := by
    intro n
    induction n using Nat.strongRecOn with
    | _ n ih =>
      skip
      · intro t x3  iv0 iv1 hmu
        have rx3 := n_rng x3
        refine r_iload_n C (j := 1) (oDec_at oX4_setStep 15 rfl) rfl rfl ?_
        refine r_aload_n C (j := 0) (oDec_at oX4_setStep 16 rfl) rfl rfl ?_
        obtain ⟨v1, ev1⟩ : ∃ z : Int32, (t).1 c0 4 = z := ⟨_, rfl⟩
        have gv1 : (t.1 c0 4).toInt = v1.toInt := congrArg Int32.toInt (ev1)
        refine r_geti (k := 4) (lo := 0) (hi := 24) C v1 oCl4 hk0 (by decide) flX4_28 rfl rfl (ev1) rfl rfl (oDec_at oX4_setStep 17 rfl) (fun b2 b2h => ?_)
        refine r_icmp_ge C 54 (oDec_at oX4_setStep 18 rfl) (by decide) (fun cd3 => ?_) (fun cd3 => ?_)
        · skip
          exact r_vret C (oDec_at oX4_setStep 30 rfl) ⟨rfl, iv1⟩
        · skip
          refine r_aload_n C (j := 0) (oDec_at oX4_setStep 19 rfl) rfl rfl ?_
          obtain ⟨v4, ev4⟩ : ∃ z : Int32, (t).1 c0 6 = z := ⟨_, rfl⟩
          have gv4 : (t.1 c0 6).toInt = v4.toInt := congrArg Int32.toInt (ev4)
          have rv4 := n_rng v4
          refine r_geti (k := 6) (lo := (-2147483648)) (hi := 2147483647) C v4 oCl4 hk0 (by decide) flX4_24 rfl rfl (ev4) rfl rfl (oDec_at oX4_setStep 20 rfl) (fun _ _ => ?_)
          refine r_iconst C (oDec_at oX4_setStep 21 rfl) (v := km1) (by rw [qkm1]; rfl) ?_
          refine r_icmp_ne C 54 (oDec_at oX4_setStep 22 rfl) (by decide) (fun cd5 => ?_) (fun cd5 => ?_)
          · skip
            exact r_vret C (oDec_at oX4_setStep 30 rfl) ⟨rfl, iv1⟩
          · skip
            refine r_aload_n C (j := 0) (oDec_at oX4_setStep 23 rfl) rfl rfl ?_
            refine r_aload_n C (j := 0) (oDec_at oX4_setStep 24 rfl) rfl rfl ?_
            refine r_iload_n C (j := 1) (oDec_at oX4_setStep 25 rfl) rfl rfl ?_
            refine r_callVi C oCl4 hk0 miX4_stepOf mlX4_41 (ct9_X4_stepOf l E (t) c0 hk0 x3 iv1) (by decide) rfl rfl rfl (Nat.le_of_ble_eq_true rfl) (oDec_at oX4_setStep 26 rfl) (fun r7 u6 pu6 fu6 => ?_)
            try dsimp only at pu6
            obtain ⟨pu6_0, pu6_1⟩ := pu6
            have hxu6 := oFr_nil fu6; subst hxu6
            have rr7 := n_rng r7
            refine r_puti (k := 6) (lo := (-2147483648)) (hi := 2147483647) C oCl4 hk0 (by decide) flX4_24 rfl rfl rfl rfl rfl rfl rfl rfl (n_rng _) (oDec_at oX4_setStep 27 rfl) ?_
            have hq8 : owLN ((pI t c0 6 r7)) := owLN_op iv1 hk0 (by omega)
            obtain ⟨v9, ev9⟩ : ∃ z : Int32, x3 + Int32.ofInt 1 = z := ⟨_, rfl⟩
            have hv9 : v9.toInt = x3.toInt + 1 := n_inc ev9 (by decide) (by omega) (by omega)
            refine r_iinc C (j := 1) (lv' := [(0, .ref (oad E c0)), (3, .int v9)]) v9 [1, 0] (oDec_at oX4_setStep 28 rfl) rfl ev9 (by decide) rfl ?_
            refine r_pc C 51 rfl ?_
            refine r_goto C (tgt := 23) (oDec_at oX4_setStep 29 rfl) (by decide) ?_
            exact (ih (n - 1) (by omega)) ((pI t c0 6 r7)) v9  (by omega) hq8 (by omega)
  refine r_aload_n C (j := 0) (oDec_at oX4_setStep 0 rfl) rfl rfl ?_
  refine r_iload_n C (j := 1) (oDec_at oX4_setStep 1 rfl) rfl rfl ?_
  refine r_callVi C oCl4 hk0 miX4_holds mlX4_52 (ct9_X4_holds l E (s) c0 hk0 a1 ) (by decide) rfl rfl rfl (Nat.le_of_ble_eq_true rfl) (oDec_at oX4_setStep 2 rfl) (fun r11 u10 pu10 fu10 => ?_)
  try dsimp only at pu10
  obtain ⟨pu10_0, pu10_1, pu10_2⟩ := pu10
  have hxu10 := oFr_nil fu10; subst hxu10
  have rr11 := n_rng r11
  refine r_if_ne C 9 (oDec_at oX4_setStep 3 rfl) (by decide) (fun cd12 => ?_) (fun cd12 => ?_)
  · skip
    refine r_aload_n C (j := 0) (oDec_at oX4_setStep 5 rfl) rfl rfl ?_
    refine r_getR (k := 0) (b := 1) C oCl4 hk0 (by decide) flX4_9 rfl rfl rfl (oDec_at oX4_setStep 6 rfl) ?_
    refine r_iload_n C (j := 1) (oDec_at oX4_setStep 7 rfl) rfl rfl ?_
    refine r_iload_n C (j := 2) (oDec_at oX4_setStep 8 rfl) rfl rfl ?_
    refine r_iast (n := 24) (lo := (-2147483648)) (hi := 2147483647) C (kr4_1 hk0) (by decide) rfl rfl ⟨by omega, by omega⟩ (by decide) rfl rfl rfl rfl (n_rng _) (oDec_at oX4_setStep 9 rfl) ?_
    have hq13 : owLN ((pI s (c0 + 1) a1.toNatClampNeg a2)) := owLN_st hp0 hk0 (by omega)
    refine r_aload_n C (j := 0) (oDec_at oX4_setStep 10 rfl) rfl rfl ?_
    refine r_pc C 17 rfl ?_
    refine r_iconst C (oDec_at oX4_setStep 11 rfl) (v := km1) (by rw [qkm1]; rfl) ?_
    refine r_puti (k := 6) (lo := (-2147483648)) (hi := 2147483647) C oCl4 hk0 (by decide) flX4_24 rfl rfl rfl rfl rfl rfl rfl rfl (n_rng _) (oDec_at oX4_setStep 12 rfl) ?_
    have hq14 : owLN ((pI (pI s (c0 + 1) a1.toNatClampNeg a2) c0 6 km1)) := owLN_op hq13 hk0 (by omega)
    refine r_iconst C (oDec_at oX4_setStep 13 rfl) (v := k0) (by rw [qk0]; rfl) ?_
    refine r_istore_n C (lv' := [(0, .ref (oad E c0)), (1, .int a1), (2, .int a2), (3, .int k0)]) [1, 2, 3, 0] (oDec_at oX4_setStep 14 rfl) rfl (by decide) rfl ?_
    refine r_pick C [0, 3] rfl ?_
    exact (key (25 - k0.toInt).toNat) ((pI (pI s (c0 + 1) a1.toNatClampNeg a2) c0 6 km1)) k0  (by omega) hq14 (by omega)
  · skip
    exact r_vret C (oDec_at oX4_setStep 4 rfl) ⟨rfl, hp0⟩
