set_option maxHeartbeats 4000000 in
set_option maxRecDepth 100000 in
theorem ct4_X8_at (l : Launch) (E : oE) (s : oS) (a1 : Int32) (g : Int → Int) (a : Int) (hp0 : a1.toInt = a) (hp1 : oqX g s) : oMet l 1 yX8_at cX8_at 2 (some .int) [] E s [.ref (oad E 1), .int a1] (oPi (fun r u => (r.toInt = g a) ∧ (0 ≤ a1.toInt ∧ a1.toInt < (s.1 1 1).toInt → 0 ≤ r.toInt ∧ r.toInt ≤ 255) ∧ (-1 ≤ r.toInt ∧ r.toInt ≤ 255) ∧ (r.toInt ≠ -1 → 0 ≤ a1.toInt ∧ a1.toInt < (s.1 1 1).toInt ∧ a1.toInt ≤ 1599))) := by
  refine oMet.of (lv := [(0, .ref (oad E 1)), (1, .int a1)]) (by decide +kernel) (Nat.le_of_ble_eq_true rfl) rfl (fun J C hT => ?_)
  have C : oC l 1 cX8_at RX8 2 (some .int) [] E s (oPi (fun r u => (r.toInt = g a) ∧ (0 ≤ a1.toInt ∧ a1.toInt < (s.1 1 1).toInt → 0 ≤ r.toInt ∧ r.toInt ≤ 255) ∧ (-1 ≤ r.toInt ∧ r.toInt ≤ 255) ∧ (r.toInt ≠ -1 → 0 ≤ a1.toInt ∧ a1.toInt < (s.1 1 1).toInt ∧ a1.toInt ≤ 1599))) J := C
  obtain ⟨km1, qkm1⟩ : ∃ z : Int32, z = (-1) := ⟨_, rfl⟩
  have ekm1 : km1.toInt = (-1) := by rw [qkm1]; rfl
  have rg1 := n_rng a1
  have ht1 : (0 : Int) ≤ (s.1 1 1).toInt ∧ (s.1 1 1).toInt ≤ 1600 := hT.1 1 1
  refine r_iload_n C (j := 1) (oDec_at oX8_at 0 rfl) rfl rfl ?_
  refine r_if_lt C 21 (oDec_at oX8_at 1 rfl) (by decide) (fun cd1 => ?_) (fun cd1 => ?_)
  · skip
    have hgn := oqX_no hp1 (a := a) (by omega)
    refine r_iconst C (oDec_at oX8_at 11 rfl) (v := km1) (by rw [qkm1]; rfl) ?_
    exact r_iret C (oDec_at oX8_at 12 rfl) ⟨_, rfl, ⟨by omega, by omega, by omega, by omega⟩⟩
  · skip
    refine r_iload_n C (j := 1) (oDec_at oX8_at 2 rfl) rfl rfl ?_
    refine r_aload_n C (j := 0) (oDec_at oX8_at 3 rfl) rfl rfl ?_
    obtain ⟨v2, ev2⟩ : ∃ z : Int32, (s).1 1 1 = z := ⟨_, rfl⟩
    have gv2 : (s.1 1 1).toInt = v2.toInt := congrArg Int32.toInt (ev2)
    refine r_geti (k := 1) (lo := 0) (hi := 1600) C v2 oCl8 rfl (by decide) flX8_15 rfl rfl (ev2) rfl rfl (oDec_at oX8_at 4 rfl) (fun b3 b3h => ?_)
    refine r_icmp_ge C 21 (oDec_at oX8_at 5 rfl) (by decide) (fun cd4 => ?_) (fun cd4 => ?_)
    · skip
      have hgn := oqX_no hp1 (a := a) (by omega)
      refine r_iconst C (oDec_at oX8_at 11 rfl) (v := km1) (by rw [qkm1]; rfl) ?_
      exact r_iret C (oDec_at oX8_at 12 rfl) ⟨_, rfl, ⟨by omega, by omega, by omega, by omega⟩⟩
    · skip
      refine r_aload_n C (j := 0) (oDec_at oX8_at 6 rfl) rfl rfl ?_
      refine r_getF (k := 0) (b := 2) C oCl8 rfl (by decide) flX8_11 rfl rfl rfl (oDec_at oX8_at 7 rfl) ?_
      refine r_iload_n C (j := 1) (oDec_at oX8_at 8 rfl) rfl rfl ?_
      obtain ⟨v6, ev6⟩ : ∃ z : Int32, (s).1 2 a1.toNatClampNeg = z := ⟨_, rfl⟩
      have gv6 : (s.1 2 a1.toNatClampNeg).toInt = v6.toInt := congrArg Int32.toInt (ev6)
      refine r_iald (n := 1600) (lo := 0) (hi := 255) C v6 rfl (by decide) rfl rfl ⟨by omega, by omega⟩ (by decide) ev6 rfl rfl (oDec_at oX8_at 9 rfl) (fun b5 b5h => ?_)
      have hga := oqX_at hp1 ev6 (a := a) (by omega) (by omega) (by omega)
      refine r_goto C (tgt := 22) (oDec_at oX8_at 10 rfl) (by decide) ?_
      exact r_iret C (oDec_at oX8_at 12 rfl) ⟨_, rfl, ⟨by omega, by omega, by omega, by omega⟩⟩
set_option maxHeartbeats 4000000 in
set_option maxRecDepth 100000 in
theorem ct4_X11_nextCheck (l : Launch) (E : oE) (s : oS) (a0 : Int32) (a1 : Int32)  (hp0 : 0 ≤ a0.toInt ∧ a0.toInt ≤ 250) (hp1 : 0 ≤ a1.toInt ∧ a1.toInt ≤ 255) : oMet l 1 yX11_nextCheck cX11_nextCheck 2 (some .int) [] E s [.int a0, .int a1] (oPi (fun r u => (r.toInt = (7 * a0.toInt + a1.toInt) % 251) ∧ (0 ≤ r.toInt ∧ r.toInt ≤ 250))) := by
  refine oMet.of (lv := [(0, .int a0), (1, .int a1)]) (by decide +kernel) (Nat.le_of_ble_eq_true rfl) rfl (fun J C hT => ?_)
  have C : oC l 1 cX11_nextCheck RX11 2 (some .int) [] E s (oPi (fun r u => (r.toInt = (7 * a0.toInt + a1.toInt) % 251) ∧ (0 ≤ r.toInt ∧ r.toInt ≤ 250))) J := C
  obtain ⟨k7, qk7⟩ : ∃ z : Int32, z = 7 := ⟨_, rfl⟩
  have ek7 : k7.toInt = 7 := by rw [qk7]; rfl
  obtain ⟨k251, qk251⟩ : ∃ z : Int32, z = 251 := ⟨_, rfl⟩
  have ek251 : k251.toInt = 251 := by rw [qk251]; rfl
  have rg0 := n_rng a0
  have rg1 := n_rng a1
  refine r_bipush C (oDec_at oX11_nextCheck 0 rfl) (v := k7) (by rw [qk7]; rfl) ?_
  refine r_iload_n C (j := 0) (oDec_at oX11_nextCheck 1 rfl) rfl rfl ?_
  obtain ⟨v1, ev1⟩ : ∃ z : Int32, z = k7 * a0 := ⟨_, rfl⟩
  have hv1 : v1.toInt = 7 * a0.toInt := n_mulK' 7 ev1 ek7 (by omega) (by omega)
  refine r_imul C v1 (oDec_at oX11_nextCheck 2 rfl) ev1 ?_
  refine r_iload_n C (j := 1) (oDec_at oX11_nextCheck 3 rfl) rfl rfl ?_
  obtain ⟨v2, ev2⟩ : ∃ z : Int32, z = v1 + a1 := ⟨_, rfl⟩
  have hv2 : v2.toInt = v1.toInt + a1.toInt := n_add ev2 (by omega) (by omega)
  refine r_iadd C v2 (oDec_at oX11_nextCheck 4 rfl) ev2 ?_
  refine r_sipush C (oDec_at oX11_nextCheck 5 rfl) (v := k251) (by rw [qk251]; rfl) ?_
  refine r_pc C 9 rfl ?_
  obtain ⟨v3, ev3⟩ : ∃ z : Int32, z = v2 - v2 / k251 * k251 := ⟨_, rfl⟩
  have hv3 := (n_rem (k := 251) ev3 ek251 (by decide)).1 (by omega)
  refine r_irem C v3 (oDec_at oX11_nextCheck 6 rfl) (n_ne0 (by omega)) ev3 ?_
  exact r_iret C (oDec_at oX11_nextCheck 7 rfl) ⟨_, rfl, ⟨by omega, by omega⟩⟩
set_option maxHeartbeats 4000000 in
set_option maxRecDepth 100000 in
theorem ct4_X4_add (l : Launch) (E : oE) (s : oS) (c0 : Nat) (hk0 : okd c0 = 4) (a1 : Int32) (a2 : Int32)   : oMet l 1 yX4_add cX4_add 4 (some .boolean) [(4, 4), (4, 5), (4, 6), (4, 7), (16, 9999), (17, 9999), (18, 9999), (19, 9999)] E s [.ref (oad E c0), .int a1, .int a2] (oPi (fun r u => (0 ≤ r.toInt ∧ r.toInt ≤ 1) ∧ ((r.toInt = 1 ∧ -1 ≤ a1.toInt ∧ a1.toInt ≤ 28 ∧ 1 ≤ a2.toInt ∧ a2.toInt ≤ 16 ∧ (s.1 c0 4).toInt ≤ 23 ∧ (s.1 c0 5).toInt + a2.toInt ≤ 96 ∧ (u.1 c0 4).toInt = (s.1 c0 4).toInt + 1 ∧ (u.1 c0 5).toInt = (s.1 c0 5).toInt + a2.toInt) ∨ (r.toInt = 0 ∧ (a1.toInt < -1 ∨ 28 < a1.toInt ∨ a2.toInt < 1 ∨ 16 < a2.toInt ∨ 24 ≤ (s.1 c0 4).toInt ∨ 96 < (s.1 c0 5).toInt + a2.toInt) ∧ (u.1 c0 4).toInt = (s.1 c0 4).toInt ∧ (u.1 c0 5).toInt = (s.1 c0 5).toInt)))) := by
  refine oMet.of (lv := [(0, .ref (oad E c0)), (1, .int a1), (2, .int a2)]) (by decide +kernel) (Nat.le_of_ble_eq_true rfl) rfl (fun J C hT => ?_)
  have C : oC l 1 cX4_add RX4 4 (some .boolean) [(4, 4), (4, 5), (4, 6), (4, 7), (16, 9999), (17, 9999), (18, 9999), (19, 9999)] E s (oPi (fun r u => (0 ≤ r.toInt ∧ r.toInt ≤ 1) ∧ ((r.toInt = 1 ∧ -1 ≤ a1.toInt ∧ a1.toInt ≤ 28 ∧ 1 ≤ a2.toInt ∧ a2.toInt ≤ 16 ∧ (s.1 c0 4).toInt ≤ 23 ∧ (s.1 c0 5).toInt + a2.toInt ≤ 96 ∧ (u.1 c0 4).toInt = (s.1 c0 4).toInt + 1 ∧ (u.1 c0 5).toInt = (s.1 c0 5).toInt + a2.toInt) ∨ (r.toInt = 0 ∧ (a1.toInt < -1 ∨ 28 < a1.toInt ∨ a2.toInt < 1 ∨ 16 < a2.toInt ∨ 24 ≤ (s.1 c0 4).toInt ∨ 96 < (s.1 c0 5).toInt + a2.toInt) ∧ (u.1 c0 4).toInt = (s.1 c0 4).toInt ∧ (u.1 c0 5).toInt = (s.1 c0 5).toInt)))) J := C
  obtain ⟨km1, qkm1⟩ : ∃ z : Int32, z = (-1) := ⟨_, rfl⟩
  have ekm1 : km1.toInt = (-1) := by rw [qkm1]; rfl
  obtain ⟨k0, qk0⟩ : ∃ z : Int32, z = 0 := ⟨_, rfl⟩
  have ek0 : k0.toInt = 0 := by rw [qk0]; rfl
  obtain ⟨k1, qk1⟩ : ∃ z : Int32, z = 1 := ⟨_, rfl⟩
  have ek1 : k1.toInt = 1 := by rw [qk1]; rfl
  obtain ⟨k2, qk2⟩ : ∃ z : Int32, z = 2 := ⟨_, rfl⟩
  have ek2 : k2.toInt = 2 := by rw [qk2]; rfl
  obtain ⟨k16, qk16⟩ : ∃ z : Int32, z = 16 := ⟨_, rfl⟩
  have ek16 : k16.toInt = 16 := by rw [qk16]; rfl
  obtain ⟨k24, qk24⟩ : ∃ z : Int32, z = 24 := ⟨_, rfl⟩
  have ek24 : k24.toInt = 24 := by rw [qk24]; rfl
  obtain ⟨k28, qk28⟩ : ∃ z : Int32, z = 28 := ⟨_, rfl⟩
  have ek28 : k28.toInt = 28 := by rw [qk28]; rfl
  obtain ⟨k96, qk96⟩ : ∃ z : Int32, z = 96 := ⟨_, rfl⟩
  have ek96 : k96.toInt = 96 := by rw [qk96]; rfl
  have rg1 := n_rng a1
  have rg2 := n_rng a2
  have key : ∀ n : Nat, (∀ (t : oS) (x3 : Int32), (1 ≤ a2.toInt ∧ a2.toInt ≤ 16) → ((t.1 c0 4).toInt = (s.1 c0 4).toInt) → ((t.1 c0 5).toInt = (s.1 c0 5).toInt) → ((s.1 c0 4).toInt ≤ 23) → ((s.1 c0 5).toInt + a2.toInt ≤ 96) → ((s.1 c0 5).toInt ≤ x3.toInt ∧ x3.toInt ≤ (s.1 c0 5).toInt + a2.toInt) → (0 ≤ (s.1 c0 5).toInt) → (-1 ≤ a1.toInt ∧ a1.toInt ≤ 28) → (s.1 c0 5).toInt + a2.toInt - x3.toInt + 1 ≤ (n : Int) → J t 84 [(0, .ref (oad E c0)), (1, .int a1), (2, .int a2), (3, .int x3)] []) := by
    intro n
    induction n using Nat.strongRecOn with
    | _ n ih =>
      skip
      · intro t x3  iv0 iv1 iv2 iv3 iv4 iv5 iv6 iv7 hmu
        have rx3 := n_rng x3
        refine r_iload_n C (j := 3) (oDec_at oX4_add 48 rfl) rfl rfl ?_
        refine r_aload_n C (j := 0) (oDec_at oX4_add 49 rfl) rfl rfl ?_
        obtain ⟨v1, ev1⟩ : ∃ z : Int32, (t).1 c0 5 = z := ⟨_, rfl⟩
        have gv1 : (t.1 c0 5).toInt = v1.toInt := congrArg Int32.toInt (ev1)
        refine r_geti (k := 5) (lo := 0) (hi := 96) C v1 oCl4 hk0 (by decide) flX4_31 rfl rfl (ev1) rfl rfl (oDec_at oX4_add 50 rfl) (fun b2 b2h => ?_)
        refine r_iload_n C (j := 2) (oDec_at oX4_add 51 rfl) rfl rfl ?_
        obtain ⟨v3, ev3⟩ : ∃ z : Int32, z = v1 + a2 := ⟨_, rfl⟩
        have hv3 : v3.toInt = v1.toInt + a2.toInt := n_add ev3 (by omega) (by omega)
        refine r_iadd C v3 (oDec_at oX4_add 52 rfl) ev3 ?_
        refine r_icmp_ge C 110 (oDec_at oX4_add 53 rfl) (by decide) (fun cd4 => ?_) (fun cd4 => ?_)
        · skip
          refine r_aload_n C (j := 0) (oDec_at oX4_add 62 rfl) rfl rfl ?_
          obtain ⟨v5, ev5⟩ : ∃ z : Int32, (t).1 c0 6 = z := ⟨_, rfl⟩
          have gv5 : (t.1 c0 6).toInt = v5.toInt := congrArg Int32.toInt (ev5)
          have rv5 := n_rng v5
          refine r_geti (k := 6) (lo := (-2147483648)) (hi := 2147483647) C v5 oCl4 hk0 (by decide) flX4_24 rfl rfl (ev5) rfl rfl (oDec_at oX4_add 63 rfl) (fun _ _ => ?_)
          refine r_iconst C (oDec_at oX4_add 64 rfl) (v := km1) (by rw [qkm1]; rfl) ?_
          refine r_icmp_ne C 123 (oDec_at oX4_add 65 rfl) (by decide) (fun cd6 => ?_) (fun cd6 => ?_)
          · skip
            refine r_aload_n C (j := 0) (oDec_at oX4_add 69 rfl) rfl rfl ?_
            refine r_aload_n C (j := 0) (oDec_at oX4_add 70 rfl) rfl rfl ?_
            obtain ⟨v7, ev7⟩ : ∃ z : Int32, (t).1 c0 7 = z := ⟨_, rfl⟩
            have gv7 : (t.1 c0 7).toInt = v7.toInt := congrArg Int32.toInt (ev7)
            refine r_geti (k := 7) (lo := 0) (hi := 1) C v7 oCl4 hk0 (by decide) flX4_34 rfl rfl (ev7) rfl rfl (oDec_at oX4_add 71 rfl) (fun b8 b8h => ?_)
            refine r_if_ne C 138 (oDec_at oX4_add 72 rfl) (by decide) (fun cd9 => ?_) (fun cd9 => ?_)
            · skip
              refine r_iconst C (oDec_at oX4_add 78 rfl) (v := k1) (by rw [qk1]; rfl) ?_
              refine r_goto C (tgt := 143) (oDec_at oX4_add 79 rfl) (by decide) ?_
              refine r_puti (k := 7) (lo := 0) (hi := 1) C oCl4 hk0 (by decide) flX4_34 rfl rfl rfl rfl rfl (n_bool (by omega)) (n_fitz (by omega)) rfl ⟨by omega, by omega⟩ (oDec_at oX4_add 81 rfl) ?_
              refine r_aload_n C (j := 0) (oDec_at oX4_add 82 rfl) rfl rfl ?_
              refine r_dup C (oDec_at oX4_add 83 rfl) rfl ?_
              refine r_geti (k := 5) (lo := 0) (hi := 96) C v1 oCl4 hk0 (by decide) flX4_31 rfl rfl (((pI_ne (a := c0) (b := 5) (c := c0) (k := 7) _ _ (Or.inr (by decide)))).trans (ev1)) rfl rfl (oDec_at oX4_add 84 rfl) (fun _ _ => ?_)
              refine r_iload_n C (j := 2) (oDec_at oX4_add 85 rfl) rfl rfl ?_
              refine r_pc C 152 rfl ?_
              obtain ⟨v10, ev10⟩ : ∃ z : Int32, z = v1 + a2 := ⟨_, rfl⟩
              have hv10 : v10.toInt = v1.toInt + a2.toInt := n_add ev10 (by omega) (by omega)
              refine r_iadd C v10 (oDec_at oX4_add 86 rfl) ev10 ?_
              refine r_puti (k := 5) (lo := 0) (hi := 96) C oCl4 hk0 (by decide) flX4_31 rfl rfl rfl rfl rfl rfl rfl rfl ⟨by omega, by omega⟩ (oDec_at oX4_add 87 rfl) ?_
              refine r_aload_n C (j := 0) (oDec_at oX4_add 88 rfl) rfl rfl ?_
              refine r_dup C (oDec_at oX4_add 89 rfl) rfl ?_
              obtain ⟨v11, ev11⟩ : ∃ z : Int32, ((pI (pI t c0 7 k1) c0 5 v10)).1 c0 4 = z := ⟨_, rfl⟩
              have gv11 : (t.1 c0 4).toInt = v11.toInt := congrArg Int32.toInt ((((pI_ne (a := c0) (b := 4) (c := c0) (k := 5) _ _ (Or.inr (by decide)))).trans ((pI_ne (a := c0) (b := 4) (c := c0) (k := 7) _ _ (Or.inr (by decide))))).symm.trans ev11)
              have ggv11 : (((pI (pI t c0 7 k1) c0 5 v10)).1 c0 4).toInt = v11.toInt := congrArg Int32.toInt ev11
              refine r_geti (k := 4) (lo := 0) (hi := 24) C v11 oCl4 hk0 (by decide) flX4_28 rfl rfl (ev11) rfl rfl (oDec_at oX4_add 90 rfl) (fun b12 b12h => ?_)
              refine r_iconst C (oDec_at oX4_add 91 rfl) (v := k1) (by rw [qk1]; rfl) ?_
              refine r_pc C 162 rfl ?_
              obtain ⟨v13, ev13⟩ : ∃ z : Int32, z = v11 + k1 := ⟨_, rfl⟩
              have hv13 : v13.toInt = v11.toInt + k1.toInt := n_add ev13 (by omega) (by omega)
              refine r_iadd C v13 (oDec_at oX4_add 92 rfl) ev13 ?_
              refine r_puti (k := 4) (lo := 0) (hi := 24) C oCl4 hk0 (by decide) flX4_28 rfl rfl rfl rfl rfl rfl rfl rfl ⟨by omega, by omega⟩ (oDec_at oX4_add 93 rfl) ?_
              refine r_iconst C (oDec_at oX4_add 94 rfl) (v := k1) (by rw [qk1]; rfl) ?_
              have lk14 : (((pI (pI (pI t c0 7 k1) c0 5 v10) c0 4 v13)).1 c0 4).toInt = v13.toInt := congrArg Int32.toInt ((pI_self _ _ _ _))
              have lk15 : (((pI (pI (pI t c0 7 k1) c0 5 v10) c0 4 v13)).1 c0 5).toInt = v10.toInt := congrArg Int32.toInt (((pI_ne (a := c0) (b := 5) (c := c0) (k := 4) _ _ (Or.inr (by decide)))).trans ((pI_self _ _ _ _)))
              exact r_zret C (n_bool (by omega)) (oDec_at oX4_add 95 rfl) ⟨_, rfl, ⟨by omega, by omega⟩⟩
            · skip
              refine r_iload_n C (j := 2) (oDec_at oX4_add 73 rfl) rfl rfl ?_
              refine r_iconst C (oDec_at oX4_add 74 rfl) (v := k2) (by rw [qk2]; rfl) ?_
              obtain ⟨v16, ev16⟩ : ∃ z : Int32, z = a2 - a2 / k2 * k2 := ⟨_, rfl⟩
              have hv16 := n_rem (k := 2) ev16 ek2 (by decide)
              have rv16 := n_rng v16
              refine r_irem C v16 (oDec_at oX4_add 75 rfl) (n_ne0 (by omega)) ev16 ?_
              refine r_iconst C (oDec_at oX4_add 76 rfl) (v := k1) (by rw [qk1]; rfl) ?_
              refine r_icmp_ne C 142 (oDec_at oX4_add 77 rfl) (by decide) (fun cd17 => ?_) (fun cd17 => ?_)
              · skip
                refine r_iconst C (oDec_at oX4_add 80 rfl) (v := k0) (by rw [qk0]; rfl) ?_
                refine r_puti (k := 7) (lo := 0) (hi := 1) C oCl4 hk0 (by decide) flX4_34 rfl rfl rfl rfl rfl (n_bool (by omega)) (n_fitz (by omega)) rfl ⟨by omega, by omega⟩ (oDec_at oX4_add 81 rfl) ?_
                refine r_aload_n C (j := 0) (oDec_at oX4_add 82 rfl) rfl rfl ?_
                refine r_dup C (oDec_at oX4_add 83 rfl) rfl ?_
                refine r_geti (k := 5) (lo := 0) (hi := 96) C v1 oCl4 hk0 (by decide) flX4_31 rfl rfl (((pI_ne (a := c0) (b := 5) (c := c0) (k := 7) _ _ (Or.inr (by decide)))).trans (ev1)) rfl rfl (oDec_at oX4_add 84 rfl) (fun _ _ => ?_)
                refine r_iload_n C (j := 2) (oDec_at oX4_add 85 rfl) rfl rfl ?_
                refine r_pc C 152 rfl ?_
                obtain ⟨v18, ev18⟩ : ∃ z : Int32, z = v1 + a2 := ⟨_, rfl⟩
                have hv18 : v18.toInt = v1.toInt + a2.toInt := n_add ev18 (by omega) (by omega)
                refine r_iadd C v18 (oDec_at oX4_add 86 rfl) ev18 ?_
                refine r_puti (k := 5) (lo := 0) (hi := 96) C oCl4 hk0 (by decide) flX4_31 rfl rfl rfl rfl rfl rfl rfl rfl ⟨by omega, by omega⟩ (oDec_at oX4_add 87 rfl) ?_
                refine r_aload_n C (j := 0) (oDec_at oX4_add 88 rfl) rfl rfl ?_
                refine r_dup C (oDec_at oX4_add 89 rfl) rfl ?_
                obtain ⟨v19, ev19⟩ : ∃ z : Int32, ((pI (pI t c0 7 k0) c0 5 v18)).1 c0 4 = z := ⟨_, rfl⟩
                have gv19 : (t.1 c0 4).toInt = v19.toInt := congrArg Int32.toInt ((((pI_ne (a := c0) (b := 4) (c := c0) (k := 5) _ _ (Or.inr (by decide)))).trans ((pI_ne (a := c0) (b := 4) (c := c0) (k := 7) _ _ (Or.inr (by decide))))).symm.trans ev19)
                have ggv19 : (((pI (pI t c0 7 k0) c0 5 v18)).1 c0 4).toInt = v19.toInt := congrArg Int32.toInt ev19
                refine r_geti (k := 4) (lo := 0) (hi := 24) C v19 oCl4 hk0 (by decide) flX4_28 rfl rfl (ev19) rfl rfl (oDec_at oX4_add 90 rfl) (fun b20 b20h => ?_)
                refine r_iconst C (oDec_at oX4_add 91 rfl) (v := k1) (by rw [qk1]; rfl) ?_
                refine r_pc C 162 rfl ?_
                obtain ⟨v21, ev21⟩ : ∃ z : Int32, z = v19 + k1 := ⟨_, rfl⟩
                have hv21 : v21.toInt = v19.toInt + k1.toInt := n_add ev21 (by omega) (by omega)
                refine r_iadd C v21 (oDec_at oX4_add 92 rfl) ev21 ?_
                refine r_puti (k := 4) (lo := 0) (hi := 24) C oCl4 hk0 (by decide) flX4_28 rfl rfl rfl rfl rfl rfl rfl rfl ⟨by omega, by omega⟩ (oDec_at oX4_add 93 rfl) ?_
                refine r_iconst C (oDec_at oX4_add 94 rfl) (v := k1) (by rw [qk1]; rfl) ?_
                have lk22 : (((pI (pI (pI t c0 7 k0) c0 5 v18) c0 4 v21)).1 c0 4).toInt = v21.toInt := congrArg Int32.toInt ((pI_self _ _ _ _))
                have lk23 : (((pI (pI (pI t c0 7 k0) c0 5 v18) c0 4 v21)).1 c0 5).toInt = v18.toInt := congrArg Int32.toInt (((pI_ne (a := c0) (b := 5) (c := c0) (k := 4) _ _ (Or.inr (by decide)))).trans ((pI_self _ _ _ _)))
                exact r_zret C (n_bool (by omega)) (oDec_at oX4_add 95 rfl) ⟨_, rfl, ⟨by omega, by omega⟩⟩
              · skip
                refine r_iconst C (oDec_at oX4_add 78 rfl) (v := k1) (by rw [qk1]; rfl) ?_
                refine r_goto C (tgt := 143) (oDec_at oX4_add 79 rfl) (by decide) ?_
                refine r_puti (k := 7) (lo := 0) (hi := 1) C oCl4 hk0 (by decide) flX4_34 rfl rfl rfl rfl rfl (n_bool (by omega)) (n_fitz (by omega)) rfl ⟨by omega, by omega⟩ (oDec_at oX4_add 81 rfl) ?_
                refine r_aload_n C (j := 0) (oDec_at oX4_add 82 rfl) rfl rfl ?_
                refine r_dup C (oDec_at oX4_add 83 rfl) rfl ?_
                refine r_geti (k := 5) (lo := 0) (hi := 96) C v1 oCl4 hk0 (by decide) flX4_31 rfl rfl (((pI_ne (a := c0) (b := 5) (c := c0) (k := 7) _ _ (Or.inr (by decide)))).trans (ev1)) rfl rfl (oDec_at oX4_add 84 rfl) (fun _ _ => ?_)
                refine r_iload_n C (j := 2) (oDec_at oX4_add 85 rfl) rfl rfl ?_
                refine r_pc C 152 rfl ?_
                obtain ⟨v24, ev24⟩ : ∃ z : Int32, z = v1 + a2 := ⟨_, rfl⟩
                have hv24 : v24.toInt = v1.toInt + a2.toInt := n_add ev24 (by omega) (by omega)
                refine r_iadd C v24 (oDec_at oX4_add 86 rfl) ev24 ?_
                refine r_puti (k := 5) (lo := 0) (hi := 96) C oCl4 hk0 (by decide) flX4_31 rfl rfl rfl rfl rfl rfl rfl rfl ⟨by omega, by omega⟩ (oDec_at oX4_add 87 rfl) ?_
                refine r_aload_n C (j := 0) (oDec_at oX4_add 88 rfl) rfl rfl ?_
                refine r_dup C (oDec_at oX4_add 89 rfl) rfl ?_
                obtain ⟨v25, ev25⟩ : ∃ z : Int32, ((pI (pI t c0 7 k1) c0 5 v24)).1 c0 4 = z := ⟨_, rfl⟩
                have gv25 : (t.1 c0 4).toInt = v25.toInt := congrArg Int32.toInt ((((pI_ne (a := c0) (b := 4) (c := c0) (k := 5) _ _ (Or.inr (by decide)))).trans ((pI_ne (a := c0) (b := 4) (c := c0) (k := 7) _ _ (Or.inr (by decide))))).symm.trans ev25)
                have ggv25 : (((pI (pI t c0 7 k1) c0 5 v24)).1 c0 4).toInt = v25.toInt := congrArg Int32.toInt ev25
                refine r_geti (k := 4) (lo := 0) (hi := 24) C v25 oCl4 hk0 (by decide) flX4_28 rfl rfl (ev25) rfl rfl (oDec_at oX4_add 90 rfl) (fun b26 b26h => ?_)
                refine r_iconst C (oDec_at oX4_add 91 rfl) (v := k1) (by rw [qk1]; rfl) ?_
                refine r_pc C 162 rfl ?_
                obtain ⟨v27, ev27⟩ : ∃ z : Int32, z = v25 + k1 := ⟨_, rfl⟩
                have hv27 : v27.toInt = v25.toInt + k1.toInt := n_add ev27 (by omega) (by omega)
                refine r_iadd C v27 (oDec_at oX4_add 92 rfl) ev27 ?_
                refine r_puti (k := 4) (lo := 0) (hi := 24) C oCl4 hk0 (by decide) flX4_28 rfl rfl rfl rfl rfl rfl rfl rfl ⟨by omega, by omega⟩ (oDec_at oX4_add 93 rfl) ?_
                refine r_iconst C (oDec_at oX4_add 94 rfl) (v := k1) (by rw [qk1]; rfl) ?_
                have lk28 : (((pI (pI (pI t c0 7 k1) c0 5 v24) c0 4 v27)).1 c0 4).toInt = v27.toInt := congrArg Int32.toInt ((pI_self _ _ _ _))
                have lk29 : (((pI (pI (pI t c0 7 k1) c0 5 v24) c0 4 v27)).1 c0 5).toInt = v24.toInt := congrArg Int32.toInt (((pI_ne (a := c0) (b := 5) (c := c0) (k := 4) _ _ (Or.inr (by decide)))).trans ((pI_self _ _ _ _)))
                exact r_zret C (n_bool (by omega)) (oDec_at oX4_add 95 rfl) ⟨_, rfl, ⟨by omega, by omega⟩⟩
          · skip
            refine r_aload_n C (j := 0) (oDec_at oX4_add 66 rfl) rfl rfl ?_
            refine r_iload_n C (j := 1) (oDec_at oX4_add 67 rfl) rfl rfl ?_
            refine r_puti (k := 6) (lo := (-2147483648)) (hi := 2147483647) C oCl4 hk0 (by decide) flX4_24 rfl rfl rfl rfl rfl rfl rfl rfl (n_rng _) (oDec_at oX4_add 68 rfl) ?_
            refine r_aload_n C (j := 0) (oDec_at oX4_add 69 rfl) rfl rfl ?_
            refine r_aload_n C (j := 0) (oDec_at oX4_add 70 rfl) rfl rfl ?_
            obtain ⟨v30, ev30⟩ : ∃ z : Int32, ((pI t c0 6 a1)).1 c0 7 = z := ⟨_, rfl⟩
            have gv30 : (t.1 c0 7).toInt = v30.toInt := congrArg Int32.toInt (((pI_ne (a := c0) (b := 7) (c := c0) (k := 6) _ _ (Or.inr (by decide)))).symm.trans ev30)
            have ggv30 : (((pI t c0 6 a1)).1 c0 7).toInt = v30.toInt := congrArg Int32.toInt ev30
            refine r_geti (k := 7) (lo := 0) (hi := 1) C v30 oCl4 hk0 (by decide) flX4_34 rfl rfl (ev30) rfl rfl (oDec_at oX4_add 71 rfl) (fun b31 b31h => ?_)
            refine r_pc C 128 rfl ?_
            refine r_if_ne C 138 (oDec_at oX4_add 72 rfl) (by decide) (fun cd32 => ?_) (fun cd32 => ?_)
            · skip
              refine r_iconst C (oDec_at oX4_add 78 rfl) (v := k1) (by rw [qk1]; rfl) ?_
              refine r_goto C (tgt := 143) (oDec_at oX4_add 79 rfl) (by decide) ?_
              refine r_puti (k := 7) (lo := 0) (hi := 1) C oCl4 hk0 (by decide) flX4_34 rfl rfl rfl rfl rfl (n_bool (by omega)) (n_fitz (by omega)) rfl ⟨by omega, by omega⟩ (oDec_at oX4_add 81 rfl) ?_
              refine r_aload_n C (j := 0) (oDec_at oX4_add 82 rfl) rfl rfl ?_
              refine r_dup C (oDec_at oX4_add 83 rfl) rfl ?_
              refine r_geti (k := 5) (lo := 0) (hi := 96) C v1 oCl4 hk0 (by decide) flX4_31 rfl rfl (((pI_ne (a := c0) (b := 5) (c := c0) (k := 7) _ _ (Or.inr (by decide)))).trans (((pI_ne (a := c0) (b := 5) (c := c0) (k := 6) _ _ (Or.inr (by decide)))).trans (ev1))) rfl rfl (oDec_at oX4_add 84 rfl) (fun _ _ => ?_)
              refine r_iload_n C (j := 2) (oDec_at oX4_add 85 rfl) rfl rfl ?_
              refine r_pc C 152 rfl ?_
              obtain ⟨v33, ev33⟩ : ∃ z : Int32, z = v1 + a2 := ⟨_, rfl⟩
              have hv33 : v33.toInt = v1.toInt + a2.toInt := n_add ev33 (by omega) (by omega)
              refine r_iadd C v33 (oDec_at oX4_add 86 rfl) ev33 ?_
              refine r_puti (k := 5) (lo := 0) (hi := 96) C oCl4 hk0 (by decide) flX4_31 rfl rfl rfl rfl rfl rfl rfl rfl ⟨by omega, by omega⟩ (oDec_at oX4_add 87 rfl) ?_
              refine r_aload_n C (j := 0) (oDec_at oX4_add 88 rfl) rfl rfl ?_
              refine r_dup C (oDec_at oX4_add 89 rfl) rfl ?_
              obtain ⟨v34, ev34⟩ : ∃ z : Int32, ((pI (pI (pI t c0 6 a1) c0 7 k1) c0 5 v33)).1 c0 4 = z := ⟨_, rfl⟩
              have gv34 : (t.1 c0 4).toInt = v34.toInt := congrArg Int32.toInt ((((pI_ne (a := c0) (b := 4) (c := c0) (k := 5) _ _ (Or.inr (by decide)))).trans (((pI_ne (a := c0) (b := 4) (c := c0) (k := 7) _ _ (Or.inr (by decide)))).trans ((pI_ne (a := c0) (b := 4) (c := c0) (k := 6) _ _ (Or.inr (by decide)))))).symm.trans ev34)
              have ggv34 : (((pI (pI (pI t c0 6 a1) c0 7 k1) c0 5 v33)).1 c0 4).toInt = v34.toInt := congrArg Int32.toInt ev34
              refine r_geti (k := 4) (lo := 0) (hi := 24) C v34 oCl4 hk0 (by decide) flX4_28 rfl rfl (ev34) rfl rfl (oDec_at oX4_add 90 rfl) (fun b35 b35h => ?_)
              refine r_iconst C (oDec_at oX4_add 91 rfl) (v := k1) (by rw [qk1]; rfl) ?_
              refine r_pc C 162 rfl ?_
              obtain ⟨v36, ev36⟩ : ∃ z : Int32, z = v34 + k1 := ⟨_, rfl⟩
              have hv36 : v36.toInt = v34.toInt + k1.toInt := n_add ev36 (by omega) (by omega)
              refine r_iadd C v36 (oDec_at oX4_add 92 rfl) ev36 ?_
              refine r_puti (k := 4) (lo := 0) (hi := 24) C oCl4 hk0 (by decide) flX4_28 rfl rfl rfl rfl rfl rfl rfl rfl ⟨by omega, by omega⟩ (oDec_at oX4_add 93 rfl) ?_
              refine r_iconst C (oDec_at oX4_add 94 rfl) (v := k1) (by rw [qk1]; rfl) ?_
              have lk37 : (((pI (pI (pI (pI t c0 6 a1) c0 7 k1) c0 5 v33) c0 4 v36)).1 c0 4).toInt = v36.toInt := congrArg Int32.toInt ((pI_self _ _ _ _))
              have lk38 : (((pI (pI (pI (pI t c0 6 a1) c0 7 k1) c0 5 v33) c0 4 v36)).1 c0 5).toInt = v33.toInt := congrArg Int32.toInt (((pI_ne (a := c0) (b := 5) (c := c0) (k := 4) _ _ (Or.inr (by decide)))).trans ((pI_self _ _ _ _)))
              exact r_zret C (n_bool (by omega)) (oDec_at oX4_add 95 rfl) ⟨_, rfl, ⟨by omega, by omega⟩⟩
            · skip
              refine r_iload_n C (j := 2) (oDec_at oX4_add 73 rfl) rfl rfl ?_
              refine r_iconst C (oDec_at oX4_add 74 rfl) (v := k2) (by rw [qk2]; rfl) ?_
              obtain ⟨v39, ev39⟩ : ∃ z : Int32, z = a2 - a2 / k2 * k2 := ⟨_, rfl⟩
              have hv39 := n_rem (k := 2) ev39 ek2 (by decide)
              have rv39 := n_rng v39
              refine r_irem C v39 (oDec_at oX4_add 75 rfl) (n_ne0 (by omega)) ev39 ?_
              refine r_iconst C (oDec_at oX4_add 76 rfl) (v := k1) (by rw [qk1]; rfl) ?_
              refine r_icmp_ne C 142 (oDec_at oX4_add 77 rfl) (by decide) (fun cd40 => ?_) (fun cd40 => ?_)
              · skip
                refine r_iconst C (oDec_at oX4_add 80 rfl) (v := k0) (by rw [qk0]; rfl) ?_
                refine r_puti (k := 7) (lo := 0) (hi := 1) C oCl4 hk0 (by decide) flX4_34 rfl rfl rfl rfl rfl (n_bool (by omega)) (n_fitz (by omega)) rfl ⟨by omega, by omega⟩ (oDec_at oX4_add 81 rfl) ?_
                refine r_aload_n C (j := 0) (oDec_at oX4_add 82 rfl) rfl rfl ?_
                refine r_dup C (oDec_at oX4_add 83 rfl) rfl ?_
                refine r_geti (k := 5) (lo := 0) (hi := 96) C v1 oCl4 hk0 (by decide) flX4_31 rfl rfl (((pI_ne (a := c0) (b := 5) (c := c0) (k := 7) _ _ (Or.inr (by decide)))).trans (((pI_ne (a := c0) (b := 5) (c := c0) (k := 6) _ _ (Or.inr (by decide)))).trans (ev1))) rfl rfl (oDec_at oX4_add 84 rfl) (fun _ _ => ?_)
                refine r_iload_n C (j := 2) (oDec_at oX4_add 85 rfl) rfl rfl ?_
                refine r_pc C 152 rfl ?_
                obtain ⟨v41, ev41⟩ : ∃ z : Int32, z = v1 + a2 := ⟨_, rfl⟩
                have hv41 : v41.toInt = v1.toInt + a2.toInt := n_add ev41 (by omega) (by omega)
                refine r_iadd C v41 (oDec_at oX4_add 86 rfl) ev41 ?_
                refine r_puti (k := 5) (lo := 0) (hi := 96) C oCl4 hk0 (by decide) flX4_31 rfl rfl rfl rfl rfl rfl rfl rfl ⟨by omega, by omega⟩ (oDec_at oX4_add 87 rfl) ?_
                refine r_aload_n C (j := 0) (oDec_at oX4_add 88 rfl) rfl rfl ?_
                refine r_dup C (oDec_at oX4_add 89 rfl) rfl ?_
                obtain ⟨v42, ev42⟩ : ∃ z : Int32, ((pI (pI (pI t c0 6 a1) c0 7 k0) c0 5 v41)).1 c0 4 = z := ⟨_, rfl⟩
                have gv42 : (t.1 c0 4).toInt = v42.toInt := congrArg Int32.toInt ((((pI_ne (a := c0) (b := 4) (c := c0) (k := 5) _ _ (Or.inr (by decide)))).trans (((pI_ne (a := c0) (b := 4) (c := c0) (k := 7) _ _ (Or.inr (by decide)))).trans ((pI_ne (a := c0) (b := 4) (c := c0) (k := 6) _ _ (Or.inr (by decide)))))).symm.trans ev42)
                have ggv42 : (((pI (pI (pI t c0 6 a1) c0 7 k0) c0 5 v41)).1 c0 4).toInt = v42.toInt := congrArg Int32.toInt ev42
                refine r_geti (k := 4) (lo := 0) (hi := 24) C v42 oCl4 hk0 (by decide) flX4_28 rfl rfl (ev42) rfl rfl (oDec_at oX4_add 90 rfl) (fun b43 b43h => ?_)
                refine r_iconst C (oDec_at oX4_add 91 rfl) (v := k1) (by rw [qk1]; rfl) ?_
                refine r_pc C 162 rfl ?_
                obtain ⟨v44, ev44⟩ : ∃ z : Int32, z = v42 + k1 := ⟨_, rfl⟩
                have hv44 : v44.toInt = v42.toInt + k1.toInt := n_add ev44 (by omega) (by omega)
                refine r_iadd C v44 (oDec_at oX4_add 92 rfl) ev44 ?_
                refine r_puti (k := 4) (lo := 0) (hi := 24) C oCl4 hk0 (by decide) flX4_28 rfl rfl rfl rfl rfl rfl rfl rfl ⟨by omega, by omega⟩ (oDec_at oX4_add 93 rfl) ?_
                refine r_iconst C (oDec_at oX4_add 94 rfl) (v := k1) (by rw [qk1]; rfl) ?_
                have lk45 : (((pI (pI (pI (pI t c0 6 a1) c0 7 k0) c0 5 v41) c0 4 v44)).1 c0 4).toInt = v44.toInt := congrArg Int32.toInt ((pI_self _ _ _ _))
                have lk46 : (((pI (pI (pI (pI t c0 6 a1) c0 7 k0) c0 5 v41) c0 4 v44)).1 c0 5).toInt = v41.toInt := congrArg Int32.toInt (((pI_ne (a := c0) (b := 5) (c := c0) (k := 4) _ _ (Or.inr (by decide)))).trans ((pI_self _ _ _ _)))
                exact r_zret C (n_bool (by omega)) (oDec_at oX4_add 95 rfl) ⟨_, rfl, ⟨by omega, by omega⟩⟩
              · skip
                refine r_iconst C (oDec_at oX4_add 78 rfl) (v := k1) (by rw [qk1]; rfl) ?_
                refine r_goto C (tgt := 143) (oDec_at oX4_add 79 rfl) (by decide) ?_
                refine r_puti (k := 7) (lo := 0) (hi := 1) C oCl4 hk0 (by decide) flX4_34 rfl rfl rfl rfl rfl (n_bool (by omega)) (n_fitz (by omega)) rfl ⟨by omega, by omega⟩ (oDec_at oX4_add 81 rfl) ?_
                refine r_aload_n C (j := 0) (oDec_at oX4_add 82 rfl) rfl rfl ?_
                refine r_dup C (oDec_at oX4_add 83 rfl) rfl ?_
                refine r_geti (k := 5) (lo := 0) (hi := 96) C v1 oCl4 hk0 (by decide) flX4_31 rfl rfl (((pI_ne (a := c0) (b := 5) (c := c0) (k := 7) _ _ (Or.inr (by decide)))).trans (((pI_ne (a := c0) (b := 5) (c := c0) (k := 6) _ _ (Or.inr (by decide)))).trans (ev1))) rfl rfl (oDec_at oX4_add 84 rfl) (fun _ _ => ?_)
                refine r_iload_n C (j := 2) (oDec_at oX4_add 85 rfl) rfl rfl ?_
                refine r_pc C 152 rfl ?_
                obtain ⟨v47, ev47⟩ : ∃ z : Int32, z = v1 + a2 := ⟨_, rfl⟩
                have hv47 : v47.toInt = v1.toInt + a2.toInt := n_add ev47 (by omega) (by omega)
                refine r_iadd C v47 (oDec_at oX4_add 86 rfl) ev47 ?_
                refine r_puti (k := 5) (lo := 0) (hi := 96) C oCl4 hk0 (by decide) flX4_31 rfl rfl rfl rfl rfl rfl rfl rfl ⟨by omega, by omega⟩ (oDec_at oX4_add 87 rfl) ?_
                refine r_aload_n C (j := 0) (oDec_at oX4_add 88 rfl) rfl rfl ?_
                refine r_dup C (oDec_at oX4_add 89 rfl) rfl ?_
                obtain ⟨v48, ev48⟩ : ∃ z : Int32, ((pI (pI (pI t c0 6 a1) c0 7 k1) c0 5 v47)).1 c0 4 = z := ⟨_, rfl⟩
                have gv48 : (t.1 c0 4).toInt = v48.toInt := congrArg Int32.toInt ((((pI_ne (a := c0) (b := 4) (c := c0) (k := 5) _ _ (Or.inr (by decide)))).trans (((pI_ne (a := c0) (b := 4) (c := c0) (k := 7) _ _ (Or.inr (by decide)))).trans ((pI_ne (a := c0) (b := 4) (c := c0) (k := 6) _ _ (Or.inr (by decide)))))).symm.trans ev48)
                have ggv48 : (((pI (pI (pI t c0 6 a1) c0 7 k1) c0 5 v47)).1 c0 4).toInt = v48.toInt := congrArg Int32.toInt ev48
                refine r_geti (k := 4) (lo := 0) (hi := 24) C v48 oCl4 hk0 (by decide) flX4_28 rfl rfl (ev48) rfl rfl (oDec_at oX4_add 90 rfl) (fun b49 b49h => ?_)
                refine r_iconst C (oDec_at oX4_add 91 rfl) (v := k1) (by rw [qk1]; rfl) ?_
                refine r_pc C 162 rfl ?_
                obtain ⟨v50, ev50⟩ : ∃ z : Int32, z = v48 + k1 := ⟨_, rfl⟩
                have hv50 : v50.toInt = v48.toInt + k1.toInt := n_add ev50 (by omega) (by omega)
                refine r_iadd C v50 (oDec_at oX4_add 92 rfl) ev50 ?_
                refine r_puti (k := 4) (lo := 0) (hi := 24) C oCl4 hk0 (by decide) flX4_28 rfl rfl rfl rfl rfl rfl rfl rfl ⟨by omega, by omega⟩ (oDec_at oX4_add 93 rfl) ?_
                refine r_iconst C (oDec_at oX4_add 94 rfl) (v := k1) (by rw [qk1]; rfl) ?_
                have lk51 : (((pI (pI (pI (pI t c0 6 a1) c0 7 k1) c0 5 v47) c0 4 v50)).1 c0 4).toInt = v50.toInt := congrArg Int32.toInt ((pI_self _ _ _ _))
                have lk52 : (((pI (pI (pI (pI t c0 6 a1) c0 7 k1) c0 5 v47) c0 4 v50)).1 c0 5).toInt = v47.toInt := congrArg Int32.toInt (((pI_ne (a := c0) (b := 5) (c := c0) (k := 4) _ _ (Or.inr (by decide)))).trans ((pI_self _ _ _ _)))
                exact r_zret C (n_bool (by omega)) (oDec_at oX4_add 95 rfl) ⟨_, rfl, ⟨by omega, by omega⟩⟩
        · skip
          refine r_aload_n C (j := 0) (oDec_at oX4_add 54 rfl) rfl rfl ?_
          refine r_getR (k := 3) (b := 4) C oCl4 hk0 (by decide) flX4_21 rfl rfl rfl (oDec_at oX4_add 55 rfl) ?_
          refine r_iload_n C (j := 3) (oDec_at oX4_add 56 rfl) rfl rfl ?_
          refine r_aload_n C (j := 0) (oDec_at oX4_add 57 rfl) rfl rfl ?_
          obtain ⟨v53, ev53⟩ : ∃ z : Int32, (t).1 c0 4 = z := ⟨_, rfl⟩
          have gv53 : (t.1 c0 4).toInt = v53.toInt := congrArg Int32.toInt (ev53)
          refine r_geti (k := 4) (lo := 0) (hi := 24) C v53 oCl4 hk0 (by decide) flX4_28 rfl rfl (ev53) rfl rfl (oDec_at oX4_add 58 rfl) (fun b54 b54h => ?_)
          refine r_iast (n := 96) (lo := (-2147483648)) (hi := 2147483647) C (kr4_4 hk0) (by decide) rfl rfl ⟨by omega, by omega⟩ (by decide) rfl rfl rfl rfl (n_rng _) (oDec_at oX4_add 59 rfl) ?_
          refine r_pc C 104 rfl ?_
          obtain ⟨v55, ev55⟩ : ∃ z : Int32, x3 + Int32.ofInt 1 = z := ⟨_, rfl⟩
          have hv55 : v55.toInt = x3.toInt + 1 := n_inc ev55 (by decide) (by omega) (by omega)
          refine r_iinc C (j := 3) (lv' := [(0, .ref (oad E c0)), (1, .int a1), (2, .int a2), (3, .int v55)]) v55 [1, 2, 3, 0] (oDec_at oX4_add 60 rfl) rfl ev55 (by decide) rfl ?_
          refine r_goto C (tgt := 84) (oDec_at oX4_add 61 rfl) (by decide) ?_
          have lk56 : (((pI t (c0 + 4) x3.toNatClampNeg v53)).1 c0 4).toInt = v53.toInt := congrArg Int32.toInt (((pI_ne _ _ (Or.inl (okd_ne hk0 (kr4_4 hk0) (by decide))))).trans (ev53))
          have lk57 : (((pI t (c0 + 4) x3.toNatClampNeg v53)).1 c0 5).toInt = v1.toInt := congrArg Int32.toInt (((pI_ne _ _ (Or.inl (okd_ne hk0 (kr4_4 hk0) (by decide))))).trans (ev1))
          exact (ih (n - 1) (by omega)) ((pI t (c0 + 4) x3.toNatClampNeg v53)) v55  (by omega) (by omega) (by omega) (by omega) (by omega) (by omega) (by omega) (by omega) (by omega)
  refine r_iload_n C (j := 1) (oDec_at oX4_add 0 rfl) rfl rfl ?_
  refine r_iconst C (oDec_at oX4_add 1 rfl) (v := km1) (by rw [qkm1]; rfl) ?_
  refine r_icmp_lt C 22 (oDec_at oX4_add 2 rfl) (by decide) (fun cd58 => ?_) (fun cd58 => ?_)
  · skip
    refine r_iconst C (oDec_at oX4_add 12 rfl) (v := k0) (by rw [qk0]; rfl) ?_
    exact r_zret C (n_bool (by omega)) (oDec_at oX4_add 13 rfl) ⟨_, rfl, ⟨by omega, by omega⟩⟩
  · skip
    refine r_iload_n C (j := 1) (oDec_at oX4_add 3 rfl) rfl rfl ?_
    refine r_bipush C (oDec_at oX4_add 4 rfl) (v := k28) (by rw [qk28]; rfl) ?_
    refine r_icmp_gt C 22 (oDec_at oX4_add 5 rfl) (by decide) (fun cd59 => ?_) (fun cd59 => ?_)
    · skip
      refine r_iconst C (oDec_at oX4_add 12 rfl) (v := k0) (by rw [qk0]; rfl) ?_
      exact r_zret C (n_bool (by omega)) (oDec_at oX4_add 13 rfl) ⟨_, rfl, ⟨by omega, by omega⟩⟩
    · skip
      refine r_iload_n C (j := 2) (oDec_at oX4_add 6 rfl) rfl rfl ?_
      refine r_iconst C (oDec_at oX4_add 7 rfl) (v := k1) (by rw [qk1]; rfl) ?_
      refine r_icmp_lt C 22 (oDec_at oX4_add 8 rfl) (by decide) (fun cd60 => ?_) (fun cd60 => ?_)
      · skip
        refine r_iconst C (oDec_at oX4_add 12 rfl) (v := k0) (by rw [qk0]; rfl) ?_
        exact r_zret C (n_bool (by omega)) (oDec_at oX4_add 13 rfl) ⟨_, rfl, ⟨by omega, by omega⟩⟩
      · skip
        refine r_iload_n C (j := 2) (oDec_at oX4_add 9 rfl) rfl rfl ?_
        refine r_bipush C (oDec_at oX4_add 10 rfl) (v := k16) (by rw [qk16]; rfl) ?_
        refine r_icmp_le C 24 (oDec_at oX4_add 11 rfl) (by decide) (fun cd61 => ?_) (fun cd61 => ?_)
        · skip
          refine r_aload_n C (j := 0) (oDec_at oX4_add 14 rfl) rfl rfl ?_
          obtain ⟨v62, ev62⟩ : ∃ z : Int32, (s).1 c0 4 = z := ⟨_, rfl⟩
          have gv62 : (s.1 c0 4).toInt = v62.toInt := congrArg Int32.toInt (ev62)
          refine r_geti (k := 4) (lo := 0) (hi := 24) C v62 oCl4 hk0 (by decide) flX4_28 rfl rfl (ev62) rfl rfl (oDec_at oX4_add 15 rfl) (fun b63 b63h => ?_)
          refine r_bipush C (oDec_at oX4_add 16 rfl) (v := k24) (by rw [qk24]; rfl) ?_
          refine r_icmp_ge C 44 (oDec_at oX4_add 17 rfl) (by decide) (fun cd64 => ?_) (fun cd64 => ?_)
          · skip
            refine r_iconst C (oDec_at oX4_add 24 rfl) (v := k0) (by rw [qk0]; rfl) ?_
            have lk65 : ((s).1 c0 4).toInt = v62.toInt := congrArg Int32.toInt (ev62)
            exact r_zret C (n_bool (by omega)) (oDec_at oX4_add 25 rfl) ⟨_, rfl, ⟨by omega, by omega⟩⟩
          · skip
            refine r_aload_n C (j := 0) (oDec_at oX4_add 18 rfl) rfl rfl ?_
            obtain ⟨v66, ev66⟩ : ∃ z : Int32, (s).1 c0 5 = z := ⟨_, rfl⟩
            have gv66 : (s.1 c0 5).toInt = v66.toInt := congrArg Int32.toInt (ev66)
            refine r_geti (k := 5) (lo := 0) (hi := 96) C v66 oCl4 hk0 (by decide) flX4_31 rfl rfl (ev66) rfl rfl (oDec_at oX4_add 19 rfl) (fun b67 b67h => ?_)
            refine r_iload_n C (j := 2) (oDec_at oX4_add 20 rfl) rfl rfl ?_
            obtain ⟨v68, ev68⟩ : ∃ z : Int32, z = v66 + a2 := ⟨_, rfl⟩
            have hv68 : v68.toInt = v66.toInt + a2.toInt := n_add ev68 (by omega) (by omega)
            refine r_iadd C v68 (oDec_at oX4_add 21 rfl) ev68 ?_
            refine r_bipush C (oDec_at oX4_add 22 rfl) (v := k96) (by rw [qk96]; rfl) ?_
            refine r_icmp_le C 46 (oDec_at oX4_add 23 rfl) (by decide) (fun cd69 => ?_) (fun cd69 => ?_)
            · skip
              refine r_aload_n C (j := 0) (oDec_at oX4_add 26 rfl) rfl rfl ?_
              refine r_getR (k := 0) (b := 1) C oCl4 hk0 (by decide) flX4_9 rfl rfl rfl (oDec_at oX4_add 27 rfl) ?_
              refine r_aload_n C (j := 0) (oDec_at oX4_add 28 rfl) rfl rfl ?_
              refine r_geti (k := 4) (lo := 0) (hi := 24) C v62 oCl4 hk0 (by decide) flX4_28 rfl rfl (ev62) rfl rfl (oDec_at oX4_add 29 rfl) (fun _ _ => ?_)
              refine r_iload_n C (j := 1) (oDec_at oX4_add 30 rfl) rfl rfl ?_
              refine r_iast (n := 24) (lo := (-2147483648)) (hi := 2147483647) C (kr4_1 hk0) (by decide) rfl rfl ⟨by omega, by omega⟩ (by decide) rfl rfl rfl rfl (n_rng _) (oDec_at oX4_add 31 rfl) ?_
              refine r_pc C 56 rfl ?_
              refine r_aload_n C (j := 0) (oDec_at oX4_add 32 rfl) rfl rfl ?_
              refine r_getR (k := 1) (b := 2) C oCl4 hk0 (by decide) flX4_15 rfl rfl rfl (oDec_at oX4_add 33 rfl) ?_
              refine r_aload_n C (j := 0) (oDec_at oX4_add 34 rfl) rfl rfl ?_
              refine r_geti (k := 4) (lo := 0) (hi := 24) C v62 oCl4 hk0 (by decide) flX4_28 rfl rfl (((pI_ne _ _ (Or.inl (okd_ne hk0 (kr4_1 hk0) (by decide))))).trans (ev62)) rfl rfl (oDec_at oX4_add 35 rfl) (fun _ _ => ?_)
              refine r_iload_n C (j := 2) (oDec_at oX4_add 36 rfl) rfl rfl ?_
              refine r_iast (n := 24) (lo := (-2147483648)) (hi := 2147483647) C (kr4_2 hk0) (by decide) rfl rfl ⟨by omega, by omega⟩ (by decide) rfl rfl rfl rfl (n_rng _) (oDec_at oX4_add 37 rfl) ?_
              refine r_pc C 66 rfl ?_
              refine r_aload_n C (j := 0) (oDec_at oX4_add 38 rfl) rfl rfl ?_
              refine r_getR (k := 2) (b := 3) C oCl4 hk0 (by decide) flX4_18 rfl rfl rfl (oDec_at oX4_add 39 rfl) ?_
              refine r_aload_n C (j := 0) (oDec_at oX4_add 40 rfl) rfl rfl ?_
              refine r_geti (k := 4) (lo := 0) (hi := 24) C v62 oCl4 hk0 (by decide) flX4_28 rfl rfl (((pI_ne _ _ (Or.inl (okd_ne hk0 (kr4_2 hk0) (by decide))))).trans (((pI_ne _ _ (Or.inl (okd_ne hk0 (kr4_1 hk0) (by decide))))).trans (ev62))) rfl rfl (oDec_at oX4_add 41 rfl) (fun _ _ => ?_)
              refine r_aload_n C (j := 0) (oDec_at oX4_add 42 rfl) rfl rfl ?_
              refine r_geti (k := 5) (lo := 0) (hi := 96) C v66 oCl4 hk0 (by decide) flX4_31 rfl rfl (((pI_ne _ _ (Or.inl (okd_ne hk0 (kr4_2 hk0) (by decide))))).trans (((pI_ne _ _ (Or.inl (okd_ne hk0 (kr4_1 hk0) (by decide))))).trans (ev66))) rfl rfl (oDec_at oX4_add 43 rfl) (fun _ _ => ?_)
              refine r_pc C 78 rfl ?_
              refine r_iast (n := 24) (lo := (-2147483648)) (hi := 2147483647) C (kr4_3 hk0) (by decide) rfl rfl ⟨by omega, by omega⟩ (by decide) rfl rfl rfl rfl (n_rng _) (oDec_at oX4_add 44 rfl) ?_
              refine r_aload_n C (j := 0) (oDec_at oX4_add 45 rfl) rfl rfl ?_
              refine r_geti (k := 5) (lo := 0) (hi := 96) C v66 oCl4 hk0 (by decide) flX4_31 rfl rfl (((pI_ne _ _ (Or.inl (okd_ne hk0 (kr4_3 hk0) (by decide))))).trans (((pI_ne _ _ (Or.inl (okd_ne hk0 (kr4_2 hk0) (by decide))))).trans (((pI_ne _ _ (Or.inl (okd_ne hk0 (kr4_1 hk0) (by decide))))).trans (ev66)))) rfl rfl (oDec_at oX4_add 46 rfl) (fun _ _ => ?_)
              refine r_istore_n C (lv' := [(0, .ref (oad E c0)), (1, .int a1), (2, .int a2), (3, .int v66)]) [1, 2, 3, 0] (oDec_at oX4_add 47 rfl) rfl (by decide) rfl ?_
              have lk70 : (((pI (pI (pI s (c0 + 1) v62.toNatClampNeg a1) (c0 + 2) v62.toNatClampNeg a2) (c0 + 3) v62.toNatClampNeg v66)).1 c0 4).toInt = v62.toInt := congrArg Int32.toInt (((pI_ne _ _ (Or.inl (okd_ne hk0 (kr4_3 hk0) (by decide))))).trans (((pI_ne _ _ (Or.inl (okd_ne hk0 (kr4_2 hk0) (by decide))))).trans (((pI_ne _ _ (Or.inl (okd_ne hk0 (kr4_1 hk0) (by decide))))).trans (ev62))))
              have lk71 : (((pI (pI (pI s (c0 + 1) v62.toNatClampNeg a1) (c0 + 2) v62.toNatClampNeg a2) (c0 + 3) v62.toNatClampNeg v66)).1 c0 5).toInt = v66.toInt := congrArg Int32.toInt (((pI_ne _ _ (Or.inl (okd_ne hk0 (kr4_3 hk0) (by decide))))).trans (((pI_ne _ _ (Or.inl (okd_ne hk0 (kr4_2 hk0) (by decide))))).trans (((pI_ne _ _ (Or.inl (okd_ne hk0 (kr4_1 hk0) (by decide))))).trans (ev66))))
              exact (key ((s.1 c0 5).toInt + a2.toInt - v66.toInt + 1).toNat) ((pI (pI (pI s (c0 + 1) v62.toNatClampNeg a1) (c0 + 2) v62.toNatClampNeg a2) (c0 + 3) v62.toNatClampNeg v66)) v66  (by omega) (by omega) (by omega) (by omega) (by omega) (by omega) (by omega) (by omega) (by omega)
            · skip
              refine r_iconst C (oDec_at oX4_add 24 rfl) (v := k0) (by rw [qk0]; rfl) ?_
              have lk72 : ((s).1 c0 4).toInt = v62.toInt := congrArg Int32.toInt (ev62)
              have lk73 : ((s).1 c0 5).toInt = v66.toInt := congrArg Int32.toInt (ev66)
              exact r_zret C (n_bool (by omega)) (oDec_at oX4_add 25 rfl) ⟨_, rfl, ⟨by omega, by omega⟩⟩
        · skip
          refine r_iconst C (oDec_at oX4_add 12 rfl) (v := k0) (by rw [qk0]; rfl) ?_
          exact r_zret C (n_bool (by omega)) (oDec_at oX4_add 13 rfl) ⟨_, rfl, ⟨by omega, by omega⟩⟩
set_option maxHeartbeats 4000000 in
set_option maxRecDepth 100000 in
theorem ct4_X11_imageInSpare (l : Launch) (E : oE) (s : oS)  (g : Int → Int) (nn : Int) (hp0 : (s.1 1 1).toInt = nn) (hp1 : oqX g s) : oMet l 2 yX11_imageInSpare cX11_imageInSpare 5 (some .boolean) [(4, 4), (4, 5), (4, 6), (4, 7), (16, 9999), (17, 9999), (18, 9999), (19, 9999)] E s [.ref (oad E 0)] (oPi (fun r u => (0 ≤ r.toInt ∧ r.toInt ≤ 1) ∧ (r.toInt = 1 ↔ oqI g nn))) := by
  refine oMet.of (lv := [(0, .ref (oad E 0))]) (by decide +kernel) (Nat.le_of_ble_eq_true rfl) rfl (fun J C hT => ?_)
  have C : oC l 2 cX11_imageInSpare RX11 5 (some .boolean) [(4, 4), (4, 5), (4, 6), (4, 7), (16, 9999), (17, 9999), (18, 9999), (19, 9999)] E s (oPi (fun r u => (0 ≤ r.toInt ∧ r.toInt ≤ 1) ∧ (r.toInt = 1 ↔ oqI g nn))) J := C
  obtain ⟨km1, qkm1⟩ : ∃ z : Int32, z = (-1) := ⟨_, rfl⟩
  have ekm1 : km1.toInt = (-1) := by rw [qkm1]; rfl
  obtain ⟨k0, qk0⟩ : ∃ z : Int32, z = 0 := ⟨_, rfl⟩
  have ek0 : k0.toInt = 0 := by rw [qk0]; rfl
  obtain ⟨k1, qk1⟩ : ∃ z : Int32, z = 1 := ⟨_, rfl⟩
  have ek1 : k1.toInt = 1 := by rw [qk1]; rfl
  obtain ⟨k2, qk2⟩ : ∃ z : Int32, z = 2 := ⟨_, rfl⟩
  have ek2 : k2.toInt = 2 := by rw [qk2]; rfl
  obtain ⟨k23, qk23⟩ : ∃ z : Int32, z = 23 := ⟨_, rfl⟩
  have ek23 : k23.toInt = 23 := by rw [qk23]; rfl
  obtain ⟨k24, qk24⟩ : ∃ z : Int32, z = 24 := ⟨_, rfl⟩
  have ek24 : k24.toInt = 24 := by rw [qk24]; rfl
  obtain ⟨k255, qk255⟩ : ∃ z : Int32, z = 255 := ⟨_, rfl⟩
  have ek255 : k255.toInt = 255 := by rw [qk255]; rfl
  have ht1 : (0 : Int) ≤ (s.1 1 1).toInt ∧ (s.1 1 1).toInt ≤ 1600 := hT.1 1 1
  have key : ∀ n : Nat, (∀ (t : oS) (x1 : Int32) (x2 : Int32) (x3 : Int32), (0 ≤ x1.toInt ∧ x1.toInt ≤ 24) → (0 ≤ x3.toInt ∧ x3.toInt ≤ 49) → (oqX g t) → ((t.1 1 1).toInt = nn ∧ nn = 2 * x1.toInt + 2 ∧ x1.toInt = g 0) → (x3.toInt ≤ 2 * x1.toInt + 1) → (x2.toInt = oqC g x3.toNatClampNeg) → (0 ≤ x2.toInt ∧ x2.toInt ≤ 250) → 1000 - x3.toInt ≤ (n : Int) → J t 41 [(0, .ref (oad E 0)), (1, .int x1), (2, .int x2), (3, .int x3)] []) ∧ (∀ (t : oS) (x1 : Int32) (x3 : Int32), (0 ≤ x1.toInt ∧ x1.toInt ≤ 24) → (0 ≤ x3.toInt ∧ x3.toInt ≤ 24) → (oqX g t) → ((t.1 1 1).toInt = nn ∧ nn = 2 * x1.toInt + 2 ∧ x1.toInt = g 0) → (x3.toInt ≤ x1.toInt) → (oqP x3.toInt (oqS g x3.toNatClampNeg) t) → (g (nn - 1) = oqC g (nn - 1).toNat) → (oqFt g x3.toNatClampNeg) → (oqS g x3.toNatClampNeg ≤ 96) → 25 - x3.toInt ≤ (n : Int) → J t 94 [(0, .ref (oad E 0)), (1, .int x1), (3, .int x3)] []) := by
    intro n
    induction n using Nat.strongRecOn with
    | _ n ih =>
      refine ⟨?_, ?_⟩
      · intro t x1 x2 x3  iv0 iv1 iv2 iv3 iv4 iv5 iv6 hmu
        have rx1 := n_rng x1
        have rx2 := n_rng x2
        have rx3 := n_rng x3
        have hn3 := n_nat x3
        refine r_iload_n C (j := 3) (oDec_at oX11_imageInSpare 25 rfl) rfl rfl ?_
        refine r_iconst C (oDec_at oX11_imageInSpare 26 rfl) (v := k2) (by rw [qk2]; rfl) ?_
        refine r_iload_n C (j := 1) (oDec_at oX11_imageInSpare 27 rfl) rfl rfl ?_
        obtain ⟨v1, ev1⟩ : ∃ z : Int32, z = k2 * x1 := ⟨_, rfl⟩
        have hv1 : v1.toInt = 2 * x1.toInt := n_mulK' 2 ev1 ek2 (by omega) (by omega)
        refine r_imul C v1 (oDec_at oX11_imageInSpare 28 rfl) ev1 ?_
        refine r_icmp_gt C 67 (oDec_at oX11_imageInSpare 29 rfl) (by decide) (fun cd2 => ?_) (fun cd2 => ?_)
        · skip
          refine r_aload_n C (j := 0) (oDec_at oX11_imageInSpare 39 rfl) rfl rfl ?_
          refine r_getF (k := 0) (b := 1) C oCl11 rfl (by decide) flX11_10 rfl rfl rfl (oDec_at oX11_imageInSpare 40 rfl) ?_
          refine r_iconst C (oDec_at oX11_imageInSpare 41 rfl) (v := k2) (by rw [qk2]; rfl) ?_
          refine r_iload_n C (j := 1) (oDec_at oX11_imageInSpare 42 rfl) rfl rfl ?_
          obtain ⟨v3, ev3⟩ : ∃ z : Int32, z = k2 * x1 := ⟨_, rfl⟩
          have hv3 : v3.toInt = 2 * x1.toInt := n_mulK' 2 ev3 ek2 (by omega) (by omega)
          refine r_imul C v3 (oDec_at oX11_imageInSpare 43 rfl) ev3 ?_
          refine r_iconst C (oDec_at oX11_imageInSpare 44 rfl) (v := k1) (by rw [qk1]; rfl) ?_
          refine r_pc C 75 rfl ?_
          obtain ⟨v4, ev4⟩ : ∃ z : Int32, z = v3 + k1 := ⟨_, rfl⟩
          have hv4 : v4.toInt = v3.toInt + k1.toInt := n_add ev4 (by omega) (by omega)
          refine r_iadd C v4 (oDec_at oX11_imageInSpare 45 rfl) ev4 ?_
          refine r_callVi C oCl8 rfl miX8_at mlX11_399 (ct4_X8_at l E (t) v4 (g) (nn - 1) (by omega) iv2) (by decide) rfl rfl rfl (Nat.le_of_ble_eq_true rfl) (oDec_at oX11_imageInSpare 46 rfl) (fun r6 u5 pu5 fu5 => ?_)
          try dsimp only at pu5
          obtain ⟨pu5_0, pu5_1, pu5_2, pu5_3⟩ := pu5
          have hxu5 := oFr_nil fu5; subst hxu5
          have rr6 := n_rng r6
          have hcc : oqC g (nn - 1).toNat = x2.toInt := by rw [show (nn - 1).toNat = x3.toNatClampNeg by omega]; exact iv5.symm
          refine r_iload_n C (j := 2) (oDec_at oX11_imageInSpare 47 rfl) rfl rfl ?_
          refine r_icmp_eq C 85 (oDec_at oX11_imageInSpare 48 rfl) (by decide) (fun cd7 => ?_) (fun cd7 => ?_)
          · skip
            refine r_aload_n C (j := 0) (oDec_at oX11_imageInSpare 51 rfl) rfl rfl ?_
            refine r_getS (k := 2) (q2 := 4) C oCl11 rfl (by decide) flX11_23 rfl rfl rfl ks0 (oDec_at oX11_imageInSpare 52 rfl) (fun b8 rb8 mb8 hkb8 => ?_)
            refine r_callVv C oCl4 hkb8 miX4_clear mlX11_340 (ct_X4_clear l E (t) b8 hkb8 ) (by decide) rfl rfl rfl (Nat.le_of_ble_eq_true rfl) (oDec_at oX11_imageInSpare 53 rfl) (fun u9 pu9 fu9 => ?_)
            try dsimp only at pu9
            obtain ⟨pu9_0, pu9_1⟩ := pu9
            refine r_iconst C (oDec_at oX11_imageInSpare 54 rfl) (v := k0) (by rw [qk0]; rfl) ?_
            refine r_istore_n C (lv' := [(0, .ref (oad E 0)), (1, .int x1), (2, .int x2), (3, .int k0)]) [1, 2, 3, 0] (oDec_at oX11_imageInSpare 55 rfl) rfl (by decide) rfl ?_
            have lk11 : ((u9).1 1 1).toInt = (t.1 1 1).toInt := congrArg Int32.toInt ((fu9 1 1 rfl).1)
            refine r_pick C [0, 1, 3] rfl ?_
            exact (ih (n - 1) (by omega)).2 (u9) x1 k0  (by omega) (by omega) (oqX_fr fu9 rfl iv2) (by omega) (by omega) (by first | (rw [oqS_nx (x := x3) (by omega) (by omega)]; exact ⟨_, (((fu9 0 2 rfl).2.2).trans (rb8)), hkb8, by omega, by omega⟩) | (rw [oqS_at0 (by omega)]; exact ⟨_, (((fu9 0 2 rfl).2.2).trans (rb8)), hkb8, by omega, by omega⟩)) (by first | exact iv6 | omega) (by first | exact oqFt_at0 (by omega)) (by first | (rw [oqS_nx (x := x3) (by omega) (by omega)]; omega) | (rw [oqS_at0 (by omega)]; omega)) (by omega)
          · skip
            refine r_iconst C (oDec_at oX11_imageInSpare 49 rfl) (v := k0) (by rw [qk0]; rfl) ?_
            exact r_zret C (n_bool (by omega)) (oDec_at oX11_imageInSpare 50 rfl) ⟨_, rfl, ⟨by omega, iff_of_false (by omega) (fun h => by obtain ⟨-, q2, -, -⟩ := h; omega)⟩⟩
        · skip
          refine r_iload_n C (j := 2) (oDec_at oX11_imageInSpare 30 rfl) rfl rfl ?_
          refine r_aload_n C (j := 0) (oDec_at oX11_imageInSpare 31 rfl) rfl rfl ?_
          refine r_getF (k := 0) (b := 1) C oCl11 rfl (by decide) flX11_10 rfl rfl rfl (oDec_at oX11_imageInSpare 32 rfl) ?_
          refine r_iload_n C (j := 3) (oDec_at oX11_imageInSpare 33 rfl) rfl rfl ?_
          refine r_callVi C oCl8 rfl miX8_at mlX11_399 (ct4_X8_at l E (t) x3 (g) ((x3.toNatClampNeg : Int)) (by omega) iv2) (by decide) rfl rfl rfl (Nat.le_of_ble_eq_true rfl) (oDec_at oX11_imageInSpare 34 rfl) (fun r13 u12 pu12 fu12 => ?_)
          try dsimp only at pu12
          obtain ⟨pu12_0, pu12_1, pu12_2, pu12_3⟩ := pu12
          have hxu12 := oFr_nil fu12; subst hxu12
          have rr13 := n_rng r13
          refine r_callSi C miX11_nextCheck mlX11_352 (ct4_X11_nextCheck l E (t) x2 r13 (by omega) (by omega)) (by decide) rfl rfl rfl (Nat.le_of_ble_eq_true rfl) (oDec_at oX11_imageInSpare 35 rfl) (fun r15 u14 pu14 fu14 => ?_)
          try dsimp only at pu14
          obtain ⟨pu14_0, pu14_1⟩ := pu14
          have hxu14 := oFr_nil fu14; subst hxu14
          have rr15 := n_rng r15
          refine r_pc C 60 rfl ?_
          refine r_istore_n C (lv' := [(0, .ref (oad E 0)), (1, .int x1), (2, .int r15), (3, .int x3)]) [1, 2, 0, 3] (oDec_at oX11_imageInSpare 36 rfl) rfl (by decide) rfl ?_
          obtain ⟨v16, ev16⟩ : ∃ z : Int32, x3 + Int32.ofInt 1 = z := ⟨_, rfl⟩
          have hv16 : v16.toInt = x3.toInt + 1 := n_inc ev16 (by decide) (by omega) (by omega)
          refine r_iinc C (j := 3) (lv' := [(0, .ref (oad E 0)), (1, .int x1), (2, .int r15), (3, .int v16)]) v16 [1, 2, 3, 0] (oDec_at oX11_imageInSpare 37 rfl) rfl ev16 (by decide) rfl ?_
          refine r_goto C (tgt := 41) (oDec_at oX11_imageInSpare 38 rfl) (by decide) ?_
          exact (ih (n - 1) (by omega)).1 (t) x1 r15 v16  (by omega) (by omega) iv2 (by omega) (by omega) (by first | exact oqC_nx (x := x3) (y := v16) iv5 pu12_0 pu14_0 (by omega) (by omega) | (rw [oqC_at0 (by omega)]; omega)) (by omega) (by omega)
      · intro t x1 x3  iv0 iv1 iv2 iv3 iv4 iv5 iv6 iv7 iv8 hmu
        have rx1 := n_rng x1
        have rx3 := n_rng x3
        have hn3 := n_nat x3
        refine r_iload_n C (j := 2) (oDec_at oX11_imageInSpare 56 rfl) rfl rfl ?_
        refine r_iload_n C (j := 1) (oDec_at oX11_imageInSpare 57 rfl) rfl rfl ?_
        refine r_icmp_ge C 157 (oDec_at oX11_imageInSpare 58 rfl) (by decide) (fun cd17 => ?_) (fun cd17 => ?_)
        · skip
          refine r_iconst C (oDec_at oX11_imageInSpare 90 rfl) (v := k1) (by rw [qk1]; rfl) ?_
          exact r_zret C (n_bool (by omega)) (oDec_at oX11_imageInSpare 91 rfl) ⟨_, rfl, ⟨by omega, iff_of_true (by omega) (oqI_yes (x := x3) (by omega) iv6 (by omega) iv7 (by omega))⟩⟩
        · skip
          refine r_aload_n C (j := 0) (oDec_at oX11_imageInSpare 59 rfl) rfl rfl ?_
          refine r_getF (k := 0) (b := 1) C oCl11 rfl (by decide) flX11_10 rfl rfl rfl (oDec_at oX11_imageInSpare 60 rfl) ?_
          refine r_iconst C (oDec_at oX11_imageInSpare 61 rfl) (v := k2) (by rw [qk2]; rfl) ?_
          refine r_iload_n C (j := 2) (oDec_at oX11_imageInSpare 62 rfl) rfl rfl ?_
          obtain ⟨v18, ev18⟩ : ∃ z : Int32, z = k2 * x3 := ⟨_, rfl⟩
          have hv18 : v18.toInt = 2 * x3.toInt := n_mulK' 2 ev18 ek2 (by omega) (by omega)
          refine r_imul C v18 (oDec_at oX11_imageInSpare 63 rfl) ev18 ?_
          refine r_iconst C (oDec_at oX11_imageInSpare 64 rfl) (v := k1) (by rw [qk1]; rfl) ?_
          refine r_pc C 107 rfl ?_
          obtain ⟨v19, ev19⟩ : ∃ z : Int32, z = v18 + k1 := ⟨_, rfl⟩
          have hv19 : v19.toInt = v18.toInt + k1.toInt := n_add ev19 (by omega) (by omega)
          refine r_iadd C v19 (oDec_at oX11_imageInSpare 65 rfl) ev19 ?_
          refine r_callVi C oCl8 rfl miX8_at mlX11_399 (ct4_X8_at l E (t) v19 (g) (1 + 2 * (x3.toNatClampNeg : Int)) (by omega) iv2) (by decide) rfl rfl rfl (Nat.le_of_ble_eq_true rfl) (oDec_at oX11_imageInSpare 66 rfl) (fun r21 u20 pu20 fu20 => ?_)
          try dsimp only at pu20
          obtain ⟨pu20_0, pu20_1, pu20_2, pu20_3⟩ := pu20
          have hxu20 := oFr_nil fu20; subst hxu20
          have rr21 := n_rng r21
          refine r_istore C (lv' := [(0, .ref (oad E 0)), (1, .int x1), (3, .int x3), (4, .int r21)]) [1, 2, 3, 0] (oDec_at oX11_imageInSpare 67 rfl) (by decide) rfl ?_
          refine r_aload_n C (j := 0) (oDec_at oX11_imageInSpare 68 rfl) rfl rfl ?_
          refine r_getS (k := 2) (q2 := 4) C oCl11 rfl (by decide) flX11_23 rfl rfl rfl ks0 (oDec_at oX11_imageInSpare 69 rfl) (fun b22 rb22 mb22 hkb22 => ?_)
          have hsp := oqP_at iv5 rb22
          obtain ⟨hsp1, hsp2⟩ := hsp
          refine r_iload C (j := 3) (oDec_at oX11_imageInSpare 70 rfl) rfl ?_
          refine r_pc C 119 rfl ?_
          refine r_sipush C (oDec_at oX11_imageInSpare 71 rfl) (v := k255) (by rw [qk255]; rfl) ?_
          refine r_icmp_ne C 129 (oDec_at oX11_imageInSpare 72 rfl) (by decide) (fun cd23 => ?_) (fun cd23 => ?_)
          · skip
            refine r_iload C (j := 3) (oDec_at oX11_imageInSpare 75 rfl) rfl ?_
            refine r_aload_n C (j := 0) (oDec_at oX11_imageInSpare 76 rfl) rfl rfl ?_
            refine r_getF (k := 0) (b := 1) C oCl11 rfl (by decide) flX11_10 rfl rfl rfl (oDec_at oX11_imageInSpare 77 rfl) ?_
            refine r_iconst C (oDec_at oX11_imageInSpare 78 rfl) (v := k2) (by rw [qk2]; rfl) ?_
            refine r_iload_n C (j := 2) (oDec_at oX11_imageInSpare 79 rfl) rfl rfl ?_
            obtain ⟨v24, ev24⟩ : ∃ z : Int32, z = k2 * x3 := ⟨_, rfl⟩
            have hv24 : v24.toInt = 2 * x3.toInt := n_mulK' 2 ev24 ek2 (by omega) (by omega)
            refine r_imul C v24 (oDec_at oX11_imageInSpare 80 rfl) ev24 ?_
            refine r_pc C 138 rfl ?_
            refine r_iconst C (oDec_at oX11_imageInSpare 81 rfl) (v := k2) (by rw [qk2]; rfl) ?_
            obtain ⟨v25, ev25⟩ : ∃ z : Int32, z = v24 + k2 := ⟨_, rfl⟩
            have hv25 : v25.toInt = v24.toInt + k2.toInt := n_add ev25 (by omega) (by omega)
            refine r_iadd C v25 (oDec_at oX11_imageInSpare 82 rfl) ev25 ?_
            refine r_callVi C oCl8 rfl miX8_at mlX11_399 (ct4_X8_at l E (t) v25 (g) (2 + 2 * (x3.toNatClampNeg : Int)) (by omega) iv2) (by decide) rfl rfl rfl (Nat.le_of_ble_eq_true rfl) (oDec_at oX11_imageInSpare 83 rfl) (fun r27 u26 pu26 fu26 => ?_)
            try dsimp only at pu26
            obtain ⟨pu26_0, pu26_1, pu26_2, pu26_3⟩ := pu26
            have hxu26 := oFr_nil fu26; subst hxu26
            have rr27 := n_rng r27
            refine r_callVi C oCl4 hkb22 miX4_add mlX11_346 (ct4_X4_add l E (t) b22 hkb22 r21 r27 ) (by decide) rfl rfl rfl (Nat.le_of_ble_eq_true rfl) (oDec_at oX11_imageInSpare 84 rfl) (fun r29 u28 pu28 fu28 => ?_)
            try dsimp only at pu28
            obtain ⟨pu28_0, pu28_1⟩ := pu28
            have rr29 := n_rng r29
            refine r_if_ne C 151 (oDec_at oX11_imageInSpare 85 rfl) (by decide) (fun cd30 => ?_) (fun cd30 => ?_)
            · skip
              obtain ⟨v31, ev31⟩ : ∃ z : Int32, x3 + Int32.ofInt 1 = z := ⟨_, rfl⟩
              have hv31 : v31.toInt = x3.toInt + 1 := n_inc ev31 (by decide) (by omega) (by omega)
              refine r_iinc C (j := 2) (lv' := [(0, .ref (oad E 0)), (1, .int x1), (3, .int v31), (4, .int r21)]) v31 [1, 2, 0, 3] (oDec_at oX11_imageInSpare 88 rfl) rfl ev31 (by decide) rfl ?_
              refine r_goto C (tgt := 94) (oDec_at oX11_imageInSpare 89 rfl) (by decide) ?_
              have lk32 : ((u28).1 1 1).toInt = (t.1 1 1).toInt := congrArg Int32.toInt ((fu28 1 1 rfl).1)
              refine r_pick C [0, 1, 2] rfl ?_
              exact (ih (n - 1) (by omega)).2 (u28) x1 v31  (by omega) (by omega) (oqX_fr fu28 rfl iv2) (by omega) (by omega) (by first | (rw [oqS_nx (x := x3) (by omega) (by omega)]; exact ⟨_, (((fu28 0 2 rfl).2.2).trans (rb22)), hkb22, by omega, by omega⟩) | (rw [oqS_at0 (by omega)]; exact ⟨_, (((fu28 0 2 rfl).2.2).trans (rb22)), hkb22, by omega, by omega⟩)) (by first | exact iv6 | omega) (by first | exact oqFt_nx (x := x3) iv7 (by omega) (by omega) (by omega) (by omega) (by omega) | exact oqFt_at0 (by omega)) (by first | (rw [oqS_nx (x := x3) (by omega) (by omega)]; omega) | (rw [oqS_at0 (by omega)]; omega)) (by omega)
            · skip
              refine r_iconst C (oDec_at oX11_imageInSpare 86 rfl) (v := k0) (by rw [qk0]; rfl) ?_
              exact r_zret C (n_bool (by omega)) (oDec_at oX11_imageInSpare 87 rfl) ⟨_, rfl, ⟨by omega, iff_of_false (by omega) (oqI_no (x := x3) (by omega) (by omega) (by omega))⟩⟩
          · skip
            refine r_iconst C (oDec_at oX11_imageInSpare 73 rfl) (v := km1) (by rw [qkm1]; rfl) ?_
            refine r_goto C (tgt := 131) (oDec_at oX11_imageInSpare 74 rfl) (by decide) ?_
            refine r_aload_n C (j := 0) (oDec_at oX11_imageInSpare 76 rfl) rfl rfl ?_
            refine r_getF (k := 0) (b := 1) C oCl11 rfl (by decide) flX11_10 rfl rfl rfl (oDec_at oX11_imageInSpare 77 rfl) ?_
            refine r_iconst C (oDec_at oX11_imageInSpare 78 rfl) (v := k2) (by rw [qk2]; rfl) ?_
            refine r_iload_n C (j := 2) (oDec_at oX11_imageInSpare 79 rfl) rfl rfl ?_
            obtain ⟨v33, ev33⟩ : ∃ z : Int32, z = k2 * x3 := ⟨_, rfl⟩
            have hv33 : v33.toInt = 2 * x3.toInt := n_mulK' 2 ev33 ek2 (by omega) (by omega)
            refine r_imul C v33 (oDec_at oX11_imageInSpare 80 rfl) ev33 ?_
            refine r_pc C 138 rfl ?_
            refine r_iconst C (oDec_at oX11_imageInSpare 81 rfl) (v := k2) (by rw [qk2]; rfl) ?_
            obtain ⟨v34, ev34⟩ : ∃ z : Int32, z = v33 + k2 := ⟨_, rfl⟩
            have hv34 : v34.toInt = v33.toInt + k2.toInt := n_add ev34 (by omega) (by omega)
            refine r_iadd C v34 (oDec_at oX11_imageInSpare 82 rfl) ev34 ?_
            refine r_callVi C oCl8 rfl miX8_at mlX11_399 (ct4_X8_at l E (t) v34 (g) (2 + 2 * (x3.toNatClampNeg : Int)) (by omega) iv2) (by decide) rfl rfl rfl (Nat.le_of_ble_eq_true rfl) (oDec_at oX11_imageInSpare 83 rfl) (fun r36 u35 pu35 fu35 => ?_)
            try dsimp only at pu35
            obtain ⟨pu35_0, pu35_1, pu35_2, pu35_3⟩ := pu35
            have hxu35 := oFr_nil fu35; subst hxu35
            have rr36 := n_rng r36
            refine r_callVi C oCl4 hkb22 miX4_add mlX11_346 (ct4_X4_add l E (t) b22 hkb22 km1 r36 ) (by decide) rfl rfl rfl (Nat.le_of_ble_eq_true rfl) (oDec_at oX11_imageInSpare 84 rfl) (fun r38 u37 pu37 fu37 => ?_)
            try dsimp only at pu37
            obtain ⟨pu37_0, pu37_1⟩ := pu37
            have rr38 := n_rng r38
            refine r_if_ne C 151 (oDec_at oX11_imageInSpare 85 rfl) (by decide) (fun cd39 => ?_) (fun cd39 => ?_)
            · skip
              obtain ⟨v40, ev40⟩ : ∃ z : Int32, x3 + Int32.ofInt 1 = z := ⟨_, rfl⟩
              have hv40 : v40.toInt = x3.toInt + 1 := n_inc ev40 (by decide) (by omega) (by omega)
              refine r_iinc C (j := 2) (lv' := [(0, .ref (oad E 0)), (1, .int x1), (3, .int v40), (4, .int r21)]) v40 [1, 2, 0, 3] (oDec_at oX11_imageInSpare 88 rfl) rfl ev40 (by decide) rfl ?_
              refine r_goto C (tgt := 94) (oDec_at oX11_imageInSpare 89 rfl) (by decide) ?_
              have lk41 : ((u37).1 1 1).toInt = (t.1 1 1).toInt := congrArg Int32.toInt ((fu37 1 1 rfl).1)
              refine r_pick C [0, 1, 2] rfl ?_
              exact (ih (n - 1) (by omega)).2 (u37) x1 v40  (by omega) (by omega) (oqX_fr fu37 rfl iv2) (by omega) (by omega) (by first | (rw [oqS_nx (x := x3) (by omega) (by omega)]; exact ⟨_, (((fu37 0 2 rfl).2.2).trans (rb22)), hkb22, by omega, by omega⟩) | (rw [oqS_at0 (by omega)]; exact ⟨_, (((fu37 0 2 rfl).2.2).trans (rb22)), hkb22, by omega, by omega⟩)) (by first | exact iv6 | omega) (by first | exact oqFt_nx (x := x3) iv7 (by omega) (by omega) (by omega) (by omega) (by omega) | exact oqFt_at0 (by omega)) (by first | (rw [oqS_nx (x := x3) (by omega) (by omega)]; omega) | (rw [oqS_at0 (by omega)]; omega)) (by omega)
            · skip
              refine r_iconst C (oDec_at oX11_imageInSpare 86 rfl) (v := k0) (by rw [qk0]; rfl) ?_
              exact r_zret C (n_bool (by omega)) (oDec_at oX11_imageInSpare 87 rfl) ⟨_, rfl, ⟨by omega, iff_of_false (by omega) (oqI_no (x := x3) (by omega) (by omega) (by omega))⟩⟩
  refine r_aload_n C (j := 0) (oDec_at oX11_imageInSpare 0 rfl) rfl rfl ?_
  refine r_getF (k := 0) (b := 1) C oCl11 rfl (by decide) flX11_10 rfl rfl rfl (oDec_at oX11_imageInSpare 1 rfl) ?_
  refine r_iconst C (oDec_at oX11_imageInSpare 2 rfl) (v := k0) (by rw [qk0]; rfl) ?_
  refine r_callVi C oCl8 rfl miX8_at mlX11_399 (ct4_X8_at l E (s) k0 (g) (0) (by omega) hp1) (by decide) rfl rfl rfl (Nat.le_of_ble_eq_true rfl) (oDec_at oX11_imageInSpare 3 rfl) (fun r43 u42 pu42 fu42 => ?_)
  try dsimp only at pu42
  obtain ⟨pu42_0, pu42_1, pu42_2, pu42_3⟩ := pu42
  have hxu42 := oFr_nil fu42; subst hxu42
  have rr43 := n_rng r43
  refine r_istore_n C (lv' := [(0, .ref (oad E 0)), (1, .int r43)]) [1, 0] (oDec_at oX11_imageInSpare 4 rfl) rfl (by decide) rfl ?_
  refine r_iload_n C (j := 1) (oDec_at oX11_imageInSpare 5 rfl) rfl rfl ?_
  refine r_pc C 10 rfl ?_
  refine r_if_lt C 34 (oDec_at oX11_imageInSpare 6 rfl) (by decide) (fun cd44 => ?_) (fun cd44 => ?_)
  · skip
    refine r_iconst C (oDec_at oX11_imageInSpare 19 rfl) (v := k0) (by rw [qk0]; rfl) ?_
    exact r_zret C (n_bool (by omega)) (oDec_at oX11_imageInSpare 20 rfl) ⟨_, rfl, ⟨by omega, iff_of_false (by omega) (fun h => by obtain ⟨q1, -, -, -⟩ := h; omega)⟩⟩
  · skip
    refine r_iload_n C (j := 1) (oDec_at oX11_imageInSpare 7 rfl) rfl rfl ?_
    refine r_bipush C (oDec_at oX11_imageInSpare 8 rfl) (v := k24) (by rw [qk24]; rfl) ?_
    refine r_icmp_gt C 34 (oDec_at oX11_imageInSpare 9 rfl) (by decide) (fun cd45 => ?_) (fun cd45 => ?_)
    · skip
      refine r_iconst C (oDec_at oX11_imageInSpare 19 rfl) (v := k0) (by rw [qk0]; rfl) ?_
      exact r_zret C (n_bool (by omega)) (oDec_at oX11_imageInSpare 20 rfl) ⟨_, rfl, ⟨by omega, iff_of_false (by omega) (fun h => by obtain ⟨q1, -, -, -⟩ := h; omega)⟩⟩
    · skip
      refine r_aload_n C (j := 0) (oDec_at oX11_imageInSpare 10 rfl) rfl rfl ?_
      refine r_getF (k := 0) (b := 1) C oCl11 rfl (by decide) flX11_10 rfl rfl rfl (oDec_at oX11_imageInSpare 11 rfl) ?_
      obtain ⟨v46, ev46⟩ : ∃ z : Int32, (s).1 1 1 = z := ⟨_, rfl⟩
      have gv46 : (s.1 1 1).toInt = v46.toInt := congrArg Int32.toInt (ev46)
      refine r_getiN (k := 1) (lo := 0) (hi := 1600) C v46 oCl8 rfl (by decide) flX11_111 rfl rfl (ev46) rfl rfl (oDec_at oX11_imageInSpare 12 rfl) (fun b47 b47h => ?_)
      refine r_iconst C (oDec_at oX11_imageInSpare 13 rfl) (v := k2) (by rw [qk2]; rfl) ?_
      refine r_iload_n C (j := 1) (oDec_at oX11_imageInSpare 14 rfl) rfl rfl ?_
      obtain ⟨v48, ev48⟩ : ∃ z : Int32, z = k2 * r43 := ⟨_, rfl⟩
      have hv48 : v48.toInt = 2 * r43.toInt := n_mulK' 2 ev48 ek2 (by omega) (by omega)
      refine r_imul C v48 (oDec_at oX11_imageInSpare 15 rfl) ev48 ?_
      refine r_pc C 29 rfl ?_
      refine r_iconst C (oDec_at oX11_imageInSpare 16 rfl) (v := k2) (by rw [qk2]; rfl) ?_
      obtain ⟨v49, ev49⟩ : ∃ z : Int32, z = v48 + k2 := ⟨_, rfl⟩
      have hv49 : v49.toInt = v48.toInt + k2.toInt := n_add ev49 (by omega) (by omega)
      refine r_iadd C v49 (oDec_at oX11_imageInSpare 17 rfl) ev49 ?_
      refine r_icmp_eq C 36 (oDec_at oX11_imageInSpare 18 rfl) (by decide) (fun cd50 => ?_) (fun cd50 => ?_)
      · skip
        refine r_bipush C (oDec_at oX11_imageInSpare 21 rfl) (v := k23) (by rw [qk23]; rfl) ?_
        refine r_istore_n C (lv' := [(0, .ref (oad E 0)), (1, .int r43), (2, .int k23)]) [1, 2, 0] (oDec_at oX11_imageInSpare 22 rfl) rfl (by decide) rfl ?_
        refine r_iconst C (oDec_at oX11_imageInSpare 23 rfl) (v := k0) (by rw [qk0]; rfl) ?_
        refine r_istore_n C (lv' := [(0, .ref (oad E 0)), (1, .int r43), (2, .int k23), (3, .int k0)]) [1, 2, 3, 0] (oDec_at oX11_imageInSpare 24 rfl) rfl (by decide) rfl ?_
        have lk51 : ((s).1 1 1).toInt = v46.toInt := congrArg Int32.toInt (ev46)
        exact (key (1000 - k0.toInt).toNat).1 (s) r43 k23 k0  (by omega) (by omega) hp1 (by omega) (by omega) (by first | (rw [oqC_at0 (by omega)]; omega)) (by omega) (by omega)
      · skip
        refine r_iconst C (oDec_at oX11_imageInSpare 19 rfl) (v := k0) (by rw [qk0]; rfl) ?_
        exact r_zret C (n_bool (by omega)) (oDec_at oX11_imageInSpare 20 rfl) ⟨_, rfl, ⟨by omega, iff_of_false (by omega) (fun h => by obtain ⟨q1, -, -, -⟩ := h; omega)⟩⟩
set_option maxHeartbeats 4000000 in
set_option maxRecDepth 100000 in
theorem ct4_X11_on (l : Launch) (E : oE) (s : oS)  (g : Int → Int) (nn : Int) (hp0 : (s.1 1 1).toInt = nn) (hp1 : oqX g s) : oMet l 3 yX11_on cX11_on 2 (some .boolean) [(3, 0), (4, 4), (4, 5), (4, 6), (4, 7), (7, 0), (8, 1), (10, 3), (11, 1), (11, 2), (11, 17), (16, 9999), (17, 9999), (18, 9999), (19, 9999)] E s [.ref (oad E 0)] (oPi (fun r u => (0 ≤ r.toInt ∧ r.toInt ≤ 1) ∧ ((u.1 1 1).toInt = 0) ∧ (r.toInt = 1 ↔ oqI g nn))) := by
  refine oMet.of (lv := [(0, .ref (oad E 0))]) (by decide +kernel) (Nat.le_of_ble_eq_true rfl) rfl (fun J C hT => ?_)
  have C : oC l 3 cX11_on RX11 2 (some .boolean) [(3, 0), (4, 4), (4, 5), (4, 6), (4, 7), (7, 0), (8, 1), (10, 3), (11, 1), (11, 2), (11, 17), (16, 9999), (17, 9999), (18, 9999), (19, 9999)] E s (oPi (fun r u => (0 ≤ r.toInt ∧ r.toInt ≤ 1) ∧ ((u.1 1 1).toInt = 0) ∧ (r.toInt = 1 ↔ oqI g nn))) J := C
  obtain ⟨k0, qk0⟩ : ∃ z : Int32, z = 0 := ⟨_, rfl⟩
  have ek0 : k0.toInt = 0 := by rw [qk0]; rfl
  refine r_aload_n C (j := 0) (oDec_at oX11_on 0 rfl) rfl rfl ?_
  refine r_callVi C oCl11 rfl miX11_imageInSpare mlX11_355 (ct4_X11_imageInSpare l E (s)  (g) (nn) (by omega) hp1) (by decide) rfl rfl rfl (Nat.le_of_ble_eq_true rfl) (oDec_at oX11_on 1 rfl) (fun r2 u1 pu1 fu1 => ?_)
  try dsimp only at pu1
  obtain ⟨pu1_0, pu1_1⟩ := pu1
  have rr2 := n_rng r2
  refine r_istore_n C (lv' := [(0, .ref (oad E 0)), (1, .int r2)]) [1, 0] (oDec_at oX11_on 2 rfl) rfl (by decide) rfl ?_
  refine r_aload_n C (j := 0) (oDec_at oX11_on 3 rfl) rfl rfl ?_
  refine r_getF (k := 0) (b := 1) C oCl11 rfl (by decide) flX11_10 rfl rfl rfl (oDec_at oX11_on 4 rfl) ?_
  refine r_iconst C (oDec_at oX11_on 5 rfl) (v := k0) (by rw [qk0]; rfl) ?_
  refine r_pc C 10 rfl ?_
  refine r_ty C (fun hty => ?_)
  have ht10 : (0 : Int) ≤ ((u1).1 1 1).toInt ∧ ((u1).1 1 1).toInt ≤ 1600 := hty.1 1 1
  have lk3 : ((u1).1 1 1).toInt = (s.1 1 1).toInt := congrArg Int32.toInt ((fu1 1 1 rfl).1)
  refine r_callVi C oCl8 rfl miX8_cut mlX11_114 (ct_X8_cut l E (u1) k0 ) (by decide) rfl rfl rfl (Nat.le_of_ble_eq_true rfl) (oDec_at oX11_on 6 rfl) (fun r5 u4 pu4 fu4 => ?_)
  try dsimp only at pu4
  try simp only [lk3] at pu4
  obtain ⟨pu4_0, pu4_1⟩ := pu4
  have rr5 := n_rng r5
  refine r_pop C (oDec_at oX11_on 7 rfl) rfl ?_
  refine r_iload_n C (j := 1) (oDec_at oX11_on 8 rfl) rfl rfl ?_
  refine r_if_eq C 22 (oDec_at oX11_on 9 rfl) (by decide) (fun cd6 => ?_) (fun cd6 => ?_)
  · skip
    refine r_iload_n C (j := 1) (oDec_at oX11_on 12 rfl) rfl rfl ?_
    exact r_zret C (n_bool (by omega)) (oDec_at oX11_on 13 rfl) ⟨_, rfl, ⟨by omega, by omega, pu1_1⟩⟩
  · skip
    refine r_aload_n C (j := 0) (oDec_at oX11_on 10 rfl) rfl rfl ?_
    refine r_callVv C oCl11 rfl miX11_takeSpare mlX11_121 (ct_X11_takeSpare l E (u4)  ) (by decide) rfl rfl rfl (Nat.le_of_ble_eq_true rfl) (oDec_at oX11_on 11 rfl) (fun u7 pu7 fu7 => ?_)
    try dsimp only at pu7
    refine r_iload_n C (j := 1) (oDec_at oX11_on 12 rfl) rfl rfl ?_
    have lk9 : ((u7).1 1 1).toInt = (u4.1 1 1).toInt := congrArg Int32.toInt ((fu7 1 1 rfl).1)
    exact r_zret C (n_bool (by omega)) (oDec_at oX11_on 13 rfl) ⟨_, rfl, ⟨by omega, by omega, pu1_1⟩⟩
set_option maxHeartbeats 4000000 in
set_option maxRecDepth 100000 in
theorem ct4_X12_checked (l : Launch) (E : oE) (s : oS) (c0 q0 n0 : Nat) (hk0 : okd c0 = q0) (h13_0 : 13 ≤ q0) (h9_0 : q0 < 999) (ht0 : oat q0 = 0) (hn0 : oln q0 = n0) (a1 : Int32) (g : Int → Int) (m : Int) (hp0 : 0 ≤ a1.toInt ∧ a1.toInt ≤ (n0 : Int)) (hp1 : n0 ≤ 10000) (hp2 : a1.toInt = m) (hp3 : ∀ j : Nat, (j : Int) < m → g j = (s.1 c0 j).toInt ∧ 0 ≤ g j ∧ g j ≤ 255) : oMet l 1 yX12_checked cX12_checked 4 (some .int) [] E s [.ref (oad E c0), .int a1] (oPi (fun r u => (r.toInt = oqC g m.toNat))) := by
  refine oMet.of (lv := [(0, .ref (oad E c0)), (1, .int a1)]) (by decide +kernel) (Nat.le_of_ble_eq_true rfl) rfl (fun J C hT => ?_)
  have C : oC l 1 cX12_checked RX12 4 (some .int) [] E s (oPi (fun r u => (r.toInt = oqC g m.toNat))) J := C
  obtain ⟨k0, qk0⟩ : ∃ z : Int32, z = 0 := ⟨_, rfl⟩
  have ek0 : k0.toInt = 0 := by rw [qk0]; rfl
  obtain ⟨k7, qk7⟩ : ∃ z : Int32, z = 7 := ⟨_, rfl⟩
  have ek7 : k7.toInt = 7 := by rw [qk7]; rfl
  obtain ⟨k23, qk23⟩ : ∃ z : Int32, z = 23 := ⟨_, rfl⟩
  have ek23 : k23.toInt = 23 := by rw [qk23]; rfl
  obtain ⟨k251, qk251⟩ : ∃ z : Int32, z = 251 := ⟨_, rfl⟩
  have ek251 : k251.toInt = 251 := by rw [qk251]; rfl
  have rg1 := n_rng a1
  have key : ∀ n : Nat, (∀ (t : oS) (x2 : Int32) (x3 : Int32), (0 ≤ x3.toInt ∧ x3.toInt ≤ a1.toInt) → (∀ j : Nat, (j : Int) < m → g j = (t.1 c0 j).toInt ∧ 0 ≤ g j ∧ g j ≤ 255) → (0 ≤ x2.toInt ∧ x2.toInt ≤ 250) → (x2.toInt = oqC g x3.toNatClampNeg) → a1.toInt - x3.toInt + 1 ≤ (n : Int) → J t 5 [(0, .ref (oad E c0)), (1, .int a1), (2, .int x2), (3, .int x3)] []) := by
    intro n
    induction n using Nat.strongRecOn with
    | _ n ih =>
      skip
      · intro t x2 x3  iv0 iv1 iv2 iv3 hmu
        have rx2 := n_rng x2
        have rx3 := n_rng x3
        have hn3 := n_nat x3
        refine r_iload_n C (j := 3) (oDec_at oX12_checked 4 rfl) rfl rfl ?_
        refine r_iload_n C (j := 1) (oDec_at oX12_checked 5 rfl) rfl rfl ?_
        refine r_icmp_ge C 29 (oDec_at oX12_checked 6 rfl) (by decide) (fun cd1 => ?_) (fun cd1 => ?_)
        · skip
          refine r_iload_n C (j := 2) (oDec_at oX12_checked 19 rfl) rfl rfl ?_
          exact r_iret C (oDec_at oX12_checked 20 rfl) ⟨_, rfl, iv3.trans (by rw [show m.toNat = x3.toNatClampNeg by omega])⟩
        · skip
          refine r_bipush C (oDec_at oX12_checked 7 rfl) (v := k7) (by rw [qk7]; rfl) ?_
          refine r_iload_n C (j := 2) (oDec_at oX12_checked 8 rfl) rfl rfl ?_
          obtain ⟨v2, ev2⟩ : ∃ z : Int32, z = k7 * x2 := ⟨_, rfl⟩
          have hv2 : v2.toInt = 7 * x2.toInt := n_mulK' 7 ev2 ek7 (by omega) (by omega)
          refine r_imul C v2 (oDec_at oX12_checked 9 rfl) ev2 ?_
          refine r_aload_n C (j := 0) (oDec_at oX12_checked 10 rfl) rfl rfl ?_
          refine r_iload_n C (j := 3) (oDec_at oX12_checked 11 rfl) rfl rfl ?_
          obtain ⟨v4, ev4⟩ : ∃ z : Int32, (t).1 c0 x3.toNatClampNeg = z := ⟨_, rfl⟩
          have gv4 : (t.1 c0 x3.toNatClampNeg).toInt = v4.toInt := congrArg Int32.toInt (ev4)
          have rv4 := n_rng v4
          refine r_iald (n := n0)  C v4 hk0 h13_0 ht0 hn0 ⟨by omega, by omega⟩ h9_0 ev4 rfl rfl (oDec_at oX12_checked 12 rfl) (fun _ _ => ?_)
          have rv4 := n_rng v4
          refine r_pc C 17 rfl ?_
          have hg17 := iv1 x3.toNatClampNeg (by omega)
          obtain ⟨v5, ev5⟩ : ∃ z : Int32, z = v2 + v4 := ⟨_, rfl⟩
          have hv5 : v5.toInt = v2.toInt + v4.toInt := n_add ev5 (by omega) (by omega)
          refine r_iadd C v5 (oDec_at oX12_checked 13 rfl) ev5 ?_
          refine r_sipush C (oDec_at oX12_checked 14 rfl) (v := k251) (by rw [qk251]; rfl) ?_
          obtain ⟨v6, ev6⟩ : ∃ z : Int32, z = v5 - v5 / k251 * k251 := ⟨_, rfl⟩
          have hv6 := (n_rem (k := 251) ev6 ek251 (by decide)).1 (by omega)
          refine r_irem C v6 (oDec_at oX12_checked 15 rfl) (n_ne0 (by omega)) ev6 ?_
          refine r_istore_n C (lv' := [(0, .ref (oad E c0)), (1, .int a1), (2, .int v6), (3, .int x3)]) [1, 2, 0, 3] (oDec_at oX12_checked 16 rfl) rfl (by decide) rfl ?_
          obtain ⟨v7, ev7⟩ : ∃ z : Int32, x3 + Int32.ofInt 1 = z := ⟨_, rfl⟩
          have hv7 : v7.toInt = x3.toInt + 1 := n_inc ev7 (by decide) (by omega) (by omega)
          refine r_iinc C (j := 3) (lv' := [(0, .ref (oad E c0)), (1, .int a1), (2, .int v6), (3, .int v7)]) v7 [1, 2, 3, 0] (oDec_at oX12_checked 17 rfl) rfl ev7 (by decide) rfl ?_
          refine r_goto C (tgt := 5) (oDec_at oX12_checked 18 rfl) (by decide) ?_
          exact (ih (n - 1) (by omega)) (t) v6 v7  (by omega) (by first | exact iv1 | exact hp3) (by omega) (by first | exact oqC_nx (x := x3) (y := v7) iv3 hg17.1.symm (by omega) (by omega) (by omega) | (rw [oqC_at0 (by omega)]; omega)) (by omega)
  refine r_bipush C (oDec_at oX12_checked 0 rfl) (v := k23) (by rw [qk23]; rfl) ?_
  refine r_istore_n C (lv' := [(0, .ref (oad E c0)), (1, .int a1), (2, .int k23)]) [1, 2, 0] (oDec_at oX12_checked 1 rfl) rfl (by decide) rfl ?_
  refine r_iconst C (oDec_at oX12_checked 2 rfl) (v := k0) (by rw [qk0]; rfl) ?_
  refine r_istore_n C (lv' := [(0, .ref (oad E c0)), (1, .int a1), (2, .int k23), (3, .int k0)]) [1, 2, 3, 0] (oDec_at oX12_checked 3 rfl) rfl (by decide) rfl ?_
  exact (key (a1.toInt - k0.toInt + 1).toNat) (s) k23 k0  (by omega) (by first | exact hp3) (by omega) (by first | (rw [oqC_at0 (by omega)]; omega)) (by omega)
