set_option maxHeartbeats 4000000 in
set_option maxRecDepth 100000 in
theorem ct4_X8_at (l : Launch) (E : oE) (s : oS) (a1 : Int32) (g : Int → Int) (a : Int) (hp0 : a1.toInt = a) (hp1 : oqX g s) : oMet l 1 yX8_at cX8_at 2 (some .int) [] E s [.ref (oad E 1), .int a1] (oPi (fun r u => (r.toInt = g a) ∧ (0 ≤ a1.toInt ∧ a1.toInt < (s.1 1 1).toInt → 0 ≤ r.toInt ∧ r.toInt ≤ 255) ∧ (-1 ≤ r.toInt ∧ r.toInt ≤ 255) ∧ (r.toInt ≠ -1 → 0 ≤ a1.toInt ∧ a1.toInt < (s.1 1 1).toInt ∧ a1.toInt ≤ 1599))) := by
  refine oMet.of (lv := [(0, .ref (oad E 1)), (1, .int a1)]) (by decide +kernel) (Nat.le_of_ble_eq_true rfl) rfl (fun J C hT => ?_)
  have C : oC l 1 cX8_at RX8 2 (some .int) [] E s (oPi (fun r u => (r.toInt = g a) ∧ (0 ≤ a1.toInt ∧ a1.toInt < (s.1 1 1).toInt → 0 ≤ r.toInt ∧ r.toInt ≤ 255) ∧ (-1 ≤ r.toInt ∧ r.toInt ≤ 255) ∧ (r.toInt ≠ -1 → 0 ≤ a1.toInt ∧ a1.toInt < (s.1 1 1).toInt ∧ a1.toInt ≤ 1599))) J := C
  obtain ⟨km1, qkm1⟩ : ∃ z : Int32, z = (-1) := ⟨_, rfl⟩
  have ekm1 : km1.toInt = (-1) := by rw [qkm1]; rfl
  have rg1 := n_rng a1
  have ht1 : (0 : Int) ≤ (s.1 1 1).toInt ∧ (s.1 1 1).toInt ≤ 1600 := hT.1 1 1
  refine r_iload_n C (j := 1) (oDec_at oX8_at 0 rfl) rfl rfl ?_
  refine r_if_lt C 21 (oDec_at oX8_at 1 rfl) (by decide) (fun cd1 => ?_) (fun cd1 => ?_)
  · skip
    have hgn := oqX_no hp1 (a := a) (by omega)
    refine r_iconst C (oDec_at oX8_at 11 rfl) (v := km1) (by rw [qkm1]; rfl) ?_
    exact r_iret C (oDec_at oX8_at 12 rfl) ⟨_, rfl, ⟨by omega, by omega, by omega, by omega⟩⟩
  · skip
    refine r_iload_n C (j := 1) (oDec_at oX8_at 2 rfl) rfl rfl ?_
    refine r_aload_n C (j := 0) (oDec_at oX8_at 3 rfl) rfl rfl ?_
    obtain ⟨v2, ev2⟩ : ∃ z : Int32, (s).1 1 1 = z := ⟨_, rfl⟩
    have gv2 : (s.1 1 1).toInt = v2.toInt := congrArg Int32.toInt (ev2)
    refine r_geti (k := 1) (lo := 0) (hi := 1600) C v2 oCl8 rfl (by decide) flX8_15 rfl rfl (ev2) rfl rfl (oDec_at oX8_at 4 rfl) (fun b3 b3h => ?_)
    refine r_icmp_ge C 21 (oDec_at oX8_at 5 rfl) (by decide) (fun cd4 => ?_) (fun cd4 => ?_)
    · skip
      have hgn := oqX_no hp1 (a := a) (by omega)
      refine r_iconst C (oDec_at oX8_at 11 rfl) (v := km1) (by rw [qkm1]; rfl) ?_
      exact r_iret C (oDec_at oX8_at 12 rfl) ⟨_, rfl, ⟨by omega, by omega, by omega, by omega⟩⟩
    · skip
      refine r_aload_n C (j := 0) (oDec_at oX8_at 6 rfl) rfl rfl ?_
      refine r_getF (k := 0) (b := 2) C oCl8 rfl (by decide) flX8_11 rfl rfl rfl (oDec_at oX8_at 7 rfl) ?_
      refine r_iload_n C (j := 1) (oDec_at oX8_at 8 rfl) rfl rfl ?_
      obtain ⟨v6, ev6⟩ : ∃ z : Int32, (s).1 2 a1.toNatClampNeg = z := ⟨_, rfl⟩
      have gv6 : (s.1 2 a1.toNatClampNeg).toInt = v6.toInt := congrArg Int32.toInt (ev6)
      refine r_iald (n := 1600) (lo := 0) (hi := 255) C v6 rfl (by decide) rfl rfl ⟨by omega, by omega⟩ (by decide) ev6 rfl rfl (oDec_at oX8_at 9 rfl) (fun b5 b5h => ?_)
      have hga := oqX_at hp1 ev6 (a := a) (by omega) (by omega) (by omega)
      refine r_goto C (tgt := 22) (oDec_at oX8_at 10 rfl) (by decide) ?_
      exact r_iret C (oDec_at oX8_at 12 rfl) ⟨_, rfl, ⟨by omega, by omega, by omega, by omega⟩⟩
set_option maxHeartbeats 4000000 in
set_option maxRecDepth 100000 in
theorem ct4_X11_nextCheck (l : Launch) (E : oE) (s : oS) (a0 : Int32) (a1 : Int32)  (hp0 : 0 ≤ a0.toInt ∧ a0.toInt ≤ 250) (hp1 : 0 ≤ a1.toInt ∧ a1.toInt ≤ 255) : oMet l 1 yX11_nextCheck cX11_nextCheck 2 (some .int) [] E s [.int a0, .int a1] (oPi (fun r u => (r.toInt = (7 * a0.toInt + a1.toInt) % 251) ∧ (0 ≤ r.toInt ∧ r.toInt ≤ 250))) := by
  refine oMet.of (lv := [(0, .int a0), (1, .int a1)]) (by decide +kernel) (Nat.le_of_ble_eq_true rfl) rfl (fun J C hT => ?_)
  have C : oC l 1 cX11_nextCheck RX11 2 (some .int) [] E s (oPi (fun r u => (r.toInt = (7 * a0.toInt + a1.toInt) % 251) ∧ (0 ≤ r.toInt ∧ r.toInt ≤ 250))) J := C
  obtain ⟨k7, qk7⟩ : ∃ z : Int32, z = 7 := ⟨_, rfl⟩
  have ek7 : k7.toInt = 7 := by rw [qk7]; rfl
  obtain ⟨k251, qk251⟩ : ∃ z : Int32, z = 251 := ⟨_, rfl⟩
  have ek251 : k251.toInt = 251 := by rw [qk251]; rfl
  have rg0 := n_rng a0
  have rg1 := n_rng a1
  refine r_bipush C (oDec_at oX11_nextCheck 0 rfl) (v := k7) (by rw [qk7]; rfl) ?_
  refine r_iload_n C (j := 0) (oDec_at oX11_nextCheck 1 rfl) rfl rfl ?_
  obtain ⟨v1, ev1⟩ : ∃ z : Int32, z = k7 * a0 := ⟨_, rfl⟩
  have hv1 : v1.toInt = 7 * a0.toInt := n_mulK' 7 ev1 ek7 (by omega) (by omega)
  refine r_imul C v1 (oDec_at oX11_nextCheck 2 rfl) ev1 ?_
  refine r_iload_n C (j := 1) (oDec_at oX11_nextCheck 3 rfl) rfl rfl ?_
  obtain ⟨v2, ev2⟩ : ∃ z : Int32, z = v1 + a1 := ⟨_, rfl⟩
  have hv2 : v2.toInt = v1.toInt + a1.toInt := n_add ev2 (by omega) (by omega)
  refine r_iadd C v2 (oDec_at oX11_nextCheck 4 rfl) ev2 ?_
  refine r_sipush C (oDec_at oX11_nextCheck 5 rfl) (v := k251) (by rw [qk251]; rfl) ?_
  refine r_pc C 9 rfl ?_
  obtain ⟨v3, ev3⟩ : ∃ z : Int32, z = v2 - v2 / k251 * k251 := ⟨_, rfl⟩
  have hv3 := (n_rem (k := 251) ev3 ek251 (by decide)).1 (by omega)
  refine r_irem C v3 (oDec_at oX11_nextCheck 6 rfl) (n_ne0 (by omega)) ev3 ?_
  exact r_iret C (oDec_at oX11_nextCheck 7 rfl) ⟨_, rfl, ⟨by omega, by omega⟩⟩
set_option maxHeartbeats 4000000 in
set_option maxRecDepth 100000 in
theorem ct4_X12_checked (l : Launch) (E : oE) (s : oS) (c0 q0 n0 : Nat) (hk0 : okd c0 = q0) (h13_0 : 13 ≤ q0) (h9_0 : q0 < 999) (ht0 : oat q0 = 0) (hn0 : oln q0 = n0) (a1 : Int32) (g : Int → Int) (m : Int) (hp0 : 0 ≤ a1.toInt ∧ a1.toInt ≤ (n0 : Int)) (hp1 : n0 ≤ 10000) (hp2 : a1.toInt = m) (hp3 : ∀ j : Nat, (j : Int) < m → g j = (s.1 c0 j).toInt ∧ 0 ≤ g j ∧ g j ≤ 255) : oMet l 1 yX12_checked cX12_checked 4 (some .int) [] E s [.ref (oad E c0), .int a1] (oPi (fun r u => (r.toInt = oqC g m.toNat))) := by
  refine oMet.of (lv := [(0, .ref (oad E c0)), (1, .int a1)]) (by decide +kernel) (Nat.le_of_ble_eq_true rfl) rfl (fun J C hT => ?_)
  have C : oC l 1 cX12_checked RX12 4 (some .int) [] E s (oPi (fun r u => (r.toInt = oqC g m.toNat))) J := C
  obtain ⟨k0, qk0⟩ : ∃ z : Int32, z = 0 := ⟨_, rfl⟩
  have ek0 : k0.toInt = 0 := by rw [qk0]; rfl
  obtain ⟨k7, qk7⟩ : ∃ z : Int32, z = 7 := ⟨_, rfl⟩
  have ek7 : k7.toInt = 7 := by rw [qk7]; rfl
  obtain ⟨k23, qk23⟩ : ∃ z : Int32, z = 23 := ⟨_, rfl⟩
  have ek23 : k23.toInt = 23 := by rw [qk23]; rfl
  obtain ⟨k251, qk251⟩ : ∃ z : Int32, z = 251 := ⟨_, rfl⟩
  have ek251 : k251.toInt = 251 := by rw [qk251]; rfl
  have rg1 := n_rng a1
  have key : ∀ n : Nat, (∀ (t : oS) (x2 : Int32) (x3 : Int32), (0 ≤ x3.toInt ∧ x3.toInt ≤ a1.toInt) → (∀ j : Nat, (j : Int) < m → g j = (t.1 c0 j).toInt ∧ 0 ≤ g j ∧ g j ≤ 255) → (0 ≤ x2.toInt ∧ x2.toInt ≤ 250) → (x2.toInt = oqC g x3.toNatClampNeg) → a1.toInt - x3.toInt + 1 ≤ (n : Int) → J t 5 [(0, .ref (oad E c0)), (1, .int a1), (2, .int x2), (3, .int x3)] []) := by
    intro n
    induction n using Nat.strongRecOn with
    | _ n ih =>
      skip
      · intro t x2 x3  iv0 iv1 iv2 iv3 hmu
        have rx2 := n_rng x2
        have rx3 := n_rng x3
        have hn3 := n_nat x3
        refine r_iload_n C (j := 3) (oDec_at oX12_checked 4 rfl) rfl rfl ?_
        refine r_iload_n C (j := 1) (oDec_at oX12_checked 5 rfl) rfl rfl ?_
        refine r_icmp_ge C 29 (oDec_at oX12_checked 6 rfl) (by decide) (fun cd1 => ?_) (fun cd1 => ?_)
        · skip
          refine r_iload_n C (j := 2) (oDec_at oX12_checked 19 rfl) rfl rfl ?_
          exact r_iret C (oDec_at oX12_checked 20 rfl) ⟨_, rfl, iv3.trans (by rw [show m.toNat = x3.toNatClampNeg by omega])⟩
        · skip
          refine r_bipush C (oDec_at oX12_checked 7 rfl) (v := k7) (by rw [qk7]; rfl) ?_
          refine r_iload_n C (j := 2) (oDec_at oX12_checked 8 rfl) rfl rfl ?_
          obtain ⟨v2, ev2⟩ : ∃ z : Int32, z = k7 * x2 := ⟨_, rfl⟩
          have hv2 : v2.toInt = 7 * x2.toInt := n_mulK' 7 ev2 ek7 (by omega) (by omega)
          refine r_imul C v2 (oDec_at oX12_checked 9 rfl) ev2 ?_
          refine r_aload_n C (j := 0) (oDec_at oX12_checked 10 rfl) rfl rfl ?_
          refine r_iload_n C (j := 3) (oDec_at oX12_checked 11 rfl) rfl rfl ?_
          obtain ⟨v4, ev4⟩ : ∃ z : Int32, (t).1 c0 x3.toNatClampNeg = z := ⟨_, rfl⟩
          have gv4 : (t.1 c0 x3.toNatClampNeg).toInt = v4.toInt := congrArg Int32.toInt (ev4)
          have rv4 := n_rng v4
          refine r_iald (n := n0)  C v4 hk0 h13_0 ht0 hn0 ⟨by omega, by omega⟩ h9_0 ev4 rfl rfl (oDec_at oX12_checked 12 rfl) (fun _ _ => ?_)
          have rv4 := n_rng v4
          refine r_pc C 17 rfl ?_
          have hg17 := iv1 x3.toNatClampNeg (by omega)
          obtain ⟨v5, ev5⟩ : ∃ z : Int32, z = v2 + v4 := ⟨_, rfl⟩
          have hv5 : v5.toInt = v2.toInt + v4.toInt := n_add ev5 (by omega) (by omega)
          refine r_iadd C v5 (oDec_at oX12_checked 13 rfl) ev5 ?_
          refine r_sipush C (oDec_at oX12_checked 14 rfl) (v := k251) (by rw [qk251]; rfl) ?_
          obtain ⟨v6, ev6⟩ : ∃ z : Int32, z = v5 - v5 / k251 * k251 := ⟨_, rfl⟩
          have hv6 := (n_rem (k := 251) ev6 ek251 (by decide)).1 (by omega)
          refine r_irem C v6 (oDec_at oX12_checked 15 rfl) (n_ne0 (by omega)) ev6 ?_
          refine r_istore_n C (lv' := [(0, .ref (oad E c0)), (1, .int a1), (2, .int v6), (3, .int x3)]) [1, 2, 0, 3] (oDec_at oX12_checked 16 rfl) rfl (by decide) rfl ?_
          obtain ⟨v7, ev7⟩ : ∃ z : Int32, x3 + Int32.ofInt 1 = z := ⟨_, rfl⟩
          have hv7 : v7.toInt = x3.toInt + 1 := n_inc ev7 (by decide) (by omega) (by omega)
          refine r_iinc C (j := 3) (lv' := [(0, .ref (oad E c0)), (1, .int a1), (2, .int v6), (3, .int v7)]) v7 [1, 2, 3, 0] (oDec_at oX12_checked 17 rfl) rfl ev7 (by decide) rfl ?_
          refine r_goto C (tgt := 5) (oDec_at oX12_checked 18 rfl) (by decide) ?_
          exact (ih (n - 1) (by omega)) (t) v6 v7  (by omega) (by first | exact iv1 | exact hp3) (by omega) (by first | exact oqC_nx (x := x3) (y := v7) iv3 hg17.1.symm (by omega) (by omega) (by omega) | (rw [oqC_at0 (by omega)]; omega)) (by omega)
  refine r_bipush C (oDec_at oX12_checked 0 rfl) (v := k23) (by rw [qk23]; rfl) ?_
  refine r_istore_n C (lv' := [(0, .ref (oad E c0)), (1, .int a1), (2, .int k23)]) [1, 2, 0] (oDec_at oX12_checked 1 rfl) rfl (by decide) rfl ?_
  refine r_iconst C (oDec_at oX12_checked 2 rfl) (v := k0) (by rw [qk0]; rfl) ?_
  refine r_istore_n C (lv' := [(0, .ref (oad E c0)), (1, .int a1), (2, .int k23), (3, .int k0)]) [1, 2, 3, 0] (oDec_at oX12_checked 3 rfl) rfl (by decide) rfl ?_
  exact (key (a1.toInt - k0.toInt + 1).toNat) (s) k23 k0  (by omega) (by first | exact hp3) (by omega) (by first | (rw [oqC_at0 (by omega)]; omega)) (by omega)
