set_option maxHeartbeats 4000000 in
set_option maxRecDepth 100000 in
theorem ct8_X0_letterOf (l : Launch) (E : oE) (s : oS) (c0 : Nat) (hk0 : okd c0 = 0) (a1 : Int32) (a2 : Int32)   : oMet l 1 yX0_letterOf cX0_letterOf 3 (some .int) [] E s [.ref (oad E c0), .int a1, .int a2] (oPi (fun r u => ((0 ≤ a1.toInt ∧ a1.toInt < (u.1 c0 8).toInt ∧ a1.toInt ≤ 5 ∧ 0 ≤ a2.toInt ∧ a2.toInt ≤ 5) → r.toInt = (s.1 (c0 + 4) (6 * a1.toNatClampNeg + a2.toNatClampNeg)).toInt) ∧ (¬ (0 ≤ a1.toInt ∧ a1.toInt < (u.1 c0 8).toInt ∧ a1.toInt ≤ 5 ∧ 0 ≤ a2.toInt ∧ a2.toInt ≤ 5) → r.toInt = -1))) := by
  refine oMet.of (lv := [(0, .ref (oad E c0)), (1, .int a1), (2, .int a2)]) (by decide +kernel) (Nat.le_of_ble_eq_true rfl) rfl (fun J C hT => ?_)
  have C : oC l 1 cX0_letterOf RX0 3 (some .int) [] E s (oPi (fun r u => ((0 ≤ a1.toInt ∧ a1.toInt < (u.1 c0 8).toInt ∧ a1.toInt ≤ 5 ∧ 0 ≤ a2.toInt ∧ a2.toInt ≤ 5) → r.toInt = (s.1 (c0 + 4) (6 * a1.toNatClampNeg + a2.toNatClampNeg)).toInt) ∧ (¬ (0 ≤ a1.toInt ∧ a1.toInt < (u.1 c0 8).toInt ∧ a1.toInt ≤ 5 ∧ 0 ≤ a2.toInt ∧ a2.toInt ≤ 5) → r.toInt = -1))) J := C
  obtain ⟨km1, qkm1⟩ : ∃ z : Int32, z = (-1) := ⟨_, rfl⟩
  have ekm1 : km1.toInt = (-1) := by rw [qkm1]; rfl
  obtain ⟨k6, qk6⟩ : ∃ z : Int32, z = 6 := ⟨_, rfl⟩
  have ek6 : k6.toInt = 6 := by rw [qk6]; rfl
  have rg1 := n_rng a1
  have rg2 := n_rng a2
  have hn1 := n_nat a1
  have hn2 := n_nat a2
  refine r_iload_n C (j := 1) (oDec_at oX0_letterOf 0 rfl) rfl rfl ?_
  refine r_if_lt C 28 (oDec_at oX0_letterOf 1 rfl) (by decide) (fun cd1 => ?_) (fun cd1 => ?_)
  · skip
    refine r_iconst C (oDec_at oX0_letterOf 14 rfl) (v := km1) (by rw [qkm1]; rfl) ?_
    exact r_iret C (oDec_at oX0_letterOf 15 rfl) ⟨_, rfl, ⟨by omega, by omega⟩⟩
  · skip
    refine r_iload_n C (j := 1) (oDec_at oX0_letterOf 2 rfl) rfl rfl ?_
    refine r_aload_n C (j := 0) (oDec_at oX0_letterOf 3 rfl) rfl rfl ?_
    obtain ⟨v2, ev2⟩ : ∃ z : Int32, (s).1 c0 8 = z := ⟨_, rfl⟩
    have gv2 : (s.1 c0 8).toInt = v2.toInt := congrArg Int32.toInt (ev2)
    refine r_geti (k := 8) (lo := 0) (hi := 6) C v2 oCl0 hk0 (by decide) flX0_39 rfl rfl (ev2) rfl rfl (oDec_at oX0_letterOf 4 rfl) (fun b3 b3h => ?_)
    refine r_icmp_ge C 28 (oDec_at oX0_letterOf 5 rfl) (by decide) (fun cd4 => ?_) (fun cd4 => ?_)
    · skip
      refine r_iconst C (oDec_at oX0_letterOf 14 rfl) (v := km1) (by rw [qkm1]; rfl) ?_
      have lk5 : ((s).1 c0 8).toInt = v2.toInt := congrArg Int32.toInt (ev2)
      have lk6 : ((s).1 c0 8).toInt = v2.toInt := congrArg Int32.toInt (ev2)
      exact r_iret C (oDec_at oX0_letterOf 15 rfl) ⟨_, rfl, ⟨by omega, by omega⟩⟩
    · skip
      refine r_iload_n C (j := 1) (oDec_at oX0_letterOf 6 rfl) rfl rfl ?_
      refine r_bipush C (oDec_at oX0_letterOf 7 rfl) (v := k6) (by rw [qk6]; rfl) ?_
      refine r_icmp_ge C 28 (oDec_at oX0_letterOf 8 rfl) (by decide) (fun cd7 => ?_) (fun cd7 => ?_)
      · skip
        refine r_iconst C (oDec_at oX0_letterOf 14 rfl) (v := km1) (by rw [qkm1]; rfl) ?_
        have lk8 : ((s).1 c0 8).toInt = v2.toInt := congrArg Int32.toInt (ev2)
        have lk9 : ((s).1 c0 8).toInt = v2.toInt := congrArg Int32.toInt (ev2)
        exact r_iret C (oDec_at oX0_letterOf 15 rfl) ⟨_, rfl, ⟨by omega, by omega⟩⟩
      · skip
        refine r_iload_n C (j := 2) (oDec_at oX0_letterOf 9 rfl) rfl rfl ?_
        refine r_if_lt C 28 (oDec_at oX0_letterOf 10 rfl) (by decide) (fun cd10 => ?_) (fun cd10 => ?_)
        · skip
          refine r_iconst C (oDec_at oX0_letterOf 14 rfl) (v := km1) (by rw [qkm1]; rfl) ?_
          have lk11 : ((s).1 c0 8).toInt = v2.toInt := congrArg Int32.toInt (ev2)
          have lk12 : ((s).1 c0 8).toInt = v2.toInt := congrArg Int32.toInt (ev2)
          exact r_iret C (oDec_at oX0_letterOf 15 rfl) ⟨_, rfl, ⟨by omega, by omega⟩⟩
        · skip
          refine r_iload_n C (j := 2) (oDec_at oX0_letterOf 11 rfl) rfl rfl ?_
          refine r_bipush C (oDec_at oX0_letterOf 12 rfl) (v := k6) (by rw [qk6]; rfl) ?_
          refine r_icmp_lt C 30 (oDec_at oX0_letterOf 13 rfl) (by decide) (fun cd13 => ?_) (fun cd13 => ?_)
          · skip
            refine r_aload_n C (j := 0) (oDec_at oX0_letterOf 16 rfl) rfl rfl ?_
            refine r_getR (k := 4) (b := 4) C oCl0 hk0 (by decide) flX0_23 rfl rfl rfl (oDec_at oX0_letterOf 17 rfl) ?_
            refine r_iload_n C (j := 1) (oDec_at oX0_letterOf 18 rfl) rfl rfl ?_
            refine r_bipush C (oDec_at oX0_letterOf 19 rfl) (v := k6) (by rw [qk6]; rfl) ?_
            obtain ⟨v14, ev14⟩ : ∃ z : Int32, z = a1 * k6 := ⟨_, rfl⟩
            have hv14 : v14.toInt = a1.toInt * 6 := n_mulK 6 ev14 ek6 (by omega) (by omega)
            refine r_imul C v14 (oDec_at oX0_letterOf 20 rfl) ev14 ?_
            refine r_iload_n C (j := 2) (oDec_at oX0_letterOf 21 rfl) rfl rfl ?_
            refine r_pc C 39 rfl ?_
            obtain ⟨v15, ev15⟩ : ∃ z : Int32, z = v14 + a2 := ⟨_, rfl⟩
            have hv15 : v15.toInt = v14.toInt + a2.toInt := n_add ev15 (by omega) (by omega)
            refine r_iadd C v15 (oDec_at oX0_letterOf 22 rfl) ev15 ?_
            obtain ⟨v17, ev17⟩ : ∃ z : Int32, (s).1 (c0 + 4) v15.toNatClampNeg = z := ⟨_, rfl⟩
            have gv17 : (s.1 (c0 + 4) v15.toNatClampNeg).toInt = v17.toInt := congrArg Int32.toInt (ev17)
            have rv17 := n_rng v17
            refine r_iald (n := 36) (lo := (-2147483648)) (hi := 2147483647) C v17 (kr0_4 hk0) (by decide) rfl rfl ⟨by omega, by omega⟩ (by decide) ev17 rfl rfl (oDec_at oX0_letterOf 23 rfl) (fun _ _ => ?_)
            have lk18 : ((s).1 c0 8).toInt = v2.toInt := congrArg Int32.toInt (ev2)
            have lk19 : ((s).1 c0 8).toInt = v2.toInt := congrArg Int32.toInt (ev2)
            exact r_iret C (oDec_at oX0_letterOf 24 rfl) ⟨_, rfl, ⟨fun _ => by rw [show 6 * a1.toNatClampNeg + a2.toNatClampNeg = v15.toNatClampNeg by (have h3 := n_nat v15; omega)]; exact (congrArg Int32.toInt ev17).symm, by omega⟩⟩
          · skip
            refine r_iconst C (oDec_at oX0_letterOf 14 rfl) (v := km1) (by rw [qkm1]; rfl) ?_
            have lk20 : ((s).1 c0 8).toInt = v2.toInt := congrArg Int32.toInt (ev2)
            have lk21 : ((s).1 c0 8).toInt = v2.toInt := congrArg Int32.toInt (ev2)
            exact r_iret C (oDec_at oX0_letterOf 15 rfl) ⟨_, rfl, ⟨by omega, by omega⟩⟩
set_option maxHeartbeats 4000000 in
set_option maxRecDepth 100000 in
theorem ct8_X11_letter (l : Launch) (E : oE) (s : oS) (a1 : Int32) (a2 : Int32) (M : Int) (N : Nat → Nat → Int) (hp0 : oqNC M N s) : oMet l 2 yX11_letter cX11_letter 3 (some .int) [] E s [.ref (oad E 0), .int a1, .int a2] (oPi (fun r u => (r.toInt = oqLt M N a1.toInt a2.toInt))) := by
  refine oMet.of (lv := [(0, .ref (oad E 0)), (1, .int a1), (2, .int a2)]) (by decide +kernel) (Nat.le_of_ble_eq_true rfl) rfl (fun J C hT => ?_)
  have C : oC l 2 cX11_letter RX11 3 (some .int) [] E s (oPi (fun r u => (r.toInt = oqLt M N a1.toInt a2.toInt))) J := C
  have rg1 := n_rng a1
  have rg2 := n_rng a2
  obtain ⟨cb, db, hBD, hM, hNN⟩ := id hp0
  refine r_aload_n C (j := 0) (oDec_at oX11_letter 0 rfl) rfl rfl ?_
  refine r_getS (k := 4) (q2 := 0) C oCl11 rfl (by decide) flX11_32 rfl rfl rfl ks1 (oDec_at oX11_letter 1 rfl) (fun b1 rb1 mb1 hkb1 => ?_)
  refine r_iload_n C (j := 1) (oDec_at oX11_letter 2 rfl) rfl rfl ?_
  refine r_iload_n C (j := 2) (oDec_at oX11_letter 3 rfl) rfl rfl ?_
  have hb9 : b1 = cb := (by have h1 := hBD.1; have h2 := (rb1); omega)
  have hM2 : (s.1 b1 8).toInt = M := by rw [hb9]; exact hM
  have hN2 : ∀ m : Nat, (m : Int) < M → ∀ k : Nat, k < 6 → (s.1 (b1 + 4) (6 * m + k)).toInt = N m k := by rw [hb9]; exact hNN
  have htm : (s.1 b1 8).toInt ≤ 6 := by have h9 := hT.1 b1 8; rw [hkb1] at h9; exact h9.2
  refine r_callVi C oCl0 hkb1 miX0_letterOf mlX11_171 (ct8_X0_letterOf l E (s) b1 hkb1 a1 a2 ) (by decide) rfl rfl rfl (Nat.le_of_ble_eq_true rfl) (oDec_at oX11_letter 4 rfl) (fun r3 u2 pu2 fu2 => ?_)
  try dsimp only at pu2
  obtain ⟨pu2_0, pu2_1⟩ := pu2
  have hxu2 := oFr_nil fu2; subst hxu2
  have rr3 := n_rng r3
  exact r_iret C (oDec_at oX11_letter 5 rfl) ⟨_, rfl, oqLt_c (by omega) (fun h => pu2_0 (by omega)) (fun h => pu2_1 (by omega)) hN2⟩
set_option maxHeartbeats 4000000 in
set_option maxRecDepth 100000 in
theorem ct8_X12_letter (l : Launch) (E : oE) (s : oS) (a1 : Int32) (a2 : Int32) (M : Int) (N : Nat → Nat → Int) (hp0 : oqNE M N s) : oMet l 2 yX12_letter cX12_letter 8 (some .int) [] E s [.ref (oad E 71), .int a1, .int a2] (oPi (fun r u => (r.toInt = oqLt M N a1.toInt a2.toInt))) := by
  refine oMet.of (lv := [(0, .ref (oad E 71)), (1, .int a1), (2, .int a2)]) (by decide +kernel) (Nat.le_of_ble_eq_true rfl) rfl (fun J C hT => ?_)
  have C : oC l 2 cX12_letter RX12 8 (some .int) [] E s (oPi (fun r u => (r.toInt = oqLt M N a1.toInt a2.toInt))) J := C
  obtain ⟨km1, qkm1⟩ : ∃ z : Int32, z = (-1) := ⟨_, rfl⟩
  have ekm1 : km1.toInt = (-1) := by rw [qkm1]; rfl
  obtain ⟨k0, qk0⟩ : ∃ z : Int32, z = 0 := ⟨_, rfl⟩
  have ek0 : k0.toInt = 0 := by rw [qk0]; rfl
  obtain ⟨k1, qk1⟩ : ∃ z : Int32, z = 1 := ⟨_, rfl⟩
  have ek1 : k1.toInt = 1 := by rw [qk1]; rfl
  obtain ⟨j0, qj0⟩ : ∃ z : Int64, z = 0 := ⟨_, rfl⟩
  have ej0 : j0.toInt = 0 := by rw [qj0]; rfl
  obtain ⟨j5, qj5⟩ : ∃ z : Int64, z = 5 := ⟨_, rfl⟩
  have ej5 : j5.toInt = 5 := by rw [qj5]; rfl
  obtain ⟨j27, qj27⟩ : ∃ z : Int64, z = 27 := ⟨_, rfl⟩
  have ej27 : j27.toInt = 27 := by rw [qj27]; rfl
  have rg1 := n_rng a1
  have rg2 := n_rng a2
  have hn1 := n_nat a1
  have hn2 := n_nat a2
  obtain ⟨L, hL⟩ : ∃ L : Nat, 0 ≤ a1.toInt → a1.toInt < M → oqLn (N a1.toNatClampNeg) L := oqLn_ex (m := a1.toInt) hp0
  have hM6 := hp0.1
  have key : ∀ n : Nat, (∀ (t : oS) (x3 : Int64) (x5 : Int32) (x6 : Int64), (0 ≤ a1.toInt ∧ a1.toInt < M ∧ 0 ≤ a2.toInt ∧ a2.toInt ≤ 5) → (x3.toInt = oqVf (N a1.toNatClampNeg) 6) → (0 ≤ x5.toInt ∧ x5.toInt ≤ (L : Int)) → (oqZq (N a1.toNatClampNeg) L x5.toInt x6.toInt) → (L : Int) - x5.toInt + 10 ≤ (n : Int) → J t 45 [(2, .int a2), (3, .long x3), (5, .int x5), (6, .long x6)] []) ∧ (∀ (t : oS) (x3 : Int64) (x6 : Int32), (0 ≤ a1.toInt ∧ a1.toInt < M ∧ 0 ≤ a2.toInt ∧ a2.toInt ≤ 5) → (a2.toInt ≤ x6.toInt ∧ x6.toInt < (L : Int)) → (oqVq (N a1.toNatClampNeg) L x6.toInt x3.toInt) → x6.toInt - a2.toInt + 1 ≤ (n : Int) → J t 80 [(2, .int a2), (3, .long x3), (6, .int x6)] []) := by
    intro n
    induction n using Nat.strongRecOn with
    | _ n ih =>
      refine ⟨?_, ?_⟩
      · intro t x3 x5 x6  iv0 iv1 iv2 iv3 hmu
        have rx5 := n_rng x5
        have hL3 := hL (by omega) (by omega)
        have hL6 := hL3.2.1
        refine r_lload C (j := 3) (oDec_at oX12_letter 29 rfl) rfl ?_
        refine r_lconst C (oDec_at oX12_letter 30 rfl) (v := j0) (by rw [qj0]; rfl) ?_
        obtain ⟨v1, ev1⟩ : ∃ z : Int32, z = lg_cmp x6 j0 := ⟨_, rfl⟩
        have hv1 := n_lcmp ev1
        refine r_lcmp C v1 (oDec_at oX12_letter 31 rfl) ev1 ?_
        refine r_if_le C 66 (oDec_at oX12_letter 32 rfl) (by decide) (fun cd2 => ?_) (fun cd2 => ?_)
        · skip
          have hend := oqZq_end hL3 iv3 (by omega)
          refine r_iload_n C (j := 0) (oDec_at oX12_letter 39 rfl) rfl rfl ?_
          refine r_iload C (j := 2) (oDec_at oX12_letter 40 rfl) rfl ?_
          refine r_icmp_lt C 74 (oDec_at oX12_letter 41 rfl) (by decide) (fun cd3 => ?_) (fun cd3 => ?_)
          · skip
            refine r_iload C (j := 2) (oDec_at oX12_letter 44 rfl) rfl ?_
            refine r_iconst C (oDec_at oX12_letter 45 rfl) (v := k1) (by rw [qk1]; rfl) ?_
            obtain ⟨v4, ev4⟩ : ∃ z : Int32, z = x5 - k1 := ⟨_, rfl⟩
            have hv4 : v4.toInt = x5.toInt - k1.toInt := n_sub ev4 (by omega) (by omega)
            refine r_isub C v4 (oDec_at oX12_letter 46 rfl) ev4 ?_
            refine r_istore C (lv' := [(2, .int a2), (3, .long x3), (5, .int x5), (6, .int v4)]) [1, 2, 3, 0] (oDec_at oX12_letter 47 rfl) (by decide) rfl ?_
            refine r_pick C [0, 1, 3] rfl ?_
            exact (ih (n - 1) (by omega)).2 (t) x3 v4  (by omega) (by omega) (by first | exact oqVq_nx hL3 iv2 (by omega) (by omega) (by omega) | exact oqVq_0 hL3 (by omega) (by omega) (by omega)) (by omega)
          · skip
            refine r_iconst C (oDec_at oX12_letter 42 rfl) (v := k0) (by rw [qk0]; rfl) ?_
            exact r_iret C (oDec_at oX12_letter 43 rfl) ⟨_, rfl, by rw [oqLt_y (by omega)]; have h9 := hL3.2.2.2.1 a2.toNatClampNeg (by omega) (by omega); show _ = N a1.toNatClampNeg a2.toNatClampNeg; omega⟩
        · skip
          obtain ⟨v5, ev5⟩ : ∃ z : Int32, x5 + Int32.ofInt 1 = z := ⟨_, rfl⟩
          have hv5 : v5.toInt = x5.toInt + 1 := n_inc ev5 (by decide) (by omega) (by omega)
          refine r_iinc C (j := 2) (lv' := [(2, .int a2), (3, .long x3), (5, .int v5), (6, .long x6)]) v5 [1, 2, 0, 3] (oDec_at oX12_letter 33 rfl) rfl ev5 (by decide) rfl ?_
          have hlt := oqZq_lt hL3 iv3 (by omega)
          refine r_lload C (j := 3) (oDec_at oX12_letter 34 rfl) rfl ?_
          refine r_ldc2 C (v := j27) (by rw [qj27]; exact klX12_227) (oDec_at oX12_letter 35 rfl) ?_
          obtain ⟨v6, ev6⟩ : ∃ z : Int64, z = x6 / j27 := ⟨_, rfl⟩
          have hv6 := n_ldivK ev6 ej27 (by decide) (by omega)
          refine r_ldiv C v6 (oDec_at oX12_letter 36 rfl) (by rw [qj27]; decide) ev6 ?_
          refine r_lstore C (lv' := [(2, .int a2), (3, .long x3), (5, .int v5), (6, .long v6)]) [1, 2, 3, 0] (oDec_at oX12_letter 37 rfl) (by decide) rfl ?_
          refine r_goto C (tgt := 45) (oDec_at oX12_letter 38 rfl) (by decide) ?_
          exact (ih (n - 1) (by omega)).1 (t) x3 v5 v6  (by omega) (by omega) (by omega) (by first | exact oqZq_nx hL3 iv3 (by omega) (by omega) (by omega) | exact oqZq_0 hL3 (by omega) (by omega)) (by omega)
      · intro t x3 x6  iv0 iv1 iv2 hmu
        have rx6 := n_rng x6
        have hL3 := hL (by omega) (by omega)
        have hL6 := hL3.2.1
        have hvq := oqVq_end hL3 iv2
        have hn6 := n_nat x6
        refine r_iload C (j := 2) (oDec_at oX12_letter 48 rfl) rfl ?_
        refine r_iload_n C (j := 0) (oDec_at oX12_letter 49 rfl) rfl rfl ?_
        refine r_icmp_le C 98 (oDec_at oX12_letter 50 rfl) (by decide) (fun cd7 => ?_) (fun cd7 => ?_)
        · skip
          refine r_lload_n C (j := 1) (oDec_at oX12_letter 57 rfl) rfl rfl ?_
          refine r_ldc2 C (v := j27) (by rw [qj27]; exact klX12_227) (oDec_at oX12_letter 58 rfl) ?_
          obtain ⟨v8, ev8⟩ : ∃ z : Int64, z = x3 - x3 / j27 * j27 := ⟨_, rfl⟩
          have hv8 := n_lrem27 ev8 ej27 (by omega)
          refine r_lrem C v8 (oDec_at oX12_letter 59 rfl) (by rw [qj27]; decide) ev8 ?_
          obtain ⟨v9, ev9⟩ : ∃ z : Int32, v8.toInt32 = z := ⟨_, rfl⟩
          have rv9 := n_rng v9
          refine r_l2i C v9 (oDec_at oX12_letter 60 rfl) ev9 ?_
          have hl2i := n_l2i ev9 (by omega) (by omega)
          exact r_iret C (oDec_at oX12_letter 61 rfl) ⟨_, rfl, by rw [oqLt_y (by omega)]; show _ = N a1.toNatClampNeg a2.toNatClampNeg; rw [show a2.toNatClampNeg = x6.toInt.toNat by omega]; omega⟩
        · skip
          refine r_lload_n C (j := 1) (oDec_at oX12_letter 51 rfl) rfl rfl ?_
          refine r_ldc2 C (v := j27) (by rw [qj27]; exact klX12_227) (oDec_at oX12_letter 52 rfl) ?_
          obtain ⟨v10, ev10⟩ : ∃ z : Int64, z = x3 / j27 := ⟨_, rfl⟩
          have hv10 := n_ldivK ev10 ej27 (by decide) (by omega)
          refine r_ldiv C v10 (oDec_at oX12_letter 53 rfl) (by rw [qj27]; decide) ev10 ?_
          refine r_lstore_n C (lv' := [(2, .int a2), (3, .long v10), (6, .int x6)]) [1, 0, 2] (oDec_at oX12_letter 54 rfl) rfl (by decide) rfl ?_
          obtain ⟨v11, ev11⟩ : ∃ z : Int32, x6 + Int32.ofInt (-1) = z := ⟨_, rfl⟩
          have hv11 : v11.toInt = x6.toInt + (-1) := n_inc ev11 (by decide) (by omega) (by omega)
          refine r_iinc C (j := 2) (lv' := [(2, .int a2), (3, .long v10), (6, .int v11)]) v11 [1, 2, 0] (oDec_at oX12_letter 55 rfl) rfl ev11 (by decide) rfl ?_
          refine r_goto C (tgt := 80) (oDec_at oX12_letter 56 rfl) (by decide) ?_
          exact (ih (n - 1) (by omega)).2 (t) v10 v11  (by omega) (by omega) (by first | exact oqVq_nx hL3 iv2 (by omega) (by omega) (by omega) | exact oqVq_0 hL3 (by omega) (by omega) (by omega)) (by omega)
  refine r_iload_n C (j := 1) (oDec_at oX12_letter 0 rfl) rfl rfl ?_
  obtain ⟨v12, ev12⟩ : ∃ z : Int64, a1.toInt64 = z := ⟨_, rfl⟩
  have hv12 : v12.toInt = a1.toInt := n_i2l ev12
  refine r_i2l C v12 (oDec_at oX12_letter 1 rfl) ev12 ?_
  refine r_lconst C (oDec_at oX12_letter 2 rfl) (v := j0) (by rw [qj0]; rfl) ?_
  refine r_aload_n C (j := 0) (oDec_at oX12_letter 3 rfl) rfl rfl ?_
  refine r_getF (k := 49) (b := 104) C oCl12 rfl (by decide) flX12_114 rfl rfl rfl (oDec_at oX12_letter 4 rfl) ?_
  refine r_iconst C (oDec_at oX12_letter 5 rfl) (v := k1) (by rw [qk1]; rfl) ?_
  refine r_pc C 8 rfl ?_
  obtain ⟨v14, ev14⟩ : ∃ z : Int32, (s).1 104 k1.toNatClampNeg = z := ⟨_, rfl⟩
  have gv14 : (s.1 104 k1.toNatClampNeg).toInt = v14.toInt := congrArg Int32.toInt (ev14)
  refine r_iald (n := 4) (lo := 0) (hi := 12) C v14 rfl (by decide) rfl rfl ⟨by omega, by omega⟩ (by decide) ev14 rfl rfl (oDec_at oX12_letter 6 rfl) (fun b13 b13h => ?_)
  have hmy : v14.toInt = M := oqNE_m hp0 ev14 ek1
  refine r_iconst C (oDec_at oX12_letter 7 rfl) (v := k1) (by rw [qk1]; rfl) ?_
  obtain ⟨v15, ev15⟩ : ∃ z : Int32, z = v14 - k1 := ⟨_, rfl⟩
  have hv15 : v15.toInt = v14.toInt - k1.toInt := n_sub ev15 (by omega) (by omega)
  refine r_isub C v15 (oDec_at oX12_letter 8 rfl) ev15 ?_
  obtain ⟨v16, ev16⟩ : ∃ z : Int64, v15.toInt64 = z := ⟨_, rfl⟩
  have hv16 : v16.toInt = v15.toInt := n_i2l ev16
  refine r_i2l C v16 (oDec_at oX12_letter 9 rfl) ev16 ?_
  refine r_callSi C miX12_isIn mlX12_216 (ct_X12_isIn l E (s) v12 j0 v16 ) (by decide) rfl rfl rfl (Nat.le_of_ble_eq_true rfl) (oDec_at oX12_letter 10 rfl) (fun r18 u17 pu17 fu17 => ?_)
  try dsimp only at pu17
  obtain ⟨pu17_0, pu17_1⟩ := pu17
  have hxu17 := oFr_nil fu17; subst hxu17
  have rr18 := n_rng r18
  refine r_if_eq C 30 (oDec_at oX12_letter 11 rfl) (by decide) (fun cd19 => ?_) (fun cd19 => ?_)
  · skip
    refine r_iconst C (oDec_at oX12_letter 18 rfl) (v := km1) (by rw [qkm1]; rfl) ?_
    exact r_iret C (oDec_at oX12_letter 19 rfl) ⟨_, rfl, by rw [oqLt_n (by omega)]; omega⟩
  · skip
    refine r_iload_n C (j := 2) (oDec_at oX12_letter 12 rfl) rfl rfl ?_
    obtain ⟨v20, ev20⟩ : ∃ z : Int64, a2.toInt64 = z := ⟨_, rfl⟩
    have hv20 : v20.toInt = a2.toInt := n_i2l ev20
    refine r_i2l C v20 (oDec_at oX12_letter 13 rfl) ev20 ?_
    refine r_lconst C (oDec_at oX12_letter 14 rfl) (v := j0) (by rw [qj0]; rfl) ?_
    refine r_ldc2 C (v := j5) (by rw [qj5]; exact klX12_381) (oDec_at oX12_letter 15 rfl) ?_
    refine r_callSi C miX12_isIn mlX12_216 (ct_X12_isIn l E (s) v20 j0 j5 ) (by decide) rfl rfl rfl (Nat.le_of_ble_eq_true rfl) (oDec_at oX12_letter 16 rfl) (fun r22 u21 pu21 fu21 => ?_)
    try dsimp only at pu21
    obtain ⟨pu21_0, pu21_1⟩ := pu21
    have hxu21 := oFr_nil fu21; subst hxu21
    have rr22 := n_rng r22
    refine r_if_ne C 32 (oDec_at oX12_letter 17 rfl) (by decide) (fun cd23 => ?_) (fun cd23 => ?_)
    · skip
      refine r_aload_n C (j := 0) (oDec_at oX12_letter 20 rfl) rfl rfl ?_
      refine r_getF (k := 52) (b := 107) C oCl12 rfl (by decide) flX12_123 rfl rfl rfl (oDec_at oX12_letter 21 rfl) ?_
      refine r_iload_n C (j := 1) (oDec_at oX12_letter 22 rfl) rfl rfl ?_
      obtain ⟨v24, ev24⟩ : ∃ z : Int64, (s).2.1 107 a1.toNatClampNeg = z := ⟨_, rfl⟩
      refine r_lald (n := 12) C v24 rfl (by decide) rfl rfl ⟨by omega, by omega⟩ (by decide) ev24 (oDec_at oX12_letter 23 rfl) ?_
      have hv9 : v24.toInt = oqVf (N a1.toNatClampNeg) 6 := oqNE_v hp0 ev24 (by omega) (by omega)
      have hL3 := hL (by omega) (by omega)
      have hL6 := hL3.2.1
      refine r_lstore_n C (lv' := [(0, .ref (oad E 71)), (1, .int a1), (2, .int a2), (3, .long v24)]) [1, 2, 3, 0] (oDec_at oX12_letter 24 rfl) rfl (by decide) rfl ?_
      refine r_iconst C (oDec_at oX12_letter 25 rfl) (v := k0) (by rw [qk0]; rfl) ?_
      refine r_pc C 40 rfl ?_
      refine r_istore C (lv' := [(0, .ref (oad E 71)), (1, .int a1), (2, .int a2), (3, .long v24), (5, .int k0)]) [1, 2, 3, 4, 0] (oDec_at oX12_letter 26 rfl) (by decide) rfl ?_
      refine r_lload_n C (j := 3) (oDec_at oX12_letter 27 rfl) rfl rfl ?_
      refine r_lstore C (lv' := [(0, .ref (oad E 71)), (1, .int a1), (2, .int a2), (3, .long v24), (5, .int k0), (6, .long v24)]) [1, 2, 3, 4, 5, 0] (oDec_at oX12_letter 28 rfl) (by decide) rfl ?_
      refine r_pick C [2, 3, 4, 5] rfl ?_
      exact (key ((L : Int) - k0.toInt + 10).toNat).1 (s) v24 k0 v24  (by omega) (by omega) (by omega) (by first | exact oqZq_0 hL3 (by omega) (by omega)) (by omega)
    · skip
      refine r_iconst C (oDec_at oX12_letter 18 rfl) (v := km1) (by rw [qkm1]; rfl) ?_
      exact r_iret C (oDec_at oX12_letter 19 rfl) ⟨_, rfl, by rw [oqLt_n (by omega)]; omega⟩
