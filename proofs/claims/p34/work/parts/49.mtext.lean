set_option maxHeartbeats 4000000 in
set_option maxRecDepth 100000 in
theorem ct_X12_floor (l : Launch) (E : oE) (s : oS) (a0 : Int64) (a2 : Int64)   : oMet l 1 yX12_floor cX12_floor 6 (some .long) [] E s [.long a0, .long a2] (oPl (fun r u => True)) := by
  refine oMet.of (lv := [(0, .long a0), (2, .long a2)]) (by decide +kernel) (Nat.le_of_ble_eq_true rfl) rfl (fun J C hT => ?_)
  have C : oC l 1 cX12_floor RX12 6 (some .long) [] E s (oPl (fun r u => True)) J := C
  obtain ⟨k0, qk0⟩ : ∃ z : Int32, z = 0 := ⟨_, rfl⟩
  have ek0 : k0.toInt = 0 := by rw [qk0]; rfl
  obtain ⟨k1, qk1⟩ : ∃ z : Int32, z = 1 := ⟨_, rfl⟩
  have ek1 : k1.toInt = 1 := by rw [qk1]; rfl
  obtain ⟨j0, qj0⟩ : ∃ z : Int64, z = 0 := ⟨_, rfl⟩
  have ej0 : j0.toInt = 0 := by rw [qj0]; rfl
  obtain ⟨j1, qj1⟩ : ∃ z : Int64, z = 1 := ⟨_, rfl⟩
  have ej1 : j1.toInt = 1 := by rw [qj1]; rfl
  refine r_lload_n C (j := 1) (oDec_at oX12_floor 0 rfl) rfl rfl ?_
  refine r_lconst C (oDec_at oX12_floor 1 rfl) (v := j0) (by rw [qj0]; rfl) ?_
  obtain ⟨v1, ev1⟩ : ∃ z : Int32, z = lg_cmp a2 j0 := ⟨_, rfl⟩
  have hv1 := n_lcmp ev1
  refine r_lcmp C v1 (oDec_at oX12_floor 2 rfl) ev1 ?_
  refine r_if_ne C 8 (oDec_at oX12_floor 3 rfl) (by decide) (fun cd2 => ?_) (fun cd2 => ?_)
  · skip
    refine r_lload_n C (j := 0) (oDec_at oX12_floor 6 rfl) rfl rfl ?_
    refine r_lload_n C (j := 1) (oDec_at oX12_floor 7 rfl) rfl rfl ?_
    obtain ⟨v3, ev3⟩ : ∃ z : Int64, z = a0 / a2 := ⟨_, rfl⟩
    refine r_ldiv C v3 (oDec_at oX12_floor 8 rfl) (n_ne0L (by omega)) ev3 ?_
    refine r_lstore C (lv' := [(0, .long a0), (2, .long a2), (4, .long v3)]) [1, 2, 0] (oDec_at oX12_floor 9 rfl) (by decide) rfl ?_
    refine r_lload_n C (j := 0) (oDec_at oX12_floor 10 rfl) rfl rfl ?_
    refine r_lload_n C (j := 1) (oDec_at oX12_floor 11 rfl) rfl rfl ?_
    refine r_pc C 15 rfl ?_
    obtain ⟨v4, ev4⟩ : ∃ z : Int64, z = a0 - a0 / a2 * a2 := ⟨_, rfl⟩
    refine r_lrem C v4 (oDec_at oX12_floor 12 rfl) (n_ne0L (by omega)) ev4 ?_
    refine r_lconst C (oDec_at oX12_floor 13 rfl) (v := j0) (by rw [qj0]; rfl) ?_
    obtain ⟨v5, ev5⟩ : ∃ z : Int32, z = lg_cmp v4 j0 := ⟨_, rfl⟩
    have hv5 := n_lcmp ev5
    refine r_lcmp C v5 (oDec_at oX12_floor 14 rfl) ev5 ?_
    refine r_if_eq C 53 (oDec_at oX12_floor 15 rfl) (by decide) (fun cd6 => ?_) (fun cd6 => ?_)
    · skip
      refine r_lload C (j := 2) (oDec_at oX12_floor 35 rfl) rfl ?_
      exact r_lret C (oDec_at oX12_floor 36 rfl) ⟨_, rfl, trivial⟩
    · skip
      refine r_lload_n C (j := 0) (oDec_at oX12_floor 16 rfl) rfl rfl ?_
      refine r_lconst C (oDec_at oX12_floor 17 rfl) (v := j0) (by rw [qj0]; rfl) ?_
      obtain ⟨v7, ev7⟩ : ∃ z : Int32, z = lg_cmp a0 j0 := ⟨_, rfl⟩
      have hv7 := n_lcmp ev7
      refine r_lcmp C v7 (oDec_at oX12_floor 18 rfl) ev7 ?_
      refine r_if_ge C 31 (oDec_at oX12_floor 19 rfl) (by decide) (fun cd8 => ?_) (fun cd8 => ?_)
      · skip
        refine r_iconst C (oDec_at oX12_floor 22 rfl) (v := k0) (by rw [qk0]; rfl) ?_
        refine r_lload_n C (j := 1) (oDec_at oX12_floor 23 rfl) rfl rfl ?_
        refine r_lconst C (oDec_at oX12_floor 24 rfl) (v := j0) (by rw [qj0]; rfl) ?_
        obtain ⟨v9, ev9⟩ : ∃ z : Int32, z = lg_cmp a2 j0 := ⟨_, rfl⟩
        have hv9 := n_lcmp ev9
        refine r_lcmp C v9 (oDec_at oX12_floor 25 rfl) ev9 ?_
        refine r_if_ge C 42 (oDec_at oX12_floor 26 rfl) (by decide) (fun cd10 => ?_) (fun cd10 => ?_)
        · skip
          refine r_iconst C (oDec_at oX12_floor 29 rfl) (v := k0) (by rw [qk0]; rfl) ?_
          refine r_icmp_eq C 53 (oDec_at oX12_floor 30 rfl) (by decide) (fun cd11 => ?_) (fun cd11 => ?_)
          · skip
            refine r_lload C (j := 2) (oDec_at oX12_floor 35 rfl) rfl ?_
            exact r_lret C (oDec_at oX12_floor 36 rfl) ⟨_, rfl, trivial⟩
          · omega
        · skip
          refine r_iconst C (oDec_at oX12_floor 27 rfl) (v := k1) (by rw [qk1]; rfl) ?_
          refine r_goto C (tgt := 43) (oDec_at oX12_floor 28 rfl) (by decide) ?_
          refine r_icmp_eq C 53 (oDec_at oX12_floor 30 rfl) (by decide) (fun cd12 => ?_) (fun cd12 => ?_)
          · omega
          · skip
            refine r_lload C (j := 2) (oDec_at oX12_floor 31 rfl) rfl ?_
            refine r_lconst C (oDec_at oX12_floor 32 rfl) (v := j1) (by rw [qj1]; rfl) ?_
            obtain ⟨v13, ev13⟩ : ∃ z : Int64, z = v3 - j1 := ⟨_, rfl⟩
            refine r_lsub C v13 (oDec_at oX12_floor 33 rfl) ev13 ?_
            refine r_goto C (tgt := 55) (oDec_at oX12_floor 34 rfl) (by decide) ?_
            exact r_lret C (oDec_at oX12_floor 36 rfl) ⟨_, rfl, trivial⟩
      · skip
        refine r_iconst C (oDec_at oX12_floor 20 rfl) (v := k1) (by rw [qk1]; rfl) ?_
        refine r_goto C (tgt := 32) (oDec_at oX12_floor 21 rfl) (by decide) ?_
        refine r_lload_n C (j := 1) (oDec_at oX12_floor 23 rfl) rfl rfl ?_
        refine r_lconst C (oDec_at oX12_floor 24 rfl) (v := j0) (by rw [qj0]; rfl) ?_
        obtain ⟨v14, ev14⟩ : ∃ z : Int32, z = lg_cmp a2 j0 := ⟨_, rfl⟩
        have hv14 := n_lcmp ev14
        refine r_lcmp C v14 (oDec_at oX12_floor 25 rfl) ev14 ?_
        refine r_if_ge C 42 (oDec_at oX12_floor 26 rfl) (by decide) (fun cd15 => ?_) (fun cd15 => ?_)
        · skip
          refine r_iconst C (oDec_at oX12_floor 29 rfl) (v := k0) (by rw [qk0]; rfl) ?_
          refine r_icmp_eq C 53 (oDec_at oX12_floor 30 rfl) (by decide) (fun cd16 => ?_) (fun cd16 => ?_)
          · omega
          · skip
            refine r_lload C (j := 2) (oDec_at oX12_floor 31 rfl) rfl ?_
            refine r_lconst C (oDec_at oX12_floor 32 rfl) (v := j1) (by rw [qj1]; rfl) ?_
            obtain ⟨v17, ev17⟩ : ∃ z : Int64, z = v3 - j1 := ⟨_, rfl⟩
            refine r_lsub C v17 (oDec_at oX12_floor 33 rfl) ev17 ?_
            refine r_goto C (tgt := 55) (oDec_at oX12_floor 34 rfl) (by decide) ?_
            exact r_lret C (oDec_at oX12_floor 36 rfl) ⟨_, rfl, trivial⟩
        · skip
          refine r_iconst C (oDec_at oX12_floor 27 rfl) (v := k1) (by rw [qk1]; rfl) ?_
          refine r_goto C (tgt := 43) (oDec_at oX12_floor 28 rfl) (by decide) ?_
          refine r_icmp_eq C 53 (oDec_at oX12_floor 30 rfl) (by decide) (fun cd18 => ?_) (fun cd18 => ?_)
          · skip
            refine r_lload C (j := 2) (oDec_at oX12_floor 35 rfl) rfl ?_
            exact r_lret C (oDec_at oX12_floor 36 rfl) ⟨_, rfl, trivial⟩
          · omega
  · skip
    refine r_lconst C (oDec_at oX12_floor 4 rfl) (v := j0) (by rw [qj0]; rfl) ?_
    exact r_lret C (oDec_at oX12_floor 5 rfl) ⟨_, rfl, trivial⟩
set_option maxHeartbeats 4000000 in
set_option maxRecDepth 100000 in
theorem ct_X12_letter (l : Launch) (E : oE) (s : oS) (a1 : Int32) (a2 : Int32)   : oMet l 2 yX12_letter cX12_letter 8 (some .int) [] E s [.ref (oad E 71), .int a1, .int a2] (oPi (fun r u => True)) := by
  refine oMet.of (lv := [(0, .ref (oad E 71)), (1, .int a1), (2, .int a2)]) (by decide +kernel) (Nat.le_of_ble_eq_true rfl) rfl (fun J C hT => ?_)
  have C : oC l 2 cX12_letter RX12 8 (some .int) [] E s (oPi (fun r u => True)) J := C
  obtain ⟨km1, qkm1⟩ : ∃ z : Int32, z = (-1) := ⟨_, rfl⟩
  have ekm1 : km1.toInt = (-1) := by rw [qkm1]; rfl
  obtain ⟨k0, qk0⟩ : ∃ z : Int32, z = 0 := ⟨_, rfl⟩
  have ek0 : k0.toInt = 0 := by rw [qk0]; rfl
  obtain ⟨k1, qk1⟩ : ∃ z : Int32, z = 1 := ⟨_, rfl⟩
  have ek1 : k1.toInt = 1 := by rw [qk1]; rfl
  obtain ⟨j0, qj0⟩ : ∃ z : Int64, z = 0 := ⟨_, rfl⟩
  have ej0 : j0.toInt = 0 := by rw [qj0]; rfl
  obtain ⟨j5, qj5⟩ : ∃ z : Int64, z = 5 := ⟨_, rfl⟩
  have ej5 : j5.toInt = 5 := by rw [qj5]; rfl
  obtain ⟨j27, qj27⟩ : ∃ z : Int64, z = 27 := ⟨_, rfl⟩
  have ej27 : j27.toInt = 27 := by rw [qj27]; rfl
  have rg1 := n_rng a1
  have rg2 := n_rng a2
  have key : ∀ n : Nat, (∀ (t : oS) (x3 : Int64) (x5 : Int32) (x6 : Int64), (0 ≤ a2.toInt) → oP0 x6 + 5000000000 ≤ (n : Int) → J t 45 [(2, .int a2), (3, .long x3), (5, .int x5), (6, .long x6)] []) ∧ (∀ (t : oS) (x3 : Int64) (x6 : Int32), (0 ≤ a2.toInt) → x6.toInt - a2.toInt + 1 ≤ (n : Int) → J t 80 [(2, .int a2), (3, .long x3), (6, .int x6)] []) := by
    intro n
    induction n using Nat.strongRecOn with
    | _ n ih =>
      refine ⟨?_, ?_⟩
      · intro t x3 x5 x6  iv0 hmu
        have rx5 := n_rng x5
        have hj0 := oP0_f x6
        refine r_lload C (j := 3) (oDec_at oX12_letter 29 rfl) rfl ?_
        refine r_lconst C (oDec_at oX12_letter 30 rfl) (v := j0) (by rw [qj0]; rfl) ?_
        obtain ⟨v1, ev1⟩ : ∃ z : Int32, z = lg_cmp x6 j0 := ⟨_, rfl⟩
        have hv1 := n_lcmp ev1
        refine r_lcmp C v1 (oDec_at oX12_letter 31 rfl) ev1 ?_
        refine r_if_le C 66 (oDec_at oX12_letter 32 rfl) (by decide) (fun cd2 => ?_) (fun cd2 => ?_)
        · skip
          refine r_iload_n C (j := 0) (oDec_at oX12_letter 39 rfl) rfl rfl ?_
          refine r_iload C (j := 2) (oDec_at oX12_letter 40 rfl) rfl ?_
          refine r_icmp_lt C 74 (oDec_at oX12_letter 41 rfl) (by decide) (fun cd3 => ?_) (fun cd3 => ?_)
          · skip
            refine r_iload C (j := 2) (oDec_at oX12_letter 44 rfl) rfl ?_
            refine r_iconst C (oDec_at oX12_letter 45 rfl) (v := k1) (by rw [qk1]; rfl) ?_
            obtain ⟨v4, ev4⟩ : ∃ z : Int32, z = x5 - k1 := ⟨_, rfl⟩
            have rv4 := n_rng v4
            refine r_isub C v4 (oDec_at oX12_letter 46 rfl) ev4 ?_
            refine r_istore C (lv' := [(2, .int a2), (3, .long x3), (5, .int x5), (6, .int v4)]) [1, 2, 3, 0] (oDec_at oX12_letter 47 rfl) (by decide) rfl ?_
            refine r_pick C [0, 1, 3] rfl ?_
            exact (ih (n - 1) (by omega)).2 (t) x3 v4  (by omega) (by omega)
          · skip
            refine r_iconst C (oDec_at oX12_letter 42 rfl) (v := k0) (by rw [qk0]; rfl) ?_
            exact r_iret C (oDec_at oX12_letter 43 rfl) ⟨_, rfl, trivial⟩
        · skip
          obtain ⟨v5, ev5⟩ : ∃ z : Int32, x5 + Int32.ofInt 1 = z := ⟨_, rfl⟩
          refine r_iinc C (j := 2) (lv' := [(2, .int a2), (3, .long x3), (5, .int v5), (6, .long x6)]) v5 [1, 2, 0, 3] (oDec_at oX12_letter 33 rfl) rfl ev5 (by decide) rfl ?_
          refine r_lload C (j := 3) (oDec_at oX12_letter 34 rfl) rfl ?_
          refine r_ldc2 C (v := j27) (by rw [qj27]; exact klX12_227) (oDec_at oX12_letter 35 rfl) ?_
          obtain ⟨v6, ev6⟩ : ∃ z : Int64, z = x6 / j27 := ⟨_, rfl⟩
          have hfv6 := n_divL ev6 ej27 (by decide)
          refine r_ldiv C v6 (oDec_at oX12_letter 36 rfl) (by rw [qj27]; decide) ev6 ?_
          refine r_lstore C (lv' := [(2, .int a2), (3, .long x3), (5, .int v5), (6, .long v6)]) [1, 2, 3, 0] (oDec_at oX12_letter 37 rfl) (by decide) rfl ?_
          refine r_goto C (tgt := 45) (oDec_at oX12_letter 38 rfl) (by decide) ?_
          have hj := oP0_f v6
          exact (ih (n - 1) (by omega)).1 (t) x3 v5 v6  (by omega) (by omega)
      · intro t x3 x6  iv0 hmu
        have rx6 := n_rng x6
        refine r_iload C (j := 2) (oDec_at oX12_letter 48 rfl) rfl ?_
        refine r_iload_n C (j := 0) (oDec_at oX12_letter 49 rfl) rfl rfl ?_
        refine r_icmp_le C 98 (oDec_at oX12_letter 50 rfl) (by decide) (fun cd7 => ?_) (fun cd7 => ?_)
        · skip
          refine r_lload_n C (j := 1) (oDec_at oX12_letter 57 rfl) rfl rfl ?_
          refine r_ldc2 C (v := j27) (by rw [qj27]; exact klX12_227) (oDec_at oX12_letter 58 rfl) ?_
          obtain ⟨v8, ev8⟩ : ∃ z : Int64, z = x3 - x3 / j27 * j27 := ⟨_, rfl⟩
          refine r_lrem C v8 (oDec_at oX12_letter 59 rfl) (by rw [qj27]; decide) ev8 ?_
          obtain ⟨v9, ev9⟩ : ∃ z : Int32, v8.toInt32 = z := ⟨_, rfl⟩
          have rv9 := n_rng v9
          refine r_l2i C v9 (oDec_at oX12_letter 60 rfl) ev9 ?_
          exact r_iret C (oDec_at oX12_letter 61 rfl) ⟨_, rfl, trivial⟩
        · skip
          refine r_lload_n C (j := 1) (oDec_at oX12_letter 51 rfl) rfl rfl ?_
          refine r_ldc2 C (v := j27) (by rw [qj27]; exact klX12_227) (oDec_at oX12_letter 52 rfl) ?_
          obtain ⟨v10, ev10⟩ : ∃ z : Int64, z = x3 / j27 := ⟨_, rfl⟩
          refine r_ldiv C v10 (oDec_at oX12_letter 53 rfl) (by rw [qj27]; decide) ev10 ?_
          refine r_lstore_n C (lv' := [(2, .int a2), (3, .long v10), (6, .int x6)]) [1, 0, 2] (oDec_at oX12_letter 54 rfl) rfl (by decide) rfl ?_
          obtain ⟨v11, ev11⟩ : ∃ z : Int32, x6 + Int32.ofInt (-1) = z := ⟨_, rfl⟩
          have hv11 : v11.toInt = x6.toInt + (-1) := n_inc ev11 (by decide) (by omega) (by omega)
          refine r_iinc C (j := 2) (lv' := [(2, .int a2), (3, .long v10), (6, .int v11)]) v11 [1, 2, 0] (oDec_at oX12_letter 55 rfl) rfl ev11 (by decide) rfl ?_
          refine r_goto C (tgt := 80) (oDec_at oX12_letter 56 rfl) (by decide) ?_
          exact (ih (n - 1) (by omega)).2 (t) v10 v11  (by omega) (by omega)
  refine r_iload_n C (j := 1) (oDec_at oX12_letter 0 rfl) rfl rfl ?_
  obtain ⟨v12, ev12⟩ : ∃ z : Int64, a1.toInt64 = z := ⟨_, rfl⟩
  have hv12 : v12.toInt = a1.toInt := n_i2l ev12
  refine r_i2l C v12 (oDec_at oX12_letter 1 rfl) ev12 ?_
  refine r_lconst C (oDec_at oX12_letter 2 rfl) (v := j0) (by rw [qj0]; rfl) ?_
  refine r_aload_n C (j := 0) (oDec_at oX12_letter 3 rfl) rfl rfl ?_
  refine r_getF (k := 49) (b := 104) C oCl12 rfl (by decide) flX12_114 rfl rfl rfl (oDec_at oX12_letter 4 rfl) ?_
  refine r_iconst C (oDec_at oX12_letter 5 rfl) (v := k1) (by rw [qk1]; rfl) ?_
  refine r_pc C 8 rfl ?_
  obtain ⟨v14, ev14⟩ : ∃ z : Int32, (s).1 104 k1.toNatClampNeg = z := ⟨_, rfl⟩
  have gv14 : (s.1 104 k1.toNatClampNeg).toInt = v14.toInt := congrArg Int32.toInt (ev14)
  refine r_iald (n := 4) (lo := 0) (hi := 12) C v14 rfl (by decide) rfl rfl ⟨by omega, by omega⟩ (by decide) ev14 rfl rfl (oDec_at oX12_letter 6 rfl) (fun b13 b13h => ?_)
  refine r_iconst C (oDec_at oX12_letter 7 rfl) (v := k1) (by rw [qk1]; rfl) ?_
  obtain ⟨v15, ev15⟩ : ∃ z : Int32, z = v14 - k1 := ⟨_, rfl⟩
  have hv15 : v15.toInt = v14.toInt - k1.toInt := n_sub ev15 (by omega) (by omega)
  refine r_isub C v15 (oDec_at oX12_letter 8 rfl) ev15 ?_
  obtain ⟨v16, ev16⟩ : ∃ z : Int64, v15.toInt64 = z := ⟨_, rfl⟩
  have hv16 : v16.toInt = v15.toInt := n_i2l ev16
  refine r_i2l C v16 (oDec_at oX12_letter 9 rfl) ev16 ?_
  refine r_callSi C miX12_isIn mlX12_216 (ct_X12_isIn l E (s) v12 j0 v16 ) (by decide) rfl rfl rfl (Nat.le_of_ble_eq_true rfl) (oDec_at oX12_letter 10 rfl) (fun r18 u17 pu17 fu17 => ?_)
  try dsimp only at pu17
  obtain ⟨pu17_0, pu17_1⟩ := pu17
  have hxu17 := oFr_nil fu17; subst hxu17
  have rr18 := n_rng r18
  refine r_if_eq C 30 (oDec_at oX12_letter 11 rfl) (by decide) (fun cd19 => ?_) (fun cd19 => ?_)
  · skip
    refine r_iconst C (oDec_at oX12_letter 18 rfl) (v := km1) (by rw [qkm1]; rfl) ?_
    exact r_iret C (oDec_at oX12_letter 19 rfl) ⟨_, rfl, trivial⟩
  · skip
    refine r_iload_n C (j := 2) (oDec_at oX12_letter 12 rfl) rfl rfl ?_
    obtain ⟨v20, ev20⟩ : ∃ z : Int64, a2.toInt64 = z := ⟨_, rfl⟩
    have hv20 : v20.toInt = a2.toInt := n_i2l ev20
    refine r_i2l C v20 (oDec_at oX12_letter 13 rfl) ev20 ?_
    refine r_lconst C (oDec_at oX12_letter 14 rfl) (v := j0) (by rw [qj0]; rfl) ?_
    refine r_ldc2 C (v := j5) (by rw [qj5]; exact klX12_381) (oDec_at oX12_letter 15 rfl) ?_
    refine r_callSi C miX12_isIn mlX12_216 (ct_X12_isIn l E (s) v20 j0 j5 ) (by decide) rfl rfl rfl (Nat.le_of_ble_eq_true rfl) (oDec_at oX12_letter 16 rfl) (fun r22 u21 pu21 fu21 => ?_)
    try dsimp only at pu21
    obtain ⟨pu21_0, pu21_1⟩ := pu21
    have hxu21 := oFr_nil fu21; subst hxu21
    have rr22 := n_rng r22
    refine r_if_ne C 32 (oDec_at oX12_letter 17 rfl) (by decide) (fun cd23 => ?_) (fun cd23 => ?_)
    · skip
      refine r_aload_n C (j := 0) (oDec_at oX12_letter 20 rfl) rfl rfl ?_
      refine r_getF (k := 52) (b := 107) C oCl12 rfl (by decide) flX12_123 rfl rfl rfl (oDec_at oX12_letter 21 rfl) ?_
      refine r_iload_n C (j := 1) (oDec_at oX12_letter 22 rfl) rfl rfl ?_
      obtain ⟨v24, ev24⟩ : ∃ z : Int64, (s).2.1 107 a1.toNatClampNeg = z := ⟨_, rfl⟩
      refine r_lald (n := 12) C v24 rfl (by decide) rfl rfl ⟨by omega, by omega⟩ (by decide) ev24 (oDec_at oX12_letter 23 rfl) ?_
      refine r_lstore_n C (lv' := [(0, .ref (oad E 71)), (1, .int a1), (2, .int a2), (3, .long v24)]) [1, 2, 3, 0] (oDec_at oX12_letter 24 rfl) rfl (by decide) rfl ?_
      refine r_iconst C (oDec_at oX12_letter 25 rfl) (v := k0) (by rw [qk0]; rfl) ?_
      refine r_pc C 40 rfl ?_
      refine r_istore C (lv' := [(0, .ref (oad E 71)), (1, .int a1), (2, .int a2), (3, .long v24), (5, .int k0)]) [1, 2, 3, 4, 0] (oDec_at oX12_letter 26 rfl) (by decide) rfl ?_
      refine r_lload_n C (j := 3) (oDec_at oX12_letter 27 rfl) rfl rfl ?_
      refine r_lstore C (lv' := [(0, .ref (oad E 71)), (1, .int a1), (2, .int a2), (3, .long v24), (5, .int k0), (6, .long v24)]) [1, 2, 3, 4, 5, 0] (oDec_at oX12_letter 28 rfl) (by decide) rfl ?_
      have hj := oP0_f v24
      refine r_pick C [2, 3, 4, 5] rfl ?_
      exact (key (oP0 v24 + 5000000000).toNat).1 (s) v24 k0 v24  (by omega) (by omega)
    · skip
      refine r_iconst C (oDec_at oX12_letter 18 rfl) (v := km1) (by rw [qkm1]; rfl) ?_
      exact r_iret C (oDec_at oX12_letter 19 rfl) ⟨_, rfl, trivial⟩
set_option maxHeartbeats 4000000 in
set_option maxRecDepth 100000 in
theorem ct_X12_puts (l : Launch) (E : oE) (s : oS) (a1 : Int64)  (hp0 : (s.1 71 58).toInt ≤ 1699) : oMet l 1 yX12_puts cX12_puts 3 none [(12, 58), (84, 9999)] E s [.ref (oad E 71), .long a1] (oPv (fun u => ((u.1 71 58).toInt = (s.1 71 58).toInt + 1))) := by
  refine oMet.of (lv := [(0, .ref (oad E 71)), (1, .long a1)]) (by decide +kernel) (Nat.le_of_ble_eq_true rfl) rfl (fun J C hT => ?_)
  have C : oC l 1 cX12_puts RX12 3 none [(12, 58), (84, 9999)] E s (oPv (fun u => ((u.1 71 58).toInt = (s.1 71 58).toInt + 1))) J := C
  obtain ⟨k1, qk1⟩ : ∃ z : Int32, z = 1 := ⟨_, rfl⟩
  have ek1 : k1.toInt = 1 := by rw [qk1]; rfl
  refine r_aload_n C (j := 0) (oDec_at oX12_puts 0 rfl) rfl rfl ?_
  refine r_getF (k := 57) (b := 108) C oCl12 rfl (by decide) flX12_130 rfl rfl rfl (oDec_at oX12_puts 1 rfl) ?_
  refine r_aload_n C (j := 0) (oDec_at oX12_puts 2 rfl) rfl rfl ?_
  obtain ⟨v1, ev1⟩ : ∃ z : Int32, (s).1 71 58 = z := ⟨_, rfl⟩
  have gv1 : (s.1 71 58).toInt = v1.toInt := congrArg Int32.toInt (ev1)
  refine r_geti (k := 58) (lo := 0) (hi := 1700) C v1 oCl12 rfl (by decide) flX12_360 rfl rfl (ev1) rfl rfl (oDec_at oX12_puts 3 rfl) (fun b2 b2h => ?_)
  refine r_lload_n C (j := 1) (oDec_at oX12_puts 4 rfl) rfl rfl ?_
  refine r_last (n := 1700) C rfl (by decide) rfl rfl ⟨by omega, by omega⟩ (by decide) rfl (oDec_at oX12_puts 5 rfl) ?_
  refine r_pc C 10 rfl ?_
  refine r_aload_n C (j := 0) (oDec_at oX12_puts 6 rfl) rfl rfl ?_
  refine r_dup C (oDec_at oX12_puts 7 rfl) rfl ?_
  refine r_geti (k := 58) (lo := 0) (hi := 1700) C v1 oCl12 rfl (by decide) flX12_360 rfl rfl ((show ((pL s 108 v1.toNatClampNeg a1)).1 71 58 = v1 from ev1)) rfl rfl (oDec_at oX12_puts 8 rfl) (fun _ _ => ?_)
  refine r_iconst C (oDec_at oX12_puts 9 rfl) (v := k1) (by rw [qk1]; rfl) ?_
  obtain ⟨v3, ev3⟩ : ∃ z : Int32, z = v1 + k1 := ⟨_, rfl⟩
  have hv3 : v3.toInt = v1.toInt + k1.toInt := n_add ev3 (by omega) (by omega)
  refine r_iadd C v3 (oDec_at oX12_puts 10 rfl) ev3 ?_
  refine r_puti (k := 58) (lo := 0) (hi := 1700) C oCl12 rfl (by decide) flX12_360 rfl rfl rfl rfl rfl rfl rfl rfl ⟨by omega, by omega⟩ (oDec_at oX12_puts 11 rfl) ?_
  refine r_pc C 20 rfl ?_
  have lk4 : (((pI (pL s 108 v1.toNatClampNeg a1) 71 58 v3)).1 71 58).toInt = v3.toInt := congrArg Int32.toInt ((pI_self _ _ _ _))
  exact r_vret C (oDec_at oX12_puts 12 rfl) ⟨rfl, by omega⟩
set_option maxHeartbeats 4000000 in
set_option maxRecDepth 100000 in
theorem ct_X12_joins (l : Launch) (E : oE) (s : oS) (a1 : Int32)  (hp0 : 2 ≤ (s.1 71 58).toInt) : oMet l 2 yX12_joins cX12_joins 6 none [(12, 58), (84, 9999)] E s [.ref (oad E 71), .int a1] (oPv (fun u => ((u.1 71 58).toInt = (s.1 71 58).toInt - 1))) := by
  refine oMet.of (lv := [(0, .ref (oad E 71)), (1, .int a1)]) (by decide +kernel) (Nat.le_of_ble_eq_true rfl) rfl (fun J C hT => ?_)
  have C : oC l 2 cX12_joins RX12 6 none [(12, 58), (84, 9999)] E s (oPv (fun u => ((u.1 71 58).toInt = (s.1 71 58).toInt - 1))) J := C
  obtain ⟨k1, qk1⟩ : ∃ z : Int32, z = 1 := ⟨_, rfl⟩
  have ek1 : k1.toInt = 1 := by rw [qk1]; rfl
  obtain ⟨k2, qk2⟩ : ∃ z : Int32, z = 2 := ⟨_, rfl⟩
  have ek2 : k2.toInt = 2 := by rw [qk2]; rfl
  obtain ⟨j0, qj0⟩ : ∃ z : Int64, z = 0 := ⟨_, rfl⟩
  have ej0 : j0.toInt = 0 := by rw [qj0]; rfl
  obtain ⟨j1, qj1⟩ : ∃ z : Int64, z = 1 := ⟨_, rfl⟩
  have ej1 : j1.toInt = 1 := by rw [qj1]; rfl
  have rg1 := n_rng a1
  refine r_aload_n C (j := 0) (oDec_at oX12_joins 0 rfl) rfl rfl ?_
  refine r_getF (k := 57) (b := 108) C oCl12 rfl (by decide) flX12_130 rfl rfl rfl (oDec_at oX12_joins 1 rfl) ?_
  refine r_aload_n C (j := 0) (oDec_at oX12_joins 2 rfl) rfl rfl ?_
  obtain ⟨v1, ev1⟩ : ∃ z : Int32, (s).1 71 58 = z := ⟨_, rfl⟩
  have gv1 : (s.1 71 58).toInt = v1.toInt := congrArg Int32.toInt (ev1)
  refine r_geti (k := 58) (lo := 0) (hi := 1700) C v1 oCl12 rfl (by decide) flX12_360 rfl rfl (ev1) rfl rfl (oDec_at oX12_joins 3 rfl) (fun b2 b2h => ?_)
  refine r_iconst C (oDec_at oX12_joins 4 rfl) (v := k1) (by rw [qk1]; rfl) ?_
  obtain ⟨v3, ev3⟩ : ∃ z : Int32, z = v1 - k1 := ⟨_, rfl⟩
  have hv3 : v3.toInt = v1.toInt - k1.toInt := n_sub ev3 (by omega) (by omega)
  refine r_isub C v3 (oDec_at oX12_joins 5 rfl) ev3 ?_
  refine r_pc C 10 rfl ?_
  obtain ⟨v4, ev4⟩ : ∃ z : Int64, (s).2.1 108 v3.toNatClampNeg = z := ⟨_, rfl⟩
  refine r_lald (n := 1700) C v4 rfl (by decide) rfl rfl ⟨by omega, by omega⟩ (by decide) ev4 (oDec_at oX12_joins 6 rfl) ?_
  refine r_lstore_n C (lv' := [(0, .ref (oad E 71)), (1, .int a1), (2, .long v4)]) [1, 2, 0] (oDec_at oX12_joins 7 rfl) rfl (by decide) rfl ?_
  refine r_aload_n C (j := 0) (oDec_at oX12_joins 8 rfl) rfl rfl ?_
  refine r_getF (k := 57) (b := 108) C oCl12 rfl (by decide) flX12_130 rfl rfl rfl (oDec_at oX12_joins 9 rfl) ?_
  refine r_aload_n C (j := 0) (oDec_at oX12_joins 10 rfl) rfl rfl ?_
  refine r_geti (k := 58) (lo := 0) (hi := 1700) C v1 oCl12 rfl (by decide) flX12_360 rfl rfl (ev1) rfl rfl (oDec_at oX12_joins 11 rfl) (fun _ _ => ?_)
  refine r_pc C 20 rfl ?_
  refine r_iconst C (oDec_at oX12_joins 12 rfl) (v := k2) (by rw [qk2]; rfl) ?_
  obtain ⟨v5, ev5⟩ : ∃ z : Int32, z = v1 - k2 := ⟨_, rfl⟩
  have hv5 : v5.toInt = v1.toInt - k2.toInt := n_sub ev5 (by omega) (by omega)
  refine r_isub C v5 (oDec_at oX12_joins 13 rfl) ev5 ?_
  obtain ⟨v6, ev6⟩ : ∃ z : Int64, (s).2.1 108 v5.toNatClampNeg = z := ⟨_, rfl⟩
  refine r_lald (n := 1700) C v6 rfl (by decide) rfl rfl ⟨by omega, by omega⟩ (by decide) ev6 (oDec_at oX12_joins 14 rfl) ?_
  refine r_lstore C (lv' := [(0, .ref (oad E 71)), (1, .int a1), (2, .long v4), (4, .long v6)]) [1, 2, 3, 0] (oDec_at oX12_joins 15 rfl) (by decide) rfl ?_
  refine r_aload_n C (j := 0) (oDec_at oX12_joins 16 rfl) rfl rfl ?_
  refine r_dup C (oDec_at oX12_joins 17 rfl) rfl ?_
  refine r_pc C 27 rfl ?_
  refine r_geti (k := 58) (lo := 0) (hi := 1700) C v1 oCl12 rfl (by decide) flX12_360 rfl rfl (ev1) rfl rfl (oDec_at oX12_joins 18 rfl) (fun _ _ => ?_)
  refine r_iconst C (oDec_at oX12_joins 19 rfl) (v := k2) (by rw [qk2]; rfl) ?_
  obtain ⟨v7, ev7⟩ : ∃ z : Int32, z = v1 - k2 := ⟨_, rfl⟩
  have hv7 : v7.toInt = v1.toInt - k2.toInt := n_sub ev7 (by omega) (by omega)
  refine r_isub C v7 (oDec_at oX12_joins 20 rfl) ev7 ?_
  refine r_puti (k := 58) (lo := 0) (hi := 1700) C oCl12 rfl (by decide) flX12_360 rfl rfl rfl rfl rfl rfl rfl rfl ⟨by omega, by omega⟩ (oDec_at oX12_joins 21 rfl) ?_
  refine r_iload_n C (j := 1) (oDec_at oX12_joins 22 rfl) rfl rfl ?_
  by_cases cd8_0 : a1.toInt = 1
  · refine r_tableIn C 108 (oDec_at oX12_joins 23 rfl) (by omega) (by omega) (by rw [cd8_0]; rfl) (by decide) ?_
    refine r_aload_n C (j := 0) (oDec_at oX12_joins 24 rfl) rfl rfl ?_
    refine r_lload C (j := 3) (oDec_at oX12_joins 25 rfl) rfl ?_
    refine r_lload_n C (j := 2) (oDec_at oX12_joins 26 rfl) rfl rfl ?_
    obtain ⟨v9, ev9⟩ : ∃ z : Int64, z = v6 + v4 := ⟨_, rfl⟩
    refine r_ladd C v9 (oDec_at oX12_joins 27 rfl) ev9 ?_
    refine r_callSl C miX12_clip mlX12_363 (ct_X12_clip l E ((pI s 71 58 v7)) v9 ) (by decide) rfl rfl rfl (Nat.le_of_ble_eq_true rfl) (oDec_at oX12_joins 28 rfl) (fun r11 u10 pu10 fu10 => ?_)
    try dsimp only at pu10
    have hxu10 := oFr_nil fu10; subst hxu10
    have lk12 : (((pI s 71 58 v7)).1 71 58).toInt = v7.toInt := congrArg Int32.toInt ((pI_self _ _ _ _))
    have lk13 : (((pI s 71 58 v7)).1 71 58).toInt = v7.toInt := congrArg Int32.toInt ((pI_self _ _ _ _))
    refine r_callVv C oCl12 rfl miX12_puts mlX12_367 (ct_X12_puts l E ((pI s 71 58 v7)) r11 (by omega)) (by decide) rfl rfl rfl (Nat.le_of_ble_eq_true rfl) (oDec_at oX12_joins 29 rfl) (fun u14 pu14 fu14 => ?_)
    try dsimp only at pu14
    try simp only [lk12, lk13] at pu14
    refine r_pc C 119 rfl ?_
    refine r_goto C (tgt := 289) (oDec_at oX12_joins 30 rfl) (by decide) ?_
    exact r_vret C (oDec_at oX12_joins 118 rfl) ⟨rfl, by omega⟩
  by_cases cd8_1 : a1.toInt = 2
  · refine r_tableIn C 122 (oDec_at oX12_joins 23 rfl) (by omega) (by omega) (by rw [cd8_1]; rfl) (by decide) ?_
    refine r_aload_n C (j := 0) (oDec_at oX12_joins 31 rfl) rfl rfl ?_
    refine r_lload C (j := 3) (oDec_at oX12_joins 32 rfl) rfl ?_
    refine r_lload_n C (j := 2) (oDec_at oX12_joins 33 rfl) rfl rfl ?_
    obtain ⟨v16, ev16⟩ : ∃ z : Int64, z = v6 - v4 := ⟨_, rfl⟩
    refine r_lsub C v16 (oDec_at oX12_joins 34 rfl) ev16 ?_
    refine r_callSl C miX12_clip mlX12_363 (ct_X12_clip l E ((pI s 71 58 v7)) v16 ) (by decide) rfl rfl rfl (Nat.le_of_ble_eq_true rfl) (oDec_at oX12_joins 35 rfl) (fun r18 u17 pu17 fu17 => ?_)
    try dsimp only at pu17
    have hxu17 := oFr_nil fu17; subst hxu17
    have lk19 : (((pI s 71 58 v7)).1 71 58).toInt = v7.toInt := congrArg Int32.toInt ((pI_self _ _ _ _))
    have lk20 : (((pI s 71 58 v7)).1 71 58).toInt = v7.toInt := congrArg Int32.toInt ((pI_self _ _ _ _))
    refine r_callVv C oCl12 rfl miX12_puts mlX12_367 (ct_X12_puts l E ((pI s 71 58 v7)) r18 (by omega)) (by decide) rfl rfl rfl (Nat.le_of_ble_eq_true rfl) (oDec_at oX12_joins 36 rfl) (fun u21 pu21 fu21 => ?_)
    try dsimp only at pu21
    try simp only [lk19, lk20] at pu21
    refine r_pc C 133 rfl ?_
    refine r_goto C (tgt := 289) (oDec_at oX12_joins 37 rfl) (by decide) ?_
    exact r_vret C (oDec_at oX12_joins 118 rfl) ⟨rfl, by omega⟩
  by_cases cd8_2 : a1.toInt = 3
  · refine r_tableIn C 136 (oDec_at oX12_joins 23 rfl) (by omega) (by omega) (by rw [cd8_2]; rfl) (by decide) ?_
    refine r_aload_n C (j := 0) (oDec_at oX12_joins 38 rfl) rfl rfl ?_
    refine r_lload C (j := 3) (oDec_at oX12_joins 39 rfl) rfl ?_
    refine r_lload_n C (j := 2) (oDec_at oX12_joins 40 rfl) rfl rfl ?_
    obtain ⟨v23, ev23⟩ : ∃ z : Int64, z = v6 * v4 := ⟨_, rfl⟩
    refine r_lmul C v23 (oDec_at oX12_joins 41 rfl) ev23 ?_
    refine r_callSl C miX12_clip mlX12_363 (ct_X12_clip l E ((pI s 71 58 v7)) v23 ) (by decide) rfl rfl rfl (Nat.le_of_ble_eq_true rfl) (oDec_at oX12_joins 42 rfl) (fun r25 u24 pu24 fu24 => ?_)
    try dsimp only at pu24
    have hxu24 := oFr_nil fu24; subst hxu24
    have lk26 : (((pI s 71 58 v7)).1 71 58).toInt = v7.toInt := congrArg Int32.toInt ((pI_self _ _ _ _))
    have lk27 : (((pI s 71 58 v7)).1 71 58).toInt = v7.toInt := congrArg Int32.toInt ((pI_self _ _ _ _))
    refine r_callVv C oCl12 rfl miX12_puts mlX12_367 (ct_X12_puts l E ((pI s 71 58 v7)) r25 (by omega)) (by decide) rfl rfl rfl (Nat.le_of_ble_eq_true rfl) (oDec_at oX12_joins 43 rfl) (fun u28 pu28 fu28 => ?_)
    try dsimp only at pu28
    try simp only [lk26, lk27] at pu28
    refine r_pc C 147 rfl ?_
    refine r_goto C (tgt := 289) (oDec_at oX12_joins 44 rfl) (by decide) ?_
    exact r_vret C (oDec_at oX12_joins 118 rfl) ⟨rfl, by omega⟩
  by_cases cd8_3 : a1.toInt = 4
  · refine r_tableIn C 150 (oDec_at oX12_joins 23 rfl) (by omega) (by omega) (by rw [cd8_3]; rfl) (by decide) ?_
    refine r_aload_n C (j := 0) (oDec_at oX12_joins 45 rfl) rfl rfl ?_
    refine r_lload C (j := 3) (oDec_at oX12_joins 46 rfl) rfl ?_
    refine r_lload_n C (j := 2) (oDec_at oX12_joins 47 rfl) rfl rfl ?_
    refine r_callSl C miX12_floor mlX12_371 (ct_X12_floor l E ((pI s 71 58 v7)) v6 v4 ) (by decide) rfl rfl rfl (Nat.le_of_ble_eq_true rfl) (oDec_at oX12_joins 48 rfl) (fun r31 u30 pu30 fu30 => ?_)
    try dsimp only at pu30
    have hxu30 := oFr_nil fu30; subst hxu30
    have lk32 : (((pI s 71 58 v7)).1 71 58).toInt = v7.toInt := congrArg Int32.toInt ((pI_self _ _ _ _))
    have lk33 : (((pI s 71 58 v7)).1 71 58).toInt = v7.toInt := congrArg Int32.toInt ((pI_self _ _ _ _))
    refine r_callVv C oCl12 rfl miX12_puts mlX12_367 (ct_X12_puts l E ((pI s 71 58 v7)) r31 (by omega)) (by decide) rfl rfl rfl (Nat.le_of_ble_eq_true rfl) (oDec_at oX12_joins 49 rfl) (fun u34 pu34 fu34 => ?_)
    try dsimp only at pu34
    try simp only [lk32, lk33] at pu34
    refine r_goto C (tgt := 289) (oDec_at oX12_joins 50 rfl) (by decide) ?_
    exact r_vret C (oDec_at oX12_joins 118 rfl) ⟨rfl, by omega⟩
  by_cases cd8_4 : a1.toInt = 5
  · refine r_tableIn C 163 (oDec_at oX12_joins 23 rfl) (by omega) (by omega) (by rw [cd8_4]; rfl) (by decide) ?_
    refine r_aload_n C (j := 0) (oDec_at oX12_joins 51 rfl) rfl rfl ?_
    refine r_lload C (j := 3) (oDec_at oX12_joins 52 rfl) rfl ?_
    refine r_lload_n C (j := 2) (oDec_at oX12_joins 53 rfl) rfl rfl ?_
    obtain ⟨v36, ev36⟩ : ∃ z : Int32, z = lg_cmp v6 v4 := ⟨_, rfl⟩
    have hv36 := n_lcmp ev36
    refine r_lcmp C v36 (oDec_at oX12_joins 54 rfl) ev36 ?_
    refine r_if_ge C 176 (oDec_at oX12_joins 55 rfl) (by decide) (fun cd37 => ?_) (fun cd37 => ?_)
    · skip
      refine r_lload_n C (j := 2) (oDec_at oX12_joins 58 rfl) rfl rfl ?_
      have lk38 : (((pI s 71 58 v7)).1 71 58).toInt = v7.toInt := congrArg Int32.toInt ((pI_self _ _ _ _))
      have lk39 : (((pI s 71 58 v7)).1 71 58).toInt = v7.toInt := congrArg Int32.toInt ((pI_self _ _ _ _))
      refine r_callVv C oCl12 rfl miX12_puts mlX12_367 (ct_X12_puts l E ((pI s 71 58 v7)) v4 (by omega)) (by decide) rfl rfl rfl (Nat.le_of_ble_eq_true rfl) (oDec_at oX12_joins 59 rfl) (fun u40 pu40 fu40 => ?_)
      try dsimp only at pu40
      try simp only [lk38, lk39] at pu40
      refine r_goto C (tgt := 289) (oDec_at oX12_joins 60 rfl) (by decide) ?_
      exact r_vret C (oDec_at oX12_joins 118 rfl) ⟨rfl, by omega⟩
    · skip
      refine r_lload C (j := 3) (oDec_at oX12_joins 56 rfl) rfl ?_
      refine r_goto C (tgt := 177) (oDec_at oX12_joins 57 rfl) (by decide) ?_
      have lk42 : (((pI s 71 58 v7)).1 71 58).toInt = v7.toInt := congrArg Int32.toInt ((pI_self _ _ _ _))
      have lk43 : (((pI s 71 58 v7)).1 71 58).toInt = v7.toInt := congrArg Int32.toInt ((pI_self _ _ _ _))
      refine r_callVv C oCl12 rfl miX12_puts mlX12_367 (ct_X12_puts l E ((pI s 71 58 v7)) v6 (by omega)) (by decide) rfl rfl rfl (Nat.le_of_ble_eq_true rfl) (oDec_at oX12_joins 59 rfl) (fun u44 pu44 fu44 => ?_)
      try dsimp only at pu44
      try simp only [lk42, lk43] at pu44
      refine r_goto C (tgt := 289) (oDec_at oX12_joins 60 rfl) (by decide) ?_
      exact r_vret C (oDec_at oX12_joins 118 rfl) ⟨rfl, by omega⟩
  by_cases cd8_5 : a1.toInt = 6
  · refine r_tableIn C 183 (oDec_at oX12_joins 23 rfl) (by omega) (by omega) (by rw [cd8_5]; rfl) (by decide) ?_
    refine r_aload_n C (j := 0) (oDec_at oX12_joins 61 rfl) rfl rfl ?_
    refine r_lload C (j := 3) (oDec_at oX12_joins 62 rfl) rfl ?_
    refine r_lload_n C (j := 2) (oDec_at oX12_joins 63 rfl) rfl rfl ?_
    obtain ⟨v46, ev46⟩ : ∃ z : Int32, z = lg_cmp v6 v4 := ⟨_, rfl⟩
    have hv46 := n_lcmp ev46
    refine r_lcmp C v46 (oDec_at oX12_joins 64 rfl) ev46 ?_
    refine r_if_le C 196 (oDec_at oX12_joins 65 rfl) (by decide) (fun cd47 => ?_) (fun cd47 => ?_)
    · skip
      refine r_lload_n C (j := 2) (oDec_at oX12_joins 68 rfl) rfl rfl ?_
      have lk48 : (((pI s 71 58 v7)).1 71 58).toInt = v7.toInt := congrArg Int32.toInt ((pI_self _ _ _ _))
      have lk49 : (((pI s 71 58 v7)).1 71 58).toInt = v7.toInt := congrArg Int32.toInt ((pI_self _ _ _ _))
      refine r_callVv C oCl12 rfl miX12_puts mlX12_367 (ct_X12_puts l E ((pI s 71 58 v7)) v4 (by omega)) (by decide) rfl rfl rfl (Nat.le_of_ble_eq_true rfl) (oDec_at oX12_joins 69 rfl) (fun u50 pu50 fu50 => ?_)
      try dsimp only at pu50
      try simp only [lk48, lk49] at pu50
      refine r_goto C (tgt := 289) (oDec_at oX12_joins 70 rfl) (by decide) ?_
      exact r_vret C (oDec_at oX12_joins 118 rfl) ⟨rfl, by omega⟩
    · skip
      refine r_lload C (j := 3) (oDec_at oX12_joins 66 rfl) rfl ?_
      refine r_goto C (tgt := 197) (oDec_at oX12_joins 67 rfl) (by decide) ?_
      have lk52 : (((pI s 71 58 v7)).1 71 58).toInt = v7.toInt := congrArg Int32.toInt ((pI_self _ _ _ _))
      have lk53 : (((pI s 71 58 v7)).1 71 58).toInt = v7.toInt := congrArg Int32.toInt ((pI_self _ _ _ _))
      refine r_callVv C oCl12 rfl miX12_puts mlX12_367 (ct_X12_puts l E ((pI s 71 58 v7)) v6 (by omega)) (by decide) rfl rfl rfl (Nat.le_of_ble_eq_true rfl) (oDec_at oX12_joins 69 rfl) (fun u54 pu54 fu54 => ?_)
      try dsimp only at pu54
      try simp only [lk52, lk53] at pu54
      refine r_goto C (tgt := 289) (oDec_at oX12_joins 70 rfl) (by decide) ?_
      exact r_vret C (oDec_at oX12_joins 118 rfl) ⟨rfl, by omega⟩
  by_cases cd8_6 : a1.toInt = 7
  · refine r_tableIn C 271 (oDec_at oX12_joins 23 rfl) (by omega) (by omega) (by rw [cd8_6]; rfl) (by decide) ?_
    refine r_aload_n C (j := 0) (oDec_at oX12_joins 107 rfl) rfl rfl ?_
    refine r_lload C (j := 3) (oDec_at oX12_joins 108 rfl) rfl ?_
    refine r_lload_n C (j := 2) (oDec_at oX12_joins 109 rfl) rfl rfl ?_
    obtain ⟨v56, ev56⟩ : ∃ z : Int64, z = v6 + v4 := ⟨_, rfl⟩
    refine r_ladd C v56 (oDec_at oX12_joins 110 rfl) ev56 ?_
    refine r_lconst C (oDec_at oX12_joins 111 rfl) (v := j0) (by rw [qj0]; rfl) ?_
    obtain ⟨v57, ev57⟩ : ∃ z : Int32, z = lg_cmp v56 j0 := ⟨_, rfl⟩
    have hv57 := n_lcmp ev57
    refine r_lcmp C v57 (oDec_at oX12_joins 112 rfl) ev57 ?_
    refine r_pc C 278 rfl ?_
    refine r_if_le C 285 (oDec_at oX12_joins 113 rfl) (by decide) (fun cd58 => ?_) (fun cd58 => ?_)
    · skip
      refine r_lconst C (oDec_at oX12_joins 116 rfl) (v := j0) (by rw [qj0]; rfl) ?_
      have lk59 : (((pI s 71 58 v7)).1 71 58).toInt = v7.toInt := congrArg Int32.toInt ((pI_self _ _ _ _))
      have lk60 : (((pI s 71 58 v7)).1 71 58).toInt = v7.toInt := congrArg Int32.toInt ((pI_self _ _ _ _))
      refine r_callVv C oCl12 rfl miX12_puts mlX12_367 (ct_X12_puts l E ((pI s 71 58 v7)) j0 (by omega)) (by decide) rfl rfl rfl (Nat.le_of_ble_eq_true rfl) (oDec_at oX12_joins 117 rfl) (fun u61 pu61 fu61 => ?_)
      try dsimp only at pu61
      try simp only [lk59, lk60] at pu61
      exact r_vret C (oDec_at oX12_joins 118 rfl) ⟨rfl, by omega⟩
    · skip
      refine r_lconst C (oDec_at oX12_joins 114 rfl) (v := j1) (by rw [qj1]; rfl) ?_
      refine r_goto C (tgt := 286) (oDec_at oX12_joins 115 rfl) (by decide) ?_
      have lk63 : (((pI s 71 58 v7)).1 71 58).toInt = v7.toInt := congrArg Int32.toInt ((pI_self _ _ _ _))
      have lk64 : (((pI s 71 58 v7)).1 71 58).toInt = v7.toInt := congrArg Int32.toInt ((pI_self _ _ _ _))
      refine r_callVv C oCl12 rfl miX12_puts mlX12_367 (ct_X12_puts l E ((pI s 71 58 v7)) j1 (by omega)) (by decide) rfl rfl rfl (Nat.le_of_ble_eq_true rfl) (oDec_at oX12_joins 117 rfl) (fun u65 pu65 fu65 => ?_)
      try dsimp only at pu65
      try simp only [lk63, lk64] at pu65
      exact r_vret C (oDec_at oX12_joins 118 rfl) ⟨rfl, by omega⟩
  by_cases cd8_7 : a1.toInt = 8
  · refine r_tableIn C 271 (oDec_at oX12_joins 23 rfl) (by omega) (by omega) (by rw [cd8_7]; rfl) (by decide) ?_
    refine r_aload_n C (j := 0) (oDec_at oX12_joins 107 rfl) rfl rfl ?_
    refine r_lload C (j := 3) (oDec_at oX12_joins 108 rfl) rfl ?_
    refine r_lload_n C (j := 2) (oDec_at oX12_joins 109 rfl) rfl rfl ?_
    obtain ⟨v67, ev67⟩ : ∃ z : Int64, z = v6 + v4 := ⟨_, rfl⟩
    refine r_ladd C v67 (oDec_at oX12_joins 110 rfl) ev67 ?_
    refine r_lconst C (oDec_at oX12_joins 111 rfl) (v := j0) (by rw [qj0]; rfl) ?_
    obtain ⟨v68, ev68⟩ : ∃ z : Int32, z = lg_cmp v67 j0 := ⟨_, rfl⟩
    have hv68 := n_lcmp ev68
    refine r_lcmp C v68 (oDec_at oX12_joins 112 rfl) ev68 ?_
    refine r_pc C 278 rfl ?_
    refine r_if_le C 285 (oDec_at oX12_joins 113 rfl) (by decide) (fun cd69 => ?_) (fun cd69 => ?_)
    · skip
      refine r_lconst C (oDec_at oX12_joins 116 rfl) (v := j0) (by rw [qj0]; rfl) ?_
      have lk70 : (((pI s 71 58 v7)).1 71 58).toInt = v7.toInt := congrArg Int32.toInt ((pI_self _ _ _ _))
      have lk71 : (((pI s 71 58 v7)).1 71 58).toInt = v7.toInt := congrArg Int32.toInt ((pI_self _ _ _ _))
      refine r_callVv C oCl12 rfl miX12_puts mlX12_367 (ct_X12_puts l E ((pI s 71 58 v7)) j0 (by omega)) (by decide) rfl rfl rfl (Nat.le_of_ble_eq_true rfl) (oDec_at oX12_joins 117 rfl) (fun u72 pu72 fu72 => ?_)
      try dsimp only at pu72
      try simp only [lk70, lk71] at pu72
      exact r_vret C (oDec_at oX12_joins 118 rfl) ⟨rfl, by omega⟩
    · skip
      refine r_lconst C (oDec_at oX12_joins 114 rfl) (v := j1) (by rw [qj1]; rfl) ?_
      refine r_goto C (tgt := 286) (oDec_at oX12_joins 115 rfl) (by decide) ?_
      have lk74 : (((pI s 71 58 v7)).1 71 58).toInt = v7.toInt := congrArg Int32.toInt ((pI_self _ _ _ _))
      have lk75 : (((pI s 71 58 v7)).1 71 58).toInt = v7.toInt := congrArg Int32.toInt ((pI_self _ _ _ _))
      refine r_callVv C oCl12 rfl miX12_puts mlX12_367 (ct_X12_puts l E ((pI s 71 58 v7)) j1 (by omega)) (by decide) rfl rfl rfl (Nat.le_of_ble_eq_true rfl) (oDec_at oX12_joins 117 rfl) (fun u76 pu76 fu76 => ?_)
      try dsimp only at pu76
      try simp only [lk74, lk75] at pu76
      exact r_vret C (oDec_at oX12_joins 118 rfl) ⟨rfl, by omega⟩
  by_cases cd8_8 : a1.toInt = 9
  · refine r_tableIn C 271 (oDec_at oX12_joins 23 rfl) (by omega) (by omega) (by rw [cd8_8]; rfl) (by decide) ?_
    refine r_aload_n C (j := 0) (oDec_at oX12_joins 107 rfl) rfl rfl ?_
    refine r_lload C (j := 3) (oDec_at oX12_joins 108 rfl) rfl ?_
    refine r_lload_n C (j := 2) (oDec_at oX12_joins 109 rfl) rfl rfl ?_
    obtain ⟨v78, ev78⟩ : ∃ z : Int64, z = v6 + v4 := ⟨_, rfl⟩
    refine r_ladd C v78 (oDec_at oX12_joins 110 rfl) ev78 ?_
    refine r_lconst C (oDec_at oX12_joins 111 rfl) (v := j0) (by rw [qj0]; rfl) ?_
    obtain ⟨v79, ev79⟩ : ∃ z : Int32, z = lg_cmp v78 j0 := ⟨_, rfl⟩
    have hv79 := n_lcmp ev79
    refine r_lcmp C v79 (oDec_at oX12_joins 112 rfl) ev79 ?_
    refine r_pc C 278 rfl ?_
    refine r_if_le C 285 (oDec_at oX12_joins 113 rfl) (by decide) (fun cd80 => ?_) (fun cd80 => ?_)
    · skip
      refine r_lconst C (oDec_at oX12_joins 116 rfl) (v := j0) (by rw [qj0]; rfl) ?_
      have lk81 : (((pI s 71 58 v7)).1 71 58).toInt = v7.toInt := congrArg Int32.toInt ((pI_self _ _ _ _))
      have lk82 : (((pI s 71 58 v7)).1 71 58).toInt = v7.toInt := congrArg Int32.toInt ((pI_self _ _ _ _))
      refine r_callVv C oCl12 rfl miX12_puts mlX12_367 (ct_X12_puts l E ((pI s 71 58 v7)) j0 (by omega)) (by decide) rfl rfl rfl (Nat.le_of_ble_eq_true rfl) (oDec_at oX12_joins 117 rfl) (fun u83 pu83 fu83 => ?_)
      try dsimp only at pu83
      try simp only [lk81, lk82] at pu83
      exact r_vret C (oDec_at oX12_joins 118 rfl) ⟨rfl, by omega⟩
    · skip
      refine r_lconst C (oDec_at oX12_joins 114 rfl) (v := j1) (by rw [qj1]; rfl) ?_
      refine r_goto C (tgt := 286) (oDec_at oX12_joins 115 rfl) (by decide) ?_
      have lk85 : (((pI s 71 58 v7)).1 71 58).toInt = v7.toInt := congrArg Int32.toInt ((pI_self _ _ _ _))
      have lk86 : (((pI s 71 58 v7)).1 71 58).toInt = v7.toInt := congrArg Int32.toInt ((pI_self _ _ _ _))
      refine r_callVv C oCl12 rfl miX12_puts mlX12_367 (ct_X12_puts l E ((pI s 71 58 v7)) j1 (by omega)) (by decide) rfl rfl rfl (Nat.le_of_ble_eq_true rfl) (oDec_at oX12_joins 117 rfl) (fun u87 pu87 fu87 => ?_)
      try dsimp only at pu87
      try simp only [lk85, lk86] at pu87
      exact r_vret C (oDec_at oX12_joins 118 rfl) ⟨rfl, by omega⟩
  by_cases cd8_9 : a1.toInt = 10
  · refine r_tableIn C 271 (oDec_at oX12_joins 23 rfl) (by omega) (by omega) (by rw [cd8_9]; rfl) (by decide) ?_
    refine r_aload_n C (j := 0) (oDec_at oX12_joins 107 rfl) rfl rfl ?_
    refine r_lload C (j := 3) (oDec_at oX12_joins 108 rfl) rfl ?_
    refine r_lload_n C (j := 2) (oDec_at oX12_joins 109 rfl) rfl rfl ?_
    obtain ⟨v89, ev89⟩ : ∃ z : Int64, z = v6 + v4 := ⟨_, rfl⟩
    refine r_ladd C v89 (oDec_at oX12_joins 110 rfl) ev89 ?_
    refine r_lconst C (oDec_at oX12_joins 111 rfl) (v := j0) (by rw [qj0]; rfl) ?_
    obtain ⟨v90, ev90⟩ : ∃ z : Int32, z = lg_cmp v89 j0 := ⟨_, rfl⟩
    have hv90 := n_lcmp ev90
    refine r_lcmp C v90 (oDec_at oX12_joins 112 rfl) ev90 ?_
    refine r_pc C 278 rfl ?_
    refine r_if_le C 285 (oDec_at oX12_joins 113 rfl) (by decide) (fun cd91 => ?_) (fun cd91 => ?_)
    · skip
      refine r_lconst C (oDec_at oX12_joins 116 rfl) (v := j0) (by rw [qj0]; rfl) ?_
      have lk92 : (((pI s 71 58 v7)).1 71 58).toInt = v7.toInt := congrArg Int32.toInt ((pI_self _ _ _ _))
      have lk93 : (((pI s 71 58 v7)).1 71 58).toInt = v7.toInt := congrArg Int32.toInt ((pI_self _ _ _ _))
      refine r_callVv C oCl12 rfl miX12_puts mlX12_367 (ct_X12_puts l E ((pI s 71 58 v7)) j0 (by omega)) (by decide) rfl rfl rfl (Nat.le_of_ble_eq_true rfl) (oDec_at oX12_joins 117 rfl) (fun u94 pu94 fu94 => ?_)
      try dsimp only at pu94
      try simp only [lk92, lk93] at pu94
      exact r_vret C (oDec_at oX12_joins 118 rfl) ⟨rfl, by omega⟩
    · skip
      refine r_lconst C (oDec_at oX12_joins 114 rfl) (v := j1) (by rw [qj1]; rfl) ?_
      refine r_goto C (tgt := 286) (oDec_at oX12_joins 115 rfl) (by decide) ?_
      have lk96 : (((pI s 71 58 v7)).1 71 58).toInt = v7.toInt := congrArg Int32.toInt ((pI_self _ _ _ _))
      have lk97 : (((pI s 71 58 v7)).1 71 58).toInt = v7.toInt := congrArg Int32.toInt ((pI_self _ _ _ _))
      refine r_callVv C oCl12 rfl miX12_puts mlX12_367 (ct_X12_puts l E ((pI s 71 58 v7)) j1 (by omega)) (by decide) rfl rfl rfl (Nat.le_of_ble_eq_true rfl) (oDec_at oX12_joins 117 rfl) (fun u98 pu98 fu98 => ?_)
      try dsimp only at pu98
      try simp only [lk96, lk97] at pu98
      exact r_vret C (oDec_at oX12_joins 118 rfl) ⟨rfl, by omega⟩
  by_cases cd8_10 : a1.toInt = 11
  · refine r_tableIn C 203 (oDec_at oX12_joins 23 rfl) (by omega) (by omega) (by rw [cd8_10]; rfl) (by decide) ?_
    refine r_aload_n C (j := 0) (oDec_at oX12_joins 71 rfl) rfl rfl ?_
    refine r_lload C (j := 3) (oDec_at oX12_joins 72 rfl) rfl ?_
    refine r_lload_n C (j := 2) (oDec_at oX12_joins 73 rfl) rfl rfl ?_
    obtain ⟨v100, ev100⟩ : ∃ z : Int32, z = lg_cmp v6 v4 := ⟨_, rfl⟩
    have hv100 := n_lcmp ev100
    refine r_lcmp C v100 (oDec_at oX12_joins 74 rfl) ev100 ?_
    refine r_if_ge C 215 (oDec_at oX12_joins 75 rfl) (by decide) (fun cd101 => ?_) (fun cd101 => ?_)
    · skip
      refine r_lconst C (oDec_at oX12_joins 78 rfl) (v := j0) (by rw [qj0]; rfl) ?_
      have lk102 : (((pI s 71 58 v7)).1 71 58).toInt = v7.toInt := congrArg Int32.toInt ((pI_self _ _ _ _))
      have lk103 : (((pI s 71 58 v7)).1 71 58).toInt = v7.toInt := congrArg Int32.toInt ((pI_self _ _ _ _))
      refine r_callVv C oCl12 rfl miX12_puts mlX12_367 (ct_X12_puts l E ((pI s 71 58 v7)) j0 (by omega)) (by decide) rfl rfl rfl (Nat.le_of_ble_eq_true rfl) (oDec_at oX12_joins 79 rfl) (fun u104 pu104 fu104 => ?_)
      try dsimp only at pu104
      try simp only [lk102, lk103] at pu104
      refine r_goto C (tgt := 289) (oDec_at oX12_joins 80 rfl) (by decide) ?_
      exact r_vret C (oDec_at oX12_joins 118 rfl) ⟨rfl, by omega⟩
    · skip
      refine r_lconst C (oDec_at oX12_joins 76 rfl) (v := j1) (by rw [qj1]; rfl) ?_
      refine r_goto C (tgt := 216) (oDec_at oX12_joins 77 rfl) (by decide) ?_
      have lk106 : (((pI s 71 58 v7)).1 71 58).toInt = v7.toInt := congrArg Int32.toInt ((pI_self _ _ _ _))
      have lk107 : (((pI s 71 58 v7)).1 71 58).toInt = v7.toInt := congrArg Int32.toInt ((pI_self _ _ _ _))
      refine r_callVv C oCl12 rfl miX12_puts mlX12_367 (ct_X12_puts l E ((pI s 71 58 v7)) j1 (by omega)) (by decide) rfl rfl rfl (Nat.le_of_ble_eq_true rfl) (oDec_at oX12_joins 79 rfl) (fun u108 pu108 fu108 => ?_)
      try dsimp only at pu108
      try simp only [lk106, lk107] at pu108
      refine r_goto C (tgt := 289) (oDec_at oX12_joins 80 rfl) (by decide) ?_
      exact r_vret C (oDec_at oX12_joins 118 rfl) ⟨rfl, by omega⟩
  by_cases cd8_11 : a1.toInt = 12
  · refine r_tableIn C 222 (oDec_at oX12_joins 23 rfl) (by omega) (by omega) (by rw [cd8_11]; rfl) (by decide) ?_
    refine r_aload_n C (j := 0) (oDec_at oX12_joins 81 rfl) rfl rfl ?_
    refine r_lload C (j := 3) (oDec_at oX12_joins 82 rfl) rfl ?_
    refine r_lload_n C (j := 2) (oDec_at oX12_joins 83 rfl) rfl rfl ?_
    obtain ⟨v110, ev110⟩ : ∃ z : Int32, z = lg_cmp v6 v4 := ⟨_, rfl⟩
    have hv110 := n_lcmp ev110
    refine r_lcmp C v110 (oDec_at oX12_joins 84 rfl) ev110 ?_
    refine r_if_le C 234 (oDec_at oX12_joins 85 rfl) (by decide) (fun cd111 => ?_) (fun cd111 => ?_)
    · skip
      refine r_lconst C (oDec_at oX12_joins 88 rfl) (v := j0) (by rw [qj0]; rfl) ?_
      have lk112 : (((pI s 71 58 v7)).1 71 58).toInt = v7.toInt := congrArg Int32.toInt ((pI_self _ _ _ _))
      have lk113 : (((pI s 71 58 v7)).1 71 58).toInt = v7.toInt := congrArg Int32.toInt ((pI_self _ _ _ _))
      refine r_callVv C oCl12 rfl miX12_puts mlX12_367 (ct_X12_puts l E ((pI s 71 58 v7)) j0 (by omega)) (by decide) rfl rfl rfl (Nat.le_of_ble_eq_true rfl) (oDec_at oX12_joins 89 rfl) (fun u114 pu114 fu114 => ?_)
      try dsimp only at pu114
      try simp only [lk112, lk113] at pu114
      refine r_goto C (tgt := 289) (oDec_at oX12_joins 90 rfl) (by decide) ?_
      exact r_vret C (oDec_at oX12_joins 118 rfl) ⟨rfl, by omega⟩
    · skip
      refine r_lconst C (oDec_at oX12_joins 86 rfl) (v := j1) (by rw [qj1]; rfl) ?_
      refine r_goto C (tgt := 235) (oDec_at oX12_joins 87 rfl) (by decide) ?_
      have lk116 : (((pI s 71 58 v7)).1 71 58).toInt = v7.toInt := congrArg Int32.toInt ((pI_self _ _ _ _))
      have lk117 : (((pI s 71 58 v7)).1 71 58).toInt = v7.toInt := congrArg Int32.toInt ((pI_self _ _ _ _))
      refine r_callVv C oCl12 rfl miX12_puts mlX12_367 (ct_X12_puts l E ((pI s 71 58 v7)) j1 (by omega)) (by decide) rfl rfl rfl (Nat.le_of_ble_eq_true rfl) (oDec_at oX12_joins 89 rfl) (fun u118 pu118 fu118 => ?_)
      try dsimp only at pu118
      try simp only [lk116, lk117] at pu118
      refine r_goto C (tgt := 289) (oDec_at oX12_joins 90 rfl) (by decide) ?_
      exact r_vret C (oDec_at oX12_joins 118 rfl) ⟨rfl, by omega⟩
  by_cases cd8_12 : a1.toInt = 13
  · refine r_tableIn C 241 (oDec_at oX12_joins 23 rfl) (by omega) (by omega) (by rw [cd8_12]; rfl) (by decide) ?_
    refine r_aload_n C (j := 0) (oDec_at oX12_joins 91 rfl) rfl rfl ?_
    refine r_lload C (j := 3) (oDec_at oX12_joins 92 rfl) rfl ?_
    refine r_lload_n C (j := 2) (oDec_at oX12_joins 93 rfl) rfl rfl ?_
    obtain ⟨v120, ev120⟩ : ∃ z : Int32, z = lg_cmp v6 v4 := ⟨_, rfl⟩
    have hv120 := n_lcmp ev120
    refine r_lcmp C v120 (oDec_at oX12_joins 94 rfl) ev120 ?_
    refine r_if_ne C 253 (oDec_at oX12_joins 95 rfl) (by decide) (fun cd121 => ?_) (fun cd121 => ?_)
    · skip
      refine r_lconst C (oDec_at oX12_joins 98 rfl) (v := j0) (by rw [qj0]; rfl) ?_
      have lk122 : (((pI s 71 58 v7)).1 71 58).toInt = v7.toInt := congrArg Int32.toInt ((pI_self _ _ _ _))
      have lk123 : (((pI s 71 58 v7)).1 71 58).toInt = v7.toInt := congrArg Int32.toInt ((pI_self _ _ _ _))
      refine r_callVv C oCl12 rfl miX12_puts mlX12_367 (ct_X12_puts l E ((pI s 71 58 v7)) j0 (by omega)) (by decide) rfl rfl rfl (Nat.le_of_ble_eq_true rfl) (oDec_at oX12_joins 99 rfl) (fun u124 pu124 fu124 => ?_)
      try dsimp only at pu124
      try simp only [lk122, lk123] at pu124
      refine r_goto C (tgt := 289) (oDec_at oX12_joins 100 rfl) (by decide) ?_
      exact r_vret C (oDec_at oX12_joins 118 rfl) ⟨rfl, by omega⟩
    · skip
      refine r_lconst C (oDec_at oX12_joins 96 rfl) (v := j1) (by rw [qj1]; rfl) ?_
      refine r_goto C (tgt := 254) (oDec_at oX12_joins 97 rfl) (by decide) ?_
      have lk126 : (((pI s 71 58 v7)).1 71 58).toInt = v7.toInt := congrArg Int32.toInt ((pI_self _ _ _ _))
      have lk127 : (((pI s 71 58 v7)).1 71 58).toInt = v7.toInt := congrArg Int32.toInt ((pI_self _ _ _ _))
      refine r_callVv C oCl12 rfl miX12_puts mlX12_367 (ct_X12_puts l E ((pI s 71 58 v7)) j1 (by omega)) (by decide) rfl rfl rfl (Nat.le_of_ble_eq_true rfl) (oDec_at oX12_joins 99 rfl) (fun u128 pu128 fu128 => ?_)
      try dsimp only at pu128
      try simp only [lk126, lk127] at pu128
      refine r_goto C (tgt := 289) (oDec_at oX12_joins 100 rfl) (by decide) ?_
      exact r_vret C (oDec_at oX12_joins 118 rfl) ⟨rfl, by omega⟩
  by_cases cd8_13 : a1.toInt = 14
  · refine r_tableIn C 260 (oDec_at oX12_joins 23 rfl) (by omega) (by omega) (by rw [cd8_13]; rfl) (by decide) ?_
    refine r_aload_n C (j := 0) (oDec_at oX12_joins 101 rfl) rfl rfl ?_
    refine r_lload C (j := 3) (oDec_at oX12_joins 102 rfl) rfl ?_
    refine r_lload_n C (j := 2) (oDec_at oX12_joins 103 rfl) rfl rfl ?_
    obtain ⟨v130, ev130⟩ : ∃ z : Int64, z = v6 * v4 := ⟨_, rfl⟩
    refine r_lmul C v130 (oDec_at oX12_joins 104 rfl) ev130 ?_
    have lk131 : (((pI s 71 58 v7)).1 71 58).toInt = v7.toInt := congrArg Int32.toInt ((pI_self _ _ _ _))
    have lk132 : (((pI s 71 58 v7)).1 71 58).toInt = v7.toInt := congrArg Int32.toInt ((pI_self _ _ _ _))
    refine r_callVv C oCl12 rfl miX12_puts mlX12_367 (ct_X12_puts l E ((pI s 71 58 v7)) v130 (by omega)) (by decide) rfl rfl rfl (Nat.le_of_ble_eq_true rfl) (oDec_at oX12_joins 105 rfl) (fun u133 pu133 fu133 => ?_)
    try dsimp only at pu133
    try simp only [lk131, lk132] at pu133
    refine r_goto C (tgt := 289) (oDec_at oX12_joins 106 rfl) (by decide) ?_
    exact r_vret C (oDec_at oX12_joins 118 rfl) ⟨rfl, by omega⟩
  refine r_tableOut C 271 (oDec_at oX12_joins 23 rfl) (by omega) (by decide) ?_
  refine r_aload_n C (j := 0) (oDec_at oX12_joins 107 rfl) rfl rfl ?_
  refine r_pc C 272 rfl ?_
  refine r_lload C (j := 3) (oDec_at oX12_joins 108 rfl) rfl ?_
  refine r_lload_n C (j := 2) (oDec_at oX12_joins 109 rfl) rfl rfl ?_
  obtain ⟨v135, ev135⟩ : ∃ z : Int64, z = v6 + v4 := ⟨_, rfl⟩
  refine r_ladd C v135 (oDec_at oX12_joins 110 rfl) ev135 ?_
  refine r_lconst C (oDec_at oX12_joins 111 rfl) (v := j0) (by rw [qj0]; rfl) ?_
  obtain ⟨v136, ev136⟩ : ∃ z : Int32, z = lg_cmp v135 j0 := ⟨_, rfl⟩
  have hv136 := n_lcmp ev136
  refine r_lcmp C v136 (oDec_at oX12_joins 112 rfl) ev136 ?_
  refine r_if_le C 285 (oDec_at oX12_joins 113 rfl) (by decide) (fun cd137 => ?_) (fun cd137 => ?_)
  · skip
    refine r_lconst C (oDec_at oX12_joins 116 rfl) (v := j0) (by rw [qj0]; rfl) ?_
    have lk138 : (((pI s 71 58 v7)).1 71 58).toInt = v7.toInt := congrArg Int32.toInt ((pI_self _ _ _ _))
    have lk139 : (((pI s 71 58 v7)).1 71 58).toInt = v7.toInt := congrArg Int32.toInt ((pI_self _ _ _ _))
    refine r_callVv C oCl12 rfl miX12_puts mlX12_367 (ct_X12_puts l E ((pI s 71 58 v7)) j0 (by omega)) (by decide) rfl rfl rfl (Nat.le_of_ble_eq_true rfl) (oDec_at oX12_joins 117 rfl) (fun u140 pu140 fu140 => ?_)
    try dsimp only at pu140
    try simp only [lk138, lk139] at pu140
    exact r_vret C (oDec_at oX12_joins 118 rfl) ⟨rfl, by omega⟩
  · skip
    refine r_lconst C (oDec_at oX12_joins 114 rfl) (v := j1) (by rw [qj1]; rfl) ?_
    refine r_goto C (tgt := 286) (oDec_at oX12_joins 115 rfl) (by decide) ?_
    have lk142 : (((pI s 71 58 v7)).1 71 58).toInt = v7.toInt := congrArg Int32.toInt ((pI_self _ _ _ _))
    have lk143 : (((pI s 71 58 v7)).1 71 58).toInt = v7.toInt := congrArg Int32.toInt ((pI_self _ _ _ _))
    refine r_callVv C oCl12 rfl miX12_puts mlX12_367 (ct_X12_puts l E ((pI s 71 58 v7)) j1 (by omega)) (by decide) rfl rfl rfl (Nat.le_of_ble_eq_true rfl) (oDec_at oX12_joins 117 rfl) (fun u144 pu144 fu144 => ?_)
    try dsimp only at pu144
    try simp only [lk142, lk143] at pu144
    exact r_vret C (oDec_at oX12_joins 118 rfl) ⟨rfl, by omega⟩
set_option maxHeartbeats 4000000 in
set_option maxRecDepth 100000 in
theorem ct_X12_nextLine (l : Launch) (E : oE) (s : oS) (a1 : Int32) (v : Int) (hp0 : 0 ≤ a1.toInt ∧ a1.toInt ≤ 4) (hp1 : oLT s) (hp2 : 1 ≤ (s.1 71 38).toInt → 1 ≤ (s.1 71 42).toInt) (hp3 : oDg s) (hp4 : oVe v s) : oMet l 2 yX12_nextLine cX12_nextLine 4 (some .boolean) [(12, 42), (12, 43), (12, 69), (75, 9999), (77, 9999)] E s [.ref (oad E 71), .int a1] (oPi (fun r u => (0 ≤ r.toInt ∧ r.toInt ≤ 1) ∧ (oLT u) ∧ (1 ≤ (u.1 71 38).toInt → 1 ≤ (u.1 71 42).toInt) ∧ ((u.1 71 38).toInt = (s.1 71 38).toInt) ∧ (r.toInt = 1 → (oDg u ∧ oVg v u)))) := by
  refine oMet.of (lv := [(0, .ref (oad E 71)), (1, .int a1)]) (by decide +kernel) (Nat.le_of_ble_eq_true rfl) rfl (fun J C hT => ?_)
  have C : oC l 2 cX12_nextLine RX12 4 (some .boolean) [(12, 42), (12, 43), (12, 69), (75, 9999), (77, 9999)] E s (oPi (fun r u => (0 ≤ r.toInt ∧ r.toInt ≤ 1) ∧ (oLT u) ∧ (1 ≤ (u.1 71 38).toInt → 1 ≤ (u.1 71 42).toInt) ∧ ((u.1 71 38).toInt = (s.1 71 38).toInt) ∧ (r.toInt = 1 → (oDg u ∧ oVg v u)))) J := C
  obtain ⟨k0, qk0⟩ : ∃ z : Int32, z = 0 := ⟨_, rfl⟩
  have ek0 : k0.toInt = 0 := by rw [qk0]; rfl
  obtain ⟨k1, qk1⟩ : ∃ z : Int32, z = 1 := ⟨_, rfl⟩
  have ek1 : k1.toInt = 1 := by rw [qk1]; rfl
  have rg1 := n_rng a1
  have htn : (0 : Int) ≤ (s.1 71 38).toInt ∧ (s.1 71 38).toInt ≤ 24 := hT.1 71 38
  have hta : (0 : Int) ≤ (s.1 71 77).toInt ∧ (s.1 71 77).toInt ≤ 24 := hT.1 71 77
  have key : ∀ n : Nat, (∀ (t : oS) (x2 : Int32), (oLT t) → (1 ≤ (t.1 71 38).toInt → 1 ≤ (t.1 71 42).toInt) → ((t.1 71 38).toInt = (s.1 71 38).toInt) → (-1 ≤ x2.toInt ∧ x2.toInt < (s.1 71 38).toInt) → (oNj s x2 t) → x2.toInt + 100 ≤ (n : Int) → J t 7 [(0, .ref (oad E 71)), (1, .int a1), (2, .int x2)] []) ∧ (∀ (t : oS) (x3 : Int32), (oLT t) → (1 ≤ (t.1 71 38).toInt → 1 ≤ (t.1 71 42).toInt) → ((t.1 71 38).toInt = (s.1 71 38).toInt) → (1 ≤ x3.toInt ∧ x3.toInt ≤ (s.1 71 38).toInt) → (oNm s x3 t) → 30 - x3.toInt ≤ (n : Int) → J t 81 [(0, .ref (oad E 71)), (3, .int x3)] []) := by
    intro n
    induction n using Nat.strongRecOn with
    | _ n ih =>
      refine ⟨?_, ?_⟩
      · intro t x2  iv0 iv1 iv2 iv3 iv4 hmu
        have rx2 := n_rng x2
        refine r_iload_n C (j := 2) (oDec_at oX12_nextLine 5 rfl) rfl rfl ?_
        refine r_if_lt C 71 (oDec_at oX12_nextLine 6 rfl) (by decide) (fun cd1 => ?_) (fun cd1 => ?_)
        · skip
          refine r_iload_n C (j := 2) (oDec_at oX12_nextLine 45 rfl) rfl rfl ?_
          refine r_if_ge C 77 (oDec_at oX12_nextLine 46 rfl) (by decide) (fun cd2 => ?_) (fun cd2 => ?_)
          · skip
            refine r_iload_n C (j := 2) (oDec_at oX12_nextLine 49 rfl) rfl rfl ?_
            refine r_iconst C (oDec_at oX12_nextLine 50 rfl) (v := k1) (by rw [qk1]; rfl) ?_
            obtain ⟨v3, ev3⟩ : ∃ z : Int32, z = x2 + k1 := ⟨_, rfl⟩
            have hv3 : v3.toInt = x2.toInt + k1.toInt := n_add ev3 (by omega) (by omega)
            refine r_iadd C v3 (oDec_at oX12_nextLine 51 rfl) ev3 ?_
            refine r_istore_n C (lv' := [(0, .ref (oad E 71)), (1, .int a1), (2, .int x2), (3, .int v3)]) [1, 2, 3, 0] (oDec_at oX12_nextLine 52 rfl) rfl (by decide) rfl ?_
            refine r_pick C [0, 3] rfl ?_
            exact (ih (n - 1) (by omega)).2 (t) v3  iv0 (by omega) (by omega) (by omega) (by first | (exfalso; omega) | exact oNm_of1 (x := x2) (y := v3) iv4 hp3 (by omega) (by omega) (by omega) (by omega) (by omega) | exact oNm_of2 (x := x2) (y := v3) iv4 hp3 (by omega) (by omega) (by omega) (by omega) (by omega)) (by omega)
          · skip
            refine r_iconst C (oDec_at oX12_nextLine 47 rfl) (v := k0) (by rw [qk0]; rfl) ?_
            exact r_zret C (n_bool (by omega)) (oDec_at oX12_nextLine 48 rfl) ⟨_, rfl, ⟨by omega, iv0, by omega, by omega, by intro h; omega⟩⟩
        · skip
          refine r_aload_n C (j := 0) (oDec_at oX12_nextLine 7 rfl) rfl rfl ?_
          refine r_getF (k := 39) (b := 99) C oCl12 rfl (by decide) flX12_96 rfl rfl rfl (oDec_at oX12_nextLine 8 rfl) ?_
          refine r_iload_n C (j := 2) (oDec_at oX12_nextLine 9 rfl) rfl rfl ?_
          refine r_dup2 C (oDec_at oX12_nextLine 10 rfl) rfl rfl ?_
          obtain ⟨v5, ev5⟩ : ∃ z : Int32, (t).1 99 x2.toNatClampNeg = z := ⟨_, rfl⟩
          have gv5 : (t.1 99 x2.toNatClampNeg).toInt = v5.toInt := congrArg Int32.toInt (ev5)
          have rv5 := n_rng v5
          refine r_iald (n := 48) (lo := (-2147483648)) (hi := 2147483647) C v5 rfl (by decide) rfl rfl ⟨by omega, by omega⟩ (by decide) ev5 rfl rfl (oDec_at oX12_nextLine 11 rfl) (fun _ _ => ?_)
          have hd := oNj_at iv4 hp3 (x := x2) (by omega) (by omega)
          refine r_iconst C (oDec_at oX12_nextLine 12 rfl) (v := k1) (by rw [qk1]; rfl) ?_
          refine r_pc C 19 rfl ?_
          obtain ⟨v6, ev6⟩ : ∃ z : Int32, z = v5 + k1 := ⟨_, rfl⟩
          have hv6 : v6.toInt = v5.toInt + k1.toInt := n_add ev6 (by omega) (by omega)
          refine r_iadd C v6 (oDec_at oX12_nextLine 13 rfl) ev6 ?_
          refine r_iast (n := 48) (lo := (-2147483648)) (hi := 2147483647) C rfl (by decide) rfl rfl ⟨by omega, by omega⟩ (by decide) rfl rfl rfl rfl (n_rng _) (oDec_at oX12_nextLine 14 rfl) ?_
          refine r_iload_n C (j := 2) (oDec_at oX12_nextLine 15 rfl) rfl rfl ?_
          refine r_if_le C 52 (oDec_at oX12_nextLine 16 rfl) (by decide) (fun cd7 => ?_) (fun cd7 => ?_)
          · skip
            refine r_aload_n C (j := 0) (oDec_at oX12_nextLine 36 rfl) rfl rfl ?_
            refine r_getF (k := 39) (b := 99) C oCl12 rfl (by decide) flX12_96 rfl rfl rfl (oDec_at oX12_nextLine 37 rfl) ?_
            refine r_iload_n C (j := 2) (oDec_at oX12_nextLine 38 rfl) rfl rfl ?_
            refine r_iald (n := 48) (lo := (-2147483648)) (hi := 2147483647) C v6 rfl (by decide) rfl rfl ⟨by omega, by omega⟩ (by decide) ((pI_self _ _ _ _)) rfl rfl (oDec_at oX12_nextLine 39 rfl) (fun _ _ => ?_)
            refine r_iload_n C (j := 1) (oDec_at oX12_nextLine 40 rfl) rfl rfl ?_
            refine r_icmp_gt C 65 (oDec_at oX12_nextLine 41 rfl) (by decide) (fun cd9 => ?_) (fun cd9 => ?_)
            · skip
              obtain ⟨v10, ev10⟩ : ∃ z : Int32, x2 + Int32.ofInt (-1) = z := ⟨_, rfl⟩
              have hv10 : v10.toInt = x2.toInt + (-1) := n_inc ev10 (by decide) (by omega) (by omega)
              refine r_iinc C (j := 2) (lv' := [(0, .ref (oad E 71)), (1, .int a1), (2, .int v10)]) v10 [1, 2, 0] (oDec_at oX12_nextLine 43 rfl) rfl ev10 (by decide) rfl ?_
              refine r_goto C (tgt := 7) (oDec_at oX12_nextLine 44 rfl) (by decide) ?_
              have lk11 : (((pI t 99 x2.toNatClampNeg v6)).1 71 38).toInt = (t.1 71 38).toInt := congrArg Int32.toInt ((pI_ne (a := 71) (b := 38) (c := 99) _ _ (Or.inl (by decide))))
              have lk12 : (((pI t 99 x2.toNatClampNeg v6)).1 71 42).toInt = (t.1 71 42).toInt := congrArg Int32.toInt ((pI_ne (a := 71) (b := 42) (c := 99) _ _ (Or.inl (by decide))))
              have lk13 : (((pI t 99 x2.toNatClampNeg v6)).1 71 38).toInt = (t.1 71 38).toInt := congrArg Int32.toInt ((pI_ne (a := 71) (b := 38) (c := 99) _ _ (Or.inl (by decide))))
              exact (ih (n - 1) (by omega)).1 ((pI t 99 x2.toNatClampNeg v6)) v10  (oLT_fr (oFr_oneI (q := 75) (m := 9999) rfl (by rfl)) rfl iv0) (by omega) (by omega) (by omega) (by first | exact oNj_1 (x := x2) (y := v10) iv4 (by omega) (by omega) | exact oNj_2 (x := x2) (y := v10) iv4 (by omega) (by omega) | exact (fun j hj => rfl)) (by omega)
            · skip
              refine r_goto C (tgt := 71) (oDec_at oX12_nextLine 42 rfl) (by decide) ?_
              refine r_iload_n C (j := 2) (oDec_at oX12_nextLine 45 rfl) rfl rfl ?_
              refine r_if_ge C 77 (oDec_at oX12_nextLine 46 rfl) (by decide) (fun cd14 => ?_) (fun cd14 => ?_)
              · skip
                refine r_iload_n C (j := 2) (oDec_at oX12_nextLine 49 rfl) rfl rfl ?_
                refine r_iconst C (oDec_at oX12_nextLine 50 rfl) (v := k1) (by rw [qk1]; rfl) ?_
                obtain ⟨v15, ev15⟩ : ∃ z : Int32, z = x2 + k1 := ⟨_, rfl⟩
                have hv15 : v15.toInt = x2.toInt + k1.toInt := n_add ev15 (by omega) (by omega)
                refine r_iadd C v15 (oDec_at oX12_nextLine 51 rfl) ev15 ?_
                refine r_istore_n C (lv' := [(0, .ref (oad E 71)), (1, .int a1), (2, .int x2), (3, .int v15)]) [1, 2, 3, 0] (oDec_at oX12_nextLine 52 rfl) rfl (by decide) rfl ?_
                have lk16 : (((pI t 99 x2.toNatClampNeg v6)).1 71 38).toInt = (t.1 71 38).toInt := congrArg Int32.toInt ((pI_ne (a := 71) (b := 38) (c := 99) _ _ (Or.inl (by decide))))
                have lk17 : (((pI t 99 x2.toNatClampNeg v6)).1 71 42).toInt = (t.1 71 42).toInt := congrArg Int32.toInt ((pI_ne (a := 71) (b := 42) (c := 99) _ _ (Or.inl (by decide))))
                have lk18 : (((pI t 99 x2.toNatClampNeg v6)).1 71 38).toInt = (t.1 71 38).toInt := congrArg Int32.toInt ((pI_ne (a := 71) (b := 38) (c := 99) _ _ (Or.inl (by decide))))
                refine r_pick C [0, 3] rfl ?_
                exact (ih (n - 1) (by omega)).2 ((pI t 99 x2.toNatClampNeg v6)) v15  (oLT_fr (oFr_oneI (q := 75) (m := 9999) rfl (by rfl)) rfl iv0) (by omega) (by omega) (by omega) (by first | (exfalso; omega) | exact oNm_of1 (x := x2) (y := v15) iv4 hp3 (by omega) (by omega) (by omega) (by omega) (by omega) | exact oNm_of2 (x := x2) (y := v15) iv4 hp3 (by omega) (by omega) (by omega) (by omega) (by omega)) (by omega)
              · skip
                refine r_iconst C (oDec_at oX12_nextLine 47 rfl) (v := k0) (by rw [qk0]; rfl) ?_
                have lk19 : (((pI t 99 x2.toNatClampNeg v6)).1 71 38).toInt = (t.1 71 38).toInt := congrArg Int32.toInt ((pI_ne (a := 71) (b := 38) (c := 99) _ _ (Or.inl (by decide))))
                have lk20 : (((pI t 99 x2.toNatClampNeg v6)).1 71 42).toInt = (t.1 71 42).toInt := congrArg Int32.toInt ((pI_ne (a := 71) (b := 42) (c := 99) _ _ (Or.inl (by decide))))
                have lk21 : (((pI t 99 x2.toNatClampNeg v6)).1 71 38).toInt = (t.1 71 38).toInt := congrArg Int32.toInt ((pI_ne (a := 71) (b := 38) (c := 99) _ _ (Or.inl (by decide))))
                exact r_zret C (n_bool (by omega)) (oDec_at oX12_nextLine 48 rfl) ⟨_, rfl, ⟨by omega, (oLT_fr (oFr_oneI (q := 75) (m := 9999) rfl (by rfl)) rfl iv0), by omega, by omega, by intro h; omega⟩⟩
          · skip
            refine r_aload_n C (j := 0) (oDec_at oX12_nextLine 17 rfl) rfl rfl ?_
            refine r_getF (k := 39) (b := 99) C oCl12 rfl (by decide) flX12_96 rfl rfl rfl (oDec_at oX12_nextLine 18 rfl) ?_
            refine r_iload_n C (j := 2) (oDec_at oX12_nextLine 19 rfl) rfl rfl ?_
            refine r_iald (n := 48) (lo := (-2147483648)) (hi := 2147483647) C v6 rfl (by decide) rfl rfl ⟨by omega, by omega⟩ (by decide) ((pI_self _ _ _ _)) rfl rfl (oDec_at oX12_nextLine 20 rfl) (fun _ _ => ?_)
            refine r_aload_n C (j := 0) (oDec_at oX12_nextLine 21 rfl) rfl rfl ?_
            refine r_getF (k := 39) (b := 99) C oCl12 rfl (by decide) flX12_96 rfl rfl rfl (oDec_at oX12_nextLine 22 rfl) ?_
            refine r_pc C 35 rfl ?_
            refine r_iload_n C (j := 2) (oDec_at oX12_nextLine 23 rfl) rfl rfl ?_
            refine r_iconst C (oDec_at oX12_nextLine 24 rfl) (v := k1) (by rw [qk1]; rfl) ?_
            obtain ⟨v23, ev23⟩ : ∃ z : Int32, z = x2 - k1 := ⟨_, rfl⟩
            have hv23 : v23.toInt = x2.toInt - k1.toInt := n_sub ev23 (by omega) (by omega)
            refine r_isub C v23 (oDec_at oX12_nextLine 25 rfl) ev23 ?_
            obtain ⟨v25, ev25⟩ : ∃ z : Int32, ((pI t 99 x2.toNatClampNeg v6)).1 99 v23.toNatClampNeg = z := ⟨_, rfl⟩
            have gv25 : (((pI t 99 x2.toNatClampNeg v6)).1 99 v23.toNatClampNeg).toInt = v25.toInt := congrArg Int32.toInt (ev25)
            have rv25 := n_rng v25
            refine r_iald (n := 48) (lo := (-2147483648)) (hi := 2147483647) C v25 rfl (by decide) rfl rfl ⟨by omega, by omega⟩ (by decide) ev25 rfl rfl (oDec_at oX12_nextLine 26 rfl) (fun _ _ => ?_)
            refine r_icmp_ne C 52 (oDec_at oX12_nextLine 27 rfl) (by decide) (fun cd26 => ?_) (fun cd26 => ?_)
            · skip
              refine r_aload_n C (j := 0) (oDec_at oX12_nextLine 36 rfl) rfl rfl ?_
              refine r_getF (k := 39) (b := 99) C oCl12 rfl (by decide) flX12_96 rfl rfl rfl (oDec_at oX12_nextLine 37 rfl) ?_
              refine r_iload_n C (j := 2) (oDec_at oX12_nextLine 38 rfl) rfl rfl ?_
              refine r_iald (n := 48) (lo := (-2147483648)) (hi := 2147483647) C v6 rfl (by decide) rfl rfl ⟨by omega, by omega⟩ (by decide) ((pI_self _ _ _ _)) rfl rfl (oDec_at oX12_nextLine 39 rfl) (fun _ _ => ?_)
              refine r_iload_n C (j := 1) (oDec_at oX12_nextLine 40 rfl) rfl rfl ?_
              refine r_icmp_gt C 65 (oDec_at oX12_nextLine 41 rfl) (by decide) (fun cd28 => ?_) (fun cd28 => ?_)
              · skip
                obtain ⟨v29, ev29⟩ : ∃ z : Int32, x2 + Int32.ofInt (-1) = z := ⟨_, rfl⟩
                have hv29 : v29.toInt = x2.toInt + (-1) := n_inc ev29 (by decide) (by omega) (by omega)
                refine r_iinc C (j := 2) (lv' := [(0, .ref (oad E 71)), (1, .int a1), (2, .int v29)]) v29 [1, 2, 0] (oDec_at oX12_nextLine 43 rfl) rfl ev29 (by decide) rfl ?_
                refine r_goto C (tgt := 7) (oDec_at oX12_nextLine 44 rfl) (by decide) ?_
                have lk30 : (((pI t 99 x2.toNatClampNeg v6)).1 71 38).toInt = (t.1 71 38).toInt := congrArg Int32.toInt ((pI_ne (a := 71) (b := 38) (c := 99) _ _ (Or.inl (by decide))))
                have lk31 : (((pI t 99 x2.toNatClampNeg v6)).1 71 42).toInt = (t.1 71 42).toInt := congrArg Int32.toInt ((pI_ne (a := 71) (b := 42) (c := 99) _ _ (Or.inl (by decide))))
                have lk32 : (((pI t 99 x2.toNatClampNeg v6)).1 71 38).toInt = (t.1 71 38).toInt := congrArg Int32.toInt ((pI_ne (a := 71) (b := 38) (c := 99) _ _ (Or.inl (by decide))))
                exact (ih (n - 1) (by omega)).1 ((pI t 99 x2.toNatClampNeg v6)) v29  (oLT_fr (oFr_oneI (q := 75) (m := 9999) rfl (by rfl)) rfl iv0) (by omega) (by omega) (by omega) (by first | exact oNj_1 (x := x2) (y := v29) iv4 (by omega) (by omega) | exact oNj_2 (x := x2) (y := v29) iv4 (by omega) (by omega) | exact (fun j hj => rfl)) (by omega)
              · skip
                refine r_goto C (tgt := 71) (oDec_at oX12_nextLine 42 rfl) (by decide) ?_
                refine r_iload_n C (j := 2) (oDec_at oX12_nextLine 45 rfl) rfl rfl ?_
                refine r_if_ge C 77 (oDec_at oX12_nextLine 46 rfl) (by decide) (fun cd33 => ?_) (fun cd33 => ?_)
                · skip
                  refine r_iload_n C (j := 2) (oDec_at oX12_nextLine 49 rfl) rfl rfl ?_
                  refine r_iconst C (oDec_at oX12_nextLine 50 rfl) (v := k1) (by rw [qk1]; rfl) ?_
                  obtain ⟨v34, ev34⟩ : ∃ z : Int32, z = x2 + k1 := ⟨_, rfl⟩
                  have hv34 : v34.toInt = x2.toInt + k1.toInt := n_add ev34 (by omega) (by omega)
                  refine r_iadd C v34 (oDec_at oX12_nextLine 51 rfl) ev34 ?_
                  refine r_istore_n C (lv' := [(0, .ref (oad E 71)), (1, .int a1), (2, .int x2), (3, .int v34)]) [1, 2, 3, 0] (oDec_at oX12_nextLine 52 rfl) rfl (by decide) rfl ?_
                  have lk35 : (((pI t 99 x2.toNatClampNeg v6)).1 71 38).toInt = (t.1 71 38).toInt := congrArg Int32.toInt ((pI_ne (a := 71) (b := 38) (c := 99) _ _ (Or.inl (by decide))))
                  have lk36 : (((pI t 99 x2.toNatClampNeg v6)).1 71 42).toInt = (t.1 71 42).toInt := congrArg Int32.toInt ((pI_ne (a := 71) (b := 42) (c := 99) _ _ (Or.inl (by decide))))
                  have lk37 : (((pI t 99 x2.toNatClampNeg v6)).1 71 38).toInt = (t.1 71 38).toInt := congrArg Int32.toInt ((pI_ne (a := 71) (b := 38) (c := 99) _ _ (Or.inl (by decide))))
                  refine r_pick C [0, 3] rfl ?_
                  exact (ih (n - 1) (by omega)).2 ((pI t 99 x2.toNatClampNeg v6)) v34  (oLT_fr (oFr_oneI (q := 75) (m := 9999) rfl (by rfl)) rfl iv0) (by omega) (by omega) (by omega) (by first | (exfalso; omega) | exact oNm_of1 (x := x2) (y := v34) iv4 hp3 (by omega) (by omega) (by omega) (by omega) (by omega) | exact oNm_of2 (x := x2) (y := v34) iv4 hp3 (by omega) (by omega) (by omega) (by omega) (by omega)) (by omega)
                · skip
                  refine r_iconst C (oDec_at oX12_nextLine 47 rfl) (v := k0) (by rw [qk0]; rfl) ?_
                  have lk38 : (((pI t 99 x2.toNatClampNeg v6)).1 71 38).toInt = (t.1 71 38).toInt := congrArg Int32.toInt ((pI_ne (a := 71) (b := 38) (c := 99) _ _ (Or.inl (by decide))))
                  have lk39 : (((pI t 99 x2.toNatClampNeg v6)).1 71 42).toInt = (t.1 71 42).toInt := congrArg Int32.toInt ((pI_ne (a := 71) (b := 42) (c := 99) _ _ (Or.inl (by decide))))
                  have lk40 : (((pI t 99 x2.toNatClampNeg v6)).1 71 38).toInt = (t.1 71 38).toInt := congrArg Int32.toInt ((pI_ne (a := 71) (b := 38) (c := 99) _ _ (Or.inl (by decide))))
                  exact r_zret C (n_bool (by omega)) (oDec_at oX12_nextLine 48 rfl) ⟨_, rfl, ⟨by omega, (oLT_fr (oFr_oneI (q := 75) (m := 9999) rfl (by rfl)) rfl iv0), by omega, by omega, by intro h; omega⟩⟩
            · skip
              refine r_aload_n C (j := 0) (oDec_at oX12_nextLine 28 rfl) rfl rfl ?_
              refine r_getF (k := 39) (b := 99) C oCl12 rfl (by decide) flX12_96 rfl rfl rfl (oDec_at oX12_nextLine 29 rfl) ?_
              refine r_iload_n C (j := 2) (oDec_at oX12_nextLine 30 rfl) rfl rfl ?_
              refine r_dup2 C (oDec_at oX12_nextLine 31 rfl) rfl rfl ?_
              refine r_iald (n := 48) (lo := (-2147483648)) (hi := 2147483647) C v6 rfl (by decide) rfl rfl ⟨by omega, by omega⟩ (by decide) ((pI_self _ _ _ _)) rfl rfl (oDec_at oX12_nextLine 32 rfl) (fun _ _ => ?_)
              refine r_iconst C (oDec_at oX12_nextLine 33 rfl) (v := k1) (by rw [qk1]; rfl) ?_
              refine r_pc C 50 rfl ?_
              obtain ⟨v42, ev42⟩ : ∃ z : Int32, z = v6 + k1 := ⟨_, rfl⟩
              have hv42 : v42.toInt = v6.toInt + k1.toInt := n_add ev42 (by omega) (by omega)
              refine r_iadd C v42 (oDec_at oX12_nextLine 34 rfl) ev42 ?_
              refine r_iast (n := 48) (lo := (-2147483648)) (hi := 2147483647) C rfl (by decide) rfl rfl ⟨by omega, by omega⟩ (by decide) rfl rfl rfl rfl (n_rng _) (oDec_at oX12_nextLine 35 rfl) ?_
              refine r_aload_n C (j := 0) (oDec_at oX12_nextLine 36 rfl) rfl rfl ?_
              refine r_getF (k := 39) (b := 99) C oCl12 rfl (by decide) flX12_96 rfl rfl rfl (oDec_at oX12_nextLine 37 rfl) ?_
              refine r_iload_n C (j := 2) (oDec_at oX12_nextLine 38 rfl) rfl rfl ?_
              refine r_iald (n := 48) (lo := (-2147483648)) (hi := 2147483647) C v42 rfl (by decide) rfl rfl ⟨by omega, by omega⟩ (by decide) ((pI_self _ _ _ _)) rfl rfl (oDec_at oX12_nextLine 39 rfl) (fun _ _ => ?_)
              refine r_pc C 58 rfl ?_
              refine r_iload_n C (j := 1) (oDec_at oX12_nextLine 40 rfl) rfl rfl ?_
              refine r_icmp_gt C 65 (oDec_at oX12_nextLine 41 rfl) (by decide) (fun cd44 => ?_) (fun cd44 => ?_)
              · skip
                obtain ⟨v45, ev45⟩ : ∃ z : Int32, x2 + Int32.ofInt (-1) = z := ⟨_, rfl⟩
                have hv45 : v45.toInt = x2.toInt + (-1) := n_inc ev45 (by decide) (by omega) (by omega)
                refine r_iinc C (j := 2) (lv' := [(0, .ref (oad E 71)), (1, .int a1), (2, .int v45)]) v45 [1, 2, 0] (oDec_at oX12_nextLine 43 rfl) rfl ev45 (by decide) rfl ?_
                refine r_goto C (tgt := 7) (oDec_at oX12_nextLine 44 rfl) (by decide) ?_
                have lk46 : (((pI (pI t 99 x2.toNatClampNeg v6) 99 x2.toNatClampNeg v42)).1 71 38).toInt = (t.1 71 38).toInt := congrArg Int32.toInt (((pI_ne (a := 71) (b := 38) (c := 99) _ _ (Or.inl (by decide)))).trans ((pI_ne (a := 71) (b := 38) (c := 99) _ _ (Or.inl (by decide)))))
                have lk47 : (((pI (pI t 99 x2.toNatClampNeg v6) 99 x2.toNatClampNeg v42)).1 71 42).toInt = (t.1 71 42).toInt := congrArg Int32.toInt (((pI_ne (a := 71) (b := 42) (c := 99) _ _ (Or.inl (by decide)))).trans ((pI_ne (a := 71) (b := 42) (c := 99) _ _ (Or.inl (by decide)))))
                have lk48 : (((pI (pI t 99 x2.toNatClampNeg v6) 99 x2.toNatClampNeg v42)).1 71 38).toInt = (t.1 71 38).toInt := congrArg Int32.toInt (((pI_ne (a := 71) (b := 38) (c := 99) _ _ (Or.inl (by decide)))).trans ((pI_ne (a := 71) (b := 38) (c := 99) _ _ (Or.inl (by decide)))))
                exact (ih (n - 1) (by omega)).1 ((pI (pI t 99 x2.toNatClampNeg v6) 99 x2.toNatClampNeg v42)) v45  (oLT_fr (oFr_oneI (q := 75) (m := 9999) rfl (by rfl)) rfl (oLT_fr (oFr_oneI (q := 75) (m := 9999) rfl (by rfl)) rfl iv0)) (by omega) (by omega) (by omega) (by first | exact oNj_1 (x := x2) (y := v45) iv4 (by omega) (by omega) | exact oNj_2 (x := x2) (y := v45) iv4 (by omega) (by omega) | exact (fun j hj => rfl)) (by omega)
              · skip
                refine r_goto C (tgt := 71) (oDec_at oX12_nextLine 42 rfl) (by decide) ?_
                refine r_iload_n C (j := 2) (oDec_at oX12_nextLine 45 rfl) rfl rfl ?_
                refine r_if_ge C 77 (oDec_at oX12_nextLine 46 rfl) (by decide) (fun cd49 => ?_) (fun cd49 => ?_)
                · skip
                  refine r_iload_n C (j := 2) (oDec_at oX12_nextLine 49 rfl) rfl rfl ?_
                  refine r_iconst C (oDec_at oX12_nextLine 50 rfl) (v := k1) (by rw [qk1]; rfl) ?_
                  obtain ⟨v50, ev50⟩ : ∃ z : Int32, z = x2 + k1 := ⟨_, rfl⟩
                  have hv50 : v50.toInt = x2.toInt + k1.toInt := n_add ev50 (by omega) (by omega)
                  refine r_iadd C v50 (oDec_at oX12_nextLine 51 rfl) ev50 ?_
                  refine r_istore_n C (lv' := [(0, .ref (oad E 71)), (1, .int a1), (2, .int x2), (3, .int v50)]) [1, 2, 3, 0] (oDec_at oX12_nextLine 52 rfl) rfl (by decide) rfl ?_
                  have lk51 : (((pI (pI t 99 x2.toNatClampNeg v6) 99 x2.toNatClampNeg v42)).1 71 38).toInt = (t.1 71 38).toInt := congrArg Int32.toInt (((pI_ne (a := 71) (b := 38) (c := 99) _ _ (Or.inl (by decide)))).trans ((pI_ne (a := 71) (b := 38) (c := 99) _ _ (Or.inl (by decide)))))
                  have lk52 : (((pI (pI t 99 x2.toNatClampNeg v6) 99 x2.toNatClampNeg v42)).1 71 42).toInt = (t.1 71 42).toInt := congrArg Int32.toInt (((pI_ne (a := 71) (b := 42) (c := 99) _ _ (Or.inl (by decide)))).trans ((pI_ne (a := 71) (b := 42) (c := 99) _ _ (Or.inl (by decide)))))
                  have lk53 : (((pI (pI t 99 x2.toNatClampNeg v6) 99 x2.toNatClampNeg v42)).1 71 38).toInt = (t.1 71 38).toInt := congrArg Int32.toInt (((pI_ne (a := 71) (b := 38) (c := 99) _ _ (Or.inl (by decide)))).trans ((pI_ne (a := 71) (b := 38) (c := 99) _ _ (Or.inl (by decide)))))
                  refine r_pick C [0, 3] rfl ?_
                  exact (ih (n - 1) (by omega)).2 ((pI (pI t 99 x2.toNatClampNeg v6) 99 x2.toNatClampNeg v42)) v50  (oLT_fr (oFr_oneI (q := 75) (m := 9999) rfl (by rfl)) rfl (oLT_fr (oFr_oneI (q := 75) (m := 9999) rfl (by rfl)) rfl iv0)) (by omega) (by omega) (by omega) (by first | (exfalso; omega) | exact oNm_of1 (x := x2) (y := v50) iv4 hp3 (by omega) (by omega) (by omega) (by omega) (by omega) | exact oNm_of2 (x := x2) (y := v50) iv4 hp3 (by omega) (by omega) (by omega) (by omega) (by omega)) (by omega)
                · skip
                  refine r_iconst C (oDec_at oX12_nextLine 47 rfl) (v := k0) (by rw [qk0]; rfl) ?_
                  have lk54 : (((pI (pI t 99 x2.toNatClampNeg v6) 99 x2.toNatClampNeg v42)).1 71 38).toInt = (t.1 71 38).toInt := congrArg Int32.toInt (((pI_ne (a := 71) (b := 38) (c := 99) _ _ (Or.inl (by decide)))).trans ((pI_ne (a := 71) (b := 38) (c := 99) _ _ (Or.inl (by decide)))))
                  have lk55 : (((pI (pI t 99 x2.toNatClampNeg v6) 99 x2.toNatClampNeg v42)).1 71 42).toInt = (t.1 71 42).toInt := congrArg Int32.toInt (((pI_ne (a := 71) (b := 42) (c := 99) _ _ (Or.inl (by decide)))).trans ((pI_ne (a := 71) (b := 42) (c := 99) _ _ (Or.inl (by decide)))))
                  have lk56 : (((pI (pI t 99 x2.toNatClampNeg v6) 99 x2.toNatClampNeg v42)).1 71 38).toInt = (t.1 71 38).toInt := congrArg Int32.toInt (((pI_ne (a := 71) (b := 38) (c := 99) _ _ (Or.inl (by decide)))).trans ((pI_ne (a := 71) (b := 38) (c := 99) _ _ (Or.inl (by decide)))))
                  exact r_zret C (n_bool (by omega)) (oDec_at oX12_nextLine 48 rfl) ⟨_, rfl, ⟨by omega, (oLT_fr (oFr_oneI (q := 75) (m := 9999) rfl (by rfl)) rfl (oLT_fr (oFr_oneI (q := 75) (m := 9999) rfl (by rfl)) rfl iv0)), by omega, by omega, by intro h; omega⟩⟩
      · intro t x3  iv0 iv1 iv2 iv3 iv4 hmu
        have rx3 := n_rng x3
        refine r_iload_n C (j := 1) (oDec_at oX12_nextLine 53 rfl) rfl rfl ?_
        refine r_aload_n C (j := 0) (oDec_at oX12_nextLine 54 rfl) rfl rfl ?_
        obtain ⟨v57, ev57⟩ : ∃ z : Int32, (t).1 71 38 = z := ⟨_, rfl⟩
        have gv57 : (t.1 71 38).toInt = v57.toInt := congrArg Int32.toInt (ev57)
        refine r_geti (k := 38) (lo := 0) (hi := 24) C v57 oCl12 rfl (by decide) flX12_261 rfl rfl (ev57) rfl rfl (oDec_at oX12_nextLine 55 rfl) (fun b58 b58h => ?_)
        refine r_icmp_ge C 117 (oDec_at oX12_nextLine 56 rfl) (by decide) (fun cd59 => ?_) (fun cd59 => ?_)
        · skip
          have hq60 : oDg (t) := oNm_dg iv4 (by omega)
          have hq61 : oVg v (t) := oNm_vg iv4 (by omega) (by omega) hp3 hp4
          refine r_aload_n C (j := 0) (oDec_at oX12_nextLine 73 rfl) rfl rfl ?_
          refine r_callVv C oCl12 rfl miX12_lies mlX12_264 (ct_X12_lies l E (t)  iv0) (by decide) rfl rfl rfl (Nat.le_of_ble_eq_true rfl) (oDec_at oX12_nextLine 74 rfl) (fun u62 pu62 fu62 => ?_)
          try dsimp only at pu62
          obtain ⟨pu62_0, pu62_1⟩ := pu62
          have lu64 : ((u62).1 71 38).toInt = v57.toInt := congrArg Int32.toInt (((fu62 71 38 rfl).1).trans (ev57))
          refine r_iconst C (oDec_at oX12_nextLine 75 rfl) (v := k1) (by rw [qk1]; rfl) ?_
          have lk65 : ((u62).1 71 38).toInt = v57.toInt := congrArg Int32.toInt (((fu62 71 38 rfl).1).trans (ev57))
          have lk66 : ((u62).1 71 38).toInt = v57.toInt := congrArg Int32.toInt (((fu62 71 38 rfl).1).trans (ev57))
          exact r_zret C (n_bool (by omega)) (oDec_at oX12_nextLine 76 rfl) ⟨_, rfl, ⟨by omega, pu62_0, by omega, by omega, fun _ => ⟨(oDg_fr fu62 rfl hq60), (oVg_fr fu62 rfl hq61)⟩⟩⟩
        · skip
          refine r_aload_n C (j := 0) (oDec_at oX12_nextLine 57 rfl) rfl rfl ?_
          refine r_getF (k := 39) (b := 99) C oCl12 rfl (by decide) flX12_96 rfl rfl rfl (oDec_at oX12_nextLine 58 rfl) ?_
          refine r_iload_n C (j := 1) (oDec_at oX12_nextLine 59 rfl) rfl rfl ?_
          refine r_aload_n C (j := 0) (oDec_at oX12_nextLine 60 rfl) rfl rfl ?_
          refine r_getF (k := 39) (b := 99) C oCl12 rfl (by decide) flX12_96 rfl rfl rfl (oDec_at oX12_nextLine 61 rfl) ?_
          refine r_iload_n C (j := 1) (oDec_at oX12_nextLine 62 rfl) rfl rfl ?_
          refine r_pc C 99 rfl ?_
          refine r_iconst C (oDec_at oX12_nextLine 63 rfl) (v := k1) (by rw [qk1]; rfl) ?_
          obtain ⟨v67, ev67⟩ : ∃ z : Int32, z = x3 - k1 := ⟨_, rfl⟩
          have hv67 : v67.toInt = x3.toInt - k1.toInt := n_sub ev67 (by omega) (by omega)
          refine r_isub C v67 (oDec_at oX12_nextLine 64 rfl) ev67 ?_
          obtain ⟨v69, ev69⟩ : ∃ z : Int32, (t).1 99 v67.toNatClampNeg = z := ⟨_, rfl⟩
          have gv69 : (t.1 99 v67.toNatClampNeg).toInt = v69.toInt := congrArg Int32.toInt (ev69)
          have rv69 := n_rng v69
          refine r_iald (n := 48) (lo := (-2147483648)) (hi := 2147483647) C v69 rfl (by decide) rfl rfl ⟨by omega, by omega⟩ (by decide) ev69 rfl rfl (oDec_at oX12_nextLine 65 rfl) (fun _ _ => ?_)
          refine r_if_ne C 109 (oDec_at oX12_nextLine 66 rfl) (by decide) (fun cd70 => ?_) (fun cd70 => ?_)
          · skip
            refine r_iconst C (oDec_at oX12_nextLine 69 rfl) (v := k0) (by rw [qk0]; rfl) ?_
            refine r_iast (n := 48) (lo := (-2147483648)) (hi := 2147483647) C rfl (by decide) rfl rfl ⟨by omega, by omega⟩ (by decide) rfl rfl rfl rfl (n_rng _) (oDec_at oX12_nextLine 70 rfl) ?_
            obtain ⟨v71, ev71⟩ : ∃ z : Int32, x3 + Int32.ofInt 1 = z := ⟨_, rfl⟩
            have hv71 : v71.toInt = x3.toInt + 1 := n_inc ev71 (by decide) (by omega) (by omega)
            refine r_iinc C (j := 1) (lv' := [(0, .ref (oad E 71)), (3, .int v71)]) v71 [1, 0] (oDec_at oX12_nextLine 71 rfl) rfl ev71 (by decide) rfl ?_
            refine r_goto C (tgt := 81) (oDec_at oX12_nextLine 72 rfl) (by decide) ?_
            have lk72 : (((pI t 99 x3.toNatClampNeg k0)).1 71 38).toInt = v57.toInt := congrArg Int32.toInt (((pI_ne (a := 71) (b := 38) (c := 99) _ _ (Or.inl (by decide)))).trans (ev57))
            have lk73 : (((pI t 99 x3.toNatClampNeg k0)).1 71 42).toInt = (t.1 71 42).toInt := congrArg Int32.toInt ((pI_ne (a := 71) (b := 42) (c := 99) _ _ (Or.inl (by decide))))
            have lk74 : (((pI t 99 x3.toNatClampNeg k0)).1 71 38).toInt = v57.toInt := congrArg Int32.toInt (((pI_ne (a := 71) (b := 38) (c := 99) _ _ (Or.inl (by decide)))).trans (ev57))
            exact (ih (n - 1) (by omega)).2 ((pI t 99 x3.toNatClampNeg k0)) v71  (oLT_fr (oFr_oneI (q := 75) (m := 9999) rfl (by rfl)) rfl iv0) (by omega) (by omega) (by omega) (by first | (exfalso; omega) | exact oNm_step (x := x3) (y := v71) iv4 (by omega) (by omega) (by omega)) (by omega)
          · skip
            refine r_iconst C (oDec_at oX12_nextLine 67 rfl) (v := k1) (by rw [qk1]; rfl) ?_
            refine r_goto C (tgt := 110) (oDec_at oX12_nextLine 68 rfl) (by decide) ?_
            refine r_iast (n := 48) (lo := (-2147483648)) (hi := 2147483647) C rfl (by decide) rfl rfl ⟨by omega, by omega⟩ (by decide) rfl rfl rfl rfl (n_rng _) (oDec_at oX12_nextLine 70 rfl) ?_
            obtain ⟨v75, ev75⟩ : ∃ z : Int32, x3 + Int32.ofInt 1 = z := ⟨_, rfl⟩
            have hv75 : v75.toInt = x3.toInt + 1 := n_inc ev75 (by decide) (by omega) (by omega)
            refine r_iinc C (j := 1) (lv' := [(0, .ref (oad E 71)), (3, .int v75)]) v75 [1, 0] (oDec_at oX12_nextLine 71 rfl) rfl ev75 (by decide) rfl ?_
            refine r_goto C (tgt := 81) (oDec_at oX12_nextLine 72 rfl) (by decide) ?_
            have lk76 : (((pI t 99 x3.toNatClampNeg k1)).1 71 38).toInt = v57.toInt := congrArg Int32.toInt (((pI_ne (a := 71) (b := 38) (c := 99) _ _ (Or.inl (by decide)))).trans (ev57))
            have lk77 : (((pI t 99 x3.toNatClampNeg k1)).1 71 42).toInt = (t.1 71 42).toInt := congrArg Int32.toInt ((pI_ne (a := 71) (b := 42) (c := 99) _ _ (Or.inl (by decide))))
            have lk78 : (((pI t 99 x3.toNatClampNeg k1)).1 71 38).toInt = v57.toInt := congrArg Int32.toInt (((pI_ne (a := 71) (b := 38) (c := 99) _ _ (Or.inl (by decide)))).trans (ev57))
            exact (ih (n - 1) (by omega)).2 ((pI t 99 x3.toNatClampNeg k1)) v75  (oLT_fr (oFr_oneI (q := 75) (m := 9999) rfl (by rfl)) rfl iv0) (by omega) (by omega) (by omega) (by first | (exfalso; omega) | exact oNm_step (x := x3) (y := v75) iv4 (by omega) (by omega) (by omega)) (by omega)
  refine r_aload_n C (j := 0) (oDec_at oX12_nextLine 0 rfl) rfl rfl ?_
  obtain ⟨v79, ev79⟩ : ∃ z : Int32, (s).1 71 38 = z := ⟨_, rfl⟩
  have gv79 : (s.1 71 38).toInt = v79.toInt := congrArg Int32.toInt (ev79)
  refine r_geti (k := 38) (lo := 0) (hi := 24) C v79 oCl12 rfl (by decide) flX12_261 rfl rfl (ev79) rfl rfl (oDec_at oX12_nextLine 1 rfl) (fun b80 b80h => ?_)
  refine r_iconst C (oDec_at oX12_nextLine 2 rfl) (v := k1) (by rw [qk1]; rfl) ?_
  obtain ⟨v81, ev81⟩ : ∃ z : Int32, z = v79 - k1 := ⟨_, rfl⟩
  have hv81 : v81.toInt = v79.toInt - k1.toInt := n_sub ev81 (by omega) (by omega)
  refine r_isub C v81 (oDec_at oX12_nextLine 3 rfl) ev81 ?_
  refine r_istore_n C (lv' := [(0, .ref (oad E 71)), (1, .int a1), (2, .int v81)]) [1, 2, 0] (oDec_at oX12_nextLine 4 rfl) rfl (by decide) rfl ?_
  have lk82 : ((s).1 71 38).toInt = v79.toInt := congrArg Int32.toInt (ev79)
  have lk83 : ((s).1 71 38).toInt = v79.toInt := congrArg Int32.toInt (ev79)
  exact (key (v81.toInt + 100).toNat).1 (s) v81  hp1 (by omega) (by omega) (by omega) (by first | exact (fun j hj => rfl)) (by omega)
