set_option maxHeartbeats 4000000 in
set_option maxRecDepth 100000 in
theorem ct_X12_floor (l : Launch) (E : oE) (s : oS) (a0 : Int64) (a2 : Int64)   : oMet l 1 yX12_floor cX12_floor 6 (some .long) [] E s [.long a0, .long a2] (oPl (fun r u => True)) := by
  refine oMet.of (lv := [(0, .long a0), (2, .long a2)]) (by decide +kernel) (Nat.le_of_ble_eq_true rfl) rfl (fun J C hT => ?_)
  have C : oC l 1 cX12_floor RX12 6 (some .long) [] E s (oPl (fun r u => True)) J := C
  obtain ⟨k0, qk0⟩ : ∃ z : Int32, z = 0 := ⟨_, rfl⟩
  have ek0 : k0.toInt = 0 := by rw [qk0]; rfl
  obtain ⟨k1, qk1⟩ : ∃ z : Int32, z = 1 := ⟨_, rfl⟩
  have ek1 : k1.toInt = 1 := by rw [qk1]; rfl
  obtain ⟨j0, qj0⟩ : ∃ z : Int64, z = 0 := ⟨_, rfl⟩
  have ej0 : j0.toInt = 0 := by rw [qj0]; rfl
  obtain ⟨j1, qj1⟩ : ∃ z : Int64, z = 1 := ⟨_, rfl⟩
  have ej1 : j1.toInt = 1 := by rw [qj1]; rfl
  refine r_lload_n C (j := 1) (oDec_at oX12_floor 0 rfl) rfl rfl ?_
  refine r_lconst C (oDec_at oX12_floor 1 rfl) (v := j0) (by rw [qj0]; rfl) ?_
  obtain ⟨v1, ev1⟩ : ∃ z : Int32, z = lg_cmp a2 j0 := ⟨_, rfl⟩
  have hv1 := n_lcmp ev1
  refine r_lcmp C v1 (oDec_at oX12_floor 2 rfl) ev1 ?_
  refine r_if_ne C 8 (oDec_at oX12_floor 3 rfl) (by decide) (fun cd2 => ?_) (fun cd2 => ?_)
  · skip
    refine r_lload_n C (j := 0) (oDec_at oX12_floor 6 rfl) rfl rfl ?_
    refine r_lload_n C (j := 1) (oDec_at oX12_floor 7 rfl) rfl rfl ?_
    obtain ⟨v3, ev3⟩ : ∃ z : Int64, z = a0 / a2 := ⟨_, rfl⟩
    refine r_ldiv C v3 (oDec_at oX12_floor 8 rfl) (n_ne0L (by omega)) ev3 ?_
    refine r_lstore C (lv' := [(0, .long a0), (2, .long a2), (4, .long v3)]) [1, 2, 0] (oDec_at oX12_floor 9 rfl) (by decide) rfl ?_
    refine r_lload_n C (j := 0) (oDec_at oX12_floor 10 rfl) rfl rfl ?_
    refine r_lload_n C (j := 1) (oDec_at oX12_floor 11 rfl) rfl rfl ?_
    refine r_pc C 15 rfl ?_
    obtain ⟨v4, ev4⟩ : ∃ z : Int64, z = a0 - a0 / a2 * a2 := ⟨_, rfl⟩
    refine r_lrem C v4 (oDec_at oX12_floor 12 rfl) (n_ne0L (by omega)) ev4 ?_
    refine r_lconst C (oDec_at oX12_floor 13 rfl) (v := j0) (by rw [qj0]; rfl) ?_
    obtain ⟨v5, ev5⟩ : ∃ z : Int32, z = lg_cmp v4 j0 := ⟨_, rfl⟩
    have hv5 := n_lcmp ev5
    refine r_lcmp C v5 (oDec_at oX12_floor 14 rfl) ev5 ?_
    refine r_if_eq C 53 (oDec_at oX12_floor 15 rfl) (by decide) (fun cd6 => ?_) (fun cd6 => ?_)
    · skip
      refine r_lload C (j := 2) (oDec_at oX12_floor 35 rfl) rfl ?_
      exact r_lret C (oDec_at oX12_floor 36 rfl) ⟨_, rfl, trivial⟩
    · skip
      refine r_lload_n C (j := 0) (oDec_at oX12_floor 16 rfl) rfl rfl ?_
      refine r_lconst C (oDec_at oX12_floor 17 rfl) (v := j0) (by rw [qj0]; rfl) ?_
      obtain ⟨v7, ev7⟩ : ∃ z : Int32, z = lg_cmp a0 j0 := ⟨_, rfl⟩
      have hv7 := n_lcmp ev7
      refine r_lcmp C v7 (oDec_at oX12_floor 18 rfl) ev7 ?_
      refine r_if_ge C 31 (oDec_at oX12_floor 19 rfl) (by decide) (fun cd8 => ?_) (fun cd8 => ?_)
      · skip
        refine r_iconst C (oDec_at oX12_floor 22 rfl) (v := k0) (by rw [qk0]; rfl) ?_
        refine r_lload_n C (j := 1) (oDec_at oX12_floor 23 rfl) rfl rfl ?_
        refine r_lconst C (oDec_at oX12_floor 24 rfl) (v := j0) (by rw [qj0]; rfl) ?_
        obtain ⟨v9, ev9⟩ : ∃ z : Int32, z = lg_cmp a2 j0 := ⟨_, rfl⟩
        have hv9 := n_lcmp ev9
        refine r_lcmp C v9 (oDec_at oX12_floor 25 rfl) ev9 ?_
        refine r_if_ge C 42 (oDec_at oX12_floor 26 rfl) (by decide) (fun cd10 => ?_) (fun cd10 => ?_)
        · skip
          refine r_iconst C (oDec_at oX12_floor 29 rfl) (v := k0) (by rw [qk0]; rfl) ?_
          refine r_icmp_eq C 53 (oDec_at oX12_floor 30 rfl) (by decide) (fun cd11 => ?_) (fun cd11 => ?_)
          · skip
            refine r_lload C (j := 2) (oDec_at oX12_floor 35 rfl) rfl ?_
            exact r_lret C (oDec_at oX12_floor 36 rfl) ⟨_, rfl, trivial⟩
          · omega
        · skip
          refine r_iconst C (oDec_at oX12_floor 27 rfl) (v := k1) (by rw [qk1]; rfl) ?_
          refine r_goto C (tgt := 43) (oDec_at oX12_floor 28 rfl) (by decide) ?_
          refine r_icmp_eq C 53 (oDec_at oX12_floor 30 rfl) (by decide) (fun cd12 => ?_) (fun cd12 => ?_)
          · omega
          · skip
            refine r_lload C (j := 2) (oDec_at oX12_floor 31 rfl) rfl ?_
            refine r_lconst C (oDec_at oX12_floor 32 rfl) (v := j1) (by rw [qj1]; rfl) ?_
            obtain ⟨v13, ev13⟩ : ∃ z : Int64, z = v3 - j1 := ⟨_, rfl⟩
            refine r_lsub C v13 (oDec_at oX12_floor 33 rfl) ev13 ?_
            refine r_goto C (tgt := 55) (oDec_at oX12_floor 34 rfl) (by decide) ?_
            exact r_lret C (oDec_at oX12_floor 36 rfl) ⟨_, rfl, trivial⟩
      · skip
        refine r_iconst C (oDec_at oX12_floor 20 rfl) (v := k1) (by rw [qk1]; rfl) ?_
        refine r_goto C (tgt := 32) (oDec_at oX12_floor 21 rfl) (by decide) ?_
        refine r_lload_n C (j := 1) (oDec_at oX12_floor 23 rfl) rfl rfl ?_
        refine r_lconst C (oDec_at oX12_floor 24 rfl) (v := j0) (by rw [qj0]; rfl) ?_
        obtain ⟨v14, ev14⟩ : ∃ z : Int32, z = lg_cmp a2 j0 := ⟨_, rfl⟩
        have hv14 := n_lcmp ev14
        refine r_lcmp C v14 (oDec_at oX12_floor 25 rfl) ev14 ?_
        refine r_if_ge C 42 (oDec_at oX12_floor 26 rfl) (by decide) (fun cd15 => ?_) (fun cd15 => ?_)
        · skip
          refine r_iconst C (oDec_at oX12_floor 29 rfl) (v := k0) (by rw [qk0]; rfl) ?_
          refine r_icmp_eq C 53 (oDec_at oX12_floor 30 rfl) (by decide) (fun cd16 => ?_) (fun cd16 => ?_)
          · omega
          · skip
            refine r_lload C (j := 2) (oDec_at oX12_floor 31 rfl) rfl ?_
            refine r_lconst C (oDec_at oX12_floor 32 rfl) (v := j1) (by rw [qj1]; rfl) ?_
            obtain ⟨v17, ev17⟩ : ∃ z : Int64, z = v3 - j1 := ⟨_, rfl⟩
            refine r_lsub C v17 (oDec_at oX12_floor 33 rfl) ev17 ?_
            refine r_goto C (tgt := 55) (oDec_at oX12_floor 34 rfl) (by decide) ?_
            exact r_lret C (oDec_at oX12_floor 36 rfl) ⟨_, rfl, trivial⟩
        · skip
          refine r_iconst C (oDec_at oX12_floor 27 rfl) (v := k1) (by rw [qk1]; rfl) ?_
          refine r_goto C (tgt := 43) (oDec_at oX12_floor 28 rfl) (by decide) ?_
          refine r_icmp_eq C 53 (oDec_at oX12_floor 30 rfl) (by decide) (fun cd18 => ?_) (fun cd18 => ?_)
          · skip
            refine r_lload C (j := 2) (oDec_at oX12_floor 35 rfl) rfl ?_
            exact r_lret C (oDec_at oX12_floor 36 rfl) ⟨_, rfl, trivial⟩
          · omega
  · skip
    refine r_lconst C (oDec_at oX12_floor 4 rfl) (v := j0) (by rw [qj0]; rfl) ?_
    exact r_lret C (oDec_at oX12_floor 5 rfl) ⟨_, rfl, trivial⟩
set_option maxHeartbeats 4000000 in
set_option maxRecDepth 100000 in
theorem ct_X12_letter (l : Launch) (E : oE) (s : oS) (a1 : Int32) (a2 : Int32)   : oMet l 2 yX12_letter cX12_letter 8 (some .int) [] E s [.ref (oad E 71), .int a1, .int a2] (oPi (fun r u => True)) := by
  refine oMet.of (lv := [(0, .ref (oad E 71)), (1, .int a1), (2, .int a2)]) (by decide +kernel) (Nat.le_of_ble_eq_true rfl) rfl (fun J C hT => ?_)
  have C : oC l 2 cX12_letter RX12 8 (some .int) [] E s (oPi (fun r u => True)) J := C
  obtain ⟨km1, qkm1⟩ : ∃ z : Int32, z = (-1) := ⟨_, rfl⟩
  have ekm1 : km1.toInt = (-1) := by rw [qkm1]; rfl
  obtain ⟨k0, qk0⟩ : ∃ z : Int32, z = 0 := ⟨_, rfl⟩
  have ek0 : k0.toInt = 0 := by rw [qk0]; rfl
  obtain ⟨k1, qk1⟩ : ∃ z : Int32, z = 1 := ⟨_, rfl⟩
  have ek1 : k1.toInt = 1 := by rw [qk1]; rfl
  obtain ⟨j0, qj0⟩ : ∃ z : Int64, z = 0 := ⟨_, rfl⟩
  have ej0 : j0.toInt = 0 := by rw [qj0]; rfl
  obtain ⟨j5, qj5⟩ : ∃ z : Int64, z = 5 := ⟨_, rfl⟩
  have ej5 : j5.toInt = 5 := by rw [qj5]; rfl
  obtain ⟨j27, qj27⟩ : ∃ z : Int64, z = 27 := ⟨_, rfl⟩
  have ej27 : j27.toInt = 27 := by rw [qj27]; rfl
  have rg1 := n_rng a1
  have rg2 := n_rng a2
  have key : ∀ n : Nat, (∀ (t : oS) (x3 : Int64) (x5 : Int32) (x6 : Int64), (0 ≤ a2.toInt) → oP0 x6 + 5000000000 ≤ (n : Int) → J t 45 [(2, .int a2), (3, .long x3), (5, .int x5), (6, .long x6)] []) ∧ (∀ (t : oS) (x3 : Int64) (x6 : Int32), (0 ≤ a2.toInt) → x6.toInt - a2.toInt + 1 ≤ (n : Int) → J t 80 [(2, .int a2), (3, .long x3), (6, .int x6)] []) := by
    intro n
    induction n using Nat.strongRecOn with
    | _ n ih =>
      refine ⟨?_, ?_⟩
      · intro t x3 x5 x6  iv0 hmu
        have rx5 := n_rng x5
        have hj0 := oP0_f x6
        refine r_lload C (j := 3) (oDec_at oX12_letter 29 rfl) rfl ?_
        refine r_lconst C (oDec_at oX12_letter 30 rfl) (v := j0) (by rw [qj0]; rfl) ?_
        obtain ⟨v1, ev1⟩ : ∃ z : Int32, z = lg_cmp x6 j0 := ⟨_, rfl⟩
        have hv1 := n_lcmp ev1
        refine r_lcmp C v1 (oDec_at oX12_letter 31 rfl) ev1 ?_
        refine r_if_le C 66 (oDec_at oX12_letter 32 rfl) (by decide) (fun cd2 => ?_) (fun cd2 => ?_)
        · skip
          refine r_iload_n C (j := 0) (oDec_at oX12_letter 39 rfl) rfl rfl ?_
          refine r_iload C (j := 2) (oDec_at oX12_letter 40 rfl) rfl ?_
          refine r_icmp_lt C 74 (oDec_at oX12_letter 41 rfl) (by decide) (fun cd3 => ?_) (fun cd3 => ?_)
          · skip
            refine r_iload C (j := 2) (oDec_at oX12_letter 44 rfl) rfl ?_
            refine r_iconst C (oDec_at oX12_letter 45 rfl) (v := k1) (by rw [qk1]; rfl) ?_
            obtain ⟨v4, ev4⟩ : ∃ z : Int32, z = x5 - k1 := ⟨_, rfl⟩
            have rv4 := n_rng v4
            refine r_isub C v4 (oDec_at oX12_letter 46 rfl) ev4 ?_
            refine r_istore C (lv' := [(2, .int a2), (3, .long x3), (5, .int x5), (6, .int v4)]) [1, 2, 3, 0] (oDec_at oX12_letter 47 rfl) (by decide) rfl ?_
            refine r_pick C [0, 1, 3] rfl ?_
            exact (ih (n - 1) (by omega)).2 (t) x3 v4  (by omega) (by omega)
          · skip
            refine r_iconst C (oDec_at oX12_letter 42 rfl) (v := k0) (by rw [qk0]; rfl) ?_
            exact r_iret C (oDec_at oX12_letter 43 rfl) ⟨_, rfl, trivial⟩
        · skip
          obtain ⟨v5, ev5⟩ : ∃ z : Int32, x5 + Int32.ofInt 1 = z := ⟨_, rfl⟩
          refine r_iinc C (j := 2) (lv' := [(2, .int a2), (3, .long x3), (5, .int v5), (6, .long x6)]) v5 [1, 2, 0, 3] (oDec_at oX12_letter 33 rfl) rfl ev5 (by decide) rfl ?_
          refine r_lload C (j := 3) (oDec_at oX12_letter 34 rfl) rfl ?_
          refine r_ldc2 C (v := j27) (by rw [qj27]; exact klX12_227) (oDec_at oX12_letter 35 rfl) ?_
          obtain ⟨v6, ev6⟩ : ∃ z : Int64, z = x6 / j27 := ⟨_, rfl⟩
          have hfv6 := n_divL ev6 ej27 (by decide)
          refine r_ldiv C v6 (oDec_at oX12_letter 36 rfl) (by rw [qj27]; decide) ev6 ?_
          refine r_lstore C (lv' := [(2, .int a2), (3, .long x3), (5, .int v5), (6, .long v6)]) [1, 2, 3, 0] (oDec_at oX12_letter 37 rfl) (by decide) rfl ?_
          refine r_goto C (tgt := 45) (oDec_at oX12_letter 38 rfl) (by decide) ?_
          have hj := oP0_f v6
          exact (ih (n - 1) (by omega)).1 (t) x3 v5 v6  (by omega) (by omega)
      · intro t x3 x6  iv0 hmu
        have rx6 := n_rng x6
        refine r_iload C (j := 2) (oDec_at oX12_letter 48 rfl) rfl ?_
        refine r_iload_n C (j := 0) (oDec_at oX12_letter 49 rfl) rfl rfl ?_
        refine r_icmp_le C 98 (oDec_at oX12_letter 50 rfl) (by decide) (fun cd7 => ?_) (fun cd7 => ?_)
        · skip
          refine r_lload_n C (j := 1) (oDec_at oX12_letter 57 rfl) rfl rfl ?_
          refine r_ldc2 C (v := j27) (by rw [qj27]; exact klX12_227) (oDec_at oX12_letter 58 rfl) ?_
          obtain ⟨v8, ev8⟩ : ∃ z : Int64, z = x3 - x3 / j27 * j27 := ⟨_, rfl⟩
          refine r_lrem C v8 (oDec_at oX12_letter 59 rfl) (by rw [qj27]; decide) ev8 ?_
          obtain ⟨v9, ev9⟩ : ∃ z : Int32, v8.toInt32 = z := ⟨_, rfl⟩
          have rv9 := n_rng v9
          refine r_l2i C v9 (oDec_at oX12_letter 60 rfl) ev9 ?_
          exact r_iret C (oDec_at oX12_letter 61 rfl) ⟨_, rfl, trivial⟩
        · skip
          refine r_lload_n C (j := 1) (oDec_at oX12_letter 51 rfl) rfl rfl ?_
          refine r_ldc2 C (v := j27) (by rw [qj27]; exact klX12_227) (oDec_at oX12_letter 52 rfl) ?_
          obtain ⟨v10, ev10⟩ : ∃ z : Int64, z = x3 / j27 := ⟨_, rfl⟩
          refine r_ldiv C v10 (oDec_at oX12_letter 53 rfl) (by rw [qj27]; decide) ev10 ?_
          refine r_lstore_n C (lv' := [(2, .int a2), (3, .long v10), (6, .int x6)]) [1, 0, 2] (oDec_at oX12_letter 54 rfl) rfl (by decide) rfl ?_
          obtain ⟨v11, ev11⟩ : ∃ z : Int32, x6 + Int32.ofInt (-1) = z := ⟨_, rfl⟩
          have hv11 : v11.toInt = x6.toInt + (-1) := n_inc ev11 (by decide) (by omega) (by omega)
          refine r_iinc C (j := 2) (lv' := [(2, .int a2), (3, .long v10), (6, .int v11)]) v11 [1, 2, 0] (oDec_at oX12_letter 55 rfl) rfl ev11 (by decide) rfl ?_
          refine r_goto C (tgt := 80) (oDec_at oX12_letter 56 rfl) (by decide) ?_
          exact (ih (n - 1) (by omega)).2 (t) v10 v11  (by omega) (by omega)
  refine r_iload_n C (j := 1) (oDec_at oX12_letter 0 rfl) rfl rfl ?_
  obtain ⟨v12, ev12⟩ : ∃ z : Int64, a1.toInt64 = z := ⟨_, rfl⟩
  have hv12 : v12.toInt = a1.toInt := n_i2l ev12
  refine r_i2l C v12 (oDec_at oX12_letter 1 rfl) ev12 ?_
  refine r_lconst C (oDec_at oX12_letter 2 rfl) (v := j0) (by rw [qj0]; rfl) ?_
  refine r_aload_n C (j := 0) (oDec_at oX12_letter 3 rfl) rfl rfl ?_
  refine r_getF (k := 49) (b := 104) C oCl12 rfl (by decide) flX12_114 rfl rfl rfl (oDec_at oX12_letter 4 rfl) ?_
  refine r_iconst C (oDec_at oX12_letter 5 rfl) (v := k1) (by rw [qk1]; rfl) ?_
  refine r_pc C 8 rfl ?_
  obtain ⟨v14, ev14⟩ : ∃ z : Int32, (s).1 104 k1.toNatClampNeg = z := ⟨_, rfl⟩
  have gv14 : (s.1 104 k1.toNatClampNeg).toInt = v14.toInt := congrArg Int32.toInt (ev14)
  refine r_iald (n := 4) (lo := 0) (hi := 12) C v14 rfl (by decide) rfl rfl ⟨by omega, by omega⟩ (by decide) ev14 rfl rfl (oDec_at oX12_letter 6 rfl) (fun b13 b13h => ?_)
  refine r_iconst C (oDec_at oX12_letter 7 rfl) (v := k1) (by rw [qk1]; rfl) ?_
  obtain ⟨v15, ev15⟩ : ∃ z : Int32, z = v14 - k1 := ⟨_, rfl⟩
  have hv15 : v15.toInt = v14.toInt - k1.toInt := n_sub ev15 (by omega) (by omega)
  refine r_isub C v15 (oDec_at oX12_letter 8 rfl) ev15 ?_
  obtain ⟨v16, ev16⟩ : ∃ z : Int64, v15.toInt64 = z := ⟨_, rfl⟩
  have hv16 : v16.toInt = v15.toInt := n_i2l ev16
  refine r_i2l C v16 (oDec_at oX12_letter 9 rfl) ev16 ?_
  refine r_callSi C miX12_isIn mlX12_216 (ct_X12_isIn l E (s) v12 j0 v16 ) (by decide) rfl rfl rfl (Nat.le_of_ble_eq_true rfl) (oDec_at oX12_letter 10 rfl) (fun r18 u17 pu17 fu17 => ?_)
  try dsimp only at pu17
  obtain ⟨pu17_0, pu17_1⟩ := pu17
  have hxu17 := oFr_nil fu17; subst hxu17
  have rr18 := n_rng r18
  refine r_if_eq C 30 (oDec_at oX12_letter 11 rfl) (by decide) (fun cd19 => ?_) (fun cd19 => ?_)
  · skip
    refine r_iconst C (oDec_at oX12_letter 18 rfl) (v := km1) (by rw [qkm1]; rfl) ?_
    exact r_iret C (oDec_at oX12_letter 19 rfl) ⟨_, rfl, trivial⟩
  · skip
    refine r_iload_n C (j := 2) (oDec_at oX12_letter 12 rfl) rfl rfl ?_
    obtain ⟨v20, ev20⟩ : ∃ z : Int64, a2.toInt64 = z := ⟨_, rfl⟩
    have hv20 : v20.toInt = a2.toInt := n_i2l ev20
    refine r_i2l C v20 (oDec_at oX12_letter 13 rfl) ev20 ?_
    refine r_lconst C (oDec_at oX12_letter 14 rfl) (v := j0) (by rw [qj0]; rfl) ?_
    refine r_ldc2 C (v := j5) (by rw [qj5]; exact klX12_381) (oDec_at oX12_letter 15 rfl) ?_
    refine r_callSi C miX12_isIn mlX12_216 (ct_X12_isIn l E (s) v20 j0 j5 ) (by decide) rfl rfl rfl (Nat.le_of_ble_eq_true rfl) (oDec_at oX12_letter 16 rfl) (fun r22 u21 pu21 fu21 => ?_)
    try dsimp only at pu21
    obtain ⟨pu21_0, pu21_1⟩ := pu21
    have hxu21 := oFr_nil fu21; subst hxu21
    have rr22 := n_rng r22
    refine r_if_ne C 32 (oDec_at oX12_letter 17 rfl) (by decide) (fun cd23 => ?_) (fun cd23 => ?_)
    · skip
      refine r_aload_n C (j := 0) (oDec_at oX12_letter 20 rfl) rfl rfl ?_
      refine r_getF (k := 52) (b := 107) C oCl12 rfl (by decide) flX12_123 rfl rfl rfl (oDec_at oX12_letter 21 rfl) ?_
      refine r_iload_n C (j := 1) (oDec_at oX12_letter 22 rfl) rfl rfl ?_
      obtain ⟨v24, ev24⟩ : ∃ z : Int64, (s).2.1 107 a1.toNatClampNeg = z := ⟨_, rfl⟩
      refine r_lald (n := 12) C v24 rfl (by decide) rfl rfl ⟨by omega, by omega⟩ (by decide) ev24 (oDec_at oX12_letter 23 rfl) ?_
      refine r_lstore_n C (lv' := [(0, .ref (oad E 71)), (1, .int a1), (2, .int a2), (3, .long v24)]) [1, 2, 3, 0] (oDec_at oX12_letter 24 rfl) rfl (by decide) rfl ?_
      refine r_iconst C (oDec_at oX12_letter 25 rfl) (v := k0) (by rw [qk0]; rfl) ?_
      refine r_pc C 40 rfl ?_
      refine r_istore C (lv' := [(0, .ref (oad E 71)), (1, .int a1), (2, .int a2), (3, .long v24), (5, .int k0)]) [1, 2, 3, 4, 0] (oDec_at oX12_letter 26 rfl) (by decide) rfl ?_
      refine r_lload_n C (j := 3) (oDec_at oX12_letter 27 rfl) rfl rfl ?_
      refine r_lstore C (lv' := [(0, .ref (oad E 71)), (1, .int a1), (2, .int a2), (3, .long v24), (5, .int k0), (6, .long v24)]) [1, 2, 3, 4, 5, 0] (oDec_at oX12_letter 28 rfl) (by decide) rfl ?_
      have hj := oP0_f v24
      refine r_pick C [2, 3, 4, 5] rfl ?_
      exact (key (oP0 v24 + 5000000000).toNat).1 (s) v24 k0 v24  (by omega) (by omega)
    · skip
      refine r_iconst C (oDec_at oX12_letter 18 rfl) (v := km1) (by rw [qkm1]; rfl) ?_
      exact r_iret C (oDec_at oX12_letter 19 rfl) ⟨_, rfl, trivial⟩
set_option maxHeartbeats 4000000 in
set_option maxRecDepth 100000 in
theorem ct_X12_puts (l : Launch) (E : oE) (s : oS) (a1 : Int64)  (hp0 : (s.1 71 58).toInt ≤ 1699) : oMet l 1 yX12_puts cX12_puts 3 none [(12, 58), (84, 9999)] E s [.ref (oad E 71), .long a1] (oPv (fun u => ((u.1 71 58).toInt = (s.1 71 58).toInt + 1))) := by
  refine oMet.of (lv := [(0, .ref (oad E 71)), (1, .long a1)]) (by decide +kernel) (Nat.le_of_ble_eq_true rfl) rfl (fun J C hT => ?_)
  have C : oC l 1 cX12_puts RX12 3 none [(12, 58), (84, 9999)] E s (oPv (fun u => ((u.1 71 58).toInt = (s.1 71 58).toInt + 1))) J := C
  obtain ⟨k1, qk1⟩ : ∃ z : Int32, z = 1 := ⟨_, rfl⟩
  have ek1 : k1.toInt = 1 := by rw [qk1]; rfl
  refine r_aload_n C (j := 0) (oDec_at oX12_puts 0 rfl) rfl rfl ?_
  refine r_getF (k := 57) (b := 108) C oCl12 rfl (by decide) flX12_130 rfl rfl rfl (oDec_at oX12_puts 1 rfl) ?_
  refine r_aload_n C (j := 0) (oDec_at oX12_puts 2 rfl) rfl rfl ?_
  obtain ⟨v1, ev1⟩ : ∃ z : Int32, (s).1 71 58 = z := ⟨_, rfl⟩
  have gv1 : (s.1 71 58).toInt = v1.toInt := congrArg Int32.toInt (ev1)
  refine r_geti (k := 58) (lo := 0) (hi := 1700) C v1 oCl12 rfl (by decide) flX12_360 rfl rfl (ev1) rfl rfl (oDec_at oX12_puts 3 rfl) (fun b2 b2h => ?_)
  refine r_lload_n C (j := 1) (oDec_at oX12_puts 4 rfl) rfl rfl ?_
  refine r_last (n := 1700) C rfl (by decide) rfl rfl ⟨by omega, by omega⟩ (by decide) rfl (oDec_at oX12_puts 5 rfl) ?_
  refine r_pc C 10 rfl ?_
  refine r_aload_n C (j := 0) (oDec_at oX12_puts 6 rfl) rfl rfl ?_
  refine r_dup C (oDec_at oX12_puts 7 rfl) rfl ?_
  refine r_geti (k := 58) (lo := 0) (hi := 1700) C v1 oCl12 rfl (by decide) flX12_360 rfl rfl ((show ((pL s 108 v1.toNatClampNeg a1)).1 71 58 = v1 from ev1)) rfl rfl (oDec_at oX12_puts 8 rfl) (fun _ _ => ?_)
  refine r_iconst C (oDec_at oX12_puts 9 rfl) (v := k1) (by rw [qk1]; rfl) ?_
  obtain ⟨v3, ev3⟩ : ∃ z : Int32, z = v1 + k1 := ⟨_, rfl⟩
  have hv3 : v3.toInt = v1.toInt + k1.toInt := n_add ev3 (by omega) (by omega)
  refine r_iadd C v3 (oDec_at oX12_puts 10 rfl) ev3 ?_
  refine r_puti (k := 58) (lo := 0) (hi := 1700) C oCl12 rfl (by decide) flX12_360 rfl rfl rfl rfl rfl rfl rfl rfl ⟨by omega, by omega⟩ (oDec_at oX12_puts 11 rfl) ?_
  refine r_pc C 20 rfl ?_
  have lk4 : (((pI (pL s 108 v1.toNatClampNeg a1) 71 58 v3)).1 71 58).toInt = v3.toInt := congrArg Int32.toInt ((pI_self _ _ _ _))
  exact r_vret C (oDec_at oX12_puts 12 rfl) ⟨rfl, by omega⟩
set_option maxHeartbeats 4000000 in
set_option maxRecDepth 100000 in
theorem ct_X12_joins (l : Launch) (E : oE) (s : oS) (a1 : Int32)  (hp0 : 2 ≤ (s.1 71 58).toInt) : oMet l 2 yX12_joins cX12_joins 6 none [(12, 58), (84, 9999)] E s [.ref (oad E 71), .int a1] (oPv (fun u => ((u.1 71 58).toInt = (s.1 71 58).toInt - 1))) := by
  refine oMet.of (lv := [(0, .ref (oad E 71)), (1, .int a1)]) (by decide +kernel) (Nat.le_of_ble_eq_true rfl) rfl (fun J C hT => ?_)
  have C : oC l 2 cX12_joins RX12 6 none [(12, 58), (84, 9999)] E s (oPv (fun u => ((u.1 71 58).toInt = (s.1 71 58).toInt - 1))) J := C
  obtain ⟨k1, qk1⟩ : ∃ z : Int32, z = 1 := ⟨_, rfl⟩
  have ek1 : k1.toInt = 1 := by rw [qk1]; rfl
  obtain ⟨k2, qk2⟩ : ∃ z : Int32, z = 2 := ⟨_, rfl⟩
  have ek2 : k2.toInt = 2 := by rw [qk2]; rfl
  obtain ⟨j0, qj0⟩ : ∃ z : Int64, z = 0 := ⟨_, rfl⟩
  have ej0 : j0.toInt = 0 := by rw [qj0]; rfl
  obtain ⟨j1, qj1⟩ : ∃ z : Int64, z = 1 := ⟨_, rfl⟩
  have ej1 : j1.toInt = 1 := by rw [qj1]; rfl
  have rg1 := n_rng a1
  refine r_aload_n C (j := 0) (oDec_at oX12_joins 0 rfl) rfl rfl ?_
  refine r_getF (k := 57) (b := 108) C oCl12 rfl (by decide) flX12_130 rfl rfl rfl (oDec_at oX12_joins 1 rfl) ?_
  refine r_aload_n C (j := 0) (oDec_at oX12_joins 2 rfl) rfl rfl ?_
  obtain ⟨v1, ev1⟩ : ∃ z : Int32, (s).1 71 58 = z := ⟨_, rfl⟩
  have gv1 : (s.1 71 58).toInt = v1.toInt := congrArg Int32.toInt (ev1)
  refine r_geti (k := 58) (lo := 0) (hi := 1700) C v1 oCl12 rfl (by decide) flX12_360 rfl rfl (ev1) rfl rfl (oDec_at oX12_joins 3 rfl) (fun b2 b2h => ?_)
  refine r_iconst C (oDec_at oX12_joins 4 rfl) (v := k1) (by rw [qk1]; rfl) ?_
  obtain ⟨v3, ev3⟩ : ∃ z : Int32, z = v1 - k1 := ⟨_, rfl⟩
  have hv3 : v3.toInt = v1.toInt - k1.toInt := n_sub ev3 (by omega) (by omega)
  refine r_isub C v3 (oDec_at oX12_joins 5 rfl) ev3 ?_
  refine r_pc C 10 rfl ?_
  obtain ⟨v4, ev4⟩ : ∃ z : Int64, (s).2.1 108 v3.toNatClampNeg = z := ⟨_, rfl⟩
  refine r_lald (n := 1700) C v4 rfl (by decide) rfl rfl ⟨by omega, by omega⟩ (by decide) ev4 (oDec_at oX12_joins 6 rfl) ?_
  refine r_lstore_n C (lv' := [(0, .ref (oad E 71)), (1, .int a1), (2, .long v4)]) [1, 2, 0] (oDec_at oX12_joins 7 rfl) rfl (by decide) rfl ?_
  refine r_aload_n C (j := 0) (oDec_at oX12_joins 8 rfl) rfl rfl ?_
  refine r_getF (k := 57) (b := 108) C oCl12 rfl (by decide) flX12_130 rfl rfl rfl (oDec_at oX12_joins 9 rfl) ?_
  refine r_aload_n C (j := 0) (oDec_at oX12_joins 10 rfl) rfl rfl ?_
  refine r_geti (k := 58) (lo := 0) (hi := 1700) C v1 oCl12 rfl (by decide) flX12_360 rfl rfl (ev1) rfl rfl (oDec_at oX12_joins 11 rfl) (fun _ _ => ?_)
  refine r_pc C 20 rfl ?_
  refine r_iconst C (oDec_at oX12_joins 12 rfl) (v := k2) (by rw [qk2]; rfl) ?_
  obtain ⟨v5, ev5⟩ : ∃ z : Int32, z = v1 - k2 := ⟨_, rfl⟩
  have hv5 : v5.toInt = v1.toInt - k2.toInt := n_sub ev5 (by omega) (by omega)
  refine r_isub C v5 (oDec_at oX12_joins 13 rfl) ev5 ?_
  obtain ⟨v6, ev6⟩ : ∃ z : Int64, (s).2.1 108 v5.toNatClampNeg = z := ⟨_, rfl⟩
  refine r_lald (n := 1700) C v6 rfl (by decide) rfl rfl ⟨by omega, by omega⟩ (by decide) ev6 (oDec_at oX12_joins 14 rfl) ?_
  refine r_lstore C (lv' := [(0, .ref (oad E 71)), (1, .int a1), (2, .long v4), (4, .long v6)]) [1, 2, 3, 0] (oDec_at oX12_joins 15 rfl) (by decide) rfl ?_
  refine r_aload_n C (j := 0) (oDec_at oX12_joins 16 rfl) rfl rfl ?_
  refine r_dup C (oDec_at oX12_joins 17 rfl) rfl ?_
  refine r_pc C 27 rfl ?_
  refine r_geti (k := 58) (lo := 0) (hi := 1700) C v1 oCl12 rfl (by decide) flX12_360 rfl rfl (ev1) rfl rfl (oDec_at oX12_joins 18 rfl) (fun _ _ => ?_)
  refine r_iconst C (oDec_at oX12_joins 19 rfl) (v := k2) (by rw [qk2]; rfl) ?_
  obtain ⟨v7, ev7⟩ : ∃ z : Int32, z = v1 - k2 := ⟨_, rfl⟩
  have hv7 : v7.toInt = v1.toInt - k2.toInt := n_sub ev7 (by omega) (by omega)
  refine r_isub C v7 (oDec_at oX12_joins 20 rfl) ev7 ?_
  refine r_puti (k := 58) (lo := 0) (hi := 1700) C oCl12 rfl (by decide) flX12_360 rfl rfl rfl rfl rfl rfl rfl rfl ⟨by omega, by omega⟩ (oDec_at oX12_joins 21 rfl) ?_
  refine r_iload_n C (j := 1) (oDec_at oX12_joins 22 rfl) rfl rfl ?_
  by_cases cd8_0 : a1.toInt = 1
  · refine r_tableIn C 108 (oDec_at oX12_joins 23 rfl) (by omega) (by omega) (by rw [cd8_0]; rfl) (by decide) ?_
    refine r_aload_n C (j := 0) (oDec_at oX12_joins 24 rfl) rfl rfl ?_
    refine r_lload C (j := 3) (oDec_at oX12_joins 25 rfl) rfl ?_
    refine r_lload_n C (j := 2) (oDec_at oX12_joins 26 rfl) rfl rfl ?_
    obtain ⟨v9, ev9⟩ : ∃ z : Int64, z = v6 + v4 := ⟨_, rfl⟩
    refine r_ladd C v9 (oDec_at oX12_joins 27 rfl) ev9 ?_
    refine r_callSl C miX12_clip mlX12_363 (ct_X12_clip l E ((pI s 71 58 v7)) v9 ) (by decide) rfl rfl rfl (Nat.le_of_ble_eq_true rfl) (oDec_at oX12_joins 28 rfl) (fun r11 u10 pu10 fu10 => ?_)
    try dsimp only at pu10
    have hxu10 := oFr_nil fu10; subst hxu10
    have lk12 : (((pI s 71 58 v7)).1 71 58).toInt = v7.toInt := congrArg Int32.toInt ((pI_self _ _ _ _))
    have lk13 : (((pI s 71 58 v7)).1 71 58).toInt = v7.toInt := congrArg Int32.toInt ((pI_self _ _ _ _))
    refine r_callVv C oCl12 rfl miX12_puts mlX12_367 (ct_X12_puts l E ((pI s 71 58 v7)) r11 (by omega)) (by decide) rfl rfl rfl (Nat.le_of_ble_eq_true rfl) (oDec_at oX12_joins 29 rfl) (fun u14 pu14 fu14 => ?_)
    try dsimp only at pu14
    try simp only [lk12, lk13] at pu14
    refine r_pc C 119 rfl ?_
    refine r_goto C (tgt := 289) (oDec_at oX12_joins 30 rfl) (by decide) ?_
    exact r_vret C (oDec_at oX12_joins 118 rfl) ⟨rfl, by omega⟩
  by_cases cd8_1 : a1.toInt = 2
  · refine r_tableIn C 122 (oDec_at oX12_joins 23 rfl) (by omega) (by omega) (by rw [cd8_1]; rfl) (by decide) ?_
    refine r_aload_n C (j := 0) (oDec_at oX12_joins 31 rfl) rfl rfl ?_
    refine r_lload C (j := 3) (oDec_at oX12_joins 32 rfl) rfl ?_
    refine r_lload_n C (j := 2) (oDec_at oX12_joins 33 rfl) rfl rfl ?_
    obtain ⟨v16, ev16⟩ : ∃ z : Int64, z = v6 - v4 := ⟨_, rfl⟩
    refine r_lsub C v16 (oDec_at oX12_joins 34 rfl) ev16 ?_
    refine r_callSl C miX12_clip mlX12_363 (ct_X12_clip l E ((pI s 71 58 v7)) v16 ) (by decide) rfl rfl rfl (Nat.le_of_ble_eq_true rfl) (oDec_at oX12_joins 35 rfl) (fun r18 u17 pu17 fu17 => ?_)
    try dsimp only at pu17
    have hxu17 := oFr_nil fu17; subst hxu17
    have lk19 : (((pI s 71 58 v7)).1 71 58).toInt = v7.toInt := congrArg Int32.toInt ((pI_self _ _ _ _))
    have lk20 : (((pI s 71 58 v7)).1 71 58).toInt = v7.toInt := congrArg Int32.toInt ((pI_self _ _ _ _))
    refine r_callVv C oCl12 rfl miX12_puts mlX12_367 (ct_X12_puts l E ((pI s 71 58 v7)) r18 (by omega)) (by decide) rfl rfl rfl (Nat.le_of_ble_eq_true rfl) (oDec_at oX12_joins 36 rfl) (fun u21 pu21 fu21 => ?_)
    try dsimp only at pu21
    try simp only [lk19, lk20] at pu21
    refine r_pc C 133 rfl ?_
    refine r_goto C (tgt := 289) (oDec_at oX12_joins 37 rfl) (by decide) ?_
    exact r_vret C (oDec_at oX12_joins 118 rfl) ⟨rfl, by omega⟩
  by_cases cd8_2 : a1.toInt = 3
  · refine r_tableIn C 136 (oDec_at oX12_joins 23 rfl) (by omega) (by omega) (by rw [cd8_2]; rfl) (by decide) ?_
    refine r_aload_n C (j := 0) (oDec_at oX12_joins 38 rfl) rfl rfl ?_
    refine r_lload C (j := 3) (oDec_at oX12_joins 39 rfl) rfl ?_
    refine r_lload_n C (j := 2) (oDec_at oX12_joins 40 rfl) rfl rfl ?_
    obtain ⟨v23, ev23⟩ : ∃ z : Int64, z = v6 * v4 := ⟨_, rfl⟩
    refine r_lmul C v23 (oDec_at oX12_joins 41 rfl) ev23 ?_
    refine r_callSl C miX12_clip mlX12_363 (ct_X12_clip l E ((pI s 71 58 v7)) v23 ) (by decide) rfl rfl rfl (Nat.le_of_ble_eq_true rfl) (oDec_at oX12_joins 42 rfl) (fun r25 u24 pu24 fu24 => ?_)
    try dsimp only at pu24
    have hxu24 := oFr_nil fu24; subst hxu24
    have lk26 : (((pI s 71 58 v7)).1 71 58).toInt = v7.toInt := congrArg Int32.toInt ((pI_self _ _ _ _))
    have lk27 : (((pI s 71 58 v7)).1 71 58).toInt = v7.toInt := congrArg Int32.toInt ((pI_self _ _ _ _))
    refine r_callVv C oCl12 rfl miX12_puts mlX12_367 (ct_X12_puts l E ((pI s 71 58 v7)) r25 (by omega)) (by decide) rfl rfl rfl (Nat.le_of_ble_eq_true rfl) (oDec_at oX12_joins 43 rfl) (fun u28 pu28 fu28 => ?_)
    try dsimp only at pu28
    try simp only [lk26, lk27] at pu28
    refine r_pc C 147 rfl ?_
    refine r_goto C (tgt := 289) (oDec_at oX12_joins 44 rfl) (by decide) ?_
    exact r_vret C (oDec_at oX12_joins 118 rfl) ⟨rfl, by omega⟩
  by_cases cd8_3 : a1.toInt = 4
  · refine r_tableIn C 150 (oDec_at oX12_joins 23 rfl) (by omega) (by omega) (by rw [cd8_3]; rfl) (by decide) ?_
    refine r_aload_n C (j := 0) (oDec_at oX12_joins 45 rfl) rfl rfl ?_
    refine r_lload C (j := 3) (oDec_at oX12_joins 46 rfl) rfl ?_
    refine r_lload_n C (j := 2) (oDec_at oX12_joins 47 rfl) rfl rfl ?_
    refine r_callSl C miX12_floor mlX12_371 (ct_X12_floor l E ((pI s 71 58 v7)) v6 v4 ) (by decide) rfl rfl rfl (Nat.le_of_ble_eq_true rfl) (oDec_at oX12_joins 48 rfl) (fun r31 u30 pu30 fu30 => ?_)
    try dsimp only at pu30
    have hxu30 := oFr_nil fu30; subst hxu30
    have lk32 : (((pI s 71 58 v7)).1 71 58).toInt = v7.toInt := congrArg Int32.toInt ((pI_self _ _ _ _))
    have lk33 : (((pI s 71 58 v7)).1 71 58).toInt = v7.toInt := congrArg Int32.toInt ((pI_self _ _ _ _))
    refine r_callVv C oCl12 rfl miX12_puts mlX12_367 (ct_X12_puts l E ((pI s 71 58 v7)) r31 (by omega)) (by decide) rfl rfl rfl (Nat.le_of_ble_eq_true rfl) (oDec_at oX12_joins 49 rfl) (fun u34 pu34 fu34 => ?_)
    try dsimp only at pu34
    try simp only [lk32, lk33] at pu34
    refine r_goto C (tgt := 289) (oDec_at oX12_joins 50 rfl) (by decide) ?_
    exact r_vret C (oDec_at oX12_joins 118 rfl) ⟨rfl, by omega⟩
  by_cases cd8_4 : a1.toInt = 5
  · refine r_tableIn C 163 (oDec_at oX12_joins 23 rfl) (by omega) (by omega) (by rw [cd8_4]; rfl) (by decide) ?_
    refine r_aload_n C (j := 0) (oDec_at oX12_joins 51 rfl) rfl rfl ?_
    refine r_lload C (j := 3) (oDec_at oX12_joins 52 rfl) rfl ?_
    refine r_lload_n C (j := 2) (oDec_at oX12_joins 53 rfl) rfl rfl ?_
    obtain ⟨v36, ev36⟩ : ∃ z : Int32, z = lg_cmp v6 v4 := ⟨_, rfl⟩
    have hv36 := n_lcmp ev36
    refine r_lcmp C v36 (oDec_at oX12_joins 54 rfl) ev36 ?_
    refine r_if_ge C 176 (oDec_at oX12_joins 55 rfl) (by decide) (fun cd37 => ?_) (fun cd37 => ?_)
    · skip
      refine r_lload_n C (j := 2) (oDec_at oX12_joins 58 rfl) rfl rfl ?_
      have lk38 : (((pI s 71 58 v7)).1 71 58).toInt = v7.toInt := congrArg Int32.toInt ((pI_self _ _ _ _))
      have lk39 : (((pI s 71 58 v7)).1 71 58).toInt = v7.toInt := congrArg Int32.toInt ((pI_self _ _ _ _))
      refine r_callVv C oCl12 rfl miX12_puts mlX12_367 (ct_X12_puts l E ((pI s 71 58 v7)) v4 (by omega)) (by decide) rfl rfl rfl (Nat.le_of_ble_eq_true rfl) (oDec_at oX12_joins 59 rfl) (fun u40 pu40 fu40 => ?_)
      try dsimp only at pu40
      try simp only [lk38, lk39] at pu40
      refine r_goto C (tgt := 289) (oDec_at oX12_joins 60 rfl) (by decide) ?_
      exact r_vret C (oDec_at oX12_joins 118 rfl) ⟨rfl, by omega⟩
    · skip
      refine r_lload C (j := 3) (oDec_at oX12_joins 56 rfl) rfl ?_
      refine r_goto C (tgt := 177) (oDec_at oX12_joins 57 rfl) (by decide) ?_
      have lk42 : (((pI s 71 58 v7)).1 71 58).toInt = v7.toInt := congrArg Int32.toInt ((pI_self _ _ _ _))
      have lk43 : (((pI s 71 58 v7)).1 71 58).toInt = v7.toInt := congrArg Int32.toInt ((pI_self _ _ _ _))
      refine r_callVv C oCl12 rfl miX12_puts mlX12_367 (ct_X12_puts l E ((pI s 71 58 v7)) v6 (by omega)) (by decide) rfl rfl rfl (Nat.le_of_ble_eq_true rfl) (oDec_at oX12_joins 59 rfl) (fun u44 pu44 fu44 => ?_)
      try dsimp only at pu44
      try simp only [lk42, lk43] at pu44
      refine r_goto C (tgt := 289) (oDec_at oX12_joins 60 rfl) (by decide) ?_
      exact r_vret C (oDec_at oX12_joins 118 rfl) ⟨rfl, by omega⟩
  by_cases cd8_5 : a1.toInt = 6
  · refine r_tableIn C 183 (oDec_at oX12_joins 23 rfl) (by omega) (by omega) (by rw [cd8_5]; rfl) (by decide) ?_
    refine r_aload_n C (j := 0) (oDec_at oX12_joins 61 rfl) rfl rfl ?_
    refine r_lload C (j := 3) (oDec_at oX12_joins 62 rfl) rfl ?_
    refine r_lload_n C (j := 2) (oDec_at oX12_joins 63 rfl) rfl rfl ?_
    obtain ⟨v46, ev46⟩ : ∃ z : Int32, z = lg_cmp v6 v4 := ⟨_, rfl⟩
    have hv46 := n_lcmp ev46
    refine r_lcmp C v46 (oDec_at oX12_joins 64 rfl) ev46 ?_
    refine r_if_le C 196 (oDec_at oX12_joins 65 rfl) (by decide) (fun cd47 => ?_) (fun cd47 => ?_)
    · skip
      refine r_lload_n C (j := 2) (oDec_at oX12_joins 68 rfl) rfl rfl ?_
      have lk48 : (((pI s 71 58 v7)).1 71 58).toInt = v7.toInt := congrArg Int32.toInt ((pI_self _ _ _ _))
      have lk49 : (((pI s 71 58 v7)).1 71 58).toInt = v7.toInt := congrArg Int32.toInt ((pI_self _ _ _ _))
      refine r_callVv C oCl12 rfl miX12_puts mlX12_367 (ct_X12_puts l E ((pI s 71 58 v7)) v4 (by omega)) (by decide) rfl rfl rfl (Nat.le_of_ble_eq_true rfl) (oDec_at oX12_joins 69 rfl) (fun u50 pu50 fu50 => ?_)
      try dsimp only at pu50
      try simp only [lk48, lk49] at pu50
      refine r_goto C (tgt := 289) (oDec_at oX12_joins 70 rfl) (by decide) ?_
      exact r_vret C (oDec_at oX12_joins 118 rfl) ⟨rfl, by omega⟩
    · skip
      refine r_lload C (j := 3) (oDec_at oX12_joins 66 rfl) rfl ?_
      refine r_goto C (tgt := 197) (oDec_at oX12_joins 67 rfl) (by decide) ?_
      have lk52 : (((pI s 71 58 v7)).1 71 58).toInt = v7.toInt := congrArg Int32.toInt ((pI_self _ _ _ _))
      have lk53 : (((pI s 71 58 v7)).1 71 58).toInt = v7.toInt := congrArg Int32.toInt ((pI_self _ _ _ _))
      refine r_callVv C oCl12 rfl miX12_puts mlX12_367 (ct_X12_puts l E ((pI s 71 58 v7)) v6 (by omega)) (by decide) rfl rfl rfl (Nat.le_of_ble_eq_true rfl) (oDec_at oX12_joins 69 rfl) (fun u54 pu54 fu54 => ?_)
      try dsimp only at pu54
      try simp only [lk52, lk53] at pu54
      refine r_goto C (tgt := 289) (oDec_at oX12_joins 70 rfl) (by decide) ?_
      exact r_vret C (oDec_at oX12_joins 118 rfl) ⟨rfl, by omega⟩
  by_cases cd8_6 : a1.toInt = 7
  · refine r_tableIn C 271 (oDec_at oX12_joins 23 rfl) (by omega) (by omega) (by rw [cd8_6]; rfl) (by decide) ?_
    refine r_aload_n C (j := 0) (oDec_at oX12_joins 107 rfl) rfl rfl ?_
    refine r_lload C (j := 3) (oDec_at oX12_joins 108 rfl) rfl ?_
    refine r_lload_n C (j := 2) (oDec_at oX12_joins 109 rfl) rfl rfl ?_
    obtain ⟨v56, ev56⟩ : ∃ z : Int64, z = v6 + v4 := ⟨_, rfl⟩
    refine r_ladd C v56 (oDec_at oX12_joins 110 rfl) ev56 ?_
    refine r_lconst C (oDec_at oX12_joins 111 rfl) (v := j0) (by rw [qj0]; rfl) ?_
    obtain ⟨v57, ev57⟩ : ∃ z : Int32, z = lg_cmp v56 j0 := ⟨_, rfl⟩
    have hv57 := n_lcmp ev57
    refine r_lcmp C v57 (oDec_at oX12_joins 112 rfl) ev57 ?_
    refine r_pc C 278 rfl ?_
    refine r_if_le C 285 (oDec_at oX12_joins 113 rfl) (by decide) (fun cd58 => ?_) (fun cd58 => ?_)
    · skip
      refine r_lconst C (oDec_at oX12_joins 116 rfl) (v := j0) (by rw [qj0]; rfl) ?_
      have lk59 : (((pI s 71 58 v7)).1 71 58).toInt = v7.toInt := congrArg Int32.toInt ((pI_self _ _ _ _))
      have lk60 : (((pI s 71 58 v7)).1 71 58).toInt = v7.toInt := congrArg Int32.toInt ((pI_self _ _ _ _))
      refine r_callVv C oCl12 rfl miX12_puts mlX12_367 (ct_X12_puts l E ((pI s 71 58 v7)) j0 (by omega)) (by decide) rfl rfl rfl (Nat.le_of_ble_eq_true rfl) (oDec_at oX12_joins 117 rfl) (fun u61 pu61 fu61 => ?_)
      try dsimp only at pu61
      try simp only [lk59, lk60] at pu61
      exact r_vret C (oDec_at oX12_joins 118 rfl) ⟨rfl, by omega⟩
    · skip
      refine r_lconst C (oDec_at oX12_joins 114 rfl) (v := j1) (by rw [qj1]; rfl) ?_
      refine r_goto C (tgt := 286) (oDec_at oX12_joins 115 rfl) (by decide) ?_
      have lk63 : (((pI s 71 58 v7)).1 71 58).toInt = v7.toInt := congrArg Int32.toInt ((pI_self _ _ _ _))
      have lk64 : (((pI s 71 58 v7)).1 71 58).toInt = v7.toInt := congrArg Int32.toInt ((pI_self _ _ _ _))
      refine r_callVv C oCl12 rfl miX12_puts mlX12_367 (ct_X12_puts l E ((pI s 71 58 v7)) j1 (by omega)) (by decide) rfl rfl rfl (Nat.le_of_ble_eq_true rfl) (oDec_at oX12_joins 117 rfl) (fun u65 pu65 fu65 => ?_)
      try dsimp only at pu65
      try simp only [lk63, lk64] at pu65
      exact r_vret C (oDec_at oX12_joins 118 rfl) ⟨rfl, by omega⟩
  by_cases cd8_7 : a1.toInt = 8
  · refine r_tableIn C 271 (oDec_at oX12_joins 23 rfl) (by omega) (by omega) (by rw [cd8_7]; rfl) (by decide) ?_
    refine r_aload_n C (j := 0) (oDec_at oX12_joins 107 rfl) rfl rfl ?_
    refine r_lload C (j := 3) (oDec_at oX12_joins 108 rfl) rfl ?_
    refine r_lload_n C (j := 2) (oDec_at oX12_joins 109 rfl) rfl rfl ?_
    obtain ⟨v67, ev67⟩ : ∃ z : Int64, z = v6 + v4 := ⟨_, rfl⟩
    refine r_ladd C v67 (oDec_at oX12_joins 110 rfl) ev67 ?_
    refine r_lconst C (oDec_at oX12_joins 111 rfl) (v := j0) (by rw [qj0]; rfl) ?_
    obtain ⟨v68, ev68⟩ : ∃ z : Int32, z = lg_cmp v67 j0 := ⟨_, rfl⟩
    have hv68 := n_lcmp ev68
    refine r_lcmp C v68 (oDec_at oX12_joins 112 rfl) ev68 ?_
    refine r_pc C 278 rfl ?_
    refine r_if_le C 285 (oDec_at oX12_joins 113 rfl) (by decide) (fun cd69 => ?_) (fun cd69 => ?_)
    · skip
      refine r_lconst C (oDec_at oX12_joins 116 rfl) (v := j0) (by rw [qj0]; rfl) ?_
      have lk70 : (((pI s 71 58 v7)).1 71 58).toInt = v7.toInt := congrArg Int32.toInt ((pI_self _ _ _ _))
      have lk71 : (((pI s 71 58 v7)).1 71 58).toInt = v7.toInt := congrArg Int32.toInt ((pI_self _ _ _ _))
      refine r_callVv C oCl12 rfl miX12_puts mlX12_367 (ct_X12_puts l E ((pI s 71 58 v7)) j0 (by omega)) (by decide) rfl rfl rfl (Nat.le_of_ble_eq_true rfl) (oDec_at oX12_joins 117 rfl) (fun u72 pu72 fu72 => ?_)
      try dsimp only at pu72
      try simp only [lk70, lk71] at pu72
      exact r_vret C (oDec_at oX12_joins 118 rfl) ⟨rfl, by omega⟩
    · skip
      refine r_lconst C (oDec_at oX12_joins 114 rfl) (v := j1) (by rw [qj1]; rfl) ?_
      refine r_goto C (tgt := 286) (oDec_at oX12_joins 115 rfl) (by decide) ?_
      have lk74 : (((pI s 71 58 v7)).1 71 58).toInt = v7.toInt := congrArg Int32.toInt ((pI_self _ _ _ _))
      have lk75 : (((pI s 71 58 v7)).1 71 58).toInt = v7.toInt := congrArg Int32.toInt ((pI_self _ _ _ _))
      refine r_callVv C oCl12 rfl miX12_puts mlX12_367 (ct_X12_puts l E ((pI s 71 58 v7)) j1 (by omega)) (by decide) rfl rfl rfl (Nat.le_of_ble_eq_true rfl) (oDec_at oX12_joins 117 rfl) (fun u76 pu76 fu76 => ?_)
      try dsimp only at pu76
      try simp only [lk74, lk75] at pu76
      exact r_vret C (oDec_at oX12_joins 118 rfl) ⟨rfl, by omega⟩
  by_cases cd8_8 : a1.toInt = 9
  · refine r_tableIn C 271 (oDec_at oX12_joins 23 rfl) (by omega) (by omega) (by rw [cd8_8]; rfl) (by decide) ?_
    refine r_aload_n C (j := 0) (oDec_at oX12_joins 107 rfl) rfl rfl ?_
    refine r_lload C (j := 3) (oDec_at oX12_joins 108 rfl) rfl ?_
    refine r_lload_n C (j := 2) (oDec_at oX12_joins 109 rfl) rfl rfl ?_
    obtain ⟨v78, ev78⟩ : ∃ z : Int64, z = v6 + v4 := ⟨_, rfl⟩
    refine r_ladd C v78 (oDec_at oX12_joins 110 rfl) ev78 ?_
    refine r_lconst C (oDec_at oX12_joins 111 rfl) (v := j0) (by rw [qj0]; rfl) ?_
    obtain ⟨v79, ev79⟩ : ∃ z : Int32, z = lg_cmp v78 j0 := ⟨_, rfl⟩
    have hv79 := n_lcmp ev79
    refine r_lcmp C v79 (oDec_at oX12_joins 112 rfl) ev79 ?_
    refine r_pc C 278 rfl ?_
    refine r_if_le C 285 (oDec_at oX12_joins 113 rfl) (by decide) (fun cd80 => ?_) (fun cd80 => ?_)
    · skip
      refine r_lconst C (oDec_at oX12_joins 116 rfl) (v := j0) (by rw [qj0]; rfl) ?_
      have lk81 : (((pI s 71 58 v7)).1 71 58).toInt = v7.toInt := congrArg Int32.toInt ((pI_self _ _ _ _))
      have lk82 : (((pI s 71 58 v7)).1 71 58).toInt = v7.toInt := congrArg Int32.toInt ((pI_self _ _ _ _))
      refine r_callVv C oCl12 rfl miX12_puts mlX12_367 (ct_X12_puts l E ((pI s 71 58 v7)) j0 (by omega)) (by decide) rfl rfl rfl (Nat.le_of_ble_eq_true rfl) (oDec_at oX12_joins 117 rfl) (fun u83 pu83 fu83 => ?_)
      try dsimp only at pu83
      try simp only [lk81, lk82] at pu83
      exact r_vret C (oDec_at oX12_joins 118 rfl) ⟨rfl, by omega⟩
    · skip
      refine r_lconst C (oDec_at oX12_joins 114 rfl) (v := j1) (by rw [qj1]; rfl) ?_
      refine r_goto C (tgt := 286) (oDec_at oX12_joins 115 rfl) (by decide) ?_
      have lk85 : (((pI s 71 58 v7)).1 71 58).toInt = v7.toInt := congrArg Int32.toInt ((pI_self _ _ _ _))
      have lk86 : (((pI s 71 58 v7)).1 71 58).toInt = v7.toInt := congrArg Int32.toInt ((pI_self _ _ _ _))
      refine r_callVv C oCl12 rfl miX12_puts mlX12_367 (ct_X12_puts l E ((pI s 71 58 v7)) j1 (by omega)) (by decide) rfl rfl rfl (Nat.le_of_ble_eq_true rfl) (oDec_at oX12_joins 117 rfl) (fun u87 pu87 fu87 => ?_)
      try dsimp only at pu87
      try simp only [lk85, lk86] at pu87
      exact r_vret C (oDec_at oX12_joins 118 rfl) ⟨rfl, by omega⟩
  by_cases cd8_9 : a1.toInt = 10
  · refine r_tableIn C 271 (oDec_at oX12_joins 23 rfl) (by omega) (by omega) (by rw [cd8_9]; rfl) (by decide) ?_
    refine r_aload_n C (j := 0) (oDec_at oX12_joins 107 rfl) rfl rfl ?_
    refine r_lload C (j := 3) (oDec_at oX12_joins 108 rfl) rfl ?_
    refine r_lload_n C (j := 2) (oDec_at oX12_joins 109 rfl) rfl rfl ?_
    obtain ⟨v89, ev89⟩ : ∃ z : Int64, z = v6 + v4 := ⟨_, rfl⟩
    refine r_ladd C v89 (oDec_at oX12_joins 110 rfl) ev89 ?_
    refine r_lconst C (oDec_at oX12_joins 111 rfl) (v := j0) (by rw [qj0]; rfl) ?_
    obtain ⟨v90, ev90⟩ : ∃ z : Int32, z = lg_cmp v89 j0 := ⟨_, rfl⟩
    have hv90 := n_lcmp ev90
    refine r_lcmp C v90 (oDec_at oX12_joins 112 rfl) ev90 ?_
    refine r_pc C 278 rfl ?_
    refine r_if_le C 285 (oDec_at oX12_joins 113 rfl) (by decide) (fun cd91 => ?_) (fun cd91 => ?_)
    · skip
      refine r_lconst C (oDec_at oX12_joins 116 rfl) (v := j0) (by rw [qj0]; rfl) ?_
      have lk92 : (((pI s 71 58 v7)).1 71 58).toInt = v7.toInt := congrArg Int32.toInt ((pI_self _ _ _ _))
      have lk93 : (((pI s 71 58 v7)).1 71 58).toInt = v7.toInt := congrArg Int32.toInt ((pI_self _ _ _ _))
      refine r_callVv C oCl12 rfl miX12_puts mlX12_367 (ct_X12_puts l E ((pI s 71 58 v7)) j0 (by omega)) (by decide) rfl rfl rfl (Nat.le_of_ble_eq_true rfl) (oDec_at oX12_joins 117 rfl) (fun u94 pu94 fu94 => ?_)
      try dsimp only at pu94
      try simp only [lk92, lk93] at pu94
      exact r_vret C (oDec_at oX12_joins 118 rfl) ⟨rfl, by omega⟩
    · skip
      refine r_lconst C (oDec_at oX12_joins 114 rfl) (v := j1) (by rw [qj1]; rfl) ?_
      refine r_goto C (tgt := 286) (oDec_at oX12_joins 115 rfl) (by decide) ?_
      have lk96 : (((pI s 71 58 v7)).1 71 58).toInt = v7.toInt := congrArg Int32.toInt ((pI_self _ _ _ _))
      have lk97 : (((pI s 71 58 v7)).1 71 58).toInt = v7.toInt := congrArg Int32.toInt ((pI_self _ _ _ _))
      refine r_callVv C oCl12 rfl miX12_puts mlX12_367 (ct_X12_puts l E ((pI s 71 58 v7)) j1 (by omega)) (by decide) rfl rfl rfl (Nat.le_of_ble_eq_true rfl) (oDec_at oX12_joins 117 rfl) (fun u98 pu98 fu98 => ?_)
      try dsimp only at pu98
      try simp only [lk96, lk97] at pu98
      exact r_vret C (oDec_at oX12_joins 118 rfl) ⟨rfl, by omega⟩
  by_cases cd8_10 : a1.toInt = 11
  · refine r_tableIn C 203 (oDec_at oX12_joins 23 rfl) (by omega) (by omega) (by rw [cd8_10]; rfl) (by decide) ?_
    refine r_aload_n C (j := 0) (oDec_at oX12_joins 71 rfl) rfl rfl ?_
    refine r_lload C (j := 3) (oDec_at oX12_joins 72 rfl) rfl ?_
    refine r_lload_n C (j := 2) (oDec_at oX12_joins 73 rfl) rfl rfl ?_
    obtain ⟨v100, ev100⟩ : ∃ z : Int32, z = lg_cmp v6 v4 := ⟨_, rfl⟩
    have hv100 := n_lcmp ev100
    refine r_lcmp C v100 (oDec_at oX12_joins 74 rfl) ev100 ?_
    refine r_if_ge C 215 (oDec_at oX12_joins 75 rfl) (by decide) (fun cd101 => ?_) (fun cd101 => ?_)
    · skip
      refine r_lconst C (oDec_at oX12_joins 78 rfl) (v := j0) (by rw [qj0]; rfl) ?_
      have lk102 : (((pI s 71 58 v7)).1 71 58).toInt = v7.toInt := congrArg Int32.toInt ((pI_self _ _ _ _))
      have lk103 : (((pI s 71 58 v7)).1 71 58).toInt = v7.toInt := congrArg Int32.toInt ((pI_self _ _ _ _))
      refine r_callVv C oCl12 rfl miX12_puts mlX12_367 (ct_X12_puts l E ((pI s 71 58 v7)) j0 (by omega)) (by decide) rfl rfl rfl (Nat.le_of_ble_eq_true rfl) (oDec_at oX12_joins 79 rfl) (fun u104 pu104 fu104 => ?_)
      try dsimp only at pu104
      try simp only [lk102, lk103] at pu104
      refine r_goto C (tgt := 289) (oDec_at oX12_joins 80 rfl) (by decide) ?_
      exact r_vret C (oDec_at oX12_joins 118 rfl) ⟨rfl, by omega⟩
    · skip
      refine r_lconst C (oDec_at oX12_joins 76 rfl) (v := j1) (by rw [qj1]; rfl) ?_
      refine r_goto C (tgt := 216) (oDec_at oX12_joins 77 rfl) (by decide) ?_
      have lk106 : (((pI s 71 58 v7)).1 71 58).toInt = v7.toInt := congrArg Int32.toInt ((pI_self _ _ _ _))
      have lk107 : (((pI s 71 58 v7)).1 71 58).toInt = v7.toInt := congrArg Int32.toInt ((pI_self _ _ _ _))
      refine r_callVv C oCl12 rfl miX12_puts mlX12_367 (ct_X12_puts l E ((pI s 71 58 v7)) j1 (by omega)) (by decide) rfl rfl rfl (Nat.le_of_ble_eq_true rfl) (oDec_at oX12_joins 79 rfl) (fun u108 pu108 fu108 => ?_)
      try dsimp only at pu108
      try simp only [lk106, lk107] at pu108
      refine r_goto C (tgt := 289) (oDec_at oX12_joins 80 rfl) (by decide) ?_
      exact r_vret C (oDec_at oX12_joins 118 rfl) ⟨rfl, by omega⟩
  by_cases cd8_11 : a1.toInt = 12
  · refine r_tableIn C 222 (oDec_at oX12_joins 23 rfl) (by omega) (by omega) (by rw [cd8_11]; rfl) (by decide) ?_
    refine r_aload_n C (j := 0) (oDec_at oX12_joins 81 rfl) rfl rfl ?_
    refine r_lload C (j := 3) (oDec_at oX12_joins 82 rfl) rfl ?_
    refine r_lload_n C (j := 2) (oDec_at oX12_joins 83 rfl) rfl rfl ?_
    obtain ⟨v110, ev110⟩ : ∃ z : Int32, z = lg_cmp v6 v4 := ⟨_, rfl⟩
    have hv110 := n_lcmp ev110
    refine r_lcmp C v110 (oDec_at oX12_joins 84 rfl) ev110 ?_
    refine r_if_le C 234 (oDec_at oX12_joins 85 rfl) (by decide) (fun cd111 => ?_) (fun cd111 => ?_)
    · skip
      refine r_lconst C (oDec_at oX12_joins 88 rfl) (v := j0) (by rw [qj0]; rfl) ?_
      have lk112 : (((pI s 71 58 v7)).1 71 58).toInt = v7.toInt := congrArg Int32.toInt ((pI_self _ _ _ _))
      have lk113 : (((pI s 71 58 v7)).1 71 58).toInt = v7.toInt := congrArg Int32.toInt ((pI_self _ _ _ _))
      refine r_callVv C oCl12 rfl miX12_puts mlX12_367 (ct_X12_puts l E ((pI s 71 58 v7)) j0 (by omega)) (by decide) rfl rfl rfl (Nat.le_of_ble_eq_true rfl) (oDec_at oX12_joins 89 rfl) (fun u114 pu114 fu114 => ?_)
      try dsimp only at pu114
      try simp only [lk112, lk113] at pu114
      refine r_goto C (tgt := 289) (oDec_at oX12_joins 90 rfl) (by decide) ?_
      exact r_vret C (oDec_at oX12_joins 118 rfl) ⟨rfl, by omega⟩
    · skip
      refine r_lconst C (oDec_at oX12_joins 86 rfl) (v := j1) (by rw [qj1]; rfl) ?_
      refine r_goto C (tgt := 235) (oDec_at oX12_joins 87 rfl) (by decide) ?_
      have lk116 : (((pI s 71 58 v7)).1 71 58).toInt = v7.toInt := congrArg Int32.toInt ((pI_self _ _ _ _))
      have lk117 : (((pI s 71 58 v7)).1 71 58).toInt = v7.toInt := congrArg Int32.toInt ((pI_self _ _ _ _))
      refine r_callVv C oCl12 rfl miX12_puts mlX12_367 (ct_X12_puts l E ((pI s 71 58 v7)) j1 (by omega)) (by decide) rfl rfl rfl (Nat.le_of_ble_eq_true rfl) (oDec_at oX12_joins 89 rfl) (fun u118 pu118 fu118 => ?_)
      try dsimp only at pu118
      try simp only [lk116, lk117] at pu118
      refine r_goto C (tgt := 289) (oDec_at oX12_joins 90 rfl) (by decide) ?_
      exact r_vret C (oDec_at oX12_joins 118 rfl) ⟨rfl, by omega⟩
  by_cases cd8_12 : a1.toInt = 13
  · refine r_tableIn C 241 (oDec_at oX12_joins 23 rfl) (by omega) (by omega) (by rw [cd8_12]; rfl) (by decide) ?_
    refine r_aload_n C (j := 0) (oDec_at oX12_joins 91 rfl) rfl rfl ?_
    refine r_lload C (j := 3) (oDec_at oX12_joins 92 rfl) rfl ?_
    refine r_lload_n C (j := 2) (oDec_at oX12_joins 93 rfl) rfl rfl ?_
    obtain ⟨v120, ev120⟩ : ∃ z : Int32, z = lg_cmp v6 v4 := ⟨_, rfl⟩
    have hv120 := n_lcmp ev120
    refine r_lcmp C v120 (oDec_at oX12_joins 94 rfl) ev120 ?_
    refine r_if_ne C 253 (oDec_at oX12_joins 95 rfl) (by decide) (fun cd121 => ?_) (fun cd121 => ?_)
    · skip
      refine r_lconst C (oDec_at oX12_joins 98 rfl) (v := j0) (by rw [qj0]; rfl) ?_
      have lk122 : (((pI s 71 58 v7)).1 71 58).toInt = v7.toInt := congrArg Int32.toInt ((pI_self _ _ _ _))
      have lk123 : (((pI s 71 58 v7)).1 71 58).toInt = v7.toInt := congrArg Int32.toInt ((pI_self _ _ _ _))
      refine r_callVv C oCl12 rfl miX12_puts mlX12_367 (ct_X12_puts l E ((pI s 71 58 v7)) j0 (by omega)) (by decide) rfl rfl rfl (Nat.le_of_ble_eq_true rfl) (oDec_at oX12_joins 99 rfl) (fun u124 pu124 fu124 => ?_)
      try dsimp only at pu124
      try simp only [lk122, lk123] at pu124
      refine r_goto C (tgt := 289) (oDec_at oX12_joins 100 rfl) (by decide) ?_
      exact r_vret C (oDec_at oX12_joins 118 rfl) ⟨rfl, by omega⟩
    · skip
      refine r_lconst C (oDec_at oX12_joins 96 rfl) (v := j1) (by rw [qj1]; rfl) ?_
      refine r_goto C (tgt := 254) (oDec_at oX12_joins 97 rfl) (by decide) ?_
      have lk126 : (((pI s 71 58 v7)).1 71 58).toInt = v7.toInt := congrArg Int32.toInt ((pI_self _ _ _ _))
      have lk127 : (((pI s 71 58 v7)).1 71 58).toInt = v7.toInt := congrArg Int32.toInt ((pI_self _ _ _ _))
      refine r_callVv C oCl12 rfl miX12_puts mlX12_367 (ct_X12_puts l E ((pI s 71 58 v7)) j1 (by omega)) (by decide) rfl rfl rfl (Nat.le_of_ble_eq_true rfl) (oDec_at oX12_joins 99 rfl) (fun u128 pu128 fu128 => ?_)
      try dsimp only at pu128
      try simp only [lk126, lk127] at pu128
      refine r_goto C (tgt := 289) (oDec_at oX12_joins 100 rfl) (by decide) ?_
      exact r_vret C (oDec_at oX12_joins 118 rfl) ⟨rfl, by omega⟩
  by_cases cd8_13 : a1.toInt = 14
  · refine r_tableIn C 260 (oDec_at oX12_joins 23 rfl) (by omega) (by omega) (by rw [cd8_13]; rfl) (by decide) ?_
    refine r_aload_n C (j := 0) (oDec_at oX12_joins 101 rfl) rfl rfl ?_
    refine r_lload C (j := 3) (oDec_at oX12_joins 102 rfl) rfl ?_
    refine r_lload_n C (j := 2) (oDec_at oX12_joins 103 rfl) rfl rfl ?_
    obtain ⟨v130, ev130⟩ : ∃ z : Int64, z = v6 * v4 := ⟨_, rfl⟩
    refine r_lmul C v130 (oDec_at oX12_joins 104 rfl) ev130 ?_
    have lk131 : (((pI s 71 58 v7)).1 71 58).toInt = v7.toInt := congrArg Int32.toInt ((pI_self _ _ _ _))
    have lk132 : (((pI s 71 58 v7)).1 71 58).toInt = v7.toInt := congrArg Int32.toInt ((pI_self _ _ _ _))
    refine r_callVv C oCl12 rfl miX12_puts mlX12_367 (ct_X12_puts l E ((pI s 71 58 v7)) v130 (by omega)) (by decide) rfl rfl rfl (Nat.le_of_ble_eq_true rfl) (oDec_at oX12_joins 105 rfl) (fun u133 pu133 fu133 => ?_)
    try dsimp only at pu133
    try simp only [lk131, lk132] at pu133
    refine r_goto C (tgt := 289) (oDec_at oX12_joins 106 rfl) (by decide) ?_
    exact r_vret C (oDec_at oX12_joins 118 rfl) ⟨rfl, by omega⟩
  refine r_tableOut C 271 (oDec_at oX12_joins 23 rfl) (by omega) (by decide) ?_
  refine r_aload_n C (j := 0) (oDec_at oX12_joins 107 rfl) rfl rfl ?_
  refine r_pc C 272 rfl ?_
  refine r_lload C (j := 3) (oDec_at oX12_joins 108 rfl) rfl ?_
  refine r_lload_n C (j := 2) (oDec_at oX12_joins 109 rfl) rfl rfl ?_
  obtain ⟨v135, ev135⟩ : ∃ z : Int64, z = v6 + v4 := ⟨_, rfl⟩
  refine r_ladd C v135 (oDec_at oX12_joins 110 rfl) ev135 ?_
  refine r_lconst C (oDec_at oX12_joins 111 rfl) (v := j0) (by rw [qj0]; rfl) ?_
  obtain ⟨v136, ev136⟩ : ∃ z : Int32, z = lg_cmp v135 j0 := ⟨_, rfl⟩
  have hv136 := n_lcmp ev136
  refine r_lcmp C v136 (oDec_at oX12_joins 112 rfl) ev136 ?_
  refine r_if_le C 285 (oDec_at oX12_joins 113 rfl) (by decide) (fun cd137 => ?_) (fun cd137 => ?_)
  · skip
    refine r_lconst C (oDec_at oX12_joins 116 rfl) (v := j0) (by rw [qj0]; rfl) ?_
    have lk138 : (((pI s 71 58 v7)).1 71 58).toInt = v7.toInt := congrArg Int32.toInt ((pI_self _ _ _ _))
    have lk139 : (((pI s 71 58 v7)).1 71 58).toInt = v7.toInt := congrArg Int32.toInt ((pI_self _ _ _ _))
    refine r_callVv C oCl12 rfl miX12_puts mlX12_367 (ct_X12_puts l E ((pI s 71 58 v7)) j0 (by omega)) (by decide) rfl rfl rfl (Nat.le_of_ble_eq_true rfl) (oDec_at oX12_joins 117 rfl) (fun u140 pu140 fu140 => ?_)
    try dsimp only at pu140
    try simp only [lk138, lk139] at pu140
    exact r_vret C (oDec_at oX12_joins 118 rfl) ⟨rfl, by omega⟩
  · skip
    refine r_lconst C (oDec_at oX12_joins 114 rfl) (v := j1) (by rw [qj1]; rfl) ?_
    refine r_goto C (tgt := 286) (oDec_at oX12_joins 115 rfl) (by decide) ?_
    have lk142 : (((pI s 71 58 v7)).1 71 58).toInt = v7.toInt := congrArg Int32.toInt ((pI_self _ _ _ _))
    have lk143 : (((pI s 71 58 v7)).1 71 58).toInt = v7.toInt := congrArg Int32.toInt ((pI_self _ _ _ _))
    refine r_callVv C oCl12 rfl miX12_puts mlX12_367 (ct_X12_puts l E ((pI s 71 58 v7)) j1 (by omega)) (by decide) rfl rfl rfl (Nat.le_of_ble_eq_true rfl) (oDec_at oX12_joins 117 rfl) (fun u144 pu144 fu144 => ?_)
    try dsimp only at pu144
    try simp only [lk142, lk143] at pu144
    exact r_vret C (oDec_at oX12_joins 118 rfl) ⟨rfl, by omega⟩
set_option maxHeartbeats 4000000 in
set_option maxRecDepth 100000 in
theorem ct_X12_nextLine (l : Launch) (E : oE) (s : oS) (a1 : Int32) (v : Int) (hp0 : 0 ≤ a1.toInt ∧ a1.toInt ≤ 4) (hp1 : oLT s) (hp2 : 1 ≤ (s.1 71 38).toInt → 1 ≤ (s.1 71 42).toInt) (hp3 : oDg s) (hp4 : oVe v s) : oMet l 2 yX12_nextLine cX12_nextLine 4 (some .boolean) [(12, 42), (12, 43), (12, 69), (75, 9999), (77, 9999)] E s [.ref (oad E 71), .int a1] (oPi (fun r u => (0 ≤ r.toInt ∧ r.toInt ≤ 1) ∧ (oLT u) ∧ (1 ≤ (u.1 71 38).toInt → 1 ≤ (u.1 71 42).toInt) ∧ ((u.1 71 38).toInt = (s.1 71 38).toInt) ∧ (r.toInt = 1 → (oDg u ∧ oVg v u)))) := by
  refine oMet.of (lv := [(0, .ref (oad E 71)), (1, .int a1)]) (by decide +kernel) (Nat.le_of_ble_eq_true rfl) rfl (fun J C hT => ?_)
  have C : oC l 2 cX12_nextLine RX12 4 (some .boolean) [(12, 42), (12, 43), (12, 69), (75, 9999), (77, 9999)] E s (oPi (fun r u => (0 ≤ r.toInt ∧ r.toInt ≤ 1) ∧ (oLT u) ∧ (1 ≤ (u.1 71 38).toInt → 1 ≤ (u.1 71 42).toInt) ∧ ((u.1 71 38).toInt = (s.1 71 38).toInt) ∧ (r.toInt = 1 → (oDg u ∧ oVg v u)))) J := C
  obtain ⟨k0, qk0⟩ : ∃ z : Int32, z = 0 := ⟨_, rfl⟩
  have ek0 : k0.toInt = 0 := by rw [qk0]; rfl
  obtain ⟨k1, qk1⟩ : ∃ z : Int32, z = 1 := ⟨_, rfl⟩
  have ek1 : k1.toInt = 1 := by rw [qk1]; rfl
  have rg1 := n_rng a1
  have htn : (0 : Int) ≤ (s.1 71 38).toInt ∧ (s.1 71 38).toInt ≤ 24 := hT.1 71 38
  have hta : (0 : Int) ≤ (s.1 71 77).toInt ∧ (s.1 71 77).toInt ≤ 24 := hT.1 71 77
  have key : ∀ n : Nat, (∀ (t : oS) (x2 : Int32), (oLT t) → (1 ≤ (t.1 71 38).toInt → 1 ≤ (t.1 71 42).toInt) → ((t.1 71 38).toInt = (s.1 71 38).toInt) → (-1 ≤ x2.toInt ∧ x2.toInt < (s.1 71 38).toInt) → (oNj s x2 t) → x2.toInt + 100 ≤ (n : Int) → J t 7 [(0, .ref (oad E 71)), (1, .int a1), (2, .int x2)] []) ∧ (∀ (t : oS) (x3 : Int32), (oLT t) → (1 ≤ (t.1 71 38).toInt → 1 ≤ (t.1 71 42).toInt) → ((t.1 71 38).toInt = (s.1 71 38).toInt) → (1 ≤ x3.toInt ∧ x3.toInt ≤ (s.1 71 38).toInt) → (oNm s x3 t) → 30 - x3.toInt ≤ (n : Int) → J t 81 [(0, .ref (oad E 71)), (3, .int x3)] []) := by
    intro n
    induction n using Nat.strongRecOn with
    | _ n ih =>
      refine ⟨?_, ?_⟩
      · intro t x2  iv0 iv1 iv2 iv3 iv4 hmu
        have rx2 := n_rng x2
        refine r_iload_n C (j := 2) (oDec_at oX12_nextLine 5 rfl) rfl rfl ?_
        refine r_if_lt C 71 (oDec_at oX12_nextLine 6 rfl) (by decide) (fun cd1 => ?_) (fun cd1 => ?_)
        · skip
          refine r_iload_n C (j := 2) (oDec_at oX12_nextLine 45 rfl) rfl rfl ?_
          refine r_if_ge C 77 (oDec_at oX12_nextLine 46 rfl) (by decide) (fun cd2 => ?_) (fun cd2 => ?_)
          · skip
            refine r_iload_n C (j := 2) (oDec_at oX12_nextLine 49 rfl) rfl rfl ?_
            refine r_iconst C (oDec_at oX12_nextLine 50 rfl) (v := k1) (by rw [qk1]; rfl) ?_
            obtain ⟨v3, ev3⟩ : ∃ z : Int32, z = x2 + k1 := ⟨_, rfl⟩
            have hv3 : v3.toInt = x2.toInt + k1.toInt := n_add ev3 (by omega) (by omega)
            refine r_iadd C v3 (oDec_at oX12_nextLine 51 rfl) ev3 ?_
            refine r_istore_n C (lv' := [(0, .ref (oad E 71)), (1, .int a1), (2, .int x2), (3, .int v3)]) [1, 2, 3, 0] (oDec_at oX12_nextLine 52 rfl) rfl (by decide) rfl ?_
            refine r_pick C [0, 3] rfl ?_
            exact (ih (n - 1) (by omega)).2 (t) v3  iv0 (by omega) (by omega) (by omega) (by first | (exfalso; omega) | exact oNm_of1 (x := x2) (y := v3) iv4 hp3 (by omega) (by omega) (by omega) (by omega) (by omega) | exact oNm_of2 (x := x2) (y := v3) iv4 hp3 (by omega) (by omega) (by omega) (by omega) (by omega)) (by omega)
          · skip
            refine r_iconst C (oDec_at oX12_nextLine 47 rfl) (v := k0) (by rw [qk0]; rfl) ?_
            exact r_zret C (n_bool (by omega)) (oDec_at oX12_nextLine 48 rfl) ⟨_, rfl, ⟨by omega, iv0, by omega, by omega, by intro h; omega⟩⟩
        · skip
          refine r_aload_n C (j := 0) (oDec_at oX12_nextLine 7 rfl) rfl rfl ?_
          refine r_getF (k := 39) (b := 99) C oCl12 rfl (by decide) flX12_96 rfl rfl rfl (oDec_at oX12_nextLine 8 rfl) ?_
          refine r_iload_n C (j := 2) (oDec_at oX12_nextLine 9 rfl) rfl rfl ?_
          refine r_dup2 C (oDec_at oX12_nextLine 10 rfl) rfl rfl ?_
          obtain ⟨v5, ev5⟩ : ∃ z : Int32, (t).1 99 x2.toNatClampNeg = z := ⟨_, rfl⟩
          have gv5 : (t.1 99 x2.toNatClampNeg).toInt = v5.toInt := congrArg Int32.toInt (ev5)
          have rv5 := n_rng v5
          refine r_iald (n := 48) (lo := (-2147483648)) (hi := 2147483647) C v5 rfl (by decide) rfl rfl ⟨by omega, by omega⟩ (by decide) ev5 rfl rfl (oDec_at oX12_nextLine 11 rfl) (fun _ _ => ?_)
          have hd := oNj_at iv4 hp3 (x := x2) (by omega) (by omega)
          refine r_iconst C (oDec_at oX12_nextLine 12 rfl) (v := k1) (by rw [qk1]; rfl) ?_
          refine r_pc C 19 rfl ?_
          obtain ⟨v6, ev6⟩ : ∃ z : Int32, z = v5 + k1 := ⟨_, rfl⟩
          have hv6 : v6.toInt = v5.toInt + k1.toInt := n_add ev6 (by omega) (by omega)
          refine r_iadd C v6 (oDec_at oX12_nextLine 13 rfl) ev6 ?_
          refine r_iast (n := 48) (lo := (-2147483648)) (hi := 2147483647) C rfl (by decide) rfl rfl ⟨by omega, by omega⟩ (by decide) rfl rfl rfl rfl (n_rng _) (oDec_at oX12_nextLine 14 rfl) ?_
          refine r_iload_n C (j := 2) (oDec_at oX12_nextLine 15 rfl) rfl rfl ?_
          refine r_if_le C 52 (oDec_at oX12_nextLine 16 rfl) (by decide) (fun cd7 => ?_) (fun cd7 => ?_)
          · skip
            refine r_aload_n C (j := 0) (oDec_at oX12_nextLine 36 rfl) rfl rfl ?_
            refine r_getF (k := 39) (b := 99) C oCl12 rfl (by decide) flX12_96 rfl rfl rfl (oDec_at oX12_nextLine 37 rfl) ?_
            refine r_iload_n C (j := 2) (oDec_at oX12_nextLine 38 rfl) rfl rfl ?_
            refine r_iald (n := 48) (lo := (-2147483648)) (hi := 2147483647) C v6 rfl (by decide) rfl rfl ⟨by omega, by omega⟩ (by decide) ((pI_self _ _ _ _)) rfl rfl (oDec_at oX12_nextLine 39 rfl) (fun _ _ => ?_)
            refine r_iload_n C (j := 1) (oDec_at oX12_nextLine 40 rfl) rfl rfl ?_
            refine r_icmp_gt C 65 (oDec_at oX12_nextLine 41 rfl) (by decide) (fun cd9 => ?_) (fun cd9 => ?_)
            · skip
              obtain ⟨v10, ev10⟩ : ∃ z : Int32, x2 + Int32.ofInt (-1) = z := ⟨_, rfl⟩
              have hv10 : v10.toInt = x2.toInt + (-1) := n_inc ev10 (by decide) (by omega) (by omega)
              refine r_iinc C (j := 2) (lv' := [(0, .ref (oad E 71)), (1, .int a1), (2, .int v10)]) v10 [1, 2, 0] (oDec_at oX12_nextLine 43 rfl) rfl ev10 (by decide) rfl ?_
              refine r_goto C (tgt := 7) (oDec_at oX12_nextLine 44 rfl) (by decide) ?_
              have lk11 : (((pI t 99 x2.toNatClampNeg v6)).1 71 38).toInt = (t.1 71 38).toInt := congrArg Int32.toInt ((pI_ne (a := 71) (b := 38) (c := 99) _ _ (Or.inl (by decide))))
              have lk12 : (((pI t 99 x2.toNatClampNeg v6)).1 71 42).toInt = (t.1 71 42).toInt := congrArg Int32.toInt ((pI_ne (a := 71) (b := 42) (c := 99) _ _ (Or.inl (by decide))))
              have lk13 : (((pI t 99 x2.toNatClampNeg v6)).1 71 38).toInt = (t.1 71 38).toInt := congrArg Int32.toInt ((pI_ne (a := 71) (b := 38) (c := 99) _ _ (Or.inl (by decide))))
              exact (ih (n - 1) (by omega)).1 ((pI t 99 x2.toNatClampNeg v6)) v10  (oLT_fr (oFr_oneI (q := 75) (m := 9999) rfl (by rfl)) rfl iv0) (by omega) (by omega) (by omega) (by first | exact oNj_1 (x := x2) (y := v10) iv4 (by omega) (by omega) | exact oNj_2 (x := x2) (y := v10) iv4 (by omega) (by omega) | exact (fun j hj => rfl)) (by omega)
            · skip
              refine r_goto C (tgt := 71) (oDec_at oX12_nextLine 42 rfl) (by decide) ?_
              refine r_iload_n C (j := 2) (oDec_at oX12_nextLine 45 rfl) rfl rfl ?_
              refine r_if_ge C 77 (oDec_at oX12_nextLine 46 rfl) (by decide) (fun cd14 => ?_) (fun cd14 => ?_)
              · skip
                refine r_iload_n C (j := 2) (oDec_at oX12_nextLine 49 rfl) rfl rfl ?_
                refine r_iconst C (oDec_at oX12_nextLine 50 rfl) (v := k1) (by rw [qk1]; rfl) ?_
                obtain ⟨v15, ev15⟩ : ∃ z : Int32, z = x2 + k1 := ⟨_, rfl⟩
                have hv15 : v15.toInt = x2.toInt + k1.toInt := n_add ev15 (by omega) (by omega)
                refine r_iadd C v15 (oDec_at oX12_nextLine 51 rfl) ev15 ?_
                refine r_istore_n C (lv' := [(0, .ref (oad E 71)), (1, .int a1), (2, .int x2), (3, .int v15)]) [1, 2, 3, 0] (oDec_at oX12_nextLine 52 rfl) rfl (by decide) rfl ?_
                have lk16 : (((pI t 99 x2.toNatClampNeg v6)).1 71 38).toInt = (t.1 71 38).toInt := congrArg Int32.toInt ((pI_ne (a := 71) (b := 38) (c := 99) _ _ (Or.inl (by decide))))
                have lk17 : (((pI t 99 x2.toNatClampNeg v6)).1 71 42).toInt = (t.1 71 42).toInt := congrArg Int32.toInt ((pI_ne (a := 71) (b := 42) (c := 99) _ _ (Or.inl (by decide))))
                have lk18 : (((pI t 99 x2.toNatClampNeg v6)).1 71 38).toInt = (t.1 71 38).toInt := congrArg Int32.toInt ((pI_ne (a := 71) (b := 38) (c := 99) _ _ (Or.inl (by decide))))
                refine r_pick C [0, 3] rfl ?_
                exact (ih (n - 1) (by omega)).2 ((pI t 99 x2.toNatClampNeg v6)) v15  (oLT_fr (oFr_oneI (q := 75) (m := 9999) rfl (by rfl)) rfl iv0) (by omega) (by omega) (by omega) (by first | (exfalso; omega) | exact oNm_of1 (x := x2) (y := v15) iv4 hp3 (by omega) (by omega) (by omega) (by omega) (by omega) | exact oNm_of2 (x := x2) (y := v15) iv4 hp3 (by omega) (by omega) (by omega) (by omega) (by omega)) (by omega)
              · skip
                refine r_iconst C (oDec_at oX12_nextLine 47 rfl) (v := k0) (by rw [qk0]; rfl) ?_
                have lk19 : (((pI t 99 x2.toNatClampNeg v6)).1 71 38).toInt = (t.1 71 38).toInt := congrArg Int32.toInt ((pI_ne (a := 71) (b := 38) (c := 99) _ _ (Or.inl (by decide))))
                have lk20 : (((pI t 99 x2.toNatClampNeg v6)).1 71 42).toInt = (t.1 71 42).toInt := congrArg Int32.toInt ((pI_ne (a := 71) (b := 42) (c := 99) _ _ (Or.inl (by decide))))
                have lk21 : (((pI t 99 x2.toNatClampNeg v6)).1 71 38).toInt = (t.1 71 38).toInt := congrArg Int32.toInt ((pI_ne (a := 71) (b := 38) (c := 99) _ _ (Or.inl (by decide))))
                exact r_zret C (n_bool (by omega)) (oDec_at oX12_nextLine 48 rfl) ⟨_, rfl, ⟨by omega, (oLT_fr (oFr_oneI (q := 75) (m := 9999) rfl (by rfl)) rfl iv0), by omega, by omega, by intro h; omega⟩⟩
          · skip
            refine r_aload_n C (j := 0) (oDec_at oX12_nextLine 17 rfl) rfl rfl ?_
            refine r_getF (k := 39) (b := 99) C oCl12 rfl (by decide) flX12_96 rfl rfl rfl (oDec_at oX12_nextLine 18 rfl) ?_
            refine r_iload_n C (j := 2) (oDec_at oX12_nextLine 19 rfl) rfl rfl ?_
            refine r_iald (n := 48) (lo := (-2147483648)) (hi := 2147483647) C v6 rfl (by decide) rfl rfl ⟨by omega, by omega⟩ (by decide) ((pI_self _ _ _ _)) rfl rfl (oDec_at oX12_nextLine 20 rfl) (fun _ _ => ?_)
            refine r_aload_n C (j := 0) (oDec_at oX12_nextLine 21 rfl) rfl rfl ?_
            refine r_getF (k := 39) (b := 99) C oCl12 rfl (by decide) flX12_96 rfl rfl rfl (oDec_at oX12_nextLine 22 rfl) ?_
            refine r_pc C 35 rfl ?_
            refine r_iload_n C (j := 2) (oDec_at oX12_nextLine 23 rfl) rfl rfl ?_
            refine r_iconst C (oDec_at oX12_nextLine 24 rfl) (v := k1) (by rw [qk1]; rfl) ?_
            obtain ⟨v23, ev23⟩ : ∃ z : Int32, z = x2 - k1 := ⟨_, rfl⟩
            have hv23 : v23.toInt = x2.toInt - k1.toInt := n_sub ev23 (by omega) (by omega)
            refine r_isub C v23 (oDec_at oX12_nextLine 25 rfl) ev23 ?_
            obtain ⟨v25, ev25⟩ : ∃ z : Int32, ((pI t 99 x2.toNatClampNeg v6)).1 99 v23.toNatClampNeg = z := ⟨_, rfl⟩
            have gv25 : (((pI t 99 x2.toNatClampNeg v6)).1 99 v23.toNatClampNeg).toInt = v25.toInt := congrArg Int32.toInt (ev25)
            have rv25 := n_rng v25
            refine r_iald (n := 48) (lo := (-2147483648)) (hi := 2147483647) C v25 rfl (by decide) rfl rfl ⟨by omega, by omega⟩ (by decide) ev25 rfl rfl (oDec_at oX12_nextLine 26 rfl) (fun _ _ => ?_)
            refine r_icmp_ne C 52 (oDec_at oX12_nextLine 27 rfl) (by decide) (fun cd26 => ?_) (fun cd26 => ?_)
            · skip
              refine r_aload_n C (j := 0) (oDec_at oX12_nextLine 36 rfl) rfl rfl ?_
              refine r_getF (k := 39) (b := 99) C oCl12 rfl (by decide) flX12_96 rfl rfl rfl (oDec_at oX12_nextLine 37 rfl) ?_
              refine r_iload_n C (j := 2) (oDec_at oX12_nextLine 38 rfl) rfl rfl ?_
              refine r_iald (n := 48) (lo := (-2147483648)) (hi := 2147483647) C v6 rfl (by decide) rfl rfl ⟨by omega, by omega⟩ (by decide) ((pI_self _ _ _ _)) rfl rfl (oDec_at oX12_nextLine 39 rfl) (fun _ _ => ?_)
              refine r_iload_n C (j := 1) (oDec_at oX12_nextLine 40 rfl) rfl rfl ?_
              refine r_icmp_gt C 65 (oDec_at oX12_nextLine 41 rfl) (by decide) (fun cd28 => ?_) (fun cd28 => ?_)
              · skip
                obtain ⟨v29, ev29⟩ : ∃ z : Int32, x2 + Int32.ofInt (-1) = z := ⟨_, rfl⟩
                have hv29 : v29.toInt = x2.toInt + (-1) := n_inc ev29 (by decide) (by omega) (by omega)
                refine r_iinc C (j := 2) (lv' := [(0, .ref (oad E 71)), (1, .int a1), (2, .int v29)]) v29 [1, 2, 0] (oDec_at oX12_nextLine 43 rfl) rfl ev29 (by decide) rfl ?_
                refine r_goto C (tgt := 7) (oDec_at oX12_nextLine 44 rfl) (by decide) ?_
                have lk30 : (((pI t 99 x2.toNatClampNeg v6)).1 71 38).toInt = (t.1 71 38).toInt := congrArg Int32.toInt ((pI_ne (a := 71) (b := 38) (c := 99) _ _ (Or.inl (by decide))))
                have lk31 : (((pI t 99 x2.toNatClampNeg v6)).1 71 42).toInt = (t.1 71 42).toInt := congrArg Int32.toInt ((pI_ne (a := 71) (b := 42) (c := 99) _ _ (Or.inl (by decide))))
                have lk32 : (((pI t 99 x2.toNatClampNeg v6)).1 71 38).toInt = (t.1 71 38).toInt := congrArg Int32.toInt ((pI_ne (a := 71) (b := 38) (c := 99) _ _ (Or.inl (by decide))))
                exact (ih (n - 1) (by omega)).1 ((pI t 99 x2.toNatClampNeg v6)) v29  (oLT_fr (oFr_oneI (q := 75) (m := 9999) rfl (by rfl)) rfl iv0) (by omega) (by omega) (by omega) (by first | exact oNj_1 (x := x2) (y := v29) iv4 (by omega) (by omega) | exact oNj_2 (x := x2) (y := v29) iv4 (by omega) (by omega) | exact (fun j hj => rfl)) (by omega)
              · skip
                refine r_goto C (tgt := 71) (oDec_at oX12_nextLine 42 rfl) (by decide) ?_
                refine r_iload_n C (j := 2) (oDec_at oX12_nextLine 45 rfl) rfl rfl ?_
                refine r_if_ge C 77 (oDec_at oX12_nextLine 46 rfl) (by decide) (fun cd33 => ?_) (fun cd33 => ?_)
                · skip
                  refine r_iload_n C (j := 2) (oDec_at oX12_nextLine 49 rfl) rfl rfl ?_
                  refine r_iconst C (oDec_at oX12_nextLine 50 rfl) (v := k1) (by rw [qk1]; rfl) ?_
                  obtain ⟨v34, ev34⟩ : ∃ z : Int32, z = x2 + k1 := ⟨_, rfl⟩
                  have hv34 : v34.toInt = x2.toInt + k1.toInt := n_add ev34 (by omega) (by omega)
                  refine r_iadd C v34 (oDec_at oX12_nextLine 51 rfl) ev34 ?_
                  refine r_istore_n C (lv' := [(0, .ref (oad E 71)), (1, .int a1), (2, .int x2), (3, .int v34)]) [1, 2, 3, 0] (oDec_at oX12_nextLine 52 rfl) rfl (by decide) rfl ?_
                  have lk35 : (((pI t 99 x2.toNatClampNeg v6)).1 71 38).toInt = (t.1 71 38).toInt := congrArg Int32.toInt ((pI_ne (a := 71) (b := 38) (c := 99) _ _ (Or.inl (by decide))))
                  have lk36 : (((pI t 99 x2.toNatClampNeg v6)).1 71 42).toInt = (t.1 71 42).toInt := congrArg Int32.toInt ((pI_ne (a := 71) (b := 42) (c := 99) _ _ (Or.inl (by decide))))
                  have lk37 : (((pI t 99 x2.toNatClampNeg v6)).1 71 38).toInt = (t.1 71 38).toInt := congrArg Int32.toInt ((pI_ne (a := 71) (b := 38) (c := 99) _ _ (Or.inl (by decide))))
                  refine r_pick C [0, 3] rfl ?_
                  exact (ih (n - 1) (by omega)).2 ((pI t 99 x2.toNatClampNeg v6)) v34  (oLT_fr (oFr_oneI (q := 75) (m := 9999) rfl (by rfl)) rfl iv0) (by omega) (by omega) (by omega) (by first | (exfalso; omega) | exact oNm_of1 (x := x2) (y := v34) iv4 hp3 (by omega) (by omega) (by omega) (by omega) (by omega) | exact oNm_of2 (x := x2) (y := v34) iv4 hp3 (by omega) (by omega) (by omega) (by omega) (by omega)) (by omega)
                · skip
                  refine r_iconst C (oDec_at oX12_nextLine 47 rfl) (v := k0) (by rw [qk0]; rfl) ?_
                  have lk38 : (((pI t 99 x2.toNatClampNeg v6)).1 71 38).toInt = (t.1 71 38).toInt := congrArg Int32.toInt ((pI_ne (a := 71) (b := 38) (c := 99) _ _ (Or.inl (by decide))))
                  have lk39 : (((pI t 99 x2.toNatClampNeg v6)).1 71 42).toInt = (t.1 71 42).toInt := congrArg Int32.toInt ((pI_ne (a := 71) (b := 42) (c := 99) _ _ (Or.inl (by decide))))
                  have lk40 : (((pI t 99 x2.toNatClampNeg v6)).1 71 38).toInt = (t.1 71 38).toInt := congrArg Int32.toInt ((pI_ne (a := 71) (b := 38) (c := 99) _ _ (Or.inl (by decide))))
                  exact r_zret C (n_bool (by omega)) (oDec_at oX12_nextLine 48 rfl) ⟨_, rfl, ⟨by omega, (oLT_fr (oFr_oneI (q := 75) (m := 9999) rfl (by rfl)) rfl iv0), by omega, by omega, by intro h; omega⟩⟩
            · skip
              refine r_aload_n C (j := 0) (oDec_at oX12_nextLine 28 rfl) rfl rfl ?_
              refine r_getF (k := 39) (b := 99) C oCl12 rfl (by decide) flX12_96 rfl rfl rfl (oDec_at oX12_nextLine 29 rfl) ?_
              refine r_iload_n C (j := 2) (oDec_at oX12_nextLine 30 rfl) rfl rfl ?_
              refine r_dup2 C (oDec_at oX12_nextLine 31 rfl) rfl rfl ?_
              refine r_iald (n := 48) (lo := (-2147483648)) (hi := 2147483647) C v6 rfl (by decide) rfl rfl ⟨by omega, by omega⟩ (by decide) ((pI_self _ _ _ _)) rfl rfl (oDec_at oX12_nextLine 32 rfl) (fun _ _ => ?_)
              refine r_iconst C (oDec_at oX12_nextLine 33 rfl) (v := k1) (by rw [qk1]; rfl) ?_
              refine r_pc C 50 rfl ?_
              obtain ⟨v42, ev42⟩ : ∃ z : Int32, z = v6 + k1 := ⟨_, rfl⟩
              have hv42 : v42.toInt = v6.toInt + k1.toInt := n_add ev42 (by omega) (by omega)
              refine r_iadd C v42 (oDec_at oX12_nextLine 34 rfl) ev42 ?_
              refine r_iast (n := 48) (lo := (-2147483648)) (hi := 2147483647) C rfl (by decide) rfl rfl ⟨by omega, by omega⟩ (by decide) rfl rfl rfl rfl (n_rng _) (oDec_at oX12_nextLine 35 rfl) ?_
              refine r_aload_n C (j := 0) (oDec_at oX12_nextLine 36 rfl) rfl rfl ?_
              refine r_getF (k := 39) (b := 99) C oCl12 rfl (by decide) flX12_96 rfl rfl rfl (oDec_at oX12_nextLine 37 rfl) ?_
              refine r_iload_n C (j := 2) (oDec_at oX12_nextLine 38 rfl) rfl rfl ?_
              refine r_iald (n := 48) (lo := (-2147483648)) (hi := 2147483647) C v42 rfl (by decide) rfl rfl ⟨by omega, by omega⟩ (by decide) ((pI_self _ _ _ _)) rfl rfl (oDec_at oX12_nextLine 39 rfl) (fun _ _ => ?_)
              refine r_pc C 58 rfl ?_
              refine r_iload_n C (j := 1) (oDec_at oX12_nextLine 40 rfl) rfl rfl ?_
              refine r_icmp_gt C 65 (oDec_at oX12_nextLine 41 rfl) (by decide) (fun cd44 => ?_) (fun cd44 => ?_)
              · skip
                obtain ⟨v45, ev45⟩ : ∃ z : Int32, x2 + Int32.ofInt (-1) = z := ⟨_, rfl⟩
                have hv45 : v45.toInt = x2.toInt + (-1) := n_inc ev45 (by decide) (by omega) (by omega)
                refine r_iinc C (j := 2) (lv' := [(0, .ref (oad E 71)), (1, .int a1), (2, .int v45)]) v45 [1, 2, 0] (oDec_at oX12_nextLine 43 rfl) rfl ev45 (by decide) rfl ?_
                refine r_goto C (tgt := 7) (oDec_at oX12_nextLine 44 rfl) (by decide) ?_
                have lk46 : (((pI (pI t 99 x2.toNatClampNeg v6) 99 x2.toNatClampNeg v42)).1 71 38).toInt = (t.1 71 38).toInt := congrArg Int32.toInt (((pI_ne (a := 71) (b := 38) (c := 99) _ _ (Or.inl (by decide)))).trans ((pI_ne (a := 71) (b := 38) (c := 99) _ _ (Or.inl (by decide)))))
                have lk47 : (((pI (pI t 99 x2.toNatClampNeg v6) 99 x2.toNatClampNeg v42)).1 71 42).toInt = (t.1 71 42).toInt := congrArg Int32.toInt (((pI_ne (a := 71) (b := 42) (c := 99) _ _ (Or.inl (by decide)))).trans ((pI_ne (a := 71) (b := 42) (c := 99) _ _ (Or.inl (by decide)))))
                have lk48 : (((pI (pI t 99 x2.toNatClampNeg v6) 99 x2.toNatClampNeg v42)).1 71 38).toInt = (t.1 71 38).toInt := congrArg Int32.toInt (((pI_ne (a := 71) (b := 38) (c := 99) _ _ (Or.inl (by decide)))).trans ((pI_ne (a := 71) (b := 38) (c := 99) _ _ (Or.inl (by decide)))))
                exact (ih (n - 1) (by omega)).1 ((pI (pI t 99 x2.toNatClampNeg v6) 99 x2.toNatClampNeg v42)) v45  (oLT_fr (oFr_oneI (q := 75) (m := 9999) rfl (by rfl)) rfl (oLT_fr (oFr_oneI (q := 75) (m := 9999) rfl (by rfl)) rfl iv0)) (by omega) (by omega) (by omega) (by first | exact oNj_1 (x := x2) (y := v45) iv4 (by omega) (by omega) | exact oNj_2 (x := x2) (y := v45) iv4 (by omega) (by omega) | exact (fun j hj => rfl)) (by omega)
              · skip
                refine r_goto C (tgt := 71) (oDec_at oX12_nextLine 42 rfl) (by decide) ?_
                refine r_iload_n C (j := 2) (oDec_at oX12_nextLine 45 rfl) rfl rfl ?_
                refine r_if_ge C 77 (oDec_at oX12_nextLine 46 rfl) (by decide) (fun cd49 => ?_) (fun cd49 => ?_)
                · skip
                  refine r_iload_n C (j := 2) (oDec_at oX12_nextLine 49 rfl) rfl rfl ?_
                  refine r_iconst C (oDec_at oX12_nextLine 50 rfl) (v := k1) (by rw [qk1]; rfl) ?_
                  obtain ⟨v50, ev50⟩ : ∃ z : Int32, z = x2 + k1 := ⟨_, rfl⟩
                  have hv50 : v50.toInt = x2.toInt + k1.toInt := n_add ev50 (by omega) (by omega)
                  refine r_iadd C v50 (oDec_at oX12_nextLine 51 rfl) ev50 ?_
                  refine r_istore_n C (lv' := [(0, .ref (oad E 71)), (1, .int a1), (2, .int x2), (3, .int v50)]) [1, 2, 3, 0] (oDec_at oX12_nextLine 52 rfl) rfl (by decide) rfl ?_
                  have lk51 : (((pI (pI t 99 x2.toNatClampNeg v6) 99 x2.toNatClampNeg v42)).1 71 38).toInt = (t.1 71 38).toInt := congrArg Int32.toInt (((pI_ne (a := 71) (b := 38) (c := 99) _ _ (Or.inl (by decide)))).trans ((pI_ne (a := 71) (b := 38) (c := 99) _ _ (Or.inl (by decide)))))
                  have lk52 : (((pI (pI t 99 x2.toNatClampNeg v6) 99 x2.toNatClampNeg v42)).1 71 42).toInt = (t.1 71 42).toInt := congrArg Int32.toInt (((pI_ne (a := 71) (b := 42) (c := 99) _ _ (Or.inl (by decide)))).trans ((pI_ne (a := 71) (b := 42) (c := 99) _ _ (Or.inl (by decide)))))
                  have lk53 : (((pI (pI t 99 x2.toNatClampNeg v6) 99 x2.toNatClampNeg v42)).1 71 38).toInt = (t.1 71 38).toInt := congrArg Int32.toInt (((pI_ne (a := 71) (b := 38) (c := 99) _ _ (Or.inl (by decide)))).trans ((pI_ne (a := 71) (b := 38) (c := 99) _ _ (Or.inl (by decide)))))
                  refine r_pick C [0, 3] rfl ?_
                  exact (ih (n - 1) (by omega)).2 ((pI (pI t 99 x2.toNatClampNeg v6) 99 x2.toNatClampNeg v42)) v50  (oLT_fr (oFr_oneI (q := 75) (m := 9999) rfl (by rfl)) rfl (oLT_fr (oFr_oneI (q := 75) (m := 9999) rfl (by rfl)) rfl iv0)) (by omega) (by omega) (by omega) (by first | (exfalso; omega) | exact oNm_of1 (x := x2) (y := v50) iv4 hp3 (by omega) (by omega) (by omega) (by omega) (by omega) | exact oNm_of2 (x := x2) (y := v50) iv4 hp3 (by omega) (by omega) (by omega) (by omega) (by omega)) (by omega)
                · skip
                  refine r_iconst C (oDec_at oX12_nextLine 47 rfl) (v := k0) (by rw [qk0]; rfl) ?_
                  have lk54 : (((pI (pI t 99 x2.toNatClampNeg v6) 99 x2.toNatClampNeg v42)).1 71 38).toInt = (t.1 71 38).toInt := congrArg Int32.toInt (((pI_ne (a := 71) (b := 38) (c := 99) _ _ (Or.inl (by decide)))).trans ((pI_ne (a := 71) (b := 38) (c := 99) _ _ (Or.inl (by decide)))))
                  have lk55 : (((pI (pI t 99 x2.toNatClampNeg v6) 99 x2.toNatClampNeg v42)).1 71 42).toInt = (t.1 71 42).toInt := congrArg Int32.toInt (((pI_ne (a := 71) (b := 42) (c := 99) _ _ (Or.inl (by decide)))).trans ((pI_ne (a := 71) (b := 42) (c := 99) _ _ (Or.inl (by decide)))))
                  have lk56 : (((pI (pI t 99 x2.toNatClampNeg v6) 99 x2.toNatClampNeg v42)).1 71 38).toInt = (t.1 71 38).toInt := congrArg Int32.toInt (((pI_ne (a := 71) (b := 38) (c := 99) _ _ (Or.inl (by decide)))).trans ((pI_ne (a := 71) (b := 38) (c := 99) _ _ (Or.inl (by decide)))))
                  exact r_zret C (n_bool (by omega)) (oDec_at oX12_nextLine 48 rfl) ⟨_, rfl, ⟨by omega, (oLT_fr (oFr_oneI (q := 75) (m := 9999) rfl (by rfl)) rfl (oLT_fr (oFr_oneI (q := 75) (m := 9999) rfl (by rfl)) rfl iv0)), by omega, by omega, by intro h; omega⟩⟩
      · intro t x3  iv0 iv1 iv2 iv3 iv4 hmu
        have rx3 := n_rng x3
        refine r_iload_n C (j := 1) (oDec_at oX12_nextLine 53 rfl) rfl rfl ?_
        refine r_aload_n C (j := 0) (oDec_at oX12_nextLine 54 rfl) rfl rfl ?_
        obtain ⟨v57, ev57⟩ : ∃ z : Int32, (t).1 71 38 = z := ⟨_, rfl⟩
        have gv57 : (t.1 71 38).toInt = v57.toInt := congrArg Int32.toInt (ev57)
        refine r_geti (k := 38) (lo := 0) (hi := 24) C v57 oCl12 rfl (by decide) flX12_261 rfl rfl (ev57) rfl rfl (oDec_at oX12_nextLine 55 rfl) (fun b58 b58h => ?_)
        refine r_icmp_ge C 117 (oDec_at oX12_nextLine 56 rfl) (by decide) (fun cd59 => ?_) (fun cd59 => ?_)
        · skip
          have hq60 : oDg (t) := oNm_dg iv4 (by omega)
          have hq61 : oVg v (t) := oNm_vg iv4 (by omega) (by omega) hp3 hp4
          refine r_aload_n C (j := 0) (oDec_at oX12_nextLine 73 rfl) rfl rfl ?_
          refine r_callVv C oCl12 rfl miX12_lies mlX12_264 (ct_X12_lies l E (t)  iv0) (by decide) rfl rfl rfl (Nat.le_of_ble_eq_true rfl) (oDec_at oX12_nextLine 74 rfl) (fun u62 pu62 fu62 => ?_)
          try dsimp only at pu62
          obtain ⟨pu62_0, pu62_1⟩ := pu62
          have lu64 : ((u62).1 71 38).toInt = v57.toInt := congrArg Int32.toInt (((fu62 71 38 rfl).1).trans (ev57))
          refine r_iconst C (oDec_at oX12_nextLine 75 rfl) (v := k1) (by rw [qk1]; rfl) ?_
          have lk65 : ((u62).1 71 38).toInt = v57.toInt := congrArg Int32.toInt (((fu62 71 38 rfl).1).trans (ev57))
          have lk66 : ((u62).1 71 38).toInt = v57.toInt := congrArg Int32.toInt (((fu62 71 38 rfl).1).trans (ev57))
          exact r_zret C (n_bool (by omega)) (oDec_at oX12_nextLine 76 rfl) ⟨_, rfl, ⟨by omega, pu62_0, by omega, by omega, fun _ => ⟨(oDg_fr fu62 rfl hq60), (oVg_fr fu62 rfl hq61)⟩⟩⟩
        · skip
          refine r_aload_n C (j := 0) (oDec_at oX12_nextLine 57 rfl) rfl rfl ?_
          refine r_getF (k := 39) (b := 99) C oCl12 rfl (by decide) flX12_96 rfl rfl rfl (oDec_at oX12_nextLine 58 rfl) ?_
          refine r_iload_n C (j := 1) (oDec_at oX12_nextLine 59 rfl) rfl rfl ?_
          refine r_aload_n C (j := 0) (oDec_at oX12_nextLine 60 rfl) rfl rfl ?_
          refine r_getF (k := 39) (b := 99) C oCl12 rfl (by decide) flX12_96 rfl rfl rfl (oDec_at oX12_nextLine 61 rfl) ?_
          refine r_iload_n C (j := 1) (oDec_at oX12_nextLine 62 rfl) rfl rfl ?_
          refine r_pc C 99 rfl ?_
          refine r_iconst C (oDec_at oX12_nextLine 63 rfl) (v := k1) (by rw [qk1]; rfl) ?_
          obtain ⟨v67, ev67⟩ : ∃ z : Int32, z = x3 - k1 := ⟨_, rfl⟩
          have hv67 : v67.toInt = x3.toInt - k1.toInt := n_sub ev67 (by omega) (by omega)
          refine r_isub C v67 (oDec_at oX12_nextLine 64 rfl) ev67 ?_
          obtain ⟨v69, ev69⟩ : ∃ z : Int32, (t).1 99 v67.toNatClampNeg = z := ⟨_, rfl⟩
          have gv69 : (t.1 99 v67.toNatClampNeg).toInt = v69.toInt := congrArg Int32.toInt (ev69)
          have rv69 := n_rng v69
          refine r_iald (n := 48) (lo := (-2147483648)) (hi := 2147483647) C v69 rfl (by decide) rfl rfl ⟨by omega, by omega⟩ (by decide) ev69 rfl rfl (oDec_at oX12_nextLine 65 rfl) (fun _ _ => ?_)
          refine r_if_ne C 109 (oDec_at oX12_nextLine 66 rfl) (by decide) (fun cd70 => ?_) (fun cd70 => ?_)
          · skip
            refine r_iconst C (oDec_at oX12_nextLine 69 rfl) (v := k0) (by rw [qk0]; rfl) ?_
            refine r_iast (n := 48) (lo := (-2147483648)) (hi := 2147483647) C rfl (by decide) rfl rfl ⟨by omega, by omega⟩ (by decide) rfl rfl rfl rfl (n_rng _) (oDec_at oX12_nextLine 70 rfl) ?_
            obtain ⟨v71, ev71⟩ : ∃ z : Int32, x3 + Int32.ofInt 1 = z := ⟨_, rfl⟩
            have hv71 : v71.toInt = x3.toInt + 1 := n_inc ev71 (by decide) (by omega) (by omega)
            refine r_iinc C (j := 1) (lv' := [(0, .ref (oad E 71)), (3, .int v71)]) v71 [1, 0] (oDec_at oX12_nextLine 71 rfl) rfl ev71 (by decide) rfl ?_
            refine r_goto C (tgt := 81) (oDec_at oX12_nextLine 72 rfl) (by decide) ?_
            have lk72 : (((pI t 99 x3.toNatClampNeg k0)).1 71 38).toInt = v57.toInt := congrArg Int32.toInt (((pI_ne (a := 71) (b := 38) (c := 99) _ _ (Or.inl (by decide)))).trans (ev57))
            have lk73 : (((pI t 99 x3.toNatClampNeg k0)).1 71 42).toInt = (t.1 71 42).toInt := congrArg Int32.toInt ((pI_ne (a := 71) (b := 42) (c := 99) _ _ (Or.inl (by decide))))
            have lk74 : (((pI t 99 x3.toNatClampNeg k0)).1 71 38).toInt = v57.toInt := congrArg Int32.toInt (((pI_ne (a := 71) (b := 38) (c := 99) _ _ (Or.inl (by decide)))).trans (ev57))
            exact (ih (n - 1) (by omega)).2 ((pI t 99 x3.toNatClampNeg k0)) v71  (oLT_fr (oFr_oneI (q := 75) (m := 9999) rfl (by rfl)) rfl iv0) (by omega) (by omega) (by omega) (by first | (exfalso; omega) | exact oNm_step (x := x3) (y := v71) iv4 (by omega) (by omega) (by omega)) (by omega)
          · skip
            refine r_iconst C (oDec_at oX12_nextLine 67 rfl) (v := k1) (by rw [qk1]; rfl) ?_
            refine r_goto C (tgt := 110) (oDec_at oX12_nextLine 68 rfl) (by decide) ?_
            refine r_iast (n := 48) (lo := (-2147483648)) (hi := 2147483647) C rfl (by decide) rfl rfl ⟨by omega, by omega⟩ (by decide) rfl rfl rfl rfl (n_rng _) (oDec_at oX12_nextLine 70 rfl) ?_
            obtain ⟨v75, ev75⟩ : ∃ z : Int32, x3 + Int32.ofInt 1 = z := ⟨_, rfl⟩
            have hv75 : v75.toInt = x3.toInt + 1 := n_inc ev75 (by decide) (by omega) (by omega)
            refine r_iinc C (j := 1) (lv' := [(0, .ref (oad E 71)), (3, .int v75)]) v75 [1, 0] (oDec_at oX12_nextLine 71 rfl) rfl ev75 (by decide) rfl ?_
            refine r_goto C (tgt := 81) (oDec_at oX12_nextLine 72 rfl) (by decide) ?_
            have lk76 : (((pI t 99 x3.toNatClampNeg k1)).1 71 38).toInt = v57.toInt := congrArg Int32.toInt (((pI_ne (a := 71) (b := 38) (c := 99) _ _ (Or.inl (by decide)))).trans (ev57))
            have lk77 : (((pI t 99 x3.toNatClampNeg k1)).1 71 42).toInt = (t.1 71 42).toInt := congrArg Int32.toInt ((pI_ne (a := 71) (b := 42) (c := 99) _ _ (Or.inl (by decide))))
            have lk78 : (((pI t 99 x3.toNatClampNeg k1)).1 71 38).toInt = v57.toInt := congrArg Int32.toInt (((pI_ne (a := 71) (b := 38) (c := 99) _ _ (Or.inl (by decide)))).trans (ev57))
            exact (ih (n - 1) (by omega)).2 ((pI t 99 x3.toNatClampNeg k1)) v75  (oLT_fr (oFr_oneI (q := 75) (m := 9999) rfl (by rfl)) rfl iv0) (by omega) (by omega) (by omega) (by first | (exfalso; omega) | exact oNm_step (x := x3) (y := v75) iv4 (by omega) (by omega) (by omega)) (by omega)
  refine r_aload_n C (j := 0) (oDec_at oX12_nextLine 0 rfl) rfl rfl ?_
  obtain ⟨v79, ev79⟩ : ∃ z : Int32, (s).1 71 38 = z := ⟨_, rfl⟩
  have gv79 : (s.1 71 38).toInt = v79.toInt := congrArg Int32.toInt (ev79)
  refine r_geti (k := 38) (lo := 0) (hi := 24) C v79 oCl12 rfl (by decide) flX12_261 rfl rfl (ev79) rfl rfl (oDec_at oX12_nextLine 1 rfl) (fun b80 b80h => ?_)
  refine r_iconst C (oDec_at oX12_nextLine 2 rfl) (v := k1) (by rw [qk1]; rfl) ?_
  obtain ⟨v81, ev81⟩ : ∃ z : Int32, z = v79 - k1 := ⟨_, rfl⟩
  have hv81 : v81.toInt = v79.toInt - k1.toInt := n_sub ev81 (by omega) (by omega)
  refine r_isub C v81 (oDec_at oX12_nextLine 3 rfl) ev81 ?_
  refine r_istore_n C (lv' := [(0, .ref (oad E 71)), (1, .int a1), (2, .int v81)]) [1, 2, 0] (oDec_at oX12_nextLine 4 rfl) rfl (by decide) rfl ?_
  have lk82 : ((s).1 71 38).toInt = v79.toInt := congrArg Int32.toInt (ev79)
  have lk83 : ((s).1 71 38).toInt = v79.toInt := congrArg Int32.toInt (ev79)
  exact (key (v81.toInt + 100).toNat).1 (s) v81  hp1 (by omega) (by omega) (by omega) (by first | exact (fun j hj => rfl)) (by omega)
set_option maxHeartbeats 4000000 in
set_option maxRecDepth 100000 in
theorem ct_X12_noteTold (l : Launch) (E : oE) (s : oS)   (hp0 : oLT s) (hp1 : (s.1 71 37).toInt ≤ 24) (hp2 : oDT s) : oMet l 5 yX12_noteTold cX12_noteTold 6 none [(12, 2), (12, 4), (12, 5), (12, 6), (12, 9), (12, 37), (75, 9999), (76, 9999)] E s [.ref (oad E 71)] (oPv (fun u => (oLT u) ∧ ((u.1 71 37).toInt ≤ 24) ∧ (oDT u) ∧ ((u.1 71 5).toInt = 0 → ((s.1 71 5).toInt = 0 ∧ (u.1 71 37).toInt = (s.1 71 37).toInt + 1)) ∧ ((s.1 71 37).toInt ≤ (u.1 71 37).toInt))) := by
  refine oMet.of (lv := [(0, .ref (oad E 71))]) (by decide +kernel) (Nat.le_of_ble_eq_true rfl) rfl (fun J C hT => ?_)
  have C : oC l 5 cX12_noteTold RX12 6 none [(12, 2), (12, 4), (12, 5), (12, 6), (12, 9), (12, 37), (75, 9999), (76, 9999)] E s (oPv (fun u => (oLT u) ∧ ((u.1 71 37).toInt ≤ 24) ∧ (oDT u) ∧ ((u.1 71 5).toInt = 0 → ((s.1 71 5).toInt = 0 ∧ (u.1 71 37).toInt = (s.1 71 37).toInt + 1)) ∧ ((s.1 71 37).toInt ≤ (u.1 71 37).toInt))) J := C
  obtain ⟨km1, qkm1⟩ : ∃ z : Int32, z = (-1) := ⟨_, rfl⟩
  have ekm1 : km1.toInt = (-1) := by rw [qkm1]; rfl
  obtain ⟨k0, qk0⟩ : ∃ z : Int32, z = 0 := ⟨_, rfl⟩
  have ek0 : k0.toInt = 0 := by rw [qk0]; rfl
  obtain ⟨k1, qk1⟩ : ∃ z : Int32, z = 1 := ⟨_, rfl⟩
  have ek1 : k1.toInt = 1 := by rw [qk1]; rfl
  obtain ⟨k2, qk2⟩ : ∃ z : Int32, z = 2 := ⟨_, rfl⟩
  have ek2 : k2.toInt = 2 := by rw [qk2]; rfl
  obtain ⟨k5, qk5⟩ : ∃ z : Int32, z = 5 := ⟨_, rfl⟩
  have ek5 : k5.toInt = 5 := by rw [qk5]; rfl
  obtain ⟨k16, qk16⟩ : ∃ z : Int32, z = 16 := ⟨_, rfl⟩
  have ek16 : k16.toInt = 16 := by rw [qk16]; rfl
  obtain ⟨k24, qk24⟩ : ∃ z : Int32, z = 24 := ⟨_, rfl⟩
  have ek24 : k24.toInt = 24 := by rw [qk24]; rfl
  obtain ⟨k28, qk28⟩ : ∃ z : Int32, z = 28 := ⟨_, rfl⟩
  have ek28 : k28.toInt = 28 := by rw [qk28]; rfl
  obtain ⟨k59, qk59⟩ : ∃ z : Int32, z = 59 := ⟨_, rfl⟩
  have ek59 : k59.toInt = 59 := by rw [qk59]; rfl
  obtain ⟨k96, qk96⟩ : ∃ z : Int32, z = 96 := ⟨_, rfl⟩
  have ek96 : k96.toInt = 96 := by rw [qk96]; rfl
  have htn : (0 : Int) ≤ (s.1 71 38).toInt ∧ (s.1 71 38).toInt ≤ 24 := hT.1 71 38
  have hta : (0 : Int) ≤ (s.1 71 77).toInt ∧ (s.1 71 77).toInt ≤ 24 := hT.1 71 77
  have key : ∀ n : Nat, (∀ (t : oS) (x1 : Int32) (x3 : Int32) (x4 : Int32) (x5 : Int32), (oLT t) → (oDT t) → (24 ≤ x5.toInt ∧ x5.toInt ≤ x1.toInt) → (x1.toInt = 24 + (t.1 71 37).toInt) → (x1.toInt ≤ 47) → (0 ≤ x3.toInt ∧ x3.toInt ≤ 9999) → ((t.1 71 5).toInt = 0 → (1 ≤ x3.toInt ∧ x3.toInt ≤ 16 ∧ (s.1 71 5).toInt = 0)) → (x4.toInt = x3.toInt + oSm (fun j => t.1 100 (24 + j)) (x5.toInt - 24).toNat) → (0 ≤ x4.toInt ∧ x4.toInt ≤ 10000 * (x5.toInt - 23)) → ((t.1 71 37).toInt = (s.1 71 37).toInt ∧ 0 ≤ (t.1 71 38).toInt ∧ (t.1 71 38).toInt ≤ 24) → 50 - x5.toInt ≤ (n : Int) → J t 92 [(0, .ref (oad E 71)), (1, .int x1), (3, .int x3), (4, .int x4), (5, .int x5)] []) := by
    intro n
    induction n using Nat.strongRecOn with
    | _ n ih =>
      skip
      · intro t x1 x3 x4 x5  iv0 iv1 iv2 iv3 iv4 iv5 iv6 iv7 iv8 iv9 hmu
        have rx1 := n_rng x1
        have rx3 := n_rng x3
        have rx4 := n_rng x4
        have rx5 := n_rng x5
        refine r_iload C (j := 4) (oDec_at oX12_noteTold 51 rfl) rfl ?_
        refine r_iload_n C (j := 1) (oDec_at oX12_noteTold 52 rfl) rfl rfl ?_
        refine r_icmp_ge C 116 (oDec_at oX12_noteTold 53 rfl) (by decide) (fun cd1 => ?_) (fun cd1 => ?_)
        · skip
          have hs5 : oSm (fun j => t.1 100 (24 + j)) (x5.toInt - 24).toNat = oSm (fun j => t.1 100 (24 + j)) (t.1 71 37).toNatClampNeg := by rw [show (x5.toInt - 24).toNat = (t.1 71 37).toNatClampNeg from by have := n_nat (t.1 71 37); omega]
          refine r_aload_n C (j := 0) (oDec_at oX12_noteTold 63 rfl) rfl rfl ?_
          obtain ⟨v2, ev2⟩ : ∃ z : Int32, (t).1 71 5 = z := ⟨_, rfl⟩
          have gv2 : (t.1 71 5).toInt = v2.toInt := congrArg Int32.toInt (ev2)
          have rv2 := n_rng v2
          refine r_geti (k := 5) (lo := (-2147483648)) (hi := 2147483647) C v2 oCl12 rfl (by decide) flX12_173 rfl rfl (ev2) rfl rfl (oDec_at oX12_noteTold 64 rfl) (fun _ _ => ?_)
          refine r_if_ne C 139 (oDec_at oX12_noteTold 65 rfl) (by decide) (fun cd3 => ?_) (fun cd3 => ?_)
          · skip
            refine r_aload_n C (j := 0) (oDec_at oX12_noteTold 74 rfl) rfl rfl ?_
            refine r_getF (k := 40) (b := 100) C oCl12 rfl (by decide) flX12_99 rfl rfl rfl (oDec_at oX12_noteTold 75 rfl) ?_
            refine r_iload_n C (j := 1) (oDec_at oX12_noteTold 76 rfl) rfl rfl ?_
            refine r_iload_n C (j := 2) (oDec_at oX12_noteTold 77 rfl) rfl rfl ?_
            refine r_iast (n := 48) (lo := 0) (hi := 9999) C rfl (by decide) rfl rfl ⟨by omega, by omega⟩ (by decide) rfl rfl rfl rfl ⟨by omega, by omega⟩ (oDec_at oX12_noteTold 78 rfl) ?_
            have hq4 : oLT ((pI t 100 x1.toNatClampNeg x3)) := oLT_hi (x := x1) iv0 (by omega) (by omega)
            have hq5 : oDU ((pI t 100 x1.toNatClampNeg x3)) := oDU_of (x := x1) (n := x3) iv1 (by omega) (by omega) (by omega)
            refine r_aload_n C (j := 0) (oDec_at oX12_noteTold 79 rfl) rfl rfl ?_
            refine r_pc C 147 rfl ?_
            refine r_bipush C (oDec_at oX12_noteTold 80 rfl) (v := k59) (by rw [qk59]; rfl) ?_
            have lk6 : (((pI t 100 x1.toNatClampNeg x3)).1 71 2).toInt = (t.1 71 2).toInt := congrArg Int32.toInt ((pI_ne (a := 71) (b := 2) (c := 100) _ _ (Or.inl (by decide))))
            have lk7 : (((pI t 100 x1.toNatClampNeg x3)).1 71 5).toInt = v2.toInt := congrArg Int32.toInt (((pI_ne (a := 71) (b := 5) (c := 100) _ _ (Or.inl (by decide)))).trans (ev2))
            have lk8 : (((pI t 100 x1.toNatClampNeg x3)).1 71 2).toInt = (t.1 71 2).toInt := congrArg Int32.toInt ((pI_ne (a := 71) (b := 2) (c := 100) _ _ (Or.inl (by decide))))
            refine r_callVv C oCl12 rfl miX12_asksSign mlX12_248 (ct_X12_asksSign l E ((pI t 100 x1.toNatClampNeg x3)) k59 (by omega)) (by decide) rfl rfl rfl (Nat.le_of_ble_eq_true rfl) (oDec_at oX12_noteTold 81 rfl) (fun u9 pu9 fu9 => ?_)
            try dsimp only at pu9
            try simp only [lk6, lk7, lk8] at pu9
            obtain ⟨pu9_0, pu9_1⟩ := pu9
            refine r_aload_n C (j := 0) (oDec_at oX12_noteTold 82 rfl) rfl rfl ?_
            refine r_dup C (oDec_at oX12_noteTold 83 rfl) rfl ?_
            obtain ⟨v11, ev11⟩ : ∃ z : Int32, (u9).1 71 37 = z := ⟨_, rfl⟩
            have gv11 : (t.1 71 37).toInt = v11.toInt := congrArg Int32.toInt ((((fu9 71 37 rfl).1).trans ((pI_ne (a := 71) (b := 37) (c := 100) _ _ (Or.inl (by decide))))).symm.trans ev11)
            have ggv11 : ((u9).1 71 37).toInt = v11.toInt := congrArg Int32.toInt ev11
            refine r_geti (k := 37) (lo := 0) (hi := 60) C v11 oCl12 rfl (by decide) flX12_231 rfl rfl (ev11) rfl rfl (oDec_at oX12_noteTold 84 rfl) (fun b12 b12h => ?_)
            refine r_iconst C (oDec_at oX12_noteTold 85 rfl) (v := k1) (by rw [qk1]; rfl) ?_
            refine r_pc C 158 rfl ?_
            obtain ⟨v13, ev13⟩ : ∃ z : Int32, z = v11 + k1 := ⟨_, rfl⟩
            have hv13 : v13.toInt = v11.toInt + k1.toInt := n_add ev13 (by omega) (by omega)
            refine r_iadd C v13 (oDec_at oX12_noteTold 86 rfl) ev13 ?_
            have lk14 : ((u9).1 71 37).toInt = v11.toInt := congrArg Int32.toInt (ev11)
            refine r_puti (k := 37) (lo := 0) (hi := 60) C oCl12 rfl (by decide) flX12_231 rfl rfl rfl rfl rfl rfl rfl rfl ⟨by omega, by omega⟩ (oDec_at oX12_noteTold 87 rfl) ?_
            have hq15 : oDT ((pI u9 71 37 v13)) := oDT_of (z := v13) (oDU_frb fu9 rfl (by omega) hq5) (by omega) (by omega)
            have lk16 : (((pI u9 71 37 v13)).1 71 37).toInt = v13.toInt := congrArg Int32.toInt ((pI_self _ _ _ _))
            have lk17 : (((pI u9 71 37 v13)).1 71 5).toInt = (u9.1 71 5).toInt := congrArg Int32.toInt ((pI_ne (a := 71) (b := 5) (c := 71) (k := 37) _ _ (Or.inr (by decide))))
            have lk18 : (((pI u9 71 37 v13)).1 71 37).toInt = v13.toInt := congrArg Int32.toInt ((pI_self _ _ _ _))
            have lk19 : (((pI u9 71 37 v13)).1 71 37).toInt = v13.toInt := congrArg Int32.toInt ((pI_self _ _ _ _))
            exact r_vret C (oDec_at oX12_noteTold 88 rfl) ⟨rfl, ⟨(oLT_fr (oFr_oneI (q := 12) (m := 37) rfl (by rfl)) rfl (oLT_fr fu9 rfl hq4)), by omega, hq15, by omega, by omega⟩⟩
          · skip
            refine r_iload C (j := 3) (oDec_at oX12_noteTold 66 rfl) rfl ?_
            refine r_bipush C (oDec_at oX12_noteTold 67 rfl) (v := k96) (by rw [qk96]; rfl) ?_
            refine r_icmp_le C 139 (oDec_at oX12_noteTold 68 rfl) (by decide) (fun cd20 => ?_) (fun cd20 => ?_)
            · skip
              refine r_aload_n C (j := 0) (oDec_at oX12_noteTold 74 rfl) rfl rfl ?_
              refine r_getF (k := 40) (b := 100) C oCl12 rfl (by decide) flX12_99 rfl rfl rfl (oDec_at oX12_noteTold 75 rfl) ?_
              refine r_iload_n C (j := 1) (oDec_at oX12_noteTold 76 rfl) rfl rfl ?_
              refine r_iload_n C (j := 2) (oDec_at oX12_noteTold 77 rfl) rfl rfl ?_
              refine r_iast (n := 48) (lo := 0) (hi := 9999) C rfl (by decide) rfl rfl ⟨by omega, by omega⟩ (by decide) rfl rfl rfl rfl ⟨by omega, by omega⟩ (oDec_at oX12_noteTold 78 rfl) ?_
              have hq21 : oLT ((pI t 100 x1.toNatClampNeg x3)) := oLT_hi (x := x1) iv0 (by omega) (by omega)
              have hq22 : oDU ((pI t 100 x1.toNatClampNeg x3)) := oDU_of (x := x1) (n := x3) iv1 (by omega) (by omega) (by omega)
              refine r_aload_n C (j := 0) (oDec_at oX12_noteTold 79 rfl) rfl rfl ?_
              refine r_pc C 147 rfl ?_
              refine r_bipush C (oDec_at oX12_noteTold 80 rfl) (v := k59) (by rw [qk59]; rfl) ?_
              have lk23 : (((pI t 100 x1.toNatClampNeg x3)).1 71 2).toInt = (t.1 71 2).toInt := congrArg Int32.toInt ((pI_ne (a := 71) (b := 2) (c := 100) _ _ (Or.inl (by decide))))
              have lk24 : (((pI t 100 x1.toNatClampNeg x3)).1 71 5).toInt = v2.toInt := congrArg Int32.toInt (((pI_ne (a := 71) (b := 5) (c := 100) _ _ (Or.inl (by decide)))).trans (ev2))
              have lk25 : (((pI t 100 x1.toNatClampNeg x3)).1 71 2).toInt = (t.1 71 2).toInt := congrArg Int32.toInt ((pI_ne (a := 71) (b := 2) (c := 100) _ _ (Or.inl (by decide))))
              refine r_callVv C oCl12 rfl miX12_asksSign mlX12_248 (ct_X12_asksSign l E ((pI t 100 x1.toNatClampNeg x3)) k59 (by omega)) (by decide) rfl rfl rfl (Nat.le_of_ble_eq_true rfl) (oDec_at oX12_noteTold 81 rfl) (fun u26 pu26 fu26 => ?_)
              try dsimp only at pu26
              try simp only [lk23, lk24, lk25] at pu26
              obtain ⟨pu26_0, pu26_1⟩ := pu26
              refine r_aload_n C (j := 0) (oDec_at oX12_noteTold 82 rfl) rfl rfl ?_
              refine r_dup C (oDec_at oX12_noteTold 83 rfl) rfl ?_
              obtain ⟨v28, ev28⟩ : ∃ z : Int32, (u26).1 71 37 = z := ⟨_, rfl⟩
              have gv28 : (t.1 71 37).toInt = v28.toInt := congrArg Int32.toInt ((((fu26 71 37 rfl).1).trans ((pI_ne (a := 71) (b := 37) (c := 100) _ _ (Or.inl (by decide))))).symm.trans ev28)
              have ggv28 : ((u26).1 71 37).toInt = v28.toInt := congrArg Int32.toInt ev28
              refine r_geti (k := 37) (lo := 0) (hi := 60) C v28 oCl12 rfl (by decide) flX12_231 rfl rfl (ev28) rfl rfl (oDec_at oX12_noteTold 84 rfl) (fun b29 b29h => ?_)
              refine r_iconst C (oDec_at oX12_noteTold 85 rfl) (v := k1) (by rw [qk1]; rfl) ?_
              refine r_pc C 158 rfl ?_
              obtain ⟨v30, ev30⟩ : ∃ z : Int32, z = v28 + k1 := ⟨_, rfl⟩
              have hv30 : v30.toInt = v28.toInt + k1.toInt := n_add ev30 (by omega) (by omega)
              refine r_iadd C v30 (oDec_at oX12_noteTold 86 rfl) ev30 ?_
              have lk31 : ((u26).1 71 37).toInt = v28.toInt := congrArg Int32.toInt (ev28)
              refine r_puti (k := 37) (lo := 0) (hi := 60) C oCl12 rfl (by decide) flX12_231 rfl rfl rfl rfl rfl rfl rfl rfl ⟨by omega, by omega⟩ (oDec_at oX12_noteTold 87 rfl) ?_
              have hq32 : oDT ((pI u26 71 37 v30)) := oDT_of (z := v30) (oDU_frb fu26 rfl (by omega) hq22) (by omega) (by omega)
              have lk33 : (((pI u26 71 37 v30)).1 71 37).toInt = v30.toInt := congrArg Int32.toInt ((pI_self _ _ _ _))
              have lk34 : (((pI u26 71 37 v30)).1 71 5).toInt = (u26.1 71 5).toInt := congrArg Int32.toInt ((pI_ne (a := 71) (b := 5) (c := 71) (k := 37) _ _ (Or.inr (by decide))))
              have lk35 : (((pI u26 71 37 v30)).1 71 37).toInt = v30.toInt := congrArg Int32.toInt ((pI_self _ _ _ _))
              have lk36 : (((pI u26 71 37 v30)).1 71 37).toInt = v30.toInt := congrArg Int32.toInt ((pI_self _ _ _ _))
              exact r_vret C (oDec_at oX12_noteTold 88 rfl) ⟨rfl, ⟨(oLT_fr (oFr_oneI (q := 12) (m := 37) rfl (by rfl)) rfl (oLT_fr fu26 rfl hq21)), by omega, hq32, by omega, by omega⟩⟩
            · skip
              refine r_aload_n C (j := 0) (oDec_at oX12_noteTold 69 rfl) rfl rfl ?_
              refine r_iconst C (oDec_at oX12_noteTold 70 rfl) (v := k2) (by rw [qk2]; rfl) ?_
              refine r_aload_n C (j := 0) (oDec_at oX12_noteTold 71 rfl) rfl rfl ?_
              obtain ⟨v37, ev37⟩ : ∃ z : Int32, (t).1 71 9 = z := ⟨_, rfl⟩
              have gv37 : (t.1 71 9).toInt = v37.toInt := congrArg Int32.toInt (ev37)
              have rv37 := n_rng v37
              refine r_geti (k := 9) (lo := (-2147483648)) (hi := 2147483647) C v37 oCl12 rfl (by decide) flX12_213 rfl rfl (ev37) rfl rfl (oDec_at oX12_noteTold 72 rfl) (fun _ _ => ?_)
              have lk38 : ((t).1 71 5).toInt = v2.toInt := congrArg Int32.toInt (ev2)
              have lk39 : ((t).1 71 5).toInt = v2.toInt := congrArg Int32.toInt (ev2)
              refine r_callVv C oCl12 rfl miX12_fail mlX12_203 (ct_X12_fail l E (t) k2 v37 ) (by decide) rfl rfl rfl (Nat.le_of_ble_eq_true rfl) (oDec_at oX12_noteTold 73 rfl) (fun u40 pu40 fu40 => ?_)
              try dsimp only at pu40
              try simp only [lk38, lk39] at pu40
              obtain ⟨pu40_0, pu40_1⟩ := pu40
              refine r_aload_n C (j := 0) (oDec_at oX12_noteTold 74 rfl) rfl rfl ?_
              refine r_pc C 140 rfl ?_
              refine r_getF (k := 40) (b := 100) C oCl12 rfl (by decide) flX12_99 rfl rfl rfl (oDec_at oX12_noteTold 75 rfl) ?_
              refine r_iload_n C (j := 1) (oDec_at oX12_noteTold 76 rfl) rfl rfl ?_
              refine r_iload_n C (j := 2) (oDec_at oX12_noteTold 77 rfl) rfl rfl ?_
              have lk42 : ((u40).1 71 37).toInt = (t.1 71 37).toInt := congrArg Int32.toInt ((fu40 71 37 rfl).1)
              have lk43 : ((u40).1 71 38).toInt = (t.1 71 38).toInt := congrArg Int32.toInt ((fu40 71 38 rfl).1)
              refine r_iast (n := 48) (lo := 0) (hi := 9999) C rfl (by decide) rfl rfl ⟨by omega, by omega⟩ (by decide) rfl rfl rfl rfl ⟨by omega, by omega⟩ (oDec_at oX12_noteTold 78 rfl) ?_
              have hq44 : oLT ((pI u40 100 x1.toNatClampNeg x3)) := oLT_hi (x := x1) (oLT_fr fu40 rfl iv0) (by omega) (by omega)
              have hq45 : oDU ((pI u40 100 x1.toNatClampNeg x3)) := oDU_of (x := x1) (n := x3) (oDT_frb fu40 rfl (by omega) iv1) (by omega) (by omega) (by omega)
              refine r_aload_n C (j := 0) (oDec_at oX12_noteTold 79 rfl) rfl rfl ?_
              refine r_bipush C (oDec_at oX12_noteTold 80 rfl) (v := k59) (by rw [qk59]; rfl) ?_
              refine r_pc C 149 rfl ?_
              have lk46 : (((pI u40 100 x1.toNatClampNeg x3)).1 71 2).toInt = (t.1 71 2).toInt := congrArg Int32.toInt (((pI_ne (a := 71) (b := 2) (c := 100) _ _ (Or.inl (by decide)))).trans ((fu40 71 2 rfl).1))
              have lk47 : (((pI u40 100 x1.toNatClampNeg x3)).1 71 5).toInt = (u40.1 71 5).toInt := congrArg Int32.toInt ((pI_ne (a := 71) (b := 5) (c := 100) _ _ (Or.inl (by decide))))
              have lk48 : (((pI u40 100 x1.toNatClampNeg x3)).1 71 2).toInt = (t.1 71 2).toInt := congrArg Int32.toInt (((pI_ne (a := 71) (b := 2) (c := 100) _ _ (Or.inl (by decide)))).trans ((fu40 71 2 rfl).1))
              refine r_callVv C oCl12 rfl miX12_asksSign mlX12_248 (ct_X12_asksSign l E ((pI u40 100 x1.toNatClampNeg x3)) k59 (by omega)) (by decide) rfl rfl rfl (Nat.le_of_ble_eq_true rfl) (oDec_at oX12_noteTold 81 rfl) (fun u49 pu49 fu49 => ?_)
              try dsimp only at pu49
              try simp only [lk46, lk47, lk48] at pu49
              obtain ⟨pu49_0, pu49_1⟩ := pu49
              refine r_aload_n C (j := 0) (oDec_at oX12_noteTold 82 rfl) rfl rfl ?_
              refine r_dup C (oDec_at oX12_noteTold 83 rfl) rfl ?_
              obtain ⟨v51, ev51⟩ : ∃ z : Int32, (u49).1 71 37 = z := ⟨_, rfl⟩
              have gv51 : (t.1 71 37).toInt = v51.toInt := congrArg Int32.toInt ((((fu49 71 37 rfl).1).trans (((pI_ne (a := 71) (b := 37) (c := 100) _ _ (Or.inl (by decide)))).trans ((fu40 71 37 rfl).1))).symm.trans ev51)
              have ggv51 : ((u49).1 71 37).toInt = v51.toInt := congrArg Int32.toInt ev51
              refine r_geti (k := 37) (lo := 0) (hi := 60) C v51 oCl12 rfl (by decide) flX12_231 rfl rfl (ev51) rfl rfl (oDec_at oX12_noteTold 84 rfl) (fun b52 b52h => ?_)
              refine r_iconst C (oDec_at oX12_noteTold 85 rfl) (v := k1) (by rw [qk1]; rfl) ?_
              obtain ⟨v53, ev53⟩ : ∃ z : Int32, z = v51 + k1 := ⟨_, rfl⟩
              have hv53 : v53.toInt = v51.toInt + k1.toInt := n_add ev53 (by omega) (by omega)
              refine r_iadd C v53 (oDec_at oX12_noteTold 86 rfl) ev53 ?_
              refine r_pc C 159 rfl ?_
              have lk54 : ((u49).1 71 37).toInt = v51.toInt := congrArg Int32.toInt (ev51)
              refine r_puti (k := 37) (lo := 0) (hi := 60) C oCl12 rfl (by decide) flX12_231 rfl rfl rfl rfl rfl rfl rfl rfl ⟨by omega, by omega⟩ (oDec_at oX12_noteTold 87 rfl) ?_
              have hq55 : oDT ((pI u49 71 37 v53)) := oDT_of (z := v53) (oDU_frb fu49 rfl (by omega) hq45) (by omega) (by omega)
              have lk56 : (((pI u49 71 37 v53)).1 71 37).toInt = v53.toInt := congrArg Int32.toInt ((pI_self _ _ _ _))
              have lk57 : (((pI u49 71 37 v53)).1 71 5).toInt = (u49.1 71 5).toInt := congrArg Int32.toInt ((pI_ne (a := 71) (b := 5) (c := 71) (k := 37) _ _ (Or.inr (by decide))))
              have lk58 : (((pI u49 71 37 v53)).1 71 37).toInt = v53.toInt := congrArg Int32.toInt ((pI_self _ _ _ _))
              have lk59 : (((pI u49 71 37 v53)).1 71 37).toInt = v53.toInt := congrArg Int32.toInt ((pI_self _ _ _ _))
              exact r_vret C (oDec_at oX12_noteTold 88 rfl) ⟨rfl, ⟨(oLT_fr (oFr_oneI (q := 12) (m := 37) rfl (by rfl)) rfl (oLT_fr fu49 rfl hq44)), by omega, hq55, by omega, by omega⟩⟩
        · skip
          refine r_iload C (j := 3) (oDec_at oX12_noteTold 54 rfl) rfl ?_
          refine r_aload_n C (j := 0) (oDec_at oX12_noteTold 55 rfl) rfl rfl ?_
          refine r_getF (k := 40) (b := 100) C oCl12 rfl (by decide) flX12_99 rfl rfl rfl (oDec_at oX12_noteTold 56 rfl) ?_
          refine r_iload C (j := 4) (oDec_at oX12_noteTold 57 rfl) rfl ?_
          obtain ⟨v61, ev61⟩ : ∃ z : Int32, (t).1 100 x5.toNatClampNeg = z := ⟨_, rfl⟩
          have gv61 : (t.1 100 x5.toNatClampNeg).toInt = v61.toInt := congrArg Int32.toInt (ev61)
          refine r_iald (n := 48) (lo := 0) (hi := 9999) C v61 rfl (by decide) rfl rfl ⟨by omega, by omega⟩ (by decide) ev61 rfl rfl (oDec_at oX12_noteTold 58 rfl) (fun b60 b60h => ?_)
          obtain ⟨v62, ev62⟩ : ∃ z : Int32, z = x4 + v61 := ⟨_, rfl⟩
          have hv62 : v62.toInt = x4.toInt + v61.toInt := n_add ev62 (by omega) (by omega)
          refine r_iadd C v62 (oDec_at oX12_noteTold 59 rfl) ev62 ?_
          refine r_pc C 108 rfl ?_
          refine r_istore C (lv' := [(0, .ref (oad E 71)), (1, .int x1), (3, .int x3), (4, .int v62), (5, .int x5)]) [1, 2, 3, 0, 4] (oDec_at oX12_noteTold 60 rfl) (by decide) rfl ?_
          obtain ⟨v63, ev63⟩ : ∃ z : Int32, x5 + Int32.ofInt 1 = z := ⟨_, rfl⟩
          have hv63 : v63.toInt = x5.toInt + 1 := n_inc ev63 (by decide) (by omega) (by omega)
          refine r_iinc C (j := 4) (lv' := [(0, .ref (oad E 71)), (1, .int x1), (3, .int x3), (4, .int v62), (5, .int v63)]) v63 [1, 2, 3, 4, 0] (oDec_at oX12_noteTold 61 rfl) rfl ev63 (by decide) rfl ?_
          refine r_goto C (tgt := 92) (oDec_at oX12_noteTold 62 rfl) (by decide) ?_
          exact (ih (n - 1) (by omega)) (t) x1 x3 v62 v63  iv0 iv1 (by omega) (by omega) (by omega) (by omega) (by omega) (by first | (have e2 := oSd_succ (f := t.1 100) (x := x5) (y := v63) (by omega) (by omega); rw [e2]; omega) | (have e0 := oSd_at0 (f := fun j => (t).1 100 (24 + j)) (x := v63) (by omega); rw [e0]; omega)) (by omega) (by omega) (by omega)
  refine r_aload_n C (j := 0) (oDec_at oX12_noteTold 0 rfl) rfl rfl ?_
  obtain ⟨v64, ev64⟩ : ∃ z : Int32, (s).1 71 37 = z := ⟨_, rfl⟩
  have gv64 : (s.1 71 37).toInt = v64.toInt := congrArg Int32.toInt (ev64)
  refine r_geti (k := 37) (lo := 0) (hi := 60) C v64 oCl12 rfl (by decide) flX12_231 rfl rfl (ev64) rfl rfl (oDec_at oX12_noteTold 1 rfl) (fun b65 b65h => ?_)
  refine r_bipush C (oDec_at oX12_noteTold 2 rfl) (v := k24) (by rw [qk24]; rfl) ?_
  refine r_icmp_ne C 19 (oDec_at oX12_noteTold 3 rfl) (by decide) (fun cd66 => ?_) (fun cd66 => ?_)
  · skip
    refine r_bipush C (oDec_at oX12_noteTold 10 rfl) (v := k24) (by rw [qk24]; rfl) ?_
    refine r_aload_n C (j := 0) (oDec_at oX12_noteTold 11 rfl) rfl rfl ?_
    refine r_geti (k := 37) (lo := 0) (hi := 60) C v64 oCl12 rfl (by decide) flX12_231 rfl rfl (ev64) rfl rfl (oDec_at oX12_noteTold 12 rfl) (fun _ _ => ?_)
    obtain ⟨v67, ev67⟩ : ∃ z : Int32, z = k24 + v64 := ⟨_, rfl⟩
    have hv67 : v67.toInt = k24.toInt + v64.toInt := n_add ev67 (by omega) (by omega)
    refine r_iadd C v67 (oDec_at oX12_noteTold 13 rfl) ev67 ?_
    refine r_istore_n C (lv' := [(0, .ref (oad E 71)), (1, .int v67)]) [1, 0] (oDec_at oX12_noteTold 14 rfl) rfl (by decide) rfl ?_
    refine r_aload_n C (j := 0) (oDec_at oX12_noteTold 15 rfl) rfl rfl ?_
    refine r_pc C 28 rfl ?_
    refine r_aload_n C (j := 0) (oDec_at oX12_noteTold 16 rfl) rfl rfl ?_
    refine r_getF (k := 12) (b := 75) C oCl12 rfl (by decide) flX12_24 rfl rfl rfl (oDec_at oX12_noteTold 17 rfl) ?_
    refine r_callVi C oCl12 rfl miX12_takes mlX12_200 (ct_X12_takes l E (s) 75 51 4 rfl (by decide) (by decide) rfl rfl (by omega)) (by decide) rfl rfl rfl (Nat.le_of_ble_eq_true rfl) (oDec_at oX12_noteTold 18 rfl) (fun r69 u68 pu68 fu68 => ?_)
    try dsimp only at pu68
    obtain ⟨pu68_0, pu68_1, pu68_2⟩ := pu68
    have rr69 := n_rng r69
    refine r_istore_n C (lv' := [(0, .ref (oad E 71)), (1, .int v67), (2, .int r69)]) [1, 2, 0] (oDec_at oX12_noteTold 19 rfl) rfl (by decide) rfl ?_
    refine r_iload_n C (j := 2) (oDec_at oX12_noteTold 20 rfl) rfl rfl ?_
    refine r_if_ne C 48 (oDec_at oX12_noteTold 21 rfl) (by decide) (fun cd70 => ?_) (fun cd70 => ?_)
    · skip
      refine r_aload_n C (j := 0) (oDec_at oX12_noteTold 26 rfl) rfl rfl ?_
      refine r_getF (k := 39) (b := 99) C oCl12 rfl (by decide) flX12_96 rfl rfl rfl (oDec_at oX12_noteTold 27 rfl) ?_
      refine r_iload_n C (j := 1) (oDec_at oX12_noteTold 28 rfl) rfl rfl ?_
      refine r_iload_n C (j := 2) (oDec_at oX12_noteTold 29 rfl) rfl rfl ?_
      refine r_if_eq C 61 (oDec_at oX12_noteTold 30 rfl) (by decide) (fun cd71 => ?_) (fun cd71 => ?_)
      · omega
      · skip
        refine r_iconst C (oDec_at oX12_noteTold 31 rfl) (v := km1) (by rw [qkm1]; rfl) ?_
        refine r_goto C (tgt := 68) (oDec_at oX12_noteTold 32 rfl) (by decide) ?_
        refine r_iast (n := 48) (lo := (-2147483648)) (hi := 2147483647) C rfl (by decide) rfl rfl ⟨by omega, by omega⟩ (by decide) rfl rfl rfl rfl (n_rng _) (oDec_at oX12_noteTold 37 rfl) ?_
        refine r_aload_n C (j := 0) (oDec_at oX12_noteTold 38 rfl) rfl rfl ?_
        refine r_aload_n C (j := 0) (oDec_at oX12_noteTold 39 rfl) rfl rfl ?_
        refine r_getF (k := 11) (b := 74) C oCl12 rfl (by decide) flX12_21 rfl rfl rfl (oDec_at oX12_noteTold 40 rfl) ?_
        have lk72 : (((pI u68 99 v67.toNatClampNeg km1)).1 71 2).toInt = (u68.1 71 2).toInt := congrArg Int32.toInt ((pI_ne (a := 71) (b := 2) (c := 99) _ _ (Or.inl (by decide))))
        have lk73 : (((pI u68 99 v67.toNatClampNeg km1)).1 71 5).toInt = (s.1 71 5).toInt := congrArg Int32.toInt (((pI_ne (a := 71) (b := 5) (c := 99) _ _ (Or.inl (by decide)))).trans ((fu68 71 5 rfl).1))
        have lk74 : (((pI u68 99 v67.toNatClampNeg km1)).1 71 2).toInt = (u68.1 71 2).toInt := congrArg Int32.toInt ((pI_ne (a := 71) (b := 2) (c := 99) _ _ (Or.inl (by decide))))
        refine r_callVv C oCl12 rfl miX12_asks mlX12_240 (ct_X12_asks l E ((pI u68 99 v67.toNatClampNeg km1)) 74 50 3 rfl (by decide) (by decide) rfl rfl (by omega)) (by decide) rfl rfl rfl (Nat.le_of_ble_eq_true rfl) (oDec_at oX12_noteTold 41 rfl) (fun u75 pu75 fu75 => ?_)
        try dsimp only at pu75
        try simp only [lk72, lk73, lk74] at pu75
        obtain ⟨pu75_0, pu75_1⟩ := pu75
        refine r_pc C 77 rfl ?_
        refine r_aload_n C (j := 0) (oDec_at oX12_noteTold 42 rfl) rfl rfl ?_
        refine r_iconst C (oDec_at oX12_noteTold 43 rfl) (v := k1) (by rw [qk1]; rfl) ?_
        refine r_bipush C (oDec_at oX12_noteTold 44 rfl) (v := k16) (by rw [qk16]; rfl) ?_
        refine r_callVi C oCl12 rfl miX12_number mlX12_244 (ct_X12_number l E (u75) k1 k16 ) (by decide) rfl rfl rfl (Nat.le_of_ble_eq_true rfl) (oDec_at oX12_noteTold 45 rfl) (fun r78 u77 pu77 fu77 => ?_)
        try dsimp only at pu77
        obtain ⟨pu77_0, pu77_1, pu77_2, pu77_3⟩ := pu77
        have rr78 := n_rng r78
        refine r_istore_n C (lv' := [(0, .ref (oad E 71)), (1, .int v67), (2, .int r69), (3, .int r78)]) [1, 2, 3, 0] (oDec_at oX12_noteTold 46 rfl) rfl (by decide) rfl ?_
        refine r_iload_n C (j := 3) (oDec_at oX12_noteTold 47 rfl) rfl rfl ?_
        refine r_pc C 86 rfl ?_
        refine r_istore C (lv' := [(0, .ref (oad E 71)), (1, .int v67), (2, .int r69), (3, .int r78), (4, .int r78)]) [1, 2, 3, 4, 0] (oDec_at oX12_noteTold 48 rfl) (by decide) rfl ?_
        refine r_bipush C (oDec_at oX12_noteTold 49 rfl) (v := k24) (by rw [qk24]; rfl) ?_
        refine r_istore C (lv' := [(0, .ref (oad E 71)), (1, .int v67), (2, .int r69), (3, .int r78), (4, .int r78), (5, .int k24)]) [1, 2, 3, 4, 5, 0] (oDec_at oX12_noteTold 50 rfl) (by decide) rfl ?_
        have lk79 : ((u77).1 71 37).toInt = v64.toInt := congrArg Int32.toInt (((fu77 71 37 rfl).1).trans (((fu75 71 37 rfl).1).trans (((pI_ne (a := 71) (b := 37) (c := 99) _ _ (Or.inl (by decide)))).trans (((fu68 71 37 rfl).1).trans (ev64)))))
        have lk80 : ((u77).1 71 37).toInt = v64.toInt := congrArg Int32.toInt (((fu77 71 37 rfl).1).trans (((fu75 71 37 rfl).1).trans (((pI_ne (a := 71) (b := 37) (c := 99) _ _ (Or.inl (by decide)))).trans (((fu68 71 37 rfl).1).trans (ev64)))))
        have lk81 : ((u77).1 71 38).toInt = (s.1 71 38).toInt := congrArg Int32.toInt (((fu77 71 38 rfl).1).trans (((fu75 71 38 rfl).1).trans (((pI_ne (a := 71) (b := 38) (c := 99) _ _ (Or.inl (by decide)))).trans ((fu68 71 38 rfl).1))))
        refine r_pick C [0, 1, 3, 4, 5] rfl ?_
        exact (key (50 - k24.toInt).toNat) (u77) v67 r78 r78 k24  (oLT_fr fu77 rfl (oLT_fr fu75 rfl (oLT_fr (oFr_oneI (q := 75) (m := 9999) rfl (by rfl)) rfl (oLT_fr fu68 rfl hp0)))) (oDT_frb fu77 rfl (by omega) (oDT_frb fu75 rfl (by omega) (oDT_fr (oFr_oneI (q := 75) (m := 9999) rfl (by rfl)) rfl (oDT_fr fu68 rfl hp2)))) (by omega) (by omega) (by omega) (by omega) (by omega) (by first | (have e0 := oSd_at0 (f := fun j => (u77).1 100 (24 + j)) (x := k24) (by omega); rw [e0]; omega)) (by omega) (by omega) (by omega)
    · skip
      refine r_aload_n C (j := 0) (oDec_at oX12_noteTold 22 rfl) rfl rfl ?_
      refine r_aload_n C (j := 0) (oDec_at oX12_noteTold 23 rfl) rfl rfl ?_
      refine r_getF (k := 10) (b := 73) C oCl12 rfl (by decide) flX12_17 rfl rfl rfl (oDec_at oX12_noteTold 24 rfl) ?_
      have lk82 : ((u68).1 71 5).toInt = (s.1 71 5).toInt := congrArg Int32.toInt ((fu68 71 5 rfl).1)
      refine r_callVv C oCl12 rfl miX12_asks mlX12_240 (ct_X12_asks l E (u68) 73 49 4 rfl (by decide) (by decide) rfl rfl (by omega)) (by decide) rfl rfl rfl (Nat.le_of_ble_eq_true rfl) (oDec_at oX12_noteTold 25 rfl) (fun u83 pu83 fu83 => ?_)
      try dsimp only at pu83
      try simp only [lk82] at pu83
      obtain ⟨pu83_0, pu83_1⟩ := pu83
      refine r_aload_n C (j := 0) (oDec_at oX12_noteTold 26 rfl) rfl rfl ?_
      refine r_getF (k := 39) (b := 99) C oCl12 rfl (by decide) flX12_96 rfl rfl rfl (oDec_at oX12_noteTold 27 rfl) ?_
      refine r_pc C 52 rfl ?_
      refine r_iload_n C (j := 1) (oDec_at oX12_noteTold 28 rfl) rfl rfl ?_
      refine r_iload_n C (j := 2) (oDec_at oX12_noteTold 29 rfl) rfl rfl ?_
      refine r_if_eq C 61 (oDec_at oX12_noteTold 30 rfl) (by decide) (fun cd85 => ?_) (fun cd85 => ?_)
      · skip
        refine r_aload_n C (j := 0) (oDec_at oX12_noteTold 33 rfl) rfl rfl ?_
        refine r_iconst C (oDec_at oX12_noteTold 34 rfl) (v := k0) (by rw [qk0]; rfl) ?_
        refine r_bipush C (oDec_at oX12_noteTold 35 rfl) (v := k28) (by rw [qk28]; rfl) ?_
        refine r_callVi C oCl12 rfl miX12_number mlX12_244 (ct_X12_number l E (u83) k0 k28 ) (by decide) rfl rfl rfl (Nat.le_of_ble_eq_true rfl) (oDec_at oX12_noteTold 36 rfl) (fun r87 u86 pu86 fu86 => ?_)
        try dsimp only at pu86
        obtain ⟨pu86_0, pu86_1, pu86_2, pu86_3⟩ := pu86
        have rr87 := n_rng r87
        refine r_iast (n := 48) (lo := (-2147483648)) (hi := 2147483647) C rfl (by decide) rfl rfl ⟨by omega, by omega⟩ (by decide) rfl rfl rfl rfl (n_rng _) (oDec_at oX12_noteTold 37 rfl) ?_
        refine r_aload_n C (j := 0) (oDec_at oX12_noteTold 38 rfl) rfl rfl ?_
        refine r_pc C 70 rfl ?_
        refine r_aload_n C (j := 0) (oDec_at oX12_noteTold 39 rfl) rfl rfl ?_
        refine r_getF (k := 11) (b := 74) C oCl12 rfl (by decide) flX12_21 rfl rfl rfl (oDec_at oX12_noteTold 40 rfl) ?_
        have lk88 : (((pI u86 99 v67.toNatClampNeg r87)).1 71 2).toInt = (u86.1 71 2).toInt := congrArg Int32.toInt ((pI_ne (a := 71) (b := 2) (c := 99) _ _ (Or.inl (by decide))))
        have lk89 : (((pI u86 99 v67.toNatClampNeg r87)).1 71 5).toInt = (u86.1 71 5).toInt := congrArg Int32.toInt ((pI_ne (a := 71) (b := 5) (c := 99) _ _ (Or.inl (by decide))))
        have lk90 : (((pI u86 99 v67.toNatClampNeg r87)).1 71 2).toInt = (u86.1 71 2).toInt := congrArg Int32.toInt ((pI_ne (a := 71) (b := 2) (c := 99) _ _ (Or.inl (by decide))))
        refine r_callVv C oCl12 rfl miX12_asks mlX12_240 (ct_X12_asks l E ((pI u86 99 v67.toNatClampNeg r87)) 74 50 3 rfl (by decide) (by decide) rfl rfl (by omega)) (by decide) rfl rfl rfl (Nat.le_of_ble_eq_true rfl) (oDec_at oX12_noteTold 41 rfl) (fun u91 pu91 fu91 => ?_)
        try dsimp only at pu91
        try simp only [lk88, lk89, lk90] at pu91
        obtain ⟨pu91_0, pu91_1⟩ := pu91
        refine r_aload_n C (j := 0) (oDec_at oX12_noteTold 42 rfl) rfl rfl ?_
        refine r_iconst C (oDec_at oX12_noteTold 43 rfl) (v := k1) (by rw [qk1]; rfl) ?_
        refine r_bipush C (oDec_at oX12_noteTold 44 rfl) (v := k16) (by rw [qk16]; rfl) ?_
        refine r_pc C 81 rfl ?_
        refine r_callVi C oCl12 rfl miX12_number mlX12_244 (ct_X12_number l E (u91) k1 k16 ) (by decide) rfl rfl rfl (Nat.le_of_ble_eq_true rfl) (oDec_at oX12_noteTold 45 rfl) (fun r94 u93 pu93 fu93 => ?_)
        try dsimp only at pu93
        obtain ⟨pu93_0, pu93_1, pu93_2, pu93_3⟩ := pu93
        have rr94 := n_rng r94
        refine r_istore_n C (lv' := [(0, .ref (oad E 71)), (1, .int v67), (2, .int r69), (3, .int r94)]) [1, 2, 3, 0] (oDec_at oX12_noteTold 46 rfl) rfl (by decide) rfl ?_
        refine r_iload_n C (j := 3) (oDec_at oX12_noteTold 47 rfl) rfl rfl ?_
        refine r_istore C (lv' := [(0, .ref (oad E 71)), (1, .int v67), (2, .int r69), (3, .int r94), (4, .int r94)]) [1, 2, 3, 4, 0] (oDec_at oX12_noteTold 48 rfl) (by decide) rfl ?_
        refine r_bipush C (oDec_at oX12_noteTold 49 rfl) (v := k24) (by rw [qk24]; rfl) ?_
        refine r_istore C (lv' := [(0, .ref (oad E 71)), (1, .int v67), (2, .int r69), (3, .int r94), (4, .int r94), (5, .int k24)]) [1, 2, 3, 4, 5, 0] (oDec_at oX12_noteTold 50 rfl) (by decide) rfl ?_
        have lk95 : ((u93).1 71 37).toInt = v64.toInt := congrArg Int32.toInt (((fu93 71 37 rfl).1).trans (((fu91 71 37 rfl).1).trans (((pI_ne (a := 71) (b := 37) (c := 99) _ _ (Or.inl (by decide)))).trans (((fu86 71 37 rfl).1).trans (((fu83 71 37 rfl).1).trans (((fu68 71 37 rfl).1).trans (ev64)))))))
        have lk96 : ((u93).1 71 37).toInt = v64.toInt := congrArg Int32.toInt (((fu93 71 37 rfl).1).trans (((fu91 71 37 rfl).1).trans (((pI_ne (a := 71) (b := 37) (c := 99) _ _ (Or.inl (by decide)))).trans (((fu86 71 37 rfl).1).trans (((fu83 71 37 rfl).1).trans (((fu68 71 37 rfl).1).trans (ev64)))))))
        have lk97 : ((u93).1 71 38).toInt = (s.1 71 38).toInt := congrArg Int32.toInt (((fu93 71 38 rfl).1).trans (((fu91 71 38 rfl).1).trans (((pI_ne (a := 71) (b := 38) (c := 99) _ _ (Or.inl (by decide)))).trans (((fu86 71 38 rfl).1).trans (((fu83 71 38 rfl).1).trans ((fu68 71 38 rfl).1))))))
        refine r_pick C [0, 1, 3, 4, 5] rfl ?_
        exact (key (50 - k24.toInt).toNat) (u93) v67 r94 r94 k24  (oLT_fr fu93 rfl (oLT_fr fu91 rfl (oLT_fr (oFr_oneI (q := 75) (m := 9999) rfl (by rfl)) rfl (oLT_fr fu86 rfl (oLT_fr fu83 rfl (oLT_fr fu68 rfl hp0)))))) (oDT_frb fu93 rfl (by omega) (oDT_frb fu91 rfl (by omega) (oDT_fr (oFr_oneI (q := 75) (m := 9999) rfl (by rfl)) rfl (oDT_frb fu86 rfl (by omega) (oDT_frb fu83 rfl (by omega) (oDT_fr fu68 rfl hp2)))))) (by omega) (by omega) (by omega) (by omega) (by omega) (by first | (have e0 := oSd_at0 (f := fun j => (u93).1 100 (24 + j)) (x := k24) (by omega); rw [e0]; omega)) (by omega) (by omega) (by omega)
      · omega
  · skip
    refine r_aload_n C (j := 0) (oDec_at oX12_noteTold 4 rfl) rfl rfl ?_
    refine r_iconst C (oDec_at oX12_noteTold 5 rfl) (v := k5) (by rw [qk5]; rfl) ?_
    refine r_aload_n C (j := 0) (oDec_at oX12_noteTold 6 rfl) rfl rfl ?_
    obtain ⟨v98, ev98⟩ : ∃ z : Int32, (s).1 71 2 = z := ⟨_, rfl⟩
    have gv98 : (s.1 71 2).toInt = v98.toInt := congrArg Int32.toInt (ev98)
    refine r_geti (k := 2) (lo := 0) (hi := 1600) C v98 oCl12 rfl (by decide) flX12_179 rfl rfl (ev98) rfl rfl (oDec_at oX12_noteTold 7 rfl) (fun b99 b99h => ?_)
    refine r_callVv C oCl12 rfl miX12_fail mlX12_203 (ct_X12_fail l E (s) k5 v98 ) (by decide) rfl rfl rfl (Nat.le_of_ble_eq_true rfl) (oDec_at oX12_noteTold 8 rfl) (fun u100 pu100 fu100 => ?_)
    try dsimp only at pu100
    obtain ⟨pu100_0, pu100_1⟩ := pu100
    have lk102 : ((u100).1 71 37).toInt = v64.toInt := congrArg Int32.toInt (((fu100 71 37 rfl).1).trans (ev64))
    have lk103 : ((u100).1 71 37).toInt = v64.toInt := congrArg Int32.toInt (((fu100 71 37 rfl).1).trans (ev64))
    have lk104 : ((u100).1 71 37).toInt = v64.toInt := congrArg Int32.toInt (((fu100 71 37 rfl).1).trans (ev64))
    exact r_vret C (oDec_at oX12_noteTold 9 rfl) ⟨rfl, ⟨(oLT_fr fu100 rfl hp0), by omega, (oDT_frb fu100 rfl (by omega) hp2), by omega, by omega⟩⟩
set_option maxHeartbeats 4000000 in
set_option maxRecDepth 100000 in
theorem ct_X12_line (l : Launch) (E : oE) (s : oS)   (hp0 : oLT s) (hp1 : 1 ≤ (s.1 71 38).toInt → 1 ≤ (s.1 71 42).toInt) : oMet l 6 yX12_line cX12_line 2 (some .int) [(12, 1), (12, 2), (12, 3), (12, 4), (12, 5), (12, 6), (12, 7), (12, 8), (12, 9), (12, 37), (12, 38), (12, 42), (12, 43), (12, 45), (12, 69), (75, 9999), (76, 9999), (77, 9999)] E s [.ref (oad E 71)] (oPi (fun r u => (oLT u) ∧ (1 ≤ (u.1 71 38).toInt → 1 ≤ (u.1 71 42).toInt) ∧ ((u.1 71 1).toInt = 0))) := by
  refine oMet.of (lv := [(0, .ref (oad E 71))]) (by decide +kernel) (Nat.le_of_ble_eq_true rfl) rfl (fun J C hT => ?_)
  have C : oC l 6 cX12_line RX12 2 (some .int) [(12, 1), (12, 2), (12, 3), (12, 4), (12, 5), (12, 6), (12, 7), (12, 8), (12, 9), (12, 37), (12, 38), (12, 42), (12, 43), (12, 45), (12, 69), (75, 9999), (76, 9999), (77, 9999)] E s (oPi (fun r u => (oLT u) ∧ (1 ≤ (u.1 71 38).toInt → 1 ≤ (u.1 71 42).toInt) ∧ ((u.1 71 1).toInt = 0))) J := C
  obtain ⟨km1, qkm1⟩ : ∃ z : Int32, z = (-1) := ⟨_, rfl⟩
  have ekm1 : km1.toInt = (-1) := by rw [qkm1]; rfl
  obtain ⟨k0, qk0⟩ : ∃ z : Int32, z = 0 := ⟨_, rfl⟩
  have ek0 : k0.toInt = 0 := by rw [qk0]; rfl
  obtain ⟨k24, qk24⟩ : ∃ z : Int32, z = 24 := ⟨_, rfl⟩
  have ek24 : k24.toInt = 24 := by rw [qk24]; rfl
  have key : ∀ n : Nat, (∀ (t : oS), (oLT t) → (1 ≤ (t.1 71 38).toInt → 1 ≤ (t.1 71 42).toInt) → (oDT t) → ((t.1 71 37).toInt ≤ 24) → ((t.1 71 1).toInt = 0) → 100 + 2 * (25 - (t.1 71 37).toInt) + oB1 (t.1 71 5) ≤ (n : Int) → J t 4 [(0, .ref (oad E 71))] []) ∧ (∀ (t : oS) (x1 : Int32), (oDT t) → ((t.1 71 5).toInt = 0) → (0 ≤ x1.toInt ∧ x1.toInt ≤ (t.1 71 37).toInt) → ((t.1 71 37).toInt ≤ 24) → (oCd x1 t) → ((t.1 71 1).toInt = 0) → 25 - x1.toInt ≤ (n : Int) → J t 37 [(0, .ref (oad E 71)), (1, .int x1)] []) := by
    intro n
    induction n using Nat.strongRecOn with
    | _ n ih =>
      refine ⟨?_, ?_⟩
      · intro t   iv0 iv1 iv2 iv3 iv4 hmu
        have hj0 := oB1_f (t.1 71 5)
        refine r_ty C (fun hty => ?_)
        have hty_statements : (0 : Int) ≤ ((t).1 71 37).toInt ∧ ((t).1 71 37).toInt ≤ 60 := hty.1 71 37
        clear hty
        refine r_aload_n C (j := 0) (oDec_at oX12_line 2 rfl) rfl rfl ?_
        obtain ⟨v1, ev1⟩ : ∃ z : Int32, (t).1 71 5 = z := ⟨_, rfl⟩
        have gv1 : (t.1 71 5).toInt = v1.toInt := congrArg Int32.toInt (ev1)
        have rv1 := n_rng v1
        refine r_geti (k := 5) (lo := (-2147483648)) (hi := 2147483647) C v1 oCl12 rfl (by decide) flX12_173 rfl rfl (ev1) rfl rfl (oDec_at oX12_line 3 rfl) (fun _ _ => ?_)
        refine r_if_ne C 26 (oDec_at oX12_line 4 rfl) (by decide) (fun cd2 => ?_) (fun cd2 => ?_)
        · skip
          refine r_aload_n C (j := 0) (oDec_at oX12_line 12 rfl) rfl rfl ?_
          refine r_callVi C oCl12 rfl miX12_isTaken mlX12_258 (ct_X12_isTaken l E (t)  ) (by decide) rfl rfl rfl (Nat.le_of_ble_eq_true rfl) (oDec_at oX12_line 13 rfl) (fun r4 u3 pu3 fu3 => ?_)
          try dsimp only at pu3
          obtain ⟨pu3_0, pu3_1⟩ := pu3
          have lu5 : ((u3).1 71 5).toInt = v1.toInt := congrArg Int32.toInt (((fu3 71 5 rfl).1).trans (ev1))
          have rr4 := n_rng r4
          refine r_if_ne C 35 (oDec_at oX12_line 14 rfl) (by decide) (fun cd6 => ?_) (fun cd6 => ?_)
          · skip
            refine r_iconst C (oDec_at oX12_line 17 rfl) (v := k0) (by rw [qk0]; rfl) ?_
            refine r_istore_n C (lv' := [(0, .ref (oad E 71)), (1, .int k0)]) [1, 0] (oDec_at oX12_line 18 rfl) rfl (by decide) rfl ?_
            have lk7 : ((u3).1 71 5).toInt = v1.toInt := congrArg Int32.toInt (((fu3 71 5 rfl).1).trans (ev1))
            have lk8 : ((u3).1 71 37).toInt = (t.1 71 37).toInt := congrArg Int32.toInt ((fu3 71 37 rfl).1)
            have lk9 : ((u3).1 71 37).toInt = (t.1 71 37).toInt := congrArg Int32.toInt ((fu3 71 37 rfl).1)
            have lk10 : ((u3).1 71 1).toInt = (t.1 71 1).toInt := congrArg Int32.toInt ((fu3 71 1 rfl).1)
            exact (ih (n - 1) (by omega)).2 (u3) k0  (oDT_fr fu3 rfl iv2) (by omega) (by omega) (by omega) (by first | exact oCd_0 (by omega)) (by omega) (by omega)
          · skip
            refine r_iconst C (oDec_at oX12_line 15 rfl) (v := km1) (by rw [qkm1]; rfl) ?_
            have lk11 : ((u3).1 71 38).toInt = (t.1 71 38).toInt := congrArg Int32.toInt ((fu3 71 38 rfl).1)
            have lk12 : ((u3).1 71 42).toInt = (t.1 71 42).toInt := congrArg Int32.toInt ((fu3 71 42 rfl).1)
            have lk13 : ((u3).1 71 1).toInt = (t.1 71 1).toInt := congrArg Int32.toInt ((fu3 71 1 rfl).1)
            exact r_iret C (oDec_at oX12_line 16 rfl) ⟨_, rfl, ⟨(oLT_fr fu3 rfl iv0), by omega, by omega⟩⟩
        · skip
          refine r_aload_n C (j := 0) (oDec_at oX12_line 5 rfl) rfl rfl ?_
          refine r_callVi C oCl12 rfl miX12_look mlX12_185 (ct_X12_look l E (t)  ) (by decide) rfl rfl rfl (Nat.le_of_ble_eq_true rfl) (oDec_at oX12_line 6 rfl) (fun r15 u14 pu14 fu14 => ?_)
          try dsimp only at pu14
          obtain ⟨pu14_0, pu14_1⟩ := pu14
          obtain ⟨v16, ev16⟩ : ∃ z : Int32, (u14).1 71 2 = z := ⟨_, rfl⟩
          have gv16 : (u14.1 71 2).toInt = v16.toInt := congrArg Int32.toInt ev16
          have lt17 : ((u14).1 72 ((u14).1 71 2).toNatClampNeg).toInt = (t.1 72 v16.toNatClampNeg).toInt := by rw [ev16, show (u14).1 72 v16.toNatClampNeg = t.1 72 v16.toNatClampNeg from (fu14 72 v16.toNatClampNeg rfl).1]
          have lu18 : ((u14).1 71 2).toInt = v16.toInt := congrArg Int32.toInt (ev16)
          have lu19 : ((u14).1 71 2).toInt = v16.toInt := congrArg Int32.toInt (ev16)
          have lu20 : ((u14).1 71 3).toInt = (t.1 71 3).toInt := congrArg Int32.toInt ((fu14 71 3 rfl).1)
          have rr15 := n_rng r15
          refine r_iconst C (oDec_at oX12_line 7 rfl) (v := km1) (by rw [qkm1]; rfl) ?_
          refine r_icmp_eq C 26 (oDec_at oX12_line 8 rfl) (by decide) (fun cd21 => ?_) (fun cd21 => ?_)
          · skip
            refine r_aload_n C (j := 0) (oDec_at oX12_line 12 rfl) rfl rfl ?_
            refine r_callVi C oCl12 rfl miX12_isTaken mlX12_258 (ct_X12_isTaken l E (u14)  ) (by decide) rfl rfl rfl (Nat.le_of_ble_eq_true rfl) (oDec_at oX12_line 13 rfl) (fun r23 u22 pu22 fu22 => ?_)
            try dsimp only at pu22
            obtain ⟨pu22_0, pu22_1⟩ := pu22
            have lu24 : ((u22).1 71 5).toInt = v1.toInt := congrArg Int32.toInt (((fu22 71 5 rfl).1).trans (((fu14 71 5 rfl).1).trans (ev1)))
            have rr23 := n_rng r23
            refine r_if_ne C 35 (oDec_at oX12_line 14 rfl) (by decide) (fun cd25 => ?_) (fun cd25 => ?_)
            · skip
              refine r_iconst C (oDec_at oX12_line 17 rfl) (v := k0) (by rw [qk0]; rfl) ?_
              refine r_istore_n C (lv' := [(0, .ref (oad E 71)), (1, .int k0)]) [1, 0] (oDec_at oX12_line 18 rfl) rfl (by decide) rfl ?_
              have lk26 : ((u22).1 71 5).toInt = v1.toInt := congrArg Int32.toInt (((fu22 71 5 rfl).1).trans (((fu14 71 5 rfl).1).trans (ev1)))
              have lk27 : ((u22).1 71 37).toInt = (t.1 71 37).toInt := congrArg Int32.toInt (((fu22 71 37 rfl).1).trans ((fu14 71 37 rfl).1))
              have lk28 : ((u22).1 71 37).toInt = (t.1 71 37).toInt := congrArg Int32.toInt (((fu22 71 37 rfl).1).trans ((fu14 71 37 rfl).1))
              have lk29 : ((u22).1 71 1).toInt = (t.1 71 1).toInt := congrArg Int32.toInt (((fu22 71 1 rfl).1).trans ((fu14 71 1 rfl).1))
              exact (ih (n - 1) (by omega)).2 (u22) k0  (oDT_fr fu22 rfl (oDT_fr fu14 rfl iv2)) (by omega) (by omega) (by omega) (by first | exact oCd_0 (by omega)) (by omega) (by omega)
            · skip
              refine r_iconst C (oDec_at oX12_line 15 rfl) (v := km1) (by rw [qkm1]; rfl) ?_
              have lk30 : ((u22).1 71 38).toInt = (t.1 71 38).toInt := congrArg Int32.toInt (((fu22 71 38 rfl).1).trans ((fu14 71 38 rfl).1))
              have lk31 : ((u22).1 71 42).toInt = (t.1 71 42).toInt := congrArg Int32.toInt (((fu22 71 42 rfl).1).trans ((fu14 71 42 rfl).1))
              have lk32 : ((u22).1 71 1).toInt = (t.1 71 1).toInt := congrArg Int32.toInt (((fu22 71 1 rfl).1).trans ((fu14 71 1 rfl).1))
              exact r_iret C (oDec_at oX12_line 16 rfl) ⟨_, rfl, ⟨(oLT_fr fu22 rfl (oLT_fr fu14 rfl iv0)), by omega, by omega⟩⟩
          · skip
            refine r_aload_n C (j := 0) (oDec_at oX12_line 9 rfl) rfl rfl ?_
            have lk33 : ((u14).1 71 37).toInt = (t.1 71 37).toInt := congrArg Int32.toInt ((fu14 71 37 rfl).1)
            have lk34 : ((u14).1 71 5).toInt = v1.toInt := congrArg Int32.toInt (((fu14 71 5 rfl).1).trans (ev1))
            have lk35 : ((u14).1 71 37).toInt = (t.1 71 37).toInt := congrArg Int32.toInt ((fu14 71 37 rfl).1)
            have lk36 : ((u14).1 71 37).toInt = (t.1 71 37).toInt := congrArg Int32.toInt ((fu14 71 37 rfl).1)
            refine r_callVv C oCl12 rfl miX12_noteTold mlX12_255 (ct_X12_noteTold l E (u14)  (oLT_fr fu14 rfl iv0) (by omega) (oDT_fr fu14 rfl iv2)) (by decide) rfl rfl rfl (Nat.le_of_ble_eq_true rfl) (oDec_at oX12_line 10 rfl) (fun u37 pu37 fu37 => ?_)
            try dsimp only at pu37
            try simp only [lk33, lk34, lk35, lk36] at pu37
            obtain ⟨pu37_0, pu37_1, pu37_2, pu37_3, pu37_4⟩ := pu37
            refine r_goto C (tgt := 4) (oDec_at oX12_line 11 rfl) (by decide) ?_
            have lk39 : ((u37).1 71 38).toInt = (t.1 71 38).toInt := congrArg Int32.toInt (((fu37 71 38 rfl).1).trans ((fu14 71 38 rfl).1))
            have lk40 : ((u37).1 71 42).toInt = (t.1 71 42).toInt := congrArg Int32.toInt (((fu37 71 42 rfl).1).trans ((fu14 71 42 rfl).1))
            have lk41 : ((u37).1 71 1).toInt = (t.1 71 1).toInt := congrArg Int32.toInt (((fu37 71 1 rfl).1).trans ((fu14 71 1 rfl).1))
            have hj := oB1_f ((u37).1 71 5)
            exact (ih (n - 1) (by omega)).1 (u37)   pu37_0 (by omega) (by first | exact pu37_2 | exact oDT_0 (by omega)) (by omega) (by omega) (by omega)
      · intro t x1  iv0 iv1 iv2 iv3 iv4 iv5 hmu
        have rx1 := n_rng x1
        refine r_iload_n C (j := 1) (oDec_at oX12_line 19 rfl) rfl rfl ?_
        refine r_aload_n C (j := 0) (oDec_at oX12_line 20 rfl) rfl rfl ?_
        obtain ⟨v42, ev42⟩ : ∃ z : Int32, (t).1 71 37 = z := ⟨_, rfl⟩
        have gv42 : (t.1 71 37).toInt = v42.toInt := congrArg Int32.toInt (ev42)
        refine r_geti (k := 37) (lo := 0) (hi := 60) C v42 oCl12 rfl (by decide) flX12_231 rfl rfl (ev42) rfl rfl (oDec_at oX12_line 21 rfl) (fun b43 b43h => ?_)
        refine r_icmp_ge C 81 (oDec_at oX12_line 22 rfl) (by decide) (fun cd44 => ?_) (fun cd44 => ?_)
        · skip
          refine r_aload_n C (j := 0) (oDec_at oX12_line 45 rfl) rfl rfl ?_
          refine r_aload_n C (j := 0) (oDec_at oX12_line 46 rfl) rfl rfl ?_
          refine r_geti (k := 37) (lo := 0) (hi := 60) C v42 oCl12 rfl (by decide) flX12_231 rfl rfl (ev42) rfl rfl (oDec_at oX12_line 47 rfl) (fun _ _ => ?_)
          refine r_puti (k := 38) (lo := 0) (hi := 24) C oCl12 rfl (by decide) flX12_261 rfl rfl rfl rfl rfl rfl rfl rfl ⟨by omega, by omega⟩ (oDec_at oX12_line 48 rfl) ?_
          have lk45 : (((pI t 71 38 v42)).1 71 5).toInt = (t.1 71 5).toInt := congrArg Int32.toInt ((pI_ne (a := 71) (b := 5) (c := 71) (k := 38) _ _ (Or.inr (by decide))))
          have lk46 : (((pI t 71 38 v42)).1 71 37).toInt = v42.toInt := congrArg Int32.toInt (((pI_ne (a := 71) (b := 37) (c := 71) (k := 38) _ _ (Or.inr (by decide)))).trans (ev42))
          have lk47 : (((pI t 71 38 v42)).1 71 38).toInt = v42.toInt := congrArg Int32.toInt ((pI_self _ _ _ _))
          have hq48 : oLT ((pI t 71 38 v42)) := oLT_ofD (x := x1) (oCd_fr (oFr_oneI (q := 12) (m := 38) rfl (by rfl)) rfl iv4) (oDT_fr (oFr_oneI (q := 12) (m := 38) rfl (by rfl)) rfl iv0) (by omega) (by omega) (by omega)
          refine r_aload_n C (j := 0) (oDec_at oX12_line 49 rfl) rfl rfl ?_
          refine r_callVv C oCl12 rfl miX12_lies mlX12_264 (ct_X12_lies l E ((pI t 71 38 v42))  hq48) (by decide) rfl rfl rfl (Nat.le_of_ble_eq_true rfl) (oDec_at oX12_line 50 rfl) (fun u49 pu49 fu49 => ?_)
          try dsimp only at pu49
          obtain ⟨pu49_0, pu49_1⟩ := pu49
          have lu51 : ((u49).1 71 38).toInt = v42.toInt := congrArg Int32.toInt (((fu49 71 38 rfl).1).trans ((pI_self _ _ _ _)))
          refine r_pc C 93 rfl ?_
          refine r_aload_n C (j := 0) (oDec_at oX12_line 51 rfl) rfl rfl ?_
          refine r_geti (k := 37) (lo := 0) (hi := 60) C v42 oCl12 rfl (by decide) flX12_231 rfl rfl (((fu49 71 37 rfl).1).trans (((pI_ne (a := 71) (b := 37) (c := 71) (k := 38) _ _ (Or.inr (by decide)))).trans (ev42))) rfl rfl (oDec_at oX12_line 52 rfl) (fun _ _ => ?_)
          have lk52 : ((u49).1 71 38).toInt = v42.toInt := congrArg Int32.toInt (((fu49 71 38 rfl).1).trans ((pI_self _ _ _ _)))
          have lk53 : ((u49).1 71 1).toInt = (t.1 71 1).toInt := congrArg Int32.toInt (((fu49 71 1 rfl).1).trans ((pI_ne (a := 71) (b := 1) (c := 71) (k := 38) _ _ (Or.inr (by decide)))))
          exact r_iret C (oDec_at oX12_line 53 rfl) ⟨_, rfl, ⟨pu49_0, by omega, by omega⟩⟩
        · skip
          refine r_aload_n C (j := 0) (oDec_at oX12_line 23 rfl) rfl rfl ?_
          refine r_getF (k := 39) (b := 99) C oCl12 rfl (by decide) flX12_96 rfl rfl rfl (oDec_at oX12_line 24 rfl) ?_
          refine r_iload_n C (j := 1) (oDec_at oX12_line 25 rfl) rfl rfl ?_
          refine r_aload_n C (j := 0) (oDec_at oX12_line 26 rfl) rfl rfl ?_
          refine r_getF (k := 39) (b := 99) C oCl12 rfl (by decide) flX12_96 rfl rfl rfl (oDec_at oX12_line 27 rfl) ?_
          refine r_bipush C (oDec_at oX12_line 28 rfl) (v := k24) (by rw [qk24]; rfl) ?_
          refine r_pc C 56 rfl ?_
          refine r_iload_n C (j := 1) (oDec_at oX12_line 29 rfl) rfl rfl ?_
          obtain ⟨v54, ev54⟩ : ∃ z : Int32, z = k24 + x1 := ⟨_, rfl⟩
          have hv54 : v54.toInt = k24.toInt + x1.toInt := n_add ev54 (by omega) (by omega)
          refine r_iadd C v54 (oDec_at oX12_line 30 rfl) ev54 ?_
          obtain ⟨v56, ev56⟩ : ∃ z : Int32, (t).1 99 v54.toNatClampNeg = z := ⟨_, rfl⟩
          have gv56 : (t.1 99 v54.toNatClampNeg).toInt = v56.toInt := congrArg Int32.toInt (ev56)
          have rv56 := n_rng v56
          refine r_iald (n := 48) (lo := (-2147483648)) (hi := 2147483647) C v56 rfl (by decide) rfl rfl ⟨by omega, by omega⟩ (by decide) ev56 rfl rfl (oDec_at oX12_line 31 rfl) (fun _ _ => ?_)
          refine r_iast (n := 48) (lo := (-2147483648)) (hi := 2147483647) C rfl (by decide) rfl rfl ⟨by omega, by omega⟩ (by decide) rfl rfl rfl rfl (n_rng _) (oDec_at oX12_line 32 rfl) ?_
          refine r_aload_n C (j := 0) (oDec_at oX12_line 33 rfl) rfl rfl ?_
          refine r_getF (k := 40) (b := 100) C oCl12 rfl (by decide) flX12_99 rfl rfl rfl (oDec_at oX12_line 34 rfl) ?_
          refine r_pc C 64 rfl ?_
          refine r_iload_n C (j := 1) (oDec_at oX12_line 35 rfl) rfl rfl ?_
          refine r_aload_n C (j := 0) (oDec_at oX12_line 36 rfl) rfl rfl ?_
          refine r_getF (k := 40) (b := 100) C oCl12 rfl (by decide) flX12_99 rfl rfl rfl (oDec_at oX12_line 37 rfl) ?_
          refine r_bipush C (oDec_at oX12_line 38 rfl) (v := k24) (by rw [qk24]; rfl) ?_
          refine r_iload_n C (j := 1) (oDec_at oX12_line 39 rfl) rfl rfl ?_
          obtain ⟨v57, ev57⟩ : ∃ z : Int32, z = k24 + x1 := ⟨_, rfl⟩
          have hv57 : v57.toInt = k24.toInt + x1.toInt := n_add ev57 (by omega) (by omega)
          refine r_iadd C v57 (oDec_at oX12_line 40 rfl) ev57 ?_
          refine r_pc C 73 rfl ?_
          obtain ⟨v59, ev59⟩ : ∃ z : Int32, ((pI t 99 x1.toNatClampNeg v56)).1 100 v57.toNatClampNeg = z := ⟨_, rfl⟩
          have av59 : t.1 100 v57.toNatClampNeg = v59 := ((pI_ne (a := 100) (b := v57.toNatClampNeg) (c := 99) _ _ (Or.inl (by decide)))).symm.trans ev59
          have gv59 : (t.1 100 v57.toNatClampNeg).toInt = v59.toInt := congrArg Int32.toInt (((pI_ne (a := 100) (b := v57.toNatClampNeg) (c := 99) _ _ (Or.inl (by decide)))).symm.trans ev59)
          refine r_iald (n := 48) (lo := 0) (hi := 9999) C v59 rfl (by decide) rfl rfl ⟨by omega, by omega⟩ (by decide) ev59 rfl rfl (oDec_at oX12_line 41 rfl) (fun b58 b58h => ?_)
          have hq := oIx24 (i := v57) (x := x1) ev59 (by omega) (by omega)
          refine r_iast (n := 48) (lo := 0) (hi := 9999) C rfl (by decide) rfl rfl ⟨by omega, by omega⟩ (by decide) rfl rfl rfl rfl ⟨by omega, by omega⟩ (oDec_at oX12_line 42 rfl) ?_
          have hq60 : oDT ((pI (pI t 99 x1.toNatClampNeg v56) 100 x1.toNatClampNeg v59)) := oDT_lo (x := x1) (oDT_fr (oFr_oneI (q := 75) (m := 9999) rfl (by rfl)) rfl iv0) (by omega)
          obtain ⟨v61, ev61⟩ : ∃ z : Int32, x1 + Int32.ofInt 1 = z := ⟨_, rfl⟩
          have hv61 : v61.toInt = x1.toInt + 1 := n_inc ev61 (by decide) (by omega) (by omega)
          refine r_iinc C (j := 1) (lv' := [(0, .ref (oad E 71)), (1, .int v61)]) v61 [1, 0] (oDec_at oX12_line 43 rfl) rfl ev61 (by decide) rfl ?_
          refine r_goto C (tgt := 37) (oDec_at oX12_line 44 rfl) (by decide) ?_
          have lk62 : (((pI (pI t 99 x1.toNatClampNeg v56) 100 x1.toNatClampNeg v59)).1 71 5).toInt = (t.1 71 5).toInt := congrArg Int32.toInt (((pI_ne (a := 71) (b := 5) (c := 100) _ _ (Or.inl (by decide)))).trans ((pI_ne (a := 71) (b := 5) (c := 99) _ _ (Or.inl (by decide)))))
          have lk63 : (((pI (pI t 99 x1.toNatClampNeg v56) 100 x1.toNatClampNeg v59)).1 71 37).toInt = v42.toInt := congrArg Int32.toInt (((pI_ne (a := 71) (b := 37) (c := 100) _ _ (Or.inl (by decide)))).trans (((pI_ne (a := 71) (b := 37) (c := 99) _ _ (Or.inl (by decide)))).trans (ev42)))
          have lk64 : (((pI (pI t 99 x1.toNatClampNeg v56) 100 x1.toNatClampNeg v59)).1 71 37).toInt = v42.toInt := congrArg Int32.toInt (((pI_ne (a := 71) (b := 37) (c := 100) _ _ (Or.inl (by decide)))).trans (((pI_ne (a := 71) (b := 37) (c := 99) _ _ (Or.inl (by decide)))).trans (ev42)))
          have lk65 : (((pI (pI t 99 x1.toNatClampNeg v56) 100 x1.toNatClampNeg v59)).1 71 1).toInt = (t.1 71 1).toInt := congrArg Int32.toInt (((pI_ne (a := 71) (b := 1) (c := 100) _ _ (Or.inl (by decide)))).trans ((pI_ne (a := 71) (b := 1) (c := 99) _ _ (Or.inl (by decide)))))
          exact (ih (n - 1) (by omega)).2 ((pI (pI t 99 x1.toNatClampNeg v56) 100 x1.toNatClampNeg v59)) v61  hq60 (by omega) (by omega) (by omega) (by first | exact oCd_step (x := x1) (y := v61) (w := v59) (oCd_fr (oFr_oneI (q := 75) (m := 9999) rfl (by rfl)) rfl iv4) (by omega) (by omega) (by assumption) | exact oCd_0 (by omega)) (by omega) (by omega)
  refine r_aload_n C (j := 0) (oDec_at oX12_line 0 rfl) rfl rfl ?_
  refine r_callVv C oCl12 rfl miX12_begins mlX12_252 (ct_X12_begins l E (s)  ) (by decide) rfl rfl rfl (Nat.le_of_ble_eq_true rfl) (oDec_at oX12_line 1 rfl) (fun u66 pu66 fu66 => ?_)
  try dsimp only at pu66
  obtain ⟨pu66_0, pu66_1, pu66_2, pu66_3, pu66_4⟩ := pu66
  have lk68 : ((u66).1 71 38).toInt = (s.1 71 38).toInt := congrArg Int32.toInt ((fu66 71 38 rfl).1)
  have lk69 : ((u66).1 71 42).toInt = (s.1 71 42).toInt := congrArg Int32.toInt ((fu66 71 42 rfl).1)
  have hj := oB1_f ((u66).1 71 5)
  exact (key (100 + 2 * (25 - ((u66).1 71 37).toInt) + oB1 ((u66).1 71 5)).toNat).1 (u66)   (oLT_fr fu66 rfl hp0) (by omega) (by first | exact (by assumption) | exact oDT_0 (by omega)) (by omega) (by omega) (by omega)
set_option maxHeartbeats 4000000 in
set_option maxRecDepth 100000 in
theorem ct_X12_isTold (l : Launch) (E : oE) (s : oS) (a1 : Int32)  (hp0 : 0 ≤ a1.toInt ∧ a1.toInt ≤ 1600) : oMet l 2 yX12_isTold cX12_isTold 4 (some .boolean) [] E s [.ref (oad E 71), .int a1] (oPi (fun r u => (0 ≤ r.toInt ∧ r.toInt ≤ 1) ∧ (r.toInt = 1 → oTT u))) := by
  refine oMet.of (lv := [(0, .ref (oad E 71)), (1, .int a1)]) (by decide +kernel) (Nat.le_of_ble_eq_true rfl) rfl (fun J C hT => ?_)
  have C : oC l 2 cX12_isTold RX12 4 (some .boolean) [] E s (oPi (fun r u => (0 ≤ r.toInt ∧ r.toInt ≤ 1) ∧ (r.toInt = 1 → oTT u))) J := C
  obtain ⟨k0, qk0⟩ : ∃ z : Int32, z = 0 := ⟨_, rfl⟩
  have ek0 : k0.toInt = 0 := by rw [qk0]; rfl
  obtain ⟨k1, qk1⟩ : ∃ z : Int32, z = 1 := ⟨_, rfl⟩
  have ek1 : k1.toInt = 1 := by rw [qk1]; rfl
  obtain ⟨k2, qk2⟩ : ∃ z : Int32, z = 2 := ⟨_, rfl⟩
  have ek2 : k2.toInt = 2 := by rw [qk2]; rfl
  obtain ⟨k24, qk24⟩ : ∃ z : Int32, z = 24 := ⟨_, rfl⟩
  have ek24 : k24.toInt = 24 := by rw [qk24]; rfl
  obtain ⟨k28, qk28⟩ : ∃ z : Int32, z = 28 := ⟨_, rfl⟩
  have ek28 : k28.toInt = 28 := by rw [qk28]; rfl
  obtain ⟨k96, qk96⟩ : ∃ z : Int32, z = 96 := ⟨_, rfl⟩
  have ek96 : k96.toInt = 96 := by rw [qk96]; rfl
  obtain ⟨k255, qk255⟩ : ∃ z : Int32, z = 255 := ⟨_, rfl⟩
  have ek255 : k255.toInt = 255 := by rw [qk255]; rfl
  obtain ⟨j1, qj1⟩ : ∃ z : Int64, z = 1 := ⟨_, rfl⟩
  have ej1 : j1.toInt = 1 := by rw [qj1]; rfl
  obtain ⟨j16, qj16⟩ : ∃ z : Int64, z = 16 := ⟨_, rfl⟩
  have ej16 : j16.toInt = 16 := by rw [qj16]; rfl
  have rg1 := n_rng a1
  have key : ∀ n : Nat, (∀ (t : oS) (x2 : Int32) (x3 : Int32), (0 ≤ x3.toInt ∧ x3.toInt ≤ 24) → (x3.toInt ≤ (t.1 72 0).toInt ∧ (t.1 72 0).toInt ≤ 24) → (x2.toInt = oSm (fun j => t.1 72 (2 + 2 * j)) x3.toNatClampNeg) → (oTs x3 t) → (0 ≤ x2.toInt ∧ x2.toInt ≤ 300 * x3.toInt) → 25 - x3.toInt ≤ (n : Int) → J t 57 [(0, .ref (oad E 71)), (2, .int x2), (3, .int x3)] []) := by
    intro n
    induction n using Nat.strongRecOn with
    | _ n ih =>
      skip
      · intro t x2 x3  iv0 iv1 iv2 iv3 iv4 hmu
        have rx2 := n_rng x2
        have rx3 := n_rng x3
        refine r_iload_n C (j := 2) (oDec_at oX12_isTold 38 rfl) rfl rfl ?_
        refine r_aload_n C (j := 0) (oDec_at oX12_isTold 39 rfl) rfl rfl ?_
        refine r_getF (k := 0) (b := 72) C oCl12 rfl (by decide) flX12_7 rfl rfl rfl (oDec_at oX12_isTold 40 rfl) ?_
        refine r_iconst C (oDec_at oX12_isTold 41 rfl) (v := k0) (by rw [qk0]; rfl) ?_
        obtain ⟨v2, ev2⟩ : ∃ z : Int32, (t).1 72 k0.toNatClampNeg = z := ⟨_, rfl⟩
        have gv2 : (t.1 72 k0.toNatClampNeg).toInt = v2.toInt := congrArg Int32.toInt (ev2)
        refine r_iald (n := 1600) (lo := 0) (hi := 255) C v2 rfl (by decide) rfl rfl ⟨by omega, by omega⟩ (by decide) ev2 rfl rfl (oDec_at oX12_isTold 42 rfl) (fun b1 b1h => ?_)
        have h72b := oIx0 (i := k0) ev2 ek0
        refine r_icmp_ge C 140 (oDec_at oX12_isTold 43 rfl) (by decide) (fun cd3 => ?_) (fun cd3 => ?_)
        · skip
          refine r_iload_n C (j := 1) (oDec_at oX12_isTold 92 rfl) rfl rfl ?_
          refine r_bipush C (oDec_at oX12_isTold 93 rfl) (v := k96) (by rw [qk96]; rfl) ?_
          refine r_icmp_gt C 150 (oDec_at oX12_isTold 94 rfl) (by decide) (fun cd4 => ?_) (fun cd4 => ?_)
          · skip
            refine r_iconst C (oDec_at oX12_isTold 97 rfl) (v := k0) (by rw [qk0]; rfl) ?_
            exact r_zret C (n_bool (by omega)) (oDec_at oX12_isTold 98 rfl) ⟨_, rfl, ⟨by omega, by first | (intro h; exfalso; omega) | exact fun _ => oTT_of (x := x3) iv3 (by omega) (by omega) (by omega)⟩⟩
          · skip
            refine r_iconst C (oDec_at oX12_isTold 95 rfl) (v := k1) (by rw [qk1]; rfl) ?_
            refine r_goto C (tgt := 151) (oDec_at oX12_isTold 96 rfl) (by decide) ?_
            exact r_zret C (n_bool (by omega)) (oDec_at oX12_isTold 98 rfl) ⟨_, rfl, ⟨by omega, by first | (intro h; exfalso; omega) | exact fun _ => oTT_of (x := x3) iv3 (by omega) (by omega) (by omega)⟩⟩
        · skip
          refine r_aload_n C (j := 0) (oDec_at oX12_isTold 44 rfl) rfl rfl ?_
          refine r_getF (k := 0) (b := 72) C oCl12 rfl (by decide) flX12_7 rfl rfl rfl (oDec_at oX12_isTold 45 rfl) ?_
          refine r_iconst C (oDec_at oX12_isTold 46 rfl) (v := k1) (by rw [qk1]; rfl) ?_
          refine r_iconst C (oDec_at oX12_isTold 47 rfl) (v := k2) (by rw [qk2]; rfl) ?_
          refine r_iload_n C (j := 2) (oDec_at oX12_isTold 48 rfl) rfl rfl ?_
          obtain ⟨v5, ev5⟩ : ∃ z : Int32, z = k2 * x3 := ⟨_, rfl⟩
          have hv5 : v5.toInt = 2 * x3.toInt := n_mulK' 2 ev5 ek2 (by omega) (by omega)
          refine r_imul C v5 (oDec_at oX12_isTold 49 rfl) ev5 ?_
          refine r_pc C 75 rfl ?_
          obtain ⟨v6, ev6⟩ : ∃ z : Int32, z = k1 + v5 := ⟨_, rfl⟩
          have hv6 : v6.toInt = k1.toInt + v5.toInt := n_add ev6 (by omega) (by omega)
          refine r_iadd C v6 (oDec_at oX12_isTold 50 rfl) ev6 ?_
          obtain ⟨v8, ev8⟩ : ∃ z : Int32, (t).1 72 v6.toNatClampNeg = z := ⟨_, rfl⟩
          have gv8 : (t.1 72 v6.toNatClampNeg).toInt = v8.toInt := congrArg Int32.toInt (ev8)
          refine r_iald (n := 1600) (lo := 0) (hi := 255) C v8 rfl (by decide) rfl rfl ⟨by omega, by omega⟩ (by decide) ev8 rfl rfl (oDec_at oX12_isTold 51 rfl) (fun b7 b7h => ?_)
          refine r_bipush C (oDec_at oX12_isTold 52 rfl) (v := k28) (by rw [qk28]; rfl) ?_
          refine r_icmp_le C 98 (oDec_at oX12_isTold 53 rfl) (by decide) (fun cd9 => ?_) (fun cd9 => ?_)
          · skip
            refine r_aload_n C (j := 0) (oDec_at oX12_isTold 64 rfl) rfl rfl ?_
            refine r_getF (k := 0) (b := 72) C oCl12 rfl (by decide) flX12_7 rfl rfl rfl (oDec_at oX12_isTold 65 rfl) ?_
            refine r_iconst C (oDec_at oX12_isTold 66 rfl) (v := k2) (by rw [qk2]; rfl) ?_
            refine r_iconst C (oDec_at oX12_isTold 67 rfl) (v := k2) (by rw [qk2]; rfl) ?_
            refine r_iload_n C (j := 2) (oDec_at oX12_isTold 68 rfl) rfl rfl ?_
            obtain ⟨v10, ev10⟩ : ∃ z : Int32, z = k2 * x3 := ⟨_, rfl⟩
            have hv10 : v10.toInt = 2 * x3.toInt := n_mulK' 2 ev10 ek2 (by omega) (by omega)
            refine r_imul C v10 (oDec_at oX12_isTold 69 rfl) ev10 ?_
            refine r_pc C 106 rfl ?_
            obtain ⟨v11, ev11⟩ : ∃ z : Int32, z = k2 + v10 := ⟨_, rfl⟩
            have hv11 : v11.toInt = k2.toInt + v10.toInt := n_add ev11 (by omega) (by omega)
            refine r_iadd C v11 (oDec_at oX12_isTold 70 rfl) ev11 ?_
            obtain ⟨v13, ev13⟩ : ∃ z : Int32, (t).1 72 v11.toNatClampNeg = z := ⟨_, rfl⟩
            have gv13 : (t.1 72 v11.toNatClampNeg).toInt = v13.toInt := congrArg Int32.toInt (ev13)
            refine r_iald (n := 1600) (lo := 0) (hi := 255) C v13 rfl (by decide) rfl rfl ⟨by omega, by omega⟩ (by decide) ev13 rfl rfl (oDec_at oX12_isTold 71 rfl) (fun b12 b12h => ?_)
            have hq1 := congrArg Int32.toInt (oIx72 (i := v11) (x := x3) ev13 (by omega) (by omega))
            obtain ⟨v14, ev14⟩ : ∃ z : Int64, v13.toInt64 = z := ⟨_, rfl⟩
            have hv14 : v14.toInt = v13.toInt := n_i2l ev14
            refine r_i2l C v14 (oDec_at oX12_isTold 72 rfl) ev14 ?_
            refine r_lconst C (oDec_at oX12_isTold 73 rfl) (v := j1) (by rw [qj1]; rfl) ?_
            refine r_ldc2 C (v := j16) (by rw [qj16]; exact klX12_595) (oDec_at oX12_isTold 74 rfl) ?_
            refine r_callSi C miX12_isIn mlX12_216 (ct_X12_isIn l E (t) v14 j1 j16 ) (by decide) rfl rfl rfl (Nat.le_of_ble_eq_true rfl) (oDec_at oX12_isTold 75 rfl) (fun r16 u15 pu15 fu15 => ?_)
            try dsimp only at pu15
            obtain ⟨pu15_0, pu15_1⟩ := pu15
            have hxu15 := oFr_nil fu15; subst hxu15
            have rr16 := n_rng r16
            refine r_pc C 116 rfl ?_
            refine r_if_ne C 121 (oDec_at oX12_isTold 76 rfl) (by decide) (fun cd17 => ?_) (fun cd17 => ?_)
            · skip
              refine r_iload_n C (j := 1) (oDec_at oX12_isTold 79 rfl) rfl rfl ?_
              refine r_aload_n C (j := 0) (oDec_at oX12_isTold 80 rfl) rfl rfl ?_
              refine r_getF (k := 0) (b := 72) C oCl12 rfl (by decide) flX12_7 rfl rfl rfl (oDec_at oX12_isTold 81 rfl) ?_
              refine r_iconst C (oDec_at oX12_isTold 82 rfl) (v := k2) (by rw [qk2]; rfl) ?_
              refine r_iconst C (oDec_at oX12_isTold 83 rfl) (v := k2) (by rw [qk2]; rfl) ?_
              refine r_iload_n C (j := 2) (oDec_at oX12_isTold 84 rfl) rfl rfl ?_
              refine r_pc C 129 rfl ?_
              obtain ⟨v18, ev18⟩ : ∃ z : Int32, z = k2 * x3 := ⟨_, rfl⟩
              have hv18 : v18.toInt = 2 * x3.toInt := n_mulK' 2 ev18 ek2 (by omega) (by omega)
              refine r_imul C v18 (oDec_at oX12_isTold 85 rfl) ev18 ?_
              obtain ⟨v19, ev19⟩ : ∃ z : Int32, z = k2 + v18 := ⟨_, rfl⟩
              have hv19 : v19.toInt = k2.toInt + v18.toInt := n_add ev19 (by omega) (by omega)
              refine r_iadd C v19 (oDec_at oX12_isTold 86 rfl) ev19 ?_
              obtain ⟨v21, ev21⟩ : ∃ z : Int32, (t).1 72 v19.toNatClampNeg = z := ⟨_, rfl⟩
              have gv21 : (t.1 72 v19.toNatClampNeg).toInt = v21.toInt := congrArg Int32.toInt (ev21)
              refine r_iald (n := 1600) (lo := 0) (hi := 255) C v21 rfl (by decide) rfl rfl ⟨by omega, by omega⟩ (by decide) ev21 rfl rfl (oDec_at oX12_isTold 87 rfl) (fun b20 b20h => ?_)
              have hq2 := congrArg Int32.toInt (oIx72 (i := v19) (x := x3) ev21 (by omega) (by omega))
              obtain ⟨v22, ev22⟩ : ∃ z : Int32, z = x2 + v21 := ⟨_, rfl⟩
              have hv22 : v22.toInt = x2.toInt + v21.toInt := n_add ev22 (by omega) (by omega)
              refine r_iadd C v22 (oDec_at oX12_isTold 88 rfl) ev22 ?_
              refine r_istore_n C (lv' := [(0, .ref (oad E 71)), (2, .int v22), (3, .int x3)]) [1, 0, 2] (oDec_at oX12_isTold 89 rfl) rfl (by decide) rfl ?_
              obtain ⟨v23, ev23⟩ : ∃ z : Int32, x3 + Int32.ofInt 1 = z := ⟨_, rfl⟩
              have hv23 : v23.toInt = x3.toInt + 1 := n_inc ev23 (by decide) (by omega) (by omega)
              refine r_iinc C (j := 2) (lv' := [(0, .ref (oad E 71)), (2, .int v22), (3, .int v23)]) v23 [1, 2, 0] (oDec_at oX12_isTold 90 rfl) rfl ev23 (by decide) rfl ?_
              refine r_pc C 137 rfl ?_
              refine r_goto C (tgt := 57) (oDec_at oX12_isTold 91 rfl) (by decide) ?_
              exact (ih (n - 1) (by omega)) (t) v22 v23  (by omega) (by omega) (by first | (have e2 := oSt_succ (s := t) (x := x3) (y := v23) (by omega) (by omega); omega) | (have e0 := oSm_at0 (f := fun j => (t).1 72 (2 + 2 * j)) (x := v23) (by omega); omega)) (by first | exact oTs_step (x := x3) (y := v23) iv3 (by omega) (by omega) (by omega) | exact oTs_0 (by omega)) (by omega) (by omega)
            · skip
              refine r_iconst C (oDec_at oX12_isTold 77 rfl) (v := k0) (by rw [qk0]; rfl) ?_
              exact r_zret C (n_bool (by omega)) (oDec_at oX12_isTold 78 rfl) ⟨_, rfl, ⟨by omega, by first | (intro h; exfalso; omega) | exact fun _ => oTT_of (x := x3) iv3 (by omega) (by omega) (by omega)⟩⟩
          · skip
            refine r_aload_n C (j := 0) (oDec_at oX12_isTold 54 rfl) rfl rfl ?_
            refine r_getF (k := 0) (b := 72) C oCl12 rfl (by decide) flX12_7 rfl rfl rfl (oDec_at oX12_isTold 55 rfl) ?_
            refine r_iconst C (oDec_at oX12_isTold 56 rfl) (v := k1) (by rw [qk1]; rfl) ?_
            refine r_iconst C (oDec_at oX12_isTold 57 rfl) (v := k2) (by rw [qk2]; rfl) ?_
            refine r_iload_n C (j := 2) (oDec_at oX12_isTold 58 rfl) rfl rfl ?_
            obtain ⟨v24, ev24⟩ : ∃ z : Int32, z = k2 * x3 := ⟨_, rfl⟩
            have hv24 : v24.toInt = 2 * x3.toInt := n_mulK' 2 ev24 ek2 (by omega) (by omega)
            refine r_imul C v24 (oDec_at oX12_isTold 59 rfl) ev24 ?_
            refine r_pc C 90 rfl ?_
            obtain ⟨v25, ev25⟩ : ∃ z : Int32, z = k1 + v24 := ⟨_, rfl⟩
            have hv25 : v25.toInt = k1.toInt + v24.toInt := n_add ev25 (by omega) (by omega)
            refine r_iadd C v25 (oDec_at oX12_isTold 60 rfl) ev25 ?_
            obtain ⟨v27, ev27⟩ : ∃ z : Int32, (t).1 72 v25.toNatClampNeg = z := ⟨_, rfl⟩
            have gv27 : (t.1 72 v25.toNatClampNeg).toInt = v27.toInt := congrArg Int32.toInt (ev27)
            refine r_iald (n := 1600) (lo := 0) (hi := 255) C v27 rfl (by decide) rfl rfl ⟨by omega, by omega⟩ (by decide) ev27 rfl rfl (oDec_at oX12_isTold 61 rfl) (fun b26 b26h => ?_)
            refine r_sipush C (oDec_at oX12_isTold 62 rfl) (v := k255) (by rw [qk255]; rfl) ?_
            refine r_icmp_ne C 119 (oDec_at oX12_isTold 63 rfl) (by decide) (fun cd28 => ?_) (fun cd28 => ?_)
            · skip
              refine r_iconst C (oDec_at oX12_isTold 77 rfl) (v := k0) (by rw [qk0]; rfl) ?_
              exact r_zret C (n_bool (by omega)) (oDec_at oX12_isTold 78 rfl) ⟨_, rfl, ⟨by omega, by first | (intro h; exfalso; omega) | exact fun _ => oTT_of (x := x3) iv3 (by omega) (by omega) (by omega)⟩⟩
            · skip
              refine r_aload_n C (j := 0) (oDec_at oX12_isTold 64 rfl) rfl rfl ?_
              refine r_getF (k := 0) (b := 72) C oCl12 rfl (by decide) flX12_7 rfl rfl rfl (oDec_at oX12_isTold 65 rfl) ?_
              refine r_iconst C (oDec_at oX12_isTold 66 rfl) (v := k2) (by rw [qk2]; rfl) ?_
              refine r_iconst C (oDec_at oX12_isTold 67 rfl) (v := k2) (by rw [qk2]; rfl) ?_
              refine r_iload_n C (j := 2) (oDec_at oX12_isTold 68 rfl) rfl rfl ?_
              obtain ⟨v29, ev29⟩ : ∃ z : Int32, z = k2 * x3 := ⟨_, rfl⟩
              have hv29 : v29.toInt = 2 * x3.toInt := n_mulK' 2 ev29 ek2 (by omega) (by omega)
              refine r_imul C v29 (oDec_at oX12_isTold 69 rfl) ev29 ?_
              refine r_pc C 106 rfl ?_
              obtain ⟨v30, ev30⟩ : ∃ z : Int32, z = k2 + v29 := ⟨_, rfl⟩
              have hv30 : v30.toInt = k2.toInt + v29.toInt := n_add ev30 (by omega) (by omega)
              refine r_iadd C v30 (oDec_at oX12_isTold 70 rfl) ev30 ?_
              obtain ⟨v32, ev32⟩ : ∃ z : Int32, (t).1 72 v30.toNatClampNeg = z := ⟨_, rfl⟩
              have gv32 : (t.1 72 v30.toNatClampNeg).toInt = v32.toInt := congrArg Int32.toInt (ev32)
              refine r_iald (n := 1600) (lo := 0) (hi := 255) C v32 rfl (by decide) rfl rfl ⟨by omega, by omega⟩ (by decide) ev32 rfl rfl (oDec_at oX12_isTold 71 rfl) (fun b31 b31h => ?_)
              have hq1 := congrArg Int32.toInt (oIx72 (i := v30) (x := x3) ev32 (by omega) (by omega))
              obtain ⟨v33, ev33⟩ : ∃ z : Int64, v32.toInt64 = z := ⟨_, rfl⟩
              have hv33 : v33.toInt = v32.toInt := n_i2l ev33
              refine r_i2l C v33 (oDec_at oX12_isTold 72 rfl) ev33 ?_
              refine r_lconst C (oDec_at oX12_isTold 73 rfl) (v := j1) (by rw [qj1]; rfl) ?_
              refine r_ldc2 C (v := j16) (by rw [qj16]; exact klX12_595) (oDec_at oX12_isTold 74 rfl) ?_
              refine r_callSi C miX12_isIn mlX12_216 (ct_X12_isIn l E (t) v33 j1 j16 ) (by decide) rfl rfl rfl (Nat.le_of_ble_eq_true rfl) (oDec_at oX12_isTold 75 rfl) (fun r35 u34 pu34 fu34 => ?_)
              try dsimp only at pu34
              obtain ⟨pu34_0, pu34_1⟩ := pu34
              have hxu34 := oFr_nil fu34; subst hxu34
              have rr35 := n_rng r35
              refine r_pc C 116 rfl ?_
              refine r_if_ne C 121 (oDec_at oX12_isTold 76 rfl) (by decide) (fun cd36 => ?_) (fun cd36 => ?_)
              · skip
                refine r_iload_n C (j := 1) (oDec_at oX12_isTold 79 rfl) rfl rfl ?_
                refine r_aload_n C (j := 0) (oDec_at oX12_isTold 80 rfl) rfl rfl ?_
                refine r_getF (k := 0) (b := 72) C oCl12 rfl (by decide) flX12_7 rfl rfl rfl (oDec_at oX12_isTold 81 rfl) ?_
                refine r_iconst C (oDec_at oX12_isTold 82 rfl) (v := k2) (by rw [qk2]; rfl) ?_
                refine r_iconst C (oDec_at oX12_isTold 83 rfl) (v := k2) (by rw [qk2]; rfl) ?_
                refine r_iload_n C (j := 2) (oDec_at oX12_isTold 84 rfl) rfl rfl ?_
                refine r_pc C 129 rfl ?_
                obtain ⟨v37, ev37⟩ : ∃ z : Int32, z = k2 * x3 := ⟨_, rfl⟩
                have hv37 : v37.toInt = 2 * x3.toInt := n_mulK' 2 ev37 ek2 (by omega) (by omega)
                refine r_imul C v37 (oDec_at oX12_isTold 85 rfl) ev37 ?_
                obtain ⟨v38, ev38⟩ : ∃ z : Int32, z = k2 + v37 := ⟨_, rfl⟩
                have hv38 : v38.toInt = k2.toInt + v37.toInt := n_add ev38 (by omega) (by omega)
                refine r_iadd C v38 (oDec_at oX12_isTold 86 rfl) ev38 ?_
                obtain ⟨v40, ev40⟩ : ∃ z : Int32, (t).1 72 v38.toNatClampNeg = z := ⟨_, rfl⟩
                have gv40 : (t.1 72 v38.toNatClampNeg).toInt = v40.toInt := congrArg Int32.toInt (ev40)
                refine r_iald (n := 1600) (lo := 0) (hi := 255) C v40 rfl (by decide) rfl rfl ⟨by omega, by omega⟩ (by decide) ev40 rfl rfl (oDec_at oX12_isTold 87 rfl) (fun b39 b39h => ?_)
                have hq2 := congrArg Int32.toInt (oIx72 (i := v38) (x := x3) ev40 (by omega) (by omega))
                obtain ⟨v41, ev41⟩ : ∃ z : Int32, z = x2 + v40 := ⟨_, rfl⟩
                have hv41 : v41.toInt = x2.toInt + v40.toInt := n_add ev41 (by omega) (by omega)
                refine r_iadd C v41 (oDec_at oX12_isTold 88 rfl) ev41 ?_
                refine r_istore_n C (lv' := [(0, .ref (oad E 71)), (2, .int v41), (3, .int x3)]) [1, 0, 2] (oDec_at oX12_isTold 89 rfl) rfl (by decide) rfl ?_
                obtain ⟨v42, ev42⟩ : ∃ z : Int32, x3 + Int32.ofInt 1 = z := ⟨_, rfl⟩
                have hv42 : v42.toInt = x3.toInt + 1 := n_inc ev42 (by decide) (by omega) (by omega)
                refine r_iinc C (j := 2) (lv' := [(0, .ref (oad E 71)), (2, .int v41), (3, .int v42)]) v42 [1, 2, 0] (oDec_at oX12_isTold 90 rfl) rfl ev42 (by decide) rfl ?_
                refine r_pc C 137 rfl ?_
                refine r_goto C (tgt := 57) (oDec_at oX12_isTold 91 rfl) (by decide) ?_
                exact (ih (n - 1) (by omega)) (t) v41 v42  (by omega) (by omega) (by first | (have e2 := oSt_succ (s := t) (x := x3) (y := v42) (by omega) (by omega); omega) | (have e0 := oSm_at0 (f := fun j => (t).1 72 (2 + 2 * j)) (x := v42) (by omega); omega)) (by first | exact oTs_step (x := x3) (y := v42) iv3 (by omega) (by omega) (by omega) | exact oTs_0 (by omega)) (by omega) (by omega)
              · skip
                refine r_iconst C (oDec_at oX12_isTold 77 rfl) (v := k0) (by rw [qk0]; rfl) ?_
                exact r_zret C (n_bool (by omega)) (oDec_at oX12_isTold 78 rfl) ⟨_, rfl, ⟨by omega, by first | (intro h; exfalso; omega) | exact fun _ => oTT_of (x := x3) iv3 (by omega) (by omega) (by omega)⟩⟩
  refine r_iload_n C (j := 1) (oDec_at oX12_isTold 0 rfl) rfl rfl ?_
  refine r_iconst C (oDec_at oX12_isTold 1 rfl) (v := k2) (by rw [qk2]; rfl) ?_
  refine r_icmp_lt C 51 (oDec_at oX12_isTold 2 rfl) (by decide) (fun cd43 => ?_) (fun cd43 => ?_)
  · skip
    refine r_iconst C (oDec_at oX12_isTold 32 rfl) (v := k0) (by rw [qk0]; rfl) ?_
    exact r_zret C (n_bool (by omega)) (oDec_at oX12_isTold 33 rfl) ⟨_, rfl, ⟨by omega, by first | (intro h; exfalso; omega)⟩⟩
  · skip
    refine r_aload_n C (j := 0) (oDec_at oX12_isTold 3 rfl) rfl rfl ?_
    refine r_getF (k := 0) (b := 72) C oCl12 rfl (by decide) flX12_7 rfl rfl rfl (oDec_at oX12_isTold 4 rfl) ?_
    refine r_iconst C (oDec_at oX12_isTold 5 rfl) (v := k0) (by rw [qk0]; rfl) ?_
    obtain ⟨v45, ev45⟩ : ∃ z : Int32, (s).1 72 k0.toNatClampNeg = z := ⟨_, rfl⟩
    have gv45 : (s.1 72 k0.toNatClampNeg).toInt = v45.toInt := congrArg Int32.toInt (ev45)
    refine r_iald (n := 1600) (lo := 0) (hi := 255) C v45 rfl (by decide) rfl rfl ⟨by omega, by omega⟩ (by decide) ev45 rfl rfl (oDec_at oX12_isTold 6 rfl) (fun b44 b44h => ?_)
    have h72 := oIx0 (i := k0) ev45 ek0
    refine r_bipush C (oDec_at oX12_isTold 7 rfl) (v := k24) (by rw [qk24]; rfl) ?_
    refine r_icmp_gt C 51 (oDec_at oX12_isTold 8 rfl) (by decide) (fun cd46 => ?_) (fun cd46 => ?_)
    · skip
      refine r_iconst C (oDec_at oX12_isTold 32 rfl) (v := k0) (by rw [qk0]; rfl) ?_
      exact r_zret C (n_bool (by omega)) (oDec_at oX12_isTold 33 rfl) ⟨_, rfl, ⟨by omega, by first | (intro h; exfalso; omega)⟩⟩
    · skip
      refine r_iload_n C (j := 1) (oDec_at oX12_isTold 9 rfl) rfl rfl ?_
      refine r_iconst C (oDec_at oX12_isTold 10 rfl) (v := k2) (by rw [qk2]; rfl) ?_
      refine r_aload_n C (j := 0) (oDec_at oX12_isTold 11 rfl) rfl rfl ?_
      refine r_getF (k := 0) (b := 72) C oCl12 rfl (by decide) flX12_7 rfl rfl rfl (oDec_at oX12_isTold 12 rfl) ?_
      refine r_iconst C (oDec_at oX12_isTold 13 rfl) (v := k0) (by rw [qk0]; rfl) ?_
      refine r_iald (n := 1600) (lo := 0) (hi := 255) C v45 rfl (by decide) rfl rfl ⟨by omega, by omega⟩ (by decide) (ev45) rfl rfl (oDec_at oX12_isTold 14 rfl) (fun b47 b47h => ?_)
      refine r_pc C 24 rfl ?_
      obtain ⟨v48, ev48⟩ : ∃ z : Int32, z = k2 * v45 := ⟨_, rfl⟩
      have hv48 : v48.toInt = 2 * v45.toInt := n_mulK' 2 ev48 ek2 (by omega) (by omega)
      refine r_imul C v48 (oDec_at oX12_isTold 15 rfl) ev48 ?_
      refine r_iconst C (oDec_at oX12_isTold 16 rfl) (v := k2) (by rw [qk2]; rfl) ?_
      obtain ⟨v49, ev49⟩ : ∃ z : Int32, z = v48 + k2 := ⟨_, rfl⟩
      have hv49 : v49.toInt = v48.toInt + k2.toInt := n_add ev49 (by omega) (by omega)
      refine r_iadd C v49 (oDec_at oX12_isTold 17 rfl) ev49 ?_
      refine r_icmp_ne C 51 (oDec_at oX12_isTold 18 rfl) (by decide) (fun cd50 => ?_) (fun cd50 => ?_)
      · skip
        refine r_iconst C (oDec_at oX12_isTold 32 rfl) (v := k0) (by rw [qk0]; rfl) ?_
        exact r_zret C (n_bool (by omega)) (oDec_at oX12_isTold 33 rfl) ⟨_, rfl, ⟨by omega, by first | (intro h; exfalso; omega)⟩⟩
      · skip
        refine r_aload_n C (j := 0) (oDec_at oX12_isTold 19 rfl) rfl rfl ?_
        refine r_getF (k := 0) (b := 72) C oCl12 rfl (by decide) flX12_7 rfl rfl rfl (oDec_at oX12_isTold 20 rfl) ?_
        refine r_iload_n C (j := 1) (oDec_at oX12_isTold 21 rfl) rfl rfl ?_
        refine r_iconst C (oDec_at oX12_isTold 22 rfl) (v := k1) (by rw [qk1]; rfl) ?_
        obtain ⟨v51, ev51⟩ : ∃ z : Int32, z = a1 - k1 := ⟨_, rfl⟩
        have hv51 : v51.toInt = a1.toInt - k1.toInt := n_sub ev51 (by omega) (by omega)
        refine r_isub C v51 (oDec_at oX12_isTold 23 rfl) ev51 ?_
        obtain ⟨v53, ev53⟩ : ∃ z : Int32, (s).1 72 v51.toNatClampNeg = z := ⟨_, rfl⟩
        have gv53 : (s.1 72 v51.toNatClampNeg).toInt = v53.toInt := congrArg Int32.toInt (ev53)
        refine r_iald (n := 1600) (lo := 0) (hi := 255) C v53 rfl (by decide) rfl rfl ⟨by omega, by omega⟩ (by decide) ev53 rfl rfl (oDec_at oX12_isTold 24 rfl) (fun b52 b52h => ?_)
        refine r_pc C 38 rfl ?_
        refine r_aload_n C (j := 0) (oDec_at oX12_isTold 25 rfl) rfl rfl ?_
        refine r_getF (k := 0) (b := 72) C oCl12 rfl (by decide) flX12_7 rfl rfl rfl (oDec_at oX12_isTold 26 rfl) ?_
        refine r_iload_n C (j := 1) (oDec_at oX12_isTold 27 rfl) rfl rfl ?_
        refine r_iconst C (oDec_at oX12_isTold 28 rfl) (v := k1) (by rw [qk1]; rfl) ?_
        obtain ⟨v54, ev54⟩ : ∃ z : Int32, z = a1 - k1 := ⟨_, rfl⟩
        have hv54 : v54.toInt = a1.toInt - k1.toInt := n_sub ev54 (by omega) (by omega)
        refine r_isub C v54 (oDec_at oX12_isTold 29 rfl) ev54 ?_
        refine r_callSi C miX12_checked mlX12_591 (ct_X12_checked l E (s) 72 48 1600 rfl (by decide) (by decide) rfl rfl v54 (by omega) (by omega)) (by decide) rfl rfl rfl (Nat.le_of_ble_eq_true rfl) (oDec_at oX12_isTold 30 rfl) (fun r56 u55 pu55 fu55 => ?_)
        try dsimp only at pu55
        have hxu55 := oFr_nil fu55; subst hxu55
        have rr56 := n_rng r56
        refine r_pc C 48 rfl ?_
        refine r_icmp_eq C 53 (oDec_at oX12_isTold 31 rfl) (by decide) (fun cd57 => ?_) (fun cd57 => ?_)
        · skip
          refine r_iconst C (oDec_at oX12_isTold 34 rfl) (v := k0) (by rw [qk0]; rfl) ?_
          refine r_istore_n C (lv' := [(0, .ref (oad E 71)), (1, .int a1), (2, .int k0)]) [1, 2, 0] (oDec_at oX12_isTold 35 rfl) rfl (by decide) rfl ?_
          refine r_iconst C (oDec_at oX12_isTold 36 rfl) (v := k0) (by rw [qk0]; rfl) ?_
          refine r_istore_n C (lv' := [(0, .ref (oad E 71)), (1, .int a1), (2, .int k0), (3, .int k0)]) [1, 2, 3, 0] (oDec_at oX12_isTold 37 rfl) rfl (by decide) rfl ?_
          refine r_pick C [0, 2, 3] rfl ?_
          exact (key (25 - k0.toInt).toNat) (s) k0 k0  (by omega) (by omega) (by first | (have e0 := oSm_at0 (f := fun j => (s).1 72 (2 + 2 * j)) (x := k0) (by omega); omega)) (by first | exact oTs_0 (by omega)) (by omega) (by omega)
        · skip
          refine r_iconst C (oDec_at oX12_isTold 32 rfl) (v := k0) (by rw [qk0]; rfl) ?_
          exact r_zret C (n_bool (by omega)) (oDec_at oX12_isTold 33 rfl) ⟨_, rfl, ⟨by omega, by first | (intro h; exfalso; omega)⟩⟩
set_option maxHeartbeats 4000000 in
set_option maxRecDepth 100000 in
theorem ct_X12_on (l : Launch) (E : oE) (s : oS)   (hp0 : oLT s) (hp1 : 1 ≤ (s.1 71 38).toInt → 1 ≤ (s.1 71 42).toInt) : oMet l 3 yX12_on cX12_on 3 (some .boolean) [(12, 1), (12, 38), (12, 42), (12, 43), (12, 69), (75, 9999), (76, 9999), (77, 9999)] E s [.ref (oad E 71)] (oPi (fun r u => (0 ≤ r.toInt ∧ r.toInt ≤ 1) ∧ (oLT u) ∧ (1 ≤ (u.1 71 38).toInt → 1 ≤ (u.1 71 42).toInt) ∧ ((u.1 71 1).toInt = 0))) := by
  refine oMet.of (lv := [(0, .ref (oad E 71))]) (by decide +kernel) (Nat.le_of_ble_eq_true rfl) rfl (fun J C hT => ?_)
  have C : oC l 3 cX12_on RX12 3 (some .boolean) [(12, 1), (12, 38), (12, 42), (12, 43), (12, 69), (75, 9999), (76, 9999), (77, 9999)] E s (oPi (fun r u => (0 ≤ r.toInt ∧ r.toInt ≤ 1) ∧ (oLT u) ∧ (1 ≤ (u.1 71 38).toInt → 1 ≤ (u.1 71 42).toInt) ∧ ((u.1 71 1).toInt = 0))) J := C
  obtain ⟨km1, qkm1⟩ : ∃ z : Int32, z = (-1) := ⟨_, rfl⟩
  have ekm1 : km1.toInt = (-1) := by rw [qkm1]; rfl
  obtain ⟨k0, qk0⟩ : ∃ z : Int32, z = 0 := ⟨_, rfl⟩
  have ek0 : k0.toInt = 0 := by rw [qk0]; rfl
  obtain ⟨k1, qk1⟩ : ∃ z : Int32, z = 1 := ⟨_, rfl⟩
  have ek1 : k1.toInt = 1 := by rw [qk1]; rfl
  obtain ⟨k2, qk2⟩ : ∃ z : Int32, z = 2 := ⟨_, rfl⟩
  have ek2 : k2.toInt = 2 := by rw [qk2]; rfl
  obtain ⟨k255, qk255⟩ : ∃ z : Int32, z = 255 := ⟨_, rfl⟩
  have ek255 : k255.toInt = 255 := by rw [qk255]; rfl
  have key : ∀ n : Nat, (∀ (t : oS) (x2 : Int32), (oTT t) → (oN0 t) → (0 ≤ x2.toInt ∧ x2.toInt ≤ (t.1 71 38).toInt) → ((t.1 71 38).toInt ≤ 24) → (oTc x2 t) → ((t.1 71 1).toInt = 0) → 25 - x2.toInt ≤ (n : Int) → J t 32 [(0, .ref (oad E 71)), (2, .int x2)] []) := by
    intro n
    induction n using Nat.strongRecOn with
    | _ n ih =>
      skip
      · intro t x2  iv0 iv1 iv2 iv3 iv4 iv5 hmu
        have rx2 := n_rng x2
        refine r_iload_n C (j := 1) (oDec_at oX12_on 20 rfl) rfl rfl ?_
        refine r_aload_n C (j := 0) (oDec_at oX12_on 21 rfl) rfl rfl ?_
        obtain ⟨v1, ev1⟩ : ∃ z : Int32, (t).1 71 38 = z := ⟨_, rfl⟩
        have gv1 : (t.1 71 38).toInt = v1.toInt := congrArg Int32.toInt (ev1)
        refine r_geti (k := 38) (lo := 0) (hi := 24) C v1 oCl12 rfl (by decide) flX12_261 rfl rfl (ev1) rfl rfl (oDec_at oX12_on 22 rfl) (fun b2 b2h => ?_)
        refine r_icmp_ge C 98 (oDec_at oX12_on 23 rfl) (by decide) (fun cd3 => ?_) (fun cd3 => ?_)
        · skip
          have hq4 : oLT (t) := oLT_ofT (x := x2) iv4 iv0 (by omega) iv1
          refine r_aload_n C (j := 0) (oDec_at oX12_on 62 rfl) rfl rfl ?_
          refine r_callVv C oCl12 rfl miX12_lies mlX12_264 (ct_X12_lies l E (t)  hq4) (by decide) rfl rfl rfl (Nat.le_of_ble_eq_true rfl) (oDec_at oX12_on 63 rfl) (fun u5 pu5 fu5 => ?_)
          try dsimp only at pu5
          obtain ⟨pu5_0, pu5_1⟩ := pu5
          have lu7 : ((u5).1 71 38).toInt = v1.toInt := congrArg Int32.toInt (((fu5 71 38 rfl).1).trans (ev1))
          refine r_iconst C (oDec_at oX12_on 64 rfl) (v := k1) (by rw [qk1]; rfl) ?_
          have lk8 : ((u5).1 71 38).toInt = v1.toInt := congrArg Int32.toInt (((fu5 71 38 rfl).1).trans (ev1))
          have lk9 : ((u5).1 71 1).toInt = (t.1 71 1).toInt := congrArg Int32.toInt ((fu5 71 1 rfl).1)
          exact r_zret C (n_bool (by omega)) (oDec_at oX12_on 65 rfl) ⟨_, rfl, ⟨by omega, pu5_0, by omega, by omega⟩⟩
        · skip
          refine r_aload_n C (j := 0) (oDec_at oX12_on 24 rfl) rfl rfl ?_
          refine r_getF (k := 39) (b := 99) C oCl12 rfl (by decide) flX12_96 rfl rfl rfl (oDec_at oX12_on 25 rfl) ?_
          refine r_iload_n C (j := 1) (oDec_at oX12_on 26 rfl) rfl rfl ?_
          refine r_aload_n C (j := 0) (oDec_at oX12_on 27 rfl) rfl rfl ?_
          refine r_getF (k := 0) (b := 72) C oCl12 rfl (by decide) flX12_7 rfl rfl rfl (oDec_at oX12_on 28 rfl) ?_
          refine r_iconst C (oDec_at oX12_on 29 rfl) (v := k1) (by rw [qk1]; rfl) ?_
          refine r_pc C 50 rfl ?_
          refine r_iconst C (oDec_at oX12_on 30 rfl) (v := k2) (by rw [qk2]; rfl) ?_
          refine r_iload_n C (j := 1) (oDec_at oX12_on 31 rfl) rfl rfl ?_
          obtain ⟨v10, ev10⟩ : ∃ z : Int32, z = k2 * x2 := ⟨_, rfl⟩
          have hv10 : v10.toInt = 2 * x2.toInt := n_mulK' 2 ev10 ek2 (by omega) (by omega)
          refine r_imul C v10 (oDec_at oX12_on 32 rfl) ev10 ?_
          obtain ⟨v11, ev11⟩ : ∃ z : Int32, z = k1 + v10 := ⟨_, rfl⟩
          have hv11 : v11.toInt = k1.toInt + v10.toInt := n_add ev11 (by omega) (by omega)
          refine r_iadd C v11 (oDec_at oX12_on 33 rfl) ev11 ?_
          obtain ⟨v13, ev13⟩ : ∃ z : Int32, (t).1 72 v11.toNatClampNeg = z := ⟨_, rfl⟩
          have gv13 : (t.1 72 v11.toNatClampNeg).toInt = v13.toInt := congrArg Int32.toInt (ev13)
          refine r_iald (n := 1600) (lo := 0) (hi := 255) C v13 rfl (by decide) rfl rfl ⟨by omega, by omega⟩ (by decide) ev13 rfl rfl (oDec_at oX12_on 34 rfl) (fun b12 b12h => ?_)
          refine r_sipush C (oDec_at oX12_on 35 rfl) (v := k255) (by rw [qk255]; rfl) ?_
          refine r_pc C 58 rfl ?_
          refine r_icmp_ne C 65 (oDec_at oX12_on 36 rfl) (by decide) (fun cd14 => ?_) (fun cd14 => ?_)
          · skip
            refine r_aload_n C (j := 0) (oDec_at oX12_on 39 rfl) rfl rfl ?_
            refine r_getF (k := 0) (b := 72) C oCl12 rfl (by decide) flX12_7 rfl rfl rfl (oDec_at oX12_on 40 rfl) ?_
            refine r_iconst C (oDec_at oX12_on 41 rfl) (v := k1) (by rw [qk1]; rfl) ?_
            refine r_iconst C (oDec_at oX12_on 42 rfl) (v := k2) (by rw [qk2]; rfl) ?_
            refine r_iload_n C (j := 1) (oDec_at oX12_on 43 rfl) rfl rfl ?_
            obtain ⟨v15, ev15⟩ : ∃ z : Int32, z = k2 * x2 := ⟨_, rfl⟩
            have hv15 : v15.toInt = 2 * x2.toInt := n_mulK' 2 ev15 ek2 (by omega) (by omega)
            refine r_imul C v15 (oDec_at oX12_on 44 rfl) ev15 ?_
            refine r_pc C 73 rfl ?_
            obtain ⟨v16, ev16⟩ : ∃ z : Int32, z = k1 + v15 := ⟨_, rfl⟩
            have hv16 : v16.toInt = k1.toInt + v15.toInt := n_add ev16 (by omega) (by omega)
            refine r_iadd C v16 (oDec_at oX12_on 45 rfl) ev16 ?_
            obtain ⟨v18, ev18⟩ : ∃ z : Int32, (t).1 72 v16.toNatClampNeg = z := ⟨_, rfl⟩
            have gv18 : (t.1 72 v16.toNatClampNeg).toInt = v18.toInt := congrArg Int32.toInt (ev18)
            refine r_iald (n := 1600) (lo := 0) (hi := 255) C v18 rfl (by decide) rfl rfl ⟨by omega, by omega⟩ (by decide) ev18 rfl rfl (oDec_at oX12_on 46 rfl) (fun b17 b17h => ?_)
            refine r_iast (n := 48) (lo := (-2147483648)) (hi := 2147483647) C rfl (by decide) rfl rfl ⟨by omega, by omega⟩ (by decide) rfl rfl rfl rfl (n_rng _) (oDec_at oX12_on 47 rfl) ?_
            refine r_aload_n C (j := 0) (oDec_at oX12_on 48 rfl) rfl rfl ?_
            refine r_getF (k := 40) (b := 100) C oCl12 rfl (by decide) flX12_99 rfl rfl rfl (oDec_at oX12_on 49 rfl) ?_
            refine r_iload_n C (j := 1) (oDec_at oX12_on 50 rfl) rfl rfl ?_
            refine r_pc C 81 rfl ?_
            refine r_aload_n C (j := 0) (oDec_at oX12_on 51 rfl) rfl rfl ?_
            refine r_getF (k := 0) (b := 72) C oCl12 rfl (by decide) flX12_7 rfl rfl rfl (oDec_at oX12_on 52 rfl) ?_
            refine r_iconst C (oDec_at oX12_on 53 rfl) (v := k2) (by rw [qk2]; rfl) ?_
            refine r_iconst C (oDec_at oX12_on 54 rfl) (v := k2) (by rw [qk2]; rfl) ?_
            refine r_iload_n C (j := 1) (oDec_at oX12_on 55 rfl) rfl rfl ?_
            obtain ⟨v19, ev19⟩ : ∃ z : Int32, z = k2 * x2 := ⟨_, rfl⟩
            have hv19 : v19.toInt = 2 * x2.toInt := n_mulK' 2 ev19 ek2 (by omega) (by omega)
            refine r_imul C v19 (oDec_at oX12_on 56 rfl) ev19 ?_
            refine r_pc C 89 rfl ?_
            obtain ⟨v20, ev20⟩ : ∃ z : Int32, z = k2 + v19 := ⟨_, rfl⟩
            have hv20 : v20.toInt = k2.toInt + v19.toInt := n_add ev20 (by omega) (by omega)
            refine r_iadd C v20 (oDec_at oX12_on 57 rfl) ev20 ?_
            obtain ⟨v22, ev22⟩ : ∃ z : Int32, ((pI t 99 x2.toNatClampNeg v18)).1 72 v20.toNatClampNeg = z := ⟨_, rfl⟩
            have av22 : t.1 72 v20.toNatClampNeg = v22 := ((pI_ne (a := 72) (b := v20.toNatClampNeg) (c := 99) _ _ (Or.inl (by decide)))).symm.trans ev22
            have gv22 : (t.1 72 v20.toNatClampNeg).toInt = v22.toInt := congrArg Int32.toInt (((pI_ne (a := 72) (b := v20.toNatClampNeg) (c := 99) _ _ (Or.inl (by decide)))).symm.trans ev22)
            refine r_iald (n := 1600) (lo := 0) (hi := 255) C v22 rfl (by decide) rfl rfl ⟨by omega, by omega⟩ (by decide) ev22 rfl rfl (oDec_at oX12_on 58 rfl) (fun b21 b21h => ?_)
            have hq3 := oIx72 (i := v20) (x := x2) ev22 (by omega) (by omega)
            refine r_iast (n := 48) (lo := 0) (hi := 9999) C rfl (by decide) rfl rfl ⟨by omega, by omega⟩ (by decide) rfl rfl rfl rfl ⟨by omega, by omega⟩ (oDec_at oX12_on 59 rfl) ?_
            obtain ⟨v23, ev23⟩ : ∃ z : Int32, x2 + Int32.ofInt 1 = z := ⟨_, rfl⟩
            have hv23 : v23.toInt = x2.toInt + 1 := n_inc ev23 (by decide) (by omega) (by omega)
            refine r_iinc C (j := 1) (lv' := [(0, .ref (oad E 71)), (2, .int v23)]) v23 [1, 0] (oDec_at oX12_on 60 rfl) rfl ev23 (by decide) rfl ?_
            refine r_goto C (tgt := 32) (oDec_at oX12_on 61 rfl) (by decide) ?_
            have lk24 : (((pI (pI t 99 x2.toNatClampNeg v18) 100 x2.toNatClampNeg v22)).1 71 38).toInt = v1.toInt := congrArg Int32.toInt (((pI_ne (a := 71) (b := 38) (c := 100) _ _ (Or.inl (by decide)))).trans (((pI_ne (a := 71) (b := 38) (c := 99) _ _ (Or.inl (by decide)))).trans (ev1)))
            have lk25 : (((pI (pI t 99 x2.toNatClampNeg v18) 100 x2.toNatClampNeg v22)).1 71 38).toInt = v1.toInt := congrArg Int32.toInt (((pI_ne (a := 71) (b := 38) (c := 100) _ _ (Or.inl (by decide)))).trans (((pI_ne (a := 71) (b := 38) (c := 99) _ _ (Or.inl (by decide)))).trans (ev1)))
            have lk26 : (((pI (pI t 99 x2.toNatClampNeg v18) 100 x2.toNatClampNeg v22)).1 71 1).toInt = (t.1 71 1).toInt := congrArg Int32.toInt (((pI_ne (a := 71) (b := 1) (c := 100) _ _ (Or.inl (by decide)))).trans ((pI_ne (a := 71) (b := 1) (c := 99) _ _ (Or.inl (by decide)))))
            exact (ih (n - 1) (by omega)) ((pI (pI t 99 x2.toNatClampNeg v18) 100 x2.toNatClampNeg v22)) v23  (oTT_fr (oFr_oneI (q := 76) (m := 9999) rfl (by rfl)) rfl (oTT_fr (oFr_oneI (q := 75) (m := 9999) rfl (by rfl)) rfl iv0)) (oN0_fr (oFr_oneI (q := 76) (m := 9999) rfl (by rfl)) rfl (oN0_fr (oFr_oneI (q := 75) (m := 9999) rfl (by rfl)) rfl iv1)) (by omega) (by omega) (by first | exact oTc_step (x := x2) (y := v23) (w := v22) (oTc_fr (oFr_oneI (q := 75) (m := 9999) rfl (by rfl)) rfl iv4) (by omega) (by omega) (by assumption) | exact oTc_0 (by omega)) (by omega) (by omega)
          · skip
            refine r_iconst C (oDec_at oX12_on 37 rfl) (v := km1) (by rw [qkm1]; rfl) ?_
            refine r_goto C (tgt := 75) (oDec_at oX12_on 38 rfl) (by decide) ?_
            refine r_iast (n := 48) (lo := (-2147483648)) (hi := 2147483647) C rfl (by decide) rfl rfl ⟨by omega, by omega⟩ (by decide) rfl rfl rfl rfl (n_rng _) (oDec_at oX12_on 47 rfl) ?_
            refine r_aload_n C (j := 0) (oDec_at oX12_on 48 rfl) rfl rfl ?_
            refine r_getF (k := 40) (b := 100) C oCl12 rfl (by decide) flX12_99 rfl rfl rfl (oDec_at oX12_on 49 rfl) ?_
            refine r_iload_n C (j := 1) (oDec_at oX12_on 50 rfl) rfl rfl ?_
            refine r_aload_n C (j := 0) (oDec_at oX12_on 51 rfl) rfl rfl ?_
            refine r_pc C 82 rfl ?_
            refine r_getF (k := 0) (b := 72) C oCl12 rfl (by decide) flX12_7 rfl rfl rfl (oDec_at oX12_on 52 rfl) ?_
            refine r_iconst C (oDec_at oX12_on 53 rfl) (v := k2) (by rw [qk2]; rfl) ?_
            refine r_iconst C (oDec_at oX12_on 54 rfl) (v := k2) (by rw [qk2]; rfl) ?_
            refine r_iload_n C (j := 1) (oDec_at oX12_on 55 rfl) rfl rfl ?_
            obtain ⟨v27, ev27⟩ : ∃ z : Int32, z = k2 * x2 := ⟨_, rfl⟩
            have hv27 : v27.toInt = 2 * x2.toInt := n_mulK' 2 ev27 ek2 (by omega) (by omega)
            refine r_imul C v27 (oDec_at oX12_on 56 rfl) ev27 ?_
            obtain ⟨v28, ev28⟩ : ∃ z : Int32, z = k2 + v27 := ⟨_, rfl⟩
            have hv28 : v28.toInt = k2.toInt + v27.toInt := n_add ev28 (by omega) (by omega)
            refine r_iadd C v28 (oDec_at oX12_on 57 rfl) ev28 ?_
            refine r_pc C 90 rfl ?_
            obtain ⟨v30, ev30⟩ : ∃ z : Int32, ((pI t 99 x2.toNatClampNeg km1)).1 72 v28.toNatClampNeg = z := ⟨_, rfl⟩
            have av30 : t.1 72 v28.toNatClampNeg = v30 := ((pI_ne (a := 72) (b := v28.toNatClampNeg) (c := 99) _ _ (Or.inl (by decide)))).symm.trans ev30
            have gv30 : (t.1 72 v28.toNatClampNeg).toInt = v30.toInt := congrArg Int32.toInt (((pI_ne (a := 72) (b := v28.toNatClampNeg) (c := 99) _ _ (Or.inl (by decide)))).symm.trans ev30)
            refine r_iald (n := 1600) (lo := 0) (hi := 255) C v30 rfl (by decide) rfl rfl ⟨by omega, by omega⟩ (by decide) ev30 rfl rfl (oDec_at oX12_on 58 rfl) (fun b29 b29h => ?_)
            have hq3 := oIx72 (i := v28) (x := x2) ev30 (by omega) (by omega)
            refine r_iast (n := 48) (lo := 0) (hi := 9999) C rfl (by decide) rfl rfl ⟨by omega, by omega⟩ (by decide) rfl rfl rfl rfl ⟨by omega, by omega⟩ (oDec_at oX12_on 59 rfl) ?_
            obtain ⟨v31, ev31⟩ : ∃ z : Int32, x2 + Int32.ofInt 1 = z := ⟨_, rfl⟩
            have hv31 : v31.toInt = x2.toInt + 1 := n_inc ev31 (by decide) (by omega) (by omega)
            refine r_iinc C (j := 1) (lv' := [(0, .ref (oad E 71)), (2, .int v31)]) v31 [1, 0] (oDec_at oX12_on 60 rfl) rfl ev31 (by decide) rfl ?_
            refine r_goto C (tgt := 32) (oDec_at oX12_on 61 rfl) (by decide) ?_
            have lk32 : (((pI (pI t 99 x2.toNatClampNeg km1) 100 x2.toNatClampNeg v30)).1 71 38).toInt = v1.toInt := congrArg Int32.toInt (((pI_ne (a := 71) (b := 38) (c := 100) _ _ (Or.inl (by decide)))).trans (((pI_ne (a := 71) (b := 38) (c := 99) _ _ (Or.inl (by decide)))).trans (ev1)))
            have lk33 : (((pI (pI t 99 x2.toNatClampNeg km1) 100 x2.toNatClampNeg v30)).1 71 38).toInt = v1.toInt := congrArg Int32.toInt (((pI_ne (a := 71) (b := 38) (c := 100) _ _ (Or.inl (by decide)))).trans (((pI_ne (a := 71) (b := 38) (c := 99) _ _ (Or.inl (by decide)))).trans (ev1)))
            have lk34 : (((pI (pI t 99 x2.toNatClampNeg km1) 100 x2.toNatClampNeg v30)).1 71 1).toInt = (t.1 71 1).toInt := congrArg Int32.toInt (((pI_ne (a := 71) (b := 1) (c := 100) _ _ (Or.inl (by decide)))).trans ((pI_ne (a := 71) (b := 1) (c := 99) _ _ (Or.inl (by decide)))))
            exact (ih (n - 1) (by omega)) ((pI (pI t 99 x2.toNatClampNeg km1) 100 x2.toNatClampNeg v30)) v31  (oTT_fr (oFr_oneI (q := 76) (m := 9999) rfl (by rfl)) rfl (oTT_fr (oFr_oneI (q := 75) (m := 9999) rfl (by rfl)) rfl iv0)) (oN0_fr (oFr_oneI (q := 76) (m := 9999) rfl (by rfl)) rfl (oN0_fr (oFr_oneI (q := 75) (m := 9999) rfl (by rfl)) rfl iv1)) (by omega) (by omega) (by first | exact oTc_step (x := x2) (y := v31) (w := v30) (oTc_fr (oFr_oneI (q := 75) (m := 9999) rfl (by rfl)) rfl iv4) (by omega) (by omega) (by assumption) | exact oTc_0 (by omega)) (by omega) (by omega)
  refine r_aload_n C (j := 0) (oDec_at oX12_on 0 rfl) rfl rfl ?_
  obtain ⟨v35, ev35⟩ : ∃ z : Int32, (s).1 71 1 = z := ⟨_, rfl⟩
  have gv35 : (s.1 71 1).toInt = v35.toInt := congrArg Int32.toInt (ev35)
  refine r_geti (k := 1) (lo := 0) (hi := 1600) C v35 oCl12 rfl (by decide) flX12_170 rfl rfl (ev35) rfl rfl (oDec_at oX12_on 1 rfl) (fun b36 b36h => ?_)
  refine r_istore_n C (lv' := [(0, .ref (oad E 71)), (1, .int v35)]) [1, 0] (oDec_at oX12_on 2 rfl) rfl (by decide) rfl ?_
  refine r_aload_n C (j := 0) (oDec_at oX12_on 3 rfl) rfl rfl ?_
  refine r_iconst C (oDec_at oX12_on 4 rfl) (v := k0) (by rw [qk0]; rfl) ?_
  refine r_puti (k := 1) (lo := 0) (hi := 1600) C oCl12 rfl (by decide) flX12_170 rfl rfl rfl rfl rfl rfl rfl rfl ⟨by omega, by omega⟩ (oDec_at oX12_on 5 rfl) ?_
  refine r_pc C 10 rfl ?_
  refine r_aload_n C (j := 0) (oDec_at oX12_on 6 rfl) rfl rfl ?_
  refine r_iload_n C (j := 1) (oDec_at oX12_on 7 rfl) rfl rfl ?_
  refine r_callVi C oCl12 rfl miX12_isTold mlX12_597 (ct_X12_isTold l E ((pI s 71 1 k0)) v35 (by omega)) (by decide) rfl rfl rfl (Nat.le_of_ble_eq_true rfl) (oDec_at oX12_on 8 rfl) (fun r38 u37 pu37 fu37 => ?_)
  try dsimp only at pu37
  obtain ⟨pu37_0, pu37_1⟩ := pu37
  have hxu37 := oFr_nil fu37; subst hxu37
  have rr38 := n_rng r38
  refine r_if_ne C 20 (oDec_at oX12_on 9 rfl) (by decide) (fun cd39 => ?_) (fun cd39 => ?_)
  · skip
    have hq40 : oTT ((pI s 71 1 k0)) := pu37_1 (by omega)
    refine r_aload_n C (j := 0) (oDec_at oX12_on 12 rfl) rfl rfl ?_
    refine r_aload_n C (j := 0) (oDec_at oX12_on 13 rfl) rfl rfl ?_
    refine r_getF (k := 0) (b := 72) C oCl12 rfl (by decide) flX12_7 rfl rfl rfl (oDec_at oX12_on 14 rfl) ?_
    refine r_iconst C (oDec_at oX12_on 15 rfl) (v := k0) (by rw [qk0]; rfl) ?_
    obtain ⟨v42, ev42⟩ : ∃ z : Int32, ((pI s 71 1 k0)).1 72 k0.toNatClampNeg = z := ⟨_, rfl⟩
    have av42 : s.1 72 k0.toNatClampNeg = v42 := ((pI_ne (a := 72) (b := k0.toNatClampNeg) (c := 71) _ _ (Or.inl (by decide)))).symm.trans ev42
    have gv42 : (s.1 72 k0.toNatClampNeg).toInt = v42.toInt := congrArg Int32.toInt (((pI_ne (a := 72) (b := k0.toNatClampNeg) (c := 71) _ _ (Or.inl (by decide)))).symm.trans ev42)
    refine r_iald (n := 1600) (lo := 0) (hi := 255) C v42 rfl (by decide) rfl rfl ⟨by omega, by omega⟩ (by decide) ev42 rfl rfl (oDec_at oX12_on 16 rfl) (fun b41 b41h => ?_)
    have h72 := oIx0 (i := k0) ev42 ek0
    have h24 := (hq40).1
    refine r_puti (k := 38) (lo := 0) (hi := 24) C oCl12 rfl (by decide) flX12_261 rfl rfl rfl rfl rfl rfl rfl rfl ⟨by omega, by omega⟩ (oDec_at oX12_on 17 rfl) ?_
    refine r_pc C 30 rfl ?_
    have hq43 : oN0 ((pI (pI s 71 1 k0) 71 38 v42)) := oN0_put (by omega)
    refine r_iconst C (oDec_at oX12_on 18 rfl) (v := k0) (by rw [qk0]; rfl) ?_
    refine r_istore_n C (lv' := [(0, .ref (oad E 71)), (1, .int v35), (2, .int k0)]) [1, 2, 0] (oDec_at oX12_on 19 rfl) rfl (by decide) rfl ?_
    have lk44 : (((pI (pI s 71 1 k0) 71 38 v42)).1 71 38).toInt = v42.toInt := congrArg Int32.toInt ((pI_self _ _ _ _))
    have lk45 : (((pI (pI s 71 1 k0) 71 38 v42)).1 71 38).toInt = v42.toInt := congrArg Int32.toInt ((pI_self _ _ _ _))
    have lk46 : (((pI (pI s 71 1 k0) 71 38 v42)).1 71 1).toInt = k0.toInt := congrArg Int32.toInt (((pI_ne (a := 71) (b := 1) (c := 71) (k := 38) _ _ (Or.inr (by decide)))).trans ((pI_self _ _ _ _)))
    refine r_pick C [0, 2] rfl ?_
    exact (key (25 - k0.toInt).toNat) ((pI (pI s 71 1 k0) 71 38 v42)) k0  (oTT_fr (oFr_oneI (q := 12) (m := 38) rfl (by rfl)) rfl hq40) hq43 (by omega) (by omega) (by first | exact oTc_0 (by omega)) (by omega) (by omega)
  · skip
    refine r_iconst C (oDec_at oX12_on 10 rfl) (v := k0) (by rw [qk0]; rfl) ?_
    have lk47 : (((pI s 71 1 k0)).1 71 38).toInt = (s.1 71 38).toInt := congrArg Int32.toInt ((pI_ne (a := 71) (b := 38) (c := 71) (k := 1) _ _ (Or.inr (by decide))))
    have lk48 : (((pI s 71 1 k0)).1 71 42).toInt = (s.1 71 42).toInt := congrArg Int32.toInt ((pI_ne (a := 71) (b := 42) (c := 71) (k := 1) _ _ (Or.inr (by decide))))
    have lk49 : (((pI s 71 1 k0)).1 71 1).toInt = k0.toInt := congrArg Int32.toInt ((pI_self _ _ _ _))
    exact r_zret C (n_bool (by omega)) (oDec_at oX12_on 11 rfl) ⟨_, rfl, ⟨by omega, (oLT_fr (oFr_oneI (q := 12) (m := 1) rfl (by rfl)) rfl hp0), by omega, by omega⟩⟩
