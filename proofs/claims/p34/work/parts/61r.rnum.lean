set_option maxHeartbeats 4000000 in
set_option maxRecDepth 100000 in
theorem ct9_X12_clip (l : Launch) (E : oE) (s : oS) (a0 : Int64)   : oMet l 1 yX12_clip cX12_clip 2 (some .long) [] E s [.long a0] (oPl (fun r u => (r.toInt = oqClp a0.toInt))) := by
  refine oMet.of (lv := [(0, .long a0)]) (by decide +kernel) (Nat.le_of_ble_eq_true rfl) rfl (fun J C hT => ?_)
  have C : oC l 1 cX12_clip RX12 2 (some .long) [] E s (oPl (fun r u => (r.toInt = oqClp a0.toInt))) J := C
  obtain ⟨jm1000000, qjm1000000⟩ : ∃ z : Int64, z = (-1000000) := ⟨_, rfl⟩
  have ejm1000000 : jm1000000.toInt = (-1000000) := by rw [qjm1000000]; rfl
  obtain ⟨j1000000, qj1000000⟩ : ∃ z : Int64, z = 1000000 := ⟨_, rfl⟩
  have ej1000000 : j1000000.toInt = 1000000 := by rw [qj1000000]; rfl
  refine r_lload_n C (j := 0) (oDec_at oX12_clip 0 rfl) rfl rfl ?_
  refine r_ldc2 C (v := j1000000) (by rw [qj1000000]; exact klX12_356) (oDec_at oX12_clip 1 rfl) ?_
  obtain ⟨v1, ev1⟩ : ∃ z : Int32, z = lg_cmp a0 j1000000 := ⟨_, rfl⟩
  have hv1 := n_lcmp ev1
  refine r_lcmp C v1 (oDec_at oX12_clip 2 rfl) ev1 ?_
  refine r_if_le C 14 (oDec_at oX12_clip 3 rfl) (by decide) (fun cd2 => ?_) (fun cd2 => ?_)
  · skip
    refine r_lload_n C (j := 0) (oDec_at oX12_clip 6 rfl) rfl rfl ?_
    refine r_ldc2 C (v := jm1000000) (by rw [qjm1000000]; exact klX12_358) (oDec_at oX12_clip 7 rfl) ?_
    obtain ⟨v3, ev3⟩ : ∃ z : Int32, z = lg_cmp a0 jm1000000 := ⟨_, rfl⟩
    have hv3 := n_lcmp ev3
    refine r_lcmp C v3 (oDec_at oX12_clip 8 rfl) ev3 ?_
    refine r_if_ge C 28 (oDec_at oX12_clip 9 rfl) (by decide) (fun cd4 => ?_) (fun cd4 => ?_)
    · skip
      refine r_lload_n C (j := 0) (oDec_at oX12_clip 12 rfl) rfl rfl ?_
      exact r_lret C (oDec_at oX12_clip 13 rfl) ⟨_, rfl, by first | (rw [oqClp_1 (by omega)]; omega) | (rw [oqClp_2 (by omega)]; omega) | (rw [oqClp_3 (by omega) (by omega)])⟩
    · skip
      refine r_ldc2 C (v := jm1000000) (by rw [qjm1000000]; exact klX12_358) (oDec_at oX12_clip 10 rfl) ?_
      refine r_goto C (tgt := 29) (oDec_at oX12_clip 11 rfl) (by decide) ?_
      exact r_lret C (oDec_at oX12_clip 13 rfl) ⟨_, rfl, by first | (rw [oqClp_1 (by omega)]; omega) | (rw [oqClp_2 (by omega)]; omega) | (rw [oqClp_3 (by omega) (by omega)])⟩
  · skip
    refine r_ldc2 C (v := j1000000) (by rw [qj1000000]; exact klX12_356) (oDec_at oX12_clip 4 rfl) ?_
    refine r_goto C (tgt := 29) (oDec_at oX12_clip 5 rfl) (by decide) ?_
    exact r_lret C (oDec_at oX12_clip 13 rfl) ⟨_, rfl, by first | (rw [oqClp_1 (by omega)]; omega) | (rw [oqClp_2 (by omega)]; omega) | (rw [oqClp_3 (by omega) (by omega)])⟩
set_option maxHeartbeats 4000000 in
set_option maxRecDepth 100000 in
theorem ct9_X12_floor (l : Launch) (E : oE) (s : oS) (a0 : Int64) (a2 : Int64)  (hp0 : -1000000 ≤ a0.toInt ∧ a0.toInt ≤ 1000000) (hp1 : -1000000 ≤ a2.toInt ∧ a2.toInt ≤ 1000000) : oMet l 1 yX12_floor cX12_floor 6 (some .long) [] E s [.long a0, .long a2] (oPl (fun r u => (r.toInt = oqFlr a0.toInt a2.toInt))) := by
  refine oMet.of (lv := [(0, .long a0), (2, .long a2)]) (by decide +kernel) (Nat.le_of_ble_eq_true rfl) rfl (fun J C hT => ?_)
  have C : oC l 1 cX12_floor RX12 6 (some .long) [] E s (oPl (fun r u => (r.toInt = oqFlr a0.toInt a2.toInt))) J := C
  obtain ⟨k0, qk0⟩ : ∃ z : Int32, z = 0 := ⟨_, rfl⟩
  have ek0 : k0.toInt = 0 := by rw [qk0]; rfl
  obtain ⟨k1, qk1⟩ : ∃ z : Int32, z = 1 := ⟨_, rfl⟩
  have ek1 : k1.toInt = 1 := by rw [qk1]; rfl
  obtain ⟨j0, qj0⟩ : ∃ z : Int64, z = 0 := ⟨_, rfl⟩
  have ej0 : j0.toInt = 0 := by rw [qj0]; rfl
  obtain ⟨j1, qj1⟩ : ∃ z : Int64, z = 1 := ⟨_, rfl⟩
  have ej1 : j1.toInt = 1 := by rw [qj1]; rfl
  refine r_lload_n C (j := 1) (oDec_at oX12_floor 0 rfl) rfl rfl ?_
  refine r_lconst C (oDec_at oX12_floor 1 rfl) (v := j0) (by rw [qj0]; rfl) ?_
  obtain ⟨v1, ev1⟩ : ∃ z : Int32, z = lg_cmp a2 j0 := ⟨_, rfl⟩
  have hv1 := n_lcmp ev1
  refine r_lcmp C v1 (oDec_at oX12_floor 2 rfl) ev1 ?_
  refine r_if_ne C 8 (oDec_at oX12_floor 3 rfl) (by decide) (fun cd2 => ?_) (fun cd2 => ?_)
  · skip
    refine r_lload_n C (j := 0) (oDec_at oX12_floor 6 rfl) rfl rfl ?_
    refine r_lload_n C (j := 1) (oDec_at oX12_floor 7 rfl) rfl rfl ?_
    obtain ⟨v3, ev3⟩ : ∃ z : Int64, z = a0 / a2 := ⟨_, rfl⟩
    have hv3 := n_ldivV ev3 (by omega) (by omega)
    refine r_ldiv C v3 (oDec_at oX12_floor 8 rfl) (n_ne0L (by omega)) ev3 ?_
    refine r_lstore C (lv' := [(0, .long a0), (2, .long a2), (4, .long v3)]) [1, 2, 0] (oDec_at oX12_floor 9 rfl) (by decide) rfl ?_
    refine r_lload_n C (j := 0) (oDec_at oX12_floor 10 rfl) rfl rfl ?_
    refine r_lload_n C (j := 1) (oDec_at oX12_floor 11 rfl) rfl rfl ?_
    refine r_pc C 15 rfl ?_
    obtain ⟨v4, ev4⟩ : ∃ z : Int64, z = a0 - a0 / a2 * a2 := ⟨_, rfl⟩
    have hv4 := n_lremV ev4 (by omega) (by omega)
    refine r_lrem C v4 (oDec_at oX12_floor 12 rfl) (n_ne0L (by omega)) ev4 ?_
    refine r_lconst C (oDec_at oX12_floor 13 rfl) (v := j0) (by rw [qj0]; rfl) ?_
    obtain ⟨v5, ev5⟩ : ∃ z : Int32, z = lg_cmp v4 j0 := ⟨_, rfl⟩
    have hv5 := n_lcmp ev5
    refine r_lcmp C v5 (oDec_at oX12_floor 14 rfl) ev5 ?_
    refine r_if_eq C 53 (oDec_at oX12_floor 15 rfl) (by decide) (fun cd6 => ?_) (fun cd6 => ?_)
    · skip
      refine r_lload C (j := 2) (oDec_at oX12_floor 35 rfl) rfl ?_
      exact r_lret C (oDec_at oX12_floor 36 rfl) ⟨_, rfl, oqFlr_t (by omega) rfl (fun h9 => by omega) (fun h9 h8 => by omega)⟩
    · skip
      refine r_lload_n C (j := 0) (oDec_at oX12_floor 16 rfl) rfl rfl ?_
      refine r_lconst C (oDec_at oX12_floor 17 rfl) (v := j0) (by rw [qj0]; rfl) ?_
      obtain ⟨v7, ev7⟩ : ∃ z : Int32, z = lg_cmp a0 j0 := ⟨_, rfl⟩
      have hv7 := n_lcmp ev7
      refine r_lcmp C v7 (oDec_at oX12_floor 18 rfl) ev7 ?_
      refine r_if_ge C 31 (oDec_at oX12_floor 19 rfl) (by decide) (fun cd8 => ?_) (fun cd8 => ?_)
      · skip
        refine r_iconst C (oDec_at oX12_floor 22 rfl) (v := k0) (by rw [qk0]; rfl) ?_
        refine r_lload_n C (j := 1) (oDec_at oX12_floor 23 rfl) rfl rfl ?_
        refine r_lconst C (oDec_at oX12_floor 24 rfl) (v := j0) (by rw [qj0]; rfl) ?_
        obtain ⟨v9, ev9⟩ : ∃ z : Int32, z = lg_cmp a2 j0 := ⟨_, rfl⟩
        have hv9 := n_lcmp ev9
        refine r_lcmp C v9 (oDec_at oX12_floor 25 rfl) ev9 ?_
        refine r_if_ge C 42 (oDec_at oX12_floor 26 rfl) (by decide) (fun cd10 => ?_) (fun cd10 => ?_)
        · skip
          refine r_iconst C (oDec_at oX12_floor 29 rfl) (v := k0) (by rw [qk0]; rfl) ?_
          refine r_icmp_eq C 53 (oDec_at oX12_floor 30 rfl) (by decide) (fun cd11 => ?_) (fun cd11 => ?_)
          · skip
            refine r_lload C (j := 2) (oDec_at oX12_floor 35 rfl) rfl ?_
            exact r_lret C (oDec_at oX12_floor 36 rfl) ⟨_, rfl, oqFlr_t (by omega) rfl (fun h9 => by omega) (fun h9 h8 => by omega)⟩
          · omega
        · skip
          refine r_iconst C (oDec_at oX12_floor 27 rfl) (v := k1) (by rw [qk1]; rfl) ?_
          refine r_goto C (tgt := 43) (oDec_at oX12_floor 28 rfl) (by decide) ?_
          refine r_icmp_eq C 53 (oDec_at oX12_floor 30 rfl) (by decide) (fun cd12 => ?_) (fun cd12 => ?_)
          · omega
          · skip
            refine r_lload C (j := 2) (oDec_at oX12_floor 31 rfl) rfl ?_
            refine r_lconst C (oDec_at oX12_floor 32 rfl) (v := j1) (by rw [qj1]; rfl) ?_
            obtain ⟨v13, ev13⟩ : ∃ z : Int64, z = v3 - j1 := ⟨_, rfl⟩
            have hv13 := n_lsub ev13 (by have hb9 := (oqTdv_b (x := a0.toInt) (y := a2.toInt)).1; omega) (by have hb9 := (oqTdv_b (x := a0.toInt) (y := a2.toInt)).1; omega)
            refine r_lsub C v13 (oDec_at oX12_floor 33 rfl) ev13 ?_
            refine r_goto C (tgt := 55) (oDec_at oX12_floor 34 rfl) (by decide) ?_
            exact r_lret C (oDec_at oX12_floor 36 rfl) ⟨_, rfl, oqFlr_t (by omega) rfl (fun h9 => by omega) (fun h9 h8 => by omega)⟩
      · skip
        refine r_iconst C (oDec_at oX12_floor 20 rfl) (v := k1) (by rw [qk1]; rfl) ?_
        refine r_goto C (tgt := 32) (oDec_at oX12_floor 21 rfl) (by decide) ?_
        refine r_lload_n C (j := 1) (oDec_at oX12_floor 23 rfl) rfl rfl ?_
        refine r_lconst C (oDec_at oX12_floor 24 rfl) (v := j0) (by rw [qj0]; rfl) ?_
        obtain ⟨v14, ev14⟩ : ∃ z : Int32, z = lg_cmp a2 j0 := ⟨_, rfl⟩
        have hv14 := n_lcmp ev14
        refine r_lcmp C v14 (oDec_at oX12_floor 25 rfl) ev14 ?_
        refine r_if_ge C 42 (oDec_at oX12_floor 26 rfl) (by decide) (fun cd15 => ?_) (fun cd15 => ?_)
        · skip
          refine r_iconst C (oDec_at oX12_floor 29 rfl) (v := k0) (by rw [qk0]; rfl) ?_
          refine r_icmp_eq C 53 (oDec_at oX12_floor 30 rfl) (by decide) (fun cd16 => ?_) (fun cd16 => ?_)
          · omega
          · skip
            refine r_lload C (j := 2) (oDec_at oX12_floor 31 rfl) rfl ?_
            refine r_lconst C (oDec_at oX12_floor 32 rfl) (v := j1) (by rw [qj1]; rfl) ?_
            obtain ⟨v17, ev17⟩ : ∃ z : Int64, z = v3 - j1 := ⟨_, rfl⟩
            have hv17 := n_lsub ev17 (by have hb9 := (oqTdv_b (x := a0.toInt) (y := a2.toInt)).1; omega) (by have hb9 := (oqTdv_b (x := a0.toInt) (y := a2.toInt)).1; omega)
            refine r_lsub C v17 (oDec_at oX12_floor 33 rfl) ev17 ?_
            refine r_goto C (tgt := 55) (oDec_at oX12_floor 34 rfl) (by decide) ?_
            exact r_lret C (oDec_at oX12_floor 36 rfl) ⟨_, rfl, oqFlr_t (by omega) rfl (fun h9 => by omega) (fun h9 h8 => by omega)⟩
        · skip
          refine r_iconst C (oDec_at oX12_floor 27 rfl) (v := k1) (by rw [qk1]; rfl) ?_
          refine r_goto C (tgt := 43) (oDec_at oX12_floor 28 rfl) (by decide) ?_
          refine r_icmp_eq C 53 (oDec_at oX12_floor 30 rfl) (by decide) (fun cd18 => ?_) (fun cd18 => ?_)
          · skip
            refine r_lload C (j := 2) (oDec_at oX12_floor 35 rfl) rfl ?_
            exact r_lret C (oDec_at oX12_floor 36 rfl) ⟨_, rfl, oqFlr_t (by omega) rfl (fun h9 => by omega) (fun h9 h8 => by omega)⟩
          · omega
  · skip
    refine r_lconst C (oDec_at oX12_floor 4 rfl) (v := j0) (by rw [qj0]; rfl) ?_
    exact r_lret C (oDec_at oX12_floor 5 rfl) ⟨_, rfl, by unfold oqFlr; rw [if_pos (by omega)]; omega⟩
set_option maxHeartbeats 4000000 in
set_option maxRecDepth 100000 in
theorem ct9_X12_puts (l : Launch) (E : oE) (s : oS) (a1 : Int64)  (hp0 : (s.1 71 58).toInt ≤ 1699) : oMet l 1 yX12_puts cX12_puts 3 none [(12, 58), (84, 9999)] E s [.ref (oad E 71), .long a1] (oPv (fun u => ((u.1 71 58).toInt = (s.1 71 58).toInt + 1) ∧ (u.2.1 108 = oUl (s.2.1 108) (s.1 71 58).toNatClampNeg a1))) := by
  refine oMet.of (lv := [(0, .ref (oad E 71)), (1, .long a1)]) (by decide +kernel) (Nat.le_of_ble_eq_true rfl) rfl (fun J C hT => ?_)
  have C : oC l 1 cX12_puts RX12 3 none [(12, 58), (84, 9999)] E s (oPv (fun u => ((u.1 71 58).toInt = (s.1 71 58).toInt + 1) ∧ (u.2.1 108 = oUl (s.2.1 108) (s.1 71 58).toNatClampNeg a1))) J := C
  obtain ⟨k1, qk1⟩ : ∃ z : Int32, z = 1 := ⟨_, rfl⟩
  have ek1 : k1.toInt = 1 := by rw [qk1]; rfl
  refine r_aload_n C (j := 0) (oDec_at oX12_puts 0 rfl) rfl rfl ?_
  refine r_getF (k := 57) (b := 108) C oCl12 rfl (by decide) flX12_130 rfl rfl rfl (oDec_at oX12_puts 1 rfl) ?_
  refine r_aload_n C (j := 0) (oDec_at oX12_puts 2 rfl) rfl rfl ?_
  obtain ⟨v1, ev1⟩ : ∃ z : Int32, (s).1 71 58 = z := ⟨_, rfl⟩
  have gv1 : (s.1 71 58).toInt = v1.toInt := congrArg Int32.toInt (ev1)
  refine r_geti (k := 58) (lo := 0) (hi := 1700) C v1 oCl12 rfl (by decide) flX12_360 rfl rfl (ev1) rfl rfl (oDec_at oX12_puts 3 rfl) (fun b2 b2h => ?_)
  refine r_lload_n C (j := 1) (oDec_at oX12_puts 4 rfl) rfl rfl ?_
  refine r_last (n := 1700) C rfl (by decide) rfl rfl ⟨by omega, by omega⟩ (by decide) rfl (oDec_at oX12_puts 5 rfl) ?_
  refine r_pc C 10 rfl ?_
  refine r_aload_n C (j := 0) (oDec_at oX12_puts 6 rfl) rfl rfl ?_
  refine r_dup C (oDec_at oX12_puts 7 rfl) rfl ?_
  refine r_geti (k := 58) (lo := 0) (hi := 1700) C v1 oCl12 rfl (by decide) flX12_360 rfl rfl ((show ((pL s 108 v1.toNatClampNeg a1)).1 71 58 = v1 from ev1)) rfl rfl (oDec_at oX12_puts 8 rfl) (fun _ _ => ?_)
  refine r_iconst C (oDec_at oX12_puts 9 rfl) (v := k1) (by rw [qk1]; rfl) ?_
  obtain ⟨v3, ev3⟩ : ∃ z : Int32, z = v1 + k1 := ⟨_, rfl⟩
  have hv3 : v3.toInt = v1.toInt + k1.toInt := n_add ev3 (by omega) (by omega)
  refine r_iadd C v3 (oDec_at oX12_puts 10 rfl) ev3 ?_
  refine r_puti (k := 58) (lo := 0) (hi := 1700) C oCl12 rfl (by decide) flX12_360 rfl rfl rfl rfl rfl rfl rfl rfl ⟨by omega, by omega⟩ (oDec_at oX12_puts 11 rfl) ?_
  refine r_pc C 20 rfl ?_
  have lk4 : (((pI (pL s 108 v1.toNatClampNeg a1) 71 58 v3)).1 71 58).toInt = v3.toInt := congrArg Int32.toInt ((pI_self _ _ _ _))
  exact r_vret C (oDec_at oX12_puts 12 rfl) ⟨rfl, ⟨by omega, by rw [show s.1 71 58 = v1 from ev1]; exact oqRowL_pu⟩⟩
