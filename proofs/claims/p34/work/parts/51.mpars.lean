set_option maxHeartbeats 4000000 in
set_option maxRecDepth 100000 in
theorem ct_X12_isOn (l : Launch) (E : oE) (s : oS) (a1 : Int32)   : oMet l 1 yX12_isOn cX12_isOn 2 (some .boolean) [] E s [.ref (oad E 71), .int a1] (oPi (fun r u => (0 ≤ r.toInt ∧ r.toInt ≤ 1) ∧ (r.toInt = 1 → (1 ≤ (u.1 71 47).toInt ∧ oTop u = a1.toInt)) ∧ (r.toInt = 0 → ((u.1 71 47).toInt ≤ 0 ∨ oTop u ≠ a1.toInt)))) := by
  refine oMet.of (lv := [(0, .ref (oad E 71)), (1, .int a1)]) (by decide +kernel) (Nat.le_of_ble_eq_true rfl) rfl (fun J C hT => ?_)
  have C : oC l 1 cX12_isOn RX12 2 (some .boolean) [] E s (oPi (fun r u => (0 ≤ r.toInt ∧ r.toInt ≤ 1) ∧ (r.toInt = 1 → (1 ≤ (u.1 71 47).toInt ∧ oTop u = a1.toInt)) ∧ (r.toInt = 0 → ((u.1 71 47).toInt ≤ 0 ∨ oTop u ≠ a1.toInt)))) J := C
  obtain ⟨k0, qk0⟩ : ∃ z : Int32, z = 0 := ⟨_, rfl⟩
  have ek0 : k0.toInt = 0 := by rw [qk0]; rfl
  obtain ⟨k1, qk1⟩ : ∃ z : Int32, z = 1 := ⟨_, rfl⟩
  have ek1 : k1.toInt = 1 := by rw [qk1]; rfl
  have rg1 := n_rng a1
  refine r_aload_n C (j := 0) (oDec_at oX12_isOn 0 rfl) rfl rfl ?_
  obtain ⟨v1, ev1⟩ : ∃ z : Int32, (s).1 71 47 = z := ⟨_, rfl⟩
  have gv1 : (s.1 71 47).toInt = v1.toInt := congrArg Int32.toInt (ev1)
  refine r_geti (k := 47) (lo := 0) (hi := 1700) C v1 oCl12 rfl (by decide) flX12_277 rfl rfl (ev1) rfl rfl (oDec_at oX12_isOn 1 rfl) (fun b2 b2h => ?_)
  refine r_if_le C 26 (oDec_at oX12_isOn 2 rfl) (by decide) (fun cd3 => ?_) (fun cd3 => ?_)
  · skip
    refine r_iconst C (oDec_at oX12_isOn 14 rfl) (v := k0) (by rw [qk0]; rfl) ?_
    have lk4 : ((s).1 71 47).toInt = v1.toInt := congrArg Int32.toInt (ev1)
    have lk5 : ((s).1 71 47).toInt = v1.toInt := congrArg Int32.toInt (ev1)
    exact r_zret C (n_bool (by omega)) (oDec_at oX12_isOn 15 rfl) ⟨_, rfl, ⟨by omega, by omega, by omega⟩⟩
  · skip
    refine r_aload_n C (j := 0) (oDec_at oX12_isOn 3 rfl) rfl rfl ?_
    refine r_getF (k := 46) (b := 103) C oCl12 rfl (by decide) flX12_111 rfl rfl rfl (oDec_at oX12_isOn 4 rfl) ?_
    refine r_aload_n C (j := 0) (oDec_at oX12_isOn 5 rfl) rfl rfl ?_
    refine r_geti (k := 47) (lo := 0) (hi := 1700) C v1 oCl12 rfl (by decide) flX12_277 rfl rfl (ev1) rfl rfl (oDec_at oX12_isOn 6 rfl) (fun _ _ => ?_)
    refine r_iconst C (oDec_at oX12_isOn 7 rfl) (v := k1) (by rw [qk1]; rfl) ?_
    obtain ⟨v6, ev6⟩ : ∃ z : Int32, z = v1 - k1 := ⟨_, rfl⟩
    have hv6 : v6.toInt = v1.toInt - k1.toInt := n_sub ev6 (by omega) (by omega)
    refine r_isub C v6 (oDec_at oX12_isOn 8 rfl) ev6 ?_
    refine r_pc C 17 rfl ?_
    obtain ⟨v8, ev8⟩ : ∃ z : Int32, (s).1 103 v6.toNatClampNeg = z := ⟨_, rfl⟩
    have gv8 : (s.1 103 v6.toNatClampNeg).toInt = v8.toInt := congrArg Int32.toInt (ev8)
    have rv8 := n_rng v8
    refine r_iald (n := 1700) (lo := (-2147483648)) (hi := 2147483647) C v8 rfl (by decide) rfl rfl ⟨by omega, by omega⟩ (by decide) ev8 rfl rfl (oDec_at oX12_isOn 9 rfl) (fun _ _ => ?_)
    have ht := oTop_of (i := v6) ev8 (by omega)
    refine r_iload_n C (j := 1) (oDec_at oX12_isOn 10 rfl) rfl rfl ?_
    refine r_icmp_ne C 26 (oDec_at oX12_isOn 11 rfl) (by decide) (fun cd9 => ?_) (fun cd9 => ?_)
    · skip
      refine r_iconst C (oDec_at oX12_isOn 14 rfl) (v := k0) (by rw [qk0]; rfl) ?_
      have lk10 : ((s).1 71 47).toInt = v1.toInt := congrArg Int32.toInt (ev1)
      have lk11 : ((s).1 71 47).toInt = v1.toInt := congrArg Int32.toInt (ev1)
      exact r_zret C (n_bool (by omega)) (oDec_at oX12_isOn 15 rfl) ⟨_, rfl, ⟨by omega, by omega, by omega⟩⟩
    · skip
      refine r_iconst C (oDec_at oX12_isOn 12 rfl) (v := k1) (by rw [qk1]; rfl) ?_
      refine r_goto C (tgt := 27) (oDec_at oX12_isOn 13 rfl) (by decide) ?_
      have lk12 : ((s).1 71 47).toInt = v1.toInt := congrArg Int32.toInt (ev1)
      have lk13 : ((s).1 71 47).toInt = v1.toInt := congrArg Int32.toInt (ev1)
      exact r_zret C (n_bool (by omega)) (oDec_at oX12_isOn 15 rfl) ⟨_, rfl, ⟨by omega, by omega, by omega⟩⟩
set_option maxHeartbeats 4000000 in
set_option maxRecDepth 100000 in
theorem ct_X12_isMark (l : Launch) (E : oE) (s : oS) (a1 : Int32)   : oMet l 1 yX12_isMark cX12_isMark 2 (some .boolean) [] E s [.ref (oad E 71), .int a1] (oPi (fun r u => (0 ≤ r.toInt ∧ r.toInt ≤ 1) ∧ ((r.toInt = 1 ∧ 20 ≤ a1.toInt ∧ a1.toInt ≤ 24) ∨ (r.toInt = 0 ∧ (a1.toInt < 20 ∨ 24 < a1.toInt))))) := by
  refine oMet.of (lv := [(0, .ref (oad E 71)), (1, .int a1)]) (by decide +kernel) (Nat.le_of_ble_eq_true rfl) rfl (fun J C hT => ?_)
  have C : oC l 1 cX12_isMark RX12 2 (some .boolean) [] E s (oPi (fun r u => (0 ≤ r.toInt ∧ r.toInt ≤ 1) ∧ ((r.toInt = 1 ∧ 20 ≤ a1.toInt ∧ a1.toInt ≤ 24) ∨ (r.toInt = 0 ∧ (a1.toInt < 20 ∨ 24 < a1.toInt))))) J := C
  obtain ⟨k0, qk0⟩ : ∃ z : Int32, z = 0 := ⟨_, rfl⟩
  have ek0 : k0.toInt = 0 := by rw [qk0]; rfl
  obtain ⟨k1, qk1⟩ : ∃ z : Int32, z = 1 := ⟨_, rfl⟩
  have ek1 : k1.toInt = 1 := by rw [qk1]; rfl
  obtain ⟨k20, qk20⟩ : ∃ z : Int32, z = 20 := ⟨_, rfl⟩
  have ek20 : k20.toInt = 20 := by rw [qk20]; rfl
  obtain ⟨k24, qk24⟩ : ∃ z : Int32, z = 24 := ⟨_, rfl⟩
  have ek24 : k24.toInt = 24 := by rw [qk24]; rfl
  have rg1 := n_rng a1
  refine r_iload_n C (j := 1) (oDec_at oX12_isMark 0 rfl) rfl rfl ?_
  refine r_bipush C (oDec_at oX12_isMark 1 rfl) (v := k20) (by rw [qk20]; rfl) ?_
  refine r_icmp_lt C 16 (oDec_at oX12_isMark 2 rfl) (by decide) (fun cd1 => ?_) (fun cd1 => ?_)
  · skip
    refine r_iconst C (oDec_at oX12_isMark 8 rfl) (v := k0) (by rw [qk0]; rfl) ?_
    exact r_zret C (n_bool (by omega)) (oDec_at oX12_isMark 9 rfl) ⟨_, rfl, ⟨by omega, by omega⟩⟩
  · skip
    refine r_iload_n C (j := 1) (oDec_at oX12_isMark 3 rfl) rfl rfl ?_
    refine r_bipush C (oDec_at oX12_isMark 4 rfl) (v := k24) (by rw [qk24]; rfl) ?_
    refine r_icmp_gt C 16 (oDec_at oX12_isMark 5 rfl) (by decide) (fun cd2 => ?_) (fun cd2 => ?_)
    · skip
      refine r_iconst C (oDec_at oX12_isMark 8 rfl) (v := k0) (by rw [qk0]; rfl) ?_
      exact r_zret C (n_bool (by omega)) (oDec_at oX12_isMark 9 rfl) ⟨_, rfl, ⟨by omega, by omega⟩⟩
    · skip
      refine r_iconst C (oDec_at oX12_isMark 6 rfl) (v := k1) (by rw [qk1]; rfl) ?_
      refine r_goto C (tgt := 17) (oDec_at oX12_isMark 7 rfl) (by decide) ?_
      exact r_zret C (n_bool (by omega)) (oDec_at oX12_isMark 9 rfl) ⟨_, rfl, ⟨by omega, by omega⟩⟩
set_option maxHeartbeats 4000000 in
set_option maxRecDepth 100000 in
theorem ct_X12_mark (l : Launch) (E : oE) (s : oS)    : oMet l 2 yX12_mark cX12_mark 2 (some .int) [] E s [.ref (oad E 71)] (oPi (fun r u => (oMk r.toInt u))) := by
  refine oMet.of (lv := [(0, .ref (oad E 71))]) (by decide +kernel) (Nat.le_of_ble_eq_true rfl) rfl (fun J C hT => ?_)
  have C : oC l 2 cX12_mark RX12 2 (some .int) [] E s (oPi (fun r u => (oMk r.toInt u))) J := C
  obtain ⟨km1, qkm1⟩ : ∃ z : Int32, z = (-1) := ⟨_, rfl⟩
  have ekm1 : km1.toInt = (-1) := by rw [qkm1]; rfl
  obtain ⟨k1, qk1⟩ : ∃ z : Int32, z = 1 := ⟨_, rfl⟩
  have ek1 : k1.toInt = 1 := by rw [qk1]; rfl
  have key : ∀ n : Nat, (∀ (t : oS) (x1 : Int32), (-1 ≤ x1.toInt ∧ x1.toInt < (t.1 71 47).toInt) → (oNo x1 t) → x1.toInt + 2 ≤ (n : Int) → J t 7 [(0, .ref (oad E 71)), (1, .int x1)] []) := by
    intro n
    induction n using Nat.strongRecOn with
    | _ n ih =>
      skip
      · intro t x1  iv0 iv1 hmu
        have rx1 := n_rng x1
        refine r_ty C (fun hty => ?_)
        have hty_waits : (0 : Int) ≤ ((t).1 71 47).toInt ∧ ((t).1 71 47).toInt ≤ 1700 := hty.1 71 47
        clear hty
        refine r_iload_n C (j := 1) (oDec_at oX12_mark 5 rfl) rfl rfl ?_
        refine r_aload_n C (j := 0) (oDec_at oX12_mark 6 rfl) rfl rfl ?_
        obtain ⟨v1, ev1⟩ : ∃ z : Int32, (t).1 71 55 = z := ⟨_, rfl⟩
        have gv1 : (t.1 71 55).toInt = v1.toInt := congrArg Int32.toInt (ev1)
        refine r_geti (k := 55) (lo := 0) (hi := 1700) C v1 oCl12 rfl (by decide) flX12_283 rfl rfl (ev1) rfl rfl (oDec_at oX12_mark 7 rfl) (fun b2 b2h => ?_)
        refine r_icmp_lt C 34 (oDec_at oX12_mark 8 rfl) (by decide) (fun cd3 => ?_) (fun cd3 => ?_)
        · skip
          refine r_iload_n C (j := 1) (oDec_at oX12_mark 18 rfl) rfl rfl ?_
          refine r_aload_n C (j := 0) (oDec_at oX12_mark 19 rfl) rfl rfl ?_
          refine r_geti (k := 55) (lo := 0) (hi := 1700) C v1 oCl12 rfl (by decide) flX12_283 rfl rfl (ev1) rfl rfl (oDec_at oX12_mark 20 rfl) (fun _ _ => ?_)
          refine r_icmp_lt C 51 (oDec_at oX12_mark 21 rfl) (by decide) (fun cd4 => ?_) (fun cd4 => ?_)
          · skip
            refine r_iconst C (oDec_at oX12_mark 27 rfl) (v := km1) (by rw [qkm1]; rfl) ?_
            exact r_iret C (oDec_at oX12_mark 28 rfl) ⟨_, rfl, by first | (exfalso; omega) | exact oMk_none iv1 (by omega) (by omega) | exact oMk_some (by assumption) iv1 (by omega) (by omega) (by omega) (by omega)⟩
          · skip
            refine r_aload_n C (j := 0) (oDec_at oX12_mark 22 rfl) rfl rfl ?_
            refine r_getF (k := 46) (b := 103) C oCl12 rfl (by decide) flX12_111 rfl rfl rfl (oDec_at oX12_mark 23 rfl) ?_
            refine r_iload_n C (j := 1) (oDec_at oX12_mark 24 rfl) rfl rfl ?_
            obtain ⟨v6, ev6⟩ : ∃ z : Int32, (t).1 103 x1.toNatClampNeg = z := ⟨_, rfl⟩
            have gv6 : (t.1 103 x1.toNatClampNeg).toInt = v6.toInt := congrArg Int32.toInt (ev6)
            have rv6 := n_rng v6
            refine r_iald (n := 1700) (lo := (-2147483648)) (hi := 2147483647) C v6 rfl (by decide) rfl rfl ⟨by omega, by omega⟩ (by decide) ev6 rfl rfl (oDec_at oX12_mark 25 rfl) (fun _ _ => ?_)
            refine r_goto C (tgt := 52) (oDec_at oX12_mark 26 rfl) (by decide) ?_
            exact r_iret C (oDec_at oX12_mark 28 rfl) ⟨_, rfl, by first | (exfalso; omega) | exact oMk_none iv1 (by omega) (by omega) | exact oMk_some (by assumption) iv1 (by omega) (by omega) (by omega) (by omega)⟩
        · skip
          refine r_aload_n C (j := 0) (oDec_at oX12_mark 9 rfl) rfl rfl ?_
          refine r_aload_n C (j := 0) (oDec_at oX12_mark 10 rfl) rfl rfl ?_
          refine r_getF (k := 46) (b := 103) C oCl12 rfl (by decide) flX12_111 rfl rfl rfl (oDec_at oX12_mark 11 rfl) ?_
          refine r_iload_n C (j := 1) (oDec_at oX12_mark 12 rfl) rfl rfl ?_
          obtain ⟨v8, ev8⟩ : ∃ z : Int32, (t).1 103 x1.toNatClampNeg = z := ⟨_, rfl⟩
          have gv8 : (t.1 103 x1.toNatClampNeg).toInt = v8.toInt := congrArg Int32.toInt (ev8)
          have rv8 := n_rng v8
          refine r_iald (n := 1700) (lo := (-2147483648)) (hi := 2147483647) C v8 rfl (by decide) rfl rfl ⟨by omega, by omega⟩ (by decide) ev8 rfl rfl (oDec_at oX12_mark 13 rfl) (fun _ _ => ?_)
          refine r_callVi C oCl12 rfl miX12_isMark mlX12_286 (ct_X12_isMark l E (t) v8 ) (by decide) rfl rfl rfl (Nat.le_of_ble_eq_true rfl) (oDec_at oX12_mark 14 rfl) (fun r10 u9 pu9 fu9 => ?_)
          try dsimp only at pu9
          obtain ⟨pu9_0, pu9_1⟩ := pu9
          have hxu9 := oFr_nil fu9; subst hxu9
          have rr10 := n_rng r10
          refine r_pc C 25 rfl ?_
          refine r_if_ne C 34 (oDec_at oX12_mark 15 rfl) (by decide) (fun cd11 => ?_) (fun cd11 => ?_)
          · skip
            refine r_iload_n C (j := 1) (oDec_at oX12_mark 18 rfl) rfl rfl ?_
            refine r_aload_n C (j := 0) (oDec_at oX12_mark 19 rfl) rfl rfl ?_
            refine r_geti (k := 55) (lo := 0) (hi := 1700) C v1 oCl12 rfl (by decide) flX12_283 rfl rfl (ev1) rfl rfl (oDec_at oX12_mark 20 rfl) (fun _ _ => ?_)
            refine r_icmp_lt C 51 (oDec_at oX12_mark 21 rfl) (by decide) (fun cd12 => ?_) (fun cd12 => ?_)
            · skip
              refine r_iconst C (oDec_at oX12_mark 27 rfl) (v := km1) (by rw [qkm1]; rfl) ?_
              exact r_iret C (oDec_at oX12_mark 28 rfl) ⟨_, rfl, by first | (exfalso; omega) | exact oMk_none iv1 (by omega) (by omega) | exact oMk_some (by assumption) iv1 (by omega) (by omega) (by omega) (by omega)⟩
            · skip
              refine r_aload_n C (j := 0) (oDec_at oX12_mark 22 rfl) rfl rfl ?_
              refine r_getF (k := 46) (b := 103) C oCl12 rfl (by decide) flX12_111 rfl rfl rfl (oDec_at oX12_mark 23 rfl) ?_
              refine r_iload_n C (j := 1) (oDec_at oX12_mark 24 rfl) rfl rfl ?_
              refine r_iald (n := 1700) (lo := (-2147483648)) (hi := 2147483647) C v8 rfl (by decide) rfl rfl ⟨by omega, by omega⟩ (by decide) (ev8) rfl rfl (oDec_at oX12_mark 25 rfl) (fun _ _ => ?_)
              refine r_goto C (tgt := 52) (oDec_at oX12_mark 26 rfl) (by decide) ?_
              exact r_iret C (oDec_at oX12_mark 28 rfl) ⟨_, rfl, by first | (exfalso; omega) | exact oMk_none iv1 (by omega) (by omega) | exact oMk_some (by assumption) iv1 (by omega) (by omega) (by omega) (by omega)⟩
          · skip
            obtain ⟨v14, ev14⟩ : ∃ z : Int32, x1 + Int32.ofInt (-1) = z := ⟨_, rfl⟩
            have hv14 : v14.toInt = x1.toInt + (-1) := n_inc ev14 (by decide) (by omega) (by omega)
            refine r_iinc C (j := 1) (lv' := [(0, .ref (oad E 71)), (1, .int v14)]) v14 [1, 0] (oDec_at oX12_mark 16 rfl) rfl ev14 (by decide) rfl ?_
            refine r_goto C (tgt := 7) (oDec_at oX12_mark 17 rfl) (by decide) ?_
            exact (ih (n - 1) (by omega)) (t) v14  (by omega) (by first | exact oNo_step (x := x1) (y := v14) iv1 (by omega) (by omega) (by omega) | exact oNo_0 (by omega)) (by omega)
  refine r_aload_n C (j := 0) (oDec_at oX12_mark 0 rfl) rfl rfl ?_
  obtain ⟨v15, ev15⟩ : ∃ z : Int32, (s).1 71 47 = z := ⟨_, rfl⟩
  have gv15 : (s.1 71 47).toInt = v15.toInt := congrArg Int32.toInt (ev15)
  refine r_geti (k := 47) (lo := 0) (hi := 1700) C v15 oCl12 rfl (by decide) flX12_277 rfl rfl (ev15) rfl rfl (oDec_at oX12_mark 1 rfl) (fun b16 b16h => ?_)
  refine r_iconst C (oDec_at oX12_mark 2 rfl) (v := k1) (by rw [qk1]; rfl) ?_
  obtain ⟨v17, ev17⟩ : ∃ z : Int32, z = v15 - k1 := ⟨_, rfl⟩
  have hv17 : v17.toInt = v15.toInt - k1.toInt := n_sub ev17 (by omega) (by omega)
  refine r_isub C v17 (oDec_at oX12_mark 3 rfl) ev17 ?_
  refine r_istore_n C (lv' := [(0, .ref (oad E 71)), (1, .int v17)]) [1, 0] (oDec_at oX12_mark 4 rfl) rfl (by decide) rfl ?_
  have lk18 : ((s).1 71 47).toInt = v15.toInt := congrArg Int32.toInt (ev15)
  exact (key (v17.toInt + 2).toNat) (s) v17  (by omega) (by first | exact oNo_0 (by omega)) (by omega)
