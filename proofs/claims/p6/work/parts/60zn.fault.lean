set_option maxHeartbeats 4000000 in
set_option maxRecDepth 100000 in
theorem ct4_X11_fault (l : Launch) (E : oE) (s : oS) (a1 : Int32)   : oMet l 1 yX11_fault cX11_fault 2 (some .int) [] E s [.ref (oad E 0), .int a1] (oPi (fun r u => ((a1.toInt = 0 ∧ r.toInt = (u.1 30 8).toInt) ∨ (a1.toInt = 1 ∧ r.toInt = (u.1 30 9).toInt) ∨ (a1.toInt ≠ 0 ∧ a1.toInt ≠ 1 ∧ r.toInt = -1)))) := by
  refine oMet.of (lv := [(0, .ref (oad E 0)), (1, .int a1)]) (by decide +kernel) (Nat.le_of_ble_eq_true rfl) rfl (fun J C hT => ?_)
  have C : oC l 1 cX11_fault RX11 2 (some .int) [] E s (oPi (fun r u => ((a1.toInt = 0 ∧ r.toInt = (u.1 30 8).toInt) ∨ (a1.toInt = 1 ∧ r.toInt = (u.1 30 9).toInt) ∨ (a1.toInt ≠ 0 ∧ a1.toInt ≠ 1 ∧ r.toInt = -1)))) J := C
  obtain ⟨km1, qkm1⟩ : ∃ z : Int32, z = (-1) := ⟨_, rfl⟩
  have ekm1 : km1.toInt = (-1) := by rw [qkm1]; rfl
  obtain ⟨k1, qk1⟩ : ∃ z : Int32, z = 1 := ⟨_, rfl⟩
  have ek1 : k1.toInt = 1 := by rw [qk1]; rfl
  have rg1 := n_rng a1
  refine r_iload_n C (j := 1) (oDec_at oX11_fault 0 rfl) rfl rfl ?_
  refine r_if_ne C 12 (oDec_at oX11_fault 1 rfl) (by decide) (fun cd1 => ?_) (fun cd1 => ?_)
  · skip
    refine r_iload_n C (j := 1) (oDec_at oX11_fault 6 rfl) rfl rfl ?_
    refine r_iconst C (oDec_at oX11_fault 7 rfl) (v := k1) (by rw [qk1]; rfl) ?_
    refine r_icmp_ne C 27 (oDec_at oX11_fault 8 rfl) (by decide) (fun cd2 => ?_) (fun cd2 => ?_)
    · skip
      refine r_iconst C (oDec_at oX11_fault 13 rfl) (v := km1) (by rw [qkm1]; rfl) ?_
      exact r_iret C (oDec_at oX11_fault 14 rfl) ⟨_, rfl, by omega⟩
    · skip
      refine r_aload_n C (j := 0) (oDec_at oX11_fault 9 rfl) rfl rfl ?_
      refine r_getF (k := 6) (b := 30) C oCl11 rfl (by decide) flX11_44 rfl rfl rfl (oDec_at oX11_fault 10 rfl) ?_
      obtain ⟨v3, ev3⟩ : ∃ z : Int32, (s).1 30 9 = z := ⟨_, rfl⟩
      have gv3 : (s.1 30 9).toInt = v3.toInt := congrArg Int32.toInt (ev3)
      have rv3 := n_rng v3
      refine r_getiN (k := 9) (lo := (-2147483648)) (hi := 2147483647) C v3 oCl5 rfl (by decide) flX11_137 rfl rfl (ev3) rfl rfl (oDec_at oX11_fault 11 rfl) (fun _ _ => ?_)
      refine r_goto C (tgt := 28) (oDec_at oX11_fault 12 rfl) (by decide) ?_
      have lk4 : ((s).1 30 9).toInt = v3.toInt := congrArg Int32.toInt (ev3)
      exact r_iret C (oDec_at oX11_fault 14 rfl) ⟨_, rfl, by omega⟩
  · skip
    refine r_aload_n C (j := 0) (oDec_at oX11_fault 2 rfl) rfl rfl ?_
    refine r_getF (k := 6) (b := 30) C oCl11 rfl (by decide) flX11_44 rfl rfl rfl (oDec_at oX11_fault 3 rfl) ?_
    obtain ⟨v5, ev5⟩ : ∃ z : Int32, (s).1 30 8 = z := ⟨_, rfl⟩
    have gv5 : (s.1 30 8).toInt = v5.toInt := congrArg Int32.toInt (ev5)
    have rv5 := n_rng v5
    refine r_getiN (k := 8) (lo := (-2147483648)) (hi := 2147483647) C v5 oCl5 rfl (by decide) flX11_134 rfl rfl (ev5) rfl rfl (oDec_at oX11_fault 4 rfl) (fun _ _ => ?_)
    have lk6 : ((s).1 30 8).toInt = v5.toInt := congrArg Int32.toInt (ev5)
    exact r_iret C (oDec_at oX11_fault 5 rfl) ⟨_, rfl, by omega⟩
set_option maxHeartbeats 4000000 in
set_option maxRecDepth 100000 in
theorem ct4_X12_fault (l : Launch) (E : oE) (s : oS) (a1 : Int32)   : oMet l 1 yX12_fault cX12_fault 2 (some .int) [] E s [.ref (oad E 71), .int a1] (oPi (fun r u => ((a1.toInt = 0 ∧ r.toInt = (u.1 71 7).toInt) ∨ (a1.toInt = 1 ∧ r.toInt = (u.1 71 8).toInt) ∨ (a1.toInt ≠ 0 ∧ a1.toInt ≠ 1 ∧ r.toInt = -1)))) := by
  refine oMet.of (lv := [(0, .ref (oad E 71)), (1, .int a1)]) (by decide +kernel) (Nat.le_of_ble_eq_true rfl) rfl (fun J C hT => ?_)
  have C : oC l 1 cX12_fault RX12 2 (some .int) [] E s (oPi (fun r u => ((a1.toInt = 0 ∧ r.toInt = (u.1 71 7).toInt) ∨ (a1.toInt = 1 ∧ r.toInt = (u.1 71 8).toInt) ∨ (a1.toInt ≠ 0 ∧ a1.toInt ≠ 1 ∧ r.toInt = -1)))) J := C
  obtain ⟨km1, qkm1⟩ : ∃ z : Int32, z = (-1) := ⟨_, rfl⟩
  have ekm1 : km1.toInt = (-1) := by rw [qkm1]; rfl
  obtain ⟨k1, qk1⟩ : ∃ z : Int32, z = 1 := ⟨_, rfl⟩
  have ek1 : k1.toInt = 1 := by rw [qk1]; rfl
  have rg1 := n_rng a1
  refine r_iload_n C (j := 1) (oDec_at oX12_fault 0 rfl) rfl rfl ?_
  refine r_if_ne C 11 (oDec_at oX12_fault 1 rfl) (by decide) (fun cd1 => ?_) (fun cd1 => ?_)
  · skip
    refine r_iload_n C (j := 1) (oDec_at oX12_fault 5 rfl) rfl rfl ?_
    refine r_iconst C (oDec_at oX12_fault 6 rfl) (v := k1) (by rw [qk1]; rfl) ?_
    refine r_icmp_ne C 23 (oDec_at oX12_fault 7 rfl) (by decide) (fun cd2 => ?_) (fun cd2 => ?_)
    · skip
      refine r_iconst C (oDec_at oX12_fault 11 rfl) (v := km1) (by rw [qkm1]; rfl) ?_
      exact r_iret C (oDec_at oX12_fault 12 rfl) ⟨_, rfl, by omega⟩
    · skip
      refine r_aload_n C (j := 0) (oDec_at oX12_fault 8 rfl) rfl rfl ?_
      obtain ⟨v3, ev3⟩ : ∃ z : Int32, (s).1 71 8 = z := ⟨_, rfl⟩
      have gv3 : (s.1 71 8).toInt = v3.toInt := congrArg Int32.toInt (ev3)
      have rv3 := n_rng v3
      refine r_geti (k := 8) (lo := (-2147483648)) (hi := 2147483647) C v3 oCl12 rfl (by decide) flX12_13 rfl rfl (ev3) rfl rfl (oDec_at oX12_fault 9 rfl) (fun _ _ => ?_)
      refine r_goto C (tgt := 24) (oDec_at oX12_fault 10 rfl) (by decide) ?_
      have lk4 : ((s).1 71 8).toInt = v3.toInt := congrArg Int32.toInt (ev3)
      exact r_iret C (oDec_at oX12_fault 12 rfl) ⟨_, rfl, by omega⟩
  · skip
    refine r_aload_n C (j := 0) (oDec_at oX12_fault 2 rfl) rfl rfl ?_
    obtain ⟨v5, ev5⟩ : ∃ z : Int32, (s).1 71 7 = z := ⟨_, rfl⟩
    have gv5 : (s.1 71 7).toInt = v5.toInt := congrArg Int32.toInt (ev5)
    have rv5 := n_rng v5
    refine r_geti (k := 7) (lo := (-2147483648)) (hi := 2147483647) C v5 oCl12 rfl (by decide) flX12_237 rfl rfl (ev5) rfl rfl (oDec_at oX12_fault 3 rfl) (fun _ _ => ?_)
    refine r_goto C (tgt := 24) (oDec_at oX12_fault 4 rfl) (by decide) ?_
    have lk6 : ((s).1 71 7).toInt = v5.toInt := congrArg Int32.toInt (ev5)
    exact r_iret C (oDec_at oX12_fault 12 rfl) ⟨_, rfl, by omega⟩
