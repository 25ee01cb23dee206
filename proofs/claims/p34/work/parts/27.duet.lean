set_option maxHeartbeats 4000000 in
set_option maxRecDepth 100000 in
theorem ct_X1_tickOf (l : Launch) (E : oE) (s : oS) (a1 : Int32)  : oMet l 1 yX1_tickOf cX1_tickOf 2 (some .int) [] E s [.ref (oad E 35), .int a1] (oPi (fun r u => True)) := by
  refine oMet.of (lv := [(0, .ref (oad E 35)), (1, .int a1)]) (by decide +kernel) (Nat.le_of_ble_eq_true rfl) rfl (fun J C hT => ?_)
  have C : oC l 1 cX1_tickOf RX1 2 (some .int) [] E s (oPi (fun r u => True)) J := C
  obtain ⟨km1, qkm1⟩ : ∃ z : Int32, z = (-1) := ⟨_, rfl⟩
  have ekm1 : km1.toInt = (-1) := by rw [qkm1]; rfl
  obtain ⟨k48, qk48⟩ : ∃ z : Int32, z = 48 := ⟨_, rfl⟩
  have ek48 : k48.toInt = 48 := by rw [qk48]; rfl
  have rg1 := n_rng a1
  refine r_iload_n C (j := 1) (oDec_at oX1_tickOf 0 rfl) rfl rfl ?_
  refine r_if_lt C 27 (oDec_at oX1_tickOf 1 rfl) (by decide) (fun cd1 => ?_) (fun cd1 => ?_)
  · skip
    refine r_iconst C (oDec_at oX1_tickOf 14 rfl) (v := km1) (by rw [qkm1]; rfl) ?_
    exact r_iret C (oDec_at oX1_tickOf 15 rfl) ⟨_, rfl, trivial⟩
  · skip
    refine r_iload_n C (j := 1) (oDec_at oX1_tickOf 2 rfl) rfl rfl ?_
    refine r_aload_n C (j := 0) (oDec_at oX1_tickOf 3 rfl) rfl rfl ?_
    obtain ⟨v2, ev2⟩ : ∃ z : Int32, (s).1 35 6 = z := ⟨_, rfl⟩
    have gv2 : (s.1 35 6).toInt = v2.toInt := congrArg Int32.toInt (ev2)
    refine r_geti (k := 6) (lo := 0) (hi := 48) C v2 oCl1 rfl (by decide) flX1_104 rfl rfl (ev2) rfl rfl (oDec_at oX1_tickOf 4 rfl) (fun b3 b3h => ?_)
    refine r_icmp_ge C 27 (oDec_at oX1_tickOf 5 rfl) (by decide) (fun cd4 => ?_) (fun cd4 => ?_)
    · skip
      refine r_iconst C (oDec_at oX1_tickOf 14 rfl) (v := km1) (by rw [qkm1]; rfl) ?_
      exact r_iret C (oDec_at oX1_tickOf 15 rfl) ⟨_, rfl, trivial⟩
    · skip
      refine r_iload_n C (j := 1) (oDec_at oX1_tickOf 6 rfl) rfl rfl ?_
      refine r_bipush C (oDec_at oX1_tickOf 7 rfl) (v := k48) (by rw [qk48]; rfl) ?_
      refine r_icmp_ge C 27 (oDec_at oX1_tickOf 8 rfl) (by decide) (fun cd5 => ?_) (fun cd5 => ?_)
      · skip
        refine r_iconst C (oDec_at oX1_tickOf 14 rfl) (v := km1) (by rw [qkm1]; rfl) ?_
        exact r_iret C (oDec_at oX1_tickOf 15 rfl) ⟨_, rfl, trivial⟩
      · skip
        refine r_aload_n C (j := 0) (oDec_at oX1_tickOf 9 rfl) rfl rfl ?_
        refine r_getF (k := 0) (b := 36) C oCl1 rfl (by decide) flX1_11 rfl rfl rfl (oDec_at oX1_tickOf 10 rfl) ?_
        refine r_iload_n C (j := 1) (oDec_at oX1_tickOf 11 rfl) rfl rfl ?_
        obtain ⟨v6, ev6⟩ : ∃ z : Int32, (s).1 36 a1.toNatClampNeg = z := ⟨_, rfl⟩
        have rv6 := n_rng v6
        refine r_iald (n := 48) (lo := (-2147483648)) (hi := 2147483647) C v6 rfl (by decide) rfl rfl ⟨by omega, by omega⟩ (by decide) ev6 rfl rfl (oDec_at oX1_tickOf 12 rfl) (fun _ _ => ?_)
        refine r_goto C (tgt := 28) (oDec_at oX1_tickOf 13 rfl) (by decide) ?_
        exact r_iret C (oDec_at oX1_tickOf 15 rfl) ⟨_, rfl, trivial⟩
