set_option maxHeartbeats 4000000 in
set_option maxRecDepth 100000 in
theorem ct_X12_isIn (l : Launch) (E : oE) (s : oS) (a0 : Int64) (a2 : Int64) (a4 : Int64)  : oMet l 1 yX12_isIn cX12_isIn 6 (some .boolean) [] E s [.long a0, .long a2, .long a4] (oPi (fun r u => (0 ≤ r.toInt ∧ r.toInt ≤ 1) ∧ ((r.toInt = 1 ∧ a2.toInt ≤ a0.toInt ∧ a0.toInt ≤ a4.toInt) ∨ (r.toInt = 0 ∧ (a0.toInt < a2.toInt ∨ a4.toInt < a0.toInt))))) := by
  refine oMet.of (lv := [(0, .long a0), (2, .long a2), (4, .long a4)]) (by decide +kernel) (Nat.le_of_ble_eq_true rfl) rfl (fun J C hT => ?_)
  have C : oC l 1 cX12_isIn RX12 6 (some .boolean) [] E s (oPi (fun r u => (0 ≤ r.toInt ∧ r.toInt ≤ 1) ∧ ((r.toInt = 1 ∧ a2.toInt ≤ a0.toInt ∧ a0.toInt ≤ a4.toInt) ∨ (r.toInt = 0 ∧ (a0.toInt < a2.toInt ∨ a4.toInt < a0.toInt))))) J := C
  obtain ⟨k0, qk0⟩ : ∃ z : Int32, z = 0 := ⟨_, rfl⟩
  have ek0 : k0.toInt = 0 := by rw [qk0]; rfl
  obtain ⟨k1, qk1⟩ : ∃ z : Int32, z = 1 := ⟨_, rfl⟩
  have ek1 : k1.toInt = 1 := by rw [qk1]; rfl
  refine r_lload_n C (j := 0) (oDec_at oX12_isIn 0 rfl) rfl rfl ?_
  refine r_lload_n C (j := 1) (oDec_at oX12_isIn 1 rfl) rfl rfl ?_
  obtain ⟨v1, ev1⟩ : ∃ z : Int32, z = lg_cmp a0 a2 := ⟨_, rfl⟩
  have hv1 := n_lcmp ev1
  refine r_lcmp C v1 (oDec_at oX12_isIn 2 rfl) ev1 ?_
  refine r_if_lt C 17 (oDec_at oX12_isIn 3 rfl) (by decide) (fun cd2 => ?_) (fun cd2 => ?_)
  · skip
    refine r_iconst C (oDec_at oX12_isIn 10 rfl) (v := k0) (by rw [qk0]; rfl) ?_
    exact r_zret C (n_bool (by omega)) (oDec_at oX12_isIn 11 rfl) ⟨_, rfl, ⟨by omega, by omega⟩⟩
  · skip
    refine r_lload_n C (j := 0) (oDec_at oX12_isIn 4 rfl) rfl rfl ?_
    refine r_lload C (j := 2) (oDec_at oX12_isIn 5 rfl) rfl ?_
    obtain ⟨v3, ev3⟩ : ∃ z : Int32, z = lg_cmp a0 a4 := ⟨_, rfl⟩
    have hv3 := n_lcmp ev3
    refine r_lcmp C v3 (oDec_at oX12_isIn 6 rfl) ev3 ?_
    refine r_if_gt C 17 (oDec_at oX12_isIn 7 rfl) (by decide) (fun cd4 => ?_) (fun cd4 => ?_)
    · skip
      refine r_iconst C (oDec_at oX12_isIn 10 rfl) (v := k0) (by rw [qk0]; rfl) ?_
      exact r_zret C (n_bool (by omega)) (oDec_at oX12_isIn 11 rfl) ⟨_, rfl, ⟨by omega, by omega⟩⟩
    · skip
      refine r_iconst C (oDec_at oX12_isIn 8 rfl) (v := k1) (by rw [qk1]; rfl) ?_
      refine r_goto C (tgt := 18) (oDec_at oX12_isIn 9 rfl) (by decide) ?_
      exact r_zret C (n_bool (by omega)) (oDec_at oX12_isIn 11 rfl) ⟨_, rfl, ⟨by omega, by omega⟩⟩
set_option maxHeartbeats 4000000 in
set_option maxRecDepth 100000 in
theorem ct_X12_end (l : Launch) (E : oE) (s : oS) (a1 : Int32)  : oMet l 1 yX12_end cX12_end 2 (some .boolean) [(12, 1)] E s [.ref (oad E 71), .int a1] (oPi (fun r u => (0 ≤ r.toInt ∧ r.toInt ≤ 1) ∧ ((r.toInt = 1 ∧ 0 ≤ a1.toInt ∧ a1.toInt ≤ (s.1 71 1).toInt ∧ (u.1 71 1).toInt = a1.toInt) ∨ (r.toInt = 0 ∧ (a1.toInt < 0 ∨ (s.1 71 1).toInt < a1.toInt) ∧ (u.1 71 1).toInt = (s.1 71 1).toInt)))) := by
  refine oMet.of (lv := [(0, .ref (oad E 71)), (1, .int a1)]) (by decide +kernel) (Nat.le_of_ble_eq_true rfl) rfl (fun J C hT => ?_)
  have C : oC l 1 cX12_end RX12 2 (some .boolean) [(12, 1)] E s (oPi (fun r u => (0 ≤ r.toInt ∧ r.toInt ≤ 1) ∧ ((r.toInt = 1 ∧ 0 ≤ a1.toInt ∧ a1.toInt ≤ (s.1 71 1).toInt ∧ (u.1 71 1).toInt = a1.toInt) ∨ (r.toInt = 0 ∧ (a1.toInt < 0 ∨ (s.1 71 1).toInt < a1.toInt) ∧ (u.1 71 1).toInt = (s.1 71 1).toInt)))) J := C
  obtain ⟨k0, qk0⟩ : ∃ z : Int32, z = 0 := ⟨_, rfl⟩
  have ek0 : k0.toInt = 0 := by rw [qk0]; rfl
  obtain ⟨k1, qk1⟩ : ∃ z : Int32, z = 1 := ⟨_, rfl⟩
  have ek1 : k1.toInt = 1 := by rw [qk1]; rfl
  have rg1 := n_rng a1
  refine r_iload_n C (j := 1) (oDec_at oX12_end 0 rfl) rfl rfl ?_
  refine r_if_lt C 12 (oDec_at oX12_end 1 rfl) (by decide) (fun cd1 => ?_) (fun cd1 => ?_)
  · skip
    refine r_iconst C (oDec_at oX12_end 6 rfl) (v := k0) (by rw [qk0]; rfl) ?_
    exact r_zret C (n_bool (by omega)) (oDec_at oX12_end 7 rfl) ⟨_, rfl, ⟨by omega, by omega⟩⟩
  · skip
    refine r_iload_n C (j := 1) (oDec_at oX12_end 2 rfl) rfl rfl ?_
    refine r_aload_n C (j := 0) (oDec_at oX12_end 3 rfl) rfl rfl ?_
    obtain ⟨v2, ev2⟩ : ∃ z : Int32, (s).1 71 1 = z := ⟨_, rfl⟩
    have gv2 : (s.1 71 1).toInt = v2.toInt := congrArg Int32.toInt (ev2)
    refine r_geti (k := 1) (lo := 0) (hi := 1600) C v2 oCl12 rfl (by decide) flX12_170 rfl rfl (ev2) rfl rfl (oDec_at oX12_end 4 rfl) (fun b3 b3h => ?_)
    refine r_icmp_le C 14 (oDec_at oX12_end 5 rfl) (by decide) (fun cd4 => ?_) (fun cd4 => ?_)
    · skip
      refine r_aload_n C (j := 0) (oDec_at oX12_end 8 rfl) rfl rfl ?_
      refine r_iload_n C (j := 1) (oDec_at oX12_end 9 rfl) rfl rfl ?_
      refine r_puti (k := 1) (lo := 0) (hi := 1600) C oCl12 rfl (by decide) flX12_170 rfl rfl rfl rfl rfl rfl rfl rfl ⟨by omega, by omega⟩ (oDec_at oX12_end 10 rfl) ?_
      refine r_iconst C (oDec_at oX12_end 11 rfl) (v := k1) (by rw [qk1]; rfl) ?_
      have lk5 : (((pI s 71 1 a1)).1 71 1).toInt = a1.toInt := congrArg Int32.toInt ((pI_self _ _ _ _))
      exact r_zret C (n_bool (by omega)) (oDec_at oX12_end 12 rfl) ⟨_, rfl, ⟨by omega, by omega⟩⟩
    · skip
      refine r_iconst C (oDec_at oX12_end 6 rfl) (v := k0) (by rw [qk0]; rfl) ?_
      have lk6 : ((s).1 71 1).toInt = v2.toInt := congrArg Int32.toInt (ev2)
      exact r_zret C (n_bool (by omega)) (oDec_at oX12_end 7 rfl) ⟨_, rfl, ⟨by omega, by omega⟩⟩
set_option maxHeartbeats 4000000 in
set_option maxRecDepth 100000 in
theorem ct_X12_isLetter (l : Launch) (E : oE) (s : oS) (a0 : Int32)  : oMet l 1 yX12_isLetter cX12_isLetter 1 (some .boolean) [] E s [.int a0] (oPi (fun r u => (0 ≤ r.toInt ∧ r.toInt ≤ 1) ∧ ((r.toInt = 1 ∧ 97 ≤ a0.toInt ∧ a0.toInt ≤ 122) ∨ (r.toInt = 0 ∧ (a0.toInt < 97 ∨ 122 < a0.toInt))))) := by
  refine oMet.of (lv := [(0, .int a0)]) (by decide +kernel) (Nat.le_of_ble_eq_true rfl) rfl (fun J C hT => ?_)
  have C : oC l 1 cX12_isLetter RX12 1 (some .boolean) [] E s (oPi (fun r u => (0 ≤ r.toInt ∧ r.toInt ≤ 1) ∧ ((r.toInt = 1 ∧ 97 ≤ a0.toInt ∧ a0.toInt ≤ 122) ∨ (r.toInt = 0 ∧ (a0.toInt < 97 ∨ 122 < a0.toInt))))) J := C
  obtain ⟨k0, qk0⟩ : ∃ z : Int32, z = 0 := ⟨_, rfl⟩
  have ek0 : k0.toInt = 0 := by rw [qk0]; rfl
  obtain ⟨k1, qk1⟩ : ∃ z : Int32, z = 1 := ⟨_, rfl⟩
  have ek1 : k1.toInt = 1 := by rw [qk1]; rfl
  obtain ⟨k97, qk97⟩ : ∃ z : Int32, z = 97 := ⟨_, rfl⟩
  have ek97 : k97.toInt = 97 := by rw [qk97]; rfl
  obtain ⟨k122, qk122⟩ : ∃ z : Int32, z = 122 := ⟨_, rfl⟩
  have ek122 : k122.toInt = 122 := by rw [qk122]; rfl
  have rg0 := n_rng a0
  refine r_iload_n C (j := 0) (oDec_at oX12_isLetter 0 rfl) rfl rfl ?_
  refine r_bipush C (oDec_at oX12_isLetter 1 rfl) (v := k97) (by rw [qk97]; rfl) ?_
  refine r_icmp_lt C 16 (oDec_at oX12_isLetter 2 rfl) (by decide) (fun cd1 => ?_) (fun cd1 => ?_)
  · skip
    refine r_iconst C (oDec_at oX12_isLetter 8 rfl) (v := k0) (by rw [qk0]; rfl) ?_
    exact r_zret C (n_bool (by omega)) (oDec_at oX12_isLetter 9 rfl) ⟨_, rfl, ⟨by omega, by omega⟩⟩
  · skip
    refine r_iload_n C (j := 0) (oDec_at oX12_isLetter 3 rfl) rfl rfl ?_
    refine r_bipush C (oDec_at oX12_isLetter 4 rfl) (v := k122) (by rw [qk122]; rfl) ?_
    refine r_icmp_gt C 16 (oDec_at oX12_isLetter 5 rfl) (by decide) (fun cd2 => ?_) (fun cd2 => ?_)
    · skip
      refine r_iconst C (oDec_at oX12_isLetter 8 rfl) (v := k0) (by rw [qk0]; rfl) ?_
      exact r_zret C (n_bool (by omega)) (oDec_at oX12_isLetter 9 rfl) ⟨_, rfl, ⟨by omega, by omega⟩⟩
    · skip
      refine r_iconst C (oDec_at oX12_isLetter 6 rfl) (v := k1) (by rw [qk1]; rfl) ?_
      refine r_goto C (tgt := 17) (oDec_at oX12_isLetter 7 rfl) (by decide) ?_
      exact r_zret C (n_bool (by omega)) (oDec_at oX12_isLetter 9 rfl) ⟨_, rfl, ⟨by omega, by omega⟩⟩
set_option maxHeartbeats 4000000 in
set_option maxRecDepth 100000 in
theorem ct_X12_isDigit (l : Launch) (E : oE) (s : oS) (a0 : Int32)  : oMet l 1 yX12_isDigit cX12_isDigit 1 (some .boolean) [] E s [.int a0] (oPi (fun r u => (0 ≤ r.toInt ∧ r.toInt ≤ 1) ∧ ((r.toInt = 1 ∧ 48 ≤ a0.toInt ∧ a0.toInt ≤ 57) ∨ (r.toInt = 0 ∧ (a0.toInt < 48 ∨ 57 < a0.toInt))))) := by
  refine oMet.of (lv := [(0, .int a0)]) (by decide +kernel) (Nat.le_of_ble_eq_true rfl) rfl (fun J C hT => ?_)
  have C : oC l 1 cX12_isDigit RX12 1 (some .boolean) [] E s (oPi (fun r u => (0 ≤ r.toInt ∧ r.toInt ≤ 1) ∧ ((r.toInt = 1 ∧ 48 ≤ a0.toInt ∧ a0.toInt ≤ 57) ∨ (r.toInt = 0 ∧ (a0.toInt < 48 ∨ 57 < a0.toInt))))) J := C
  obtain ⟨k0, qk0⟩ : ∃ z : Int32, z = 0 := ⟨_, rfl⟩
  have ek0 : k0.toInt = 0 := by rw [qk0]; rfl
  obtain ⟨k1, qk1⟩ : ∃ z : Int32, z = 1 := ⟨_, rfl⟩
  have ek1 : k1.toInt = 1 := by rw [qk1]; rfl
  obtain ⟨k48, qk48⟩ : ∃ z : Int32, z = 48 := ⟨_, rfl⟩
  have ek48 : k48.toInt = 48 := by rw [qk48]; rfl
  obtain ⟨k57, qk57⟩ : ∃ z : Int32, z = 57 := ⟨_, rfl⟩
  have ek57 : k57.toInt = 57 := by rw [qk57]; rfl
  have rg0 := n_rng a0
  refine r_iload_n C (j := 0) (oDec_at oX12_isDigit 0 rfl) rfl rfl ?_
  refine r_bipush C (oDec_at oX12_isDigit 1 rfl) (v := k48) (by rw [qk48]; rfl) ?_
  refine r_icmp_lt C 16 (oDec_at oX12_isDigit 2 rfl) (by decide) (fun cd1 => ?_) (fun cd1 => ?_)
  · skip
    refine r_iconst C (oDec_at oX12_isDigit 8 rfl) (v := k0) (by rw [qk0]; rfl) ?_
    exact r_zret C (n_bool (by omega)) (oDec_at oX12_isDigit 9 rfl) ⟨_, rfl, ⟨by omega, by omega⟩⟩
  · skip
    refine r_iload_n C (j := 0) (oDec_at oX12_isDigit 3 rfl) rfl rfl ?_
    refine r_bipush C (oDec_at oX12_isDigit 4 rfl) (v := k57) (by rw [qk57]; rfl) ?_
    refine r_icmp_gt C 16 (oDec_at oX12_isDigit 5 rfl) (by decide) (fun cd2 => ?_) (fun cd2 => ?_)
    · skip
      refine r_iconst C (oDec_at oX12_isDigit 8 rfl) (v := k0) (by rw [qk0]; rfl) ?_
      exact r_zret C (n_bool (by omega)) (oDec_at oX12_isDigit 9 rfl) ⟨_, rfl, ⟨by omega, by omega⟩⟩
    · skip
      refine r_iconst C (oDec_at oX12_isDigit 6 rfl) (v := k1) (by rw [qk1]; rfl) ?_
      refine r_goto C (tgt := 17) (oDec_at oX12_isDigit 7 rfl) (by decide) ?_
      exact r_zret C (n_bool (by omega)) (oDec_at oX12_isDigit 9 rfl) ⟨_, rfl, ⟨by omega, by omega⟩⟩
set_option maxHeartbeats 4000000 in
set_option maxRecDepth 100000 in
theorem ct_X12_fault (l : Launch) (E : oE) (s : oS) (a1 : Int32)  : oMet l 1 yX12_fault cX12_fault 2 (some .int) [] E s [.ref (oad E 71), .int a1] (oPi (fun r u => True)) := by
  refine oMet.of (lv := [(0, .ref (oad E 71)), (1, .int a1)]) (by decide +kernel) (Nat.le_of_ble_eq_true rfl) rfl (fun J C hT => ?_)
  have C : oC l 1 cX12_fault RX12 2 (some .int) [] E s (oPi (fun r u => True)) J := C
  obtain ⟨km1, qkm1⟩ : ∃ z : Int32, z = (-1) := ⟨_, rfl⟩
  have ekm1 : km1.toInt = (-1) := by rw [qkm1]; rfl
  obtain ⟨k1, qk1⟩ : ∃ z : Int32, z = 1 := ⟨_, rfl⟩
  have ek1 : k1.toInt = 1 := by rw [qk1]; rfl
  have rg1 := n_rng a1
  refine r_iload_n C (j := 1) (oDec_at oX12_fault 0 rfl) rfl rfl ?_
  refine r_if_ne C 11 (oDec_at oX12_fault 1 rfl) (by decide) (fun cd1 => ?_) (fun cd1 => ?_)
  · skip
    refine r_iload_n C (j := 1) (oDec_at oX12_fault 5 rfl) rfl rfl ?_
    refine r_iconst C (oDec_at oX12_fault 6 rfl) (v := k1) (by rw [qk1]; rfl) ?_
    refine r_icmp_ne C 23 (oDec_at oX12_fault 7 rfl) (by decide) (fun cd2 => ?_) (fun cd2 => ?_)
    · skip
      refine r_iconst C (oDec_at oX12_fault 11 rfl) (v := km1) (by rw [qkm1]; rfl) ?_
      exact r_iret C (oDec_at oX12_fault 12 rfl) ⟨_, rfl, trivial⟩
    · skip
      refine r_aload_n C (j := 0) (oDec_at oX12_fault 8 rfl) rfl rfl ?_
      obtain ⟨v3, ev3⟩ : ∃ z : Int32, (s).1 71 8 = z := ⟨_, rfl⟩
      have gv3 : (s.1 71 8).toInt = v3.toInt := congrArg Int32.toInt (ev3)
      have rv3 := n_rng v3
      refine r_geti (k := 8) (lo := (-2147483648)) (hi := 2147483647) C v3 oCl12 rfl (by decide) flX12_13 rfl rfl (ev3) rfl rfl (oDec_at oX12_fault 9 rfl) (fun _ _ => ?_)
      refine r_goto C (tgt := 24) (oDec_at oX12_fault 10 rfl) (by decide) ?_
      exact r_iret C (oDec_at oX12_fault 12 rfl) ⟨_, rfl, trivial⟩
  · skip
    refine r_aload_n C (j := 0) (oDec_at oX12_fault 2 rfl) rfl rfl ?_
    obtain ⟨v4, ev4⟩ : ∃ z : Int32, (s).1 71 7 = z := ⟨_, rfl⟩
    have gv4 : (s.1 71 7).toInt = v4.toInt := congrArg Int32.toInt (ev4)
    have rv4 := n_rng v4
    refine r_geti (k := 7) (lo := (-2147483648)) (hi := 2147483647) C v4 oCl12 rfl (by decide) flX12_237 rfl rfl (ev4) rfl rfl (oDec_at oX12_fault 3 rfl) (fun _ _ => ?_)
    refine r_goto C (tgt := 24) (oDec_at oX12_fault 4 rfl) (by decide) ?_
    exact r_iret C (oDec_at oX12_fault 12 rfl) ⟨_, rfl, trivial⟩
