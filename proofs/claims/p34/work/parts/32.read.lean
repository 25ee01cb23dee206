set_option maxHeartbeats 4000000 in
set_option maxRecDepth 100000 in
theorem ct_X5_isLetter (l : Launch) (E : oE) (s : oS) (a0 : Int32)  : oMet l 1 yX5_isLetter cX5_isLetter 1 (some .boolean) [] E s [.int a0] (oPi (fun r u => (0 ≤ r.toInt ∧ r.toInt ≤ 1) ∧ ((r.toInt = 1 ∧ 97 ≤ a0.toInt ∧ a0.toInt ≤ 122) ∨ (r.toInt = 0 ∧ (a0.toInt < 97 ∨ 122 < a0.toInt))))) := by
  refine oMet.of (lv := [(0, .int a0)]) (by decide +kernel) (Nat.le_of_ble_eq_true rfl) rfl (fun J C hT => ?_)
  have C : oC l 1 cX5_isLetter RX5 1 (some .boolean) [] E s (oPi (fun r u => (0 ≤ r.toInt ∧ r.toInt ≤ 1) ∧ ((r.toInt = 1 ∧ 97 ≤ a0.toInt ∧ a0.toInt ≤ 122) ∨ (r.toInt = 0 ∧ (a0.toInt < 97 ∨ 122 < a0.toInt))))) J := C
  obtain ⟨k0, qk0⟩ : ∃ z : Int32, z = 0 := ⟨_, rfl⟩
  have ek0 : k0.toInt = 0 := by rw [qk0]; rfl
  obtain ⟨k1, qk1⟩ : ∃ z : Int32, z = 1 := ⟨_, rfl⟩
  have ek1 : k1.toInt = 1 := by rw [qk1]; rfl
  obtain ⟨k97, qk97⟩ : ∃ z : Int32, z = 97 := ⟨_, rfl⟩
  have ek97 : k97.toInt = 97 := by rw [qk97]; rfl
  obtain ⟨k122, qk122⟩ : ∃ z : Int32, z = 122 := ⟨_, rfl⟩
  have ek122 : k122.toInt = 122 := by rw [qk122]; rfl
  have rg0 := n_rng a0
  refine r_iload_n C (j := 0) (oDec_at oX5_isLetter 0 rfl) rfl rfl ?_
  refine r_bipush C (oDec_at oX5_isLetter 1 rfl) (v := k97) (by rw [qk97]; rfl) ?_
  refine r_icmp_lt C 16 (oDec_at oX5_isLetter 2 rfl) (by decide) (fun cd1 => ?_) (fun cd1 => ?_)
  · skip
    refine r_iconst C (oDec_at oX5_isLetter 8 rfl) (v := k0) (by rw [qk0]; rfl) ?_
    exact r_zret C (n_bool (by omega)) (oDec_at oX5_isLetter 9 rfl) ⟨_, rfl, ⟨by omega, by omega⟩⟩
  · skip
    refine r_iload_n C (j := 0) (oDec_at oX5_isLetter 3 rfl) rfl rfl ?_
    refine r_bipush C (oDec_at oX5_isLetter 4 rfl) (v := k122) (by rw [qk122]; rfl) ?_
    refine r_icmp_gt C 16 (oDec_at oX5_isLetter 5 rfl) (by decide) (fun cd2 => ?_) (fun cd2 => ?_)
    · skip
      refine r_iconst C (oDec_at oX5_isLetter 8 rfl) (v := k0) (by rw [qk0]; rfl) ?_
      exact r_zret C (n_bool (by omega)) (oDec_at oX5_isLetter 9 rfl) ⟨_, rfl, ⟨by omega, by omega⟩⟩
    · skip
      refine r_iconst C (oDec_at oX5_isLetter 6 rfl) (v := k1) (by rw [qk1]; rfl) ?_
      refine r_goto C (tgt := 17) (oDec_at oX5_isLetter 7 rfl) (by decide) ?_
      exact r_zret C (n_bool (by omega)) (oDec_at oX5_isLetter 9 rfl) ⟨_, rfl, ⟨by omega, by omega⟩⟩
set_option maxHeartbeats 4000000 in
set_option maxRecDepth 100000 in
theorem ct_X5_isDigit (l : Launch) (E : oE) (s : oS) (a0 : Int32)  : oMet l 1 yX5_isDigit cX5_isDigit 1 (some .boolean) [] E s [.int a0] (oPi (fun r u => (0 ≤ r.toInt ∧ r.toInt ≤ 1) ∧ ((r.toInt = 1 ∧ 48 ≤ a0.toInt ∧ a0.toInt ≤ 57) ∨ (r.toInt = 0 ∧ (a0.toInt < 48 ∨ 57 < a0.toInt))))) := by
  refine oMet.of (lv := [(0, .int a0)]) (by decide +kernel) (Nat.le_of_ble_eq_true rfl) rfl (fun J C hT => ?_)
  have C : oC l 1 cX5_isDigit RX5 1 (some .boolean) [] E s (oPi (fun r u => (0 ≤ r.toInt ∧ r.toInt ≤ 1) ∧ ((r.toInt = 1 ∧ 48 ≤ a0.toInt ∧ a0.toInt ≤ 57) ∨ (r.toInt = 0 ∧ (a0.toInt < 48 ∨ 57 < a0.toInt))))) J := C
  obtain ⟨k0, qk0⟩ : ∃ z : Int32, z = 0 := ⟨_, rfl⟩
  have ek0 : k0.toInt = 0 := by rw [qk0]; rfl
  obtain ⟨k1, qk1⟩ : ∃ z : Int32, z = 1 := ⟨_, rfl⟩
  have ek1 : k1.toInt = 1 := by rw [qk1]; rfl
  obtain ⟨k48, qk48⟩ : ∃ z : Int32, z = 48 := ⟨_, rfl⟩
  have ek48 : k48.toInt = 48 := by rw [qk48]; rfl
  obtain ⟨k57, qk57⟩ : ∃ z : Int32, z = 57 := ⟨_, rfl⟩
  have ek57 : k57.toInt = 57 := by rw [qk57]; rfl
  have rg0 := n_rng a0
  refine r_iload_n C (j := 0) (oDec_at oX5_isDigit 0 rfl) rfl rfl ?_
  refine r_bipush C (oDec_at oX5_isDigit 1 rfl) (v := k48) (by rw [qk48]; rfl) ?_
  refine r_icmp_lt C 16 (oDec_at oX5_isDigit 2 rfl) (by decide) (fun cd1 => ?_) (fun cd1 => ?_)
  · skip
    refine r_iconst C (oDec_at oX5_isDigit 8 rfl) (v := k0) (by rw [qk0]; rfl) ?_
    exact r_zret C (n_bool (by omega)) (oDec_at oX5_isDigit 9 rfl) ⟨_, rfl, ⟨by omega, by omega⟩⟩
  · skip
    refine r_iload_n C (j := 0) (oDec_at oX5_isDigit 3 rfl) rfl rfl ?_
    refine r_bipush C (oDec_at oX5_isDigit 4 rfl) (v := k57) (by rw [qk57]; rfl) ?_
    refine r_icmp_gt C 16 (oDec_at oX5_isDigit 5 rfl) (by decide) (fun cd2 => ?_) (fun cd2 => ?_)
    · skip
      refine r_iconst C (oDec_at oX5_isDigit 8 rfl) (v := k0) (by rw [qk0]; rfl) ?_
      exact r_zret C (n_bool (by omega)) (oDec_at oX5_isDigit 9 rfl) ⟨_, rfl, ⟨by omega, by omega⟩⟩
    · skip
      refine r_iconst C (oDec_at oX5_isDigit 6 rfl) (v := k1) (by rw [qk1]; rfl) ?_
      refine r_goto C (tgt := 17) (oDec_at oX5_isDigit 7 rfl) (by decide) ?_
      exact r_zret C (n_bool (by omega)) (oDec_at oX5_isDigit 9 rfl) ⟨_, rfl, ⟨by omega, by omega⟩⟩
