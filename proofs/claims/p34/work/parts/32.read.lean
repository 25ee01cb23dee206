set_option maxHeartbeats 4000000 in
set_option maxRecDepth 100000 in
theorem ct_X5_begin (l : Launch) (E : oE) (s : oS)   : oMet l 1 yX5_begin cX5_begin 1 none [(5, 2), (5, 3), (5, 5), (5, 8), (5, 9)] E s [.ref (oad E 30)] (oPv (fun u => True)) := by
  refine oMet.of (lv := [(0, .ref (oad E 30))]) (by decide +kernel) (Nat.le_of_ble_eq_true rfl) rfl (fun J C hT => ?_)
  have C : oC l 1 cX5_begin RX5 1 none [(5, 2), (5, 3), (5, 5), (5, 8), (5, 9)] E s (oPv (fun u => True)) J := C
  obtain ⟨km1, qkm1⟩ : ∃ z : Int32, z = (-1) := ⟨_, rfl⟩
  have ekm1 : km1.toInt = (-1) := by rw [qkm1]; rfl
  obtain ⟨k0, qk0⟩ : ∃ z : Int32, z = 0 := ⟨_, rfl⟩
  have ek0 : k0.toInt = 0 := by rw [qk0]; rfl
  refine r_aload_n C (j := 0) (oDec_at oX5_begin 0 rfl) rfl rfl ?_
  refine r_iconst C (oDec_at oX5_begin 1 rfl) (v := k0) (by rw [qk0]; rfl) ?_
  refine r_puti (k := 2) (lo := 0) (hi := 1600) C oCl5 rfl (by decide) flX5_23 rfl rfl rfl rfl rfl rfl rfl rfl ⟨by omega, by omega⟩ (oDec_at oX5_begin 2 rfl) ?_
  refine r_aload_n C (j := 0) (oDec_at oX5_begin 3 rfl) rfl rfl ?_
  refine r_iconst C (oDec_at oX5_begin 4 rfl) (v := km1) (by rw [qkm1]; rfl) ?_
  refine r_puti (k := 3) (lo := (-1)) (hi := 1600) C oCl5 rfl (by decide) flX5_26 rfl rfl rfl rfl rfl rfl rfl rfl ⟨by omega, by omega⟩ (oDec_at oX5_begin 5 rfl) ?_
  refine r_pc C 10 rfl ?_
  refine r_aload_n C (j := 0) (oDec_at oX5_begin 6 rfl) rfl rfl ?_
  refine r_iconst C (oDec_at oX5_begin 7 rfl) (v := k0) (by rw [qk0]; rfl) ?_
  refine r_puti (k := 5) (lo := 0) (hi := 6) C oCl5 rfl (by decide) flX5_29 rfl rfl rfl rfl rfl rfl rfl rfl ⟨by omega, by omega⟩ (oDec_at oX5_begin 8 rfl) ?_
  refine r_aload_n C (j := 0) (oDec_at oX5_begin 9 rfl) rfl rfl ?_
  refine r_iconst C (oDec_at oX5_begin 10 rfl) (v := k0) (by rw [qk0]; rfl) ?_
  refine r_puti (k := 8) (lo := (-2147483648)) (hi := 2147483647) C oCl5 rfl (by decide) flX5_32 rfl rfl rfl rfl rfl rfl rfl rfl (n_rng _) (oDec_at oX5_begin 11 rfl) ?_
  refine r_pc C 20 rfl ?_
  refine r_aload_n C (j := 0) (oDec_at oX5_begin 12 rfl) rfl rfl ?_
  refine r_iconst C (oDec_at oX5_begin 13 rfl) (v := km1) (by rw [qkm1]; rfl) ?_
  refine r_puti (k := 9) (lo := (-2147483648)) (hi := 2147483647) C oCl5 rfl (by decide) flX5_9 rfl rfl rfl rfl rfl rfl rfl rfl (n_rng _) (oDec_at oX5_begin 14 rfl) ?_
  exact r_vret C (oDec_at oX5_begin 15 rfl) ⟨rfl, trivial⟩
set_option maxHeartbeats 4000000 in
set_option maxRecDepth 100000 in
theorem ct_X5_fail (l : Launch) (E : oE) (s : oS) (a1 : Int32) (a2 : Int32)  : oMet l 1 yX5_fail cX5_fail 3 (some .boolean) [(5, 8), (5, 9)] E s [.ref (oad E 30), .int a1, .int a2] (oPi (fun r u => (0 ≤ r.toInt ∧ r.toInt ≤ 1) ∧ (r.toInt = 0))) := by
  refine oMet.of (lv := [(0, .ref (oad E 30)), (1, .int a1), (2, .int a2)]) (by decide +kernel) (Nat.le_of_ble_eq_true rfl) rfl (fun J C hT => ?_)
  have C : oC l 1 cX5_fail RX5 3 (some .boolean) [(5, 8), (5, 9)] E s (oPi (fun r u => (0 ≤ r.toInt ∧ r.toInt ≤ 1) ∧ (r.toInt = 0))) J := C
  obtain ⟨k0, qk0⟩ : ∃ z : Int32, z = 0 := ⟨_, rfl⟩
  have ek0 : k0.toInt = 0 := by rw [qk0]; rfl
  have rg1 := n_rng a1
  have rg2 := n_rng a2
  refine r_aload_n C (j := 0) (oDec_at oX5_fail 0 rfl) rfl rfl ?_
  refine r_iload_n C (j := 1) (oDec_at oX5_fail 1 rfl) rfl rfl ?_
  refine r_puti (k := 8) (lo := (-2147483648)) (hi := 2147483647) C oCl5 rfl (by decide) flX5_32 rfl rfl rfl rfl rfl rfl rfl rfl (n_rng _) (oDec_at oX5_fail 2 rfl) ?_
  refine r_aload_n C (j := 0) (oDec_at oX5_fail 3 rfl) rfl rfl ?_
  refine r_iload_n C (j := 2) (oDec_at oX5_fail 4 rfl) rfl rfl ?_
  refine r_puti (k := 9) (lo := (-2147483648)) (hi := 2147483647) C oCl5 rfl (by decide) flX5_9 rfl rfl rfl rfl rfl rfl rfl rfl (n_rng _) (oDec_at oX5_fail 5 rfl) ?_
  refine r_pc C 10 rfl ?_
  refine r_iconst C (oDec_at oX5_fail 6 rfl) (v := k0) (by rw [qk0]; rfl) ?_
  exact r_zret C (n_bool (by omega)) (oDec_at oX5_fail 7 rfl) ⟨_, rfl, ⟨by omega, by omega⟩⟩
set_option maxHeartbeats 4000000 in
set_option maxRecDepth 100000 in
theorem ct_X5_isLetter (l : Launch) (E : oE) (s : oS) (a0 : Int32)  : oMet l 1 yX5_isLetter cX5_isLetter 1 (some .boolean) [] E s [.int a0] (oPi (fun r u => (0 ≤ r.toInt ∧ r.toInt ≤ 1) ∧ ((r.toInt = 1 ∧ 97 ≤ a0.toInt ∧ a0.toInt ≤ 122) ∨ (r.toInt = 0 ∧ (a0.toInt < 97 ∨ 122 < a0.toInt))))) := by
  refine oMet.of (lv := [(0, .int a0)]) (by decide +kernel) (Nat.le_of_ble_eq_true rfl) rfl (fun J C hT => ?_)
  have C : oC l 1 cX5_isLetter RX5 1 (some .boolean) [] E s (oPi (fun r u => (0 ≤ r.toInt ∧ r.toInt ≤ 1) ∧ ((r.toInt = 1 ∧ 97 ≤ a0.toInt ∧ a0.toInt ≤ 122) ∨ (r.toInt = 0 ∧ (a0.toInt < 97 ∨ 122 < a0.toInt))))) J := C
  obtain ⟨k0, qk0⟩ : ∃ z : Int32, z = 0 := ⟨_, rfl⟩
  have ek0 : k0.toInt = 0 := by rw [qk0]; rfl
  obtain ⟨k1, qk1⟩ : ∃ z : Int32, z = 1 := ⟨_, rfl⟩
  have ek1 : k1.toInt = 1 := by rw [qk1]; rfl
  obtain ⟨k97, qk97⟩ : ∃ z : Int32, z = 97 := ⟨_, rfl⟩
  have ek97 : k97.toInt = 97 := by rw [qk97]; rfl
  obtain ⟨k122, qk122⟩ : ∃ z : Int32, z = 122 := ⟨_, rfl⟩
  have ek122 : k122.toInt = 122 := by rw [qk122]; rfl
  have rg0 := n_rng a0
  refine r_iload_n C (j := 0) (oDec_at oX5_isLetter 0 rfl) rfl rfl ?_
  refine r_bipush C (oDec_at oX5_isLetter 1 rfl) (v := k97) (by rw [qk97]; rfl) ?_
  refine r_icmp_lt C 16 (oDec_at oX5_isLetter 2 rfl) (by decide) (fun cd1 => ?_) (fun cd1 => ?_)
  · skip
    refine r_iconst C (oDec_at oX5_isLetter 8 rfl) (v := k0) (by rw [qk0]; rfl) ?_
    exact r_zret C (n_bool (by omega)) (oDec_at oX5_isLetter 9 rfl) ⟨_, rfl, ⟨by omega, by omega⟩⟩
  · skip
    refine r_iload_n C (j := 0) (oDec_at oX5_isLetter 3 rfl) rfl rfl ?_
    refine r_bipush C (oDec_at oX5_isLetter 4 rfl) (v := k122) (by rw [qk122]; rfl) ?_
    refine r_icmp_gt C 16 (oDec_at oX5_isLetter 5 rfl) (by decide) (fun cd2 => ?_) (fun cd2 => ?_)
    · skip
      refine r_iconst C (oDec_at oX5_isLetter 8 rfl) (v := k0) (by rw [qk0]; rfl) ?_
      exact r_zret C (n_bool (by omega)) (oDec_at oX5_isLetter 9 rfl) ⟨_, rfl, ⟨by omega, by omega⟩⟩
    · skip
      refine r_iconst C (oDec_at oX5_isLetter 6 rfl) (v := k1) (by rw [qk1]; rfl) ?_
      refine r_goto C (tgt := 17) (oDec_at oX5_isLetter 7 rfl) (by decide) ?_
      exact r_zret C (n_bool (by omega)) (oDec_at oX5_isLetter 9 rfl) ⟨_, rfl, ⟨by omega, by omega⟩⟩
set_option maxHeartbeats 4000000 in
set_option maxRecDepth 100000 in
theorem ct_X5_isDigit (l : Launch) (E : oE) (s : oS) (a0 : Int32)  : oMet l 1 yX5_isDigit cX5_isDigit 1 (some .boolean) [] E s [.int a0] (oPi (fun r u => (0 ≤ r.toInt ∧ r.toInt ≤ 1) ∧ ((r.toInt = 1 ∧ 48 ≤ a0.toInt ∧ a0.toInt ≤ 57) ∨ (r.toInt = 0 ∧ (a0.toInt < 48 ∨ 57 < a0.toInt))))) := by
  refine oMet.of (lv := [(0, .int a0)]) (by decide +kernel) (Nat.le_of_ble_eq_true rfl) rfl (fun J C hT => ?_)
  have C : oC l 1 cX5_isDigit RX5 1 (some .boolean) [] E s (oPi (fun r u => (0 ≤ r.toInt ∧ r.toInt ≤ 1) ∧ ((r.toInt = 1 ∧ 48 ≤ a0.toInt ∧ a0.toInt ≤ 57) ∨ (r.toInt = 0 ∧ (a0.toInt < 48 ∨ 57 < a0.toInt))))) J := C
  obtain ⟨k0, qk0⟩ : ∃ z : Int32, z = 0 := ⟨_, rfl⟩
  have ek0 : k0.toInt = 0 := by rw [qk0]; rfl
  obtain ⟨k1, qk1⟩ : ∃ z : Int32, z = 1 := ⟨_, rfl⟩
  have ek1 : k1.toInt = 1 := by rw [qk1]; rfl
  obtain ⟨k48, qk48⟩ : ∃ z : Int32, z = 48 := ⟨_, rfl⟩
  have ek48 : k48.toInt = 48 := by rw [qk48]; rfl
  obtain ⟨k57, qk57⟩ : ∃ z : Int32, z = 57 := ⟨_, rfl⟩
  have ek57 : k57.toInt = 57 := by rw [qk57]; rfl
  have rg0 := n_rng a0
  refine r_iload_n C (j := 0) (oDec_at oX5_isDigit 0 rfl) rfl rfl ?_
  refine r_bipush C (oDec_at oX5_isDigit 1 rfl) (v := k48) (by rw [qk48]; rfl) ?_
  refine r_icmp_lt C 16 (oDec_at oX5_isDigit 2 rfl) (by decide) (fun cd1 => ?_) (fun cd1 => ?_)
  · skip
    refine r_iconst C (oDec_at oX5_isDigit 8 rfl) (v := k0) (by rw [qk0]; rfl) ?_
    exact r_zret C (n_bool (by omega)) (oDec_at oX5_isDigit 9 rfl) ⟨_, rfl, ⟨by omega, by omega⟩⟩
  · skip
    refine r_iload_n C (j := 0) (oDec_at oX5_isDigit 3 rfl) rfl rfl ?_
    refine r_bipush C (oDec_at oX5_isDigit 4 rfl) (v := k57) (by rw [qk57]; rfl) ?_
    refine r_icmp_gt C 16 (oDec_at oX5_isDigit 5 rfl) (by decide) (fun cd2 => ?_) (fun cd2 => ?_)
    · skip
      refine r_iconst C (oDec_at oX5_isDigit 8 rfl) (v := k0) (by rw [qk0]; rfl) ?_
      exact r_zret C (n_bool (by omega)) (oDec_at oX5_isDigit 9 rfl) ⟨_, rfl, ⟨by omega, by omega⟩⟩
    · skip
      refine r_iconst C (oDec_at oX5_isDigit 6 rfl) (v := k1) (by rw [qk1]; rfl) ?_
      refine r_goto C (tgt := 17) (oDec_at oX5_isDigit 7 rfl) (by decide) ?_
      exact r_zret C (n_bool (by omega)) (oDec_at oX5_isDigit 9 rfl) ⟨_, rfl, ⟨by omega, by omega⟩⟩
set_option maxHeartbeats 4000000 in
set_option maxRecDepth 100000 in
theorem ct_X5_peek (l : Launch) (E : oE) (s : oS)   : oMet l 1 yX5_peek cX5_peek 1 (some .int) [(5, 2)] E s [.ref (oad E 30)] (oPi (fun r u => (r.toInt = -1 ∨ (0 ≤ r.toInt ∧ r.toInt ≤ 255 ∧ (u.1 30 2).toInt < (u.1 1 1).toInt ∧ (u.1 30 2).toInt ≤ 1599)))) := by
  refine oMet.of (lv := [(0, .ref (oad E 30))]) (by decide +kernel) (Nat.le_of_ble_eq_true rfl) rfl (fun J C hT => ?_)
  have C : oC l 1 cX5_peek RX5 1 (some .int) [(5, 2)] E s (oPi (fun r u => (r.toInt = -1 ∨ (0 ≤ r.toInt ∧ r.toInt ≤ 255 ∧ (u.1 30 2).toInt < (u.1 1 1).toInt ∧ (u.1 30 2).toInt ≤ 1599)))) J := C
  obtain ⟨km1, qkm1⟩ : ∃ z : Int32, z = (-1) := ⟨_, rfl⟩
  have ekm1 : km1.toInt = (-1) := by rw [qkm1]; rfl
  obtain ⟨k1, qk1⟩ : ∃ z : Int32, z = 1 := ⟨_, rfl⟩
  have ek1 : k1.toInt = 1 := by rw [qk1]; rfl
  obtain ⟨k10, qk10⟩ : ∃ z : Int32, z = 10 := ⟨_, rfl⟩
  have ek10 : k10.toInt = 10 := by rw [qk10]; rfl
  obtain ⟨k32, qk32⟩ : ∃ z : Int32, z = 32 := ⟨_, rfl⟩
  have ek32 : k32.toInt = 32 := by rw [qk32]; rfl
  have key : ∀ n : Nat, (∀ (t : oS), 1601 - (t.1 30 2).toInt ≤ (n : Int) → J t 0 [(0, .ref (oad E 30))] []) := by
    intro n
    induction n using Nat.strongRecOn with
    | _ n ih =>
      skip
      · intro t    hmu
        refine r_aload_n C (j := 0) (oDec_at oX5_peek 0 rfl) rfl rfl ?_
        obtain ⟨v1, ev1⟩ : ∃ z : Int32, (t).1 30 2 = z := ⟨_, rfl⟩
        have gv1 : (t.1 30 2).toInt = v1.toInt := congrArg Int32.toInt (ev1)
        refine r_geti (k := 2) (lo := 0) (hi := 1600) C v1 oCl5 rfl (by decide) flX5_23 rfl rfl (ev1) rfl rfl (oDec_at oX5_peek 1 rfl) (fun b2 b2h => ?_)
        refine r_aload_n C (j := 0) (oDec_at oX5_peek 2 rfl) rfl rfl ?_
        refine r_getF (k := 0) (b := 1) C oCl5 rfl (by decide) flX5_15 rfl rfl rfl (oDec_at oX5_peek 3 rfl) ?_
        obtain ⟨v3, ev3⟩ : ∃ z : Int32, (t).1 1 1 = z := ⟨_, rfl⟩
        have gv3 : (t.1 1 1).toInt = v3.toInt := congrArg Int32.toInt (ev3)
        refine r_getiN (k := 1) (lo := 0) (hi := 1600) C v3 oCl8 rfl (by decide) flX5_175 rfl rfl (ev3) rfl rfl (oDec_at oX5_peek 4 rfl) (fun b4 b4h => ?_)
        refine r_icmp_ge C 61 (oDec_at oX5_peek 5 rfl) (by decide) (fun cd5 => ?_) (fun cd5 => ?_)
        · skip
          refine r_aload_n C (j := 0) (oDec_at oX5_peek 29 rfl) rfl rfl ?_
          refine r_geti (k := 2) (lo := 0) (hi := 1600) C v1 oCl5 rfl (by decide) flX5_23 rfl rfl (ev1) rfl rfl (oDec_at oX5_peek 30 rfl) (fun _ _ => ?_)
          refine r_aload_n C (j := 0) (oDec_at oX5_peek 31 rfl) rfl rfl ?_
          refine r_getF (k := 0) (b := 1) C oCl5 rfl (by decide) flX5_15 rfl rfl rfl (oDec_at oX5_peek 32 rfl) ?_
          refine r_getiN (k := 1) (lo := 0) (hi := 1600) C v3 oCl8 rfl (by decide) flX5_175 rfl rfl (ev3) rfl rfl (oDec_at oX5_peek 33 rfl) (fun _ _ => ?_)
          refine r_icmp_ge C 90 (oDec_at oX5_peek 34 rfl) (by decide) (fun cd6 => ?_) (fun cd6 => ?_)
          · skip
            refine r_iconst C (oDec_at oX5_peek 42 rfl) (v := km1) (by rw [qkm1]; rfl) ?_
            have lk7 : ((t).1 30 2).toInt = v1.toInt := congrArg Int32.toInt (ev1)
            have lk8 : ((t).1 1 1).toInt = v3.toInt := congrArg Int32.toInt (ev3)
            exact r_iret C (oDec_at oX5_peek 43 rfl) ⟨_, rfl, by omega⟩
          · skip
            refine r_aload_n C (j := 0) (oDec_at oX5_peek 35 rfl) rfl rfl ?_
            refine r_getF (k := 0) (b := 1) C oCl5 rfl (by decide) flX5_15 rfl rfl rfl (oDec_at oX5_peek 36 rfl) ?_
            refine r_getFN (k := 0) (b := 2) C oCl8 rfl (by decide) flX5_186 rfl rfl rfl (oDec_at oX5_peek 37 rfl) ?_
            refine r_aload_n C (j := 0) (oDec_at oX5_peek 38 rfl) rfl rfl ?_
            refine r_geti (k := 2) (lo := 0) (hi := 1600) C v1 oCl5 rfl (by decide) flX5_23 rfl rfl (ev1) rfl rfl (oDec_at oX5_peek 39 rfl) (fun _ _ => ?_)
            obtain ⟨v9, ev9⟩ : ∃ z : Int32, (t).1 2 v1.toNatClampNeg = z := ⟨_, rfl⟩
            refine r_iald (n := 1600) (lo := 0) (hi := 255) C v9 rfl (by decide) rfl rfl ⟨by omega, by omega⟩ (by decide) ev9 rfl rfl (oDec_at oX5_peek 40 rfl) (fun b10 b10h => ?_)
            have la11 : ((t).1 2 ((t).1 30 2).toNatClampNeg).toInt = v9.toInt := by rw [ev1, ev9]
            refine r_pc C 87 rfl ?_
            refine r_goto C (tgt := 91) (oDec_at oX5_peek 41 rfl) (by decide) ?_
            have lk12 : ((t).1 30 2).toInt = v1.toInt := congrArg Int32.toInt (ev1)
            have lk13 : ((t).1 1 1).toInt = v3.toInt := congrArg Int32.toInt (ev3)
            exact r_iret C (oDec_at oX5_peek 43 rfl) ⟨_, rfl, by omega⟩
        · skip
          refine r_aload_n C (j := 0) (oDec_at oX5_peek 6 rfl) rfl rfl ?_
          refine r_getF (k := 0) (b := 1) C oCl5 rfl (by decide) flX5_15 rfl rfl rfl (oDec_at oX5_peek 7 rfl) ?_
          refine r_getFN (k := 0) (b := 2) C oCl8 rfl (by decide) flX5_186 rfl rfl rfl (oDec_at oX5_peek 8 rfl) ?_
          refine r_aload_n C (j := 0) (oDec_at oX5_peek 9 rfl) rfl rfl ?_
          refine r_geti (k := 2) (lo := 0) (hi := 1600) C v1 oCl5 rfl (by decide) flX5_23 rfl rfl (ev1) rfl rfl (oDec_at oX5_peek 10 rfl) (fun _ _ => ?_)
          obtain ⟨v14, ev14⟩ : ∃ z : Int32, (t).1 2 v1.toNatClampNeg = z := ⟨_, rfl⟩
          refine r_iald (n := 1600) (lo := 0) (hi := 255) C v14 rfl (by decide) rfl rfl ⟨by omega, by omega⟩ (by decide) ev14 rfl rfl (oDec_at oX5_peek 11 rfl) (fun b15 b15h => ?_)
          have la16 : ((t).1 2 ((t).1 30 2).toNatClampNeg).toInt = v14.toInt := by rw [ev1, ev14]
          refine r_pc C 26 rfl ?_
          refine r_bipush C (oDec_at oX5_peek 12 rfl) (v := k32) (by rw [qk32]; rfl) ?_
          refine r_icmp_eq C 48 (oDec_at oX5_peek 13 rfl) (by decide) (fun cd17 => ?_) (fun cd17 => ?_)
          · skip
            refine r_aload_n C (j := 0) (oDec_at oX5_peek 22 rfl) rfl rfl ?_
            refine r_dup C (oDec_at oX5_peek 23 rfl) rfl ?_
            refine r_geti (k := 2) (lo := 0) (hi := 1600) C v1 oCl5 rfl (by decide) flX5_23 rfl rfl (ev1) rfl rfl (oDec_at oX5_peek 24 rfl) (fun _ _ => ?_)
            refine r_iconst C (oDec_at oX5_peek 25 rfl) (v := k1) (by rw [qk1]; rfl) ?_
            obtain ⟨v18, ev18⟩ : ∃ z : Int32, z = v1 + k1 := ⟨_, rfl⟩
            have hv18 : v18.toInt = v1.toInt + k1.toInt := n_add ev18 (by omega) (by omega)
            refine r_iadd C v18 (oDec_at oX5_peek 26 rfl) ev18 ?_
            refine r_puti (k := 2) (lo := 0) (hi := 1600) C oCl5 rfl (by decide) flX5_23 rfl rfl rfl rfl rfl rfl rfl rfl ⟨by omega, by omega⟩ (oDec_at oX5_peek 27 rfl) ?_
            refine r_pc C 58 rfl ?_
            refine r_goto C (tgt := 0) (oDec_at oX5_peek 28 rfl) (by decide) ?_
            have lk19 : (((pI t 30 2 v18)).1 30 2).toInt = v18.toInt := congrArg Int32.toInt ((pI_self _ _ _ _))
            exact (ih (n - 1) (by omega)) ((pI t 30 2 v18))    (by omega)
          · skip
            refine r_aload_n C (j := 0) (oDec_at oX5_peek 14 rfl) rfl rfl ?_
            refine r_getF (k := 0) (b := 1) C oCl5 rfl (by decide) flX5_15 rfl rfl rfl (oDec_at oX5_peek 15 rfl) ?_
            refine r_getFN (k := 0) (b := 2) C oCl8 rfl (by decide) flX5_186 rfl rfl rfl (oDec_at oX5_peek 16 rfl) ?_
            refine r_aload_n C (j := 0) (oDec_at oX5_peek 17 rfl) rfl rfl ?_
            refine r_geti (k := 2) (lo := 0) (hi := 1600) C v1 oCl5 rfl (by decide) flX5_23 rfl rfl (ev1) rfl rfl (oDec_at oX5_peek 18 rfl) (fun _ _ => ?_)
            obtain ⟨v20, ev20⟩ : ∃ z : Int32, (t).1 2 v1.toNatClampNeg = z := ⟨_, rfl⟩
            refine r_iald (n := 1600) (lo := 0) (hi := 255) C v20 rfl (by decide) rfl rfl ⟨by omega, by omega⟩ (by decide) ev20 rfl rfl (oDec_at oX5_peek 19 rfl) (fun b21 b21h => ?_)
            have la22 : ((t).1 2 ((t).1 30 2).toNatClampNeg).toInt = v20.toInt := by rw [ev1, ev20]
            refine r_pc C 43 rfl ?_
            refine r_bipush C (oDec_at oX5_peek 20 rfl) (v := k10) (by rw [qk10]; rfl) ?_
            refine r_icmp_ne C 61 (oDec_at oX5_peek 21 rfl) (by decide) (fun cd23 => ?_) (fun cd23 => ?_)
            · skip
              refine r_aload_n C (j := 0) (oDec_at oX5_peek 29 rfl) rfl rfl ?_
              refine r_geti (k := 2) (lo := 0) (hi := 1600) C v1 oCl5 rfl (by decide) flX5_23 rfl rfl (ev1) rfl rfl (oDec_at oX5_peek 30 rfl) (fun _ _ => ?_)
              refine r_aload_n C (j := 0) (oDec_at oX5_peek 31 rfl) rfl rfl ?_
              refine r_getF (k := 0) (b := 1) C oCl5 rfl (by decide) flX5_15 rfl rfl rfl (oDec_at oX5_peek 32 rfl) ?_
              refine r_getiN (k := 1) (lo := 0) (hi := 1600) C v3 oCl8 rfl (by decide) flX5_175 rfl rfl (ev3) rfl rfl (oDec_at oX5_peek 33 rfl) (fun _ _ => ?_)
              refine r_icmp_ge C 90 (oDec_at oX5_peek 34 rfl) (by decide) (fun cd24 => ?_) (fun cd24 => ?_)
              · skip
                refine r_iconst C (oDec_at oX5_peek 42 rfl) (v := km1) (by rw [qkm1]; rfl) ?_
                have lk25 : ((t).1 30 2).toInt = v1.toInt := congrArg Int32.toInt (ev1)
                have lk26 : ((t).1 1 1).toInt = v3.toInt := congrArg Int32.toInt (ev3)
                exact r_iret C (oDec_at oX5_peek 43 rfl) ⟨_, rfl, by omega⟩
              · skip
                refine r_aload_n C (j := 0) (oDec_at oX5_peek 35 rfl) rfl rfl ?_
                refine r_getF (k := 0) (b := 1) C oCl5 rfl (by decide) flX5_15 rfl rfl rfl (oDec_at oX5_peek 36 rfl) ?_
                refine r_getFN (k := 0) (b := 2) C oCl8 rfl (by decide) flX5_186 rfl rfl rfl (oDec_at oX5_peek 37 rfl) ?_
                refine r_aload_n C (j := 0) (oDec_at oX5_peek 38 rfl) rfl rfl ?_
                refine r_geti (k := 2) (lo := 0) (hi := 1600) C v1 oCl5 rfl (by decide) flX5_23 rfl rfl (ev1) rfl rfl (oDec_at oX5_peek 39 rfl) (fun _ _ => ?_)
                obtain ⟨v27, ev27⟩ : ∃ z : Int32, (t).1 2 v1.toNatClampNeg = z := ⟨_, rfl⟩
                refine r_iald (n := 1600) (lo := 0) (hi := 255) C v27 rfl (by decide) rfl rfl ⟨by omega, by omega⟩ (by decide) ev27 rfl rfl (oDec_at oX5_peek 40 rfl) (fun b28 b28h => ?_)
                have la29 : ((t).1 2 ((t).1 30 2).toNatClampNeg).toInt = v27.toInt := by rw [ev1, ev27]
                refine r_pc C 87 rfl ?_
                refine r_goto C (tgt := 91) (oDec_at oX5_peek 41 rfl) (by decide) ?_
                have lk30 : ((t).1 30 2).toInt = v1.toInt := congrArg Int32.toInt (ev1)
                have lk31 : ((t).1 1 1).toInt = v3.toInt := congrArg Int32.toInt (ev3)
                exact r_iret C (oDec_at oX5_peek 43 rfl) ⟨_, rfl, by omega⟩
            · skip
              refine r_aload_n C (j := 0) (oDec_at oX5_peek 22 rfl) rfl rfl ?_
              refine r_dup C (oDec_at oX5_peek 23 rfl) rfl ?_
              refine r_geti (k := 2) (lo := 0) (hi := 1600) C v1 oCl5 rfl (by decide) flX5_23 rfl rfl (ev1) rfl rfl (oDec_at oX5_peek 24 rfl) (fun _ _ => ?_)
              refine r_iconst C (oDec_at oX5_peek 25 rfl) (v := k1) (by rw [qk1]; rfl) ?_
              obtain ⟨v32, ev32⟩ : ∃ z : Int32, z = v1 + k1 := ⟨_, rfl⟩
              have hv32 : v32.toInt = v1.toInt + k1.toInt := n_add ev32 (by omega) (by omega)
              refine r_iadd C v32 (oDec_at oX5_peek 26 rfl) ev32 ?_
              refine r_puti (k := 2) (lo := 0) (hi := 1600) C oCl5 rfl (by decide) flX5_23 rfl rfl rfl rfl rfl rfl rfl rfl ⟨by omega, by omega⟩ (oDec_at oX5_peek 27 rfl) ?_
              refine r_pc C 58 rfl ?_
              refine r_goto C (tgt := 0) (oDec_at oX5_peek 28 rfl) (by decide) ?_
              have lk33 : (((pI t 30 2 v32)).1 30 2).toInt = v32.toInt := congrArg Int32.toInt ((pI_self _ _ _ _))
              exact (ih (n - 1) (by omega)) ((pI t 30 2 v32))    (by omega)
  exact (key (1601 - ((s).1 30 2).toInt).toNat) (s)    (by omega)
set_option maxHeartbeats 4000000 in
set_option maxRecDepth 100000 in
theorem ct_X5_passWord (l : Launch) (E : oE) (s : oS)   : oMet l 1 yX5_passWord cX5_passWord 1 none [(5, 2), (5, 3)] E s [.ref (oad E 30)] (oPv (fun u => True)) := by
  refine oMet.of (lv := [(0, .ref (oad E 30))]) (by decide +kernel) (Nat.le_of_ble_eq_true rfl) rfl (fun J C hT => ?_)
  have C : oC l 1 cX5_passWord RX5 1 none [(5, 2), (5, 3)] E s (oPv (fun u => True)) J := C
  refine r_aload_n C (j := 0) (oDec_at oX5_passWord 0 rfl) rfl rfl ?_
  refine r_aload_n C (j := 0) (oDec_at oX5_passWord 1 rfl) rfl rfl ?_
  obtain ⟨v1, ev1⟩ : ∃ z : Int32, (s).1 30 4 = z := ⟨_, rfl⟩
  have gv1 : (s.1 30 4).toInt = v1.toInt := congrArg Int32.toInt (ev1)
  refine r_geti (k := 4) (lo := 0) (hi := 1600) C v1 oCl5 rfl (by decide) flX5_130 rfl rfl (ev1) rfl rfl (oDec_at oX5_passWord 2 rfl) (fun b2 b2h => ?_)
  refine r_puti (k := 2) (lo := 0) (hi := 1600) C oCl5 rfl (by decide) flX5_23 rfl rfl rfl rfl rfl rfl rfl rfl ⟨by omega, by omega⟩ (oDec_at oX5_passWord 3 rfl) ?_
  refine r_aload_n C (j := 0) (oDec_at oX5_passWord 4 rfl) rfl rfl ?_
  refine r_aload_n C (j := 0) (oDec_at oX5_passWord 5 rfl) rfl rfl ?_
  refine r_pc C 10 rfl ?_
  refine r_geti (k := 4) (lo := 0) (hi := 1600) C v1 oCl5 rfl (by decide) flX5_130 rfl rfl (((pI_ne (a := 30) (b := 4) (c := 30) (k := 2) _ _ (Or.inr (by decide)))).trans (ev1)) rfl rfl (oDec_at oX5_passWord 6 rfl) (fun _ _ => ?_)
  refine r_puti (k := 3) (lo := (-1)) (hi := 1600) C oCl5 rfl (by decide) flX5_26 rfl rfl rfl rfl rfl rfl rfl rfl ⟨by omega, by omega⟩ (oDec_at oX5_passWord 7 rfl) ?_
  exact r_vret C (oDec_at oX5_passWord 8 rfl) ⟨rfl, trivial⟩
set_option maxHeartbeats 4000000 in
set_option maxRecDepth 100000 in
theorem ct_X5_wordAhead (l : Launch) (E : oE) (s : oS)   : oMet l 5 yX5_wordAhead cX5_wordAhead 3 (some .int) [(5, 2), (5, 4)] E s [.ref (oad E 30)] (oPi (fun r u => (-1 ≤ r.toInt ∧ r.toInt ≤ 25))) := by
  refine oMet.of (lv := [(0, .ref (oad E 30))]) (by decide +kernel) (Nat.le_of_ble_eq_true rfl) rfl (fun J C hT => ?_)
  have C : oC l 5 cX5_wordAhead RX5 3 (some .int) [(5, 2), (5, 4)] E s (oPi (fun r u => (-1 ≤ r.toInt ∧ r.toInt ≤ 25))) J := C
  obtain ⟨km1, qkm1⟩ : ∃ z : Int32, z = (-1) := ⟨_, rfl⟩
  have ekm1 : km1.toInt = (-1) := by rw [qkm1]; rfl
  obtain ⟨k0, qk0⟩ : ∃ z : Int32, z = 0 := ⟨_, rfl⟩
  have ek0 : k0.toInt = 0 := by rw [qk0]; rfl
  obtain ⟨k1, qk1⟩ : ∃ z : Int32, z = 1 := ⟨_, rfl⟩
  have ek1 : k1.toInt = 1 := by rw [qk1]; rfl
  obtain ⟨k7, qk7⟩ : ∃ z : Int32, z = 7 := ⟨_, rfl⟩
  have ek7 : k7.toInt = 7 := by rw [qk7]; rfl
  obtain ⟨k32, qk32⟩ : ∃ z : Int32, z = 32 := ⟨_, rfl⟩
  have ek32 : k32.toInt = 32 := by rw [qk32]; rfl
  have key : ∀ n : Nat, (∀ (t : oS), 11601 - (t.1 30 4).toInt ≤ (n : Int) → J t 31 [(0, .ref (oad E 30))] []) ∧ (∀ (t : oS) (x1 : Int32), (0 ≤ x1.toInt ∧ x1.toInt ≤ 182) → 5000 - 10 * x1.toInt ≤ (n : Int) → J t 77 [(0, .ref (oad E 30)), (1, .int x1)] []) ∧ (∀ (t : oS) (x1 : Int32) (x2 : Int32), (0 ≤ x1.toInt ∧ x1.toInt ≤ 175) → (0 ≤ x2.toInt ∧ x2.toInt ≤ 7) → 5000 - 10 * x1.toInt - 1 - x2.toInt ≤ (n : Int) → J t 105 [(0, .ref (oad E 30)), (1, .int x1), (2, .int x2)] []) := by
    intro n
    induction n using Nat.strongRecOn with
    | _ n ih =>
      refine ⟨?_, ?_, ?_⟩
      · intro t    hmu
        refine r_aload_n C (j := 0) (oDec_at oX5_wordAhead 15 rfl) rfl rfl ?_
        obtain ⟨v1, ev1⟩ : ∃ z : Int32, (t).1 30 4 = z := ⟨_, rfl⟩
        have gv1 : (t.1 30 4).toInt = v1.toInt := congrArg Int32.toInt (ev1)
        refine r_geti (k := 4) (lo := 0) (hi := 1600) C v1 oCl5 rfl (by decide) flX5_130 rfl rfl (ev1) rfl rfl (oDec_at oX5_wordAhead 16 rfl) (fun b2 b2h => ?_)
        refine r_aload_n C (j := 0) (oDec_at oX5_wordAhead 17 rfl) rfl rfl ?_
        refine r_getF (k := 0) (b := 1) C oCl5 rfl (by decide) flX5_15 rfl rfl rfl (oDec_at oX5_wordAhead 18 rfl) ?_
        obtain ⟨v3, ev3⟩ : ∃ z : Int32, (t).1 1 1 = z := ⟨_, rfl⟩
        have gv3 : (t.1 1 1).toInt = v3.toInt := congrArg Int32.toInt (ev3)
        refine r_getiN (k := 1) (lo := 0) (hi := 1600) C v3 oCl8 rfl (by decide) flX5_175 rfl rfl (ev3) rfl rfl (oDec_at oX5_wordAhead 19 rfl) (fun b4 b4h => ?_)
        refine r_icmp_ge C 75 (oDec_at oX5_wordAhead 20 rfl) (by decide) (fun cd5 => ?_) (fun cd5 => ?_)
        · skip
          refine r_iconst C (oDec_at oX5_wordAhead 35 rfl) (v := k0) (by rw [qk0]; rfl) ?_
          refine r_istore_n C (lv' := [(0, .ref (oad E 30)), (1, .int k0)]) [1, 0] (oDec_at oX5_wordAhead 36 rfl) rfl (by decide) rfl ?_
          exact (ih (n - 1) (by omega)).2.1 (t) k0  (by omega) (by omega)
        · skip
          refine r_aload_n C (j := 0) (oDec_at oX5_wordAhead 21 rfl) rfl rfl ?_
          refine r_getF (k := 0) (b := 1) C oCl5 rfl (by decide) flX5_15 rfl rfl rfl (oDec_at oX5_wordAhead 22 rfl) ?_
          refine r_aload_n C (j := 0) (oDec_at oX5_wordAhead 23 rfl) rfl rfl ?_
          refine r_geti (k := 4) (lo := 0) (hi := 1600) C v1 oCl5 rfl (by decide) flX5_130 rfl rfl (ev1) rfl rfl (oDec_at oX5_wordAhead 24 rfl) (fun _ _ => ?_)
          have lk6 : ((t).1 1 1).toInt = v3.toInt := congrArg Int32.toInt (ev3)
          refine r_callVi C oCl8 rfl miX8_at mlX5_133 (ct_X8_at l E (t) v1 ) (by decide) rfl rfl rfl (Nat.le_of_ble_eq_true rfl) (oDec_at oX5_wordAhead 25 rfl) (fun r8 u7 pu7 fu7 => ?_)
          try dsimp only at pu7
          have rr8 := n_rng r8
          refine r_callSi C miX5_isLetter mlX5_127 (ct_X5_isLetter l E (u7) r8 ) (by decide) rfl rfl rfl (Nat.le_of_ble_eq_true rfl) (oDec_at oX5_wordAhead 26 rfl) (fun r10 u9 pu9 fu9 => ?_)
          try dsimp only at pu9
          have rr10 := n_rng r10
          refine r_pc C 59 rfl ?_
          refine r_if_eq C 75 (oDec_at oX5_wordAhead 27 rfl) (by decide) (fun cd11 => ?_) (fun cd11 => ?_)
          · skip
            refine r_iconst C (oDec_at oX5_wordAhead 35 rfl) (v := k0) (by rw [qk0]; rfl) ?_
            refine r_istore_n C (lv' := [(0, .ref (oad E 30)), (1, .int k0)]) [1, 0] (oDec_at oX5_wordAhead 36 rfl) rfl (by decide) rfl ?_
            exact (ih (n - 1) (by omega)).2.1 (u9) k0  (by omega) (by omega)
          · skip
            refine r_aload_n C (j := 0) (oDec_at oX5_wordAhead 28 rfl) rfl rfl ?_
            refine r_dup C (oDec_at oX5_wordAhead 29 rfl) rfl ?_
            refine r_geti (k := 4) (lo := 0) (hi := 1600) C v1 oCl5 rfl (by decide) flX5_130 rfl rfl (((fu9 30 4 rfl).1).trans (((fu7 30 4 rfl).1).trans (ev1))) rfl rfl (oDec_at oX5_wordAhead 30 rfl) (fun _ _ => ?_)
            refine r_iconst C (oDec_at oX5_wordAhead 31 rfl) (v := k1) (by rw [qk1]; rfl) ?_
            obtain ⟨v12, ev12⟩ : ∃ z : Int32, z = v1 + k1 := ⟨_, rfl⟩
            have hv12 : v12.toInt = v1.toInt + k1.toInt := n_add ev12 (by omega) (by omega)
            refine r_iadd C v12 (oDec_at oX5_wordAhead 32 rfl) ev12 ?_
            refine r_puti (k := 4) (lo := 0) (hi := 1600) C oCl5 rfl (by decide) flX5_130 rfl rfl rfl rfl rfl rfl rfl rfl ⟨by omega, by omega⟩ (oDec_at oX5_wordAhead 33 rfl) ?_
            refine r_pc C 72 rfl ?_
            refine r_goto C (tgt := 31) (oDec_at oX5_wordAhead 34 rfl) (by decide) ?_
            have lk13 : (((pI u9 30 4 v12)).1 30 4).toInt = v12.toInt := congrArg Int32.toInt ((pI_self _ _ _ _))
            exact (ih (n - 1) (by omega)).1 ((pI u9 30 4 v12))    (by omega)
      · intro t x1  iv0 hmu
        have rx1 := n_rng x1
        refine r_iload_n C (j := 1) (oDec_at oX5_wordAhead 37 rfl) rfl rfl ?_
        refine r_bipush C (oDec_at oX5_wordAhead 38 rfl) (v := k7) (by rw [qk7]; rfl) ?_
        obtain ⟨v14, ev14⟩ : ∃ z : Int32, z = x1 + k7 := ⟨_, rfl⟩
        have hv14 : v14.toInt = x1.toInt + k7.toInt := n_add ev14 (by omega) (by omega)
        refine r_iadd C v14 (oDec_at oX5_wordAhead 39 rfl) ev14 ?_
        refine r_ldcS C (oDec_at oX5_wordAhead 40 rfl) ?_
        refine r_callKi C miJ0_length_8abf5 mlX5_178 (ct_J0_length_8abf5 l E (t)  ) (by decide) rfl rfl rfl (Nat.le_of_ble_eq_true rfl) (oDec_at oX5_wordAhead 41 rfl) (fun r15 u16 pu16 fu16 => ?_)
        try dsimp only at pu16
        have rr15 := n_rng r15
        refine r_icmp_gt C 176 (oDec_at oX5_wordAhead 42 rfl) (by decide) (fun cd17 => ?_) (fun cd17 => ?_)
        · skip
          refine r_iconst C (oDec_at oX5_wordAhead 88 rfl) (v := km1) (by rw [qkm1]; rfl) ?_
          exact r_iret C (oDec_at oX5_wordAhead 89 rfl) ⟨_, rfl, by omega⟩
        · skip
          refine r_aload_n C (j := 0) (oDec_at oX5_wordAhead 43 rfl) rfl rfl ?_
          obtain ⟨v18, ev18⟩ : ∃ z : Int32, (u16).1 30 4 = z := ⟨_, rfl⟩
          have gv18 : (t.1 30 4).toInt = v18.toInt := congrArg Int32.toInt (((fu16 30 4 rfl).1).symm.trans ev18)
          refine r_geti (k := 4) (lo := 0) (hi := 1600) C v18 oCl5 rfl (by decide) flX5_130 rfl rfl (ev18) rfl rfl (oDec_at oX5_wordAhead 44 rfl) (fun b19 b19h => ?_)
          refine r_aload_n C (j := 0) (oDec_at oX5_wordAhead 45 rfl) rfl rfl ?_
          obtain ⟨v20, ev20⟩ : ∃ z : Int32, (u16).1 30 2 = z := ⟨_, rfl⟩
          have gv20 : (t.1 30 2).toInt = v20.toInt := congrArg Int32.toInt (((fu16 30 2 rfl).1).symm.trans ev20)
          refine r_geti (k := 2) (lo := 0) (hi := 1600) C v20 oCl5 rfl (by decide) flX5_23 rfl rfl (ev20) rfl rfl (oDec_at oX5_wordAhead 46 rfl) (fun b21 b21h => ?_)
          obtain ⟨v22, ev22⟩ : ∃ z : Int32, z = v18 - v20 := ⟨_, rfl⟩
          have hv22 : v22.toInt = v18.toInt - v20.toInt := n_sub ev22 (by omega) (by omega)
          refine r_isub C v22 (oDec_at oX5_wordAhead 47 rfl) ev22 ?_
          refine r_bipush C (oDec_at oX5_wordAhead 48 rfl) (v := k7) (by rw [qk7]; rfl) ?_
          refine r_pc C 100 rfl ?_
          refine r_icmp_gt C 176 (oDec_at oX5_wordAhead 49 rfl) (by decide) (fun cd23 => ?_) (fun cd23 => ?_)
          · skip
            refine r_iconst C (oDec_at oX5_wordAhead 88 rfl) (v := km1) (by rw [qkm1]; rfl) ?_
            exact r_iret C (oDec_at oX5_wordAhead 89 rfl) ⟨_, rfl, by omega⟩
          · skip
            refine r_iconst C (oDec_at oX5_wordAhead 50 rfl) (v := k0) (by rw [qk0]; rfl) ?_
            refine r_istore_n C (lv' := [(0, .ref (oad E 30)), (1, .int x1), (2, .int k0)]) [1, 2, 0] (oDec_at oX5_wordAhead 51 rfl) rfl (by decide) rfl ?_
            exact (ih (n - 1) (by omega)).2.2 (u16) x1 k0  (by omega) (by omega) (by omega)
      · intro t x1 x2  iv0 iv1 hmu
        have rx1 := n_rng x1
        have rx2 := n_rng x2
        refine r_iload_n C (j := 2) (oDec_at oX5_wordAhead 52 rfl) rfl rfl ?_
        refine r_bipush C (oDec_at oX5_wordAhead 53 rfl) (v := k7) (by rw [qk7]; rfl) ?_
        refine r_icmp_ge C 159 (oDec_at oX5_wordAhead 54 rfl) (by decide) (fun cd24 => ?_) (fun cd24 => ?_)
        · skip
          refine r_iload_n C (j := 2) (oDec_at oX5_wordAhead 79 rfl) rfl rfl ?_
          refine r_bipush C (oDec_at oX5_wordAhead 80 rfl) (v := k7) (by rw [qk7]; rfl) ?_
          refine r_icmp_ne C 170 (oDec_at oX5_wordAhead 81 rfl) (by decide) (fun cd25 => ?_) (fun cd25 => ?_)
          · skip
            obtain ⟨v26, ev26⟩ : ∃ z : Int32, x1 + Int32.ofInt 7 = z := ⟨_, rfl⟩
            have hv26 : v26.toInt = x1.toInt + 7 := n_inc ev26 (by decide) (by omega) (by omega)
            refine r_iinc C (j := 1) (lv' := [(0, .ref (oad E 30)), (1, .int v26), (2, .int x2)]) v26 [1, 0, 2] (oDec_at oX5_wordAhead 86 rfl) rfl ev26 (by decide) rfl ?_
            refine r_goto C (tgt := 77) (oDec_at oX5_wordAhead 87 rfl) (by decide) ?_
            refine r_pick C [0, 1] rfl ?_
            exact (ih (n - 1) (by omega)).2.1 (t) v26  (by omega) (by omega)
          · skip
            refine r_iload_n C (j := 1) (oDec_at oX5_wordAhead 82 rfl) rfl rfl ?_
            refine r_bipush C (oDec_at oX5_wordAhead 83 rfl) (v := k7) (by rw [qk7]; rfl) ?_
            obtain ⟨v27, ev27⟩ : ∃ z : Int32, z = x1 / k7 := ⟨_, rfl⟩
            have hv27 := n_divP (k := 7) ev27 ek7 (by decide)
            have rv27 := n_rng v27
            refine r_idiv C v27 (oDec_at oX5_wordAhead 84 rfl) (n_ne0 (by omega)) ev27 ?_
            exact r_iret C (oDec_at oX5_wordAhead 85 rfl) ⟨_, rfl, by omega⟩
        · skip
          refine r_ldcS C (oDec_at oX5_wordAhead 55 rfl) ?_
          refine r_iload_n C (j := 1) (oDec_at oX5_wordAhead 56 rfl) rfl rfl ?_
          refine r_iload_n C (j := 2) (oDec_at oX5_wordAhead 57 rfl) rfl rfl ?_
          obtain ⟨v28, ev28⟩ : ∃ z : Int32, z = x1 + x2 := ⟨_, rfl⟩
          have hv28 : v28.toInt = x1.toInt + x2.toInt := n_add ev28 (by omega) (by omega)
          refine r_iadd C v28 (oDec_at oX5_wordAhead 58 rfl) ev28 ?_
          refine r_callKi C miJ0_charAt_5068e mlX5_182 (ct_J0_charAt_5068e l E (t) v28 (by omega) (by omega)) (by decide) rfl rfl rfl (Nat.le_of_ble_eq_true rfl) (oDec_at oX5_wordAhead 59 rfl) (fun r29 u30 pu30 fu30 => ?_)
          try dsimp only at pu30
          have rr29 := n_rng r29
          refine r_aload_n C (j := 0) (oDec_at oX5_wordAhead 60 rfl) rfl rfl ?_
          obtain ⟨v31, ev31⟩ : ∃ z : Int32, (u30).1 30 2 = z := ⟨_, rfl⟩
          have gv31 : (t.1 30 2).toInt = v31.toInt := congrArg Int32.toInt (((fu30 30 2 rfl).1).symm.trans ev31)
          refine r_geti (k := 2) (lo := 0) (hi := 1600) C v31 oCl5 rfl (by decide) flX5_23 rfl rfl (ev31) rfl rfl (oDec_at oX5_wordAhead 61 rfl) (fun b32 b32h => ?_)
          refine r_pc C 123 rfl ?_
          refine r_iload_n C (j := 2) (oDec_at oX5_wordAhead 62 rfl) rfl rfl ?_
          obtain ⟨v33, ev33⟩ : ∃ z : Int32, z = v31 + x2 := ⟨_, rfl⟩
          have hv33 : v33.toInt = v31.toInt + x2.toInt := n_add ev33 (by omega) (by omega)
          refine r_iadd C v33 (oDec_at oX5_wordAhead 63 rfl) ev33 ?_
          refine r_aload_n C (j := 0) (oDec_at oX5_wordAhead 64 rfl) rfl rfl ?_
          obtain ⟨v34, ev34⟩ : ∃ z : Int32, (u30).1 30 4 = z := ⟨_, rfl⟩
          have gv34 : (t.1 30 4).toInt = v34.toInt := congrArg Int32.toInt (((fu30 30 4 rfl).1).symm.trans ev34)
          refine r_geti (k := 4) (lo := 0) (hi := 1600) C v34 oCl5 rfl (by decide) flX5_130 rfl rfl (ev34) rfl rfl (oDec_at oX5_wordAhead 65 rfl) (fun b35 b35h => ?_)
          refine r_icmp_ge C 148 (oDec_at oX5_wordAhead 66 rfl) (by decide) (fun cd36 => ?_) (fun cd36 => ?_)
          · skip
            refine r_bipush C (oDec_at oX5_wordAhead 75 rfl) (v := k32) (by rw [qk32]; rfl) ?_
            refine r_icmp_ne C 159 (oDec_at oX5_wordAhead 76 rfl) (by decide) (fun cd37 => ?_) (fun cd37 => ?_)
            · skip
              refine r_iload_n C (j := 2) (oDec_at oX5_wordAhead 79 rfl) rfl rfl ?_
              refine r_bipush C (oDec_at oX5_wordAhead 80 rfl) (v := k7) (by rw [qk7]; rfl) ?_
              refine r_icmp_ne C 170 (oDec_at oX5_wordAhead 81 rfl) (by decide) (fun cd38 => ?_) (fun cd38 => ?_)
              · skip
                obtain ⟨v39, ev39⟩ : ∃ z : Int32, x1 + Int32.ofInt 7 = z := ⟨_, rfl⟩
                have hv39 : v39.toInt = x1.toInt + 7 := n_inc ev39 (by decide) (by omega) (by omega)
                refine r_iinc C (j := 1) (lv' := [(0, .ref (oad E 30)), (1, .int v39), (2, .int x2)]) v39 [1, 0, 2] (oDec_at oX5_wordAhead 86 rfl) rfl ev39 (by decide) rfl ?_
                refine r_goto C (tgt := 77) (oDec_at oX5_wordAhead 87 rfl) (by decide) ?_
                refine r_pick C [0, 1] rfl ?_
                exact (ih (n - 1) (by omega)).2.1 (u30) v39  (by omega) (by omega)
              · skip
                refine r_iload_n C (j := 1) (oDec_at oX5_wordAhead 82 rfl) rfl rfl ?_
                refine r_bipush C (oDec_at oX5_wordAhead 83 rfl) (v := k7) (by rw [qk7]; rfl) ?_
                obtain ⟨v40, ev40⟩ : ∃ z : Int32, z = x1 / k7 := ⟨_, rfl⟩
                have hv40 := n_divP (k := 7) ev40 ek7 (by decide)
                have rv40 := n_rng v40
                refine r_idiv C v40 (oDec_at oX5_wordAhead 84 rfl) (n_ne0 (by omega)) ev40 ?_
                exact r_iret C (oDec_at oX5_wordAhead 85 rfl) ⟨_, rfl, by omega⟩
            · skip
              obtain ⟨v41, ev41⟩ : ∃ z : Int32, x2 + Int32.ofInt 1 = z := ⟨_, rfl⟩
              have hv41 : v41.toInt = x2.toInt + 1 := n_inc ev41 (by decide) (by omega) (by omega)
              refine r_iinc C (j := 2) (lv' := [(0, .ref (oad E 30)), (1, .int x1), (2, .int v41)]) v41 [1, 2, 0] (oDec_at oX5_wordAhead 77 rfl) rfl ev41 (by decide) rfl ?_
              refine r_goto C (tgt := 105) (oDec_at oX5_wordAhead 78 rfl) (by decide) ?_
              exact (ih (n - 1) (by omega)).2.2 (u30) x1 v41  (by omega) (by omega) (by omega)
          · skip
            refine r_aload_n C (j := 0) (oDec_at oX5_wordAhead 67 rfl) rfl rfl ?_
            refine r_getF (k := 0) (b := 1) C oCl5 rfl (by decide) flX5_15 rfl rfl rfl (oDec_at oX5_wordAhead 68 rfl) ?_
            refine r_aload_n C (j := 0) (oDec_at oX5_wordAhead 69 rfl) rfl rfl ?_
            refine r_geti (k := 2) (lo := 0) (hi := 1600) C v31 oCl5 rfl (by decide) flX5_23 rfl rfl (ev31) rfl rfl (oDec_at oX5_wordAhead 70 rfl) (fun _ _ => ?_)
            refine r_iload_n C (j := 2) (oDec_at oX5_wordAhead 71 rfl) rfl rfl ?_
            obtain ⟨v42, ev42⟩ : ∃ z : Int32, z = v31 + x2 := ⟨_, rfl⟩
            have hv42 : v42.toInt = v31.toInt + x2.toInt := n_add ev42 (by omega) (by omega)
            refine r_iadd C v42 (oDec_at oX5_wordAhead 72 rfl) ev42 ?_
            refine r_pc C 142 rfl ?_
            have lk43 : ((u30).1 1 1).toInt = (t.1 1 1).toInt := congrArg Int32.toInt ((fu30 1 1 rfl).1)
            refine r_callVi C oCl8 rfl miX8_at mlX5_133 (ct_X8_at l E (u30) v42 ) (by decide) rfl rfl rfl (Nat.le_of_ble_eq_true rfl) (oDec_at oX5_wordAhead 73 rfl) (fun r45 u44 pu44 fu44 => ?_)
            try dsimp only at pu44
            have rr45 := n_rng r45
            refine r_goto C (tgt := 150) (oDec_at oX5_wordAhead 74 rfl) (by decide) ?_
            refine r_icmp_ne C 159 (oDec_at oX5_wordAhead 76 rfl) (by decide) (fun cd46 => ?_) (fun cd46 => ?_)
            · skip
              refine r_iload_n C (j := 2) (oDec_at oX5_wordAhead 79 rfl) rfl rfl ?_
              refine r_bipush C (oDec_at oX5_wordAhead 80 rfl) (v := k7) (by rw [qk7]; rfl) ?_
              refine r_icmp_ne C 170 (oDec_at oX5_wordAhead 81 rfl) (by decide) (fun cd47 => ?_) (fun cd47 => ?_)
              · skip
                obtain ⟨v48, ev48⟩ : ∃ z : Int32, x1 + Int32.ofInt 7 = z := ⟨_, rfl⟩
                have hv48 : v48.toInt = x1.toInt + 7 := n_inc ev48 (by decide) (by omega) (by omega)
                refine r_iinc C (j := 1) (lv' := [(0, .ref (oad E 30)), (1, .int v48), (2, .int x2)]) v48 [1, 0, 2] (oDec_at oX5_wordAhead 86 rfl) rfl ev48 (by decide) rfl ?_
                refine r_goto C (tgt := 77) (oDec_at oX5_wordAhead 87 rfl) (by decide) ?_
                refine r_pick C [0, 1] rfl ?_
                exact (ih (n - 1) (by omega)).2.1 (u44) v48  (by omega) (by omega)
              · skip
                refine r_iload_n C (j := 1) (oDec_at oX5_wordAhead 82 rfl) rfl rfl ?_
                refine r_bipush C (oDec_at oX5_wordAhead 83 rfl) (v := k7) (by rw [qk7]; rfl) ?_
                obtain ⟨v49, ev49⟩ : ∃ z : Int32, z = x1 / k7 := ⟨_, rfl⟩
                have hv49 := n_divP (k := 7) ev49 ek7 (by decide)
                have rv49 := n_rng v49
                refine r_idiv C v49 (oDec_at oX5_wordAhead 84 rfl) (n_ne0 (by omega)) ev49 ?_
                exact r_iret C (oDec_at oX5_wordAhead 85 rfl) ⟨_, rfl, by omega⟩
            · skip
              obtain ⟨v50, ev50⟩ : ∃ z : Int32, x2 + Int32.ofInt 1 = z := ⟨_, rfl⟩
              have hv50 : v50.toInt = x2.toInt + 1 := n_inc ev50 (by decide) (by omega) (by omega)
              refine r_iinc C (j := 2) (lv' := [(0, .ref (oad E 30)), (1, .int x1), (2, .int v50)]) v50 [1, 2, 0] (oDec_at oX5_wordAhead 77 rfl) rfl ev50 (by decide) rfl ?_
              refine r_goto C (tgt := 105) (oDec_at oX5_wordAhead 78 rfl) (by decide) ?_
              exact (ih (n - 1) (by omega)).2.2 (u44) x1 v50  (by omega) (by omega) (by omega)
  refine r_aload_n C (j := 0) (oDec_at oX5_wordAhead 0 rfl) rfl rfl ?_
  refine r_callVi C oCl5 rfl miX5_peek mlX5_43 (ct_X5_peek l E (s)  ) (by decide) rfl rfl rfl (Nat.le_of_ble_eq_true rfl) (oDec_at oX5_wordAhead 1 rfl) (fun r52 u51 pu51 fu51 => ?_)
  try dsimp only at pu51
  have rr52 := n_rng r52
  refine r_callSi C miX5_isLetter mlX5_127 (ct_X5_isLetter l E (u51) r52 ) (by decide) rfl rfl rfl (Nat.le_of_ble_eq_true rfl) (oDec_at oX5_wordAhead 2 rfl) (fun r54 u53 pu53 fu53 => ?_)
  try dsimp only at pu53
  have rr54 := n_rng r54
  refine r_if_eq C 21 (oDec_at oX5_wordAhead 3 rfl) (by decide) (fun cd55 => ?_) (fun cd55 => ?_)
  · skip
    refine r_iconst C (oDec_at oX5_wordAhead 9 rfl) (v := km1) (by rw [qkm1]; rfl) ?_
    exact r_iret C (oDec_at oX5_wordAhead 10 rfl) ⟨_, rfl, by omega⟩
  · skip
    refine r_aload_n C (j := 0) (oDec_at oX5_wordAhead 4 rfl) rfl rfl ?_
    obtain ⟨v56, ev56⟩ : ∃ z : Int32, (u53).1 30 2 = z := ⟨_, rfl⟩
    have gv56 : (u51.1 30 2).toInt = v56.toInt := congrArg Int32.toInt (((fu53 30 2 rfl).1).symm.trans ev56)
    refine r_geti (k := 2) (lo := 0) (hi := 1600) C v56 oCl5 rfl (by decide) flX5_23 rfl rfl (ev56) rfl rfl (oDec_at oX5_wordAhead 5 rfl) (fun b57 b57h => ?_)
    refine r_aload_n C (j := 0) (oDec_at oX5_wordAhead 6 rfl) rfl rfl ?_
    obtain ⟨v58, ev58⟩ : ∃ z : Int32, (u53).1 30 3 = z := ⟨_, rfl⟩
    have gv58 : (s.1 30 3).toInt = v58.toInt := congrArg Int32.toInt ((((fu53 30 3 rfl).1).trans ((fu51 30 3 rfl).1)).symm.trans ev58)
    refine r_geti (k := 3) (lo := (-1)) (hi := 1600) C v58 oCl5 rfl (by decide) flX5_26 rfl rfl (ev58) rfl rfl (oDec_at oX5_wordAhead 7 rfl) (fun b59 b59h => ?_)
    refine r_icmp_ne C 23 (oDec_at oX5_wordAhead 8 rfl) (by decide) (fun cd60 => ?_) (fun cd60 => ?_)
    · skip
      refine r_aload_n C (j := 0) (oDec_at oX5_wordAhead 11 rfl) rfl rfl ?_
      refine r_aload_n C (j := 0) (oDec_at oX5_wordAhead 12 rfl) rfl rfl ?_
      refine r_geti (k := 2) (lo := 0) (hi := 1600) C v56 oCl5 rfl (by decide) flX5_23 rfl rfl (ev56) rfl rfl (oDec_at oX5_wordAhead 13 rfl) (fun _ _ => ?_)
      refine r_puti (k := 4) (lo := 0) (hi := 1600) C oCl5 rfl (by decide) flX5_130 rfl rfl rfl rfl rfl rfl rfl rfl ⟨by omega, by omega⟩ (oDec_at oX5_wordAhead 14 rfl) ?_
      have lk61 : (((pI u53 30 4 v56)).1 30 4).toInt = v56.toInt := congrArg Int32.toInt ((pI_self _ _ _ _))
      exact (key (11601 - (((pI u53 30 4 v56)).1 30 4).toInt).toNat).1 ((pI u53 30 4 v56))    (by omega)
    · skip
      refine r_iconst C (oDec_at oX5_wordAhead 9 rfl) (v := km1) (by rw [qkm1]; rfl) ?_
      exact r_iret C (oDec_at oX5_wordAhead 10 rfl) ⟨_, rfl, by omega⟩
set_option maxHeartbeats 4000000 in
set_option maxRecDepth 100000 in
theorem ct_X5_expect (l : Launch) (E : oE) (s : oS) (a1 : Int32)  : oMet l 6 yX5_expect cX5_expect 2 (some .boolean) [(5, 2), (5, 3), (5, 4), (5, 8), (5, 9)] E s [.ref (oad E 30), .int a1] (oPi (fun r u => (0 ≤ r.toInt ∧ r.toInt ≤ 1))) := by
  refine oMet.of (lv := [(0, .ref (oad E 30)), (1, .int a1)]) (by decide +kernel) (Nat.le_of_ble_eq_true rfl) rfl (fun J C hT => ?_)
  have C : oC l 6 cX5_expect RX5 2 (some .boolean) [(5, 2), (5, 3), (5, 4), (5, 8), (5, 9)] E s (oPi (fun r u => (0 ≤ r.toInt ∧ r.toInt ≤ 1))) J := C
  obtain ⟨k1, qk1⟩ : ∃ z : Int32, z = 1 := ⟨_, rfl⟩
  have ek1 : k1.toInt = 1 := by rw [qk1]; rfl
  have rg1 := n_rng a1
  refine r_aload_n C (j := 0) (oDec_at oX5_expect 0 rfl) rfl rfl ?_
  refine r_callVi C oCl5 rfl miX5_wordAhead mlX5_91 (ct_X5_wordAhead l E (s)  ) (by decide) rfl rfl rfl (Nat.le_of_ble_eq_true rfl) (oDec_at oX5_expect 1 rfl) (fun r2 u1 pu1 fu1 => ?_)
  try dsimp only at pu1
  have rr2 := n_rng r2
  refine r_iload_n C (j := 1) (oDec_at oX5_expect 2 rfl) rfl rfl ?_
  refine r_icmp_eq C 18 (oDec_at oX5_expect 3 rfl) (by decide) (fun cd3 => ?_) (fun cd3 => ?_)
  · skip
    refine r_aload_n C (j := 0) (oDec_at oX5_expect 10 rfl) rfl rfl ?_
    refine r_callVv C oCl5 rfl miX5_passWord mlX5_100 (ct_X5_passWord l E (u1)  ) (by decide) rfl rfl rfl (Nat.le_of_ble_eq_true rfl) (oDec_at oX5_expect 11 rfl) (fun u4 pu4 fu4 => ?_)
    try dsimp only at pu4
    refine r_iconst C (oDec_at oX5_expect 12 rfl) (v := k1) (by rw [qk1]; rfl) ?_
    exact r_zret C (n_bool (by omega)) (oDec_at oX5_expect 13 rfl) ⟨_, rfl, by omega⟩
  · skip
    refine r_aload_n C (j := 0) (oDec_at oX5_expect 4 rfl) rfl rfl ?_
    refine r_iconst C (oDec_at oX5_expect 5 rfl) (v := k1) (by rw [qk1]; rfl) ?_
    refine r_aload_n C (j := 0) (oDec_at oX5_expect 6 rfl) rfl rfl ?_
    obtain ⟨v6, ev6⟩ : ∃ z : Int32, (u1).1 30 2 = z := ⟨_, rfl⟩
    have gv6 : (u1.1 30 2).toInt = v6.toInt := congrArg Int32.toInt (ev6)
    refine r_geti (k := 2) (lo := 0) (hi := 1600) C v6 oCl5 rfl (by decide) flX5_23 rfl rfl (ev6) rfl rfl (oDec_at oX5_expect 7 rfl) (fun b7 b7h => ?_)
    refine r_callVi C oCl5 rfl miX5_fail mlX5_62 (ct_X5_fail l E (u1) k1 v6 ) (by decide) rfl rfl rfl (Nat.le_of_ble_eq_true rfl) (oDec_at oX5_expect 8 rfl) (fun r9 u8 pu8 fu8 => ?_)
    try dsimp only at pu8
    have rr9 := n_rng r9
    exact r_zret C (n_bool (by omega)) (oDec_at oX5_expect 9 rfl) ⟨_, rfl, by omega⟩
set_option maxHeartbeats 4000000 in
set_option maxRecDepth 100000 in
theorem ct_X5_accept (l : Launch) (E : oE) (s : oS) (a1 : Int32)  : oMet l 6 yX5_accept cX5_accept 2 (some .boolean) [(5, 2), (5, 3), (5, 4)] E s [.ref (oad E 30), .int a1] (oPi (fun r u => (0 ≤ r.toInt ∧ r.toInt ≤ 1))) := by
  refine oMet.of (lv := [(0, .ref (oad E 30)), (1, .int a1)]) (by decide +kernel) (Nat.le_of_ble_eq_true rfl) rfl (fun J C hT => ?_)
  have C : oC l 6 cX5_accept RX5 2 (some .boolean) [(5, 2), (5, 3), (5, 4)] E s (oPi (fun r u => (0 ≤ r.toInt ∧ r.toInt ≤ 1))) J := C
  obtain ⟨k0, qk0⟩ : ∃ z : Int32, z = 0 := ⟨_, rfl⟩
  have ek0 : k0.toInt = 0 := by rw [qk0]; rfl
  obtain ⟨k1, qk1⟩ : ∃ z : Int32, z = 1 := ⟨_, rfl⟩
  have ek1 : k1.toInt = 1 := by rw [qk1]; rfl
  have rg1 := n_rng a1
  refine r_aload_n C (j := 0) (oDec_at oX5_accept 0 rfl) rfl rfl ?_
  refine r_callVi C oCl5 rfl miX5_wordAhead mlX5_91 (ct_X5_wordAhead l E (s)  ) (by decide) rfl rfl rfl (Nat.le_of_ble_eq_true rfl) (oDec_at oX5_accept 1 rfl) (fun r2 u1 pu1 fu1 => ?_)
  try dsimp only at pu1
  have rr2 := n_rng r2
  refine r_iload_n C (j := 1) (oDec_at oX5_accept 2 rfl) rfl rfl ?_
  refine r_icmp_eq C 10 (oDec_at oX5_accept 3 rfl) (by decide) (fun cd3 => ?_) (fun cd3 => ?_)
  · skip
    refine r_aload_n C (j := 0) (oDec_at oX5_accept 6 rfl) rfl rfl ?_
    refine r_callVv C oCl5 rfl miX5_passWord mlX5_100 (ct_X5_passWord l E (u1)  ) (by decide) rfl rfl rfl (Nat.le_of_ble_eq_true rfl) (oDec_at oX5_accept 7 rfl) (fun u4 pu4 fu4 => ?_)
    try dsimp only at pu4
    refine r_iconst C (oDec_at oX5_accept 8 rfl) (v := k1) (by rw [qk1]; rfl) ?_
    exact r_zret C (n_bool (by omega)) (oDec_at oX5_accept 9 rfl) ⟨_, rfl, by omega⟩
  · skip
    refine r_iconst C (oDec_at oX5_accept 4 rfl) (v := k0) (by rw [qk0]; rfl) ?_
    exact r_zret C (n_bool (by omega)) (oDec_at oX5_accept 5 rfl) ⟨_, rfl, by omega⟩
set_option maxHeartbeats 4000000 in
set_option maxRecDepth 100000 in
theorem ct_X5_expectSign (l : Launch) (E : oE) (s : oS) (a1 : Int32) (hp0 : 0 ≤ a1.toInt) : oMet l 2 yX5_expectSign cX5_expectSign 2 (some .boolean) [(5, 2), (5, 8), (5, 9)] E s [.ref (oad E 30), .int a1] (oPi (fun r u => (0 ≤ r.toInt ∧ r.toInt ≤ 1))) := by
  refine oMet.of (lv := [(0, .ref (oad E 30)), (1, .int a1)]) (by decide +kernel) (Nat.le_of_ble_eq_true rfl) rfl (fun J C hT => ?_)
  have C : oC l 2 cX5_expectSign RX5 2 (some .boolean) [(5, 2), (5, 8), (5, 9)] E s (oPi (fun r u => (0 ≤ r.toInt ∧ r.toInt ≤ 1))) J := C
  obtain ⟨k1, qk1⟩ : ∃ z : Int32, z = 1 := ⟨_, rfl⟩
  have ek1 : k1.toInt = 1 := by rw [qk1]; rfl
  have rg1 := n_rng a1
  refine r_aload_n C (j := 0) (oDec_at oX5_expectSign 0 rfl) rfl rfl ?_
  refine r_callVi C oCl5 rfl miX5_peek mlX5_43 (ct_X5_peek l E (s)  ) (by decide) rfl rfl rfl (Nat.le_of_ble_eq_true rfl) (oDec_at oX5_expectSign 1 rfl) (fun r2 u1 pu1 fu1 => ?_)
  try dsimp only at pu1
  have rr2 := n_rng r2
  refine r_iload_n C (j := 1) (oDec_at oX5_expectSign 2 rfl) rfl rfl ?_
  refine r_icmp_eq C 18 (oDec_at oX5_expectSign 3 rfl) (by decide) (fun cd3 => ?_) (fun cd3 => ?_)
  · skip
    refine r_aload_n C (j := 0) (oDec_at oX5_expectSign 10 rfl) rfl rfl ?_
    refine r_dup C (oDec_at oX5_expectSign 11 rfl) rfl ?_
    obtain ⟨v4, ev4⟩ : ∃ z : Int32, (u1).1 30 2 = z := ⟨_, rfl⟩
    have gv4 : (u1.1 30 2).toInt = v4.toInt := congrArg Int32.toInt (ev4)
    refine r_geti (k := 2) (lo := 0) (hi := 1600) C v4 oCl5 rfl (by decide) flX5_23 rfl rfl (ev4) rfl rfl (oDec_at oX5_expectSign 12 rfl) (fun b5 b5h => ?_)
    refine r_iconst C (oDec_at oX5_expectSign 13 rfl) (v := k1) (by rw [qk1]; rfl) ?_
    obtain ⟨v6, ev6⟩ : ∃ z : Int32, z = v4 + k1 := ⟨_, rfl⟩
    have hv6 : v6.toInt = v4.toInt + k1.toInt := n_add ev6 (by omega) (by omega)
    refine r_iadd C v6 (oDec_at oX5_expectSign 14 rfl) ev6 ?_
    refine r_puti (k := 2) (lo := 0) (hi := 1600) C oCl5 rfl (by decide) flX5_23 rfl rfl rfl rfl rfl rfl rfl rfl ⟨by omega, by omega⟩ (oDec_at oX5_expectSign 15 rfl) ?_
    refine r_pc C 28 rfl ?_
    refine r_iconst C (oDec_at oX5_expectSign 16 rfl) (v := k1) (by rw [qk1]; rfl) ?_
    exact r_zret C (n_bool (by omega)) (oDec_at oX5_expectSign 17 rfl) ⟨_, rfl, by omega⟩
  · skip
    refine r_aload_n C (j := 0) (oDec_at oX5_expectSign 4 rfl) rfl rfl ?_
    refine r_iconst C (oDec_at oX5_expectSign 5 rfl) (v := k1) (by rw [qk1]; rfl) ?_
    refine r_aload_n C (j := 0) (oDec_at oX5_expectSign 6 rfl) rfl rfl ?_
    obtain ⟨v7, ev7⟩ : ∃ z : Int32, (u1).1 30 2 = z := ⟨_, rfl⟩
    have gv7 : (u1.1 30 2).toInt = v7.toInt := congrArg Int32.toInt (ev7)
    refine r_geti (k := 2) (lo := 0) (hi := 1600) C v7 oCl5 rfl (by decide) flX5_23 rfl rfl (ev7) rfl rfl (oDec_at oX5_expectSign 7 rfl) (fun b8 b8h => ?_)
    refine r_callVi C oCl5 rfl miX5_fail mlX5_62 (ct_X5_fail l E (u1) k1 v7 ) (by decide) rfl rfl rfl (Nat.le_of_ble_eq_true rfl) (oDec_at oX5_expectSign 8 rfl) (fun r10 u9 pu9 fu9 => ?_)
    try dsimp only at pu9
    have rr10 := n_rng r10
    exact r_zret C (n_bool (by omega)) (oDec_at oX5_expectSign 9 rfl) ⟨_, rfl, by omega⟩
set_option maxHeartbeats 4000000 in
set_option maxRecDepth 100000 in
theorem ct_X5_closing (l : Launch) (E : oE) (s : oS) (a1 : Int32)  : oMet l 2 yX5_closing cX5_closing 2 (some .int) [(5, 2), (5, 8), (5, 9)] E s [.ref (oad E 30), .int a1] (oPi (fun r u => True)) := by
  refine oMet.of (lv := [(0, .ref (oad E 30)), (1, .int a1)]) (by decide +kernel) (Nat.le_of_ble_eq_true rfl) rfl (fun J C hT => ?_)
  have C : oC l 2 cX5_closing RX5 2 (some .int) [(5, 2), (5, 8), (5, 9)] E s (oPi (fun r u => True)) J := C
  obtain ⟨km1, qkm1⟩ : ∃ z : Int32, z = (-1) := ⟨_, rfl⟩
  have ekm1 : km1.toInt = (-1) := by rw [qkm1]; rfl
  obtain ⟨k5, qk5⟩ : ∃ z : Int32, z = 5 := ⟨_, rfl⟩
  have ek5 : k5.toInt = 5 := by rw [qk5]; rfl
  have rg1 := n_rng a1
  refine r_aload_n C (j := 0) (oDec_at oX5_closing 0 rfl) rfl rfl ?_
  refine r_callVi C oCl5 rfl miX5_peek mlX5_43 (ct_X5_peek l E (s)  ) (by decide) rfl rfl rfl (Nat.le_of_ble_eq_true rfl) (oDec_at oX5_closing 1 rfl) (fun r2 u1 pu1 fu1 => ?_)
  try dsimp only at pu1
  have rr2 := n_rng r2
  refine r_iconst C (oDec_at oX5_closing 2 rfl) (v := km1) (by rw [qkm1]; rfl) ?_
  refine r_icmp_ne C 10 (oDec_at oX5_closing 3 rfl) (by decide) (fun cd3 => ?_) (fun cd3 => ?_)
  · skip
    refine r_aload_n C (j := 0) (oDec_at oX5_closing 6 rfl) rfl rfl ?_
    refine r_iconst C (oDec_at oX5_closing 7 rfl) (v := k5) (by rw [qk5]; rfl) ?_
    refine r_aload_n C (j := 0) (oDec_at oX5_closing 8 rfl) rfl rfl ?_
    obtain ⟨v4, ev4⟩ : ∃ z : Int32, (u1).1 30 2 = z := ⟨_, rfl⟩
    have gv4 : (u1.1 30 2).toInt = v4.toInt := congrArg Int32.toInt (ev4)
    refine r_geti (k := 2) (lo := 0) (hi := 1600) C v4 oCl5 rfl (by decide) flX5_23 rfl rfl (ev4) rfl rfl (oDec_at oX5_closing 9 rfl) (fun b5 b5h => ?_)
    refine r_callVi C oCl5 rfl miX5_fail mlX5_62 (ct_X5_fail l E (u1) k5 v4 ) (by decide) rfl rfl rfl (Nat.le_of_ble_eq_true rfl) (oDec_at oX5_closing 10 rfl) (fun r7 u6 pu6 fu6 => ?_)
    try dsimp only at pu6
    have rr7 := n_rng r7
    refine r_pop C (oDec_at oX5_closing 11 rfl) rfl ?_
    refine r_pc C 20 rfl ?_
    refine r_iconst C (oDec_at oX5_closing 12 rfl) (v := km1) (by rw [qkm1]; rfl) ?_
    exact r_iret C (oDec_at oX5_closing 13 rfl) ⟨_, rfl, trivial⟩
  · skip
    refine r_iload_n C (j := 1) (oDec_at oX5_closing 4 rfl) rfl rfl ?_
    exact r_iret C (oDec_at oX5_closing 5 rfl) ⟨_, rfl, trivial⟩
set_option maxHeartbeats 4000000 in
set_option maxRecDepth 100000 in
theorem ct_X5_number (l : Launch) (E : oE) (s : oS) (a1 : Int32) (a2 : Int32)  : oMet l 2 yX5_number cX5_number 6 (some .int) [(5, 2), (5, 3), (5, 8), (5, 9)] E s [.ref (oad E 30), .int a1, .int a2] (oPi (fun r u => (r.toInt = -1 ∨ (a1.toInt ≤ r.toInt ∧ r.toInt ≤ a2.toInt)))) := by
  refine oMet.of (lv := [(0, .ref (oad E 30)), (1, .int a1), (2, .int a2)]) (by decide +kernel) (Nat.le_of_ble_eq_true rfl) rfl (fun J C hT => ?_)
  have C : oC l 2 cX5_number RX5 6 (some .int) [(5, 2), (5, 3), (5, 8), (5, 9)] E s (oPi (fun r u => (r.toInt = -1 ∨ (a1.toInt ≤ r.toInt ∧ r.toInt ≤ a2.toInt)))) J := C
  obtain ⟨km1, qkm1⟩ : ∃ z : Int32, z = (-1) := ⟨_, rfl⟩
  have ekm1 : km1.toInt = (-1) := by rw [qkm1]; rfl
  obtain ⟨k0, qk0⟩ : ∃ z : Int32, z = 0 := ⟨_, rfl⟩
  have ek0 : k0.toInt = 0 := by rw [qk0]; rfl
  obtain ⟨k1, qk1⟩ : ∃ z : Int32, z = 1 := ⟨_, rfl⟩
  have ek1 : k1.toInt = 1 := by rw [qk1]; rfl
  obtain ⟨k2, qk2⟩ : ∃ z : Int32, z = 2 := ⟨_, rfl⟩
  have ek2 : k2.toInt = 2 := by rw [qk2]; rfl
  obtain ⟨k4, qk4⟩ : ∃ z : Int32, z = 4 := ⟨_, rfl⟩
  have ek4 : k4.toInt = 4 := by rw [qk4]; rfl
  obtain ⟨k10, qk10⟩ : ∃ z : Int32, z = 10 := ⟨_, rfl⟩
  have ek10 : k10.toInt = 10 := by rw [qk10]; rfl
  obtain ⟨k48, qk48⟩ : ∃ z : Int32, z = 48 := ⟨_, rfl⟩
  have ek48 : k48.toInt = 48 := by rw [qk48]; rfl
  have rg1 := n_rng a1
  have rg2 := n_rng a2
  have key : ∀ n : Nat, (∀ (t : oS) (x3 : Int32) (x4 : Int32) (x5 : Int32), (0 ≤ x5.toInt ∧ x5.toInt ≤ 4) → 5 - x5.toInt ≤ (n : Int) → J t 44 [(0, .ref (oad E 30)), (1, .int a1), (2, .int a2), (3, .int x3), (4, .int x4), (5, .int x5)] []) := by
    intro n
    induction n using Nat.strongRecOn with
    | _ n ih =>
      skip
      · intro t x3 x4 x5  iv0 hmu
        have rx3 := n_rng x3
        have rx4 := n_rng x4
        have rx5 := n_rng x5
        refine r_iload C (j := 5) (oDec_at oX5_number 24 rfl) rfl ?_
        refine r_iconst C (oDec_at oX5_number 25 rfl) (v := k4) (by rw [qk4]; rfl) ?_
        refine r_icmp_ge C 105 (oDec_at oX5_number 26 rfl) (by decide) (fun cd1 => ?_) (fun cd1 => ?_)
        · skip
          refine r_aload_n C (j := 0) (oDec_at oX5_number 54 rfl) rfl rfl ?_
          refine r_getF (k := 0) (b := 1) C oCl5 rfl (by decide) flX5_15 rfl rfl rfl (oDec_at oX5_number 55 rfl) ?_
          refine r_aload_n C (j := 0) (oDec_at oX5_number 56 rfl) rfl rfl ?_
          obtain ⟨v2, ev2⟩ : ∃ z : Int32, (t).1 30 2 = z := ⟨_, rfl⟩
          have gv2 : (t.1 30 2).toInt = v2.toInt := congrArg Int32.toInt (ev2)
          refine r_geti (k := 2) (lo := 0) (hi := 1600) C v2 oCl5 rfl (by decide) flX5_23 rfl rfl (ev2) rfl rfl (oDec_at oX5_number 57 rfl) (fun b3 b3h => ?_)
          refine r_callVi C oCl8 rfl miX8_at mlX5_133 (ct_X8_at l E (t) v2 ) (by decide) rfl rfl rfl (Nat.le_of_ble_eq_true rfl) (oDec_at oX5_number 58 rfl) (fun r5 u4 pu4 fu4 => ?_)
          try dsimp only at pu4
          have rr5 := n_rng r5
          refine r_callSi C miX5_isDigit mlX5_169 (ct_X5_isDigit l E (u4) r5 ) (by decide) rfl rfl rfl (Nat.le_of_ble_eq_true rfl) (oDec_at oX5_number 59 rfl) (fun r7 u6 pu6 fu6 => ?_)
          try dsimp only at pu6
          have rr7 := n_rng r7
          refine r_pc C 119 rfl ?_
          refine r_if_eq C 134 (oDec_at oX5_number 60 rfl) (by decide) (fun cd8 => ?_) (fun cd8 => ?_)
          · skip
            refine r_iload C (j := 4) (oDec_at oX5_number 69 rfl) rfl ?_
            refine r_iload_n C (j := 1) (oDec_at oX5_number 70 rfl) rfl rfl ?_
            refine r_icmp_lt C 146 (oDec_at oX5_number 71 rfl) (by decide) (fun cd9 => ?_) (fun cd9 => ?_)
            · skip
              refine r_aload_n C (j := 0) (oDec_at oX5_number 75 rfl) rfl rfl ?_
              refine r_iconst C (oDec_at oX5_number 76 rfl) (v := k2) (by rw [qk2]; rfl) ?_
              refine r_iload_n C (j := 3) (oDec_at oX5_number 77 rfl) rfl rfl ?_
              refine r_callVi C oCl5 rfl miX5_fail mlX5_62 (ct_X5_fail l E (u6) k2 x3 ) (by decide) rfl rfl rfl (Nat.le_of_ble_eq_true rfl) (oDec_at oX5_number 78 rfl) (fun r11 u10 pu10 fu10 => ?_)
              try dsimp only at pu10
              have rr11 := n_rng r11
              refine r_pop C (oDec_at oX5_number 79 rfl) rfl ?_
              refine r_iconst C (oDec_at oX5_number 80 rfl) (v := km1) (by rw [qkm1]; rfl) ?_
              refine r_pc C 154 rfl ?_
              exact r_iret C (oDec_at oX5_number 81 rfl) ⟨_, rfl, by omega⟩
            · skip
              refine r_iload C (j := 4) (oDec_at oX5_number 72 rfl) rfl ?_
              refine r_iload_n C (j := 2) (oDec_at oX5_number 73 rfl) rfl rfl ?_
              refine r_icmp_le C 155 (oDec_at oX5_number 74 rfl) (by decide) (fun cd12 => ?_) (fun cd12 => ?_)
              · skip
                refine r_aload_n C (j := 0) (oDec_at oX5_number 82 rfl) rfl rfl ?_
                refine r_aload_n C (j := 0) (oDec_at oX5_number 83 rfl) rfl rfl ?_
                refine r_geti (k := 2) (lo := 0) (hi := 1600) C v2 oCl5 rfl (by decide) flX5_23 rfl rfl (((fu6 30 2 rfl).1).trans (((fu4 30 2 rfl).1).trans (ev2))) rfl rfl (oDec_at oX5_number 84 rfl) (fun _ _ => ?_)
                refine r_puti (k := 3) (lo := (-1)) (hi := 1600) C oCl5 rfl (by decide) flX5_26 rfl rfl rfl rfl rfl rfl rfl rfl ⟨by omega, by omega⟩ (oDec_at oX5_number 85 rfl) ?_
                refine r_iload C (j := 4) (oDec_at oX5_number 86 rfl) rfl ?_
                exact r_iret C (oDec_at oX5_number 87 rfl) ⟨_, rfl, by omega⟩
              · skip
                refine r_aload_n C (j := 0) (oDec_at oX5_number 75 rfl) rfl rfl ?_
                refine r_iconst C (oDec_at oX5_number 76 rfl) (v := k2) (by rw [qk2]; rfl) ?_
                refine r_iload_n C (j := 3) (oDec_at oX5_number 77 rfl) rfl rfl ?_
                refine r_callVi C oCl5 rfl miX5_fail mlX5_62 (ct_X5_fail l E (u6) k2 x3 ) (by decide) rfl rfl rfl (Nat.le_of_ble_eq_true rfl) (oDec_at oX5_number 78 rfl) (fun r14 u13 pu13 fu13 => ?_)
                try dsimp only at pu13
                have rr14 := n_rng r14
                refine r_pop C (oDec_at oX5_number 79 rfl) rfl ?_
                refine r_iconst C (oDec_at oX5_number 80 rfl) (v := km1) (by rw [qkm1]; rfl) ?_
                refine r_pc C 154 rfl ?_
                exact r_iret C (oDec_at oX5_number 81 rfl) ⟨_, rfl, by omega⟩
          · skip
            refine r_aload_n C (j := 0) (oDec_at oX5_number 61 rfl) rfl rfl ?_
            refine r_iconst C (oDec_at oX5_number 62 rfl) (v := k1) (by rw [qk1]; rfl) ?_
            refine r_aload_n C (j := 0) (oDec_at oX5_number 63 rfl) rfl rfl ?_
            refine r_geti (k := 2) (lo := 0) (hi := 1600) C v2 oCl5 rfl (by decide) flX5_23 rfl rfl (((fu6 30 2 rfl).1).trans (((fu4 30 2 rfl).1).trans (ev2))) rfl rfl (oDec_at oX5_number 64 rfl) (fun _ _ => ?_)
            refine r_callVi C oCl5 rfl miX5_fail mlX5_62 (ct_X5_fail l E (u6) k1 v2 ) (by decide) rfl rfl rfl (Nat.le_of_ble_eq_true rfl) (oDec_at oX5_number 65 rfl) (fun r16 u15 pu15 fu15 => ?_)
            try dsimp only at pu15
            have rr16 := n_rng r16
            refine r_pop C (oDec_at oX5_number 66 rfl) rfl ?_
            refine r_pc C 132 rfl ?_
            refine r_iconst C (oDec_at oX5_number 67 rfl) (v := km1) (by rw [qkm1]; rfl) ?_
            exact r_iret C (oDec_at oX5_number 68 rfl) ⟨_, rfl, by omega⟩
        · skip
          refine r_aload_n C (j := 0) (oDec_at oX5_number 27 rfl) rfl rfl ?_
          refine r_getF (k := 0) (b := 1) C oCl5 rfl (by decide) flX5_15 rfl rfl rfl (oDec_at oX5_number 28 rfl) ?_
          refine r_aload_n C (j := 0) (oDec_at oX5_number 29 rfl) rfl rfl ?_
          obtain ⟨v17, ev17⟩ : ∃ z : Int32, (t).1 30 2 = z := ⟨_, rfl⟩
          have gv17 : (t.1 30 2).toInt = v17.toInt := congrArg Int32.toInt (ev17)
          refine r_geti (k := 2) (lo := 0) (hi := 1600) C v17 oCl5 rfl (by decide) flX5_23 rfl rfl (ev17) rfl rfl (oDec_at oX5_number 30 rfl) (fun b18 b18h => ?_)
          refine r_callVi C oCl8 rfl miX8_at mlX5_133 (ct_X8_at l E (t) v17 ) (by decide) rfl rfl rfl (Nat.le_of_ble_eq_true rfl) (oDec_at oX5_number 31 rfl) (fun r20 u19 pu19 fu19 => ?_)
          try dsimp only at pu19
          have rr20 := n_rng r20
          refine r_callSi C miX5_isDigit mlX5_169 (ct_X5_isDigit l E (u19) r20 ) (by decide) rfl rfl rfl (Nat.le_of_ble_eq_true rfl) (oDec_at oX5_number 32 rfl) (fun r22 u21 pu21 fu21 => ?_)
          try dsimp only at pu21
          have rr22 := n_rng r22
          refine r_pc C 64 rfl ?_
          refine r_if_eq C 105 (oDec_at oX5_number 33 rfl) (by decide) (fun cd23 => ?_) (fun cd23 => ?_)
          · skip
            refine r_aload_n C (j := 0) (oDec_at oX5_number 54 rfl) rfl rfl ?_
            refine r_getF (k := 0) (b := 1) C oCl5 rfl (by decide) flX5_15 rfl rfl rfl (oDec_at oX5_number 55 rfl) ?_
            refine r_aload_n C (j := 0) (oDec_at oX5_number 56 rfl) rfl rfl ?_
            refine r_geti (k := 2) (lo := 0) (hi := 1600) C v17 oCl5 rfl (by decide) flX5_23 rfl rfl (((fu21 30 2 rfl).1).trans (((fu19 30 2 rfl).1).trans (ev17))) rfl rfl (oDec_at oX5_number 57 rfl) (fun _ _ => ?_)
            have lk24 : ((u21).1 1 1).toInt = (t.1 1 1).toInt := congrArg Int32.toInt (((fu21 1 1 rfl).1).trans ((fu19 1 1 rfl).1))
            refine r_callVi C oCl8 rfl miX8_at mlX5_133 (ct_X8_at l E (u21) v17 ) (by decide) rfl rfl rfl (Nat.le_of_ble_eq_true rfl) (oDec_at oX5_number 58 rfl) (fun r26 u25 pu25 fu25 => ?_)
            try dsimp only at pu25
            have rr26 := n_rng r26
            refine r_callSi C miX5_isDigit mlX5_169 (ct_X5_isDigit l E (u25) r26 ) (by decide) rfl rfl rfl (Nat.le_of_ble_eq_true rfl) (oDec_at oX5_number 59 rfl) (fun r28 u27 pu27 fu27 => ?_)
            try dsimp only at pu27
            have rr28 := n_rng r28
            refine r_pc C 119 rfl ?_
            refine r_if_eq C 134 (oDec_at oX5_number 60 rfl) (by decide) (fun cd29 => ?_) (fun cd29 => ?_)
            · skip
              refine r_iload C (j := 4) (oDec_at oX5_number 69 rfl) rfl ?_
              refine r_iload_n C (j := 1) (oDec_at oX5_number 70 rfl) rfl rfl ?_
              refine r_icmp_lt C 146 (oDec_at oX5_number 71 rfl) (by decide) (fun cd30 => ?_) (fun cd30 => ?_)
              · skip
                refine r_aload_n C (j := 0) (oDec_at oX5_number 75 rfl) rfl rfl ?_
                refine r_iconst C (oDec_at oX5_number 76 rfl) (v := k2) (by rw [qk2]; rfl) ?_
                refine r_iload_n C (j := 3) (oDec_at oX5_number 77 rfl) rfl rfl ?_
                refine r_callVi C oCl5 rfl miX5_fail mlX5_62 (ct_X5_fail l E (u27) k2 x3 ) (by decide) rfl rfl rfl (Nat.le_of_ble_eq_true rfl) (oDec_at oX5_number 78 rfl) (fun r32 u31 pu31 fu31 => ?_)
                try dsimp only at pu31
                have rr32 := n_rng r32
                refine r_pop C (oDec_at oX5_number 79 rfl) rfl ?_
                refine r_iconst C (oDec_at oX5_number 80 rfl) (v := km1) (by rw [qkm1]; rfl) ?_
                refine r_pc C 154 rfl ?_
                exact r_iret C (oDec_at oX5_number 81 rfl) ⟨_, rfl, by omega⟩
              · skip
                refine r_iload C (j := 4) (oDec_at oX5_number 72 rfl) rfl ?_
                refine r_iload_n C (j := 2) (oDec_at oX5_number 73 rfl) rfl rfl ?_
                refine r_icmp_le C 155 (oDec_at oX5_number 74 rfl) (by decide) (fun cd33 => ?_) (fun cd33 => ?_)
                · skip
                  refine r_aload_n C (j := 0) (oDec_at oX5_number 82 rfl) rfl rfl ?_
                  refine r_aload_n C (j := 0) (oDec_at oX5_number 83 rfl) rfl rfl ?_
                  refine r_geti (k := 2) (lo := 0) (hi := 1600) C v17 oCl5 rfl (by decide) flX5_23 rfl rfl (((fu27 30 2 rfl).1).trans (((fu25 30 2 rfl).1).trans (((fu21 30 2 rfl).1).trans (((fu19 30 2 rfl).1).trans (ev17))))) rfl rfl (oDec_at oX5_number 84 rfl) (fun _ _ => ?_)
                  refine r_puti (k := 3) (lo := (-1)) (hi := 1600) C oCl5 rfl (by decide) flX5_26 rfl rfl rfl rfl rfl rfl rfl rfl ⟨by omega, by omega⟩ (oDec_at oX5_number 85 rfl) ?_
                  refine r_iload C (j := 4) (oDec_at oX5_number 86 rfl) rfl ?_
                  exact r_iret C (oDec_at oX5_number 87 rfl) ⟨_, rfl, by omega⟩
                · skip
                  refine r_aload_n C (j := 0) (oDec_at oX5_number 75 rfl) rfl rfl ?_
                  refine r_iconst C (oDec_at oX5_number 76 rfl) (v := k2) (by rw [qk2]; rfl) ?_
                  refine r_iload_n C (j := 3) (oDec_at oX5_number 77 rfl) rfl rfl ?_
                  refine r_callVi C oCl5 rfl miX5_fail mlX5_62 (ct_X5_fail l E (u27) k2 x3 ) (by decide) rfl rfl rfl (Nat.le_of_ble_eq_true rfl) (oDec_at oX5_number 78 rfl) (fun r35 u34 pu34 fu34 => ?_)
                  try dsimp only at pu34
                  have rr35 := n_rng r35
                  refine r_pop C (oDec_at oX5_number 79 rfl) rfl ?_
                  refine r_iconst C (oDec_at oX5_number 80 rfl) (v := km1) (by rw [qkm1]; rfl) ?_
                  refine r_pc C 154 rfl ?_
                  exact r_iret C (oDec_at oX5_number 81 rfl) ⟨_, rfl, by omega⟩
            · skip
              refine r_aload_n C (j := 0) (oDec_at oX5_number 61 rfl) rfl rfl ?_
              refine r_iconst C (oDec_at oX5_number 62 rfl) (v := k1) (by rw [qk1]; rfl) ?_
              refine r_aload_n C (j := 0) (oDec_at oX5_number 63 rfl) rfl rfl ?_
              refine r_geti (k := 2) (lo := 0) (hi := 1600) C v17 oCl5 rfl (by decide) flX5_23 rfl rfl (((fu27 30 2 rfl).1).trans (((fu25 30 2 rfl).1).trans (((fu21 30 2 rfl).1).trans (((fu19 30 2 rfl).1).trans (ev17))))) rfl rfl (oDec_at oX5_number 64 rfl) (fun _ _ => ?_)
              refine r_callVi C oCl5 rfl miX5_fail mlX5_62 (ct_X5_fail l E (u27) k1 v17 ) (by decide) rfl rfl rfl (Nat.le_of_ble_eq_true rfl) (oDec_at oX5_number 65 rfl) (fun r37 u36 pu36 fu36 => ?_)
              try dsimp only at pu36
              have rr37 := n_rng r37
              refine r_pop C (oDec_at oX5_number 66 rfl) rfl ?_
              refine r_pc C 132 rfl ?_
              refine r_iconst C (oDec_at oX5_number 67 rfl) (v := km1) (by rw [qkm1]; rfl) ?_
              exact r_iret C (oDec_at oX5_number 68 rfl) ⟨_, rfl, by omega⟩
          · skip
            refine r_bipush C (oDec_at oX5_number 34 rfl) (v := k10) (by rw [qk10]; rfl) ?_
            refine r_iload C (j := 4) (oDec_at oX5_number 35 rfl) rfl ?_
            obtain ⟨v38, ev38⟩ : ∃ z : Int32, z = k10 * x4 := ⟨_, rfl⟩
            have rv38 := n_rng v38
            refine r_imul C v38 (oDec_at oX5_number 36 rfl) ev38 ?_
            refine r_aload_n C (j := 0) (oDec_at oX5_number 37 rfl) rfl rfl ?_
            refine r_getF (k := 0) (b := 1) C oCl5 rfl (by decide) flX5_15 rfl rfl rfl (oDec_at oX5_number 38 rfl) ?_
            refine r_aload_n C (j := 0) (oDec_at oX5_number 39 rfl) rfl rfl ?_
            refine r_pc C 77 rfl ?_
            refine r_geti (k := 2) (lo := 0) (hi := 1600) C v17 oCl5 rfl (by decide) flX5_23 rfl rfl (((fu21 30 2 rfl).1).trans (((fu19 30 2 rfl).1).trans (ev17))) rfl rfl (oDec_at oX5_number 40 rfl) (fun _ _ => ?_)
            have lk39 : ((u21).1 1 1).toInt = (t.1 1 1).toInt := congrArg Int32.toInt (((fu21 1 1 rfl).1).trans ((fu19 1 1 rfl).1))
            refine r_callVi C oCl8 rfl miX8_at mlX5_133 (ct_X8_at l E (u21) v17 ) (by decide) rfl rfl rfl (Nat.le_of_ble_eq_true rfl) (oDec_at oX5_number 41 rfl) (fun r41 u40 pu40 fu40 => ?_)
            try dsimp only at pu40
            have rr41 := n_rng r41
            obtain ⟨v42, ev42⟩ : ∃ z : Int32, z = v38 + r41 := ⟨_, rfl⟩
            have rv42 := n_rng v42
            refine r_iadd C v42 (oDec_at oX5_number 42 rfl) ev42 ?_
            refine r_bipush C (oDec_at oX5_number 43 rfl) (v := k48) (by rw [qk48]; rfl) ?_
            obtain ⟨v43, ev43⟩ : ∃ z : Int32, z = v42 - k48 := ⟨_, rfl⟩
            have rv43 := n_rng v43
            refine r_isub C v43 (oDec_at oX5_number 44 rfl) ev43 ?_
            refine r_istore C (lv' := [(0, .ref (oad E 30)), (1, .int a1), (2, .int a2), (3, .int x3), (4, .int v43), (5, .int x5)]) [1, 2, 3, 4, 0, 5] (oDec_at oX5_number 45 rfl) (by decide) rfl ?_
            refine r_pc C 89 rfl ?_
            refine r_aload_n C (j := 0) (oDec_at oX5_number 46 rfl) rfl rfl ?_
            refine r_dup C (oDec_at oX5_number 47 rfl) rfl ?_
            refine r_geti (k := 2) (lo := 0) (hi := 1600) C v17 oCl5 rfl (by decide) flX5_23 rfl rfl (((fu40 30 2 rfl).1).trans (((fu21 30 2 rfl).1).trans (((fu19 30 2 rfl).1).trans (ev17)))) rfl rfl (oDec_at oX5_number 48 rfl) (fun _ _ => ?_)
            refine r_iconst C (oDec_at oX5_number 49 rfl) (v := k1) (by rw [qk1]; rfl) ?_
            obtain ⟨v44, ev44⟩ : ∃ z : Int32, z = v17 + k1 := ⟨_, rfl⟩
            have hv44 : v44.toInt = v17.toInt + k1.toInt := n_add ev44 (by omega) (by omega)
            refine r_iadd C v44 (oDec_at oX5_number 50 rfl) ev44 ?_
            refine r_puti (k := 2) (lo := 0) (hi := 1600) C oCl5 rfl (by decide) flX5_23 rfl rfl rfl rfl rfl rfl rfl rfl ⟨by omega, by omega⟩ (oDec_at oX5_number 51 rfl) ?_
            refine r_pc C 99 rfl ?_
            obtain ⟨v45, ev45⟩ : ∃ z : Int32, x5 + Int32.ofInt 1 = z := ⟨_, rfl⟩
            have hv45 : v45.toInt = x5.toInt + 1 := n_inc ev45 (by decide) (by omega) (by omega)
            refine r_iinc C (j := 5) (lv' := [(0, .ref (oad E 30)), (1, .int a1), (2, .int a2), (3, .int x3), (4, .int v43), (5, .int v45)]) v45 [1, 2, 3, 4, 5, 0] (oDec_at oX5_number 52 rfl) rfl ev45 (by decide) rfl ?_
            refine r_goto C (tgt := 44) (oDec_at oX5_number 53 rfl) (by decide) ?_
            exact (ih (n - 1) (by omega)) ((pI u40 30 2 v44)) x3 v43 v45  (by omega) (by omega)
  refine r_aload_n C (j := 0) (oDec_at oX5_number 0 rfl) rfl rfl ?_
  refine r_callVi C oCl5 rfl miX5_peek mlX5_43 (ct_X5_peek l E (s)  ) (by decide) rfl rfl rfl (Nat.le_of_ble_eq_true rfl) (oDec_at oX5_number 1 rfl) (fun r47 u46 pu46 fu46 => ?_)
  try dsimp only at pu46
  have rr47 := n_rng r47
  refine r_callSi C miX5_isDigit mlX5_169 (ct_X5_isDigit l E (u46) r47 ) (by decide) rfl rfl rfl (Nat.le_of_ble_eq_true rfl) (oDec_at oX5_number 2 rfl) (fun r49 u48 pu48 fu48 => ?_)
  try dsimp only at pu48
  have rr49 := n_rng r49
  refine r_if_eq C 21 (oDec_at oX5_number 3 rfl) (by decide) (fun cd50 => ?_) (fun cd50 => ?_)
  · skip
    refine r_aload_n C (j := 0) (oDec_at oX5_number 9 rfl) rfl rfl ?_
    refine r_iconst C (oDec_at oX5_number 10 rfl) (v := k1) (by rw [qk1]; rfl) ?_
    refine r_aload_n C (j := 0) (oDec_at oX5_number 11 rfl) rfl rfl ?_
    obtain ⟨v51, ev51⟩ : ∃ z : Int32, (u48).1 30 2 = z := ⟨_, rfl⟩
    have gv51 : (u46.1 30 2).toInt = v51.toInt := congrArg Int32.toInt (((fu48 30 2 rfl).1).symm.trans ev51)
    refine r_geti (k := 2) (lo := 0) (hi := 1600) C v51 oCl5 rfl (by decide) flX5_23 rfl rfl (ev51) rfl rfl (oDec_at oX5_number 12 rfl) (fun b52 b52h => ?_)
    refine r_callVi C oCl5 rfl miX5_fail mlX5_62 (ct_X5_fail l E (u48) k1 v51 ) (by decide) rfl rfl rfl (Nat.le_of_ble_eq_true rfl) (oDec_at oX5_number 13 rfl) (fun r54 u53 pu53 fu53 => ?_)
    try dsimp only at pu53
    have rr54 := n_rng r54
    refine r_pop C (oDec_at oX5_number 14 rfl) rfl ?_
    refine r_pc C 31 rfl ?_
    refine r_iconst C (oDec_at oX5_number 15 rfl) (v := km1) (by rw [qkm1]; rfl) ?_
    exact r_iret C (oDec_at oX5_number 16 rfl) ⟨_, rfl, by omega⟩
  · skip
    refine r_aload_n C (j := 0) (oDec_at oX5_number 4 rfl) rfl rfl ?_
    obtain ⟨v55, ev55⟩ : ∃ z : Int32, (u48).1 30 2 = z := ⟨_, rfl⟩
    have gv55 : (u46.1 30 2).toInt = v55.toInt := congrArg Int32.toInt (((fu48 30 2 rfl).1).symm.trans ev55)
    refine r_geti (k := 2) (lo := 0) (hi := 1600) C v55 oCl5 rfl (by decide) flX5_23 rfl rfl (ev55) rfl rfl (oDec_at oX5_number 5 rfl) (fun b56 b56h => ?_)
    refine r_aload_n C (j := 0) (oDec_at oX5_number 6 rfl) rfl rfl ?_
    obtain ⟨v57, ev57⟩ : ∃ z : Int32, (u48).1 30 3 = z := ⟨_, rfl⟩
    have gv57 : (s.1 30 3).toInt = v57.toInt := congrArg Int32.toInt ((((fu48 30 3 rfl).1).trans ((fu46 30 3 rfl).1)).symm.trans ev57)
    refine r_geti (k := 3) (lo := (-1)) (hi := 1600) C v57 oCl5 rfl (by decide) flX5_26 rfl rfl (ev57) rfl rfl (oDec_at oX5_number 7 rfl) (fun b58 b58h => ?_)
    refine r_icmp_ne C 33 (oDec_at oX5_number 8 rfl) (by decide) (fun cd59 => ?_) (fun cd59 => ?_)
    · skip
      refine r_aload_n C (j := 0) (oDec_at oX5_number 17 rfl) rfl rfl ?_
      refine r_geti (k := 2) (lo := 0) (hi := 1600) C v55 oCl5 rfl (by decide) flX5_23 rfl rfl (ev55) rfl rfl (oDec_at oX5_number 18 rfl) (fun _ _ => ?_)
      refine r_istore_n C (lv' := [(0, .ref (oad E 30)), (1, .int a1), (2, .int a2), (3, .int v55)]) [1, 2, 3, 0] (oDec_at oX5_number 19 rfl) rfl (by decide) rfl ?_
      refine r_iconst C (oDec_at oX5_number 20 rfl) (v := k0) (by rw [qk0]; rfl) ?_
      refine r_istore C (lv' := [(0, .ref (oad E 30)), (1, .int a1), (2, .int a2), (3, .int v55), (4, .int k0)]) [1, 2, 3, 4, 0] (oDec_at oX5_number 21 rfl) (by decide) rfl ?_
      refine r_iconst C (oDec_at oX5_number 22 rfl) (v := k0) (by rw [qk0]; rfl) ?_
      refine r_pc C 42 rfl ?_
      refine r_istore C (lv' := [(0, .ref (oad E 30)), (1, .int a1), (2, .int a2), (3, .int v55), (4, .int k0), (5, .int k0)]) [1, 2, 3, 4, 5, 0] (oDec_at oX5_number 23 rfl) (by decide) rfl ?_
      exact (key (5 - k0.toInt).toNat) (u48) v55 k0 k0  (by omega) (by omega)
    · skip
      refine r_aload_n C (j := 0) (oDec_at oX5_number 9 rfl) rfl rfl ?_
      refine r_iconst C (oDec_at oX5_number 10 rfl) (v := k1) (by rw [qk1]; rfl) ?_
      refine r_aload_n C (j := 0) (oDec_at oX5_number 11 rfl) rfl rfl ?_
      refine r_geti (k := 2) (lo := 0) (hi := 1600) C v55 oCl5 rfl (by decide) flX5_23 rfl rfl (ev55) rfl rfl (oDec_at oX5_number 12 rfl) (fun _ _ => ?_)
      refine r_callVi C oCl5 rfl miX5_fail mlX5_62 (ct_X5_fail l E (u48) k1 v55 ) (by decide) rfl rfl rfl (Nat.le_of_ble_eq_true rfl) (oDec_at oX5_number 13 rfl) (fun r61 u60 pu60 fu60 => ?_)
      try dsimp only at pu60
      have rr61 := n_rng r61
      refine r_pop C (oDec_at oX5_number 14 rfl) rfl ?_
      refine r_pc C 31 rfl ?_
      refine r_iconst C (oDec_at oX5_number 15 rfl) (v := km1) (by rw [qkm1]; rfl) ?_
      exact r_iret C (oDec_at oX5_number 16 rfl) ⟨_, rfl, by omega⟩
set_option maxHeartbeats 4000000 in
set_option maxRecDepth 100000 in
theorem ct_X5_measure (l : Launch) (E : oE) (s : oS)   : oMet l 3 yX5_measure cX5_measure 2 (some .boolean) [(0, 6), (5, 2), (5, 3), (5, 8), (5, 9)] E s [.ref (oad E 30)] (oPi (fun r u => (0 ≤ r.toInt ∧ r.toInt ≤ 1))) := by
  refine oMet.of (lv := [(0, .ref (oad E 30))]) (by decide +kernel) (Nat.le_of_ble_eq_true rfl) rfl (fun J C hT => ?_)
  have C : oC l 3 cX5_measure RX5 2 (some .boolean) [(0, 6), (5, 2), (5, 3), (5, 8), (5, 9)] E s (oPi (fun r u => (0 ≤ r.toInt ∧ r.toInt ≤ 1))) J := C
  obtain ⟨km1, qkm1⟩ : ∃ z : Int32, z = (-1) := ⟨_, rfl⟩
  have ekm1 : km1.toInt = (-1) := by rw [qkm1]; rfl
  obtain ⟨k0, qk0⟩ : ∃ z : Int32, z = 0 := ⟨_, rfl⟩
  have ek0 : k0.toInt = 0 := by rw [qk0]; rfl
  obtain ⟨k1, qk1⟩ : ∃ z : Int32, z = 1 := ⟨_, rfl⟩
  have ek1 : k1.toInt = 1 := by rw [qk1]; rfl
  obtain ⟨k2, qk2⟩ : ∃ z : Int32, z = 2 := ⟨_, rfl⟩
  have ek2 : k2.toInt = 2 := by rw [qk2]; rfl
  obtain ⟨k12, qk12⟩ : ∃ z : Int32, z = 12 := ⟨_, rfl⟩
  have ek12 : k12.toInt = 12 := by rw [qk12]; rfl
  refine r_aload_n C (j := 0) (oDec_at oX5_measure 0 rfl) rfl rfl ?_
  refine r_iconst C (oDec_at oX5_measure 1 rfl) (v := k2) (by rw [qk2]; rfl) ?_
  refine r_bipush C (oDec_at oX5_measure 2 rfl) (v := k12) (by rw [qk12]; rfl) ?_
  refine r_callVi C oCl5 rfl miX5_number mlX5_70 (ct_X5_number l E (s) k2 k12 ) (by decide) rfl rfl rfl (Nat.le_of_ble_eq_true rfl) (oDec_at oX5_measure 3 rfl) (fun r2 u1 pu1 fu1 => ?_)
  try dsimp only at pu1
  have rr2 := n_rng r2
  refine r_istore_n C (lv' := [(0, .ref (oad E 30)), (1, .int r2)]) [1, 0] (oDec_at oX5_measure 4 rfl) rfl (by decide) rfl ?_
  refine r_iload_n C (j := 1) (oDec_at oX5_measure 5 rfl) rfl rfl ?_
  refine r_pc C 9 rfl ?_
  refine r_iconst C (oDec_at oX5_measure 6 rfl) (v := km1) (by rw [qkm1]; rfl) ?_
  refine r_icmp_ne C 15 (oDec_at oX5_measure 7 rfl) (by decide) (fun cd3 => ?_) (fun cd3 => ?_)
  · skip
    refine r_aload_n C (j := 0) (oDec_at oX5_measure 10 rfl) rfl rfl ?_
    refine r_getS (k := 1) (q2 := 0) C oCl5 rfl (by decide) flX5_19 rfl rfl rfl ks1 (oDec_at oX5_measure 11 rfl) (fun b4 rb4 mb4 hkb4 => ?_)
    refine r_iload_n C (j := 1) (oDec_at oX5_measure 12 rfl) rfl rfl ?_
    refine r_putiN (k := 6) (lo := 2) (hi := 12) C oCl0 hkb4 (by decide) flX5_125 rfl rfl rfl rfl rfl rfl rfl rfl ⟨by omega, by omega⟩ (oDec_at oX5_measure 13 rfl) ?_
    refine r_iconst C (oDec_at oX5_measure 14 rfl) (v := k1) (by rw [qk1]; rfl) ?_
    exact r_zret C (n_bool (by omega)) (oDec_at oX5_measure 15 rfl) ⟨_, rfl, by omega⟩
  · skip
    refine r_iconst C (oDec_at oX5_measure 8 rfl) (v := k0) (by rw [qk0]; rfl) ?_
    exact r_zret C (n_bool (by omega)) (oDec_at oX5_measure 9 rfl) ⟨_, rfl, by omega⟩
set_option maxHeartbeats 4000000 in
set_option maxRecDepth 100000 in
theorem ct_X5_noteStatement (l : Launch) (E : oE) (s : oS) (c1 : Nat) (hk1 : okd c1 = 4)  : oMet l 7 yX5_noteStatement cX5_noteStatement 4 (some .boolean) [(4, 4), (4, 5), (4, 6), (4, 7), (5, 2), (5, 3), (5, 4), (5, 8), (5, 9), (16, 9999), (17, 9999), (18, 9999), (19, 9999)] E s [.ref (oad E 30), .ref (oad E c1)] (oPi (fun r u => (0 ≤ r.toInt ∧ r.toInt ≤ 1))) := by
  refine oMet.of (lv := [(0, .ref (oad E 30)), (1, .ref (oad E c1))]) (by decide +kernel) (Nat.le_of_ble_eq_true rfl) rfl (fun J C hT => ?_)
  have C : oC l 7 cX5_noteStatement RX5 4 (some .boolean) [(4, 4), (4, 5), (4, 6), (4, 7), (5, 2), (5, 3), (5, 4), (5, 8), (5, 9), (16, 9999), (17, 9999), (18, 9999), (19, 9999)] E s (oPi (fun r u => (0 ≤ r.toInt ∧ r.toInt ≤ 1))) J := C
  obtain ⟨km1, qkm1⟩ : ∃ z : Int32, z = (-1) := ⟨_, rfl⟩
  have ekm1 : km1.toInt = (-1) := by rw [qkm1]; rfl
  obtain ⟨k0, qk0⟩ : ∃ z : Int32, z = 0 := ⟨_, rfl⟩
  have ek0 : k0.toInt = 0 := by rw [qk0]; rfl
  obtain ⟨k1, qk1⟩ : ∃ z : Int32, z = 1 := ⟨_, rfl⟩
  have ek1 : k1.toInt = 1 := by rw [qk1]; rfl
  obtain ⟨k2, qk2⟩ : ∃ z : Int32, z = 2 := ⟨_, rfl⟩
  have ek2 : k2.toInt = 2 := by rw [qk2]; rfl
  obtain ⟨k16, qk16⟩ : ∃ z : Int32, z = 16 := ⟨_, rfl⟩
  have ek16 : k16.toInt = 16 := by rw [qk16]; rfl
  obtain ⟨k28, qk28⟩ : ∃ z : Int32, z = 28 := ⟨_, rfl⟩
  have ek28 : k28.toInt = 28 := by rw [qk28]; rfl
  obtain ⟨k59, qk59⟩ : ∃ z : Int32, z = 59 := ⟨_, rfl⟩
  have ek59 : k59.toInt = 59 := by rw [qk59]; rfl
  obtain ⟨k96, qk96⟩ : ∃ z : Int32, z = 96 := ⟨_, rfl⟩
  have ek96 : k96.toInt = 96 := by rw [qk96]; rfl
  refine r_iconst C (oDec_at oX5_noteStatement 0 rfl) (v := km1) (by rw [qkm1]; rfl) ?_
  refine r_istore_n C (lv' := [(0, .ref (oad E 30)), (1, .ref (oad E c1)), (2, .int km1)]) [1, 2, 0] (oDec_at oX5_noteStatement 1 rfl) rfl (by decide) rfl ?_
  refine r_aload_n C (j := 0) (oDec_at oX5_noteStatement 2 rfl) rfl rfl ?_
  refine r_iconst C (oDec_at oX5_noteStatement 3 rfl) (v := k0) (by rw [qk0]; rfl) ?_
  refine r_callVi C oCl5 rfl miX5_accept mlX5_66 (ct_X5_accept l E (s) k0 ) (by decide) rfl rfl rfl (Nat.le_of_ble_eq_true rfl) (oDec_at oX5_noteStatement 4 rfl) (fun r2 u1 pu1 fu1 => ?_)
  try dsimp only at pu1
  have rr2 := n_rng r2
  refine r_if_eq C 25 (oDec_at oX5_noteStatement 5 rfl) (by decide) (fun cd3 => ?_) (fun cd3 => ?_)
  · skip
    refine r_aload_n C (j := 0) (oDec_at oX5_noteStatement 16 rfl) rfl rfl ?_
    refine r_iconst C (oDec_at oX5_noteStatement 17 rfl) (v := k2) (by rw [qk2]; rfl) ?_
    refine r_callVi C oCl5 rfl miX5_expect mlX5_74 (ct_X5_expect l E (u1) k2 ) (by decide) rfl rfl rfl (Nat.le_of_ble_eq_true rfl) (oDec_at oX5_noteStatement 18 rfl) (fun r5 u4 pu4 fu4 => ?_)
    try dsimp only at pu4
    have rr5 := n_rng r5
    refine r_if_ne C 35 (oDec_at oX5_noteStatement 19 rfl) (by decide) (fun cd6 => ?_) (fun cd6 => ?_)
    · skip
      refine r_aload_n C (j := 0) (oDec_at oX5_noteStatement 22 rfl) rfl rfl ?_
      refine r_iconst C (oDec_at oX5_noteStatement 23 rfl) (v := k1) (by rw [qk1]; rfl) ?_
      refine r_callVi C oCl5 rfl miX5_expect mlX5_74 (ct_X5_expect l E (u4) k1 ) (by decide) rfl rfl rfl (Nat.le_of_ble_eq_true rfl) (oDec_at oX5_noteStatement 24 rfl) (fun r8 u7 pu7 fu7 => ?_)
      try dsimp only at pu7
      have rr8 := n_rng r8
      refine r_if_ne C 45 (oDec_at oX5_noteStatement 25 rfl) (by decide) (fun cd9 => ?_) (fun cd9 => ?_)
      · skip
        refine r_aload_n C (j := 0) (oDec_at oX5_noteStatement 28 rfl) rfl rfl ?_
        refine r_iconst C (oDec_at oX5_noteStatement 29 rfl) (v := k1) (by rw [qk1]; rfl) ?_
        refine r_bipush C (oDec_at oX5_noteStatement 30 rfl) (v := k16) (by rw [qk16]; rfl) ?_
        refine r_bipush C (oDec_at oX5_noteStatement 31 rfl) (v := k96) (by rw [qk96]; rfl) ?_
        refine r_aload_n C (j := 1) (oDec_at oX5_noteStatement 32 rfl) rfl rfl ?_
        obtain ⟨v10, ev10⟩ : ∃ z : Int32, (u7).1 c1 5 = z := ⟨_, rfl⟩
        have gv10 : (s.1 c1 5).toInt = v10.toInt := congrArg Int32.toInt ((((fu7 c1 5 (by rw [hk1]; rfl)).1).trans (((fu4 c1 5 (by rw [hk1]; rfl)).1).trans ((fu1 c1 5 (by rw [hk1]; rfl)).1))).symm.trans ev10)
        refine r_getiN (k := 5) (lo := 0) (hi := 96) C v10 oCl4 hk1 (by decide) flX5_77 rfl rfl (ev10) rfl rfl (oDec_at oX5_noteStatement 33 rfl) (fun b11 b11h => ?_)
        refine r_pc C 55 rfl ?_
        obtain ⟨v12, ev12⟩ : ∃ z : Int32, z = k96 - v10 := ⟨_, rfl⟩
        have hv12 : v12.toInt = k96.toInt - v10.toInt := n_sub ev12 (by omega) (by omega)
        refine r_isub C v12 (oDec_at oX5_noteStatement 34 rfl) ev12 ?_
        refine r_callSi C miJ9_min_7cf53 mlX5_80 (ct_J9_min_7cf53 l E (u7) k16 v12 ) (by decide) rfl rfl rfl (Nat.le_of_ble_eq_true rfl) (oDec_at oX5_noteStatement 35 rfl) (fun r14 u13 pu13 fu13 => ?_)
        try dsimp only at pu13
        have rr14 := n_rng r14
        refine r_callVi C oCl5 rfl miX5_number mlX5_70 (ct_X5_number l E (u13) k1 r14 ) (by decide) rfl rfl rfl (Nat.le_of_ble_eq_true rfl) (oDec_at oX5_noteStatement 36 rfl) (fun r16 u15 pu15 fu15 => ?_)
        try dsimp only at pu15
        have rr16 := n_rng r16
        refine r_istore_n C (lv' := [(0, .ref (oad E 30)), (1, .ref (oad E c1)), (2, .int km1), (3, .int r16)]) [1, 2, 3, 0] (oDec_at oX5_noteStatement 37 rfl) rfl (by decide) rfl ?_
        refine r_iload_n C (j := 3) (oDec_at oX5_noteStatement 38 rfl) rfl rfl ?_
        refine r_iconst C (oDec_at oX5_noteStatement 39 rfl) (v := km1) (by rw [qkm1]; rfl) ?_
        refine r_pc C 65 rfl ?_
        refine r_icmp_eq C 90 (oDec_at oX5_noteStatement 40 rfl) (by decide) (fun cd17 => ?_) (fun cd17 => ?_)
        · skip
          refine r_iconst C (oDec_at oX5_noteStatement 52 rfl) (v := k0) (by rw [qk0]; rfl) ?_
          exact r_zret C (n_bool (by omega)) (oDec_at oX5_noteStatement 53 rfl) ⟨_, rfl, by omega⟩
        · skip
          refine r_aload_n C (j := 1) (oDec_at oX5_noteStatement 41 rfl) rfl rfl ?_
          refine r_iload_n C (j := 2) (oDec_at oX5_noteStatement 42 rfl) rfl rfl ?_
          refine r_iload_n C (j := 3) (oDec_at oX5_noteStatement 43 rfl) rfl rfl ?_
          have lk18 : ((u15).1 c1 4).toInt = (s.1 c1 4).toInt := congrArg Int32.toInt (((fu15 c1 4 (by rw [hk1]; rfl)).1).trans (((fu13 c1 4 (by rw [hk1]; rfl)).1).trans (((fu7 c1 4 (by rw [hk1]; rfl)).1).trans (((fu4 c1 4 (by rw [hk1]; rfl)).1).trans ((fu1 c1 4 (by rw [hk1]; rfl)).1)))))
          have lk19 : ((u15).1 c1 5).toInt = v10.toInt := congrArg Int32.toInt (((fu15 c1 5 (by rw [hk1]; rfl)).1).trans (((fu13 c1 5 (by rw [hk1]; rfl)).1).trans (ev10)))
          refine r_callVi C oCl4 hk1 miX4_add mlX5_85 (ct_X4_add l E (u15) c1 hk1 km1 r16 ) (by decide) rfl rfl rfl (Nat.le_of_ble_eq_true rfl) (oDec_at oX5_noteStatement 44 rfl) (fun r21 u20 pu20 fu20 => ?_)
          try dsimp only at pu20
          have rr21 := n_rng r21
          refine r_if_eq C 90 (oDec_at oX5_noteStatement 45 rfl) (by decide) (fun cd22 => ?_) (fun cd22 => ?_)
          · skip
            refine r_iconst C (oDec_at oX5_noteStatement 52 rfl) (v := k0) (by rw [qk0]; rfl) ?_
            exact r_zret C (n_bool (by omega)) (oDec_at oX5_noteStatement 53 rfl) ⟨_, rfl, by omega⟩
          · skip
            refine r_aload_n C (j := 0) (oDec_at oX5_noteStatement 46 rfl) rfl rfl ?_
            refine r_bipush C (oDec_at oX5_noteStatement 47 rfl) (v := k59) (by rw [qk59]; rfl) ?_
            refine r_callVi C oCl5 rfl miX5_expectSign mlX5_88 (ct_X5_expectSign l E (u20) k59 (by omega)) (by decide) rfl rfl rfl (Nat.le_of_ble_eq_true rfl) (oDec_at oX5_noteStatement 48 rfl) (fun r24 u23 pu23 fu23 => ?_)
            try dsimp only at pu23
            have rr24 := n_rng r24
            refine r_if_eq C 90 (oDec_at oX5_noteStatement 49 rfl) (by decide) (fun cd25 => ?_) (fun cd25 => ?_)
            · skip
              refine r_iconst C (oDec_at oX5_noteStatement 52 rfl) (v := k0) (by rw [qk0]; rfl) ?_
              exact r_zret C (n_bool (by omega)) (oDec_at oX5_noteStatement 53 rfl) ⟨_, rfl, by omega⟩
            · skip
              refine r_iconst C (oDec_at oX5_noteStatement 50 rfl) (v := k1) (by rw [qk1]; rfl) ?_
              refine r_goto C (tgt := 91) (oDec_at oX5_noteStatement 51 rfl) (by decide) ?_
              exact r_zret C (n_bool (by omega)) (oDec_at oX5_noteStatement 53 rfl) ⟨_, rfl, by omega⟩
      · skip
        refine r_iconst C (oDec_at oX5_noteStatement 26 rfl) (v := k0) (by rw [qk0]; rfl) ?_
        exact r_zret C (n_bool (by omega)) (oDec_at oX5_noteStatement 27 rfl) ⟨_, rfl, by omega⟩
    · skip
      refine r_iconst C (oDec_at oX5_noteStatement 20 rfl) (v := k0) (by rw [qk0]; rfl) ?_
      exact r_zret C (n_bool (by omega)) (oDec_at oX5_noteStatement 21 rfl) ⟨_, rfl, by omega⟩
  · skip
    refine r_aload_n C (j := 0) (oDec_at oX5_noteStatement 6 rfl) rfl rfl ?_
    refine r_iconst C (oDec_at oX5_noteStatement 7 rfl) (v := k0) (by rw [qk0]; rfl) ?_
    refine r_bipush C (oDec_at oX5_noteStatement 8 rfl) (v := k28) (by rw [qk28]; rfl) ?_
    refine r_callVi C oCl5 rfl miX5_number mlX5_70 (ct_X5_number l E (u1) k0 k28 ) (by decide) rfl rfl rfl (Nat.le_of_ble_eq_true rfl) (oDec_at oX5_noteStatement 9 rfl) (fun r27 u26 pu26 fu26 => ?_)
    try dsimp only at pu26
    have rr27 := n_rng r27
    refine r_istore_n C (lv' := [(0, .ref (oad E 30)), (1, .ref (oad E c1)), (2, .int r27)]) [1, 2, 0] (oDec_at oX5_noteStatement 10 rfl) rfl (by decide) rfl ?_
    refine r_iload_n C (j := 2) (oDec_at oX5_noteStatement 11 rfl) rfl rfl ?_
    refine r_pc C 19 rfl ?_
    refine r_iconst C (oDec_at oX5_noteStatement 12 rfl) (v := km1) (by rw [qkm1]; rfl) ?_
    refine r_icmp_ne C 35 (oDec_at oX5_noteStatement 13 rfl) (by decide) (fun cd28 => ?_) (fun cd28 => ?_)
    · skip
      refine r_aload_n C (j := 0) (oDec_at oX5_noteStatement 22 rfl) rfl rfl ?_
      refine r_iconst C (oDec_at oX5_noteStatement 23 rfl) (v := k1) (by rw [qk1]; rfl) ?_
      refine r_callVi C oCl5 rfl miX5_expect mlX5_74 (ct_X5_expect l E (u26) k1 ) (by decide) rfl rfl rfl (Nat.le_of_ble_eq_true rfl) (oDec_at oX5_noteStatement 24 rfl) (fun r30 u29 pu29 fu29 => ?_)
      try dsimp only at pu29
      have rr30 := n_rng r30
      refine r_if_ne C 45 (oDec_at oX5_noteStatement 25 rfl) (by decide) (fun cd31 => ?_) (fun cd31 => ?_)
      · skip
        refine r_aload_n C (j := 0) (oDec_at oX5_noteStatement 28 rfl) rfl rfl ?_
        refine r_iconst C (oDec_at oX5_noteStatement 29 rfl) (v := k1) (by rw [qk1]; rfl) ?_
        refine r_bipush C (oDec_at oX5_noteStatement 30 rfl) (v := k16) (by rw [qk16]; rfl) ?_
        refine r_bipush C (oDec_at oX5_noteStatement 31 rfl) (v := k96) (by rw [qk96]; rfl) ?_
        refine r_aload_n C (j := 1) (oDec_at oX5_noteStatement 32 rfl) rfl rfl ?_
        obtain ⟨v32, ev32⟩ : ∃ z : Int32, (u29).1 c1 5 = z := ⟨_, rfl⟩
        have gv32 : (s.1 c1 5).toInt = v32.toInt := congrArg Int32.toInt ((((fu29 c1 5 (by rw [hk1]; rfl)).1).trans (((fu26 c1 5 (by rw [hk1]; rfl)).1).trans ((fu1 c1 5 (by rw [hk1]; rfl)).1))).symm.trans ev32)
        refine r_getiN (k := 5) (lo := 0) (hi := 96) C v32 oCl4 hk1 (by decide) flX5_77 rfl rfl (ev32) rfl rfl (oDec_at oX5_noteStatement 33 rfl) (fun b33 b33h => ?_)
        refine r_pc C 55 rfl ?_
        obtain ⟨v34, ev34⟩ : ∃ z : Int32, z = k96 - v32 := ⟨_, rfl⟩
        have hv34 : v34.toInt = k96.toInt - v32.toInt := n_sub ev34 (by omega) (by omega)
        refine r_isub C v34 (oDec_at oX5_noteStatement 34 rfl) ev34 ?_
        refine r_callSi C miJ9_min_7cf53 mlX5_80 (ct_J9_min_7cf53 l E (u29) k16 v34 ) (by decide) rfl rfl rfl (Nat.le_of_ble_eq_true rfl) (oDec_at oX5_noteStatement 35 rfl) (fun r36 u35 pu35 fu35 => ?_)
        try dsimp only at pu35
        have rr36 := n_rng r36
        refine r_callVi C oCl5 rfl miX5_number mlX5_70 (ct_X5_number l E (u35) k1 r36 ) (by decide) rfl rfl rfl (Nat.le_of_ble_eq_true rfl) (oDec_at oX5_noteStatement 36 rfl) (fun r38 u37 pu37 fu37 => ?_)
        try dsimp only at pu37
        have rr38 := n_rng r38
        refine r_istore_n C (lv' := [(0, .ref (oad E 30)), (1, .ref (oad E c1)), (2, .int r27), (3, .int r38)]) [1, 2, 3, 0] (oDec_at oX5_noteStatement 37 rfl) rfl (by decide) rfl ?_
        refine r_iload_n C (j := 3) (oDec_at oX5_noteStatement 38 rfl) rfl rfl ?_
        refine r_iconst C (oDec_at oX5_noteStatement 39 rfl) (v := km1) (by rw [qkm1]; rfl) ?_
        refine r_pc C 65 rfl ?_
        refine r_icmp_eq C 90 (oDec_at oX5_noteStatement 40 rfl) (by decide) (fun cd39 => ?_) (fun cd39 => ?_)
        · skip
          refine r_iconst C (oDec_at oX5_noteStatement 52 rfl) (v := k0) (by rw [qk0]; rfl) ?_
          exact r_zret C (n_bool (by omega)) (oDec_at oX5_noteStatement 53 rfl) ⟨_, rfl, by omega⟩
        · skip
          refine r_aload_n C (j := 1) (oDec_at oX5_noteStatement 41 rfl) rfl rfl ?_
          refine r_iload_n C (j := 2) (oDec_at oX5_noteStatement 42 rfl) rfl rfl ?_
          refine r_iload_n C (j := 3) (oDec_at oX5_noteStatement 43 rfl) rfl rfl ?_
          have lk40 : ((u37).1 c1 4).toInt = (s.1 c1 4).toInt := congrArg Int32.toInt (((fu37 c1 4 (by rw [hk1]; rfl)).1).trans (((fu35 c1 4 (by rw [hk1]; rfl)).1).trans (((fu29 c1 4 (by rw [hk1]; rfl)).1).trans (((fu26 c1 4 (by rw [hk1]; rfl)).1).trans ((fu1 c1 4 (by rw [hk1]; rfl)).1)))))
          have lk41 : ((u37).1 c1 5).toInt = v32.toInt := congrArg Int32.toInt (((fu37 c1 5 (by rw [hk1]; rfl)).1).trans (((fu35 c1 5 (by rw [hk1]; rfl)).1).trans (ev32)))
          refine r_callVi C oCl4 hk1 miX4_add mlX5_85 (ct_X4_add l E (u37) c1 hk1 r27 r38 ) (by decide) rfl rfl rfl (Nat.le_of_ble_eq_true rfl) (oDec_at oX5_noteStatement 44 rfl) (fun r43 u42 pu42 fu42 => ?_)
          try dsimp only at pu42
          have rr43 := n_rng r43
          refine r_if_eq C 90 (oDec_at oX5_noteStatement 45 rfl) (by decide) (fun cd44 => ?_) (fun cd44 => ?_)
          · skip
            refine r_iconst C (oDec_at oX5_noteStatement 52 rfl) (v := k0) (by rw [qk0]; rfl) ?_
            exact r_zret C (n_bool (by omega)) (oDec_at oX5_noteStatement 53 rfl) ⟨_, rfl, by omega⟩
          · skip
            refine r_aload_n C (j := 0) (oDec_at oX5_noteStatement 46 rfl) rfl rfl ?_
            refine r_bipush C (oDec_at oX5_noteStatement 47 rfl) (v := k59) (by rw [qk59]; rfl) ?_
            refine r_callVi C oCl5 rfl miX5_expectSign mlX5_88 (ct_X5_expectSign l E (u42) k59 (by omega)) (by decide) rfl rfl rfl (Nat.le_of_ble_eq_true rfl) (oDec_at oX5_noteStatement 48 rfl) (fun r46 u45 pu45 fu45 => ?_)
            try dsimp only at pu45
            have rr46 := n_rng r46
            refine r_if_eq C 90 (oDec_at oX5_noteStatement 49 rfl) (by decide) (fun cd47 => ?_) (fun cd47 => ?_)
            · skip
              refine r_iconst C (oDec_at oX5_noteStatement 52 rfl) (v := k0) (by rw [qk0]; rfl) ?_
              exact r_zret C (n_bool (by omega)) (oDec_at oX5_noteStatement 53 rfl) ⟨_, rfl, by omega⟩
            · skip
              refine r_iconst C (oDec_at oX5_noteStatement 50 rfl) (v := k1) (by rw [qk1]; rfl) ?_
              refine r_goto C (tgt := 91) (oDec_at oX5_noteStatement 51 rfl) (by decide) ?_
              exact r_zret C (n_bool (by omega)) (oDec_at oX5_noteStatement 53 rfl) ⟨_, rfl, by omega⟩
      · skip
        refine r_iconst C (oDec_at oX5_noteStatement 26 rfl) (v := k0) (by rw [qk0]; rfl) ?_
        exact r_zret C (n_bool (by omega)) (oDec_at oX5_noteStatement 27 rfl) ⟨_, rfl, by omega⟩
    · skip
      refine r_iconst C (oDec_at oX5_noteStatement 14 rfl) (v := k0) (by rw [qk0]; rfl) ?_
      exact r_zret C (n_bool (by omega)) (oDec_at oX5_noteStatement 15 rfl) ⟨_, rfl, by omega⟩
set_option maxHeartbeats 4000000 in
set_option maxRecDepth 100000 in
theorem ct_X5_name (l : Launch) (E : oE) (s : oS)   : oMet l 6 yX5_name cX5_name 2 (some .boolean) [(5, 2), (5, 3), (5, 4), (5, 8), (5, 9), (23, 9999)] E s [.ref (oad E 30)] (oPi (fun r u => (0 ≤ r.toInt ∧ r.toInt ≤ 1))) := by
  refine oMet.of (lv := [(0, .ref (oad E 30))]) (by decide +kernel) (Nat.le_of_ble_eq_true rfl) rfl (fun J C hT => ?_)
  have C : oC l 6 cX5_name RX5 2 (some .boolean) [(5, 2), (5, 3), (5, 4), (5, 8), (5, 9), (23, 9999)] E s (oPi (fun r u => (0 ≤ r.toInt ∧ r.toInt ≤ 1))) J := C
  obtain ⟨km1, qkm1⟩ : ∃ z : Int32, z = (-1) := ⟨_, rfl⟩
  have ekm1 : km1.toInt = (-1) := by rw [qkm1]; rfl
  obtain ⟨k0, qk0⟩ : ∃ z : Int32, z = 0 := ⟨_, rfl⟩
  have ek0 : k0.toInt = 0 := by rw [qk0]; rfl
  obtain ⟨k1, qk1⟩ : ∃ z : Int32, z = 1 := ⟨_, rfl⟩
  have ek1 : k1.toInt = 1 := by rw [qk1]; rfl
  obtain ⟨k3, qk3⟩ : ∃ z : Int32, z = 3 := ⟨_, rfl⟩
  have ek3 : k3.toInt = 3 := by rw [qk3]; rfl
  obtain ⟨k6, qk6⟩ : ∃ z : Int32, z = 6 := ⟨_, rfl⟩
  have ek6 : k6.toInt = 6 := by rw [qk6]; rfl
  obtain ⟨k97, qk97⟩ : ∃ z : Int32, z = 97 := ⟨_, rfl⟩
  have ek97 : k97.toInt = 97 := by rw [qk97]; rfl
  have key : ∀ n : Nat, (∀ (t : oS) (x1 : Int32), (0 ≤ x1.toInt ∧ x1.toInt ≤ 6) → 7 - x1.toInt ≤ (n : Int) → J t 40 [(0, .ref (oad E 30)), (1, .int x1)] []) := by
    intro n
    induction n using Nat.strongRecOn with
    | _ n ih =>
      skip
      · intro t x1  iv0 hmu
        have rx1 := n_rng x1
        refine r_iload_n C (j := 1) (oDec_at oX5_name 22 rfl) rfl rfl ?_
        refine r_bipush C (oDec_at oX5_name 23 rfl) (v := k6) (by rw [qk6]; rfl) ?_
        refine r_icmp_ge C 95 (oDec_at oX5_name 24 rfl) (by decide) (fun cd1 => ?_) (fun cd1 => ?_)
        · skip
          refine r_aload_n C (j := 0) (oDec_at oX5_name 51 rfl) rfl rfl ?_
          obtain ⟨v2, ev2⟩ : ∃ z : Int32, (t).1 30 4 = z := ⟨_, rfl⟩
          have gv2 : (t.1 30 4).toInt = v2.toInt := congrArg Int32.toInt (ev2)
          refine r_geti (k := 4) (lo := 0) (hi := 1600) C v2 oCl5 rfl (by decide) flX5_130 rfl rfl (ev2) rfl rfl (oDec_at oX5_name 52 rfl) (fun b3 b3h => ?_)
          refine r_aload_n C (j := 0) (oDec_at oX5_name 53 rfl) rfl rfl ?_
          obtain ⟨v4, ev4⟩ : ∃ z : Int32, (t).1 30 2 = z := ⟨_, rfl⟩
          have gv4 : (t.1 30 2).toInt = v4.toInt := congrArg Int32.toInt (ev4)
          refine r_geti (k := 2) (lo := 0) (hi := 1600) C v4 oCl5 rfl (by decide) flX5_23 rfl rfl (ev4) rfl rfl (oDec_at oX5_name 54 rfl) (fun b5 b5h => ?_)
          obtain ⟨v6, ev6⟩ : ∃ z : Int32, z = v2 - v4 := ⟨_, rfl⟩
          have hv6 : v6.toInt = v2.toInt - v4.toInt := n_sub ev6 (by omega) (by omega)
          refine r_isub C v6 (oDec_at oX5_name 55 rfl) ev6 ?_
          refine r_bipush C (oDec_at oX5_name 56 rfl) (v := k6) (by rw [qk6]; rfl) ?_
          refine r_pc C 106 rfl ?_
          refine r_icmp_le C 122 (oDec_at oX5_name 57 rfl) (by decide) (fun cd7 => ?_) (fun cd7 => ?_)
          · skip
            refine r_aload_n C (j := 0) (oDec_at oX5_name 66 rfl) rfl rfl ?_
            refine r_getS (k := 1) (q2 := 0) C oCl5 rfl (by decide) flX5_19 rfl rfl rfl ks1 (oDec_at oX5_name 67 rfl) (fun b8 rb8 mb8 hkb8 => ?_)
            refine r_callVi C oCl0 hkb8 miX0_isNameTaken mlX5_141 (ct_X0_isNameTaken l E (t) b8 hkb8 ) (by decide) rfl rfl rfl (Nat.le_of_ble_eq_true rfl) (oDec_at oX5_name 68 rfl) (fun r10 u9 pu9 fu9 => ?_)
            try dsimp only at pu9
            have rr10 := n_rng r10
            refine r_if_eq C 142 (oDec_at oX5_name 69 rfl) (by decide) (fun cd11 => ?_) (fun cd11 => ?_)
            · skip
              refine r_aload_n C (j := 0) (oDec_at oX5_name 76 rfl) rfl rfl ?_
              refine r_callVv C oCl5 rfl miX5_passWord mlX5_100 (ct_X5_passWord l E (u9)  ) (by decide) rfl rfl rfl (Nat.le_of_ble_eq_true rfl) (oDec_at oX5_name 77 rfl) (fun u12 pu12 fu12 => ?_)
              try dsimp only at pu12
              refine r_iconst C (oDec_at oX5_name 78 rfl) (v := k1) (by rw [qk1]; rfl) ?_
              exact r_zret C (n_bool (by omega)) (oDec_at oX5_name 79 rfl) ⟨_, rfl, by omega⟩
            · skip
              refine r_aload_n C (j := 0) (oDec_at oX5_name 70 rfl) rfl rfl ?_
              refine r_iconst C (oDec_at oX5_name 71 rfl) (v := k3) (by rw [qk3]; rfl) ?_
              refine r_aload_n C (j := 0) (oDec_at oX5_name 72 rfl) rfl rfl ?_
              refine r_geti (k := 2) (lo := 0) (hi := 1600) C v4 oCl5 rfl (by decide) flX5_23 rfl rfl (((fu9 30 2 rfl).1).trans (ev4)) rfl rfl (oDec_at oX5_name 73 rfl) (fun _ _ => ?_)
              refine r_callVi C oCl5 rfl miX5_fail mlX5_62 (ct_X5_fail l E (u9) k3 v4 ) (by decide) rfl rfl rfl (Nat.le_of_ble_eq_true rfl) (oDec_at oX5_name 74 rfl) (fun r15 u14 pu14 fu14 => ?_)
              try dsimp only at pu14
              have rr15 := n_rng r15
              exact r_zret C (n_bool (by omega)) (oDec_at oX5_name 75 rfl) ⟨_, rfl, by omega⟩
          · skip
            refine r_aload_n C (j := 0) (oDec_at oX5_name 58 rfl) rfl rfl ?_
            refine r_iconst C (oDec_at oX5_name 59 rfl) (v := k1) (by rw [qk1]; rfl) ?_
            refine r_aload_n C (j := 0) (oDec_at oX5_name 60 rfl) rfl rfl ?_
            refine r_geti (k := 2) (lo := 0) (hi := 1600) C v4 oCl5 rfl (by decide) flX5_23 rfl rfl (ev4) rfl rfl (oDec_at oX5_name 61 rfl) (fun _ _ => ?_)
            refine r_bipush C (oDec_at oX5_name 62 rfl) (v := k6) (by rw [qk6]; rfl) ?_
            obtain ⟨v16, ev16⟩ : ∃ z : Int32, z = v4 + k6 := ⟨_, rfl⟩
            have hv16 : v16.toInt = v4.toInt + k6.toInt := n_add ev16 (by omega) (by omega)
            refine r_iadd C v16 (oDec_at oX5_name 63 rfl) ev16 ?_
            refine r_pc C 118 rfl ?_
            refine r_callVi C oCl5 rfl miX5_fail mlX5_62 (ct_X5_fail l E (t) k1 v16 ) (by decide) rfl rfl rfl (Nat.le_of_ble_eq_true rfl) (oDec_at oX5_name 64 rfl) (fun r18 u17 pu17 fu17 => ?_)
            try dsimp only at pu17
            have rr18 := n_rng r18
            exact r_zret C (n_bool (by omega)) (oDec_at oX5_name 65 rfl) ⟨_, rfl, by omega⟩
        · skip
          refine r_aload_n C (j := 0) (oDec_at oX5_name 25 rfl) rfl rfl ?_
          refine r_getS (k := 1) (q2 := 0) C oCl5 rfl (by decide) flX5_19 rfl rfl rfl ks1 (oDec_at oX5_name 26 rfl) (fun b19 rb19 mb19 hkb19 => ?_)
          refine r_iload_n C (j := 1) (oDec_at oX5_name 27 rfl) rfl rfl ?_
          refine r_aload_n C (j := 0) (oDec_at oX5_name 28 rfl) rfl rfl ?_
          obtain ⟨v20, ev20⟩ : ∃ z : Int32, (t).1 30 2 = z := ⟨_, rfl⟩
          have gv20 : (t.1 30 2).toInt = v20.toInt := congrArg Int32.toInt (ev20)
          refine r_geti (k := 2) (lo := 0) (hi := 1600) C v20 oCl5 rfl (by decide) flX5_23 rfl rfl (ev20) rfl rfl (oDec_at oX5_name 29 rfl) (fun b21 b21h => ?_)
          refine r_iload_n C (j := 1) (oDec_at oX5_name 30 rfl) rfl rfl ?_
          refine r_pc C 56 rfl ?_
          obtain ⟨v22, ev22⟩ : ∃ z : Int32, z = v20 + x1 := ⟨_, rfl⟩
          have hv22 : v22.toInt = v20.toInt + x1.toInt := n_add ev22 (by omega) (by omega)
          refine r_iadd C v22 (oDec_at oX5_name 31 rfl) ev22 ?_
          refine r_aload_n C (j := 0) (oDec_at oX5_name 32 rfl) rfl rfl ?_
          obtain ⟨v23, ev23⟩ : ∃ z : Int32, (t).1 30 4 = z := ⟨_, rfl⟩
          have gv23 : (t.1 30 4).toInt = v23.toInt := congrArg Int32.toInt (ev23)
          refine r_geti (k := 4) (lo := 0) (hi := 1600) C v23 oCl5 rfl (by decide) flX5_130 rfl rfl (ev23) rfl rfl (oDec_at oX5_name 33 rfl) (fun b24 b24h => ?_)
          refine r_icmp_ge C 85 (oDec_at oX5_name 34 rfl) (by decide) (fun cd25 => ?_) (fun cd25 => ?_)
          · skip
            refine r_iconst C (oDec_at oX5_name 47 rfl) (v := k0) (by rw [qk0]; rfl) ?_
            refine r_callVv C oCl0 hkb19 miX0_spell mlX5_137 (ct_X0_spell l E (t) b19 hkb19 x1 k0 ) (by decide) rfl rfl rfl (Nat.le_of_ble_eq_true rfl) (oDec_at oX5_name 48 rfl) (fun u26 pu26 fu26 => ?_)
            try dsimp only at pu26
            obtain ⟨v28, ev28⟩ : ∃ z : Int32, x1 + Int32.ofInt 1 = z := ⟨_, rfl⟩
            have hv28 : v28.toInt = x1.toInt + 1 := n_inc ev28 (by decide) (by omega) (by omega)
            refine r_iinc C (j := 1) (lv' := [(0, .ref (oad E 30)), (1, .int v28)]) v28 [1, 0] (oDec_at oX5_name 49 rfl) rfl ev28 (by decide) rfl ?_
            refine r_goto C (tgt := 40) (oDec_at oX5_name 50 rfl) (by decide) ?_
            exact (ih (n - 1) (by omega)) (u26) v28  (by omega) (by omega)
          · skip
            refine r_aload_n C (j := 0) (oDec_at oX5_name 35 rfl) rfl rfl ?_
            refine r_getF (k := 0) (b := 1) C oCl5 rfl (by decide) flX5_15 rfl rfl rfl (oDec_at oX5_name 36 rfl) ?_
            refine r_aload_n C (j := 0) (oDec_at oX5_name 37 rfl) rfl rfl ?_
            refine r_geti (k := 2) (lo := 0) (hi := 1600) C v20 oCl5 rfl (by decide) flX5_23 rfl rfl (ev20) rfl rfl (oDec_at oX5_name 38 rfl) (fun _ _ => ?_)
            refine r_iload_n C (j := 1) (oDec_at oX5_name 39 rfl) rfl rfl ?_
            obtain ⟨v29, ev29⟩ : ∃ z : Int32, z = v20 + x1 := ⟨_, rfl⟩
            have hv29 : v29.toInt = v20.toInt + x1.toInt := n_add ev29 (by omega) (by omega)
            refine r_iadd C v29 (oDec_at oX5_name 40 rfl) ev29 ?_
            refine r_pc C 74 rfl ?_
            refine r_callVi C oCl8 rfl miX8_at mlX5_133 (ct_X8_at l E (t) v29 ) (by decide) rfl rfl rfl (Nat.le_of_ble_eq_true rfl) (oDec_at oX5_name 41 rfl) (fun r31 u30 pu30 fu30 => ?_)
            try dsimp only at pu30
            have rr31 := n_rng r31
            refine r_bipush C (oDec_at oX5_name 42 rfl) (v := k97) (by rw [qk97]; rfl) ?_
            obtain ⟨v32, ev32⟩ : ∃ z : Int32, z = r31 - k97 := ⟨_, rfl⟩
            have hv32 : v32.toInt = r31.toInt - k97.toInt := n_sub ev32 (by omega) (by omega)
            refine r_isub C v32 (oDec_at oX5_name 43 rfl) ev32 ?_
            refine r_iconst C (oDec_at oX5_name 44 rfl) (v := k1) (by rw [qk1]; rfl) ?_
            obtain ⟨v33, ev33⟩ : ∃ z : Int32, z = v32 + k1 := ⟨_, rfl⟩
            have hv33 : v33.toInt = v32.toInt + k1.toInt := n_add ev33 (by omega) (by omega)
            refine r_iadd C v33 (oDec_at oX5_name 45 rfl) ev33 ?_
            refine r_goto C (tgt := 86) (oDec_at oX5_name 46 rfl) (by decide) ?_
            refine r_callVv C oCl0 hkb19 miX0_spell mlX5_137 (ct_X0_spell l E (u30) b19 hkb19 x1 v33 ) (by decide) rfl rfl rfl (Nat.le_of_ble_eq_true rfl) (oDec_at oX5_name 48 rfl) (fun u34 pu34 fu34 => ?_)
            try dsimp only at pu34
            refine r_pc C 89 rfl ?_
            obtain ⟨v36, ev36⟩ : ∃ z : Int32, x1 + Int32.ofInt 1 = z := ⟨_, rfl⟩
            have hv36 : v36.toInt = x1.toInt + 1 := n_inc ev36 (by decide) (by omega) (by omega)
            refine r_iinc C (j := 1) (lv' := [(0, .ref (oad E 30)), (1, .int v36)]) v36 [1, 0] (oDec_at oX5_name 49 rfl) rfl ev36 (by decide) rfl ?_
            refine r_goto C (tgt := 40) (oDec_at oX5_name 50 rfl) (by decide) ?_
            exact (ih (n - 1) (by omega)) (u34) v36  (by omega) (by omega)
  refine r_aload_n C (j := 0) (oDec_at oX5_name 0 rfl) rfl rfl ?_
  refine r_callVi C oCl5 rfl miX5_peek mlX5_43 (ct_X5_peek l E (s)  ) (by decide) rfl rfl rfl (Nat.le_of_ble_eq_true rfl) (oDec_at oX5_name 1 rfl) (fun r38 u37 pu37 fu37 => ?_)
  try dsimp only at pu37
  have rr38 := n_rng r38
  refine r_callSi C miX5_isLetter mlX5_127 (ct_X5_isLetter l E (u37) r38 ) (by decide) rfl rfl rfl (Nat.le_of_ble_eq_true rfl) (oDec_at oX5_name 2 rfl) (fun r40 u39 pu39 fu39 => ?_)
  try dsimp only at pu39
  have rr40 := n_rng r40
  refine r_if_ne C 20 (oDec_at oX5_name 3 rfl) (by decide) (fun cd41 => ?_) (fun cd41 => ?_)
  · skip
    refine r_aload_n C (j := 0) (oDec_at oX5_name 10 rfl) rfl rfl ?_
    refine r_callVi C oCl5 rfl miX5_wordAhead mlX5_91 (ct_X5_wordAhead l E (u39)  ) (by decide) rfl rfl rfl (Nat.le_of_ble_eq_true rfl) (oDec_at oX5_name 11 rfl) (fun r43 u42 pu42 fu42 => ?_)
    try dsimp only at pu42
    have rr43 := n_rng r43
    refine r_iconst C (oDec_at oX5_name 12 rfl) (v := km1) (by rw [qkm1]; rfl) ?_
    refine r_icmp_eq C 38 (oDec_at oX5_name 13 rfl) (by decide) (fun cd44 => ?_) (fun cd44 => ?_)
    · skip
      refine r_iconst C (oDec_at oX5_name 20 rfl) (v := k0) (by rw [qk0]; rfl) ?_
      refine r_istore_n C (lv' := [(0, .ref (oad E 30)), (1, .int k0)]) [1, 0] (oDec_at oX5_name 21 rfl) rfl (by decide) rfl ?_
      exact (key (7 - k0.toInt).toNat) (u42) k0  (by omega) (by omega)
    · skip
      refine r_aload_n C (j := 0) (oDec_at oX5_name 14 rfl) rfl rfl ?_
      refine r_iconst C (oDec_at oX5_name 15 rfl) (v := k1) (by rw [qk1]; rfl) ?_
      refine r_aload_n C (j := 0) (oDec_at oX5_name 16 rfl) rfl rfl ?_
      obtain ⟨v45, ev45⟩ : ∃ z : Int32, (u42).1 30 2 = z := ⟨_, rfl⟩
      have gv45 : (u42.1 30 2).toInt = v45.toInt := congrArg Int32.toInt (ev45)
      refine r_geti (k := 2) (lo := 0) (hi := 1600) C v45 oCl5 rfl (by decide) flX5_23 rfl rfl (ev45) rfl rfl (oDec_at oX5_name 17 rfl) (fun b46 b46h => ?_)
      refine r_callVi C oCl5 rfl miX5_fail mlX5_62 (ct_X5_fail l E (u42) k1 v45 ) (by decide) rfl rfl rfl (Nat.le_of_ble_eq_true rfl) (oDec_at oX5_name 18 rfl) (fun r48 u47 pu47 fu47 => ?_)
      try dsimp only at pu47
      have rr48 := n_rng r48
      exact r_zret C (n_bool (by omega)) (oDec_at oX5_name 19 rfl) ⟨_, rfl, by omega⟩
  · skip
    refine r_aload_n C (j := 0) (oDec_at oX5_name 4 rfl) rfl rfl ?_
    refine r_iconst C (oDec_at oX5_name 5 rfl) (v := k1) (by rw [qk1]; rfl) ?_
    refine r_aload_n C (j := 0) (oDec_at oX5_name 6 rfl) rfl rfl ?_
    obtain ⟨v49, ev49⟩ : ∃ z : Int32, (u39).1 30 2 = z := ⟨_, rfl⟩
    have gv49 : (u37.1 30 2).toInt = v49.toInt := congrArg Int32.toInt (((fu39 30 2 rfl).1).symm.trans ev49)
    refine r_geti (k := 2) (lo := 0) (hi := 1600) C v49 oCl5 rfl (by decide) flX5_23 rfl rfl (ev49) rfl rfl (oDec_at oX5_name 7 rfl) (fun b50 b50h => ?_)
    refine r_callVi C oCl5 rfl miX5_fail mlX5_62 (ct_X5_fail l E (u39) k1 v49 ) (by decide) rfl rfl rfl (Nat.le_of_ble_eq_true rfl) (oDec_at oX5_name 8 rfl) (fun r52 u51 pu51 fu51 => ?_)
    try dsimp only at pu51
    have rr52 := n_rng r52
    exact r_zret C (n_bool (by omega)) (oDec_at oX5_name 9 rfl) ⟨_, rfl, by omega⟩
set_option maxHeartbeats 4000000 in
set_option maxRecDepth 100000 in
theorem ct_X5_opens (l : Launch) (E : oE) (s : oS)   : oMet l 2 yX5_opens cX5_opens 1 (some .boolean) [(5, 5), (5, 8), (5, 9)] E s [.ref (oad E 30)] (oPi (fun r u => (0 ≤ r.toInt ∧ r.toInt ≤ 1) ∧ ((r.toInt = 1 ∧ (s.1 30 5).toInt ≤ 5 ∧ (u.1 30 5).toInt = (s.1 30 5).toInt + 1 ∧ 1 ≤ (u.1 30 5).toInt) ∨ (r.toInt = 0 ∧ (u.1 30 5).toInt = (s.1 30 5).toInt)))) := by
  refine oMet.of (lv := [(0, .ref (oad E 30))]) (by decide +kernel) (Nat.le_of_ble_eq_true rfl) rfl (fun J C hT => ?_)
  have C : oC l 2 cX5_opens RX5 1 (some .boolean) [(5, 5), (5, 8), (5, 9)] E s (oPi (fun r u => (0 ≤ r.toInt ∧ r.toInt ≤ 1) ∧ ((r.toInt = 1 ∧ (s.1 30 5).toInt ≤ 5 ∧ (u.1 30 5).toInt = (s.1 30 5).toInt + 1 ∧ 1 ≤ (u.1 30 5).toInt) ∨ (r.toInt = 0 ∧ (u.1 30 5).toInt = (s.1 30 5).toInt)))) J := C
  obtain ⟨k1, qk1⟩ : ∃ z : Int32, z = 1 := ⟨_, rfl⟩
  have ek1 : k1.toInt = 1 := by rw [qk1]; rfl
  obtain ⟨k4, qk4⟩ : ∃ z : Int32, z = 4 := ⟨_, rfl⟩
  have ek4 : k4.toInt = 4 := by rw [qk4]; rfl
  obtain ⟨k6, qk6⟩ : ∃ z : Int32, z = 6 := ⟨_, rfl⟩
  have ek6 : k6.toInt = 6 := by rw [qk6]; rfl
  refine r_aload_n C (j := 0) (oDec_at oX5_opens 0 rfl) rfl rfl ?_
  obtain ⟨v1, ev1⟩ : ∃ z : Int32, (s).1 30 5 = z := ⟨_, rfl⟩
  have gv1 : (s.1 30 5).toInt = v1.toInt := congrArg Int32.toInt (ev1)
  refine r_geti (k := 5) (lo := 0) (hi := 6) C v1 oCl5 rfl (by decide) flX5_29 rfl rfl (ev1) rfl rfl (oDec_at oX5_opens 1 rfl) (fun b2 b2h => ?_)
  refine r_bipush C (oDec_at oX5_opens 2 rfl) (v := k6) (by rw [qk6]; rfl) ?_
  refine r_icmp_lt C 19 (oDec_at oX5_opens 3 rfl) (by decide) (fun cd3 => ?_) (fun cd3 => ?_)
  · skip
    refine r_aload_n C (j := 0) (oDec_at oX5_opens 10 rfl) rfl rfl ?_
    refine r_dup C (oDec_at oX5_opens 11 rfl) rfl ?_
    refine r_geti (k := 5) (lo := 0) (hi := 6) C v1 oCl5 rfl (by decide) flX5_29 rfl rfl (ev1) rfl rfl (oDec_at oX5_opens 12 rfl) (fun _ _ => ?_)
    refine r_iconst C (oDec_at oX5_opens 13 rfl) (v := k1) (by rw [qk1]; rfl) ?_
    obtain ⟨v4, ev4⟩ : ∃ z : Int32, z = v1 + k1 := ⟨_, rfl⟩
    have hv4 : v4.toInt = v1.toInt + k1.toInt := n_add ev4 (by omega) (by omega)
    refine r_iadd C v4 (oDec_at oX5_opens 14 rfl) ev4 ?_
    refine r_puti (k := 5) (lo := 0) (hi := 6) C oCl5 rfl (by decide) flX5_29 rfl rfl rfl rfl rfl rfl rfl rfl ⟨by omega, by omega⟩ (oDec_at oX5_opens 15 rfl) ?_
    refine r_pc C 29 rfl ?_
    refine r_iconst C (oDec_at oX5_opens 16 rfl) (v := k1) (by rw [qk1]; rfl) ?_
    have lk5 : (((pI s 30 5 v4)).1 30 5).toInt = v4.toInt := congrArg Int32.toInt ((pI_self _ _ _ _))
    exact r_zret C (n_bool (by omega)) (oDec_at oX5_opens 17 rfl) ⟨_, rfl, ⟨by omega, by omega⟩⟩
  · skip
    refine r_aload_n C (j := 0) (oDec_at oX5_opens 4 rfl) rfl rfl ?_
    refine r_iconst C (oDec_at oX5_opens 5 rfl) (v := k4) (by rw [qk4]; rfl) ?_
    refine r_aload_n C (j := 0) (oDec_at oX5_opens 6 rfl) rfl rfl ?_
    obtain ⟨v6, ev6⟩ : ∃ z : Int32, (s).1 30 2 = z := ⟨_, rfl⟩
    have gv6 : (s.1 30 2).toInt = v6.toInt := congrArg Int32.toInt (ev6)
    refine r_geti (k := 2) (lo := 0) (hi := 1600) C v6 oCl5 rfl (by decide) flX5_23 rfl rfl (ev6) rfl rfl (oDec_at oX5_opens 7 rfl) (fun b7 b7h => ?_)
    refine r_callVi C oCl5 rfl miX5_fail mlX5_62 (ct_X5_fail l E (s) k4 v6 ) (by decide) rfl rfl rfl (Nat.le_of_ble_eq_true rfl) (oDec_at oX5_opens 8 rfl) (fun r9 u8 pu8 fu8 => ?_)
    try dsimp only at pu8
    have rr9 := n_rng r9
    have lk10 : ((u8).1 30 5).toInt = v1.toInt := congrArg Int32.toInt (((fu8 30 5 rfl).1).trans (ev1))
    exact r_zret C (n_bool (by omega)) (oDec_at oX5_opens 9 rfl) ⟨_, rfl, ⟨by omega, by omega⟩⟩
set_option maxHeartbeats 4000000 in
set_option maxRecDepth 100000 in
theorem ct_X5_closes (l : Launch) (E : oE) (s : oS)  (hp0 : 1 ≤ (s.1 30 5).toInt) : oMet l 1 yX5_closes cX5_closes 1 (some .boolean) [(5, 5)] E s [.ref (oad E 30)] (oPi (fun r u => (0 ≤ r.toInt ∧ r.toInt ≤ 1) ∧ (r.toInt = 1 ∧ (u.1 30 5).toInt = (s.1 30 5).toInt - 1))) := by
  refine oMet.of (lv := [(0, .ref (oad E 30))]) (by decide +kernel) (Nat.le_of_ble_eq_true rfl) rfl (fun J C hT => ?_)
  have C : oC l 1 cX5_closes RX5 1 (some .boolean) [(5, 5)] E s (oPi (fun r u => (0 ≤ r.toInt ∧ r.toInt ≤ 1) ∧ (r.toInt = 1 ∧ (u.1 30 5).toInt = (s.1 30 5).toInt - 1))) J := C
  obtain ⟨k1, qk1⟩ : ∃ z : Int32, z = 1 := ⟨_, rfl⟩
  have ek1 : k1.toInt = 1 := by rw [qk1]; rfl
  refine r_aload_n C (j := 0) (oDec_at oX5_closes 0 rfl) rfl rfl ?_
  refine r_dup C (oDec_at oX5_closes 1 rfl) rfl ?_
  obtain ⟨v1, ev1⟩ : ∃ z : Int32, (s).1 30 5 = z := ⟨_, rfl⟩
  have gv1 : (s.1 30 5).toInt = v1.toInt := congrArg Int32.toInt (ev1)
  refine r_geti (k := 5) (lo := 0) (hi := 6) C v1 oCl5 rfl (by decide) flX5_29 rfl rfl (ev1) rfl rfl (oDec_at oX5_closes 2 rfl) (fun b2 b2h => ?_)
  refine r_iconst C (oDec_at oX5_closes 3 rfl) (v := k1) (by rw [qk1]; rfl) ?_
  obtain ⟨v3, ev3⟩ : ∃ z : Int32, z = v1 - k1 := ⟨_, rfl⟩
  have hv3 : v3.toInt = v1.toInt - k1.toInt := n_sub ev3 (by omega) (by omega)
  refine r_isub C v3 (oDec_at oX5_closes 4 rfl) ev3 ?_
  refine r_puti (k := 5) (lo := 0) (hi := 6) C oCl5 rfl (by decide) flX5_29 rfl rfl rfl rfl rfl rfl rfl rfl ⟨by omega, by omega⟩ (oDec_at oX5_closes 5 rfl) ?_
  refine r_pc C 10 rfl ?_
  refine r_iconst C (oDec_at oX5_closes 6 rfl) (v := k1) (by rw [qk1]; rfl) ?_
  have lk4 : (((pI s 30 5 v3)).1 30 5).toInt = v3.toInt := congrArg Int32.toInt ((pI_self _ _ _ _))
  exact r_zret C (n_bool (by omega)) (oDec_at oX5_closes 7 rfl) ⟨_, rfl, ⟨by omega, by omega⟩⟩
