set_option maxHeartbeats 4000000 in
set_option maxRecDepth 100000 in
theorem ct_J9_max_7cf53 (l : Launch) (E : oE) (s : oS) (a0 : Int32) (a1 : Int32)  : oMet l 1 yJ9_max_7cf53 cJ9_max_7cf53 2 (some .int) [] E s [.int a0, .int a1] (oPi (fun r u => ((a0.toInt ≤ a1.toInt ∧ r.toInt = a1.toInt) ∨ (a1.toInt < a0.toInt ∧ r.toInt = a0.toInt)))) := by
  refine oMet.ofF (lv := [(0, .int a0), (1, .int a1)]) (by decide +kernel) (Nat.le_of_ble_eq_true rfl) rfl (fun J C hT => ?_)
  have C : oC l 1 cJ9_max_7cf53 RJ9 2 (some .int) [] E s (oPi (fun r u => ((a0.toInt ≤ a1.toInt ∧ r.toInt = a1.toInt) ∨ (a1.toInt < a0.toInt ∧ r.toInt = a0.toInt)))) J := C
  have rg0 := n_rng a0
  have rg1 := n_rng a1
  refine r_iload_n C (j := 0) (oDec_at oJ9_max_7cf53 0 rfl) rfl rfl ?_
  refine r_iload_n C (j := 1) (oDec_at oJ9_max_7cf53 1 rfl) rfl rfl ?_
  refine r_icmp_lt C 9 (oDec_at oJ9_max_7cf53 2 rfl) (by decide) (fun cd1 => ?_) (fun cd1 => ?_)
  · skip
    refine r_iload_n C (j := 1) (oDec_at oJ9_max_7cf53 5 rfl) rfl rfl ?_
    exact r_iret C (oDec_at oJ9_max_7cf53 6 rfl) ⟨_, rfl, by omega⟩
  · skip
    refine r_iload_n C (j := 0) (oDec_at oJ9_max_7cf53 3 rfl) rfl rfl ?_
    refine r_goto C (tgt := 10) (oDec_at oJ9_max_7cf53 4 rfl) (by decide) ?_
    exact r_iret C (oDec_at oJ9_max_7cf53 6 rfl) ⟨_, rfl, by omega⟩
set_option maxHeartbeats 4000000 in
set_option maxRecDepth 100000 in
theorem ct_J9_min_7cf53 (l : Launch) (E : oE) (s : oS) (a0 : Int32) (a1 : Int32)  : oMet l 1 yJ9_min_7cf53 cJ9_min_7cf53 2 (some .int) [] E s [.int a0, .int a1] (oPi (fun r u => (r.toInt ≤ a0.toInt ∧ r.toInt ≤ a1.toInt ∧ (r.toInt = a0.toInt ∨ r.toInt = a1.toInt)))) := by
  refine oMet.ofF (lv := [(0, .int a0), (1, .int a1)]) (by decide +kernel) (Nat.le_of_ble_eq_true rfl) rfl (fun J C hT => ?_)
  have C : oC l 1 cJ9_min_7cf53 RJ9 2 (some .int) [] E s (oPi (fun r u => (r.toInt ≤ a0.toInt ∧ r.toInt ≤ a1.toInt ∧ (r.toInt = a0.toInt ∨ r.toInt = a1.toInt)))) J := C
  have rg0 := n_rng a0
  have rg1 := n_rng a1
  refine r_iload_n C (j := 0) (oDec_at oJ9_min_7cf53 0 rfl) rfl rfl ?_
  refine r_iload_n C (j := 1) (oDec_at oJ9_min_7cf53 1 rfl) rfl rfl ?_
  refine r_icmp_gt C 9 (oDec_at oJ9_min_7cf53 2 rfl) (by decide) (fun cd1 => ?_) (fun cd1 => ?_)
  · skip
    refine r_iload_n C (j := 1) (oDec_at oJ9_min_7cf53 5 rfl) rfl rfl ?_
    exact r_iret C (oDec_at oJ9_min_7cf53 6 rfl) ⟨_, rfl, by omega⟩
  · skip
    refine r_iload_n C (j := 0) (oDec_at oJ9_min_7cf53 3 rfl) rfl rfl ?_
    refine r_goto C (tgt := 10) (oDec_at oJ9_min_7cf53 4 rfl) (by decide) ?_
    exact r_iret C (oDec_at oJ9_min_7cf53 6 rfl) ⟨_, rfl, by omega⟩
set_option maxHeartbeats 4000000 in
set_option maxRecDepth 100000 in
theorem ct_J9_floorDiv_7cf53 (l : Launch) (E : oE) (s : oS) (a0 : Int32) (a1 : Int32) (hp0 : a1.toInt ≠ 0) : oMet l 1 yJ9_floorDiv_7cf53 cJ9_floorDiv_7cf53 3 (some .int) [] E s [.int a0, .int a1] (oPi (fun r u => True)) := by
  refine oMet.ofF (lv := [(0, .int a0), (1, .int a1)]) (by decide +kernel) (Nat.le_of_ble_eq_true rfl) rfl (fun J C hT => ?_)
  have C : oC l 1 cJ9_floorDiv_7cf53 RJ9 3 (some .int) [] E s (oPi (fun r u => True)) J := C
  obtain ⟨k1, qk1⟩ : ∃ z : Int32, z = 1 := ⟨_, rfl⟩
  have ek1 : k1.toInt = 1 := by rw [qk1]; rfl
  have rg0 := n_rng a0
  have rg1 := n_rng a1
  refine r_iload_n C (j := 0) (oDec_at oJ9_floorDiv_7cf53 0 rfl) rfl rfl ?_
  refine r_iload_n C (j := 1) (oDec_at oJ9_floorDiv_7cf53 1 rfl) rfl rfl ?_
  obtain ⟨v1, ev1⟩ : ∃ z : Int32, z = a0 / a1 := ⟨_, rfl⟩
  have rv1 := n_rng v1
  refine r_idiv C v1 (oDec_at oJ9_floorDiv_7cf53 2 rfl) (n_ne0 (by omega)) ev1 ?_
  refine r_istore_n C (lv' := [(0, .int a0), (1, .int a1), (2, .int v1)]) [1, 2, 0] (oDec_at oJ9_floorDiv_7cf53 3 rfl) rfl (by decide) rfl ?_
  refine r_iload_n C (j := 0) (oDec_at oJ9_floorDiv_7cf53 4 rfl) rfl rfl ?_
  refine r_iload_n C (j := 1) (oDec_at oJ9_floorDiv_7cf53 5 rfl) rfl rfl ?_
  refine r_pc C 6 rfl ?_
  obtain ⟨v2, ev2⟩ : ∃ z : Int32, z = a0 ^^^ a1 := ⟨_, rfl⟩
  have rv2 := n_rng v2
  refine r_ixor C v2 (oDec_at oJ9_floorDiv_7cf53 6 rfl) ev2 ?_
  refine r_if_ge C 21 (oDec_at oJ9_floorDiv_7cf53 7 rfl) (by decide) (fun cd3 => ?_) (fun cd3 => ?_)
  · skip
    refine r_iload_n C (j := 2) (oDec_at oJ9_floorDiv_7cf53 17 rfl) rfl rfl ?_
    exact r_iret C (oDec_at oJ9_floorDiv_7cf53 18 rfl) ⟨_, rfl, trivial⟩
  · skip
    refine r_iload_n C (j := 2) (oDec_at oJ9_floorDiv_7cf53 8 rfl) rfl rfl ?_
    refine r_iload_n C (j := 1) (oDec_at oJ9_floorDiv_7cf53 9 rfl) rfl rfl ?_
    obtain ⟨v4, ev4⟩ : ∃ z : Int32, z = v1 * a1 := ⟨_, rfl⟩
    have rv4 := n_rng v4
    refine r_imul C v4 (oDec_at oJ9_floorDiv_7cf53 10 rfl) ev4 ?_
    refine r_iload_n C (j := 0) (oDec_at oJ9_floorDiv_7cf53 11 rfl) rfl rfl ?_
    refine r_icmp_eq C 21 (oDec_at oJ9_floorDiv_7cf53 12 rfl) (by decide) (fun cd5 => ?_) (fun cd5 => ?_)
    · skip
      refine r_iload_n C (j := 2) (oDec_at oJ9_floorDiv_7cf53 17 rfl) rfl rfl ?_
      exact r_iret C (oDec_at oJ9_floorDiv_7cf53 18 rfl) ⟨_, rfl, trivial⟩
    · skip
      refine r_iload_n C (j := 2) (oDec_at oJ9_floorDiv_7cf53 13 rfl) rfl rfl ?_
      refine r_iconst C (oDec_at oJ9_floorDiv_7cf53 14 rfl) (v := k1) (by rw [qk1]; rfl) ?_
      obtain ⟨v6, ev6⟩ : ∃ z : Int32, z = v1 - k1 := ⟨_, rfl⟩
      have rv6 := n_rng v6
      refine r_isub C v6 (oDec_at oJ9_floorDiv_7cf53 15 rfl) ev6 ?_
      exact r_iret C (oDec_at oJ9_floorDiv_7cf53 16 rfl) ⟨_, rfl, trivial⟩
set_option maxHeartbeats 4000000 in
set_option maxRecDepth 100000 in
theorem ct_J6_bitCount_0f7a4 (l : Launch) (E : oE) (s : oS) (a0 : Int32)  : oMet l 1 yJ6_bitCount_0f7a4 cJ6_bitCount_0f7a4 1 (some .int) [] E s [.int a0] (oPi (fun r u => True)) := by
  refine oMet.ofF (lv := [(0, .int a0)]) (by decide +kernel) (Nat.le_of_ble_eq_true rfl) rfl (fun J C hT => ?_)
  have C : oC l 1 cJ6_bitCount_0f7a4 RJ6 1 (some .int) [] E s (oPi (fun r u => True)) J := C
  obtain ⟨k1, qk1⟩ : ∃ z : Int32, z = 1 := ⟨_, rfl⟩
  have ek1 : k1.toInt = 1 := by rw [qk1]; rfl
  obtain ⟨k2, qk2⟩ : ∃ z : Int32, z = 2 := ⟨_, rfl⟩
  have ek2 : k2.toInt = 2 := by rw [qk2]; rfl
  obtain ⟨k4, qk4⟩ : ∃ z : Int32, z = 4 := ⟨_, rfl⟩
  have ek4 : k4.toInt = 4 := by rw [qk4]; rfl
  obtain ⟨k8, qk8⟩ : ∃ z : Int32, z = 8 := ⟨_, rfl⟩
  have ek8 : k8.toInt = 8 := by rw [qk8]; rfl
  obtain ⟨k16, qk16⟩ : ∃ z : Int32, z = 16 := ⟨_, rfl⟩
  have ek16 : k16.toInt = 16 := by rw [qk16]; rfl
  obtain ⟨k63, qk63⟩ : ∃ z : Int32, z = 63 := ⟨_, rfl⟩
  have ek63 : k63.toInt = 63 := by rw [qk63]; rfl
  obtain ⟨k252645135, qk252645135⟩ : ∃ z : Int32, z = 252645135 := ⟨_, rfl⟩
  have ek252645135 : k252645135.toInt = 252645135 := by rw [qk252645135]; rfl
  obtain ⟨k858993459, qk858993459⟩ : ∃ z : Int32, z = 858993459 := ⟨_, rfl⟩
  have ek858993459 : k858993459.toInt = 858993459 := by rw [qk858993459]; rfl
  obtain ⟨k1431655765, qk1431655765⟩ : ∃ z : Int32, z = 1431655765 := ⟨_, rfl⟩
  have ek1431655765 : k1431655765.toInt = 1431655765 := by rw [qk1431655765]; rfl
  have rg0 := n_rng a0
  refine r_iload_n C (j := 0) (oDec_at oJ6_bitCount_0f7a4 0 rfl) rfl rfl ?_
  refine r_iload_n C (j := 0) (oDec_at oJ6_bitCount_0f7a4 1 rfl) rfl rfl ?_
  refine r_iconst C (oDec_at oJ6_bitCount_0f7a4 2 rfl) (v := k1) (by rw [qk1]; rfl) ?_
  obtain ⟨v1, ev1⟩ : ∃ z : Int32, (a0.toUInt32 >>> (k1.toUInt32 &&& Int32.toUInt32 31)).toInt32 = z := ⟨_, rfl⟩
  have rv1 := n_rng v1
  have hv1 := n_ushr 1 ev1 (by rw [qk1]; rfl) (by decide) 2147483648 (by decide)
  refine r_iushr C v1 (oDec_at oJ6_bitCount_0f7a4 3 rfl) ev1 ?_
  refine r_ldcw C (v := k1431655765) (by rw [qk1431655765]; exact kcJ6_265) (oDec_at oJ6_bitCount_0f7a4 4 rfl) ?_
  obtain ⟨v2, ev2⟩ : ∃ z : Int32, z = v1 &&& k1431655765 := ⟨_, rfl⟩
  have hv2 := n_and ev2
  have rv2 := n_rng v2
  refine r_iand C v2 (oDec_at oJ6_bitCount_0f7a4 5 rfl) ev2 ?_
  refine r_pc C 8 rfl ?_
  obtain ⟨v3, ev3⟩ : ∃ z : Int32, z = a0 - v2 := ⟨_, rfl⟩
  have rv3 := n_rng v3
  refine r_isub C v3 (oDec_at oJ6_bitCount_0f7a4 6 rfl) ev3 ?_
  refine r_istore_n C (lv' := [(0, .int v3)]) [0] (oDec_at oJ6_bitCount_0f7a4 7 rfl) rfl (by decide) rfl ?_
  refine r_iload_n C (j := 0) (oDec_at oJ6_bitCount_0f7a4 8 rfl) rfl rfl ?_
  refine r_ldcw C (v := k858993459) (by rw [qk858993459]; exact kcJ6_266) (oDec_at oJ6_bitCount_0f7a4 9 rfl) ?_
  obtain ⟨v4, ev4⟩ : ∃ z : Int32, z = v3 &&& k858993459 := ⟨_, rfl⟩
  have hv4 := n_and ev4
  have rv4 := n_rng v4
  refine r_iand C v4 (oDec_at oJ6_bitCount_0f7a4 10 rfl) ev4 ?_
  refine r_iload_n C (j := 0) (oDec_at oJ6_bitCount_0f7a4 11 rfl) rfl rfl ?_
  refine r_pc C 16 rfl ?_
  refine r_iconst C (oDec_at oJ6_bitCount_0f7a4 12 rfl) (v := k2) (by rw [qk2]; rfl) ?_
  obtain ⟨v5, ev5⟩ : ∃ z : Int32, (v3.toUInt32 >>> (k2.toUInt32 &&& Int32.toUInt32 31)).toInt32 = z := ⟨_, rfl⟩
  have rv5 := n_rng v5
  have hv5 := n_ushr 2 ev5 (by rw [qk2]; rfl) (by decide) 1073741824 (by decide)
  refine r_iushr C v5 (oDec_at oJ6_bitCount_0f7a4 13 rfl) ev5 ?_
  refine r_ldcw C (v := k858993459) (by rw [qk858993459]; exact kcJ6_266) (oDec_at oJ6_bitCount_0f7a4 14 rfl) ?_
  obtain ⟨v6, ev6⟩ : ∃ z : Int32, z = v5 &&& k858993459 := ⟨_, rfl⟩
  have hv6 := n_and ev6
  have rv6 := n_rng v6
  refine r_iand C v6 (oDec_at oJ6_bitCount_0f7a4 15 rfl) ev6 ?_
  obtain ⟨v7, ev7⟩ : ∃ z : Int32, z = v4 + v6 := ⟨_, rfl⟩
  have rv7 := n_rng v7
  refine r_iadd C v7 (oDec_at oJ6_bitCount_0f7a4 16 rfl) ev7 ?_
  refine r_istore_n C (lv' := [(0, .int v7)]) [0] (oDec_at oJ6_bitCount_0f7a4 17 rfl) rfl (by decide) rfl ?_
  refine r_pc C 24 rfl ?_
  refine r_iload_n C (j := 0) (oDec_at oJ6_bitCount_0f7a4 18 rfl) rfl rfl ?_
  refine r_iload_n C (j := 0) (oDec_at oJ6_bitCount_0f7a4 19 rfl) rfl rfl ?_
  refine r_iconst C (oDec_at oJ6_bitCount_0f7a4 20 rfl) (v := k4) (by rw [qk4]; rfl) ?_
  obtain ⟨v8, ev8⟩ : ∃ z : Int32, (v7.toUInt32 >>> (k4.toUInt32 &&& Int32.toUInt32 31)).toInt32 = z := ⟨_, rfl⟩
  have rv8 := n_rng v8
  have hv8 := n_ushr 4 ev8 (by rw [qk4]; rfl) (by decide) 268435456 (by decide)
  refine r_iushr C v8 (oDec_at oJ6_bitCount_0f7a4 21 rfl) ev8 ?_
  obtain ⟨v9, ev9⟩ : ∃ z : Int32, z = v7 + v8 := ⟨_, rfl⟩
  have rv9 := n_rng v9
  refine r_iadd C v9 (oDec_at oJ6_bitCount_0f7a4 22 rfl) ev9 ?_
  refine r_ldcw C (v := k252645135) (by rw [qk252645135]; exact kcJ6_267) (oDec_at oJ6_bitCount_0f7a4 23 rfl) ?_
  refine r_pc C 32 rfl ?_
  obtain ⟨v10, ev10⟩ : ∃ z : Int32, z = v9 &&& k252645135 := ⟨_, rfl⟩
  have hv10 := n_and ev10
  have rv10 := n_rng v10
  refine r_iand C v10 (oDec_at oJ6_bitCount_0f7a4 24 rfl) ev10 ?_
  refine r_istore_n C (lv' := [(0, .int v10)]) [0] (oDec_at oJ6_bitCount_0f7a4 25 rfl) rfl (by decide) rfl ?_
  refine r_iload_n C (j := 0) (oDec_at oJ6_bitCount_0f7a4 26 rfl) rfl rfl ?_
  refine r_iload_n C (j := 0) (oDec_at oJ6_bitCount_0f7a4 27 rfl) rfl rfl ?_
  refine r_bipush C (oDec_at oJ6_bitCount_0f7a4 28 rfl) (v := k8) (by rw [qk8]; rfl) ?_
  obtain ⟨v11, ev11⟩ : ∃ z : Int32, (v10.toUInt32 >>> (k8.toUInt32 &&& Int32.toUInt32 31)).toInt32 = z := ⟨_, rfl⟩
  have rv11 := n_rng v11
  have hv11 := n_ushr 8 ev11 (by rw [qk8]; rfl) (by decide) 16777216 (by decide)
  refine r_iushr C v11 (oDec_at oJ6_bitCount_0f7a4 29 rfl) ev11 ?_
  refine r_pc C 39 rfl ?_
  obtain ⟨v12, ev12⟩ : ∃ z : Int32, z = v10 + v11 := ⟨_, rfl⟩
  have rv12 := n_rng v12
  refine r_iadd C v12 (oDec_at oJ6_bitCount_0f7a4 30 rfl) ev12 ?_
  refine r_istore_n C (lv' := [(0, .int v12)]) [0] (oDec_at oJ6_bitCount_0f7a4 31 rfl) rfl (by decide) rfl ?_
  refine r_iload_n C (j := 0) (oDec_at oJ6_bitCount_0f7a4 32 rfl) rfl rfl ?_
  refine r_iload_n C (j := 0) (oDec_at oJ6_bitCount_0f7a4 33 rfl) rfl rfl ?_
  refine r_bipush C (oDec_at oJ6_bitCount_0f7a4 34 rfl) (v := k16) (by rw [qk16]; rfl) ?_
  obtain ⟨v13, ev13⟩ : ∃ z : Int32, (v12.toUInt32 >>> (k16.toUInt32 &&& Int32.toUInt32 31)).toInt32 = z := ⟨_, rfl⟩
  have rv13 := n_rng v13
  have hv13 := n_ushr 16 ev13 (by rw [qk16]; rfl) (by decide) 65536 (by decide)
  refine r_iushr C v13 (oDec_at oJ6_bitCount_0f7a4 35 rfl) ev13 ?_
  refine r_pc C 46 rfl ?_
  obtain ⟨v14, ev14⟩ : ∃ z : Int32, z = v12 + v13 := ⟨_, rfl⟩
  have rv14 := n_rng v14
  refine r_iadd C v14 (oDec_at oJ6_bitCount_0f7a4 36 rfl) ev14 ?_
  refine r_istore_n C (lv' := [(0, .int v14)]) [0] (oDec_at oJ6_bitCount_0f7a4 37 rfl) rfl (by decide) rfl ?_
  refine r_iload_n C (j := 0) (oDec_at oJ6_bitCount_0f7a4 38 rfl) rfl rfl ?_
  refine r_bipush C (oDec_at oJ6_bitCount_0f7a4 39 rfl) (v := k63) (by rw [qk63]; rfl) ?_
  obtain ⟨v15, ev15⟩ : ∃ z : Int32, z = v14 &&& k63 := ⟨_, rfl⟩
  have hv15 := n_and ev15
  have rv15 := n_rng v15
  refine r_iand C v15 (oDec_at oJ6_bitCount_0f7a4 40 rfl) ev15 ?_
  exact r_iret C (oDec_at oJ6_bitCount_0f7a4 41 rfl) ⟨_, rfl, trivial⟩
set_option maxHeartbeats 4000000 in
set_option maxRecDepth 100000 in
theorem ct_J9_floorMod_7cf53 (l : Launch) (E : oE) (s : oS) (a0 : Int32) (a1 : Int32) (hp0 : 1 ≤ a1.toInt) : oMet l 1 yJ9_floorMod_7cf53 cJ9_floorMod_7cf53 3 (some .int) [] E s [.int a0, .int a1] (oPi (fun r u => (0 ≤ r.toInt ∧ r.toInt < a1.toInt))) := by
  refine oMet.ofF (lv := [(0, .int a0), (1, .int a1)]) (by decide +kernel) (Nat.le_of_ble_eq_true rfl) rfl (fun J C hT => ?_)
  have C : oC l 1 cJ9_floorMod_7cf53 RJ9 3 (some .int) [] E s (oPi (fun r u => (0 ≤ r.toInt ∧ r.toInt < a1.toInt))) J := C
  have rg0 := n_rng a0
  have rg1 := n_rng a1
  refine r_iload_n C (j := 0) (oDec_at oJ9_floorMod_7cf53 0 rfl) rfl rfl ?_
  refine r_iload_n C (j := 1) (oDec_at oJ9_floorMod_7cf53 1 rfl) rfl rfl ?_
  obtain ⟨v1, ev1⟩ : ∃ z : Int32, z = a0 - a0 / a1 * a1 := ⟨_, rfl⟩
  have rv1 := n_rng v1
  have hfv1 := n_remV ev1 (by omega)
  refine r_irem C v1 (oDec_at oJ9_floorMod_7cf53 2 rfl) (n_ne0 (by omega)) ev1 ?_
  refine r_istore_n C (lv' := [(0, .int a0), (1, .int a1), (2, .int v1)]) [1, 2, 0] (oDec_at oJ9_floorMod_7cf53 3 rfl) rfl (by decide) rfl ?_
  refine r_iload_n C (j := 0) (oDec_at oJ9_floorMod_7cf53 4 rfl) rfl rfl ?_
  refine r_iload_n C (j := 1) (oDec_at oJ9_floorMod_7cf53 5 rfl) rfl rfl ?_
  refine r_pc C 6 rfl ?_
  obtain ⟨v2, ev2⟩ : ∃ z : Int32, z = a0 ^^^ a1 := ⟨_, rfl⟩
  have rv2 := n_rng v2
  have hfv2 := n_xor ev2
  refine r_ixor C v2 (oDec_at oJ9_floorMod_7cf53 6 rfl) ev2 ?_
  refine r_if_ge C 18 (oDec_at oJ9_floorMod_7cf53 7 rfl) (by decide) (fun cd3 => ?_) (fun cd3 => ?_)
  · skip
    refine r_iload_n C (j := 2) (oDec_at oJ9_floorMod_7cf53 14 rfl) rfl rfl ?_
    exact r_iret C (oDec_at oJ9_floorMod_7cf53 15 rfl) ⟨_, rfl, by omega⟩
  · skip
    refine r_iload_n C (j := 2) (oDec_at oJ9_floorMod_7cf53 8 rfl) rfl rfl ?_
    refine r_if_eq C 18 (oDec_at oJ9_floorMod_7cf53 9 rfl) (by decide) (fun cd4 => ?_) (fun cd4 => ?_)
    · skip
      refine r_iload_n C (j := 2) (oDec_at oJ9_floorMod_7cf53 14 rfl) rfl rfl ?_
      exact r_iret C (oDec_at oJ9_floorMod_7cf53 15 rfl) ⟨_, rfl, by omega⟩
    · skip
      refine r_iload_n C (j := 2) (oDec_at oJ9_floorMod_7cf53 10 rfl) rfl rfl ?_
      refine r_iload_n C (j := 1) (oDec_at oJ9_floorMod_7cf53 11 rfl) rfl rfl ?_
      obtain ⟨v5, ev5⟩ : ∃ z : Int32, z = v1 + a1 := ⟨_, rfl⟩
      have hv5 : v5.toInt = v1.toInt + a1.toInt := n_add ev5 (by omega) (by omega)
      refine r_iadd C v5 (oDec_at oJ9_floorMod_7cf53 12 rfl) ev5 ?_
      exact r_iret C (oDec_at oJ9_floorMod_7cf53 13 rfl) ⟨_, rfl, by omega⟩
set_option maxHeartbeats 4000000 in
set_option maxRecDepth 100000 in
theorem ct_J7_fill_53178 (l : Launch) (E : oE) (s : oS) (c0 q0 n0 : Nat) (hk0 : okd c0 = q0) (h13_0 : 13 ≤ q0) (h9_0 : q0 < 999) (ht0 : oat q0 = 0) (hn0 : oln q0 = n0) (a1 : Int32) (hpE : ∀ k, olo q0 k ≤ a1.toInt ∧ a1.toInt ≤ ohi q0 k) (hp0 : n0 ≤ 10000) : oMet l 1 yJ7_fill_53178 cJ7_fill_53178 4 none [(q0, 9999)] E s [.ref (oad E c0), .int a1] (oPv (fun u => True)) := by
  refine oMet.ofF (lv := [(0, .ref (oad E c0)), (1, .int a1)]) (by decide +kernel) (Nat.le_of_ble_eq_true rfl) rfl (fun J C hT => ?_)
  have C : oC l 1 cJ7_fill_53178 RJ7 4 none [(q0, 9999)] E s (oPv (fun u => True)) J := C
  obtain ⟨k0, qk0⟩ : ∃ z : Int32, z = 0 := ⟨_, rfl⟩
  have ek0 : k0.toInt = 0 := by rw [qk0]; rfl
  have rg1 := n_rng a1
  have key : ∀ n : Nat, (∀ (t : oS) (x2 : Int32) (x3 : Int32), (0 ≤ x2.toInt ∧ x2.toInt ≤ x3.toInt) → (x3.toInt = (n0 : Int)) → x3.toInt - x2.toInt + 1 ≤ (n : Int) → J t 5 [(0, .ref (oad E c0)), (1, .int a1), (2, .int x2), (3, .int x3)] []) := by
    intro n
    induction n using Nat.strongRecOn with
    | _ n ih =>
      skip
      · intro t x2 x3  iv0 iv1 hmu
        have rx2 := n_rng x2
        have rx3 := n_rng x3
        refine r_iload_n C (j := 2) (oDec_at oJ7_fill_53178 5 rfl) rfl rfl ?_
        refine r_iload_n C (j := 3) (oDec_at oJ7_fill_53178 6 rfl) rfl rfl ?_
        refine r_icmp_ge C 20 (oDec_at oJ7_fill_53178 7 rfl) (by decide) (fun cd1 => ?_) (fun cd1 => ?_)
        · skip
          exact r_vret C (oDec_at oJ7_fill_53178 14 rfl) ⟨rfl, trivial⟩
        · skip
          refine r_aload_n C (j := 0) (oDec_at oJ7_fill_53178 8 rfl) rfl rfl ?_
          refine r_iload_n C (j := 2) (oDec_at oJ7_fill_53178 9 rfl) rfl rfl ?_
          refine r_iload_n C (j := 1) (oDec_at oJ7_fill_53178 10 rfl) rfl rfl ?_
          refine r_iast (n := n0) C hk0 h13_0 ht0 hn0 ⟨by omega, by omega⟩ h9_0 rfl rfl (by simp [oin]) (by simp [oin]) (hpE _) (oDec_at oJ7_fill_53178 11 rfl) ?_
          obtain ⟨v2, ev2⟩ : ∃ z : Int32, x2 + Int32.ofInt 1 = z := ⟨_, rfl⟩
          have hv2 : v2.toInt = x2.toInt + 1 := n_inc ev2 (by decide) (by omega) (by omega)
          refine r_iinc C (j := 2) (lv' := [(0, .ref (oad E c0)), (1, .int a1), (2, .int v2), (3, .int x3)]) v2 [1, 2, 0, 3] (oDec_at oJ7_fill_53178 12 rfl) rfl ev2 (by decide) rfl ?_
          refine r_goto C (tgt := 5) (oDec_at oJ7_fill_53178 13 rfl) (by decide) ?_
          exact (ih (n - 1) (by omega)) ((pI t c0 x2.toNatClampNeg a1)) v2 x3  (by omega) (by omega) (by omega)
  refine r_iconst C (oDec_at oJ7_fill_53178 0 rfl) (v := k0) (by rw [qk0]; rfl) ?_
  refine r_istore_n C (lv' := [(0, .ref (oad E c0)), (1, .int a1), (2, .int k0)]) [1, 2, 0] (oDec_at oJ7_fill_53178 1 rfl) rfl (by decide) rfl ?_
  refine r_aload_n C (j := 0) (oDec_at oJ7_fill_53178 2 rfl) rfl rfl ?_
  obtain ⟨v3, ev3⟩ : ∃ z : Int32, Int32.ofNat n0 = z := ⟨_, rfl⟩
  have hv3 : v3.toInt = (n0 : Int) := n_ofNat ev3 (by omega)
  refine r_alen0 (n := n0) C v3 hk0 h13_0 ht0 hn0 h9_0 ev3 (oDec_at oJ7_fill_53178 3 rfl) ?_
  refine r_istore_n C (lv' := [(0, .ref (oad E c0)), (1, .int a1), (2, .int k0), (3, .int v3)]) [1, 2, 3, 0] (oDec_at oJ7_fill_53178 4 rfl) rfl (by decide) rfl ?_
  exact (key (v3.toInt - k0.toInt + 1).toNat) (s) k0 v3  (by omega) (by omega) (by omega)
