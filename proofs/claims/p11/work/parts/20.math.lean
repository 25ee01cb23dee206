set_option maxHeartbeats 4000000 in
set_option maxRecDepth 100000 in
theorem ct_J9_max_7cf53 (l : Launch) (E : oE) (s : oS) (a0 : Int32) (a1 : Int32)  : oMet l 1 yJ9_max_7cf53 cJ9_max_7cf53 2 (some .int) [] E s [.int a0, .int a1] (oPi (fun r u => ((a0.toInt ≤ a1.toInt ∧ r.toInt = a1.toInt) ∨ (a1.toInt < a0.toInt ∧ r.toInt = a0.toInt)))) := by
  refine oMet.ofF (lv := [(0, .int a0), (1, .int a1)]) (by decide +kernel) (Nat.le_of_ble_eq_true rfl) rfl (fun J C hT => ?_)
  have C : oC l 1 cJ9_max_7cf53 RJ9 2 (some .int) [] E s (oPi (fun r u => ((a0.toInt ≤ a1.toInt ∧ r.toInt = a1.toInt) ∨ (a1.toInt < a0.toInt ∧ r.toInt = a0.toInt)))) J := C
  have rg0 := n_rng a0
  have rg1 := n_rng a1
  refine r_iload_n C (j := 0) dJ9_max_7cf53_0 rfl rfl ?_
  refine r_iload_n C (j := 1) dJ9_max_7cf53_1 rfl rfl ?_
  refine r_icmp_lt C 9 dJ9_max_7cf53_2 (by decide) (fun c1 => ?_) (fun c1 => ?_)
  · skip
    refine r_iload_n C (j := 1) dJ9_max_7cf53_9 rfl rfl ?_
    exact r_iret C dJ9_max_7cf53_10 ⟨_, rfl, by omega⟩
  · skip
    refine r_iload_n C (j := 0) dJ9_max_7cf53_5 rfl rfl ?_
    refine r_goto C (tgt := 10) dJ9_max_7cf53_6 (by decide) ?_
    exact r_iret C dJ9_max_7cf53_10 ⟨_, rfl, by omega⟩
set_option maxHeartbeats 4000000 in
set_option maxRecDepth 100000 in
theorem ct_J9_min_7cf53 (l : Launch) (E : oE) (s : oS) (a0 : Int32) (a1 : Int32)  : oMet l 1 yJ9_min_7cf53 cJ9_min_7cf53 2 (some .int) [] E s [.int a0, .int a1] (oPi (fun r u => (r.toInt ≤ a0.toInt ∧ r.toInt ≤ a1.toInt ∧ (r.toInt = a0.toInt ∨ r.toInt = a1.toInt)))) := by
  refine oMet.ofF (lv := [(0, .int a0), (1, .int a1)]) (by decide +kernel) (Nat.le_of_ble_eq_true rfl) rfl (fun J C hT => ?_)
  have C : oC l 1 cJ9_min_7cf53 RJ9 2 (some .int) [] E s (oPi (fun r u => (r.toInt ≤ a0.toInt ∧ r.toInt ≤ a1.toInt ∧ (r.toInt = a0.toInt ∨ r.toInt = a1.toInt)))) J := C
  have rg0 := n_rng a0
  have rg1 := n_rng a1
  refine r_iload_n C (j := 0) dJ9_min_7cf53_0 rfl rfl ?_
  refine r_iload_n C (j := 1) dJ9_min_7cf53_1 rfl rfl ?_
  refine r_icmp_gt C 9 dJ9_min_7cf53_2 (by decide) (fun c1 => ?_) (fun c1 => ?_)
  · skip
    refine r_iload_n C (j := 1) dJ9_min_7cf53_9 rfl rfl ?_
    exact r_iret C dJ9_min_7cf53_10 ⟨_, rfl, by omega⟩
  · skip
    refine r_iload_n C (j := 0) dJ9_min_7cf53_5 rfl rfl ?_
    refine r_goto C (tgt := 10) dJ9_min_7cf53_6 (by decide) ?_
    exact r_iret C dJ9_min_7cf53_10 ⟨_, rfl, by omega⟩
set_option maxHeartbeats 4000000 in
set_option maxRecDepth 100000 in
theorem ct_J9_abs_0f7a4 (l : Launch) (E : oE) (s : oS) (a0 : Int32)  : oMet l 1 yJ9_abs_0f7a4 cJ9_abs_0f7a4 1 (some .int) [] E s [.int a0] (oPi (fun r u => True)) := by
  refine oMet.ofF (lv := [(0, .int a0)]) (by decide +kernel) (Nat.le_of_ble_eq_true rfl) rfl (fun J C hT => ?_)
  have C : oC l 1 cJ9_abs_0f7a4 RJ9 1 (some .int) [] E s (oPi (fun r u => True)) J := C
  have rg0 := n_rng a0
  refine r_iload_n C (j := 0) dJ9_abs_0f7a4_0 rfl rfl ?_
  refine r_if_ge C 9 dJ9_abs_0f7a4_1 (by decide) (fun c1 => ?_) (fun c1 => ?_)
  · skip
    refine r_iload_n C (j := 0) dJ9_abs_0f7a4_9 rfl rfl ?_
    exact r_iret C dJ9_abs_0f7a4_10 ⟨_, rfl, trivial⟩
  · skip
    refine r_iload_n C (j := 0) dJ9_abs_0f7a4_4 rfl rfl ?_
    obtain ⟨v2, ev2⟩ : ∃ z : Int32, z = -a0 := ⟨_, rfl⟩
    refine r_ineg C v2 dJ9_abs_0f7a4_5 ev2 ?_
    refine r_goto C (tgt := 10) dJ9_abs_0f7a4_6 (by decide) ?_
    exact r_iret C dJ9_abs_0f7a4_10 ⟨_, rfl, trivial⟩
set_option maxHeartbeats 4000000 in
set_option maxRecDepth 100000 in
theorem ct_J9_floorDiv_7cf53 (l : Launch) (E : oE) (s : oS) (a0 : Int32) (a1 : Int32) (hp0 : a1.toInt ≠ 0) : oMet l 1 yJ9_floorDiv_7cf53 cJ9_floorDiv_7cf53 3 (some .int) [] E s [.int a0, .int a1] (oPi (fun r u => True)) := by
  refine oMet.ofF (lv := [(0, .int a0), (1, .int a1)]) (by decide +kernel) (Nat.le_of_ble_eq_true rfl) rfl (fun J C hT => ?_)
  have C : oC l 1 cJ9_floorDiv_7cf53 RJ9 3 (some .int) [] E s (oPi (fun r u => True)) J := C
  obtain ⟨k1, qk1⟩ : ∃ z : Int32, z = 1 := ⟨_, rfl⟩
  have ek1 : k1.toInt = 1 := by rw [qk1]; rfl
  have rg0 := n_rng a0
  have rg1 := n_rng a1
  refine r_iload_n C (j := 0) dJ9_floorDiv_7cf53_0 rfl rfl ?_
  refine r_iload_n C (j := 1) dJ9_floorDiv_7cf53_1 rfl rfl ?_
  obtain ⟨v1, ev1⟩ : ∃ z : Int32, z = a0 / a1 := ⟨_, rfl⟩
  have rv1 := n_rng v1
  refine r_idiv C v1 dJ9_floorDiv_7cf53_2 (n_ne0 (by omega)) ev1 ?_
  refine r_istore_n C (lv' := [(0, .int a0), (1, .int a1), (2, .int v1)]) [1, 2, 0] dJ9_floorDiv_7cf53_3 rfl (by decide) rfl ?_
  refine r_iload_n C (j := 0) dJ9_floorDiv_7cf53_4 rfl rfl ?_
  refine r_iload_n C (j := 1) dJ9_floorDiv_7cf53_5 rfl rfl ?_
  obtain ⟨v2, ev2⟩ : ∃ z : Int32, z = a0 ^^^ a1 := ⟨_, rfl⟩
  have rv2 := n_rng v2
  refine r_ixor C v2 dJ9_floorDiv_7cf53_6 ev2 ?_
  refine r_if_ge C 21 dJ9_floorDiv_7cf53_7 (by decide) (fun c3 => ?_) (fun c3 => ?_)
  · skip
    refine r_iload_n C (j := 2) dJ9_floorDiv_7cf53_21 rfl rfl ?_
    exact r_iret C dJ9_floorDiv_7cf53_22 ⟨_, rfl, trivial⟩
  · skip
    refine r_iload_n C (j := 2) dJ9_floorDiv_7cf53_10 rfl rfl ?_
    refine r_iload_n C (j := 1) dJ9_floorDiv_7cf53_11 rfl rfl ?_
    obtain ⟨v4, ev4⟩ : ∃ z : Int32, z = v1 * a1 := ⟨_, rfl⟩
    have rv4 := n_rng v4
    refine r_imul C v4 dJ9_floorDiv_7cf53_12 ev4 ?_
    refine r_iload_n C (j := 0) dJ9_floorDiv_7cf53_13 rfl rfl ?_
    refine r_icmp_eq C 21 dJ9_floorDiv_7cf53_14 (by decide) (fun c5 => ?_) (fun c5 => ?_)
    · skip
      refine r_iload_n C (j := 2) dJ9_floorDiv_7cf53_21 rfl rfl ?_
      exact r_iret C dJ9_floorDiv_7cf53_22 ⟨_, rfl, trivial⟩
    · skip
      refine r_iload_n C (j := 2) dJ9_floorDiv_7cf53_17 rfl rfl ?_
      refine r_iconst C dJ9_floorDiv_7cf53_18 (v := k1) (by rw [qk1]; rfl) ?_
      obtain ⟨v6, ev6⟩ : ∃ z : Int32, z = v1 - k1 := ⟨_, rfl⟩
      have rv6 := n_rng v6
      refine r_isub C v6 dJ9_floorDiv_7cf53_19 ev6 ?_
      exact r_iret C dJ9_floorDiv_7cf53_20 ⟨_, rfl, trivial⟩
set_option maxHeartbeats 4000000 in
set_option maxRecDepth 100000 in
theorem ct_J6_bitCount_0f7a4 (l : Launch) (E : oE) (s : oS) (a0 : Int32)  : oMet l 1 yJ6_bitCount_0f7a4 cJ6_bitCount_0f7a4 1 (some .int) [] E s [.int a0] (oPi (fun r u => True)) := by
  refine oMet.ofF (lv := [(0, .int a0)]) (by decide +kernel) (Nat.le_of_ble_eq_true rfl) rfl (fun J C hT => ?_)
  have C : oC l 1 cJ6_bitCount_0f7a4 RJ6 1 (some .int) [] E s (oPi (fun r u => True)) J := C
  obtain ⟨k1, qk1⟩ : ∃ z : Int32, z = 1 := ⟨_, rfl⟩
  have ek1 : k1.toInt = 1 := by rw [qk1]; rfl
  obtain ⟨k2, qk2⟩ : ∃ z : Int32, z = 2 := ⟨_, rfl⟩
  have ek2 : k2.toInt = 2 := by rw [qk2]; rfl
  obtain ⟨k4, qk4⟩ : ∃ z : Int32, z = 4 := ⟨_, rfl⟩
  have ek4 : k4.toInt = 4 := by rw [qk4]; rfl
  obtain ⟨k8, qk8⟩ : ∃ z : Int32, z = 8 := ⟨_, rfl⟩
  have ek8 : k8.toInt = 8 := by rw [qk8]; rfl
  obtain ⟨k16, qk16⟩ : ∃ z : Int32, z = 16 := ⟨_, rfl⟩
  have ek16 : k16.toInt = 16 := by rw [qk16]; rfl
  obtain ⟨k63, qk63⟩ : ∃ z : Int32, z = 63 := ⟨_, rfl⟩
  have ek63 : k63.toInt = 63 := by rw [qk63]; rfl
  obtain ⟨k252645135, qk252645135⟩ : ∃ z : Int32, z = 252645135 := ⟨_, rfl⟩
  have ek252645135 : k252645135.toInt = 252645135 := by rw [qk252645135]; rfl
  obtain ⟨k858993459, qk858993459⟩ : ∃ z : Int32, z = 858993459 := ⟨_, rfl⟩
  have ek858993459 : k858993459.toInt = 858993459 := by rw [qk858993459]; rfl
  obtain ⟨k1431655765, qk1431655765⟩ : ∃ z : Int32, z = 1431655765 := ⟨_, rfl⟩
  have ek1431655765 : k1431655765.toInt = 1431655765 := by rw [qk1431655765]; rfl
  have rg0 := n_rng a0
  refine r_iload_n C (j := 0) dJ6_bitCount_0f7a4_0 rfl rfl ?_
  refine r_iload_n C (j := 0) dJ6_bitCount_0f7a4_1 rfl rfl ?_
  refine r_iconst C dJ6_bitCount_0f7a4_2 (v := k1) (by rw [qk1]; rfl) ?_
  obtain ⟨v1, ev1⟩ : ∃ z : Int32, (a0.toUInt32 >>> (k1.toUInt32 &&& Int32.toUInt32 31)).toInt32 = z := ⟨_, rfl⟩
  have rv1 := n_rng v1
  refine r_iushr C v1 dJ6_bitCount_0f7a4_3 ev1 ?_
  refine r_ldcw C (v := k1431655765) (by rw [qk1431655765]; exact kcJ6_265) dJ6_bitCount_0f7a4_4 ?_
  obtain ⟨v2, ev2⟩ : ∃ z : Int32, z = v1 &&& k1431655765 := ⟨_, rfl⟩
  have hv2 := n_and ev2
  have rv2 := n_rng v2
  refine r_iand C v2 dJ6_bitCount_0f7a4_7 ev2 ?_
  obtain ⟨v3, ev3⟩ : ∃ z : Int32, z = a0 - v2 := ⟨_, rfl⟩
  have rv3 := n_rng v3
  refine r_isub C v3 dJ6_bitCount_0f7a4_8 ev3 ?_
  refine r_istore_n C (lv' := [(0, .int v3)]) [0] dJ6_bitCount_0f7a4_9 rfl (by decide) rfl ?_
  refine r_iload_n C (j := 0) dJ6_bitCount_0f7a4_10 rfl rfl ?_
  refine r_ldcw C (v := k858993459) (by rw [qk858993459]; exact kcJ6_266) dJ6_bitCount_0f7a4_11 ?_
  obtain ⟨v4, ev4⟩ : ∃ z : Int32, z = v3 &&& k858993459 := ⟨_, rfl⟩
  have hv4 := n_and ev4
  have rv4 := n_rng v4
  refine r_iand C v4 dJ6_bitCount_0f7a4_14 ev4 ?_
  refine r_iload_n C (j := 0) dJ6_bitCount_0f7a4_15 rfl rfl ?_
  refine r_iconst C dJ6_bitCount_0f7a4_16 (v := k2) (by rw [qk2]; rfl) ?_
  obtain ⟨v5, ev5⟩ : ∃ z : Int32, (v3.toUInt32 >>> (k2.toUInt32 &&& Int32.toUInt32 31)).toInt32 = z := ⟨_, rfl⟩
  have rv5 := n_rng v5
  refine r_iushr C v5 dJ6_bitCount_0f7a4_17 ev5 ?_
  refine r_ldcw C (v := k858993459) (by rw [qk858993459]; exact kcJ6_266) dJ6_bitCount_0f7a4_18 ?_
  obtain ⟨v6, ev6⟩ : ∃ z : Int32, z = v5 &&& k858993459 := ⟨_, rfl⟩
  have hv6 := n_and ev6
  have rv6 := n_rng v6
  refine r_iand C v6 dJ6_bitCount_0f7a4_21 ev6 ?_
  obtain ⟨v7, ev7⟩ : ∃ z : Int32, z = v4 + v6 := ⟨_, rfl⟩
  have rv7 := n_rng v7
  refine r_iadd C v7 dJ6_bitCount_0f7a4_22 ev7 ?_
  refine r_istore_n C (lv' := [(0, .int v7)]) [0] dJ6_bitCount_0f7a4_23 rfl (by decide) rfl ?_
  refine r_iload_n C (j := 0) dJ6_bitCount_0f7a4_24 rfl rfl ?_
  refine r_iload_n C (j := 0) dJ6_bitCount_0f7a4_25 rfl rfl ?_
  refine r_iconst C dJ6_bitCount_0f7a4_26 (v := k4) (by rw [qk4]; rfl) ?_
  obtain ⟨v8, ev8⟩ : ∃ z : Int32, (v7.toUInt32 >>> (k4.toUInt32 &&& Int32.toUInt32 31)).toInt32 = z := ⟨_, rfl⟩
  have rv8 := n_rng v8
  refine r_iushr C v8 dJ6_bitCount_0f7a4_27 ev8 ?_
  obtain ⟨v9, ev9⟩ : ∃ z : Int32, z = v7 + v8 := ⟨_, rfl⟩
  have rv9 := n_rng v9
  refine r_iadd C v9 dJ6_bitCount_0f7a4_28 ev9 ?_
  refine r_ldcw C (v := k252645135) (by rw [qk252645135]; exact kcJ6_267) dJ6_bitCount_0f7a4_29 ?_
  obtain ⟨v10, ev10⟩ : ∃ z : Int32, z = v9 &&& k252645135 := ⟨_, rfl⟩
  have hv10 := n_and ev10
  have rv10 := n_rng v10
  refine r_iand C v10 dJ6_bitCount_0f7a4_32 ev10 ?_
  refine r_istore_n C (lv' := [(0, .int v10)]) [0] dJ6_bitCount_0f7a4_33 rfl (by decide) rfl ?_
  refine r_iload_n C (j := 0) dJ6_bitCount_0f7a4_34 rfl rfl ?_
  refine r_iload_n C (j := 0) dJ6_bitCount_0f7a4_35 rfl rfl ?_
  refine r_bipush C dJ6_bitCount_0f7a4_36 (v := k8) (by rw [qk8]; rfl) ?_
  obtain ⟨v11, ev11⟩ : ∃ z : Int32, (v10.toUInt32 >>> (k8.toUInt32 &&& Int32.toUInt32 31)).toInt32 = z := ⟨_, rfl⟩
  have rv11 := n_rng v11
  refine r_iushr C v11 dJ6_bitCount_0f7a4_38 ev11 ?_
  obtain ⟨v12, ev12⟩ : ∃ z : Int32, z = v10 + v11 := ⟨_, rfl⟩
  have rv12 := n_rng v12
  refine r_iadd C v12 dJ6_bitCount_0f7a4_39 ev12 ?_
  refine r_istore_n C (lv' := [(0, .int v12)]) [0] dJ6_bitCount_0f7a4_40 rfl (by decide) rfl ?_
  refine r_iload_n C (j := 0) dJ6_bitCount_0f7a4_41 rfl rfl ?_
  refine r_iload_n C (j := 0) dJ6_bitCount_0f7a4_42 rfl rfl ?_
  refine r_bipush C dJ6_bitCount_0f7a4_43 (v := k16) (by rw [qk16]; rfl) ?_
  obtain ⟨v13, ev13⟩ : ∃ z : Int32, (v12.toUInt32 >>> (k16.toUInt32 &&& Int32.toUInt32 31)).toInt32 = z := ⟨_, rfl⟩
  have rv13 := n_rng v13
  refine r_iushr C v13 dJ6_bitCount_0f7a4_45 ev13 ?_
  obtain ⟨v14, ev14⟩ : ∃ z : Int32, z = v12 + v13 := ⟨_, rfl⟩
  have rv14 := n_rng v14
  refine r_iadd C v14 dJ6_bitCount_0f7a4_46 ev14 ?_
  refine r_istore_n C (lv' := [(0, .int v14)]) [0] dJ6_bitCount_0f7a4_47 rfl (by decide) rfl ?_
  refine r_iload_n C (j := 0) dJ6_bitCount_0f7a4_48 rfl rfl ?_
  refine r_bipush C dJ6_bitCount_0f7a4_49 (v := k63) (by rw [qk63]; rfl) ?_
  obtain ⟨v15, ev15⟩ : ∃ z : Int32, z = v14 &&& k63 := ⟨_, rfl⟩
  have hv15 := n_and ev15
  have rv15 := n_rng v15
  refine r_iand C v15 dJ6_bitCount_0f7a4_51 ev15 ?_
  exact r_iret C dJ6_bitCount_0f7a4_52 ⟨_, rfl, trivial⟩
