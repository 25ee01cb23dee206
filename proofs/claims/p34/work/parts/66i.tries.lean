set_option maxHeartbeats 4000000 in
set_option maxRecDepth 100000 in
theorem ct9_J9_floorMod (l : Launch) (E : oE) (s : oS) (a0 : Int32) (a1 : Int32)  (hp0 : 1 ≤ a1.toInt) : oMet l 1 yJ9_floorMod_7cf53 cJ9_floorMod_7cf53 3 (some .int) [] E s [.int a0, .int a1] (oPi (fun r u => (0 ≤ r.toInt ∧ r.toInt < a1.toInt) ∧ (0 ≤ a0.toInt → r.toInt = a0.toInt % a1.toInt))) := by
  refine oMet.ofF (lv := [(0, .int a0), (1, .int a1)]) (by decide +kernel) (Nat.le_of_ble_eq_true rfl) rfl (fun J C hT => ?_)
  have C : oC l 1 cJ9_floorMod_7cf53 RJ9 3 (some .int) [] E s (oPi (fun r u => (0 ≤ r.toInt ∧ r.toInt < a1.toInt) ∧ (0 ≤ a0.toInt → r.toInt = a0.toInt % a1.toInt))) J := C
  have rg0 := n_rng a0
  have rg1 := n_rng a1
  refine r_iload_n C (j := 0) (oDec_at oJ9_floorMod_7cf53 0 rfl) rfl rfl ?_
  refine r_iload_n C (j := 1) (oDec_at oJ9_floorMod_7cf53 1 rfl) rfl rfl ?_
  obtain ⟨v1, ev1⟩ : ∃ z : Int32, z = a0 - a0 / a1 * a1 := ⟨_, rfl⟩
  have rv1 := n_rng v1
  have hfv1 := n_remV ev1 (by omega)
  refine r_irem C v1 (oDec_at oJ9_floorMod_7cf53 2 rfl) (n_ne0 (by omega)) ev1 ?_
  have hrm9 := n_rem ev1 rfl hp0
  refine r_istore_n C (lv' := [(0, .int a0), (1, .int a1), (2, .int v1)]) [1, 2, 0] (oDec_at oJ9_floorMod_7cf53 3 rfl) rfl (by decide) rfl ?_
  refine r_iload_n C (j := 0) (oDec_at oJ9_floorMod_7cf53 4 rfl) rfl rfl ?_
  refine r_iload_n C (j := 1) (oDec_at oJ9_floorMod_7cf53 5 rfl) rfl rfl ?_
  refine r_pc C 6 rfl ?_
  obtain ⟨v2, ev2⟩ : ∃ z : Int32, z = a0 ^^^ a1 := ⟨_, rfl⟩
  have rv2 := n_rng v2
  have hfv2 := n_xor ev2
  refine r_ixor C v2 (oDec_at oJ9_floorMod_7cf53 6 rfl) ev2 ?_
  refine r_if_ge C 18 (oDec_at oJ9_floorMod_7cf53 7 rfl) (by decide) (fun cd3 => ?_) (fun cd3 => ?_)
  · skip
    refine r_iload_n C (j := 2) (oDec_at oJ9_floorMod_7cf53 14 rfl) rfl rfl ?_
    exact r_iret C (oDec_at oJ9_floorMod_7cf53 15 rfl) ⟨_, rfl, ⟨by omega, by first | exact fun h => hrm9.1 h | (intro h; exfalso; omega)⟩⟩
  · skip
    refine r_iload_n C (j := 2) (oDec_at oJ9_floorMod_7cf53 8 rfl) rfl rfl ?_
    refine r_if_eq C 18 (oDec_at oJ9_floorMod_7cf53 9 rfl) (by decide) (fun cd4 => ?_) (fun cd4 => ?_)
    · skip
      refine r_iload_n C (j := 2) (oDec_at oJ9_floorMod_7cf53 14 rfl) rfl rfl ?_
      exact r_iret C (oDec_at oJ9_floorMod_7cf53 15 rfl) ⟨_, rfl, ⟨by omega, by first | exact fun h => hrm9.1 h | (intro h; exfalso; omega)⟩⟩
    · skip
      refine r_iload_n C (j := 2) (oDec_at oJ9_floorMod_7cf53 10 rfl) rfl rfl ?_
      refine r_iload_n C (j := 1) (oDec_at oJ9_floorMod_7cf53 11 rfl) rfl rfl ?_
      obtain ⟨v5, ev5⟩ : ∃ z : Int32, z = v1 + a1 := ⟨_, rfl⟩
      have hv5 : v5.toInt = v1.toInt + a1.toInt := n_add ev5 (by omega) (by omega)
      refine r_iadd C v5 (oDec_at oJ9_floorMod_7cf53 12 rfl) ev5 ?_
      exact r_iret C (oDec_at oJ9_floorMod_7cf53 13 rfl) ⟨_, rfl, ⟨by omega, by first | exact fun h => hrm9.1 h | (intro h; exfalso; omega)⟩⟩
set_option maxHeartbeats 4000000 in
set_option maxRecDepth 100000 in
theorem ct9_J6_bitCount (l : Launch) (E : oE) (s : oS) (a0 : Int32)   : oMet l 1 yJ6_bitCount_0f7a4 cJ6_bitCount_0f7a4 1 (some .int) [] E s [.int a0] (oPi (fun r u => (a0.toInt = 0 → r.toInt = 0))) := by
  refine oMet.ofF (lv := [(0, .int a0)]) (by decide +kernel) (Nat.le_of_ble_eq_true rfl) rfl (fun J C hT => ?_)
  have C : oC l 1 cJ6_bitCount_0f7a4 RJ6 1 (some .int) [] E s (oPi (fun r u => (a0.toInt = 0 → r.toInt = 0))) J := C
  obtain ⟨k1, qk1⟩ : ∃ z : Int32, z = 1 := ⟨_, rfl⟩
  have ek1 : k1.toInt = 1 := by rw [qk1]; rfl
  obtain ⟨k2, qk2⟩ : ∃ z : Int32, z = 2 := ⟨_, rfl⟩
  have ek2 : k2.toInt = 2 := by rw [qk2]; rfl
  obtain ⟨k4, qk4⟩ : ∃ z : Int32, z = 4 := ⟨_, rfl⟩
  have ek4 : k4.toInt = 4 := by rw [qk4]; rfl
  obtain ⟨k8, qk8⟩ : ∃ z : Int32, z = 8 := ⟨_, rfl⟩
  have ek8 : k8.toInt = 8 := by rw [qk8]; rfl
  obtain ⟨k16, qk16⟩ : ∃ z : Int32, z = 16 := ⟨_, rfl⟩
  have ek16 : k16.toInt = 16 := by rw [qk16]; rfl
  obtain ⟨k63, qk63⟩ : ∃ z : Int32, z = 63 := ⟨_, rfl⟩
  have ek63 : k63.toInt = 63 := by rw [qk63]; rfl
  obtain ⟨k252645135, qk252645135⟩ : ∃ z : Int32, z = 252645135 := ⟨_, rfl⟩
  have ek252645135 : k252645135.toInt = 252645135 := by rw [qk252645135]; rfl
  obtain ⟨k858993459, qk858993459⟩ : ∃ z : Int32, z = 858993459 := ⟨_, rfl⟩
  have ek858993459 : k858993459.toInt = 858993459 := by rw [qk858993459]; rfl
  obtain ⟨k1431655765, qk1431655765⟩ : ∃ z : Int32, z = 1431655765 := ⟨_, rfl⟩
  have ek1431655765 : k1431655765.toInt = 1431655765 := by rw [qk1431655765]; rfl
  have rg0 := n_rng a0
  refine r_iload_n C (j := 0) (oDec_at oJ6_bitCount_0f7a4 0 rfl) rfl rfl ?_
  refine r_iload_n C (j := 0) (oDec_at oJ6_bitCount_0f7a4 1 rfl) rfl rfl ?_
  refine r_iconst C (oDec_at oJ6_bitCount_0f7a4 2 rfl) (v := k1) (by rw [qk1]; rfl) ?_
  obtain ⟨v1, ev1⟩ : ∃ z : Int32, (a0.toUInt32 >>> (k1.toUInt32 &&& Int32.toUInt32 31)).toInt32 = z := ⟨_, rfl⟩
  have rv1 := n_rng v1
  have hv1 := n_ushr 1 ev1 (by rw [qk1]; rfl) (by decide) 2147483648 (by decide)
  refine r_iushr C v1 (oDec_at oJ6_bitCount_0f7a4 3 rfl) ev1 ?_
  refine r_ldcw C (v := k1431655765) (by rw [qk1431655765]; exact kcJ6_265) (oDec_at oJ6_bitCount_0f7a4 4 rfl) ?_
  obtain ⟨v2, ev2⟩ : ∃ z : Int32, z = v1 &&& k1431655765 := ⟨_, rfl⟩
  have hv2 := n_and ev2
  have rv2 := n_rng v2
  refine r_iand C v2 (oDec_at oJ6_bitCount_0f7a4 5 rfl) ev2 ?_
  refine r_pc C 8 rfl ?_
  obtain ⟨v3, ev3⟩ : ∃ z : Int32, z = a0 - v2 := ⟨_, rfl⟩
  have rv3 := n_rng v3
  refine r_isub C v3 (oDec_at oJ6_bitCount_0f7a4 6 rfl) ev3 ?_
  refine r_istore_n C (lv' := [(0, .int v3)]) [0] (oDec_at oJ6_bitCount_0f7a4 7 rfl) rfl (by decide) rfl ?_
  refine r_iload_n C (j := 0) (oDec_at oJ6_bitCount_0f7a4 8 rfl) rfl rfl ?_
  refine r_ldcw C (v := k858993459) (by rw [qk858993459]; exact kcJ6_266) (oDec_at oJ6_bitCount_0f7a4 9 rfl) ?_
  obtain ⟨v4, ev4⟩ : ∃ z : Int32, z = v3 &&& k858993459 := ⟨_, rfl⟩
  have hv4 := n_and ev4
  have rv4 := n_rng v4
  refine r_iand C v4 (oDec_at oJ6_bitCount_0f7a4 10 rfl) ev4 ?_
  refine r_iload_n C (j := 0) (oDec_at oJ6_bitCount_0f7a4 11 rfl) rfl rfl ?_
  refine r_pc C 16 rfl ?_
  refine r_iconst C (oDec_at oJ6_bitCount_0f7a4 12 rfl) (v := k2) (by rw [qk2]; rfl) ?_
  obtain ⟨v5, ev5⟩ : ∃ z : Int32, (v3.toUInt32 >>> (k2.toUInt32 &&& Int32.toUInt32 31)).toInt32 = z := ⟨_, rfl⟩
  have rv5 := n_rng v5
  have hv5 := n_ushr 2 ev5 (by rw [qk2]; rfl) (by decide) 1073741824 (by decide)
  refine r_iushr C v5 (oDec_at oJ6_bitCount_0f7a4 13 rfl) ev5 ?_
  refine r_ldcw C (v := k858993459) (by rw [qk858993459]; exact kcJ6_266) (oDec_at oJ6_bitCount_0f7a4 14 rfl) ?_
  obtain ⟨v6, ev6⟩ : ∃ z : Int32, z = v5 &&& k858993459 := ⟨_, rfl⟩
  have hv6 := n_and ev6
  have rv6 := n_rng v6
  refine r_iand C v6 (oDec_at oJ6_bitCount_0f7a4 15 rfl) ev6 ?_
  obtain ⟨v7, ev7⟩ : ∃ z : Int32, z = v4 + v6 := ⟨_, rfl⟩
  have rv7 := n_rng v7
  refine r_iadd C v7 (oDec_at oJ6_bitCount_0f7a4 16 rfl) ev7 ?_
  refine r_istore_n C (lv' := [(0, .int v7)]) [0] (oDec_at oJ6_bitCount_0f7a4 17 rfl) rfl (by decide) rfl ?_
  refine r_pc C 24 rfl ?_
  refine r_iload_n C (j := 0) (oDec_at oJ6_bitCount_0f7a4 18 rfl) rfl rfl ?_
  refine r_iload_n C (j := 0) (oDec_at oJ6_bitCount_0f7a4 19 rfl) rfl rfl ?_
  refine r_iconst C (oDec_at oJ6_bitCount_0f7a4 20 rfl) (v := k4) (by rw [qk4]; rfl) ?_
  obtain ⟨v8, ev8⟩ : ∃ z : Int32, (v7.toUInt32 >>> (k4.toUInt32 &&& Int32.toUInt32 31)).toInt32 = z := ⟨_, rfl⟩
  have rv8 := n_rng v8
  have hv8 := n_ushr 4 ev8 (by rw [qk4]; rfl) (by decide) 268435456 (by decide)
  refine r_iushr C v8 (oDec_at oJ6_bitCount_0f7a4 21 rfl) ev8 ?_
  obtain ⟨v9, ev9⟩ : ∃ z : Int32, z = v7 + v8 := ⟨_, rfl⟩
  have rv9 := n_rng v9
  refine r_iadd C v9 (oDec_at oJ6_bitCount_0f7a4 22 rfl) ev9 ?_
  refine r_ldcw C (v := k252645135) (by rw [qk252645135]; exact kcJ6_267) (oDec_at oJ6_bitCount_0f7a4 23 rfl) ?_
  refine r_pc C 32 rfl ?_
  obtain ⟨v10, ev10⟩ : ∃ z : Int32, z = v9 &&& k252645135 := ⟨_, rfl⟩
  have hv10 := n_and ev10
  have rv10 := n_rng v10
  refine r_iand C v10 (oDec_at oJ6_bitCount_0f7a4 24 rfl) ev10 ?_
  refine r_istore_n C (lv' := [(0, .int v10)]) [0] (oDec_at oJ6_bitCount_0f7a4 25 rfl) rfl (by decide) rfl ?_
  refine r_iload_n C (j := 0) (oDec_at oJ6_bitCount_0f7a4 26 rfl) rfl rfl ?_
  refine r_iload_n C (j := 0) (oDec_at oJ6_bitCount_0f7a4 27 rfl) rfl rfl ?_
  refine r_bipush C (oDec_at oJ6_bitCount_0f7a4 28 rfl) (v := k8) (by rw [qk8]; rfl) ?_
  obtain ⟨v11, ev11⟩ : ∃ z : Int32, (v10.toUInt32 >>> (k8.toUInt32 &&& Int32.toUInt32 31)).toInt32 = z := ⟨_, rfl⟩
  have rv11 := n_rng v11
  have hv11 := n_ushr 8 ev11 (by rw [qk8]; rfl) (by decide) 16777216 (by decide)
  refine r_iushr C v11 (oDec_at oJ6_bitCount_0f7a4 29 rfl) ev11 ?_
  refine r_pc C 39 rfl ?_
  obtain ⟨v12, ev12⟩ : ∃ z : Int32, z = v10 + v11 := ⟨_, rfl⟩
  have rv12 := n_rng v12
  refine r_iadd C v12 (oDec_at oJ6_bitCount_0f7a4 30 rfl) ev12 ?_
  refine r_istore_n C (lv' := [(0, .int v12)]) [0] (oDec_at oJ6_bitCount_0f7a4 31 rfl) rfl (by decide) rfl ?_
  refine r_iload_n C (j := 0) (oDec_at oJ6_bitCount_0f7a4 32 rfl) rfl rfl ?_
  refine r_iload_n C (j := 0) (oDec_at oJ6_bitCount_0f7a4 33 rfl) rfl rfl ?_
  refine r_bipush C (oDec_at oJ6_bitCount_0f7a4 34 rfl) (v := k16) (by rw [qk16]; rfl) ?_
  obtain ⟨v13, ev13⟩ : ∃ z : Int32, (v12.toUInt32 >>> (k16.toUInt32 &&& Int32.toUInt32 31)).toInt32 = z := ⟨_, rfl⟩
  have rv13 := n_rng v13
  have hv13 := n_ushr 16 ev13 (by rw [qk16]; rfl) (by decide) 65536 (by decide)
  refine r_iushr C v13 (oDec_at oJ6_bitCount_0f7a4 35 rfl) ev13 ?_
  refine r_pc C 46 rfl ?_
  obtain ⟨v14, ev14⟩ : ∃ z : Int32, z = v12 + v13 := ⟨_, rfl⟩
  have rv14 := n_rng v14
  refine r_iadd C v14 (oDec_at oJ6_bitCount_0f7a4 36 rfl) ev14 ?_
  refine r_istore_n C (lv' := [(0, .int v14)]) [0] (oDec_at oJ6_bitCount_0f7a4 37 rfl) rfl (by decide) rfl ?_
  refine r_iload_n C (j := 0) (oDec_at oJ6_bitCount_0f7a4 38 rfl) rfl rfl ?_
  refine r_bipush C (oDec_at oJ6_bitCount_0f7a4 39 rfl) (v := k63) (by rw [qk63]; rfl) ?_
  obtain ⟨v15, ev15⟩ : ∃ z : Int32, z = v14 &&& k63 := ⟨_, rfl⟩
  have hv15 := n_and ev15
  have rv15 := n_rng v15
  refine r_iand C v15 (oDec_at oJ6_bitCount_0f7a4 40 rfl) ev15 ?_
  exact r_iret C (oDec_at oJ6_bitCount_0f7a4 41 rfl) ⟨_, rfl, fun h => by have h0 : a0 = 0 := n_eq (by rw [h]; rfl); subst_vars; decide⟩
set_option maxHeartbeats 4000000 in
set_option maxRecDepth 100000 in
theorem ct10_X10_tryOne (l : Launch) (E : oE) (s : oS) (a3 : Int32) (a4 : Int32) (b : Nat) (R : Int) (W : Nat → List Int) (hp0 : owBC b R W s) (hp1 : owKV R W s) (hp2 : owLN s) (hp3 : owDN s) (hp4 : -7 ≤ a4.toInt ∧ a4.toInt ≤ 7) (hp5 : 0 ≤ a3.toInt ∧ a3.toInt ≤ 4499) (hp6 : 0 ≤ a3.toInt + 12 * a4.toInt ∧ a3.toInt + 12 * a4.toInt ≤ 4499) : oMet l 5 yX10_tryOne cX10_tryOne 10 none [(24, 9999), (25, 9999), (26, 9999), (27, 9999), (34, 9999), (35, 9999), (36, 9999)] E s [.ref (oad E 43), .ref (oad E 31), .ref (oad E 35), .int a3, .int a4] (oPv (fun u => (owKV R W u) ∧ (owTy R W a4.toInt (a3.toInt + 12 * a4.toInt) s u))) := by
  refine oMet.of (lv := [(0, .ref (oad E 43)), (1, .ref (oad E 31)), (2, .ref (oad E 35)), (3, .int a3), (4, .int a4)]) (by decide +kernel) (Nat.le_of_ble_eq_true rfl) rfl (fun J C hT => ?_)
  have C : oC l 5 cX10_tryOne RX10 10 none [(24, 9999), (25, 9999), (26, 9999), (27, 9999), (34, 9999), (35, 9999), (36, 9999)] E s (oPv (fun u => (owKV R W u) ∧ (owTy R W a4.toInt (a3.toInt + 12 * a4.toInt) s u))) J := C
  obtain ⟨k0, qk0⟩ : ∃ z : Int32, z = 0 := ⟨_, rfl⟩
  have ek0 : k0.toInt = 0 := by rw [qk0]; rfl
  obtain ⟨k1, qk1⟩ : ∃ z : Int32, z = 1 := ⟨_, rfl⟩
  have ek1 : k1.toInt = 1 := by rw [qk1]; rfl
  obtain ⟨k2, qk2⟩ : ∃ z : Int32, z = 2 := ⟨_, rfl⟩
  have ek2 : k2.toInt = 2 := by rw [qk2]; rfl
  obtain ⟨k12, qk12⟩ : ∃ z : Int32, z = 12 := ⟨_, rfl⟩
  have ek12 : k12.toInt = 12 := by rw [qk12]; rfl
  obtain ⟨k84, qk84⟩ : ∃ z : Int32, z = 84 := ⟨_, rfl⟩
  have ek84 : k84.toInt = 84 := by rw [qk84]; rfl
  obtain ⟨k180, qk180⟩ : ∃ z : Int32, z = 180 := ⟨_, rfl⟩
  have ek180 : k180.toInt = 180 := by rw [qk180]; rfl
  have rg3 := n_rng a3
  have rg4 := n_rng a4
  have hct9 : (0 : Int) ≤ (s.1 35 6).toInt ∧ (s.1 35 6).toInt ≤ 48 := hT.1 35 6
  have key : ∀ n : Nat, (∀ (t : oS) (x5 : Int32) (x6 : Int32) (x7 : Int32) (x8 : Int32), (0 ≤ x8.toInt ∧ x8.toInt ≤ 48) → (owBC b R W t) → (owKV R W t) → (owLN t) → (owDN t) → (owDR s t) → (owF8 s t) → ((t.1 35 6).toInt = (s.1 35 6).toInt) → (x5.toInt = a3.toInt + 12 * a4.toInt ∧ x5.toInt ≠ 84) → (x8.toInt ≤ (s.1 35 6).toInt) → (x7.toInt = 0 ↔ ∀ i : Nat, (i : Int) < x8.toInt → ¬ owBk R W (owDf s i a4.toInt)) → 149 - x8.toInt ≤ (n : Int) → J t 26 [(0, .ref (oad E 43)), (1, .ref (oad E 31)), (2, .ref (oad E 35)), (4, .int a4), (5, .int x5), (6, .int x6), (7, .int x7), (8, .int x8)] []) ∧ (∀ (t : oS) (x6 : Int32) (x7 : Int32) (x8 : Int32), (0 ≤ x8.toInt ∧ x8.toInt ≤ 12) → (owBC b R W t) → (owKV R W t) → (owLN t) → (owDN t) → (owF8 s t) → (¬ owGd R W a4.toInt s) → 13 - x8.toInt ≤ (n : Int) → J t 108 [(0, .ref (oad E 43)), (6, .int x6), (7, .int x7), (8, .int x8)] []) := by
    intro n
    induction n using Nat.strongRecOn with
    | _ n ih =>
      refine ⟨?_, ?_⟩
      · intro t x5 x6 x7 x8  iv0 iv1 iv2 iv3 iv4 iv5 iv6 iv7 iv8 iv9 iv10 hmu
        have rx5 := n_rng x5
        have rx6 := n_rng x6
        have rx7 := n_rng x7
        have rx8 := n_rng x8
        refine r_iload C (j := 7) (oDec_at oX10_tryOne 16 rfl) rfl ?_
        refine r_aload_n C (j := 2) (oDec_at oX10_tryOne 17 rfl) rfl rfl ?_
        obtain ⟨v1, ev1⟩ : ∃ z : Int32, (t).1 35 6 = z := ⟨_, rfl⟩
        have gv1 : (t.1 35 6).toInt = v1.toInt := congrArg Int32.toInt (ev1)
        refine r_getiN (k := 6) (lo := 0) (hi := 48) C v1 oCl1 rfl (by decide) flX10_90 rfl rfl (ev1) rfl rfl (oDec_at oX10_tryOne 18 rfl) (fun b2 b2h => ?_)
        refine r_icmp_ge C 85 (oDec_at oX10_tryOne 19 rfl) (by decide) (fun cd3 => ?_) (fun cd3 => ?_)
        · skip
          refine r_iload C (j := 6) (oDec_at oX10_tryOne 43 rfl) rfl ?_
          refine r_if_ne C 105 (oDec_at oX10_tryOne 44 rfl) (by decide) (fun cd4 => ?_) (fun cd4 => ?_)
          · skip
            refine r_iconst C (oDec_at oX10_tryOne 53 rfl) (v := k0) (by rw [qk0]; rfl) ?_
            refine r_istore C (lv' := [(0, .ref (oad E 43)), (1, .ref (oad E 31)), (2, .ref (oad E 35)), (4, .int a4), (5, .int x5), (6, .int x6), (7, .int x7), (8, .int k0)]) [1, 2, 3, 4, 5, 6, 7, 0] (oDec_at oX10_tryOne 54 rfl) (by decide) rfl ?_
            refine r_pick C [0, 5, 6, 7] rfl ?_
            exact (ih (n - 1) (by omega)).2 (t) x6 x7 k0  (by omega) iv1 iv2 iv3 iv4 iv6 (by first | exact owGd_n iv10 (by omega) (by omega) | exact iv6) (by omega)
          · skip
            refine r_aload_n C (j := 0) (oDec_at oX10_tryOne 45 rfl) rfl rfl ?_
            refine r_getF (k := 9) (b := 48) C oCl10 rfl (by decide) flX10_31 rfl rfl rfl (oDec_at oX10_tryOne 46 rfl) ?_
            refine r_iload C (j := 4) (oDec_at oX10_tryOne 47 rfl) rfl ?_
            refine r_sipush C (oDec_at oX10_tryOne 48 rfl) (v := k180) (by rw [qk180]; rfl) ?_
            refine r_callSi C miJ9_floorMod_7cf53 mlX10_106 (ct9_J9_floorMod l E (t) x5 k180 (by omega)) (by decide) rfl rfl rfl (Nat.le_of_ble_eq_true rfl) (oDec_at oX10_tryOne 49 rfl) (fun r6 u5 pu5 fu5 => ?_)
            try dsimp only at pu5
            obtain ⟨pu5_0, pu5_1⟩ := pu5
            have hxu5 := oFr_nil fu5; subst hxu5
            have rr6 := n_rng r6
            have hfm9 := pu5_1 (by omega)
            rw [ek180] at hfm9
            refine r_iconst C (oDec_at oX10_tryOne 50 rfl) (v := k1) (by rw [qk1]; rfl) ?_
            refine r_pc C 103 rfl ?_
            refine r_iast (n := 180) (lo := (-2147483648)) (hi := 2147483647) C rfl (by decide) rfl rfl ⟨by omega, by omega⟩ (by decide) rfl rfl rfl rfl (n_rng _) (oDec_at oX10_tryOne 51 rfl) ?_
            exact r_vret C (oDec_at oX10_tryOne 52 rfl) ⟨rfl, ⟨(owKV_fr (oFr_oneI (q := 36) (m := 9999) rfl (by rfl)) rfl iv2), by first | exact Or.inr ⟨fun h9 => h9.1 (by omega), rfl⟩ | exact Or.inr ⟨fun h9 => iv6 h9.2, (by assumption)⟩ | exact Or.inl ⟨⟨by omega, owGd_y iv10 (by omega) (by omega)⟩, r6.toNatClampNeg, k1, (by have h9 := n_nat r6; omega), ek1, (by rw [oqRow_pu, show t.1 48 = s.1 48 from iv6])⟩ | (exfalso; omega)⟩⟩
        · skip
          refine r_iload C (j := 6) (oDec_at oX10_tryOne 20 rfl) rfl ?_
          refine r_callSi C miJ6_bitCount_0f7a4 mlX10_91 (ct9_J6_bitCount l E (t) x7 ) (by decide) rfl rfl rfl (Nat.le_of_ble_eq_true rfl) (oDec_at oX10_tryOne 21 rfl) (fun r8 u7 pu7 fu7 => ?_)
          try dsimp only at pu7
          have hxu7 := oFr_nil fu7; subst hxu7
          have rr8 := n_rng r8
          refine r_iconst C (oDec_at oX10_tryOne 22 rfl) (v := k2) (by rw [qk2]; rfl) ?_
          refine r_icmp_ge C 85 (oDec_at oX10_tryOne 23 rfl) (by decide) (fun cd9 => ?_) (fun cd9 => ?_)
          · skip
            refine r_iload C (j := 6) (oDec_at oX10_tryOne 43 rfl) rfl ?_
            refine r_if_ne C 105 (oDec_at oX10_tryOne 44 rfl) (by decide) (fun cd10 => ?_) (fun cd10 => ?_)
            · skip
              refine r_iconst C (oDec_at oX10_tryOne 53 rfl) (v := k0) (by rw [qk0]; rfl) ?_
              refine r_istore C (lv' := [(0, .ref (oad E 43)), (1, .ref (oad E 31)), (2, .ref (oad E 35)), (4, .int a4), (5, .int x5), (6, .int x6), (7, .int x7), (8, .int k0)]) [1, 2, 3, 4, 5, 6, 7, 0] (oDec_at oX10_tryOne 54 rfl) (by decide) rfl ?_
              refine r_pick C [0, 5, 6, 7] rfl ?_
              exact (ih (n - 1) (by omega)).2 (t) x6 x7 k0  (by omega) iv1 iv2 iv3 iv4 iv6 (by first | exact owGd_n iv10 (by omega) (by omega) | exact iv6) (by omega)
            · skip
              refine r_aload_n C (j := 0) (oDec_at oX10_tryOne 45 rfl) rfl rfl ?_
              refine r_getF (k := 9) (b := 48) C oCl10 rfl (by decide) flX10_31 rfl rfl rfl (oDec_at oX10_tryOne 46 rfl) ?_
              refine r_iload C (j := 4) (oDec_at oX10_tryOne 47 rfl) rfl ?_
              refine r_sipush C (oDec_at oX10_tryOne 48 rfl) (v := k180) (by rw [qk180]; rfl) ?_
              refine r_callSi C miJ9_floorMod_7cf53 mlX10_106 (ct9_J9_floorMod l E (t) x5 k180 (by omega)) (by decide) rfl rfl rfl (Nat.le_of_ble_eq_true rfl) (oDec_at oX10_tryOne 49 rfl) (fun r12 u11 pu11 fu11 => ?_)
              try dsimp only at pu11
              obtain ⟨pu11_0, pu11_1⟩ := pu11
              have hxu11 := oFr_nil fu11; subst hxu11
              have rr12 := n_rng r12
              have hfm9 := pu11_1 (by omega)
              rw [ek180] at hfm9
              refine r_iconst C (oDec_at oX10_tryOne 50 rfl) (v := k1) (by rw [qk1]; rfl) ?_
              refine r_pc C 103 rfl ?_
              refine r_iast (n := 180) (lo := (-2147483648)) (hi := 2147483647) C rfl (by decide) rfl rfl ⟨by omega, by omega⟩ (by decide) rfl rfl rfl rfl (n_rng _) (oDec_at oX10_tryOne 51 rfl) ?_
              exact r_vret C (oDec_at oX10_tryOne 52 rfl) ⟨rfl, ⟨(owKV_fr (oFr_oneI (q := 36) (m := 9999) rfl (by rfl)) rfl iv2), by first | exact Or.inr ⟨fun h9 => h9.1 (by omega), rfl⟩ | exact Or.inr ⟨fun h9 => iv6 h9.2, (by assumption)⟩ | exact Or.inl ⟨⟨by omega, owGd_y iv10 (by omega) (by omega)⟩, r12.toNatClampNeg, k1, (by have h9 := n_nat r12; omega), ek1, (by rw [oqRow_pu, show t.1 48 = s.1 48 from iv6])⟩ | (exfalso; omega)⟩⟩
          · skip
            refine r_aload_n C (j := 1) (oDec_at oX10_tryOne 24 rfl) rfl rfl ?_
            refine r_aload_n C (j := 2) (oDec_at oX10_tryOne 25 rfl) rfl rfl ?_
            refine r_iload C (j := 7) (oDec_at oX10_tryOne 26 rfl) rfl ?_
            refine r_iload C (j := 3) (oDec_at oX10_tryOne 27 rfl) rfl ?_
            have lk13 : ((t).1 35 6).toInt = v1.toInt := congrArg Int32.toInt (ev1)
            refine r_callVi C oCl2 rfl miX2_verdict mlX10_97 (ct9_X2_verdict l E (t) x8 a4 (b) (R) (W) (by omega) iv1 iv2 iv4) (by decide) rfl rfl rfl (Nat.le_of_ble_eq_true rfl) (oDec_at oX10_tryOne 28 rfl) (fun r15 u14 pu14 fu14 => ?_)
            try dsimp only at pu14
            try simp only [lk13] at pu14
            obtain ⟨pu14_0, pu14_1⟩ := pu14
            have rr15 := n_rng r15
            have hv9 : r15.toInt = 0 ↔ ¬ owBk R W (owDf s x8.toNatClampNeg a4.toInt) := by have h9 := pu14_1 ⟨by omega, by omega, by omega⟩; rw [owDf_eq iv5] at h9; exact h9
            refine r_istore C (lv' := [(0, .ref (oad E 43)), (1, .ref (oad E 31)), (2, .ref (oad E 35)), (4, .int a4), (5, .int x5), (6, .int x6), (7, .int x7), (8, .int x8), (9, .int r15)]) [1, 2, 3, 4, 5, 6, 7, 8, 0] (oDec_at oX10_tryOne 29 rfl) (by decide) rfl ?_
            refine r_pc C 55 rfl ?_
            refine r_iload C (j := 6) (oDec_at oX10_tryOne 30 rfl) rfl ?_
            refine r_if_ne C 68 (oDec_at oX10_tryOne 31 rfl) (by decide) (fun cd16 => ?_) (fun cd16 => ?_)
            · skip
              refine r_iload C (j := 5) (oDec_at oX10_tryOne 35 rfl) rfl ?_
              refine r_istore C (lv' := [(0, .ref (oad E 43)), (1, .ref (oad E 31)), (2, .ref (oad E 35)), (4, .int a4), (5, .int x5), (6, .int x6), (7, .int x7), (8, .int x8), (9, .int r15)]) [1, 2, 3, 4, 5, 0, 6, 7, 8] (oDec_at oX10_tryOne 36 rfl) (by decide) rfl ?_
              refine r_iload C (j := 6) (oDec_at oX10_tryOne 37 rfl) rfl ?_
              refine r_iload C (j := 8) (oDec_at oX10_tryOne 38 rfl) rfl ?_
              obtain ⟨v17, ev17⟩ : ∃ z : Int32, z = x7 ||| r15 := ⟨_, rfl⟩
              have rv17 := n_rng v17
              refine r_ior C v17 (oDec_at oX10_tryOne 39 rfl) ev17 ?_
              have hor9 := n_or0 ev17
              refine r_istore C (lv' := [(0, .ref (oad E 43)), (1, .ref (oad E 31)), (2, .ref (oad E 35)), (4, .int a4), (5, .int x5), (6, .int x6), (7, .int v17), (8, .int x8), (9, .int r15)]) [1, 2, 3, 4, 5, 6, 0, 7, 8] (oDec_at oX10_tryOne 40 rfl) (by decide) rfl ?_
              refine r_pc C 79 rfl ?_
              obtain ⟨v18, ev18⟩ : ∃ z : Int32, x8 + Int32.ofInt 1 = z := ⟨_, rfl⟩
              have hv18 : v18.toInt = x8.toInt + 1 := n_inc ev18 (by decide) (by omega) (by omega)
              refine r_iinc C (j := 7) (lv' := [(0, .ref (oad E 43)), (1, .ref (oad E 31)), (2, .ref (oad E 35)), (4, .int a4), (5, .int x5), (6, .int x6), (7, .int v17), (8, .int v18), (9, .int r15)]) v18 [1, 2, 3, 4, 5, 6, 7, 0, 8] (oDec_at oX10_tryOne 41 rfl) rfl ev18 (by decide) rfl ?_
              refine r_goto C (tgt := 26) (oDec_at oX10_tryOne 42 rfl) (by decide) ?_
              have lk19 : ((u14).1 35 6).toInt = v1.toInt := congrArg Int32.toInt (((fu14 35 6 rfl).1).trans (ev1))
              refine r_pick C [0, 1, 2, 3, 4, 5, 6, 7] rfl ?_
              exact (ih (n - 1) (by omega)).1 (u14) x5 x6 v17 v18  (by omega) (owBC_fr fu14 rfl iv1) pu14_0 (owLN_fr fu14 rfl iv3) (owDN_fr fu14 rfl iv4) (owDR_fr fu14 rfl iv5) (owF8_fr fu14 rfl iv6) (by omega) (by omega) (by omega) (by first | exact owAll_nx iv10 hor9 hv9 (by have h9 := n_nat x8; omega) (by omega) | exact ⟨fun _ i hi => by exfalso; omega, fun _ => by omega⟩) (by omega)
            · skip
              refine r_iload C (j := 8) (oDec_at oX10_tryOne 32 rfl) rfl ?_
              refine r_callSNi C miX11_lowestBit mlX10_103 (ct_X11_lowestBit l E (u14) r15 ) (by decide) rfl rfl rfl (Nat.le_of_ble_eq_true rfl) (oDec_at oX10_tryOne 33 rfl) (fun r21 u20 pu20 fu20 => ?_)
              try dsimp only at pu20
              have hxu20 := oFr_nil fu20; subst hxu20
              have rr21 := n_rng r21
              refine r_goto C (tgt := 70) (oDec_at oX10_tryOne 34 rfl) (by decide) ?_
              refine r_istore C (lv' := [(0, .ref (oad E 43)), (1, .ref (oad E 31)), (2, .ref (oad E 35)), (4, .int a4), (5, .int x5), (6, .int r21), (7, .int x7), (8, .int x8), (9, .int r15)]) [1, 2, 3, 4, 5, 0, 6, 7, 8] (oDec_at oX10_tryOne 36 rfl) (by decide) rfl ?_
              refine r_iload C (j := 6) (oDec_at oX10_tryOne 37 rfl) rfl ?_
              refine r_iload C (j := 8) (oDec_at oX10_tryOne 38 rfl) rfl ?_
              obtain ⟨v22, ev22⟩ : ∃ z : Int32, z = x7 ||| r15 := ⟨_, rfl⟩
              have rv22 := n_rng v22
              refine r_ior C v22 (oDec_at oX10_tryOne 39 rfl) ev22 ?_
              refine r_pc C 77 rfl ?_
              have hor9 := n_or0 ev22
              refine r_istore C (lv' := [(0, .ref (oad E 43)), (1, .ref (oad E 31)), (2, .ref (oad E 35)), (4, .int a4), (5, .int x5), (6, .int r21), (7, .int v22), (8, .int x8), (9, .int r15)]) [1, 2, 3, 4, 5, 6, 0, 7, 8] (oDec_at oX10_tryOne 40 rfl) (by decide) rfl ?_
              obtain ⟨v23, ev23⟩ : ∃ z : Int32, x8 + Int32.ofInt 1 = z := ⟨_, rfl⟩
              have hv23 : v23.toInt = x8.toInt + 1 := n_inc ev23 (by decide) (by omega) (by omega)
              refine r_iinc C (j := 7) (lv' := [(0, .ref (oad E 43)), (1, .ref (oad E 31)), (2, .ref (oad E 35)), (4, .int a4), (5, .int x5), (6, .int r21), (7, .int v22), (8, .int v23), (9, .int r15)]) v23 [1, 2, 3, 4, 5, 6, 7, 0, 8] (oDec_at oX10_tryOne 41 rfl) rfl ev23 (by decide) rfl ?_
              refine r_goto C (tgt := 26) (oDec_at oX10_tryOne 42 rfl) (by decide) ?_
              have lk24 : ((u14).1 35 6).toInt = v1.toInt := congrArg Int32.toInt (((fu14 35 6 rfl).1).trans (ev1))
              refine r_pick C [0, 1, 2, 3, 4, 5, 6, 7] rfl ?_
              exact (ih (n - 1) (by omega)).1 (u14) x5 r21 v22 v23  (by omega) (owBC_fr fu14 rfl iv1) pu14_0 (owLN_fr fu14 rfl iv3) (owDN_fr fu14 rfl iv4) (owDR_fr fu14 rfl iv5) (owF8_fr fu14 rfl iv6) (by omega) (by omega) (by omega) (by first | exact owAll_nx iv10 hor9 hv9 (by have h9 := n_nat x8; omega) (by omega) | exact ⟨fun _ i hi => by exfalso; omega, fun _ => by omega⟩) (by omega)
      · intro t x6 x7 x8  iv0 iv1 iv2 iv3 iv4 iv5 iv6 hmu
        have rx6 := n_rng x6
        have rx7 := n_rng x7
        have rx8 := n_rng x8
        refine r_iload C (j := 3) (oDec_at oX10_tryOne 55 rfl) rfl ?_
        refine r_bipush C (oDec_at oX10_tryOne 56 rfl) (v := k12) (by rw [qk12]; rfl) ?_
        refine r_icmp_ge C 169 (oDec_at oX10_tryOne 57 rfl) (by decide) (fun cd25 => ?_) (fun cd25 => ?_)
        · skip
          exact r_vret C (oDec_at oX10_tryOne 90 rfl) ⟨rfl, ⟨iv2, by first | exact Or.inr ⟨fun h9 => h9.1 (by omega), rfl⟩ | exact Or.inr ⟨fun h9 => iv6 h9.2, iv5⟩ | (exfalso; omega)⟩⟩
        · skip
          refine r_aload_n C (j := 0) (oDec_at oX10_tryOne 58 rfl) rfl rfl ?_
          refine r_getF (k := 7) (b := 46) C oCl10 rfl (by decide) flX10_25 rfl rfl rfl (oDec_at oX10_tryOne 59 rfl) ?_
          refine r_iload C (j := 3) (oDec_at oX10_tryOne 60 rfl) rfl ?_
          refine r_dup2 C (oDec_at oX10_tryOne 61 rfl) rfl rfl ?_
          obtain ⟨v27, ev27⟩ : ∃ z : Int32, (t).1 46 x8.toNatClampNeg = z := ⟨_, rfl⟩
          have gv27 : (t.1 46 x8.toNatClampNeg).toInt = v27.toInt := congrArg Int32.toInt (ev27)
          have rv27 := n_rng v27
          refine r_iald (n := 12) (lo := (-2147483648)) (hi := 2147483647) C v27 rfl (by decide) rfl rfl ⟨by omega, by omega⟩ (by decide) ev27 rfl rfl (oDec_at oX10_tryOne 62 rfl) (fun _ _ => ?_)
          refine r_iload C (j := 1) (oDec_at oX10_tryOne 63 rfl) rfl ?_
          refine r_pc C 125 rfl ?_
          refine r_iconst C (oDec_at oX10_tryOne 64 rfl) (v := k1) (by rw [qk1]; rfl) ?_
          refine r_iload C (j := 3) (oDec_at oX10_tryOne 65 rfl) rfl ?_
          obtain ⟨v28, ev28⟩ : ∃ z : Int32, z = k1 <<< (x8 &&& 31) := ⟨_, rfl⟩
          have rv28 := n_rng v28
          refine r_ishl C v28 (oDec_at oX10_tryOne 66 rfl) ev28 ?_
          refine r_icmp_ne C 136 (oDec_at oX10_tryOne 67 rfl) (by decide) (fun cd29 => ?_) (fun cd29 => ?_)
          · skip
            refine r_iconst C (oDec_at oX10_tryOne 70 rfl) (v := k0) (by rw [qk0]; rfl) ?_
            obtain ⟨v30, ev30⟩ : ∃ z : Int32, z = v27 + k0 := ⟨_, rfl⟩
            have rv30 := n_rng v30
            refine r_iadd C v30 (oDec_at oX10_tryOne 71 rfl) ev30 ?_
            refine r_iast (n := 12) (lo := (-2147483648)) (hi := 2147483647) C rfl (by decide) rfl rfl ⟨by omega, by omega⟩ (by decide) rfl rfl rfl rfl (n_rng _) (oDec_at oX10_tryOne 72 rfl) ?_
            refine r_aload_n C (j := 0) (oDec_at oX10_tryOne 73 rfl) rfl rfl ?_
            refine r_getF (k := 8) (b := 47) C oCl10 rfl (by decide) flX10_28 rfl rfl rfl (oDec_at oX10_tryOne 74 rfl) ?_
            refine r_iload C (j := 3) (oDec_at oX10_tryOne 75 rfl) rfl ?_
            refine r_pc C 145 rfl ?_
            refine r_dup2 C (oDec_at oX10_tryOne 76 rfl) rfl rfl ?_
            obtain ⟨v32, ev32⟩ : ∃ z : Int32, ((pI t 46 x8.toNatClampNeg v30)).1 47 x8.toNatClampNeg = z := ⟨_, rfl⟩
            have av32 : t.1 47 x8.toNatClampNeg = v32 := ((pI_ne (a := 47) (b := x8.toNatClampNeg) (c := 46) _ _ (Or.inl (by decide)))).symm.trans ev32
            have gv32 : (t.1 47 x8.toNatClampNeg).toInt = v32.toInt := congrArg Int32.toInt (((pI_ne (a := 47) (b := x8.toNatClampNeg) (c := 46) _ _ (Or.inl (by decide)))).symm.trans ev32)
            have rv32 := n_rng v32
            refine r_iald (n := 12) (lo := (-2147483648)) (hi := 2147483647) C v32 rfl (by decide) rfl rfl ⟨by omega, by omega⟩ (by decide) ev32 rfl rfl (oDec_at oX10_tryOne 77 rfl) (fun _ _ => ?_)
            refine r_iload C (j := 2) (oDec_at oX10_tryOne 78 rfl) rfl ?_
            refine r_iconst C (oDec_at oX10_tryOne 79 rfl) (v := k1) (by rw [qk1]; rfl) ?_
            refine r_iload C (j := 3) (oDec_at oX10_tryOne 80 rfl) rfl ?_
            obtain ⟨v33, ev33⟩ : ∃ z : Int32, z = k1 <<< (x8 &&& 31) := ⟨_, rfl⟩
            have rv33 := n_rng v33
            refine r_ishl C v33 (oDec_at oX10_tryOne 81 rfl) ev33 ?_
            refine r_pc C 153 rfl ?_
            refine r_icmp_ne C 160 (oDec_at oX10_tryOne 82 rfl) (by decide) (fun cd34 => ?_) (fun cd34 => ?_)
            · skip
              refine r_iconst C (oDec_at oX10_tryOne 85 rfl) (v := k0) (by rw [qk0]; rfl) ?_
              obtain ⟨v35, ev35⟩ : ∃ z : Int32, z = v32 + k0 := ⟨_, rfl⟩
              have rv35 := n_rng v35
              refine r_iadd C v35 (oDec_at oX10_tryOne 86 rfl) ev35 ?_
              refine r_iast (n := 12) (lo := (-2147483648)) (hi := 2147483647) C rfl (by decide) rfl rfl ⟨by omega, by omega⟩ (by decide) rfl rfl rfl rfl (n_rng _) (oDec_at oX10_tryOne 87 rfl) ?_
              obtain ⟨v36, ev36⟩ : ∃ z : Int32, x8 + Int32.ofInt 1 = z := ⟨_, rfl⟩
              have hv36 : v36.toInt = x8.toInt + 1 := n_inc ev36 (by decide) (by omega) (by omega)
              refine r_iinc C (j := 3) (lv' := [(0, .ref (oad E 43)), (6, .int x6), (7, .int x7), (8, .int v36)]) v36 [1, 2, 3, 0] (oDec_at oX10_tryOne 88 rfl) rfl ev36 (by decide) rfl ?_
              refine r_goto C (tgt := 108) (oDec_at oX10_tryOne 89 rfl) (by decide) ?_
              exact (ih (n - 1) (by omega)).2 ((pI (pI t 46 x8.toNatClampNeg v30) 47 x8.toNatClampNeg v35)) x6 x7 v36  (by omega) (owBC_fr (oFr_oneI (q := 35) (m := 9999) rfl (by rfl)) rfl (owBC_fr (oFr_oneI (q := 34) (m := 9999) rfl (by rfl)) rfl iv1)) (owKV_fr (oFr_oneI (q := 35) (m := 9999) rfl (by rfl)) rfl (owKV_fr (oFr_oneI (q := 34) (m := 9999) rfl (by rfl)) rfl iv2)) (owLN_fr (oFr_oneI (q := 35) (m := 9999) rfl (by rfl)) rfl (owLN_fr (oFr_oneI (q := 34) (m := 9999) rfl (by rfl)) rfl iv3)) (owDN_fr (oFr_oneI (q := 35) (m := 9999) rfl (by rfl)) rfl (owDN_fr (oFr_oneI (q := 34) (m := 9999) rfl (by rfl)) rfl iv4)) (owF8_fr (oFr_oneI (q := 35) (m := 9999) rfl (by rfl)) rfl (owF8_fr (oFr_oneI (q := 34) (m := 9999) rfl (by rfl)) rfl iv5)) (by first | exact iv6) (by omega)
            · skip
              refine r_iconst C (oDec_at oX10_tryOne 83 rfl) (v := k1) (by rw [qk1]; rfl) ?_
              refine r_goto C (tgt := 161) (oDec_at oX10_tryOne 84 rfl) (by decide) ?_
              obtain ⟨v37, ev37⟩ : ∃ z : Int32, z = v32 + k1 := ⟨_, rfl⟩
              have rv37 := n_rng v37
              refine r_iadd C v37 (oDec_at oX10_tryOne 86 rfl) ev37 ?_
              refine r_iast (n := 12) (lo := (-2147483648)) (hi := 2147483647) C rfl (by decide) rfl rfl ⟨by omega, by omega⟩ (by decide) rfl rfl rfl rfl (n_rng _) (oDec_at oX10_tryOne 87 rfl) ?_
              obtain ⟨v38, ev38⟩ : ∃ z : Int32, x8 + Int32.ofInt 1 = z := ⟨_, rfl⟩
              have hv38 : v38.toInt = x8.toInt + 1 := n_inc ev38 (by decide) (by omega) (by omega)
              refine r_iinc C (j := 3) (lv' := [(0, .ref (oad E 43)), (6, .int x6), (7, .int x7), (8, .int v38)]) v38 [1, 2, 3, 0] (oDec_at oX10_tryOne 88 rfl) rfl ev38 (by decide) rfl ?_
              refine r_goto C (tgt := 108) (oDec_at oX10_tryOne 89 rfl) (by decide) ?_
              exact (ih (n - 1) (by omega)).2 ((pI (pI t 46 x8.toNatClampNeg v30) 47 x8.toNatClampNeg v37)) x6 x7 v38  (by omega) (owBC_fr (oFr_oneI (q := 35) (m := 9999) rfl (by rfl)) rfl (owBC_fr (oFr_oneI (q := 34) (m := 9999) rfl (by rfl)) rfl iv1)) (owKV_fr (oFr_oneI (q := 35) (m := 9999) rfl (by rfl)) rfl (owKV_fr (oFr_oneI (q := 34) (m := 9999) rfl (by rfl)) rfl iv2)) (owLN_fr (oFr_oneI (q := 35) (m := 9999) rfl (by rfl)) rfl (owLN_fr (oFr_oneI (q := 34) (m := 9999) rfl (by rfl)) rfl iv3)) (owDN_fr (oFr_oneI (q := 35) (m := 9999) rfl (by rfl)) rfl (owDN_fr (oFr_oneI (q := 34) (m := 9999) rfl (by rfl)) rfl iv4)) (owF8_fr (oFr_oneI (q := 35) (m := 9999) rfl (by rfl)) rfl (owF8_fr (oFr_oneI (q := 34) (m := 9999) rfl (by rfl)) rfl iv5)) (by first | exact iv6) (by omega)
          · skip
            refine r_iconst C (oDec_at oX10_tryOne 68 rfl) (v := k1) (by rw [qk1]; rfl) ?_
            refine r_goto C (tgt := 137) (oDec_at oX10_tryOne 69 rfl) (by decide) ?_
            obtain ⟨v39, ev39⟩ : ∃ z : Int32, z = v27 + k1 := ⟨_, rfl⟩
            have rv39 := n_rng v39
            refine r_iadd C v39 (oDec_at oX10_tryOne 71 rfl) ev39 ?_
            refine r_iast (n := 12) (lo := (-2147483648)) (hi := 2147483647) C rfl (by decide) rfl rfl ⟨by omega, by omega⟩ (by decide) rfl rfl rfl rfl (n_rng _) (oDec_at oX10_tryOne 72 rfl) ?_
            refine r_aload_n C (j := 0) (oDec_at oX10_tryOne 73 rfl) rfl rfl ?_
            refine r_getF (k := 8) (b := 47) C oCl10 rfl (by decide) flX10_28 rfl rfl rfl (oDec_at oX10_tryOne 74 rfl) ?_
            refine r_iload C (j := 3) (oDec_at oX10_tryOne 75 rfl) rfl ?_
            refine r_pc C 145 rfl ?_
            refine r_dup2 C (oDec_at oX10_tryOne 76 rfl) rfl rfl ?_
            obtain ⟨v41, ev41⟩ : ∃ z : Int32, ((pI t 46 x8.toNatClampNeg v39)).1 47 x8.toNatClampNeg = z := ⟨_, rfl⟩
            have av41 : t.1 47 x8.toNatClampNeg = v41 := ((pI_ne (a := 47) (b := x8.toNatClampNeg) (c := 46) _ _ (Or.inl (by decide)))).symm.trans ev41
            have gv41 : (t.1 47 x8.toNatClampNeg).toInt = v41.toInt := congrArg Int32.toInt (((pI_ne (a := 47) (b := x8.toNatClampNeg) (c := 46) _ _ (Or.inl (by decide)))).symm.trans ev41)
            have rv41 := n_rng v41
            refine r_iald (n := 12) (lo := (-2147483648)) (hi := 2147483647) C v41 rfl (by decide) rfl rfl ⟨by omega, by omega⟩ (by decide) ev41 rfl rfl (oDec_at oX10_tryOne 77 rfl) (fun _ _ => ?_)
            refine r_iload C (j := 2) (oDec_at oX10_tryOne 78 rfl) rfl ?_
            refine r_iconst C (oDec_at oX10_tryOne 79 rfl) (v := k1) (by rw [qk1]; rfl) ?_
            refine r_iload C (j := 3) (oDec_at oX10_tryOne 80 rfl) rfl ?_
            obtain ⟨v42, ev42⟩ : ∃ z : Int32, z = k1 <<< (x8 &&& 31) := ⟨_, rfl⟩
            have rv42 := n_rng v42
            refine r_ishl C v42 (oDec_at oX10_tryOne 81 rfl) ev42 ?_
            refine r_pc C 153 rfl ?_
            refine r_icmp_ne C 160 (oDec_at oX10_tryOne 82 rfl) (by decide) (fun cd43 => ?_) (fun cd43 => ?_)
            · skip
              refine r_iconst C (oDec_at oX10_tryOne 85 rfl) (v := k0) (by rw [qk0]; rfl) ?_
              obtain ⟨v44, ev44⟩ : ∃ z : Int32, z = v41 + k0 := ⟨_, rfl⟩
              have rv44 := n_rng v44
              refine r_iadd C v44 (oDec_at oX10_tryOne 86 rfl) ev44 ?_
              refine r_iast (n := 12) (lo := (-2147483648)) (hi := 2147483647) C rfl (by decide) rfl rfl ⟨by omega, by omega⟩ (by decide) rfl rfl rfl rfl (n_rng _) (oDec_at oX10_tryOne 87 rfl) ?_
              obtain ⟨v45, ev45⟩ : ∃ z : Int32, x8 + Int32.ofInt 1 = z := ⟨_, rfl⟩
              have hv45 : v45.toInt = x8.toInt + 1 := n_inc ev45 (by decide) (by omega) (by omega)
              refine r_iinc C (j := 3) (lv' := [(0, .ref (oad E 43)), (6, .int x6), (7, .int x7), (8, .int v45)]) v45 [1, 2, 3, 0] (oDec_at oX10_tryOne 88 rfl) rfl ev45 (by decide) rfl ?_
              refine r_goto C (tgt := 108) (oDec_at oX10_tryOne 89 rfl) (by decide) ?_
              exact (ih (n - 1) (by omega)).2 ((pI (pI t 46 x8.toNatClampNeg v39) 47 x8.toNatClampNeg v44)) x6 x7 v45  (by omega) (owBC_fr (oFr_oneI (q := 35) (m := 9999) rfl (by rfl)) rfl (owBC_fr (oFr_oneI (q := 34) (m := 9999) rfl (by rfl)) rfl iv1)) (owKV_fr (oFr_oneI (q := 35) (m := 9999) rfl (by rfl)) rfl (owKV_fr (oFr_oneI (q := 34) (m := 9999) rfl (by rfl)) rfl iv2)) (owLN_fr (oFr_oneI (q := 35) (m := 9999) rfl (by rfl)) rfl (owLN_fr (oFr_oneI (q := 34) (m := 9999) rfl (by rfl)) rfl iv3)) (owDN_fr (oFr_oneI (q := 35) (m := 9999) rfl (by rfl)) rfl (owDN_fr (oFr_oneI (q := 34) (m := 9999) rfl (by rfl)) rfl iv4)) (owF8_fr (oFr_oneI (q := 35) (m := 9999) rfl (by rfl)) rfl (owF8_fr (oFr_oneI (q := 34) (m := 9999) rfl (by rfl)) rfl iv5)) (by first | exact iv6) (by omega)
            · skip
              refine r_iconst C (oDec_at oX10_tryOne 83 rfl) (v := k1) (by rw [qk1]; rfl) ?_
              refine r_goto C (tgt := 161) (oDec_at oX10_tryOne 84 rfl) (by decide) ?_
              obtain ⟨v46, ev46⟩ : ∃ z : Int32, z = v41 + k1 := ⟨_, rfl⟩
              have rv46 := n_rng v46
              refine r_iadd C v46 (oDec_at oX10_tryOne 86 rfl) ev46 ?_
              refine r_iast (n := 12) (lo := (-2147483648)) (hi := 2147483647) C rfl (by decide) rfl rfl ⟨by omega, by omega⟩ (by decide) rfl rfl rfl rfl (n_rng _) (oDec_at oX10_tryOne 87 rfl) ?_
              obtain ⟨v47, ev47⟩ : ∃ z : Int32, x8 + Int32.ofInt 1 = z := ⟨_, rfl⟩
              have hv47 : v47.toInt = x8.toInt + 1 := n_inc ev47 (by decide) (by omega) (by omega)
              refine r_iinc C (j := 3) (lv' := [(0, .ref (oad E 43)), (6, .int x6), (7, .int x7), (8, .int v47)]) v47 [1, 2, 3, 0] (oDec_at oX10_tryOne 88 rfl) rfl ev47 (by decide) rfl ?_
              refine r_goto C (tgt := 108) (oDec_at oX10_tryOne 89 rfl) (by decide) ?_
              exact (ih (n - 1) (by omega)).2 ((pI (pI t 46 x8.toNatClampNeg v39) 47 x8.toNatClampNeg v46)) x6 x7 v47  (by omega) (owBC_fr (oFr_oneI (q := 35) (m := 9999) rfl (by rfl)) rfl (owBC_fr (oFr_oneI (q := 34) (m := 9999) rfl (by rfl)) rfl iv1)) (owKV_fr (oFr_oneI (q := 35) (m := 9999) rfl (by rfl)) rfl (owKV_fr (oFr_oneI (q := 34) (m := 9999) rfl (by rfl)) rfl iv2)) (owLN_fr (oFr_oneI (q := 35) (m := 9999) rfl (by rfl)) rfl (owLN_fr (oFr_oneI (q := 34) (m := 9999) rfl (by rfl)) rfl iv3)) (owDN_fr (oFr_oneI (q := 35) (m := 9999) rfl (by rfl)) rfl (owDN_fr (oFr_oneI (q := 34) (m := 9999) rfl (by rfl)) rfl iv4)) (owF8_fr (oFr_oneI (q := 35) (m := 9999) rfl (by rfl)) rfl (owF8_fr (oFr_oneI (q := 34) (m := 9999) rfl (by rfl)) rfl iv5)) (by first | exact iv6) (by omega)
  have hq48 : owDR s (s) := ⟨rfl, rfl, rfl⟩
  have hq49 : owF8 s (s) := rfl
  refine r_iload_n C (j := 3) (oDec_at oX10_tryOne 0 rfl) rfl rfl ?_
  refine r_iload C (j := 4) (oDec_at oX10_tryOne 1 rfl) rfl ?_
  refine r_bipush C (oDec_at oX10_tryOne 2 rfl) (v := k12) (by rw [qk12]; rfl) ?_
  obtain ⟨v50, ev50⟩ : ∃ z : Int32, z = a4 * k12 := ⟨_, rfl⟩
  have hv50 : v50.toInt = a4.toInt * 12 := n_mulK 12 ev50 ek12 (by omega) (by omega)
  refine r_imul C v50 (oDec_at oX10_tryOne 3 rfl) ev50 ?_
  obtain ⟨v51, ev51⟩ : ∃ z : Int32, z = a3 + v50 := ⟨_, rfl⟩
  have hv51 : v51.toInt = a3.toInt + v50.toInt := n_add ev51 (by omega) (by omega)
  refine r_iadd C v51 (oDec_at oX10_tryOne 4 rfl) ev51 ?_
  refine r_istore C (lv' := [(0, .ref (oad E 43)), (1, .ref (oad E 31)), (2, .ref (oad E 35)), (3, .int a3), (4, .int a4), (5, .int v51)]) [1, 2, 3, 4, 5, 0] (oDec_at oX10_tryOne 5 rfl) (by decide) rfl ?_
  refine r_pc C 9 rfl ?_
  refine r_iload C (j := 5) (oDec_at oX10_tryOne 6 rfl) rfl ?_
  refine r_bipush C (oDec_at oX10_tryOne 7 rfl) (v := k84) (by rw [qk84]; rfl) ?_
  refine r_icmp_ne C 17 (oDec_at oX10_tryOne 8 rfl) (by decide) (fun cd52 => ?_) (fun cd52 => ?_)
  · skip
    refine r_iconst C (oDec_at oX10_tryOne 10 rfl) (v := k0) (by rw [qk0]; rfl) ?_
    refine r_istore C (lv' := [(0, .ref (oad E 43)), (1, .ref (oad E 31)), (2, .ref (oad E 35)), (3, .int a3), (4, .int a4), (5, .int v51), (6, .int k0)]) [1, 2, 3, 4, 5, 6, 0] (oDec_at oX10_tryOne 11 rfl) (by decide) rfl ?_
    refine r_iconst C (oDec_at oX10_tryOne 12 rfl) (v := k0) (by rw [qk0]; rfl) ?_
    refine r_istore C (lv' := [(0, .ref (oad E 43)), (1, .ref (oad E 31)), (2, .ref (oad E 35)), (3, .int a3), (4, .int a4), (5, .int v51), (6, .int k0), (7, .int k0)]) [1, 2, 3, 4, 5, 6, 7, 0] (oDec_at oX10_tryOne 13 rfl) (by decide) rfl ?_
    refine r_iconst C (oDec_at oX10_tryOne 14 rfl) (v := k0) (by rw [qk0]; rfl) ?_
    refine r_istore C (lv' := [(0, .ref (oad E 43)), (1, .ref (oad E 31)), (2, .ref (oad E 35)), (3, .int a3), (4, .int a4), (5, .int v51), (6, .int k0), (7, .int k0), (8, .int k0)]) [1, 2, 3, 4, 5, 6, 7, 8, 0] (oDec_at oX10_tryOne 15 rfl) (by decide) rfl ?_
    refine r_pick C [0, 1, 2, 4, 5, 6, 7, 8] rfl ?_
    exact (key (149 - k0.toInt).toNat).1 (s) v51 k0 k0 k0  (by omega) hp0 hp1 hp2 hp3 hq48 hq49 (by omega) (by omega) (by omega) (by first | exact ⟨fun _ i hi => by exfalso; omega, fun _ => by omega⟩) (by omega)
  · skip
    exact r_vret C (oDec_at oX10_tryOne 9 rfl) ⟨rfl, ⟨hp1, by first | exact Or.inr ⟨fun h9 => h9.1 (by omega), rfl⟩ | (exfalso; omega)⟩⟩
set_option maxHeartbeats 4000000 in
set_option maxRecDepth 100000 in
theorem ct9_X10_gather (l : Launch) (E : oE) (s : oS) (a1 : Int32)  (hp0 : 0 ≤ a1.toInt ∧ a1.toInt ≤ 24) (hp1 : (s.1 43 4).toInt ≤ 180 * a1.toInt) : oMet l 1 yX10_gather cX10_gather 3 none [(10, 4), (32, 9999)] E s [.ref (oad E 43), .int a1] (oPv (fun u => ((u.1 43 4).toInt = (s.1 43 4).toInt + oC1 (owFf s) 180))) := by
  refine oMet.of (lv := [(0, .ref (oad E 43)), (1, .int a1)]) (by decide +kernel) (Nat.le_of_ble_eq_true rfl) rfl (fun J C hT => ?_)
  have C : oC l 1 cX10_gather RX10 3 none [(10, 4), (32, 9999)] E s (oPv (fun u => ((u.1 43 4).toInt = (s.1 43 4).toInt + oC1 (owFf s) 180))) J := C
  obtain ⟨k0, qk0⟩ : ∃ z : Int32, z = 0 := ⟨_, rfl⟩
  have ek0 : k0.toInt = 0 := by rw [qk0]; rfl
  obtain ⟨k1, qk1⟩ : ∃ z : Int32, z = 1 := ⟨_, rfl⟩
  have ek1 : k1.toInt = 1 := by rw [qk1]; rfl
  obtain ⟨k12, qk12⟩ : ∃ z : Int32, z = 12 := ⟨_, rfl⟩
  have ek12 : k12.toInt = 12 := by rw [qk12]; rfl
  obtain ⟨k15, qk15⟩ : ∃ z : Int32, z = 15 := ⟨_, rfl⟩
  have ek15 : k15.toInt = 15 := by rw [qk15]; rfl
  obtain ⟨k4500, qk4500⟩ : ∃ z : Int32, z = 4500 := ⟨_, rfl⟩
  have ek4500 : k4500.toInt = 4500 := by rw [qk4500]; rfl
  have rg1 := n_rng a1
  have key : ∀ n : Nat, (∀ (t : oS) (x2 : Int32), (0 ≤ x2.toInt ∧ x2.toInt ≤ 180) → (owF8 s t) → ((t.1 43 4).toInt ≤ 180 * a1.toInt + x2.toInt) → ((t.1 43 4).toInt = (s.1 43 4).toInt + oC1 (owFf s) x2.toNatClampNeg) → 181 - x2.toInt ≤ (n : Int) → J t 2 [(0, .ref (oad E 43)), (1, .int a1), (2, .int x2)] []) := by
    intro n
    induction n using Nat.strongRecOn with
    | _ n ih =>
      skip
      · intro t x2  iv0 iv1 iv2 iv3 hmu
        have rx2 := n_rng x2
        refine r_iload_n C (j := 2) (oDec_at oX10_gather 2 rfl) rfl rfl ?_
        refine r_aload_n C (j := 0) (oDec_at oX10_gather 3 rfl) rfl rfl ?_
        refine r_getF (k := 9) (b := 48) C oCl10 rfl (by decide) flX10_31 rfl rfl rfl (oDec_at oX10_gather 4 rfl) ?_
        obtain ⟨v1, ev1⟩ : ∃ z : Int32, Int32.ofNat 180 = z := ⟨_, rfl⟩
        have hv1 : v1.toInt = 180 := by rw [← ev1]; rfl
        refine r_alen0 (n := 180) C v1 rfl (by decide) rfl rfl (by decide) ev1 (oDec_at oX10_gather 5 rfl) ?_
        refine r_icmp_ge C 65 (oDec_at oX10_gather 6 rfl) (by decide) (fun cd2 => ?_) (fun cd2 => ?_)
        · skip
          exact r_vret C (oDec_at oX10_gather 37 rfl) ⟨rfl, by have h9 := iv3; rw [show x2.toNatClampNeg = 180 by have h8 := n_nat x2; omega] at h9; exact h9⟩
        · skip
          refine r_aload_n C (j := 0) (oDec_at oX10_gather 7 rfl) rfl rfl ?_
          refine r_getF (k := 9) (b := 48) C oCl10 rfl (by decide) flX10_31 rfl rfl rfl (oDec_at oX10_gather 8 rfl) ?_
          refine r_iload_n C (j := 2) (oDec_at oX10_gather 9 rfl) rfl rfl ?_
          obtain ⟨v4, ev4⟩ : ∃ z : Int32, (t).1 48 x2.toNatClampNeg = z := ⟨_, rfl⟩
          have gv4 : (t.1 48 x2.toNatClampNeg).toInt = v4.toInt := congrArg Int32.toInt (ev4)
          have rv4 := n_rng v4
          refine r_iald (n := 180) (lo := (-2147483648)) (hi := 2147483647) C v4 rfl (by decide) rfl rfl ⟨by omega, by omega⟩ (by decide) ev4 rfl rfl (oDec_at oX10_gather 10 rfl) (fun _ _ => ?_)
          have hff9 : owFf s x2.toNatClampNeg = if v4.toInt = 1 then 1 else 0 := by rw [← ev4, iv1]; rfl
          refine r_iconst C (oDec_at oX10_gather 11 rfl) (v := k1) (by rw [qk1]; rfl) ?_
          refine r_icmp_ne C 59 (oDec_at oX10_gather 12 rfl) (by decide) (fun cd5 => ?_) (fun cd5 => ?_)
          · skip
            obtain ⟨v6, ev6⟩ : ∃ z : Int32, x2 + Int32.ofInt 1 = z := ⟨_, rfl⟩
            have hv6 : v6.toInt = x2.toInt + 1 := n_inc ev6 (by decide) (by omega) (by omega)
            refine r_iinc C (j := 2) (lv' := [(0, .ref (oad E 43)), (1, .int a1), (2, .int v6)]) v6 [1, 2, 0] (oDec_at oX10_gather 35 rfl) rfl ev6 (by decide) rfl ?_
            refine r_goto C (tgt := 2) (oDec_at oX10_gather 36 rfl) (by decide) ?_
            exact (ih (n - 1) (by omega)) (t) v6  (by omega) iv1 (by omega) (by first | (have e2 := oC1_nx (f := owFf s) (x := x2) (y := v6) (by omega) (by omega); rw [hff9] at e2; rw [if_pos (by omega)] at e2; omega) | (have e2 := oC1_nx (f := owFf s) (x := x2) (y := v6) (by omega) (by omega); rw [hff9] at e2; rw [if_neg (by omega)] at e2; omega) | (have e0 := oC1_x0 (f := owFf s) (x := v6) (by omega); rw [e0]; omega)) (by omega)
          · skip
            refine r_aload_n C (j := 0) (oDec_at oX10_gather 13 rfl) rfl rfl ?_
            obtain ⟨v7, ev7⟩ : ∃ z : Int32, (t).1 43 4 = z := ⟨_, rfl⟩
            have gv7 : (t.1 43 4).toInt = v7.toInt := congrArg Int32.toInt (ev7)
            refine r_geti (k := 4) (lo := 0) (hi := 4500) C v7 oCl10 rfl (by decide) flX10_50 rfl rfl (ev7) rfl rfl (oDec_at oX10_gather 14 rfl) (fun b8 b8h => ?_)
            refine r_sipush C (oDec_at oX10_gather 15 rfl) (v := k4500) (by rw [qk4500]; rfl) ?_
            refine r_icmp_ge C 59 (oDec_at oX10_gather 16 rfl) (by decide) (fun cd9 => ?_) (fun cd9 => ?_)
            · skip
              obtain ⟨v10, ev10⟩ : ∃ z : Int32, x2 + Int32.ofInt 1 = z := ⟨_, rfl⟩
              have hv10 : v10.toInt = x2.toInt + 1 := n_inc ev10 (by decide) (by omega) (by omega)
              refine r_iinc C (j := 2) (lv' := [(0, .ref (oad E 43)), (1, .int a1), (2, .int v10)]) v10 [1, 2, 0] (oDec_at oX10_gather 35 rfl) rfl ev10 (by decide) rfl ?_
              refine r_goto C (tgt := 2) (oDec_at oX10_gather 36 rfl) (by decide) ?_
              have lk11 : ((t).1 43 4).toInt = v7.toInt := congrArg Int32.toInt (ev7)
              exact (ih (n - 1) (by omega)) (t) v10  (by omega) iv1 (by omega) (by first | (have e2 := oC1_nx (f := owFf s) (x := x2) (y := v10) (by omega) (by omega); rw [hff9] at e2; rw [if_pos (by omega)] at e2; omega) | (have e2 := oC1_nx (f := owFf s) (x := x2) (y := v10) (by omega) (by omega); rw [hff9] at e2; rw [if_neg (by omega)] at e2; omega) | (have e0 := oC1_x0 (f := owFf s) (x := v10) (by omega); rw [e0]; omega)) (by omega)
            · skip
              refine r_aload_n C (j := 0) (oDec_at oX10_gather 17 rfl) rfl rfl ?_
              refine r_getF (k := 5) (b := 44) C oCl10 rfl (by decide) flX10_18 rfl rfl rfl (oDec_at oX10_gather 18 rfl) ?_
              refine r_aload_n C (j := 0) (oDec_at oX10_gather 19 rfl) rfl rfl ?_
              refine r_geti (k := 4) (lo := 0) (hi := 4500) C v7 oCl10 rfl (by decide) flX10_50 rfl rfl (ev7) rfl rfl (oDec_at oX10_gather 20 rfl) (fun _ _ => ?_)
              refine r_iload_n C (j := 1) (oDec_at oX10_gather 21 rfl) rfl rfl ?_
              refine r_bipush C (oDec_at oX10_gather 22 rfl) (v := k15) (by rw [qk15]; rfl) ?_
              refine r_pc C 42 rfl ?_
              obtain ⟨v12, ev12⟩ : ∃ z : Int32, z = a1 * k15 := ⟨_, rfl⟩
              have hv12 : v12.toInt = a1.toInt * 15 := n_mulK 15 ev12 ek15 (by omega) (by omega)
              refine r_imul C v12 (oDec_at oX10_gather 23 rfl) ev12 ?_
              refine r_bipush C (oDec_at oX10_gather 24 rfl) (v := k12) (by rw [qk12]; rfl) ?_
              obtain ⟨v13, ev13⟩ : ∃ z : Int32, z = v12 * k12 := ⟨_, rfl⟩
              have hv13 : v13.toInt = v12.toInt * 12 := n_mulK 12 ev13 ek12 (by omega) (by omega)
              refine r_imul C v13 (oDec_at oX10_gather 25 rfl) ev13 ?_
              refine r_iload_n C (j := 2) (oDec_at oX10_gather 26 rfl) rfl rfl ?_
              obtain ⟨v14, ev14⟩ : ∃ z : Int32, z = v13 + x2 := ⟨_, rfl⟩
              have hv14 : v14.toInt = v13.toInt + x2.toInt := n_add ev14 (by omega) (by omega)
              refine r_iadd C v14 (oDec_at oX10_gather 27 rfl) ev14 ?_
              refine r_iast (n := 4500) (lo := 0) (hi := 4499) C rfl (by decide) rfl rfl ⟨by omega, by omega⟩ (by decide) rfl rfl rfl rfl ⟨by omega, by omega⟩ (oDec_at oX10_gather 28 rfl) ?_
              refine r_pc C 49 rfl ?_
              refine r_aload_n C (j := 0) (oDec_at oX10_gather 29 rfl) rfl rfl ?_
              refine r_dup C (oDec_at oX10_gather 30 rfl) rfl ?_
              refine r_geti (k := 4) (lo := 0) (hi := 4500) C v7 oCl10 rfl (by decide) flX10_50 rfl rfl (((pI_ne (a := 43) (b := 4) (c := 44) _ _ (Or.inl (by decide)))).trans (ev7)) rfl rfl (oDec_at oX10_gather 31 rfl) (fun _ _ => ?_)
              refine r_iconst C (oDec_at oX10_gather 32 rfl) (v := k1) (by rw [qk1]; rfl) ?_
              obtain ⟨v15, ev15⟩ : ∃ z : Int32, z = v7 + k1 := ⟨_, rfl⟩
              have hv15 : v15.toInt = v7.toInt + k1.toInt := n_add ev15 (by omega) (by omega)
              refine r_iadd C v15 (oDec_at oX10_gather 33 rfl) ev15 ?_
              refine r_puti (k := 4) (lo := 0) (hi := 4500) C oCl10 rfl (by decide) flX10_50 rfl rfl rfl rfl rfl rfl rfl rfl ⟨by omega, by omega⟩ (oDec_at oX10_gather 34 rfl) ?_
              refine r_pc C 59 rfl ?_
              obtain ⟨v16, ev16⟩ : ∃ z : Int32, x2 + Int32.ofInt 1 = z := ⟨_, rfl⟩
              have hv16 : v16.toInt = x2.toInt + 1 := n_inc ev16 (by decide) (by omega) (by omega)
              refine r_iinc C (j := 2) (lv' := [(0, .ref (oad E 43)), (1, .int a1), (2, .int v16)]) v16 [1, 2, 0] (oDec_at oX10_gather 35 rfl) rfl ev16 (by decide) rfl ?_
              refine r_goto C (tgt := 2) (oDec_at oX10_gather 36 rfl) (by decide) ?_
              have lk17 : (((pI (pI t 44 v7.toNatClampNeg v14) 43 4 v15)).1 43 4).toInt = v15.toInt := congrArg Int32.toInt ((pI_self _ _ _ _))
              exact (ih (n - 1) (by omega)) ((pI (pI t 44 v7.toNatClampNeg v14) 43 4 v15)) v16  (by omega) (owF8_fr (oFr_oneI (q := 10) (m := 4) rfl (by rfl)) rfl (owF8_fr (oFr_oneI (q := 32) (m := 9999) rfl (by rfl)) rfl iv1)) (by omega) (by first | (have e2 := oC1_nx (f := owFf s) (x := x2) (y := v16) (by omega) (by omega); rw [hff9] at e2; rw [if_pos (by omega)] at e2; omega) | (have e2 := oC1_nx (f := owFf s) (x := x2) (y := v16) (by omega) (by omega); rw [hff9] at e2; rw [if_neg (by omega)] at e2; omega) | (have e0 := oC1_x0 (f := owFf s) (x := v16) (by omega); rw [e0]; omega)) (by omega)
  have hq18 : owF8 s (s) := rfl
  refine r_iconst C (oDec_at oX10_gather 0 rfl) (v := k0) (by rw [qk0]; rfl) ?_
  refine r_istore_n C (lv' := [(0, .ref (oad E 43)), (1, .int a1), (2, .int k0)]) [1, 2, 0] (oDec_at oX10_gather 1 rfl) rfl (by decide) rfl ?_
  exact (key (181 - k0.toInt).toNat) (s) k0  (by omega) hq18 (by omega) (by first | (have e0 := oC1_x0 (f := owFf s) (x := k0) (by omega); rw [e0]; omega)) (by omega)
