set_option maxHeartbeats 4000000 in
set_option maxRecDepth 100000 in
theorem ct_X11_isCode (l : Launch) (E : oE) (s : oS) (a0 : Int32)  : oMet l 1 yX11_isCode cX11_isCode 1 (some .boolean) [] E s [.int a0] (oPi (fun r u => (0 ≤ r.toInt ∧ r.toInt ≤ 1) ∧ ((r.toInt = 1 ∧ 0 ≤ a0.toInt ∧ a0.toInt < 4500) ∨ (r.toInt = 0 ∧ (a0.toInt < 0 ∨ 4500 ≤ a0.toInt))))) := by
  refine oMet.of (lv := [(0, .int a0)]) (by decide +kernel) (Nat.le_of_ble_eq_true rfl) rfl (fun J C hT => ?_)
  have C : oC l 1 cX11_isCode RX11 1 (some .boolean) [] E s (oPi (fun r u => (0 ≤ r.toInt ∧ r.toInt ≤ 1) ∧ ((r.toInt = 1 ∧ 0 ≤ a0.toInt ∧ a0.toInt < 4500) ∨ (r.toInt = 0 ∧ (a0.toInt < 0 ∨ 4500 ≤ a0.toInt))))) J := C
  obtain ⟨k0, qk0⟩ : ∃ z : Int32, z = 0 := ⟨_, rfl⟩
  have ek0 : k0.toInt = 0 := by rw [qk0]; rfl
  obtain ⟨k1, qk1⟩ : ∃ z : Int32, z = 1 := ⟨_, rfl⟩
  have ek1 : k1.toInt = 1 := by rw [qk1]; rfl
  obtain ⟨k4500, qk4500⟩ : ∃ z : Int32, z = 4500 := ⟨_, rfl⟩
  have ek4500 : k4500.toInt = 4500 := by rw [qk4500]; rfl
  have rg0 := n_rng a0
  refine r_iload_n C (j := 0) (oDec_at oX11_isCode 0 rfl) rfl rfl ?_
  refine r_if_lt C 15 (oDec_at oX11_isCode 1 rfl) (by decide) (fun cd1 => ?_) (fun cd1 => ?_)
  · skip
    refine r_iconst C (oDec_at oX11_isCode 7 rfl) (v := k0) (by rw [qk0]; rfl) ?_
    exact r_zret C (n_bool (by omega)) (oDec_at oX11_isCode 8 rfl) ⟨_, rfl, ⟨by omega, by omega⟩⟩
  · skip
    refine r_iload_n C (j := 0) (oDec_at oX11_isCode 2 rfl) rfl rfl ?_
    refine r_sipush C (oDec_at oX11_isCode 3 rfl) (v := k4500) (by rw [qk4500]; rfl) ?_
    refine r_icmp_ge C 15 (oDec_at oX11_isCode 4 rfl) (by decide) (fun cd2 => ?_) (fun cd2 => ?_)
    · skip
      refine r_iconst C (oDec_at oX11_isCode 7 rfl) (v := k0) (by rw [qk0]; rfl) ?_
      exact r_zret C (n_bool (by omega)) (oDec_at oX11_isCode 8 rfl) ⟨_, rfl, ⟨by omega, by omega⟩⟩
    · skip
      refine r_iconst C (oDec_at oX11_isCode 5 rfl) (v := k1) (by rw [qk1]; rfl) ?_
      refine r_goto C (tgt := 16) (oDec_at oX11_isCode 6 rfl) (by decide) ?_
      exact r_zret C (n_bool (by omega)) (oDec_at oX11_isCode 8 rfl) ⟨_, rfl, ⟨by omega, by omega⟩⟩
set_option maxHeartbeats 4000000 in
set_option maxRecDepth 100000 in
theorem ct_X11_follows (l : Launch) (E : oE) (s : oS) (a0 : Int32)  : oMet l 2 yX11_follows cX11_follows 1 (some .boolean) [] E s [.int a0] (oPi (fun r u => (0 ≤ r.toInt ∧ r.toInt ≤ 1) ∧ (r.toInt = 1 → (0 ≤ a0.toInt ∧ a0.toInt < 4500)))) := by
  refine oMet.of (lv := [(0, .int a0)]) (by decide +kernel) (Nat.le_of_ble_eq_true rfl) rfl (fun J C hT => ?_)
  have C : oC l 2 cX11_follows RX11 1 (some .boolean) [] E s (oPi (fun r u => (0 ≤ r.toInt ∧ r.toInt ≤ 1) ∧ (r.toInt = 1 → (0 ≤ a0.toInt ∧ a0.toInt < 4500)))) J := C
  obtain ⟨k0, qk0⟩ : ∃ z : Int32, z = 0 := ⟨_, rfl⟩
  have ek0 : k0.toInt = 0 := by rw [qk0]; rfl
  obtain ⟨k1, qk1⟩ : ∃ z : Int32, z = 1 := ⟨_, rfl⟩
  have ek1 : k1.toInt = 1 := by rw [qk1]; rfl
  obtain ⟨k84, qk84⟩ : ∃ z : Int32, z = 84 := ⟨_, rfl⟩
  have ek84 : k84.toInt = 84 := by rw [qk84]; rfl
  have rg0 := n_rng a0
  refine r_iload_n C (j := 0) (oDec_at oX11_follows 0 rfl) rfl rfl ?_
  refine r_callSi C miX11_isCode mlX11_192 (ct_X11_isCode l E (s) a0 ) (by decide) rfl rfl rfl (Nat.le_of_ble_eq_true rfl) (oDec_at oX11_follows 1 rfl) (fun r2 u1 pu1 fu1 => ?_)
  try dsimp only at pu1
  have rr2 := n_rng r2
  refine r_if_eq C 17 (oDec_at oX11_follows 2 rfl) (by decide) (fun cd3 => ?_) (fun cd3 => ?_)
  · skip
    refine r_iconst C (oDec_at oX11_follows 8 rfl) (v := k0) (by rw [qk0]; rfl) ?_
    exact r_zret C (n_bool (by omega)) (oDec_at oX11_follows 9 rfl) ⟨_, rfl, ⟨by omega, by omega⟩⟩
  · skip
    refine r_iload_n C (j := 0) (oDec_at oX11_follows 3 rfl) rfl rfl ?_
    refine r_bipush C (oDec_at oX11_follows 4 rfl) (v := k84) (by rw [qk84]; rfl) ?_
    refine r_icmp_eq C 17 (oDec_at oX11_follows 5 rfl) (by decide) (fun cd4 => ?_) (fun cd4 => ?_)
    · skip
      refine r_iconst C (oDec_at oX11_follows 8 rfl) (v := k0) (by rw [qk0]; rfl) ?_
      exact r_zret C (n_bool (by omega)) (oDec_at oX11_follows 9 rfl) ⟨_, rfl, ⟨by omega, by omega⟩⟩
    · skip
      refine r_iconst C (oDec_at oX11_follows 6 rfl) (v := k1) (by rw [qk1]; rfl) ?_
      refine r_goto C (tgt := 18) (oDec_at oX11_follows 7 rfl) (by decide) ?_
      exact r_zret C (n_bool (by omega)) (oDec_at oX11_follows 9 rfl) ⟨_, rfl, ⟨by omega, by omega⟩⟩
set_option maxHeartbeats 4000000 in
set_option maxRecDepth 100000 in
theorem ct_X11_codeOf (l : Launch) (E : oE) (s : oS) (a0 : Int32) (a1 : Int32) (a2 : Int32) (hp0 : 0 ≤ a0.toInt ∧ a0.toInt ≤ 24) (hp1 : -7 ≤ a1.toInt ∧ a1.toInt ≤ 7) (hp2 : 0 ≤ a2.toInt ∧ a2.toInt ≤ 11) : oMet l 1 yX11_codeOf cX11_codeOf 3 (some .int) [] E s [.int a0, .int a1, .int a2] (oPi (fun r u => (r.toInt = (a0.toInt * 15 + a1.toInt + 7) * 12 + a2.toInt))) := by
  refine oMet.of (lv := [(0, .int a0), (1, .int a1), (2, .int a2)]) (by decide +kernel) (Nat.le_of_ble_eq_true rfl) rfl (fun J C hT => ?_)
  have C : oC l 1 cX11_codeOf RX11 3 (some .int) [] E s (oPi (fun r u => (r.toInt = (a0.toInt * 15 + a1.toInt + 7) * 12 + a2.toInt))) J := C
  obtain ⟨k7, qk7⟩ : ∃ z : Int32, z = 7 := ⟨_, rfl⟩
  have ek7 : k7.toInt = 7 := by rw [qk7]; rfl
  obtain ⟨k12, qk12⟩ : ∃ z : Int32, z = 12 := ⟨_, rfl⟩
  have ek12 : k12.toInt = 12 := by rw [qk12]; rfl
  obtain ⟨k15, qk15⟩ : ∃ z : Int32, z = 15 := ⟨_, rfl⟩
  have ek15 : k15.toInt = 15 := by rw [qk15]; rfl
  have rg0 := n_rng a0
  have rg1 := n_rng a1
  have rg2 := n_rng a2
  refine r_iload_n C (j := 0) (oDec_at oX11_codeOf 0 rfl) rfl rfl ?_
  refine r_bipush C (oDec_at oX11_codeOf 1 rfl) (v := k15) (by rw [qk15]; rfl) ?_
  obtain ⟨v1, ev1⟩ : ∃ z : Int32, z = a0 * k15 := ⟨_, rfl⟩
  have hv1 : v1.toInt = a0.toInt * 15 := n_mulK 15 ev1 ek15 (by omega) (by omega)
  refine r_imul C v1 (oDec_at oX11_codeOf 2 rfl) ev1 ?_
  refine r_iload_n C (j := 1) (oDec_at oX11_codeOf 3 rfl) rfl rfl ?_
  obtain ⟨v2, ev2⟩ : ∃ z : Int32, z = v1 + a1 := ⟨_, rfl⟩
  have hv2 : v2.toInt = v1.toInt + a1.toInt := n_add ev2 (by omega) (by omega)
  refine r_iadd C v2 (oDec_at oX11_codeOf 4 rfl) ev2 ?_
  refine r_bipush C (oDec_at oX11_codeOf 5 rfl) (v := k7) (by rw [qk7]; rfl) ?_
  refine r_pc C 8 rfl ?_
  obtain ⟨v3, ev3⟩ : ∃ z : Int32, z = v2 + k7 := ⟨_, rfl⟩
  have hv3 : v3.toInt = v2.toInt + k7.toInt := n_add ev3 (by omega) (by omega)
  refine r_iadd C v3 (oDec_at oX11_codeOf 6 rfl) ev3 ?_
  refine r_bipush C (oDec_at oX11_codeOf 7 rfl) (v := k12) (by rw [qk12]; rfl) ?_
  obtain ⟨v4, ev4⟩ : ∃ z : Int32, z = v3 * k12 := ⟨_, rfl⟩
  have hv4 : v4.toInt = v3.toInt * 12 := n_mulK 12 ev4 ek12 (by omega) (by omega)
  refine r_imul C v4 (oDec_at oX11_codeOf 8 rfl) ev4 ?_
  refine r_iload_n C (j := 2) (oDec_at oX11_codeOf 9 rfl) rfl rfl ?_
  obtain ⟨v5, ev5⟩ : ∃ z : Int32, z = v4 + a2 := ⟨_, rfl⟩
  have hv5 : v5.toInt = v4.toInt + a2.toInt := n_add ev5 (by omega) (by omega)
  refine r_iadd C v5 (oDec_at oX11_codeOf 10 rfl) ev5 ?_
  exact r_iret C (oDec_at oX11_codeOf 11 rfl) ⟨_, rfl, by omega⟩
set_option maxHeartbeats 4000000 in
set_option maxRecDepth 100000 in
theorem ct_X11_canBe (l : Launch) (E : oE) (s : oS) (c0 : Nat) (hk0 : okd c0 = 4) (a1 : Int32)  : oMet l 1 yX11_canBe cX11_canBe 2 (some .boolean) [] E s [.ref (oad E c0), .int a1] (oPi (fun r u => (0 ≤ r.toInt ∧ r.toInt ≤ 1))) := by
  refine oMet.of (lv := [(0, .ref (oad E c0)), (1, .int a1)]) (by decide +kernel) (Nat.le_of_ble_eq_true rfl) rfl (fun J C hT => ?_)
  have C : oC l 1 cX11_canBe RX11 2 (some .boolean) [] E s (oPi (fun r u => (0 ≤ r.toInt ∧ r.toInt ≤ 1))) J := C
  obtain ⟨k0, qk0⟩ : ∃ z : Int32, z = 0 := ⟨_, rfl⟩
  have ek0 : k0.toInt = 0 := by rw [qk0]; rfl
  obtain ⟨k1, qk1⟩ : ∃ z : Int32, z = 1 := ⟨_, rfl⟩
  have ek1 : k1.toInt = 1 := by rw [qk1]; rfl
  obtain ⟨k2, qk2⟩ : ∃ z : Int32, z = 2 := ⟨_, rfl⟩
  have ek2 : k2.toInt = 2 := by rw [qk2]; rfl
  obtain ⟨k3, qk3⟩ : ∃ z : Int32, z = 3 := ⟨_, rfl⟩
  have ek3 : k3.toInt = 3 := by rw [qk3]; rfl
  have rg1 := n_rng a1
  refine r_iload_n C (j := 1) (oDec_at oX11_canBe 0 rfl) rfl rfl ?_
  refine r_iconst C (oDec_at oX11_canBe 1 rfl) (v := k3) (by rw [qk3]; rfl) ?_
  obtain ⟨v1, ev1⟩ : ∃ z : Int32, z = a1 - a1 / k3 * k3 := ⟨_, rfl⟩
  have hv1 := n_rem (k := 3) ev1 ek3 (by decide)
  have rv1 := n_rng v1
  refine r_irem C v1 (oDec_at oX11_canBe 2 rfl) (n_ne0 (by omega)) ev1 ?_
  refine r_iconst C (oDec_at oX11_canBe 3 rfl) (v := k2) (by rw [qk2]; rfl) ?_
  refine r_icmp_ne C 14 (oDec_at oX11_canBe 4 rfl) (by decide) (fun cd2 => ?_) (fun cd2 => ?_)
  · skip
    refine r_iconst C (oDec_at oX11_canBe 8 rfl) (v := k1) (by rw [qk1]; rfl) ?_
    refine r_goto C (tgt := 19) (oDec_at oX11_canBe 9 rfl) (by decide) ?_
    exact r_zret C (n_bool (by omega)) (oDec_at oX11_canBe 11 rfl) ⟨_, rfl, by omega⟩
  · skip
    refine r_aload_n C (j := 0) (oDec_at oX11_canBe 5 rfl) rfl rfl ?_
    obtain ⟨v3, ev3⟩ : ∃ z : Int32, (s).1 c0 7 = z := ⟨_, rfl⟩
    have gv3 : (s.1 c0 7).toInt = v3.toInt := congrArg Int32.toInt (ev3)
    refine r_getiN (k := 7) (lo := 0) (hi := 1) C v3 oCl4 hk0 (by decide) flX11_359 rfl rfl (ev3) rfl rfl (oDec_at oX11_canBe 6 rfl) (fun b4 b4h => ?_)
    refine r_if_ne C 18 (oDec_at oX11_canBe 7 rfl) (by decide) (fun cd5 => ?_) (fun cd5 => ?_)
    · skip
      refine r_iconst C (oDec_at oX11_canBe 10 rfl) (v := k0) (by rw [qk0]; rfl) ?_
      exact r_zret C (n_bool (by omega)) (oDec_at oX11_canBe 11 rfl) ⟨_, rfl, by omega⟩
    · skip
      refine r_iconst C (oDec_at oX11_canBe 8 rfl) (v := k1) (by rw [qk1]; rfl) ?_
      refine r_goto C (tgt := 19) (oDec_at oX11_canBe 9 rfl) (by decide) ?_
      exact r_zret C (n_bool (by omega)) (oDec_at oX11_canBe 11 rfl) ⟨_, rfl, by omega⟩
set_option maxHeartbeats 4000000 in
set_option maxRecDepth 100000 in
theorem ct_X11_lowestBit (l : Launch) (E : oE) (s : oS) (a0 : Int32)  : oMet l 1 yX11_lowestBit cX11_lowestBit 1 (some .int) [] E s [.int a0] (oPi (fun r u => True)) := by
  refine oMet.of (lv := [(0, .int a0)]) (by decide +kernel) (Nat.le_of_ble_eq_true rfl) rfl (fun J C hT => ?_)
  have C : oC l 1 cX11_lowestBit RX11 1 (some .int) [] E s (oPi (fun r u => True)) J := C
  have rg0 := n_rng a0
  refine r_iload_n C (j := 0) (oDec_at oX11_lowestBit 0 rfl) rfl rfl ?_
  refine r_iload_n C (j := 0) (oDec_at oX11_lowestBit 1 rfl) rfl rfl ?_
  obtain ⟨v1, ev1⟩ : ∃ z : Int32, z = -a0 := ⟨_, rfl⟩
  refine r_ineg C v1 (oDec_at oX11_lowestBit 2 rfl) ev1 ?_
  obtain ⟨v2, ev2⟩ : ∃ z : Int32, z = a0 &&& v1 := ⟨_, rfl⟩
  have hv2 := n_and ev2
  have rv2 := n_rng v2
  refine r_iand C v2 (oDec_at oX11_lowestBit 3 rfl) ev2 ?_
  exact r_iret C (oDec_at oX11_lowestBit 4 rfl) ⟨_, rfl, trivial⟩
set_option maxHeartbeats 4000000 in
set_option maxRecDepth 100000 in
theorem ct_X11_nextSeed (l : Launch) (E : oE) (s : oS) (a0 : Int32)  : oMet l 1 yX11_nextSeed cX11_nextSeed 1 (some .int) [] E s [.int a0] (oPi (fun r u => True)) := by
  refine oMet.of (lv := [(0, .int a0)]) (by decide +kernel) (Nat.le_of_ble_eq_true rfl) rfl (fun J C hT => ?_)
  have C : oC l 1 cX11_nextSeed RX11 1 (some .int) [] E s (oPi (fun r u => True)) J := C
  obtain ⟨k12345, qk12345⟩ : ∃ z : Int32, z = 12345 := ⟨_, rfl⟩
  have ek12345 : k12345.toInt = 12345 := by rw [qk12345]; rfl
  obtain ⟨k1103515245, qk1103515245⟩ : ∃ z : Int32, z = 1103515245 := ⟨_, rfl⟩
  have ek1103515245 : k1103515245.toInt = 1103515245 := by rw [qk1103515245]; rfl
  obtain ⟨k2147483647, qk2147483647⟩ : ∃ z : Int32, z = 2147483647 := ⟨_, rfl⟩
  have ek2147483647 : k2147483647.toInt = 2147483647 := by rw [qk2147483647]; rfl
  have rg0 := n_rng a0
  refine r_ldcw C (v := k1103515245) (by rw [qk1103515245]; exact kcX11_363) (oDec_at oX11_nextSeed 0 rfl) ?_
  refine r_iload_n C (j := 0) (oDec_at oX11_nextSeed 1 rfl) rfl rfl ?_
  obtain ⟨v1, ev1⟩ : ∃ z : Int32, z = k1103515245 * a0 := ⟨_, rfl⟩
  have rv1 := n_rng v1
  refine r_imul C v1 (oDec_at oX11_nextSeed 2 rfl) ev1 ?_
  refine r_sipush C (oDec_at oX11_nextSeed 3 rfl) (v := k12345) (by rw [qk12345]; rfl) ?_
  obtain ⟨v2, ev2⟩ : ∃ z : Int32, z = v1 + k12345 := ⟨_, rfl⟩
  have rv2 := n_rng v2
  refine r_iadd C v2 (oDec_at oX11_nextSeed 4 rfl) ev2 ?_
  refine r_ldcw C (v := k2147483647) (by rw [qk2147483647]; exact kcX11_364) (oDec_at oX11_nextSeed 5 rfl) ?_
  refine r_pc C 12 rfl ?_
  obtain ⟨v3, ev3⟩ : ∃ z : Int32, z = v2 &&& k2147483647 := ⟨_, rfl⟩
  have hv3 := n_and ev3
  have rv3 := n_rng v3
  refine r_iand C v3 (oDec_at oX11_nextSeed 6 rfl) ev3 ?_
  exact r_iret C (oDec_at oX11_nextSeed 7 rfl) ⟨_, rfl, trivial⟩
set_option maxHeartbeats 4000000 in
set_option maxRecDepth 100000 in
theorem ct_X11_nextCheck (l : Launch) (E : oE) (s : oS) (a0 : Int32) (a1 : Int32)  : oMet l 1 yX11_nextCheck cX11_nextCheck 2 (some .int) [] E s [.int a0, .int a1] (oPi (fun r u => True)) := by
  refine oMet.of (lv := [(0, .int a0), (1, .int a1)]) (by decide +kernel) (Nat.le_of_ble_eq_true rfl) rfl (fun J C hT => ?_)
  have C : oC l 1 cX11_nextCheck RX11 2 (some .int) [] E s (oPi (fun r u => True)) J := C
  obtain ⟨k7, qk7⟩ : ∃ z : Int32, z = 7 := ⟨_, rfl⟩
  have ek7 : k7.toInt = 7 := by rw [qk7]; rfl
  obtain ⟨k251, qk251⟩ : ∃ z : Int32, z = 251 := ⟨_, rfl⟩
  have ek251 : k251.toInt = 251 := by rw [qk251]; rfl
  have rg0 := n_rng a0
  have rg1 := n_rng a1
  refine r_bipush C (oDec_at oX11_nextCheck 0 rfl) (v := k7) (by rw [qk7]; rfl) ?_
  refine r_iload_n C (j := 0) (oDec_at oX11_nextCheck 1 rfl) rfl rfl ?_
  obtain ⟨v1, ev1⟩ : ∃ z : Int32, z = k7 * a0 := ⟨_, rfl⟩
  have rv1 := n_rng v1
  refine r_imul C v1 (oDec_at oX11_nextCheck 2 rfl) ev1 ?_
  refine r_iload_n C (j := 1) (oDec_at oX11_nextCheck 3 rfl) rfl rfl ?_
  obtain ⟨v2, ev2⟩ : ∃ z : Int32, z = v1 + a1 := ⟨_, rfl⟩
  have rv2 := n_rng v2
  refine r_iadd C v2 (oDec_at oX11_nextCheck 4 rfl) ev2 ?_
  refine r_sipush C (oDec_at oX11_nextCheck 5 rfl) (v := k251) (by rw [qk251]; rfl) ?_
  refine r_pc C 9 rfl ?_
  obtain ⟨v3, ev3⟩ : ∃ z : Int32, z = v2 - v2 / k251 * k251 := ⟨_, rfl⟩
  have hv3 := n_rem (k := 251) ev3 ek251 (by decide)
  have rv3 := n_rng v3
  refine r_irem C v3 (oDec_at oX11_nextCheck 6 rfl) (n_ne0 (by omega)) ev3 ?_
  exact r_iret C (oDec_at oX11_nextCheck 7 rfl) ⟨_, rfl, trivial⟩
