set_option maxHeartbeats 4000000 in
set_option maxRecDepth 100000 in
theorem ct_X12_isCode (l : Launch) (E : oE) (s : oS) (a0 : Int32)  : oMet l 2 yX12_isCode cX12_isCode 1 (some .boolean) [] E s [.int a0] (oPi (fun r u => (0 ≤ r.toInt ∧ r.toInt ≤ 1) ∧ ((r.toInt = 1 ∧ 0 ≤ a0.toInt ∧ a0.toInt ≤ 4499) ∨ (r.toInt = 0 ∧ (a0.toInt < 0 ∨ 4499 < a0.toInt))))) := by
  refine oMet.of (lv := [(0, .int a0)]) (by decide +kernel) (Nat.le_of_ble_eq_true rfl) rfl (fun J C hT => ?_)
  have C : oC l 2 cX12_isCode RX12 1 (some .boolean) [] E s (oPi (fun r u => (0 ≤ r.toInt ∧ r.toInt ≤ 1) ∧ ((r.toInt = 1 ∧ 0 ≤ a0.toInt ∧ a0.toInt ≤ 4499) ∨ (r.toInt = 0 ∧ (a0.toInt < 0 ∨ 4499 < a0.toInt))))) J := C
  obtain ⟨j0, qj0⟩ : ∃ z : Int64, z = 0 := ⟨_, rfl⟩
  have ej0 : j0.toInt = 0 := by rw [qj0]; rfl
  obtain ⟨j4499, qj4499⟩ : ∃ z : Int64, z = 4499 := ⟨_, rfl⟩
  have ej4499 : j4499.toInt = 4499 := by rw [qj4499]; rfl
  have rg0 := n_rng a0
  refine r_iload_n C (j := 0) (oDec_at oX12_isCode 0 rfl) rfl rfl ?_
  obtain ⟨v1, ev1⟩ : ∃ z : Int64, a0.toInt64 = z := ⟨_, rfl⟩
  have hv1 : v1.toInt = a0.toInt := n_i2l ev1
  refine r_i2l C v1 (oDec_at oX12_isCode 1 rfl) ev1 ?_
  refine r_lconst C (oDec_at oX12_isCode 2 rfl) (v := j0) (by rw [qj0]; rfl) ?_
  refine r_ldc2 C (v := j4499) (by rw [qj4499]; exact klX12_383) (oDec_at oX12_isCode 3 rfl) ?_
  refine r_callSi C miX12_isIn mlX12_216 (ct_X12_isIn l E (s) v1 j0 j4499 ) (by decide) rfl rfl rfl (Nat.le_of_ble_eq_true rfl) (oDec_at oX12_isCode 4 rfl) (fun r3 u2 pu2 fu2 => ?_)
  try dsimp only at pu2
  obtain ⟨pu2_0, pu2_1⟩ := pu2
  have hxu2 := oFr_nil fu2; subst hxu2
  have rr3 := n_rng r3
  exact r_zret C (n_bool (by omega)) (oDec_at oX12_isCode 5 rfl) ⟨_, rfl, ⟨by omega, by omega⟩⟩
set_option maxHeartbeats 4000000 in
set_option maxRecDepth 100000 in
theorem ct_X12_delayOf (l : Launch) (E : oE) (s : oS) (a0 : Int32) (hp0 : 0 ≤ a0.toInt ∧ a0.toInt ≤ 4499) : oMet l 1 yX12_delayOf cX12_delayOf 1 (some .int) [] E s [.int a0] (oPi (fun r u => (r.toInt = a0.toInt / 180))) := by
  refine oMet.of (lv := [(0, .int a0)]) (by decide +kernel) (Nat.le_of_ble_eq_true rfl) rfl (fun J C hT => ?_)
  have C : oC l 1 cX12_delayOf RX12 1 (some .int) [] E s (oPi (fun r u => (r.toInt = a0.toInt / 180))) J := C
  obtain ⟨k180, qk180⟩ : ∃ z : Int32, z = 180 := ⟨_, rfl⟩
  have ek180 : k180.toInt = 180 := by rw [qk180]; rfl
  have rg0 := n_rng a0
  refine r_iload_n C (j := 0) (oDec_at oX12_delayOf 0 rfl) rfl rfl ?_
  refine r_sipush C (oDec_at oX12_delayOf 1 rfl) (v := k180) (by rw [qk180]; rfl) ?_
  obtain ⟨v1, ev1⟩ : ∃ z : Int32, z = a0 / k180 := ⟨_, rfl⟩
  have hv1 := n_divP (k := 180) ev1 ek180 (by decide)
  have rv1 := n_rng v1
  refine r_idiv C v1 (oDec_at oX12_delayOf 2 rfl) (n_ne0 (by omega)) ev1 ?_
  exact r_iret C (oDec_at oX12_delayOf 3 rfl) ⟨_, rfl, by omega⟩
set_option maxHeartbeats 4000000 in
set_option maxRecDepth 100000 in
theorem ct_X12_highOf (l : Launch) (E : oE) (s : oS) (a0 : Int32) (hp0 : 0 ≤ a0.toInt ∧ a0.toInt ≤ 4499) : oMet l 1 yX12_highOf cX12_highOf 1 (some .int) [] E s [.int a0] (oPi (fun r u => (r.toInt = a0.toInt / 12 % 15 - 7) ∧ (r = Int32.ofInt (a0.toInt / 12 % 15 - 7)))) := by
  refine oMet.of (lv := [(0, .int a0)]) (by decide +kernel) (Nat.le_of_ble_eq_true rfl) rfl (fun J C hT => ?_)
  have C : oC l 1 cX12_highOf RX12 1 (some .int) [] E s (oPi (fun r u => (r.toInt = a0.toInt / 12 % 15 - 7) ∧ (r = Int32.ofInt (a0.toInt / 12 % 15 - 7)))) J := C
  obtain ⟨k7, qk7⟩ : ∃ z : Int32, z = 7 := ⟨_, rfl⟩
  have ek7 : k7.toInt = 7 := by rw [qk7]; rfl
  obtain ⟨k12, qk12⟩ : ∃ z : Int32, z = 12 := ⟨_, rfl⟩
  have ek12 : k12.toInt = 12 := by rw [qk12]; rfl
  obtain ⟨k15, qk15⟩ : ∃ z : Int32, z = 15 := ⟨_, rfl⟩
  have ek15 : k15.toInt = 15 := by rw [qk15]; rfl
  have rg0 := n_rng a0
  refine r_iload_n C (j := 0) (oDec_at oX12_highOf 0 rfl) rfl rfl ?_
  refine r_bipush C (oDec_at oX12_highOf 1 rfl) (v := k12) (by rw [qk12]; rfl) ?_
  obtain ⟨v1, ev1⟩ : ∃ z : Int32, z = a0 / k12 := ⟨_, rfl⟩
  have hv1 := n_divP (k := 12) ev1 ek12 (by decide)
  have rv1 := n_rng v1
  refine r_idiv C v1 (oDec_at oX12_highOf 2 rfl) (n_ne0 (by omega)) ev1 ?_
  refine r_bipush C (oDec_at oX12_highOf 3 rfl) (v := k15) (by rw [qk15]; rfl) ?_
  obtain ⟨v2, ev2⟩ : ∃ z : Int32, z = v1 - v1 / k15 * k15 := ⟨_, rfl⟩
  have hv2 := n_rem (k := 15) ev2 ek15 (by decide)
  have rv2 := n_rng v2
  refine r_irem C v2 (oDec_at oX12_highOf 4 rfl) (n_ne0 (by omega)) ev2 ?_
  refine r_bipush C (oDec_at oX12_highOf 5 rfl) (v := k7) (by rw [qk7]; rfl) ?_
  refine r_pc C 9 rfl ?_
  obtain ⟨v3, ev3⟩ : ∃ z : Int32, z = v2 - k7 := ⟨_, rfl⟩
  have hv3 : v3.toInt = v2.toInt - k7.toInt := n_sub ev3 (by omega) (by omega)
  refine r_isub C v3 (oDec_at oX12_highOf 6 rfl) ev3 ?_
  exact r_iret C (oDec_at oX12_highOf 7 rfl) ⟨_, rfl, ⟨by omega, n_ofInt (by omega)⟩⟩
set_option maxHeartbeats 4000000 in
set_option maxRecDepth 100000 in
theorem ct_X12_mirrorOf (l : Launch) (E : oE) (s : oS) (a0 : Int32) (hp0 : 0 ≤ a0.toInt ∧ a0.toInt ≤ 4499) : oMet l 1 yX12_mirrorOf cX12_mirrorOf 1 (some .int) [] E s [.int a0] (oPi (fun r u => (r.toInt = a0.toInt / 6 % 2))) := by
  refine oMet.of (lv := [(0, .int a0)]) (by decide +kernel) (Nat.le_of_ble_eq_true rfl) rfl (fun J C hT => ?_)
  have C : oC l 1 cX12_mirrorOf RX12 1 (some .int) [] E s (oPi (fun r u => (r.toInt = a0.toInt / 6 % 2))) J := C
  obtain ⟨k2, qk2⟩ : ∃ z : Int32, z = 2 := ⟨_, rfl⟩
  have ek2 : k2.toInt = 2 := by rw [qk2]; rfl
  obtain ⟨k6, qk6⟩ : ∃ z : Int32, z = 6 := ⟨_, rfl⟩
  have ek6 : k6.toInt = 6 := by rw [qk6]; rfl
  have rg0 := n_rng a0
  refine r_iload_n C (j := 0) (oDec_at oX12_mirrorOf 0 rfl) rfl rfl ?_
  refine r_bipush C (oDec_at oX12_mirrorOf 1 rfl) (v := k6) (by rw [qk6]; rfl) ?_
  obtain ⟨v1, ev1⟩ : ∃ z : Int32, z = a0 / k6 := ⟨_, rfl⟩
  have hv1 := n_divP (k := 6) ev1 ek6 (by decide)
  have rv1 := n_rng v1
  refine r_idiv C v1 (oDec_at oX12_mirrorOf 2 rfl) (n_ne0 (by omega)) ev1 ?_
  refine r_iconst C (oDec_at oX12_mirrorOf 3 rfl) (v := k2) (by rw [qk2]; rfl) ?_
  obtain ⟨v2, ev2⟩ : ∃ z : Int32, z = v1 - v1 / k2 * k2 := ⟨_, rfl⟩
  have hv2 := n_rem (k := 2) ev2 ek2 (by decide)
  have rv2 := n_rng v2
  refine r_irem C v2 (oDec_at oX12_mirrorOf 4 rfl) (n_ne0 (by omega)) ev2 ?_
  exact r_iret C (oDec_at oX12_mirrorOf 5 rfl) ⟨_, rfl, by omega⟩
set_option maxHeartbeats 4000000 in
set_option maxRecDepth 100000 in
theorem ct_X12_backOf (l : Launch) (E : oE) (s : oS) (a0 : Int32) (hp0 : 0 ≤ a0.toInt ∧ a0.toInt ≤ 4499) : oMet l 1 yX12_backOf cX12_backOf 1 (some .int) [] E s [.int a0] (oPi (fun r u => (r.toInt = a0.toInt / 3 % 2))) := by
  refine oMet.of (lv := [(0, .int a0)]) (by decide +kernel) (Nat.le_of_ble_eq_true rfl) rfl (fun J C hT => ?_)
  have C : oC l 1 cX12_backOf RX12 1 (some .int) [] E s (oPi (fun r u => (r.toInt = a0.toInt / 3 % 2))) J := C
  obtain ⟨k2, qk2⟩ : ∃ z : Int32, z = 2 := ⟨_, rfl⟩
  have ek2 : k2.toInt = 2 := by rw [qk2]; rfl
  obtain ⟨k3, qk3⟩ : ∃ z : Int32, z = 3 := ⟨_, rfl⟩
  have ek3 : k3.toInt = 3 := by rw [qk3]; rfl
  have rg0 := n_rng a0
  refine r_iload_n C (j := 0) (oDec_at oX12_backOf 0 rfl) rfl rfl ?_
  refine r_iconst C (oDec_at oX12_backOf 1 rfl) (v := k3) (by rw [qk3]; rfl) ?_
  obtain ⟨v1, ev1⟩ : ∃ z : Int32, z = a0 / k3 := ⟨_, rfl⟩
  have hv1 := n_divP (k := 3) ev1 ek3 (by decide)
  have rv1 := n_rng v1
  refine r_idiv C v1 (oDec_at oX12_backOf 2 rfl) (n_ne0 (by omega)) ev1 ?_
  refine r_iconst C (oDec_at oX12_backOf 3 rfl) (v := k2) (by rw [qk2]; rfl) ?_
  obtain ⟨v2, ev2⟩ : ∃ z : Int32, z = v1 - v1 / k2 * k2 := ⟨_, rfl⟩
  have hv2 := n_rem (k := 2) ev2 ek2 (by decide)
  have rv2 := n_rng v2
  refine r_irem C v2 (oDec_at oX12_backOf 4 rfl) (n_ne0 (by omega)) ev2 ?_
  exact r_iret C (oDec_at oX12_backOf 5 rfl) ⟨_, rfl, by omega⟩
set_option maxHeartbeats 4000000 in
set_option maxRecDepth 100000 in
theorem ct_X12_paceOf (l : Launch) (E : oE) (s : oS) (a0 : Int32) (hp0 : 0 ≤ a0.toInt ∧ a0.toInt ≤ 4499) : oMet l 1 yX12_paceOf cX12_paceOf 1 (some .int) [] E s [.int a0] (oPi (fun r u => (r.toInt = a0.toInt % 3))) := by
  refine oMet.of (lv := [(0, .int a0)]) (by decide +kernel) (Nat.le_of_ble_eq_true rfl) rfl (fun J C hT => ?_)
  have C : oC l 1 cX12_paceOf RX12 1 (some .int) [] E s (oPi (fun r u => (r.toInt = a0.toInt % 3))) J := C
  obtain ⟨k3, qk3⟩ : ∃ z : Int32, z = 3 := ⟨_, rfl⟩
  have ek3 : k3.toInt = 3 := by rw [qk3]; rfl
  have rg0 := n_rng a0
  refine r_iload_n C (j := 0) (oDec_at oX12_paceOf 0 rfl) rfl rfl ?_
  refine r_iconst C (oDec_at oX12_paceOf 1 rfl) (v := k3) (by rw [qk3]; rfl) ?_
  obtain ⟨v1, ev1⟩ : ∃ z : Int32, z = a0 - a0 / k3 * k3 := ⟨_, rfl⟩
  have hv1 := n_rem (k := 3) ev1 ek3 (by decide)
  have rv1 := n_rng v1
  refine r_irem C v1 (oDec_at oX12_paceOf 2 rfl) (n_ne0 (by omega)) ev1 ?_
  exact r_iret C (oDec_at oX12_paceOf 3 rfl) ⟨_, rfl, by omega⟩
set_option maxHeartbeats 4000000 in
set_option maxRecDepth 100000 in
theorem ct_X12_codeOf (l : Launch) (E : oE) (s : oS) (a0 : Int32) (a1 : Int32) (a2 : Int32) (a3 : Int32) (a4 : Int32) (hp0 : 0 ≤ a0.toInt ∧ a0.toInt ≤ 24) (hp1 : -7 ≤ a1.toInt ∧ a1.toInt ≤ 7) (hp2 : 0 ≤ a2.toInt ∧ a2.toInt ≤ 1) (hp3 : 0 ≤ a3.toInt ∧ a3.toInt ≤ 1) (hp4 : 0 ≤ a4.toInt ∧ a4.toInt ≤ 2) : oMet l 1 yX12_codeOf cX12_codeOf 5 (some .int) [] E s [.int a0, .int a1, .int a2, .int a3, .int a4] (oPi (fun r u => (r.toInt = (((a0.toInt * 15 + a1.toInt + 7) * 2 + a2.toInt) * 2 + a3.toInt) * 3 + a4.toInt))) := by
  refine oMet.of (lv := [(0, .int a0), (1, .int a1), (2, .int a2), (3, .int a3), (4, .int a4)]) (by decide +kernel) (Nat.le_of_ble_eq_true rfl) rfl (fun J C hT => ?_)
  have C : oC l 1 cX12_codeOf RX12 5 (some .int) [] E s (oPi (fun r u => (r.toInt = (((a0.toInt * 15 + a1.toInt + 7) * 2 + a2.toInt) * 2 + a3.toInt) * 3 + a4.toInt))) J := C
  obtain ⟨k2, qk2⟩ : ∃ z : Int32, z = 2 := ⟨_, rfl⟩
  have ek2 : k2.toInt = 2 := by rw [qk2]; rfl
  obtain ⟨k3, qk3⟩ : ∃ z : Int32, z = 3 := ⟨_, rfl⟩
  have ek3 : k3.toInt = 3 := by rw [qk3]; rfl
  obtain ⟨k7, qk7⟩ : ∃ z : Int32, z = 7 := ⟨_, rfl⟩
  have ek7 : k7.toInt = 7 := by rw [qk7]; rfl
  obtain ⟨k15, qk15⟩ : ∃ z : Int32, z = 15 := ⟨_, rfl⟩
  have ek15 : k15.toInt = 15 := by rw [qk15]; rfl
  have rg0 := n_rng a0
  have rg1 := n_rng a1
  have rg2 := n_rng a2
  have rg3 := n_rng a3
  have rg4 := n_rng a4
  refine r_iload_n C (j := 0) (oDec_at oX12_codeOf 0 rfl) rfl rfl ?_
  refine r_bipush C (oDec_at oX12_codeOf 1 rfl) (v := k15) (by rw [qk15]; rfl) ?_
  obtain ⟨v1, ev1⟩ : ∃ z : Int32, z = a0 * k15 := ⟨_, rfl⟩
  have hv1 : v1.toInt = a0.toInt * 15 := n_mulK 15 ev1 ek15 (by omega) (by omega)
  refine r_imul C v1 (oDec_at oX12_codeOf 2 rfl) ev1 ?_
  refine r_iload_n C (j := 1) (oDec_at oX12_codeOf 3 rfl) rfl rfl ?_
  obtain ⟨v2, ev2⟩ : ∃ z : Int32, z = v1 + a1 := ⟨_, rfl⟩
  have hv2 : v2.toInt = v1.toInt + a1.toInt := n_add ev2 (by omega) (by omega)
  refine r_iadd C v2 (oDec_at oX12_codeOf 4 rfl) ev2 ?_
  refine r_bipush C (oDec_at oX12_codeOf 5 rfl) (v := k7) (by rw [qk7]; rfl) ?_
  refine r_pc C 8 rfl ?_
  obtain ⟨v3, ev3⟩ : ∃ z : Int32, z = v2 + k7 := ⟨_, rfl⟩
  have hv3 : v3.toInt = v2.toInt + k7.toInt := n_add ev3 (by omega) (by omega)
  refine r_iadd C v3 (oDec_at oX12_codeOf 6 rfl) ev3 ?_
  refine r_iconst C (oDec_at oX12_codeOf 7 rfl) (v := k2) (by rw [qk2]; rfl) ?_
  obtain ⟨v4, ev4⟩ : ∃ z : Int32, z = v3 * k2 := ⟨_, rfl⟩
  have hv4 : v4.toInt = v3.toInt * 2 := n_mulK 2 ev4 ek2 (by omega) (by omega)
  refine r_imul C v4 (oDec_at oX12_codeOf 8 rfl) ev4 ?_
  refine r_iload_n C (j := 2) (oDec_at oX12_codeOf 9 rfl) rfl rfl ?_
  obtain ⟨v5, ev5⟩ : ∃ z : Int32, z = v4 + a2 := ⟨_, rfl⟩
  have hv5 : v5.toInt = v4.toInt + a2.toInt := n_add ev5 (by omega) (by omega)
  refine r_iadd C v5 (oDec_at oX12_codeOf 10 rfl) ev5 ?_
  refine r_iconst C (oDec_at oX12_codeOf 11 rfl) (v := k2) (by rw [qk2]; rfl) ?_
  refine r_pc C 14 rfl ?_
  obtain ⟨v6, ev6⟩ : ∃ z : Int32, z = v5 * k2 := ⟨_, rfl⟩
  have hv6 : v6.toInt = v5.toInt * 2 := n_mulK 2 ev6 ek2 (by omega) (by omega)
  refine r_imul C v6 (oDec_at oX12_codeOf 12 rfl) ev6 ?_
  refine r_iload_n C (j := 3) (oDec_at oX12_codeOf 13 rfl) rfl rfl ?_
  obtain ⟨v7, ev7⟩ : ∃ z : Int32, z = v6 + a3 := ⟨_, rfl⟩
  have hv7 : v7.toInt = v6.toInt + a3.toInt := n_add ev7 (by omega) (by omega)
  refine r_iadd C v7 (oDec_at oX12_codeOf 14 rfl) ev7 ?_
  refine r_iconst C (oDec_at oX12_codeOf 15 rfl) (v := k3) (by rw [qk3]; rfl) ?_
  obtain ⟨v8, ev8⟩ : ∃ z : Int32, z = v7 * k3 := ⟨_, rfl⟩
  have hv8 : v8.toInt = v7.toInt * 3 := n_mulK 3 ev8 ek3 (by omega) (by omega)
  refine r_imul C v8 (oDec_at oX12_codeOf 16 rfl) ev8 ?_
  refine r_iload C (j := 4) (oDec_at oX12_codeOf 17 rfl) rfl ?_
  refine r_pc C 21 rfl ?_
  obtain ⟨v9, ev9⟩ : ∃ z : Int32, z = v8 + a4 := ⟨_, rfl⟩
  have hv9 : v9.toInt = v8.toInt + a4.toInt := n_add ev9 (by omega) (by omega)
  refine r_iadd C v9 (oDec_at oX12_codeOf 18 rfl) ev9 ?_
  exact r_iret C (oDec_at oX12_codeOf 19 rfl) ⟨_, rfl, by omega⟩
set_option maxHeartbeats 4000000 in
set_option maxRecDepth 100000 in
theorem ct_X12_code (l : Launch) (E : oE) (s : oS) (a1 : Int32) (a2 : Int32) (a3 : Int32) (a4 : Int32) (a5 : Int32)  : oMet l 2 yX12_code cX12_code 7 (some .int) [] E s [.ref (oad E 71), .int a1, .int a2, .int a3, .int a4, .int a5] (oPi (fun r u => ((0 ≤ a1.toInt ∧ a1.toInt ≤ 24 ∧ -7 ≤ a2.toInt ∧ a2.toInt ≤ 7 ∧ 0 ≤ a3.toInt ∧ a3.toInt ≤ 1 ∧ 0 ≤ a4.toInt ∧ a4.toInt ≤ 1 ∧ 0 ≤ a5.toInt ∧ a5.toInt ≤ 2 ∧ r.toInt = (a1.toInt * 15 + a2.toInt + 7) * 12 + (a3.toInt * 2 + a4.toInt) * 3 + a5.toInt) ∨ ((a1.toInt < 0 ∨ 24 < a1.toInt ∨ a2.toInt < -7 ∨ 7 < a2.toInt ∨ a3.toInt < 0 ∨ 1 < a3.toInt ∨ a4.toInt < 0 ∨ 1 < a4.toInt ∨ a5.toInt < 0 ∨ 2 < a5.toInt) ∧ r.toInt = -1)))) := by
  refine oMet.of (lv := [(0, .ref (oad E 71)), (1, .int a1), (2, .int a2), (3, .int a3), (4, .int a4), (5, .int a5)]) (by decide +kernel) (Nat.le_of_ble_eq_true rfl) rfl (fun J C hT => ?_)
  have C : oC l 2 cX12_code RX12 7 (some .int) [] E s (oPi (fun r u => ((0 ≤ a1.toInt ∧ a1.toInt ≤ 24 ∧ -7 ≤ a2.toInt ∧ a2.toInt ≤ 7 ∧ 0 ≤ a3.toInt ∧ a3.toInt ≤ 1 ∧ 0 ≤ a4.toInt ∧ a4.toInt ≤ 1 ∧ 0 ≤ a5.toInt ∧ a5.toInt ≤ 2 ∧ r.toInt = (a1.toInt * 15 + a2.toInt + 7) * 12 + (a3.toInt * 2 + a4.toInt) * 3 + a5.toInt) ∨ ((a1.toInt < 0 ∨ 24 < a1.toInt ∨ a2.toInt < -7 ∨ 7 < a2.toInt ∨ a3.toInt < 0 ∨ 1 < a3.toInt ∨ a4.toInt < 0 ∨ 1 < a4.toInt ∨ a5.toInt < 0 ∨ 2 < a5.toInt) ∧ r.toInt = -1)))) J := C
  obtain ⟨km1, qkm1⟩ : ∃ z : Int32, z = (-1) := ⟨_, rfl⟩
  have ekm1 : km1.toInt = (-1) := by rw [qkm1]; rfl
  obtain ⟨k0, qk0⟩ : ∃ z : Int32, z = 0 := ⟨_, rfl⟩
  have ek0 : k0.toInt = 0 := by rw [qk0]; rfl
  obtain ⟨k1, qk1⟩ : ∃ z : Int32, z = 1 := ⟨_, rfl⟩
  have ek1 : k1.toInt = 1 := by rw [qk1]; rfl
  obtain ⟨jm7, qjm7⟩ : ∃ z : Int64, z = (-7) := ⟨_, rfl⟩
  have ejm7 : jm7.toInt = (-7) := by rw [qjm7]; rfl
  obtain ⟨j0, qj0⟩ : ∃ z : Int64, z = 0 := ⟨_, rfl⟩
  have ej0 : j0.toInt = 0 := by rw [qj0]; rfl
  obtain ⟨j1, qj1⟩ : ∃ z : Int64, z = 1 := ⟨_, rfl⟩
  have ej1 : j1.toInt = 1 := by rw [qj1]; rfl
  obtain ⟨j2, qj2⟩ : ∃ z : Int64, z = 2 := ⟨_, rfl⟩
  have ej2 : j2.toInt = 2 := by rw [qj2]; rfl
  obtain ⟨j7, qj7⟩ : ∃ z : Int64, z = 7 := ⟨_, rfl⟩
  have ej7 : j7.toInt = 7 := by rw [qj7]; rfl
  obtain ⟨j24, qj24⟩ : ∃ z : Int64, z = 24 := ⟨_, rfl⟩
  have ej24 : j24.toInt = 24 := by rw [qj24]; rfl
  have rg1 := n_rng a1
  have rg2 := n_rng a2
  have rg3 := n_rng a3
  have rg4 := n_rng a4
  have rg5 := n_rng a5
  refine r_iload_n C (j := 1) (oDec_at oX12_code 0 rfl) rfl rfl ?_
  obtain ⟨v1, ev1⟩ : ∃ z : Int64, a1.toInt64 = z := ⟨_, rfl⟩
  have hv1 : v1.toInt = a1.toInt := n_i2l ev1
  refine r_i2l C v1 (oDec_at oX12_code 1 rfl) ev1 ?_
  refine r_lconst C (oDec_at oX12_code 2 rfl) (v := j0) (by rw [qj0]; rfl) ?_
  refine r_ldc2 C (v := j24) (by rw [qj24]; exact klX12_411) (oDec_at oX12_code 3 rfl) ?_
  refine r_callSi C miX12_isIn mlX12_216 (ct_X12_isIn l E (s) v1 j0 j24 ) (by decide) rfl rfl rfl (Nat.le_of_ble_eq_true rfl) (oDec_at oX12_code 4 rfl) (fun r3 u2 pu2 fu2 => ?_)
  try dsimp only at pu2
  obtain ⟨pu2_0, pu2_1⟩ := pu2
  have hxu2 := oFr_nil fu2; subst hxu2
  have rr3 := n_rng r3
  refine r_if_eq C 64 (oDec_at oX12_code 5 rfl) (by decide) (fun cd4 => ?_) (fun cd4 => ?_)
  · skip
    refine r_iconst C (oDec_at oX12_code 32 rfl) (v := k0) (by rw [qk0]; rfl) ?_
    refine r_istore C (lv' := [(0, .ref (oad E 71)), (1, .int a1), (2, .int a2), (3, .int a3), (4, .int a4), (5, .int a5), (6, .int k0)]) [1, 2, 3, 4, 5, 6, 0] (oDec_at oX12_code 33 rfl) (by decide) rfl ?_
    refine r_iload C (j := 6) (oDec_at oX12_code 34 rfl) rfl ?_
    refine r_if_eq C 85 (oDec_at oX12_code 35 rfl) (by decide) (fun cd5 => ?_) (fun cd5 => ?_)
    · skip
      refine r_iconst C (oDec_at oX12_code 43 rfl) (v := km1) (by rw [qkm1]; rfl) ?_
      exact r_iret C (oDec_at oX12_code 44 rfl) ⟨_, rfl, by omega⟩
    · omega
  · skip
    refine r_iload_n C (j := 2) (oDec_at oX12_code 6 rfl) rfl rfl ?_
    obtain ⟨v6, ev6⟩ : ∃ z : Int64, a2.toInt64 = z := ⟨_, rfl⟩
    have hv6 : v6.toInt = a2.toInt := n_i2l ev6
    refine r_i2l C v6 (oDec_at oX12_code 7 rfl) ev6 ?_
    refine r_ldc2 C (v := jm7) (by rw [qjm7]; exact klX12_413) (oDec_at oX12_code 8 rfl) ?_
    refine r_ldc2 C (v := j7) (by rw [qj7]; exact klX12_415) (oDec_at oX12_code 9 rfl) ?_
    refine r_callSi C miX12_isIn mlX12_216 (ct_X12_isIn l E (s) v6 jm7 j7 ) (by decide) rfl rfl rfl (Nat.le_of_ble_eq_true rfl) (oDec_at oX12_code 10 rfl) (fun r8 u7 pu7 fu7 => ?_)
    try dsimp only at pu7
    obtain ⟨pu7_0, pu7_1⟩ := pu7
    have hxu7 := oFr_nil fu7; subst hxu7
    have rr8 := n_rng r8
    refine r_if_eq C 64 (oDec_at oX12_code 11 rfl) (by decide) (fun cd9 => ?_) (fun cd9 => ?_)
    · skip
      refine r_iconst C (oDec_at oX12_code 32 rfl) (v := k0) (by rw [qk0]; rfl) ?_
      refine r_istore C (lv' := [(0, .ref (oad E 71)), (1, .int a1), (2, .int a2), (3, .int a3), (4, .int a4), (5, .int a5), (6, .int k0)]) [1, 2, 3, 4, 5, 6, 0] (oDec_at oX12_code 33 rfl) (by decide) rfl ?_
      refine r_iload C (j := 6) (oDec_at oX12_code 34 rfl) rfl ?_
      refine r_if_eq C 85 (oDec_at oX12_code 35 rfl) (by decide) (fun cd10 => ?_) (fun cd10 => ?_)
      · skip
        refine r_iconst C (oDec_at oX12_code 43 rfl) (v := km1) (by rw [qkm1]; rfl) ?_
        exact r_iret C (oDec_at oX12_code 44 rfl) ⟨_, rfl, by omega⟩
      · omega
    · skip
      refine r_iload_n C (j := 3) (oDec_at oX12_code 12 rfl) rfl rfl ?_
      obtain ⟨v11, ev11⟩ : ∃ z : Int64, a3.toInt64 = z := ⟨_, rfl⟩
      have hv11 : v11.toInt = a3.toInt := n_i2l ev11
      refine r_i2l C v11 (oDec_at oX12_code 13 rfl) ev11 ?_
      refine r_lconst C (oDec_at oX12_code 14 rfl) (v := j0) (by rw [qj0]; rfl) ?_
      refine r_lconst C (oDec_at oX12_code 15 rfl) (v := j1) (by rw [qj1]; rfl) ?_
      refine r_callSi C miX12_isIn mlX12_216 (ct_X12_isIn l E (s) v11 j0 j1 ) (by decide) rfl rfl rfl (Nat.le_of_ble_eq_true rfl) (oDec_at oX12_code 16 rfl) (fun r13 u12 pu12 fu12 => ?_)
      try dsimp only at pu12
      obtain ⟨pu12_0, pu12_1⟩ := pu12
      have hxu12 := oFr_nil fu12; subst hxu12
      have rr13 := n_rng r13
      refine r_if_eq C 64 (oDec_at oX12_code 17 rfl) (by decide) (fun cd14 => ?_) (fun cd14 => ?_)
      · skip
        refine r_iconst C (oDec_at oX12_code 32 rfl) (v := k0) (by rw [qk0]; rfl) ?_
        refine r_istore C (lv' := [(0, .ref (oad E 71)), (1, .int a1), (2, .int a2), (3, .int a3), (4, .int a4), (5, .int a5), (6, .int k0)]) [1, 2, 3, 4, 5, 6, 0] (oDec_at oX12_code 33 rfl) (by decide) rfl ?_
        refine r_iload C (j := 6) (oDec_at oX12_code 34 rfl) rfl ?_
        refine r_if_eq C 85 (oDec_at oX12_code 35 rfl) (by decide) (fun cd15 => ?_) (fun cd15 => ?_)
        · skip
          refine r_iconst C (oDec_at oX12_code 43 rfl) (v := km1) (by rw [qkm1]; rfl) ?_
          exact r_iret C (oDec_at oX12_code 44 rfl) ⟨_, rfl, by omega⟩
        · omega
      · skip
        refine r_iload C (j := 4) (oDec_at oX12_code 18 rfl) rfl ?_
        obtain ⟨v16, ev16⟩ : ∃ z : Int64, a4.toInt64 = z := ⟨_, rfl⟩
        have hv16 : v16.toInt = a4.toInt := n_i2l ev16
        refine r_i2l C v16 (oDec_at oX12_code 19 rfl) ev16 ?_
        refine r_lconst C (oDec_at oX12_code 20 rfl) (v := j0) (by rw [qj0]; rfl) ?_
        refine r_lconst C (oDec_at oX12_code 21 rfl) (v := j1) (by rw [qj1]; rfl) ?_
        refine r_callSi C miX12_isIn mlX12_216 (ct_X12_isIn l E (s) v16 j0 j1 ) (by decide) rfl rfl rfl (Nat.le_of_ble_eq_true rfl) (oDec_at oX12_code 22 rfl) (fun r18 u17 pu17 fu17 => ?_)
        try dsimp only at pu17
        obtain ⟨pu17_0, pu17_1⟩ := pu17
        have hxu17 := oFr_nil fu17; subst hxu17
        have rr18 := n_rng r18
        refine r_if_eq C 64 (oDec_at oX12_code 23 rfl) (by decide) (fun cd19 => ?_) (fun cd19 => ?_)
        · skip
          refine r_iconst C (oDec_at oX12_code 32 rfl) (v := k0) (by rw [qk0]; rfl) ?_
          refine r_istore C (lv' := [(0, .ref (oad E 71)), (1, .int a1), (2, .int a2), (3, .int a3), (4, .int a4), (5, .int a5), (6, .int k0)]) [1, 2, 3, 4, 5, 6, 0] (oDec_at oX12_code 33 rfl) (by decide) rfl ?_
          refine r_iload C (j := 6) (oDec_at oX12_code 34 rfl) rfl ?_
          refine r_if_eq C 85 (oDec_at oX12_code 35 rfl) (by decide) (fun cd20 => ?_) (fun cd20 => ?_)
          · skip
            refine r_iconst C (oDec_at oX12_code 43 rfl) (v := km1) (by rw [qkm1]; rfl) ?_
            exact r_iret C (oDec_at oX12_code 44 rfl) ⟨_, rfl, by omega⟩
          · omega
        · skip
          refine r_iload C (j := 5) (oDec_at oX12_code 24 rfl) rfl ?_
          obtain ⟨v21, ev21⟩ : ∃ z : Int64, a5.toInt64 = z := ⟨_, rfl⟩
          have hv21 : v21.toInt = a5.toInt := n_i2l ev21
          refine r_i2l C v21 (oDec_at oX12_code 25 rfl) ev21 ?_
          refine r_lconst C (oDec_at oX12_code 26 rfl) (v := j0) (by rw [qj0]; rfl) ?_
          refine r_ldc2 C (v := j2) (by rw [qj2]; exact klX12_417) (oDec_at oX12_code 27 rfl) ?_
          refine r_callSi C miX12_isIn mlX12_216 (ct_X12_isIn l E (s) v21 j0 j2 ) (by decide) rfl rfl rfl (Nat.le_of_ble_eq_true rfl) (oDec_at oX12_code 28 rfl) (fun r23 u22 pu22 fu22 => ?_)
          try dsimp only at pu22
          obtain ⟨pu22_0, pu22_1⟩ := pu22
          have hxu22 := oFr_nil fu22; subst hxu22
          have rr23 := n_rng r23
          refine r_if_eq C 64 (oDec_at oX12_code 29 rfl) (by decide) (fun cd24 => ?_) (fun cd24 => ?_)
          · skip
            refine r_iconst C (oDec_at oX12_code 32 rfl) (v := k0) (by rw [qk0]; rfl) ?_
            refine r_istore C (lv' := [(0, .ref (oad E 71)), (1, .int a1), (2, .int a2), (3, .int a3), (4, .int a4), (5, .int a5), (6, .int k0)]) [1, 2, 3, 4, 5, 6, 0] (oDec_at oX12_code 33 rfl) (by decide) rfl ?_
            refine r_iload C (j := 6) (oDec_at oX12_code 34 rfl) rfl ?_
            refine r_if_eq C 85 (oDec_at oX12_code 35 rfl) (by decide) (fun cd25 => ?_) (fun cd25 => ?_)
            · skip
              refine r_iconst C (oDec_at oX12_code 43 rfl) (v := km1) (by rw [qkm1]; rfl) ?_
              exact r_iret C (oDec_at oX12_code 44 rfl) ⟨_, rfl, by omega⟩
            · omega
          · skip
            refine r_iconst C (oDec_at oX12_code 30 rfl) (v := k1) (by rw [qk1]; rfl) ?_
            refine r_goto C (tgt := 65) (oDec_at oX12_code 31 rfl) (by decide) ?_
            refine r_istore C (lv' := [(0, .ref (oad E 71)), (1, .int a1), (2, .int a2), (3, .int a3), (4, .int a4), (5, .int a5), (6, .int k1)]) [1, 2, 3, 4, 5, 6, 0] (oDec_at oX12_code 33 rfl) (by decide) rfl ?_
            refine r_iload C (j := 6) (oDec_at oX12_code 34 rfl) rfl ?_
            refine r_if_eq C 85 (oDec_at oX12_code 35 rfl) (by decide) (fun cd26 => ?_) (fun cd26 => ?_)
            · omega
            · skip
              refine r_iload_n C (j := 1) (oDec_at oX12_code 36 rfl) rfl rfl ?_
              refine r_iload_n C (j := 2) (oDec_at oX12_code 37 rfl) rfl rfl ?_
              refine r_iload_n C (j := 3) (oDec_at oX12_code 38 rfl) rfl rfl ?_
              refine r_iload C (j := 4) (oDec_at oX12_code 39 rfl) rfl ?_
              refine r_iload C (j := 5) (oDec_at oX12_code 40 rfl) rfl ?_
              refine r_callSi C miX12_codeOf mlX12_419 (ct_X12_codeOf l E (s) a1 a2 a3 a4 a5 (by omega) (by omega) (by omega) (by omega) (by omega)) (by decide) rfl rfl rfl (Nat.le_of_ble_eq_true rfl) (oDec_at oX12_code 41 rfl) (fun r28 u27 pu27 fu27 => ?_)
              try dsimp only at pu27
              have hxu27 := oFr_nil fu27; subst hxu27
              have rr28 := n_rng r28
              refine r_pc C 82 rfl ?_
              refine r_goto C (tgt := 86) (oDec_at oX12_code 42 rfl) (by decide) ?_
              exact r_iret C (oDec_at oX12_code 44 rfl) ⟨_, rfl, by omega⟩
