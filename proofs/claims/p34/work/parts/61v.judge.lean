set_option maxHeartbeats 4000000 in
set_option maxRecDepth 100000 in
theorem ct9_J9_abs (l : Launch) (E : oE) (s : oS) (a0 : Int32)  (hp0 : -2147483648 < a0.toInt) : oMet l 1 yJ9_abs_0f7a4 cJ9_abs_0f7a4 1 (some .int) [] E s [.int a0] (oPi (fun r u => (r.toInt = owAb a0.toInt))) := by
  refine oMet.ofF (lv := [(0, .int a0)]) (by decide +kernel) (Nat.le_of_ble_eq_true rfl) rfl (fun J C hT => ?_)
  have C : oC l 1 cJ9_abs_0f7a4 RJ9 1 (some .int) [] E s (oPi (fun r u => (r.toInt = owAb a0.toInt))) J := C
  have rg0 := n_rng a0
  refine r_iload_n C (j := 0) (oDec_at oJ9_abs_0f7a4 0 rfl) rfl rfl ?_
  refine r_if_ge C 9 (oDec_at oJ9_abs_0f7a4 1 rfl) (by decide) (fun cd1 => ?_) (fun cd1 => ?_)
  · skip
    refine r_iload_n C (j := 0) (oDec_at oJ9_abs_0f7a4 5 rfl) rfl rfl ?_
    exact r_iret C (oDec_at oJ9_abs_0f7a4 6 rfl) ⟨_, rfl, by unfold owAb; first | (rw [if_pos (by omega)] <;> omega) | (rw [if_neg (by omega)] <;> omega)⟩
  · skip
    refine r_iload_n C (j := 0) (oDec_at oJ9_abs_0f7a4 2 rfl) rfl rfl ?_
    obtain ⟨v2, ev2⟩ : ∃ z : Int32, z = -a0 := ⟨_, rfl⟩
    have hv2 : v2.toInt = -a0.toInt := n_neg ev2 (by omega)
    refine r_ineg C v2 (oDec_at oJ9_abs_0f7a4 3 rfl) ev2 ?_
    refine r_goto C (tgt := 10) (oDec_at oJ9_abs_0f7a4 4 rfl) (by decide) ?_
    exact r_iret C (oDec_at oJ9_abs_0f7a4 6 rfl) ⟨_, rfl, by unfold owAb; first | (rw [if_pos (by omega)] <;> omega) | (rw [if_neg (by omega)] <;> omega)⟩
set_option maxHeartbeats 4000000 in
set_option maxRecDepth 100000 in
theorem ct9_J7_fill (l : Launch) (E : oE) (s : oS) (c0 q0 n0 : Nat) (hk0 : okd c0 = q0) (h13_0 : 13 ≤ q0) (h9_0 : q0 < 999) (ht0 : oat q0 = 0) (hn0 : oln q0 = n0) (a1 : Int32)  (hpE : ∀ k, olo q0 k ≤ a1.toInt ∧ a1.toInt ≤ ohi q0 k) (hp0 : n0 ≤ 10000) : oMet l 1 yJ7_fill_53178 cJ7_fill_53178 4 none [(q0, 9999)] E s [.ref (oad E c0), .int a1] (oPv (fun u => (∀ i : Nat, (i : Int) < (n0 : Int) → (u.1 c0 i).toInt = a1.toInt))) := by
  refine oMet.ofF (lv := [(0, .ref (oad E c0)), (1, .int a1)]) (by decide +kernel) (Nat.le_of_ble_eq_true rfl) rfl (fun J C hT => ?_)
  have C : oC l 1 cJ7_fill_53178 RJ7 4 none [(q0, 9999)] E s (oPv (fun u => (∀ i : Nat, (i : Int) < (n0 : Int) → (u.1 c0 i).toInt = a1.toInt))) J := C
  obtain ⟨k0, qk0⟩ : ∃ z : Int32, z = 0 := ⟨_, rfl⟩
  have ek0 : k0.toInt = 0 := by rw [qk0]; rfl
  have rg1 := n_rng a1
  have key : ∀ n : Nat, (∀ (t : oS) (x2 : Int32) (x3 : Int32), (0 ≤ x2.toInt ∧ x2.toInt ≤ x3.toInt) → (x3.toInt = (n0 : Int)) → (∀ i : Nat, (i : Int) < x2.toInt → (t.1 c0 i).toInt = a1.toInt) → x3.toInt - x2.toInt + 1 ≤ (n : Int) → J t 5 [(0, .ref (oad E c0)), (1, .int a1), (2, .int x2), (3, .int x3)] []) := by
    intro n
    induction n using Nat.strongRecOn with
    | _ n ih =>
      skip
      · intro t x2 x3  iv0 iv1 iv2 hmu
        have rx2 := n_rng x2
        have rx3 := n_rng x3
        refine r_iload_n C (j := 2) (oDec_at oJ7_fill_53178 5 rfl) rfl rfl ?_
        refine r_iload_n C (j := 3) (oDec_at oJ7_fill_53178 6 rfl) rfl rfl ?_
        refine r_icmp_ge C 20 (oDec_at oJ7_fill_53178 7 rfl) (by decide) (fun cd1 => ?_) (fun cd1 => ?_)
        · skip
          exact r_vret C (oDec_at oJ7_fill_53178 14 rfl) ⟨rfl, fun i hi => iv2 i (by omega)⟩
        · skip
          refine r_aload_n C (j := 0) (oDec_at oJ7_fill_53178 8 rfl) rfl rfl ?_
          refine r_iload_n C (j := 2) (oDec_at oJ7_fill_53178 9 rfl) rfl rfl ?_
          refine r_iload_n C (j := 1) (oDec_at oJ7_fill_53178 10 rfl) rfl rfl ?_
          refine r_iast (n := n0) C hk0 h13_0 ht0 hn0 ⟨by omega, by omega⟩ h9_0 rfl rfl (by simp [oin]) (by simp [oin]) (hpE _) (oDec_at oJ7_fill_53178 11 rfl) ?_
          obtain ⟨v2, ev2⟩ : ∃ z : Int32, x2 + Int32.ofInt 1 = z := ⟨_, rfl⟩
          have hv2 : v2.toInt = x2.toInt + 1 := n_inc ev2 (by decide) (by omega) (by omega)
          refine r_iinc C (j := 2) (lv' := [(0, .ref (oad E c0)), (1, .int a1), (2, .int v2), (3, .int x3)]) v2 [1, 2, 0, 3] (oDec_at oJ7_fill_53178 12 rfl) rfl ev2 (by decide) rfl ?_
          refine r_goto C (tgt := 5) (oDec_at oJ7_fill_53178 13 rfl) (by decide) ?_
          exact (ih (n - 1) (by omega)) ((pI t c0 x2.toNatClampNeg a1)) v2 x3  (by omega) (by omega) (by first | exact owFl_pu iv2 (by omega) (by omega) | (intro i hi; exfalso; omega)) (by omega)
  refine r_iconst C (oDec_at oJ7_fill_53178 0 rfl) (v := k0) (by rw [qk0]; rfl) ?_
  refine r_istore_n C (lv' := [(0, .ref (oad E c0)), (1, .int a1), (2, .int k0)]) [1, 2, 0] (oDec_at oJ7_fill_53178 1 rfl) rfl (by decide) rfl ?_
  refine r_aload_n C (j := 0) (oDec_at oJ7_fill_53178 2 rfl) rfl rfl ?_
  obtain ⟨v3, ev3⟩ : ∃ z : Int32, Int32.ofNat n0 = z := ⟨_, rfl⟩
  have hv3 : v3.toInt = (n0 : Int) := n_ofNat ev3 (by omega)
  refine r_alen0 (n := n0) C v3 hk0 h13_0 ht0 hn0 h9_0 ev3 (oDec_at oJ7_fill_53178 3 rfl) ?_
  refine r_istore_n C (lv' := [(0, .ref (oad E c0)), (1, .int a1), (2, .int k0), (3, .int v3)]) [1, 2, 3, 0] (oDec_at oJ7_fill_53178 4 rfl) rfl (by decide) rfl ?_
  exact (key (v3.toInt - k0.toInt + 1).toNat) (s) k0 v3  (by omega) (by omega) (by first | (intro i hi; exfalso; omega)) (by omega)
set_option maxHeartbeats 4000000 in
set_option maxRecDepth 100000 in
theorem ct9_X2_follow (l : Launch) (E : oE) (s : oS) (c1 : Nat) (hk1 : okd c1 = 0)   : oMet l 2 yX2_follow cX2_follow 2 none [(2, 3), (25, 9999)] E s [.ref (oad E 31), .ref (oad E c1)] (oPv (fun u => (owK0 u) ∧ (u.2.2 31 3 = c1 + 1))) := by
  refine oMet.of (lv := [(0, .ref (oad E 31)), (1, .ref (oad E c1))]) (by decide +kernel) (Nat.le_of_ble_eq_true rfl) rfl (fun J C hT => ?_)
  have C : oC l 2 cX2_follow RX2 2 none [(2, 3), (25, 9999)] E s (oPv (fun u => (owK0 u) ∧ (u.2.2 31 3 = c1 + 1))) J := C
  obtain ⟨km1, qkm1⟩ : ∃ z : Int32, z = (-1) := ⟨_, rfl⟩
  have ekm1 : km1.toInt = (-1) := by rw [qkm1]; rfl
  refine r_aload_n C (j := 0) (oDec_at oX2_follow 0 rfl) rfl rfl ?_
  refine r_aload_n C (j := 1) (oDec_at oX2_follow 1 rfl) rfl rfl ?_
  refine r_putr (k := 3) C oCl2 rfl (by decide) flX2_25 rfl rfl rfl rfl rfl rfl (oRok_S (q := 2) (k := 3) (j := 1) rfl rfl (kin1 hk1)) (oDec_at oX2_follow 2 rfl) ?_
  refine r_aload_n C (j := 0) (oDec_at oX2_follow 3 rfl) rfl rfl ?_
  refine r_getF (k := 0) (b := 32) C oCl2 rfl (by decide) flX2_11 rfl rfl rfl (oDec_at oX2_follow 4 rfl) ?_
  refine r_iconst C (oDec_at oX2_follow 5 rfl) (v := km1) (by rw [qkm1]; rfl) ?_
  refine r_pc C 10 rfl ?_
  refine r_callSv C miJ7_fill_53178 mlX2_29 (ct9_J7_fill l E ((pR s 31 3 (c1 + 1))) 32 25 4096 rfl (by decide) (by decide) rfl rfl km1 (fun _ => n_rng _) (by omega)) (by decide) rfl rfl rfl (Nat.le_of_ble_eq_true rfl) (oDec_at oX2_follow 6 rfl) (fun u1 pu1 fu1 => ?_)
  try dsimp only at pu1
  exact r_vret C (oDec_at oX2_follow 7 rfl) ⟨rfl, ⟨fun i hi => (pu1 i hi).trans (by omega), (((fu1 31 3 rfl).2.2).trans ((pR_self _ _ _ _)))⟩⟩
set_option maxHeartbeats 4000000 in
set_option maxRecDepth 100000 in
theorem ct9_X2_setFacts (l : Launch) (E : oE) (s : oS) (a1 : Int32) (a2 : Int32) (a3 : Int32)  (hp0 : owKr a1.toInt a2.toInt a3.toInt) : oMet l 2 yX2_setFacts cX2_setFacts 4 none [(27, 9999)] E s [.ref (oad E 31), .int a1, .int a2, .int a3] (oPv (fun u => (owFA (owFm a1.toInt a2.toInt a3.toInt) u))) := by
  refine oMet.of (lv := [(0, .ref (oad E 31)), (1, .int a1), (2, .int a2), (3, .int a3)]) (by decide +kernel) (Nat.le_of_ble_eq_true rfl) rfl (fun J C hT => ?_)
  have C : oC l 2 cX2_setFacts RX2 4 none [(27, 9999)] E s (oPv (fun u => (owFA (owFm a1.toInt a2.toInt a3.toInt) u))) J := C
  obtain ⟨k0, qk0⟩ : ∃ z : Int32, z = 0 := ⟨_, rfl⟩
  have ek0 : k0.toInt = 0 := by rw [qk0]; rfl
  obtain ⟨k1, qk1⟩ : ∃ z : Int32, z = 1 := ⟨_, rfl⟩
  have ek1 : k1.toInt = 1 := by rw [qk1]; rfl
  obtain ⟨k2, qk2⟩ : ∃ z : Int32, z = 2 := ⟨_, rfl⟩
  have ek2 : k2.toInt = 2 := by rw [qk2]; rfl
  obtain ⟨k3, qk3⟩ : ∃ z : Int32, z = 3 := ⟨_, rfl⟩
  have ek3 : k3.toInt = 3 := by rw [qk3]; rfl
  obtain ⟨k4, qk4⟩ : ∃ z : Int32, z = 4 := ⟨_, rfl⟩
  have ek4 : k4.toInt = 4 := by rw [qk4]; rfl
  obtain ⟨k5, qk5⟩ : ∃ z : Int32, z = 5 := ⟨_, rfl⟩
  have ek5 : k5.toInt = 5 := by rw [qk5]; rfl
  obtain ⟨k6, qk6⟩ : ∃ z : Int32, z = 6 := ⟨_, rfl⟩
  have ek6 : k6.toInt = 6 := by rw [qk6]; rfl
  obtain ⟨k7, qk7⟩ : ∃ z : Int32, z = 7 := ⟨_, rfl⟩
  have ek7 : k7.toInt = 7 := by rw [qk7]; rfl
  obtain ⟨k13, qk13⟩ : ∃ z : Int32, z = 13 := ⟨_, rfl⟩
  have ek13 : k13.toInt = 13 := by rw [qk13]; rfl
  obtain ⟨k32, qk32⟩ : ∃ z : Int32, z = 32 := ⟨_, rfl⟩
  have ek32 : k32.toInt = 32 := by rw [qk32]; rfl
  obtain ⟨k63, qk63⟩ : ∃ z : Int32, z = 63 := ⟨_, rfl⟩
  have ek63 : k63.toInt = 63 := by rw [qk63]; rfl
  have rg1 := n_rng a1
  have rg2 := n_rng a2
  have rg3 := n_rng a3
  have hkr9 : -128 ≤ a1.toInt ∧ a1.toInt ≤ 127 ∧ 0 ≤ a2.toInt ∧ a2.toInt ≤ 7 ∧ 0 ≤ a3.toInt ∧ a3.toInt < 131072 := hp0
  have hab9 := owAb_b (a := a1.toInt) (b := 128) (by omega)
  refine r_aload_n C (j := 0) (oDec_at oX2_setFacts 0 rfl) rfl rfl ?_
  refine r_getF (k := 2) (b := 34) C oCl2 rfl (by decide) flX2_18 rfl rfl rfl (oDec_at oX2_setFacts 1 rfl) ?_
  refine r_iconst C (oDec_at oX2_setFacts 2 rfl) (v := k0) (by rw [qk0]; rfl) ?_
  refine r_iload_n C (j := 1) (oDec_at oX2_setFacts 3 rfl) rfl rfl ?_
  refine r_callSi C miJ9_abs_0f7a4 mlX2_53 (ct9_J9_abs l E (s) a1 (by omega)) (by decide) rfl rfl rfl (Nat.le_of_ble_eq_true rfl) (oDec_at oX2_setFacts 4 rfl) (fun r2 u1 pu1 fu1 => ?_)
  try dsimp only at pu1
  have hxu1 := oFr_nil fu1; subst hxu1
  have rr2 := n_rng r2
  refine r_iast (n := 8) (lo := (-2147483648)) (hi := 2147483647) C rfl (by decide) rfl rfl ⟨by omega, by omega⟩ (by decide) rfl rfl rfl rfl (n_rng _) (oDec_at oX2_setFacts 5 rfl) ?_
  refine r_pc C 10 rfl ?_
  refine r_aload_n C (j := 0) (oDec_at oX2_setFacts 6 rfl) rfl rfl ?_
  refine r_getF (k := 2) (b := 34) C oCl2 rfl (by decide) flX2_18 rfl rfl rfl (oDec_at oX2_setFacts 7 rfl) ?_
  refine r_iconst C (oDec_at oX2_setFacts 8 rfl) (v := k1) (by rw [qk1]; rfl) ?_
  refine r_iload_n C (j := 1) (oDec_at oX2_setFacts 9 rfl) rfl rfl ?_
  refine r_callSi C miJ9_abs_0f7a4 mlX2_53 (ct9_J9_abs l E ((pI s 34 k0.toNatClampNeg r2)) a1 (by omega)) (by decide) rfl rfl rfl (Nat.le_of_ble_eq_true rfl) (oDec_at oX2_setFacts 10 rfl) (fun r4 u3 pu3 fu3 => ?_)
  try dsimp only at pu3
  have hxu3 := oFr_nil fu3; subst hxu3
  have rr4 := n_rng r4
  refine r_bipush C (oDec_at oX2_setFacts 11 rfl) (v := k7) (by rw [qk7]; rfl) ?_
  refine r_pc C 21 rfl ?_
  obtain ⟨v5, ev5⟩ : ∃ z : Int32, z = r4 - r4 / k7 * k7 := ⟨_, rfl⟩
  have hv5 := n_rem (k := 7) ev5 ek7 (by decide)
  have rv5 := n_rng v5
  refine r_irem C v5 (oDec_at oX2_setFacts 12 rfl) (n_ne0 (by omega)) ev5 ?_
  refine r_iast (n := 8) (lo := (-2147483648)) (hi := 2147483647) C rfl (by decide) rfl rfl ⟨by omega, by omega⟩ (by decide) rfl rfl rfl rfl (n_rng _) (oDec_at oX2_setFacts 13 rfl) ?_
  refine r_aload_n C (j := 0) (oDec_at oX2_setFacts 14 rfl) rfl rfl ?_
  refine r_getF (k := 2) (b := 34) C oCl2 rfl (by decide) flX2_18 rfl rfl rfl (oDec_at oX2_setFacts 15 rfl) ?_
  refine r_iconst C (oDec_at oX2_setFacts 16 rfl) (v := k2) (by rw [qk2]; rfl) ?_
  refine r_iload_n C (j := 1) (oDec_at oX2_setFacts 17 rfl) rfl rfl ?_
  refine r_pc C 29 rfl ?_
  refine r_if_ge C 36 (oDec_at oX2_setFacts 18 rfl) (by decide) (fun cd6 => ?_) (fun cd6 => ?_)
  · skip
    refine r_iconst C (oDec_at oX2_setFacts 21 rfl) (v := k0) (by rw [qk0]; rfl) ?_
    refine r_iast (n := 8) (lo := (-2147483648)) (hi := 2147483647) C rfl (by decide) rfl rfl ⟨by omega, by omega⟩ (by decide) rfl rfl rfl rfl (n_rng _) (oDec_at oX2_setFacts 22 rfl) ?_
    refine r_aload_n C (j := 0) (oDec_at oX2_setFacts 23 rfl) rfl rfl ?_
    refine r_getF (k := 2) (b := 34) C oCl2 rfl (by decide) flX2_18 rfl rfl rfl (oDec_at oX2_setFacts 24 rfl) ?_
    refine r_iconst C (oDec_at oX2_setFacts 25 rfl) (v := k3) (by rw [qk3]; rfl) ?_
    refine r_iload_n C (j := 3) (oDec_at oX2_setFacts 26 rfl) rfl rfl ?_
    refine r_pc C 44 rfl ?_
    refine r_bipush C (oDec_at oX2_setFacts 27 rfl) (v := k13) (by rw [qk13]; rfl) ?_
    obtain ⟨v7, ev7⟩ : ∃ z : Int32, z = a3 >>> (k13 &&& 31) := ⟨_, rfl⟩
    have rv7 := n_rng v7
    have hkv7 := n_shrK 13 8192 ev7 (n_eq (by rw [ek13]; rfl)) (by decide) (by decide)
    refine r_ishr C v7 (oDec_at oX2_setFacts 28 rfl) ev7 ?_
    refine r_iast (n := 8) (lo := (-2147483648)) (hi := 2147483647) C rfl (by decide) rfl rfl ⟨by omega, by omega⟩ (by decide) rfl rfl rfl rfl (n_rng _) (oDec_at oX2_setFacts 29 rfl) ?_
    refine r_aload_n C (j := 0) (oDec_at oX2_setFacts 30 rfl) rfl rfl ?_
    refine r_getF (k := 2) (b := 34) C oCl2 rfl (by decide) flX2_18 rfl rfl rfl (oDec_at oX2_setFacts 31 rfl) ?_
    refine r_iconst C (oDec_at oX2_setFacts 32 rfl) (v := k4) (by rw [qk4]; rfl) ?_
    refine r_pc C 53 rfl ?_
    refine r_iload_n C (j := 3) (oDec_at oX2_setFacts 33 rfl) rfl rfl ?_
    refine r_bipush C (oDec_at oX2_setFacts 34 rfl) (v := k7) (by rw [qk7]; rfl) ?_
    obtain ⟨v8, ev8⟩ : ∃ z : Int32, z = a3 >>> (k7 &&& 31) := ⟨_, rfl⟩
    have rv8 := n_rng v8
    have hkv8 := n_shrK 7 128 ev8 (n_eq (by rw [ek7]; rfl)) (by decide) (by decide)
    refine r_ishr C v8 (oDec_at oX2_setFacts 35 rfl) ev8 ?_
    refine r_bipush C (oDec_at oX2_setFacts 36 rfl) (v := k63) (by rw [qk63]; rfl) ?_
    obtain ⟨v9, ev9⟩ : ∃ z : Int32, z = v8 &&& k63 := ⟨_, rfl⟩
    have hv9 := n_and ev9
    have rv9 := n_rng v9
    have hkv9 := n_andK 6 64 ev9 (by rw [qk63]; decide) (by decide) (by omega) (by decide)
    refine r_iand C v9 (oDec_at oX2_setFacts 37 rfl) ev9 ?_
    refine r_bipush C (oDec_at oX2_setFacts 38 rfl) (v := k32) (by rw [qk32]; rfl) ?_
    refine r_pc C 62 rfl ?_
    obtain ⟨v10, ev10⟩ : ∃ z : Int32, z = v9 - k32 := ⟨_, rfl⟩
    have hv10 : v10.toInt = v9.toInt - k32.toInt := n_sub ev10 (by omega) (by omega)
    refine r_isub C v10 (oDec_at oX2_setFacts 39 rfl) ev10 ?_
    refine r_iast (n := 8) (lo := (-2147483648)) (hi := 2147483647) C rfl (by decide) rfl rfl ⟨by omega, by omega⟩ (by decide) rfl rfl rfl rfl (n_rng _) (oDec_at oX2_setFacts 40 rfl) ?_
    refine r_aload_n C (j := 0) (oDec_at oX2_setFacts 41 rfl) rfl rfl ?_
    refine r_getF (k := 2) (b := 34) C oCl2 rfl (by decide) flX2_18 rfl rfl rfl (oDec_at oX2_setFacts 42 rfl) ?_
    refine r_iconst C (oDec_at oX2_setFacts 43 rfl) (v := k5) (by rw [qk5]; rfl) ?_
    refine r_iload_n C (j := 3) (oDec_at oX2_setFacts 44 rfl) rfl rfl ?_
    refine r_pc C 70 rfl ?_
    refine r_iconst C (oDec_at oX2_setFacts 45 rfl) (v := k1) (by rw [qk1]; rfl) ?_
    obtain ⟨v11, ev11⟩ : ∃ z : Int32, z = a3 >>> (k1 &&& 31) := ⟨_, rfl⟩
    have rv11 := n_rng v11
    have hkv11 := n_shrK 1 2 ev11 (n_eq (by rw [ek1]; rfl)) (by decide) (by decide)
    refine r_ishr C v11 (oDec_at oX2_setFacts 46 rfl) ev11 ?_
    refine r_bipush C (oDec_at oX2_setFacts 47 rfl) (v := k63) (by rw [qk63]; rfl) ?_
    obtain ⟨v12, ev12⟩ : ∃ z : Int32, z = v11 &&& k63 := ⟨_, rfl⟩
    have hv12 := n_and ev12
    have rv12 := n_rng v12
    have hkv12 := n_andK 6 64 ev12 (by rw [qk63]; decide) (by decide) (by omega) (by decide)
    refine r_iand C v12 (oDec_at oX2_setFacts 48 rfl) ev12 ?_
    refine r_bipush C (oDec_at oX2_setFacts 49 rfl) (v := k32) (by rw [qk32]; rfl) ?_
    obtain ⟨v13, ev13⟩ : ∃ z : Int32, z = v12 - k32 := ⟨_, rfl⟩
    have hv13 : v13.toInt = v12.toInt - k32.toInt := n_sub ev13 (by omega) (by omega)
    refine r_isub C v13 (oDec_at oX2_setFacts 50 rfl) ev13 ?_
    refine r_pc C 78 rfl ?_
    refine r_iast (n := 8) (lo := (-2147483648)) (hi := 2147483647) C rfl (by decide) rfl rfl ⟨by omega, by omega⟩ (by decide) rfl rfl rfl rfl (n_rng _) (oDec_at oX2_setFacts 51 rfl) ?_
    refine r_aload_n C (j := 0) (oDec_at oX2_setFacts 52 rfl) rfl rfl ?_
    refine r_getF (k := 2) (b := 34) C oCl2 rfl (by decide) flX2_18 rfl rfl rfl (oDec_at oX2_setFacts 53 rfl) ?_
    refine r_bipush C (oDec_at oX2_setFacts 54 rfl) (v := k6) (by rw [qk6]; rfl) ?_
    refine r_iload_n C (j := 2) (oDec_at oX2_setFacts 55 rfl) rfl rfl ?_
    refine r_iast (n := 8) (lo := (-2147483648)) (hi := 2147483647) C rfl (by decide) rfl rfl ⟨by omega, by omega⟩ (by decide) rfl rfl rfl rfl (n_rng _) (oDec_at oX2_setFacts 56 rfl) ?_
    refine r_pc C 87 rfl ?_
    refine r_aload_n C (j := 0) (oDec_at oX2_setFacts 57 rfl) rfl rfl ?_
    refine r_getF (k := 2) (b := 34) C oCl2 rfl (by decide) flX2_18 rfl rfl rfl (oDec_at oX2_setFacts 58 rfl) ?_
    refine r_bipush C (oDec_at oX2_setFacts 59 rfl) (v := k7) (by rw [qk7]; rfl) ?_
    refine r_iload_n C (j := 3) (oDec_at oX2_setFacts 60 rfl) rfl rfl ?_
    refine r_iconst C (oDec_at oX2_setFacts 61 rfl) (v := k1) (by rw [qk1]; rfl) ?_
    obtain ⟨v14, ev14⟩ : ∃ z : Int32, z = a3 &&& k1 := ⟨_, rfl⟩
    have hv14 := n_and ev14
    have rv14 := n_rng v14
    have hkv14 := n_andK 1 2 ev14 (by rw [qk1]; decide) (by decide) (by omega) (by decide)
    refine r_iand C v14 (oDec_at oX2_setFacts 62 rfl) ev14 ?_
    refine r_pc C 96 rfl ?_
    refine r_iast (n := 8) (lo := (-2147483648)) (hi := 2147483647) C rfl (by decide) rfl rfl ⟨by omega, by omega⟩ (by decide) rfl rfl rfl rfl (n_rng _) (oDec_at oX2_setFacts 63 rfl) ?_
    exact r_vret C (oDec_at oX2_setFacts 64 rfl) ⟨rfl, owFA_8 ek0 ek1 ek2 ek3 ek4 ek5 ek6 ek7 pu1 (show v5.toInt = owAb a1.toInt % 7 by omega) (show k0.toInt = (if a1.toInt < 0 then 1 else 0) by first | (rw [if_pos (by omega)] <;> omega) | (rw [if_neg (by omega)] <;> omega)) (show v7.toInt = a3.toInt / 8192 by omega) (show v10.toInt = a3.toInt / 128 % 64 - 32 by omega) (show v13.toInt = a3.toInt / 2 % 64 - 32 by omega) (show a2.toInt = a2.toInt from rfl) (show v14.toInt = a3.toInt % 2 by omega)⟩
  · skip
    refine r_iconst C (oDec_at oX2_setFacts 19 rfl) (v := k1) (by rw [qk1]; rfl) ?_
    refine r_goto C (tgt := 37) (oDec_at oX2_setFacts 20 rfl) (by decide) ?_
    refine r_iast (n := 8) (lo := (-2147483648)) (hi := 2147483647) C rfl (by decide) rfl rfl ⟨by omega, by omega⟩ (by decide) rfl rfl rfl rfl (n_rng _) (oDec_at oX2_setFacts 22 rfl) ?_
    refine r_aload_n C (j := 0) (oDec_at oX2_setFacts 23 rfl) rfl rfl ?_
    refine r_getF (k := 2) (b := 34) C oCl2 rfl (by decide) flX2_18 rfl rfl rfl (oDec_at oX2_setFacts 24 rfl) ?_
    refine r_iconst C (oDec_at oX2_setFacts 25 rfl) (v := k3) (by rw [qk3]; rfl) ?_
    refine r_iload_n C (j := 3) (oDec_at oX2_setFacts 26 rfl) rfl rfl ?_
    refine r_pc C 44 rfl ?_
    refine r_bipush C (oDec_at oX2_setFacts 27 rfl) (v := k13) (by rw [qk13]; rfl) ?_
    obtain ⟨v15, ev15⟩ : ∃ z : Int32, z = a3 >>> (k13 &&& 31) := ⟨_, rfl⟩
    have rv15 := n_rng v15
    have hkv15 := n_shrK 13 8192 ev15 (n_eq (by rw [ek13]; rfl)) (by decide) (by decide)
    refine r_ishr C v15 (oDec_at oX2_setFacts 28 rfl) ev15 ?_
    refine r_iast (n := 8) (lo := (-2147483648)) (hi := 2147483647) C rfl (by decide) rfl rfl ⟨by omega, by omega⟩ (by decide) rfl rfl rfl rfl (n_rng _) (oDec_at oX2_setFacts 29 rfl) ?_
    refine r_aload_n C (j := 0) (oDec_at oX2_setFacts 30 rfl) rfl rfl ?_
    refine r_getF (k := 2) (b := 34) C oCl2 rfl (by decide) flX2_18 rfl rfl rfl (oDec_at oX2_setFacts 31 rfl) ?_
    refine r_iconst C (oDec_at oX2_setFacts 32 rfl) (v := k4) (by rw [qk4]; rfl) ?_
    refine r_pc C 53 rfl ?_
    refine r_iload_n C (j := 3) (oDec_at oX2_setFacts 33 rfl) rfl rfl ?_
    refine r_bipush C (oDec_at oX2_setFacts 34 rfl) (v := k7) (by rw [qk7]; rfl) ?_
    obtain ⟨v16, ev16⟩ : ∃ z : Int32, z = a3 >>> (k7 &&& 31) := ⟨_, rfl⟩
    have rv16 := n_rng v16
    have hkv16 := n_shrK 7 128 ev16 (n_eq (by rw [ek7]; rfl)) (by decide) (by decide)
    refine r_ishr C v16 (oDec_at oX2_setFacts 35 rfl) ev16 ?_
    refine r_bipush C (oDec_at oX2_setFacts 36 rfl) (v := k63) (by rw [qk63]; rfl) ?_
    obtain ⟨v17, ev17⟩ : ∃ z : Int32, z = v16 &&& k63 := ⟨_, rfl⟩
    have hv17 := n_and ev17
    have rv17 := n_rng v17
    have hkv17 := n_andK 6 64 ev17 (by rw [qk63]; decide) (by decide) (by omega) (by decide)
    refine r_iand C v17 (oDec_at oX2_setFacts 37 rfl) ev17 ?_
    refine r_bipush C (oDec_at oX2_setFacts 38 rfl) (v := k32) (by rw [qk32]; rfl) ?_
    refine r_pc C 62 rfl ?_
    obtain ⟨v18, ev18⟩ : ∃ z : Int32, z = v17 - k32 := ⟨_, rfl⟩
    have hv18 : v18.toInt = v17.toInt - k32.toInt := n_sub ev18 (by omega) (by omega)
    refine r_isub C v18 (oDec_at oX2_setFacts 39 rfl) ev18 ?_
    refine r_iast (n := 8) (lo := (-2147483648)) (hi := 2147483647) C rfl (by decide) rfl rfl ⟨by omega, by omega⟩ (by decide) rfl rfl rfl rfl (n_rng _) (oDec_at oX2_setFacts 40 rfl) ?_
    refine r_aload_n C (j := 0) (oDec_at oX2_setFacts 41 rfl) rfl rfl ?_
    refine r_getF (k := 2) (b := 34) C oCl2 rfl (by decide) flX2_18 rfl rfl rfl (oDec_at oX2_setFacts 42 rfl) ?_
    refine r_iconst C (oDec_at oX2_setFacts 43 rfl) (v := k5) (by rw [qk5]; rfl) ?_
    refine r_iload_n C (j := 3) (oDec_at oX2_setFacts 44 rfl) rfl rfl ?_
    refine r_pc C 70 rfl ?_
    refine r_iconst C (oDec_at oX2_setFacts 45 rfl) (v := k1) (by rw [qk1]; rfl) ?_
    obtain ⟨v19, ev19⟩ : ∃ z : Int32, z = a3 >>> (k1 &&& 31) := ⟨_, rfl⟩
    have rv19 := n_rng v19
    have hkv19 := n_shrK 1 2 ev19 (n_eq (by rw [ek1]; rfl)) (by decide) (by decide)
    refine r_ishr C v19 (oDec_at oX2_setFacts 46 rfl) ev19 ?_
    refine r_bipush C (oDec_at oX2_setFacts 47 rfl) (v := k63) (by rw [qk63]; rfl) ?_
    obtain ⟨v20, ev20⟩ : ∃ z : Int32, z = v19 &&& k63 := ⟨_, rfl⟩
    have hv20 := n_and ev20
    have rv20 := n_rng v20
    have hkv20 := n_andK 6 64 ev20 (by rw [qk63]; decide) (by decide) (by omega) (by decide)
    refine r_iand C v20 (oDec_at oX2_setFacts 48 rfl) ev20 ?_
    refine r_bipush C (oDec_at oX2_setFacts 49 rfl) (v := k32) (by rw [qk32]; rfl) ?_
    obtain ⟨v21, ev21⟩ : ∃ z : Int32, z = v20 - k32 := ⟨_, rfl⟩
    have hv21 : v21.toInt = v20.toInt - k32.toInt := n_sub ev21 (by omega) (by omega)
    refine r_isub C v21 (oDec_at oX2_setFacts 50 rfl) ev21 ?_
    refine r_pc C 78 rfl ?_
    refine r_iast (n := 8) (lo := (-2147483648)) (hi := 2147483647) C rfl (by decide) rfl rfl ⟨by omega, by omega⟩ (by decide) rfl rfl rfl rfl (n_rng _) (oDec_at oX2_setFacts 51 rfl) ?_
    refine r_aload_n C (j := 0) (oDec_at oX2_setFacts 52 rfl) rfl rfl ?_
    refine r_getF (k := 2) (b := 34) C oCl2 rfl (by decide) flX2_18 rfl rfl rfl (oDec_at oX2_setFacts 53 rfl) ?_
    refine r_bipush C (oDec_at oX2_setFacts 54 rfl) (v := k6) (by rw [qk6]; rfl) ?_
    refine r_iload_n C (j := 2) (oDec_at oX2_setFacts 55 rfl) rfl rfl ?_
    refine r_iast (n := 8) (lo := (-2147483648)) (hi := 2147483647) C rfl (by decide) rfl rfl ⟨by omega, by omega⟩ (by decide) rfl rfl rfl rfl (n_rng _) (oDec_at oX2_setFacts 56 rfl) ?_
    refine r_pc C 87 rfl ?_
    refine r_aload_n C (j := 0) (oDec_at oX2_setFacts 57 rfl) rfl rfl ?_
    refine r_getF (k := 2) (b := 34) C oCl2 rfl (by decide) flX2_18 rfl rfl rfl (oDec_at oX2_setFacts 58 rfl) ?_
    refine r_bipush C (oDec_at oX2_setFacts 59 rfl) (v := k7) (by rw [qk7]; rfl) ?_
    refine r_iload_n C (j := 3) (oDec_at oX2_setFacts 60 rfl) rfl rfl ?_
    refine r_iconst C (oDec_at oX2_setFacts 61 rfl) (v := k1) (by rw [qk1]; rfl) ?_
    obtain ⟨v22, ev22⟩ : ∃ z : Int32, z = a3 &&& k1 := ⟨_, rfl⟩
    have hv22 := n_and ev22
    have rv22 := n_rng v22
    have hkv22 := n_andK 1 2 ev22 (by rw [qk1]; decide) (by decide) (by omega) (by decide)
    refine r_iand C v22 (oDec_at oX2_setFacts 62 rfl) ev22 ?_
    refine r_pc C 96 rfl ?_
    refine r_iast (n := 8) (lo := (-2147483648)) (hi := 2147483647) C rfl (by decide) rfl rfl ⟨by omega, by omega⟩ (by decide) rfl rfl rfl rfl (n_rng _) (oDec_at oX2_setFacts 63 rfl) ?_
    exact r_vret C (oDec_at oX2_setFacts 64 rfl) ⟨rfl, owFA_8 ek0 ek1 ek2 ek3 ek4 ek5 ek6 ek7 pu1 (show v5.toInt = owAb a1.toInt % 7 by omega) (show k1.toInt = (if a1.toInt < 0 then 1 else 0) by first | (rw [if_pos (by omega)] <;> omega) | (rw [if_neg (by omega)] <;> omega)) (show v15.toInt = a3.toInt / 8192 by omega) (show v18.toInt = a3.toInt / 128 % 64 - 32 by omega) (show v21.toInt = a3.toInt / 2 % 64 - 32 by omega) (show a2.toInt = a2.toInt from rfl) (show v22.toInt = a3.toInt % 2 by omega)⟩
set_option maxHeartbeats 4000000 in
set_option maxRecDepth 100000 in
theorem ct9_X2_verdict (l : Launch) (E : oE) (s : oS) (a2 : Int32) (a3 : Int32) (b : Nat) (R : Int) (W : Nat → List Int) (hp0 : -7 ≤ a3.toInt ∧ a3.toInt ≤ 7) (hp1 : owBC b R W s) (hp2 : owKV R W s) (hp3 : owDN s) : oMet l 4 yX2_verdict cX2_verdict 11 (some .int) [(24, 9999), (25, 9999), (26, 9999), (27, 9999)] E s [.ref (oad E 31), .ref (oad E 35), .int a2, .int a3] (oPi (fun r u => (owKV R W u) ∧ ((0 ≤ a2.toInt ∧ a2.toInt < (s.1 35 6).toInt ∧ a2.toInt < 48) → (r.toInt = 0 ↔ ¬ owBk R W (owDf s a2.toNatClampNeg a3.toInt))))) := by
  refine oMet.of (lv := [(0, .ref (oad E 31)), (1, .ref (oad E 35)), (2, .int a2), (3, .int a3)]) (by decide +kernel) (Nat.le_of_ble_eq_true rfl) rfl (fun J C hT => ?_)
  have C : oC l 4 cX2_verdict RX2 11 (some .int) [(24, 9999), (25, 9999), (26, 9999), (27, 9999)] E s (oPi (fun r u => (owKV R W u) ∧ ((0 ≤ a2.toInt ∧ a2.toInt < (s.1 35 6).toInt ∧ a2.toInt < 48) → (r.toInt = 0 ↔ ¬ owBk R W (owDf s a2.toNatClampNeg a3.toInt))))) J := C
  obtain ⟨km1640531535, qkm1640531535⟩ : ∃ z : Int32, z = (-1640531535) := ⟨_, rfl⟩
  have ekm1640531535 : km1640531535.toInt = (-1640531535) := by rw [qkm1640531535]; rfl
  obtain ⟨km1000000000, qkm1000000000⟩ : ∃ z : Int32, z = (-1000000000) := ⟨_, rfl⟩
  have ekm1000000000 : km1000000000.toInt = (-1000000000) := by rw [qkm1000000000]; rfl
  obtain ⟨k0, qk0⟩ : ∃ z : Int32, z = 0 := ⟨_, rfl⟩
  have ek0 : k0.toInt = 0 := by rw [qk0]; rfl
  obtain ⟨k1, qk1⟩ : ∃ z : Int32, z = 1 := ⟨_, rfl⟩
  have ek1 : k1.toInt = 1 := by rw [qk1]; rfl
  obtain ⟨k7, qk7⟩ : ∃ z : Int32, z = 7 := ⟨_, rfl⟩
  have ek7 : k7.toInt = 7 := by rw [qk7]; rfl
  obtain ⟨k8, qk8⟩ : ∃ z : Int32, z = 8 := ⟨_, rfl⟩
  have ek8 : k8.toInt = 8 := by rw [qk8]; rfl
  obtain ⟨k17, qk17⟩ : ∃ z : Int32, z = 17 := ⟨_, rfl⟩
  have ek17 : k17.toInt = 17 := by rw [qk17]; rfl
  obtain ⟨k20, qk20⟩ : ∃ z : Int32, z = 20 := ⟨_, rfl⟩
  have ek20 : k20.toInt = 20 := by rw [qk20]; rfl
  obtain ⟨k48, qk48⟩ : ∃ z : Int32, z = 48 := ⟨_, rfl⟩
  have ek48 : k48.toInt = 48 := by rw [qk48]; rfl
  obtain ⟨k128, qk128⟩ : ∃ z : Int32, z = 128 := ⟨_, rfl⟩
  have ek128 : k128.toInt = 128 := by rw [qk128]; rfl
  have rg2 := n_rng a2
  have rg3 := n_rng a3
  have key : ∀ n : Nat, (∀ (t : oS) (x7 : Int32) (x8 : Int32) (x9 : Int32) (x10 : Int32), (0 ≤ x8.toInt ∧ x8.toInt ≤ 4095) → (0 ≤ x10.toInt ∧ x10.toInt ≤ 12) → (x10.toInt ≤ R) → (x7.toInt = owKy ((s.1 37 a2.toNatClampNeg).toInt + a3.toInt) (owWa (s.1 38 a2.toNatClampNeg).toInt a3.toInt) (s.1 39 a2.toNatClampNeg).toInt) → (owKr ((s.1 37 a2.toNatClampNeg).toInt + a3.toInt) (owWa (s.1 38 a2.toNatClampNeg).toInt a3.toInt) (s.1 39 a2.toNatClampNeg).toInt) → (owFA (owDf s a2.toNatClampNeg a3.toInt) t) → (owKV R W t) → (owBC b R W t) → (x9.toInt = 0 ↔ ¬ owBk x10.toInt W (owDf s a2.toNatClampNeg a3.toInt)) → 13 - x10.toInt ≤ (n : Int) → J t 138 [(0, .ref (oad E 31)), (7, .int x7), (8, .int x8), (9, .int x9), (10, .int x10)] []) := by
    intro n
    induction n using Nat.strongRecOn with
    | _ n ih =>
      skip
      · intro t x7 x8 x9 x10  iv0 iv1 iv2 iv3 iv4 iv5 iv6 iv7 iv8 hmu
        have rx7 := n_rng x7
        have rx8 := n_rng x8
        have rx9 := n_rng x9
        have rx10 := n_rng x10
        refine r_iload C (j := 4) (oDec_at oX2_verdict 78 rfl) rfl ?_
        refine r_aload_n C (j := 0) (oDec_at oX2_verdict 79 rfl) rfl rfl ?_
        refine r_getS (k := 3) (q2 := 0) C oCl2 rfl (by decide) flX2_25 rfl rfl rfl ks1 (oDec_at oX2_verdict 80 rfl) (fun b1 rb1 mb1 hkb1 => ?_)
        have hbb : b1 = b := owBC_b iv7 (rb1)
        obtain ⟨v2, ev2⟩ : ∃ z : Int32, (t).1 b1 7 = z := ⟨_, rfl⟩
        have gv2 : (t.1 b1 7).toInt = v2.toInt := congrArg Int32.toInt (ev2)
        refine r_getiN (k := 7) (lo := 0) (hi := 12) C v2 oCl0 hkb1 (by decide) flX2_35 rfl rfl (ev2) rfl rfl (oDec_at oX2_verdict 81 rfl) (fun b3 b3h => ?_)
        have hR9 : v2.toInt = R := by rw [← ev2, hbb]; exact (iv7).2.2.1
        refine r_icmp_ge C 185 (oDec_at oX2_verdict 82 rfl) (by decide) (fun cd4 => ?_) (fun cd4 => ?_)
        · skip
          have hfzE : x9.toInt = 0 ↔ ¬ owBk R W (owDf s a2.toNatClampNeg a3.toInt) := by have h9 := iv8; rw [show x10.toInt = R by omega] at h9; exact h9
          refine r_aload_n C (j := 0) (oDec_at oX2_verdict 100 rfl) rfl rfl ?_
          refine r_getF (k := 0) (b := 32) C oCl2 rfl (by decide) flX2_11 rfl rfl rfl (oDec_at oX2_verdict 101 rfl) ?_
          refine r_iload C (j := 2) (oDec_at oX2_verdict 102 rfl) rfl ?_
          refine r_iload C (j := 1) (oDec_at oX2_verdict 103 rfl) rfl ?_
          refine r_iast (n := 4096) (lo := (-2147483648)) (hi := 2147483647) C rfl (by decide) rfl rfl ⟨by omega, by omega⟩ (by decide) rfl rfl rfl rfl (n_rng _) (oDec_at oX2_verdict 104 rfl) ?_
          refine r_aload_n C (j := 0) (oDec_at oX2_verdict 105 rfl) rfl rfl ?_
          refine r_pc C 195 rfl ?_
          refine r_getF (k := 1) (b := 33) C oCl2 rfl (by decide) flX2_15 rfl rfl rfl (oDec_at oX2_verdict 106 rfl) ?_
          refine r_iload C (j := 2) (oDec_at oX2_verdict 107 rfl) rfl ?_
          refine r_iload C (j := 3) (oDec_at oX2_verdict 108 rfl) rfl ?_
          refine r_iast (n := 4096) (lo := (-2147483648)) (hi := 2147483647) C rfl (by decide) rfl rfl ⟨by omega, by omega⟩ (by decide) rfl rfl rfl rfl (n_rng _) (oDec_at oX2_verdict 109 rfl) ?_
          have hq5 : owKV R W ((pI (pI t 32 x8.toNatClampNeg x7) 33 x8.toNatClampNeg x9)) := by first | exact (by assumption) | exact owKV_st iv6 iv4 iv3 hfzE
          refine r_aload_n C (j := 0) (oDec_at oX2_verdict 110 rfl) rfl rfl ?_
          refine r_getF (k := 1) (b := 33) C oCl2 rfl (by decide) flX2_15 rfl rfl rfl (oDec_at oX2_verdict 111 rfl) ?_
          refine r_pc C 207 rfl ?_
          refine r_iload C (j := 2) (oDec_at oX2_verdict 112 rfl) rfl ?_
          refine r_iald (n := 4096) (lo := (-2147483648)) (hi := 2147483647) C x9 rfl (by decide) rfl rfl ⟨by omega, by omega⟩ (by decide) ((pI_self _ _ _ _)) rfl rfl (oDec_at oX2_verdict 113 rfl) (fun _ _ => ?_)
          exact r_iret C (oDec_at oX2_verdict 114 rfl) ⟨_, rfl, ⟨hq5, by intro h8; first | (have h9 := (hq5) (by assumption).toNatClampNeg (by have h7 := n_nat (by assumption); omega) _ _ _ hkr9 (by rw [hkz9]; omega); rw [ex9] at h9; exact h9) | (have h9 := hfzE; rw [show x9.toInt = x9.toInt by omega] at h9; exact h9)⟩⟩
        · skip
          refine r_iload C (j := 3) (oDec_at oX2_verdict 83 rfl) rfl ?_
          refine r_aload_n C (j := 0) (oDec_at oX2_verdict 84 rfl) rfl rfl ?_
          refine r_getK (k := 3) (b := b1) C oCl2 rfl (by decide) flX2_25 rfl rfl (rb1) (oDec_at oX2_verdict 85 rfl) ?_
          have hbb : b1 = b := owBC_b iv7 (rb1)
          refine r_iload C (j := 4) (oDec_at oX2_verdict 86 rfl) rfl ?_
          refine r_aload_n C (j := 0) (oDec_at oX2_verdict 87 rfl) rfl rfl ?_
          refine r_getF (k := 2) (b := 34) C oCl2 rfl (by decide) flX2_18 rfl rfl rfl (oDec_at oX2_verdict 88 rfl) ?_
          refine r_callVi C oCl0 hkb1 miX0_holds mlX2_67 (ct9_X0_holds l E (t) b1 hkb1 x10 34 27 8 rfl (by decide) (by decide) rfl rfl (owDf s a2.toNatClampNeg a3.toInt) (W x10.toNatClampNeg) (by rfl) (by decide) (by omega) (by rw [hbb]; exact (iv7).2.2.2 _ (by have h9 := n_nat x10; omega)) (iv5) (owFm_b iv4)) (by decide) rfl rfl rfl (Nat.le_of_ble_eq_true rfl) (oDec_at oX2_verdict 89 rfl) (fun r9 u8 pu8 fu8 => ?_)
          try dsimp only at pu8
          obtain ⟨pu8_0, pu8_1⟩ := pu8
          have rr9 := n_rng r9
          refine r_pc C 165 rfl ?_
          have hho9 := pu8_1
          have hbit9 := hb01_of (x := r9) (by omega)
          refine r_if_eq C 175 (oDec_at oX2_verdict 90 rfl) (by decide) (fun cd10 => ?_) (fun cd10 => ?_)
          · skip
            refine r_iconst C (oDec_at oX2_verdict 95 rfl) (v := k0) (by rw [qk0]; rfl) ?_
            obtain ⟨v11, ev11⟩ : ∃ z : Int32, z = x9 ||| k0 := ⟨_, rfl⟩
            have rv11 := n_rng v11
            refine r_ior C v11 (oDec_at oX2_verdict 96 rfl) ev11 ?_
            have hor9 := n_or0 ev11
            refine r_istore C (lv' := [(0, .ref (oad E 31)), (7, .int x7), (8, .int x8), (9, .int v11), (10, .int x10)]) [1, 2, 3, 0, 4] (oDec_at oX2_verdict 97 rfl) (by decide) rfl ?_
            obtain ⟨v12, ev12⟩ : ∃ z : Int32, x10 + Int32.ofInt 1 = z := ⟨_, rfl⟩
            have hv12 : v12.toInt = x10.toInt + 1 := n_inc ev12 (by decide) (by omega) (by omega)
            refine r_iinc C (j := 4) (lv' := [(0, .ref (oad E 31)), (7, .int x7), (8, .int x8), (9, .int v11), (10, .int v12)]) v12 [1, 2, 3, 4, 0] (oDec_at oX2_verdict 98 rfl) rfl ev12 (by decide) rfl ?_
            refine r_goto C (tgt := 138) (oDec_at oX2_verdict 99 rfl) (by decide) ?_
            exact (ih (n - 1) (by omega)) (u8) x7 x8 v11 v12  (by omega) (by omega) (by omega) (by first | exact hky9 | exact iv3) (by first | exact hkr9 | exact iv4) (owFA_fr fu8 rfl iv5) (owKV_fr fu8 rfl iv6) (owBC_fr fu8 rfl iv7) (by first | exact owBk_nx iv8 hor9 hho9 (by omega) (by omega) (by omega) | exact ⟨fun _ => owBk_0 (by omega), fun _ => by omega⟩) (by omega)
          · skip
            refine r_iconst C (oDec_at oX2_verdict 91 rfl) (v := k1) (by rw [qk1]; rfl) ?_
            refine r_iload C (j := 4) (oDec_at oX2_verdict 92 rfl) rfl ?_
            obtain ⟨v13, ev13⟩ : ∃ z : Int32, z = k1 <<< (x10 &&& 31) := ⟨_, rfl⟩
            have rv13 := n_rng v13
            have hv13 := n_shl1 ev13 ek1 (by omega)
            refine r_ishl C v13 (oDec_at oX2_verdict 93 rfl) ev13 ?_
            refine r_goto C (tgt := 176) (oDec_at oX2_verdict 94 rfl) (by decide) ?_
            obtain ⟨v14, ev14⟩ : ∃ z : Int32, z = x9 ||| v13 := ⟨_, rfl⟩
            have rv14 := n_rng v14
            refine r_ior C v14 (oDec_at oX2_verdict 96 rfl) ev14 ?_
            have hor9 := n_or0 ev14
            refine r_istore C (lv' := [(0, .ref (oad E 31)), (7, .int x7), (8, .int x8), (9, .int v14), (10, .int x10)]) [1, 2, 3, 0, 4] (oDec_at oX2_verdict 97 rfl) (by decide) rfl ?_
            obtain ⟨v15, ev15⟩ : ∃ z : Int32, x10 + Int32.ofInt 1 = z := ⟨_, rfl⟩
            have hv15 : v15.toInt = x10.toInt + 1 := n_inc ev15 (by decide) (by omega) (by omega)
            refine r_iinc C (j := 4) (lv' := [(0, .ref (oad E 31)), (7, .int x7), (8, .int x8), (9, .int v14), (10, .int v15)]) v15 [1, 2, 3, 4, 0] (oDec_at oX2_verdict 98 rfl) rfl ev15 (by decide) rfl ?_
            refine r_pc C 182 rfl ?_
            refine r_goto C (tgt := 138) (oDec_at oX2_verdict 99 rfl) (by decide) ?_
            exact (ih (n - 1) (by omega)) (u8) x7 x8 v14 v15  (by omega) (by omega) (by omega) (by first | exact hky9 | exact iv3) (by first | exact hkr9 | exact iv4) (owFA_fr fu8 rfl iv5) (owKV_fr fu8 rfl iv6) (owBC_fr fu8 rfl iv7) (by first | exact owBk_nx iv8 hor9 hho9 (by omega) (by omega) (by omega) | exact ⟨fun _ => owBk_0 (by omega), fun _ => by omega⟩) (by omega)
  refine r_aload_n C (j := 0) (oDec_at oX2_verdict 0 rfl) rfl rfl ?_
  refine r_getS (k := 3) (q2 := 0) C oCl2 rfl (by decide) flX2_25 rfl rfl rfl ks1 (oDec_at oX2_verdict 1 rfl) (fun b16 rb16 mb16 hkb16 => ?_)
  have hbb : b16 = b := owBC_b hp1 (rb16)
  obtain ⟨v17, ev17⟩ : ∃ z : Int32, (s).1 b16 7 = z := ⟨_, rfl⟩
  have gv17 : (s.1 b16 7).toInt = v17.toInt := congrArg Int32.toInt (ev17)
  refine r_getiN (k := 7) (lo := 0) (hi := 12) C v17 oCl0 hkb16 (by decide) flX2_35 rfl rfl (ev17) rfl rfl (oDec_at oX2_verdict 2 rfl) (fun b18 b18h => ?_)
  have hR0 : v17.toInt = R := by rw [← ev17, hbb]; exact (hp1).2.2.1
  refine r_if_eq C 28 (oDec_at oX2_verdict 3 rfl) (by decide) (fun cd19 => ?_) (fun cd19 => ?_)
  · skip
    refine r_iconst C (oDec_at oX2_verdict 13 rfl) (v := k0) (by rw [qk0]; rfl) ?_
    exact r_iret C (oDec_at oX2_verdict 14 rfl) ⟨_, rfl, ⟨hp2, by first | (intro h9; exfalso; omega) | exact fun _ => ⟨fun _ => owBk_0 (by omega), fun _ => by omega⟩⟩⟩
  · skip
    refine r_iload_n C (j := 2) (oDec_at oX2_verdict 4 rfl) rfl rfl ?_
    refine r_if_lt C 28 (oDec_at oX2_verdict 5 rfl) (by decide) (fun cd20 => ?_) (fun cd20 => ?_)
    · skip
      refine r_iconst C (oDec_at oX2_verdict 13 rfl) (v := k0) (by rw [qk0]; rfl) ?_
      exact r_iret C (oDec_at oX2_verdict 14 rfl) ⟨_, rfl, ⟨hp2, by first | (intro h9; exfalso; omega) | exact fun _ => ⟨fun _ => owBk_0 (by omega), fun _ => by omega⟩⟩⟩
    · skip
      refine r_iload_n C (j := 2) (oDec_at oX2_verdict 6 rfl) rfl rfl ?_
      refine r_aload_n C (j := 1) (oDec_at oX2_verdict 7 rfl) rfl rfl ?_
      obtain ⟨v21, ev21⟩ : ∃ z : Int32, (s).1 35 6 = z := ⟨_, rfl⟩
      have gv21 : (s.1 35 6).toInt = v21.toInt := congrArg Int32.toInt (ev21)
      refine r_getiN (k := 6) (lo := 0) (hi := 48) C v21 oCl1 rfl (by decide) flX2_41 rfl rfl (ev21) rfl rfl (oDec_at oX2_verdict 8 rfl) (fun b22 b22h => ?_)
      refine r_icmp_ge C 28 (oDec_at oX2_verdict 9 rfl) (by decide) (fun cd23 => ?_) (fun cd23 => ?_)
      · skip
        refine r_iconst C (oDec_at oX2_verdict 13 rfl) (v := k0) (by rw [qk0]; rfl) ?_
        exact r_iret C (oDec_at oX2_verdict 14 rfl) ⟨_, rfl, ⟨hp2, by first | (intro h9; exfalso; omega) | exact fun _ => ⟨fun _ => owBk_0 (by omega), fun _ => by omega⟩⟩⟩
      · skip
        refine r_iload_n C (j := 2) (oDec_at oX2_verdict 10 rfl) rfl rfl ?_
        refine r_bipush C (oDec_at oX2_verdict 11 rfl) (v := k48) (by rw [qk48]; rfl) ?_
        refine r_icmp_lt C 30 (oDec_at oX2_verdict 12 rfl) (by decide) (fun cd24 => ?_) (fun cd24 => ?_)
        · skip
          refine r_aload_n C (j := 1) (oDec_at oX2_verdict 15 rfl) rfl rfl ?_
          refine r_getFN (k := 1) (b := 37) C oCl1 rfl (by decide) flX2_46 rfl rfl rfl (oDec_at oX2_verdict 16 rfl) ?_
          refine r_iload_n C (j := 2) (oDec_at oX2_verdict 17 rfl) rfl rfl ?_
          obtain ⟨v26, ev26⟩ : ∃ z : Int32, (s).1 37 a2.toNatClampNeg = z := ⟨_, rfl⟩
          have gv26 : (s.1 37 a2.toNatClampNeg).toInt = v26.toInt := congrArg Int32.toInt (ev26)
          have rv26 := n_rng v26
          refine r_iald (n := 48) (lo := (-2147483648)) (hi := 2147483647) C v26 rfl (by decide) rfl rfl ⟨by omega, by omega⟩ (by decide) ev26 rfl rfl (oDec_at oX2_verdict 18 rfl) (fun _ _ => ?_)
          have hA0 : (s.1 37 a2.toNatClampNeg).toInt = v26.toInt := congrArg Int32.toInt ev26
          have hdA := ((hp3) a2.toNatClampNeg).1
          rw [hA0] at hdA
          refine r_iload_n C (j := 3) (oDec_at oX2_verdict 19 rfl) rfl rfl ?_
          obtain ⟨v27, ev27⟩ : ∃ z : Int32, z = v26 + a3 := ⟨_, rfl⟩
          have hv27 : v27.toInt = v26.toInt + a3.toInt := n_add ev27 (by omega) (by omega)
          refine r_iadd C v27 (oDec_at oX2_verdict 20 rfl) ev27 ?_
          refine r_pc C 38 rfl ?_
          refine r_istore C (lv' := [(0, .ref (oad E 31)), (1, .ref (oad E 35)), (2, .int a2), (3, .int a3), (4, .int v27)]) [1, 2, 3, 4, 0] (oDec_at oX2_verdict 21 rfl) (by decide) rfl ?_
          refine r_aload_n C (j := 1) (oDec_at oX2_verdict 22 rfl) rfl rfl ?_
          refine r_getFN (k := 2) (b := 38) C oCl1 rfl (by decide) flX2_49 rfl rfl rfl (oDec_at oX2_verdict 23 rfl) ?_
          refine r_iload_n C (j := 2) (oDec_at oX2_verdict 24 rfl) rfl rfl ?_
          obtain ⟨v29, ev29⟩ : ∃ z : Int32, (s).1 38 a2.toNatClampNeg = z := ⟨_, rfl⟩
          have gv29 : (s.1 38 a2.toNatClampNeg).toInt = v29.toInt := congrArg Int32.toInt (ev29)
          have rv29 := n_rng v29
          refine r_iald (n := 48) (lo := (-2147483648)) (hi := 2147483647) C v29 rfl (by decide) rfl rfl ⟨by omega, by omega⟩ (by decide) ev29 rfl rfl (oDec_at oX2_verdict 25 rfl) (fun _ _ => ?_)
          have hB0 : (s.1 38 a2.toNatClampNeg).toInt = v29.toInt := congrArg Int32.toInt ev29
          have hdB := ((hp3) a2.toNatClampNeg).2.1
          rw [hB0] at hdB
          refine r_istore C (lv' := [(0, .ref (oad E 31)), (1, .ref (oad E 35)), (2, .int a2), (3, .int a3), (4, .int v27), (5, .int v29)]) [1, 2, 3, 4, 5, 0] (oDec_at oX2_verdict 26 rfl) (by decide) rfl ?_
          refine r_pc C 48 rfl ?_
          refine r_iload C (j := 5) (oDec_at oX2_verdict 27 rfl) rfl ?_
          refine r_ldc C (v := km1000000000) (by rw [qkm1000000000]; exact kcX2_52) (oDec_at oX2_verdict 28 rfl) ?_
          refine r_icmp_ne C 60 (oDec_at oX2_verdict 29 rfl) (by decide) (fun cd30 => ?_) (fun cd30 => ?_)
          · skip
            refine r_iload C (j := 5) (oDec_at oX2_verdict 32 rfl) rfl ?_
            refine r_iload_n C (j := 3) (oDec_at oX2_verdict 33 rfl) rfl rfl ?_
            obtain ⟨v31, ev31⟩ : ∃ z : Int32, z = v29 + a3 := ⟨_, rfl⟩
            have hv31 : v31.toInt = v29.toInt + a3.toInt := n_add ev31 (by omega) (by omega)
            refine r_iadd C v31 (oDec_at oX2_verdict 34 rfl) ev31 ?_
            refine r_callSi C miJ9_abs_0f7a4 mlX2_53 (ct9_J9_abs l E (s) v31 (by omega)) (by decide) rfl rfl rfl (Nat.le_of_ble_eq_true rfl) (oDec_at oX2_verdict 35 rfl) (fun r33 u32 pu32 fu32 => ?_)
            try dsimp only at pu32
            have hxu32 := oFr_nil fu32; subst hxu32
            have rr33 := n_rng r33
            refine r_bipush C (oDec_at oX2_verdict 36 rfl) (v := k7) (by rw [qk7]; rfl) ?_
            have hab9 := owAb_b (a := v31.toInt) (b := 2000000000) (by omega)
            obtain ⟨v34, ev34⟩ : ∃ z : Int32, z = r33 - r33 / k7 * k7 := ⟨_, rfl⟩
            have hv34 := n_rem (k := 7) ev34 ek7 (by decide)
            have rv34 := n_rng v34
            refine r_irem C v34 (oDec_at oX2_verdict 37 rfl) (n_ne0 (by omega)) ev34 ?_
            refine r_pc C 70 rfl ?_
            have hwa9 : v34.toInt = (owWa (s.1 38 a2.toNatClampNeg).toInt a3.toInt) := by rw [hB0]; unfold owWa; first | (rw [if_pos (by omega)] <;> omega) | (rw [if_neg (by omega), show v29.toInt + a3.toInt = v31.toInt by omega]; omega)
            have hwb9 := owWa_b (b := (s.1 38 a2.toNatClampNeg).toInt) (h := a3.toInt)
            refine r_istore C (lv' := [(0, .ref (oad E 31)), (1, .ref (oad E 35)), (2, .int a2), (3, .int a3), (4, .int v27), (5, .int v29), (6, .int v34)]) [1, 2, 3, 4, 5, 6, 0] (oDec_at oX2_verdict 38 rfl) (by decide) rfl ?_
            refine r_iload C (j := 4) (oDec_at oX2_verdict 39 rfl) rfl ?_
            refine r_sipush C (oDec_at oX2_verdict 40 rfl) (v := k128) (by rw [qk128]; rfl) ?_
            obtain ⟨v35, ev35⟩ : ∃ z : Int32, z = v27 + k128 := ⟨_, rfl⟩
            have hv35 : v35.toInt = v27.toInt + k128.toInt := n_add ev35 (by omega) (by omega)
            refine r_iadd C v35 (oDec_at oX2_verdict 41 rfl) ev35 ?_
            refine r_bipush C (oDec_at oX2_verdict 42 rfl) (v := k8) (by rw [qk8]; rfl) ?_
            obtain ⟨v36, ev36⟩ : ∃ z : Int32, z = v35 * k8 := ⟨_, rfl⟩
            have hv36 : v36.toInt = v35.toInt * 8 := n_mulK 8 ev36 ek8 (by omega) (by omega)
            refine r_imul C v36 (oDec_at oX2_verdict 43 rfl) ev36 ?_
            refine r_pc C 81 rfl ?_
            refine r_iload C (j := 6) (oDec_at oX2_verdict 44 rfl) rfl ?_
            obtain ⟨v37, ev37⟩ : ∃ z : Int32, z = v36 + v34 := ⟨_, rfl⟩
            have hv37 : v37.toInt = v36.toInt + v34.toInt := n_add ev37 (by omega) (by omega)
            refine r_iadd C v37 (oDec_at oX2_verdict 45 rfl) ev37 ?_
            refine r_bipush C (oDec_at oX2_verdict 46 rfl) (v := k17) (by rw [qk17]; rfl) ?_
            obtain ⟨v38, ev38⟩ : ∃ z : Int32, z = v37 <<< (k17 &&& 31) := ⟨_, rfl⟩
            have rv38 := n_rng v38
            have hv38 := n_shl17 ev38 (n_eq (by rw [ek17]; rfl)) (by omega) (by omega)
            refine r_ishl C v38 (oDec_at oX2_verdict 47 rfl) ev38 ?_
            refine r_aload_n C (j := 1) (oDec_at oX2_verdict 48 rfl) rfl rfl ?_
            refine r_getFN (k := 3) (b := 39) C oCl1 rfl (by decide) flX2_59 rfl rfl rfl (oDec_at oX2_verdict 49 rfl) ?_
            refine r_pc C 91 rfl ?_
            refine r_iload_n C (j := 2) (oDec_at oX2_verdict 50 rfl) rfl rfl ?_
            obtain ⟨v40, ev40⟩ : ∃ z : Int32, (s).1 39 a2.toNatClampNeg = z := ⟨_, rfl⟩
            have gv40 : (s.1 39 a2.toNatClampNeg).toInt = v40.toInt := congrArg Int32.toInt (ev40)
            have rv40 := n_rng v40
            refine r_iald (n := 48) (lo := (-2147483648)) (hi := 2147483647) C v40 rfl (by decide) rfl rfl ⟨by omega, by omega⟩ (by decide) ev40 rfl rfl (oDec_at oX2_verdict 51 rfl) (fun _ _ => ?_)
            have hM0 : (s.1 39 a2.toNatClampNeg).toInt = v40.toInt := congrArg Int32.toInt ev40
            have hdM := ((hp3) a2.toNatClampNeg).2.2
            rw [hM0] at hdM
            obtain ⟨v41, ev41⟩ : ∃ z : Int32, z = v38 ||| v40 := ⟨_, rfl⟩
            have rv41 := n_rng v41
            have hv41 := n_or17 ev41 hv38 (by omega) (by omega) (by omega) (by omega)
            refine r_ior C v41 (oDec_at oX2_verdict 52 rfl) ev41 ?_
            have hkr9 : owKr ((s.1 37 a2.toNatClampNeg).toInt + a3.toInt) (owWa (s.1 38 a2.toNatClampNeg).toInt a3.toInt) (s.1 39 a2.toNatClampNeg).toInt := by rw [← hwa9, hA0, hM0]; unfold owKr; omega
            have hky9 : v41.toInt = owKy ((s.1 37 a2.toNatClampNeg).toInt + a3.toInt) (owWa (s.1 38 a2.toNatClampNeg).toInt a3.toInt) (s.1 39 a2.toNatClampNeg).toInt := by rw [← hwa9, hA0, hM0]; unfold owKy; omega
            refine r_istore C (lv' := [(0, .ref (oad E 31)), (1, .ref (oad E 35)), (2, .int a2), (3, .int a3), (4, .int v27), (5, .int v29), (6, .int v34), (7, .int v41)]) [1, 2, 3, 4, 5, 6, 7, 0] (oDec_at oX2_verdict 53 rfl) (by decide) rfl ?_
            refine r_iload C (j := 7) (oDec_at oX2_verdict 54 rfl) rfl ?_
            refine r_ldc C (v := km1640531535) (by rw [qkm1640531535]; exact kcX2_62) (oDec_at oX2_verdict 55 rfl) ?_
            refine r_pc C 100 rfl ?_
            obtain ⟨v42, ev42⟩ : ∃ z : Int32, z = v41 * km1640531535 := ⟨_, rfl⟩
            have rv42 := n_rng v42
            refine r_imul C v42 (oDec_at oX2_verdict 56 rfl) ev42 ?_
            refine r_bipush C (oDec_at oX2_verdict 57 rfl) (v := k20) (by rw [qk20]; rfl) ?_
            obtain ⟨v43, ev43⟩ : ∃ z : Int32, (v42.toUInt32 >>> (k20.toUInt32 &&& Int32.toUInt32 31)).toInt32 = z := ⟨_, rfl⟩
            have rv43 := n_rng v43
            have hv43 := n_ushr 20 ev43 (by rw [qk20]; rfl) (by decide) 4096 (by decide)
            refine r_iushr C v43 (oDec_at oX2_verdict 58 rfl) ev43 ?_
            refine r_istore C (lv' := [(0, .ref (oad E 31)), (1, .ref (oad E 35)), (2, .int a2), (3, .int a3), (4, .int v27), (5, .int v29), (6, .int v34), (7, .int v41), (8, .int v43)]) [1, 2, 3, 4, 5, 6, 7, 8, 0] (oDec_at oX2_verdict 59 rfl) (by decide) rfl ?_
            refine r_aload_n C (j := 0) (oDec_at oX2_verdict 60 rfl) rfl rfl ?_
            refine r_getF (k := 0) (b := 32) C oCl2 rfl (by decide) flX2_11 rfl rfl rfl (oDec_at oX2_verdict 61 rfl) ?_
            refine r_pc C 110 rfl ?_
            refine r_iload C (j := 8) (oDec_at oX2_verdict 62 rfl) rfl ?_
            obtain ⟨v45, ev45⟩ : ∃ z : Int32, (s).1 32 v43.toNatClampNeg = z := ⟨_, rfl⟩
            have gv45 : (s.1 32 v43.toNatClampNeg).toInt = v45.toInt := congrArg Int32.toInt (ev45)
            have rv45 := n_rng v45
            refine r_iald (n := 4096) (lo := (-2147483648)) (hi := 2147483647) C v45 rfl (by decide) rfl rfl ⟨by omega, by omega⟩ (by decide) ev45 rfl rfl (oDec_at oX2_verdict 63 rfl) (fun _ _ => ?_)
            have hkz9 : (s).1 32 v43.toNatClampNeg = v45 := ev45
            refine r_iload C (j := 7) (oDec_at oX2_verdict 64 rfl) rfl ?_
            refine r_icmp_eq C 203 (oDec_at oX2_verdict 65 rfl) (by decide) (fun cd46 => ?_) (fun cd46 => ?_)
            · skip
              have hq47 : owKV R W (s) := by first | exact hp2
              refine r_aload_n C (j := 0) (oDec_at oX2_verdict 110 rfl) rfl rfl ?_
              refine r_getF (k := 1) (b := 33) C oCl2 rfl (by decide) flX2_15 rfl rfl rfl (oDec_at oX2_verdict 111 rfl) ?_
              refine r_iload C (j := 8) (oDec_at oX2_verdict 112 rfl) rfl ?_
              obtain ⟨v49, ev49⟩ : ∃ z : Int32, (s).1 33 v43.toNatClampNeg = z := ⟨_, rfl⟩
              have gv49 : (s.1 33 v43.toNatClampNeg).toInt = v49.toInt := congrArg Int32.toInt (ev49)
              have rv49 := n_rng v49
              refine r_iald (n := 4096) (lo := (-2147483648)) (hi := 2147483647) C v49 rfl (by decide) rfl rfl ⟨by omega, by omega⟩ (by decide) ev49 rfl rfl (oDec_at oX2_verdict 113 rfl) (fun _ _ => ?_)
              exact r_iret C (oDec_at oX2_verdict 114 rfl) ⟨_, rfl, ⟨hq47, by intro h8; first | (have h9 := (hq47) v43.toNatClampNeg (by have h7 := n_nat v43; omega) _ _ _ hkr9 (by rw [hkz9]; omega); rw [ev49] at h9; exact h9) | (have h9 := hfzE; rw [show x9.toInt = v49.toInt by omega] at h9; exact h9)⟩⟩
            · skip
              refine r_aload_n C (j := 0) (oDec_at oX2_verdict 66 rfl) rfl rfl ?_
              refine r_iload C (j := 4) (oDec_at oX2_verdict 67 rfl) rfl ?_
              refine r_iload C (j := 6) (oDec_at oX2_verdict 68 rfl) rfl ?_
              refine r_aload_n C (j := 1) (oDec_at oX2_verdict 69 rfl) rfl rfl ?_
              refine r_getFN (k := 3) (b := 39) C oCl1 rfl (by decide) flX2_59 rfl rfl rfl (oDec_at oX2_verdict 70 rfl) ?_
              refine r_iload_n C (j := 2) (oDec_at oX2_verdict 71 rfl) rfl rfl ?_
              refine r_pc C 128 rfl ?_
              refine r_iald (n := 48) (lo := (-2147483648)) (hi := 2147483647) C v40 rfl (by decide) rfl rfl ⟨by omega, by omega⟩ (by decide) (ev40) rfl rfl (oDec_at oX2_verdict 72 rfl) (fun _ _ => ?_)
              refine r_callVv C oCl2 rfl miX2_setFacts mlX2_63 (ct9_X2_setFacts l E (s) v27 v34 v40 (by have h9 := hkr9; rw [← hwa9, hA0, hM0] at h9; rw [show v27.toInt = v26.toInt + a3.toInt by omega]; exact h9)) (by decide) rfl rfl rfl (Nat.le_of_ble_eq_true rfl) (oDec_at oX2_verdict 73 rfl) (fun u51 pu51 fu51 => ?_)
              try dsimp only at pu51
              have hM9 : (s.1 39 a2.toNatClampNeg).toInt = v40.toInt := congrArg Int32.toInt ev40
              have hfa9 : owFA (owDf s a2.toNatClampNeg a3.toInt) (u51) := by have h9 := pu51; rw [show v27.toInt = ((s.1 37 a2.toNatClampNeg).toInt + a3.toInt) by omega, hwa9, ← hM9] at h9; exact h9
              have hq53 : owFA (owDf s a2.toNatClampNeg a3.toInt) (u51) := hfa9
              refine r_iconst C (oDec_at oX2_verdict 74 rfl) (v := k0) (by rw [qk0]; rfl) ?_
              refine r_istore C (lv' := [(0, .ref (oad E 31)), (1, .ref (oad E 35)), (2, .int a2), (3, .int a3), (4, .int v27), (5, .int v29), (6, .int v34), (7, .int v41), (8, .int v43), (9, .int k0)]) [1, 2, 3, 4, 5, 6, 7, 8, 9, 0] (oDec_at oX2_verdict 75 rfl) (by decide) rfl ?_
              refine r_iconst C (oDec_at oX2_verdict 76 rfl) (v := k0) (by rw [qk0]; rfl) ?_
              refine r_istore C (lv' := [(0, .ref (oad E 31)), (1, .ref (oad E 35)), (2, .int a2), (3, .int a3), (4, .int v27), (5, .int v29), (6, .int v34), (7, .int v41), (8, .int v43), (9, .int k0), (10, .int k0)]) [1, 2, 3, 4, 5, 6, 7, 8, 9, 10, 0] (oDec_at oX2_verdict 77 rfl) (by decide) rfl ?_
              refine r_pick C [0, 7, 8, 9, 10] rfl ?_
              exact (key (13 - k0.toInt).toNat) (u51) v41 v43 k0 k0  (by omega) (by omega) (by omega) (by first | exact hky9) (by first | exact hkr9) hq53 (owKV_fr fu51 rfl hp2) (owBC_fr fu51 rfl hp1) (by first | exact ⟨fun _ => owBk_0 (by omega), fun _ => by omega⟩) (by omega)
          · skip
            refine r_bipush C (oDec_at oX2_verdict 30 rfl) (v := k7) (by rw [qk7]; rfl) ?_
            refine r_goto C (tgt := 70) (oDec_at oX2_verdict 31 rfl) (by decide) ?_
            have hwa9 : k7.toInt = (owWa (s.1 38 a2.toNatClampNeg).toInt a3.toInt) := by rw [hB0]; unfold owWa; first | (rw [if_pos (by omega)] <;> omega) | (rw [if_neg (by omega), show v29.toInt + a3.toInt = (by assumption).toInt by omega]; omega)
            have hwb9 := owWa_b (b := (s.1 38 a2.toNatClampNeg).toInt) (h := a3.toInt)
            refine r_istore C (lv' := [(0, .ref (oad E 31)), (1, .ref (oad E 35)), (2, .int a2), (3, .int a3), (4, .int v27), (5, .int v29), (6, .int k7)]) [1, 2, 3, 4, 5, 6, 0] (oDec_at oX2_verdict 38 rfl) (by decide) rfl ?_
            refine r_iload C (j := 4) (oDec_at oX2_verdict 39 rfl) rfl ?_
            refine r_sipush C (oDec_at oX2_verdict 40 rfl) (v := k128) (by rw [qk128]; rfl) ?_
            obtain ⟨v54, ev54⟩ : ∃ z : Int32, z = v27 + k128 := ⟨_, rfl⟩
            have hv54 : v54.toInt = v27.toInt + k128.toInt := n_add ev54 (by omega) (by omega)
            refine r_iadd C v54 (oDec_at oX2_verdict 41 rfl) ev54 ?_
            refine r_bipush C (oDec_at oX2_verdict 42 rfl) (v := k8) (by rw [qk8]; rfl) ?_
            refine r_pc C 80 rfl ?_
            obtain ⟨v55, ev55⟩ : ∃ z : Int32, z = v54 * k8 := ⟨_, rfl⟩
            have hv55 : v55.toInt = v54.toInt * 8 := n_mulK 8 ev55 ek8 (by omega) (by omega)
            refine r_imul C v55 (oDec_at oX2_verdict 43 rfl) ev55 ?_
            refine r_iload C (j := 6) (oDec_at oX2_verdict 44 rfl) rfl ?_
            obtain ⟨v56, ev56⟩ : ∃ z : Int32, z = v55 + k7 := ⟨_, rfl⟩
            have hv56 : v56.toInt = v55.toInt + k7.toInt := n_add ev56 (by omega) (by omega)
            refine r_iadd C v56 (oDec_at oX2_verdict 45 rfl) ev56 ?_
            refine r_bipush C (oDec_at oX2_verdict 46 rfl) (v := k17) (by rw [qk17]; rfl) ?_
            obtain ⟨v57, ev57⟩ : ∃ z : Int32, z = v56 <<< (k17 &&& 31) := ⟨_, rfl⟩
            have rv57 := n_rng v57
            have hv57 := n_shl17 ev57 (n_eq (by rw [ek17]; rfl)) (by omega) (by omega)
            refine r_ishl C v57 (oDec_at oX2_verdict 47 rfl) ev57 ?_
            refine r_aload_n C (j := 1) (oDec_at oX2_verdict 48 rfl) rfl rfl ?_
            refine r_pc C 88 rfl ?_
            refine r_getFN (k := 3) (b := 39) C oCl1 rfl (by decide) flX2_59 rfl rfl rfl (oDec_at oX2_verdict 49 rfl) ?_
            refine r_iload_n C (j := 2) (oDec_at oX2_verdict 50 rfl) rfl rfl ?_
            obtain ⟨v59, ev59⟩ : ∃ z : Int32, (s).1 39 a2.toNatClampNeg = z := ⟨_, rfl⟩
            have gv59 : (s.1 39 a2.toNatClampNeg).toInt = v59.toInt := congrArg Int32.toInt (ev59)
            have rv59 := n_rng v59
            refine r_iald (n := 48) (lo := (-2147483648)) (hi := 2147483647) C v59 rfl (by decide) rfl rfl ⟨by omega, by omega⟩ (by decide) ev59 rfl rfl (oDec_at oX2_verdict 51 rfl) (fun _ _ => ?_)
            have hM0 : (s.1 39 a2.toNatClampNeg).toInt = v59.toInt := congrArg Int32.toInt ev59
            have hdM := ((hp3) a2.toNatClampNeg).2.2
            rw [hM0] at hdM
            obtain ⟨v60, ev60⟩ : ∃ z : Int32, z = v57 ||| v59 := ⟨_, rfl⟩
            have rv60 := n_rng v60
            have hv60 := n_or17 ev60 hv57 (by omega) (by omega) (by omega) (by omega)
            refine r_ior C v60 (oDec_at oX2_verdict 52 rfl) ev60 ?_
            have hkr9 : owKr ((s.1 37 a2.toNatClampNeg).toInt + a3.toInt) (owWa (s.1 38 a2.toNatClampNeg).toInt a3.toInt) (s.1 39 a2.toNatClampNeg).toInt := by rw [← hwa9, hA0, hM0]; unfold owKr; omega
            have hky9 : v60.toInt = owKy ((s.1 37 a2.toNatClampNeg).toInt + a3.toInt) (owWa (s.1 38 a2.toNatClampNeg).toInt a3.toInt) (s.1 39 a2.toNatClampNeg).toInt := by rw [← hwa9, hA0, hM0]; unfold owKy; omega
            refine r_istore C (lv' := [(0, .ref (oad E 31)), (1, .ref (oad E 35)), (2, .int a2), (3, .int a3), (4, .int v27), (5, .int v29), (6, .int k7), (7, .int v60)]) [1, 2, 3, 4, 5, 6, 7, 0] (oDec_at oX2_verdict 53 rfl) (by decide) rfl ?_
            refine r_iload C (j := 7) (oDec_at oX2_verdict 54 rfl) rfl ?_
            refine r_pc C 98 rfl ?_
            refine r_ldc C (v := km1640531535) (by rw [qkm1640531535]; exact kcX2_62) (oDec_at oX2_verdict 55 rfl) ?_
            obtain ⟨v61, ev61⟩ : ∃ z : Int32, z = v60 * km1640531535 := ⟨_, rfl⟩
            have rv61 := n_rng v61
            refine r_imul C v61 (oDec_at oX2_verdict 56 rfl) ev61 ?_
            refine r_bipush C (oDec_at oX2_verdict 57 rfl) (v := k20) (by rw [qk20]; rfl) ?_
            obtain ⟨v62, ev62⟩ : ∃ z : Int32, (v61.toUInt32 >>> (k20.toUInt32 &&& Int32.toUInt32 31)).toInt32 = z := ⟨_, rfl⟩
            have rv62 := n_rng v62
            have hv62 := n_ushr 20 ev62 (by rw [qk20]; rfl) (by decide) 4096 (by decide)
            refine r_iushr C v62 (oDec_at oX2_verdict 58 rfl) ev62 ?_
            refine r_istore C (lv' := [(0, .ref (oad E 31)), (1, .ref (oad E 35)), (2, .int a2), (3, .int a3), (4, .int v27), (5, .int v29), (6, .int k7), (7, .int v60), (8, .int v62)]) [1, 2, 3, 4, 5, 6, 7, 8, 0] (oDec_at oX2_verdict 59 rfl) (by decide) rfl ?_
            refine r_aload_n C (j := 0) (oDec_at oX2_verdict 60 rfl) rfl rfl ?_
            refine r_pc C 107 rfl ?_
            refine r_getF (k := 0) (b := 32) C oCl2 rfl (by decide) flX2_11 rfl rfl rfl (oDec_at oX2_verdict 61 rfl) ?_
            refine r_iload C (j := 8) (oDec_at oX2_verdict 62 rfl) rfl ?_
            obtain ⟨v64, ev64⟩ : ∃ z : Int32, (s).1 32 v62.toNatClampNeg = z := ⟨_, rfl⟩
            have gv64 : (s.1 32 v62.toNatClampNeg).toInt = v64.toInt := congrArg Int32.toInt (ev64)
            have rv64 := n_rng v64
            refine r_iald (n := 4096) (lo := (-2147483648)) (hi := 2147483647) C v64 rfl (by decide) rfl rfl ⟨by omega, by omega⟩ (by decide) ev64 rfl rfl (oDec_at oX2_verdict 63 rfl) (fun _ _ => ?_)
            have hkz9 : (s).1 32 v62.toNatClampNeg = v64 := ev64
            refine r_iload C (j := 7) (oDec_at oX2_verdict 64 rfl) rfl ?_
            refine r_icmp_eq C 203 (oDec_at oX2_verdict 65 rfl) (by decide) (fun cd65 => ?_) (fun cd65 => ?_)
            · skip
              have hq66 : owKV R W (s) := by first | exact hp2
              refine r_aload_n C (j := 0) (oDec_at oX2_verdict 110 rfl) rfl rfl ?_
              refine r_getF (k := 1) (b := 33) C oCl2 rfl (by decide) flX2_15 rfl rfl rfl (oDec_at oX2_verdict 111 rfl) ?_
              refine r_iload C (j := 8) (oDec_at oX2_verdict 112 rfl) rfl ?_
              obtain ⟨v68, ev68⟩ : ∃ z : Int32, (s).1 33 v62.toNatClampNeg = z := ⟨_, rfl⟩
              have gv68 : (s.1 33 v62.toNatClampNeg).toInt = v68.toInt := congrArg Int32.toInt (ev68)
              have rv68 := n_rng v68
              refine r_iald (n := 4096) (lo := (-2147483648)) (hi := 2147483647) C v68 rfl (by decide) rfl rfl ⟨by omega, by omega⟩ (by decide) ev68 rfl rfl (oDec_at oX2_verdict 113 rfl) (fun _ _ => ?_)
              exact r_iret C (oDec_at oX2_verdict 114 rfl) ⟨_, rfl, ⟨hq66, by intro h8; first | (have h9 := (hq66) v62.toNatClampNeg (by have h7 := n_nat v62; omega) _ _ _ hkr9 (by rw [hkz9]; omega); rw [ev68] at h9; exact h9) | (have h9 := hfzE; rw [show x9.toInt = v68.toInt by omega] at h9; exact h9)⟩⟩
            · skip
              refine r_aload_n C (j := 0) (oDec_at oX2_verdict 66 rfl) rfl rfl ?_
              refine r_iload C (j := 4) (oDec_at oX2_verdict 67 rfl) rfl ?_
              refine r_iload C (j := 6) (oDec_at oX2_verdict 68 rfl) rfl ?_
              refine r_aload_n C (j := 1) (oDec_at oX2_verdict 69 rfl) rfl rfl ?_
              refine r_getFN (k := 3) (b := 39) C oCl1 rfl (by decide) flX2_59 rfl rfl rfl (oDec_at oX2_verdict 70 rfl) ?_
              refine r_iload_n C (j := 2) (oDec_at oX2_verdict 71 rfl) rfl rfl ?_
              refine r_pc C 128 rfl ?_
              refine r_iald (n := 48) (lo := (-2147483648)) (hi := 2147483647) C v59 rfl (by decide) rfl rfl ⟨by omega, by omega⟩ (by decide) (ev59) rfl rfl (oDec_at oX2_verdict 72 rfl) (fun _ _ => ?_)
              refine r_callVv C oCl2 rfl miX2_setFacts mlX2_63 (ct9_X2_setFacts l E (s) v27 k7 v59 (by have h9 := hkr9; rw [← hwa9, hA0, hM0] at h9; rw [show v27.toInt = v26.toInt + a3.toInt by omega]; exact h9)) (by decide) rfl rfl rfl (Nat.le_of_ble_eq_true rfl) (oDec_at oX2_verdict 73 rfl) (fun u70 pu70 fu70 => ?_)
              try dsimp only at pu70
              have hM9 : (s.1 39 a2.toNatClampNeg).toInt = v59.toInt := congrArg Int32.toInt ev59
              have hfa9 : owFA (owDf s a2.toNatClampNeg a3.toInt) (u70) := by have h9 := pu70; rw [show v27.toInt = ((s.1 37 a2.toNatClampNeg).toInt + a3.toInt) by omega, hwa9, ← hM9] at h9; exact h9
              have hq72 : owFA (owDf s a2.toNatClampNeg a3.toInt) (u70) := hfa9
              refine r_iconst C (oDec_at oX2_verdict 74 rfl) (v := k0) (by rw [qk0]; rfl) ?_
              refine r_istore C (lv' := [(0, .ref (oad E 31)), (1, .ref (oad E 35)), (2, .int a2), (3, .int a3), (4, .int v27), (5, .int v29), (6, .int k7), (7, .int v60), (8, .int v62), (9, .int k0)]) [1, 2, 3, 4, 5, 6, 7, 8, 9, 0] (oDec_at oX2_verdict 75 rfl) (by decide) rfl ?_
              refine r_iconst C (oDec_at oX2_verdict 76 rfl) (v := k0) (by rw [qk0]; rfl) ?_
              refine r_istore C (lv' := [(0, .ref (oad E 31)), (1, .ref (oad E 35)), (2, .int a2), (3, .int a3), (4, .int v27), (5, .int v29), (6, .int k7), (7, .int v60), (8, .int v62), (9, .int k0), (10, .int k0)]) [1, 2, 3, 4, 5, 6, 7, 8, 9, 10, 0] (oDec_at oX2_verdict 77 rfl) (by decide) rfl ?_
              refine r_pick C [0, 7, 8, 9, 10] rfl ?_
              exact (key (13 - k0.toInt).toNat) (u70) v60 v62 k0 k0  (by omega) (by omega) (by omega) (by first | exact hky9) (by first | exact hkr9) hq72 (owKV_fr fu70 rfl hp2) (owBC_fr fu70 rfl hp1) (by first | exact ⟨fun _ => owBk_0 (by omega), fun _ => by omega⟩) (by omega)
        · skip
          refine r_iconst C (oDec_at oX2_verdict 13 rfl) (v := k0) (by rw [qk0]; rfl) ?_
          exact r_iret C (oDec_at oX2_verdict 14 rfl) ⟨_, rfl, ⟨hp2, by first | (intro h9; exfalso; omega) | exact fun _ => ⟨fun _ => owBk_0 (by omega), fun _ => by omega⟩⟩⟩
set_option maxHeartbeats 4000000 in
set_option maxRecDepth 100000 in
theorem ct9_X2_nextBroken (l : Launch) (E : oE) (s : oS) (a2 : Int32) (b : Nat) (R : Int) (W : Nat → List Int) (hp0 : owBC b R W s) (hp1 : owKV R W s) (hp2 : owDN s) : oMet l 5 yX2_nextBroken cX2_nextBroken 4 (some .int) [(24, 9999), (25, 9999), (26, 9999), (27, 9999)] E s [.ref (oad E 31), .ref (oad E 35), .int a2] (oPi (fun r u => (owKV R W u) ∧ (a2.toInt = 0 → (r.toInt = -1 ↔ ∀ i : Nat, (i : Int) < (s.1 35 6).toInt → ¬ owBk R W (owDf s i 0))))) := by
  refine oMet.of (lv := [(0, .ref (oad E 31)), (1, .ref (oad E 35)), (2, .int a2)]) (by decide +kernel) (Nat.le_of_ble_eq_true rfl) rfl (fun J C hT => ?_)
  have C : oC l 5 cX2_nextBroken RX2 4 (some .int) [(24, 9999), (25, 9999), (26, 9999), (27, 9999)] E s (oPi (fun r u => (owKV R W u) ∧ (a2.toInt = 0 → (r.toInt = -1 ↔ ∀ i : Nat, (i : Int) < (s.1 35 6).toInt → ¬ owBk R W (owDf s i 0))))) J := C
  obtain ⟨km1, qkm1⟩ : ∃ z : Int32, z = (-1) := ⟨_, rfl⟩
  have ekm1 : km1.toInt = (-1) := by rw [qkm1]; rfl
  obtain ⟨k0, qk0⟩ : ∃ z : Int32, z = 0 := ⟨_, rfl⟩
  have ek0 : k0.toInt = 0 := by rw [qk0]; rfl
  have rg2 := n_rng a2
  have key : ∀ n : Nat, (∀ (t : oS) (x3 : Int32), (owBC b R W t) → (owKV R W t) → (owDN t) → (owDR s t) → ((t.1 35 6).toInt = (s.1 35 6).toInt) → (a2.toInt = 0 → 0 ≤ x3.toInt) → (a2.toInt = 0 → ∀ i : Nat, (i : Int) < x3.toInt → ¬ owBk R W (owDf s i 0)) → 2147483648 - x3.toInt ≤ (n : Int) → J t 2 [(0, .ref (oad E 31)), (1, .ref (oad E 35)), (3, .int x3)] []) := by
    intro n
    induction n using Nat.strongRecOn with
    | _ n ih =>
      skip
      · intro t x3  iv0 iv1 iv2 iv3 iv4 iv5 iv6 hmu
        have rx3 := n_rng x3
        refine r_iload_n C (j := 2) (oDec_at oX2_nextBroken 2 rfl) rfl rfl ?_
        refine r_aload_n C (j := 1) (oDec_at oX2_nextBroken 3 rfl) rfl rfl ?_
        obtain ⟨v1, ev1⟩ : ∃ z : Int32, (t).1 35 6 = z := ⟨_, rfl⟩
        have gv1 : (t.1 35 6).toInt = v1.toInt := congrArg Int32.toInt (ev1)
        refine r_getiN (k := 6) (lo := 0) (hi := 48) C v1 oCl1 rfl (by decide) flX2_41 rfl rfl (ev1) rfl rfl (oDec_at oX2_nextBroken 4 rfl) (fun b2 b2h => ?_)
        refine r_icmp_ge C 28 (oDec_at oX2_nextBroken 5 rfl) (by decide) (fun cd3 => ?_) (fun cd3 => ?_)
        · skip
          refine r_iconst C (oDec_at oX2_nextBroken 16 rfl) (v := km1) (by rw [qkm1]; rfl) ?_
          exact r_iret C (oDec_at oX2_nextBroken 17 rfl) ⟨_, rfl, ⟨iv1, fun h2 => ⟨fun _ i hi => iv6 h2 i (by omega), fun _ => by omega⟩⟩⟩
        · skip
          refine r_aload_n C (j := 0) (oDec_at oX2_nextBroken 6 rfl) rfl rfl ?_
          refine r_aload_n C (j := 1) (oDec_at oX2_nextBroken 7 rfl) rfl rfl ?_
          refine r_iload_n C (j := 2) (oDec_at oX2_nextBroken 8 rfl) rfl rfl ?_
          refine r_iconst C (oDec_at oX2_nextBroken 9 rfl) (v := k0) (by rw [qk0]; rfl) ?_
          have lk4 : ((t).1 35 6).toInt = v1.toInt := congrArg Int32.toInt (ev1)
          refine r_callVi C oCl2 rfl miX2_verdict mlX2_71 (ct9_X2_verdict l E (t) x3 k0 (b) (R) (W) (by omega) iv0 iv1 iv2) (by decide) rfl rfl rfl (Nat.le_of_ble_eq_true rfl) (oDec_at oX2_nextBroken 10 rfl) (fun r6 u5 pu5 fu5 => ?_)
          try dsimp only at pu5
          try simp only [lk4] at pu5
          obtain ⟨pu5_0, pu5_1⟩ := pu5
          have rr6 := n_rng r6
          have hv9 : a2.toInt = 0 → (r6.toInt = 0 ↔ ¬ owBk R W (owDf s x3.toNatClampNeg 0)) := fun h2 => by have h9 := pu5_1 ⟨by omega, by omega, by omega⟩; rw [owDf_eq iv3, show k0.toInt = 0 from ek0] at h9; exact h9
          refine r_if_eq C 22 (oDec_at oX2_nextBroken 11 rfl) (by decide) (fun cd7 => ?_) (fun cd7 => ?_)
          · skip
            obtain ⟨v8, ev8⟩ : ∃ z : Int32, x3 + Int32.ofInt 1 = z := ⟨_, rfl⟩
            have hv8 : v8.toInt = x3.toInt + 1 := n_inc ev8 (by decide) (by omega) (by omega)
            refine r_iinc C (j := 2) (lv' := [(0, .ref (oad E 31)), (1, .ref (oad E 35)), (3, .int v8)]) v8 [1, 2, 0] (oDec_at oX2_nextBroken 14 rfl) rfl ev8 (by decide) rfl ?_
            refine r_goto C (tgt := 2) (oDec_at oX2_nextBroken 15 rfl) (by decide) ?_
            have lk9 : ((u5).1 35 6).toInt = v1.toInt := congrArg Int32.toInt (((fu5 35 6 rfl).1).trans (ev1))
            exact (ih (n - 1) (by omega)) (u5) v8  (owBC_fr fu5 rfl iv0) pu5_0 (owDN_fr fu5 rfl iv2) (owDR_fr fu5 rfl iv3) (by omega) (by omega) (by first | exact fun h2 => owNz_nx (iv6 h2) ((hv9 h2).mp (by omega)) (by omega) (by omega) | (intro h2 i hi; exfalso; omega)) (by omega)
          · skip
            refine r_iload_n C (j := 2) (oDec_at oX2_nextBroken 12 rfl) rfl rfl ?_
            exact r_iret C (oDec_at oX2_nextBroken 13 rfl) ⟨_, rfl, ⟨pu5_0, fun h2 => ⟨fun h9 => by exfalso; omega, fun h9 => by exfalso; have h8 := (hv9 h2).mpr (h9 x3.toNatClampNeg (by have h7 := n_nat x3; omega)); omega⟩⟩⟩
  have hq10 : owDR s (s) := ⟨rfl, rfl, rfl⟩
  refine r_iload_n C (j := 2) (oDec_at oX2_nextBroken 0 rfl) rfl rfl ?_
  refine r_istore_n C (lv' := [(0, .ref (oad E 31)), (1, .ref (oad E 35)), (2, .int a2), (3, .int a2)]) [1, 2, 3, 0] (oDec_at oX2_nextBroken 1 rfl) rfl (by decide) rfl ?_
  refine r_pick C [0, 1, 3] rfl ?_
  exact (key (2147483648 - a2.toInt).toNat) (s) a2  hp0 hp1 hp2 hq10 (by omega) (by omega) (by first | (intro h2 i hi; exfalso; omega)) (by omega)
set_option maxHeartbeats 4000000 in
set_option maxRecDepth 100000 in
theorem ct9_X2_countBroken (l : Launch) (E : oE) (s : oS)  (b : Nat) (R : Int) (W : Nat → List Int) (hp0 : owBC b R W s) (hp1 : owKV R W s) (hp2 : owDN s) : oMet l 5 yX2_countBroken cX2_countBroken 4 (some .int) [(24, 9999), (25, 9999), (26, 9999), (27, 9999)] E s [.ref (oad E 31), .ref (oad E 35)] (oPi (fun r u => (owKV R W u))) := by
  refine oMet.of (lv := [(0, .ref (oad E 31)), (1, .ref (oad E 35))]) (by decide +kernel) (Nat.le_of_ble_eq_true rfl) rfl (fun J C hT => ?_)
  have C : oC l 5 cX2_countBroken RX2 4 (some .int) [(24, 9999), (25, 9999), (26, 9999), (27, 9999)] E s (oPi (fun r u => (owKV R W u))) J := C
  obtain ⟨k0, qk0⟩ : ∃ z : Int32, z = 0 := ⟨_, rfl⟩
  have ek0 : k0.toInt = 0 := by rw [qk0]; rfl
  obtain ⟨k1, qk1⟩ : ∃ z : Int32, z = 1 := ⟨_, rfl⟩
  have ek1 : k1.toInt = 1 := by rw [qk1]; rfl
  have key : ∀ n : Nat, (∀ (t : oS) (x2 : Int32) (x3 : Int32), (0 ≤ x3.toInt ∧ x3.toInt ≤ 48) → (0 ≤ x2.toInt ∧ x2.toInt ≤ x3.toInt) → (owBC b R W t) → (owKV R W t) → (owDN t) → 49 - x3.toInt ≤ (n : Int) → J t 4 [(0, .ref (oad E 31)), (1, .ref (oad E 35)), (2, .int x2), (3, .int x3)] []) := by
    intro n
    induction n using Nat.strongRecOn with
    | _ n ih =>
      skip
      · intro t x2 x3  iv0 iv1 iv2 iv3 iv4 hmu
        have rx2 := n_rng x2
        have rx3 := n_rng x3
        refine r_iload_n C (j := 3) (oDec_at oX2_countBroken 4 rfl) rfl rfl ?_
        refine r_aload_n C (j := 1) (oDec_at oX2_countBroken 5 rfl) rfl rfl ?_
        obtain ⟨v1, ev1⟩ : ∃ z : Int32, (t).1 35 6 = z := ⟨_, rfl⟩
        have gv1 : (t.1 35 6).toInt = v1.toInt := congrArg Int32.toInt (ev1)
        refine r_getiN (k := 6) (lo := 0) (hi := 48) C v1 oCl1 rfl (by decide) flX2_41 rfl rfl (ev1) rfl rfl (oDec_at oX2_countBroken 6 rfl) (fun b2 b2h => ?_)
        refine r_icmp_ge C 36 (oDec_at oX2_countBroken 7 rfl) (by decide) (fun cd3 => ?_) (fun cd3 => ?_)
        · skip
          refine r_iload_n C (j := 2) (oDec_at oX2_countBroken 22 rfl) rfl rfl ?_
          exact r_iret C (oDec_at oX2_countBroken 23 rfl) ⟨_, rfl, iv3⟩
        · skip
          refine r_iload_n C (j := 2) (oDec_at oX2_countBroken 8 rfl) rfl rfl ?_
          refine r_aload_n C (j := 0) (oDec_at oX2_countBroken 9 rfl) rfl rfl ?_
          refine r_aload_n C (j := 1) (oDec_at oX2_countBroken 10 rfl) rfl rfl ?_
          refine r_iload_n C (j := 3) (oDec_at oX2_countBroken 11 rfl) rfl rfl ?_
          refine r_iconst C (oDec_at oX2_countBroken 12 rfl) (v := k0) (by rw [qk0]; rfl) ?_
          have lk4 : ((t).1 35 6).toInt = v1.toInt := congrArg Int32.toInt (ev1)
          refine r_callVi C oCl2 rfl miX2_verdict mlX2_71 (ct9_X2_verdict l E (t) x3 k0 (b) (R) (W) (by omega) iv2 iv3 iv4) (by decide) rfl rfl rfl (Nat.le_of_ble_eq_true rfl) (oDec_at oX2_countBroken 13 rfl) (fun r6 u5 pu5 fu5 => ?_)
          try dsimp only at pu5
          try simp only [lk4] at pu5
          obtain ⟨pu5_0, pu5_1⟩ := pu5
          have rr6 := n_rng r6
          refine r_pc C 20 rfl ?_
          refine r_if_eq C 27 (oDec_at oX2_countBroken 14 rfl) (by decide) (fun cd7 => ?_) (fun cd7 => ?_)
          · skip
            refine r_iconst C (oDec_at oX2_countBroken 17 rfl) (v := k0) (by rw [qk0]; rfl) ?_
            obtain ⟨v8, ev8⟩ : ∃ z : Int32, z = x2 + k0 := ⟨_, rfl⟩
            have hv8 : v8.toInt = x2.toInt + k0.toInt := n_add ev8 (by omega) (by omega)
            refine r_iadd C v8 (oDec_at oX2_countBroken 18 rfl) ev8 ?_
            refine r_istore_n C (lv' := [(0, .ref (oad E 31)), (1, .ref (oad E 35)), (2, .int v8), (3, .int x3)]) [1, 2, 0, 3] (oDec_at oX2_countBroken 19 rfl) rfl (by decide) rfl ?_
            obtain ⟨v9, ev9⟩ : ∃ z : Int32, x3 + Int32.ofInt 1 = z := ⟨_, rfl⟩
            have hv9 : v9.toInt = x3.toInt + 1 := n_inc ev9 (by decide) (by omega) (by omega)
            refine r_iinc C (j := 3) (lv' := [(0, .ref (oad E 31)), (1, .ref (oad E 35)), (2, .int v8), (3, .int v9)]) v9 [1, 2, 3, 0] (oDec_at oX2_countBroken 20 rfl) rfl ev9 (by decide) rfl ?_
            refine r_goto C (tgt := 4) (oDec_at oX2_countBroken 21 rfl) (by decide) ?_
            exact (ih (n - 1) (by omega)) (u5) v8 v9  (by omega) (by omega) (owBC_fr fu5 rfl iv2) pu5_0 (owDN_fr fu5 rfl iv4) (by omega)
          · skip
            refine r_iconst C (oDec_at oX2_countBroken 15 rfl) (v := k1) (by rw [qk1]; rfl) ?_
            refine r_goto C (tgt := 28) (oDec_at oX2_countBroken 16 rfl) (by decide) ?_
            obtain ⟨v10, ev10⟩ : ∃ z : Int32, z = x2 + k1 := ⟨_, rfl⟩
            have hv10 : v10.toInt = x2.toInt + k1.toInt := n_add ev10 (by omega) (by omega)
            refine r_iadd C v10 (oDec_at oX2_countBroken 18 rfl) ev10 ?_
            refine r_istore_n C (lv' := [(0, .ref (oad E 31)), (1, .ref (oad E 35)), (2, .int v10), (3, .int x3)]) [1, 2, 0, 3] (oDec_at oX2_countBroken 19 rfl) rfl (by decide) rfl ?_
            obtain ⟨v11, ev11⟩ : ∃ z : Int32, x3 + Int32.ofInt 1 = z := ⟨_, rfl⟩
            have hv11 : v11.toInt = x3.toInt + 1 := n_inc ev11 (by decide) (by omega) (by omega)
            refine r_iinc C (j := 3) (lv' := [(0, .ref (oad E 31)), (1, .ref (oad E 35)), (2, .int v10), (3, .int v11)]) v11 [1, 2, 3, 0] (oDec_at oX2_countBroken 20 rfl) rfl ev11 (by decide) rfl ?_
            refine r_goto C (tgt := 4) (oDec_at oX2_countBroken 21 rfl) (by decide) ?_
            exact (ih (n - 1) (by omega)) (u5) v10 v11  (by omega) (by omega) (owBC_fr fu5 rfl iv2) pu5_0 (owDN_fr fu5 rfl iv4) (by omega)
  refine r_iconst C (oDec_at oX2_countBroken 0 rfl) (v := k0) (by rw [qk0]; rfl) ?_
  refine r_istore_n C (lv' := [(0, .ref (oad E 31)), (1, .ref (oad E 35)), (2, .int k0)]) [1, 2, 0] (oDec_at oX2_countBroken 1 rfl) rfl (by decide) rfl ?_
  refine r_iconst C (oDec_at oX2_countBroken 2 rfl) (v := k0) (by rw [qk0]; rfl) ?_
  refine r_istore_n C (lv' := [(0, .ref (oad E 31)), (1, .ref (oad E 35)), (2, .int k0), (3, .int k0)]) [1, 2, 3, 0] (oDec_at oX2_countBroken 3 rfl) rfl (by decide) rfl ?_
  exact (key (49 - k0.toInt).toNat) (s) k0 k0  (by omega) (by omega) hp0 hp1 hp2 (by omega)
set_option maxHeartbeats 4000000 in
set_option maxRecDepth 100000 in
theorem ct9_X2_ruleAt (l : Launch) (E : oE) (s : oS) (a2 : Int32) (b : Nat) (R : Int) (W : Nat → List Int) (hp0 : owBC b R W s) (hp1 : owKV R W s) (hp2 : owDN s) : oMet l 5 yX2_ruleAt cX2_ruleAt 3 (some .int) [(24, 9999), (25, 9999), (26, 9999), (27, 9999)] E s [.ref (oad E 31), .ref (oad E 35), .int a2] (oPi (fun r u => (owKV R W u))) := by
  refine oMet.of (lv := [(0, .ref (oad E 31)), (1, .ref (oad E 35)), (2, .int a2)]) (by decide +kernel) (Nat.le_of_ble_eq_true rfl) rfl (fun J C hT => ?_)
  have C : oC l 5 cX2_ruleAt RX2 3 (some .int) [(24, 9999), (25, 9999), (26, 9999), (27, 9999)] E s (oPi (fun r u => (owKV R W u))) J := C
  obtain ⟨k0, qk0⟩ : ∃ z : Int32, z = 0 := ⟨_, rfl⟩
  have ek0 : k0.toInt = 0 := by rw [qk0]; rfl
  obtain ⟨k1, qk1⟩ : ∃ z : Int32, z = 1 := ⟨_, rfl⟩
  have ek1 : k1.toInt = 1 := by rw [qk1]; rfl
  have rg2 := n_rng a2
  refine r_aload_n C (j := 0) (oDec_at oX2_ruleAt 0 rfl) rfl rfl ?_
  refine r_aload_n C (j := 1) (oDec_at oX2_ruleAt 1 rfl) rfl rfl ?_
  refine r_iload_n C (j := 2) (oDec_at oX2_ruleAt 2 rfl) rfl rfl ?_
  refine r_iconst C (oDec_at oX2_ruleAt 3 rfl) (v := k0) (by rw [qk0]; rfl) ?_
  refine r_callVi C oCl2 rfl miX2_verdict mlX2_71 (ct9_X2_verdict l E (s) a2 k0 (b) (R) (W) (by omega) hp0 hp1 hp2) (by decide) rfl rfl rfl (Nat.le_of_ble_eq_true rfl) (oDec_at oX2_ruleAt 4 rfl) (fun r2 u1 pu1 fu1 => ?_)
  try dsimp only at pu1
  obtain ⟨pu1_0, pu1_1⟩ := pu1
  have rr2 := n_rng r2
  refine r_callSNi C miX11_lowestBit mlX2_75 (ct_X11_lowestBit l E (u1) r2 ) (by decide) rfl rfl rfl (Nat.le_of_ble_eq_true rfl) (oDec_at oX2_ruleAt 5 rfl) (fun r4 u3 pu3 fu3 => ?_)
  try dsimp only at pu3
  have hxu3 := oFr_nil fu3; subst hxu3
  have rr4 := n_rng r4
  refine r_pc C 10 rfl ?_
  refine r_iconst C (oDec_at oX2_ruleAt 6 rfl) (v := k1) (by rw [qk1]; rfl) ?_
  obtain ⟨v5, ev5⟩ : ∃ z : Int32, z = r4 - k1 := ⟨_, rfl⟩
  have rv5 := n_rng v5
  refine r_isub C v5 (oDec_at oX2_ruleAt 7 rfl) ev5 ?_
  refine r_callSi C miJ6_bitCount_0f7a4 mlX2_78 (ct_J6_bitCount_0f7a4 l E (u1) v5 ) (by decide) rfl rfl rfl (Nat.le_of_ble_eq_true rfl) (oDec_at oX2_ruleAt 8 rfl) (fun r7 u6 pu6 fu6 => ?_)
  try dsimp only at pu6
  have hxu6 := oFr_nil fu6; subst hxu6
  have rr7 := n_rng r7
  exact r_iret C (oDec_at oX2_ruleAt 9 rfl) ⟨_, rfl, pu1_0⟩
