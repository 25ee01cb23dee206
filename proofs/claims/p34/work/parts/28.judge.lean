set_option maxHeartbeats 4000000 in
set_option maxRecDepth 100000 in
theorem ct_X2_follow (l : Launch) (E : oE) (s : oS) (c1 : Nat) (hk1 : okd c1 = 0)  : oMet l 2 yX2_follow cX2_follow 2 none [(2, 3), (25, 9999)] E s [.ref (oad E 31), .ref (oad E c1)] (oPv (fun u => True)) := by
  refine oMet.of (lv := [(0, .ref (oad E 31)), (1, .ref (oad E c1))]) (by decide +kernel) (Nat.le_of_ble_eq_true rfl) rfl (fun J C hT => ?_)
  have C : oC l 2 cX2_follow RX2 2 none [(2, 3), (25, 9999)] E s (oPv (fun u => True)) J := C
  obtain ⟨km1, qkm1⟩ : ∃ z : Int32, z = (-1) := ⟨_, rfl⟩
  have ekm1 : km1.toInt = (-1) := by rw [qkm1]; rfl
  refine r_aload_n C (j := 0) (oDec_at oX2_follow 0 rfl) rfl rfl ?_
  refine r_aload_n C (j := 1) (oDec_at oX2_follow 1 rfl) rfl rfl ?_
  refine r_putr (k := 3) C oCl2 rfl (by decide) flX2_25 rfl rfl rfl rfl rfl rfl (oRok_S (q := 2) (k := 3) (j := 1) rfl rfl (kin1 hk1)) (oDec_at oX2_follow 2 rfl) ?_
  refine r_aload_n C (j := 0) (oDec_at oX2_follow 3 rfl) rfl rfl ?_
  refine r_getF (k := 0) (b := 32) C oCl2 rfl (by decide) flX2_11 rfl rfl rfl (oDec_at oX2_follow 4 rfl) ?_
  refine r_iconst C (oDec_at oX2_follow 5 rfl) (v := km1) (by rw [qkm1]; rfl) ?_
  refine r_pc C 10 rfl ?_
  refine r_callSv C miJ7_fill_53178 mlX2_29 (ct_J7_fill_53178 l E ((pR s 31 3 (c1 + 1))) 32 25 4096 rfl (by decide) (by decide) rfl rfl km1 (fun _ => n_rng _) (by omega)) (by decide) rfl rfl rfl (Nat.le_of_ble_eq_true rfl) (oDec_at oX2_follow 6 rfl) (fun u1 pu1 fu1 => ?_)
  try dsimp only at pu1
  exact r_vret C (oDec_at oX2_follow 7 rfl) ⟨rfl, trivial⟩
set_option maxHeartbeats 4000000 in
set_option maxRecDepth 100000 in
theorem ct_X2_setFacts (l : Launch) (E : oE) (s : oS) (a1 : Int32) (a2 : Int32) (a3 : Int32)  : oMet l 2 yX2_setFacts cX2_setFacts 4 none [(27, 9999)] E s [.ref (oad E 31), .int a1, .int a2, .int a3] (oPv (fun u => True)) := by
  refine oMet.of (lv := [(0, .ref (oad E 31)), (1, .int a1), (2, .int a2), (3, .int a3)]) (by decide +kernel) (Nat.le_of_ble_eq_true rfl) rfl (fun J C hT => ?_)
  have C : oC l 2 cX2_setFacts RX2 4 none [(27, 9999)] E s (oPv (fun u => True)) J := C
  obtain ⟨k0, qk0⟩ : ∃ z : Int32, z = 0 := ⟨_, rfl⟩
  have ek0 : k0.toInt = 0 := by rw [qk0]; rfl
  obtain ⟨k1, qk1⟩ : ∃ z : Int32, z = 1 := ⟨_, rfl⟩
  have ek1 : k1.toInt = 1 := by rw [qk1]; rfl
  obtain ⟨k2, qk2⟩ : ∃ z : Int32, z = 2 := ⟨_, rfl⟩
  have ek2 : k2.toInt = 2 := by rw [qk2]; rfl
  obtain ⟨k3, qk3⟩ : ∃ z : Int32, z = 3 := ⟨_, rfl⟩
  have ek3 : k3.toInt = 3 := by rw [qk3]; rfl
  obtain ⟨k4, qk4⟩ : ∃ z : Int32, z = 4 := ⟨_, rfl⟩
  have ek4 : k4.toInt = 4 := by rw [qk4]; rfl
  obtain ⟨k5, qk5⟩ : ∃ z : Int32, z = 5 := ⟨_, rfl⟩
  have ek5 : k5.toInt = 5 := by rw [qk5]; rfl
  obtain ⟨k6, qk6⟩ : ∃ z : Int32, z = 6 := ⟨_, rfl⟩
  have ek6 : k6.toInt = 6 := by rw [qk6]; rfl
  obtain ⟨k7, qk7⟩ : ∃ z : Int32, z = 7 := ⟨_, rfl⟩
  have ek7 : k7.toInt = 7 := by rw [qk7]; rfl
  obtain ⟨k13, qk13⟩ : ∃ z : Int32, z = 13 := ⟨_, rfl⟩
  have ek13 : k13.toInt = 13 := by rw [qk13]; rfl
  obtain ⟨k32, qk32⟩ : ∃ z : Int32, z = 32 := ⟨_, rfl⟩
  have ek32 : k32.toInt = 32 := by rw [qk32]; rfl
  obtain ⟨k63, qk63⟩ : ∃ z : Int32, z = 63 := ⟨_, rfl⟩
  have ek63 : k63.toInt = 63 := by rw [qk63]; rfl
  have rg1 := n_rng a1
  have rg2 := n_rng a2
  have rg3 := n_rng a3
  refine r_aload_n C (j := 0) (oDec_at oX2_setFacts 0 rfl) rfl rfl ?_
  refine r_getF (k := 2) (b := 34) C oCl2 rfl (by decide) flX2_18 rfl rfl rfl (oDec_at oX2_setFacts 1 rfl) ?_
  refine r_iconst C (oDec_at oX2_setFacts 2 rfl) (v := k0) (by rw [qk0]; rfl) ?_
  refine r_iload_n C (j := 1) (oDec_at oX2_setFacts 3 rfl) rfl rfl ?_
  refine r_callSi C miJ9_abs_0f7a4 mlX2_53 (ct_J9_abs_0f7a4 l E (s) a1 ) (by decide) rfl rfl rfl (Nat.le_of_ble_eq_true rfl) (oDec_at oX2_setFacts 4 rfl) (fun r2 u1 pu1 fu1 => ?_)
  try dsimp only at pu1
  have rr2 := n_rng r2
  refine r_iast (n := 8) (lo := (-2147483648)) (hi := 2147483647) C rfl (by decide) rfl rfl ⟨by omega, by omega⟩ (by decide) rfl rfl rfl rfl (n_rng _) (oDec_at oX2_setFacts 5 rfl) ?_
  refine r_pc C 10 rfl ?_
  refine r_aload_n C (j := 0) (oDec_at oX2_setFacts 6 rfl) rfl rfl ?_
  refine r_getF (k := 2) (b := 34) C oCl2 rfl (by decide) flX2_18 rfl rfl rfl (oDec_at oX2_setFacts 7 rfl) ?_
  refine r_iconst C (oDec_at oX2_setFacts 8 rfl) (v := k1) (by rw [qk1]; rfl) ?_
  refine r_iload_n C (j := 1) (oDec_at oX2_setFacts 9 rfl) rfl rfl ?_
  refine r_callSi C miJ9_abs_0f7a4 mlX2_53 (ct_J9_abs_0f7a4 l E ((pI u1 34 k0.toNatClampNeg r2)) a1 ) (by decide) rfl rfl rfl (Nat.le_of_ble_eq_true rfl) (oDec_at oX2_setFacts 10 rfl) (fun r4 u3 pu3 fu3 => ?_)
  try dsimp only at pu3
  have rr4 := n_rng r4
  refine r_bipush C (oDec_at oX2_setFacts 11 rfl) (v := k7) (by rw [qk7]; rfl) ?_
  refine r_pc C 21 rfl ?_
  obtain ⟨v5, ev5⟩ : ∃ z : Int32, z = r4 - r4 / k7 * k7 := ⟨_, rfl⟩
  have hv5 := n_rem (k := 7) ev5 ek7 (by decide)
  have rv5 := n_rng v5
  refine r_irem C v5 (oDec_at oX2_setFacts 12 rfl) (n_ne0 (by omega)) ev5 ?_
  refine r_iast (n := 8) (lo := (-2147483648)) (hi := 2147483647) C rfl (by decide) rfl rfl ⟨by omega, by omega⟩ (by decide) rfl rfl rfl rfl (n_rng _) (oDec_at oX2_setFacts 13 rfl) ?_
  refine r_aload_n C (j := 0) (oDec_at oX2_setFacts 14 rfl) rfl rfl ?_
  refine r_getF (k := 2) (b := 34) C oCl2 rfl (by decide) flX2_18 rfl rfl rfl (oDec_at oX2_setFacts 15 rfl) ?_
  refine r_iconst C (oDec_at oX2_setFacts 16 rfl) (v := k2) (by rw [qk2]; rfl) ?_
  refine r_iload_n C (j := 1) (oDec_at oX2_setFacts 17 rfl) rfl rfl ?_
  refine r_pc C 29 rfl ?_
  refine r_if_ge C 36 (oDec_at oX2_setFacts 18 rfl) (by decide) (fun cd6 => ?_) (fun cd6 => ?_)
  · skip
    refine r_iconst C (oDec_at oX2_setFacts 21 rfl) (v := k0) (by rw [qk0]; rfl) ?_
    refine r_iast (n := 8) (lo := (-2147483648)) (hi := 2147483647) C rfl (by decide) rfl rfl ⟨by omega, by omega⟩ (by decide) rfl rfl rfl rfl (n_rng _) (oDec_at oX2_setFacts 22 rfl) ?_
    refine r_aload_n C (j := 0) (oDec_at oX2_setFacts 23 rfl) rfl rfl ?_
    refine r_getF (k := 2) (b := 34) C oCl2 rfl (by decide) flX2_18 rfl rfl rfl (oDec_at oX2_setFacts 24 rfl) ?_
    refine r_iconst C (oDec_at oX2_setFacts 25 rfl) (v := k3) (by rw [qk3]; rfl) ?_
    refine r_iload_n C (j := 3) (oDec_at oX2_setFacts 26 rfl) rfl rfl ?_
    refine r_pc C 44 rfl ?_
    refine r_bipush C (oDec_at oX2_setFacts 27 rfl) (v := k13) (by rw [qk13]; rfl) ?_
    obtain ⟨v7, ev7⟩ : ∃ z : Int32, z = a3 >>> (k13 &&& 31) := ⟨_, rfl⟩
    have rv7 := n_rng v7
    refine r_ishr C v7 (oDec_at oX2_setFacts 28 rfl) ev7 ?_
    refine r_iast (n := 8) (lo := (-2147483648)) (hi := 2147483647) C rfl (by decide) rfl rfl ⟨by omega, by omega⟩ (by decide) rfl rfl rfl rfl (n_rng _) (oDec_at oX2_setFacts 29 rfl) ?_
    refine r_aload_n C (j := 0) (oDec_at oX2_setFacts 30 rfl) rfl rfl ?_
    refine r_getF (k := 2) (b := 34) C oCl2 rfl (by decide) flX2_18 rfl rfl rfl (oDec_at oX2_setFacts 31 rfl) ?_
    refine r_iconst C (oDec_at oX2_setFacts 32 rfl) (v := k4) (by rw [qk4]; rfl) ?_
    refine r_pc C 53 rfl ?_
    refine r_iload_n C (j := 3) (oDec_at oX2_setFacts 33 rfl) rfl rfl ?_
    refine r_bipush C (oDec_at oX2_setFacts 34 rfl) (v := k7) (by rw [qk7]; rfl) ?_
    obtain ⟨v8, ev8⟩ : ∃ z : Int32, z = a3 >>> (k7 &&& 31) := ⟨_, rfl⟩
    have rv8 := n_rng v8
    refine r_ishr C v8 (oDec_at oX2_setFacts 35 rfl) ev8 ?_
    refine r_bipush C (oDec_at oX2_setFacts 36 rfl) (v := k63) (by rw [qk63]; rfl) ?_
    obtain ⟨v9, ev9⟩ : ∃ z : Int32, z = v8 &&& k63 := ⟨_, rfl⟩
    have hv9 := n_and ev9
    have rv9 := n_rng v9
    refine r_iand C v9 (oDec_at oX2_setFacts 37 rfl) ev9 ?_
    refine r_bipush C (oDec_at oX2_setFacts 38 rfl) (v := k32) (by rw [qk32]; rfl) ?_
    refine r_pc C 62 rfl ?_
    obtain ⟨v10, ev10⟩ : ∃ z : Int32, z = v9 - k32 := ⟨_, rfl⟩
    have rv10 := n_rng v10
    refine r_isub C v10 (oDec_at oX2_setFacts 39 rfl) ev10 ?_
    refine r_iast (n := 8) (lo := (-2147483648)) (hi := 2147483647) C rfl (by decide) rfl rfl ⟨by omega, by omega⟩ (by decide) rfl rfl rfl rfl (n_rng _) (oDec_at oX2_setFacts 40 rfl) ?_
    refine r_aload_n C (j := 0) (oDec_at oX2_setFacts 41 rfl) rfl rfl ?_
    refine r_getF (k := 2) (b := 34) C oCl2 rfl (by decide) flX2_18 rfl rfl rfl (oDec_at oX2_setFacts 42 rfl) ?_
    refine r_iconst C (oDec_at oX2_setFacts 43 rfl) (v := k5) (by rw [qk5]; rfl) ?_
    refine r_iload_n C (j := 3) (oDec_at oX2_setFacts 44 rfl) rfl rfl ?_
    refine r_pc C 70 rfl ?_
    refine r_iconst C (oDec_at oX2_setFacts 45 rfl) (v := k1) (by rw [qk1]; rfl) ?_
    obtain ⟨v11, ev11⟩ : ∃ z : Int32, z = a3 >>> (k1 &&& 31) := ⟨_, rfl⟩
    have rv11 := n_rng v11
    refine r_ishr C v11 (oDec_at oX2_setFacts 46 rfl) ev11 ?_
    refine r_bipush C (oDec_at oX2_setFacts 47 rfl) (v := k63) (by rw [qk63]; rfl) ?_
    obtain ⟨v12, ev12⟩ : ∃ z : Int32, z = v11 &&& k63 := ⟨_, rfl⟩
    have hv12 := n_and ev12
    have rv12 := n_rng v12
    refine r_iand C v12 (oDec_at oX2_setFacts 48 rfl) ev12 ?_
    refine r_bipush C (oDec_at oX2_setFacts 49 rfl) (v := k32) (by rw [qk32]; rfl) ?_
    obtain ⟨v13, ev13⟩ : ∃ z : Int32, z = v12 - k32 := ⟨_, rfl⟩
    have rv13 := n_rng v13
    refine r_isub C v13 (oDec_at oX2_setFacts 50 rfl) ev13 ?_
    refine r_pc C 78 rfl ?_
    refine r_iast (n := 8) (lo := (-2147483648)) (hi := 2147483647) C rfl (by decide) rfl rfl ⟨by omega, by omega⟩ (by decide) rfl rfl rfl rfl (n_rng _) (oDec_at oX2_setFacts 51 rfl) ?_
    refine r_aload_n C (j := 0) (oDec_at oX2_setFacts 52 rfl) rfl rfl ?_
    refine r_getF (k := 2) (b := 34) C oCl2 rfl (by decide) flX2_18 rfl rfl rfl (oDec_at oX2_setFacts 53 rfl) ?_
    refine r_bipush C (oDec_at oX2_setFacts 54 rfl) (v := k6) (by rw [qk6]; rfl) ?_
    refine r_iload_n C (j := 2) (oDec_at oX2_setFacts 55 rfl) rfl rfl ?_
    refine r_iast (n := 8) (lo := (-2147483648)) (hi := 2147483647) C rfl (by decide) rfl rfl ⟨by omega, by omega⟩ (by decide) rfl rfl rfl rfl (n_rng _) (oDec_at oX2_setFacts 56 rfl) ?_
    refine r_pc C 87 rfl ?_
    refine r_aload_n C (j := 0) (oDec_at oX2_setFacts 57 rfl) rfl rfl ?_
    refine r_getF (k := 2) (b := 34) C oCl2 rfl (by decide) flX2_18 rfl rfl rfl (oDec_at oX2_setFacts 58 rfl) ?_
    refine r_bipush C (oDec_at oX2_setFacts 59 rfl) (v := k7) (by rw [qk7]; rfl) ?_
    refine r_iload_n C (j := 3) (oDec_at oX2_setFacts 60 rfl) rfl rfl ?_
    refine r_iconst C (oDec_at oX2_setFacts 61 rfl) (v := k1) (by rw [qk1]; rfl) ?_
    obtain ⟨v14, ev14⟩ : ∃ z : Int32, z = a3 &&& k1 := ⟨_, rfl⟩
    have hv14 := n_and ev14
    have rv14 := n_rng v14
    refine r_iand C v14 (oDec_at oX2_setFacts 62 rfl) ev14 ?_
    refine r_pc C 96 rfl ?_
    refine r_iast (n := 8) (lo := (-2147483648)) (hi := 2147483647) C rfl (by decide) rfl rfl ⟨by omega, by omega⟩ (by decide) rfl rfl rfl rfl (n_rng _) (oDec_at oX2_setFacts 63 rfl) ?_
    exact r_vret C (oDec_at oX2_setFacts 64 rfl) ⟨rfl, trivial⟩
  · skip
    refine r_iconst C (oDec_at oX2_setFacts 19 rfl) (v := k1) (by rw [qk1]; rfl) ?_
    refine r_goto C (tgt := 37) (oDec_at oX2_setFacts 20 rfl) (by decide) ?_
    refine r_iast (n := 8) (lo := (-2147483648)) (hi := 2147483647) C rfl (by decide) rfl rfl ⟨by omega, by omega⟩ (by decide) rfl rfl rfl rfl (n_rng _) (oDec_at oX2_setFacts 22 rfl) ?_
    refine r_aload_n C (j := 0) (oDec_at oX2_setFacts 23 rfl) rfl rfl ?_
    refine r_getF (k := 2) (b := 34) C oCl2 rfl (by decide) flX2_18 rfl rfl rfl (oDec_at oX2_setFacts 24 rfl) ?_
    refine r_iconst C (oDec_at oX2_setFacts 25 rfl) (v := k3) (by rw [qk3]; rfl) ?_
    refine r_iload_n C (j := 3) (oDec_at oX2_setFacts 26 rfl) rfl rfl ?_
    refine r_pc C 44 rfl ?_
    refine r_bipush C (oDec_at oX2_setFacts 27 rfl) (v := k13) (by rw [qk13]; rfl) ?_
    obtain ⟨v15, ev15⟩ : ∃ z : Int32, z = a3 >>> (k13 &&& 31) := ⟨_, rfl⟩
    have rv15 := n_rng v15
    refine r_ishr C v15 (oDec_at oX2_setFacts 28 rfl) ev15 ?_
    refine r_iast (n := 8) (lo := (-2147483648)) (hi := 2147483647) C rfl (by decide) rfl rfl ⟨by omega, by omega⟩ (by decide) rfl rfl rfl rfl (n_rng _) (oDec_at oX2_setFacts 29 rfl) ?_
    refine r_aload_n C (j := 0) (oDec_at oX2_setFacts 30 rfl) rfl rfl ?_
    refine r_getF (k := 2) (b := 34) C oCl2 rfl (by decide) flX2_18 rfl rfl rfl (oDec_at oX2_setFacts 31 rfl) ?_
    refine r_iconst C (oDec_at oX2_setFacts 32 rfl) (v := k4) (by rw [qk4]; rfl) ?_
    refine r_pc C 53 rfl ?_
    refine r_iload_n C (j := 3) (oDec_at oX2_setFacts 33 rfl) rfl rfl ?_
    refine r_bipush C (oDec_at oX2_setFacts 34 rfl) (v := k7) (by rw [qk7]; rfl) ?_
    obtain ⟨v16, ev16⟩ : ∃ z : Int32, z = a3 >>> (k7 &&& 31) := ⟨_, rfl⟩
    have rv16 := n_rng v16
    refine r_ishr C v16 (oDec_at oX2_setFacts 35 rfl) ev16 ?_
    refine r_bipush C (oDec_at oX2_setFacts 36 rfl) (v := k63) (by rw [qk63]; rfl) ?_
    obtain ⟨v17, ev17⟩ : ∃ z : Int32, z = v16 &&& k63 := ⟨_, rfl⟩
    have hv17 := n_and ev17
    have rv17 := n_rng v17
    refine r_iand C v17 (oDec_at oX2_setFacts 37 rfl) ev17 ?_
    refine r_bipush C (oDec_at oX2_setFacts 38 rfl) (v := k32) (by rw [qk32]; rfl) ?_
    refine r_pc C 62 rfl ?_
    obtain ⟨v18, ev18⟩ : ∃ z : Int32, z = v17 - k32 := ⟨_, rfl⟩
    have rv18 := n_rng v18
    refine r_isub C v18 (oDec_at oX2_setFacts 39 rfl) ev18 ?_
    refine r_iast (n := 8) (lo := (-2147483648)) (hi := 2147483647) C rfl (by decide) rfl rfl ⟨by omega, by omega⟩ (by decide) rfl rfl rfl rfl (n_rng _) (oDec_at oX2_setFacts 40 rfl) ?_
    refine r_aload_n C (j := 0) (oDec_at oX2_setFacts 41 rfl) rfl rfl ?_
    refine r_getF (k := 2) (b := 34) C oCl2 rfl (by decide) flX2_18 rfl rfl rfl (oDec_at oX2_setFacts 42 rfl) ?_
    refine r_iconst C (oDec_at oX2_setFacts 43 rfl) (v := k5) (by rw [qk5]; rfl) ?_
    refine r_iload_n C (j := 3) (oDec_at oX2_setFacts 44 rfl) rfl rfl ?_
    refine r_pc C 70 rfl ?_
    refine r_iconst C (oDec_at oX2_setFacts 45 rfl) (v := k1) (by rw [qk1]; rfl) ?_
    obtain ⟨v19, ev19⟩ : ∃ z : Int32, z = a3 >>> (k1 &&& 31) := ⟨_, rfl⟩
    have rv19 := n_rng v19
    refine r_ishr C v19 (oDec_at oX2_setFacts 46 rfl) ev19 ?_
    refine r_bipush C (oDec_at oX2_setFacts 47 rfl) (v := k63) (by rw [qk63]; rfl) ?_
    obtain ⟨v20, ev20⟩ : ∃ z : Int32, z = v19 &&& k63 := ⟨_, rfl⟩
    have hv20 := n_and ev20
    have rv20 := n_rng v20
    refine r_iand C v20 (oDec_at oX2_setFacts 48 rfl) ev20 ?_
    refine r_bipush C (oDec_at oX2_setFacts 49 rfl) (v := k32) (by rw [qk32]; rfl) ?_
    obtain ⟨v21, ev21⟩ : ∃ z : Int32, z = v20 - k32 := ⟨_, rfl⟩
    have rv21 := n_rng v21
    refine r_isub C v21 (oDec_at oX2_setFacts 50 rfl) ev21 ?_
    refine r_pc C 78 rfl ?_
    refine r_iast (n := 8) (lo := (-2147483648)) (hi := 2147483647) C rfl (by decide) rfl rfl ⟨by omega, by omega⟩ (by decide) rfl rfl rfl rfl (n_rng _) (oDec_at oX2_setFacts 51 rfl) ?_
    refine r_aload_n C (j := 0) (oDec_at oX2_setFacts 52 rfl) rfl rfl ?_
    refine r_getF (k := 2) (b := 34) C oCl2 rfl (by decide) flX2_18 rfl rfl rfl (oDec_at oX2_setFacts 53 rfl) ?_
    refine r_bipush C (oDec_at oX2_setFacts 54 rfl) (v := k6) (by rw [qk6]; rfl) ?_
    refine r_iload_n C (j := 2) (oDec_at oX2_setFacts 55 rfl) rfl rfl ?_
    refine r_iast (n := 8) (lo := (-2147483648)) (hi := 2147483647) C rfl (by decide) rfl rfl ⟨by omega, by omega⟩ (by decide) rfl rfl rfl rfl (n_rng _) (oDec_at oX2_setFacts 56 rfl) ?_
    refine r_pc C 87 rfl ?_
    refine r_aload_n C (j := 0) (oDec_at oX2_setFacts 57 rfl) rfl rfl ?_
    refine r_getF (k := 2) (b := 34) C oCl2 rfl (by decide) flX2_18 rfl rfl rfl (oDec_at oX2_setFacts 58 rfl) ?_
    refine r_bipush C (oDec_at oX2_setFacts 59 rfl) (v := k7) (by rw [qk7]; rfl) ?_
    refine r_iload_n C (j := 3) (oDec_at oX2_setFacts 60 rfl) rfl rfl ?_
    refine r_iconst C (oDec_at oX2_setFacts 61 rfl) (v := k1) (by rw [qk1]; rfl) ?_
    obtain ⟨v22, ev22⟩ : ∃ z : Int32, z = a3 &&& k1 := ⟨_, rfl⟩
    have hv22 := n_and ev22
    have rv22 := n_rng v22
    refine r_iand C v22 (oDec_at oX2_setFacts 62 rfl) ev22 ?_
    refine r_pc C 96 rfl ?_
    refine r_iast (n := 8) (lo := (-2147483648)) (hi := 2147483647) C rfl (by decide) rfl rfl ⟨by omega, by omega⟩ (by decide) rfl rfl rfl rfl (n_rng _) (oDec_at oX2_setFacts 63 rfl) ?_
    exact r_vret C (oDec_at oX2_setFacts 64 rfl) ⟨rfl, trivial⟩
set_option maxHeartbeats 4000000 in
set_option maxRecDepth 100000 in
theorem ct_X2_verdict (l : Launch) (E : oE) (s : oS) (a2 : Int32) (a3 : Int32)  : oMet l 4 yX2_verdict cX2_verdict 11 (some .int) [(24, 9999), (25, 9999), (26, 9999), (27, 9999)] E s [.ref (oad E 31), .ref (oad E 35), .int a2, .int a3] (oPi (fun r u => True)) := by
  refine oMet.of (lv := [(0, .ref (oad E 31)), (1, .ref (oad E 35)), (2, .int a2), (3, .int a3)]) (by decide +kernel) (Nat.le_of_ble_eq_true rfl) rfl (fun J C hT => ?_)
  have C : oC l 4 cX2_verdict RX2 11 (some .int) [(24, 9999), (25, 9999), (26, 9999), (27, 9999)] E s (oPi (fun r u => True)) J := C
  obtain ⟨km1640531535, qkm1640531535⟩ : ∃ z : Int32, z = (-1640531535) := ⟨_, rfl⟩
  have ekm1640531535 : km1640531535.toInt = (-1640531535) := by rw [qkm1640531535]; rfl
  obtain ⟨km1000000000, qkm1000000000⟩ : ∃ z : Int32, z = (-1000000000) := ⟨_, rfl⟩
  have ekm1000000000 : km1000000000.toInt = (-1000000000) := by rw [qkm1000000000]; rfl
  obtain ⟨k0, qk0⟩ : ∃ z : Int32, z = 0 := ⟨_, rfl⟩
  have ek0 : k0.toInt = 0 := by rw [qk0]; rfl
  obtain ⟨k1, qk1⟩ : ∃ z : Int32, z = 1 := ⟨_, rfl⟩
  have ek1 : k1.toInt = 1 := by rw [qk1]; rfl
  obtain ⟨k7, qk7⟩ : ∃ z : Int32, z = 7 := ⟨_, rfl⟩
  have ek7 : k7.toInt = 7 := by rw [qk7]; rfl
  obtain ⟨k8, qk8⟩ : ∃ z : Int32, z = 8 := ⟨_, rfl⟩
  have ek8 : k8.toInt = 8 := by rw [qk8]; rfl
  obtain ⟨k17, qk17⟩ : ∃ z : Int32, z = 17 := ⟨_, rfl⟩
  have ek17 : k17.toInt = 17 := by rw [qk17]; rfl
  obtain ⟨k20, qk20⟩ : ∃ z : Int32, z = 20 := ⟨_, rfl⟩
  have ek20 : k20.toInt = 20 := by rw [qk20]; rfl
  obtain ⟨k48, qk48⟩ : ∃ z : Int32, z = 48 := ⟨_, rfl⟩
  have ek48 : k48.toInt = 48 := by rw [qk48]; rfl
  obtain ⟨k128, qk128⟩ : ∃ z : Int32, z = 128 := ⟨_, rfl⟩
  have ek128 : k128.toInt = 128 := by rw [qk128]; rfl
  have rg2 := n_rng a2
  have rg3 := n_rng a3
  have key : ∀ n : Nat, (∀ (t : oS) (x7 : Int32) (x8 : Int32) (x9 : Int32) (x10 : Int32), (0 ≤ x8.toInt ∧ x8.toInt ≤ 4095) → (0 ≤ x10.toInt ∧ x10.toInt ≤ 12) → 13 - x10.toInt ≤ (n : Int) → J t 138 [(0, .ref (oad E 31)), (7, .int x7), (8, .int x8), (9, .int x9), (10, .int x10)] []) := by
    intro n
    induction n using Nat.strongRecOn with
    | _ n ih =>
      skip
      · intro t x7 x8 x9 x10  iv0 iv1 hmu
        have rx7 := n_rng x7
        have rx8 := n_rng x8
        have rx9 := n_rng x9
        have rx10 := n_rng x10
        refine r_iload C (j := 4) (oDec_at oX2_verdict 78 rfl) rfl ?_
        refine r_aload_n C (j := 0) (oDec_at oX2_verdict 79 rfl) rfl rfl ?_
        refine r_getS (k := 3) (q2 := 0) C oCl2 rfl (by decide) flX2_25 rfl rfl rfl ks1 (oDec_at oX2_verdict 80 rfl) (fun b1 rb1 mb1 hkb1 => ?_)
        obtain ⟨v2, ev2⟩ : ∃ z : Int32, (t).1 b1 7 = z := ⟨_, rfl⟩
        have gv2 : (t.1 b1 7).toInt = v2.toInt := congrArg Int32.toInt (ev2)
        refine r_getiN (k := 7) (lo := 0) (hi := 12) C v2 oCl0 hkb1 (by decide) flX2_35 rfl rfl (ev2) rfl rfl (oDec_at oX2_verdict 81 rfl) (fun b3 b3h => ?_)
        refine r_icmp_ge C 185 (oDec_at oX2_verdict 82 rfl) (by decide) (fun cd4 => ?_) (fun cd4 => ?_)
        · skip
          refine r_aload_n C (j := 0) (oDec_at oX2_verdict 100 rfl) rfl rfl ?_
          refine r_getF (k := 0) (b := 32) C oCl2 rfl (by decide) flX2_11 rfl rfl rfl (oDec_at oX2_verdict 101 rfl) ?_
          refine r_iload C (j := 2) (oDec_at oX2_verdict 102 rfl) rfl ?_
          refine r_iload C (j := 1) (oDec_at oX2_verdict 103 rfl) rfl ?_
          refine r_iast (n := 4096) (lo := (-2147483648)) (hi := 2147483647) C rfl (by decide) rfl rfl ⟨by omega, by omega⟩ (by decide) rfl rfl rfl rfl (n_rng _) (oDec_at oX2_verdict 104 rfl) ?_
          refine r_aload_n C (j := 0) (oDec_at oX2_verdict 105 rfl) rfl rfl ?_
          refine r_pc C 195 rfl ?_
          refine r_getF (k := 1) (b := 33) C oCl2 rfl (by decide) flX2_15 rfl rfl rfl (oDec_at oX2_verdict 106 rfl) ?_
          refine r_iload C (j := 2) (oDec_at oX2_verdict 107 rfl) rfl ?_
          refine r_iload C (j := 3) (oDec_at oX2_verdict 108 rfl) rfl ?_
          refine r_iast (n := 4096) (lo := (-2147483648)) (hi := 2147483647) C rfl (by decide) rfl rfl ⟨by omega, by omega⟩ (by decide) rfl rfl rfl rfl (n_rng _) (oDec_at oX2_verdict 109 rfl) ?_
          refine r_aload_n C (j := 0) (oDec_at oX2_verdict 110 rfl) rfl rfl ?_
          refine r_getF (k := 1) (b := 33) C oCl2 rfl (by decide) flX2_15 rfl rfl rfl (oDec_at oX2_verdict 111 rfl) ?_
          refine r_pc C 207 rfl ?_
          refine r_iload C (j := 2) (oDec_at oX2_verdict 112 rfl) rfl ?_
          obtain ⟨v5, ev5⟩ : ∃ z : Int32, ((pI (pI t 32 x8.toNatClampNeg x7) 33 x8.toNatClampNeg x9)).1 33 x8.toNatClampNeg = z := ⟨_, rfl⟩
          have rv5 := n_rng v5
          refine r_iald (n := 4096) (lo := (-2147483648)) (hi := 2147483647) C v5 rfl (by decide) rfl rfl ⟨by omega, by omega⟩ (by decide) ev5 rfl rfl (oDec_at oX2_verdict 113 rfl) (fun _ _ => ?_)
          exact r_iret C (oDec_at oX2_verdict 114 rfl) ⟨_, rfl, trivial⟩
        · skip
          refine r_iload C (j := 3) (oDec_at oX2_verdict 83 rfl) rfl ?_
          refine r_aload_n C (j := 0) (oDec_at oX2_verdict 84 rfl) rfl rfl ?_
          refine r_getK (k := 3) (b := b1) C oCl2 rfl (by decide) flX2_25 rfl rfl (rb1) (oDec_at oX2_verdict 85 rfl) ?_
          refine r_iload C (j := 4) (oDec_at oX2_verdict 86 rfl) rfl ?_
          refine r_aload_n C (j := 0) (oDec_at oX2_verdict 87 rfl) rfl rfl ?_
          refine r_getF (k := 2) (b := 34) C oCl2 rfl (by decide) flX2_18 rfl rfl rfl (oDec_at oX2_verdict 88 rfl) ?_
          refine r_callVi C oCl0 hkb1 miX0_holds mlX2_67 (ct_X0_holds l E (t) b1 hkb1 x10 34 27 8 rfl (by decide) (by decide) rfl rfl (by omega)) (by decide) rfl rfl rfl (Nat.le_of_ble_eq_true rfl) (oDec_at oX2_verdict 89 rfl) (fun r9 u8 pu8 fu8 => ?_)
          try dsimp only at pu8
          have rr9 := n_rng r9
          refine r_pc C 165 rfl ?_
          refine r_if_eq C 175 (oDec_at oX2_verdict 90 rfl) (by decide) (fun cd10 => ?_) (fun cd10 => ?_)
          · skip
            refine r_iconst C (oDec_at oX2_verdict 95 rfl) (v := k0) (by rw [qk0]; rfl) ?_
            obtain ⟨v11, ev11⟩ : ∃ z : Int32, z = x9 ||| k0 := ⟨_, rfl⟩
            have rv11 := n_rng v11
            refine r_ior C v11 (oDec_at oX2_verdict 96 rfl) ev11 ?_
            refine r_istore C (lv' := [(0, .ref (oad E 31)), (7, .int x7), (8, .int x8), (9, .int v11), (10, .int x10)]) [1, 2, 3, 0, 4] (oDec_at oX2_verdict 97 rfl) (by decide) rfl ?_
            obtain ⟨v12, ev12⟩ : ∃ z : Int32, x10 + Int32.ofInt 1 = z := ⟨_, rfl⟩
            have hv12 : v12.toInt = x10.toInt + 1 := n_inc ev12 (by decide) (by omega) (by omega)
            refine r_iinc C (j := 4) (lv' := [(0, .ref (oad E 31)), (7, .int x7), (8, .int x8), (9, .int v11), (10, .int v12)]) v12 [1, 2, 3, 4, 0] (oDec_at oX2_verdict 98 rfl) rfl ev12 (by decide) rfl ?_
            refine r_goto C (tgt := 138) (oDec_at oX2_verdict 99 rfl) (by decide) ?_
            exact (ih (n - 1) (by omega)) (u8) x7 x8 v11 v12  (by omega) (by omega) (by omega)
          · skip
            refine r_iconst C (oDec_at oX2_verdict 91 rfl) (v := k1) (by rw [qk1]; rfl) ?_
            refine r_iload C (j := 4) (oDec_at oX2_verdict 92 rfl) rfl ?_
            obtain ⟨v13, ev13⟩ : ∃ z : Int32, z = k1 <<< (x10 &&& 31) := ⟨_, rfl⟩
            have rv13 := n_rng v13
            refine r_ishl C v13 (oDec_at oX2_verdict 93 rfl) ev13 ?_
            refine r_goto C (tgt := 176) (oDec_at oX2_verdict 94 rfl) (by decide) ?_
            obtain ⟨v14, ev14⟩ : ∃ z : Int32, z = x9 ||| v13 := ⟨_, rfl⟩
            have rv14 := n_rng v14
            refine r_ior C v14 (oDec_at oX2_verdict 96 rfl) ev14 ?_
            refine r_istore C (lv' := [(0, .ref (oad E 31)), (7, .int x7), (8, .int x8), (9, .int v14), (10, .int x10)]) [1, 2, 3, 0, 4] (oDec_at oX2_verdict 97 rfl) (by decide) rfl ?_
            obtain ⟨v15, ev15⟩ : ∃ z : Int32, x10 + Int32.ofInt 1 = z := ⟨_, rfl⟩
            have hv15 : v15.toInt = x10.toInt + 1 := n_inc ev15 (by decide) (by omega) (by omega)
            refine r_iinc C (j := 4) (lv' := [(0, .ref (oad E 31)), (7, .int x7), (8, .int x8), (9, .int v14), (10, .int v15)]) v15 [1, 2, 3, 4, 0] (oDec_at oX2_verdict 98 rfl) rfl ev15 (by decide) rfl ?_
            refine r_pc C 182 rfl ?_
            refine r_goto C (tgt := 138) (oDec_at oX2_verdict 99 rfl) (by decide) ?_
            exact (ih (n - 1) (by omega)) (u8) x7 x8 v14 v15  (by omega) (by omega) (by omega)
  refine r_aload_n C (j := 0) (oDec_at oX2_verdict 0 rfl) rfl rfl ?_
  refine r_getS (k := 3) (q2 := 0) C oCl2 rfl (by decide) flX2_25 rfl rfl rfl ks1 (oDec_at oX2_verdict 1 rfl) (fun b16 rb16 mb16 hkb16 => ?_)
  obtain ⟨v17, ev17⟩ : ∃ z : Int32, (s).1 b16 7 = z := ⟨_, rfl⟩
  have gv17 : (s.1 b16 7).toInt = v17.toInt := congrArg Int32.toInt (ev17)
  refine r_getiN (k := 7) (lo := 0) (hi := 12) C v17 oCl0 hkb16 (by decide) flX2_35 rfl rfl (ev17) rfl rfl (oDec_at oX2_verdict 2 rfl) (fun b18 b18h => ?_)
  refine r_if_eq C 28 (oDec_at oX2_verdict 3 rfl) (by decide) (fun cd19 => ?_) (fun cd19 => ?_)
  · skip
    refine r_iconst C (oDec_at oX2_verdict 13 rfl) (v := k0) (by rw [qk0]; rfl) ?_
    exact r_iret C (oDec_at oX2_verdict 14 rfl) ⟨_, rfl, trivial⟩
  · skip
    refine r_iload_n C (j := 2) (oDec_at oX2_verdict 4 rfl) rfl rfl ?_
    refine r_if_lt C 28 (oDec_at oX2_verdict 5 rfl) (by decide) (fun cd20 => ?_) (fun cd20 => ?_)
    · skip
      refine r_iconst C (oDec_at oX2_verdict 13 rfl) (v := k0) (by rw [qk0]; rfl) ?_
      exact r_iret C (oDec_at oX2_verdict 14 rfl) ⟨_, rfl, trivial⟩
    · skip
      refine r_iload_n C (j := 2) (oDec_at oX2_verdict 6 rfl) rfl rfl ?_
      refine r_aload_n C (j := 1) (oDec_at oX2_verdict 7 rfl) rfl rfl ?_
      obtain ⟨v21, ev21⟩ : ∃ z : Int32, (s).1 35 6 = z := ⟨_, rfl⟩
      have gv21 : (s.1 35 6).toInt = v21.toInt := congrArg Int32.toInt (ev21)
      refine r_getiN (k := 6) (lo := 0) (hi := 48) C v21 oCl1 rfl (by decide) flX2_41 rfl rfl (ev21) rfl rfl (oDec_at oX2_verdict 8 rfl) (fun b22 b22h => ?_)
      refine r_icmp_ge C 28 (oDec_at oX2_verdict 9 rfl) (by decide) (fun cd23 => ?_) (fun cd23 => ?_)
      · skip
        refine r_iconst C (oDec_at oX2_verdict 13 rfl) (v := k0) (by rw [qk0]; rfl) ?_
        exact r_iret C (oDec_at oX2_verdict 14 rfl) ⟨_, rfl, trivial⟩
      · skip
        refine r_iload_n C (j := 2) (oDec_at oX2_verdict 10 rfl) rfl rfl ?_
        refine r_bipush C (oDec_at oX2_verdict 11 rfl) (v := k48) (by rw [qk48]; rfl) ?_
        refine r_icmp_lt C 30 (oDec_at oX2_verdict 12 rfl) (by decide) (fun cd24 => ?_) (fun cd24 => ?_)
        · skip
          refine r_aload_n C (j := 1) (oDec_at oX2_verdict 15 rfl) rfl rfl ?_
          refine r_getFN (k := 1) (b := 37) C oCl1 rfl (by decide) flX2_46 rfl rfl rfl (oDec_at oX2_verdict 16 rfl) ?_
          refine r_iload_n C (j := 2) (oDec_at oX2_verdict 17 rfl) rfl rfl ?_
          obtain ⟨v25, ev25⟩ : ∃ z : Int32, (s).1 37 a2.toNatClampNeg = z := ⟨_, rfl⟩
          have rv25 := n_rng v25
          refine r_iald (n := 48) (lo := (-2147483648)) (hi := 2147483647) C v25 rfl (by decide) rfl rfl ⟨by omega, by omega⟩ (by decide) ev25 rfl rfl (oDec_at oX2_verdict 18 rfl) (fun _ _ => ?_)
          refine r_iload_n C (j := 3) (oDec_at oX2_verdict 19 rfl) rfl rfl ?_
          obtain ⟨v27, ev27⟩ : ∃ z : Int32, z = v25 + a3 := ⟨_, rfl⟩
          have rv27 := n_rng v27
          refine r_iadd C v27 (oDec_at oX2_verdict 20 rfl) ev27 ?_
          refine r_pc C 38 rfl ?_
          refine r_istore C (lv' := [(0, .ref (oad E 31)), (1, .ref (oad E 35)), (2, .int a2), (3, .int a3), (4, .int v27)]) [1, 2, 3, 4, 0] (oDec_at oX2_verdict 21 rfl) (by decide) rfl ?_
          refine r_aload_n C (j := 1) (oDec_at oX2_verdict 22 rfl) rfl rfl ?_
          refine r_getFN (k := 2) (b := 38) C oCl1 rfl (by decide) flX2_49 rfl rfl rfl (oDec_at oX2_verdict 23 rfl) ?_
          refine r_iload_n C (j := 2) (oDec_at oX2_verdict 24 rfl) rfl rfl ?_
          obtain ⟨v28, ev28⟩ : ∃ z : Int32, (s).1 38 a2.toNatClampNeg = z := ⟨_, rfl⟩
          have rv28 := n_rng v28
          refine r_iald (n := 48) (lo := (-2147483648)) (hi := 2147483647) C v28 rfl (by decide) rfl rfl ⟨by omega, by omega⟩ (by decide) ev28 rfl rfl (oDec_at oX2_verdict 25 rfl) (fun _ _ => ?_)
          refine r_istore C (lv' := [(0, .ref (oad E 31)), (1, .ref (oad E 35)), (2, .int a2), (3, .int a3), (4, .int v27), (5, .int v28)]) [1, 2, 3, 4, 5, 0] (oDec_at oX2_verdict 26 rfl) (by decide) rfl ?_
          refine r_pc C 48 rfl ?_
          refine r_iload C (j := 5) (oDec_at oX2_verdict 27 rfl) rfl ?_
          refine r_ldc C (v := km1000000000) (by rw [qkm1000000000]; exact kcX2_52) (oDec_at oX2_verdict 28 rfl) ?_
          refine r_icmp_ne C 60 (oDec_at oX2_verdict 29 rfl) (by decide) (fun cd30 => ?_) (fun cd30 => ?_)
          · skip
            refine r_iload C (j := 5) (oDec_at oX2_verdict 32 rfl) rfl ?_
            refine r_iload_n C (j := 3) (oDec_at oX2_verdict 33 rfl) rfl rfl ?_
            obtain ⟨v31, ev31⟩ : ∃ z : Int32, z = v28 + a3 := ⟨_, rfl⟩
            have rv31 := n_rng v31
            refine r_iadd C v31 (oDec_at oX2_verdict 34 rfl) ev31 ?_
            refine r_callSi C miJ9_abs_0f7a4 mlX2_53 (ct_J9_abs_0f7a4 l E (s) v31 ) (by decide) rfl rfl rfl (Nat.le_of_ble_eq_true rfl) (oDec_at oX2_verdict 35 rfl) (fun r33 u32 pu32 fu32 => ?_)
            try dsimp only at pu32
            have rr33 := n_rng r33
            refine r_bipush C (oDec_at oX2_verdict 36 rfl) (v := k7) (by rw [qk7]; rfl) ?_
            obtain ⟨v34, ev34⟩ : ∃ z : Int32, z = r33 - r33 / k7 * k7 := ⟨_, rfl⟩
            have hv34 := n_rem (k := 7) ev34 ek7 (by decide)
            have rv34 := n_rng v34
            refine r_irem C v34 (oDec_at oX2_verdict 37 rfl) (n_ne0 (by omega)) ev34 ?_
            refine r_pc C 70 rfl ?_
            refine r_istore C (lv' := [(0, .ref (oad E 31)), (1, .ref (oad E 35)), (2, .int a2), (3, .int a3), (4, .int v27), (5, .int v28), (6, .int v34)]) [1, 2, 3, 4, 5, 6, 0] (oDec_at oX2_verdict 38 rfl) (by decide) rfl ?_
            refine r_iload C (j := 4) (oDec_at oX2_verdict 39 rfl) rfl ?_
            refine r_sipush C (oDec_at oX2_verdict 40 rfl) (v := k128) (by rw [qk128]; rfl) ?_
            obtain ⟨v35, ev35⟩ : ∃ z : Int32, z = v27 + k128 := ⟨_, rfl⟩
            have rv35 := n_rng v35
            refine r_iadd C v35 (oDec_at oX2_verdict 41 rfl) ev35 ?_
            refine r_bipush C (oDec_at oX2_verdict 42 rfl) (v := k8) (by rw [qk8]; rfl) ?_
            obtain ⟨v36, ev36⟩ : ∃ z : Int32, z = v35 * k8 := ⟨_, rfl⟩
            have rv36 := n_rng v36
            refine r_imul C v36 (oDec_at oX2_verdict 43 rfl) ev36 ?_
            refine r_pc C 81 rfl ?_
            refine r_iload C (j := 6) (oDec_at oX2_verdict 44 rfl) rfl ?_
            obtain ⟨v37, ev37⟩ : ∃ z : Int32, z = v36 + v34 := ⟨_, rfl⟩
            have rv37 := n_rng v37
            refine r_iadd C v37 (oDec_at oX2_verdict 45 rfl) ev37 ?_
            refine r_bipush C (oDec_at oX2_verdict 46 rfl) (v := k17) (by rw [qk17]; rfl) ?_
            obtain ⟨v38, ev38⟩ : ∃ z : Int32, z = v37 <<< (k17 &&& 31) := ⟨_, rfl⟩
            have rv38 := n_rng v38
            refine r_ishl C v38 (oDec_at oX2_verdict 47 rfl) ev38 ?_
            refine r_aload_n C (j := 1) (oDec_at oX2_verdict 48 rfl) rfl rfl ?_
            refine r_getFN (k := 3) (b := 39) C oCl1 rfl (by decide) flX2_59 rfl rfl rfl (oDec_at oX2_verdict 49 rfl) ?_
            refine r_pc C 91 rfl ?_
            refine r_iload_n C (j := 2) (oDec_at oX2_verdict 50 rfl) rfl rfl ?_
            obtain ⟨v39, ev39⟩ : ∃ z : Int32, (u32).1 39 a2.toNatClampNeg = z := ⟨_, rfl⟩
            have rv39 := n_rng v39
            refine r_iald (n := 48) (lo := (-2147483648)) (hi := 2147483647) C v39 rfl (by decide) rfl rfl ⟨by omega, by omega⟩ (by decide) ev39 rfl rfl (oDec_at oX2_verdict 51 rfl) (fun _ _ => ?_)
            obtain ⟨v41, ev41⟩ : ∃ z : Int32, z = v38 ||| v39 := ⟨_, rfl⟩
            have rv41 := n_rng v41
            refine r_ior C v41 (oDec_at oX2_verdict 52 rfl) ev41 ?_
            refine r_istore C (lv' := [(0, .ref (oad E 31)), (1, .ref (oad E 35)), (2, .int a2), (3, .int a3), (4, .int v27), (5, .int v28), (6, .int v34), (7, .int v41)]) [1, 2, 3, 4, 5, 6, 7, 0] (oDec_at oX2_verdict 53 rfl) (by decide) rfl ?_
            refine r_iload C (j := 7) (oDec_at oX2_verdict 54 rfl) rfl ?_
            refine r_ldc C (v := km1640531535) (by rw [qkm1640531535]; exact kcX2_62) (oDec_at oX2_verdict 55 rfl) ?_
            refine r_pc C 100 rfl ?_
            obtain ⟨v42, ev42⟩ : ∃ z : Int32, z = v41 * km1640531535 := ⟨_, rfl⟩
            have rv42 := n_rng v42
            refine r_imul C v42 (oDec_at oX2_verdict 56 rfl) ev42 ?_
            refine r_bipush C (oDec_at oX2_verdict 57 rfl) (v := k20) (by rw [qk20]; rfl) ?_
            obtain ⟨v43, ev43⟩ : ∃ z : Int32, (v42.toUInt32 >>> (k20.toUInt32 &&& Int32.toUInt32 31)).toInt32 = z := ⟨_, rfl⟩
            have rv43 := n_rng v43
            have hv43 := n_ushr 20 ev43 (by rw [qk20]; rfl) (by decide) 4096 (by decide)
            refine r_iushr C v43 (oDec_at oX2_verdict 58 rfl) ev43 ?_
            refine r_istore C (lv' := [(0, .ref (oad E 31)), (1, .ref (oad E 35)), (2, .int a2), (3, .int a3), (4, .int v27), (5, .int v28), (6, .int v34), (7, .int v41), (8, .int v43)]) [1, 2, 3, 4, 5, 6, 7, 8, 0] (oDec_at oX2_verdict 59 rfl) (by decide) rfl ?_
            refine r_aload_n C (j := 0) (oDec_at oX2_verdict 60 rfl) rfl rfl ?_
            refine r_getF (k := 0) (b := 32) C oCl2 rfl (by decide) flX2_11 rfl rfl rfl (oDec_at oX2_verdict 61 rfl) ?_
            refine r_pc C 110 rfl ?_
            refine r_iload C (j := 8) (oDec_at oX2_verdict 62 rfl) rfl ?_
            obtain ⟨v44, ev44⟩ : ∃ z : Int32, (u32).1 32 v43.toNatClampNeg = z := ⟨_, rfl⟩
            have rv44 := n_rng v44
            refine r_iald (n := 4096) (lo := (-2147483648)) (hi := 2147483647) C v44 rfl (by decide) rfl rfl ⟨by omega, by omega⟩ (by decide) ev44 rfl rfl (oDec_at oX2_verdict 63 rfl) (fun _ _ => ?_)
            refine r_iload C (j := 7) (oDec_at oX2_verdict 64 rfl) rfl ?_
            refine r_icmp_eq C 203 (oDec_at oX2_verdict 65 rfl) (by decide) (fun cd46 => ?_) (fun cd46 => ?_)
            · skip
              refine r_aload_n C (j := 0) (oDec_at oX2_verdict 110 rfl) rfl rfl ?_
              refine r_getF (k := 1) (b := 33) C oCl2 rfl (by decide) flX2_15 rfl rfl rfl (oDec_at oX2_verdict 111 rfl) ?_
              refine r_iload C (j := 8) (oDec_at oX2_verdict 112 rfl) rfl ?_
              obtain ⟨v47, ev47⟩ : ∃ z : Int32, (u32).1 33 v43.toNatClampNeg = z := ⟨_, rfl⟩
              have rv47 := n_rng v47
              refine r_iald (n := 4096) (lo := (-2147483648)) (hi := 2147483647) C v47 rfl (by decide) rfl rfl ⟨by omega, by omega⟩ (by decide) ev47 rfl rfl (oDec_at oX2_verdict 113 rfl) (fun _ _ => ?_)
              exact r_iret C (oDec_at oX2_verdict 114 rfl) ⟨_, rfl, trivial⟩
            · skip
              refine r_aload_n C (j := 0) (oDec_at oX2_verdict 66 rfl) rfl rfl ?_
              refine r_iload C (j := 4) (oDec_at oX2_verdict 67 rfl) rfl ?_
              refine r_iload C (j := 6) (oDec_at oX2_verdict 68 rfl) rfl ?_
              refine r_aload_n C (j := 1) (oDec_at oX2_verdict 69 rfl) rfl rfl ?_
              refine r_getFN (k := 3) (b := 39) C oCl1 rfl (by decide) flX2_59 rfl rfl rfl (oDec_at oX2_verdict 70 rfl) ?_
              refine r_iload_n C (j := 2) (oDec_at oX2_verdict 71 rfl) rfl rfl ?_
              refine r_pc C 128 rfl ?_
              obtain ⟨v49, ev49⟩ : ∃ z : Int32, (u32).1 39 a2.toNatClampNeg = z := ⟨_, rfl⟩
              have rv49 := n_rng v49
              refine r_iald (n := 48) (lo := (-2147483648)) (hi := 2147483647) C v49 rfl (by decide) rfl rfl ⟨by omega, by omega⟩ (by decide) ev49 rfl rfl (oDec_at oX2_verdict 72 rfl) (fun _ _ => ?_)
              refine r_callVv C oCl2 rfl miX2_setFacts mlX2_63 (ct_X2_setFacts l E (u32) v27 v34 v49 ) (by decide) rfl rfl rfl (Nat.le_of_ble_eq_true rfl) (oDec_at oX2_verdict 73 rfl) (fun u51 pu51 fu51 => ?_)
              try dsimp only at pu51
              refine r_iconst C (oDec_at oX2_verdict 74 rfl) (v := k0) (by rw [qk0]; rfl) ?_
              refine r_istore C (lv' := [(0, .ref (oad E 31)), (1, .ref (oad E 35)), (2, .int a2), (3, .int a3), (4, .int v27), (5, .int v28), (6, .int v34), (7, .int v41), (8, .int v43), (9, .int k0)]) [1, 2, 3, 4, 5, 6, 7, 8, 9, 0] (oDec_at oX2_verdict 75 rfl) (by decide) rfl ?_
              refine r_iconst C (oDec_at oX2_verdict 76 rfl) (v := k0) (by rw [qk0]; rfl) ?_
              refine r_istore C (lv' := [(0, .ref (oad E 31)), (1, .ref (oad E 35)), (2, .int a2), (3, .int a3), (4, .int v27), (5, .int v28), (6, .int v34), (7, .int v41), (8, .int v43), (9, .int k0), (10, .int k0)]) [1, 2, 3, 4, 5, 6, 7, 8, 9, 10, 0] (oDec_at oX2_verdict 77 rfl) (by decide) rfl ?_
              refine r_pick C [0, 7, 8, 9, 10] rfl ?_
              exact (key (13 - k0.toInt).toNat) (u51) v41 v43 k0 k0  (by omega) (by omega) (by omega)
          · skip
            refine r_bipush C (oDec_at oX2_verdict 30 rfl) (v := k7) (by rw [qk7]; rfl) ?_
            refine r_goto C (tgt := 70) (oDec_at oX2_verdict 31 rfl) (by decide) ?_
            refine r_istore C (lv' := [(0, .ref (oad E 31)), (1, .ref (oad E 35)), (2, .int a2), (3, .int a3), (4, .int v27), (5, .int v28), (6, .int k7)]) [1, 2, 3, 4, 5, 6, 0] (oDec_at oX2_verdict 38 rfl) (by decide) rfl ?_
            refine r_iload C (j := 4) (oDec_at oX2_verdict 39 rfl) rfl ?_
            refine r_sipush C (oDec_at oX2_verdict 40 rfl) (v := k128) (by rw [qk128]; rfl) ?_
            obtain ⟨v53, ev53⟩ : ∃ z : Int32, z = v27 + k128 := ⟨_, rfl⟩
            have rv53 := n_rng v53
            refine r_iadd C v53 (oDec_at oX2_verdict 41 rfl) ev53 ?_
            refine r_bipush C (oDec_at oX2_verdict 42 rfl) (v := k8) (by rw [qk8]; rfl) ?_
            refine r_pc C 80 rfl ?_
            obtain ⟨v54, ev54⟩ : ∃ z : Int32, z = v53 * k8 := ⟨_, rfl⟩
            have rv54 := n_rng v54
            refine r_imul C v54 (oDec_at oX2_verdict 43 rfl) ev54 ?_
            refine r_iload C (j := 6) (oDec_at oX2_verdict 44 rfl) rfl ?_
            obtain ⟨v55, ev55⟩ : ∃ z : Int32, z = v54 + k7 := ⟨_, rfl⟩
            have rv55 := n_rng v55
            refine r_iadd C v55 (oDec_at oX2_verdict 45 rfl) ev55 ?_
            refine r_bipush C (oDec_at oX2_verdict 46 rfl) (v := k17) (by rw [qk17]; rfl) ?_
            obtain ⟨v56, ev56⟩ : ∃ z : Int32, z = v55 <<< (k17 &&& 31) := ⟨_, rfl⟩
            have rv56 := n_rng v56
            refine r_ishl C v56 (oDec_at oX2_verdict 47 rfl) ev56 ?_
            refine r_aload_n C (j := 1) (oDec_at oX2_verdict 48 rfl) rfl rfl ?_
            refine r_pc C 88 rfl ?_
            refine r_getFN (k := 3) (b := 39) C oCl1 rfl (by decide) flX2_59 rfl rfl rfl (oDec_at oX2_verdict 49 rfl) ?_
            refine r_iload_n C (j := 2) (oDec_at oX2_verdict 50 rfl) rfl rfl ?_
            obtain ⟨v57, ev57⟩ : ∃ z : Int32, (s).1 39 a2.toNatClampNeg = z := ⟨_, rfl⟩
            have rv57 := n_rng v57
            refine r_iald (n := 48) (lo := (-2147483648)) (hi := 2147483647) C v57 rfl (by decide) rfl rfl ⟨by omega, by omega⟩ (by decide) ev57 rfl rfl (oDec_at oX2_verdict 51 rfl) (fun _ _ => ?_)
            obtain ⟨v59, ev59⟩ : ∃ z : Int32, z = v56 ||| v57 := ⟨_, rfl⟩
            have rv59 := n_rng v59
            refine r_ior C v59 (oDec_at oX2_verdict 52 rfl) ev59 ?_
            refine r_istore C (lv' := [(0, .ref (oad E 31)), (1, .ref (oad E 35)), (2, .int a2), (3, .int a3), (4, .int v27), (5, .int v28), (6, .int k7), (7, .int v59)]) [1, 2, 3, 4, 5, 6, 7, 0] (oDec_at oX2_verdict 53 rfl) (by decide) rfl ?_
            refine r_iload C (j := 7) (oDec_at oX2_verdict 54 rfl) rfl ?_
            refine r_pc C 98 rfl ?_
            refine r_ldc C (v := km1640531535) (by rw [qkm1640531535]; exact kcX2_62) (oDec_at oX2_verdict 55 rfl) ?_
            obtain ⟨v60, ev60⟩ : ∃ z : Int32, z = v59 * km1640531535 := ⟨_, rfl⟩
            have rv60 := n_rng v60
            refine r_imul C v60 (oDec_at oX2_verdict 56 rfl) ev60 ?_
            refine r_bipush C (oDec_at oX2_verdict 57 rfl) (v := k20) (by rw [qk20]; rfl) ?_
            obtain ⟨v61, ev61⟩ : ∃ z : Int32, (v60.toUInt32 >>> (k20.toUInt32 &&& Int32.toUInt32 31)).toInt32 = z := ⟨_, rfl⟩
            have rv61 := n_rng v61
            have hv61 := n_ushr 20 ev61 (by rw [qk20]; rfl) (by decide) 4096 (by decide)
            refine r_iushr C v61 (oDec_at oX2_verdict 58 rfl) ev61 ?_
            refine r_istore C (lv' := [(0, .ref (oad E 31)), (1, .ref (oad E 35)), (2, .int a2), (3, .int a3), (4, .int v27), (5, .int v28), (6, .int k7), (7, .int v59), (8, .int v61)]) [1, 2, 3, 4, 5, 6, 7, 8, 0] (oDec_at oX2_verdict 59 rfl) (by decide) rfl ?_
            refine r_aload_n C (j := 0) (oDec_at oX2_verdict 60 rfl) rfl rfl ?_
            refine r_pc C 107 rfl ?_
            refine r_getF (k := 0) (b := 32) C oCl2 rfl (by decide) flX2_11 rfl rfl rfl (oDec_at oX2_verdict 61 rfl) ?_
            refine r_iload C (j := 8) (oDec_at oX2_verdict 62 rfl) rfl ?_
            obtain ⟨v62, ev62⟩ : ∃ z : Int32, (s).1 32 v61.toNatClampNeg = z := ⟨_, rfl⟩
            have rv62 := n_rng v62
            refine r_iald (n := 4096) (lo := (-2147483648)) (hi := 2147483647) C v62 rfl (by decide) rfl rfl ⟨by omega, by omega⟩ (by decide) ev62 rfl rfl (oDec_at oX2_verdict 63 rfl) (fun _ _ => ?_)
            refine r_iload C (j := 7) (oDec_at oX2_verdict 64 rfl) rfl ?_
            refine r_icmp_eq C 203 (oDec_at oX2_verdict 65 rfl) (by decide) (fun cd64 => ?_) (fun cd64 => ?_)
            · skip
              refine r_aload_n C (j := 0) (oDec_at oX2_verdict 110 rfl) rfl rfl ?_
              refine r_getF (k := 1) (b := 33) C oCl2 rfl (by decide) flX2_15 rfl rfl rfl (oDec_at oX2_verdict 111 rfl) ?_
              refine r_iload C (j := 8) (oDec_at oX2_verdict 112 rfl) rfl ?_
              obtain ⟨v65, ev65⟩ : ∃ z : Int32, (s).1 33 v61.toNatClampNeg = z := ⟨_, rfl⟩
              have rv65 := n_rng v65
              refine r_iald (n := 4096) (lo := (-2147483648)) (hi := 2147483647) C v65 rfl (by decide) rfl rfl ⟨by omega, by omega⟩ (by decide) ev65 rfl rfl (oDec_at oX2_verdict 113 rfl) (fun _ _ => ?_)
              exact r_iret C (oDec_at oX2_verdict 114 rfl) ⟨_, rfl, trivial⟩
            · skip
              refine r_aload_n C (j := 0) (oDec_at oX2_verdict 66 rfl) rfl rfl ?_
              refine r_iload C (j := 4) (oDec_at oX2_verdict 67 rfl) rfl ?_
              refine r_iload C (j := 6) (oDec_at oX2_verdict 68 rfl) rfl ?_
              refine r_aload_n C (j := 1) (oDec_at oX2_verdict 69 rfl) rfl rfl ?_
              refine r_getFN (k := 3) (b := 39) C oCl1 rfl (by decide) flX2_59 rfl rfl rfl (oDec_at oX2_verdict 70 rfl) ?_
              refine r_iload_n C (j := 2) (oDec_at oX2_verdict 71 rfl) rfl rfl ?_
              refine r_pc C 128 rfl ?_
              obtain ⟨v67, ev67⟩ : ∃ z : Int32, (s).1 39 a2.toNatClampNeg = z := ⟨_, rfl⟩
              have rv67 := n_rng v67
              refine r_iald (n := 48) (lo := (-2147483648)) (hi := 2147483647) C v67 rfl (by decide) rfl rfl ⟨by omega, by omega⟩ (by decide) ev67 rfl rfl (oDec_at oX2_verdict 72 rfl) (fun _ _ => ?_)
              refine r_callVv C oCl2 rfl miX2_setFacts mlX2_63 (ct_X2_setFacts l E (s) v27 k7 v67 ) (by decide) rfl rfl rfl (Nat.le_of_ble_eq_true rfl) (oDec_at oX2_verdict 73 rfl) (fun u69 pu69 fu69 => ?_)
              try dsimp only at pu69
              refine r_iconst C (oDec_at oX2_verdict 74 rfl) (v := k0) (by rw [qk0]; rfl) ?_
              refine r_istore C (lv' := [(0, .ref (oad E 31)), (1, .ref (oad E 35)), (2, .int a2), (3, .int a3), (4, .int v27), (5, .int v28), (6, .int k7), (7, .int v59), (8, .int v61), (9, .int k0)]) [1, 2, 3, 4, 5, 6, 7, 8, 9, 0] (oDec_at oX2_verdict 75 rfl) (by decide) rfl ?_
              refine r_iconst C (oDec_at oX2_verdict 76 rfl) (v := k0) (by rw [qk0]; rfl) ?_
              refine r_istore C (lv' := [(0, .ref (oad E 31)), (1, .ref (oad E 35)), (2, .int a2), (3, .int a3), (4, .int v27), (5, .int v28), (6, .int k7), (7, .int v59), (8, .int v61), (9, .int k0), (10, .int k0)]) [1, 2, 3, 4, 5, 6, 7, 8, 9, 10, 0] (oDec_at oX2_verdict 77 rfl) (by decide) rfl ?_
              refine r_pick C [0, 7, 8, 9, 10] rfl ?_
              exact (key (13 - k0.toInt).toNat) (u69) v59 v61 k0 k0  (by omega) (by omega) (by omega)
        · skip
          refine r_iconst C (oDec_at oX2_verdict 13 rfl) (v := k0) (by rw [qk0]; rfl) ?_
          exact r_iret C (oDec_at oX2_verdict 14 rfl) ⟨_, rfl, trivial⟩
set_option maxHeartbeats 4000000 in
set_option maxRecDepth 100000 in
theorem ct_X2_nextBroken (l : Launch) (E : oE) (s : oS) (a2 : Int32)  : oMet l 5 yX2_nextBroken cX2_nextBroken 4 (some .int) [(24, 9999), (25, 9999), (26, 9999), (27, 9999)] E s [.ref (oad E 31), .ref (oad E 35), .int a2] (oPi (fun r u => True)) := by
  refine oMet.of (lv := [(0, .ref (oad E 31)), (1, .ref (oad E 35)), (2, .int a2)]) (by decide +kernel) (Nat.le_of_ble_eq_true rfl) rfl (fun J C hT => ?_)
  have C : oC l 5 cX2_nextBroken RX2 4 (some .int) [(24, 9999), (25, 9999), (26, 9999), (27, 9999)] E s (oPi (fun r u => True)) J := C
  obtain ⟨km1, qkm1⟩ : ∃ z : Int32, z = (-1) := ⟨_, rfl⟩
  have ekm1 : km1.toInt = (-1) := by rw [qkm1]; rfl
  obtain ⟨k0, qk0⟩ : ∃ z : Int32, z = 0 := ⟨_, rfl⟩
  have ek0 : k0.toInt = 0 := by rw [qk0]; rfl
  have rg2 := n_rng a2
  have key : ∀ n : Nat, (∀ (t : oS) (x3 : Int32), 2147483648 - x3.toInt ≤ (n : Int) → J t 2 [(0, .ref (oad E 31)), (1, .ref (oad E 35)), (3, .int x3)] []) := by
    intro n
    induction n using Nat.strongRecOn with
    | _ n ih =>
      skip
      · intro t x3   hmu
        have rx3 := n_rng x3
        refine r_iload_n C (j := 2) (oDec_at oX2_nextBroken 2 rfl) rfl rfl ?_
        refine r_aload_n C (j := 1) (oDec_at oX2_nextBroken 3 rfl) rfl rfl ?_
        obtain ⟨v1, ev1⟩ : ∃ z : Int32, (t).1 35 6 = z := ⟨_, rfl⟩
        have gv1 : (t.1 35 6).toInt = v1.toInt := congrArg Int32.toInt (ev1)
        refine r_getiN (k := 6) (lo := 0) (hi := 48) C v1 oCl1 rfl (by decide) flX2_41 rfl rfl (ev1) rfl rfl (oDec_at oX2_nextBroken 4 rfl) (fun b2 b2h => ?_)
        refine r_icmp_ge C 28 (oDec_at oX2_nextBroken 5 rfl) (by decide) (fun cd3 => ?_) (fun cd3 => ?_)
        · skip
          refine r_iconst C (oDec_at oX2_nextBroken 16 rfl) (v := km1) (by rw [qkm1]; rfl) ?_
          exact r_iret C (oDec_at oX2_nextBroken 17 rfl) ⟨_, rfl, trivial⟩
        · skip
          refine r_aload_n C (j := 0) (oDec_at oX2_nextBroken 6 rfl) rfl rfl ?_
          refine r_aload_n C (j := 1) (oDec_at oX2_nextBroken 7 rfl) rfl rfl ?_
          refine r_iload_n C (j := 2) (oDec_at oX2_nextBroken 8 rfl) rfl rfl ?_
          refine r_iconst C (oDec_at oX2_nextBroken 9 rfl) (v := k0) (by rw [qk0]; rfl) ?_
          refine r_callVi C oCl2 rfl miX2_verdict mlX2_71 (ct_X2_verdict l E (t) x3 k0 ) (by decide) rfl rfl rfl (Nat.le_of_ble_eq_true rfl) (oDec_at oX2_nextBroken 10 rfl) (fun r5 u4 pu4 fu4 => ?_)
          try dsimp only at pu4
          have rr5 := n_rng r5
          refine r_if_eq C 22 (oDec_at oX2_nextBroken 11 rfl) (by decide) (fun cd6 => ?_) (fun cd6 => ?_)
          · skip
            obtain ⟨v7, ev7⟩ : ∃ z : Int32, x3 + Int32.ofInt 1 = z := ⟨_, rfl⟩
            have hv7 : v7.toInt = x3.toInt + 1 := n_inc ev7 (by decide) (by omega) (by omega)
            refine r_iinc C (j := 2) (lv' := [(0, .ref (oad E 31)), (1, .ref (oad E 35)), (3, .int v7)]) v7 [1, 2, 0] (oDec_at oX2_nextBroken 14 rfl) rfl ev7 (by decide) rfl ?_
            refine r_goto C (tgt := 2) (oDec_at oX2_nextBroken 15 rfl) (by decide) ?_
            exact (ih (n - 1) (by omega)) (u4) v7   (by omega)
          · skip
            refine r_iload_n C (j := 2) (oDec_at oX2_nextBroken 12 rfl) rfl rfl ?_
            exact r_iret C (oDec_at oX2_nextBroken 13 rfl) ⟨_, rfl, trivial⟩
  refine r_iload_n C (j := 2) (oDec_at oX2_nextBroken 0 rfl) rfl rfl ?_
  refine r_istore_n C (lv' := [(0, .ref (oad E 31)), (1, .ref (oad E 35)), (2, .int a2), (3, .int a2)]) [1, 2, 3, 0] (oDec_at oX2_nextBroken 1 rfl) rfl (by decide) rfl ?_
  refine r_pick C [0, 1, 3] rfl ?_
  exact (key (2147483648 - a2.toInt).toNat) (s) a2   (by omega)
set_option maxHeartbeats 4000000 in
set_option maxRecDepth 100000 in
theorem ct_X2_countBroken (l : Launch) (E : oE) (s : oS)   : oMet l 5 yX2_countBroken cX2_countBroken 4 (some .int) [(24, 9999), (25, 9999), (26, 9999), (27, 9999)] E s [.ref (oad E 31), .ref (oad E 35)] (oPi (fun r u => True)) := by
  refine oMet.of (lv := [(0, .ref (oad E 31)), (1, .ref (oad E 35))]) (by decide +kernel) (Nat.le_of_ble_eq_true rfl) rfl (fun J C hT => ?_)
  have C : oC l 5 cX2_countBroken RX2 4 (some .int) [(24, 9999), (25, 9999), (26, 9999), (27, 9999)] E s (oPi (fun r u => True)) J := C
  obtain ⟨k0, qk0⟩ : ∃ z : Int32, z = 0 := ⟨_, rfl⟩
  have ek0 : k0.toInt = 0 := by rw [qk0]; rfl
  obtain ⟨k1, qk1⟩ : ∃ z : Int32, z = 1 := ⟨_, rfl⟩
  have ek1 : k1.toInt = 1 := by rw [qk1]; rfl
  have key : ∀ n : Nat, (∀ (t : oS) (x2 : Int32) (x3 : Int32), (0 ≤ x3.toInt ∧ x3.toInt ≤ 48) → (0 ≤ x2.toInt ∧ x2.toInt ≤ x3.toInt) → 49 - x3.toInt ≤ (n : Int) → J t 4 [(0, .ref (oad E 31)), (1, .ref (oad E 35)), (2, .int x2), (3, .int x3)] []) := by
    intro n
    induction n using Nat.strongRecOn with
    | _ n ih =>
      skip
      · intro t x2 x3  iv0 iv1 hmu
        have rx2 := n_rng x2
        have rx3 := n_rng x3
        refine r_iload_n C (j := 3) (oDec_at oX2_countBroken 4 rfl) rfl rfl ?_
        refine r_aload_n C (j := 1) (oDec_at oX2_countBroken 5 rfl) rfl rfl ?_
        obtain ⟨v1, ev1⟩ : ∃ z : Int32, (t).1 35 6 = z := ⟨_, rfl⟩
        have gv1 : (t.1 35 6).toInt = v1.toInt := congrArg Int32.toInt (ev1)
        refine r_getiN (k := 6) (lo := 0) (hi := 48) C v1 oCl1 rfl (by decide) flX2_41 rfl rfl (ev1) rfl rfl (oDec_at oX2_countBroken 6 rfl) (fun b2 b2h => ?_)
        refine r_icmp_ge C 36 (oDec_at oX2_countBroken 7 rfl) (by decide) (fun cd3 => ?_) (fun cd3 => ?_)
        · skip
          refine r_iload_n C (j := 2) (oDec_at oX2_countBroken 22 rfl) rfl rfl ?_
          exact r_iret C (oDec_at oX2_countBroken 23 rfl) ⟨_, rfl, trivial⟩
        · skip
          refine r_iload_n C (j := 2) (oDec_at oX2_countBroken 8 rfl) rfl rfl ?_
          refine r_aload_n C (j := 0) (oDec_at oX2_countBroken 9 rfl) rfl rfl ?_
          refine r_aload_n C (j := 1) (oDec_at oX2_countBroken 10 rfl) rfl rfl ?_
          refine r_iload_n C (j := 3) (oDec_at oX2_countBroken 11 rfl) rfl rfl ?_
          refine r_iconst C (oDec_at oX2_countBroken 12 rfl) (v := k0) (by rw [qk0]; rfl) ?_
          refine r_callVi C oCl2 rfl miX2_verdict mlX2_71 (ct_X2_verdict l E (t) x3 k0 ) (by decide) rfl rfl rfl (Nat.le_of_ble_eq_true rfl) (oDec_at oX2_countBroken 13 rfl) (fun r5 u4 pu4 fu4 => ?_)
          try dsimp only at pu4
          have rr5 := n_rng r5
          refine r_pc C 20 rfl ?_
          refine r_if_eq C 27 (oDec_at oX2_countBroken 14 rfl) (by decide) (fun cd6 => ?_) (fun cd6 => ?_)
          · skip
            refine r_iconst C (oDec_at oX2_countBroken 17 rfl) (v := k0) (by rw [qk0]; rfl) ?_
            obtain ⟨v7, ev7⟩ : ∃ z : Int32, z = x2 + k0 := ⟨_, rfl⟩
            have hv7 : v7.toInt = x2.toInt + k0.toInt := n_add ev7 (by omega) (by omega)
            refine r_iadd C v7 (oDec_at oX2_countBroken 18 rfl) ev7 ?_
            refine r_istore_n C (lv' := [(0, .ref (oad E 31)), (1, .ref (oad E 35)), (2, .int v7), (3, .int x3)]) [1, 2, 0, 3] (oDec_at oX2_countBroken 19 rfl) rfl (by decide) rfl ?_
            obtain ⟨v8, ev8⟩ : ∃ z : Int32, x3 + Int32.ofInt 1 = z := ⟨_, rfl⟩
            have hv8 : v8.toInt = x3.toInt + 1 := n_inc ev8 (by decide) (by omega) (by omega)
            refine r_iinc C (j := 3) (lv' := [(0, .ref (oad E 31)), (1, .ref (oad E 35)), (2, .int v7), (3, .int v8)]) v8 [1, 2, 3, 0] (oDec_at oX2_countBroken 20 rfl) rfl ev8 (by decide) rfl ?_
            refine r_goto C (tgt := 4) (oDec_at oX2_countBroken 21 rfl) (by decide) ?_
            exact (ih (n - 1) (by omega)) (u4) v7 v8  (by omega) (by omega) (by omega)
          · skip
            refine r_iconst C (oDec_at oX2_countBroken 15 rfl) (v := k1) (by rw [qk1]; rfl) ?_
            refine r_goto C (tgt := 28) (oDec_at oX2_countBroken 16 rfl) (by decide) ?_
            obtain ⟨v9, ev9⟩ : ∃ z : Int32, z = x2 + k1 := ⟨_, rfl⟩
            have hv9 : v9.toInt = x2.toInt + k1.toInt := n_add ev9 (by omega) (by omega)
            refine r_iadd C v9 (oDec_at oX2_countBroken 18 rfl) ev9 ?_
            refine r_istore_n C (lv' := [(0, .ref (oad E 31)), (1, .ref (oad E 35)), (2, .int v9), (3, .int x3)]) [1, 2, 0, 3] (oDec_at oX2_countBroken 19 rfl) rfl (by decide) rfl ?_
            obtain ⟨v10, ev10⟩ : ∃ z : Int32, x3 + Int32.ofInt 1 = z := ⟨_, rfl⟩
            have hv10 : v10.toInt = x3.toInt + 1 := n_inc ev10 (by decide) (by omega) (by omega)
            refine r_iinc C (j := 3) (lv' := [(0, .ref (oad E 31)), (1, .ref (oad E 35)), (2, .int v9), (3, .int v10)]) v10 [1, 2, 3, 0] (oDec_at oX2_countBroken 20 rfl) rfl ev10 (by decide) rfl ?_
            refine r_goto C (tgt := 4) (oDec_at oX2_countBroken 21 rfl) (by decide) ?_
            exact (ih (n - 1) (by omega)) (u4) v9 v10  (by omega) (by omega) (by omega)
  refine r_iconst C (oDec_at oX2_countBroken 0 rfl) (v := k0) (by rw [qk0]; rfl) ?_
  refine r_istore_n C (lv' := [(0, .ref (oad E 31)), (1, .ref (oad E 35)), (2, .int k0)]) [1, 2, 0] (oDec_at oX2_countBroken 1 rfl) rfl (by decide) rfl ?_
  refine r_iconst C (oDec_at oX2_countBroken 2 rfl) (v := k0) (by rw [qk0]; rfl) ?_
  refine r_istore_n C (lv' := [(0, .ref (oad E 31)), (1, .ref (oad E 35)), (2, .int k0), (3, .int k0)]) [1, 2, 3, 0] (oDec_at oX2_countBroken 3 rfl) rfl (by decide) rfl ?_
  exact (key (49 - k0.toInt).toNat) (s) k0 k0  (by omega) (by omega) (by omega)
set_option maxHeartbeats 4000000 in
set_option maxRecDepth 100000 in
theorem ct_X2_ruleAt (l : Launch) (E : oE) (s : oS) (a2 : Int32)  : oMet l 5 yX2_ruleAt cX2_ruleAt 3 (some .int) [(24, 9999), (25, 9999), (26, 9999), (27, 9999)] E s [.ref (oad E 31), .ref (oad E 35), .int a2] (oPi (fun r u => True)) := by
  refine oMet.of (lv := [(0, .ref (oad E 31)), (1, .ref (oad E 35)), (2, .int a2)]) (by decide +kernel) (Nat.le_of_ble_eq_true rfl) rfl (fun J C hT => ?_)
  have C : oC l 5 cX2_ruleAt RX2 3 (some .int) [(24, 9999), (25, 9999), (26, 9999), (27, 9999)] E s (oPi (fun r u => True)) J := C
  obtain ⟨k0, qk0⟩ : ∃ z : Int32, z = 0 := ⟨_, rfl⟩
  have ek0 : k0.toInt = 0 := by rw [qk0]; rfl
  obtain ⟨k1, qk1⟩ : ∃ z : Int32, z = 1 := ⟨_, rfl⟩
  have ek1 : k1.toInt = 1 := by rw [qk1]; rfl
  have rg2 := n_rng a2
  refine r_aload_n C (j := 0) (oDec_at oX2_ruleAt 0 rfl) rfl rfl ?_
  refine r_aload_n C (j := 1) (oDec_at oX2_ruleAt 1 rfl) rfl rfl ?_
  refine r_iload_n C (j := 2) (oDec_at oX2_ruleAt 2 rfl) rfl rfl ?_
  refine r_iconst C (oDec_at oX2_ruleAt 3 rfl) (v := k0) (by rw [qk0]; rfl) ?_
  refine r_callVi C oCl2 rfl miX2_verdict mlX2_71 (ct_X2_verdict l E (s) a2 k0 ) (by decide) rfl rfl rfl (Nat.le_of_ble_eq_true rfl) (oDec_at oX2_ruleAt 4 rfl) (fun r2 u1 pu1 fu1 => ?_)
  try dsimp only at pu1
  have rr2 := n_rng r2
  refine r_callSNi C miX11_lowestBit mlX2_75 (ct_X11_lowestBit l E (u1) r2 ) (by decide) rfl rfl rfl (Nat.le_of_ble_eq_true rfl) (oDec_at oX2_ruleAt 5 rfl) (fun r4 u3 pu3 fu3 => ?_)
  try dsimp only at pu3
  have rr4 := n_rng r4
  refine r_pc C 10 rfl ?_
  refine r_iconst C (oDec_at oX2_ruleAt 6 rfl) (v := k1) (by rw [qk1]; rfl) ?_
  obtain ⟨v5, ev5⟩ : ∃ z : Int32, z = r4 - k1 := ⟨_, rfl⟩
  have rv5 := n_rng v5
  refine r_isub C v5 (oDec_at oX2_ruleAt 7 rfl) ev5 ?_
  refine r_callSi C miJ6_bitCount_0f7a4 mlX2_78 (ct_J6_bitCount_0f7a4 l E (u3) v5 ) (by decide) rfl rfl rfl (Nat.le_of_ble_eq_true rfl) (oDec_at oX2_ruleAt 8 rfl) (fun r7 u6 pu6 fu6 => ?_)
  try dsimp only at pu6
  have rr7 := n_rng r7
  exact r_iret C (oDec_at oX2_ruleAt 9 rfl) ⟨_, rfl, trivial⟩
