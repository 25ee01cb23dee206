set_option maxHeartbeats 4000000 in
set_option maxRecDepth 100000 in
theorem ct4_X8_put (l : Launch) (E : oE) (s : oS) (a1 : Int32)   : oMet l 2 yX8_put cX8_put 3 none [(8, 1), (15, 9999)] E s [.ref (oad E 1), .int a1] (oPv (fun u => (((s.1 1 1).toInt + 4 ≤ 1600 ∧ (u.1 1 1).toInt = (s.1 1 1).toInt + 4) ∨ (1600 < (s.1 1 1).toInt + 4 ∧ (u.1 1 1).toInt = (s.1 1 1).toInt)) ∧ (1600 < (s.1 1 1).toInt + 4 ∨ oqFz (s.1 2) (u.1 2) (s.1 1 1).toNatClampNeg 4 (oqB a1)))) := by
  refine oMet.of (lv := [(0, .ref (oad E 1)), (1, .int a1)]) (by decide +kernel) (Nat.le_of_ble_eq_true rfl) rfl (fun J C hT => ?_)
  have C : oC l 2 cX8_put RX8 3 none [(8, 1), (15, 9999)] E s (oPv (fun u => (((s.1 1 1).toInt + 4 ≤ 1600 ∧ (u.1 1 1).toInt = (s.1 1 1).toInt + 4) ∨ (1600 < (s.1 1 1).toInt + 4 ∧ (u.1 1 1).toInt = (s.1 1 1).toInt)) ∧ (1600 < (s.1 1 1).toInt + 4 ∨ oqFz (s.1 2) (u.1 2) (s.1 1 1).toNatClampNeg 4 (oqB a1)))) J := C
  obtain ⟨k0, qk0⟩ : ∃ z : Int32, z = 0 := ⟨_, rfl⟩
  have ek0 : k0.toInt = 0 := by rw [qk0]; rfl
  obtain ⟨k1, qk1⟩ : ∃ z : Int32, z = 1 := ⟨_, rfl⟩
  have ek1 : k1.toInt = 1 := by rw [qk1]; rfl
  obtain ⟨k4, qk4⟩ : ∃ z : Int32, z = 4 := ⟨_, rfl⟩
  have ek4 : k4.toInt = 4 := by rw [qk4]; rfl
  obtain ⟨k8, qk8⟩ : ∃ z : Int32, z = 8 := ⟨_, rfl⟩
  have ek8 : k8.toInt = 8 := by rw [qk8]; rfl
  obtain ⟨k24, qk24⟩ : ∃ z : Int32, z = 24 := ⟨_, rfl⟩
  have ek24 : k24.toInt = 24 := by rw [qk24]; rfl
  obtain ⟨k255, qk255⟩ : ∃ z : Int32, z = 255 := ⟨_, rfl⟩
  have ek255 : k255.toInt = 255 := by rw [qk255]; rfl
  have rg1 := n_rng a1
  have ht1 : (0 : Int) ≤ (s.1 1 1).toInt ∧ (s.1 1 1).toInt ≤ 1600 := hT.1 1 1
  have key : ∀ n : Nat, (∀ (t : oS) (x2 : Int32), (0 ≤ x2.toInt ∧ x2.toInt ≤ 4) → ((t.1 1 1).toInt = (s.1 1 1).toInt + x2.toInt) → ((s.1 1 1).toInt + 4 ≤ 1600) → (oqFz (s.1 2) (t.1 2) (s.1 1 1).toNatClampNeg x2.toNatClampNeg (oqB a1)) → 5 - x2.toInt ≤ (n : Int) → J t 11 [(0, .ref (oad E 1)), (1, .int a1), (2, .int x2)] []) := by
    intro n
    induction n using Nat.strongRecOn with
    | _ n ih =>
      skip
      · intro t x2  iv0 iv1 iv2 iv3 hmu
        have rx2 := n_rng x2
        have hn2 := n_nat x2
        refine r_iload_n C (j := 2) (oDec_at oX8_put 7 rfl) rfl rfl ?_
        refine r_iconst C (oDec_at oX8_put 8 rfl) (v := k4) (by rw [qk4]; rfl) ?_
        refine r_icmp_ge C 54 (oDec_at oX8_put 9 rfl) (by decide) (fun cd1 => ?_) (fun cd1 => ?_)
        · skip
          exact r_vret C (oDec_at oX8_put 32 rfl) ⟨rfl, ⟨by omega, Or.inr (by have h4 : x2.toNatClampNeg = 4 := (by omega); rw [h4] at iv3; exact iv3)⟩⟩
        · skip
          refine r_aload_n C (j := 0) (oDec_at oX8_put 10 rfl) rfl rfl ?_
          refine r_getF (k := 0) (b := 2) C oCl8 rfl (by decide) flX8_11 rfl rfl rfl (oDec_at oX8_put 11 rfl) ?_
          refine r_aload_n C (j := 0) (oDec_at oX8_put 12 rfl) rfl rfl ?_
          obtain ⟨v2, ev2⟩ : ∃ z : Int32, (t).1 1 1 = z := ⟨_, rfl⟩
          have gv2 : (t.1 1 1).toInt = v2.toInt := congrArg Int32.toInt (ev2)
          refine r_geti (k := 1) (lo := 0) (hi := 1600) C v2 oCl8 rfl (by decide) flX8_15 rfl rfl (ev2) rfl rfl (oDec_at oX8_put 13 rfl) (fun b3 b3h => ?_)
          refine r_iload_n C (j := 1) (oDec_at oX8_put 14 rfl) rfl rfl ?_
          refine r_bipush C (oDec_at oX8_put 15 rfl) (v := k24) (by rw [qk24]; rfl) ?_
          refine r_pc C 27 rfl ?_
          refine r_bipush C (oDec_at oX8_put 16 rfl) (v := k8) (by rw [qk8]; rfl) ?_
          refine r_iload_n C (j := 2) (oDec_at oX8_put 17 rfl) rfl rfl ?_
          obtain ⟨v4, ev4⟩ : ∃ z : Int32, z = k8 * x2 := ⟨_, rfl⟩
          have hv4 : v4.toInt = 8 * x2.toInt := n_mulK' 8 ev4 ek8 (by omega) (by omega)
          refine r_imul C v4 (oDec_at oX8_put 18 rfl) ev4 ?_
          obtain ⟨v5, ev5⟩ : ∃ z : Int32, z = k24 - v4 := ⟨_, rfl⟩
          have hv5 : v5.toInt = k24.toInt - v4.toInt := n_sub ev5 (by omega) (by omega)
          refine r_isub C v5 (oDec_at oX8_put 19 rfl) ev5 ?_
          obtain ⟨v6, ev6⟩ : ∃ z : Int32, (a1.toUInt32 >>> (v5.toUInt32 &&& Int32.toUInt32 31)).toInt32 = z := ⟨_, rfl⟩
          have rv6 := n_rng v6
          refine r_iushr C v6 (oDec_at oX8_put 20 rfl) ev6 ?_
          refine r_sipush C (oDec_at oX8_put 21 rfl) (v := k255) (by rw [qk255]; rfl) ?_
          refine r_pc C 36 rfl ?_
          obtain ⟨v7, ev7⟩ : ∃ z : Int32, z = v6 &&& k255 := ⟨_, rfl⟩
          have hv7 := n_and ev7
          have rv7 := n_rng v7
          have hB := n_byU x2.toNatClampNeg ev6 ev7 qk255 (by omega) (by omega)
          refine r_iand C v7 (oDec_at oX8_put 22 rfl) ev7 ?_
          refine r_iast (n := 1600) (lo := 0) (hi := 255) C rfl (by decide) rfl rfl ⟨by omega, by omega⟩ (by decide) rfl rfl rfl rfl ⟨by omega, by omega⟩ (oDec_at oX8_put 23 rfl) ?_
          refine r_aload_n C (j := 0) (oDec_at oX8_put 24 rfl) rfl rfl ?_
          refine r_dup C (oDec_at oX8_put 25 rfl) rfl ?_
          refine r_geti (k := 1) (lo := 0) (hi := 1600) C v2 oCl8 rfl (by decide) flX8_15 rfl rfl (((pI_ne (a := 1) (b := 1) (c := 2) _ _ (Or.inl (by decide)))).trans (ev2)) rfl rfl (oDec_at oX8_put 26 rfl) (fun _ _ => ?_)
          refine r_iconst C (oDec_at oX8_put 27 rfl) (v := k1) (by rw [qk1]; rfl) ?_
          refine r_pc C 44 rfl ?_
          obtain ⟨v8, ev8⟩ : ∃ z : Int32, z = v2 + k1 := ⟨_, rfl⟩
          have hv8 : v8.toInt = v2.toInt + k1.toInt := n_add ev8 (by omega) (by omega)
          refine r_iadd C v8 (oDec_at oX8_put 28 rfl) ev8 ?_
          refine r_puti (k := 1) (lo := 0) (hi := 1600) C oCl8 rfl (by decide) flX8_15 rfl rfl rfl rfl rfl rfl rfl rfl ⟨by omega, by omega⟩ (oDec_at oX8_put 29 rfl) ?_
          obtain ⟨v9, ev9⟩ : ∃ z : Int32, x2 + Int32.ofInt 1 = z := ⟨_, rfl⟩
          have hv9 : v9.toInt = x2.toInt + 1 := n_inc ev9 (by decide) (by omega) (by omega)
          refine r_iinc C (j := 2) (lv' := [(0, .ref (oad E 1)), (1, .int a1), (2, .int v9)]) v9 [1, 2, 0] (oDec_at oX8_put 30 rfl) rfl ev9 (by decide) rfl ?_
          refine r_goto C (tgt := 11) (oDec_at oX8_put 31 rfl) (by decide) ?_
          have lk10 : (((pI (pI t 2 v2.toNatClampNeg v7) 1 1 v8)).1 1 1).toInt = v8.toInt := congrArg Int32.toInt ((pI_self _ _ _ _))
          exact (ih (n - 1) (by omega)) ((pI (pI t 2 v2.toNatClampNeg v7) 1 1 v8)) v9  (by omega) (by omega) (by omega) (by first | exact oqFz_nx iv3 (by omega) (by omega) (by omega) (by omega) hB (by decide) | exact oqFz_0 (by omega)) (by omega)
  refine r_aload_n C (j := 0) (oDec_at oX8_put 0 rfl) rfl rfl ?_
  refine r_iconst C (oDec_at oX8_put 1 rfl) (v := k4) (by rw [qk4]; rfl) ?_
  refine r_callVi C oCl8 rfl miX8_hasRoom mlX8_19 (ct_X8_hasRoom l E (s) k4 (by omega)) (by decide) rfl rfl rfl (Nat.le_of_ble_eq_true rfl) (oDec_at oX8_put 2 rfl) (fun r12 u11 pu11 fu11 => ?_)
  try dsimp only at pu11
  obtain ⟨pu11_0, pu11_1⟩ := pu11
  have hxu11 := oFr_nil fu11; subst hxu11
  have rr12 := n_rng r12
  refine r_if_ne C 9 (oDec_at oX8_put 3 rfl) (by decide) (fun cd13 => ?_) (fun cd13 => ?_)
  · skip
    refine r_iconst C (oDec_at oX8_put 5 rfl) (v := k0) (by rw [qk0]; rfl) ?_
    refine r_istore_n C (lv' := [(0, .ref (oad E 1)), (1, .int a1), (2, .int k0)]) [1, 2, 0] (oDec_at oX8_put 6 rfl) rfl (by decide) rfl ?_
    exact (key (5 - k0.toInt).toNat) (s) k0  (by omega) (by omega) (by omega) (by first | exact oqFz_0 (by omega)) (by omega)
  · skip
    exact r_vret C (oDec_at oX8_put 4 rfl) ⟨rfl, ⟨by omega, Or.inl (by omega)⟩⟩
set_option maxHeartbeats 4000000 in
set_option maxRecDepth 100000 in
theorem ct4_X11_feed (l : Launch) (E : oE) (s : oS) (a1 : Int32) (a2 : Int32) (a3 : Int32) (a4 : Int32) (a5 : Int32)   : oMet l 3 yX11_feed cX11_feed 6 (some .int) [(8, 1), (15, 9999)] E s [.ref (oad E 0), .int a1, .int a2, .int a3, .int a4, .int a5] (oPi (fun r u => (((s.1 1 1).toInt + 20 ≤ 1600 ∧ r.toInt = (s.1 1 1).toInt + 20 ∧ (u.1 1 1).toInt = (s.1 1 1).toInt + 20) ∨ (1600 < (s.1 1 1).toInt + 20 ∧ r.toInt = -1 ∧ (u.1 1 1).toInt = (s.1 1 1).toInt)) ∧ (oqFe (s.1 2) (u.1 2) (s.1 1 1) (oqF a1 a2 a3 a4 a5)))) := by
  refine oMet.of (lv := [(0, .ref (oad E 0)), (1, .int a1), (2, .int a2), (3, .int a3), (4, .int a4), (5, .int a5)]) (by decide +kernel) (Nat.le_of_ble_eq_true rfl) rfl (fun J C hT => ?_)
  have C : oC l 3 cX11_feed RX11 6 (some .int) [(8, 1), (15, 9999)] E s (oPi (fun r u => (((s.1 1 1).toInt + 20 ≤ 1600 ∧ r.toInt = (s.1 1 1).toInt + 20 ∧ (u.1 1 1).toInt = (s.1 1 1).toInt + 20) ∨ (1600 < (s.1 1 1).toInt + 20 ∧ r.toInt = -1 ∧ (u.1 1 1).toInt = (s.1 1 1).toInt)) ∧ (oqFe (s.1 2) (u.1 2) (s.1 1 1) (oqF a1 a2 a3 a4 a5)))) J := C
  obtain ⟨km1, qkm1⟩ : ∃ z : Int32, z = (-1) := ⟨_, rfl⟩
  have ekm1 : km1.toInt = (-1) := by rw [qkm1]; rfl
  obtain ⟨k20, qk20⟩ : ∃ z : Int32, z = 20 := ⟨_, rfl⟩
  have ek20 : k20.toInt = 20 := by rw [qk20]; rfl
  have rg1 := n_rng a1
  have rg2 := n_rng a2
  have rg3 := n_rng a3
  have rg4 := n_rng a4
  have rg5 := n_rng a5
  have ht1 : (0 : Int) ≤ (s.1 1 1).toInt ∧ (s.1 1 1).toInt ≤ 1600 := hT.1 1 1
  refine r_aload_n C (j := 0) (oDec_at oX11_feed 0 rfl) rfl rfl ?_
  refine r_getF (k := 0) (b := 1) C oCl11 rfl (by decide) flX11_10 rfl rfl rfl (oDec_at oX11_feed 1 rfl) ?_
  refine r_bipush C (oDec_at oX11_feed 2 rfl) (v := k20) (by rw [qk20]; rfl) ?_
  refine r_callVi C oCl8 rfl miX8_hasRoom mlX11_103 (ct_X8_hasRoom l E (s) k20 (by omega)) (by decide) rfl rfl rfl (Nat.le_of_ble_eq_true rfl) (oDec_at oX11_feed 3 rfl) (fun r2 u1 pu1 fu1 => ?_)
  try dsimp only at pu1
  obtain ⟨pu1_0, pu1_1⟩ := pu1
  have hxu1 := oFr_nil fu1; subst hxu1
  have rr2 := n_rng r2
  refine r_if_ne C 14 (oDec_at oX11_feed 4 rfl) (by decide) (fun cd3 => ?_) (fun cd3 => ?_)
  · skip
    refine r_aload_n C (j := 0) (oDec_at oX11_feed 7 rfl) rfl rfl ?_
    refine r_getF (k := 0) (b := 1) C oCl11 rfl (by decide) flX11_10 rfl rfl rfl (oDec_at oX11_feed 8 rfl) ?_
    refine r_iload_n C (j := 1) (oDec_at oX11_feed 9 rfl) rfl rfl ?_
    refine r_callVv C oCl8 rfl miX8_put mlX11_107 (ct4_X8_put l E (s) a1 ) (by decide) rfl rfl rfl (Nat.le_of_ble_eq_true rfl) (oDec_at oX11_feed 10 rfl) (fun u4 pu4 fu4 => ?_)
    try dsimp only at pu4
    obtain ⟨pu4_0, pu4_1⟩ := pu4
    refine r_aload_n C (j := 0) (oDec_at oX11_feed 11 rfl) rfl rfl ?_
    refine r_getF (k := 0) (b := 1) C oCl11 rfl (by decide) flX11_10 rfl rfl rfl (oDec_at oX11_feed 12 rfl) ?_
    refine r_pc C 26 rfl ?_
    refine r_iload_n C (j := 2) (oDec_at oX11_feed 13 rfl) rfl rfl ?_
    refine r_callVv C oCl8 rfl miX8_put mlX11_107 (ct4_X8_put l E (u4) a2 ) (by decide) rfl rfl rfl (Nat.le_of_ble_eq_true rfl) (oDec_at oX11_feed 14 rfl) (fun u6 pu6 fu6 => ?_)
    try dsimp only at pu6
    obtain ⟨pu6_0, pu6_1⟩ := pu6
    refine r_aload_n C (j := 0) (oDec_at oX11_feed 15 rfl) rfl rfl ?_
    refine r_getF (k := 0) (b := 1) C oCl11 rfl (by decide) flX11_10 rfl rfl rfl (oDec_at oX11_feed 16 rfl) ?_
    refine r_iload_n C (j := 3) (oDec_at oX11_feed 17 rfl) rfl rfl ?_
    refine r_callVv C oCl8 rfl miX8_put mlX11_107 (ct4_X8_put l E (u6) a3 ) (by decide) rfl rfl rfl (Nat.le_of_ble_eq_true rfl) (oDec_at oX11_feed 18 rfl) (fun u8 pu8 fu8 => ?_)
    try dsimp only at pu8
    obtain ⟨pu8_0, pu8_1⟩ := pu8
    refine r_pc C 38 rfl ?_
    refine r_aload_n C (j := 0) (oDec_at oX11_feed 19 rfl) rfl rfl ?_
    refine r_getF (k := 0) (b := 1) C oCl11 rfl (by decide) flX11_10 rfl rfl rfl (oDec_at oX11_feed 20 rfl) ?_
    refine r_iload C (j := 4) (oDec_at oX11_feed 21 rfl) rfl ?_
    refine r_callVv C oCl8 rfl miX8_put mlX11_107 (ct4_X8_put l E (u8) a4 ) (by decide) rfl rfl rfl (Nat.le_of_ble_eq_true rfl) (oDec_at oX11_feed 22 rfl) (fun u10 pu10 fu10 => ?_)
    try dsimp only at pu10
    obtain ⟨pu10_0, pu10_1⟩ := pu10
    refine r_aload_n C (j := 0) (oDec_at oX11_feed 23 rfl) rfl rfl ?_
    refine r_getF (k := 0) (b := 1) C oCl11 rfl (by decide) flX11_10 rfl rfl rfl (oDec_at oX11_feed 24 rfl) ?_
    refine r_pc C 51 rfl ?_
    refine r_iload C (j := 5) (oDec_at oX11_feed 25 rfl) rfl ?_
    refine r_callVv C oCl8 rfl miX8_put mlX11_107 (ct4_X8_put l E (u10) a5 ) (by decide) rfl rfl rfl (Nat.le_of_ble_eq_true rfl) (oDec_at oX11_feed 26 rfl) (fun u12 pu12 fu12 => ?_)
    try dsimp only at pu12
    obtain ⟨pu12_0, pu12_1⟩ := pu12
    refine r_aload_n C (j := 0) (oDec_at oX11_feed 27 rfl) rfl rfl ?_
    refine r_getF (k := 0) (b := 1) C oCl11 rfl (by decide) flX11_10 rfl rfl rfl (oDec_at oX11_feed 28 rfl) ?_
    obtain ⟨v14, ev14⟩ : ∃ z : Int32, (u12).1 1 1 = z := ⟨_, rfl⟩
    have gv14 : (u12.1 1 1).toInt = v14.toInt := congrArg Int32.toInt (ev14)
    refine r_getiN (k := 1) (lo := 0) (hi := 1600) C v14 oCl8 rfl (by decide) flX11_111 rfl rfl (ev14) rfl rfl (oDec_at oX11_feed 29 rfl) (fun b15 b15h => ?_)
    have lk16 : ((u12).1 1 1).toInt = v14.toInt := congrArg Int32.toInt (ev14)
    exact r_iret C (oDec_at oX11_feed 30 rfl) ⟨_, rfl, ⟨by omega, Or.inr ⟨by omega, oqFz_5 ((pu4_1).resolve_left (by omega)) ((pu6_1).resolve_left (by omega)) ((pu8_1).resolve_left (by omega)) ((pu10_1).resolve_left (by omega)) ((pu12_1).resolve_left (by omega)) (by omega) (by omega) (by omega) (by omega) (by omega)⟩⟩⟩
  · skip
    refine r_iconst C (oDec_at oX11_feed 5 rfl) (v := km1) (by rw [qkm1]; rfl) ?_
    exact r_iret C (oDec_at oX11_feed 6 rfl) ⟨_, rfl, ⟨by omega, Or.inl ⟨by omega, rfl⟩⟩⟩
set_option maxHeartbeats 4000000 in
set_option maxRecDepth 100000 in
theorem ct4_X12_feed (l : Launch) (E : oE) (s : oS) (a1 : Int32) (a2 : Int32) (a3 : Int32) (a4 : Int32) (a5 : Int32)   : oMet l 1 yX12_feed cX12_feed 8 (some .int) [(12, 1), (48, 9999)] E s [.ref (oad E 71), .int a1, .int a2, .int a3, .int a4, .int a5] (oPi (fun r u => (((s.1 71 1).toInt + 20 ≤ 1600 ∧ r.toInt = (s.1 71 1).toInt + 20 ∧ (u.1 71 1).toInt = (s.1 71 1).toInt + 20) ∨ (1600 < (s.1 71 1).toInt + 20 ∧ r.toInt = -1 ∧ (u.1 71 1).toInt = (s.1 71 1).toInt)) ∧ (oqFe (s.1 72) (u.1 72) (s.1 71 1) (oqF a1 a2 a3 a4 a5)))) := by
  refine oMet.of (lv := [(0, .ref (oad E 71)), (1, .int a1), (2, .int a2), (3, .int a3), (4, .int a4), (5, .int a5)]) (by decide +kernel) (Nat.le_of_ble_eq_true rfl) rfl (fun J C hT => ?_)
  have C : oC l 1 cX12_feed RX12 8 (some .int) [(12, 1), (48, 9999)] E s (oPi (fun r u => (((s.1 71 1).toInt + 20 ≤ 1600 ∧ r.toInt = (s.1 71 1).toInt + 20 ∧ (u.1 71 1).toInt = (s.1 71 1).toInt + 20) ∨ (1600 < (s.1 71 1).toInt + 20 ∧ r.toInt = -1 ∧ (u.1 71 1).toInt = (s.1 71 1).toInt)) ∧ (oqFe (s.1 72) (u.1 72) (s.1 71 1) (oqF a1 a2 a3 a4 a5)))) J := C
  obtain ⟨km1, qkm1⟩ : ∃ z : Int32, z = (-1) := ⟨_, rfl⟩
  have ekm1 : km1.toInt = (-1) := by rw [qkm1]; rfl
  obtain ⟨k0, qk0⟩ : ∃ z : Int32, z = 0 := ⟨_, rfl⟩
  have ek0 : k0.toInt = 0 := by rw [qk0]; rfl
  obtain ⟨k1, qk1⟩ : ∃ z : Int32, z = 1 := ⟨_, rfl⟩
  have ek1 : k1.toInt = 1 := by rw [qk1]; rfl
  obtain ⟨k3, qk3⟩ : ∃ z : Int32, z = 3 := ⟨_, rfl⟩
  have ek3 : k3.toInt = 3 := by rw [qk3]; rfl
  obtain ⟨k4, qk4⟩ : ∃ z : Int32, z = 4 := ⟨_, rfl⟩
  have ek4 : k4.toInt = 4 := by rw [qk4]; rfl
  obtain ⟨k8, qk8⟩ : ∃ z : Int32, z = 8 := ⟨_, rfl⟩
  have ek8 : k8.toInt = 8 := by rw [qk8]; rfl
  obtain ⟨k12, qk12⟩ : ∃ z : Int32, z = 12 := ⟨_, rfl⟩
  have ek12 : k12.toInt = 12 := by rw [qk12]; rfl
  obtain ⟨k16, qk16⟩ : ∃ z : Int32, z = 16 := ⟨_, rfl⟩
  have ek16 : k16.toInt = 16 := by rw [qk16]; rfl
  obtain ⟨k20, qk20⟩ : ∃ z : Int32, z = 20 := ⟨_, rfl⟩
  have ek20 : k20.toInt = 20 := by rw [qk20]; rfl
  obtain ⟨k255, qk255⟩ : ∃ z : Int32, z = 255 := ⟨_, rfl⟩
  have ek255 : k255.toInt = 255 := by rw [qk255]; rfl
  obtain ⟨k1600, qk1600⟩ : ∃ z : Int32, z = 1600 := ⟨_, rfl⟩
  have ek1600 : k1600.toInt = 1600 := by rw [qk1600]; rfl
  have rg1 := n_rng a1
  have rg2 := n_rng a2
  have rg3 := n_rng a3
  have rg4 := n_rng a4
  have rg5 := n_rng a5
  have ht1 : (0 : Int) ≤ (s.1 71 1).toInt ∧ (s.1 71 1).toInt ≤ 1600 := hT.1 71 1
  have key : ∀ n : Nat, (∀ (t : oS) (x6 : Int32), (0 ≤ x6.toInt ∧ x6.toInt ≤ 20) → ((t.1 71 1).toInt = (s.1 71 1).toInt + x6.toInt) → ((s.1 71 1).toInt + 20 ≤ 1600) → (oqFz (s.1 72) (t.1 72) (s.1 71 1).toNatClampNeg x6.toNatClampNeg (oqF a1 a2 a3 a4 a5)) → 21 - x6.toInt ≤ (n : Int) → J t 18 [(0, .ref (oad E 71)), (1, .int a1), (2, .int a2), (3, .int a3), (4, .int a4), (5, .int a5), (6, .int x6)] []) := by
    intro n
    induction n using Nat.strongRecOn with
    | _ n ih =>
      skip
      · intro t x6  iv0 iv1 iv2 iv3 hmu
        have rx6 := n_rng x6
        have hn6 := n_nat x6
        refine r_iload C (j := 6) (oDec_at oX12_feed 10 rfl) rfl ?_
        refine r_bipush C (oDec_at oX12_feed 11 rfl) (v := k20) (by rw [qk20]; rfl) ?_
        refine r_icmp_ge C 114 (oDec_at oX12_feed 12 rfl) (by decide) (fun cd1 => ?_) (fun cd1 => ?_)
        · skip
          refine r_aload_n C (j := 0) (oDec_at oX12_feed 59 rfl) rfl rfl ?_
          obtain ⟨v2, ev2⟩ : ∃ z : Int32, (t).1 71 1 = z := ⟨_, rfl⟩
          have gv2 : (t.1 71 1).toInt = v2.toInt := congrArg Int32.toInt (ev2)
          refine r_geti (k := 1) (lo := 0) (hi := 1600) C v2 oCl12 rfl (by decide) flX12_170 rfl rfl (ev2) rfl rfl (oDec_at oX12_feed 60 rfl) (fun b3 b3h => ?_)
          have lk4 : ((t).1 71 1).toInt = v2.toInt := congrArg Int32.toInt (ev2)
          exact r_iret C (oDec_at oX12_feed 61 rfl) ⟨_, rfl, ⟨by omega, Or.inr ⟨by omega, by have h20 : x6.toNatClampNeg = 20 := (by omega); rw [h20] at iv3; exact iv3⟩⟩⟩
        · skip
          refine r_iload C (j := 6) (oDec_at oX12_feed 13 rfl) rfl ?_
          refine r_iconst C (oDec_at oX12_feed 14 rfl) (v := k4) (by rw [qk4]; rfl) ?_
          refine r_icmp_ge C 35 (oDec_at oX12_feed 15 rfl) (by decide) (fun cd5 => ?_) (fun cd5 => ?_)
          · skip
            refine r_iload C (j := 6) (oDec_at oX12_feed 18 rfl) rfl ?_
            refine r_bipush C (oDec_at oX12_feed 19 rfl) (v := k8) (by rw [qk8]; rfl) ?_
            refine r_icmp_ge C 46 (oDec_at oX12_feed 20 rfl) (by decide) (fun cd6 => ?_) (fun cd6 => ?_)
            · skip
              refine r_iload C (j := 6) (oDec_at oX12_feed 23 rfl) rfl ?_
              refine r_bipush C (oDec_at oX12_feed 24 rfl) (v := k12) (by rw [qk12]; rfl) ?_
              refine r_icmp_ge C 57 (oDec_at oX12_feed 25 rfl) (by decide) (fun cd7 => ?_) (fun cd7 => ?_)
              · skip
                refine r_iload C (j := 6) (oDec_at oX12_feed 28 rfl) rfl ?_
                refine r_bipush C (oDec_at oX12_feed 29 rfl) (v := k16) (by rw [qk16]; rfl) ?_
                refine r_icmp_ge C 69 (oDec_at oX12_feed 30 rfl) (by decide) (fun cd8 => ?_) (fun cd8 => ?_)
                · skip
                  refine r_iload C (j := 5) (oDec_at oX12_feed 33 rfl) rfl ?_
                  refine r_istore C (lv' := [(0, .ref (oad E 71)), (1, .int a1), (2, .int a2), (3, .int a3), (4, .int a4), (5, .int a5), (6, .int x6), (7, .int a5)]) [1, 2, 3, 4, 5, 6, 7, 0] (oDec_at oX12_feed 34 rfl) (by decide) rfl ?_
                  refine r_aload_n C (j := 0) (oDec_at oX12_feed 35 rfl) rfl rfl ?_
                  refine r_getF (k := 0) (b := 72) C oCl12 rfl (by decide) flX12_7 rfl rfl rfl (oDec_at oX12_feed 36 rfl) ?_
                  refine r_aload_n C (j := 0) (oDec_at oX12_feed 37 rfl) rfl rfl ?_
                  obtain ⟨v9, ev9⟩ : ∃ z : Int32, (t).1 71 1 = z := ⟨_, rfl⟩
                  have gv9 : (t.1 71 1).toInt = v9.toInt := congrArg Int32.toInt (ev9)
                  refine r_geti (k := 1) (lo := 0) (hi := 1600) C v9 oCl12 rfl (by decide) flX12_170 rfl rfl (ev9) rfl rfl (oDec_at oX12_feed 38 rfl) (fun b10 b10h => ?_)
                  refine r_pc C 81 rfl ?_
                  refine r_iload C (j := 7) (oDec_at oX12_feed 39 rfl) rfl ?_
                  refine r_bipush C (oDec_at oX12_feed 40 rfl) (v := k8) (by rw [qk8]; rfl) ?_
                  refine r_iconst C (oDec_at oX12_feed 41 rfl) (v := k3) (by rw [qk3]; rfl) ?_
                  refine r_iload C (j := 6) (oDec_at oX12_feed 42 rfl) rfl ?_
                  refine r_iconst C (oDec_at oX12_feed 43 rfl) (v := k4) (by rw [qk4]; rfl) ?_
                  obtain ⟨v11, ev11⟩ : ∃ z : Int32, z = x6 - x6 / k4 * k4 := ⟨_, rfl⟩
                  have hv11 := (n_rem (k := 4) ev11 ek4 (by decide)).1 (by omega)
                  refine r_irem C v11 (oDec_at oX12_feed 44 rfl) (n_ne0 (by omega)) ev11 ?_
                  refine r_pc C 90 rfl ?_
                  obtain ⟨v12, ev12⟩ : ∃ z : Int32, z = k3 - v11 := ⟨_, rfl⟩
                  have hv12 : v12.toInt = k3.toInt - v11.toInt := n_sub ev12 (by omega) (by omega)
                  refine r_isub C v12 (oDec_at oX12_feed 45 rfl) ev12 ?_
                  obtain ⟨v13, ev13⟩ : ∃ z : Int32, z = k8 * v12 := ⟨_, rfl⟩
                  have hv13 : v13.toInt = 8 * v12.toInt := n_mulK' 8 ev13 ek8 (by omega) (by omega)
                  refine r_imul C v13 (oDec_at oX12_feed 46 rfl) ev13 ?_
                  obtain ⟨v14, ev14⟩ : ∃ z : Int32, z = a5 >>> (v13 &&& 31) := ⟨_, rfl⟩
                  have rv14 := n_rng v14
                  refine r_ishr C v14 (oDec_at oX12_feed 47 rfl) ev14 ?_
                  refine r_sipush C (oDec_at oX12_feed 48 rfl) (v := k255) (by rw [qk255]; rfl) ?_
                  obtain ⟨v15, ev15⟩ : ∃ z : Int32, z = v14 &&& k255 := ⟨_, rfl⟩
                  have hv15 := n_and ev15
                  have rv15 := n_rng v15
                  have hB := n_byS (x6.toNatClampNeg % 4) ev14 ev15 qk255 (by omega) (by omega)
                  refine r_iand C v15 (oDec_at oX12_feed 49 rfl) ev15 ?_
                  refine r_iast (n := 1600) (lo := 0) (hi := 255) C rfl (by decide) rfl rfl ⟨by omega, by omega⟩ (by decide) rfl rfl rfl rfl ⟨by omega, by omega⟩ (oDec_at oX12_feed 50 rfl) ?_
                  refine r_pc C 98 rfl ?_
                  refine r_aload_n C (j := 0) (oDec_at oX12_feed 51 rfl) rfl rfl ?_
                  refine r_dup C (oDec_at oX12_feed 52 rfl) rfl ?_
                  refine r_geti (k := 1) (lo := 0) (hi := 1600) C v9 oCl12 rfl (by decide) flX12_170 rfl rfl (((pI_ne (a := 71) (b := 1) (c := 72) _ _ (Or.inl (by decide)))).trans (ev9)) rfl rfl (oDec_at oX12_feed 53 rfl) (fun _ _ => ?_)
                  refine r_iconst C (oDec_at oX12_feed 54 rfl) (v := k1) (by rw [qk1]; rfl) ?_
                  obtain ⟨v16, ev16⟩ : ∃ z : Int32, z = v9 + k1 := ⟨_, rfl⟩
                  have hv16 : v16.toInt = v9.toInt + k1.toInt := n_add ev16 (by omega) (by omega)
                  refine r_iadd C v16 (oDec_at oX12_feed 55 rfl) ev16 ?_
                  refine r_puti (k := 1) (lo := 0) (hi := 1600) C oCl12 rfl (by decide) flX12_170 rfl rfl rfl rfl rfl rfl rfl rfl ⟨by omega, by omega⟩ (oDec_at oX12_feed 56 rfl) ?_
                  refine r_pc C 108 rfl ?_
                  obtain ⟨v17, ev17⟩ : ∃ z : Int32, x6 + Int32.ofInt 1 = z := ⟨_, rfl⟩
                  have hv17 : v17.toInt = x6.toInt + 1 := n_inc ev17 (by decide) (by omega) (by omega)
                  refine r_iinc C (j := 6) (lv' := [(0, .ref (oad E 71)), (1, .int a1), (2, .int a2), (3, .int a3), (4, .int a4), (5, .int a5), (6, .int v17), (7, .int a5)]) v17 [1, 2, 3, 4, 5, 6, 0, 7] (oDec_at oX12_feed 57 rfl) rfl ev17 (by decide) rfl ?_
                  refine r_goto C (tgt := 18) (oDec_at oX12_feed 58 rfl) (by decide) ?_
                  have lk18 : (((pI (pI t 72 v9.toNatClampNeg v15) 71 1 v16)).1 71 1).toInt = v16.toInt := congrArg Int32.toInt ((pI_self _ _ _ _))
                  refine r_pick C [0, 1, 2, 3, 4, 5, 6] rfl ?_
                  exact (ih (n - 1) (by omega)) ((pI (pI t 72 v9.toNatClampNeg v15) 71 1 v16)) v17  (by omega) (by omega) (by omega) (by first | exact oqFz_nx iv3 (by omega) (by omega) (by omega) (by omega) (hB.trans (by unfold oqF; first | rw [if_pos (by omega)] | rw [if_neg (by omega), if_pos (by omega)] | rw [if_neg (by omega), if_neg (by omega), if_pos (by omega)] | rw [if_neg (by omega), if_neg (by omega), if_neg (by omega), if_pos (by omega)] | rw [if_neg (by omega), if_neg (by omega), if_neg (by omega), if_neg (by omega)])) (by decide) | exact oqFz_0 (by omega)) (by omega)
                · skip
                  refine r_iload C (j := 4) (oDec_at oX12_feed 31 rfl) rfl ?_
                  refine r_goto C (tgt := 71) (oDec_at oX12_feed 32 rfl) (by decide) ?_
                  refine r_istore C (lv' := [(0, .ref (oad E 71)), (1, .int a1), (2, .int a2), (3, .int a3), (4, .int a4), (5, .int a5), (6, .int x6), (7, .int a4)]) [1, 2, 3, 4, 5, 6, 7, 0] (oDec_at oX12_feed 34 rfl) (by decide) rfl ?_
                  refine r_aload_n C (j := 0) (oDec_at oX12_feed 35 rfl) rfl rfl ?_
                  refine r_getF (k := 0) (b := 72) C oCl12 rfl (by decide) flX12_7 rfl rfl rfl (oDec_at oX12_feed 36 rfl) ?_
                  refine r_aload_n C (j := 0) (oDec_at oX12_feed 37 rfl) rfl rfl ?_
                  obtain ⟨v19, ev19⟩ : ∃ z : Int32, (t).1 71 1 = z := ⟨_, rfl⟩
                  have gv19 : (t.1 71 1).toInt = v19.toInt := congrArg Int32.toInt (ev19)
                  refine r_geti (k := 1) (lo := 0) (hi := 1600) C v19 oCl12 rfl (by decide) flX12_170 rfl rfl (ev19) rfl rfl (oDec_at oX12_feed 38 rfl) (fun b20 b20h => ?_)
                  refine r_pc C 81 rfl ?_
                  refine r_iload C (j := 7) (oDec_at oX12_feed 39 rfl) rfl ?_
                  refine r_bipush C (oDec_at oX12_feed 40 rfl) (v := k8) (by rw [qk8]; rfl) ?_
                  refine r_iconst C (oDec_at oX12_feed 41 rfl) (v := k3) (by rw [qk3]; rfl) ?_
                  refine r_iload C (j := 6) (oDec_at oX12_feed 42 rfl) rfl ?_
                  refine r_iconst C (oDec_at oX12_feed 43 rfl) (v := k4) (by rw [qk4]; rfl) ?_
                  obtain ⟨v21, ev21⟩ : ∃ z : Int32, z = x6 - x6 / k4 * k4 := ⟨_, rfl⟩
                  have hv21 := (n_rem (k := 4) ev21 ek4 (by decide)).1 (by omega)
                  refine r_irem C v21 (oDec_at oX12_feed 44 rfl) (n_ne0 (by omega)) ev21 ?_
                  refine r_pc C 90 rfl ?_
                  obtain ⟨v22, ev22⟩ : ∃ z : Int32, z = k3 - v21 := ⟨_, rfl⟩
                  have hv22 : v22.toInt = k3.toInt - v21.toInt := n_sub ev22 (by omega) (by omega)
                  refine r_isub C v22 (oDec_at oX12_feed 45 rfl) ev22 ?_
                  obtain ⟨v23, ev23⟩ : ∃ z : Int32, z = k8 * v22 := ⟨_, rfl⟩
                  have hv23 : v23.toInt = 8 * v22.toInt := n_mulK' 8 ev23 ek8 (by omega) (by omega)
                  refine r_imul C v23 (oDec_at oX12_feed 46 rfl) ev23 ?_
                  obtain ⟨v24, ev24⟩ : ∃ z : Int32, z = a4 >>> (v23 &&& 31) := ⟨_, rfl⟩
                  have rv24 := n_rng v24
                  refine r_ishr C v24 (oDec_at oX12_feed 47 rfl) ev24 ?_
                  refine r_sipush C (oDec_at oX12_feed 48 rfl) (v := k255) (by rw [qk255]; rfl) ?_
                  obtain ⟨v25, ev25⟩ : ∃ z : Int32, z = v24 &&& k255 := ⟨_, rfl⟩
                  have hv25 := n_and ev25
                  have rv25 := n_rng v25
                  have hB := n_byS (x6.toNatClampNeg % 4) ev24 ev25 qk255 (by omega) (by omega)
                  refine r_iand C v25 (oDec_at oX12_feed 49 rfl) ev25 ?_
                  refine r_iast (n := 1600) (lo := 0) (hi := 255) C rfl (by decide) rfl rfl ⟨by omega, by omega⟩ (by decide) rfl rfl rfl rfl ⟨by omega, by omega⟩ (oDec_at oX12_feed 50 rfl) ?_
                  refine r_pc C 98 rfl ?_
                  refine r_aload_n C (j := 0) (oDec_at oX12_feed 51 rfl) rfl rfl ?_
                  refine r_dup C (oDec_at oX12_feed 52 rfl) rfl ?_
                  refine r_geti (k := 1) (lo := 0) (hi := 1600) C v19 oCl12 rfl (by decide) flX12_170 rfl rfl (((pI_ne (a := 71) (b := 1) (c := 72) _ _ (Or.inl (by decide)))).trans (ev19)) rfl rfl (oDec_at oX12_feed 53 rfl) (fun _ _ => ?_)
                  refine r_iconst C (oDec_at oX12_feed 54 rfl) (v := k1) (by rw [qk1]; rfl) ?_
                  obtain ⟨v26, ev26⟩ : ∃ z : Int32, z = v19 + k1 := ⟨_, rfl⟩
                  have hv26 : v26.toInt = v19.toInt + k1.toInt := n_add ev26 (by omega) (by omega)
                  refine r_iadd C v26 (oDec_at oX12_feed 55 rfl) ev26 ?_
                  refine r_puti (k := 1) (lo := 0) (hi := 1600) C oCl12 rfl (by decide) flX12_170 rfl rfl rfl rfl rfl rfl rfl rfl ⟨by omega, by omega⟩ (oDec_at oX12_feed 56 rfl) ?_
                  refine r_pc C 108 rfl ?_
                  obtain ⟨v27, ev27⟩ : ∃ z : Int32, x6 + Int32.ofInt 1 = z := ⟨_, rfl⟩
                  have hv27 : v27.toInt = x6.toInt + 1 := n_inc ev27 (by decide) (by omega) (by omega)
                  refine r_iinc C (j := 6) (lv' := [(0, .ref (oad E 71)), (1, .int a1), (2, .int a2), (3, .int a3), (4, .int a4), (5, .int a5), (6, .int v27), (7, .int a4)]) v27 [1, 2, 3, 4, 5, 6, 0, 7] (oDec_at oX12_feed 57 rfl) rfl ev27 (by decide) rfl ?_
                  refine r_goto C (tgt := 18) (oDec_at oX12_feed 58 rfl) (by decide) ?_
                  have lk28 : (((pI (pI t 72 v19.toNatClampNeg v25) 71 1 v26)).1 71 1).toInt = v26.toInt := congrArg Int32.toInt ((pI_self _ _ _ _))
                  refine r_pick C [0, 1, 2, 3, 4, 5, 6] rfl ?_
                  exact (ih (n - 1) (by omega)) ((pI (pI t 72 v19.toNatClampNeg v25) 71 1 v26)) v27  (by omega) (by omega) (by omega) (by first | exact oqFz_nx iv3 (by omega) (by omega) (by omega) (by omega) (hB.trans (by unfold oqF; first | rw [if_pos (by omega)] | rw [if_neg (by omega), if_pos (by omega)] | rw [if_neg (by omega), if_neg (by omega), if_pos (by omega)] | rw [if_neg (by omega), if_neg (by omega), if_neg (by omega), if_pos (by omega)] | rw [if_neg (by omega), if_neg (by omega), if_neg (by omega), if_neg (by omega)])) (by decide) | exact oqFz_0 (by omega)) (by omega)
              · skip
                refine r_iload_n C (j := 3) (oDec_at oX12_feed 26 rfl) rfl rfl ?_
                refine r_goto C (tgt := 71) (oDec_at oX12_feed 27 rfl) (by decide) ?_
                refine r_istore C (lv' := [(0, .ref (oad E 71)), (1, .int a1), (2, .int a2), (3, .int a3), (4, .int a4), (5, .int a5), (6, .int x6), (7, .int a3)]) [1, 2, 3, 4, 5, 6, 7, 0] (oDec_at oX12_feed 34 rfl) (by decide) rfl ?_
                refine r_aload_n C (j := 0) (oDec_at oX12_feed 35 rfl) rfl rfl ?_
                refine r_getF (k := 0) (b := 72) C oCl12 rfl (by decide) flX12_7 rfl rfl rfl (oDec_at oX12_feed 36 rfl) ?_
                refine r_aload_n C (j := 0) (oDec_at oX12_feed 37 rfl) rfl rfl ?_
                obtain ⟨v29, ev29⟩ : ∃ z : Int32, (t).1 71 1 = z := ⟨_, rfl⟩
                have gv29 : (t.1 71 1).toInt = v29.toInt := congrArg Int32.toInt (ev29)
                refine r_geti (k := 1) (lo := 0) (hi := 1600) C v29 oCl12 rfl (by decide) flX12_170 rfl rfl (ev29) rfl rfl (oDec_at oX12_feed 38 rfl) (fun b30 b30h => ?_)
                refine r_pc C 81 rfl ?_
                refine r_iload C (j := 7) (oDec_at oX12_feed 39 rfl) rfl ?_
                refine r_bipush C (oDec_at oX12_feed 40 rfl) (v := k8) (by rw [qk8]; rfl) ?_
                refine r_iconst C (oDec_at oX12_feed 41 rfl) (v := k3) (by rw [qk3]; rfl) ?_
                refine r_iload C (j := 6) (oDec_at oX12_feed 42 rfl) rfl ?_
                refine r_iconst C (oDec_at oX12_feed 43 rfl) (v := k4) (by rw [qk4]; rfl) ?_
                obtain ⟨v31, ev31⟩ : ∃ z : Int32, z = x6 - x6 / k4 * k4 := ⟨_, rfl⟩
                have hv31 := (n_rem (k := 4) ev31 ek4 (by decide)).1 (by omega)
                refine r_irem C v31 (oDec_at oX12_feed 44 rfl) (n_ne0 (by omega)) ev31 ?_
                refine r_pc C 90 rfl ?_
                obtain ⟨v32, ev32⟩ : ∃ z : Int32, z = k3 - v31 := ⟨_, rfl⟩
                have hv32 : v32.toInt = k3.toInt - v31.toInt := n_sub ev32 (by omega) (by omega)
                refine r_isub C v32 (oDec_at oX12_feed 45 rfl) ev32 ?_
                obtain ⟨v33, ev33⟩ : ∃ z : Int32, z = k8 * v32 := ⟨_, rfl⟩
                have hv33 : v33.toInt = 8 * v32.toInt := n_mulK' 8 ev33 ek8 (by omega) (by omega)
                refine r_imul C v33 (oDec_at oX12_feed 46 rfl) ev33 ?_
                obtain ⟨v34, ev34⟩ : ∃ z : Int32, z = a3 >>> (v33 &&& 31) := ⟨_, rfl⟩
                have rv34 := n_rng v34
                refine r_ishr C v34 (oDec_at oX12_feed 47 rfl) ev34 ?_
                refine r_sipush C (oDec_at oX12_feed 48 rfl) (v := k255) (by rw [qk255]; rfl) ?_
                obtain ⟨v35, ev35⟩ : ∃ z : Int32, z = v34 &&& k255 := ⟨_, rfl⟩
                have hv35 := n_and ev35
                have rv35 := n_rng v35
                have hB := n_byS (x6.toNatClampNeg % 4) ev34 ev35 qk255 (by omega) (by omega)
                refine r_iand C v35 (oDec_at oX12_feed 49 rfl) ev35 ?_
                refine r_iast (n := 1600) (lo := 0) (hi := 255) C rfl (by decide) rfl rfl ⟨by omega, by omega⟩ (by decide) rfl rfl rfl rfl ⟨by omega, by omega⟩ (oDec_at oX12_feed 50 rfl) ?_
                refine r_pc C 98 rfl ?_
                refine r_aload_n C (j := 0) (oDec_at oX12_feed 51 rfl) rfl rfl ?_
                refine r_dup C (oDec_at oX12_feed 52 rfl) rfl ?_
                refine r_geti (k := 1) (lo := 0) (hi := 1600) C v29 oCl12 rfl (by decide) flX12_170 rfl rfl (((pI_ne (a := 71) (b := 1) (c := 72) _ _ (Or.inl (by decide)))).trans (ev29)) rfl rfl (oDec_at oX12_feed 53 rfl) (fun _ _ => ?_)
                refine r_iconst C (oDec_at oX12_feed 54 rfl) (v := k1) (by rw [qk1]; rfl) ?_
                obtain ⟨v36, ev36⟩ : ∃ z : Int32, z = v29 + k1 := ⟨_, rfl⟩
                have hv36 : v36.toInt = v29.toInt + k1.toInt := n_add ev36 (by omega) (by omega)
                refine r_iadd C v36 (oDec_at oX12_feed 55 rfl) ev36 ?_
                refine r_puti (k := 1) (lo := 0) (hi := 1600) C oCl12 rfl (by decide) flX12_170 rfl rfl rfl rfl rfl rfl rfl rfl ⟨by omega, by omega⟩ (oDec_at oX12_feed 56 rfl) ?_
                refine r_pc C 108 rfl ?_
                obtain ⟨v37, ev37⟩ : ∃ z : Int32, x6 + Int32.ofInt 1 = z := ⟨_, rfl⟩
                have hv37 : v37.toInt = x6.toInt + 1 := n_inc ev37 (by decide) (by omega) (by omega)
                refine r_iinc C (j := 6) (lv' := [(0, .ref (oad E 71)), (1, .int a1), (2, .int a2), (3, .int a3), (4, .int a4), (5, .int a5), (6, .int v37), (7, .int a3)]) v37 [1, 2, 3, 4, 5, 6, 0, 7] (oDec_at oX12_feed 57 rfl) rfl ev37 (by decide) rfl ?_
                refine r_goto C (tgt := 18) (oDec_at oX12_feed 58 rfl) (by decide) ?_
                have lk38 : (((pI (pI t 72 v29.toNatClampNeg v35) 71 1 v36)).1 71 1).toInt = v36.toInt := congrArg Int32.toInt ((pI_self _ _ _ _))
                refine r_pick C [0, 1, 2, 3, 4, 5, 6] rfl ?_
                exact (ih (n - 1) (by omega)) ((pI (pI t 72 v29.toNatClampNeg v35) 71 1 v36)) v37  (by omega) (by omega) (by omega) (by first | exact oqFz_nx iv3 (by omega) (by omega) (by omega) (by omega) (hB.trans (by unfold oqF; first | rw [if_pos (by omega)] | rw [if_neg (by omega), if_pos (by omega)] | rw [if_neg (by omega), if_neg (by omega), if_pos (by omega)] | rw [if_neg (by omega), if_neg (by omega), if_neg (by omega), if_pos (by omega)] | rw [if_neg (by omega), if_neg (by omega), if_neg (by omega), if_neg (by omega)])) (by decide) | exact oqFz_0 (by omega)) (by omega)
            · skip
              refine r_iload_n C (j := 2) (oDec_at oX12_feed 21 rfl) rfl rfl ?_
              refine r_goto C (tgt := 71) (oDec_at oX12_feed 22 rfl) (by decide) ?_
              refine r_istore C (lv' := [(0, .ref (oad E 71)), (1, .int a1), (2, .int a2), (3, .int a3), (4, .int a4), (5, .int a5), (6, .int x6), (7, .int a2)]) [1, 2, 3, 4, 5, 6, 7, 0] (oDec_at oX12_feed 34 rfl) (by decide) rfl ?_
              refine r_aload_n C (j := 0) (oDec_at oX12_feed 35 rfl) rfl rfl ?_
              refine r_getF (k := 0) (b := 72) C oCl12 rfl (by decide) flX12_7 rfl rfl rfl (oDec_at oX12_feed 36 rfl) ?_
              refine r_aload_n C (j := 0) (oDec_at oX12_feed 37 rfl) rfl rfl ?_
              obtain ⟨v39, ev39⟩ : ∃ z : Int32, (t).1 71 1 = z := ⟨_, rfl⟩
              have gv39 : (t.1 71 1).toInt = v39.toInt := congrArg Int32.toInt (ev39)
              refine r_geti (k := 1) (lo := 0) (hi := 1600) C v39 oCl12 rfl (by decide) flX12_170 rfl rfl (ev39) rfl rfl (oDec_at oX12_feed 38 rfl) (fun b40 b40h => ?_)
              refine r_pc C 81 rfl ?_
              refine r_iload C (j := 7) (oDec_at oX12_feed 39 rfl) rfl ?_
              refine r_bipush C (oDec_at oX12_feed 40 rfl) (v := k8) (by rw [qk8]; rfl) ?_
              refine r_iconst C (oDec_at oX12_feed 41 rfl) (v := k3) (by rw [qk3]; rfl) ?_
              refine r_iload C (j := 6) (oDec_at oX12_feed 42 rfl) rfl ?_
              refine r_iconst C (oDec_at oX12_feed 43 rfl) (v := k4) (by rw [qk4]; rfl) ?_
              obtain ⟨v41, ev41⟩ : ∃ z : Int32, z = x6 - x6 / k4 * k4 := ⟨_, rfl⟩
              have hv41 := (n_rem (k := 4) ev41 ek4 (by decide)).1 (by omega)
              refine r_irem C v41 (oDec_at oX12_feed 44 rfl) (n_ne0 (by omega)) ev41 ?_
              refine r_pc C 90 rfl ?_
              obtain ⟨v42, ev42⟩ : ∃ z : Int32, z = k3 - v41 := ⟨_, rfl⟩
              have hv42 : v42.toInt = k3.toInt - v41.toInt := n_sub ev42 (by omega) (by omega)
              refine r_isub C v42 (oDec_at oX12_feed 45 rfl) ev42 ?_
              obtain ⟨v43, ev43⟩ : ∃ z : Int32, z = k8 * v42 := ⟨_, rfl⟩
              have hv43 : v43.toInt = 8 * v42.toInt := n_mulK' 8 ev43 ek8 (by omega) (by omega)
              refine r_imul C v43 (oDec_at oX12_feed 46 rfl) ev43 ?_
              obtain ⟨v44, ev44⟩ : ∃ z : Int32, z = a2 >>> (v43 &&& 31) := ⟨_, rfl⟩
              have rv44 := n_rng v44
              refine r_ishr C v44 (oDec_at oX12_feed 47 rfl) ev44 ?_
              refine r_sipush C (oDec_at oX12_feed 48 rfl) (v := k255) (by rw [qk255]; rfl) ?_
              obtain ⟨v45, ev45⟩ : ∃ z : Int32, z = v44 &&& k255 := ⟨_, rfl⟩
              have hv45 := n_and ev45
              have rv45 := n_rng v45
              have hB := n_byS (x6.toNatClampNeg % 4) ev44 ev45 qk255 (by omega) (by omega)
              refine r_iand C v45 (oDec_at oX12_feed 49 rfl) ev45 ?_
              refine r_iast (n := 1600) (lo := 0) (hi := 255) C rfl (by decide) rfl rfl ⟨by omega, by omega⟩ (by decide) rfl rfl rfl rfl ⟨by omega, by omega⟩ (oDec_at oX12_feed 50 rfl) ?_
              refine r_pc C 98 rfl ?_
              refine r_aload_n C (j := 0) (oDec_at oX12_feed 51 rfl) rfl rfl ?_
              refine r_dup C (oDec_at oX12_feed 52 rfl) rfl ?_
              refine r_geti (k := 1) (lo := 0) (hi := 1600) C v39 oCl12 rfl (by decide) flX12_170 rfl rfl (((pI_ne (a := 71) (b := 1) (c := 72) _ _ (Or.inl (by decide)))).trans (ev39)) rfl rfl (oDec_at oX12_feed 53 rfl) (fun _ _ => ?_)
              refine r_iconst C (oDec_at oX12_feed 54 rfl) (v := k1) (by rw [qk1]; rfl) ?_
              obtain ⟨v46, ev46⟩ : ∃ z : Int32, z = v39 + k1 := ⟨_, rfl⟩
              have hv46 : v46.toInt = v39.toInt + k1.toInt := n_add ev46 (by omega) (by omega)
              refine r_iadd C v46 (oDec_at oX12_feed 55 rfl) ev46 ?_
              refine r_puti (k := 1) (lo := 0) (hi := 1600) C oCl12 rfl (by decide) flX12_170 rfl rfl rfl rfl rfl rfl rfl rfl ⟨by omega, by omega⟩ (oDec_at oX12_feed 56 rfl) ?_
              refine r_pc C 108 rfl ?_
              obtain ⟨v47, ev47⟩ : ∃ z : Int32, x6 + Int32.ofInt 1 = z := ⟨_, rfl⟩
              have hv47 : v47.toInt = x6.toInt + 1 := n_inc ev47 (by decide) (by omega) (by omega)
              refine r_iinc C (j := 6) (lv' := [(0, .ref (oad E 71)), (1, .int a1), (2, .int a2), (3, .int a3), (4, .int a4), (5, .int a5), (6, .int v47), (7, .int a2)]) v47 [1, 2, 3, 4, 5, 6, 0, 7] (oDec_at oX12_feed 57 rfl) rfl ev47 (by decide) rfl ?_
              refine r_goto C (tgt := 18) (oDec_at oX12_feed 58 rfl) (by decide) ?_
              have lk48 : (((pI (pI t 72 v39.toNatClampNeg v45) 71 1 v46)).1 71 1).toInt = v46.toInt := congrArg Int32.toInt ((pI_self _ _ _ _))
              refine r_pick C [0, 1, 2, 3, 4, 5, 6] rfl ?_
              exact (ih (n - 1) (by omega)) ((pI (pI t 72 v39.toNatClampNeg v45) 71 1 v46)) v47  (by omega) (by omega) (by omega) (by first | exact oqFz_nx iv3 (by omega) (by omega) (by omega) (by omega) (hB.trans (by unfold oqF; first | rw [if_pos (by omega)] | rw [if_neg (by omega), if_pos (by omega)] | rw [if_neg (by omega), if_neg (by omega), if_pos (by omega)] | rw [if_neg (by omega), if_neg (by omega), if_neg (by omega), if_pos (by omega)] | rw [if_neg (by omega), if_neg (by omega), if_neg (by omega), if_neg (by omega)])) (by decide) | exact oqFz_0 (by omega)) (by omega)
          · skip
            refine r_iload_n C (j := 1) (oDec_at oX12_feed 16 rfl) rfl rfl ?_
            refine r_goto C (tgt := 71) (oDec_at oX12_feed 17 rfl) (by decide) ?_
            refine r_istore C (lv' := [(0, .ref (oad E 71)), (1, .int a1), (2, .int a2), (3, .int a3), (4, .int a4), (5, .int a5), (6, .int x6), (7, .int a1)]) [1, 2, 3, 4, 5, 6, 7, 0] (oDec_at oX12_feed 34 rfl) (by decide) rfl ?_
            refine r_aload_n C (j := 0) (oDec_at oX12_feed 35 rfl) rfl rfl ?_
            refine r_getF (k := 0) (b := 72) C oCl12 rfl (by decide) flX12_7 rfl rfl rfl (oDec_at oX12_feed 36 rfl) ?_
            refine r_aload_n C (j := 0) (oDec_at oX12_feed 37 rfl) rfl rfl ?_
            obtain ⟨v49, ev49⟩ : ∃ z : Int32, (t).1 71 1 = z := ⟨_, rfl⟩
            have gv49 : (t.1 71 1).toInt = v49.toInt := congrArg Int32.toInt (ev49)
            refine r_geti (k := 1) (lo := 0) (hi := 1600) C v49 oCl12 rfl (by decide) flX12_170 rfl rfl (ev49) rfl rfl (oDec_at oX12_feed 38 rfl) (fun b50 b50h => ?_)
            refine r_pc C 81 rfl ?_
            refine r_iload C (j := 7) (oDec_at oX12_feed 39 rfl) rfl ?_
            refine r_bipush C (oDec_at oX12_feed 40 rfl) (v := k8) (by rw [qk8]; rfl) ?_
            refine r_iconst C (oDec_at oX12_feed 41 rfl) (v := k3) (by rw [qk3]; rfl) ?_
            refine r_iload C (j := 6) (oDec_at oX12_feed 42 rfl) rfl ?_
            refine r_iconst C (oDec_at oX12_feed 43 rfl) (v := k4) (by rw [qk4]; rfl) ?_
            obtain ⟨v51, ev51⟩ : ∃ z : Int32, z = x6 - x6 / k4 * k4 := ⟨_, rfl⟩
            have hv51 := (n_rem (k := 4) ev51 ek4 (by decide)).1 (by omega)
            refine r_irem C v51 (oDec_at oX12_feed 44 rfl) (n_ne0 (by omega)) ev51 ?_
            refine r_pc C 90 rfl ?_
            obtain ⟨v52, ev52⟩ : ∃ z : Int32, z = k3 - v51 := ⟨_, rfl⟩
            have hv52 : v52.toInt = k3.toInt - v51.toInt := n_sub ev52 (by omega) (by omega)
            refine r_isub C v52 (oDec_at oX12_feed 45 rfl) ev52 ?_
            obtain ⟨v53, ev53⟩ : ∃ z : Int32, z = k8 * v52 := ⟨_, rfl⟩
            have hv53 : v53.toInt = 8 * v52.toInt := n_mulK' 8 ev53 ek8 (by omega) (by omega)
            refine r_imul C v53 (oDec_at oX12_feed 46 rfl) ev53 ?_
            obtain ⟨v54, ev54⟩ : ∃ z : Int32, z = a1 >>> (v53 &&& 31) := ⟨_, rfl⟩
            have rv54 := n_rng v54
            refine r_ishr C v54 (oDec_at oX12_feed 47 rfl) ev54 ?_
            refine r_sipush C (oDec_at oX12_feed 48 rfl) (v := k255) (by rw [qk255]; rfl) ?_
            obtain ⟨v55, ev55⟩ : ∃ z : Int32, z = v54 &&& k255 := ⟨_, rfl⟩
            have hv55 := n_and ev55
            have rv55 := n_rng v55
            have hB := n_byS (x6.toNatClampNeg % 4) ev54 ev55 qk255 (by omega) (by omega)
            refine r_iand C v55 (oDec_at oX12_feed 49 rfl) ev55 ?_
            refine r_iast (n := 1600) (lo := 0) (hi := 255) C rfl (by decide) rfl rfl ⟨by omega, by omega⟩ (by decide) rfl rfl rfl rfl ⟨by omega, by omega⟩ (oDec_at oX12_feed 50 rfl) ?_
            refine r_pc C 98 rfl ?_
            refine r_aload_n C (j := 0) (oDec_at oX12_feed 51 rfl) rfl rfl ?_
            refine r_dup C (oDec_at oX12_feed 52 rfl) rfl ?_
            refine r_geti (k := 1) (lo := 0) (hi := 1600) C v49 oCl12 rfl (by decide) flX12_170 rfl rfl (((pI_ne (a := 71) (b := 1) (c := 72) _ _ (Or.inl (by decide)))).trans (ev49)) rfl rfl (oDec_at oX12_feed 53 rfl) (fun _ _ => ?_)
            refine r_iconst C (oDec_at oX12_feed 54 rfl) (v := k1) (by rw [qk1]; rfl) ?_
            obtain ⟨v56, ev56⟩ : ∃ z : Int32, z = v49 + k1 := ⟨_, rfl⟩
            have hv56 : v56.toInt = v49.toInt + k1.toInt := n_add ev56 (by omega) (by omega)
            refine r_iadd C v56 (oDec_at oX12_feed 55 rfl) ev56 ?_
            refine r_puti (k := 1) (lo := 0) (hi := 1600) C oCl12 rfl (by decide) flX12_170 rfl rfl rfl rfl rfl rfl rfl rfl ⟨by omega, by omega⟩ (oDec_at oX12_feed 56 rfl) ?_
            refine r_pc C 108 rfl ?_
            obtain ⟨v57, ev57⟩ : ∃ z : Int32, x6 + Int32.ofInt 1 = z := ⟨_, rfl⟩
            have hv57 : v57.toInt = x6.toInt + 1 := n_inc ev57 (by decide) (by omega) (by omega)
            refine r_iinc C (j := 6) (lv' := [(0, .ref (oad E 71)), (1, .int a1), (2, .int a2), (3, .int a3), (4, .int a4), (5, .int a5), (6, .int v57), (7, .int a1)]) v57 [1, 2, 3, 4, 5, 6, 0, 7] (oDec_at oX12_feed 57 rfl) rfl ev57 (by decide) rfl ?_
            refine r_goto C (tgt := 18) (oDec_at oX12_feed 58 rfl) (by decide) ?_
            have lk58 : (((pI (pI t 72 v49.toNatClampNeg v55) 71 1 v56)).1 71 1).toInt = v56.toInt := congrArg Int32.toInt ((pI_self _ _ _ _))
            refine r_pick C [0, 1, 2, 3, 4, 5, 6] rfl ?_
            exact (ih (n - 1) (by omega)) ((pI (pI t 72 v49.toNatClampNeg v55) 71 1 v56)) v57  (by omega) (by omega) (by omega) (by first | exact oqFz_nx iv3 (by omega) (by omega) (by omega) (by omega) (hB.trans (by unfold oqF; first | rw [if_pos (by omega)] | rw [if_neg (by omega), if_pos (by omega)] | rw [if_neg (by omega), if_neg (by omega), if_pos (by omega)] | rw [if_neg (by omega), if_neg (by omega), if_neg (by omega), if_pos (by omega)] | rw [if_neg (by omega), if_neg (by omega), if_neg (by omega), if_neg (by omega)])) (by decide) | exact oqFz_0 (by omega)) (by omega)
  refine r_aload_n C (j := 0) (oDec_at oX12_feed 0 rfl) rfl rfl ?_
  obtain ⟨v59, ev59⟩ : ∃ z : Int32, (s).1 71 1 = z := ⟨_, rfl⟩
  have gv59 : (s.1 71 1).toInt = v59.toInt := congrArg Int32.toInt (ev59)
  refine r_geti (k := 1) (lo := 0) (hi := 1600) C v59 oCl12 rfl (by decide) flX12_170 rfl rfl (ev59) rfl rfl (oDec_at oX12_feed 1 rfl) (fun b60 b60h => ?_)
  refine r_bipush C (oDec_at oX12_feed 2 rfl) (v := k20) (by rw [qk20]; rfl) ?_
  obtain ⟨v61, ev61⟩ : ∃ z : Int32, z = v59 + k20 := ⟨_, rfl⟩
  have hv61 : v61.toInt = v59.toInt + k20.toInt := n_add ev61 (by omega) (by omega)
  refine r_iadd C v61 (oDec_at oX12_feed 3 rfl) ev61 ?_
  refine r_sipush C (oDec_at oX12_feed 4 rfl) (v := k1600) (by rw [qk1600]; rfl) ?_
  refine r_icmp_le C 15 (oDec_at oX12_feed 5 rfl) (by decide) (fun cd62 => ?_) (fun cd62 => ?_)
  · skip
    refine r_iconst C (oDec_at oX12_feed 8 rfl) (v := k0) (by rw [qk0]; rfl) ?_
    refine r_istore C (lv' := [(0, .ref (oad E 71)), (1, .int a1), (2, .int a2), (3, .int a3), (4, .int a4), (5, .int a5), (6, .int k0)]) [1, 2, 3, 4, 5, 6, 0] (oDec_at oX12_feed 9 rfl) (by decide) rfl ?_
    have lk63 : ((s).1 71 1).toInt = v59.toInt := congrArg Int32.toInt (ev59)
    exact (key (21 - k0.toInt).toNat) (s) k0  (by omega) (by omega) (by omega) (by first | exact oqFz_0 (by omega)) (by omega)
  · skip
    refine r_iconst C (oDec_at oX12_feed 6 rfl) (v := km1) (by rw [qkm1]; rfl) ?_
    have lk64 : ((s).1 71 1).toInt = v59.toInt := congrArg Int32.toInt (ev59)
    exact r_iret C (oDec_at oX12_feed 7 rfl) ⟨_, rfl, ⟨by omega, Or.inl ⟨by omega, rfl⟩⟩⟩
