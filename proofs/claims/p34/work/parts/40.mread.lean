set_option maxHeartbeats 4000000 in
set_option maxRecDepth 100000 in
theorem ct_X12_isIn (l : Launch) (E : oE) (s : oS) (a0 : Int64) (a2 : Int64) (a4 : Int64)  : oMet l 1 yX12_isIn cX12_isIn 6 (some .boolean) [] E s [.long a0, .long a2, .long a4] (oPi (fun r u => (0 ≤ r.toInt ∧ r.toInt ≤ 1) ∧ ((r.toInt = 1 ∧ a2.toInt ≤ a0.toInt ∧ a0.toInt ≤ a4.toInt) ∨ (r.toInt = 0 ∧ (a0.toInt < a2.toInt ∨ a4.toInt < a0.toInt))))) := by
  refine oMet.of (lv := [(0, .long a0), (2, .long a2), (4, .long a4)]) (by decide +kernel) (Nat.le_of_ble_eq_true rfl) rfl (fun J C hT => ?_)
  have C : oC l 1 cX12_isIn RX12 6 (some .boolean) [] E s (oPi (fun r u => (0 ≤ r.toInt ∧ r.toInt ≤ 1) ∧ ((r.toInt = 1 ∧ a2.toInt ≤ a0.toInt ∧ a0.toInt ≤ a4.toInt) ∨ (r.toInt = 0 ∧ (a0.toInt < a2.toInt ∨ a4.toInt < a0.toInt))))) J := C
  obtain ⟨k0, qk0⟩ : ∃ z : Int32, z = 0 := ⟨_, rfl⟩
  have ek0 : k0.toInt = 0 := by rw [qk0]; rfl
  obtain ⟨k1, qk1⟩ : ∃ z : Int32, z = 1 := ⟨_, rfl⟩
  have ek1 : k1.toInt = 1 := by rw [qk1]; rfl
  refine r_lload_n C (j := 0) (oDec_at oX12_isIn 0 rfl) rfl rfl ?_
  refine r_lload_n C (j := 1) (oDec_at oX12_isIn 1 rfl) rfl rfl ?_
  obtain ⟨v1, ev1⟩ : ∃ z : Int32, z = lg_cmp a0 a2 := ⟨_, rfl⟩
  have hv1 := n_lcmp ev1
  refine r_lcmp C v1 (oDec_at oX12_isIn 2 rfl) ev1 ?_
  refine r_if_lt C 17 (oDec_at oX12_isIn 3 rfl) (by decide) (fun cd2 => ?_) (fun cd2 => ?_)
  · skip
    refine r_iconst C (oDec_at oX12_isIn 10 rfl) (v := k0) (by rw [qk0]; rfl) ?_
    exact r_zret C (n_bool (by omega)) (oDec_at oX12_isIn 11 rfl) ⟨_, rfl, ⟨by omega, by omega⟩⟩
  · skip
    refine r_lload_n C (j := 0) (oDec_at oX12_isIn 4 rfl) rfl rfl ?_
    refine r_lload C (j := 2) (oDec_at oX12_isIn 5 rfl) rfl ?_
    obtain ⟨v3, ev3⟩ : ∃ z : Int32, z = lg_cmp a0 a4 := ⟨_, rfl⟩
    have hv3 := n_lcmp ev3
    refine r_lcmp C v3 (oDec_at oX12_isIn 6 rfl) ev3 ?_
    refine r_if_gt C 17 (oDec_at oX12_isIn 7 rfl) (by decide) (fun cd4 => ?_) (fun cd4 => ?_)
    · skip
      refine r_iconst C (oDec_at oX12_isIn 10 rfl) (v := k0) (by rw [qk0]; rfl) ?_
      exact r_zret C (n_bool (by omega)) (oDec_at oX12_isIn 11 rfl) ⟨_, rfl, ⟨by omega, by omega⟩⟩
    · skip
      refine r_iconst C (oDec_at oX12_isIn 8 rfl) (v := k1) (by rw [qk1]; rfl) ?_
      refine r_goto C (tgt := 18) (oDec_at oX12_isIn 9 rfl) (by decide) ?_
      exact r_zret C (n_bool (by omega)) (oDec_at oX12_isIn 11 rfl) ⟨_, rfl, ⟨by omega, by omega⟩⟩
set_option maxHeartbeats 4000000 in
set_option maxRecDepth 100000 in
theorem ct_X12_feed (l : Launch) (E : oE) (s : oS) (a1 : Int32) (a2 : Int32) (a3 : Int32) (a4 : Int32) (a5 : Int32)  : oMet l 1 yX12_feed cX12_feed 8 (some .int) [(12, 1), (48, 9999)] E s [.ref (oad E 71), .int a1, .int a2, .int a3, .int a4, .int a5] (oPi (fun r u => (((s.1 71 1).toInt + 20 ≤ 1600 ∧ r.toInt = (s.1 71 1).toInt + 20 ∧ (u.1 71 1).toInt = (s.1 71 1).toInt + 20) ∨ (1600 < (s.1 71 1).toInt + 20 ∧ r.toInt = -1 ∧ (u.1 71 1).toInt = (s.1 71 1).toInt)))) := by
  refine oMet.of (lv := [(0, .ref (oad E 71)), (1, .int a1), (2, .int a2), (3, .int a3), (4, .int a4), (5, .int a5)]) (by decide +kernel) (Nat.le_of_ble_eq_true rfl) rfl (fun J C hT => ?_)
  have C : oC l 1 cX12_feed RX12 8 (some .int) [(12, 1), (48, 9999)] E s (oPi (fun r u => (((s.1 71 1).toInt + 20 ≤ 1600 ∧ r.toInt = (s.1 71 1).toInt + 20 ∧ (u.1 71 1).toInt = (s.1 71 1).toInt + 20) ∨ (1600 < (s.1 71 1).toInt + 20 ∧ r.toInt = -1 ∧ (u.1 71 1).toInt = (s.1 71 1).toInt)))) J := C
  obtain ⟨km1, qkm1⟩ : ∃ z : Int32, z = (-1) := ⟨_, rfl⟩
  have ekm1 : km1.toInt = (-1) := by rw [qkm1]; rfl
  obtain ⟨k0, qk0⟩ : ∃ z : Int32, z = 0 := ⟨_, rfl⟩
  have ek0 : k0.toInt = 0 := by rw [qk0]; rfl
  obtain ⟨k1, qk1⟩ : ∃ z : Int32, z = 1 := ⟨_, rfl⟩
  have ek1 : k1.toInt = 1 := by rw [qk1]; rfl
  obtain ⟨k3, qk3⟩ : ∃ z : Int32, z = 3 := ⟨_, rfl⟩
  have ek3 : k3.toInt = 3 := by rw [qk3]; rfl
  obtain ⟨k4, qk4⟩ : ∃ z : Int32, z = 4 := ⟨_, rfl⟩
  have ek4 : k4.toInt = 4 := by rw [qk4]; rfl
  obtain ⟨k8, qk8⟩ : ∃ z : Int32, z = 8 := ⟨_, rfl⟩
  have ek8 : k8.toInt = 8 := by rw [qk8]; rfl
  obtain ⟨k12, qk12⟩ : ∃ z : Int32, z = 12 := ⟨_, rfl⟩
  have ek12 : k12.toInt = 12 := by rw [qk12]; rfl
  obtain ⟨k16, qk16⟩ : ∃ z : Int32, z = 16 := ⟨_, rfl⟩
  have ek16 : k16.toInt = 16 := by rw [qk16]; rfl
  obtain ⟨k20, qk20⟩ : ∃ z : Int32, z = 20 := ⟨_, rfl⟩
  have ek20 : k20.toInt = 20 := by rw [qk20]; rfl
  obtain ⟨k255, qk255⟩ : ∃ z : Int32, z = 255 := ⟨_, rfl⟩
  have ek255 : k255.toInt = 255 := by rw [qk255]; rfl
  obtain ⟨k1600, qk1600⟩ : ∃ z : Int32, z = 1600 := ⟨_, rfl⟩
  have ek1600 : k1600.toInt = 1600 := by rw [qk1600]; rfl
  have rg1 := n_rng a1
  have rg2 := n_rng a2
  have rg3 := n_rng a3
  have rg4 := n_rng a4
  have rg5 := n_rng a5
  have key : ∀ n : Nat, (∀ (t : oS) (x6 : Int32), (0 ≤ x6.toInt ∧ x6.toInt ≤ 20) → ((t.1 71 1).toInt = (s.1 71 1).toInt + x6.toInt) → ((s.1 71 1).toInt + 20 ≤ 1600) → 21 - x6.toInt ≤ (n : Int) → J t 18 [(0, .ref (oad E 71)), (1, .int a1), (2, .int a2), (3, .int a3), (4, .int a4), (5, .int a5), (6, .int x6)] []) := by
    intro n
    induction n using Nat.strongRecOn with
    | _ n ih =>
      skip
      · intro t x6  iv0 iv1 iv2 hmu
        have rx6 := n_rng x6
        refine r_iload C (j := 6) (oDec_at oX12_feed 10 rfl) rfl ?_
        refine r_bipush C (oDec_at oX12_feed 11 rfl) (v := k20) (by rw [qk20]; rfl) ?_
        refine r_icmp_ge C 114 (oDec_at oX12_feed 12 rfl) (by decide) (fun cd1 => ?_) (fun cd1 => ?_)
        · skip
          refine r_aload_n C (j := 0) (oDec_at oX12_feed 59 rfl) rfl rfl ?_
          obtain ⟨v2, ev2⟩ : ∃ z : Int32, (t).1 71 1 = z := ⟨_, rfl⟩
          have gv2 : (t.1 71 1).toInt = v2.toInt := congrArg Int32.toInt (ev2)
          refine r_geti (k := 1) (lo := 0) (hi := 1600) C v2 oCl12 rfl (by decide) flX12_170 rfl rfl (ev2) rfl rfl (oDec_at oX12_feed 60 rfl) (fun b3 b3h => ?_)
          have lk4 : ((t).1 71 1).toInt = v2.toInt := congrArg Int32.toInt (ev2)
          exact r_iret C (oDec_at oX12_feed 61 rfl) ⟨_, rfl, by omega⟩
        · skip
          refine r_iload C (j := 6) (oDec_at oX12_feed 13 rfl) rfl ?_
          refine r_iconst C (oDec_at oX12_feed 14 rfl) (v := k4) (by rw [qk4]; rfl) ?_
          refine r_icmp_ge C 35 (oDec_at oX12_feed 15 rfl) (by decide) (fun cd5 => ?_) (fun cd5 => ?_)
          · skip
            refine r_iload C (j := 6) (oDec_at oX12_feed 18 rfl) rfl ?_
            refine r_bipush C (oDec_at oX12_feed 19 rfl) (v := k8) (by rw [qk8]; rfl) ?_
            refine r_icmp_ge C 46 (oDec_at oX12_feed 20 rfl) (by decide) (fun cd6 => ?_) (fun cd6 => ?_)
            · skip
              refine r_iload C (j := 6) (oDec_at oX12_feed 23 rfl) rfl ?_
              refine r_bipush C (oDec_at oX12_feed 24 rfl) (v := k12) (by rw [qk12]; rfl) ?_
              refine r_icmp_ge C 57 (oDec_at oX12_feed 25 rfl) (by decide) (fun cd7 => ?_) (fun cd7 => ?_)
              · skip
                refine r_iload C (j := 6) (oDec_at oX12_feed 28 rfl) rfl ?_
                refine r_bipush C (oDec_at oX12_feed 29 rfl) (v := k16) (by rw [qk16]; rfl) ?_
                refine r_icmp_ge C 69 (oDec_at oX12_feed 30 rfl) (by decide) (fun cd8 => ?_) (fun cd8 => ?_)
                · skip
                  refine r_iload C (j := 5) (oDec_at oX12_feed 33 rfl) rfl ?_
                  refine r_istore C (lv' := [(0, .ref (oad E 71)), (1, .int a1), (2, .int a2), (3, .int a3), (4, .int a4), (5, .int a5), (6, .int x6), (7, .int a5)]) [1, 2, 3, 4, 5, 6, 7, 0] (oDec_at oX12_feed 34 rfl) (by decide) rfl ?_
                  refine r_aload_n C (j := 0) (oDec_at oX12_feed 35 rfl) rfl rfl ?_
                  refine r_getF (k := 0) (b := 72) C oCl12 rfl (by decide) flX12_7 rfl rfl rfl (oDec_at oX12_feed 36 rfl) ?_
                  refine r_aload_n C (j := 0) (oDec_at oX12_feed 37 rfl) rfl rfl ?_
                  obtain ⟨v9, ev9⟩ : ∃ z : Int32, (t).1 71 1 = z := ⟨_, rfl⟩
                  have gv9 : (t.1 71 1).toInt = v9.toInt := congrArg Int32.toInt (ev9)
                  refine r_geti (k := 1) (lo := 0) (hi := 1600) C v9 oCl12 rfl (by decide) flX12_170 rfl rfl (ev9) rfl rfl (oDec_at oX12_feed 38 rfl) (fun b10 b10h => ?_)
                  refine r_pc C 81 rfl ?_
                  refine r_iload C (j := 7) (oDec_at oX12_feed 39 rfl) rfl ?_
                  refine r_bipush C (oDec_at oX12_feed 40 rfl) (v := k8) (by rw [qk8]; rfl) ?_
                  refine r_iconst C (oDec_at oX12_feed 41 rfl) (v := k3) (by rw [qk3]; rfl) ?_
                  refine r_iload C (j := 6) (oDec_at oX12_feed 42 rfl) rfl ?_
                  refine r_iconst C (oDec_at oX12_feed 43 rfl) (v := k4) (by rw [qk4]; rfl) ?_
                  obtain ⟨v11, ev11⟩ : ∃ z : Int32, z = x6 - x6 / k4 * k4 := ⟨_, rfl⟩
                  have hv11 := n_rem (k := 4) ev11 ek4 (by decide)
                  have rv11 := n_rng v11
                  refine r_irem C v11 (oDec_at oX12_feed 44 rfl) (n_ne0 (by omega)) ev11 ?_
                  refine r_pc C 90 rfl ?_
                  obtain ⟨v12, ev12⟩ : ∃ z : Int32, z = k3 - v11 := ⟨_, rfl⟩
                  have hv12 : v12.toInt = k3.toInt - v11.toInt := n_sub ev12 (by omega) (by omega)
                  refine r_isub C v12 (oDec_at oX12_feed 45 rfl) ev12 ?_
                  obtain ⟨v13, ev13⟩ : ∃ z : Int32, z = k8 * v12 := ⟨_, rfl⟩
                  have hv13 : v13.toInt = 8 * v12.toInt := n_mulK' 8 ev13 ek8 (by omega) (by omega)
                  refine r_imul C v13 (oDec_at oX12_feed 46 rfl) ev13 ?_
                  obtain ⟨v14, ev14⟩ : ∃ z : Int32, z = a5 >>> (v13 &&& 31) := ⟨_, rfl⟩
                  have rv14 := n_rng v14
                  refine r_ishr C v14 (oDec_at oX12_feed 47 rfl) ev14 ?_
                  refine r_sipush C (oDec_at oX12_feed 48 rfl) (v := k255) (by rw [qk255]; rfl) ?_
                  obtain ⟨v15, ev15⟩ : ∃ z : Int32, z = v14 &&& k255 := ⟨_, rfl⟩
                  have hv15 := n_and ev15
                  have rv15 := n_rng v15
                  refine r_iand C v15 (oDec_at oX12_feed 49 rfl) ev15 ?_
                  refine r_iast (n := 1600) (lo := 0) (hi := 255) C rfl (by decide) rfl rfl ⟨by omega, by omega⟩ (by decide) rfl rfl rfl rfl ⟨by omega, by omega⟩ (oDec_at oX12_feed 50 rfl) ?_
                  refine r_pc C 98 rfl ?_
                  refine r_aload_n C (j := 0) (oDec_at oX12_feed 51 rfl) rfl rfl ?_
                  refine r_dup C (oDec_at oX12_feed 52 rfl) rfl ?_
                  refine r_geti (k := 1) (lo := 0) (hi := 1600) C v9 oCl12 rfl (by decide) flX12_170 rfl rfl (((pI_ne (a := 71) (b := 1) (c := 72) _ _ (Or.inl (by decide)))).trans (ev9)) rfl rfl (oDec_at oX12_feed 53 rfl) (fun _ _ => ?_)
                  refine r_iconst C (oDec_at oX12_feed 54 rfl) (v := k1) (by rw [qk1]; rfl) ?_
                  obtain ⟨v16, ev16⟩ : ∃ z : Int32, z = v9 + k1 := ⟨_, rfl⟩
                  have hv16 : v16.toInt = v9.toInt + k1.toInt := n_add ev16 (by omega) (by omega)
                  refine r_iadd C v16 (oDec_at oX12_feed 55 rfl) ev16 ?_
                  refine r_puti (k := 1) (lo := 0) (hi := 1600) C oCl12 rfl (by decide) flX12_170 rfl rfl rfl rfl rfl rfl rfl rfl ⟨by omega, by omega⟩ (oDec_at oX12_feed 56 rfl) ?_
                  refine r_pc C 108 rfl ?_
                  obtain ⟨v17, ev17⟩ : ∃ z : Int32, x6 + Int32.ofInt 1 = z := ⟨_, rfl⟩
                  have hv17 : v17.toInt = x6.toInt + 1 := n_inc ev17 (by decide) (by omega) (by omega)
                  refine r_iinc C (j := 6) (lv' := [(0, .ref (oad E 71)), (1, .int a1), (2, .int a2), (3, .int a3), (4, .int a4), (5, .int a5), (6, .int v17), (7, .int a5)]) v17 [1, 2, 3, 4, 5, 6, 0, 7] (oDec_at oX12_feed 57 rfl) rfl ev17 (by decide) rfl ?_
                  refine r_goto C (tgt := 18) (oDec_at oX12_feed 58 rfl) (by decide) ?_
                  have lk18 : (((pI (pI t 72 v9.toNatClampNeg v15) 71 1 v16)).1 71 1).toInt = v16.toInt := congrArg Int32.toInt ((pI_self _ _ _ _))
                  refine r_pick C [0, 1, 2, 3, 4, 5, 6] rfl ?_
                  exact (ih (n - 1) (by omega)) ((pI (pI t 72 v9.toNatClampNeg v15) 71 1 v16)) v17  (by omega) (by omega) (by omega) (by omega)
                · skip
                  refine r_iload C (j := 4) (oDec_at oX12_feed 31 rfl) rfl ?_
                  refine r_goto C (tgt := 71) (oDec_at oX12_feed 32 rfl) (by decide) ?_
                  refine r_istore C (lv' := [(0, .ref (oad E 71)), (1, .int a1), (2, .int a2), (3, .int a3), (4, .int a4), (5, .int a5), (6, .int x6), (7, .int a4)]) [1, 2, 3, 4, 5, 6, 7, 0] (oDec_at oX12_feed 34 rfl) (by decide) rfl ?_
                  refine r_aload_n C (j := 0) (oDec_at oX12_feed 35 rfl) rfl rfl ?_
                  refine r_getF (k := 0) (b := 72) C oCl12 rfl (by decide) flX12_7 rfl rfl rfl (oDec_at oX12_feed 36 rfl) ?_
                  refine r_aload_n C (j := 0) (oDec_at oX12_feed 37 rfl) rfl rfl ?_
                  obtain ⟨v19, ev19⟩ : ∃ z : Int32, (t).1 71 1 = z := ⟨_, rfl⟩
                  have gv19 : (t.1 71 1).toInt = v19.toInt := congrArg Int32.toInt (ev19)
                  refine r_geti (k := 1) (lo := 0) (hi := 1600) C v19 oCl12 rfl (by decide) flX12_170 rfl rfl (ev19) rfl rfl (oDec_at oX12_feed 38 rfl) (fun b20 b20h => ?_)
                  refine r_pc C 81 rfl ?_
                  refine r_iload C (j := 7) (oDec_at oX12_feed 39 rfl) rfl ?_
                  refine r_bipush C (oDec_at oX12_feed 40 rfl) (v := k8) (by rw [qk8]; rfl) ?_
                  refine r_iconst C (oDec_at oX12_feed 41 rfl) (v := k3) (by rw [qk3]; rfl) ?_
                  refine r_iload C (j := 6) (oDec_at oX12_feed 42 rfl) rfl ?_
                  refine r_iconst C (oDec_at oX12_feed 43 rfl) (v := k4) (by rw [qk4]; rfl) ?_
                  obtain ⟨v21, ev21⟩ : ∃ z : Int32, z = x6 - x6 / k4 * k4 := ⟨_, rfl⟩
                  have hv21 := n_rem (k := 4) ev21 ek4 (by decide)
                  have rv21 := n_rng v21
                  refine r_irem C v21 (oDec_at oX12_feed 44 rfl) (n_ne0 (by omega)) ev21 ?_
                  refine r_pc C 90 rfl ?_
                  obtain ⟨v22, ev22⟩ : ∃ z : Int32, z = k3 - v21 := ⟨_, rfl⟩
                  have hv22 : v22.toInt = k3.toInt - v21.toInt := n_sub ev22 (by omega) (by omega)
                  refine r_isub C v22 (oDec_at oX12_feed 45 rfl) ev22 ?_
                  obtain ⟨v23, ev23⟩ : ∃ z : Int32, z = k8 * v22 := ⟨_, rfl⟩
                  have hv23 : v23.toInt = 8 * v22.toInt := n_mulK' 8 ev23 ek8 (by omega) (by omega)
                  refine r_imul C v23 (oDec_at oX12_feed 46 rfl) ev23 ?_
                  obtain ⟨v24, ev24⟩ : ∃ z : Int32, z = a4 >>> (v23 &&& 31) := ⟨_, rfl⟩
                  have rv24 := n_rng v24
                  refine r_ishr C v24 (oDec_at oX12_feed 47 rfl) ev24 ?_
                  refine r_sipush C (oDec_at oX12_feed 48 rfl) (v := k255) (by rw [qk255]; rfl) ?_
                  obtain ⟨v25, ev25⟩ : ∃ z : Int32, z = v24 &&& k255 := ⟨_, rfl⟩
                  have hv25 := n_and ev25
                  have rv25 := n_rng v25
                  refine r_iand C v25 (oDec_at oX12_feed 49 rfl) ev25 ?_
                  refine r_iast (n := 1600) (lo := 0) (hi := 255) C rfl (by decide) rfl rfl ⟨by omega, by omega⟩ (by decide) rfl rfl rfl rfl ⟨by omega, by omega⟩ (oDec_at oX12_feed 50 rfl) ?_
                  refine r_pc C 98 rfl ?_
                  refine r_aload_n C (j := 0) (oDec_at oX12_feed 51 rfl) rfl rfl ?_
                  refine r_dup C (oDec_at oX12_feed 52 rfl) rfl ?_
                  refine r_geti (k := 1) (lo := 0) (hi := 1600) C v19 oCl12 rfl (by decide) flX12_170 rfl rfl (((pI_ne (a := 71) (b := 1) (c := 72) _ _ (Or.inl (by decide)))).trans (ev19)) rfl rfl (oDec_at oX12_feed 53 rfl) (fun _ _ => ?_)
                  refine r_iconst C (oDec_at oX12_feed 54 rfl) (v := k1) (by rw [qk1]; rfl) ?_
                  obtain ⟨v26, ev26⟩ : ∃ z : Int32, z = v19 + k1 := ⟨_, rfl⟩
                  have hv26 : v26.toInt = v19.toInt + k1.toInt := n_add ev26 (by omega) (by omega)
                  refine r_iadd C v26 (oDec_at oX12_feed 55 rfl) ev26 ?_
                  refine r_puti (k := 1) (lo := 0) (hi := 1600) C oCl12 rfl (by decide) flX12_170 rfl rfl rfl rfl rfl rfl rfl rfl ⟨by omega, by omega⟩ (oDec_at oX12_feed 56 rfl) ?_
                  refine r_pc C 108 rfl ?_
                  obtain ⟨v27, ev27⟩ : ∃ z : Int32, x6 + Int32.ofInt 1 = z := ⟨_, rfl⟩
                  have hv27 : v27.toInt = x6.toInt + 1 := n_inc ev27 (by decide) (by omega) (by omega)
                  refine r_iinc C (j := 6) (lv' := [(0, .ref (oad E 71)), (1, .int a1), (2, .int a2), (3, .int a3), (4, .int a4), (5, .int a5), (6, .int v27), (7, .int a4)]) v27 [1, 2, 3, 4, 5, 6, 0, 7] (oDec_at oX12_feed 57 rfl) rfl ev27 (by decide) rfl ?_
                  refine r_goto C (tgt := 18) (oDec_at oX12_feed 58 rfl) (by decide) ?_
                  have lk28 : (((pI (pI t 72 v19.toNatClampNeg v25) 71 1 v26)).1 71 1).toInt = v26.toInt := congrArg Int32.toInt ((pI_self _ _ _ _))
                  refine r_pick C [0, 1, 2, 3, 4, 5, 6] rfl ?_
                  exact (ih (n - 1) (by omega)) ((pI (pI t 72 v19.toNatClampNeg v25) 71 1 v26)) v27  (by omega) (by omega) (by omega) (by omega)
              · skip
                refine r_iload_n C (j := 3) (oDec_at oX12_feed 26 rfl) rfl rfl ?_
                refine r_goto C (tgt := 71) (oDec_at oX12_feed 27 rfl) (by decide) ?_
                refine r_istore C (lv' := [(0, .ref (oad E 71)), (1, .int a1), (2, .int a2), (3, .int a3), (4, .int a4), (5, .int a5), (6, .int x6), (7, .int a3)]) [1, 2, 3, 4, 5, 6, 7, 0] (oDec_at oX12_feed 34 rfl) (by decide) rfl ?_
                refine r_aload_n C (j := 0) (oDec_at oX12_feed 35 rfl) rfl rfl ?_
                refine r_getF (k := 0) (b := 72) C oCl12 rfl (by decide) flX12_7 rfl rfl rfl (oDec_at oX12_feed 36 rfl) ?_
                refine r_aload_n C (j := 0) (oDec_at oX12_feed 37 rfl) rfl rfl ?_
                obtain ⟨v29, ev29⟩ : ∃ z : Int32, (t).1 71 1 = z := ⟨_, rfl⟩
                have gv29 : (t.1 71 1).toInt = v29.toInt := congrArg Int32.toInt (ev29)
                refine r_geti (k := 1) (lo := 0) (hi := 1600) C v29 oCl12 rfl (by decide) flX12_170 rfl rfl (ev29) rfl rfl (oDec_at oX12_feed 38 rfl) (fun b30 b30h => ?_)
                refine r_pc C 81 rfl ?_
                refine r_iload C (j := 7) (oDec_at oX12_feed 39 rfl) rfl ?_
                refine r_bipush C (oDec_at oX12_feed 40 rfl) (v := k8) (by rw [qk8]; rfl) ?_
                refine r_iconst C (oDec_at oX12_feed 41 rfl) (v := k3) (by rw [qk3]; rfl) ?_
                refine r_iload C (j := 6) (oDec_at oX12_feed 42 rfl) rfl ?_
                refine r_iconst C (oDec_at oX12_feed 43 rfl) (v := k4) (by rw [qk4]; rfl) ?_
                obtain ⟨v31, ev31⟩ : ∃ z : Int32, z = x6 - x6 / k4 * k4 := ⟨_, rfl⟩
                have hv31 := n_rem (k := 4) ev31 ek4 (by decide)
                have rv31 := n_rng v31
                refine r_irem C v31 (oDec_at oX12_feed 44 rfl) (n_ne0 (by omega)) ev31 ?_
                refine r_pc C 90 rfl ?_
                obtain ⟨v32, ev32⟩ : ∃ z : Int32, z = k3 - v31 := ⟨_, rfl⟩
                have hv32 : v32.toInt = k3.toInt - v31.toInt := n_sub ev32 (by omega) (by omega)
                refine r_isub C v32 (oDec_at oX12_feed 45 rfl) ev32 ?_
                obtain ⟨v33, ev33⟩ : ∃ z : Int32, z = k8 * v32 := ⟨_, rfl⟩
                have hv33 : v33.toInt = 8 * v32.toInt := n_mulK' 8 ev33 ek8 (by omega) (by omega)
                refine r_imul C v33 (oDec_at oX12_feed 46 rfl) ev33 ?_
                obtain ⟨v34, ev34⟩ : ∃ z : Int32, z = a3 >>> (v33 &&& 31) := ⟨_, rfl⟩
                have rv34 := n_rng v34
                refine r_ishr C v34 (oDec_at oX12_feed 47 rfl) ev34 ?_
                refine r_sipush C (oDec_at oX12_feed 48 rfl) (v := k255) (by rw [qk255]; rfl) ?_
                obtain ⟨v35, ev35⟩ : ∃ z : Int32, z = v34 &&& k255 := ⟨_, rfl⟩
                have hv35 := n_and ev35
                have rv35 := n_rng v35
                refine r_iand C v35 (oDec_at oX12_feed 49 rfl) ev35 ?_
                refine r_iast (n := 1600) (lo := 0) (hi := 255) C rfl (by decide) rfl rfl ⟨by omega, by omega⟩ (by decide) rfl rfl rfl rfl ⟨by omega, by omega⟩ (oDec_at oX12_feed 50 rfl) ?_
                refine r_pc C 98 rfl ?_
                refine r_aload_n C (j := 0) (oDec_at oX12_feed 51 rfl) rfl rfl ?_
                refine r_dup C (oDec_at oX12_feed 52 rfl) rfl ?_
                refine r_geti (k := 1) (lo := 0) (hi := 1600) C v29 oCl12 rfl (by decide) flX12_170 rfl rfl (((pI_ne (a := 71) (b := 1) (c := 72) _ _ (Or.inl (by decide)))).trans (ev29)) rfl rfl (oDec_at oX12_feed 53 rfl) (fun _ _ => ?_)
                refine r_iconst C (oDec_at oX12_feed 54 rfl) (v := k1) (by rw [qk1]; rfl) ?_
                obtain ⟨v36, ev36⟩ : ∃ z : Int32, z = v29 + k1 := ⟨_, rfl⟩
                have hv36 : v36.toInt = v29.toInt + k1.toInt := n_add ev36 (by omega) (by omega)
                refine r_iadd C v36 (oDec_at oX12_feed 55 rfl) ev36 ?_
                refine r_puti (k := 1) (lo := 0) (hi := 1600) C oCl12 rfl (by decide) flX12_170 rfl rfl rfl rfl rfl rfl rfl rfl ⟨by omega, by omega⟩ (oDec_at oX12_feed 56 rfl) ?_
                refine r_pc C 108 rfl ?_
                obtain ⟨v37, ev37⟩ : ∃ z : Int32, x6 + Int32.ofInt 1 = z := ⟨_, rfl⟩
                have hv37 : v37.toInt = x6.toInt + 1 := n_inc ev37 (by decide) (by omega) (by omega)
                refine r_iinc C (j := 6) (lv' := [(0, .ref (oad E 71)), (1, .int a1), (2, .int a2), (3, .int a3), (4, .int a4), (5, .int a5), (6, .int v37), (7, .int a3)]) v37 [1, 2, 3, 4, 5, 6, 0, 7] (oDec_at oX12_feed 57 rfl) rfl ev37 (by decide) rfl ?_
                refine r_goto C (tgt := 18) (oDec_at oX12_feed 58 rfl) (by decide) ?_
                have lk38 : (((pI (pI t 72 v29.toNatClampNeg v35) 71 1 v36)).1 71 1).toInt = v36.toInt := congrArg Int32.toInt ((pI_self _ _ _ _))
                refine r_pick C [0, 1, 2, 3, 4, 5, 6] rfl ?_
                exact (ih (n - 1) (by omega)) ((pI (pI t 72 v29.toNatClampNeg v35) 71 1 v36)) v37  (by omega) (by omega) (by omega) (by omega)
            · skip
              refine r_iload_n C (j := 2) (oDec_at oX12_feed 21 rfl) rfl rfl ?_
              refine r_goto C (tgt := 71) (oDec_at oX12_feed 22 rfl) (by decide) ?_
              refine r_istore C (lv' := [(0, .ref (oad E 71)), (1, .int a1), (2, .int a2), (3, .int a3), (4, .int a4), (5, .int a5), (6, .int x6), (7, .int a2)]) [1, 2, 3, 4, 5, 6, 7, 0] (oDec_at oX12_feed 34 rfl) (by decide) rfl ?_
              refine r_aload_n C (j := 0) (oDec_at oX12_feed 35 rfl) rfl rfl ?_
              refine r_getF (k := 0) (b := 72) C oCl12 rfl (by decide) flX12_7 rfl rfl rfl (oDec_at oX12_feed 36 rfl) ?_
              refine r_aload_n C (j := 0) (oDec_at oX12_feed 37 rfl) rfl rfl ?_
              obtain ⟨v39, ev39⟩ : ∃ z : Int32, (t).1 71 1 = z := ⟨_, rfl⟩
              have gv39 : (t.1 71 1).toInt = v39.toInt := congrArg Int32.toInt (ev39)
              refine r_geti (k := 1) (lo := 0) (hi := 1600) C v39 oCl12 rfl (by decide) flX12_170 rfl rfl (ev39) rfl rfl (oDec_at oX12_feed 38 rfl) (fun b40 b40h => ?_)
              refine r_pc C 81 rfl ?_
              refine r_iload C (j := 7) (oDec_at oX12_feed 39 rfl) rfl ?_
              refine r_bipush C (oDec_at oX12_feed 40 rfl) (v := k8) (by rw [qk8]; rfl) ?_
              refine r_iconst C (oDec_at oX12_feed 41 rfl) (v := k3) (by rw [qk3]; rfl) ?_
              refine r_iload C (j := 6) (oDec_at oX12_feed 42 rfl) rfl ?_
              refine r_iconst C (oDec_at oX12_feed 43 rfl) (v := k4) (by rw [qk4]; rfl) ?_
              obtain ⟨v41, ev41⟩ : ∃ z : Int32, z = x6 - x6 / k4 * k4 := ⟨_, rfl⟩
              have hv41 := n_rem (k := 4) ev41 ek4 (by decide)
              have rv41 := n_rng v41
              refine r_irem C v41 (oDec_at oX12_feed 44 rfl) (n_ne0 (by omega)) ev41 ?_
              refine r_pc C 90 rfl ?_
              obtain ⟨v42, ev42⟩ : ∃ z : Int32, z = k3 - v41 := ⟨_, rfl⟩
              have hv42 : v42.toInt = k3.toInt - v41.toInt := n_sub ev42 (by omega) (by omega)
              refine r_isub C v42 (oDec_at oX12_feed 45 rfl) ev42 ?_
              obtain ⟨v43, ev43⟩ : ∃ z : Int32, z = k8 * v42 := ⟨_, rfl⟩
              have hv43 : v43.toInt = 8 * v42.toInt := n_mulK' 8 ev43 ek8 (by omega) (by omega)
              refine r_imul C v43 (oDec_at oX12_feed 46 rfl) ev43 ?_
              obtain ⟨v44, ev44⟩ : ∃ z : Int32, z = a2 >>> (v43 &&& 31) := ⟨_, rfl⟩
              have rv44 := n_rng v44
              refine r_ishr C v44 (oDec_at oX12_feed 47 rfl) ev44 ?_
              refine r_sipush C (oDec_at oX12_feed 48 rfl) (v := k255) (by rw [qk255]; rfl) ?_
              obtain ⟨v45, ev45⟩ : ∃ z : Int32, z = v44 &&& k255 := ⟨_, rfl⟩
              have hv45 := n_and ev45
              have rv45 := n_rng v45
              refine r_iand C v45 (oDec_at oX12_feed 49 rfl) ev45 ?_
              refine r_iast (n := 1600) (lo := 0) (hi := 255) C rfl (by decide) rfl rfl ⟨by omega, by omega⟩ (by decide) rfl rfl rfl rfl ⟨by omega, by omega⟩ (oDec_at oX12_feed 50 rfl) ?_
              refine r_pc C 98 rfl ?_
              refine r_aload_n C (j := 0) (oDec_at oX12_feed 51 rfl) rfl rfl ?_
              refine r_dup C (oDec_at oX12_feed 52 rfl) rfl ?_
              refine r_geti (k := 1) (lo := 0) (hi := 1600) C v39 oCl12 rfl (by decide) flX12_170 rfl rfl (((pI_ne (a := 71) (b := 1) (c := 72) _ _ (Or.inl (by decide)))).trans (ev39)) rfl rfl (oDec_at oX12_feed 53 rfl) (fun _ _ => ?_)
              refine r_iconst C (oDec_at oX12_feed 54 rfl) (v := k1) (by rw [qk1]; rfl) ?_
              obtain ⟨v46, ev46⟩ : ∃ z : Int32, z = v39 + k1 := ⟨_, rfl⟩
              have hv46 : v46.toInt = v39.toInt + k1.toInt := n_add ev46 (by omega) (by omega)
              refine r_iadd C v46 (oDec_at oX12_feed 55 rfl) ev46 ?_
              refine r_puti (k := 1) (lo := 0) (hi := 1600) C oCl12 rfl (by decide) flX12_170 rfl rfl rfl rfl rfl rfl rfl rfl ⟨by omega, by omega⟩ (oDec_at oX12_feed 56 rfl) ?_
              refine r_pc C 108 rfl ?_
              obtain ⟨v47, ev47⟩ : ∃ z : Int32, x6 + Int32.ofInt 1 = z := ⟨_, rfl⟩
              have hv47 : v47.toInt = x6.toInt + 1 := n_inc ev47 (by decide) (by omega) (by omega)
              refine r_iinc C (j := 6) (lv' := [(0, .ref (oad E 71)), (1, .int a1), (2, .int a2), (3, .int a3), (4, .int a4), (5, .int a5), (6, .int v47), (7, .int a2)]) v47 [1, 2, 3, 4, 5, 6, 0, 7] (oDec_at oX12_feed 57 rfl) rfl ev47 (by decide) rfl ?_
              refine r_goto C (tgt := 18) (oDec_at oX12_feed 58 rfl) (by decide) ?_
              have lk48 : (((pI (pI t 72 v39.toNatClampNeg v45) 71 1 v46)).1 71 1).toInt = v46.toInt := congrArg Int32.toInt ((pI_self _ _ _ _))
              refine r_pick C [0, 1, 2, 3, 4, 5, 6] rfl ?_
              exact (ih (n - 1) (by omega)) ((pI (pI t 72 v39.toNatClampNeg v45) 71 1 v46)) v47  (by omega) (by omega) (by omega) (by omega)
          · skip
            refine r_iload_n C (j := 1) (oDec_at oX12_feed 16 rfl) rfl rfl ?_
            refine r_goto C (tgt := 71) (oDec_at oX12_feed 17 rfl) (by decide) ?_
            refine r_istore C (lv' := [(0, .ref (oad E 71)), (1, .int a1), (2, .int a2), (3, .int a3), (4, .int a4), (5, .int a5), (6, .int x6), (7, .int a1)]) [1, 2, 3, 4, 5, 6, 7, 0] (oDec_at oX12_feed 34 rfl) (by decide) rfl ?_
            refine r_aload_n C (j := 0) (oDec_at oX12_feed 35 rfl) rfl rfl ?_
            refine r_getF (k := 0) (b := 72) C oCl12 rfl (by decide) flX12_7 rfl rfl rfl (oDec_at oX12_feed 36 rfl) ?_
            refine r_aload_n C (j := 0) (oDec_at oX12_feed 37 rfl) rfl rfl ?_
            obtain ⟨v49, ev49⟩ : ∃ z : Int32, (t).1 71 1 = z := ⟨_, rfl⟩
            have gv49 : (t.1 71 1).toInt = v49.toInt := congrArg Int32.toInt (ev49)
            refine r_geti (k := 1) (lo := 0) (hi := 1600) C v49 oCl12 rfl (by decide) flX12_170 rfl rfl (ev49) rfl rfl (oDec_at oX12_feed 38 rfl) (fun b50 b50h => ?_)
            refine r_pc C 81 rfl ?_
            refine r_iload C (j := 7) (oDec_at oX12_feed 39 rfl) rfl ?_
            refine r_bipush C (oDec_at oX12_feed 40 rfl) (v := k8) (by rw [qk8]; rfl) ?_
            refine r_iconst C (oDec_at oX12_feed 41 rfl) (v := k3) (by rw [qk3]; rfl) ?_
            refine r_iload C (j := 6) (oDec_at oX12_feed 42 rfl) rfl ?_
            refine r_iconst C (oDec_at oX12_feed 43 rfl) (v := k4) (by rw [qk4]; rfl) ?_
            obtain ⟨v51, ev51⟩ : ∃ z : Int32, z = x6 - x6 / k4 * k4 := ⟨_, rfl⟩
            have hv51 := n_rem (k := 4) ev51 ek4 (by decide)
            have rv51 := n_rng v51
            refine r_irem C v51 (oDec_at oX12_feed 44 rfl) (n_ne0 (by omega)) ev51 ?_
            refine r_pc C 90 rfl ?_
            obtain ⟨v52, ev52⟩ : ∃ z : Int32, z = k3 - v51 := ⟨_, rfl⟩
            have hv52 : v52.toInt = k3.toInt - v51.toInt := n_sub ev52 (by omega) (by omega)
            refine r_isub C v52 (oDec_at oX12_feed 45 rfl) ev52 ?_
            obtain ⟨v53, ev53⟩ : ∃ z : Int32, z = k8 * v52 := ⟨_, rfl⟩
            have hv53 : v53.toInt = 8 * v52.toInt := n_mulK' 8 ev53 ek8 (by omega) (by omega)
            refine r_imul C v53 (oDec_at oX12_feed 46 rfl) ev53 ?_
            obtain ⟨v54, ev54⟩ : ∃ z : Int32, z = a1 >>> (v53 &&& 31) := ⟨_, rfl⟩
            have rv54 := n_rng v54
            refine r_ishr C v54 (oDec_at oX12_feed 47 rfl) ev54 ?_
            refine r_sipush C (oDec_at oX12_feed 48 rfl) (v := k255) (by rw [qk255]; rfl) ?_
            obtain ⟨v55, ev55⟩ : ∃ z : Int32, z = v54 &&& k255 := ⟨_, rfl⟩
            have hv55 := n_and ev55
            have rv55 := n_rng v55
            refine r_iand C v55 (oDec_at oX12_feed 49 rfl) ev55 ?_
            refine r_iast (n := 1600) (lo := 0) (hi := 255) C rfl (by decide) rfl rfl ⟨by omega, by omega⟩ (by decide) rfl rfl rfl rfl ⟨by omega, by omega⟩ (oDec_at oX12_feed 50 rfl) ?_
            refine r_pc C 98 rfl ?_
            refine r_aload_n C (j := 0) (oDec_at oX12_feed 51 rfl) rfl rfl ?_
            refine r_dup C (oDec_at oX12_feed 52 rfl) rfl ?_
            refine r_geti (k := 1) (lo := 0) (hi := 1600) C v49 oCl12 rfl (by decide) flX12_170 rfl rfl (((pI_ne (a := 71) (b := 1) (c := 72) _ _ (Or.inl (by decide)))).trans (ev49)) rfl rfl (oDec_at oX12_feed 53 rfl) (fun _ _ => ?_)
            refine r_iconst C (oDec_at oX12_feed 54 rfl) (v := k1) (by rw [qk1]; rfl) ?_
            obtain ⟨v56, ev56⟩ : ∃ z : Int32, z = v49 + k1 := ⟨_, rfl⟩
            have hv56 : v56.toInt = v49.toInt + k1.toInt := n_add ev56 (by omega) (by omega)
            refine r_iadd C v56 (oDec_at oX12_feed 55 rfl) ev56 ?_
            refine r_puti (k := 1) (lo := 0) (hi := 1600) C oCl12 rfl (by decide) flX12_170 rfl rfl rfl rfl rfl rfl rfl rfl ⟨by omega, by omega⟩ (oDec_at oX12_feed 56 rfl) ?_
            refine r_pc C 108 rfl ?_
            obtain ⟨v57, ev57⟩ : ∃ z : Int32, x6 + Int32.ofInt 1 = z := ⟨_, rfl⟩
            have hv57 : v57.toInt = x6.toInt + 1 := n_inc ev57 (by decide) (by omega) (by omega)
            refine r_iinc C (j := 6) (lv' := [(0, .ref (oad E 71)), (1, .int a1), (2, .int a2), (3, .int a3), (4, .int a4), (5, .int a5), (6, .int v57), (7, .int a1)]) v57 [1, 2, 3, 4, 5, 6, 0, 7] (oDec_at oX12_feed 57 rfl) rfl ev57 (by decide) rfl ?_
            refine r_goto C (tgt := 18) (oDec_at oX12_feed 58 rfl) (by decide) ?_
            have lk58 : (((pI (pI t 72 v49.toNatClampNeg v55) 71 1 v56)).1 71 1).toInt = v56.toInt := congrArg Int32.toInt ((pI_self _ _ _ _))
            refine r_pick C [0, 1, 2, 3, 4, 5, 6] rfl ?_
            exact (ih (n - 1) (by omega)) ((pI (pI t 72 v49.toNatClampNeg v55) 71 1 v56)) v57  (by omega) (by omega) (by omega) (by omega)
  refine r_aload_n C (j := 0) (oDec_at oX12_feed 0 rfl) rfl rfl ?_
  obtain ⟨v59, ev59⟩ : ∃ z : Int32, (s).1 71 1 = z := ⟨_, rfl⟩
  have gv59 : (s.1 71 1).toInt = v59.toInt := congrArg Int32.toInt (ev59)
  refine r_geti (k := 1) (lo := 0) (hi := 1600) C v59 oCl12 rfl (by decide) flX12_170 rfl rfl (ev59) rfl rfl (oDec_at oX12_feed 1 rfl) (fun b60 b60h => ?_)
  refine r_bipush C (oDec_at oX12_feed 2 rfl) (v := k20) (by rw [qk20]; rfl) ?_
  obtain ⟨v61, ev61⟩ : ∃ z : Int32, z = v59 + k20 := ⟨_, rfl⟩
  have hv61 : v61.toInt = v59.toInt + k20.toInt := n_add ev61 (by omega) (by omega)
  refine r_iadd C v61 (oDec_at oX12_feed 3 rfl) ev61 ?_
  refine r_sipush C (oDec_at oX12_feed 4 rfl) (v := k1600) (by rw [qk1600]; rfl) ?_
  refine r_icmp_le C 15 (oDec_at oX12_feed 5 rfl) (by decide) (fun cd62 => ?_) (fun cd62 => ?_)
  · skip
    refine r_iconst C (oDec_at oX12_feed 8 rfl) (v := k0) (by rw [qk0]; rfl) ?_
    refine r_istore C (lv' := [(0, .ref (oad E 71)), (1, .int a1), (2, .int a2), (3, .int a3), (4, .int a4), (5, .int a5), (6, .int k0)]) [1, 2, 3, 4, 5, 6, 0] (oDec_at oX12_feed 9 rfl) (by decide) rfl ?_
    have lk63 : ((s).1 71 1).toInt = v59.toInt := congrArg Int32.toInt (ev59)
    exact (key (21 - k0.toInt).toNat) (s) k0  (by omega) (by omega) (by omega) (by omega)
  · skip
    refine r_iconst C (oDec_at oX12_feed 6 rfl) (v := km1) (by rw [qkm1]; rfl) ?_
    have lk64 : ((s).1 71 1).toInt = v59.toInt := congrArg Int32.toInt (ev59)
    exact r_iret C (oDec_at oX12_feed 7 rfl) ⟨_, rfl, by omega⟩
set_option maxHeartbeats 4000000 in
set_option maxRecDepth 100000 in
theorem ct_X12_end (l : Launch) (E : oE) (s : oS) (a1 : Int32)  : oMet l 1 yX12_end cX12_end 2 (some .boolean) [(12, 1)] E s [.ref (oad E 71), .int a1] (oPi (fun r u => (0 ≤ r.toInt ∧ r.toInt ≤ 1) ∧ ((r.toInt = 1 ∧ 0 ≤ a1.toInt ∧ a1.toInt ≤ (s.1 71 1).toInt ∧ (u.1 71 1).toInt = a1.toInt) ∨ (r.toInt = 0 ∧ (a1.toInt < 0 ∨ (s.1 71 1).toInt < a1.toInt) ∧ (u.1 71 1).toInt = (s.1 71 1).toInt)))) := by
  refine oMet.of (lv := [(0, .ref (oad E 71)), (1, .int a1)]) (by decide +kernel) (Nat.le_of_ble_eq_true rfl) rfl (fun J C hT => ?_)
  have C : oC l 1 cX12_end RX12 2 (some .boolean) [(12, 1)] E s (oPi (fun r u => (0 ≤ r.toInt ∧ r.toInt ≤ 1) ∧ ((r.toInt = 1 ∧ 0 ≤ a1.toInt ∧ a1.toInt ≤ (s.1 71 1).toInt ∧ (u.1 71 1).toInt = a1.toInt) ∨ (r.toInt = 0 ∧ (a1.toInt < 0 ∨ (s.1 71 1).toInt < a1.toInt) ∧ (u.1 71 1).toInt = (s.1 71 1).toInt)))) J := C
  obtain ⟨k0, qk0⟩ : ∃ z : Int32, z = 0 := ⟨_, rfl⟩
  have ek0 : k0.toInt = 0 := by rw [qk0]; rfl
  obtain ⟨k1, qk1⟩ : ∃ z : Int32, z = 1 := ⟨_, rfl⟩
  have ek1 : k1.toInt = 1 := by rw [qk1]; rfl
  have rg1 := n_rng a1
  refine r_iload_n C (j := 1) (oDec_at oX12_end 0 rfl) rfl rfl ?_
  refine r_if_lt C 12 (oDec_at oX12_end 1 rfl) (by decide) (fun cd1 => ?_) (fun cd1 => ?_)
  · skip
    refine r_iconst C (oDec_at oX12_end 6 rfl) (v := k0) (by rw [qk0]; rfl) ?_
    exact r_zret C (n_bool (by omega)) (oDec_at oX12_end 7 rfl) ⟨_, rfl, ⟨by omega, by omega⟩⟩
  · skip
    refine r_iload_n C (j := 1) (oDec_at oX12_end 2 rfl) rfl rfl ?_
    refine r_aload_n C (j := 0) (oDec_at oX12_end 3 rfl) rfl rfl ?_
    obtain ⟨v2, ev2⟩ : ∃ z : Int32, (s).1 71 1 = z := ⟨_, rfl⟩
    have gv2 : (s.1 71 1).toInt = v2.toInt := congrArg Int32.toInt (ev2)
    refine r_geti (k := 1) (lo := 0) (hi := 1600) C v2 oCl12 rfl (by decide) flX12_170 rfl rfl (ev2) rfl rfl (oDec_at oX12_end 4 rfl) (fun b3 b3h => ?_)
    refine r_icmp_le C 14 (oDec_at oX12_end 5 rfl) (by decide) (fun cd4 => ?_) (fun cd4 => ?_)
    · skip
      refine r_aload_n C (j := 0) (oDec_at oX12_end 8 rfl) rfl rfl ?_
      refine r_iload_n C (j := 1) (oDec_at oX12_end 9 rfl) rfl rfl ?_
      refine r_puti (k := 1) (lo := 0) (hi := 1600) C oCl12 rfl (by decide) flX12_170 rfl rfl rfl rfl rfl rfl rfl rfl ⟨by omega, by omega⟩ (oDec_at oX12_end 10 rfl) ?_
      refine r_iconst C (oDec_at oX12_end 11 rfl) (v := k1) (by rw [qk1]; rfl) ?_
      have lk5 : (((pI s 71 1 a1)).1 71 1).toInt = a1.toInt := congrArg Int32.toInt ((pI_self _ _ _ _))
      exact r_zret C (n_bool (by omega)) (oDec_at oX12_end 12 rfl) ⟨_, rfl, ⟨by omega, by omega⟩⟩
    · skip
      refine r_iconst C (oDec_at oX12_end 6 rfl) (v := k0) (by rw [qk0]; rfl) ?_
      have lk6 : ((s).1 71 1).toInt = v2.toInt := congrArg Int32.toInt (ev2)
      exact r_zret C (n_bool (by omega)) (oDec_at oX12_end 7 rfl) ⟨_, rfl, ⟨by omega, by omega⟩⟩
set_option maxHeartbeats 4000000 in
set_option maxRecDepth 100000 in
theorem ct_X12_fail (l : Launch) (E : oE) (s : oS) (a1 : Int32) (a2 : Int32)  : oMet l 1 yX12_fail cX12_fail 3 none [(12, 5), (12, 6)] E s [.ref (oad E 71), .int a1, .int a2] (oPv (fun u => ((s.1 71 5).toInt = 0 → (u.1 71 5).toInt = a1.toInt) ∧ ((s.1 71 5).toInt ≠ 0 → (u.1 71 5).toInt = (s.1 71 5).toInt))) := by
  refine oMet.of (lv := [(0, .ref (oad E 71)), (1, .int a1), (2, .int a2)]) (by decide +kernel) (Nat.le_of_ble_eq_true rfl) rfl (fun J C hT => ?_)
  have C : oC l 1 cX12_fail RX12 3 none [(12, 5), (12, 6)] E s (oPv (fun u => ((s.1 71 5).toInt = 0 → (u.1 71 5).toInt = a1.toInt) ∧ ((s.1 71 5).toInt ≠ 0 → (u.1 71 5).toInt = (s.1 71 5).toInt))) J := C
  have rg1 := n_rng a1
  have rg2 := n_rng a2
  refine r_aload_n C (j := 0) (oDec_at oX12_fail 0 rfl) rfl rfl ?_
  obtain ⟨v1, ev1⟩ : ∃ z : Int32, (s).1 71 5 = z := ⟨_, rfl⟩
  have gv1 : (s.1 71 5).toInt = v1.toInt := congrArg Int32.toInt (ev1)
  have rv1 := n_rng v1
  refine r_geti (k := 5) (lo := (-2147483648)) (hi := 2147483647) C v1 oCl12 rfl (by decide) flX12_173 rfl rfl (ev1) rfl rfl (oDec_at oX12_fail 1 rfl) (fun _ _ => ?_)
  refine r_if_eq C 8 (oDec_at oX12_fail 2 rfl) (by decide) (fun cd2 => ?_) (fun cd2 => ?_)
  · skip
    refine r_aload_n C (j := 0) (oDec_at oX12_fail 4 rfl) rfl rfl ?_
    refine r_iload_n C (j := 1) (oDec_at oX12_fail 5 rfl) rfl rfl ?_
    refine r_puti (k := 5) (lo := (-2147483648)) (hi := 2147483647) C oCl12 rfl (by decide) flX12_173 rfl rfl rfl rfl rfl rfl rfl rfl (n_rng _) (oDec_at oX12_fail 6 rfl) ?_
    refine r_aload_n C (j := 0) (oDec_at oX12_fail 7 rfl) rfl rfl ?_
    refine r_iload_n C (j := 2) (oDec_at oX12_fail 8 rfl) rfl rfl ?_
    refine r_puti (k := 6) (lo := (-2147483648)) (hi := 2147483647) C oCl12 rfl (by decide) flX12_176 rfl rfl rfl rfl rfl rfl rfl rfl (n_rng _) (oDec_at oX12_fail 9 rfl) ?_
    refine r_pc C 18 rfl ?_
    have lk3 : (((pI (pI s 71 5 a1) 71 6 a2)).1 71 5).toInt = a1.toInt := congrArg Int32.toInt (((pI_ne (a := 71) (b := 5) (c := 71) (k := 6) _ _ (Or.inr (by decide)))).trans ((pI_self _ _ _ _)))
    have lk4 : (((pI (pI s 71 5 a1) 71 6 a2)).1 71 5).toInt = a1.toInt := congrArg Int32.toInt (((pI_ne (a := 71) (b := 5) (c := 71) (k := 6) _ _ (Or.inr (by decide)))).trans ((pI_self _ _ _ _)))
    exact r_vret C (oDec_at oX12_fail 10 rfl) ⟨rfl, ⟨by omega, by omega⟩⟩
  · skip
    have lk5 : ((s).1 71 5).toInt = v1.toInt := congrArg Int32.toInt (ev1)
    have lk6 : ((s).1 71 5).toInt = v1.toInt := congrArg Int32.toInt (ev1)
    exact r_vret C (oDec_at oX12_fail 3 rfl) ⟨rfl, ⟨by omega, by omega⟩⟩
set_option maxHeartbeats 4000000 in
set_option maxRecDepth 100000 in
theorem ct_X12_isLetter (l : Launch) (E : oE) (s : oS) (a0 : Int32)  : oMet l 1 yX12_isLetter cX12_isLetter 1 (some .boolean) [] E s [.int a0] (oPi (fun r u => (0 ≤ r.toInt ∧ r.toInt ≤ 1) ∧ ((r.toInt = 1 ∧ 97 ≤ a0.toInt ∧ a0.toInt ≤ 122) ∨ (r.toInt = 0 ∧ (a0.toInt < 97 ∨ 122 < a0.toInt))))) := by
  refine oMet.of (lv := [(0, .int a0)]) (by decide +kernel) (Nat.le_of_ble_eq_true rfl) rfl (fun J C hT => ?_)
  have C : oC l 1 cX12_isLetter RX12 1 (some .boolean) [] E s (oPi (fun r u => (0 ≤ r.toInt ∧ r.toInt ≤ 1) ∧ ((r.toInt = 1 ∧ 97 ≤ a0.toInt ∧ a0.toInt ≤ 122) ∨ (r.toInt = 0 ∧ (a0.toInt < 97 ∨ 122 < a0.toInt))))) J := C
  obtain ⟨k0, qk0⟩ : ∃ z : Int32, z = 0 := ⟨_, rfl⟩
  have ek0 : k0.toInt = 0 := by rw [qk0]; rfl
  obtain ⟨k1, qk1⟩ : ∃ z : Int32, z = 1 := ⟨_, rfl⟩
  have ek1 : k1.toInt = 1 := by rw [qk1]; rfl
  obtain ⟨k97, qk97⟩ : ∃ z : Int32, z = 97 := ⟨_, rfl⟩
  have ek97 : k97.toInt = 97 := by rw [qk97]; rfl
  obtain ⟨k122, qk122⟩ : ∃ z : Int32, z = 122 := ⟨_, rfl⟩
  have ek122 : k122.toInt = 122 := by rw [qk122]; rfl
  have rg0 := n_rng a0
  refine r_iload_n C (j := 0) (oDec_at oX12_isLetter 0 rfl) rfl rfl ?_
  refine r_bipush C (oDec_at oX12_isLetter 1 rfl) (v := k97) (by rw [qk97]; rfl) ?_
  refine r_icmp_lt C 16 (oDec_at oX12_isLetter 2 rfl) (by decide) (fun cd1 => ?_) (fun cd1 => ?_)
  · skip
    refine r_iconst C (oDec_at oX12_isLetter 8 rfl) (v := k0) (by rw [qk0]; rfl) ?_
    exact r_zret C (n_bool (by omega)) (oDec_at oX12_isLetter 9 rfl) ⟨_, rfl, ⟨by omega, by omega⟩⟩
  · skip
    refine r_iload_n C (j := 0) (oDec_at oX12_isLetter 3 rfl) rfl rfl ?_
    refine r_bipush C (oDec_at oX12_isLetter 4 rfl) (v := k122) (by rw [qk122]; rfl) ?_
    refine r_icmp_gt C 16 (oDec_at oX12_isLetter 5 rfl) (by decide) (fun cd2 => ?_) (fun cd2 => ?_)
    · skip
      refine r_iconst C (oDec_at oX12_isLetter 8 rfl) (v := k0) (by rw [qk0]; rfl) ?_
      exact r_zret C (n_bool (by omega)) (oDec_at oX12_isLetter 9 rfl) ⟨_, rfl, ⟨by omega, by omega⟩⟩
    · skip
      refine r_iconst C (oDec_at oX12_isLetter 6 rfl) (v := k1) (by rw [qk1]; rfl) ?_
      refine r_goto C (tgt := 17) (oDec_at oX12_isLetter 7 rfl) (by decide) ?_
      exact r_zret C (n_bool (by omega)) (oDec_at oX12_isLetter 9 rfl) ⟨_, rfl, ⟨by omega, by omega⟩⟩
set_option maxHeartbeats 4000000 in
set_option maxRecDepth 100000 in
theorem ct_X12_isDigit (l : Launch) (E : oE) (s : oS) (a0 : Int32)  : oMet l 1 yX12_isDigit cX12_isDigit 1 (some .boolean) [] E s [.int a0] (oPi (fun r u => (0 ≤ r.toInt ∧ r.toInt ≤ 1) ∧ ((r.toInt = 1 ∧ 48 ≤ a0.toInt ∧ a0.toInt ≤ 57) ∨ (r.toInt = 0 ∧ (a0.toInt < 48 ∨ 57 < a0.toInt))))) := by
  refine oMet.of (lv := [(0, .int a0)]) (by decide +kernel) (Nat.le_of_ble_eq_true rfl) rfl (fun J C hT => ?_)
  have C : oC l 1 cX12_isDigit RX12 1 (some .boolean) [] E s (oPi (fun r u => (0 ≤ r.toInt ∧ r.toInt ≤ 1) ∧ ((r.toInt = 1 ∧ 48 ≤ a0.toInt ∧ a0.toInt ≤ 57) ∨ (r.toInt = 0 ∧ (a0.toInt < 48 ∨ 57 < a0.toInt))))) J := C
  obtain ⟨k0, qk0⟩ : ∃ z : Int32, z = 0 := ⟨_, rfl⟩
  have ek0 : k0.toInt = 0 := by rw [qk0]; rfl
  obtain ⟨k1, qk1⟩ : ∃ z : Int32, z = 1 := ⟨_, rfl⟩
  have ek1 : k1.toInt = 1 := by rw [qk1]; rfl
  obtain ⟨k48, qk48⟩ : ∃ z : Int32, z = 48 := ⟨_, rfl⟩
  have ek48 : k48.toInt = 48 := by rw [qk48]; rfl
  obtain ⟨k57, qk57⟩ : ∃ z : Int32, z = 57 := ⟨_, rfl⟩
  have ek57 : k57.toInt = 57 := by rw [qk57]; rfl
  have rg0 := n_rng a0
  refine r_iload_n C (j := 0) (oDec_at oX12_isDigit 0 rfl) rfl rfl ?_
  refine r_bipush C (oDec_at oX12_isDigit 1 rfl) (v := k48) (by rw [qk48]; rfl) ?_
  refine r_icmp_lt C 16 (oDec_at oX12_isDigit 2 rfl) (by decide) (fun cd1 => ?_) (fun cd1 => ?_)
  · skip
    refine r_iconst C (oDec_at oX12_isDigit 8 rfl) (v := k0) (by rw [qk0]; rfl) ?_
    exact r_zret C (n_bool (by omega)) (oDec_at oX12_isDigit 9 rfl) ⟨_, rfl, ⟨by omega, by omega⟩⟩
  · skip
    refine r_iload_n C (j := 0) (oDec_at oX12_isDigit 3 rfl) rfl rfl ?_
    refine r_bipush C (oDec_at oX12_isDigit 4 rfl) (v := k57) (by rw [qk57]; rfl) ?_
    refine r_icmp_gt C 16 (oDec_at oX12_isDigit 5 rfl) (by decide) (fun cd2 => ?_) (fun cd2 => ?_)
    · skip
      refine r_iconst C (oDec_at oX12_isDigit 8 rfl) (v := k0) (by rw [qk0]; rfl) ?_
      exact r_zret C (n_bool (by omega)) (oDec_at oX12_isDigit 9 rfl) ⟨_, rfl, ⟨by omega, by omega⟩⟩
    · skip
      refine r_iconst C (oDec_at oX12_isDigit 6 rfl) (v := k1) (by rw [qk1]; rfl) ?_
      refine r_goto C (tgt := 17) (oDec_at oX12_isDigit 7 rfl) (by decide) ?_
      exact r_zret C (n_bool (by omega)) (oDec_at oX12_isDigit 9 rfl) ⟨_, rfl, ⟨by omega, by omega⟩⟩
set_option maxHeartbeats 4000000 in
set_option maxRecDepth 100000 in
theorem ct_X12_look (l : Launch) (E : oE) (s : oS)   : oMet l 1 yX12_look cX12_look 1 (some .int) [(12, 2)] E s [.ref (oad E 71)] (oPi (fun r u => ((s.1 71 2).toInt ≤ (u.1 71 2).toInt) ∧ (r.toInt = -1 ∨ (0 ≤ r.toInt ∧ r.toInt ≤ 255 ∧ (u.1 71 2).toInt < (u.1 71 3).toInt ∧ (u.1 71 2).toInt ≤ 1599 ∧ r.toInt = (u.1 72 (u.1 71 2).toNatClampNeg).toInt)))) := by
  refine oMet.of (lv := [(0, .ref (oad E 71))]) (by decide +kernel) (Nat.le_of_ble_eq_true rfl) rfl (fun J C hT => ?_)
  have C : oC l 1 cX12_look RX12 1 (some .int) [(12, 2)] E s (oPi (fun r u => ((s.1 71 2).toInt ≤ (u.1 71 2).toInt) ∧ (r.toInt = -1 ∨ (0 ≤ r.toInt ∧ r.toInt ≤ 255 ∧ (u.1 71 2).toInt < (u.1 71 3).toInt ∧ (u.1 71 2).toInt ≤ 1599 ∧ r.toInt = (u.1 72 (u.1 71 2).toNatClampNeg).toInt)))) J := C
  obtain ⟨km1, qkm1⟩ : ∃ z : Int32, z = (-1) := ⟨_, rfl⟩
  have ekm1 : km1.toInt = (-1) := by rw [qkm1]; rfl
  obtain ⟨k1, qk1⟩ : ∃ z : Int32, z = 1 := ⟨_, rfl⟩
  have ek1 : k1.toInt = 1 := by rw [qk1]; rfl
  obtain ⟨k10, qk10⟩ : ∃ z : Int32, z = 10 := ⟨_, rfl⟩
  have ek10 : k10.toInt = 10 := by rw [qk10]; rfl
  obtain ⟨k32, qk32⟩ : ∃ z : Int32, z = 32 := ⟨_, rfl⟩
  have ek32 : k32.toInt = 32 := by rw [qk32]; rfl
  have key : ∀ n : Nat, (∀ (t : oS), ((s.1 71 2).toInt ≤ (t.1 71 2).toInt) → 1601 - (t.1 71 2).toInt ≤ (n : Int) → J t 0 [(0, .ref (oad E 71))] []) := by
    intro n
    induction n using Nat.strongRecOn with
    | _ n ih =>
      skip
      · intro t   iv0 hmu
        refine r_aload_n C (j := 0) (oDec_at oX12_look 0 rfl) rfl rfl ?_
        obtain ⟨v1, ev1⟩ : ∃ z : Int32, (t).1 71 2 = z := ⟨_, rfl⟩
        have gv1 : (t.1 71 2).toInt = v1.toInt := congrArg Int32.toInt (ev1)
        refine r_geti (k := 2) (lo := 0) (hi := 1600) C v1 oCl12 rfl (by decide) flX12_179 rfl rfl (ev1) rfl rfl (oDec_at oX12_look 1 rfl) (fun b2 b2h => ?_)
        refine r_aload_n C (j := 0) (oDec_at oX12_look 2 rfl) rfl rfl ?_
        obtain ⟨v3, ev3⟩ : ∃ z : Int32, (t).1 71 3 = z := ⟨_, rfl⟩
        have gv3 : (t.1 71 3).toInt = v3.toInt := congrArg Int32.toInt (ev3)
        refine r_geti (k := 3) (lo := 0) (hi := 1600) C v3 oCl12 rfl (by decide) flX12_182 rfl rfl (ev3) rfl rfl (oDec_at oX12_look 3 rfl) (fun b4 b4h => ?_)
        refine r_icmp_ge C 52 (oDec_at oX12_look 4 rfl) (by decide) (fun cd5 => ?_) (fun cd5 => ?_)
        · skip
          refine r_aload_n C (j := 0) (oDec_at oX12_look 26 rfl) rfl rfl ?_
          refine r_geti (k := 2) (lo := 0) (hi := 1600) C v1 oCl12 rfl (by decide) flX12_179 rfl rfl (ev1) rfl rfl (oDec_at oX12_look 27 rfl) (fun _ _ => ?_)
          refine r_aload_n C (j := 0) (oDec_at oX12_look 28 rfl) rfl rfl ?_
          refine r_geti (k := 3) (lo := 0) (hi := 1600) C v3 oCl12 rfl (by decide) flX12_182 rfl rfl (ev3) rfl rfl (oDec_at oX12_look 29 rfl) (fun _ _ => ?_)
          refine r_icmp_ge C 75 (oDec_at oX12_look 30 rfl) (by decide) (fun cd6 => ?_) (fun cd6 => ?_)
          · skip
            refine r_iconst C (oDec_at oX12_look 37 rfl) (v := km1) (by rw [qkm1]; rfl) ?_
            have lk7 : ((t).1 71 2).toInt = v1.toInt := congrArg Int32.toInt (ev1)
            have lt8 : ((t).1 72 ((t).1 71 2).toNatClampNeg).toInt = (t.1 72 v1.toNatClampNeg).toInt := by rw [show (t).1 71 2 = v1 from ev1, show (t).1 72 v1.toNatClampNeg = t.1 72 v1.toNatClampNeg from rfl]
            have lk9 : ((t).1 71 2).toInt = v1.toInt := congrArg Int32.toInt (ev1)
            have lk10 : ((t).1 71 3).toInt = v3.toInt := congrArg Int32.toInt (ev3)
            exact r_iret C (oDec_at oX12_look 38 rfl) ⟨_, rfl, ⟨by omega, by omega⟩⟩
          · skip
            refine r_aload_n C (j := 0) (oDec_at oX12_look 31 rfl) rfl rfl ?_
            refine r_getF (k := 0) (b := 72) C oCl12 rfl (by decide) flX12_7 rfl rfl rfl (oDec_at oX12_look 32 rfl) ?_
            refine r_aload_n C (j := 0) (oDec_at oX12_look 33 rfl) rfl rfl ?_
            refine r_geti (k := 2) (lo := 0) (hi := 1600) C v1 oCl12 rfl (by decide) flX12_179 rfl rfl (ev1) rfl rfl (oDec_at oX12_look 34 rfl) (fun _ _ => ?_)
            obtain ⟨v12, ev12⟩ : ∃ z : Int32, (t).1 72 v1.toNatClampNeg = z := ⟨_, rfl⟩
            have gv12 : (t.1 72 v1.toNatClampNeg).toInt = v12.toInt := congrArg Int32.toInt (ev12)
            refine r_iald (n := 1600) (lo := 0) (hi := 255) C v12 rfl (by decide) rfl rfl ⟨by omega, by omega⟩ (by decide) ev12 rfl rfl (oDec_at oX12_look 35 rfl) (fun b11 b11h => ?_)
            have la13 : ((t).1 72 ((t).1 71 2).toNatClampNeg).toInt = v12.toInt := by rw [ev1, ev12]
            refine r_goto C (tgt := 76) (oDec_at oX12_look 36 rfl) (by decide) ?_
            have lk14 : ((t).1 71 2).toInt = v1.toInt := congrArg Int32.toInt (ev1)
            have lt15 : ((t).1 72 ((t).1 71 2).toNatClampNeg).toInt = (v12).toInt := by rw [show (t).1 71 2 = v1 from ev1, show (t).1 72 v1.toNatClampNeg = v12 from ev12]
            have lk16 : ((t).1 71 2).toInt = v1.toInt := congrArg Int32.toInt (ev1)
            have lk17 : ((t).1 71 3).toInt = v3.toInt := congrArg Int32.toInt (ev3)
            exact r_iret C (oDec_at oX12_look 38 rfl) ⟨_, rfl, ⟨by omega, by omega⟩⟩
        · skip
          refine r_aload_n C (j := 0) (oDec_at oX12_look 5 rfl) rfl rfl ?_
          refine r_getF (k := 0) (b := 72) C oCl12 rfl (by decide) flX12_7 rfl rfl rfl (oDec_at oX12_look 6 rfl) ?_
          refine r_aload_n C (j := 0) (oDec_at oX12_look 7 rfl) rfl rfl ?_
          refine r_geti (k := 2) (lo := 0) (hi := 1600) C v1 oCl12 rfl (by decide) flX12_179 rfl rfl (ev1) rfl rfl (oDec_at oX12_look 8 rfl) (fun _ _ => ?_)
          obtain ⟨v19, ev19⟩ : ∃ z : Int32, (t).1 72 v1.toNatClampNeg = z := ⟨_, rfl⟩
          have gv19 : (t.1 72 v1.toNatClampNeg).toInt = v19.toInt := congrArg Int32.toInt (ev19)
          refine r_iald (n := 1600) (lo := 0) (hi := 255) C v19 rfl (by decide) rfl rfl ⟨by omega, by omega⟩ (by decide) ev19 rfl rfl (oDec_at oX12_look 9 rfl) (fun b18 b18h => ?_)
          have la20 : ((t).1 72 ((t).1 71 2).toNatClampNeg).toInt = v19.toInt := by rw [ev1, ev19]
          refine r_bipush C (oDec_at oX12_look 10 rfl) (v := k10) (by rw [qk10]; rfl) ?_
          refine r_pc C 22 rfl ?_
          refine r_icmp_eq C 39 (oDec_at oX12_look 11 rfl) (by decide) (fun cd21 => ?_) (fun cd21 => ?_)
          · skip
            refine r_aload_n C (j := 0) (oDec_at oX12_look 19 rfl) rfl rfl ?_
            refine r_dup C (oDec_at oX12_look 20 rfl) rfl ?_
            refine r_geti (k := 2) (lo := 0) (hi := 1600) C v1 oCl12 rfl (by decide) flX12_179 rfl rfl (ev1) rfl rfl (oDec_at oX12_look 21 rfl) (fun _ _ => ?_)
            refine r_iconst C (oDec_at oX12_look 22 rfl) (v := k1) (by rw [qk1]; rfl) ?_
            obtain ⟨v22, ev22⟩ : ∃ z : Int32, z = v1 + k1 := ⟨_, rfl⟩
            have hv22 : v22.toInt = v1.toInt + k1.toInt := n_add ev22 (by omega) (by omega)
            refine r_iadd C v22 (oDec_at oX12_look 23 rfl) ev22 ?_
            refine r_puti (k := 2) (lo := 0) (hi := 1600) C oCl12 rfl (by decide) flX12_179 rfl rfl rfl rfl rfl rfl rfl rfl ⟨by omega, by omega⟩ (oDec_at oX12_look 24 rfl) ?_
            refine r_pc C 49 rfl ?_
            refine r_goto C (tgt := 0) (oDec_at oX12_look 25 rfl) (by decide) ?_
            have lk23 : (((pI t 71 2 v22)).1 71 2).toInt = v22.toInt := congrArg Int32.toInt ((pI_self _ _ _ _))
            have lk24 : (((pI t 71 2 v22)).1 71 2).toInt = v22.toInt := congrArg Int32.toInt ((pI_self _ _ _ _))
            exact (ih (n - 1) (by omega)) ((pI t 71 2 v22))   (by omega) (by omega)
          · skip
            refine r_aload_n C (j := 0) (oDec_at oX12_look 12 rfl) rfl rfl ?_
            refine r_getF (k := 0) (b := 72) C oCl12 rfl (by decide) flX12_7 rfl rfl rfl (oDec_at oX12_look 13 rfl) ?_
            refine r_aload_n C (j := 0) (oDec_at oX12_look 14 rfl) rfl rfl ?_
            refine r_geti (k := 2) (lo := 0) (hi := 1600) C v1 oCl12 rfl (by decide) flX12_179 rfl rfl (ev1) rfl rfl (oDec_at oX12_look 15 rfl) (fun _ _ => ?_)
            refine r_iald (n := 1600) (lo := 0) (hi := 255) C v19 rfl (by decide) rfl rfl ⟨by omega, by omega⟩ (by decide) (ev19) rfl rfl (oDec_at oX12_look 16 rfl) (fun b25 b25h => ?_)
            have la26 : ((t).1 72 ((t).1 71 2).toNatClampNeg).toInt = v19.toInt := by rw [ev1, (ev19)]
            refine r_bipush C (oDec_at oX12_look 17 rfl) (v := k32) (by rw [qk32]; rfl) ?_
            refine r_pc C 36 rfl ?_
            refine r_icmp_ne C 52 (oDec_at oX12_look 18 rfl) (by decide) (fun cd27 => ?_) (fun cd27 => ?_)
            · skip
              refine r_aload_n C (j := 0) (oDec_at oX12_look 26 rfl) rfl rfl ?_
              refine r_geti (k := 2) (lo := 0) (hi := 1600) C v1 oCl12 rfl (by decide) flX12_179 rfl rfl (ev1) rfl rfl (oDec_at oX12_look 27 rfl) (fun _ _ => ?_)
              refine r_aload_n C (j := 0) (oDec_at oX12_look 28 rfl) rfl rfl ?_
              refine r_geti (k := 3) (lo := 0) (hi := 1600) C v3 oCl12 rfl (by decide) flX12_182 rfl rfl (ev3) rfl rfl (oDec_at oX12_look 29 rfl) (fun _ _ => ?_)
              refine r_icmp_ge C 75 (oDec_at oX12_look 30 rfl) (by decide) (fun cd28 => ?_) (fun cd28 => ?_)
              · skip
                refine r_iconst C (oDec_at oX12_look 37 rfl) (v := km1) (by rw [qkm1]; rfl) ?_
                have lk29 : ((t).1 71 2).toInt = v1.toInt := congrArg Int32.toInt (ev1)
                have lt30 : ((t).1 72 ((t).1 71 2).toNatClampNeg).toInt = (v19).toInt := by rw [show (t).1 71 2 = v1 from ev1, show (t).1 72 v1.toNatClampNeg = v19 from ev19]
                have lk31 : ((t).1 71 2).toInt = v1.toInt := congrArg Int32.toInt (ev1)
                have lk32 : ((t).1 71 3).toInt = v3.toInt := congrArg Int32.toInt (ev3)
                exact r_iret C (oDec_at oX12_look 38 rfl) ⟨_, rfl, ⟨by omega, by omega⟩⟩
              · skip
                refine r_aload_n C (j := 0) (oDec_at oX12_look 31 rfl) rfl rfl ?_
                refine r_getF (k := 0) (b := 72) C oCl12 rfl (by decide) flX12_7 rfl rfl rfl (oDec_at oX12_look 32 rfl) ?_
                refine r_aload_n C (j := 0) (oDec_at oX12_look 33 rfl) rfl rfl ?_
                refine r_geti (k := 2) (lo := 0) (hi := 1600) C v1 oCl12 rfl (by decide) flX12_179 rfl rfl (ev1) rfl rfl (oDec_at oX12_look 34 rfl) (fun _ _ => ?_)
                refine r_iald (n := 1600) (lo := 0) (hi := 255) C v19 rfl (by decide) rfl rfl ⟨by omega, by omega⟩ (by decide) (ev19) rfl rfl (oDec_at oX12_look 35 rfl) (fun b33 b33h => ?_)
                have la34 : ((t).1 72 ((t).1 71 2).toNatClampNeg).toInt = v19.toInt := by rw [ev1, (ev19)]
                refine r_goto C (tgt := 76) (oDec_at oX12_look 36 rfl) (by decide) ?_
                have lk35 : ((t).1 71 2).toInt = v1.toInt := congrArg Int32.toInt (ev1)
                have lt36 : ((t).1 72 ((t).1 71 2).toNatClampNeg).toInt = (v19).toInt := by rw [show (t).1 71 2 = v1 from ev1, show (t).1 72 v1.toNatClampNeg = v19 from ev19]
                have lk37 : ((t).1 71 2).toInt = v1.toInt := congrArg Int32.toInt (ev1)
                have lk38 : ((t).1 71 3).toInt = v3.toInt := congrArg Int32.toInt (ev3)
                exact r_iret C (oDec_at oX12_look 38 rfl) ⟨_, rfl, ⟨by omega, by omega⟩⟩
            · skip
              refine r_aload_n C (j := 0) (oDec_at oX12_look 19 rfl) rfl rfl ?_
              refine r_dup C (oDec_at oX12_look 20 rfl) rfl ?_
              refine r_geti (k := 2) (lo := 0) (hi := 1600) C v1 oCl12 rfl (by decide) flX12_179 rfl rfl (ev1) rfl rfl (oDec_at oX12_look 21 rfl) (fun _ _ => ?_)
              refine r_iconst C (oDec_at oX12_look 22 rfl) (v := k1) (by rw [qk1]; rfl) ?_
              obtain ⟨v39, ev39⟩ : ∃ z : Int32, z = v1 + k1 := ⟨_, rfl⟩
              have hv39 : v39.toInt = v1.toInt + k1.toInt := n_add ev39 (by omega) (by omega)
              refine r_iadd C v39 (oDec_at oX12_look 23 rfl) ev39 ?_
              refine r_puti (k := 2) (lo := 0) (hi := 1600) C oCl12 rfl (by decide) flX12_179 rfl rfl rfl rfl rfl rfl rfl rfl ⟨by omega, by omega⟩ (oDec_at oX12_look 24 rfl) ?_
              refine r_pc C 49 rfl ?_
              refine r_goto C (tgt := 0) (oDec_at oX12_look 25 rfl) (by decide) ?_
              have lk40 : (((pI t 71 2 v39)).1 71 2).toInt = v39.toInt := congrArg Int32.toInt ((pI_self _ _ _ _))
              have lk41 : (((pI t 71 2 v39)).1 71 2).toInt = v39.toInt := congrArg Int32.toInt ((pI_self _ _ _ _))
              exact (ih (n - 1) (by omega)) ((pI t 71 2 v39))   (by omega) (by omega)
  exact (key (1601 - ((s).1 71 2).toInt).toNat) (s)   (by omega) (by omega)
set_option maxHeartbeats 4000000 in
set_option maxRecDepth 100000 in
theorem ct_X12_isHere (l : Launch) (E : oE) (s : oS) (c1 q1 n1 : Nat) (hk1 : okd c1 = q1) (h13_1 : 13 ≤ q1) (h9_1 : q1 < 999) (ht1 : oat q1 = 1) (hn1 : oln q1 = n1) (hp0 : 2 ≤ n1 ∧ n1 ≤ 7) : oMet l 2 yX12_isHere cX12_isHere 4 (some .boolean) [(12, 2)] E s [.ref (oad E 71), .ref (oad E c1)] (oPi (fun r u => (0 ≤ r.toInt ∧ r.toInt ≤ 1) ∧ ((s.1 71 2).toInt ≤ (u.1 71 2).toInt) ∧ (r.toInt = 1 → ((u.1 71 2).toInt + (n1 : Int) ≤ 1600 ∧ (s.1 71 5).toInt = 0)))) := by
  refine oMet.of (lv := [(0, .ref (oad E 71)), (1, .ref (oad E c1))]) (by decide +kernel) (Nat.le_of_ble_eq_true rfl) rfl (fun J C hT => ?_)
  have C : oC l 2 cX12_isHere RX12 4 (some .boolean) [(12, 2)] E s (oPi (fun r u => (0 ≤ r.toInt ∧ r.toInt ≤ 1) ∧ ((s.1 71 2).toInt ≤ (u.1 71 2).toInt) ∧ (r.toInt = 1 → ((u.1 71 2).toInt + (n1 : Int) ≤ 1600 ∧ (s.1 71 5).toInt = 0)))) J := C
  obtain ⟨k0, qk0⟩ : ∃ z : Int32, z = 0 := ⟨_, rfl⟩
  have ek0 : k0.toInt = 0 := by rw [qk0]; rfl
  obtain ⟨k1, qk1⟩ : ∃ z : Int32, z = 1 := ⟨_, rfl⟩
  have ek1 : k1.toInt = 1 := by rw [qk1]; rfl
  have key : ∀ n : Nat, (∀ (t : oS) (x2 : Int32), ((s.1 71 2).toInt ≤ (t.1 71 2).toInt) → ((t.1 71 2).toInt ≤ x2.toInt ∧ x2.toInt ≤ 1600) → (0 ≤ x2.toInt) → ((s.1 71 5).toInt = 0) → 10000 - x2.toInt ≤ (n : Int) → J t 35 [(0, .ref (oad E 71)), (1, .ref (oad E c1)), (2, .int x2)] []) ∧ (∀ (t : oS) (x3 : Int32), ((s.1 71 2).toInt ≤ (t.1 71 2).toInt) → (0 ≤ x3.toInt ∧ x3.toInt ≤ (n1 : Int)) → ((t.1 71 2).toInt + (n1 : Int) ≤ 1600) → ((s.1 71 5).toInt = 0) → (n1 : Int) - x3.toInt + 1 ≤ (n : Int) → J t 76 [(0, .ref (oad E 71)), (1, .ref (oad E c1)), (3, .int x3)] []) := by
    intro n
    induction n using Nat.strongRecOn with
    | _ n ih =>
      refine ⟨?_, ?_⟩
      · intro t x2  iv0 iv1 iv2 iv3 hmu
        have rx2 := n_rng x2
        refine r_iload_n C (j := 2) (oDec_at oX12_isHere 17 rfl) rfl rfl ?_
        refine r_aload_n C (j := 0) (oDec_at oX12_isHere 18 rfl) rfl rfl ?_
        obtain ⟨v1, ev1⟩ : ∃ z : Int32, (t).1 71 3 = z := ⟨_, rfl⟩
        have gv1 : (t.1 71 3).toInt = v1.toInt := congrArg Int32.toInt (ev1)
        refine r_geti (k := 3) (lo := 0) (hi := 1600) C v1 oCl12 rfl (by decide) flX12_182 rfl rfl (ev1) rfl rfl (oDec_at oX12_isHere 19 rfl) (fun b2 b2h => ?_)
        refine r_icmp_ge C 61 (oDec_at oX12_isHere 20 rfl) (by decide) (fun cd3 => ?_) (fun cd3 => ?_)
        · skip
          refine r_iload_n C (j := 2) (oDec_at oX12_isHere 29 rfl) rfl rfl ?_
          refine r_aload_n C (j := 0) (oDec_at oX12_isHere 30 rfl) rfl rfl ?_
          obtain ⟨v4, ev4⟩ : ∃ z : Int32, (t).1 71 2 = z := ⟨_, rfl⟩
          have gv4 : (t.1 71 2).toInt = v4.toInt := congrArg Int32.toInt (ev4)
          refine r_geti (k := 2) (lo := 0) (hi := 1600) C v4 oCl12 rfl (by decide) flX12_179 rfl rfl (ev4) rfl rfl (oDec_at oX12_isHere 31 rfl) (fun b5 b5h => ?_)
          obtain ⟨v6, ev6⟩ : ∃ z : Int32, z = x2 - v4 := ⟨_, rfl⟩
          have hv6 : v6.toInt = x2.toInt - v4.toInt := n_sub ev6 (by omega) (by omega)
          refine r_isub C v6 (oDec_at oX12_isHere 32 rfl) ev6 ?_
          refine r_aload_n C (j := 1) (oDec_at oX12_isHere 33 rfl) rfl rfl ?_
          obtain ⟨v7, ev7⟩ : ∃ z : Int32, Int32.ofNat n1 = z := ⟨_, rfl⟩
          have hv7 : v7.toInt = (n1 : Int) := n_ofNat ev7 (by omega)
          refine r_alen1 (n := n1) C v7 hk1 h13_1 ht1 hn1 h9_1 ev7 (oDec_at oX12_isHere 34 rfl) ?_
          refine r_pc C 69 rfl ?_
          refine r_icmp_eq C 74 (oDec_at oX12_isHere 35 rfl) (by decide) (fun cd8 => ?_) (fun cd8 => ?_)
          · skip
            refine r_iconst C (oDec_at oX12_isHere 38 rfl) (v := k0) (by rw [qk0]; rfl) ?_
            refine r_istore_n C (lv' := [(0, .ref (oad E 71)), (1, .ref (oad E c1)), (2, .int x2), (3, .int k0)]) [1, 2, 3, 0] (oDec_at oX12_isHere 39 rfl) rfl (by decide) rfl ?_
            have lk9 : ((t).1 71 2).toInt = v4.toInt := congrArg Int32.toInt (ev4)
            have lk10 : ((t).1 71 2).toInt = v4.toInt := congrArg Int32.toInt (ev4)
            refine r_pick C [0, 1, 3] rfl ?_
            exact (ih (n - 1) (by omega)).2 (t) k0  (by omega) (by omega) (by omega) (by omega) (by omega)
          · skip
            refine r_iconst C (oDec_at oX12_isHere 36 rfl) (v := k0) (by rw [qk0]; rfl) ?_
            have lk11 : ((t).1 71 2).toInt = v4.toInt := congrArg Int32.toInt (ev4)
            have lk12 : ((t).1 71 2).toInt = v4.toInt := congrArg Int32.toInt (ev4)
            exact r_zret C (n_bool (by omega)) (oDec_at oX12_isHere 37 rfl) ⟨_, rfl, ⟨by omega, by omega, by omega⟩⟩
        · skip
          refine r_aload_n C (j := 0) (oDec_at oX12_isHere 21 rfl) rfl rfl ?_
          refine r_getF (k := 0) (b := 72) C oCl12 rfl (by decide) flX12_7 rfl rfl rfl (oDec_at oX12_isHere 22 rfl) ?_
          refine r_iload_n C (j := 2) (oDec_at oX12_isHere 23 rfl) rfl rfl ?_
          obtain ⟨v14, ev14⟩ : ∃ z : Int32, (t).1 72 x2.toNatClampNeg = z := ⟨_, rfl⟩
          have gv14 : (t.1 72 x2.toNatClampNeg).toInt = v14.toInt := congrArg Int32.toInt (ev14)
          refine r_iald (n := 1600) (lo := 0) (hi := 255) C v14 rfl (by decide) rfl rfl ⟨by omega, by omega⟩ (by decide) ev14 rfl rfl (oDec_at oX12_isHere 24 rfl) (fun b13 b13h => ?_)
          refine r_callSi C miX12_isLetter mlX12_189 (ct_X12_isLetter l E (t) v14 ) (by decide) rfl rfl rfl (Nat.le_of_ble_eq_true rfl) (oDec_at oX12_isHere 25 rfl) (fun r16 u15 pu15 fu15 => ?_)
          try dsimp only at pu15
          obtain ⟨pu15_0, pu15_1⟩ := pu15
          have hxu15 := oFr_nil fu15; subst hxu15
          have rr16 := n_rng r16
          refine r_if_eq C 61 (oDec_at oX12_isHere 26 rfl) (by decide) (fun cd17 => ?_) (fun cd17 => ?_)
          · skip
            refine r_iload_n C (j := 2) (oDec_at oX12_isHere 29 rfl) rfl rfl ?_
            refine r_aload_n C (j := 0) (oDec_at oX12_isHere 30 rfl) rfl rfl ?_
            obtain ⟨v18, ev18⟩ : ∃ z : Int32, (t).1 71 2 = z := ⟨_, rfl⟩
            have gv18 : (t.1 71 2).toInt = v18.toInt := congrArg Int32.toInt (ev18)
            refine r_geti (k := 2) (lo := 0) (hi := 1600) C v18 oCl12 rfl (by decide) flX12_179 rfl rfl (ev18) rfl rfl (oDec_at oX12_isHere 31 rfl) (fun b19 b19h => ?_)
            obtain ⟨v20, ev20⟩ : ∃ z : Int32, z = x2 - v18 := ⟨_, rfl⟩
            have hv20 : v20.toInt = x2.toInt - v18.toInt := n_sub ev20 (by omega) (by omega)
            refine r_isub C v20 (oDec_at oX12_isHere 32 rfl) ev20 ?_
            refine r_aload_n C (j := 1) (oDec_at oX12_isHere 33 rfl) rfl rfl ?_
            obtain ⟨v21, ev21⟩ : ∃ z : Int32, Int32.ofNat n1 = z := ⟨_, rfl⟩
            have hv21 : v21.toInt = (n1 : Int) := n_ofNat ev21 (by omega)
            refine r_alen1 (n := n1) C v21 hk1 h13_1 ht1 hn1 h9_1 ev21 (oDec_at oX12_isHere 34 rfl) ?_
            refine r_pc C 69 rfl ?_
            refine r_icmp_eq C 74 (oDec_at oX12_isHere 35 rfl) (by decide) (fun cd22 => ?_) (fun cd22 => ?_)
            · skip
              refine r_iconst C (oDec_at oX12_isHere 38 rfl) (v := k0) (by rw [qk0]; rfl) ?_
              refine r_istore_n C (lv' := [(0, .ref (oad E 71)), (1, .ref (oad E c1)), (2, .int x2), (3, .int k0)]) [1, 2, 3, 0] (oDec_at oX12_isHere 39 rfl) rfl (by decide) rfl ?_
              have lk23 : ((t).1 71 2).toInt = v18.toInt := congrArg Int32.toInt (ev18)
              have lk24 : ((t).1 71 2).toInt = v18.toInt := congrArg Int32.toInt (ev18)
              refine r_pick C [0, 1, 3] rfl ?_
              exact (ih (n - 1) (by omega)).2 (t) k0  (by omega) (by omega) (by omega) (by omega) (by omega)
            · skip
              refine r_iconst C (oDec_at oX12_isHere 36 rfl) (v := k0) (by rw [qk0]; rfl) ?_
              have lk25 : ((t).1 71 2).toInt = v18.toInt := congrArg Int32.toInt (ev18)
              have lk26 : ((t).1 71 2).toInt = v18.toInt := congrArg Int32.toInt (ev18)
              exact r_zret C (n_bool (by omega)) (oDec_at oX12_isHere 37 rfl) ⟨_, rfl, ⟨by omega, by omega, by omega⟩⟩
          · skip
            obtain ⟨v27, ev27⟩ : ∃ z : Int32, x2 + Int32.ofInt 1 = z := ⟨_, rfl⟩
            have hv27 : v27.toInt = x2.toInt + 1 := n_inc ev27 (by decide) (by omega) (by omega)
            refine r_iinc C (j := 2) (lv' := [(0, .ref (oad E 71)), (1, .ref (oad E c1)), (2, .int v27)]) v27 [1, 2, 0] (oDec_at oX12_isHere 27 rfl) rfl ev27 (by decide) rfl ?_
            refine r_goto C (tgt := 35) (oDec_at oX12_isHere 28 rfl) (by decide) ?_
            exact (ih (n - 1) (by omega)).1 (t) v27  (by omega) (by omega) (by omega) (by omega) (by omega)
      · intro t x3  iv0 iv1 iv2 iv3 hmu
        have rx3 := n_rng x3
        refine r_iload_n C (j := 2) (oDec_at oX12_isHere 40 rfl) rfl rfl ?_
        refine r_aload_n C (j := 1) (oDec_at oX12_isHere 41 rfl) rfl rfl ?_
        obtain ⟨v28, ev28⟩ : ∃ z : Int32, Int32.ofNat n1 = z := ⟨_, rfl⟩
        have hv28 : v28.toInt = (n1 : Int) := n_ofNat ev28 (by omega)
        refine r_alen1 (n := n1) C v28 hk1 h13_1 ht1 hn1 h9_1 ev28 (oDec_at oX12_isHere 42 rfl) ?_
        refine r_icmp_ge C 107 (oDec_at oX12_isHere 43 rfl) (by decide) (fun cd29 => ?_) (fun cd29 => ?_)
        · skip
          refine r_iconst C (oDec_at oX12_isHere 59 rfl) (v := k1) (by rw [qk1]; rfl) ?_
          exact r_zret C (n_bool (by omega)) (oDec_at oX12_isHere 60 rfl) ⟨_, rfl, ⟨by omega, by omega, by omega⟩⟩
        · skip
          refine r_aload_n C (j := 0) (oDec_at oX12_isHere 44 rfl) rfl rfl ?_
          refine r_getF (k := 0) (b := 72) C oCl12 rfl (by decide) flX12_7 rfl rfl rfl (oDec_at oX12_isHere 45 rfl) ?_
          refine r_aload_n C (j := 0) (oDec_at oX12_isHere 46 rfl) rfl rfl ?_
          obtain ⟨v30, ev30⟩ : ∃ z : Int32, (t).1 71 2 = z := ⟨_, rfl⟩
          have gv30 : (t.1 71 2).toInt = v30.toInt := congrArg Int32.toInt (ev30)
          refine r_geti (k := 2) (lo := 0) (hi := 1600) C v30 oCl12 rfl (by decide) flX12_179 rfl rfl (ev30) rfl rfl (oDec_at oX12_isHere 47 rfl) (fun b31 b31h => ?_)
          refine r_iload_n C (j := 2) (oDec_at oX12_isHere 48 rfl) rfl rfl ?_
          obtain ⟨v32, ev32⟩ : ∃ z : Int32, z = v30 + x3 := ⟨_, rfl⟩
          have hv32 : v32.toInt = v30.toInt + x3.toInt := n_add ev32 (by omega) (by omega)
          refine r_iadd C v32 (oDec_at oX12_isHere 49 rfl) ev32 ?_
          refine r_pc C 92 rfl ?_
          obtain ⟨v34, ev34⟩ : ∃ z : Int32, (t).1 72 v32.toNatClampNeg = z := ⟨_, rfl⟩
          have gv34 : (t.1 72 v32.toNatClampNeg).toInt = v34.toInt := congrArg Int32.toInt (ev34)
          refine r_iald (n := 1600) (lo := 0) (hi := 255) C v34 rfl (by decide) rfl rfl ⟨by omega, by omega⟩ (by decide) ev34 rfl rfl (oDec_at oX12_isHere 50 rfl) (fun b33 b33h => ?_)
          refine r_aload_n C (j := 1) (oDec_at oX12_isHere 51 rfl) rfl rfl ?_
          refine r_iload_n C (j := 2) (oDec_at oX12_isHere 52 rfl) rfl rfl ?_
          obtain ⟨v36, ev36⟩ : ∃ z : Int32, (t).1 c1 x3.toNatClampNeg = z := ⟨_, rfl⟩
          have gv36 : (t.1 c1 x3.toNatClampNeg).toInt = v36.toInt := congrArg Int32.toInt (ev36)
          have rv36 := n_rng v36
          refine r_cald (n := n1)  C v36 hk1 h13_1 ht1 hn1 ⟨by omega, by omega⟩ h9_1 ev36 rfl rfl (oDec_at oX12_isHere 53 rfl) (fun _ _ => ?_)
          have rv36 := n_rng v36
          refine r_icmp_eq C 101 (oDec_at oX12_isHere 54 rfl) (by decide) (fun cd37 => ?_) (fun cd37 => ?_)
          · skip
            obtain ⟨v38, ev38⟩ : ∃ z : Int32, x3 + Int32.ofInt 1 = z := ⟨_, rfl⟩
            have hv38 : v38.toInt = x3.toInt + 1 := n_inc ev38 (by decide) (by omega) (by omega)
            refine r_iinc C (j := 2) (lv' := [(0, .ref (oad E 71)), (1, .ref (oad E c1)), (3, .int v38)]) v38 [1, 2, 0] (oDec_at oX12_isHere 57 rfl) rfl ev38 (by decide) rfl ?_
            refine r_goto C (tgt := 76) (oDec_at oX12_isHere 58 rfl) (by decide) ?_
            have lk39 : ((t).1 71 2).toInt = v30.toInt := congrArg Int32.toInt (ev30)
            have lk40 : ((t).1 71 2).toInt = v30.toInt := congrArg Int32.toInt (ev30)
            exact (ih (n - 1) (by omega)).2 (t) v38  (by omega) (by omega) (by omega) (by omega) (by omega)
          · skip
            refine r_iconst C (oDec_at oX12_isHere 55 rfl) (v := k0) (by rw [qk0]; rfl) ?_
            have lk41 : ((t).1 71 2).toInt = v30.toInt := congrArg Int32.toInt (ev30)
            have lk42 : ((t).1 71 2).toInt = v30.toInt := congrArg Int32.toInt (ev30)
            exact r_zret C (n_bool (by omega)) (oDec_at oX12_isHere 56 rfl) ⟨_, rfl, ⟨by omega, by omega, by omega⟩⟩
  refine r_aload_n C (j := 0) (oDec_at oX12_isHere 0 rfl) rfl rfl ?_
  obtain ⟨v43, ev43⟩ : ∃ z : Int32, (s).1 71 5 = z := ⟨_, rfl⟩
  have gv43 : (s.1 71 5).toInt = v43.toInt := congrArg Int32.toInt (ev43)
  have rv43 := n_rng v43
  refine r_geti (k := 5) (lo := (-2147483648)) (hi := 2147483647) C v43 oCl12 rfl (by decide) flX12_173 rfl rfl (ev43) rfl rfl (oDec_at oX12_isHere 1 rfl) (fun _ _ => ?_)
  refine r_if_ne C 28 (oDec_at oX12_isHere 2 rfl) (by decide) (fun cd44 => ?_) (fun cd44 => ?_)
  · skip
    refine r_iconst C (oDec_at oX12_isHere 12 rfl) (v := k0) (by rw [qk0]; rfl) ?_
    exact r_zret C (n_bool (by omega)) (oDec_at oX12_isHere 13 rfl) ⟨_, rfl, ⟨by omega, by omega, by omega⟩⟩
  · skip
    refine r_aload_n C (j := 0) (oDec_at oX12_isHere 3 rfl) rfl rfl ?_
    refine r_callVi C oCl12 rfl miX12_look mlX12_185 (ct_X12_look l E (s)  ) (by decide) rfl rfl rfl (Nat.le_of_ble_eq_true rfl) (oDec_at oX12_isHere 4 rfl) (fun r46 u45 pu45 fu45 => ?_)
    try dsimp only at pu45
    obtain ⟨pu45_0, pu45_1⟩ := pu45
    obtain ⟨v47, ev47⟩ : ∃ z : Int32, (u45).1 71 2 = z := ⟨_, rfl⟩
    have gv47 : (u45.1 71 2).toInt = v47.toInt := congrArg Int32.toInt ev47
    have lt48 : ((u45).1 72 ((u45).1 71 2).toNatClampNeg).toInt = (s.1 72 v47.toNatClampNeg).toInt := by rw [ev47, show (u45).1 72 v47.toNatClampNeg = s.1 72 v47.toNatClampNeg from (fu45 72 v47.toNatClampNeg rfl).1]
    have lu49 : ((u45).1 71 2).toInt = v47.toInt := congrArg Int32.toInt (ev47)
    have lu50 : ((u45).1 71 2).toInt = v47.toInt := congrArg Int32.toInt (ev47)
    have lu51 : ((u45).1 71 3).toInt = (s.1 71 3).toInt := congrArg Int32.toInt ((fu45 71 3 rfl).1)
    have rr46 := n_rng r46
    refine r_callSi C miX12_isLetter mlX12_189 (ct_X12_isLetter l E (u45) r46 ) (by decide) rfl rfl rfl (Nat.le_of_ble_eq_true rfl) (oDec_at oX12_isHere 5 rfl) (fun r53 u52 pu52 fu52 => ?_)
    try dsimp only at pu52
    obtain ⟨pu52_0, pu52_1⟩ := pu52
    have hxu52 := oFr_nil fu52; subst hxu52
    have rr53 := n_rng r53
    refine r_if_eq C 28 (oDec_at oX12_isHere 6 rfl) (by decide) (fun cd54 => ?_) (fun cd54 => ?_)
    · skip
      refine r_iconst C (oDec_at oX12_isHere 12 rfl) (v := k0) (by rw [qk0]; rfl) ?_
      have lk55 : ((u45).1 71 2).toInt = v47.toInt := congrArg Int32.toInt (ev47)
      have lk56 : ((u45).1 71 2).toInt = v47.toInt := congrArg Int32.toInt (ev47)
      exact r_zret C (n_bool (by omega)) (oDec_at oX12_isHere 13 rfl) ⟨_, rfl, ⟨by omega, by omega, by omega⟩⟩
    · skip
      refine r_aload_n C (j := 0) (oDec_at oX12_isHere 7 rfl) rfl rfl ?_
      refine r_geti (k := 2) (lo := 0) (hi := 1600) C v47 oCl12 rfl (by decide) flX12_179 rfl rfl (ev47) rfl rfl (oDec_at oX12_isHere 8 rfl) (fun b57 b57h => ?_)
      refine r_aload_n C (j := 0) (oDec_at oX12_isHere 9 rfl) rfl rfl ?_
      obtain ⟨v58, ev58⟩ : ∃ z : Int32, (u45).1 71 4 = z := ⟨_, rfl⟩
      have gv58 : (s.1 71 4).toInt = v58.toInt := congrArg Int32.toInt (((fu45 71 4 rfl).1).symm.trans ev58)
      refine r_geti (k := 4) (lo := (-1)) (hi := 1600) C v58 oCl12 rfl (by decide) flX12_193 rfl rfl (ev58) rfl rfl (oDec_at oX12_isHere 10 rfl) (fun b59 b59h => ?_)
      refine r_icmp_ne C 30 (oDec_at oX12_isHere 11 rfl) (by decide) (fun cd60 => ?_) (fun cd60 => ?_)
      · skip
        refine r_aload_n C (j := 0) (oDec_at oX12_isHere 14 rfl) rfl rfl ?_
        refine r_geti (k := 2) (lo := 0) (hi := 1600) C v47 oCl12 rfl (by decide) flX12_179 rfl rfl (ev47) rfl rfl (oDec_at oX12_isHere 15 rfl) (fun b61 b61h => ?_)
        refine r_istore_n C (lv' := [(0, .ref (oad E 71)), (1, .ref (oad E c1)), (2, .int v47)]) [1, 2, 0] (oDec_at oX12_isHere 16 rfl) rfl (by decide) rfl ?_
        have lk62 : ((u45).1 71 2).toInt = v47.toInt := congrArg Int32.toInt (ev47)
        have lk63 : ((u45).1 71 2).toInt = v47.toInt := congrArg Int32.toInt (ev47)
        exact (key (10000 - v47.toInt).toNat).1 (u45) v47  (by omega) (by omega) (by omega) (by omega) (by omega)
      · skip
        refine r_iconst C (oDec_at oX12_isHere 12 rfl) (v := k0) (by rw [qk0]; rfl) ?_
        have lk64 : ((u45).1 71 2).toInt = v47.toInt := congrArg Int32.toInt (ev47)
        have lk65 : ((u45).1 71 2).toInt = v47.toInt := congrArg Int32.toInt (ev47)
        exact r_zret C (n_bool (by omega)) (oDec_at oX12_isHere 13 rfl) ⟨_, rfl, ⟨by omega, by omega, by omega⟩⟩
set_option maxHeartbeats 4000000 in
set_option maxRecDepth 100000 in
theorem ct_X12_takes (l : Launch) (E : oE) (s : oS) (c1 q1 n1 : Nat) (hk1 : okd c1 = q1) (h13_1 : 13 ≤ q1) (h9_1 : q1 < 999) (ht1 : oat q1 = 1) (hn1 : oln q1 = n1) (hp0 : 2 ≤ n1 ∧ n1 ≤ 7) : oMet l 3 yX12_takes cX12_takes 2 (some .boolean) [(12, 2), (12, 4)] E s [.ref (oad E 71), .ref (oad E c1)] (oPi (fun r u => (0 ≤ r.toInt ∧ r.toInt ≤ 1) ∧ ((s.1 71 2).toInt ≤ (u.1 71 2).toInt) ∧ (r.toInt = 1 → ((s.1 71 2).toInt + (n1 : Int) ≤ (u.1 71 2).toInt ∧ (s.1 71 5).toInt = 0)))) := by
  refine oMet.of (lv := [(0, .ref (oad E 71)), (1, .ref (oad E c1))]) (by decide +kernel) (Nat.le_of_ble_eq_true rfl) rfl (fun J C hT => ?_)
  have C : oC l 3 cX12_takes RX12 2 (some .boolean) [(12, 2), (12, 4)] E s (oPi (fun r u => (0 ≤ r.toInt ∧ r.toInt ≤ 1) ∧ ((s.1 71 2).toInt ≤ (u.1 71 2).toInt) ∧ (r.toInt = 1 → ((s.1 71 2).toInt + (n1 : Int) ≤ (u.1 71 2).toInt ∧ (s.1 71 5).toInt = 0)))) J := C
  obtain ⟨k0, qk0⟩ : ∃ z : Int32, z = 0 := ⟨_, rfl⟩
  have ek0 : k0.toInt = 0 := by rw [qk0]; rfl
  obtain ⟨k1, qk1⟩ : ∃ z : Int32, z = 1 := ⟨_, rfl⟩
  have ek1 : k1.toInt = 1 := by rw [qk1]; rfl
  refine r_aload_n C (j := 0) (oDec_at oX12_takes 0 rfl) rfl rfl ?_
  refine r_aload_n C (j := 1) (oDec_at oX12_takes 1 rfl) rfl rfl ?_
  refine r_callVi C oCl12 rfl miX12_isHere mlX12_196 (ct_X12_isHere l E (s) c1 q1 n1 hk1 h13_1 h9_1 ht1 hn1 (by omega)) (by decide) rfl rfl rfl (Nat.le_of_ble_eq_true rfl) (oDec_at oX12_takes 2 rfl) (fun r2 u1 pu1 fu1 => ?_)
  try dsimp only at pu1
  obtain ⟨pu1_0, pu1_1, pu1_2⟩ := pu1
  have rr2 := n_rng r2
  refine r_if_ne C 10 (oDec_at oX12_takes 3 rfl) (by decide) (fun cd3 => ?_) (fun cd3 => ?_)
  · skip
    refine r_aload_n C (j := 0) (oDec_at oX12_takes 6 rfl) rfl rfl ?_
    refine r_dup C (oDec_at oX12_takes 7 rfl) rfl ?_
    obtain ⟨v4, ev4⟩ : ∃ z : Int32, (u1).1 71 2 = z := ⟨_, rfl⟩
    have gv4 : (u1.1 71 2).toInt = v4.toInt := congrArg Int32.toInt (ev4)
    refine r_geti (k := 2) (lo := 0) (hi := 1600) C v4 oCl12 rfl (by decide) flX12_179 rfl rfl (ev4) rfl rfl (oDec_at oX12_takes 8 rfl) (fun b5 b5h => ?_)
    refine r_aload_n C (j := 1) (oDec_at oX12_takes 9 rfl) rfl rfl ?_
    obtain ⟨v6, ev6⟩ : ∃ z : Int32, Int32.ofNat n1 = z := ⟨_, rfl⟩
    have hv6 : v6.toInt = (n1 : Int) := n_ofNat ev6 (by omega)
    refine r_alen1 (n := n1) C v6 hk1 h13_1 ht1 hn1 h9_1 ev6 (oDec_at oX12_takes 10 rfl) ?_
    obtain ⟨v7, ev7⟩ : ∃ z : Int32, z = v4 + v6 := ⟨_, rfl⟩
    have hv7 : v7.toInt = v4.toInt + v6.toInt := n_add ev7 (by omega) (by omega)
    refine r_iadd C v7 (oDec_at oX12_takes 11 rfl) ev7 ?_
    refine r_pc C 18 rfl ?_
    refine r_puti (k := 2) (lo := 0) (hi := 1600) C oCl12 rfl (by decide) flX12_179 rfl rfl rfl rfl rfl rfl rfl rfl ⟨by omega, by omega⟩ (oDec_at oX12_takes 12 rfl) ?_
    refine r_aload_n C (j := 0) (oDec_at oX12_takes 13 rfl) rfl rfl ?_
    refine r_aload_n C (j := 0) (oDec_at oX12_takes 14 rfl) rfl rfl ?_
    refine r_geti (k := 2) (lo := 0) (hi := 1600) C v7 oCl12 rfl (by decide) flX12_179 rfl rfl ((pI_self _ _ _ _)) rfl rfl (oDec_at oX12_takes 15 rfl) (fun _ _ => ?_)
    refine r_puti (k := 4) (lo := (-1)) (hi := 1600) C oCl12 rfl (by decide) flX12_193 rfl rfl rfl rfl rfl rfl rfl rfl ⟨by omega, by omega⟩ (oDec_at oX12_takes 16 rfl) ?_
    refine r_iconst C (oDec_at oX12_takes 17 rfl) (v := k1) (by rw [qk1]; rfl) ?_
    refine r_pc C 30 rfl ?_
    have lk8 : (((pI (pI u1 71 2 v7) 71 4 v7)).1 71 2).toInt = v7.toInt := congrArg Int32.toInt (((pI_ne (a := 71) (b := 2) (c := 71) (k := 4) _ _ (Or.inr (by decide)))).trans ((pI_self _ _ _ _)))
    have lk9 : (((pI (pI u1 71 2 v7) 71 4 v7)).1 71 2).toInt = v7.toInt := congrArg Int32.toInt (((pI_ne (a := 71) (b := 2) (c := 71) (k := 4) _ _ (Or.inr (by decide)))).trans ((pI_self _ _ _ _)))
    exact r_zret C (n_bool (by omega)) (oDec_at oX12_takes 18 rfl) ⟨_, rfl, ⟨by omega, by omega, by omega⟩⟩
  · skip
    refine r_iconst C (oDec_at oX12_takes 4 rfl) (v := k0) (by rw [qk0]; rfl) ?_
    exact r_zret C (n_bool (by omega)) (oDec_at oX12_takes 5 rfl) ⟨_, rfl, ⟨by omega, by omega, by omega⟩⟩
set_option maxHeartbeats 4000000 in
set_option maxRecDepth 100000 in
theorem ct_X12_asks (l : Launch) (E : oE) (s : oS) (c1 q1 n1 : Nat) (hk1 : okd c1 = q1) (h13_1 : 13 ≤ q1) (h9_1 : q1 < 999) (ht1 : oat q1 = 1) (hn1 : oln q1 = n1) (hp0 : 2 ≤ n1 ∧ n1 ≤ 7) : oMet l 4 yX12_asks cX12_asks 2 none [(12, 2), (12, 4), (12, 5), (12, 6)] E s [.ref (oad E 71), .ref (oad E c1)] (oPv (fun u => ((s.1 71 2).toInt ≤ (u.1 71 2).toInt) ∧ ((u.1 71 5).toInt = 0 → ((s.1 71 5).toInt = 0 ∧ (s.1 71 2).toInt + (n1 : Int) ≤ (u.1 71 2).toInt)))) := by
  refine oMet.of (lv := [(0, .ref (oad E 71)), (1, .ref (oad E c1))]) (by decide +kernel) (Nat.le_of_ble_eq_true rfl) rfl (fun J C hT => ?_)
  have C : oC l 4 cX12_asks RX12 2 none [(12, 2), (12, 4), (12, 5), (12, 6)] E s (oPv (fun u => ((s.1 71 2).toInt ≤ (u.1 71 2).toInt) ∧ ((u.1 71 5).toInt = 0 → ((s.1 71 5).toInt = 0 ∧ (s.1 71 2).toInt + (n1 : Int) ≤ (u.1 71 2).toInt)))) J := C
  obtain ⟨k1, qk1⟩ : ∃ z : Int32, z = 1 := ⟨_, rfl⟩
  have ek1 : k1.toInt = 1 := by rw [qk1]; rfl
  refine r_aload_n C (j := 0) (oDec_at oX12_asks 0 rfl) rfl rfl ?_
  obtain ⟨v1, ev1⟩ : ∃ z : Int32, (s).1 71 5 = z := ⟨_, rfl⟩
  have gv1 : (s.1 71 5).toInt = v1.toInt := congrArg Int32.toInt (ev1)
  have rv1 := n_rng v1
  refine r_geti (k := 5) (lo := (-2147483648)) (hi := 2147483647) C v1 oCl12 rfl (by decide) flX12_173 rfl rfl (ev1) rfl rfl (oDec_at oX12_asks 1 rfl) (fun _ _ => ?_)
  refine r_if_ne C 24 (oDec_at oX12_asks 2 rfl) (by decide) (fun cd2 => ?_) (fun cd2 => ?_)
  · skip
    have lk3 : ((s).1 71 5).toInt = v1.toInt := congrArg Int32.toInt (ev1)
    exact r_vret C (oDec_at oX12_asks 12 rfl) ⟨rfl, ⟨by omega, by omega⟩⟩
  · skip
    refine r_aload_n C (j := 0) (oDec_at oX12_asks 3 rfl) rfl rfl ?_
    refine r_aload_n C (j := 1) (oDec_at oX12_asks 4 rfl) rfl rfl ?_
    have lk4 : ((s).1 71 5).toInt = v1.toInt := congrArg Int32.toInt (ev1)
    refine r_callVi C oCl12 rfl miX12_takes mlX12_200 (ct_X12_takes l E (s) c1 q1 n1 hk1 h13_1 h9_1 ht1 hn1 (by omega)) (by decide) rfl rfl rfl (Nat.le_of_ble_eq_true rfl) (oDec_at oX12_asks 5 rfl) (fun r6 u5 pu5 fu5 => ?_)
    try dsimp only at pu5
    try simp only [lk4] at pu5
    obtain ⟨pu5_0, pu5_1, pu5_2⟩ := pu5
    have rr6 := n_rng r6
    refine r_if_ne C 24 (oDec_at oX12_asks 6 rfl) (by decide) (fun cd7 => ?_) (fun cd7 => ?_)
    · skip
      have lk8 : ((u5).1 71 5).toInt = v1.toInt := congrArg Int32.toInt (((fu5 71 5 rfl).1).trans (ev1))
      exact r_vret C (oDec_at oX12_asks 12 rfl) ⟨rfl, ⟨by omega, by omega⟩⟩
    · skip
      refine r_aload_n C (j := 0) (oDec_at oX12_asks 7 rfl) rfl rfl ?_
      refine r_iconst C (oDec_at oX12_asks 8 rfl) (v := k1) (by rw [qk1]; rfl) ?_
      refine r_aload_n C (j := 0) (oDec_at oX12_asks 9 rfl) rfl rfl ?_
      obtain ⟨v9, ev9⟩ : ∃ z : Int32, (u5).1 71 2 = z := ⟨_, rfl⟩
      have gv9 : (u5.1 71 2).toInt = v9.toInt := congrArg Int32.toInt (ev9)
      refine r_geti (k := 2) (lo := 0) (hi := 1600) C v9 oCl12 rfl (by decide) flX12_179 rfl rfl (ev9) rfl rfl (oDec_at oX12_asks 10 rfl) (fun b10 b10h => ?_)
      have lk11 : ((u5).1 71 5).toInt = v1.toInt := congrArg Int32.toInt (((fu5 71 5 rfl).1).trans (ev1))
      have lk12 : ((u5).1 71 5).toInt = v1.toInt := congrArg Int32.toInt (((fu5 71 5 rfl).1).trans (ev1))
      refine r_callVv C oCl12 rfl miX12_fail mlX12_203 (ct_X12_fail l E (u5) k1 v9 ) (by decide) rfl rfl rfl (Nat.le_of_ble_eq_true rfl) (oDec_at oX12_asks 11 rfl) (fun u13 pu13 fu13 => ?_)
      try dsimp only at pu13
      try simp only [lk11, lk12] at pu13
      obtain ⟨pu13_0, pu13_1⟩ := pu13
      have lk15 : ((u13).1 71 2).toInt = v9.toInt := congrArg Int32.toInt (((fu13 71 2 rfl).1).trans (ev9))
      have lk16 : ((u13).1 71 2).toInt = v9.toInt := congrArg Int32.toInt (((fu13 71 2 rfl).1).trans (ev9))
      exact r_vret C (oDec_at oX12_asks 12 rfl) ⟨rfl, ⟨by omega, by omega⟩⟩
set_option maxHeartbeats 4000000 in
set_option maxRecDepth 100000 in
theorem ct_X12_takesSign (l : Launch) (E : oE) (s : oS) (a1 : Int32) (hp0 : 0 ≤ a1.toInt) : oMet l 2 yX12_takesSign cX12_takesSign 2 (some .boolean) [(12, 2)] E s [.ref (oad E 71), .int a1] (oPi (fun r u => (0 ≤ r.toInt ∧ r.toInt ≤ 1) ∧ ((s.1 71 2).toInt ≤ (u.1 71 2).toInt) ∧ (r.toInt = 1 → ((s.1 71 2).toInt + 1 ≤ (u.1 71 2).toInt ∧ (s.1 71 5).toInt = 0 ∧ 1 ≤ (u.1 71 2).toInt)))) := by
  refine oMet.of (lv := [(0, .ref (oad E 71)), (1, .int a1)]) (by decide +kernel) (Nat.le_of_ble_eq_true rfl) rfl (fun J C hT => ?_)
  have C : oC l 2 cX12_takesSign RX12 2 (some .boolean) [(12, 2)] E s (oPi (fun r u => (0 ≤ r.toInt ∧ r.toInt ≤ 1) ∧ ((s.1 71 2).toInt ≤ (u.1 71 2).toInt) ∧ (r.toInt = 1 → ((s.1 71 2).toInt + 1 ≤ (u.1 71 2).toInt ∧ (s.1 71 5).toInt = 0 ∧ 1 ≤ (u.1 71 2).toInt)))) J := C
  obtain ⟨k0, qk0⟩ : ∃ z : Int32, z = 0 := ⟨_, rfl⟩
  have ek0 : k0.toInt = 0 := by rw [qk0]; rfl
  obtain ⟨k1, qk1⟩ : ∃ z : Int32, z = 1 := ⟨_, rfl⟩
  have ek1 : k1.toInt = 1 := by rw [qk1]; rfl
  have rg1 := n_rng a1
  refine r_aload_n C (j := 0) (oDec_at oX12_takesSign 0 rfl) rfl rfl ?_
  obtain ⟨v1, ev1⟩ : ∃ z : Int32, (s).1 71 5 = z := ⟨_, rfl⟩
  have gv1 : (s.1 71 5).toInt = v1.toInt := congrArg Int32.toInt (ev1)
  have rv1 := n_rng v1
  refine r_geti (k := 5) (lo := (-2147483648)) (hi := 2147483647) C v1 oCl12 rfl (by decide) flX12_173 rfl rfl (ev1) rfl rfl (oDec_at oX12_takesSign 1 rfl) (fun _ _ => ?_)
  refine r_if_ne C 15 (oDec_at oX12_takesSign 2 rfl) (by decide) (fun cd2 => ?_) (fun cd2 => ?_)
  · skip
    refine r_iconst C (oDec_at oX12_takesSign 7 rfl) (v := k0) (by rw [qk0]; rfl) ?_
    exact r_zret C (n_bool (by omega)) (oDec_at oX12_takesSign 8 rfl) ⟨_, rfl, ⟨by omega, by omega, by omega⟩⟩
  · skip
    refine r_aload_n C (j := 0) (oDec_at oX12_takesSign 3 rfl) rfl rfl ?_
    refine r_callVi C oCl12 rfl miX12_look mlX12_185 (ct_X12_look l E (s)  ) (by decide) rfl rfl rfl (Nat.le_of_ble_eq_true rfl) (oDec_at oX12_takesSign 4 rfl) (fun r4 u3 pu3 fu3 => ?_)
    try dsimp only at pu3
    obtain ⟨pu3_0, pu3_1⟩ := pu3
    obtain ⟨v5, ev5⟩ : ∃ z : Int32, (u3).1 71 2 = z := ⟨_, rfl⟩
    have gv5 : (u3.1 71 2).toInt = v5.toInt := congrArg Int32.toInt ev5
    have lt6 : ((u3).1 72 ((u3).1 71 2).toNatClampNeg).toInt = (s.1 72 v5.toNatClampNeg).toInt := by rw [ev5, show (u3).1 72 v5.toNatClampNeg = s.1 72 v5.toNatClampNeg from (fu3 72 v5.toNatClampNeg rfl).1]
    have lu7 : ((u3).1 71 2).toInt = v5.toInt := congrArg Int32.toInt (ev5)
    have lu8 : ((u3).1 71 2).toInt = v5.toInt := congrArg Int32.toInt (ev5)
    have lu9 : ((u3).1 71 3).toInt = (s.1 71 3).toInt := congrArg Int32.toInt ((fu3 71 3 rfl).1)
    have rr4 := n_rng r4
    refine r_iload_n C (j := 1) (oDec_at oX12_takesSign 5 rfl) rfl rfl ?_
    refine r_icmp_eq C 17 (oDec_at oX12_takesSign 6 rfl) (by decide) (fun cd10 => ?_) (fun cd10 => ?_)
    · skip
      refine r_aload_n C (j := 0) (oDec_at oX12_takesSign 9 rfl) rfl rfl ?_
      refine r_dup C (oDec_at oX12_takesSign 10 rfl) rfl ?_
      refine r_geti (k := 2) (lo := 0) (hi := 1600) C v5 oCl12 rfl (by decide) flX12_179 rfl rfl (ev5) rfl rfl (oDec_at oX12_takesSign 11 rfl) (fun b11 b11h => ?_)
      refine r_iconst C (oDec_at oX12_takesSign 12 rfl) (v := k1) (by rw [qk1]; rfl) ?_
      obtain ⟨v12, ev12⟩ : ∃ z : Int32, z = v5 + k1 := ⟨_, rfl⟩
      have hv12 : v12.toInt = v5.toInt + k1.toInt := n_add ev12 (by omega) (by omega)
      refine r_iadd C v12 (oDec_at oX12_takesSign 13 rfl) ev12 ?_
      refine r_puti (k := 2) (lo := 0) (hi := 1600) C oCl12 rfl (by decide) flX12_179 rfl rfl rfl rfl rfl rfl rfl rfl ⟨by omega, by omega⟩ (oDec_at oX12_takesSign 14 rfl) ?_
      refine r_pc C 27 rfl ?_
      refine r_iconst C (oDec_at oX12_takesSign 15 rfl) (v := k1) (by rw [qk1]; rfl) ?_
      have lk13 : (((pI u3 71 2 v12)).1 71 2).toInt = v12.toInt := congrArg Int32.toInt ((pI_self _ _ _ _))
      have lk14 : (((pI u3 71 2 v12)).1 71 2).toInt = v12.toInt := congrArg Int32.toInt ((pI_self _ _ _ _))
      exact r_zret C (n_bool (by omega)) (oDec_at oX12_takesSign 16 rfl) ⟨_, rfl, ⟨by omega, by omega, by omega⟩⟩
    · skip
      refine r_iconst C (oDec_at oX12_takesSign 7 rfl) (v := k0) (by rw [qk0]; rfl) ?_
      have lk15 : ((u3).1 71 2).toInt = v5.toInt := congrArg Int32.toInt (ev5)
      have lk16 : ((u3).1 71 2).toInt = v5.toInt := congrArg Int32.toInt (ev5)
      exact r_zret C (n_bool (by omega)) (oDec_at oX12_takesSign 8 rfl) ⟨_, rfl, ⟨by omega, by omega, by omega⟩⟩
set_option maxHeartbeats 4000000 in
set_option maxRecDepth 100000 in
theorem ct_X12_asksSign (l : Launch) (E : oE) (s : oS) (a1 : Int32) (hp0 : 0 ≤ a1.toInt) : oMet l 3 yX12_asksSign cX12_asksSign 2 none [(12, 2), (12, 5), (12, 6)] E s [.ref (oad E 71), .int a1] (oPv (fun u => ((s.1 71 2).toInt ≤ (u.1 71 2).toInt) ∧ ((u.1 71 5).toInt = 0 → ((s.1 71 5).toInt = 0 ∧ (s.1 71 2).toInt + 1 ≤ (u.1 71 2).toInt)))) := by
  refine oMet.of (lv := [(0, .ref (oad E 71)), (1, .int a1)]) (by decide +kernel) (Nat.le_of_ble_eq_true rfl) rfl (fun J C hT => ?_)
  have C : oC l 3 cX12_asksSign RX12 2 none [(12, 2), (12, 5), (12, 6)] E s (oPv (fun u => ((s.1 71 2).toInt ≤ (u.1 71 2).toInt) ∧ ((u.1 71 5).toInt = 0 → ((s.1 71 5).toInt = 0 ∧ (s.1 71 2).toInt + 1 ≤ (u.1 71 2).toInt)))) J := C
  obtain ⟨k1, qk1⟩ : ∃ z : Int32, z = 1 := ⟨_, rfl⟩
  have ek1 : k1.toInt = 1 := by rw [qk1]; rfl
  have rg1 := n_rng a1
  refine r_aload_n C (j := 0) (oDec_at oX12_asksSign 0 rfl) rfl rfl ?_
  obtain ⟨v1, ev1⟩ : ∃ z : Int32, (s).1 71 5 = z := ⟨_, rfl⟩
  have gv1 : (s.1 71 5).toInt = v1.toInt := congrArg Int32.toInt (ev1)
  have rv1 := n_rng v1
  refine r_geti (k := 5) (lo := (-2147483648)) (hi := 2147483647) C v1 oCl12 rfl (by decide) flX12_173 rfl rfl (ev1) rfl rfl (oDec_at oX12_asksSign 1 rfl) (fun _ _ => ?_)
  refine r_if_ne C 24 (oDec_at oX12_asksSign 2 rfl) (by decide) (fun cd2 => ?_) (fun cd2 => ?_)
  · skip
    have lk3 : ((s).1 71 5).toInt = v1.toInt := congrArg Int32.toInt (ev1)
    exact r_vret C (oDec_at oX12_asksSign 12 rfl) ⟨rfl, ⟨by omega, by omega⟩⟩
  · skip
    refine r_aload_n C (j := 0) (oDec_at oX12_asksSign 3 rfl) rfl rfl ?_
    refine r_iload_n C (j := 1) (oDec_at oX12_asksSign 4 rfl) rfl rfl ?_
    have lk4 : ((s).1 71 5).toInt = v1.toInt := congrArg Int32.toInt (ev1)
    refine r_callVi C oCl12 rfl miX12_takesSign mlX12_207 (ct_X12_takesSign l E (s) a1 (by omega)) (by decide) rfl rfl rfl (Nat.le_of_ble_eq_true rfl) (oDec_at oX12_asksSign 5 rfl) (fun r6 u5 pu5 fu5 => ?_)
    try dsimp only at pu5
    try simp only [lk4] at pu5
    obtain ⟨pu5_0, pu5_1, pu5_2⟩ := pu5
    have rr6 := n_rng r6
    refine r_if_ne C 24 (oDec_at oX12_asksSign 6 rfl) (by decide) (fun cd7 => ?_) (fun cd7 => ?_)
    · skip
      have lk8 : ((u5).1 71 5).toInt = v1.toInt := congrArg Int32.toInt (((fu5 71 5 rfl).1).trans (ev1))
      exact r_vret C (oDec_at oX12_asksSign 12 rfl) ⟨rfl, ⟨by omega, by omega⟩⟩
    · skip
      refine r_aload_n C (j := 0) (oDec_at oX12_asksSign 7 rfl) rfl rfl ?_
      refine r_iconst C (oDec_at oX12_asksSign 8 rfl) (v := k1) (by rw [qk1]; rfl) ?_
      refine r_aload_n C (j := 0) (oDec_at oX12_asksSign 9 rfl) rfl rfl ?_
      obtain ⟨v9, ev9⟩ : ∃ z : Int32, (u5).1 71 2 = z := ⟨_, rfl⟩
      have gv9 : (u5.1 71 2).toInt = v9.toInt := congrArg Int32.toInt (ev9)
      refine r_geti (k := 2) (lo := 0) (hi := 1600) C v9 oCl12 rfl (by decide) flX12_179 rfl rfl (ev9) rfl rfl (oDec_at oX12_asksSign 10 rfl) (fun b10 b10h => ?_)
      have lk11 : ((u5).1 71 5).toInt = v1.toInt := congrArg Int32.toInt (((fu5 71 5 rfl).1).trans (ev1))
      have lk12 : ((u5).1 71 5).toInt = v1.toInt := congrArg Int32.toInt (((fu5 71 5 rfl).1).trans (ev1))
      refine r_callVv C oCl12 rfl miX12_fail mlX12_203 (ct_X12_fail l E (u5) k1 v9 ) (by decide) rfl rfl rfl (Nat.le_of_ble_eq_true rfl) (oDec_at oX12_asksSign 11 rfl) (fun u13 pu13 fu13 => ?_)
      try dsimp only at pu13
      try simp only [lk11, lk12] at pu13
      obtain ⟨pu13_0, pu13_1⟩ := pu13
      have lk15 : ((u13).1 71 2).toInt = v9.toInt := congrArg Int32.toInt (((fu13 71 2 rfl).1).trans (ev9))
      have lk16 : ((u13).1 71 2).toInt = v9.toInt := congrArg Int32.toInt (((fu13 71 2 rfl).1).trans (ev9))
      exact r_vret C (oDec_at oX12_asksSign 12 rfl) ⟨rfl, ⟨by omega, by omega⟩⟩
set_option maxHeartbeats 4000000 in
set_option maxRecDepth 100000 in
theorem ct_X12_number (l : Launch) (E : oE) (s : oS) (a1 : Int32) (a2 : Int32)  : oMet l 2 yX12_number cX12_number 4 (some .int) [(12, 2), (12, 4), (12, 5), (12, 6), (12, 9)] E s [.ref (oad E 71), .int a1, .int a2] (oPi (fun r u => ((s.1 71 2).toInt ≤ (u.1 71 2).toInt) ∧ (0 ≤ r.toInt ∧ r.toInt ≤ 9999) ∧ ((u.1 71 5).toInt = 0 → ((s.1 71 5).toInt = 0 ∧ (s.1 71 2).toInt + 1 ≤ (u.1 71 2).toInt ∧ a1.toInt ≤ r.toInt ∧ r.toInt ≤ a2.toInt)) ∧ ((s.1 71 5).toInt ≠ 0 → (u.1 71 5).toInt = (s.1 71 5).toInt))) := by
  refine oMet.of (lv := [(0, .ref (oad E 71)), (1, .int a1), (2, .int a2)]) (by decide +kernel) (Nat.le_of_ble_eq_true rfl) rfl (fun J C hT => ?_)
  have C : oC l 2 cX12_number RX12 4 (some .int) [(12, 2), (12, 4), (12, 5), (12, 6), (12, 9)] E s (oPi (fun r u => ((s.1 71 2).toInt ≤ (u.1 71 2).toInt) ∧ (0 ≤ r.toInt ∧ r.toInt ≤ 9999) ∧ ((u.1 71 5).toInt = 0 → ((s.1 71 5).toInt = 0 ∧ (s.1 71 2).toInt + 1 ≤ (u.1 71 2).toInt ∧ a1.toInt ≤ r.toInt ∧ r.toInt ≤ a2.toInt)) ∧ ((s.1 71 5).toInt ≠ 0 → (u.1 71 5).toInt = (s.1 71 5).toInt))) J := C
  obtain ⟨k0, qk0⟩ : ∃ z : Int32, z = 0 := ⟨_, rfl⟩
  have ek0 : k0.toInt = 0 := by rw [qk0]; rfl
  obtain ⟨k1, qk1⟩ : ∃ z : Int32, z = 1 := ⟨_, rfl⟩
  have ek1 : k1.toInt = 1 := by rw [qk1]; rfl
  obtain ⟨k2, qk2⟩ : ∃ z : Int32, z = 2 := ⟨_, rfl⟩
  have ek2 : k2.toInt = 2 := by rw [qk2]; rfl
  obtain ⟨k4, qk4⟩ : ∃ z : Int32, z = 4 := ⟨_, rfl⟩
  have ek4 : k4.toInt = 4 := by rw [qk4]; rfl
  obtain ⟨k10, qk10⟩ : ∃ z : Int32, z = 10 := ⟨_, rfl⟩
  have ek10 : k10.toInt = 10 := by rw [qk10]; rfl
  obtain ⟨k48, qk48⟩ : ∃ z : Int32, z = 48 := ⟨_, rfl⟩
  have ek48 : k48.toInt = 48 := by rw [qk48]; rfl
  have rg1 := n_rng a1
  have rg2 := n_rng a2
  have key : ∀ n : Nat, (∀ (t : oS) (x3 : Int32), ((s.1 71 2).toInt ≤ (t.1 71 9).toInt ∧ (t.1 71 9).toInt ≤ (t.1 71 2).toInt ∧ (t.1 71 2).toInt ≤ (t.1 71 9).toInt + 4) → ((t.1 71 5).toInt = 0 ∧ (s.1 71 5).toInt = 0) → (0 ≤ x3.toInt) → (((t.1 71 2).toInt = (t.1 71 9).toInt ∧ x3.toInt = 0 ∧ (t.1 71 2).toInt < (t.1 71 3).toInt ∧ 48 ≤ (t.1 72 (t.1 71 2).toNatClampNeg).toInt ∧ (t.1 72 (t.1 71 2).toNatClampNeg).toInt ≤ 57) ∨ ((t.1 71 2).toInt = (t.1 71 9).toInt + 1 ∧ x3.toInt ≤ 9) ∨ ((t.1 71 2).toInt = (t.1 71 9).toInt + 2 ∧ x3.toInt ≤ 99) ∨ ((t.1 71 2).toInt = (t.1 71 9).toInt + 3 ∧ x3.toInt ≤ 999) ∨ ((t.1 71 2).toInt = (t.1 71 9).toInt + 4 ∧ x3.toInt ≤ 9999)) → 1601 - (t.1 71 2).toInt ≤ (n : Int) → J t 51 [(0, .ref (oad E 71)), (1, .int a1), (2, .int a2), (3, .int x3)] []) := by
    intro n
    induction n using Nat.strongRecOn with
    | _ n ih =>
      skip
      · intro t x3  iv0 iv1 iv2 iv3 hmu
        have rx3 := n_rng x3
        refine r_aload_n C (j := 0) (oDec_at oX12_number 27 rfl) rfl rfl ?_
        obtain ⟨v1, ev1⟩ : ∃ z : Int32, (t).1 71 2 = z := ⟨_, rfl⟩
        have gv1 : (t.1 71 2).toInt = v1.toInt := congrArg Int32.toInt (ev1)
        refine r_geti (k := 2) (lo := 0) (hi := 1600) C v1 oCl12 rfl (by decide) flX12_179 rfl rfl (ev1) rfl rfl (oDec_at oX12_number 28 rfl) (fun b2 b2h => ?_)
        refine r_aload_n C (j := 0) (oDec_at oX12_number 29 rfl) rfl rfl ?_
        obtain ⟨v3, ev3⟩ : ∃ z : Int32, (t).1 71 3 = z := ⟨_, rfl⟩
        have gv3 : (t.1 71 3).toInt = v3.toInt := congrArg Int32.toInt (ev3)
        refine r_geti (k := 3) (lo := 0) (hi := 1600) C v3 oCl12 rfl (by decide) flX12_182 rfl rfl (ev3) rfl rfl (oDec_at oX12_number 30 rfl) (fun b4 b4h => ?_)
        refine r_icmp_ge C 132 (oDec_at oX12_number 31 rfl) (by decide) (fun cd5 => ?_) (fun cd5 => ?_)
        · skip
          refine r_aload_n C (j := 0) (oDec_at oX12_number 72 rfl) rfl rfl ?_
          refine r_aload_n C (j := 0) (oDec_at oX12_number 73 rfl) rfl rfl ?_
          refine r_geti (k := 2) (lo := 0) (hi := 1600) C v1 oCl12 rfl (by decide) flX12_179 rfl rfl (ev1) rfl rfl (oDec_at oX12_number 74 rfl) (fun _ _ => ?_)
          refine r_puti (k := 4) (lo := (-1)) (hi := 1600) C oCl12 rfl (by decide) flX12_193 rfl rfl rfl rfl rfl rfl rfl rfl ⟨by omega, by omega⟩ (oDec_at oX12_number 75 rfl) ?_
          refine r_iload_n C (j := 3) (oDec_at oX12_number 76 rfl) rfl rfl ?_
          obtain ⟨v6, ev6⟩ : ∃ z : Int64, x3.toInt64 = z := ⟨_, rfl⟩
          have hv6 : v6.toInt = x3.toInt := n_i2l ev6
          refine r_i2l C v6 (oDec_at oX12_number 77 rfl) ev6 ?_
          refine r_pc C 142 rfl ?_
          refine r_iload_n C (j := 1) (oDec_at oX12_number 78 rfl) rfl rfl ?_
          obtain ⟨v7, ev7⟩ : ∃ z : Int64, a1.toInt64 = z := ⟨_, rfl⟩
          have hv7 : v7.toInt = a1.toInt := n_i2l ev7
          refine r_i2l C v7 (oDec_at oX12_number 79 rfl) ev7 ?_
          refine r_iload_n C (j := 2) (oDec_at oX12_number 80 rfl) rfl rfl ?_
          obtain ⟨v8, ev8⟩ : ∃ z : Int64, a2.toInt64 = z := ⟨_, rfl⟩
          have hv8 : v8.toInt = a2.toInt := n_i2l ev8
          refine r_i2l C v8 (oDec_at oX12_number 81 rfl) ev8 ?_
          refine r_callSi C miX12_isIn mlX12_216 (ct_X12_isIn l E ((pI t 71 4 v1)) v6 v7 v8 ) (by decide) rfl rfl rfl (Nat.le_of_ble_eq_true rfl) (oDec_at oX12_number 82 rfl) (fun r10 u9 pu9 fu9 => ?_)
          try dsimp only at pu9
          obtain ⟨pu9_0, pu9_1⟩ := pu9
          have hxu9 := oFr_nil fu9; subst hxu9
          have rr10 := n_rng r10
          refine r_if_ne C 161 (oDec_at oX12_number 83 rfl) (by decide) (fun cd11 => ?_) (fun cd11 => ?_)
          · skip
            refine r_iload_n C (j := 3) (oDec_at oX12_number 89 rfl) rfl rfl ?_
            have lk12 : (((pI t 71 4 v1)).1 71 2).toInt = v1.toInt := congrArg Int32.toInt (((pI_ne (a := 71) (b := 2) (c := 71) (k := 4) _ _ (Or.inr (by decide)))).trans (ev1))
            have lk13 : (((pI t 71 4 v1)).1 71 5).toInt = (t.1 71 5).toInt := congrArg Int32.toInt ((pI_ne (a := 71) (b := 5) (c := 71) (k := 4) _ _ (Or.inr (by decide))))
            have lk14 : (((pI t 71 4 v1)).1 71 2).toInt = v1.toInt := congrArg Int32.toInt (((pI_ne (a := 71) (b := 2) (c := 71) (k := 4) _ _ (Or.inr (by decide)))).trans (ev1))
            have lk15 : (((pI t 71 4 v1)).1 71 5).toInt = (t.1 71 5).toInt := congrArg Int32.toInt ((pI_ne (a := 71) (b := 5) (c := 71) (k := 4) _ _ (Or.inr (by decide))))
            exact r_iret C (oDec_at oX12_number 90 rfl) ⟨_, rfl, ⟨by omega, by omega, by omega, by omega⟩⟩
          · skip
            refine r_aload_n C (j := 0) (oDec_at oX12_number 84 rfl) rfl rfl ?_
            refine r_iconst C (oDec_at oX12_number 85 rfl) (v := k2) (by rw [qk2]; rfl) ?_
            refine r_aload_n C (j := 0) (oDec_at oX12_number 86 rfl) rfl rfl ?_
            obtain ⟨v16, ev16⟩ : ∃ z : Int32, ((pI t 71 4 v1)).1 71 9 = z := ⟨_, rfl⟩
            have gv16 : (t.1 71 9).toInt = v16.toInt := congrArg Int32.toInt (((pI_ne (a := 71) (b := 9) (c := 71) (k := 4) _ _ (Or.inr (by decide)))).symm.trans ev16)
            have rv16 := n_rng v16
            refine r_geti (k := 9) (lo := (-2147483648)) (hi := 2147483647) C v16 oCl12 rfl (by decide) flX12_213 rfl rfl (ev16) rfl rfl (oDec_at oX12_number 87 rfl) (fun _ _ => ?_)
            have lk17 : (((pI t 71 4 v1)).1 71 5).toInt = (t.1 71 5).toInt := congrArg Int32.toInt ((pI_ne (a := 71) (b := 5) (c := 71) (k := 4) _ _ (Or.inr (by decide))))
            have lk18 : (((pI t 71 4 v1)).1 71 5).toInt = (t.1 71 5).toInt := congrArg Int32.toInt ((pI_ne (a := 71) (b := 5) (c := 71) (k := 4) _ _ (Or.inr (by decide))))
            refine r_callVv C oCl12 rfl miX12_fail mlX12_203 (ct_X12_fail l E ((pI t 71 4 v1)) k2 v16 ) (by decide) rfl rfl rfl (Nat.le_of_ble_eq_true rfl) (oDec_at oX12_number 88 rfl) (fun u19 pu19 fu19 => ?_)
            try dsimp only at pu19
            try simp only [lk17, lk18] at pu19
            obtain ⟨pu19_0, pu19_1⟩ := pu19
            refine r_iload_n C (j := 3) (oDec_at oX12_number 89 rfl) rfl rfl ?_
            refine r_pc C 162 rfl ?_
            have lk21 : ((u19).1 71 2).toInt = v1.toInt := congrArg Int32.toInt (((fu19 71 2 rfl).1).trans (((pI_ne (a := 71) (b := 2) (c := 71) (k := 4) _ _ (Or.inr (by decide)))).trans (ev1)))
            have lk22 : ((u19).1 71 2).toInt = v1.toInt := congrArg Int32.toInt (((fu19 71 2 rfl).1).trans (((pI_ne (a := 71) (b := 2) (c := 71) (k := 4) _ _ (Or.inr (by decide)))).trans (ev1)))
            exact r_iret C (oDec_at oX12_number 90 rfl) ⟨_, rfl, ⟨by omega, by omega, by omega, by omega⟩⟩
        · skip
          refine r_aload_n C (j := 0) (oDec_at oX12_number 32 rfl) rfl rfl ?_
          refine r_getF (k := 0) (b := 72) C oCl12 rfl (by decide) flX12_7 rfl rfl rfl (oDec_at oX12_number 33 rfl) ?_
          refine r_aload_n C (j := 0) (oDec_at oX12_number 34 rfl) rfl rfl ?_
          refine r_geti (k := 2) (lo := 0) (hi := 1600) C v1 oCl12 rfl (by decide) flX12_179 rfl rfl (ev1) rfl rfl (oDec_at oX12_number 35 rfl) (fun _ _ => ?_)
          obtain ⟨v24, ev24⟩ : ∃ z : Int32, (t).1 72 v1.toNatClampNeg = z := ⟨_, rfl⟩
          have gv24 : (t.1 72 v1.toNatClampNeg).toInt = v24.toInt := congrArg Int32.toInt (ev24)
          refine r_iald (n := 1600) (lo := 0) (hi := 255) C v24 rfl (by decide) rfl rfl ⟨by omega, by omega⟩ (by decide) ev24 rfl rfl (oDec_at oX12_number 36 rfl) (fun b23 b23h => ?_)
          have la25 : ((t).1 72 ((t).1 71 2).toNatClampNeg).toInt = v24.toInt := by rw [ev1, ev24]
          refine r_callSi C miX12_isDigit mlX12_210 (ct_X12_isDigit l E (t) v24 ) (by decide) rfl rfl rfl (Nat.le_of_ble_eq_true rfl) (oDec_at oX12_number 37 rfl) (fun r27 u26 pu26 fu26 => ?_)
          try dsimp only at pu26
          obtain ⟨pu26_0, pu26_1⟩ := pu26
          have hxu26 := oFr_nil fu26; subst hxu26
          have rr27 := n_rng r27
          refine r_pc C 74 rfl ?_
          refine r_if_eq C 132 (oDec_at oX12_number 38 rfl) (by decide) (fun cd28 => ?_) (fun cd28 => ?_)
          · skip
            refine r_aload_n C (j := 0) (oDec_at oX12_number 72 rfl) rfl rfl ?_
            refine r_aload_n C (j := 0) (oDec_at oX12_number 73 rfl) rfl rfl ?_
            refine r_geti (k := 2) (lo := 0) (hi := 1600) C v1 oCl12 rfl (by decide) flX12_179 rfl rfl (ev1) rfl rfl (oDec_at oX12_number 74 rfl) (fun _ _ => ?_)
            refine r_puti (k := 4) (lo := (-1)) (hi := 1600) C oCl12 rfl (by decide) flX12_193 rfl rfl rfl rfl rfl rfl rfl rfl ⟨by omega, by omega⟩ (oDec_at oX12_number 75 rfl) ?_
            refine r_iload_n C (j := 3) (oDec_at oX12_number 76 rfl) rfl rfl ?_
            obtain ⟨v29, ev29⟩ : ∃ z : Int64, x3.toInt64 = z := ⟨_, rfl⟩
            have hv29 : v29.toInt = x3.toInt := n_i2l ev29
            refine r_i2l C v29 (oDec_at oX12_number 77 rfl) ev29 ?_
            refine r_pc C 142 rfl ?_
            refine r_iload_n C (j := 1) (oDec_at oX12_number 78 rfl) rfl rfl ?_
            obtain ⟨v30, ev30⟩ : ∃ z : Int64, a1.toInt64 = z := ⟨_, rfl⟩
            have hv30 : v30.toInt = a1.toInt := n_i2l ev30
            refine r_i2l C v30 (oDec_at oX12_number 79 rfl) ev30 ?_
            refine r_iload_n C (j := 2) (oDec_at oX12_number 80 rfl) rfl rfl ?_
            obtain ⟨v31, ev31⟩ : ∃ z : Int64, a2.toInt64 = z := ⟨_, rfl⟩
            have hv31 : v31.toInt = a2.toInt := n_i2l ev31
            refine r_i2l C v31 (oDec_at oX12_number 81 rfl) ev31 ?_
            refine r_callSi C miX12_isIn mlX12_216 (ct_X12_isIn l E ((pI t 71 4 v1)) v29 v30 v31 ) (by decide) rfl rfl rfl (Nat.le_of_ble_eq_true rfl) (oDec_at oX12_number 82 rfl) (fun r33 u32 pu32 fu32 => ?_)
            try dsimp only at pu32
            obtain ⟨pu32_0, pu32_1⟩ := pu32
            have hxu32 := oFr_nil fu32; subst hxu32
            have rr33 := n_rng r33
            refine r_if_ne C 161 (oDec_at oX12_number 83 rfl) (by decide) (fun cd34 => ?_) (fun cd34 => ?_)
            · skip
              refine r_iload_n C (j := 3) (oDec_at oX12_number 89 rfl) rfl rfl ?_
              have lk35 : (((pI t 71 4 v1)).1 71 2).toInt = v1.toInt := congrArg Int32.toInt (((pI_ne (a := 71) (b := 2) (c := 71) (k := 4) _ _ (Or.inr (by decide)))).trans (ev1))
              have lk36 : (((pI t 71 4 v1)).1 71 5).toInt = (t.1 71 5).toInt := congrArg Int32.toInt ((pI_ne (a := 71) (b := 5) (c := 71) (k := 4) _ _ (Or.inr (by decide))))
              have lk37 : (((pI t 71 4 v1)).1 71 2).toInt = v1.toInt := congrArg Int32.toInt (((pI_ne (a := 71) (b := 2) (c := 71) (k := 4) _ _ (Or.inr (by decide)))).trans (ev1))
              have lk38 : (((pI t 71 4 v1)).1 71 5).toInt = (t.1 71 5).toInt := congrArg Int32.toInt ((pI_ne (a := 71) (b := 5) (c := 71) (k := 4) _ _ (Or.inr (by decide))))
              exact r_iret C (oDec_at oX12_number 90 rfl) ⟨_, rfl, ⟨by omega, by omega, by omega, by omega⟩⟩
            · skip
              refine r_aload_n C (j := 0) (oDec_at oX12_number 84 rfl) rfl rfl ?_
              refine r_iconst C (oDec_at oX12_number 85 rfl) (v := k2) (by rw [qk2]; rfl) ?_
              refine r_aload_n C (j := 0) (oDec_at oX12_number 86 rfl) rfl rfl ?_
              obtain ⟨v39, ev39⟩ : ∃ z : Int32, ((pI t 71 4 v1)).1 71 9 = z := ⟨_, rfl⟩
              have gv39 : (t.1 71 9).toInt = v39.toInt := congrArg Int32.toInt (((pI_ne (a := 71) (b := 9) (c := 71) (k := 4) _ _ (Or.inr (by decide)))).symm.trans ev39)
              have rv39 := n_rng v39
              refine r_geti (k := 9) (lo := (-2147483648)) (hi := 2147483647) C v39 oCl12 rfl (by decide) flX12_213 rfl rfl (ev39) rfl rfl (oDec_at oX12_number 87 rfl) (fun _ _ => ?_)
              have lk40 : (((pI t 71 4 v1)).1 71 5).toInt = (t.1 71 5).toInt := congrArg Int32.toInt ((pI_ne (a := 71) (b := 5) (c := 71) (k := 4) _ _ (Or.inr (by decide))))
              have lk41 : (((pI t 71 4 v1)).1 71 5).toInt = (t.1 71 5).toInt := congrArg Int32.toInt ((pI_ne (a := 71) (b := 5) (c := 71) (k := 4) _ _ (Or.inr (by decide))))
              refine r_callVv C oCl12 rfl miX12_fail mlX12_203 (ct_X12_fail l E ((pI t 71 4 v1)) k2 v39 ) (by decide) rfl rfl rfl (Nat.le_of_ble_eq_true rfl) (oDec_at oX12_number 88 rfl) (fun u42 pu42 fu42 => ?_)
              try dsimp only at pu42
              try simp only [lk40, lk41] at pu42
              obtain ⟨pu42_0, pu42_1⟩ := pu42
              refine r_iload_n C (j := 3) (oDec_at oX12_number 89 rfl) rfl rfl ?_
              refine r_pc C 162 rfl ?_
              have lk44 : ((u42).1 71 2).toInt = v1.toInt := congrArg Int32.toInt (((fu42 71 2 rfl).1).trans (((pI_ne (a := 71) (b := 2) (c := 71) (k := 4) _ _ (Or.inr (by decide)))).trans (ev1)))
              have lk45 : ((u42).1 71 2).toInt = v1.toInt := congrArg Int32.toInt (((fu42 71 2 rfl).1).trans (((pI_ne (a := 71) (b := 2) (c := 71) (k := 4) _ _ (Or.inr (by decide)))).trans (ev1)))
              exact r_iret C (oDec_at oX12_number 90 rfl) ⟨_, rfl, ⟨by omega, by omega, by omega, by omega⟩⟩
          · skip
            refine r_aload_n C (j := 0) (oDec_at oX12_number 39 rfl) rfl rfl ?_
            refine r_geti (k := 2) (lo := 0) (hi := 1600) C v1 oCl12 rfl (by decide) flX12_179 rfl rfl (ev1) rfl rfl (oDec_at oX12_number 40 rfl) (fun _ _ => ?_)
            refine r_aload_n C (j := 0) (oDec_at oX12_number 41 rfl) rfl rfl ?_
            obtain ⟨v46, ev46⟩ : ∃ z : Int32, (t).1 71 9 = z := ⟨_, rfl⟩
            have gv46 : (t.1 71 9).toInt = v46.toInt := congrArg Int32.toInt (ev46)
            have rv46 := n_rng v46
            refine r_geti (k := 9) (lo := (-2147483648)) (hi := 2147483647) C v46 oCl12 rfl (by decide) flX12_213 rfl rfl (ev46) rfl rfl (oDec_at oX12_number 42 rfl) (fun _ _ => ?_)
            obtain ⟨v47, ev47⟩ : ∃ z : Int32, z = v1 - v46 := ⟨_, rfl⟩
            have hv47 : v47.toInt = v1.toInt - v46.toInt := n_sub ev47 (by omega) (by omega)
            refine r_isub C v47 (oDec_at oX12_number 43 rfl) ev47 ?_
            refine r_iconst C (oDec_at oX12_number 44 rfl) (v := k4) (by rw [qk4]; rfl) ?_
            refine r_pc C 87 rfl ?_
            refine r_icmp_ne C 101 (oDec_at oX12_number 45 rfl) (by decide) (fun cd48 => ?_) (fun cd48 => ?_)
            · skip
              refine r_bipush C (oDec_at oX12_number 53 rfl) (v := k10) (by rw [qk10]; rfl) ?_
              refine r_iload_n C (j := 3) (oDec_at oX12_number 54 rfl) rfl rfl ?_
              obtain ⟨v49, ev49⟩ : ∃ z : Int32, z = k10 * x3 := ⟨_, rfl⟩
              have hv49 : v49.toInt = 10 * x3.toInt := n_mulK' 10 ev49 ek10 (by omega) (by omega)
              refine r_imul C v49 (oDec_at oX12_number 55 rfl) ev49 ?_
              refine r_aload_n C (j := 0) (oDec_at oX12_number 56 rfl) rfl rfl ?_
              refine r_getF (k := 0) (b := 72) C oCl12 rfl (by decide) flX12_7 rfl rfl rfl (oDec_at oX12_number 57 rfl) ?_
              refine r_aload_n C (j := 0) (oDec_at oX12_number 58 rfl) rfl rfl ?_
              refine r_pc C 110 rfl ?_
              refine r_geti (k := 2) (lo := 0) (hi := 1600) C v1 oCl12 rfl (by decide) flX12_179 rfl rfl (ev1) rfl rfl (oDec_at oX12_number 59 rfl) (fun _ _ => ?_)
              refine r_iald (n := 1600) (lo := 0) (hi := 255) C v24 rfl (by decide) rfl rfl ⟨by omega, by omega⟩ (by decide) (ev24) rfl rfl (oDec_at oX12_number 60 rfl) (fun b50 b50h => ?_)
              have la51 : ((t).1 72 ((t).1 71 2).toNatClampNeg).toInt = v24.toInt := by rw [ev1, (ev24)]
              obtain ⟨v52, ev52⟩ : ∃ z : Int32, z = v49 + v24 := ⟨_, rfl⟩
              have hv52 : v52.toInt = v49.toInt + v24.toInt := n_add ev52 (by omega) (by omega)
              refine r_iadd C v52 (oDec_at oX12_number 61 rfl) ev52 ?_
              refine r_bipush C (oDec_at oX12_number 62 rfl) (v := k48) (by rw [qk48]; rfl) ?_
              obtain ⟨v53, ev53⟩ : ∃ z : Int32, z = v52 - k48 := ⟨_, rfl⟩
              have hv53 : v53.toInt = v52.toInt - k48.toInt := n_sub ev53 (by omega) (by omega)
              refine r_isub C v53 (oDec_at oX12_number 63 rfl) ev53 ?_
              refine r_istore_n C (lv' := [(0, .ref (oad E 71)), (1, .int a1), (2, .int a2), (3, .int v53)]) [1, 2, 3, 0] (oDec_at oX12_number 64 rfl) rfl (by decide) rfl ?_
              refine r_pc C 119 rfl ?_
              refine r_aload_n C (j := 0) (oDec_at oX12_number 65 rfl) rfl rfl ?_
              refine r_dup C (oDec_at oX12_number 66 rfl) rfl ?_
              refine r_geti (k := 2) (lo := 0) (hi := 1600) C v1 oCl12 rfl (by decide) flX12_179 rfl rfl (ev1) rfl rfl (oDec_at oX12_number 67 rfl) (fun _ _ => ?_)
              refine r_iconst C (oDec_at oX12_number 68 rfl) (v := k1) (by rw [qk1]; rfl) ?_
              obtain ⟨v54, ev54⟩ : ∃ z : Int32, z = v1 + k1 := ⟨_, rfl⟩
              have hv54 : v54.toInt = v1.toInt + k1.toInt := n_add ev54 (by omega) (by omega)
              refine r_iadd C v54 (oDec_at oX12_number 69 rfl) ev54 ?_
              refine r_puti (k := 2) (lo := 0) (hi := 1600) C oCl12 rfl (by decide) flX12_179 rfl rfl rfl rfl rfl rfl rfl rfl ⟨by omega, by omega⟩ (oDec_at oX12_number 70 rfl) ?_
              refine r_pc C 129 rfl ?_
              refine r_goto C (tgt := 51) (oDec_at oX12_number 71 rfl) (by decide) ?_
              have lk55 : (((pI t 71 2 v54)).1 71 9).toInt = v46.toInt := congrArg Int32.toInt (((pI_ne (a := 71) (b := 9) (c := 71) (k := 2) _ _ (Or.inr (by decide)))).trans (ev46))
              have lk56 : (((pI t 71 2 v54)).1 71 2).toInt = v54.toInt := congrArg Int32.toInt ((pI_self _ _ _ _))
              have lk57 : (((pI t 71 2 v54)).1 71 5).toInt = (t.1 71 5).toInt := congrArg Int32.toInt ((pI_ne (a := 71) (b := 5) (c := 71) (k := 2) _ _ (Or.inr (by decide))))
              have lt58 : (((pI t 71 2 v54)).1 72 (((pI t 71 2 v54)).1 71 2).toNatClampNeg).toInt = (t.1 72 v54.toNatClampNeg).toInt := by rw [show ((pI t 71 2 v54)).1 71 2 = v54 from (pI_self _ _ _ _), show ((pI t 71 2 v54)).1 72 v54.toNatClampNeg = t.1 72 v54.toNatClampNeg from (pI_ne (a := 72) (b := v54.toNatClampNeg) (c := 71) _ _ (Or.inl (by decide)))]
              have lk59 : (((pI t 71 2 v54)).1 71 2).toInt = v54.toInt := congrArg Int32.toInt ((pI_self _ _ _ _))
              have lk60 : (((pI t 71 2 v54)).1 71 9).toInt = v46.toInt := congrArg Int32.toInt (((pI_ne (a := 71) (b := 9) (c := 71) (k := 2) _ _ (Or.inr (by decide)))).trans (ev46))
              have lk61 : (((pI t 71 2 v54)).1 71 3).toInt = v3.toInt := congrArg Int32.toInt (((pI_ne (a := 71) (b := 3) (c := 71) (k := 2) _ _ (Or.inr (by decide)))).trans (ev3))
              have lk62 : (((pI t 71 2 v54)).1 71 2).toInt = v54.toInt := congrArg Int32.toInt ((pI_self _ _ _ _))
              exact (ih (n - 1) (by omega)) ((pI t 71 2 v54)) v53  (by omega) (by omega) (by omega) (by omega) (by omega)
            · skip
              refine r_aload_n C (j := 0) (oDec_at oX12_number 46 rfl) rfl rfl ?_
              refine r_iconst C (oDec_at oX12_number 47 rfl) (v := k1) (by rw [qk1]; rfl) ?_
              refine r_aload_n C (j := 0) (oDec_at oX12_number 48 rfl) rfl rfl ?_
              refine r_geti (k := 2) (lo := 0) (hi := 1600) C v1 oCl12 rfl (by decide) flX12_179 rfl rfl (ev1) rfl rfl (oDec_at oX12_number 49 rfl) (fun _ _ => ?_)
              refine r_callVv C oCl12 rfl miX12_fail mlX12_203 (ct_X12_fail l E (t) k1 v1 ) (by decide) rfl rfl rfl (Nat.le_of_ble_eq_true rfl) (oDec_at oX12_number 50 rfl) (fun u63 pu63 fu63 => ?_)
              try dsimp only at pu63
              obtain ⟨pu63_0, pu63_1⟩ := pu63
              refine r_iconst C (oDec_at oX12_number 51 rfl) (v := k0) (by rw [qk0]; rfl) ?_
              refine r_pc C 100 rfl ?_
              have lk65 : ((u63).1 71 2).toInt = v1.toInt := congrArg Int32.toInt (((fu63 71 2 rfl).1).trans (ev1))
              have lk66 : ((u63).1 71 2).toInt = v1.toInt := congrArg Int32.toInt (((fu63 71 2 rfl).1).trans (ev1))
              exact r_iret C (oDec_at oX12_number 52 rfl) ⟨_, rfl, ⟨by omega, by omega, by omega, by omega⟩⟩
  refine r_aload_n C (j := 0) (oDec_at oX12_number 0 rfl) rfl rfl ?_
  obtain ⟨v67, ev67⟩ : ∃ z : Int32, (s).1 71 5 = z := ⟨_, rfl⟩
  have gv67 : (s.1 71 5).toInt = v67.toInt := congrArg Int32.toInt (ev67)
  have rv67 := n_rng v67
  refine r_geti (k := 5) (lo := (-2147483648)) (hi := 2147483647) C v67 oCl12 rfl (by decide) flX12_173 rfl rfl (ev67) rfl rfl (oDec_at oX12_number 1 rfl) (fun _ _ => ?_)
  refine r_if_eq C 9 (oDec_at oX12_number 2 rfl) (by decide) (fun cd68 => ?_) (fun cd68 => ?_)
  · skip
    refine r_aload_n C (j := 0) (oDec_at oX12_number 5 rfl) rfl rfl ?_
    refine r_callVi C oCl12 rfl miX12_look mlX12_185 (ct_X12_look l E (s)  ) (by decide) rfl rfl rfl (Nat.le_of_ble_eq_true rfl) (oDec_at oX12_number 6 rfl) (fun r70 u69 pu69 fu69 => ?_)
    try dsimp only at pu69
    obtain ⟨pu69_0, pu69_1⟩ := pu69
    obtain ⟨v71, ev71⟩ : ∃ z : Int32, (u69).1 71 2 = z := ⟨_, rfl⟩
    have gv71 : (u69.1 71 2).toInt = v71.toInt := congrArg Int32.toInt ev71
    have lt72 : ((u69).1 72 ((u69).1 71 2).toNatClampNeg).toInt = (s.1 72 v71.toNatClampNeg).toInt := by rw [ev71, show (u69).1 72 v71.toNatClampNeg = s.1 72 v71.toNatClampNeg from (fu69 72 v71.toNatClampNeg rfl).1]
    have lu73 : ((u69).1 71 2).toInt = v71.toInt := congrArg Int32.toInt (ev71)
    have lu74 : ((u69).1 71 2).toInt = v71.toInt := congrArg Int32.toInt (ev71)
    have lu75 : ((u69).1 71 3).toInt = (s.1 71 3).toInt := congrArg Int32.toInt ((fu69 71 3 rfl).1)
    have rr70 := n_rng r70
    refine r_callSi C miX12_isDigit mlX12_210 (ct_X12_isDigit l E (u69) r70 ) (by decide) rfl rfl rfl (Nat.le_of_ble_eq_true rfl) (oDec_at oX12_number 7 rfl) (fun r77 u76 pu76 fu76 => ?_)
    try dsimp only at pu76
    obtain ⟨pu76_0, pu76_1⟩ := pu76
    have hxu76 := oFr_nil fu76; subst hxu76
    have rr77 := n_rng r77
    refine r_if_eq C 30 (oDec_at oX12_number 8 rfl) (by decide) (fun cd78 => ?_) (fun cd78 => ?_)
    · skip
      refine r_aload_n C (j := 0) (oDec_at oX12_number 14 rfl) rfl rfl ?_
      refine r_iconst C (oDec_at oX12_number 15 rfl) (v := k1) (by rw [qk1]; rfl) ?_
      refine r_aload_n C (j := 0) (oDec_at oX12_number 16 rfl) rfl rfl ?_
      refine r_geti (k := 2) (lo := 0) (hi := 1600) C v71 oCl12 rfl (by decide) flX12_179 rfl rfl (ev71) rfl rfl (oDec_at oX12_number 17 rfl) (fun b79 b79h => ?_)
      have lk80 : ((u69).1 71 5).toInt = v67.toInt := congrArg Int32.toInt (((fu69 71 5 rfl).1).trans (ev67))
      have lk81 : ((u69).1 71 5).toInt = v67.toInt := congrArg Int32.toInt (((fu69 71 5 rfl).1).trans (ev67))
      refine r_callVv C oCl12 rfl miX12_fail mlX12_203 (ct_X12_fail l E (u69) k1 v71 ) (by decide) rfl rfl rfl (Nat.le_of_ble_eq_true rfl) (oDec_at oX12_number 18 rfl) (fun u82 pu82 fu82 => ?_)
      try dsimp only at pu82
      try simp only [lk80, lk81] at pu82
      obtain ⟨pu82_0, pu82_1⟩ := pu82
      refine r_iconst C (oDec_at oX12_number 19 rfl) (v := k0) (by rw [qk0]; rfl) ?_
      refine r_pc C 40 rfl ?_
      have lk84 : ((u82).1 71 2).toInt = v71.toInt := congrArg Int32.toInt (((fu82 71 2 rfl).1).trans (ev71))
      have lk85 : ((u82).1 71 2).toInt = v71.toInt := congrArg Int32.toInt (((fu82 71 2 rfl).1).trans (ev71))
      exact r_iret C (oDec_at oX12_number 20 rfl) ⟨_, rfl, ⟨by omega, by omega, by omega, by omega⟩⟩
    · skip
      refine r_aload_n C (j := 0) (oDec_at oX12_number 9 rfl) rfl rfl ?_
      refine r_geti (k := 2) (lo := 0) (hi := 1600) C v71 oCl12 rfl (by decide) flX12_179 rfl rfl (ev71) rfl rfl (oDec_at oX12_number 10 rfl) (fun b86 b86h => ?_)
      refine r_aload_n C (j := 0) (oDec_at oX12_number 11 rfl) rfl rfl ?_
      obtain ⟨v87, ev87⟩ : ∃ z : Int32, (u69).1 71 4 = z := ⟨_, rfl⟩
      have gv87 : (s.1 71 4).toInt = v87.toInt := congrArg Int32.toInt (((fu69 71 4 rfl).1).symm.trans ev87)
      refine r_geti (k := 4) (lo := (-1)) (hi := 1600) C v87 oCl12 rfl (by decide) flX12_193 rfl rfl (ev87) rfl rfl (oDec_at oX12_number 12 rfl) (fun b88 b88h => ?_)
      refine r_icmp_ne C 41 (oDec_at oX12_number 13 rfl) (by decide) (fun cd89 => ?_) (fun cd89 => ?_)
      · skip
        refine r_aload_n C (j := 0) (oDec_at oX12_number 21 rfl) rfl rfl ?_
        refine r_aload_n C (j := 0) (oDec_at oX12_number 22 rfl) rfl rfl ?_
        refine r_geti (k := 2) (lo := 0) (hi := 1600) C v71 oCl12 rfl (by decide) flX12_179 rfl rfl (ev71) rfl rfl (oDec_at oX12_number 23 rfl) (fun b90 b90h => ?_)
        refine r_puti (k := 9) (lo := (-2147483648)) (hi := 2147483647) C oCl12 rfl (by decide) flX12_213 rfl rfl rfl rfl rfl rfl rfl rfl (n_rng _) (oDec_at oX12_number 24 rfl) ?_
        refine r_iconst C (oDec_at oX12_number 25 rfl) (v := k0) (by rw [qk0]; rfl) ?_
        refine r_istore_n C (lv' := [(0, .ref (oad E 71)), (1, .int a1), (2, .int a2), (3, .int k0)]) [1, 2, 3, 0] (oDec_at oX12_number 26 rfl) rfl (by decide) rfl ?_
        have lk91 : (((pI u69 71 9 v71)).1 71 9).toInt = v71.toInt := congrArg Int32.toInt ((pI_self _ _ _ _))
        have lk92 : (((pI u69 71 9 v71)).1 71 2).toInt = v71.toInt := congrArg Int32.toInt (((pI_ne (a := 71) (b := 2) (c := 71) (k := 9) _ _ (Or.inr (by decide)))).trans (ev71))
        have lk93 : (((pI u69 71 9 v71)).1 71 5).toInt = v67.toInt := congrArg Int32.toInt (((pI_ne (a := 71) (b := 5) (c := 71) (k := 9) _ _ (Or.inr (by decide)))).trans (((fu69 71 5 rfl).1).trans (ev67)))
        have lt94 : (((pI u69 71 9 v71)).1 72 (((pI u69 71 9 v71)).1 71 2).toNatClampNeg).toInt = (s.1 72 v71.toNatClampNeg).toInt := by rw [show ((pI u69 71 9 v71)).1 71 2 = v71 from ((pI_ne (a := 71) (b := 2) (c := 71) (k := 9) _ _ (Or.inr (by decide)))).trans (ev71), show ((pI u69 71 9 v71)).1 72 v71.toNatClampNeg = s.1 72 v71.toNatClampNeg from ((pI_ne (a := 72) (b := v71.toNatClampNeg) (c := 71) _ _ (Or.inl (by decide)))).trans ((fu69 72 v71.toNatClampNeg rfl).1)]
        have lk95 : (((pI u69 71 9 v71)).1 71 2).toInt = v71.toInt := congrArg Int32.toInt (((pI_ne (a := 71) (b := 2) (c := 71) (k := 9) _ _ (Or.inr (by decide)))).trans (ev71))
        have lk96 : (((pI u69 71 9 v71)).1 71 9).toInt = v71.toInt := congrArg Int32.toInt ((pI_self _ _ _ _))
        have lk97 : (((pI u69 71 9 v71)).1 71 3).toInt = (s.1 71 3).toInt := congrArg Int32.toInt (((pI_ne (a := 71) (b := 3) (c := 71) (k := 9) _ _ (Or.inr (by decide)))).trans ((fu69 71 3 rfl).1))
        have lk98 : (((pI u69 71 9 v71)).1 71 2).toInt = v71.toInt := congrArg Int32.toInt (((pI_ne (a := 71) (b := 2) (c := 71) (k := 9) _ _ (Or.inr (by decide)))).trans (ev71))
        exact (key (1601 - (((pI u69 71 9 v71)).1 71 2).toInt).toNat) ((pI u69 71 9 v71)) k0  (by omega) (by omega) (by omega) (by omega) (by omega)
      · skip
        refine r_aload_n C (j := 0) (oDec_at oX12_number 14 rfl) rfl rfl ?_
        refine r_iconst C (oDec_at oX12_number 15 rfl) (v := k1) (by rw [qk1]; rfl) ?_
        refine r_aload_n C (j := 0) (oDec_at oX12_number 16 rfl) rfl rfl ?_
        refine r_geti (k := 2) (lo := 0) (hi := 1600) C v71 oCl12 rfl (by decide) flX12_179 rfl rfl (ev71) rfl rfl (oDec_at oX12_number 17 rfl) (fun b99 b99h => ?_)
        have lk100 : ((u69).1 71 5).toInt = v67.toInt := congrArg Int32.toInt (((fu69 71 5 rfl).1).trans (ev67))
        have lk101 : ((u69).1 71 5).toInt = v67.toInt := congrArg Int32.toInt (((fu69 71 5 rfl).1).trans (ev67))
        refine r_callVv C oCl12 rfl miX12_fail mlX12_203 (ct_X12_fail l E (u69) k1 v71 ) (by decide) rfl rfl rfl (Nat.le_of_ble_eq_true rfl) (oDec_at oX12_number 18 rfl) (fun u102 pu102 fu102 => ?_)
        try dsimp only at pu102
        try simp only [lk100, lk101] at pu102
        obtain ⟨pu102_0, pu102_1⟩ := pu102
        refine r_iconst C (oDec_at oX12_number 19 rfl) (v := k0) (by rw [qk0]; rfl) ?_
        refine r_pc C 40 rfl ?_
        have lk104 : ((u102).1 71 2).toInt = v71.toInt := congrArg Int32.toInt (((fu102 71 2 rfl).1).trans (ev71))
        have lk105 : ((u102).1 71 2).toInt = v71.toInt := congrArg Int32.toInt (((fu102 71 2 rfl).1).trans (ev71))
        exact r_iret C (oDec_at oX12_number 20 rfl) ⟨_, rfl, ⟨by omega, by omega, by omega, by omega⟩⟩
  · skip
    refine r_iconst C (oDec_at oX12_number 3 rfl) (v := k0) (by rw [qk0]; rfl) ?_
    have lk106 : ((s).1 71 5).toInt = v67.toInt := congrArg Int32.toInt (ev67)
    have lk107 : ((s).1 71 5).toInt = v67.toInt := congrArg Int32.toInt (ev67)
    exact r_iret C (oDec_at oX12_number 4 rfl) ⟨_, rfl, ⟨by omega, by omega, by omega, by omega⟩⟩
set_option maxHeartbeats 4000000 in
set_option maxRecDepth 100000 in
theorem ct_X12_isOwnHere (l : Launch) (E : oE) (s : oS)   : oMet l 3 yX12_isOwnHere cX12_isOwnHere 2 (some .boolean) [(12, 2)] E s [.ref (oad E 71)] (oPi (fun r u => (0 ≤ r.toInt ∧ r.toInt ≤ 1) ∧ ((s.1 71 2).toInt ≤ (u.1 71 2).toInt))) := by
  refine oMet.of (lv := [(0, .ref (oad E 71))]) (by decide +kernel) (Nat.le_of_ble_eq_true rfl) rfl (fun J C hT => ?_)
  have C : oC l 3 cX12_isOwnHere RX12 2 (some .boolean) [(12, 2)] E s (oPi (fun r u => (0 ≤ r.toInt ∧ r.toInt ≤ 1) ∧ ((s.1 71 2).toInt ≤ (u.1 71 2).toInt))) J := C
  obtain ⟨k0, qk0⟩ : ∃ z : Int32, z = 0 := ⟨_, rfl⟩
  have ek0 : k0.toInt = 0 := by rw [qk0]; rfl
  obtain ⟨k1, qk1⟩ : ∃ z : Int32, z = 1 := ⟨_, rfl⟩
  have ek1 : k1.toInt = 1 := by rw [qk1]; rfl
  refine r_aload_n C (j := 0) (oDec_at oX12_isOwnHere 0 rfl) rfl rfl ?_
  refine r_aload_n C (j := 0) (oDec_at oX12_isOwnHere 1 rfl) rfl rfl ?_
  refine r_getF (k := 10) (b := 73) C oCl12 rfl (by decide) flX12_17 rfl rfl rfl (oDec_at oX12_isOwnHere 2 rfl) ?_
  refine r_callVi C oCl12 rfl miX12_isHere mlX12_196 (ct_X12_isHere l E (s) 73 49 4 rfl (by decide) (by decide) rfl rfl (by omega)) (by decide) rfl rfl rfl (Nat.le_of_ble_eq_true rfl) (oDec_at oX12_isOwnHere 3 rfl) (fun r2 u1 pu1 fu1 => ?_)
  try dsimp only at pu1
  obtain ⟨pu1_0, pu1_1, pu1_2⟩ := pu1
  have rr2 := n_rng r2
  refine r_if_ne C 66 (oDec_at oX12_isOwnHere 4 rfl) (by decide) (fun cd3 => ?_) (fun cd3 => ?_)
  · skip
    refine r_iconst C (oDec_at oX12_isOwnHere 30 rfl) (v := k1) (by rw [qk1]; rfl) ?_
    refine r_goto C (tgt := 71) (oDec_at oX12_isOwnHere 31 rfl) (by decide) ?_
    refine r_istore_n C (lv' := [(0, .ref (oad E 71)), (1, .int k1)]) [1, 0] (oDec_at oX12_isOwnHere 33 rfl) rfl (by decide) rfl ?_
    refine r_iload_n C (j := 1) (oDec_at oX12_isOwnHere 34 rfl) rfl rfl ?_
    refine r_if_ne C 142 (oDec_at oX12_isOwnHere 35 rfl) (by decide) (fun cd4 => ?_) (fun cd4 => ?_)
    · skip
      refine r_iconst C (oDec_at oX12_isOwnHere 66 rfl) (v := k1) (by rw [qk1]; rfl) ?_
      refine r_goto C (tgt := 147) (oDec_at oX12_isOwnHere 67 rfl) (by decide) ?_
      refine r_istore_n C (lv' := [(0, .ref (oad E 71)), (1, .int k1)]) [1, 0] (oDec_at oX12_isOwnHere 69 rfl) rfl (by decide) rfl ?_
      refine r_iload_n C (j := 1) (oDec_at oX12_isOwnHere 70 rfl) rfl rfl ?_
      refine r_if_ne C 218 (oDec_at oX12_isOwnHere 71 rfl) (by decide) (fun cd5 => ?_) (fun cd5 => ?_)
      · skip
        refine r_iconst C (oDec_at oX12_isOwnHere 102 rfl) (v := k1) (by rw [qk1]; rfl) ?_
        refine r_goto C (tgt := 223) (oDec_at oX12_isOwnHere 103 rfl) (by decide) ?_
        refine r_istore_n C (lv' := [(0, .ref (oad E 71)), (1, .int k1)]) [1, 0] (oDec_at oX12_isOwnHere 105 rfl) rfl (by decide) rfl ?_
        refine r_iload_n C (j := 1) (oDec_at oX12_isOwnHere 106 rfl) rfl rfl ?_
        refine r_if_ne C 294 (oDec_at oX12_isOwnHere 107 rfl) (by decide) (fun cd6 => ?_) (fun cd6 => ?_)
        · skip
          refine r_iconst C (oDec_at oX12_isOwnHere 138 rfl) (v := k1) (by rw [qk1]; rfl) ?_
          refine r_goto C (tgt := 299) (oDec_at oX12_isOwnHere 139 rfl) (by decide) ?_
          refine r_istore_n C (lv' := [(0, .ref (oad E 71)), (1, .int k1)]) [1, 0] (oDec_at oX12_isOwnHere 141 rfl) rfl (by decide) rfl ?_
          refine r_iload_n C (j := 1) (oDec_at oX12_isOwnHere 142 rfl) rfl rfl ?_
          refine r_if_ne C 326 (oDec_at oX12_isOwnHere 143 rfl) (by decide) (fun cd7 => ?_) (fun cd7 => ?_)
          · skip
            refine r_iconst C (oDec_at oX12_isOwnHere 154 rfl) (v := k1) (by rw [qk1]; rfl) ?_
            refine r_goto C (tgt := 331) (oDec_at oX12_isOwnHere 155 rfl) (by decide) ?_
            refine r_istore_n C (lv' := [(0, .ref (oad E 71)), (1, .int k1)]) [1, 0] (oDec_at oX12_isOwnHere 157 rfl) rfl (by decide) rfl ?_
            refine r_iload_n C (j := 1) (oDec_at oX12_isOwnHere 158 rfl) rfl rfl ?_
            exact r_zret C (n_bool (by omega)) (oDec_at oX12_isOwnHere 159 rfl) ⟨_, rfl, ⟨by omega, by omega⟩⟩
          · omega
        · omega
      · omega
    · omega
  · skip
    refine r_aload_n C (j := 0) (oDec_at oX12_isOwnHere 5 rfl) rfl rfl ?_
    refine r_aload_n C (j := 0) (oDec_at oX12_isOwnHere 6 rfl) rfl rfl ?_
    refine r_getF (k := 11) (b := 74) C oCl12 rfl (by decide) flX12_21 rfl rfl rfl (oDec_at oX12_isOwnHere 7 rfl) ?_
    have lk8 : ((u1).1 71 5).toInt = (s.1 71 5).toInt := congrArg Int32.toInt ((fu1 71 5 rfl).1)
    refine r_callVi C oCl12 rfl miX12_isHere mlX12_196 (ct_X12_isHere l E (u1) 74 50 3 rfl (by decide) (by decide) rfl rfl (by omega)) (by decide) rfl rfl rfl (Nat.le_of_ble_eq_true rfl) (oDec_at oX12_isOwnHere 8 rfl) (fun r10 u9 pu9 fu9 => ?_)
    try dsimp only at pu9
    try simp only [lk8] at pu9
    obtain ⟨pu9_0, pu9_1, pu9_2⟩ := pu9
    have rr10 := n_rng r10
    refine r_if_ne C 66 (oDec_at oX12_isOwnHere 9 rfl) (by decide) (fun cd11 => ?_) (fun cd11 => ?_)
    · skip
      refine r_iconst C (oDec_at oX12_isOwnHere 30 rfl) (v := k1) (by rw [qk1]; rfl) ?_
      refine r_goto C (tgt := 71) (oDec_at oX12_isOwnHere 31 rfl) (by decide) ?_
      refine r_istore_n C (lv' := [(0, .ref (oad E 71)), (1, .int k1)]) [1, 0] (oDec_at oX12_isOwnHere 33 rfl) rfl (by decide) rfl ?_
      refine r_iload_n C (j := 1) (oDec_at oX12_isOwnHere 34 rfl) rfl rfl ?_
      refine r_if_ne C 142 (oDec_at oX12_isOwnHere 35 rfl) (by decide) (fun cd12 => ?_) (fun cd12 => ?_)
      · skip
        refine r_iconst C (oDec_at oX12_isOwnHere 66 rfl) (v := k1) (by rw [qk1]; rfl) ?_
        refine r_goto C (tgt := 147) (oDec_at oX12_isOwnHere 67 rfl) (by decide) ?_
        refine r_istore_n C (lv' := [(0, .ref (oad E 71)), (1, .int k1)]) [1, 0] (oDec_at oX12_isOwnHere 69 rfl) rfl (by decide) rfl ?_
        refine r_iload_n C (j := 1) (oDec_at oX12_isOwnHere 70 rfl) rfl rfl ?_
        refine r_if_ne C 218 (oDec_at oX12_isOwnHere 71 rfl) (by decide) (fun cd13 => ?_) (fun cd13 => ?_)
        · skip
          refine r_iconst C (oDec_at oX12_isOwnHere 102 rfl) (v := k1) (by rw [qk1]; rfl) ?_
          refine r_goto C (tgt := 223) (oDec_at oX12_isOwnHere 103 rfl) (by decide) ?_
          refine r_istore_n C (lv' := [(0, .ref (oad E 71)), (1, .int k1)]) [1, 0] (oDec_at oX12_isOwnHere 105 rfl) rfl (by decide) rfl ?_
          refine r_iload_n C (j := 1) (oDec_at oX12_isOwnHere 106 rfl) rfl rfl ?_
          refine r_if_ne C 294 (oDec_at oX12_isOwnHere 107 rfl) (by decide) (fun cd14 => ?_) (fun cd14 => ?_)
          · skip
            refine r_iconst C (oDec_at oX12_isOwnHere 138 rfl) (v := k1) (by rw [qk1]; rfl) ?_
            refine r_goto C (tgt := 299) (oDec_at oX12_isOwnHere 139 rfl) (by decide) ?_
            refine r_istore_n C (lv' := [(0, .ref (oad E 71)), (1, .int k1)]) [1, 0] (oDec_at oX12_isOwnHere 141 rfl) rfl (by decide) rfl ?_
            refine r_iload_n C (j := 1) (oDec_at oX12_isOwnHere 142 rfl) rfl rfl ?_
            refine r_if_ne C 326 (oDec_at oX12_isOwnHere 143 rfl) (by decide) (fun cd15 => ?_) (fun cd15 => ?_)
            · skip
              refine r_iconst C (oDec_at oX12_isOwnHere 154 rfl) (v := k1) (by rw [qk1]; rfl) ?_
              refine r_goto C (tgt := 331) (oDec_at oX12_isOwnHere 155 rfl) (by decide) ?_
              refine r_istore_n C (lv' := [(0, .ref (oad E 71)), (1, .int k1)]) [1, 0] (oDec_at oX12_isOwnHere 157 rfl) rfl (by decide) rfl ?_
              refine r_iload_n C (j := 1) (oDec_at oX12_isOwnHere 158 rfl) rfl rfl ?_
              exact r_zret C (n_bool (by omega)) (oDec_at oX12_isOwnHere 159 rfl) ⟨_, rfl, ⟨by omega, by omega⟩⟩
            · omega
          · omega
        · omega
      · omega
    · skip
      refine r_aload_n C (j := 0) (oDec_at oX12_isOwnHere 10 rfl) rfl rfl ?_
      refine r_aload_n C (j := 0) (oDec_at oX12_isOwnHere 11 rfl) rfl rfl ?_
      refine r_getF (k := 12) (b := 75) C oCl12 rfl (by decide) flX12_24 rfl rfl rfl (oDec_at oX12_isOwnHere 12 rfl) ?_
      have lk16 : ((u9).1 71 5).toInt = (s.1 71 5).toInt := congrArg Int32.toInt (((fu9 71 5 rfl).1).trans ((fu1 71 5 rfl).1))
      refine r_callVi C oCl12 rfl miX12_isHere mlX12_196 (ct_X12_isHere l E (u9) 75 51 4 rfl (by decide) (by decide) rfl rfl (by omega)) (by decide) rfl rfl rfl (Nat.le_of_ble_eq_true rfl) (oDec_at oX12_isOwnHere 13 rfl) (fun r18 u17 pu17 fu17 => ?_)
      try dsimp only at pu17
      try simp only [lk16] at pu17
      obtain ⟨pu17_0, pu17_1, pu17_2⟩ := pu17
      have rr18 := n_rng r18
      refine r_if_ne C 66 (oDec_at oX12_isOwnHere 14 rfl) (by decide) (fun cd19 => ?_) (fun cd19 => ?_)
      · skip
        refine r_iconst C (oDec_at oX12_isOwnHere 30 rfl) (v := k1) (by rw [qk1]; rfl) ?_
        refine r_goto C (tgt := 71) (oDec_at oX12_isOwnHere 31 rfl) (by decide) ?_
        refine r_istore_n C (lv' := [(0, .ref (oad E 71)), (1, .int k1)]) [1, 0] (oDec_at oX12_isOwnHere 33 rfl) rfl (by decide) rfl ?_
        refine r_iload_n C (j := 1) (oDec_at oX12_isOwnHere 34 rfl) rfl rfl ?_
        refine r_if_ne C 142 (oDec_at oX12_isOwnHere 35 rfl) (by decide) (fun cd20 => ?_) (fun cd20 => ?_)
        · skip
          refine r_iconst C (oDec_at oX12_isOwnHere 66 rfl) (v := k1) (by rw [qk1]; rfl) ?_
          refine r_goto C (tgt := 147) (oDec_at oX12_isOwnHere 67 rfl) (by decide) ?_
          refine r_istore_n C (lv' := [(0, .ref (oad E 71)), (1, .int k1)]) [1, 0] (oDec_at oX12_isOwnHere 69 rfl) rfl (by decide) rfl ?_
          refine r_iload_n C (j := 1) (oDec_at oX12_isOwnHere 70 rfl) rfl rfl ?_
          refine r_if_ne C 218 (oDec_at oX12_isOwnHere 71 rfl) (by decide) (fun cd21 => ?_) (fun cd21 => ?_)
          · skip
            refine r_iconst C (oDec_at oX12_isOwnHere 102 rfl) (v := k1) (by rw [qk1]; rfl) ?_
            refine r_goto C (tgt := 223) (oDec_at oX12_isOwnHere 103 rfl) (by decide) ?_
            refine r_istore_n C (lv' := [(0, .ref (oad E 71)), (1, .int k1)]) [1, 0] (oDec_at oX12_isOwnHere 105 rfl) rfl (by decide) rfl ?_
            refine r_iload_n C (j := 1) (oDec_at oX12_isOwnHere 106 rfl) rfl rfl ?_
            refine r_if_ne C 294 (oDec_at oX12_isOwnHere 107 rfl) (by decide) (fun cd22 => ?_) (fun cd22 => ?_)
            · skip
              refine r_iconst C (oDec_at oX12_isOwnHere 138 rfl) (v := k1) (by rw [qk1]; rfl) ?_
              refine r_goto C (tgt := 299) (oDec_at oX12_isOwnHere 139 rfl) (by decide) ?_
              refine r_istore_n C (lv' := [(0, .ref (oad E 71)), (1, .int k1)]) [1, 0] (oDec_at oX12_isOwnHere 141 rfl) rfl (by decide) rfl ?_
              refine r_iload_n C (j := 1) (oDec_at oX12_isOwnHere 142 rfl) rfl rfl ?_
              refine r_if_ne C 326 (oDec_at oX12_isOwnHere 143 rfl) (by decide) (fun cd23 => ?_) (fun cd23 => ?_)
              · skip
                refine r_iconst C (oDec_at oX12_isOwnHere 154 rfl) (v := k1) (by rw [qk1]; rfl) ?_
                refine r_goto C (tgt := 331) (oDec_at oX12_isOwnHere 155 rfl) (by decide) ?_
                refine r_istore_n C (lv' := [(0, .ref (oad E 71)), (1, .int k1)]) [1, 0] (oDec_at oX12_isOwnHere 157 rfl) rfl (by decide) rfl ?_
                refine r_iload_n C (j := 1) (oDec_at oX12_isOwnHere 158 rfl) rfl rfl ?_
                exact r_zret C (n_bool (by omega)) (oDec_at oX12_isOwnHere 159 rfl) ⟨_, rfl, ⟨by omega, by omega⟩⟩
              · omega
            · omega
          · omega
        · omega
      · skip
        refine r_aload_n C (j := 0) (oDec_at oX12_isOwnHere 15 rfl) rfl rfl ?_
        refine r_aload_n C (j := 0) (oDec_at oX12_isOwnHere 16 rfl) rfl rfl ?_
        refine r_getF (k := 13) (b := 76) C oCl12 rfl (by decide) flX12_27 rfl rfl rfl (oDec_at oX12_isOwnHere 17 rfl) ?_
        have lk24 : ((u17).1 71 5).toInt = (s.1 71 5).toInt := congrArg Int32.toInt (((fu17 71 5 rfl).1).trans (((fu9 71 5 rfl).1).trans ((fu1 71 5 rfl).1)))
        refine r_callVi C oCl12 rfl miX12_isHere mlX12_196 (ct_X12_isHere l E (u17) 76 52 7 rfl (by decide) (by decide) rfl rfl (by omega)) (by decide) rfl rfl rfl (Nat.le_of_ble_eq_true rfl) (oDec_at oX12_isOwnHere 18 rfl) (fun r26 u25 pu25 fu25 => ?_)
        try dsimp only at pu25
        try simp only [lk24] at pu25
        obtain ⟨pu25_0, pu25_1, pu25_2⟩ := pu25
        have rr26 := n_rng r26
        refine r_if_ne C 66 (oDec_at oX12_isOwnHere 19 rfl) (by decide) (fun cd27 => ?_) (fun cd27 => ?_)
        · skip
          refine r_iconst C (oDec_at oX12_isOwnHere 30 rfl) (v := k1) (by rw [qk1]; rfl) ?_
          refine r_goto C (tgt := 71) (oDec_at oX12_isOwnHere 31 rfl) (by decide) ?_
          refine r_istore_n C (lv' := [(0, .ref (oad E 71)), (1, .int k1)]) [1, 0] (oDec_at oX12_isOwnHere 33 rfl) rfl (by decide) rfl ?_
          refine r_iload_n C (j := 1) (oDec_at oX12_isOwnHere 34 rfl) rfl rfl ?_
          refine r_if_ne C 142 (oDec_at oX12_isOwnHere 35 rfl) (by decide) (fun cd28 => ?_) (fun cd28 => ?_)
          · skip
            refine r_iconst C (oDec_at oX12_isOwnHere 66 rfl) (v := k1) (by rw [qk1]; rfl) ?_
            refine r_goto C (tgt := 147) (oDec_at oX12_isOwnHere 67 rfl) (by decide) ?_
            refine r_istore_n C (lv' := [(0, .ref (oad E 71)), (1, .int k1)]) [1, 0] (oDec_at oX12_isOwnHere 69 rfl) rfl (by decide) rfl ?_
            refine r_iload_n C (j := 1) (oDec_at oX12_isOwnHere 70 rfl) rfl rfl ?_
            refine r_if_ne C 218 (oDec_at oX12_isOwnHere 71 rfl) (by decide) (fun cd29 => ?_) (fun cd29 => ?_)
            · skip
              refine r_iconst C (oDec_at oX12_isOwnHere 102 rfl) (v := k1) (by rw [qk1]; rfl) ?_
              refine r_goto C (tgt := 223) (oDec_at oX12_isOwnHere 103 rfl) (by decide) ?_
              refine r_istore_n C (lv' := [(0, .ref (oad E 71)), (1, .int k1)]) [1, 0] (oDec_at oX12_isOwnHere 105 rfl) rfl (by decide) rfl ?_
              refine r_iload_n C (j := 1) (oDec_at oX12_isOwnHere 106 rfl) rfl rfl ?_
              refine r_if_ne C 294 (oDec_at oX12_isOwnHere 107 rfl) (by decide) (fun cd30 => ?_) (fun cd30 => ?_)
              · skip
                refine r_iconst C (oDec_at oX12_isOwnHere 138 rfl) (v := k1) (by rw [qk1]; rfl) ?_
                refine r_goto C (tgt := 299) (oDec_at oX12_isOwnHere 139 rfl) (by decide) ?_
                refine r_istore_n C (lv' := [(0, .ref (oad E 71)), (1, .int k1)]) [1, 0] (oDec_at oX12_isOwnHere 141 rfl) rfl (by decide) rfl ?_
                refine r_iload_n C (j := 1) (oDec_at oX12_isOwnHere 142 rfl) rfl rfl ?_
                refine r_if_ne C 326 (oDec_at oX12_isOwnHere 143 rfl) (by decide) (fun cd31 => ?_) (fun cd31 => ?_)
                · skip
                  refine r_iconst C (oDec_at oX12_isOwnHere 154 rfl) (v := k1) (by rw [qk1]; rfl) ?_
                  refine r_goto C (tgt := 331) (oDec_at oX12_isOwnHere 155 rfl) (by decide) ?_
                  refine r_istore_n C (lv' := [(0, .ref (oad E 71)), (1, .int k1)]) [1, 0] (oDec_at oX12_isOwnHere 157 rfl) rfl (by decide) rfl ?_
                  refine r_iload_n C (j := 1) (oDec_at oX12_isOwnHere 158 rfl) rfl rfl ?_
                  exact r_zret C (n_bool (by omega)) (oDec_at oX12_isOwnHere 159 rfl) ⟨_, rfl, ⟨by omega, by omega⟩⟩
                · omega
              · omega
            · omega
          · omega
        · skip
          refine r_aload_n C (j := 0) (oDec_at oX12_isOwnHere 20 rfl) rfl rfl ?_
          refine r_aload_n C (j := 0) (oDec_at oX12_isOwnHere 21 rfl) rfl rfl ?_
          refine r_getF (k := 14) (b := 77) C oCl12 rfl (by decide) flX12_30 rfl rfl rfl (oDec_at oX12_isOwnHere 22 rfl) ?_
          have lk32 : ((u25).1 71 5).toInt = (s.1 71 5).toInt := congrArg Int32.toInt (((fu25 71 5 rfl).1).trans (((fu17 71 5 rfl).1).trans (((fu9 71 5 rfl).1).trans ((fu1 71 5 rfl).1))))
          refine r_callVi C oCl12 rfl miX12_isHere mlX12_196 (ct_X12_isHere l E (u25) 77 53 3 rfl (by decide) (by decide) rfl rfl (by omega)) (by decide) rfl rfl rfl (Nat.le_of_ble_eq_true rfl) (oDec_at oX12_isOwnHere 23 rfl) (fun r34 u33 pu33 fu33 => ?_)
          try dsimp only at pu33
          try simp only [lk32] at pu33
          obtain ⟨pu33_0, pu33_1, pu33_2⟩ := pu33
          have rr34 := n_rng r34
          refine r_if_ne C 66 (oDec_at oX12_isOwnHere 24 rfl) (by decide) (fun cd35 => ?_) (fun cd35 => ?_)
          · skip
            refine r_iconst C (oDec_at oX12_isOwnHere 30 rfl) (v := k1) (by rw [qk1]; rfl) ?_
            refine r_goto C (tgt := 71) (oDec_at oX12_isOwnHere 31 rfl) (by decide) ?_
            refine r_istore_n C (lv' := [(0, .ref (oad E 71)), (1, .int k1)]) [1, 0] (oDec_at oX12_isOwnHere 33 rfl) rfl (by decide) rfl ?_
            refine r_iload_n C (j := 1) (oDec_at oX12_isOwnHere 34 rfl) rfl rfl ?_
            refine r_if_ne C 142 (oDec_at oX12_isOwnHere 35 rfl) (by decide) (fun cd36 => ?_) (fun cd36 => ?_)
            · skip
              refine r_iconst C (oDec_at oX12_isOwnHere 66 rfl) (v := k1) (by rw [qk1]; rfl) ?_
              refine r_goto C (tgt := 147) (oDec_at oX12_isOwnHere 67 rfl) (by decide) ?_
              refine r_istore_n C (lv' := [(0, .ref (oad E 71)), (1, .int k1)]) [1, 0] (oDec_at oX12_isOwnHere 69 rfl) rfl (by decide) rfl ?_
              refine r_iload_n C (j := 1) (oDec_at oX12_isOwnHere 70 rfl) rfl rfl ?_
              refine r_if_ne C 218 (oDec_at oX12_isOwnHere 71 rfl) (by decide) (fun cd37 => ?_) (fun cd37 => ?_)
              · skip
                refine r_iconst C (oDec_at oX12_isOwnHere 102 rfl) (v := k1) (by rw [qk1]; rfl) ?_
                refine r_goto C (tgt := 223) (oDec_at oX12_isOwnHere 103 rfl) (by decide) ?_
                refine r_istore_n C (lv' := [(0, .ref (oad E 71)), (1, .int k1)]) [1, 0] (oDec_at oX12_isOwnHere 105 rfl) rfl (by decide) rfl ?_
                refine r_iload_n C (j := 1) (oDec_at oX12_isOwnHere 106 rfl) rfl rfl ?_
                refine r_if_ne C 294 (oDec_at oX12_isOwnHere 107 rfl) (by decide) (fun cd38 => ?_) (fun cd38 => ?_)
                · skip
                  refine r_iconst C (oDec_at oX12_isOwnHere 138 rfl) (v := k1) (by rw [qk1]; rfl) ?_
                  refine r_goto C (tgt := 299) (oDec_at oX12_isOwnHere 139 rfl) (by decide) ?_
                  refine r_istore_n C (lv' := [(0, .ref (oad E 71)), (1, .int k1)]) [1, 0] (oDec_at oX12_isOwnHere 141 rfl) rfl (by decide) rfl ?_
                  refine r_iload_n C (j := 1) (oDec_at oX12_isOwnHere 142 rfl) rfl rfl ?_
                  refine r_if_ne C 326 (oDec_at oX12_isOwnHere 143 rfl) (by decide) (fun cd39 => ?_) (fun cd39 => ?_)
                  · skip
                    refine r_iconst C (oDec_at oX12_isOwnHere 154 rfl) (v := k1) (by rw [qk1]; rfl) ?_
                    refine r_goto C (tgt := 331) (oDec_at oX12_isOwnHere 155 rfl) (by decide) ?_
                    refine r_istore_n C (lv' := [(0, .ref (oad E 71)), (1, .int k1)]) [1, 0] (oDec_at oX12_isOwnHere 157 rfl) rfl (by decide) rfl ?_
                    refine r_iload_n C (j := 1) (oDec_at oX12_isOwnHere 158 rfl) rfl rfl ?_
                    exact r_zret C (n_bool (by omega)) (oDec_at oX12_isOwnHere 159 rfl) ⟨_, rfl, ⟨by omega, by omega⟩⟩
                  · omega
                · omega
              · omega
            · omega
          · skip
            refine r_aload_n C (j := 0) (oDec_at oX12_isOwnHere 25 rfl) rfl rfl ?_
            refine r_aload_n C (j := 0) (oDec_at oX12_isOwnHere 26 rfl) rfl rfl ?_
            refine r_getF (k := 15) (b := 78) C oCl12 rfl (by decide) flX12_33 rfl rfl rfl (oDec_at oX12_isOwnHere 27 rfl) ?_
            have lk40 : ((u33).1 71 5).toInt = (s.1 71 5).toInt := congrArg Int32.toInt (((fu33 71 5 rfl).1).trans (((fu25 71 5 rfl).1).trans (((fu17 71 5 rfl).1).trans (((fu9 71 5 rfl).1).trans ((fu1 71 5 rfl).1)))))
            refine r_callVi C oCl12 rfl miX12_isHere mlX12_196 (ct_X12_isHere l E (u33) 78 54 5 rfl (by decide) (by decide) rfl rfl (by omega)) (by decide) rfl rfl rfl (Nat.le_of_ble_eq_true rfl) (oDec_at oX12_isOwnHere 28 rfl) (fun r42 u41 pu41 fu41 => ?_)
            try dsimp only at pu41
            try simp only [lk40] at pu41
            obtain ⟨pu41_0, pu41_1, pu41_2⟩ := pu41
            have rr42 := n_rng r42
            refine r_if_eq C 70 (oDec_at oX12_isOwnHere 29 rfl) (by decide) (fun cd43 => ?_) (fun cd43 => ?_)
            · skip
              refine r_iconst C (oDec_at oX12_isOwnHere 32 rfl) (v := k0) (by rw [qk0]; rfl) ?_
              refine r_istore_n C (lv' := [(0, .ref (oad E 71)), (1, .int k0)]) [1, 0] (oDec_at oX12_isOwnHere 33 rfl) rfl (by decide) rfl ?_
              refine r_iload_n C (j := 1) (oDec_at oX12_isOwnHere 34 rfl) rfl rfl ?_
              refine r_if_ne C 142 (oDec_at oX12_isOwnHere 35 rfl) (by decide) (fun cd44 => ?_) (fun cd44 => ?_)
              · omega
              · skip
                refine r_aload_n C (j := 0) (oDec_at oX12_isOwnHere 36 rfl) rfl rfl ?_
                refine r_aload_n C (j := 0) (oDec_at oX12_isOwnHere 37 rfl) rfl rfl ?_
                refine r_getF (k := 16) (b := 79) C oCl12 rfl (by decide) flX12_36 rfl rfl rfl (oDec_at oX12_isOwnHere 38 rfl) ?_
                have lk45 : ((u41).1 71 5).toInt = (s.1 71 5).toInt := congrArg Int32.toInt (((fu41 71 5 rfl).1).trans (((fu33 71 5 rfl).1).trans (((fu25 71 5 rfl).1).trans (((fu17 71 5 rfl).1).trans (((fu9 71 5 rfl).1).trans ((fu1 71 5 rfl).1))))))
                refine r_callVi C oCl12 rfl miX12_isHere mlX12_196 (ct_X12_isHere l E (u41) 79 55 4 rfl (by decide) (by decide) rfl rfl (by omega)) (by decide) rfl rfl rfl (Nat.le_of_ble_eq_true rfl) (oDec_at oX12_isOwnHere 39 rfl) (fun r47 u46 pu46 fu46 => ?_)
                try dsimp only at pu46
                try simp only [lk45] at pu46
                obtain ⟨pu46_0, pu46_1, pu46_2⟩ := pu46
                have rr47 := n_rng r47
                refine r_if_ne C 142 (oDec_at oX12_isOwnHere 40 rfl) (by decide) (fun cd48 => ?_) (fun cd48 => ?_)
                · skip
                  refine r_iconst C (oDec_at oX12_isOwnHere 66 rfl) (v := k1) (by rw [qk1]; rfl) ?_
                  refine r_goto C (tgt := 147) (oDec_at oX12_isOwnHere 67 rfl) (by decide) ?_
                  refine r_istore_n C (lv' := [(0, .ref (oad E 71)), (1, .int k1)]) [1, 0] (oDec_at oX12_isOwnHere 69 rfl) rfl (by decide) rfl ?_
                  refine r_iload_n C (j := 1) (oDec_at oX12_isOwnHere 70 rfl) rfl rfl ?_
                  refine r_if_ne C 218 (oDec_at oX12_isOwnHere 71 rfl) (by decide) (fun cd49 => ?_) (fun cd49 => ?_)
                  · skip
                    refine r_iconst C (oDec_at oX12_isOwnHere 102 rfl) (v := k1) (by rw [qk1]; rfl) ?_
                    refine r_goto C (tgt := 223) (oDec_at oX12_isOwnHere 103 rfl) (by decide) ?_
                    refine r_istore_n C (lv' := [(0, .ref (oad E 71)), (1, .int k1)]) [1, 0] (oDec_at oX12_isOwnHere 105 rfl) rfl (by decide) rfl ?_
                    refine r_iload_n C (j := 1) (oDec_at oX12_isOwnHere 106 rfl) rfl rfl ?_
                    refine r_if_ne C 294 (oDec_at oX12_isOwnHere 107 rfl) (by decide) (fun cd50 => ?_) (fun cd50 => ?_)
                    · skip
                      refine r_iconst C (oDec_at oX12_isOwnHere 138 rfl) (v := k1) (by rw [qk1]; rfl) ?_
                      refine r_goto C (tgt := 299) (oDec_at oX12_isOwnHere 139 rfl) (by decide) ?_
                      refine r_istore_n C (lv' := [(0, .ref (oad E 71)), (1, .int k1)]) [1, 0] (oDec_at oX12_isOwnHere 141 rfl) rfl (by decide) rfl ?_
                      refine r_iload_n C (j := 1) (oDec_at oX12_isOwnHere 142 rfl) rfl rfl ?_
                      refine r_if_ne C 326 (oDec_at oX12_isOwnHere 143 rfl) (by decide) (fun cd51 => ?_) (fun cd51 => ?_)
                      · skip
                        refine r_iconst C (oDec_at oX12_isOwnHere 154 rfl) (v := k1) (by rw [qk1]; rfl) ?_
                        refine r_goto C (tgt := 331) (oDec_at oX12_isOwnHere 155 rfl) (by decide) ?_
                        refine r_istore_n C (lv' := [(0, .ref (oad E 71)), (1, .int k1)]) [1, 0] (oDec_at oX12_isOwnHere 157 rfl) rfl (by decide) rfl ?_
                        refine r_iload_n C (j := 1) (oDec_at oX12_isOwnHere 158 rfl) rfl rfl ?_
                        exact r_zret C (n_bool (by omega)) (oDec_at oX12_isOwnHere 159 rfl) ⟨_, rfl, ⟨by omega, by omega⟩⟩
                      · omega
                    · omega
                  · omega
                · skip
                  refine r_aload_n C (j := 0) (oDec_at oX12_isOwnHere 41 rfl) rfl rfl ?_
                  refine r_aload_n C (j := 0) (oDec_at oX12_isOwnHere 42 rfl) rfl rfl ?_
                  refine r_getF (k := 17) (b := 80) C oCl12 rfl (by decide) flX12_39 rfl rfl rfl (oDec_at oX12_isOwnHere 43 rfl) ?_
                  have lk52 : ((u46).1 71 5).toInt = (s.1 71 5).toInt := congrArg Int32.toInt (((fu46 71 5 rfl).1).trans (((fu41 71 5 rfl).1).trans (((fu33 71 5 rfl).1).trans (((fu25 71 5 rfl).1).trans (((fu17 71 5 rfl).1).trans (((fu9 71 5 rfl).1).trans ((fu1 71 5 rfl).1)))))))
                  refine r_callVi C oCl12 rfl miX12_isHere mlX12_196 (ct_X12_isHere l E (u46) 80 56 2 rfl (by decide) (by decide) rfl rfl (by omega)) (by decide) rfl rfl rfl (Nat.le_of_ble_eq_true rfl) (oDec_at oX12_isOwnHere 44 rfl) (fun r54 u53 pu53 fu53 => ?_)
                  try dsimp only at pu53
                  try simp only [lk52] at pu53
                  obtain ⟨pu53_0, pu53_1, pu53_2⟩ := pu53
                  have rr54 := n_rng r54
                  refine r_if_ne C 142 (oDec_at oX12_isOwnHere 45 rfl) (by decide) (fun cd55 => ?_) (fun cd55 => ?_)
                  · skip
                    refine r_iconst C (oDec_at oX12_isOwnHere 66 rfl) (v := k1) (by rw [qk1]; rfl) ?_
                    refine r_goto C (tgt := 147) (oDec_at oX12_isOwnHere 67 rfl) (by decide) ?_
                    refine r_istore_n C (lv' := [(0, .ref (oad E 71)), (1, .int k1)]) [1, 0] (oDec_at oX12_isOwnHere 69 rfl) rfl (by decide) rfl ?_
                    refine r_iload_n C (j := 1) (oDec_at oX12_isOwnHere 70 rfl) rfl rfl ?_
                    refine r_if_ne C 218 (oDec_at oX12_isOwnHere 71 rfl) (by decide) (fun cd56 => ?_) (fun cd56 => ?_)
                    · skip
                      refine r_iconst C (oDec_at oX12_isOwnHere 102 rfl) (v := k1) (by rw [qk1]; rfl) ?_
                      refine r_goto C (tgt := 223) (oDec_at oX12_isOwnHere 103 rfl) (by decide) ?_
                      refine r_istore_n C (lv' := [(0, .ref (oad E 71)), (1, .int k1)]) [1, 0] (oDec_at oX12_isOwnHere 105 rfl) rfl (by decide) rfl ?_
                      refine r_iload_n C (j := 1) (oDec_at oX12_isOwnHere 106 rfl) rfl rfl ?_
                      refine r_if_ne C 294 (oDec_at oX12_isOwnHere 107 rfl) (by decide) (fun cd57 => ?_) (fun cd57 => ?_)
                      · skip
                        refine r_iconst C (oDec_at oX12_isOwnHere 138 rfl) (v := k1) (by rw [qk1]; rfl) ?_
                        refine r_goto C (tgt := 299) (oDec_at oX12_isOwnHere 139 rfl) (by decide) ?_
                        refine r_istore_n C (lv' := [(0, .ref (oad E 71)), (1, .int k1)]) [1, 0] (oDec_at oX12_isOwnHere 141 rfl) rfl (by decide) rfl ?_
                        refine r_iload_n C (j := 1) (oDec_at oX12_isOwnHere 142 rfl) rfl rfl ?_
                        refine r_if_ne C 326 (oDec_at oX12_isOwnHere 143 rfl) (by decide) (fun cd58 => ?_) (fun cd58 => ?_)
                        · skip
                          refine r_iconst C (oDec_at oX12_isOwnHere 154 rfl) (v := k1) (by rw [qk1]; rfl) ?_
                          refine r_goto C (tgt := 331) (oDec_at oX12_isOwnHere 155 rfl) (by decide) ?_
                          refine r_istore_n C (lv' := [(0, .ref (oad E 71)), (1, .int k1)]) [1, 0] (oDec_at oX12_isOwnHere 157 rfl) rfl (by decide) rfl ?_
                          refine r_iload_n C (j := 1) (oDec_at oX12_isOwnHere 158 rfl) rfl rfl ?_
                          exact r_zret C (n_bool (by omega)) (oDec_at oX12_isOwnHere 159 rfl) ⟨_, rfl, ⟨by omega, by omega⟩⟩
                        · omega
                      · omega
                    · omega
                  · skip
                    refine r_aload_n C (j := 0) (oDec_at oX12_isOwnHere 46 rfl) rfl rfl ?_
                    refine r_aload_n C (j := 0) (oDec_at oX12_isOwnHere 47 rfl) rfl rfl ?_
                    refine r_getF (k := 18) (b := 81) C oCl12 rfl (by decide) flX12_42 rfl rfl rfl (oDec_at oX12_isOwnHere 48 rfl) ?_
                    have lk59 : ((u53).1 71 5).toInt = (s.1 71 5).toInt := congrArg Int32.toInt (((fu53 71 5 rfl).1).trans (((fu46 71 5 rfl).1).trans (((fu41 71 5 rfl).1).trans (((fu33 71 5 rfl).1).trans (((fu25 71 5 rfl).1).trans (((fu17 71 5 rfl).1).trans (((fu9 71 5 rfl).1).trans ((fu1 71 5 rfl).1))))))))
                    refine r_callVi C oCl12 rfl miX12_isHere mlX12_196 (ct_X12_isHere l E (u53) 81 57 3 rfl (by decide) (by decide) rfl rfl (by omega)) (by decide) rfl rfl rfl (Nat.le_of_ble_eq_true rfl) (oDec_at oX12_isOwnHere 49 rfl) (fun r61 u60 pu60 fu60 => ?_)
                    try dsimp only at pu60
                    try simp only [lk59] at pu60
                    obtain ⟨pu60_0, pu60_1, pu60_2⟩ := pu60
                    have rr61 := n_rng r61
                    refine r_if_ne C 142 (oDec_at oX12_isOwnHere 50 rfl) (by decide) (fun cd62 => ?_) (fun cd62 => ?_)
                    · skip
                      refine r_iconst C (oDec_at oX12_isOwnHere 66 rfl) (v := k1) (by rw [qk1]; rfl) ?_
                      refine r_goto C (tgt := 147) (oDec_at oX12_isOwnHere 67 rfl) (by decide) ?_
                      refine r_istore_n C (lv' := [(0, .ref (oad E 71)), (1, .int k1)]) [1, 0] (oDec_at oX12_isOwnHere 69 rfl) rfl (by decide) rfl ?_
                      refine r_iload_n C (j := 1) (oDec_at oX12_isOwnHere 70 rfl) rfl rfl ?_
                      refine r_if_ne C 218 (oDec_at oX12_isOwnHere 71 rfl) (by decide) (fun cd63 => ?_) (fun cd63 => ?_)
                      · skip
                        refine r_iconst C (oDec_at oX12_isOwnHere 102 rfl) (v := k1) (by rw [qk1]; rfl) ?_
                        refine r_goto C (tgt := 223) (oDec_at oX12_isOwnHere 103 rfl) (by decide) ?_
                        refine r_istore_n C (lv' := [(0, .ref (oad E 71)), (1, .int k1)]) [1, 0] (oDec_at oX12_isOwnHere 105 rfl) rfl (by decide) rfl ?_
                        refine r_iload_n C (j := 1) (oDec_at oX12_isOwnHere 106 rfl) rfl rfl ?_
                        refine r_if_ne C 294 (oDec_at oX12_isOwnHere 107 rfl) (by decide) (fun cd64 => ?_) (fun cd64 => ?_)
                        · skip
                          refine r_iconst C (oDec_at oX12_isOwnHere 138 rfl) (v := k1) (by rw [qk1]; rfl) ?_
                          refine r_goto C (tgt := 299) (oDec_at oX12_isOwnHere 139 rfl) (by decide) ?_
                          refine r_istore_n C (lv' := [(0, .ref (oad E 71)), (1, .int k1)]) [1, 0] (oDec_at oX12_isOwnHere 141 rfl) rfl (by decide) rfl ?_
                          refine r_iload_n C (j := 1) (oDec_at oX12_isOwnHere 142 rfl) rfl rfl ?_
                          refine r_if_ne C 326 (oDec_at oX12_isOwnHere 143 rfl) (by decide) (fun cd65 => ?_) (fun cd65 => ?_)
                          · skip
                            refine r_iconst C (oDec_at oX12_isOwnHere 154 rfl) (v := k1) (by rw [qk1]; rfl) ?_
                            refine r_goto C (tgt := 331) (oDec_at oX12_isOwnHere 155 rfl) (by decide) ?_
                            refine r_istore_n C (lv' := [(0, .ref (oad E 71)), (1, .int k1)]) [1, 0] (oDec_at oX12_isOwnHere 157 rfl) rfl (by decide) rfl ?_
                            refine r_iload_n C (j := 1) (oDec_at oX12_isOwnHere 158 rfl) rfl rfl ?_
                            exact r_zret C (n_bool (by omega)) (oDec_at oX12_isOwnHere 159 rfl) ⟨_, rfl, ⟨by omega, by omega⟩⟩
                          · omega
                        · omega
                      · omega
                    · skip
                      refine r_aload_n C (j := 0) (oDec_at oX12_isOwnHere 51 rfl) rfl rfl ?_
                      refine r_aload_n C (j := 0) (oDec_at oX12_isOwnHere 52 rfl) rfl rfl ?_
                      refine r_getF (k := 19) (b := 82) C oCl12 rfl (by decide) flX12_45 rfl rfl rfl (oDec_at oX12_isOwnHere 53 rfl) ?_
                      have lk66 : ((u60).1 71 5).toInt = (s.1 71 5).toInt := congrArg Int32.toInt (((fu60 71 5 rfl).1).trans (((fu53 71 5 rfl).1).trans (((fu46 71 5 rfl).1).trans (((fu41 71 5 rfl).1).trans (((fu33 71 5 rfl).1).trans (((fu25 71 5 rfl).1).trans (((fu17 71 5 rfl).1).trans (((fu9 71 5 rfl).1).trans ((fu1 71 5 rfl).1)))))))))
                      refine r_callVi C oCl12 rfl miX12_isHere mlX12_196 (ct_X12_isHere l E (u60) 82 58 3 rfl (by decide) (by decide) rfl rfl (by omega)) (by decide) rfl rfl rfl (Nat.le_of_ble_eq_true rfl) (oDec_at oX12_isOwnHere 54 rfl) (fun r68 u67 pu67 fu67 => ?_)
                      try dsimp only at pu67
                      try simp only [lk66] at pu67
                      obtain ⟨pu67_0, pu67_1, pu67_2⟩ := pu67
                      have rr68 := n_rng r68
                      refine r_if_ne C 142 (oDec_at oX12_isOwnHere 55 rfl) (by decide) (fun cd69 => ?_) (fun cd69 => ?_)
                      · skip
                        refine r_iconst C (oDec_at oX12_isOwnHere 66 rfl) (v := k1) (by rw [qk1]; rfl) ?_
                        refine r_goto C (tgt := 147) (oDec_at oX12_isOwnHere 67 rfl) (by decide) ?_
                        refine r_istore_n C (lv' := [(0, .ref (oad E 71)), (1, .int k1)]) [1, 0] (oDec_at oX12_isOwnHere 69 rfl) rfl (by decide) rfl ?_
                        refine r_iload_n C (j := 1) (oDec_at oX12_isOwnHere 70 rfl) rfl rfl ?_
                        refine r_if_ne C 218 (oDec_at oX12_isOwnHere 71 rfl) (by decide) (fun cd70 => ?_) (fun cd70 => ?_)
                        · skip
                          refine r_iconst C (oDec_at oX12_isOwnHere 102 rfl) (v := k1) (by rw [qk1]; rfl) ?_
                          refine r_goto C (tgt := 223) (oDec_at oX12_isOwnHere 103 rfl) (by decide) ?_
                          refine r_istore_n C (lv' := [(0, .ref (oad E 71)), (1, .int k1)]) [1, 0] (oDec_at oX12_isOwnHere 105 rfl) rfl (by decide) rfl ?_
                          refine r_iload_n C (j := 1) (oDec_at oX12_isOwnHere 106 rfl) rfl rfl ?_
                          refine r_if_ne C 294 (oDec_at oX12_isOwnHere 107 rfl) (by decide) (fun cd71 => ?_) (fun cd71 => ?_)
                          · skip
                            refine r_iconst C (oDec_at oX12_isOwnHere 138 rfl) (v := k1) (by rw [qk1]; rfl) ?_
                            refine r_goto C (tgt := 299) (oDec_at oX12_isOwnHere 139 rfl) (by decide) ?_
                            refine r_istore_n C (lv' := [(0, .ref (oad E 71)), (1, .int k1)]) [1, 0] (oDec_at oX12_isOwnHere 141 rfl) rfl (by decide) rfl ?_
                            refine r_iload_n C (j := 1) (oDec_at oX12_isOwnHere 142 rfl) rfl rfl ?_
                            refine r_if_ne C 326 (oDec_at oX12_isOwnHere 143 rfl) (by decide) (fun cd72 => ?_) (fun cd72 => ?_)
                            · skip
                              refine r_iconst C (oDec_at oX12_isOwnHere 154 rfl) (v := k1) (by rw [qk1]; rfl) ?_
                              refine r_goto C (tgt := 331) (oDec_at oX12_isOwnHere 155 rfl) (by decide) ?_
                              refine r_istore_n C (lv' := [(0, .ref (oad E 71)), (1, .int k1)]) [1, 0] (oDec_at oX12_isOwnHere 157 rfl) rfl (by decide) rfl ?_
                              refine r_iload_n C (j := 1) (oDec_at oX12_isOwnHere 158 rfl) rfl rfl ?_
                              exact r_zret C (n_bool (by omega)) (oDec_at oX12_isOwnHere 159 rfl) ⟨_, rfl, ⟨by omega, by omega⟩⟩
                            · omega
                          · omega
                        · omega
                      · skip
                        refine r_aload_n C (j := 0) (oDec_at oX12_isOwnHere 56 rfl) rfl rfl ?_
                        refine r_aload_n C (j := 0) (oDec_at oX12_isOwnHere 57 rfl) rfl rfl ?_
                        refine r_getF (k := 20) (b := 83) C oCl12 rfl (by decide) flX12_48 rfl rfl rfl (oDec_at oX12_isOwnHere 58 rfl) ?_
                        have lk73 : ((u67).1 71 5).toInt = (s.1 71 5).toInt := congrArg Int32.toInt (((fu67 71 5 rfl).1).trans (((fu60 71 5 rfl).1).trans (((fu53 71 5 rfl).1).trans (((fu46 71 5 rfl).1).trans (((fu41 71 5 rfl).1).trans (((fu33 71 5 rfl).1).trans (((fu25 71 5 rfl).1).trans (((fu17 71 5 rfl).1).trans (((fu9 71 5 rfl).1).trans ((fu1 71 5 rfl).1))))))))))
                        refine r_callVi C oCl12 rfl miX12_isHere mlX12_196 (ct_X12_isHere l E (u67) 83 59 3 rfl (by decide) (by decide) rfl rfl (by omega)) (by decide) rfl rfl rfl (Nat.le_of_ble_eq_true rfl) (oDec_at oX12_isOwnHere 59 rfl) (fun r75 u74 pu74 fu74 => ?_)
                        try dsimp only at pu74
                        try simp only [lk73] at pu74
                        obtain ⟨pu74_0, pu74_1, pu74_2⟩ := pu74
                        have rr75 := n_rng r75
                        refine r_if_ne C 142 (oDec_at oX12_isOwnHere 60 rfl) (by decide) (fun cd76 => ?_) (fun cd76 => ?_)
                        · skip
                          refine r_iconst C (oDec_at oX12_isOwnHere 66 rfl) (v := k1) (by rw [qk1]; rfl) ?_
                          refine r_goto C (tgt := 147) (oDec_at oX12_isOwnHere 67 rfl) (by decide) ?_
                          refine r_istore_n C (lv' := [(0, .ref (oad E 71)), (1, .int k1)]) [1, 0] (oDec_at oX12_isOwnHere 69 rfl) rfl (by decide) rfl ?_
                          refine r_iload_n C (j := 1) (oDec_at oX12_isOwnHere 70 rfl) rfl rfl ?_
                          refine r_if_ne C 218 (oDec_at oX12_isOwnHere 71 rfl) (by decide) (fun cd77 => ?_) (fun cd77 => ?_)
                          · skip
                            refine r_iconst C (oDec_at oX12_isOwnHere 102 rfl) (v := k1) (by rw [qk1]; rfl) ?_
                            refine r_goto C (tgt := 223) (oDec_at oX12_isOwnHere 103 rfl) (by decide) ?_
                            refine r_istore_n C (lv' := [(0, .ref (oad E 71)), (1, .int k1)]) [1, 0] (oDec_at oX12_isOwnHere 105 rfl) rfl (by decide) rfl ?_
                            refine r_iload_n C (j := 1) (oDec_at oX12_isOwnHere 106 rfl) rfl rfl ?_
                            refine r_if_ne C 294 (oDec_at oX12_isOwnHere 107 rfl) (by decide) (fun cd78 => ?_) (fun cd78 => ?_)
                            · skip
                              refine r_iconst C (oDec_at oX12_isOwnHere 138 rfl) (v := k1) (by rw [qk1]; rfl) ?_
                              refine r_goto C (tgt := 299) (oDec_at oX12_isOwnHere 139 rfl) (by decide) ?_
                              refine r_istore_n C (lv' := [(0, .ref (oad E 71)), (1, .int k1)]) [1, 0] (oDec_at oX12_isOwnHere 141 rfl) rfl (by decide) rfl ?_
                              refine r_iload_n C (j := 1) (oDec_at oX12_isOwnHere 142 rfl) rfl rfl ?_
                              refine r_if_ne C 326 (oDec_at oX12_isOwnHere 143 rfl) (by decide) (fun cd79 => ?_) (fun cd79 => ?_)
                              · skip
                                refine r_iconst C (oDec_at oX12_isOwnHere 154 rfl) (v := k1) (by rw [qk1]; rfl) ?_
                                refine r_goto C (tgt := 331) (oDec_at oX12_isOwnHere 155 rfl) (by decide) ?_
                                refine r_istore_n C (lv' := [(0, .ref (oad E 71)), (1, .int k1)]) [1, 0] (oDec_at oX12_isOwnHere 157 rfl) rfl (by decide) rfl ?_
                                refine r_iload_n C (j := 1) (oDec_at oX12_isOwnHere 158 rfl) rfl rfl ?_
                                exact r_zret C (n_bool (by omega)) (oDec_at oX12_isOwnHere 159 rfl) ⟨_, rfl, ⟨by omega, by omega⟩⟩
                              · omega
                            · omega
                          · omega
                        · skip
                          refine r_aload_n C (j := 0) (oDec_at oX12_isOwnHere 61 rfl) rfl rfl ?_
                          refine r_aload_n C (j := 0) (oDec_at oX12_isOwnHere 62 rfl) rfl rfl ?_
                          refine r_getF (k := 21) (b := 84) C oCl12 rfl (by decide) flX12_51 rfl rfl rfl (oDec_at oX12_isOwnHere 63 rfl) ?_
                          have lk80 : ((u74).1 71 5).toInt = (s.1 71 5).toInt := congrArg Int32.toInt (((fu74 71 5 rfl).1).trans (((fu67 71 5 rfl).1).trans (((fu60 71 5 rfl).1).trans (((fu53 71 5 rfl).1).trans (((fu46 71 5 rfl).1).trans (((fu41 71 5 rfl).1).trans (((fu33 71 5 rfl).1).trans (((fu25 71 5 rfl).1).trans (((fu17 71 5 rfl).1).trans (((fu9 71 5 rfl).1).trans ((fu1 71 5 rfl).1)))))))))))
                          refine r_callVi C oCl12 rfl miX12_isHere mlX12_196 (ct_X12_isHere l E (u74) 84 60 3 rfl (by decide) (by decide) rfl rfl (by omega)) (by decide) rfl rfl rfl (Nat.le_of_ble_eq_true rfl) (oDec_at oX12_isOwnHere 64 rfl) (fun r82 u81 pu81 fu81 => ?_)
                          try dsimp only at pu81
                          try simp only [lk80] at pu81
                          obtain ⟨pu81_0, pu81_1, pu81_2⟩ := pu81
                          have rr82 := n_rng r82
                          refine r_if_eq C 146 (oDec_at oX12_isOwnHere 65 rfl) (by decide) (fun cd83 => ?_) (fun cd83 => ?_)
                          · skip
                            refine r_iconst C (oDec_at oX12_isOwnHere 68 rfl) (v := k0) (by rw [qk0]; rfl) ?_
                            refine r_istore_n C (lv' := [(0, .ref (oad E 71)), (1, .int k0)]) [1, 0] (oDec_at oX12_isOwnHere 69 rfl) rfl (by decide) rfl ?_
                            refine r_iload_n C (j := 1) (oDec_at oX12_isOwnHere 70 rfl) rfl rfl ?_
                            refine r_if_ne C 218 (oDec_at oX12_isOwnHere 71 rfl) (by decide) (fun cd84 => ?_) (fun cd84 => ?_)
                            · omega
                            · skip
                              refine r_aload_n C (j := 0) (oDec_at oX12_isOwnHere 72 rfl) rfl rfl ?_
                              refine r_aload_n C (j := 0) (oDec_at oX12_isOwnHere 73 rfl) rfl rfl ?_
                              refine r_getF (k := 22) (b := 85) C oCl12 rfl (by decide) flX12_54 rfl rfl rfl (oDec_at oX12_isOwnHere 74 rfl) ?_
                              have lk85 : ((u81).1 71 5).toInt = (s.1 71 5).toInt := congrArg Int32.toInt (((fu81 71 5 rfl).1).trans (((fu74 71 5 rfl).1).trans (((fu67 71 5 rfl).1).trans (((fu60 71 5 rfl).1).trans (((fu53 71 5 rfl).1).trans (((fu46 71 5 rfl).1).trans (((fu41 71 5 rfl).1).trans (((fu33 71 5 rfl).1).trans (((fu25 71 5 rfl).1).trans (((fu17 71 5 rfl).1).trans (((fu9 71 5 rfl).1).trans ((fu1 71 5 rfl).1))))))))))))
                              refine r_callVi C oCl12 rfl miX12_isHere mlX12_196 (ct_X12_isHere l E (u81) 85 61 4 rfl (by decide) (by decide) rfl rfl (by omega)) (by decide) rfl rfl rfl (Nat.le_of_ble_eq_true rfl) (oDec_at oX12_isOwnHere 75 rfl) (fun r87 u86 pu86 fu86 => ?_)
                              try dsimp only at pu86
                              try simp only [lk85] at pu86
                              obtain ⟨pu86_0, pu86_1, pu86_2⟩ := pu86
                              have rr87 := n_rng r87
                              refine r_if_ne C 218 (oDec_at oX12_isOwnHere 76 rfl) (by decide) (fun cd88 => ?_) (fun cd88 => ?_)
                              · skip
                                refine r_iconst C (oDec_at oX12_isOwnHere 102 rfl) (v := k1) (by rw [qk1]; rfl) ?_
                                refine r_goto C (tgt := 223) (oDec_at oX12_isOwnHere 103 rfl) (by decide) ?_
                                refine r_istore_n C (lv' := [(0, .ref (oad E 71)), (1, .int k1)]) [1, 0] (oDec_at oX12_isOwnHere 105 rfl) rfl (by decide) rfl ?_
                                refine r_iload_n C (j := 1) (oDec_at oX12_isOwnHere 106 rfl) rfl rfl ?_
                                refine r_if_ne C 294 (oDec_at oX12_isOwnHere 107 rfl) (by decide) (fun cd89 => ?_) (fun cd89 => ?_)
                                · skip
                                  refine r_iconst C (oDec_at oX12_isOwnHere 138 rfl) (v := k1) (by rw [qk1]; rfl) ?_
                                  refine r_goto C (tgt := 299) (oDec_at oX12_isOwnHere 139 rfl) (by decide) ?_
                                  refine r_istore_n C (lv' := [(0, .ref (oad E 71)), (1, .int k1)]) [1, 0] (oDec_at oX12_isOwnHere 141 rfl) rfl (by decide) rfl ?_
                                  refine r_iload_n C (j := 1) (oDec_at oX12_isOwnHere 142 rfl) rfl rfl ?_
                                  refine r_if_ne C 326 (oDec_at oX12_isOwnHere 143 rfl) (by decide) (fun cd90 => ?_) (fun cd90 => ?_)
                                  · skip
                                    refine r_iconst C (oDec_at oX12_isOwnHere 154 rfl) (v := k1) (by rw [qk1]; rfl) ?_
                                    refine r_goto C (tgt := 331) (oDec_at oX12_isOwnHere 155 rfl) (by decide) ?_
                                    refine r_istore_n C (lv' := [(0, .ref (oad E 71)), (1, .int k1)]) [1, 0] (oDec_at oX12_isOwnHere 157 rfl) rfl (by decide) rfl ?_
                                    refine r_iload_n C (j := 1) (oDec_at oX12_isOwnHere 158 rfl) rfl rfl ?_
                                    exact r_zret C (n_bool (by omega)) (oDec_at oX12_isOwnHere 159 rfl) ⟨_, rfl, ⟨by omega, by omega⟩⟩
                                  · omega
                                · omega
                              · skip
                                refine r_aload_n C (j := 0) (oDec_at oX12_isOwnHere 77 rfl) rfl rfl ?_
                                refine r_aload_n C (j := 0) (oDec_at oX12_isOwnHere 78 rfl) rfl rfl ?_
                                refine r_getF (k := 23) (b := 86) C oCl12 rfl (by decide) flX12_57 rfl rfl rfl (oDec_at oX12_isOwnHere 79 rfl) ?_
                                have lk91 : ((u86).1 71 5).toInt = (s.1 71 5).toInt := congrArg Int32.toInt (((fu86 71 5 rfl).1).trans (((fu81 71 5 rfl).1).trans (((fu74 71 5 rfl).1).trans (((fu67 71 5 rfl).1).trans (((fu60 71 5 rfl).1).trans (((fu53 71 5 rfl).1).trans (((fu46 71 5 rfl).1).trans (((fu41 71 5 rfl).1).trans (((fu33 71 5 rfl).1).trans (((fu25 71 5 rfl).1).trans (((fu17 71 5 rfl).1).trans (((fu9 71 5 rfl).1).trans ((fu1 71 5 rfl).1)))))))))))))
                                refine r_callVi C oCl12 rfl miX12_isHere mlX12_196 (ct_X12_isHere l E (u86) 86 62 5 rfl (by decide) (by decide) rfl rfl (by omega)) (by decide) rfl rfl rfl (Nat.le_of_ble_eq_true rfl) (oDec_at oX12_isOwnHere 80 rfl) (fun r93 u92 pu92 fu92 => ?_)
                                try dsimp only at pu92
                                try simp only [lk91] at pu92
                                obtain ⟨pu92_0, pu92_1, pu92_2⟩ := pu92
                                have rr93 := n_rng r93
                                refine r_if_ne C 218 (oDec_at oX12_isOwnHere 81 rfl) (by decide) (fun cd94 => ?_) (fun cd94 => ?_)
                                · skip
                                  refine r_iconst C (oDec_at oX12_isOwnHere 102 rfl) (v := k1) (by rw [qk1]; rfl) ?_
                                  refine r_goto C (tgt := 223) (oDec_at oX12_isOwnHere 103 rfl) (by decide) ?_
                                  refine r_istore_n C (lv' := [(0, .ref (oad E 71)), (1, .int k1)]) [1, 0] (oDec_at oX12_isOwnHere 105 rfl) rfl (by decide) rfl ?_
                                  refine r_iload_n C (j := 1) (oDec_at oX12_isOwnHere 106 rfl) rfl rfl ?_
                                  refine r_if_ne C 294 (oDec_at oX12_isOwnHere 107 rfl) (by decide) (fun cd95 => ?_) (fun cd95 => ?_)
                                  · skip
                                    refine r_iconst C (oDec_at oX12_isOwnHere 138 rfl) (v := k1) (by rw [qk1]; rfl) ?_
                                    refine r_goto C (tgt := 299) (oDec_at oX12_isOwnHere 139 rfl) (by decide) ?_
                                    refine r_istore_n C (lv' := [(0, .ref (oad E 71)), (1, .int k1)]) [1, 0] (oDec_at oX12_isOwnHere 141 rfl) rfl (by decide) rfl ?_
                                    refine r_iload_n C (j := 1) (oDec_at oX12_isOwnHere 142 rfl) rfl rfl ?_
                                    refine r_if_ne C 326 (oDec_at oX12_isOwnHere 143 rfl) (by decide) (fun cd96 => ?_) (fun cd96 => ?_)
                                    · skip
                                      refine r_iconst C (oDec_at oX12_isOwnHere 154 rfl) (v := k1) (by rw [qk1]; rfl) ?_
                                      refine r_goto C (tgt := 331) (oDec_at oX12_isOwnHere 155 rfl) (by decide) ?_
                                      refine r_istore_n C (lv' := [(0, .ref (oad E 71)), (1, .int k1)]) [1, 0] (oDec_at oX12_isOwnHere 157 rfl) rfl (by decide) rfl ?_
                                      refine r_iload_n C (j := 1) (oDec_at oX12_isOwnHere 158 rfl) rfl rfl ?_
                                      exact r_zret C (n_bool (by omega)) (oDec_at oX12_isOwnHere 159 rfl) ⟨_, rfl, ⟨by omega, by omega⟩⟩
                                    · omega
                                  · omega
                                · skip
                                  refine r_aload_n C (j := 0) (oDec_at oX12_isOwnHere 82 rfl) rfl rfl ?_
                                  refine r_aload_n C (j := 0) (oDec_at oX12_isOwnHere 83 rfl) rfl rfl ?_
                                  refine r_getF (k := 24) (b := 87) C oCl12 rfl (by decide) flX12_60 rfl rfl rfl (oDec_at oX12_isOwnHere 84 rfl) ?_
                                  have lk97 : ((u92).1 71 5).toInt = (s.1 71 5).toInt := congrArg Int32.toInt (((fu92 71 5 rfl).1).trans (((fu86 71 5 rfl).1).trans (((fu81 71 5 rfl).1).trans (((fu74 71 5 rfl).1).trans (((fu67 71 5 rfl).1).trans (((fu60 71 5 rfl).1).trans (((fu53 71 5 rfl).1).trans (((fu46 71 5 rfl).1).trans (((fu41 71 5 rfl).1).trans (((fu33 71 5 rfl).1).trans (((fu25 71 5 rfl).1).trans (((fu17 71 5 rfl).1).trans (((fu9 71 5 rfl).1).trans ((fu1 71 5 rfl).1))))))))))))))
                                  refine r_callVi C oCl12 rfl miX12_isHere mlX12_196 (ct_X12_isHere l E (u92) 87 63 4 rfl (by decide) (by decide) rfl rfl (by omega)) (by decide) rfl rfl rfl (Nat.le_of_ble_eq_true rfl) (oDec_at oX12_isOwnHere 85 rfl) (fun r99 u98 pu98 fu98 => ?_)
                                  try dsimp only at pu98
                                  try simp only [lk97] at pu98
                                  obtain ⟨pu98_0, pu98_1, pu98_2⟩ := pu98
                                  have rr99 := n_rng r99
                                  refine r_if_ne C 218 (oDec_at oX12_isOwnHere 86 rfl) (by decide) (fun cd100 => ?_) (fun cd100 => ?_)
                                  · skip
                                    refine r_iconst C (oDec_at oX12_isOwnHere 102 rfl) (v := k1) (by rw [qk1]; rfl) ?_
                                    refine r_goto C (tgt := 223) (oDec_at oX12_isOwnHere 103 rfl) (by decide) ?_
                                    refine r_istore_n C (lv' := [(0, .ref (oad E 71)), (1, .int k1)]) [1, 0] (oDec_at oX12_isOwnHere 105 rfl) rfl (by decide) rfl ?_
                                    refine r_iload_n C (j := 1) (oDec_at oX12_isOwnHere 106 rfl) rfl rfl ?_
                                    refine r_if_ne C 294 (oDec_at oX12_isOwnHere 107 rfl) (by decide) (fun cd101 => ?_) (fun cd101 => ?_)
                                    · skip
                                      refine r_iconst C (oDec_at oX12_isOwnHere 138 rfl) (v := k1) (by rw [qk1]; rfl) ?_
                                      refine r_goto C (tgt := 299) (oDec_at oX12_isOwnHere 139 rfl) (by decide) ?_
                                      refine r_istore_n C (lv' := [(0, .ref (oad E 71)), (1, .int k1)]) [1, 0] (oDec_at oX12_isOwnHere 141 rfl) rfl (by decide) rfl ?_
                                      refine r_iload_n C (j := 1) (oDec_at oX12_isOwnHere 142 rfl) rfl rfl ?_
                                      refine r_if_ne C 326 (oDec_at oX12_isOwnHere 143 rfl) (by decide) (fun cd102 => ?_) (fun cd102 => ?_)
                                      · skip
                                        refine r_iconst C (oDec_at oX12_isOwnHere 154 rfl) (v := k1) (by rw [qk1]; rfl) ?_
                                        refine r_goto C (tgt := 331) (oDec_at oX12_isOwnHere 155 rfl) (by decide) ?_
                                        refine r_istore_n C (lv' := [(0, .ref (oad E 71)), (1, .int k1)]) [1, 0] (oDec_at oX12_isOwnHere 157 rfl) rfl (by decide) rfl ?_
                                        refine r_iload_n C (j := 1) (oDec_at oX12_isOwnHere 158 rfl) rfl rfl ?_
                                        exact r_zret C (n_bool (by omega)) (oDec_at oX12_isOwnHere 159 rfl) ⟨_, rfl, ⟨by omega, by omega⟩⟩
                                      · omega
                                    · omega
                                  · skip
                                    refine r_aload_n C (j := 0) (oDec_at oX12_isOwnHere 87 rfl) rfl rfl ?_
                                    refine r_aload_n C (j := 0) (oDec_at oX12_isOwnHere 88 rfl) rfl rfl ?_
                                    refine r_getF (k := 25) (b := 88) C oCl12 rfl (by decide) flX12_63 rfl rfl rfl (oDec_at oX12_isOwnHere 89 rfl) ?_
                                    have lk103 : ((u98).1 71 5).toInt = (s.1 71 5).toInt := congrArg Int32.toInt (((fu98 71 5 rfl).1).trans (((fu92 71 5 rfl).1).trans (((fu86 71 5 rfl).1).trans (((fu81 71 5 rfl).1).trans (((fu74 71 5 rfl).1).trans (((fu67 71 5 rfl).1).trans (((fu60 71 5 rfl).1).trans (((fu53 71 5 rfl).1).trans (((fu46 71 5 rfl).1).trans (((fu41 71 5 rfl).1).trans (((fu33 71 5 rfl).1).trans (((fu25 71 5 rfl).1).trans (((fu17 71 5 rfl).1).trans (((fu9 71 5 rfl).1).trans ((fu1 71 5 rfl).1)))))))))))))))
                                    refine r_callVi C oCl12 rfl miX12_isHere mlX12_196 (ct_X12_isHere l E (u98) 88 64 4 rfl (by decide) (by decide) rfl rfl (by omega)) (by decide) rfl rfl rfl (Nat.le_of_ble_eq_true rfl) (oDec_at oX12_isOwnHere 90 rfl) (fun r105 u104 pu104 fu104 => ?_)
                                    try dsimp only at pu104
                                    try simp only [lk103] at pu104
                                    obtain ⟨pu104_0, pu104_1, pu104_2⟩ := pu104
                                    have rr105 := n_rng r105
                                    refine r_if_ne C 218 (oDec_at oX12_isOwnHere 91 rfl) (by decide) (fun cd106 => ?_) (fun cd106 => ?_)
                                    · skip
                                      refine r_iconst C (oDec_at oX12_isOwnHere 102 rfl) (v := k1) (by rw [qk1]; rfl) ?_
                                      refine r_goto C (tgt := 223) (oDec_at oX12_isOwnHere 103 rfl) (by decide) ?_
                                      refine r_istore_n C (lv' := [(0, .ref (oad E 71)), (1, .int k1)]) [1, 0] (oDec_at oX12_isOwnHere 105 rfl) rfl (by decide) rfl ?_
                                      refine r_iload_n C (j := 1) (oDec_at oX12_isOwnHere 106 rfl) rfl rfl ?_
                                      refine r_if_ne C 294 (oDec_at oX12_isOwnHere 107 rfl) (by decide) (fun cd107 => ?_) (fun cd107 => ?_)
                                      · skip
                                        refine r_iconst C (oDec_at oX12_isOwnHere 138 rfl) (v := k1) (by rw [qk1]; rfl) ?_
                                        refine r_goto C (tgt := 299) (oDec_at oX12_isOwnHere 139 rfl) (by decide) ?_
                                        refine r_istore_n C (lv' := [(0, .ref (oad E 71)), (1, .int k1)]) [1, 0] (oDec_at oX12_isOwnHere 141 rfl) rfl (by decide) rfl ?_
                                        refine r_iload_n C (j := 1) (oDec_at oX12_isOwnHere 142 rfl) rfl rfl ?_
                                        refine r_if_ne C 326 (oDec_at oX12_isOwnHere 143 rfl) (by decide) (fun cd108 => ?_) (fun cd108 => ?_)
                                        · skip
                                          refine r_iconst C (oDec_at oX12_isOwnHere 154 rfl) (v := k1) (by rw [qk1]; rfl) ?_
                                          refine r_goto C (tgt := 331) (oDec_at oX12_isOwnHere 155 rfl) (by decide) ?_
                                          refine r_istore_n C (lv' := [(0, .ref (oad E 71)), (1, .int k1)]) [1, 0] (oDec_at oX12_isOwnHere 157 rfl) rfl (by decide) rfl ?_
                                          refine r_iload_n C (j := 1) (oDec_at oX12_isOwnHere 158 rfl) rfl rfl ?_
                                          exact r_zret C (n_bool (by omega)) (oDec_at oX12_isOwnHere 159 rfl) ⟨_, rfl, ⟨by omega, by omega⟩⟩
                                        · omega
                                      · omega
                                    · skip
                                      refine r_aload_n C (j := 0) (oDec_at oX12_isOwnHere 92 rfl) rfl rfl ?_
                                      refine r_aload_n C (j := 0) (oDec_at oX12_isOwnHere 93 rfl) rfl rfl ?_
                                      refine r_getF (k := 26) (b := 89) C oCl12 rfl (by decide) flX12_66 rfl rfl rfl (oDec_at oX12_isOwnHere 94 rfl) ?_
                                      have lk109 : ((u104).1 71 5).toInt = (s.1 71 5).toInt := congrArg Int32.toInt (((fu104 71 5 rfl).1).trans (((fu98 71 5 rfl).1).trans (((fu92 71 5 rfl).1).trans (((fu86 71 5 rfl).1).trans (((fu81 71 5 rfl).1).trans (((fu74 71 5 rfl).1).trans (((fu67 71 5 rfl).1).trans (((fu60 71 5 rfl).1).trans (((fu53 71 5 rfl).1).trans (((fu46 71 5 rfl).1).trans (((fu41 71 5 rfl).1).trans (((fu33 71 5 rfl).1).trans (((fu25 71 5 rfl).1).trans (((fu17 71 5 rfl).1).trans (((fu9 71 5 rfl).1).trans ((fu1 71 5 rfl).1))))))))))))))))
                                      refine r_callVi C oCl12 rfl miX12_isHere mlX12_196 (ct_X12_isHere l E (u104) 89 65 5 rfl (by decide) (by decide) rfl rfl (by omega)) (by decide) rfl rfl rfl (Nat.le_of_ble_eq_true rfl) (oDec_at oX12_isOwnHere 95 rfl) (fun r111 u110 pu110 fu110 => ?_)
                                      try dsimp only at pu110
                                      try simp only [lk109] at pu110
                                      obtain ⟨pu110_0, pu110_1, pu110_2⟩ := pu110
                                      have rr111 := n_rng r111
                                      refine r_if_ne C 218 (oDec_at oX12_isOwnHere 96 rfl) (by decide) (fun cd112 => ?_) (fun cd112 => ?_)
                                      · skip
                                        refine r_iconst C (oDec_at oX12_isOwnHere 102 rfl) (v := k1) (by rw [qk1]; rfl) ?_
                                        refine r_goto C (tgt := 223) (oDec_at oX12_isOwnHere 103 rfl) (by decide) ?_
                                        refine r_istore_n C (lv' := [(0, .ref (oad E 71)), (1, .int k1)]) [1, 0] (oDec_at oX12_isOwnHere 105 rfl) rfl (by decide) rfl ?_
                                        refine r_iload_n C (j := 1) (oDec_at oX12_isOwnHere 106 rfl) rfl rfl ?_
                                        refine r_if_ne C 294 (oDec_at oX12_isOwnHere 107 rfl) (by decide) (fun cd113 => ?_) (fun cd113 => ?_)
                                        · skip
                                          refine r_iconst C (oDec_at oX12_isOwnHere 138 rfl) (v := k1) (by rw [qk1]; rfl) ?_
                                          refine r_goto C (tgt := 299) (oDec_at oX12_isOwnHere 139 rfl) (by decide) ?_
                                          refine r_istore_n C (lv' := [(0, .ref (oad E 71)), (1, .int k1)]) [1, 0] (oDec_at oX12_isOwnHere 141 rfl) rfl (by decide) rfl ?_
                                          refine r_iload_n C (j := 1) (oDec_at oX12_isOwnHere 142 rfl) rfl rfl ?_
                                          refine r_if_ne C 326 (oDec_at oX12_isOwnHere 143 rfl) (by decide) (fun cd114 => ?_) (fun cd114 => ?_)
                                          · skip
                                            refine r_iconst C (oDec_at oX12_isOwnHere 154 rfl) (v := k1) (by rw [qk1]; rfl) ?_
                                            refine r_goto C (tgt := 331) (oDec_at oX12_isOwnHere 155 rfl) (by decide) ?_
                                            refine r_istore_n C (lv' := [(0, .ref (oad E 71)), (1, .int k1)]) [1, 0] (oDec_at oX12_isOwnHere 157 rfl) rfl (by decide) rfl ?_
                                            refine r_iload_n C (j := 1) (oDec_at oX12_isOwnHere 158 rfl) rfl rfl ?_
                                            exact r_zret C (n_bool (by omega)) (oDec_at oX12_isOwnHere 159 rfl) ⟨_, rfl, ⟨by omega, by omega⟩⟩
                                          · omega
                                        · omega
                                      · skip
                                        refine r_aload_n C (j := 0) (oDec_at oX12_isOwnHere 97 rfl) rfl rfl ?_
                                        refine r_aload_n C (j := 0) (oDec_at oX12_isOwnHere 98 rfl) rfl rfl ?_
                                        refine r_getF (k := 27) (b := 90) C oCl12 rfl (by decide) flX12_69 rfl rfl rfl (oDec_at oX12_isOwnHere 99 rfl) ?_
                                        have lk115 : ((u110).1 71 5).toInt = (s.1 71 5).toInt := congrArg Int32.toInt (((fu110 71 5 rfl).1).trans (((fu104 71 5 rfl).1).trans (((fu98 71 5 rfl).1).trans (((fu92 71 5 rfl).1).trans (((fu86 71 5 rfl).1).trans (((fu81 71 5 rfl).1).trans (((fu74 71 5 rfl).1).trans (((fu67 71 5 rfl).1).trans (((fu60 71 5 rfl).1).trans (((fu53 71 5 rfl).1).trans (((fu46 71 5 rfl).1).trans (((fu41 71 5 rfl).1).trans (((fu33 71 5 rfl).1).trans (((fu25 71 5 rfl).1).trans (((fu17 71 5 rfl).1).trans (((fu9 71 5 rfl).1).trans ((fu1 71 5 rfl).1)))))))))))))))))
                                        refine r_callVi C oCl12 rfl miX12_isHere mlX12_196 (ct_X12_isHere l E (u110) 90 66 3 rfl (by decide) (by decide) rfl rfl (by omega)) (by decide) rfl rfl rfl (Nat.le_of_ble_eq_true rfl) (oDec_at oX12_isOwnHere 100 rfl) (fun r117 u116 pu116 fu116 => ?_)
                                        try dsimp only at pu116
                                        try simp only [lk115] at pu116
                                        obtain ⟨pu116_0, pu116_1, pu116_2⟩ := pu116
                                        have rr117 := n_rng r117
                                        refine r_if_eq C 222 (oDec_at oX12_isOwnHere 101 rfl) (by decide) (fun cd118 => ?_) (fun cd118 => ?_)
                                        · skip
                                          refine r_iconst C (oDec_at oX12_isOwnHere 104 rfl) (v := k0) (by rw [qk0]; rfl) ?_
                                          refine r_istore_n C (lv' := [(0, .ref (oad E 71)), (1, .int k0)]) [1, 0] (oDec_at oX12_isOwnHere 105 rfl) rfl (by decide) rfl ?_
                                          refine r_iload_n C (j := 1) (oDec_at oX12_isOwnHere 106 rfl) rfl rfl ?_
                                          refine r_if_ne C 294 (oDec_at oX12_isOwnHere 107 rfl) (by decide) (fun cd119 => ?_) (fun cd119 => ?_)
                                          · omega
                                          · skip
                                            refine r_aload_n C (j := 0) (oDec_at oX12_isOwnHere 108 rfl) rfl rfl ?_
                                            refine r_aload_n C (j := 0) (oDec_at oX12_isOwnHere 109 rfl) rfl rfl ?_
                                            refine r_getF (k := 28) (b := 91) C oCl12 rfl (by decide) flX12_72 rfl rfl rfl (oDec_at oX12_isOwnHere 110 rfl) ?_
                                            have lk120 : ((u116).1 71 5).toInt = (s.1 71 5).toInt := congrArg Int32.toInt (((fu116 71 5 rfl).1).trans (((fu110 71 5 rfl).1).trans (((fu104 71 5 rfl).1).trans (((fu98 71 5 rfl).1).trans (((fu92 71 5 rfl).1).trans (((fu86 71 5 rfl).1).trans (((fu81 71 5 rfl).1).trans (((fu74 71 5 rfl).1).trans (((fu67 71 5 rfl).1).trans (((fu60 71 5 rfl).1).trans (((fu53 71 5 rfl).1).trans (((fu46 71 5 rfl).1).trans (((fu41 71 5 rfl).1).trans (((fu33 71 5 rfl).1).trans (((fu25 71 5 rfl).1).trans (((fu17 71 5 rfl).1).trans (((fu9 71 5 rfl).1).trans ((fu1 71 5 rfl).1))))))))))))))))))
                                            refine r_callVi C oCl12 rfl miX12_isHere mlX12_196 (ct_X12_isHere l E (u116) 91 67 4 rfl (by decide) (by decide) rfl rfl (by omega)) (by decide) rfl rfl rfl (Nat.le_of_ble_eq_true rfl) (oDec_at oX12_isOwnHere 111 rfl) (fun r122 u121 pu121 fu121 => ?_)
                                            try dsimp only at pu121
                                            try simp only [lk120] at pu121
                                            obtain ⟨pu121_0, pu121_1, pu121_2⟩ := pu121
                                            have rr122 := n_rng r122
                                            refine r_if_ne C 294 (oDec_at oX12_isOwnHere 112 rfl) (by decide) (fun cd123 => ?_) (fun cd123 => ?_)
                                            · skip
                                              refine r_iconst C (oDec_at oX12_isOwnHere 138 rfl) (v := k1) (by rw [qk1]; rfl) ?_
                                              refine r_goto C (tgt := 299) (oDec_at oX12_isOwnHere 139 rfl) (by decide) ?_
                                              refine r_istore_n C (lv' := [(0, .ref (oad E 71)), (1, .int k1)]) [1, 0] (oDec_at oX12_isOwnHere 141 rfl) rfl (by decide) rfl ?_
                                              refine r_iload_n C (j := 1) (oDec_at oX12_isOwnHere 142 rfl) rfl rfl ?_
                                              refine r_if_ne C 326 (oDec_at oX12_isOwnHere 143 rfl) (by decide) (fun cd124 => ?_) (fun cd124 => ?_)
                                              · skip
                                                refine r_iconst C (oDec_at oX12_isOwnHere 154 rfl) (v := k1) (by rw [qk1]; rfl) ?_
                                                refine r_goto C (tgt := 331) (oDec_at oX12_isOwnHere 155 rfl) (by decide) ?_
                                                refine r_istore_n C (lv' := [(0, .ref (oad E 71)), (1, .int k1)]) [1, 0] (oDec_at oX12_isOwnHere 157 rfl) rfl (by decide) rfl ?_
                                                refine r_iload_n C (j := 1) (oDec_at oX12_isOwnHere 158 rfl) rfl rfl ?_
                                                exact r_zret C (n_bool (by omega)) (oDec_at oX12_isOwnHere 159 rfl) ⟨_, rfl, ⟨by omega, by omega⟩⟩
                                              · omega
                                            · skip
                                              refine r_aload_n C (j := 0) (oDec_at oX12_isOwnHere 113 rfl) rfl rfl ?_
                                              refine r_aload_n C (j := 0) (oDec_at oX12_isOwnHere 114 rfl) rfl rfl ?_
                                              refine r_getF (k := 29) (b := 92) C oCl12 rfl (by decide) flX12_75 rfl rfl rfl (oDec_at oX12_isOwnHere 115 rfl) ?_
                                              have lk125 : ((u121).1 71 5).toInt = (s.1 71 5).toInt := congrArg Int32.toInt (((fu121 71 5 rfl).1).trans (((fu116 71 5 rfl).1).trans (((fu110 71 5 rfl).1).trans (((fu104 71 5 rfl).1).trans (((fu98 71 5 rfl).1).trans (((fu92 71 5 rfl).1).trans (((fu86 71 5 rfl).1).trans (((fu81 71 5 rfl).1).trans (((fu74 71 5 rfl).1).trans (((fu67 71 5 rfl).1).trans (((fu60 71 5 rfl).1).trans (((fu53 71 5 rfl).1).trans (((fu46 71 5 rfl).1).trans (((fu41 71 5 rfl).1).trans (((fu33 71 5 rfl).1).trans (((fu25 71 5 rfl).1).trans (((fu17 71 5 rfl).1).trans (((fu9 71 5 rfl).1).trans ((fu1 71 5 rfl).1)))))))))))))))))))
                                              refine r_callVi C oCl12 rfl miX12_isHere mlX12_196 (ct_X12_isHere l E (u121) 92 68 5 rfl (by decide) (by decide) rfl rfl (by omega)) (by decide) rfl rfl rfl (Nat.le_of_ble_eq_true rfl) (oDec_at oX12_isOwnHere 116 rfl) (fun r127 u126 pu126 fu126 => ?_)
                                              try dsimp only at pu126
                                              try simp only [lk125] at pu126
                                              obtain ⟨pu126_0, pu126_1, pu126_2⟩ := pu126
                                              have rr127 := n_rng r127
                                              refine r_if_ne C 294 (oDec_at oX12_isOwnHere 117 rfl) (by decide) (fun cd128 => ?_) (fun cd128 => ?_)
                                              · skip
                                                refine r_iconst C (oDec_at oX12_isOwnHere 138 rfl) (v := k1) (by rw [qk1]; rfl) ?_
                                                refine r_goto C (tgt := 299) (oDec_at oX12_isOwnHere 139 rfl) (by decide) ?_
                                                refine r_istore_n C (lv' := [(0, .ref (oad E 71)), (1, .int k1)]) [1, 0] (oDec_at oX12_isOwnHere 141 rfl) rfl (by decide) rfl ?_
                                                refine r_iload_n C (j := 1) (oDec_at oX12_isOwnHere 142 rfl) rfl rfl ?_
                                                refine r_if_ne C 326 (oDec_at oX12_isOwnHere 143 rfl) (by decide) (fun cd129 => ?_) (fun cd129 => ?_)
                                                · skip
                                                  refine r_iconst C (oDec_at oX12_isOwnHere 154 rfl) (v := k1) (by rw [qk1]; rfl) ?_
                                                  refine r_goto C (tgt := 331) (oDec_at oX12_isOwnHere 155 rfl) (by decide) ?_
                                                  refine r_istore_n C (lv' := [(0, .ref (oad E 71)), (1, .int k1)]) [1, 0] (oDec_at oX12_isOwnHere 157 rfl) rfl (by decide) rfl ?_
                                                  refine r_iload_n C (j := 1) (oDec_at oX12_isOwnHere 158 rfl) rfl rfl ?_
                                                  exact r_zret C (n_bool (by omega)) (oDec_at oX12_isOwnHere 159 rfl) ⟨_, rfl, ⟨by omega, by omega⟩⟩
                                                · omega
                                              · skip
                                                refine r_aload_n C (j := 0) (oDec_at oX12_isOwnHere 118 rfl) rfl rfl ?_
                                                refine r_aload_n C (j := 0) (oDec_at oX12_isOwnHere 119 rfl) rfl rfl ?_
                                                refine r_getF (k := 30) (b := 93) C oCl12 rfl (by decide) flX12_78 rfl rfl rfl (oDec_at oX12_isOwnHere 120 rfl) ?_
                                                have lk130 : ((u126).1 71 5).toInt = (s.1 71 5).toInt := congrArg Int32.toInt (((fu126 71 5 rfl).1).trans (((fu121 71 5 rfl).1).trans (((fu116 71 5 rfl).1).trans (((fu110 71 5 rfl).1).trans (((fu104 71 5 rfl).1).trans (((fu98 71 5 rfl).1).trans (((fu92 71 5 rfl).1).trans (((fu86 71 5 rfl).1).trans (((fu81 71 5 rfl).1).trans (((fu74 71 5 rfl).1).trans (((fu67 71 5 rfl).1).trans (((fu60 71 5 rfl).1).trans (((fu53 71 5 rfl).1).trans (((fu46 71 5 rfl).1).trans (((fu41 71 5 rfl).1).trans (((fu33 71 5 rfl).1).trans (((fu25 71 5 rfl).1).trans (((fu17 71 5 rfl).1).trans (((fu9 71 5 rfl).1).trans ((fu1 71 5 rfl).1))))))))))))))))))))
                                                refine r_callVi C oCl12 rfl miX12_isHere mlX12_196 (ct_X12_isHere l E (u126) 93 69 4 rfl (by decide) (by decide) rfl rfl (by omega)) (by decide) rfl rfl rfl (Nat.le_of_ble_eq_true rfl) (oDec_at oX12_isOwnHere 121 rfl) (fun r132 u131 pu131 fu131 => ?_)
                                                try dsimp only at pu131
                                                try simp only [lk130] at pu131
                                                obtain ⟨pu131_0, pu131_1, pu131_2⟩ := pu131
                                                have rr132 := n_rng r132
                                                refine r_if_ne C 294 (oDec_at oX12_isOwnHere 122 rfl) (by decide) (fun cd133 => ?_) (fun cd133 => ?_)
                                                · skip
                                                  refine r_iconst C (oDec_at oX12_isOwnHere 138 rfl) (v := k1) (by rw [qk1]; rfl) ?_
                                                  refine r_goto C (tgt := 299) (oDec_at oX12_isOwnHere 139 rfl) (by decide) ?_
                                                  refine r_istore_n C (lv' := [(0, .ref (oad E 71)), (1, .int k1)]) [1, 0] (oDec_at oX12_isOwnHere 141 rfl) rfl (by decide) rfl ?_
                                                  refine r_iload_n C (j := 1) (oDec_at oX12_isOwnHere 142 rfl) rfl rfl ?_
                                                  refine r_if_ne C 326 (oDec_at oX12_isOwnHere 143 rfl) (by decide) (fun cd134 => ?_) (fun cd134 => ?_)
                                                  · skip
                                                    refine r_iconst C (oDec_at oX12_isOwnHere 154 rfl) (v := k1) (by rw [qk1]; rfl) ?_
                                                    refine r_goto C (tgt := 331) (oDec_at oX12_isOwnHere 155 rfl) (by decide) ?_
                                                    refine r_istore_n C (lv' := [(0, .ref (oad E 71)), (1, .int k1)]) [1, 0] (oDec_at oX12_isOwnHere 157 rfl) rfl (by decide) rfl ?_
                                                    refine r_iload_n C (j := 1) (oDec_at oX12_isOwnHere 158 rfl) rfl rfl ?_
                                                    exact r_zret C (n_bool (by omega)) (oDec_at oX12_isOwnHere 159 rfl) ⟨_, rfl, ⟨by omega, by omega⟩⟩
                                                  · omega
                                                · skip
                                                  refine r_aload_n C (j := 0) (oDec_at oX12_isOwnHere 123 rfl) rfl rfl ?_
                                                  refine r_aload_n C (j := 0) (oDec_at oX12_isOwnHere 124 rfl) rfl rfl ?_
                                                  refine r_getF (k := 31) (b := 94) C oCl12 rfl (by decide) flX12_81 rfl rfl rfl (oDec_at oX12_isOwnHere 125 rfl) ?_
                                                  have lk135 : ((u131).1 71 5).toInt = (s.1 71 5).toInt := congrArg Int32.toInt (((fu131 71 5 rfl).1).trans (((fu126 71 5 rfl).1).trans (((fu121 71 5 rfl).1).trans (((fu116 71 5 rfl).1).trans (((fu110 71 5 rfl).1).trans (((fu104 71 5 rfl).1).trans (((fu98 71 5 rfl).1).trans (((fu92 71 5 rfl).1).trans (((fu86 71 5 rfl).1).trans (((fu81 71 5 rfl).1).trans (((fu74 71 5 rfl).1).trans (((fu67 71 5 rfl).1).trans (((fu60 71 5 rfl).1).trans (((fu53 71 5 rfl).1).trans (((fu46 71 5 rfl).1).trans (((fu41 71 5 rfl).1).trans (((fu33 71 5 rfl).1).trans (((fu25 71 5 rfl).1).trans (((fu17 71 5 rfl).1).trans (((fu9 71 5 rfl).1).trans ((fu1 71 5 rfl).1)))))))))))))))))))))
                                                  refine r_callVi C oCl12 rfl miX12_isHere mlX12_196 (ct_X12_isHere l E (u131) 94 70 6 rfl (by decide) (by decide) rfl rfl (by omega)) (by decide) rfl rfl rfl (Nat.le_of_ble_eq_true rfl) (oDec_at oX12_isOwnHere 126 rfl) (fun r137 u136 pu136 fu136 => ?_)
                                                  try dsimp only at pu136
                                                  try simp only [lk135] at pu136
                                                  obtain ⟨pu136_0, pu136_1, pu136_2⟩ := pu136
                                                  have rr137 := n_rng r137
                                                  refine r_if_ne C 294 (oDec_at oX12_isOwnHere 127 rfl) (by decide) (fun cd138 => ?_) (fun cd138 => ?_)
                                                  · skip
                                                    refine r_iconst C (oDec_at oX12_isOwnHere 138 rfl) (v := k1) (by rw [qk1]; rfl) ?_
                                                    refine r_goto C (tgt := 299) (oDec_at oX12_isOwnHere 139 rfl) (by decide) ?_
                                                    refine r_istore_n C (lv' := [(0, .ref (oad E 71)), (1, .int k1)]) [1, 0] (oDec_at oX12_isOwnHere 141 rfl) rfl (by decide) rfl ?_
                                                    refine r_iload_n C (j := 1) (oDec_at oX12_isOwnHere 142 rfl) rfl rfl ?_
                                                    refine r_if_ne C 326 (oDec_at oX12_isOwnHere 143 rfl) (by decide) (fun cd139 => ?_) (fun cd139 => ?_)
                                                    · skip
                                                      refine r_iconst C (oDec_at oX12_isOwnHere 154 rfl) (v := k1) (by rw [qk1]; rfl) ?_
                                                      refine r_goto C (tgt := 331) (oDec_at oX12_isOwnHere 155 rfl) (by decide) ?_
                                                      refine r_istore_n C (lv' := [(0, .ref (oad E 71)), (1, .int k1)]) [1, 0] (oDec_at oX12_isOwnHere 157 rfl) rfl (by decide) rfl ?_
                                                      refine r_iload_n C (j := 1) (oDec_at oX12_isOwnHere 158 rfl) rfl rfl ?_
                                                      exact r_zret C (n_bool (by omega)) (oDec_at oX12_isOwnHere 159 rfl) ⟨_, rfl, ⟨by omega, by omega⟩⟩
                                                    · omega
                                                  · skip
                                                    refine r_aload_n C (j := 0) (oDec_at oX12_isOwnHere 128 rfl) rfl rfl ?_
                                                    refine r_aload_n C (j := 0) (oDec_at oX12_isOwnHere 129 rfl) rfl rfl ?_
                                                    refine r_getF (k := 32) (b := 95) C oCl12 rfl (by decide) flX12_84 rfl rfl rfl (oDec_at oX12_isOwnHere 130 rfl) ?_
                                                    have lk140 : ((u136).1 71 5).toInt = (s.1 71 5).toInt := congrArg Int32.toInt (((fu136 71 5 rfl).1).trans (((fu131 71 5 rfl).1).trans (((fu126 71 5 rfl).1).trans (((fu121 71 5 rfl).1).trans (((fu116 71 5 rfl).1).trans (((fu110 71 5 rfl).1).trans (((fu104 71 5 rfl).1).trans (((fu98 71 5 rfl).1).trans (((fu92 71 5 rfl).1).trans (((fu86 71 5 rfl).1).trans (((fu81 71 5 rfl).1).trans (((fu74 71 5 rfl).1).trans (((fu67 71 5 rfl).1).trans (((fu60 71 5 rfl).1).trans (((fu53 71 5 rfl).1).trans (((fu46 71 5 rfl).1).trans (((fu41 71 5 rfl).1).trans (((fu33 71 5 rfl).1).trans (((fu25 71 5 rfl).1).trans (((fu17 71 5 rfl).1).trans (((fu9 71 5 rfl).1).trans ((fu1 71 5 rfl).1))))))))))))))))))))))
                                                    refine r_callVi C oCl12 rfl miX12_isHere mlX12_196 (ct_X12_isHere l E (u136) 95 71 4 rfl (by decide) (by decide) rfl rfl (by omega)) (by decide) rfl rfl rfl (Nat.le_of_ble_eq_true rfl) (oDec_at oX12_isOwnHere 131 rfl) (fun r142 u141 pu141 fu141 => ?_)
                                                    try dsimp only at pu141
                                                    try simp only [lk140] at pu141
                                                    obtain ⟨pu141_0, pu141_1, pu141_2⟩ := pu141
                                                    have rr142 := n_rng r142
                                                    refine r_if_ne C 294 (oDec_at oX12_isOwnHere 132 rfl) (by decide) (fun cd143 => ?_) (fun cd143 => ?_)
                                                    · skip
                                                      refine r_iconst C (oDec_at oX12_isOwnHere 138 rfl) (v := k1) (by rw [qk1]; rfl) ?_
                                                      refine r_goto C (tgt := 299) (oDec_at oX12_isOwnHere 139 rfl) (by decide) ?_
                                                      refine r_istore_n C (lv' := [(0, .ref (oad E 71)), (1, .int k1)]) [1, 0] (oDec_at oX12_isOwnHere 141 rfl) rfl (by decide) rfl ?_
                                                      refine r_iload_n C (j := 1) (oDec_at oX12_isOwnHere 142 rfl) rfl rfl ?_
                                                      refine r_if_ne C 326 (oDec_at oX12_isOwnHere 143 rfl) (by decide) (fun cd144 => ?_) (fun cd144 => ?_)
                                                      · skip
                                                        refine r_iconst C (oDec_at oX12_isOwnHere 154 rfl) (v := k1) (by rw [qk1]; rfl) ?_
                                                        refine r_goto C (tgt := 331) (oDec_at oX12_isOwnHere 155 rfl) (by decide) ?_
                                                        refine r_istore_n C (lv' := [(0, .ref (oad E 71)), (1, .int k1)]) [1, 0] (oDec_at oX12_isOwnHere 157 rfl) rfl (by decide) rfl ?_
                                                        refine r_iload_n C (j := 1) (oDec_at oX12_isOwnHere 158 rfl) rfl rfl ?_
                                                        exact r_zret C (n_bool (by omega)) (oDec_at oX12_isOwnHere 159 rfl) ⟨_, rfl, ⟨by omega, by omega⟩⟩
                                                      · omega
                                                    · skip
                                                      refine r_aload_n C (j := 0) (oDec_at oX12_isOwnHere 133 rfl) rfl rfl ?_
                                                      refine r_aload_n C (j := 0) (oDec_at oX12_isOwnHere 134 rfl) rfl rfl ?_
                                                      refine r_getF (k := 33) (b := 96) C oCl12 rfl (by decide) flX12_87 rfl rfl rfl (oDec_at oX12_isOwnHere 135 rfl) ?_
                                                      have lk145 : ((u141).1 71 5).toInt = (s.1 71 5).toInt := congrArg Int32.toInt (((fu141 71 5 rfl).1).trans (((fu136 71 5 rfl).1).trans (((fu131 71 5 rfl).1).trans (((fu126 71 5 rfl).1).trans (((fu121 71 5 rfl).1).trans (((fu116 71 5 rfl).1).trans (((fu110 71 5 rfl).1).trans (((fu104 71 5 rfl).1).trans (((fu98 71 5 rfl).1).trans (((fu92 71 5 rfl).1).trans (((fu86 71 5 rfl).1).trans (((fu81 71 5 rfl).1).trans (((fu74 71 5 rfl).1).trans (((fu67 71 5 rfl).1).trans (((fu60 71 5 rfl).1).trans (((fu53 71 5 rfl).1).trans (((fu46 71 5 rfl).1).trans (((fu41 71 5 rfl).1).trans (((fu33 71 5 rfl).1).trans (((fu25 71 5 rfl).1).trans (((fu17 71 5 rfl).1).trans (((fu9 71 5 rfl).1).trans ((fu1 71 5 rfl).1)))))))))))))))))))))))
                                                      refine r_callVi C oCl12 rfl miX12_isHere mlX12_196 (ct_X12_isHere l E (u141) 96 72 4 rfl (by decide) (by decide) rfl rfl (by omega)) (by decide) rfl rfl rfl (Nat.le_of_ble_eq_true rfl) (oDec_at oX12_isOwnHere 136 rfl) (fun r147 u146 pu146 fu146 => ?_)
                                                      try dsimp only at pu146
                                                      try simp only [lk145] at pu146
                                                      obtain ⟨pu146_0, pu146_1, pu146_2⟩ := pu146
                                                      have rr147 := n_rng r147
                                                      refine r_if_eq C 298 (oDec_at oX12_isOwnHere 137 rfl) (by decide) (fun cd148 => ?_) (fun cd148 => ?_)
                                                      · skip
                                                        refine r_iconst C (oDec_at oX12_isOwnHere 140 rfl) (v := k0) (by rw [qk0]; rfl) ?_
                                                        refine r_istore_n C (lv' := [(0, .ref (oad E 71)), (1, .int k0)]) [1, 0] (oDec_at oX12_isOwnHere 141 rfl) rfl (by decide) rfl ?_
                                                        refine r_iload_n C (j := 1) (oDec_at oX12_isOwnHere 142 rfl) rfl rfl ?_
                                                        refine r_if_ne C 326 (oDec_at oX12_isOwnHere 143 rfl) (by decide) (fun cd149 => ?_) (fun cd149 => ?_)
                                                        · omega
                                                        · skip
                                                          refine r_aload_n C (j := 0) (oDec_at oX12_isOwnHere 144 rfl) rfl rfl ?_
                                                          refine r_aload_n C (j := 0) (oDec_at oX12_isOwnHere 145 rfl) rfl rfl ?_
                                                          refine r_getF (k := 34) (b := 97) C oCl12 rfl (by decide) flX12_90 rfl rfl rfl (oDec_at oX12_isOwnHere 146 rfl) ?_
                                                          have lk150 : ((u146).1 71 5).toInt = (s.1 71 5).toInt := congrArg Int32.toInt (((fu146 71 5 rfl).1).trans (((fu141 71 5 rfl).1).trans (((fu136 71 5 rfl).1).trans (((fu131 71 5 rfl).1).trans (((fu126 71 5 rfl).1).trans (((fu121 71 5 rfl).1).trans (((fu116 71 5 rfl).1).trans (((fu110 71 5 rfl).1).trans (((fu104 71 5 rfl).1).trans (((fu98 71 5 rfl).1).trans (((fu92 71 5 rfl).1).trans (((fu86 71 5 rfl).1).trans (((fu81 71 5 rfl).1).trans (((fu74 71 5 rfl).1).trans (((fu67 71 5 rfl).1).trans (((fu60 71 5 rfl).1).trans (((fu53 71 5 rfl).1).trans (((fu46 71 5 rfl).1).trans (((fu41 71 5 rfl).1).trans (((fu33 71 5 rfl).1).trans (((fu25 71 5 rfl).1).trans (((fu17 71 5 rfl).1).trans (((fu9 71 5 rfl).1).trans ((fu1 71 5 rfl).1))))))))))))))))))))))))
                                                          refine r_callVi C oCl12 rfl miX12_isHere mlX12_196 (ct_X12_isHere l E (u146) 97 73 3 rfl (by decide) (by decide) rfl rfl (by omega)) (by decide) rfl rfl rfl (Nat.le_of_ble_eq_true rfl) (oDec_at oX12_isOwnHere 147 rfl) (fun r152 u151 pu151 fu151 => ?_)
                                                          try dsimp only at pu151
                                                          try simp only [lk150] at pu151
                                                          obtain ⟨pu151_0, pu151_1, pu151_2⟩ := pu151
                                                          have rr152 := n_rng r152
                                                          refine r_if_ne C 326 (oDec_at oX12_isOwnHere 148 rfl) (by decide) (fun cd153 => ?_) (fun cd153 => ?_)
                                                          · skip
                                                            refine r_iconst C (oDec_at oX12_isOwnHere 154 rfl) (v := k1) (by rw [qk1]; rfl) ?_
                                                            refine r_goto C (tgt := 331) (oDec_at oX12_isOwnHere 155 rfl) (by decide) ?_
                                                            refine r_istore_n C (lv' := [(0, .ref (oad E 71)), (1, .int k1)]) [1, 0] (oDec_at oX12_isOwnHere 157 rfl) rfl (by decide) rfl ?_
                                                            refine r_iload_n C (j := 1) (oDec_at oX12_isOwnHere 158 rfl) rfl rfl ?_
                                                            exact r_zret C (n_bool (by omega)) (oDec_at oX12_isOwnHere 159 rfl) ⟨_, rfl, ⟨by omega, by omega⟩⟩
                                                          · skip
                                                            refine r_aload_n C (j := 0) (oDec_at oX12_isOwnHere 149 rfl) rfl rfl ?_
                                                            refine r_aload_n C (j := 0) (oDec_at oX12_isOwnHere 150 rfl) rfl rfl ?_
                                                            refine r_getF (k := 35) (b := 98) C oCl12 rfl (by decide) flX12_93 rfl rfl rfl (oDec_at oX12_isOwnHere 151 rfl) ?_
                                                            have lk154 : ((u151).1 71 5).toInt = (s.1 71 5).toInt := congrArg Int32.toInt (((fu151 71 5 rfl).1).trans (((fu146 71 5 rfl).1).trans (((fu141 71 5 rfl).1).trans (((fu136 71 5 rfl).1).trans (((fu131 71 5 rfl).1).trans (((fu126 71 5 rfl).1).trans (((fu121 71 5 rfl).1).trans (((fu116 71 5 rfl).1).trans (((fu110 71 5 rfl).1).trans (((fu104 71 5 rfl).1).trans (((fu98 71 5 rfl).1).trans (((fu92 71 5 rfl).1).trans (((fu86 71 5 rfl).1).trans (((fu81 71 5 rfl).1).trans (((fu74 71 5 rfl).1).trans (((fu67 71 5 rfl).1).trans (((fu60 71 5 rfl).1).trans (((fu53 71 5 rfl).1).trans (((fu46 71 5 rfl).1).trans (((fu41 71 5 rfl).1).trans (((fu33 71 5 rfl).1).trans (((fu25 71 5 rfl).1).trans (((fu17 71 5 rfl).1).trans (((fu9 71 5 rfl).1).trans ((fu1 71 5 rfl).1)))))))))))))))))))))))))
                                                            refine r_callVi C oCl12 rfl miX12_isHere mlX12_196 (ct_X12_isHere l E (u151) 98 74 3 rfl (by decide) (by decide) rfl rfl (by omega)) (by decide) rfl rfl rfl (Nat.le_of_ble_eq_true rfl) (oDec_at oX12_isOwnHere 152 rfl) (fun r156 u155 pu155 fu155 => ?_)
                                                            try dsimp only at pu155
                                                            try simp only [lk154] at pu155
                                                            obtain ⟨pu155_0, pu155_1, pu155_2⟩ := pu155
                                                            have rr156 := n_rng r156
                                                            refine r_if_eq C 330 (oDec_at oX12_isOwnHere 153 rfl) (by decide) (fun cd157 => ?_) (fun cd157 => ?_)
                                                            · skip
                                                              refine r_iconst C (oDec_at oX12_isOwnHere 156 rfl) (v := k0) (by rw [qk0]; rfl) ?_
                                                              refine r_istore_n C (lv' := [(0, .ref (oad E 71)), (1, .int k0)]) [1, 0] (oDec_at oX12_isOwnHere 157 rfl) rfl (by decide) rfl ?_
                                                              refine r_iload_n C (j := 1) (oDec_at oX12_isOwnHere 158 rfl) rfl rfl ?_
                                                              exact r_zret C (n_bool (by omega)) (oDec_at oX12_isOwnHere 159 rfl) ⟨_, rfl, ⟨by omega, by omega⟩⟩
                                                            · skip
                                                              refine r_iconst C (oDec_at oX12_isOwnHere 154 rfl) (v := k1) (by rw [qk1]; rfl) ?_
                                                              refine r_goto C (tgt := 331) (oDec_at oX12_isOwnHere 155 rfl) (by decide) ?_
                                                              refine r_istore_n C (lv' := [(0, .ref (oad E 71)), (1, .int k1)]) [1, 0] (oDec_at oX12_isOwnHere 157 rfl) rfl (by decide) rfl ?_
                                                              refine r_iload_n C (j := 1) (oDec_at oX12_isOwnHere 158 rfl) rfl rfl ?_
                                                              exact r_zret C (n_bool (by omega)) (oDec_at oX12_isOwnHere 159 rfl) ⟨_, rfl, ⟨by omega, by omega⟩⟩
                                                      · skip
                                                        refine r_iconst C (oDec_at oX12_isOwnHere 138 rfl) (v := k1) (by rw [qk1]; rfl) ?_
                                                        refine r_goto C (tgt := 299) (oDec_at oX12_isOwnHere 139 rfl) (by decide) ?_
                                                        refine r_istore_n C (lv' := [(0, .ref (oad E 71)), (1, .int k1)]) [1, 0] (oDec_at oX12_isOwnHere 141 rfl) rfl (by decide) rfl ?_
                                                        refine r_iload_n C (j := 1) (oDec_at oX12_isOwnHere 142 rfl) rfl rfl ?_
                                                        refine r_if_ne C 326 (oDec_at oX12_isOwnHere 143 rfl) (by decide) (fun cd158 => ?_) (fun cd158 => ?_)
                                                        · skip
                                                          refine r_iconst C (oDec_at oX12_isOwnHere 154 rfl) (v := k1) (by rw [qk1]; rfl) ?_
                                                          refine r_goto C (tgt := 331) (oDec_at oX12_isOwnHere 155 rfl) (by decide) ?_
                                                          refine r_istore_n C (lv' := [(0, .ref (oad E 71)), (1, .int k1)]) [1, 0] (oDec_at oX12_isOwnHere 157 rfl) rfl (by decide) rfl ?_
                                                          refine r_iload_n C (j := 1) (oDec_at oX12_isOwnHere 158 rfl) rfl rfl ?_
                                                          exact r_zret C (n_bool (by omega)) (oDec_at oX12_isOwnHere 159 rfl) ⟨_, rfl, ⟨by omega, by omega⟩⟩
                                                        · omega
                                        · skip
                                          refine r_iconst C (oDec_at oX12_isOwnHere 102 rfl) (v := k1) (by rw [qk1]; rfl) ?_
                                          refine r_goto C (tgt := 223) (oDec_at oX12_isOwnHere 103 rfl) (by decide) ?_
                                          refine r_istore_n C (lv' := [(0, .ref (oad E 71)), (1, .int k1)]) [1, 0] (oDec_at oX12_isOwnHere 105 rfl) rfl (by decide) rfl ?_
                                          refine r_iload_n C (j := 1) (oDec_at oX12_isOwnHere 106 rfl) rfl rfl ?_
                                          refine r_if_ne C 294 (oDec_at oX12_isOwnHere 107 rfl) (by decide) (fun cd159 => ?_) (fun cd159 => ?_)
                                          · skip
                                            refine r_iconst C (oDec_at oX12_isOwnHere 138 rfl) (v := k1) (by rw [qk1]; rfl) ?_
                                            refine r_goto C (tgt := 299) (oDec_at oX12_isOwnHere 139 rfl) (by decide) ?_
                                            refine r_istore_n C (lv' := [(0, .ref (oad E 71)), (1, .int k1)]) [1, 0] (oDec_at oX12_isOwnHere 141 rfl) rfl (by decide) rfl ?_
                                            refine r_iload_n C (j := 1) (oDec_at oX12_isOwnHere 142 rfl) rfl rfl ?_
                                            refine r_if_ne C 326 (oDec_at oX12_isOwnHere 143 rfl) (by decide) (fun cd160 => ?_) (fun cd160 => ?_)
                                            · skip
                                              refine r_iconst C (oDec_at oX12_isOwnHere 154 rfl) (v := k1) (by rw [qk1]; rfl) ?_
                                              refine r_goto C (tgt := 331) (oDec_at oX12_isOwnHere 155 rfl) (by decide) ?_
                                              refine r_istore_n C (lv' := [(0, .ref (oad E 71)), (1, .int k1)]) [1, 0] (oDec_at oX12_isOwnHere 157 rfl) rfl (by decide) rfl ?_
                                              refine r_iload_n C (j := 1) (oDec_at oX12_isOwnHere 158 rfl) rfl rfl ?_
                                              exact r_zret C (n_bool (by omega)) (oDec_at oX12_isOwnHere 159 rfl) ⟨_, rfl, ⟨by omega, by omega⟩⟩
                                            · omega
                                          · omega
                          · skip
                            refine r_iconst C (oDec_at oX12_isOwnHere 66 rfl) (v := k1) (by rw [qk1]; rfl) ?_
                            refine r_goto C (tgt := 147) (oDec_at oX12_isOwnHere 67 rfl) (by decide) ?_
                            refine r_istore_n C (lv' := [(0, .ref (oad E 71)), (1, .int k1)]) [1, 0] (oDec_at oX12_isOwnHere 69 rfl) rfl (by decide) rfl ?_
                            refine r_iload_n C (j := 1) (oDec_at oX12_isOwnHere 70 rfl) rfl rfl ?_
                            refine r_if_ne C 218 (oDec_at oX12_isOwnHere 71 rfl) (by decide) (fun cd161 => ?_) (fun cd161 => ?_)
                            · skip
                              refine r_iconst C (oDec_at oX12_isOwnHere 102 rfl) (v := k1) (by rw [qk1]; rfl) ?_
                              refine r_goto C (tgt := 223) (oDec_at oX12_isOwnHere 103 rfl) (by decide) ?_
                              refine r_istore_n C (lv' := [(0, .ref (oad E 71)), (1, .int k1)]) [1, 0] (oDec_at oX12_isOwnHere 105 rfl) rfl (by decide) rfl ?_
                              refine r_iload_n C (j := 1) (oDec_at oX12_isOwnHere 106 rfl) rfl rfl ?_
                              refine r_if_ne C 294 (oDec_at oX12_isOwnHere 107 rfl) (by decide) (fun cd162 => ?_) (fun cd162 => ?_)
                              · skip
                                refine r_iconst C (oDec_at oX12_isOwnHere 138 rfl) (v := k1) (by rw [qk1]; rfl) ?_
                                refine r_goto C (tgt := 299) (oDec_at oX12_isOwnHere 139 rfl) (by decide) ?_
                                refine r_istore_n C (lv' := [(0, .ref (oad E 71)), (1, .int k1)]) [1, 0] (oDec_at oX12_isOwnHere 141 rfl) rfl (by decide) rfl ?_
                                refine r_iload_n C (j := 1) (oDec_at oX12_isOwnHere 142 rfl) rfl rfl ?_
                                refine r_if_ne C 326 (oDec_at oX12_isOwnHere 143 rfl) (by decide) (fun cd163 => ?_) (fun cd163 => ?_)
                                · skip
                                  refine r_iconst C (oDec_at oX12_isOwnHere 154 rfl) (v := k1) (by rw [qk1]; rfl) ?_
                                  refine r_goto C (tgt := 331) (oDec_at oX12_isOwnHere 155 rfl) (by decide) ?_
                                  refine r_istore_n C (lv' := [(0, .ref (oad E 71)), (1, .int k1)]) [1, 0] (oDec_at oX12_isOwnHere 157 rfl) rfl (by decide) rfl ?_
                                  refine r_iload_n C (j := 1) (oDec_at oX12_isOwnHere 158 rfl) rfl rfl ?_
                                  exact r_zret C (n_bool (by omega)) (oDec_at oX12_isOwnHere 159 rfl) ⟨_, rfl, ⟨by omega, by omega⟩⟩
                                · omega
                              · omega
                            · omega
            · skip
              refine r_iconst C (oDec_at oX12_isOwnHere 30 rfl) (v := k1) (by rw [qk1]; rfl) ?_
              refine r_goto C (tgt := 71) (oDec_at oX12_isOwnHere 31 rfl) (by decide) ?_
              refine r_istore_n C (lv' := [(0, .ref (oad E 71)), (1, .int k1)]) [1, 0] (oDec_at oX12_isOwnHere 33 rfl) rfl (by decide) rfl ?_
              refine r_iload_n C (j := 1) (oDec_at oX12_isOwnHere 34 rfl) rfl rfl ?_
              refine r_if_ne C 142 (oDec_at oX12_isOwnHere 35 rfl) (by decide) (fun cd164 => ?_) (fun cd164 => ?_)
              · skip
                refine r_iconst C (oDec_at oX12_isOwnHere 66 rfl) (v := k1) (by rw [qk1]; rfl) ?_
                refine r_goto C (tgt := 147) (oDec_at oX12_isOwnHere 67 rfl) (by decide) ?_
                refine r_istore_n C (lv' := [(0, .ref (oad E 71)), (1, .int k1)]) [1, 0] (oDec_at oX12_isOwnHere 69 rfl) rfl (by decide) rfl ?_
                refine r_iload_n C (j := 1) (oDec_at oX12_isOwnHere 70 rfl) rfl rfl ?_
                refine r_if_ne C 218 (oDec_at oX12_isOwnHere 71 rfl) (by decide) (fun cd165 => ?_) (fun cd165 => ?_)
                · skip
                  refine r_iconst C (oDec_at oX12_isOwnHere 102 rfl) (v := k1) (by rw [qk1]; rfl) ?_
                  refine r_goto C (tgt := 223) (oDec_at oX12_isOwnHere 103 rfl) (by decide) ?_
                  refine r_istore_n C (lv' := [(0, .ref (oad E 71)), (1, .int k1)]) [1, 0] (oDec_at oX12_isOwnHere 105 rfl) rfl (by decide) rfl ?_
                  refine r_iload_n C (j := 1) (oDec_at oX12_isOwnHere 106 rfl) rfl rfl ?_
                  refine r_if_ne C 294 (oDec_at oX12_isOwnHere 107 rfl) (by decide) (fun cd166 => ?_) (fun cd166 => ?_)
                  · skip
                    refine r_iconst C (oDec_at oX12_isOwnHere 138 rfl) (v := k1) (by rw [qk1]; rfl) ?_
                    refine r_goto C (tgt := 299) (oDec_at oX12_isOwnHere 139 rfl) (by decide) ?_
                    refine r_istore_n C (lv' := [(0, .ref (oad E 71)), (1, .int k1)]) [1, 0] (oDec_at oX12_isOwnHere 141 rfl) rfl (by decide) rfl ?_
                    refine r_iload_n C (j := 1) (oDec_at oX12_isOwnHere 142 rfl) rfl rfl ?_
                    refine r_if_ne C 326 (oDec_at oX12_isOwnHere 143 rfl) (by decide) (fun cd167 => ?_) (fun cd167 => ?_)
                    · skip
                      refine r_iconst C (oDec_at oX12_isOwnHere 154 rfl) (v := k1) (by rw [qk1]; rfl) ?_
                      refine r_goto C (tgt := 331) (oDec_at oX12_isOwnHere 155 rfl) (by decide) ?_
                      refine r_istore_n C (lv' := [(0, .ref (oad E 71)), (1, .int k1)]) [1, 0] (oDec_at oX12_isOwnHere 157 rfl) rfl (by decide) rfl ?_
                      refine r_iload_n C (j := 1) (oDec_at oX12_isOwnHere 158 rfl) rfl rfl ?_
                      exact r_zret C (n_bool (by omega)) (oDec_at oX12_isOwnHere 159 rfl) ⟨_, rfl, ⟨by omega, by omega⟩⟩
                    · omega
                  · omega
                · omega
              · omega
set_option maxHeartbeats 4000000 in
set_option maxRecDepth 100000 in
theorem ct_X12_name (l : Launch) (E : oE) (s : oS)   : oMet l 4 yX12_name cX12_name 3 (some .long) [(12, 2), (12, 4), (12, 5), (12, 6), (12, 36)] E s [.ref (oad E 71)] (oPl (fun r u => ((s.1 71 2).toInt ≤ (u.1 71 2).toInt) ∧ ((u.1 71 5).toInt = 0 → (s.1 71 5).toInt = 0) ∧ ((s.1 71 5).toInt ≠ 0 → (u.1 71 5).toInt = (s.1 71 5).toInt))) := by
  refine oMet.of (lv := [(0, .ref (oad E 71))]) (by decide +kernel) (Nat.le_of_ble_eq_true rfl) rfl (fun J C hT => ?_)
  have C : oC l 4 cX12_name RX12 3 (some .long) [(12, 2), (12, 4), (12, 5), (12, 6), (12, 36)] E s (oPl (fun r u => ((s.1 71 2).toInt ≤ (u.1 71 2).toInt) ∧ ((u.1 71 5).toInt = 0 → (s.1 71 5).toInt = 0) ∧ ((s.1 71 5).toInt ≠ 0 → (u.1 71 5).toInt = (s.1 71 5).toInt))) J := C
  obtain ⟨k1, qk1⟩ : ∃ z : Int32, z = 1 := ⟨_, rfl⟩
  have ek1 : k1.toInt = 1 := by rw [qk1]; rfl
  obtain ⟨k6, qk6⟩ : ∃ z : Int32, z = 6 := ⟨_, rfl⟩
  have ek6 : k6.toInt = 6 := by rw [qk6]; rfl
  obtain ⟨j0, qj0⟩ : ∃ z : Int64, z = 0 := ⟨_, rfl⟩
  have ej0 : j0.toInt = 0 := by rw [qj0]; rfl
  obtain ⟨j1, qj1⟩ : ∃ z : Int64, z = 1 := ⟨_, rfl⟩
  have ej1 : j1.toInt = 1 := by rw [qj1]; rfl
  obtain ⟨j27, qj27⟩ : ∃ z : Int64, z = 27 := ⟨_, rfl⟩
  have ej27 : j27.toInt = 27 := by rw [qj27]; rfl
  obtain ⟨j97, qj97⟩ : ∃ z : Int64, z = 97 := ⟨_, rfl⟩
  have ej97 : j97.toInt = 97 := by rw [qj97]; rfl
  have key : ∀ n : Nat, (∀ (t : oS) (x1 : Int64), ((s.1 71 2).toInt ≤ (t.1 71 2).toInt) → ((t.1 71 36).toInt ≤ (t.1 71 2).toInt ∧ 0 ≤ (t.1 71 36).toInt) → ((s.1 71 5).toInt = 0 ∧ (t.1 71 5).toInt = 0) → 1601 - (t.1 71 2).toInt ≤ (n : Int) → J t 58 [(0, .ref (oad E 71)), (1, .long x1)] []) := by
    intro n
    induction n using Nat.strongRecOn with
    | _ n ih =>
      skip
      · intro t x1  iv0 iv1 iv2 hmu
        refine r_aload_n C (j := 0) (oDec_at oX12_name 30 rfl) rfl rfl ?_
        obtain ⟨v1, ev1⟩ : ∃ z : Int32, (t).1 71 2 = z := ⟨_, rfl⟩
        have gv1 : (t.1 71 2).toInt = v1.toInt := congrArg Int32.toInt (ev1)
        refine r_geti (k := 2) (lo := 0) (hi := 1600) C v1 oCl12 rfl (by decide) flX12_179 rfl rfl (ev1) rfl rfl (oDec_at oX12_name 31 rfl) (fun b2 b2h => ?_)
        refine r_aload_n C (j := 0) (oDec_at oX12_name 32 rfl) rfl rfl ?_
        obtain ⟨v3, ev3⟩ : ∃ z : Int32, (t).1 71 3 = z := ⟨_, rfl⟩
        have gv3 : (t.1 71 3).toInt = v3.toInt := congrArg Int32.toInt (ev3)
        refine r_geti (k := 3) (lo := 0) (hi := 1600) C v3 oCl12 rfl (by decide) flX12_182 rfl rfl (ev3) rfl rfl (oDec_at oX12_name 33 rfl) (fun b4 b4h => ?_)
        refine r_icmp_ge C 145 (oDec_at oX12_name 34 rfl) (by decide) (fun cd5 => ?_) (fun cd5 => ?_)
        · skip
          refine r_aload_n C (j := 0) (oDec_at oX12_name 78 rfl) rfl rfl ?_
          refine r_aload_n C (j := 0) (oDec_at oX12_name 79 rfl) rfl rfl ?_
          refine r_geti (k := 2) (lo := 0) (hi := 1600) C v1 oCl12 rfl (by decide) flX12_179 rfl rfl (ev1) rfl rfl (oDec_at oX12_name 80 rfl) (fun _ _ => ?_)
          refine r_puti (k := 4) (lo := (-1)) (hi := 1600) C oCl12 rfl (by decide) flX12_193 rfl rfl rfl rfl rfl rfl rfl rfl ⟨by omega, by omega⟩ (oDec_at oX12_name 81 rfl) ?_
          refine r_lload_n C (j := 1) (oDec_at oX12_name 82 rfl) rfl rfl ?_
          have lk6 : (((pI t 71 4 v1)).1 71 2).toInt = v1.toInt := congrArg Int32.toInt (((pI_ne (a := 71) (b := 2) (c := 71) (k := 4) _ _ (Or.inr (by decide)))).trans (ev1))
          have lk7 : (((pI t 71 4 v1)).1 71 5).toInt = (t.1 71 5).toInt := congrArg Int32.toInt ((pI_ne (a := 71) (b := 5) (c := 71) (k := 4) _ _ (Or.inr (by decide))))
          have lk8 : (((pI t 71 4 v1)).1 71 5).toInt = (t.1 71 5).toInt := congrArg Int32.toInt ((pI_ne (a := 71) (b := 5) (c := 71) (k := 4) _ _ (Or.inr (by decide))))
          exact r_lret C (oDec_at oX12_name 83 rfl) ⟨_, rfl, by omega, by omega, by omega⟩
        · skip
          refine r_aload_n C (j := 0) (oDec_at oX12_name 35 rfl) rfl rfl ?_
          refine r_getF (k := 0) (b := 72) C oCl12 rfl (by decide) flX12_7 rfl rfl rfl (oDec_at oX12_name 36 rfl) ?_
          refine r_aload_n C (j := 0) (oDec_at oX12_name 37 rfl) rfl rfl ?_
          refine r_geti (k := 2) (lo := 0) (hi := 1600) C v1 oCl12 rfl (by decide) flX12_179 rfl rfl (ev1) rfl rfl (oDec_at oX12_name 38 rfl) (fun _ _ => ?_)
          obtain ⟨v10, ev10⟩ : ∃ z : Int32, (t).1 72 v1.toNatClampNeg = z := ⟨_, rfl⟩
          have gv10 : (t.1 72 v1.toNatClampNeg).toInt = v10.toInt := congrArg Int32.toInt (ev10)
          refine r_iald (n := 1600) (lo := 0) (hi := 255) C v10 rfl (by decide) rfl rfl ⟨by omega, by omega⟩ (by decide) ev10 rfl rfl (oDec_at oX12_name 39 rfl) (fun b9 b9h => ?_)
          have la11 : ((t).1 72 ((t).1 71 2).toNatClampNeg).toInt = v10.toInt := by rw [ev1, ev10]
          refine r_callSi C miX12_isLetter mlX12_189 (ct_X12_isLetter l E (t) v10 ) (by decide) rfl rfl rfl (Nat.le_of_ble_eq_true rfl) (oDec_at oX12_name 40 rfl) (fun r13 u12 pu12 fu12 => ?_)
          try dsimp only at pu12
          obtain ⟨pu12_0, pu12_1⟩ := pu12
          have hxu12 := oFr_nil fu12; subst hxu12
          have rr13 := n_rng r13
          refine r_pc C 81 rfl ?_
          refine r_if_eq C 145 (oDec_at oX12_name 41 rfl) (by decide) (fun cd14 => ?_) (fun cd14 => ?_)
          · skip
            refine r_aload_n C (j := 0) (oDec_at oX12_name 78 rfl) rfl rfl ?_
            refine r_aload_n C (j := 0) (oDec_at oX12_name 79 rfl) rfl rfl ?_
            refine r_geti (k := 2) (lo := 0) (hi := 1600) C v1 oCl12 rfl (by decide) flX12_179 rfl rfl (ev1) rfl rfl (oDec_at oX12_name 80 rfl) (fun _ _ => ?_)
            refine r_puti (k := 4) (lo := (-1)) (hi := 1600) C oCl12 rfl (by decide) flX12_193 rfl rfl rfl rfl rfl rfl rfl rfl ⟨by omega, by omega⟩ (oDec_at oX12_name 81 rfl) ?_
            refine r_lload_n C (j := 1) (oDec_at oX12_name 82 rfl) rfl rfl ?_
            have lk15 : (((pI t 71 4 v1)).1 71 2).toInt = v1.toInt := congrArg Int32.toInt (((pI_ne (a := 71) (b := 2) (c := 71) (k := 4) _ _ (Or.inr (by decide)))).trans (ev1))
            have lk16 : (((pI t 71 4 v1)).1 71 5).toInt = (t.1 71 5).toInt := congrArg Int32.toInt ((pI_ne (a := 71) (b := 5) (c := 71) (k := 4) _ _ (Or.inr (by decide))))
            have lk17 : (((pI t 71 4 v1)).1 71 5).toInt = (t.1 71 5).toInt := congrArg Int32.toInt ((pI_ne (a := 71) (b := 5) (c := 71) (k := 4) _ _ (Or.inr (by decide))))
            exact r_lret C (oDec_at oX12_name 83 rfl) ⟨_, rfl, by omega, by omega, by omega⟩
          · skip
            refine r_aload_n C (j := 0) (oDec_at oX12_name 42 rfl) rfl rfl ?_
            refine r_geti (k := 2) (lo := 0) (hi := 1600) C v1 oCl12 rfl (by decide) flX12_179 rfl rfl (ev1) rfl rfl (oDec_at oX12_name 43 rfl) (fun _ _ => ?_)
            refine r_aload_n C (j := 0) (oDec_at oX12_name 44 rfl) rfl rfl ?_
            obtain ⟨v18, ev18⟩ : ∃ z : Int32, (t).1 71 36 = z := ⟨_, rfl⟩
            have gv18 : (t.1 71 36).toInt = v18.toInt := congrArg Int32.toInt (ev18)
            have rv18 := n_rng v18
            refine r_geti (k := 36) (lo := (-2147483648)) (hi := 2147483647) C v18 oCl12 rfl (by decide) flX12_224 rfl rfl (ev18) rfl rfl (oDec_at oX12_name 45 rfl) (fun _ _ => ?_)
            obtain ⟨v19, ev19⟩ : ∃ z : Int32, z = v1 - v18 := ⟨_, rfl⟩
            have hv19 : v19.toInt = v1.toInt - v18.toInt := n_sub ev19 (by omega) (by omega)
            refine r_isub C v19 (oDec_at oX12_name 46 rfl) ev19 ?_
            refine r_bipush C (oDec_at oX12_name 47 rfl) (v := k6) (by rw [qk6]; rfl) ?_
            refine r_pc C 95 rfl ?_
            refine r_icmp_ne C 109 (oDec_at oX12_name 48 rfl) (by decide) (fun cd20 => ?_) (fun cd20 => ?_)
            · skip
              refine r_ldc2 C (v := j27) (by rw [qj27]; exact klX12_227) (oDec_at oX12_name 56 rfl) ?_
              refine r_lload_n C (j := 1) (oDec_at oX12_name 57 rfl) rfl rfl ?_
              obtain ⟨v21, ev21⟩ : ∃ z : Int64, z = j27 * x1 := ⟨_, rfl⟩
              refine r_lmul C v21 (oDec_at oX12_name 58 rfl) ev21 ?_
              refine r_aload_n C (j := 0) (oDec_at oX12_name 59 rfl) rfl rfl ?_
              refine r_getF (k := 0) (b := 72) C oCl12 rfl (by decide) flX12_7 rfl rfl rfl (oDec_at oX12_name 60 rfl) ?_
              refine r_aload_n C (j := 0) (oDec_at oX12_name 61 rfl) rfl rfl ?_
              refine r_pc C 119 rfl ?_
              refine r_geti (k := 2) (lo := 0) (hi := 1600) C v1 oCl12 rfl (by decide) flX12_179 rfl rfl (ev1) rfl rfl (oDec_at oX12_name 62 rfl) (fun _ _ => ?_)
              refine r_iald (n := 1600) (lo := 0) (hi := 255) C v10 rfl (by decide) rfl rfl ⟨by omega, by omega⟩ (by decide) (ev10) rfl rfl (oDec_at oX12_name 63 rfl) (fun b22 b22h => ?_)
              have la23 : ((t).1 72 ((t).1 71 2).toNatClampNeg).toInt = v10.toInt := by rw [ev1, (ev10)]
              obtain ⟨v24, ev24⟩ : ∃ z : Int64, v10.toInt64 = z := ⟨_, rfl⟩
              have hv24 : v24.toInt = v10.toInt := n_i2l ev24
              refine r_i2l C v24 (oDec_at oX12_name 64 rfl) ev24 ?_
              obtain ⟨v25, ev25⟩ : ∃ z : Int64, z = v21 + v24 := ⟨_, rfl⟩
              refine r_ladd C v25 (oDec_at oX12_name 65 rfl) ev25 ?_
              refine r_ldc2 C (v := j97) (by rw [qj97]; exact klX12_229) (oDec_at oX12_name 66 rfl) ?_
              obtain ⟨v26, ev26⟩ : ∃ z : Int64, z = v25 - j97 := ⟨_, rfl⟩
              refine r_lsub C v26 (oDec_at oX12_name 67 rfl) ev26 ?_
              refine r_pc C 129 rfl ?_
              refine r_lconst C (oDec_at oX12_name 68 rfl) (v := j1) (by rw [qj1]; rfl) ?_
              obtain ⟨v27, ev27⟩ : ∃ z : Int64, z = v26 + j1 := ⟨_, rfl⟩
              refine r_ladd C v27 (oDec_at oX12_name 69 rfl) ev27 ?_
              refine r_lstore_n C (lv' := [(0, .ref (oad E 71)), (1, .long v27)]) [1, 0] (oDec_at oX12_name 70 rfl) rfl (by decide) rfl ?_
              refine r_aload_n C (j := 0) (oDec_at oX12_name 71 rfl) rfl rfl ?_
              refine r_dup C (oDec_at oX12_name 72 rfl) rfl ?_
              refine r_geti (k := 2) (lo := 0) (hi := 1600) C v1 oCl12 rfl (by decide) flX12_179 rfl rfl (ev1) rfl rfl (oDec_at oX12_name 73 rfl) (fun _ _ => ?_)
              refine r_pc C 137 rfl ?_
              refine r_iconst C (oDec_at oX12_name 74 rfl) (v := k1) (by rw [qk1]; rfl) ?_
              obtain ⟨v28, ev28⟩ : ∃ z : Int32, z = v1 + k1 := ⟨_, rfl⟩
              have hv28 : v28.toInt = v1.toInt + k1.toInt := n_add ev28 (by omega) (by omega)
              refine r_iadd C v28 (oDec_at oX12_name 75 rfl) ev28 ?_
              refine r_puti (k := 2) (lo := 0) (hi := 1600) C oCl12 rfl (by decide) flX12_179 rfl rfl rfl rfl rfl rfl rfl rfl ⟨by omega, by omega⟩ (oDec_at oX12_name 76 rfl) ?_
              refine r_goto C (tgt := 58) (oDec_at oX12_name 77 rfl) (by decide) ?_
              have lk29 : (((pI t 71 2 v28)).1 71 2).toInt = v28.toInt := congrArg Int32.toInt ((pI_self _ _ _ _))
              have lk30 : (((pI t 71 2 v28)).1 71 36).toInt = v18.toInt := congrArg Int32.toInt (((pI_ne (a := 71) (b := 36) (c := 71) (k := 2) _ _ (Or.inr (by decide)))).trans (ev18))
              have lk31 : (((pI t 71 2 v28)).1 71 2).toInt = v28.toInt := congrArg Int32.toInt ((pI_self _ _ _ _))
              have lk32 : (((pI t 71 2 v28)).1 71 5).toInt = (t.1 71 5).toInt := congrArg Int32.toInt ((pI_ne (a := 71) (b := 5) (c := 71) (k := 2) _ _ (Or.inr (by decide))))
              have lk33 : (((pI t 71 2 v28)).1 71 2).toInt = v28.toInt := congrArg Int32.toInt ((pI_self _ _ _ _))
              exact (ih (n - 1) (by omega)) ((pI t 71 2 v28)) v27  (by omega) (by omega) (by omega) (by omega)
            · skip
              refine r_aload_n C (j := 0) (oDec_at oX12_name 49 rfl) rfl rfl ?_
              refine r_iconst C (oDec_at oX12_name 50 rfl) (v := k1) (by rw [qk1]; rfl) ?_
              refine r_aload_n C (j := 0) (oDec_at oX12_name 51 rfl) rfl rfl ?_
              refine r_geti (k := 2) (lo := 0) (hi := 1600) C v1 oCl12 rfl (by decide) flX12_179 rfl rfl (ev1) rfl rfl (oDec_at oX12_name 52 rfl) (fun _ _ => ?_)
              refine r_callVv C oCl12 rfl miX12_fail mlX12_203 (ct_X12_fail l E (t) k1 v1 ) (by decide) rfl rfl rfl (Nat.le_of_ble_eq_true rfl) (oDec_at oX12_name 53 rfl) (fun u34 pu34 fu34 => ?_)
              try dsimp only at pu34
              obtain ⟨pu34_0, pu34_1⟩ := pu34
              refine r_lconst C (oDec_at oX12_name 54 rfl) (v := j0) (by rw [qj0]; rfl) ?_
              refine r_pc C 108 rfl ?_
              have lk36 : ((u34).1 71 2).toInt = v1.toInt := congrArg Int32.toInt (((fu34 71 2 rfl).1).trans (ev1))
              exact r_lret C (oDec_at oX12_name 55 rfl) ⟨_, rfl, by omega, by omega, by omega⟩
  refine r_aload_n C (j := 0) (oDec_at oX12_name 0 rfl) rfl rfl ?_
  obtain ⟨v37, ev37⟩ : ∃ z : Int32, (s).1 71 5 = z := ⟨_, rfl⟩
  have gv37 : (s.1 71 5).toInt = v37.toInt := congrArg Int32.toInt (ev37)
  have rv37 := n_rng v37
  refine r_geti (k := 5) (lo := (-2147483648)) (hi := 2147483647) C v37 oCl12 rfl (by decide) flX12_173 rfl rfl (ev37) rfl rfl (oDec_at oX12_name 1 rfl) (fun _ _ => ?_)
  refine r_if_eq C 9 (oDec_at oX12_name 2 rfl) (by decide) (fun cd38 => ?_) (fun cd38 => ?_)
  · skip
    refine r_aload_n C (j := 0) (oDec_at oX12_name 5 rfl) rfl rfl ?_
    refine r_callVi C oCl12 rfl miX12_look mlX12_185 (ct_X12_look l E (s)  ) (by decide) rfl rfl rfl (Nat.le_of_ble_eq_true rfl) (oDec_at oX12_name 6 rfl) (fun r40 u39 pu39 fu39 => ?_)
    try dsimp only at pu39
    obtain ⟨pu39_0, pu39_1⟩ := pu39
    obtain ⟨v41, ev41⟩ : ∃ z : Int32, (u39).1 71 2 = z := ⟨_, rfl⟩
    have gv41 : (u39.1 71 2).toInt = v41.toInt := congrArg Int32.toInt ev41
    have lt42 : ((u39).1 72 ((u39).1 71 2).toNatClampNeg).toInt = (s.1 72 v41.toNatClampNeg).toInt := by rw [ev41, show (u39).1 72 v41.toNatClampNeg = s.1 72 v41.toNatClampNeg from (fu39 72 v41.toNatClampNeg rfl).1]
    have lu43 : ((u39).1 71 2).toInt = v41.toInt := congrArg Int32.toInt (ev41)
    have lu44 : ((u39).1 71 2).toInt = v41.toInt := congrArg Int32.toInt (ev41)
    have lu45 : ((u39).1 71 3).toInt = (s.1 71 3).toInt := congrArg Int32.toInt ((fu39 71 3 rfl).1)
    have rr40 := n_rng r40
    refine r_callSi C miX12_isLetter mlX12_189 (ct_X12_isLetter l E (u39) r40 ) (by decide) rfl rfl rfl (Nat.le_of_ble_eq_true rfl) (oDec_at oX12_name 7 rfl) (fun r47 u46 pu46 fu46 => ?_)
    try dsimp only at pu46
    obtain ⟨pu46_0, pu46_1⟩ := pu46
    have hxu46 := oFr_nil fu46; subst hxu46
    have rr47 := n_rng r47
    refine r_if_eq C 37 (oDec_at oX12_name 8 rfl) (by decide) (fun cd48 => ?_) (fun cd48 => ?_)
    · skip
      refine r_aload_n C (j := 0) (oDec_at oX12_name 17 rfl) rfl rfl ?_
      refine r_iconst C (oDec_at oX12_name 18 rfl) (v := k1) (by rw [qk1]; rfl) ?_
      refine r_aload_n C (j := 0) (oDec_at oX12_name 19 rfl) rfl rfl ?_
      refine r_geti (k := 2) (lo := 0) (hi := 1600) C v41 oCl12 rfl (by decide) flX12_179 rfl rfl (ev41) rfl rfl (oDec_at oX12_name 20 rfl) (fun b49 b49h => ?_)
      have lk50 : ((u39).1 71 5).toInt = v37.toInt := congrArg Int32.toInt (((fu39 71 5 rfl).1).trans (ev37))
      have lk51 : ((u39).1 71 5).toInt = v37.toInt := congrArg Int32.toInt (((fu39 71 5 rfl).1).trans (ev37))
      refine r_callVv C oCl12 rfl miX12_fail mlX12_203 (ct_X12_fail l E (u39) k1 v41 ) (by decide) rfl rfl rfl (Nat.le_of_ble_eq_true rfl) (oDec_at oX12_name 21 rfl) (fun u52 pu52 fu52 => ?_)
      try dsimp only at pu52
      try simp only [lk50, lk51] at pu52
      obtain ⟨pu52_0, pu52_1⟩ := pu52
      refine r_lconst C (oDec_at oX12_name 22 rfl) (v := j0) (by rw [qj0]; rfl) ?_
      refine r_pc C 47 rfl ?_
      have lk54 : ((u52).1 71 2).toInt = v41.toInt := congrArg Int32.toInt (((fu52 71 2 rfl).1).trans (ev41))
      exact r_lret C (oDec_at oX12_name 23 rfl) ⟨_, rfl, by omega, by omega, by omega⟩
    · skip
      refine r_aload_n C (j := 0) (oDec_at oX12_name 9 rfl) rfl rfl ?_
      refine r_geti (k := 2) (lo := 0) (hi := 1600) C v41 oCl12 rfl (by decide) flX12_179 rfl rfl (ev41) rfl rfl (oDec_at oX12_name 10 rfl) (fun b55 b55h => ?_)
      refine r_aload_n C (j := 0) (oDec_at oX12_name 11 rfl) rfl rfl ?_
      obtain ⟨v56, ev56⟩ : ∃ z : Int32, (u39).1 71 4 = z := ⟨_, rfl⟩
      have gv56 : (s.1 71 4).toInt = v56.toInt := congrArg Int32.toInt (((fu39 71 4 rfl).1).symm.trans ev56)
      refine r_geti (k := 4) (lo := (-1)) (hi := 1600) C v56 oCl12 rfl (by decide) flX12_193 rfl rfl (ev56) rfl rfl (oDec_at oX12_name 12 rfl) (fun b57 b57h => ?_)
      refine r_icmp_eq C 37 (oDec_at oX12_name 13 rfl) (by decide) (fun cd58 => ?_) (fun cd58 => ?_)
      · skip
        refine r_aload_n C (j := 0) (oDec_at oX12_name 17 rfl) rfl rfl ?_
        refine r_iconst C (oDec_at oX12_name 18 rfl) (v := k1) (by rw [qk1]; rfl) ?_
        refine r_aload_n C (j := 0) (oDec_at oX12_name 19 rfl) rfl rfl ?_
        refine r_geti (k := 2) (lo := 0) (hi := 1600) C v41 oCl12 rfl (by decide) flX12_179 rfl rfl (ev41) rfl rfl (oDec_at oX12_name 20 rfl) (fun b59 b59h => ?_)
        have lk60 : ((u39).1 71 5).toInt = v37.toInt := congrArg Int32.toInt (((fu39 71 5 rfl).1).trans (ev37))
        have lk61 : ((u39).1 71 5).toInt = v37.toInt := congrArg Int32.toInt (((fu39 71 5 rfl).1).trans (ev37))
        refine r_callVv C oCl12 rfl miX12_fail mlX12_203 (ct_X12_fail l E (u39) k1 v41 ) (by decide) rfl rfl rfl (Nat.le_of_ble_eq_true rfl) (oDec_at oX12_name 21 rfl) (fun u62 pu62 fu62 => ?_)
        try dsimp only at pu62
        try simp only [lk60, lk61] at pu62
        obtain ⟨pu62_0, pu62_1⟩ := pu62
        refine r_lconst C (oDec_at oX12_name 22 rfl) (v := j0) (by rw [qj0]; rfl) ?_
        refine r_pc C 47 rfl ?_
        have lk64 : ((u62).1 71 2).toInt = v41.toInt := congrArg Int32.toInt (((fu62 71 2 rfl).1).trans (ev41))
        exact r_lret C (oDec_at oX12_name 23 rfl) ⟨_, rfl, by omega, by omega, by omega⟩
      · skip
        refine r_aload_n C (j := 0) (oDec_at oX12_name 14 rfl) rfl rfl ?_
        have lk65 : ((u39).1 71 2).toInt = v41.toInt := congrArg Int32.toInt (ev41)
        refine r_callVi C oCl12 rfl miX12_isOwnHere mlX12_220 (ct_X12_isOwnHere l E (u39)  ) (by decide) rfl rfl rfl (Nat.le_of_ble_eq_true rfl) (oDec_at oX12_name 15 rfl) (fun r67 u66 pu66 fu66 => ?_)
        try dsimp only at pu66
        try simp only [lk65] at pu66
        obtain ⟨pu66_0, pu66_1⟩ := pu66
        have rr67 := n_rng r67
        refine r_if_eq C 48 (oDec_at oX12_name 16 rfl) (by decide) (fun cd68 => ?_) (fun cd68 => ?_)
        · skip
          refine r_aload_n C (j := 0) (oDec_at oX12_name 24 rfl) rfl rfl ?_
          refine r_aload_n C (j := 0) (oDec_at oX12_name 25 rfl) rfl rfl ?_
          obtain ⟨v69, ev69⟩ : ∃ z : Int32, (u66).1 71 2 = z := ⟨_, rfl⟩
          have gv69 : (u66.1 71 2).toInt = v69.toInt := congrArg Int32.toInt (ev69)
          refine r_geti (k := 2) (lo := 0) (hi := 1600) C v69 oCl12 rfl (by decide) flX12_179 rfl rfl (ev69) rfl rfl (oDec_at oX12_name 26 rfl) (fun b70 b70h => ?_)
          refine r_puti (k := 36) (lo := (-2147483648)) (hi := 2147483647) C oCl12 rfl (by decide) flX12_224 rfl rfl rfl rfl rfl rfl rfl rfl (n_rng _) (oDec_at oX12_name 27 rfl) ?_
          refine r_lconst C (oDec_at oX12_name 28 rfl) (v := j0) (by rw [qj0]; rfl) ?_
          refine r_lstore_n C (lv' := [(0, .ref (oad E 71)), (1, .long j0)]) [1, 0] (oDec_at oX12_name 29 rfl) rfl (by decide) rfl ?_
          have lk71 : (((pI u66 71 36 v69)).1 71 2).toInt = v69.toInt := congrArg Int32.toInt (((pI_ne (a := 71) (b := 2) (c := 71) (k := 36) _ _ (Or.inr (by decide)))).trans (ev69))
          have lk72 : (((pI u66 71 36 v69)).1 71 36).toInt = v69.toInt := congrArg Int32.toInt ((pI_self _ _ _ _))
          have lk73 : (((pI u66 71 36 v69)).1 71 2).toInt = v69.toInt := congrArg Int32.toInt (((pI_ne (a := 71) (b := 2) (c := 71) (k := 36) _ _ (Or.inr (by decide)))).trans (ev69))
          have lk74 : (((pI u66 71 36 v69)).1 71 5).toInt = v37.toInt := congrArg Int32.toInt (((pI_ne (a := 71) (b := 5) (c := 71) (k := 36) _ _ (Or.inr (by decide)))).trans (((fu66 71 5 rfl).1).trans (((fu39 71 5 rfl).1).trans (ev37))))
          have lk75 : (((pI u66 71 36 v69)).1 71 2).toInt = v69.toInt := congrArg Int32.toInt (((pI_ne (a := 71) (b := 2) (c := 71) (k := 36) _ _ (Or.inr (by decide)))).trans (ev69))
          exact (key (1601 - (((pI u66 71 36 v69)).1 71 2).toInt).toNat) ((pI u66 71 36 v69)) j0  (by omega) (by omega) (by omega) (by omega)
        · skip
          refine r_aload_n C (j := 0) (oDec_at oX12_name 17 rfl) rfl rfl ?_
          refine r_iconst C (oDec_at oX12_name 18 rfl) (v := k1) (by rw [qk1]; rfl) ?_
          refine r_aload_n C (j := 0) (oDec_at oX12_name 19 rfl) rfl rfl ?_
          obtain ⟨v76, ev76⟩ : ∃ z : Int32, (u66).1 71 2 = z := ⟨_, rfl⟩
          have gv76 : (u66.1 71 2).toInt = v76.toInt := congrArg Int32.toInt (ev76)
          refine r_geti (k := 2) (lo := 0) (hi := 1600) C v76 oCl12 rfl (by decide) flX12_179 rfl rfl (ev76) rfl rfl (oDec_at oX12_name 20 rfl) (fun b77 b77h => ?_)
          have lk78 : ((u66).1 71 5).toInt = v37.toInt := congrArg Int32.toInt (((fu66 71 5 rfl).1).trans (((fu39 71 5 rfl).1).trans (ev37)))
          have lk79 : ((u66).1 71 5).toInt = v37.toInt := congrArg Int32.toInt (((fu66 71 5 rfl).1).trans (((fu39 71 5 rfl).1).trans (ev37)))
          refine r_callVv C oCl12 rfl miX12_fail mlX12_203 (ct_X12_fail l E (u66) k1 v76 ) (by decide) rfl rfl rfl (Nat.le_of_ble_eq_true rfl) (oDec_at oX12_name 21 rfl) (fun u80 pu80 fu80 => ?_)
          try dsimp only at pu80
          try simp only [lk78, lk79] at pu80
          obtain ⟨pu80_0, pu80_1⟩ := pu80
          refine r_lconst C (oDec_at oX12_name 22 rfl) (v := j0) (by rw [qj0]; rfl) ?_
          refine r_pc C 47 rfl ?_
          have lk82 : ((u80).1 71 2).toInt = v76.toInt := congrArg Int32.toInt (((fu80 71 2 rfl).1).trans (ev76))
          exact r_lret C (oDec_at oX12_name 23 rfl) ⟨_, rfl, by omega, by omega, by omega⟩
  · skip
    refine r_lconst C (oDec_at oX12_name 3 rfl) (v := j0) (by rw [qj0]; rfl) ?_
    have lk83 : ((s).1 71 5).toInt = v37.toInt := congrArg Int32.toInt (ev37)
    have lk84 : ((s).1 71 5).toInt = v37.toInt := congrArg Int32.toInt (ev37)
    exact r_lret C (oDec_at oX12_name 4 rfl) ⟨_, rfl, by omega, by omega, by omega⟩
set_option maxHeartbeats 4000000 in
set_option maxRecDepth 100000 in
theorem ct_X12_begins (l : Launch) (E : oE) (s : oS)   : oMet l 1 yX12_begins cX12_begins 1 none [(12, 1), (12, 2), (12, 3), (12, 4), (12, 5), (12, 6), (12, 37), (12, 45)] E s [.ref (oad E 71)] (oPv (fun u => ((u.1 71 1).toInt = 0) ∧ ((u.1 71 2).toInt = 0) ∧ ((u.1 71 5).toInt = 0) ∧ ((u.1 71 37).toInt = 0) ∧ ((u.1 71 45).toInt = 0))) := by
  refine oMet.of (lv := [(0, .ref (oad E 71))]) (by decide +kernel) (Nat.le_of_ble_eq_true rfl) rfl (fun J C hT => ?_)
  have C : oC l 1 cX12_begins RX12 1 none [(12, 1), (12, 2), (12, 3), (12, 4), (12, 5), (12, 6), (12, 37), (12, 45)] E s (oPv (fun u => ((u.1 71 1).toInt = 0) ∧ ((u.1 71 2).toInt = 0) ∧ ((u.1 71 5).toInt = 0) ∧ ((u.1 71 37).toInt = 0) ∧ ((u.1 71 45).toInt = 0))) J := C
  obtain ⟨km1, qkm1⟩ : ∃ z : Int32, z = (-1) := ⟨_, rfl⟩
  have ekm1 : km1.toInt = (-1) := by rw [qkm1]; rfl
  obtain ⟨k0, qk0⟩ : ∃ z : Int32, z = 0 := ⟨_, rfl⟩
  have ek0 : k0.toInt = 0 := by rw [qk0]; rfl
  refine r_aload_n C (j := 0) (oDec_at oX12_begins 0 rfl) rfl rfl ?_
  refine r_aload_n C (j := 0) (oDec_at oX12_begins 1 rfl) rfl rfl ?_
  obtain ⟨v1, ev1⟩ : ∃ z : Int32, (s).1 71 1 = z := ⟨_, rfl⟩
  have gv1 : (s.1 71 1).toInt = v1.toInt := congrArg Int32.toInt (ev1)
  refine r_geti (k := 1) (lo := 0) (hi := 1600) C v1 oCl12 rfl (by decide) flX12_170 rfl rfl (ev1) rfl rfl (oDec_at oX12_begins 2 rfl) (fun b2 b2h => ?_)
  refine r_puti (k := 3) (lo := 0) (hi := 1600) C oCl12 rfl (by decide) flX12_182 rfl rfl rfl rfl rfl rfl rfl rfl ⟨by omega, by omega⟩ (oDec_at oX12_begins 3 rfl) ?_
  refine r_aload_n C (j := 0) (oDec_at oX12_begins 4 rfl) rfl rfl ?_
  refine r_iconst C (oDec_at oX12_begins 5 rfl) (v := k0) (by rw [qk0]; rfl) ?_
  refine r_pc C 10 rfl ?_
  refine r_puti (k := 1) (lo := 0) (hi := 1600) C oCl12 rfl (by decide) flX12_170 rfl rfl rfl rfl rfl rfl rfl rfl ⟨by omega, by omega⟩ (oDec_at oX12_begins 6 rfl) ?_
  refine r_aload_n C (j := 0) (oDec_at oX12_begins 7 rfl) rfl rfl ?_
  refine r_iconst C (oDec_at oX12_begins 8 rfl) (v := k0) (by rw [qk0]; rfl) ?_
  refine r_puti (k := 2) (lo := 0) (hi := 1600) C oCl12 rfl (by decide) flX12_179 rfl rfl rfl rfl rfl rfl rfl rfl ⟨by omega, by omega⟩ (oDec_at oX12_begins 9 rfl) ?_
  refine r_aload_n C (j := 0) (oDec_at oX12_begins 10 rfl) rfl rfl ?_
  refine r_iconst C (oDec_at oX12_begins 11 rfl) (v := km1) (by rw [qkm1]; rfl) ?_
  refine r_pc C 20 rfl ?_
  refine r_puti (k := 4) (lo := (-1)) (hi := 1600) C oCl12 rfl (by decide) flX12_193 rfl rfl rfl rfl rfl rfl rfl rfl ⟨by omega, by omega⟩ (oDec_at oX12_begins 12 rfl) ?_
  refine r_aload_n C (j := 0) (oDec_at oX12_begins 13 rfl) rfl rfl ?_
  refine r_iconst C (oDec_at oX12_begins 14 rfl) (v := k0) (by rw [qk0]; rfl) ?_
  refine r_puti (k := 5) (lo := (-2147483648)) (hi := 2147483647) C oCl12 rfl (by decide) flX12_173 rfl rfl rfl rfl rfl rfl rfl rfl (n_rng _) (oDec_at oX12_begins 15 rfl) ?_
  refine r_aload_n C (j := 0) (oDec_at oX12_begins 16 rfl) rfl rfl ?_
  refine r_iconst C (oDec_at oX12_begins 17 rfl) (v := km1) (by rw [qkm1]; rfl) ?_
  refine r_pc C 30 rfl ?_
  refine r_puti (k := 6) (lo := (-2147483648)) (hi := 2147483647) C oCl12 rfl (by decide) flX12_176 rfl rfl rfl rfl rfl rfl rfl rfl (n_rng _) (oDec_at oX12_begins 18 rfl) ?_
  refine r_aload_n C (j := 0) (oDec_at oX12_begins 19 rfl) rfl rfl ?_
  refine r_iconst C (oDec_at oX12_begins 20 rfl) (v := k0) (by rw [qk0]; rfl) ?_
  refine r_puti (k := 37) (lo := 0) (hi := 60) C oCl12 rfl (by decide) flX12_231 rfl rfl rfl rfl rfl rfl rfl rfl ⟨by omega, by omega⟩ (oDec_at oX12_begins 21 rfl) ?_
  refine r_aload_n C (j := 0) (oDec_at oX12_begins 22 rfl) rfl rfl ?_
  refine r_iconst C (oDec_at oX12_begins 23 rfl) (v := k0) (by rw [qk0]; rfl) ?_
  refine r_pc C 40 rfl ?_
  refine r_puti (k := 45) (lo := 0) (hi := 1600) C oCl12 rfl (by decide) flX12_234 rfl rfl rfl rfl rfl rfl rfl rfl ⟨by omega, by omega⟩ (oDec_at oX12_begins 24 rfl) ?_
  have lk3 : (((pI (pI (pI (pI (pI (pI (pI (pI s 71 3 v1) 71 1 k0) 71 2 k0) 71 4 km1) 71 5 k0) 71 6 km1) 71 37 k0) 71 45 k0)).1 71 1).toInt = k0.toInt := congrArg Int32.toInt (((pI_ne (a := 71) (b := 1) (c := 71) (k := 45) _ _ (Or.inr (by decide)))).trans (((pI_ne (a := 71) (b := 1) (c := 71) (k := 37) _ _ (Or.inr (by decide)))).trans (((pI_ne (a := 71) (b := 1) (c := 71) (k := 6) _ _ (Or.inr (by decide)))).trans (((pI_ne (a := 71) (b := 1) (c := 71) (k := 5) _ _ (Or.inr (by decide)))).trans (((pI_ne (a := 71) (b := 1) (c := 71) (k := 4) _ _ (Or.inr (by decide)))).trans (((pI_ne (a := 71) (b := 1) (c := 71) (k := 2) _ _ (Or.inr (by decide)))).trans ((pI_self _ _ _ _))))))))
  have lk4 : (((pI (pI (pI (pI (pI (pI (pI (pI s 71 3 v1) 71 1 k0) 71 2 k0) 71 4 km1) 71 5 k0) 71 6 km1) 71 37 k0) 71 45 k0)).1 71 2).toInt = k0.toInt := congrArg Int32.toInt (((pI_ne (a := 71) (b := 2) (c := 71) (k := 45) _ _ (Or.inr (by decide)))).trans (((pI_ne (a := 71) (b := 2) (c := 71) (k := 37) _ _ (Or.inr (by decide)))).trans (((pI_ne (a := 71) (b := 2) (c := 71) (k := 6) _ _ (Or.inr (by decide)))).trans (((pI_ne (a := 71) (b := 2) (c := 71) (k := 5) _ _ (Or.inr (by decide)))).trans (((pI_ne (a := 71) (b := 2) (c := 71) (k := 4) _ _ (Or.inr (by decide)))).trans ((pI_self _ _ _ _)))))))
  have lk5 : (((pI (pI (pI (pI (pI (pI (pI (pI s 71 3 v1) 71 1 k0) 71 2 k0) 71 4 km1) 71 5 k0) 71 6 km1) 71 37 k0) 71 45 k0)).1 71 5).toInt = k0.toInt := congrArg Int32.toInt (((pI_ne (a := 71) (b := 5) (c := 71) (k := 45) _ _ (Or.inr (by decide)))).trans (((pI_ne (a := 71) (b := 5) (c := 71) (k := 37) _ _ (Or.inr (by decide)))).trans (((pI_ne (a := 71) (b := 5) (c := 71) (k := 6) _ _ (Or.inr (by decide)))).trans ((pI_self _ _ _ _)))))
  have lk6 : (((pI (pI (pI (pI (pI (pI (pI (pI s 71 3 v1) 71 1 k0) 71 2 k0) 71 4 km1) 71 5 k0) 71 6 km1) 71 37 k0) 71 45 k0)).1 71 37).toInt = k0.toInt := congrArg Int32.toInt (((pI_ne (a := 71) (b := 37) (c := 71) (k := 45) _ _ (Or.inr (by decide)))).trans ((pI_self _ _ _ _)))
  have lk7 : (((pI (pI (pI (pI (pI (pI (pI (pI s 71 3 v1) 71 1 k0) 71 2 k0) 71 4 km1) 71 5 k0) 71 6 km1) 71 37 k0) 71 45 k0)).1 71 45).toInt = k0.toInt := congrArg Int32.toInt ((pI_self _ _ _ _))
  exact r_vret C (oDec_at oX12_begins 25 rfl) ⟨rfl, ⟨by omega, by omega, by omega, by omega, by omega⟩⟩
set_option maxHeartbeats 4000000 in
set_option maxRecDepth 100000 in
theorem ct_X12_isTaken (l : Launch) (E : oE) (s : oS)   : oMet l 1 yX12_isTaken cX12_isTaken 1 (some .boolean) [(12, 7), (12, 8)] E s [.ref (oad E 71)] (oPi (fun r u => (0 ≤ r.toInt ∧ r.toInt ≤ 1) ∧ ((r.toInt = 1 ∧ (u.1 71 5).toInt = 0) ∨ (r.toInt = 0 ∧ (u.1 71 5).toInt ≠ 0)))) := by
  refine oMet.of (lv := [(0, .ref (oad E 71))]) (by decide +kernel) (Nat.le_of_ble_eq_true rfl) rfl (fun J C hT => ?_)
  have C : oC l 1 cX12_isTaken RX12 1 (some .boolean) [(12, 7), (12, 8)] E s (oPi (fun r u => (0 ≤ r.toInt ∧ r.toInt ≤ 1) ∧ ((r.toInt = 1 ∧ (u.1 71 5).toInt = 0) ∨ (r.toInt = 0 ∧ (u.1 71 5).toInt ≠ 0)))) J := C
  obtain ⟨k0, qk0⟩ : ∃ z : Int32, z = 0 := ⟨_, rfl⟩
  have ek0 : k0.toInt = 0 := by rw [qk0]; rfl
  obtain ⟨k1, qk1⟩ : ∃ z : Int32, z = 1 := ⟨_, rfl⟩
  have ek1 : k1.toInt = 1 := by rw [qk1]; rfl
  refine r_aload_n C (j := 0) (oDec_at oX12_isTaken 0 rfl) rfl rfl ?_
  refine r_aload_n C (j := 0) (oDec_at oX12_isTaken 1 rfl) rfl rfl ?_
  obtain ⟨v1, ev1⟩ : ∃ z : Int32, (s).1 71 5 = z := ⟨_, rfl⟩
  have gv1 : (s.1 71 5).toInt = v1.toInt := congrArg Int32.toInt (ev1)
  have rv1 := n_rng v1
  refine r_geti (k := 5) (lo := (-2147483648)) (hi := 2147483647) C v1 oCl12 rfl (by decide) flX12_173 rfl rfl (ev1) rfl rfl (oDec_at oX12_isTaken 2 rfl) (fun _ _ => ?_)
  refine r_puti (k := 7) (lo := (-2147483648)) (hi := 2147483647) C oCl12 rfl (by decide) flX12_237 rfl rfl rfl rfl rfl rfl rfl rfl (n_rng _) (oDec_at oX12_isTaken 3 rfl) ?_
  refine r_aload_n C (j := 0) (oDec_at oX12_isTaken 4 rfl) rfl rfl ?_
  refine r_aload_n C (j := 0) (oDec_at oX12_isTaken 5 rfl) rfl rfl ?_
  refine r_pc C 10 rfl ?_
  obtain ⟨v2, ev2⟩ : ∃ z : Int32, ((pI s 71 7 v1)).1 71 6 = z := ⟨_, rfl⟩
  have gv2 : (s.1 71 6).toInt = v2.toInt := congrArg Int32.toInt (((pI_ne (a := 71) (b := 6) (c := 71) (k := 7) _ _ (Or.inr (by decide)))).symm.trans ev2)
  have rv2 := n_rng v2
  refine r_geti (k := 6) (lo := (-2147483648)) (hi := 2147483647) C v2 oCl12 rfl (by decide) flX12_176 rfl rfl (ev2) rfl rfl (oDec_at oX12_isTaken 6 rfl) (fun _ _ => ?_)
  refine r_puti (k := 8) (lo := (-2147483648)) (hi := 2147483647) C oCl12 rfl (by decide) flX12_13 rfl rfl rfl rfl rfl rfl rfl rfl (n_rng _) (oDec_at oX12_isTaken 7 rfl) ?_
  refine r_aload_n C (j := 0) (oDec_at oX12_isTaken 8 rfl) rfl rfl ?_
  refine r_geti (k := 5) (lo := (-2147483648)) (hi := 2147483647) C v1 oCl12 rfl (by decide) flX12_173 rfl rfl (((pI_ne (a := 71) (b := 5) (c := 71) (k := 8) _ _ (Or.inr (by decide)))).trans (((pI_ne (a := 71) (b := 5) (c := 71) (k := 7) _ _ (Or.inr (by decide)))).trans (ev1))) rfl rfl (oDec_at oX12_isTaken 9 rfl) (fun _ _ => ?_)
  refine r_if_ne C 27 (oDec_at oX12_isTaken 10 rfl) (by decide) (fun cd3 => ?_) (fun cd3 => ?_)
  · skip
    refine r_iconst C (oDec_at oX12_isTaken 13 rfl) (v := k0) (by rw [qk0]; rfl) ?_
    have lk4 : (((pI (pI s 71 7 v1) 71 8 v2)).1 71 5).toInt = v1.toInt := congrArg Int32.toInt (((pI_ne (a := 71) (b := 5) (c := 71) (k := 8) _ _ (Or.inr (by decide)))).trans (((pI_ne (a := 71) (b := 5) (c := 71) (k := 7) _ _ (Or.inr (by decide)))).trans (ev1)))
    exact r_zret C (n_bool (by omega)) (oDec_at oX12_isTaken 14 rfl) ⟨_, rfl, ⟨by omega, by omega⟩⟩
  · skip
    refine r_iconst C (oDec_at oX12_isTaken 11 rfl) (v := k1) (by rw [qk1]; rfl) ?_
    refine r_goto C (tgt := 28) (oDec_at oX12_isTaken 12 rfl) (by decide) ?_
    have lk5 : (((pI (pI s 71 7 v1) 71 8 v2)).1 71 5).toInt = v1.toInt := congrArg Int32.toInt (((pI_ne (a := 71) (b := 5) (c := 71) (k := 8) _ _ (Or.inr (by decide)))).trans (((pI_ne (a := 71) (b := 5) (c := 71) (k := 7) _ _ (Or.inr (by decide)))).trans (ev1)))
    exact r_zret C (n_bool (by omega)) (oDec_at oX12_isTaken 14 rfl) ⟨_, rfl, ⟨by omega, by omega⟩⟩
set_option maxHeartbeats 4000000 in
set_option maxRecDepth 100000 in
theorem ct_X12_fault (l : Launch) (E : oE) (s : oS) (a1 : Int32)  : oMet l 1 yX12_fault cX12_fault 2 (some .int) [] E s [.ref (oad E 71), .int a1] (oPi (fun r u => True)) := by
  refine oMet.of (lv := [(0, .ref (oad E 71)), (1, .int a1)]) (by decide +kernel) (Nat.le_of_ble_eq_true rfl) rfl (fun J C hT => ?_)
  have C : oC l 1 cX12_fault RX12 2 (some .int) [] E s (oPi (fun r u => True)) J := C
  obtain ⟨km1, qkm1⟩ : ∃ z : Int32, z = (-1) := ⟨_, rfl⟩
  have ekm1 : km1.toInt = (-1) := by rw [qkm1]; rfl
  obtain ⟨k1, qk1⟩ : ∃ z : Int32, z = 1 := ⟨_, rfl⟩
  have ek1 : k1.toInt = 1 := by rw [qk1]; rfl
  have rg1 := n_rng a1
  refine r_iload_n C (j := 1) (oDec_at oX12_fault 0 rfl) rfl rfl ?_
  refine r_if_ne C 11 (oDec_at oX12_fault 1 rfl) (by decide) (fun cd1 => ?_) (fun cd1 => ?_)
  · skip
    refine r_iload_n C (j := 1) (oDec_at oX12_fault 5 rfl) rfl rfl ?_
    refine r_iconst C (oDec_at oX12_fault 6 rfl) (v := k1) (by rw [qk1]; rfl) ?_
    refine r_icmp_ne C 23 (oDec_at oX12_fault 7 rfl) (by decide) (fun cd2 => ?_) (fun cd2 => ?_)
    · skip
      refine r_iconst C (oDec_at oX12_fault 11 rfl) (v := km1) (by rw [qkm1]; rfl) ?_
      exact r_iret C (oDec_at oX12_fault 12 rfl) ⟨_, rfl, trivial⟩
    · skip
      refine r_aload_n C (j := 0) (oDec_at oX12_fault 8 rfl) rfl rfl ?_
      obtain ⟨v3, ev3⟩ : ∃ z : Int32, (s).1 71 8 = z := ⟨_, rfl⟩
      have gv3 : (s.1 71 8).toInt = v3.toInt := congrArg Int32.toInt (ev3)
      have rv3 := n_rng v3
      refine r_geti (k := 8) (lo := (-2147483648)) (hi := 2147483647) C v3 oCl12 rfl (by decide) flX12_13 rfl rfl (ev3) rfl rfl (oDec_at oX12_fault 9 rfl) (fun _ _ => ?_)
      refine r_goto C (tgt := 24) (oDec_at oX12_fault 10 rfl) (by decide) ?_
      exact r_iret C (oDec_at oX12_fault 12 rfl) ⟨_, rfl, trivial⟩
  · skip
    refine r_aload_n C (j := 0) (oDec_at oX12_fault 2 rfl) rfl rfl ?_
    obtain ⟨v4, ev4⟩ : ∃ z : Int32, (s).1 71 7 = z := ⟨_, rfl⟩
    have gv4 : (s.1 71 7).toInt = v4.toInt := congrArg Int32.toInt (ev4)
    have rv4 := n_rng v4
    refine r_geti (k := 7) (lo := (-2147483648)) (hi := 2147483647) C v4 oCl12 rfl (by decide) flX12_237 rfl rfl (ev4) rfl rfl (oDec_at oX12_fault 3 rfl) (fun _ _ => ?_)
    refine r_goto C (tgt := 24) (oDec_at oX12_fault 4 rfl) (by decide) ?_
    exact r_iret C (oDec_at oX12_fault 12 rfl) ⟨_, rfl, trivial⟩
