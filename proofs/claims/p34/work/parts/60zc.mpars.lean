set_option maxHeartbeats 4000000 in
set_option maxRecDepth 100000 in
theorem ct5_X12_opens (l : Launch) (E : oE) (s : oS) (a1 : Int32) (a2 : Int32)  (hp0 : (s.1 71 47).toInt ≤ 1699) (hp1 : 0 ≤ (s.1 71 48).toInt ∧ (s.1 71 48).toInt ≤ 6) (hp2 : (s.1 71 5).toInt = 0) : oMet l 2 yX12_opens cX12_opens 3 none [(12, 5), (12, 6), (12, 47), (12, 48), (79, 9999)] E s [.ref (oad E 71), .int a1, .int a2] (oPv (fun u => (((s.1 71 48).toInt ≤ 5 ∧ (u.1 71 48).toInt = (s.1 71 48).toInt + 1 ∧ (u.1 71 47).toInt = (s.1 71 47).toInt + 1 ∧ (u.1 71 5).toInt = (s.1 71 5).toInt) ∨ ((u.1 71 48).toInt = (s.1 71 48).toInt ∧ (u.1 71 47).toInt = (s.1 71 47).toInt ∧ (u.1 71 5).toInt ≠ 0)) ∧ ((u.1 71 5).toInt = 0 → oOpn s a1 u) ∧ ((u.1 71 5).toInt = 0 → (s.1 71 5).toInt = 0) ∧ ((u.1 71 5).toInt ≠ 0 → (6 ≤ (s.1 71 48).toInt ∧ (u.1 71 5).toInt = 4 ∧ (u.1 71 6).toInt = a2.toInt)) ∧ ((u.1 71 5).toInt = 0 → (u.1 71 6).toInt = (s.1 71 6).toInt))) := by
  refine oMet.of (lv := [(0, .ref (oad E 71)), (1, .int a1), (2, .int a2)]) (by decide +kernel) (Nat.le_of_ble_eq_true rfl) rfl (fun J C hT => ?_)
  have C : oC l 2 cX12_opens RX12 3 none [(12, 5), (12, 6), (12, 47), (12, 48), (79, 9999)] E s (oPv (fun u => (((s.1 71 48).toInt ≤ 5 ∧ (u.1 71 48).toInt = (s.1 71 48).toInt + 1 ∧ (u.1 71 47).toInt = (s.1 71 47).toInt + 1 ∧ (u.1 71 5).toInt = (s.1 71 5).toInt) ∨ ((u.1 71 48).toInt = (s.1 71 48).toInt ∧ (u.1 71 47).toInt = (s.1 71 47).toInt ∧ (u.1 71 5).toInt ≠ 0)) ∧ ((u.1 71 5).toInt = 0 → oOpn s a1 u) ∧ ((u.1 71 5).toInt = 0 → (s.1 71 5).toInt = 0) ∧ ((u.1 71 5).toInt ≠ 0 → (6 ≤ (s.1 71 48).toInt ∧ (u.1 71 5).toInt = 4 ∧ (u.1 71 6).toInt = a2.toInt)) ∧ ((u.1 71 5).toInt = 0 → (u.1 71 6).toInt = (s.1 71 6).toInt))) J := C
  obtain ⟨k1, qk1⟩ : ∃ z : Int32, z = 1 := ⟨_, rfl⟩
  have ek1 : k1.toInt = 1 := by rw [qk1]; rfl
  obtain ⟨k4, qk4⟩ : ∃ z : Int32, z = 4 := ⟨_, rfl⟩
  have ek4 : k4.toInt = 4 := by rw [qk4]; rfl
  obtain ⟨k6, qk6⟩ : ∃ z : Int32, z = 6 := ⟨_, rfl⟩
  have ek6 : k6.toInt = 6 := by rw [qk6]; rfl
  have rg1 := n_rng a1
  have rg2 := n_rng a2
  refine r_aload_n C (j := 0) (oDec_at oX12_opens 0 rfl) rfl rfl ?_
  obtain ⟨v1, ev1⟩ : ∃ z : Int32, (s).1 71 48 = z := ⟨_, rfl⟩
  have gv1 : (s.1 71 48).toInt = v1.toInt := congrArg Int32.toInt (ev1)
  refine r_geti (k := 48) (lo := (-1)) (hi := 7) C v1 oCl12 rfl (by decide) flX12_274 rfl rfl (ev1) rfl rfl (oDec_at oX12_opens 1 rfl) (fun b2 b2h => ?_)
  refine r_bipush C (oDec_at oX12_opens 2 rfl) (v := k6) (by rw [qk6]; rfl) ?_
  refine r_icmp_ne C 16 (oDec_at oX12_opens 3 rfl) (by decide) (fun cd3 => ?_) (fun cd3 => ?_)
  · skip
    refine r_aload_n C (j := 0) (oDec_at oX12_opens 9 rfl) rfl rfl ?_
    refine r_dup C (oDec_at oX12_opens 10 rfl) rfl ?_
    refine r_geti (k := 48) (lo := (-1)) (hi := 7) C v1 oCl12 rfl (by decide) flX12_274 rfl rfl (ev1) rfl rfl (oDec_at oX12_opens 11 rfl) (fun _ _ => ?_)
    refine r_iconst C (oDec_at oX12_opens 12 rfl) (v := k1) (by rw [qk1]; rfl) ?_
    obtain ⟨v4, ev4⟩ : ∃ z : Int32, z = v1 + k1 := ⟨_, rfl⟩
    have hv4 : v4.toInt = v1.toInt + k1.toInt := n_add ev4 (by omega) (by omega)
    refine r_iadd C v4 (oDec_at oX12_opens 13 rfl) ev4 ?_
    refine r_puti (k := 48) (lo := (-1)) (hi := 7) C oCl12 rfl (by decide) flX12_274 rfl rfl rfl rfl rfl rfl rfl rfl ⟨by omega, by omega⟩ (oDec_at oX12_opens 14 rfl) ?_
    refine r_pc C 26 rfl ?_
    refine r_aload_n C (j := 0) (oDec_at oX12_opens 15 rfl) rfl rfl ?_
    refine r_getF (k := 46) (b := 103) C oCl12 rfl (by decide) flX12_111 rfl rfl rfl (oDec_at oX12_opens 16 rfl) ?_
    refine r_aload_n C (j := 0) (oDec_at oX12_opens 17 rfl) rfl rfl ?_
    obtain ⟨v5, ev5⟩ : ∃ z : Int32, ((pI s 71 48 v4)).1 71 47 = z := ⟨_, rfl⟩
    have gv5 : (s.1 71 47).toInt = v5.toInt := congrArg Int32.toInt (((pI_ne (a := 71) (b := 47) (c := 71) (k := 48) _ _ (Or.inr (by decide)))).symm.trans ev5)
    have ggv5 : (((pI s 71 48 v4)).1 71 47).toInt = v5.toInt := congrArg Int32.toInt ev5
    refine r_geti (k := 47) (lo := 0) (hi := 1700) C v5 oCl12 rfl (by decide) flX12_277 rfl rfl (ev5) rfl rfl (oDec_at oX12_opens 18 rfl) (fun b6 b6h => ?_)
    refine r_iload_n C (j := 1) (oDec_at oX12_opens 19 rfl) rfl rfl ?_
    refine r_iast (n := 1700) (lo := (-2147483648)) (hi := 2147483647) C rfl (by decide) rfl rfl ⟨by omega, by omega⟩ (by decide) rfl rfl rfl rfl (n_rng _) (oDec_at oX12_opens 20 rfl) ?_
    refine r_pc C 36 rfl ?_
    refine r_aload_n C (j := 0) (oDec_at oX12_opens 21 rfl) rfl rfl ?_
    refine r_dup C (oDec_at oX12_opens 22 rfl) rfl ?_
    refine r_geti (k := 47) (lo := 0) (hi := 1700) C v5 oCl12 rfl (by decide) flX12_277 rfl rfl (((pI_ne (a := 71) (b := 47) (c := 103) _ _ (Or.inl (by decide)))).trans (ev5)) rfl rfl (oDec_at oX12_opens 23 rfl) (fun _ _ => ?_)
    refine r_iconst C (oDec_at oX12_opens 24 rfl) (v := k1) (by rw [qk1]; rfl) ?_
    obtain ⟨v7, ev7⟩ : ∃ z : Int32, z = v5 + k1 := ⟨_, rfl⟩
    have hv7 : v7.toInt = v5.toInt + k1.toInt := n_add ev7 (by omega) (by omega)
    refine r_iadd C v7 (oDec_at oX12_opens 25 rfl) ev7 ?_
    refine r_puti (k := 47) (lo := 0) (hi := 1700) C oCl12 rfl (by decide) flX12_277 rfl rfl rfl rfl rfl rfl rfl rfl ⟨by omega, by omega⟩ (oDec_at oX12_opens 26 rfl) ?_
    refine r_pc C 46 rfl ?_
    have lk8 : (((pI (pI (pI s 71 48 v4) 103 v5.toNatClampNeg a1) 71 47 v7)).1 71 48).toInt = v4.toInt := congrArg Int32.toInt (((pI_ne (a := 71) (b := 48) (c := 71) (k := 47) _ _ (Or.inr (by decide)))).trans (((pI_ne (a := 71) (b := 48) (c := 103) _ _ (Or.inl (by decide)))).trans ((pI_self _ _ _ _))))
    have lk9 : (((pI (pI (pI s 71 48 v4) 103 v5.toNatClampNeg a1) 71 47 v7)).1 71 47).toInt = v7.toInt := congrArg Int32.toInt ((pI_self _ _ _ _))
    have lk10 : (((pI (pI (pI s 71 48 v4) 103 v5.toNatClampNeg a1) 71 47 v7)).1 71 5).toInt = (s.1 71 5).toInt := congrArg Int32.toInt (((pI_ne (a := 71) (b := 5) (c := 71) (k := 47) _ _ (Or.inr (by decide)))).trans (((pI_ne (a := 71) (b := 5) (c := 103) _ _ (Or.inl (by decide)))).trans ((pI_ne (a := 71) (b := 5) (c := 71) (k := 48) _ _ (Or.inr (by decide))))))
    have lk11 : (((pI (pI (pI s 71 48 v4) 103 v5.toNatClampNeg a1) 71 47 v7)).1 71 5).toInt = (s.1 71 5).toInt := congrArg Int32.toInt (((pI_ne (a := 71) (b := 5) (c := 71) (k := 47) _ _ (Or.inr (by decide)))).trans (((pI_ne (a := 71) (b := 5) (c := 103) _ _ (Or.inl (by decide)))).trans ((pI_ne (a := 71) (b := 5) (c := 71) (k := 48) _ _ (Or.inr (by decide))))))
    have lk12 : (((pI (pI (pI s 71 48 v4) 103 v5.toNatClampNeg a1) 71 47 v7)).1 71 5).toInt = (s.1 71 5).toInt := congrArg Int32.toInt (((pI_ne (a := 71) (b := 5) (c := 71) (k := 47) _ _ (Or.inr (by decide)))).trans (((pI_ne (a := 71) (b := 5) (c := 103) _ _ (Or.inl (by decide)))).trans ((pI_ne (a := 71) (b := 5) (c := 71) (k := 48) _ _ (Or.inr (by decide))))))
    have lk13 : (((pI (pI (pI s 71 48 v4) 103 v5.toNatClampNeg a1) 71 47 v7)).1 71 5).toInt = (s.1 71 5).toInt := congrArg Int32.toInt (((pI_ne (a := 71) (b := 5) (c := 71) (k := 47) _ _ (Or.inr (by decide)))).trans (((pI_ne (a := 71) (b := 5) (c := 103) _ _ (Or.inl (by decide)))).trans ((pI_ne (a := 71) (b := 5) (c := 71) (k := 48) _ _ (Or.inr (by decide))))))
    have lk14 : (((pI (pI (pI s 71 48 v4) 103 v5.toNatClampNeg a1) 71 47 v7)).1 71 6).toInt = (s.1 71 6).toInt := congrArg Int32.toInt (((pI_ne (a := 71) (b := 6) (c := 71) (k := 47) _ _ (Or.inr (by decide)))).trans (((pI_ne (a := 71) (b := 6) (c := 103) _ _ (Or.inl (by decide)))).trans ((pI_ne (a := 71) (b := 6) (c := 71) (k := 48) _ _ (Or.inr (by decide))))))
    have lk15 : (((pI (pI (pI s 71 48 v4) 103 v5.toNatClampNeg a1) 71 47 v7)).1 71 5).toInt = (s.1 71 5).toInt := congrArg Int32.toInt (((pI_ne (a := 71) (b := 5) (c := 71) (k := 47) _ _ (Or.inr (by decide)))).trans (((pI_ne (a := 71) (b := 5) (c := 103) _ _ (Or.inl (by decide)))).trans ((pI_ne (a := 71) (b := 5) (c := 71) (k := 48) _ _ (Or.inr (by decide))))))
    have lk16 : (((pI (pI (pI s 71 48 v4) 103 v5.toNatClampNeg a1) 71 47 v7)).1 71 6).toInt = (s.1 71 6).toInt := congrArg Int32.toInt (((pI_ne (a := 71) (b := 6) (c := 71) (k := 47) _ _ (Or.inr (by decide)))).trans (((pI_ne (a := 71) (b := 6) (c := 103) _ _ (Or.inl (by decide)))).trans ((pI_ne (a := 71) (b := 6) (c := 71) (k := 48) _ _ (Or.inr (by decide))))))
    exact r_vret C (oDec_at oX12_opens 27 rfl) ⟨rfl, ⟨by omega, fun _ => oOpn_of (by assumption) (by omega) (by omega), by omega, by omega, by omega⟩⟩
  · skip
    refine r_aload_n C (j := 0) (oDec_at oX12_opens 4 rfl) rfl rfl ?_
    refine r_iconst C (oDec_at oX12_opens 5 rfl) (v := k4) (by rw [qk4]; rfl) ?_
    refine r_iload_n C (j := 2) (oDec_at oX12_opens 6 rfl) rfl rfl ?_
    refine r_callVv C oCl12 rfl miX12_fail mlX12_203 (ct4_X12_fail l E (s) k4 a2 ) (by decide) rfl rfl rfl (Nat.le_of_ble_eq_true rfl) (oDec_at oX12_opens 7 rfl) (fun u17 pu17 fu17 => ?_)
    try dsimp only at pu17
    obtain ⟨pu17_0, pu17_1⟩ := pu17
    have lk19 : ((u17).1 71 48).toInt = v1.toInt := congrArg Int32.toInt (((fu17 71 48 rfl).1).trans (ev1))
    have lk20 : ((u17).1 71 47).toInt = (s.1 71 47).toInt := congrArg Int32.toInt ((fu17 71 47 rfl).1)
    exact r_vret C (oDec_at oX12_opens 8 rfl) ⟨rfl, ⟨by omega, by intro h; exfalso; omega, by omega, by omega, by omega⟩⟩
set_option maxHeartbeats 4000000 in
set_option maxRecDepth 100000 in
theorem ct5_X12_dropsToMark (l : Launch) (E : oE) (s : oS)  (b : Nat) (x : Nat) (m : Int) (L : List Nat) (hp0 : oQ b x s) (hp1 : oMk m s) (hp2 : (s.1 71 55).toInt = (b : Int)) (hp3 : 1 ≤ x) (hp4 : (s.1 71 5).toInt = 0) (hp5 : (s.1 71 45).toInt + (s.1 71 47).toInt ≤ 1599) (hp6 : oqK b L s) : oMet l 3 yX12_dropsToMark cX12_dropsToMark 1 none [(12, 45), (12, 47), (78, 9999)] E s [.ref (oad E 71)] (oPv (fun u => (oQ b x u) ∧ ((u.1 71 45).toInt + (u.1 71 47).toInt = (s.1 71 45).toInt + (s.1 71 47).toInt) ∧ ((u.1 71 47).toInt ≤ (s.1 71 47).toInt) ∧ (m ≠ -1 → ((b : Int) < (u.1 71 47).toInt ∧ oTop u = m)) ∧ (oqK b L u))) := by
  refine oMet.of (lv := [(0, .ref (oad E 71))]) (by decide +kernel) (Nat.le_of_ble_eq_true rfl) rfl (fun J C hT => ?_)
  have C : oC l 3 cX12_dropsToMark RX12 1 none [(12, 45), (12, 47), (78, 9999)] E s (oPv (fun u => (oQ b x u) ∧ ((u.1 71 45).toInt + (u.1 71 47).toInt = (s.1 71 45).toInt + (s.1 71 47).toInt) ∧ ((u.1 71 47).toInt ≤ (s.1 71 47).toInt) ∧ (m ≠ -1 → ((b : Int) < (u.1 71 47).toInt ∧ oTop u = m)) ∧ (oqK b L u))) J := C
  obtain ⟨k1, qk1⟩ : ∃ z : Int32, z = 1 := ⟨_, rfl⟩
  have ek1 : k1.toInt = 1 := by rw [qk1]; rfl
  have key : ∀ n : Nat, (∀ (t : oS), (oQ b x t) → (oMk m t) → ((t.1 71 55).toInt = (b : Int)) → ((t.1 71 5).toInt = 0) → ((t.1 71 45).toInt + (t.1 71 47).toInt = (s.1 71 45).toInt + (s.1 71 47).toInt) → ((t.1 71 47).toInt ≤ (s.1 71 47).toInt) → ((s.1 71 45).toInt + (s.1 71 47).toInt ≤ 1599) → (oqK b L t) → (t.1 71 47).toInt + 1 ≤ (n : Int) → J t 0 [(0, .ref (oad E 71))] []) := by
    intro n
    induction n using Nat.strongRecOn with
    | _ n ih =>
      skip
      · intro t   iv0 iv1 iv2 iv3 iv4 iv5 iv6 iv7 hmu
        refine r_ty C (fun hty => ?_)
        have hty_coded : (0 : Int) ≤ ((t).1 71 45).toInt ∧ ((t).1 71 45).toInt ≤ 1600 := hty.1 71 45
        have hty_waits : (0 : Int) ≤ ((t).1 71 47).toInt ∧ ((t).1 71 47).toInt ≤ 1700 := hty.1 71 47
        clear hty
        refine r_aload_n C (j := 0) (oDec_at oX12_dropsToMark 0 rfl) rfl rfl ?_
        obtain ⟨v1, ev1⟩ : ∃ z : Int32, (t).1 71 47 = z := ⟨_, rfl⟩
        have gv1 : (t.1 71 47).toInt = v1.toInt := congrArg Int32.toInt (ev1)
        refine r_geti (k := 47) (lo := 0) (hi := 1700) C v1 oCl12 rfl (by decide) flX12_277 rfl rfl (ev1) rfl rfl (oDec_at oX12_dropsToMark 1 rfl) (fun b2 b2h => ?_)
        refine r_aload_n C (j := 0) (oDec_at oX12_dropsToMark 2 rfl) rfl rfl ?_
        obtain ⟨v3, ev3⟩ : ∃ z : Int32, (t).1 71 55 = z := ⟨_, rfl⟩
        have gv3 : (t.1 71 55).toInt = v3.toInt := congrArg Int32.toInt (ev3)
        refine r_geti (k := 55) (lo := 0) (hi := 1700) C v3 oCl12 rfl (by decide) flX12_283 rfl rfl (ev3) rfl rfl (oDec_at oX12_dropsToMark 3 rfl) (fun b4 b4h => ?_)
        refine r_icmp_le C 36 (oDec_at oX12_dropsToMark 4 rfl) (by decide) (fun cd5 => ?_) (fun cd5 => ?_)
        · skip
          have lk6 : ((t).1 71 47).toInt = v1.toInt := congrArg Int32.toInt (ev1)
          have lk7 : ((t).1 71 47).toInt = v1.toInt := congrArg Int32.toInt (ev1)
          have lk8 : ((t).1 71 47).toInt = v1.toInt := congrArg Int32.toInt (ev1)
          exact r_vret C (oDec_at oX12_dropsToMark 18 rfl) ⟨rfl, ⟨iv0, by omega, by omega, by intro hm; have hmt := oMk_top iv1 hm (by omega) (by omega); omega, iv7⟩⟩
        · skip
          refine r_aload_n C (j := 0) (oDec_at oX12_dropsToMark 5 rfl) rfl rfl ?_
          refine r_aload_n C (j := 0) (oDec_at oX12_dropsToMark 6 rfl) rfl rfl ?_
          refine r_getF (k := 46) (b := 103) C oCl12 rfl (by decide) flX12_111 rfl rfl rfl (oDec_at oX12_dropsToMark 7 rfl) ?_
          refine r_aload_n C (j := 0) (oDec_at oX12_dropsToMark 8 rfl) rfl rfl ?_
          refine r_geti (k := 47) (lo := 0) (hi := 1700) C v1 oCl12 rfl (by decide) flX12_277 rfl rfl (ev1) rfl rfl (oDec_at oX12_dropsToMark 9 rfl) (fun _ _ => ?_)
          refine r_iconst C (oDec_at oX12_dropsToMark 10 rfl) (v := k1) (by rw [qk1]; rfl) ?_
          refine r_pc C 21 rfl ?_
          obtain ⟨v9, ev9⟩ : ∃ z : Int32, z = v1 - k1 := ⟨_, rfl⟩
          have hv9 : v9.toInt = v1.toInt - k1.toInt := n_sub ev9 (by omega) (by omega)
          refine r_isub C v9 (oDec_at oX12_dropsToMark 11 rfl) ev9 ?_
          obtain ⟨v11, ev11⟩ : ∃ z : Int32, (t).1 103 v9.toNatClampNeg = z := ⟨_, rfl⟩
          have gv11 : (t.1 103 v9.toNatClampNeg).toInt = v11.toInt := congrArg Int32.toInt (ev11)
          have rv11 := n_rng v11
          refine r_iald (n := 1700) (lo := (-2147483648)) (hi := 2147483647) C v11 rfl (by decide) rfl rfl ⟨by omega, by omega⟩ (by decide) ev11 rfl rfl (oDec_at oX12_dropsToMark 12 rfl) (fun _ _ => ?_)
          have ht := oTop_of (i := v9) ev11 (by omega)
          refine r_callVi C oCl12 rfl miX12_isMark mlX12_286 (ct_X12_isMark l E (t) v11 ) (by decide) rfl rfl rfl (Nat.le_of_ble_eq_true rfl) (oDec_at oX12_dropsToMark 13 rfl) (fun r13 u12 pu12 fu12 => ?_)
          try dsimp only at pu12
          obtain ⟨pu12_0, pu12_1⟩ := pu12
          have hxu12 := oFr_nil fu12; subst hxu12
          have rr13 := n_rng r13
          refine r_if_ne C 36 (oDec_at oX12_dropsToMark 14 rfl) (by decide) (fun cd14 => ?_) (fun cd14 => ?_)
          · skip
            have lk15 : ((t).1 71 47).toInt = v1.toInt := congrArg Int32.toInt (ev1)
            have lk16 : ((t).1 71 47).toInt = v1.toInt := congrArg Int32.toInt (ev1)
            have lk17 : ((t).1 71 47).toInt = v1.toInt := congrArg Int32.toInt (ev1)
            exact r_vret C (oDec_at oX12_dropsToMark 18 rfl) ⟨rfl, ⟨iv0, by omega, by omega, by intro hm; have hmt := oMk_top iv1 hm (by omega) (by omega); omega, iv7⟩⟩
          · skip
            have h14 := oQ_topS iv0 (by omega) (by omega) (by omega)
            refine r_aload_n C (j := 0) (oDec_at oX12_dropsToMark 15 rfl) rfl rfl ?_
            have lk18 : ((t).1 71 47).toInt = v1.toInt := congrArg Int32.toInt (ev1)
            have lk19 : ((t).1 71 47).toInt = v1.toInt := congrArg Int32.toInt (ev1)
            refine r_callVv C oCl12 rfl miX12_drops mlX12_289 (ct_X12_drops l E (t)  (by omega) (by omega)) (by decide) rfl rfl rfl (Nat.le_of_ble_eq_true rfl) (oDec_at oX12_dropsToMark 16 rfl) (fun u20 pu20 fu20 => ?_)
            try dsimp only at pu20
            try simp only [lk18, lk19] at pu20
            obtain ⟨pu20_0, pu20_1, pu20_2⟩ := pu20
            have hq22 : oQ b x (u20) := oQ_drop iv0 pu20_0 (by omega) (by omega) (by omega) (by omega)
            have hq23 : oMk m (u20) := oMk_drop iv1 pu20_0 (by omega) (by omega)
            have hq24 : oqK b L (u20) := oqK_drop iv7 pu20_0 (by omega) (by omega)
            refine r_goto C (tgt := 0) (oDec_at oX12_dropsToMark 17 rfl) (by decide) ?_
            have lk25 : ((u20).1 71 55).toInt = v3.toInt := congrArg Int32.toInt (((fu20 71 55 rfl).1).trans (ev3))
            have lk26 : ((u20).1 71 5).toInt = (t.1 71 5).toInt := congrArg Int32.toInt ((fu20 71 5 rfl).1)
            exact (ih (n - 1) (by omega)) (u20)   hq22 hq23 (by omega) (by omega) (by omega) (by omega) (by omega) hq24 (by omega)
  exact (key (((s).1 71 47).toInt + 1).toNat) (s)   hp0 hp1 (by omega) (by omega) (by omega) (by omega) (by omega) hp6 (by omega)
set_option maxHeartbeats 4000000 in
set_option maxRecDepth 100000 in
theorem ct5_X12_rulePart (l : Launch) (E : oE) (s : oS)  (g : Int → Int) (a : Int) (b : Int) (hp0 : (s.1 71 2).toInt = a) (hp1 : (s.1 71 4).toInt = b) (hp2 : oqZ g s) (hp3 : (s.1 71 5).toInt = 0) (hp4 : oqWd s) (hp5 : oqSk g a = a) : oMet l 4 yX12_rulePart cX12_rulePart 1 (some .int) [(12, 2), (12, 4)] E s [.ref (oad E 71)] (oPi (fun r u => (r.toInt = -1 ∨ (40 ≤ r.toInt ∧ r.toInt ≤ 47 ∧ (s.1 71 2).toInt + 2 ≤ (u.1 71 2).toInt)) ∧ ((s.1 71 2).toInt ≤ (u.1 71 2).toInt) ∧ (r.toInt = -1 → ((u.1 71 2).toInt = a ∧ (u.1 71 4).toInt = b ∧ oqWi g a b ≠ 11 ∧ oqWi g a b ≠ 12 ∧ oqWi g a b ≠ 13 ∧ oqWi g a b ≠ 14 ∧ oqWi g a b ≠ 15 ∧ oqWi g a b ≠ 16 ∧ oqWi g a b ≠ 17 ∧ oqWi g a b ≠ 18)) ∧ (r.toInt ≠ -1 → (11 ≤ oqWi g a b ∧ oqWi g a b ≤ 18 ∧ (u.1 71 2).toInt = oqHa g a (oqWi g a b).toNat ∧ (u.1 71 4).toInt = oqHa g a (oqWi g a b).toNat)))) := by
  refine oMet.of (lv := [(0, .ref (oad E 71))]) (by decide +kernel) (Nat.le_of_ble_eq_true rfl) rfl (fun J C hT => ?_)
  have C : oC l 4 cX12_rulePart RX12 1 (some .int) [(12, 2), (12, 4)] E s (oPi (fun r u => (r.toInt = -1 ∨ (40 ≤ r.toInt ∧ r.toInt ≤ 47 ∧ (s.1 71 2).toInt + 2 ≤ (u.1 71 2).toInt)) ∧ ((s.1 71 2).toInt ≤ (u.1 71 2).toInt) ∧ (r.toInt = -1 → ((u.1 71 2).toInt = a ∧ (u.1 71 4).toInt = b ∧ oqWi g a b ≠ 11 ∧ oqWi g a b ≠ 12 ∧ oqWi g a b ≠ 13 ∧ oqWi g a b ≠ 14 ∧ oqWi g a b ≠ 15 ∧ oqWi g a b ≠ 16 ∧ oqWi g a b ≠ 17 ∧ oqWi g a b ≠ 18)) ∧ (r.toInt ≠ -1 → (11 ≤ oqWi g a b ∧ oqWi g a b ≤ 18 ∧ (u.1 71 2).toInt = oqHa g a (oqWi g a b).toNat ∧ (u.1 71 4).toInt = oqHa g a (oqWi g a b).toNat)))) J := C
  obtain ⟨km1, qkm1⟩ : ∃ z : Int32, z = (-1) := ⟨_, rfl⟩
  have ekm1 : km1.toInt = (-1) := by rw [qkm1]; rfl
  obtain ⟨k40, qk40⟩ : ∃ z : Int32, z = 40 := ⟨_, rfl⟩
  have ek40 : k40.toInt = 40 := by rw [qk40]; rfl
  obtain ⟨k41, qk41⟩ : ∃ z : Int32, z = 41 := ⟨_, rfl⟩
  have ek41 : k41.toInt = 41 := by rw [qk41]; rfl
  obtain ⟨k42, qk42⟩ : ∃ z : Int32, z = 42 := ⟨_, rfl⟩
  have ek42 : k42.toInt = 42 := by rw [qk42]; rfl
  obtain ⟨k43, qk43⟩ : ∃ z : Int32, z = 43 := ⟨_, rfl⟩
  have ek43 : k43.toInt = 43 := by rw [qk43]; rfl
  obtain ⟨k44, qk44⟩ : ∃ z : Int32, z = 44 := ⟨_, rfl⟩
  have ek44 : k44.toInt = 44 := by rw [qk44]; rfl
  obtain ⟨k45, qk45⟩ : ∃ z : Int32, z = 45 := ⟨_, rfl⟩
  have ek45 : k45.toInt = 45 := by rw [qk45]; rfl
  obtain ⟨k46, qk46⟩ : ∃ z : Int32, z = 46 := ⟨_, rfl⟩
  have ek46 : k46.toInt = 46 := by rw [qk46]; rfl
  obtain ⟨k47, qk47⟩ : ∃ z : Int32, z = 47 := ⟨_, rfl⟩
  have ek47 : k47.toInt = 47 := by rw [qk47]; rfl
  refine r_aload_n C (j := 0) (oDec_at oX12_rulePart 0 rfl) rfl rfl ?_
  refine r_aload_n C (j := 0) (oDec_at oX12_rulePart 1 rfl) rfl rfl ?_
  refine r_getF (k := 21) (b := 84) C oCl12 rfl (by decide) flX12_51 rfl rfl rfl (oDec_at oX12_rulePart 2 rfl) ?_
  refine r_callVi C oCl12 rfl miX12_takes mlX12_200 (ct6_X12_takes l E (s) 84 60 3 rfl (by decide) (by decide) rfl rfl (g) (a) (b) (11) (by omega) (by omega) hp2 (by omega) (by omega) rfl (oqWd_at hp4 11 (by decide)) (by omega)) (by decide) rfl rfl rfl (Nat.le_of_ble_eq_true rfl) (oDec_at oX12_rulePart 3 rfl) (fun r2 u1 pu1 fu1 => ?_)
  try dsimp only at pu1
  obtain ⟨pu1_0, pu1_1, pu1_2, pu1_3, pu1_4⟩ := pu1
  have rr2 := n_rng r2
  have hw11 := oqWi_is (g := g) (a := a) (b := b) (i := 11) (by decide)
  refine r_if_eq C 14 (oDec_at oX12_rulePart 4 rfl) (by decide) (fun cd3 => ?_) (fun cd3 => ?_)
  · skip
    clear pu1_1
    replace pu1_2 := pu1_2 (by omega)
    refine r_aload_n C (j := 0) (oDec_at oX12_rulePart 7 rfl) rfl rfl ?_
    refine r_aload_n C (j := 0) (oDec_at oX12_rulePart 8 rfl) rfl rfl ?_
    refine r_getF (k := 22) (b := 85) C oCl12 rfl (by decide) flX12_54 rfl rfl rfl (oDec_at oX12_rulePart 9 rfl) ?_
    have lk4 : ((u1).1 71 5).toInt = (s.1 71 5).toInt := congrArg Int32.toInt ((fu1 71 5 rfl).1)
    refine r_callVi C oCl12 rfl miX12_takes mlX12_200 (ct6_X12_takes l E (u1) 85 61 4 rfl (by decide) (by decide) rfl rfl (g) (a) (b) (12) (by omega) (by omega) (oqZ_fr fu1 rfl hp2) (by omega) (by omega) rfl (oqWd_at (oqWd_fr fu1 rfl hp4) 12 (by decide)) (by omega)) (by decide) rfl rfl rfl (Nat.le_of_ble_eq_true rfl) (oDec_at oX12_rulePart 10 rfl) (fun r6 u5 pu5 fu5 => ?_)
    try dsimp only at pu5
    try simp only [lk4] at pu5
    obtain ⟨pu5_0, pu5_1, pu5_2, pu5_3, pu5_4⟩ := pu5
    have rr6 := n_rng r6
    have hw12 := oqWi_is (g := g) (a := a) (b := b) (i := 12) (by decide)
    refine r_if_eq C 28 (oDec_at oX12_rulePart 11 rfl) (by decide) (fun cd7 => ?_) (fun cd7 => ?_)
    · skip
      clear pu5_1
      replace pu5_2 := pu5_2 (by omega)
      refine r_aload_n C (j := 0) (oDec_at oX12_rulePart 14 rfl) rfl rfl ?_
      refine r_aload_n C (j := 0) (oDec_at oX12_rulePart 15 rfl) rfl rfl ?_
      refine r_getF (k := 23) (b := 86) C oCl12 rfl (by decide) flX12_57 rfl rfl rfl (oDec_at oX12_rulePart 16 rfl) ?_
      have lk8 : ((u5).1 71 5).toInt = (s.1 71 5).toInt := congrArg Int32.toInt (((fu5 71 5 rfl).1).trans ((fu1 71 5 rfl).1))
      refine r_callVi C oCl12 rfl miX12_takes mlX12_200 (ct6_X12_takes l E (u5) 86 62 5 rfl (by decide) (by decide) rfl rfl (g) (a) (b) (13) (by omega) (by omega) (oqZ_fr fu5 rfl (oqZ_fr fu1 rfl hp2)) (by omega) (by omega) rfl (oqWd_at (oqWd_fr fu5 rfl (oqWd_fr fu1 rfl hp4)) 13 (by decide)) (by omega)) (by decide) rfl rfl rfl (Nat.le_of_ble_eq_true rfl) (oDec_at oX12_rulePart 17 rfl) (fun r10 u9 pu9 fu9 => ?_)
      try dsimp only at pu9
      try simp only [lk8] at pu9
      obtain ⟨pu9_0, pu9_1, pu9_2, pu9_3, pu9_4⟩ := pu9
      have rr10 := n_rng r10
      have hw13 := oqWi_is (g := g) (a := a) (b := b) (i := 13) (by decide)
      refine r_if_eq C 42 (oDec_at oX12_rulePart 18 rfl) (by decide) (fun cd11 => ?_) (fun cd11 => ?_)
      · skip
        clear pu9_1
        replace pu9_2 := pu9_2 (by omega)
        refine r_aload_n C (j := 0) (oDec_at oX12_rulePart 21 rfl) rfl rfl ?_
        refine r_aload_n C (j := 0) (oDec_at oX12_rulePart 22 rfl) rfl rfl ?_
        refine r_getF (k := 24) (b := 87) C oCl12 rfl (by decide) flX12_60 rfl rfl rfl (oDec_at oX12_rulePart 23 rfl) ?_
        have lk12 : ((u9).1 71 5).toInt = (s.1 71 5).toInt := congrArg Int32.toInt (((fu9 71 5 rfl).1).trans (((fu5 71 5 rfl).1).trans ((fu1 71 5 rfl).1)))
        refine r_callVi C oCl12 rfl miX12_takes mlX12_200 (ct6_X12_takes l E (u9) 87 63 4 rfl (by decide) (by decide) rfl rfl (g) (a) (b) (14) (by omega) (by omega) (oqZ_fr fu9 rfl (oqZ_fr fu5 rfl (oqZ_fr fu1 rfl hp2))) (by omega) (by omega) rfl (oqWd_at (oqWd_fr fu9 rfl (oqWd_fr fu5 rfl (oqWd_fr fu1 rfl hp4))) 14 (by decide)) (by omega)) (by decide) rfl rfl rfl (Nat.le_of_ble_eq_true rfl) (oDec_at oX12_rulePart 24 rfl) (fun r14 u13 pu13 fu13 => ?_)
        try dsimp only at pu13
        try simp only [lk12] at pu13
        obtain ⟨pu13_0, pu13_1, pu13_2, pu13_3, pu13_4⟩ := pu13
        have rr14 := n_rng r14
        have hw14 := oqWi_is (g := g) (a := a) (b := b) (i := 14) (by decide)
        refine r_if_eq C 56 (oDec_at oX12_rulePart 25 rfl) (by decide) (fun cd15 => ?_) (fun cd15 => ?_)
        · skip
          clear pu13_1
          replace pu13_2 := pu13_2 (by omega)
          refine r_aload_n C (j := 0) (oDec_at oX12_rulePart 28 rfl) rfl rfl ?_
          refine r_aload_n C (j := 0) (oDec_at oX12_rulePart 29 rfl) rfl rfl ?_
          refine r_getF (k := 25) (b := 88) C oCl12 rfl (by decide) flX12_63 rfl rfl rfl (oDec_at oX12_rulePart 30 rfl) ?_
          have lk16 : ((u13).1 71 5).toInt = (s.1 71 5).toInt := congrArg Int32.toInt (((fu13 71 5 rfl).1).trans (((fu9 71 5 rfl).1).trans (((fu5 71 5 rfl).1).trans ((fu1 71 5 rfl).1))))
          refine r_callVi C oCl12 rfl miX12_takes mlX12_200 (ct6_X12_takes l E (u13) 88 64 4 rfl (by decide) (by decide) rfl rfl (g) (a) (b) (15) (by omega) (by omega) (oqZ_fr fu13 rfl (oqZ_fr fu9 rfl (oqZ_fr fu5 rfl (oqZ_fr fu1 rfl hp2)))) (by omega) (by omega) rfl (oqWd_at (oqWd_fr fu13 rfl (oqWd_fr fu9 rfl (oqWd_fr fu5 rfl (oqWd_fr fu1 rfl hp4)))) 15 (by decide)) (by omega)) (by decide) rfl rfl rfl (Nat.le_of_ble_eq_true rfl) (oDec_at oX12_rulePart 31 rfl) (fun r18 u17 pu17 fu17 => ?_)
          try dsimp only at pu17
          try simp only [lk16] at pu17
          obtain ⟨pu17_0, pu17_1, pu17_2, pu17_3, pu17_4⟩ := pu17
          have rr18 := n_rng r18
          have hw15 := oqWi_is (g := g) (a := a) (b := b) (i := 15) (by decide)
          refine r_if_eq C 70 (oDec_at oX12_rulePart 32 rfl) (by decide) (fun cd19 => ?_) (fun cd19 => ?_)
          · skip
            clear pu17_1
            replace pu17_2 := pu17_2 (by omega)
            refine r_aload_n C (j := 0) (oDec_at oX12_rulePart 35 rfl) rfl rfl ?_
            refine r_aload_n C (j := 0) (oDec_at oX12_rulePart 36 rfl) rfl rfl ?_
            refine r_getF (k := 26) (b := 89) C oCl12 rfl (by decide) flX12_66 rfl rfl rfl (oDec_at oX12_rulePart 37 rfl) ?_
            have lk20 : ((u17).1 71 5).toInt = (s.1 71 5).toInt := congrArg Int32.toInt (((fu17 71 5 rfl).1).trans (((fu13 71 5 rfl).1).trans (((fu9 71 5 rfl).1).trans (((fu5 71 5 rfl).1).trans ((fu1 71 5 rfl).1)))))
            refine r_callVi C oCl12 rfl miX12_takes mlX12_200 (ct6_X12_takes l E (u17) 89 65 5 rfl (by decide) (by decide) rfl rfl (g) (a) (b) (16) (by omega) (by omega) (oqZ_fr fu17 rfl (oqZ_fr fu13 rfl (oqZ_fr fu9 rfl (oqZ_fr fu5 rfl (oqZ_fr fu1 rfl hp2))))) (by omega) (by omega) rfl (oqWd_at (oqWd_fr fu17 rfl (oqWd_fr fu13 rfl (oqWd_fr fu9 rfl (oqWd_fr fu5 rfl (oqWd_fr fu1 rfl hp4))))) 16 (by decide)) (by omega)) (by decide) rfl rfl rfl (Nat.le_of_ble_eq_true rfl) (oDec_at oX12_rulePart 38 rfl) (fun r22 u21 pu21 fu21 => ?_)
            try dsimp only at pu21
            try simp only [lk20] at pu21
            obtain ⟨pu21_0, pu21_1, pu21_2, pu21_3, pu21_4⟩ := pu21
            have rr22 := n_rng r22
            have hw16 := oqWi_is (g := g) (a := a) (b := b) (i := 16) (by decide)
            refine r_if_eq C 84 (oDec_at oX12_rulePart 39 rfl) (by decide) (fun cd23 => ?_) (fun cd23 => ?_)
            · skip
              clear pu21_1
              replace pu21_2 := pu21_2 (by omega)
              refine r_aload_n C (j := 0) (oDec_at oX12_rulePart 42 rfl) rfl rfl ?_
              refine r_aload_n C (j := 0) (oDec_at oX12_rulePart 43 rfl) rfl rfl ?_
              refine r_getF (k := 27) (b := 90) C oCl12 rfl (by decide) flX12_69 rfl rfl rfl (oDec_at oX12_rulePart 44 rfl) ?_
              have lk24 : ((u21).1 71 5).toInt = (s.1 71 5).toInt := congrArg Int32.toInt (((fu21 71 5 rfl).1).trans (((fu17 71 5 rfl).1).trans (((fu13 71 5 rfl).1).trans (((fu9 71 5 rfl).1).trans (((fu5 71 5 rfl).1).trans ((fu1 71 5 rfl).1))))))
              refine r_callVi C oCl12 rfl miX12_takes mlX12_200 (ct6_X12_takes l E (u21) 90 66 3 rfl (by decide) (by decide) rfl rfl (g) (a) (b) (17) (by omega) (by omega) (oqZ_fr fu21 rfl (oqZ_fr fu17 rfl (oqZ_fr fu13 rfl (oqZ_fr fu9 rfl (oqZ_fr fu5 rfl (oqZ_fr fu1 rfl hp2)))))) (by omega) (by omega) rfl (oqWd_at (oqWd_fr fu21 rfl (oqWd_fr fu17 rfl (oqWd_fr fu13 rfl (oqWd_fr fu9 rfl (oqWd_fr fu5 rfl (oqWd_fr fu1 rfl hp4)))))) 17 (by decide)) (by omega)) (by decide) rfl rfl rfl (Nat.le_of_ble_eq_true rfl) (oDec_at oX12_rulePart 45 rfl) (fun r26 u25 pu25 fu25 => ?_)
              try dsimp only at pu25
              try simp only [lk24] at pu25
              obtain ⟨pu25_0, pu25_1, pu25_2, pu25_3, pu25_4⟩ := pu25
              have rr26 := n_rng r26
              have hw17 := oqWi_is (g := g) (a := a) (b := b) (i := 17) (by decide)
              refine r_if_eq C 98 (oDec_at oX12_rulePart 46 rfl) (by decide) (fun cd27 => ?_) (fun cd27 => ?_)
              · skip
                clear pu25_1
                replace pu25_2 := pu25_2 (by omega)
                refine r_aload_n C (j := 0) (oDec_at oX12_rulePart 49 rfl) rfl rfl ?_
                refine r_aload_n C (j := 0) (oDec_at oX12_rulePart 50 rfl) rfl rfl ?_
                refine r_getF (k := 28) (b := 91) C oCl12 rfl (by decide) flX12_72 rfl rfl rfl (oDec_at oX12_rulePart 51 rfl) ?_
                have lk28 : ((u25).1 71 5).toInt = (s.1 71 5).toInt := congrArg Int32.toInt (((fu25 71 5 rfl).1).trans (((fu21 71 5 rfl).1).trans (((fu17 71 5 rfl).1).trans (((fu13 71 5 rfl).1).trans (((fu9 71 5 rfl).1).trans (((fu5 71 5 rfl).1).trans ((fu1 71 5 rfl).1)))))))
                refine r_callVi C oCl12 rfl miX12_takes mlX12_200 (ct6_X12_takes l E (u25) 91 67 4 rfl (by decide) (by decide) rfl rfl (g) (a) (b) (18) (by omega) (by omega) (oqZ_fr fu25 rfl (oqZ_fr fu21 rfl (oqZ_fr fu17 rfl (oqZ_fr fu13 rfl (oqZ_fr fu9 rfl (oqZ_fr fu5 rfl (oqZ_fr fu1 rfl hp2))))))) (by omega) (by omega) rfl (oqWd_at (oqWd_fr fu25 rfl (oqWd_fr fu21 rfl (oqWd_fr fu17 rfl (oqWd_fr fu13 rfl (oqWd_fr fu9 rfl (oqWd_fr fu5 rfl (oqWd_fr fu1 rfl hp4))))))) 18 (by decide)) (by omega)) (by decide) rfl rfl rfl (Nat.le_of_ble_eq_true rfl) (oDec_at oX12_rulePart 52 rfl) (fun r30 u29 pu29 fu29 => ?_)
                try dsimp only at pu29
                try simp only [lk28] at pu29
                obtain ⟨pu29_0, pu29_1, pu29_2, pu29_3, pu29_4⟩ := pu29
                have rr30 := n_rng r30
                have hw18 := oqWi_is (g := g) (a := a) (b := b) (i := 18) (by decide)
                refine r_if_eq C 114 (oDec_at oX12_rulePart 53 rfl) (by decide) (fun cd31 => ?_) (fun cd31 => ?_)
                · skip
                  clear pu29_1
                  replace pu29_2 := pu29_2 (by omega)
                  refine r_iconst C (oDec_at oX12_rulePart 56 rfl) (v := km1) (by rw [qkm1]; rfl) ?_
                  exact r_iret C (oDec_at oX12_rulePart 57 rfl) ⟨_, rfl, ⟨by omega, by omega, by first | omega | (intro h; exfalso; omega), by first | (intro h; exfalso; omega) | exact fun _ => ⟨by omega, by omega, by rw [hwn]; omega, by rw [hwn]; omega⟩⟩⟩
                · skip
                  replace pu29_1 := pu29_1 (by omega)
                  clear pu29_2
                  have hwy := (oqWi_is (g := g) (a := a) (b := b) (i := 18) (by decide)).mpr (by omega)
                  have hwn : (oqWi g a b).toNat = 18 := by omega
                  have hHa : oqHa g a 18 = oqSk g a + (oqWl 18 : Int) := rfl
                  have hl := oq_w1 18 (by decide)
                  refine r_bipush C (oDec_at oX12_rulePart 54 rfl) (v := k47) (by rw [qk47]; rfl) ?_
                  refine r_goto C (tgt := 115) (oDec_at oX12_rulePart 55 rfl) (by decide) ?_
                  exact r_iret C (oDec_at oX12_rulePart 57 rfl) ⟨_, rfl, ⟨by omega, by omega, by first | omega | (intro h; exfalso; omega), by first | (intro h; exfalso; omega) | exact fun _ => ⟨by omega, by omega, by rw [hwn]; omega, by rw [hwn]; omega⟩⟩⟩
              · skip
                replace pu25_1 := pu25_1 (by omega)
                clear pu25_2
                have hwy := (oqWi_is (g := g) (a := a) (b := b) (i := 17) (by decide)).mpr (by omega)
                have hwn : (oqWi g a b).toNat = 17 := by omega
                have hHa : oqHa g a 17 = oqSk g a + (oqWl 17 : Int) := rfl
                have hl := oq_w1 17 (by decide)
                refine r_bipush C (oDec_at oX12_rulePart 47 rfl) (v := k46) (by rw [qk46]; rfl) ?_
                exact r_iret C (oDec_at oX12_rulePart 48 rfl) ⟨_, rfl, ⟨by omega, by omega, by first | omega | (intro h; exfalso; omega), by first | (intro h; exfalso; omega) | exact fun _ => ⟨by omega, by omega, by rw [hwn]; omega, by rw [hwn]; omega⟩⟩⟩
            · skip
              replace pu21_1 := pu21_1 (by omega)
              clear pu21_2
              have hwy := (oqWi_is (g := g) (a := a) (b := b) (i := 16) (by decide)).mpr (by omega)
              have hwn : (oqWi g a b).toNat = 16 := by omega
              have hHa : oqHa g a 16 = oqSk g a + (oqWl 16 : Int) := rfl
              have hl := oq_w1 16 (by decide)
              refine r_bipush C (oDec_at oX12_rulePart 40 rfl) (v := k45) (by rw [qk45]; rfl) ?_
              exact r_iret C (oDec_at oX12_rulePart 41 rfl) ⟨_, rfl, ⟨by omega, by omega, by first | omega | (intro h; exfalso; omega), by first | (intro h; exfalso; omega) | exact fun _ => ⟨by omega, by omega, by rw [hwn]; omega, by rw [hwn]; omega⟩⟩⟩
          · skip
            replace pu17_1 := pu17_1 (by omega)
            clear pu17_2
            have hwy := (oqWi_is (g := g) (a := a) (b := b) (i := 15) (by decide)).mpr (by omega)
            have hwn : (oqWi g a b).toNat = 15 := by omega
            have hHa : oqHa g a 15 = oqSk g a + (oqWl 15 : Int) := rfl
            have hl := oq_w1 15 (by decide)
            refine r_bipush C (oDec_at oX12_rulePart 33 rfl) (v := k44) (by rw [qk44]; rfl) ?_
            exact r_iret C (oDec_at oX12_rulePart 34 rfl) ⟨_, rfl, ⟨by omega, by omega, by first | omega | (intro h; exfalso; omega), by first | (intro h; exfalso; omega) | exact fun _ => ⟨by omega, by omega, by rw [hwn]; omega, by rw [hwn]; omega⟩⟩⟩
        · skip
          replace pu13_1 := pu13_1 (by omega)
          clear pu13_2
          have hwy := (oqWi_is (g := g) (a := a) (b := b) (i := 14) (by decide)).mpr (by omega)
          have hwn : (oqWi g a b).toNat = 14 := by omega
          have hHa : oqHa g a 14 = oqSk g a + (oqWl 14 : Int) := rfl
          have hl := oq_w1 14 (by decide)
          refine r_bipush C (oDec_at oX12_rulePart 26 rfl) (v := k43) (by rw [qk43]; rfl) ?_
          exact r_iret C (oDec_at oX12_rulePart 27 rfl) ⟨_, rfl, ⟨by omega, by omega, by first | omega | (intro h; exfalso; omega), by first | (intro h; exfalso; omega) | exact fun _ => ⟨by omega, by omega, by rw [hwn]; omega, by rw [hwn]; omega⟩⟩⟩
      · skip
        replace pu9_1 := pu9_1 (by omega)
        clear pu9_2
        have hwy := (oqWi_is (g := g) (a := a) (b := b) (i := 13) (by decide)).mpr (by omega)
        have hwn : (oqWi g a b).toNat = 13 := by omega
        have hHa : oqHa g a 13 = oqSk g a + (oqWl 13 : Int) := rfl
        have hl := oq_w1 13 (by decide)
        refine r_bipush C (oDec_at oX12_rulePart 19 rfl) (v := k42) (by rw [qk42]; rfl) ?_
        exact r_iret C (oDec_at oX12_rulePart 20 rfl) ⟨_, rfl, ⟨by omega, by omega, by first | omega | (intro h; exfalso; omega), by first | (intro h; exfalso; omega) | exact fun _ => ⟨by omega, by omega, by rw [hwn]; omega, by rw [hwn]; omega⟩⟩⟩
    · skip
      replace pu5_1 := pu5_1 (by omega)
      clear pu5_2
      have hwy := (oqWi_is (g := g) (a := a) (b := b) (i := 12) (by decide)).mpr (by omega)
      have hwn : (oqWi g a b).toNat = 12 := by omega
      have hHa : oqHa g a 12 = oqSk g a + (oqWl 12 : Int) := rfl
      have hl := oq_w1 12 (by decide)
      refine r_bipush C (oDec_at oX12_rulePart 12 rfl) (v := k41) (by rw [qk41]; rfl) ?_
      exact r_iret C (oDec_at oX12_rulePart 13 rfl) ⟨_, rfl, ⟨by omega, by omega, by first | omega | (intro h; exfalso; omega), by first | (intro h; exfalso; omega) | exact fun _ => ⟨by omega, by omega, by rw [hwn]; omega, by rw [hwn]; omega⟩⟩⟩
  · skip
    replace pu1_1 := pu1_1 (by omega)
    clear pu1_2
    have hwy := (oqWi_is (g := g) (a := a) (b := b) (i := 11) (by decide)).mpr (by omega)
    have hwn : (oqWi g a b).toNat = 11 := by omega
    have hHa : oqHa g a 11 = oqSk g a + (oqWl 11 : Int) := rfl
    have hl := oq_w1 11 (by decide)
    refine r_bipush C (oDec_at oX12_rulePart 5 rfl) (v := k40) (by rw [qk40]; rfl) ?_
    exact r_iret C (oDec_at oX12_rulePart 6 rfl) ⟨_, rfl, ⟨by omega, by omega, by first | omega | (intro h; exfalso; omega), by first | (intro h; exfalso; omega) | exact fun _ => ⟨by omega, by omega, by rw [hwn]; omega, by rw [hwn]; omega⟩⟩⟩
set_option maxHeartbeats 4000000 in
set_option maxRecDepth 100000 in
theorem ct5_X12_mottoPart (l : Launch) (E : oE) (s : oS)  (g : Int → Int) (a : Int) (b : Int) (hp0 : (s.1 71 2).toInt = a) (hp1 : (s.1 71 4).toInt = b) (hp2 : oqZ g s) (hp3 : (s.1 71 5).toInt = 0) (hp4 : oqWd s) (hp5 : oqSk g a = a) : oMet l 4 yX12_mottoPart cX12_mottoPart 1 (some .int) [(12, 2), (12, 4)] E s [.ref (oad E 71)] (oPi (fun r u => (r.toInt = -1 ∨ (40 ≤ r.toInt ∧ r.toInt ≤ 47 ∧ (s.1 71 2).toInt + 2 ≤ (u.1 71 2).toInt)) ∧ ((s.1 71 2).toInt ≤ (u.1 71 2).toInt) ∧ (r.toInt = -1 → ((u.1 71 2).toInt = a ∧ (u.1 71 4).toInt = b ∧ oqWi g a b ≠ 19 ∧ oqWi g a b ≠ 20 ∧ oqWi g a b ≠ 21 ∧ oqWi g a b ≠ 22 ∧ oqWi g a b ≠ 23)) ∧ (r.toInt ≠ -1 → (19 ≤ oqWi g a b ∧ oqWi g a b ≤ 23 ∧ (u.1 71 2).toInt = oqHa g a (oqWi g a b).toNat ∧ (u.1 71 4).toInt = oqHa g a (oqWi g a b).toNat)))) := by
  refine oMet.of (lv := [(0, .ref (oad E 71))]) (by decide +kernel) (Nat.le_of_ble_eq_true rfl) rfl (fun J C hT => ?_)
  have C : oC l 4 cX12_mottoPart RX12 1 (some .int) [(12, 2), (12, 4)] E s (oPi (fun r u => (r.toInt = -1 ∨ (40 ≤ r.toInt ∧ r.toInt ≤ 47 ∧ (s.1 71 2).toInt + 2 ≤ (u.1 71 2).toInt)) ∧ ((s.1 71 2).toInt ≤ (u.1 71 2).toInt) ∧ (r.toInt = -1 → ((u.1 71 2).toInt = a ∧ (u.1 71 4).toInt = b ∧ oqWi g a b ≠ 19 ∧ oqWi g a b ≠ 20 ∧ oqWi g a b ≠ 21 ∧ oqWi g a b ≠ 22 ∧ oqWi g a b ≠ 23)) ∧ (r.toInt ≠ -1 → (19 ≤ oqWi g a b ∧ oqWi g a b ≤ 23 ∧ (u.1 71 2).toInt = oqHa g a (oqWi g a b).toNat ∧ (u.1 71 4).toInt = oqHa g a (oqWi g a b).toNat)))) J := C
  obtain ⟨km1, qkm1⟩ : ∃ z : Int32, z = (-1) := ⟨_, rfl⟩
  have ekm1 : km1.toInt = (-1) := by rw [qkm1]; rfl
  obtain ⟨k40, qk40⟩ : ∃ z : Int32, z = 40 := ⟨_, rfl⟩
  have ek40 : k40.toInt = 40 := by rw [qk40]; rfl
  obtain ⟨k41, qk41⟩ : ∃ z : Int32, z = 41 := ⟨_, rfl⟩
  have ek41 : k41.toInt = 41 := by rw [qk41]; rfl
  obtain ⟨k42, qk42⟩ : ∃ z : Int32, z = 42 := ⟨_, rfl⟩
  have ek42 : k42.toInt = 42 := by rw [qk42]; rfl
  obtain ⟨k43, qk43⟩ : ∃ z : Int32, z = 43 := ⟨_, rfl⟩
  have ek43 : k43.toInt = 43 := by rw [qk43]; rfl
  obtain ⟨k44, qk44⟩ : ∃ z : Int32, z = 44 := ⟨_, rfl⟩
  have ek44 : k44.toInt = 44 := by rw [qk44]; rfl
  refine r_aload_n C (j := 0) (oDec_at oX12_mottoPart 0 rfl) rfl rfl ?_
  refine r_aload_n C (j := 0) (oDec_at oX12_mottoPart 1 rfl) rfl rfl ?_
  refine r_getF (k := 29) (b := 92) C oCl12 rfl (by decide) flX12_75 rfl rfl rfl (oDec_at oX12_mottoPart 2 rfl) ?_
  refine r_callVi C oCl12 rfl miX12_takes mlX12_200 (ct6_X12_takes l E (s) 92 68 5 rfl (by decide) (by decide) rfl rfl (g) (a) (b) (19) (by omega) (by omega) hp2 (by omega) (by omega) rfl (oqWd_at hp4 19 (by decide)) (by omega)) (by decide) rfl rfl rfl (Nat.le_of_ble_eq_true rfl) (oDec_at oX12_mottoPart 3 rfl) (fun r2 u1 pu1 fu1 => ?_)
  try dsimp only at pu1
  obtain ⟨pu1_0, pu1_1, pu1_2, pu1_3, pu1_4⟩ := pu1
  have rr2 := n_rng r2
  have hw19 := oqWi_is (g := g) (a := a) (b := b) (i := 19) (by decide)
  refine r_if_eq C 14 (oDec_at oX12_mottoPart 4 rfl) (by decide) (fun cd3 => ?_) (fun cd3 => ?_)
  · skip
    clear pu1_1
    replace pu1_2 := pu1_2 (by omega)
    refine r_aload_n C (j := 0) (oDec_at oX12_mottoPart 7 rfl) rfl rfl ?_
    refine r_aload_n C (j := 0) (oDec_at oX12_mottoPart 8 rfl) rfl rfl ?_
    refine r_getF (k := 30) (b := 93) C oCl12 rfl (by decide) flX12_78 rfl rfl rfl (oDec_at oX12_mottoPart 9 rfl) ?_
    have lk4 : ((u1).1 71 5).toInt = (s.1 71 5).toInt := congrArg Int32.toInt ((fu1 71 5 rfl).1)
    refine r_callVi C oCl12 rfl miX12_takes mlX12_200 (ct6_X12_takes l E (u1) 93 69 4 rfl (by decide) (by decide) rfl rfl (g) (a) (b) (20) (by omega) (by omega) (oqZ_fr fu1 rfl hp2) (by omega) (by omega) rfl (oqWd_at (oqWd_fr fu1 rfl hp4) 20 (by decide)) (by omega)) (by decide) rfl rfl rfl (Nat.le_of_ble_eq_true rfl) (oDec_at oX12_mottoPart 10 rfl) (fun r6 u5 pu5 fu5 => ?_)
    try dsimp only at pu5
    try simp only [lk4] at pu5
    obtain ⟨pu5_0, pu5_1, pu5_2, pu5_3, pu5_4⟩ := pu5
    have rr6 := n_rng r6
    have hw20 := oqWi_is (g := g) (a := a) (b := b) (i := 20) (by decide)
    refine r_if_eq C 28 (oDec_at oX12_mottoPart 11 rfl) (by decide) (fun cd7 => ?_) (fun cd7 => ?_)
    · skip
      clear pu5_1
      replace pu5_2 := pu5_2 (by omega)
      refine r_aload_n C (j := 0) (oDec_at oX12_mottoPart 14 rfl) rfl rfl ?_
      refine r_aload_n C (j := 0) (oDec_at oX12_mottoPart 15 rfl) rfl rfl ?_
      refine r_getF (k := 31) (b := 94) C oCl12 rfl (by decide) flX12_81 rfl rfl rfl (oDec_at oX12_mottoPart 16 rfl) ?_
      have lk8 : ((u5).1 71 5).toInt = (s.1 71 5).toInt := congrArg Int32.toInt (((fu5 71 5 rfl).1).trans ((fu1 71 5 rfl).1))
      refine r_callVi C oCl12 rfl miX12_takes mlX12_200 (ct6_X12_takes l E (u5) 94 70 6 rfl (by decide) (by decide) rfl rfl (g) (a) (b) (21) (by omega) (by omega) (oqZ_fr fu5 rfl (oqZ_fr fu1 rfl hp2)) (by omega) (by omega) rfl (oqWd_at (oqWd_fr fu5 rfl (oqWd_fr fu1 rfl hp4)) 21 (by decide)) (by omega)) (by decide) rfl rfl rfl (Nat.le_of_ble_eq_true rfl) (oDec_at oX12_mottoPart 17 rfl) (fun r10 u9 pu9 fu9 => ?_)
      try dsimp only at pu9
      try simp only [lk8] at pu9
      obtain ⟨pu9_0, pu9_1, pu9_2, pu9_3, pu9_4⟩ := pu9
      have rr10 := n_rng r10
      have hw21 := oqWi_is (g := g) (a := a) (b := b) (i := 21) (by decide)
      refine r_if_eq C 42 (oDec_at oX12_mottoPart 18 rfl) (by decide) (fun cd11 => ?_) (fun cd11 => ?_)
      · skip
        clear pu9_1
        replace pu9_2 := pu9_2 (by omega)
        refine r_aload_n C (j := 0) (oDec_at oX12_mottoPart 21 rfl) rfl rfl ?_
        refine r_aload_n C (j := 0) (oDec_at oX12_mottoPart 22 rfl) rfl rfl ?_
        refine r_getF (k := 32) (b := 95) C oCl12 rfl (by decide) flX12_84 rfl rfl rfl (oDec_at oX12_mottoPart 23 rfl) ?_
        have lk12 : ((u9).1 71 5).toInt = (s.1 71 5).toInt := congrArg Int32.toInt (((fu9 71 5 rfl).1).trans (((fu5 71 5 rfl).1).trans ((fu1 71 5 rfl).1)))
        refine r_callVi C oCl12 rfl miX12_takes mlX12_200 (ct6_X12_takes l E (u9) 95 71 4 rfl (by decide) (by decide) rfl rfl (g) (a) (b) (22) (by omega) (by omega) (oqZ_fr fu9 rfl (oqZ_fr fu5 rfl (oqZ_fr fu1 rfl hp2))) (by omega) (by omega) rfl (oqWd_at (oqWd_fr fu9 rfl (oqWd_fr fu5 rfl (oqWd_fr fu1 rfl hp4))) 22 (by decide)) (by omega)) (by decide) rfl rfl rfl (Nat.le_of_ble_eq_true rfl) (oDec_at oX12_mottoPart 24 rfl) (fun r14 u13 pu13 fu13 => ?_)
        try dsimp only at pu13
        try simp only [lk12] at pu13
        obtain ⟨pu13_0, pu13_1, pu13_2, pu13_3, pu13_4⟩ := pu13
        have rr14 := n_rng r14
        have hw22 := oqWi_is (g := g) (a := a) (b := b) (i := 22) (by decide)
        refine r_if_eq C 56 (oDec_at oX12_mottoPart 25 rfl) (by decide) (fun cd15 => ?_) (fun cd15 => ?_)
        · skip
          clear pu13_1
          replace pu13_2 := pu13_2 (by omega)
          refine r_aload_n C (j := 0) (oDec_at oX12_mottoPart 28 rfl) rfl rfl ?_
          refine r_aload_n C (j := 0) (oDec_at oX12_mottoPart 29 rfl) rfl rfl ?_
          refine r_getF (k := 33) (b := 96) C oCl12 rfl (by decide) flX12_87 rfl rfl rfl (oDec_at oX12_mottoPart 30 rfl) ?_
          have lk16 : ((u13).1 71 5).toInt = (s.1 71 5).toInt := congrArg Int32.toInt (((fu13 71 5 rfl).1).trans (((fu9 71 5 rfl).1).trans (((fu5 71 5 rfl).1).trans ((fu1 71 5 rfl).1))))
          refine r_callVi C oCl12 rfl miX12_takes mlX12_200 (ct6_X12_takes l E (u13) 96 72 4 rfl (by decide) (by decide) rfl rfl (g) (a) (b) (23) (by omega) (by omega) (oqZ_fr fu13 rfl (oqZ_fr fu9 rfl (oqZ_fr fu5 rfl (oqZ_fr fu1 rfl hp2)))) (by omega) (by omega) rfl (oqWd_at (oqWd_fr fu13 rfl (oqWd_fr fu9 rfl (oqWd_fr fu5 rfl (oqWd_fr fu1 rfl hp4)))) 23 (by decide)) (by omega)) (by decide) rfl rfl rfl (Nat.le_of_ble_eq_true rfl) (oDec_at oX12_mottoPart 31 rfl) (fun r18 u17 pu17 fu17 => ?_)
          try dsimp only at pu17
          try simp only [lk16] at pu17
          obtain ⟨pu17_0, pu17_1, pu17_2, pu17_3, pu17_4⟩ := pu17
          have rr18 := n_rng r18
          have hw23 := oqWi_is (g := g) (a := a) (b := b) (i := 23) (by decide)
          refine r_if_eq C 72 (oDec_at oX12_mottoPart 32 rfl) (by decide) (fun cd19 => ?_) (fun cd19 => ?_)
          · skip
            clear pu17_1
            replace pu17_2 := pu17_2 (by omega)
            refine r_iconst C (oDec_at oX12_mottoPart 35 rfl) (v := km1) (by rw [qkm1]; rfl) ?_
            exact r_iret C (oDec_at oX12_mottoPart 36 rfl) ⟨_, rfl, ⟨by omega, by omega, by first | omega | (intro h; exfalso; omega), by first | (intro h; exfalso; omega) | exact fun _ => ⟨by omega, by omega, by rw [hwn]; omega, by rw [hwn]; omega⟩⟩⟩
          · skip
            replace pu17_1 := pu17_1 (by omega)
            clear pu17_2
            have hwy := (oqWi_is (g := g) (a := a) (b := b) (i := 23) (by decide)).mpr (by omega)
            have hwn : (oqWi g a b).toNat = 23 := by omega
            have hHa : oqHa g a 23 = oqSk g a + (oqWl 23 : Int) := rfl
            have hl := oq_w1 23 (by decide)
            refine r_bipush C (oDec_at oX12_mottoPart 33 rfl) (v := k44) (by rw [qk44]; rfl) ?_
            refine r_goto C (tgt := 73) (oDec_at oX12_mottoPart 34 rfl) (by decide) ?_
            exact r_iret C (oDec_at oX12_mottoPart 36 rfl) ⟨_, rfl, ⟨by omega, by omega, by first | omega | (intro h; exfalso; omega), by first | (intro h; exfalso; omega) | exact fun _ => ⟨by omega, by omega, by rw [hwn]; omega, by rw [hwn]; omega⟩⟩⟩
        · skip
          replace pu13_1 := pu13_1 (by omega)
          clear pu13_2
          have hwy := (oqWi_is (g := g) (a := a) (b := b) (i := 22) (by decide)).mpr (by omega)
          have hwn : (oqWi g a b).toNat = 22 := by omega
          have hHa : oqHa g a 22 = oqSk g a + (oqWl 22 : Int) := rfl
          have hl := oq_w1 22 (by decide)
          refine r_bipush C (oDec_at oX12_mottoPart 26 rfl) (v := k43) (by rw [qk43]; rfl) ?_
          exact r_iret C (oDec_at oX12_mottoPart 27 rfl) ⟨_, rfl, ⟨by omega, by omega, by first | omega | (intro h; exfalso; omega), by first | (intro h; exfalso; omega) | exact fun _ => ⟨by omega, by omega, by rw [hwn]; omega, by rw [hwn]; omega⟩⟩⟩
      · skip
        replace pu9_1 := pu9_1 (by omega)
        clear pu9_2
        have hwy := (oqWi_is (g := g) (a := a) (b := b) (i := 21) (by decide)).mpr (by omega)
        have hwn : (oqWi g a b).toNat = 21 := by omega
        have hHa : oqHa g a 21 = oqSk g a + (oqWl 21 : Int) := rfl
        have hl := oq_w1 21 (by decide)
        refine r_bipush C (oDec_at oX12_mottoPart 19 rfl) (v := k42) (by rw [qk42]; rfl) ?_
        exact r_iret C (oDec_at oX12_mottoPart 20 rfl) ⟨_, rfl, ⟨by omega, by omega, by first | omega | (intro h; exfalso; omega), by first | (intro h; exfalso; omega) | exact fun _ => ⟨by omega, by omega, by rw [hwn]; omega, by rw [hwn]; omega⟩⟩⟩
    · skip
      replace pu5_1 := pu5_1 (by omega)
      clear pu5_2
      have hwy := (oqWi_is (g := g) (a := a) (b := b) (i := 20) (by decide)).mpr (by omega)
      have hwn : (oqWi g a b).toNat = 20 := by omega
      have hHa : oqHa g a 20 = oqSk g a + (oqWl 20 : Int) := rfl
      have hl := oq_w1 20 (by decide)
      refine r_bipush C (oDec_at oX12_mottoPart 12 rfl) (v := k41) (by rw [qk41]; rfl) ?_
      exact r_iret C (oDec_at oX12_mottoPart 13 rfl) ⟨_, rfl, ⟨by omega, by omega, by first | omega | (intro h; exfalso; omega), by first | (intro h; exfalso; omega) | exact fun _ => ⟨by omega, by omega, by rw [hwn]; omega, by rw [hwn]; omega⟩⟩⟩
  · skip
    replace pu1_1 := pu1_1 (by omega)
    clear pu1_2
    have hwy := (oqWi_is (g := g) (a := a) (b := b) (i := 19) (by decide)).mpr (by omega)
    have hwn : (oqWi g a b).toNat = 19 := by omega
    have hHa : oqHa g a 19 = oqSk g a + (oqWl 19 : Int) := rfl
    have hl := oq_w1 19 (by decide)
    refine r_bipush C (oDec_at oX12_mottoPart 5 rfl) (v := k40) (by rw [qk40]; rfl) ?_
    exact r_iret C (oDec_at oX12_mottoPart 6 rfl) ⟨_, rfl, ⟨by omega, by omega, by first | omega | (intro h; exfalso; omega), by first | (intro h; exfalso; omega) | exact fun _ => ⟨by omega, by omega, by rw [hwn]; omega, by rw [hwn]; omega⟩⟩⟩
