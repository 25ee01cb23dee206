set_option maxHeartbeats 4000000 in
set_option maxRecDepth 100000 in
theorem ct_X10_allows (l : Launch) (E : oE) (s : oS) (a1 : Int32)  : oMet l 1 yX10_allows cX10_allows 3 (some .boolean) [] E s [.ref (oad E 43), .int a1] (oPi (fun r u => (0 ≤ r.toInt ∧ r.toInt ≤ 1))) := by
  refine oMet.of (lv := [(0, .ref (oad E 43)), (1, .int a1)]) (by decide +kernel) (Nat.le_of_ble_eq_true rfl) rfl (fun J C hT => ?_)
  have C : oC l 1 cX10_allows RX10 3 (some .boolean) [] E s (oPi (fun r u => (0 ≤ r.toInt ∧ r.toInt ≤ 1))) J := C
  obtain ⟨km1, qkm1⟩ : ∃ z : Int32, z = (-1) := ⟨_, rfl⟩
  have ekm1 : km1.toInt = (-1) := by rw [qkm1]; rfl
  obtain ⟨k0, qk0⟩ : ∃ z : Int32, z = 0 := ⟨_, rfl⟩
  have ek0 : k0.toInt = 0 := by rw [qk0]; rfl
  obtain ⟨k1, qk1⟩ : ∃ z : Int32, z = 1 := ⟨_, rfl⟩
  have ek1 : k1.toInt = 1 := by rw [qk1]; rfl
  obtain ⟨k2, qk2⟩ : ∃ z : Int32, z = 2 := ⟨_, rfl⟩
  have ek2 : k2.toInt = 2 := by rw [qk2]; rfl
  obtain ⟨k3, qk3⟩ : ∃ z : Int32, z = 3 := ⟨_, rfl⟩
  have ek3 : k3.toInt = 3 := by rw [qk3]; rfl
  obtain ⟨k4, qk4⟩ : ∃ z : Int32, z = 4 := ⟨_, rfl⟩
  have ek4 : k4.toInt = 4 := by rw [qk4]; rfl
  obtain ⟨k6, qk6⟩ : ∃ z : Int32, z = 6 := ⟨_, rfl⟩
  have ek6 : k6.toInt = 6 := by rw [qk6]; rfl
  obtain ⟨k8, qk8⟩ : ∃ z : Int32, z = 8 := ⟨_, rfl⟩
  have ek8 : k8.toInt = 8 := by rw [qk8]; rfl
  have rg1 := n_rng a1
  refine r_iload_n C (j := 1) (oDec_at oX10_allows 0 rfl) rfl rfl ?_
  refine r_bipush C (oDec_at oX10_allows 1 rfl) (v := k6) (by rw [qk6]; rfl) ?_
  obtain ⟨v1, ev1⟩ : ∃ z : Int32, z = a1 / k6 := ⟨_, rfl⟩
  have hv1 := n_divP (k := 6) ev1 ek6 (by decide)
  have rv1 := n_rng v1
  refine r_idiv C v1 (oDec_at oX10_allows 2 rfl) (n_ne0 (by omega)) ev1 ?_
  refine r_iconst C (oDec_at oX10_allows 3 rfl) (v := k2) (by rw [qk2]; rfl) ?_
  obtain ⟨v2, ev2⟩ : ∃ z : Int32, z = v1 - v1 / k2 * k2 := ⟨_, rfl⟩
  have hv2 := n_rem (k := 2) ev2 ek2 (by decide)
  have rv2 := n_rng v2
  refine r_irem C v2 (oDec_at oX10_allows 4 rfl) (n_ne0 (by omega)) ev2 ?_
  refine r_iload_n C (j := 1) (oDec_at oX10_allows 5 rfl) rfl rfl ?_
  refine r_pc C 7 rfl ?_
  refine r_iconst C (oDec_at oX10_allows 6 rfl) (v := k3) (by rw [qk3]; rfl) ?_
  obtain ⟨v3, ev3⟩ : ∃ z : Int32, z = a1 / k3 := ⟨_, rfl⟩
  have hv3 := n_divP (k := 3) ev3 ek3 (by decide)
  have rv3 := n_rng v3
  refine r_idiv C v3 (oDec_at oX10_allows 7 rfl) (n_ne0 (by omega)) ev3 ?_
  refine r_iconst C (oDec_at oX10_allows 8 rfl) (v := k2) (by rw [qk2]; rfl) ?_
  obtain ⟨v4, ev4⟩ : ∃ z : Int32, z = v3 - v3 / k2 * k2 := ⟨_, rfl⟩
  have hv4 := n_rem (k := 2) ev4 ek2 (by decide)
  have rv4 := n_rng v4
  refine r_irem C v4 (oDec_at oX10_allows 9 rfl) (n_ne0 (by omega)) ev4 ?_
  refine r_iconst C (oDec_at oX10_allows 10 rfl) (v := k2) (by rw [qk2]; rfl) ?_
  obtain ⟨v5, ev5⟩ : ∃ z : Int32, z = v4 * k2 := ⟨_, rfl⟩
  have rv5 := n_rng v5
  refine r_imul C v5 (oDec_at oX10_allows 11 rfl) ev5 ?_
  refine r_pc C 13 rfl ?_
  obtain ⟨v6, ev6⟩ : ∃ z : Int32, z = v2 + v5 := ⟨_, rfl⟩
  have rv6 := n_rng v6
  refine r_iadd C v6 (oDec_at oX10_allows 12 rfl) ev6 ?_
  refine r_istore_n C (lv' := [(0, .ref (oad E 43)), (1, .int a1), (2, .int v6)]) [1, 2, 0] (oDec_at oX10_allows 13 rfl) rfl (by decide) rfl ?_
  refine r_iload_n C (j := 1) (oDec_at oX10_allows 14 rfl) rfl rfl ?_
  refine r_iconst C (oDec_at oX10_allows 15 rfl) (v := k3) (by rw [qk3]; rfl) ?_
  obtain ⟨v7, ev7⟩ : ∃ z : Int32, z = a1 - a1 / k3 * k3 := ⟨_, rfl⟩
  have hv7 := n_rem (k := 3) ev7 ek3 (by decide)
  have rv7 := n_rng v7
  refine r_irem C v7 (oDec_at oX10_allows 16 rfl) (n_ne0 (by omega)) ev7 ?_
  refine r_if_eq C 37 (oDec_at oX10_allows 17 rfl) (by decide) (fun cd8 => ?_) (fun cd8 => ?_)
  · skip
    refine r_iload_n C (j := 2) (oDec_at oX10_allows 29 rfl) rfl rfl ?_
    refine r_aload_n C (j := 0) (oDec_at oX10_allows 30 rfl) rfl rfl ?_
    obtain ⟨v9, ev9⟩ : ∃ z : Int32, (s).1 43 2 = z := ⟨_, rfl⟩
    have gv9 : (s.1 43 2).toInt = v9.toInt := congrArg Int32.toInt (ev9)
    refine r_geti (k := 2) (lo := 0) (hi := 15) C v9 oCl10 rfl (by decide) flX10_47 rfl rfl (ev9) rfl rfl (oDec_at oX10_allows 31 rfl) (fun b10 b10h => ?_)
    refine r_iconst C (oDec_at oX10_allows 32 rfl) (v := km1) (by rw [qkm1]; rfl) ?_
    obtain ⟨v11, ev11⟩ : ∃ z : Int32, z = v9 ^^^ km1 := ⟨_, rfl⟩
    have rv11 := n_rng v11
    refine r_ixor C v11 (oDec_at oX10_allows 33 rfl) ev11 ?_
    obtain ⟨v12, ev12⟩ : ∃ z : Int32, z = v6 &&& v11 := ⟨_, rfl⟩
    have hv12 := n_and ev12
    have rv12 := n_rng v12
    refine r_iand C v12 (oDec_at oX10_allows 34 rfl) ev12 ?_
    refine r_pc C 45 rfl ?_
    refine r_if_ne C 52 (oDec_at oX10_allows 35 rfl) (by decide) (fun cd13 => ?_) (fun cd13 => ?_)
    · skip
      refine r_iconst C (oDec_at oX10_allows 38 rfl) (v := k0) (by rw [qk0]; rfl) ?_
      exact r_zret C (n_bool (by omega)) (oDec_at oX10_allows 39 rfl) ⟨_, rfl, by omega⟩
    · skip
      refine r_iconst C (oDec_at oX10_allows 36 rfl) (v := k1) (by rw [qk1]; rfl) ?_
      refine r_goto C (tgt := 53) (oDec_at oX10_allows 37 rfl) (by decide) ?_
      exact r_zret C (n_bool (by omega)) (oDec_at oX10_allows 39 rfl) ⟨_, rfl, by omega⟩
  · skip
    refine r_iload_n C (j := 2) (oDec_at oX10_allows 18 rfl) rfl rfl ?_
    refine r_iload_n C (j := 1) (oDec_at oX10_allows 19 rfl) rfl rfl ?_
    refine r_iconst C (oDec_at oX10_allows 20 rfl) (v := k3) (by rw [qk3]; rfl) ?_
    obtain ⟨v14, ev14⟩ : ∃ z : Int32, z = a1 - a1 / k3 * k3 := ⟨_, rfl⟩
    have hv14 := n_rem (k := 3) ev14 ek3 (by decide)
    have rv14 := n_rng v14
    refine r_irem C v14 (oDec_at oX10_allows 21 rfl) (n_ne0 (by omega)) ev14 ?_
    refine r_iconst C (oDec_at oX10_allows 22 rfl) (v := k1) (by rw [qk1]; rfl) ?_
    refine r_icmp_ne C 33 (oDec_at oX10_allows 23 rfl) (by decide) (fun cd15 => ?_) (fun cd15 => ?_)
    · skip
      refine r_bipush C (oDec_at oX10_allows 26 rfl) (v := k8) (by rw [qk8]; rfl) ?_
      obtain ⟨v16, ev16⟩ : ∃ z : Int32, z = v6 + k8 := ⟨_, rfl⟩
      have rv16 := n_rng v16
      refine r_iadd C v16 (oDec_at oX10_allows 27 rfl) ev16 ?_
      refine r_istore_n C (lv' := [(0, .ref (oad E 43)), (1, .int a1), (2, .int v16)]) [1, 2, 0] (oDec_at oX10_allows 28 rfl) rfl (by decide) rfl ?_
      refine r_iload_n C (j := 2) (oDec_at oX10_allows 29 rfl) rfl rfl ?_
      refine r_aload_n C (j := 0) (oDec_at oX10_allows 30 rfl) rfl rfl ?_
      obtain ⟨v17, ev17⟩ : ∃ z : Int32, (s).1 43 2 = z := ⟨_, rfl⟩
      have gv17 : (s.1 43 2).toInt = v17.toInt := congrArg Int32.toInt (ev17)
      refine r_geti (k := 2) (lo := 0) (hi := 15) C v17 oCl10 rfl (by decide) flX10_47 rfl rfl (ev17) rfl rfl (oDec_at oX10_allows 31 rfl) (fun b18 b18h => ?_)
      refine r_pc C 42 rfl ?_
      refine r_iconst C (oDec_at oX10_allows 32 rfl) (v := km1) (by rw [qkm1]; rfl) ?_
      obtain ⟨v19, ev19⟩ : ∃ z : Int32, z = v17 ^^^ km1 := ⟨_, rfl⟩
      have rv19 := n_rng v19
      refine r_ixor C v19 (oDec_at oX10_allows 33 rfl) ev19 ?_
      obtain ⟨v20, ev20⟩ : ∃ z : Int32, z = v16 &&& v19 := ⟨_, rfl⟩
      have hv20 := n_and ev20
      have rv20 := n_rng v20
      refine r_iand C v20 (oDec_at oX10_allows 34 rfl) ev20 ?_
      refine r_if_ne C 52 (oDec_at oX10_allows 35 rfl) (by decide) (fun cd21 => ?_) (fun cd21 => ?_)
      · skip
        refine r_iconst C (oDec_at oX10_allows 38 rfl) (v := k0) (by rw [qk0]; rfl) ?_
        exact r_zret C (n_bool (by omega)) (oDec_at oX10_allows 39 rfl) ⟨_, rfl, by omega⟩
      · skip
        refine r_iconst C (oDec_at oX10_allows 36 rfl) (v := k1) (by rw [qk1]; rfl) ?_
        refine r_goto C (tgt := 53) (oDec_at oX10_allows 37 rfl) (by decide) ?_
        exact r_zret C (n_bool (by omega)) (oDec_at oX10_allows 39 rfl) ⟨_, rfl, by omega⟩
    · skip
      refine r_iconst C (oDec_at oX10_allows 24 rfl) (v := k4) (by rw [qk4]; rfl) ?_
      refine r_goto C (tgt := 35) (oDec_at oX10_allows 25 rfl) (by decide) ?_
      obtain ⟨v22, ev22⟩ : ∃ z : Int32, z = v6 + k4 := ⟨_, rfl⟩
      have rv22 := n_rng v22
      refine r_iadd C v22 (oDec_at oX10_allows 27 rfl) ev22 ?_
      refine r_istore_n C (lv' := [(0, .ref (oad E 43)), (1, .int a1), (2, .int v22)]) [1, 2, 0] (oDec_at oX10_allows 28 rfl) rfl (by decide) rfl ?_
      refine r_iload_n C (j := 2) (oDec_at oX10_allows 29 rfl) rfl rfl ?_
      refine r_aload_n C (j := 0) (oDec_at oX10_allows 30 rfl) rfl rfl ?_
      obtain ⟨v23, ev23⟩ : ∃ z : Int32, (s).1 43 2 = z := ⟨_, rfl⟩
      have gv23 : (s.1 43 2).toInt = v23.toInt := congrArg Int32.toInt (ev23)
      refine r_geti (k := 2) (lo := 0) (hi := 15) C v23 oCl10 rfl (by decide) flX10_47 rfl rfl (ev23) rfl rfl (oDec_at oX10_allows 31 rfl) (fun b24 b24h => ?_)
      refine r_pc C 42 rfl ?_
      refine r_iconst C (oDec_at oX10_allows 32 rfl) (v := km1) (by rw [qkm1]; rfl) ?_
      obtain ⟨v25, ev25⟩ : ∃ z : Int32, z = v23 ^^^ km1 := ⟨_, rfl⟩
      have rv25 := n_rng v25
      refine r_ixor C v25 (oDec_at oX10_allows 33 rfl) ev25 ?_
      obtain ⟨v26, ev26⟩ : ∃ z : Int32, z = v22 &&& v25 := ⟨_, rfl⟩
      have hv26 := n_and ev26
      have rv26 := n_rng v26
      refine r_iand C v26 (oDec_at oX10_allows 34 rfl) ev26 ?_
      refine r_if_ne C 52 (oDec_at oX10_allows 35 rfl) (by decide) (fun cd27 => ?_) (fun cd27 => ?_)
      · skip
        refine r_iconst C (oDec_at oX10_allows 38 rfl) (v := k0) (by rw [qk0]; rfl) ?_
        exact r_zret C (n_bool (by omega)) (oDec_at oX10_allows 39 rfl) ⟨_, rfl, by omega⟩
      · skip
        refine r_iconst C (oDec_at oX10_allows 36 rfl) (v := k1) (by rw [qk1]; rfl) ?_
        refine r_goto C (tgt := 53) (oDec_at oX10_allows 37 rfl) (by decide) ?_
        exact r_zret C (n_bool (by omega)) (oDec_at oX10_allows 39 rfl) ⟨_, rfl, by omega⟩
set_option maxHeartbeats 4000000 in
set_option maxRecDepth 100000 in
theorem ct_X10_gather (l : Launch) (E : oE) (s : oS) (a1 : Int32) (hp0 : 0 ≤ a1.toInt ∧ a1.toInt ≤ 24) : oMet l 1 yX10_gather cX10_gather 3 none [(10, 4), (32, 9999)] E s [.ref (oad E 43), .int a1] (oPv (fun u => True)) := by
  refine oMet.of (lv := [(0, .ref (oad E 43)), (1, .int a1)]) (by decide +kernel) (Nat.le_of_ble_eq_true rfl) rfl (fun J C hT => ?_)
  have C : oC l 1 cX10_gather RX10 3 none [(10, 4), (32, 9999)] E s (oPv (fun u => True)) J := C
  obtain ⟨k0, qk0⟩ : ∃ z : Int32, z = 0 := ⟨_, rfl⟩
  have ek0 : k0.toInt = 0 := by rw [qk0]; rfl
  obtain ⟨k1, qk1⟩ : ∃ z : Int32, z = 1 := ⟨_, rfl⟩
  have ek1 : k1.toInt = 1 := by rw [qk1]; rfl
  obtain ⟨k12, qk12⟩ : ∃ z : Int32, z = 12 := ⟨_, rfl⟩
  have ek12 : k12.toInt = 12 := by rw [qk12]; rfl
  obtain ⟨k15, qk15⟩ : ∃ z : Int32, z = 15 := ⟨_, rfl⟩
  have ek15 : k15.toInt = 15 := by rw [qk15]; rfl
  obtain ⟨k4500, qk4500⟩ : ∃ z : Int32, z = 4500 := ⟨_, rfl⟩
  have ek4500 : k4500.toInt = 4500 := by rw [qk4500]; rfl
  have rg1 := n_rng a1
  have key : ∀ n : Nat, (∀ (t : oS) (x2 : Int32), (0 ≤ x2.toInt ∧ x2.toInt ≤ 180) → 181 - x2.toInt ≤ (n : Int) → J t 2 [(0, .ref (oad E 43)), (1, .int a1), (2, .int x2)] []) := by
    intro n
    induction n using Nat.strongRecOn with
    | _ n ih =>
      skip
      · intro t x2  iv0 hmu
        have rx2 := n_rng x2
        refine r_iload_n C (j := 2) (oDec_at oX10_gather 2 rfl) rfl rfl ?_
        refine r_aload_n C (j := 0) (oDec_at oX10_gather 3 rfl) rfl rfl ?_
        refine r_getF (k := 9) (b := 48) C oCl10 rfl (by decide) flX10_31 rfl rfl rfl (oDec_at oX10_gather 4 rfl) ?_
        obtain ⟨v1, ev1⟩ : ∃ z : Int32, Int32.ofNat 180 = z := ⟨_, rfl⟩
        have hv1 : v1.toInt = 180 := by rw [← ev1]; rfl
        refine r_alen0 (n := 180) C v1 rfl (by decide) rfl rfl (by decide) ev1 (oDec_at oX10_gather 5 rfl) ?_
        refine r_icmp_ge C 65 (oDec_at oX10_gather 6 rfl) (by decide) (fun cd2 => ?_) (fun cd2 => ?_)
        · skip
          exact r_vret C (oDec_at oX10_gather 37 rfl) ⟨rfl, trivial⟩
        · skip
          refine r_aload_n C (j := 0) (oDec_at oX10_gather 7 rfl) rfl rfl ?_
          refine r_getF (k := 9) (b := 48) C oCl10 rfl (by decide) flX10_31 rfl rfl rfl (oDec_at oX10_gather 8 rfl) ?_
          refine r_iload_n C (j := 2) (oDec_at oX10_gather 9 rfl) rfl rfl ?_
          obtain ⟨v3, ev3⟩ : ∃ z : Int32, (t).1 48 x2.toNatClampNeg = z := ⟨_, rfl⟩
          have rv3 := n_rng v3
          refine r_iald (n := 180) (lo := (-2147483648)) (hi := 2147483647) C v3 rfl (by decide) rfl rfl ⟨by omega, by omega⟩ (by decide) ev3 rfl rfl (oDec_at oX10_gather 10 rfl) (fun _ _ => ?_)
          refine r_iconst C (oDec_at oX10_gather 11 rfl) (v := k1) (by rw [qk1]; rfl) ?_
          refine r_icmp_ne C 59 (oDec_at oX10_gather 12 rfl) (by decide) (fun cd5 => ?_) (fun cd5 => ?_)
          · skip
            obtain ⟨v6, ev6⟩ : ∃ z : Int32, x2 + Int32.ofInt 1 = z := ⟨_, rfl⟩
            have hv6 : v6.toInt = x2.toInt + 1 := n_inc ev6 (by decide) (by omega) (by omega)
            refine r_iinc C (j := 2) (lv' := [(0, .ref (oad E 43)), (1, .int a1), (2, .int v6)]) v6 [1, 2, 0] (oDec_at oX10_gather 35 rfl) rfl ev6 (by decide) rfl ?_
            refine r_goto C (tgt := 2) (oDec_at oX10_gather 36 rfl) (by decide) ?_
            exact (ih (n - 1) (by omega)) (t) v6  (by omega) (by omega)
          · skip
            refine r_aload_n C (j := 0) (oDec_at oX10_gather 13 rfl) rfl rfl ?_
            obtain ⟨v7, ev7⟩ : ∃ z : Int32, (t).1 43 4 = z := ⟨_, rfl⟩
            have gv7 : (t.1 43 4).toInt = v7.toInt := congrArg Int32.toInt (ev7)
            refine r_geti (k := 4) (lo := 0) (hi := 4500) C v7 oCl10 rfl (by decide) flX10_50 rfl rfl (ev7) rfl rfl (oDec_at oX10_gather 14 rfl) (fun b8 b8h => ?_)
            refine r_sipush C (oDec_at oX10_gather 15 rfl) (v := k4500) (by rw [qk4500]; rfl) ?_
            refine r_icmp_ge C 59 (oDec_at oX10_gather 16 rfl) (by decide) (fun cd9 => ?_) (fun cd9 => ?_)
            · skip
              obtain ⟨v10, ev10⟩ : ∃ z : Int32, x2 + Int32.ofInt 1 = z := ⟨_, rfl⟩
              have hv10 : v10.toInt = x2.toInt + 1 := n_inc ev10 (by decide) (by omega) (by omega)
              refine r_iinc C (j := 2) (lv' := [(0, .ref (oad E 43)), (1, .int a1), (2, .int v10)]) v10 [1, 2, 0] (oDec_at oX10_gather 35 rfl) rfl ev10 (by decide) rfl ?_
              refine r_goto C (tgt := 2) (oDec_at oX10_gather 36 rfl) (by decide) ?_
              exact (ih (n - 1) (by omega)) (t) v10  (by omega) (by omega)
            · skip
              refine r_aload_n C (j := 0) (oDec_at oX10_gather 17 rfl) rfl rfl ?_
              refine r_getF (k := 5) (b := 44) C oCl10 rfl (by decide) flX10_18 rfl rfl rfl (oDec_at oX10_gather 18 rfl) ?_
              refine r_aload_n C (j := 0) (oDec_at oX10_gather 19 rfl) rfl rfl ?_
              refine r_geti (k := 4) (lo := 0) (hi := 4500) C v7 oCl10 rfl (by decide) flX10_50 rfl rfl (ev7) rfl rfl (oDec_at oX10_gather 20 rfl) (fun _ _ => ?_)
              refine r_iload_n C (j := 1) (oDec_at oX10_gather 21 rfl) rfl rfl ?_
              refine r_bipush C (oDec_at oX10_gather 22 rfl) (v := k15) (by rw [qk15]; rfl) ?_
              refine r_pc C 42 rfl ?_
              obtain ⟨v11, ev11⟩ : ∃ z : Int32, z = a1 * k15 := ⟨_, rfl⟩
              have hv11 : v11.toInt = a1.toInt * 15 := n_mulK 15 ev11 ek15 (by omega) (by omega)
              refine r_imul C v11 (oDec_at oX10_gather 23 rfl) ev11 ?_
              refine r_bipush C (oDec_at oX10_gather 24 rfl) (v := k12) (by rw [qk12]; rfl) ?_
              obtain ⟨v12, ev12⟩ : ∃ z : Int32, z = v11 * k12 := ⟨_, rfl⟩
              have hv12 : v12.toInt = v11.toInt * 12 := n_mulK 12 ev12 ek12 (by omega) (by omega)
              refine r_imul C v12 (oDec_at oX10_gather 25 rfl) ev12 ?_
              refine r_iload_n C (j := 2) (oDec_at oX10_gather 26 rfl) rfl rfl ?_
              obtain ⟨v13, ev13⟩ : ∃ z : Int32, z = v12 + x2 := ⟨_, rfl⟩
              have hv13 : v13.toInt = v12.toInt + x2.toInt := n_add ev13 (by omega) (by omega)
              refine r_iadd C v13 (oDec_at oX10_gather 27 rfl) ev13 ?_
              refine r_iast (n := 4500) (lo := 0) (hi := 4499) C rfl (by decide) rfl rfl ⟨by omega, by omega⟩ (by decide) rfl rfl rfl rfl ⟨by omega, by omega⟩ (oDec_at oX10_gather 28 rfl) ?_
              refine r_pc C 49 rfl ?_
              refine r_aload_n C (j := 0) (oDec_at oX10_gather 29 rfl) rfl rfl ?_
              refine r_dup C (oDec_at oX10_gather 30 rfl) rfl ?_
              refine r_geti (k := 4) (lo := 0) (hi := 4500) C v7 oCl10 rfl (by decide) flX10_50 rfl rfl (((pI_ne (a := 43) (b := 4) (c := 44) _ _ (Or.inl (by decide)))).trans (ev7)) rfl rfl (oDec_at oX10_gather 31 rfl) (fun _ _ => ?_)
              refine r_iconst C (oDec_at oX10_gather 32 rfl) (v := k1) (by rw [qk1]; rfl) ?_
              obtain ⟨v14, ev14⟩ : ∃ z : Int32, z = v7 + k1 := ⟨_, rfl⟩
              have hv14 : v14.toInt = v7.toInt + k1.toInt := n_add ev14 (by omega) (by omega)
              refine r_iadd C v14 (oDec_at oX10_gather 33 rfl) ev14 ?_
              refine r_puti (k := 4) (lo := 0) (hi := 4500) C oCl10 rfl (by decide) flX10_50 rfl rfl rfl rfl rfl rfl rfl rfl ⟨by omega, by omega⟩ (oDec_at oX10_gather 34 rfl) ?_
              refine r_pc C 59 rfl ?_
              obtain ⟨v15, ev15⟩ : ∃ z : Int32, x2 + Int32.ofInt 1 = z := ⟨_, rfl⟩
              have hv15 : v15.toInt = x2.toInt + 1 := n_inc ev15 (by decide) (by omega) (by omega)
              refine r_iinc C (j := 2) (lv' := [(0, .ref (oad E 43)), (1, .int a1), (2, .int v15)]) v15 [1, 2, 0] (oDec_at oX10_gather 35 rfl) rfl ev15 (by decide) rfl ?_
              refine r_goto C (tgt := 2) (oDec_at oX10_gather 36 rfl) (by decide) ?_
              exact (ih (n - 1) (by omega)) ((pI (pI t 44 v7.toNatClampNeg v13) 43 4 v14)) v15  (by omega) (by omega)
  refine r_iconst C (oDec_at oX10_gather 0 rfl) (v := k0) (by rw [qk0]; rfl) ?_
  refine r_istore_n C (lv' := [(0, .ref (oad E 43)), (1, .int a1), (2, .int k0)]) [1, 2, 0] (oDec_at oX10_gather 1 rfl) rfl (by decide) rfl ?_
  exact (key (181 - k0.toInt).toNat) (s) k0  (by omega) (by omega)
set_option maxHeartbeats 4000000 in
set_option maxRecDepth 100000 in
theorem ct_X10_senseOf (l : Launch) (E : oE) (s : oS) (c1 : Nat) (hk1 : okd c1 = 0)  : oMet l 4 yX10_senseOf cX10_senseOf 4 (some .int) [(24, 9999), (38, 9999)] E s [.ref (oad E 43), .ref (oad E c1)] (oPi (fun r u => True)) := by
  refine oMet.of (lv := [(0, .ref (oad E 43)), (1, .ref (oad E c1))]) (by decide +kernel) (Nat.le_of_ble_eq_true rfl) rfl (fun J C hT => ?_)
  have C : oC l 4 cX10_senseOf RX10 4 (some .int) [(24, 9999), (38, 9999)] E s (oPi (fun r u => True)) J := C
  obtain ⟨k0, qk0⟩ : ∃ z : Int32, z = 0 := ⟨_, rfl⟩
  have ek0 : k0.toInt = 0 := by rw [qk0]; rfl
  obtain ⟨k1, qk1⟩ : ∃ z : Int32, z = 1 := ⟨_, rfl⟩
  have ek1 : k1.toInt = 1 := by rw [qk1]; rfl
  obtain ⟨k2, qk2⟩ : ∃ z : Int32, z = 2 := ⟨_, rfl⟩
  have ek2 : k2.toInt = 2 := by rw [qk2]; rfl
  obtain ⟨k3, qk3⟩ : ∃ z : Int32, z = 3 := ⟨_, rfl⟩
  have ek3 : k3.toInt = 3 := by rw [qk3]; rfl
  obtain ⟨k4, qk4⟩ : ∃ z : Int32, z = 4 := ⟨_, rfl⟩
  have ek4 : k4.toInt = 4 := by rw [qk4]; rfl
  obtain ⟨k12, qk12⟩ : ∃ z : Int32, z = 12 := ⟨_, rfl⟩
  have ek12 : k12.toInt = 12 := by rw [qk12]; rfl
  have key : ∀ n : Nat, (∀ (t : oS) (x2 : Int32) (x3 : Int32), (0 ≤ x3.toInt ∧ x3.toInt ≤ 6) → 7 - x3.toInt ≤ (n : Int) → J t 69 [(0, .ref (oad E 43)), (1, .ref (oad E c1)), (2, .int x2), (3, .int x3)] []) := by
    intro n
    induction n using Nat.strongRecOn with
    | _ n ih =>
      skip
      · intro t x2 x3  iv0 hmu
        have rx2 := n_rng x2
        have rx3 := n_rng x3
        refine r_iload_n C (j := 3) (oDec_at oX10_senseOf 39 rfl) rfl rfl ?_
        refine r_aload_n C (j := 1) (oDec_at oX10_senseOf 40 rfl) rfl rfl ?_
        obtain ⟨v1, ev1⟩ : ∃ z : Int32, (t).1 c1 8 = z := ⟨_, rfl⟩
        have gv1 : (t.1 c1 8).toInt = v1.toInt := congrArg Int32.toInt (ev1)
        refine r_getiN (k := 8) (lo := 0) (hi := 6) C v1 oCl0 hk1 (by decide) flX10_112 rfl rfl (ev1) rfl rfl (oDec_at oX10_senseOf 41 rfl) (fun b2 b2h => ?_)
        refine r_icmp_ge C 108 (oDec_at oX10_senseOf 42 rfl) (by decide) (fun cd3 => ?_) (fun cd3 => ?_)
        · skip
          refine r_iload_n C (j := 2) (oDec_at oX10_senseOf 61 rfl) rfl rfl ?_
          exact r_iret C (oDec_at oX10_senseOf 62 rfl) ⟨_, rfl, trivial⟩
        · skip
          refine r_iload_n C (j := 2) (oDec_at oX10_senseOf 43 rfl) rfl rfl ?_
          refine r_aload_n C (j := 1) (oDec_at oX10_senseOf 44 rfl) rfl rfl ?_
          refine r_bipush C (oDec_at oX10_senseOf 45 rfl) (v := k12) (by rw [qk12]; rfl) ?_
          refine r_iload_n C (j := 3) (oDec_at oX10_senseOf 46 rfl) rfl rfl ?_
          obtain ⟨v4, ev4⟩ : ∃ z : Int32, z = k12 + x3 := ⟨_, rfl⟩
          have hv4 : v4.toInt = k12.toInt + x3.toInt := n_add ev4 (by omega) (by omega)
          refine r_iadd C v4 (oDec_at oX10_senseOf 47 rfl) ev4 ?_
          refine r_aload_n C (j := 0) (oDec_at oX10_senseOf 48 rfl) rfl rfl ?_
          refine r_pc C 84 rfl ?_
          refine r_getF (k := 11) (b := 50) C oCl10 rfl (by decide) flX10_37 rfl rfl rfl (oDec_at oX10_senseOf 49 rfl) ?_
          refine r_callVi C oCl0 hk1 miX0_holds mlX10_137 (ct_X0_holds l E (t) c1 hk1 v4 50 38 5 rfl (by decide) (by decide) rfl rfl (by omega)) (by decide) rfl rfl rfl (Nat.le_of_ble_eq_true rfl) (oDec_at oX10_senseOf 50 rfl) (fun r6 u5 pu5 fu5 => ?_)
          try dsimp only at pu5
          have rr6 := n_rng r6
          refine r_if_eq C 99 (oDec_at oX10_senseOf 51 rfl) (by decide) (fun cd7 => ?_) (fun cd7 => ?_)
          · skip
            refine r_iconst C (oDec_at oX10_senseOf 56 rfl) (v := k0) (by rw [qk0]; rfl) ?_
            obtain ⟨v8, ev8⟩ : ∃ z : Int32, z = x2 ||| k0 := ⟨_, rfl⟩
            have rv8 := n_rng v8
            refine r_ior C v8 (oDec_at oX10_senseOf 57 rfl) ev8 ?_
            refine r_istore_n C (lv' := [(0, .ref (oad E 43)), (1, .ref (oad E c1)), (2, .int v8), (3, .int x3)]) [1, 2, 0, 3] (oDec_at oX10_senseOf 58 rfl) rfl (by decide) rfl ?_
            obtain ⟨v9, ev9⟩ : ∃ z : Int32, x3 + Int32.ofInt 1 = z := ⟨_, rfl⟩
            have hv9 : v9.toInt = x3.toInt + 1 := n_inc ev9 (by decide) (by omega) (by omega)
            refine r_iinc C (j := 3) (lv' := [(0, .ref (oad E 43)), (1, .ref (oad E c1)), (2, .int v8), (3, .int v9)]) v9 [1, 2, 3, 0] (oDec_at oX10_senseOf 59 rfl) rfl ev9 (by decide) rfl ?_
            refine r_goto C (tgt := 69) (oDec_at oX10_senseOf 60 rfl) (by decide) ?_
            exact (ih (n - 1) (by omega)) (u5) v8 v9  (by omega) (by omega)
          · skip
            refine r_iconst C (oDec_at oX10_senseOf 52 rfl) (v := k1) (by rw [qk1]; rfl) ?_
            refine r_iload_n C (j := 3) (oDec_at oX10_senseOf 53 rfl) rfl rfl ?_
            obtain ⟨v10, ev10⟩ : ∃ z : Int32, z = k1 <<< (x3 &&& 31) := ⟨_, rfl⟩
            have rv10 := n_rng v10
            refine r_ishl C v10 (oDec_at oX10_senseOf 54 rfl) ev10 ?_
            refine r_goto C (tgt := 100) (oDec_at oX10_senseOf 55 rfl) (by decide) ?_
            obtain ⟨v11, ev11⟩ : ∃ z : Int32, z = x2 ||| v10 := ⟨_, rfl⟩
            have rv11 := n_rng v11
            refine r_ior C v11 (oDec_at oX10_senseOf 57 rfl) ev11 ?_
            refine r_istore_n C (lv' := [(0, .ref (oad E 43)), (1, .ref (oad E c1)), (2, .int v11), (3, .int x3)]) [1, 2, 0, 3] (oDec_at oX10_senseOf 58 rfl) rfl (by decide) rfl ?_
            obtain ⟨v12, ev12⟩ : ∃ z : Int32, x3 + Int32.ofInt 1 = z := ⟨_, rfl⟩
            have hv12 : v12.toInt = x3.toInt + 1 := n_inc ev12 (by decide) (by omega) (by omega)
            refine r_iinc C (j := 3) (lv' := [(0, .ref (oad E 43)), (1, .ref (oad E c1)), (2, .int v11), (3, .int v12)]) v12 [1, 2, 3, 0] (oDec_at oX10_senseOf 59 rfl) rfl ev12 (by decide) rfl ?_
            refine r_pc C 105 rfl ?_
            refine r_goto C (tgt := 69) (oDec_at oX10_senseOf 60 rfl) (by decide) ?_
            exact (ih (n - 1) (by omega)) (u5) v11 v12  (by omega) (by omega)
  refine r_aload_n C (j := 0) (oDec_at oX10_senseOf 0 rfl) rfl rfl ?_
  refine r_getF (k := 11) (b := 50) C oCl10 rfl (by decide) flX10_37 rfl rfl rfl (oDec_at oX10_senseOf 1 rfl) ?_
  refine r_iconst C (oDec_at oX10_senseOf 2 rfl) (v := k0) (by rw [qk0]; rfl) ?_
  refine r_aload_n C (j := 0) (oDec_at oX10_senseOf 3 rfl) rfl rfl ?_
  refine r_getF (k := 12) (b := 51) C oCl10 rfl (by decide) flX10_43 rfl rfl rfl (oDec_at oX10_senseOf 4 rfl) ?_
  obtain ⟨v13, ev13⟩ : ∃ z : Int32, (s).1 51 0 = z := ⟨_, rfl⟩
  have gv13 : (s.1 51 0).toInt = v13.toInt := congrArg Int32.toInt (ev13)
  have rv13 := n_rng v13
  refine r_getiN (k := 0) (lo := (-2147483648)) (hi := 2147483647) C v13 oCl9 rfl (by decide) flX10_122 rfl rfl (ev13) rfl rfl (oDec_at oX10_senseOf 5 rfl) (fun _ _ => ?_)
  refine r_pc C 12 rfl ?_
  refine r_iast (n := 5) (lo := (-2147483648)) (hi := 2147483647) C rfl (by decide) rfl rfl ⟨by omega, by omega⟩ (by decide) rfl rfl rfl rfl (n_rng _) (oDec_at oX10_senseOf 6 rfl) ?_
  refine r_aload_n C (j := 0) (oDec_at oX10_senseOf 7 rfl) rfl rfl ?_
  refine r_getF (k := 11) (b := 50) C oCl10 rfl (by decide) flX10_37 rfl rfl rfl (oDec_at oX10_senseOf 8 rfl) ?_
  refine r_iconst C (oDec_at oX10_senseOf 9 rfl) (v := k1) (by rw [qk1]; rfl) ?_
  refine r_aload_n C (j := 0) (oDec_at oX10_senseOf 10 rfl) rfl rfl ?_
  refine r_getF (k := 12) (b := 51) C oCl10 rfl (by decide) flX10_43 rfl rfl rfl (oDec_at oX10_senseOf 11 rfl) ?_
  refine r_pc C 22 rfl ?_
  obtain ⟨v14, ev14⟩ : ∃ z : Int32, ((pI s 50 k0.toNatClampNeg v13)).1 51 1 = z := ⟨_, rfl⟩
  have gv14 : (s.1 51 1).toInt = v14.toInt := congrArg Int32.toInt (((pI_ne (a := 51) (b := 1) (c := 50) _ _ (Or.inl (by decide)))).symm.trans ev14)
  have rv14 := n_rng v14
  refine r_getiN (k := 1) (lo := (-2147483648)) (hi := 2147483647) C v14 oCl9 rfl (by decide) flX10_125 rfl rfl (ev14) rfl rfl (oDec_at oX10_senseOf 12 rfl) (fun _ _ => ?_)
  refine r_iast (n := 5) (lo := (-2147483648)) (hi := 2147483647) C rfl (by decide) rfl rfl ⟨by omega, by omega⟩ (by decide) rfl rfl rfl rfl (n_rng _) (oDec_at oX10_senseOf 13 rfl) ?_
  refine r_aload_n C (j := 0) (oDec_at oX10_senseOf 14 rfl) rfl rfl ?_
  refine r_getF (k := 11) (b := 50) C oCl10 rfl (by decide) flX10_37 rfl rfl rfl (oDec_at oX10_senseOf 15 rfl) ?_
  refine r_iconst C (oDec_at oX10_senseOf 16 rfl) (v := k2) (by rw [qk2]; rfl) ?_
  refine r_aload_n C (j := 0) (oDec_at oX10_senseOf 17 rfl) rfl rfl ?_
  refine r_pc C 32 rfl ?_
  refine r_getF (k := 12) (b := 51) C oCl10 rfl (by decide) flX10_43 rfl rfl rfl (oDec_at oX10_senseOf 18 rfl) ?_
  obtain ⟨v15, ev15⟩ : ∃ z : Int32, ((pI (pI s 50 k0.toNatClampNeg v13) 50 k1.toNatClampNeg v14)).1 51 2 = z := ⟨_, rfl⟩
  have gv15 : (s.1 51 2).toInt = v15.toInt := congrArg Int32.toInt ((((pI_ne (a := 51) (b := 2) (c := 50) _ _ (Or.inl (by decide)))).trans ((pI_ne (a := 51) (b := 2) (c := 50) _ _ (Or.inl (by decide))))).symm.trans ev15)
  have rv15 := n_rng v15
  refine r_getiN (k := 2) (lo := (-2147483648)) (hi := 2147483647) C v15 oCl9 rfl (by decide) flX10_128 rfl rfl (ev15) rfl rfl (oDec_at oX10_senseOf 19 rfl) (fun _ _ => ?_)
  refine r_iast (n := 5) (lo := (-2147483648)) (hi := 2147483647) C rfl (by decide) rfl rfl ⟨by omega, by omega⟩ (by decide) rfl rfl rfl rfl (n_rng _) (oDec_at oX10_senseOf 20 rfl) ?_
  refine r_aload_n C (j := 0) (oDec_at oX10_senseOf 21 rfl) rfl rfl ?_
  refine r_getF (k := 11) (b := 50) C oCl10 rfl (by decide) flX10_37 rfl rfl rfl (oDec_at oX10_senseOf 22 rfl) ?_
  refine r_iconst C (oDec_at oX10_senseOf 23 rfl) (v := k3) (by rw [qk3]; rfl) ?_
  refine r_pc C 44 rfl ?_
  refine r_aload_n C (j := 0) (oDec_at oX10_senseOf 24 rfl) rfl rfl ?_
  refine r_getF (k := 12) (b := 51) C oCl10 rfl (by decide) flX10_43 rfl rfl rfl (oDec_at oX10_senseOf 25 rfl) ?_
  obtain ⟨v16, ev16⟩ : ∃ z : Int32, ((pI (pI (pI s 50 k0.toNatClampNeg v13) 50 k1.toNatClampNeg v14) 50 k2.toNatClampNeg v15)).1 51 3 = z := ⟨_, rfl⟩
  have gv16 : (s.1 51 3).toInt = v16.toInt := congrArg Int32.toInt ((((pI_ne (a := 51) (b := 3) (c := 50) _ _ (Or.inl (by decide)))).trans (((pI_ne (a := 51) (b := 3) (c := 50) _ _ (Or.inl (by decide)))).trans ((pI_ne (a := 51) (b := 3) (c := 50) _ _ (Or.inl (by decide)))))).symm.trans ev16)
  have rv16 := n_rng v16
  refine r_getiN (k := 3) (lo := (-2147483648)) (hi := 2147483647) C v16 oCl9 rfl (by decide) flX10_131 rfl rfl (ev16) rfl rfl (oDec_at oX10_senseOf 26 rfl) (fun _ _ => ?_)
  refine r_iast (n := 5) (lo := (-2147483648)) (hi := 2147483647) C rfl (by decide) rfl rfl ⟨by omega, by omega⟩ (by decide) rfl rfl rfl rfl (n_rng _) (oDec_at oX10_senseOf 27 rfl) ?_
  refine r_aload_n C (j := 0) (oDec_at oX10_senseOf 28 rfl) rfl rfl ?_
  refine r_getF (k := 11) (b := 50) C oCl10 rfl (by decide) flX10_37 rfl rfl rfl (oDec_at oX10_senseOf 29 rfl) ?_
  refine r_pc C 56 rfl ?_
  refine r_iconst C (oDec_at oX10_senseOf 30 rfl) (v := k4) (by rw [qk4]; rfl) ?_
  refine r_aload_n C (j := 0) (oDec_at oX10_senseOf 31 rfl) rfl rfl ?_
  refine r_getF (k := 12) (b := 51) C oCl10 rfl (by decide) flX10_43 rfl rfl rfl (oDec_at oX10_senseOf 32 rfl) ?_
  obtain ⟨v17, ev17⟩ : ∃ z : Int32, ((pI (pI (pI (pI s 50 k0.toNatClampNeg v13) 50 k1.toNatClampNeg v14) 50 k2.toNatClampNeg v15) 50 k3.toNatClampNeg v16)).1 51 4 = z := ⟨_, rfl⟩
  have gv17 : (s.1 51 4).toInt = v17.toInt := congrArg Int32.toInt ((((pI_ne (a := 51) (b := 4) (c := 50) _ _ (Or.inl (by decide)))).trans (((pI_ne (a := 51) (b := 4) (c := 50) _ _ (Or.inl (by decide)))).trans (((pI_ne (a := 51) (b := 4) (c := 50) _ _ (Or.inl (by decide)))).trans ((pI_ne (a := 51) (b := 4) (c := 50) _ _ (Or.inl (by decide))))))).symm.trans ev17)
  have rv17 := n_rng v17
  refine r_getiN (k := 4) (lo := (-2147483648)) (hi := 2147483647) C v17 oCl9 rfl (by decide) flX10_134 rfl rfl (ev17) rfl rfl (oDec_at oX10_senseOf 33 rfl) (fun _ _ => ?_)
  refine r_iast (n := 5) (lo := (-2147483648)) (hi := 2147483647) C rfl (by decide) rfl rfl ⟨by omega, by omega⟩ (by decide) rfl rfl rfl rfl (n_rng _) (oDec_at oX10_senseOf 34 rfl) ?_
  refine r_iconst C (oDec_at oX10_senseOf 35 rfl) (v := k0) (by rw [qk0]; rfl) ?_
  refine r_pc C 66 rfl ?_
  refine r_istore_n C (lv' := [(0, .ref (oad E 43)), (1, .ref (oad E c1)), (2, .int k0)]) [1, 2, 0] (oDec_at oX10_senseOf 36 rfl) rfl (by decide) rfl ?_
  refine r_iconst C (oDec_at oX10_senseOf 37 rfl) (v := k0) (by rw [qk0]; rfl) ?_
  refine r_istore_n C (lv' := [(0, .ref (oad E 43)), (1, .ref (oad E c1)), (2, .int k0), (3, .int k0)]) [1, 2, 3, 0] (oDec_at oX10_senseOf 38 rfl) rfl (by decide) rfl ?_
  exact (key (7 - k0.toInt).toNat) ((pI (pI (pI (pI (pI s 50 k0.toNatClampNeg v13) 50 k1.toNatClampNeg v14) 50 k2.toNatClampNeg v15) 50 k3.toNatClampNeg v16) 50 k4.toNatClampNeg v17)) k0 k0  (by omega) (by omega)
set_option maxHeartbeats 4000000 in
set_option maxRecDepth 100000 in
theorem ct_X10_weigh (l : Launch) (E : oE) (s : oS) (c1 : Nat) (hk1 : okd c1 = 0)  : oMet l 5 yX10_weigh cX10_weigh 3 none [(9, 0), (9, 1), (9, 2), (9, 3), (9, 4), (24, 9999), (33, 9999), (38, 9999)] E s [.ref (oad E 43), .ref (oad E c1)] (oPv (fun u => True)) := by
  refine oMet.of (lv := [(0, .ref (oad E 43)), (1, .ref (oad E c1))]) (by decide +kernel) (Nat.le_of_ble_eq_true rfl) rfl (fun J C hT => ?_)
  have C : oC l 5 cX10_weigh RX10 3 none [(9, 0), (9, 1), (9, 2), (9, 3), (9, 4), (24, 9999), (33, 9999), (38, 9999)] E s (oPv (fun u => True)) J := C
  obtain ⟨k0, qk0⟩ : ∃ z : Int32, z = 0 := ⟨_, rfl⟩
  have ek0 : k0.toInt = 0 := by rw [qk0]; rfl
  obtain ⟨k4500, qk4500⟩ : ∃ z : Int32, z = 4500 := ⟨_, rfl⟩
  have ek4500 : k4500.toInt = 4500 := by rw [qk4500]; rfl
  have key : ∀ n : Nat, (∀ (t : oS) (x2 : Int32), (0 ≤ x2.toInt ∧ x2.toInt ≤ 4500) → 4501 - x2.toInt ≤ (n : Int) → J t 2 [(0, .ref (oad E 43)), (1, .ref (oad E c1)), (2, .int x2)] []) := by
    intro n
    induction n using Nat.strongRecOn with
    | _ n ih =>
      skip
      · intro t x2  iv0 hmu
        have rx2 := n_rng x2
        refine r_iload_n C (j := 2) (oDec_at oX10_weigh 2 rfl) rfl rfl ?_
        refine r_aload_n C (j := 0) (oDec_at oX10_weigh 3 rfl) rfl rfl ?_
        obtain ⟨v1, ev1⟩ : ∃ z : Int32, (t).1 43 4 = z := ⟨_, rfl⟩
        have gv1 : (t.1 43 4).toInt = v1.toInt := congrArg Int32.toInt (ev1)
        refine r_geti (k := 4) (lo := 0) (hi := 4500) C v1 oCl10 rfl (by decide) flX10_50 rfl rfl (ev1) rfl rfl (oDec_at oX10_weigh 4 rfl) (fun b2 b2h => ?_)
        refine r_icmp_ge C 61 (oDec_at oX10_weigh 5 rfl) (by decide) (fun cd3 => ?_) (fun cd3 => ?_)
        · skip
          exact r_vret C (oDec_at oX10_weigh 33 rfl) ⟨rfl, trivial⟩
        · skip
          refine r_iload_n C (j := 2) (oDec_at oX10_weigh 6 rfl) rfl rfl ?_
          refine r_sipush C (oDec_at oX10_weigh 7 rfl) (v := k4500) (by rw [qk4500]; rfl) ?_
          refine r_icmp_ge C 61 (oDec_at oX10_weigh 8 rfl) (by decide) (fun cd4 => ?_) (fun cd4 => ?_)
          · skip
            exact r_vret C (oDec_at oX10_weigh 33 rfl) ⟨rfl, trivial⟩
          · skip
            refine r_aload_n C (j := 0) (oDec_at oX10_weigh 9 rfl) rfl rfl ?_
            refine r_getF (k := 6) (b := 45) C oCl10 rfl (by decide) flX10_22 rfl rfl rfl (oDec_at oX10_weigh 10 rfl) ?_
            refine r_iload_n C (j := 2) (oDec_at oX10_weigh 11 rfl) rfl rfl ?_
            refine r_iconst C (oDec_at oX10_weigh 12 rfl) (v := k0) (by rw [qk0]; rfl) ?_
            refine r_iast (n := 4500) (lo := (-2147483648)) (hi := 2147483647) C rfl (by decide) rfl rfl ⟨by omega, by omega⟩ (by decide) rfl rfl rfl rfl (n_rng _) (oDec_at oX10_weigh 13 rfl) ?_
            refine r_aload_n C (j := 1) (oDec_at oX10_weigh 14 rfl) rfl rfl ?_
            refine r_pc C 25 rfl ?_
            obtain ⟨v5, ev5⟩ : ∃ z : Int32, ((pI t 45 x2.toNatClampNeg k0)).1 c1 8 = z := ⟨_, rfl⟩
            have gv5 : (t.1 c1 8).toInt = v5.toInt := congrArg Int32.toInt (((pI_ne _ _ (Or.inl (okd_ne hk1 rfl (by decide))))).symm.trans ev5)
            refine r_getiN (k := 8) (lo := 0) (hi := 6) C v5 oCl0 hk1 (by decide) flX10_112 rfl rfl (ev5) rfl rfl (oDec_at oX10_weigh 15 rfl) (fun b6 b6h => ?_)
            refine r_if_le C 55 (oDec_at oX10_weigh 16 rfl) (by decide) (fun cd7 => ?_) (fun cd7 => ?_)
            · skip
              obtain ⟨v8, ev8⟩ : ∃ z : Int32, x2 + Int32.ofInt 1 = z := ⟨_, rfl⟩
              have hv8 : v8.toInt = x2.toInt + 1 := n_inc ev8 (by decide) (by omega) (by omega)
              refine r_iinc C (j := 2) (lv' := [(0, .ref (oad E 43)), (1, .ref (oad E c1)), (2, .int v8)]) v8 [1, 2, 0] (oDec_at oX10_weigh 31 rfl) rfl ev8 (by decide) rfl ?_
              refine r_goto C (tgt := 2) (oDec_at oX10_weigh 32 rfl) (by decide) ?_
              exact (ih (n - 1) (by omega)) ((pI t 45 x2.toNatClampNeg k0)) v8  (by omega) (by omega)
            · skip
              refine r_aload_n C (j := 0) (oDec_at oX10_weigh 17 rfl) rfl rfl ?_
              refine r_getF (k := 12) (b := 51) C oCl10 rfl (by decide) flX10_43 rfl rfl rfl (oDec_at oX10_weigh 18 rfl) ?_
              refine r_aload_n C (j := 0) (oDec_at oX10_weigh 19 rfl) rfl rfl ?_
              refine r_getF (k := 5) (b := 44) C oCl10 rfl (by decide) flX10_18 rfl rfl rfl (oDec_at oX10_weigh 20 rfl) ?_
              refine r_iload_n C (j := 2) (oDec_at oX10_weigh 21 rfl) rfl rfl ?_
              obtain ⟨v9, ev9⟩ : ∃ z : Int32, ((pI t 45 x2.toNatClampNeg k0)).1 44 x2.toNatClampNeg = z := ⟨_, rfl⟩
              refine r_iald (n := 4500) (lo := 0) (hi := 4499) C v9 rfl (by decide) rfl rfl ⟨by omega, by omega⟩ (by decide) ev9 rfl rfl (oDec_at oX10_weigh 22 rfl) (fun b10 b10h => ?_)
              refine r_pc C 41 rfl ?_
              refine r_callVv C oCl9 rfl miX9_take mlX10_115 (ct_X9_take l E ((pI t 45 x2.toNatClampNeg k0)) 51 rfl v9 ) (by decide) rfl rfl rfl (Nat.le_of_ble_eq_true rfl) (oDec_at oX10_weigh 23 rfl) (fun u11 pu11 fu11 => ?_)
              try dsimp only at pu11
              refine r_aload_n C (j := 0) (oDec_at oX10_weigh 24 rfl) rfl rfl ?_
              refine r_getF (k := 6) (b := 45) C oCl10 rfl (by decide) flX10_22 rfl rfl rfl (oDec_at oX10_weigh 25 rfl) ?_
              refine r_iload_n C (j := 2) (oDec_at oX10_weigh 26 rfl) rfl rfl ?_
              refine r_aload_n C (j := 0) (oDec_at oX10_weigh 27 rfl) rfl rfl ?_
              refine r_aload_n C (j := 1) (oDec_at oX10_weigh 28 rfl) rfl rfl ?_
              refine r_pc C 51 rfl ?_
              refine r_callVi C oCl10 rfl miX10_senseOf mlX10_118 (ct_X10_senseOf l E (u11) c1 hk1 ) (by decide) rfl rfl rfl (Nat.le_of_ble_eq_true rfl) (oDec_at oX10_weigh 29 rfl) (fun r14 u13 pu13 fu13 => ?_)
              try dsimp only at pu13
              have rr14 := n_rng r14
              refine r_iast (n := 4500) (lo := (-2147483648)) (hi := 2147483647) C rfl (by decide) rfl rfl ⟨by omega, by omega⟩ (by decide) rfl rfl rfl rfl (n_rng _) (oDec_at oX10_weigh 30 rfl) ?_
              obtain ⟨v15, ev15⟩ : ∃ z : Int32, x2 + Int32.ofInt 1 = z := ⟨_, rfl⟩
              have hv15 : v15.toInt = x2.toInt + 1 := n_inc ev15 (by decide) (by omega) (by omega)
              refine r_iinc C (j := 2) (lv' := [(0, .ref (oad E 43)), (1, .ref (oad E c1)), (2, .int v15)]) v15 [1, 2, 0] (oDec_at oX10_weigh 31 rfl) rfl ev15 (by decide) rfl ?_
              refine r_goto C (tgt := 2) (oDec_at oX10_weigh 32 rfl) (by decide) ?_
              exact (ih (n - 1) (by omega)) ((pI u13 45 x2.toNatClampNeg r14)) v15  (by omega) (by omega)
  refine r_iconst C (oDec_at oX10_weigh 0 rfl) (v := k0) (by rw [qk0]; rfl) ?_
  refine r_istore_n C (lv' := [(0, .ref (oad E 43)), (1, .ref (oad E c1)), (2, .int k0)]) [1, 2, 0] (oDec_at oX10_weigh 1 rfl) rfl (by decide) rfl ?_
  exact (key (4501 - k0.toInt).toNat) (s) k0  (by omega) (by omega)
set_option maxHeartbeats 4000000 in
set_option maxRecDepth 100000 in
theorem ct_X10_holds (l : Launch) (E : oE) (s : oS) (a1 : Int32)  : oMet l 1 yX10_holds cX10_holds 2 (some .boolean) [] E s [.ref (oad E 43), .int a1] (oPi (fun r u => (0 ≤ r.toInt ∧ r.toInt ≤ 1) ∧ ((r.toInt = 1 ∧ 0 ≤ a1.toInt ∧ a1.toInt < (s.1 43 4).toInt ∧ a1.toInt < 4500) ∨ r.toInt = 0))) := by
  refine oMet.of (lv := [(0, .ref (oad E 43)), (1, .int a1)]) (by decide +kernel) (Nat.le_of_ble_eq_true rfl) rfl (fun J C hT => ?_)
  have C : oC l 1 cX10_holds RX10 2 (some .boolean) [] E s (oPi (fun r u => (0 ≤ r.toInt ∧ r.toInt ≤ 1) ∧ ((r.toInt = 1 ∧ 0 ≤ a1.toInt ∧ a1.toInt < (s.1 43 4).toInt ∧ a1.toInt < 4500) ∨ r.toInt = 0))) J := C
  obtain ⟨k0, qk0⟩ : ∃ z : Int32, z = 0 := ⟨_, rfl⟩
  have ek0 : k0.toInt = 0 := by rw [qk0]; rfl
  obtain ⟨k1, qk1⟩ : ∃ z : Int32, z = 1 := ⟨_, rfl⟩
  have ek1 : k1.toInt = 1 := by rw [qk1]; rfl
  obtain ⟨k4500, qk4500⟩ : ∃ z : Int32, z = 4500 := ⟨_, rfl⟩
  have ek4500 : k4500.toInt = 4500 := by rw [qk4500]; rfl
  have rg1 := n_rng a1
  refine r_iload_n C (j := 1) (oDec_at oX10_holds 0 rfl) rfl rfl ?_
  refine r_if_lt C 23 (oDec_at oX10_holds 1 rfl) (by decide) (fun cd1 => ?_) (fun cd1 => ?_)
  · skip
    refine r_iconst C (oDec_at oX10_holds 11 rfl) (v := k0) (by rw [qk0]; rfl) ?_
    exact r_zret C (n_bool (by omega)) (oDec_at oX10_holds 12 rfl) ⟨_, rfl, ⟨by omega, by omega⟩⟩
  · skip
    refine r_iload_n C (j := 1) (oDec_at oX10_holds 2 rfl) rfl rfl ?_
    refine r_aload_n C (j := 0) (oDec_at oX10_holds 3 rfl) rfl rfl ?_
    obtain ⟨v2, ev2⟩ : ∃ z : Int32, (s).1 43 4 = z := ⟨_, rfl⟩
    have gv2 : (s.1 43 4).toInt = v2.toInt := congrArg Int32.toInt (ev2)
    refine r_geti (k := 4) (lo := 0) (hi := 4500) C v2 oCl10 rfl (by decide) flX10_50 rfl rfl (ev2) rfl rfl (oDec_at oX10_holds 4 rfl) (fun b3 b3h => ?_)
    refine r_icmp_ge C 23 (oDec_at oX10_holds 5 rfl) (by decide) (fun cd4 => ?_) (fun cd4 => ?_)
    · skip
      refine r_iconst C (oDec_at oX10_holds 11 rfl) (v := k0) (by rw [qk0]; rfl) ?_
      exact r_zret C (n_bool (by omega)) (oDec_at oX10_holds 12 rfl) ⟨_, rfl, ⟨by omega, by omega⟩⟩
    · skip
      refine r_iload_n C (j := 1) (oDec_at oX10_holds 6 rfl) rfl rfl ?_
      refine r_sipush C (oDec_at oX10_holds 7 rfl) (v := k4500) (by rw [qk4500]; rfl) ?_
      refine r_icmp_ge C 23 (oDec_at oX10_holds 8 rfl) (by decide) (fun cd5 => ?_) (fun cd5 => ?_)
      · skip
        refine r_iconst C (oDec_at oX10_holds 11 rfl) (v := k0) (by rw [qk0]; rfl) ?_
        exact r_zret C (n_bool (by omega)) (oDec_at oX10_holds 12 rfl) ⟨_, rfl, ⟨by omega, by omega⟩⟩
      · skip
        refine r_iconst C (oDec_at oX10_holds 9 rfl) (v := k1) (by rw [qk1]; rfl) ?_
        refine r_goto C (tgt := 24) (oDec_at oX10_holds 10 rfl) (by decide) ?_
        exact r_zret C (n_bool (by omega)) (oDec_at oX10_holds 12 rfl) ⟨_, rfl, ⟨by omega, by omega⟩⟩
set_option maxHeartbeats 4000000 in
set_option maxRecDepth 100000 in
theorem ct_X10_codeOf (l : Launch) (E : oE) (s : oS) (a1 : Int32)  : oMet l 2 yX10_codeOf cX10_codeOf 2 (some .int) [] E s [.ref (oad E 43), .int a1] (oPi (fun r u => (r.toInt = -1 ∨ (0 ≤ r.toInt ∧ r.toInt ≤ 4499)))) := by
  refine oMet.of (lv := [(0, .ref (oad E 43)), (1, .int a1)]) (by decide +kernel) (Nat.le_of_ble_eq_true rfl) rfl (fun J C hT => ?_)
  have C : oC l 2 cX10_codeOf RX10 2 (some .int) [] E s (oPi (fun r u => (r.toInt = -1 ∨ (0 ≤ r.toInt ∧ r.toInt ≤ 4499)))) J := C
  obtain ⟨km1, qkm1⟩ : ∃ z : Int32, z = (-1) := ⟨_, rfl⟩
  have ekm1 : km1.toInt = (-1) := by rw [qkm1]; rfl
  have rg1 := n_rng a1
  refine r_aload_n C (j := 0) (oDec_at oX10_codeOf 0 rfl) rfl rfl ?_
  refine r_iload_n C (j := 1) (oDec_at oX10_codeOf 1 rfl) rfl rfl ?_
  refine r_callVi C oCl10 rfl miX10_holds mlX10_141 (ct_X10_holds l E (s) a1 ) (by decide) rfl rfl rfl (Nat.le_of_ble_eq_true rfl) (oDec_at oX10_codeOf 2 rfl) (fun r2 u1 pu1 fu1 => ?_)
  try dsimp only at pu1
  have rr2 := n_rng r2
  refine r_if_eq C 17 (oDec_at oX10_codeOf 3 rfl) (by decide) (fun cd3 => ?_) (fun cd3 => ?_)
  · skip
    refine r_iconst C (oDec_at oX10_codeOf 9 rfl) (v := km1) (by rw [qkm1]; rfl) ?_
    exact r_iret C (oDec_at oX10_codeOf 10 rfl) ⟨_, rfl, by omega⟩
  · skip
    refine r_aload_n C (j := 0) (oDec_at oX10_codeOf 4 rfl) rfl rfl ?_
    refine r_getF (k := 5) (b := 44) C oCl10 rfl (by decide) flX10_18 rfl rfl rfl (oDec_at oX10_codeOf 5 rfl) ?_
    refine r_iload_n C (j := 1) (oDec_at oX10_codeOf 6 rfl) rfl rfl ?_
    obtain ⟨v4, ev4⟩ : ∃ z : Int32, (u1).1 44 a1.toNatClampNeg = z := ⟨_, rfl⟩
    refine r_iald (n := 4500) (lo := 0) (hi := 4499) C v4 rfl (by decide) rfl rfl ⟨by omega, by omega⟩ (by decide) ev4 rfl rfl (oDec_at oX10_codeOf 7 rfl) (fun b5 b5h => ?_)
    refine r_goto C (tgt := 18) (oDec_at oX10_codeOf 8 rfl) (by decide) ?_
    exact r_iret C (oDec_at oX10_codeOf 10 rfl) ⟨_, rfl, by omega⟩
set_option maxHeartbeats 4000000 in
set_option maxRecDepth 100000 in
theorem ct_X10_countBroken (l : Launch) (E : oE) (s : oS) (a1 : Int32)  : oMet l 1 yX10_countBroken cX10_countBroken 2 (some .int) [] E s [.ref (oad E 43), .int a1] (oPi (fun r u => True)) := by
  refine oMet.of (lv := [(0, .ref (oad E 43)), (1, .int a1)]) (by decide +kernel) (Nat.le_of_ble_eq_true rfl) rfl (fun J C hT => ?_)
  have C : oC l 1 cX10_countBroken RX10 2 (some .int) [] E s (oPi (fun r u => True)) J := C
  obtain ⟨km1, qkm1⟩ : ∃ z : Int32, z = (-1) := ⟨_, rfl⟩
  have ekm1 : km1.toInt = (-1) := by rw [qkm1]; rfl
  obtain ⟨k12, qk12⟩ : ∃ z : Int32, z = 12 := ⟨_, rfl⟩
  have ek12 : k12.toInt = 12 := by rw [qk12]; rfl
  have rg1 := n_rng a1
  refine r_iload_n C (j := 1) (oDec_at oX10_countBroken 0 rfl) rfl rfl ?_
  refine r_if_lt C 19 (oDec_at oX10_countBroken 1 rfl) (by decide) (fun cd1 => ?_) (fun cd1 => ?_)
  · skip
    refine r_iconst C (oDec_at oX10_countBroken 10 rfl) (v := km1) (by rw [qkm1]; rfl) ?_
    exact r_iret C (oDec_at oX10_countBroken 11 rfl) ⟨_, rfl, trivial⟩
  · skip
    refine r_iload_n C (j := 1) (oDec_at oX10_countBroken 2 rfl) rfl rfl ?_
    refine r_bipush C (oDec_at oX10_countBroken 3 rfl) (v := k12) (by rw [qk12]; rfl) ?_
    refine r_icmp_ge C 19 (oDec_at oX10_countBroken 4 rfl) (by decide) (fun cd2 => ?_) (fun cd2 => ?_)
    · skip
      refine r_iconst C (oDec_at oX10_countBroken 10 rfl) (v := km1) (by rw [qkm1]; rfl) ?_
      exact r_iret C (oDec_at oX10_countBroken 11 rfl) ⟨_, rfl, trivial⟩
    · skip
      refine r_aload_n C (j := 0) (oDec_at oX10_countBroken 5 rfl) rfl rfl ?_
      refine r_getF (k := 7) (b := 46) C oCl10 rfl (by decide) flX10_25 rfl rfl rfl (oDec_at oX10_countBroken 6 rfl) ?_
      refine r_iload_n C (j := 1) (oDec_at oX10_countBroken 7 rfl) rfl rfl ?_
      obtain ⟨v3, ev3⟩ : ∃ z : Int32, (s).1 46 a1.toNatClampNeg = z := ⟨_, rfl⟩
      have rv3 := n_rng v3
      refine r_iald (n := 12) (lo := (-2147483648)) (hi := 2147483647) C v3 rfl (by decide) rfl rfl ⟨by omega, by omega⟩ (by decide) ev3 rfl rfl (oDec_at oX10_countBroken 8 rfl) (fun _ _ => ?_)
      refine r_goto C (tgt := 20) (oDec_at oX10_countBroken 9 rfl) (by decide) ?_
      exact r_iret C (oDec_at oX10_countBroken 11 rfl) ⟨_, rfl, trivial⟩
set_option maxHeartbeats 4000000 in
set_option maxRecDepth 100000 in
theorem ct_X10_countWithout (l : Launch) (E : oE) (s : oS) (a1 : Int32)  : oMet l 1 yX10_countWithout cX10_countWithout 2 (some .int) [] E s [.ref (oad E 43), .int a1] (oPi (fun r u => True)) := by
  refine oMet.of (lv := [(0, .ref (oad E 43)), (1, .int a1)]) (by decide +kernel) (Nat.le_of_ble_eq_true rfl) rfl (fun J C hT => ?_)
  have C : oC l 1 cX10_countWithout RX10 2 (some .int) [] E s (oPi (fun r u => True)) J := C
  obtain ⟨km1, qkm1⟩ : ∃ z : Int32, z = (-1) := ⟨_, rfl⟩
  have ekm1 : km1.toInt = (-1) := by rw [qkm1]; rfl
  obtain ⟨k12, qk12⟩ : ∃ z : Int32, z = 12 := ⟨_, rfl⟩
  have ek12 : k12.toInt = 12 := by rw [qk12]; rfl
  have rg1 := n_rng a1
  refine r_iload_n C (j := 1) (oDec_at oX10_countWithout 0 rfl) rfl rfl ?_
  refine r_if_lt C 24 (oDec_at oX10_countWithout 1 rfl) (by decide) (fun cd1 => ?_) (fun cd1 => ?_)
  · skip
    refine r_iconst C (oDec_at oX10_countWithout 13 rfl) (v := km1) (by rw [qkm1]; rfl) ?_
    exact r_iret C (oDec_at oX10_countWithout 14 rfl) ⟨_, rfl, trivial⟩
  · skip
    refine r_iload_n C (j := 1) (oDec_at oX10_countWithout 2 rfl) rfl rfl ?_
    refine r_bipush C (oDec_at oX10_countWithout 3 rfl) (v := k12) (by rw [qk12]; rfl) ?_
    refine r_icmp_ge C 24 (oDec_at oX10_countWithout 4 rfl) (by decide) (fun cd2 => ?_) (fun cd2 => ?_)
    · skip
      refine r_iconst C (oDec_at oX10_countWithout 13 rfl) (v := km1) (by rw [qkm1]; rfl) ?_
      exact r_iret C (oDec_at oX10_countWithout 14 rfl) ⟨_, rfl, trivial⟩
    · skip
      refine r_aload_n C (j := 0) (oDec_at oX10_countWithout 5 rfl) rfl rfl ?_
      obtain ⟨v3, ev3⟩ : ∃ z : Int32, (s).1 43 4 = z := ⟨_, rfl⟩
      have gv3 : (s.1 43 4).toInt = v3.toInt := congrArg Int32.toInt (ev3)
      refine r_geti (k := 4) (lo := 0) (hi := 4500) C v3 oCl10 rfl (by decide) flX10_50 rfl rfl (ev3) rfl rfl (oDec_at oX10_countWithout 6 rfl) (fun b4 b4h => ?_)
      refine r_aload_n C (j := 0) (oDec_at oX10_countWithout 7 rfl) rfl rfl ?_
      refine r_getF (k := 8) (b := 47) C oCl10 rfl (by decide) flX10_28 rfl rfl rfl (oDec_at oX10_countWithout 8 rfl) ?_
      refine r_iload_n C (j := 1) (oDec_at oX10_countWithout 9 rfl) rfl rfl ?_
      obtain ⟨v5, ev5⟩ : ∃ z : Int32, (s).1 47 a1.toNatClampNeg = z := ⟨_, rfl⟩
      have rv5 := n_rng v5
      refine r_iald (n := 12) (lo := (-2147483648)) (hi := 2147483647) C v5 rfl (by decide) rfl rfl ⟨by omega, by omega⟩ (by decide) ev5 rfl rfl (oDec_at oX10_countWithout 10 rfl) (fun _ _ => ?_)
      refine r_pc C 20 rfl ?_
      obtain ⟨v7, ev7⟩ : ∃ z : Int32, z = v3 + v5 := ⟨_, rfl⟩
      have rv7 := n_rng v7
      refine r_iadd C v7 (oDec_at oX10_countWithout 11 rfl) ev7 ?_
      refine r_goto C (tgt := 25) (oDec_at oX10_countWithout 12 rfl) (by decide) ?_
      exact r_iret C (oDec_at oX10_countWithout 14 rfl) ⟨_, rfl, trivial⟩
set_option maxHeartbeats 4000000 in
set_option maxRecDepth 100000 in
theorem ct_X10_agreement (l : Launch) (E : oE) (s : oS) (a0 : Int32) (a1 : Int32)  : oMet l 1 yX10_agreement cX10_agreement 3 (some .int) [] E s [.int a0, .int a1] (oPi (fun r u => (0 ≤ r.toInt ∧ r.toInt ≤ 31))) := by
  refine oMet.of (lv := [(0, .int a0), (1, .int a1)]) (by decide +kernel) (Nat.le_of_ble_eq_true rfl) rfl (fun J C hT => ?_)
  have C : oC l 1 cX10_agreement RX10 3 (some .int) [] E s (oPi (fun r u => (0 ≤ r.toInt ∧ r.toInt ≤ 31))) J := C
  obtain ⟨k0, qk0⟩ : ∃ z : Int32, z = 0 := ⟨_, rfl⟩
  have ek0 : k0.toInt = 0 := by rw [qk0]; rfl
  obtain ⟨k1, qk1⟩ : ∃ z : Int32, z = 1 := ⟨_, rfl⟩
  have ek1 : k1.toInt = 1 := by rw [qk1]; rfl
  obtain ⟨k2, qk2⟩ : ∃ z : Int32, z = 2 := ⟨_, rfl⟩
  have ek2 : k2.toInt = 2 := by rw [qk2]; rfl
  obtain ⟨k3, qk3⟩ : ∃ z : Int32, z = 3 := ⟨_, rfl⟩
  have ek3 : k3.toInt = 3 := by rw [qk3]; rfl
  obtain ⟨k4, qk4⟩ : ∃ z : Int32, z = 4 := ⟨_, rfl⟩
  have ek4 : k4.toInt = 4 := by rw [qk4]; rfl
  obtain ⟨k6, qk6⟩ : ∃ z : Int32, z = 6 := ⟨_, rfl⟩
  have ek6 : k6.toInt = 6 := by rw [qk6]; rfl
  obtain ⟨k8, qk8⟩ : ∃ z : Int32, z = 8 := ⟨_, rfl⟩
  have ek8 : k8.toInt = 8 := by rw [qk8]; rfl
  obtain ⟨k12, qk12⟩ : ∃ z : Int32, z = 12 := ⟨_, rfl⟩
  have ek12 : k12.toInt = 12 := by rw [qk12]; rfl
  obtain ⟨k15, qk15⟩ : ∃ z : Int32, z = 15 := ⟨_, rfl⟩
  have ek15 : k15.toInt = 15 := by rw [qk15]; rfl
  obtain ⟨k16, qk16⟩ : ∃ z : Int32, z = 16 := ⟨_, rfl⟩
  have ek16 : k16.toInt = 16 := by rw [qk16]; rfl
  obtain ⟨k180, qk180⟩ : ∃ z : Int32, z = 180 := ⟨_, rfl⟩
  have ek180 : k180.toInt = 180 := by rw [qk180]; rfl
  have rg0 := n_rng a0
  have rg1 := n_rng a1
  refine r_iload_n C (j := 0) (oDec_at oX10_agreement 0 rfl) rfl rfl ?_
  refine r_sipush C (oDec_at oX10_agreement 1 rfl) (v := k180) (by rw [qk180]; rfl) ?_
  obtain ⟨v1, ev1⟩ : ∃ z : Int32, z = a0 / k180 := ⟨_, rfl⟩
  have hv1 := n_divP (k := 180) ev1 ek180 (by decide)
  have rv1 := n_rng v1
  refine r_idiv C v1 (oDec_at oX10_agreement 2 rfl) (n_ne0 (by omega)) ev1 ?_
  refine r_iload_n C (j := 1) (oDec_at oX10_agreement 3 rfl) rfl rfl ?_
  refine r_sipush C (oDec_at oX10_agreement 4 rfl) (v := k180) (by rw [qk180]; rfl) ?_
  obtain ⟨v2, ev2⟩ : ∃ z : Int32, z = a1 / k180 := ⟨_, rfl⟩
  have hv2 := n_divP (k := 180) ev2 ek180 (by decide)
  have rv2 := n_rng v2
  refine r_idiv C v2 (oDec_at oX10_agreement 5 rfl) (n_ne0 (by omega)) ev2 ?_
  refine r_pc C 10 rfl ?_
  refine r_icmp_ne C 17 (oDec_at oX10_agreement 6 rfl) (by decide) (fun cd3 => ?_) (fun cd3 => ?_)
  · skip
    refine r_iconst C (oDec_at oX10_agreement 9 rfl) (v := k0) (by rw [qk0]; rfl) ?_
    refine r_istore_n C (lv' := [(0, .int a0), (1, .int a1), (2, .int k0)]) [1, 2, 0] (oDec_at oX10_agreement 10 rfl) rfl (by decide) rfl ?_
    refine r_iload_n C (j := 2) (oDec_at oX10_agreement 11 rfl) rfl rfl ?_
    refine r_iload_n C (j := 0) (oDec_at oX10_agreement 12 rfl) rfl rfl ?_
    refine r_bipush C (oDec_at oX10_agreement 13 rfl) (v := k12) (by rw [qk12]; rfl) ?_
    obtain ⟨v4, ev4⟩ : ∃ z : Int32, z = a0 / k12 := ⟨_, rfl⟩
    have hv4 := n_divP (k := 12) ev4 ek12 (by decide)
    have rv4 := n_rng v4
    refine r_idiv C v4 (oDec_at oX10_agreement 14 rfl) (n_ne0 (by omega)) ev4 ?_
    refine r_pc C 24 rfl ?_
    refine r_bipush C (oDec_at oX10_agreement 15 rfl) (v := k15) (by rw [qk15]; rfl) ?_
    obtain ⟨v5, ev5⟩ : ∃ z : Int32, z = v4 - v4 / k15 * k15 := ⟨_, rfl⟩
    have hv5 := n_rem (k := 15) ev5 ek15 (by decide)
    have rv5 := n_rng v5
    refine r_irem C v5 (oDec_at oX10_agreement 16 rfl) (n_ne0 (by omega)) ev5 ?_
    refine r_iload_n C (j := 1) (oDec_at oX10_agreement 17 rfl) rfl rfl ?_
    refine r_bipush C (oDec_at oX10_agreement 18 rfl) (v := k12) (by rw [qk12]; rfl) ?_
    obtain ⟨v6, ev6⟩ : ∃ z : Int32, z = a1 / k12 := ⟨_, rfl⟩
    have hv6 := n_divP (k := 12) ev6 ek12 (by decide)
    have rv6 := n_rng v6
    refine r_idiv C v6 (oDec_at oX10_agreement 19 rfl) (n_ne0 (by omega)) ev6 ?_
    refine r_bipush C (oDec_at oX10_agreement 20 rfl) (v := k15) (by rw [qk15]; rfl) ?_
    refine r_pc C 33 rfl ?_
    obtain ⟨v7, ev7⟩ : ∃ z : Int32, z = v6 - v6 / k15 * k15 := ⟨_, rfl⟩
    have hv7 := n_rem (k := 15) ev7 ek15 (by decide)
    have rv7 := n_rng v7
    refine r_irem C v7 (oDec_at oX10_agreement 21 rfl) (n_ne0 (by omega)) ev7 ?_
    refine r_icmp_ne C 41 (oDec_at oX10_agreement 22 rfl) (by decide) (fun cd8 => ?_) (fun cd8 => ?_)
    · skip
      refine r_iconst C (oDec_at oX10_agreement 25 rfl) (v := k0) (by rw [qk0]; rfl) ?_
      obtain ⟨v9, ev9⟩ : ∃ z : Int32, z = k0 + k0 := ⟨_, rfl⟩
      have hv9 : v9.toInt = k0.toInt + k0.toInt := n_add ev9 (by omega) (by omega)
      refine r_iadd C v9 (oDec_at oX10_agreement 26 rfl) ev9 ?_
      refine r_istore_n C (lv' := [(0, .int a0), (1, .int a1), (2, .int v9)]) [1, 2, 0] (oDec_at oX10_agreement 27 rfl) rfl (by decide) rfl ?_
      refine r_iload_n C (j := 2) (oDec_at oX10_agreement 28 rfl) rfl rfl ?_
      refine r_iload_n C (j := 0) (oDec_at oX10_agreement 29 rfl) rfl rfl ?_
      refine r_bipush C (oDec_at oX10_agreement 30 rfl) (v := k6) (by rw [qk6]; rfl) ?_
      refine r_pc C 48 rfl ?_
      obtain ⟨v10, ev10⟩ : ∃ z : Int32, z = a0 / k6 := ⟨_, rfl⟩
      have hv10 := n_divP (k := 6) ev10 ek6 (by decide)
      have rv10 := n_rng v10
      refine r_idiv C v10 (oDec_at oX10_agreement 31 rfl) (n_ne0 (by omega)) ev10 ?_
      refine r_iconst C (oDec_at oX10_agreement 32 rfl) (v := k2) (by rw [qk2]; rfl) ?_
      obtain ⟨v11, ev11⟩ : ∃ z : Int32, z = v10 - v10 / k2 * k2 := ⟨_, rfl⟩
      have hv11 := n_rem (k := 2) ev11 ek2 (by decide)
      have rv11 := n_rng v11
      refine r_irem C v11 (oDec_at oX10_agreement 33 rfl) (n_ne0 (by omega)) ev11 ?_
      refine r_iload_n C (j := 1) (oDec_at oX10_agreement 34 rfl) rfl rfl ?_
      refine r_bipush C (oDec_at oX10_agreement 35 rfl) (v := k6) (by rw [qk6]; rfl) ?_
      obtain ⟨v12, ev12⟩ : ∃ z : Int32, z = a1 / k6 := ⟨_, rfl⟩
      have hv12 := n_divP (k := 6) ev12 ek6 (by decide)
      have rv12 := n_rng v12
      refine r_idiv C v12 (oDec_at oX10_agreement 36 rfl) (n_ne0 (by omega)) ev12 ?_
      refine r_pc C 55 rfl ?_
      refine r_iconst C (oDec_at oX10_agreement 37 rfl) (v := k2) (by rw [qk2]; rfl) ?_
      obtain ⟨v13, ev13⟩ : ∃ z : Int32, z = v12 - v12 / k2 * k2 := ⟨_, rfl⟩
      have hv13 := n_rem (k := 2) ev13 ek2 (by decide)
      have rv13 := n_rng v13
      refine r_irem C v13 (oDec_at oX10_agreement 38 rfl) (n_ne0 (by omega)) ev13 ?_
      refine r_icmp_ne C 64 (oDec_at oX10_agreement 39 rfl) (by decide) (fun cd14 => ?_) (fun cd14 => ?_)
      · skip
        refine r_iconst C (oDec_at oX10_agreement 42 rfl) (v := k0) (by rw [qk0]; rfl) ?_
        obtain ⟨v15, ev15⟩ : ∃ z : Int32, z = v9 + k0 := ⟨_, rfl⟩
        have hv15 : v15.toInt = v9.toInt + k0.toInt := n_add ev15 (by omega) (by omega)
        refine r_iadd C v15 (oDec_at oX10_agreement 43 rfl) ev15 ?_
        refine r_istore_n C (lv' := [(0, .int a0), (1, .int a1), (2, .int v15)]) [1, 2, 0] (oDec_at oX10_agreement 44 rfl) rfl (by decide) rfl ?_
        refine r_iload_n C (j := 2) (oDec_at oX10_agreement 45 rfl) rfl rfl ?_
        refine r_iload_n C (j := 0) (oDec_at oX10_agreement 46 rfl) rfl rfl ?_
        refine r_iconst C (oDec_at oX10_agreement 47 rfl) (v := k3) (by rw [qk3]; rfl) ?_
        refine r_pc C 70 rfl ?_
        obtain ⟨v16, ev16⟩ : ∃ z : Int32, z = a0 / k3 := ⟨_, rfl⟩
        have hv16 := n_divP (k := 3) ev16 ek3 (by decide)
        have rv16 := n_rng v16
        refine r_idiv C v16 (oDec_at oX10_agreement 48 rfl) (n_ne0 (by omega)) ev16 ?_
        refine r_iconst C (oDec_at oX10_agreement 49 rfl) (v := k2) (by rw [qk2]; rfl) ?_
        obtain ⟨v17, ev17⟩ : ∃ z : Int32, z = v16 - v16 / k2 * k2 := ⟨_, rfl⟩
        have hv17 := n_rem (k := 2) ev17 ek2 (by decide)
        have rv17 := n_rng v17
        refine r_irem C v17 (oDec_at oX10_agreement 50 rfl) (n_ne0 (by omega)) ev17 ?_
        refine r_iload_n C (j := 1) (oDec_at oX10_agreement 51 rfl) rfl rfl ?_
        refine r_iconst C (oDec_at oX10_agreement 52 rfl) (v := k3) (by rw [qk3]; rfl) ?_
        obtain ⟨v18, ev18⟩ : ∃ z : Int32, z = a1 / k3 := ⟨_, rfl⟩
        have hv18 := n_divP (k := 3) ev18 ek3 (by decide)
        have rv18 := n_rng v18
        refine r_idiv C v18 (oDec_at oX10_agreement 53 rfl) (n_ne0 (by omega)) ev18 ?_
        refine r_pc C 76 rfl ?_
        refine r_iconst C (oDec_at oX10_agreement 54 rfl) (v := k2) (by rw [qk2]; rfl) ?_
        obtain ⟨v19, ev19⟩ : ∃ z : Int32, z = v18 - v18 / k2 * k2 := ⟨_, rfl⟩
        have hv19 := n_rem (k := 2) ev19 ek2 (by decide)
        have rv19 := n_rng v19
        refine r_irem C v19 (oDec_at oX10_agreement 55 rfl) (n_ne0 (by omega)) ev19 ?_
        refine r_icmp_ne C 86 (oDec_at oX10_agreement 56 rfl) (by decide) (fun cd20 => ?_) (fun cd20 => ?_)
        · skip
          refine r_iconst C (oDec_at oX10_agreement 59 rfl) (v := k0) (by rw [qk0]; rfl) ?_
          obtain ⟨v21, ev21⟩ : ∃ z : Int32, z = v15 + k0 := ⟨_, rfl⟩
          have hv21 : v21.toInt = v15.toInt + k0.toInt := n_add ev21 (by omega) (by omega)
          refine r_iadd C v21 (oDec_at oX10_agreement 60 rfl) ev21 ?_
          refine r_istore_n C (lv' := [(0, .int a0), (1, .int a1), (2, .int v21)]) [1, 2, 0] (oDec_at oX10_agreement 61 rfl) rfl (by decide) rfl ?_
          refine r_iload_n C (j := 2) (oDec_at oX10_agreement 62 rfl) rfl rfl ?_
          refine r_iload_n C (j := 0) (oDec_at oX10_agreement 63 rfl) rfl rfl ?_
          refine r_iconst C (oDec_at oX10_agreement 64 rfl) (v := k3) (by rw [qk3]; rfl) ?_
          refine r_pc C 92 rfl ?_
          obtain ⟨v22, ev22⟩ : ∃ z : Int32, z = a0 - a0 / k3 * k3 := ⟨_, rfl⟩
          have hv22 := n_rem (k := 3) ev22 ek3 (by decide)
          have rv22 := n_rng v22
          refine r_irem C v22 (oDec_at oX10_agreement 65 rfl) (n_ne0 (by omega)) ev22 ?_
          refine r_iload_n C (j := 1) (oDec_at oX10_agreement 66 rfl) rfl rfl ?_
          refine r_iconst C (oDec_at oX10_agreement 67 rfl) (v := k3) (by rw [qk3]; rfl) ?_
          obtain ⟨v23, ev23⟩ : ∃ z : Int32, z = a1 - a1 / k3 * k3 := ⟨_, rfl⟩
          have hv23 := n_rem (k := 3) ev23 ek3 (by decide)
          have rv23 := n_rng v23
          refine r_irem C v23 (oDec_at oX10_agreement 68 rfl) (n_ne0 (by omega)) ev23 ?_
          refine r_icmp_ne C 104 (oDec_at oX10_agreement 69 rfl) (by decide) (fun cd24 => ?_) (fun cd24 => ?_)
          · skip
            refine r_iconst C (oDec_at oX10_agreement 72 rfl) (v := k0) (by rw [qk0]; rfl) ?_
            obtain ⟨v25, ev25⟩ : ∃ z : Int32, z = v21 + k0 := ⟨_, rfl⟩
            have hv25 : v25.toInt = v21.toInt + k0.toInt := n_add ev25 (by omega) (by omega)
            refine r_iadd C v25 (oDec_at oX10_agreement 73 rfl) ev25 ?_
            exact r_iret C (oDec_at oX10_agreement 74 rfl) ⟨_, rfl, by omega⟩
          · skip
            refine r_bipush C (oDec_at oX10_agreement 70 rfl) (v := k16) (by rw [qk16]; rfl) ?_
            refine r_goto C (tgt := 105) (oDec_at oX10_agreement 71 rfl) (by decide) ?_
            obtain ⟨v26, ev26⟩ : ∃ z : Int32, z = v21 + k16 := ⟨_, rfl⟩
            have hv26 : v26.toInt = v21.toInt + k16.toInt := n_add ev26 (by omega) (by omega)
            refine r_iadd C v26 (oDec_at oX10_agreement 73 rfl) ev26 ?_
            exact r_iret C (oDec_at oX10_agreement 74 rfl) ⟨_, rfl, by omega⟩
        · skip
          refine r_bipush C (oDec_at oX10_agreement 57 rfl) (v := k8) (by rw [qk8]; rfl) ?_
          refine r_goto C (tgt := 87) (oDec_at oX10_agreement 58 rfl) (by decide) ?_
          obtain ⟨v27, ev27⟩ : ∃ z : Int32, z = v15 + k8 := ⟨_, rfl⟩
          have hv27 : v27.toInt = v15.toInt + k8.toInt := n_add ev27 (by omega) (by omega)
          refine r_iadd C v27 (oDec_at oX10_agreement 60 rfl) ev27 ?_
          refine r_istore_n C (lv' := [(0, .int a0), (1, .int a1), (2, .int v27)]) [1, 2, 0] (oDec_at oX10_agreement 61 rfl) rfl (by decide) rfl ?_
          refine r_iload_n C (j := 2) (oDec_at oX10_agreement 62 rfl) rfl rfl ?_
          refine r_iload_n C (j := 0) (oDec_at oX10_agreement 63 rfl) rfl rfl ?_
          refine r_iconst C (oDec_at oX10_agreement 64 rfl) (v := k3) (by rw [qk3]; rfl) ?_
          refine r_pc C 92 rfl ?_
          obtain ⟨v28, ev28⟩ : ∃ z : Int32, z = a0 - a0 / k3 * k3 := ⟨_, rfl⟩
          have hv28 := n_rem (k := 3) ev28 ek3 (by decide)
          have rv28 := n_rng v28
          refine r_irem C v28 (oDec_at oX10_agreement 65 rfl) (n_ne0 (by omega)) ev28 ?_
          refine r_iload_n C (j := 1) (oDec_at oX10_agreement 66 rfl) rfl rfl ?_
          refine r_iconst C (oDec_at oX10_agreement 67 rfl) (v := k3) (by rw [qk3]; rfl) ?_
          obtain ⟨v29, ev29⟩ : ∃ z : Int32, z = a1 - a1 / k3 * k3 := ⟨_, rfl⟩
          have hv29 := n_rem (k := 3) ev29 ek3 (by decide)
          have rv29 := n_rng v29
          refine r_irem C v29 (oDec_at oX10_agreement 68 rfl) (n_ne0 (by omega)) ev29 ?_
          refine r_icmp_ne C 104 (oDec_at oX10_agreement 69 rfl) (by decide) (fun cd30 => ?_) (fun cd30 => ?_)
          · skip
            refine r_iconst C (oDec_at oX10_agreement 72 rfl) (v := k0) (by rw [qk0]; rfl) ?_
            obtain ⟨v31, ev31⟩ : ∃ z : Int32, z = v27 + k0 := ⟨_, rfl⟩
            have hv31 : v31.toInt = v27.toInt + k0.toInt := n_add ev31 (by omega) (by omega)
            refine r_iadd C v31 (oDec_at oX10_agreement 73 rfl) ev31 ?_
            exact r_iret C (oDec_at oX10_agreement 74 rfl) ⟨_, rfl, by omega⟩
          · skip
            refine r_bipush C (oDec_at oX10_agreement 70 rfl) (v := k16) (by rw [qk16]; rfl) ?_
            refine r_goto C (tgt := 105) (oDec_at oX10_agreement 71 rfl) (by decide) ?_
            obtain ⟨v32, ev32⟩ : ∃ z : Int32, z = v27 + k16 := ⟨_, rfl⟩
            have hv32 : v32.toInt = v27.toInt + k16.toInt := n_add ev32 (by omega) (by omega)
            refine r_iadd C v32 (oDec_at oX10_agreement 73 rfl) ev32 ?_
            exact r_iret C (oDec_at oX10_agreement 74 rfl) ⟨_, rfl, by omega⟩
      · skip
        refine r_iconst C (oDec_at oX10_agreement 40 rfl) (v := k4) (by rw [qk4]; rfl) ?_
        refine r_goto C (tgt := 65) (oDec_at oX10_agreement 41 rfl) (by decide) ?_
        obtain ⟨v33, ev33⟩ : ∃ z : Int32, z = v9 + k4 := ⟨_, rfl⟩
        have hv33 : v33.toInt = v9.toInt + k4.toInt := n_add ev33 (by omega) (by omega)
        refine r_iadd C v33 (oDec_at oX10_agreement 43 rfl) ev33 ?_
        refine r_istore_n C (lv' := [(0, .int a0), (1, .int a1), (2, .int v33)]) [1, 2, 0] (oDec_at oX10_agreement 44 rfl) rfl (by decide) rfl ?_
        refine r_iload_n C (j := 2) (oDec_at oX10_agreement 45 rfl) rfl rfl ?_
        refine r_iload_n C (j := 0) (oDec_at oX10_agreement 46 rfl) rfl rfl ?_
        refine r_iconst C (oDec_at oX10_agreement 47 rfl) (v := k3) (by rw [qk3]; rfl) ?_
        refine r_pc C 70 rfl ?_
        obtain ⟨v34, ev34⟩ : ∃ z : Int32, z = a0 / k3 := ⟨_, rfl⟩
        have hv34 := n_divP (k := 3) ev34 ek3 (by decide)
        have rv34 := n_rng v34
        refine r_idiv C v34 (oDec_at oX10_agreement 48 rfl) (n_ne0 (by omega)) ev34 ?_
        refine r_iconst C (oDec_at oX10_agreement 49 rfl) (v := k2) (by rw [qk2]; rfl) ?_
        obtain ⟨v35, ev35⟩ : ∃ z : Int32, z = v34 - v34 / k2 * k2 := ⟨_, rfl⟩
        have hv35 := n_rem (k := 2) ev35 ek2 (by decide)
        have rv35 := n_rng v35
        refine r_irem C v35 (oDec_at oX10_agreement 50 rfl) (n_ne0 (by omega)) ev35 ?_
        refine r_iload_n C (j := 1) (oDec_at oX10_agreement 51 rfl) rfl rfl ?_
        refine r_iconst C (oDec_at oX10_agreement 52 rfl) (v := k3) (by rw [qk3]; rfl) ?_
        obtain ⟨v36, ev36⟩ : ∃ z : Int32, z = a1 / k3 := ⟨_, rfl⟩
        have hv36 := n_divP (k := 3) ev36 ek3 (by decide)
        have rv36 := n_rng v36
        refine r_idiv C v36 (oDec_at oX10_agreement 53 rfl) (n_ne0 (by omega)) ev36 ?_
        refine r_pc C 76 rfl ?_
        refine r_iconst C (oDec_at oX10_agreement 54 rfl) (v := k2) (by rw [qk2]; rfl) ?_
        obtain ⟨v37, ev37⟩ : ∃ z : Int32, z = v36 - v36 / k2 * k2 := ⟨_, rfl⟩
        have hv37 := n_rem (k := 2) ev37 ek2 (by decide)
        have rv37 := n_rng v37
        refine r_irem C v37 (oDec_at oX10_agreement 55 rfl) (n_ne0 (by omega)) ev37 ?_
        refine r_icmp_ne C 86 (oDec_at oX10_agreement 56 rfl) (by decide) (fun cd38 => ?_) (fun cd38 => ?_)
        · skip
          refine r_iconst C (oDec_at oX10_agreement 59 rfl) (v := k0) (by rw [qk0]; rfl) ?_
          obtain ⟨v39, ev39⟩ : ∃ z : Int32, z = v33 + k0 := ⟨_, rfl⟩
          have hv39 : v39.toInt = v33.toInt + k0.toInt := n_add ev39 (by omega) (by omega)
          refine r_iadd C v39 (oDec_at oX10_agreement 60 rfl) ev39 ?_
          refine r_istore_n C (lv' := [(0, .int a0), (1, .int a1), (2, .int v39)]) [1, 2, 0] (oDec_at oX10_agreement 61 rfl) rfl (by decide) rfl ?_
          refine r_iload_n C (j := 2) (oDec_at oX10_agreement 62 rfl) rfl rfl ?_
          refine r_iload_n C (j := 0) (oDec_at oX10_agreement 63 rfl) rfl rfl ?_
          refine r_iconst C (oDec_at oX10_agreement 64 rfl) (v := k3) (by rw [qk3]; rfl) ?_
          refine r_pc C 92 rfl ?_
          obtain ⟨v40, ev40⟩ : ∃ z : Int32, z = a0 - a0 / k3 * k3 := ⟨_, rfl⟩
          have hv40 := n_rem (k := 3) ev40 ek3 (by decide)
          have rv40 := n_rng v40
          refine r_irem C v40 (oDec_at oX10_agreement 65 rfl) (n_ne0 (by omega)) ev40 ?_
          refine r_iload_n C (j := 1) (oDec_at oX10_agreement 66 rfl) rfl rfl ?_
          refine r_iconst C (oDec_at oX10_agreement 67 rfl) (v := k3) (by rw [qk3]; rfl) ?_
          obtain ⟨v41, ev41⟩ : ∃ z : Int32, z = a1 - a1 / k3 * k3 := ⟨_, rfl⟩
          have hv41 := n_rem (k := 3) ev41 ek3 (by decide)
          have rv41 := n_rng v41
          refine r_irem C v41 (oDec_at oX10_agreement 68 rfl) (n_ne0 (by omega)) ev41 ?_
          refine r_icmp_ne C 104 (oDec_at oX10_agreement 69 rfl) (by decide) (fun cd42 => ?_) (fun cd42 => ?_)
          · skip
            refine r_iconst C (oDec_at oX10_agreement 72 rfl) (v := k0) (by rw [qk0]; rfl) ?_
            obtain ⟨v43, ev43⟩ : ∃ z : Int32, z = v39 + k0 := ⟨_, rfl⟩
            have hv43 : v43.toInt = v39.toInt + k0.toInt := n_add ev43 (by omega) (by omega)
            refine r_iadd C v43 (oDec_at oX10_agreement 73 rfl) ev43 ?_
            exact r_iret C (oDec_at oX10_agreement 74 rfl) ⟨_, rfl, by omega⟩
          · skip
            refine r_bipush C (oDec_at oX10_agreement 70 rfl) (v := k16) (by rw [qk16]; rfl) ?_
            refine r_goto C (tgt := 105) (oDec_at oX10_agreement 71 rfl) (by decide) ?_
            obtain ⟨v44, ev44⟩ : ∃ z : Int32, z = v39 + k16 := ⟨_, rfl⟩
            have hv44 : v44.toInt = v39.toInt + k16.toInt := n_add ev44 (by omega) (by omega)
            refine r_iadd C v44 (oDec_at oX10_agreement 73 rfl) ev44 ?_
            exact r_iret C (oDec_at oX10_agreement 74 rfl) ⟨_, rfl, by omega⟩
        · skip
          refine r_bipush C (oDec_at oX10_agreement 57 rfl) (v := k8) (by rw [qk8]; rfl) ?_
          refine r_goto C (tgt := 87) (oDec_at oX10_agreement 58 rfl) (by decide) ?_
          obtain ⟨v45, ev45⟩ : ∃ z : Int32, z = v33 + k8 := ⟨_, rfl⟩
          have hv45 : v45.toInt = v33.toInt + k8.toInt := n_add ev45 (by omega) (by omega)
          refine r_iadd C v45 (oDec_at oX10_agreement 60 rfl) ev45 ?_
          refine r_istore_n C (lv' := [(0, .int a0), (1, .int a1), (2, .int v45)]) [1, 2, 0] (oDec_at oX10_agreement 61 rfl) rfl (by decide) rfl ?_
          refine r_iload_n C (j := 2) (oDec_at oX10_agreement 62 rfl) rfl rfl ?_
          refine r_iload_n C (j := 0) (oDec_at oX10_agreement 63 rfl) rfl rfl ?_
          refine r_iconst C (oDec_at oX10_agreement 64 rfl) (v := k3) (by rw [qk3]; rfl) ?_
          refine r_pc C 92 rfl ?_
          obtain ⟨v46, ev46⟩ : ∃ z : Int32, z = a0 - a0 / k3 * k3 := ⟨_, rfl⟩
          have hv46 := n_rem (k := 3) ev46 ek3 (by decide)
          have rv46 := n_rng v46
          refine r_irem C v46 (oDec_at oX10_agreement 65 rfl) (n_ne0 (by omega)) ev46 ?_
          refine r_iload_n C (j := 1) (oDec_at oX10_agreement 66 rfl) rfl rfl ?_
          refine r_iconst C (oDec_at oX10_agreement 67 rfl) (v := k3) (by rw [qk3]; rfl) ?_
          obtain ⟨v47, ev47⟩ : ∃ z : Int32, z = a1 - a1 / k3 * k3 := ⟨_, rfl⟩
          have hv47 := n_rem (k := 3) ev47 ek3 (by decide)
          have rv47 := n_rng v47
          refine r_irem C v47 (oDec_at oX10_agreement 68 rfl) (n_ne0 (by omega)) ev47 ?_
          refine r_icmp_ne C 104 (oDec_at oX10_agreement 69 rfl) (by decide) (fun cd48 => ?_) (fun cd48 => ?_)
          · skip
            refine r_iconst C (oDec_at oX10_agreement 72 rfl) (v := k0) (by rw [qk0]; rfl) ?_
            obtain ⟨v49, ev49⟩ : ∃ z : Int32, z = v45 + k0 := ⟨_, rfl⟩
            have hv49 : v49.toInt = v45.toInt + k0.toInt := n_add ev49 (by omega) (by omega)
            refine r_iadd C v49 (oDec_at oX10_agreement 73 rfl) ev49 ?_
            exact r_iret C (oDec_at oX10_agreement 74 rfl) ⟨_, rfl, by omega⟩
          · skip
            refine r_bipush C (oDec_at oX10_agreement 70 rfl) (v := k16) (by rw [qk16]; rfl) ?_
            refine r_goto C (tgt := 105) (oDec_at oX10_agreement 71 rfl) (by decide) ?_
            obtain ⟨v50, ev50⟩ : ∃ z : Int32, z = v45 + k16 := ⟨_, rfl⟩
            have hv50 : v50.toInt = v45.toInt + k16.toInt := n_add ev50 (by omega) (by omega)
            refine r_iadd C v50 (oDec_at oX10_agreement 73 rfl) ev50 ?_
            exact r_iret C (oDec_at oX10_agreement 74 rfl) ⟨_, rfl, by omega⟩
    · skip
      refine r_iconst C (oDec_at oX10_agreement 23 rfl) (v := k2) (by rw [qk2]; rfl) ?_
      refine r_goto C (tgt := 42) (oDec_at oX10_agreement 24 rfl) (by decide) ?_
      obtain ⟨v51, ev51⟩ : ∃ z : Int32, z = k0 + k2 := ⟨_, rfl⟩
      have hv51 : v51.toInt = k0.toInt + k2.toInt := n_add ev51 (by omega) (by omega)
      refine r_iadd C v51 (oDec_at oX10_agreement 26 rfl) ev51 ?_
      refine r_istore_n C (lv' := [(0, .int a0), (1, .int a1), (2, .int v51)]) [1, 2, 0] (oDec_at oX10_agreement 27 rfl) rfl (by decide) rfl ?_
      refine r_iload_n C (j := 2) (oDec_at oX10_agreement 28 rfl) rfl rfl ?_
      refine r_iload_n C (j := 0) (oDec_at oX10_agreement 29 rfl) rfl rfl ?_
      refine r_bipush C (oDec_at oX10_agreement 30 rfl) (v := k6) (by rw [qk6]; rfl) ?_
      refine r_pc C 48 rfl ?_
      obtain ⟨v52, ev52⟩ : ∃ z : Int32, z = a0 / k6 := ⟨_, rfl⟩
      have hv52 := n_divP (k := 6) ev52 ek6 (by decide)
      have rv52 := n_rng v52
      refine r_idiv C v52 (oDec_at oX10_agreement 31 rfl) (n_ne0 (by omega)) ev52 ?_
      refine r_iconst C (oDec_at oX10_agreement 32 rfl) (v := k2) (by rw [qk2]; rfl) ?_
      obtain ⟨v53, ev53⟩ : ∃ z : Int32, z = v52 - v52 / k2 * k2 := ⟨_, rfl⟩
      have hv53 := n_rem (k := 2) ev53 ek2 (by decide)
      have rv53 := n_rng v53
      refine r_irem C v53 (oDec_at oX10_agreement 33 rfl) (n_ne0 (by omega)) ev53 ?_
      refine r_iload_n C (j := 1) (oDec_at oX10_agreement 34 rfl) rfl rfl ?_
      refine r_bipush C (oDec_at oX10_agreement 35 rfl) (v := k6) (by rw [qk6]; rfl) ?_
      obtain ⟨v54, ev54⟩ : ∃ z : Int32, z = a1 / k6 := ⟨_, rfl⟩
      have hv54 := n_divP (k := 6) ev54 ek6 (by decide)
      have rv54 := n_rng v54
      refine r_idiv C v54 (oDec_at oX10_agreement 36 rfl) (n_ne0 (by omega)) ev54 ?_
      refine r_pc C 55 rfl ?_
      refine r_iconst C (oDec_at oX10_agreement 37 rfl) (v := k2) (by rw [qk2]; rfl) ?_
      obtain ⟨v55, ev55⟩ : ∃ z : Int32, z = v54 - v54 / k2 * k2 := ⟨_, rfl⟩
      have hv55 := n_rem (k := 2) ev55 ek2 (by decide)
      have rv55 := n_rng v55
      refine r_irem C v55 (oDec_at oX10_agreement 38 rfl) (n_ne0 (by omega)) ev55 ?_
      refine r_icmp_ne C 64 (oDec_at oX10_agreement 39 rfl) (by decide) (fun cd56 => ?_) (fun cd56 => ?_)
      · skip
        refine r_iconst C (oDec_at oX10_agreement 42 rfl) (v := k0) (by rw [qk0]; rfl) ?_
        obtain ⟨v57, ev57⟩ : ∃ z : Int32, z = v51 + k0 := ⟨_, rfl⟩
        have hv57 : v57.toInt = v51.toInt + k0.toInt := n_add ev57 (by omega) (by omega)
        refine r_iadd C v57 (oDec_at oX10_agreement 43 rfl) ev57 ?_
        refine r_istore_n C (lv' := [(0, .int a0), (1, .int a1), (2, .int v57)]) [1, 2, 0] (oDec_at oX10_agreement 44 rfl) rfl (by decide) rfl ?_
        refine r_iload_n C (j := 2) (oDec_at oX10_agreement 45 rfl) rfl rfl ?_
        refine r_iload_n C (j := 0) (oDec_at oX10_agreement 46 rfl) rfl rfl ?_
        refine r_iconst C (oDec_at oX10_agreement 47 rfl) (v := k3) (by rw [qk3]; rfl) ?_
        refine r_pc C 70 rfl ?_
        obtain ⟨v58, ev58⟩ : ∃ z : Int32, z = a0 / k3 := ⟨_, rfl⟩
        have hv58 := n_divP (k := 3) ev58 ek3 (by decide)
        have rv58 := n_rng v58
        refine r_idiv C v58 (oDec_at oX10_agreement 48 rfl) (n_ne0 (by omega)) ev58 ?_
        refine r_iconst C (oDec_at oX10_agreement 49 rfl) (v := k2) (by rw [qk2]; rfl) ?_
        obtain ⟨v59, ev59⟩ : ∃ z : Int32, z = v58 - v58 / k2 * k2 := ⟨_, rfl⟩
        have hv59 := n_rem (k := 2) ev59 ek2 (by decide)
        have rv59 := n_rng v59
        refine r_irem C v59 (oDec_at oX10_agreement 50 rfl) (n_ne0 (by omega)) ev59 ?_
        refine r_iload_n C (j := 1) (oDec_at oX10_agreement 51 rfl) rfl rfl ?_
        refine r_iconst C (oDec_at oX10_agreement 52 rfl) (v := k3) (by rw [qk3]; rfl) ?_
        obtain ⟨v60, ev60⟩ : ∃ z : Int32, z = a1 / k3 := ⟨_, rfl⟩
        have hv60 := n_divP (k := 3) ev60 ek3 (by decide)
        have rv60 := n_rng v60
        refine r_idiv C v60 (oDec_at oX10_agreement 53 rfl) (n_ne0 (by omega)) ev60 ?_
        refine r_pc C 76 rfl ?_
        refine r_iconst C (oDec_at oX10_agreement 54 rfl) (v := k2) (by rw [qk2]; rfl) ?_
        obtain ⟨v61, ev61⟩ : ∃ z : Int32, z = v60 - v60 / k2 * k2 := ⟨_, rfl⟩
        have hv61 := n_rem (k := 2) ev61 ek2 (by decide)
        have rv61 := n_rng v61
        refine r_irem C v61 (oDec_at oX10_agreement 55 rfl) (n_ne0 (by omega)) ev61 ?_
        refine r_icmp_ne C 86 (oDec_at oX10_agreement 56 rfl) (by decide) (fun cd62 => ?_) (fun cd62 => ?_)
        · skip
          refine r_iconst C (oDec_at oX10_agreement 59 rfl) (v := k0) (by rw [qk0]; rfl) ?_
          obtain ⟨v63, ev63⟩ : ∃ z : Int32, z = v57 + k0 := ⟨_, rfl⟩
          have hv63 : v63.toInt = v57.toInt + k0.toInt := n_add ev63 (by omega) (by omega)
          refine r_iadd C v63 (oDec_at oX10_agreement 60 rfl) ev63 ?_
          refine r_istore_n C (lv' := [(0, .int a0), (1, .int a1), (2, .int v63)]) [1, 2, 0] (oDec_at oX10_agreement 61 rfl) rfl (by decide) rfl ?_
          refine r_iload_n C (j := 2) (oDec_at oX10_agreement 62 rfl) rfl rfl ?_
          refine r_iload_n C (j := 0) (oDec_at oX10_agreement 63 rfl) rfl rfl ?_
          refine r_iconst C (oDec_at oX10_agreement 64 rfl) (v := k3) (by rw [qk3]; rfl) ?_
          refine r_pc C 92 rfl ?_
          obtain ⟨v64, ev64⟩ : ∃ z : Int32, z = a0 - a0 / k3 * k3 := ⟨_, rfl⟩
          have hv64 := n_rem (k := 3) ev64 ek3 (by decide)
          have rv64 := n_rng v64
          refine r_irem C v64 (oDec_at oX10_agreement 65 rfl) (n_ne0 (by omega)) ev64 ?_
          refine r_iload_n C (j := 1) (oDec_at oX10_agreement 66 rfl) rfl rfl ?_
          refine r_iconst C (oDec_at oX10_agreement 67 rfl) (v := k3) (by rw [qk3]; rfl) ?_
          obtain ⟨v65, ev65⟩ : ∃ z : Int32, z = a1 - a1 / k3 * k3 := ⟨_, rfl⟩
          have hv65 := n_rem (k := 3) ev65 ek3 (by decide)
          have rv65 := n_rng v65
          refine r_irem C v65 (oDec_at oX10_agreement 68 rfl) (n_ne0 (by omega)) ev65 ?_
          refine r_icmp_ne C 104 (oDec_at oX10_agreement 69 rfl) (by decide) (fun cd66 => ?_) (fun cd66 => ?_)
          · skip
            refine r_iconst C (oDec_at oX10_agreement 72 rfl) (v := k0) (by rw [qk0]; rfl) ?_
            obtain ⟨v67, ev67⟩ : ∃ z : Int32, z = v63 + k0 := ⟨_, rfl⟩
            have hv67 : v67.toInt = v63.toInt + k0.toInt := n_add ev67 (by omega) (by omega)
            refine r_iadd C v67 (oDec_at oX10_agreement 73 rfl) ev67 ?_
            exact r_iret C (oDec_at oX10_agreement 74 rfl) ⟨_, rfl, by omega⟩
          · skip
            refine r_bipush C (oDec_at oX10_agreement 70 rfl) (v := k16) (by rw [qk16]; rfl) ?_
            refine r_goto C (tgt := 105) (oDec_at oX10_agreement 71 rfl) (by decide) ?_
            obtain ⟨v68, ev68⟩ : ∃ z : Int32, z = v63 + k16 := ⟨_, rfl⟩
            have hv68 : v68.toInt = v63.toInt + k16.toInt := n_add ev68 (by omega) (by omega)
            refine r_iadd C v68 (oDec_at oX10_agreement 73 rfl) ev68 ?_
            exact r_iret C (oDec_at oX10_agreement 74 rfl) ⟨_, rfl, by omega⟩
        · skip
          refine r_bipush C (oDec_at oX10_agreement 57 rfl) (v := k8) (by rw [qk8]; rfl) ?_
          refine r_goto C (tgt := 87) (oDec_at oX10_agreement 58 rfl) (by decide) ?_
          obtain ⟨v69, ev69⟩ : ∃ z : Int32, z = v57 + k8 := ⟨_, rfl⟩
          have hv69 : v69.toInt = v57.toInt + k8.toInt := n_add ev69 (by omega) (by omega)
          refine r_iadd C v69 (oDec_at oX10_agreement 60 rfl) ev69 ?_
          refine r_istore_n C (lv' := [(0, .int a0), (1, .int a1), (2, .int v69)]) [1, 2, 0] (oDec_at oX10_agreement 61 rfl) rfl (by decide) rfl ?_
          refine r_iload_n C (j := 2) (oDec_at oX10_agreement 62 rfl) rfl rfl ?_
          refine r_iload_n C (j := 0) (oDec_at oX10_agreement 63 rfl) rfl rfl ?_
          refine r_iconst C (oDec_at oX10_agreement 64 rfl) (v := k3) (by rw [qk3]; rfl) ?_
          refine r_pc C 92 rfl ?_
          obtain ⟨v70, ev70⟩ : ∃ z : Int32, z = a0 - a0 / k3 * k3 := ⟨_, rfl⟩
          have hv70 := n_rem (k := 3) ev70 ek3 (by decide)
          have rv70 := n_rng v70
          refine r_irem C v70 (oDec_at oX10_agreement 65 rfl) (n_ne0 (by omega)) ev70 ?_
          refine r_iload_n C (j := 1) (oDec_at oX10_agreement 66 rfl) rfl rfl ?_
          refine r_iconst C (oDec_at oX10_agreement 67 rfl) (v := k3) (by rw [qk3]; rfl) ?_
          obtain ⟨v71, ev71⟩ : ∃ z : Int32, z = a1 - a1 / k3 * k3 := ⟨_, rfl⟩
          have hv71 := n_rem (k := 3) ev71 ek3 (by decide)
          have rv71 := n_rng v71
          refine r_irem C v71 (oDec_at oX10_agreement 68 rfl) (n_ne0 (by omega)) ev71 ?_
          refine r_icmp_ne C 104 (oDec_at oX10_agreement 69 rfl) (by decide) (fun cd72 => ?_) (fun cd72 => ?_)
          · skip
            refine r_iconst C (oDec_at oX10_agreement 72 rfl) (v := k0) (by rw [qk0]; rfl) ?_
            obtain ⟨v73, ev73⟩ : ∃ z : Int32, z = v69 + k0 := ⟨_, rfl⟩
            have hv73 : v73.toInt = v69.toInt + k0.toInt := n_add ev73 (by omega) (by omega)
            refine r_iadd C v73 (oDec_at oX10_agreement 73 rfl) ev73 ?_
            exact r_iret C (oDec_at oX10_agreement 74 rfl) ⟨_, rfl, by omega⟩
          · skip
            refine r_bipush C (oDec_at oX10_agreement 70 rfl) (v := k16) (by rw [qk16]; rfl) ?_
            refine r_goto C (tgt := 105) (oDec_at oX10_agreement 71 rfl) (by decide) ?_
            obtain ⟨v74, ev74⟩ : ∃ z : Int32, z = v69 + k16 := ⟨_, rfl⟩
            have hv74 : v74.toInt = v69.toInt + k16.toInt := n_add ev74 (by omega) (by omega)
            refine r_iadd C v74 (oDec_at oX10_agreement 73 rfl) ev74 ?_
            exact r_iret C (oDec_at oX10_agreement 74 rfl) ⟨_, rfl, by omega⟩
      · skip
        refine r_iconst C (oDec_at oX10_agreement 40 rfl) (v := k4) (by rw [qk4]; rfl) ?_
        refine r_goto C (tgt := 65) (oDec_at oX10_agreement 41 rfl) (by decide) ?_
        obtain ⟨v75, ev75⟩ : ∃ z : Int32, z = v51 + k4 := ⟨_, rfl⟩
        have hv75 : v75.toInt = v51.toInt + k4.toInt := n_add ev75 (by omega) (by omega)
        refine r_iadd C v75 (oDec_at oX10_agreement 43 rfl) ev75 ?_
        refine r_istore_n C (lv' := [(0, .int a0), (1, .int a1), (2, .int v75)]) [1, 2, 0] (oDec_at oX10_agreement 44 rfl) rfl (by decide) rfl ?_
        refine r_iload_n C (j := 2) (oDec_at oX10_agreement 45 rfl) rfl rfl ?_
        refine r_iload_n C (j := 0) (oDec_at oX10_agreement 46 rfl) rfl rfl ?_
        refine r_iconst C (oDec_at oX10_agreement 47 rfl) (v := k3) (by rw [qk3]; rfl) ?_
        refine r_pc C 70 rfl ?_
        obtain ⟨v76, ev76⟩ : ∃ z : Int32, z = a0 / k3 := ⟨_, rfl⟩
        have hv76 := n_divP (k := 3) ev76 ek3 (by decide)
        have rv76 := n_rng v76
        refine r_idiv C v76 (oDec_at oX10_agreement 48 rfl) (n_ne0 (by omega)) ev76 ?_
        refine r_iconst C (oDec_at oX10_agreement 49 rfl) (v := k2) (by rw [qk2]; rfl) ?_
        obtain ⟨v77, ev77⟩ : ∃ z : Int32, z = v76 - v76 / k2 * k2 := ⟨_, rfl⟩
        have hv77 := n_rem (k := 2) ev77 ek2 (by decide)
        have rv77 := n_rng v77
        refine r_irem C v77 (oDec_at oX10_agreement 50 rfl) (n_ne0 (by omega)) ev77 ?_
        refine r_iload_n C (j := 1) (oDec_at oX10_agreement 51 rfl) rfl rfl ?_
        refine r_iconst C (oDec_at oX10_agreement 52 rfl) (v := k3) (by rw [qk3]; rfl) ?_
        obtain ⟨v78, ev78⟩ : ∃ z : Int32, z = a1 / k3 := ⟨_, rfl⟩
        have hv78 := n_divP (k := 3) ev78 ek3 (by decide)
        have rv78 := n_rng v78
        refine r_idiv C v78 (oDec_at oX10_agreement 53 rfl) (n_ne0 (by omega)) ev78 ?_
        refine r_pc C 76 rfl ?_
        refine r_iconst C (oDec_at oX10_agreement 54 rfl) (v := k2) (by rw [qk2]; rfl) ?_
        obtain ⟨v79, ev79⟩ : ∃ z : Int32, z = v78 - v78 / k2 * k2 := ⟨_, rfl⟩
        have hv79 := n_rem (k := 2) ev79 ek2 (by decide)
        have rv79 := n_rng v79
        refine r_irem C v79 (oDec_at oX10_agreement 55 rfl) (n_ne0 (by omega)) ev79 ?_
        refine r_icmp_ne C 86 (oDec_at oX10_agreement 56 rfl) (by decide) (fun cd80 => ?_) (fun cd80 => ?_)
        · skip
          refine r_iconst C (oDec_at oX10_agreement 59 rfl) (v := k0) (by rw [qk0]; rfl) ?_
          obtain ⟨v81, ev81⟩ : ∃ z : Int32, z = v75 + k0 := ⟨_, rfl⟩
          have hv81 : v81.toInt = v75.toInt + k0.toInt := n_add ev81 (by omega) (by omega)
          refine r_iadd C v81 (oDec_at oX10_agreement 60 rfl) ev81 ?_
          refine r_istore_n C (lv' := [(0, .int a0), (1, .int a1), (2, .int v81)]) [1, 2, 0] (oDec_at oX10_agreement 61 rfl) rfl (by decide) rfl ?_
          refine r_iload_n C (j := 2) (oDec_at oX10_agreement 62 rfl) rfl rfl ?_
          refine r_iload_n C (j := 0) (oDec_at oX10_agreement 63 rfl) rfl rfl ?_
          refine r_iconst C (oDec_at oX10_agreement 64 rfl) (v := k3) (by rw [qk3]; rfl) ?_
          refine r_pc C 92 rfl ?_
          obtain ⟨v82, ev82⟩ : ∃ z : Int32, z = a0 - a0 / k3 * k3 := ⟨_, rfl⟩
          have hv82 := n_rem (k := 3) ev82 ek3 (by decide)
          have rv82 := n_rng v82
          refine r_irem C v82 (oDec_at oX10_agreement 65 rfl) (n_ne0 (by omega)) ev82 ?_
          refine r_iload_n C (j := 1) (oDec_at oX10_agreement 66 rfl) rfl rfl ?_
          refine r_iconst C (oDec_at oX10_agreement 67 rfl) (v := k3) (by rw [qk3]; rfl) ?_
          obtain ⟨v83, ev83⟩ : ∃ z : Int32, z = a1 - a1 / k3 * k3 := ⟨_, rfl⟩
          have hv83 := n_rem (k := 3) ev83 ek3 (by decide)
          have rv83 := n_rng v83
          refine r_irem C v83 (oDec_at oX10_agreement 68 rfl) (n_ne0 (by omega)) ev83 ?_
          refine r_icmp_ne C 104 (oDec_at oX10_agreement 69 rfl) (by decide) (fun cd84 => ?_) (fun cd84 => ?_)
          · skip
            refine r_iconst C (oDec_at oX10_agreement 72 rfl) (v := k0) (by rw [qk0]; rfl) ?_
            obtain ⟨v85, ev85⟩ : ∃ z : Int32, z = v81 + k0 := ⟨_, rfl⟩
            have hv85 : v85.toInt = v81.toInt + k0.toInt := n_add ev85 (by omega) (by omega)
            refine r_iadd C v85 (oDec_at oX10_agreement 73 rfl) ev85 ?_
            exact r_iret C (oDec_at oX10_agreement 74 rfl) ⟨_, rfl, by omega⟩
          · skip
            refine r_bipush C (oDec_at oX10_agreement 70 rfl) (v := k16) (by rw [qk16]; rfl) ?_
            refine r_goto C (tgt := 105) (oDec_at oX10_agreement 71 rfl) (by decide) ?_
            obtain ⟨v86, ev86⟩ : ∃ z : Int32, z = v81 + k16 := ⟨_, rfl⟩
            have hv86 : v86.toInt = v81.toInt + k16.toInt := n_add ev86 (by omega) (by omega)
            refine r_iadd C v86 (oDec_at oX10_agreement 73 rfl) ev86 ?_
            exact r_iret C (oDec_at oX10_agreement 74 rfl) ⟨_, rfl, by omega⟩
        · skip
          refine r_bipush C (oDec_at oX10_agreement 57 rfl) (v := k8) (by rw [qk8]; rfl) ?_
          refine r_goto C (tgt := 87) (oDec_at oX10_agreement 58 rfl) (by decide) ?_
          obtain ⟨v87, ev87⟩ : ∃ z : Int32, z = v75 + k8 := ⟨_, rfl⟩
          have hv87 : v87.toInt = v75.toInt + k8.toInt := n_add ev87 (by omega) (by omega)
          refine r_iadd C v87 (oDec_at oX10_agreement 60 rfl) ev87 ?_
          refine r_istore_n C (lv' := [(0, .int a0), (1, .int a1), (2, .int v87)]) [1, 2, 0] (oDec_at oX10_agreement 61 rfl) rfl (by decide) rfl ?_
          refine r_iload_n C (j := 2) (oDec_at oX10_agreement 62 rfl) rfl rfl ?_
          refine r_iload_n C (j := 0) (oDec_at oX10_agreement 63 rfl) rfl rfl ?_
          refine r_iconst C (oDec_at oX10_agreement 64 rfl) (v := k3) (by rw [qk3]; rfl) ?_
          refine r_pc C 92 rfl ?_
          obtain ⟨v88, ev88⟩ : ∃ z : Int32, z = a0 - a0 / k3 * k3 := ⟨_, rfl⟩
          have hv88 := n_rem (k := 3) ev88 ek3 (by decide)
          have rv88 := n_rng v88
          refine r_irem C v88 (oDec_at oX10_agreement 65 rfl) (n_ne0 (by omega)) ev88 ?_
          refine r_iload_n C (j := 1) (oDec_at oX10_agreement 66 rfl) rfl rfl ?_
          refine r_iconst C (oDec_at oX10_agreement 67 rfl) (v := k3) (by rw [qk3]; rfl) ?_
          obtain ⟨v89, ev89⟩ : ∃ z : Int32, z = a1 - a1 / k3 * k3 := ⟨_, rfl⟩
          have hv89 := n_rem (k := 3) ev89 ek3 (by decide)
          have rv89 := n_rng v89
          refine r_irem C v89 (oDec_at oX10_agreement 68 rfl) (n_ne0 (by omega)) ev89 ?_
          refine r_icmp_ne C 104 (oDec_at oX10_agreement 69 rfl) (by decide) (fun cd90 => ?_) (fun cd90 => ?_)
          · skip
            refine r_iconst C (oDec_at oX10_agreement 72 rfl) (v := k0) (by rw [qk0]; rfl) ?_
            obtain ⟨v91, ev91⟩ : ∃ z : Int32, z = v87 + k0 := ⟨_, rfl⟩
            have hv91 : v91.toInt = v87.toInt + k0.toInt := n_add ev91 (by omega) (by omega)
            refine r_iadd C v91 (oDec_at oX10_agreement 73 rfl) ev91 ?_
            exact r_iret C (oDec_at oX10_agreement 74 rfl) ⟨_, rfl, by omega⟩
          · skip
            refine r_bipush C (oDec_at oX10_agreement 70 rfl) (v := k16) (by rw [qk16]; rfl) ?_
            refine r_goto C (tgt := 105) (oDec_at oX10_agreement 71 rfl) (by decide) ?_
            obtain ⟨v92, ev92⟩ : ∃ z : Int32, z = v87 + k16 := ⟨_, rfl⟩
            have hv92 : v92.toInt = v87.toInt + k16.toInt := n_add ev92 (by omega) (by omega)
            refine r_iadd C v92 (oDec_at oX10_agreement 73 rfl) ev92 ?_
            exact r_iret C (oDec_at oX10_agreement 74 rfl) ⟨_, rfl, by omega⟩
  · skip
    refine r_iconst C (oDec_at oX10_agreement 7 rfl) (v := k1) (by rw [qk1]; rfl) ?_
    refine r_goto C (tgt := 18) (oDec_at oX10_agreement 8 rfl) (by decide) ?_
    refine r_istore_n C (lv' := [(0, .int a0), (1, .int a1), (2, .int k1)]) [1, 2, 0] (oDec_at oX10_agreement 10 rfl) rfl (by decide) rfl ?_
    refine r_iload_n C (j := 2) (oDec_at oX10_agreement 11 rfl) rfl rfl ?_
    refine r_iload_n C (j := 0) (oDec_at oX10_agreement 12 rfl) rfl rfl ?_
    refine r_bipush C (oDec_at oX10_agreement 13 rfl) (v := k12) (by rw [qk12]; rfl) ?_
    obtain ⟨v93, ev93⟩ : ∃ z : Int32, z = a0 / k12 := ⟨_, rfl⟩
    have hv93 := n_divP (k := 12) ev93 ek12 (by decide)
    have rv93 := n_rng v93
    refine r_idiv C v93 (oDec_at oX10_agreement 14 rfl) (n_ne0 (by omega)) ev93 ?_
    refine r_pc C 24 rfl ?_
    refine r_bipush C (oDec_at oX10_agreement 15 rfl) (v := k15) (by rw [qk15]; rfl) ?_
    obtain ⟨v94, ev94⟩ : ∃ z : Int32, z = v93 - v93 / k15 * k15 := ⟨_, rfl⟩
    have hv94 := n_rem (k := 15) ev94 ek15 (by decide)
    have rv94 := n_rng v94
    refine r_irem C v94 (oDec_at oX10_agreement 16 rfl) (n_ne0 (by omega)) ev94 ?_
    refine r_iload_n C (j := 1) (oDec_at oX10_agreement 17 rfl) rfl rfl ?_
    refine r_bipush C (oDec_at oX10_agreement 18 rfl) (v := k12) (by rw [qk12]; rfl) ?_
    obtain ⟨v95, ev95⟩ : ∃ z : Int32, z = a1 / k12 := ⟨_, rfl⟩
    have hv95 := n_divP (k := 12) ev95 ek12 (by decide)
    have rv95 := n_rng v95
    refine r_idiv C v95 (oDec_at oX10_agreement 19 rfl) (n_ne0 (by omega)) ev95 ?_
    refine r_bipush C (oDec_at oX10_agreement 20 rfl) (v := k15) (by rw [qk15]; rfl) ?_
    refine r_pc C 33 rfl ?_
    obtain ⟨v96, ev96⟩ : ∃ z : Int32, z = v95 - v95 / k15 * k15 := ⟨_, rfl⟩
    have hv96 := n_rem (k := 15) ev96 ek15 (by decide)
    have rv96 := n_rng v96
    refine r_irem C v96 (oDec_at oX10_agreement 21 rfl) (n_ne0 (by omega)) ev96 ?_
    refine r_icmp_ne C 41 (oDec_at oX10_agreement 22 rfl) (by decide) (fun cd97 => ?_) (fun cd97 => ?_)
    · skip
      refine r_iconst C (oDec_at oX10_agreement 25 rfl) (v := k0) (by rw [qk0]; rfl) ?_
      obtain ⟨v98, ev98⟩ : ∃ z : Int32, z = k1 + k0 := ⟨_, rfl⟩
      have hv98 : v98.toInt = k1.toInt + k0.toInt := n_add ev98 (by omega) (by omega)
      refine r_iadd C v98 (oDec_at oX10_agreement 26 rfl) ev98 ?_
      refine r_istore_n C (lv' := [(0, .int a0), (1, .int a1), (2, .int v98)]) [1, 2, 0] (oDec_at oX10_agreement 27 rfl) rfl (by decide) rfl ?_
      refine r_iload_n C (j := 2) (oDec_at oX10_agreement 28 rfl) rfl rfl ?_
      refine r_iload_n C (j := 0) (oDec_at oX10_agreement 29 rfl) rfl rfl ?_
      refine r_bipush C (oDec_at oX10_agreement 30 rfl) (v := k6) (by rw [qk6]; rfl) ?_
      refine r_pc C 48 rfl ?_
      obtain ⟨v99, ev99⟩ : ∃ z : Int32, z = a0 / k6 := ⟨_, rfl⟩
      have hv99 := n_divP (k := 6) ev99 ek6 (by decide)
      have rv99 := n_rng v99
      refine r_idiv C v99 (oDec_at oX10_agreement 31 rfl) (n_ne0 (by omega)) ev99 ?_
      refine r_iconst C (oDec_at oX10_agreement 32 rfl) (v := k2) (by rw [qk2]; rfl) ?_
      obtain ⟨v100, ev100⟩ : ∃ z : Int32, z = v99 - v99 / k2 * k2 := ⟨_, rfl⟩
      have hv100 := n_rem (k := 2) ev100 ek2 (by decide)
      have rv100 := n_rng v100
      refine r_irem C v100 (oDec_at oX10_agreement 33 rfl) (n_ne0 (by omega)) ev100 ?_
      refine r_iload_n C (j := 1) (oDec_at oX10_agreement 34 rfl) rfl rfl ?_
      refine r_bipush C (oDec_at oX10_agreement 35 rfl) (v := k6) (by rw [qk6]; rfl) ?_
      obtain ⟨v101, ev101⟩ : ∃ z : Int32, z = a1 / k6 := ⟨_, rfl⟩
      have hv101 := n_divP (k := 6) ev101 ek6 (by decide)
      have rv101 := n_rng v101
      refine r_idiv C v101 (oDec_at oX10_agreement 36 rfl) (n_ne0 (by omega)) ev101 ?_
      refine r_pc C 55 rfl ?_
      refine r_iconst C (oDec_at oX10_agreement 37 rfl) (v := k2) (by rw [qk2]; rfl) ?_
      obtain ⟨v102, ev102⟩ : ∃ z : Int32, z = v101 - v101 / k2 * k2 := ⟨_, rfl⟩
      have hv102 := n_rem (k := 2) ev102 ek2 (by decide)
      have rv102 := n_rng v102
      refine r_irem C v102 (oDec_at oX10_agreement 38 rfl) (n_ne0 (by omega)) ev102 ?_
      refine r_icmp_ne C 64 (oDec_at oX10_agreement 39 rfl) (by decide) (fun cd103 => ?_) (fun cd103 => ?_)
      · skip
        refine r_iconst C (oDec_at oX10_agreement 42 rfl) (v := k0) (by rw [qk0]; rfl) ?_
        obtain ⟨v104, ev104⟩ : ∃ z : Int32, z = v98 + k0 := ⟨_, rfl⟩
        have hv104 : v104.toInt = v98.toInt + k0.toInt := n_add ev104 (by omega) (by omega)
        refine r_iadd C v104 (oDec_at oX10_agreement 43 rfl) ev104 ?_
        refine r_istore_n C (lv' := [(0, .int a0), (1, .int a1), (2, .int v104)]) [1, 2, 0] (oDec_at oX10_agreement 44 rfl) rfl (by decide) rfl ?_
        refine r_iload_n C (j := 2) (oDec_at oX10_agreement 45 rfl) rfl rfl ?_
        refine r_iload_n C (j := 0) (oDec_at oX10_agreement 46 rfl) rfl rfl ?_
        refine r_iconst C (oDec_at oX10_agreement 47 rfl) (v := k3) (by rw [qk3]; rfl) ?_
        refine r_pc C 70 rfl ?_
        obtain ⟨v105, ev105⟩ : ∃ z : Int32, z = a0 / k3 := ⟨_, rfl⟩
        have hv105 := n_divP (k := 3) ev105 ek3 (by decide)
        have rv105 := n_rng v105
        refine r_idiv C v105 (oDec_at oX10_agreement 48 rfl) (n_ne0 (by omega)) ev105 ?_
        refine r_iconst C (oDec_at oX10_agreement 49 rfl) (v := k2) (by rw [qk2]; rfl) ?_
        obtain ⟨v106, ev106⟩ : ∃ z : Int32, z = v105 - v105 / k2 * k2 := ⟨_, rfl⟩
        have hv106 := n_rem (k := 2) ev106 ek2 (by decide)
        have rv106 := n_rng v106
        refine r_irem C v106 (oDec_at oX10_agreement 50 rfl) (n_ne0 (by omega)) ev106 ?_
        refine r_iload_n C (j := 1) (oDec_at oX10_agreement 51 rfl) rfl rfl ?_
        refine r_iconst C (oDec_at oX10_agreement 52 rfl) (v := k3) (by rw [qk3]; rfl) ?_
        obtain ⟨v107, ev107⟩ : ∃ z : Int32, z = a1 / k3 := ⟨_, rfl⟩
        have hv107 := n_divP (k := 3) ev107 ek3 (by decide)
        have rv107 := n_rng v107
        refine r_idiv C v107 (oDec_at oX10_agreement 53 rfl) (n_ne0 (by omega)) ev107 ?_
        refine r_pc C 76 rfl ?_
        refine r_iconst C (oDec_at oX10_agreement 54 rfl) (v := k2) (by rw [qk2]; rfl) ?_
        obtain ⟨v108, ev108⟩ : ∃ z : Int32, z = v107 - v107 / k2 * k2 := ⟨_, rfl⟩
        have hv108 := n_rem (k := 2) ev108 ek2 (by decide)
        have rv108 := n_rng v108
        refine r_irem C v108 (oDec_at oX10_agreement 55 rfl) (n_ne0 (by omega)) ev108 ?_
        refine r_icmp_ne C 86 (oDec_at oX10_agreement 56 rfl) (by decide) (fun cd109 => ?_) (fun cd109 => ?_)
        · skip
          refine r_iconst C (oDec_at oX10_agreement 59 rfl) (v := k0) (by rw [qk0]; rfl) ?_
          obtain ⟨v110, ev110⟩ : ∃ z : Int32, z = v104 + k0 := ⟨_, rfl⟩
          have hv110 : v110.toInt = v104.toInt + k0.toInt := n_add ev110 (by omega) (by omega)
          refine r_iadd C v110 (oDec_at oX10_agreement 60 rfl) ev110 ?_
          refine r_istore_n C (lv' := [(0, .int a0), (1, .int a1), (2, .int v110)]) [1, 2, 0] (oDec_at oX10_agreement 61 rfl) rfl (by decide) rfl ?_
          refine r_iload_n C (j := 2) (oDec_at oX10_agreement 62 rfl) rfl rfl ?_
          refine r_iload_n C (j := 0) (oDec_at oX10_agreement 63 rfl) rfl rfl ?_
          refine r_iconst C (oDec_at oX10_agreement 64 rfl) (v := k3) (by rw [qk3]; rfl) ?_
          refine r_pc C 92 rfl ?_
          obtain ⟨v111, ev111⟩ : ∃ z : Int32, z = a0 - a0 / k3 * k3 := ⟨_, rfl⟩
          have hv111 := n_rem (k := 3) ev111 ek3 (by decide)
          have rv111 := n_rng v111
          refine r_irem C v111 (oDec_at oX10_agreement 65 rfl) (n_ne0 (by omega)) ev111 ?_
          refine r_iload_n C (j := 1) (oDec_at oX10_agreement 66 rfl) rfl rfl ?_
          refine r_iconst C (oDec_at oX10_agreement 67 rfl) (v := k3) (by rw [qk3]; rfl) ?_
          obtain ⟨v112, ev112⟩ : ∃ z : Int32, z = a1 - a1 / k3 * k3 := ⟨_, rfl⟩
          have hv112 := n_rem (k := 3) ev112 ek3 (by decide)
          have rv112 := n_rng v112
          refine r_irem C v112 (oDec_at oX10_agreement 68 rfl) (n_ne0 (by omega)) ev112 ?_
          refine r_icmp_ne C 104 (oDec_at oX10_agreement 69 rfl) (by decide) (fun cd113 => ?_) (fun cd113 => ?_)
          · skip
            refine r_iconst C (oDec_at oX10_agreement 72 rfl) (v := k0) (by rw [qk0]; rfl) ?_
            obtain ⟨v114, ev114⟩ : ∃ z : Int32, z = v110 + k0 := ⟨_, rfl⟩
            have hv114 : v114.toInt = v110.toInt + k0.toInt := n_add ev114 (by omega) (by omega)
            refine r_iadd C v114 (oDec_at oX10_agreement 73 rfl) ev114 ?_
            exact r_iret C (oDec_at oX10_agreement 74 rfl) ⟨_, rfl, by omega⟩
          · skip
            refine r_bipush C (oDec_at oX10_agreement 70 rfl) (v := k16) (by rw [qk16]; rfl) ?_
            refine r_goto C (tgt := 105) (oDec_at oX10_agreement 71 rfl) (by decide) ?_
            obtain ⟨v115, ev115⟩ : ∃ z : Int32, z = v110 + k16 := ⟨_, rfl⟩
            have hv115 : v115.toInt = v110.toInt + k16.toInt := n_add ev115 (by omega) (by omega)
            refine r_iadd C v115 (oDec_at oX10_agreement 73 rfl) ev115 ?_
            exact r_iret C (oDec_at oX10_agreement 74 rfl) ⟨_, rfl, by omega⟩
        · skip
          refine r_bipush C (oDec_at oX10_agreement 57 rfl) (v := k8) (by rw [qk8]; rfl) ?_
          refine r_goto C (tgt := 87) (oDec_at oX10_agreement 58 rfl) (by decide) ?_
          obtain ⟨v116, ev116⟩ : ∃ z : Int32, z = v104 + k8 := ⟨_, rfl⟩
          have hv116 : v116.toInt = v104.toInt + k8.toInt := n_add ev116 (by omega) (by omega)
          refine r_iadd C v116 (oDec_at oX10_agreement 60 rfl) ev116 ?_
          refine r_istore_n C (lv' := [(0, .int a0), (1, .int a1), (2, .int v116)]) [1, 2, 0] (oDec_at oX10_agreement 61 rfl) rfl (by decide) rfl ?_
          refine r_iload_n C (j := 2) (oDec_at oX10_agreement 62 rfl) rfl rfl ?_
          refine r_iload_n C (j := 0) (oDec_at oX10_agreement 63 rfl) rfl rfl ?_
          refine r_iconst C (oDec_at oX10_agreement 64 rfl) (v := k3) (by rw [qk3]; rfl) ?_
          refine r_pc C 92 rfl ?_
          obtain ⟨v117, ev117⟩ : ∃ z : Int32, z = a0 - a0 / k3 * k3 := ⟨_, rfl⟩
          have hv117 := n_rem (k := 3) ev117 ek3 (by decide)
          have rv117 := n_rng v117
          refine r_irem C v117 (oDec_at oX10_agreement 65 rfl) (n_ne0 (by omega)) ev117 ?_
          refine r_iload_n C (j := 1) (oDec_at oX10_agreement 66 rfl) rfl rfl ?_
          refine r_iconst C (oDec_at oX10_agreement 67 rfl) (v := k3) (by rw [qk3]; rfl) ?_
          obtain ⟨v118, ev118⟩ : ∃ z : Int32, z = a1 - a1 / k3 * k3 := ⟨_, rfl⟩
          have hv118 := n_rem (k := 3) ev118 ek3 (by decide)
          have rv118 := n_rng v118
          refine r_irem C v118 (oDec_at oX10_agreement 68 rfl) (n_ne0 (by omega)) ev118 ?_
          refine r_icmp_ne C 104 (oDec_at oX10_agreement 69 rfl) (by decide) (fun cd119 => ?_) (fun cd119 => ?_)
          · skip
            refine r_iconst C (oDec_at oX10_agreement 72 rfl) (v := k0) (by rw [qk0]; rfl) ?_
            obtain ⟨v120, ev120⟩ : ∃ z : Int32, z = v116 + k0 := ⟨_, rfl⟩
            have hv120 : v120.toInt = v116.toInt + k0.toInt := n_add ev120 (by omega) (by omega)
            refine r_iadd C v120 (oDec_at oX10_agreement 73 rfl) ev120 ?_
            exact r_iret C (oDec_at oX10_agreement 74 rfl) ⟨_, rfl, by omega⟩
          · skip
            refine r_bipush C (oDec_at oX10_agreement 70 rfl) (v := k16) (by rw [qk16]; rfl) ?_
            refine r_goto C (tgt := 105) (oDec_at oX10_agreement 71 rfl) (by decide) ?_
            obtain ⟨v121, ev121⟩ : ∃ z : Int32, z = v116 + k16 := ⟨_, rfl⟩
            have hv121 : v121.toInt = v116.toInt + k16.toInt := n_add ev121 (by omega) (by omega)
            refine r_iadd C v121 (oDec_at oX10_agreement 73 rfl) ev121 ?_
            exact r_iret C (oDec_at oX10_agreement 74 rfl) ⟨_, rfl, by omega⟩
      · skip
        refine r_iconst C (oDec_at oX10_agreement 40 rfl) (v := k4) (by rw [qk4]; rfl) ?_
        refine r_goto C (tgt := 65) (oDec_at oX10_agreement 41 rfl) (by decide) ?_
        obtain ⟨v122, ev122⟩ : ∃ z : Int32, z = v98 + k4 := ⟨_, rfl⟩
        have hv122 : v122.toInt = v98.toInt + k4.toInt := n_add ev122 (by omega) (by omega)
        refine r_iadd C v122 (oDec_at oX10_agreement 43 rfl) ev122 ?_
        refine r_istore_n C (lv' := [(0, .int a0), (1, .int a1), (2, .int v122)]) [1, 2, 0] (oDec_at oX10_agreement 44 rfl) rfl (by decide) rfl ?_
        refine r_iload_n C (j := 2) (oDec_at oX10_agreement 45 rfl) rfl rfl ?_
        refine r_iload_n C (j := 0) (oDec_at oX10_agreement 46 rfl) rfl rfl ?_
        refine r_iconst C (oDec_at oX10_agreement 47 rfl) (v := k3) (by rw [qk3]; rfl) ?_
        refine r_pc C 70 rfl ?_
        obtain ⟨v123, ev123⟩ : ∃ z : Int32, z = a0 / k3 := ⟨_, rfl⟩
        have hv123 := n_divP (k := 3) ev123 ek3 (by decide)
        have rv123 := n_rng v123
        refine r_idiv C v123 (oDec_at oX10_agreement 48 rfl) (n_ne0 (by omega)) ev123 ?_
        refine r_iconst C (oDec_at oX10_agreement 49 rfl) (v := k2) (by rw [qk2]; rfl) ?_
        obtain ⟨v124, ev124⟩ : ∃ z : Int32, z = v123 - v123 / k2 * k2 := ⟨_, rfl⟩
        have hv124 := n_rem (k := 2) ev124 ek2 (by decide)
        have rv124 := n_rng v124
        refine r_irem C v124 (oDec_at oX10_agreement 50 rfl) (n_ne0 (by omega)) ev124 ?_
        refine r_iload_n C (j := 1) (oDec_at oX10_agreement 51 rfl) rfl rfl ?_
        refine r_iconst C (oDec_at oX10_agreement 52 rfl) (v := k3) (by rw [qk3]; rfl) ?_
        obtain ⟨v125, ev125⟩ : ∃ z : Int32, z = a1 / k3 := ⟨_, rfl⟩
        have hv125 := n_divP (k := 3) ev125 ek3 (by decide)
        have rv125 := n_rng v125
        refine r_idiv C v125 (oDec_at oX10_agreement 53 rfl) (n_ne0 (by omega)) ev125 ?_
        refine r_pc C 76 rfl ?_
        refine r_iconst C (oDec_at oX10_agreement 54 rfl) (v := k2) (by rw [qk2]; rfl) ?_
        obtain ⟨v126, ev126⟩ : ∃ z : Int32, z = v125 - v125 / k2 * k2 := ⟨_, rfl⟩
        have hv126 := n_rem (k := 2) ev126 ek2 (by decide)
        have rv126 := n_rng v126
        refine r_irem C v126 (oDec_at oX10_agreement 55 rfl) (n_ne0 (by omega)) ev126 ?_
        refine r_icmp_ne C 86 (oDec_at oX10_agreement 56 rfl) (by decide) (fun cd127 => ?_) (fun cd127 => ?_)
        · skip
          refine r_iconst C (oDec_at oX10_agreement 59 rfl) (v := k0) (by rw [qk0]; rfl) ?_
          obtain ⟨v128, ev128⟩ : ∃ z : Int32, z = v122 + k0 := ⟨_, rfl⟩
          have hv128 : v128.toInt = v122.toInt + k0.toInt := n_add ev128 (by omega) (by omega)
          refine r_iadd C v128 (oDec_at oX10_agreement 60 rfl) ev128 ?_
          refine r_istore_n C (lv' := [(0, .int a0), (1, .int a1), (2, .int v128)]) [1, 2, 0] (oDec_at oX10_agreement 61 rfl) rfl (by decide) rfl ?_
          refine r_iload_n C (j := 2) (oDec_at oX10_agreement 62 rfl) rfl rfl ?_
          refine r_iload_n C (j := 0) (oDec_at oX10_agreement 63 rfl) rfl rfl ?_
          refine r_iconst C (oDec_at oX10_agreement 64 rfl) (v := k3) (by rw [qk3]; rfl) ?_
          refine r_pc C 92 rfl ?_
          obtain ⟨v129, ev129⟩ : ∃ z : Int32, z = a0 - a0 / k3 * k3 := ⟨_, rfl⟩
          have hv129 := n_rem (k := 3) ev129 ek3 (by decide)
          have rv129 := n_rng v129
          refine r_irem C v129 (oDec_at oX10_agreement 65 rfl) (n_ne0 (by omega)) ev129 ?_
          refine r_iload_n C (j := 1) (oDec_at oX10_agreement 66 rfl) rfl rfl ?_
          refine r_iconst C (oDec_at oX10_agreement 67 rfl) (v := k3) (by rw [qk3]; rfl) ?_
          obtain ⟨v130, ev130⟩ : ∃ z : Int32, z = a1 - a1 / k3 * k3 := ⟨_, rfl⟩
          have hv130 := n_rem (k := 3) ev130 ek3 (by decide)
          have rv130 := n_rng v130
          refine r_irem C v130 (oDec_at oX10_agreement 68 rfl) (n_ne0 (by omega)) ev130 ?_
          refine r_icmp_ne C 104 (oDec_at oX10_agreement 69 rfl) (by decide) (fun cd131 => ?_) (fun cd131 => ?_)
          · skip
            refine r_iconst C (oDec_at oX10_agreement 72 rfl) (v := k0) (by rw [qk0]; rfl) ?_
            obtain ⟨v132, ev132⟩ : ∃ z : Int32, z = v128 + k0 := ⟨_, rfl⟩
            have hv132 : v132.toInt = v128.toInt + k0.toInt := n_add ev132 (by omega) (by omega)
            refine r_iadd C v132 (oDec_at oX10_agreement 73 rfl) ev132 ?_
            exact r_iret C (oDec_at oX10_agreement 74 rfl) ⟨_, rfl, by omega⟩
          · skip
            refine r_bipush C (oDec_at oX10_agreement 70 rfl) (v := k16) (by rw [qk16]; rfl) ?_
            refine r_goto C (tgt := 105) (oDec_at oX10_agreement 71 rfl) (by decide) ?_
            obtain ⟨v133, ev133⟩ : ∃ z : Int32, z = v128 + k16 := ⟨_, rfl⟩
            have hv133 : v133.toInt = v128.toInt + k16.toInt := n_add ev133 (by omega) (by omega)
            refine r_iadd C v133 (oDec_at oX10_agreement 73 rfl) ev133 ?_
            exact r_iret C (oDec_at oX10_agreement 74 rfl) ⟨_, rfl, by omega⟩
        · skip
          refine r_bipush C (oDec_at oX10_agreement 57 rfl) (v := k8) (by rw [qk8]; rfl) ?_
          refine r_goto C (tgt := 87) (oDec_at oX10_agreement 58 rfl) (by decide) ?_
          obtain ⟨v134, ev134⟩ : ∃ z : Int32, z = v122 + k8 := ⟨_, rfl⟩
          have hv134 : v134.toInt = v122.toInt + k8.toInt := n_add ev134 (by omega) (by omega)
          refine r_iadd C v134 (oDec_at oX10_agreement 60 rfl) ev134 ?_
          refine r_istore_n C (lv' := [(0, .int a0), (1, .int a1), (2, .int v134)]) [1, 2, 0] (oDec_at oX10_agreement 61 rfl) rfl (by decide) rfl ?_
          refine r_iload_n C (j := 2) (oDec_at oX10_agreement 62 rfl) rfl rfl ?_
          refine r_iload_n C (j := 0) (oDec_at oX10_agreement 63 rfl) rfl rfl ?_
          refine r_iconst C (oDec_at oX10_agreement 64 rfl) (v := k3) (by rw [qk3]; rfl) ?_
          refine r_pc C 92 rfl ?_
          obtain ⟨v135, ev135⟩ : ∃ z : Int32, z = a0 - a0 / k3 * k3 := ⟨_, rfl⟩
          have hv135 := n_rem (k := 3) ev135 ek3 (by decide)
          have rv135 := n_rng v135
          refine r_irem C v135 (oDec_at oX10_agreement 65 rfl) (n_ne0 (by omega)) ev135 ?_
          refine r_iload_n C (j := 1) (oDec_at oX10_agreement 66 rfl) rfl rfl ?_
          refine r_iconst C (oDec_at oX10_agreement 67 rfl) (v := k3) (by rw [qk3]; rfl) ?_
          obtain ⟨v136, ev136⟩ : ∃ z : Int32, z = a1 - a1 / k3 * k3 := ⟨_, rfl⟩
          have hv136 := n_rem (k := 3) ev136 ek3 (by decide)
          have rv136 := n_rng v136
          refine r_irem C v136 (oDec_at oX10_agreement 68 rfl) (n_ne0 (by omega)) ev136 ?_
          refine r_icmp_ne C 104 (oDec_at oX10_agreement 69 rfl) (by decide) (fun cd137 => ?_) (fun cd137 => ?_)
          · skip
            refine r_iconst C (oDec_at oX10_agreement 72 rfl) (v := k0) (by rw [qk0]; rfl) ?_
            obtain ⟨v138, ev138⟩ : ∃ z : Int32, z = v134 + k0 := ⟨_, rfl⟩
            have hv138 : v138.toInt = v134.toInt + k0.toInt := n_add ev138 (by omega) (by omega)
            refine r_iadd C v138 (oDec_at oX10_agreement 73 rfl) ev138 ?_
            exact r_iret C (oDec_at oX10_agreement 74 rfl) ⟨_, rfl, by omega⟩
          · skip
            refine r_bipush C (oDec_at oX10_agreement 70 rfl) (v := k16) (by rw [qk16]; rfl) ?_
            refine r_goto C (tgt := 105) (oDec_at oX10_agreement 71 rfl) (by decide) ?_
            obtain ⟨v139, ev139⟩ : ∃ z : Int32, z = v134 + k16 := ⟨_, rfl⟩
            have hv139 : v139.toInt = v134.toInt + k16.toInt := n_add ev139 (by omega) (by omega)
            refine r_iadd C v139 (oDec_at oX10_agreement 73 rfl) ev139 ?_
            exact r_iret C (oDec_at oX10_agreement 74 rfl) ⟨_, rfl, by omega⟩
    · skip
      refine r_iconst C (oDec_at oX10_agreement 23 rfl) (v := k2) (by rw [qk2]; rfl) ?_
      refine r_goto C (tgt := 42) (oDec_at oX10_agreement 24 rfl) (by decide) ?_
      obtain ⟨v140, ev140⟩ : ∃ z : Int32, z = k1 + k2 := ⟨_, rfl⟩
      have hv140 : v140.toInt = k1.toInt + k2.toInt := n_add ev140 (by omega) (by omega)
      refine r_iadd C v140 (oDec_at oX10_agreement 26 rfl) ev140 ?_
      refine r_istore_n C (lv' := [(0, .int a0), (1, .int a1), (2, .int v140)]) [1, 2, 0] (oDec_at oX10_agreement 27 rfl) rfl (by decide) rfl ?_
      refine r_iload_n C (j := 2) (oDec_at oX10_agreement 28 rfl) rfl rfl ?_
      refine r_iload_n C (j := 0) (oDec_at oX10_agreement 29 rfl) rfl rfl ?_
      refine r_bipush C (oDec_at oX10_agreement 30 rfl) (v := k6) (by rw [qk6]; rfl) ?_
      refine r_pc C 48 rfl ?_
      obtain ⟨v141, ev141⟩ : ∃ z : Int32, z = a0 / k6 := ⟨_, rfl⟩
      have hv141 := n_divP (k := 6) ev141 ek6 (by decide)
      have rv141 := n_rng v141
      refine r_idiv C v141 (oDec_at oX10_agreement 31 rfl) (n_ne0 (by omega)) ev141 ?_
      refine r_iconst C (oDec_at oX10_agreement 32 rfl) (v := k2) (by rw [qk2]; rfl) ?_
      obtain ⟨v142, ev142⟩ : ∃ z : Int32, z = v141 - v141 / k2 * k2 := ⟨_, rfl⟩
      have hv142 := n_rem (k := 2) ev142 ek2 (by decide)
      have rv142 := n_rng v142
      refine r_irem C v142 (oDec_at oX10_agreement 33 rfl) (n_ne0 (by omega)) ev142 ?_
      refine r_iload_n C (j := 1) (oDec_at oX10_agreement 34 rfl) rfl rfl ?_
      refine r_bipush C (oDec_at oX10_agreement 35 rfl) (v := k6) (by rw [qk6]; rfl) ?_
      obtain ⟨v143, ev143⟩ : ∃ z : Int32, z = a1 / k6 := ⟨_, rfl⟩
      have hv143 := n_divP (k := 6) ev143 ek6 (by decide)
      have rv143 := n_rng v143
      refine r_idiv C v143 (oDec_at oX10_agreement 36 rfl) (n_ne0 (by omega)) ev143 ?_
      refine r_pc C 55 rfl ?_
      refine r_iconst C (oDec_at oX10_agreement 37 rfl) (v := k2) (by rw [qk2]; rfl) ?_
      obtain ⟨v144, ev144⟩ : ∃ z : Int32, z = v143 - v143 / k2 * k2 := ⟨_, rfl⟩
      have hv144 := n_rem (k := 2) ev144 ek2 (by decide)
      have rv144 := n_rng v144
      refine r_irem C v144 (oDec_at oX10_agreement 38 rfl) (n_ne0 (by omega)) ev144 ?_
      refine r_icmp_ne C 64 (oDec_at oX10_agreement 39 rfl) (by decide) (fun cd145 => ?_) (fun cd145 => ?_)
      · skip
        refine r_iconst C (oDec_at oX10_agreement 42 rfl) (v := k0) (by rw [qk0]; rfl) ?_
        obtain ⟨v146, ev146⟩ : ∃ z : Int32, z = v140 + k0 := ⟨_, rfl⟩
        have hv146 : v146.toInt = v140.toInt + k0.toInt := n_add ev146 (by omega) (by omega)
        refine r_iadd C v146 (oDec_at oX10_agreement 43 rfl) ev146 ?_
        refine r_istore_n C (lv' := [(0, .int a0), (1, .int a1), (2, .int v146)]) [1, 2, 0] (oDec_at oX10_agreement 44 rfl) rfl (by decide) rfl ?_
        refine r_iload_n C (j := 2) (oDec_at oX10_agreement 45 rfl) rfl rfl ?_
        refine r_iload_n C (j := 0) (oDec_at oX10_agreement 46 rfl) rfl rfl ?_
        refine r_iconst C (oDec_at oX10_agreement 47 rfl) (v := k3) (by rw [qk3]; rfl) ?_
        refine r_pc C 70 rfl ?_
        obtain ⟨v147, ev147⟩ : ∃ z : Int32, z = a0 / k3 := ⟨_, rfl⟩
        have hv147 := n_divP (k := 3) ev147 ek3 (by decide)
        have rv147 := n_rng v147
        refine r_idiv C v147 (oDec_at oX10_agreement 48 rfl) (n_ne0 (by omega)) ev147 ?_
        refine r_iconst C (oDec_at oX10_agreement 49 rfl) (v := k2) (by rw [qk2]; rfl) ?_
        obtain ⟨v148, ev148⟩ : ∃ z : Int32, z = v147 - v147 / k2 * k2 := ⟨_, rfl⟩
        have hv148 := n_rem (k := 2) ev148 ek2 (by decide)
        have rv148 := n_rng v148
        refine r_irem C v148 (oDec_at oX10_agreement 50 rfl) (n_ne0 (by omega)) ev148 ?_
        refine r_iload_n C (j := 1) (oDec_at oX10_agreement 51 rfl) rfl rfl ?_
        refine r_iconst C (oDec_at oX10_agreement 52 rfl) (v := k3) (by rw [qk3]; rfl) ?_
        obtain ⟨v149, ev149⟩ : ∃ z : Int32, z = a1 / k3 := ⟨_, rfl⟩
        have hv149 := n_divP (k := 3) ev149 ek3 (by decide)
        have rv149 := n_rng v149
        refine r_idiv C v149 (oDec_at oX10_agreement 53 rfl) (n_ne0 (by omega)) ev149 ?_
        refine r_pc C 76 rfl ?_
        refine r_iconst C (oDec_at oX10_agreement 54 rfl) (v := k2) (by rw [qk2]; rfl) ?_
        obtain ⟨v150, ev150⟩ : ∃ z : Int32, z = v149 - v149 / k2 * k2 := ⟨_, rfl⟩
        have hv150 := n_rem (k := 2) ev150 ek2 (by decide)
        have rv150 := n_rng v150
        refine r_irem C v150 (oDec_at oX10_agreement 55 rfl) (n_ne0 (by omega)) ev150 ?_
        refine r_icmp_ne C 86 (oDec_at oX10_agreement 56 rfl) (by decide) (fun cd151 => ?_) (fun cd151 => ?_)
        · skip
          refine r_iconst C (oDec_at oX10_agreement 59 rfl) (v := k0) (by rw [qk0]; rfl) ?_
          obtain ⟨v152, ev152⟩ : ∃ z : Int32, z = v146 + k0 := ⟨_, rfl⟩
          have hv152 : v152.toInt = v146.toInt + k0.toInt := n_add ev152 (by omega) (by omega)
          refine r_iadd C v152 (oDec_at oX10_agreement 60 rfl) ev152 ?_
          refine r_istore_n C (lv' := [(0, .int a0), (1, .int a1), (2, .int v152)]) [1, 2, 0] (oDec_at oX10_agreement 61 rfl) rfl (by decide) rfl ?_
          refine r_iload_n C (j := 2) (oDec_at oX10_agreement 62 rfl) rfl rfl ?_
          refine r_iload_n C (j := 0) (oDec_at oX10_agreement 63 rfl) rfl rfl ?_
          refine r_iconst C (oDec_at oX10_agreement 64 rfl) (v := k3) (by rw [qk3]; rfl) ?_
          refine r_pc C 92 rfl ?_
          obtain ⟨v153, ev153⟩ : ∃ z : Int32, z = a0 - a0 / k3 * k3 := ⟨_, rfl⟩
          have hv153 := n_rem (k := 3) ev153 ek3 (by decide)
          have rv153 := n_rng v153
          refine r_irem C v153 (oDec_at oX10_agreement 65 rfl) (n_ne0 (by omega)) ev153 ?_
          refine r_iload_n C (j := 1) (oDec_at oX10_agreement 66 rfl) rfl rfl ?_
          refine r_iconst C (oDec_at oX10_agreement 67 rfl) (v := k3) (by rw [qk3]; rfl) ?_
          obtain ⟨v154, ev154⟩ : ∃ z : Int32, z = a1 - a1 / k3 * k3 := ⟨_, rfl⟩
          have hv154 := n_rem (k := 3) ev154 ek3 (by decide)
          have rv154 := n_rng v154
          refine r_irem C v154 (oDec_at oX10_agreement 68 rfl) (n_ne0 (by omega)) ev154 ?_
          refine r_icmp_ne C 104 (oDec_at oX10_agreement 69 rfl) (by decide) (fun cd155 => ?_) (fun cd155 => ?_)
          · skip
            refine r_iconst C (oDec_at oX10_agreement 72 rfl) (v := k0) (by rw [qk0]; rfl) ?_
            obtain ⟨v156, ev156⟩ : ∃ z : Int32, z = v152 + k0 := ⟨_, rfl⟩
            have hv156 : v156.toInt = v152.toInt + k0.toInt := n_add ev156 (by omega) (by omega)
            refine r_iadd C v156 (oDec_at oX10_agreement 73 rfl) ev156 ?_
            exact r_iret C (oDec_at oX10_agreement 74 rfl) ⟨_, rfl, by omega⟩
          · skip
            refine r_bipush C (oDec_at oX10_agreement 70 rfl) (v := k16) (by rw [qk16]; rfl) ?_
            refine r_goto C (tgt := 105) (oDec_at oX10_agreement 71 rfl) (by decide) ?_
            obtain ⟨v157, ev157⟩ : ∃ z : Int32, z = v152 + k16 := ⟨_, rfl⟩
            have hv157 : v157.toInt = v152.toInt + k16.toInt := n_add ev157 (by omega) (by omega)
            refine r_iadd C v157 (oDec_at oX10_agreement 73 rfl) ev157 ?_
            exact r_iret C (oDec_at oX10_agreement 74 rfl) ⟨_, rfl, by omega⟩
        · skip
          refine r_bipush C (oDec_at oX10_agreement 57 rfl) (v := k8) (by rw [qk8]; rfl) ?_
          refine r_goto C (tgt := 87) (oDec_at oX10_agreement 58 rfl) (by decide) ?_
          obtain ⟨v158, ev158⟩ : ∃ z : Int32, z = v146 + k8 := ⟨_, rfl⟩
          have hv158 : v158.toInt = v146.toInt + k8.toInt := n_add ev158 (by omega) (by omega)
          refine r_iadd C v158 (oDec_at oX10_agreement 60 rfl) ev158 ?_
          refine r_istore_n C (lv' := [(0, .int a0), (1, .int a1), (2, .int v158)]) [1, 2, 0] (oDec_at oX10_agreement 61 rfl) rfl (by decide) rfl ?_
          refine r_iload_n C (j := 2) (oDec_at oX10_agreement 62 rfl) rfl rfl ?_
          refine r_iload_n C (j := 0) (oDec_at oX10_agreement 63 rfl) rfl rfl ?_
          refine r_iconst C (oDec_at oX10_agreement 64 rfl) (v := k3) (by rw [qk3]; rfl) ?_
          refine r_pc C 92 rfl ?_
          obtain ⟨v159, ev159⟩ : ∃ z : Int32, z = a0 - a0 / k3 * k3 := ⟨_, rfl⟩
          have hv159 := n_rem (k := 3) ev159 ek3 (by decide)
          have rv159 := n_rng v159
          refine r_irem C v159 (oDec_at oX10_agreement 65 rfl) (n_ne0 (by omega)) ev159 ?_
          refine r_iload_n C (j := 1) (oDec_at oX10_agreement 66 rfl) rfl rfl ?_
          refine r_iconst C (oDec_at oX10_agreement 67 rfl) (v := k3) (by rw [qk3]; rfl) ?_
          obtain ⟨v160, ev160⟩ : ∃ z : Int32, z = a1 - a1 / k3 * k3 := ⟨_, rfl⟩
          have hv160 := n_rem (k := 3) ev160 ek3 (by decide)
          have rv160 := n_rng v160
          refine r_irem C v160 (oDec_at oX10_agreement 68 rfl) (n_ne0 (by omega)) ev160 ?_
          refine r_icmp_ne C 104 (oDec_at oX10_agreement 69 rfl) (by decide) (fun cd161 => ?_) (fun cd161 => ?_)
          · skip
            refine r_iconst C (oDec_at oX10_agreement 72 rfl) (v := k0) (by rw [qk0]; rfl) ?_
            obtain ⟨v162, ev162⟩ : ∃ z : Int32, z = v158 + k0 := ⟨_, rfl⟩
            have hv162 : v162.toInt = v158.toInt + k0.toInt := n_add ev162 (by omega) (by omega)
            refine r_iadd C v162 (oDec_at oX10_agreement 73 rfl) ev162 ?_
            exact r_iret C (oDec_at oX10_agreement 74 rfl) ⟨_, rfl, by omega⟩
          · skip
            refine r_bipush C (oDec_at oX10_agreement 70 rfl) (v := k16) (by rw [qk16]; rfl) ?_
            refine r_goto C (tgt := 105) (oDec_at oX10_agreement 71 rfl) (by decide) ?_
            obtain ⟨v163, ev163⟩ : ∃ z : Int32, z = v158 + k16 := ⟨_, rfl⟩
            have hv163 : v163.toInt = v158.toInt + k16.toInt := n_add ev163 (by omega) (by omega)
            refine r_iadd C v163 (oDec_at oX10_agreement 73 rfl) ev163 ?_
            exact r_iret C (oDec_at oX10_agreement 74 rfl) ⟨_, rfl, by omega⟩
      · skip
        refine r_iconst C (oDec_at oX10_agreement 40 rfl) (v := k4) (by rw [qk4]; rfl) ?_
        refine r_goto C (tgt := 65) (oDec_at oX10_agreement 41 rfl) (by decide) ?_
        obtain ⟨v164, ev164⟩ : ∃ z : Int32, z = v140 + k4 := ⟨_, rfl⟩
        have hv164 : v164.toInt = v140.toInt + k4.toInt := n_add ev164 (by omega) (by omega)
        refine r_iadd C v164 (oDec_at oX10_agreement 43 rfl) ev164 ?_
        refine r_istore_n C (lv' := [(0, .int a0), (1, .int a1), (2, .int v164)]) [1, 2, 0] (oDec_at oX10_agreement 44 rfl) rfl (by decide) rfl ?_
        refine r_iload_n C (j := 2) (oDec_at oX10_agreement 45 rfl) rfl rfl ?_
        refine r_iload_n C (j := 0) (oDec_at oX10_agreement 46 rfl) rfl rfl ?_
        refine r_iconst C (oDec_at oX10_agreement 47 rfl) (v := k3) (by rw [qk3]; rfl) ?_
        refine r_pc C 70 rfl ?_
        obtain ⟨v165, ev165⟩ : ∃ z : Int32, z = a0 / k3 := ⟨_, rfl⟩
        have hv165 := n_divP (k := 3) ev165 ek3 (by decide)
        have rv165 := n_rng v165
        refine r_idiv C v165 (oDec_at oX10_agreement 48 rfl) (n_ne0 (by omega)) ev165 ?_
        refine r_iconst C (oDec_at oX10_agreement 49 rfl) (v := k2) (by rw [qk2]; rfl) ?_
        obtain ⟨v166, ev166⟩ : ∃ z : Int32, z = v165 - v165 / k2 * k2 := ⟨_, rfl⟩
        have hv166 := n_rem (k := 2) ev166 ek2 (by decide)
        have rv166 := n_rng v166
        refine r_irem C v166 (oDec_at oX10_agreement 50 rfl) (n_ne0 (by omega)) ev166 ?_
        refine r_iload_n C (j := 1) (oDec_at oX10_agreement 51 rfl) rfl rfl ?_
        refine r_iconst C (oDec_at oX10_agreement 52 rfl) (v := k3) (by rw [qk3]; rfl) ?_
        obtain ⟨v167, ev167⟩ : ∃ z : Int32, z = a1 / k3 := ⟨_, rfl⟩
        have hv167 := n_divP (k := 3) ev167 ek3 (by decide)
        have rv167 := n_rng v167
        refine r_idiv C v167 (oDec_at oX10_agreement 53 rfl) (n_ne0 (by omega)) ev167 ?_
        refine r_pc C 76 rfl ?_
        refine r_iconst C (oDec_at oX10_agreement 54 rfl) (v := k2) (by rw [qk2]; rfl) ?_
        obtain ⟨v168, ev168⟩ : ∃ z : Int32, z = v167 - v167 / k2 * k2 := ⟨_, rfl⟩
        have hv168 := n_rem (k := 2) ev168 ek2 (by decide)
        have rv168 := n_rng v168
        refine r_irem C v168 (oDec_at oX10_agreement 55 rfl) (n_ne0 (by omega)) ev168 ?_
        refine r_icmp_ne C 86 (oDec_at oX10_agreement 56 rfl) (by decide) (fun cd169 => ?_) (fun cd169 => ?_)
        · skip
          refine r_iconst C (oDec_at oX10_agreement 59 rfl) (v := k0) (by rw [qk0]; rfl) ?_
          obtain ⟨v170, ev170⟩ : ∃ z : Int32, z = v164 + k0 := ⟨_, rfl⟩
          have hv170 : v170.toInt = v164.toInt + k0.toInt := n_add ev170 (by omega) (by omega)
          refine r_iadd C v170 (oDec_at oX10_agreement 60 rfl) ev170 ?_
          refine r_istore_n C (lv' := [(0, .int a0), (1, .int a1), (2, .int v170)]) [1, 2, 0] (oDec_at oX10_agreement 61 rfl) rfl (by decide) rfl ?_
          refine r_iload_n C (j := 2) (oDec_at oX10_agreement 62 rfl) rfl rfl ?_
          refine r_iload_n C (j := 0) (oDec_at oX10_agreement 63 rfl) rfl rfl ?_
          refine r_iconst C (oDec_at oX10_agreement 64 rfl) (v := k3) (by rw [qk3]; rfl) ?_
          refine r_pc C 92 rfl ?_
          obtain ⟨v171, ev171⟩ : ∃ z : Int32, z = a0 - a0 / k3 * k3 := ⟨_, rfl⟩
          have hv171 := n_rem (k := 3) ev171 ek3 (by decide)
          have rv171 := n_rng v171
          refine r_irem C v171 (oDec_at oX10_agreement 65 rfl) (n_ne0 (by omega)) ev171 ?_
          refine r_iload_n C (j := 1) (oDec_at oX10_agreement 66 rfl) rfl rfl ?_
          refine r_iconst C (oDec_at oX10_agreement 67 rfl) (v := k3) (by rw [qk3]; rfl) ?_
          obtain ⟨v172, ev172⟩ : ∃ z : Int32, z = a1 - a1 / k3 * k3 := ⟨_, rfl⟩
          have hv172 := n_rem (k := 3) ev172 ek3 (by decide)
          have rv172 := n_rng v172
          refine r_irem C v172 (oDec_at oX10_agreement 68 rfl) (n_ne0 (by omega)) ev172 ?_
          refine r_icmp_ne C 104 (oDec_at oX10_agreement 69 rfl) (by decide) (fun cd173 => ?_) (fun cd173 => ?_)
          · skip
            refine r_iconst C (oDec_at oX10_agreement 72 rfl) (v := k0) (by rw [qk0]; rfl) ?_
            obtain ⟨v174, ev174⟩ : ∃ z : Int32, z = v170 + k0 := ⟨_, rfl⟩
            have hv174 : v174.toInt = v170.toInt + k0.toInt := n_add ev174 (by omega) (by omega)
            refine r_iadd C v174 (oDec_at oX10_agreement 73 rfl) ev174 ?_
            exact r_iret C (oDec_at oX10_agreement 74 rfl) ⟨_, rfl, by omega⟩
          · skip
            refine r_bipush C (oDec_at oX10_agreement 70 rfl) (v := k16) (by rw [qk16]; rfl) ?_
            refine r_goto C (tgt := 105) (oDec_at oX10_agreement 71 rfl) (by decide) ?_
            obtain ⟨v175, ev175⟩ : ∃ z : Int32, z = v170 + k16 := ⟨_, rfl⟩
            have hv175 : v175.toInt = v170.toInt + k16.toInt := n_add ev175 (by omega) (by omega)
            refine r_iadd C v175 (oDec_at oX10_agreement 73 rfl) ev175 ?_
            exact r_iret C (oDec_at oX10_agreement 74 rfl) ⟨_, rfl, by omega⟩
        · skip
          refine r_bipush C (oDec_at oX10_agreement 57 rfl) (v := k8) (by rw [qk8]; rfl) ?_
          refine r_goto C (tgt := 87) (oDec_at oX10_agreement 58 rfl) (by decide) ?_
          obtain ⟨v176, ev176⟩ : ∃ z : Int32, z = v164 + k8 := ⟨_, rfl⟩
          have hv176 : v176.toInt = v164.toInt + k8.toInt := n_add ev176 (by omega) (by omega)
          refine r_iadd C v176 (oDec_at oX10_agreement 60 rfl) ev176 ?_
          refine r_istore_n C (lv' := [(0, .int a0), (1, .int a1), (2, .int v176)]) [1, 2, 0] (oDec_at oX10_agreement 61 rfl) rfl (by decide) rfl ?_
          refine r_iload_n C (j := 2) (oDec_at oX10_agreement 62 rfl) rfl rfl ?_
          refine r_iload_n C (j := 0) (oDec_at oX10_agreement 63 rfl) rfl rfl ?_
          refine r_iconst C (oDec_at oX10_agreement 64 rfl) (v := k3) (by rw [qk3]; rfl) ?_
          refine r_pc C 92 rfl ?_
          obtain ⟨v177, ev177⟩ : ∃ z : Int32, z = a0 - a0 / k3 * k3 := ⟨_, rfl⟩
          have hv177 := n_rem (k := 3) ev177 ek3 (by decide)
          have rv177 := n_rng v177
          refine r_irem C v177 (oDec_at oX10_agreement 65 rfl) (n_ne0 (by omega)) ev177 ?_
          refine r_iload_n C (j := 1) (oDec_at oX10_agreement 66 rfl) rfl rfl ?_
          refine r_iconst C (oDec_at oX10_agreement 67 rfl) (v := k3) (by rw [qk3]; rfl) ?_
          obtain ⟨v178, ev178⟩ : ∃ z : Int32, z = a1 - a1 / k3 * k3 := ⟨_, rfl⟩
          have hv178 := n_rem (k := 3) ev178 ek3 (by decide)
          have rv178 := n_rng v178
          refine r_irem C v178 (oDec_at oX10_agreement 68 rfl) (n_ne0 (by omega)) ev178 ?_
          refine r_icmp_ne C 104 (oDec_at oX10_agreement 69 rfl) (by decide) (fun cd179 => ?_) (fun cd179 => ?_)
          · skip
            refine r_iconst C (oDec_at oX10_agreement 72 rfl) (v := k0) (by rw [qk0]; rfl) ?_
            obtain ⟨v180, ev180⟩ : ∃ z : Int32, z = v176 + k0 := ⟨_, rfl⟩
            have hv180 : v180.toInt = v176.toInt + k0.toInt := n_add ev180 (by omega) (by omega)
            refine r_iadd C v180 (oDec_at oX10_agreement 73 rfl) ev180 ?_
            exact r_iret C (oDec_at oX10_agreement 74 rfl) ⟨_, rfl, by omega⟩
          · skip
            refine r_bipush C (oDec_at oX10_agreement 70 rfl) (v := k16) (by rw [qk16]; rfl) ?_
            refine r_goto C (tgt := 105) (oDec_at oX10_agreement 71 rfl) (by decide) ?_
            obtain ⟨v181, ev181⟩ : ∃ z : Int32, z = v176 + k16 := ⟨_, rfl⟩
            have hv181 : v181.toInt = v176.toInt + k16.toInt := n_add ev181 (by omega) (by omega)
            refine r_iadd C v181 (oDec_at oX10_agreement 73 rfl) ev181 ?_
            exact r_iret C (oDec_at oX10_agreement 74 rfl) ⟨_, rfl, by omega⟩
set_option maxHeartbeats 4000000 in
set_option maxRecDepth 100000 in
theorem ct_X10_countLike (l : Launch) (E : oE) (s : oS) (a1 : Int32) (a2 : Int32)  : oMet l 2 yX10_countLike cX10_countLike 5 (some .int) [] E s [.ref (oad E 43), .int a1, .int a2] (oPi (fun r u => True)) := by
  refine oMet.of (lv := [(0, .ref (oad E 43)), (1, .int a1), (2, .int a2)]) (by decide +kernel) (Nat.le_of_ble_eq_true rfl) rfl (fun J C hT => ?_)
  have C : oC l 2 cX10_countLike RX10 5 (some .int) [] E s (oPi (fun r u => True)) J := C
  obtain ⟨km1, qkm1⟩ : ∃ z : Int32, z = (-1) := ⟨_, rfl⟩
  have ekm1 : km1.toInt = (-1) := by rw [qkm1]; rfl
  obtain ⟨k0, qk0⟩ : ∃ z : Int32, z = 0 := ⟨_, rfl⟩
  have ek0 : k0.toInt = 0 := by rw [qk0]; rfl
  obtain ⟨k1, qk1⟩ : ∃ z : Int32, z = 1 := ⟨_, rfl⟩
  have ek1 : k1.toInt = 1 := by rw [qk1]; rfl
  obtain ⟨k31, qk31⟩ : ∃ z : Int32, z = 31 := ⟨_, rfl⟩
  have ek31 : k31.toInt = 31 := by rw [qk31]; rfl
  have rg1 := n_rng a1
  have rg2 := n_rng a2
  have key : ∀ n : Nat, (∀ (t : oS) (x3 : Int32) (x4 : Int32), (0 ≤ a1.toInt ∧ a1.toInt < 4500) → (0 ≤ x4.toInt ∧ x4.toInt ≤ 4500) → (0 ≤ x3.toInt ∧ x3.toInt ≤ x4.toInt) → 4501 - x4.toInt ≤ (n : Int) → J t 25 [(0, .ref (oad E 43)), (1, .int a1), (2, .int a2), (3, .int x3), (4, .int x4)] []) := by
    intro n
    induction n using Nat.strongRecOn with
    | _ n ih =>
      skip
      · intro t x3 x4  iv0 iv1 iv2 hmu
        have rx3 := n_rng x3
        have rx4 := n_rng x4
        refine r_iload C (j := 4) (oDec_at oX10_countLike 15 rfl) rfl ?_
        refine r_aload_n C (j := 0) (oDec_at oX10_countLike 16 rfl) rfl rfl ?_
        obtain ⟨v1, ev1⟩ : ∃ z : Int32, (t).1 43 4 = z := ⟨_, rfl⟩
        have gv1 : (t.1 43 4).toInt = v1.toInt := congrArg Int32.toInt (ev1)
        refine r_geti (k := 4) (lo := 0) (hi := 4500) C v1 oCl10 rfl (by decide) flX10_50 rfl rfl (ev1) rfl rfl (oDec_at oX10_countLike 17 rfl) (fun b2 b2h => ?_)
        refine r_icmp_ge C 70 (oDec_at oX10_countLike 18 rfl) (by decide) (fun cd3 => ?_) (fun cd3 => ?_)
        · skip
          refine r_iload_n C (j := 3) (oDec_at oX10_countLike 40 rfl) rfl rfl ?_
          exact r_iret C (oDec_at oX10_countLike 41 rfl) ⟨_, rfl, trivial⟩
        · skip
          refine r_iload_n C (j := 3) (oDec_at oX10_countLike 19 rfl) rfl rfl ?_
          refine r_aload_n C (j := 0) (oDec_at oX10_countLike 20 rfl) rfl rfl ?_
          refine r_getF (k := 5) (b := 44) C oCl10 rfl (by decide) flX10_18 rfl rfl rfl (oDec_at oX10_countLike 21 rfl) ?_
          refine r_iload_n C (j := 1) (oDec_at oX10_countLike 22 rfl) rfl rfl ?_
          obtain ⟨v4, ev4⟩ : ∃ z : Int32, (t).1 44 a1.toNatClampNeg = z := ⟨_, rfl⟩
          refine r_iald (n := 4500) (lo := 0) (hi := 4499) C v4 rfl (by decide) rfl rfl ⟨by omega, by omega⟩ (by decide) ev4 rfl rfl (oDec_at oX10_countLike 23 rfl) (fun b5 b5h => ?_)
          refine r_aload_n C (j := 0) (oDec_at oX10_countLike 24 rfl) rfl rfl ?_
          refine r_pc C 42 rfl ?_
          refine r_getF (k := 5) (b := 44) C oCl10 rfl (by decide) flX10_18 rfl rfl rfl (oDec_at oX10_countLike 25 rfl) ?_
          refine r_iload C (j := 4) (oDec_at oX10_countLike 26 rfl) rfl ?_
          obtain ⟨v6, ev6⟩ : ∃ z : Int32, (t).1 44 x4.toNatClampNeg = z := ⟨_, rfl⟩
          refine r_iald (n := 4500) (lo := 0) (hi := 4499) C v6 rfl (by decide) rfl rfl ⟨by omega, by omega⟩ (by decide) ev6 rfl rfl (oDec_at oX10_countLike 27 rfl) (fun b7 b7h => ?_)
          refine r_callSi C miX10_agreement mlX10_143 (ct_X10_agreement l E (t) v4 v6 ) (by decide) rfl rfl rfl (Nat.le_of_ble_eq_true rfl) (oDec_at oX10_countLike 28 rfl) (fun r9 u8 pu8 fu8 => ?_)
          try dsimp only at pu8
          have rr9 := n_rng r9
          refine r_iload_n C (j := 2) (oDec_at oX10_countLike 29 rfl) rfl rfl ?_
          obtain ⟨v10, ev10⟩ : ∃ z : Int32, z = r9 &&& a2 := ⟨_, rfl⟩
          have hv10 := n_and ev10
          have rv10 := n_rng v10
          refine r_iand C v10 (oDec_at oX10_countLike 30 rfl) ev10 ?_
          refine r_pc C 53 rfl ?_
          refine r_iload_n C (j := 2) (oDec_at oX10_countLike 31 rfl) rfl rfl ?_
          refine r_icmp_ne C 61 (oDec_at oX10_countLike 32 rfl) (by decide) (fun cd11 => ?_) (fun cd11 => ?_)
          · skip
            refine r_iconst C (oDec_at oX10_countLike 35 rfl) (v := k0) (by rw [qk0]; rfl) ?_
            obtain ⟨v12, ev12⟩ : ∃ z : Int32, z = x3 + k0 := ⟨_, rfl⟩
            have hv12 : v12.toInt = x3.toInt + k0.toInt := n_add ev12 (by omega) (by omega)
            refine r_iadd C v12 (oDec_at oX10_countLike 36 rfl) ev12 ?_
            refine r_istore_n C (lv' := [(0, .ref (oad E 43)), (1, .int a1), (2, .int a2), (3, .int v12), (4, .int x4)]) [1, 2, 3, 0, 4] (oDec_at oX10_countLike 37 rfl) rfl (by decide) rfl ?_
            obtain ⟨v13, ev13⟩ : ∃ z : Int32, x4 + Int32.ofInt 1 = z := ⟨_, rfl⟩
            have hv13 : v13.toInt = x4.toInt + 1 := n_inc ev13 (by decide) (by omega) (by omega)
            refine r_iinc C (j := 4) (lv' := [(0, .ref (oad E 43)), (1, .int a1), (2, .int a2), (3, .int v12), (4, .int v13)]) v13 [1, 2, 3, 4, 0] (oDec_at oX10_countLike 38 rfl) rfl ev13 (by decide) rfl ?_
            refine r_goto C (tgt := 25) (oDec_at oX10_countLike 39 rfl) (by decide) ?_
            exact (ih (n - 1) (by omega)) (u8) v12 v13  (by omega) (by omega) (by omega) (by omega)
          · skip
            refine r_iconst C (oDec_at oX10_countLike 33 rfl) (v := k1) (by rw [qk1]; rfl) ?_
            refine r_goto C (tgt := 62) (oDec_at oX10_countLike 34 rfl) (by decide) ?_
            obtain ⟨v14, ev14⟩ : ∃ z : Int32, z = x3 + k1 := ⟨_, rfl⟩
            have hv14 : v14.toInt = x3.toInt + k1.toInt := n_add ev14 (by omega) (by omega)
            refine r_iadd C v14 (oDec_at oX10_countLike 36 rfl) ev14 ?_
            refine r_istore_n C (lv' := [(0, .ref (oad E 43)), (1, .int a1), (2, .int a2), (3, .int v14), (4, .int x4)]) [1, 2, 3, 0, 4] (oDec_at oX10_countLike 37 rfl) rfl (by decide) rfl ?_
            obtain ⟨v15, ev15⟩ : ∃ z : Int32, x4 + Int32.ofInt 1 = z := ⟨_, rfl⟩
            have hv15 : v15.toInt = x4.toInt + 1 := n_inc ev15 (by decide) (by omega) (by omega)
            refine r_iinc C (j := 4) (lv' := [(0, .ref (oad E 43)), (1, .int a1), (2, .int a2), (3, .int v14), (4, .int v15)]) v15 [1, 2, 3, 4, 0] (oDec_at oX10_countLike 38 rfl) rfl ev15 (by decide) rfl ?_
            refine r_goto C (tgt := 25) (oDec_at oX10_countLike 39 rfl) (by decide) ?_
            exact (ih (n - 1) (by omega)) (u8) v14 v15  (by omega) (by omega) (by omega) (by omega)
  refine r_aload_n C (j := 0) (oDec_at oX10_countLike 0 rfl) rfl rfl ?_
  refine r_iload_n C (j := 1) (oDec_at oX10_countLike 1 rfl) rfl rfl ?_
  refine r_callVi C oCl10 rfl miX10_holds mlX10_141 (ct_X10_holds l E (s) a1 ) (by decide) rfl rfl rfl (Nat.le_of_ble_eq_true rfl) (oDec_at oX10_countLike 2 rfl) (fun r17 u16 pu16 fu16 => ?_)
  try dsimp only at pu16
  have rr17 := n_rng r17
  refine r_if_eq C 18 (oDec_at oX10_countLike 3 rfl) (by decide) (fun cd18 => ?_) (fun cd18 => ?_)
  · skip
    refine r_iconst C (oDec_at oX10_countLike 9 rfl) (v := km1) (by rw [qkm1]; rfl) ?_
    exact r_iret C (oDec_at oX10_countLike 10 rfl) ⟨_, rfl, trivial⟩
  · skip
    refine r_iload_n C (j := 2) (oDec_at oX10_countLike 4 rfl) rfl rfl ?_
    refine r_if_lt C 18 (oDec_at oX10_countLike 5 rfl) (by decide) (fun cd19 => ?_) (fun cd19 => ?_)
    · skip
      refine r_iconst C (oDec_at oX10_countLike 9 rfl) (v := km1) (by rw [qkm1]; rfl) ?_
      exact r_iret C (oDec_at oX10_countLike 10 rfl) ⟨_, rfl, trivial⟩
    · skip
      refine r_iload_n C (j := 2) (oDec_at oX10_countLike 6 rfl) rfl rfl ?_
      refine r_bipush C (oDec_at oX10_countLike 7 rfl) (v := k31) (by rw [qk31]; rfl) ?_
      refine r_icmp_le C 20 (oDec_at oX10_countLike 8 rfl) (by decide) (fun cd20 => ?_) (fun cd20 => ?_)
      · skip
        refine r_iconst C (oDec_at oX10_countLike 11 rfl) (v := k0) (by rw [qk0]; rfl) ?_
        refine r_istore_n C (lv' := [(0, .ref (oad E 43)), (1, .int a1), (2, .int a2), (3, .int k0)]) [1, 2, 3, 0] (oDec_at oX10_countLike 12 rfl) rfl (by decide) rfl ?_
        refine r_iconst C (oDec_at oX10_countLike 13 rfl) (v := k0) (by rw [qk0]; rfl) ?_
        refine r_istore C (lv' := [(0, .ref (oad E 43)), (1, .int a1), (2, .int a2), (3, .int k0), (4, .int k0)]) [1, 2, 3, 4, 0] (oDec_at oX10_countLike 14 rfl) (by decide) rfl ?_
        exact (key (4501 - k0.toInt).toNat) (u16) k0 k0  (by omega) (by omega) (by omega) (by omega)
      · skip
        refine r_iconst C (oDec_at oX10_countLike 9 rfl) (v := km1) (by rw [qkm1]; rfl) ?_
        exact r_iret C (oDec_at oX10_countLike 10 rfl) ⟨_, rfl, trivial⟩
set_option maxHeartbeats 4000000 in
set_option maxRecDepth 100000 in
theorem ct_X10_countHaving (l : Launch) (E : oE) (s : oS) (a1 : Int32)  : oMet l 1 yX10_countHaving cX10_countHaving 4 (some .int) [] E s [.ref (oad E 43), .int a1] (oPi (fun r u => True)) := by
  refine oMet.of (lv := [(0, .ref (oad E 43)), (1, .int a1)]) (by decide +kernel) (Nat.le_of_ble_eq_true rfl) rfl (fun J C hT => ?_)
  have C : oC l 1 cX10_countHaving RX10 4 (some .int) [] E s (oPi (fun r u => True)) J := C
  obtain ⟨k0, qk0⟩ : ∃ z : Int32, z = 0 := ⟨_, rfl⟩
  have ek0 : k0.toInt = 0 := by rw [qk0]; rfl
  obtain ⟨k64, qk64⟩ : ∃ z : Int32, z = 64 := ⟨_, rfl⟩
  have ek64 : k64.toInt = 64 := by rw [qk64]; rfl
  have rg1 := n_rng a1
  have key : ∀ n : Nat, (∀ (t : oS) (x2 : Int32) (x3 : Int32), (0 ≤ x3.toInt ∧ x3.toInt ≤ 64) → 65 - x3.toInt ≤ (n : Int) → J t 4 [(0, .ref (oad E 43)), (1, .int a1), (2, .int x2), (3, .int x3)] []) := by
    intro n
    induction n using Nat.strongRecOn with
    | _ n ih =>
      skip
      · intro t x2 x3  iv0 hmu
        have rx2 := n_rng x2
        have rx3 := n_rng x3
        refine r_iload_n C (j := 3) (oDec_at oX10_countHaving 4 rfl) rfl rfl ?_
        refine r_bipush C (oDec_at oX10_countHaving 5 rfl) (v := k64) (by rw [qk64]; rfl) ?_
        refine r_icmp_ge C 36 (oDec_at oX10_countHaving 6 rfl) (by decide) (fun cd1 => ?_) (fun cd1 => ?_)
        · skip
          refine r_iload_n C (j := 2) (oDec_at oX10_countHaving 23 rfl) rfl rfl ?_
          exact r_iret C (oDec_at oX10_countHaving 24 rfl) ⟨_, rfl, trivial⟩
        · skip
          refine r_iload_n C (j := 2) (oDec_at oX10_countHaving 7 rfl) rfl rfl ?_
          refine r_iload_n C (j := 3) (oDec_at oX10_countHaving 8 rfl) rfl rfl ?_
          refine r_iload_n C (j := 1) (oDec_at oX10_countHaving 9 rfl) rfl rfl ?_
          obtain ⟨v2, ev2⟩ : ∃ z : Int32, z = x3 &&& a1 := ⟨_, rfl⟩
          have hv2 := n_and ev2
          have rv2 := n_rng v2
          refine r_iand C v2 (oDec_at oX10_countHaving 10 rfl) ev2 ?_
          refine r_iload_n C (j := 1) (oDec_at oX10_countHaving 11 rfl) rfl rfl ?_
          refine r_icmp_ne C 27 (oDec_at oX10_countHaving 12 rfl) (by decide) (fun cd3 => ?_) (fun cd3 => ?_)
          · skip
            refine r_iconst C (oDec_at oX10_countHaving 18 rfl) (v := k0) (by rw [qk0]; rfl) ?_
            obtain ⟨v4, ev4⟩ : ∃ z : Int32, z = x2 + k0 := ⟨_, rfl⟩
            have rv4 := n_rng v4
            refine r_iadd C v4 (oDec_at oX10_countHaving 19 rfl) ev4 ?_
            refine r_istore_n C (lv' := [(0, .ref (oad E 43)), (1, .int a1), (2, .int v4), (3, .int x3)]) [1, 2, 0, 3] (oDec_at oX10_countHaving 20 rfl) rfl (by decide) rfl ?_
            obtain ⟨v5, ev5⟩ : ∃ z : Int32, x3 + Int32.ofInt 1 = z := ⟨_, rfl⟩
            have hv5 : v5.toInt = x3.toInt + 1 := n_inc ev5 (by decide) (by omega) (by omega)
            refine r_iinc C (j := 3) (lv' := [(0, .ref (oad E 43)), (1, .int a1), (2, .int v4), (3, .int v5)]) v5 [1, 2, 3, 0] (oDec_at oX10_countHaving 21 rfl) rfl ev5 (by decide) rfl ?_
            refine r_goto C (tgt := 4) (oDec_at oX10_countHaving 22 rfl) (by decide) ?_
            exact (ih (n - 1) (by omega)) (t) v4 v5  (by omega) (by omega)
          · skip
            refine r_aload_n C (j := 0) (oDec_at oX10_countHaving 13 rfl) rfl rfl ?_
            refine r_getF (k := 10) (b := 49) C oCl10 rfl (by decide) flX10_34 rfl rfl rfl (oDec_at oX10_countHaving 14 rfl) ?_
            refine r_iload_n C (j := 3) (oDec_at oX10_countHaving 15 rfl) rfl rfl ?_
            obtain ⟨v6, ev6⟩ : ∃ z : Int32, (t).1 49 x3.toNatClampNeg = z := ⟨_, rfl⟩
            have rv6 := n_rng v6
            refine r_iald (n := 64) (lo := (-2147483648)) (hi := 2147483647) C v6 rfl (by decide) rfl rfl ⟨by omega, by omega⟩ (by decide) ev6 rfl rfl (oDec_at oX10_countHaving 16 rfl) (fun _ _ => ?_)
            refine r_goto C (tgt := 28) (oDec_at oX10_countHaving 17 rfl) (by decide) ?_
            obtain ⟨v8, ev8⟩ : ∃ z : Int32, z = x2 + v6 := ⟨_, rfl⟩
            have rv8 := n_rng v8
            refine r_iadd C v8 (oDec_at oX10_countHaving 19 rfl) ev8 ?_
            refine r_istore_n C (lv' := [(0, .ref (oad E 43)), (1, .int a1), (2, .int v8), (3, .int x3)]) [1, 2, 0, 3] (oDec_at oX10_countHaving 20 rfl) rfl (by decide) rfl ?_
            refine r_pc C 30 rfl ?_
            obtain ⟨v9, ev9⟩ : ∃ z : Int32, x3 + Int32.ofInt 1 = z := ⟨_, rfl⟩
            have hv9 : v9.toInt = x3.toInt + 1 := n_inc ev9 (by decide) (by omega) (by omega)
            refine r_iinc C (j := 3) (lv' := [(0, .ref (oad E 43)), (1, .int a1), (2, .int v8), (3, .int v9)]) v9 [1, 2, 3, 0] (oDec_at oX10_countHaving 21 rfl) rfl ev9 (by decide) rfl ?_
            refine r_goto C (tgt := 4) (oDec_at oX10_countHaving 22 rfl) (by decide) ?_
            exact (ih (n - 1) (by omega)) (t) v8 v9  (by omega) (by omega)
  refine r_iconst C (oDec_at oX10_countHaving 0 rfl) (v := k0) (by rw [qk0]; rfl) ?_
  refine r_istore_n C (lv' := [(0, .ref (oad E 43)), (1, .int a1), (2, .int k0)]) [1, 2, 0] (oDec_at oX10_countHaving 1 rfl) rfl (by decide) rfl ?_
  refine r_iconst C (oDec_at oX10_countHaving 2 rfl) (v := k0) (by rw [qk0]; rfl) ?_
  refine r_istore_n C (lv' := [(0, .ref (oad E 43)), (1, .int a1), (2, .int k0), (3, .int k0)]) [1, 2, 3, 0] (oDec_at oX10_countHaving 3 rfl) rfl (by decide) rfl ?_
  exact (key (65 - k0.toInt).toNat) (s) k0 k0  (by omega) (by omega)
set_option maxHeartbeats 4000000 in
set_option maxRecDepth 100000 in
theorem ct_X10_fewest (l : Launch) (E : oE) (s : oS) (a1 : Int32)  : oMet l 2 yX10_fewest cX10_fewest 4 (some .int) [] E s [.ref (oad E 43), .int a1] (oPi (fun r u => True)) := by
  refine oMet.of (lv := [(0, .ref (oad E 43)), (1, .int a1)]) (by decide +kernel) (Nat.le_of_ble_eq_true rfl) rfl (fun J C hT => ?_)
  have C : oC l 2 cX10_fewest RX10 4 (some .int) [] E s (oPi (fun r u => True)) J := C
  obtain ⟨km1, qkm1⟩ : ∃ z : Int32, z = (-1) := ⟨_, rfl⟩
  have ekm1 : km1.toInt = (-1) := by rw [qkm1]; rfl
  obtain ⟨k0, qk0⟩ : ∃ z : Int32, z = 0 := ⟨_, rfl⟩
  have ek0 : k0.toInt = 0 := by rw [qk0]; rfl
  obtain ⟨k1, qk1⟩ : ∃ z : Int32, z = 1 := ⟨_, rfl⟩
  have ek1 : k1.toInt = 1 := by rw [qk1]; rfl
  obtain ⟨k6, qk6⟩ : ∃ z : Int32, z = 6 := ⟨_, rfl⟩
  have ek6 : k6.toInt = 6 := by rw [qk6]; rfl
  obtain ⟨k64, qk64⟩ : ∃ z : Int32, z = 64 := ⟨_, rfl⟩
  have ek64 : k64.toInt = 64 := by rw [qk64]; rfl
  have rg1 := n_rng a1
  have key : ∀ n : Nat, (∀ (t : oS) (x2 : Int32), (0 ≤ x2.toInt ∧ x2.toInt ≤ 7) → 1000 * (8 - x2.toInt) ≤ (n : Int) → J t 2 [(0, .ref (oad E 43)), (1, .int a1), (2, .int x2)] []) ∧ (∀ (t : oS) (x2 : Int32) (x3 : Int32), (0 ≤ x2.toInt ∧ x2.toInt ≤ 6) → (0 ≤ x3.toInt ∧ x3.toInt ≤ 64) → 1000 * (8 - x2.toInt) - 10 - x3.toInt ≤ (n : Int) → J t 10 [(0, .ref (oad E 43)), (1, .int a1), (2, .int x2), (3, .int x3)] []) := by
    intro n
    induction n using Nat.strongRecOn with
    | _ n ih =>
      refine ⟨?_, ?_⟩
      · intro t x2  iv0 hmu
        have rx2 := n_rng x2
        refine r_iload_n C (j := 2) (oDec_at oX10_fewest 2 rfl) rfl rfl ?_
        refine r_bipush C (oDec_at oX10_fewest 3 rfl) (v := k6) (by rw [qk6]; rfl) ?_
        refine r_icmp_gt C 55 (oDec_at oX10_fewest 4 rfl) (by decide) (fun cd1 => ?_) (fun cd1 => ?_)
        · skip
          refine r_iconst C (oDec_at oX10_fewest 31 rfl) (v := km1) (by rw [qkm1]; rfl) ?_
          exact r_iret C (oDec_at oX10_fewest 32 rfl) ⟨_, rfl, trivial⟩
        · skip
          refine r_iconst C (oDec_at oX10_fewest 5 rfl) (v := k0) (by rw [qk0]; rfl) ?_
          refine r_istore_n C (lv' := [(0, .ref (oad E 43)), (1, .int a1), (2, .int x2), (3, .int k0)]) [1, 2, 3, 0] (oDec_at oX10_fewest 6 rfl) rfl (by decide) rfl ?_
          exact (ih (n - 1) (by omega)).2 (t) x2 k0  (by omega) (by omega) (by omega)
      · intro t x2 x3  iv0 iv1 hmu
        have rx2 := n_rng x2
        have rx3 := n_rng x3
        refine r_iload_n C (j := 3) (oDec_at oX10_fewest 7 rfl) rfl rfl ?_
        refine r_bipush C (oDec_at oX10_fewest 8 rfl) (v := k64) (by rw [qk64]; rfl) ?_
        refine r_icmp_ge C 49 (oDec_at oX10_fewest 9 rfl) (by decide) (fun cd2 => ?_) (fun cd2 => ?_)
        · skip
          obtain ⟨v3, ev3⟩ : ∃ z : Int32, x2 + Int32.ofInt 1 = z := ⟨_, rfl⟩
          have hv3 : v3.toInt = x2.toInt + 1 := n_inc ev3 (by decide) (by omega) (by omega)
          refine r_iinc C (j := 2) (lv' := [(0, .ref (oad E 43)), (1, .int a1), (2, .int v3), (3, .int x3)]) v3 [1, 2, 0, 3] (oDec_at oX10_fewest 29 rfl) rfl ev3 (by decide) rfl ?_
          refine r_goto C (tgt := 2) (oDec_at oX10_fewest 30 rfl) (by decide) ?_
          refine r_pick C [0, 1, 2] rfl ?_
          exact (ih (n - 1) (by omega)).1 (t) v3  (by omega) (by omega)
        · skip
          refine r_iload_n C (j := 3) (oDec_at oX10_fewest 10 rfl) rfl rfl ?_
          refine r_callSi C miJ6_bitCount_0f7a4 mlX10_91 (ct_J6_bitCount_0f7a4 l E (t) x3 ) (by decide) rfl rfl rfl (Nat.le_of_ble_eq_true rfl) (oDec_at oX10_fewest 11 rfl) (fun r5 u4 pu4 fu4 => ?_)
          try dsimp only at pu4
          have rr5 := n_rng r5
          refine r_iload_n C (j := 2) (oDec_at oX10_fewest 12 rfl) rfl rfl ?_
          refine r_icmp_ne C 43 (oDec_at oX10_fewest 13 rfl) (by decide) (fun cd6 => ?_) (fun cd6 => ?_)
          · skip
            obtain ⟨v7, ev7⟩ : ∃ z : Int32, x3 + Int32.ofInt 1 = z := ⟨_, rfl⟩
            have hv7 : v7.toInt = x3.toInt + 1 := n_inc ev7 (by decide) (by omega) (by omega)
            refine r_iinc C (j := 3) (lv' := [(0, .ref (oad E 43)), (1, .int a1), (2, .int x2), (3, .int v7)]) v7 [1, 2, 3, 0] (oDec_at oX10_fewest 27 rfl) rfl ev7 (by decide) rfl ?_
            refine r_goto C (tgt := 10) (oDec_at oX10_fewest 28 rfl) (by decide) ?_
            exact (ih (n - 1) (by omega)).2 (u4) x2 v7  (by omega) (by omega) (by omega)
          · skip
            refine r_iload_n C (j := 3) (oDec_at oX10_fewest 14 rfl) rfl rfl ?_
            refine r_iload_n C (j := 1) (oDec_at oX10_fewest 15 rfl) rfl rfl ?_
            refine r_iconst C (oDec_at oX10_fewest 16 rfl) (v := km1) (by rw [qkm1]; rfl) ?_
            obtain ⟨v8, ev8⟩ : ∃ z : Int32, z = a1 ^^^ km1 := ⟨_, rfl⟩
            have rv8 := n_rng v8
            refine r_ixor C v8 (oDec_at oX10_fewest 17 rfl) ev8 ?_
            obtain ⟨v9, ev9⟩ : ∃ z : Int32, z = x3 &&& v8 := ⟨_, rfl⟩
            have hv9 := n_and ev9
            have rv9 := n_rng v9
            refine r_iand C v9 (oDec_at oX10_fewest 18 rfl) ev9 ?_
            refine r_if_ne C 43 (oDec_at oX10_fewest 19 rfl) (by decide) (fun cd10 => ?_) (fun cd10 => ?_)
            · skip
              obtain ⟨v11, ev11⟩ : ∃ z : Int32, x3 + Int32.ofInt 1 = z := ⟨_, rfl⟩
              have hv11 : v11.toInt = x3.toInt + 1 := n_inc ev11 (by decide) (by omega) (by omega)
              refine r_iinc C (j := 3) (lv' := [(0, .ref (oad E 43)), (1, .int a1), (2, .int x2), (3, .int v11)]) v11 [1, 2, 3, 0] (oDec_at oX10_fewest 27 rfl) rfl ev11 (by decide) rfl ?_
              refine r_goto C (tgt := 10) (oDec_at oX10_fewest 28 rfl) (by decide) ?_
              exact (ih (n - 1) (by omega)).2 (u4) x2 v11  (by omega) (by omega) (by omega)
            · skip
              refine r_aload_n C (j := 0) (oDec_at oX10_fewest 20 rfl) rfl rfl ?_
              refine r_iload_n C (j := 3) (oDec_at oX10_fewest 21 rfl) rfl rfl ?_
              refine r_callVi C oCl10 rfl miX10_countHaving mlX10_149 (ct_X10_countHaving l E (u4) x3 ) (by decide) rfl rfl rfl (Nat.le_of_ble_eq_true rfl) (oDec_at oX10_fewest 22 rfl) (fun r13 u12 pu12 fu12 => ?_)
              try dsimp only at pu12
              have rr13 := n_rng r13
              refine r_iconst C (oDec_at oX10_fewest 23 rfl) (v := k1) (by rw [qk1]; rfl) ?_
              refine r_icmp_ne C 43 (oDec_at oX10_fewest 24 rfl) (by decide) (fun cd14 => ?_) (fun cd14 => ?_)
              · skip
                obtain ⟨v15, ev15⟩ : ∃ z : Int32, x3 + Int32.ofInt 1 = z := ⟨_, rfl⟩
                have hv15 : v15.toInt = x3.toInt + 1 := n_inc ev15 (by decide) (by omega) (by omega)
                refine r_iinc C (j := 3) (lv' := [(0, .ref (oad E 43)), (1, .int a1), (2, .int x2), (3, .int v15)]) v15 [1, 2, 3, 0] (oDec_at oX10_fewest 27 rfl) rfl ev15 (by decide) rfl ?_
                refine r_goto C (tgt := 10) (oDec_at oX10_fewest 28 rfl) (by decide) ?_
                exact (ih (n - 1) (by omega)).2 (u12) x2 v15  (by omega) (by omega) (by omega)
              · skip
                refine r_iload_n C (j := 3) (oDec_at oX10_fewest 25 rfl) rfl rfl ?_
                exact r_iret C (oDec_at oX10_fewest 26 rfl) ⟨_, rfl, trivial⟩
  refine r_iconst C (oDec_at oX10_fewest 0 rfl) (v := k0) (by rw [qk0]; rfl) ?_
  refine r_istore_n C (lv' := [(0, .ref (oad E 43)), (1, .int a1), (2, .int k0)]) [1, 2, 0] (oDec_at oX10_fewest 1 rfl) rfl (by decide) rfl ?_
  exact (key (1000 * (8 - k0.toInt)).toNat).1 (s) k0  (by omega) (by omega)
set_option maxHeartbeats 4000000 in
set_option maxRecDepth 100000 in
theorem ct_X10_fewestSigns (l : Launch) (E : oE) (s : oS) (a1 : Int32)  : oMet l 3 yX10_fewestSigns cX10_fewestSigns 3 (some .int) [(37, 9999)] E s [.ref (oad E 43), .int a1] (oPi (fun r u => True)) := by
  refine oMet.of (lv := [(0, .ref (oad E 43)), (1, .int a1)]) (by decide +kernel) (Nat.le_of_ble_eq_true rfl) rfl (fun J C hT => ?_)
  have C : oC l 3 cX10_fewestSigns RX10 3 (some .int) [(37, 9999)] E s (oPi (fun r u => True)) J := C
  obtain ⟨km1, qkm1⟩ : ∃ z : Int32, z = (-1) := ⟨_, rfl⟩
  have ekm1 : km1.toInt = (-1) := by rw [qkm1]; rfl
  obtain ⟨k0, qk0⟩ : ∃ z : Int32, z = 0 := ⟨_, rfl⟩
  have ek0 : k0.toInt = 0 := by rw [qk0]; rfl
  obtain ⟨k1, qk1⟩ : ∃ z : Int32, z = 1 := ⟨_, rfl⟩
  have ek1 : k1.toInt = 1 := by rw [qk1]; rfl
  obtain ⟨k31, qk31⟩ : ∃ z : Int32, z = 31 := ⟨_, rfl⟩
  have ek31 : k31.toInt = 31 := by rw [qk31]; rfl
  have rg1 := n_rng a1
  have key : ∀ n : Nat, (∀ (t : oS) (x2 : Int32), (0 ≤ a1.toInt ∧ a1.toInt < 4500) → (0 ≤ x2.toInt ∧ x2.toInt ≤ 4500) → 4501 - x2.toInt ≤ (n : Int) → J t 20 [(0, .ref (oad E 43)), (1, .int a1), (2, .int x2)] []) := by
    intro n
    induction n using Nat.strongRecOn with
    | _ n ih =>
      skip
      · intro t x2  iv0 iv1 hmu
        have rx2 := n_rng x2
        refine r_iload_n C (j := 2) (oDec_at oX10_fewestSigns 12 rfl) rfl rfl ?_
        refine r_aload_n C (j := 0) (oDec_at oX10_fewestSigns 13 rfl) rfl rfl ?_
        obtain ⟨v1, ev1⟩ : ∃ z : Int32, (t).1 43 4 = z := ⟨_, rfl⟩
        have gv1 : (t.1 43 4).toInt = v1.toInt := congrArg Int32.toInt (ev1)
        refine r_geti (k := 4) (lo := 0) (hi := 4500) C v1 oCl10 rfl (by decide) flX10_50 rfl rfl (ev1) rfl rfl (oDec_at oX10_fewestSigns 14 rfl) (fun b2 b2h => ?_)
        refine r_icmp_ge C 58 (oDec_at oX10_fewestSigns 15 rfl) (by decide) (fun cd3 => ?_) (fun cd3 => ?_)
        · skip
          refine r_aload_n C (j := 0) (oDec_at oX10_fewestSigns 34 rfl) rfl rfl ?_
          refine r_bipush C (oDec_at oX10_fewestSigns 35 rfl) (v := k31) (by rw [qk31]; rfl) ?_
          refine r_callVi C oCl10 rfl miX10_fewest mlX10_146 (ct_X10_fewest l E (t) k31 ) (by decide) rfl rfl rfl (Nat.le_of_ble_eq_true rfl) (oDec_at oX10_fewestSigns 36 rfl) (fun r5 u4 pu4 fu4 => ?_)
          try dsimp only at pu4
          have rr5 := n_rng r5
          exact r_iret C (oDec_at oX10_fewestSigns 37 rfl) ⟨_, rfl, trivial⟩
        · skip
          refine r_aload_n C (j := 0) (oDec_at oX10_fewestSigns 16 rfl) rfl rfl ?_
          refine r_getF (k := 10) (b := 49) C oCl10 rfl (by decide) flX10_34 rfl rfl rfl (oDec_at oX10_fewestSigns 17 rfl) ?_
          refine r_aload_n C (j := 0) (oDec_at oX10_fewestSigns 18 rfl) rfl rfl ?_
          refine r_getF (k := 5) (b := 44) C oCl10 rfl (by decide) flX10_18 rfl rfl rfl (oDec_at oX10_fewestSigns 19 rfl) ?_
          refine r_iload_n C (j := 1) (oDec_at oX10_fewestSigns 20 rfl) rfl rfl ?_
          obtain ⟨v6, ev6⟩ : ∃ z : Int32, (t).1 44 a1.toNatClampNeg = z := ⟨_, rfl⟩
          refine r_iald (n := 4500) (lo := 0) (hi := 4499) C v6 rfl (by decide) rfl rfl ⟨by omega, by omega⟩ (by decide) ev6 rfl rfl (oDec_at oX10_fewestSigns 21 rfl) (fun b7 b7h => ?_)
          refine r_pc C 38 rfl ?_
          refine r_aload_n C (j := 0) (oDec_at oX10_fewestSigns 22 rfl) rfl rfl ?_
          refine r_getF (k := 5) (b := 44) C oCl10 rfl (by decide) flX10_18 rfl rfl rfl (oDec_at oX10_fewestSigns 23 rfl) ?_
          refine r_iload_n C (j := 2) (oDec_at oX10_fewestSigns 24 rfl) rfl rfl ?_
          obtain ⟨v8, ev8⟩ : ∃ z : Int32, (t).1 44 x2.toNatClampNeg = z := ⟨_, rfl⟩
          refine r_iald (n := 4500) (lo := 0) (hi := 4499) C v8 rfl (by decide) rfl rfl ⟨by omega, by omega⟩ (by decide) ev8 rfl rfl (oDec_at oX10_fewestSigns 25 rfl) (fun b9 b9h => ?_)
          refine r_callSi C miX10_agreement mlX10_143 (ct_X10_agreement l E (t) v6 v8 ) (by decide) rfl rfl rfl (Nat.le_of_ble_eq_true rfl) (oDec_at oX10_fewestSigns 26 rfl) (fun r11 u10 pu10 fu10 => ?_)
          try dsimp only at pu10
          have rr11 := n_rng r11
          refine r_dup2 C (oDec_at oX10_fewestSigns 27 rfl) rfl rfl ?_
          refine r_pc C 48 rfl ?_
          obtain ⟨v12, ev12⟩ : ∃ z : Int32, (u10).1 49 r11.toNatClampNeg = z := ⟨_, rfl⟩
          have rv12 := n_rng v12
          refine r_iald (n := 64) (lo := (-2147483648)) (hi := 2147483647) C v12 rfl (by decide) rfl rfl ⟨by omega, by omega⟩ (by decide) ev12 rfl rfl (oDec_at oX10_fewestSigns 28 rfl) (fun _ _ => ?_)
          refine r_iconst C (oDec_at oX10_fewestSigns 29 rfl) (v := k1) (by rw [qk1]; rfl) ?_
          obtain ⟨v14, ev14⟩ : ∃ z : Int32, z = v12 + k1 := ⟨_, rfl⟩
          have rv14 := n_rng v14
          refine r_iadd C v14 (oDec_at oX10_fewestSigns 30 rfl) ev14 ?_
          refine r_iast (n := 64) (lo := (-2147483648)) (hi := 2147483647) C rfl (by decide) rfl rfl ⟨by omega, by omega⟩ (by decide) rfl rfl rfl rfl (n_rng _) (oDec_at oX10_fewestSigns 31 rfl) ?_
          obtain ⟨v15, ev15⟩ : ∃ z : Int32, x2 + Int32.ofInt 1 = z := ⟨_, rfl⟩
          have hv15 : v15.toInt = x2.toInt + 1 := n_inc ev15 (by decide) (by omega) (by omega)
          refine r_iinc C (j := 2) (lv' := [(0, .ref (oad E 43)), (1, .int a1), (2, .int v15)]) v15 [1, 2, 0] (oDec_at oX10_fewestSigns 32 rfl) rfl ev15 (by decide) rfl ?_
          refine r_goto C (tgt := 20) (oDec_at oX10_fewestSigns 33 rfl) (by decide) ?_
          exact (ih (n - 1) (by omega)) ((pI u10 49 r11.toNatClampNeg v14)) v15  (by omega) (by omega) (by omega)
  refine r_aload_n C (j := 0) (oDec_at oX10_fewestSigns 0 rfl) rfl rfl ?_
  refine r_iload_n C (j := 1) (oDec_at oX10_fewestSigns 1 rfl) rfl rfl ?_
  refine r_callVi C oCl10 rfl miX10_holds mlX10_141 (ct_X10_holds l E (s) a1 ) (by decide) rfl rfl rfl (Nat.le_of_ble_eq_true rfl) (oDec_at oX10_fewestSigns 2 rfl) (fun r17 u16 pu16 fu16 => ?_)
  try dsimp only at pu16
  have rr17 := n_rng r17
  refine r_if_ne C 10 (oDec_at oX10_fewestSigns 3 rfl) (by decide) (fun cd18 => ?_) (fun cd18 => ?_)
  · skip
    refine r_aload_n C (j := 0) (oDec_at oX10_fewestSigns 6 rfl) rfl rfl ?_
    refine r_getF (k := 10) (b := 49) C oCl10 rfl (by decide) flX10_34 rfl rfl rfl (oDec_at oX10_fewestSigns 7 rfl) ?_
    refine r_iconst C (oDec_at oX10_fewestSigns 8 rfl) (v := k0) (by rw [qk0]; rfl) ?_
    refine r_callSv C miJ7_fill_53178 mlX10_53 (ct_J7_fill_53178 l E (u16) 49 37 64 rfl (by decide) (by decide) rfl rfl k0 (fun _ => n_rng _) (by omega)) (by decide) rfl rfl rfl (Nat.le_of_ble_eq_true rfl) (oDec_at oX10_fewestSigns 9 rfl) (fun u19 pu19 fu19 => ?_)
    try dsimp only at pu19
    refine r_iconst C (oDec_at oX10_fewestSigns 10 rfl) (v := k0) (by rw [qk0]; rfl) ?_
    refine r_istore_n C (lv' := [(0, .ref (oad E 43)), (1, .int a1), (2, .int k0)]) [1, 2, 0] (oDec_at oX10_fewestSigns 11 rfl) rfl (by decide) rfl ?_
    exact (key (4501 - k0.toInt).toNat) (u19) k0  (by omega) (by omega) (by omega)
  · skip
    refine r_iconst C (oDec_at oX10_fewestSigns 4 rfl) (v := km1) (by rw [qkm1]; rfl) ?_
    exact r_iret C (oDec_at oX10_fewestSigns 5 rfl) ⟨_, rfl, trivial⟩
set_option maxHeartbeats 4000000 in
set_option maxRecDepth 100000 in
theorem ct_X10_fewestMottos (l : Launch) (E : oE) (s : oS) (a1 : Int32)  : oMet l 3 yX10_fewestMottos cX10_fewestMottos 3 (some .int) [(37, 9999)] E s [.ref (oad E 43), .int a1] (oPi (fun r u => True)) := by
  refine oMet.of (lv := [(0, .ref (oad E 43)), (1, .int a1)]) (by decide +kernel) (Nat.le_of_ble_eq_true rfl) rfl (fun J C hT => ?_)
  have C : oC l 3 cX10_fewestMottos RX10 3 (some .int) [(37, 9999)] E s (oPi (fun r u => True)) J := C
  obtain ⟨km1, qkm1⟩ : ∃ z : Int32, z = (-1) := ⟨_, rfl⟩
  have ekm1 : km1.toInt = (-1) := by rw [qkm1]; rfl
  obtain ⟨k0, qk0⟩ : ∃ z : Int32, z = 0 := ⟨_, rfl⟩
  have ek0 : k0.toInt = 0 := by rw [qk0]; rfl
  obtain ⟨k1, qk1⟩ : ∃ z : Int32, z = 1 := ⟨_, rfl⟩
  have ek1 : k1.toInt = 1 := by rw [qk1]; rfl
  obtain ⟨k63, qk63⟩ : ∃ z : Int32, z = 63 := ⟨_, rfl⟩
  have ek63 : k63.toInt = 63 := by rw [qk63]; rfl
  have rg1 := n_rng a1
  have key : ∀ n : Nat, (∀ (t : oS) (x2 : Int32), (0 ≤ a1.toInt ∧ a1.toInt < 4500) → (0 ≤ x2.toInt ∧ x2.toInt ≤ 4500) → 4501 - x2.toInt ≤ (n : Int) → J t 20 [(0, .ref (oad E 43)), (1, .int a1), (2, .int x2)] []) := by
    intro n
    induction n using Nat.strongRecOn with
    | _ n ih =>
      skip
      · intro t x2  iv0 iv1 hmu
        have rx2 := n_rng x2
        refine r_iload_n C (j := 2) (oDec_at oX10_fewestMottos 12 rfl) rfl rfl ?_
        refine r_aload_n C (j := 0) (oDec_at oX10_fewestMottos 13 rfl) rfl rfl ?_
        obtain ⟨v1, ev1⟩ : ∃ z : Int32, (t).1 43 4 = z := ⟨_, rfl⟩
        have gv1 : (t.1 43 4).toInt = v1.toInt := congrArg Int32.toInt (ev1)
        refine r_geti (k := 4) (lo := 0) (hi := 4500) C v1 oCl10 rfl (by decide) flX10_50 rfl rfl (ev1) rfl rfl (oDec_at oX10_fewestMottos 14 rfl) (fun b2 b2h => ?_)
        refine r_icmp_ge C 52 (oDec_at oX10_fewestMottos 15 rfl) (by decide) (fun cd3 => ?_) (fun cd3 => ?_)
        · skip
          refine r_aload_n C (j := 0) (oDec_at oX10_fewestMottos 31 rfl) rfl rfl ?_
          refine r_aload_n C (j := 0) (oDec_at oX10_fewestMottos 32 rfl) rfl rfl ?_
          refine r_getF (k := 6) (b := 45) C oCl10 rfl (by decide) flX10_22 rfl rfl rfl (oDec_at oX10_fewestMottos 33 rfl) ?_
          refine r_iload_n C (j := 1) (oDec_at oX10_fewestMottos 34 rfl) rfl rfl ?_
          obtain ⟨v4, ev4⟩ : ∃ z : Int32, (t).1 45 a1.toNatClampNeg = z := ⟨_, rfl⟩
          have rv4 := n_rng v4
          refine r_iald (n := 4500) (lo := (-2147483648)) (hi := 2147483647) C v4 rfl (by decide) rfl rfl ⟨by omega, by omega⟩ (by decide) ev4 rfl rfl (oDec_at oX10_fewestMottos 35 rfl) (fun _ _ => ?_)
          refine r_callVi C oCl10 rfl miX10_fewest mlX10_146 (ct_X10_fewest l E (t) v4 ) (by decide) rfl rfl rfl (Nat.le_of_ble_eq_true rfl) (oDec_at oX10_fewestMottos 36 rfl) (fun r7 u6 pu6 fu6 => ?_)
          try dsimp only at pu6
          have rr7 := n_rng r7
          refine r_pc C 62 rfl ?_
          exact r_iret C (oDec_at oX10_fewestMottos 37 rfl) ⟨_, rfl, trivial⟩
        · skip
          refine r_aload_n C (j := 0) (oDec_at oX10_fewestMottos 16 rfl) rfl rfl ?_
          refine r_getF (k := 10) (b := 49) C oCl10 rfl (by decide) flX10_34 rfl rfl rfl (oDec_at oX10_fewestMottos 17 rfl) ?_
          refine r_aload_n C (j := 0) (oDec_at oX10_fewestMottos 18 rfl) rfl rfl ?_
          refine r_getF (k := 6) (b := 45) C oCl10 rfl (by decide) flX10_22 rfl rfl rfl (oDec_at oX10_fewestMottos 19 rfl) ?_
          refine r_iload_n C (j := 2) (oDec_at oX10_fewestMottos 20 rfl) rfl rfl ?_
          obtain ⟨v8, ev8⟩ : ∃ z : Int32, (t).1 45 x2.toNatClampNeg = z := ⟨_, rfl⟩
          have rv8 := n_rng v8
          refine r_iald (n := 4500) (lo := (-2147483648)) (hi := 2147483647) C v8 rfl (by decide) rfl rfl ⟨by omega, by omega⟩ (by decide) ev8 rfl rfl (oDec_at oX10_fewestMottos 21 rfl) (fun _ _ => ?_)
          refine r_pc C 38 rfl ?_
          refine r_bipush C (oDec_at oX10_fewestMottos 22 rfl) (v := k63) (by rw [qk63]; rfl) ?_
          obtain ⟨v10, ev10⟩ : ∃ z : Int32, z = v8 &&& k63 := ⟨_, rfl⟩
          have hv10 := n_and ev10
          have rv10 := n_rng v10
          refine r_iand C v10 (oDec_at oX10_fewestMottos 23 rfl) ev10 ?_
          refine r_dup2 C (oDec_at oX10_fewestMottos 24 rfl) rfl rfl ?_
          obtain ⟨v11, ev11⟩ : ∃ z : Int32, (t).1 49 v10.toNatClampNeg = z := ⟨_, rfl⟩
          have rv11 := n_rng v11
          refine r_iald (n := 64) (lo := (-2147483648)) (hi := 2147483647) C v11 rfl (by decide) rfl rfl ⟨by omega, by omega⟩ (by decide) ev11 rfl rfl (oDec_at oX10_fewestMottos 25 rfl) (fun _ _ => ?_)
          refine r_iconst C (oDec_at oX10_fewestMottos 26 rfl) (v := k1) (by rw [qk1]; rfl) ?_
          obtain ⟨v13, ev13⟩ : ∃ z : Int32, z = v11 + k1 := ⟨_, rfl⟩
          have rv13 := n_rng v13
          refine r_iadd C v13 (oDec_at oX10_fewestMottos 27 rfl) ev13 ?_
          refine r_pc C 45 rfl ?_
          refine r_iast (n := 64) (lo := (-2147483648)) (hi := 2147483647) C rfl (by decide) rfl rfl ⟨by omega, by omega⟩ (by decide) rfl rfl rfl rfl (n_rng _) (oDec_at oX10_fewestMottos 28 rfl) ?_
          obtain ⟨v14, ev14⟩ : ∃ z : Int32, x2 + Int32.ofInt 1 = z := ⟨_, rfl⟩
          have hv14 : v14.toInt = x2.toInt + 1 := n_inc ev14 (by decide) (by omega) (by omega)
          refine r_iinc C (j := 2) (lv' := [(0, .ref (oad E 43)), (1, .int a1), (2, .int v14)]) v14 [1, 2, 0] (oDec_at oX10_fewestMottos 29 rfl) rfl ev14 (by decide) rfl ?_
          refine r_goto C (tgt := 20) (oDec_at oX10_fewestMottos 30 rfl) (by decide) ?_
          exact (ih (n - 1) (by omega)) ((pI t 49 v10.toNatClampNeg v13)) v14  (by omega) (by omega) (by omega)
  refine r_aload_n C (j := 0) (oDec_at oX10_fewestMottos 0 rfl) rfl rfl ?_
  refine r_iload_n C (j := 1) (oDec_at oX10_fewestMottos 1 rfl) rfl rfl ?_
  refine r_callVi C oCl10 rfl miX10_holds mlX10_141 (ct_X10_holds l E (s) a1 ) (by decide) rfl rfl rfl (Nat.le_of_ble_eq_true rfl) (oDec_at oX10_fewestMottos 2 rfl) (fun r16 u15 pu15 fu15 => ?_)
  try dsimp only at pu15
  have rr16 := n_rng r16
  refine r_if_ne C 10 (oDec_at oX10_fewestMottos 3 rfl) (by decide) (fun cd17 => ?_) (fun cd17 => ?_)
  · skip
    refine r_aload_n C (j := 0) (oDec_at oX10_fewestMottos 6 rfl) rfl rfl ?_
    refine r_getF (k := 10) (b := 49) C oCl10 rfl (by decide) flX10_34 rfl rfl rfl (oDec_at oX10_fewestMottos 7 rfl) ?_
    refine r_iconst C (oDec_at oX10_fewestMottos 8 rfl) (v := k0) (by rw [qk0]; rfl) ?_
    refine r_callSv C miJ7_fill_53178 mlX10_53 (ct_J7_fill_53178 l E (u15) 49 37 64 rfl (by decide) (by decide) rfl rfl k0 (fun _ => n_rng _) (by omega)) (by decide) rfl rfl rfl (Nat.le_of_ble_eq_true rfl) (oDec_at oX10_fewestMottos 9 rfl) (fun u18 pu18 fu18 => ?_)
    try dsimp only at pu18
    refine r_iconst C (oDec_at oX10_fewestMottos 10 rfl) (v := k0) (by rw [qk0]; rfl) ?_
    refine r_istore_n C (lv' := [(0, .ref (oad E 43)), (1, .int a1), (2, .int k0)]) [1, 2, 0] (oDec_at oX10_fewestMottos 11 rfl) rfl (by decide) rfl ?_
    exact (key (4501 - k0.toInt).toNat) (u18) k0  (by omega) (by omega) (by omega)
  · skip
    refine r_iconst C (oDec_at oX10_fewestMottos 4 rfl) (v := km1) (by rw [qkm1]; rfl) ?_
    exact r_iret C (oDec_at oX10_fewestMottos 5 rfl) ⟨_, rfl, trivial⟩
set_option maxHeartbeats 4000000 in
set_option maxRecDepth 100000 in
theorem ct_X10_isMeant (l : Launch) (E : oE) (s : oS) (a1 : Int32) (a2 : Int32)  : oMet l 2 yX10_isMeant cX10_isMeant 3 (some .boolean) [] E s [.ref (oad E 43), .int a1, .int a2] (oPi (fun r u => (0 ≤ r.toInt ∧ r.toInt ≤ 1))) := by
  refine oMet.of (lv := [(0, .ref (oad E 43)), (1, .int a1), (2, .int a2)]) (by decide +kernel) (Nat.le_of_ble_eq_true rfl) rfl (fun J C hT => ?_)
  have C : oC l 2 cX10_isMeant RX10 3 (some .boolean) [] E s (oPi (fun r u => (0 ≤ r.toInt ∧ r.toInt ≤ 1))) J := C
  obtain ⟨k0, qk0⟩ : ∃ z : Int32, z = 0 := ⟨_, rfl⟩
  have ek0 : k0.toInt = 0 := by rw [qk0]; rfl
  obtain ⟨k1, qk1⟩ : ∃ z : Int32, z = 1 := ⟨_, rfl⟩
  have ek1 : k1.toInt = 1 := by rw [qk1]; rfl
  have rg1 := n_rng a1
  have rg2 := n_rng a2
  refine r_aload_n C (j := 0) (oDec_at oX10_isMeant 0 rfl) rfl rfl ?_
  refine r_iload_n C (j := 1) (oDec_at oX10_isMeant 1 rfl) rfl rfl ?_
  refine r_callVi C oCl10 rfl miX10_holds mlX10_141 (ct_X10_holds l E (s) a1 ) (by decide) rfl rfl rfl (Nat.le_of_ble_eq_true rfl) (oDec_at oX10_isMeant 2 rfl) (fun r2 u1 pu1 fu1 => ?_)
  try dsimp only at pu1
  have rr2 := n_rng r2
  refine r_if_eq C 24 (oDec_at oX10_isMeant 3 rfl) (by decide) (fun cd3 => ?_) (fun cd3 => ?_)
  · skip
    refine r_iconst C (oDec_at oX10_isMeant 14 rfl) (v := k0) (by rw [qk0]; rfl) ?_
    exact r_zret C (n_bool (by omega)) (oDec_at oX10_isMeant 15 rfl) ⟨_, rfl, by omega⟩
  · skip
    refine r_aload_n C (j := 0) (oDec_at oX10_isMeant 4 rfl) rfl rfl ?_
    refine r_getF (k := 6) (b := 45) C oCl10 rfl (by decide) flX10_22 rfl rfl rfl (oDec_at oX10_isMeant 5 rfl) ?_
    refine r_iload_n C (j := 1) (oDec_at oX10_isMeant 6 rfl) rfl rfl ?_
    obtain ⟨v4, ev4⟩ : ∃ z : Int32, (u1).1 45 a1.toNatClampNeg = z := ⟨_, rfl⟩
    have rv4 := n_rng v4
    refine r_iald (n := 4500) (lo := (-2147483648)) (hi := 2147483647) C v4 rfl (by decide) rfl rfl ⟨by omega, by omega⟩ (by decide) ev4 rfl rfl (oDec_at oX10_isMeant 7 rfl) (fun _ _ => ?_)
    refine r_iload_n C (j := 2) (oDec_at oX10_isMeant 8 rfl) rfl rfl ?_
    obtain ⟨v6, ev6⟩ : ∃ z : Int32, z = v4 &&& a2 := ⟨_, rfl⟩
    have hv6 := n_and ev6
    have rv6 := n_rng v6
    refine r_iand C v6 (oDec_at oX10_isMeant 9 rfl) ev6 ?_
    refine r_pc C 16 rfl ?_
    refine r_iload_n C (j := 2) (oDec_at oX10_isMeant 10 rfl) rfl rfl ?_
    refine r_icmp_ne C 24 (oDec_at oX10_isMeant 11 rfl) (by decide) (fun cd7 => ?_) (fun cd7 => ?_)
    · skip
      refine r_iconst C (oDec_at oX10_isMeant 14 rfl) (v := k0) (by rw [qk0]; rfl) ?_
      exact r_zret C (n_bool (by omega)) (oDec_at oX10_isMeant 15 rfl) ⟨_, rfl, by omega⟩
    · skip
      refine r_iconst C (oDec_at oX10_isMeant 12 rfl) (v := k1) (by rw [qk1]; rfl) ?_
      refine r_goto C (tgt := 25) (oDec_at oX10_isMeant 13 rfl) (by decide) ?_
      exact r_zret C (n_bool (by omega)) (oDec_at oX10_isMeant 15 rfl) ⟨_, rfl, by omega⟩
set_option maxHeartbeats 4000000 in
set_option maxRecDepth 100000 in
theorem ct_X10_countMeant (l : Launch) (E : oE) (s : oS) (a1 : Int32)  : oMet l 3 yX10_countMeant cX10_countMeant 4 (some .int) [] E s [.ref (oad E 43), .int a1] (oPi (fun r u => True)) := by
  refine oMet.of (lv := [(0, .ref (oad E 43)), (1, .int a1)]) (by decide +kernel) (Nat.le_of_ble_eq_true rfl) rfl (fun J C hT => ?_)
  have C : oC l 3 cX10_countMeant RX10 4 (some .int) [] E s (oPi (fun r u => True)) J := C
  obtain ⟨k0, qk0⟩ : ∃ z : Int32, z = 0 := ⟨_, rfl⟩
  have ek0 : k0.toInt = 0 := by rw [qk0]; rfl
  obtain ⟨k1, qk1⟩ : ∃ z : Int32, z = 1 := ⟨_, rfl⟩
  have ek1 : k1.toInt = 1 := by rw [qk1]; rfl
  have rg1 := n_rng a1
  have key : ∀ n : Nat, (∀ (t : oS) (x2 : Int32) (x3 : Int32), (0 ≤ x3.toInt ∧ x3.toInt ≤ 4500) → (0 ≤ x2.toInt ∧ x2.toInt ≤ x3.toInt) → 4501 - x3.toInt ≤ (n : Int) → J t 4 [(0, .ref (oad E 43)), (1, .int a1), (2, .int x2), (3, .int x3)] []) := by
    intro n
    induction n using Nat.strongRecOn with
    | _ n ih =>
      skip
      · intro t x2 x3  iv0 iv1 hmu
        have rx2 := n_rng x2
        have rx3 := n_rng x3
        refine r_iload_n C (j := 3) (oDec_at oX10_countMeant 4 rfl) rfl rfl ?_
        refine r_aload_n C (j := 0) (oDec_at oX10_countMeant 5 rfl) rfl rfl ?_
        obtain ⟨v1, ev1⟩ : ∃ z : Int32, (t).1 43 4 = z := ⟨_, rfl⟩
        have gv1 : (t.1 43 4).toInt = v1.toInt := congrArg Int32.toInt (ev1)
        refine r_geti (k := 4) (lo := 0) (hi := 4500) C v1 oCl10 rfl (by decide) flX10_50 rfl rfl (ev1) rfl rfl (oDec_at oX10_countMeant 6 rfl) (fun b2 b2h => ?_)
        refine r_icmp_ge C 35 (oDec_at oX10_countMeant 7 rfl) (by decide) (fun cd3 => ?_) (fun cd3 => ?_)
        · skip
          refine r_iload_n C (j := 2) (oDec_at oX10_countMeant 21 rfl) rfl rfl ?_
          exact r_iret C (oDec_at oX10_countMeant 22 rfl) ⟨_, rfl, trivial⟩
        · skip
          refine r_iload_n C (j := 2) (oDec_at oX10_countMeant 8 rfl) rfl rfl ?_
          refine r_aload_n C (j := 0) (oDec_at oX10_countMeant 9 rfl) rfl rfl ?_
          refine r_iload_n C (j := 3) (oDec_at oX10_countMeant 10 rfl) rfl rfl ?_
          refine r_iload_n C (j := 1) (oDec_at oX10_countMeant 11 rfl) rfl rfl ?_
          refine r_callVi C oCl10 rfl miX10_isMeant mlX10_152 (ct_X10_isMeant l E (t) x3 a1 ) (by decide) rfl rfl rfl (Nat.le_of_ble_eq_true rfl) (oDec_at oX10_countMeant 12 rfl) (fun r5 u4 pu4 fu4 => ?_)
          try dsimp only at pu4
          have rr5 := n_rng r5
          refine r_if_eq C 26 (oDec_at oX10_countMeant 13 rfl) (by decide) (fun cd6 => ?_) (fun cd6 => ?_)
          · skip
            refine r_iconst C (oDec_at oX10_countMeant 16 rfl) (v := k0) (by rw [qk0]; rfl) ?_
            obtain ⟨v7, ev7⟩ : ∃ z : Int32, z = x2 + k0 := ⟨_, rfl⟩
            have hv7 : v7.toInt = x2.toInt + k0.toInt := n_add ev7 (by omega) (by omega)
            refine r_iadd C v7 (oDec_at oX10_countMeant 17 rfl) ev7 ?_
            refine r_istore_n C (lv' := [(0, .ref (oad E 43)), (1, .int a1), (2, .int v7), (3, .int x3)]) [1, 2, 0, 3] (oDec_at oX10_countMeant 18 rfl) rfl (by decide) rfl ?_
            obtain ⟨v8, ev8⟩ : ∃ z : Int32, x3 + Int32.ofInt 1 = z := ⟨_, rfl⟩
            have hv8 : v8.toInt = x3.toInt + 1 := n_inc ev8 (by decide) (by omega) (by omega)
            refine r_iinc C (j := 3) (lv' := [(0, .ref (oad E 43)), (1, .int a1), (2, .int v7), (3, .int v8)]) v8 [1, 2, 3, 0] (oDec_at oX10_countMeant 19 rfl) rfl ev8 (by decide) rfl ?_
            refine r_goto C (tgt := 4) (oDec_at oX10_countMeant 20 rfl) (by decide) ?_
            exact (ih (n - 1) (by omega)) (u4) v7 v8  (by omega) (by omega) (by omega)
          · skip
            refine r_iconst C (oDec_at oX10_countMeant 14 rfl) (v := k1) (by rw [qk1]; rfl) ?_
            refine r_goto C (tgt := 27) (oDec_at oX10_countMeant 15 rfl) (by decide) ?_
            obtain ⟨v9, ev9⟩ : ∃ z : Int32, z = x2 + k1 := ⟨_, rfl⟩
            have hv9 : v9.toInt = x2.toInt + k1.toInt := n_add ev9 (by omega) (by omega)
            refine r_iadd C v9 (oDec_at oX10_countMeant 17 rfl) ev9 ?_
            refine r_istore_n C (lv' := [(0, .ref (oad E 43)), (1, .int a1), (2, .int v9), (3, .int x3)]) [1, 2, 0, 3] (oDec_at oX10_countMeant 18 rfl) rfl (by decide) rfl ?_
            obtain ⟨v10, ev10⟩ : ∃ z : Int32, x3 + Int32.ofInt 1 = z := ⟨_, rfl⟩
            have hv10 : v10.toInt = x3.toInt + 1 := n_inc ev10 (by decide) (by omega) (by omega)
            refine r_iinc C (j := 3) (lv' := [(0, .ref (oad E 43)), (1, .int a1), (2, .int v9), (3, .int v10)]) v10 [1, 2, 3, 0] (oDec_at oX10_countMeant 19 rfl) rfl ev10 (by decide) rfl ?_
            refine r_goto C (tgt := 4) (oDec_at oX10_countMeant 20 rfl) (by decide) ?_
            exact (ih (n - 1) (by omega)) (u4) v9 v10  (by omega) (by omega) (by omega)
  refine r_iconst C (oDec_at oX10_countMeant 0 rfl) (v := k0) (by rw [qk0]; rfl) ?_
  refine r_istore_n C (lv' := [(0, .ref (oad E 43)), (1, .int a1), (2, .int k0)]) [1, 2, 0] (oDec_at oX10_countMeant 1 rfl) rfl (by decide) rfl ?_
  refine r_iconst C (oDec_at oX10_countMeant 2 rfl) (v := k0) (by rw [qk0]; rfl) ?_
  refine r_istore_n C (lv' := [(0, .ref (oad E 43)), (1, .int a1), (2, .int k0), (3, .int k0)]) [1, 2, 3, 0] (oDec_at oX10_countMeant 3 rfl) rfl (by decide) rfl ?_
  exact (key (4501 - k0.toInt).toNat) (s) k0 k0  (by omega) (by omega) (by omega)
set_option maxHeartbeats 4000000 in
set_option maxRecDepth 100000 in
theorem ct_X10_nthMeant (l : Launch) (E : oE) (s : oS) (a1 : Int32) (a2 : Int32)  : oMet l 3 yX10_nthMeant cX10_nthMeant 5 (some .int) [] E s [.ref (oad E 43), .int a1, .int a2] (oPi (fun r u => True)) := by
  refine oMet.of (lv := [(0, .ref (oad E 43)), (1, .int a1), (2, .int a2)]) (by decide +kernel) (Nat.le_of_ble_eq_true rfl) rfl (fun J C hT => ?_)
  have C : oC l 3 cX10_nthMeant RX10 5 (some .int) [] E s (oPi (fun r u => True)) J := C
  obtain ⟨km1, qkm1⟩ : ∃ z : Int32, z = (-1) := ⟨_, rfl⟩
  have ekm1 : km1.toInt = (-1) := by rw [qkm1]; rfl
  obtain ⟨k0, qk0⟩ : ∃ z : Int32, z = 0 := ⟨_, rfl⟩
  have ek0 : k0.toInt = 0 := by rw [qk0]; rfl
  have rg1 := n_rng a1
  have rg2 := n_rng a2
  have key : ∀ n : Nat, (∀ (t : oS) (x3 : Int32) (x4 : Int32), (0 ≤ x4.toInt ∧ x4.toInt ≤ 4500) → (0 ≤ x3.toInt ∧ x3.toInt ≤ x4.toInt) → 4501 - x4.toInt ≤ (n : Int) → J t 5 [(0, .ref (oad E 43)), (1, .int a1), (2, .int a2), (3, .int x3), (4, .int x4)] []) := by
    intro n
    induction n using Nat.strongRecOn with
    | _ n ih =>
      skip
      · intro t x3 x4  iv0 iv1 hmu
        have rx3 := n_rng x3
        have rx4 := n_rng x4
        refine r_iload C (j := 4) (oDec_at oX10_nthMeant 4 rfl) rfl ?_
        refine r_aload_n C (j := 0) (oDec_at oX10_nthMeant 5 rfl) rfl rfl ?_
        obtain ⟨v1, ev1⟩ : ∃ z : Int32, (t).1 43 4 = z := ⟨_, rfl⟩
        have gv1 : (t.1 43 4).toInt = v1.toInt := congrArg Int32.toInt (ev1)
        refine r_geti (k := 4) (lo := 0) (hi := 4500) C v1 oCl10 rfl (by decide) flX10_50 rfl rfl (ev1) rfl rfl (oDec_at oX10_nthMeant 6 rfl) (fun b2 b2h => ?_)
        refine r_icmp_ge C 41 (oDec_at oX10_nthMeant 7 rfl) (by decide) (fun cd3 => ?_) (fun cd3 => ?_)
        · skip
          refine r_iconst C (oDec_at oX10_nthMeant 21 rfl) (v := km1) (by rw [qkm1]; rfl) ?_
          exact r_iret C (oDec_at oX10_nthMeant 22 rfl) ⟨_, rfl, trivial⟩
        · skip
          refine r_aload_n C (j := 0) (oDec_at oX10_nthMeant 8 rfl) rfl rfl ?_
          refine r_iload C (j := 4) (oDec_at oX10_nthMeant 9 rfl) rfl ?_
          refine r_iload_n C (j := 1) (oDec_at oX10_nthMeant 10 rfl) rfl rfl ?_
          refine r_callVi C oCl10 rfl miX10_isMeant mlX10_152 (ct_X10_isMeant l E (t) x4 a1 ) (by decide) rfl rfl rfl (Nat.le_of_ble_eq_true rfl) (oDec_at oX10_nthMeant 11 rfl) (fun r5 u4 pu4 fu4 => ?_)
          try dsimp only at pu4
          have rr5 := n_rng r5
          refine r_if_eq C 35 (oDec_at oX10_nthMeant 12 rfl) (by decide) (fun cd6 => ?_) (fun cd6 => ?_)
          · skip
            obtain ⟨v7, ev7⟩ : ∃ z : Int32, x4 + Int32.ofInt 1 = z := ⟨_, rfl⟩
            have hv7 : v7.toInt = x4.toInt + 1 := n_inc ev7 (by decide) (by omega) (by omega)
            refine r_iinc C (j := 4) (lv' := [(0, .ref (oad E 43)), (1, .int a1), (2, .int a2), (3, .int x3), (4, .int v7)]) v7 [1, 2, 3, 4, 0] (oDec_at oX10_nthMeant 19 rfl) rfl ev7 (by decide) rfl ?_
            refine r_goto C (tgt := 5) (oDec_at oX10_nthMeant 20 rfl) (by decide) ?_
            exact (ih (n - 1) (by omega)) (u4) x3 v7  (by omega) (by omega) (by omega)
          · skip
            refine r_iload_n C (j := 3) (oDec_at oX10_nthMeant 13 rfl) rfl rfl ?_
            refine r_iload_n C (j := 2) (oDec_at oX10_nthMeant 14 rfl) rfl rfl ?_
            refine r_icmp_ne C 32 (oDec_at oX10_nthMeant 15 rfl) (by decide) (fun cd8 => ?_) (fun cd8 => ?_)
            · skip
              obtain ⟨v9, ev9⟩ : ∃ z : Int32, x3 + Int32.ofInt 1 = z := ⟨_, rfl⟩
              have hv9 : v9.toInt = x3.toInt + 1 := n_inc ev9 (by decide) (by omega) (by omega)
              refine r_iinc C (j := 3) (lv' := [(0, .ref (oad E 43)), (1, .int a1), (2, .int a2), (3, .int v9), (4, .int x4)]) v9 [1, 2, 3, 0, 4] (oDec_at oX10_nthMeant 18 rfl) rfl ev9 (by decide) rfl ?_
              obtain ⟨v10, ev10⟩ : ∃ z : Int32, x4 + Int32.ofInt 1 = z := ⟨_, rfl⟩
              have hv10 : v10.toInt = x4.toInt + 1 := n_inc ev10 (by decide) (by omega) (by omega)
              refine r_iinc C (j := 4) (lv' := [(0, .ref (oad E 43)), (1, .int a1), (2, .int a2), (3, .int v9), (4, .int v10)]) v10 [1, 2, 3, 4, 0] (oDec_at oX10_nthMeant 19 rfl) rfl ev10 (by decide) rfl ?_
              refine r_goto C (tgt := 5) (oDec_at oX10_nthMeant 20 rfl) (by decide) ?_
              exact (ih (n - 1) (by omega)) (u4) v9 v10  (by omega) (by omega) (by omega)
            · skip
              refine r_iload C (j := 4) (oDec_at oX10_nthMeant 16 rfl) rfl ?_
              exact r_iret C (oDec_at oX10_nthMeant 17 rfl) ⟨_, rfl, trivial⟩
  refine r_iconst C (oDec_at oX10_nthMeant 0 rfl) (v := k0) (by rw [qk0]; rfl) ?_
  refine r_istore_n C (lv' := [(0, .ref (oad E 43)), (1, .int a1), (2, .int a2), (3, .int k0)]) [1, 2, 3, 0] (oDec_at oX10_nthMeant 1 rfl) rfl (by decide) rfl ?_
  refine r_iconst C (oDec_at oX10_nthMeant 2 rfl) (v := k0) (by rw [qk0]; rfl) ?_
  refine r_istore C (lv' := [(0, .ref (oad E 43)), (1, .int a1), (2, .int a2), (3, .int k0), (4, .int k0)]) [1, 2, 3, 4, 0] (oDec_at oX10_nthMeant 3 rfl) (by decide) rfl ?_
  exact (key (4501 - k0.toInt).toNat) (s) k0 k0  (by omega) (by omega) (by omega)
set_option maxHeartbeats 4000000 in
set_option maxRecDepth 100000 in
theorem ct_X10_commonest (l : Launch) (E : oE) (s : oS) (a1 : Int32) (a2 : Int32) (hp0 : 0 ≤ a2.toInt ∧ a2.toInt ≤ 1) (hp1 : 0 ≤ a1.toInt ∧ a1.toInt ≤ 1) : oMet l 2 yX10_commonest cX10_commonest 5 (some .int) [(37, 9999)] E s [.ref (oad E 43), .int a1, .int a2] (oPi (fun r u => True)) := by
  refine oMet.of (lv := [(0, .ref (oad E 43)), (1, .int a1), (2, .int a2)]) (by decide +kernel) (Nat.le_of_ble_eq_true rfl) rfl (fun J C hT => ?_)
  have C : oC l 2 cX10_commonest RX10 5 (some .int) [(37, 9999)] E s (oPi (fun r u => True)) J := C
  obtain ⟨k0, qk0⟩ : ∃ z : Int32, z = 0 := ⟨_, rfl⟩
  have ek0 : k0.toInt = 0 := by rw [qk0]; rfl
  obtain ⟨k1, qk1⟩ : ∃ z : Int32, z = 1 := ⟨_, rfl⟩
  have ek1 : k1.toInt = 1 := by rw [qk1]; rfl
  obtain ⟨k7, qk7⟩ : ∃ z : Int32, z = 7 := ⟨_, rfl⟩
  have ek7 : k7.toInt = 7 := by rw [qk7]; rfl
  obtain ⟨k12, qk12⟩ : ∃ z : Int32, z = 12 := ⟨_, rfl⟩
  have ek12 : k12.toInt = 12 := by rw [qk12]; rfl
  obtain ⟨k15, qk15⟩ : ∃ z : Int32, z = 15 := ⟨_, rfl⟩
  have ek15 : k15.toInt = 15 := by rw [qk15]; rfl
  obtain ⟨k64, qk64⟩ : ∃ z : Int32, z = 64 := ⟨_, rfl⟩
  have ek64 : k64.toInt = 64 := by rw [qk64]; rfl
  obtain ⟨k180, qk180⟩ : ∃ z : Int32, z = 180 := ⟨_, rfl⟩
  have ek180 : k180.toInt = 180 := by rw [qk180]; rfl
  have rg1 := n_rng a1
  have rg2 := n_rng a2
  have key : ∀ n : Nat, (∀ (t : oS) (x3 : Int32), (0 ≤ x3.toInt ∧ x3.toInt ≤ 4500) → 10000 - x3.toInt ≤ (n : Int) → J t 10 [(0, .ref (oad E 43)), (1, .int a1), (2, .int a2), (3, .int x3)] []) ∧ (∀ (t : oS) (x3 : Int32) (x4 : Int32), (0 ≤ x3.toInt ∧ x3.toInt ≤ 63) → (0 ≤ x4.toInt ∧ x4.toInt ≤ 64) → 65 - x4.toInt ≤ (n : Int) → J t 70 [(0, .ref (oad E 43)), (1, .int a1), (2, .int a2), (3, .int x3), (4, .int x4)] []) := by
    intro n
    induction n using Nat.strongRecOn with
    | _ n ih =>
      refine ⟨?_, ?_⟩
      · intro t x3  iv0 hmu
        have rx3 := n_rng x3
        refine r_iload_n C (j := 3) (oDec_at oX10_commonest 6 rfl) rfl rfl ?_
        refine r_aload_n C (j := 0) (oDec_at oX10_commonest 7 rfl) rfl rfl ?_
        obtain ⟨v1, ev1⟩ : ∃ z : Int32, (t).1 43 4 = z := ⟨_, rfl⟩
        have gv1 : (t.1 43 4).toInt = v1.toInt := congrArg Int32.toInt (ev1)
        refine r_geti (k := 4) (lo := 0) (hi := 4500) C v1 oCl10 rfl (by decide) flX10_50 rfl rfl (ev1) rfl rfl (oDec_at oX10_commonest 8 rfl) (fun b2 b2h => ?_)
        refine r_icmp_ge C 65 (oDec_at oX10_commonest 9 rfl) (by decide) (fun cd3 => ?_) (fun cd3 => ?_)
        · skip
          refine r_iconst C (oDec_at oX10_commonest 38 rfl) (v := k0) (by rw [qk0]; rfl) ?_
          refine r_istore_n C (lv' := [(0, .ref (oad E 43)), (1, .int a1), (2, .int a2), (3, .int k0)]) [1, 2, 3, 0] (oDec_at oX10_commonest 39 rfl) rfl (by decide) rfl ?_
          refine r_iconst C (oDec_at oX10_commonest 40 rfl) (v := k1) (by rw [qk1]; rfl) ?_
          refine r_istore C (lv' := [(0, .ref (oad E 43)), (1, .int a1), (2, .int a2), (3, .int k0), (4, .int k1)]) [1, 2, 3, 4, 0] (oDec_at oX10_commonest 41 rfl) (by decide) rfl ?_
          exact (ih (n - 1) (by omega)).2 (t) k0 k1  (by omega) (by omega) (by omega)
        · skip
          refine r_aload_n C (j := 0) (oDec_at oX10_commonest 10 rfl) rfl rfl ?_
          refine r_getF (k := 10) (b := 49) C oCl10 rfl (by decide) flX10_34 rfl rfl rfl (oDec_at oX10_commonest 11 rfl) ?_
          refine r_iload_n C (j := 1) (oDec_at oX10_commonest 12 rfl) rfl rfl ?_
          refine r_if_eq C 42 (oDec_at oX10_commonest 13 rfl) (by decide) (fun cd4 => ?_) (fun cd4 => ?_)
          · skip
            refine r_aload_n C (j := 0) (oDec_at oX10_commonest 23 rfl) rfl rfl ?_
            refine r_getF (k := 5) (b := 44) C oCl10 rfl (by decide) flX10_18 rfl rfl rfl (oDec_at oX10_commonest 24 rfl) ?_
            refine r_iload_n C (j := 3) (oDec_at oX10_commonest 25 rfl) rfl rfl ?_
            obtain ⟨v5, ev5⟩ : ∃ z : Int32, (t).1 44 x3.toNatClampNeg = z := ⟨_, rfl⟩
            refine r_iald (n := 4500) (lo := 0) (hi := 4499) C v5 rfl (by decide) rfl rfl ⟨by omega, by omega⟩ (by decide) ev5 rfl rfl (oDec_at oX10_commonest 26 rfl) (fun b6 b6h => ?_)
            refine r_bipush C (oDec_at oX10_commonest 27 rfl) (v := k12) (by rw [qk12]; rfl) ?_
            obtain ⟨v7, ev7⟩ : ∃ z : Int32, z = v5 / k12 := ⟨_, rfl⟩
            have hv7 := n_divP (k := 12) ev7 ek12 (by decide)
            have rv7 := n_rng v7
            refine r_idiv C v7 (oDec_at oX10_commonest 28 rfl) (n_ne0 (by omega)) ev7 ?_
            refine r_pc C 51 rfl ?_
            refine r_bipush C (oDec_at oX10_commonest 29 rfl) (v := k15) (by rw [qk15]; rfl) ?_
            obtain ⟨v8, ev8⟩ : ∃ z : Int32, z = v7 - v7 / k15 * k15 := ⟨_, rfl⟩
            have hv8 := n_rem (k := 15) ev8 ek15 (by decide)
            have rv8 := n_rng v8
            refine r_irem C v8 (oDec_at oX10_commonest 30 rfl) (n_ne0 (by omega)) ev8 ?_
            refine r_dup2 C (oDec_at oX10_commonest 31 rfl) rfl rfl ?_
            obtain ⟨v9, ev9⟩ : ∃ z : Int32, (t).1 49 v8.toNatClampNeg = z := ⟨_, rfl⟩
            have rv9 := n_rng v9
            refine r_iald (n := 64) (lo := (-2147483648)) (hi := 2147483647) C v9 rfl (by decide) rfl rfl ⟨by omega, by omega⟩ (by decide) ev9 rfl rfl (oDec_at oX10_commonest 32 rfl) (fun _ _ => ?_)
            refine r_iconst C (oDec_at oX10_commonest 33 rfl) (v := k1) (by rw [qk1]; rfl) ?_
            obtain ⟨v11, ev11⟩ : ∃ z : Int32, z = v9 + k1 := ⟨_, rfl⟩
            have rv11 := n_rng v11
            refine r_iadd C v11 (oDec_at oX10_commonest 34 rfl) ev11 ?_
            refine r_pc C 58 rfl ?_
            refine r_iast (n := 64) (lo := (-2147483648)) (hi := 2147483647) C rfl (by decide) rfl rfl ⟨by omega, by omega⟩ (by decide) rfl rfl rfl rfl (n_rng _) (oDec_at oX10_commonest 35 rfl) ?_
            obtain ⟨v12, ev12⟩ : ∃ z : Int32, x3 + Int32.ofInt 1 = z := ⟨_, rfl⟩
            have hv12 : v12.toInt = x3.toInt + 1 := n_inc ev12 (by decide) (by omega) (by omega)
            refine r_iinc C (j := 3) (lv' := [(0, .ref (oad E 43)), (1, .int a1), (2, .int a2), (3, .int v12)]) v12 [1, 2, 3, 0] (oDec_at oX10_commonest 36 rfl) rfl ev12 (by decide) rfl ?_
            refine r_goto C (tgt := 10) (oDec_at oX10_commonest 37 rfl) (by decide) ?_
            exact (ih (n - 1) (by omega)).1 ((pI t 49 v8.toNatClampNeg v11)) v12  (by omega) (by omega)
          · skip
            refine r_aload_n C (j := 0) (oDec_at oX10_commonest 14 rfl) rfl rfl ?_
            refine r_getF (k := 5) (b := 44) C oCl10 rfl (by decide) flX10_18 rfl rfl rfl (oDec_at oX10_commonest 15 rfl) ?_
            refine r_iload_n C (j := 3) (oDec_at oX10_commonest 16 rfl) rfl rfl ?_
            obtain ⟨v13, ev13⟩ : ∃ z : Int32, (t).1 44 x3.toNatClampNeg = z := ⟨_, rfl⟩
            refine r_iald (n := 4500) (lo := 0) (hi := 4499) C v13 rfl (by decide) rfl rfl ⟨by omega, by omega⟩ (by decide) ev13 rfl rfl (oDec_at oX10_commonest 17 rfl) (fun b14 b14h => ?_)
            refine r_sipush C (oDec_at oX10_commonest 18 rfl) (v := k180) (by rw [qk180]; rfl) ?_
            obtain ⟨v15, ev15⟩ : ∃ z : Int32, z = v13 / k180 := ⟨_, rfl⟩
            have hv15 := n_divP (k := 180) ev15 ek180 (by decide)
            have rv15 := n_rng v15
            refine r_idiv C v15 (oDec_at oX10_commonest 19 rfl) (n_ne0 (by omega)) ev15 ?_
            refine r_pc C 36 rfl ?_
            refine r_bipush C (oDec_at oX10_commonest 20 rfl) (v := k64) (by rw [qk64]; rfl) ?_
            obtain ⟨v16, ev16⟩ : ∃ z : Int32, z = v15 - v15 / k64 * k64 := ⟨_, rfl⟩
            have hv16 := n_rem (k := 64) ev16 ek64 (by decide)
            have rv16 := n_rng v16
            refine r_irem C v16 (oDec_at oX10_commonest 21 rfl) (n_ne0 (by omega)) ev16 ?_
            refine r_goto C (tgt := 54) (oDec_at oX10_commonest 22 rfl) (by decide) ?_
            refine r_dup2 C (oDec_at oX10_commonest 31 rfl) rfl rfl ?_
            obtain ⟨v17, ev17⟩ : ∃ z : Int32, (t).1 49 v16.toNatClampNeg = z := ⟨_, rfl⟩
            have rv17 := n_rng v17
            refine r_iald (n := 64) (lo := (-2147483648)) (hi := 2147483647) C v17 rfl (by decide) rfl rfl ⟨by omega, by omega⟩ (by decide) ev17 rfl rfl (oDec_at oX10_commonest 32 rfl) (fun _ _ => ?_)
            refine r_iconst C (oDec_at oX10_commonest 33 rfl) (v := k1) (by rw [qk1]; rfl) ?_
            obtain ⟨v19, ev19⟩ : ∃ z : Int32, z = v17 + k1 := ⟨_, rfl⟩
            have rv19 := n_rng v19
            refine r_iadd C v19 (oDec_at oX10_commonest 34 rfl) ev19 ?_
            refine r_pc C 58 rfl ?_
            refine r_iast (n := 64) (lo := (-2147483648)) (hi := 2147483647) C rfl (by decide) rfl rfl ⟨by omega, by omega⟩ (by decide) rfl rfl rfl rfl (n_rng _) (oDec_at oX10_commonest 35 rfl) ?_
            obtain ⟨v20, ev20⟩ : ∃ z : Int32, x3 + Int32.ofInt 1 = z := ⟨_, rfl⟩
            have hv20 : v20.toInt = x3.toInt + 1 := n_inc ev20 (by decide) (by omega) (by omega)
            refine r_iinc C (j := 3) (lv' := [(0, .ref (oad E 43)), (1, .int a1), (2, .int a2), (3, .int v20)]) v20 [1, 2, 3, 0] (oDec_at oX10_commonest 36 rfl) rfl ev20 (by decide) rfl ?_
            refine r_goto C (tgt := 10) (oDec_at oX10_commonest 37 rfl) (by decide) ?_
            exact (ih (n - 1) (by omega)).1 ((pI t 49 v16.toNatClampNeg v19)) v20  (by omega) (by omega)
      · intro t x3 x4  iv0 iv1 hmu
        have rx3 := n_rng x3
        have rx4 := n_rng x4
        refine r_iload C (j := 4) (oDec_at oX10_commonest 42 rfl) rfl ?_
        refine r_bipush C (oDec_at oX10_commonest 43 rfl) (v := k64) (by rw [qk64]; rfl) ?_
        refine r_icmp_ge C 106 (oDec_at oX10_commonest 44 rfl) (by decide) (fun cd21 => ?_) (fun cd21 => ?_)
        · skip
          refine r_iload_n C (j := 2) (oDec_at oX10_commonest 60 rfl) rfl rfl ?_
          refine r_if_eq C 117 (oDec_at oX10_commonest 61 rfl) (by decide) (fun cd22 => ?_) (fun cd22 => ?_)
          · skip
            refine r_iload_n C (j := 1) (oDec_at oX10_commonest 67 rfl) rfl rfl ?_
            refine r_if_eq C 125 (oDec_at oX10_commonest 68 rfl) (by decide) (fun cd23 => ?_) (fun cd23 => ?_)
            · skip
              refine r_iload_n C (j := 3) (oDec_at oX10_commonest 71 rfl) rfl rfl ?_
              refine r_bipush C (oDec_at oX10_commonest 72 rfl) (v := k7) (by rw [qk7]; rfl) ?_
              obtain ⟨v24, ev24⟩ : ∃ z : Int32, z = x3 - k7 := ⟨_, rfl⟩
              have rv24 := n_rng v24
              refine r_isub C v24 (oDec_at oX10_commonest 73 rfl) ev24 ?_
              exact r_iret C (oDec_at oX10_commonest 74 rfl) ⟨_, rfl, trivial⟩
            · skip
              refine r_iload_n C (j := 3) (oDec_at oX10_commonest 69 rfl) rfl rfl ?_
              refine r_goto C (tgt := 129) (oDec_at oX10_commonest 70 rfl) (by decide) ?_
              exact r_iret C (oDec_at oX10_commonest 74 rfl) ⟨_, rfl, trivial⟩
          · skip
            refine r_aload_n C (j := 0) (oDec_at oX10_commonest 62 rfl) rfl rfl ?_
            refine r_getF (k := 10) (b := 49) C oCl10 rfl (by decide) flX10_34 rfl rfl rfl (oDec_at oX10_commonest 63 rfl) ?_
            refine r_iload_n C (j := 3) (oDec_at oX10_commonest 64 rfl) rfl rfl ?_
            obtain ⟨v25, ev25⟩ : ∃ z : Int32, (t).1 49 x3.toNatClampNeg = z := ⟨_, rfl⟩
            have rv25 := n_rng v25
            refine r_iald (n := 64) (lo := (-2147483648)) (hi := 2147483647) C v25 rfl (by decide) rfl rfl ⟨by omega, by omega⟩ (by decide) ev25 rfl rfl (oDec_at oX10_commonest 65 rfl) (fun _ _ => ?_)
            exact r_iret C (oDec_at oX10_commonest 66 rfl) ⟨_, rfl, trivial⟩
        · skip
          refine r_aload_n C (j := 0) (oDec_at oX10_commonest 45 rfl) rfl rfl ?_
          refine r_getF (k := 10) (b := 49) C oCl10 rfl (by decide) flX10_34 rfl rfl rfl (oDec_at oX10_commonest 46 rfl) ?_
          refine r_iload C (j := 4) (oDec_at oX10_commonest 47 rfl) rfl ?_
          obtain ⟨v27, ev27⟩ : ∃ z : Int32, (t).1 49 x4.toNatClampNeg = z := ⟨_, rfl⟩
          have rv27 := n_rng v27
          refine r_iald (n := 64) (lo := (-2147483648)) (hi := 2147483647) C v27 rfl (by decide) rfl rfl ⟨by omega, by omega⟩ (by decide) ev27 rfl rfl (oDec_at oX10_commonest 48 rfl) (fun _ _ => ?_)
          refine r_aload_n C (j := 0) (oDec_at oX10_commonest 49 rfl) rfl rfl ?_
          refine r_getF (k := 10) (b := 49) C oCl10 rfl (by decide) flX10_34 rfl rfl rfl (oDec_at oX10_commonest 50 rfl) ?_
          refine r_pc C 88 rfl ?_
          refine r_iload_n C (j := 3) (oDec_at oX10_commonest 51 rfl) rfl rfl ?_
          obtain ⟨v29, ev29⟩ : ∃ z : Int32, (t).1 49 x3.toNatClampNeg = z := ⟨_, rfl⟩
          have rv29 := n_rng v29
          refine r_iald (n := 64) (lo := (-2147483648)) (hi := 2147483647) C v29 rfl (by decide) rfl rfl ⟨by omega, by omega⟩ (by decide) ev29 rfl rfl (oDec_at oX10_commonest 52 rfl) (fun _ _ => ?_)
          refine r_icmp_le C 98 (oDec_at oX10_commonest 53 rfl) (by decide) (fun cd31 => ?_) (fun cd31 => ?_)
          · skip
            refine r_iload_n C (j := 3) (oDec_at oX10_commonest 56 rfl) rfl rfl ?_
            refine r_istore_n C (lv' := [(0, .ref (oad E 43)), (1, .int a1), (2, .int a2), (3, .int x3), (4, .int x4)]) [1, 2, 3, 0, 4] (oDec_at oX10_commonest 57 rfl) rfl (by decide) rfl ?_
            obtain ⟨v32, ev32⟩ : ∃ z : Int32, x4 + Int32.ofInt 1 = z := ⟨_, rfl⟩
            have hv32 : v32.toInt = x4.toInt + 1 := n_inc ev32 (by decide) (by omega) (by omega)
            refine r_iinc C (j := 4) (lv' := [(0, .ref (oad E 43)), (1, .int a1), (2, .int a2), (3, .int x3), (4, .int v32)]) v32 [1, 2, 3, 4, 0] (oDec_at oX10_commonest 58 rfl) rfl ev32 (by decide) rfl ?_
            refine r_goto C (tgt := 70) (oDec_at oX10_commonest 59 rfl) (by decide) ?_
            exact (ih (n - 1) (by omega)).2 (t) x3 v32  (by omega) (by omega) (by omega)
          · skip
            refine r_iload C (j := 4) (oDec_at oX10_commonest 54 rfl) rfl ?_
            refine r_goto C (tgt := 99) (oDec_at oX10_commonest 55 rfl) (by decide) ?_
            refine r_istore_n C (lv' := [(0, .ref (oad E 43)), (1, .int a1), (2, .int a2), (3, .int x4), (4, .int x4)]) [1, 2, 3, 0, 4] (oDec_at oX10_commonest 57 rfl) rfl (by decide) rfl ?_
            obtain ⟨v33, ev33⟩ : ∃ z : Int32, x4 + Int32.ofInt 1 = z := ⟨_, rfl⟩
            have hv33 : v33.toInt = x4.toInt + 1 := n_inc ev33 (by decide) (by omega) (by omega)
            refine r_iinc C (j := 4) (lv' := [(0, .ref (oad E 43)), (1, .int a1), (2, .int a2), (3, .int x4), (4, .int v33)]) v33 [1, 2, 3, 4, 0] (oDec_at oX10_commonest 58 rfl) rfl ev33 (by decide) rfl ?_
            refine r_goto C (tgt := 70) (oDec_at oX10_commonest 59 rfl) (by decide) ?_
            exact (ih (n - 1) (by omega)).2 (t) x4 v33  (by omega) (by omega) (by omega)
  refine r_aload_n C (j := 0) (oDec_at oX10_commonest 0 rfl) rfl rfl ?_
  refine r_getF (k := 10) (b := 49) C oCl10 rfl (by decide) flX10_34 rfl rfl rfl (oDec_at oX10_commonest 1 rfl) ?_
  refine r_iconst C (oDec_at oX10_commonest 2 rfl) (v := k0) (by rw [qk0]; rfl) ?_
  refine r_callSv C miJ7_fill_53178 mlX10_53 (ct_J7_fill_53178 l E (s) 49 37 64 rfl (by decide) (by decide) rfl rfl k0 (fun _ => n_rng _) (by omega)) (by decide) rfl rfl rfl (Nat.le_of_ble_eq_true rfl) (oDec_at oX10_commonest 3 rfl) (fun u34 pu34 fu34 => ?_)
  try dsimp only at pu34
  refine r_iconst C (oDec_at oX10_commonest 4 rfl) (v := k0) (by rw [qk0]; rfl) ?_
  refine r_istore_n C (lv' := [(0, .ref (oad E 43)), (1, .int a1), (2, .int a2), (3, .int k0)]) [1, 2, 3, 0] (oDec_at oX10_commonest 5 rfl) rfl (by decide) rfl ?_
  exact (key (10000 - k0.toInt).toNat).1 (u34) k0  (by omega) (by omega)
