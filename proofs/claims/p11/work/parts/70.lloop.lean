set_option maxHeartbeats 8000000 in
set_option maxRecDepth 100000 in
theorem lw_loop {l : Launch} {b L kc sl : Nat} {xs : Nat → Int32} {E : oE} {J : oS → Nat → List (Nat × Value) → List Value → Prop} (C : oLC l b L xs E kc sl J) (hL : L ≤ 3072) : ∀ n : Nat, ∀ (t : oS) (x3 : Int32), (oLT t) → (1 ≤ (t.1 71 38).toInt → 1 ≤ (t.1 71 42).toInt) → (oBI t) → (0 ≤ x3.toInt ∧ x3.toInt ≤ 3072) → 5000 - x3.toInt ≤ (n : Int) → J t 18 [(0, .ref b), (1, .ref (oad E 0)), (2, .ref (oad E 71)), (3, .int x3)] [] := by
  obtain ⟨k0, qk0⟩ : ∃ z : Int32, z = 0 := ⟨_, rfl⟩
  have ek0 : k0.toInt = 0 := by rw [qk0]; rfl
  obtain ⟨k1, qk1⟩ : ∃ z : Int32, z = 1 := ⟨_, rfl⟩
  have ek1 : k1.toInt = 1 := by rw [qk1]; rfl
  obtain ⟨k2, qk2⟩ : ∃ z : Int32, z = 2 := ⟨_, rfl⟩
  have ek2 : k2.toInt = 2 := by rw [qk2]; rfl
  obtain ⟨k3, qk3⟩ : ∃ z : Int32, z = 3 := ⟨_, rfl⟩
  have ek3 : k3.toInt = 3 := by rw [qk3]; rfl
  obtain ⟨k4, qk4⟩ : ∃ z : Int32, z = 4 := ⟨_, rfl⟩
  have ek4 : k4.toInt = 4 := by rw [qk4]; rfl
  obtain ⟨k5, qk5⟩ : ∃ z : Int32, z = 5 := ⟨_, rfl⟩
  have ek5 : k5.toInt = 5 := by rw [qk5]; rfl
  obtain ⟨k6, qk6⟩ : ∃ z : Int32, z = 6 := ⟨_, rfl⟩
  have ek6 : k6.toInt = 6 := by rw [qk6]; rfl
  obtain ⟨k63, qk63⟩ : ∃ z : Int32, z = 63 := ⟨_, rfl⟩
  have ek63 : k63.toInt = 63 := by rw [qk63]; rfl
  intro n
  induction n using Nat.strongRecOn with
  | _ n ih =>
    intro t x3 iv0 iv1 iv2 iv3 hmu
    have rx3 := n_rng x3
    refine L_iload_n C (j := 3) (oDec_at oLw_0 10 rfl) rfl rfl ?_
    refine L_aload_n C (j := 0) (oDec_at oLw_0 11 rfl) rfl rfl ?_
    refine L_slen C (oDec_at oLw_0 12 rfl) ?_
    obtain ⟨v1, ev1⟩ : ∃ z : Int32, Int32.ofNat L = z := ⟨_, rfl⟩
    rw [ev1]
    have hv1 : v1.toInt = (L : Int) := n_ofNat ev1 (by omega)
    refine L_bipush C (oDec_at oLw_0 13 rfl) (v := k6) (by rw [qk6]; rfl) ?_
    obtain ⟨v2, ev2⟩ : ∃ z : Int32, z = v1 - k6 := ⟨_, rfl⟩
    have hv2 : v2.toInt = v1.toInt - k6.toInt := n_sub ev2 (by omega) (by omega)
    refine L_isub C v2 (oDec_at oLw_0 14 rfl) ev2 ?_
    refine L_icmp_gt C 1459 (oDec_at oLw_0 15 rfl) (by decide) (fun cd3 => ?_) (fun cd3 => ?_)
    · skip
      refine L_iconst C (oDec_at oLw_20 23 rfl) (v := k1) (by rw [qk1]; rfl) ?_
      exact L_ret1 C qk1 (oDec_at oLw_20 24 rfl)
    · skip
      refine L_aload_n C (j := 0) (oDec_at oLw_0 16 rfl) rfl rfl ?_
      refine L_iload_n C (j := 3) (oDec_at oLw_0 17 rfl) rfl rfl ?_
      refine L_sld C ⟨by omega, by omega⟩ (oDec_at oLw_0 18 rfl) ?_
      obtain ⟨v4, ev4⟩ : ∃ z : Int32, xs x3.toNatClampNeg = z := ⟨_, rfl⟩
      rw [ev4]
      have rv4 := n_rng v4
      refine L_bipush C (oDec_at oLw_0 19 rfl) (v := k63) (by rw [qk63]; rfl) ?_
      obtain ⟨v5, ev5⟩ : ∃ z : Int32, z = v4 &&& k63 := ⟨_, rfl⟩
      have rv5 := n_rng v5
      refine L_iand C v5 (oDec_at oLw_0 20 rfl) ev5 ?_
      by_cases cd6_0 : v5.toInt = 0
      · refine L_tableIn C 204 (oDec_at oLw_0 21 rfl) (by omega) (by omega) (by rw [cd6_0]; rfl) (by decide) ?_
        skip
        refine L_aload_n C (j := 1) (oDec_at oLw_0 22 rfl) rfl rfl ?_
        refine L_aload_n C (j := 0) (oDec_at oLw_0 23 rfl) rfl rfl ?_
        refine L_iload_n C (j := 3) (oDec_at oLw_0 24 rfl) rfl rfl ?_
        refine L_iconst C (oDec_at oLw_0 25 rfl) (v := k1) (by rw [qk1]; rfl) ?_
        obtain ⟨v7, ev7⟩ : ∃ z : Int32, z = x3 + k1 := ⟨_, rfl⟩
        have hv7 : v7.toInt = x3.toInt + k1.toInt := n_add ev7 (by omega) (by omega)
        refine L_iadd C v7 (oDec_at oLw_0 26 rfl) ev7 ?_
        refine L_sld C ⟨by omega, by omega⟩ (oDec_at oLw_0 27 rfl) ?_
        obtain ⟨v8, ev8⟩ : ∃ z : Int32, xs v7.toNatClampNeg = z := ⟨_, rfl⟩
        rw [ev8]
        have rv8 := n_rng v8
        refine L_aload_n C (j := 0) (oDec_at oLw_0 28 rfl) rfl rfl ?_
        refine L_iload_n C (j := 3) (oDec_at oLw_0 29 rfl) rfl rfl ?_
        refine L_iconst C (oDec_at oLw_0 30 rfl) (v := k2) (by rw [qk2]; rfl) ?_
        obtain ⟨v9, ev9⟩ : ∃ z : Int32, z = x3 + k2 := ⟨_, rfl⟩
        have hv9 : v9.toInt = x3.toInt + k2.toInt := n_add ev9 (by omega) (by omega)
        refine L_iadd C v9 (oDec_at oLw_0 31 rfl) ev9 ?_
        refine L_sld C ⟨by omega, by omega⟩ (oDec_at oLw_0 32 rfl) ?_
        obtain ⟨v10, ev10⟩ : ∃ z : Int32, xs v9.toNatClampNeg = z := ⟨_, rfl⟩
        rw [ev10]
        have rv10 := n_rng v10
        refine L_aload_n C (j := 0) (oDec_at oLw_0 33 rfl) rfl rfl ?_
        refine L_iload_n C (j := 3) (oDec_at oLw_0 34 rfl) rfl rfl ?_
        refine L_iconst C (oDec_at oLw_0 35 rfl) (v := k3) (by rw [qk3]; rfl) ?_
        obtain ⟨v11, ev11⟩ : ∃ z : Int32, z = x3 + k3 := ⟨_, rfl⟩
        have hv11 : v11.toInt = x3.toInt + k3.toInt := n_add ev11 (by omega) (by omega)
        refine L_iadd C v11 (oDec_at oLw_0 36 rfl) ev11 ?_
        refine L_sld C ⟨by omega, by omega⟩ (oDec_at oLw_0 37 rfl) ?_
        obtain ⟨v12, ev12⟩ : ∃ z : Int32, xs v11.toNatClampNeg = z := ⟨_, rfl⟩
        rw [ev12]
        have rv12 := n_rng v12
        refine L_aload_n C (j := 0) (oDec_at oLw_0 38 rfl) rfl rfl ?_
        refine L_iload_n C (j := 3) (oDec_at oLw_0 39 rfl) rfl rfl ?_
        refine L_iconst C (oDec_at oLw_0 40 rfl) (v := k4) (by rw [qk4]; rfl) ?_
        obtain ⟨v13, ev13⟩ : ∃ z : Int32, z = x3 + k4 := ⟨_, rfl⟩
        have hv13 : v13.toInt = x3.toInt + k4.toInt := n_add ev13 (by omega) (by omega)
        refine L_iadd C v13 (oDec_at oLw_0 41 rfl) ev13 ?_
        refine L_sld C ⟨by omega, by omega⟩ (oDec_at oLw_0 42 rfl) ?_
        obtain ⟨v14, ev14⟩ : ∃ z : Int32, xs v13.toNatClampNeg = z := ⟨_, rfl⟩
        rw [ev14]
        have rv14 := n_rng v14
        refine L_aload_n C (j := 0) (oDec_at oLw_0 43 rfl) rfl rfl ?_
        refine L_iload_n C (j := 3) (oDec_at oLw_0 44 rfl) rfl rfl ?_
        refine L_iconst C (oDec_at oLw_0 45 rfl) (v := k5) (by rw [qk5]; rfl) ?_
        obtain ⟨v15, ev15⟩ : ∃ z : Int32, z = x3 + k5 := ⟨_, rfl⟩
        have hv15 : v15.toInt = x3.toInt + k5.toInt := n_add ev15 (by omega) (by omega)
        refine L_iadd C v15 (oDec_at oLw_0 46 rfl) ev15 ?_
        refine L_sld C ⟨by omega, by omega⟩ (oDec_at oLw_0 47 rfl) ?_
        obtain ⟨v16, ev16⟩ : ∃ z : Int32, xs v15.toNatClampNeg = z := ⟨_, rfl⟩
        rw [ev16]
        have rv16 := n_rng v16
        refine L_callVi C oCl11 rfl miX11_feed mlL_13 (ct_X11_feed l E (t) v8 v10 v12 v14 v16 ) (by decide) rfl rfl rfl (Nat.le_of_ble_eq_true rfl) (oDec_at oLw_0 48 rfl) (fun r18 u17 pu17 fu17 => ?_)
        try dsimp only at pu17
        clear pu17
        refine L_pc C 233 rfl ?_
        refine L_pop C (oDec_at oLw_0 49 rfl) rfl ?_
        refine L_aload_n C (j := 2) (oDec_at oLw_1 0 rfl) rfl rfl ?_
        refine L_aload_n C (j := 0) (oDec_at oLw_1 1 rfl) rfl rfl ?_
        refine L_iload_n C (j := 3) (oDec_at oLw_1 2 rfl) rfl rfl ?_
        refine L_iconst C (oDec_at oLw_1 3 rfl) (v := k1) (by rw [qk1]; rfl) ?_
        obtain ⟨v19, ev19⟩ : ∃ z : Int32, z = x3 + k1 := ⟨_, rfl⟩
        have hv19 : v19.toInt = x3.toInt + k1.toInt := n_add ev19 (by omega) (by omega)
        refine L_iadd C v19 (oDec_at oLw_1 4 rfl) ev19 ?_
        refine L_sld C ⟨by omega, by omega⟩ (oDec_at oLw_1 5 rfl) ?_
        rw [show xs v19.toNatClampNeg = v8 from by rw [show v19.toNatClampNeg = v7.toNatClampNeg by have q1 := n_nat v19; have q2 := n_nat v7; omega]; exact ev8]
        refine L_aload_n C (j := 0) (oDec_at oLw_1 6 rfl) rfl rfl ?_
        refine L_iload_n C (j := 3) (oDec_at oLw_1 7 rfl) rfl rfl ?_
        refine L_iconst C (oDec_at oLw_1 8 rfl) (v := k2) (by rw [qk2]; rfl) ?_
        obtain ⟨v21, ev21⟩ : ∃ z : Int32, z = x3 + k2 := ⟨_, rfl⟩
        have hv21 : v21.toInt = x3.toInt + k2.toInt := n_add ev21 (by omega) (by omega)
        refine L_iadd C v21 (oDec_at oLw_1 9 rfl) ev21 ?_
        refine L_sld C ⟨by omega, by omega⟩ (oDec_at oLw_1 10 rfl) ?_
        rw [show xs v21.toNatClampNeg = v10 from by rw [show v21.toNatClampNeg = v9.toNatClampNeg by have q1 := n_nat v21; have q2 := n_nat v9; omega]; exact ev10]
        refine L_aload_n C (j := 0) (oDec_at oLw_1 11 rfl) rfl rfl ?_
        refine L_iload_n C (j := 3) (oDec_at oLw_1 12 rfl) rfl rfl ?_
        refine L_iconst C (oDec_at oLw_1 13 rfl) (v := k3) (by rw [qk3]; rfl) ?_
        obtain ⟨v23, ev23⟩ : ∃ z : Int32, z = x3 + k3 := ⟨_, rfl⟩
        have hv23 : v23.toInt = x3.toInt + k3.toInt := n_add ev23 (by omega) (by omega)
        refine L_iadd C v23 (oDec_at oLw_1 14 rfl) ev23 ?_
        refine L_sld C ⟨by omega, by omega⟩ (oDec_at oLw_1 15 rfl) ?_
        rw [show xs v23.toNatClampNeg = v12 from by rw [show v23.toNatClampNeg = v11.toNatClampNeg by have q1 := n_nat v23; have q2 := n_nat v11; omega]; exact ev12]
        refine L_aload_n C (j := 0) (oDec_at oLw_1 16 rfl) rfl rfl ?_
        refine L_iload_n C (j := 3) (oDec_at oLw_1 17 rfl) rfl rfl ?_
        refine L_iconst C (oDec_at oLw_1 18 rfl) (v := k4) (by rw [qk4]; rfl) ?_
        obtain ⟨v25, ev25⟩ : ∃ z : Int32, z = x3 + k4 := ⟨_, rfl⟩
        have hv25 : v25.toInt = x3.toInt + k4.toInt := n_add ev25 (by omega) (by omega)
        refine L_iadd C v25 (oDec_at oLw_1 19 rfl) ev25 ?_
        refine L_sld C ⟨by omega, by omega⟩ (oDec_at oLw_1 20 rfl) ?_
        rw [show xs v25.toNatClampNeg = v14 from by rw [show v25.toNatClampNeg = v13.toNatClampNeg by have q1 := n_nat v25; have q2 := n_nat v13; omega]; exact ev14]
        refine L_aload_n C (j := 0) (oDec_at oLw_1 21 rfl) rfl rfl ?_
        refine L_iload_n C (j := 3) (oDec_at oLw_1 22 rfl) rfl rfl ?_
        refine L_iconst C (oDec_at oLw_1 23 rfl) (v := k5) (by rw [qk5]; rfl) ?_
        obtain ⟨v27, ev27⟩ : ∃ z : Int32, z = x3 + k5 := ⟨_, rfl⟩
        have hv27 : v27.toInt = x3.toInt + k5.toInt := n_add ev27 (by omega) (by omega)
        refine L_iadd C v27 (oDec_at oLw_1 24 rfl) ev27 ?_
        refine L_sld C ⟨by omega, by omega⟩ (oDec_at oLw_1 25 rfl) ?_
        rw [show xs v27.toNatClampNeg = v16 from by rw [show v27.toNatClampNeg = v15.toNatClampNeg by have q1 := n_nat v27; have q2 := n_nat v15; omega]; exact ev16]
        have lk29 : ((u17).1 71 1).toInt = (t.1 71 1).toInt := congrArg Int32.toInt ((fu17 71 1 rfl).1)
        refine L_callVi C oCl12 rfl miX12_feed mlL_17 (ct_X12_feed l E (u17) v8 v10 v12 v14 v16 ) (by decide) rfl rfl rfl (Nat.le_of_ble_eq_true rfl) (oDec_at oLw_1 26 rfl) (fun r31 u30 pu30 fu30 => ?_)
        try dsimp only at pu30
        clear pu30
        refine L_pc C 263 rfl ?_
        refine L_pop C (oDec_at oLw_1 27 rfl) rfl ?_
        refine L_goto C (tgt := 1453) (oDec_at oLw_1 28 rfl) (by decide) ?_
        obtain ⟨v32, ev32⟩ : ∃ z : Int32, x3 + Int32.ofInt 6 = z := ⟨_, rfl⟩
        have hv32 : v32.toInt = x3.toInt + 6 := n_inc ev32 (by decide) (by omega) (by omega)
        refine L_iinc C (j := 3) (lv' := [(0, .ref b), (1, .ref (oad E 0)), (2, .ref (oad E 71)), (3, .int v32)]) v32 [1, 2, 3, 0] (oDec_at oLw_20 21 rfl) rfl ev32 (by decide) rfl ?_
        refine L_goto C (tgt := 18) (oDec_at oLw_20 22 rfl) (by decide) ?_
        have lk33 : ((u30).1 71 38).toInt = (t.1 71 38).toInt := congrArg Int32.toInt (((fu30 71 38 rfl).1).trans ((fu17 71 38 rfl).1))
        have lk34 : ((u30).1 71 42).toInt = (t.1 71 42).toInt := congrArg Int32.toInt (((fu30 71 42 rfl).1).trans ((fu17 71 42 rfl).1))
        exact ih (n - 1) (by omega) (u30) v32 (oLT_fr fu30 rfl (oLT_fr fu17 rfl iv0)) (by omega) (oBI_fr fu30 rfl (oBI_fr fu17 rfl iv2)) (by omega) (by omega)
      by_cases cd6_1 : v5.toInt = 1
      · refine L_tableIn C 267 (oDec_at oLw_0 21 rfl) (by omega) (by omega) (by rw [cd6_1]; rfl) (by decide) ?_
        skip
        refine L_aload_n C (j := 1) (oDec_at oLw_1 29 rfl) rfl rfl ?_
        refine L_aload_n C (j := 0) (oDec_at oLw_1 30 rfl) rfl rfl ?_
        refine L_iload_n C (j := 3) (oDec_at oLw_1 31 rfl) rfl rfl ?_
        refine L_iconst C (oDec_at oLw_1 32 rfl) (v := k1) (by rw [qk1]; rfl) ?_
        obtain ⟨v35, ev35⟩ : ∃ z : Int32, z = x3 + k1 := ⟨_, rfl⟩
        have hv35 : v35.toInt = x3.toInt + k1.toInt := n_add ev35 (by omega) (by omega)
        refine L_iadd C v35 (oDec_at oLw_1 33 rfl) ev35 ?_
        refine L_sld C ⟨by omega, by omega⟩ (oDec_at oLw_1 34 rfl) ?_
        obtain ⟨v36, ev36⟩ : ∃ z : Int32, xs v35.toNatClampNeg = z := ⟨_, rfl⟩
        rw [ev36]
        have rv36 := n_rng v36
        refine L_callVi C oCl11 rfl miX11_end mlL_18 (ct_X11_end l E (t) v36 ) (by decide) rfl rfl rfl (Nat.le_of_ble_eq_true rfl) (oDec_at oLw_1 35 rfl) (fun r38 u37 pu37 fu37 => ?_)
        try dsimp only at pu37
        obtain ⟨pu37_0, pu37_1⟩ := pu37
        clear pu37_0
        clear pu37_1
        refine L_pc C 276 rfl ?_
        refine L_pop C (oDec_at oLw_1 36 rfl) rfl ?_
        refine L_aload_n C (j := 2) (oDec_at oLw_1 37 rfl) rfl rfl ?_
        refine L_aload_n C (j := 0) (oDec_at oLw_1 38 rfl) rfl rfl ?_
        refine L_iload_n C (j := 3) (oDec_at oLw_1 39 rfl) rfl rfl ?_
        refine L_iconst C (oDec_at oLw_1 40 rfl) (v := k1) (by rw [qk1]; rfl) ?_
        obtain ⟨v39, ev39⟩ : ∃ z : Int32, z = x3 + k1 := ⟨_, rfl⟩
        have hv39 : v39.toInt = x3.toInt + k1.toInt := n_add ev39 (by omega) (by omega)
        refine L_iadd C v39 (oDec_at oLw_1 41 rfl) ev39 ?_
        refine L_sld C ⟨by omega, by omega⟩ (oDec_at oLw_1 42 rfl) ?_
        rw [show xs v39.toNatClampNeg = v36 from by rw [show v39.toNatClampNeg = v35.toNatClampNeg by have q1 := n_nat v39; have q2 := n_nat v35; omega]; exact ev36]
        have lk41 : ((u37).1 71 1).toInt = (t.1 71 1).toInt := congrArg Int32.toInt ((fu37 71 1 rfl).1)
        refine L_callVi C oCl12 rfl miX12_end mlL_22 (ct_X12_end l E (u37) v36 ) (by decide) rfl rfl rfl (Nat.le_of_ble_eq_true rfl) (oDec_at oLw_1 43 rfl) (fun r43 u42 pu42 fu42 => ?_)
        try dsimp only at pu42
        obtain ⟨pu42_0, pu42_1⟩ := pu42
        clear pu42_0
        clear pu42_1
        refine L_pc C 286 rfl ?_
        refine L_pop C (oDec_at oLw_1 44 rfl) rfl ?_
        refine L_goto C (tgt := 1453) (oDec_at oLw_1 45 rfl) (by decide) ?_
        obtain ⟨v44, ev44⟩ : ∃ z : Int32, x3 + Int32.ofInt 6 = z := ⟨_, rfl⟩
        have hv44 : v44.toInt = x3.toInt + 6 := n_inc ev44 (by decide) (by omega) (by omega)
        refine L_iinc C (j := 3) (lv' := [(0, .ref b), (1, .ref (oad E 0)), (2, .ref (oad E 71)), (3, .int v44)]) v44 [1, 2, 3, 0] (oDec_at oLw_20 21 rfl) rfl ev44 (by decide) rfl ?_
        refine L_goto C (tgt := 18) (oDec_at oLw_20 22 rfl) (by decide) ?_
        have lk45 : ((u42).1 71 38).toInt = (t.1 71 38).toInt := congrArg Int32.toInt (((fu42 71 38 rfl).1).trans ((fu37 71 38 rfl).1))
        have lk46 : ((u42).1 71 42).toInt = (t.1 71 42).toInt := congrArg Int32.toInt (((fu42 71 42 rfl).1).trans ((fu37 71 42 rfl).1))
        exact ih (n - 1) (by omega) (u42) v44 (oLT_fr fu42 rfl (oLT_fr fu37 rfl iv0)) (by omega) (oBI_fr fu42 rfl (oBI_fr fu37 rfl iv2)) (by omega) (by omega)
      by_cases cd6_2 : v5.toInt = 2
      · refine L_tableIn C 290 (oDec_at oLw_0 21 rfl) (by omega) (by omega) (by rw [cd6_2]; rfl) (by decide) ?_
        skip
        refine L_aload_n C (j := 1) (oDec_at oLw_1 46 rfl) rfl rfl ?_
        refine L_callVi C oCl11 rfl miX11_line mlL_23 (ct_X11_line l E (t)  ) (by decide) rfl rfl rfl (Nat.le_of_ble_eq_true rfl) (oDec_at oLw_1 47 rfl) (fun r48 u47 pu47 fu47 => ?_)
        try dsimp only at pu47
        clear pu47
        refine L_pc C 294 rfl ?_
        refine L_pop C (oDec_at oLw_1 48 rfl) rfl ?_
        refine L_aload_n C (j := 2) (oDec_at oLw_1 49 rfl) rfl rfl ?_
        have lk49 : ((u47).1 71 38).toInt = (t.1 71 38).toInt := congrArg Int32.toInt ((fu47 71 38 rfl).1)
        have lk50 : ((u47).1 71 42).toInt = (t.1 71 42).toInt := congrArg Int32.toInt ((fu47 71 42 rfl).1)
        refine L_callVi C oCl12 rfl miX12_line mlL_27 (ct_X12_line l E (u47)  (oLT_fr fu47 rfl iv0) (by omega)) (by decide) rfl rfl rfl (Nat.le_of_ble_eq_true rfl) (oDec_at oLw_2 0 rfl) (fun r52 u51 pu51 fu51 => ?_)
        try dsimp only at pu51
        obtain ⟨pu51_0, pu51_1, pu51_2⟩ := pu51
        clear pu51_2
        refine L_pc C 299 rfl ?_
        refine L_pop C (oDec_at oLw_2 1 rfl) rfl ?_
        refine L_goto C (tgt := 1453) (oDec_at oLw_2 2 rfl) (by decide) ?_
        obtain ⟨v53, ev53⟩ : ∃ z : Int32, x3 + Int32.ofInt 6 = z := ⟨_, rfl⟩
        have hv53 : v53.toInt = x3.toInt + 6 := n_inc ev53 (by decide) (by omega) (by omega)
        refine L_iinc C (j := 3) (lv' := [(0, .ref b), (1, .ref (oad E 0)), (2, .ref (oad E 71)), (3, .int v53)]) v53 [1, 2, 3, 0] (oDec_at oLw_20 21 rfl) rfl ev53 (by decide) rfl ?_
        refine L_goto C (tgt := 18) (oDec_at oLw_20 22 rfl) (by decide) ?_
        exact ih (n - 1) (by omega) (u51) v53 pu51_0 (by omega) (oBI_fr fu51 rfl (oBI_fr fu47 rfl iv2)) (by omega) (by omega)
      by_cases cd6_3 : v5.toInt = 3
      · refine L_tableIn C 303 (oDec_at oLw_0 21 rfl) (by omega) (by omega) (by rw [cd6_3]; rfl) (by decide) ?_
        skip
        refine L_aload_n C (j := 1) (oDec_at oLw_2 3 rfl) rfl rfl ?_
        refine L_callVi C oCl11 rfl miX11_book mlL_28 (ct_X11_book l E (t)  ) (by decide) rfl rfl rfl (Nat.le_of_ble_eq_true rfl) (oDec_at oLw_2 4 rfl) (fun r55 u54 pu54 fu54 => ?_)
        try dsimp only at pu54
        clear pu54
        refine L_pc C 307 rfl ?_
        refine L_pop C (oDec_at oLw_2 5 rfl) rfl ?_
        refine L_aload_n C (j := 2) (oDec_at oLw_2 6 rfl) rfl rfl ?_
        refine L_callVi C oCl12 rfl miX12_book mlL_31 (ct_X12_book l E (u54)  (oBI_fr fu54 rfl iv2)) (by decide) rfl rfl rfl (Nat.le_of_ble_eq_true rfl) (oDec_at oLw_2 7 rfl) (fun r57 u56 pu56 fu56 => ?_)
        try dsimp only at pu56
        obtain ⟨pu56_0, pu56_1⟩ := pu56
        clear pu56_1
        refine L_pc C 312 rfl ?_
        refine L_pop C (oDec_at oLw_2 8 rfl) rfl ?_
        refine L_goto C (tgt := 1453) (oDec_at oLw_2 9 rfl) (by decide) ?_
        obtain ⟨v58, ev58⟩ : ∃ z : Int32, x3 + Int32.ofInt 6 = z := ⟨_, rfl⟩
        have hv58 : v58.toInt = x3.toInt + 6 := n_inc ev58 (by decide) (by omega) (by omega)
        refine L_iinc C (j := 3) (lv' := [(0, .ref b), (1, .ref (oad E 0)), (2, .ref (oad E 71)), (3, .int v58)]) v58 [1, 2, 3, 0] (oDec_at oLw_20 21 rfl) rfl ev58 (by decide) rfl ?_
        refine L_goto C (tgt := 18) (oDec_at oLw_20 22 rfl) (by decide) ?_
        have lk59 : ((u56).1 71 38).toInt = (t.1 71 38).toInt := congrArg Int32.toInt (((fu56 71 38 rfl).1).trans ((fu54 71 38 rfl).1))
        have lk60 : ((u56).1 71 42).toInt = (t.1 71 42).toInt := congrArg Int32.toInt (((fu56 71 42 rfl).1).trans ((fu54 71 42 rfl).1))
        exact ih (n - 1) (by omega) (u56) v58 (oLT_fr fu56 rfl (oLT_fr fu54 rfl iv0)) (by omega) pu56_0 (by omega) (by omega)
      by_cases cd6_4 : v5.toInt = 4
      · refine L_tableIn C 316 (oDec_at oLw_0 21 rfl) (by omega) (by omega) (by rw [cd6_4]; rfl) (by decide) ?_
        skip
        refine L_aload_n C (j := 1) (oDec_at oLw_2 10 rfl) rfl rfl ?_
        refine L_aload_n C (j := 0) (oDec_at oLw_2 11 rfl) rfl rfl ?_
        refine L_iload_n C (j := 3) (oDec_at oLw_2 12 rfl) rfl rfl ?_
        refine L_iconst C (oDec_at oLw_2 13 rfl) (v := k1) (by rw [qk1]; rfl) ?_
        obtain ⟨v61, ev61⟩ : ∃ z : Int32, z = x3 + k1 := ⟨_, rfl⟩
        have hv61 : v61.toInt = x3.toInt + k1.toInt := n_add ev61 (by omega) (by omega)
        refine L_iadd C v61 (oDec_at oLw_2 14 rfl) ev61 ?_
        refine L_sld C ⟨by omega, by omega⟩ (oDec_at oLw_2 15 rfl) ?_
        obtain ⟨v62, ev62⟩ : ∃ z : Int32, xs v61.toNatClampNeg = z := ⟨_, rfl⟩
        rw [ev62]
        have rv62 := n_rng v62
        refine L_callVi C oCl11 rfl miX11_fault mlL_32 (ct_X11_fault l E (t) v62 ) (by decide) rfl rfl rfl (Nat.le_of_ble_eq_true rfl) (oDec_at oLw_2 16 rfl) (fun r64 u63 pu63 fu63 => ?_)
        try dsimp only at pu63
        have hxu63 := oFr_nil fu63; subst hxu63
        refine L_pc C 325 rfl ?_
        refine L_pop C (oDec_at oLw_2 17 rfl) rfl ?_
        refine L_aload_n C (j := 2) (oDec_at oLw_2 18 rfl) rfl rfl ?_
        refine L_aload_n C (j := 0) (oDec_at oLw_2 19 rfl) rfl rfl ?_
        refine L_iload_n C (j := 3) (oDec_at oLw_2 20 rfl) rfl rfl ?_
        refine L_iconst C (oDec_at oLw_2 21 rfl) (v := k1) (by rw [qk1]; rfl) ?_
        obtain ⟨v65, ev65⟩ : ∃ z : Int32, z = x3 + k1 := ⟨_, rfl⟩
        have hv65 : v65.toInt = x3.toInt + k1.toInt := n_add ev65 (by omega) (by omega)
        refine L_iadd C v65 (oDec_at oLw_2 22 rfl) ev65 ?_
        refine L_sld C ⟨by omega, by omega⟩ (oDec_at oLw_2 23 rfl) ?_
        rw [show xs v65.toNatClampNeg = v62 from by rw [show v65.toNatClampNeg = v61.toNatClampNeg by have q1 := n_nat v65; have q2 := n_nat v61; omega]; exact ev62]
        refine L_callVi C oCl12 rfl miX12_fault mlL_36 (ct_X12_fault l E (t) v62 ) (by decide) rfl rfl rfl (Nat.le_of_ble_eq_true rfl) (oDec_at oLw_2 24 rfl) (fun r68 u67 pu67 fu67 => ?_)
        try dsimp only at pu67
        have hxu67 := oFr_nil fu67; subst hxu67
        refine L_pc C 335 rfl ?_
        refine L_pop C (oDec_at oLw_2 25 rfl) rfl ?_
        refine L_goto C (tgt := 1453) (oDec_at oLw_2 26 rfl) (by decide) ?_
        obtain ⟨v69, ev69⟩ : ∃ z : Int32, x3 + Int32.ofInt 6 = z := ⟨_, rfl⟩
        have hv69 : v69.toInt = x3.toInt + 6 := n_inc ev69 (by decide) (by omega) (by omega)
        refine L_iinc C (j := 3) (lv' := [(0, .ref b), (1, .ref (oad E 0)), (2, .ref (oad E 71)), (3, .int v69)]) v69 [1, 2, 3, 0] (oDec_at oLw_20 21 rfl) rfl ev69 (by decide) rfl ?_
        refine L_goto C (tgt := 18) (oDec_at oLw_20 22 rfl) (by decide) ?_
        exact ih (n - 1) (by omega) (t) v69 iv0 (by omega) iv2 (by omega) (by omega)
      by_cases cd6_5 : v5.toInt = 5
      · refine L_tableIn C 339 (oDec_at oLw_0 21 rfl) (by omega) (by omega) (by rw [cd6_5]; rfl) (by decide) ?_
        skip
        refine L_aload_n C (j := 1) (oDec_at oLw_2 27 rfl) rfl rfl ?_
        refine L_aload_n C (j := 0) (oDec_at oLw_2 28 rfl) rfl rfl ?_
        refine L_iload_n C (j := 3) (oDec_at oLw_2 29 rfl) rfl rfl ?_
        refine L_iconst C (oDec_at oLw_2 30 rfl) (v := k1) (by rw [qk1]; rfl) ?_
        obtain ⟨v70, ev70⟩ : ∃ z : Int32, z = x3 + k1 := ⟨_, rfl⟩
        have hv70 : v70.toInt = x3.toInt + k1.toInt := n_add ev70 (by omega) (by omega)
        refine L_iadd C v70 (oDec_at oLw_2 31 rfl) ev70 ?_
        refine L_sld C ⟨by omega, by omega⟩ (oDec_at oLw_2 32 rfl) ?_
        obtain ⟨v71, ev71⟩ : ∃ z : Int32, xs v70.toNatClampNeg = z := ⟨_, rfl⟩
        rw [ev71]
        have rv71 := n_rng v71
        refine L_callVi C oCl11 rfl miX11_has mlL_37 (ct_X11_has l E (t) v71 ) (by decide) rfl rfl rfl (Nat.le_of_ble_eq_true rfl) (oDec_at oLw_2 33 rfl) (fun r73 u72 pu72 fu72 => ?_)
        try dsimp only at pu72
        have hxu72 := oFr_nil fu72; subst hxu72
        refine L_pc C 348 rfl ?_
        refine L_pop C (oDec_at oLw_2 34 rfl) rfl ?_
        refine L_aload_n C (j := 2) (oDec_at oLw_2 35 rfl) rfl rfl ?_
        refine L_aload_n C (j := 0) (oDec_at oLw_2 36 rfl) rfl rfl ?_
        refine L_iload_n C (j := 3) (oDec_at oLw_2 37 rfl) rfl rfl ?_
        refine L_iconst C (oDec_at oLw_2 38 rfl) (v := k1) (by rw [qk1]; rfl) ?_
        obtain ⟨v74, ev74⟩ : ∃ z : Int32, z = x3 + k1 := ⟨_, rfl⟩
        have hv74 : v74.toInt = x3.toInt + k1.toInt := n_add ev74 (by omega) (by omega)
        refine L_iadd C v74 (oDec_at oLw_2 39 rfl) ev74 ?_
        refine L_sld C ⟨by omega, by omega⟩ (oDec_at oLw_2 40 rfl) ?_
        rw [show xs v74.toNatClampNeg = v71 from by rw [show v74.toNatClampNeg = v70.toNatClampNeg by have q1 := n_nat v74; have q2 := n_nat v70; omega]; exact ev71]
        refine L_callVi C oCl12 rfl miX12_has mlL_40 (ct_X12_has l E (t) v71 ) (by decide) rfl rfl rfl (Nat.le_of_ble_eq_true rfl) (oDec_at oLw_2 41 rfl) (fun r77 u76 pu76 fu76 => ?_)
        try dsimp only at pu76
        have hxu76 := oFr_nil fu76; subst hxu76
        refine L_pc C 358 rfl ?_
        refine L_pop C (oDec_at oLw_2 42 rfl) rfl ?_
        refine L_goto C (tgt := 1453) (oDec_at oLw_2 43 rfl) (by decide) ?_
        obtain ⟨v78, ev78⟩ : ∃ z : Int32, x3 + Int32.ofInt 6 = z := ⟨_, rfl⟩
        have hv78 : v78.toInt = x3.toInt + 6 := n_inc ev78 (by decide) (by omega) (by omega)
        refine L_iinc C (j := 3) (lv' := [(0, .ref b), (1, .ref (oad E 0)), (2, .ref (oad E 71)), (3, .int v78)]) v78 [1, 2, 3, 0] (oDec_at oLw_20 21 rfl) rfl ev78 (by decide) rfl ?_
        refine L_goto C (tgt := 18) (oDec_at oLw_20 22 rfl) (by decide) ?_
        exact ih (n - 1) (by omega) (t) v78 iv0 (by omega) iv2 (by omega) (by omega)
      by_cases cd6_6 : v5.toInt = 6
      · refine L_tableIn C 362 (oDec_at oLw_0 21 rfl) (by omega) (by omega) (by rw [cd6_6]; rfl) (by decide) ?_
        skip
        refine L_aload_n C (j := 1) (oDec_at oLw_2 44 rfl) rfl rfl ?_
        refine L_aload_n C (j := 0) (oDec_at oLw_2 45 rfl) rfl rfl ?_
        refine L_iload_n C (j := 3) (oDec_at oLw_2 46 rfl) rfl rfl ?_
        refine L_iconst C (oDec_at oLw_2 47 rfl) (v := k1) (by rw [qk1]; rfl) ?_
        obtain ⟨v79, ev79⟩ : ∃ z : Int32, z = x3 + k1 := ⟨_, rfl⟩
        have hv79 : v79.toInt = x3.toInt + k1.toInt := n_add ev79 (by omega) (by omega)
        refine L_iadd C v79 (oDec_at oLw_2 48 rfl) ev79 ?_
        refine L_sld C ⟨by omega, by omega⟩ (oDec_at oLw_2 49 rfl) ?_
        obtain ⟨v80, ev80⟩ : ∃ z : Int32, xs v79.toNatClampNeg = z := ⟨_, rfl⟩
        rw [ev80]
        have rv80 := n_rng v80
        refine L_aload_n C (j := 0) (oDec_at oLw_3 0 rfl) rfl rfl ?_
        refine L_iload_n C (j := 3) (oDec_at oLw_3 1 rfl) rfl rfl ?_
        refine L_iconst C (oDec_at oLw_3 2 rfl) (v := k2) (by rw [qk2]; rfl) ?_
        obtain ⟨v81, ev81⟩ : ∃ z : Int32, z = x3 + k2 := ⟨_, rfl⟩
        have hv81 : v81.toInt = x3.toInt + k2.toInt := n_add ev81 (by omega) (by omega)
        refine L_iadd C v81 (oDec_at oLw_3 3 rfl) ev81 ?_
        refine L_sld C ⟨by omega, by omega⟩ (oDec_at oLw_3 4 rfl) ?_
        obtain ⟨v82, ev82⟩ : ∃ z : Int32, xs v81.toNatClampNeg = z := ⟨_, rfl⟩
        rw [ev82]
        have rv82 := n_rng v82
        refine L_callVi C oCl11 rfl miX11_letter mlL_41 (ct_X11_letter l E (t) v80 v82 ) (by decide) rfl rfl rfl (Nat.le_of_ble_eq_true rfl) (oDec_at oLw_3 5 rfl) (fun r84 u83 pu83 fu83 => ?_)
        try dsimp only at pu83
        have hxu83 := oFr_nil fu83; subst hxu83
        refine L_pc C 376 rfl ?_
        refine L_pop C (oDec_at oLw_3 6 rfl) rfl ?_
        refine L_aload_n C (j := 2) (oDec_at oLw_3 7 rfl) rfl rfl ?_
        refine L_aload_n C (j := 0) (oDec_at oLw_3 8 rfl) rfl rfl ?_
        refine L_iload_n C (j := 3) (oDec_at oLw_3 9 rfl) rfl rfl ?_
        refine L_iconst C (oDec_at oLw_3 10 rfl) (v := k1) (by rw [qk1]; rfl) ?_
        obtain ⟨v85, ev85⟩ : ∃ z : Int32, z = x3 + k1 := ⟨_, rfl⟩
        have hv85 : v85.toInt = x3.toInt + k1.toInt := n_add ev85 (by omega) (by omega)
        refine L_iadd C v85 (oDec_at oLw_3 11 rfl) ev85 ?_
        refine L_sld C ⟨by omega, by omega⟩ (oDec_at oLw_3 12 rfl) ?_
        rw [show xs v85.toNatClampNeg = v80 from by rw [show v85.toNatClampNeg = v79.toNatClampNeg by have q1 := n_nat v85; have q2 := n_nat v79; omega]; exact ev80]
        refine L_aload_n C (j := 0) (oDec_at oLw_3 13 rfl) rfl rfl ?_
        refine L_iload_n C (j := 3) (oDec_at oLw_3 14 rfl) rfl rfl ?_
        refine L_iconst C (oDec_at oLw_3 15 rfl) (v := k2) (by rw [qk2]; rfl) ?_
        obtain ⟨v87, ev87⟩ : ∃ z : Int32, z = x3 + k2 := ⟨_, rfl⟩
        have hv87 : v87.toInt = x3.toInt + k2.toInt := n_add ev87 (by omega) (by omega)
        refine L_iadd C v87 (oDec_at oLw_3 16 rfl) ev87 ?_
        refine L_sld C ⟨by omega, by omega⟩ (oDec_at oLw_3 17 rfl) ?_
        rw [show xs v87.toNatClampNeg = v82 from by rw [show v87.toNatClampNeg = v81.toNatClampNeg by have q1 := n_nat v87; have q2 := n_nat v81; omega]; exact ev82]
        refine L_callVi C oCl12 rfl miX12_letter mlL_45 (ct_X12_letter l E (t) v80 v82 ) (by decide) rfl rfl rfl (Nat.le_of_ble_eq_true rfl) (oDec_at oLw_3 18 rfl) (fun r90 u89 pu89 fu89 => ?_)
        try dsimp only at pu89
        have hxu89 := oFr_nil fu89; subst hxu89
        refine L_pc C 391 rfl ?_
        refine L_pop C (oDec_at oLw_3 19 rfl) rfl ?_
        refine L_goto C (tgt := 1453) (oDec_at oLw_3 20 rfl) (by decide) ?_
        obtain ⟨v91, ev91⟩ : ∃ z : Int32, x3 + Int32.ofInt 6 = z := ⟨_, rfl⟩
        have hv91 : v91.toInt = x3.toInt + 6 := n_inc ev91 (by decide) (by omega) (by omega)
        refine L_iinc C (j := 3) (lv' := [(0, .ref b), (1, .ref (oad E 0)), (2, .ref (oad E 71)), (3, .int v91)]) v91 [1, 2, 3, 0] (oDec_at oLw_20 21 rfl) rfl ev91 (by decide) rfl ?_
        refine L_goto C (tgt := 18) (oDec_at oLw_20 22 rfl) (by decide) ?_
        exact ih (n - 1) (by omega) (t) v91 iv0 (by omega) iv2 (by omega) (by omega)
      by_cases cd6_7 : v5.toInt = 7
      · refine L_tableIn C 395 (oDec_at oLw_0 21 rfl) (by omega) (by omega) (by rw [cd6_7]; rfl) (by decide) ?_
        skip
        refine L_aload_n C (j := 1) (oDec_at oLw_3 21 rfl) rfl rfl ?_
        refine L_aload_n C (j := 0) (oDec_at oLw_3 22 rfl) rfl rfl ?_
        refine L_iload_n C (j := 3) (oDec_at oLw_3 23 rfl) rfl rfl ?_
        refine L_iconst C (oDec_at oLw_3 24 rfl) (v := k1) (by rw [qk1]; rfl) ?_
        obtain ⟨v92, ev92⟩ : ∃ z : Int32, z = x3 + k1 := ⟨_, rfl⟩
        have hv92 : v92.toInt = x3.toInt + k1.toInt := n_add ev92 (by omega) (by omega)
        refine L_iadd C v92 (oDec_at oLw_3 25 rfl) ev92 ?_
        refine L_sld C ⟨by omega, by omega⟩ (oDec_at oLw_3 26 rfl) ?_
        obtain ⟨v93, ev93⟩ : ∃ z : Int32, xs v92.toNatClampNeg = z := ⟨_, rfl⟩
        rw [ev93]
        have rv93 := n_rng v93
        refine L_aload_n C (j := 0) (oDec_at oLw_3 27 rfl) rfl rfl ?_
        refine L_iload_n C (j := 3) (oDec_at oLw_3 28 rfl) rfl rfl ?_
        refine L_iconst C (oDec_at oLw_3 29 rfl) (v := k2) (by rw [qk2]; rfl) ?_
        obtain ⟨v94, ev94⟩ : ∃ z : Int32, z = x3 + k2 := ⟨_, rfl⟩
        have hv94 : v94.toInt = x3.toInt + k2.toInt := n_add ev94 (by omega) (by omega)
        refine L_iadd C v94 (oDec_at oLw_3 30 rfl) ev94 ?_
        refine L_sld C ⟨by omega, by omega⟩ (oDec_at oLw_3 31 rfl) ?_
        obtain ⟨v95, ev95⟩ : ∃ z : Int32, xs v94.toNatClampNeg = z := ⟨_, rfl⟩
        rw [ev95]
        have rv95 := n_rng v95
        refine L_callVi C oCl11 rfl miX11_note mlL_46 (ct_X11_note l E (t) v93 v95 ) (by decide) rfl rfl rfl (Nat.le_of_ble_eq_true rfl) (oDec_at oLw_3 32 rfl) (fun r97 u96 pu96 fu96 => ?_)
        try dsimp only at pu96
        have hxu96 := oFr_nil fu96; subst hxu96
        refine L_pc C 409 rfl ?_
        refine L_pop C (oDec_at oLw_3 33 rfl) rfl ?_
        refine L_aload_n C (j := 2) (oDec_at oLw_3 34 rfl) rfl rfl ?_
        refine L_aload_n C (j := 0) (oDec_at oLw_3 35 rfl) rfl rfl ?_
        refine L_iload_n C (j := 3) (oDec_at oLw_3 36 rfl) rfl rfl ?_
        refine L_iconst C (oDec_at oLw_3 37 rfl) (v := k1) (by rw [qk1]; rfl) ?_
        obtain ⟨v98, ev98⟩ : ∃ z : Int32, z = x3 + k1 := ⟨_, rfl⟩
        have hv98 : v98.toInt = x3.toInt + k1.toInt := n_add ev98 (by omega) (by omega)
        refine L_iadd C v98 (oDec_at oLw_3 38 rfl) ev98 ?_
        refine L_sld C ⟨by omega, by omega⟩ (oDec_at oLw_3 39 rfl) ?_
        rw [show xs v98.toNatClampNeg = v93 from by rw [show v98.toNatClampNeg = v92.toNatClampNeg by have q1 := n_nat v98; have q2 := n_nat v92; omega]; exact ev93]
        refine L_aload_n C (j := 0) (oDec_at oLw_3 40 rfl) rfl rfl ?_
        refine L_iload_n C (j := 3) (oDec_at oLw_3 41 rfl) rfl rfl ?_
        refine L_iconst C (oDec_at oLw_3 42 rfl) (v := k2) (by rw [qk2]; rfl) ?_
        obtain ⟨v100, ev100⟩ : ∃ z : Int32, z = x3 + k2 := ⟨_, rfl⟩
        have hv100 : v100.toInt = x3.toInt + k2.toInt := n_add ev100 (by omega) (by omega)
        refine L_iadd C v100 (oDec_at oLw_3 43 rfl) ev100 ?_
        refine L_sld C ⟨by omega, by omega⟩ (oDec_at oLw_3 44 rfl) ?_
        rw [show xs v100.toNatClampNeg = v95 from by rw [show v100.toNatClampNeg = v94.toNatClampNeg by have q1 := n_nat v100; have q2 := n_nat v94; omega]; exact ev95]
        refine L_callVi C oCl12 rfl miX12_note mlL_49 (ct_X12_note l E (t) v93 v95 ) (by decide) rfl rfl rfl (Nat.le_of_ble_eq_true rfl) (oDec_at oLw_3 45 rfl) (fun r103 u102 pu102 fu102 => ?_)
        try dsimp only at pu102
        have hxu102 := oFr_nil fu102; subst hxu102
        refine L_pc C 424 rfl ?_
        refine L_pop C (oDec_at oLw_3 46 rfl) rfl ?_
        refine L_goto C (tgt := 1453) (oDec_at oLw_3 47 rfl) (by decide) ?_
        obtain ⟨v104, ev104⟩ : ∃ z : Int32, x3 + Int32.ofInt 6 = z := ⟨_, rfl⟩
        have hv104 : v104.toInt = x3.toInt + 6 := n_inc ev104 (by decide) (by omega) (by omega)
        refine L_iinc C (j := 3) (lv' := [(0, .ref b), (1, .ref (oad E 0)), (2, .ref (oad E 71)), (3, .int v104)]) v104 [1, 2, 3, 0] (oDec_at oLw_20 21 rfl) rfl ev104 (by decide) rfl ?_
        refine L_goto C (tgt := 18) (oDec_at oLw_20 22 rfl) (by decide) ?_
        exact ih (n - 1) (by omega) (t) v104 iv0 (by omega) iv2 (by omega) (by omega)
      by_cases cd6_8 : v5.toInt = 8
      · refine L_tableIn C 428 (oDec_at oLw_0 21 rfl) (by omega) (by omega) (by rw [cd6_8]; rfl) (by decide) ?_
        skip
        refine L_aload_n C (j := 1) (oDec_at oLw_3 48 rfl) rfl rfl ?_
        refine L_aload_n C (j := 0) (oDec_at oLw_3 49 rfl) rfl rfl ?_
        refine L_iload_n C (j := 3) (oDec_at oLw_4 0 rfl) rfl rfl ?_
        refine L_iconst C (oDec_at oLw_4 1 rfl) (v := k1) (by rw [qk1]; rfl) ?_
        obtain ⟨v105, ev105⟩ : ∃ z : Int32, z = x3 + k1 := ⟨_, rfl⟩
        have hv105 : v105.toInt = x3.toInt + k1.toInt := n_add ev105 (by omega) (by omega)
        refine L_iadd C v105 (oDec_at oLw_4 2 rfl) ev105 ?_
        refine L_sld C ⟨by omega, by omega⟩ (oDec_at oLw_4 3 rfl) ?_
        obtain ⟨v106, ev106⟩ : ∃ z : Int32, xs v105.toNatClampNeg = z := ⟨_, rfl⟩
        rw [ev106]
        have rv106 := n_rng v106
        refine L_aload_n C (j := 0) (oDec_at oLw_4 4 rfl) rfl rfl ?_
        refine L_iload_n C (j := 3) (oDec_at oLw_4 5 rfl) rfl rfl ?_
        refine L_iconst C (oDec_at oLw_4 6 rfl) (v := k2) (by rw [qk2]; rfl) ?_
        obtain ⟨v107, ev107⟩ : ∃ z : Int32, z = x3 + k2 := ⟨_, rfl⟩
        have hv107 : v107.toInt = x3.toInt + k2.toInt := n_add ev107 (by omega) (by omega)
        refine L_iadd C v107 (oDec_at oLw_4 7 rfl) ev107 ?_
        refine L_sld C ⟨by omega, by omega⟩ (oDec_at oLw_4 8 rfl) ?_
        obtain ⟨v108, ev108⟩ : ∃ z : Int32, xs v107.toNatClampNeg = z := ⟨_, rfl⟩
        rw [ev108]
        have rv108 := n_rng v108
        refine L_aload_n C (j := 0) (oDec_at oLw_4 9 rfl) rfl rfl ?_
        refine L_iload_n C (j := 3) (oDec_at oLw_4 10 rfl) rfl rfl ?_
        refine L_iconst C (oDec_at oLw_4 11 rfl) (v := k3) (by rw [qk3]; rfl) ?_
        obtain ⟨v109, ev109⟩ : ∃ z : Int32, z = x3 + k3 := ⟨_, rfl⟩
        have hv109 : v109.toInt = x3.toInt + k3.toInt := n_add ev109 (by omega) (by omega)
        refine L_iadd C v109 (oDec_at oLw_4 12 rfl) ev109 ?_
        refine L_sld C ⟨by omega, by omega⟩ (oDec_at oLw_4 13 rfl) ?_
        obtain ⟨v110, ev110⟩ : ∃ z : Int32, xs v109.toNatClampNeg = z := ⟨_, rfl⟩
        rw [ev110]
        have rv110 := n_rng v110
        refine L_callVi C oCl11 rfl miX11_bounds mlL_50 (ct_X11_bounds l E (t) v106 v108 v110 ) (by decide) rfl rfl rfl (Nat.le_of_ble_eq_true rfl) (oDec_at oLw_4 14 rfl) (fun r112 u111 pu111 fu111 => ?_)
        try dsimp only at pu111
        refine L_pc C 447 rfl ?_
        refine L_pop C (oDec_at oLw_4 15 rfl) rfl ?_
        refine L_aload_n C (j := 2) (oDec_at oLw_4 16 rfl) rfl rfl ?_
        refine L_aload_n C (j := 0) (oDec_at oLw_4 17 rfl) rfl rfl ?_
        refine L_iload_n C (j := 3) (oDec_at oLw_4 18 rfl) rfl rfl ?_
        refine L_iconst C (oDec_at oLw_4 19 rfl) (v := k1) (by rw [qk1]; rfl) ?_
        obtain ⟨v113, ev113⟩ : ∃ z : Int32, z = x3 + k1 := ⟨_, rfl⟩
        have hv113 : v113.toInt = x3.toInt + k1.toInt := n_add ev113 (by omega) (by omega)
        refine L_iadd C v113 (oDec_at oLw_4 20 rfl) ev113 ?_
        refine L_sld C ⟨by omega, by omega⟩ (oDec_at oLw_4 21 rfl) ?_
        rw [show xs v113.toNatClampNeg = v106 from by rw [show v113.toNatClampNeg = v105.toNatClampNeg by have q1 := n_nat v113; have q2 := n_nat v105; omega]; exact ev106]
        refine L_aload_n C (j := 0) (oDec_at oLw_4 22 rfl) rfl rfl ?_
        refine L_iload_n C (j := 3) (oDec_at oLw_4 23 rfl) rfl rfl ?_
        refine L_iconst C (oDec_at oLw_4 24 rfl) (v := k2) (by rw [qk2]; rfl) ?_
        obtain ⟨v115, ev115⟩ : ∃ z : Int32, z = x3 + k2 := ⟨_, rfl⟩
        have hv115 : v115.toInt = x3.toInt + k2.toInt := n_add ev115 (by omega) (by omega)
        refine L_iadd C v115 (oDec_at oLw_4 25 rfl) ev115 ?_
        refine L_sld C ⟨by omega, by omega⟩ (oDec_at oLw_4 26 rfl) ?_
        rw [show xs v115.toNatClampNeg = v108 from by rw [show v115.toNatClampNeg = v107.toNatClampNeg by have q1 := n_nat v115; have q2 := n_nat v107; omega]; exact ev108]
        refine L_aload_n C (j := 0) (oDec_at oLw_4 27 rfl) rfl rfl ?_
        refine L_iload_n C (j := 3) (oDec_at oLw_4 28 rfl) rfl rfl ?_
        refine L_iconst C (oDec_at oLw_4 29 rfl) (v := k3) (by rw [qk3]; rfl) ?_
        obtain ⟨v117, ev117⟩ : ∃ z : Int32, z = x3 + k3 := ⟨_, rfl⟩
        have hv117 : v117.toInt = x3.toInt + k3.toInt := n_add ev117 (by omega) (by omega)
        refine L_iadd C v117 (oDec_at oLw_4 30 rfl) ev117 ?_
        refine L_sld C ⟨by omega, by omega⟩ (oDec_at oLw_4 31 rfl) ?_
        rw [show xs v117.toNatClampNeg = v110 from by rw [show v117.toNatClampNeg = v109.toNatClampNeg by have q1 := n_nat v117; have q2 := n_nat v109; omega]; exact ev110]
        refine L_callVi C oCl12 rfl miX12_bounds mlL_54 (ct_X12_bounds l E (u111) v106 v108 v110 ) (by decide) rfl rfl rfl (Nat.le_of_ble_eq_true rfl) (oDec_at oLw_4 32 rfl) (fun r120 u119 pu119 fu119 => ?_)
        try dsimp only at pu119
        refine L_pc C 467 rfl ?_
        refine L_pop C (oDec_at oLw_4 33 rfl) rfl ?_
        refine L_goto C (tgt := 1453) (oDec_at oLw_4 34 rfl) (by decide) ?_
        obtain ⟨v121, ev121⟩ : ∃ z : Int32, x3 + Int32.ofInt 6 = z := ⟨_, rfl⟩
        have hv121 : v121.toInt = x3.toInt + 6 := n_inc ev121 (by decide) (by omega) (by omega)
        refine L_iinc C (j := 3) (lv' := [(0, .ref b), (1, .ref (oad E 0)), (2, .ref (oad E 71)), (3, .int v121)]) v121 [1, 2, 3, 0] (oDec_at oLw_20 21 rfl) rfl ev121 (by decide) rfl ?_
        refine L_goto C (tgt := 18) (oDec_at oLw_20 22 rfl) (by decide) ?_
        have lk122 : ((u119).1 71 38).toInt = (t.1 71 38).toInt := congrArg Int32.toInt (((fu119 71 38 rfl).1).trans ((fu111 71 38 rfl).1))
        have lk123 : ((u119).1 71 42).toInt = (t.1 71 42).toInt := congrArg Int32.toInt (((fu119 71 42 rfl).1).trans ((fu111 71 42 rfl).1))
        exact ih (n - 1) (by omega) (u119) v121 (oLT_fr fu119 rfl (oLT_fr fu111 rfl iv0)) (by omega) (oBI_fr fu119 rfl (oBI_fr fu111 rfl iv2)) (by omega) (by omega)
      by_cases cd6_9 : v5.toInt = 9
      · refine L_tableIn C 471 (oDec_at oLw_0 21 rfl) (by omega) (by omega) (by rw [cd6_9]; rfl) (by decide) ?_
        skip
        refine L_aload_n C (j := 1) (oDec_at oLw_4 35 rfl) rfl rfl ?_
        refine L_aload_n C (j := 0) (oDec_at oLw_4 36 rfl) rfl rfl ?_
        refine L_iload_n C (j := 3) (oDec_at oLw_4 37 rfl) rfl rfl ?_
        refine L_iconst C (oDec_at oLw_4 38 rfl) (v := k1) (by rw [qk1]; rfl) ?_
        obtain ⟨v124, ev124⟩ : ∃ z : Int32, z = x3 + k1 := ⟨_, rfl⟩
        have hv124 : v124.toInt = x3.toInt + k1.toInt := n_add ev124 (by omega) (by omega)
        refine L_iadd C v124 (oDec_at oLw_4 39 rfl) ev124 ?_
        refine L_sld C ⟨by omega, by omega⟩ (oDec_at oLw_4 40 rfl) ?_
        obtain ⟨v125, ev125⟩ : ∃ z : Int32, xs v124.toNatClampNeg = z := ⟨_, rfl⟩
        rw [ev125]
        have rv125 := n_rng v125
        refine L_aload_n C (j := 0) (oDec_at oLw_4 41 rfl) rfl rfl ?_
        refine L_iload_n C (j := 3) (oDec_at oLw_4 42 rfl) rfl rfl ?_
        refine L_iconst C (oDec_at oLw_4 43 rfl) (v := k2) (by rw [qk2]; rfl) ?_
        obtain ⟨v126, ev126⟩ : ∃ z : Int32, z = x3 + k2 := ⟨_, rfl⟩
        have hv126 : v126.toInt = x3.toInt + k2.toInt := n_add ev126 (by omega) (by omega)
        refine L_iadd C v126 (oDec_at oLw_4 44 rfl) ev126 ?_
        refine L_sld C ⟨by omega, by omega⟩ (oDec_at oLw_4 45 rfl) ?_
        obtain ⟨v127, ev127⟩ : ∃ z : Int32, xs v126.toNatClampNeg = z := ⟨_, rfl⟩
        rw [ev127]
        have rv127 := n_rng v127
        refine L_aload_n C (j := 0) (oDec_at oLw_4 46 rfl) rfl rfl ?_
        refine L_iload_n C (j := 3) (oDec_at oLw_4 47 rfl) rfl rfl ?_
        refine L_iconst C (oDec_at oLw_4 48 rfl) (v := k3) (by rw [qk3]; rfl) ?_
        obtain ⟨v128, ev128⟩ : ∃ z : Int32, z = x3 + k3 := ⟨_, rfl⟩
        have hv128 : v128.toInt = x3.toInt + k3.toInt := n_add ev128 (by omega) (by omega)
        refine L_iadd C v128 (oDec_at oLw_4 49 rfl) ev128 ?_
        refine L_sld C ⟨by omega, by omega⟩ (oDec_at oLw_5 0 rfl) ?_
        obtain ⟨v129, ev129⟩ : ∃ z : Int32, xs v128.toNatClampNeg = z := ⟨_, rfl⟩
        rw [ev129]
        have rv129 := n_rng v129
        refine L_aload_n C (j := 0) (oDec_at oLw_5 1 rfl) rfl rfl ?_
        refine L_iload_n C (j := 3) (oDec_at oLw_5 2 rfl) rfl rfl ?_
        refine L_iconst C (oDec_at oLw_5 3 rfl) (v := k4) (by rw [qk4]; rfl) ?_
        obtain ⟨v130, ev130⟩ : ∃ z : Int32, z = x3 + k4 := ⟨_, rfl⟩
        have hv130 : v130.toInt = x3.toInt + k4.toInt := n_add ev130 (by omega) (by omega)
        refine L_iadd C v130 (oDec_at oLw_5 4 rfl) ev130 ?_
        refine L_sld C ⟨by omega, by omega⟩ (oDec_at oLw_5 5 rfl) ?_
        obtain ⟨v131, ev131⟩ : ∃ z : Int32, xs v130.toNatClampNeg = z := ⟨_, rfl⟩
        rw [ev131]
        have rv131 := n_rng v131
        refine L_aload_n C (j := 0) (oDec_at oLw_5 6 rfl) rfl rfl ?_
        refine L_iload_n C (j := 3) (oDec_at oLw_5 7 rfl) rfl rfl ?_
        refine L_iconst C (oDec_at oLw_5 8 rfl) (v := k5) (by rw [qk5]; rfl) ?_
        obtain ⟨v132, ev132⟩ : ∃ z : Int32, z = x3 + k5 := ⟨_, rfl⟩
        have hv132 : v132.toInt = x3.toInt + k5.toInt := n_add ev132 (by omega) (by omega)
        refine L_iadd C v132 (oDec_at oLw_5 9 rfl) ev132 ?_
        refine L_sld C ⟨by omega, by omega⟩ (oDec_at oLw_5 10 rfl) ?_
        obtain ⟨v133, ev133⟩ : ∃ z : Int32, xs v132.toNatClampNeg = z := ⟨_, rfl⟩
        rw [ev133]
        have rv133 := n_rng v133
        refine L_callVi C oCl11 rfl miX11_code mlL_55 (ct_X11_code l E (t) v125 v127 v129 v131 v133 ) (by decide) rfl rfl rfl (Nat.le_of_ble_eq_true rfl) (oDec_at oLw_5 11 rfl) (fun r135 u134 pu134 fu134 => ?_)
        try dsimp only at pu134
        have hxu134 := oFr_nil fu134; subst hxu134
        refine L_pc C 500 rfl ?_
        refine L_aload_n C (j := 2) (oDec_at oLw_5 12 rfl) rfl rfl ?_
        refine L_aload_n C (j := 0) (oDec_at oLw_5 13 rfl) rfl rfl ?_
        refine L_iload_n C (j := 3) (oDec_at oLw_5 14 rfl) rfl rfl ?_
        refine L_iconst C (oDec_at oLw_5 15 rfl) (v := k1) (by rw [qk1]; rfl) ?_
        obtain ⟨v136, ev136⟩ : ∃ z : Int32, z = x3 + k1 := ⟨_, rfl⟩
        have hv136 : v136.toInt = x3.toInt + k1.toInt := n_add ev136 (by omega) (by omega)
        refine L_iadd C v136 (oDec_at oLw_5 16 rfl) ev136 ?_
        refine L_sld C ⟨by omega, by omega⟩ (oDec_at oLw_5 17 rfl) ?_
        rw [show xs v136.toNatClampNeg = v125 from by rw [show v136.toNatClampNeg = v124.toNatClampNeg by have q1 := n_nat v136; have q2 := n_nat v124; omega]; exact ev125]
        refine L_aload_n C (j := 0) (oDec_at oLw_5 18 rfl) rfl rfl ?_
        refine L_iload_n C (j := 3) (oDec_at oLw_5 19 rfl) rfl rfl ?_
        refine L_iconst C (oDec_at oLw_5 20 rfl) (v := k2) (by rw [qk2]; rfl) ?_
        obtain ⟨v138, ev138⟩ : ∃ z : Int32, z = x3 + k2 := ⟨_, rfl⟩
        have hv138 : v138.toInt = x3.toInt + k2.toInt := n_add ev138 (by omega) (by omega)
        refine L_iadd C v138 (oDec_at oLw_5 21 rfl) ev138 ?_
        refine L_sld C ⟨by omega, by omega⟩ (oDec_at oLw_5 22 rfl) ?_
        rw [show xs v138.toNatClampNeg = v127 from by rw [show v138.toNatClampNeg = v126.toNatClampNeg by have q1 := n_nat v138; have q2 := n_nat v126; omega]; exact ev127]
        refine L_aload_n C (j := 0) (oDec_at oLw_5 23 rfl) rfl rfl ?_
        refine L_iload_n C (j := 3) (oDec_at oLw_5 24 rfl) rfl rfl ?_
        refine L_iconst C (oDec_at oLw_5 25 rfl) (v := k3) (by rw [qk3]; rfl) ?_
        obtain ⟨v140, ev140⟩ : ∃ z : Int32, z = x3 + k3 := ⟨_, rfl⟩
        have hv140 : v140.toInt = x3.toInt + k3.toInt := n_add ev140 (by omega) (by omega)
        refine L_iadd C v140 (oDec_at oLw_5 26 rfl) ev140 ?_
        refine L_sld C ⟨by omega, by omega⟩ (oDec_at oLw_5 27 rfl) ?_
        rw [show xs v140.toNatClampNeg = v129 from by rw [show v140.toNatClampNeg = v128.toNatClampNeg by have q1 := n_nat v140; have q2 := n_nat v128; omega]; exact ev129]
        refine L_aload_n C (j := 0) (oDec_at oLw_5 28 rfl) rfl rfl ?_
        refine L_iload_n C (j := 3) (oDec_at oLw_5 29 rfl) rfl rfl ?_
        refine L_iconst C (oDec_at oLw_5 30 rfl) (v := k4) (by rw [qk4]; rfl) ?_
        obtain ⟨v142, ev142⟩ : ∃ z : Int32, z = x3 + k4 := ⟨_, rfl⟩
        have hv142 : v142.toInt = x3.toInt + k4.toInt := n_add ev142 (by omega) (by omega)
        refine L_iadd C v142 (oDec_at oLw_5 31 rfl) ev142 ?_
        refine L_sld C ⟨by omega, by omega⟩ (oDec_at oLw_5 32 rfl) ?_
        rw [show xs v142.toNatClampNeg = v131 from by rw [show v142.toNatClampNeg = v130.toNatClampNeg by have q1 := n_nat v142; have q2 := n_nat v130; omega]; exact ev131]
        refine L_aload_n C (j := 0) (oDec_at oLw_5 33 rfl) rfl rfl ?_
        refine L_iload_n C (j := 3) (oDec_at oLw_5 34 rfl) rfl rfl ?_
        refine L_iconst C (oDec_at oLw_5 35 rfl) (v := k5) (by rw [qk5]; rfl) ?_
        obtain ⟨v144, ev144⟩ : ∃ z : Int32, z = x3 + k5 := ⟨_, rfl⟩
        have hv144 : v144.toInt = x3.toInt + k5.toInt := n_add ev144 (by omega) (by omega)
        refine L_iadd C v144 (oDec_at oLw_5 36 rfl) ev144 ?_
        refine L_sld C ⟨by omega, by omega⟩ (oDec_at oLw_5 37 rfl) ?_
        rw [show xs v144.toNatClampNeg = v133 from by rw [show v144.toNatClampNeg = v132.toNatClampNeg by have q1 := n_nat v144; have q2 := n_nat v132; omega]; exact ev133]
        refine L_callVi C oCl12 rfl miX12_code mlL_58 (ct_X12_code l E (t) v125 v127 v129 v131 v133 ) (by decide) rfl rfl rfl (Nat.le_of_ble_eq_true rfl) (oDec_at oLw_5 38 rfl) (fun r147 u146 pu146 fu146 => ?_)
        try dsimp only at pu146
        have hxu146 := oFr_nil fu146; subst hxu146
        refine L_pc C 529 rfl ?_
        refine L_icmp_eq C 1453 (oDec_at oLw_5 39 rfl) (by decide) (fun cd148 => ?_) (fun cd148 => ?_)
        · skip
          obtain ⟨v149, ev149⟩ : ∃ z : Int32, x3 + Int32.ofInt 6 = z := ⟨_, rfl⟩
          have hv149 : v149.toInt = x3.toInt + 6 := n_inc ev149 (by decide) (by omega) (by omega)
          refine L_iinc C (j := 3) (lv' := [(0, .ref b), (1, .ref (oad E 0)), (2, .ref (oad E 71)), (3, .int v149)]) v149 [1, 2, 3, 0] (oDec_at oLw_20 21 rfl) rfl ev149 (by decide) rfl ?_
          refine L_goto C (tgt := 18) (oDec_at oLw_20 22 rfl) (by decide) ?_
          exact ih (n - 1) (by omega) (t) v149 iv0 (by omega) iv2 (by omega) (by omega)
        · skip
          exfalso
          omega
      by_cases cd6_10 : v5.toInt = 10
      · refine L_tableIn C 534 (oDec_at oLw_0 21 rfl) (by omega) (by omega) (by rw [cd6_10]; rfl) (by decide) ?_
        skip
        refine L_aload_n C (j := 1) (oDec_at oLw_5 42 rfl) rfl rfl ?_
        refine L_aload_n C (j := 0) (oDec_at oLw_5 43 rfl) rfl rfl ?_
        refine L_iload_n C (j := 3) (oDec_at oLw_5 44 rfl) rfl rfl ?_
        refine L_iconst C (oDec_at oLw_5 45 rfl) (v := k1) (by rw [qk1]; rfl) ?_
        obtain ⟨v150, ev150⟩ : ∃ z : Int32, z = x3 + k1 := ⟨_, rfl⟩
        have hv150 : v150.toInt = x3.toInt + k1.toInt := n_add ev150 (by omega) (by omega)
        refine L_iadd C v150 (oDec_at oLw_5 46 rfl) ev150 ?_
        refine L_sld C ⟨by omega, by omega⟩ (oDec_at oLw_5 47 rfl) ?_
        obtain ⟨v151, ev151⟩ : ∃ z : Int32, xs v150.toNatClampNeg = z := ⟨_, rfl⟩
        rw [ev151]
        have rv151 := n_rng v151
        refine L_aload_n C (j := 0) (oDec_at oLw_5 48 rfl) rfl rfl ?_
        refine L_iload_n C (j := 3) (oDec_at oLw_5 49 rfl) rfl rfl ?_
        refine L_iconst C (oDec_at oLw_6 0 rfl) (v := k2) (by rw [qk2]; rfl) ?_
        obtain ⟨v152, ev152⟩ : ∃ z : Int32, z = x3 + k2 := ⟨_, rfl⟩
        have hv152 : v152.toInt = x3.toInt + k2.toInt := n_add ev152 (by omega) (by omega)
        refine L_iadd C v152 (oDec_at oLw_6 1 rfl) ev152 ?_
        refine L_sld C ⟨by omega, by omega⟩ (oDec_at oLw_6 2 rfl) ?_
        obtain ⟨v153, ev153⟩ : ∃ z : Int32, xs v152.toNatClampNeg = z := ⟨_, rfl⟩
        rw [ev153]
        have rv153 := n_rng v153
        refine L_callVi C oCl11 rfl miX11_follower mlL_59 (ct_X11_follower l E (t) v151 v153 ) (by decide) rfl rfl rfl (Nat.le_of_ble_eq_true rfl) (oDec_at oLw_6 3 rfl) (fun r155 u154 pu154 fu154 => ?_)
        try dsimp only at pu154
        refine L_pc C 548 rfl ?_
        refine L_pop C (oDec_at oLw_6 4 rfl) rfl ?_
        refine L_aload_n C (j := 2) (oDec_at oLw_6 5 rfl) rfl rfl ?_
        refine L_aload_n C (j := 0) (oDec_at oLw_6 6 rfl) rfl rfl ?_
        refine L_iload_n C (j := 3) (oDec_at oLw_6 7 rfl) rfl rfl ?_
        refine L_iconst C (oDec_at oLw_6 8 rfl) (v := k1) (by rw [qk1]; rfl) ?_
        obtain ⟨v156, ev156⟩ : ∃ z : Int32, z = x3 + k1 := ⟨_, rfl⟩
        have hv156 : v156.toInt = x3.toInt + k1.toInt := n_add ev156 (by omega) (by omega)
        refine L_iadd C v156 (oDec_at oLw_6 9 rfl) ev156 ?_
        refine L_sld C ⟨by omega, by omega⟩ (oDec_at oLw_6 10 rfl) ?_
        rw [show xs v156.toNatClampNeg = v151 from by rw [show v156.toNatClampNeg = v150.toNatClampNeg by have q1 := n_nat v156; have q2 := n_nat v150; omega]; exact ev151]
        refine L_aload_n C (j := 0) (oDec_at oLw_6 11 rfl) rfl rfl ?_
        refine L_iload_n C (j := 3) (oDec_at oLw_6 12 rfl) rfl rfl ?_
        refine L_iconst C (oDec_at oLw_6 13 rfl) (v := k2) (by rw [qk2]; rfl) ?_
        obtain ⟨v158, ev158⟩ : ∃ z : Int32, z = x3 + k2 := ⟨_, rfl⟩
        have hv158 : v158.toInt = x3.toInt + k2.toInt := n_add ev158 (by omega) (by omega)
        refine L_iadd C v158 (oDec_at oLw_6 14 rfl) ev158 ?_
        refine L_sld C ⟨by omega, by omega⟩ (oDec_at oLw_6 15 rfl) ?_
        rw [show xs v158.toNatClampNeg = v153 from by rw [show v158.toNatClampNeg = v152.toNatClampNeg by have q1 := n_nat v158; have q2 := n_nat v152; omega]; exact ev153]
        refine L_callVi C oCl12 rfl miX12_follower mlL_62 (ct_X12_follower l E (u154) v151 v153 ) (by decide) rfl rfl rfl (Nat.le_of_ble_eq_true rfl) (oDec_at oLw_6 16 rfl) (fun r161 u160 pu160 fu160 => ?_)
        try dsimp only at pu160
        have hxu160 := oFr_nil fu160; subst hxu160
        refine L_pc C 563 rfl ?_
        refine L_pop C (oDec_at oLw_6 17 rfl) rfl ?_
        refine L_goto C (tgt := 1453) (oDec_at oLw_6 18 rfl) (by decide) ?_
        obtain ⟨v162, ev162⟩ : ∃ z : Int32, x3 + Int32.ofInt 6 = z := ⟨_, rfl⟩
        have hv162 : v162.toInt = x3.toInt + 6 := n_inc ev162 (by decide) (by omega) (by omega)
        refine L_iinc C (j := 3) (lv' := [(0, .ref b), (1, .ref (oad E 0)), (2, .ref (oad E 71)), (3, .int v162)]) v162 [1, 2, 3, 0] (oDec_at oLw_20 21 rfl) rfl ev162 (by decide) rfl ?_
        refine L_goto C (tgt := 18) (oDec_at oLw_20 22 rfl) (by decide) ?_
        have lk163 : ((u154).1 71 38).toInt = (t.1 71 38).toInt := congrArg Int32.toInt ((fu154 71 38 rfl).1)
        have lk164 : ((u154).1 71 42).toInt = (t.1 71 42).toInt := congrArg Int32.toInt ((fu154 71 42 rfl).1)
        exact ih (n - 1) (by omega) (u154) v162 (oLT_fr fu154 rfl iv0) (by omega) (oBI_fr fu154 rfl iv2) (by omega) (by omega)
      by_cases cd6_11 : v5.toInt = 11
      · refine L_tableIn C 567 (oDec_at oLw_0 21 rfl) (by omega) (by omega) (by rw [cd6_11]; rfl) (by decide) ?_
        skip
        refine L_aload_n C (j := 1) (oDec_at oLw_6 19 rfl) rfl rfl ?_
        refine L_aload_n C (j := 0) (oDec_at oLw_6 20 rfl) rfl rfl ?_
        refine L_iload_n C (j := 3) (oDec_at oLw_6 21 rfl) rfl rfl ?_
        refine L_iconst C (oDec_at oLw_6 22 rfl) (v := k1) (by rw [qk1]; rfl) ?_
        obtain ⟨v165, ev165⟩ : ∃ z : Int32, z = x3 + k1 := ⟨_, rfl⟩
        have hv165 : v165.toInt = x3.toInt + k1.toInt := n_add ev165 (by omega) (by omega)
        refine L_iadd C v165 (oDec_at oLw_6 23 rfl) ev165 ?_
        refine L_sld C ⟨by omega, by omega⟩ (oDec_at oLw_6 24 rfl) ?_
        obtain ⟨v166, ev166⟩ : ∃ z : Int32, xs v165.toNatClampNeg = z := ⟨_, rfl⟩
        rw [ev166]
        have rv166 := n_rng v166
        refine L_aload_n C (j := 0) (oDec_at oLw_6 25 rfl) rfl rfl ?_
        refine L_iload_n C (j := 3) (oDec_at oLw_6 26 rfl) rfl rfl ?_
        refine L_iconst C (oDec_at oLw_6 27 rfl) (v := k2) (by rw [qk2]; rfl) ?_
        obtain ⟨v167, ev167⟩ : ∃ z : Int32, z = x3 + k2 := ⟨_, rfl⟩
        have hv167 : v167.toInt = x3.toInt + k2.toInt := n_add ev167 (by omega) (by omega)
        refine L_iadd C v167 (oDec_at oLw_6 28 rfl) ev167 ?_
        refine L_sld C ⟨by omega, by omega⟩ (oDec_at oLw_6 29 rfl) ?_
        obtain ⟨v168, ev168⟩ : ∃ z : Int32, xs v167.toNatClampNeg = z := ⟨_, rfl⟩
        rw [ev168]
        have rv168 := n_rng v168
        refine L_callVi C oCl11 rfl miX11_sings mlL_63 (ct_X11_sings l E (t) v166 v168 ) (by decide) rfl rfl rfl (Nat.le_of_ble_eq_true rfl) (oDec_at oLw_6 30 rfl) (fun r170 u169 pu169 fu169 => ?_)
        try dsimp only at pu169
        refine L_pc C 581 rfl ?_
        refine L_pop C (oDec_at oLw_6 31 rfl) rfl ?_
        refine L_aload_n C (j := 2) (oDec_at oLw_6 32 rfl) rfl rfl ?_
        refine L_aload_n C (j := 0) (oDec_at oLw_6 33 rfl) rfl rfl ?_
        refine L_iload_n C (j := 3) (oDec_at oLw_6 34 rfl) rfl rfl ?_
        refine L_iconst C (oDec_at oLw_6 35 rfl) (v := k1) (by rw [qk1]; rfl) ?_
        obtain ⟨v171, ev171⟩ : ∃ z : Int32, z = x3 + k1 := ⟨_, rfl⟩
        have hv171 : v171.toInt = x3.toInt + k1.toInt := n_add ev171 (by omega) (by omega)
        refine L_iadd C v171 (oDec_at oLw_6 36 rfl) ev171 ?_
        refine L_sld C ⟨by omega, by omega⟩ (oDec_at oLw_6 37 rfl) ?_
        rw [show xs v171.toNatClampNeg = v166 from by rw [show v171.toNatClampNeg = v165.toNatClampNeg by have q1 := n_nat v171; have q2 := n_nat v165; omega]; exact ev166]
        refine L_aload_n C (j := 0) (oDec_at oLw_6 38 rfl) rfl rfl ?_
        refine L_iload_n C (j := 3) (oDec_at oLw_6 39 rfl) rfl rfl ?_
        refine L_iconst C (oDec_at oLw_6 40 rfl) (v := k2) (by rw [qk2]; rfl) ?_
        obtain ⟨v173, ev173⟩ : ∃ z : Int32, z = x3 + k2 := ⟨_, rfl⟩
        have hv173 : v173.toInt = x3.toInt + k2.toInt := n_add ev173 (by omega) (by omega)
        refine L_iadd C v173 (oDec_at oLw_6 41 rfl) ev173 ?_
        refine L_sld C ⟨by omega, by omega⟩ (oDec_at oLw_6 42 rfl) ?_
        rw [show xs v173.toNatClampNeg = v168 from by rw [show v173.toNatClampNeg = v167.toNatClampNeg by have q1 := n_nat v173; have q2 := n_nat v167; omega]; exact ev168]
        refine L_callVi C oCl12 rfl miX12_sings mlL_66 (ct_X12_sings l E (u169) v166 v168 ) (by decide) rfl rfl rfl (Nat.le_of_ble_eq_true rfl) (oDec_at oLw_6 43 rfl) (fun r176 u175 pu175 fu175 => ?_)
        try dsimp only at pu175
        have hxu175 := oFr_nil fu175; subst hxu175
        refine L_pc C 596 rfl ?_
        refine L_pop C (oDec_at oLw_6 44 rfl) rfl ?_
        refine L_goto C (tgt := 1453) (oDec_at oLw_6 45 rfl) (by decide) ?_
        obtain ⟨v177, ev177⟩ : ∃ z : Int32, x3 + Int32.ofInt 6 = z := ⟨_, rfl⟩
        have hv177 : v177.toInt = x3.toInt + 6 := n_inc ev177 (by decide) (by omega) (by omega)
        refine L_iinc C (j := 3) (lv' := [(0, .ref b), (1, .ref (oad E 0)), (2, .ref (oad E 71)), (3, .int v177)]) v177 [1, 2, 3, 0] (oDec_at oLw_20 21 rfl) rfl ev177 (by decide) rfl ?_
        refine L_goto C (tgt := 18) (oDec_at oLw_20 22 rfl) (by decide) ?_
        have lk178 : ((u169).1 71 38).toInt = (t.1 71 38).toInt := congrArg Int32.toInt ((fu169 71 38 rfl).1)
        have lk179 : ((u169).1 71 42).toInt = (t.1 71 42).toInt := congrArg Int32.toInt ((fu169 71 42 rfl).1)
        exact ih (n - 1) (by omega) (u169) v177 (oLT_fr fu169 rfl iv0) (by omega) (oBI_fr fu169 rfl iv2) (by omega) (by omega)
      by_cases cd6_12 : v5.toInt = 12
      · refine L_tableIn C 600 (oDec_at oLw_0 21 rfl) (by omega) (by omega) (by rw [cd6_12]; rfl) (by decide) ?_
        skip
        refine L_aload_n C (j := 1) (oDec_at oLw_6 46 rfl) rfl rfl ?_
        refine L_aload_n C (j := 0) (oDec_at oLw_6 47 rfl) rfl rfl ?_
        refine L_iload_n C (j := 3) (oDec_at oLw_6 48 rfl) rfl rfl ?_
        refine L_iconst C (oDec_at oLw_6 49 rfl) (v := k1) (by rw [qk1]; rfl) ?_
        obtain ⟨v180, ev180⟩ : ∃ z : Int32, z = x3 + k1 := ⟨_, rfl⟩
        have hv180 : v180.toInt = x3.toInt + k1.toInt := n_add ev180 (by omega) (by omega)
        refine L_iadd C v180 (oDec_at oLw_7 0 rfl) ev180 ?_
        refine L_sld C ⟨by omega, by omega⟩ (oDec_at oLw_7 1 rfl) ?_
        obtain ⟨v181, ev181⟩ : ∃ z : Int32, xs v180.toNatClampNeg = z := ⟨_, rfl⟩
        rw [ev181]
        have rv181 := n_rng v181
        refine L_aload_n C (j := 0) (oDec_at oLw_7 2 rfl) rfl rfl ?_
        refine L_iload_n C (j := 3) (oDec_at oLw_7 3 rfl) rfl rfl ?_
        refine L_iconst C (oDec_at oLw_7 4 rfl) (v := k2) (by rw [qk2]; rfl) ?_
        obtain ⟨v182, ev182⟩ : ∃ z : Int32, z = x3 + k2 := ⟨_, rfl⟩
        have hv182 : v182.toInt = x3.toInt + k2.toInt := n_add ev182 (by omega) (by omega)
        refine L_iadd C v182 (oDec_at oLw_7 5 rfl) ev182 ?_
        refine L_sld C ⟨by omega, by omega⟩ (oDec_at oLw_7 6 rfl) ?_
        obtain ⟨v183, ev183⟩ : ∃ z : Int32, xs v182.toNatClampNeg = z := ⟨_, rfl⟩
        rw [ev183]
        have rv183 := n_rng v183
        refine L_aload_n C (j := 0) (oDec_at oLw_7 7 rfl) rfl rfl ?_
        refine L_iload_n C (j := 3) (oDec_at oLw_7 8 rfl) rfl rfl ?_
        refine L_iconst C (oDec_at oLw_7 9 rfl) (v := k3) (by rw [qk3]; rfl) ?_
        obtain ⟨v184, ev184⟩ : ∃ z : Int32, z = x3 + k3 := ⟨_, rfl⟩
        have hv184 : v184.toInt = x3.toInt + k3.toInt := n_add ev184 (by omega) (by omega)
        refine L_iadd C v184 (oDec_at oLw_7 10 rfl) ev184 ?_
        refine L_sld C ⟨by omega, by omega⟩ (oDec_at oLw_7 11 rfl) ?_
        obtain ⟨v185, ev185⟩ : ∃ z : Int32, xs v184.toNatClampNeg = z := ⟨_, rfl⟩
        rw [ev185]
        have rv185 := n_rng v185
        refine L_callVi C oCl11 rfl miX11_breach mlL_67 (ct_X11_breach l E (t) v181 v183 v185 ) (by decide) rfl rfl rfl (Nat.le_of_ble_eq_true rfl) (oDec_at oLw_7 12 rfl) (fun r187 u186 pu186 fu186 => ?_)
        try dsimp only at pu186
        refine L_pc C 619 rfl ?_
        refine L_pop C (oDec_at oLw_7 13 rfl) rfl ?_
        refine L_aload_n C (j := 2) (oDec_at oLw_7 14 rfl) rfl rfl ?_
        refine L_aload_n C (j := 0) (oDec_at oLw_7 15 rfl) rfl rfl ?_
        refine L_iload_n C (j := 3) (oDec_at oLw_7 16 rfl) rfl rfl ?_
        refine L_iconst C (oDec_at oLw_7 17 rfl) (v := k1) (by rw [qk1]; rfl) ?_
        obtain ⟨v188, ev188⟩ : ∃ z : Int32, z = x3 + k1 := ⟨_, rfl⟩
        have hv188 : v188.toInt = x3.toInt + k1.toInt := n_add ev188 (by omega) (by omega)
        refine L_iadd C v188 (oDec_at oLw_7 18 rfl) ev188 ?_
        refine L_sld C ⟨by omega, by omega⟩ (oDec_at oLw_7 19 rfl) ?_
        rw [show xs v188.toNatClampNeg = v181 from by rw [show v188.toNatClampNeg = v180.toNatClampNeg by have q1 := n_nat v188; have q2 := n_nat v180; omega]; exact ev181]
        refine L_aload_n C (j := 0) (oDec_at oLw_7 20 rfl) rfl rfl ?_
        refine L_iload_n C (j := 3) (oDec_at oLw_7 21 rfl) rfl rfl ?_
        refine L_iconst C (oDec_at oLw_7 22 rfl) (v := k2) (by rw [qk2]; rfl) ?_
        obtain ⟨v190, ev190⟩ : ∃ z : Int32, z = x3 + k2 := ⟨_, rfl⟩
        have hv190 : v190.toInt = x3.toInt + k2.toInt := n_add ev190 (by omega) (by omega)
        refine L_iadd C v190 (oDec_at oLw_7 23 rfl) ev190 ?_
        refine L_sld C ⟨by omega, by omega⟩ (oDec_at oLw_7 24 rfl) ?_
        rw [show xs v190.toNatClampNeg = v183 from by rw [show v190.toNatClampNeg = v182.toNatClampNeg by have q1 := n_nat v190; have q2 := n_nat v182; omega]; exact ev183]
        refine L_aload_n C (j := 0) (oDec_at oLw_7 25 rfl) rfl rfl ?_
        refine L_iload_n C (j := 3) (oDec_at oLw_7 26 rfl) rfl rfl ?_
        refine L_iconst C (oDec_at oLw_7 27 rfl) (v := k3) (by rw [qk3]; rfl) ?_
        obtain ⟨v192, ev192⟩ : ∃ z : Int32, z = x3 + k3 := ⟨_, rfl⟩
        have hv192 : v192.toInt = x3.toInt + k3.toInt := n_add ev192 (by omega) (by omega)
        refine L_iadd C v192 (oDec_at oLw_7 28 rfl) ev192 ?_
        refine L_sld C ⟨by omega, by omega⟩ (oDec_at oLw_7 29 rfl) ?_
        rw [show xs v192.toNatClampNeg = v185 from by rw [show v192.toNatClampNeg = v184.toNatClampNeg by have q1 := n_nat v192; have q2 := n_nat v184; omega]; exact ev185]
        refine L_callVi C oCl12 rfl miX12_breach mlL_70 (ct_X12_breach l E (u186) v181 v183 v185 (oBI_fr fu186 rfl iv2)) (by decide) rfl rfl rfl (Nat.le_of_ble_eq_true rfl) (oDec_at oLw_7 30 rfl) (fun r195 u194 pu194 fu194 => ?_)
        try dsimp only at pu194
        refine L_pc C 639 rfl ?_
        refine L_pop C (oDec_at oLw_7 31 rfl) rfl ?_
        refine L_goto C (tgt := 1453) (oDec_at oLw_7 32 rfl) (by decide) ?_
        obtain ⟨v196, ev196⟩ : ∃ z : Int32, x3 + Int32.ofInt 6 = z := ⟨_, rfl⟩
        have hv196 : v196.toInt = x3.toInt + 6 := n_inc ev196 (by decide) (by omega) (by omega)
        refine L_iinc C (j := 3) (lv' := [(0, .ref b), (1, .ref (oad E 0)), (2, .ref (oad E 71)), (3, .int v196)]) v196 [1, 2, 3, 0] (oDec_at oLw_20 21 rfl) rfl ev196 (by decide) rfl ?_
        refine L_goto C (tgt := 18) (oDec_at oLw_20 22 rfl) (by decide) ?_
        have lk197 : ((u194).1 71 38).toInt = (t.1 71 38).toInt := congrArg Int32.toInt (((fu194 71 38 rfl).1).trans ((fu186 71 38 rfl).1))
        have lk198 : ((u194).1 71 42).toInt = (t.1 71 42).toInt := congrArg Int32.toInt (((fu194 71 42 rfl).1).trans ((fu186 71 42 rfl).1))
        exact ih (n - 1) (by omega) (u194) v196 (oLT_fr fu194 rfl (oLT_fr fu186 rfl iv0)) (by omega) (oBI_fr fu194 rfl (oBI_fr fu186 rfl iv2)) (by omega) (by omega)
      by_cases cd6_13 : v5.toInt = 13
      · refine L_tableIn C 643 (oDec_at oLw_0 21 rfl) (by omega) (by omega) (by rw [cd6_13]; rfl) (by decide) ?_
        skip
        refine L_aload_n C (j := 1) (oDec_at oLw_7 33 rfl) rfl rfl ?_
        refine L_aload_n C (j := 0) (oDec_at oLw_7 34 rfl) rfl rfl ?_
        refine L_iload_n C (j := 3) (oDec_at oLw_7 35 rfl) rfl rfl ?_
        refine L_iconst C (oDec_at oLw_7 36 rfl) (v := k1) (by rw [qk1]; rfl) ?_
        obtain ⟨v199, ev199⟩ : ∃ z : Int32, z = x3 + k1 := ⟨_, rfl⟩
        have hv199 : v199.toInt = x3.toInt + k1.toInt := n_add ev199 (by omega) (by omega)
        refine L_iadd C v199 (oDec_at oLw_7 37 rfl) ev199 ?_
        refine L_sld C ⟨by omega, by omega⟩ (oDec_at oLw_7 38 rfl) ?_
        obtain ⟨v200, ev200⟩ : ∃ z : Int32, xs v199.toNatClampNeg = z := ⟨_, rfl⟩
        rw [ev200]
        have rv200 := n_rng v200
        refine L_aload_n C (j := 0) (oDec_at oLw_7 39 rfl) rfl rfl ?_
        refine L_iload_n C (j := 3) (oDec_at oLw_7 40 rfl) rfl rfl ?_
        refine L_iconst C (oDec_at oLw_7 41 rfl) (v := k2) (by rw [qk2]; rfl) ?_
        obtain ⟨v201, ev201⟩ : ∃ z : Int32, z = x3 + k2 := ⟨_, rfl⟩
        have hv201 : v201.toInt = x3.toInt + k2.toInt := n_add ev201 (by omega) (by omega)
        refine L_iadd C v201 (oDec_at oLw_7 42 rfl) ev201 ?_
        refine L_sld C ⟨by omega, by omega⟩ (oDec_at oLw_7 43 rfl) ?_
        obtain ⟨v202, ev202⟩ : ∃ z : Int32, xs v201.toNatClampNeg = z := ⟨_, rfl⟩
        rw [ev202]
        have rv202 := n_rng v202
        refine L_aload_n C (j := 0) (oDec_at oLw_7 44 rfl) rfl rfl ?_
        refine L_iload_n C (j := 3) (oDec_at oLw_7 45 rfl) rfl rfl ?_
        refine L_iconst C (oDec_at oLw_7 46 rfl) (v := k3) (by rw [qk3]; rfl) ?_
        obtain ⟨v203, ev203⟩ : ∃ z : Int32, z = x3 + k3 := ⟨_, rfl⟩
        have hv203 : v203.toInt = x3.toInt + k3.toInt := n_add ev203 (by omega) (by omega)
        refine L_iadd C v203 (oDec_at oLw_7 47 rfl) ev203 ?_
        refine L_sld C ⟨by omega, by omega⟩ (oDec_at oLw_7 48 rfl) ?_
        obtain ⟨v204, ev204⟩ : ∃ z : Int32, xs v203.toNatClampNeg = z := ⟨_, rfl⟩
        rw [ev204]
        have rv204 := n_rng v204
        refine L_callVi C oCl11 rfl miX11_together mlL_71 (ct_X11_together l E (t) v200 v202 v204 ) (by decide) rfl rfl rfl (Nat.le_of_ble_eq_true rfl) (oDec_at oLw_7 49 rfl) (fun r206 u205 pu205 fu205 => ?_)
        try dsimp only at pu205
        refine L_pc C 662 rfl ?_
        refine L_pop C (oDec_at oLw_8 0 rfl) rfl ?_
        refine L_aload_n C (j := 2) (oDec_at oLw_8 1 rfl) rfl rfl ?_
        refine L_aload_n C (j := 0) (oDec_at oLw_8 2 rfl) rfl rfl ?_
        refine L_iload_n C (j := 3) (oDec_at oLw_8 3 rfl) rfl rfl ?_
        refine L_iconst C (oDec_at oLw_8 4 rfl) (v := k1) (by rw [qk1]; rfl) ?_
        obtain ⟨v207, ev207⟩ : ∃ z : Int32, z = x3 + k1 := ⟨_, rfl⟩
        have hv207 : v207.toInt = x3.toInt + k1.toInt := n_add ev207 (by omega) (by omega)
        refine L_iadd C v207 (oDec_at oLw_8 5 rfl) ev207 ?_
        refine L_sld C ⟨by omega, by omega⟩ (oDec_at oLw_8 6 rfl) ?_
        rw [show xs v207.toNatClampNeg = v200 from by rw [show v207.toNatClampNeg = v199.toNatClampNeg by have q1 := n_nat v207; have q2 := n_nat v199; omega]; exact ev200]
        refine L_aload_n C (j := 0) (oDec_at oLw_8 7 rfl) rfl rfl ?_
        refine L_iload_n C (j := 3) (oDec_at oLw_8 8 rfl) rfl rfl ?_
        refine L_iconst C (oDec_at oLw_8 9 rfl) (v := k2) (by rw [qk2]; rfl) ?_
        obtain ⟨v209, ev209⟩ : ∃ z : Int32, z = x3 + k2 := ⟨_, rfl⟩
        have hv209 : v209.toInt = x3.toInt + k2.toInt := n_add ev209 (by omega) (by omega)
        refine L_iadd C v209 (oDec_at oLw_8 10 rfl) ev209 ?_
        refine L_sld C ⟨by omega, by omega⟩ (oDec_at oLw_8 11 rfl) ?_
        rw [show xs v209.toNatClampNeg = v202 from by rw [show v209.toNatClampNeg = v201.toNatClampNeg by have q1 := n_nat v209; have q2 := n_nat v201; omega]; exact ev202]
        refine L_aload_n C (j := 0) (oDec_at oLw_8 12 rfl) rfl rfl ?_
        refine L_iload_n C (j := 3) (oDec_at oLw_8 13 rfl) rfl rfl ?_
        refine L_iconst C (oDec_at oLw_8 14 rfl) (v := k3) (by rw [qk3]; rfl) ?_
        obtain ⟨v211, ev211⟩ : ∃ z : Int32, z = x3 + k3 := ⟨_, rfl⟩
        have hv211 : v211.toInt = x3.toInt + k3.toInt := n_add ev211 (by omega) (by omega)
        refine L_iadd C v211 (oDec_at oLw_8 15 rfl) ev211 ?_
        refine L_sld C ⟨by omega, by omega⟩ (oDec_at oLw_8 16 rfl) ?_
        rw [show xs v211.toNatClampNeg = v204 from by rw [show v211.toNatClampNeg = v203.toNatClampNeg by have q1 := n_nat v211; have q2 := n_nat v203; omega]; exact ev204]
        refine L_callVi C oCl12 rfl miX12_together mlL_74 (ct_X12_together l E (u205) v200 v202 v204 (oBI_fr fu205 rfl iv2)) (by decide) rfl rfl rfl (Nat.le_of_ble_eq_true rfl) (oDec_at oLw_8 17 rfl) (fun r214 u213 pu213 fu213 => ?_)
        try dsimp only at pu213
        refine L_pc C 682 rfl ?_
        refine L_pop C (oDec_at oLw_8 18 rfl) rfl ?_
        refine L_goto C (tgt := 1453) (oDec_at oLw_8 19 rfl) (by decide) ?_
        obtain ⟨v215, ev215⟩ : ∃ z : Int32, x3 + Int32.ofInt 6 = z := ⟨_, rfl⟩
        have hv215 : v215.toInt = x3.toInt + 6 := n_inc ev215 (by decide) (by omega) (by omega)
        refine L_iinc C (j := 3) (lv' := [(0, .ref b), (1, .ref (oad E 0)), (2, .ref (oad E 71)), (3, .int v215)]) v215 [1, 2, 3, 0] (oDec_at oLw_20 21 rfl) rfl ev215 (by decide) rfl ?_
        refine L_goto C (tgt := 18) (oDec_at oLw_20 22 rfl) (by decide) ?_
        have lk216 : ((u213).1 71 38).toInt = (t.1 71 38).toInt := congrArg Int32.toInt (((fu213 71 38 rfl).1).trans ((fu205 71 38 rfl).1))
        have lk217 : ((u213).1 71 42).toInt = (t.1 71 42).toInt := congrArg Int32.toInt (((fu213 71 42 rfl).1).trans ((fu205 71 42 rfl).1))
        exact ih (n - 1) (by omega) (u213) v215 (oLT_fr fu213 rfl (oLT_fr fu205 rfl iv0)) (by omega) (oBI_fr fu213 rfl (oBI_fr fu205 rfl iv2)) (by omega) (by omega)
      by_cases cd6_14 : v5.toInt = 14
      · refine L_tableIn C 686 (oDec_at oLw_0 21 rfl) (by omega) (by omega) (by rw [cd6_14]; rfl) (by decide) ?_
        skip
        refine L_aload_n C (j := 1) (oDec_at oLw_8 20 rfl) rfl rfl ?_
        refine L_aload_n C (j := 0) (oDec_at oLw_8 21 rfl) rfl rfl ?_
        refine L_iload_n C (j := 3) (oDec_at oLw_8 22 rfl) rfl rfl ?_
        refine L_iconst C (oDec_at oLw_8 23 rfl) (v := k1) (by rw [qk1]; rfl) ?_
        obtain ⟨v218, ev218⟩ : ∃ z : Int32, z = x3 + k1 := ⟨_, rfl⟩
        have hv218 : v218.toInt = x3.toInt + k1.toInt := n_add ev218 (by omega) (by omega)
        refine L_iadd C v218 (oDec_at oLw_8 24 rfl) ev218 ?_
        refine L_sld C ⟨by omega, by omega⟩ (oDec_at oLw_8 25 rfl) ?_
        obtain ⟨v219, ev219⟩ : ∃ z : Int32, xs v218.toNatClampNeg = z := ⟨_, rfl⟩
        rw [ev219]
        have rv219 := n_rng v219
        refine L_aload_n C (j := 0) (oDec_at oLw_8 26 rfl) rfl rfl ?_
        refine L_iload_n C (j := 3) (oDec_at oLw_8 27 rfl) rfl rfl ?_
        refine L_iconst C (oDec_at oLw_8 28 rfl) (v := k2) (by rw [qk2]; rfl) ?_
        obtain ⟨v220, ev220⟩ : ∃ z : Int32, z = x3 + k2 := ⟨_, rfl⟩
        have hv220 : v220.toInt = x3.toInt + k2.toInt := n_add ev220 (by omega) (by omega)
        refine L_iadd C v220 (oDec_at oLw_8 29 rfl) ev220 ?_
        refine L_sld C ⟨by omega, by omega⟩ (oDec_at oLw_8 30 rfl) ?_
        obtain ⟨v221, ev221⟩ : ∃ z : Int32, xs v220.toNatClampNeg = z := ⟨_, rfl⟩
        rw [ev221]
        have rv221 := n_rng v221
        refine L_aload_n C (j := 0) (oDec_at oLw_8 31 rfl) rfl rfl ?_
        refine L_iload_n C (j := 3) (oDec_at oLw_8 32 rfl) rfl rfl ?_
        refine L_iconst C (oDec_at oLw_8 33 rfl) (v := k3) (by rw [qk3]; rfl) ?_
        obtain ⟨v222, ev222⟩ : ∃ z : Int32, z = x3 + k3 := ⟨_, rfl⟩
        have hv222 : v222.toInt = x3.toInt + k3.toInt := n_add ev222 (by omega) (by omega)
        refine L_iadd C v222 (oDec_at oLw_8 34 rfl) ev222 ?_
        refine L_sld C ⟨by omega, by omega⟩ (oDec_at oLw_8 35 rfl) ?_
        obtain ⟨v223, ev223⟩ : ∃ z : Int32, xs v222.toNatClampNeg = z := ⟨_, rfl⟩
        rw [ev223]
        have rv223 := n_rng v223
        refine L_callVi C oCl11 rfl miX11_broken mlL_75 (ct_X11_broken l E (t) v219 v221 v223 ) (by decide) rfl rfl rfl (Nat.le_of_ble_eq_true rfl) (oDec_at oLw_8 36 rfl) (fun r225 u224 pu224 fu224 => ?_)
        try dsimp only at pu224
        refine L_pc C 705 rfl ?_
        refine L_pop C (oDec_at oLw_8 37 rfl) rfl ?_
        refine L_aload_n C (j := 2) (oDec_at oLw_8 38 rfl) rfl rfl ?_
        refine L_aload_n C (j := 0) (oDec_at oLw_8 39 rfl) rfl rfl ?_
        refine L_iload_n C (j := 3) (oDec_at oLw_8 40 rfl) rfl rfl ?_
        refine L_iconst C (oDec_at oLw_8 41 rfl) (v := k1) (by rw [qk1]; rfl) ?_
        obtain ⟨v226, ev226⟩ : ∃ z : Int32, z = x3 + k1 := ⟨_, rfl⟩
        have hv226 : v226.toInt = x3.toInt + k1.toInt := n_add ev226 (by omega) (by omega)
        refine L_iadd C v226 (oDec_at oLw_8 42 rfl) ev226 ?_
        refine L_sld C ⟨by omega, by omega⟩ (oDec_at oLw_8 43 rfl) ?_
        rw [show xs v226.toNatClampNeg = v219 from by rw [show v226.toNatClampNeg = v218.toNatClampNeg by have q1 := n_nat v226; have q2 := n_nat v218; omega]; exact ev219]
        refine L_aload_n C (j := 0) (oDec_at oLw_8 44 rfl) rfl rfl ?_
        refine L_iload_n C (j := 3) (oDec_at oLw_8 45 rfl) rfl rfl ?_
        refine L_iconst C (oDec_at oLw_8 46 rfl) (v := k2) (by rw [qk2]; rfl) ?_
        obtain ⟨v228, ev228⟩ : ∃ z : Int32, z = x3 + k2 := ⟨_, rfl⟩
        have hv228 : v228.toInt = x3.toInt + k2.toInt := n_add ev228 (by omega) (by omega)
        refine L_iadd C v228 (oDec_at oLw_8 47 rfl) ev228 ?_
        refine L_sld C ⟨by omega, by omega⟩ (oDec_at oLw_8 48 rfl) ?_
        rw [show xs v228.toNatClampNeg = v221 from by rw [show v228.toNatClampNeg = v220.toNatClampNeg by have q1 := n_nat v228; have q2 := n_nat v220; omega]; exact ev221]
        refine L_aload_n C (j := 0) (oDec_at oLw_8 49 rfl) rfl rfl ?_
        refine L_iload_n C (j := 3) (oDec_at oLw_9 0 rfl) rfl rfl ?_
        refine L_iconst C (oDec_at oLw_9 1 rfl) (v := k3) (by rw [qk3]; rfl) ?_
        obtain ⟨v230, ev230⟩ : ∃ z : Int32, z = x3 + k3 := ⟨_, rfl⟩
        have hv230 : v230.toInt = x3.toInt + k3.toInt := n_add ev230 (by omega) (by omega)
        refine L_iadd C v230 (oDec_at oLw_9 2 rfl) ev230 ?_
        refine L_sld C ⟨by omega, by omega⟩ (oDec_at oLw_9 3 rfl) ?_
        rw [show xs v230.toNatClampNeg = v223 from by rw [show v230.toNatClampNeg = v222.toNatClampNeg by have q1 := n_nat v230; have q2 := n_nat v222; omega]; exact ev223]
        refine L_callVi C oCl12 rfl miX12_broken mlL_78 (ct_X12_broken l E (u224) v219 v221 v223 (oBI_fr fu224 rfl iv2)) (by decide) rfl rfl rfl (Nat.le_of_ble_eq_true rfl) (oDec_at oLw_9 4 rfl) (fun r233 u232 pu232 fu232 => ?_)
        try dsimp only at pu232
        refine L_pc C 725 rfl ?_
        refine L_pop C (oDec_at oLw_9 5 rfl) rfl ?_
        refine L_goto C (tgt := 1453) (oDec_at oLw_9 6 rfl) (by decide) ?_
        obtain ⟨v234, ev234⟩ : ∃ z : Int32, x3 + Int32.ofInt 6 = z := ⟨_, rfl⟩
        have hv234 : v234.toInt = x3.toInt + 6 := n_inc ev234 (by decide) (by omega) (by omega)
        refine L_iinc C (j := 3) (lv' := [(0, .ref b), (1, .ref (oad E 0)), (2, .ref (oad E 71)), (3, .int v234)]) v234 [1, 2, 3, 0] (oDec_at oLw_20 21 rfl) rfl ev234 (by decide) rfl ?_
        refine L_goto C (tgt := 18) (oDec_at oLw_20 22 rfl) (by decide) ?_
        have lk235 : ((u232).1 71 38).toInt = (t.1 71 38).toInt := congrArg Int32.toInt (((fu232 71 38 rfl).1).trans ((fu224 71 38 rfl).1))
        have lk236 : ((u232).1 71 42).toInt = (t.1 71 42).toInt := congrArg Int32.toInt (((fu232 71 42 rfl).1).trans ((fu224 71 42 rfl).1))
        exact ih (n - 1) (by omega) (u232) v234 (oLT_fr fu232 rfl (oLT_fr fu224 rfl iv0)) (by omega) (oBI_fr fu232 rfl (oBI_fr fu224 rfl iv2)) (by omega) (by omega)
      by_cases cd6_15 : v5.toInt = 15
      · refine L_tableIn C 729 (oDec_at oLw_0 21 rfl) (by omega) (by omega) (by rw [cd6_15]; rfl) (by decide) ?_
        skip
        refine L_aload_n C (j := 1) (oDec_at oLw_9 7 rfl) rfl rfl ?_
        refine L_aload_n C (j := 0) (oDec_at oLw_9 8 rfl) rfl rfl ?_
        refine L_iload_n C (j := 3) (oDec_at oLw_9 9 rfl) rfl rfl ?_
        refine L_iconst C (oDec_at oLw_9 10 rfl) (v := k1) (by rw [qk1]; rfl) ?_
        obtain ⟨v237, ev237⟩ : ∃ z : Int32, z = x3 + k1 := ⟨_, rfl⟩
        have hv237 : v237.toInt = x3.toInt + k1.toInt := n_add ev237 (by omega) (by omega)
        refine L_iadd C v237 (oDec_at oLw_9 11 rfl) ev237 ?_
        refine L_sld C ⟨by omega, by omega⟩ (oDec_at oLw_9 12 rfl) ?_
        obtain ⟨v238, ev238⟩ : ∃ z : Int32, xs v237.toNatClampNeg = z := ⟨_, rfl⟩
        rw [ev238]
        have rv238 := n_rng v238
        refine L_aload_n C (j := 0) (oDec_at oLw_9 13 rfl) rfl rfl ?_
        refine L_iload_n C (j := 3) (oDec_at oLw_9 14 rfl) rfl rfl ?_
        refine L_iconst C (oDec_at oLw_9 15 rfl) (v := k2) (by rw [qk2]; rfl) ?_
        obtain ⟨v239, ev239⟩ : ∃ z : Int32, z = x3 + k2 := ⟨_, rfl⟩
        have hv239 : v239.toInt = x3.toInt + k2.toInt := n_add ev239 (by omega) (by omega)
        refine L_iadd C v239 (oDec_at oLw_9 16 rfl) ev239 ?_
        refine L_sld C ⟨by omega, by omega⟩ (oDec_at oLw_9 17 rfl) ?_
        obtain ⟨v240, ev240⟩ : ∃ z : Int32, xs v239.toNatClampNeg = z := ⟨_, rfl⟩
        rw [ev240]
        have rv240 := n_rng v240
        refine L_if_eq C 747 (oDec_at oLw_9 18 rfl) (by decide) (fun cd241 => ?_) (fun cd241 => ?_)
        · skip
          refine L_iconst C (oDec_at oLw_9 21 rfl) (v := k0) (by rw [qk0]; rfl) ?_
          refine L_callVi C oCl11 rfl miX11_span mlL_79 (ct_X11_span l E (t) v238 k0 (by omega)) (by decide) rfl rfl rfl (Nat.le_of_ble_eq_true rfl) (oDec_at oLw_9 22 rfl) (fun r243 u242 pu242 fu242 => ?_)
          try dsimp only at pu242
          refine L_pc C 751 rfl ?_
          refine L_pop C (oDec_at oLw_9 23 rfl) rfl ?_
          refine L_aload_n C (j := 2) (oDec_at oLw_9 24 rfl) rfl rfl ?_
          refine L_aload_n C (j := 0) (oDec_at oLw_9 25 rfl) rfl rfl ?_
          refine L_iload_n C (j := 3) (oDec_at oLw_9 26 rfl) rfl rfl ?_
          refine L_iconst C (oDec_at oLw_9 27 rfl) (v := k1) (by rw [qk1]; rfl) ?_
          obtain ⟨v244, ev244⟩ : ∃ z : Int32, z = x3 + k1 := ⟨_, rfl⟩
          have hv244 : v244.toInt = x3.toInt + k1.toInt := n_add ev244 (by omega) (by omega)
          refine L_iadd C v244 (oDec_at oLw_9 28 rfl) ev244 ?_
          refine L_sld C ⟨by omega, by omega⟩ (oDec_at oLw_9 29 rfl) ?_
          rw [show xs v244.toNatClampNeg = v238 from by rw [show v244.toNatClampNeg = v237.toNatClampNeg by have q1 := n_nat v244; have q2 := n_nat v237; omega]; exact ev238]
          refine L_aload_n C (j := 0) (oDec_at oLw_9 30 rfl) rfl rfl ?_
          refine L_iload_n C (j := 3) (oDec_at oLw_9 31 rfl) rfl rfl ?_
          refine L_iconst C (oDec_at oLw_9 32 rfl) (v := k2) (by rw [qk2]; rfl) ?_
          obtain ⟨v246, ev246⟩ : ∃ z : Int32, z = x3 + k2 := ⟨_, rfl⟩
          have hv246 : v246.toInt = x3.toInt + k2.toInt := n_add ev246 (by omega) (by omega)
          refine L_iadd C v246 (oDec_at oLw_9 33 rfl) ev246 ?_
          refine L_sld C ⟨by omega, by omega⟩ (oDec_at oLw_9 34 rfl) ?_
          rw [show xs v246.toNatClampNeg = v240 from by rw [show v246.toNatClampNeg = v239.toNatClampNeg by have q1 := n_nat v246; have q2 := n_nat v239; omega]; exact ev240]
          refine L_if_eq C 770 (oDec_at oLw_9 35 rfl) (by decide) (fun cd248 => ?_) (fun cd248 => ?_)
          · skip
            refine L_iconst C (oDec_at oLw_9 38 rfl) (v := k0) (by rw [qk0]; rfl) ?_
            refine L_callVi C oCl12 rfl miX12_span mlL_83 (ct_X12_span l E (u242) v238 k0 (by omega)) (by decide) rfl rfl rfl (Nat.le_of_ble_eq_true rfl) (oDec_at oLw_9 39 rfl) (fun r250 u249 pu249 fu249 => ?_)
            try dsimp only at pu249
            have hxu249 := oFr_nil fu249; subst hxu249
            refine L_pc C 774 rfl ?_
            refine L_pop C (oDec_at oLw_9 40 rfl) rfl ?_
            refine L_goto C (tgt := 1453) (oDec_at oLw_9 41 rfl) (by decide) ?_
            obtain ⟨v251, ev251⟩ : ∃ z : Int32, x3 + Int32.ofInt 6 = z := ⟨_, rfl⟩
            have hv251 : v251.toInt = x3.toInt + 6 := n_inc ev251 (by decide) (by omega) (by omega)
            refine L_iinc C (j := 3) (lv' := [(0, .ref b), (1, .ref (oad E 0)), (2, .ref (oad E 71)), (3, .int v251)]) v251 [1, 2, 3, 0] (oDec_at oLw_20 21 rfl) rfl ev251 (by decide) rfl ?_
            refine L_goto C (tgt := 18) (oDec_at oLw_20 22 rfl) (by decide) ?_
            have lk252 : ((u242).1 71 38).toInt = (t.1 71 38).toInt := congrArg Int32.toInt ((fu242 71 38 rfl).1)
            have lk253 : ((u242).1 71 42).toInt = (t.1 71 42).toInt := congrArg Int32.toInt ((fu242 71 42 rfl).1)
            exact ih (n - 1) (by omega) (u242) v251 (oLT_fr fu242 rfl iv0) (by omega) (oBI_fr fu242 rfl iv2) (by omega) (by omega)
          · skip
            refine L_iconst C (oDec_at oLw_9 36 rfl) (v := k1) (by rw [qk1]; rfl) ?_
            refine L_goto C (tgt := 771) (oDec_at oLw_9 37 rfl) (by decide) ?_
            refine L_callVi C oCl12 rfl miX12_span mlL_83 (ct_X12_span l E (u242) v238 k1 (by omega)) (by decide) rfl rfl rfl (Nat.le_of_ble_eq_true rfl) (oDec_at oLw_9 39 rfl) (fun r255 u254 pu254 fu254 => ?_)
            try dsimp only at pu254
            have hxu254 := oFr_nil fu254; subst hxu254
            refine L_pc C 774 rfl ?_
            refine L_pop C (oDec_at oLw_9 40 rfl) rfl ?_
            refine L_goto C (tgt := 1453) (oDec_at oLw_9 41 rfl) (by decide) ?_
            obtain ⟨v256, ev256⟩ : ∃ z : Int32, x3 + Int32.ofInt 6 = z := ⟨_, rfl⟩
            have hv256 : v256.toInt = x3.toInt + 6 := n_inc ev256 (by decide) (by omega) (by omega)
            refine L_iinc C (j := 3) (lv' := [(0, .ref b), (1, .ref (oad E 0)), (2, .ref (oad E 71)), (3, .int v256)]) v256 [1, 2, 3, 0] (oDec_at oLw_20 21 rfl) rfl ev256 (by decide) rfl ?_
            refine L_goto C (tgt := 18) (oDec_at oLw_20 22 rfl) (by decide) ?_
            have lk257 : ((u242).1 71 38).toInt = (t.1 71 38).toInt := congrArg Int32.toInt ((fu242 71 38 rfl).1)
            have lk258 : ((u242).1 71 42).toInt = (t.1 71 42).toInt := congrArg Int32.toInt ((fu242 71 42 rfl).1)
            exact ih (n - 1) (by omega) (u242) v256 (oLT_fr fu242 rfl iv0) (by omega) (oBI_fr fu242 rfl iv2) (by omega) (by omega)
        · skip
          refine L_iconst C (oDec_at oLw_9 19 rfl) (v := k1) (by rw [qk1]; rfl) ?_
          refine L_goto C (tgt := 748) (oDec_at oLw_9 20 rfl) (by decide) ?_
          refine L_callVi C oCl11 rfl miX11_span mlL_79 (ct_X11_span l E (t) v238 k1 (by omega)) (by decide) rfl rfl rfl (Nat.le_of_ble_eq_true rfl) (oDec_at oLw_9 22 rfl) (fun r260 u259 pu259 fu259 => ?_)
          try dsimp only at pu259
          refine L_pc C 751 rfl ?_
          refine L_pop C (oDec_at oLw_9 23 rfl) rfl ?_
          refine L_aload_n C (j := 2) (oDec_at oLw_9 24 rfl) rfl rfl ?_
          refine L_aload_n C (j := 0) (oDec_at oLw_9 25 rfl) rfl rfl ?_
          refine L_iload_n C (j := 3) (oDec_at oLw_9 26 rfl) rfl rfl ?_
          refine L_iconst C (oDec_at oLw_9 27 rfl) (v := k1) (by rw [qk1]; rfl) ?_
          obtain ⟨v261, ev261⟩ : ∃ z : Int32, z = x3 + k1 := ⟨_, rfl⟩
          have hv261 : v261.toInt = x3.toInt + k1.toInt := n_add ev261 (by omega) (by omega)
          refine L_iadd C v261 (oDec_at oLw_9 28 rfl) ev261 ?_
          refine L_sld C ⟨by omega, by omega⟩ (oDec_at oLw_9 29 rfl) ?_
          rw [show xs v261.toNatClampNeg = v238 from by rw [show v261.toNatClampNeg = v237.toNatClampNeg by have q1 := n_nat v261; have q2 := n_nat v237; omega]; exact ev238]
          refine L_aload_n C (j := 0) (oDec_at oLw_9 30 rfl) rfl rfl ?_
          refine L_iload_n C (j := 3) (oDec_at oLw_9 31 rfl) rfl rfl ?_
          refine L_iconst C (oDec_at oLw_9 32 rfl) (v := k2) (by rw [qk2]; rfl) ?_
          obtain ⟨v263, ev263⟩ : ∃ z : Int32, z = x3 + k2 := ⟨_, rfl⟩
          have hv263 : v263.toInt = x3.toInt + k2.toInt := n_add ev263 (by omega) (by omega)
          refine L_iadd C v263 (oDec_at oLw_9 33 rfl) ev263 ?_
          refine L_sld C ⟨by omega, by omega⟩ (oDec_at oLw_9 34 rfl) ?_
          rw [show xs v263.toNatClampNeg = v240 from by rw [show v263.toNatClampNeg = v239.toNatClampNeg by have q1 := n_nat v263; have q2 := n_nat v239; omega]; exact ev240]
          refine L_if_eq C 770 (oDec_at oLw_9 35 rfl) (by decide) (fun cd265 => ?_) (fun cd265 => ?_)
          · skip
            refine L_iconst C (oDec_at oLw_9 38 rfl) (v := k0) (by rw [qk0]; rfl) ?_
            refine L_callVi C oCl12 rfl miX12_span mlL_83 (ct_X12_span l E (u259) v238 k0 (by omega)) (by decide) rfl rfl rfl (Nat.le_of_ble_eq_true rfl) (oDec_at oLw_9 39 rfl) (fun r267 u266 pu266 fu266 => ?_)
            try dsimp only at pu266
            have hxu266 := oFr_nil fu266; subst hxu266
            refine L_pc C 774 rfl ?_
            refine L_pop C (oDec_at oLw_9 40 rfl) rfl ?_
            refine L_goto C (tgt := 1453) (oDec_at oLw_9 41 rfl) (by decide) ?_
            obtain ⟨v268, ev268⟩ : ∃ z : Int32, x3 + Int32.ofInt 6 = z := ⟨_, rfl⟩
            have hv268 : v268.toInt = x3.toInt + 6 := n_inc ev268 (by decide) (by omega) (by omega)
            refine L_iinc C (j := 3) (lv' := [(0, .ref b), (1, .ref (oad E 0)), (2, .ref (oad E 71)), (3, .int v268)]) v268 [1, 2, 3, 0] (oDec_at oLw_20 21 rfl) rfl ev268 (by decide) rfl ?_
            refine L_goto C (tgt := 18) (oDec_at oLw_20 22 rfl) (by decide) ?_
            have lk269 : ((u259).1 71 38).toInt = (t.1 71 38).toInt := congrArg Int32.toInt ((fu259 71 38 rfl).1)
            have lk270 : ((u259).1 71 42).toInt = (t.1 71 42).toInt := congrArg Int32.toInt ((fu259 71 42 rfl).1)
            exact ih (n - 1) (by omega) (u259) v268 (oLT_fr fu259 rfl iv0) (by omega) (oBI_fr fu259 rfl iv2) (by omega) (by omega)
          · skip
            refine L_iconst C (oDec_at oLw_9 36 rfl) (v := k1) (by rw [qk1]; rfl) ?_
            refine L_goto C (tgt := 771) (oDec_at oLw_9 37 rfl) (by decide) ?_
            refine L_callVi C oCl12 rfl miX12_span mlL_83 (ct_X12_span l E (u259) v238 k1 (by omega)) (by decide) rfl rfl rfl (Nat.le_of_ble_eq_true rfl) (oDec_at oLw_9 39 rfl) (fun r272 u271 pu271 fu271 => ?_)
            try dsimp only at pu271
            have hxu271 := oFr_nil fu271; subst hxu271
            refine L_pc C 774 rfl ?_
            refine L_pop C (oDec_at oLw_9 40 rfl) rfl ?_
            refine L_goto C (tgt := 1453) (oDec_at oLw_9 41 rfl) (by decide) ?_
            obtain ⟨v273, ev273⟩ : ∃ z : Int32, x3 + Int32.ofInt 6 = z := ⟨_, rfl⟩
            have hv273 : v273.toInt = x3.toInt + 6 := n_inc ev273 (by decide) (by omega) (by omega)
            refine L_iinc C (j := 3) (lv' := [(0, .ref b), (1, .ref (oad E 0)), (2, .ref (oad E 71)), (3, .int v273)]) v273 [1, 2, 3, 0] (oDec_at oLw_20 21 rfl) rfl ev273 (by decide) rfl ?_
            refine L_goto C (tgt := 18) (oDec_at oLw_20 22 rfl) (by decide) ?_
            have lk274 : ((u259).1 71 38).toInt = (t.1 71 38).toInt := congrArg Int32.toInt ((fu259 71 38 rfl).1)
            have lk275 : ((u259).1 71 42).toInt = (t.1 71 42).toInt := congrArg Int32.toInt ((fu259 71 42 rfl).1)
            exact ih (n - 1) (by omega) (u259) v273 (oLT_fr fu259 rfl iv0) (by omega) (oBI_fr fu259 rfl iv2) (by omega) (by omega)
      by_cases cd6_16 : v5.toInt = 16
      · refine L_tableIn C 778 (oDec_at oLw_0 21 rfl) (by omega) (by omega) (by rw [cd6_16]; rfl) (by decide) ?_
        skip
        refine L_aload_n C (j := 1) (oDec_at oLw_9 42 rfl) rfl rfl ?_
        refine L_aload_n C (j := 0) (oDec_at oLw_9 43 rfl) rfl rfl ?_
        refine L_iload_n C (j := 3) (oDec_at oLw_9 44 rfl) rfl rfl ?_
        refine L_iconst C (oDec_at oLw_9 45 rfl) (v := k1) (by rw [qk1]; rfl) ?_
        obtain ⟨v276, ev276⟩ : ∃ z : Int32, z = x3 + k1 := ⟨_, rfl⟩
        have hv276 : v276.toInt = x3.toInt + k1.toInt := n_add ev276 (by omega) (by omega)
        refine L_iadd C v276 (oDec_at oLw_9 46 rfl) ev276 ?_
        refine L_sld C ⟨by omega, by omega⟩ (oDec_at oLw_9 47 rfl) ?_
        obtain ⟨v277, ev277⟩ : ∃ z : Int32, xs v276.toNatClampNeg = z := ⟨_, rfl⟩
        rw [ev277]
        have rv277 := n_rng v277
        refine L_callVi C oCl11 rfl miX11_ways mlL_84 (ct_X11_ways l E (t) v277 ) (by decide) rfl rfl rfl (Nat.le_of_ble_eq_true rfl) (oDec_at oLw_9 48 rfl) (fun r279 u278 pu278 fu278 => ?_)
        try dsimp only at pu278
        refine L_pc C 787 rfl ?_
        refine L_pop C (oDec_at oLw_9 49 rfl) rfl ?_
        refine L_aload_n C (j := 2) (oDec_at oLw_10 0 rfl) rfl rfl ?_
        refine L_aload_n C (j := 0) (oDec_at oLw_10 1 rfl) rfl rfl ?_
        refine L_iload_n C (j := 3) (oDec_at oLw_10 2 rfl) rfl rfl ?_
        refine L_iconst C (oDec_at oLw_10 3 rfl) (v := k1) (by rw [qk1]; rfl) ?_
        obtain ⟨v280, ev280⟩ : ∃ z : Int32, z = x3 + k1 := ⟨_, rfl⟩
        have hv280 : v280.toInt = x3.toInt + k1.toInt := n_add ev280 (by omega) (by omega)
        refine L_iadd C v280 (oDec_at oLw_10 4 rfl) ev280 ?_
        refine L_sld C ⟨by omega, by omega⟩ (oDec_at oLw_10 5 rfl) ?_
        rw [show xs v280.toNatClampNeg = v277 from by rw [show v280.toNatClampNeg = v276.toNatClampNeg by have q1 := n_nat v280; have q2 := n_nat v276; omega]; exact ev277]
        refine L_callVi C oCl12 rfl miX12_ways mlL_87 (ct_X12_ways l E (u278) v277 (oBI_fr fu278 rfl iv2)) (by decide) rfl rfl rfl (Nat.le_of_ble_eq_true rfl) (oDec_at oLw_10 6 rfl) (fun r283 u282 pu282 fu282 => ?_)
        try dsimp only at pu282
        refine L_pc C 797 rfl ?_
        refine L_pop C (oDec_at oLw_10 7 rfl) rfl ?_
        refine L_goto C (tgt := 1453) (oDec_at oLw_10 8 rfl) (by decide) ?_
        obtain ⟨v284, ev284⟩ : ∃ z : Int32, x3 + Int32.ofInt 6 = z := ⟨_, rfl⟩
        have hv284 : v284.toInt = x3.toInt + 6 := n_inc ev284 (by decide) (by omega) (by omega)
        refine L_iinc C (j := 3) (lv' := [(0, .ref b), (1, .ref (oad E 0)), (2, .ref (oad E 71)), (3, .int v284)]) v284 [1, 2, 3, 0] (oDec_at oLw_20 21 rfl) rfl ev284 (by decide) rfl ?_
        refine L_goto C (tgt := 18) (oDec_at oLw_20 22 rfl) (by decide) ?_
        have lk285 : ((u282).1 71 38).toInt = (t.1 71 38).toInt := congrArg Int32.toInt (((fu282 71 38 rfl).1).trans ((fu278 71 38 rfl).1))
        have lk286 : ((u282).1 71 42).toInt = (t.1 71 42).toInt := congrArg Int32.toInt (((fu282 71 42 rfl).1).trans ((fu278 71 42 rfl).1))
        exact ih (n - 1) (by omega) (u282) v284 (oLT_fr fu282 rfl (oLT_fr fu278 rfl iv0)) (by omega) (oBI_fr fu282 rfl (oBI_fr fu278 rfl iv2)) (by omega) (by omega)
      by_cases cd6_17 : v5.toInt = 17
      · refine L_tableIn C 801 (oDec_at oLw_0 21 rfl) (by omega) (by omega) (by rw [cd6_17]; rfl) (by decide) ?_
        skip
        refine L_aload_n C (j := 1) (oDec_at oLw_10 9 rfl) rfl rfl ?_
        refine L_aload_n C (j := 0) (oDec_at oLw_10 10 rfl) rfl rfl ?_
        refine L_iload_n C (j := 3) (oDec_at oLw_10 11 rfl) rfl rfl ?_
        refine L_iconst C (oDec_at oLw_10 12 rfl) (v := k1) (by rw [qk1]; rfl) ?_
        obtain ⟨v287, ev287⟩ : ∃ z : Int32, z = x3 + k1 := ⟨_, rfl⟩
        have hv287 : v287.toInt = x3.toInt + k1.toInt := n_add ev287 (by omega) (by omega)
        refine L_iadd C v287 (oDec_at oLw_10 13 rfl) ev287 ?_
        refine L_sld C ⟨by omega, by omega⟩ (oDec_at oLw_10 14 rfl) ?_
        obtain ⟨v288, ev288⟩ : ∃ z : Int32, xs v287.toNatClampNeg = z := ⟨_, rfl⟩
        rw [ev288]
        have rv288 := n_rng v288
        refine L_aload_n C (j := 0) (oDec_at oLw_10 15 rfl) rfl rfl ?_
        refine L_iload_n C (j := 3) (oDec_at oLw_10 16 rfl) rfl rfl ?_
        refine L_iconst C (oDec_at oLw_10 17 rfl) (v := k2) (by rw [qk2]; rfl) ?_
        obtain ⟨v289, ev289⟩ : ∃ z : Int32, z = x3 + k2 := ⟨_, rfl⟩
        have hv289 : v289.toInt = x3.toInt + k2.toInt := n_add ev289 (by omega) (by omega)
        refine L_iadd C v289 (oDec_at oLw_10 18 rfl) ev289 ?_
        refine L_sld C ⟨by omega, by omega⟩ (oDec_at oLw_10 19 rfl) ?_
        obtain ⟨v290, ev290⟩ : ∃ z : Int32, xs v289.toNatClampNeg = z := ⟨_, rfl⟩
        rw [ev290]
        have rv290 := n_rng v290
        refine L_aload_n C (j := 0) (oDec_at oLw_10 20 rfl) rfl rfl ?_
        refine L_iload_n C (j := 3) (oDec_at oLw_10 21 rfl) rfl rfl ?_
        refine L_iconst C (oDec_at oLw_10 22 rfl) (v := k3) (by rw [qk3]; rfl) ?_
        obtain ⟨v291, ev291⟩ : ∃ z : Int32, z = x3 + k3 := ⟨_, rfl⟩
        have hv291 : v291.toInt = x3.toInt + k3.toInt := n_add ev291 (by omega) (by omega)
        refine L_iadd C v291 (oDec_at oLw_10 23 rfl) ev291 ?_
        refine L_sld C ⟨by omega, by omega⟩ (oDec_at oLw_10 24 rfl) ?_
        obtain ⟨v292, ev292⟩ : ∃ z : Int32, xs v291.toNatClampNeg = z := ⟨_, rfl⟩
        rw [ev292]
        have rv292 := n_rng v292
        refine L_callVi C oCl11 rfl miX11_way mlL_88 (ct_X11_way l E (t) v288 v290 v292 ) (by decide) rfl rfl rfl (Nat.le_of_ble_eq_true rfl) (oDec_at oLw_10 25 rfl) (fun r294 u293 pu293 fu293 => ?_)
        try dsimp only at pu293
        refine L_pc C 820 rfl ?_
        refine L_pop C (oDec_at oLw_10 26 rfl) rfl ?_
        refine L_aload_n C (j := 2) (oDec_at oLw_10 27 rfl) rfl rfl ?_
        refine L_aload_n C (j := 0) (oDec_at oLw_10 28 rfl) rfl rfl ?_
        refine L_iload_n C (j := 3) (oDec_at oLw_10 29 rfl) rfl rfl ?_
        refine L_iconst C (oDec_at oLw_10 30 rfl) (v := k1) (by rw [qk1]; rfl) ?_
        obtain ⟨v295, ev295⟩ : ∃ z : Int32, z = x3 + k1 := ⟨_, rfl⟩
        have hv295 : v295.toInt = x3.toInt + k1.toInt := n_add ev295 (by omega) (by omega)
        refine L_iadd C v295 (oDec_at oLw_10 31 rfl) ev295 ?_
        refine L_sld C ⟨by omega, by omega⟩ (oDec_at oLw_10 32 rfl) ?_
        rw [show xs v295.toNatClampNeg = v288 from by rw [show v295.toNatClampNeg = v287.toNatClampNeg by have q1 := n_nat v295; have q2 := n_nat v287; omega]; exact ev288]
        refine L_aload_n C (j := 0) (oDec_at oLw_10 33 rfl) rfl rfl ?_
        refine L_iload_n C (j := 3) (oDec_at oLw_10 34 rfl) rfl rfl ?_
        refine L_iconst C (oDec_at oLw_10 35 rfl) (v := k2) (by rw [qk2]; rfl) ?_
        obtain ⟨v297, ev297⟩ : ∃ z : Int32, z = x3 + k2 := ⟨_, rfl⟩
        have hv297 : v297.toInt = x3.toInt + k2.toInt := n_add ev297 (by omega) (by omega)
        refine L_iadd C v297 (oDec_at oLw_10 36 rfl) ev297 ?_
        refine L_sld C ⟨by omega, by omega⟩ (oDec_at oLw_10 37 rfl) ?_
        rw [show xs v297.toNatClampNeg = v290 from by rw [show v297.toNatClampNeg = v289.toNatClampNeg by have q1 := n_nat v297; have q2 := n_nat v289; omega]; exact ev290]
        refine L_aload_n C (j := 0) (oDec_at oLw_10 38 rfl) rfl rfl ?_
        refine L_iload_n C (j := 3) (oDec_at oLw_10 39 rfl) rfl rfl ?_
        refine L_iconst C (oDec_at oLw_10 40 rfl) (v := k3) (by rw [qk3]; rfl) ?_
        obtain ⟨v299, ev299⟩ : ∃ z : Int32, z = x3 + k3 := ⟨_, rfl⟩
        have hv299 : v299.toInt = x3.toInt + k3.toInt := n_add ev299 (by omega) (by omega)
        refine L_iadd C v299 (oDec_at oLw_10 41 rfl) ev299 ?_
        refine L_sld C ⟨by omega, by omega⟩ (oDec_at oLw_10 42 rfl) ?_
        rw [show xs v299.toNatClampNeg = v292 from by rw [show v299.toNatClampNeg = v291.toNatClampNeg by have q1 := n_nat v299; have q2 := n_nat v291; omega]; exact ev292]
        refine L_callVi C oCl12 rfl miX12_way mlL_91 (ct_X12_way l E (u293) v288 v290 v292 (oBI_fr fu293 rfl iv2)) (by decide) rfl rfl rfl (Nat.le_of_ble_eq_true rfl) (oDec_at oLw_10 43 rfl) (fun r302 u301 pu301 fu301 => ?_)
        try dsimp only at pu301
        refine L_pc C 840 rfl ?_
        refine L_pop C (oDec_at oLw_10 44 rfl) rfl ?_
        refine L_goto C (tgt := 1453) (oDec_at oLw_10 45 rfl) (by decide) ?_
        obtain ⟨v303, ev303⟩ : ∃ z : Int32, x3 + Int32.ofInt 6 = z := ⟨_, rfl⟩
        have hv303 : v303.toInt = x3.toInt + 6 := n_inc ev303 (by decide) (by omega) (by omega)
        refine L_iinc C (j := 3) (lv' := [(0, .ref b), (1, .ref (oad E 0)), (2, .ref (oad E 71)), (3, .int v303)]) v303 [1, 2, 3, 0] (oDec_at oLw_20 21 rfl) rfl ev303 (by decide) rfl ?_
        refine L_goto C (tgt := 18) (oDec_at oLw_20 22 rfl) (by decide) ?_
        have lk304 : ((u301).1 71 38).toInt = (t.1 71 38).toInt := congrArg Int32.toInt (((fu301 71 38 rfl).1).trans ((fu293 71 38 rfl).1))
        have lk305 : ((u301).1 71 42).toInt = (t.1 71 42).toInt := congrArg Int32.toInt (((fu301 71 42 rfl).1).trans ((fu293 71 42 rfl).1))
        exact ih (n - 1) (by omega) (u301) v303 (oLT_fr fu301 rfl (oLT_fr fu293 rfl iv0)) (by omega) (oBI_fr fu301 rfl (oBI_fr fu293 rfl iv2)) (by omega) (by omega)
      by_cases cd6_18 : v5.toInt = 18
      · refine L_tableIn C 844 (oDec_at oLw_0 21 rfl) (by omega) (by omega) (by rw [cd6_18]; rfl) (by decide) ?_
        skip
        refine L_aload_n C (j := 1) (oDec_at oLw_10 46 rfl) rfl rfl ?_
        refine L_aload_n C (j := 0) (oDec_at oLw_10 47 rfl) rfl rfl ?_
        refine L_iload_n C (j := 3) (oDec_at oLw_10 48 rfl) rfl rfl ?_
        refine L_iconst C (oDec_at oLw_10 49 rfl) (v := k1) (by rw [qk1]; rfl) ?_
        obtain ⟨v306, ev306⟩ : ∃ z : Int32, z = x3 + k1 := ⟨_, rfl⟩
        have hv306 : v306.toInt = x3.toInt + k1.toInt := n_add ev306 (by omega) (by omega)
        refine L_iadd C v306 (oDec_at oLw_11 0 rfl) ev306 ?_
        refine L_sld C ⟨by omega, by omega⟩ (oDec_at oLw_11 1 rfl) ?_
        obtain ⟨v307, ev307⟩ : ∃ z : Int32, xs v306.toNatClampNeg = z := ⟨_, rfl⟩
        rw [ev307]
        have rv307 := n_rng v307
        refine L_callVi C oCl11 rfl miX11_signs mlL_92 (ct_X11_signs l E (t) v307 ) (by decide) rfl rfl rfl (Nat.le_of_ble_eq_true rfl) (oDec_at oLw_11 2 rfl) (fun r309 u308 pu308 fu308 => ?_)
        try dsimp only at pu308
        refine L_pc C 853 rfl ?_
        refine L_pop C (oDec_at oLw_11 3 rfl) rfl ?_
        refine L_aload_n C (j := 2) (oDec_at oLw_11 4 rfl) rfl rfl ?_
        refine L_aload_n C (j := 0) (oDec_at oLw_11 5 rfl) rfl rfl ?_
        refine L_iload_n C (j := 3) (oDec_at oLw_11 6 rfl) rfl rfl ?_
        refine L_iconst C (oDec_at oLw_11 7 rfl) (v := k1) (by rw [qk1]; rfl) ?_
        obtain ⟨v310, ev310⟩ : ∃ z : Int32, z = x3 + k1 := ⟨_, rfl⟩
        have hv310 : v310.toInt = x3.toInt + k1.toInt := n_add ev310 (by omega) (by omega)
        refine L_iadd C v310 (oDec_at oLw_11 8 rfl) ev310 ?_
        refine L_sld C ⟨by omega, by omega⟩ (oDec_at oLw_11 9 rfl) ?_
        rw [show xs v310.toNatClampNeg = v307 from by rw [show v310.toNatClampNeg = v306.toNatClampNeg by have q1 := n_nat v310; have q2 := n_nat v306; omega]; exact ev307]
        refine L_callVi C oCl12 rfl miX12_signs mlL_95 (ct_X12_signs l E (u308) v307 (oBI_fr fu308 rfl iv2)) (by decide) rfl rfl rfl (Nat.le_of_ble_eq_true rfl) (oDec_at oLw_11 10 rfl) (fun r313 u312 pu312 fu312 => ?_)
        try dsimp only at pu312
        refine L_pc C 863 rfl ?_
        refine L_pop C (oDec_at oLw_11 11 rfl) rfl ?_
        refine L_goto C (tgt := 1453) (oDec_at oLw_11 12 rfl) (by decide) ?_
        obtain ⟨v314, ev314⟩ : ∃ z : Int32, x3 + Int32.ofInt 6 = z := ⟨_, rfl⟩
        have hv314 : v314.toInt = x3.toInt + 6 := n_inc ev314 (by decide) (by omega) (by omega)
        refine L_iinc C (j := 3) (lv' := [(0, .ref b), (1, .ref (oad E 0)), (2, .ref (oad E 71)), (3, .int v314)]) v314 [1, 2, 3, 0] (oDec_at oLw_20 21 rfl) rfl ev314 (by decide) rfl ?_
        refine L_goto C (tgt := 18) (oDec_at oLw_20 22 rfl) (by decide) ?_
        have lk315 : ((u312).1 71 38).toInt = (t.1 71 38).toInt := congrArg Int32.toInt (((fu312 71 38 rfl).1).trans ((fu308 71 38 rfl).1))
        have lk316 : ((u312).1 71 42).toInt = (t.1 71 42).toInt := congrArg Int32.toInt (((fu312 71 42 rfl).1).trans ((fu308 71 42 rfl).1))
        exact ih (n - 1) (by omega) (u312) v314 (oLT_fr fu312 rfl (oLT_fr fu308 rfl iv0)) (by omega) (oBI_fr fu312 rfl (oBI_fr fu308 rfl iv2)) (by omega) (by omega)
      by_cases cd6_19 : v5.toInt = 19
      · refine L_tableIn C 867 (oDec_at oLw_0 21 rfl) (by omega) (by omega) (by rw [cd6_19]; rfl) (by decide) ?_
        skip
        refine L_aload_n C (j := 1) (oDec_at oLw_11 13 rfl) rfl rfl ?_
        refine L_aload_n C (j := 0) (oDec_at oLw_11 14 rfl) rfl rfl ?_
        refine L_iload_n C (j := 3) (oDec_at oLw_11 15 rfl) rfl rfl ?_
        refine L_iconst C (oDec_at oLw_11 16 rfl) (v := k1) (by rw [qk1]; rfl) ?_
        obtain ⟨v317, ev317⟩ : ∃ z : Int32, z = x3 + k1 := ⟨_, rfl⟩
        have hv317 : v317.toInt = x3.toInt + k1.toInt := n_add ev317 (by omega) (by omega)
        refine L_iadd C v317 (oDec_at oLw_11 17 rfl) ev317 ?_
        refine L_sld C ⟨by omega, by omega⟩ (oDec_at oLw_11 18 rfl) ?_
        obtain ⟨v318, ev318⟩ : ∃ z : Int32, xs v317.toNatClampNeg = z := ⟨_, rfl⟩
        rw [ev318]
        have rv318 := n_rng v318
        refine L_aload_n C (j := 0) (oDec_at oLw_11 19 rfl) rfl rfl ?_
        refine L_iload_n C (j := 3) (oDec_at oLw_11 20 rfl) rfl rfl ?_
        refine L_iconst C (oDec_at oLw_11 21 rfl) (v := k2) (by rw [qk2]; rfl) ?_
        obtain ⟨v319, ev319⟩ : ∃ z : Int32, z = x3 + k2 := ⟨_, rfl⟩
        have hv319 : v319.toInt = x3.toInt + k2.toInt := n_add ev319 (by omega) (by omega)
        refine L_iadd C v319 (oDec_at oLw_11 22 rfl) ev319 ?_
        refine L_sld C ⟨by omega, by omega⟩ (oDec_at oLw_11 23 rfl) ?_
        obtain ⟨v320, ev320⟩ : ∃ z : Int32, xs v319.toNatClampNeg = z := ⟨_, rfl⟩
        rw [ev320]
        have rv320 := n_rng v320
        refine L_callVi C oCl11 rfl miX11_like mlL_96 (ct_X11_like l E (t) v318 v320 ) (by decide) rfl rfl rfl (Nat.le_of_ble_eq_true rfl) (oDec_at oLw_11 24 rfl) (fun r322 u321 pu321 fu321 => ?_)
        try dsimp only at pu321
        refine L_pc C 881 rfl ?_
        refine L_pop C (oDec_at oLw_11 25 rfl) rfl ?_
        refine L_aload_n C (j := 2) (oDec_at oLw_11 26 rfl) rfl rfl ?_
        refine L_aload_n C (j := 0) (oDec_at oLw_11 27 rfl) rfl rfl ?_
        refine L_iload_n C (j := 3) (oDec_at oLw_11 28 rfl) rfl rfl ?_
        refine L_iconst C (oDec_at oLw_11 29 rfl) (v := k1) (by rw [qk1]; rfl) ?_
        obtain ⟨v323, ev323⟩ : ∃ z : Int32, z = x3 + k1 := ⟨_, rfl⟩
        have hv323 : v323.toInt = x3.toInt + k1.toInt := n_add ev323 (by omega) (by omega)
        refine L_iadd C v323 (oDec_at oLw_11 30 rfl) ev323 ?_
        refine L_sld C ⟨by omega, by omega⟩ (oDec_at oLw_11 31 rfl) ?_
        rw [show xs v323.toNatClampNeg = v318 from by rw [show v323.toNatClampNeg = v317.toNatClampNeg by have q1 := n_nat v323; have q2 := n_nat v317; omega]; exact ev318]
        refine L_aload_n C (j := 0) (oDec_at oLw_11 32 rfl) rfl rfl ?_
        refine L_iload_n C (j := 3) (oDec_at oLw_11 33 rfl) rfl rfl ?_
        refine L_iconst C (oDec_at oLw_11 34 rfl) (v := k2) (by rw [qk2]; rfl) ?_
        obtain ⟨v325, ev325⟩ : ∃ z : Int32, z = x3 + k2 := ⟨_, rfl⟩
        have hv325 : v325.toInt = x3.toInt + k2.toInt := n_add ev325 (by omega) (by omega)
        refine L_iadd C v325 (oDec_at oLw_11 35 rfl) ev325 ?_
        refine L_sld C ⟨by omega, by omega⟩ (oDec_at oLw_11 36 rfl) ?_
        rw [show xs v325.toNatClampNeg = v320 from by rw [show v325.toNatClampNeg = v319.toNatClampNeg by have q1 := n_nat v325; have q2 := n_nat v319; omega]; exact ev320]
        refine L_callVi C oCl12 rfl miX12_like mlL_99 (ct_X12_like l E (u321) v318 v320 (oBI_fr fu321 rfl iv2)) (by decide) rfl rfl rfl (Nat.le_of_ble_eq_true rfl) (oDec_at oLw_11 37 rfl) (fun r328 u327 pu327 fu327 => ?_)
        try dsimp only at pu327
        refine L_pc C 896 rfl ?_
        refine L_pop C (oDec_at oLw_11 38 rfl) rfl ?_
        refine L_goto C (tgt := 1453) (oDec_at oLw_11 39 rfl) (by decide) ?_
        obtain ⟨v329, ev329⟩ : ∃ z : Int32, x3 + Int32.ofInt 6 = z := ⟨_, rfl⟩
        have hv329 : v329.toInt = x3.toInt + 6 := n_inc ev329 (by decide) (by omega) (by omega)
        refine L_iinc C (j := 3) (lv' := [(0, .ref b), (1, .ref (oad E 0)), (2, .ref (oad E 71)), (3, .int v329)]) v329 [1, 2, 3, 0] (oDec_at oLw_20 21 rfl) rfl ev329 (by decide) rfl ?_
        refine L_goto C (tgt := 18) (oDec_at oLw_20 22 rfl) (by decide) ?_
        have lk330 : ((u327).1 71 38).toInt = (t.1 71 38).toInt := congrArg Int32.toInt (((fu327 71 38 rfl).1).trans ((fu321 71 38 rfl).1))
        have lk331 : ((u327).1 71 42).toInt = (t.1 71 42).toInt := congrArg Int32.toInt (((fu327 71 42 rfl).1).trans ((fu321 71 42 rfl).1))
        exact ih (n - 1) (by omega) (u327) v329 (oLT_fr fu327 rfl (oLT_fr fu321 rfl iv0)) (by omega) (oBI_fr fu327 rfl (oBI_fr fu321 rfl iv2)) (by omega) (by omega)
      by_cases cd6_20 : v5.toInt = 20
      · refine L_tableIn C 900 (oDec_at oLw_0 21 rfl) (by omega) (by omega) (by rw [cd6_20]; rfl) (by decide) ?_
        skip
        refine L_aload_n C (j := 1) (oDec_at oLw_11 40 rfl) rfl rfl ?_
        refine L_aload_n C (j := 0) (oDec_at oLw_11 41 rfl) rfl rfl ?_
        refine L_iload_n C (j := 3) (oDec_at oLw_11 42 rfl) rfl rfl ?_
        refine L_iconst C (oDec_at oLw_11 43 rfl) (v := k1) (by rw [qk1]; rfl) ?_
        obtain ⟨v332, ev332⟩ : ∃ z : Int32, z = x3 + k1 := ⟨_, rfl⟩
        have hv332 : v332.toInt = x3.toInt + k1.toInt := n_add ev332 (by omega) (by omega)
        refine L_iadd C v332 (oDec_at oLw_11 44 rfl) ev332 ?_
        refine L_sld C ⟨by omega, by omega⟩ (oDec_at oLw_11 45 rfl) ?_
        obtain ⟨v333, ev333⟩ : ∃ z : Int32, xs v332.toNatClampNeg = z := ⟨_, rfl⟩
        rw [ev333]
        have rv333 := n_rng v333
        refine L_aload_n C (j := 0) (oDec_at oLw_11 46 rfl) rfl rfl ?_
        refine L_iload_n C (j := 3) (oDec_at oLw_11 47 rfl) rfl rfl ?_
        refine L_iconst C (oDec_at oLw_11 48 rfl) (v := k2) (by rw [qk2]; rfl) ?_
        obtain ⟨v334, ev334⟩ : ∃ z : Int32, z = x3 + k2 := ⟨_, rfl⟩
        have hv334 : v334.toInt = x3.toInt + k2.toInt := n_add ev334 (by omega) (by omega)
        refine L_iadd C v334 (oDec_at oLw_11 49 rfl) ev334 ?_
        refine L_sld C ⟨by omega, by omega⟩ (oDec_at oLw_12 0 rfl) ?_
        obtain ⟨v335, ev335⟩ : ∃ z : Int32, xs v334.toNatClampNeg = z := ⟨_, rfl⟩
        rw [ev335]
        have rv335 := n_rng v335
        refine L_callVi C oCl11 rfl miX11_means mlL_100 (ct_X11_means l E (t) v333 v335 ) (by decide) rfl rfl rfl (Nat.le_of_ble_eq_true rfl) (oDec_at oLw_12 1 rfl) (fun r337 u336 pu336 fu336 => ?_)
        try dsimp only at pu336
        refine L_pc C 914 rfl ?_
        refine L_pop C (oDec_at oLw_12 2 rfl) rfl ?_
        refine L_aload_n C (j := 2) (oDec_at oLw_12 3 rfl) rfl rfl ?_
        refine L_aload_n C (j := 0) (oDec_at oLw_12 4 rfl) rfl rfl ?_
        refine L_iload_n C (j := 3) (oDec_at oLw_12 5 rfl) rfl rfl ?_
        refine L_iconst C (oDec_at oLw_12 6 rfl) (v := k1) (by rw [qk1]; rfl) ?_
        obtain ⟨v338, ev338⟩ : ∃ z : Int32, z = x3 + k1 := ⟨_, rfl⟩
        have hv338 : v338.toInt = x3.toInt + k1.toInt := n_add ev338 (by omega) (by omega)
        refine L_iadd C v338 (oDec_at oLw_12 7 rfl) ev338 ?_
        refine L_sld C ⟨by omega, by omega⟩ (oDec_at oLw_12 8 rfl) ?_
        rw [show xs v338.toNatClampNeg = v333 from by rw [show v338.toNatClampNeg = v332.toNatClampNeg by have q1 := n_nat v338; have q2 := n_nat v332; omega]; exact ev333]
        refine L_aload_n C (j := 0) (oDec_at oLw_12 9 rfl) rfl rfl ?_
        refine L_iload_n C (j := 3) (oDec_at oLw_12 10 rfl) rfl rfl ?_
        refine L_iconst C (oDec_at oLw_12 11 rfl) (v := k2) (by rw [qk2]; rfl) ?_
        obtain ⟨v340, ev340⟩ : ∃ z : Int32, z = x3 + k2 := ⟨_, rfl⟩
        have hv340 : v340.toInt = x3.toInt + k2.toInt := n_add ev340 (by omega) (by omega)
        refine L_iadd C v340 (oDec_at oLw_12 12 rfl) ev340 ?_
        refine L_sld C ⟨by omega, by omega⟩ (oDec_at oLw_12 13 rfl) ?_
        rw [show xs v340.toNatClampNeg = v335 from by rw [show v340.toNatClampNeg = v334.toNatClampNeg by have q1 := n_nat v340; have q2 := n_nat v334; omega]; exact ev335]
        refine L_callVi C oCl12 rfl miX12_means mlL_103 (ct_X12_means l E (u336) v333 v335 (oBI_fr fu336 rfl iv2)) (by decide) rfl rfl rfl (Nat.le_of_ble_eq_true rfl) (oDec_at oLw_12 14 rfl) (fun r343 u342 pu342 fu342 => ?_)
        try dsimp only at pu342
        refine L_pc C 929 rfl ?_
        refine L_pop C (oDec_at oLw_12 15 rfl) rfl ?_
        refine L_goto C (tgt := 1453) (oDec_at oLw_12 16 rfl) (by decide) ?_
        obtain ⟨v344, ev344⟩ : ∃ z : Int32, x3 + Int32.ofInt 6 = z := ⟨_, rfl⟩
        have hv344 : v344.toInt = x3.toInt + 6 := n_inc ev344 (by decide) (by omega) (by omega)
        refine L_iinc C (j := 3) (lv' := [(0, .ref b), (1, .ref (oad E 0)), (2, .ref (oad E 71)), (3, .int v344)]) v344 [1, 2, 3, 0] (oDec_at oLw_20 21 rfl) rfl ev344 (by decide) rfl ?_
        refine L_goto C (tgt := 18) (oDec_at oLw_20 22 rfl) (by decide) ?_
        have lk345 : ((u342).1 71 38).toInt = (t.1 71 38).toInt := congrArg Int32.toInt (((fu342 71 38 rfl).1).trans ((fu336 71 38 rfl).1))
        have lk346 : ((u342).1 71 42).toInt = (t.1 71 42).toInt := congrArg Int32.toInt (((fu342 71 42 rfl).1).trans ((fu336 71 42 rfl).1))
        exact ih (n - 1) (by omega) (u342) v344 (oLT_fr fu342 rfl (oLT_fr fu336 rfl iv0)) (by omega) (oBI_fr fu342 rfl (oBI_fr fu336 rfl iv2)) (by omega) (by omega)
      by_cases cd6_21 : v5.toInt = 21
      · refine L_tableIn C 933 (oDec_at oLw_0 21 rfl) (by omega) (by omega) (by rw [cd6_21]; rfl) (by decide) ?_
        skip
        refine L_aload_n C (j := 1) (oDec_at oLw_12 17 rfl) rfl rfl ?_
        refine L_aload_n C (j := 0) (oDec_at oLw_12 18 rfl) rfl rfl ?_
        refine L_iload_n C (j := 3) (oDec_at oLw_12 19 rfl) rfl rfl ?_
        refine L_iconst C (oDec_at oLw_12 20 rfl) (v := k1) (by rw [qk1]; rfl) ?_
        obtain ⟨v347, ev347⟩ : ∃ z : Int32, z = x3 + k1 := ⟨_, rfl⟩
        have hv347 : v347.toInt = x3.toInt + k1.toInt := n_add ev347 (by omega) (by omega)
        refine L_iadd C v347 (oDec_at oLw_12 21 rfl) ev347 ?_
        refine L_sld C ⟨by omega, by omega⟩ (oDec_at oLw_12 22 rfl) ?_
        obtain ⟨v348, ev348⟩ : ∃ z : Int32, xs v347.toNatClampNeg = z := ⟨_, rfl⟩
        rw [ev348]
        have rv348 := n_rng v348
        refine L_callVi C oCl11 rfl miX11_mean mlL_104 (ct_X11_mean l E (t) v348 ) (by decide) rfl rfl rfl (Nat.le_of_ble_eq_true rfl) (oDec_at oLw_12 23 rfl) (fun r350 u349 pu349 fu349 => ?_)
        try dsimp only at pu349
        refine L_pc C 942 rfl ?_
        refine L_pop C (oDec_at oLw_12 24 rfl) rfl ?_
        refine L_aload_n C (j := 2) (oDec_at oLw_12 25 rfl) rfl rfl ?_
        refine L_aload_n C (j := 0) (oDec_at oLw_12 26 rfl) rfl rfl ?_
        refine L_iload_n C (j := 3) (oDec_at oLw_12 27 rfl) rfl rfl ?_
        refine L_iconst C (oDec_at oLw_12 28 rfl) (v := k1) (by rw [qk1]; rfl) ?_
        obtain ⟨v351, ev351⟩ : ∃ z : Int32, z = x3 + k1 := ⟨_, rfl⟩
        have hv351 : v351.toInt = x3.toInt + k1.toInt := n_add ev351 (by omega) (by omega)
        refine L_iadd C v351 (oDec_at oLw_12 29 rfl) ev351 ?_
        refine L_sld C ⟨by omega, by omega⟩ (oDec_at oLw_12 30 rfl) ?_
        rw [show xs v351.toNatClampNeg = v348 from by rw [show v351.toNatClampNeg = v347.toNatClampNeg by have q1 := n_nat v351; have q2 := n_nat v347; omega]; exact ev348]
        refine L_callVi C oCl12 rfl miX12_mean mlL_107 (ct_X12_mean l E (u349) v348 (oBI_fr fu349 rfl iv2)) (by decide) rfl rfl rfl (Nat.le_of_ble_eq_true rfl) (oDec_at oLw_12 31 rfl) (fun r354 u353 pu353 fu353 => ?_)
        try dsimp only at pu353
        refine L_pc C 952 rfl ?_
        refine L_pop C (oDec_at oLw_12 32 rfl) rfl ?_
        refine L_goto C (tgt := 1453) (oDec_at oLw_12 33 rfl) (by decide) ?_
        obtain ⟨v355, ev355⟩ : ∃ z : Int32, x3 + Int32.ofInt 6 = z := ⟨_, rfl⟩
        have hv355 : v355.toInt = x3.toInt + 6 := n_inc ev355 (by decide) (by omega) (by omega)
        refine L_iinc C (j := 3) (lv' := [(0, .ref b), (1, .ref (oad E 0)), (2, .ref (oad E 71)), (3, .int v355)]) v355 [1, 2, 3, 0] (oDec_at oLw_20 21 rfl) rfl ev355 (by decide) rfl ?_
        refine L_goto C (tgt := 18) (oDec_at oLw_20 22 rfl) (by decide) ?_
        have lk356 : ((u353).1 71 38).toInt = (t.1 71 38).toInt := congrArg Int32.toInt (((fu353 71 38 rfl).1).trans ((fu349 71 38 rfl).1))
        have lk357 : ((u353).1 71 42).toInt = (t.1 71 42).toInt := congrArg Int32.toInt (((fu353 71 42 rfl).1).trans ((fu349 71 42 rfl).1))
        exact ih (n - 1) (by omega) (u353) v355 (oLT_fr fu353 rfl (oLT_fr fu349 rfl iv0)) (by omega) (oBI_fr fu353 rfl (oBI_fr fu349 rfl iv2)) (by omega) (by omega)
      by_cases cd6_22 : v5.toInt = 22
      · refine L_tableIn C 956 (oDec_at oLw_0 21 rfl) (by omega) (by omega) (by rw [cd6_22]; rfl) (by decide) ?_
        skip
        refine L_aload_n C (j := 1) (oDec_at oLw_12 34 rfl) rfl rfl ?_
        refine L_aload_n C (j := 0) (oDec_at oLw_12 35 rfl) rfl rfl ?_
        refine L_iload_n C (j := 3) (oDec_at oLw_12 36 rfl) rfl rfl ?_
        refine L_iconst C (oDec_at oLw_12 37 rfl) (v := k1) (by rw [qk1]; rfl) ?_
        obtain ⟨v358, ev358⟩ : ∃ z : Int32, z = x3 + k1 := ⟨_, rfl⟩
        have hv358 : v358.toInt = x3.toInt + k1.toInt := n_add ev358 (by omega) (by omega)
        refine L_iadd C v358 (oDec_at oLw_12 38 rfl) ev358 ?_
        refine L_sld C ⟨by omega, by omega⟩ (oDec_at oLw_12 39 rfl) ?_
        obtain ⟨v359, ev359⟩ : ∃ z : Int32, xs v358.toNatClampNeg = z := ⟨_, rfl⟩
        rw [ev359]
        have rv359 := n_rng v359
        refine L_callVi C oCl11 rfl miX11_mottos mlL_108 (ct_X11_mottos l E (t) v359 ) (by decide) rfl rfl rfl (Nat.le_of_ble_eq_true rfl) (oDec_at oLw_12 40 rfl) (fun r361 u360 pu360 fu360 => ?_)
        try dsimp only at pu360
        refine L_pc C 965 rfl ?_
        refine L_pop C (oDec_at oLw_12 41 rfl) rfl ?_
        refine L_aload_n C (j := 2) (oDec_at oLw_12 42 rfl) rfl rfl ?_
        refine L_aload_n C (j := 0) (oDec_at oLw_12 43 rfl) rfl rfl ?_
        refine L_iload_n C (j := 3) (oDec_at oLw_12 44 rfl) rfl rfl ?_
        refine L_iconst C (oDec_at oLw_12 45 rfl) (v := k1) (by rw [qk1]; rfl) ?_
        obtain ⟨v362, ev362⟩ : ∃ z : Int32, z = x3 + k1 := ⟨_, rfl⟩
        have hv362 : v362.toInt = x3.toInt + k1.toInt := n_add ev362 (by omega) (by omega)
        refine L_iadd C v362 (oDec_at oLw_12 46 rfl) ev362 ?_
        refine L_sld C ⟨by omega, by omega⟩ (oDec_at oLw_12 47 rfl) ?_
        rw [show xs v362.toNatClampNeg = v359 from by rw [show v362.toNatClampNeg = v358.toNatClampNeg by have q1 := n_nat v362; have q2 := n_nat v358; omega]; exact ev359]
        refine L_callVi C oCl12 rfl miX12_mottos mlL_111 (ct_X12_mottos l E (u360) v359 (oBI_fr fu360 rfl iv2)) (by decide) rfl rfl rfl (Nat.le_of_ble_eq_true rfl) (oDec_at oLw_12 48 rfl) (fun r365 u364 pu364 fu364 => ?_)
        try dsimp only at pu364
        refine L_pc C 975 rfl ?_
        refine L_pop C (oDec_at oLw_12 49 rfl) rfl ?_
        refine L_goto C (tgt := 1453) (oDec_at oLw_13 0 rfl) (by decide) ?_
        obtain ⟨v366, ev366⟩ : ∃ z : Int32, x3 + Int32.ofInt 6 = z := ⟨_, rfl⟩
        have hv366 : v366.toInt = x3.toInt + 6 := n_inc ev366 (by decide) (by omega) (by omega)
        refine L_iinc C (j := 3) (lv' := [(0, .ref b), (1, .ref (oad E 0)), (2, .ref (oad E 71)), (3, .int v366)]) v366 [1, 2, 3, 0] (oDec_at oLw_20 21 rfl) rfl ev366 (by decide) rfl ?_
        refine L_goto C (tgt := 18) (oDec_at oLw_20 22 rfl) (by decide) ?_
        have lk367 : ((u364).1 71 38).toInt = (t.1 71 38).toInt := congrArg Int32.toInt (((fu364 71 38 rfl).1).trans ((fu360 71 38 rfl).1))
        have lk368 : ((u364).1 71 42).toInt = (t.1 71 42).toInt := congrArg Int32.toInt (((fu364 71 42 rfl).1).trans ((fu360 71 42 rfl).1))
        exact ih (n - 1) (by omega) (u364) v366 (oLT_fr fu364 rfl (oLT_fr fu360 rfl iv0)) (by omega) (oBI_fr fu364 rfl (oBI_fr fu360 rfl iv2)) (by omega) (by omega)
      by_cases cd6_23 : v5.toInt = 23
      · refine L_tableIn C 979 (oDec_at oLw_0 21 rfl) (by omega) (by omega) (by rw [cd6_23]; rfl) (by decide) ?_
        skip
        refine L_aload_n C (j := 1) (oDec_at oLw_13 1 rfl) rfl rfl ?_
        refine L_aload_n C (j := 0) (oDec_at oLw_13 2 rfl) rfl rfl ?_
        refine L_iload_n C (j := 3) (oDec_at oLw_13 3 rfl) rfl rfl ?_
        refine L_iconst C (oDec_at oLw_13 4 rfl) (v := k1) (by rw [qk1]; rfl) ?_
        obtain ⟨v369, ev369⟩ : ∃ z : Int32, z = x3 + k1 := ⟨_, rfl⟩
        have hv369 : v369.toInt = x3.toInt + k1.toInt := n_add ev369 (by omega) (by omega)
        refine L_iadd C v369 (oDec_at oLw_13 5 rfl) ev369 ?_
        refine L_sld C ⟨by omega, by omega⟩ (oDec_at oLw_13 6 rfl) ?_
        obtain ⟨v370, ev370⟩ : ∃ z : Int32, xs v369.toNatClampNeg = z := ⟨_, rfl⟩
        rw [ev370]
        have rv370 := n_rng v370
        refine L_callVi C oCl11 rfl miX11_common mlL_112 (ct_X11_common l E (t) v370 ) (by decide) rfl rfl rfl (Nat.le_of_ble_eq_true rfl) (oDec_at oLw_13 7 rfl) (fun r372 u371 pu371 fu371 => ?_)
        try dsimp only at pu371
        refine L_pc C 988 rfl ?_
        refine L_pop C (oDec_at oLw_13 8 rfl) rfl ?_
        refine L_aload_n C (j := 2) (oDec_at oLw_13 9 rfl) rfl rfl ?_
        refine L_aload_n C (j := 0) (oDec_at oLw_13 10 rfl) rfl rfl ?_
        refine L_iload_n C (j := 3) (oDec_at oLw_13 11 rfl) rfl rfl ?_
        refine L_iconst C (oDec_at oLw_13 12 rfl) (v := k1) (by rw [qk1]; rfl) ?_
        obtain ⟨v373, ev373⟩ : ∃ z : Int32, z = x3 + k1 := ⟨_, rfl⟩
        have hv373 : v373.toInt = x3.toInt + k1.toInt := n_add ev373 (by omega) (by omega)
        refine L_iadd C v373 (oDec_at oLw_13 13 rfl) ev373 ?_
        refine L_sld C ⟨by omega, by omega⟩ (oDec_at oLw_13 14 rfl) ?_
        rw [show xs v373.toNatClampNeg = v370 from by rw [show v373.toNatClampNeg = v369.toNatClampNeg by have q1 := n_nat v373; have q2 := n_nat v369; omega]; exact ev370]
        refine L_callVi C oCl12 rfl miX12_common mlL_115 (ct_X12_common l E (u371) v370 (oBI_fr fu371 rfl iv2)) (by decide) rfl rfl rfl (Nat.le_of_ble_eq_true rfl) (oDec_at oLw_13 15 rfl) (fun r376 u375 pu375 fu375 => ?_)
        try dsimp only at pu375
        refine L_pc C 998 rfl ?_
        refine L_pop C (oDec_at oLw_13 16 rfl) rfl ?_
        refine L_goto C (tgt := 1453) (oDec_at oLw_13 17 rfl) (by decide) ?_
        obtain ⟨v377, ev377⟩ : ∃ z : Int32, x3 + Int32.ofInt 6 = z := ⟨_, rfl⟩
        have hv377 : v377.toInt = x3.toInt + 6 := n_inc ev377 (by decide) (by omega) (by omega)
        refine L_iinc C (j := 3) (lv' := [(0, .ref b), (1, .ref (oad E 0)), (2, .ref (oad E 71)), (3, .int v377)]) v377 [1, 2, 3, 0] (oDec_at oLw_20 21 rfl) rfl ev377 (by decide) rfl ?_
        refine L_goto C (tgt := 18) (oDec_at oLw_20 22 rfl) (by decide) ?_
        have lk378 : ((u375).1 71 38).toInt = (t.1 71 38).toInt := congrArg Int32.toInt (((fu375 71 38 rfl).1).trans ((fu371 71 38 rfl).1))
        have lk379 : ((u375).1 71 42).toInt = (t.1 71 42).toInt := congrArg Int32.toInt (((fu375 71 42 rfl).1).trans ((fu371 71 42 rfl).1))
        exact ih (n - 1) (by omega) (u375) v377 (oLT_fr fu375 rfl (oLT_fr fu371 rfl iv0)) (by omega) (oBI_fr fu375 rfl (oBI_fr fu371 rfl iv2)) (by omega) (by omega)
      by_cases cd6_24 : v5.toInt = 24
      · refine L_tableIn C 1002 (oDec_at oLw_0 21 rfl) (by omega) (by omega) (by rw [cd6_24]; rfl) (by decide) ?_
        skip
        refine L_aload_n C (j := 1) (oDec_at oLw_13 18 rfl) rfl rfl ?_
        refine L_aload_n C (j := 0) (oDec_at oLw_13 19 rfl) rfl rfl ?_
        refine L_iload_n C (j := 3) (oDec_at oLw_13 20 rfl) rfl rfl ?_
        refine L_iconst C (oDec_at oLw_13 21 rfl) (v := k1) (by rw [qk1]; rfl) ?_
        obtain ⟨v380, ev380⟩ : ∃ z : Int32, z = x3 + k1 := ⟨_, rfl⟩
        have hv380 : v380.toInt = x3.toInt + k1.toInt := n_add ev380 (by omega) (by omega)
        refine L_iadd C v380 (oDec_at oLw_13 22 rfl) ev380 ?_
        refine L_sld C ⟨by omega, by omega⟩ (oDec_at oLw_13 23 rfl) ?_
        obtain ⟨v381, ev381⟩ : ∃ z : Int32, xs v380.toNatClampNeg = z := ⟨_, rfl⟩
        rw [ev381]
        have rv381 := n_rng v381
        refine L_aload_n C (j := 0) (oDec_at oLw_13 24 rfl) rfl rfl ?_
        refine L_iload_n C (j := 3) (oDec_at oLw_13 25 rfl) rfl rfl ?_
        refine L_iconst C (oDec_at oLw_13 26 rfl) (v := k2) (by rw [qk2]; rfl) ?_
        obtain ⟨v382, ev382⟩ : ∃ z : Int32, z = x3 + k2 := ⟨_, rfl⟩
        have hv382 : v382.toInt = x3.toInt + k2.toInt := n_add ev382 (by omega) (by omega)
        refine L_iadd C v382 (oDec_at oLw_13 27 rfl) ev382 ?_
        refine L_sld C ⟨by omega, by omega⟩ (oDec_at oLw_13 28 rfl) ?_
        obtain ⟨v383, ev383⟩ : ∃ z : Int32, xs v382.toNatClampNeg = z := ⟨_, rfl⟩
        rw [ev383]
        have rv383 := n_rng v383
        refine L_callVi C oCl11 rfl miX11_over mlL_116 (ct_X11_over l E (t) v381 v383 ) (by decide) rfl rfl rfl (Nat.le_of_ble_eq_true rfl) (oDec_at oLw_13 29 rfl) (fun r385 u384 pu384 fu384 => ?_)
        try dsimp only at pu384
        refine L_pc C 1016 rfl ?_
        refine L_pop C (oDec_at oLw_13 30 rfl) rfl ?_
        refine L_aload_n C (j := 2) (oDec_at oLw_13 31 rfl) rfl rfl ?_
        refine L_aload_n C (j := 0) (oDec_at oLw_13 32 rfl) rfl rfl ?_
        refine L_iload_n C (j := 3) (oDec_at oLw_13 33 rfl) rfl rfl ?_
        refine L_iconst C (oDec_at oLw_13 34 rfl) (v := k1) (by rw [qk1]; rfl) ?_
        obtain ⟨v386, ev386⟩ : ∃ z : Int32, z = x3 + k1 := ⟨_, rfl⟩
        have hv386 : v386.toInt = x3.toInt + k1.toInt := n_add ev386 (by omega) (by omega)
        refine L_iadd C v386 (oDec_at oLw_13 35 rfl) ev386 ?_
        refine L_sld C ⟨by omega, by omega⟩ (oDec_at oLw_13 36 rfl) ?_
        rw [show xs v386.toNatClampNeg = v381 from by rw [show v386.toNatClampNeg = v380.toNatClampNeg by have q1 := n_nat v386; have q2 := n_nat v380; omega]; exact ev381]
        refine L_aload_n C (j := 0) (oDec_at oLw_13 37 rfl) rfl rfl ?_
        refine L_iload_n C (j := 3) (oDec_at oLw_13 38 rfl) rfl rfl ?_
        refine L_iconst C (oDec_at oLw_13 39 rfl) (v := k2) (by rw [qk2]; rfl) ?_
        obtain ⟨v388, ev388⟩ : ∃ z : Int32, z = x3 + k2 := ⟨_, rfl⟩
        have hv388 : v388.toInt = x3.toInt + k2.toInt := n_add ev388 (by omega) (by omega)
        refine L_iadd C v388 (oDec_at oLw_13 40 rfl) ev388 ?_
        refine L_sld C ⟨by omega, by omega⟩ (oDec_at oLw_13 41 rfl) ?_
        rw [show xs v388.toNatClampNeg = v383 from by rw [show v388.toNatClampNeg = v382.toNatClampNeg by have q1 := n_nat v388; have q2 := n_nat v382; omega]; exact ev383]
        refine L_callVi C oCl12 rfl miX12_over mlL_119 (ct_X12_over l E (u384) v381 v383 (oBI_fr fu384 rfl iv2)) (by decide) rfl rfl rfl (Nat.le_of_ble_eq_true rfl) (oDec_at oLw_13 42 rfl) (fun r391 u390 pu390 fu390 => ?_)
        try dsimp only at pu390
        refine L_pc C 1031 rfl ?_
        refine L_pop C (oDec_at oLw_13 43 rfl) rfl ?_
        refine L_goto C (tgt := 1453) (oDec_at oLw_13 44 rfl) (by decide) ?_
        obtain ⟨v392, ev392⟩ : ∃ z : Int32, x3 + Int32.ofInt 6 = z := ⟨_, rfl⟩
        have hv392 : v392.toInt = x3.toInt + 6 := n_inc ev392 (by decide) (by omega) (by omega)
        refine L_iinc C (j := 3) (lv' := [(0, .ref b), (1, .ref (oad E 0)), (2, .ref (oad E 71)), (3, .int v392)]) v392 [1, 2, 3, 0] (oDec_at oLw_20 21 rfl) rfl ev392 (by decide) rfl ?_
        refine L_goto C (tgt := 18) (oDec_at oLw_20 22 rfl) (by decide) ?_
        have lk393 : ((u390).1 71 38).toInt = (t.1 71 38).toInt := congrArg Int32.toInt (((fu390 71 38 rfl).1).trans ((fu384 71 38 rfl).1))
        have lk394 : ((u390).1 71 42).toInt = (t.1 71 42).toInt := congrArg Int32.toInt (((fu390 71 42 rfl).1).trans ((fu384 71 42 rfl).1))
        exact ih (n - 1) (by omega) (u390) v392 (oLT_fr fu390 rfl (oLT_fr fu384 rfl iv0)) (by omega) (oBI_fr fu390 rfl (oBI_fr fu384 rfl iv2)) (by omega) (by omega)
      by_cases cd6_25 : v5.toInt = 25
      · refine L_tableIn C 1035 (oDec_at oLw_0 21 rfl) (by omega) (by omega) (by rw [cd6_25]; rfl) (by decide) ?_
        skip
        refine L_aload_n C (j := 1) (oDec_at oLw_13 45 rfl) rfl rfl ?_
        refine L_aload_n C (j := 0) (oDec_at oLw_13 46 rfl) rfl rfl ?_
        refine L_iload_n C (j := 3) (oDec_at oLw_13 47 rfl) rfl rfl ?_
        refine L_iconst C (oDec_at oLw_13 48 rfl) (v := k1) (by rw [qk1]; rfl) ?_
        obtain ⟨v395, ev395⟩ : ∃ z : Int32, z = x3 + k1 := ⟨_, rfl⟩
        have hv395 : v395.toInt = x3.toInt + k1.toInt := n_add ev395 (by omega) (by omega)
        refine L_iadd C v395 (oDec_at oLw_13 49 rfl) ev395 ?_
        refine L_sld C ⟨by omega, by omega⟩ (oDec_at oLw_14 0 rfl) ?_
        obtain ⟨v396, ev396⟩ : ∃ z : Int32, xs v395.toNatClampNeg = z := ⟨_, rfl⟩
        rw [ev396]
        have rv396 := n_rng v396
        refine L_callVi C oCl11 rfl miX11_alike mlL_120 (ct_X11_alike l E (t) v396 ) (by decide) rfl rfl rfl (Nat.le_of_ble_eq_true rfl) (oDec_at oLw_14 1 rfl) (fun r398 u397 pu397 fu397 => ?_)
        try dsimp only at pu397
        refine L_pc C 1044 rfl ?_
        refine L_pop C (oDec_at oLw_14 2 rfl) rfl ?_
        refine L_aload_n C (j := 2) (oDec_at oLw_14 3 rfl) rfl rfl ?_
        refine L_aload_n C (j := 0) (oDec_at oLw_14 4 rfl) rfl rfl ?_
        refine L_iload_n C (j := 3) (oDec_at oLw_14 5 rfl) rfl rfl ?_
        refine L_iconst C (oDec_at oLw_14 6 rfl) (v := k1) (by rw [qk1]; rfl) ?_
        obtain ⟨v399, ev399⟩ : ∃ z : Int32, z = x3 + k1 := ⟨_, rfl⟩
        have hv399 : v399.toInt = x3.toInt + k1.toInt := n_add ev399 (by omega) (by omega)
        refine L_iadd C v399 (oDec_at oLw_14 7 rfl) ev399 ?_
        refine L_sld C ⟨by omega, by omega⟩ (oDec_at oLw_14 8 rfl) ?_
        rw [show xs v399.toNatClampNeg = v396 from by rw [show v399.toNatClampNeg = v395.toNatClampNeg by have q1 := n_nat v399; have q2 := n_nat v395; omega]; exact ev396]
        refine L_callVi C oCl12 rfl miX12_alike mlL_123 (ct_X12_alike l E (u397) v396 (oBI_fr fu397 rfl iv2)) (by decide) rfl rfl rfl (Nat.le_of_ble_eq_true rfl) (oDec_at oLw_14 9 rfl) (fun r402 u401 pu401 fu401 => ?_)
        try dsimp only at pu401
        refine L_pc C 1054 rfl ?_
        refine L_pop C (oDec_at oLw_14 10 rfl) rfl ?_
        refine L_goto C (tgt := 1453) (oDec_at oLw_14 11 rfl) (by decide) ?_
        obtain ⟨v403, ev403⟩ : ∃ z : Int32, x3 + Int32.ofInt 6 = z := ⟨_, rfl⟩
        have hv403 : v403.toInt = x3.toInt + 6 := n_inc ev403 (by decide) (by omega) (by omega)
        refine L_iinc C (j := 3) (lv' := [(0, .ref b), (1, .ref (oad E 0)), (2, .ref (oad E 71)), (3, .int v403)]) v403 [1, 2, 3, 0] (oDec_at oLw_20 21 rfl) rfl ev403 (by decide) rfl ?_
        refine L_goto C (tgt := 18) (oDec_at oLw_20 22 rfl) (by decide) ?_
        have lk404 : ((u401).1 71 38).toInt = (t.1 71 38).toInt := congrArg Int32.toInt (((fu401 71 38 rfl).1).trans ((fu397 71 38 rfl).1))
        have lk405 : ((u401).1 71 42).toInt = (t.1 71 42).toInt := congrArg Int32.toInt (((fu401 71 42 rfl).1).trans ((fu397 71 42 rfl).1))
        exact ih (n - 1) (by omega) (u401) v403 (oLT_fr fu401 rfl (oLT_fr fu397 rfl iv0)) (by omega) (oBI_fr fu401 rfl (oBI_fr fu397 rfl iv2)) (by omega) (by omega)
      by_cases cd6_26 : v5.toInt = 26
      · refine L_tableIn C 1058 (oDec_at oLw_0 21 rfl) (by omega) (by omega) (by rw [cd6_26]; rfl) (by decide) ?_
        skip
        refine L_aload_n C (j := 1) (oDec_at oLw_14 12 rfl) rfl rfl ?_
        refine L_callVi C oCl11 rfl miX11_unlike mlL_124 (ct_X11_unlike l E (t)  ) (by decide) rfl rfl rfl (Nat.le_of_ble_eq_true rfl) (oDec_at oLw_14 13 rfl) (fun r407 u406 pu406 fu406 => ?_)
        try dsimp only at pu406
        refine L_pc C 1062 rfl ?_
        refine L_pop C (oDec_at oLw_14 14 rfl) rfl ?_
        refine L_aload_n C (j := 2) (oDec_at oLw_14 15 rfl) rfl rfl ?_
        refine L_callVi C oCl12 rfl miX12_unlike mlL_127 (ct_X12_unlike l E (u406)  (oBI_fr fu406 rfl iv2)) (by decide) rfl rfl rfl (Nat.le_of_ble_eq_true rfl) (oDec_at oLw_14 16 rfl) (fun r409 u408 pu408 fu408 => ?_)
        try dsimp only at pu408
        refine L_pc C 1067 rfl ?_
        refine L_pop C (oDec_at oLw_14 17 rfl) rfl ?_
        refine L_goto C (tgt := 1453) (oDec_at oLw_14 18 rfl) (by decide) ?_
        obtain ⟨v410, ev410⟩ : ∃ z : Int32, x3 + Int32.ofInt 6 = z := ⟨_, rfl⟩
        have hv410 : v410.toInt = x3.toInt + 6 := n_inc ev410 (by decide) (by omega) (by omega)
        refine L_iinc C (j := 3) (lv' := [(0, .ref b), (1, .ref (oad E 0)), (2, .ref (oad E 71)), (3, .int v410)]) v410 [1, 2, 3, 0] (oDec_at oLw_20 21 rfl) rfl ev410 (by decide) rfl ?_
        refine L_goto C (tgt := 18) (oDec_at oLw_20 22 rfl) (by decide) ?_
        have lk411 : ((u408).1 71 38).toInt = (t.1 71 38).toInt := congrArg Int32.toInt (((fu408 71 38 rfl).1).trans ((fu406 71 38 rfl).1))
        have lk412 : ((u408).1 71 42).toInt = (t.1 71 42).toInt := congrArg Int32.toInt (((fu408 71 42 rfl).1).trans ((fu406 71 42 rfl).1))
        exact ih (n - 1) (by omega) (u408) v410 (oLT_fr fu408 rfl (oLT_fr fu406 rfl iv0)) (by omega) (oBI_fr fu408 rfl (oBI_fr fu406 rfl iv2)) (by omega) (by omega)
      by_cases cd6_27 : v5.toInt = 27
      · refine L_tableIn C 1071 (oDec_at oLw_0 21 rfl) (by omega) (by omega) (by rw [cd6_27]; rfl) (by decide) ?_
        skip
        refine L_aload_n C (j := 1) (oDec_at oLw_14 19 rfl) rfl rfl ?_
        refine L_aload_n C (j := 0) (oDec_at oLw_14 20 rfl) rfl rfl ?_
        refine L_iload_n C (j := 3) (oDec_at oLw_14 21 rfl) rfl rfl ?_
        refine L_iconst C (oDec_at oLw_14 22 rfl) (v := k1) (by rw [qk1]; rfl) ?_
        obtain ⟨v413, ev413⟩ : ∃ z : Int32, z = x3 + k1 := ⟨_, rfl⟩
        have hv413 : v413.toInt = x3.toInt + k1.toInt := n_add ev413 (by omega) (by omega)
        refine L_iadd C v413 (oDec_at oLw_14 23 rfl) ev413 ?_
        refine L_sld C ⟨by omega, by omega⟩ (oDec_at oLw_14 24 rfl) ?_
        obtain ⟨v414, ev414⟩ : ∃ z : Int32, xs v413.toNatClampNeg = z := ⟨_, rfl⟩
        rw [ev414]
        have rv414 := n_rng v414
        refine L_aload_n C (j := 0) (oDec_at oLw_14 25 rfl) rfl rfl ?_
        refine L_iload_n C (j := 3) (oDec_at oLw_14 26 rfl) rfl rfl ?_
        refine L_iconst C (oDec_at oLw_14 27 rfl) (v := k2) (by rw [qk2]; rfl) ?_
        obtain ⟨v415, ev415⟩ : ∃ z : Int32, z = x3 + k2 := ⟨_, rfl⟩
        have hv415 : v415.toInt = x3.toInt + k2.toInt := n_add ev415 (by omega) (by omega)
        refine L_iadd C v415 (oDec_at oLw_14 28 rfl) ev415 ?_
        refine L_sld C ⟨by omega, by omega⟩ (oDec_at oLw_14 29 rfl) ?_
        obtain ⟨v416, ev416⟩ : ∃ z : Int32, xs v415.toNatClampNeg = z := ⟨_, rfl⟩
        rw [ev416]
        have rv416 := n_rng v416
        refine L_if_eq C 1089 (oDec_at oLw_14 30 rfl) (by decide) (fun cd417 => ?_) (fun cd417 => ?_)
        · skip
          refine L_iconst C (oDec_at oLw_14 33 rfl) (v := k0) (by rw [qk0]; rfl) ?_
          refine L_callVi C oCl11 rfl miX11_rule mlL_128 (ct_X11_rule l E (t) v414 k0 (by omega)) (by decide) rfl rfl rfl (Nat.le_of_ble_eq_true rfl) (oDec_at oLw_14 34 rfl) (fun r419 u418 pu418 fu418 => ?_)
          try dsimp only at pu418
          refine L_pc C 1093 rfl ?_
          refine L_pop C (oDec_at oLw_14 35 rfl) rfl ?_
          refine L_aload_n C (j := 2) (oDec_at oLw_14 36 rfl) rfl rfl ?_
          refine L_aload_n C (j := 0) (oDec_at oLw_14 37 rfl) rfl rfl ?_
          refine L_iload_n C (j := 3) (oDec_at oLw_14 38 rfl) rfl rfl ?_
          refine L_iconst C (oDec_at oLw_14 39 rfl) (v := k1) (by rw [qk1]; rfl) ?_
          obtain ⟨v420, ev420⟩ : ∃ z : Int32, z = x3 + k1 := ⟨_, rfl⟩
          have hv420 : v420.toInt = x3.toInt + k1.toInt := n_add ev420 (by omega) (by omega)
          refine L_iadd C v420 (oDec_at oLw_14 40 rfl) ev420 ?_
          refine L_sld C ⟨by omega, by omega⟩ (oDec_at oLw_14 41 rfl) ?_
          rw [show xs v420.toNatClampNeg = v414 from by rw [show v420.toNatClampNeg = v413.toNatClampNeg by have q1 := n_nat v420; have q2 := n_nat v413; omega]; exact ev414]
          refine L_aload_n C (j := 0) (oDec_at oLw_14 42 rfl) rfl rfl ?_
          refine L_iload_n C (j := 3) (oDec_at oLw_14 43 rfl) rfl rfl ?_
          refine L_iconst C (oDec_at oLw_14 44 rfl) (v := k2) (by rw [qk2]; rfl) ?_
          obtain ⟨v422, ev422⟩ : ∃ z : Int32, z = x3 + k2 := ⟨_, rfl⟩
          have hv422 : v422.toInt = x3.toInt + k2.toInt := n_add ev422 (by omega) (by omega)
          refine L_iadd C v422 (oDec_at oLw_14 45 rfl) ev422 ?_
          refine L_sld C ⟨by omega, by omega⟩ (oDec_at oLw_14 46 rfl) ?_
          rw [show xs v422.toNatClampNeg = v416 from by rw [show v422.toNatClampNeg = v415.toNatClampNeg by have q1 := n_nat v422; have q2 := n_nat v415; omega]; exact ev416]
          refine L_if_eq C 1112 (oDec_at oLw_14 47 rfl) (by decide) (fun cd424 => ?_) (fun cd424 => ?_)
          · skip
            refine L_iconst C (oDec_at oLw_15 0 rfl) (v := k0) (by rw [qk0]; rfl) ?_
            refine L_callVi C oCl12 rfl miX12_rule mlL_131 (ct_X12_rule l E (u418) v414 k0 (by omega) (oBI_fr fu418 rfl iv2)) (by decide) rfl rfl rfl (Nat.le_of_ble_eq_true rfl) (oDec_at oLw_15 1 rfl) (fun r426 u425 pu425 fu425 => ?_)
            try dsimp only at pu425
            refine L_pc C 1116 rfl ?_
            refine L_pop C (oDec_at oLw_15 2 rfl) rfl ?_
            refine L_goto C (tgt := 1453) (oDec_at oLw_15 3 rfl) (by decide) ?_
            obtain ⟨v427, ev427⟩ : ∃ z : Int32, x3 + Int32.ofInt 6 = z := ⟨_, rfl⟩
            have hv427 : v427.toInt = x3.toInt + 6 := n_inc ev427 (by decide) (by omega) (by omega)
            refine L_iinc C (j := 3) (lv' := [(0, .ref b), (1, .ref (oad E 0)), (2, .ref (oad E 71)), (3, .int v427)]) v427 [1, 2, 3, 0] (oDec_at oLw_20 21 rfl) rfl ev427 (by decide) rfl ?_
            refine L_goto C (tgt := 18) (oDec_at oLw_20 22 rfl) (by decide) ?_
            have lk428 : ((u425).1 71 38).toInt = (t.1 71 38).toInt := congrArg Int32.toInt (((fu425 71 38 rfl).1).trans ((fu418 71 38 rfl).1))
            have lk429 : ((u425).1 71 42).toInt = (t.1 71 42).toInt := congrArg Int32.toInt (((fu425 71 42 rfl).1).trans ((fu418 71 42 rfl).1))
            exact ih (n - 1) (by omega) (u425) v427 (oLT_fr fu425 rfl (oLT_fr fu418 rfl iv0)) (by omega) (oBI_fr fu425 rfl (oBI_fr fu418 rfl iv2)) (by omega) (by omega)
          · skip
            refine L_iconst C (oDec_at oLw_14 48 rfl) (v := k1) (by rw [qk1]; rfl) ?_
            refine L_goto C (tgt := 1113) (oDec_at oLw_14 49 rfl) (by decide) ?_
            refine L_callVi C oCl12 rfl miX12_rule mlL_131 (ct_X12_rule l E (u418) v414 k1 (by omega) (oBI_fr fu418 rfl iv2)) (by decide) rfl rfl rfl (Nat.le_of_ble_eq_true rfl) (oDec_at oLw_15 1 rfl) (fun r431 u430 pu430 fu430 => ?_)
            try dsimp only at pu430
            refine L_pc C 1116 rfl ?_
            refine L_pop C (oDec_at oLw_15 2 rfl) rfl ?_
            refine L_goto C (tgt := 1453) (oDec_at oLw_15 3 rfl) (by decide) ?_
            obtain ⟨v432, ev432⟩ : ∃ z : Int32, x3 + Int32.ofInt 6 = z := ⟨_, rfl⟩
            have hv432 : v432.toInt = x3.toInt + 6 := n_inc ev432 (by decide) (by omega) (by omega)
            refine L_iinc C (j := 3) (lv' := [(0, .ref b), (1, .ref (oad E 0)), (2, .ref (oad E 71)), (3, .int v432)]) v432 [1, 2, 3, 0] (oDec_at oLw_20 21 rfl) rfl ev432 (by decide) rfl ?_
            refine L_goto C (tgt := 18) (oDec_at oLw_20 22 rfl) (by decide) ?_
            have lk433 : ((u430).1 71 38).toInt = (t.1 71 38).toInt := congrArg Int32.toInt (((fu430 71 38 rfl).1).trans ((fu418 71 38 rfl).1))
            have lk434 : ((u430).1 71 42).toInt = (t.1 71 42).toInt := congrArg Int32.toInt (((fu430 71 42 rfl).1).trans ((fu418 71 42 rfl).1))
            exact ih (n - 1) (by omega) (u430) v432 (oLT_fr fu430 rfl (oLT_fr fu418 rfl iv0)) (by omega) (oBI_fr fu430 rfl (oBI_fr fu418 rfl iv2)) (by omega) (by omega)
        · skip
          refine L_iconst C (oDec_at oLw_14 31 rfl) (v := k1) (by rw [qk1]; rfl) ?_
          refine L_goto C (tgt := 1090) (oDec_at oLw_14 32 rfl) (by decide) ?_
          refine L_callVi C oCl11 rfl miX11_rule mlL_128 (ct_X11_rule l E (t) v414 k1 (by omega)) (by decide) rfl rfl rfl (Nat.le_of_ble_eq_true rfl) (oDec_at oLw_14 34 rfl) (fun r436 u435 pu435 fu435 => ?_)
          try dsimp only at pu435
          refine L_pc C 1093 rfl ?_
          refine L_pop C (oDec_at oLw_14 35 rfl) rfl ?_
          refine L_aload_n C (j := 2) (oDec_at oLw_14 36 rfl) rfl rfl ?_
          refine L_aload_n C (j := 0) (oDec_at oLw_14 37 rfl) rfl rfl ?_
          refine L_iload_n C (j := 3) (oDec_at oLw_14 38 rfl) rfl rfl ?_
          refine L_iconst C (oDec_at oLw_14 39 rfl) (v := k1) (by rw [qk1]; rfl) ?_
          obtain ⟨v437, ev437⟩ : ∃ z : Int32, z = x3 + k1 := ⟨_, rfl⟩
          have hv437 : v437.toInt = x3.toInt + k1.toInt := n_add ev437 (by omega) (by omega)
          refine L_iadd C v437 (oDec_at oLw_14 40 rfl) ev437 ?_
          refine L_sld C ⟨by omega, by omega⟩ (oDec_at oLw_14 41 rfl) ?_
          rw [show xs v437.toNatClampNeg = v414 from by rw [show v437.toNatClampNeg = v413.toNatClampNeg by have q1 := n_nat v437; have q2 := n_nat v413; omega]; exact ev414]
          refine L_aload_n C (j := 0) (oDec_at oLw_14 42 rfl) rfl rfl ?_
          refine L_iload_n C (j := 3) (oDec_at oLw_14 43 rfl) rfl rfl ?_
          refine L_iconst C (oDec_at oLw_14 44 rfl) (v := k2) (by rw [qk2]; rfl) ?_
          obtain ⟨v439, ev439⟩ : ∃ z : Int32, z = x3 + k2 := ⟨_, rfl⟩
          have hv439 : v439.toInt = x3.toInt + k2.toInt := n_add ev439 (by omega) (by omega)
          refine L_iadd C v439 (oDec_at oLw_14 45 rfl) ev439 ?_
          refine L_sld C ⟨by omega, by omega⟩ (oDec_at oLw_14 46 rfl) ?_
          rw [show xs v439.toNatClampNeg = v416 from by rw [show v439.toNatClampNeg = v415.toNatClampNeg by have q1 := n_nat v439; have q2 := n_nat v415; omega]; exact ev416]
          refine L_if_eq C 1112 (oDec_at oLw_14 47 rfl) (by decide) (fun cd441 => ?_) (fun cd441 => ?_)
          · skip
            refine L_iconst C (oDec_at oLw_15 0 rfl) (v := k0) (by rw [qk0]; rfl) ?_
            refine L_callVi C oCl12 rfl miX12_rule mlL_131 (ct_X12_rule l E (u435) v414 k0 (by omega) (oBI_fr fu435 rfl iv2)) (by decide) rfl rfl rfl (Nat.le_of_ble_eq_true rfl) (oDec_at oLw_15 1 rfl) (fun r443 u442 pu442 fu442 => ?_)
            try dsimp only at pu442
            refine L_pc C 1116 rfl ?_
            refine L_pop C (oDec_at oLw_15 2 rfl) rfl ?_
            refine L_goto C (tgt := 1453) (oDec_at oLw_15 3 rfl) (by decide) ?_
            obtain ⟨v444, ev444⟩ : ∃ z : Int32, x3 + Int32.ofInt 6 = z := ⟨_, rfl⟩
            have hv444 : v444.toInt = x3.toInt + 6 := n_inc ev444 (by decide) (by omega) (by omega)
            refine L_iinc C (j := 3) (lv' := [(0, .ref b), (1, .ref (oad E 0)), (2, .ref (oad E 71)), (3, .int v444)]) v444 [1, 2, 3, 0] (oDec_at oLw_20 21 rfl) rfl ev444 (by decide) rfl ?_
            refine L_goto C (tgt := 18) (oDec_at oLw_20 22 rfl) (by decide) ?_
            have lk445 : ((u442).1 71 38).toInt = (t.1 71 38).toInt := congrArg Int32.toInt (((fu442 71 38 rfl).1).trans ((fu435 71 38 rfl).1))
            have lk446 : ((u442).1 71 42).toInt = (t.1 71 42).toInt := congrArg Int32.toInt (((fu442 71 42 rfl).1).trans ((fu435 71 42 rfl).1))
            exact ih (n - 1) (by omega) (u442) v444 (oLT_fr fu442 rfl (oLT_fr fu435 rfl iv0)) (by omega) (oBI_fr fu442 rfl (oBI_fr fu435 rfl iv2)) (by omega) (by omega)
          · skip
            refine L_iconst C (oDec_at oLw_14 48 rfl) (v := k1) (by rw [qk1]; rfl) ?_
            refine L_goto C (tgt := 1113) (oDec_at oLw_14 49 rfl) (by decide) ?_
            refine L_callVi C oCl12 rfl miX12_rule mlL_131 (ct_X12_rule l E (u435) v414 k1 (by omega) (oBI_fr fu435 rfl iv2)) (by decide) rfl rfl rfl (Nat.le_of_ble_eq_true rfl) (oDec_at oLw_15 1 rfl) (fun r448 u447 pu447 fu447 => ?_)
            try dsimp only at pu447
            refine L_pc C 1116 rfl ?_
            refine L_pop C (oDec_at oLw_15 2 rfl) rfl ?_
            refine L_goto C (tgt := 1453) (oDec_at oLw_15 3 rfl) (by decide) ?_
            obtain ⟨v449, ev449⟩ : ∃ z : Int32, x3 + Int32.ofInt 6 = z := ⟨_, rfl⟩
            have hv449 : v449.toInt = x3.toInt + 6 := n_inc ev449 (by decide) (by omega) (by omega)
            refine L_iinc C (j := 3) (lv' := [(0, .ref b), (1, .ref (oad E 0)), (2, .ref (oad E 71)), (3, .int v449)]) v449 [1, 2, 3, 0] (oDec_at oLw_20 21 rfl) rfl ev449 (by decide) rfl ?_
            refine L_goto C (tgt := 18) (oDec_at oLw_20 22 rfl) (by decide) ?_
            have lk450 : ((u447).1 71 38).toInt = (t.1 71 38).toInt := congrArg Int32.toInt (((fu447 71 38 rfl).1).trans ((fu435 71 38 rfl).1))
            have lk451 : ((u447).1 71 42).toInt = (t.1 71 42).toInt := congrArg Int32.toInt (((fu447 71 42 rfl).1).trans ((fu435 71 42 rfl).1))
            exact ih (n - 1) (by omega) (u447) v449 (oLT_fr fu447 rfl (oLT_fr fu435 rfl iv0)) (by omega) (oBI_fr fu447 rfl (oBI_fr fu435 rfl iv2)) (by omega) (by omega)
      by_cases cd6_28 : v5.toInt = 28
      · refine L_tableIn C 1120 (oDec_at oLw_0 21 rfl) (by omega) (by omega) (by rw [cd6_28]; rfl) (by decide) ?_
        skip
        refine L_aload_n C (j := 1) (oDec_at oLw_15 4 rfl) rfl rfl ?_
        refine L_aload_n C (j := 0) (oDec_at oLw_15 5 rfl) rfl rfl ?_
        refine L_iload_n C (j := 3) (oDec_at oLw_15 6 rfl) rfl rfl ?_
        refine L_iconst C (oDec_at oLw_15 7 rfl) (v := k1) (by rw [qk1]; rfl) ?_
        obtain ⟨v452, ev452⟩ : ∃ z : Int32, z = x3 + k1 := ⟨_, rfl⟩
        have hv452 : v452.toInt = x3.toInt + k1.toInt := n_add ev452 (by omega) (by omega)
        refine L_iadd C v452 (oDec_at oLw_15 8 rfl) ev452 ?_
        refine L_sld C ⟨by omega, by omega⟩ (oDec_at oLw_15 9 rfl) ?_
        obtain ⟨v453, ev453⟩ : ∃ z : Int32, xs v452.toNatClampNeg = z := ⟨_, rfl⟩
        rw [ev453]
        have rv453 := n_rng v453
        refine L_aload_n C (j := 0) (oDec_at oLw_15 10 rfl) rfl rfl ?_
        refine L_iload_n C (j := 3) (oDec_at oLw_15 11 rfl) rfl rfl ?_
        refine L_iconst C (oDec_at oLw_15 12 rfl) (v := k2) (by rw [qk2]; rfl) ?_
        obtain ⟨v454, ev454⟩ : ∃ z : Int32, z = x3 + k2 := ⟨_, rfl⟩
        have hv454 : v454.toInt = x3.toInt + k2.toInt := n_add ev454 (by omega) (by omega)
        refine L_iadd C v454 (oDec_at oLw_15 13 rfl) ev454 ?_
        refine L_sld C ⟨by omega, by omega⟩ (oDec_at oLw_15 14 rfl) ?_
        obtain ⟨v455, ev455⟩ : ∃ z : Int32, xs v454.toNatClampNeg = z := ⟨_, rfl⟩
        rw [ev455]
        have rv455 := n_rng v455
        refine L_callVi C oCl11 rfl miX11_meant mlL_132 (ct_X11_meant l E (t) v453 v455 ) (by decide) rfl rfl rfl (Nat.le_of_ble_eq_true rfl) (oDec_at oLw_15 15 rfl) (fun r457 u456 pu456 fu456 => ?_)
        try dsimp only at pu456
        refine L_pc C 1134 rfl ?_
        refine L_pop C (oDec_at oLw_15 16 rfl) rfl ?_
        refine L_aload_n C (j := 2) (oDec_at oLw_15 17 rfl) rfl rfl ?_
        refine L_aload_n C (j := 0) (oDec_at oLw_15 18 rfl) rfl rfl ?_
        refine L_iload_n C (j := 3) (oDec_at oLw_15 19 rfl) rfl rfl ?_
        refine L_iconst C (oDec_at oLw_15 20 rfl) (v := k1) (by rw [qk1]; rfl) ?_
        obtain ⟨v458, ev458⟩ : ∃ z : Int32, z = x3 + k1 := ⟨_, rfl⟩
        have hv458 : v458.toInt = x3.toInt + k1.toInt := n_add ev458 (by omega) (by omega)
        refine L_iadd C v458 (oDec_at oLw_15 21 rfl) ev458 ?_
        refine L_sld C ⟨by omega, by omega⟩ (oDec_at oLw_15 22 rfl) ?_
        rw [show xs v458.toNatClampNeg = v453 from by rw [show v458.toNatClampNeg = v452.toNatClampNeg by have q1 := n_nat v458; have q2 := n_nat v452; omega]; exact ev453]
        refine L_aload_n C (j := 0) (oDec_at oLw_15 23 rfl) rfl rfl ?_
        refine L_iload_n C (j := 3) (oDec_at oLw_15 24 rfl) rfl rfl ?_
        refine L_iconst C (oDec_at oLw_15 25 rfl) (v := k2) (by rw [qk2]; rfl) ?_
        obtain ⟨v460, ev460⟩ : ∃ z : Int32, z = x3 + k2 := ⟨_, rfl⟩
        have hv460 : v460.toInt = x3.toInt + k2.toInt := n_add ev460 (by omega) (by omega)
        refine L_iadd C v460 (oDec_at oLw_15 26 rfl) ev460 ?_
        refine L_sld C ⟨by omega, by omega⟩ (oDec_at oLw_15 27 rfl) ?_
        rw [show xs v460.toNatClampNeg = v455 from by rw [show v460.toNatClampNeg = v454.toNatClampNeg by have q1 := n_nat v460; have q2 := n_nat v454; omega]; exact ev455]
        refine L_callVi C oCl12 rfl miX12_meant mlL_135 (ct_X12_meant l E (u456) v453 v455 (oBI_fr fu456 rfl iv2)) (by decide) rfl rfl rfl (Nat.le_of_ble_eq_true rfl) (oDec_at oLw_15 28 rfl) (fun r463 u462 pu462 fu462 => ?_)
        try dsimp only at pu462
        refine L_pc C 1149 rfl ?_
        refine L_pop C (oDec_at oLw_15 29 rfl) rfl ?_
        refine L_goto C (tgt := 1453) (oDec_at oLw_15 30 rfl) (by decide) ?_
        obtain ⟨v464, ev464⟩ : ∃ z : Int32, x3 + Int32.ofInt 6 = z := ⟨_, rfl⟩
        have hv464 : v464.toInt = x3.toInt + 6 := n_inc ev464 (by decide) (by omega) (by omega)
        refine L_iinc C (j := 3) (lv' := [(0, .ref b), (1, .ref (oad E 0)), (2, .ref (oad E 71)), (3, .int v464)]) v464 [1, 2, 3, 0] (oDec_at oLw_20 21 rfl) rfl ev464 (by decide) rfl ?_
        refine L_goto C (tgt := 18) (oDec_at oLw_20 22 rfl) (by decide) ?_
        have lk465 : ((u462).1 71 38).toInt = (t.1 71 38).toInt := congrArg Int32.toInt (((fu462 71 38 rfl).1).trans ((fu456 71 38 rfl).1))
        have lk466 : ((u462).1 71 42).toInt = (t.1 71 42).toInt := congrArg Int32.toInt (((fu462 71 42 rfl).1).trans ((fu456 71 42 rfl).1))
        exact ih (n - 1) (by omega) (u462) v464 (oLT_fr fu462 rfl (oLT_fr fu456 rfl iv0)) (by omega) (oBI_fr fu462 rfl (oBI_fr fu456 rfl iv2)) (by omega) (by omega)
      by_cases cd6_29 : v5.toInt = 29
      · refine L_tableIn C 1153 (oDec_at oLw_0 21 rfl) (by omega) (by omega) (by rw [cd6_29]; rfl) (by decide) ?_
        skip
        refine L_aload_n C (j := 1) (oDec_at oLw_15 31 rfl) rfl rfl ?_
        refine L_aload_n C (j := 0) (oDec_at oLw_15 32 rfl) rfl rfl ?_
        refine L_iload_n C (j := 3) (oDec_at oLw_15 33 rfl) rfl rfl ?_
        refine L_iconst C (oDec_at oLw_15 34 rfl) (v := k1) (by rw [qk1]; rfl) ?_
        obtain ⟨v467, ev467⟩ : ∃ z : Int32, z = x3 + k1 := ⟨_, rfl⟩
        have hv467 : v467.toInt = x3.toInt + k1.toInt := n_add ev467 (by omega) (by omega)
        refine L_iadd C v467 (oDec_at oLw_15 35 rfl) ev467 ?_
        refine L_sld C ⟨by omega, by omega⟩ (oDec_at oLw_15 36 rfl) ?_
        obtain ⟨v468, ev468⟩ : ∃ z : Int32, xs v467.toNatClampNeg = z := ⟨_, rfl⟩
        rw [ev468]
        have rv468 := n_rng v468
        refine L_callVi C oCl11 rfl miX11_round mlL_136 (ct_X11_round l E (t) v468 ) (by decide) rfl rfl rfl (Nat.le_of_ble_eq_true rfl) (oDec_at oLw_15 37 rfl) (fun r470 u469 pu469 fu469 => ?_)
        try dsimp only at pu469
        refine L_pc C 1162 rfl ?_
        refine L_pop C (oDec_at oLw_15 38 rfl) rfl ?_
        refine L_aload_n C (j := 2) (oDec_at oLw_15 39 rfl) rfl rfl ?_
        refine L_aload_n C (j := 0) (oDec_at oLw_15 40 rfl) rfl rfl ?_
        refine L_iload_n C (j := 3) (oDec_at oLw_15 41 rfl) rfl rfl ?_
        refine L_iconst C (oDec_at oLw_15 42 rfl) (v := k1) (by rw [qk1]; rfl) ?_
        obtain ⟨v471, ev471⟩ : ∃ z : Int32, z = x3 + k1 := ⟨_, rfl⟩
        have hv471 : v471.toInt = x3.toInt + k1.toInt := n_add ev471 (by omega) (by omega)
        refine L_iadd C v471 (oDec_at oLw_15 43 rfl) ev471 ?_
        refine L_sld C ⟨by omega, by omega⟩ (oDec_at oLw_15 44 rfl) ?_
        rw [show xs v471.toNatClampNeg = v468 from by rw [show v471.toNatClampNeg = v467.toNatClampNeg by have q1 := n_nat v471; have q2 := n_nat v467; omega]; exact ev468]
        have lk473 : ((u469).1 71 38).toInt = (t.1 71 38).toInt := congrArg Int32.toInt ((fu469 71 38 rfl).1)
        have lk474 : ((u469).1 71 42).toInt = (t.1 71 42).toInt := congrArg Int32.toInt ((fu469 71 42 rfl).1)
        refine L_callVi C oCl12 rfl miX12_round mlL_139 (ct_X12_round l E (u469) v468 (oBI_fr fu469 rfl iv2) (by omega)) (by decide) rfl rfl rfl (Nat.le_of_ble_eq_true rfl) (oDec_at oLw_15 45 rfl) (fun r476 u475 pu475 fu475 => ?_)
        try dsimp only at pu475
        refine L_pc C 1172 rfl ?_
        refine L_pop C (oDec_at oLw_15 46 rfl) rfl ?_
        refine L_goto C (tgt := 1453) (oDec_at oLw_15 47 rfl) (by decide) ?_
        obtain ⟨v477, ev477⟩ : ∃ z : Int32, x3 + Int32.ofInt 6 = z := ⟨_, rfl⟩
        have hv477 : v477.toInt = x3.toInt + 6 := n_inc ev477 (by decide) (by omega) (by omega)
        refine L_iinc C (j := 3) (lv' := [(0, .ref b), (1, .ref (oad E 0)), (2, .ref (oad E 71)), (3, .int v477)]) v477 [1, 2, 3, 0] (oDec_at oLw_20 21 rfl) rfl ev477 (by decide) rfl ?_
        refine L_goto C (tgt := 18) (oDec_at oLw_20 22 rfl) (by decide) ?_
        have lk478 : ((u475).1 71 38).toInt = (t.1 71 38).toInt := congrArg Int32.toInt (((fu475 71 38 rfl).1).trans ((fu469 71 38 rfl).1))
        have lk479 : ((u475).1 71 42).toInt = (t.1 71 42).toInt := congrArg Int32.toInt (((fu475 71 42 rfl).1).trans ((fu469 71 42 rfl).1))
        exact ih (n - 1) (by omega) (u475) v477 (oLT_fr fu475 rfl (oLT_fr fu469 rfl iv0)) (by omega) (oBI_fr fu475 rfl (oBI_fr fu469 rfl iv2)) (by omega) (by omega)
      by_cases cd6_30 : v5.toInt = 30
      · refine L_tableIn C 1176 (oDec_at oLw_0 21 rfl) (by omega) (by omega) (by rw [cd6_30]; rfl) (by decide) ?_
        skip
        refine L_aload_n C (j := 1) (oDec_at oLw_15 48 rfl) rfl rfl ?_
        refine L_aload_n C (j := 0) (oDec_at oLw_15 49 rfl) rfl rfl ?_
        refine L_iload_n C (j := 3) (oDec_at oLw_16 0 rfl) rfl rfl ?_
        refine L_iconst C (oDec_at oLw_16 1 rfl) (v := k1) (by rw [qk1]; rfl) ?_
        obtain ⟨v480, ev480⟩ : ∃ z : Int32, z = x3 + k1 := ⟨_, rfl⟩
        have hv480 : v480.toInt = x3.toInt + k1.toInt := n_add ev480 (by omega) (by omega)
        refine L_iadd C v480 (oDec_at oLw_16 2 rfl) ev480 ?_
        refine L_sld C ⟨by omega, by omega⟩ (oDec_at oLw_16 3 rfl) ?_
        obtain ⟨v481, ev481⟩ : ∃ z : Int32, xs v480.toNatClampNeg = z := ⟨_, rfl⟩
        rw [ev481]
        have rv481 := n_rng v481
        refine L_aload_n C (j := 0) (oDec_at oLw_16 4 rfl) rfl rfl ?_
        refine L_iload_n C (j := 3) (oDec_at oLw_16 5 rfl) rfl rfl ?_
        refine L_iconst C (oDec_at oLw_16 6 rfl) (v := k2) (by rw [qk2]; rfl) ?_
        obtain ⟨v482, ev482⟩ : ∃ z : Int32, z = x3 + k2 := ⟨_, rfl⟩
        have hv482 : v482.toInt = x3.toInt + k2.toInt := n_add ev482 (by omega) (by omega)
        refine L_iadd C v482 (oDec_at oLw_16 7 rfl) ev482 ?_
        refine L_sld C ⟨by omega, by omega⟩ (oDec_at oLw_16 8 rfl) ?_
        obtain ⟨v483, ev483⟩ : ∃ z : Int32, xs v482.toNatClampNeg = z := ⟨_, rfl⟩
        rw [ev483]
        have rv483 := n_rng v483
        refine L_aload_n C (j := 0) (oDec_at oLw_16 9 rfl) rfl rfl ?_
        refine L_iload_n C (j := 3) (oDec_at oLw_16 10 rfl) rfl rfl ?_
        refine L_iconst C (oDec_at oLw_16 11 rfl) (v := k3) (by rw [qk3]; rfl) ?_
        obtain ⟨v484, ev484⟩ : ∃ z : Int32, z = x3 + k3 := ⟨_, rfl⟩
        have hv484 : v484.toInt = x3.toInt + k3.toInt := n_add ev484 (by omega) (by omega)
        refine L_iadd C v484 (oDec_at oLw_16 12 rfl) ev484 ?_
        refine L_sld C ⟨by omega, by omega⟩ (oDec_at oLw_16 13 rfl) ?_
        obtain ⟨v485, ev485⟩ : ∃ z : Int32, xs v484.toNatClampNeg = z := ⟨_, rfl⟩
        rw [ev485]
        have rv485 := n_rng v485
        refine L_callVi C oCl11 rfl miX11_make mlL_140 (ct_X11_make l E (t) v481 v483 v485 ) (by decide) rfl rfl rfl (Nat.le_of_ble_eq_true rfl) (oDec_at oLw_16 14 rfl) (fun r487 u486 pu486 fu486 => ?_)
        try dsimp only at pu486
        refine L_pc C 1195 rfl ?_
        refine L_pop C (oDec_at oLw_16 15 rfl) rfl ?_
        refine L_aload_n C (j := 2) (oDec_at oLw_16 16 rfl) rfl rfl ?_
        refine L_aload_n C (j := 0) (oDec_at oLw_16 17 rfl) rfl rfl ?_
        refine L_iload_n C (j := 3) (oDec_at oLw_16 18 rfl) rfl rfl ?_
        refine L_iconst C (oDec_at oLw_16 19 rfl) (v := k1) (by rw [qk1]; rfl) ?_
        obtain ⟨v488, ev488⟩ : ∃ z : Int32, z = x3 + k1 := ⟨_, rfl⟩
        have hv488 : v488.toInt = x3.toInt + k1.toInt := n_add ev488 (by omega) (by omega)
        refine L_iadd C v488 (oDec_at oLw_16 20 rfl) ev488 ?_
        refine L_sld C ⟨by omega, by omega⟩ (oDec_at oLw_16 21 rfl) ?_
        rw [show xs v488.toNatClampNeg = v481 from by rw [show v488.toNatClampNeg = v480.toNatClampNeg by have q1 := n_nat v488; have q2 := n_nat v480; omega]; exact ev481]
        refine L_aload_n C (j := 0) (oDec_at oLw_16 22 rfl) rfl rfl ?_
        refine L_iload_n C (j := 3) (oDec_at oLw_16 23 rfl) rfl rfl ?_
        refine L_iconst C (oDec_at oLw_16 24 rfl) (v := k2) (by rw [qk2]; rfl) ?_
        obtain ⟨v490, ev490⟩ : ∃ z : Int32, z = x3 + k2 := ⟨_, rfl⟩
        have hv490 : v490.toInt = x3.toInt + k2.toInt := n_add ev490 (by omega) (by omega)
        refine L_iadd C v490 (oDec_at oLw_16 25 rfl) ev490 ?_
        refine L_sld C ⟨by omega, by omega⟩ (oDec_at oLw_16 26 rfl) ?_
        rw [show xs v490.toNatClampNeg = v483 from by rw [show v490.toNatClampNeg = v482.toNatClampNeg by have q1 := n_nat v490; have q2 := n_nat v482; omega]; exact ev483]
        refine L_aload_n C (j := 0) (oDec_at oLw_16 27 rfl) rfl rfl ?_
        refine L_iload_n C (j := 3) (oDec_at oLw_16 28 rfl) rfl rfl ?_
        refine L_iconst C (oDec_at oLw_16 29 rfl) (v := k3) (by rw [qk3]; rfl) ?_
        obtain ⟨v492, ev492⟩ : ∃ z : Int32, z = x3 + k3 := ⟨_, rfl⟩
        have hv492 : v492.toInt = x3.toInt + k3.toInt := n_add ev492 (by omega) (by omega)
        refine L_iadd C v492 (oDec_at oLw_16 30 rfl) ev492 ?_
        refine L_sld C ⟨by omega, by omega⟩ (oDec_at oLw_16 31 rfl) ?_
        rw [show xs v492.toNatClampNeg = v485 from by rw [show v492.toNatClampNeg = v484.toNatClampNeg by have q1 := n_nat v492; have q2 := n_nat v484; omega]; exact ev485]
        have lk494 : ((u486).1 71 38).toInt = (t.1 71 38).toInt := congrArg Int32.toInt ((fu486 71 38 rfl).1)
        have lk495 : ((u486).1 71 42).toInt = (t.1 71 42).toInt := congrArg Int32.toInt ((fu486 71 42 rfl).1)
        refine L_callVi C oCl12 rfl miX12_make mlL_143 (ct_X12_make l E (u486) v481 v483 v485 (oBI_fr fu486 rfl iv2) (oLT_fr fu486 rfl iv0) (by omega)) (by decide) rfl rfl rfl (Nat.le_of_ble_eq_true rfl) (oDec_at oLw_16 32 rfl) (fun r497 u496 pu496 fu496 => ?_)
        try dsimp only at pu496
        obtain ⟨pu496_0, pu496_1⟩ := pu496
        refine L_pc C 1215 rfl ?_
        refine L_pop C (oDec_at oLw_16 33 rfl) rfl ?_
        refine L_goto C (tgt := 1453) (oDec_at oLw_16 34 rfl) (by decide) ?_
        obtain ⟨v498, ev498⟩ : ∃ z : Int32, x3 + Int32.ofInt 6 = z := ⟨_, rfl⟩
        have hv498 : v498.toInt = x3.toInt + 6 := n_inc ev498 (by decide) (by omega) (by omega)
        refine L_iinc C (j := 3) (lv' := [(0, .ref b), (1, .ref (oad E 0)), (2, .ref (oad E 71)), (3, .int v498)]) v498 [1, 2, 3, 0] (oDec_at oLw_20 21 rfl) rfl ev498 (by decide) rfl ?_
        refine L_goto C (tgt := 18) (oDec_at oLw_20 22 rfl) (by decide) ?_
        exact ih (n - 1) (by omega) (u496) v498 pu496_0 (by omega) (oBI_fr fu496 rfl (oBI_fr fu486 rfl iv2)) (by omega) (by omega)
      by_cases cd6_31 : v5.toInt = 31
      · refine L_tableIn C 1219 (oDec_at oLw_0 21 rfl) (by omega) (by omega) (by rw [cd6_31]; rfl) (by decide) ?_
        skip
        refine L_aload_n C (j := 1) (oDec_at oLw_16 35 rfl) rfl rfl ?_
        refine L_aload_n C (j := 0) (oDec_at oLw_16 36 rfl) rfl rfl ?_
        refine L_iload_n C (j := 3) (oDec_at oLw_16 37 rfl) rfl rfl ?_
        refine L_iconst C (oDec_at oLw_16 38 rfl) (v := k1) (by rw [qk1]; rfl) ?_
        obtain ⟨v499, ev499⟩ : ∃ z : Int32, z = x3 + k1 := ⟨_, rfl⟩
        have hv499 : v499.toInt = x3.toInt + k1.toInt := n_add ev499 (by omega) (by omega)
        refine L_iadd C v499 (oDec_at oLw_16 39 rfl) ev499 ?_
        refine L_sld C ⟨by omega, by omega⟩ (oDec_at oLw_16 40 rfl) ?_
        obtain ⟨v500, ev500⟩ : ∃ z : Int32, xs v499.toNatClampNeg = z := ⟨_, rfl⟩
        rw [ev500]
        have rv500 := n_rng v500
        refine L_aload_n C (j := 0) (oDec_at oLw_16 41 rfl) rfl rfl ?_
        refine L_iload_n C (j := 3) (oDec_at oLw_16 42 rfl) rfl rfl ?_
        refine L_iconst C (oDec_at oLw_16 43 rfl) (v := k2) (by rw [qk2]; rfl) ?_
        obtain ⟨v501, ev501⟩ : ∃ z : Int32, z = x3 + k2 := ⟨_, rfl⟩
        have hv501 : v501.toInt = x3.toInt + k2.toInt := n_add ev501 (by omega) (by omega)
        refine L_iadd C v501 (oDec_at oLw_16 44 rfl) ev501 ?_
        refine L_sld C ⟨by omega, by omega⟩ (oDec_at oLw_16 45 rfl) ?_
        obtain ⟨v502, ev502⟩ : ∃ z : Int32, xs v501.toNatClampNeg = z := ⟨_, rfl⟩
        rw [ev502]
        have rv502 := n_rng v502
        refine L_callVi C oCl11 rfl miX11_shortest mlL_144 (ct_X11_shortest l E (t) v500 v502 ) (by decide) rfl rfl rfl (Nat.le_of_ble_eq_true rfl) (oDec_at oLw_16 46 rfl) (fun r504 u503 pu503 fu503 => ?_)
        try dsimp only at pu503
        refine L_pc C 1233 rfl ?_
        refine L_pop C (oDec_at oLw_16 47 rfl) rfl ?_
        refine L_aload_n C (j := 2) (oDec_at oLw_16 48 rfl) rfl rfl ?_
        refine L_aload_n C (j := 0) (oDec_at oLw_16 49 rfl) rfl rfl ?_
        refine L_iload_n C (j := 3) (oDec_at oLw_17 0 rfl) rfl rfl ?_
        refine L_iconst C (oDec_at oLw_17 1 rfl) (v := k1) (by rw [qk1]; rfl) ?_
        obtain ⟨v505, ev505⟩ : ∃ z : Int32, z = x3 + k1 := ⟨_, rfl⟩
        have hv505 : v505.toInt = x3.toInt + k1.toInt := n_add ev505 (by omega) (by omega)
        refine L_iadd C v505 (oDec_at oLw_17 2 rfl) ev505 ?_
        refine L_sld C ⟨by omega, by omega⟩ (oDec_at oLw_17 3 rfl) ?_
        rw [show xs v505.toNatClampNeg = v500 from by rw [show v505.toNatClampNeg = v499.toNatClampNeg by have q1 := n_nat v505; have q2 := n_nat v499; omega]; exact ev500]
        refine L_aload_n C (j := 0) (oDec_at oLw_17 4 rfl) rfl rfl ?_
        refine L_iload_n C (j := 3) (oDec_at oLw_17 5 rfl) rfl rfl ?_
        refine L_iconst C (oDec_at oLw_17 6 rfl) (v := k2) (by rw [qk2]; rfl) ?_
        obtain ⟨v507, ev507⟩ : ∃ z : Int32, z = x3 + k2 := ⟨_, rfl⟩
        have hv507 : v507.toInt = x3.toInt + k2.toInt := n_add ev507 (by omega) (by omega)
        refine L_iadd C v507 (oDec_at oLw_17 7 rfl) ev507 ?_
        refine L_sld C ⟨by omega, by omega⟩ (oDec_at oLw_17 8 rfl) ?_
        rw [show xs v507.toNatClampNeg = v502 from by rw [show v507.toNatClampNeg = v501.toNatClampNeg by have q1 := n_nat v507; have q2 := n_nat v501; omega]; exact ev502]
        have lk509 : ((u503).1 71 38).toInt = (t.1 71 38).toInt := congrArg Int32.toInt ((fu503 71 38 rfl).1)
        have lk510 : ((u503).1 71 42).toInt = (t.1 71 42).toInt := congrArg Int32.toInt ((fu503 71 42 rfl).1)
        refine L_callVi C oCl12 rfl miX12_shortest mlL_147 (ct_X12_shortest l E (u503) v500 v502 (oBI_fr fu503 rfl iv2) (oLT_fr fu503 rfl iv0) (by omega)) (by decide) rfl rfl rfl (Nat.le_of_ble_eq_true rfl) (oDec_at oLw_17 9 rfl) (fun r512 u511 pu511 fu511 => ?_)
        try dsimp only at pu511
        obtain ⟨pu511_0, pu511_1⟩ := pu511
        refine L_pc C 1248 rfl ?_
        refine L_pop C (oDec_at oLw_17 10 rfl) rfl ?_
        refine L_goto C (tgt := 1453) (oDec_at oLw_17 11 rfl) (by decide) ?_
        obtain ⟨v513, ev513⟩ : ∃ z : Int32, x3 + Int32.ofInt 6 = z := ⟨_, rfl⟩
        have hv513 : v513.toInt = x3.toInt + 6 := n_inc ev513 (by decide) (by omega) (by omega)
        refine L_iinc C (j := 3) (lv' := [(0, .ref b), (1, .ref (oad E 0)), (2, .ref (oad E 71)), (3, .int v513)]) v513 [1, 2, 3, 0] (oDec_at oLw_20 21 rfl) rfl ev513 (by decide) rfl ?_
        refine L_goto C (tgt := 18) (oDec_at oLw_20 22 rfl) (by decide) ?_
        exact ih (n - 1) (by omega) (u511) v513 pu511_0 (by omega) (oBI_fr fu511 rfl (oBI_fr fu503 rfl iv2)) (by omega) (by omega)
      by_cases cd6_32 : v5.toInt = 32
      · refine L_tableIn C 1252 (oDec_at oLw_0 21 rfl) (by omega) (by omega) (by rw [cd6_32]; rfl) (by decide) ?_
        skip
        refine L_aload_n C (j := 1) (oDec_at oLw_17 12 rfl) rfl rfl ?_
        refine L_aload_n C (j := 0) (oDec_at oLw_17 13 rfl) rfl rfl ?_
        refine L_iload_n C (j := 3) (oDec_at oLw_17 14 rfl) rfl rfl ?_
        refine L_iconst C (oDec_at oLw_17 15 rfl) (v := k1) (by rw [qk1]; rfl) ?_
        obtain ⟨v514, ev514⟩ : ∃ z : Int32, z = x3 + k1 := ⟨_, rfl⟩
        have hv514 : v514.toInt = x3.toInt + k1.toInt := n_add ev514 (by omega) (by omega)
        refine L_iadd C v514 (oDec_at oLw_17 16 rfl) ev514 ?_
        refine L_sld C ⟨by omega, by omega⟩ (oDec_at oLw_17 17 rfl) ?_
        obtain ⟨v515, ev515⟩ : ∃ z : Int32, xs v514.toNatClampNeg = z := ⟨_, rfl⟩
        rw [ev515]
        have rv515 := n_rng v515
        refine L_aload_n C (j := 0) (oDec_at oLw_17 18 rfl) rfl rfl ?_
        refine L_iload_n C (j := 3) (oDec_at oLw_17 19 rfl) rfl rfl ?_
        refine L_iconst C (oDec_at oLw_17 20 rfl) (v := k2) (by rw [qk2]; rfl) ?_
        obtain ⟨v516, ev516⟩ : ∃ z : Int32, z = x3 + k2 := ⟨_, rfl⟩
        have hv516 : v516.toInt = x3.toInt + k2.toInt := n_add ev516 (by omega) (by omega)
        refine L_iadd C v516 (oDec_at oLw_17 21 rfl) ev516 ?_
        refine L_sld C ⟨by omega, by omega⟩ (oDec_at oLw_17 22 rfl) ?_
        obtain ⟨v517, ev517⟩ : ∃ z : Int32, xs v516.toNatClampNeg = z := ⟨_, rfl⟩
        rw [ev517]
        have rv517 := n_rng v517
        refine L_aload_n C (j := 0) (oDec_at oLw_17 23 rfl) rfl rfl ?_
        refine L_iload_n C (j := 3) (oDec_at oLw_17 24 rfl) rfl rfl ?_
        refine L_iconst C (oDec_at oLw_17 25 rfl) (v := k3) (by rw [qk3]; rfl) ?_
        obtain ⟨v518, ev518⟩ : ∃ z : Int32, z = x3 + k3 := ⟨_, rfl⟩
        have hv518 : v518.toInt = x3.toInt + k3.toInt := n_add ev518 (by omega) (by omega)
        refine L_iadd C v518 (oDec_at oLw_17 26 rfl) ev518 ?_
        refine L_sld C ⟨by omega, by omega⟩ (oDec_at oLw_17 27 rfl) ?_
        obtain ⟨v519, ev519⟩ : ∃ z : Int32, xs v518.toNatClampNeg = z := ⟨_, rfl⟩
        rw [ev519]
        have rv519 := n_rng v519
        refine L_callVi C oCl11 rfl miX11_richest mlL_148 (ct_X11_richest l E (t) v515 v517 v519 ) (by decide) rfl rfl rfl (Nat.le_of_ble_eq_true rfl) (oDec_at oLw_17 28 rfl) (fun r521 u520 pu520 fu520 => ?_)
        try dsimp only at pu520
        refine L_pc C 1271 rfl ?_
        refine L_pop C (oDec_at oLw_17 29 rfl) rfl ?_
        refine L_aload_n C (j := 2) (oDec_at oLw_17 30 rfl) rfl rfl ?_
        refine L_aload_n C (j := 0) (oDec_at oLw_17 31 rfl) rfl rfl ?_
        refine L_iload_n C (j := 3) (oDec_at oLw_17 32 rfl) rfl rfl ?_
        refine L_iconst C (oDec_at oLw_17 33 rfl) (v := k1) (by rw [qk1]; rfl) ?_
        obtain ⟨v522, ev522⟩ : ∃ z : Int32, z = x3 + k1 := ⟨_, rfl⟩
        have hv522 : v522.toInt = x3.toInt + k1.toInt := n_add ev522 (by omega) (by omega)
        refine L_iadd C v522 (oDec_at oLw_17 34 rfl) ev522 ?_
        refine L_sld C ⟨by omega, by omega⟩ (oDec_at oLw_17 35 rfl) ?_
        rw [show xs v522.toNatClampNeg = v515 from by rw [show v522.toNatClampNeg = v514.toNatClampNeg by have q1 := n_nat v522; have q2 := n_nat v514; omega]; exact ev515]
        refine L_aload_n C (j := 0) (oDec_at oLw_17 36 rfl) rfl rfl ?_
        refine L_iload_n C (j := 3) (oDec_at oLw_17 37 rfl) rfl rfl ?_
        refine L_iconst C (oDec_at oLw_17 38 rfl) (v := k2) (by rw [qk2]; rfl) ?_
        obtain ⟨v524, ev524⟩ : ∃ z : Int32, z = x3 + k2 := ⟨_, rfl⟩
        have hv524 : v524.toInt = x3.toInt + k2.toInt := n_add ev524 (by omega) (by omega)
        refine L_iadd C v524 (oDec_at oLw_17 39 rfl) ev524 ?_
        refine L_sld C ⟨by omega, by omega⟩ (oDec_at oLw_17 40 rfl) ?_
        rw [show xs v524.toNatClampNeg = v517 from by rw [show v524.toNatClampNeg = v516.toNatClampNeg by have q1 := n_nat v524; have q2 := n_nat v516; omega]; exact ev517]
        refine L_aload_n C (j := 0) (oDec_at oLw_17 41 rfl) rfl rfl ?_
        refine L_iload_n C (j := 3) (oDec_at oLw_17 42 rfl) rfl rfl ?_
        refine L_iconst C (oDec_at oLw_17 43 rfl) (v := k3) (by rw [qk3]; rfl) ?_
        obtain ⟨v526, ev526⟩ : ∃ z : Int32, z = x3 + k3 := ⟨_, rfl⟩
        have hv526 : v526.toInt = x3.toInt + k3.toInt := n_add ev526 (by omega) (by omega)
        refine L_iadd C v526 (oDec_at oLw_17 44 rfl) ev526 ?_
        refine L_sld C ⟨by omega, by omega⟩ (oDec_at oLw_17 45 rfl) ?_
        rw [show xs v526.toNatClampNeg = v519 from by rw [show v526.toNatClampNeg = v518.toNatClampNeg by have q1 := n_nat v526; have q2 := n_nat v518; omega]; exact ev519]
        have lk528 : ((u520).1 71 38).toInt = (t.1 71 38).toInt := congrArg Int32.toInt ((fu520 71 38 rfl).1)
        have lk529 : ((u520).1 71 42).toInt = (t.1 71 42).toInt := congrArg Int32.toInt ((fu520 71 42 rfl).1)
        refine L_callVi C oCl12 rfl miX12_richest mlL_151 (ct_X12_richest l E (u520) v515 v517 v519 (oBI_fr fu520 rfl iv2) (oLT_fr fu520 rfl iv0) (by omega)) (by decide) rfl rfl rfl (Nat.le_of_ble_eq_true rfl) (oDec_at oLw_17 46 rfl) (fun r531 u530 pu530 fu530 => ?_)
        try dsimp only at pu530
        obtain ⟨pu530_0, pu530_1⟩ := pu530
        refine L_pc C 1291 rfl ?_
        refine L_pop C (oDec_at oLw_17 47 rfl) rfl ?_
        refine L_goto C (tgt := 1453) (oDec_at oLw_17 48 rfl) (by decide) ?_
        obtain ⟨v532, ev532⟩ : ∃ z : Int32, x3 + Int32.ofInt 6 = z := ⟨_, rfl⟩
        have hv532 : v532.toInt = x3.toInt + 6 := n_inc ev532 (by decide) (by omega) (by omega)
        refine L_iinc C (j := 3) (lv' := [(0, .ref b), (1, .ref (oad E 0)), (2, .ref (oad E 71)), (3, .int v532)]) v532 [1, 2, 3, 0] (oDec_at oLw_20 21 rfl) rfl ev532 (by decide) rfl ?_
        refine L_goto C (tgt := 18) (oDec_at oLw_20 22 rfl) (by decide) ?_
        exact ih (n - 1) (by omega) (u530) v532 pu530_0 (by omega) (oBI_fr fu530 rfl (oBI_fr fu520 rfl iv2)) (by omega) (by omega)
      by_cases cd6_33 : v5.toInt = 33
      · refine L_tableIn C 1295 (oDec_at oLw_0 21 rfl) (by omega) (by omega) (by rw [cd6_33]; rfl) (by decide) ?_
        skip
        refine L_aload_n C (j := 1) (oDec_at oLw_17 49 rfl) rfl rfl ?_
        refine L_aload_n C (j := 0) (oDec_at oLw_18 0 rfl) rfl rfl ?_
        refine L_iload_n C (j := 3) (oDec_at oLw_18 1 rfl) rfl rfl ?_
        refine L_iconst C (oDec_at oLw_18 2 rfl) (v := k1) (by rw [qk1]; rfl) ?_
        obtain ⟨v533, ev533⟩ : ∃ z : Int32, z = x3 + k1 := ⟨_, rfl⟩
        have hv533 : v533.toInt = x3.toInt + k1.toInt := n_add ev533 (by omega) (by omega)
        refine L_iadd C v533 (oDec_at oLw_18 3 rfl) ev533 ?_
        refine L_sld C ⟨by omega, by omega⟩ (oDec_at oLw_18 4 rfl) ?_
        obtain ⟨v534, ev534⟩ : ∃ z : Int32, xs v533.toNatClampNeg = z := ⟨_, rfl⟩
        rw [ev534]
        have rv534 := n_rng v534
        refine L_aload_n C (j := 0) (oDec_at oLw_18 5 rfl) rfl rfl ?_
        refine L_iload_n C (j := 3) (oDec_at oLw_18 6 rfl) rfl rfl ?_
        refine L_iconst C (oDec_at oLw_18 7 rfl) (v := k2) (by rw [qk2]; rfl) ?_
        obtain ⟨v535, ev535⟩ : ∃ z : Int32, z = x3 + k2 := ⟨_, rfl⟩
        have hv535 : v535.toInt = x3.toInt + k2.toInt := n_add ev535 (by omega) (by omega)
        refine L_iadd C v535 (oDec_at oLw_18 8 rfl) ev535 ?_
        refine L_sld C ⟨by omega, by omega⟩ (oDec_at oLw_18 9 rfl) ?_
        obtain ⟨v536, ev536⟩ : ∃ z : Int32, xs v535.toNatClampNeg = z := ⟨_, rfl⟩
        rw [ev536]
        have rv536 := n_rng v536
        refine L_callVi C oCl11 rfl miX11_wrong mlL_152 (ct_X11_wrong l E (t) v534 v536 ) (by decide) rfl rfl rfl (Nat.le_of_ble_eq_true rfl) (oDec_at oLw_18 10 rfl) (fun r538 u537 pu537 fu537 => ?_)
        try dsimp only at pu537
        refine L_pc C 1309 rfl ?_
        refine L_pop C (oDec_at oLw_18 11 rfl) rfl ?_
        refine L_aload_n C (j := 2) (oDec_at oLw_18 12 rfl) rfl rfl ?_
        refine L_aload_n C (j := 0) (oDec_at oLw_18 13 rfl) rfl rfl ?_
        refine L_iload_n C (j := 3) (oDec_at oLw_18 14 rfl) rfl rfl ?_
        refine L_iconst C (oDec_at oLw_18 15 rfl) (v := k1) (by rw [qk1]; rfl) ?_
        obtain ⟨v539, ev539⟩ : ∃ z : Int32, z = x3 + k1 := ⟨_, rfl⟩
        have hv539 : v539.toInt = x3.toInt + k1.toInt := n_add ev539 (by omega) (by omega)
        refine L_iadd C v539 (oDec_at oLw_18 16 rfl) ev539 ?_
        refine L_sld C ⟨by omega, by omega⟩ (oDec_at oLw_18 17 rfl) ?_
        rw [show xs v539.toNatClampNeg = v534 from by rw [show v539.toNatClampNeg = v533.toNatClampNeg by have q1 := n_nat v539; have q2 := n_nat v533; omega]; exact ev534]
        refine L_aload_n C (j := 0) (oDec_at oLw_18 18 rfl) rfl rfl ?_
        refine L_iload_n C (j := 3) (oDec_at oLw_18 19 rfl) rfl rfl ?_
        refine L_iconst C (oDec_at oLw_18 20 rfl) (v := k2) (by rw [qk2]; rfl) ?_
        obtain ⟨v541, ev541⟩ : ∃ z : Int32, z = x3 + k2 := ⟨_, rfl⟩
        have hv541 : v541.toInt = x3.toInt + k2.toInt := n_add ev541 (by omega) (by omega)
        refine L_iadd C v541 (oDec_at oLw_18 21 rfl) ev541 ?_
        refine L_sld C ⟨by omega, by omega⟩ (oDec_at oLw_18 22 rfl) ?_
        rw [show xs v541.toNatClampNeg = v536 from by rw [show v541.toNatClampNeg = v535.toNatClampNeg by have q1 := n_nat v541; have q2 := n_nat v535; omega]; exact ev536]
        have lk543 : ((u537).1 71 38).toInt = (t.1 71 38).toInt := congrArg Int32.toInt ((fu537 71 38 rfl).1)
        have lk544 : ((u537).1 71 42).toInt = (t.1 71 42).toInt := congrArg Int32.toInt ((fu537 71 42 rfl).1)
        refine L_callVi C oCl12 rfl miX12_wrong mlL_155 (ct_X12_wrong l E (u537) v534 v536 (oBI_fr fu537 rfl iv2) (oLT_fr fu537 rfl iv0) (by omega)) (by decide) rfl rfl rfl (Nat.le_of_ble_eq_true rfl) (oDec_at oLw_18 23 rfl) (fun r546 u545 pu545 fu545 => ?_)
        try dsimp only at pu545
        obtain ⟨pu545_0, pu545_1⟩ := pu545
        refine L_pc C 1324 rfl ?_
        refine L_pop C (oDec_at oLw_18 24 rfl) rfl ?_
        refine L_goto C (tgt := 1453) (oDec_at oLw_18 25 rfl) (by decide) ?_
        obtain ⟨v547, ev547⟩ : ∃ z : Int32, x3 + Int32.ofInt 6 = z := ⟨_, rfl⟩
        have hv547 : v547.toInt = x3.toInt + 6 := n_inc ev547 (by decide) (by omega) (by omega)
        refine L_iinc C (j := 3) (lv' := [(0, .ref b), (1, .ref (oad E 0)), (2, .ref (oad E 71)), (3, .int v547)]) v547 [1, 2, 3, 0] (oDec_at oLw_20 21 rfl) rfl ev547 (by decide) rfl ?_
        refine L_goto C (tgt := 18) (oDec_at oLw_20 22 rfl) (by decide) ?_
        exact ih (n - 1) (by omega) (u545) v547 pu545_0 (by omega) (oBI_fr fu545 rfl (oBI_fr fu537 rfl iv2)) (by omega) (by omega)
      by_cases cd6_34 : v5.toInt = 34
      · refine L_tableIn C 1328 (oDec_at oLw_0 21 rfl) (by omega) (by omega) (by rw [cd6_34]; rfl) (by decide) ?_
        skip
        refine L_aload_n C (j := 1) (oDec_at oLw_18 26 rfl) rfl rfl ?_
        refine L_aload_n C (j := 0) (oDec_at oLw_18 27 rfl) rfl rfl ?_
        refine L_iload_n C (j := 3) (oDec_at oLw_18 28 rfl) rfl rfl ?_
        refine L_iconst C (oDec_at oLw_18 29 rfl) (v := k1) (by rw [qk1]; rfl) ?_
        obtain ⟨v548, ev548⟩ : ∃ z : Int32, z = x3 + k1 := ⟨_, rfl⟩
        have hv548 : v548.toInt = x3.toInt + k1.toInt := n_add ev548 (by omega) (by omega)
        refine L_iadd C v548 (oDec_at oLw_18 30 rfl) ev548 ?_
        refine L_sld C ⟨by omega, by omega⟩ (oDec_at oLw_18 31 rfl) ?_
        obtain ⟨v549, ev549⟩ : ∃ z : Int32, xs v548.toNatClampNeg = z := ⟨_, rfl⟩
        rw [ev549]
        have rv549 := n_rng v549
        refine L_aload_n C (j := 0) (oDec_at oLw_18 32 rfl) rfl rfl ?_
        refine L_iload_n C (j := 3) (oDec_at oLw_18 33 rfl) rfl rfl ?_
        refine L_iconst C (oDec_at oLw_18 34 rfl) (v := k2) (by rw [qk2]; rfl) ?_
        obtain ⟨v550, ev550⟩ : ∃ z : Int32, z = x3 + k2 := ⟨_, rfl⟩
        have hv550 : v550.toInt = x3.toInt + k2.toInt := n_add ev550 (by omega) (by omega)
        refine L_iadd C v550 (oDec_at oLw_18 35 rfl) ev550 ?_
        refine L_sld C ⟨by omega, by omega⟩ (oDec_at oLw_18 36 rfl) ?_
        obtain ⟨v551, ev551⟩ : ∃ z : Int32, xs v550.toNatClampNeg = z := ⟨_, rfl⟩
        rw [ev551]
        have rv551 := n_rng v551
        refine L_callVi C oCl11 rfl miX11_change mlL_156 (ct_X11_change l E (t) v549 v551 ) (by decide) rfl rfl rfl (Nat.le_of_ble_eq_true rfl) (oDec_at oLw_18 37 rfl) (fun r553 u552 pu552 fu552 => ?_)
        try dsimp only at pu552
        refine L_pc C 1342 rfl ?_
        refine L_pop C (oDec_at oLw_18 38 rfl) rfl ?_
        refine L_aload_n C (j := 2) (oDec_at oLw_18 39 rfl) rfl rfl ?_
        refine L_aload_n C (j := 0) (oDec_at oLw_18 40 rfl) rfl rfl ?_
        refine L_iload_n C (j := 3) (oDec_at oLw_18 41 rfl) rfl rfl ?_
        refine L_iconst C (oDec_at oLw_18 42 rfl) (v := k1) (by rw [qk1]; rfl) ?_
        obtain ⟨v554, ev554⟩ : ∃ z : Int32, z = x3 + k1 := ⟨_, rfl⟩
        have hv554 : v554.toInt = x3.toInt + k1.toInt := n_add ev554 (by omega) (by omega)
        refine L_iadd C v554 (oDec_at oLw_18 43 rfl) ev554 ?_
        refine L_sld C ⟨by omega, by omega⟩ (oDec_at oLw_18 44 rfl) ?_
        rw [show xs v554.toNatClampNeg = v549 from by rw [show v554.toNatClampNeg = v548.toNatClampNeg by have q1 := n_nat v554; have q2 := n_nat v548; omega]; exact ev549]
        refine L_aload_n C (j := 0) (oDec_at oLw_18 45 rfl) rfl rfl ?_
        refine L_iload_n C (j := 3) (oDec_at oLw_18 46 rfl) rfl rfl ?_
        refine L_iconst C (oDec_at oLw_18 47 rfl) (v := k2) (by rw [qk2]; rfl) ?_
        obtain ⟨v556, ev556⟩ : ∃ z : Int32, z = x3 + k2 := ⟨_, rfl⟩
        have hv556 : v556.toInt = x3.toInt + k2.toInt := n_add ev556 (by omega) (by omega)
        refine L_iadd C v556 (oDec_at oLw_18 48 rfl) ev556 ?_
        refine L_sld C ⟨by omega, by omega⟩ (oDec_at oLw_18 49 rfl) ?_
        rw [show xs v556.toNatClampNeg = v551 from by rw [show v556.toNatClampNeg = v550.toNatClampNeg by have q1 := n_nat v556; have q2 := n_nat v550; omega]; exact ev551]
        have lk558 : ((u552).1 71 38).toInt = (t.1 71 38).toInt := congrArg Int32.toInt ((fu552 71 38 rfl).1)
        have lk559 : ((u552).1 71 42).toInt = (t.1 71 42).toInt := congrArg Int32.toInt ((fu552 71 42 rfl).1)
        refine L_callVi C oCl12 rfl miX12_change mlL_159 (ct_X12_change l E (u552) v549 v551 (oLT_fr fu552 rfl iv0) (by omega)) (by decide) rfl rfl rfl (Nat.le_of_ble_eq_true rfl) (oDec_at oLw_19 0 rfl) (fun r561 u560 pu560 fu560 => ?_)
        try dsimp only at pu560
        obtain ⟨pu560_0, pu560_1⟩ := pu560
        refine L_pc C 1357 rfl ?_
        refine L_pop C (oDec_at oLw_19 1 rfl) rfl ?_
        refine L_goto C (tgt := 1453) (oDec_at oLw_19 2 rfl) (by decide) ?_
        obtain ⟨v562, ev562⟩ : ∃ z : Int32, x3 + Int32.ofInt 6 = z := ⟨_, rfl⟩
        have hv562 : v562.toInt = x3.toInt + 6 := n_inc ev562 (by decide) (by omega) (by omega)
        refine L_iinc C (j := 3) (lv' := [(0, .ref b), (1, .ref (oad E 0)), (2, .ref (oad E 71)), (3, .int v562)]) v562 [1, 2, 3, 0] (oDec_at oLw_20 21 rfl) rfl ev562 (by decide) rfl ?_
        refine L_goto C (tgt := 18) (oDec_at oLw_20 22 rfl) (by decide) ?_
        have lk563 : ((u560).1 71 38).toInt = (t.1 71 38).toInt := congrArg Int32.toInt (((fu560 71 38 rfl).1).trans ((fu552 71 38 rfl).1))
        exact ih (n - 1) (by omega) (u560) v562 pu560_0 (by omega) (oBI_fr fu560 rfl (oBI_fr fu552 rfl iv2)) (by omega) (by omega)
      by_cases cd6_35 : v5.toInt = 35
      · refine L_tableIn C 1361 (oDec_at oLw_0 21 rfl) (by omega) (by omega) (by rw [cd6_35]; rfl) (by decide) ?_
        skip
        refine L_aload_n C (j := 1) (oDec_at oLw_19 3 rfl) rfl rfl ?_
        refine L_aload_n C (j := 0) (oDec_at oLw_19 4 rfl) rfl rfl ?_
        refine L_iload_n C (j := 3) (oDec_at oLw_19 5 rfl) rfl rfl ?_
        refine L_iconst C (oDec_at oLw_19 6 rfl) (v := k1) (by rw [qk1]; rfl) ?_
        obtain ⟨v564, ev564⟩ : ∃ z : Int32, z = x3 + k1 := ⟨_, rfl⟩
        have hv564 : v564.toInt = x3.toInt + k1.toInt := n_add ev564 (by omega) (by omega)
        refine L_iadd C v564 (oDec_at oLw_19 7 rfl) ev564 ?_
        refine L_sld C ⟨by omega, by omega⟩ (oDec_at oLw_19 8 rfl) ?_
        obtain ⟨v565, ev565⟩ : ∃ z : Int32, xs v564.toNatClampNeg = z := ⟨_, rfl⟩
        rw [ev565]
        have rv565 := n_rng v565
        refine L_aload_n C (j := 0) (oDec_at oLw_19 9 rfl) rfl rfl ?_
        refine L_iload_n C (j := 3) (oDec_at oLw_19 10 rfl) rfl rfl ?_
        refine L_iconst C (oDec_at oLw_19 11 rfl) (v := k2) (by rw [qk2]; rfl) ?_
        obtain ⟨v566, ev566⟩ : ∃ z : Int32, z = x3 + k2 := ⟨_, rfl⟩
        have hv566 : v566.toInt = x3.toInt + k2.toInt := n_add ev566 (by omega) (by omega)
        refine L_iadd C v566 (oDec_at oLw_19 12 rfl) ev566 ?_
        refine L_sld C ⟨by omega, by omega⟩ (oDec_at oLw_19 13 rfl) ?_
        obtain ⟨v567, ev567⟩ : ∃ z : Int32, xs v566.toNatClampNeg = z := ⟨_, rfl⟩
        rw [ev567]
        have rv567 := n_rng v567
        refine L_aload_n C (j := 0) (oDec_at oLw_19 14 rfl) rfl rfl ?_
        refine L_iload_n C (j := 3) (oDec_at oLw_19 15 rfl) rfl rfl ?_
        refine L_iconst C (oDec_at oLw_19 16 rfl) (v := k3) (by rw [qk3]; rfl) ?_
        obtain ⟨v568, ev568⟩ : ∃ z : Int32, z = x3 + k3 := ⟨_, rfl⟩
        have hv568 : v568.toInt = x3.toInt + k3.toInt := n_add ev568 (by omega) (by omega)
        refine L_iadd C v568 (oDec_at oLw_19 17 rfl) ev568 ?_
        refine L_sld C ⟨by omega, by omega⟩ (oDec_at oLw_19 18 rfl) ?_
        obtain ⟨v569, ev569⟩ : ∃ z : Int32, xs v568.toNatClampNeg = z := ⟨_, rfl⟩
        rw [ev569]
        have rv569 := n_rng v569
        refine L_callVi C oCl11 rfl miX11_draw mlL_160 (ct_X11_draw l E (t) v565 v567 v569 ) (by decide) rfl rfl rfl (Nat.le_of_ble_eq_true rfl) (oDec_at oLw_19 19 rfl) (fun r571 u570 pu570 fu570 => ?_)
        try dsimp only at pu570
        refine L_pc C 1380 rfl ?_
        refine L_pop C (oDec_at oLw_19 20 rfl) rfl ?_
        refine L_aload_n C (j := 2) (oDec_at oLw_19 21 rfl) rfl rfl ?_
        refine L_aload_n C (j := 0) (oDec_at oLw_19 22 rfl) rfl rfl ?_
        refine L_iload_n C (j := 3) (oDec_at oLw_19 23 rfl) rfl rfl ?_
        refine L_iconst C (oDec_at oLw_19 24 rfl) (v := k1) (by rw [qk1]; rfl) ?_
        obtain ⟨v572, ev572⟩ : ∃ z : Int32, z = x3 + k1 := ⟨_, rfl⟩
        have hv572 : v572.toInt = x3.toInt + k1.toInt := n_add ev572 (by omega) (by omega)
        refine L_iadd C v572 (oDec_at oLw_19 25 rfl) ev572 ?_
        refine L_sld C ⟨by omega, by omega⟩ (oDec_at oLw_19 26 rfl) ?_
        rw [show xs v572.toNatClampNeg = v565 from by rw [show v572.toNatClampNeg = v564.toNatClampNeg by have q1 := n_nat v572; have q2 := n_nat v564; omega]; exact ev565]
        refine L_aload_n C (j := 0) (oDec_at oLw_19 27 rfl) rfl rfl ?_
        refine L_iload_n C (j := 3) (oDec_at oLw_19 28 rfl) rfl rfl ?_
        refine L_iconst C (oDec_at oLw_19 29 rfl) (v := k2) (by rw [qk2]; rfl) ?_
        obtain ⟨v574, ev574⟩ : ∃ z : Int32, z = x3 + k2 := ⟨_, rfl⟩
        have hv574 : v574.toInt = x3.toInt + k2.toInt := n_add ev574 (by omega) (by omega)
        refine L_iadd C v574 (oDec_at oLw_19 30 rfl) ev574 ?_
        refine L_sld C ⟨by omega, by omega⟩ (oDec_at oLw_19 31 rfl) ?_
        rw [show xs v574.toNatClampNeg = v567 from by rw [show v574.toNatClampNeg = v566.toNatClampNeg by have q1 := n_nat v574; have q2 := n_nat v566; omega]; exact ev567]
        refine L_aload_n C (j := 0) (oDec_at oLw_19 32 rfl) rfl rfl ?_
        refine L_iload_n C (j := 3) (oDec_at oLw_19 33 rfl) rfl rfl ?_
        refine L_iconst C (oDec_at oLw_19 34 rfl) (v := k3) (by rw [qk3]; rfl) ?_
        obtain ⟨v576, ev576⟩ : ∃ z : Int32, z = x3 + k3 := ⟨_, rfl⟩
        have hv576 : v576.toInt = x3.toInt + k3.toInt := n_add ev576 (by omega) (by omega)
        refine L_iadd C v576 (oDec_at oLw_19 35 rfl) ev576 ?_
        refine L_sld C ⟨by omega, by omega⟩ (oDec_at oLw_19 36 rfl) ?_
        rw [show xs v576.toNatClampNeg = v569 from by rw [show v576.toNatClampNeg = v568.toNatClampNeg by have q1 := n_nat v576; have q2 := n_nat v568; omega]; exact ev569]
        have lk578 : ((u570).1 71 38).toInt = (t.1 71 38).toInt := congrArg Int32.toInt ((fu570 71 38 rfl).1)
        have lk579 : ((u570).1 71 42).toInt = (t.1 71 42).toInt := congrArg Int32.toInt ((fu570 71 42 rfl).1)
        refine L_callVi C oCl12 rfl miX12_draw mlL_163 (ct_X12_draw l E (u570) v565 v567 v569 (oLT_fr fu570 rfl iv0) (by omega)) (by decide) rfl rfl rfl (Nat.le_of_ble_eq_true rfl) (oDec_at oLw_19 37 rfl) (fun r581 u580 pu580 fu580 => ?_)
        try dsimp only at pu580
        obtain ⟨pu580_0, pu580_1⟩ := pu580
        refine L_pc C 1400 rfl ?_
        refine L_pop C (oDec_at oLw_19 38 rfl) rfl ?_
        refine L_goto C (tgt := 1453) (oDec_at oLw_19 39 rfl) (by decide) ?_
        obtain ⟨v582, ev582⟩ : ∃ z : Int32, x3 + Int32.ofInt 6 = z := ⟨_, rfl⟩
        have hv582 : v582.toInt = x3.toInt + 6 := n_inc ev582 (by decide) (by omega) (by omega)
        refine L_iinc C (j := 3) (lv' := [(0, .ref b), (1, .ref (oad E 0)), (2, .ref (oad E 71)), (3, .int v582)]) v582 [1, 2, 3, 0] (oDec_at oLw_20 21 rfl) rfl ev582 (by decide) rfl ?_
        refine L_goto C (tgt := 18) (oDec_at oLw_20 22 rfl) (by decide) ?_
        exact ih (n - 1) (by omega) (u580) v582 pu580_0 (by omega) (oBI_fr fu580 rfl (oBI_fr fu570 rfl iv2)) (by omega) (by omega)
      by_cases cd6_36 : v5.toInt = 36
      · refine L_tableIn C 1404 (oDec_at oLw_0 21 rfl) (by omega) (by omega) (by rw [cd6_36]; rfl) (by decide) ?_
        skip
        refine L_aload_n C (j := 1) (oDec_at oLw_19 40 rfl) rfl rfl ?_
        refine L_callVi C oCl11 rfl miX11_image mlL_164 (ct_X11_image l E (t)  ) (by decide) rfl rfl rfl (Nat.le_of_ble_eq_true rfl) (oDec_at oLw_19 41 rfl) (fun r584 u583 pu583 fu583 => ?_)
        try dsimp only at pu583
        refine L_pc C 1408 rfl ?_
        refine L_pop C (oDec_at oLw_19 42 rfl) rfl ?_
        refine L_aload_n C (j := 2) (oDec_at oLw_19 43 rfl) rfl rfl ?_
        refine L_callVi C oCl12 rfl miX12_image mlL_167 (ct_X12_image l E (u583)  ) (by decide) rfl rfl rfl (Nat.le_of_ble_eq_true rfl) (oDec_at oLw_19 44 rfl) (fun r586 u585 pu585 fu585 => ?_)
        try dsimp only at pu585
        refine L_pc C 1413 rfl ?_
        refine L_pop C (oDec_at oLw_19 45 rfl) rfl ?_
        refine L_goto C (tgt := 1453) (oDec_at oLw_19 46 rfl) (by decide) ?_
        obtain ⟨v587, ev587⟩ : ∃ z : Int32, x3 + Int32.ofInt 6 = z := ⟨_, rfl⟩
        have hv587 : v587.toInt = x3.toInt + 6 := n_inc ev587 (by decide) (by omega) (by omega)
        refine L_iinc C (j := 3) (lv' := [(0, .ref b), (1, .ref (oad E 0)), (2, .ref (oad E 71)), (3, .int v587)]) v587 [1, 2, 3, 0] (oDec_at oLw_20 21 rfl) rfl ev587 (by decide) rfl ?_
        refine L_goto C (tgt := 18) (oDec_at oLw_20 22 rfl) (by decide) ?_
        have lk588 : ((u585).1 71 38).toInt = (t.1 71 38).toInt := congrArg Int32.toInt (((fu585 71 38 rfl).1).trans ((fu583 71 38 rfl).1))
        have lk589 : ((u585).1 71 42).toInt = (t.1 71 42).toInt := congrArg Int32.toInt (((fu585 71 42 rfl).1).trans ((fu583 71 42 rfl).1))
        exact ih (n - 1) (by omega) (u585) v587 (oLT_fr fu585 rfl (oLT_fr fu583 rfl iv0)) (by omega) (oBI_fr fu585 rfl (oBI_fr fu583 rfl iv2)) (by omega) (by omega)
      by_cases cd6_37 : v5.toInt = 37
      · refine L_tableIn C 1417 (oDec_at oLw_0 21 rfl) (by omega) (by omega) (by rw [cd6_37]; rfl) (by decide) ?_
        skip
        refine L_aload_n C (j := 1) (oDec_at oLw_19 47 rfl) rfl rfl ?_
        refine L_aload_n C (j := 0) (oDec_at oLw_19 48 rfl) rfl rfl ?_
        refine L_iload_n C (j := 3) (oDec_at oLw_19 49 rfl) rfl rfl ?_
        refine L_iconst C (oDec_at oLw_20 0 rfl) (v := k1) (by rw [qk1]; rfl) ?_
        obtain ⟨v590, ev590⟩ : ∃ z : Int32, z = x3 + k1 := ⟨_, rfl⟩
        have hv590 : v590.toInt = x3.toInt + k1.toInt := n_add ev590 (by omega) (by omega)
        refine L_iadd C v590 (oDec_at oLw_20 1 rfl) ev590 ?_
        refine L_sld C ⟨by omega, by omega⟩ (oDec_at oLw_20 2 rfl) ?_
        obtain ⟨v591, ev591⟩ : ∃ z : Int32, xs v590.toNatClampNeg = z := ⟨_, rfl⟩
        rw [ev591]
        have rv591 := n_rng v591
        refine L_callVi C oCl11 rfl miX11_octet mlL_168 (ct_X11_octet l E (t) v591 ) (by decide) rfl rfl rfl (Nat.le_of_ble_eq_true rfl) (oDec_at oLw_20 3 rfl) (fun r593 u592 pu592 fu592 => ?_)
        try dsimp only at pu592
        have hxu592 := oFr_nil fu592; subst hxu592
        refine L_pc C 1426 rfl ?_
        refine L_pop C (oDec_at oLw_20 4 rfl) rfl ?_
        refine L_aload_n C (j := 2) (oDec_at oLw_20 5 rfl) rfl rfl ?_
        refine L_aload_n C (j := 0) (oDec_at oLw_20 6 rfl) rfl rfl ?_
        refine L_iload_n C (j := 3) (oDec_at oLw_20 7 rfl) rfl rfl ?_
        refine L_iconst C (oDec_at oLw_20 8 rfl) (v := k1) (by rw [qk1]; rfl) ?_
        obtain ⟨v594, ev594⟩ : ∃ z : Int32, z = x3 + k1 := ⟨_, rfl⟩
        have hv594 : v594.toInt = x3.toInt + k1.toInt := n_add ev594 (by omega) (by omega)
        refine L_iadd C v594 (oDec_at oLw_20 9 rfl) ev594 ?_
        refine L_sld C ⟨by omega, by omega⟩ (oDec_at oLw_20 10 rfl) ?_
        rw [show xs v594.toNatClampNeg = v591 from by rw [show v594.toNatClampNeg = v590.toNatClampNeg by have q1 := n_nat v594; have q2 := n_nat v590; omega]; exact ev591]
        refine L_callVi C oCl12 rfl miX12_octet mlL_171 (ct_X12_octet l E (t) v591 ) (by decide) rfl rfl rfl (Nat.le_of_ble_eq_true rfl) (oDec_at oLw_20 11 rfl) (fun r597 u596 pu596 fu596 => ?_)
        try dsimp only at pu596
        have hxu596 := oFr_nil fu596; subst hxu596
        refine L_pc C 1436 rfl ?_
        refine L_pop C (oDec_at oLw_20 12 rfl) rfl ?_
        refine L_goto C (tgt := 1453) (oDec_at oLw_20 13 rfl) (by decide) ?_
        obtain ⟨v598, ev598⟩ : ∃ z : Int32, x3 + Int32.ofInt 6 = z := ⟨_, rfl⟩
        have hv598 : v598.toInt = x3.toInt + 6 := n_inc ev598 (by decide) (by omega) (by omega)
        refine L_iinc C (j := 3) (lv' := [(0, .ref b), (1, .ref (oad E 0)), (2, .ref (oad E 71)), (3, .int v598)]) v598 [1, 2, 3, 0] (oDec_at oLw_20 21 rfl) rfl ev598 (by decide) rfl ?_
        refine L_goto C (tgt := 18) (oDec_at oLw_20 22 rfl) (by decide) ?_
        exact ih (n - 1) (by omega) (t) v598 iv0 (by omega) iv2 (by omega) (by omega)
      by_cases cd6_38 : v5.toInt = 38
      · refine L_tableIn C 1440 (oDec_at oLw_0 21 rfl) (by omega) (by omega) (by rw [cd6_38]; rfl) (by decide) ?_
        skip
        refine L_aload_n C (j := 1) (oDec_at oLw_20 14 rfl) rfl rfl ?_
        refine L_callVi C oCl11 rfl miX11_on mlL_172 (ct_X11_on l E (t)  ) (by decide) rfl rfl rfl (Nat.le_of_ble_eq_true rfl) (oDec_at oLw_20 15 rfl) (fun r600 u599 pu599 fu599 => ?_)
        try dsimp only at pu599
        obtain ⟨pu599_0, pu599_1⟩ := pu599
        clear pu599_0
        clear pu599_1
        refine L_pc C 1444 rfl ?_
        refine L_pop C (oDec_at oLw_20 16 rfl) rfl ?_
        refine L_aload_n C (j := 2) (oDec_at oLw_20 17 rfl) rfl rfl ?_
        have lk601 : ((u599).1 71 38).toInt = (t.1 71 38).toInt := congrArg Int32.toInt ((fu599 71 38 rfl).1)
        have lk602 : ((u599).1 71 42).toInt = (t.1 71 42).toInt := congrArg Int32.toInt ((fu599 71 42 rfl).1)
        refine L_callVi C oCl12 rfl miX12_on mlL_176 (ct_X12_on l E (u599)  (oLT_fr fu599 rfl iv0) (by omega)) (by decide) rfl rfl rfl (Nat.le_of_ble_eq_true rfl) (oDec_at oLw_20 18 rfl) (fun r604 u603 pu603 fu603 => ?_)
        try dsimp only at pu603
        obtain ⟨pu603_0, pu603_1, pu603_2, pu603_3⟩ := pu603
        clear pu603_0
        clear pu603_3
        refine L_pc C 1449 rfl ?_
        refine L_pop C (oDec_at oLw_20 19 rfl) rfl ?_
        refine L_goto C (tgt := 1453) (oDec_at oLw_20 20 rfl) (by decide) ?_
        obtain ⟨v605, ev605⟩ : ∃ z : Int32, x3 + Int32.ofInt 6 = z := ⟨_, rfl⟩
        have hv605 : v605.toInt = x3.toInt + 6 := n_inc ev605 (by decide) (by omega) (by omega)
        refine L_iinc C (j := 3) (lv' := [(0, .ref b), (1, .ref (oad E 0)), (2, .ref (oad E 71)), (3, .int v605)]) v605 [1, 2, 3, 0] (oDec_at oLw_20 21 rfl) rfl ev605 (by decide) rfl ?_
        refine L_goto C (tgt := 18) (oDec_at oLw_20 22 rfl) (by decide) ?_
        exact ih (n - 1) (by omega) (u603) v605 pu603_1 (by omega) (oBI_fr fu603 rfl (oBI_fr fu599 rfl iv2)) (by omega) (by omega)
      refine L_tableOut C 1453 (oDec_at oLw_0 21 rfl) (by omega) (by decide) ?_
      obtain ⟨v606, ev606⟩ : ∃ z : Int32, x3 + Int32.ofInt 6 = z := ⟨_, rfl⟩
      have hv606 : v606.toInt = x3.toInt + 6 := n_inc ev606 (by decide) (by omega) (by omega)
      refine L_iinc C (j := 3) (lv' := [(0, .ref b), (1, .ref (oad E 0)), (2, .ref (oad E 71)), (3, .int v606)]) v606 [1, 2, 3, 0] (oDec_at oLw_20 21 rfl) rfl ev606 (by decide) rfl ?_
      refine L_goto C (tgt := 18) (oDec_at oLw_20 22 rfl) (by decide) ?_
      exact ih (n - 1) (by omega) (t) v606 iv0 (by omega) iv2 (by omega) (by omega)
