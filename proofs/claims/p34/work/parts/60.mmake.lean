set_option maxHeartbeats 4000000 in
set_option maxRecDepth 100000 in
theorem ct2_X12_firstLine (l : Launch) (E : oE) (s : oS) (a1 : Int32) (a2 : Int32)  (hp0 : 1 ≤ a1.toInt ∧ a1.toInt ≤ 6) : oMet l 2 yX12_firstLine cX12_firstLine 4 (some .boolean) [(12, 38), (12, 42), (12, 43), (12, 69), (75, 9999), (76, 9999), (77, 9999)] E s [.ref (oad E 71), .int a1, .int a2] (oPi (fun r u => (0 ≤ r.toInt ∧ r.toInt ≤ 1) ∧ (oLT u) ∧ (1 ≤ (u.1 71 38).toInt → 1 ≤ (u.1 71 42).toInt) ∧ ((u.1 71 38).toInt = a1.toInt) ∧ (oDg u))) := by
  refine oMet.of (lv := [(0, .ref (oad E 71)), (1, .int a1), (2, .int a2)]) (by decide +kernel) (Nat.le_of_ble_eq_true rfl) rfl (fun J C hT => ?_)
  have C : oC l 2 cX12_firstLine RX12 4 (some .boolean) [(12, 38), (12, 42), (12, 43), (12, 69), (75, 9999), (76, 9999), (77, 9999)] E s (oPi (fun r u => (0 ≤ r.toInt ∧ r.toInt ≤ 1) ∧ (oLT u) ∧ (1 ≤ (u.1 71 38).toInt → 1 ≤ (u.1 71 42).toInt) ∧ ((u.1 71 38).toInt = a1.toInt) ∧ (oDg u))) J := C
  obtain ⟨k0, qk0⟩ : ∃ z : Int32, z = 0 := ⟨_, rfl⟩
  have ek0 : k0.toInt = 0 := by rw [qk0]; rfl
  obtain ⟨k1, qk1⟩ : ∃ z : Int32, z = 1 := ⟨_, rfl⟩
  have ek1 : k1.toInt = 1 := by rw [qk1]; rfl
  obtain ⟨k2, qk2⟩ : ∃ z : Int32, z = 2 := ⟨_, rfl⟩
  have ek2 : k2.toInt = 2 := by rw [qk2]; rfl
  have rg1 := n_rng a1
  have rg2 := n_rng a2
  have key : ∀ n : Nat, (∀ (t : oS) (x3 : Int32), (0 ≤ x3.toInt ∧ x3.toInt ≤ a1.toInt) → ((t.1 71 38).toInt = a1.toInt) → (oT4 x3 t) → (oD4 x3 t) → 25 - x3.toInt ≤ (n : Int) → J t 7 [(0, .ref (oad E 71)), (1, .int a1), (2, .int a2), (3, .int x3)] []) := by
    intro n
    induction n using Nat.strongRecOn with
    | _ n ih =>
      skip
      · intro t x3  iv0 iv1 iv2 iv3 hmu
        have rx3 := n_rng x3
        refine r_iload_n C (j := 3) (oDec_at oX12_firstLine 5 rfl) rfl rfl ?_
        refine r_iload_n C (j := 1) (oDec_at oX12_firstLine 6 rfl) rfl rfl ?_
        refine r_icmp_ge C 34 (oDec_at oX12_firstLine 7 rfl) (by decide) (fun cd1 => ?_) (fun cd1 => ?_)
        · skip
          have hq2 : oLT (t) := oLT_of4 (x := x3) iv2 (by omega) (by omega)
          have hq3 : oDg (t) := oD4_dg (x := x3) iv3 (by omega)
          refine r_aload_n C (j := 0) (oDec_at oX12_firstLine 22 rfl) rfl rfl ?_
          refine r_callVv C oCl12 rfl miX12_lies mlX12_264 (ct_X12_lies l E (t)  hq2) (by decide) rfl rfl rfl (Nat.le_of_ble_eq_true rfl) (oDec_at oX12_firstLine 23 rfl) (fun u4 pu4 fu4 => ?_)
          try dsimp only at pu4
          obtain ⟨pu4_0, pu4_1⟩ := pu4
          have lu6 : ((u4).1 71 38).toInt = (t.1 71 38).toInt := congrArg Int32.toInt ((fu4 71 38 rfl).1)
          refine r_iload_n C (j := 1) (oDec_at oX12_firstLine 24 rfl) rfl rfl ?_
          refine r_iconst C (oDec_at oX12_firstLine 25 rfl) (v := k1) (by rw [qk1]; rfl) ?_
          refine r_icmp_eq C 47 (oDec_at oX12_firstLine 26 rfl) (by decide) (fun cd7 => ?_) (fun cd7 => ?_)
          · skip
            refine r_iconst C (oDec_at oX12_firstLine 29 rfl) (v := k1) (by rw [qk1]; rfl) ?_
            refine r_goto C (tgt := 52) (oDec_at oX12_firstLine 30 rfl) (by decide) ?_
            have lk8 : ((u4).1 71 38).toInt = (t.1 71 38).toInt := congrArg Int32.toInt ((fu4 71 38 rfl).1)
            have lk9 : ((u4).1 71 38).toInt = (t.1 71 38).toInt := congrArg Int32.toInt ((fu4 71 38 rfl).1)
            exact r_zret C (n_bool (by omega)) (oDec_at oX12_firstLine 32 rfl) ⟨_, rfl, ⟨by omega, pu4_0, by omega, by omega, (oDg_fr fu4 rfl hq3)⟩⟩
          · skip
            refine r_iload_n C (j := 2) (oDec_at oX12_firstLine 27 rfl) rfl rfl ?_
            refine r_if_le C 51 (oDec_at oX12_firstLine 28 rfl) (by decide) (fun cd10 => ?_) (fun cd10 => ?_)
            · skip
              refine r_iconst C (oDec_at oX12_firstLine 31 rfl) (v := k0) (by rw [qk0]; rfl) ?_
              have lk11 : ((u4).1 71 38).toInt = (t.1 71 38).toInt := congrArg Int32.toInt ((fu4 71 38 rfl).1)
              have lk12 : ((u4).1 71 38).toInt = (t.1 71 38).toInt := congrArg Int32.toInt ((fu4 71 38 rfl).1)
              exact r_zret C (n_bool (by omega)) (oDec_at oX12_firstLine 32 rfl) ⟨_, rfl, ⟨by omega, pu4_0, by omega, by omega, (oDg_fr fu4 rfl hq3)⟩⟩
            · skip
              refine r_iconst C (oDec_at oX12_firstLine 29 rfl) (v := k1) (by rw [qk1]; rfl) ?_
              refine r_goto C (tgt := 52) (oDec_at oX12_firstLine 30 rfl) (by decide) ?_
              have lk13 : ((u4).1 71 38).toInt = (t.1 71 38).toInt := congrArg Int32.toInt ((fu4 71 38 rfl).1)
              have lk14 : ((u4).1 71 38).toInt = (t.1 71 38).toInt := congrArg Int32.toInt ((fu4 71 38 rfl).1)
              exact r_zret C (n_bool (by omega)) (oDec_at oX12_firstLine 32 rfl) ⟨_, rfl, ⟨by omega, pu4_0, by omega, by omega, (oDg_fr fu4 rfl hq3)⟩⟩
        · skip
          refine r_aload_n C (j := 0) (oDec_at oX12_firstLine 8 rfl) rfl rfl ?_
          refine r_getF (k := 39) (b := 99) C oCl12 rfl (by decide) flX12_96 rfl rfl rfl (oDec_at oX12_firstLine 9 rfl) ?_
          refine r_iload_n C (j := 3) (oDec_at oX12_firstLine 10 rfl) rfl rfl ?_
          refine r_iload_n C (j := 3) (oDec_at oX12_firstLine 11 rfl) rfl rfl ?_
          refine r_iconst C (oDec_at oX12_firstLine 12 rfl) (v := k2) (by rw [qk2]; rfl) ?_
          obtain ⟨v15, ev15⟩ : ∃ z : Int32, z = x3 - x3 / k2 * k2 := ⟨_, rfl⟩
          have hv15 := n_rem (k := 2) ev15 ek2 (by decide)
          have rv15 := n_rng v15
          refine r_irem C v15 (oDec_at oX12_firstLine 13 rfl) (n_ne0 (by omega)) ev15 ?_
          refine r_pc C 20 rfl ?_
          refine r_iast (n := 48) (lo := (-2147483648)) (hi := 2147483647) C rfl (by decide) rfl rfl ⟨by omega, by omega⟩ (by decide) rfl rfl rfl rfl (n_rng _) (oDec_at oX12_firstLine 14 rfl) ?_
          refine r_aload_n C (j := 0) (oDec_at oX12_firstLine 15 rfl) rfl rfl ?_
          refine r_getF (k := 40) (b := 100) C oCl12 rfl (by decide) flX12_99 rfl rfl rfl (oDec_at oX12_firstLine 16 rfl) ?_
          refine r_iload_n C (j := 3) (oDec_at oX12_firstLine 17 rfl) rfl rfl ?_
          refine r_iconst C (oDec_at oX12_firstLine 18 rfl) (v := k2) (by rw [qk2]; rfl) ?_
          refine r_iast (n := 48) (lo := 0) (hi := 9999) C rfl (by decide) rfl rfl ⟨by omega, by omega⟩ (by decide) rfl rfl rfl rfl ⟨by omega, by omega⟩ (oDec_at oX12_firstLine 19 rfl) ?_
          refine r_pc C 28 rfl ?_
          obtain ⟨v16, ev16⟩ : ∃ z : Int32, x3 + Int32.ofInt 1 = z := ⟨_, rfl⟩
          have hv16 : v16.toInt = x3.toInt + 1 := n_inc ev16 (by decide) (by omega) (by omega)
          refine r_iinc C (j := 3) (lv' := [(0, .ref (oad E 71)), (1, .int a1), (2, .int a2), (3, .int v16)]) v16 [1, 2, 3, 0] (oDec_at oX12_firstLine 20 rfl) rfl ev16 (by decide) rfl ?_
          refine r_goto C (tgt := 7) (oDec_at oX12_firstLine 21 rfl) (by decide) ?_
          have lk17 : (((pI (pI t 99 x3.toNatClampNeg v15) 100 x3.toNatClampNeg k2)).1 71 38).toInt = (t.1 71 38).toInt := congrArg Int32.toInt (((pI_ne (a := 71) (b := 38) (c := 100) _ _ (Or.inl (by decide)))).trans ((pI_ne (a := 71) (b := 38) (c := 99) _ _ (Or.inl (by decide)))))
          exact (ih (n - 1) (by omega)) ((pI (pI t 99 x3.toNatClampNeg v15) 100 x3.toNatClampNeg k2)) v16  (by omega) (by omega) (by first | exact oT4_step (x := x3) (y := v16) (oT4_fr (oFr_oneI (q := 75) (m := 9999) rfl (by rfl)) rfl iv2) (by omega) (by omega) (by omega) | exact oT4_0 (by omega)) (by first | exact oD4_step (x := x3) (y := v16) iv3 (by omega) (by omega) (by omega) | exact oD4_0 (by omega)) (by omega)
  refine r_aload_n C (j := 0) (oDec_at oX12_firstLine 0 rfl) rfl rfl ?_
  refine r_iload_n C (j := 1) (oDec_at oX12_firstLine 1 rfl) rfl rfl ?_
  refine r_puti (k := 38) (lo := 0) (hi := 24) C oCl12 rfl (by decide) flX12_261 rfl rfl rfl rfl rfl rfl rfl rfl ⟨by omega, by omega⟩ (oDec_at oX12_firstLine 2 rfl) ?_
  refine r_iconst C (oDec_at oX12_firstLine 3 rfl) (v := k0) (by rw [qk0]; rfl) ?_
  refine r_istore_n C (lv' := [(0, .ref (oad E 71)), (1, .int a1), (2, .int a2), (3, .int k0)]) [1, 2, 3, 0] (oDec_at oX12_firstLine 4 rfl) rfl (by decide) rfl ?_
  have lk18 : (((pI s 71 38 a1)).1 71 38).toInt = a1.toInt := congrArg Int32.toInt ((pI_self _ _ _ _))
  exact (key (25 - k0.toInt).toNat) ((pI s 71 38 a1)) k0  (by omega) (by omega) (by first | exact oT4_0 (by omega)) (by first | exact oD4_0 (by omega)) (by omega)
set_option maxHeartbeats 4000000 in
set_option maxRecDepth 100000 in
theorem ct_X12_makes (l : Launch) (E : oE) (s : oS) (a1 : Int32) (a2 : Int32) (a3 : Int32)  (hp0 : oBI s) (hp1 : 0 ≤ a1.toInt ∧ a1.toInt ≤ 4499) (hp2 : 1 ≤ a2.toInt ∧ a2.toInt ≤ 6) (hp3 : 0 ≤ a3.toInt ∧ a3.toInt ≤ 4) : oMet l 7 yX12_makes cX12_makes 5 (some .boolean) [(12, 38), (12, 42), (12, 43), (12, 58), (12, 60), (12, 61), (12, 62), (12, 63), (12, 65), (12, 69), (75, 9999), (76, 9999), (77, 9999), (84, 9999), (85, 9999)] E s [.ref (oad E 71), .int a1, .int a2, .int a3] (oPi (fun r u => (0 ≤ r.toInt ∧ r.toInt ≤ 1) ∧ (oLT u) ∧ (1 ≤ (u.1 71 38).toInt → 1 ≤ (u.1 71 42).toInt))) := by
  refine oMet.of (lv := [(0, .ref (oad E 71)), (1, .int a1), (2, .int a2), (3, .int a3)]) (by decide +kernel) (Nat.le_of_ble_eq_true rfl) rfl (fun J C hT => ?_)
  have C : oC l 7 cX12_makes RX12 5 (some .boolean) [(12, 38), (12, 42), (12, 43), (12, 58), (12, 60), (12, 61), (12, 62), (12, 63), (12, 65), (12, 69), (75, 9999), (76, 9999), (77, 9999), (84, 9999), (85, 9999)] E s (oPi (fun r u => (0 ≤ r.toInt ∧ r.toInt ≤ 1) ∧ (oLT u) ∧ (1 ≤ (u.1 71 38).toInt → 1 ≤ (u.1 71 42).toInt))) J := C
  obtain ⟨km1, qkm1⟩ : ∃ z : Int32, z = (-1) := ⟨_, rfl⟩
  have ekm1 : km1.toInt = (-1) := by rw [qkm1]; rfl
  obtain ⟨k0, qk0⟩ : ∃ z : Int32, z = 0 := ⟨_, rfl⟩
  have ek0 : k0.toInt = 0 := by rw [qk0]; rfl
  obtain ⟨k1, qk1⟩ : ∃ z : Int32, z = 1 := ⟨_, rfl⟩
  have ek1 : k1.toInt = 1 := by rw [qk1]; rfl
  obtain ⟨k84, qk84⟩ : ∃ z : Int32, z = 84 := ⟨_, rfl⟩
  have ek84 : k84.toInt = 84 := by rw [qk84]; rfl
  have rg1 := n_rng a1
  have rg2 := n_rng a2
  have rg3 := n_rng a3
  have key : ∀ n : Nat, (∀ (t : oS) (x4 : Int32), (oBI t) → (oLT t) → (1 ≤ (t.1 71 38).toInt → 1 ≤ (t.1 71 42).toInt) → (x4.toInt = 1 → oDg t) → (0 ≤ (t.1 71 38).toInt ∧ (t.1 71 38).toInt ≤ 6) → (0 ≤ x4.toInt ∧ x4.toInt ≤ 1) → (0 ≤ a1.toInt ∧ a1.toInt ≤ 4499) → (0 ≤ a3.toInt ∧ a3.toInt ≤ 4) → oMM x4 t ≤ (n : Int) → J t 8 [(0, .ref (oad E 71)), (1, .int a1), (3, .int a3), (4, .int x4)] []) := by
    intro n
    induction n using Nat.strongRecOn with
    | _ n ih =>
      skip
      · intro t x4  iv0 iv1 iv2 iv3 iv4 iv5 iv6 iv7 hmu
        have rx4 := n_rng x4
        refine r_iload C (j := 3) (oDec_at oX12_makes 5 rfl) rfl ?_
        refine r_if_eq C 36 (oDec_at oX12_makes 6 rfl) (by decide) (fun cd1 => ?_) (fun cd1 => ?_)
        · skip
          refine r_iconst C (oDec_at oX12_makes 20 rfl) (v := k0) (by rw [qk0]; rfl) ?_
          exact r_zret C (n_bool (by omega)) (oDec_at oX12_makes 21 rfl) ⟨_, rfl, ⟨by omega, iv1, by omega⟩⟩
        · skip
          have hq2 : oVe (oVl (t.1 99) (t.1 71 38).toNatClampNeg) (t) := (show oVl _ _ = _ from rfl)
          have hq3 : oDg (t) := iv3 (by omega)
          refine r_aload_n C (j := 0) (oDec_at oX12_makes 7 rfl) rfl rfl ?_
          refine r_bipush C (oDec_at oX12_makes 8 rfl) (v := k84) (by rw [qk84]; rfl) ?_
          refine r_iload_n C (j := 1) (oDec_at oX12_makes 9 rfl) rfl rfl ?_
          refine r_callVi C oCl12 rfl miX12_breachOf mlX12_473 (ct_X12_breachOf l E (t) k84 a1 (by omega) (by omega) iv0) (by decide) rfl rfl rfl (Nat.le_of_ble_eq_true rfl) (oDec_at oX12_makes 10 rfl) (fun r5 u4 pu4 fu4 => ?_)
          try dsimp only at pu4
          have rr5 := n_rng r5
          refine r_iconst C (oDec_at oX12_makes 11 rfl) (v := km1) (by rw [qkm1]; rfl) ?_
          refine r_icmp_ne C 26 (oDec_at oX12_makes 12 rfl) (by decide) (fun cd6 => ?_) (fun cd6 => ?_)
          · skip
            refine r_aload_n C (j := 0) (oDec_at oX12_makes 15 rfl) rfl rfl ?_
            refine r_iload_n C (j := 2) (oDec_at oX12_makes 16 rfl) rfl rfl ?_
            have lk7 : ((u4).1 71 38).toInt = (t.1 71 38).toInt := congrArg Int32.toInt ((fu4 71 38 rfl).1)
            have lk8 : ((u4).1 71 42).toInt = (t.1 71 42).toInt := congrArg Int32.toInt ((fu4 71 42 rfl).1)
            have lk9 : ((u4).1 71 38).toInt = (t.1 71 38).toInt := congrArg Int32.toInt ((fu4 71 38 rfl).1)
            refine r_callVi C oCl12 rfl miX12_nextLine mlX12_551 (ct_X12_nextLine l E (u4) a3 (oVl (t.1 99) (t.1 71 38).toNatClampNeg) (by omega) (oLT_fr fu4 rfl iv1) (by omega) (oDg_fr fu4 rfl hq3) (oVe_fr fu4 rfl hq2)) (by decide) rfl rfl rfl (Nat.le_of_ble_eq_true rfl) (oDec_at oX12_makes 17 rfl) (fun r11 u10 pu10 fu10 => ?_)
            try dsimp only at pu10
            try simp only [lk7, lk8, lk9] at pu10
            obtain ⟨pu10_0, pu10_1, pu10_2, pu10_3, pu10_4⟩ := pu10
            have lu12 : ((u10).1 71 38).toInt = (t.1 71 38).toInt := congrArg Int32.toInt (((fu10 71 38 rfl).1).trans ((fu4 71 38 rfl).1))
            have lu13 : ((u10).1 71 38).toInt = (t.1 71 38).toInt := congrArg Int32.toInt (((fu10 71 38 rfl).1).trans ((fu4 71 38 rfl).1))
            have rr11 := n_rng r11
            refine r_istore C (lv' := [(0, .ref (oad E 71)), (1, .int a1), (3, .int a3), (4, .int r11)]) [1, 2, 3, 0] (oDec_at oX12_makes 18 rfl) (by decide) rfl ?_
            refine r_goto C (tgt := 8) (oDec_at oX12_makes 19 rfl) (by decide) ?_
            have lk14 : ((u10).1 71 38).toInt = (t.1 71 38).toInt := congrArg Int32.toInt (((fu10 71 38 rfl).1).trans ((fu4 71 38 rfl).1))
            have lk15 : ((u10).1 71 38).toInt = (t.1 71 38).toInt := congrArg Int32.toInt (((fu10 71 38 rfl).1).trans ((fu4 71 38 rfl).1))
            have hjl := oMM_lt (x := x4) (y := r11) (s := t) (t := u10) (by omega) (iv3 (by omega)) (by omega) (by omega) pu10_4
            have hjn := oMM_f (x := r11) (s := u10) (by omega) (by omega) (fun h => (pu10_4 h).1)
            exact (ih (n - 1) (by omega)) (u10) r11  (oBI_fr fu10 rfl (oBI_fr fu4 rfl iv0)) pu10_1 (by omega) (by first | exact fun _ => (by assumption) | exact fun h => (pu10_4 h).1) (by omega) (by omega) (by omega) (by omega) (by omega)
          · skip
            refine r_iconst C (oDec_at oX12_makes 13 rfl) (v := k1) (by rw [qk1]; rfl) ?_
            have lk16 : ((u4).1 71 38).toInt = (t.1 71 38).toInt := congrArg Int32.toInt ((fu4 71 38 rfl).1)
            have lk17 : ((u4).1 71 42).toInt = (t.1 71 42).toInt := congrArg Int32.toInt ((fu4 71 42 rfl).1)
            exact r_zret C (n_bool (by omega)) (oDec_at oX12_makes 14 rfl) ⟨_, rfl, ⟨by omega, (oLT_fr fu4 rfl iv1), by omega⟩⟩
  refine r_aload_n C (j := 0) (oDec_at oX12_makes 0 rfl) rfl rfl ?_
  refine r_iload_n C (j := 2) (oDec_at oX12_makes 1 rfl) rfl rfl ?_
  refine r_iload_n C (j := 3) (oDec_at oX12_makes 2 rfl) rfl rfl ?_
  refine r_callVi C oCl12 rfl miX12_firstLine mlX12_548 (ct2_X12_firstLine l E (s) a2 a3 (by omega)) (by decide) rfl rfl rfl (Nat.le_of_ble_eq_true rfl) (oDec_at oX12_makes 3 rfl) (fun r19 u18 pu18 fu18 => ?_)
  try dsimp only at pu18
  obtain ⟨pu18_0, pu18_1, pu18_2, pu18_3, pu18_4⟩ := pu18
  have rr19 := n_rng r19
  refine r_istore C (lv' := [(0, .ref (oad E 71)), (1, .int a1), (2, .int a2), (3, .int a3), (4, .int r19)]) [1, 2, 3, 4, 0] (oDec_at oX12_makes 4 rfl) (by decide) rfl ?_
  refine r_pick C [0, 1, 3, 4] rfl ?_
  exact (key (oMM r19 (u18)).toNat) (u18) r19  (oBI_fr fu18 rfl hp0) pu18_1 (by omega) (by first | exact fun _ => pu18_4 | exact fun h => (pu18_4 h).1) (by omega) (by omega) (by omega) (by omega) (by omega)
set_option maxHeartbeats 4000000 in
set_option maxRecDepth 100000 in
theorem ct_X12_shortest (l : Launch) (E : oE) (s : oS) (a1 : Int32) (a2 : Int32)  (hp0 : oBI s) (hp1 : oLT s) (hp2 : 1 ≤ (s.1 71 38).toInt → 1 ≤ (s.1 71 42).toInt) : oMet l 8 yX12_shortest cX12_shortest 5 (some .int) [(12, 38), (12, 42), (12, 43), (12, 58), (12, 60), (12, 61), (12, 62), (12, 63), (12, 65), (12, 69), (12, 77), (75, 9999), (76, 9999), (77, 9999), (84, 9999), (85, 9999), (90, 9999), (91, 9999)] E s [.ref (oad E 71), .int a1, .int a2] (oPi (fun r u => (oLT u) ∧ (1 ≤ (u.1 71 38).toInt → 1 ≤ (u.1 71 42).toInt))) := by
  refine oMet.of (lv := [(0, .ref (oad E 71)), (1, .int a1), (2, .int a2)]) (by decide +kernel) (Nat.le_of_ble_eq_true rfl) rfl (fun J C hT => ?_)
  have C : oC l 8 cX12_shortest RX12 5 (some .int) [(12, 38), (12, 42), (12, 43), (12, 58), (12, 60), (12, 61), (12, 62), (12, 63), (12, 65), (12, 69), (12, 77), (75, 9999), (76, 9999), (77, 9999), (84, 9999), (85, 9999), (90, 9999), (91, 9999)] E s (oPi (fun r u => (oLT u) ∧ (1 ≤ (u.1 71 38).toInt → 1 ≤ (u.1 71 42).toInt))) J := C
  obtain ⟨km1, qkm1⟩ : ∃ z : Int32, z = (-1) := ⟨_, rfl⟩
  have ekm1 : km1.toInt = (-1) := by rw [qkm1]; rfl
  obtain ⟨k2, qk2⟩ : ∃ z : Int32, z = 2 := ⟨_, rfl⟩
  have ek2 : k2.toInt = 2 := by rw [qk2]; rfl
  obtain ⟨k7, qk7⟩ : ∃ z : Int32, z = 7 := ⟨_, rfl⟩
  have ek7 : k7.toInt = 7 := by rw [qk7]; rfl
  obtain ⟨j0, qj0⟩ : ∃ z : Int64, z = 0 := ⟨_, rfl⟩
  have ej0 : j0.toInt = 0 := by rw [qj0]; rfl
  obtain ⟨j4, qj4⟩ : ∃ z : Int64, z = 4 := ⟨_, rfl⟩
  have ej4 : j4.toInt = 4 := by rw [qj4]; rfl
  have rg1 := n_rng a1
  have rg2 := n_rng a2
  have key : ∀ n : Nat, (∀ (t : oS) (x3 : Int32) (x4 : Int32), (oBI t) → (oLT t) → (1 ≤ (t.1 71 38).toInt → 1 ≤ (t.1 71 42).toInt) → (oAT t) → (0 ≤ a1.toInt ∧ a1.toInt ≤ 4499) → (0 ≤ a2.toInt ∧ a2.toInt ≤ 4) → (2 ≤ x4.toInt ∧ x4.toInt ≤ 7) → 8 - x4.toInt ≤ (n : Int) → J t 30 [(0, .ref (oad E 71)), (1, .int a1), (2, .int a2), (3, .int x3), (4, .int x4)] []) := by
    intro n
    induction n using Nat.strongRecOn with
    | _ n ih =>
      skip
      · intro t x3 x4  iv0 iv1 iv2 iv3 iv4 iv5 iv6 hmu
        have rx3 := n_rng x3
        have rx4 := n_rng x4
        refine r_iload C (j := 4) (oDec_at oX12_shortest 17 rfl) rfl ?_
        refine r_bipush C (oDec_at oX12_shortest 18 rfl) (v := k7) (by rw [qk7]; rfl) ?_
        refine r_icmp_ge C 62 (oDec_at oX12_shortest 19 rfl) (by decide) (fun cd1 => ?_) (fun cd1 => ?_)
        · skip
          refine r_aload_n C (j := 0) (oDec_at oX12_shortest 33 rfl) rfl rfl ?_
          refine r_callVv C oCl12 rfl miX12_takesBack mlX12_565 (ct_X12_takesBack l E (t)  iv3) (by decide) rfl rfl rfl (Nat.le_of_ble_eq_true rfl) (oDec_at oX12_shortest 34 rfl) (fun u2 pu2 fu2 => ?_)
          try dsimp only at pu2
          obtain ⟨pu2_0, pu2_1, pu2_2⟩ := pu2
          refine r_iload_n C (j := 3) (oDec_at oX12_shortest 35 rfl) rfl rfl ?_
          exact r_iret C (oDec_at oX12_shortest 36 rfl) ⟨_, rfl, ⟨pu2_0, by omega⟩⟩
        · skip
          refine r_iload_n C (j := 3) (oDec_at oX12_shortest 20 rfl) rfl rfl ?_
          refine r_iconst C (oDec_at oX12_shortest 21 rfl) (v := km1) (by rw [qkm1]; rfl) ?_
          refine r_icmp_ne C 62 (oDec_at oX12_shortest 22 rfl) (by decide) (fun cd4 => ?_) (fun cd4 => ?_)
          · skip
            refine r_aload_n C (j := 0) (oDec_at oX12_shortest 33 rfl) rfl rfl ?_
            refine r_callVv C oCl12 rfl miX12_takesBack mlX12_565 (ct_X12_takesBack l E (t)  iv3) (by decide) rfl rfl rfl (Nat.le_of_ble_eq_true rfl) (oDec_at oX12_shortest 34 rfl) (fun u5 pu5 fu5 => ?_)
            try dsimp only at pu5
            obtain ⟨pu5_0, pu5_1, pu5_2⟩ := pu5
            refine r_iload_n C (j := 3) (oDec_at oX12_shortest 35 rfl) rfl rfl ?_
            exact r_iret C (oDec_at oX12_shortest 36 rfl) ⟨_, rfl, ⟨pu5_0, by omega⟩⟩
          · skip
            refine r_aload_n C (j := 0) (oDec_at oX12_shortest 23 rfl) rfl rfl ?_
            refine r_iload_n C (j := 1) (oDec_at oX12_shortest 24 rfl) rfl rfl ?_
            refine r_iload C (j := 4) (oDec_at oX12_shortest 25 rfl) rfl ?_
            refine r_iload_n C (j := 2) (oDec_at oX12_shortest 26 rfl) rfl rfl ?_
            refine r_callVi C oCl12 rfl miX12_makes mlX12_562 (ct_X12_makes l E (t) a1 x4 a2 iv0 (by omega) (by omega) (by omega)) (by decide) rfl rfl rfl (Nat.le_of_ble_eq_true rfl) (oDec_at oX12_shortest 27 rfl) (fun r8 u7 pu7 fu7 => ?_)
            try dsimp only at pu7
            obtain ⟨pu7_0, pu7_1, pu7_2⟩ := pu7
            have rr8 := n_rng r8
            refine r_if_eq C 56 (oDec_at oX12_shortest 28 rfl) (by decide) (fun cd9 => ?_) (fun cd9 => ?_)
            · skip
              obtain ⟨v10, ev10⟩ : ∃ z : Int32, x4 + Int32.ofInt 1 = z := ⟨_, rfl⟩
              have hv10 : v10.toInt = x4.toInt + 1 := n_inc ev10 (by decide) (by omega) (by omega)
              refine r_iinc C (j := 4) (lv' := [(0, .ref (oad E 71)), (1, .int a1), (2, .int a2), (3, .int x3), (4, .int v10)]) v10 [1, 2, 3, 4, 0] (oDec_at oX12_shortest 31 rfl) rfl ev10 (by decide) rfl ?_
              refine r_goto C (tgt := 30) (oDec_at oX12_shortest 32 rfl) (by decide) ?_
              exact (ih (n - 1) (by omega)) (u7) x3 v10  (oBI_fr fu7 rfl iv0) pu7_1 (by omega) (oAT_fr fu7 rfl iv3) (by omega) (by omega) (by omega) (by omega)
            · skip
              refine r_iload C (j := 4) (oDec_at oX12_shortest 29 rfl) rfl ?_
              refine r_istore_n C (lv' := [(0, .ref (oad E 71)), (1, .int a1), (2, .int a2), (3, .int x4), (4, .int x4)]) [1, 2, 3, 0, 4] (oDec_at oX12_shortest 30 rfl) rfl (by decide) rfl ?_
              obtain ⟨v11, ev11⟩ : ∃ z : Int32, x4 + Int32.ofInt 1 = z := ⟨_, rfl⟩
              have hv11 : v11.toInt = x4.toInt + 1 := n_inc ev11 (by decide) (by omega) (by omega)
              refine r_iinc C (j := 4) (lv' := [(0, .ref (oad E 71)), (1, .int a1), (2, .int a2), (3, .int x4), (4, .int v11)]) v11 [1, 2, 3, 4, 0] (oDec_at oX12_shortest 31 rfl) rfl ev11 (by decide) rfl ?_
              refine r_goto C (tgt := 30) (oDec_at oX12_shortest 32 rfl) (by decide) ?_
              exact (ih (n - 1) (by omega)) (u7) x4 v11  (oBI_fr fu7 rfl iv0) pu7_1 (by omega) (oAT_fr fu7 rfl iv3) (by omega) (by omega) (by omega) (by omega)
  refine r_iload_n C (j := 1) (oDec_at oX12_shortest 0 rfl) rfl rfl ?_
  refine r_callSi C miX12_isFollower mlX12_554 (ct_X12_isFollower l E (s) a1 ) (by decide) rfl rfl rfl (Nat.le_of_ble_eq_true rfl) (oDec_at oX12_shortest 1 rfl) (fun r13 u12 pu12 fu12 => ?_)
  try dsimp only at pu12
  obtain ⟨pu12_0, pu12_1⟩ := pu12
  have hxu12 := oFr_nil fu12; subst hxu12
  have rr13 := n_rng r13
  refine r_if_eq C 19 (oDec_at oX12_shortest 2 rfl) (by decide) (fun cd14 => ?_) (fun cd14 => ?_)
  · skip
    clear pu12_1
    refine r_iconst C (oDec_at oX12_shortest 9 rfl) (v := km1) (by rw [qkm1]; rfl) ?_
    exact r_iret C (oDec_at oX12_shortest 10 rfl) ⟨_, rfl, ⟨hp1, by omega⟩⟩
  · skip
    replace pu12_1 := pu12_1 (by omega)
    refine r_iload_n C (j := 2) (oDec_at oX12_shortest 3 rfl) rfl rfl ?_
    obtain ⟨v15, ev15⟩ : ∃ z : Int64, a2.toInt64 = z := ⟨_, rfl⟩
    have hv15 : v15.toInt = a2.toInt := n_i2l ev15
    refine r_i2l C v15 (oDec_at oX12_shortest 4 rfl) ev15 ?_
    refine r_lconst C (oDec_at oX12_shortest 5 rfl) (v := j0) (by rw [qj0]; rfl) ?_
    refine r_ldc2 C (v := j4) (by rw [qj4]; exact klX12_493) (oDec_at oX12_shortest 6 rfl) ?_
    refine r_callSi C miX12_isIn mlX12_216 (ct_X12_isIn l E (s) v15 j0 j4 ) (by decide) rfl rfl rfl (Nat.le_of_ble_eq_true rfl) (oDec_at oX12_shortest 7 rfl) (fun r17 u16 pu16 fu16 => ?_)
    try dsimp only at pu16
    obtain ⟨pu16_0, pu16_1⟩ := pu16
    have hxu16 := oFr_nil fu16; subst hxu16
    have rr17 := n_rng r17
    refine r_if_ne C 21 (oDec_at oX12_shortest 8 rfl) (by decide) (fun cd18 => ?_) (fun cd18 => ?_)
    · skip
      refine r_aload_n C (j := 0) (oDec_at oX12_shortest 11 rfl) rfl rfl ?_
      refine r_callVv C oCl12 rfl miX12_putsAside mlX12_559 (ct_X12_putsAside l E (s)  hp1) (by decide) rfl rfl rfl (Nat.le_of_ble_eq_true rfl) (oDec_at oX12_shortest 12 rfl) (fun u19 pu19 fu19 => ?_)
      try dsimp only at pu19
      obtain ⟨pu19_0, pu19_1, pu19_2⟩ := pu19
      have lu21 : ((u19).1 71 38).toInt = (s.1 71 38).toInt := congrArg Int32.toInt ((fu19 71 38 rfl).1)
      refine r_iconst C (oDec_at oX12_shortest 13 rfl) (v := km1) (by rw [qkm1]; rfl) ?_
      refine r_istore_n C (lv' := [(0, .ref (oad E 71)), (1, .int a1), (2, .int a2), (3, .int km1)]) [1, 2, 3, 0] (oDec_at oX12_shortest 14 rfl) rfl (by decide) rfl ?_
      refine r_iconst C (oDec_at oX12_shortest 15 rfl) (v := k2) (by rw [qk2]; rfl) ?_
      refine r_istore C (lv' := [(0, .ref (oad E 71)), (1, .int a1), (2, .int a2), (3, .int km1), (4, .int k2)]) [1, 2, 3, 4, 0] (oDec_at oX12_shortest 16 rfl) (by decide) rfl ?_
      have lk22 : ((u19).1 71 38).toInt = (s.1 71 38).toInt := congrArg Int32.toInt ((fu19 71 38 rfl).1)
      have lk23 : ((u19).1 71 42).toInt = (s.1 71 42).toInt := congrArg Int32.toInt ((fu19 71 42 rfl).1)
      exact (key (8 - k2.toInt).toNat) (u19) km1 k2  (oBI_fr fu19 rfl hp0) pu19_0 (by omega) pu19_1 (by omega) (by omega) (by omega) (by omega)
    · skip
      refine r_iconst C (oDec_at oX12_shortest 9 rfl) (v := km1) (by rw [qkm1]; rfl) ?_
      exact r_iret C (oDec_at oX12_shortest 10 rfl) ⟨_, rfl, ⟨hp1, by omega⟩⟩
set_option maxHeartbeats 4000000 in
set_option maxRecDepth 100000 in
theorem ct_X12_wrong (l : Launch) (E : oE) (s : oS) (a1 : Int32) (a2 : Int32)  (hp0 : oBI s) (hp1 : oLT s) (hp2 : 1 ≤ (s.1 71 38).toInt → 1 ≤ (s.1 71 42).toInt) : oMet l 7 yX12_wrong cX12_wrong 7 (some .int) [(12, 38), (12, 42), (12, 43), (12, 58), (12, 60), (12, 61), (12, 62), (12, 63), (12, 65), (12, 69), (12, 77), (75, 9999), (76, 9999), (77, 9999), (84, 9999), (85, 9999), (90, 9999), (91, 9999)] E s [.ref (oad E 71), .int a1, .int a2] (oPi (fun r u => (oLT u) ∧ (1 ≤ (u.1 71 38).toInt → 1 ≤ (u.1 71 42).toInt))) := by
  refine oMet.of (lv := [(0, .ref (oad E 71)), (1, .int a1), (2, .int a2)]) (by decide +kernel) (Nat.le_of_ble_eq_true rfl) rfl (fun J C hT => ?_)
  have C : oC l 7 cX12_wrong RX12 7 (some .int) [(12, 38), (12, 42), (12, 43), (12, 58), (12, 60), (12, 61), (12, 62), (12, 63), (12, 65), (12, 69), (12, 77), (75, 9999), (76, 9999), (77, 9999), (84, 9999), (85, 9999), (90, 9999), (91, 9999)] E s (oPi (fun r u => (oLT u) ∧ (1 ≤ (u.1 71 38).toInt → 1 ≤ (u.1 71 42).toInt))) J := C
  obtain ⟨km1, qkm1⟩ : ∃ z : Int32, z = (-1) := ⟨_, rfl⟩
  have ekm1 : km1.toInt = (-1) := by rw [qkm1]; rfl
  obtain ⟨k0, qk0⟩ : ∃ z : Int32, z = 0 := ⟨_, rfl⟩
  have ek0 : k0.toInt = 0 := by rw [qk0]; rfl
  obtain ⟨k28, qk28⟩ : ∃ z : Int32, z = 28 := ⟨_, rfl⟩
  have ek28 : k28.toInt = 28 := by rw [qk28]; rfl
  obtain ⟨k84, qk84⟩ : ∃ z : Int32, z = 84 := ⟨_, rfl⟩
  have ek84 : k84.toInt = 84 := by rw [qk84]; rfl
  obtain ⟨k100, qk100⟩ : ∃ z : Int32, z = 100 := ⟨_, rfl⟩
  have ek100 : k100.toInt = 100 := by rw [qk100]; rfl
  have rg1 := n_rng a1
  have rg2 := n_rng a2
  have key : ∀ n : Nat, (∀ (t : oS) (x3 : Int32) (x4 : Int32) (x5 : Int32), (oBI t) → (oLT t) → (1 ≤ (t.1 71 38).toInt → 1 ≤ (t.1 71 42).toInt) → (oAT t) → (0 ≤ a1.toInt ∧ a1.toInt ≤ 4499) → (0 ≤ x5.toInt ∧ x5.toInt ≤ 24) → (0 ≤ x3.toInt ∧ x3.toInt ≤ 30 * x5.toInt) → (-1 ≤ x4.toInt) → 100 * (25 - x5.toInt) ≤ (n : Int) → J t 45 [(0, .ref (oad E 71)), (1, .int a1), (2, .int a2), (3, .int x3), (4, .int x4), (5, .int x5)] []) ∧ (∀ (t : oS) (x3 : Int32) (x4 : Int32) (x5 : Int32) (x6 : Int32), (oBI t) → (oLT t) → (1 ≤ (t.1 71 38).toInt → 1 ≤ (t.1 71 42).toInt) → (oAT t) → (0 ≤ a1.toInt ∧ a1.toInt ≤ 4499) → (0 ≤ x5.toInt ∧ x5.toInt ≤ 23) → (0 ≤ x6.toInt ∧ x6.toInt ≤ 29) → (0 ≤ x3.toInt ∧ x3.toInt ≤ 30 * x5.toInt + x6.toInt) → (-1 ≤ x4.toInt) → 100 * (25 - x5.toInt) - 10 - x6.toInt ≤ (n : Int) → J t 77 [(0, .ref (oad E 71)), (1, .int a1), (2, .int a2), (3, .int x3), (4, .int x4), (5, .int x5), (6, .int x6)] []) := by
    intro n
    induction n using Nat.strongRecOn with
    | _ n ih =>
      refine ⟨?_, ?_⟩
      · intro t x3 x4 x5  iv0 iv1 iv2 iv3 iv4 iv5 iv6 iv7 hmu
        have rx3 := n_rng x3
        have rx4 := n_rng x4
        have rx5 := n_rng x5
        refine r_iload C (j := 5) (oDec_at oX12_wrong 26 rfl) rfl ?_
        refine r_aload_n C (j := 0) (oDec_at oX12_wrong 27 rfl) rfl rfl ?_
        obtain ⟨v1, ev1⟩ : ∃ z : Int32, (t).1 71 77 = z := ⟨_, rfl⟩
        have gv1 : (t.1 71 77).toInt = v1.toInt := congrArg Int32.toInt (ev1)
        refine r_geti (k := 77) (lo := 0) (hi := 24) C v1 oCl12 rfl (by decide) flX12_545 rfl rfl (ev1) rfl rfl (oDec_at oX12_wrong 28 rfl) (fun b2 b2h => ?_)
        refine r_icmp_ge C 176 (oDec_at oX12_wrong 29 rfl) (by decide) (fun cd3 => ?_) (fun cd3 => ?_)
        · skip
          refine r_aload_n C (j := 0) (oDec_at oX12_wrong 91 rfl) rfl rfl ?_
          refine r_callVv C oCl12 rfl miX12_takesBack mlX12_565 (ct_X12_takesBack l E (t)  iv3) (by decide) rfl rfl rfl (Nat.le_of_ble_eq_true rfl) (oDec_at oX12_wrong 92 rfl) (fun u4 pu4 fu4 => ?_)
          try dsimp only at pu4
          obtain ⟨pu4_0, pu4_1, pu4_2⟩ := pu4
          refine r_iload_n C (j := 2) (oDec_at oX12_wrong 93 rfl) rfl rfl ?_
          refine r_iconst C (oDec_at oX12_wrong 94 rfl) (v := km1) (by rw [qkm1]; rfl) ?_
          refine r_icmp_ne C 189 (oDec_at oX12_wrong 95 rfl) (by decide) (fun cd6 => ?_) (fun cd6 => ?_)
          · skip
            refine r_iload C (j := 4) (oDec_at oX12_wrong 98 rfl) rfl ?_
            exact r_iret C (oDec_at oX12_wrong 99 rfl) ⟨_, rfl, ⟨pu4_0, by omega⟩⟩
          · skip
            refine r_iload_n C (j := 3) (oDec_at oX12_wrong 96 rfl) rfl rfl ?_
            refine r_goto C (tgt := 191) (oDec_at oX12_wrong 97 rfl) (by decide) ?_
            exact r_iret C (oDec_at oX12_wrong 99 rfl) ⟨_, rfl, ⟨pu4_0, by omega⟩⟩
        · skip
          refine r_iload C (j := 4) (oDec_at oX12_wrong 30 rfl) rfl ?_
          refine r_iconst C (oDec_at oX12_wrong 31 rfl) (v := km1) (by rw [qkm1]; rfl) ?_
          refine r_icmp_ne C 176 (oDec_at oX12_wrong 32 rfl) (by decide) (fun cd7 => ?_) (fun cd7 => ?_)
          · skip
            refine r_aload_n C (j := 0) (oDec_at oX12_wrong 91 rfl) rfl rfl ?_
            refine r_callVv C oCl12 rfl miX12_takesBack mlX12_565 (ct_X12_takesBack l E (t)  iv3) (by decide) rfl rfl rfl (Nat.le_of_ble_eq_true rfl) (oDec_at oX12_wrong 92 rfl) (fun u8 pu8 fu8 => ?_)
            try dsimp only at pu8
            obtain ⟨pu8_0, pu8_1, pu8_2⟩ := pu8
            refine r_iload_n C (j := 2) (oDec_at oX12_wrong 93 rfl) rfl rfl ?_
            refine r_iconst C (oDec_at oX12_wrong 94 rfl) (v := km1) (by rw [qkm1]; rfl) ?_
            refine r_icmp_ne C 189 (oDec_at oX12_wrong 95 rfl) (by decide) (fun cd10 => ?_) (fun cd10 => ?_)
            · skip
              refine r_iload C (j := 4) (oDec_at oX12_wrong 98 rfl) rfl ?_
              exact r_iret C (oDec_at oX12_wrong 99 rfl) ⟨_, rfl, ⟨pu8_0, by omega⟩⟩
            · skip
              refine r_iload_n C (j := 3) (oDec_at oX12_wrong 96 rfl) rfl rfl ?_
              refine r_goto C (tgt := 191) (oDec_at oX12_wrong 97 rfl) (by decide) ?_
              exact r_iret C (oDec_at oX12_wrong 99 rfl) ⟨_, rfl, ⟨pu8_0, by omega⟩⟩
          · skip
            refine r_aload_n C (j := 0) (oDec_at oX12_wrong 33 rfl) rfl rfl ?_
            refine r_getF (k := 75) (b := 114) C oCl12 rfl (by decide) flX12_158 rfl rfl rfl (oDec_at oX12_wrong 34 rfl) ?_
            refine r_iload C (j := 5) (oDec_at oX12_wrong 35 rfl) rfl ?_
            obtain ⟨v12, ev12⟩ : ∃ z : Int32, (t).1 114 x5.toNatClampNeg = z := ⟨_, rfl⟩
            have gv12 : (t.1 114 x5.toNatClampNeg).toInt = v12.toInt := congrArg Int32.toInt (ev12)
            have rv12 := n_rng v12
            refine r_iald (n := 24) (lo := (-2147483648)) (hi := 2147483647) C v12 rfl (by decide) rfl rfl ⟨by omega, by omega⟩ (by decide) ev12 rfl rfl (oDec_at oX12_wrong 36 rfl) (fun _ _ => ?_)
            refine r_iconst C (oDec_at oX12_wrong 37 rfl) (v := km1) (by rw [qkm1]; rfl) ?_
            refine r_icmp_ne C 74 (oDec_at oX12_wrong 38 rfl) (by decide) (fun cd13 => ?_) (fun cd13 => ?_)
            · skip
              refine r_iconst C (oDec_at oX12_wrong 40 rfl) (v := k0) (by rw [qk0]; rfl) ?_
              refine r_istore C (lv' := [(0, .ref (oad E 71)), (1, .int a1), (2, .int a2), (3, .int x3), (4, .int x4), (5, .int x5), (6, .int k0)]) [1, 2, 3, 4, 5, 6, 0] (oDec_at oX12_wrong 41 rfl) (by decide) rfl ?_
              exact (ih (n - 1) (by omega)).2 (t) x3 x4 x5 k0  iv0 iv1 (by omega) iv3 (by omega) (by omega) (by omega) (by omega) (by omega) (by omega)
            · skip
              refine r_goto C (tgt := 170) (oDec_at oX12_wrong 39 rfl) (by decide) ?_
              obtain ⟨v14, ev14⟩ : ∃ z : Int32, x5 + Int32.ofInt 1 = z := ⟨_, rfl⟩
              have hv14 : v14.toInt = x5.toInt + 1 := n_inc ev14 (by decide) (by omega) (by omega)
              refine r_iinc C (j := 5) (lv' := [(0, .ref (oad E 71)), (1, .int a1), (2, .int a2), (3, .int x3), (4, .int x4), (5, .int v14)]) v14 [1, 2, 3, 4, 5, 0] (oDec_at oX12_wrong 89 rfl) rfl ev14 (by decide) rfl ?_
              refine r_goto C (tgt := 45) (oDec_at oX12_wrong 90 rfl) (by decide) ?_
              exact (ih (n - 1) (by omega)).1 (t) x3 x4 v14  iv0 iv1 (by omega) iv3 (by omega) (by omega) (by omega) (by omega) (by omega)
      · intro t x3 x4 x5 x6  iv0 iv1 iv2 iv3 iv4 iv5 iv6 iv7 iv8 hmu
        have rx3 := n_rng x3
        have rx4 := n_rng x4
        have rx5 := n_rng x5
        have rx6 := n_rng x6
        refine r_iload C (j := 6) (oDec_at oX12_wrong 42 rfl) rfl ?_
        refine r_bipush C (oDec_at oX12_wrong 43 rfl) (v := k28) (by rw [qk28]; rfl) ?_
        refine r_icmp_gt C 156 (oDec_at oX12_wrong 44 rfl) (by decide) (fun cd15 => ?_) (fun cd15 => ?_)
        · skip
          refine r_aload_n C (j := 0) (oDec_at oX12_wrong 81 rfl) rfl rfl ?_
          refine r_getF (k := 39) (b := 99) C oCl12 rfl (by decide) flX12_96 rfl rfl rfl (oDec_at oX12_wrong 82 rfl) ?_
          refine r_iload C (j := 5) (oDec_at oX12_wrong 83 rfl) rfl ?_
          refine r_aload_n C (j := 0) (oDec_at oX12_wrong 84 rfl) rfl rfl ?_
          refine r_getF (k := 75) (b := 114) C oCl12 rfl (by decide) flX12_158 rfl rfl rfl (oDec_at oX12_wrong 85 rfl) ?_
          refine r_iload C (j := 5) (oDec_at oX12_wrong 86 rfl) rfl ?_
          refine r_pc C 168 rfl ?_
          obtain ⟨v17, ev17⟩ : ∃ z : Int32, (t).1 114 x5.toNatClampNeg = z := ⟨_, rfl⟩
          have gv17 : (t.1 114 x5.toNatClampNeg).toInt = v17.toInt := congrArg Int32.toInt (ev17)
          have rv17 := n_rng v17
          refine r_iald (n := 24) (lo := (-2147483648)) (hi := 2147483647) C v17 rfl (by decide) rfl rfl ⟨by omega, by omega⟩ (by decide) ev17 rfl rfl (oDec_at oX12_wrong 87 rfl) (fun _ _ => ?_)
          refine r_iast (n := 48) (lo := (-2147483648)) (hi := 2147483647) C rfl (by decide) rfl rfl ⟨by omega, by omega⟩ (by decide) rfl rfl rfl rfl (n_rng _) (oDec_at oX12_wrong 88 rfl) ?_
          obtain ⟨v18, ev18⟩ : ∃ z : Int32, x5 + Int32.ofInt 1 = z := ⟨_, rfl⟩
          have hv18 : v18.toInt = x5.toInt + 1 := n_inc ev18 (by decide) (by omega) (by omega)
          refine r_iinc C (j := 5) (lv' := [(0, .ref (oad E 71)), (1, .int a1), (2, .int a2), (3, .int x3), (4, .int x4), (5, .int v18), (6, .int x6)]) v18 [1, 2, 3, 4, 5, 0, 6] (oDec_at oX12_wrong 89 rfl) rfl ev18 (by decide) rfl ?_
          refine r_goto C (tgt := 45) (oDec_at oX12_wrong 90 rfl) (by decide) ?_
          have lk19 : (((pI t 99 x5.toNatClampNeg v17)).1 71 38).toInt = (t.1 71 38).toInt := congrArg Int32.toInt ((pI_ne (a := 71) (b := 38) (c := 99) _ _ (Or.inl (by decide))))
          have lk20 : (((pI t 99 x5.toNatClampNeg v17)).1 71 42).toInt = (t.1 71 42).toInt := congrArg Int32.toInt ((pI_ne (a := 71) (b := 42) (c := 99) _ _ (Or.inl (by decide))))
          refine r_pick C [0, 1, 2, 3, 4, 5] rfl ?_
          exact (ih (n - 1) (by omega)).1 ((pI t 99 x5.toNatClampNeg v17)) x3 x4 v18  (oBI_fr (oFr_oneI (q := 75) (m := 9999) rfl (by rfl)) rfl iv0) (oLT_fr (oFr_oneI (q := 75) (m := 9999) rfl (by rfl)) rfl iv1) (by omega) (oAT_fr (oFr_oneI (q := 75) (m := 9999) rfl (by rfl)) rfl iv3) (by omega) (by omega) (by omega) (by omega) (by omega)
        · skip
          refine r_iload C (j := 4) (oDec_at oX12_wrong 45 rfl) rfl ?_
          refine r_iconst C (oDec_at oX12_wrong 46 rfl) (v := km1) (by rw [qkm1]; rfl) ?_
          refine r_icmp_ne C 156 (oDec_at oX12_wrong 47 rfl) (by decide) (fun cd21 => ?_) (fun cd21 => ?_)
          · skip
            refine r_aload_n C (j := 0) (oDec_at oX12_wrong 81 rfl) rfl rfl ?_
            refine r_getF (k := 39) (b := 99) C oCl12 rfl (by decide) flX12_96 rfl rfl rfl (oDec_at oX12_wrong 82 rfl) ?_
            refine r_iload C (j := 5) (oDec_at oX12_wrong 83 rfl) rfl ?_
            refine r_aload_n C (j := 0) (oDec_at oX12_wrong 84 rfl) rfl rfl ?_
            refine r_getF (k := 75) (b := 114) C oCl12 rfl (by decide) flX12_158 rfl rfl rfl (oDec_at oX12_wrong 85 rfl) ?_
            refine r_iload C (j := 5) (oDec_at oX12_wrong 86 rfl) rfl ?_
            refine r_pc C 168 rfl ?_
            obtain ⟨v23, ev23⟩ : ∃ z : Int32, (t).1 114 x5.toNatClampNeg = z := ⟨_, rfl⟩
            have gv23 : (t.1 114 x5.toNatClampNeg).toInt = v23.toInt := congrArg Int32.toInt (ev23)
            have rv23 := n_rng v23
            refine r_iald (n := 24) (lo := (-2147483648)) (hi := 2147483647) C v23 rfl (by decide) rfl rfl ⟨by omega, by omega⟩ (by decide) ev23 rfl rfl (oDec_at oX12_wrong 87 rfl) (fun _ _ => ?_)
            refine r_iast (n := 48) (lo := (-2147483648)) (hi := 2147483647) C rfl (by decide) rfl rfl ⟨by omega, by omega⟩ (by decide) rfl rfl rfl rfl (n_rng _) (oDec_at oX12_wrong 88 rfl) ?_
            obtain ⟨v24, ev24⟩ : ∃ z : Int32, x5 + Int32.ofInt 1 = z := ⟨_, rfl⟩
            have hv24 : v24.toInt = x5.toInt + 1 := n_inc ev24 (by decide) (by omega) (by omega)
            refine r_iinc C (j := 5) (lv' := [(0, .ref (oad E 71)), (1, .int a1), (2, .int a2), (3, .int x3), (4, .int x4), (5, .int v24), (6, .int x6)]) v24 [1, 2, 3, 4, 5, 0, 6] (oDec_at oX12_wrong 89 rfl) rfl ev24 (by decide) rfl ?_
            refine r_goto C (tgt := 45) (oDec_at oX12_wrong 90 rfl) (by decide) ?_
            have lk25 : (((pI t 99 x5.toNatClampNeg v23)).1 71 38).toInt = (t.1 71 38).toInt := congrArg Int32.toInt ((pI_ne (a := 71) (b := 38) (c := 99) _ _ (Or.inl (by decide))))
            have lk26 : (((pI t 99 x5.toNatClampNeg v23)).1 71 42).toInt = (t.1 71 42).toInt := congrArg Int32.toInt ((pI_ne (a := 71) (b := 42) (c := 99) _ _ (Or.inl (by decide))))
            refine r_pick C [0, 1, 2, 3, 4, 5] rfl ?_
            exact (ih (n - 1) (by omega)).1 ((pI t 99 x5.toNatClampNeg v23)) x3 x4 v24  (oBI_fr (oFr_oneI (q := 75) (m := 9999) rfl (by rfl)) rfl iv0) (oLT_fr (oFr_oneI (q := 75) (m := 9999) rfl (by rfl)) rfl iv1) (by omega) (oAT_fr (oFr_oneI (q := 75) (m := 9999) rfl (by rfl)) rfl iv3) (by omega) (by omega) (by omega) (by omega) (by omega)
          · skip
            refine r_iload C (j := 6) (oDec_at oX12_wrong 48 rfl) rfl ?_
            refine r_aload_n C (j := 0) (oDec_at oX12_wrong 49 rfl) rfl rfl ?_
            refine r_getF (k := 75) (b := 114) C oCl12 rfl (by decide) flX12_158 rfl rfl rfl (oDec_at oX12_wrong 50 rfl) ?_
            refine r_iload C (j := 5) (oDec_at oX12_wrong 51 rfl) rfl ?_
            obtain ⟨v28, ev28⟩ : ∃ z : Int32, (t).1 114 x5.toNatClampNeg = z := ⟨_, rfl⟩
            have gv28 : (t.1 114 x5.toNatClampNeg).toInt = v28.toInt := congrArg Int32.toInt (ev28)
            have rv28 := n_rng v28
            refine r_iald (n := 24) (lo := (-2147483648)) (hi := 2147483647) C v28 rfl (by decide) rfl rfl ⟨by omega, by omega⟩ (by decide) ev28 rfl rfl (oDec_at oX12_wrong 52 rfl) (fun _ _ => ?_)
            refine r_icmp_ne C 105 (oDec_at oX12_wrong 53 rfl) (by decide) (fun cd29 => ?_) (fun cd29 => ?_)
            · skip
              refine r_aload_n C (j := 0) (oDec_at oX12_wrong 55 rfl) rfl rfl ?_
              refine r_getF (k := 39) (b := 99) C oCl12 rfl (by decide) flX12_96 rfl rfl rfl (oDec_at oX12_wrong 56 rfl) ?_
              refine r_iload C (j := 5) (oDec_at oX12_wrong 57 rfl) rfl ?_
              refine r_iload C (j := 6) (oDec_at oX12_wrong 58 rfl) rfl ?_
              refine r_iast (n := 48) (lo := (-2147483648)) (hi := 2147483647) C rfl (by decide) rfl rfl ⟨by omega, by omega⟩ (by decide) rfl rfl rfl rfl (n_rng _) (oDec_at oX12_wrong 59 rfl) ?_
              refine r_aload_n C (j := 0) (oDec_at oX12_wrong 60 rfl) rfl rfl ?_
              refine r_pc C 115 rfl ?_
              refine r_callVv C oCl12 rfl miX12_lies mlX12_264 (ct_X12_lies l E ((pI t 99 x5.toNatClampNeg x6))  (oLT_fr (oFr_oneI (q := 75) (m := 9999) rfl (by rfl)) rfl iv1)) (by decide) rfl rfl rfl (Nat.le_of_ble_eq_true rfl) (oDec_at oX12_wrong 61 rfl) (fun u30 pu30 fu30 => ?_)
              try dsimp only at pu30
              obtain ⟨pu30_0, pu30_1⟩ := pu30
              have lu32 : ((u30).1 71 38).toInt = (t.1 71 38).toInt := congrArg Int32.toInt (((fu30 71 38 rfl).1).trans ((pI_ne (a := 71) (b := 38) (c := 99) _ _ (Or.inl (by decide)))))
              refine r_aload_n C (j := 0) (oDec_at oX12_wrong 62 rfl) rfl rfl ?_
              refine r_bipush C (oDec_at oX12_wrong 63 rfl) (v := k84) (by rw [qk84]; rfl) ?_
              refine r_iload_n C (j := 1) (oDec_at oX12_wrong 64 rfl) rfl rfl ?_
              refine r_callVi C oCl12 rfl miX12_breachOf mlX12_473 (ct_X12_breachOf l E (u30) k84 a1 (by omega) (by omega) (oBI_fr fu30 rfl (oBI_fr (oFr_oneI (q := 75) (m := 9999) rfl (by rfl)) rfl iv0))) (by decide) rfl rfl rfl (Nat.le_of_ble_eq_true rfl) (oDec_at oX12_wrong 65 rfl) (fun r34 u33 pu33 fu33 => ?_)
              try dsimp only at pu33
              have rr34 := n_rng r34
              refine r_iconst C (oDec_at oX12_wrong 66 rfl) (v := km1) (by rw [qkm1]; rfl) ?_
              refine r_pc C 126 rfl ?_
              refine r_icmp_eq C 132 (oDec_at oX12_wrong 67 rfl) (by decide) (fun cd35 => ?_) (fun cd35 => ?_)
              · skip
                refine r_iload_n C (j := 3) (oDec_at oX12_wrong 69 rfl) rfl rfl ?_
                refine r_iload_n C (j := 2) (oDec_at oX12_wrong 70 rfl) rfl rfl ?_
                refine r_icmp_ne C 147 (oDec_at oX12_wrong 71 rfl) (by decide) (fun cd36 => ?_) (fun cd36 => ?_)
                · skip
                  obtain ⟨v37, ev37⟩ : ∃ z : Int32, x3 + Int32.ofInt 1 = z := ⟨_, rfl⟩
                  have hv37 : v37.toInt = x3.toInt + 1 := n_inc ev37 (by decide) (by omega) (by omega)
                  refine r_iinc C (j := 3) (lv' := [(0, .ref (oad E 71)), (1, .int a1), (2, .int a2), (3, .int v37), (4, .int x4), (5, .int x5), (6, .int x6)]) v37 [1, 2, 3, 0, 4, 5, 6] (oDec_at oX12_wrong 78 rfl) rfl ev37 (by decide) rfl ?_
                  obtain ⟨v38, ev38⟩ : ∃ z : Int32, x6 + Int32.ofInt 1 = z := ⟨_, rfl⟩
                  have hv38 : v38.toInt = x6.toInt + 1 := n_inc ev38 (by decide) (by omega) (by omega)
                  refine r_iinc C (j := 6) (lv' := [(0, .ref (oad E 71)), (1, .int a1), (2, .int a2), (3, .int v37), (4, .int x4), (5, .int x5), (6, .int v38)]) v38 [1, 2, 3, 4, 5, 6, 0] (oDec_at oX12_wrong 79 rfl) rfl ev38 (by decide) rfl ?_
                  refine r_goto C (tgt := 77) (oDec_at oX12_wrong 80 rfl) (by decide) ?_
                  have lk39 : ((u33).1 71 38).toInt = (t.1 71 38).toInt := congrArg Int32.toInt (((fu33 71 38 rfl).1).trans (((fu30 71 38 rfl).1).trans ((pI_ne (a := 71) (b := 38) (c := 99) _ _ (Or.inl (by decide))))))
                  have lk40 : ((u33).1 71 42).toInt = (u30.1 71 42).toInt := congrArg Int32.toInt ((fu33 71 42 rfl).1)
                  exact (ih (n - 1) (by omega)).2 (u33) v37 x4 x5 v38  (oBI_fr fu33 rfl (oBI_fr fu30 rfl (oBI_fr (oFr_oneI (q := 75) (m := 9999) rfl (by rfl)) rfl iv0))) (oLT_fr fu33 rfl pu30_0) (by omega) (oAT_fr fu33 rfl (oAT_fr fu30 rfl (oAT_fr (oFr_oneI (q := 75) (m := 9999) rfl (by rfl)) rfl iv3))) (by omega) (by omega) (by omega) (by omega) (by omega) (by omega)
                · skip
                  refine r_bipush C (oDec_at oX12_wrong 72 rfl) (v := k100) (by rw [qk100]; rfl) ?_
                  refine r_iload C (j := 5) (oDec_at oX12_wrong 73 rfl) rfl ?_
                  obtain ⟨v41, ev41⟩ : ∃ z : Int32, z = k100 * x5 := ⟨_, rfl⟩
                  have hv41 : v41.toInt = 100 * x5.toInt := n_mulK' 100 ev41 ek100 (by omega) (by omega)
                  refine r_imul C v41 (oDec_at oX12_wrong 74 rfl) ev41 ?_
                  refine r_iload C (j := 6) (oDec_at oX12_wrong 75 rfl) rfl ?_
                  obtain ⟨v42, ev42⟩ : ∃ z : Int32, z = v41 + x6 := ⟨_, rfl⟩
                  have hv42 : v42.toInt = v41.toInt + x6.toInt := n_add ev42 (by omega) (by omega)
                  refine r_iadd C v42 (oDec_at oX12_wrong 76 rfl) ev42 ?_
                  refine r_istore C (lv' := [(0, .ref (oad E 71)), (1, .int a1), (2, .int a2), (3, .int x3), (4, .int v42), (5, .int x5), (6, .int x6)]) [1, 2, 3, 4, 0, 5, 6] (oDec_at oX12_wrong 77 rfl) (by decide) rfl ?_
                  refine r_pc C 147 rfl ?_
                  obtain ⟨v43, ev43⟩ : ∃ z : Int32, x3 + Int32.ofInt 1 = z := ⟨_, rfl⟩
                  have hv43 : v43.toInt = x3.toInt + 1 := n_inc ev43 (by decide) (by omega) (by omega)
                  refine r_iinc C (j := 3) (lv' := [(0, .ref (oad E 71)), (1, .int a1), (2, .int a2), (3, .int v43), (4, .int v42), (5, .int x5), (6, .int x6)]) v43 [1, 2, 3, 0, 4, 5, 6] (oDec_at oX12_wrong 78 rfl) rfl ev43 (by decide) rfl ?_
                  obtain ⟨v44, ev44⟩ : ∃ z : Int32, x6 + Int32.ofInt 1 = z := ⟨_, rfl⟩
                  have hv44 : v44.toInt = x6.toInt + 1 := n_inc ev44 (by decide) (by omega) (by omega)
                  refine r_iinc C (j := 6) (lv' := [(0, .ref (oad E 71)), (1, .int a1), (2, .int a2), (3, .int v43), (4, .int v42), (5, .int x5), (6, .int v44)]) v44 [1, 2, 3, 4, 5, 6, 0] (oDec_at oX12_wrong 79 rfl) rfl ev44 (by decide) rfl ?_
                  refine r_goto C (tgt := 77) (oDec_at oX12_wrong 80 rfl) (by decide) ?_
                  have lk45 : ((u33).1 71 38).toInt = (t.1 71 38).toInt := congrArg Int32.toInt (((fu33 71 38 rfl).1).trans (((fu30 71 38 rfl).1).trans ((pI_ne (a := 71) (b := 38) (c := 99) _ _ (Or.inl (by decide))))))
                  have lk46 : ((u33).1 71 42).toInt = (u30.1 71 42).toInt := congrArg Int32.toInt ((fu33 71 42 rfl).1)
                  exact (ih (n - 1) (by omega)).2 (u33) v43 v42 x5 v44  (oBI_fr fu33 rfl (oBI_fr fu30 rfl (oBI_fr (oFr_oneI (q := 75) (m := 9999) rfl (by rfl)) rfl iv0))) (oLT_fr fu33 rfl pu30_0) (by omega) (oAT_fr fu33 rfl (oAT_fr fu30 rfl (oAT_fr (oFr_oneI (q := 75) (m := 9999) rfl (by rfl)) rfl iv3))) (by omega) (by omega) (by omega) (by omega) (by omega) (by omega)
              · skip
                refine r_goto C (tgt := 150) (oDec_at oX12_wrong 68 rfl) (by decide) ?_
                obtain ⟨v47, ev47⟩ : ∃ z : Int32, x6 + Int32.ofInt 1 = z := ⟨_, rfl⟩
                have hv47 : v47.toInt = x6.toInt + 1 := n_inc ev47 (by decide) (by omega) (by omega)
                refine r_iinc C (j := 6) (lv' := [(0, .ref (oad E 71)), (1, .int a1), (2, .int a2), (3, .int x3), (4, .int x4), (5, .int x5), (6, .int v47)]) v47 [1, 2, 3, 4, 5, 6, 0] (oDec_at oX12_wrong 79 rfl) rfl ev47 (by decide) rfl ?_
                refine r_goto C (tgt := 77) (oDec_at oX12_wrong 80 rfl) (by decide) ?_
                have lk48 : ((u33).1 71 38).toInt = (t.1 71 38).toInt := congrArg Int32.toInt (((fu33 71 38 rfl).1).trans (((fu30 71 38 rfl).1).trans ((pI_ne (a := 71) (b := 38) (c := 99) _ _ (Or.inl (by decide))))))
                have lk49 : ((u33).1 71 42).toInt = (u30.1 71 42).toInt := congrArg Int32.toInt ((fu33 71 42 rfl).1)
                exact (ih (n - 1) (by omega)).2 (u33) x3 x4 x5 v47  (oBI_fr fu33 rfl (oBI_fr fu30 rfl (oBI_fr (oFr_oneI (q := 75) (m := 9999) rfl (by rfl)) rfl iv0))) (oLT_fr fu33 rfl pu30_0) (by omega) (oAT_fr fu33 rfl (oAT_fr fu30 rfl (oAT_fr (oFr_oneI (q := 75) (m := 9999) rfl (by rfl)) rfl iv3))) (by omega) (by omega) (by omega) (by omega) (by omega) (by omega)
            · skip
              refine r_goto C (tgt := 150) (oDec_at oX12_wrong 54 rfl) (by decide) ?_
              obtain ⟨v50, ev50⟩ : ∃ z : Int32, x6 + Int32.ofInt 1 = z := ⟨_, rfl⟩
              have hv50 : v50.toInt = x6.toInt + 1 := n_inc ev50 (by decide) (by omega) (by omega)
              refine r_iinc C (j := 6) (lv' := [(0, .ref (oad E 71)), (1, .int a1), (2, .int a2), (3, .int x3), (4, .int x4), (5, .int x5), (6, .int v50)]) v50 [1, 2, 3, 4, 5, 6, 0] (oDec_at oX12_wrong 79 rfl) rfl ev50 (by decide) rfl ?_
              refine r_goto C (tgt := 77) (oDec_at oX12_wrong 80 rfl) (by decide) ?_
              exact (ih (n - 1) (by omega)).2 (t) x3 x4 x5 v50  iv0 iv1 (by omega) iv3 (by omega) (by omega) (by omega) (by omega) (by omega) (by omega)
  refine r_iload_n C (j := 1) (oDec_at oX12_wrong 0 rfl) rfl rfl ?_
  refine r_callSi C miX12_isFollower mlX12_554 (ct_X12_isFollower l E (s) a1 ) (by decide) rfl rfl rfl (Nat.le_of_ble_eq_true rfl) (oDec_at oX12_wrong 1 rfl) (fun r52 u51 pu51 fu51 => ?_)
  try dsimp only at pu51
  obtain ⟨pu51_0, pu51_1⟩ := pu51
  have hxu51 := oFr_nil fu51; subst hxu51
  have rr52 := n_rng r52
  refine r_if_eq C 31 (oDec_at oX12_wrong 2 rfl) (by decide) (fun cd53 => ?_) (fun cd53 => ?_)
  · skip
    clear pu51_1
    refine r_iconst C (oDec_at oX12_wrong 16 rfl) (v := km1) (by rw [qkm1]; rfl) ?_
    exact r_iret C (oDec_at oX12_wrong 17 rfl) ⟨_, rfl, ⟨hp1, by omega⟩⟩
  · skip
    replace pu51_1 := pu51_1 (by omega)
    refine r_aload_n C (j := 0) (oDec_at oX12_wrong 3 rfl) rfl rfl ?_
    refine r_iload_n C (j := 1) (oDec_at oX12_wrong 4 rfl) rfl rfl ?_
    refine r_callVi C oCl12 rfl miX12_canBe mlX12_426 (ct_X12_canBe l E (s) a1 (by omega)) (by decide) rfl rfl rfl (Nat.le_of_ble_eq_true rfl) (oDec_at oX12_wrong 5 rfl) (fun r55 u54 pu54 fu54 => ?_)
    try dsimp only at pu54
    have hxu54 := oFr_nil fu54; subst hxu54
    have rr55 := n_rng r55
    refine r_if_eq C 31 (oDec_at oX12_wrong 6 rfl) (by decide) (fun cd56 => ?_) (fun cd56 => ?_)
    · skip
      refine r_iconst C (oDec_at oX12_wrong 16 rfl) (v := km1) (by rw [qkm1]; rfl) ?_
      exact r_iret C (oDec_at oX12_wrong 17 rfl) ⟨_, rfl, ⟨hp1, by omega⟩⟩
    · skip
      refine r_iload_n C (j := 2) (oDec_at oX12_wrong 7 rfl) rfl rfl ?_
      refine r_iconst C (oDec_at oX12_wrong 8 rfl) (v := km1) (by rw [qkm1]; rfl) ?_
      refine r_icmp_lt C 31 (oDec_at oX12_wrong 9 rfl) (by decide) (fun cd57 => ?_) (fun cd57 => ?_)
      · skip
        refine r_iconst C (oDec_at oX12_wrong 16 rfl) (v := km1) (by rw [qkm1]; rfl) ?_
        exact r_iret C (oDec_at oX12_wrong 17 rfl) ⟨_, rfl, ⟨hp1, by omega⟩⟩
      · skip
        refine r_aload_n C (j := 0) (oDec_at oX12_wrong 10 rfl) rfl rfl ?_
        refine r_bipush C (oDec_at oX12_wrong 11 rfl) (v := k84) (by rw [qk84]; rfl) ?_
        refine r_iload_n C (j := 1) (oDec_at oX12_wrong 12 rfl) rfl rfl ?_
        refine r_callVi C oCl12 rfl miX12_breachOf mlX12_473 (ct_X12_breachOf l E (s) k84 a1 (by omega) (by omega) hp0) (by decide) rfl rfl rfl (Nat.le_of_ble_eq_true rfl) (oDec_at oX12_wrong 13 rfl) (fun r59 u58 pu58 fu58 => ?_)
        try dsimp only at pu58
        have rr59 := n_rng r59
        refine r_iconst C (oDec_at oX12_wrong 14 rfl) (v := km1) (by rw [qkm1]; rfl) ?_
        refine r_icmp_ne C 33 (oDec_at oX12_wrong 15 rfl) (by decide) (fun cd60 => ?_) (fun cd60 => ?_)
        · skip
          refine r_iconst C (oDec_at oX12_wrong 18 rfl) (v := k0) (by rw [qk0]; rfl) ?_
          refine r_istore_n C (lv' := [(0, .ref (oad E 71)), (1, .int a1), (2, .int a2), (3, .int k0)]) [1, 2, 3, 0] (oDec_at oX12_wrong 19 rfl) rfl (by decide) rfl ?_
          refine r_iconst C (oDec_at oX12_wrong 20 rfl) (v := km1) (by rw [qkm1]; rfl) ?_
          refine r_istore C (lv' := [(0, .ref (oad E 71)), (1, .int a1), (2, .int a2), (3, .int k0), (4, .int km1)]) [1, 2, 3, 4, 0] (oDec_at oX12_wrong 21 rfl) (by decide) rfl ?_
          refine r_aload_n C (j := 0) (oDec_at oX12_wrong 22 rfl) rfl rfl ?_
          refine r_callVv C oCl12 rfl miX12_putsAside mlX12_559 (ct_X12_putsAside l E (u58)  (oLT_fr fu58 rfl hp1)) (by decide) rfl rfl rfl (Nat.le_of_ble_eq_true rfl) (oDec_at oX12_wrong 23 rfl) (fun u61 pu61 fu61 => ?_)
          try dsimp only at pu61
          obtain ⟨pu61_0, pu61_1, pu61_2⟩ := pu61
          have lu63 : ((u61).1 71 38).toInt = (s.1 71 38).toInt := congrArg Int32.toInt (((fu61 71 38 rfl).1).trans ((fu58 71 38 rfl).1))
          refine r_pc C 42 rfl ?_
          refine r_iconst C (oDec_at oX12_wrong 24 rfl) (v := k0) (by rw [qk0]; rfl) ?_
          refine r_istore C (lv' := [(0, .ref (oad E 71)), (1, .int a1), (2, .int a2), (3, .int k0), (4, .int km1), (5, .int k0)]) [1, 2, 3, 4, 5, 0] (oDec_at oX12_wrong 25 rfl) (by decide) rfl ?_
          have lk64 : ((u61).1 71 38).toInt = (s.1 71 38).toInt := congrArg Int32.toInt (((fu61 71 38 rfl).1).trans ((fu58 71 38 rfl).1))
          have lk65 : ((u61).1 71 42).toInt = (s.1 71 42).toInt := congrArg Int32.toInt (((fu61 71 42 rfl).1).trans ((fu58 71 42 rfl).1))
          exact (key (100 * (25 - k0.toInt)).toNat).1 (u61) k0 km1 k0  (oBI_fr fu61 rfl (oBI_fr fu58 rfl hp0)) pu61_0 (by omega) pu61_1 (by omega) (by omega) (by omega) (by omega) (by omega)
        · skip
          refine r_iconst C (oDec_at oX12_wrong 16 rfl) (v := km1) (by rw [qkm1]; rfl) ?_
          have lk66 : ((u58).1 71 38).toInt = (s.1 71 38).toInt := congrArg Int32.toInt ((fu58 71 38 rfl).1)
          have lk67 : ((u58).1 71 42).toInt = (s.1 71 42).toInt := congrArg Int32.toInt ((fu58 71 42 rfl).1)
          exact r_iret C (oDec_at oX12_wrong 17 rfl) ⟨_, rfl, ⟨(oLT_fr fu58 rfl hp1), by omega⟩⟩
