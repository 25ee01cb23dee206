set_option maxHeartbeats 4000000 in
set_option maxRecDepth 100000 in
theorem ct4_X12_fail (l : Launch) (E : oE) (s : oS) (a1 : Int32) (a2 : Int32)   : oMet l 1 yX12_fail cX12_fail 3 none [(12, 5), (12, 6)] E s [.ref (oad E 71), .int a1, .int a2] (oPv (fun u => ((s.1 71 5).toInt = 0 → ((u.1 71 5).toInt = a1.toInt ∧ (u.1 71 6).toInt = a2.toInt)) ∧ ((s.1 71 5).toInt ≠ 0 → ((u.1 71 5).toInt = (s.1 71 5).toInt ∧ (u.1 71 6).toInt = (s.1 71 6).toInt)))) := by
  refine oMet.of (lv := [(0, .ref (oad E 71)), (1, .int a1), (2, .int a2)]) (by decide +kernel) (Nat.le_of_ble_eq_true rfl) rfl (fun J C hT => ?_)
  have C : oC l 1 cX12_fail RX12 3 none [(12, 5), (12, 6)] E s (oPv (fun u => ((s.1 71 5).toInt = 0 → ((u.1 71 5).toInt = a1.toInt ∧ (u.1 71 6).toInt = a2.toInt)) ∧ ((s.1 71 5).toInt ≠ 0 → ((u.1 71 5).toInt = (s.1 71 5).toInt ∧ (u.1 71 6).toInt = (s.1 71 6).toInt)))) J := C
  have rg1 := n_rng a1
  have rg2 := n_rng a2
  refine r_aload_n C (j := 0) (oDec_at oX12_fail 0 rfl) rfl rfl ?_
  obtain ⟨v1, ev1⟩ : ∃ z : Int32, (s).1 71 5 = z := ⟨_, rfl⟩
  have gv1 : (s.1 71 5).toInt = v1.toInt := congrArg Int32.toInt (ev1)
  have rv1 := n_rng v1
  refine r_geti (k := 5) (lo := (-2147483648)) (hi := 2147483647) C v1 oCl12 rfl (by decide) flX12_173 rfl rfl (ev1) rfl rfl (oDec_at oX12_fail 1 rfl) (fun _ _ => ?_)
  refine r_if_eq C 8 (oDec_at oX12_fail 2 rfl) (by decide) (fun cd2 => ?_) (fun cd2 => ?_)
  · skip
    refine r_aload_n C (j := 0) (oDec_at oX12_fail 4 rfl) rfl rfl ?_
    refine r_iload_n C (j := 1) (oDec_at oX12_fail 5 rfl) rfl rfl ?_
    refine r_puti (k := 5) (lo := (-2147483648)) (hi := 2147483647) C oCl12 rfl (by decide) flX12_173 rfl rfl rfl rfl rfl rfl rfl rfl (n_rng _) (oDec_at oX12_fail 6 rfl) ?_
    refine r_aload_n C (j := 0) (oDec_at oX12_fail 7 rfl) rfl rfl ?_
    refine r_iload_n C (j := 2) (oDec_at oX12_fail 8 rfl) rfl rfl ?_
    refine r_puti (k := 6) (lo := (-2147483648)) (hi := 2147483647) C oCl12 rfl (by decide) flX12_176 rfl rfl rfl rfl rfl rfl rfl rfl (n_rng _) (oDec_at oX12_fail 9 rfl) ?_
    refine r_pc C 18 rfl ?_
    have lk3 : (((pI (pI s 71 5 a1) 71 6 a2)).1 71 5).toInt = a1.toInt := congrArg Int32.toInt (((pI_ne (a := 71) (b := 5) (c := 71) (k := 6) _ _ (Or.inr (by decide)))).trans ((pI_self _ _ _ _)))
    have lk4 : (((pI (pI s 71 5 a1) 71 6 a2)).1 71 6).toInt = a2.toInt := congrArg Int32.toInt ((pI_self _ _ _ _))
    have lk5 : (((pI (pI s 71 5 a1) 71 6 a2)).1 71 5).toInt = a1.toInt := congrArg Int32.toInt (((pI_ne (a := 71) (b := 5) (c := 71) (k := 6) _ _ (Or.inr (by decide)))).trans ((pI_self _ _ _ _)))
    have lk6 : (((pI (pI s 71 5 a1) 71 6 a2)).1 71 6).toInt = a2.toInt := congrArg Int32.toInt ((pI_self _ _ _ _))
    exact r_vret C (oDec_at oX12_fail 10 rfl) ⟨rfl, ⟨by omega, by omega⟩⟩
  · skip
    have lk7 : ((s).1 71 5).toInt = v1.toInt := congrArg Int32.toInt (ev1)
    have lk8 : ((s).1 71 5).toInt = v1.toInt := congrArg Int32.toInt (ev1)
    exact r_vret C (oDec_at oX12_fail 3 rfl) ⟨rfl, ⟨by omega, by omega⟩⟩
set_option maxHeartbeats 4000000 in
set_option maxRecDepth 100000 in
theorem ct4_X12_look (l : Launch) (E : oE) (s : oS)  (g : Int → Int) (a : Int) (hp0 : (s.1 71 2).toInt = a) (hp1 : oqZ g s) : oMet l 1 yX12_look cX12_look 1 (some .int) [(12, 2)] E s [.ref (oad E 71)] (oPi (fun r u => ((u.1 71 2).toInt = oqSk g a) ∧ (r.toInt = g (oqSk g a)) ∧ (a ≤ (u.1 71 2).toInt) ∧ (g (oqSk g a) ≠ 32 ∧ g (oqSk g a) ≠ 10) ∧ (-1 ≤ r.toInt ∧ r.toInt ≤ 255) ∧ (r.toInt ≠ -1 → (u.1 71 2).toInt < (s.1 71 3).toInt ∧ (u.1 71 2).toInt ≤ 1599))) := by
  refine oMet.of (lv := [(0, .ref (oad E 71))]) (by decide +kernel) (Nat.le_of_ble_eq_true rfl) rfl (fun J C hT => ?_)
  have C : oC l 1 cX12_look RX12 1 (some .int) [(12, 2)] E s (oPi (fun r u => ((u.1 71 2).toInt = oqSk g a) ∧ (r.toInt = g (oqSk g a)) ∧ (a ≤ (u.1 71 2).toInt) ∧ (g (oqSk g a) ≠ 32 ∧ g (oqSk g a) ≠ 10) ∧ (-1 ≤ r.toInt ∧ r.toInt ≤ 255) ∧ (r.toInt ≠ -1 → (u.1 71 2).toInt < (s.1 71 3).toInt ∧ (u.1 71 2).toInt ≤ 1599))) J := C
  obtain ⟨km1, qkm1⟩ : ∃ z : Int32, z = (-1) := ⟨_, rfl⟩
  have ekm1 : km1.toInt = (-1) := by rw [qkm1]; rfl
  obtain ⟨k1, qk1⟩ : ∃ z : Int32, z = 1 := ⟨_, rfl⟩
  have ek1 : k1.toInt = 1 := by rw [qk1]; rfl
  obtain ⟨k10, qk10⟩ : ∃ z : Int32, z = 10 := ⟨_, rfl⟩
  have ek10 : k10.toInt = 10 := by rw [qk10]; rfl
  obtain ⟨k32, qk32⟩ : ∃ z : Int32, z = 32 := ⟨_, rfl⟩
  have ek32 : k32.toInt = 32 := by rw [qk32]; rfl
  have ht2 : (0 : Int) ≤ (s.1 71 2).toInt ∧ (s.1 71 2).toInt ≤ 1600 := hT.1 71 2
  have ht1 : (0 : Int) ≤ (s.1 71 3).toInt ∧ (s.1 71 3).toInt ≤ 1600 := hT.1 71 3
  have key : ∀ n : Nat, (∀ (t : oS), (oqZ g t) → (oqBl g a (t.1 71 2).toInt) → (a ≤ (t.1 71 2).toInt) → (0 ≤ a) → ((t.1 71 3).toInt = (s.1 71 3).toInt) → 1601 - (t.1 71 2).toInt ≤ (n : Int) → J t 0 [(0, .ref (oad E 71))] []) := by
    intro n
    induction n using Nat.strongRecOn with
    | _ n ih =>
      skip
      · intro t   iv0 iv1 iv2 iv3 iv4 hmu
        refine r_aload_n C (j := 0) (oDec_at oX12_look 0 rfl) rfl rfl ?_
        obtain ⟨v1, ev1⟩ : ∃ z : Int32, (t).1 71 2 = z := ⟨_, rfl⟩
        have gv1 : (t.1 71 2).toInt = v1.toInt := congrArg Int32.toInt (ev1)
        refine r_geti (k := 2) (lo := 0) (hi := 1600) C v1 oCl12 rfl (by decide) flX12_179 rfl rfl (ev1) rfl rfl (oDec_at oX12_look 1 rfl) (fun b2 b2h => ?_)
        refine r_aload_n C (j := 0) (oDec_at oX12_look 2 rfl) rfl rfl ?_
        obtain ⟨v3, ev3⟩ : ∃ z : Int32, (t).1 71 3 = z := ⟨_, rfl⟩
        have gv3 : (t.1 71 3).toInt = v3.toInt := congrArg Int32.toInt (ev3)
        refine r_geti (k := 3) (lo := 0) (hi := 1600) C v3 oCl12 rfl (by decide) flX12_182 rfl rfl (ev3) rfl rfl (oDec_at oX12_look 3 rfl) (fun b4 b4h => ?_)
        refine r_icmp_ge C 52 (oDec_at oX12_look 4 rfl) (by decide) (fun cd5 => ?_) (fun cd5 => ?_)
        · skip
          refine r_aload_n C (j := 0) (oDec_at oX12_look 26 rfl) rfl rfl ?_
          refine r_geti (k := 2) (lo := 0) (hi := 1600) C v1 oCl12 rfl (by decide) flX12_179 rfl rfl (ev1) rfl rfl (oDec_at oX12_look 27 rfl) (fun _ _ => ?_)
          refine r_aload_n C (j := 0) (oDec_at oX12_look 28 rfl) rfl rfl ?_
          refine r_geti (k := 3) (lo := 0) (hi := 1600) C v3 oCl12 rfl (by decide) flX12_182 rfl rfl (ev3) rfl rfl (oDec_at oX12_look 29 rfl) (fun _ _ => ?_)
          refine r_icmp_ge C 75 (oDec_at oX12_look 30 rfl) (by decide) (fun cd6 => ?_) (fun cd6 => ?_)
          · skip
            have hgn := oqZ_no iv0 (a := (t.1 71 2).toInt) (by omega)
            refine r_iconst C (oDec_at oX12_look 37 rfl) (v := km1) (by rw [qkm1]; rfl) ?_
            have hsk := oqBl_sk iv1 (by omega) (by omega) (by omega)
            have hgs : g (oqSk g a) = g (t.1 71 2).toInt := by rw [hsk]
            have lk7 : ((t).1 71 2).toInt = v1.toInt := congrArg Int32.toInt (ev1)
            have lk8 : ((t).1 71 2).toInt = v1.toInt := congrArg Int32.toInt (ev1)
            have lk9 : ((t).1 71 2).toInt = v1.toInt := congrArg Int32.toInt (ev1)
            exact r_iret C (oDec_at oX12_look 38 rfl) ⟨_, rfl, ⟨by omega, by omega, by omega, by omega, by omega, by omega⟩⟩
          · skip
            refine r_aload_n C (j := 0) (oDec_at oX12_look 31 rfl) rfl rfl ?_
            refine r_getF (k := 0) (b := 72) C oCl12 rfl (by decide) flX12_7 rfl rfl rfl (oDec_at oX12_look 32 rfl) ?_
            refine r_aload_n C (j := 0) (oDec_at oX12_look 33 rfl) rfl rfl ?_
            refine r_geti (k := 2) (lo := 0) (hi := 1600) C v1 oCl12 rfl (by decide) flX12_179 rfl rfl (ev1) rfl rfl (oDec_at oX12_look 34 rfl) (fun _ _ => ?_)
            obtain ⟨v11, ev11⟩ : ∃ z : Int32, (t).1 72 v1.toNatClampNeg = z := ⟨_, rfl⟩
            have gv11 : (t.1 72 v1.toNatClampNeg).toInt = v11.toInt := congrArg Int32.toInt (ev11)
            refine r_iald (n := 1600) (lo := 0) (hi := 255) C v11 rfl (by decide) rfl rfl ⟨by omega, by omega⟩ (by decide) ev11 rfl rfl (oDec_at oX12_look 35 rfl) (fun b10 b10h => ?_)
            have la12 : ((t).1 72 ((t).1 71 2).toNatClampNeg).toInt = v11.toInt := by rw [ev1, ev11]
            have hg72 := oqZ_at iv0 ev11 (a := (t.1 71 2).toInt) (by omega) (by omega) (by omega)
            refine r_goto C (tgt := 76) (oDec_at oX12_look 36 rfl) (by decide) ?_
            have hsk := oqBl_sk iv1 (by omega) (by omega) (by omega)
            have hgs : g (oqSk g a) = g (t.1 71 2).toInt := by rw [hsk]
            have lk13 : ((t).1 71 2).toInt = v1.toInt := congrArg Int32.toInt (ev1)
            have lk14 : ((t).1 71 2).toInt = v1.toInt := congrArg Int32.toInt (ev1)
            have lk15 : ((t).1 71 2).toInt = v1.toInt := congrArg Int32.toInt (ev1)
            exact r_iret C (oDec_at oX12_look 38 rfl) ⟨_, rfl, ⟨by omega, by omega, by omega, by omega, by omega, by omega⟩⟩
        · skip
          refine r_aload_n C (j := 0) (oDec_at oX12_look 5 rfl) rfl rfl ?_
          refine r_getF (k := 0) (b := 72) C oCl12 rfl (by decide) flX12_7 rfl rfl rfl (oDec_at oX12_look 6 rfl) ?_
          refine r_aload_n C (j := 0) (oDec_at oX12_look 7 rfl) rfl rfl ?_
          refine r_geti (k := 2) (lo := 0) (hi := 1600) C v1 oCl12 rfl (by decide) flX12_179 rfl rfl (ev1) rfl rfl (oDec_at oX12_look 8 rfl) (fun _ _ => ?_)
          obtain ⟨v17, ev17⟩ : ∃ z : Int32, (t).1 72 v1.toNatClampNeg = z := ⟨_, rfl⟩
          have gv17 : (t.1 72 v1.toNatClampNeg).toInt = v17.toInt := congrArg Int32.toInt (ev17)
          refine r_iald (n := 1600) (lo := 0) (hi := 255) C v17 rfl (by decide) rfl rfl ⟨by omega, by omega⟩ (by decide) ev17 rfl rfl (oDec_at oX12_look 9 rfl) (fun b16 b16h => ?_)
          have la18 : ((t).1 72 ((t).1 71 2).toNatClampNeg).toInt = v17.toInt := by rw [ev1, ev17]
          have hg20 := oqZ_at iv0 ev17 (a := (t.1 71 2).toInt) (by omega) (by omega) (by omega)
          refine r_bipush C (oDec_at oX12_look 10 rfl) (v := k10) (by rw [qk10]; rfl) ?_
          refine r_pc C 22 rfl ?_
          refine r_icmp_eq C 39 (oDec_at oX12_look 11 rfl) (by decide) (fun cd19 => ?_) (fun cd19 => ?_)
          · skip
            refine r_aload_n C (j := 0) (oDec_at oX12_look 19 rfl) rfl rfl ?_
            refine r_dup C (oDec_at oX12_look 20 rfl) rfl ?_
            refine r_geti (k := 2) (lo := 0) (hi := 1600) C v1 oCl12 rfl (by decide) flX12_179 rfl rfl (ev1) rfl rfl (oDec_at oX12_look 21 rfl) (fun _ _ => ?_)
            refine r_iconst C (oDec_at oX12_look 22 rfl) (v := k1) (by rw [qk1]; rfl) ?_
            obtain ⟨v20, ev20⟩ : ∃ z : Int32, z = v1 + k1 := ⟨_, rfl⟩
            have hv20 : v20.toInt = v1.toInt + k1.toInt := n_add ev20 (by omega) (by omega)
            refine r_iadd C v20 (oDec_at oX12_look 23 rfl) ev20 ?_
            refine r_puti (k := 2) (lo := 0) (hi := 1600) C oCl12 rfl (by decide) flX12_179 rfl rfl rfl rfl rfl rfl rfl rfl ⟨by omega, by omega⟩ (oDec_at oX12_look 24 rfl) ?_
            refine r_pc C 49 rfl ?_
            refine r_goto C (tgt := 0) (oDec_at oX12_look 25 rfl) (by decide) ?_
            have lk21 : (((pI t 71 2 v20)).1 71 2).toInt = v20.toInt := congrArg Int32.toInt ((pI_self _ _ _ _))
            have lk22 : (((pI t 71 2 v20)).1 71 2).toInt = v20.toInt := congrArg Int32.toInt ((pI_self _ _ _ _))
            have lk23 : (((pI t 71 2 v20)).1 71 3).toInt = v3.toInt := congrArg Int32.toInt (((pI_ne (a := 71) (b := 3) (c := 71) (k := 2) _ _ (Or.inr (by decide)))).trans (ev3))
            have lk24 : (((pI t 71 2 v20)).1 71 2).toInt = v20.toInt := congrArg Int32.toInt ((pI_self _ _ _ _))
            exact (ih (n - 1) (by omega)) ((pI t 71 2 v20))   (oqZ_fr (oFr_oneI (q := 12) (m := 2) rfl (by rfl)) rfl iv0) (by first | exact oqBl_nx iv1 (by omega) (by omega) | (rw [hp0]; exact oqBl_0)) (by omega) (by omega) (by omega) (by omega)
          · skip
            refine r_aload_n C (j := 0) (oDec_at oX12_look 12 rfl) rfl rfl ?_
            refine r_getF (k := 0) (b := 72) C oCl12 rfl (by decide) flX12_7 rfl rfl rfl (oDec_at oX12_look 13 rfl) ?_
            refine r_aload_n C (j := 0) (oDec_at oX12_look 14 rfl) rfl rfl ?_
            refine r_geti (k := 2) (lo := 0) (hi := 1600) C v1 oCl12 rfl (by decide) flX12_179 rfl rfl (ev1) rfl rfl (oDec_at oX12_look 15 rfl) (fun _ _ => ?_)
            refine r_iald (n := 1600) (lo := 0) (hi := 255) C v17 rfl (by decide) rfl rfl ⟨by omega, by omega⟩ (by decide) (ev17) rfl rfl (oDec_at oX12_look 16 rfl) (fun b25 b25h => ?_)
            have la26 : ((t).1 72 ((t).1 71 2).toNatClampNeg).toInt = v17.toInt := by rw [ev1, (ev17)]
            refine r_bipush C (oDec_at oX12_look 17 rfl) (v := k32) (by rw [qk32]; rfl) ?_
            refine r_pc C 36 rfl ?_
            refine r_icmp_ne C 52 (oDec_at oX12_look 18 rfl) (by decide) (fun cd27 => ?_) (fun cd27 => ?_)
            · skip
              refine r_aload_n C (j := 0) (oDec_at oX12_look 26 rfl) rfl rfl ?_
              refine r_geti (k := 2) (lo := 0) (hi := 1600) C v1 oCl12 rfl (by decide) flX12_179 rfl rfl (ev1) rfl rfl (oDec_at oX12_look 27 rfl) (fun _ _ => ?_)
              refine r_aload_n C (j := 0) (oDec_at oX12_look 28 rfl) rfl rfl ?_
              refine r_geti (k := 3) (lo := 0) (hi := 1600) C v3 oCl12 rfl (by decide) flX12_182 rfl rfl (ev3) rfl rfl (oDec_at oX12_look 29 rfl) (fun _ _ => ?_)
              refine r_icmp_ge C 75 (oDec_at oX12_look 30 rfl) (by decide) (fun cd28 => ?_) (fun cd28 => ?_)
              · skip
                have hgn := oqZ_no iv0 (a := (t.1 71 2).toInt) (by omega)
                refine r_iconst C (oDec_at oX12_look 37 rfl) (v := km1) (by rw [qkm1]; rfl) ?_
                have hsk := oqBl_sk iv1 (by omega) (by omega) (by omega)
                have hgs : g (oqSk g a) = g (t.1 71 2).toInt := by rw [hsk]
                have lk29 : ((t).1 71 2).toInt = v1.toInt := congrArg Int32.toInt (ev1)
                have lk30 : ((t).1 71 2).toInt = v1.toInt := congrArg Int32.toInt (ev1)
                have lk31 : ((t).1 71 2).toInt = v1.toInt := congrArg Int32.toInt (ev1)
                exact r_iret C (oDec_at oX12_look 38 rfl) ⟨_, rfl, ⟨by omega, by omega, by omega, by omega, by omega, by omega⟩⟩
              · skip
                refine r_aload_n C (j := 0) (oDec_at oX12_look 31 rfl) rfl rfl ?_
                refine r_getF (k := 0) (b := 72) C oCl12 rfl (by decide) flX12_7 rfl rfl rfl (oDec_at oX12_look 32 rfl) ?_
                refine r_aload_n C (j := 0) (oDec_at oX12_look 33 rfl) rfl rfl ?_
                refine r_geti (k := 2) (lo := 0) (hi := 1600) C v1 oCl12 rfl (by decide) flX12_179 rfl rfl (ev1) rfl rfl (oDec_at oX12_look 34 rfl) (fun _ _ => ?_)
                refine r_iald (n := 1600) (lo := 0) (hi := 255) C v17 rfl (by decide) rfl rfl ⟨by omega, by omega⟩ (by decide) (ev17) rfl rfl (oDec_at oX12_look 35 rfl) (fun b32 b32h => ?_)
                have la33 : ((t).1 72 ((t).1 71 2).toNatClampNeg).toInt = v17.toInt := by rw [ev1, (ev17)]
                have hg72 := oqZ_at iv0 ev17 (a := (t.1 71 2).toInt) (by omega) (by omega) (by omega)
                refine r_goto C (tgt := 76) (oDec_at oX12_look 36 rfl) (by decide) ?_
                have hsk := oqBl_sk iv1 (by omega) (by omega) (by omega)
                have hgs : g (oqSk g a) = g (t.1 71 2).toInt := by rw [hsk]
                have lk34 : ((t).1 71 2).toInt = v1.toInt := congrArg Int32.toInt (ev1)
                have lk35 : ((t).1 71 2).toInt = v1.toInt := congrArg Int32.toInt (ev1)
                have lk36 : ((t).1 71 2).toInt = v1.toInt := congrArg Int32.toInt (ev1)
                exact r_iret C (oDec_at oX12_look 38 rfl) ⟨_, rfl, ⟨by omega, by omega, by omega, by omega, by omega, by omega⟩⟩
            · skip
              refine r_aload_n C (j := 0) (oDec_at oX12_look 19 rfl) rfl rfl ?_
              refine r_dup C (oDec_at oX12_look 20 rfl) rfl ?_
              refine r_geti (k := 2) (lo := 0) (hi := 1600) C v1 oCl12 rfl (by decide) flX12_179 rfl rfl (ev1) rfl rfl (oDec_at oX12_look 21 rfl) (fun _ _ => ?_)
              refine r_iconst C (oDec_at oX12_look 22 rfl) (v := k1) (by rw [qk1]; rfl) ?_
              obtain ⟨v37, ev37⟩ : ∃ z : Int32, z = v1 + k1 := ⟨_, rfl⟩
              have hv37 : v37.toInt = v1.toInt + k1.toInt := n_add ev37 (by omega) (by omega)
              refine r_iadd C v37 (oDec_at oX12_look 23 rfl) ev37 ?_
              refine r_puti (k := 2) (lo := 0) (hi := 1600) C oCl12 rfl (by decide) flX12_179 rfl rfl rfl rfl rfl rfl rfl rfl ⟨by omega, by omega⟩ (oDec_at oX12_look 24 rfl) ?_
              refine r_pc C 49 rfl ?_
              refine r_goto C (tgt := 0) (oDec_at oX12_look 25 rfl) (by decide) ?_
              have lk38 : (((pI t 71 2 v37)).1 71 2).toInt = v37.toInt := congrArg Int32.toInt ((pI_self _ _ _ _))
              have lk39 : (((pI t 71 2 v37)).1 71 2).toInt = v37.toInt := congrArg Int32.toInt ((pI_self _ _ _ _))
              have lk40 : (((pI t 71 2 v37)).1 71 3).toInt = v3.toInt := congrArg Int32.toInt (((pI_ne (a := 71) (b := 3) (c := 71) (k := 2) _ _ (Or.inr (by decide)))).trans (ev3))
              have lk41 : (((pI t 71 2 v37)).1 71 2).toInt = v37.toInt := congrArg Int32.toInt ((pI_self _ _ _ _))
              exact (ih (n - 1) (by omega)) ((pI t 71 2 v37))   (oqZ_fr (oFr_oneI (q := 12) (m := 2) rfl (by rfl)) rfl iv0) (by first | exact oqBl_nx iv1 (by omega) (by omega) | (rw [hp0]; exact oqBl_0)) (by omega) (by omega) (by omega) (by omega)
  exact (key (1601 - ((s).1 71 2).toInt).toNat) (s)   hp1 (by first | (rw [hp0]; exact oqBl_0)) (by omega) (by omega) (by omega) (by omega)
set_option maxHeartbeats 4000000 in
set_option maxRecDepth 100000 in
theorem ct4_X12_isHere (l : Launch) (E : oE) (s : oS) (c1 q1 n1 : Nat) (hk1 : okd c1 = q1) (h13_1 : 13 ≤ q1) (h9_1 : q1 < 999) (ht1 : oat q1 = 1) (hn1 : oln q1 = n1) (g : Int → Int) (a : Int) (b : Int) (i : Nat) (hp0 : (s.1 71 2).toInt = a) (hp1 : (s.1 71 4).toInt = b) (hp2 : oqZ g s) (hp3 : (s.1 71 5).toInt = 0) (hp4 : i < 26) (hp5 : n1 = oqWl i) (hp6 : ∀ j : Nat, j < oqWl i → (s.1 c1 j).toInt = oqWc i j) (hp7 : 2 ≤ n1 ∧ n1 ≤ 7) : oMet l 2 yX12_isHere cX12_isHere 4 (some .boolean) [(12, 2)] E s [.ref (oad E 71), .ref (oad E c1)] (oPi (fun r u => (0 ≤ r.toInt ∧ r.toInt ≤ 1) ∧ ((u.1 71 2).toInt = oqSk g a) ∧ (g (oqSk g a) ≠ 32 ∧ g (oqSk g a) ≠ 10) ∧ (a ≤ oqSk g a) ∧ (r.toInt = 1 → oqH g a b i = 1) ∧ (r.toInt = 0 → oqH g a b i = 0) ∧ (r.toInt = 1 → (u.1 71 2).toInt + (n1 : Int) ≤ 1600))) := by
  refine oMet.of (lv := [(0, .ref (oad E 71)), (1, .ref (oad E c1))]) (by decide +kernel) (Nat.le_of_ble_eq_true rfl) rfl (fun J C hT => ?_)
  have C : oC l 2 cX12_isHere RX12 4 (some .boolean) [(12, 2)] E s (oPi (fun r u => (0 ≤ r.toInt ∧ r.toInt ≤ 1) ∧ ((u.1 71 2).toInt = oqSk g a) ∧ (g (oqSk g a) ≠ 32 ∧ g (oqSk g a) ≠ 10) ∧ (a ≤ oqSk g a) ∧ (r.toInt = 1 → oqH g a b i = 1) ∧ (r.toInt = 0 → oqH g a b i = 0) ∧ (r.toInt = 1 → (u.1 71 2).toInt + (n1 : Int) ≤ 1600))) J := C
  obtain ⟨k0, qk0⟩ : ∃ z : Int32, z = 0 := ⟨_, rfl⟩
  have ek0 : k0.toInt = 0 := by rw [qk0]; rfl
  obtain ⟨k1, qk1⟩ : ∃ z : Int32, z = 1 := ⟨_, rfl⟩
  have ek1 : k1.toInt = 1 := by rw [qk1]; rfl
  have htE : (0 : Int) ≤ (s.1 71 3).toInt ∧ (s.1 71 3).toInt ≤ 1600 := hT.1 71 3
  have key : ∀ n : Nat, (∀ (t : oS) (x2 : Int32), (oqZ g t) → ((t.1 71 2).toInt = oqSk g a ∧ a ≤ oqSk g a ∧ 0 ≤ oqSk g a) → (oqSk g a ≠ b) → (97 ≤ g (oqSk g a) ∧ g (oqSk g a) ≤ 122) → (∀ j : Nat, j < oqWl i → (t.1 c1 j).toInt = oqWc i j) → (oqRun g (oqSk g a) x2.toInt) → (oqSk g a ≤ x2.toInt ∧ x2.toInt ≤ (t.1 71 3).toInt ∧ (t.1 71 3).toInt ≤ 1600) → (g (oqSk g a) ≠ 32 ∧ g (oqSk g a) ≠ 10) → 10000 - x2.toInt ≤ (n : Int) → J t 35 [(0, .ref (oad E 71)), (1, .ref (oad E c1)), (2, .int x2)] []) ∧ (∀ (t : oS) (x3 : Int32), (oqZ g t) → ((t.1 71 2).toInt = oqSk g a ∧ a ≤ oqSk g a ∧ 0 ≤ oqSk g a) → (oqSk g a ≠ b) → (0 ≤ x3.toInt ∧ x3.toInt ≤ (n1 : Int)) → (∀ j : Nat, j < oqWl i → (t.1 c1 j).toInt = oqWc i j) → (¬ (97 ≤ g (oqSk g a + (n1 : Int)) ∧ g (oqSk g a + (n1 : Int)) ≤ 122)) → (oqEq g (oqSk g a) i x3.toInt) → (oqSk g a + (n1 : Int) ≤ (t.1 71 3).toInt ∧ (t.1 71 3).toInt ≤ 1600) → (g (oqSk g a) ≠ 32 ∧ g (oqSk g a) ≠ 10) → (n1 : Int) - x3.toInt + 1 ≤ (n : Int) → J t 76 [(0, .ref (oad E 71)), (1, .ref (oad E c1)), (3, .int x3)] []) := by
    intro n
    induction n using Nat.strongRecOn with
    | _ n ih =>
      refine ⟨?_, ?_⟩
      · intro t x2  iv0 iv1 iv2 iv3 iv4 iv5 iv6 iv7 hmu
        have rx2 := n_rng x2
        refine r_iload_n C (j := 2) (oDec_at oX12_isHere 17 rfl) rfl rfl ?_
        refine r_aload_n C (j := 0) (oDec_at oX12_isHere 18 rfl) rfl rfl ?_
        obtain ⟨v1, ev1⟩ : ∃ z : Int32, (t).1 71 3 = z := ⟨_, rfl⟩
        have gv1 : (t.1 71 3).toInt = v1.toInt := congrArg Int32.toInt (ev1)
        refine r_geti (k := 3) (lo := 0) (hi := 1600) C v1 oCl12 rfl (by decide) flX12_182 rfl rfl (ev1) rfl rfl (oDec_at oX12_isHere 19 rfl) (fun b2 b2h => ?_)
        refine r_icmp_ge C 61 (oDec_at oX12_isHere 20 rfl) (by decide) (fun cd3 => ?_) (fun cd3 => ?_)
        · skip
          have hnl : ¬ (97 ≤ g x2.toInt ∧ g x2.toInt ≤ 122) := by first | omega | (have h9 := oqZ_no iv0 (a := x2.toInt) (by omega); omega)
          refine r_iload_n C (j := 2) (oDec_at oX12_isHere 29 rfl) rfl rfl ?_
          refine r_aload_n C (j := 0) (oDec_at oX12_isHere 30 rfl) rfl rfl ?_
          obtain ⟨v4, ev4⟩ : ∃ z : Int32, (t).1 71 2 = z := ⟨_, rfl⟩
          have gv4 : (t.1 71 2).toInt = v4.toInt := congrArg Int32.toInt (ev4)
          refine r_geti (k := 2) (lo := 0) (hi := 1600) C v4 oCl12 rfl (by decide) flX12_179 rfl rfl (ev4) rfl rfl (oDec_at oX12_isHere 31 rfl) (fun b5 b5h => ?_)
          obtain ⟨v6, ev6⟩ : ∃ z : Int32, z = x2 - v4 := ⟨_, rfl⟩
          have hv6 : v6.toInt = x2.toInt - v4.toInt := n_sub ev6 (by omega) (by omega)
          refine r_isub C v6 (oDec_at oX12_isHere 32 rfl) ev6 ?_
          refine r_aload_n C (j := 1) (oDec_at oX12_isHere 33 rfl) rfl rfl ?_
          obtain ⟨v7, ev7⟩ : ∃ z : Int32, Int32.ofNat n1 = z := ⟨_, rfl⟩
          have hv7 : v7.toInt = (n1 : Int) := n_ofNat ev7 (by omega)
          refine r_alen1 (n := n1) C v7 hk1 h13_1 ht1 hn1 h9_1 ev7 (oDec_at oX12_isHere 34 rfl) ?_
          refine r_pc C 69 rfl ?_
          refine r_icmp_eq C 74 (oDec_at oX12_isHere 35 rfl) (by decide) (fun cd8 => ?_) (fun cd8 => ?_)
          · skip
            refine r_iconst C (oDec_at oX12_isHere 38 rfl) (v := k0) (by rw [qk0]; rfl) ?_
            refine r_istore_n C (lv' := [(0, .ref (oad E 71)), (1, .ref (oad E c1)), (2, .int x2), (3, .int k0)]) [1, 2, 3, 0] (oDec_at oX12_isHere 39 rfl) rfl (by decide) rfl ?_
            have lk9 : ((t).1 71 2).toInt = v4.toInt := congrArg Int32.toInt (ev4)
            have lk10 : ((t).1 71 3).toInt = v1.toInt := congrArg Int32.toInt (ev1)
            refine r_pick C [0, 1, 3] rfl ?_
            exact (ih (n - 1) (by omega)).2 (t) k0  iv0 (by omega) (by omega) (by omega) (by exact iv4) (by first | exact iv5 | (rw [show oqSk g a + (n1 : Int) = x2.toInt by omega]; exact hnl)) (by first | exact oqEq_0 (by omega)) (by omega) (by omega) (by omega)
          · skip
            have hH : oqH g a b i = 0 := oqH_0 (fun h => by have h9 := oqIs_W hp4 h.1 iv5 hnl (by omega); omega)
            refine r_iconst C (oDec_at oX12_isHere 36 rfl) (v := k0) (by rw [qk0]; rfl) ?_
            have lk11 : ((t).1 71 2).toInt = v4.toInt := congrArg Int32.toInt (ev4)
            have lk12 : ((t).1 71 2).toInt = v4.toInt := congrArg Int32.toInt (ev4)
            exact r_zret C (n_bool (by omega)) (oDec_at oX12_isHere 37 rfl) ⟨_, rfl, ⟨by omega, by omega, by omega, by omega, by omega, by omega, by omega⟩⟩
        · skip
          refine r_aload_n C (j := 0) (oDec_at oX12_isHere 21 rfl) rfl rfl ?_
          refine r_getF (k := 0) (b := 72) C oCl12 rfl (by decide) flX12_7 rfl rfl rfl (oDec_at oX12_isHere 22 rfl) ?_
          refine r_iload_n C (j := 2) (oDec_at oX12_isHere 23 rfl) rfl rfl ?_
          obtain ⟨v14, ev14⟩ : ∃ z : Int32, (t).1 72 x2.toNatClampNeg = z := ⟨_, rfl⟩
          have gv14 : (t.1 72 x2.toNatClampNeg).toInt = v14.toInt := congrArg Int32.toInt (ev14)
          refine r_iald (n := 1600) (lo := 0) (hi := 255) C v14 rfl (by decide) rfl rfl ⟨by omega, by omega⟩ (by decide) ev14 rfl rfl (oDec_at oX12_isHere 24 rfl) (fun b13 b13h => ?_)
          have hg49 := oqZ_at iv0 ev14 (a := x2.toInt) (by omega) (by omega) (by omega)
          refine r_callSi C miX12_isLetter mlX12_189 (ct_X12_isLetter l E (t) v14 ) (by decide) rfl rfl rfl (Nat.le_of_ble_eq_true rfl) (oDec_at oX12_isHere 25 rfl) (fun r16 u15 pu15 fu15 => ?_)
          try dsimp only at pu15
          obtain ⟨pu15_0, pu15_1⟩ := pu15
          have hxu15 := oFr_nil fu15; subst hxu15
          have rr16 := n_rng r16
          refine r_if_eq C 61 (oDec_at oX12_isHere 26 rfl) (by decide) (fun cd17 => ?_) (fun cd17 => ?_)
          · skip
            have hnl : ¬ (97 ≤ g x2.toInt ∧ g x2.toInt ≤ 122) := by first | omega | (have h9 := oqZ_no iv0 (a := x2.toInt) (by omega); omega)
            refine r_iload_n C (j := 2) (oDec_at oX12_isHere 29 rfl) rfl rfl ?_
            refine r_aload_n C (j := 0) (oDec_at oX12_isHere 30 rfl) rfl rfl ?_
            obtain ⟨v18, ev18⟩ : ∃ z : Int32, (t).1 71 2 = z := ⟨_, rfl⟩
            have gv18 : (t.1 71 2).toInt = v18.toInt := congrArg Int32.toInt (ev18)
            refine r_geti (k := 2) (lo := 0) (hi := 1600) C v18 oCl12 rfl (by decide) flX12_179 rfl rfl (ev18) rfl rfl (oDec_at oX12_isHere 31 rfl) (fun b19 b19h => ?_)
            obtain ⟨v20, ev20⟩ : ∃ z : Int32, z = x2 - v18 := ⟨_, rfl⟩
            have hv20 : v20.toInt = x2.toInt - v18.toInt := n_sub ev20 (by omega) (by omega)
            refine r_isub C v20 (oDec_at oX12_isHere 32 rfl) ev20 ?_
            refine r_aload_n C (j := 1) (oDec_at oX12_isHere 33 rfl) rfl rfl ?_
            obtain ⟨v21, ev21⟩ : ∃ z : Int32, Int32.ofNat n1 = z := ⟨_, rfl⟩
            have hv21 : v21.toInt = (n1 : Int) := n_ofNat ev21 (by omega)
            refine r_alen1 (n := n1) C v21 hk1 h13_1 ht1 hn1 h9_1 ev21 (oDec_at oX12_isHere 34 rfl) ?_
            refine r_pc C 69 rfl ?_
            refine r_icmp_eq C 74 (oDec_at oX12_isHere 35 rfl) (by decide) (fun cd22 => ?_) (fun cd22 => ?_)
            · skip
              refine r_iconst C (oDec_at oX12_isHere 38 rfl) (v := k0) (by rw [qk0]; rfl) ?_
              refine r_istore_n C (lv' := [(0, .ref (oad E 71)), (1, .ref (oad E c1)), (2, .int x2), (3, .int k0)]) [1, 2, 3, 0] (oDec_at oX12_isHere 39 rfl) rfl (by decide) rfl ?_
              have lk23 : ((t).1 71 2).toInt = v18.toInt := congrArg Int32.toInt (ev18)
              have lk24 : ((t).1 71 3).toInt = v1.toInt := congrArg Int32.toInt (ev1)
              refine r_pick C [0, 1, 3] rfl ?_
              exact (ih (n - 1) (by omega)).2 (t) k0  iv0 (by omega) (by omega) (by omega) (by exact iv4) (by first | exact iv5 | (rw [show oqSk g a + (n1 : Int) = x2.toInt by omega]; exact hnl)) (by first | exact oqEq_0 (by omega)) (by omega) (by omega) (by omega)
            · skip
              have hH : oqH g a b i = 0 := oqH_0 (fun h => by have h9 := oqIs_W hp4 h.1 iv5 hnl (by omega); omega)
              refine r_iconst C (oDec_at oX12_isHere 36 rfl) (v := k0) (by rw [qk0]; rfl) ?_
              have lk25 : ((t).1 71 2).toInt = v18.toInt := congrArg Int32.toInt (ev18)
              have lk26 : ((t).1 71 2).toInt = v18.toInt := congrArg Int32.toInt (ev18)
              exact r_zret C (n_bool (by omega)) (oDec_at oX12_isHere 37 rfl) ⟨_, rfl, ⟨by omega, by omega, by omega, by omega, by omega, by omega, by omega⟩⟩
          · skip
            obtain ⟨v27, ev27⟩ : ∃ z : Int32, x2 + Int32.ofInt 1 = z := ⟨_, rfl⟩
            have hv27 : v27.toInt = x2.toInt + 1 := n_inc ev27 (by decide) (by omega) (by omega)
            refine r_iinc C (j := 2) (lv' := [(0, .ref (oad E 71)), (1, .ref (oad E c1)), (2, .int v27)]) v27 [1, 2, 0] (oDec_at oX12_isHere 27 rfl) rfl ev27 (by decide) rfl ?_
            refine r_goto C (tgt := 35) (oDec_at oX12_isHere 28 rfl) (by decide) ?_
            have lk28 : ((t).1 71 3).toInt = v1.toInt := congrArg Int32.toInt (ev1)
            exact (ih (n - 1) (by omega)).1 (t) v27  iv0 (by omega) (by omega) (by omega) (by first | exact iv4) (by first | exact oqRun_nx iv5 (by omega) (by omega) | (rw [show (v27).toInt = oqSk g a by omega]; exact oqRun_0)) (by omega) (by omega) (by omega)
      · intro t x3  iv0 iv1 iv2 iv3 iv4 iv5 iv6 iv7 iv8 hmu
        have rx3 := n_rng x3
        have hn3 := n_nat x3
        refine r_iload_n C (j := 2) (oDec_at oX12_isHere 40 rfl) rfl rfl ?_
        refine r_aload_n C (j := 1) (oDec_at oX12_isHere 41 rfl) rfl rfl ?_
        obtain ⟨v29, ev29⟩ : ∃ z : Int32, Int32.ofNat n1 = z := ⟨_, rfl⟩
        have hv29 : v29.toInt = (n1 : Int) := n_ofNat ev29 (by omega)
        refine r_alen1 (n := n1) C v29 hk1 h13_1 ht1 hn1 h9_1 ev29 (oDec_at oX12_isHere 42 rfl) ?_
        refine r_icmp_ge C 107 (oDec_at oX12_isHere 43 rfl) (by decide) (fun cd30 => ?_) (fun cd30 => ?_)
        · skip
          have hH : oqH g a b i = 1 := oqH_1 (oqEq_is iv6 (by omega) hp5 iv5) (by omega)
          refine r_iconst C (oDec_at oX12_isHere 59 rfl) (v := k1) (by rw [qk1]; rfl) ?_
          exact r_zret C (n_bool (by omega)) (oDec_at oX12_isHere 60 rfl) ⟨_, rfl, ⟨by omega, by omega, by omega, by omega, by omega, by omega, by omega⟩⟩
        · skip
          refine r_aload_n C (j := 0) (oDec_at oX12_isHere 44 rfl) rfl rfl ?_
          refine r_getF (k := 0) (b := 72) C oCl12 rfl (by decide) flX12_7 rfl rfl rfl (oDec_at oX12_isHere 45 rfl) ?_
          refine r_aload_n C (j := 0) (oDec_at oX12_isHere 46 rfl) rfl rfl ?_
          obtain ⟨v31, ev31⟩ : ∃ z : Int32, (t).1 71 2 = z := ⟨_, rfl⟩
          have gv31 : (t.1 71 2).toInt = v31.toInt := congrArg Int32.toInt (ev31)
          refine r_geti (k := 2) (lo := 0) (hi := 1600) C v31 oCl12 rfl (by decide) flX12_179 rfl rfl (ev31) rfl rfl (oDec_at oX12_isHere 47 rfl) (fun b32 b32h => ?_)
          refine r_iload_n C (j := 2) (oDec_at oX12_isHere 48 rfl) rfl rfl ?_
          obtain ⟨v33, ev33⟩ : ∃ z : Int32, z = v31 + x3 := ⟨_, rfl⟩
          have hv33 : v33.toInt = v31.toInt + x3.toInt := n_add ev33 (by omega) (by omega)
          refine r_iadd C v33 (oDec_at oX12_isHere 49 rfl) ev33 ?_
          refine r_pc C 92 rfl ?_
          obtain ⟨v35, ev35⟩ : ∃ z : Int32, (t).1 72 v33.toNatClampNeg = z := ⟨_, rfl⟩
          have gv35 : (t.1 72 v33.toNatClampNeg).toInt = v35.toInt := congrArg Int32.toInt (ev35)
          refine r_iald (n := 1600) (lo := 0) (hi := 255) C v35 rfl (by decide) rfl rfl ⟨by omega, by omega⟩ (by decide) ev35 rfl rfl (oDec_at oX12_isHere 50 rfl) (fun b34 b34h => ?_)
          have hg93 := oqZ_at iv0 ev35 (a := oqSk g a + (x3.toNatClampNeg : Int)) (by omega) (by omega) (by omega)
          refine r_aload_n C (j := 1) (oDec_at oX12_isHere 51 rfl) rfl rfl ?_
          refine r_iload_n C (j := 2) (oDec_at oX12_isHere 52 rfl) rfl rfl ?_
          obtain ⟨v37, ev37⟩ : ∃ z : Int32, (t).1 c1 x3.toNatClampNeg = z := ⟨_, rfl⟩
          have gv37 : (t.1 c1 x3.toNatClampNeg).toInt = v37.toInt := congrArg Int32.toInt (ev37)
          have rv37 := n_rng v37
          refine r_cald (n := n1)  C v37 hk1 h13_1 ht1 hn1 ⟨by omega, by omega⟩ h9_1 ev37 rfl rfl (oDec_at oX12_isHere 53 rfl) (fun _ _ => ?_)
          have rv37 := n_rng v37
          have hw96 := iv4 x3.toNatClampNeg (by omega)
          refine r_icmp_eq C 101 (oDec_at oX12_isHere 54 rfl) (by decide) (fun cd38 => ?_) (fun cd38 => ?_)
          · skip
            obtain ⟨v39, ev39⟩ : ∃ z : Int32, x3 + Int32.ofInt 1 = z := ⟨_, rfl⟩
            have hv39 : v39.toInt = x3.toInt + 1 := n_inc ev39 (by decide) (by omega) (by omega)
            refine r_iinc C (j := 2) (lv' := [(0, .ref (oad E 71)), (1, .ref (oad E c1)), (3, .int v39)]) v39 [1, 2, 0] (oDec_at oX12_isHere 57 rfl) rfl ev39 (by decide) rfl ?_
            refine r_goto C (tgt := 76) (oDec_at oX12_isHere 58 rfl) (by decide) ?_
            have lk40 : ((t).1 71 2).toInt = v31.toInt := congrArg Int32.toInt (ev31)
            exact (ih (n - 1) (by omega)).2 (t) v39  iv0 (by omega) (by omega) (by omega) (by exact iv4) (by first | exact iv5) (by first | exact oqEq_nx (k := x3.toNatClampNeg) iv6 (by omega) (by omega) (by omega) | exact oqEq_0 (by omega)) (by omega) (by omega) (by omega)
          · skip
            have hH : oqH g a b i = 0 := oqH_0 (fun h => by have h9 := h.1.1 x3.toNatClampNeg (by omega); omega)
            refine r_iconst C (oDec_at oX12_isHere 55 rfl) (v := k0) (by rw [qk0]; rfl) ?_
            have lk41 : ((t).1 71 2).toInt = v31.toInt := congrArg Int32.toInt (ev31)
            have lk42 : ((t).1 71 2).toInt = v31.toInt := congrArg Int32.toInt (ev31)
            exact r_zret C (n_bool (by omega)) (oDec_at oX12_isHere 56 rfl) ⟨_, rfl, ⟨by omega, by omega, by omega, by omega, by omega, by omega, by omega⟩⟩
  refine r_aload_n C (j := 0) (oDec_at oX12_isHere 0 rfl) rfl rfl ?_
  obtain ⟨v43, ev43⟩ : ∃ z : Int32, (s).1 71 5 = z := ⟨_, rfl⟩
  have gv43 : (s.1 71 5).toInt = v43.toInt := congrArg Int32.toInt (ev43)
  have rv43 := n_rng v43
  refine r_geti (k := 5) (lo := (-2147483648)) (hi := 2147483647) C v43 oCl12 rfl (by decide) flX12_173 rfl rfl (ev43) rfl rfl (oDec_at oX12_isHere 1 rfl) (fun _ _ => ?_)
  refine r_if_ne C 28 (oDec_at oX12_isHere 2 rfl) (by decide) (fun cd44 => ?_) (fun cd44 => ?_)
  · skip
    have hH : oqH g a b i = 0 := oqH_0 (fun h => by have h8 := oqIs_let hp4 h.1; have h9 := h.2; omega)
    refine r_iconst C (oDec_at oX12_isHere 12 rfl) (v := k0) (by rw [qk0]; rfl) ?_
    exact r_zret C (n_bool (by omega)) (oDec_at oX12_isHere 13 rfl) ⟨_, rfl, ⟨by omega, by omega, by omega, by omega, by omega, by omega, by omega⟩⟩
  · skip
    refine r_aload_n C (j := 0) (oDec_at oX12_isHere 3 rfl) rfl rfl ?_
    refine r_callVi C oCl12 rfl miX12_look mlX12_185 (ct4_X12_look l E (s)  (g) (a) (by omega) hp2) (by decide) rfl rfl rfl (Nat.le_of_ble_eq_true rfl) (oDec_at oX12_isHere 4 rfl) (fun r46 u45 pu45 fu45 => ?_)
    try dsimp only at pu45
    obtain ⟨pu45_0, pu45_1, pu45_2, pu45_3, pu45_4, pu45_5⟩ := pu45
    have rr46 := n_rng r46
    refine r_callSi C miX12_isLetter mlX12_189 (ct_X12_isLetter l E (u45) r46 ) (by decide) rfl rfl rfl (Nat.le_of_ble_eq_true rfl) (oDec_at oX12_isHere 5 rfl) (fun r48 u47 pu47 fu47 => ?_)
    try dsimp only at pu47
    obtain ⟨pu47_0, pu47_1⟩ := pu47
    have hxu47 := oFr_nil fu47; subst hxu47
    have rr48 := n_rng r48
    refine r_if_eq C 28 (oDec_at oX12_isHere 6 rfl) (by decide) (fun cd49 => ?_) (fun cd49 => ?_)
    · skip
      have hH : oqH g a b i = 0 := oqH_0 (fun h => by have h8 := oqIs_let hp4 h.1; have h9 := h.2; omega)
      refine r_iconst C (oDec_at oX12_isHere 12 rfl) (v := k0) (by rw [qk0]; rfl) ?_
      exact r_zret C (n_bool (by omega)) (oDec_at oX12_isHere 13 rfl) ⟨_, rfl, ⟨by omega, by omega, by omega, by omega, by omega, by omega, by omega⟩⟩
    · skip
      refine r_aload_n C (j := 0) (oDec_at oX12_isHere 7 rfl) rfl rfl ?_
      obtain ⟨v50, ev50⟩ : ∃ z : Int32, (u45).1 71 2 = z := ⟨_, rfl⟩
      have gv50 : (u45.1 71 2).toInt = v50.toInt := congrArg Int32.toInt (ev50)
      refine r_geti (k := 2) (lo := 0) (hi := 1600) C v50 oCl12 rfl (by decide) flX12_179 rfl rfl (ev50) rfl rfl (oDec_at oX12_isHere 8 rfl) (fun b51 b51h => ?_)
      refine r_aload_n C (j := 0) (oDec_at oX12_isHere 9 rfl) rfl rfl ?_
      obtain ⟨v52, ev52⟩ : ∃ z : Int32, (u45).1 71 4 = z := ⟨_, rfl⟩
      have gv52 : (s.1 71 4).toInt = v52.toInt := congrArg Int32.toInt (((fu45 71 4 rfl).1).symm.trans ev52)
      have ggv52 : ((u45).1 71 4).toInt = v52.toInt := congrArg Int32.toInt ev52
      refine r_geti (k := 4) (lo := (-1)) (hi := 1600) C v52 oCl12 rfl (by decide) flX12_193 rfl rfl (ev52) rfl rfl (oDec_at oX12_isHere 10 rfl) (fun b53 b53h => ?_)
      refine r_icmp_ne C 30 (oDec_at oX12_isHere 11 rfl) (by decide) (fun cd54 => ?_) (fun cd54 => ?_)
      · skip
        refine r_aload_n C (j := 0) (oDec_at oX12_isHere 14 rfl) rfl rfl ?_
        refine r_geti (k := 2) (lo := 0) (hi := 1600) C v50 oCl12 rfl (by decide) flX12_179 rfl rfl (ev50) rfl rfl (oDec_at oX12_isHere 15 rfl) (fun _ _ => ?_)
        refine r_istore_n C (lv' := [(0, .ref (oad E 71)), (1, .ref (oad E c1)), (2, .int v50)]) [1, 2, 0] (oDec_at oX12_isHere 16 rfl) rfl (by decide) rfl ?_
        have lk55 : ((u45).1 71 2).toInt = v50.toInt := congrArg Int32.toInt (ev50)
        have lk56 : ((u45).1 71 3).toInt = (s.1 71 3).toInt := congrArg Int32.toInt ((fu45 71 3 rfl).1)
        exact (key (10000 - v50.toInt).toNat).1 (u45) v50  (oqZ_fr fu45 rfl hp2) (by omega) (by omega) (by omega) (by first | exact fun j hj => by rw [oqW_fr fu45 hk1 h13_1]; exact hp6 j hj) (by first | (rw [show (v50).toInt = oqSk g a by omega]; exact oqRun_0)) (by omega) (by omega) (by omega)
      · skip
        have hH : oqH g a b i = 0 := oqH_0 (fun h => by have h8 := oqIs_let hp4 h.1; have h9 := h.2; omega)
        refine r_iconst C (oDec_at oX12_isHere 12 rfl) (v := k0) (by rw [qk0]; rfl) ?_
        have lk57 : ((u45).1 71 2).toInt = v50.toInt := congrArg Int32.toInt (ev50)
        have lk58 : ((u45).1 71 2).toInt = v50.toInt := congrArg Int32.toInt (ev50)
        exact r_zret C (n_bool (by omega)) (oDec_at oX12_isHere 13 rfl) ⟨_, rfl, ⟨by omega, by omega, by omega, by omega, by omega, by omega, by omega⟩⟩
set_option maxHeartbeats 4000000 in
set_option maxRecDepth 100000 in
theorem ct4_X12_takes (l : Launch) (E : oE) (s : oS) (c1 q1 n1 : Nat) (hk1 : okd c1 = q1) (h13_1 : 13 ≤ q1) (h9_1 : q1 < 999) (ht1 : oat q1 = 1) (hn1 : oln q1 = n1) (g : Int → Int) (a : Int) (b : Int) (i : Nat) (hp0 : (s.1 71 2).toInt = a) (hp1 : (s.1 71 4).toInt = b) (hp2 : oqZ g s) (hp3 : (s.1 71 5).toInt = 0) (hp4 : i < 26) (hp5 : n1 = oqWl i) (hp6 : ∀ j : Nat, j < oqWl i → (s.1 c1 j).toInt = oqWc i j) (hp7 : 2 ≤ n1 ∧ n1 ≤ 7) : oMet l 3 yX12_takes cX12_takes 2 (some .boolean) [(12, 2), (12, 4)] E s [.ref (oad E 71), .ref (oad E c1)] (oPi (fun r u => (0 ≤ r.toInt ∧ r.toInt ≤ 1) ∧ (r.toInt = 1 → (oqH g a b i = 1 ∧ (u.1 71 2).toInt = oqHa g a i ∧ (u.1 71 4).toInt = oqHa g a i)) ∧ (r.toInt = 0 → (oqH g a b i = 0 ∧ (u.1 71 2).toInt = oqSk g a ∧ (u.1 71 4).toInt = b)) ∧ (g (oqSk g a) ≠ 32 ∧ g (oqSk g a) ≠ 10))) := by
  refine oMet.of (lv := [(0, .ref (oad E 71)), (1, .ref (oad E c1))]) (by decide +kernel) (Nat.le_of_ble_eq_true rfl) rfl (fun J C hT => ?_)
  have C : oC l 3 cX12_takes RX12 2 (some .boolean) [(12, 2), (12, 4)] E s (oPi (fun r u => (0 ≤ r.toInt ∧ r.toInt ≤ 1) ∧ (r.toInt = 1 → (oqH g a b i = 1 ∧ (u.1 71 2).toInt = oqHa g a i ∧ (u.1 71 4).toInt = oqHa g a i)) ∧ (r.toInt = 0 → (oqH g a b i = 0 ∧ (u.1 71 2).toInt = oqSk g a ∧ (u.1 71 4).toInt = b)) ∧ (g (oqSk g a) ≠ 32 ∧ g (oqSk g a) ≠ 10))) J := C
  obtain ⟨k0, qk0⟩ : ∃ z : Int32, z = 0 := ⟨_, rfl⟩
  have ek0 : k0.toInt = 0 := by rw [qk0]; rfl
  obtain ⟨k1, qk1⟩ : ∃ z : Int32, z = 1 := ⟨_, rfl⟩
  have ek1 : k1.toInt = 1 := by rw [qk1]; rfl
  have hHa : oqHa g a i = oqSk g a + (oqWl i : Int) := rfl
  refine r_aload_n C (j := 0) (oDec_at oX12_takes 0 rfl) rfl rfl ?_
  refine r_aload_n C (j := 1) (oDec_at oX12_takes 1 rfl) rfl rfl ?_
  refine r_callVi C oCl12 rfl miX12_isHere mlX12_196 (ct4_X12_isHere l E (s) c1 q1 n1 hk1 h13_1 h9_1 ht1 hn1 (g) (a) (b) (i) (by omega) (by omega) hp2 (by omega) (by omega) (by omega) hp6 (by omega)) (by decide) rfl rfl rfl (Nat.le_of_ble_eq_true rfl) (oDec_at oX12_takes 2 rfl) (fun r2 u1 pu1 fu1 => ?_)
  try dsimp only at pu1
  obtain ⟨pu1_0, pu1_1, pu1_2, pu1_3, pu1_4, pu1_5, pu1_6⟩ := pu1
  have rr2 := n_rng r2
  refine r_if_ne C 10 (oDec_at oX12_takes 3 rfl) (by decide) (fun cd3 => ?_) (fun cd3 => ?_)
  · skip
    replace pu1_4 := pu1_4 (by omega)
    clear pu1_5
    replace pu1_6 := pu1_6 (by omega)
    refine r_aload_n C (j := 0) (oDec_at oX12_takes 6 rfl) rfl rfl ?_
    refine r_dup C (oDec_at oX12_takes 7 rfl) rfl ?_
    obtain ⟨v4, ev4⟩ : ∃ z : Int32, (u1).1 71 2 = z := ⟨_, rfl⟩
    have gv4 : (u1.1 71 2).toInt = v4.toInt := congrArg Int32.toInt (ev4)
    refine r_geti (k := 2) (lo := 0) (hi := 1600) C v4 oCl12 rfl (by decide) flX12_179 rfl rfl (ev4) rfl rfl (oDec_at oX12_takes 8 rfl) (fun b5 b5h => ?_)
    refine r_aload_n C (j := 1) (oDec_at oX12_takes 9 rfl) rfl rfl ?_
    obtain ⟨v6, ev6⟩ : ∃ z : Int32, Int32.ofNat n1 = z := ⟨_, rfl⟩
    have hv6 : v6.toInt = (n1 : Int) := n_ofNat ev6 (by omega)
    refine r_alen1 (n := n1) C v6 hk1 h13_1 ht1 hn1 h9_1 ev6 (oDec_at oX12_takes 10 rfl) ?_
    obtain ⟨v7, ev7⟩ : ∃ z : Int32, z = v4 + v6 := ⟨_, rfl⟩
    have hv7 : v7.toInt = v4.toInt + v6.toInt := n_add ev7 (by omega) (by omega)
    refine r_iadd C v7 (oDec_at oX12_takes 11 rfl) ev7 ?_
    refine r_pc C 18 rfl ?_
    refine r_puti (k := 2) (lo := 0) (hi := 1600) C oCl12 rfl (by decide) flX12_179 rfl rfl rfl rfl rfl rfl rfl rfl ⟨by omega, by omega⟩ (oDec_at oX12_takes 12 rfl) ?_
    refine r_aload_n C (j := 0) (oDec_at oX12_takes 13 rfl) rfl rfl ?_
    refine r_aload_n C (j := 0) (oDec_at oX12_takes 14 rfl) rfl rfl ?_
    refine r_geti (k := 2) (lo := 0) (hi := 1600) C v7 oCl12 rfl (by decide) flX12_179 rfl rfl ((pI_self _ _ _ _)) rfl rfl (oDec_at oX12_takes 15 rfl) (fun _ _ => ?_)
    refine r_puti (k := 4) (lo := (-1)) (hi := 1600) C oCl12 rfl (by decide) flX12_193 rfl rfl rfl rfl rfl rfl rfl rfl ⟨by omega, by omega⟩ (oDec_at oX12_takes 16 rfl) ?_
    refine r_iconst C (oDec_at oX12_takes 17 rfl) (v := k1) (by rw [qk1]; rfl) ?_
    refine r_pc C 30 rfl ?_
    have lk8 : (((pI (pI u1 71 2 v7) 71 4 v7)).1 71 2).toInt = v7.toInt := congrArg Int32.toInt (((pI_ne (a := 71) (b := 2) (c := 71) (k := 4) _ _ (Or.inr (by decide)))).trans ((pI_self _ _ _ _)))
    have lk9 : (((pI (pI u1 71 2 v7) 71 4 v7)).1 71 4).toInt = v7.toInt := congrArg Int32.toInt ((pI_self _ _ _ _))
    have lk10 : (((pI (pI u1 71 2 v7) 71 4 v7)).1 71 2).toInt = v7.toInt := congrArg Int32.toInt (((pI_ne (a := 71) (b := 2) (c := 71) (k := 4) _ _ (Or.inr (by decide)))).trans ((pI_self _ _ _ _)))
    have lk11 : (((pI (pI u1 71 2 v7) 71 4 v7)).1 71 4).toInt = v7.toInt := congrArg Int32.toInt ((pI_self _ _ _ _))
    exact r_zret C (n_bool (by omega)) (oDec_at oX12_takes 18 rfl) ⟨_, rfl, ⟨by omega, by omega, by omega, by omega⟩⟩
  · skip
    clear pu1_4
    replace pu1_5 := pu1_5 (by omega)
    clear pu1_6
    refine r_iconst C (oDec_at oX12_takes 4 rfl) (v := k0) (by rw [qk0]; rfl) ?_
    have lk12 : ((u1).1 71 4).toInt = (s.1 71 4).toInt := congrArg Int32.toInt ((fu1 71 4 rfl).1)
    have lk13 : ((u1).1 71 4).toInt = (s.1 71 4).toInt := congrArg Int32.toInt ((fu1 71 4 rfl).1)
    exact r_zret C (n_bool (by omega)) (oDec_at oX12_takes 5 rfl) ⟨_, rfl, ⟨by omega, by omega, by omega, by omega⟩⟩
set_option maxHeartbeats 4000000 in
set_option maxRecDepth 100000 in
theorem ct4_X12_asks (l : Launch) (E : oE) (s : oS) (c1 q1 n1 : Nat) (hk1 : okd c1 = q1) (h13_1 : 13 ≤ q1) (h9_1 : q1 < 999) (ht1 : oat q1 = 1) (hn1 : oln q1 = n1) (g : Int → Int) (a : Int) (b : Int) (i : Nat) (hp0 : (s.1 71 5).toInt = 0 → ((s.1 71 2).toInt = a ∧ (s.1 71 4).toInt = b)) (hp1 : oqZ g s) (hp2 : i < 26) (hp3 : n1 = oqWl i) (hp4 : ∀ j : Nat, j < oqWl i → (s.1 c1 j).toInt = oqWc i j) (hp5 : 2 ≤ n1 ∧ n1 ≤ 7) : oMet l 4 yX12_asks cX12_asks 2 none [(12, 2), (12, 4), (12, 5), (12, 6)] E s [.ref (oad E 71), .ref (oad E c1)] (oPv (fun u => ((u.1 71 5).toInt = 0 → ((s.1 71 5).toInt = 0 ∧ oqH g a b i = 1 ∧ (u.1 71 2).toInt = oqHa g a i ∧ (u.1 71 4).toInt = oqHa g a i ∧ (u.1 71 6).toInt = (s.1 71 6).toInt)) ∧ ((u.1 71 5).toInt ≠ 0 → (((s.1 71 5).toInt = 0 ∧ oqH g a b i = 0 ∧ (u.1 71 5).toInt = 1 ∧ (u.1 71 6).toInt = oqSk g a) ∨ ((s.1 71 5).toInt ≠ 0 ∧ (u.1 71 5).toInt = (s.1 71 5).toInt ∧ (u.1 71 6).toInt = (s.1 71 6).toInt))))) := by
  refine oMet.of (lv := [(0, .ref (oad E 71)), (1, .ref (oad E c1))]) (by decide +kernel) (Nat.le_of_ble_eq_true rfl) rfl (fun J C hT => ?_)
  have C : oC l 4 cX12_asks RX12 2 none [(12, 2), (12, 4), (12, 5), (12, 6)] E s (oPv (fun u => ((u.1 71 5).toInt = 0 → ((s.1 71 5).toInt = 0 ∧ oqH g a b i = 1 ∧ (u.1 71 2).toInt = oqHa g a i ∧ (u.1 71 4).toInt = oqHa g a i ∧ (u.1 71 6).toInt = (s.1 71 6).toInt)) ∧ ((u.1 71 5).toInt ≠ 0 → (((s.1 71 5).toInt = 0 ∧ oqH g a b i = 0 ∧ (u.1 71 5).toInt = 1 ∧ (u.1 71 6).toInt = oqSk g a) ∨ ((s.1 71 5).toInt ≠ 0 ∧ (u.1 71 5).toInt = (s.1 71 5).toInt ∧ (u.1 71 6).toInt = (s.1 71 6).toInt))))) J := C
  obtain ⟨k1, qk1⟩ : ∃ z : Int32, z = 1 := ⟨_, rfl⟩
  have ek1 : k1.toInt = 1 := by rw [qk1]; rfl
  refine r_aload_n C (j := 0) (oDec_at oX12_asks 0 rfl) rfl rfl ?_
  obtain ⟨v1, ev1⟩ : ∃ z : Int32, (s).1 71 5 = z := ⟨_, rfl⟩
  have gv1 : (s.1 71 5).toInt = v1.toInt := congrArg Int32.toInt (ev1)
  have rv1 := n_rng v1
  refine r_geti (k := 5) (lo := (-2147483648)) (hi := 2147483647) C v1 oCl12 rfl (by decide) flX12_173 rfl rfl (ev1) rfl rfl (oDec_at oX12_asks 1 rfl) (fun _ _ => ?_)
  refine r_if_ne C 24 (oDec_at oX12_asks 2 rfl) (by decide) (fun cd2 => ?_) (fun cd2 => ?_)
  · skip
    have lk3 : ((s).1 71 5).toInt = v1.toInt := congrArg Int32.toInt (ev1)
    have lk4 : ((s).1 71 5).toInt = v1.toInt := congrArg Int32.toInt (ev1)
    exact r_vret C (oDec_at oX12_asks 12 rfl) ⟨rfl, ⟨by omega, by omega⟩⟩
  · skip
    refine r_aload_n C (j := 0) (oDec_at oX12_asks 3 rfl) rfl rfl ?_
    refine r_aload_n C (j := 1) (oDec_at oX12_asks 4 rfl) rfl rfl ?_
    have lk5 : ((s).1 71 5).toInt = v1.toInt := congrArg Int32.toInt (ev1)
    refine r_callVi C oCl12 rfl miX12_takes mlX12_200 (ct4_X12_takes l E (s) c1 q1 n1 hk1 h13_1 h9_1 ht1 hn1 (g) (a) (b) (i) (by omega) (by omega) hp1 (by omega) (by omega) (by omega) hp4 (by omega)) (by decide) rfl rfl rfl (Nat.le_of_ble_eq_true rfl) (oDec_at oX12_asks 5 rfl) (fun r7 u6 pu6 fu6 => ?_)
    try dsimp only at pu6
    try simp only [lk5] at pu6
    obtain ⟨pu6_0, pu6_1, pu6_2, pu6_3⟩ := pu6
    have rr7 := n_rng r7
    refine r_if_ne C 24 (oDec_at oX12_asks 6 rfl) (by decide) (fun cd8 => ?_) (fun cd8 => ?_)
    · skip
      replace pu6_1 := pu6_1 (by omega)
      clear pu6_2
      have lk9 : ((u6).1 71 5).toInt = v1.toInt := congrArg Int32.toInt (((fu6 71 5 rfl).1).trans (ev1))
      have lk10 : ((u6).1 71 6).toInt = (s.1 71 6).toInt := congrArg Int32.toInt ((fu6 71 6 rfl).1)
      have lk11 : ((u6).1 71 5).toInt = v1.toInt := congrArg Int32.toInt (((fu6 71 5 rfl).1).trans (ev1))
      have lk12 : ((u6).1 71 6).toInt = (s.1 71 6).toInt := congrArg Int32.toInt ((fu6 71 6 rfl).1)
      exact r_vret C (oDec_at oX12_asks 12 rfl) ⟨rfl, ⟨by omega, by omega⟩⟩
    · skip
      clear pu6_1
      replace pu6_2 := pu6_2 (by omega)
      refine r_aload_n C (j := 0) (oDec_at oX12_asks 7 rfl) rfl rfl ?_
      refine r_iconst C (oDec_at oX12_asks 8 rfl) (v := k1) (by rw [qk1]; rfl) ?_
      refine r_aload_n C (j := 0) (oDec_at oX12_asks 9 rfl) rfl rfl ?_
      obtain ⟨v13, ev13⟩ : ∃ z : Int32, (u6).1 71 2 = z := ⟨_, rfl⟩
      have gv13 : (u6.1 71 2).toInt = v13.toInt := congrArg Int32.toInt (ev13)
      refine r_geti (k := 2) (lo := 0) (hi := 1600) C v13 oCl12 rfl (by decide) flX12_179 rfl rfl (ev13) rfl rfl (oDec_at oX12_asks 10 rfl) (fun b14 b14h => ?_)
      have lk15 : ((u6).1 71 5).toInt = v1.toInt := congrArg Int32.toInt (((fu6 71 5 rfl).1).trans (ev1))
      have lk16 : ((u6).1 71 5).toInt = v1.toInt := congrArg Int32.toInt (((fu6 71 5 rfl).1).trans (ev1))
      have lk17 : ((u6).1 71 6).toInt = (s.1 71 6).toInt := congrArg Int32.toInt ((fu6 71 6 rfl).1)
      refine r_callVv C oCl12 rfl miX12_fail mlX12_203 (ct4_X12_fail l E (u6) k1 v13 ) (by decide) rfl rfl rfl (Nat.le_of_ble_eq_true rfl) (oDec_at oX12_asks 11 rfl) (fun u18 pu18 fu18 => ?_)
      try dsimp only at pu18
      try simp only [lk15, lk16, lk17] at pu18
      obtain ⟨pu18_0, pu18_1⟩ := pu18
      have lk20 : ((u18).1 71 2).toInt = v13.toInt := congrArg Int32.toInt (((fu18 71 2 rfl).1).trans (ev13))
      have lk21 : ((u18).1 71 4).toInt = (u6.1 71 4).toInt := congrArg Int32.toInt ((fu18 71 4 rfl).1)
      exact r_vret C (oDec_at oX12_asks 12 rfl) ⟨rfl, ⟨by omega, by omega⟩⟩
set_option maxHeartbeats 4000000 in
set_option maxRecDepth 100000 in
theorem ct4_X12_takesSign (l : Launch) (E : oE) (s : oS) (a1 : Int32) (g : Int → Int) (a : Int) (c : Int) (hp0 : (s.1 71 5).toInt = 0 → (s.1 71 2).toInt = a) (hp1 : oqZ g s) (hp2 : a1.toInt = c) (hp3 : 0 ≤ c) : oMet l 2 yX12_takesSign cX12_takesSign 2 (some .boolean) [(12, 2)] E s [.ref (oad E 71), .int a1] (oPi (fun r u => (0 ≤ r.toInt ∧ r.toInt ≤ 1) ∧ (r.toInt = 1 → ((s.1 71 5).toInt = 0 ∧ g (oqSk g a) = c ∧ (u.1 71 2).toInt = oqSk g a + 1)) ∧ (r.toInt = 0 → (s.1 71 5).toInt = 0 → (g (oqSk g a) ≠ c ∧ (u.1 71 2).toInt = oqSk g a)) ∧ ((s.1 71 5).toInt = 0 → g (oqSk g a) ≠ 32 ∧ g (oqSk g a) ≠ 10))) := by
  refine oMet.of (lv := [(0, .ref (oad E 71)), (1, .int a1)]) (by decide +kernel) (Nat.le_of_ble_eq_true rfl) rfl (fun J C hT => ?_)
  have C : oC l 2 cX12_takesSign RX12 2 (some .boolean) [(12, 2)] E s (oPi (fun r u => (0 ≤ r.toInt ∧ r.toInt ≤ 1) ∧ (r.toInt = 1 → ((s.1 71 5).toInt = 0 ∧ g (oqSk g a) = c ∧ (u.1 71 2).toInt = oqSk g a + 1)) ∧ (r.toInt = 0 → (s.1 71 5).toInt = 0 → (g (oqSk g a) ≠ c ∧ (u.1 71 2).toInt = oqSk g a)) ∧ ((s.1 71 5).toInt = 0 → g (oqSk g a) ≠ 32 ∧ g (oqSk g a) ≠ 10))) J := C
  obtain ⟨k0, qk0⟩ : ∃ z : Int32, z = 0 := ⟨_, rfl⟩
  have ek0 : k0.toInt = 0 := by rw [qk0]; rfl
  obtain ⟨k1, qk1⟩ : ∃ z : Int32, z = 1 := ⟨_, rfl⟩
  have ek1 : k1.toInt = 1 := by rw [qk1]; rfl
  have rg1 := n_rng a1
  refine r_aload_n C (j := 0) (oDec_at oX12_takesSign 0 rfl) rfl rfl ?_
  obtain ⟨v1, ev1⟩ : ∃ z : Int32, (s).1 71 5 = z := ⟨_, rfl⟩
  have gv1 : (s.1 71 5).toInt = v1.toInt := congrArg Int32.toInt (ev1)
  have rv1 := n_rng v1
  refine r_geti (k := 5) (lo := (-2147483648)) (hi := 2147483647) C v1 oCl12 rfl (by decide) flX12_173 rfl rfl (ev1) rfl rfl (oDec_at oX12_takesSign 1 rfl) (fun _ _ => ?_)
  refine r_if_ne C 15 (oDec_at oX12_takesSign 2 rfl) (by decide) (fun cd2 => ?_) (fun cd2 => ?_)
  · skip
    refine r_iconst C (oDec_at oX12_takesSign 7 rfl) (v := k0) (by rw [qk0]; rfl) ?_
    exact r_zret C (n_bool (by omega)) (oDec_at oX12_takesSign 8 rfl) ⟨_, rfl, ⟨by omega, by omega, by omega, by omega⟩⟩
  · skip
    refine r_aload_n C (j := 0) (oDec_at oX12_takesSign 3 rfl) rfl rfl ?_
    refine r_callVi C oCl12 rfl miX12_look mlX12_185 (ct4_X12_look l E (s)  (g) (a) (by omega) hp1) (by decide) rfl rfl rfl (Nat.le_of_ble_eq_true rfl) (oDec_at oX12_takesSign 4 rfl) (fun r4 u3 pu3 fu3 => ?_)
    try dsimp only at pu3
    obtain ⟨pu3_0, pu3_1, pu3_2, pu3_3, pu3_4, pu3_5⟩ := pu3
    have rr4 := n_rng r4
    refine r_iload_n C (j := 1) (oDec_at oX12_takesSign 5 rfl) rfl rfl ?_
    refine r_icmp_eq C 17 (oDec_at oX12_takesSign 6 rfl) (by decide) (fun cd5 => ?_) (fun cd5 => ?_)
    · skip
      refine r_aload_n C (j := 0) (oDec_at oX12_takesSign 9 rfl) rfl rfl ?_
      refine r_dup C (oDec_at oX12_takesSign 10 rfl) rfl ?_
      obtain ⟨v6, ev6⟩ : ∃ z : Int32, (u3).1 71 2 = z := ⟨_, rfl⟩
      have gv6 : (u3.1 71 2).toInt = v6.toInt := congrArg Int32.toInt (ev6)
      refine r_geti (k := 2) (lo := 0) (hi := 1600) C v6 oCl12 rfl (by decide) flX12_179 rfl rfl (ev6) rfl rfl (oDec_at oX12_takesSign 11 rfl) (fun b7 b7h => ?_)
      refine r_iconst C (oDec_at oX12_takesSign 12 rfl) (v := k1) (by rw [qk1]; rfl) ?_
      obtain ⟨v8, ev8⟩ : ∃ z : Int32, z = v6 + k1 := ⟨_, rfl⟩
      have hv8 : v8.toInt = v6.toInt + k1.toInt := n_add ev8 (by omega) (by omega)
      refine r_iadd C v8 (oDec_at oX12_takesSign 13 rfl) ev8 ?_
      refine r_puti (k := 2) (lo := 0) (hi := 1600) C oCl12 rfl (by decide) flX12_179 rfl rfl rfl rfl rfl rfl rfl rfl ⟨by omega, by omega⟩ (oDec_at oX12_takesSign 14 rfl) ?_
      refine r_pc C 27 rfl ?_
      refine r_iconst C (oDec_at oX12_takesSign 15 rfl) (v := k1) (by rw [qk1]; rfl) ?_
      have lk9 : (((pI u3 71 2 v8)).1 71 2).toInt = v8.toInt := congrArg Int32.toInt ((pI_self _ _ _ _))
      have lk10 : (((pI u3 71 2 v8)).1 71 2).toInt = v8.toInt := congrArg Int32.toInt ((pI_self _ _ _ _))
      exact r_zret C (n_bool (by omega)) (oDec_at oX12_takesSign 16 rfl) ⟨_, rfl, ⟨by omega, by omega, by omega, by omega⟩⟩
    · skip
      refine r_iconst C (oDec_at oX12_takesSign 7 rfl) (v := k0) (by rw [qk0]; rfl) ?_
      exact r_zret C (n_bool (by omega)) (oDec_at oX12_takesSign 8 rfl) ⟨_, rfl, ⟨by omega, by omega, by omega, by omega⟩⟩
set_option maxHeartbeats 4000000 in
set_option maxRecDepth 100000 in
theorem ct4_X12_asksSign (l : Launch) (E : oE) (s : oS) (a1 : Int32) (g : Int → Int) (a : Int) (c : Int) (hp0 : (s.1 71 5).toInt = 0 → (s.1 71 2).toInt = a) (hp1 : oqZ g s) (hp2 : a1.toInt = c) (hp3 : 0 ≤ c) : oMet l 3 yX12_asksSign cX12_asksSign 2 none [(12, 2), (12, 5), (12, 6)] E s [.ref (oad E 71), .int a1] (oPv (fun u => ((u.1 71 5).toInt = 0 → ((s.1 71 5).toInt = 0 ∧ g (oqSk g a) = c ∧ (u.1 71 2).toInt = oqSk g a + 1 ∧ (u.1 71 6).toInt = (s.1 71 6).toInt)) ∧ ((u.1 71 5).toInt ≠ 0 → (((s.1 71 5).toInt = 0 ∧ g (oqSk g a) ≠ c ∧ (u.1 71 5).toInt = 1 ∧ (u.1 71 6).toInt = oqSk g a) ∨ ((s.1 71 5).toInt ≠ 0 ∧ (u.1 71 5).toInt = (s.1 71 5).toInt ∧ (u.1 71 6).toInt = (s.1 71 6).toInt))))) := by
  refine oMet.of (lv := [(0, .ref (oad E 71)), (1, .int a1)]) (by decide +kernel) (Nat.le_of_ble_eq_true rfl) rfl (fun J C hT => ?_)
  have C : oC l 3 cX12_asksSign RX12 2 none [(12, 2), (12, 5), (12, 6)] E s (oPv (fun u => ((u.1 71 5).toInt = 0 → ((s.1 71 5).toInt = 0 ∧ g (oqSk g a) = c ∧ (u.1 71 2).toInt = oqSk g a + 1 ∧ (u.1 71 6).toInt = (s.1 71 6).toInt)) ∧ ((u.1 71 5).toInt ≠ 0 → (((s.1 71 5).toInt = 0 ∧ g (oqSk g a) ≠ c ∧ (u.1 71 5).toInt = 1 ∧ (u.1 71 6).toInt = oqSk g a) ∨ ((s.1 71 5).toInt ≠ 0 ∧ (u.1 71 5).toInt = (s.1 71 5).toInt ∧ (u.1 71 6).toInt = (s.1 71 6).toInt))))) J := C
  obtain ⟨k1, qk1⟩ : ∃ z : Int32, z = 1 := ⟨_, rfl⟩
  have ek1 : k1.toInt = 1 := by rw [qk1]; rfl
  have rg1 := n_rng a1
  refine r_aload_n C (j := 0) (oDec_at oX12_asksSign 0 rfl) rfl rfl ?_
  obtain ⟨v1, ev1⟩ : ∃ z : Int32, (s).1 71 5 = z := ⟨_, rfl⟩
  have gv1 : (s.1 71 5).toInt = v1.toInt := congrArg Int32.toInt (ev1)
  have rv1 := n_rng v1
  refine r_geti (k := 5) (lo := (-2147483648)) (hi := 2147483647) C v1 oCl12 rfl (by decide) flX12_173 rfl rfl (ev1) rfl rfl (oDec_at oX12_asksSign 1 rfl) (fun _ _ => ?_)
  refine r_if_ne C 24 (oDec_at oX12_asksSign 2 rfl) (by decide) (fun cd2 => ?_) (fun cd2 => ?_)
  · skip
    have lk3 : ((s).1 71 5).toInt = v1.toInt := congrArg Int32.toInt (ev1)
    have lk4 : ((s).1 71 5).toInt = v1.toInt := congrArg Int32.toInt (ev1)
    exact r_vret C (oDec_at oX12_asksSign 12 rfl) ⟨rfl, ⟨by omega, by omega⟩⟩
  · skip
    refine r_aload_n C (j := 0) (oDec_at oX12_asksSign 3 rfl) rfl rfl ?_
    refine r_iload_n C (j := 1) (oDec_at oX12_asksSign 4 rfl) rfl rfl ?_
    have lk5 : ((s).1 71 5).toInt = v1.toInt := congrArg Int32.toInt (ev1)
    have lk6 : ((s).1 71 5).toInt = v1.toInt := congrArg Int32.toInt (ev1)
    have lk7 : ((s).1 71 5).toInt = v1.toInt := congrArg Int32.toInt (ev1)
    have lk8 : ((s).1 71 5).toInt = v1.toInt := congrArg Int32.toInt (ev1)
    refine r_callVi C oCl12 rfl miX12_takesSign mlX12_207 (ct4_X12_takesSign l E (s) a1 (g) (a) (c) (by omega) hp1 (by omega) (by omega)) (by decide) rfl rfl rfl (Nat.le_of_ble_eq_true rfl) (oDec_at oX12_asksSign 5 rfl) (fun r10 u9 pu9 fu9 => ?_)
    try dsimp only at pu9
    try simp only [lk5, lk6, lk7, lk8] at pu9
    obtain ⟨pu9_0, pu9_1, pu9_2, pu9_3⟩ := pu9
    have rr10 := n_rng r10
    refine r_if_ne C 24 (oDec_at oX12_asksSign 6 rfl) (by decide) (fun cd11 => ?_) (fun cd11 => ?_)
    · skip
      replace pu9_1 := pu9_1 (by omega)
      clear pu9_2
      have lk12 : ((u9).1 71 5).toInt = v1.toInt := congrArg Int32.toInt (((fu9 71 5 rfl).1).trans (ev1))
      have lk13 : ((u9).1 71 6).toInt = (s.1 71 6).toInt := congrArg Int32.toInt ((fu9 71 6 rfl).1)
      have lk14 : ((u9).1 71 5).toInt = v1.toInt := congrArg Int32.toInt (((fu9 71 5 rfl).1).trans (ev1))
      have lk15 : ((u9).1 71 6).toInt = (s.1 71 6).toInt := congrArg Int32.toInt ((fu9 71 6 rfl).1)
      exact r_vret C (oDec_at oX12_asksSign 12 rfl) ⟨rfl, ⟨by omega, by omega⟩⟩
    · skip
      clear pu9_1
      replace pu9_2 := pu9_2 (by omega)
      refine r_aload_n C (j := 0) (oDec_at oX12_asksSign 7 rfl) rfl rfl ?_
      refine r_iconst C (oDec_at oX12_asksSign 8 rfl) (v := k1) (by rw [qk1]; rfl) ?_
      refine r_aload_n C (j := 0) (oDec_at oX12_asksSign 9 rfl) rfl rfl ?_
      obtain ⟨v16, ev16⟩ : ∃ z : Int32, (u9).1 71 2 = z := ⟨_, rfl⟩
      have gv16 : (u9.1 71 2).toInt = v16.toInt := congrArg Int32.toInt (ev16)
      refine r_geti (k := 2) (lo := 0) (hi := 1600) C v16 oCl12 rfl (by decide) flX12_179 rfl rfl (ev16) rfl rfl (oDec_at oX12_asksSign 10 rfl) (fun b17 b17h => ?_)
      have lk18 : ((u9).1 71 5).toInt = v1.toInt := congrArg Int32.toInt (((fu9 71 5 rfl).1).trans (ev1))
      have lk19 : ((u9).1 71 5).toInt = v1.toInt := congrArg Int32.toInt (((fu9 71 5 rfl).1).trans (ev1))
      have lk20 : ((u9).1 71 6).toInt = (s.1 71 6).toInt := congrArg Int32.toInt ((fu9 71 6 rfl).1)
      refine r_callVv C oCl12 rfl miX12_fail mlX12_203 (ct4_X12_fail l E (u9) k1 v16 ) (by decide) rfl rfl rfl (Nat.le_of_ble_eq_true rfl) (oDec_at oX12_asksSign 11 rfl) (fun u21 pu21 fu21 => ?_)
      try dsimp only at pu21
      try simp only [lk18, lk19, lk20] at pu21
      obtain ⟨pu21_0, pu21_1⟩ := pu21
      have lk23 : ((u21).1 71 2).toInt = v16.toInt := congrArg Int32.toInt (((fu21 71 2 rfl).1).trans (ev16))
      exact r_vret C (oDec_at oX12_asksSign 12 rfl) ⟨rfl, ⟨by omega, by omega⟩⟩
set_option maxHeartbeats 4000000 in
set_option maxRecDepth 100000 in
theorem ct4_X12_number (l : Launch) (E : oE) (s : oS) (a1 : Int32) (a2 : Int32) (g : Int → Int) (a : Int) (b : Int) (lo : Int) (hi : Int) (hp0 : (s.1 71 5).toInt = 0 → ((s.1 71 2).toInt = a ∧ (s.1 71 4).toInt = b)) (hp1 : oqZ g s) (hp2 : a1.toInt = lo) (hp3 : a2.toInt = hi) : oMet l 2 yX12_number cX12_number 4 (some .int) [(12, 2), (12, 4), (12, 5), (12, 6), (12, 9)] E s [.ref (oad E 71), .int a1, .int a2] (oPi (fun r u => (0 ≤ r.toInt ∧ r.toInt ≤ 9999) ∧ ((u.1 71 5).toInt = 0 → ((s.1 71 5).toInt = 0 ∧ oqNk g a b lo hi = 0 ∧ r.toInt = oqNv g a ∧ lo ≤ r.toInt ∧ r.toInt ≤ hi ∧ (u.1 71 2).toInt = oqNa g a ∧ (u.1 71 4).toInt = oqNa g a ∧ (u.1 71 9).toInt = oqSk g a ∧ (u.1 71 6).toInt = (s.1 71 6).toInt)) ∧ ((u.1 71 5).toInt ≠ 0 → (((s.1 71 5).toInt = 0 ∧ oqNk g a b lo hi ≠ 0 ∧ (u.1 71 5).toInt = oqNk g a b lo hi ∧ (u.1 71 6).toInt = oqNp g a b) ∨ ((s.1 71 5).toInt ≠ 0 ∧ (u.1 71 5).toInt = (s.1 71 5).toInt ∧ (u.1 71 6).toInt = (s.1 71 6).toInt))))) := by
  refine oMet.of (lv := [(0, .ref (oad E 71)), (1, .int a1), (2, .int a2)]) (by decide +kernel) (Nat.le_of_ble_eq_true rfl) rfl (fun J C hT => ?_)
  have C : oC l 2 cX12_number RX12 4 (some .int) [(12, 2), (12, 4), (12, 5), (12, 6), (12, 9)] E s (oPi (fun r u => (0 ≤ r.toInt ∧ r.toInt ≤ 9999) ∧ ((u.1 71 5).toInt = 0 → ((s.1 71 5).toInt = 0 ∧ oqNk g a b lo hi = 0 ∧ r.toInt = oqNv g a ∧ lo ≤ r.toInt ∧ r.toInt ≤ hi ∧ (u.1 71 2).toInt = oqNa g a ∧ (u.1 71 4).toInt = oqNa g a ∧ (u.1 71 9).toInt = oqSk g a ∧ (u.1 71 6).toInt = (s.1 71 6).toInt)) ∧ ((u.1 71 5).toInt ≠ 0 → (((s.1 71 5).toInt = 0 ∧ oqNk g a b lo hi ≠ 0 ∧ (u.1 71 5).toInt = oqNk g a b lo hi ∧ (u.1 71 6).toInt = oqNp g a b) ∨ ((s.1 71 5).toInt ≠ 0 ∧ (u.1 71 5).toInt = (s.1 71 5).toInt ∧ (u.1 71 6).toInt = (s.1 71 6).toInt))))) J := C
  obtain ⟨k0, qk0⟩ : ∃ z : Int32, z = 0 := ⟨_, rfl⟩
  have ek0 : k0.toInt = 0 := by rw [qk0]; rfl
  obtain ⟨k1, qk1⟩ : ∃ z : Int32, z = 1 := ⟨_, rfl⟩
  have ek1 : k1.toInt = 1 := by rw [qk1]; rfl
  obtain ⟨k2, qk2⟩ : ∃ z : Int32, z = 2 := ⟨_, rfl⟩
  have ek2 : k2.toInt = 2 := by rw [qk2]; rfl
  obtain ⟨k4, qk4⟩ : ∃ z : Int32, z = 4 := ⟨_, rfl⟩
  have ek4 : k4.toInt = 4 := by rw [qk4]; rfl
  obtain ⟨k10, qk10⟩ : ∃ z : Int32, z = 10 := ⟨_, rfl⟩
  have ek10 : k10.toInt = 10 := by rw [qk10]; rfl
  obtain ⟨k48, qk48⟩ : ∃ z : Int32, z = 48 := ⟨_, rfl⟩
  have ek48 : k48.toInt = 48 := by rw [qk48]; rfl
  have rg1 := n_rng a1
  have rg2 := n_rng a2
  have htE : (0 : Int) ≤ (s.1 71 3).toInt ∧ (s.1 71 3).toInt ≤ 1600 := hT.1 71 3
  have key : ∀ n : Nat, (∀ (t : oS) (x3 : Int32), (oqZ g t) → ((t.1 71 9).toInt = oqSk g a ∧ oqSk g a ≤ (t.1 71 2).toInt ∧ (t.1 71 2).toInt ≤ oqSk g a + 4 ∧ 0 ≤ oqSk g a ∧ (t.1 71 3).toInt ≤ 1600) → ((t.1 71 5).toInt = 0 ∧ (s.1 71 5).toInt = 0 ∧ (t.1 71 6).toInt = (s.1 71 6).toInt) → (oqDs g (oqSk g a) ((t.1 71 2).toInt - oqSk g a)) → (x3.toInt = oqDv g (oqSk g a) ((t.1 71 2).toInt - oqSk g a).toNat) → (((t.1 71 2).toInt = (t.1 71 9).toInt ∧ x3.toInt = 0) ∨ ((t.1 71 2).toInt = (t.1 71 9).toInt + 1 ∧ x3.toInt ≤ 9) ∨ ((t.1 71 2).toInt = (t.1 71 9).toInt + 2 ∧ x3.toInt ≤ 99) ∨ ((t.1 71 2).toInt = (t.1 71 9).toInt + 3 ∧ x3.toInt ≤ 999) ∨ ((t.1 71 2).toInt = (t.1 71 9).toInt + 4 ∧ x3.toInt ≤ 9999)) → (0 ≤ x3.toInt) → (48 ≤ g (oqSk g a) ∧ g (oqSk g a) ≤ 57) → (oqSk g a ≠ b) → 1601 - (t.1 71 2).toInt ≤ (n : Int) → J t 51 [(0, .ref (oad E 71)), (1, .int a1), (2, .int a2), (3, .int x3)] []) := by
    intro n
    induction n using Nat.strongRecOn with
    | _ n ih =>
      skip
      · intro t x3  iv0 iv1 iv2 iv3 iv4 iv5 iv6 iv7 iv8 hmu
        have rx3 := n_rng x3
        refine r_aload_n C (j := 0) (oDec_at oX12_number 27 rfl) rfl rfl ?_
        obtain ⟨v1, ev1⟩ : ∃ z : Int32, (t).1 71 2 = z := ⟨_, rfl⟩
        have gv1 : (t.1 71 2).toInt = v1.toInt := congrArg Int32.toInt (ev1)
        refine r_geti (k := 2) (lo := 0) (hi := 1600) C v1 oCl12 rfl (by decide) flX12_179 rfl rfl (ev1) rfl rfl (oDec_at oX12_number 28 rfl) (fun b2 b2h => ?_)
        refine r_aload_n C (j := 0) (oDec_at oX12_number 29 rfl) rfl rfl ?_
        obtain ⟨v3, ev3⟩ : ∃ z : Int32, (t).1 71 3 = z := ⟨_, rfl⟩
        have gv3 : (t.1 71 3).toInt = v3.toInt := congrArg Int32.toInt (ev3)
        refine r_geti (k := 3) (lo := 0) (hi := 1600) C v3 oCl12 rfl (by decide) flX12_182 rfl rfl (ev3) rfl rfl (oDec_at oX12_number 30 rfl) (fun b4 b4h => ?_)
        refine r_icmp_ge C 132 (oDec_at oX12_number 31 rfl) (by decide) (fun cd5 => ?_) (fun cd5 => ?_)
        · skip
          have hrg := oqDn_rg g (oqSk g a)
          have hnd : ¬ (48 ≤ g (oqSk g a + ((t.1 71 2).toInt - oqSk g a)) ∧ g (oqSk g a + ((t.1 71 2).toInt - oqSk g a)) ≤ 57) := by first | omega | (have h9 := oqZ_no iv0 (a := oqSk g a + ((t.1 71 2).toInt - oqSk g a)) (by omega); omega)
          have hdn := oqDn_of iv3 (by omega) (by omega) hnd
          have hnv := oqNv_oi (g := g) (a := a) rfl hdn iv4
          have hna : oqNa g a = oqSk g a + oqDn g (oqSk g a) := rfl
          refine r_aload_n C (j := 0) (oDec_at oX12_number 72 rfl) rfl rfl ?_
          refine r_aload_n C (j := 0) (oDec_at oX12_number 73 rfl) rfl rfl ?_
          refine r_geti (k := 2) (lo := 0) (hi := 1600) C v1 oCl12 rfl (by decide) flX12_179 rfl rfl (ev1) rfl rfl (oDec_at oX12_number 74 rfl) (fun _ _ => ?_)
          refine r_puti (k := 4) (lo := (-1)) (hi := 1600) C oCl12 rfl (by decide) flX12_193 rfl rfl rfl rfl rfl rfl rfl rfl ⟨by omega, by omega⟩ (oDec_at oX12_number 75 rfl) ?_
          refine r_iload_n C (j := 3) (oDec_at oX12_number 76 rfl) rfl rfl ?_
          obtain ⟨v6, ev6⟩ : ∃ z : Int64, x3.toInt64 = z := ⟨_, rfl⟩
          have hv6 : v6.toInt = x3.toInt := n_i2l ev6
          refine r_i2l C v6 (oDec_at oX12_number 77 rfl) ev6 ?_
          refine r_pc C 142 rfl ?_
          refine r_iload_n C (j := 1) (oDec_at oX12_number 78 rfl) rfl rfl ?_
          obtain ⟨v7, ev7⟩ : ∃ z : Int64, a1.toInt64 = z := ⟨_, rfl⟩
          have hv7 : v7.toInt = a1.toInt := n_i2l ev7
          refine r_i2l C v7 (oDec_at oX12_number 79 rfl) ev7 ?_
          refine r_iload_n C (j := 2) (oDec_at oX12_number 80 rfl) rfl rfl ?_
          obtain ⟨v8, ev8⟩ : ∃ z : Int64, a2.toInt64 = z := ⟨_, rfl⟩
          have hv8 : v8.toInt = a2.toInt := n_i2l ev8
          refine r_i2l C v8 (oDec_at oX12_number 81 rfl) ev8 ?_
          refine r_callSi C miX12_isIn mlX12_216 (ct_X12_isIn l E ((pI t 71 4 v1)) v6 v7 v8 ) (by decide) rfl rfl rfl (Nat.le_of_ble_eq_true rfl) (oDec_at oX12_number 82 rfl) (fun r10 u9 pu9 fu9 => ?_)
          try dsimp only at pu9
          obtain ⟨pu9_0, pu9_1⟩ := pu9
          have hxu9 := oFr_nil fu9; subst hxu9
          have rr10 := n_rng r10
          refine r_if_ne C 161 (oDec_at oX12_number 83 rfl) (by decide) (fun cd11 => ?_) (fun cd11 => ?_)
          · skip
            refine r_iload_n C (j := 3) (oDec_at oX12_number 89 rfl) rfl rfl ?_
            have lk12 : (((pI t 71 4 v1)).1 71 5).toInt = (t.1 71 5).toInt := congrArg Int32.toInt ((pI_ne (a := 71) (b := 5) (c := 71) (k := 4) _ _ (Or.inr (by decide))))
            have lk13 : (((pI t 71 4 v1)).1 71 2).toInt = v1.toInt := congrArg Int32.toInt (((pI_ne (a := 71) (b := 2) (c := 71) (k := 4) _ _ (Or.inr (by decide)))).trans (ev1))
            have lk14 : (((pI t 71 4 v1)).1 71 4).toInt = v1.toInt := congrArg Int32.toInt ((pI_self _ _ _ _))
            have lk15 : (((pI t 71 4 v1)).1 71 9).toInt = (t.1 71 9).toInt := congrArg Int32.toInt ((pI_ne (a := 71) (b := 9) (c := 71) (k := 4) _ _ (Or.inr (by decide))))
            have lk16 : (((pI t 71 4 v1)).1 71 6).toInt = (t.1 71 6).toInt := congrArg Int32.toInt ((pI_ne (a := 71) (b := 6) (c := 71) (k := 4) _ _ (Or.inr (by decide))))
            have lk17 : (((pI t 71 4 v1)).1 71 5).toInt = (t.1 71 5).toInt := congrArg Int32.toInt ((pI_ne (a := 71) (b := 5) (c := 71) (k := 4) _ _ (Or.inr (by decide))))
            have lk18 : (((pI t 71 4 v1)).1 71 6).toInt = (t.1 71 6).toInt := congrArg Int32.toInt ((pI_ne (a := 71) (b := 6) (c := 71) (k := 4) _ _ (Or.inr (by decide))))
            exact r_iret C (oDec_at oX12_number 90 rfl) ⟨_, rfl, ⟨by omega, by first | (intro h; exfalso; omega) | (have hN := oqN_0 (g := g) (a := a) (b := b) (lo := lo) (hi := hi) (by omega) hdn (by omega) (by omega); omega), by omega⟩⟩
          · skip
            have hN := oqN_2 (g := g) (a := a) (b := b) (lo := lo) (hi := hi) (by omega) hdn (by omega) (by omega)
            refine r_aload_n C (j := 0) (oDec_at oX12_number 84 rfl) rfl rfl ?_
            refine r_iconst C (oDec_at oX12_number 85 rfl) (v := k2) (by rw [qk2]; rfl) ?_
            refine r_aload_n C (j := 0) (oDec_at oX12_number 86 rfl) rfl rfl ?_
            obtain ⟨v19, ev19⟩ : ∃ z : Int32, ((pI t 71 4 v1)).1 71 9 = z := ⟨_, rfl⟩
            have gv19 : (t.1 71 9).toInt = v19.toInt := congrArg Int32.toInt (((pI_ne (a := 71) (b := 9) (c := 71) (k := 4) _ _ (Or.inr (by decide)))).symm.trans ev19)
            have ggv19 : (((pI t 71 4 v1)).1 71 9).toInt = v19.toInt := congrArg Int32.toInt ev19
            have rv19 := n_rng v19
            refine r_geti (k := 9) (lo := (-2147483648)) (hi := 2147483647) C v19 oCl12 rfl (by decide) flX12_213 rfl rfl (ev19) rfl rfl (oDec_at oX12_number 87 rfl) (fun _ _ => ?_)
            have lk20 : (((pI t 71 4 v1)).1 71 5).toInt = (t.1 71 5).toInt := congrArg Int32.toInt ((pI_ne (a := 71) (b := 5) (c := 71) (k := 4) _ _ (Or.inr (by decide))))
            have lk21 : (((pI t 71 4 v1)).1 71 5).toInt = (t.1 71 5).toInt := congrArg Int32.toInt ((pI_ne (a := 71) (b := 5) (c := 71) (k := 4) _ _ (Or.inr (by decide))))
            have lk22 : (((pI t 71 4 v1)).1 71 6).toInt = (t.1 71 6).toInt := congrArg Int32.toInt ((pI_ne (a := 71) (b := 6) (c := 71) (k := 4) _ _ (Or.inr (by decide))))
            refine r_callVv C oCl12 rfl miX12_fail mlX12_203 (ct4_X12_fail l E ((pI t 71 4 v1)) k2 v19 ) (by decide) rfl rfl rfl (Nat.le_of_ble_eq_true rfl) (oDec_at oX12_number 88 rfl) (fun u23 pu23 fu23 => ?_)
            try dsimp only at pu23
            try simp only [lk20, lk21, lk22] at pu23
            obtain ⟨pu23_0, pu23_1⟩ := pu23
            refine r_iload_n C (j := 3) (oDec_at oX12_number 89 rfl) rfl rfl ?_
            refine r_pc C 162 rfl ?_
            have lk25 : ((u23).1 71 2).toInt = v1.toInt := congrArg Int32.toInt (((fu23 71 2 rfl).1).trans (((pI_ne (a := 71) (b := 2) (c := 71) (k := 4) _ _ (Or.inr (by decide)))).trans (ev1)))
            have lk26 : ((u23).1 71 4).toInt = v1.toInt := congrArg Int32.toInt (((fu23 71 4 rfl).1).trans ((pI_self _ _ _ _)))
            have lk27 : ((u23).1 71 9).toInt = v19.toInt := congrArg Int32.toInt (((fu23 71 9 rfl).1).trans (ev19))
            exact r_iret C (oDec_at oX12_number 90 rfl) ⟨_, rfl, ⟨by omega, by first | (intro h; exfalso; omega) | (have hN := oqN_0 (g := g) (a := a) (b := b) (lo := lo) (hi := hi) (by omega) hdn (by omega) (by omega); omega), by omega⟩⟩
        · skip
          refine r_aload_n C (j := 0) (oDec_at oX12_number 32 rfl) rfl rfl ?_
          refine r_getF (k := 0) (b := 72) C oCl12 rfl (by decide) flX12_7 rfl rfl rfl (oDec_at oX12_number 33 rfl) ?_
          refine r_aload_n C (j := 0) (oDec_at oX12_number 34 rfl) rfl rfl ?_
          refine r_geti (k := 2) (lo := 0) (hi := 1600) C v1 oCl12 rfl (by decide) flX12_179 rfl rfl (ev1) rfl rfl (oDec_at oX12_number 35 rfl) (fun _ _ => ?_)
          obtain ⟨v29, ev29⟩ : ∃ z : Int32, (t).1 72 v1.toNatClampNeg = z := ⟨_, rfl⟩
          have gv29 : (t.1 72 v1.toNatClampNeg).toInt = v29.toInt := congrArg Int32.toInt (ev29)
          refine r_iald (n := 1600) (lo := 0) (hi := 255) C v29 rfl (by decide) rfl rfl ⟨by omega, by omega⟩ (by decide) ev29 rfl rfl (oDec_at oX12_number 36 rfl) (fun b28 b28h => ?_)
          have la30 : ((t).1 72 ((t).1 71 2).toNatClampNeg).toInt = v29.toInt := by rw [ev1, ev29]
          have hg71 := oqZ_at iv0 ev29 (a := oqSk g a + ((t.1 71 2).toInt - oqSk g a)) (by omega) (by omega) (by omega)
          refine r_callSi C miX12_isDigit mlX12_210 (ct_X12_isDigit l E (t) v29 ) (by decide) rfl rfl rfl (Nat.le_of_ble_eq_true rfl) (oDec_at oX12_number 37 rfl) (fun r32 u31 pu31 fu31 => ?_)
          try dsimp only at pu31
          obtain ⟨pu31_0, pu31_1⟩ := pu31
          have hxu31 := oFr_nil fu31; subst hxu31
          have rr32 := n_rng r32
          refine r_pc C 74 rfl ?_
          refine r_if_eq C 132 (oDec_at oX12_number 38 rfl) (by decide) (fun cd33 => ?_) (fun cd33 => ?_)
          · skip
            have hrg := oqDn_rg g (oqSk g a)
            have hnd : ¬ (48 ≤ g (oqSk g a + ((t.1 71 2).toInt - oqSk g a)) ∧ g (oqSk g a + ((t.1 71 2).toInt - oqSk g a)) ≤ 57) := by first | omega | (have h9 := oqZ_no iv0 (a := oqSk g a + ((t.1 71 2).toInt - oqSk g a)) (by omega); omega)
            have hdn := oqDn_of iv3 (by omega) (by omega) hnd
            have hnv := oqNv_oi (g := g) (a := a) rfl hdn iv4
            have hna : oqNa g a = oqSk g a + oqDn g (oqSk g a) := rfl
            refine r_aload_n C (j := 0) (oDec_at oX12_number 72 rfl) rfl rfl ?_
            refine r_aload_n C (j := 0) (oDec_at oX12_number 73 rfl) rfl rfl ?_
            refine r_geti (k := 2) (lo := 0) (hi := 1600) C v1 oCl12 rfl (by decide) flX12_179 rfl rfl (ev1) rfl rfl (oDec_at oX12_number 74 rfl) (fun _ _ => ?_)
            refine r_puti (k := 4) (lo := (-1)) (hi := 1600) C oCl12 rfl (by decide) flX12_193 rfl rfl rfl rfl rfl rfl rfl rfl ⟨by omega, by omega⟩ (oDec_at oX12_number 75 rfl) ?_
            refine r_iload_n C (j := 3) (oDec_at oX12_number 76 rfl) rfl rfl ?_
            obtain ⟨v34, ev34⟩ : ∃ z : Int64, x3.toInt64 = z := ⟨_, rfl⟩
            have hv34 : v34.toInt = x3.toInt := n_i2l ev34
            refine r_i2l C v34 (oDec_at oX12_number 77 rfl) ev34 ?_
            refine r_pc C 142 rfl ?_
            refine r_iload_n C (j := 1) (oDec_at oX12_number 78 rfl) rfl rfl ?_
            obtain ⟨v35, ev35⟩ : ∃ z : Int64, a1.toInt64 = z := ⟨_, rfl⟩
            have hv35 : v35.toInt = a1.toInt := n_i2l ev35
            refine r_i2l C v35 (oDec_at oX12_number 79 rfl) ev35 ?_
            refine r_iload_n C (j := 2) (oDec_at oX12_number 80 rfl) rfl rfl ?_
            obtain ⟨v36, ev36⟩ : ∃ z : Int64, a2.toInt64 = z := ⟨_, rfl⟩
            have hv36 : v36.toInt = a2.toInt := n_i2l ev36
            refine r_i2l C v36 (oDec_at oX12_number 81 rfl) ev36 ?_
            refine r_callSi C miX12_isIn mlX12_216 (ct_X12_isIn l E ((pI t 71 4 v1)) v34 v35 v36 ) (by decide) rfl rfl rfl (Nat.le_of_ble_eq_true rfl) (oDec_at oX12_number 82 rfl) (fun r38 u37 pu37 fu37 => ?_)
            try dsimp only at pu37
            obtain ⟨pu37_0, pu37_1⟩ := pu37
            have hxu37 := oFr_nil fu37; subst hxu37
            have rr38 := n_rng r38
            refine r_if_ne C 161 (oDec_at oX12_number 83 rfl) (by decide) (fun cd39 => ?_) (fun cd39 => ?_)
            · skip
              refine r_iload_n C (j := 3) (oDec_at oX12_number 89 rfl) rfl rfl ?_
              have lk40 : (((pI t 71 4 v1)).1 71 5).toInt = (t.1 71 5).toInt := congrArg Int32.toInt ((pI_ne (a := 71) (b := 5) (c := 71) (k := 4) _ _ (Or.inr (by decide))))
              have lk41 : (((pI t 71 4 v1)).1 71 2).toInt = v1.toInt := congrArg Int32.toInt (((pI_ne (a := 71) (b := 2) (c := 71) (k := 4) _ _ (Or.inr (by decide)))).trans (ev1))
              have lk42 : (((pI t 71 4 v1)).1 71 4).toInt = v1.toInt := congrArg Int32.toInt ((pI_self _ _ _ _))
              have lk43 : (((pI t 71 4 v1)).1 71 9).toInt = (t.1 71 9).toInt := congrArg Int32.toInt ((pI_ne (a := 71) (b := 9) (c := 71) (k := 4) _ _ (Or.inr (by decide))))
              have lk44 : (((pI t 71 4 v1)).1 71 6).toInt = (t.1 71 6).toInt := congrArg Int32.toInt ((pI_ne (a := 71) (b := 6) (c := 71) (k := 4) _ _ (Or.inr (by decide))))
              have lk45 : (((pI t 71 4 v1)).1 71 5).toInt = (t.1 71 5).toInt := congrArg Int32.toInt ((pI_ne (a := 71) (b := 5) (c := 71) (k := 4) _ _ (Or.inr (by decide))))
              have lk46 : (((pI t 71 4 v1)).1 71 6).toInt = (t.1 71 6).toInt := congrArg Int32.toInt ((pI_ne (a := 71) (b := 6) (c := 71) (k := 4) _ _ (Or.inr (by decide))))
              exact r_iret C (oDec_at oX12_number 90 rfl) ⟨_, rfl, ⟨by omega, by first | (intro h; exfalso; omega) | (have hN := oqN_0 (g := g) (a := a) (b := b) (lo := lo) (hi := hi) (by omega) hdn (by omega) (by omega); omega), by omega⟩⟩
            · skip
              have hN := oqN_2 (g := g) (a := a) (b := b) (lo := lo) (hi := hi) (by omega) hdn (by omega) (by omega)
              refine r_aload_n C (j := 0) (oDec_at oX12_number 84 rfl) rfl rfl ?_
              refine r_iconst C (oDec_at oX12_number 85 rfl) (v := k2) (by rw [qk2]; rfl) ?_
              refine r_aload_n C (j := 0) (oDec_at oX12_number 86 rfl) rfl rfl ?_
              obtain ⟨v47, ev47⟩ : ∃ z : Int32, ((pI t 71 4 v1)).1 71 9 = z := ⟨_, rfl⟩
              have gv47 : (t.1 71 9).toInt = v47.toInt := congrArg Int32.toInt (((pI_ne (a := 71) (b := 9) (c := 71) (k := 4) _ _ (Or.inr (by decide)))).symm.trans ev47)
              have ggv47 : (((pI t 71 4 v1)).1 71 9).toInt = v47.toInt := congrArg Int32.toInt ev47
              have rv47 := n_rng v47
              refine r_geti (k := 9) (lo := (-2147483648)) (hi := 2147483647) C v47 oCl12 rfl (by decide) flX12_213 rfl rfl (ev47) rfl rfl (oDec_at oX12_number 87 rfl) (fun _ _ => ?_)
              have lk48 : (((pI t 71 4 v1)).1 71 5).toInt = (t.1 71 5).toInt := congrArg Int32.toInt ((pI_ne (a := 71) (b := 5) (c := 71) (k := 4) _ _ (Or.inr (by decide))))
              have lk49 : (((pI t 71 4 v1)).1 71 5).toInt = (t.1 71 5).toInt := congrArg Int32.toInt ((pI_ne (a := 71) (b := 5) (c := 71) (k := 4) _ _ (Or.inr (by decide))))
              have lk50 : (((pI t 71 4 v1)).1 71 6).toInt = (t.1 71 6).toInt := congrArg Int32.toInt ((pI_ne (a := 71) (b := 6) (c := 71) (k := 4) _ _ (Or.inr (by decide))))
              refine r_callVv C oCl12 rfl miX12_fail mlX12_203 (ct4_X12_fail l E ((pI t 71 4 v1)) k2 v47 ) (by decide) rfl rfl rfl (Nat.le_of_ble_eq_true rfl) (oDec_at oX12_number 88 rfl) (fun u51 pu51 fu51 => ?_)
              try dsimp only at pu51
              try simp only [lk48, lk49, lk50] at pu51
              obtain ⟨pu51_0, pu51_1⟩ := pu51
              refine r_iload_n C (j := 3) (oDec_at oX12_number 89 rfl) rfl rfl ?_
              refine r_pc C 162 rfl ?_
              have lk53 : ((u51).1 71 2).toInt = v1.toInt := congrArg Int32.toInt (((fu51 71 2 rfl).1).trans (((pI_ne (a := 71) (b := 2) (c := 71) (k := 4) _ _ (Or.inr (by decide)))).trans (ev1)))
              have lk54 : ((u51).1 71 4).toInt = v1.toInt := congrArg Int32.toInt (((fu51 71 4 rfl).1).trans ((pI_self _ _ _ _)))
              have lk55 : ((u51).1 71 9).toInt = v47.toInt := congrArg Int32.toInt (((fu51 71 9 rfl).1).trans (ev47))
              exact r_iret C (oDec_at oX12_number 90 rfl) ⟨_, rfl, ⟨by omega, by first | (intro h; exfalso; omega) | (have hN := oqN_0 (g := g) (a := a) (b := b) (lo := lo) (hi := hi) (by omega) hdn (by omega) (by omega); omega), by omega⟩⟩
          · skip
            refine r_aload_n C (j := 0) (oDec_at oX12_number 39 rfl) rfl rfl ?_
            refine r_geti (k := 2) (lo := 0) (hi := 1600) C v1 oCl12 rfl (by decide) flX12_179 rfl rfl (ev1) rfl rfl (oDec_at oX12_number 40 rfl) (fun _ _ => ?_)
            refine r_aload_n C (j := 0) (oDec_at oX12_number 41 rfl) rfl rfl ?_
            obtain ⟨v56, ev56⟩ : ∃ z : Int32, (t).1 71 9 = z := ⟨_, rfl⟩
            have gv56 : (t.1 71 9).toInt = v56.toInt := congrArg Int32.toInt (ev56)
            have rv56 := n_rng v56
            refine r_geti (k := 9) (lo := (-2147483648)) (hi := 2147483647) C v56 oCl12 rfl (by decide) flX12_213 rfl rfl (ev56) rfl rfl (oDec_at oX12_number 42 rfl) (fun _ _ => ?_)
            obtain ⟨v57, ev57⟩ : ∃ z : Int32, z = v1 - v56 := ⟨_, rfl⟩
            have hv57 : v57.toInt = v1.toInt - v56.toInt := n_sub ev57 (by omega) (by omega)
            refine r_isub C v57 (oDec_at oX12_number 43 rfl) ev57 ?_
            refine r_iconst C (oDec_at oX12_number 44 rfl) (v := k4) (by rw [qk4]; rfl) ?_
            refine r_pc C 87 rfl ?_
            refine r_icmp_ne C 101 (oDec_at oX12_number 45 rfl) (by decide) (fun cd58 => ?_) (fun cd58 => ?_)
            · skip
              refine r_bipush C (oDec_at oX12_number 53 rfl) (v := k10) (by rw [qk10]; rfl) ?_
              refine r_iload_n C (j := 3) (oDec_at oX12_number 54 rfl) rfl rfl ?_
              obtain ⟨v59, ev59⟩ : ∃ z : Int32, z = k10 * x3 := ⟨_, rfl⟩
              have hv59 : v59.toInt = 10 * x3.toInt := n_mulK' 10 ev59 ek10 (by omega) (by omega)
              refine r_imul C v59 (oDec_at oX12_number 55 rfl) ev59 ?_
              refine r_aload_n C (j := 0) (oDec_at oX12_number 56 rfl) rfl rfl ?_
              refine r_getF (k := 0) (b := 72) C oCl12 rfl (by decide) flX12_7 rfl rfl rfl (oDec_at oX12_number 57 rfl) ?_
              refine r_aload_n C (j := 0) (oDec_at oX12_number 58 rfl) rfl rfl ?_
              refine r_pc C 110 rfl ?_
              refine r_geti (k := 2) (lo := 0) (hi := 1600) C v1 oCl12 rfl (by decide) flX12_179 rfl rfl (ev1) rfl rfl (oDec_at oX12_number 59 rfl) (fun _ _ => ?_)
              refine r_iald (n := 1600) (lo := 0) (hi := 255) C v29 rfl (by decide) rfl rfl ⟨by omega, by omega⟩ (by decide) (ev29) rfl rfl (oDec_at oX12_number 60 rfl) (fun b60 b60h => ?_)
              have la61 : ((t).1 72 ((t).1 71 2).toNatClampNeg).toInt = v29.toInt := by rw [ev1, (ev29)]
              obtain ⟨v62, ev62⟩ : ∃ z : Int32, z = v59 + v29 := ⟨_, rfl⟩
              have hv62 : v62.toInt = v59.toInt + v29.toInt := n_add ev62 (by omega) (by omega)
              refine r_iadd C v62 (oDec_at oX12_number 61 rfl) ev62 ?_
              refine r_bipush C (oDec_at oX12_number 62 rfl) (v := k48) (by rw [qk48]; rfl) ?_
              obtain ⟨v63, ev63⟩ : ∃ z : Int32, z = v62 - k48 := ⟨_, rfl⟩
              have hv63 : v63.toInt = v62.toInt - k48.toInt := n_sub ev63 (by omega) (by omega)
              refine r_isub C v63 (oDec_at oX12_number 63 rfl) ev63 ?_
              refine r_istore_n C (lv' := [(0, .ref (oad E 71)), (1, .int a1), (2, .int a2), (3, .int v63)]) [1, 2, 3, 0] (oDec_at oX12_number 64 rfl) rfl (by decide) rfl ?_
              refine r_pc C 119 rfl ?_
              refine r_aload_n C (j := 0) (oDec_at oX12_number 65 rfl) rfl rfl ?_
              refine r_dup C (oDec_at oX12_number 66 rfl) rfl ?_
              refine r_geti (k := 2) (lo := 0) (hi := 1600) C v1 oCl12 rfl (by decide) flX12_179 rfl rfl (ev1) rfl rfl (oDec_at oX12_number 67 rfl) (fun _ _ => ?_)
              refine r_iconst C (oDec_at oX12_number 68 rfl) (v := k1) (by rw [qk1]; rfl) ?_
              obtain ⟨v64, ev64⟩ : ∃ z : Int32, z = v1 + k1 := ⟨_, rfl⟩
              have hv64 : v64.toInt = v1.toInt + k1.toInt := n_add ev64 (by omega) (by omega)
              refine r_iadd C v64 (oDec_at oX12_number 69 rfl) ev64 ?_
              refine r_puti (k := 2) (lo := 0) (hi := 1600) C oCl12 rfl (by decide) flX12_179 rfl rfl rfl rfl rfl rfl rfl rfl ⟨by omega, by omega⟩ (oDec_at oX12_number 70 rfl) ?_
              refine r_pc C 129 rfl ?_
              refine r_goto C (tgt := 51) (oDec_at oX12_number 71 rfl) (by decide) ?_
              have lk65 : (((pI t 71 2 v64)).1 71 9).toInt = v56.toInt := congrArg Int32.toInt (((pI_ne (a := 71) (b := 9) (c := 71) (k := 2) _ _ (Or.inr (by decide)))).trans (ev56))
              have lk66 : (((pI t 71 2 v64)).1 71 2).toInt = v64.toInt := congrArg Int32.toInt ((pI_self _ _ _ _))
              have lk67 : (((pI t 71 2 v64)).1 71 3).toInt = v3.toInt := congrArg Int32.toInt (((pI_ne (a := 71) (b := 3) (c := 71) (k := 2) _ _ (Or.inr (by decide)))).trans (ev3))
              have lk68 : (((pI t 71 2 v64)).1 71 5).toInt = (t.1 71 5).toInt := congrArg Int32.toInt ((pI_ne (a := 71) (b := 5) (c := 71) (k := 2) _ _ (Or.inr (by decide))))
              have lk69 : (((pI t 71 2 v64)).1 71 6).toInt = (t.1 71 6).toInt := congrArg Int32.toInt ((pI_ne (a := 71) (b := 6) (c := 71) (k := 2) _ _ (Or.inr (by decide))))
              have lk70 : (((pI t 71 2 v64)).1 71 2).toInt = v64.toInt := congrArg Int32.toInt ((pI_self _ _ _ _))
              have lk71 : (((pI t 71 2 v64)).1 71 2).toInt = v64.toInt := congrArg Int32.toInt ((pI_self _ _ _ _))
              have lk72 : (((pI t 71 2 v64)).1 71 2).toInt = v64.toInt := congrArg Int32.toInt ((pI_self _ _ _ _))
              have lk73 : (((pI t 71 2 v64)).1 71 9).toInt = v56.toInt := congrArg Int32.toInt (((pI_ne (a := 71) (b := 9) (c := 71) (k := 2) _ _ (Or.inr (by decide)))).trans (ev56))
              have lk74 : (((pI t 71 2 v64)).1 71 2).toInt = v64.toInt := congrArg Int32.toInt ((pI_self _ _ _ _))
              exact (ih (n - 1) (by omega)) ((pI t 71 2 v64)) v63  (oqZ_fr (oFr_oneI (q := 12) (m := 2) rfl (by rfl)) rfl iv0) (by omega) (by omega) (by first | exact oqDs_nx (b := oqSk g a + ((t.1 71 2).toInt - oqSk g a)) iv3 (by omega) (by omega) rfl (by omega) | exact oqDs_0 (by omega)) (by first | (rw [oqDv_ni (g := g) (a := oqSk g a) (n := (t.1 71 2).toInt - oqSk g a) (by omega) (by omega)]; omega) | (rw [oqDv_zi (by omega)]; omega)) (by omega) (by omega) (by omega) (by omega) (by omega)
            · skip
              have hN := oqN_5 (g := g) (a := a) (b := b) (lo := lo) (hi := hi) (by omega) (oqDn_5 iv3 (by omega) (by omega))
              refine r_aload_n C (j := 0) (oDec_at oX12_number 46 rfl) rfl rfl ?_
              refine r_iconst C (oDec_at oX12_number 47 rfl) (v := k1) (by rw [qk1]; rfl) ?_
              refine r_aload_n C (j := 0) (oDec_at oX12_number 48 rfl) rfl rfl ?_
              refine r_geti (k := 2) (lo := 0) (hi := 1600) C v1 oCl12 rfl (by decide) flX12_179 rfl rfl (ev1) rfl rfl (oDec_at oX12_number 49 rfl) (fun _ _ => ?_)
              refine r_callVv C oCl12 rfl miX12_fail mlX12_203 (ct4_X12_fail l E (t) k1 v1 ) (by decide) rfl rfl rfl (Nat.le_of_ble_eq_true rfl) (oDec_at oX12_number 50 rfl) (fun u75 pu75 fu75 => ?_)
              try dsimp only at pu75
              obtain ⟨pu75_0, pu75_1⟩ := pu75
              refine r_iconst C (oDec_at oX12_number 51 rfl) (v := k0) (by rw [qk0]; rfl) ?_
              refine r_pc C 100 rfl ?_
              have lk77 : ((u75).1 71 2).toInt = v1.toInt := congrArg Int32.toInt (((fu75 71 2 rfl).1).trans (ev1))
              have lk78 : ((u75).1 71 4).toInt = (t.1 71 4).toInt := congrArg Int32.toInt ((fu75 71 4 rfl).1)
              have lk79 : ((u75).1 71 9).toInt = v56.toInt := congrArg Int32.toInt (((fu75 71 9 rfl).1).trans (ev56))
              exact r_iret C (oDec_at oX12_number 52 rfl) ⟨_, rfl, ⟨by omega, by omega, by omega⟩⟩
  refine r_aload_n C (j := 0) (oDec_at oX12_number 0 rfl) rfl rfl ?_
  obtain ⟨v80, ev80⟩ : ∃ z : Int32, (s).1 71 5 = z := ⟨_, rfl⟩
  have gv80 : (s.1 71 5).toInt = v80.toInt := congrArg Int32.toInt (ev80)
  have rv80 := n_rng v80
  refine r_geti (k := 5) (lo := (-2147483648)) (hi := 2147483647) C v80 oCl12 rfl (by decide) flX12_173 rfl rfl (ev80) rfl rfl (oDec_at oX12_number 1 rfl) (fun _ _ => ?_)
  refine r_if_eq C 9 (oDec_at oX12_number 2 rfl) (by decide) (fun cd81 => ?_) (fun cd81 => ?_)
  · skip
    refine r_aload_n C (j := 0) (oDec_at oX12_number 5 rfl) rfl rfl ?_
    refine r_callVi C oCl12 rfl miX12_look mlX12_185 (ct4_X12_look l E (s)  (g) (a) (by omega) hp1) (by decide) rfl rfl rfl (Nat.le_of_ble_eq_true rfl) (oDec_at oX12_number 6 rfl) (fun r83 u82 pu82 fu82 => ?_)
    try dsimp only at pu82
    obtain ⟨pu82_0, pu82_1, pu82_2, pu82_3, pu82_4, pu82_5⟩ := pu82
    have rr83 := n_rng r83
    refine r_callSi C miX12_isDigit mlX12_210 (ct_X12_isDigit l E (u82) r83 ) (by decide) rfl rfl rfl (Nat.le_of_ble_eq_true rfl) (oDec_at oX12_number 7 rfl) (fun r85 u84 pu84 fu84 => ?_)
    try dsimp only at pu84
    obtain ⟨pu84_0, pu84_1⟩ := pu84
    have hxu84 := oFr_nil fu84; subst hxu84
    have rr85 := n_rng r85
    refine r_if_eq C 30 (oDec_at oX12_number 8 rfl) (by decide) (fun cd86 => ?_) (fun cd86 => ?_)
    · skip
      have hrg := oqDn_rg g (oqSk g a)
      have hN := oqN_1 (g := g) (a := a) (b := b) (lo := lo) (hi := hi) (by omega)
      refine r_aload_n C (j := 0) (oDec_at oX12_number 14 rfl) rfl rfl ?_
      refine r_iconst C (oDec_at oX12_number 15 rfl) (v := k1) (by rw [qk1]; rfl) ?_
      refine r_aload_n C (j := 0) (oDec_at oX12_number 16 rfl) rfl rfl ?_
      obtain ⟨v87, ev87⟩ : ∃ z : Int32, (u82).1 71 2 = z := ⟨_, rfl⟩
      have gv87 : (u82.1 71 2).toInt = v87.toInt := congrArg Int32.toInt (ev87)
      refine r_geti (k := 2) (lo := 0) (hi := 1600) C v87 oCl12 rfl (by decide) flX12_179 rfl rfl (ev87) rfl rfl (oDec_at oX12_number 17 rfl) (fun b88 b88h => ?_)
      have lk89 : ((u82).1 71 5).toInt = v80.toInt := congrArg Int32.toInt (((fu82 71 5 rfl).1).trans (ev80))
      have lk90 : ((u82).1 71 5).toInt = v80.toInt := congrArg Int32.toInt (((fu82 71 5 rfl).1).trans (ev80))
      have lk91 : ((u82).1 71 6).toInt = (s.1 71 6).toInt := congrArg Int32.toInt ((fu82 71 6 rfl).1)
      refine r_callVv C oCl12 rfl miX12_fail mlX12_203 (ct4_X12_fail l E (u82) k1 v87 ) (by decide) rfl rfl rfl (Nat.le_of_ble_eq_true rfl) (oDec_at oX12_number 18 rfl) (fun u92 pu92 fu92 => ?_)
      try dsimp only at pu92
      try simp only [lk89, lk90, lk91] at pu92
      obtain ⟨pu92_0, pu92_1⟩ := pu92
      refine r_iconst C (oDec_at oX12_number 19 rfl) (v := k0) (by rw [qk0]; rfl) ?_
      refine r_pc C 40 rfl ?_
      have lk94 : ((u92).1 71 2).toInt = v87.toInt := congrArg Int32.toInt (((fu92 71 2 rfl).1).trans (ev87))
      have lk95 : ((u92).1 71 4).toInt = (s.1 71 4).toInt := congrArg Int32.toInt (((fu92 71 4 rfl).1).trans ((fu82 71 4 rfl).1))
      have lk96 : ((u92).1 71 9).toInt = (s.1 71 9).toInt := congrArg Int32.toInt (((fu92 71 9 rfl).1).trans ((fu82 71 9 rfl).1))
      exact r_iret C (oDec_at oX12_number 20 rfl) ⟨_, rfl, ⟨by omega, by omega, by omega⟩⟩
    · skip
      refine r_aload_n C (j := 0) (oDec_at oX12_number 9 rfl) rfl rfl ?_
      obtain ⟨v97, ev97⟩ : ∃ z : Int32, (u82).1 71 2 = z := ⟨_, rfl⟩
      have gv97 : (u82.1 71 2).toInt = v97.toInt := congrArg Int32.toInt (ev97)
      refine r_geti (k := 2) (lo := 0) (hi := 1600) C v97 oCl12 rfl (by decide) flX12_179 rfl rfl (ev97) rfl rfl (oDec_at oX12_number 10 rfl) (fun b98 b98h => ?_)
      refine r_aload_n C (j := 0) (oDec_at oX12_number 11 rfl) rfl rfl ?_
      obtain ⟨v99, ev99⟩ : ∃ z : Int32, (u82).1 71 4 = z := ⟨_, rfl⟩
      have gv99 : (s.1 71 4).toInt = v99.toInt := congrArg Int32.toInt (((fu82 71 4 rfl).1).symm.trans ev99)
      have ggv99 : ((u82).1 71 4).toInt = v99.toInt := congrArg Int32.toInt ev99
      refine r_geti (k := 4) (lo := (-1)) (hi := 1600) C v99 oCl12 rfl (by decide) flX12_193 rfl rfl (ev99) rfl rfl (oDec_at oX12_number 12 rfl) (fun b100 b100h => ?_)
      refine r_icmp_ne C 41 (oDec_at oX12_number 13 rfl) (by decide) (fun cd101 => ?_) (fun cd101 => ?_)
      · skip
        refine r_aload_n C (j := 0) (oDec_at oX12_number 21 rfl) rfl rfl ?_
        refine r_aload_n C (j := 0) (oDec_at oX12_number 22 rfl) rfl rfl ?_
        refine r_geti (k := 2) (lo := 0) (hi := 1600) C v97 oCl12 rfl (by decide) flX12_179 rfl rfl (ev97) rfl rfl (oDec_at oX12_number 23 rfl) (fun _ _ => ?_)
        refine r_puti (k := 9) (lo := (-2147483648)) (hi := 2147483647) C oCl12 rfl (by decide) flX12_213 rfl rfl rfl rfl rfl rfl rfl rfl (n_rng _) (oDec_at oX12_number 24 rfl) ?_
        refine r_iconst C (oDec_at oX12_number 25 rfl) (v := k0) (by rw [qk0]; rfl) ?_
        refine r_istore_n C (lv' := [(0, .ref (oad E 71)), (1, .int a1), (2, .int a2), (3, .int k0)]) [1, 2, 3, 0] (oDec_at oX12_number 26 rfl) rfl (by decide) rfl ?_
        have lk102 : (((pI u82 71 9 v97)).1 71 9).toInt = v97.toInt := congrArg Int32.toInt ((pI_self _ _ _ _))
        have lk103 : (((pI u82 71 9 v97)).1 71 2).toInt = v97.toInt := congrArg Int32.toInt (((pI_ne (a := 71) (b := 2) (c := 71) (k := 9) _ _ (Or.inr (by decide)))).trans (ev97))
        have lk104 : (((pI u82 71 9 v97)).1 71 3).toInt = (s.1 71 3).toInt := congrArg Int32.toInt (((pI_ne (a := 71) (b := 3) (c := 71) (k := 9) _ _ (Or.inr (by decide)))).trans ((fu82 71 3 rfl).1))
        have lk105 : (((pI u82 71 9 v97)).1 71 5).toInt = v80.toInt := congrArg Int32.toInt (((pI_ne (a := 71) (b := 5) (c := 71) (k := 9) _ _ (Or.inr (by decide)))).trans (((fu82 71 5 rfl).1).trans (ev80)))
        have lk106 : (((pI u82 71 9 v97)).1 71 6).toInt = (s.1 71 6).toInt := congrArg Int32.toInt (((pI_ne (a := 71) (b := 6) (c := 71) (k := 9) _ _ (Or.inr (by decide)))).trans ((fu82 71 6 rfl).1))
        have lk107 : (((pI u82 71 9 v97)).1 71 2).toInt = v97.toInt := congrArg Int32.toInt (((pI_ne (a := 71) (b := 2) (c := 71) (k := 9) _ _ (Or.inr (by decide)))).trans (ev97))
        have lk108 : (((pI u82 71 9 v97)).1 71 2).toInt = v97.toInt := congrArg Int32.toInt (((pI_ne (a := 71) (b := 2) (c := 71) (k := 9) _ _ (Or.inr (by decide)))).trans (ev97))
        have lk109 : (((pI u82 71 9 v97)).1 71 2).toInt = v97.toInt := congrArg Int32.toInt (((pI_ne (a := 71) (b := 2) (c := 71) (k := 9) _ _ (Or.inr (by decide)))).trans (ev97))
        have lk110 : (((pI u82 71 9 v97)).1 71 9).toInt = v97.toInt := congrArg Int32.toInt ((pI_self _ _ _ _))
        have lk111 : (((pI u82 71 9 v97)).1 71 2).toInt = v97.toInt := congrArg Int32.toInt (((pI_ne (a := 71) (b := 2) (c := 71) (k := 9) _ _ (Or.inr (by decide)))).trans (ev97))
        exact (key (1601 - (((pI u82 71 9 v97)).1 71 2).toInt).toNat) ((pI u82 71 9 v97)) k0  (oqZ_fr (oFr_oneI (q := 12) (m := 9) rfl (by rfl)) rfl (oqZ_fr fu82 rfl hp1)) (by omega) (by omega) (by first | exact oqDs_0 (by omega)) (by first | (rw [oqDv_ni (g := g) (a := oqSk g a) (n := (t.1 71 2).toInt - oqSk g a) (by omega) (by omega)]; omega) | (rw [oqDv_zi (by omega)]; omega)) (by omega) (by omega) (by omega) (by omega) (by omega)
      · skip
        have hrg := oqDn_rg g (oqSk g a)
        have hN := oqN_1 (g := g) (a := a) (b := b) (lo := lo) (hi := hi) (by omega)
        refine r_aload_n C (j := 0) (oDec_at oX12_number 14 rfl) rfl rfl ?_
        refine r_iconst C (oDec_at oX12_number 15 rfl) (v := k1) (by rw [qk1]; rfl) ?_
        refine r_aload_n C (j := 0) (oDec_at oX12_number 16 rfl) rfl rfl ?_
        refine r_geti (k := 2) (lo := 0) (hi := 1600) C v97 oCl12 rfl (by decide) flX12_179 rfl rfl (ev97) rfl rfl (oDec_at oX12_number 17 rfl) (fun _ _ => ?_)
        have lk112 : ((u82).1 71 5).toInt = v80.toInt := congrArg Int32.toInt (((fu82 71 5 rfl).1).trans (ev80))
        have lk113 : ((u82).1 71 5).toInt = v80.toInt := congrArg Int32.toInt (((fu82 71 5 rfl).1).trans (ev80))
        have lk114 : ((u82).1 71 6).toInt = (s.1 71 6).toInt := congrArg Int32.toInt ((fu82 71 6 rfl).1)
        refine r_callVv C oCl12 rfl miX12_fail mlX12_203 (ct4_X12_fail l E (u82) k1 v97 ) (by decide) rfl rfl rfl (Nat.le_of_ble_eq_true rfl) (oDec_at oX12_number 18 rfl) (fun u115 pu115 fu115 => ?_)
        try dsimp only at pu115
        try simp only [lk112, lk113, lk114] at pu115
        obtain ⟨pu115_0, pu115_1⟩ := pu115
        refine r_iconst C (oDec_at oX12_number 19 rfl) (v := k0) (by rw [qk0]; rfl) ?_
        refine r_pc C 40 rfl ?_
        have lk117 : ((u115).1 71 2).toInt = v97.toInt := congrArg Int32.toInt (((fu115 71 2 rfl).1).trans (ev97))
        have lk118 : ((u115).1 71 4).toInt = v99.toInt := congrArg Int32.toInt (((fu115 71 4 rfl).1).trans (ev99))
        have lk119 : ((u115).1 71 9).toInt = (s.1 71 9).toInt := congrArg Int32.toInt (((fu115 71 9 rfl).1).trans ((fu82 71 9 rfl).1))
        exact r_iret C (oDec_at oX12_number 20 rfl) ⟨_, rfl, ⟨by omega, by omega, by omega⟩⟩
  · skip
    refine r_iconst C (oDec_at oX12_number 3 rfl) (v := k0) (by rw [qk0]; rfl) ?_
    have lk120 : ((s).1 71 5).toInt = v80.toInt := congrArg Int32.toInt (ev80)
    have lk121 : ((s).1 71 5).toInt = v80.toInt := congrArg Int32.toInt (ev80)
    exact r_iret C (oDec_at oX12_number 4 rfl) ⟨_, rfl, ⟨by omega, by omega, by omega⟩⟩
set_option maxHeartbeats 4000000 in
set_option maxRecDepth 100000 in
theorem ct4_X12_begins (l : Launch) (E : oE) (s : oS)    : oMet l 1 yX12_begins cX12_begins 1 none [(12, 1), (12, 2), (12, 3), (12, 4), (12, 5), (12, 6), (12, 37), (12, 45)] E s [.ref (oad E 71)] (oPv (fun u => ((u.1 71 1).toInt = 0) ∧ ((u.1 71 2).toInt = 0) ∧ ((u.1 71 5).toInt = 0) ∧ ((u.1 71 37).toInt = 0) ∧ ((u.1 71 45).toInt = 0) ∧ ((u.1 71 3).toInt = (s.1 71 1).toInt) ∧ ((u.1 71 4).toInt = -1) ∧ ((u.1 71 6).toInt = -1))) := by
  refine oMet.of (lv := [(0, .ref (oad E 71))]) (by decide +kernel) (Nat.le_of_ble_eq_true rfl) rfl (fun J C hT => ?_)
  have C : oC l 1 cX12_begins RX12 1 none [(12, 1), (12, 2), (12, 3), (12, 4), (12, 5), (12, 6), (12, 37), (12, 45)] E s (oPv (fun u => ((u.1 71 1).toInt = 0) ∧ ((u.1 71 2).toInt = 0) ∧ ((u.1 71 5).toInt = 0) ∧ ((u.1 71 37).toInt = 0) ∧ ((u.1 71 45).toInt = 0) ∧ ((u.1 71 3).toInt = (s.1 71 1).toInt) ∧ ((u.1 71 4).toInt = -1) ∧ ((u.1 71 6).toInt = -1))) J := C
  obtain ⟨km1, qkm1⟩ : ∃ z : Int32, z = (-1) := ⟨_, rfl⟩
  have ekm1 : km1.toInt = (-1) := by rw [qkm1]; rfl
  obtain ⟨k0, qk0⟩ : ∃ z : Int32, z = 0 := ⟨_, rfl⟩
  have ek0 : k0.toInt = 0 := by rw [qk0]; rfl
  refine r_aload_n C (j := 0) (oDec_at oX12_begins 0 rfl) rfl rfl ?_
  refine r_aload_n C (j := 0) (oDec_at oX12_begins 1 rfl) rfl rfl ?_
  obtain ⟨v1, ev1⟩ : ∃ z : Int32, (s).1 71 1 = z := ⟨_, rfl⟩
  have gv1 : (s.1 71 1).toInt = v1.toInt := congrArg Int32.toInt (ev1)
  refine r_geti (k := 1) (lo := 0) (hi := 1600) C v1 oCl12 rfl (by decide) flX12_170 rfl rfl (ev1) rfl rfl (oDec_at oX12_begins 2 rfl) (fun b2 b2h => ?_)
  refine r_puti (k := 3) (lo := 0) (hi := 1600) C oCl12 rfl (by decide) flX12_182 rfl rfl rfl rfl rfl rfl rfl rfl ⟨by omega, by omega⟩ (oDec_at oX12_begins 3 rfl) ?_
  refine r_aload_n C (j := 0) (oDec_at oX12_begins 4 rfl) rfl rfl ?_
  refine r_iconst C (oDec_at oX12_begins 5 rfl) (v := k0) (by rw [qk0]; rfl) ?_
  refine r_pc C 10 rfl ?_
  refine r_puti (k := 1) (lo := 0) (hi := 1600) C oCl12 rfl (by decide) flX12_170 rfl rfl rfl rfl rfl rfl rfl rfl ⟨by omega, by omega⟩ (oDec_at oX12_begins 6 rfl) ?_
  refine r_aload_n C (j := 0) (oDec_at oX12_begins 7 rfl) rfl rfl ?_
  refine r_iconst C (oDec_at oX12_begins 8 rfl) (v := k0) (by rw [qk0]; rfl) ?_
  refine r_puti (k := 2) (lo := 0) (hi := 1600) C oCl12 rfl (by decide) flX12_179 rfl rfl rfl rfl rfl rfl rfl rfl ⟨by omega, by omega⟩ (oDec_at oX12_begins 9 rfl) ?_
  refine r_aload_n C (j := 0) (oDec_at oX12_begins 10 rfl) rfl rfl ?_
  refine r_iconst C (oDec_at oX12_begins 11 rfl) (v := km1) (by rw [qkm1]; rfl) ?_
  refine r_pc C 20 rfl ?_
  refine r_puti (k := 4) (lo := (-1)) (hi := 1600) C oCl12 rfl (by decide) flX12_193 rfl rfl rfl rfl rfl rfl rfl rfl ⟨by omega, by omega⟩ (oDec_at oX12_begins 12 rfl) ?_
  refine r_aload_n C (j := 0) (oDec_at oX12_begins 13 rfl) rfl rfl ?_
  refine r_iconst C (oDec_at oX12_begins 14 rfl) (v := k0) (by rw [qk0]; rfl) ?_
  refine r_puti (k := 5) (lo := (-2147483648)) (hi := 2147483647) C oCl12 rfl (by decide) flX12_173 rfl rfl rfl rfl rfl rfl rfl rfl (n_rng _) (oDec_at oX12_begins 15 rfl) ?_
  refine r_aload_n C (j := 0) (oDec_at oX12_begins 16 rfl) rfl rfl ?_
  refine r_iconst C (oDec_at oX12_begins 17 rfl) (v := km1) (by rw [qkm1]; rfl) ?_
  refine r_pc C 30 rfl ?_
  refine r_puti (k := 6) (lo := (-2147483648)) (hi := 2147483647) C oCl12 rfl (by decide) flX12_176 rfl rfl rfl rfl rfl rfl rfl rfl (n_rng _) (oDec_at oX12_begins 18 rfl) ?_
  refine r_aload_n C (j := 0) (oDec_at oX12_begins 19 rfl) rfl rfl ?_
  refine r_iconst C (oDec_at oX12_begins 20 rfl) (v := k0) (by rw [qk0]; rfl) ?_
  refine r_puti (k := 37) (lo := 0) (hi := 60) C oCl12 rfl (by decide) flX12_231 rfl rfl rfl rfl rfl rfl rfl rfl ⟨by omega, by omega⟩ (oDec_at oX12_begins 21 rfl) ?_
  refine r_aload_n C (j := 0) (oDec_at oX12_begins 22 rfl) rfl rfl ?_
  refine r_iconst C (oDec_at oX12_begins 23 rfl) (v := k0) (by rw [qk0]; rfl) ?_
  refine r_pc C 40 rfl ?_
  refine r_puti (k := 45) (lo := 0) (hi := 1600) C oCl12 rfl (by decide) flX12_234 rfl rfl rfl rfl rfl rfl rfl rfl ⟨by omega, by omega⟩ (oDec_at oX12_begins 24 rfl) ?_
  have lk3 : (((pI (pI (pI (pI (pI (pI (pI (pI s 71 3 v1) 71 1 k0) 71 2 k0) 71 4 km1) 71 5 k0) 71 6 km1) 71 37 k0) 71 45 k0)).1 71 1).toInt = k0.toInt := congrArg Int32.toInt (((pI_ne (a := 71) (b := 1) (c := 71) (k := 45) _ _ (Or.inr (by decide)))).trans (((pI_ne (a := 71) (b := 1) (c := 71) (k := 37) _ _ (Or.inr (by decide)))).trans (((pI_ne (a := 71) (b := 1) (c := 71) (k := 6) _ _ (Or.inr (by decide)))).trans (((pI_ne (a := 71) (b := 1) (c := 71) (k := 5) _ _ (Or.inr (by decide)))).trans (((pI_ne (a := 71) (b := 1) (c := 71) (k := 4) _ _ (Or.inr (by decide)))).trans (((pI_ne (a := 71) (b := 1) (c := 71) (k := 2) _ _ (Or.inr (by decide)))).trans ((pI_self _ _ _ _))))))))
  have lk4 : (((pI (pI (pI (pI (pI (pI (pI (pI s 71 3 v1) 71 1 k0) 71 2 k0) 71 4 km1) 71 5 k0) 71 6 km1) 71 37 k0) 71 45 k0)).1 71 2).toInt = k0.toInt := congrArg Int32.toInt (((pI_ne (a := 71) (b := 2) (c := 71) (k := 45) _ _ (Or.inr (by decide)))).trans (((pI_ne (a := 71) (b := 2) (c := 71) (k := 37) _ _ (Or.inr (by decide)))).trans (((pI_ne (a := 71) (b := 2) (c := 71) (k := 6) _ _ (Or.inr (by decide)))).trans (((pI_ne (a := 71) (b := 2) (c := 71) (k := 5) _ _ (Or.inr (by decide)))).trans (((pI_ne (a := 71) (b := 2) (c := 71) (k := 4) _ _ (Or.inr (by decide)))).trans ((pI_self _ _ _ _)))))))
  have lk5 : (((pI (pI (pI (pI (pI (pI (pI (pI s 71 3 v1) 71 1 k0) 71 2 k0) 71 4 km1) 71 5 k0) 71 6 km1) 71 37 k0) 71 45 k0)).1 71 5).toInt = k0.toInt := congrArg Int32.toInt (((pI_ne (a := 71) (b := 5) (c := 71) (k := 45) _ _ (Or.inr (by decide)))).trans (((pI_ne (a := 71) (b := 5) (c := 71) (k := 37) _ _ (Or.inr (by decide)))).trans (((pI_ne (a := 71) (b := 5) (c := 71) (k := 6) _ _ (Or.inr (by decide)))).trans ((pI_self _ _ _ _)))))
  have lk6 : (((pI (pI (pI (pI (pI (pI (pI (pI s 71 3 v1) 71 1 k0) 71 2 k0) 71 4 km1) 71 5 k0) 71 6 km1) 71 37 k0) 71 45 k0)).1 71 37).toInt = k0.toInt := congrArg Int32.toInt (((pI_ne (a := 71) (b := 37) (c := 71) (k := 45) _ _ (Or.inr (by decide)))).trans ((pI_self _ _ _ _)))
  have lk7 : (((pI (pI (pI (pI (pI (pI (pI (pI s 71 3 v1) 71 1 k0) 71 2 k0) 71 4 km1) 71 5 k0) 71 6 km1) 71 37 k0) 71 45 k0)).1 71 45).toInt = k0.toInt := congrArg Int32.toInt ((pI_self _ _ _ _))
  have lk8 : (((pI (pI (pI (pI (pI (pI (pI (pI s 71 3 v1) 71 1 k0) 71 2 k0) 71 4 km1) 71 5 k0) 71 6 km1) 71 37 k0) 71 45 k0)).1 71 3).toInt = v1.toInt := congrArg Int32.toInt (((pI_ne (a := 71) (b := 3) (c := 71) (k := 45) _ _ (Or.inr (by decide)))).trans (((pI_ne (a := 71) (b := 3) (c := 71) (k := 37) _ _ (Or.inr (by decide)))).trans (((pI_ne (a := 71) (b := 3) (c := 71) (k := 6) _ _ (Or.inr (by decide)))).trans (((pI_ne (a := 71) (b := 3) (c := 71) (k := 5) _ _ (Or.inr (by decide)))).trans (((pI_ne (a := 71) (b := 3) (c := 71) (k := 4) _ _ (Or.inr (by decide)))).trans (((pI_ne (a := 71) (b := 3) (c := 71) (k := 2) _ _ (Or.inr (by decide)))).trans (((pI_ne (a := 71) (b := 3) (c := 71) (k := 1) _ _ (Or.inr (by decide)))).trans ((pI_self _ _ _ _)))))))))
  have lk9 : (((pI (pI (pI (pI (pI (pI (pI (pI s 71 3 v1) 71 1 k0) 71 2 k0) 71 4 km1) 71 5 k0) 71 6 km1) 71 37 k0) 71 45 k0)).1 71 4).toInt = km1.toInt := congrArg Int32.toInt (((pI_ne (a := 71) (b := 4) (c := 71) (k := 45) _ _ (Or.inr (by decide)))).trans (((pI_ne (a := 71) (b := 4) (c := 71) (k := 37) _ _ (Or.inr (by decide)))).trans (((pI_ne (a := 71) (b := 4) (c := 71) (k := 6) _ _ (Or.inr (by decide)))).trans (((pI_ne (a := 71) (b := 4) (c := 71) (k := 5) _ _ (Or.inr (by decide)))).trans ((pI_self _ _ _ _))))))
  have lk10 : (((pI (pI (pI (pI (pI (pI (pI (pI s 71 3 v1) 71 1 k0) 71 2 k0) 71 4 km1) 71 5 k0) 71 6 km1) 71 37 k0) 71 45 k0)).1 71 6).toInt = km1.toInt := congrArg Int32.toInt (((pI_ne (a := 71) (b := 6) (c := 71) (k := 45) _ _ (Or.inr (by decide)))).trans (((pI_ne (a := 71) (b := 6) (c := 71) (k := 37) _ _ (Or.inr (by decide)))).trans ((pI_self _ _ _ _))))
  exact r_vret C (oDec_at oX12_begins 25 rfl) ⟨rfl, ⟨by omega, by omega, by omega, by omega, by omega, by omega, by omega, by omega⟩⟩
set_option maxHeartbeats 4000000 in
set_option maxRecDepth 100000 in
theorem ct4_X12_isTaken (l : Launch) (E : oE) (s : oS)    : oMet l 1 yX12_isTaken cX12_isTaken 1 (some .boolean) [(12, 7), (12, 8)] E s [.ref (oad E 71)] (oPi (fun r u => (0 ≤ r.toInt ∧ r.toInt ≤ 1) ∧ ((r.toInt = 1 ∧ (u.1 71 5).toInt = 0) ∨ (r.toInt = 0 ∧ (u.1 71 5).toInt ≠ 0)) ∧ ((u.1 71 7).toInt = (s.1 71 5).toInt ∧ (u.1 71 8).toInt = (s.1 71 6).toInt))) := by
  refine oMet.of (lv := [(0, .ref (oad E 71))]) (by decide +kernel) (Nat.le_of_ble_eq_true rfl) rfl (fun J C hT => ?_)
  have C : oC l 1 cX12_isTaken RX12 1 (some .boolean) [(12, 7), (12, 8)] E s (oPi (fun r u => (0 ≤ r.toInt ∧ r.toInt ≤ 1) ∧ ((r.toInt = 1 ∧ (u.1 71 5).toInt = 0) ∨ (r.toInt = 0 ∧ (u.1 71 5).toInt ≠ 0)) ∧ ((u.1 71 7).toInt = (s.1 71 5).toInt ∧ (u.1 71 8).toInt = (s.1 71 6).toInt))) J := C
  obtain ⟨k0, qk0⟩ : ∃ z : Int32, z = 0 := ⟨_, rfl⟩
  have ek0 : k0.toInt = 0 := by rw [qk0]; rfl
  obtain ⟨k1, qk1⟩ : ∃ z : Int32, z = 1 := ⟨_, rfl⟩
  have ek1 : k1.toInt = 1 := by rw [qk1]; rfl
  refine r_aload_n C (j := 0) (oDec_at oX12_isTaken 0 rfl) rfl rfl ?_
  refine r_aload_n C (j := 0) (oDec_at oX12_isTaken 1 rfl) rfl rfl ?_
  obtain ⟨v1, ev1⟩ : ∃ z : Int32, (s).1 71 5 = z := ⟨_, rfl⟩
  have gv1 : (s.1 71 5).toInt = v1.toInt := congrArg Int32.toInt (ev1)
  have rv1 := n_rng v1
  refine r_geti (k := 5) (lo := (-2147483648)) (hi := 2147483647) C v1 oCl12 rfl (by decide) flX12_173 rfl rfl (ev1) rfl rfl (oDec_at oX12_isTaken 2 rfl) (fun _ _ => ?_)
  refine r_puti (k := 7) (lo := (-2147483648)) (hi := 2147483647) C oCl12 rfl (by decide) flX12_237 rfl rfl rfl rfl rfl rfl rfl rfl (n_rng _) (oDec_at oX12_isTaken 3 rfl) ?_
  refine r_aload_n C (j := 0) (oDec_at oX12_isTaken 4 rfl) rfl rfl ?_
  refine r_aload_n C (j := 0) (oDec_at oX12_isTaken 5 rfl) rfl rfl ?_
  refine r_pc C 10 rfl ?_
  obtain ⟨v2, ev2⟩ : ∃ z : Int32, ((pI s 71 7 v1)).1 71 6 = z := ⟨_, rfl⟩
  have gv2 : (s.1 71 6).toInt = v2.toInt := congrArg Int32.toInt (((pI_ne (a := 71) (b := 6) (c := 71) (k := 7) _ _ (Or.inr (by decide)))).symm.trans ev2)
  have ggv2 : (((pI s 71 7 v1)).1 71 6).toInt = v2.toInt := congrArg Int32.toInt ev2
  have rv2 := n_rng v2
  refine r_geti (k := 6) (lo := (-2147483648)) (hi := 2147483647) C v2 oCl12 rfl (by decide) flX12_176 rfl rfl (ev2) rfl rfl (oDec_at oX12_isTaken 6 rfl) (fun _ _ => ?_)
  refine r_puti (k := 8) (lo := (-2147483648)) (hi := 2147483647) C oCl12 rfl (by decide) flX12_13 rfl rfl rfl rfl rfl rfl rfl rfl (n_rng _) (oDec_at oX12_isTaken 7 rfl) ?_
  refine r_aload_n C (j := 0) (oDec_at oX12_isTaken 8 rfl) rfl rfl ?_
  refine r_geti (k := 5) (lo := (-2147483648)) (hi := 2147483647) C v1 oCl12 rfl (by decide) flX12_173 rfl rfl (((pI_ne (a := 71) (b := 5) (c := 71) (k := 8) _ _ (Or.inr (by decide)))).trans (((pI_ne (a := 71) (b := 5) (c := 71) (k := 7) _ _ (Or.inr (by decide)))).trans (ev1))) rfl rfl (oDec_at oX12_isTaken 9 rfl) (fun _ _ => ?_)
  refine r_if_ne C 27 (oDec_at oX12_isTaken 10 rfl) (by decide) (fun cd3 => ?_) (fun cd3 => ?_)
  · skip
    refine r_iconst C (oDec_at oX12_isTaken 13 rfl) (v := k0) (by rw [qk0]; rfl) ?_
    have lk4 : (((pI (pI s 71 7 v1) 71 8 v2)).1 71 5).toInt = v1.toInt := congrArg Int32.toInt (((pI_ne (a := 71) (b := 5) (c := 71) (k := 8) _ _ (Or.inr (by decide)))).trans (((pI_ne (a := 71) (b := 5) (c := 71) (k := 7) _ _ (Or.inr (by decide)))).trans (ev1)))
    have lk5 : (((pI (pI s 71 7 v1) 71 8 v2)).1 71 7).toInt = v1.toInt := congrArg Int32.toInt (((pI_ne (a := 71) (b := 7) (c := 71) (k := 8) _ _ (Or.inr (by decide)))).trans ((pI_self _ _ _ _)))
    have lk6 : (((pI (pI s 71 7 v1) 71 8 v2)).1 71 8).toInt = v2.toInt := congrArg Int32.toInt ((pI_self _ _ _ _))
    exact r_zret C (n_bool (by omega)) (oDec_at oX12_isTaken 14 rfl) ⟨_, rfl, ⟨by omega, by omega, by omega⟩⟩
  · skip
    refine r_iconst C (oDec_at oX12_isTaken 11 rfl) (v := k1) (by rw [qk1]; rfl) ?_
    refine r_goto C (tgt := 28) (oDec_at oX12_isTaken 12 rfl) (by decide) ?_
    have lk7 : (((pI (pI s 71 7 v1) 71 8 v2)).1 71 5).toInt = v1.toInt := congrArg Int32.toInt (((pI_ne (a := 71) (b := 5) (c := 71) (k := 8) _ _ (Or.inr (by decide)))).trans (((pI_ne (a := 71) (b := 5) (c := 71) (k := 7) _ _ (Or.inr (by decide)))).trans (ev1)))
    have lk8 : (((pI (pI s 71 7 v1) 71 8 v2)).1 71 7).toInt = v1.toInt := congrArg Int32.toInt (((pI_ne (a := 71) (b := 7) (c := 71) (k := 8) _ _ (Or.inr (by decide)))).trans ((pI_self _ _ _ _)))
    have lk9 : (((pI (pI s 71 7 v1) 71 8 v2)).1 71 8).toInt = v2.toInt := congrArg Int32.toInt ((pI_self _ _ _ _))
    exact r_zret C (n_bool (by omega)) (oDec_at oX12_isTaken 14 rfl) ⟨_, rfl, ⟨by omega, by omega, by omega⟩⟩
