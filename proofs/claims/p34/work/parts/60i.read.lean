set_option maxHeartbeats 4000000 in
set_option maxRecDepth 100000 in
theorem ct4_X5_fail (l : Launch) (E : oE) (s : oS) (a1 : Int32) (a2 : Int32)   : oMet l 1 yX5_fail cX5_fail 3 (some .boolean) [(5, 8), (5, 9)] E s [.ref (oad E 30), .int a1, .int a2] (oPi (fun r u => (0 ≤ r.toInt ∧ r.toInt ≤ 1) ∧ (r.toInt = 0) ∧ ((u.1 30 8).toInt = a1.toInt) ∧ ((u.1 30 9).toInt = a2.toInt))) := by
  refine oMet.of (lv := [(0, .ref (oad E 30)), (1, .int a1), (2, .int a2)]) (by decide +kernel) (Nat.le_of_ble_eq_true rfl) rfl (fun J C hT => ?_)
  have C : oC l 1 cX5_fail RX5 3 (some .boolean) [(5, 8), (5, 9)] E s (oPi (fun r u => (0 ≤ r.toInt ∧ r.toInt ≤ 1) ∧ (r.toInt = 0) ∧ ((u.1 30 8).toInt = a1.toInt) ∧ ((u.1 30 9).toInt = a2.toInt))) J := C
  obtain ⟨k0, qk0⟩ : ∃ z : Int32, z = 0 := ⟨_, rfl⟩
  have ek0 : k0.toInt = 0 := by rw [qk0]; rfl
  have rg1 := n_rng a1
  have rg2 := n_rng a2
  refine r_aload_n C (j := 0) (oDec_at oX5_fail 0 rfl) rfl rfl ?_
  refine r_iload_n C (j := 1) (oDec_at oX5_fail 1 rfl) rfl rfl ?_
  refine r_puti (k := 8) (lo := (-2147483648)) (hi := 2147483647) C oCl5 rfl (by decide) flX5_32 rfl rfl rfl rfl rfl rfl rfl rfl (n_rng _) (oDec_at oX5_fail 2 rfl) ?_
  refine r_aload_n C (j := 0) (oDec_at oX5_fail 3 rfl) rfl rfl ?_
  refine r_iload_n C (j := 2) (oDec_at oX5_fail 4 rfl) rfl rfl ?_
  refine r_puti (k := 9) (lo := (-2147483648)) (hi := 2147483647) C oCl5 rfl (by decide) flX5_9 rfl rfl rfl rfl rfl rfl rfl rfl (n_rng _) (oDec_at oX5_fail 5 rfl) ?_
  refine r_pc C 10 rfl ?_
  refine r_iconst C (oDec_at oX5_fail 6 rfl) (v := k0) (by rw [qk0]; rfl) ?_
  have lk1 : (((pI (pI s 30 8 a1) 30 9 a2)).1 30 8).toInt = a1.toInt := congrArg Int32.toInt (((pI_ne (a := 30) (b := 8) (c := 30) (k := 9) _ _ (Or.inr (by decide)))).trans ((pI_self _ _ _ _)))
  have lk2 : (((pI (pI s 30 8 a1) 30 9 a2)).1 30 9).toInt = a2.toInt := congrArg Int32.toInt ((pI_self _ _ _ _))
  exact r_zret C (n_bool (by omega)) (oDec_at oX5_fail 7 rfl) ⟨_, rfl, ⟨by omega, by omega, by omega, by omega⟩⟩
set_option maxHeartbeats 4000000 in
set_option maxRecDepth 100000 in
theorem ct4_X5_peek (l : Launch) (E : oE) (s : oS)  (g : Int → Int) (a : Int) (hp0 : (s.1 30 2).toInt = a) (hp1 : oqX g s) : oMet l 1 yX5_peek cX5_peek 1 (some .int) [(5, 2)] E s [.ref (oad E 30)] (oPi (fun r u => ((u.1 30 2).toInt = oqSk g a) ∧ (r.toInt = g (oqSk g a)) ∧ (a ≤ (u.1 30 2).toInt) ∧ (g (oqSk g a) ≠ 32 ∧ g (oqSk g a) ≠ 10) ∧ (-1 ≤ r.toInt ∧ r.toInt ≤ 255) ∧ (r.toInt ≠ -1 → (u.1 30 2).toInt < (s.1 1 1).toInt ∧ (u.1 30 2).toInt ≤ 1599))) := by
  refine oMet.of (lv := [(0, .ref (oad E 30))]) (by decide +kernel) (Nat.le_of_ble_eq_true rfl) rfl (fun J C hT => ?_)
  have C : oC l 1 cX5_peek RX5 1 (some .int) [(5, 2)] E s (oPi (fun r u => ((u.1 30 2).toInt = oqSk g a) ∧ (r.toInt = g (oqSk g a)) ∧ (a ≤ (u.1 30 2).toInt) ∧ (g (oqSk g a) ≠ 32 ∧ g (oqSk g a) ≠ 10) ∧ (-1 ≤ r.toInt ∧ r.toInt ≤ 255) ∧ (r.toInt ≠ -1 → (u.1 30 2).toInt < (s.1 1 1).toInt ∧ (u.1 30 2).toInt ≤ 1599))) J := C
  obtain ⟨km1, qkm1⟩ : ∃ z : Int32, z = (-1) := ⟨_, rfl⟩
  have ekm1 : km1.toInt = (-1) := by rw [qkm1]; rfl
  obtain ⟨k1, qk1⟩ : ∃ z : Int32, z = 1 := ⟨_, rfl⟩
  have ek1 : k1.toInt = 1 := by rw [qk1]; rfl
  obtain ⟨k10, qk10⟩ : ∃ z : Int32, z = 10 := ⟨_, rfl⟩
  have ek10 : k10.toInt = 10 := by rw [qk10]; rfl
  obtain ⟨k32, qk32⟩ : ∃ z : Int32, z = 32 := ⟨_, rfl⟩
  have ek32 : k32.toInt = 32 := by rw [qk32]; rfl
  have ht2 : (0 : Int) ≤ (s.1 30 2).toInt ∧ (s.1 30 2).toInt ≤ 1600 := hT.1 30 2
  have ht1 : (0 : Int) ≤ (s.1 1 1).toInt ∧ (s.1 1 1).toInt ≤ 1600 := hT.1 1 1
  have key : ∀ n : Nat, (∀ (t : oS), (oqX g t) → (oqBl g a (t.1 30 2).toInt) → (a ≤ (t.1 30 2).toInt) → (0 ≤ a) → ((t.1 1 1).toInt = (s.1 1 1).toInt) → 1601 - (t.1 30 2).toInt ≤ (n : Int) → J t 0 [(0, .ref (oad E 30))] []) := by
    intro n
    induction n using Nat.strongRecOn with
    | _ n ih =>
      skip
      · intro t   iv0 iv1 iv2 iv3 iv4 hmu
        refine r_aload_n C (j := 0) (oDec_at oX5_peek 0 rfl) rfl rfl ?_
        obtain ⟨v1, ev1⟩ : ∃ z : Int32, (t).1 30 2 = z := ⟨_, rfl⟩
        have gv1 : (t.1 30 2).toInt = v1.toInt := congrArg Int32.toInt (ev1)
        refine r_geti (k := 2) (lo := 0) (hi := 1600) C v1 oCl5 rfl (by decide) flX5_23 rfl rfl (ev1) rfl rfl (oDec_at oX5_peek 1 rfl) (fun b2 b2h => ?_)
        refine r_aload_n C (j := 0) (oDec_at oX5_peek 2 rfl) rfl rfl ?_
        refine r_getF (k := 0) (b := 1) C oCl5 rfl (by decide) flX5_15 rfl rfl rfl (oDec_at oX5_peek 3 rfl) ?_
        obtain ⟨v3, ev3⟩ : ∃ z : Int32, (t).1 1 1 = z := ⟨_, rfl⟩
        have gv3 : (t.1 1 1).toInt = v3.toInt := congrArg Int32.toInt (ev3)
        refine r_getiN (k := 1) (lo := 0) (hi := 1600) C v3 oCl8 rfl (by decide) flX5_175 rfl rfl (ev3) rfl rfl (oDec_at oX5_peek 4 rfl) (fun b4 b4h => ?_)
        refine r_icmp_ge C 61 (oDec_at oX5_peek 5 rfl) (by decide) (fun cd5 => ?_) (fun cd5 => ?_)
        · skip
          refine r_aload_n C (j := 0) (oDec_at oX5_peek 29 rfl) rfl rfl ?_
          refine r_geti (k := 2) (lo := 0) (hi := 1600) C v1 oCl5 rfl (by decide) flX5_23 rfl rfl (ev1) rfl rfl (oDec_at oX5_peek 30 rfl) (fun _ _ => ?_)
          refine r_aload_n C (j := 0) (oDec_at oX5_peek 31 rfl) rfl rfl ?_
          refine r_getF (k := 0) (b := 1) C oCl5 rfl (by decide) flX5_15 rfl rfl rfl (oDec_at oX5_peek 32 rfl) ?_
          refine r_getiN (k := 1) (lo := 0) (hi := 1600) C v3 oCl8 rfl (by decide) flX5_175 rfl rfl (ev3) rfl rfl (oDec_at oX5_peek 33 rfl) (fun _ _ => ?_)
          refine r_icmp_ge C 90 (oDec_at oX5_peek 34 rfl) (by decide) (fun cd6 => ?_) (fun cd6 => ?_)
          · skip
            have hgn := oqX_no iv0 (a := (t.1 30 2).toInt) (by omega)
            refine r_iconst C (oDec_at oX5_peek 42 rfl) (v := km1) (by rw [qkm1]; rfl) ?_
            have hsk := oqBl_sk iv1 (by omega) (by omega) (by omega)
            have hgs : g (oqSk g a) = g (t.1 30 2).toInt := by rw [hsk]
            have lk7 : ((t).1 30 2).toInt = v1.toInt := congrArg Int32.toInt (ev1)
            have lk8 : ((t).1 30 2).toInt = v1.toInt := congrArg Int32.toInt (ev1)
            have lk9 : ((t).1 30 2).toInt = v1.toInt := congrArg Int32.toInt (ev1)
            exact r_iret C (oDec_at oX5_peek 43 rfl) ⟨_, rfl, ⟨by omega, by omega, by omega, by omega, by omega, by omega⟩⟩
          · skip
            refine r_aload_n C (j := 0) (oDec_at oX5_peek 35 rfl) rfl rfl ?_
            refine r_getF (k := 0) (b := 1) C oCl5 rfl (by decide) flX5_15 rfl rfl rfl (oDec_at oX5_peek 36 rfl) ?_
            refine r_getFN (k := 0) (b := 2) C oCl8 rfl (by decide) flX5_186 rfl rfl rfl (oDec_at oX5_peek 37 rfl) ?_
            refine r_aload_n C (j := 0) (oDec_at oX5_peek 38 rfl) rfl rfl ?_
            refine r_geti (k := 2) (lo := 0) (hi := 1600) C v1 oCl5 rfl (by decide) flX5_23 rfl rfl (ev1) rfl rfl (oDec_at oX5_peek 39 rfl) (fun _ _ => ?_)
            obtain ⟨v11, ev11⟩ : ∃ z : Int32, (t).1 2 v1.toNatClampNeg = z := ⟨_, rfl⟩
            have gv11 : (t.1 2 v1.toNatClampNeg).toInt = v11.toInt := congrArg Int32.toInt (ev11)
            refine r_iald (n := 1600) (lo := 0) (hi := 255) C v11 rfl (by decide) rfl rfl ⟨by omega, by omega⟩ (by decide) ev11 rfl rfl (oDec_at oX5_peek 40 rfl) (fun b10 b10h => ?_)
            refine r_pc C 87 rfl ?_
            have hg87 := oqX_at iv0 ev11 (a := (t.1 30 2).toInt) (by omega) (by omega) (by omega)
            refine r_goto C (tgt := 91) (oDec_at oX5_peek 41 rfl) (by decide) ?_
            have hsk := oqBl_sk iv1 (by omega) (by omega) (by omega)
            have hgs : g (oqSk g a) = g (t.1 30 2).toInt := by rw [hsk]
            have lk12 : ((t).1 30 2).toInt = v1.toInt := congrArg Int32.toInt (ev1)
            have lk13 : ((t).1 30 2).toInt = v1.toInt := congrArg Int32.toInt (ev1)
            have lk14 : ((t).1 30 2).toInt = v1.toInt := congrArg Int32.toInt (ev1)
            exact r_iret C (oDec_at oX5_peek 43 rfl) ⟨_, rfl, ⟨by omega, by omega, by omega, by omega, by omega, by omega⟩⟩
        · skip
          refine r_aload_n C (j := 0) (oDec_at oX5_peek 6 rfl) rfl rfl ?_
          refine r_getF (k := 0) (b := 1) C oCl5 rfl (by decide) flX5_15 rfl rfl rfl (oDec_at oX5_peek 7 rfl) ?_
          refine r_getFN (k := 0) (b := 2) C oCl8 rfl (by decide) flX5_186 rfl rfl rfl (oDec_at oX5_peek 8 rfl) ?_
          refine r_aload_n C (j := 0) (oDec_at oX5_peek 9 rfl) rfl rfl ?_
          refine r_geti (k := 2) (lo := 0) (hi := 1600) C v1 oCl5 rfl (by decide) flX5_23 rfl rfl (ev1) rfl rfl (oDec_at oX5_peek 10 rfl) (fun _ _ => ?_)
          obtain ⟨v16, ev16⟩ : ∃ z : Int32, (t).1 2 v1.toNatClampNeg = z := ⟨_, rfl⟩
          have gv16 : (t.1 2 v1.toNatClampNeg).toInt = v16.toInt := congrArg Int32.toInt (ev16)
          refine r_iald (n := 1600) (lo := 0) (hi := 255) C v16 rfl (by decide) rfl rfl ⟨by omega, by omega⟩ (by decide) ev16 rfl rfl (oDec_at oX5_peek 11 rfl) (fun b15 b15h => ?_)
          refine r_pc C 26 rfl ?_
          have hg26 := oqX_at iv0 ev16 (a := (t.1 30 2).toInt) (by omega) (by omega) (by omega)
          refine r_bipush C (oDec_at oX5_peek 12 rfl) (v := k32) (by rw [qk32]; rfl) ?_
          refine r_icmp_eq C 48 (oDec_at oX5_peek 13 rfl) (by decide) (fun cd17 => ?_) (fun cd17 => ?_)
          · skip
            refine r_aload_n C (j := 0) (oDec_at oX5_peek 22 rfl) rfl rfl ?_
            refine r_dup C (oDec_at oX5_peek 23 rfl) rfl ?_
            refine r_geti (k := 2) (lo := 0) (hi := 1600) C v1 oCl5 rfl (by decide) flX5_23 rfl rfl (ev1) rfl rfl (oDec_at oX5_peek 24 rfl) (fun _ _ => ?_)
            refine r_iconst C (oDec_at oX5_peek 25 rfl) (v := k1) (by rw [qk1]; rfl) ?_
            obtain ⟨v18, ev18⟩ : ∃ z : Int32, z = v1 + k1 := ⟨_, rfl⟩
            have hv18 : v18.toInt = v1.toInt + k1.toInt := n_add ev18 (by omega) (by omega)
            refine r_iadd C v18 (oDec_at oX5_peek 26 rfl) ev18 ?_
            refine r_puti (k := 2) (lo := 0) (hi := 1600) C oCl5 rfl (by decide) flX5_23 rfl rfl rfl rfl rfl rfl rfl rfl ⟨by omega, by omega⟩ (oDec_at oX5_peek 27 rfl) ?_
            refine r_pc C 58 rfl ?_
            refine r_goto C (tgt := 0) (oDec_at oX5_peek 28 rfl) (by decide) ?_
            have lk19 : (((pI t 30 2 v18)).1 30 2).toInt = v18.toInt := congrArg Int32.toInt ((pI_self _ _ _ _))
            have lk20 : (((pI t 30 2 v18)).1 30 2).toInt = v18.toInt := congrArg Int32.toInt ((pI_self _ _ _ _))
            have lk21 : (((pI t 30 2 v18)).1 1 1).toInt = v3.toInt := congrArg Int32.toInt (((pI_ne (a := 1) (b := 1) (c := 30) _ _ (Or.inl (by decide)))).trans (ev3))
            have lk22 : (((pI t 30 2 v18)).1 30 2).toInt = v18.toInt := congrArg Int32.toInt ((pI_self _ _ _ _))
            exact (ih (n - 1) (by omega)) ((pI t 30 2 v18))   (oqX_fr (oFr_oneI (q := 5) (m := 2) rfl (by rfl)) rfl iv0) (by first | exact oqBl_nx iv1 (by omega) (by omega) | (rw [hp0]; exact oqBl_0)) (by omega) (by omega) (by omega) (by omega)
          · skip
            refine r_aload_n C (j := 0) (oDec_at oX5_peek 14 rfl) rfl rfl ?_
            refine r_getF (k := 0) (b := 1) C oCl5 rfl (by decide) flX5_15 rfl rfl rfl (oDec_at oX5_peek 15 rfl) ?_
            refine r_getFN (k := 0) (b := 2) C oCl8 rfl (by decide) flX5_186 rfl rfl rfl (oDec_at oX5_peek 16 rfl) ?_
            refine r_aload_n C (j := 0) (oDec_at oX5_peek 17 rfl) rfl rfl ?_
            refine r_geti (k := 2) (lo := 0) (hi := 1600) C v1 oCl5 rfl (by decide) flX5_23 rfl rfl (ev1) rfl rfl (oDec_at oX5_peek 18 rfl) (fun _ _ => ?_)
            refine r_iald (n := 1600) (lo := 0) (hi := 255) C v16 rfl (by decide) rfl rfl ⟨by omega, by omega⟩ (by decide) (ev16) rfl rfl (oDec_at oX5_peek 19 rfl) (fun b23 b23h => ?_)
            refine r_pc C 43 rfl ?_
            refine r_bipush C (oDec_at oX5_peek 20 rfl) (v := k10) (by rw [qk10]; rfl) ?_
            refine r_icmp_ne C 61 (oDec_at oX5_peek 21 rfl) (by decide) (fun cd24 => ?_) (fun cd24 => ?_)
            · skip
              refine r_aload_n C (j := 0) (oDec_at oX5_peek 29 rfl) rfl rfl ?_
              refine r_geti (k := 2) (lo := 0) (hi := 1600) C v1 oCl5 rfl (by decide) flX5_23 rfl rfl (ev1) rfl rfl (oDec_at oX5_peek 30 rfl) (fun _ _ => ?_)
              refine r_aload_n C (j := 0) (oDec_at oX5_peek 31 rfl) rfl rfl ?_
              refine r_getF (k := 0) (b := 1) C oCl5 rfl (by decide) flX5_15 rfl rfl rfl (oDec_at oX5_peek 32 rfl) ?_
              refine r_getiN (k := 1) (lo := 0) (hi := 1600) C v3 oCl8 rfl (by decide) flX5_175 rfl rfl (ev3) rfl rfl (oDec_at oX5_peek 33 rfl) (fun _ _ => ?_)
              refine r_icmp_ge C 90 (oDec_at oX5_peek 34 rfl) (by decide) (fun cd25 => ?_) (fun cd25 => ?_)
              · skip
                have hgn := oqX_no iv0 (a := (t.1 30 2).toInt) (by omega)
                refine r_iconst C (oDec_at oX5_peek 42 rfl) (v := km1) (by rw [qkm1]; rfl) ?_
                have hsk := oqBl_sk iv1 (by omega) (by omega) (by omega)
                have hgs : g (oqSk g a) = g (t.1 30 2).toInt := by rw [hsk]
                have lk26 : ((t).1 30 2).toInt = v1.toInt := congrArg Int32.toInt (ev1)
                have lk27 : ((t).1 30 2).toInt = v1.toInt := congrArg Int32.toInt (ev1)
                have lk28 : ((t).1 30 2).toInt = v1.toInt := congrArg Int32.toInt (ev1)
                exact r_iret C (oDec_at oX5_peek 43 rfl) ⟨_, rfl, ⟨by omega, by omega, by omega, by omega, by omega, by omega⟩⟩
              · skip
                refine r_aload_n C (j := 0) (oDec_at oX5_peek 35 rfl) rfl rfl ?_
                refine r_getF (k := 0) (b := 1) C oCl5 rfl (by decide) flX5_15 rfl rfl rfl (oDec_at oX5_peek 36 rfl) ?_
                refine r_getFN (k := 0) (b := 2) C oCl8 rfl (by decide) flX5_186 rfl rfl rfl (oDec_at oX5_peek 37 rfl) ?_
                refine r_aload_n C (j := 0) (oDec_at oX5_peek 38 rfl) rfl rfl ?_
                refine r_geti (k := 2) (lo := 0) (hi := 1600) C v1 oCl5 rfl (by decide) flX5_23 rfl rfl (ev1) rfl rfl (oDec_at oX5_peek 39 rfl) (fun _ _ => ?_)
                refine r_iald (n := 1600) (lo := 0) (hi := 255) C v16 rfl (by decide) rfl rfl ⟨by omega, by omega⟩ (by decide) (ev16) rfl rfl (oDec_at oX5_peek 40 rfl) (fun b29 b29h => ?_)
                refine r_pc C 87 rfl ?_
                have hg87 := oqX_at iv0 ev16 (a := (t.1 30 2).toInt) (by omega) (by omega) (by omega)
                refine r_goto C (tgt := 91) (oDec_at oX5_peek 41 rfl) (by decide) ?_
                have hsk := oqBl_sk iv1 (by omega) (by omega) (by omega)
                have hgs : g (oqSk g a) = g (t.1 30 2).toInt := by rw [hsk]
                have lk30 : ((t).1 30 2).toInt = v1.toInt := congrArg Int32.toInt (ev1)
                have lk31 : ((t).1 30 2).toInt = v1.toInt := congrArg Int32.toInt (ev1)
                have lk32 : ((t).1 30 2).toInt = v1.toInt := congrArg Int32.toInt (ev1)
                exact r_iret C (oDec_at oX5_peek 43 rfl) ⟨_, rfl, ⟨by omega, by omega, by omega, by omega, by omega, by omega⟩⟩
            · skip
              refine r_aload_n C (j := 0) (oDec_at oX5_peek 22 rfl) rfl rfl ?_
              refine r_dup C (oDec_at oX5_peek 23 rfl) rfl ?_
              refine r_geti (k := 2) (lo := 0) (hi := 1600) C v1 oCl5 rfl (by decide) flX5_23 rfl rfl (ev1) rfl rfl (oDec_at oX5_peek 24 rfl) (fun _ _ => ?_)
              refine r_iconst C (oDec_at oX5_peek 25 rfl) (v := k1) (by rw [qk1]; rfl) ?_
              obtain ⟨v33, ev33⟩ : ∃ z : Int32, z = v1 + k1 := ⟨_, rfl⟩
              have hv33 : v33.toInt = v1.toInt + k1.toInt := n_add ev33 (by omega) (by omega)
              refine r_iadd C v33 (oDec_at oX5_peek 26 rfl) ev33 ?_
              refine r_puti (k := 2) (lo := 0) (hi := 1600) C oCl5 rfl (by decide) flX5_23 rfl rfl rfl rfl rfl rfl rfl rfl ⟨by omega, by omega⟩ (oDec_at oX5_peek 27 rfl) ?_
              refine r_pc C 58 rfl ?_
              refine r_goto C (tgt := 0) (oDec_at oX5_peek 28 rfl) (by decide) ?_
              have lk34 : (((pI t 30 2 v33)).1 30 2).toInt = v33.toInt := congrArg Int32.toInt ((pI_self _ _ _ _))
              have lk35 : (((pI t 30 2 v33)).1 30 2).toInt = v33.toInt := congrArg Int32.toInt ((pI_self _ _ _ _))
              have lk36 : (((pI t 30 2 v33)).1 1 1).toInt = v3.toInt := congrArg Int32.toInt (((pI_ne (a := 1) (b := 1) (c := 30) _ _ (Or.inl (by decide)))).trans (ev3))
              have lk37 : (((pI t 30 2 v33)).1 30 2).toInt = v33.toInt := congrArg Int32.toInt ((pI_self _ _ _ _))
              exact (ih (n - 1) (by omega)) ((pI t 30 2 v33))   (oqX_fr (oFr_oneI (q := 5) (m := 2) rfl (by rfl)) rfl iv0) (by first | exact oqBl_nx iv1 (by omega) (by omega) | (rw [hp0]; exact oqBl_0)) (by omega) (by omega) (by omega) (by omega)
  exact (key (1601 - ((s).1 30 2).toInt).toNat) (s)   hp1 (by first | (rw [hp0]; exact oqBl_0)) (by omega) (by omega) (by omega) (by omega)
set_option maxHeartbeats 4000000 in
set_option maxRecDepth 100000 in
theorem ct4_X5_passWord (l : Launch) (E : oE) (s : oS)    : oMet l 1 yX5_passWord cX5_passWord 1 none [(5, 2), (5, 3)] E s [.ref (oad E 30)] (oPv (fun u => ((u.1 30 2).toInt = (s.1 30 4).toInt) ∧ ((u.1 30 3).toInt = (s.1 30 4).toInt))) := by
  refine oMet.of (lv := [(0, .ref (oad E 30))]) (by decide +kernel) (Nat.le_of_ble_eq_true rfl) rfl (fun J C hT => ?_)
  have C : oC l 1 cX5_passWord RX5 1 none [(5, 2), (5, 3)] E s (oPv (fun u => ((u.1 30 2).toInt = (s.1 30 4).toInt) ∧ ((u.1 30 3).toInt = (s.1 30 4).toInt))) J := C
  refine r_aload_n C (j := 0) (oDec_at oX5_passWord 0 rfl) rfl rfl ?_
  refine r_aload_n C (j := 0) (oDec_at oX5_passWord 1 rfl) rfl rfl ?_
  obtain ⟨v1, ev1⟩ : ∃ z : Int32, (s).1 30 4 = z := ⟨_, rfl⟩
  have gv1 : (s.1 30 4).toInt = v1.toInt := congrArg Int32.toInt (ev1)
  refine r_geti (k := 4) (lo := 0) (hi := 1600) C v1 oCl5 rfl (by decide) flX5_130 rfl rfl (ev1) rfl rfl (oDec_at oX5_passWord 2 rfl) (fun b2 b2h => ?_)
  refine r_puti (k := 2) (lo := 0) (hi := 1600) C oCl5 rfl (by decide) flX5_23 rfl rfl rfl rfl rfl rfl rfl rfl ⟨by omega, by omega⟩ (oDec_at oX5_passWord 3 rfl) ?_
  refine r_aload_n C (j := 0) (oDec_at oX5_passWord 4 rfl) rfl rfl ?_
  refine r_aload_n C (j := 0) (oDec_at oX5_passWord 5 rfl) rfl rfl ?_
  refine r_pc C 10 rfl ?_
  refine r_geti (k := 4) (lo := 0) (hi := 1600) C v1 oCl5 rfl (by decide) flX5_130 rfl rfl (((pI_ne (a := 30) (b := 4) (c := 30) (k := 2) _ _ (Or.inr (by decide)))).trans (ev1)) rfl rfl (oDec_at oX5_passWord 6 rfl) (fun _ _ => ?_)
  refine r_puti (k := 3) (lo := (-1)) (hi := 1600) C oCl5 rfl (by decide) flX5_26 rfl rfl rfl rfl rfl rfl rfl rfl ⟨by omega, by omega⟩ (oDec_at oX5_passWord 7 rfl) ?_
  have lk3 : (((pI (pI s 30 2 v1) 30 3 v1)).1 30 2).toInt = v1.toInt := congrArg Int32.toInt (((pI_ne (a := 30) (b := 2) (c := 30) (k := 3) _ _ (Or.inr (by decide)))).trans ((pI_self _ _ _ _)))
  have lk4 : (((pI (pI s 30 2 v1) 30 3 v1)).1 30 3).toInt = v1.toInt := congrArg Int32.toInt ((pI_self _ _ _ _))
  exact r_vret C (oDec_at oX5_passWord 8 rfl) ⟨rfl, ⟨by omega, by omega⟩⟩
set_option maxHeartbeats 4000000 in
set_option maxRecDepth 100000 in
theorem ct4_X5_wordAhead (l : Launch) (E : oE) (s : oS)  (g : Int → Int) (a : Int) (b : Int) (hp0 : (s.1 30 2).toInt = a) (hp1 : (s.1 30 3).toInt = b) (hp2 : oqX g s) : oMet l 5 yX5_wordAhead cX5_wordAhead 3 (some .int) [(5, 2), (5, 4)] E s [.ref (oad E 30)] (oPi (fun r u => ((u.1 30 2).toInt = oqSk g a) ∧ (a ≤ oqSk g a) ∧ (∀ i : Nat, i < 26 → (r.toInt = (i : Int) ↔ oqH g a b i = 1)) ∧ (0 ≤ r.toInt → (u.1 30 4).toInt = oqSk g a + (oqWl r.toInt.toNat : Int)) ∧ (-1 ≤ r.toInt ∧ r.toInt ≤ 25) ∧ (g (oqSk g a) ≠ 32 ∧ g (oqSk g a) ≠ 10))) := by
  refine oMet.of (lv := [(0, .ref (oad E 30))]) (by decide +kernel) (Nat.le_of_ble_eq_true rfl) rfl (fun J C hT => ?_)
  have C : oC l 5 cX5_wordAhead RX5 3 (some .int) [(5, 2), (5, 4)] E s (oPi (fun r u => ((u.1 30 2).toInt = oqSk g a) ∧ (a ≤ oqSk g a) ∧ (∀ i : Nat, i < 26 → (r.toInt = (i : Int) ↔ oqH g a b i = 1)) ∧ (0 ≤ r.toInt → (u.1 30 4).toInt = oqSk g a + (oqWl r.toInt.toNat : Int)) ∧ (-1 ≤ r.toInt ∧ r.toInt ≤ 25) ∧ (g (oqSk g a) ≠ 32 ∧ g (oqSk g a) ≠ 10))) J := C
  obtain ⟨km1, qkm1⟩ : ∃ z : Int32, z = (-1) := ⟨_, rfl⟩
  have ekm1 : km1.toInt = (-1) := by rw [qkm1]; rfl
  obtain ⟨k0, qk0⟩ : ∃ z : Int32, z = 0 := ⟨_, rfl⟩
  have ek0 : k0.toInt = 0 := by rw [qk0]; rfl
  obtain ⟨k1, qk1⟩ : ∃ z : Int32, z = 1 := ⟨_, rfl⟩
  have ek1 : k1.toInt = 1 := by rw [qk1]; rfl
  obtain ⟨k7, qk7⟩ : ∃ z : Int32, z = 7 := ⟨_, rfl⟩
  have ek7 : k7.toInt = 7 := by rw [qk7]; rfl
  obtain ⟨k32, qk32⟩ : ∃ z : Int32, z = 32 := ⟨_, rfl⟩
  have ek32 : k32.toInt = 32 := by rw [qk32]; rfl
  have key : ∀ n : Nat, (∀ (t : oS), (oqX g t) → ((t.1 30 2).toInt = oqSk g a) → ((t.1 30 3).toInt = b) → (a ≤ oqSk g a) → (oqSk g a ≠ b) → ((t.1 30 2).toInt ≤ (t.1 30 4).toInt) → (oqRun g (oqSk g a) (t.1 30 4).toInt) → (97 ≤ g (oqSk g a) ∧ g (oqSk g a) ≤ 122) → ((t.1 30 4).toInt ≤ 1600) → (g (oqSk g a) ≠ 32 ∧ g (oqSk g a) ≠ 10) → 11601 - (t.1 30 4).toInt ≤ (n : Int) → J t 31 [(0, .ref (oad E 30))] []) ∧ (∀ (t : oS) (x1 : Int32), (oqX g t) → ((t.1 30 2).toInt = oqSk g a) → ((t.1 30 3).toInt = b) → (a ≤ oqSk g a) → (oqSk g a ≠ b) → ((t.1 30 2).toInt ≤ (t.1 30 4).toInt) → (oqRun g (oqSk g a) (t.1 30 4).toInt) → (¬ (97 ≤ g (t.1 30 4).toInt ∧ g (t.1 30 4).toInt ≤ 122)) → (0 ≤ x1.toInt ∧ x1.toInt ≤ 182 ∧ x1.toInt % 7 = 0) → (oqNo g (oqSk g a) x1.toInt) → (g (oqSk g a) ≠ 32 ∧ g (oqSk g a) ≠ 10) → 5000 - 10 * x1.toInt ≤ (n : Int) → J t 77 [(0, .ref (oad E 30)), (1, .int x1)] []) ∧ (∀ (t : oS) (x1 : Int32) (x2 : Int32), (oqX g t) → ((t.1 30 2).toInt = oqSk g a) → ((t.1 30 3).toInt = b) → (a ≤ oqSk g a) → (oqSk g a ≠ b) → ((t.1 30 2).toInt ≤ (t.1 30 4).toInt) → (oqRun g (oqSk g a) (t.1 30 4).toInt) → (¬ (97 ≤ g (t.1 30 4).toInt ∧ g (t.1 30 4).toInt ≤ 122)) → (0 ≤ x1.toInt ∧ x1.toInt ≤ 175 ∧ x1.toInt % 7 = 0) → (oqNo g (oqSk g a) x1.toInt) → ((t.1 30 4).toInt - (t.1 30 2).toInt ≤ 7) → (0 ≤ x2.toInt ∧ x2.toInt ≤ 7) → (g (oqSk g a) ≠ 32 ∧ g (oqSk g a) ≠ 10) → (oqMt g (oqSk g a) (t.1 30 4).toInt (x1.toNatClampNeg / 7) x2.toInt) → 5000 - 10 * x1.toInt - 1 - x2.toInt ≤ (n : Int) → J t 105 [(0, .ref (oad E 30)), (1, .int x1), (2, .int x2)] []) := by
    intro n
    induction n using Nat.strongRecOn with
    | _ n ih =>
      refine ⟨?_, ?_, ?_⟩
      · intro t   iv0 iv1 iv2 iv3 iv4 iv5 iv6 iv7 iv8 iv9 hmu
        refine r_aload_n C (j := 0) (oDec_at oX5_wordAhead 15 rfl) rfl rfl ?_
        obtain ⟨v1, ev1⟩ : ∃ z : Int32, (t).1 30 4 = z := ⟨_, rfl⟩
        have gv1 : (t.1 30 4).toInt = v1.toInt := congrArg Int32.toInt (ev1)
        refine r_geti (k := 4) (lo := 0) (hi := 1600) C v1 oCl5 rfl (by decide) flX5_130 rfl rfl (ev1) rfl rfl (oDec_at oX5_wordAhead 16 rfl) (fun b2 b2h => ?_)
        refine r_aload_n C (j := 0) (oDec_at oX5_wordAhead 17 rfl) rfl rfl ?_
        refine r_getF (k := 0) (b := 1) C oCl5 rfl (by decide) flX5_15 rfl rfl rfl (oDec_at oX5_wordAhead 18 rfl) ?_
        obtain ⟨v3, ev3⟩ : ∃ z : Int32, (t).1 1 1 = z := ⟨_, rfl⟩
        have gv3 : (t.1 1 1).toInt = v3.toInt := congrArg Int32.toInt (ev3)
        refine r_getiN (k := 1) (lo := 0) (hi := 1600) C v3 oCl8 rfl (by decide) flX5_175 rfl rfl (ev3) rfl rfl (oDec_at oX5_wordAhead 19 rfl) (fun b4 b4h => ?_)
        refine r_icmp_ge C 75 (oDec_at oX5_wordAhead 20 rfl) (by decide) (fun cd5 => ?_) (fun cd5 => ?_)
        · skip
          have hnl : ¬ (97 ≤ g (t.1 30 4).toInt ∧ g (t.1 30 4).toInt ≤ 122) := by first | omega | (have h9 := oqX_no iv0 (a := (t.1 30 4).toInt) (by omega); omega)
          refine r_iconst C (oDec_at oX5_wordAhead 35 rfl) (v := k0) (by rw [qk0]; rfl) ?_
          refine r_istore_n C (lv' := [(0, .ref (oad E 30)), (1, .int k0)]) [1, 0] (oDec_at oX5_wordAhead 36 rfl) rfl (by decide) rfl ?_
          have lk6 : ((t).1 30 4).toInt = v1.toInt := congrArg Int32.toInt (ev1)
          exact (ih (n - 1) (by omega)).2.1 (t) k0  iv0 (by omega) (by omega) (by omega) (by omega) (by omega) (by first | exact iv6 | exact iv7) (by first | exact iv7 | exact hnl) (by omega) (by first | exact oqNo_0 (by omega)) (by omega) (by omega)
        · skip
          refine r_aload_n C (j := 0) (oDec_at oX5_wordAhead 21 rfl) rfl rfl ?_
          refine r_getF (k := 0) (b := 1) C oCl5 rfl (by decide) flX5_15 rfl rfl rfl (oDec_at oX5_wordAhead 22 rfl) ?_
          refine r_aload_n C (j := 0) (oDec_at oX5_wordAhead 23 rfl) rfl rfl ?_
          refine r_geti (k := 4) (lo := 0) (hi := 1600) C v1 oCl5 rfl (by decide) flX5_130 rfl rfl (ev1) rfl rfl (oDec_at oX5_wordAhead 24 rfl) (fun _ _ => ?_)
          have lk7 : ((t).1 1 1).toInt = v3.toInt := congrArg Int32.toInt (ev3)
          have lk8 : ((t).1 1 1).toInt = v3.toInt := congrArg Int32.toInt (ev3)
          refine r_callVi C oCl8 rfl miX8_at mlX5_133 (ct4_X8_at l E (t) v1 (g) ((t.1 30 4).toInt) (by omega) iv0) (by decide) rfl rfl rfl (Nat.le_of_ble_eq_true rfl) (oDec_at oX5_wordAhead 25 rfl) (fun r10 u9 pu9 fu9 => ?_)
          try dsimp only at pu9
          try simp only [lk7, lk8] at pu9
          obtain ⟨pu9_0, pu9_1, pu9_2, pu9_3⟩ := pu9
          have hxu9 := oFr_nil fu9; subst hxu9
          have rr10 := n_rng r10
          refine r_callSi C miX5_isLetter mlX5_127 (ct_X5_isLetter l E (t) r10 ) (by decide) rfl rfl rfl (Nat.le_of_ble_eq_true rfl) (oDec_at oX5_wordAhead 26 rfl) (fun r12 u11 pu11 fu11 => ?_)
          try dsimp only at pu11
          obtain ⟨pu11_0, pu11_1⟩ := pu11
          have hxu11 := oFr_nil fu11; subst hxu11
          have rr12 := n_rng r12
          refine r_pc C 59 rfl ?_
          refine r_if_eq C 75 (oDec_at oX5_wordAhead 27 rfl) (by decide) (fun cd13 => ?_) (fun cd13 => ?_)
          · skip
            have hnl : ¬ (97 ≤ g (t.1 30 4).toInt ∧ g (t.1 30 4).toInt ≤ 122) := by first | omega | (have h9 := oqX_no iv0 (a := (t.1 30 4).toInt) (by omega); omega)
            refine r_iconst C (oDec_at oX5_wordAhead 35 rfl) (v := k0) (by rw [qk0]; rfl) ?_
            refine r_istore_n C (lv' := [(0, .ref (oad E 30)), (1, .int k0)]) [1, 0] (oDec_at oX5_wordAhead 36 rfl) rfl (by decide) rfl ?_
            have lk14 : ((t).1 30 4).toInt = v1.toInt := congrArg Int32.toInt (ev1)
            exact (ih (n - 1) (by omega)).2.1 (t) k0  iv0 (by omega) (by omega) (by omega) (by omega) (by omega) (by first | exact iv6 | exact iv7) (by first | exact iv7 | exact hnl) (by omega) (by first | exact oqNo_0 (by omega)) (by omega) (by omega)
          · skip
            refine r_aload_n C (j := 0) (oDec_at oX5_wordAhead 28 rfl) rfl rfl ?_
            refine r_dup C (oDec_at oX5_wordAhead 29 rfl) rfl ?_
            refine r_geti (k := 4) (lo := 0) (hi := 1600) C v1 oCl5 rfl (by decide) flX5_130 rfl rfl (ev1) rfl rfl (oDec_at oX5_wordAhead 30 rfl) (fun _ _ => ?_)
            refine r_iconst C (oDec_at oX5_wordAhead 31 rfl) (v := k1) (by rw [qk1]; rfl) ?_
            obtain ⟨v15, ev15⟩ : ∃ z : Int32, z = v1 + k1 := ⟨_, rfl⟩
            have hv15 : v15.toInt = v1.toInt + k1.toInt := n_add ev15 (by omega) (by omega)
            refine r_iadd C v15 (oDec_at oX5_wordAhead 32 rfl) ev15 ?_
            refine r_puti (k := 4) (lo := 0) (hi := 1600) C oCl5 rfl (by decide) flX5_130 rfl rfl rfl rfl rfl rfl rfl rfl ⟨by omega, by omega⟩ (oDec_at oX5_wordAhead 33 rfl) ?_
            refine r_pc C 72 rfl ?_
            refine r_goto C (tgt := 31) (oDec_at oX5_wordAhead 34 rfl) (by decide) ?_
            have lk16 : (((pI t 30 4 v15)).1 30 2).toInt = (t.1 30 2).toInt := congrArg Int32.toInt ((pI_ne (a := 30) (b := 2) (c := 30) (k := 4) _ _ (Or.inr (by decide))))
            have lk17 : (((pI t 30 4 v15)).1 30 3).toInt = (t.1 30 3).toInt := congrArg Int32.toInt ((pI_ne (a := 30) (b := 3) (c := 30) (k := 4) _ _ (Or.inr (by decide))))
            have lk18 : (((pI t 30 4 v15)).1 30 2).toInt = (t.1 30 2).toInt := congrArg Int32.toInt ((pI_ne (a := 30) (b := 2) (c := 30) (k := 4) _ _ (Or.inr (by decide))))
            have lk19 : (((pI t 30 4 v15)).1 30 4).toInt = v15.toInt := congrArg Int32.toInt ((pI_self _ _ _ _))
            have lk20 : (((pI t 30 4 v15)).1 30 4).toInt = v15.toInt := congrArg Int32.toInt ((pI_self _ _ _ _))
            have lk21 : (((pI t 30 4 v15)).1 30 4).toInt = v15.toInt := congrArg Int32.toInt ((pI_self _ _ _ _))
            exact (ih (n - 1) (by omega)).1 ((pI t 30 4 v15))   (oqX_fr (oFr_oneI (q := 5) (m := 4) rfl (by rfl)) rfl iv0) (by omega) (by omega) (by omega) (by omega) (by omega) (by first | exact oqRun_nx iv6 (by omega) (by omega) | (rw [show (((pI t 30 4 v15)).1 30 4).toInt = oqSk g a by omega]; exact oqRun_0)) (by omega) (by omega) (by omega) (by omega)
      · intro t x1  iv0 iv1 iv2 iv3 iv4 iv5 iv6 iv7 iv8 iv9 iv10 hmu
        have rx1 := n_rng x1
        have hn1 := n_nat x1
        refine r_iload_n C (j := 1) (oDec_at oX5_wordAhead 37 rfl) rfl rfl ?_
        refine r_bipush C (oDec_at oX5_wordAhead 38 rfl) (v := k7) (by rw [qk7]; rfl) ?_
        obtain ⟨v22, ev22⟩ : ∃ z : Int32, z = x1 + k7 := ⟨_, rfl⟩
        have hv22 : v22.toInt = x1.toInt + k7.toInt := n_add ev22 (by omega) (by omega)
        refine r_iadd C v22 (oDec_at oX5_wordAhead 39 rfl) ev22 ?_
        refine r_ldcS C (oDec_at oX5_wordAhead 40 rfl) ?_
        refine r_callKi C miJ0_length_8abf5 mlX5_178 (ct_J0_length_8abf5 l E (t)  ) (by decide) rfl rfl rfl (Nat.le_of_ble_eq_true rfl) (oDec_at oX5_wordAhead 41 rfl) (fun r23 u24 pu24 fu24 => ?_)
        try dsimp only at pu24
        have rr23 := n_rng r23
        have hxu24 := oFr_nil fu24; subst hxu24
        refine r_icmp_gt C 176 (oDec_at oX5_wordAhead 42 rfl) (by decide) (fun cd25 => ?_) (fun cd25 => ?_)
        · skip
          refine r_iconst C (oDec_at oX5_wordAhead 88 rfl) (v := km1) (by rw [qkm1]; rfl) ?_
          exact r_iret C (oDec_at oX5_wordAhead 89 rfl) ⟨_, rfl, ⟨by omega, by omega, by first | exact oqW_no (by omega) (fun i hi h => iv9 i (by omega) hi h.1) | exact oqW_no (by omega) (fun i hi h => by have h9 := oqIs_W hi h.1 iv6 iv7 (by omega); have h8 := oq_w1 i hi; omega), fun h => by omega, by omega, by omega⟩⟩
        · skip
          refine r_aload_n C (j := 0) (oDec_at oX5_wordAhead 43 rfl) rfl rfl ?_
          obtain ⟨v26, ev26⟩ : ∃ z : Int32, (t).1 30 4 = z := ⟨_, rfl⟩
          have gv26 : (t.1 30 4).toInt = v26.toInt := congrArg Int32.toInt (ev26)
          refine r_geti (k := 4) (lo := 0) (hi := 1600) C v26 oCl5 rfl (by decide) flX5_130 rfl rfl (ev26) rfl rfl (oDec_at oX5_wordAhead 44 rfl) (fun b27 b27h => ?_)
          refine r_aload_n C (j := 0) (oDec_at oX5_wordAhead 45 rfl) rfl rfl ?_
          obtain ⟨v28, ev28⟩ : ∃ z : Int32, (t).1 30 2 = z := ⟨_, rfl⟩
          have gv28 : (t.1 30 2).toInt = v28.toInt := congrArg Int32.toInt (ev28)
          refine r_geti (k := 2) (lo := 0) (hi := 1600) C v28 oCl5 rfl (by decide) flX5_23 rfl rfl (ev28) rfl rfl (oDec_at oX5_wordAhead 46 rfl) (fun b29 b29h => ?_)
          obtain ⟨v30, ev30⟩ : ∃ z : Int32, z = v26 - v28 := ⟨_, rfl⟩
          have hv30 : v30.toInt = v26.toInt - v28.toInt := n_sub ev30 (by omega) (by omega)
          refine r_isub C v30 (oDec_at oX5_wordAhead 47 rfl) ev30 ?_
          refine r_bipush C (oDec_at oX5_wordAhead 48 rfl) (v := k7) (by rw [qk7]; rfl) ?_
          refine r_pc C 100 rfl ?_
          refine r_icmp_gt C 176 (oDec_at oX5_wordAhead 49 rfl) (by decide) (fun cd31 => ?_) (fun cd31 => ?_)
          · skip
            refine r_iconst C (oDec_at oX5_wordAhead 88 rfl) (v := km1) (by rw [qkm1]; rfl) ?_
            have lk32 : ((t).1 30 2).toInt = v28.toInt := congrArg Int32.toInt (ev28)
            exact r_iret C (oDec_at oX5_wordAhead 89 rfl) ⟨_, rfl, ⟨by omega, by omega, by first | exact oqW_no (by omega) (fun i hi h => iv9 i (by omega) hi h.1) | exact oqW_no (by omega) (fun i hi h => by have h9 := oqIs_W hi h.1 iv6 iv7 (by omega); have h8 := oq_w1 i hi; omega), fun h => by omega, by omega, by omega⟩⟩
          · skip
            refine r_iconst C (oDec_at oX5_wordAhead 50 rfl) (v := k0) (by rw [qk0]; rfl) ?_
            refine r_istore_n C (lv' := [(0, .ref (oad E 30)), (1, .int x1), (2, .int k0)]) [1, 2, 0] (oDec_at oX5_wordAhead 51 rfl) rfl (by decide) rfl ?_
            have lk33 : ((t).1 30 2).toInt = v28.toInt := congrArg Int32.toInt (ev28)
            have lk34 : ((t).1 30 2).toInt = v28.toInt := congrArg Int32.toInt (ev28)
            have lk35 : ((t).1 30 4).toInt = v26.toInt := congrArg Int32.toInt (ev26)
            have lk36 : ((t).1 30 4).toInt = v26.toInt := congrArg Int32.toInt (ev26)
            have lk37 : ((t).1 30 2).toInt = v28.toInt := congrArg Int32.toInt (ev28)
            exact (ih (n - 1) (by omega)).2.2 (t) x1 k0  iv0 (by omega) (by omega) (by omega) (by omega) (by omega) (by first | exact iv6 | exact iv7) (by first | exact iv7 | exact hnl) (by omega) (by exact iv9) (by omega) (by omega) (by omega) (by first | exact oqMt_0 (by omega)) (by omega)
      · intro t x1 x2  iv0 iv1 iv2 iv3 iv4 iv5 iv6 iv7 iv8 iv9 iv10 iv11 iv12 iv13 hmu
        have rx1 := n_rng x1
        have rx2 := n_rng x2
        have hn1 := n_nat x1
        have hn2 := n_nat x2
        refine r_iload_n C (j := 2) (oDec_at oX5_wordAhead 52 rfl) rfl rfl ?_
        refine r_bipush C (oDec_at oX5_wordAhead 53 rfl) (v := k7) (by rw [qk7]; rfl) ?_
        refine r_icmp_ge C 159 (oDec_at oX5_wordAhead 54 rfl) (by decide) (fun cd38 => ?_) (fun cd38 => ?_)
        · skip
          have hmm : x2.toInt = 7 ∨ ¬ oqIs g (oqSk g a) (x1.toNatClampNeg / 7) := by first | (left; omega) | (right; intro h; have h9 := oqIs_mt (j := x2.toNatClampNeg) (by omega) (by omega) h iv6 iv7 (by omega); first | (rw [if_pos (by omega)] at h9; omega) | (rw [if_neg (by omega)] at h9; omega))
          refine r_iload_n C (j := 2) (oDec_at oX5_wordAhead 79 rfl) rfl rfl ?_
          refine r_bipush C (oDec_at oX5_wordAhead 80 rfl) (v := k7) (by rw [qk7]; rfl) ?_
          refine r_icmp_ne C 170 (oDec_at oX5_wordAhead 81 rfl) (by decide) (fun cd39 => ?_) (fun cd39 => ?_)
          · skip
            obtain ⟨v40, ev40⟩ : ∃ z : Int32, x1 + Int32.ofInt 7 = z := ⟨_, rfl⟩
            have hv40 : v40.toInt = x1.toInt + 7 := n_inc ev40 (by decide) (by omega) (by omega)
            refine r_iinc C (j := 1) (lv' := [(0, .ref (oad E 30)), (1, .int v40), (2, .int x2)]) v40 [1, 0, 2] (oDec_at oX5_wordAhead 86 rfl) rfl ev40 (by decide) rfl ?_
            refine r_goto C (tgt := 77) (oDec_at oX5_wordAhead 87 rfl) (by decide) ?_
            refine r_pick C [0, 1] rfl ?_
            exact (ih (n - 1) (by omega)).2.1 (t) v40  iv0 (by omega) (by omega) (by omega) (by omega) (by omega) (by first | exact iv6 | exact iv7) (by first | exact iv7 | exact hnl) (by omega) (by first | exact oqNo_nx (i0 := x1.toNatClampNeg / 7) iv9 (by omega) (by omega) (hmm.resolve_left (by omega)) | exact oqNo_0 (by omega)) (by omega) (by omega)
          · skip
            have his : oqIs g (oqSk g a) (x1.toNatClampNeg / 7) := oqMt_is (by omega) iv13 (by omega) iv6 iv7 (by omega) (by omega)
            have hws := oqIs_W (by omega) his iv6 iv7 (by omega)
            refine r_iload_n C (j := 1) (oDec_at oX5_wordAhead 82 rfl) rfl rfl ?_
            refine r_bipush C (oDec_at oX5_wordAhead 83 rfl) (v := k7) (by rw [qk7]; rfl) ?_
            obtain ⟨v41, ev41⟩ : ∃ z : Int32, z = x1 / k7 := ⟨_, rfl⟩
            have hv41 := n_divP (k := 7) ev41 ek7 (by decide)
            have rv41 := n_rng v41
            refine r_idiv C v41 (oDec_at oX5_wordAhead 84 rfl) (n_ne0 (by omega)) ev41 ?_
            exact r_iret C (oDec_at oX5_wordAhead 85 rfl) ⟨_, rfl, ⟨by omega, by omega, oqW_yes (i0 := x1.toNatClampNeg / 7) (by omega) (by omega) his (by omega), oqW_ws (i0 := x1.toNatClampNeg / 7) (by omega) (by omega), by omega, by omega⟩⟩
        · skip
          refine r_ldcS C (oDec_at oX5_wordAhead 55 rfl) ?_
          refine r_iload_n C (j := 1) (oDec_at oX5_wordAhead 56 rfl) rfl rfl ?_
          refine r_iload_n C (j := 2) (oDec_at oX5_wordAhead 57 rfl) rfl rfl ?_
          obtain ⟨v42, ev42⟩ : ∃ z : Int32, z = x1 + x2 := ⟨_, rfl⟩
          have hv42 : v42.toInt = x1.toInt + x2.toInt := n_add ev42 (by omega) (by omega)
          refine r_iadd C v42 (oDec_at oX5_wordAhead 58 rfl) ev42 ?_
          refine r_callKi C miJ0_charAt_5068e mlX5_182 (ct_J0_charAt_5068e l E (t) v42 (by omega) (by omega)) (by decide) rfl rfl rfl (Nat.le_of_ble_eq_true rfl) (oDec_at oX5_wordAhead 59 rfl) (fun r43 u44 pu44 fu44 => ?_)
          try dsimp only at pu44
          have rr43 := n_rng r43
          have hxu44 := oFr_nil fu44; subst hxu44
          have hch := oq_ch (i := x1.toNatClampNeg / 7) (j := x2.toNatClampNeg) pu44 (by omega) (by omega) (by omega)
          refine r_aload_n C (j := 0) (oDec_at oX5_wordAhead 60 rfl) rfl rfl ?_
          obtain ⟨v45, ev45⟩ : ∃ z : Int32, (t).1 30 2 = z := ⟨_, rfl⟩
          have gv45 : (t.1 30 2).toInt = v45.toInt := congrArg Int32.toInt (ev45)
          refine r_geti (k := 2) (lo := 0) (hi := 1600) C v45 oCl5 rfl (by decide) flX5_23 rfl rfl (ev45) rfl rfl (oDec_at oX5_wordAhead 61 rfl) (fun b46 b46h => ?_)
          refine r_pc C 123 rfl ?_
          refine r_iload_n C (j := 2) (oDec_at oX5_wordAhead 62 rfl) rfl rfl ?_
          obtain ⟨v47, ev47⟩ : ∃ z : Int32, z = v45 + x2 := ⟨_, rfl⟩
          have hv47 : v47.toInt = v45.toInt + x2.toInt := n_add ev47 (by omega) (by omega)
          refine r_iadd C v47 (oDec_at oX5_wordAhead 63 rfl) ev47 ?_
          refine r_aload_n C (j := 0) (oDec_at oX5_wordAhead 64 rfl) rfl rfl ?_
          obtain ⟨v48, ev48⟩ : ∃ z : Int32, (t).1 30 4 = z := ⟨_, rfl⟩
          have gv48 : (t.1 30 4).toInt = v48.toInt := congrArg Int32.toInt (ev48)
          refine r_geti (k := 4) (lo := 0) (hi := 1600) C v48 oCl5 rfl (by decide) flX5_130 rfl rfl (ev48) rfl rfl (oDec_at oX5_wordAhead 65 rfl) (fun b49 b49h => ?_)
          refine r_icmp_ge C 148 (oDec_at oX5_wordAhead 66 rfl) (by decide) (fun cd50 => ?_) (fun cd50 => ?_)
          · skip
            refine r_bipush C (oDec_at oX5_wordAhead 75 rfl) (v := k32) (by rw [qk32]; rfl) ?_
            refine r_icmp_ne C 159 (oDec_at oX5_wordAhead 76 rfl) (by decide) (fun cd51 => ?_) (fun cd51 => ?_)
            · skip
              have hmm : x2.toInt = 7 ∨ ¬ oqIs g (oqSk g a) (x1.toNatClampNeg / 7) := by first | (left; omega) | (right; intro h; have h9 := oqIs_mt (j := x2.toNatClampNeg) (by omega) (by omega) h iv6 iv7 (by omega); first | (rw [if_pos (by omega)] at h9; omega) | (rw [if_neg (by omega)] at h9; omega))
              refine r_iload_n C (j := 2) (oDec_at oX5_wordAhead 79 rfl) rfl rfl ?_
              refine r_bipush C (oDec_at oX5_wordAhead 80 rfl) (v := k7) (by rw [qk7]; rfl) ?_
              refine r_icmp_ne C 170 (oDec_at oX5_wordAhead 81 rfl) (by decide) (fun cd52 => ?_) (fun cd52 => ?_)
              · skip
                obtain ⟨v53, ev53⟩ : ∃ z : Int32, x1 + Int32.ofInt 7 = z := ⟨_, rfl⟩
                have hv53 : v53.toInt = x1.toInt + 7 := n_inc ev53 (by decide) (by omega) (by omega)
                refine r_iinc C (j := 1) (lv' := [(0, .ref (oad E 30)), (1, .int v53), (2, .int x2)]) v53 [1, 0, 2] (oDec_at oX5_wordAhead 86 rfl) rfl ev53 (by decide) rfl ?_
                refine r_goto C (tgt := 77) (oDec_at oX5_wordAhead 87 rfl) (by decide) ?_
                have lk54 : ((t).1 30 2).toInt = v45.toInt := congrArg Int32.toInt (ev45)
                have lk55 : ((t).1 30 2).toInt = v45.toInt := congrArg Int32.toInt (ev45)
                have lk56 : ((t).1 30 4).toInt = v48.toInt := congrArg Int32.toInt (ev48)
                refine r_pick C [0, 1] rfl ?_
                exact (ih (n - 1) (by omega)).2.1 (t) v53  iv0 (by omega) (by omega) (by omega) (by omega) (by omega) (by first | exact iv6 | exact iv7) (by first | exact iv7 | exact hnl) (by omega) (by first | exact oqNo_nx (i0 := x1.toNatClampNeg / 7) iv9 (by omega) (by omega) (hmm.resolve_left (by omega)) | exact oqNo_0 (by omega)) (by omega) (by omega)
              · skip
                have his : oqIs g (oqSk g a) (x1.toNatClampNeg / 7) := oqMt_is (by omega) iv13 (by omega) iv6 iv7 (by omega) (by omega)
                have hws := oqIs_W (by omega) his iv6 iv7 (by omega)
                refine r_iload_n C (j := 1) (oDec_at oX5_wordAhead 82 rfl) rfl rfl ?_
                refine r_bipush C (oDec_at oX5_wordAhead 83 rfl) (v := k7) (by rw [qk7]; rfl) ?_
                obtain ⟨v57, ev57⟩ : ∃ z : Int32, z = x1 / k7 := ⟨_, rfl⟩
                have hv57 := n_divP (k := 7) ev57 ek7 (by decide)
                have rv57 := n_rng v57
                refine r_idiv C v57 (oDec_at oX5_wordAhead 84 rfl) (n_ne0 (by omega)) ev57 ?_
                have lk58 : ((t).1 30 2).toInt = v45.toInt := congrArg Int32.toInt (ev45)
                exact r_iret C (oDec_at oX5_wordAhead 85 rfl) ⟨_, rfl, ⟨by omega, by omega, oqW_yes (i0 := x1.toNatClampNeg / 7) (by omega) (by omega) his (by omega), oqW_ws (i0 := x1.toNatClampNeg / 7) (by omega) (by omega), by omega, by omega⟩⟩
            · skip
              obtain ⟨v59, ev59⟩ : ∃ z : Int32, x2 + Int32.ofInt 1 = z := ⟨_, rfl⟩
              have hv59 : v59.toInt = x2.toInt + 1 := n_inc ev59 (by decide) (by omega) (by omega)
              refine r_iinc C (j := 2) (lv' := [(0, .ref (oad E 30)), (1, .int x1), (2, .int v59)]) v59 [1, 2, 0] (oDec_at oX5_wordAhead 77 rfl) rfl ev59 (by decide) rfl ?_
              refine r_goto C (tgt := 105) (oDec_at oX5_wordAhead 78 rfl) (by decide) ?_
              have lk60 : ((t).1 30 2).toInt = v45.toInt := congrArg Int32.toInt (ev45)
              have lk61 : ((t).1 30 2).toInt = v45.toInt := congrArg Int32.toInt (ev45)
              have lk62 : ((t).1 30 4).toInt = v48.toInt := congrArg Int32.toInt (ev48)
              have lk63 : ((t).1 30 4).toInt = v48.toInt := congrArg Int32.toInt (ev48)
              have lk64 : ((t).1 30 2).toInt = v45.toInt := congrArg Int32.toInt (ev45)
              exact (ih (n - 1) (by omega)).2.2 (t) x1 v59  iv0 (by omega) (by omega) (by omega) (by omega) (by omega) (by first | exact iv6 | exact iv7) (by first | exact iv7 | exact hnl) (by omega) (by exact iv9) (by omega) (by omega) (by omega) (by first | exact oqMt_nx (k := x2.toNatClampNeg) iv13 (by omega) (by omega) (by first | (rw [if_pos (by omega)]; omega) | (rw [if_neg (by omega)]; omega)) | exact oqMt_0 (by omega)) (by omega)
          · skip
            refine r_aload_n C (j := 0) (oDec_at oX5_wordAhead 67 rfl) rfl rfl ?_
            refine r_getF (k := 0) (b := 1) C oCl5 rfl (by decide) flX5_15 rfl rfl rfl (oDec_at oX5_wordAhead 68 rfl) ?_
            refine r_aload_n C (j := 0) (oDec_at oX5_wordAhead 69 rfl) rfl rfl ?_
            refine r_geti (k := 2) (lo := 0) (hi := 1600) C v45 oCl5 rfl (by decide) flX5_23 rfl rfl (ev45) rfl rfl (oDec_at oX5_wordAhead 70 rfl) (fun _ _ => ?_)
            refine r_iload_n C (j := 2) (oDec_at oX5_wordAhead 71 rfl) rfl rfl ?_
            obtain ⟨v65, ev65⟩ : ∃ z : Int32, z = v45 + x2 := ⟨_, rfl⟩
            have hv65 : v65.toInt = v45.toInt + x2.toInt := n_add ev65 (by omega) (by omega)
            refine r_iadd C v65 (oDec_at oX5_wordAhead 72 rfl) ev65 ?_
            refine r_pc C 142 rfl ?_
            refine r_callVi C oCl8 rfl miX8_at mlX5_133 (ct4_X8_at l E (t) v65 (g) (oqSk g a + (x2.toNatClampNeg : Int)) (by omega) iv0) (by decide) rfl rfl rfl (Nat.le_of_ble_eq_true rfl) (oDec_at oX5_wordAhead 73 rfl) (fun r67 u66 pu66 fu66 => ?_)
            try dsimp only at pu66
            obtain ⟨pu66_0, pu66_1, pu66_2, pu66_3⟩ := pu66
            have hxu66 := oFr_nil fu66; subst hxu66
            have rr67 := n_rng r67
            refine r_goto C (tgt := 150) (oDec_at oX5_wordAhead 74 rfl) (by decide) ?_
            refine r_icmp_ne C 159 (oDec_at oX5_wordAhead 76 rfl) (by decide) (fun cd68 => ?_) (fun cd68 => ?_)
            · skip
              have hmm : x2.toInt = 7 ∨ ¬ oqIs g (oqSk g a) (x1.toNatClampNeg / 7) := by first | (left; omega) | (right; intro h; have h9 := oqIs_mt (j := x2.toNatClampNeg) (by omega) (by omega) h iv6 iv7 (by omega); first | (rw [if_pos (by omega)] at h9; omega) | (rw [if_neg (by omega)] at h9; omega))
              refine r_iload_n C (j := 2) (oDec_at oX5_wordAhead 79 rfl) rfl rfl ?_
              refine r_bipush C (oDec_at oX5_wordAhead 80 rfl) (v := k7) (by rw [qk7]; rfl) ?_
              refine r_icmp_ne C 170 (oDec_at oX5_wordAhead 81 rfl) (by decide) (fun cd69 => ?_) (fun cd69 => ?_)
              · skip
                obtain ⟨v70, ev70⟩ : ∃ z : Int32, x1 + Int32.ofInt 7 = z := ⟨_, rfl⟩
                have hv70 : v70.toInt = x1.toInt + 7 := n_inc ev70 (by decide) (by omega) (by omega)
                refine r_iinc C (j := 1) (lv' := [(0, .ref (oad E 30)), (1, .int v70), (2, .int x2)]) v70 [1, 0, 2] (oDec_at oX5_wordAhead 86 rfl) rfl ev70 (by decide) rfl ?_
                refine r_goto C (tgt := 77) (oDec_at oX5_wordAhead 87 rfl) (by decide) ?_
                have lk71 : ((t).1 30 2).toInt = v45.toInt := congrArg Int32.toInt (ev45)
                have lk72 : ((t).1 30 2).toInt = v45.toInt := congrArg Int32.toInt (ev45)
                have lk73 : ((t).1 30 4).toInt = v48.toInt := congrArg Int32.toInt (ev48)
                refine r_pick C [0, 1] rfl ?_
                exact (ih (n - 1) (by omega)).2.1 (t) v70  iv0 (by omega) (by omega) (by omega) (by omega) (by omega) (by first | exact iv6 | exact iv7) (by first | exact iv7 | exact hnl) (by omega) (by first | exact oqNo_nx (i0 := x1.toNatClampNeg / 7) iv9 (by omega) (by omega) (hmm.resolve_left (by omega)) | exact oqNo_0 (by omega)) (by omega) (by omega)
              · skip
                have his : oqIs g (oqSk g a) (x1.toNatClampNeg / 7) := oqMt_is (by omega) iv13 (by omega) iv6 iv7 (by omega) (by omega)
                have hws := oqIs_W (by omega) his iv6 iv7 (by omega)
                refine r_iload_n C (j := 1) (oDec_at oX5_wordAhead 82 rfl) rfl rfl ?_
                refine r_bipush C (oDec_at oX5_wordAhead 83 rfl) (v := k7) (by rw [qk7]; rfl) ?_
                obtain ⟨v74, ev74⟩ : ∃ z : Int32, z = x1 / k7 := ⟨_, rfl⟩
                have hv74 := n_divP (k := 7) ev74 ek7 (by decide)
                have rv74 := n_rng v74
                refine r_idiv C v74 (oDec_at oX5_wordAhead 84 rfl) (n_ne0 (by omega)) ev74 ?_
                have lk75 : ((t).1 30 2).toInt = v45.toInt := congrArg Int32.toInt (ev45)
                exact r_iret C (oDec_at oX5_wordAhead 85 rfl) ⟨_, rfl, ⟨by omega, by omega, oqW_yes (i0 := x1.toNatClampNeg / 7) (by omega) (by omega) his (by omega), oqW_ws (i0 := x1.toNatClampNeg / 7) (by omega) (by omega), by omega, by omega⟩⟩
            · skip
              obtain ⟨v76, ev76⟩ : ∃ z : Int32, x2 + Int32.ofInt 1 = z := ⟨_, rfl⟩
              have hv76 : v76.toInt = x2.toInt + 1 := n_inc ev76 (by decide) (by omega) (by omega)
              refine r_iinc C (j := 2) (lv' := [(0, .ref (oad E 30)), (1, .int x1), (2, .int v76)]) v76 [1, 2, 0] (oDec_at oX5_wordAhead 77 rfl) rfl ev76 (by decide) rfl ?_
              refine r_goto C (tgt := 105) (oDec_at oX5_wordAhead 78 rfl) (by decide) ?_
              have lk77 : ((t).1 30 2).toInt = v45.toInt := congrArg Int32.toInt (ev45)
              have lk78 : ((t).1 30 2).toInt = v45.toInt := congrArg Int32.toInt (ev45)
              have lk79 : ((t).1 30 4).toInt = v48.toInt := congrArg Int32.toInt (ev48)
              have lk80 : ((t).1 30 4).toInt = v48.toInt := congrArg Int32.toInt (ev48)
              have lk81 : ((t).1 30 2).toInt = v45.toInt := congrArg Int32.toInt (ev45)
              exact (ih (n - 1) (by omega)).2.2 (t) x1 v76  iv0 (by omega) (by omega) (by omega) (by omega) (by omega) (by first | exact iv6 | exact iv7) (by first | exact iv7 | exact hnl) (by omega) (by exact iv9) (by omega) (by omega) (by omega) (by first | exact oqMt_nx (k := x2.toNatClampNeg) iv13 (by omega) (by omega) (by first | (rw [if_pos (by omega)]; omega) | (rw [if_neg (by omega)]; omega)) | exact oqMt_0 (by omega)) (by omega)
  refine r_aload_n C (j := 0) (oDec_at oX5_wordAhead 0 rfl) rfl rfl ?_
  refine r_callVi C oCl5 rfl miX5_peek mlX5_43 (ct4_X5_peek l E (s)  (g) (a) (by omega) hp2) (by decide) rfl rfl rfl (Nat.le_of_ble_eq_true rfl) (oDec_at oX5_wordAhead 1 rfl) (fun r83 u82 pu82 fu82 => ?_)
  try dsimp only at pu82
  obtain ⟨pu82_0, pu82_1, pu82_2, pu82_3, pu82_4, pu82_5⟩ := pu82
  have rr83 := n_rng r83
  refine r_callSi C miX5_isLetter mlX5_127 (ct_X5_isLetter l E (u82) r83 ) (by decide) rfl rfl rfl (Nat.le_of_ble_eq_true rfl) (oDec_at oX5_wordAhead 2 rfl) (fun r85 u84 pu84 fu84 => ?_)
  try dsimp only at pu84
  obtain ⟨pu84_0, pu84_1⟩ := pu84
  have hxu84 := oFr_nil fu84; subst hxu84
  have rr85 := n_rng r85
  refine r_if_eq C 21 (oDec_at oX5_wordAhead 3 rfl) (by decide) (fun cd86 => ?_) (fun cd86 => ?_)
  · skip
    refine r_iconst C (oDec_at oX5_wordAhead 9 rfl) (v := km1) (by rw [qkm1]; rfl) ?_
    exact r_iret C (oDec_at oX5_wordAhead 10 rfl) ⟨_, rfl, ⟨by omega, by omega, oqW_no (by omega) (fun i hi h => by have h8 := oqIs_let hi h.1; have h9 := h.2; omega), fun h => by omega, by omega, by omega⟩⟩
  · skip
    refine r_aload_n C (j := 0) (oDec_at oX5_wordAhead 4 rfl) rfl rfl ?_
    obtain ⟨v87, ev87⟩ : ∃ z : Int32, (u82).1 30 2 = z := ⟨_, rfl⟩
    have gv87 : (u82.1 30 2).toInt = v87.toInt := congrArg Int32.toInt (ev87)
    refine r_geti (k := 2) (lo := 0) (hi := 1600) C v87 oCl5 rfl (by decide) flX5_23 rfl rfl (ev87) rfl rfl (oDec_at oX5_wordAhead 5 rfl) (fun b88 b88h => ?_)
    refine r_aload_n C (j := 0) (oDec_at oX5_wordAhead 6 rfl) rfl rfl ?_
    obtain ⟨v89, ev89⟩ : ∃ z : Int32, (u82).1 30 3 = z := ⟨_, rfl⟩
    have gv89 : (s.1 30 3).toInt = v89.toInt := congrArg Int32.toInt (((fu82 30 3 rfl).1).symm.trans ev89)
    have ggv89 : ((u82).1 30 3).toInt = v89.toInt := congrArg Int32.toInt ev89
    refine r_geti (k := 3) (lo := (-1)) (hi := 1600) C v89 oCl5 rfl (by decide) flX5_26 rfl rfl (ev89) rfl rfl (oDec_at oX5_wordAhead 7 rfl) (fun b90 b90h => ?_)
    refine r_icmp_ne C 23 (oDec_at oX5_wordAhead 8 rfl) (by decide) (fun cd91 => ?_) (fun cd91 => ?_)
    · skip
      refine r_aload_n C (j := 0) (oDec_at oX5_wordAhead 11 rfl) rfl rfl ?_
      refine r_aload_n C (j := 0) (oDec_at oX5_wordAhead 12 rfl) rfl rfl ?_
      refine r_geti (k := 2) (lo := 0) (hi := 1600) C v87 oCl5 rfl (by decide) flX5_23 rfl rfl (ev87) rfl rfl (oDec_at oX5_wordAhead 13 rfl) (fun _ _ => ?_)
      refine r_puti (k := 4) (lo := 0) (hi := 1600) C oCl5 rfl (by decide) flX5_130 rfl rfl rfl rfl rfl rfl rfl rfl ⟨by omega, by omega⟩ (oDec_at oX5_wordAhead 14 rfl) ?_
      have lk92 : (((pI u82 30 4 v87)).1 30 2).toInt = v87.toInt := congrArg Int32.toInt (((pI_ne (a := 30) (b := 2) (c := 30) (k := 4) _ _ (Or.inr (by decide)))).trans (ev87))
      have lk93 : (((pI u82 30 4 v87)).1 30 3).toInt = v89.toInt := congrArg Int32.toInt (((pI_ne (a := 30) (b := 3) (c := 30) (k := 4) _ _ (Or.inr (by decide)))).trans (ev89))
      have lk94 : (((pI u82 30 4 v87)).1 30 2).toInt = v87.toInt := congrArg Int32.toInt (((pI_ne (a := 30) (b := 2) (c := 30) (k := 4) _ _ (Or.inr (by decide)))).trans (ev87))
      have lk95 : (((pI u82 30 4 v87)).1 30 4).toInt = v87.toInt := congrArg Int32.toInt ((pI_self _ _ _ _))
      have lk96 : (((pI u82 30 4 v87)).1 30 4).toInt = v87.toInt := congrArg Int32.toInt ((pI_self _ _ _ _))
      have lk97 : (((pI u82 30 4 v87)).1 30 4).toInt = v87.toInt := congrArg Int32.toInt ((pI_self _ _ _ _))
      exact (key (11601 - (((pI u82 30 4 v87)).1 30 4).toInt).toNat).1 ((pI u82 30 4 v87))   (oqX_fr (oFr_oneI (q := 5) (m := 4) rfl (by rfl)) rfl (oqX_fr fu82 rfl hp2)) (by omega) (by omega) (by omega) (by omega) (by omega) (by first | (rw [show (((pI u82 30 4 v87)).1 30 4).toInt = oqSk g a by omega]; exact oqRun_0)) (by omega) (by omega) (by omega) (by omega)
    · skip
      refine r_iconst C (oDec_at oX5_wordAhead 9 rfl) (v := km1) (by rw [qkm1]; rfl) ?_
      have lk98 : ((u82).1 30 2).toInt = v87.toInt := congrArg Int32.toInt (ev87)
      exact r_iret C (oDec_at oX5_wordAhead 10 rfl) ⟨_, rfl, ⟨by omega, by omega, oqW_no (by omega) (fun i hi h => by have h8 := oqIs_let hi h.1; have h9 := h.2; omega), fun h => by omega, by omega, by omega⟩⟩
set_option maxHeartbeats 4000000 in
set_option maxRecDepth 100000 in
theorem ct4_X5_expect (l : Launch) (E : oE) (s : oS) (a1 : Int32) (g : Int → Int) (a : Int) (b : Int) (i : Nat) (hp0 : (s.1 30 2).toInt = a) (hp1 : (s.1 30 3).toInt = b) (hp2 : oqX g s) (hp3 : a1.toInt = (i : Int)) (hp4 : i < 26) : oMet l 6 yX5_expect cX5_expect 2 (some .boolean) [(5, 2), (5, 3), (5, 4), (5, 8), (5, 9)] E s [.ref (oad E 30), .int a1] (oPi (fun r u => (0 ≤ r.toInt ∧ r.toInt ≤ 1) ∧ (r.toInt = 1 → (oqH g a b i = 1 ∧ (u.1 30 2).toInt = oqHa g a i ∧ (u.1 30 3).toInt = oqHa g a i ∧ (u.1 30 8).toInt = (s.1 30 8).toInt ∧ (u.1 30 9).toInt = (s.1 30 9).toInt)) ∧ (r.toInt = 0 → (oqH g a b i = 0 ∧ (u.1 30 8).toInt = 1 ∧ (u.1 30 9).toInt = oqSk g a)))) := by
  refine oMet.of (lv := [(0, .ref (oad E 30)), (1, .int a1)]) (by decide +kernel) (Nat.le_of_ble_eq_true rfl) rfl (fun J C hT => ?_)
  have C : oC l 6 cX5_expect RX5 2 (some .boolean) [(5, 2), (5, 3), (5, 4), (5, 8), (5, 9)] E s (oPi (fun r u => (0 ≤ r.toInt ∧ r.toInt ≤ 1) ∧ (r.toInt = 1 → (oqH g a b i = 1 ∧ (u.1 30 2).toInt = oqHa g a i ∧ (u.1 30 3).toInt = oqHa g a i ∧ (u.1 30 8).toInt = (s.1 30 8).toInt ∧ (u.1 30 9).toInt = (s.1 30 9).toInt)) ∧ (r.toInt = 0 → (oqH g a b i = 0 ∧ (u.1 30 8).toInt = 1 ∧ (u.1 30 9).toInt = oqSk g a)))) J := C
  obtain ⟨k1, qk1⟩ : ∃ z : Int32, z = 1 := ⟨_, rfl⟩
  have ek1 : k1.toInt = 1 := by rw [qk1]; rfl
  have rg1 := n_rng a1
  refine r_aload_n C (j := 0) (oDec_at oX5_expect 0 rfl) rfl rfl ?_
  refine r_callVi C oCl5 rfl miX5_wordAhead mlX5_91 (ct4_X5_wordAhead l E (s)  (g) (a) (b) (by omega) (by omega) hp2) (by decide) rfl rfl rfl (Nat.le_of_ble_eq_true rfl) (oDec_at oX5_expect 1 rfl) (fun r2 u1 pu1 fu1 => ?_)
  try dsimp only at pu1
  obtain ⟨pu1_0, pu1_1, pu1_2, pu1_3, pu1_4, pu1_5⟩ := pu1
  have rr2 := n_rng r2
  refine r_iload_n C (j := 1) (oDec_at oX5_expect 2 rfl) rfl rfl ?_
  refine r_icmp_eq C 18 (oDec_at oX5_expect 3 rfl) (by decide) (fun cd3 => ?_) (fun cd3 => ?_)
  · skip
    have hH := (pu1_2 i hp4).mp (by omega)
    have hW := pu1_3 (by omega)
    rw [show r2.toInt.toNat = i by omega] at hW
    have hHa : oqHa g a i = oqSk g a + (oqWl i : Int) := rfl
    refine r_aload_n C (j := 0) (oDec_at oX5_expect 10 rfl) rfl rfl ?_
    refine r_callVv C oCl5 rfl miX5_passWord mlX5_100 (ct4_X5_passWord l E (u1)  ) (by decide) rfl rfl rfl (Nat.le_of_ble_eq_true rfl) (oDec_at oX5_expect 11 rfl) (fun u4 pu4 fu4 => ?_)
    try dsimp only at pu4
    obtain ⟨pu4_0, pu4_1⟩ := pu4
    refine r_iconst C (oDec_at oX5_expect 12 rfl) (v := k1) (by rw [qk1]; rfl) ?_
    have lk6 : ((u4).1 30 8).toInt = (s.1 30 8).toInt := congrArg Int32.toInt (((fu4 30 8 rfl).1).trans ((fu1 30 8 rfl).1))
    have lk7 : ((u4).1 30 9).toInt = (s.1 30 9).toInt := congrArg Int32.toInt (((fu4 30 9 rfl).1).trans ((fu1 30 9 rfl).1))
    have lk8 : ((u4).1 30 8).toInt = (s.1 30 8).toInt := congrArg Int32.toInt (((fu4 30 8 rfl).1).trans ((fu1 30 8 rfl).1))
    have lk9 : ((u4).1 30 9).toInt = (s.1 30 9).toInt := congrArg Int32.toInt (((fu4 30 9 rfl).1).trans ((fu1 30 9 rfl).1))
    exact r_zret C (n_bool (by omega)) (oDec_at oX5_expect 13 rfl) ⟨_, rfl, ⟨by omega, by omega, by omega⟩⟩
  · skip
    have hH : oqH g a b i = 0 := by have h1 := oqH_01 g a b i; have h2 : oqH g a b i = 1 → r2.toInt = (i : Int) := (pu1_2 i hp4).mpr; omega
    refine r_aload_n C (j := 0) (oDec_at oX5_expect 4 rfl) rfl rfl ?_
    refine r_iconst C (oDec_at oX5_expect 5 rfl) (v := k1) (by rw [qk1]; rfl) ?_
    refine r_aload_n C (j := 0) (oDec_at oX5_expect 6 rfl) rfl rfl ?_
    obtain ⟨v10, ev10⟩ : ∃ z : Int32, (u1).1 30 2 = z := ⟨_, rfl⟩
    have gv10 : (u1.1 30 2).toInt = v10.toInt := congrArg Int32.toInt (ev10)
    refine r_geti (k := 2) (lo := 0) (hi := 1600) C v10 oCl5 rfl (by decide) flX5_23 rfl rfl (ev10) rfl rfl (oDec_at oX5_expect 7 rfl) (fun b11 b11h => ?_)
    refine r_callVi C oCl5 rfl miX5_fail mlX5_62 (ct4_X5_fail l E (u1) k1 v10 ) (by decide) rfl rfl rfl (Nat.le_of_ble_eq_true rfl) (oDec_at oX5_expect 8 rfl) (fun r13 u12 pu12 fu12 => ?_)
    try dsimp only at pu12
    obtain ⟨pu12_0, pu12_1, pu12_2, pu12_3⟩ := pu12
    have rr13 := n_rng r13
    have lk14 : ((u12).1 30 2).toInt = v10.toInt := congrArg Int32.toInt (((fu12 30 2 rfl).1).trans (ev10))
    have lk15 : ((u12).1 30 3).toInt = (s.1 30 3).toInt := congrArg Int32.toInt (((fu12 30 3 rfl).1).trans ((fu1 30 3 rfl).1))
    exact r_zret C (n_bool (by omega)) (oDec_at oX5_expect 9 rfl) ⟨_, rfl, ⟨by omega, by omega, by omega⟩⟩
set_option maxHeartbeats 4000000 in
set_option maxRecDepth 100000 in
theorem ct4_X5_accept (l : Launch) (E : oE) (s : oS) (a1 : Int32) (g : Int → Int) (a : Int) (b : Int) (i : Nat) (hp0 : (s.1 30 2).toInt = a) (hp1 : (s.1 30 3).toInt = b) (hp2 : oqX g s) (hp3 : a1.toInt = (i : Int)) (hp4 : i < 26) : oMet l 6 yX5_accept cX5_accept 2 (some .boolean) [(5, 2), (5, 3), (5, 4)] E s [.ref (oad E 30), .int a1] (oPi (fun r u => (0 ≤ r.toInt ∧ r.toInt ≤ 1) ∧ (r.toInt = 1 → (oqH g a b i = 1 ∧ (u.1 30 2).toInt = oqHa g a i ∧ (u.1 30 3).toInt = oqHa g a i)) ∧ (r.toInt = 0 → (oqH g a b i = 0 ∧ (u.1 30 2).toInt = oqSk g a ∧ (u.1 30 3).toInt = b)) ∧ (g (oqSk g a) ≠ 32 ∧ g (oqSk g a) ≠ 10))) := by
  refine oMet.of (lv := [(0, .ref (oad E 30)), (1, .int a1)]) (by decide +kernel) (Nat.le_of_ble_eq_true rfl) rfl (fun J C hT => ?_)
  have C : oC l 6 cX5_accept RX5 2 (some .boolean) [(5, 2), (5, 3), (5, 4)] E s (oPi (fun r u => (0 ≤ r.toInt ∧ r.toInt ≤ 1) ∧ (r.toInt = 1 → (oqH g a b i = 1 ∧ (u.1 30 2).toInt = oqHa g a i ∧ (u.1 30 3).toInt = oqHa g a i)) ∧ (r.toInt = 0 → (oqH g a b i = 0 ∧ (u.1 30 2).toInt = oqSk g a ∧ (u.1 30 3).toInt = b)) ∧ (g (oqSk g a) ≠ 32 ∧ g (oqSk g a) ≠ 10))) J := C
  obtain ⟨k0, qk0⟩ : ∃ z : Int32, z = 0 := ⟨_, rfl⟩
  have ek0 : k0.toInt = 0 := by rw [qk0]; rfl
  obtain ⟨k1, qk1⟩ : ∃ z : Int32, z = 1 := ⟨_, rfl⟩
  have ek1 : k1.toInt = 1 := by rw [qk1]; rfl
  have rg1 := n_rng a1
  refine r_aload_n C (j := 0) (oDec_at oX5_accept 0 rfl) rfl rfl ?_
  refine r_callVi C oCl5 rfl miX5_wordAhead mlX5_91 (ct4_X5_wordAhead l E (s)  (g) (a) (b) (by omega) (by omega) hp2) (by decide) rfl rfl rfl (Nat.le_of_ble_eq_true rfl) (oDec_at oX5_accept 1 rfl) (fun r2 u1 pu1 fu1 => ?_)
  try dsimp only at pu1
  obtain ⟨pu1_0, pu1_1, pu1_2, pu1_3, pu1_4, pu1_5⟩ := pu1
  have rr2 := n_rng r2
  refine r_iload_n C (j := 1) (oDec_at oX5_accept 2 rfl) rfl rfl ?_
  refine r_icmp_eq C 10 (oDec_at oX5_accept 3 rfl) (by decide) (fun cd3 => ?_) (fun cd3 => ?_)
  · skip
    have hH := (pu1_2 i hp4).mp (by omega)
    have hW := pu1_3 (by omega)
    rw [show r2.toInt.toNat = i by omega] at hW
    have hHa : oqHa g a i = oqSk g a + (oqWl i : Int) := rfl
    refine r_aload_n C (j := 0) (oDec_at oX5_accept 6 rfl) rfl rfl ?_
    refine r_callVv C oCl5 rfl miX5_passWord mlX5_100 (ct4_X5_passWord l E (u1)  ) (by decide) rfl rfl rfl (Nat.le_of_ble_eq_true rfl) (oDec_at oX5_accept 7 rfl) (fun u4 pu4 fu4 => ?_)
    try dsimp only at pu4
    obtain ⟨pu4_0, pu4_1⟩ := pu4
    refine r_iconst C (oDec_at oX5_accept 8 rfl) (v := k1) (by rw [qk1]; rfl) ?_
    exact r_zret C (n_bool (by omega)) (oDec_at oX5_accept 9 rfl) ⟨_, rfl, ⟨by omega, by omega, by omega, by omega⟩⟩
  · skip
    have hH : oqH g a b i = 0 := by have h1 := oqH_01 g a b i; have h2 : oqH g a b i = 1 → r2.toInt = (i : Int) := (pu1_2 i hp4).mpr; omega
    refine r_iconst C (oDec_at oX5_accept 4 rfl) (v := k0) (by rw [qk0]; rfl) ?_
    have lk6 : ((u1).1 30 3).toInt = (s.1 30 3).toInt := congrArg Int32.toInt ((fu1 30 3 rfl).1)
    have lk7 : ((u1).1 30 3).toInt = (s.1 30 3).toInt := congrArg Int32.toInt ((fu1 30 3 rfl).1)
    exact r_zret C (n_bool (by omega)) (oDec_at oX5_accept 5 rfl) ⟨_, rfl, ⟨by omega, by omega, by omega, by omega⟩⟩
set_option maxHeartbeats 4000000 in
set_option maxRecDepth 100000 in
theorem ct4_X5_expectSign (l : Launch) (E : oE) (s : oS) (a1 : Int32) (g : Int → Int) (a : Int) (c : Int) (hp0 : (s.1 30 2).toInt = a) (hp1 : oqX g s) (hp2 : a1.toInt = c) (hp3 : 0 ≤ c) : oMet l 2 yX5_expectSign cX5_expectSign 2 (some .boolean) [(5, 2), (5, 8), (5, 9)] E s [.ref (oad E 30), .int a1] (oPi (fun r u => (0 ≤ r.toInt ∧ r.toInt ≤ 1) ∧ (r.toInt = 1 → (g (oqSk g a) = c ∧ (u.1 30 2).toInt = oqSk g a + 1 ∧ (u.1 30 8).toInt = (s.1 30 8).toInt ∧ (u.1 30 9).toInt = (s.1 30 9).toInt)) ∧ (r.toInt = 0 → (g (oqSk g a) ≠ c ∧ (u.1 30 8).toInt = 1 ∧ (u.1 30 9).toInt = oqSk g a)))) := by
  refine oMet.of (lv := [(0, .ref (oad E 30)), (1, .int a1)]) (by decide +kernel) (Nat.le_of_ble_eq_true rfl) rfl (fun J C hT => ?_)
  have C : oC l 2 cX5_expectSign RX5 2 (some .boolean) [(5, 2), (5, 8), (5, 9)] E s (oPi (fun r u => (0 ≤ r.toInt ∧ r.toInt ≤ 1) ∧ (r.toInt = 1 → (g (oqSk g a) = c ∧ (u.1 30 2).toInt = oqSk g a + 1 ∧ (u.1 30 8).toInt = (s.1 30 8).toInt ∧ (u.1 30 9).toInt = (s.1 30 9).toInt)) ∧ (r.toInt = 0 → (g (oqSk g a) ≠ c ∧ (u.1 30 8).toInt = 1 ∧ (u.1 30 9).toInt = oqSk g a)))) J := C
  obtain ⟨k1, qk1⟩ : ∃ z : Int32, z = 1 := ⟨_, rfl⟩
  have ek1 : k1.toInt = 1 := by rw [qk1]; rfl
  have rg1 := n_rng a1
  refine r_aload_n C (j := 0) (oDec_at oX5_expectSign 0 rfl) rfl rfl ?_
  refine r_callVi C oCl5 rfl miX5_peek mlX5_43 (ct4_X5_peek l E (s)  (g) (a) (by omega) hp1) (by decide) rfl rfl rfl (Nat.le_of_ble_eq_true rfl) (oDec_at oX5_expectSign 1 rfl) (fun r2 u1 pu1 fu1 => ?_)
  try dsimp only at pu1
  obtain ⟨pu1_0, pu1_1, pu1_2, pu1_3, pu1_4, pu1_5⟩ := pu1
  have rr2 := n_rng r2
  refine r_iload_n C (j := 1) (oDec_at oX5_expectSign 2 rfl) rfl rfl ?_
  refine r_icmp_eq C 18 (oDec_at oX5_expectSign 3 rfl) (by decide) (fun cd3 => ?_) (fun cd3 => ?_)
  · skip
    refine r_aload_n C (j := 0) (oDec_at oX5_expectSign 10 rfl) rfl rfl ?_
    refine r_dup C (oDec_at oX5_expectSign 11 rfl) rfl ?_
    obtain ⟨v4, ev4⟩ : ∃ z : Int32, (u1).1 30 2 = z := ⟨_, rfl⟩
    have gv4 : (u1.1 30 2).toInt = v4.toInt := congrArg Int32.toInt (ev4)
    refine r_geti (k := 2) (lo := 0) (hi := 1600) C v4 oCl5 rfl (by decide) flX5_23 rfl rfl (ev4) rfl rfl (oDec_at oX5_expectSign 12 rfl) (fun b5 b5h => ?_)
    refine r_iconst C (oDec_at oX5_expectSign 13 rfl) (v := k1) (by rw [qk1]; rfl) ?_
    obtain ⟨v6, ev6⟩ : ∃ z : Int32, z = v4 + k1 := ⟨_, rfl⟩
    have hv6 : v6.toInt = v4.toInt + k1.toInt := n_add ev6 (by omega) (by omega)
    refine r_iadd C v6 (oDec_at oX5_expectSign 14 rfl) ev6 ?_
    refine r_puti (k := 2) (lo := 0) (hi := 1600) C oCl5 rfl (by decide) flX5_23 rfl rfl rfl rfl rfl rfl rfl rfl ⟨by omega, by omega⟩ (oDec_at oX5_expectSign 15 rfl) ?_
    refine r_pc C 28 rfl ?_
    refine r_iconst C (oDec_at oX5_expectSign 16 rfl) (v := k1) (by rw [qk1]; rfl) ?_
    have lk7 : (((pI u1 30 2 v6)).1 30 2).toInt = v6.toInt := congrArg Int32.toInt ((pI_self _ _ _ _))
    have lk8 : (((pI u1 30 2 v6)).1 30 8).toInt = (s.1 30 8).toInt := congrArg Int32.toInt (((pI_ne (a := 30) (b := 8) (c := 30) (k := 2) _ _ (Or.inr (by decide)))).trans ((fu1 30 8 rfl).1))
    have lk9 : (((pI u1 30 2 v6)).1 30 9).toInt = (s.1 30 9).toInt := congrArg Int32.toInt (((pI_ne (a := 30) (b := 9) (c := 30) (k := 2) _ _ (Or.inr (by decide)))).trans ((fu1 30 9 rfl).1))
    have lk10 : (((pI u1 30 2 v6)).1 30 8).toInt = (s.1 30 8).toInt := congrArg Int32.toInt (((pI_ne (a := 30) (b := 8) (c := 30) (k := 2) _ _ (Or.inr (by decide)))).trans ((fu1 30 8 rfl).1))
    have lk11 : (((pI u1 30 2 v6)).1 30 9).toInt = (s.1 30 9).toInt := congrArg Int32.toInt (((pI_ne (a := 30) (b := 9) (c := 30) (k := 2) _ _ (Or.inr (by decide)))).trans ((fu1 30 9 rfl).1))
    exact r_zret C (n_bool (by omega)) (oDec_at oX5_expectSign 17 rfl) ⟨_, rfl, ⟨by omega, by omega, by omega⟩⟩
  · skip
    refine r_aload_n C (j := 0) (oDec_at oX5_expectSign 4 rfl) rfl rfl ?_
    refine r_iconst C (oDec_at oX5_expectSign 5 rfl) (v := k1) (by rw [qk1]; rfl) ?_
    refine r_aload_n C (j := 0) (oDec_at oX5_expectSign 6 rfl) rfl rfl ?_
    obtain ⟨v12, ev12⟩ : ∃ z : Int32, (u1).1 30 2 = z := ⟨_, rfl⟩
    have gv12 : (u1.1 30 2).toInt = v12.toInt := congrArg Int32.toInt (ev12)
    refine r_geti (k := 2) (lo := 0) (hi := 1600) C v12 oCl5 rfl (by decide) flX5_23 rfl rfl (ev12) rfl rfl (oDec_at oX5_expectSign 7 rfl) (fun b13 b13h => ?_)
    refine r_callVi C oCl5 rfl miX5_fail mlX5_62 (ct4_X5_fail l E (u1) k1 v12 ) (by decide) rfl rfl rfl (Nat.le_of_ble_eq_true rfl) (oDec_at oX5_expectSign 8 rfl) (fun r15 u14 pu14 fu14 => ?_)
    try dsimp only at pu14
    obtain ⟨pu14_0, pu14_1, pu14_2, pu14_3⟩ := pu14
    have rr15 := n_rng r15
    have lk16 : ((u14).1 30 2).toInt = v12.toInt := congrArg Int32.toInt (((fu14 30 2 rfl).1).trans (ev12))
    exact r_zret C (n_bool (by omega)) (oDec_at oX5_expectSign 9 rfl) ⟨_, rfl, ⟨by omega, by omega, by omega⟩⟩
set_option maxHeartbeats 4000000 in
set_option maxRecDepth 100000 in
theorem ct4_X5_closing (l : Launch) (E : oE) (s : oS) (a1 : Int32) (g : Int → Int) (a : Int) (hp0 : (s.1 30 2).toInt = a) (hp1 : oqX g s) : oMet l 2 yX5_closing cX5_closing 2 (some .int) [(5, 2), (5, 8), (5, 9)] E s [.ref (oad E 30), .int a1] (oPi (fun r u => ((r.toInt = a1.toInt ∧ g (oqSk g a) = -1 ∧ (u.1 30 8).toInt = (s.1 30 8).toInt ∧ (u.1 30 9).toInt = (s.1 30 9).toInt) ∨ (r.toInt = -1 ∧ g (oqSk g a) ≠ -1 ∧ (u.1 30 8).toInt = 5 ∧ (u.1 30 9).toInt = oqSk g a)))) := by
  refine oMet.of (lv := [(0, .ref (oad E 30)), (1, .int a1)]) (by decide +kernel) (Nat.le_of_ble_eq_true rfl) rfl (fun J C hT => ?_)
  have C : oC l 2 cX5_closing RX5 2 (some .int) [(5, 2), (5, 8), (5, 9)] E s (oPi (fun r u => ((r.toInt = a1.toInt ∧ g (oqSk g a) = -1 ∧ (u.1 30 8).toInt = (s.1 30 8).toInt ∧ (u.1 30 9).toInt = (s.1 30 9).toInt) ∨ (r.toInt = -1 ∧ g (oqSk g a) ≠ -1 ∧ (u.1 30 8).toInt = 5 ∧ (u.1 30 9).toInt = oqSk g a)))) J := C
  obtain ⟨km1, qkm1⟩ : ∃ z : Int32, z = (-1) := ⟨_, rfl⟩
  have ekm1 : km1.toInt = (-1) := by rw [qkm1]; rfl
  obtain ⟨k5, qk5⟩ : ∃ z : Int32, z = 5 := ⟨_, rfl⟩
  have ek5 : k5.toInt = 5 := by rw [qk5]; rfl
  have rg1 := n_rng a1
  refine r_aload_n C (j := 0) (oDec_at oX5_closing 0 rfl) rfl rfl ?_
  refine r_callVi C oCl5 rfl miX5_peek mlX5_43 (ct4_X5_peek l E (s)  (g) (a) (by omega) hp1) (by decide) rfl rfl rfl (Nat.le_of_ble_eq_true rfl) (oDec_at oX5_closing 1 rfl) (fun r2 u1 pu1 fu1 => ?_)
  try dsimp only at pu1
  obtain ⟨pu1_0, pu1_1, pu1_2, pu1_3, pu1_4, pu1_5⟩ := pu1
  have rr2 := n_rng r2
  refine r_iconst C (oDec_at oX5_closing 2 rfl) (v := km1) (by rw [qkm1]; rfl) ?_
  refine r_icmp_ne C 10 (oDec_at oX5_closing 3 rfl) (by decide) (fun cd3 => ?_) (fun cd3 => ?_)
  · skip
    refine r_aload_n C (j := 0) (oDec_at oX5_closing 6 rfl) rfl rfl ?_
    refine r_iconst C (oDec_at oX5_closing 7 rfl) (v := k5) (by rw [qk5]; rfl) ?_
    refine r_aload_n C (j := 0) (oDec_at oX5_closing 8 rfl) rfl rfl ?_
    obtain ⟨v4, ev4⟩ : ∃ z : Int32, (u1).1 30 2 = z := ⟨_, rfl⟩
    have gv4 : (u1.1 30 2).toInt = v4.toInt := congrArg Int32.toInt (ev4)
    refine r_geti (k := 2) (lo := 0) (hi := 1600) C v4 oCl5 rfl (by decide) flX5_23 rfl rfl (ev4) rfl rfl (oDec_at oX5_closing 9 rfl) (fun b5 b5h => ?_)
    refine r_callVi C oCl5 rfl miX5_fail mlX5_62 (ct4_X5_fail l E (u1) k5 v4 ) (by decide) rfl rfl rfl (Nat.le_of_ble_eq_true rfl) (oDec_at oX5_closing 10 rfl) (fun r7 u6 pu6 fu6 => ?_)
    try dsimp only at pu6
    obtain ⟨pu6_0, pu6_1, pu6_2, pu6_3⟩ := pu6
    have rr7 := n_rng r7
    refine r_pop C (oDec_at oX5_closing 11 rfl) rfl ?_
    refine r_pc C 20 rfl ?_
    refine r_iconst C (oDec_at oX5_closing 12 rfl) (v := km1) (by rw [qkm1]; rfl) ?_
    exact r_iret C (oDec_at oX5_closing 13 rfl) ⟨_, rfl, by omega⟩
  · skip
    refine r_iload_n C (j := 1) (oDec_at oX5_closing 4 rfl) rfl rfl ?_
    have lk8 : ((u1).1 30 8).toInt = (s.1 30 8).toInt := congrArg Int32.toInt ((fu1 30 8 rfl).1)
    have lk9 : ((u1).1 30 9).toInt = (s.1 30 9).toInt := congrArg Int32.toInt ((fu1 30 9 rfl).1)
    exact r_iret C (oDec_at oX5_closing 5 rfl) ⟨_, rfl, by omega⟩
set_option maxHeartbeats 4000000 in
set_option maxRecDepth 100000 in
theorem ct4_X5_number (l : Launch) (E : oE) (s : oS) (a1 : Int32) (a2 : Int32) (g : Int → Int) (a : Int) (b : Int) (lo : Int) (hi : Int) (hp0 : (s.1 30 2).toInt = a) (hp1 : (s.1 30 3).toInt = b) (hp2 : oqX g s) (hp3 : a1.toInt = lo) (hp4 : a2.toInt = hi) (hp5 : 0 ≤ lo) : oMet l 2 yX5_number cX5_number 6 (some .int) [(5, 2), (5, 3), (5, 8), (5, 9)] E s [.ref (oad E 30), .int a1, .int a2] (oPi (fun r u => (r.toInt = -1 ∨ (oqNk g a b lo hi = 0 ∧ r.toInt = oqNv g a ∧ lo ≤ r.toInt ∧ r.toInt ≤ hi ∧ (u.1 30 2).toInt = oqNa g a ∧ (u.1 30 3).toInt = oqNa g a ∧ (u.1 30 8).toInt = (s.1 30 8).toInt ∧ (u.1 30 9).toInt = (s.1 30 9).toInt)) ∧ (r.toInt ≠ -1 ∨ (oqNk g a b lo hi ≠ 0 ∧ (u.1 30 8).toInt = oqNk g a b lo hi ∧ (u.1 30 9).toInt = oqNp g a b)))) := by
  refine oMet.of (lv := [(0, .ref (oad E 30)), (1, .int a1), (2, .int a2)]) (by decide +kernel) (Nat.le_of_ble_eq_true rfl) rfl (fun J C hT => ?_)
  have C : oC l 2 cX5_number RX5 6 (some .int) [(5, 2), (5, 3), (5, 8), (5, 9)] E s (oPi (fun r u => (r.toInt = -1 ∨ (oqNk g a b lo hi = 0 ∧ r.toInt = oqNv g a ∧ lo ≤ r.toInt ∧ r.toInt ≤ hi ∧ (u.1 30 2).toInt = oqNa g a ∧ (u.1 30 3).toInt = oqNa g a ∧ (u.1 30 8).toInt = (s.1 30 8).toInt ∧ (u.1 30 9).toInt = (s.1 30 9).toInt)) ∧ (r.toInt ≠ -1 ∨ (oqNk g a b lo hi ≠ 0 ∧ (u.1 30 8).toInt = oqNk g a b lo hi ∧ (u.1 30 9).toInt = oqNp g a b)))) J := C
  obtain ⟨km1, qkm1⟩ : ∃ z : Int32, z = (-1) := ⟨_, rfl⟩
  have ekm1 : km1.toInt = (-1) := by rw [qkm1]; rfl
  obtain ⟨k0, qk0⟩ : ∃ z : Int32, z = 0 := ⟨_, rfl⟩
  have ek0 : k0.toInt = 0 := by rw [qk0]; rfl
  obtain ⟨k1, qk1⟩ : ∃ z : Int32, z = 1 := ⟨_, rfl⟩
  have ek1 : k1.toInt = 1 := by rw [qk1]; rfl
  obtain ⟨k2, qk2⟩ : ∃ z : Int32, z = 2 := ⟨_, rfl⟩
  have ek2 : k2.toInt = 2 := by rw [qk2]; rfl
  obtain ⟨k4, qk4⟩ : ∃ z : Int32, z = 4 := ⟨_, rfl⟩
  have ek4 : k4.toInt = 4 := by rw [qk4]; rfl
  obtain ⟨k10, qk10⟩ : ∃ z : Int32, z = 10 := ⟨_, rfl⟩
  have ek10 : k10.toInt = 10 := by rw [qk10]; rfl
  obtain ⟨k48, qk48⟩ : ∃ z : Int32, z = 48 := ⟨_, rfl⟩
  have ek48 : k48.toInt = 48 := by rw [qk48]; rfl
  have rg1 := n_rng a1
  have rg2 := n_rng a2
  have key : ∀ n : Nat, (∀ (t : oS) (x3 : Int32) (x4 : Int32) (x5 : Int32), (oqX g t) → (x3.toInt = oqSk g a ∧ 0 ≤ x3.toInt) → ((t.1 30 2).toInt = x3.toInt + x5.toInt) → (0 ≤ x5.toInt ∧ x5.toInt ≤ 4) → (oqSk g a ≠ b) → (oqDs g (oqSk g a) x5.toInt) → (x4.toInt = oqDv g (oqSk g a) x5.toNatClampNeg) → ((x5.toInt = 0 ∧ x4.toInt = 0) ∨ (x5.toInt = 1 ∧ 0 ≤ x4.toInt ∧ x4.toInt ≤ 9) ∨ (x5.toInt = 2 ∧ 0 ≤ x4.toInt ∧ x4.toInt ≤ 99) ∨ (x5.toInt = 3 ∧ 0 ≤ x4.toInt ∧ x4.toInt ≤ 999) ∨ (x5.toInt = 4 ∧ 0 ≤ x4.toInt ∧ x4.toInt ≤ 9999)) → (48 ≤ g (oqSk g a) ∧ g (oqSk g a) ≤ 57) → ((t.1 30 8).toInt = (s.1 30 8).toInt ∧ (t.1 30 9).toInt = (s.1 30 9).toInt) → 5 - x5.toInt ≤ (n : Int) → J t 44 [(0, .ref (oad E 30)), (1, .int a1), (2, .int a2), (3, .int x3), (4, .int x4), (5, .int x5)] []) := by
    intro n
    induction n using Nat.strongRecOn with
    | _ n ih =>
      skip
      · intro t x3 x4 x5  iv0 iv1 iv2 iv3 iv4 iv5 iv6 iv7 iv8 iv9 hmu
        have rx3 := n_rng x3
        have rx4 := n_rng x4
        have rx5 := n_rng x5
        refine r_iload C (j := 5) (oDec_at oX5_number 24 rfl) rfl ?_
        refine r_iconst C (oDec_at oX5_number 25 rfl) (v := k4) (by rw [qk4]; rfl) ?_
        refine r_icmp_ge C 105 (oDec_at oX5_number 26 rfl) (by decide) (fun cd1 => ?_) (fun cd1 => ?_)
        · skip
          refine r_aload_n C (j := 0) (oDec_at oX5_number 54 rfl) rfl rfl ?_
          refine r_getF (k := 0) (b := 1) C oCl5 rfl (by decide) flX5_15 rfl rfl rfl (oDec_at oX5_number 55 rfl) ?_
          refine r_aload_n C (j := 0) (oDec_at oX5_number 56 rfl) rfl rfl ?_
          obtain ⟨v2, ev2⟩ : ∃ z : Int32, (t).1 30 2 = z := ⟨_, rfl⟩
          have gv2 : (t.1 30 2).toInt = v2.toInt := congrArg Int32.toInt (ev2)
          refine r_geti (k := 2) (lo := 0) (hi := 1600) C v2 oCl5 rfl (by decide) flX5_23 rfl rfl (ev2) rfl rfl (oDec_at oX5_number 57 rfl) (fun b3 b3h => ?_)
          refine r_callVi C oCl8 rfl miX8_at mlX5_133 (ct4_X8_at l E (t) v2 (g) (oqSk g a + x5.toInt) (by omega) iv0) (by decide) rfl rfl rfl (Nat.le_of_ble_eq_true rfl) (oDec_at oX5_number 58 rfl) (fun r5 u4 pu4 fu4 => ?_)
          try dsimp only at pu4
          obtain ⟨pu4_0, pu4_1, pu4_2, pu4_3⟩ := pu4
          have hxu4 := oFr_nil fu4; subst hxu4
          have rr5 := n_rng r5
          refine r_callSi C miX5_isDigit mlX5_169 (ct_X5_isDigit l E (t) r5 ) (by decide) rfl rfl rfl (Nat.le_of_ble_eq_true rfl) (oDec_at oX5_number 59 rfl) (fun r7 u6 pu6 fu6 => ?_)
          try dsimp only at pu6
          obtain ⟨pu6_0, pu6_1⟩ := pu6
          have hxu6 := oFr_nil fu6; subst hxu6
          have rr7 := n_rng r7
          refine r_pc C 119 rfl ?_
          refine r_if_eq C 134 (oDec_at oX5_number 60 rfl) (by decide) (fun cd8 => ?_) (fun cd8 => ?_)
          · skip
            have hrg := oqDn_rg g (oqSk g a)
            have hdn := oqDn_of iv5 (by omega) (by omega) (by omega)
            have hnv := oqNv_of (g := g) (a := a) rfl (by omega) hdn iv6
            have hna : oqNa g a = oqSk g a + oqDn g (oqSk g a) := rfl
            refine r_iload C (j := 4) (oDec_at oX5_number 69 rfl) rfl ?_
            refine r_iload_n C (j := 1) (oDec_at oX5_number 70 rfl) rfl rfl ?_
            refine r_icmp_lt C 146 (oDec_at oX5_number 71 rfl) (by decide) (fun cd9 => ?_) (fun cd9 => ?_)
            · skip
              have hN := oqN_2 (g := g) (a := a) (b := b) (lo := lo) (hi := hi) (by omega) hdn (by omega) (by omega)
              refine r_aload_n C (j := 0) (oDec_at oX5_number 75 rfl) rfl rfl ?_
              refine r_iconst C (oDec_at oX5_number 76 rfl) (v := k2) (by rw [qk2]; rfl) ?_
              refine r_iload_n C (j := 3) (oDec_at oX5_number 77 rfl) rfl rfl ?_
              refine r_callVi C oCl5 rfl miX5_fail mlX5_62 (ct4_X5_fail l E (t) k2 x3 ) (by decide) rfl rfl rfl (Nat.le_of_ble_eq_true rfl) (oDec_at oX5_number 78 rfl) (fun r11 u10 pu10 fu10 => ?_)
              try dsimp only at pu10
              obtain ⟨pu10_0, pu10_1, pu10_2, pu10_3⟩ := pu10
              have rr11 := n_rng r11
              refine r_pop C (oDec_at oX5_number 79 rfl) rfl ?_
              refine r_iconst C (oDec_at oX5_number 80 rfl) (v := km1) (by rw [qkm1]; rfl) ?_
              refine r_pc C 154 rfl ?_
              have lk12 : ((u10).1 30 2).toInt = v2.toInt := congrArg Int32.toInt (((fu10 30 2 rfl).1).trans (ev2))
              have lk13 : ((u10).1 30 3).toInt = (t.1 30 3).toInt := congrArg Int32.toInt ((fu10 30 3 rfl).1)
              exact r_iret C (oDec_at oX5_number 81 rfl) ⟨_, rfl, ⟨by omega, by omega⟩⟩
            · skip
              refine r_iload C (j := 4) (oDec_at oX5_number 72 rfl) rfl ?_
              refine r_iload_n C (j := 2) (oDec_at oX5_number 73 rfl) rfl rfl ?_
              refine r_icmp_le C 155 (oDec_at oX5_number 74 rfl) (by decide) (fun cd14 => ?_) (fun cd14 => ?_)
              · skip
                have hN := oqN_0 (g := g) (a := a) (b := b) (lo := lo) (hi := hi) (by omega) hdn (by omega) (by omega)
                refine r_aload_n C (j := 0) (oDec_at oX5_number 82 rfl) rfl rfl ?_
                refine r_aload_n C (j := 0) (oDec_at oX5_number 83 rfl) rfl rfl ?_
                refine r_geti (k := 2) (lo := 0) (hi := 1600) C v2 oCl5 rfl (by decide) flX5_23 rfl rfl (ev2) rfl rfl (oDec_at oX5_number 84 rfl) (fun _ _ => ?_)
                refine r_puti (k := 3) (lo := (-1)) (hi := 1600) C oCl5 rfl (by decide) flX5_26 rfl rfl rfl rfl rfl rfl rfl rfl ⟨by omega, by omega⟩ (oDec_at oX5_number 85 rfl) ?_
                refine r_iload C (j := 4) (oDec_at oX5_number 86 rfl) rfl ?_
                have lk15 : (((pI t 30 3 v2)).1 30 2).toInt = v2.toInt := congrArg Int32.toInt (((pI_ne (a := 30) (b := 2) (c := 30) (k := 3) _ _ (Or.inr (by decide)))).trans (ev2))
                have lk16 : (((pI t 30 3 v2)).1 30 3).toInt = v2.toInt := congrArg Int32.toInt ((pI_self _ _ _ _))
                have lk17 : (((pI t 30 3 v2)).1 30 8).toInt = (t.1 30 8).toInt := congrArg Int32.toInt ((pI_ne (a := 30) (b := 8) (c := 30) (k := 3) _ _ (Or.inr (by decide))))
                have lk18 : (((pI t 30 3 v2)).1 30 9).toInt = (t.1 30 9).toInt := congrArg Int32.toInt ((pI_ne (a := 30) (b := 9) (c := 30) (k := 3) _ _ (Or.inr (by decide))))
                have lk19 : (((pI t 30 3 v2)).1 30 8).toInt = (t.1 30 8).toInt := congrArg Int32.toInt ((pI_ne (a := 30) (b := 8) (c := 30) (k := 3) _ _ (Or.inr (by decide))))
                have lk20 : (((pI t 30 3 v2)).1 30 9).toInt = (t.1 30 9).toInt := congrArg Int32.toInt ((pI_ne (a := 30) (b := 9) (c := 30) (k := 3) _ _ (Or.inr (by decide))))
                exact r_iret C (oDec_at oX5_number 87 rfl) ⟨_, rfl, ⟨by omega, by omega⟩⟩
              · skip
                have hN := oqN_2 (g := g) (a := a) (b := b) (lo := lo) (hi := hi) (by omega) hdn (by omega) (by omega)
                refine r_aload_n C (j := 0) (oDec_at oX5_number 75 rfl) rfl rfl ?_
                refine r_iconst C (oDec_at oX5_number 76 rfl) (v := k2) (by rw [qk2]; rfl) ?_
                refine r_iload_n C (j := 3) (oDec_at oX5_number 77 rfl) rfl rfl ?_
                refine r_callVi C oCl5 rfl miX5_fail mlX5_62 (ct4_X5_fail l E (t) k2 x3 ) (by decide) rfl rfl rfl (Nat.le_of_ble_eq_true rfl) (oDec_at oX5_number 78 rfl) (fun r22 u21 pu21 fu21 => ?_)
                try dsimp only at pu21
                obtain ⟨pu21_0, pu21_1, pu21_2, pu21_3⟩ := pu21
                have rr22 := n_rng r22
                refine r_pop C (oDec_at oX5_number 79 rfl) rfl ?_
                refine r_iconst C (oDec_at oX5_number 80 rfl) (v := km1) (by rw [qkm1]; rfl) ?_
                refine r_pc C 154 rfl ?_
                have lk23 : ((u21).1 30 2).toInt = v2.toInt := congrArg Int32.toInt (((fu21 30 2 rfl).1).trans (ev2))
                have lk24 : ((u21).1 30 3).toInt = (t.1 30 3).toInt := congrArg Int32.toInt ((fu21 30 3 rfl).1)
                exact r_iret C (oDec_at oX5_number 81 rfl) ⟨_, rfl, ⟨by omega, by omega⟩⟩
          · skip
            have hN := oqN_5 (g := g) (a := a) (b := b) (lo := lo) (hi := hi) (by omega) (oqDn_5 iv5 (by omega) (by omega))
            refine r_aload_n C (j := 0) (oDec_at oX5_number 61 rfl) rfl rfl ?_
            refine r_iconst C (oDec_at oX5_number 62 rfl) (v := k1) (by rw [qk1]; rfl) ?_
            refine r_aload_n C (j := 0) (oDec_at oX5_number 63 rfl) rfl rfl ?_
            refine r_geti (k := 2) (lo := 0) (hi := 1600) C v2 oCl5 rfl (by decide) flX5_23 rfl rfl (ev2) rfl rfl (oDec_at oX5_number 64 rfl) (fun _ _ => ?_)
            refine r_callVi C oCl5 rfl miX5_fail mlX5_62 (ct4_X5_fail l E (t) k1 v2 ) (by decide) rfl rfl rfl (Nat.le_of_ble_eq_true rfl) (oDec_at oX5_number 65 rfl) (fun r26 u25 pu25 fu25 => ?_)
            try dsimp only at pu25
            obtain ⟨pu25_0, pu25_1, pu25_2, pu25_3⟩ := pu25
            have rr26 := n_rng r26
            refine r_pop C (oDec_at oX5_number 66 rfl) rfl ?_
            refine r_pc C 132 rfl ?_
            refine r_iconst C (oDec_at oX5_number 67 rfl) (v := km1) (by rw [qkm1]; rfl) ?_
            have lk27 : ((u25).1 30 2).toInt = v2.toInt := congrArg Int32.toInt (((fu25 30 2 rfl).1).trans (ev2))
            have lk28 : ((u25).1 30 3).toInt = (t.1 30 3).toInt := congrArg Int32.toInt ((fu25 30 3 rfl).1)
            exact r_iret C (oDec_at oX5_number 68 rfl) ⟨_, rfl, ⟨by omega, by omega⟩⟩
        · skip
          refine r_aload_n C (j := 0) (oDec_at oX5_number 27 rfl) rfl rfl ?_
          refine r_getF (k := 0) (b := 1) C oCl5 rfl (by decide) flX5_15 rfl rfl rfl (oDec_at oX5_number 28 rfl) ?_
          refine r_aload_n C (j := 0) (oDec_at oX5_number 29 rfl) rfl rfl ?_
          obtain ⟨v29, ev29⟩ : ∃ z : Int32, (t).1 30 2 = z := ⟨_, rfl⟩
          have gv29 : (t.1 30 2).toInt = v29.toInt := congrArg Int32.toInt (ev29)
          refine r_geti (k := 2) (lo := 0) (hi := 1600) C v29 oCl5 rfl (by decide) flX5_23 rfl rfl (ev29) rfl rfl (oDec_at oX5_number 30 rfl) (fun b30 b30h => ?_)
          refine r_callVi C oCl8 rfl miX8_at mlX5_133 (ct4_X8_at l E (t) v29 (g) (oqSk g a + x5.toInt) (by omega) iv0) (by decide) rfl rfl rfl (Nat.le_of_ble_eq_true rfl) (oDec_at oX5_number 31 rfl) (fun r32 u31 pu31 fu31 => ?_)
          try dsimp only at pu31
          obtain ⟨pu31_0, pu31_1, pu31_2, pu31_3⟩ := pu31
          have hxu31 := oFr_nil fu31; subst hxu31
          have rr32 := n_rng r32
          refine r_callSi C miX5_isDigit mlX5_169 (ct_X5_isDigit l E (t) r32 ) (by decide) rfl rfl rfl (Nat.le_of_ble_eq_true rfl) (oDec_at oX5_number 32 rfl) (fun r34 u33 pu33 fu33 => ?_)
          try dsimp only at pu33
          obtain ⟨pu33_0, pu33_1⟩ := pu33
          have hxu33 := oFr_nil fu33; subst hxu33
          have rr34 := n_rng r34
          refine r_pc C 64 rfl ?_
          refine r_if_eq C 105 (oDec_at oX5_number 33 rfl) (by decide) (fun cd35 => ?_) (fun cd35 => ?_)
          · skip
            refine r_aload_n C (j := 0) (oDec_at oX5_number 54 rfl) rfl rfl ?_
            refine r_getF (k := 0) (b := 1) C oCl5 rfl (by decide) flX5_15 rfl rfl rfl (oDec_at oX5_number 55 rfl) ?_
            refine r_aload_n C (j := 0) (oDec_at oX5_number 56 rfl) rfl rfl ?_
            refine r_geti (k := 2) (lo := 0) (hi := 1600) C v29 oCl5 rfl (by decide) flX5_23 rfl rfl (ev29) rfl rfl (oDec_at oX5_number 57 rfl) (fun _ _ => ?_)
            refine r_callVi C oCl8 rfl miX8_at mlX5_133 (ct4_X8_at l E (t) v29 (g) (oqSk g a + x5.toInt) (by omega) iv0) (by decide) rfl rfl rfl (Nat.le_of_ble_eq_true rfl) (oDec_at oX5_number 58 rfl) (fun r37 u36 pu36 fu36 => ?_)
            try dsimp only at pu36
            obtain ⟨pu36_0, pu36_1, pu36_2, pu36_3⟩ := pu36
            have hxu36 := oFr_nil fu36; subst hxu36
            have rr37 := n_rng r37
            refine r_callSi C miX5_isDigit mlX5_169 (ct_X5_isDigit l E (t) r37 ) (by decide) rfl rfl rfl (Nat.le_of_ble_eq_true rfl) (oDec_at oX5_number 59 rfl) (fun r39 u38 pu38 fu38 => ?_)
            try dsimp only at pu38
            obtain ⟨pu38_0, pu38_1⟩ := pu38
            have hxu38 := oFr_nil fu38; subst hxu38
            have rr39 := n_rng r39
            refine r_pc C 119 rfl ?_
            refine r_if_eq C 134 (oDec_at oX5_number 60 rfl) (by decide) (fun cd40 => ?_) (fun cd40 => ?_)
            · skip
              have hrg := oqDn_rg g (oqSk g a)
              have hdn := oqDn_of iv5 (by omega) (by omega) (by omega)
              have hnv := oqNv_of (g := g) (a := a) rfl (by omega) hdn iv6
              have hna : oqNa g a = oqSk g a + oqDn g (oqSk g a) := rfl
              refine r_iload C (j := 4) (oDec_at oX5_number 69 rfl) rfl ?_
              refine r_iload_n C (j := 1) (oDec_at oX5_number 70 rfl) rfl rfl ?_
              refine r_icmp_lt C 146 (oDec_at oX5_number 71 rfl) (by decide) (fun cd41 => ?_) (fun cd41 => ?_)
              · skip
                have hN := oqN_2 (g := g) (a := a) (b := b) (lo := lo) (hi := hi) (by omega) hdn (by omega) (by omega)
                refine r_aload_n C (j := 0) (oDec_at oX5_number 75 rfl) rfl rfl ?_
                refine r_iconst C (oDec_at oX5_number 76 rfl) (v := k2) (by rw [qk2]; rfl) ?_
                refine r_iload_n C (j := 3) (oDec_at oX5_number 77 rfl) rfl rfl ?_
                refine r_callVi C oCl5 rfl miX5_fail mlX5_62 (ct4_X5_fail l E (t) k2 x3 ) (by decide) rfl rfl rfl (Nat.le_of_ble_eq_true rfl) (oDec_at oX5_number 78 rfl) (fun r43 u42 pu42 fu42 => ?_)
                try dsimp only at pu42
                obtain ⟨pu42_0, pu42_1, pu42_2, pu42_3⟩ := pu42
                have rr43 := n_rng r43
                refine r_pop C (oDec_at oX5_number 79 rfl) rfl ?_
                refine r_iconst C (oDec_at oX5_number 80 rfl) (v := km1) (by rw [qkm1]; rfl) ?_
                refine r_pc C 154 rfl ?_
                have lk44 : ((u42).1 30 2).toInt = v29.toInt := congrArg Int32.toInt (((fu42 30 2 rfl).1).trans (ev29))
                have lk45 : ((u42).1 30 3).toInt = (t.1 30 3).toInt := congrArg Int32.toInt ((fu42 30 3 rfl).1)
                exact r_iret C (oDec_at oX5_number 81 rfl) ⟨_, rfl, ⟨by omega, by omega⟩⟩
              · skip
                refine r_iload C (j := 4) (oDec_at oX5_number 72 rfl) rfl ?_
                refine r_iload_n C (j := 2) (oDec_at oX5_number 73 rfl) rfl rfl ?_
                refine r_icmp_le C 155 (oDec_at oX5_number 74 rfl) (by decide) (fun cd46 => ?_) (fun cd46 => ?_)
                · skip
                  have hN := oqN_0 (g := g) (a := a) (b := b) (lo := lo) (hi := hi) (by omega) hdn (by omega) (by omega)
                  refine r_aload_n C (j := 0) (oDec_at oX5_number 82 rfl) rfl rfl ?_
                  refine r_aload_n C (j := 0) (oDec_at oX5_number 83 rfl) rfl rfl ?_
                  refine r_geti (k := 2) (lo := 0) (hi := 1600) C v29 oCl5 rfl (by decide) flX5_23 rfl rfl (ev29) rfl rfl (oDec_at oX5_number 84 rfl) (fun _ _ => ?_)
                  refine r_puti (k := 3) (lo := (-1)) (hi := 1600) C oCl5 rfl (by decide) flX5_26 rfl rfl rfl rfl rfl rfl rfl rfl ⟨by omega, by omega⟩ (oDec_at oX5_number 85 rfl) ?_
                  refine r_iload C (j := 4) (oDec_at oX5_number 86 rfl) rfl ?_
                  have lk47 : (((pI t 30 3 v29)).1 30 2).toInt = v29.toInt := congrArg Int32.toInt (((pI_ne (a := 30) (b := 2) (c := 30) (k := 3) _ _ (Or.inr (by decide)))).trans (ev29))
                  have lk48 : (((pI t 30 3 v29)).1 30 3).toInt = v29.toInt := congrArg Int32.toInt ((pI_self _ _ _ _))
                  have lk49 : (((pI t 30 3 v29)).1 30 8).toInt = (t.1 30 8).toInt := congrArg Int32.toInt ((pI_ne (a := 30) (b := 8) (c := 30) (k := 3) _ _ (Or.inr (by decide))))
                  have lk50 : (((pI t 30 3 v29)).1 30 9).toInt = (t.1 30 9).toInt := congrArg Int32.toInt ((pI_ne (a := 30) (b := 9) (c := 30) (k := 3) _ _ (Or.inr (by decide))))
                  have lk51 : (((pI t 30 3 v29)).1 30 8).toInt = (t.1 30 8).toInt := congrArg Int32.toInt ((pI_ne (a := 30) (b := 8) (c := 30) (k := 3) _ _ (Or.inr (by decide))))
                  have lk52 : (((pI t 30 3 v29)).1 30 9).toInt = (t.1 30 9).toInt := congrArg Int32.toInt ((pI_ne (a := 30) (b := 9) (c := 30) (k := 3) _ _ (Or.inr (by decide))))
                  exact r_iret C (oDec_at oX5_number 87 rfl) ⟨_, rfl, ⟨by omega, by omega⟩⟩
                · skip
                  have hN := oqN_2 (g := g) (a := a) (b := b) (lo := lo) (hi := hi) (by omega) hdn (by omega) (by omega)
                  refine r_aload_n C (j := 0) (oDec_at oX5_number 75 rfl) rfl rfl ?_
                  refine r_iconst C (oDec_at oX5_number 76 rfl) (v := k2) (by rw [qk2]; rfl) ?_
                  refine r_iload_n C (j := 3) (oDec_at oX5_number 77 rfl) rfl rfl ?_
                  refine r_callVi C oCl5 rfl miX5_fail mlX5_62 (ct4_X5_fail l E (t) k2 x3 ) (by decide) rfl rfl rfl (Nat.le_of_ble_eq_true rfl) (oDec_at oX5_number 78 rfl) (fun r54 u53 pu53 fu53 => ?_)
                  try dsimp only at pu53
                  obtain ⟨pu53_0, pu53_1, pu53_2, pu53_3⟩ := pu53
                  have rr54 := n_rng r54
                  refine r_pop C (oDec_at oX5_number 79 rfl) rfl ?_
                  refine r_iconst C (oDec_at oX5_number 80 rfl) (v := km1) (by rw [qkm1]; rfl) ?_
                  refine r_pc C 154 rfl ?_
                  have lk55 : ((u53).1 30 2).toInt = v29.toInt := congrArg Int32.toInt (((fu53 30 2 rfl).1).trans (ev29))
                  have lk56 : ((u53).1 30 3).toInt = (t.1 30 3).toInt := congrArg Int32.toInt ((fu53 30 3 rfl).1)
                  exact r_iret C (oDec_at oX5_number 81 rfl) ⟨_, rfl, ⟨by omega, by omega⟩⟩
            · skip
              have hN := oqN_5 (g := g) (a := a) (b := b) (lo := lo) (hi := hi) (by omega) (oqDn_5 iv5 (by omega) (by omega))
              refine r_aload_n C (j := 0) (oDec_at oX5_number 61 rfl) rfl rfl ?_
              refine r_iconst C (oDec_at oX5_number 62 rfl) (v := k1) (by rw [qk1]; rfl) ?_
              refine r_aload_n C (j := 0) (oDec_at oX5_number 63 rfl) rfl rfl ?_
              refine r_geti (k := 2) (lo := 0) (hi := 1600) C v29 oCl5 rfl (by decide) flX5_23 rfl rfl (ev29) rfl rfl (oDec_at oX5_number 64 rfl) (fun _ _ => ?_)
              refine r_callVi C oCl5 rfl miX5_fail mlX5_62 (ct4_X5_fail l E (t) k1 v29 ) (by decide) rfl rfl rfl (Nat.le_of_ble_eq_true rfl) (oDec_at oX5_number 65 rfl) (fun r58 u57 pu57 fu57 => ?_)
              try dsimp only at pu57
              obtain ⟨pu57_0, pu57_1, pu57_2, pu57_3⟩ := pu57
              have rr58 := n_rng r58
              refine r_pop C (oDec_at oX5_number 66 rfl) rfl ?_
              refine r_pc C 132 rfl ?_
              refine r_iconst C (oDec_at oX5_number 67 rfl) (v := km1) (by rw [qkm1]; rfl) ?_
              have lk59 : ((u57).1 30 2).toInt = v29.toInt := congrArg Int32.toInt (((fu57 30 2 rfl).1).trans (ev29))
              have lk60 : ((u57).1 30 3).toInt = (t.1 30 3).toInt := congrArg Int32.toInt ((fu57 30 3 rfl).1)
              exact r_iret C (oDec_at oX5_number 68 rfl) ⟨_, rfl, ⟨by omega, by omega⟩⟩
          · skip
            refine r_bipush C (oDec_at oX5_number 34 rfl) (v := k10) (by rw [qk10]; rfl) ?_
            refine r_iload C (j := 4) (oDec_at oX5_number 35 rfl) rfl ?_
            obtain ⟨v61, ev61⟩ : ∃ z : Int32, z = k10 * x4 := ⟨_, rfl⟩
            have hv61 : v61.toInt = 10 * x4.toInt := n_mulK' 10 ev61 ek10 (by omega) (by omega)
            refine r_imul C v61 (oDec_at oX5_number 36 rfl) ev61 ?_
            refine r_aload_n C (j := 0) (oDec_at oX5_number 37 rfl) rfl rfl ?_
            refine r_getF (k := 0) (b := 1) C oCl5 rfl (by decide) flX5_15 rfl rfl rfl (oDec_at oX5_number 38 rfl) ?_
            refine r_aload_n C (j := 0) (oDec_at oX5_number 39 rfl) rfl rfl ?_
            refine r_pc C 77 rfl ?_
            refine r_geti (k := 2) (lo := 0) (hi := 1600) C v29 oCl5 rfl (by decide) flX5_23 rfl rfl (ev29) rfl rfl (oDec_at oX5_number 40 rfl) (fun _ _ => ?_)
            refine r_callVi C oCl8 rfl miX8_at mlX5_133 (ct4_X8_at l E (t) v29 (g) (oqSk g a + x5.toInt) (by omega) iv0) (by decide) rfl rfl rfl (Nat.le_of_ble_eq_true rfl) (oDec_at oX5_number 41 rfl) (fun r63 u62 pu62 fu62 => ?_)
            try dsimp only at pu62
            obtain ⟨pu62_0, pu62_1, pu62_2, pu62_3⟩ := pu62
            have hxu62 := oFr_nil fu62; subst hxu62
            have rr63 := n_rng r63
            obtain ⟨v64, ev64⟩ : ∃ z : Int32, z = v61 + r63 := ⟨_, rfl⟩
            have hv64 : v64.toInt = v61.toInt + r63.toInt := n_add ev64 (by omega) (by omega)
            refine r_iadd C v64 (oDec_at oX5_number 42 rfl) ev64 ?_
            refine r_bipush C (oDec_at oX5_number 43 rfl) (v := k48) (by rw [qk48]; rfl) ?_
            obtain ⟨v65, ev65⟩ : ∃ z : Int32, z = v64 - k48 := ⟨_, rfl⟩
            have hv65 : v65.toInt = v64.toInt - k48.toInt := n_sub ev65 (by omega) (by omega)
            refine r_isub C v65 (oDec_at oX5_number 44 rfl) ev65 ?_
            refine r_istore C (lv' := [(0, .ref (oad E 30)), (1, .int a1), (2, .int a2), (3, .int x3), (4, .int v65), (5, .int x5)]) [1, 2, 3, 4, 0, 5] (oDec_at oX5_number 45 rfl) (by decide) rfl ?_
            refine r_pc C 89 rfl ?_
            refine r_aload_n C (j := 0) (oDec_at oX5_number 46 rfl) rfl rfl ?_
            refine r_dup C (oDec_at oX5_number 47 rfl) rfl ?_
            refine r_geti (k := 2) (lo := 0) (hi := 1600) C v29 oCl5 rfl (by decide) flX5_23 rfl rfl (ev29) rfl rfl (oDec_at oX5_number 48 rfl) (fun _ _ => ?_)
            refine r_iconst C (oDec_at oX5_number 49 rfl) (v := k1) (by rw [qk1]; rfl) ?_
            obtain ⟨v66, ev66⟩ : ∃ z : Int32, z = v29 + k1 := ⟨_, rfl⟩
            have hv66 : v66.toInt = v29.toInt + k1.toInt := n_add ev66 (by omega) (by omega)
            refine r_iadd C v66 (oDec_at oX5_number 50 rfl) ev66 ?_
            refine r_puti (k := 2) (lo := 0) (hi := 1600) C oCl5 rfl (by decide) flX5_23 rfl rfl rfl rfl rfl rfl rfl rfl ⟨by omega, by omega⟩ (oDec_at oX5_number 51 rfl) ?_
            refine r_pc C 99 rfl ?_
            obtain ⟨v67, ev67⟩ : ∃ z : Int32, x5 + Int32.ofInt 1 = z := ⟨_, rfl⟩
            have hv67 : v67.toInt = x5.toInt + 1 := n_inc ev67 (by decide) (by omega) (by omega)
            refine r_iinc C (j := 5) (lv' := [(0, .ref (oad E 30)), (1, .int a1), (2, .int a2), (3, .int x3), (4, .int v65), (5, .int v67)]) v67 [1, 2, 3, 4, 5, 0] (oDec_at oX5_number 52 rfl) rfl ev67 (by decide) rfl ?_
            refine r_goto C (tgt := 44) (oDec_at oX5_number 53 rfl) (by decide) ?_
            have lk68 : (((pI t 30 2 v66)).1 30 2).toInt = v66.toInt := congrArg Int32.toInt ((pI_self _ _ _ _))
            have lk69 : (((pI t 30 2 v66)).1 30 8).toInt = (t.1 30 8).toInt := congrArg Int32.toInt ((pI_ne (a := 30) (b := 8) (c := 30) (k := 2) _ _ (Or.inr (by decide))))
            have lk70 : (((pI t 30 2 v66)).1 30 9).toInt = (t.1 30 9).toInt := congrArg Int32.toInt ((pI_ne (a := 30) (b := 9) (c := 30) (k := 2) _ _ (Or.inr (by decide))))
            exact (ih (n - 1) (by omega)) ((pI t 30 2 v66)) x3 v65 v67  (oqX_fr (oFr_oneI (q := 5) (m := 2) rfl (by rfl)) rfl iv0) (by omega) (by omega) (by omega) (by omega) (by first | exact oqDs_nx (b := oqSk g a + x5.toInt) iv5 (by omega) (by omega) rfl (by omega) | exact oqDs_0 (by omega)) (by first | (rw [oqDv_nx (x := x5) (b := oqSk g a + x5.toInt) (by omega) (by omega) rfl]; omega) | (rw [oqDv_0 (by omega)]; omega)) (by omega) (by omega) (by omega) (by omega)
  refine r_aload_n C (j := 0) (oDec_at oX5_number 0 rfl) rfl rfl ?_
  refine r_callVi C oCl5 rfl miX5_peek mlX5_43 (ct4_X5_peek l E (s)  (g) (a) (by omega) hp2) (by decide) rfl rfl rfl (Nat.le_of_ble_eq_true rfl) (oDec_at oX5_number 1 rfl) (fun r72 u71 pu71 fu71 => ?_)
  try dsimp only at pu71
  obtain ⟨pu71_0, pu71_1, pu71_2, pu71_3, pu71_4, pu71_5⟩ := pu71
  have rr72 := n_rng r72
  refine r_callSi C miX5_isDigit mlX5_169 (ct_X5_isDigit l E (u71) r72 ) (by decide) rfl rfl rfl (Nat.le_of_ble_eq_true rfl) (oDec_at oX5_number 2 rfl) (fun r74 u73 pu73 fu73 => ?_)
  try dsimp only at pu73
  obtain ⟨pu73_0, pu73_1⟩ := pu73
  have hxu73 := oFr_nil fu73; subst hxu73
  have rr74 := n_rng r74
  refine r_if_eq C 21 (oDec_at oX5_number 3 rfl) (by decide) (fun cd75 => ?_) (fun cd75 => ?_)
  · skip
    have hrg := oqDn_rg g (oqSk g a)
    have hN := oqN_1 (g := g) (a := a) (b := b) (lo := lo) (hi := hi) (by omega)
    refine r_aload_n C (j := 0) (oDec_at oX5_number 9 rfl) rfl rfl ?_
    refine r_iconst C (oDec_at oX5_number 10 rfl) (v := k1) (by rw [qk1]; rfl) ?_
    refine r_aload_n C (j := 0) (oDec_at oX5_number 11 rfl) rfl rfl ?_
    obtain ⟨v76, ev76⟩ : ∃ z : Int32, (u71).1 30 2 = z := ⟨_, rfl⟩
    have gv76 : (u71.1 30 2).toInt = v76.toInt := congrArg Int32.toInt (ev76)
    refine r_geti (k := 2) (lo := 0) (hi := 1600) C v76 oCl5 rfl (by decide) flX5_23 rfl rfl (ev76) rfl rfl (oDec_at oX5_number 12 rfl) (fun b77 b77h => ?_)
    refine r_callVi C oCl5 rfl miX5_fail mlX5_62 (ct4_X5_fail l E (u71) k1 v76 ) (by decide) rfl rfl rfl (Nat.le_of_ble_eq_true rfl) (oDec_at oX5_number 13 rfl) (fun r79 u78 pu78 fu78 => ?_)
    try dsimp only at pu78
    obtain ⟨pu78_0, pu78_1, pu78_2, pu78_3⟩ := pu78
    have rr79 := n_rng r79
    refine r_pop C (oDec_at oX5_number 14 rfl) rfl ?_
    refine r_pc C 31 rfl ?_
    refine r_iconst C (oDec_at oX5_number 15 rfl) (v := km1) (by rw [qkm1]; rfl) ?_
    have lk80 : ((u78).1 30 2).toInt = v76.toInt := congrArg Int32.toInt (((fu78 30 2 rfl).1).trans (ev76))
    have lk81 : ((u78).1 30 3).toInt = (s.1 30 3).toInt := congrArg Int32.toInt (((fu78 30 3 rfl).1).trans ((fu71 30 3 rfl).1))
    exact r_iret C (oDec_at oX5_number 16 rfl) ⟨_, rfl, ⟨by omega, by omega⟩⟩
  · skip
    refine r_aload_n C (j := 0) (oDec_at oX5_number 4 rfl) rfl rfl ?_
    obtain ⟨v82, ev82⟩ : ∃ z : Int32, (u71).1 30 2 = z := ⟨_, rfl⟩
    have gv82 : (u71.1 30 2).toInt = v82.toInt := congrArg Int32.toInt (ev82)
    refine r_geti (k := 2) (lo := 0) (hi := 1600) C v82 oCl5 rfl (by decide) flX5_23 rfl rfl (ev82) rfl rfl (oDec_at oX5_number 5 rfl) (fun b83 b83h => ?_)
    refine r_aload_n C (j := 0) (oDec_at oX5_number 6 rfl) rfl rfl ?_
    obtain ⟨v84, ev84⟩ : ∃ z : Int32, (u71).1 30 3 = z := ⟨_, rfl⟩
    have gv84 : (s.1 30 3).toInt = v84.toInt := congrArg Int32.toInt (((fu71 30 3 rfl).1).symm.trans ev84)
    have ggv84 : ((u71).1 30 3).toInt = v84.toInt := congrArg Int32.toInt ev84
    refine r_geti (k := 3) (lo := (-1)) (hi := 1600) C v84 oCl5 rfl (by decide) flX5_26 rfl rfl (ev84) rfl rfl (oDec_at oX5_number 7 rfl) (fun b85 b85h => ?_)
    refine r_icmp_ne C 33 (oDec_at oX5_number 8 rfl) (by decide) (fun cd86 => ?_) (fun cd86 => ?_)
    · skip
      refine r_aload_n C (j := 0) (oDec_at oX5_number 17 rfl) rfl rfl ?_
      refine r_geti (k := 2) (lo := 0) (hi := 1600) C v82 oCl5 rfl (by decide) flX5_23 rfl rfl (ev82) rfl rfl (oDec_at oX5_number 18 rfl) (fun _ _ => ?_)
      refine r_istore_n C (lv' := [(0, .ref (oad E 30)), (1, .int a1), (2, .int a2), (3, .int v82)]) [1, 2, 3, 0] (oDec_at oX5_number 19 rfl) rfl (by decide) rfl ?_
      refine r_iconst C (oDec_at oX5_number 20 rfl) (v := k0) (by rw [qk0]; rfl) ?_
      refine r_istore C (lv' := [(0, .ref (oad E 30)), (1, .int a1), (2, .int a2), (3, .int v82), (4, .int k0)]) [1, 2, 3, 4, 0] (oDec_at oX5_number 21 rfl) (by decide) rfl ?_
      refine r_iconst C (oDec_at oX5_number 22 rfl) (v := k0) (by rw [qk0]; rfl) ?_
      refine r_pc C 42 rfl ?_
      refine r_istore C (lv' := [(0, .ref (oad E 30)), (1, .int a1), (2, .int a2), (3, .int v82), (4, .int k0), (5, .int k0)]) [1, 2, 3, 4, 5, 0] (oDec_at oX5_number 23 rfl) (by decide) rfl ?_
      have lk87 : ((u71).1 30 2).toInt = v82.toInt := congrArg Int32.toInt (ev82)
      have lk88 : ((u71).1 30 8).toInt = (s.1 30 8).toInt := congrArg Int32.toInt ((fu71 30 8 rfl).1)
      have lk89 : ((u71).1 30 9).toInt = (s.1 30 9).toInt := congrArg Int32.toInt ((fu71 30 9 rfl).1)
      exact (key (5 - k0.toInt).toNat) (u71) v82 k0 k0  (oqX_fr fu71 rfl hp2) (by omega) (by omega) (by omega) (by omega) (by first | exact oqDs_0 (by omega)) (by first | (rw [oqDv_0 (by omega)]; omega)) (by omega) (by omega) (by omega) (by omega)
    · skip
      have hrg := oqDn_rg g (oqSk g a)
      have hN := oqN_1 (g := g) (a := a) (b := b) (lo := lo) (hi := hi) (by omega)
      refine r_aload_n C (j := 0) (oDec_at oX5_number 9 rfl) rfl rfl ?_
      refine r_iconst C (oDec_at oX5_number 10 rfl) (v := k1) (by rw [qk1]; rfl) ?_
      refine r_aload_n C (j := 0) (oDec_at oX5_number 11 rfl) rfl rfl ?_
      refine r_geti (k := 2) (lo := 0) (hi := 1600) C v82 oCl5 rfl (by decide) flX5_23 rfl rfl (ev82) rfl rfl (oDec_at oX5_number 12 rfl) (fun _ _ => ?_)
      refine r_callVi C oCl5 rfl miX5_fail mlX5_62 (ct4_X5_fail l E (u71) k1 v82 ) (by decide) rfl rfl rfl (Nat.le_of_ble_eq_true rfl) (oDec_at oX5_number 13 rfl) (fun r91 u90 pu90 fu90 => ?_)
      try dsimp only at pu90
      obtain ⟨pu90_0, pu90_1, pu90_2, pu90_3⟩ := pu90
      have rr91 := n_rng r91
      refine r_pop C (oDec_at oX5_number 14 rfl) rfl ?_
      refine r_pc C 31 rfl ?_
      refine r_iconst C (oDec_at oX5_number 15 rfl) (v := km1) (by rw [qkm1]; rfl) ?_
      have lk92 : ((u90).1 30 2).toInt = v82.toInt := congrArg Int32.toInt (((fu90 30 2 rfl).1).trans (ev82))
      have lk93 : ((u90).1 30 3).toInt = v84.toInt := congrArg Int32.toInt (((fu90 30 3 rfl).1).trans (ev84))
      exact r_iret C (oDec_at oX5_number 16 rfl) ⟨_, rfl, ⟨by omega, by omega⟩⟩
