set_option maxHeartbeats 4000000 in
set_option maxRecDepth 100000 in
theorem gr9_X5_X5_sum (l : Launch) (E : oE) (N : Nat) (ih : ∀ m : Nat, m < N → ogr9_X5 l E m) (h_X5_product : ogr9_X5_X5_product l E N) : ogr9_X5_X5_sum l E N := by
  intro s g fp fq a b op bc L F d G hp0 hp1 hp2 hp3 hp4 hp5 hp6 hp7 hp8 hp9 hp10
  refine oMet.of (lv := [(0, .ref (oad E 30))]) (by decide +kernel) (Nat.le_of_ble_eq_true rfl) rfl (fun J C hT => ?_)
  have C : oC l (7 + 10 * N + 4) cX5_sum RX5 3 (some .boolean) [(0, 1), (5, 2), (5, 3), (5, 4), (5, 5), (5, 8), (5, 9), (20, 9999)] E s (oPi (fun r u => (0 ≤ r.toInt ∧ r.toInt ≤ 1) ∧ (r.toInt = 1 → oqGo g fp fq 1 (oqSk g a) b op 3 (u.1 30 2).toInt (u.1 30 3).toInt op) ∧ (r.toInt = 1 → ¬ oqOp g (u.1 30 2).toInt) ∧ (r.toInt = 1 → (oqSk g (u.1 30 2).toInt = (u.1 30 2).toInt ∧ (u.1 30 5).toInt = op ∧ a + 1 ≤ (u.1 30 2).toInt ∧ (u.1 30 8).toInt = (s.1 30 8).toInt ∧ (u.1 30 9).toInt = (s.1 30 9).toInt)) ∧ (r.toInt = 0 → oqFa g fp fq 1 (oqSk g a) b op (u.1 30 8).toInt (u.1 30 9).toInt) ∧ (r.toInt = 1 → oqEc oqT1 g fp fq 1 (oqSk g a) b op 3 (u.1 30 2).toInt (u.1 30 3).toInt op L F (u.1 bc 1).toInt (u.1 (bc + 1))) ∧ (r.toInt = 1 → (u.1 bc 1).toInt - L ≤ (u.1 30 2).toInt - a) ∧ (oqKx d G u))) J := C
  obtain ⟨k0, qk0⟩ : ∃ z : Int32, z = 0 := ⟨_, rfl⟩
  have ek0 : k0.toInt = 0 := by rw [qk0]; rfl
  obtain ⟨k1, qk1⟩ : ∃ z : Int32, z = 1 := ⟨_, rfl⟩
  have ek1 : k1.toInt = 1 := by rw [qk1]; rfl
  obtain ⟨k43, qk43⟩ : ∃ z : Int32, z = 43 := ⟨_, rfl⟩
  have ek43 : k43.toInt = 43 := by rw [qk43]; rfl
  obtain ⟨k45, qk45⟩ : ∃ z : Int32, z = 45 := ⟨_, rfl⟩
  have ek45 : k45.toInt = 45 := by rw [qk45]; rfl
  obtain ⟨k1600, qk1600⟩ : ∃ z : Int32, z = 1600 := ⟨_, rfl⟩
  have ek1600 : k1600.toInt = 1600 := by rw [qk1600]; rfl
  obtain ⟨k10026, qk10026⟩ : ∃ z : Int32, z = 10026 := ⟨_, rfl⟩
  have ek10026 : k10026.toInt = 10026 := by rw [qk10026]; rfl
  obtain ⟨k10027, qk10027⟩ : ∃ z : Int32, z = 10027 := ⟨_, rfl⟩
  have ek10027 : k10027.toInt = 10027 := by rw [qk10027]; rfl
  have hge9 := oqSk_ge g a
  have hkb := (hp8 : oqAn bc L F s).1
  have hLs := (hp8 : oqAn bc L F s).2.1
  have key : ∀ n : Nat, (∀ (t : oS) (x1 : Int32), (oqX g t) → (0 ≤ x1.toInt ∧ 2 * x1.toInt ≤ (t.1 30 2).toInt) → ((t.1 30 5).toInt = op) → (oqGo g fp fq 1 (oqSk g a) b op 3 (t.1 30 2).toInt (t.1 30 3).toInt op) → (a + 1 ≤ (t.1 30 2).toInt) → ((t.1 30 8).toInt = (s.1 30 8).toInt ∧ (t.1 30 9).toInt = (s.1 30 9).toInt) → ((t.1 30 6).toInt = fp ∧ (t.1 30 7).toInt = fq) → (g (t.1 30 2).toInt ≠ 42 ∧ g (t.1 30 2).toInt ≠ 47 ∧ oqSk g (t.1 30 2).toInt = (t.1 30 2).toInt) → (oqRw bc t) → (oqKx d G t) → (oqEc oqT1 g fp fq 1 (oqSk g a) b op 3 (t.1 30 2).toInt (t.1 30 3).toInt op L F (t.1 bc 1).toInt (t.1 (bc + 1))) → ((t.1 bc 1).toInt - L ≤ (t.1 30 2).toInt - a) → 1601 - x1.toInt ≤ (n : Int) → J t 11 [(0, .ref (oad E 30)), (1, .int x1)] []) := by
    intro n
    induction n using Nat.strongRecOn with
    | _ n ih =>
      skip
      · intro t x1  iv0 iv1 iv2 iv3 iv4 iv5 iv6 iv7 iv8 iv9 iv10 iv11 hmu
        have rx1 := n_rng x1
        have hEC := iv10
        obtain ⟨L1, hL1⟩ : ∃ z, z = ((t).1 bc 1).toInt := ⟨_, rfl⟩
        obtain ⟨F1, hF1⟩ : ∃ z, z = (t).1 (bc + 1) := ⟨_, rfl⟩
        rw [← hL1, ← hF1] at hEC
        have hLe9 := hEC.le
        have hq1 : oqAn bc L1 F1 (t) := ⟨hkb, hL1.symm, hF1.symm⟩
        refine r_iload_n C (j := 1) (oDec_at oX5_sum 7 rfl) rfl rfl ?_
        refine r_sipush C (oDec_at oX5_sum 8 rfl) (v := k1600) (by rw [qk1600]; rfl) ?_
        refine r_icmp_ge C 84 (oDec_at oX5_sum 9 rfl) (by decide) (fun cd2 => ?_) (fun cd2 => ?_)
        · skip
          refine r_ty C (fun hty => ?_)
          have hta : (0 : Int) ≤ ((t).1 30 2).toInt ∧ ((t).1 30 2).toInt ≤ 1600 := hty.1 30 2
          clear hty
          refine r_iconst C (oDec_at oX5_sum 43 rfl) (v := k1) (by rw [qk1]; rfl) ?_
          exact r_zret C (n_bool (by omega)) (oDec_at oX5_sum 44 rfl) ⟨_, rfl, ⟨by omega, by exfalso; omega, by exfalso; omega, by omega, by exfalso; omega, by exfalso; omega, by exfalso; omega, iv9⟩⟩
        · skip
          refine r_aload_n C (j := 0) (oDec_at oX5_sum 10 rfl) rfl rfl ?_
          refine r_callVi C oCl5 rfl miX5_peek mlX5_43 (ct4_X5_peek l E (t)  (g) ((t.1 30 2).toInt) (by omega) iv0) (by omega) rfl rfl rfl (Nat.le_of_ble_eq_true rfl) (oDec_at oX5_sum 11 rfl) (fun r4 u3 pu3 fu3 => ?_)
          try dsimp only at pu3
          obtain ⟨pu3_0, pu3_1, pu3_2, pu3_3, pu3_4, pu3_5⟩ := pu3
          have rr4 := n_rng r4
          have hgx : g (oqSk g (t.1 30 2).toInt) = g (t.1 30 2).toInt := by rw [iv7.2.2]
          have hgy : g ((u3).1 30 2).toInt = g (t.1 30 2).toInt := by rw [show ((u3).1 30 2).toInt = (t.1 30 2).toInt by omega]
          have hsx : oqSk g ((u3).1 30 2).toInt = ((u3).1 30 2).toInt := by rw [show ((u3).1 30 2).toInt = (t.1 30 2).toInt by omega]; exact iv7.2.2
          refine r_istore_n C (lv' := [(0, .ref (oad E 30)), (1, .int x1), (2, .int r4)]) [1, 2, 0] (oDec_at oX5_sum 12 rfl) rfl (by decide) rfl ?_
          refine r_iload_n C (j := 2) (oDec_at oX5_sum 13 rfl) rfl rfl ?_
          refine r_bipush C (oDec_at oX5_sum 14 rfl) (v := k43) (by rw [qk43]; rfl) ?_
          refine r_icmp_eq C 37 (oDec_at oX5_sum 15 rfl) (by decide) (fun cd5 => ?_) (fun cd5 => ?_)
          · skip
            have hop : oqOp g (t.1 30 2).toInt := by unfold oqOp; omega
            refine r_aload_n C (j := 0) (oDec_at oX5_sum 21 rfl) rfl rfl ?_
            refine r_dup C (oDec_at oX5_sum 22 rfl) rfl ?_
            obtain ⟨v6, ev6⟩ : ∃ z : Int32, (u3).1 30 2 = z := ⟨_, rfl⟩
            have gv6 : (u3.1 30 2).toInt = v6.toInt := congrArg Int32.toInt (ev6)
            refine r_geti (k := 2) (lo := 0) (hi := 1600) C v6 oCl5 rfl (by decide) flX5_23 rfl rfl (ev6) rfl rfl (oDec_at oX5_sum 23 rfl) (fun b7 b7h => ?_)
            refine r_iconst C (oDec_at oX5_sum 24 rfl) (v := k1) (by rw [qk1]; rfl) ?_
            obtain ⟨v8, ev8⟩ : ∃ z : Int32, z = v6 + k1 := ⟨_, rfl⟩
            have hv8 : v8.toInt = v6.toInt + k1.toInt := n_add ev8 (by omega) (by omega)
            refine r_iadd C v8 (oDec_at oX5_sum 25 rfl) ev8 ?_
            refine r_puti (k := 2) (lo := 0) (hi := 1600) C oCl5 rfl (by decide) flX5_23 rfl rfl rfl rfl rfl rfl rfl rfl ⟨by omega, by omega⟩ (oDec_at oX5_sum 26 rfl) ?_
            refine r_pc C 47 rfl ?_
            refine r_aload_n C (j := 0) (oDec_at oX5_sum 27 rfl) rfl rfl ?_
            have lk9 : (((pI u3 30 2 v8)).1 30 2).toInt = v8.toInt := congrArg Int32.toInt ((pI_self _ _ _ _))
            have lk10 : (((pI u3 30 2 v8)).1 30 3).toInt = (t.1 30 3).toInt := congrArg Int32.toInt (((pI_ne (a := 30) (b := 3) (c := 30) (k := 2) _ _ (Or.inr (by decide)))).trans ((fu3 30 3 rfl).1))
            have lk11 : (((pI u3 30 2 v8)).1 30 5).toInt = (t.1 30 5).toInt := congrArg Int32.toInt (((pI_ne (a := 30) (b := 5) (c := 30) (k := 2) _ _ (Or.inr (by decide)))).trans ((fu3 30 5 rfl).1))
            have lk12 : (((pI u3 30 2 v8)).1 30 6).toInt = (t.1 30 6).toInt := congrArg Int32.toInt (((pI_ne (a := 30) (b := 6) (c := 30) (k := 2) _ _ (Or.inr (by decide)))).trans ((fu3 30 6 rfl).1))
            have lk13 : (((pI u3 30 2 v8)).1 30 7).toInt = (t.1 30 7).toInt := congrArg Int32.toInt (((pI_ne (a := 30) (b := 7) (c := 30) (k := 2) _ _ (Or.inr (by decide)))).trans ((fu3 30 7 rfl).1))
            have lk14 : (((pI u3 30 2 v8)).1 30 5).toInt = (t.1 30 5).toInt := congrArg Int32.toInt (((pI_ne (a := 30) (b := 5) (c := 30) (k := 2) _ _ (Or.inr (by decide)))).trans ((fu3 30 5 rfl).1))
            have lk15 : (((pI u3 30 2 v8)).1 30 8).toInt = (t.1 30 8).toInt := congrArg Int32.toInt (((pI_ne (a := 30) (b := 8) (c := 30) (k := 2) _ _ (Or.inr (by decide)))).trans ((fu3 30 8 rfl).1))
            have lk16 : (((pI u3 30 2 v8)).1 30 9).toInt = (t.1 30 9).toInt := congrArg Int32.toInt (((pI_ne (a := 30) (b := 9) (c := 30) (k := 2) _ _ (Or.inr (by decide)))).trans ((fu3 30 9 rfl).1))
            refine r_callVi C oCl5 rfl miX5_product mlX5_163 (h_X5_product ((pI u3 30 2 v8))  (g) (fp) (fq) ((t.1 30 2).toInt + 1) ((t.1 30 3).toInt) (op) (bc) (L1) (F1) (d) (G) (by omega) (by omega) (oqX_fr (oFr_oneI (q := 5) (m := 2) rfl (by rfl)) rfl (oqX_fr fu3 rfl iv0)) (by omega) (by omega) (by omega) (by omega) (oqRw_fr (oFr_oneI (q := 5) (m := 2) rfl (by rfl)) rfl (oqRw_fr fu3 rfl iv8)) (oqAn_fr (oFr_oneI (q := 5) (m := 2) rfl (by rfl)) rfl (oqAn_fr fu3 rfl hq1)) (by omega) (oqKx_fr (oFr_oneI (q := 5) (m := 2) rfl (by rfl)) rfl (oqKx_fr fu3 rfl iv9))) (by omega) rfl rfl rfl (Nat.le_of_ble_eq_true rfl) (oDec_at oX5_sum 28 rfl) (fun r18 u17 pu17 fu17 => ?_)
            try dsimp only at pu17
            try simp only [lk9, lk10, lk11, lk12, lk13, lk14, lk15, lk16] at pu17
            obtain ⟨pu17_0, pu17_1, pu17_2, pu17_3, pu17_4, pu17_5, pu17_6, pu17_7⟩ := pu17
            have rr18 := n_rng r18
            refine r_if_ne C 56 (oDec_at oX5_sum 29 rfl) (by decide) (fun cd19 => ?_) (fun cd19 => ?_)
            · skip
              replace pu17_1 := pu17_1 (by omega)
              replace pu17_2 := pu17_2 (by omega)
              replace pu17_3 := pu17_3 (by omega)
              clear pu17_4
              replace pu17_5 := pu17_5 (by omega)
              replace pu17_6 := pu17_6 (by omega)
              obtain ⟨L2, hL2⟩ : ∃ z, z = ((u17).1 bc 1).toInt := ⟨_, rfl⟩
              obtain ⟨F2, hF2⟩ : ∃ z, z = (u17).1 (bc + 1) := ⟨_, rfl⟩
              have hE2 := pu17_5
              rw [← hL2, ← hF2] at hE2
              try (have hLe2 := hE2.le)
              have hQ2 := pu17_2
              have hq20 : oqAn bc L2 F2 (u17) := ⟨hkb, hL2.symm, hF2.symm⟩
              refine r_aload_n C (j := 0) (oDec_at oX5_sum 32 rfl) rfl rfl ?_
              refine r_getS (k := 1) (q2 := 0) C oCl5 rfl (by decide) flX5_19 rfl rfl rfl ks1 (oDec_at oX5_sum 33 rfl) (fun b21 rb21 mb21 hkb21 => ?_)
              refine r_iload_n C (j := 2) (oDec_at oX5_sum 34 rfl) rfl rfl ?_
              refine r_bipush C (oDec_at oX5_sum 35 rfl) (v := k43) (by rw [qk43]; rfl) ?_
              refine r_icmp_ne C 72 (oDec_at oX5_sum 36 rfl) (by decide) (fun cd22 => ?_) (fun cd22 => ?_)
              · omega
              · skip
                refine r_sipush C (oDec_at oX5_sum 37 rfl) (v := k10026) (by rw [qk10026]; rfl) ?_
                refine r_goto C (tgt := 75) (oDec_at oX5_sum 38 rfl) (by decide) ?_
                refine r_ty C (fun hty => ?_)
                have hta : (0 : Int) ≤ ((u17).1 30 2).toInt ∧ ((u17).1 30 2).toInt ≤ 1600 := hty.1 30 2
                clear hty
                have hbb : b21 = bc := oqRw_eq (oqRw_fr fu17 rfl (oqRw_fr (oFr_oneI (q := 5) (m := 2) rfl (by rfl)) rfl (oqRw_fr fu3 rfl iv8))) (rb21); have hkn : b21 ≠ d := oqKx_ne pu17_7 (rb21)
                -- !! !oqAn c0 L2 F2 is not known here
                refine r_callVv C oCl0 hkb21 miX0_emit mlX5_147 (ct9_X0_emit l E (u17) b21 hkb21 k10026 (L2) (F2) (d) (G) (by rw [hbb]; exact hq20) (by omega) pu17_7) (by omega) rfl rfl rfl (Nat.le_of_ble_eq_true rfl) (oDec_at oX5_sum 40 rfl) (fun u23 pu23 fu23 => ?_)
                try dsimp only at pu23
                obtain ⟨pu23_0, pu23_1⟩ := pu23
                have hem := pu23_0 (by omega)
                rw [hbb] at hem
                obtain ⟨hem1, hem2⟩ := hem
                obtain ⟨v25, ev25⟩ : ∃ z : Int32, x1 + Int32.ofInt 1 = z := ⟨_, rfl⟩
                have hv25 : v25.toInt = x1.toInt + 1 := n_inc ev25 (by decide) (by omega) (by omega)
                refine r_iinc C (j := 1) (lv' := [(0, .ref (oad E 30)), (1, .int v25), (2, .int r4)]) v25 [1, 0, 2] (oDec_at oX5_sum 41 rfl) rfl ev25 (by decide) rfl ?_
                refine r_goto C (tgt := 11) (oDec_at oX5_sum 42 rfl) (by decide) ?_
                have lk26 : ((u23).1 30 2).toInt = (u17.1 30 2).toInt := congrArg Int32.toInt ((fu23 30 2 rfl).1)
                have lk27 : ((u23).1 30 5).toInt = (u17.1 30 5).toInt := congrArg Int32.toInt ((fu23 30 5 rfl).1)
                have lk28 : ((u23).1 30 2).toInt = (u17.1 30 2).toInt := congrArg Int32.toInt ((fu23 30 2 rfl).1)
                have lk29 : ((u23).1 30 3).toInt = (u17.1 30 3).toInt := congrArg Int32.toInt ((fu23 30 3 rfl).1)
                have lk30 : ((u23).1 30 2).toInt = (u17.1 30 2).toInt := congrArg Int32.toInt ((fu23 30 2 rfl).1)
                have lk31 : ((u23).1 30 8).toInt = (u17.1 30 8).toInt := congrArg Int32.toInt ((fu23 30 8 rfl).1)
                have lk32 : ((u23).1 30 9).toInt = (u17.1 30 9).toInt := congrArg Int32.toInt ((fu23 30 9 rfl).1)
                have lk33 : ((u23).1 30 6).toInt = (t.1 30 6).toInt := congrArg Int32.toInt (((fu23 30 6 rfl).1).trans (((fu17 30 6 rfl).1).trans (((pI_ne (a := 30) (b := 6) (c := 30) (k := 2) _ _ (Or.inr (by decide)))).trans ((fu3 30 6 rfl).1))))
                have lk34 : ((u23).1 30 7).toInt = (t.1 30 7).toInt := congrArg Int32.toInt (((fu23 30 7 rfl).1).trans (((fu17 30 7 rfl).1).trans (((pI_ne (a := 30) (b := 7) (c := 30) (k := 2) _ _ (Or.inr (by decide)))).trans ((fu3 30 7 rfl).1))))
                have lk35 : ((u23).1 30 2).toInt = (u17.1 30 2).toInt := congrArg Int32.toInt ((fu23 30 2 rfl).1)
                have lk36 : ((u23).1 30 2).toInt = (u17.1 30 2).toInt := congrArg Int32.toInt ((fu23 30 2 rfl).1)
                have lk37 : ((u23).1 30 3).toInt = (u17.1 30 3).toInt := congrArg Int32.toInt ((fu23 30 3 rfl).1)
                have lk38 : ((u23).1 30 2).toInt = (u17.1 30 2).toInt := congrArg Int32.toInt ((fu23 30 2 rfl).1)
                refine r_pick C [0, 1] rfl ?_
                exact (ih (n - 1) (by omega)) (u23) v25  (oqX_fr fu23 rfl (oqX_fr fu17 rfl (oqX_fr (oFr_oneI (q := 5) (m := 2) rfl (by rfl)) rfl (oqX_fr fu3 rfl iv0)))) (by omega) (by omega) (by first | exact (oqp_op iv3 hop pu17_1).cast (by omega) (by omega) | exact ((by assumption)).cast (by omega) (by omega)) (by omega) (by omega) (by omega) (by first | omega | (have hat9 : ((u23).1 30 2).toInt = ((u17).1 30 2).toInt := (by omega); rw [hat9]; omega)) (oqRw_fr fu23 rfl (oqRw_fr fu17 rfl (oqRw_fr (oFr_oneI (q := 5) (m := 2) rfl (by rfl)) rfl (oqRw_fr fu3 rfl iv8)))) pu23_1 (by first | exact oqEc.nw ((oqe_ad (v := k10026) hEC hE2 hQ2 (by omega) rfl rfl).cast (by omega) (by omega)) (by omega) hem2 | exact oqEc.nw ((oqe_p hE0).cast (by omega) (by omega)) (by omega) hF0.symm) (by omega) (by omega)
            · skip
              clear pu17_1
              clear pu17_2
              clear pu17_3
              replace pu17_4 := pu17_4 (by omega)
              clear pu17_5
              clear pu17_6
              refine r_iconst C (oDec_at oX5_sum 30 rfl) (v := k0) (by rw [qk0]; rfl) ?_
              exact r_zret C (n_bool (by omega)) (oDec_at oX5_sum 31 rfl) ⟨_, rfl, ⟨by omega, fun h => by exfalso; omega, fun h => by exfalso; omega, by omega, fun _ => oqp_opF iv3 hop pu17_4, fun h => by exfalso; omega, fun h => by exfalso; omega, pu17_7⟩⟩
          · skip
            refine r_iload_n C (j := 2) (oDec_at oX5_sum 16 rfl) rfl rfl ?_
            refine r_bipush C (oDec_at oX5_sum 17 rfl) (v := k45) (by rw [qk45]; rfl) ?_
            refine r_icmp_eq C 37 (oDec_at oX5_sum 18 rfl) (by decide) (fun cd39 => ?_) (fun cd39 => ?_)
            · skip
              have hop : oqOp g (t.1 30 2).toInt := by unfold oqOp; omega
              refine r_aload_n C (j := 0) (oDec_at oX5_sum 21 rfl) rfl rfl ?_
              refine r_dup C (oDec_at oX5_sum 22 rfl) rfl ?_
              obtain ⟨v40, ev40⟩ : ∃ z : Int32, (u3).1 30 2 = z := ⟨_, rfl⟩
              have gv40 : (u3.1 30 2).toInt = v40.toInt := congrArg Int32.toInt (ev40)
              refine r_geti (k := 2) (lo := 0) (hi := 1600) C v40 oCl5 rfl (by decide) flX5_23 rfl rfl (ev40) rfl rfl (oDec_at oX5_sum 23 rfl) (fun b41 b41h => ?_)
              refine r_iconst C (oDec_at oX5_sum 24 rfl) (v := k1) (by rw [qk1]; rfl) ?_
              obtain ⟨v42, ev42⟩ : ∃ z : Int32, z = v40 + k1 := ⟨_, rfl⟩
              have hv42 : v42.toInt = v40.toInt + k1.toInt := n_add ev42 (by omega) (by omega)
              refine r_iadd C v42 (oDec_at oX5_sum 25 rfl) ev42 ?_
              refine r_puti (k := 2) (lo := 0) (hi := 1600) C oCl5 rfl (by decide) flX5_23 rfl rfl rfl rfl rfl rfl rfl rfl ⟨by omega, by omega⟩ (oDec_at oX5_sum 26 rfl) ?_
              refine r_pc C 47 rfl ?_
              refine r_aload_n C (j := 0) (oDec_at oX5_sum 27 rfl) rfl rfl ?_
              have lk43 : (((pI u3 30 2 v42)).1 30 2).toInt = v42.toInt := congrArg Int32.toInt ((pI_self _ _ _ _))
              have lk44 : (((pI u3 30 2 v42)).1 30 3).toInt = (t.1 30 3).toInt := congrArg Int32.toInt (((pI_ne (a := 30) (b := 3) (c := 30) (k := 2) _ _ (Or.inr (by decide)))).trans ((fu3 30 3 rfl).1))
              have lk45 : (((pI u3 30 2 v42)).1 30 5).toInt = (t.1 30 5).toInt := congrArg Int32.toInt (((pI_ne (a := 30) (b := 5) (c := 30) (k := 2) _ _ (Or.inr (by decide)))).trans ((fu3 30 5 rfl).1))
              have lk46 : (((pI u3 30 2 v42)).1 30 6).toInt = (t.1 30 6).toInt := congrArg Int32.toInt (((pI_ne (a := 30) (b := 6) (c := 30) (k := 2) _ _ (Or.inr (by decide)))).trans ((fu3 30 6 rfl).1))
              have lk47 : (((pI u3 30 2 v42)).1 30 7).toInt = (t.1 30 7).toInt := congrArg Int32.toInt (((pI_ne (a := 30) (b := 7) (c := 30) (k := 2) _ _ (Or.inr (by decide)))).trans ((fu3 30 7 rfl).1))
              have lk48 : (((pI u3 30 2 v42)).1 30 5).toInt = (t.1 30 5).toInt := congrArg Int32.toInt (((pI_ne (a := 30) (b := 5) (c := 30) (k := 2) _ _ (Or.inr (by decide)))).trans ((fu3 30 5 rfl).1))
              have lk49 : (((pI u3 30 2 v42)).1 30 8).toInt = (t.1 30 8).toInt := congrArg Int32.toInt (((pI_ne (a := 30) (b := 8) (c := 30) (k := 2) _ _ (Or.inr (by decide)))).trans ((fu3 30 8 rfl).1))
              have lk50 : (((pI u3 30 2 v42)).1 30 9).toInt = (t.1 30 9).toInt := congrArg Int32.toInt (((pI_ne (a := 30) (b := 9) (c := 30) (k := 2) _ _ (Or.inr (by decide)))).trans ((fu3 30 9 rfl).1))
              refine r_callVi C oCl5 rfl miX5_product mlX5_163 (h_X5_product ((pI u3 30 2 v42))  (g) (fp) (fq) ((t.1 30 2).toInt + 1) ((t.1 30 3).toInt) (op) (bc) (L1) (F1) (d) (G) (by omega) (by omega) (oqX_fr (oFr_oneI (q := 5) (m := 2) rfl (by rfl)) rfl (oqX_fr fu3 rfl iv0)) (by omega) (by omega) (by omega) (by omega) (oqRw_fr (oFr_oneI (q := 5) (m := 2) rfl (by rfl)) rfl (oqRw_fr fu3 rfl iv8)) (oqAn_fr (oFr_oneI (q := 5) (m := 2) rfl (by rfl)) rfl (oqAn_fr fu3 rfl hq1)) (by omega) (oqKx_fr (oFr_oneI (q := 5) (m := 2) rfl (by rfl)) rfl (oqKx_fr fu3 rfl iv9))) (by omega) rfl rfl rfl (Nat.le_of_ble_eq_true rfl) (oDec_at oX5_sum 28 rfl) (fun r52 u51 pu51 fu51 => ?_)
              try dsimp only at pu51
              try simp only [lk43, lk44, lk45, lk46, lk47, lk48, lk49, lk50] at pu51
              obtain ⟨pu51_0, pu51_1, pu51_2, pu51_3, pu51_4, pu51_5, pu51_6, pu51_7⟩ := pu51
              have rr52 := n_rng r52
              refine r_if_ne C 56 (oDec_at oX5_sum 29 rfl) (by decide) (fun cd53 => ?_) (fun cd53 => ?_)
              · skip
                replace pu51_1 := pu51_1 (by omega)
                replace pu51_2 := pu51_2 (by omega)
                replace pu51_3 := pu51_3 (by omega)
                clear pu51_4
                replace pu51_5 := pu51_5 (by omega)
                replace pu51_6 := pu51_6 (by omega)
                obtain ⟨L2, hL2⟩ : ∃ z, z = ((u51).1 bc 1).toInt := ⟨_, rfl⟩
                obtain ⟨F2, hF2⟩ : ∃ z, z = (u51).1 (bc + 1) := ⟨_, rfl⟩
                have hE2 := pu51_5
                rw [← hL2, ← hF2] at hE2
                try (have hLe2 := hE2.le)
                have hQ2 := pu51_2
                have hq54 : oqAn bc L2 F2 (u51) := ⟨hkb, hL2.symm, hF2.symm⟩
                refine r_aload_n C (j := 0) (oDec_at oX5_sum 32 rfl) rfl rfl ?_
                refine r_getS (k := 1) (q2 := 0) C oCl5 rfl (by decide) flX5_19 rfl rfl rfl ks1 (oDec_at oX5_sum 33 rfl) (fun b55 rb55 mb55 hkb55 => ?_)
                refine r_iload_n C (j := 2) (oDec_at oX5_sum 34 rfl) rfl rfl ?_
                refine r_bipush C (oDec_at oX5_sum 35 rfl) (v := k43) (by rw [qk43]; rfl) ?_
                refine r_icmp_ne C 72 (oDec_at oX5_sum 36 rfl) (by decide) (fun cd56 => ?_) (fun cd56 => ?_)
                · skip
                  refine r_sipush C (oDec_at oX5_sum 39 rfl) (v := k10027) (by rw [qk10027]; rfl) ?_
                  refine r_ty C (fun hty => ?_)
                  have hta : (0 : Int) ≤ ((u51).1 30 2).toInt ∧ ((u51).1 30 2).toInt ≤ 1600 := hty.1 30 2
                  clear hty
                  have hbb : b55 = bc := oqRw_eq (oqRw_fr fu51 rfl (oqRw_fr (oFr_oneI (q := 5) (m := 2) rfl (by rfl)) rfl (oqRw_fr fu3 rfl iv8))) (rb55); have hkn : b55 ≠ d := oqKx_ne pu51_7 (rb55)
                  -- !! !oqAn c0 L2 F2 is not known here
                  refine r_callVv C oCl0 hkb55 miX0_emit mlX5_147 (ct9_X0_emit l E (u51) b55 hkb55 k10027 (L2) (F2) (d) (G) (by rw [hbb]; exact hq54) (by omega) pu51_7) (by omega) rfl rfl rfl (Nat.le_of_ble_eq_true rfl) (oDec_at oX5_sum 40 rfl) (fun u57 pu57 fu57 => ?_)
                  try dsimp only at pu57
                  obtain ⟨pu57_0, pu57_1⟩ := pu57
                  have hem := pu57_0 (by omega)
                  rw [hbb] at hem
                  obtain ⟨hem1, hem2⟩ := hem
                  obtain ⟨v59, ev59⟩ : ∃ z : Int32, x1 + Int32.ofInt 1 = z := ⟨_, rfl⟩
                  have hv59 : v59.toInt = x1.toInt + 1 := n_inc ev59 (by decide) (by omega) (by omega)
                  refine r_iinc C (j := 1) (lv' := [(0, .ref (oad E 30)), (1, .int v59), (2, .int r4)]) v59 [1, 0, 2] (oDec_at oX5_sum 41 rfl) rfl ev59 (by decide) rfl ?_
                  refine r_goto C (tgt := 11) (oDec_at oX5_sum 42 rfl) (by decide) ?_
                  have lk60 : ((u57).1 30 2).toInt = (u51.1 30 2).toInt := congrArg Int32.toInt ((fu57 30 2 rfl).1)
                  have lk61 : ((u57).1 30 5).toInt = (u51.1 30 5).toInt := congrArg Int32.toInt ((fu57 30 5 rfl).1)
                  have lk62 : ((u57).1 30 2).toInt = (u51.1 30 2).toInt := congrArg Int32.toInt ((fu57 30 2 rfl).1)
                  have lk63 : ((u57).1 30 3).toInt = (u51.1 30 3).toInt := congrArg Int32.toInt ((fu57 30 3 rfl).1)
                  have lk64 : ((u57).1 30 2).toInt = (u51.1 30 2).toInt := congrArg Int32.toInt ((fu57 30 2 rfl).1)
                  have lk65 : ((u57).1 30 8).toInt = (u51.1 30 8).toInt := congrArg Int32.toInt ((fu57 30 8 rfl).1)
                  have lk66 : ((u57).1 30 9).toInt = (u51.1 30 9).toInt := congrArg Int32.toInt ((fu57 30 9 rfl).1)
                  have lk67 : ((u57).1 30 6).toInt = (t.1 30 6).toInt := congrArg Int32.toInt (((fu57 30 6 rfl).1).trans (((fu51 30 6 rfl).1).trans (((pI_ne (a := 30) (b := 6) (c := 30) (k := 2) _ _ (Or.inr (by decide)))).trans ((fu3 30 6 rfl).1))))
                  have lk68 : ((u57).1 30 7).toInt = (t.1 30 7).toInt := congrArg Int32.toInt (((fu57 30 7 rfl).1).trans (((fu51 30 7 rfl).1).trans (((pI_ne (a := 30) (b := 7) (c := 30) (k := 2) _ _ (Or.inr (by decide)))).trans ((fu3 30 7 rfl).1))))
                  have lk69 : ((u57).1 30 2).toInt = (u51.1 30 2).toInt := congrArg Int32.toInt ((fu57 30 2 rfl).1)
                  have lk70 : ((u57).1 30 2).toInt = (u51.1 30 2).toInt := congrArg Int32.toInt ((fu57 30 2 rfl).1)
                  have lk71 : ((u57).1 30 3).toInt = (u51.1 30 3).toInt := congrArg Int32.toInt ((fu57 30 3 rfl).1)
                  have lk72 : ((u57).1 30 2).toInt = (u51.1 30 2).toInt := congrArg Int32.toInt ((fu57 30 2 rfl).1)
                  refine r_pick C [0, 1] rfl ?_
                  exact (ih (n - 1) (by omega)) (u57) v59  (oqX_fr fu57 rfl (oqX_fr fu51 rfl (oqX_fr (oFr_oneI (q := 5) (m := 2) rfl (by rfl)) rfl (oqX_fr fu3 rfl iv0)))) (by omega) (by omega) (by first | exact (oqp_op iv3 hop pu51_1).cast (by omega) (by omega) | exact ((by assumption)).cast (by omega) (by omega)) (by omega) (by omega) (by omega) (by first | omega | (have hat9 : ((u57).1 30 2).toInt = ((u51).1 30 2).toInt := (by omega); rw [hat9]; omega)) (oqRw_fr fu57 rfl (oqRw_fr fu51 rfl (oqRw_fr (oFr_oneI (q := 5) (m := 2) rfl (by rfl)) rfl (oqRw_fr fu3 rfl iv8)))) pu57_1 (by first | exact oqEc.nw ((oqe_ad (v := k10027) hEC hE2 hQ2 (by omega) rfl rfl).cast (by omega) (by omega)) (by omega) hem2 | exact oqEc.nw ((oqe_p hE0).cast (by omega) (by omega)) (by omega) hF0.symm) (by omega) (by omega)
                · omega
              · skip
                clear pu51_1
                clear pu51_2
                clear pu51_3
                replace pu51_4 := pu51_4 (by omega)
                clear pu51_5
                clear pu51_6
                refine r_iconst C (oDec_at oX5_sum 30 rfl) (v := k0) (by rw [qk0]; rfl) ?_
                exact r_zret C (n_bool (by omega)) (oDec_at oX5_sum 31 rfl) ⟨_, rfl, ⟨by omega, fun h => by exfalso; omega, fun h => by exfalso; omega, by omega, fun _ => oqp_opF iv3 hop pu51_4, fun h => by exfalso; omega, fun h => by exfalso; omega, pu51_7⟩⟩
            · skip
              refine r_iconst C (oDec_at oX5_sum 19 rfl) (v := k1) (by rw [qk1]; rfl) ?_
              have lk73 : ((u3).1 30 3).toInt = (t.1 30 3).toInt := congrArg Int32.toInt ((fu3 30 3 rfl).1)
              have lk74 : ((u3).1 30 5).toInt = (t.1 30 5).toInt := congrArg Int32.toInt ((fu3 30 5 rfl).1)
              have lk75 : ((u3).1 30 8).toInt = (t.1 30 8).toInt := congrArg Int32.toInt ((fu3 30 8 rfl).1)
              have lk76 : ((u3).1 30 9).toInt = (t.1 30 9).toInt := congrArg Int32.toInt ((fu3 30 9 rfl).1)
              have lk77 : ((u3).1 30 8).toInt = (t.1 30 8).toInt := congrArg Int32.toInt ((fu3 30 8 rfl).1)
              have lk78 : ((u3).1 30 9).toInt = (t.1 30 9).toInt := congrArg Int32.toInt ((fu3 30 9 rfl).1)
              have lk79 : ((u3).1 30 3).toInt = (t.1 30 3).toInt := congrArg Int32.toInt ((fu3 30 3 rfl).1)
              exact r_zret C (n_bool (by omega)) (oDec_at oX5_sum 20 rfl) ⟨_, rfl, ⟨by omega, fun _ => iv3.cast (by omega) (by omega), fun _ => oqOp_no ⟨by omega, by omega, by omega, by omega⟩, by omega, fun h => by exfalso; omega, fun _ => oqEc.an ((hEC).cast (by omega) (by omega)) (oqAn_fr fu3 rfl hq1), fun h9 => by (have hn9 := ((oqAn_fr fu3 rfl hq1)).2.1; omega), (oqKx_fr fu3 rfl iv9)⟩⟩
  refine r_aload_n C (j := 0) (oDec_at oX5_sum 0 rfl) rfl rfl ?_
  refine r_callVi C oCl5 rfl miX5_product mlX5_163 (h_X5_product (s)  (g) (fp) (fq) (a) (b) (op) (bc) (L) (F) (d) (G) (by omega) (by omega) hp2 (by omega) (by omega) (by omega) (by omega) hp7 hp8 (by omega) hp10) (by omega) rfl rfl rfl (Nat.le_of_ble_eq_true rfl) (oDec_at oX5_sum 1 rfl) (fun r81 u80 pu80 fu80 => ?_)
  try dsimp only at pu80
  obtain ⟨pu80_0, pu80_1, pu80_2, pu80_3, pu80_4, pu80_5, pu80_6, pu80_7⟩ := pu80
  have rr81 := n_rng r81
  refine r_if_ne C 9 (oDec_at oX5_sum 2 rfl) (by decide) (fun cd82 => ?_) (fun cd82 => ?_)
  · skip
    replace pu80_1 := pu80_1 (by omega)
    replace pu80_2 := pu80_2 (by omega)
    replace pu80_3 := pu80_3 (by omega)
    clear pu80_4
    replace pu80_5 := pu80_5 (by omega)
    replace pu80_6 := pu80_6 (by omega)
    refine r_ty C (fun hty => ?_)
    have hta : (0 : Int) ≤ ((u80).1 30 2).toInt ∧ ((u80).1 30 2).toInt ≤ 1600 := hty.1 30 2
    clear hty
    obtain ⟨L0, hL0⟩ : ∃ z, z = ((u80).1 bc 1).toInt := ⟨_, rfl⟩
    obtain ⟨F0, hF0⟩ : ∃ z, z = (u80).1 (bc + 1) := ⟨_, rfl⟩
    have hE0 := pu80_5
    rw [← hL0, ← hF0] at hE0
    try (have hLe0 := hE0.le)
    have hq83 : oqAn bc L0 F0 (u80) := ⟨hkb, hL0.symm, hF0.symm⟩
    refine r_iconst C (oDec_at oX5_sum 5 rfl) (v := k0) (by rw [qk0]; rfl) ?_
    refine r_istore_n C (lv' := [(0, .ref (oad E 30)), (1, .int k0)]) [1, 0] (oDec_at oX5_sum 6 rfl) rfl (by decide) rfl ?_
    have lk84 : ((u80).1 30 6).toInt = (s.1 30 6).toInt := congrArg Int32.toInt ((fu80 30 6 rfl).1)
    have lk85 : ((u80).1 30 7).toInt = (s.1 30 7).toInt := congrArg Int32.toInt ((fu80 30 7 rfl).1)
    exact (key (1601 - k0.toInt).toNat) (u80) k0  (oqX_fr fu80 rfl hp2) (by omega) (by omega) (by first | exact (pu80_1).cast (by omega) (by omega)) (by omega) (by omega) (by omega) (by first | omega | (have hat9 : ((u80).1 30 2).toInt = ((u80).1 30 2).toInt := (by omega); rw [hat9]; omega)) (oqRw_fr fu80 rfl hp7) pu80_7 (by first | exact oqEc.nw ((oqe_ad (v := (by assumption)) hEC hE2 hQ2 (by omega) rfl rfl).cast (by omega) (by omega)) (by omega) hem2 | exact oqEc.nw ((oqe_p hE0).cast (by omega) (by omega)) (by omega) hF0.symm) (by omega) (by omega)
  · skip
    clear pu80_1
    clear pu80_2
    clear pu80_3
    replace pu80_4 := pu80_4 (by omega)
    clear pu80_5
    clear pu80_6
    refine r_iconst C (oDec_at oX5_sum 3 rfl) (v := k0) (by rw [qk0]; rfl) ?_
    exact r_zret C (n_bool (by omega)) (oDec_at oX5_sum 4 rfl) ⟨_, rfl, ⟨by omega, fun h => by exfalso; omega, fun h => by exfalso; omega, by omega, fun _ => pu80_4, fun h => by exfalso; omega, fun h => by exfalso; omega, pu80_7⟩⟩
