set_option maxHeartbeats 4000000 in
set_option maxRecDepth 100000 in
theorem gr9_X5_X5_product (l : Launch) (E : oE) (N : Nat) (ih : ∀ m : Nat, m < N → ogr9_X5 l E m) (h_X5_part : ogr9_X5_X5_part l E N) : ogr9_X5_X5_product l E N := by
  intro s g fp fq a b op bc L F d G hp0 hp1 hp2 hp3 hp4 hp5 hp6 hp7 hp8 hp9 hp10
  refine oMet.of (lv := [(0, .ref (oad E 30))]) (by decide +kernel) (Nat.le_of_ble_eq_true rfl) rfl (fun J C hT => ?_)
  have C : oC l (7 + 10 * N + 3) cX5_product RX5 3 (some .boolean) [(0, 1), (5, 2), (5, 3), (5, 4), (5, 5), (5, 8), (5, 9), (20, 9999)] E s (oPi (fun r u => (0 ≤ r.toInt ∧ r.toInt ≤ 1) ∧ (r.toInt = 1 → oqGo g fp fq 1 (oqSk g a) b op 3 (u.1 30 2).toInt (u.1 30 3).toInt op) ∧ (r.toInt = 1 → (g (u.1 30 2).toInt ≠ 42 ∧ g (u.1 30 2).toInt ≠ 47)) ∧ (r.toInt = 1 → (oqSk g (u.1 30 2).toInt = (u.1 30 2).toInt ∧ (u.1 30 5).toInt = op ∧ a + 1 ≤ (u.1 30 2).toInt ∧ (u.1 30 8).toInt = (s.1 30 8).toInt ∧ (u.1 30 9).toInt = (s.1 30 9).toInt)) ∧ (r.toInt = 0 → oqFa g fp fq 1 (oqSk g a) b op (u.1 30 8).toInt (u.1 30 9).toInt) ∧ (r.toInt = 1 → oqEc oqT3 g fp fq 1 (oqSk g a) b op 3 (u.1 30 2).toInt (u.1 30 3).toInt op L F (u.1 bc 1).toInt (u.1 (bc + 1))) ∧ (r.toInt = 1 → (u.1 bc 1).toInt - L ≤ (u.1 30 2).toInt - a) ∧ (oqKx d G u))) J := C
  obtain ⟨k0, qk0⟩ : ∃ z : Int32, z = 0 := ⟨_, rfl⟩
  have ek0 : k0.toInt = 0 := by rw [qk0]; rfl
  obtain ⟨k1, qk1⟩ : ∃ z : Int32, z = 1 := ⟨_, rfl⟩
  have ek1 : k1.toInt = 1 := by rw [qk1]; rfl
  obtain ⟨k42, qk42⟩ : ∃ z : Int32, z = 42 := ⟨_, rfl⟩
  have ek42 : k42.toInt = 42 := by rw [qk42]; rfl
  obtain ⟨k47, qk47⟩ : ∃ z : Int32, z = 47 := ⟨_, rfl⟩
  have ek47 : k47.toInt = 47 := by rw [qk47]; rfl
  obtain ⟨k1600, qk1600⟩ : ∃ z : Int32, z = 1600 := ⟨_, rfl⟩
  have ek1600 : k1600.toInt = 1600 := by rw [qk1600]; rfl
  obtain ⟨k10028, qk10028⟩ : ∃ z : Int32, z = 10028 := ⟨_, rfl⟩
  have ek10028 : k10028.toInt = 10028 := by rw [qk10028]; rfl
  obtain ⟨k10029, qk10029⟩ : ∃ z : Int32, z = 10029 := ⟨_, rfl⟩
  have ek10029 : k10029.toInt = 10029 := by rw [qk10029]; rfl
  have hge9 := oqSk_ge g a
  have hkb := (hp8 : oqAn bc L F s).1
  have hLs := (hp8 : oqAn bc L F s).2.1
  have key : ∀ n : Nat, (∀ (t : oS) (x1 : Int32), (oqX g t) → (0 ≤ x1.toInt ∧ 2 * x1.toInt ≤ (t.1 30 2).toInt) → ((t.1 30 5).toInt = op) → (oqGo g fp fq 1 (oqSk g a) b op 3 (oqSk g (t.1 30 2).toInt) (t.1 30 3).toInt op) → (a + 1 ≤ (t.1 30 2).toInt) → ((t.1 30 8).toInt = (s.1 30 8).toInt ∧ (t.1 30 9).toInt = (s.1 30 9).toInt) → ((t.1 30 6).toInt = fp ∧ (t.1 30 7).toInt = fq) → (oqRw bc t) → (oqKx d G t) → (oqEc oqT3 g fp fq 1 (oqSk g a) b op 3 (oqSk g (t.1 30 2).toInt) (t.1 30 3).toInt op L F (t.1 bc 1).toInt (t.1 (bc + 1))) → ((t.1 bc 1).toInt - L ≤ (t.1 30 2).toInt - a) → 1601 - x1.toInt ≤ (n : Int) → J t 11 [(0, .ref (oad E 30)), (1, .int x1)] []) := by
    intro n
    induction n using Nat.strongRecOn with
    | _ n ih =>
      skip
      · intro t x1  iv0 iv1 iv2 iv3 iv4 iv5 iv6 iv7 iv8 iv9 iv10 hmu
        have rx1 := n_rng x1
        have hEC := iv9
        obtain ⟨L1, hL1⟩ : ∃ z, z = ((t).1 bc 1).toInt := ⟨_, rfl⟩
        obtain ⟨F1, hF1⟩ : ∃ z, z = (t).1 (bc + 1) := ⟨_, rfl⟩
        rw [← hL1, ← hF1] at hEC
        have hLe9 := hEC.le
        have hq1 : oqAn bc L1 F1 (t) := ⟨hkb, hL1.symm, hF1.symm⟩
        refine r_iload_n C (j := 1) (oDec_at oX5_product 7 rfl) rfl rfl ?_
        refine r_sipush C (oDec_at oX5_product 8 rfl) (v := k1600) (by rw [qk1600]; rfl) ?_
        refine r_icmp_ge C 84 (oDec_at oX5_product 9 rfl) (by decide) (fun cd2 => ?_) (fun cd2 => ?_)
        · skip
          refine r_ty C (fun hty => ?_)
          have hta : (0 : Int) ≤ ((t).1 30 2).toInt ∧ ((t).1 30 2).toInt ≤ 1600 := hty.1 30 2
          clear hty
          refine r_iconst C (oDec_at oX5_product 43 rfl) (v := k1) (by rw [qk1]; rfl) ?_
          exact r_zret C (n_bool (by omega)) (oDec_at oX5_product 44 rfl) ⟨_, rfl, ⟨by omega, by exfalso; omega, by omega, by omega, by exfalso; omega, by exfalso; omega, by exfalso; omega, iv8⟩⟩
        · skip
          refine r_aload_n C (j := 0) (oDec_at oX5_product 10 rfl) rfl rfl ?_
          refine r_callVi C oCl5 rfl miX5_peek mlX5_43 (ct4_X5_peek l E (t)  (g) ((t.1 30 2).toInt) (by omega) iv0) (by omega) rfl rfl rfl (Nat.le_of_ble_eq_true rfl) (oDec_at oX5_product 11 rfl) (fun r4 u3 pu3 fu3 => ?_)
          try dsimp only at pu3
          obtain ⟨pu3_0, pu3_1, pu3_2, pu3_3, pu3_4, pu3_5⟩ := pu3
          have rr4 := n_rng r4
          have hst := oqSk_sk (g := g) (a := (t.1 30 2).toInt) ⟨by omega, by omega⟩
          have hgx : g ((u3).1 30 2).toInt = g (oqSk g (t.1 30 2).toInt) := by rw [show ((u3).1 30 2).toInt = oqSk g (t.1 30 2).toInt by omega]
          have hsx : oqSk g ((u3).1 30 2).toInt = ((u3).1 30 2).toInt := by rw [show ((u3).1 30 2).toInt = oqSk g (t.1 30 2).toInt by omega]; exact hst
          refine r_istore_n C (lv' := [(0, .ref (oad E 30)), (1, .int x1), (2, .int r4)]) [1, 2, 0] (oDec_at oX5_product 12 rfl) rfl (by decide) rfl ?_
          refine r_iload_n C (j := 2) (oDec_at oX5_product 13 rfl) rfl rfl ?_
          refine r_bipush C (oDec_at oX5_product 14 rfl) (v := k42) (by rw [qk42]; rfl) ?_
          refine r_icmp_eq C 37 (oDec_at oX5_product 15 rfl) (by decide) (fun cd5 => ?_) (fun cd5 => ?_)
          · skip
            have hop : oqOp g (oqSk g (t.1 30 2).toInt) := by unfold oqOp; omega
            refine r_aload_n C (j := 0) (oDec_at oX5_product 21 rfl) rfl rfl ?_
            refine r_dup C (oDec_at oX5_product 22 rfl) rfl ?_
            obtain ⟨v6, ev6⟩ : ∃ z : Int32, (u3).1 30 2 = z := ⟨_, rfl⟩
            have gv6 : (u3.1 30 2).toInt = v6.toInt := congrArg Int32.toInt (ev6)
            refine r_geti (k := 2) (lo := 0) (hi := 1600) C v6 oCl5 rfl (by decide) flX5_23 rfl rfl (ev6) rfl rfl (oDec_at oX5_product 23 rfl) (fun b7 b7h => ?_)
            refine r_iconst C (oDec_at oX5_product 24 rfl) (v := k1) (by rw [qk1]; rfl) ?_
            obtain ⟨v8, ev8⟩ : ∃ z : Int32, z = v6 + k1 := ⟨_, rfl⟩
            have hv8 : v8.toInt = v6.toInt + k1.toInt := n_add ev8 (by omega) (by omega)
            refine r_iadd C v8 (oDec_at oX5_product 25 rfl) ev8 ?_
            refine r_puti (k := 2) (lo := 0) (hi := 1600) C oCl5 rfl (by decide) flX5_23 rfl rfl rfl rfl rfl rfl rfl rfl ⟨by omega, by omega⟩ (oDec_at oX5_product 26 rfl) ?_
            refine r_pc C 47 rfl ?_
            refine r_aload_n C (j := 0) (oDec_at oX5_product 27 rfl) rfl rfl ?_
            have lk9 : (((pI u3 30 2 v8)).1 30 2).toInt = v8.toInt := congrArg Int32.toInt ((pI_self _ _ _ _))
            have lk10 : (((pI u3 30 2 v8)).1 30 3).toInt = (t.1 30 3).toInt := congrArg Int32.toInt (((pI_ne (a := 30) (b := 3) (c := 30) (k := 2) _ _ (Or.inr (by decide)))).trans ((fu3 30 3 rfl).1))
            have lk11 : (((pI u3 30 2 v8)).1 30 5).toInt = (t.1 30 5).toInt := congrArg Int32.toInt (((pI_ne (a := 30) (b := 5) (c := 30) (k := 2) _ _ (Or.inr (by decide)))).trans ((fu3 30 5 rfl).1))
            have lk12 : (((pI u3 30 2 v8)).1 30 6).toInt = (t.1 30 6).toInt := congrArg Int32.toInt (((pI_ne (a := 30) (b := 6) (c := 30) (k := 2) _ _ (Or.inr (by decide)))).trans ((fu3 30 6 rfl).1))
            have lk13 : (((pI u3 30 2 v8)).1 30 7).toInt = (t.1 30 7).toInt := congrArg Int32.toInt (((pI_ne (a := 30) (b := 7) (c := 30) (k := 2) _ _ (Or.inr (by decide)))).trans ((fu3 30 7 rfl).1))
            have lk14 : (((pI u3 30 2 v8)).1 30 5).toInt = (t.1 30 5).toInt := congrArg Int32.toInt (((pI_ne (a := 30) (b := 5) (c := 30) (k := 2) _ _ (Or.inr (by decide)))).trans ((fu3 30 5 rfl).1))
            have lk15 : (((pI u3 30 2 v8)).1 30 8).toInt = (t.1 30 8).toInt := congrArg Int32.toInt (((pI_ne (a := 30) (b := 8) (c := 30) (k := 2) _ _ (Or.inr (by decide)))).trans ((fu3 30 8 rfl).1))
            have lk16 : (((pI u3 30 2 v8)).1 30 9).toInt = (t.1 30 9).toInt := congrArg Int32.toInt (((pI_ne (a := 30) (b := 9) (c := 30) (k := 2) _ _ (Or.inr (by decide)))).trans ((fu3 30 9 rfl).1))
            refine r_callVi C oCl5 rfl miX5_part mlX5_166 (h_X5_part ((pI u3 30 2 v8))  (g) (fp) (fq) (oqSk g (t.1 30 2).toInt + 1) ((t.1 30 3).toInt) (op) (bc) (L1) (F1) (d) (G) (by omega) (by omega) (oqX_fr (oFr_oneI (q := 5) (m := 2) rfl (by rfl)) rfl (oqX_fr fu3 rfl iv0)) (by omega) (by omega) (by omega) (by omega) (oqRw_fr (oFr_oneI (q := 5) (m := 2) rfl (by rfl)) rfl (oqRw_fr fu3 rfl iv7)) (oqAn_fr (oFr_oneI (q := 5) (m := 2) rfl (by rfl)) rfl (oqAn_fr fu3 rfl hq1)) (by omega) (oqKx_fr (oFr_oneI (q := 5) (m := 2) rfl (by rfl)) rfl (oqKx_fr fu3 rfl iv8))) (by omega) rfl rfl rfl (Nat.le_of_ble_eq_true rfl) (oDec_at oX5_product 28 rfl) (fun r18 u17 pu17 fu17 => ?_)
            try dsimp only at pu17
            try simp only [lk9, lk10, lk11, lk12, lk13, lk14, lk15, lk16] at pu17
            obtain ⟨pu17_0, pu17_1, pu17_2, pu17_3, pu17_4, pu17_5, pu17_6⟩ := pu17
            have rr18 := n_rng r18
            refine r_if_ne C 56 (oDec_at oX5_product 29 rfl) (by decide) (fun cd19 => ?_) (fun cd19 => ?_)
            · skip
              replace pu17_1 := pu17_1 (by omega)
              replace pu17_2 := pu17_2 (by omega)
              clear pu17_3
              replace pu17_4 := pu17_4 (by omega)
              replace pu17_5 := pu17_5 (by omega)
              obtain ⟨L2, hL2⟩ : ∃ z, z = ((u17).1 bc 1).toInt := ⟨_, rfl⟩
              obtain ⟨F2, hF2⟩ : ∃ z, z = (u17).1 (bc + 1) := ⟨_, rfl⟩
              have hE2 := pu17_4
              rw [← hL2, ← hF2] at hE2
              try (have hLe2 := hE2.le)
              have hq20 : oqAn bc L2 F2 (u17) := ⟨hkb, hL2.symm, hF2.symm⟩
              refine r_aload_n C (j := 0) (oDec_at oX5_product 32 rfl) rfl rfl ?_
              refine r_getS (k := 1) (q2 := 0) C oCl5 rfl (by decide) flX5_19 rfl rfl rfl ks1 (oDec_at oX5_product 33 rfl) (fun b21 rb21 mb21 hkb21 => ?_)
              refine r_iload_n C (j := 2) (oDec_at oX5_product 34 rfl) rfl rfl ?_
              refine r_bipush C (oDec_at oX5_product 35 rfl) (v := k42) (by rw [qk42]; rfl) ?_
              refine r_icmp_ne C 72 (oDec_at oX5_product 36 rfl) (by decide) (fun cd22 => ?_) (fun cd22 => ?_)
              · omega
              · skip
                refine r_sipush C (oDec_at oX5_product 37 rfl) (v := k10028) (by rw [qk10028]; rfl) ?_
                refine r_goto C (tgt := 75) (oDec_at oX5_product 38 rfl) (by decide) ?_
                refine r_ty C (fun hty => ?_)
                have hta : (0 : Int) ≤ ((u17).1 30 2).toInt ∧ ((u17).1 30 2).toInt ≤ 1600 := hty.1 30 2
                clear hty
                have hbb : b21 = bc := oqRw_eq (oqRw_fr fu17 rfl (oqRw_fr (oFr_oneI (q := 5) (m := 2) rfl (by rfl)) rfl (oqRw_fr fu3 rfl iv7))) (rb21); have hkn : b21 ≠ d := oqKx_ne pu17_6 (rb21)
                -- !! !oqAn c0 L2 F2 is not known here
                refine r_callVv C oCl0 hkb21 miX0_emit mlX5_147 (ct9_X0_emit l E (u17) b21 hkb21 k10028 (L2) (F2) (d) (G) (by rw [hbb]; exact hq20) (by omega) pu17_6) (by omega) rfl rfl rfl (Nat.le_of_ble_eq_true rfl) (oDec_at oX5_product 40 rfl) (fun u23 pu23 fu23 => ?_)
                try dsimp only at pu23
                obtain ⟨pu23_0, pu23_1⟩ := pu23
                have hem := pu23_0 (by omega)
                rw [hbb] at hem
                obtain ⟨hem1, hem2⟩ := hem
                obtain ⟨v25, ev25⟩ : ∃ z : Int32, x1 + Int32.ofInt 1 = z := ⟨_, rfl⟩
                have hv25 : v25.toInt = x1.toInt + 1 := n_inc ev25 (by decide) (by omega) (by omega)
                refine r_iinc C (j := 1) (lv' := [(0, .ref (oad E 30)), (1, .int v25), (2, .int r4)]) v25 [1, 0, 2] (oDec_at oX5_product 41 rfl) rfl ev25 (by decide) rfl ?_
                refine r_goto C (tgt := 11) (oDec_at oX5_product 42 rfl) (by decide) ?_
                have lk26 : ((u23).1 30 2).toInt = (u17.1 30 2).toInt := congrArg Int32.toInt ((fu23 30 2 rfl).1)
                have lk27 : ((u23).1 30 5).toInt = (u17.1 30 5).toInt := congrArg Int32.toInt ((fu23 30 5 rfl).1)
                have lk28 : ((u23).1 30 2).toInt = (u17.1 30 2).toInt := congrArg Int32.toInt ((fu23 30 2 rfl).1)
                have lk29 : ((u23).1 30 3).toInt = (u17.1 30 3).toInt := congrArg Int32.toInt ((fu23 30 3 rfl).1)
                have lk30 : ((u23).1 30 2).toInt = (u17.1 30 2).toInt := congrArg Int32.toInt ((fu23 30 2 rfl).1)
                have lk31 : ((u23).1 30 8).toInt = (u17.1 30 8).toInt := congrArg Int32.toInt ((fu23 30 8 rfl).1)
                have lk32 : ((u23).1 30 9).toInt = (u17.1 30 9).toInt := congrArg Int32.toInt ((fu23 30 9 rfl).1)
                have lk33 : ((u23).1 30 6).toInt = (t.1 30 6).toInt := congrArg Int32.toInt (((fu23 30 6 rfl).1).trans (((fu17 30 6 rfl).1).trans (((pI_ne (a := 30) (b := 6) (c := 30) (k := 2) _ _ (Or.inr (by decide)))).trans ((fu3 30 6 rfl).1))))
                have lk34 : ((u23).1 30 7).toInt = (t.1 30 7).toInt := congrArg Int32.toInt (((fu23 30 7 rfl).1).trans (((fu17 30 7 rfl).1).trans (((pI_ne (a := 30) (b := 7) (c := 30) (k := 2) _ _ (Or.inr (by decide)))).trans ((fu3 30 7 rfl).1))))
                have lk35 : ((u23).1 30 2).toInt = (u17.1 30 2).toInt := congrArg Int32.toInt ((fu23 30 2 rfl).1)
                have lk36 : ((u23).1 30 3).toInt = (u17.1 30 3).toInt := congrArg Int32.toInt ((fu23 30 3 rfl).1)
                have lk37 : ((u23).1 30 2).toInt = (u17.1 30 2).toInt := congrArg Int32.toInt ((fu23 30 2 rfl).1)
                refine r_pick C [0, 1] rfl ?_
                exact (ih (n - 1) (by omega)) (u23) v25  (oqX_fr fu23 rfl (oqX_fr fu17 rfl (oqX_fr (oFr_oneI (q := 5) (m := 2) rfl (by rfl)) rfl (oqX_fr fu3 rfl iv0)))) (by omega) (by omega) (by first | exact (oqp_op iv3 hop pu17_1).castS (by omega) (by omega) | exact ((by assumption)).castS (by omega) (by omega)) (by omega) (by omega) (by omega) (oqRw_fr fu23 rfl (oqRw_fr fu17 rfl (oqRw_fr (oFr_oneI (q := 5) (m := 2) rfl (by rfl)) rfl (oqRw_fr fu3 rfl iv7)))) pu23_1 (by first | exact oqEc.nw ((oqe_mu (v := k10028) hEC (by unfold oqMu; omega) hE2 (by omega) rfl rfl).castS (by omega) (by omega)) (by omega) hem2 | exact oqEc.nw ((oqe_1 hE0).castS (by omega) (by omega)) (by omega) hF0.symm) (by omega) (by omega)
            · skip
              clear pu17_1
              clear pu17_2
              replace pu17_3 := pu17_3 (by omega)
              clear pu17_4
              clear pu17_5
              refine r_iconst C (oDec_at oX5_product 30 rfl) (v := k0) (by rw [qk0]; rfl) ?_
              exact r_zret C (n_bool (by omega)) (oDec_at oX5_product 31 rfl) ⟨_, rfl, ⟨by omega, fun h => by exfalso; omega, by omega, by omega, fun _ => oqp_opF iv3 hop pu17_3, fun h => by exfalso; omega, fun h => by exfalso; omega, pu17_6⟩⟩
          · skip
            refine r_iload_n C (j := 2) (oDec_at oX5_product 16 rfl) rfl rfl ?_
            refine r_bipush C (oDec_at oX5_product 17 rfl) (v := k47) (by rw [qk47]; rfl) ?_
            refine r_icmp_eq C 37 (oDec_at oX5_product 18 rfl) (by decide) (fun cd38 => ?_) (fun cd38 => ?_)
            · skip
              have hop : oqOp g (oqSk g (t.1 30 2).toInt) := by unfold oqOp; omega
              refine r_aload_n C (j := 0) (oDec_at oX5_product 21 rfl) rfl rfl ?_
              refine r_dup C (oDec_at oX5_product 22 rfl) rfl ?_
              obtain ⟨v39, ev39⟩ : ∃ z : Int32, (u3).1 30 2 = z := ⟨_, rfl⟩
              have gv39 : (u3.1 30 2).toInt = v39.toInt := congrArg Int32.toInt (ev39)
              refine r_geti (k := 2) (lo := 0) (hi := 1600) C v39 oCl5 rfl (by decide) flX5_23 rfl rfl (ev39) rfl rfl (oDec_at oX5_product 23 rfl) (fun b40 b40h => ?_)
              refine r_iconst C (oDec_at oX5_product 24 rfl) (v := k1) (by rw [qk1]; rfl) ?_
              obtain ⟨v41, ev41⟩ : ∃ z : Int32, z = v39 + k1 := ⟨_, rfl⟩
              have hv41 : v41.toInt = v39.toInt + k1.toInt := n_add ev41 (by omega) (by omega)
              refine r_iadd C v41 (oDec_at oX5_product 25 rfl) ev41 ?_
              refine r_puti (k := 2) (lo := 0) (hi := 1600) C oCl5 rfl (by decide) flX5_23 rfl rfl rfl rfl rfl rfl rfl rfl ⟨by omega, by omega⟩ (oDec_at oX5_product 26 rfl) ?_
              refine r_pc C 47 rfl ?_
              refine r_aload_n C (j := 0) (oDec_at oX5_product 27 rfl) rfl rfl ?_
              have lk42 : (((pI u3 30 2 v41)).1 30 2).toInt = v41.toInt := congrArg Int32.toInt ((pI_self _ _ _ _))
              have lk43 : (((pI u3 30 2 v41)).1 30 3).toInt = (t.1 30 3).toInt := congrArg Int32.toInt (((pI_ne (a := 30) (b := 3) (c := 30) (k := 2) _ _ (Or.inr (by decide)))).trans ((fu3 30 3 rfl).1))
              have lk44 : (((pI u3 30 2 v41)).1 30 5).toInt = (t.1 30 5).toInt := congrArg Int32.toInt (((pI_ne (a := 30) (b := 5) (c := 30) (k := 2) _ _ (Or.inr (by decide)))).trans ((fu3 30 5 rfl).1))
              have lk45 : (((pI u3 30 2 v41)).1 30 6).toInt = (t.1 30 6).toInt := congrArg Int32.toInt (((pI_ne (a := 30) (b := 6) (c := 30) (k := 2) _ _ (Or.inr (by decide)))).trans ((fu3 30 6 rfl).1))
              have lk46 : (((pI u3 30 2 v41)).1 30 7).toInt = (t.1 30 7).toInt := congrArg Int32.toInt (((pI_ne (a := 30) (b := 7) (c := 30) (k := 2) _ _ (Or.inr (by decide)))).trans ((fu3 30 7 rfl).1))
              have lk47 : (((pI u3 30 2 v41)).1 30 5).toInt = (t.1 30 5).toInt := congrArg Int32.toInt (((pI_ne (a := 30) (b := 5) (c := 30) (k := 2) _ _ (Or.inr (by decide)))).trans ((fu3 30 5 rfl).1))
              have lk48 : (((pI u3 30 2 v41)).1 30 8).toInt = (t.1 30 8).toInt := congrArg Int32.toInt (((pI_ne (a := 30) (b := 8) (c := 30) (k := 2) _ _ (Or.inr (by decide)))).trans ((fu3 30 8 rfl).1))
              have lk49 : (((pI u3 30 2 v41)).1 30 9).toInt = (t.1 30 9).toInt := congrArg Int32.toInt (((pI_ne (a := 30) (b := 9) (c := 30) (k := 2) _ _ (Or.inr (by decide)))).trans ((fu3 30 9 rfl).1))
              refine r_callVi C oCl5 rfl miX5_part mlX5_166 (h_X5_part ((pI u3 30 2 v41))  (g) (fp) (fq) (oqSk g (t.1 30 2).toInt + 1) ((t.1 30 3).toInt) (op) (bc) (L1) (F1) (d) (G) (by omega) (by omega) (oqX_fr (oFr_oneI (q := 5) (m := 2) rfl (by rfl)) rfl (oqX_fr fu3 rfl iv0)) (by omega) (by omega) (by omega) (by omega) (oqRw_fr (oFr_oneI (q := 5) (m := 2) rfl (by rfl)) rfl (oqRw_fr fu3 rfl iv7)) (oqAn_fr (oFr_oneI (q := 5) (m := 2) rfl (by rfl)) rfl (oqAn_fr fu3 rfl hq1)) (by omega) (oqKx_fr (oFr_oneI (q := 5) (m := 2) rfl (by rfl)) rfl (oqKx_fr fu3 rfl iv8))) (by omega) rfl rfl rfl (Nat.le_of_ble_eq_true rfl) (oDec_at oX5_product 28 rfl) (fun r51 u50 pu50 fu50 => ?_)
              try dsimp only at pu50
              try simp only [lk42, lk43, lk44, lk45, lk46, lk47, lk48, lk49] at pu50
              obtain ⟨pu50_0, pu50_1, pu50_2, pu50_3, pu50_4, pu50_5, pu50_6⟩ := pu50
              have rr51 := n_rng r51
              refine r_if_ne C 56 (oDec_at oX5_product 29 rfl) (by decide) (fun cd52 => ?_) (fun cd52 => ?_)
              · skip
                replace pu50_1 := pu50_1 (by omega)
                replace pu50_2 := pu50_2 (by omega)
                clear pu50_3
                replace pu50_4 := pu50_4 (by omega)
                replace pu50_5 := pu50_5 (by omega)
                obtain ⟨L2, hL2⟩ : ∃ z, z = ((u50).1 bc 1).toInt := ⟨_, rfl⟩
                obtain ⟨F2, hF2⟩ : ∃ z, z = (u50).1 (bc + 1) := ⟨_, rfl⟩
                have hE2 := pu50_4
                rw [← hL2, ← hF2] at hE2
                try (have hLe2 := hE2.le)
                have hq53 : oqAn bc L2 F2 (u50) := ⟨hkb, hL2.symm, hF2.symm⟩
                refine r_aload_n C (j := 0) (oDec_at oX5_product 32 rfl) rfl rfl ?_
                refine r_getS (k := 1) (q2 := 0) C oCl5 rfl (by decide) flX5_19 rfl rfl rfl ks1 (oDec_at oX5_product 33 rfl) (fun b54 rb54 mb54 hkb54 => ?_)
                refine r_iload_n C (j := 2) (oDec_at oX5_product 34 rfl) rfl rfl ?_
                refine r_bipush C (oDec_at oX5_product 35 rfl) (v := k42) (by rw [qk42]; rfl) ?_
                refine r_icmp_ne C 72 (oDec_at oX5_product 36 rfl) (by decide) (fun cd55 => ?_) (fun cd55 => ?_)
                · skip
                  refine r_sipush C (oDec_at oX5_product 39 rfl) (v := k10029) (by rw [qk10029]; rfl) ?_
                  refine r_ty C (fun hty => ?_)
                  have hta : (0 : Int) ≤ ((u50).1 30 2).toInt ∧ ((u50).1 30 2).toInt ≤ 1600 := hty.1 30 2
                  clear hty
                  have hbb : b54 = bc := oqRw_eq (oqRw_fr fu50 rfl (oqRw_fr (oFr_oneI (q := 5) (m := 2) rfl (by rfl)) rfl (oqRw_fr fu3 rfl iv7))) (rb54); have hkn : b54 ≠ d := oqKx_ne pu50_6 (rb54)
                  -- !! !oqAn c0 L2 F2 is not known here
                  refine r_callVv C oCl0 hkb54 miX0_emit mlX5_147 (ct9_X0_emit l E (u50) b54 hkb54 k10029 (L2) (F2) (d) (G) (by rw [hbb]; exact hq53) (by omega) pu50_6) (by omega) rfl rfl rfl (Nat.le_of_ble_eq_true rfl) (oDec_at oX5_product 40 rfl) (fun u56 pu56 fu56 => ?_)
                  try dsimp only at pu56
                  obtain ⟨pu56_0, pu56_1⟩ := pu56
                  have hem := pu56_0 (by omega)
                  rw [hbb] at hem
                  obtain ⟨hem1, hem2⟩ := hem
                  obtain ⟨v58, ev58⟩ : ∃ z : Int32, x1 + Int32.ofInt 1 = z := ⟨_, rfl⟩
                  have hv58 : v58.toInt = x1.toInt + 1 := n_inc ev58 (by decide) (by omega) (by omega)
                  refine r_iinc C (j := 1) (lv' := [(0, .ref (oad E 30)), (1, .int v58), (2, .int r4)]) v58 [1, 0, 2] (oDec_at oX5_product 41 rfl) rfl ev58 (by decide) rfl ?_
                  refine r_goto C (tgt := 11) (oDec_at oX5_product 42 rfl) (by decide) ?_
                  have lk59 : ((u56).1 30 2).toInt = (u50.1 30 2).toInt := congrArg Int32.toInt ((fu56 30 2 rfl).1)
                  have lk60 : ((u56).1 30 5).toInt = (u50.1 30 5).toInt := congrArg Int32.toInt ((fu56 30 5 rfl).1)
                  have lk61 : ((u56).1 30 2).toInt = (u50.1 30 2).toInt := congrArg Int32.toInt ((fu56 30 2 rfl).1)
                  have lk62 : ((u56).1 30 3).toInt = (u50.1 30 3).toInt := congrArg Int32.toInt ((fu56 30 3 rfl).1)
                  have lk63 : ((u56).1 30 2).toInt = (u50.1 30 2).toInt := congrArg Int32.toInt ((fu56 30 2 rfl).1)
                  have lk64 : ((u56).1 30 8).toInt = (u50.1 30 8).toInt := congrArg Int32.toInt ((fu56 30 8 rfl).1)
                  have lk65 : ((u56).1 30 9).toInt = (u50.1 30 9).toInt := congrArg Int32.toInt ((fu56 30 9 rfl).1)
                  have lk66 : ((u56).1 30 6).toInt = (t.1 30 6).toInt := congrArg Int32.toInt (((fu56 30 6 rfl).1).trans (((fu50 30 6 rfl).1).trans (((pI_ne (a := 30) (b := 6) (c := 30) (k := 2) _ _ (Or.inr (by decide)))).trans ((fu3 30 6 rfl).1))))
                  have lk67 : ((u56).1 30 7).toInt = (t.1 30 7).toInt := congrArg Int32.toInt (((fu56 30 7 rfl).1).trans (((fu50 30 7 rfl).1).trans (((pI_ne (a := 30) (b := 7) (c := 30) (k := 2) _ _ (Or.inr (by decide)))).trans ((fu3 30 7 rfl).1))))
                  have lk68 : ((u56).1 30 2).toInt = (u50.1 30 2).toInt := congrArg Int32.toInt ((fu56 30 2 rfl).1)
                  have lk69 : ((u56).1 30 3).toInt = (u50.1 30 3).toInt := congrArg Int32.toInt ((fu56 30 3 rfl).1)
                  have lk70 : ((u56).1 30 2).toInt = (u50.1 30 2).toInt := congrArg Int32.toInt ((fu56 30 2 rfl).1)
                  refine r_pick C [0, 1] rfl ?_
                  exact (ih (n - 1) (by omega)) (u56) v58  (oqX_fr fu56 rfl (oqX_fr fu50 rfl (oqX_fr (oFr_oneI (q := 5) (m := 2) rfl (by rfl)) rfl (oqX_fr fu3 rfl iv0)))) (by omega) (by omega) (by first | exact (oqp_op iv3 hop pu50_1).castS (by omega) (by omega) | exact ((by assumption)).castS (by omega) (by omega)) (by omega) (by omega) (by omega) (oqRw_fr fu56 rfl (oqRw_fr fu50 rfl (oqRw_fr (oFr_oneI (q := 5) (m := 2) rfl (by rfl)) rfl (oqRw_fr fu3 rfl iv7)))) pu56_1 (by first | exact oqEc.nw ((oqe_mu (v := k10029) hEC (by unfold oqMu; omega) hE2 (by omega) rfl rfl).castS (by omega) (by omega)) (by omega) hem2 | exact oqEc.nw ((oqe_1 hE0).castS (by omega) (by omega)) (by omega) hF0.symm) (by omega) (by omega)
                · omega
              · skip
                clear pu50_1
                clear pu50_2
                replace pu50_3 := pu50_3 (by omega)
                clear pu50_4
                clear pu50_5
                refine r_iconst C (oDec_at oX5_product 30 rfl) (v := k0) (by rw [qk0]; rfl) ?_
                exact r_zret C (n_bool (by omega)) (oDec_at oX5_product 31 rfl) ⟨_, rfl, ⟨by omega, fun h => by exfalso; omega, by omega, by omega, fun _ => oqp_opF iv3 hop pu50_3, fun h => by exfalso; omega, fun h => by exfalso; omega, pu50_6⟩⟩
            · skip
              refine r_iconst C (oDec_at oX5_product 19 rfl) (v := k1) (by rw [qk1]; rfl) ?_
              have lk71 : ((u3).1 30 3).toInt = (t.1 30 3).toInt := congrArg Int32.toInt ((fu3 30 3 rfl).1)
              have lk72 : ((u3).1 30 5).toInt = (t.1 30 5).toInt := congrArg Int32.toInt ((fu3 30 5 rfl).1)
              have lk73 : ((u3).1 30 8).toInt = (t.1 30 8).toInt := congrArg Int32.toInt ((fu3 30 8 rfl).1)
              have lk74 : ((u3).1 30 9).toInt = (t.1 30 9).toInt := congrArg Int32.toInt ((fu3 30 9 rfl).1)
              have lk75 : ((u3).1 30 8).toInt = (t.1 30 8).toInt := congrArg Int32.toInt ((fu3 30 8 rfl).1)
              have lk76 : ((u3).1 30 9).toInt = (t.1 30 9).toInt := congrArg Int32.toInt ((fu3 30 9 rfl).1)
              have lk77 : ((u3).1 30 3).toInt = (t.1 30 3).toInt := congrArg Int32.toInt ((fu3 30 3 rfl).1)
              exact r_zret C (n_bool (by omega)) (oDec_at oX5_product 20 rfl) ⟨_, rfl, ⟨by omega, fun _ => iv3.cast (by omega) (by omega), by omega, by omega, fun h => by exfalso; omega, fun _ => oqEc.an ((hEC).cast (by omega) (by omega)) (oqAn_fr fu3 rfl hq1), fun h9 => by (have hn9 := ((oqAn_fr fu3 rfl hq1)).2.1; omega), (oqKx_fr fu3 rfl iv8)⟩⟩
  refine r_aload_n C (j := 0) (oDec_at oX5_product 0 rfl) rfl rfl ?_
  refine r_callVi C oCl5 rfl miX5_part mlX5_166 (h_X5_part (s)  (g) (fp) (fq) (a) (b) (op) (bc) (L) (F) (d) (G) (by omega) (by omega) hp2 (by omega) (by omega) (by omega) (by omega) hp7 hp8 (by omega) hp10) (by omega) rfl rfl rfl (Nat.le_of_ble_eq_true rfl) (oDec_at oX5_product 1 rfl) (fun r79 u78 pu78 fu78 => ?_)
  try dsimp only at pu78
  obtain ⟨pu78_0, pu78_1, pu78_2, pu78_3, pu78_4, pu78_5, pu78_6⟩ := pu78
  have rr79 := n_rng r79
  refine r_if_ne C 9 (oDec_at oX5_product 2 rfl) (by decide) (fun cd80 => ?_) (fun cd80 => ?_)
  · skip
    replace pu78_1 := pu78_1 (by omega)
    replace pu78_2 := pu78_2 (by omega)
    clear pu78_3
    replace pu78_4 := pu78_4 (by omega)
    replace pu78_5 := pu78_5 (by omega)
    refine r_ty C (fun hty => ?_)
    have hta : (0 : Int) ≤ ((u78).1 30 2).toInt ∧ ((u78).1 30 2).toInt ≤ 1600 := hty.1 30 2
    clear hty
    obtain ⟨L0, hL0⟩ : ∃ z, z = ((u78).1 bc 1).toInt := ⟨_, rfl⟩
    obtain ⟨F0, hF0⟩ : ∃ z, z = (u78).1 (bc + 1) := ⟨_, rfl⟩
    have hE0 := pu78_4
    rw [← hL0, ← hF0] at hE0
    try (have hLe0 := hE0.le)
    have hq81 : oqAn bc L0 F0 (u78) := ⟨hkb, hL0.symm, hF0.symm⟩
    refine r_iconst C (oDec_at oX5_product 5 rfl) (v := k0) (by rw [qk0]; rfl) ?_
    refine r_istore_n C (lv' := [(0, .ref (oad E 30)), (1, .int k0)]) [1, 0] (oDec_at oX5_product 6 rfl) rfl (by decide) rfl ?_
    have lk82 : ((u78).1 30 6).toInt = (s.1 30 6).toInt := congrArg Int32.toInt ((fu78 30 6 rfl).1)
    have lk83 : ((u78).1 30 7).toInt = (s.1 30 7).toInt := congrArg Int32.toInt ((fu78 30 7 rfl).1)
    exact (key (1601 - k0.toInt).toNat) (u78) k0  (oqX_fr fu78 rfl hp2) (by omega) (by omega) (by first | exact (pu78_1).castS (by omega) (by omega)) (by omega) (by omega) (by omega) (oqRw_fr fu78 rfl hp7) pu78_6 (by first | exact oqEc.nw ((oqe_mu (v := (by assumption)) hEC (by unfold oqMu; omega) hE2 (by omega) rfl rfl).castS (by omega) (by omega)) (by omega) hem2 | exact oqEc.nw ((oqe_1 hE0).castS (by omega) (by omega)) (by omega) hF0.symm) (by omega) (by omega)
  · skip
    clear pu78_1
    clear pu78_2
    replace pu78_3 := pu78_3 (by omega)
    clear pu78_4
    clear pu78_5
    refine r_iconst C (oDec_at oX5_product 3 rfl) (v := k0) (by rw [qk0]; rfl) ?_
    exact r_zret C (n_bool (by omega)) (oDec_at oX5_product 4 rfl) ⟨_, rfl, ⟨by omega, fun h => by exfalso; omega, by omega, by omega, fun _ => pu78_3, fun h => by exfalso; omega, fun h => by exfalso; omega, pu78_6⟩⟩
