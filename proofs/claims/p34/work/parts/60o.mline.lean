set_option maxHeartbeats 4000000 in
set_option maxRecDepth 100000 in
theorem ct4_X12_line (l : Launch) (E : oE) (s : oS)  (g : Int → Int) (nn : Int) (hp0 : oLT s) (hp1 : 1 ≤ (s.1 71 38).toInt → 1 ≤ (s.1 71 42).toInt) (hp2 : (s.1 71 1).toInt = nn) (hp3 : oqY g nn s) (hp4 : oqWd s) : oMet l 6 yX12_line cX12_line 2 (some .int) [(12, 1), (12, 2), (12, 3), (12, 4), (12, 5), (12, 6), (12, 7), (12, 8), (12, 9), (12, 37), (12, 38), (12, 42), (12, 43), (12, 45), (12, 69), (75, 9999), (76, 9999), (77, 9999)] E s [.ref (oad E 71)] (oPi (fun r u => (oLT u) ∧ (1 ≤ (u.1 71 38).toInt → 1 ≤ (u.1 71 42).toInt) ∧ ((u.1 71 1).toInt = 0) ∧ (r.toInt = oqR1 g) ∧ ((u.1 71 7).toInt = oqR2 g) ∧ ((u.1 71 8).toInt = oqR3 g))) := by
  refine oMet.of (lv := [(0, .ref (oad E 71))]) (by decide +kernel) (Nat.le_of_ble_eq_true rfl) rfl (fun J C hT => ?_)
  have C : oC l 6 cX12_line RX12 2 (some .int) [(12, 1), (12, 2), (12, 3), (12, 4), (12, 5), (12, 6), (12, 7), (12, 8), (12, 9), (12, 37), (12, 38), (12, 42), (12, 43), (12, 45), (12, 69), (75, 9999), (76, 9999), (77, 9999)] E s (oPi (fun r u => (oLT u) ∧ (1 ≤ (u.1 71 38).toInt → 1 ≤ (u.1 71 42).toInt) ∧ ((u.1 71 1).toInt = 0) ∧ (r.toInt = oqR1 g) ∧ ((u.1 71 7).toInt = oqR2 g) ∧ ((u.1 71 8).toInt = oqR3 g))) J := C
  obtain ⟨km1, qkm1⟩ : ∃ z : Int32, z = (-1) := ⟨_, rfl⟩
  have ekm1 : km1.toInt = (-1) := by rw [qkm1]; rfl
  obtain ⟨k0, qk0⟩ : ∃ z : Int32, z = 0 := ⟨_, rfl⟩
  have ek0 : k0.toInt = 0 := by rw [qk0]; rfl
  obtain ⟨k24, qk24⟩ : ∃ z : Int32, z = 24 := ⟨_, rfl⟩
  have ek24 : k24.toInt = 24 := by rw [qk24]; rfl
  have key : ∀ n : Nat, (∀ (t : oS), (oLT t) → (1 ≤ (t.1 71 38).toInt → 1 ≤ (t.1 71 42).toInt) → (oDT t) → ((t.1 71 37).toInt ≤ 24) → ((t.1 71 1).toInt = 0) → (oqZ g t) → (oqWd t) → (oqLS g t) → 100 + 2 * (25 - (t.1 71 37).toInt) + oB1 (t.1 71 5) ≤ (n : Int) → J t 4 [(0, .ref (oad E 71))] []) ∧ (∀ (t : oS) (x1 : Int32), (oDT t) → ((t.1 71 5).toInt = 0) → (0 ≤ x1.toInt ∧ x1.toInt ≤ (t.1 71 37).toInt) → ((t.1 71 37).toInt ≤ 24) → (oCd x1 t) → ((t.1 71 1).toInt = 0) → (oqR1 g = (t.1 71 37).toInt ∧ (t.1 71 7).toInt = oqR2 g ∧ (t.1 71 8).toInt = oqR3 g) → 25 - x1.toInt ≤ (n : Int) → J t 37 [(0, .ref (oad E 71)), (1, .int x1)] []) := by
    intro n
    induction n using Nat.strongRecOn with
    | _ n ih =>
      refine ⟨?_, ?_⟩
      · intro t   iv0 iv1 iv2 iv3 iv4 iv5 iv6 iv7 hmu
        have hj0 := oB1_f (t.1 71 5)
        refine r_ty C (fun hty => ?_)
        have hty_statements : (0 : Int) ≤ ((t).1 71 37).toInt ∧ ((t).1 71 37).toInt ≤ 60 := hty.1 71 37
        clear hty
        refine r_aload_n C (j := 0) (oDec_at oX12_line 2 rfl) rfl rfl ?_
        obtain ⟨v1, ev1⟩ : ∃ z : Int32, (t).1 71 5 = z := ⟨_, rfl⟩
        have gv1 : (t.1 71 5).toInt = v1.toInt := congrArg Int32.toInt (ev1)
        have rv1 := n_rng v1
        refine r_geti (k := 5) (lo := (-2147483648)) (hi := 2147483647) C v1 oCl12 rfl (by decide) flX12_173 rfl rfl (ev1) rfl rfl (oDec_at oX12_line 3 rfl) (fun _ _ => ?_)
        refine r_if_ne C 26 (oDec_at oX12_line 4 rfl) (by decide) (fun cd2 => ?_) (fun cd2 => ?_)
        · skip
          have lk3 : ((t).1 71 5).toInt = v1.toInt := congrArg Int32.toInt (ev1)
          have hR : (((t).1 71 5).toInt = 0 ∧ oqR1 g = ((t).1 71 37).toInt ∧ oqR2 g = 0 ∧ oqR3 g = -1 ∧ ((t).1 71 6).toInt = -1) ∨ (((t).1 71 5).toInt ≠ 0 ∧ oqR1 g = -1 ∧ oqR2 g = ((t).1 71 5).toInt ∧ oqR3 g = ((t).1 71 6).toInt) := by first | (right; have h9 := oqLS_bad iv7 (by omega); omega) | (left; have h9 := oqRn_end hRn (by omega); omega)
          refine r_aload_n C (j := 0) (oDec_at oX12_line 12 rfl) rfl rfl ?_
          have lk4 : ((t).1 71 5).toInt = v1.toInt := congrArg Int32.toInt (ev1)
          refine r_callVi C oCl12 rfl miX12_isTaken mlX12_258 (ct4_X12_isTaken l E (t)  ) (by decide) rfl rfl rfl (Nat.le_of_ble_eq_true rfl) (oDec_at oX12_line 13 rfl) (fun r6 u5 pu5 fu5 => ?_)
          try dsimp only at pu5
          try simp only [lk4] at pu5
          obtain ⟨pu5_0, pu5_1, pu5_2⟩ := pu5
          have lu7 : ((u5).1 71 5).toInt = v1.toInt := congrArg Int32.toInt (((fu5 71 5 rfl).1).trans (ev1))
          have rr6 := n_rng r6
          refine r_if_ne C 35 (oDec_at oX12_line 14 rfl) (by decide) (fun cd8 => ?_) (fun cd8 => ?_)
          · skip
            refine r_iconst C (oDec_at oX12_line 17 rfl) (v := k0) (by rw [qk0]; rfl) ?_
            refine r_istore_n C (lv' := [(0, .ref (oad E 71)), (1, .int k0)]) [1, 0] (oDec_at oX12_line 18 rfl) rfl (by decide) rfl ?_
            have lk9 : ((u5).1 71 5).toInt = v1.toInt := congrArg Int32.toInt (((fu5 71 5 rfl).1).trans (ev1))
            have lk10 : ((u5).1 71 37).toInt = (t.1 71 37).toInt := congrArg Int32.toInt ((fu5 71 37 rfl).1)
            have lk11 : ((u5).1 71 37).toInt = (t.1 71 37).toInt := congrArg Int32.toInt ((fu5 71 37 rfl).1)
            have lk12 : ((u5).1 71 1).toInt = (t.1 71 1).toInt := congrArg Int32.toInt ((fu5 71 1 rfl).1)
            have lk13 : ((u5).1 71 37).toInt = (t.1 71 37).toInt := congrArg Int32.toInt ((fu5 71 37 rfl).1)
            exact (ih (n - 1) (by omega)).2 (u5) k0  (oDT_fr fu5 rfl iv2) (by omega) (by omega) (by omega) (by first | exact oCd_0 (by omega)) (by omega) (by omega) (by omega)
          · skip
            refine r_iconst C (oDec_at oX12_line 15 rfl) (v := km1) (by rw [qkm1]; rfl) ?_
            have lk14 : ((u5).1 71 38).toInt = (t.1 71 38).toInt := congrArg Int32.toInt ((fu5 71 38 rfl).1)
            have lk15 : ((u5).1 71 42).toInt = (t.1 71 42).toInt := congrArg Int32.toInt ((fu5 71 42 rfl).1)
            have lk16 : ((u5).1 71 1).toInt = (t.1 71 1).toInt := congrArg Int32.toInt ((fu5 71 1 rfl).1)
            exact r_iret C (oDec_at oX12_line 16 rfl) ⟨_, rfl, ⟨(oLT_fr fu5 rfl iv0), by omega, by omega, by omega, by omega, by omega⟩⟩
        · skip
          obtain ⟨hb6, T, hTS, hRn⟩ := oqLS_ok iv7 (by omega)
          have hq17 : oqTS T (t) := hTS
          refine r_aload_n C (j := 0) (oDec_at oX12_line 5 rfl) rfl rfl ?_
          refine r_callVi C oCl12 rfl miX12_look mlX12_185 (ct4_X12_look l E (t)  (g) ((t.1 71 2).toInt) (by omega) iv5) (by decide) rfl rfl rfl (Nat.le_of_ble_eq_true rfl) (oDec_at oX12_line 6 rfl) (fun r19 u18 pu18 fu18 => ?_)
          try dsimp only at pu18
          obtain ⟨pu18_0, pu18_1, pu18_2, pu18_3, pu18_4, pu18_5⟩ := pu18
          have rr19 := n_rng r19
          refine r_iconst C (oDec_at oX12_line 7 rfl) (v := km1) (by rw [qkm1]; rfl) ?_
          refine r_icmp_eq C 26 (oDec_at oX12_line 8 rfl) (by decide) (fun cd20 => ?_) (fun cd20 => ?_)
          · skip
            have lk21 : ((u18).1 71 5).toInt = v1.toInt := congrArg Int32.toInt (((fu18 71 5 rfl).1).trans (ev1))
            have lk22 : ((u18).1 71 6).toInt = (t.1 71 6).toInt := congrArg Int32.toInt ((fu18 71 6 rfl).1)
            have lk23 : ((u18).1 71 37).toInt = (t.1 71 37).toInt := congrArg Int32.toInt ((fu18 71 37 rfl).1)
            have hR : (((u18).1 71 5).toInt = 0 ∧ oqR1 g = ((u18).1 71 37).toInt ∧ oqR2 g = 0 ∧ oqR3 g = -1 ∧ ((u18).1 71 6).toInt = -1) ∨ (((u18).1 71 5).toInt ≠ 0 ∧ oqR1 g = -1 ∧ oqR2 g = ((u18).1 71 5).toInt ∧ oqR3 g = ((u18).1 71 6).toInt) := by first | (right; have h9 := oqLS_bad iv7 (by omega); omega) | (left; have h9 := oqRn_end hRn (by omega); omega)
            refine r_aload_n C (j := 0) (oDec_at oX12_line 12 rfl) rfl rfl ?_
            have lk24 : ((u18).1 71 5).toInt = v1.toInt := congrArg Int32.toInt (((fu18 71 5 rfl).1).trans (ev1))
            have lk25 : ((u18).1 71 6).toInt = (t.1 71 6).toInt := congrArg Int32.toInt ((fu18 71 6 rfl).1)
            refine r_callVi C oCl12 rfl miX12_isTaken mlX12_258 (ct4_X12_isTaken l E (u18)  ) (by decide) rfl rfl rfl (Nat.le_of_ble_eq_true rfl) (oDec_at oX12_line 13 rfl) (fun r27 u26 pu26 fu26 => ?_)
            try dsimp only at pu26
            try simp only [lk24, lk25] at pu26
            obtain ⟨pu26_0, pu26_1, pu26_2⟩ := pu26
            have lu28 : ((u26).1 71 5).toInt = v1.toInt := congrArg Int32.toInt (((fu26 71 5 rfl).1).trans (((fu18 71 5 rfl).1).trans (ev1)))
            have rr27 := n_rng r27
            refine r_if_ne C 35 (oDec_at oX12_line 14 rfl) (by decide) (fun cd29 => ?_) (fun cd29 => ?_)
            · skip
              refine r_iconst C (oDec_at oX12_line 17 rfl) (v := k0) (by rw [qk0]; rfl) ?_
              refine r_istore_n C (lv' := [(0, .ref (oad E 71)), (1, .int k0)]) [1, 0] (oDec_at oX12_line 18 rfl) rfl (by decide) rfl ?_
              have lk30 : ((u26).1 71 5).toInt = v1.toInt := congrArg Int32.toInt (((fu26 71 5 rfl).1).trans (((fu18 71 5 rfl).1).trans (ev1)))
              have lk31 : ((u26).1 71 37).toInt = (t.1 71 37).toInt := congrArg Int32.toInt (((fu26 71 37 rfl).1).trans ((fu18 71 37 rfl).1))
              have lk32 : ((u26).1 71 37).toInt = (t.1 71 37).toInt := congrArg Int32.toInt (((fu26 71 37 rfl).1).trans ((fu18 71 37 rfl).1))
              have lk33 : ((u26).1 71 1).toInt = (t.1 71 1).toInt := congrArg Int32.toInt (((fu26 71 1 rfl).1).trans ((fu18 71 1 rfl).1))
              have lk34 : ((u26).1 71 37).toInt = (t.1 71 37).toInt := congrArg Int32.toInt (((fu26 71 37 rfl).1).trans ((fu18 71 37 rfl).1))
              exact (ih (n - 1) (by omega)).2 (u26) k0  (oDT_fr fu26 rfl (oDT_fr fu18 rfl iv2)) (by omega) (by omega) (by omega) (by first | exact oCd_0 (by omega)) (by omega) (by omega) (by omega)
            · skip
              refine r_iconst C (oDec_at oX12_line 15 rfl) (v := km1) (by rw [qkm1]; rfl) ?_
              have lk35 : ((u26).1 71 38).toInt = (t.1 71 38).toInt := congrArg Int32.toInt (((fu26 71 38 rfl).1).trans ((fu18 71 38 rfl).1))
              have lk36 : ((u26).1 71 42).toInt = (t.1 71 42).toInt := congrArg Int32.toInt (((fu26 71 42 rfl).1).trans ((fu18 71 42 rfl).1))
              have lk37 : ((u26).1 71 1).toInt = (t.1 71 1).toInt := congrArg Int32.toInt (((fu26 71 1 rfl).1).trans ((fu18 71 1 rfl).1))
              exact r_iret C (oDec_at oX12_line 16 rfl) ⟨_, rfl, ⟨(oLT_fr fu26 rfl (oLT_fr fu18 rfl iv0)), by omega, by omega, by omega, by omega, by omega⟩⟩
          · skip
            have hss := oqSk_sk (g := g) (a := (t.1 71 2).toInt) ⟨by omega, by omega⟩
            have hgs : g (oqSk g (oqSk g (t.1 71 2).toInt)) = g (oqSk g (t.1 71 2).toInt) := by rw [hss]
            refine r_aload_n C (j := 0) (oDec_at oX12_line 9 rfl) rfl rfl ?_
            have lk38 : ((u18).1 71 37).toInt = (t.1 71 37).toInt := congrArg Int32.toInt ((fu18 71 37 rfl).1)
            have lk39 : ((u18).1 71 4).toInt = (t.1 71 4).toInt := congrArg Int32.toInt ((fu18 71 4 rfl).1)
            have lk40 : ((u18).1 71 5).toInt = v1.toInt := congrArg Int32.toInt (((fu18 71 5 rfl).1).trans (ev1))
            have lk41 : ((u18).1 71 6).toInt = (t.1 71 6).toInt := congrArg Int32.toInt ((fu18 71 6 rfl).1)
            have lk42 : ((u18).1 71 5).toInt = v1.toInt := congrArg Int32.toInt (((fu18 71 5 rfl).1).trans (ev1))
            have lk43 : ((u18).1 71 37).toInt = (t.1 71 37).toInt := congrArg Int32.toInt ((fu18 71 37 rfl).1)
            have lk44 : ((u18).1 71 37).toInt = (t.1 71 37).toInt := congrArg Int32.toInt ((fu18 71 37 rfl).1)
            have lk45 : ((u18).1 71 37).toInt = (t.1 71 37).toInt := congrArg Int32.toInt ((fu18 71 37 rfl).1)
            have lk46 : ((u18).1 71 37).toInt = (t.1 71 37).toInt := congrArg Int32.toInt ((fu18 71 37 rfl).1)
            have lk47 : ((u18).1 71 37).toInt = (t.1 71 37).toInt := congrArg Int32.toInt ((fu18 71 37 rfl).1)
            refine r_callVv C oCl12 rfl miX12_noteTold mlX12_255 (ct4_X12_noteTold l E (u18)  (g) (oqSk g (t.1 71 2).toInt) ((t.1 71 4).toInt) (T) (oLT_fr fu18 rfl iv0) (by omega) (oDT_fr fu18 rfl iv2) (by omega) (by omega) (oqZ_fr fu18 rfl iv5) (oqWd_fr fu18 rfl iv6) (oqTS_fr fu18 rfl hq17) (by omega) (by omega)) (by decide) rfl rfl rfl (Nat.le_of_ble_eq_true rfl) (oDec_at oX12_line 10 rfl) (fun u48 pu48 fu48 => ?_)
            try dsimp only at pu48
            try simp only [lk38, lk39, lk40, lk41, lk42, lk43, lk44, lk45, lk46, lk47] at pu48
            obtain ⟨pu48_0, pu48_1, pu48_2, pu48_3, pu48_4, pu48_5, pu48_6, pu48_7, pu48_8⟩ := pu48
            refine r_goto C (tgt := 4) (oDec_at oX12_line 11 rfl) (by decide) ?_
            have lk50 : ((u48).1 71 38).toInt = (t.1 71 38).toInt := congrArg Int32.toInt (((fu48 71 38 rfl).1).trans ((fu18 71 38 rfl).1))
            have lk51 : ((u48).1 71 42).toInt = (t.1 71 42).toInt := congrArg Int32.toInt (((fu48 71 42 rfl).1).trans ((fu18 71 42 rfl).1))
            have lk52 : ((u48).1 71 1).toInt = (t.1 71 1).toInt := congrArg Int32.toInt (((fu48 71 1 rfl).1).trans ((fu18 71 1 rfl).1))
            have hj := oB1_f ((u48).1 71 5)
            exact (ih (n - 1) (by omega)).1 (u48)   pu48_0 (by omega) (by first | exact pu48_2 | exact oDT_0 (by omega)) (by omega) (by omega) (by first | exact (oqZ_fr fu48 rfl (oqZ_fr fu18 rfl iv5)) | exact oqZ_of (by assumption) (by omega)) (oqWd_fr fu48 rfl (oqWd_fr fu18 rfl iv6)) (by first | exact oqLS_nx hRn (by omega) (by omega) (by omega) (by omega) pu48_8 (by omega) | exact oqLS_0 (by omega) (by omega) (by omega) (by omega) (by omega)) (by omega)
      · intro t x1  iv0 iv1 iv2 iv3 iv4 iv5 iv6 hmu
        have rx1 := n_rng x1
        refine r_iload_n C (j := 1) (oDec_at oX12_line 19 rfl) rfl rfl ?_
        refine r_aload_n C (j := 0) (oDec_at oX12_line 20 rfl) rfl rfl ?_
        obtain ⟨v53, ev53⟩ : ∃ z : Int32, (t).1 71 37 = z := ⟨_, rfl⟩
        have gv53 : (t.1 71 37).toInt = v53.toInt := congrArg Int32.toInt (ev53)
        refine r_geti (k := 37) (lo := 0) (hi := 60) C v53 oCl12 rfl (by decide) flX12_231 rfl rfl (ev53) rfl rfl (oDec_at oX12_line 21 rfl) (fun b54 b54h => ?_)
        refine r_icmp_ge C 81 (oDec_at oX12_line 22 rfl) (by decide) (fun cd55 => ?_) (fun cd55 => ?_)
        · skip
          refine r_aload_n C (j := 0) (oDec_at oX12_line 45 rfl) rfl rfl ?_
          refine r_aload_n C (j := 0) (oDec_at oX12_line 46 rfl) rfl rfl ?_
          refine r_geti (k := 37) (lo := 0) (hi := 60) C v53 oCl12 rfl (by decide) flX12_231 rfl rfl (ev53) rfl rfl (oDec_at oX12_line 47 rfl) (fun _ _ => ?_)
          refine r_puti (k := 38) (lo := 0) (hi := 24) C oCl12 rfl (by decide) flX12_261 rfl rfl rfl rfl rfl rfl rfl rfl ⟨by omega, by omega⟩ (oDec_at oX12_line 48 rfl) ?_
          have lk56 : (((pI t 71 38 v53)).1 71 5).toInt = (t.1 71 5).toInt := congrArg Int32.toInt ((pI_ne (a := 71) (b := 5) (c := 71) (k := 38) _ _ (Or.inr (by decide))))
          have lk57 : (((pI t 71 38 v53)).1 71 37).toInt = v53.toInt := congrArg Int32.toInt (((pI_ne (a := 71) (b := 37) (c := 71) (k := 38) _ _ (Or.inr (by decide)))).trans (ev53))
          have lk58 : (((pI t 71 38 v53)).1 71 38).toInt = v53.toInt := congrArg Int32.toInt ((pI_self _ _ _ _))
          have hq59 : oLT ((pI t 71 38 v53)) := oLT_ofD (x := x1) (oCd_fr (oFr_oneI (q := 12) (m := 38) rfl (by rfl)) rfl iv4) (oDT_fr (oFr_oneI (q := 12) (m := 38) rfl (by rfl)) rfl iv0) (by omega) (by omega) (by omega)
          refine r_aload_n C (j := 0) (oDec_at oX12_line 49 rfl) rfl rfl ?_
          refine r_callVv C oCl12 rfl miX12_lies mlX12_264 (ct_X12_lies l E ((pI t 71 38 v53))  hq59) (by decide) rfl rfl rfl (Nat.le_of_ble_eq_true rfl) (oDec_at oX12_line 50 rfl) (fun u60 pu60 fu60 => ?_)
          try dsimp only at pu60
          obtain ⟨pu60_0, pu60_1⟩ := pu60
          have lu62 : ((u60).1 71 38).toInt = v53.toInt := congrArg Int32.toInt (((fu60 71 38 rfl).1).trans ((pI_self _ _ _ _)))
          refine r_pc C 93 rfl ?_
          refine r_aload_n C (j := 0) (oDec_at oX12_line 51 rfl) rfl rfl ?_
          refine r_geti (k := 37) (lo := 0) (hi := 60) C v53 oCl12 rfl (by decide) flX12_231 rfl rfl (((fu60 71 37 rfl).1).trans (((pI_ne (a := 71) (b := 37) (c := 71) (k := 38) _ _ (Or.inr (by decide)))).trans (ev53))) rfl rfl (oDec_at oX12_line 52 rfl) (fun _ _ => ?_)
          have lk63 : ((u60).1 71 38).toInt = v53.toInt := congrArg Int32.toInt (((fu60 71 38 rfl).1).trans ((pI_self _ _ _ _)))
          have lk64 : ((u60).1 71 1).toInt = (t.1 71 1).toInt := congrArg Int32.toInt (((fu60 71 1 rfl).1).trans ((pI_ne (a := 71) (b := 1) (c := 71) (k := 38) _ _ (Or.inr (by decide)))))
          have lk65 : ((u60).1 71 7).toInt = (t.1 71 7).toInt := congrArg Int32.toInt (((fu60 71 7 rfl).1).trans ((pI_ne (a := 71) (b := 7) (c := 71) (k := 38) _ _ (Or.inr (by decide)))))
          have lk66 : ((u60).1 71 8).toInt = (t.1 71 8).toInt := congrArg Int32.toInt (((fu60 71 8 rfl).1).trans ((pI_ne (a := 71) (b := 8) (c := 71) (k := 38) _ _ (Or.inr (by decide)))))
          exact r_iret C (oDec_at oX12_line 53 rfl) ⟨_, rfl, ⟨pu60_0, by omega, by omega, by omega, by omega, by omega⟩⟩
        · skip
          refine r_aload_n C (j := 0) (oDec_at oX12_line 23 rfl) rfl rfl ?_
          refine r_getF (k := 39) (b := 99) C oCl12 rfl (by decide) flX12_96 rfl rfl rfl (oDec_at oX12_line 24 rfl) ?_
          refine r_iload_n C (j := 1) (oDec_at oX12_line 25 rfl) rfl rfl ?_
          refine r_aload_n C (j := 0) (oDec_at oX12_line 26 rfl) rfl rfl ?_
          refine r_getF (k := 39) (b := 99) C oCl12 rfl (by decide) flX12_96 rfl rfl rfl (oDec_at oX12_line 27 rfl) ?_
          refine r_bipush C (oDec_at oX12_line 28 rfl) (v := k24) (by rw [qk24]; rfl) ?_
          refine r_pc C 56 rfl ?_
          refine r_iload_n C (j := 1) (oDec_at oX12_line 29 rfl) rfl rfl ?_
          obtain ⟨v67, ev67⟩ : ∃ z : Int32, z = k24 + x1 := ⟨_, rfl⟩
          have hv67 : v67.toInt = k24.toInt + x1.toInt := n_add ev67 (by omega) (by omega)
          refine r_iadd C v67 (oDec_at oX12_line 30 rfl) ev67 ?_
          obtain ⟨v69, ev69⟩ : ∃ z : Int32, (t).1 99 v67.toNatClampNeg = z := ⟨_, rfl⟩
          have gv69 : (t.1 99 v67.toNatClampNeg).toInt = v69.toInt := congrArg Int32.toInt (ev69)
          have rv69 := n_rng v69
          refine r_iald (n := 48) (lo := (-2147483648)) (hi := 2147483647) C v69 rfl (by decide) rfl rfl ⟨by omega, by omega⟩ (by decide) ev69 rfl rfl (oDec_at oX12_line 31 rfl) (fun _ _ => ?_)
          refine r_iast (n := 48) (lo := (-2147483648)) (hi := 2147483647) C rfl (by decide) rfl rfl ⟨by omega, by omega⟩ (by decide) rfl rfl rfl rfl (n_rng _) (oDec_at oX12_line 32 rfl) ?_
          refine r_aload_n C (j := 0) (oDec_at oX12_line 33 rfl) rfl rfl ?_
          refine r_getF (k := 40) (b := 100) C oCl12 rfl (by decide) flX12_99 rfl rfl rfl (oDec_at oX12_line 34 rfl) ?_
          refine r_pc C 64 rfl ?_
          refine r_iload_n C (j := 1) (oDec_at oX12_line 35 rfl) rfl rfl ?_
          refine r_aload_n C (j := 0) (oDec_at oX12_line 36 rfl) rfl rfl ?_
          refine r_getF (k := 40) (b := 100) C oCl12 rfl (by decide) flX12_99 rfl rfl rfl (oDec_at oX12_line 37 rfl) ?_
          refine r_bipush C (oDec_at oX12_line 38 rfl) (v := k24) (by rw [qk24]; rfl) ?_
          refine r_iload_n C (j := 1) (oDec_at oX12_line 39 rfl) rfl rfl ?_
          obtain ⟨v70, ev70⟩ : ∃ z : Int32, z = k24 + x1 := ⟨_, rfl⟩
          have hv70 : v70.toInt = k24.toInt + x1.toInt := n_add ev70 (by omega) (by omega)
          refine r_iadd C v70 (oDec_at oX12_line 40 rfl) ev70 ?_
          refine r_pc C 73 rfl ?_
          obtain ⟨v72, ev72⟩ : ∃ z : Int32, ((pI t 99 x1.toNatClampNeg v69)).1 100 v70.toNatClampNeg = z := ⟨_, rfl⟩
          have av72 : t.1 100 v70.toNatClampNeg = v72 := ((pI_ne (a := 100) (b := v70.toNatClampNeg) (c := 99) _ _ (Or.inl (by decide)))).symm.trans ev72
          have gv72 : (t.1 100 v70.toNatClampNeg).toInt = v72.toInt := congrArg Int32.toInt (((pI_ne (a := 100) (b := v70.toNatClampNeg) (c := 99) _ _ (Or.inl (by decide)))).symm.trans ev72)
          refine r_iald (n := 48) (lo := 0) (hi := 9999) C v72 rfl (by decide) rfl rfl ⟨by omega, by omega⟩ (by decide) ev72 rfl rfl (oDec_at oX12_line 41 rfl) (fun b71 b71h => ?_)
          have hq := oIx24 (i := v70) (x := x1) ev72 (by omega) (by omega)
          refine r_iast (n := 48) (lo := 0) (hi := 9999) C rfl (by decide) rfl rfl ⟨by omega, by omega⟩ (by decide) rfl rfl rfl rfl ⟨by omega, by omega⟩ (oDec_at oX12_line 42 rfl) ?_
          have hq73 : oDT ((pI (pI t 99 x1.toNatClampNeg v69) 100 x1.toNatClampNeg v72)) := oDT_lo (x := x1) (oDT_fr (oFr_oneI (q := 75) (m := 9999) rfl (by rfl)) rfl iv0) (by omega)
          obtain ⟨v74, ev74⟩ : ∃ z : Int32, x1 + Int32.ofInt 1 = z := ⟨_, rfl⟩
          have hv74 : v74.toInt = x1.toInt + 1 := n_inc ev74 (by decide) (by omega) (by omega)
          refine r_iinc C (j := 1) (lv' := [(0, .ref (oad E 71)), (1, .int v74)]) v74 [1, 0] (oDec_at oX12_line 43 rfl) rfl ev74 (by decide) rfl ?_
          refine r_goto C (tgt := 37) (oDec_at oX12_line 44 rfl) (by decide) ?_
          have lk75 : (((pI (pI t 99 x1.toNatClampNeg v69) 100 x1.toNatClampNeg v72)).1 71 5).toInt = (t.1 71 5).toInt := congrArg Int32.toInt (((pI_ne (a := 71) (b := 5) (c := 100) _ _ (Or.inl (by decide)))).trans ((pI_ne (a := 71) (b := 5) (c := 99) _ _ (Or.inl (by decide)))))
          have lk76 : (((pI (pI t 99 x1.toNatClampNeg v69) 100 x1.toNatClampNeg v72)).1 71 37).toInt = v53.toInt := congrArg Int32.toInt (((pI_ne (a := 71) (b := 37) (c := 100) _ _ (Or.inl (by decide)))).trans (((pI_ne (a := 71) (b := 37) (c := 99) _ _ (Or.inl (by decide)))).trans (ev53)))
          have lk77 : (((pI (pI t 99 x1.toNatClampNeg v69) 100 x1.toNatClampNeg v72)).1 71 37).toInt = v53.toInt := congrArg Int32.toInt (((pI_ne (a := 71) (b := 37) (c := 100) _ _ (Or.inl (by decide)))).trans (((pI_ne (a := 71) (b := 37) (c := 99) _ _ (Or.inl (by decide)))).trans (ev53)))
          have lk78 : (((pI (pI t 99 x1.toNatClampNeg v69) 100 x1.toNatClampNeg v72)).1 71 1).toInt = (t.1 71 1).toInt := congrArg Int32.toInt (((pI_ne (a := 71) (b := 1) (c := 100) _ _ (Or.inl (by decide)))).trans ((pI_ne (a := 71) (b := 1) (c := 99) _ _ (Or.inl (by decide)))))
          have lk79 : (((pI (pI t 99 x1.toNatClampNeg v69) 100 x1.toNatClampNeg v72)).1 71 37).toInt = v53.toInt := congrArg Int32.toInt (((pI_ne (a := 71) (b := 37) (c := 100) _ _ (Or.inl (by decide)))).trans (((pI_ne (a := 71) (b := 37) (c := 99) _ _ (Or.inl (by decide)))).trans (ev53)))
          have lk80 : (((pI (pI t 99 x1.toNatClampNeg v69) 100 x1.toNatClampNeg v72)).1 71 7).toInt = (t.1 71 7).toInt := congrArg Int32.toInt (((pI_ne (a := 71) (b := 7) (c := 100) _ _ (Or.inl (by decide)))).trans ((pI_ne (a := 71) (b := 7) (c := 99) _ _ (Or.inl (by decide)))))
          have lk81 : (((pI (pI t 99 x1.toNatClampNeg v69) 100 x1.toNatClampNeg v72)).1 71 8).toInt = (t.1 71 8).toInt := congrArg Int32.toInt (((pI_ne (a := 71) (b := 8) (c := 100) _ _ (Or.inl (by decide)))).trans ((pI_ne (a := 71) (b := 8) (c := 99) _ _ (Or.inl (by decide)))))
          exact (ih (n - 1) (by omega)).2 ((pI (pI t 99 x1.toNatClampNeg v69) 100 x1.toNatClampNeg v72)) v74  hq73 (by omega) (by omega) (by omega) (by first | exact oCd_step (x := x1) (y := v74) (w := v72) (oCd_fr (oFr_oneI (q := 75) (m := 9999) rfl (by rfl)) rfl iv4) (by omega) (by omega) (by assumption) | exact oCd_0 (by omega)) (by omega) (by omega) (by omega)
  refine r_aload_n C (j := 0) (oDec_at oX12_line 0 rfl) rfl rfl ?_
  refine r_callVv C oCl12 rfl miX12_begins mlX12_252 (ct4_X12_begins l E (s)  ) (by decide) rfl rfl rfl (Nat.le_of_ble_eq_true rfl) (oDec_at oX12_line 1 rfl) (fun u82 pu82 fu82 => ?_)
  try dsimp only at pu82
  obtain ⟨pu82_0, pu82_1, pu82_2, pu82_3, pu82_4, pu82_5, pu82_6, pu82_7⟩ := pu82
  have lk84 : ((u82).1 71 38).toInt = (s.1 71 38).toInt := congrArg Int32.toInt ((fu82 71 38 rfl).1)
  have lk85 : ((u82).1 71 42).toInt = (s.1 71 42).toInt := congrArg Int32.toInt ((fu82 71 42 rfl).1)
  have hj := oB1_f ((u82).1 71 5)
  exact (key (100 + 2 * (25 - ((u82).1 71 37).toInt) + oB1 ((u82).1 71 5)).toNat).1 (u82)   (oLT_fr fu82 rfl hp0) (by omega) (by first | exact (by assumption) | exact oDT_0 (by omega)) (by omega) (by omega) (by first | exact (by assumption) | exact oqZ_of (oqY_fr fu82 rfl hp3) (by omega)) (oqWd_fr fu82 rfl hp4) (by first | exact oqLS_nx hRn (by omega) (by omega) (by omega) (by omega) pu82_8 (by omega) | exact oqLS_0 (by omega) (by omega) (by omega) (by omega) (by omega)) (by omega)
