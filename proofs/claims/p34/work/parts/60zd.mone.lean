set_option maxHeartbeats 4000000 in
set_option maxRecDepth 100000 in
theorem ct7_X12_onePart (l : Launch) (E : oE) (s : oS)  (b : Nat) (x : Nat) (g : Int → Int) (fp : Int) (fq : Int) (cz : oqCf) (kx : Nat) (hp0 : oQ b x s) (hp1 : (b : Int) ≤ 1700) (hp2 : (s.1 71 5).toInt = 0) (hp3 : 0 ≤ (s.1 71 48).toInt ∧ (s.1 71 48).toInt ≤ 6) (hp4 : (s.1 71 45).toInt + (s.1 71 47).toInt + 5 ≤ (s.1 71 2).toInt) (hp5 : oqJ g fp fq cz kx b 1 s) (hp6 : oqZ g s) (hp7 : oqWd s) (hp8 : oqMo fp fq s) (hp9 : oqBP s) : oMet l 5 yX12_onePart cX12_onePart 5 none [(12, 2), (12, 4), (12, 5), (12, 6), (12, 9), (12, 45), (12, 47), (12, 48), (78, 9999), (79, 9999)] E s [.ref (oad E 71)] (oPv (fun u => (oQ b (x + 1) u) ∧ (0 ≤ (u.1 71 48).toInt ∧ (u.1 71 48).toInt ≤ 6) ∧ ((s.1 71 2).toInt - (s.1 71 45).toInt - (s.1 71 47).toInt ≤ (u.1 71 2).toInt - (u.1 71 45).toInt - (u.1 71 47).toInt + 1) ∧ ((u.1 71 5).toInt = 0 → ((s.1 71 2).toInt - (s.1 71 45).toInt - (s.1 71 47).toInt ≤ (u.1 71 2).toInt - (u.1 71 45).toInt - (u.1 71 47).toInt ∧ (s.1 71 2).toInt + 1 ≤ (u.1 71 2).toInt)) ∧ ((s.1 71 2).toInt ≤ (u.1 71 2).toInt) ∧ (oqJ g fp fq cz kx b 3 u) ∧ (oqBP u))) := by
  refine oMet.of (lv := [(0, .ref (oad E 71))]) (by decide +kernel) (Nat.le_of_ble_eq_true rfl) rfl (fun J C hT => ?_)
  have C : oC l 5 cX12_onePart RX12 5 none [(12, 2), (12, 4), (12, 5), (12, 6), (12, 9), (12, 45), (12, 47), (12, 48), (78, 9999), (79, 9999)] E s (oPv (fun u => (oQ b (x + 1) u) ∧ (0 ≤ (u.1 71 48).toInt ∧ (u.1 71 48).toInt ≤ 6) ∧ ((s.1 71 2).toInt - (s.1 71 45).toInt - (s.1 71 47).toInt ≤ (u.1 71 2).toInt - (u.1 71 45).toInt - (u.1 71 47).toInt + 1) ∧ ((u.1 71 5).toInt = 0 → ((s.1 71 2).toInt - (s.1 71 45).toInt - (s.1 71 47).toInt ≤ (u.1 71 2).toInt - (u.1 71 45).toInt - (u.1 71 47).toInt ∧ (s.1 71 2).toInt + 1 ≤ (u.1 71 2).toInt)) ∧ ((s.1 71 2).toInt ≤ (u.1 71 2).toInt) ∧ (oqJ g fp fq cz kx b 3 u) ∧ (oqBP u))) J := C
  obtain ⟨km1, qkm1⟩ : ∃ z : Int32, z = (-1) := ⟨_, rfl⟩
  have ekm1 : km1.toInt = (-1) := by rw [qkm1]; rfl
  obtain ⟨k0, qk0⟩ : ∃ z : Int32, z = 0 := ⟨_, rfl⟩
  have ek0 : k0.toInt = 0 := by rw [qk0]; rfl
  obtain ⟨k1, qk1⟩ : ∃ z : Int32, z = 1 := ⟨_, rfl⟩
  have ek1 : k1.toInt = 1 := by rw [qk1]; rfl
  obtain ⟨k20, qk20⟩ : ∃ z : Int32, z = 20 := ⟨_, rfl⟩
  have ek20 : k20.toInt = 20 := by rw [qk20]; rfl
  obtain ⟨k21, qk21⟩ : ∃ z : Int32, z = 21 := ⟨_, rfl⟩
  have ek21 : k21.toInt = 21 := by rw [qk21]; rfl
  obtain ⟨k22, qk22⟩ : ∃ z : Int32, z = 22 := ⟨_, rfl⟩
  have ek22 : k22.toInt = 22 := by rw [qk22]; rfl
  obtain ⟨k40, qk40⟩ : ∃ z : Int32, z = 40 := ⟨_, rfl⟩
  have ek40 : k40.toInt = 40 := by rw [qk40]; rfl
  obtain ⟨k1000, qk1000⟩ : ∃ z : Int32, z = 1000 := ⟨_, rfl⟩
  have ek1000 : k1000.toInt = 1000 := by rw [qk1000]; rfl
  obtain ⟨k9999, qk9999⟩ : ∃ z : Int32, z = 9999 := ⟨_, rfl⟩
  have ek9999 : k9999.toInt = 9999 := by rw [qk9999]; rfl
  have key : ∀ n : Nat, (∀ (t : oS) (x1 : Int32), (oQ b x t) → (0 ≤ x1.toInt ∧ x1.toInt ≤ 1) → (0 ≤ (t.1 71 48).toInt ∧ (t.1 71 48).toInt ≤ 6) → ((t.1 71 5).toInt = 0 → (s.1 71 2).toInt - (s.1 71 45).toInt - (s.1 71 47).toInt ≤ (t.1 71 2).toInt - (t.1 71 45).toInt - (t.1 71 47).toInt) → ((s.1 71 2).toInt - (s.1 71 45).toInt - (s.1 71 47).toInt ≤ (t.1 71 2).toInt - (t.1 71 45).toInt - (t.1 71 47).toInt + 1) → ((s.1 71 2).toInt ≤ (t.1 71 2).toInt) → (oqJ g fp fq cz kx b 1 t) → (x1.toInt = 0 → oqN0 g t) → ((t.1 71 2).toInt = (t.1 71 2).toInt ∧ (t.1 71 4).toInt = (t.1 71 4).toInt) → (oqZ g t) → (oqWd t) → (oqMo fp fq t) → (oqBP t) → 1000 * (1602 - (t.1 71 2).toInt) + 10 * x1.toInt + 500 * oB1 (t.1 71 5) ≤ (n : Int) → J t 2 [(0, .ref (oad E 71)), (1, .int x1)] []) ∧ (∀ (t : oS) (x1 : Int32), (oQ b x t) → (x1.toInt = 1) → (0 ≤ (t.1 71 48).toInt ∧ (t.1 71 48).toInt ≤ 6) → ((t.1 71 5).toInt = 0) → ((s.1 71 2).toInt - (s.1 71 45).toInt - (s.1 71 47).toInt ≤ (t.1 71 2).toInt - (t.1 71 45).toInt - (t.1 71 47).toInt) → ((s.1 71 2).toInt ≤ (t.1 71 2).toInt) → (oqJ g fp fq cz kx b 1 t) → (oqN2 g t) → ((t.1 71 2).toInt = (t.1 71 2).toInt ∧ (t.1 71 4).toInt = (t.1 71 4).toInt) → (oqZ g t) → (oqWd t) → (oqMo fp fq t) → (oqBP t) → 1000 * (1602 - (t.1 71 2).toInt) + 400 ≤ (n : Int) → J t 69 [(0, .ref (oad E 71)), (1, .int x1)] []) ∧ (∀ (t : oS) (x1 : Int32) (x3 : Int32), (oQ b x t) → (x1.toInt = 1) → (0 ≤ (t.1 71 48).toInt ∧ (t.1 71 48).toInt ≤ 6) → ((t.1 71 5).toInt = 0 → (s.1 71 2).toInt - (s.1 71 45).toInt - (s.1 71 47).toInt + 3 ≤ (t.1 71 2).toInt - (t.1 71 45).toInt - (t.1 71 47).toInt) → ((s.1 71 2).toInt - (s.1 71 45).toInt - (s.1 71 47).toInt ≤ (t.1 71 2).toInt - (t.1 71 45).toInt - (t.1 71 47).toInt) → ((s.1 71 2).toInt ≤ (t.1 71 2).toInt) → (0 ≤ x3.toInt ∧ x3.toInt ≤ 1) → (x3.toInt = 1 → oqM g fp fq cz kx b 24 t) → (x3.toInt = 0 → oqM g fp fq cz kx b 25 t) → ((t.1 71 5).toInt = 0) → (oqZ g t) → (oqWd t) → (oqMo fp fq t) → (oqBP t) → 1000 * (1602 - (t.1 71 2).toInt) + 300 ≤ (n : Int) → J t 90 [(0, .ref (oad E 71)), (1, .int x1), (3, .int x3)] []) ∧ (∀ (t : oS) (x1 : Int32), (oQ b x t) → (x1.toInt = 1) → (0 ≤ (t.1 71 48).toInt ∧ (t.1 71 48).toInt ≤ 6) → ((t.1 71 5).toInt = 0 → (s.1 71 2).toInt - (s.1 71 45).toInt - (s.1 71 47).toInt + 2 ≤ (t.1 71 2).toInt - (t.1 71 45).toInt - (t.1 71 47).toInt) → ((s.1 71 2).toInt - (s.1 71 45).toInt - (s.1 71 47).toInt ≤ (t.1 71 2).toInt - (t.1 71 45).toInt - (t.1 71 47).toInt + 1) → ((s.1 71 2).toInt ≤ (t.1 71 2).toInt) → (oqM2 g fp fq cz kx b t) → (oqZ g t) → (oqWd t) → (oqMo fp fq t) → (oqBP t) → 1000 * (1602 - (t.1 71 2).toInt) + 200 ≤ (n : Int) → J t 132 [(0, .ref (oad E 71)), (1, .int x1)] []) ∧ (∀ (t : oS), (oQ b x t) → (0 ≤ (t.1 71 48).toInt ∧ (t.1 71 48).toInt ≤ 6) → ((t.1 71 5).toInt = 0 → (s.1 71 2).toInt - (s.1 71 45).toInt - (s.1 71 47).toInt ≤ (t.1 71 2).toInt - (t.1 71 45).toInt - (t.1 71 47).toInt) → ((s.1 71 2).toInt - (s.1 71 45).toInt - (s.1 71 47).toInt ≤ (t.1 71 2).toInt - (t.1 71 45).toInt - (t.1 71 47).toInt + 1) → ((s.1 71 2).toInt ≤ (t.1 71 2).toInt) → (oqJ g fp fq cz kx b 1 t) → ((t.1 71 5).toInt = 0 → oqN0 g t) → (oqZ g t) → (oqWd t) → (oqMo fp fq t) → (oqBP t) → 50 ≤ (n : Int) → J t 146 [(0, .ref (oad E 71))] []) := by
    intro n
    induction n using Nat.strongRecOn with
    | _ n ih =>
      refine ⟨?_, ?_, ?_, ?_, ?_⟩
      · intro t x1  iv0 iv1 iv2 iv3 iv4 iv5 iv6 iv7 iv8 iv9 iv10 iv11 iv12 hmu
        have rx1 := n_rng x1
        have hjn := oB1_nn (t.1 71 5)
        refine r_ty C (fun hty => ?_)
        have hty_coded : (0 : Int) ≤ ((t).1 71 45).toInt ∧ ((t).1 71 45).toInt ≤ 1600 := hty.1 71 45
        have hty_waits : (0 : Int) ≤ ((t).1 71 47).toInt ∧ ((t).1 71 47).toInt ≤ 1700 := hty.1 71 47
        have hty_at : (0 : Int) ≤ ((t).1 71 2).toInt ∧ ((t).1 71 2).toInt ≤ 1600 := hty.1 71 2
        clear hty
        refine r_iload_n C (j := 1) (oDec_at oX12_onePart 2 rfl) rfl rfl ?_
        refine r_if_eq C 146 (oDec_at oX12_onePart 3 rfl) (by decide) (fun cd1 => ?_) (fun cd1 => ?_)
        · skip
          refine r_pick C [0] rfl ?_
          exact (ih (n - 1) (by omega)).2.2.2.2 (t)   iv0 (by omega) (by omega) (by omega) (by omega) iv6 (by first | exact fun _ => iv7 (by omega) | (intro h9; exfalso; omega)) iv9 iv10 iv11 iv12 (by omega)
        · skip
          refine r_aload_n C (j := 0) (oDec_at oX12_onePart 4 rfl) rfl rfl ?_
          obtain ⟨v2, ev2⟩ : ∃ z : Int32, (t).1 71 5 = z := ⟨_, rfl⟩
          have gv2 : (t.1 71 5).toInt = v2.toInt := congrArg Int32.toInt (ev2)
          have rv2 := n_rng v2
          refine r_geti (k := 5) (lo := (-2147483648)) (hi := 2147483647) C v2 oCl12 rfl (by decide) flX12_173 rfl rfl (ev2) rfl rfl (oDec_at oX12_onePart 5 rfl) (fun _ _ => ?_)
          refine r_if_ne C 146 (oDec_at oX12_onePart 6 rfl) (by decide) (fun cd3 => ?_) (fun cd3 => ?_)
          · skip
            have lk4 : ((t).1 71 5).toInt = v2.toInt := congrArg Int32.toInt (ev2)
            refine r_pick C [0] rfl ?_
            exact (ih (n - 1) (by omega)).2.2.2.2 (t)   iv0 (by omega) (by omega) (by omega) (by omega) iv6 (by first | exact fun _ => iv7 (by omega) | (intro h9; exfalso; omega)) iv9 iv10 iv11 iv12 (by omega)
          · skip
            have hj0 := oB1_0 (x := t.1 71 5) (by omega)
            refine r_aload_n C (j := 0) (oDec_at oX12_onePart 7 rfl) rfl rfl ?_
            obtain ⟨A, hA⟩ : ∃ z : Int, z = ((t).1 71 2).toInt := ⟨_, rfl⟩
            refine r_callVi C oCl12 rfl miX12_look mlX12_185 (ct4_X12_look l E (t)  (g) (A) (by omega) iv9) (by decide) rfl rfl rfl (Nat.le_of_ble_eq_true rfl) (oDec_at oX12_onePart 8 rfl) (fun r6 u5 pu5 fu5 => ?_)
            try dsimp only at pu5
            obtain ⟨pu5_0, pu5_1, pu5_2, pu5_3, pu5_4, pu5_5⟩ := pu5
            have rr6 := n_rng r6
            have hsk : oqSk g ((u5).1 71 2).toInt = ((u5).1 71 2).toInt := by rw [show ((u5).1 71 2).toInt = oqSk g A by omega]; exact oqSk_sk pu5_3
            have hgA : g ((u5).1 71 2).toInt = r6.toInt := by rw [show ((u5).1 71 2).toInt = oqSk g A by omega]; omega
            have hq7 : oqJ g fp fq cz kx b 1 (u5) := oqJ_id iv6 (oFr_row fu5 (c := 103) rfl rfl) (congrArg Int32.toInt (fu5 71 5 rfl).1) (congrArg Int32.toInt (fu5 71 47 rfl).1) (by rw [show ((u5).1 71 2).toInt = oqSk g A by omega, ← hA]; exact oqSk_sk pu5_3) (congrArg Int32.toInt (fu5 71 4 rfl).1) (congrArg Int32.toInt (fu5 71 48 rfl).1) (congrArg Int32.toInt (fu5 71 6 rfl).1)
            refine r_istore_n C (lv' := [(0, .ref (oad E 71)), (1, .int x1), (2, .int r6)]) [1, 2, 0] (oDec_at oX12_onePart 9 rfl) rfl (by decide) rfl ?_
            refine r_iload_n C (j := 2) (oDec_at oX12_onePart 10 rfl) rfl rfl ?_
            refine r_bipush C (oDec_at oX12_onePart 11 rfl) (v := k40) (by rw [qk40]; rfl) ?_
            refine r_icmp_ne C 47 (oDec_at oX12_onePart 12 rfl) (by decide) (fun cd8 => ?_) (fun cd8 => ?_)
            · skip
              have lk9 : ((u5).1 71 4).toInt = (t.1 71 4).toInt := congrArg Int32.toInt ((fu5 71 4 rfl).1)
              obtain ⟨A1, hA1⟩ : ∃ z : Int, z = ((u5).1 71 2).toInt := ⟨_, rfl⟩
              obtain ⟨E1, hE1⟩ : ∃ z : Int, z = ((u5).1 71 4).toInt := ⟨_, rfl⟩
              have hskA : oqSk g A1 = A1 := by rw [hA1]; exact hsk
              have hgA1 : g A1 = g ((u5).1 71 2).toInt := by rw [hA1]
              refine r_aload_n C (j := 0) (oDec_at oX12_onePart 25 rfl) rfl rfl ?_
              refine r_aload_n C (j := 0) (oDec_at oX12_onePart 26 rfl) rfl rfl ?_
              refine r_getF (k := 34) (b := 97) C oCl12 rfl (by decide) flX12_90 rfl rfl rfl (oDec_at oX12_onePart 27 rfl) ?_
              have lk10 : ((u5).1 71 4).toInt = (t.1 71 4).toInt := congrArg Int32.toInt ((fu5 71 4 rfl).1)
              have lk11 : ((u5).1 71 5).toInt = v2.toInt := congrArg Int32.toInt (((fu5 71 5 rfl).1).trans (ev2))
              refine r_callVi C oCl12 rfl miX12_isHere mlX12_196 (ct4_X12_isHere l E (u5) 97 73 3 rfl (by decide) (by decide) rfl rfl (g) (A1) (E1) (24) (by omega) (by omega) (oqZ_fr fu5 rfl iv9) (by omega) (by omega) rfl (oqWd_at (oqWd_fr fu5 rfl iv10) 24 (by decide)) (by omega)) (by decide) rfl rfl rfl (Nat.le_of_ble_eq_true rfl) (oDec_at oX12_onePart 28 rfl) (fun r13 u12 pu12 fu12 => ?_)
              try dsimp only at pu12
              try simp only [lk10, lk11] at pu12
              obtain ⟨pu12_0, pu12_1, pu12_2, pu12_3, pu12_4, pu12_5, pu12_6⟩ := pu12
              have rr13 := n_rng r13
              have hq14 : oqJ g fp fq cz kx b 1 (u12) := oqJ_id hq7 (oFr_row fu12 (c := 103) rfl rfl) (congrArg Int32.toInt (fu12 71 5 rfl).1) (congrArg Int32.toInt (fu12 71 47 rfl).1) (by rw [show ((u12).1 71 2).toInt = ((u5).1 71 2).toInt by omega]) (congrArg Int32.toInt (fu12 71 4 rfl).1) (congrArg Int32.toInt (fu12 71 48 rfl).1) (congrArg Int32.toInt (fu12 71 6 rfl).1)
              refine r_if_ne C 69 (oDec_at oX12_onePart 29 rfl) (by decide) (fun cd15 => ?_) (fun cd15 => ?_)
              · skip
                replace pu12_4 := pu12_4 (by omega)
                clear pu12_5
                replace pu12_6 := pu12_6 (by omega)
                have lk16 : ((u12).1 71 48).toInt = (t.1 71 48).toInt := congrArg Int32.toInt (((fu12 71 48 rfl).1).trans ((fu5 71 48 rfl).1))
                have lk17 : ((u12).1 71 5).toInt = v2.toInt := congrArg Int32.toInt (((fu12 71 5 rfl).1).trans (((fu5 71 5 rfl).1).trans (ev2)))
                have lk18 : ((u12).1 71 45).toInt = (t.1 71 45).toInt := congrArg Int32.toInt (((fu12 71 45 rfl).1).trans ((fu5 71 45 rfl).1))
                have lk19 : ((u12).1 71 47).toInt = (t.1 71 47).toInt := congrArg Int32.toInt (((fu12 71 47 rfl).1).trans ((fu5 71 47 rfl).1))
                have lk20 : ((u12).1 71 4).toInt = (t.1 71 4).toInt := congrArg Int32.toInt (((fu12 71 4 rfl).1).trans ((fu5 71 4 rfl).1))
                refine r_pick C [0, 1] rfl ?_
                exact (ih (n - 1) (by omega)).2.1 (u12) x1  (oQ_fr fu12 rfl (oQ_fr fu5 rfl iv0)) (by omega) (by omega) (by omega) (by omega) (by omega) hq14 (by exact oqN2_of (A := A1) (E := E1) (by omega) (by omega) hskA (by omega) (by first | (left; omega) | (right; omega))) (by omega) (oqZ_fr fu12 rfl (oqZ_fr fu5 rfl iv9)) (oqWd_fr fu12 rfl (oqWd_fr fu5 rfl iv10)) (oqMo_fr fu12 rfl (oqMo_fr fu5 rfl iv11)) (oqBP_fr fu12 rfl (oqBP_fr fu5 rfl iv12)) (by omega)
              · skip
                clear pu12_4
                replace pu12_5 := pu12_5 (by omega)
                clear pu12_6
                have hz24 := oqWi_w (g := g) (A := A1) (E := E1) (i := 24) (by decide) (by omega)
                refine r_aload_n C (j := 0) (oDec_at oX12_onePart 30 rfl) rfl rfl ?_
                refine r_aload_n C (j := 0) (oDec_at oX12_onePart 31 rfl) rfl rfl ?_
                refine r_getF (k := 35) (b := 98) C oCl12 rfl (by decide) flX12_93 rfl rfl rfl (oDec_at oX12_onePart 32 rfl) ?_
                have lk21 : ((u12).1 71 4).toInt = (t.1 71 4).toInt := congrArg Int32.toInt (((fu12 71 4 rfl).1).trans ((fu5 71 4 rfl).1))
                have lk22 : ((u12).1 71 5).toInt = v2.toInt := congrArg Int32.toInt (((fu12 71 5 rfl).1).trans (((fu5 71 5 rfl).1).trans (ev2)))
                refine r_callVi C oCl12 rfl miX12_isHere mlX12_196 (ct4_X12_isHere l E (u12) 98 74 3 rfl (by decide) (by decide) rfl rfl (g) (A1) (E1) (25) (by omega) (by omega) (oqZ_fr fu12 rfl (oqZ_fr fu5 rfl iv9)) (by omega) (by omega) rfl (oqWd_at (oqWd_fr fu12 rfl (oqWd_fr fu5 rfl iv10)) 25 (by decide)) (by omega)) (by decide) rfl rfl rfl (Nat.le_of_ble_eq_true rfl) (oDec_at oX12_onePart 33 rfl) (fun r24 u23 pu23 fu23 => ?_)
                try dsimp only at pu23
                try simp only [lk21, lk22] at pu23
                obtain ⟨pu23_0, pu23_1, pu23_2, pu23_3, pu23_4, pu23_5, pu23_6⟩ := pu23
                have rr24 := n_rng r24
                have hq25 : oqJ g fp fq cz kx b 1 (u23) := oqJ_id hq14 (oFr_row fu23 (c := 103) rfl rfl) (congrArg Int32.toInt (fu23 71 5 rfl).1) (congrArg Int32.toInt (fu23 71 47 rfl).1) (by rw [show ((u23).1 71 2).toInt = ((u12).1 71 2).toInt by omega]) (congrArg Int32.toInt (fu23 71 4 rfl).1) (congrArg Int32.toInt (fu23 71 48 rfl).1) (congrArg Int32.toInt (fu23 71 6 rfl).1)
                refine r_if_eq C 141 (oDec_at oX12_onePart 34 rfl) (by decide) (fun cd26 => ?_) (fun cd26 => ?_)
                · skip
                  clear pu23_4
                  replace pu23_5 := pu23_5 (by omega)
                  clear pu23_6
                  have hz25 := oqWi_w (g := g) (A := A1) (E := E1) (i := 25) (by decide) (by omega)
                  refine r_iconst C (oDec_at oX12_onePart 70 rfl) (v := k0) (by rw [qk0]; rfl) ?_
                  refine r_istore_n C (lv' := [(0, .ref (oad E 71)), (1, .int k0), (2, .int r6)]) [1, 0, 2] (oDec_at oX12_onePart 71 rfl) rfl (by decide) rfl ?_
                  refine r_goto C (tgt := 2) (oDec_at oX12_onePart 72 rfl) (by decide) ?_
                  have lk27 : ((u23).1 71 48).toInt = (t.1 71 48).toInt := congrArg Int32.toInt (((fu23 71 48 rfl).1).trans (((fu12 71 48 rfl).1).trans ((fu5 71 48 rfl).1)))
                  have lk28 : ((u23).1 71 5).toInt = v2.toInt := congrArg Int32.toInt (((fu23 71 5 rfl).1).trans (((fu12 71 5 rfl).1).trans (((fu5 71 5 rfl).1).trans (ev2))))
                  have lk29 : ((u23).1 71 45).toInt = (t.1 71 45).toInt := congrArg Int32.toInt (((fu23 71 45 rfl).1).trans (((fu12 71 45 rfl).1).trans ((fu5 71 45 rfl).1)))
                  have lk30 : ((u23).1 71 47).toInt = (t.1 71 47).toInt := congrArg Int32.toInt (((fu23 71 47 rfl).1).trans (((fu12 71 47 rfl).1).trans ((fu5 71 47 rfl).1)))
                  have lk31 : ((u23).1 71 45).toInt = (t.1 71 45).toInt := congrArg Int32.toInt (((fu23 71 45 rfl).1).trans (((fu12 71 45 rfl).1).trans ((fu5 71 45 rfl).1)))
                  have lk32 : ((u23).1 71 47).toInt = (t.1 71 47).toInt := congrArg Int32.toInt (((fu23 71 47 rfl).1).trans (((fu12 71 47 rfl).1).trans ((fu5 71 47 rfl).1)))
                  have lk33 : ((u23).1 71 4).toInt = (t.1 71 4).toInt := congrArg Int32.toInt (((fu23 71 4 rfl).1).trans (((fu12 71 4 rfl).1).trans ((fu5 71 4 rfl).1)))
                  have hj := oB1_f ((u23).1 71 5)
                  refine r_pick C [0, 1] rfl ?_
                  exact (ih (n - 1) (by omega)).1 (u23) k0  (oQ_fr fu23 rfl (oQ_fr fu12 rfl (oQ_fr fu5 rfl iv0))) (by omega) (by omega) (by omega) (by omega) (by omega) hq25 (by first | (intro h9; exfalso; omega) | exact fun _ => oqN0_of (A := A1) (E := E1) (by omega) (by omega) hskA (by omega) hz24 hz25) (by omega) (oqZ_fr fu23 rfl (oqZ_fr fu12 rfl (oqZ_fr fu5 rfl iv9))) (oqWd_fr fu23 rfl (oqWd_fr fu12 rfl (oqWd_fr fu5 rfl iv10))) (oqMo_fr fu23 rfl (oqMo_fr fu12 rfl (oqMo_fr fu5 rfl iv11))) (oqBP_fr fu23 rfl (oqBP_fr fu12 rfl (oqBP_fr fu5 rfl iv12))) (by omega)
                · skip
                  replace pu23_4 := pu23_4 (by omega)
                  clear pu23_5
                  replace pu23_6 := pu23_6 (by omega)
                  have lk34 : ((u23).1 71 48).toInt = (t.1 71 48).toInt := congrArg Int32.toInt (((fu23 71 48 rfl).1).trans (((fu12 71 48 rfl).1).trans ((fu5 71 48 rfl).1)))
                  have lk35 : ((u23).1 71 5).toInt = v2.toInt := congrArg Int32.toInt (((fu23 71 5 rfl).1).trans (((fu12 71 5 rfl).1).trans (((fu5 71 5 rfl).1).trans (ev2))))
                  have lk36 : ((u23).1 71 45).toInt = (t.1 71 45).toInt := congrArg Int32.toInt (((fu23 71 45 rfl).1).trans (((fu12 71 45 rfl).1).trans ((fu5 71 45 rfl).1)))
                  have lk37 : ((u23).1 71 47).toInt = (t.1 71 47).toInt := congrArg Int32.toInt (((fu23 71 47 rfl).1).trans (((fu12 71 47 rfl).1).trans ((fu5 71 47 rfl).1)))
                  have lk38 : ((u23).1 71 4).toInt = (t.1 71 4).toInt := congrArg Int32.toInt (((fu23 71 4 rfl).1).trans (((fu12 71 4 rfl).1).trans ((fu5 71 4 rfl).1)))
                  refine r_pick C [0, 1] rfl ?_
                  exact (ih (n - 1) (by omega)).2.1 (u23) x1  (oQ_fr fu23 rfl (oQ_fr fu12 rfl (oQ_fr fu5 rfl iv0))) (by omega) (by omega) (by omega) (by omega) (by omega) hq25 (by exact oqN2_of (A := A1) (E := E1) (by omega) (by omega) hskA (by omega) (by first | (left; omega) | (right; omega))) (by omega) (oqZ_fr fu23 rfl (oqZ_fr fu12 rfl (oqZ_fr fu5 rfl iv9))) (oqWd_fr fu23 rfl (oqWd_fr fu12 rfl (oqWd_fr fu5 rfl iv10))) (oqMo_fr fu23 rfl (oqMo_fr fu12 rfl (oqMo_fr fu5 rfl iv11))) (oqBP_fr fu23 rfl (oqBP_fr fu12 rfl (oqBP_fr fu5 rfl iv12))) (by omega)
            · skip
              refine r_aload_n C (j := 0) (oDec_at oX12_onePart 13 rfl) rfl rfl ?_
              refine r_bipush C (oDec_at oX12_onePart 14 rfl) (v := k20) (by rw [qk20]; rfl) ?_
              refine r_aload_n C (j := 0) (oDec_at oX12_onePart 15 rfl) rfl rfl ?_
              obtain ⟨v39, ev39⟩ : ∃ z : Int32, (u5).1 71 2 = z := ⟨_, rfl⟩
              have gv39 : (u5.1 71 2).toInt = v39.toInt := congrArg Int32.toInt (ev39)
              refine r_geti (k := 2) (lo := 0) (hi := 1600) C v39 oCl12 rfl (by decide) flX12_179 rfl rfl (ev39) rfl rfl (oDec_at oX12_onePart 16 rfl) (fun b40 b40h => ?_)
              have lk41 : ((u5).1 71 47).toInt = (t.1 71 47).toInt := congrArg Int32.toInt ((fu5 71 47 rfl).1)
              have lk42 : ((u5).1 71 2).toInt = v39.toInt := congrArg Int32.toInt (ev39)
              have lk43 : ((u5).1 71 4).toInt = (t.1 71 4).toInt := congrArg Int32.toInt ((fu5 71 4 rfl).1)
              have lk44 : ((u5).1 71 5).toInt = v2.toInt := congrArg Int32.toInt (((fu5 71 5 rfl).1).trans (ev2))
              have lk45 : ((u5).1 71 48).toInt = (t.1 71 48).toInt := congrArg Int32.toInt ((fu5 71 48 rfl).1)
              have lk46 : ((u5).1 71 47).toInt = (t.1 71 47).toInt := congrArg Int32.toInt ((fu5 71 47 rfl).1)
              have lk47 : ((u5).1 71 48).toInt = (t.1 71 48).toInt := congrArg Int32.toInt ((fu5 71 48 rfl).1)
              have lk48 : ((u5).1 71 5).toInt = v2.toInt := congrArg Int32.toInt (((fu5 71 5 rfl).1).trans (ev2))
              have lk49 : ((u5).1 71 48).toInt = (t.1 71 48).toInt := congrArg Int32.toInt ((fu5 71 48 rfl).1)
              have lk50 : ((u5).1 71 47).toInt = (t.1 71 47).toInt := congrArg Int32.toInt ((fu5 71 47 rfl).1)
              refine r_callVv C oCl12 rfl miX12_opens mlX12_292 (ct7_X12_opens l E (u5) k20 v39 (by omega) (by omega) (by omega) (oqBP_fr fu5 rfl iv12)) (by decide) rfl rfl rfl (Nat.le_of_ble_eq_true rfl) (oDec_at oX12_onePart 17 rfl) (fun u51 pu51 fu51 => ?_)
              try dsimp only at pu51
              try simp only [lk46, lk47, lk48, lk49, lk50] at pu51
              obtain ⟨pu51_0, pu51_1, pu51_2⟩ := pu51
              have lk53 : ((u51).1 71 2).toInt = v39.toInt := congrArg Int32.toInt (((fu51 71 2 rfl).1).trans (ev39))
              have lk54 : ((u51).1 71 4).toInt = (t.1 71 4).toInt := congrArg Int32.toInt (((fu51 71 4 rfl).1).trans ((fu5 71 4 rfl).1))
              have hq55 : oQ b x (u51) := oQ_opens fu51 rfl (oQ_fr fu5 rfl iv0) pu51_1 (by omega) (by omega) (by omega)
              refine r_aload_n C (j := 0) (oDec_at oX12_onePart 18 rfl) rfl rfl ?_
              refine r_pc C 35 rfl ?_
              refine r_dup C (oDec_at oX12_onePart 19 rfl) rfl ?_
              refine r_geti (k := 2) (lo := 0) (hi := 1600) C v39 oCl12 rfl (by decide) flX12_179 rfl rfl (((fu51 71 2 rfl).1).trans (ev39)) rfl rfl (oDec_at oX12_onePart 20 rfl) (fun _ _ => ?_)
              refine r_iconst C (oDec_at oX12_onePart 21 rfl) (v := k1) (by rw [qk1]; rfl) ?_
              obtain ⟨v56, ev56⟩ : ∃ z : Int32, z = v39 + k1 := ⟨_, rfl⟩
              have hv56 : v56.toInt = v39.toInt + k1.toInt := n_add ev56 (by omega) (by omega)
              refine r_iadd C v56 (oDec_at oX12_onePart 22 rfl) ev56 ?_
              refine r_puti (k := 2) (lo := 0) (hi := 1600) C oCl12 rfl (by decide) flX12_179 rfl rfl rfl rfl rfl rfl rfl rfl ⟨by omega, by omega⟩ (oDec_at oX12_onePart 23 rfl) ?_
              have hq57 : oqJ g fp fq cz kx b 1 ((pI u51 71 2 v56)) := oqJ_par hq7 (by omega) pu51_1 (by omega) hsk (by omega) (by omega) (by omega) (by omega) (by omega)
              refine r_goto C (tgt := 143) (oDec_at oX12_onePart 24 rfl) (by decide) ?_
              refine r_goto C (tgt := 2) (oDec_at oX12_onePart 72 rfl) (by decide) ?_
              have lk58 : (((pI u51 71 2 v56)).1 71 48).toInt = (u51.1 71 48).toInt := congrArg Int32.toInt ((pI_ne (a := 71) (b := 48) (c := 71) (k := 2) _ _ (Or.inr (by decide))))
              have lk59 : (((pI u51 71 2 v56)).1 71 5).toInt = (u51.1 71 5).toInt := congrArg Int32.toInt ((pI_ne (a := 71) (b := 5) (c := 71) (k := 2) _ _ (Or.inr (by decide))))
              have lk60 : (((pI u51 71 2 v56)).1 71 2).toInt = v56.toInt := congrArg Int32.toInt ((pI_self _ _ _ _))
              have lk61 : (((pI u51 71 2 v56)).1 71 45).toInt = (t.1 71 45).toInt := congrArg Int32.toInt (((pI_ne (a := 71) (b := 45) (c := 71) (k := 2) _ _ (Or.inr (by decide)))).trans (((fu51 71 45 rfl).1).trans ((fu5 71 45 rfl).1)))
              have lk62 : (((pI u51 71 2 v56)).1 71 47).toInt = (u51.1 71 47).toInt := congrArg Int32.toInt ((pI_ne (a := 71) (b := 47) (c := 71) (k := 2) _ _ (Or.inr (by decide))))
              have lk63 : (((pI u51 71 2 v56)).1 71 2).toInt = v56.toInt := congrArg Int32.toInt ((pI_self _ _ _ _))
              have lk64 : (((pI u51 71 2 v56)).1 71 45).toInt = (t.1 71 45).toInt := congrArg Int32.toInt (((pI_ne (a := 71) (b := 45) (c := 71) (k := 2) _ _ (Or.inr (by decide)))).trans (((fu51 71 45 rfl).1).trans ((fu5 71 45 rfl).1)))
              have lk65 : (((pI u51 71 2 v56)).1 71 47).toInt = (u51.1 71 47).toInt := congrArg Int32.toInt ((pI_ne (a := 71) (b := 47) (c := 71) (k := 2) _ _ (Or.inr (by decide))))
              have lk66 : (((pI u51 71 2 v56)).1 71 2).toInt = v56.toInt := congrArg Int32.toInt ((pI_self _ _ _ _))
              have lk67 : (((pI u51 71 2 v56)).1 71 2).toInt = v56.toInt := congrArg Int32.toInt ((pI_self _ _ _ _))
              have lk68 : (((pI u51 71 2 v56)).1 71 4).toInt = (t.1 71 4).toInt := congrArg Int32.toInt (((pI_ne (a := 71) (b := 4) (c := 71) (k := 2) _ _ (Or.inr (by decide)))).trans (((fu51 71 4 rfl).1).trans ((fu5 71 4 rfl).1)))
              have lk69 : (((pI u51 71 2 v56)).1 71 2).toInt = v56.toInt := congrArg Int32.toInt ((pI_self _ _ _ _))
              have hj := oB1_f (((pI u51 71 2 v56)).1 71 5)
              refine r_pick C [0, 1] rfl ?_
              exact (ih (n - 1) (by omega)).1 ((pI u51 71 2 v56)) x1  (oQ_fr (oFr_oneI (q := 12) (m := 2) rfl (by rfl)) rfl hq55) (by omega) (by omega) (by omega) (by omega) (by omega) hq57 (by first | (intro h9; exfalso; omega) | exact fun _ => oqN0_of (A := A1) (E := E1) (by omega) (by omega) hskA (by omega) hz24 hz25) (by omega) (oqZ_fr (oFr_oneI (q := 12) (m := 2) rfl (by rfl)) rfl (oqZ_fr fu51 rfl (oqZ_fr fu5 rfl iv9))) (oqWd_fr (oFr_oneI (q := 12) (m := 2) rfl (by rfl)) rfl (oqWd_fr fu51 rfl (oqWd_fr fu5 rfl iv10))) (oqMo_fr (oFr_oneI (q := 12) (m := 2) rfl (by rfl)) rfl (oqMo_fr fu51 rfl (oqMo_fr fu5 rfl iv11))) (oqBP_fr (oFr_oneI (q := 12) (m := 2) rfl (by rfl)) rfl pu51_2) (by omega)
      · intro t x1  iv0 iv1 iv2 iv3 iv4 iv5 iv6 iv7 iv8 iv9 iv10 iv11 iv12 hmu
        have rx1 := n_rng x1
        refine r_ty C (fun hty => ?_)
        have hty_coded : (0 : Int) ≤ ((t).1 71 45).toInt ∧ ((t).1 71 45).toInt ≤ 1600 := hty.1 71 45
        have hty_waits : (0 : Int) ≤ ((t).1 71 47).toInt ∧ ((t).1 71 47).toInt ≤ 1700 := hty.1 71 47
        have hty_at : (0 : Int) ≤ ((t).1 71 2).toInt ∧ ((t).1 71 2).toInt ≤ 1600 := hty.1 71 2
        clear hty
        obtain ⟨hn1, hn2, hn3⟩ := iv7
        have hHa24 : oqHa g (t.1 71 2).toInt 24 = oqSk g (t.1 71 2).toInt + (oqWl 24 : Int) := rfl
        have hHa25 : oqHa g (t.1 71 2).toInt 25 = oqSk g (t.1 71 2).toInt + (oqWl 25 : Int) := rfl
        have hl24 : oqWl 24 = 3 := rfl
        have hl25 : oqWl 25 = 3 := rfl
        refine r_aload_n C (j := 0) (oDec_at oX12_onePart 35 rfl) rfl rfl ?_
        refine r_aload_n C (j := 0) (oDec_at oX12_onePart 36 rfl) rfl rfl ?_
        refine r_getF (k := 34) (b := 97) C oCl12 rfl (by decide) flX12_90 rfl rfl rfl (oDec_at oX12_onePart 37 rfl) ?_
        refine r_callVi C oCl12 rfl miX12_takes mlX12_200 (ct6_X12_takes l E (t) 97 73 3 rfl (by decide) (by decide) rfl rfl (g) ((t.1 71 2).toInt) ((t.1 71 4).toInt) (24) (by omega) (by omega) iv9 (by omega) (by omega) rfl (oqWd_at iv10 24 (by decide)) (by omega)) (by decide) rfl rfl rfl (Nat.le_of_ble_eq_true rfl) (oDec_at oX12_onePart 38 rfl) (fun r71 u70 pu70 fu70 => ?_)
        try dsimp only at pu70
        obtain ⟨pu70_0, pu70_1, pu70_2, pu70_3, pu70_4⟩ := pu70
        have rr71 := n_rng r71
        refine r_istore_n C (lv' := [(0, .ref (oad E 71)), (1, .int x1), (3, .int r71)]) [1, 2, 0] (oDec_at oX12_onePart 39 rfl) rfl (by decide) rfl ?_
        refine r_iload_n C (j := 2) (oDec_at oX12_onePart 40 rfl) rfl rfl ?_
        refine r_pc C 79 rfl ?_
        refine r_if_ne C 90 (oDec_at oX12_onePart 41 rfl) (by decide) (fun cd72 => ?_) (fun cd72 => ?_)
        · skip
          replace pu70_1 := pu70_1 (by omega)
          clear pu70_2
          have lk73 : ((u70).1 71 48).toInt = (t.1 71 48).toInt := congrArg Int32.toInt ((fu70 71 48 rfl).1)
          have lk74 : ((u70).1 71 5).toInt = (t.1 71 5).toInt := congrArg Int32.toInt ((fu70 71 5 rfl).1)
          have lk75 : ((u70).1 71 45).toInt = (t.1 71 45).toInt := congrArg Int32.toInt ((fu70 71 45 rfl).1)
          have lk76 : ((u70).1 71 47).toInt = (t.1 71 47).toInt := congrArg Int32.toInt ((fu70 71 47 rfl).1)
          have lk77 : ((u70).1 71 45).toInt = (t.1 71 45).toInt := congrArg Int32.toInt ((fu70 71 45 rfl).1)
          have lk78 : ((u70).1 71 47).toInt = (t.1 71 47).toInt := congrArg Int32.toInt ((fu70 71 47 rfl).1)
          have lk79 : ((u70).1 71 5).toInt = (t.1 71 5).toInt := congrArg Int32.toInt ((fu70 71 5 rfl).1)
          exact (ih (n - 1) (by omega)).2.2.1 (u70) x1 r71  (oQ_fr fu70 rfl iv0) (by omega) (by omega) (by omega) (by omega) (by omega) (by omega) (by first | exact fun _ => oqM_of (s := t) iv6 (by omega) (oFr_row fu70 (c := 103) rfl rfl) (congrArg Int32.toInt (fu70 71 47 rfl).1) (congrArg Int32.toInt (fu70 71 48 rfl).1) (by omega) (by omega) (oqWi_y (i := 24) (by decide) (by omega)) (by omega) (by omega) | (intro h; exfalso; omega)) (by first | (intro h; exfalso; omega) | exact fun _ => oqM_of (s := t) iv6 (by omega) ((oFr_row fu70 (c := 103) rfl rfl).trans (oFr_row fu70 (c := 103) rfl rfl)) ((congrArg Int32.toInt (fu70 71 47 rfl).1).trans (congrArg Int32.toInt (fu70 71 47 rfl).1)) ((congrArg Int32.toInt (fu70 71 48 rfl).1).trans (congrArg Int32.toInt (fu70 71 48 rfl).1)) (by omega) (by omega) hW25 (by omega) (by omega)) (by omega) (oqZ_fr fu70 rfl iv9) (oqWd_fr fu70 rfl iv10) (oqMo_fr fu70 rfl iv11) (oqBP_fr fu70 rfl iv12) (by omega)
        · skip
          clear pu70_1
          replace pu70_2 := pu70_2 (by omega)
          have hW25 : oqWi g (t.1 71 2).toInt (t.1 71 4).toInt = 25 := by (rcases hn3 with h9 | h9; exact absurd h9 (oqWi_w (i := 24) (by decide) (by omega)); exact h9)
          have hH25 := (oqWi_is (g := g) (a := (t.1 71 2).toInt) (b := (t.1 71 4).toInt) (i := 25) (by decide)).mp hW25
          clear hn3
          refine r_aload_n C (j := 0) (oDec_at oX12_onePart 42 rfl) rfl rfl ?_
          refine r_aload_n C (j := 0) (oDec_at oX12_onePart 43 rfl) rfl rfl ?_
          refine r_getF (k := 35) (b := 98) C oCl12 rfl (by decide) flX12_93 rfl rfl rfl (oDec_at oX12_onePart 44 rfl) ?_
          have lk80 : ((u70).1 71 5).toInt = (t.1 71 5).toInt := congrArg Int32.toInt ((fu70 71 5 rfl).1)
          have lk81 : ((u70).1 71 5).toInt = (t.1 71 5).toInt := congrArg Int32.toInt ((fu70 71 5 rfl).1)
          have lk82 : ((u70).1 71 6).toInt = (t.1 71 6).toInt := congrArg Int32.toInt ((fu70 71 6 rfl).1)
          have lk83 : ((u70).1 71 5).toInt = (t.1 71 5).toInt := congrArg Int32.toInt ((fu70 71 5 rfl).1)
          have lk84 : ((u70).1 71 6).toInt = (t.1 71 6).toInt := congrArg Int32.toInt ((fu70 71 6 rfl).1)
          refine r_callVv C oCl12 rfl miX12_asks mlX12_240 (ct7_X12_asks l E (u70) 98 74 3 rfl (by decide) (by decide) rfl rfl (g) ((t.1 71 2).toInt) ((t.1 71 4).toInt) (25) (by omega) (oqZ_fr fu70 rfl iv9) (by omega) rfl (oqWd_at (oqWd_fr fu70 rfl iv10) 25 (by decide)) (by omega) (oqBP_fr fu70 rfl iv12)) (by decide) rfl rfl rfl (Nat.le_of_ble_eq_true rfl) (oDec_at oX12_onePart 45 rfl) (fun u85 pu85 fu85 => ?_)
          try dsimp only at pu85
          try simp only [lk80, lk81, lk82, lk83, lk84] at pu85
          obtain ⟨pu85_0, pu85_1, pu85_2, pu85_3⟩ := pu85
          have lk87 : ((u85).1 71 48).toInt = (t.1 71 48).toInt := congrArg Int32.toInt (((fu85 71 48 rfl).1).trans ((fu70 71 48 rfl).1))
          have lk88 : ((u85).1 71 45).toInt = (t.1 71 45).toInt := congrArg Int32.toInt (((fu85 71 45 rfl).1).trans ((fu70 71 45 rfl).1))
          have lk89 : ((u85).1 71 47).toInt = (t.1 71 47).toInt := congrArg Int32.toInt (((fu85 71 47 rfl).1).trans ((fu70 71 47 rfl).1))
          have lk90 : ((u85).1 71 45).toInt = (t.1 71 45).toInt := congrArg Int32.toInt (((fu85 71 45 rfl).1).trans ((fu70 71 45 rfl).1))
          have lk91 : ((u85).1 71 47).toInt = (t.1 71 47).toInt := congrArg Int32.toInt (((fu85 71 47 rfl).1).trans ((fu70 71 47 rfl).1))
          exact (ih (n - 1) (by omega)).2.2.1 (u85) x1 r71  (oQ_frb fu85 rfl (by omega) (oQ_fr fu70 rfl iv0)) (by omega) (by omega) (by omega) (by omega) (by omega) (by omega) (by first | exact fun _ => oqM_of (s := t) iv6 (by omega) (oFr_row fu70 (c := 103) rfl rfl) (congrArg Int32.toInt (fu70 71 47 rfl).1) (congrArg Int32.toInt (fu70 71 48 rfl).1) (by omega) (by omega) (oqWi_y (i := 24) (by decide) (by omega)) (by omega) (by omega) | (intro h; exfalso; omega)) (by first | (intro h; exfalso; omega) | exact fun _ => oqM_of (s := t) iv6 (by omega) ((oFr_row fu85 (c := 103) rfl rfl).trans (oFr_row fu70 (c := 103) rfl rfl)) ((congrArg Int32.toInt (fu85 71 47 rfl).1).trans (congrArg Int32.toInt (fu70 71 47 rfl).1)) ((congrArg Int32.toInt (fu85 71 48 rfl).1).trans (congrArg Int32.toInt (fu70 71 48 rfl).1)) (by omega) (by omega) hW25 (by omega) (by omega)) (by omega) (oqZ_fr fu85 rfl (oqZ_fr fu70 rfl iv9)) (oqWd_fr fu85 rfl (oqWd_fr fu70 rfl iv10)) (oqMo_fr fu85 rfl (oqMo_fr fu70 rfl iv11)) pu85_3 (by omega)
      · intro t x1 x3  iv0 iv1 iv2 iv3 iv4 iv5 iv6 iv7 iv8 iv9 iv10 iv11 iv12 iv13 hmu
        have rx1 := n_rng x1
        have rx3 := n_rng x3
        refine r_ty C (fun hty => ?_)
        have hty_coded : (0 : Int) ≤ ((t).1 71 45).toInt ∧ ((t).1 71 45).toInt ≤ 1600 := hty.1 71 45
        have hty_waits : (0 : Int) ≤ ((t).1 71 47).toInt ∧ ((t).1 71 47).toInt ≤ 1700 := hty.1 71 47
        have hty_at : (0 : Int) ≤ ((t).1 71 2).toInt ∧ ((t).1 71 2).toInt ≤ 1600 := hty.1 71 2
        clear hty
        refine r_aload_n C (j := 0) (oDec_at oX12_onePart 46 rfl) rfl rfl ?_
        refine r_callVi C oCl12 rfl miX12_look mlX12_185 (ct4_X12_look l E (t)  (g) ((t.1 71 2).toInt) (by omega) iv10) (by decide) rfl rfl rfl (Nat.le_of_ble_eq_true rfl) (oDec_at oX12_onePart 47 rfl) (fun r93 u92 pu92 fu92 => ?_)
        try dsimp only at pu92
        obtain ⟨pu92_0, pu92_1, pu92_2, pu92_3, pu92_4, pu92_5⟩ := pu92
        have rr93 := n_rng r93
        have lk94 : ((u92).1 71 4).toInt = (t.1 71 4).toInt := congrArg Int32.toInt ((fu92 71 4 rfl).1)
        have lk95 : ((u92).1 71 5).toInt = (t.1 71 5).toInt := congrArg Int32.toInt ((fu92 71 5 rfl).1)
        have lk96 : ((u92).1 71 48).toInt = (t.1 71 48).toInt := congrArg Int32.toInt ((fu92 71 48 rfl).1)
        have lk97 : ((u92).1 71 47).toInt = (t.1 71 47).toInt := congrArg Int32.toInt ((fu92 71 47 rfl).1)
        have hsk3 : oqSk g ((u92).1 71 2).toInt = ((u92).1 71 2).toInt := by rw [show ((u92).1 71 2).toInt = oqSk g (t.1 71 2).toInt by omega]; exact oqSk_sk pu92_3
        have hg3 : g ((u92).1 71 2).toInt = r93.toInt := by rw [show ((u92).1 71 2).toInt = oqSk g (t.1 71 2).toInt by omega]; omega
        refine r_bipush C (oDec_at oX12_onePart 48 rfl) (v := k40) (by rw [qk40]; rfl) ?_
        refine r_icmp_ne C 106 (oDec_at oX12_onePart 49 rfl) (by decide) (fun cd98 => ?_) (fun cd98 => ?_)
        · skip
          refine r_iconst C (oDec_at oX12_onePart 53 rfl) (v := km1) (by rw [qkm1]; rfl) ?_
          refine r_istore C (lv' := [(0, .ref (oad E 71)), (1, .int x1), (3, .int x3), (4, .int km1)]) [1, 2, 3, 0] (oDec_at oX12_onePart 54 rfl) (by decide) rfl ?_
          refine r_iload C (j := 3) (oDec_at oX12_onePart 55 rfl) rfl ?_
          refine r_iconst C (oDec_at oX12_onePart 56 rfl) (v := km1) (by rw [qkm1]; rfl) ?_
          refine r_icmp_eq C 132 (oDec_at oX12_onePart 57 rfl) (by decide) (fun cd99 => ?_) (fun cd99 => ?_)
          · skip
            have lk100 : ((u92).1 71 48).toInt = (t.1 71 48).toInt := congrArg Int32.toInt ((fu92 71 48 rfl).1)
            have lk101 : ((u92).1 71 5).toInt = (t.1 71 5).toInt := congrArg Int32.toInt ((fu92 71 5 rfl).1)
            have lk102 : ((u92).1 71 45).toInt = (t.1 71 45).toInt := congrArg Int32.toInt ((fu92 71 45 rfl).1)
            have lk103 : ((u92).1 71 47).toInt = (t.1 71 47).toInt := congrArg Int32.toInt ((fu92 71 47 rfl).1)
            have lk104 : ((u92).1 71 45).toInt = (t.1 71 45).toInt := congrArg Int32.toInt ((fu92 71 45 rfl).1)
            have lk105 : ((u92).1 71 47).toInt = (t.1 71 47).toInt := congrArg Int32.toInt ((fu92 71 47 rfl).1)
            refine r_pick C [0, 1] rfl ?_
            exact (ih (n - 1) (by omega)).2.2.2.1 (u92) x1  (by first | exact oQ_opens fu92 rfl iv0 pu92_1 (by omega) (by omega) (by omega) | exact (oQ_fr fu92 rfl iv0)) (by omega) (by omega) (by omega) (by omega) (by omega) (by first | exact oqM_op (oqM_lk (iv7 (by omega)) (by omega) (oFr_row fu92 (c := 103) rfl rfl) (congrArg Int32.toInt (fu92 71 47 rfl).1) (congrArg Int32.toInt (fu92 71 48 rfl).1) (congrArg Int32.toInt (fu92 71 4 rfl).1) (by rw [show ((u92).1 71 2).toInt = oqSk g (t.1 71 2).toInt by omega]; exact oqSk_sk pu92_3)) (by omega) pu92_1 (Or.inl ⟨rfl, by omega⟩) hsk3 (by omega) (by omega) (by omega) (by omega) | exact oqM_op (oqM_lk (iv8 (by omega)) (by omega) (oFr_row fu92 (c := 103) rfl rfl) (congrArg Int32.toInt (fu92 71 47 rfl).1) (congrArg Int32.toInt (fu92 71 48 rfl).1) (congrArg Int32.toInt (fu92 71 4 rfl).1) (by rw [show ((u92).1 71 2).toInt = oqSk g (t.1 71 2).toInt by omega]; exact oqSk_sk pu92_3)) (by omega) pu92_1 (Or.inr ⟨rfl, by omega⟩) hsk3 (by omega) (by omega) (by omega) (by omega) | (exfalso; omega) | (rcases (show x3.toInt = 1 ∨ x3.toInt = 0 by omega) with h9 | h9; exact oqM_no (oqM_lk (iv7 (by omega)) (by omega) (oFr_row fu92 (c := 103) rfl rfl) (congrArg Int32.toInt (fu92 71 47 rfl).1) (congrArg Int32.toInt (fu92 71 48 rfl).1) (congrArg Int32.toInt (fu92 71 4 rfl).1) (by rw [show ((u92).1 71 2).toInt = oqSk g (t.1 71 2).toInt by omega]; exact oqSk_sk pu92_3)) (Or.inl rfl) (by omega) hsk3 (by omega); exact oqM_no (oqM_lk (iv8 (by omega)) (by omega) (oFr_row fu92 (c := 103) rfl rfl) (congrArg Int32.toInt (fu92 71 47 rfl).1) (congrArg Int32.toInt (fu92 71 48 rfl).1) (congrArg Int32.toInt (fu92 71 4 rfl).1) (by rw [show ((u92).1 71 2).toInt = oqSk g (t.1 71 2).toInt by omega]; exact oqSk_sk pu92_3)) (Or.inr rfl) (by omega) hsk3 (by omega))) (oqZ_fr fu92 rfl iv10) (oqWd_fr fu92 rfl iv11) (oqMo_fr fu92 rfl iv12) (oqBP_fr fu92 rfl iv13) (by omega)
          · omega
        · skip
          refine r_aload_n C (j := 0) (oDec_at oX12_onePart 50 rfl) rfl rfl ?_
          obtain ⟨v106, ev106⟩ : ∃ z : Int32, (u92).1 71 2 = z := ⟨_, rfl⟩
          have gv106 : (u92.1 71 2).toInt = v106.toInt := congrArg Int32.toInt (ev106)
          refine r_geti (k := 2) (lo := 0) (hi := 1600) C v106 oCl12 rfl (by decide) flX12_179 rfl rfl (ev106) rfl rfl (oDec_at oX12_onePart 51 rfl) (fun b107 b107h => ?_)
          refine r_goto C (tgt := 107) (oDec_at oX12_onePart 52 rfl) (by decide) ?_
          refine r_istore C (lv' := [(0, .ref (oad E 71)), (1, .int x1), (3, .int x3), (4, .int v106)]) [1, 2, 3, 0] (oDec_at oX12_onePart 54 rfl) (by decide) rfl ?_
          refine r_iload C (j := 3) (oDec_at oX12_onePart 55 rfl) rfl ?_
          refine r_iconst C (oDec_at oX12_onePart 56 rfl) (v := km1) (by rw [qkm1]; rfl) ?_
          refine r_icmp_eq C 132 (oDec_at oX12_onePart 57 rfl) (by decide) (fun cd108 => ?_) (fun cd108 => ?_)
          · skip
            have lk109 : ((u92).1 71 48).toInt = (t.1 71 48).toInt := congrArg Int32.toInt ((fu92 71 48 rfl).1)
            have lk110 : ((u92).1 71 5).toInt = (t.1 71 5).toInt := congrArg Int32.toInt ((fu92 71 5 rfl).1)
            have lk111 : ((u92).1 71 2).toInt = v106.toInt := congrArg Int32.toInt (ev106)
            have lk112 : ((u92).1 71 45).toInt = (t.1 71 45).toInt := congrArg Int32.toInt ((fu92 71 45 rfl).1)
            have lk113 : ((u92).1 71 47).toInt = (t.1 71 47).toInt := congrArg Int32.toInt ((fu92 71 47 rfl).1)
            have lk114 : ((u92).1 71 2).toInt = v106.toInt := congrArg Int32.toInt (ev106)
            have lk115 : ((u92).1 71 45).toInt = (t.1 71 45).toInt := congrArg Int32.toInt ((fu92 71 45 rfl).1)
            have lk116 : ((u92).1 71 47).toInt = (t.1 71 47).toInt := congrArg Int32.toInt ((fu92 71 47 rfl).1)
            have lk117 : ((u92).1 71 2).toInt = v106.toInt := congrArg Int32.toInt (ev106)
            have lk118 : ((u92).1 71 2).toInt = v106.toInt := congrArg Int32.toInt (ev106)
            refine r_pick C [0, 1] rfl ?_
            exact (ih (n - 1) (by omega)).2.2.2.1 (u92) x1  (by first | exact oQ_opens fu92 rfl iv0 pu92_1 (by omega) (by omega) (by omega) | exact (oQ_fr fu92 rfl iv0)) (by omega) (by omega) (by omega) (by omega) (by omega) (by first | exact oqM_op (oqM_lk (iv7 (by omega)) (by omega) (oFr_row fu92 (c := 103) rfl rfl) (congrArg Int32.toInt (fu92 71 47 rfl).1) (congrArg Int32.toInt (fu92 71 48 rfl).1) (congrArg Int32.toInt (fu92 71 4 rfl).1) (by rw [show ((u92).1 71 2).toInt = oqSk g (t.1 71 2).toInt by omega]; exact oqSk_sk pu92_3)) (by omega) pu92_1 (Or.inl ⟨rfl, by omega⟩) hsk3 (by omega) (by omega) (by omega) (by omega) | exact oqM_op (oqM_lk (iv8 (by omega)) (by omega) (oFr_row fu92 (c := 103) rfl rfl) (congrArg Int32.toInt (fu92 71 47 rfl).1) (congrArg Int32.toInt (fu92 71 48 rfl).1) (congrArg Int32.toInt (fu92 71 4 rfl).1) (by rw [show ((u92).1 71 2).toInt = oqSk g (t.1 71 2).toInt by omega]; exact oqSk_sk pu92_3)) (by omega) pu92_1 (Or.inr ⟨rfl, by omega⟩) hsk3 (by omega) (by omega) (by omega) (by omega) | (exfalso; omega) | (rcases (show x3.toInt = 1 ∨ x3.toInt = 0 by omega) with h9 | h9; exact oqM_no (oqM_lk (iv7 (by omega)) (by omega) (oFr_row fu92 (c := 103) rfl rfl) (congrArg Int32.toInt (fu92 71 47 rfl).1) (congrArg Int32.toInt (fu92 71 48 rfl).1) (congrArg Int32.toInt (fu92 71 4 rfl).1) (by rw [show ((u92).1 71 2).toInt = oqSk g (t.1 71 2).toInt by omega]; exact oqSk_sk pu92_3)) (Or.inl rfl) (by omega) hsk3 (by omega); exact oqM_no (oqM_lk (iv8 (by omega)) (by omega) (oFr_row fu92 (c := 103) rfl rfl) (congrArg Int32.toInt (fu92 71 47 rfl).1) (congrArg Int32.toInt (fu92 71 48 rfl).1) (congrArg Int32.toInt (fu92 71 4 rfl).1) (by rw [show ((u92).1 71 2).toInt = oqSk g (t.1 71 2).toInt by omega]; exact oqSk_sk pu92_3)) (Or.inr rfl) (by omega) hsk3 (by omega))) (oqZ_fr fu92 rfl iv10) (oqWd_fr fu92 rfl iv11) (oqMo_fr fu92 rfl iv12) (oqBP_fr fu92 rfl iv13) (by omega)
          · skip
            refine r_aload_n C (j := 0) (oDec_at oX12_onePart 58 rfl) rfl rfl ?_
            refine r_iload_n C (j := 2) (oDec_at oX12_onePart 59 rfl) rfl rfl ?_
            refine r_if_eq C 125 (oDec_at oX12_onePart 60 rfl) (by decide) (fun cd119 => ?_) (fun cd119 => ?_)
            · skip
              refine r_bipush C (oDec_at oX12_onePart 63 rfl) (v := k22) (by rw [qk22]; rfl) ?_
              refine r_iload C (j := 3) (oDec_at oX12_onePart 64 rfl) rfl ?_
              have lk120 : ((u92).1 71 47).toInt = (t.1 71 47).toInt := congrArg Int32.toInt ((fu92 71 47 rfl).1)
              have lk121 : ((u92).1 71 2).toInt = v106.toInt := congrArg Int32.toInt (ev106)
              have lk122 : ((u92).1 71 4).toInt = (t.1 71 4).toInt := congrArg Int32.toInt ((fu92 71 4 rfl).1)
              have lk123 : ((u92).1 71 5).toInt = (t.1 71 5).toInt := congrArg Int32.toInt ((fu92 71 5 rfl).1)
              have lk124 : ((u92).1 71 48).toInt = (t.1 71 48).toInt := congrArg Int32.toInt ((fu92 71 48 rfl).1)
              have lk125 : ((u92).1 71 47).toInt = (t.1 71 47).toInt := congrArg Int32.toInt ((fu92 71 47 rfl).1)
              have lk126 : ((u92).1 71 48).toInt = (t.1 71 48).toInt := congrArg Int32.toInt ((fu92 71 48 rfl).1)
              have lk127 : ((u92).1 71 5).toInt = (t.1 71 5).toInt := congrArg Int32.toInt ((fu92 71 5 rfl).1)
              have lk128 : ((u92).1 71 48).toInt = (t.1 71 48).toInt := congrArg Int32.toInt ((fu92 71 48 rfl).1)
              have lk129 : ((u92).1 71 47).toInt = (t.1 71 47).toInt := congrArg Int32.toInt ((fu92 71 47 rfl).1)
              refine r_callVv C oCl12 rfl miX12_opens mlX12_292 (ct7_X12_opens l E (u92) k22 v106 (by omega) (by omega) (by omega) (oqBP_fr fu92 rfl iv13)) (by decide) rfl rfl rfl (Nat.le_of_ble_eq_true rfl) (oDec_at oX12_onePart 65 rfl) (fun u130 pu130 fu130 => ?_)
              try dsimp only at pu130
              try simp only [lk125, lk126, lk127, lk128, lk129] at pu130
              obtain ⟨pu130_0, pu130_1, pu130_2⟩ := pu130
              have lk132 : ((u130).1 71 2).toInt = v106.toInt := congrArg Int32.toInt (((fu130 71 2 rfl).1).trans (ev106))
              have lk133 : ((u130).1 71 45).toInt = (t.1 71 45).toInt := congrArg Int32.toInt (((fu130 71 45 rfl).1).trans ((fu92 71 45 rfl).1))
              have lk134 : ((u130).1 71 2).toInt = v106.toInt := congrArg Int32.toInt (((fu130 71 2 rfl).1).trans (ev106))
              have lk135 : ((u130).1 71 45).toInt = (t.1 71 45).toInt := congrArg Int32.toInt (((fu130 71 45 rfl).1).trans ((fu92 71 45 rfl).1))
              have lk136 : ((u130).1 71 2).toInt = v106.toInt := congrArg Int32.toInt (((fu130 71 2 rfl).1).trans (ev106))
              have lk137 : ((u130).1 71 2).toInt = v106.toInt := congrArg Int32.toInt (((fu130 71 2 rfl).1).trans (ev106))
              refine r_pick C [0, 1] rfl ?_
              exact (ih (n - 1) (by omega)).2.2.2.1 (u130) x1  (by first | exact oQ_opens fu130 rfl (oQ_fr fu92 rfl iv0) pu130_1 (by omega) (by omega) (by omega) | exact (by assumption)) (by omega) (by omega) (by omega) (by omega) (by omega) (by first | exact oqM_op (oqM_lk (iv7 (by omega)) (by omega) (oFr_row fu92 (c := 103) rfl rfl) (congrArg Int32.toInt (fu92 71 47 rfl).1) (congrArg Int32.toInt (fu92 71 48 rfl).1) (congrArg Int32.toInt (fu92 71 4 rfl).1) (by rw [show ((u92).1 71 2).toInt = oqSk g (t.1 71 2).toInt by omega]; exact oqSk_sk pu92_3)) (by omega) pu130_1 (Or.inl ⟨rfl, by omega⟩) hsk3 (by omega) (by omega) (by omega) (by omega) | exact oqM_op (oqM_lk (iv8 (by omega)) (by omega) (oFr_row fu92 (c := 103) rfl rfl) (congrArg Int32.toInt (fu92 71 47 rfl).1) (congrArg Int32.toInt (fu92 71 48 rfl).1) (congrArg Int32.toInt (fu92 71 4 rfl).1) (by rw [show ((u92).1 71 2).toInt = oqSk g (t.1 71 2).toInt by omega]; exact oqSk_sk pu92_3)) (by omega) pu130_1 (Or.inr ⟨rfl, by omega⟩) hsk3 (by omega) (by omega) (by omega) (by omega) | (exfalso; omega) | (rcases (show x3.toInt = 1 ∨ x3.toInt = 0 by omega) with h9 | h9; exact oqM_no (oqM_lk (iv7 (by omega)) (by omega) (oFr_row fu92 (c := 103) rfl rfl) (congrArg Int32.toInt (fu92 71 47 rfl).1) (congrArg Int32.toInt (fu92 71 48 rfl).1) (congrArg Int32.toInt (fu92 71 4 rfl).1) (by rw [show ((u92).1 71 2).toInt = oqSk g (t.1 71 2).toInt by omega]; exact oqSk_sk pu92_3)) (Or.inl rfl) (by omega) hsk3 (by omega); exact oqM_no (oqM_lk (iv8 (by omega)) (by omega) (oFr_row fu92 (c := 103) rfl rfl) (congrArg Int32.toInt (fu92 71 47 rfl).1) (congrArg Int32.toInt (fu92 71 48 rfl).1) (congrArg Int32.toInt (fu92 71 4 rfl).1) (by rw [show ((u92).1 71 2).toInt = oqSk g (t.1 71 2).toInt by omega]; exact oqSk_sk pu92_3)) (Or.inr rfl) (by omega) hsk3 (by omega))) (oqZ_fr fu130 rfl (oqZ_fr fu92 rfl iv10)) (oqWd_fr fu130 rfl (oqWd_fr fu92 rfl iv11)) (oqMo_fr fu130 rfl (oqMo_fr fu92 rfl iv12)) pu130_2 (by omega)
            · skip
              refine r_bipush C (oDec_at oX12_onePart 61 rfl) (v := k21) (by rw [qk21]; rfl) ?_
              refine r_goto C (tgt := 127) (oDec_at oX12_onePart 62 rfl) (by decide) ?_
              refine r_iload C (j := 3) (oDec_at oX12_onePart 64 rfl) rfl ?_
              have lk138 : ((u92).1 71 47).toInt = (t.1 71 47).toInt := congrArg Int32.toInt ((fu92 71 47 rfl).1)
              have lk139 : ((u92).1 71 2).toInt = v106.toInt := congrArg Int32.toInt (ev106)
              have lk140 : ((u92).1 71 4).toInt = (t.1 71 4).toInt := congrArg Int32.toInt ((fu92 71 4 rfl).1)
              have lk141 : ((u92).1 71 5).toInt = (t.1 71 5).toInt := congrArg Int32.toInt ((fu92 71 5 rfl).1)
              have lk142 : ((u92).1 71 48).toInt = (t.1 71 48).toInt := congrArg Int32.toInt ((fu92 71 48 rfl).1)
              have lk143 : ((u92).1 71 47).toInt = (t.1 71 47).toInt := congrArg Int32.toInt ((fu92 71 47 rfl).1)
              have lk144 : ((u92).1 71 48).toInt = (t.1 71 48).toInt := congrArg Int32.toInt ((fu92 71 48 rfl).1)
              have lk145 : ((u92).1 71 5).toInt = (t.1 71 5).toInt := congrArg Int32.toInt ((fu92 71 5 rfl).1)
              have lk146 : ((u92).1 71 48).toInt = (t.1 71 48).toInt := congrArg Int32.toInt ((fu92 71 48 rfl).1)
              have lk147 : ((u92).1 71 47).toInt = (t.1 71 47).toInt := congrArg Int32.toInt ((fu92 71 47 rfl).1)
              refine r_callVv C oCl12 rfl miX12_opens mlX12_292 (ct7_X12_opens l E (u92) k21 v106 (by omega) (by omega) (by omega) (oqBP_fr fu92 rfl iv13)) (by decide) rfl rfl rfl (Nat.le_of_ble_eq_true rfl) (oDec_at oX12_onePart 65 rfl) (fun u148 pu148 fu148 => ?_)
              try dsimp only at pu148
              try simp only [lk143, lk144, lk145, lk146, lk147] at pu148
              obtain ⟨pu148_0, pu148_1, pu148_2⟩ := pu148
              have lk150 : ((u148).1 71 2).toInt = v106.toInt := congrArg Int32.toInt (((fu148 71 2 rfl).1).trans (ev106))
              have lk151 : ((u148).1 71 45).toInt = (t.1 71 45).toInt := congrArg Int32.toInt (((fu148 71 45 rfl).1).trans ((fu92 71 45 rfl).1))
              have lk152 : ((u148).1 71 2).toInt = v106.toInt := congrArg Int32.toInt (((fu148 71 2 rfl).1).trans (ev106))
              have lk153 : ((u148).1 71 45).toInt = (t.1 71 45).toInt := congrArg Int32.toInt (((fu148 71 45 rfl).1).trans ((fu92 71 45 rfl).1))
              have lk154 : ((u148).1 71 2).toInt = v106.toInt := congrArg Int32.toInt (((fu148 71 2 rfl).1).trans (ev106))
              have lk155 : ((u148).1 71 2).toInt = v106.toInt := congrArg Int32.toInt (((fu148 71 2 rfl).1).trans (ev106))
              refine r_pick C [0, 1] rfl ?_
              exact (ih (n - 1) (by omega)).2.2.2.1 (u148) x1  (by first | exact oQ_opens fu148 rfl (oQ_fr fu92 rfl iv0) pu148_1 (by omega) (by omega) (by omega) | exact (by assumption)) (by omega) (by omega) (by omega) (by omega) (by omega) (by first | exact oqM_op (oqM_lk (iv7 (by omega)) (by omega) (oFr_row fu92 (c := 103) rfl rfl) (congrArg Int32.toInt (fu92 71 47 rfl).1) (congrArg Int32.toInt (fu92 71 48 rfl).1) (congrArg Int32.toInt (fu92 71 4 rfl).1) (by rw [show ((u92).1 71 2).toInt = oqSk g (t.1 71 2).toInt by omega]; exact oqSk_sk pu92_3)) (by omega) pu148_1 (Or.inl ⟨rfl, by omega⟩) hsk3 (by omega) (by omega) (by omega) (by omega) | exact oqM_op (oqM_lk (iv8 (by omega)) (by omega) (oFr_row fu92 (c := 103) rfl rfl) (congrArg Int32.toInt (fu92 71 47 rfl).1) (congrArg Int32.toInt (fu92 71 48 rfl).1) (congrArg Int32.toInt (fu92 71 4 rfl).1) (by rw [show ((u92).1 71 2).toInt = oqSk g (t.1 71 2).toInt by omega]; exact oqSk_sk pu92_3)) (by omega) pu148_1 (Or.inr ⟨rfl, by omega⟩) hsk3 (by omega) (by omega) (by omega) (by omega) | (exfalso; omega) | (rcases (show x3.toInt = 1 ∨ x3.toInt = 0 by omega) with h9 | h9; exact oqM_no (oqM_lk (iv7 (by omega)) (by omega) (oFr_row fu92 (c := 103) rfl rfl) (congrArg Int32.toInt (fu92 71 47 rfl).1) (congrArg Int32.toInt (fu92 71 48 rfl).1) (congrArg Int32.toInt (fu92 71 4 rfl).1) (by rw [show ((u92).1 71 2).toInt = oqSk g (t.1 71 2).toInt by omega]; exact oqSk_sk pu92_3)) (Or.inl rfl) (by omega) hsk3 (by omega); exact oqM_no (oqM_lk (iv8 (by omega)) (by omega) (oFr_row fu92 (c := 103) rfl rfl) (congrArg Int32.toInt (fu92 71 47 rfl).1) (congrArg Int32.toInt (fu92 71 48 rfl).1) (congrArg Int32.toInt (fu92 71 4 rfl).1) (by rw [show ((u92).1 71 2).toInt = oqSk g (t.1 71 2).toInt by omega]; exact oqSk_sk pu92_3)) (Or.inr rfl) (by omega) hsk3 (by omega))) (oqZ_fr fu148 rfl (oqZ_fr fu92 rfl iv10)) (oqWd_fr fu148 rfl (oqWd_fr fu92 rfl iv11)) (oqMo_fr fu148 rfl (oqMo_fr fu92 rfl iv12)) pu148_2 (by omega)
      · intro t x1  iv0 iv1 iv2 iv3 iv4 iv5 iv6 iv7 iv8 iv9 iv10 hmu
        have rx1 := n_rng x1
        refine r_ty C (fun hty => ?_)
        have hty_coded : (0 : Int) ≤ ((t).1 71 45).toInt ∧ ((t).1 71 45).toInt ≤ 1600 := hty.1 71 45
        have hty_waits : (0 : Int) ≤ ((t).1 71 47).toInt ∧ ((t).1 71 47).toInt ≤ 1700 := hty.1 71 47
        have hty_at : (0 : Int) ≤ ((t).1 71 2).toInt ∧ ((t).1 71 2).toInt ≤ 1600 := hty.1 71 2
        clear hty
        have hge := oqSk_ge g (t.1 71 2).toInt
        refine r_aload_n C (j := 0) (oDec_at oX12_onePart 66 rfl) rfl rfl ?_
        refine r_bipush C (oDec_at oX12_onePart 67 rfl) (v := k40) (by rw [qk40]; rfl) ?_
        refine r_callVv C oCl12 rfl miX12_asksSign mlX12_248 (ct7_X12_asksSign l E (t) k40 (g) ((t.1 71 2).toInt) (40) (by omega) iv7 (by omega) (by omega) iv10) (by decide) rfl rfl rfl (Nat.le_of_ble_eq_true rfl) (oDec_at oX12_onePart 68 rfl) (fun u156 pu156 fu156 => ?_)
        try dsimp only at pu156
        obtain ⟨pu156_0, pu156_1, pu156_2, pu156_3, pu156_4⟩ := pu156
        have lk158 : ((u156).1 71 4).toInt = (t.1 71 4).toInt := congrArg Int32.toInt ((fu156 71 4 rfl).1)
        have lk159 : ((u156).1 71 48).toInt = (t.1 71 48).toInt := congrArg Int32.toInt ((fu156 71 48 rfl).1)
        have lk160 : ((u156).1 71 47).toInt = (t.1 71 47).toInt := congrArg Int32.toInt ((fu156 71 47 rfl).1)
        have hq161 : oqJ g fp fq cz kx b 1 (u156) := oqM2_J iv6 (oFr_row fu156 (c := 103) rfl rfl) (congrArg Int32.toInt (fu156 71 47 rfl).1) (congrArg Int32.toInt (fu156 71 48 rfl).1) (congrArg Int32.toInt (fu156 71 4 rfl).1) (fun h9 => by have h8 := pu156_0 h9; omega) (fun h9 => by have h8 := pu156_1 h9; omega)
        refine r_goto C (tgt := 143) (oDec_at oX12_onePart 69 rfl) (by decide) ?_
        refine r_goto C (tgt := 2) (oDec_at oX12_onePart 72 rfl) (by decide) ?_
        have lk162 : ((u156).1 71 48).toInt = (t.1 71 48).toInt := congrArg Int32.toInt ((fu156 71 48 rfl).1)
        have lk163 : ((u156).1 71 45).toInt = (t.1 71 45).toInt := congrArg Int32.toInt ((fu156 71 45 rfl).1)
        have lk164 : ((u156).1 71 47).toInt = (t.1 71 47).toInt := congrArg Int32.toInt ((fu156 71 47 rfl).1)
        have lk165 : ((u156).1 71 45).toInt = (t.1 71 45).toInt := congrArg Int32.toInt ((fu156 71 45 rfl).1)
        have lk166 : ((u156).1 71 47).toInt = (t.1 71 47).toInt := congrArg Int32.toInt ((fu156 71 47 rfl).1)
        have lk167 : ((u156).1 71 4).toInt = (t.1 71 4).toInt := congrArg Int32.toInt ((fu156 71 4 rfl).1)
        have hj := oB1_f ((u156).1 71 5)
        exact (ih (n - 1) (by omega)).1 (u156) x1  (oQ_frb fu156 rfl (by omega) iv0) (by omega) (by omega) (by omega) (by omega) (by omega) hq161 (by first | (intro h9; exfalso; omega) | exact fun _ => oqN0_of (A := A1) (E := E1) (by omega) (by omega) hskA (by omega) hz24 hz25) (by omega) (oqZ_fr fu156 rfl iv7) (oqWd_fr fu156 rfl iv8) (oqMo_fr fu156 rfl iv9) pu156_4 (by omega)
      · intro t   iv0 iv1 iv2 iv3 iv4 iv5 iv6 iv7 iv8 iv9 iv10 hmu
        refine r_ty C (fun hty => ?_)
        have hty_coded : (0 : Int) ≤ ((t).1 71 45).toInt ∧ ((t).1 71 45).toInt ≤ 1600 := hty.1 71 45
        have hty_waits : (0 : Int) ≤ ((t).1 71 47).toInt ∧ ((t).1 71 47).toInt ≤ 1700 := hty.1 71 47
        have hty_at : (0 : Int) ≤ ((t).1 71 2).toInt ∧ ((t).1 71 2).toInt ≤ 1600 := hty.1 71 2
        clear hty
        refine r_aload_n C (j := 0) (oDec_at oX12_onePart 73 rfl) rfl rfl ?_
        obtain ⟨v168, ev168⟩ : ∃ z : Int32, (t).1 71 5 = z := ⟨_, rfl⟩
        have gv168 : (t.1 71 5).toInt = v168.toInt := congrArg Int32.toInt (ev168)
        have rv168 := n_rng v168
        refine r_geti (k := 5) (lo := (-2147483648)) (hi := 2147483647) C v168 oCl12 rfl (by decide) flX12_173 rfl rfl (ev168) rfl rfl (oDec_at oX12_onePart 74 rfl) (fun _ _ => ?_)
        refine r_if_eq C 154 (oDec_at oX12_onePart 75 rfl) (by decide) (fun cd169 => ?_) (fun cd169 => ?_)
        · skip
          obtain ⟨hn1, hn2, hn3, hn4⟩ := iv6 (by omega)
          refine r_aload_n C (j := 0) (oDec_at oX12_onePart 77 rfl) rfl rfl ?_
          obtain ⟨v170, ev170⟩ : ∃ z : Int32, (t).1 71 56 = z := ⟨_, rfl⟩
          have gv170 : (t.1 71 56).toInt = v170.toInt := congrArg Int32.toInt (ev170)
          refine r_geti (k := 56) (lo := 0) (hi := 1) C v170 oCl12 rfl (by decide) flX12_295 rfl rfl (ev170) rfl rfl (oDec_at oX12_onePart 78 rfl) (fun b171 b171h => ?_)
          refine r_if_eq C 168 (oDec_at oX12_onePart 79 rfl) (by decide) (fun cd172 => ?_) (fun cd172 => ?_)
          · skip
            obtain ⟨hfp, hfq⟩ := oqMo_0 iv9 (by omega)
            refine r_aload_n C (j := 0) (oDec_at oX12_onePart 83 rfl) rfl rfl ?_
            have lk173 : ((t).1 71 5).toInt = v168.toInt := congrArg Int32.toInt (ev168)
            refine r_callVi C oCl12 rfl miX12_rulePart mlX12_301 (ct7_X12_rulePart l E (t)  (g) ((t.1 71 2).toInt) ((t.1 71 4).toInt) (by omega) (by omega) iv7 (by omega) iv8 (by omega)) (by decide) rfl rfl rfl (Nat.le_of_ble_eq_true rfl) (oDec_at oX12_onePart 84 rfl) (fun r175 u174 pu174 fu174 => ?_)
            try dsimp only at pu174
            try simp only [lk173] at pu174
            obtain ⟨pu174_0, pu174_1, pu174_2, pu174_3⟩ := pu174
            have rr175 := n_rng r175
            refine r_istore_n C (lv' := [(0, .ref (oad E 71)), (2, .int r175)]) [1, 0] (oDec_at oX12_onePart 85 rfl) rfl (by decide) rfl ?_
            refine r_aload_n C (j := 0) (oDec_at oX12_onePart 86 rfl) rfl rfl ?_
            refine r_iload_n C (j := 1) (oDec_at oX12_onePart 87 rfl) rfl rfl ?_
            refine r_iconst C (oDec_at oX12_onePart 88 rfl) (v := km1) (by rw [qkm1]; rfl) ?_
            refine r_pc C 176 rfl ?_
            refine r_icmp_eq C 183 (oDec_at oX12_onePart 89 rfl) (by decide) (fun cd176 => ?_) (fun cd176 => ?_)
            · skip
              have lk177 : ((u174).1 71 5).toInt = v168.toInt := congrArg Int32.toInt (((fu174 71 5 rfl).1).trans (ev168))
              have lk178 : ((u174).1 71 48).toInt = (t.1 71 48).toInt := congrArg Int32.toInt ((fu174 71 48 rfl).1)
              have lk179 : ((u174).1 71 47).toInt = (t.1 71 47).toInt := congrArg Int32.toInt ((fu174 71 47 rfl).1)
              have hP1 := pu174_2 (by omega)
              clear pu174_2 pu174_3
              have hq180 : oqJ g fp fq cz kx b 1 (u174) := oqJ_id iv5 (oFr_row fu174 (c := 103) rfl rfl) (congrArg Int32.toInt (fu174 71 5 rfl).1) (congrArg Int32.toInt (fu174 71 47 rfl).1) (by rw [show ((u174).1 71 2).toInt = (t.1 71 2).toInt by omega]) (by omega) (congrArg Int32.toInt (fu174 71 48 rfl).1) (congrArg Int32.toInt (fu174 71 6 rfl).1)
              refine r_sipush C (oDec_at oX12_onePart 92 rfl) (v := k1000) (by rw [qk1000]; rfl) ?_
              refine r_aload_n C (j := 0) (oDec_at oX12_onePart 93 rfl) rfl rfl ?_
              refine r_iconst C (oDec_at oX12_onePart 94 rfl) (v := k0) (by rw [qk0]; rfl) ?_
              refine r_sipush C (oDec_at oX12_onePart 95 rfl) (v := k9999) (by rw [qk9999]; rfl) ?_
              have lk181 : ((u174).1 71 5).toInt = v168.toInt := congrArg Int32.toInt (((fu174 71 5 rfl).1).trans (ev168))
              have lk182 : ((u174).1 71 48).toInt = (t.1 71 48).toInt := congrArg Int32.toInt ((fu174 71 48 rfl).1)
              have lk183 : ((u174).1 71 47).toInt = (t.1 71 47).toInt := congrArg Int32.toInt ((fu174 71 47 rfl).1)
              have lk184 : ((u174).1 71 5).toInt = v168.toInt := congrArg Int32.toInt (((fu174 71 5 rfl).1).trans (ev168))
              have lk185 : ((u174).1 71 5).toInt = v168.toInt := congrArg Int32.toInt (((fu174 71 5 rfl).1).trans (ev168))
              have lk186 : ((u174).1 71 6).toInt = (t.1 71 6).toInt := congrArg Int32.toInt ((fu174 71 6 rfl).1)
              have lk187 : ((u174).1 71 5).toInt = v168.toInt := congrArg Int32.toInt (((fu174 71 5 rfl).1).trans (ev168))
              have lk188 : ((u174).1 71 6).toInt = (t.1 71 6).toInt := congrArg Int32.toInt ((fu174 71 6 rfl).1)
              refine r_callVi C oCl12 rfl miX12_number mlX12_244 (ct7_X12_number l E (u174) k0 k9999 (g) ((t.1 71 2).toInt) ((t.1 71 4).toInt) (0) (9999) (by omega) (oqZ_fr fu174 rfl iv7) (by omega) (by omega) (oqBP_fr fu174 rfl iv10)) (by decide) rfl rfl rfl (Nat.le_of_ble_eq_true rfl) (oDec_at oX12_onePart 96 rfl) (fun r190 u189 pu189 fu189 => ?_)
              try dsimp only at pu189
              try simp only [lk184, lk185, lk186, lk187, lk188] at pu189
              obtain ⟨pu189_0, pu189_1, pu189_2, pu189_3, pu189_4⟩ := pu189
              have rr190 := n_rng r190
              have lk191 : ((u189).1 71 48).toInt = (t.1 71 48).toInt := congrArg Int32.toInt (((fu189 71 48 rfl).1).trans ((fu174 71 48 rfl).1))
              have lk192 : ((u189).1 71 47).toInt = (t.1 71 47).toInt := congrArg Int32.toInt (((fu189 71 47 rfl).1).trans ((fu174 71 47 rfl).1))
              have hnk : oqNk g (t.1 71 2).toInt (t.1 71 4).toInt 0 9999 = 0 → oqSk g (t.1 71 2).toInt + 1 ≤ oqNa g (t.1 71 2).toInt := oqNk_d
              have hq193 : oqJ g fp fq cz kx b 3 (u189) := (by by_cases h9 : ((u189).1 71 5).toInt = 0; (have h8 := pu189_1 h9; clear pu189_1 pu189_2; exact oqJ_go hq180 (by omega) h9 (oFr_row fu189 (c := 103) rfl rfl) (congrArg Int32.toInt (fu189 71 47 rfl).1) (oqp_num (g := g) (p := fp) (q := fq) (a := (t.1 71 2).toInt) (b := (t.1 71 4).toInt) (o := (t.1 71 48).toInt) (by omega) (by omega) (by omega) (by omega)) (by first | omega | (rw [show ((u174).1 71 2).toInt = (t.1 71 2).toInt by omega]; omega)) (by first | omega | (congr 1; omega)) (by first | omega | (congr 1; omega)) (by first | omega | (congr 1; omega)) (by first | omega | (congr 1; omega)) (by first | omega | (congr 1; omega))); (have h8 := pu189_2 h9; clear pu189_1 pu189_2; exact oqJ_flt hq180 (by omega) h9 (oqp_numF (g := g) (p := fp) (q := fq) (a := (t.1 71 2).toInt) (b := (t.1 71 4).toInt) (o := (t.1 71 48).toInt) (by omega) (by omega) (by omega) (by omega)) (by first | omega | (rw [show ((u174).1 71 2).toInt = (t.1 71 2).toInt by omega]; omega)) (by first | omega | (congr 1; omega)) (by first | omega | (congr 1; omega)) (by first | omega | (congr 1; omega)) (by first | omega | (congr 1; omega))))
              obtain ⟨v194, ev194⟩ : ∃ z : Int32, z = k1000 + r190 := ⟨_, rfl⟩
              have hv194 : v194.toInt = k1000.toInt + r190.toInt := n_add ev194 (by omega) (by omega)
              refine r_iadd C v194 (oDec_at oX12_onePart 97 rfl) ev194 ?_
              refine r_pc C 195 rfl ?_
              have lk195 : ((u189).1 71 45).toInt = (t.1 71 45).toInt := congrArg Int32.toInt (((fu189 71 45 rfl).1).trans ((fu174 71 45 rfl).1))
              have lk196 : ((u189).1 71 45).toInt = (t.1 71 45).toInt := congrArg Int32.toInt (((fu189 71 45 rfl).1).trans ((fu174 71 45 rfl).1))
              have lk197 : ((u189).1 71 45).toInt = (t.1 71 45).toInt := congrArg Int32.toInt (((fu189 71 45 rfl).1).trans ((fu174 71 45 rfl).1))
              refine r_callVv C oCl12 rfl miX12_lay mlX12_280 (ct_X12_lay l E (u189) v194 (by omega)) (by decide) rfl rfl rfl (Nat.le_of_ble_eq_true rfl) (oDec_at oX12_onePart 98 rfl) (fun u198 pu198 fu198 => ?_)
              try dsimp only at pu198
              try simp only [lk196, lk197] at pu198
              obtain ⟨pu198_0, pu198_1⟩ := pu198
              have hq200 : oQ b (x + 1) (u198) := oQ_opnd (oQ_frb fu189 rfl (by omega) (oQ_fr fu174 rfl iv0)) pu198_0 (by omega) (by omega)
              have lk201 : ((u198).1 71 48).toInt = (t.1 71 48).toInt := congrArg Int32.toInt (((fu198 71 48 rfl).1).trans (((fu189 71 48 rfl).1).trans ((fu174 71 48 rfl).1)))
              have lk202 : ((u198).1 71 2).toInt = (u189.1 71 2).toInt := congrArg Int32.toInt ((fu198 71 2 rfl).1)
              have lk203 : ((u198).1 71 47).toInt = (t.1 71 47).toInt := congrArg Int32.toInt (((fu198 71 47 rfl).1).trans (((fu189 71 47 rfl).1).trans ((fu174 71 47 rfl).1)))
              have lk204 : ((u198).1 71 5).toInt = (u189.1 71 5).toInt := congrArg Int32.toInt ((fu198 71 5 rfl).1)
              have lk205 : ((u198).1 71 2).toInt = (u189.1 71 2).toInt := congrArg Int32.toInt ((fu198 71 2 rfl).1)
              have lk206 : ((u198).1 71 47).toInt = (t.1 71 47).toInt := congrArg Int32.toInt (((fu198 71 47 rfl).1).trans (((fu189 71 47 rfl).1).trans ((fu174 71 47 rfl).1)))
              have lk207 : ((u198).1 71 2).toInt = (u189.1 71 2).toInt := congrArg Int32.toInt ((fu198 71 2 rfl).1)
              exact r_vret C (oDec_at oX12_onePart 99 rfl) ⟨rfl, ⟨hq200, by omega, by omega, by omega, by omega, (oqJ_fr fu198 rfl hq193), (oqBP_fr fu198 rfl pu189_4)⟩⟩
            · skip
              replace pu174_0 := pu174_0.resolve_left (by omega)
              have lk208 : ((u174).1 71 5).toInt = v168.toInt := congrArg Int32.toInt (((fu174 71 5 rfl).1).trans (ev168))
              have lk209 : ((u174).1 71 48).toInt = (t.1 71 48).toInt := congrArg Int32.toInt ((fu174 71 48 rfl).1)
              have lk210 : ((u174).1 71 47).toInt = (t.1 71 47).toInt := congrArg Int32.toInt ((fu174 71 47 rfl).1)
              have hP2 := pu174_3 (by omega)
              clear pu174_2 pu174_3
              have hq211 : oqJ g fp fq cz kx b 3 (u174) := oqJ_go iv5 (by omega) (by omega) (oFr_row fu174 (c := 103) rfl rfl) (congrArg Int32.toInt (fu174 71 47 rfl).1) (oqp_wd (g := g) (p := fp) (q := fq) (a := (t.1 71 2).toInt) (b := (t.1 71 4).toInt) (o := (t.1 71 48).toInt) (j := (oqWi g (t.1 71 2).toInt (t.1 71 4).toInt).toNat) (by omega) (by omega) (by omega) (by omega)) (by first | omega | (congr 1; omega)) rfl rfl (by first | omega | (congr 1; omega)) (by first | omega | (congr 1; omega)) ((congrArg Int32.toInt (fu174 71 48 rfl).1)).symm
              refine r_iload_n C (j := 1) (oDec_at oX12_onePart 90 rfl) rfl rfl ?_
              refine r_goto C (tgt := 195) (oDec_at oX12_onePart 91 rfl) (by decide) ?_
              have lk212 : ((u174).1 71 45).toInt = (t.1 71 45).toInt := congrArg Int32.toInt ((fu174 71 45 rfl).1)
              have lk213 : ((u174).1 71 45).toInt = (t.1 71 45).toInt := congrArg Int32.toInt ((fu174 71 45 rfl).1)
              have lk214 : ((u174).1 71 45).toInt = (t.1 71 45).toInt := congrArg Int32.toInt ((fu174 71 45 rfl).1)
              refine r_callVv C oCl12 rfl miX12_lay mlX12_280 (ct_X12_lay l E (u174) r175 (by omega)) (by decide) rfl rfl rfl (Nat.le_of_ble_eq_true rfl) (oDec_at oX12_onePart 98 rfl) (fun u215 pu215 fu215 => ?_)
              try dsimp only at pu215
              try simp only [lk213, lk214] at pu215
              obtain ⟨pu215_0, pu215_1⟩ := pu215
              have hq217 : oQ b (x + 1) (u215) := oQ_opnd (oQ_fr fu174 rfl iv0) pu215_0 (by omega) (by omega)
              have lk218 : ((u215).1 71 48).toInt = (t.1 71 48).toInt := congrArg Int32.toInt (((fu215 71 48 rfl).1).trans ((fu174 71 48 rfl).1))
              have lk219 : ((u215).1 71 2).toInt = (u174.1 71 2).toInt := congrArg Int32.toInt ((fu215 71 2 rfl).1)
              have lk220 : ((u215).1 71 47).toInt = (t.1 71 47).toInt := congrArg Int32.toInt (((fu215 71 47 rfl).1).trans ((fu174 71 47 rfl).1))
              have lk221 : ((u215).1 71 5).toInt = v168.toInt := congrArg Int32.toInt (((fu215 71 5 rfl).1).trans (((fu174 71 5 rfl).1).trans (ev168)))
              have lk222 : ((u215).1 71 2).toInt = (u174.1 71 2).toInt := congrArg Int32.toInt ((fu215 71 2 rfl).1)
              have lk223 : ((u215).1 71 47).toInt = (t.1 71 47).toInt := congrArg Int32.toInt (((fu215 71 47 rfl).1).trans ((fu174 71 47 rfl).1))
              have lk224 : ((u215).1 71 2).toInt = (u174.1 71 2).toInt := congrArg Int32.toInt ((fu215 71 2 rfl).1)
              exact r_vret C (oDec_at oX12_onePart 99 rfl) ⟨rfl, ⟨hq217, by omega, by omega, by omega, by omega, (oqJ_fr fu215 rfl hq211), (oqBP_fr fu215 rfl (oqBP_fr fu174 rfl iv10))⟩⟩
          · skip
            obtain ⟨hfp, hfq⟩ := oqMo_1 iv9 (by omega)
            refine r_aload_n C (j := 0) (oDec_at oX12_onePart 80 rfl) rfl rfl ?_
            have lk225 : ((t).1 71 5).toInt = v168.toInt := congrArg Int32.toInt (ev168)
            refine r_callVi C oCl12 rfl miX12_mottoPart mlX12_298 (ct7_X12_mottoPart l E (t)  (g) ((t.1 71 2).toInt) ((t.1 71 4).toInt) (by omega) (by omega) iv7 (by omega) iv8 (by omega)) (by decide) rfl rfl rfl (Nat.le_of_ble_eq_true rfl) (oDec_at oX12_onePart 81 rfl) (fun r227 u226 pu226 fu226 => ?_)
            try dsimp only at pu226
            try simp only [lk225] at pu226
            obtain ⟨pu226_0, pu226_1, pu226_2, pu226_3⟩ := pu226
            have rr227 := n_rng r227
            refine r_goto C (tgt := 172) (oDec_at oX12_onePart 82 rfl) (by decide) ?_
            refine r_istore_n C (lv' := [(0, .ref (oad E 71)), (2, .int r227)]) [1, 0] (oDec_at oX12_onePart 85 rfl) rfl (by decide) rfl ?_
            refine r_aload_n C (j := 0) (oDec_at oX12_onePart 86 rfl) rfl rfl ?_
            refine r_iload_n C (j := 1) (oDec_at oX12_onePart 87 rfl) rfl rfl ?_
            refine r_iconst C (oDec_at oX12_onePart 88 rfl) (v := km1) (by rw [qkm1]; rfl) ?_
            refine r_pc C 176 rfl ?_
            refine r_icmp_eq C 183 (oDec_at oX12_onePart 89 rfl) (by decide) (fun cd228 => ?_) (fun cd228 => ?_)
            · skip
              have lk229 : ((u226).1 71 5).toInt = v168.toInt := congrArg Int32.toInt (((fu226 71 5 rfl).1).trans (ev168))
              have lk230 : ((u226).1 71 48).toInt = (t.1 71 48).toInt := congrArg Int32.toInt ((fu226 71 48 rfl).1)
              have lk231 : ((u226).1 71 47).toInt = (t.1 71 47).toInt := congrArg Int32.toInt ((fu226 71 47 rfl).1)
              have hP1 := pu226_2 (by omega)
              clear pu226_2 pu226_3
              have hq232 : oqJ g fp fq cz kx b 1 (u226) := oqJ_id iv5 (oFr_row fu226 (c := 103) rfl rfl) (congrArg Int32.toInt (fu226 71 5 rfl).1) (congrArg Int32.toInt (fu226 71 47 rfl).1) (by rw [show ((u226).1 71 2).toInt = (t.1 71 2).toInt by omega]) (by omega) (congrArg Int32.toInt (fu226 71 48 rfl).1) (congrArg Int32.toInt (fu226 71 6 rfl).1)
              refine r_sipush C (oDec_at oX12_onePart 92 rfl) (v := k1000) (by rw [qk1000]; rfl) ?_
              refine r_aload_n C (j := 0) (oDec_at oX12_onePart 93 rfl) rfl rfl ?_
              refine r_iconst C (oDec_at oX12_onePart 94 rfl) (v := k0) (by rw [qk0]; rfl) ?_
              refine r_sipush C (oDec_at oX12_onePart 95 rfl) (v := k9999) (by rw [qk9999]; rfl) ?_
              have lk233 : ((u226).1 71 5).toInt = v168.toInt := congrArg Int32.toInt (((fu226 71 5 rfl).1).trans (ev168))
              have lk234 : ((u226).1 71 48).toInt = (t.1 71 48).toInt := congrArg Int32.toInt ((fu226 71 48 rfl).1)
              have lk235 : ((u226).1 71 47).toInt = (t.1 71 47).toInt := congrArg Int32.toInt ((fu226 71 47 rfl).1)
              have lk236 : ((u226).1 71 5).toInt = v168.toInt := congrArg Int32.toInt (((fu226 71 5 rfl).1).trans (ev168))
              have lk237 : ((u226).1 71 5).toInt = v168.toInt := congrArg Int32.toInt (((fu226 71 5 rfl).1).trans (ev168))
              have lk238 : ((u226).1 71 6).toInt = (t.1 71 6).toInt := congrArg Int32.toInt ((fu226 71 6 rfl).1)
              have lk239 : ((u226).1 71 5).toInt = v168.toInt := congrArg Int32.toInt (((fu226 71 5 rfl).1).trans (ev168))
              have lk240 : ((u226).1 71 6).toInt = (t.1 71 6).toInt := congrArg Int32.toInt ((fu226 71 6 rfl).1)
              refine r_callVi C oCl12 rfl miX12_number mlX12_244 (ct7_X12_number l E (u226) k0 k9999 (g) ((t.1 71 2).toInt) ((t.1 71 4).toInt) (0) (9999) (by omega) (oqZ_fr fu226 rfl iv7) (by omega) (by omega) (oqBP_fr fu226 rfl iv10)) (by decide) rfl rfl rfl (Nat.le_of_ble_eq_true rfl) (oDec_at oX12_onePart 96 rfl) (fun r242 u241 pu241 fu241 => ?_)
              try dsimp only at pu241
              try simp only [lk236, lk237, lk238, lk239, lk240] at pu241
              obtain ⟨pu241_0, pu241_1, pu241_2, pu241_3, pu241_4⟩ := pu241
              have rr242 := n_rng r242
              have lk243 : ((u241).1 71 48).toInt = (t.1 71 48).toInt := congrArg Int32.toInt (((fu241 71 48 rfl).1).trans ((fu226 71 48 rfl).1))
              have lk244 : ((u241).1 71 47).toInt = (t.1 71 47).toInt := congrArg Int32.toInt (((fu241 71 47 rfl).1).trans ((fu226 71 47 rfl).1))
              have hnk : oqNk g (t.1 71 2).toInt (t.1 71 4).toInt 0 9999 = 0 → oqSk g (t.1 71 2).toInt + 1 ≤ oqNa g (t.1 71 2).toInt := oqNk_d
              have hq245 : oqJ g fp fq cz kx b 3 (u241) := (by by_cases h9 : ((u241).1 71 5).toInt = 0; (have h8 := pu241_1 h9; clear pu241_1 pu241_2; exact oqJ_go hq232 (by omega) h9 (oFr_row fu241 (c := 103) rfl rfl) (congrArg Int32.toInt (fu241 71 47 rfl).1) (oqp_num (g := g) (p := fp) (q := fq) (a := (t.1 71 2).toInt) (b := (t.1 71 4).toInt) (o := (t.1 71 48).toInt) (by omega) (by omega) (by omega) (by omega)) (by first | omega | (rw [show ((u226).1 71 2).toInt = (t.1 71 2).toInt by omega]; omega)) (by first | omega | (congr 1; omega)) (by first | omega | (congr 1; omega)) (by first | omega | (congr 1; omega)) (by first | omega | (congr 1; omega)) (by first | omega | (congr 1; omega))); (have h8 := pu241_2 h9; clear pu241_1 pu241_2; exact oqJ_flt hq232 (by omega) h9 (oqp_numF (g := g) (p := fp) (q := fq) (a := (t.1 71 2).toInt) (b := (t.1 71 4).toInt) (o := (t.1 71 48).toInt) (by omega) (by omega) (by omega) (by omega)) (by first | omega | (rw [show ((u226).1 71 2).toInt = (t.1 71 2).toInt by omega]; omega)) (by first | omega | (congr 1; omega)) (by first | omega | (congr 1; omega)) (by first | omega | (congr 1; omega)) (by first | omega | (congr 1; omega))))
              obtain ⟨v246, ev246⟩ : ∃ z : Int32, z = k1000 + r242 := ⟨_, rfl⟩
              have hv246 : v246.toInt = k1000.toInt + r242.toInt := n_add ev246 (by omega) (by omega)
              refine r_iadd C v246 (oDec_at oX12_onePart 97 rfl) ev246 ?_
              refine r_pc C 195 rfl ?_
              have lk247 : ((u241).1 71 45).toInt = (t.1 71 45).toInt := congrArg Int32.toInt (((fu241 71 45 rfl).1).trans ((fu226 71 45 rfl).1))
              have lk248 : ((u241).1 71 45).toInt = (t.1 71 45).toInt := congrArg Int32.toInt (((fu241 71 45 rfl).1).trans ((fu226 71 45 rfl).1))
              have lk249 : ((u241).1 71 45).toInt = (t.1 71 45).toInt := congrArg Int32.toInt (((fu241 71 45 rfl).1).trans ((fu226 71 45 rfl).1))
              refine r_callVv C oCl12 rfl miX12_lay mlX12_280 (ct_X12_lay l E (u241) v246 (by omega)) (by decide) rfl rfl rfl (Nat.le_of_ble_eq_true rfl) (oDec_at oX12_onePart 98 rfl) (fun u250 pu250 fu250 => ?_)
              try dsimp only at pu250
              try simp only [lk248, lk249] at pu250
              obtain ⟨pu250_0, pu250_1⟩ := pu250
              have hq252 : oQ b (x + 1) (u250) := oQ_opnd (oQ_frb fu241 rfl (by omega) (oQ_fr fu226 rfl iv0)) pu250_0 (by omega) (by omega)
              have lk253 : ((u250).1 71 48).toInt = (t.1 71 48).toInt := congrArg Int32.toInt (((fu250 71 48 rfl).1).trans (((fu241 71 48 rfl).1).trans ((fu226 71 48 rfl).1)))
              have lk254 : ((u250).1 71 2).toInt = (u241.1 71 2).toInt := congrArg Int32.toInt ((fu250 71 2 rfl).1)
              have lk255 : ((u250).1 71 47).toInt = (t.1 71 47).toInt := congrArg Int32.toInt (((fu250 71 47 rfl).1).trans (((fu241 71 47 rfl).1).trans ((fu226 71 47 rfl).1)))
              have lk256 : ((u250).1 71 5).toInt = (u241.1 71 5).toInt := congrArg Int32.toInt ((fu250 71 5 rfl).1)
              have lk257 : ((u250).1 71 2).toInt = (u241.1 71 2).toInt := congrArg Int32.toInt ((fu250 71 2 rfl).1)
              have lk258 : ((u250).1 71 47).toInt = (t.1 71 47).toInt := congrArg Int32.toInt (((fu250 71 47 rfl).1).trans (((fu241 71 47 rfl).1).trans ((fu226 71 47 rfl).1)))
              have lk259 : ((u250).1 71 2).toInt = (u241.1 71 2).toInt := congrArg Int32.toInt ((fu250 71 2 rfl).1)
              exact r_vret C (oDec_at oX12_onePart 99 rfl) ⟨rfl, ⟨hq252, by omega, by omega, by omega, by omega, (oqJ_fr fu250 rfl hq245), (oqBP_fr fu250 rfl pu241_4)⟩⟩
            · skip
              replace pu226_0 := pu226_0.resolve_left (by omega)
              have lk260 : ((u226).1 71 5).toInt = v168.toInt := congrArg Int32.toInt (((fu226 71 5 rfl).1).trans (ev168))
              have lk261 : ((u226).1 71 48).toInt = (t.1 71 48).toInt := congrArg Int32.toInt ((fu226 71 48 rfl).1)
              have lk262 : ((u226).1 71 47).toInt = (t.1 71 47).toInt := congrArg Int32.toInt ((fu226 71 47 rfl).1)
              have hP2 := pu226_3 (by omega)
              clear pu226_2 pu226_3
              have hq263 : oqJ g fp fq cz kx b 3 (u226) := oqJ_go iv5 (by omega) (by omega) (oFr_row fu226 (c := 103) rfl rfl) (congrArg Int32.toInt (fu226 71 47 rfl).1) (oqp_wd (g := g) (p := fp) (q := fq) (a := (t.1 71 2).toInt) (b := (t.1 71 4).toInt) (o := (t.1 71 48).toInt) (j := (oqWi g (t.1 71 2).toInt (t.1 71 4).toInt).toNat) (by omega) (by omega) (by omega) (by omega)) (by first | omega | (congr 1; omega)) rfl rfl (by first | omega | (congr 1; omega)) (by first | omega | (congr 1; omega)) ((congrArg Int32.toInt (fu226 71 48 rfl).1)).symm
              refine r_iload_n C (j := 1) (oDec_at oX12_onePart 90 rfl) rfl rfl ?_
              refine r_goto C (tgt := 195) (oDec_at oX12_onePart 91 rfl) (by decide) ?_
              have lk264 : ((u226).1 71 45).toInt = (t.1 71 45).toInt := congrArg Int32.toInt ((fu226 71 45 rfl).1)
              have lk265 : ((u226).1 71 45).toInt = (t.1 71 45).toInt := congrArg Int32.toInt ((fu226 71 45 rfl).1)
              have lk266 : ((u226).1 71 45).toInt = (t.1 71 45).toInt := congrArg Int32.toInt ((fu226 71 45 rfl).1)
              refine r_callVv C oCl12 rfl miX12_lay mlX12_280 (ct_X12_lay l E (u226) r227 (by omega)) (by decide) rfl rfl rfl (Nat.le_of_ble_eq_true rfl) (oDec_at oX12_onePart 98 rfl) (fun u267 pu267 fu267 => ?_)
              try dsimp only at pu267
              try simp only [lk265, lk266] at pu267
              obtain ⟨pu267_0, pu267_1⟩ := pu267
              have hq269 : oQ b (x + 1) (u267) := oQ_opnd (oQ_fr fu226 rfl iv0) pu267_0 (by omega) (by omega)
              have lk270 : ((u267).1 71 48).toInt = (t.1 71 48).toInt := congrArg Int32.toInt (((fu267 71 48 rfl).1).trans ((fu226 71 48 rfl).1))
              have lk271 : ((u267).1 71 2).toInt = (u226.1 71 2).toInt := congrArg Int32.toInt ((fu267 71 2 rfl).1)
              have lk272 : ((u267).1 71 47).toInt = (t.1 71 47).toInt := congrArg Int32.toInt (((fu267 71 47 rfl).1).trans ((fu226 71 47 rfl).1))
              have lk273 : ((u267).1 71 5).toInt = v168.toInt := congrArg Int32.toInt (((fu267 71 5 rfl).1).trans (((fu226 71 5 rfl).1).trans (ev168)))
              have lk274 : ((u267).1 71 2).toInt = (u226.1 71 2).toInt := congrArg Int32.toInt ((fu267 71 2 rfl).1)
              have lk275 : ((u267).1 71 47).toInt = (t.1 71 47).toInt := congrArg Int32.toInt (((fu267 71 47 rfl).1).trans ((fu226 71 47 rfl).1))
              have lk276 : ((u267).1 71 2).toInt = (u226.1 71 2).toInt := congrArg Int32.toInt ((fu267 71 2 rfl).1)
              exact r_vret C (oDec_at oX12_onePart 99 rfl) ⟨rfl, ⟨hq269, by omega, by omega, by omega, by omega, (oqJ_fr fu267 rfl hq263), (oqBP_fr fu267 rfl (oqBP_fr fu226 rfl iv10))⟩⟩
        · skip
          have hq277 : oQ b (x + 1) (t) := oQ_bad iv0 (by omega)
          have hq278 : oqJ g fp fq cz kx b 3 (t) := oqJ_kp iv5 (by omega) rfl rfl
          have lk279 : ((t).1 71 5).toInt = v168.toInt := congrArg Int32.toInt (ev168)
          exact r_vret C (oDec_at oX12_onePart 76 rfl) ⟨rfl, ⟨hq277, by omega, by omega, by omega, by omega, hq278, iv10⟩⟩
  refine r_iconst C (oDec_at oX12_onePart 0 rfl) (v := k1) (by rw [qk1]; rfl) ?_
  refine r_istore_n C (lv' := [(0, .ref (oad E 71)), (1, .int k1)]) [1, 0] (oDec_at oX12_onePart 1 rfl) rfl (by decide) rfl ?_
  have hj := oB1_f ((s).1 71 5)
  exact (key (1000 * (1602 - ((s).1 71 2).toInt) + 10 * k1.toInt + 500 * oB1 ((s).1 71 5)).toNat).1 (s) k1  hp0 (by omega) (by omega) (by omega) (by omega) (by omega) hp5 (by first | (intro h9; exfalso; omega) | exact fun _ => oqN0_of (A := A1) (E := E1) (by omega) (by omega) hskA (by omega) hz24 hz25) (by omega) hp6 hp7 hp8 hp9 (by omega)
