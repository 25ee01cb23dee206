set_option maxHeartbeats 4000000 in
set_option maxRecDepth 100000 in
theorem ct9_X12_onePart (l : Launch) (E : oE) (s : oS)  (b : Nat) (x : Nat) (g : Int → Int) (fp : Int) (fq : Int) (cz : oqCf) (kx : Nat) (cw : oqCw) (xw : Int) (cs : Nat) (Cq : Nat → Int32) (hp0 : oQ b x s) (hp1 : (b : Int) ≤ 1700) (hp2 : (s.1 71 5).toInt = 0) (hp3 : 0 ≤ (s.1 71 48).toInt ∧ (s.1 71 48).toInt ≤ 6) (hp4 : (s.1 71 45).toInt + (s.1 71 47).toInt + 5 ≤ (s.1 71 2).toInt) (hp5 : oqJ g fp fq cz kx b 1 s) (hp6 : oqZ g s) (hp7 : oqWd s) (hp8 : oqMo fp fq s) (hp9 : oqBP s) (hp10 : oqJw g fp fq cw xw b cs 1 s) (hp11 : owC0 Cq s) : oMet l 5 yX12_onePart cX12_onePart 5 none [(12, 2), (12, 4), (12, 5), (12, 6), (12, 9), (12, 45), (12, 47), (12, 48), (78, 9999), (79, 9999)] E s [.ref (oad E 71)] (oPv (fun u => (oQ b (x + 1) u) ∧ (0 ≤ (u.1 71 48).toInt ∧ (u.1 71 48).toInt ≤ 6) ∧ ((s.1 71 2).toInt - (s.1 71 45).toInt - (s.1 71 47).toInt ≤ (u.1 71 2).toInt - (u.1 71 45).toInt - (u.1 71 47).toInt + 1) ∧ ((u.1 71 5).toInt = 0 → ((s.1 71 2).toInt - (s.1 71 45).toInt - (s.1 71 47).toInt ≤ (u.1 71 2).toInt - (u.1 71 45).toInt - (u.1 71 47).toInt ∧ (s.1 71 2).toInt + 1 ≤ (u.1 71 2).toInt)) ∧ ((s.1 71 2).toInt ≤ (u.1 71 2).toInt) ∧ (oqJ g fp fq cz kx b 3 u) ∧ (oqBP u) ∧ (oqJw g fp fq cw xw b cs 3 u) ∧ (owC0 Cq u))) := by
  refine oMet.of (lv := [(0, .ref (oad E 71))]) (by decide +kernel) (Nat.le_of_ble_eq_true rfl) rfl (fun J C hT => ?_)
  have C : oC l 5 cX12_onePart RX12 5 none [(12, 2), (12, 4), (12, 5), (12, 6), (12, 9), (12, 45), (12, 47), (12, 48), (78, 9999), (79, 9999)] E s (oPv (fun u => (oQ b (x + 1) u) ∧ (0 ≤ (u.1 71 48).toInt ∧ (u.1 71 48).toInt ≤ 6) ∧ ((s.1 71 2).toInt - (s.1 71 45).toInt - (s.1 71 47).toInt ≤ (u.1 71 2).toInt - (u.1 71 45).toInt - (u.1 71 47).toInt + 1) ∧ ((u.1 71 5).toInt = 0 → ((s.1 71 2).toInt - (s.1 71 45).toInt - (s.1 71 47).toInt ≤ (u.1 71 2).toInt - (u.1 71 45).toInt - (u.1 71 47).toInt ∧ (s.1 71 2).toInt + 1 ≤ (u.1 71 2).toInt)) ∧ ((s.1 71 2).toInt ≤ (u.1 71 2).toInt) ∧ (oqJ g fp fq cz kx b 3 u) ∧ (oqBP u) ∧ (oqJw g fp fq cw xw b cs 3 u) ∧ (owC0 Cq u))) J := C
  obtain ⟨km1, qkm1⟩ : ∃ z : Int32, z = (-1) := ⟨_, rfl⟩
  have ekm1 : km1.toInt = (-1) := by rw [qkm1]; rfl
  obtain ⟨k0, qk0⟩ : ∃ z : Int32, z = 0 := ⟨_, rfl⟩
  have ek0 : k0.toInt = 0 := by rw [qk0]; rfl
  obtain ⟨k1, qk1⟩ : ∃ z : Int32, z = 1 := ⟨_, rfl⟩
  have ek1 : k1.toInt = 1 := by rw [qk1]; rfl
  obtain ⟨k20, qk20⟩ : ∃ z : Int32, z = 20 := ⟨_, rfl⟩
  have ek20 : k20.toInt = 20 := by rw [qk20]; rfl
  obtain ⟨k21, qk21⟩ : ∃ z : Int32, z = 21 := ⟨_, rfl⟩
  have ek21 : k21.toInt = 21 := by rw [qk21]; rfl
  obtain ⟨k22, qk22⟩ : ∃ z : Int32, z = 22 := ⟨_, rfl⟩
  have ek22 : k22.toInt = 22 := by rw [qk22]; rfl
  obtain ⟨k40, qk40⟩ : ∃ z : Int32, z = 40 := ⟨_, rfl⟩
  have ek40 : k40.toInt = 40 := by rw [qk40]; rfl
  obtain ⟨k1000, qk1000⟩ : ∃ z : Int32, z = 1000 := ⟨_, rfl⟩
  have ek1000 : k1000.toInt = 1000 := by rw [qk1000]; rfl
  obtain ⟨k9999, qk9999⟩ : ∃ z : Int32, z = 9999 := ⟨_, rfl⟩
  have ek9999 : k9999.toInt = 9999 := by rw [qk9999]; rfl
  have key : ∀ n : Nat, (∀ (t : oS) (x1 : Int32), (oQ b x t) → (0 ≤ x1.toInt ∧ x1.toInt ≤ 1) → (0 ≤ (t.1 71 48).toInt ∧ (t.1 71 48).toInt ≤ 6) → ((t.1 71 5).toInt = 0 → (s.1 71 2).toInt - (s.1 71 45).toInt - (s.1 71 47).toInt ≤ (t.1 71 2).toInt - (t.1 71 45).toInt - (t.1 71 47).toInt) → ((s.1 71 2).toInt - (s.1 71 45).toInt - (s.1 71 47).toInt ≤ (t.1 71 2).toInt - (t.1 71 45).toInt - (t.1 71 47).toInt + 1) → ((s.1 71 2).toInt ≤ (t.1 71 2).toInt) → (oqJ g fp fq cz kx b 1 t) → (x1.toInt = 0 → oqN0 g t) → ((t.1 71 2).toInt = (t.1 71 2).toInt ∧ (t.1 71 4).toInt = (t.1 71 4).toInt) → (oqZ g t) → (oqWd t) → (oqMo fp fq t) → (oqBP t) → (oqJw g fp fq cw xw b cs 1 t) → (owC0 Cq t) → 1000 * (1602 - (t.1 71 2).toInt) + 10 * x1.toInt + 500 * oB1 (t.1 71 5) ≤ (n : Int) → J t 2 [(0, .ref (oad E 71)), (1, .int x1)] []) ∧ (∀ (t : oS) (x1 : Int32), (oQ b x t) → (x1.toInt = 1) → (0 ≤ (t.1 71 48).toInt ∧ (t.1 71 48).toInt ≤ 6) → ((t.1 71 5).toInt = 0) → ((s.1 71 2).toInt - (s.1 71 45).toInt - (s.1 71 47).toInt ≤ (t.1 71 2).toInt - (t.1 71 45).toInt - (t.1 71 47).toInt) → ((s.1 71 2).toInt ≤ (t.1 71 2).toInt) → (oqJ g fp fq cz kx b 1 t) → (oqN2 g t) → ((t.1 71 2).toInt = (t.1 71 2).toInt ∧ (t.1 71 4).toInt = (t.1 71 4).toInt) → (oqZ g t) → (oqWd t) → (oqMo fp fq t) → (oqBP t) → (oqJw g fp fq cw xw b cs 1 t) → (owC0 Cq t) → 1000 * (1602 - (t.1 71 2).toInt) + 400 ≤ (n : Int) → J t 69 [(0, .ref (oad E 71)), (1, .int x1)] []) ∧ (∀ (t : oS) (x1 : Int32) (x3 : Int32), (oQ b x t) → (x1.toInt = 1) → (0 ≤ (t.1 71 48).toInt ∧ (t.1 71 48).toInt ≤ 6) → ((t.1 71 5).toInt = 0 → (s.1 71 2).toInt - (s.1 71 45).toInt - (s.1 71 47).toInt + 3 ≤ (t.1 71 2).toInt - (t.1 71 45).toInt - (t.1 71 47).toInt) → ((s.1 71 2).toInt - (s.1 71 45).toInt - (s.1 71 47).toInt ≤ (t.1 71 2).toInt - (t.1 71 45).toInt - (t.1 71 47).toInt) → ((s.1 71 2).toInt ≤ (t.1 71 2).toInt) → (0 ≤ x3.toInt ∧ x3.toInt ≤ 1) → (x3.toInt = 1 → oqM g fp fq cz kx b 24 t) → (x3.toInt = 0 → oqM g fp fq cz kx b 25 t) → ((t.1 71 5).toInt = 0) → (oqZ g t) → (oqWd t) → (oqMo fp fq t) → (oqBP t) → (x3.toInt = 1 → oqMw g fp fq cw xw b cs 24 t) → (x3.toInt = 0 → oqMw g fp fq cw xw b cs 25 t) → (owC0 Cq t) → 1000 * (1602 - (t.1 71 2).toInt) + 300 ≤ (n : Int) → J t 90 [(0, .ref (oad E 71)), (1, .int x1), (3, .int x3)] []) ∧ (∀ (t : oS) (x1 : Int32), (oQ b x t) → (x1.toInt = 1) → (0 ≤ (t.1 71 48).toInt ∧ (t.1 71 48).toInt ≤ 6) → ((t.1 71 5).toInt = 0 → (s.1 71 2).toInt - (s.1 71 45).toInt - (s.1 71 47).toInt + 2 ≤ (t.1 71 2).toInt - (t.1 71 45).toInt - (t.1 71 47).toInt) → ((s.1 71 2).toInt - (s.1 71 45).toInt - (s.1 71 47).toInt ≤ (t.1 71 2).toInt - (t.1 71 45).toInt - (t.1 71 47).toInt + 1) → ((s.1 71 2).toInt ≤ (t.1 71 2).toInt) → (oqM2 g fp fq cz kx b t) → (oqZ g t) → (oqWd t) → (oqMo fp fq t) → (oqBP t) → (oqM2w g fp fq cw xw b cs t) → (owC0 Cq t) → 1000 * (1602 - (t.1 71 2).toInt) + 200 ≤ (n : Int) → J t 132 [(0, .ref (oad E 71)), (1, .int x1)] []) ∧ (∀ (t : oS), (oQ b x t) → (0 ≤ (t.1 71 48).toInt ∧ (t.1 71 48).toInt ≤ 6) → ((t.1 71 5).toInt = 0 → (s.1 71 2).toInt - (s.1 71 45).toInt - (s.1 71 47).toInt ≤ (t.1 71 2).toInt - (t.1 71 45).toInt - (t.1 71 47).toInt) → ((s.1 71 2).toInt - (s.1 71 45).toInt - (s.1 71 47).toInt ≤ (t.1 71 2).toInt - (t.1 71 45).toInt - (t.1 71 47).toInt + 1) → ((s.1 71 2).toInt ≤ (t.1 71 2).toInt) → (oqJ g fp fq cz kx b 1 t) → ((t.1 71 5).toInt = 0 → oqN0 g t) → (oqZ g t) → (oqWd t) → (oqMo fp fq t) → (oqBP t) → (oqJw g fp fq cw xw b cs 1 t) → (owC0 Cq t) → 50 ≤ (n : Int) → J t 146 [(0, .ref (oad E 71))] []) := by
    intro n
    induction n using Nat.strongRecOn with
    | _ n ih =>
      refine ⟨?_, ?_, ?_, ?_, ?_⟩
      · intro t x1  iv0 iv1 iv2 iv3 iv4 iv5 iv6 iv7 iv8 iv9 iv10 iv11 iv12 iv13 iv14 hmu
        have rx1 := n_rng x1
        have hjn := oB1_nn (t.1 71 5)
        refine r_ty C (fun hty => ?_)
        have hty_coded : (0 : Int) ≤ ((t).1 71 45).toInt ∧ ((t).1 71 45).toInt ≤ 1600 := hty.1 71 45
        have hty_waits : (0 : Int) ≤ ((t).1 71 47).toInt ∧ ((t).1 71 47).toInt ≤ 1700 := hty.1 71 47
        have hty_at : (0 : Int) ≤ ((t).1 71 2).toInt ∧ ((t).1 71 2).toInt ≤ 1600 := hty.1 71 2
        clear hty
        refine r_iload_n C (j := 1) (oDec_at oX12_onePart 2 rfl) rfl rfl ?_
        refine r_if_eq C 146 (oDec_at oX12_onePart 3 rfl) (by decide) (fun cd1 => ?_) (fun cd1 => ?_)
        · skip
          refine r_pick C [0] rfl ?_
          exact (ih (n - 1) (by omega)).2.2.2.2 (t)   iv0 (by omega) (by omega) (by omega) (by omega) iv6 (by first | exact fun _ => iv7 (by omega) | (intro h9; exfalso; omega)) iv9 iv10 iv11 iv12 iv13 iv14 (by omega)
        · skip
          refine r_aload_n C (j := 0) (oDec_at oX12_onePart 4 rfl) rfl rfl ?_
          obtain ⟨v2, ev2⟩ : ∃ z : Int32, (t).1 71 5 = z := ⟨_, rfl⟩
          have gv2 : (t.1 71 5).toInt = v2.toInt := congrArg Int32.toInt (ev2)
          have rv2 := n_rng v2
          refine r_geti (k := 5) (lo := (-2147483648)) (hi := 2147483647) C v2 oCl12 rfl (by decide) flX12_173 rfl rfl (ev2) rfl rfl (oDec_at oX12_onePart 5 rfl) (fun _ _ => ?_)
          refine r_if_ne C 146 (oDec_at oX12_onePart 6 rfl) (by decide) (fun cd3 => ?_) (fun cd3 => ?_)
          · skip
            have lk4 : ((t).1 71 5).toInt = v2.toInt := congrArg Int32.toInt (ev2)
            refine r_pick C [0] rfl ?_
            exact (ih (n - 1) (by omega)).2.2.2.2 (t)   iv0 (by omega) (by omega) (by omega) (by omega) iv6 (by first | exact fun _ => iv7 (by omega) | (intro h9; exfalso; omega)) iv9 iv10 iv11 iv12 iv13 iv14 (by omega)
          · skip
            have hj0 := oB1_0 (x := t.1 71 5) (by omega)
            refine r_aload_n C (j := 0) (oDec_at oX12_onePart 7 rfl) rfl rfl ?_
            obtain ⟨A, hA⟩ : ∃ z : Int, z = ((t).1 71 2).toInt := ⟨_, rfl⟩
            refine r_callVi C oCl12 rfl miX12_look mlX12_185 (ct4_X12_look l E (t)  (g) (A) (by omega) iv9) (by decide) rfl rfl rfl (Nat.le_of_ble_eq_true rfl) (oDec_at oX12_onePart 8 rfl) (fun r6 u5 pu5 fu5 => ?_)
            try dsimp only at pu5
            obtain ⟨pu5_0, pu5_1, pu5_2, pu5_3, pu5_4, pu5_5⟩ := pu5
            have rr6 := n_rng r6
            have hsk : oqSk g ((u5).1 71 2).toInt = ((u5).1 71 2).toInt := by rw [show ((u5).1 71 2).toInt = oqSk g A by omega]; exact oqSk_sk pu5_3
            have hgA : g ((u5).1 71 2).toInt = r6.toInt := by rw [show ((u5).1 71 2).toInt = oqSk g A by omega]; omega
            have hq7 : oqJ g fp fq cz kx b 1 (u5) := oqJ_id iv6 (oFr_row fu5 (c := 103) rfl rfl) (congrArg Int32.toInt (fu5 71 5 rfl).1) (congrArg Int32.toInt (fu5 71 47 rfl).1) (by rw [show ((u5).1 71 2).toInt = oqSk g A by omega, ← hA]; exact oqSk_sk pu5_3) (congrArg Int32.toInt (fu5 71 4 rfl).1) (congrArg Int32.toInt (fu5 71 48 rfl).1) (congrArg Int32.toInt (fu5 71 6 rfl).1)
            have hq8 : oqJw g fp fq cw xw b cs 1 (u5) := oqJw_id iv13 (oqSq_of fu5 rfl) (fun h9 => (congrArg Int32.toInt (fu5 71 5 rfl).1).symm.trans h9) (by rw [show ((u5).1 71 2).toInt = oqSk g A by omega, ← hA]; exact oqSk_sk pu5_3) (congrArg Int32.toInt (fu5 71 4 rfl).1)
            refine r_istore_n C (lv' := [(0, .ref (oad E 71)), (1, .int x1), (2, .int r6)]) [1, 2, 0] (oDec_at oX12_onePart 9 rfl) rfl (by decide) rfl ?_
            refine r_iload_n C (j := 2) (oDec_at oX12_onePart 10 rfl) rfl rfl ?_
            refine r_bipush C (oDec_at oX12_onePart 11 rfl) (v := k40) (by rw [qk40]; rfl) ?_
            refine r_icmp_ne C 47 (oDec_at oX12_onePart 12 rfl) (by decide) (fun cd9 => ?_) (fun cd9 => ?_)
            · skip
              have lk10 : ((u5).1 71 4).toInt = (t.1 71 4).toInt := congrArg Int32.toInt ((fu5 71 4 rfl).1)
              obtain ⟨A1, hA1⟩ : ∃ z : Int, z = ((u5).1 71 2).toInt := ⟨_, rfl⟩
              obtain ⟨E1, hE1⟩ : ∃ z : Int, z = ((u5).1 71 4).toInt := ⟨_, rfl⟩
              have hskA : oqSk g A1 = A1 := by rw [hA1]; exact hsk
              have hgA1 : g A1 = g ((u5).1 71 2).toInt := by rw [hA1]
              refine r_aload_n C (j := 0) (oDec_at oX12_onePart 25 rfl) rfl rfl ?_
              refine r_aload_n C (j := 0) (oDec_at oX12_onePart 26 rfl) rfl rfl ?_
              refine r_getF (k := 34) (b := 97) C oCl12 rfl (by decide) flX12_90 rfl rfl rfl (oDec_at oX12_onePart 27 rfl) ?_
              have lk11 : ((u5).1 71 4).toInt = (t.1 71 4).toInt := congrArg Int32.toInt ((fu5 71 4 rfl).1)
              have lk12 : ((u5).1 71 5).toInt = v2.toInt := congrArg Int32.toInt (((fu5 71 5 rfl).1).trans (ev2))
              refine r_callVi C oCl12 rfl miX12_isHere mlX12_196 (ct4_X12_isHere l E (u5) 97 73 3 rfl (by decide) (by decide) rfl rfl (g) (A1) (E1) (24) (by omega) (by omega) (oqZ_fr fu5 rfl iv9) (by omega) (by omega) rfl (oqWd_at (oqWd_fr fu5 rfl iv10) 24 (by decide)) (by omega)) (by decide) rfl rfl rfl (Nat.le_of_ble_eq_true rfl) (oDec_at oX12_onePart 28 rfl) (fun r14 u13 pu13 fu13 => ?_)
              try dsimp only at pu13
              try simp only [lk11, lk12] at pu13
              obtain ⟨pu13_0, pu13_1, pu13_2, pu13_3, pu13_4, pu13_5, pu13_6⟩ := pu13
              have rr14 := n_rng r14
              have hq15 : oqJ g fp fq cz kx b 1 (u13) := oqJ_id hq7 (oFr_row fu13 (c := 103) rfl rfl) (congrArg Int32.toInt (fu13 71 5 rfl).1) (congrArg Int32.toInt (fu13 71 47 rfl).1) (by rw [show ((u13).1 71 2).toInt = ((u5).1 71 2).toInt by omega]) (congrArg Int32.toInt (fu13 71 4 rfl).1) (congrArg Int32.toInt (fu13 71 48 rfl).1) (congrArg Int32.toInt (fu13 71 6 rfl).1)
              have hq16 : oqJw g fp fq cw xw b cs 1 (u13) := oqJw_id hq8 (oqSq_of fu13 rfl) (fun h9 => (congrArg Int32.toInt (fu13 71 5 rfl).1).symm.trans h9) (by rw [show ((u13).1 71 2).toInt = ((u5).1 71 2).toInt by omega]) (congrArg Int32.toInt (fu13 71 4 rfl).1)
              refine r_if_ne C 69 (oDec_at oX12_onePart 29 rfl) (by decide) (fun cd17 => ?_) (fun cd17 => ?_)
              · skip
                replace pu13_4 := pu13_4 (by omega)
                clear pu13_5
                replace pu13_6 := pu13_6 (by omega)
                have lk18 : ((u13).1 71 48).toInt = (t.1 71 48).toInt := congrArg Int32.toInt (((fu13 71 48 rfl).1).trans ((fu5 71 48 rfl).1))
                have lk19 : ((u13).1 71 5).toInt = v2.toInt := congrArg Int32.toInt (((fu13 71 5 rfl).1).trans (((fu5 71 5 rfl).1).trans (ev2)))
                have lk20 : ((u13).1 71 45).toInt = (t.1 71 45).toInt := congrArg Int32.toInt (((fu13 71 45 rfl).1).trans ((fu5 71 45 rfl).1))
                have lk21 : ((u13).1 71 47).toInt = (t.1 71 47).toInt := congrArg Int32.toInt (((fu13 71 47 rfl).1).trans ((fu5 71 47 rfl).1))
                have lk22 : ((u13).1 71 4).toInt = (t.1 71 4).toInt := congrArg Int32.toInt (((fu13 71 4 rfl).1).trans ((fu5 71 4 rfl).1))
                refine r_pick C [0, 1] rfl ?_
                exact (ih (n - 1) (by omega)).2.1 (u13) x1  (oQ_fr fu13 rfl (oQ_fr fu5 rfl iv0)) (by omega) (by omega) (by omega) (by omega) (by omega) hq15 (by exact oqN2_of (A := A1) (E := E1) (by omega) (by omega) hskA (by omega) (by first | (left; omega) | (right; omega))) (by omega) (oqZ_fr fu13 rfl (oqZ_fr fu5 rfl iv9)) (oqWd_fr fu13 rfl (oqWd_fr fu5 rfl iv10)) (oqMo_fr fu13 rfl (oqMo_fr fu5 rfl iv11)) (oqBP_fr fu13 rfl (oqBP_fr fu5 rfl iv12)) hq16 (owC0_fr fu13 rfl (owC0_fr fu5 rfl iv14)) (by omega)
              · skip
                clear pu13_4
                replace pu13_5 := pu13_5 (by omega)
                clear pu13_6
                have hz24 := oqWi_w (g := g) (A := A1) (E := E1) (i := 24) (by decide) (by omega)
                refine r_aload_n C (j := 0) (oDec_at oX12_onePart 30 rfl) rfl rfl ?_
                refine r_aload_n C (j := 0) (oDec_at oX12_onePart 31 rfl) rfl rfl ?_
                refine r_getF (k := 35) (b := 98) C oCl12 rfl (by decide) flX12_93 rfl rfl rfl (oDec_at oX12_onePart 32 rfl) ?_
                have lk23 : ((u13).1 71 4).toInt = (t.1 71 4).toInt := congrArg Int32.toInt (((fu13 71 4 rfl).1).trans ((fu5 71 4 rfl).1))
                have lk24 : ((u13).1 71 5).toInt = v2.toInt := congrArg Int32.toInt (((fu13 71 5 rfl).1).trans (((fu5 71 5 rfl).1).trans (ev2)))
                refine r_callVi C oCl12 rfl miX12_isHere mlX12_196 (ct4_X12_isHere l E (u13) 98 74 3 rfl (by decide) (by decide) rfl rfl (g) (A1) (E1) (25) (by omega) (by omega) (oqZ_fr fu13 rfl (oqZ_fr fu5 rfl iv9)) (by omega) (by omega) rfl (oqWd_at (oqWd_fr fu13 rfl (oqWd_fr fu5 rfl iv10)) 25 (by decide)) (by omega)) (by decide) rfl rfl rfl (Nat.le_of_ble_eq_true rfl) (oDec_at oX12_onePart 33 rfl) (fun r26 u25 pu25 fu25 => ?_)
                try dsimp only at pu25
                try simp only [lk23, lk24] at pu25
                obtain ⟨pu25_0, pu25_1, pu25_2, pu25_3, pu25_4, pu25_5, pu25_6⟩ := pu25
                have rr26 := n_rng r26
                have hq27 : oqJ g fp fq cz kx b 1 (u25) := oqJ_id hq15 (oFr_row fu25 (c := 103) rfl rfl) (congrArg Int32.toInt (fu25 71 5 rfl).1) (congrArg Int32.toInt (fu25 71 47 rfl).1) (by rw [show ((u25).1 71 2).toInt = ((u13).1 71 2).toInt by omega]) (congrArg Int32.toInt (fu25 71 4 rfl).1) (congrArg Int32.toInt (fu25 71 48 rfl).1) (congrArg Int32.toInt (fu25 71 6 rfl).1)
                have hq28 : oqJw g fp fq cw xw b cs 1 (u25) := oqJw_id hq16 (oqSq_of fu25 rfl) (fun h9 => (congrArg Int32.toInt (fu25 71 5 rfl).1).symm.trans h9) (by rw [show ((u25).1 71 2).toInt = ((u13).1 71 2).toInt by omega]) (congrArg Int32.toInt (fu25 71 4 rfl).1)
                refine r_if_eq C 141 (oDec_at oX12_onePart 34 rfl) (by decide) (fun cd29 => ?_) (fun cd29 => ?_)
                · skip
                  clear pu25_4
                  replace pu25_5 := pu25_5 (by omega)
                  clear pu25_6
                  have hz25 := oqWi_w (g := g) (A := A1) (E := E1) (i := 25) (by decide) (by omega)
                  refine r_iconst C (oDec_at oX12_onePart 70 rfl) (v := k0) (by rw [qk0]; rfl) ?_
                  refine r_istore_n C (lv' := [(0, .ref (oad E 71)), (1, .int k0), (2, .int r6)]) [1, 0, 2] (oDec_at oX12_onePart 71 rfl) rfl (by decide) rfl ?_
                  refine r_goto C (tgt := 2) (oDec_at oX12_onePart 72 rfl) (by decide) ?_
                  have lk30 : ((u25).1 71 48).toInt = (t.1 71 48).toInt := congrArg Int32.toInt (((fu25 71 48 rfl).1).trans (((fu13 71 48 rfl).1).trans ((fu5 71 48 rfl).1)))
                  have lk31 : ((u25).1 71 5).toInt = v2.toInt := congrArg Int32.toInt (((fu25 71 5 rfl).1).trans (((fu13 71 5 rfl).1).trans (((fu5 71 5 rfl).1).trans (ev2))))
                  have lk32 : ((u25).1 71 45).toInt = (t.1 71 45).toInt := congrArg Int32.toInt (((fu25 71 45 rfl).1).trans (((fu13 71 45 rfl).1).trans ((fu5 71 45 rfl).1)))
                  have lk33 : ((u25).1 71 47).toInt = (t.1 71 47).toInt := congrArg Int32.toInt (((fu25 71 47 rfl).1).trans (((fu13 71 47 rfl).1).trans ((fu5 71 47 rfl).1)))
                  have lk34 : ((u25).1 71 45).toInt = (t.1 71 45).toInt := congrArg Int32.toInt (((fu25 71 45 rfl).1).trans (((fu13 71 45 rfl).1).trans ((fu5 71 45 rfl).1)))
                  have lk35 : ((u25).1 71 47).toInt = (t.1 71 47).toInt := congrArg Int32.toInt (((fu25 71 47 rfl).1).trans (((fu13 71 47 rfl).1).trans ((fu5 71 47 rfl).1)))
                  have lk36 : ((u25).1 71 4).toInt = (t.1 71 4).toInt := congrArg Int32.toInt (((fu25 71 4 rfl).1).trans (((fu13 71 4 rfl).1).trans ((fu5 71 4 rfl).1)))
                  have hj := oB1_f ((u25).1 71 5)
                  refine r_pick C [0, 1] rfl ?_
                  exact (ih (n - 1) (by omega)).1 (u25) k0  (oQ_fr fu25 rfl (oQ_fr fu13 rfl (oQ_fr fu5 rfl iv0))) (by omega) (by omega) (by omega) (by omega) (by omega) hq27 (by first | (intro h9; exfalso; omega) | exact fun _ => oqN0_of (A := A1) (E := E1) (by omega) (by omega) hskA (by omega) hz24 hz25) (by omega) (oqZ_fr fu25 rfl (oqZ_fr fu13 rfl (oqZ_fr fu5 rfl iv9))) (oqWd_fr fu25 rfl (oqWd_fr fu13 rfl (oqWd_fr fu5 rfl iv10))) (oqMo_fr fu25 rfl (oqMo_fr fu13 rfl (oqMo_fr fu5 rfl iv11))) (oqBP_fr fu25 rfl (oqBP_fr fu13 rfl (oqBP_fr fu5 rfl iv12))) hq28 (owC0_fr fu25 rfl (owC0_fr fu13 rfl (owC0_fr fu5 rfl iv14))) (by omega)
                · skip
                  replace pu25_4 := pu25_4 (by omega)
                  clear pu25_5
                  replace pu25_6 := pu25_6 (by omega)
                  have lk37 : ((u25).1 71 48).toInt = (t.1 71 48).toInt := congrArg Int32.toInt (((fu25 71 48 rfl).1).trans (((fu13 71 48 rfl).1).trans ((fu5 71 48 rfl).1)))
                  have lk38 : ((u25).1 71 5).toInt = v2.toInt := congrArg Int32.toInt (((fu25 71 5 rfl).1).trans (((fu13 71 5 rfl).1).trans (((fu5 71 5 rfl).1).trans (ev2))))
                  have lk39 : ((u25).1 71 45).toInt = (t.1 71 45).toInt := congrArg Int32.toInt (((fu25 71 45 rfl).1).trans (((fu13 71 45 rfl).1).trans ((fu5 71 45 rfl).1)))
                  have lk40 : ((u25).1 71 47).toInt = (t.1 71 47).toInt := congrArg Int32.toInt (((fu25 71 47 rfl).1).trans (((fu13 71 47 rfl).1).trans ((fu5 71 47 rfl).1)))
                  have lk41 : ((u25).1 71 4).toInt = (t.1 71 4).toInt := congrArg Int32.toInt (((fu25 71 4 rfl).1).trans (((fu13 71 4 rfl).1).trans ((fu5 71 4 rfl).1)))
                  refine r_pick C [0, 1] rfl ?_
                  exact (ih (n - 1) (by omega)).2.1 (u25) x1  (oQ_fr fu25 rfl (oQ_fr fu13 rfl (oQ_fr fu5 rfl iv0))) (by omega) (by omega) (by omega) (by omega) (by omega) hq27 (by exact oqN2_of (A := A1) (E := E1) (by omega) (by omega) hskA (by omega) (by first | (left; omega) | (right; omega))) (by omega) (oqZ_fr fu25 rfl (oqZ_fr fu13 rfl (oqZ_fr fu5 rfl iv9))) (oqWd_fr fu25 rfl (oqWd_fr fu13 rfl (oqWd_fr fu5 rfl iv10))) (oqMo_fr fu25 rfl (oqMo_fr fu13 rfl (oqMo_fr fu5 rfl iv11))) (oqBP_fr fu25 rfl (oqBP_fr fu13 rfl (oqBP_fr fu5 rfl iv12))) hq28 (owC0_fr fu25 rfl (owC0_fr fu13 rfl (owC0_fr fu5 rfl iv14))) (by omega)
            · skip
              refine r_aload_n C (j := 0) (oDec_at oX12_onePart 13 rfl) rfl rfl ?_
              refine r_bipush C (oDec_at oX12_onePart 14 rfl) (v := k20) (by rw [qk20]; rfl) ?_
              refine r_aload_n C (j := 0) (oDec_at oX12_onePart 15 rfl) rfl rfl ?_
              obtain ⟨v42, ev42⟩ : ∃ z : Int32, (u5).1 71 2 = z := ⟨_, rfl⟩
              have gv42 : (u5.1 71 2).toInt = v42.toInt := congrArg Int32.toInt (ev42)
              refine r_geti (k := 2) (lo := 0) (hi := 1600) C v42 oCl12 rfl (by decide) flX12_179 rfl rfl (ev42) rfl rfl (oDec_at oX12_onePart 16 rfl) (fun b43 b43h => ?_)
              have lk44 : ((u5).1 71 47).toInt = (t.1 71 47).toInt := congrArg Int32.toInt ((fu5 71 47 rfl).1)
              have lk45 : ((u5).1 71 2).toInt = v42.toInt := congrArg Int32.toInt (ev42)
              have lk46 : ((u5).1 71 4).toInt = (t.1 71 4).toInt := congrArg Int32.toInt ((fu5 71 4 rfl).1)
              have lk47 : ((u5).1 71 5).toInt = v2.toInt := congrArg Int32.toInt (((fu5 71 5 rfl).1).trans (ev2))
              have lk48 : ((u5).1 71 48).toInt = (t.1 71 48).toInt := congrArg Int32.toInt ((fu5 71 48 rfl).1)
              have lk49 : ((u5).1 71 47).toInt = (t.1 71 47).toInt := congrArg Int32.toInt ((fu5 71 47 rfl).1)
              have lk50 : ((u5).1 71 48).toInt = (t.1 71 48).toInt := congrArg Int32.toInt ((fu5 71 48 rfl).1)
              have lk51 : ((u5).1 71 5).toInt = v2.toInt := congrArg Int32.toInt (((fu5 71 5 rfl).1).trans (ev2))
              have lk52 : ((u5).1 71 48).toInt = (t.1 71 48).toInt := congrArg Int32.toInt ((fu5 71 48 rfl).1)
              have lk53 : ((u5).1 71 47).toInt = (t.1 71 47).toInt := congrArg Int32.toInt ((fu5 71 47 rfl).1)
              refine r_callVv C oCl12 rfl miX12_opens mlX12_292 (ct7_X12_opens l E (u5) k20 v42 (by omega) (by omega) (by omega) (oqBP_fr fu5 rfl iv12)) (by decide) rfl rfl rfl (Nat.le_of_ble_eq_true rfl) (oDec_at oX12_onePart 17 rfl) (fun u54 pu54 fu54 => ?_)
              try dsimp only at pu54
              try simp only [lk49, lk50, lk51, lk52, lk53] at pu54
              obtain ⟨pu54_0, pu54_1, pu54_2⟩ := pu54
              have lk56 : ((u54).1 71 2).toInt = v42.toInt := congrArg Int32.toInt (((fu54 71 2 rfl).1).trans (ev42))
              have lk57 : ((u54).1 71 4).toInt = (t.1 71 4).toInt := congrArg Int32.toInt (((fu54 71 4 rfl).1).trans ((fu5 71 4 rfl).1))
              have hq58 : oQ b x (u54) := oQ_opens fu54 rfl (oQ_fr fu5 rfl iv0) pu54_1 (by omega) (by omega) (by omega)
              refine r_aload_n C (j := 0) (oDec_at oX12_onePart 18 rfl) rfl rfl ?_
              refine r_pc C 35 rfl ?_
              refine r_dup C (oDec_at oX12_onePart 19 rfl) rfl ?_
              refine r_geti (k := 2) (lo := 0) (hi := 1600) C v42 oCl12 rfl (by decide) flX12_179 rfl rfl (((fu54 71 2 rfl).1).trans (ev42)) rfl rfl (oDec_at oX12_onePart 20 rfl) (fun _ _ => ?_)
              refine r_iconst C (oDec_at oX12_onePart 21 rfl) (v := k1) (by rw [qk1]; rfl) ?_
              obtain ⟨v59, ev59⟩ : ∃ z : Int32, z = v42 + k1 := ⟨_, rfl⟩
              have hv59 : v59.toInt = v42.toInt + k1.toInt := n_add ev59 (by omega) (by omega)
              refine r_iadd C v59 (oDec_at oX12_onePart 22 rfl) ev59 ?_
              refine r_puti (k := 2) (lo := 0) (hi := 1600) C oCl12 rfl (by decide) flX12_179 rfl rfl rfl rfl rfl rfl rfl rfl ⟨by omega, by omega⟩ (oDec_at oX12_onePart 23 rfl) ?_
              have hq60 : oqJ g fp fq cz kx b 1 ((pI u54 71 2 v59)) := oqJ_par hq7 (by omega) pu54_1 (by omega) hsk (by omega) (by omega) (by omega) (by omega) (by omega)
              have hq61 : oqJw g fp fq cw xw b cs 1 ((pI u54 71 2 v59)) := oqJw_par hq8 (by omega) pu54_1 (by omega) hsk (by omega) (by omega) (by omega) (by omega)
              refine r_goto C (tgt := 143) (oDec_at oX12_onePart 24 rfl) (by decide) ?_
              refine r_goto C (tgt := 2) (oDec_at oX12_onePart 72 rfl) (by decide) ?_
              have lk62 : (((pI u54 71 2 v59)).1 71 48).toInt = (u54.1 71 48).toInt := congrArg Int32.toInt ((pI_ne (a := 71) (b := 48) (c := 71) (k := 2) _ _ (Or.inr (by decide))))
              have lk63 : (((pI u54 71 2 v59)).1 71 5).toInt = (u54.1 71 5).toInt := congrArg Int32.toInt ((pI_ne (a := 71) (b := 5) (c := 71) (k := 2) _ _ (Or.inr (by decide))))
              have lk64 : (((pI u54 71 2 v59)).1 71 2).toInt = v59.toInt := congrArg Int32.toInt ((pI_self _ _ _ _))
              have lk65 : (((pI u54 71 2 v59)).1 71 45).toInt = (t.1 71 45).toInt := congrArg Int32.toInt (((pI_ne (a := 71) (b := 45) (c := 71) (k := 2) _ _ (Or.inr (by decide)))).trans (((fu54 71 45 rfl).1).trans ((fu5 71 45 rfl).1)))
              have lk66 : (((pI u54 71 2 v59)).1 71 47).toInt = (u54.1 71 47).toInt := congrArg Int32.toInt ((pI_ne (a := 71) (b := 47) (c := 71) (k := 2) _ _ (Or.inr (by decide))))
              have lk67 : (((pI u54 71 2 v59)).1 71 2).toInt = v59.toInt := congrArg Int32.toInt ((pI_self _ _ _ _))
              have lk68 : (((pI u54 71 2 v59)).1 71 45).toInt = (t.1 71 45).toInt := congrArg Int32.toInt (((pI_ne (a := 71) (b := 45) (c := 71) (k := 2) _ _ (Or.inr (by decide)))).trans (((fu54 71 45 rfl).1).trans ((fu5 71 45 rfl).1)))
              have lk69 : (((pI u54 71 2 v59)).1 71 47).toInt = (u54.1 71 47).toInt := congrArg Int32.toInt ((pI_ne (a := 71) (b := 47) (c := 71) (k := 2) _ _ (Or.inr (by decide))))
              have lk70 : (((pI u54 71 2 v59)).1 71 2).toInt = v59.toInt := congrArg Int32.toInt ((pI_self _ _ _ _))
              have lk71 : (((pI u54 71 2 v59)).1 71 2).toInt = v59.toInt := congrArg Int32.toInt ((pI_self _ _ _ _))
              have lk72 : (((pI u54 71 2 v59)).1 71 4).toInt = (t.1 71 4).toInt := congrArg Int32.toInt (((pI_ne (a := 71) (b := 4) (c := 71) (k := 2) _ _ (Or.inr (by decide)))).trans (((fu54 71 4 rfl).1).trans ((fu5 71 4 rfl).1)))
              have lk73 : (((pI u54 71 2 v59)).1 71 2).toInt = v59.toInt := congrArg Int32.toInt ((pI_self _ _ _ _))
              have hj := oB1_f (((pI u54 71 2 v59)).1 71 5)
              refine r_pick C [0, 1] rfl ?_
              exact (ih (n - 1) (by omega)).1 ((pI u54 71 2 v59)) x1  (oQ_fr (oFr_oneI (q := 12) (m := 2) rfl (by rfl)) rfl hq58) (by omega) (by omega) (by omega) (by omega) (by omega) hq60 (by first | (intro h9; exfalso; omega) | exact fun _ => oqN0_of (A := A1) (E := E1) (by omega) (by omega) hskA (by omega) hz24 hz25) (by omega) (oqZ_fr (oFr_oneI (q := 12) (m := 2) rfl (by rfl)) rfl (oqZ_fr fu54 rfl (oqZ_fr fu5 rfl iv9))) (oqWd_fr (oFr_oneI (q := 12) (m := 2) rfl (by rfl)) rfl (oqWd_fr fu54 rfl (oqWd_fr fu5 rfl iv10))) (oqMo_fr (oFr_oneI (q := 12) (m := 2) rfl (by rfl)) rfl (oqMo_fr fu54 rfl (oqMo_fr fu5 rfl iv11))) (oqBP_fr (oFr_oneI (q := 12) (m := 2) rfl (by rfl)) rfl pu54_2) hq61 (owC0_fr (oFr_oneI (q := 12) (m := 2) rfl (by rfl)) rfl (owC0_fr fu54 rfl (owC0_fr fu5 rfl iv14))) (by omega)
      · intro t x1  iv0 iv1 iv2 iv3 iv4 iv5 iv6 iv7 iv8 iv9 iv10 iv11 iv12 iv13 iv14 hmu
        have rx1 := n_rng x1
        refine r_ty C (fun hty => ?_)
        have hty_coded : (0 : Int) ≤ ((t).1 71 45).toInt ∧ ((t).1 71 45).toInt ≤ 1600 := hty.1 71 45
        have hty_waits : (0 : Int) ≤ ((t).1 71 47).toInt ∧ ((t).1 71 47).toInt ≤ 1700 := hty.1 71 47
        have hty_at : (0 : Int) ≤ ((t).1 71 2).toInt ∧ ((t).1 71 2).toInt ≤ 1600 := hty.1 71 2
        clear hty
        obtain ⟨hn1, hn2, hn3⟩ := iv7
        have hHa24 : oqHa g (t.1 71 2).toInt 24 = oqSk g (t.1 71 2).toInt + (oqWl 24 : Int) := rfl
        have hHa25 : oqHa g (t.1 71 2).toInt 25 = oqSk g (t.1 71 2).toInt + (oqWl 25 : Int) := rfl
        have hl24 : oqWl 24 = 3 := rfl
        have hl25 : oqWl 25 = 3 := rfl
        refine r_aload_n C (j := 0) (oDec_at oX12_onePart 35 rfl) rfl rfl ?_
        refine r_aload_n C (j := 0) (oDec_at oX12_onePart 36 rfl) rfl rfl ?_
        refine r_getF (k := 34) (b := 97) C oCl12 rfl (by decide) flX12_90 rfl rfl rfl (oDec_at oX12_onePart 37 rfl) ?_
        refine r_callVi C oCl12 rfl miX12_takes mlX12_200 (ct6_X12_takes l E (t) 97 73 3 rfl (by decide) (by decide) rfl rfl (g) ((t.1 71 2).toInt) ((t.1 71 4).toInt) (24) (by omega) (by omega) iv9 (by omega) (by omega) rfl (oqWd_at iv10 24 (by decide)) (by omega)) (by decide) rfl rfl rfl (Nat.le_of_ble_eq_true rfl) (oDec_at oX12_onePart 38 rfl) (fun r75 u74 pu74 fu74 => ?_)
        try dsimp only at pu74
        obtain ⟨pu74_0, pu74_1, pu74_2, pu74_3, pu74_4⟩ := pu74
        have rr75 := n_rng r75
        refine r_istore_n C (lv' := [(0, .ref (oad E 71)), (1, .int x1), (3, .int r75)]) [1, 2, 0] (oDec_at oX12_onePart 39 rfl) rfl (by decide) rfl ?_
        refine r_iload_n C (j := 2) (oDec_at oX12_onePart 40 rfl) rfl rfl ?_
        refine r_pc C 79 rfl ?_
        refine r_if_ne C 90 (oDec_at oX12_onePart 41 rfl) (by decide) (fun cd76 => ?_) (fun cd76 => ?_)
        · skip
          replace pu74_1 := pu74_1 (by omega)
          clear pu74_2
          have lk77 : ((u74).1 71 48).toInt = (t.1 71 48).toInt := congrArg Int32.toInt ((fu74 71 48 rfl).1)
          have lk78 : ((u74).1 71 5).toInt = (t.1 71 5).toInt := congrArg Int32.toInt ((fu74 71 5 rfl).1)
          have lk79 : ((u74).1 71 45).toInt = (t.1 71 45).toInt := congrArg Int32.toInt ((fu74 71 45 rfl).1)
          have lk80 : ((u74).1 71 47).toInt = (t.1 71 47).toInt := congrArg Int32.toInt ((fu74 71 47 rfl).1)
          have lk81 : ((u74).1 71 45).toInt = (t.1 71 45).toInt := congrArg Int32.toInt ((fu74 71 45 rfl).1)
          have lk82 : ((u74).1 71 47).toInt = (t.1 71 47).toInt := congrArg Int32.toInt ((fu74 71 47 rfl).1)
          have lk83 : ((u74).1 71 5).toInt = (t.1 71 5).toInt := congrArg Int32.toInt ((fu74 71 5 rfl).1)
          exact (ih (n - 1) (by omega)).2.2.1 (u74) x1 r75  (oQ_fr fu74 rfl iv0) (by omega) (by omega) (by omega) (by omega) (by omega) (by omega) (by first | exact fun _ => oqM_of (s := t) iv6 (by omega) (oFr_row fu74 (c := 103) rfl rfl) (congrArg Int32.toInt (fu74 71 47 rfl).1) (congrArg Int32.toInt (fu74 71 48 rfl).1) (by omega) (by omega) (oqWi_y (i := 24) (by decide) (by omega)) (by omega) (by omega) | (intro h; exfalso; omega)) (by first | (intro h; exfalso; omega) | exact fun _ => oqM_of (s := t) iv6 (by omega) ((oFr_row fu74 (c := 103) rfl rfl).trans (oFr_row fu74 (c := 103) rfl rfl)) ((congrArg Int32.toInt (fu74 71 47 rfl).1).trans (congrArg Int32.toInt (fu74 71 47 rfl).1)) ((congrArg Int32.toInt (fu74 71 48 rfl).1).trans (congrArg Int32.toInt (fu74 71 48 rfl).1)) (by omega) (by omega) hW25 (by omega) (by omega)) (by omega) (oqZ_fr fu74 rfl iv9) (oqWd_fr fu74 rfl iv10) (oqMo_fr fu74 rfl iv11) (oqBP_fr fu74 rfl iv12) (by first | exact fun _ => oqMw_of (s := t) iv13 (by omega) (oqSq_of fu74 rfl) (by omega) (by omega) (oqWi_y (i := 24) (by decide) (by omega)) (by omega) (by omega) | (intro h; exfalso; omega)) (by first | (intro h; exfalso; omega) | exact fun _ => oqMw_of (s := t) iv13 (by omega) (oqSq.tr (oqSq_of fu74 rfl) (oqSq_of fu74 rfl)) (by omega) (by omega) hW25 (by omega) (by omega)) (owC0_fr fu74 rfl iv14) (by omega)
        · skip
          clear pu74_1
          replace pu74_2 := pu74_2 (by omega)
          have hW25 : oqWi g (t.1 71 2).toInt (t.1 71 4).toInt = 25 := by (rcases hn3 with h9 | h9; exact absurd h9 (oqWi_w (i := 24) (by decide) (by omega)); exact h9)
          have hH25 := (oqWi_is (g := g) (a := (t.1 71 2).toInt) (b := (t.1 71 4).toInt) (i := 25) (by decide)).mp hW25
          clear hn3
          refine r_aload_n C (j := 0) (oDec_at oX12_onePart 42 rfl) rfl rfl ?_
          refine r_aload_n C (j := 0) (oDec_at oX12_onePart 43 rfl) rfl rfl ?_
          refine r_getF (k := 35) (b := 98) C oCl12 rfl (by decide) flX12_93 rfl rfl rfl (oDec_at oX12_onePart 44 rfl) ?_
          have lk84 : ((u74).1 71 5).toInt = (t.1 71 5).toInt := congrArg Int32.toInt ((fu74 71 5 rfl).1)
          have lk85 : ((u74).1 71 5).toInt = (t.1 71 5).toInt := congrArg Int32.toInt ((fu74 71 5 rfl).1)
          have lk86 : ((u74).1 71 6).toInt = (t.1 71 6).toInt := congrArg Int32.toInt ((fu74 71 6 rfl).1)
          have lk87 : ((u74).1 71 5).toInt = (t.1 71 5).toInt := congrArg Int32.toInt ((fu74 71 5 rfl).1)
          have lk88 : ((u74).1 71 6).toInt = (t.1 71 6).toInt := congrArg Int32.toInt ((fu74 71 6 rfl).1)
          refine r_callVv C oCl12 rfl miX12_asks mlX12_240 (ct7_X12_asks l E (u74) 98 74 3 rfl (by decide) (by decide) rfl rfl (g) ((t.1 71 2).toInt) ((t.1 71 4).toInt) (25) (by omega) (oqZ_fr fu74 rfl iv9) (by omega) rfl (oqWd_at (oqWd_fr fu74 rfl iv10) 25 (by decide)) (by omega) (oqBP_fr fu74 rfl iv12)) (by decide) rfl rfl rfl (Nat.le_of_ble_eq_true rfl) (oDec_at oX12_onePart 45 rfl) (fun u89 pu89 fu89 => ?_)
          try dsimp only at pu89
          try simp only [lk84, lk85, lk86, lk87, lk88] at pu89
          obtain ⟨pu89_0, pu89_1, pu89_2, pu89_3⟩ := pu89
          have lk91 : ((u89).1 71 48).toInt = (t.1 71 48).toInt := congrArg Int32.toInt (((fu89 71 48 rfl).1).trans ((fu74 71 48 rfl).1))
          have lk92 : ((u89).1 71 45).toInt = (t.1 71 45).toInt := congrArg Int32.toInt (((fu89 71 45 rfl).1).trans ((fu74 71 45 rfl).1))
          have lk93 : ((u89).1 71 47).toInt = (t.1 71 47).toInt := congrArg Int32.toInt (((fu89 71 47 rfl).1).trans ((fu74 71 47 rfl).1))
          have lk94 : ((u89).1 71 45).toInt = (t.1 71 45).toInt := congrArg Int32.toInt (((fu89 71 45 rfl).1).trans ((fu74 71 45 rfl).1))
          have lk95 : ((u89).1 71 47).toInt = (t.1 71 47).toInt := congrArg Int32.toInt (((fu89 71 47 rfl).1).trans ((fu74 71 47 rfl).1))
          exact (ih (n - 1) (by omega)).2.2.1 (u89) x1 r75  (oQ_frb fu89 rfl (by omega) (oQ_fr fu74 rfl iv0)) (by omega) (by omega) (by omega) (by omega) (by omega) (by omega) (by first | exact fun _ => oqM_of (s := t) iv6 (by omega) (oFr_row fu74 (c := 103) rfl rfl) (congrArg Int32.toInt (fu74 71 47 rfl).1) (congrArg Int32.toInt (fu74 71 48 rfl).1) (by omega) (by omega) (oqWi_y (i := 24) (by decide) (by omega)) (by omega) (by omega) | (intro h; exfalso; omega)) (by first | (intro h; exfalso; omega) | exact fun _ => oqM_of (s := t) iv6 (by omega) ((oFr_row fu89 (c := 103) rfl rfl).trans (oFr_row fu74 (c := 103) rfl rfl)) ((congrArg Int32.toInt (fu89 71 47 rfl).1).trans (congrArg Int32.toInt (fu74 71 47 rfl).1)) ((congrArg Int32.toInt (fu89 71 48 rfl).1).trans (congrArg Int32.toInt (fu74 71 48 rfl).1)) (by omega) (by omega) hW25 (by omega) (by omega)) (by omega) (oqZ_fr fu89 rfl (oqZ_fr fu74 rfl iv9)) (oqWd_fr fu89 rfl (oqWd_fr fu74 rfl iv10)) (oqMo_fr fu89 rfl (oqMo_fr fu74 rfl iv11)) pu89_3 (by first | exact fun _ => oqMw_of (s := t) iv13 (by omega) (oqSq_of fu74 rfl) (by omega) (by omega) (oqWi_y (i := 24) (by decide) (by omega)) (by omega) (by omega) | (intro h; exfalso; omega)) (by first | (intro h; exfalso; omega) | exact fun _ => oqMw_of (s := t) iv13 (by omega) (oqSq.tr (oqSq_of fu74 rfl) (oqSq_of fu89 rfl)) (by omega) (by omega) hW25 (by omega) (by omega)) (owC0_fr fu89 rfl (owC0_fr fu74 rfl iv14)) (by omega)
      · intro t x1 x3  iv0 iv1 iv2 iv3 iv4 iv5 iv6 iv7 iv8 iv9 iv10 iv11 iv12 iv13 iv14 iv15 iv16 hmu
        have rx1 := n_rng x1
        have rx3 := n_rng x3
        refine r_ty C (fun hty => ?_)
        have hty_coded : (0 : Int) ≤ ((t).1 71 45).toInt ∧ ((t).1 71 45).toInt ≤ 1600 := hty.1 71 45
        have hty_waits : (0 : Int) ≤ ((t).1 71 47).toInt ∧ ((t).1 71 47).toInt ≤ 1700 := hty.1 71 47
        have hty_at : (0 : Int) ≤ ((t).1 71 2).toInt ∧ ((t).1 71 2).toInt ≤ 1600 := hty.1 71 2
        clear hty
        refine r_aload_n C (j := 0) (oDec_at oX12_onePart 46 rfl) rfl rfl ?_
        refine r_callVi C oCl12 rfl miX12_look mlX12_185 (ct4_X12_look l E (t)  (g) ((t.1 71 2).toInt) (by omega) iv10) (by decide) rfl rfl rfl (Nat.le_of_ble_eq_true rfl) (oDec_at oX12_onePart 47 rfl) (fun r97 u96 pu96 fu96 => ?_)
        try dsimp only at pu96
        obtain ⟨pu96_0, pu96_1, pu96_2, pu96_3, pu96_4, pu96_5⟩ := pu96
        have rr97 := n_rng r97
        have lk98 : ((u96).1 71 4).toInt = (t.1 71 4).toInt := congrArg Int32.toInt ((fu96 71 4 rfl).1)
        have lk99 : ((u96).1 71 5).toInt = (t.1 71 5).toInt := congrArg Int32.toInt ((fu96 71 5 rfl).1)
        have lk100 : ((u96).1 71 48).toInt = (t.1 71 48).toInt := congrArg Int32.toInt ((fu96 71 48 rfl).1)
        have lk101 : ((u96).1 71 47).toInt = (t.1 71 47).toInt := congrArg Int32.toInt ((fu96 71 47 rfl).1)
        have hsk3 : oqSk g ((u96).1 71 2).toInt = ((u96).1 71 2).toInt := by rw [show ((u96).1 71 2).toInt = oqSk g (t.1 71 2).toInt by omega]; exact oqSk_sk pu96_3
        have hg3 : g ((u96).1 71 2).toInt = r97.toInt := by rw [show ((u96).1 71 2).toInt = oqSk g (t.1 71 2).toInt by omega]; omega
        refine r_bipush C (oDec_at oX12_onePart 48 rfl) (v := k40) (by rw [qk40]; rfl) ?_
        refine r_icmp_ne C 106 (oDec_at oX12_onePart 49 rfl) (by decide) (fun cd102 => ?_) (fun cd102 => ?_)
        · skip
          refine r_iconst C (oDec_at oX12_onePart 53 rfl) (v := km1) (by rw [qkm1]; rfl) ?_
          refine r_istore C (lv' := [(0, .ref (oad E 71)), (1, .int x1), (3, .int x3), (4, .int km1)]) [1, 2, 3, 0] (oDec_at oX12_onePart 54 rfl) (by decide) rfl ?_
          refine r_iload C (j := 3) (oDec_at oX12_onePart 55 rfl) rfl ?_
          refine r_iconst C (oDec_at oX12_onePart 56 rfl) (v := km1) (by rw [qkm1]; rfl) ?_
          refine r_icmp_eq C 132 (oDec_at oX12_onePart 57 rfl) (by decide) (fun cd103 => ?_) (fun cd103 => ?_)
          · skip
            have lk104 : ((u96).1 71 48).toInt = (t.1 71 48).toInt := congrArg Int32.toInt ((fu96 71 48 rfl).1)
            have lk105 : ((u96).1 71 5).toInt = (t.1 71 5).toInt := congrArg Int32.toInt ((fu96 71 5 rfl).1)
            have lk106 : ((u96).1 71 45).toInt = (t.1 71 45).toInt := congrArg Int32.toInt ((fu96 71 45 rfl).1)
            have lk107 : ((u96).1 71 47).toInt = (t.1 71 47).toInt := congrArg Int32.toInt ((fu96 71 47 rfl).1)
            have lk108 : ((u96).1 71 45).toInt = (t.1 71 45).toInt := congrArg Int32.toInt ((fu96 71 45 rfl).1)
            have lk109 : ((u96).1 71 47).toInt = (t.1 71 47).toInt := congrArg Int32.toInt ((fu96 71 47 rfl).1)
            refine r_pick C [0, 1] rfl ?_
            exact (ih (n - 1) (by omega)).2.2.2.1 (u96) x1  (by first | exact oQ_opens fu96 rfl iv0 pu96_1 (by omega) (by omega) (by omega) | exact (oQ_fr fu96 rfl iv0)) (by omega) (by omega) (by omega) (by omega) (by omega) (by first | exact oqM_op (oqM_lk (iv7 (by omega)) (by omega) (oFr_row fu96 (c := 103) rfl rfl) (congrArg Int32.toInt (fu96 71 47 rfl).1) (congrArg Int32.toInt (fu96 71 48 rfl).1) (congrArg Int32.toInt (fu96 71 4 rfl).1) (by rw [show ((u96).1 71 2).toInt = oqSk g (t.1 71 2).toInt by omega]; exact oqSk_sk pu96_3)) (by omega) pu96_1 (Or.inl ⟨rfl, by omega⟩) hsk3 (by omega) (by omega) (by omega) (by omega) | exact oqM_op (oqM_lk (iv8 (by omega)) (by omega) (oFr_row fu96 (c := 103) rfl rfl) (congrArg Int32.toInt (fu96 71 47 rfl).1) (congrArg Int32.toInt (fu96 71 48 rfl).1) (congrArg Int32.toInt (fu96 71 4 rfl).1) (by rw [show ((u96).1 71 2).toInt = oqSk g (t.1 71 2).toInt by omega]; exact oqSk_sk pu96_3)) (by omega) pu96_1 (Or.inr ⟨rfl, by omega⟩) hsk3 (by omega) (by omega) (by omega) (by omega) | (exfalso; omega) | (rcases (show x3.toInt = 1 ∨ x3.toInt = 0 by omega) with h9 | h9; exact oqM_no (oqM_lk (iv7 (by omega)) (by omega) (oFr_row fu96 (c := 103) rfl rfl) (congrArg Int32.toInt (fu96 71 47 rfl).1) (congrArg Int32.toInt (fu96 71 48 rfl).1) (congrArg Int32.toInt (fu96 71 4 rfl).1) (by rw [show ((u96).1 71 2).toInt = oqSk g (t.1 71 2).toInt by omega]; exact oqSk_sk pu96_3)) (Or.inl rfl) (by omega) hsk3 (by omega); exact oqM_no (oqM_lk (iv8 (by omega)) (by omega) (oFr_row fu96 (c := 103) rfl rfl) (congrArg Int32.toInt (fu96 71 47 rfl).1) (congrArg Int32.toInt (fu96 71 48 rfl).1) (congrArg Int32.toInt (fu96 71 4 rfl).1) (by rw [show ((u96).1 71 2).toInt = oqSk g (t.1 71 2).toInt by omega]; exact oqSk_sk pu96_3)) (Or.inr rfl) (by omega) hsk3 (by omega))) (oqZ_fr fu96 rfl iv10) (oqWd_fr fu96 rfl iv11) (oqMo_fr fu96 rfl iv12) (oqBP_fr fu96 rfl iv13) (by first | exact oqM2w_op (oqMw_lk (iv14 (by omega)) (by omega) (oqSq_of fu96 rfl) (congrArg Int32.toInt (fu96 71 4 rfl).1) (by rw [show ((u96).1 71 2).toInt = oqSk g (t.1 71 2).toInt by omega]; exact oqSk_sk pu96_3)) (by omega) pu96_1 (Or.inl ⟨rfl, by omega⟩) hsk3 (by omega) (by omega) | exact oqM2w_op (oqMw_lk (iv15 (by omega)) (by omega) (oqSq_of fu96 rfl) (congrArg Int32.toInt (fu96 71 4 rfl).1) (by rw [show ((u96).1 71 2).toInt = oqSk g (t.1 71 2).toInt by omega]; exact oqSk_sk pu96_3)) (by omega) pu96_1 (Or.inr ⟨rfl, by omega⟩) hsk3 (by omega) (by omega) | exact oqM2w_no (by omega) | (exfalso; omega)) (owC0_fr fu96 rfl iv16) (by omega)
          · omega
        · skip
          refine r_aload_n C (j := 0) (oDec_at oX12_onePart 50 rfl) rfl rfl ?_
          obtain ⟨v110, ev110⟩ : ∃ z : Int32, (u96).1 71 2 = z := ⟨_, rfl⟩
          have gv110 : (u96.1 71 2).toInt = v110.toInt := congrArg Int32.toInt (ev110)
          refine r_geti (k := 2) (lo := 0) (hi := 1600) C v110 oCl12 rfl (by decide) flX12_179 rfl rfl (ev110) rfl rfl (oDec_at oX12_onePart 51 rfl) (fun b111 b111h => ?_)
          refine r_goto C (tgt := 107) (oDec_at oX12_onePart 52 rfl) (by decide) ?_
          refine r_istore C (lv' := [(0, .ref (oad E 71)), (1, .int x1), (3, .int x3), (4, .int v110)]) [1, 2, 3, 0] (oDec_at oX12_onePart 54 rfl) (by decide) rfl ?_
          refine r_iload C (j := 3) (oDec_at oX12_onePart 55 rfl) rfl ?_
          refine r_iconst C (oDec_at oX12_onePart 56 rfl) (v := km1) (by rw [qkm1]; rfl) ?_
          refine r_icmp_eq C 132 (oDec_at oX12_onePart 57 rfl) (by decide) (fun cd112 => ?_) (fun cd112 => ?_)
          · skip
            have lk113 : ((u96).1 71 48).toInt = (t.1 71 48).toInt := congrArg Int32.toInt ((fu96 71 48 rfl).1)
            have lk114 : ((u96).1 71 5).toInt = (t.1 71 5).toInt := congrArg Int32.toInt ((fu96 71 5 rfl).1)
            have lk115 : ((u96).1 71 2).toInt = v110.toInt := congrArg Int32.toInt (ev110)
            have lk116 : ((u96).1 71 45).toInt = (t.1 71 45).toInt := congrArg Int32.toInt ((fu96 71 45 rfl).1)
            have lk117 : ((u96).1 71 47).toInt = (t.1 71 47).toInt := congrArg Int32.toInt ((fu96 71 47 rfl).1)
            have lk118 : ((u96).1 71 2).toInt = v110.toInt := congrArg Int32.toInt (ev110)
            have lk119 : ((u96).1 71 45).toInt = (t.1 71 45).toInt := congrArg Int32.toInt ((fu96 71 45 rfl).1)
            have lk120 : ((u96).1 71 47).toInt = (t.1 71 47).toInt := congrArg Int32.toInt ((fu96 71 47 rfl).1)
            have lk121 : ((u96).1 71 2).toInt = v110.toInt := congrArg Int32.toInt (ev110)
            have lk122 : ((u96).1 71 2).toInt = v110.toInt := congrArg Int32.toInt (ev110)
            refine r_pick C [0, 1] rfl ?_
            exact (ih (n - 1) (by omega)).2.2.2.1 (u96) x1  (by first | exact oQ_opens fu96 rfl iv0 pu96_1 (by omega) (by omega) (by omega) | exact (oQ_fr fu96 rfl iv0)) (by omega) (by omega) (by omega) (by omega) (by omega) (by first | exact oqM_op (oqM_lk (iv7 (by omega)) (by omega) (oFr_row fu96 (c := 103) rfl rfl) (congrArg Int32.toInt (fu96 71 47 rfl).1) (congrArg Int32.toInt (fu96 71 48 rfl).1) (congrArg Int32.toInt (fu96 71 4 rfl).1) (by rw [show ((u96).1 71 2).toInt = oqSk g (t.1 71 2).toInt by omega]; exact oqSk_sk pu96_3)) (by omega) pu96_1 (Or.inl ⟨rfl, by omega⟩) hsk3 (by omega) (by omega) (by omega) (by omega) | exact oqM_op (oqM_lk (iv8 (by omega)) (by omega) (oFr_row fu96 (c := 103) rfl rfl) (congrArg Int32.toInt (fu96 71 47 rfl).1) (congrArg Int32.toInt (fu96 71 48 rfl).1) (congrArg Int32.toInt (fu96 71 4 rfl).1) (by rw [show ((u96).1 71 2).toInt = oqSk g (t.1 71 2).toInt by omega]; exact oqSk_sk pu96_3)) (by omega) pu96_1 (Or.inr ⟨rfl, by omega⟩) hsk3 (by omega) (by omega) (by omega) (by omega) | (exfalso; omega) | (rcases (show x3.toInt = 1 ∨ x3.toInt = 0 by omega) with h9 | h9; exact oqM_no (oqM_lk (iv7 (by omega)) (by omega) (oFr_row fu96 (c := 103) rfl rfl) (congrArg Int32.toInt (fu96 71 47 rfl).1) (congrArg Int32.toInt (fu96 71 48 rfl).1) (congrArg Int32.toInt (fu96 71 4 rfl).1) (by rw [show ((u96).1 71 2).toInt = oqSk g (t.1 71 2).toInt by omega]; exact oqSk_sk pu96_3)) (Or.inl rfl) (by omega) hsk3 (by omega); exact oqM_no (oqM_lk (iv8 (by omega)) (by omega) (oFr_row fu96 (c := 103) rfl rfl) (congrArg Int32.toInt (fu96 71 47 rfl).1) (congrArg Int32.toInt (fu96 71 48 rfl).1) (congrArg Int32.toInt (fu96 71 4 rfl).1) (by rw [show ((u96).1 71 2).toInt = oqSk g (t.1 71 2).toInt by omega]; exact oqSk_sk pu96_3)) (Or.inr rfl) (by omega) hsk3 (by omega))) (oqZ_fr fu96 rfl iv10) (oqWd_fr fu96 rfl iv11) (oqMo_fr fu96 rfl iv12) (oqBP_fr fu96 rfl iv13) (by first | exact oqM2w_op (oqMw_lk (iv14 (by omega)) (by omega) (oqSq_of fu96 rfl) (congrArg Int32.toInt (fu96 71 4 rfl).1) (by rw [show ((u96).1 71 2).toInt = oqSk g (t.1 71 2).toInt by omega]; exact oqSk_sk pu96_3)) (by omega) pu96_1 (Or.inl ⟨rfl, by omega⟩) hsk3 (by omega) (by omega) | exact oqM2w_op (oqMw_lk (iv15 (by omega)) (by omega) (oqSq_of fu96 rfl) (congrArg Int32.toInt (fu96 71 4 rfl).1) (by rw [show ((u96).1 71 2).toInt = oqSk g (t.1 71 2).toInt by omega]; exact oqSk_sk pu96_3)) (by omega) pu96_1 (Or.inr ⟨rfl, by omega⟩) hsk3 (by omega) (by omega) | exact oqM2w_no (by omega) | (exfalso; omega)) (owC0_fr fu96 rfl iv16) (by omega)
          · skip
            refine r_aload_n C (j := 0) (oDec_at oX12_onePart 58 rfl) rfl rfl ?_
            refine r_iload_n C (j := 2) (oDec_at oX12_onePart 59 rfl) rfl rfl ?_
            refine r_if_eq C 125 (oDec_at oX12_onePart 60 rfl) (by decide) (fun cd123 => ?_) (fun cd123 => ?_)
            · skip
              refine r_bipush C (oDec_at oX12_onePart 63 rfl) (v := k22) (by rw [qk22]; rfl) ?_
              refine r_iload C (j := 3) (oDec_at oX12_onePart 64 rfl) rfl ?_
              have lk124 : ((u96).1 71 47).toInt = (t.1 71 47).toInt := congrArg Int32.toInt ((fu96 71 47 rfl).1)
              have lk125 : ((u96).1 71 2).toInt = v110.toInt := congrArg Int32.toInt (ev110)
              have lk126 : ((u96).1 71 4).toInt = (t.1 71 4).toInt := congrArg Int32.toInt ((fu96 71 4 rfl).1)
              have lk127 : ((u96).1 71 5).toInt = (t.1 71 5).toInt := congrArg Int32.toInt ((fu96 71 5 rfl).1)
              have lk128 : ((u96).1 71 48).toInt = (t.1 71 48).toInt := congrArg Int32.toInt ((fu96 71 48 rfl).1)
              have lk129 : ((u96).1 71 47).toInt = (t.1 71 47).toInt := congrArg Int32.toInt ((fu96 71 47 rfl).1)
              have lk130 : ((u96).1 71 48).toInt = (t.1 71 48).toInt := congrArg Int32.toInt ((fu96 71 48 rfl).1)
              have lk131 : ((u96).1 71 5).toInt = (t.1 71 5).toInt := congrArg Int32.toInt ((fu96 71 5 rfl).1)
              have lk132 : ((u96).1 71 48).toInt = (t.1 71 48).toInt := congrArg Int32.toInt ((fu96 71 48 rfl).1)
              have lk133 : ((u96).1 71 47).toInt = (t.1 71 47).toInt := congrArg Int32.toInt ((fu96 71 47 rfl).1)
              refine r_callVv C oCl12 rfl miX12_opens mlX12_292 (ct7_X12_opens l E (u96) k22 v110 (by omega) (by omega) (by omega) (oqBP_fr fu96 rfl iv13)) (by decide) rfl rfl rfl (Nat.le_of_ble_eq_true rfl) (oDec_at oX12_onePart 65 rfl) (fun u134 pu134 fu134 => ?_)
              try dsimp only at pu134
              try simp only [lk129, lk130, lk131, lk132, lk133] at pu134
              obtain ⟨pu134_0, pu134_1, pu134_2⟩ := pu134
              have lk136 : ((u134).1 71 2).toInt = v110.toInt := congrArg Int32.toInt (((fu134 71 2 rfl).1).trans (ev110))
              have lk137 : ((u134).1 71 45).toInt = (t.1 71 45).toInt := congrArg Int32.toInt (((fu134 71 45 rfl).1).trans ((fu96 71 45 rfl).1))
              have lk138 : ((u134).1 71 2).toInt = v110.toInt := congrArg Int32.toInt (((fu134 71 2 rfl).1).trans (ev110))
              have lk139 : ((u134).1 71 45).toInt = (t.1 71 45).toInt := congrArg Int32.toInt (((fu134 71 45 rfl).1).trans ((fu96 71 45 rfl).1))
              have lk140 : ((u134).1 71 2).toInt = v110.toInt := congrArg Int32.toInt (((fu134 71 2 rfl).1).trans (ev110))
              have lk141 : ((u134).1 71 2).toInt = v110.toInt := congrArg Int32.toInt (((fu134 71 2 rfl).1).trans (ev110))
              refine r_pick C [0, 1] rfl ?_
              exact (ih (n - 1) (by omega)).2.2.2.1 (u134) x1  (by first | exact oQ_opens fu134 rfl (oQ_fr fu96 rfl iv0) pu134_1 (by omega) (by omega) (by omega) | exact (by assumption)) (by omega) (by omega) (by omega) (by omega) (by omega) (by first | exact oqM_op (oqM_lk (iv7 (by omega)) (by omega) (oFr_row fu96 (c := 103) rfl rfl) (congrArg Int32.toInt (fu96 71 47 rfl).1) (congrArg Int32.toInt (fu96 71 48 rfl).1) (congrArg Int32.toInt (fu96 71 4 rfl).1) (by rw [show ((u96).1 71 2).toInt = oqSk g (t.1 71 2).toInt by omega]; exact oqSk_sk pu96_3)) (by omega) pu134_1 (Or.inl ⟨rfl, by omega⟩) hsk3 (by omega) (by omega) (by omega) (by omega) | exact oqM_op (oqM_lk (iv8 (by omega)) (by omega) (oFr_row fu96 (c := 103) rfl rfl) (congrArg Int32.toInt (fu96 71 47 rfl).1) (congrArg Int32.toInt (fu96 71 48 rfl).1) (congrArg Int32.toInt (fu96 71 4 rfl).1) (by rw [show ((u96).1 71 2).toInt = oqSk g (t.1 71 2).toInt by omega]; exact oqSk_sk pu96_3)) (by omega) pu134_1 (Or.inr ⟨rfl, by omega⟩) hsk3 (by omega) (by omega) (by omega) (by omega) | (exfalso; omega) | (rcases (show x3.toInt = 1 ∨ x3.toInt = 0 by omega) with h9 | h9; exact oqM_no (oqM_lk (iv7 (by omega)) (by omega) (oFr_row fu96 (c := 103) rfl rfl) (congrArg Int32.toInt (fu96 71 47 rfl).1) (congrArg Int32.toInt (fu96 71 48 rfl).1) (congrArg Int32.toInt (fu96 71 4 rfl).1) (by rw [show ((u96).1 71 2).toInt = oqSk g (t.1 71 2).toInt by omega]; exact oqSk_sk pu96_3)) (Or.inl rfl) (by omega) hsk3 (by omega); exact oqM_no (oqM_lk (iv8 (by omega)) (by omega) (oFr_row fu96 (c := 103) rfl rfl) (congrArg Int32.toInt (fu96 71 47 rfl).1) (congrArg Int32.toInt (fu96 71 48 rfl).1) (congrArg Int32.toInt (fu96 71 4 rfl).1) (by rw [show ((u96).1 71 2).toInt = oqSk g (t.1 71 2).toInt by omega]; exact oqSk_sk pu96_3)) (Or.inr rfl) (by omega) hsk3 (by omega))) (oqZ_fr fu134 rfl (oqZ_fr fu96 rfl iv10)) (oqWd_fr fu134 rfl (oqWd_fr fu96 rfl iv11)) (oqMo_fr fu134 rfl (oqMo_fr fu96 rfl iv12)) pu134_2 (by first | exact oqM2w_op (oqMw_lk (iv14 (by omega)) (by omega) (oqSq_of fu96 rfl) (congrArg Int32.toInt (fu96 71 4 rfl).1) (by rw [show ((u96).1 71 2).toInt = oqSk g (t.1 71 2).toInt by omega]; exact oqSk_sk pu96_3)) (by omega) pu134_1 (Or.inl ⟨rfl, by omega⟩) hsk3 (by omega) (by omega) | exact oqM2w_op (oqMw_lk (iv15 (by omega)) (by omega) (oqSq_of fu96 rfl) (congrArg Int32.toInt (fu96 71 4 rfl).1) (by rw [show ((u96).1 71 2).toInt = oqSk g (t.1 71 2).toInt by omega]; exact oqSk_sk pu96_3)) (by omega) pu134_1 (Or.inr ⟨rfl, by omega⟩) hsk3 (by omega) (by omega) | exact oqM2w_no (by omega) | (exfalso; omega)) (owC0_fr fu134 rfl (owC0_fr fu96 rfl iv16)) (by omega)
            · skip
              refine r_bipush C (oDec_at oX12_onePart 61 rfl) (v := k21) (by rw [qk21]; rfl) ?_
              refine r_goto C (tgt := 127) (oDec_at oX12_onePart 62 rfl) (by decide) ?_
              refine r_iload C (j := 3) (oDec_at oX12_onePart 64 rfl) rfl ?_
              have lk142 : ((u96).1 71 47).toInt = (t.1 71 47).toInt := congrArg Int32.toInt ((fu96 71 47 rfl).1)
              have lk143 : ((u96).1 71 2).toInt = v110.toInt := congrArg Int32.toInt (ev110)
              have lk144 : ((u96).1 71 4).toInt = (t.1 71 4).toInt := congrArg Int32.toInt ((fu96 71 4 rfl).1)
              have lk145 : ((u96).1 71 5).toInt = (t.1 71 5).toInt := congrArg Int32.toInt ((fu96 71 5 rfl).1)
              have lk146 : ((u96).1 71 48).toInt = (t.1 71 48).toInt := congrArg Int32.toInt ((fu96 71 48 rfl).1)
              have lk147 : ((u96).1 71 47).toInt = (t.1 71 47).toInt := congrArg Int32.toInt ((fu96 71 47 rfl).1)
              have lk148 : ((u96).1 71 48).toInt = (t.1 71 48).toInt := congrArg Int32.toInt ((fu96 71 48 rfl).1)
              have lk149 : ((u96).1 71 5).toInt = (t.1 71 5).toInt := congrArg Int32.toInt ((fu96 71 5 rfl).1)
              have lk150 : ((u96).1 71 48).toInt = (t.1 71 48).toInt := congrArg Int32.toInt ((fu96 71 48 rfl).1)
              have lk151 : ((u96).1 71 47).toInt = (t.1 71 47).toInt := congrArg Int32.toInt ((fu96 71 47 rfl).1)
              refine r_callVv C oCl12 rfl miX12_opens mlX12_292 (ct7_X12_opens l E (u96) k21 v110 (by omega) (by omega) (by omega) (oqBP_fr fu96 rfl iv13)) (by decide) rfl rfl rfl (Nat.le_of_ble_eq_true rfl) (oDec_at oX12_onePart 65 rfl) (fun u152 pu152 fu152 => ?_)
              try dsimp only at pu152
              try simp only [lk147, lk148, lk149, lk150, lk151] at pu152
              obtain ⟨pu152_0, pu152_1, pu152_2⟩ := pu152
              have lk154 : ((u152).1 71 2).toInt = v110.toInt := congrArg Int32.toInt (((fu152 71 2 rfl).1).trans (ev110))
              have lk155 : ((u152).1 71 45).toInt = (t.1 71 45).toInt := congrArg Int32.toInt (((fu152 71 45 rfl).1).trans ((fu96 71 45 rfl).1))
              have lk156 : ((u152).1 71 2).toInt = v110.toInt := congrArg Int32.toInt (((fu152 71 2 rfl).1).trans (ev110))
              have lk157 : ((u152).1 71 45).toInt = (t.1 71 45).toInt := congrArg Int32.toInt (((fu152 71 45 rfl).1).trans ((fu96 71 45 rfl).1))
              have lk158 : ((u152).1 71 2).toInt = v110.toInt := congrArg Int32.toInt (((fu152 71 2 rfl).1).trans (ev110))
              have lk159 : ((u152).1 71 2).toInt = v110.toInt := congrArg Int32.toInt (((fu152 71 2 rfl).1).trans (ev110))
              refine r_pick C [0, 1] rfl ?_
              exact (ih (n - 1) (by omega)).2.2.2.1 (u152) x1  (by first | exact oQ_opens fu152 rfl (oQ_fr fu96 rfl iv0) pu152_1 (by omega) (by omega) (by omega) | exact (by assumption)) (by omega) (by omega) (by omega) (by omega) (by omega) (by first | exact oqM_op (oqM_lk (iv7 (by omega)) (by omega) (oFr_row fu96 (c := 103) rfl rfl) (congrArg Int32.toInt (fu96 71 47 rfl).1) (congrArg Int32.toInt (fu96 71 48 rfl).1) (congrArg Int32.toInt (fu96 71 4 rfl).1) (by rw [show ((u96).1 71 2).toInt = oqSk g (t.1 71 2).toInt by omega]; exact oqSk_sk pu96_3)) (by omega) pu152_1 (Or.inl ⟨rfl, by omega⟩) hsk3 (by omega) (by omega) (by omega) (by omega) | exact oqM_op (oqM_lk (iv8 (by omega)) (by omega) (oFr_row fu96 (c := 103) rfl rfl) (congrArg Int32.toInt (fu96 71 47 rfl).1) (congrArg Int32.toInt (fu96 71 48 rfl).1) (congrArg Int32.toInt (fu96 71 4 rfl).1) (by rw [show ((u96).1 71 2).toInt = oqSk g (t.1 71 2).toInt by omega]; exact oqSk_sk pu96_3)) (by omega) pu152_1 (Or.inr ⟨rfl, by omega⟩) hsk3 (by omega) (by omega) (by omega) (by omega) | (exfalso; omega) | (rcases (show x3.toInt = 1 ∨ x3.toInt = 0 by omega) with h9 | h9; exact oqM_no (oqM_lk (iv7 (by omega)) (by omega) (oFr_row fu96 (c := 103) rfl rfl) (congrArg Int32.toInt (fu96 71 47 rfl).1) (congrArg Int32.toInt (fu96 71 48 rfl).1) (congrArg Int32.toInt (fu96 71 4 rfl).1) (by rw [show ((u96).1 71 2).toInt = oqSk g (t.1 71 2).toInt by omega]; exact oqSk_sk pu96_3)) (Or.inl rfl) (by omega) hsk3 (by omega); exact oqM_no (oqM_lk (iv8 (by omega)) (by omega) (oFr_row fu96 (c := 103) rfl rfl) (congrArg Int32.toInt (fu96 71 47 rfl).1) (congrArg Int32.toInt (fu96 71 48 rfl).1) (congrArg Int32.toInt (fu96 71 4 rfl).1) (by rw [show ((u96).1 71 2).toInt = oqSk g (t.1 71 2).toInt by omega]; exact oqSk_sk pu96_3)) (Or.inr rfl) (by omega) hsk3 (by omega))) (oqZ_fr fu152 rfl (oqZ_fr fu96 rfl iv10)) (oqWd_fr fu152 rfl (oqWd_fr fu96 rfl iv11)) (oqMo_fr fu152 rfl (oqMo_fr fu96 rfl iv12)) pu152_2 (by first | exact oqM2w_op (oqMw_lk (iv14 (by omega)) (by omega) (oqSq_of fu96 rfl) (congrArg Int32.toInt (fu96 71 4 rfl).1) (by rw [show ((u96).1 71 2).toInt = oqSk g (t.1 71 2).toInt by omega]; exact oqSk_sk pu96_3)) (by omega) pu152_1 (Or.inl ⟨rfl, by omega⟩) hsk3 (by omega) (by omega) | exact oqM2w_op (oqMw_lk (iv15 (by omega)) (by omega) (oqSq_of fu96 rfl) (congrArg Int32.toInt (fu96 71 4 rfl).1) (by rw [show ((u96).1 71 2).toInt = oqSk g (t.1 71 2).toInt by omega]; exact oqSk_sk pu96_3)) (by omega) pu152_1 (Or.inr ⟨rfl, by omega⟩) hsk3 (by omega) (by omega) | exact oqM2w_no (by omega) | (exfalso; omega)) (owC0_fr fu152 rfl (owC0_fr fu96 rfl iv16)) (by omega)
      · intro t x1  iv0 iv1 iv2 iv3 iv4 iv5 iv6 iv7 iv8 iv9 iv10 iv11 iv12 hmu
        have rx1 := n_rng x1
        refine r_ty C (fun hty => ?_)
        have hty_coded : (0 : Int) ≤ ((t).1 71 45).toInt ∧ ((t).1 71 45).toInt ≤ 1600 := hty.1 71 45
        have hty_waits : (0 : Int) ≤ ((t).1 71 47).toInt ∧ ((t).1 71 47).toInt ≤ 1700 := hty.1 71 47
        have hty_at : (0 : Int) ≤ ((t).1 71 2).toInt ∧ ((t).1 71 2).toInt ≤ 1600 := hty.1 71 2
        clear hty
        have hge := oqSk_ge g (t.1 71 2).toInt
        refine r_aload_n C (j := 0) (oDec_at oX12_onePart 66 rfl) rfl rfl ?_
        refine r_bipush C (oDec_at oX12_onePart 67 rfl) (v := k40) (by rw [qk40]; rfl) ?_
        refine r_callVv C oCl12 rfl miX12_asksSign mlX12_248 (ct7_X12_asksSign l E (t) k40 (g) ((t.1 71 2).toInt) (40) (by omega) iv7 (by omega) (by omega) iv10) (by decide) rfl rfl rfl (Nat.le_of_ble_eq_true rfl) (oDec_at oX12_onePart 68 rfl) (fun u160 pu160 fu160 => ?_)
        try dsimp only at pu160
        obtain ⟨pu160_0, pu160_1, pu160_2, pu160_3, pu160_4⟩ := pu160
        have lk162 : ((u160).1 71 4).toInt = (t.1 71 4).toInt := congrArg Int32.toInt ((fu160 71 4 rfl).1)
        have lk163 : ((u160).1 71 48).toInt = (t.1 71 48).toInt := congrArg Int32.toInt ((fu160 71 48 rfl).1)
        have lk164 : ((u160).1 71 47).toInt = (t.1 71 47).toInt := congrArg Int32.toInt ((fu160 71 47 rfl).1)
        have hq165 : oqJ g fp fq cz kx b 1 (u160) := oqM2_J iv6 (oFr_row fu160 (c := 103) rfl rfl) (congrArg Int32.toInt (fu160 71 47 rfl).1) (congrArg Int32.toInt (fu160 71 48 rfl).1) (congrArg Int32.toInt (fu160 71 4 rfl).1) (fun h9 => by have h8 := pu160_0 h9; omega) (fun h9 => by have h8 := pu160_1 h9; omega)
        have hq166 : oqJw g fp fq cw xw b cs 1 (u160) := oqM2w_J iv11 (oqSq_of fu160 rfl) (fun h9 => ((iv6).1 h9).1) (congrArg Int32.toInt (fu160 71 4 rfl).1) (fun h9 => by have h8 := pu160_0 h9; omega)
        refine r_goto C (tgt := 143) (oDec_at oX12_onePart 69 rfl) (by decide) ?_
        refine r_goto C (tgt := 2) (oDec_at oX12_onePart 72 rfl) (by decide) ?_
        have lk167 : ((u160).1 71 48).toInt = (t.1 71 48).toInt := congrArg Int32.toInt ((fu160 71 48 rfl).1)
        have lk168 : ((u160).1 71 45).toInt = (t.1 71 45).toInt := congrArg Int32.toInt ((fu160 71 45 rfl).1)
        have lk169 : ((u160).1 71 47).toInt = (t.1 71 47).toInt := congrArg Int32.toInt ((fu160 71 47 rfl).1)
        have lk170 : ((u160).1 71 45).toInt = (t.1 71 45).toInt := congrArg Int32.toInt ((fu160 71 45 rfl).1)
        have lk171 : ((u160).1 71 47).toInt = (t.1 71 47).toInt := congrArg Int32.toInt ((fu160 71 47 rfl).1)
        have lk172 : ((u160).1 71 4).toInt = (t.1 71 4).toInt := congrArg Int32.toInt ((fu160 71 4 rfl).1)
        have hj := oB1_f ((u160).1 71 5)
        exact (ih (n - 1) (by omega)).1 (u160) x1  (oQ_frb fu160 rfl (by omega) iv0) (by omega) (by omega) (by omega) (by omega) (by omega) hq165 (by first | (intro h9; exfalso; omega) | exact fun _ => oqN0_of (A := A1) (E := E1) (by omega) (by omega) hskA (by omega) hz24 hz25) (by omega) (oqZ_fr fu160 rfl iv7) (oqWd_fr fu160 rfl iv8) (oqMo_fr fu160 rfl iv9) pu160_4 hq166 (owC0_fr fu160 rfl iv12) (by omega)
      · intro t   iv0 iv1 iv2 iv3 iv4 iv5 iv6 iv7 iv8 iv9 iv10 iv11 iv12 hmu
        refine r_ty C (fun hty => ?_)
        have hty_coded : (0 : Int) ≤ ((t).1 71 45).toInt ∧ ((t).1 71 45).toInt ≤ 1600 := hty.1 71 45
        have hty_waits : (0 : Int) ≤ ((t).1 71 47).toInt ∧ ((t).1 71 47).toInt ≤ 1700 := hty.1 71 47
        have hty_at : (0 : Int) ≤ ((t).1 71 2).toInt ∧ ((t).1 71 2).toInt ≤ 1600 := hty.1 71 2
        clear hty
        refine r_aload_n C (j := 0) (oDec_at oX12_onePart 73 rfl) rfl rfl ?_
        obtain ⟨v173, ev173⟩ : ∃ z : Int32, (t).1 71 5 = z := ⟨_, rfl⟩
        have gv173 : (t.1 71 5).toInt = v173.toInt := congrArg Int32.toInt (ev173)
        have rv173 := n_rng v173
        refine r_geti (k := 5) (lo := (-2147483648)) (hi := 2147483647) C v173 oCl12 rfl (by decide) flX12_173 rfl rfl (ev173) rfl rfl (oDec_at oX12_onePart 74 rfl) (fun _ _ => ?_)
        refine r_if_eq C 154 (oDec_at oX12_onePart 75 rfl) (by decide) (fun cd174 => ?_) (fun cd174 => ?_)
        · skip
          obtain ⟨hn1, hn2, hn3, hn4⟩ := iv6 (by omega)
          refine r_aload_n C (j := 0) (oDec_at oX12_onePart 77 rfl) rfl rfl ?_
          obtain ⟨v175, ev175⟩ : ∃ z : Int32, (t).1 71 56 = z := ⟨_, rfl⟩
          have gv175 : (t.1 71 56).toInt = v175.toInt := congrArg Int32.toInt (ev175)
          refine r_geti (k := 56) (lo := 0) (hi := 1) C v175 oCl12 rfl (by decide) flX12_295 rfl rfl (ev175) rfl rfl (oDec_at oX12_onePart 78 rfl) (fun b176 b176h => ?_)
          refine r_if_eq C 168 (oDec_at oX12_onePart 79 rfl) (by decide) (fun cd177 => ?_) (fun cd177 => ?_)
          · skip
            obtain ⟨hfp, hfq⟩ := oqMo_0 iv9 (by omega)
            refine r_aload_n C (j := 0) (oDec_at oX12_onePart 83 rfl) rfl rfl ?_
            have lk178 : ((t).1 71 5).toInt = v173.toInt := congrArg Int32.toInt (ev173)
            refine r_callVi C oCl12 rfl miX12_rulePart mlX12_301 (ct9_X12_rulePart l E (t)  (g) ((t.1 71 2).toInt) ((t.1 71 4).toInt) (by omega) (by omega) iv7 (by omega) iv8 (by omega)) (by decide) rfl rfl rfl (Nat.le_of_ble_eq_true rfl) (oDec_at oX12_onePart 84 rfl) (fun r180 u179 pu179 fu179 => ?_)
            try dsimp only at pu179
            try simp only [lk178] at pu179
            obtain ⟨pu179_0, pu179_1, pu179_2, pu179_3, pu179_4⟩ := pu179
            have rr180 := n_rng r180
            refine r_istore_n C (lv' := [(0, .ref (oad E 71)), (2, .int r180)]) [1, 0] (oDec_at oX12_onePart 85 rfl) rfl (by decide) rfl ?_
            refine r_aload_n C (j := 0) (oDec_at oX12_onePart 86 rfl) rfl rfl ?_
            refine r_iload_n C (j := 1) (oDec_at oX12_onePart 87 rfl) rfl rfl ?_
            refine r_iconst C (oDec_at oX12_onePart 88 rfl) (v := km1) (by rw [qkm1]; rfl) ?_
            refine r_pc C 176 rfl ?_
            refine r_icmp_eq C 183 (oDec_at oX12_onePart 89 rfl) (by decide) (fun cd181 => ?_) (fun cd181 => ?_)
            · skip
              have lk182 : ((u179).1 71 5).toInt = v173.toInt := congrArg Int32.toInt (((fu179 71 5 rfl).1).trans (ev173))
              have lk183 : ((u179).1 71 48).toInt = (t.1 71 48).toInt := congrArg Int32.toInt ((fu179 71 48 rfl).1)
              have lk184 : ((u179).1 71 47).toInt = (t.1 71 47).toInt := congrArg Int32.toInt ((fu179 71 47 rfl).1)
              have hP1 := pu179_2 (by omega)
              clear pu179_2 pu179_3
              have hq185 : oqJ g fp fq cz kx b 1 (u179) := oqJ_id iv5 (oFr_row fu179 (c := 103) rfl rfl) (congrArg Int32.toInt (fu179 71 5 rfl).1) (congrArg Int32.toInt (fu179 71 47 rfl).1) (by rw [show ((u179).1 71 2).toInt = (t.1 71 2).toInt by omega]) (by omega) (congrArg Int32.toInt (fu179 71 48 rfl).1) (congrArg Int32.toInt (fu179 71 6 rfl).1)
              have hq186 : oqJw g fp fq cw xw b cs 1 (u179) := oqJw_id iv11 (oqSq_of fu179 rfl) (fun h9 => (congrArg Int32.toInt (fu179 71 5 rfl).1).symm.trans h9) (by rw [show ((u179).1 71 2).toInt = (t.1 71 2).toInt by omega]) (by omega)
              refine r_sipush C (oDec_at oX12_onePart 92 rfl) (v := k1000) (by rw [qk1000]; rfl) ?_
              refine r_aload_n C (j := 0) (oDec_at oX12_onePart 93 rfl) rfl rfl ?_
              refine r_iconst C (oDec_at oX12_onePart 94 rfl) (v := k0) (by rw [qk0]; rfl) ?_
              refine r_sipush C (oDec_at oX12_onePart 95 rfl) (v := k9999) (by rw [qk9999]; rfl) ?_
              have lk187 : ((u179).1 71 5).toInt = v173.toInt := congrArg Int32.toInt (((fu179 71 5 rfl).1).trans (ev173))
              have lk188 : ((u179).1 71 48).toInt = (t.1 71 48).toInt := congrArg Int32.toInt ((fu179 71 48 rfl).1)
              have lk189 : ((u179).1 71 47).toInt = (t.1 71 47).toInt := congrArg Int32.toInt ((fu179 71 47 rfl).1)
              have lk190 : ((u179).1 71 5).toInt = v173.toInt := congrArg Int32.toInt (((fu179 71 5 rfl).1).trans (ev173))
              have lk191 : ((u179).1 71 5).toInt = v173.toInt := congrArg Int32.toInt (((fu179 71 5 rfl).1).trans (ev173))
              have lk192 : ((u179).1 71 6).toInt = (t.1 71 6).toInt := congrArg Int32.toInt ((fu179 71 6 rfl).1)
              have lk193 : ((u179).1 71 5).toInt = v173.toInt := congrArg Int32.toInt (((fu179 71 5 rfl).1).trans (ev173))
              have lk194 : ((u179).1 71 6).toInt = (t.1 71 6).toInt := congrArg Int32.toInt ((fu179 71 6 rfl).1)
              refine r_callVi C oCl12 rfl miX12_number mlX12_244 (ct7_X12_number l E (u179) k0 k9999 (g) ((t.1 71 2).toInt) ((t.1 71 4).toInt) (0) (9999) (by omega) (oqZ_fr fu179 rfl iv7) (by omega) (by omega) (oqBP_fr fu179 rfl iv10)) (by decide) rfl rfl rfl (Nat.le_of_ble_eq_true rfl) (oDec_at oX12_onePart 96 rfl) (fun r196 u195 pu195 fu195 => ?_)
              try dsimp only at pu195
              try simp only [lk190, lk191, lk192, lk193, lk194] at pu195
              obtain ⟨pu195_0, pu195_1, pu195_2, pu195_3, pu195_4⟩ := pu195
              have rr196 := n_rng r196
              have lk197 : ((u195).1 71 48).toInt = (t.1 71 48).toInt := congrArg Int32.toInt (((fu195 71 48 rfl).1).trans ((fu179 71 48 rfl).1))
              have lk198 : ((u195).1 71 47).toInt = (t.1 71 47).toInt := congrArg Int32.toInt (((fu195 71 47 rfl).1).trans ((fu179 71 47 rfl).1))
              have hnk : oqNk g (t.1 71 2).toInt (t.1 71 4).toInt 0 9999 = 0 → oqSk g (t.1 71 2).toInt + 1 ≤ oqNa g (t.1 71 2).toInt := oqNk_d
              have hq199 : oqJ g fp fq cz kx b 3 (u195) := (by by_cases h9 : ((u195).1 71 5).toInt = 0; (have h8 := pu195_1 h9; clear pu195_1 pu195_2; exact oqJ_go hq185 (by omega) h9 (oFr_row fu195 (c := 103) rfl rfl) (congrArg Int32.toInt (fu195 71 47 rfl).1) (oqp_num (g := g) (p := fp) (q := fq) (a := (t.1 71 2).toInt) (b := (t.1 71 4).toInt) (o := (t.1 71 48).toInt) (by omega) (by omega) (by omega) (by omega)) (by first | omega | (rw [show ((u179).1 71 2).toInt = (t.1 71 2).toInt by omega]; omega)) (by first | omega | (congr 1; omega)) (by first | omega | (congr 1; omega)) (by first | omega | (congr 1; omega)) (by first | omega | (congr 1; omega)) (by first | omega | (congr 1; omega))); (have h8 := pu195_2 h9; clear pu195_1 pu195_2; exact oqJ_flt hq185 (by omega) h9 (oqp_numF (g := g) (p := fp) (q := fq) (a := (t.1 71 2).toInt) (b := (t.1 71 4).toInt) (o := (t.1 71 48).toInt) (by omega) (by omega) (by omega) (by omega)) (by first | omega | (rw [show ((u179).1 71 2).toInt = (t.1 71 2).toInt by omega]; omega)) (by first | omega | (congr 1; omega)) (by first | omega | (congr 1; omega)) (by first | omega | (congr 1; omega)) (by first | omega | (congr 1; omega))))
              have hq200 : oqVw g fp fq cw xw b cs 3 (1000 + r196.toInt) (u195) := (by by_cases h9 : ((u195).1 71 5).toInt = 0; (have h8 := pu195_1 h9; rw [show r196.toInt = oqNv g (t.1 71 2).toInt by omega]; exact oqVw_nm (A := (t.1 71 2).toInt) (b := (t.1 71 4).toInt) hq186 (by omega) (oqSq_of fu195 rfl) (by first | omega | (rw [show ((u179).1 71 2).toInt = (t.1 71 2).toInt by omega]; omega)) (by omega) (by omega) (by omega) (by omega) (by omega) (by omega) (by omega)); exact oqVw_bd h9)
              obtain ⟨v201, ev201⟩ : ∃ z : Int32, z = k1000 + r196 := ⟨_, rfl⟩
              have hv201 : v201.toInt = k1000.toInt + r196.toInt := n_add ev201 (by omega) (by omega)
              refine r_iadd C v201 (oDec_at oX12_onePart 97 rfl) ev201 ?_
              refine r_pc C 195 rfl ?_
              have lk202 : ((u195).1 71 45).toInt = (t.1 71 45).toInt := congrArg Int32.toInt (((fu195 71 45 rfl).1).trans ((fu179 71 45 rfl).1))
              have lk203 : ((u195).1 71 45).toInt = (t.1 71 45).toInt := congrArg Int32.toInt (((fu195 71 45 rfl).1).trans ((fu179 71 45 rfl).1))
              have lk204 : ((u195).1 71 45).toInt = (t.1 71 45).toInt := congrArg Int32.toInt (((fu195 71 45 rfl).1).trans ((fu179 71 45 rfl).1))
              refine r_callVv C oCl12 rfl miX12_lay mlX12_280 (ct9_X12_lay l E (u195) v201 (Cq) (by omega) (owC0_fr fu195 rfl (owC0_fr fu179 rfl iv12))) (by decide) rfl rfl rfl (Nat.le_of_ble_eq_true rfl) (oDec_at oX12_onePart 98 rfl) (fun u205 pu205 fu205 => ?_)
              try dsimp only at pu205
              try simp only [lk203, lk204] at pu205
              obtain ⟨pu205_0, pu205_1, pu205_2⟩ := pu205
              have hq207 : oQ b (x + 1) (u205) := oQ_opnd (oQ_frb fu195 rfl (by omega) (oQ_fr fu179 rfl iv0)) pu205_0 (by omega) (by omega)
              have hq208 : oqJw g fp fq cw xw b cs 3 (u205) := oqVw_lay hq200 pu205_0 (by omega) (by omega)
              have lk209 : ((u205).1 71 48).toInt = (t.1 71 48).toInt := congrArg Int32.toInt (((fu205 71 48 rfl).1).trans (((fu195 71 48 rfl).1).trans ((fu179 71 48 rfl).1)))
              have lk210 : ((u205).1 71 2).toInt = (u195.1 71 2).toInt := congrArg Int32.toInt ((fu205 71 2 rfl).1)
              have lk211 : ((u205).1 71 47).toInt = (t.1 71 47).toInt := congrArg Int32.toInt (((fu205 71 47 rfl).1).trans (((fu195 71 47 rfl).1).trans ((fu179 71 47 rfl).1)))
              have lk212 : ((u205).1 71 5).toInt = (u195.1 71 5).toInt := congrArg Int32.toInt ((fu205 71 5 rfl).1)
              have lk213 : ((u205).1 71 2).toInt = (u195.1 71 2).toInt := congrArg Int32.toInt ((fu205 71 2 rfl).1)
              have lk214 : ((u205).1 71 47).toInt = (t.1 71 47).toInt := congrArg Int32.toInt (((fu205 71 47 rfl).1).trans (((fu195 71 47 rfl).1).trans ((fu179 71 47 rfl).1)))
              have lk215 : ((u205).1 71 2).toInt = (u195.1 71 2).toInt := congrArg Int32.toInt ((fu205 71 2 rfl).1)
              exact r_vret C (oDec_at oX12_onePart 99 rfl) ⟨rfl, ⟨hq207, by omega, by omega, by omega, by omega, (oqJ_fr fu205 rfl hq199), (oqBP_fr fu205 rfl pu195_4), hq208, pu205_2⟩⟩
            · skip
              replace pu179_0 := pu179_0.resolve_left (by omega)
              have lk216 : ((u179).1 71 5).toInt = v173.toInt := congrArg Int32.toInt (((fu179 71 5 rfl).1).trans (ev173))
              have lk217 : ((u179).1 71 48).toInt = (t.1 71 48).toInt := congrArg Int32.toInt ((fu179 71 48 rfl).1)
              have lk218 : ((u179).1 71 47).toInt = (t.1 71 47).toInt := congrArg Int32.toInt ((fu179 71 47 rfl).1)
              have hP2 := pu179_3 (by omega)
              clear pu179_2 pu179_3
              have hq219 : oqJ g fp fq cz kx b 3 (u179) := oqJ_go iv5 (by omega) (by omega) (oFr_row fu179 (c := 103) rfl rfl) (congrArg Int32.toInt (fu179 71 47 rfl).1) (oqp_wd (g := g) (p := fp) (q := fq) (a := (t.1 71 2).toInt) (b := (t.1 71 4).toInt) (o := (t.1 71 48).toInt) (j := (oqWi g (t.1 71 2).toInt (t.1 71 4).toInt).toNat) (by omega) (by omega) (by omega) (by omega)) (by first | omega | (congr 1; omega)) rfl rfl (by first | omega | (congr 1; omega)) (by first | omega | (congr 1; omega)) ((congrArg Int32.toInt (fu179 71 48 rfl).1)).symm
              have hq220 : oqVw g fp fq cw xw b cs 3 (r180.toInt) (u179) := (by rw [show r180.toInt = 40 + (((oqWi g (t.1 71 2).toInt (t.1 71 4).toInt).toNat : Nat) : Int) - fp by omega]; exact oqVw_wd (A := (t.1 71 2).toInt) (b := (t.1 71 4).toInt) (j := (oqWi g (t.1 71 2).toInt (t.1 71 4).toInt).toNat) iv11 (by omega) (oqSq_of fu179 rfl) (by first | omega | (rw [show ((t).1 71 2).toInt = (t.1 71 2).toInt by omega]; omega)) (by omega) (by omega) (by omega) (by omega) (by omega) (by omega) (by omega))
              refine r_iload_n C (j := 1) (oDec_at oX12_onePart 90 rfl) rfl rfl ?_
              refine r_goto C (tgt := 195) (oDec_at oX12_onePart 91 rfl) (by decide) ?_
              have lk221 : ((u179).1 71 45).toInt = (t.1 71 45).toInt := congrArg Int32.toInt ((fu179 71 45 rfl).1)
              have lk222 : ((u179).1 71 45).toInt = (t.1 71 45).toInt := congrArg Int32.toInt ((fu179 71 45 rfl).1)
              have lk223 : ((u179).1 71 45).toInt = (t.1 71 45).toInt := congrArg Int32.toInt ((fu179 71 45 rfl).1)
              refine r_callVv C oCl12 rfl miX12_lay mlX12_280 (ct9_X12_lay l E (u179) r180 (Cq) (by omega) (owC0_fr fu179 rfl iv12)) (by decide) rfl rfl rfl (Nat.le_of_ble_eq_true rfl) (oDec_at oX12_onePart 98 rfl) (fun u224 pu224 fu224 => ?_)
              try dsimp only at pu224
              try simp only [lk222, lk223] at pu224
              obtain ⟨pu224_0, pu224_1, pu224_2⟩ := pu224
              have hq226 : oQ b (x + 1) (u224) := oQ_opnd (oQ_fr fu179 rfl iv0) pu224_0 (by omega) (by omega)
              have hq227 : oqJw g fp fq cw xw b cs 3 (u224) := oqVw_lay hq220 pu224_0 (by omega) (by omega)
              have lk228 : ((u224).1 71 48).toInt = (t.1 71 48).toInt := congrArg Int32.toInt (((fu224 71 48 rfl).1).trans ((fu179 71 48 rfl).1))
              have lk229 : ((u224).1 71 2).toInt = (u179.1 71 2).toInt := congrArg Int32.toInt ((fu224 71 2 rfl).1)
              have lk230 : ((u224).1 71 47).toInt = (t.1 71 47).toInt := congrArg Int32.toInt (((fu224 71 47 rfl).1).trans ((fu179 71 47 rfl).1))
              have lk231 : ((u224).1 71 5).toInt = v173.toInt := congrArg Int32.toInt (((fu224 71 5 rfl).1).trans (((fu179 71 5 rfl).1).trans (ev173)))
              have lk232 : ((u224).1 71 2).toInt = (u179.1 71 2).toInt := congrArg Int32.toInt ((fu224 71 2 rfl).1)
              have lk233 : ((u224).1 71 47).toInt = (t.1 71 47).toInt := congrArg Int32.toInt (((fu224 71 47 rfl).1).trans ((fu179 71 47 rfl).1))
              have lk234 : ((u224).1 71 2).toInt = (u179.1 71 2).toInt := congrArg Int32.toInt ((fu224 71 2 rfl).1)
              exact r_vret C (oDec_at oX12_onePart 99 rfl) ⟨rfl, ⟨hq226, by omega, by omega, by omega, by omega, (oqJ_fr fu224 rfl hq219), (oqBP_fr fu224 rfl (oqBP_fr fu179 rfl iv10)), hq227, pu224_2⟩⟩
          · skip
            obtain ⟨hfp, hfq⟩ := oqMo_1 iv9 (by omega)
            refine r_aload_n C (j := 0) (oDec_at oX12_onePart 80 rfl) rfl rfl ?_
            have lk235 : ((t).1 71 5).toInt = v173.toInt := congrArg Int32.toInt (ev173)
            refine r_callVi C oCl12 rfl miX12_mottoPart mlX12_298 (ct9_X12_mottoPart l E (t)  (g) ((t.1 71 2).toInt) ((t.1 71 4).toInt) (by omega) (by omega) iv7 (by omega) iv8 (by omega)) (by decide) rfl rfl rfl (Nat.le_of_ble_eq_true rfl) (oDec_at oX12_onePart 81 rfl) (fun r237 u236 pu236 fu236 => ?_)
            try dsimp only at pu236
            try simp only [lk235] at pu236
            obtain ⟨pu236_0, pu236_1, pu236_2, pu236_3, pu236_4⟩ := pu236
            have rr237 := n_rng r237
            refine r_goto C (tgt := 172) (oDec_at oX12_onePart 82 rfl) (by decide) ?_
            refine r_istore_n C (lv' := [(0, .ref (oad E 71)), (2, .int r237)]) [1, 0] (oDec_at oX12_onePart 85 rfl) rfl (by decide) rfl ?_
            refine r_aload_n C (j := 0) (oDec_at oX12_onePart 86 rfl) rfl rfl ?_
            refine r_iload_n C (j := 1) (oDec_at oX12_onePart 87 rfl) rfl rfl ?_
            refine r_iconst C (oDec_at oX12_onePart 88 rfl) (v := km1) (by rw [qkm1]; rfl) ?_
            refine r_pc C 176 rfl ?_
            refine r_icmp_eq C 183 (oDec_at oX12_onePart 89 rfl) (by decide) (fun cd238 => ?_) (fun cd238 => ?_)
            · skip
              have lk239 : ((u236).1 71 5).toInt = v173.toInt := congrArg Int32.toInt (((fu236 71 5 rfl).1).trans (ev173))
              have lk240 : ((u236).1 71 48).toInt = (t.1 71 48).toInt := congrArg Int32.toInt ((fu236 71 48 rfl).1)
              have lk241 : ((u236).1 71 47).toInt = (t.1 71 47).toInt := congrArg Int32.toInt ((fu236 71 47 rfl).1)
              have hP1 := pu236_2 (by omega)
              clear pu236_2 pu236_3
              have hq242 : oqJ g fp fq cz kx b 1 (u236) := oqJ_id iv5 (oFr_row fu236 (c := 103) rfl rfl) (congrArg Int32.toInt (fu236 71 5 rfl).1) (congrArg Int32.toInt (fu236 71 47 rfl).1) (by rw [show ((u236).1 71 2).toInt = (t.1 71 2).toInt by omega]) (by omega) (congrArg Int32.toInt (fu236 71 48 rfl).1) (congrArg Int32.toInt (fu236 71 6 rfl).1)
              have hq243 : oqJw g fp fq cw xw b cs 1 (u236) := oqJw_id iv11 (oqSq_of fu236 rfl) (fun h9 => (congrArg Int32.toInt (fu236 71 5 rfl).1).symm.trans h9) (by rw [show ((u236).1 71 2).toInt = (t.1 71 2).toInt by omega]) (by omega)
              refine r_sipush C (oDec_at oX12_onePart 92 rfl) (v := k1000) (by rw [qk1000]; rfl) ?_
              refine r_aload_n C (j := 0) (oDec_at oX12_onePart 93 rfl) rfl rfl ?_
              refine r_iconst C (oDec_at oX12_onePart 94 rfl) (v := k0) (by rw [qk0]; rfl) ?_
              refine r_sipush C (oDec_at oX12_onePart 95 rfl) (v := k9999) (by rw [qk9999]; rfl) ?_
              have lk244 : ((u236).1 71 5).toInt = v173.toInt := congrArg Int32.toInt (((fu236 71 5 rfl).1).trans (ev173))
              have lk245 : ((u236).1 71 48).toInt = (t.1 71 48).toInt := congrArg Int32.toInt ((fu236 71 48 rfl).1)
              have lk246 : ((u236).1 71 47).toInt = (t.1 71 47).toInt := congrArg Int32.toInt ((fu236 71 47 rfl).1)
              have lk247 : ((u236).1 71 5).toInt = v173.toInt := congrArg Int32.toInt (((fu236 71 5 rfl).1).trans (ev173))
              have lk248 : ((u236).1 71 5).toInt = v173.toInt := congrArg Int32.toInt (((fu236 71 5 rfl).1).trans (ev173))
              have lk249 : ((u236).1 71 6).toInt = (t.1 71 6).toInt := congrArg Int32.toInt ((fu236 71 6 rfl).1)
              have lk250 : ((u236).1 71 5).toInt = v173.toInt := congrArg Int32.toInt (((fu236 71 5 rfl).1).trans (ev173))
              have lk251 : ((u236).1 71 6).toInt = (t.1 71 6).toInt := congrArg Int32.toInt ((fu236 71 6 rfl).1)
              refine r_callVi C oCl12 rfl miX12_number mlX12_244 (ct7_X12_number l E (u236) k0 k9999 (g) ((t.1 71 2).toInt) ((t.1 71 4).toInt) (0) (9999) (by omega) (oqZ_fr fu236 rfl iv7) (by omega) (by omega) (oqBP_fr fu236 rfl iv10)) (by decide) rfl rfl rfl (Nat.le_of_ble_eq_true rfl) (oDec_at oX12_onePart 96 rfl) (fun r253 u252 pu252 fu252 => ?_)
              try dsimp only at pu252
              try simp only [lk247, lk248, lk249, lk250, lk251] at pu252
              obtain ⟨pu252_0, pu252_1, pu252_2, pu252_3, pu252_4⟩ := pu252
              have rr253 := n_rng r253
              have lk254 : ((u252).1 71 48).toInt = (t.1 71 48).toInt := congrArg Int32.toInt (((fu252 71 48 rfl).1).trans ((fu236 71 48 rfl).1))
              have lk255 : ((u252).1 71 47).toInt = (t.1 71 47).toInt := congrArg Int32.toInt (((fu252 71 47 rfl).1).trans ((fu236 71 47 rfl).1))
              have hnk : oqNk g (t.1 71 2).toInt (t.1 71 4).toInt 0 9999 = 0 → oqSk g (t.1 71 2).toInt + 1 ≤ oqNa g (t.1 71 2).toInt := oqNk_d
              have hq256 : oqJ g fp fq cz kx b 3 (u252) := (by by_cases h9 : ((u252).1 71 5).toInt = 0; (have h8 := pu252_1 h9; clear pu252_1 pu252_2; exact oqJ_go hq242 (by omega) h9 (oFr_row fu252 (c := 103) rfl rfl) (congrArg Int32.toInt (fu252 71 47 rfl).1) (oqp_num (g := g) (p := fp) (q := fq) (a := (t.1 71 2).toInt) (b := (t.1 71 4).toInt) (o := (t.1 71 48).toInt) (by omega) (by omega) (by omega) (by omega)) (by first | omega | (rw [show ((u236).1 71 2).toInt = (t.1 71 2).toInt by omega]; omega)) (by first | omega | (congr 1; omega)) (by first | omega | (congr 1; omega)) (by first | omega | (congr 1; omega)) (by first | omega | (congr 1; omega)) (by first | omega | (congr 1; omega))); (have h8 := pu252_2 h9; clear pu252_1 pu252_2; exact oqJ_flt hq242 (by omega) h9 (oqp_numF (g := g) (p := fp) (q := fq) (a := (t.1 71 2).toInt) (b := (t.1 71 4).toInt) (o := (t.1 71 48).toInt) (by omega) (by omega) (by omega) (by omega)) (by first | omega | (rw [show ((u236).1 71 2).toInt = (t.1 71 2).toInt by omega]; omega)) (by first | omega | (congr 1; omega)) (by first | omega | (congr 1; omega)) (by first | omega | (congr 1; omega)) (by first | omega | (congr 1; omega))))
              have hq257 : oqVw g fp fq cw xw b cs 3 (1000 + r253.toInt) (u252) := (by by_cases h9 : ((u252).1 71 5).toInt = 0; (have h8 := pu252_1 h9; rw [show r253.toInt = oqNv g (t.1 71 2).toInt by omega]; exact oqVw_nm (A := (t.1 71 2).toInt) (b := (t.1 71 4).toInt) hq243 (by omega) (oqSq_of fu252 rfl) (by first | omega | (rw [show ((u236).1 71 2).toInt = (t.1 71 2).toInt by omega]; omega)) (by omega) (by omega) (by omega) (by omega) (by omega) (by omega) (by omega)); exact oqVw_bd h9)
              obtain ⟨v258, ev258⟩ : ∃ z : Int32, z = k1000 + r253 := ⟨_, rfl⟩
              have hv258 : v258.toInt = k1000.toInt + r253.toInt := n_add ev258 (by omega) (by omega)
              refine r_iadd C v258 (oDec_at oX12_onePart 97 rfl) ev258 ?_
              refine r_pc C 195 rfl ?_
              have lk259 : ((u252).1 71 45).toInt = (t.1 71 45).toInt := congrArg Int32.toInt (((fu252 71 45 rfl).1).trans ((fu236 71 45 rfl).1))
              have lk260 : ((u252).1 71 45).toInt = (t.1 71 45).toInt := congrArg Int32.toInt (((fu252 71 45 rfl).1).trans ((fu236 71 45 rfl).1))
              have lk261 : ((u252).1 71 45).toInt = (t.1 71 45).toInt := congrArg Int32.toInt (((fu252 71 45 rfl).1).trans ((fu236 71 45 rfl).1))
              refine r_callVv C oCl12 rfl miX12_lay mlX12_280 (ct9_X12_lay l E (u252) v258 (Cq) (by omega) (owC0_fr fu252 rfl (owC0_fr fu236 rfl iv12))) (by decide) rfl rfl rfl (Nat.le_of_ble_eq_true rfl) (oDec_at oX12_onePart 98 rfl) (fun u262 pu262 fu262 => ?_)
              try dsimp only at pu262
              try simp only [lk260, lk261] at pu262
              obtain ⟨pu262_0, pu262_1, pu262_2⟩ := pu262
              have hq264 : oQ b (x + 1) (u262) := oQ_opnd (oQ_frb fu252 rfl (by omega) (oQ_fr fu236 rfl iv0)) pu262_0 (by omega) (by omega)
              have hq265 : oqJw g fp fq cw xw b cs 3 (u262) := oqVw_lay hq257 pu262_0 (by omega) (by omega)
              have lk266 : ((u262).1 71 48).toInt = (t.1 71 48).toInt := congrArg Int32.toInt (((fu262 71 48 rfl).1).trans (((fu252 71 48 rfl).1).trans ((fu236 71 48 rfl).1)))
              have lk267 : ((u262).1 71 2).toInt = (u252.1 71 2).toInt := congrArg Int32.toInt ((fu262 71 2 rfl).1)
              have lk268 : ((u262).1 71 47).toInt = (t.1 71 47).toInt := congrArg Int32.toInt (((fu262 71 47 rfl).1).trans (((fu252 71 47 rfl).1).trans ((fu236 71 47 rfl).1)))
              have lk269 : ((u262).1 71 5).toInt = (u252.1 71 5).toInt := congrArg Int32.toInt ((fu262 71 5 rfl).1)
              have lk270 : ((u262).1 71 2).toInt = (u252.1 71 2).toInt := congrArg Int32.toInt ((fu262 71 2 rfl).1)
              have lk271 : ((u262).1 71 47).toInt = (t.1 71 47).toInt := congrArg Int32.toInt (((fu262 71 47 rfl).1).trans (((fu252 71 47 rfl).1).trans ((fu236 71 47 rfl).1)))
              have lk272 : ((u262).1 71 2).toInt = (u252.1 71 2).toInt := congrArg Int32.toInt ((fu262 71 2 rfl).1)
              exact r_vret C (oDec_at oX12_onePart 99 rfl) ⟨rfl, ⟨hq264, by omega, by omega, by omega, by omega, (oqJ_fr fu262 rfl hq256), (oqBP_fr fu262 rfl pu252_4), hq265, pu262_2⟩⟩
            · skip
              replace pu236_0 := pu236_0.resolve_left (by omega)
              have lk273 : ((u236).1 71 5).toInt = v173.toInt := congrArg Int32.toInt (((fu236 71 5 rfl).1).trans (ev173))
              have lk274 : ((u236).1 71 48).toInt = (t.1 71 48).toInt := congrArg Int32.toInt ((fu236 71 48 rfl).1)
              have lk275 : ((u236).1 71 47).toInt = (t.1 71 47).toInt := congrArg Int32.toInt ((fu236 71 47 rfl).1)
              have hP2 := pu236_3 (by omega)
              clear pu236_2 pu236_3
              have hq276 : oqJ g fp fq cz kx b 3 (u236) := oqJ_go iv5 (by omega) (by omega) (oFr_row fu236 (c := 103) rfl rfl) (congrArg Int32.toInt (fu236 71 47 rfl).1) (oqp_wd (g := g) (p := fp) (q := fq) (a := (t.1 71 2).toInt) (b := (t.1 71 4).toInt) (o := (t.1 71 48).toInt) (j := (oqWi g (t.1 71 2).toInt (t.1 71 4).toInt).toNat) (by omega) (by omega) (by omega) (by omega)) (by first | omega | (congr 1; omega)) rfl rfl (by first | omega | (congr 1; omega)) (by first | omega | (congr 1; omega)) ((congrArg Int32.toInt (fu236 71 48 rfl).1)).symm
              have hq277 : oqVw g fp fq cw xw b cs 3 (r237.toInt) (u236) := (by rw [show r237.toInt = 40 + (((oqWi g (t.1 71 2).toInt (t.1 71 4).toInt).toNat : Nat) : Int) - fp by omega]; exact oqVw_wd (A := (t.1 71 2).toInt) (b := (t.1 71 4).toInt) (j := (oqWi g (t.1 71 2).toInt (t.1 71 4).toInt).toNat) iv11 (by omega) (oqSq_of fu236 rfl) (by first | omega | (rw [show ((t).1 71 2).toInt = (t.1 71 2).toInt by omega]; omega)) (by omega) (by omega) (by omega) (by omega) (by omega) (by omega) (by omega))
              refine r_iload_n C (j := 1) (oDec_at oX12_onePart 90 rfl) rfl rfl ?_
              refine r_goto C (tgt := 195) (oDec_at oX12_onePart 91 rfl) (by decide) ?_
              have lk278 : ((u236).1 71 45).toInt = (t.1 71 45).toInt := congrArg Int32.toInt ((fu236 71 45 rfl).1)
              have lk279 : ((u236).1 71 45).toInt = (t.1 71 45).toInt := congrArg Int32.toInt ((fu236 71 45 rfl).1)
              have lk280 : ((u236).1 71 45).toInt = (t.1 71 45).toInt := congrArg Int32.toInt ((fu236 71 45 rfl).1)
              refine r_callVv C oCl12 rfl miX12_lay mlX12_280 (ct9_X12_lay l E (u236) r237 (Cq) (by omega) (owC0_fr fu236 rfl iv12)) (by decide) rfl rfl rfl (Nat.le_of_ble_eq_true rfl) (oDec_at oX12_onePart 98 rfl) (fun u281 pu281 fu281 => ?_)
              try dsimp only at pu281
              try simp only [lk279, lk280] at pu281
              obtain ⟨pu281_0, pu281_1, pu281_2⟩ := pu281
              have hq283 : oQ b (x + 1) (u281) := oQ_opnd (oQ_fr fu236 rfl iv0) pu281_0 (by omega) (by omega)
              have hq284 : oqJw g fp fq cw xw b cs 3 (u281) := oqVw_lay hq277 pu281_0 (by omega) (by omega)
              have lk285 : ((u281).1 71 48).toInt = (t.1 71 48).toInt := congrArg Int32.toInt (((fu281 71 48 rfl).1).trans ((fu236 71 48 rfl).1))
              have lk286 : ((u281).1 71 2).toInt = (u236.1 71 2).toInt := congrArg Int32.toInt ((fu281 71 2 rfl).1)
              have lk287 : ((u281).1 71 47).toInt = (t.1 71 47).toInt := congrArg Int32.toInt (((fu281 71 47 rfl).1).trans ((fu236 71 47 rfl).1))
              have lk288 : ((u281).1 71 5).toInt = v173.toInt := congrArg Int32.toInt (((fu281 71 5 rfl).1).trans (((fu236 71 5 rfl).1).trans (ev173)))
              have lk289 : ((u281).1 71 2).toInt = (u236.1 71 2).toInt := congrArg Int32.toInt ((fu281 71 2 rfl).1)
              have lk290 : ((u281).1 71 47).toInt = (t.1 71 47).toInt := congrArg Int32.toInt (((fu281 71 47 rfl).1).trans ((fu236 71 47 rfl).1))
              have lk291 : ((u281).1 71 2).toInt = (u236.1 71 2).toInt := congrArg Int32.toInt ((fu281 71 2 rfl).1)
              exact r_vret C (oDec_at oX12_onePart 99 rfl) ⟨rfl, ⟨hq283, by omega, by omega, by omega, by omega, (oqJ_fr fu281 rfl hq276), (oqBP_fr fu281 rfl (oqBP_fr fu236 rfl iv10)), hq284, pu281_2⟩⟩
        · skip
          have hq292 : oQ b (x + 1) (t) := oQ_bad iv0 (by omega)
          have hq293 : oqJ g fp fq cz kx b 3 (t) := oqJ_kp iv5 (by omega) rfl rfl
          have hq294 : oqJw g fp fq cw xw b cs 3 (t) := oqJw_bd (by omega)
          have lk295 : ((t).1 71 5).toInt = v173.toInt := congrArg Int32.toInt (ev173)
          exact r_vret C (oDec_at oX12_onePart 76 rfl) ⟨rfl, ⟨hq292, by omega, by omega, by omega, by omega, hq293, iv10, hq294, iv12⟩⟩
  refine r_iconst C (oDec_at oX12_onePart 0 rfl) (v := k1) (by rw [qk1]; rfl) ?_
  refine r_istore_n C (lv' := [(0, .ref (oad E 71)), (1, .int k1)]) [1, 0] (oDec_at oX12_onePart 1 rfl) rfl (by decide) rfl ?_
  have hj := oB1_f ((s).1 71 5)
  exact (key (1000 * (1602 - ((s).1 71 2).toInt) + 10 * k1.toInt + 500 * oB1 ((s).1 71 5)).toNat).1 (s) k1  hp0 (by omega) (by omega) (by omega) (by omega) (by omega) hp5 (by first | (intro h9; exfalso; omega) | exact fun _ => oqN0_of (A := A1) (E := E1) (by omega) (by omega) hskA (by omega) hz24 hz25) (by omega) hp6 hp7 hp8 hp9 hp10 hp11 (by omega)
