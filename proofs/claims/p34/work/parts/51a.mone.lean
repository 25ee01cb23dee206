set_option maxHeartbeats 4000000 in
set_option maxRecDepth 100000 in
theorem ct_X12_onePart (l : Launch) (E : oE) (s : oS)  (b : Nat) (x : Nat) (hp0 : oQ b x s) (hp1 : (b : Int) ≤ 1700) (hp2 : (s.1 71 5).toInt = 0) (hp3 : 0 ≤ (s.1 71 48).toInt ∧ (s.1 71 48).toInt ≤ 6) (hp4 : (s.1 71 45).toInt + (s.1 71 47).toInt + 5 ≤ (s.1 71 2).toInt) : oMet l 5 yX12_onePart cX12_onePart 5 none [(12, 2), (12, 4), (12, 5), (12, 6), (12, 9), (12, 45), (12, 47), (12, 48), (78, 9999), (79, 9999)] E s [.ref (oad E 71)] (oPv (fun u => (oQ b (x + 1) u) ∧ (0 ≤ (u.1 71 48).toInt ∧ (u.1 71 48).toInt ≤ 6) ∧ ((s.1 71 2).toInt - (s.1 71 45).toInt - (s.1 71 47).toInt ≤ (u.1 71 2).toInt - (u.1 71 45).toInt - (u.1 71 47).toInt + 1) ∧ ((u.1 71 5).toInt = 0 → ((s.1 71 2).toInt - (s.1 71 45).toInt - (s.1 71 47).toInt ≤ (u.1 71 2).toInt - (u.1 71 45).toInt - (u.1 71 47).toInt ∧ (s.1 71 2).toInt + 1 ≤ (u.1 71 2).toInt)) ∧ ((s.1 71 2).toInt ≤ (u.1 71 2).toInt))) := by
  refine oMet.of (lv := [(0, .ref (oad E 71))]) (by decide +kernel) (Nat.le_of_ble_eq_true rfl) rfl (fun J C hT => ?_)
  have C : oC l 5 cX12_onePart RX12 5 none [(12, 2), (12, 4), (12, 5), (12, 6), (12, 9), (12, 45), (12, 47), (12, 48), (78, 9999), (79, 9999)] E s (oPv (fun u => (oQ b (x + 1) u) ∧ (0 ≤ (u.1 71 48).toInt ∧ (u.1 71 48).toInt ≤ 6) ∧ ((s.1 71 2).toInt - (s.1 71 45).toInt - (s.1 71 47).toInt ≤ (u.1 71 2).toInt - (u.1 71 45).toInt - (u.1 71 47).toInt + 1) ∧ ((u.1 71 5).toInt = 0 → ((s.1 71 2).toInt - (s.1 71 45).toInt - (s.1 71 47).toInt ≤ (u.1 71 2).toInt - (u.1 71 45).toInt - (u.1 71 47).toInt ∧ (s.1 71 2).toInt + 1 ≤ (u.1 71 2).toInt)) ∧ ((s.1 71 2).toInt ≤ (u.1 71 2).toInt))) J := C
  obtain ⟨km1, qkm1⟩ : ∃ z : Int32, z = (-1) := ⟨_, rfl⟩
  have ekm1 : km1.toInt = (-1) := by rw [qkm1]; rfl
  obtain ⟨k0, qk0⟩ : ∃ z : Int32, z = 0 := ⟨_, rfl⟩
  have ek0 : k0.toInt = 0 := by rw [qk0]; rfl
  obtain ⟨k1, qk1⟩ : ∃ z : Int32, z = 1 := ⟨_, rfl⟩
  have ek1 : k1.toInt = 1 := by rw [qk1]; rfl
  obtain ⟨k20, qk20⟩ : ∃ z : Int32, z = 20 := ⟨_, rfl⟩
  have ek20 : k20.toInt = 20 := by rw [qk20]; rfl
  obtain ⟨k21, qk21⟩ : ∃ z : Int32, z = 21 := ⟨_, rfl⟩
  have ek21 : k21.toInt = 21 := by rw [qk21]; rfl
  obtain ⟨k22, qk22⟩ : ∃ z : Int32, z = 22 := ⟨_, rfl⟩
  have ek22 : k22.toInt = 22 := by rw [qk22]; rfl
  obtain ⟨k40, qk40⟩ : ∃ z : Int32, z = 40 := ⟨_, rfl⟩
  have ek40 : k40.toInt = 40 := by rw [qk40]; rfl
  obtain ⟨k1000, qk1000⟩ : ∃ z : Int32, z = 1000 := ⟨_, rfl⟩
  have ek1000 : k1000.toInt = 1000 := by rw [qk1000]; rfl
  obtain ⟨k9999, qk9999⟩ : ∃ z : Int32, z = 9999 := ⟨_, rfl⟩
  have ek9999 : k9999.toInt = 9999 := by rw [qk9999]; rfl
  have key : ∀ n : Nat, (∀ (t : oS) (x1 : Int32), (oQ b x t) → (0 ≤ x1.toInt ∧ x1.toInt ≤ 1) → (0 ≤ (t.1 71 48).toInt ∧ (t.1 71 48).toInt ≤ 6) → ((t.1 71 5).toInt = 0 → (s.1 71 2).toInt - (s.1 71 45).toInt - (s.1 71 47).toInt ≤ (t.1 71 2).toInt - (t.1 71 45).toInt - (t.1 71 47).toInt) → ((s.1 71 2).toInt - (s.1 71 45).toInt - (s.1 71 47).toInt ≤ (t.1 71 2).toInt - (t.1 71 45).toInt - (t.1 71 47).toInt + 1) → ((s.1 71 2).toInt ≤ (t.1 71 2).toInt) → 1000 * (1602 - (t.1 71 2).toInt) + 10 * x1.toInt + 500 * oB1 (t.1 71 5) ≤ (n : Int) → J t 2 [(0, .ref (oad E 71)), (1, .int x1)] []) ∧ (∀ (t : oS) (x1 : Int32), (oQ b x t) → (x1.toInt = 1) → (0 ≤ (t.1 71 48).toInt ∧ (t.1 71 48).toInt ≤ 6) → ((t.1 71 5).toInt = 0) → ((s.1 71 2).toInt - (s.1 71 45).toInt - (s.1 71 47).toInt ≤ (t.1 71 2).toInt - (t.1 71 45).toInt - (t.1 71 47).toInt) → ((s.1 71 2).toInt ≤ (t.1 71 2).toInt) → 1000 * (1602 - (t.1 71 2).toInt) + 400 ≤ (n : Int) → J t 69 [(0, .ref (oad E 71)), (1, .int x1)] []) ∧ (∀ (t : oS) (x1 : Int32) (x3 : Int32), (oQ b x t) → (x1.toInt = 1) → (0 ≤ (t.1 71 48).toInt ∧ (t.1 71 48).toInt ≤ 6) → ((t.1 71 5).toInt = 0 → (s.1 71 2).toInt - (s.1 71 45).toInt - (s.1 71 47).toInt + 3 ≤ (t.1 71 2).toInt - (t.1 71 45).toInt - (t.1 71 47).toInt) → ((s.1 71 2).toInt - (s.1 71 45).toInt - (s.1 71 47).toInt ≤ (t.1 71 2).toInt - (t.1 71 45).toInt - (t.1 71 47).toInt) → ((s.1 71 2).toInt ≤ (t.1 71 2).toInt) → (0 ≤ x3.toInt ∧ x3.toInt ≤ 1) → 1000 * (1602 - (t.1 71 2).toInt) + 300 ≤ (n : Int) → J t 90 [(0, .ref (oad E 71)), (1, .int x1), (3, .int x3)] []) ∧ (∀ (t : oS) (x1 : Int32), (oQ b x t) → (x1.toInt = 1) → (0 ≤ (t.1 71 48).toInt ∧ (t.1 71 48).toInt ≤ 6) → ((t.1 71 5).toInt = 0 → (s.1 71 2).toInt - (s.1 71 45).toInt - (s.1 71 47).toInt + 2 ≤ (t.1 71 2).toInt - (t.1 71 45).toInt - (t.1 71 47).toInt) → ((s.1 71 2).toInt - (s.1 71 45).toInt - (s.1 71 47).toInt ≤ (t.1 71 2).toInt - (t.1 71 45).toInt - (t.1 71 47).toInt + 1) → ((s.1 71 2).toInt ≤ (t.1 71 2).toInt) → 1000 * (1602 - (t.1 71 2).toInt) + 200 ≤ (n : Int) → J t 132 [(0, .ref (oad E 71)), (1, .int x1)] []) ∧ (∀ (t : oS), (oQ b x t) → (0 ≤ (t.1 71 48).toInt ∧ (t.1 71 48).toInt ≤ 6) → ((t.1 71 5).toInt = 0 → (s.1 71 2).toInt - (s.1 71 45).toInt - (s.1 71 47).toInt ≤ (t.1 71 2).toInt - (t.1 71 45).toInt - (t.1 71 47).toInt) → ((s.1 71 2).toInt - (s.1 71 45).toInt - (s.1 71 47).toInt ≤ (t.1 71 2).toInt - (t.1 71 45).toInt - (t.1 71 47).toInt + 1) → ((s.1 71 2).toInt ≤ (t.1 71 2).toInt) → 50 ≤ (n : Int) → J t 146 [(0, .ref (oad E 71))] []) := by
    intro n
    induction n using Nat.strongRecOn with
    | _ n ih =>
      refine ⟨?_, ?_, ?_, ?_, ?_⟩
      · intro t x1  iv0 iv1 iv2 iv3 iv4 iv5 hmu
        have rx1 := n_rng x1
        have hjn := oB1_nn (t.1 71 5)
        refine r_ty C (fun hty => ?_)
        have hty_coded : (0 : Int) ≤ ((t).1 71 45).toInt ∧ ((t).1 71 45).toInt ≤ 1600 := hty.1 71 45
        have hty_waits : (0 : Int) ≤ ((t).1 71 47).toInt ∧ ((t).1 71 47).toInt ≤ 1700 := hty.1 71 47
        have hty_at : (0 : Int) ≤ ((t).1 71 2).toInt ∧ ((t).1 71 2).toInt ≤ 1600 := hty.1 71 2
        clear hty
        refine r_iload_n C (j := 1) (oDec_at oX12_onePart 2 rfl) rfl rfl ?_
        refine r_if_eq C 146 (oDec_at oX12_onePart 3 rfl) (by decide) (fun cd1 => ?_) (fun cd1 => ?_)
        · skip
          refine r_pick C [0] rfl ?_
          exact (ih (n - 1) (by omega)).2.2.2.2 (t)   iv0 (by omega) (by omega) (by omega) (by omega) (by omega)
        · skip
          refine r_aload_n C (j := 0) (oDec_at oX12_onePart 4 rfl) rfl rfl ?_
          obtain ⟨v2, ev2⟩ : ∃ z : Int32, (t).1 71 5 = z := ⟨_, rfl⟩
          have gv2 : (t.1 71 5).toInt = v2.toInt := congrArg Int32.toInt (ev2)
          have rv2 := n_rng v2
          refine r_geti (k := 5) (lo := (-2147483648)) (hi := 2147483647) C v2 oCl12 rfl (by decide) flX12_173 rfl rfl (ev2) rfl rfl (oDec_at oX12_onePart 5 rfl) (fun _ _ => ?_)
          refine r_if_ne C 146 (oDec_at oX12_onePart 6 rfl) (by decide) (fun cd3 => ?_) (fun cd3 => ?_)
          · skip
            have lk4 : ((t).1 71 5).toInt = v2.toInt := congrArg Int32.toInt (ev2)
            refine r_pick C [0] rfl ?_
            exact (ih (n - 1) (by omega)).2.2.2.2 (t)   iv0 (by omega) (by omega) (by omega) (by omega) (by omega)
          · skip
            have hj0 := oB1_0 (x := t.1 71 5) (by omega)
            refine r_aload_n C (j := 0) (oDec_at oX12_onePart 7 rfl) rfl rfl ?_
            refine r_callVi C oCl12 rfl miX12_look mlX12_185 (ct_X12_look l E (t)  ) (by decide) rfl rfl rfl (Nat.le_of_ble_eq_true rfl) (oDec_at oX12_onePart 8 rfl) (fun r6 u5 pu5 fu5 => ?_)
            try dsimp only at pu5
            obtain ⟨pu5_0, pu5_1⟩ := pu5
            obtain ⟨v7, ev7⟩ : ∃ z : Int32, (u5).1 71 2 = z := ⟨_, rfl⟩
            have gv7 : (u5.1 71 2).toInt = v7.toInt := congrArg Int32.toInt ev7
            have lt8 : ((u5).1 72 ((u5).1 71 2).toNatClampNeg).toInt = (t.1 72 v7.toNatClampNeg).toInt := by rw [ev7, show (u5).1 72 v7.toNatClampNeg = t.1 72 v7.toNatClampNeg from (fu5 72 v7.toNatClampNeg rfl).1]
            have lu9 : ((u5).1 71 2).toInt = v7.toInt := congrArg Int32.toInt (ev7)
            have lu10 : ((u5).1 71 2).toInt = v7.toInt := congrArg Int32.toInt (ev7)
            have lu11 : ((u5).1 71 3).toInt = (t.1 71 3).toInt := congrArg Int32.toInt ((fu5 71 3 rfl).1)
            have rr6 := n_rng r6
            refine r_istore_n C (lv' := [(0, .ref (oad E 71)), (1, .int x1), (2, .int r6)]) [1, 2, 0] (oDec_at oX12_onePart 9 rfl) rfl (by decide) rfl ?_
            refine r_iload_n C (j := 2) (oDec_at oX12_onePart 10 rfl) rfl rfl ?_
            refine r_bipush C (oDec_at oX12_onePart 11 rfl) (v := k40) (by rw [qk40]; rfl) ?_
            refine r_icmp_ne C 47 (oDec_at oX12_onePart 12 rfl) (by decide) (fun cd12 => ?_) (fun cd12 => ?_)
            · skip
              refine r_aload_n C (j := 0) (oDec_at oX12_onePart 25 rfl) rfl rfl ?_
              refine r_aload_n C (j := 0) (oDec_at oX12_onePart 26 rfl) rfl rfl ?_
              refine r_getF (k := 34) (b := 97) C oCl12 rfl (by decide) flX12_90 rfl rfl rfl (oDec_at oX12_onePart 27 rfl) ?_
              have lk13 : ((u5).1 71 2).toInt = v7.toInt := congrArg Int32.toInt (ev7)
              have lk14 : ((u5).1 71 5).toInt = v2.toInt := congrArg Int32.toInt (((fu5 71 5 rfl).1).trans (ev2))
              refine r_callVi C oCl12 rfl miX12_isHere mlX12_196 (ct_X12_isHere l E (u5) 97 73 3 rfl (by decide) (by decide) rfl rfl (by omega)) (by decide) rfl rfl rfl (Nat.le_of_ble_eq_true rfl) (oDec_at oX12_onePart 28 rfl) (fun r16 u15 pu15 fu15 => ?_)
              try dsimp only at pu15
              try simp only [lk13, lk14] at pu15
              obtain ⟨pu15_0, pu15_1, pu15_2⟩ := pu15
              have rr16 := n_rng r16
              refine r_if_ne C 69 (oDec_at oX12_onePart 29 rfl) (by decide) (fun cd17 => ?_) (fun cd17 => ?_)
              · skip
                replace pu15_2 := pu15_2 (by omega)
                have lk18 : ((u15).1 71 48).toInt = (t.1 71 48).toInt := congrArg Int32.toInt (((fu15 71 48 rfl).1).trans ((fu5 71 48 rfl).1))
                have lk19 : ((u15).1 71 5).toInt = v2.toInt := congrArg Int32.toInt (((fu15 71 5 rfl).1).trans (((fu5 71 5 rfl).1).trans (ev2)))
                have lk20 : ((u15).1 71 45).toInt = (t.1 71 45).toInt := congrArg Int32.toInt (((fu15 71 45 rfl).1).trans ((fu5 71 45 rfl).1))
                have lk21 : ((u15).1 71 47).toInt = (t.1 71 47).toInt := congrArg Int32.toInt (((fu15 71 47 rfl).1).trans ((fu5 71 47 rfl).1))
                refine r_pick C [0, 1] rfl ?_
                exact (ih (n - 1) (by omega)).2.1 (u15) x1  (oQ_fr fu15 rfl (oQ_fr fu5 rfl iv0)) (by omega) (by omega) (by omega) (by omega) (by omega) (by omega)
              · skip
                clear pu15_2
                refine r_aload_n C (j := 0) (oDec_at oX12_onePart 30 rfl) rfl rfl ?_
                refine r_aload_n C (j := 0) (oDec_at oX12_onePart 31 rfl) rfl rfl ?_
                refine r_getF (k := 35) (b := 98) C oCl12 rfl (by decide) flX12_93 rfl rfl rfl (oDec_at oX12_onePart 32 rfl) ?_
                have lk22 : ((u15).1 71 5).toInt = v2.toInt := congrArg Int32.toInt (((fu15 71 5 rfl).1).trans (((fu5 71 5 rfl).1).trans (ev2)))
                refine r_callVi C oCl12 rfl miX12_isHere mlX12_196 (ct_X12_isHere l E (u15) 98 74 3 rfl (by decide) (by decide) rfl rfl (by omega)) (by decide) rfl rfl rfl (Nat.le_of_ble_eq_true rfl) (oDec_at oX12_onePart 33 rfl) (fun r24 u23 pu23 fu23 => ?_)
                try dsimp only at pu23
                try simp only [lk22] at pu23
                obtain ⟨pu23_0, pu23_1, pu23_2⟩ := pu23
                have rr24 := n_rng r24
                refine r_if_eq C 141 (oDec_at oX12_onePart 34 rfl) (by decide) (fun cd25 => ?_) (fun cd25 => ?_)
                · skip
                  clear pu23_2
                  refine r_iconst C (oDec_at oX12_onePart 70 rfl) (v := k0) (by rw [qk0]; rfl) ?_
                  refine r_istore_n C (lv' := [(0, .ref (oad E 71)), (1, .int k0), (2, .int r6)]) [1, 0, 2] (oDec_at oX12_onePart 71 rfl) rfl (by decide) rfl ?_
                  refine r_goto C (tgt := 2) (oDec_at oX12_onePart 72 rfl) (by decide) ?_
                  have lk26 : ((u23).1 71 48).toInt = (t.1 71 48).toInt := congrArg Int32.toInt (((fu23 71 48 rfl).1).trans (((fu15 71 48 rfl).1).trans ((fu5 71 48 rfl).1)))
                  have lk27 : ((u23).1 71 5).toInt = v2.toInt := congrArg Int32.toInt (((fu23 71 5 rfl).1).trans (((fu15 71 5 rfl).1).trans (((fu5 71 5 rfl).1).trans (ev2))))
                  have lk28 : ((u23).1 71 45).toInt = (t.1 71 45).toInt := congrArg Int32.toInt (((fu23 71 45 rfl).1).trans (((fu15 71 45 rfl).1).trans ((fu5 71 45 rfl).1)))
                  have lk29 : ((u23).1 71 47).toInt = (t.1 71 47).toInt := congrArg Int32.toInt (((fu23 71 47 rfl).1).trans (((fu15 71 47 rfl).1).trans ((fu5 71 47 rfl).1)))
                  have lk30 : ((u23).1 71 45).toInt = (t.1 71 45).toInt := congrArg Int32.toInt (((fu23 71 45 rfl).1).trans (((fu15 71 45 rfl).1).trans ((fu5 71 45 rfl).1)))
                  have lk31 : ((u23).1 71 47).toInt = (t.1 71 47).toInt := congrArg Int32.toInt (((fu23 71 47 rfl).1).trans (((fu15 71 47 rfl).1).trans ((fu5 71 47 rfl).1)))
                  have hj := oB1_f ((u23).1 71 5)
                  refine r_pick C [0, 1] rfl ?_
                  exact (ih (n - 1) (by omega)).1 (u23) k0  (oQ_fr fu23 rfl (oQ_fr fu15 rfl (oQ_fr fu5 rfl iv0))) (by omega) (by omega) (by omega) (by omega) (by omega) (by omega)
                · skip
                  replace pu23_2 := pu23_2 (by omega)
                  have lk32 : ((u23).1 71 48).toInt = (t.1 71 48).toInt := congrArg Int32.toInt (((fu23 71 48 rfl).1).trans (((fu15 71 48 rfl).1).trans ((fu5 71 48 rfl).1)))
                  have lk33 : ((u23).1 71 5).toInt = v2.toInt := congrArg Int32.toInt (((fu23 71 5 rfl).1).trans (((fu15 71 5 rfl).1).trans (((fu5 71 5 rfl).1).trans (ev2))))
                  have lk34 : ((u23).1 71 45).toInt = (t.1 71 45).toInt := congrArg Int32.toInt (((fu23 71 45 rfl).1).trans (((fu15 71 45 rfl).1).trans ((fu5 71 45 rfl).1)))
                  have lk35 : ((u23).1 71 47).toInt = (t.1 71 47).toInt := congrArg Int32.toInt (((fu23 71 47 rfl).1).trans (((fu15 71 47 rfl).1).trans ((fu5 71 47 rfl).1)))
                  refine r_pick C [0, 1] rfl ?_
                  exact (ih (n - 1) (by omega)).2.1 (u23) x1  (oQ_fr fu23 rfl (oQ_fr fu15 rfl (oQ_fr fu5 rfl iv0))) (by omega) (by omega) (by omega) (by omega) (by omega) (by omega)
            · skip
              replace pu5_1 := pu5_1.resolve_left (by omega)
              refine r_aload_n C (j := 0) (oDec_at oX12_onePart 13 rfl) rfl rfl ?_
              refine r_bipush C (oDec_at oX12_onePart 14 rfl) (v := k20) (by rw [qk20]; rfl) ?_
              refine r_aload_n C (j := 0) (oDec_at oX12_onePart 15 rfl) rfl rfl ?_
              refine r_geti (k := 2) (lo := 0) (hi := 1600) C v7 oCl12 rfl (by decide) flX12_179 rfl rfl (ev7) rfl rfl (oDec_at oX12_onePart 16 rfl) (fun b36 b36h => ?_)
              have lk37 : ((u5).1 71 47).toInt = (t.1 71 47).toInt := congrArg Int32.toInt ((fu5 71 47 rfl).1)
              have lk38 : ((u5).1 71 47).toInt = (t.1 71 47).toInt := congrArg Int32.toInt ((fu5 71 47 rfl).1)
              have lk39 : ((u5).1 71 48).toInt = (t.1 71 48).toInt := congrArg Int32.toInt ((fu5 71 48 rfl).1)
              have lk40 : ((u5).1 71 48).toInt = (t.1 71 48).toInt := congrArg Int32.toInt ((fu5 71 48 rfl).1)
              have lk41 : ((u5).1 71 47).toInt = (t.1 71 47).toInt := congrArg Int32.toInt ((fu5 71 47 rfl).1)
              have lk42 : ((u5).1 71 5).toInt = v2.toInt := congrArg Int32.toInt (((fu5 71 5 rfl).1).trans (ev2))
              have lk43 : ((u5).1 71 5).toInt = v2.toInt := congrArg Int32.toInt (((fu5 71 5 rfl).1).trans (ev2))
              refine r_callVv C oCl12 rfl miX12_opens mlX12_292 (ct_X12_opens l E (u5) k20 v7 (by omega) (by omega)) (by decide) rfl rfl rfl (Nat.le_of_ble_eq_true rfl) (oDec_at oX12_onePart 17 rfl) (fun u44 pu44 fu44 => ?_)
              try dsimp only at pu44
              try simp only [lk38, lk39, lk40, lk41, lk42, lk43] at pu44
              obtain ⟨pu44_0, pu44_1, pu44_2⟩ := pu44
              have hq46 : oQ b x (u44) := oQ_opens fu44 rfl (oQ_fr fu5 rfl iv0) pu44_1 (by omega) (by omega) (by omega)
              refine r_aload_n C (j := 0) (oDec_at oX12_onePart 18 rfl) rfl rfl ?_
              refine r_pc C 35 rfl ?_
              refine r_dup C (oDec_at oX12_onePart 19 rfl) rfl ?_
              refine r_geti (k := 2) (lo := 0) (hi := 1600) C v7 oCl12 rfl (by decide) flX12_179 rfl rfl (((fu44 71 2 rfl).1).trans (ev7)) rfl rfl (oDec_at oX12_onePart 20 rfl) (fun b47 b47h => ?_)
              refine r_iconst C (oDec_at oX12_onePart 21 rfl) (v := k1) (by rw [qk1]; rfl) ?_
              obtain ⟨v48, ev48⟩ : ∃ z : Int32, z = v7 + k1 := ⟨_, rfl⟩
              have hv48 : v48.toInt = v7.toInt + k1.toInt := n_add ev48 (by omega) (by omega)
              refine r_iadd C v48 (oDec_at oX12_onePart 22 rfl) ev48 ?_
              refine r_puti (k := 2) (lo := 0) (hi := 1600) C oCl12 rfl (by decide) flX12_179 rfl rfl rfl rfl rfl rfl rfl rfl ⟨by omega, by omega⟩ (oDec_at oX12_onePart 23 rfl) ?_
              refine r_goto C (tgt := 143) (oDec_at oX12_onePart 24 rfl) (by decide) ?_
              refine r_goto C (tgt := 2) (oDec_at oX12_onePart 72 rfl) (by decide) ?_
              have lk49 : (((pI u44 71 2 v48)).1 71 48).toInt = (u44.1 71 48).toInt := congrArg Int32.toInt ((pI_ne (a := 71) (b := 48) (c := 71) (k := 2) _ _ (Or.inr (by decide))))
              have lk50 : (((pI u44 71 2 v48)).1 71 5).toInt = (u44.1 71 5).toInt := congrArg Int32.toInt ((pI_ne (a := 71) (b := 5) (c := 71) (k := 2) _ _ (Or.inr (by decide))))
              have lk51 : (((pI u44 71 2 v48)).1 71 2).toInt = v48.toInt := congrArg Int32.toInt ((pI_self _ _ _ _))
              have lk52 : (((pI u44 71 2 v48)).1 71 45).toInt = (t.1 71 45).toInt := congrArg Int32.toInt (((pI_ne (a := 71) (b := 45) (c := 71) (k := 2) _ _ (Or.inr (by decide)))).trans (((fu44 71 45 rfl).1).trans ((fu5 71 45 rfl).1)))
              have lk53 : (((pI u44 71 2 v48)).1 71 47).toInt = (u44.1 71 47).toInt := congrArg Int32.toInt ((pI_ne (a := 71) (b := 47) (c := 71) (k := 2) _ _ (Or.inr (by decide))))
              have lk54 : (((pI u44 71 2 v48)).1 71 2).toInt = v48.toInt := congrArg Int32.toInt ((pI_self _ _ _ _))
              have lk55 : (((pI u44 71 2 v48)).1 71 45).toInt = (t.1 71 45).toInt := congrArg Int32.toInt (((pI_ne (a := 71) (b := 45) (c := 71) (k := 2) _ _ (Or.inr (by decide)))).trans (((fu44 71 45 rfl).1).trans ((fu5 71 45 rfl).1)))
              have lk56 : (((pI u44 71 2 v48)).1 71 47).toInt = (u44.1 71 47).toInt := congrArg Int32.toInt ((pI_ne (a := 71) (b := 47) (c := 71) (k := 2) _ _ (Or.inr (by decide))))
              have lk57 : (((pI u44 71 2 v48)).1 71 2).toInt = v48.toInt := congrArg Int32.toInt ((pI_self _ _ _ _))
              have lk58 : (((pI u44 71 2 v48)).1 71 2).toInt = v48.toInt := congrArg Int32.toInt ((pI_self _ _ _ _))
              have hj := oB1_f (((pI u44 71 2 v48)).1 71 5)
              refine r_pick C [0, 1] rfl ?_
              exact (ih (n - 1) (by omega)).1 ((pI u44 71 2 v48)) x1  (oQ_fr (oFr_oneI (q := 12) (m := 2) rfl (by rfl)) rfl hq46) (by omega) (by omega) (by omega) (by omega) (by omega) (by omega)
      · intro t x1  iv0 iv1 iv2 iv3 iv4 iv5 hmu
        have rx1 := n_rng x1
        refine r_ty C (fun hty => ?_)
        have hty_coded : (0 : Int) ≤ ((t).1 71 45).toInt ∧ ((t).1 71 45).toInt ≤ 1600 := hty.1 71 45
        have hty_waits : (0 : Int) ≤ ((t).1 71 47).toInt ∧ ((t).1 71 47).toInt ≤ 1700 := hty.1 71 47
        have hty_at : (0 : Int) ≤ ((t).1 71 2).toInt ∧ ((t).1 71 2).toInt ≤ 1600 := hty.1 71 2
        clear hty
        refine r_aload_n C (j := 0) (oDec_at oX12_onePart 35 rfl) rfl rfl ?_
        refine r_aload_n C (j := 0) (oDec_at oX12_onePart 36 rfl) rfl rfl ?_
        refine r_getF (k := 34) (b := 97) C oCl12 rfl (by decide) flX12_90 rfl rfl rfl (oDec_at oX12_onePart 37 rfl) ?_
        refine r_callVi C oCl12 rfl miX12_takes mlX12_200 (ct_X12_takes l E (t) 97 73 3 rfl (by decide) (by decide) rfl rfl (by omega)) (by decide) rfl rfl rfl (Nat.le_of_ble_eq_true rfl) (oDec_at oX12_onePart 38 rfl) (fun r60 u59 pu59 fu59 => ?_)
        try dsimp only at pu59
        obtain ⟨pu59_0, pu59_1, pu59_2⟩ := pu59
        have rr60 := n_rng r60
        refine r_istore_n C (lv' := [(0, .ref (oad E 71)), (1, .int x1), (3, .int r60)]) [1, 2, 0] (oDec_at oX12_onePart 39 rfl) rfl (by decide) rfl ?_
        refine r_iload_n C (j := 2) (oDec_at oX12_onePart 40 rfl) rfl rfl ?_
        refine r_pc C 79 rfl ?_
        refine r_if_ne C 90 (oDec_at oX12_onePart 41 rfl) (by decide) (fun cd61 => ?_) (fun cd61 => ?_)
        · skip
          replace pu59_2 := pu59_2 (by omega)
          have lk62 : ((u59).1 71 48).toInt = (t.1 71 48).toInt := congrArg Int32.toInt ((fu59 71 48 rfl).1)
          have lk63 : ((u59).1 71 5).toInt = (t.1 71 5).toInt := congrArg Int32.toInt ((fu59 71 5 rfl).1)
          have lk64 : ((u59).1 71 45).toInt = (t.1 71 45).toInt := congrArg Int32.toInt ((fu59 71 45 rfl).1)
          have lk65 : ((u59).1 71 47).toInt = (t.1 71 47).toInt := congrArg Int32.toInt ((fu59 71 47 rfl).1)
          have lk66 : ((u59).1 71 45).toInt = (t.1 71 45).toInt := congrArg Int32.toInt ((fu59 71 45 rfl).1)
          have lk67 : ((u59).1 71 47).toInt = (t.1 71 47).toInt := congrArg Int32.toInt ((fu59 71 47 rfl).1)
          exact (ih (n - 1) (by omega)).2.2.1 (u59) x1 r60  (oQ_fr fu59 rfl iv0) (by omega) (by omega) (by omega) (by omega) (by omega) (by omega) (by omega)
        · skip
          clear pu59_2
          refine r_aload_n C (j := 0) (oDec_at oX12_onePart 42 rfl) rfl rfl ?_
          refine r_aload_n C (j := 0) (oDec_at oX12_onePart 43 rfl) rfl rfl ?_
          refine r_getF (k := 35) (b := 98) C oCl12 rfl (by decide) flX12_93 rfl rfl rfl (oDec_at oX12_onePart 44 rfl) ?_
          have lk68 : ((u59).1 71 5).toInt = (t.1 71 5).toInt := congrArg Int32.toInt ((fu59 71 5 rfl).1)
          refine r_callVv C oCl12 rfl miX12_asks mlX12_240 (ct_X12_asks l E (u59) 98 74 3 rfl (by decide) (by decide) rfl rfl (by omega)) (by decide) rfl rfl rfl (Nat.le_of_ble_eq_true rfl) (oDec_at oX12_onePart 45 rfl) (fun u69 pu69 fu69 => ?_)
          try dsimp only at pu69
          try simp only [lk68] at pu69
          obtain ⟨pu69_0, pu69_1⟩ := pu69
          have lk71 : ((u69).1 71 48).toInt = (t.1 71 48).toInt := congrArg Int32.toInt (((fu69 71 48 rfl).1).trans ((fu59 71 48 rfl).1))
          have lk72 : ((u69).1 71 45).toInt = (t.1 71 45).toInt := congrArg Int32.toInt (((fu69 71 45 rfl).1).trans ((fu59 71 45 rfl).1))
          have lk73 : ((u69).1 71 47).toInt = (t.1 71 47).toInt := congrArg Int32.toInt (((fu69 71 47 rfl).1).trans ((fu59 71 47 rfl).1))
          have lk74 : ((u69).1 71 45).toInt = (t.1 71 45).toInt := congrArg Int32.toInt (((fu69 71 45 rfl).1).trans ((fu59 71 45 rfl).1))
          have lk75 : ((u69).1 71 47).toInt = (t.1 71 47).toInt := congrArg Int32.toInt (((fu69 71 47 rfl).1).trans ((fu59 71 47 rfl).1))
          exact (ih (n - 1) (by omega)).2.2.1 (u69) x1 r60  (oQ_frb fu69 rfl (by omega) (oQ_fr fu59 rfl iv0)) (by omega) (by omega) (by omega) (by omega) (by omega) (by omega) (by omega)
      · intro t x1 x3  iv0 iv1 iv2 iv3 iv4 iv5 iv6 hmu
        have rx1 := n_rng x1
        have rx3 := n_rng x3
        refine r_ty C (fun hty => ?_)
        have hty_coded : (0 : Int) ≤ ((t).1 71 45).toInt ∧ ((t).1 71 45).toInt ≤ 1600 := hty.1 71 45
        have hty_waits : (0 : Int) ≤ ((t).1 71 47).toInt ∧ ((t).1 71 47).toInt ≤ 1700 := hty.1 71 47
        have hty_at : (0 : Int) ≤ ((t).1 71 2).toInt ∧ ((t).1 71 2).toInt ≤ 1600 := hty.1 71 2
        clear hty
        refine r_aload_n C (j := 0) (oDec_at oX12_onePart 46 rfl) rfl rfl ?_
        refine r_callVi C oCl12 rfl miX12_look mlX12_185 (ct_X12_look l E (t)  ) (by decide) rfl rfl rfl (Nat.le_of_ble_eq_true rfl) (oDec_at oX12_onePart 47 rfl) (fun r77 u76 pu76 fu76 => ?_)
        try dsimp only at pu76
        obtain ⟨pu76_0, pu76_1⟩ := pu76
        obtain ⟨v78, ev78⟩ : ∃ z : Int32, (u76).1 71 2 = z := ⟨_, rfl⟩
        have gv78 : (u76.1 71 2).toInt = v78.toInt := congrArg Int32.toInt ev78
        have lt79 : ((u76).1 72 ((u76).1 71 2).toNatClampNeg).toInt = (t.1 72 v78.toNatClampNeg).toInt := by rw [ev78, show (u76).1 72 v78.toNatClampNeg = t.1 72 v78.toNatClampNeg from (fu76 72 v78.toNatClampNeg rfl).1]
        have lu80 : ((u76).1 71 2).toInt = v78.toInt := congrArg Int32.toInt (ev78)
        have lu81 : ((u76).1 71 2).toInt = v78.toInt := congrArg Int32.toInt (ev78)
        have lu82 : ((u76).1 71 3).toInt = (t.1 71 3).toInt := congrArg Int32.toInt ((fu76 71 3 rfl).1)
        have rr77 := n_rng r77
        refine r_bipush C (oDec_at oX12_onePart 48 rfl) (v := k40) (by rw [qk40]; rfl) ?_
        refine r_icmp_ne C 106 (oDec_at oX12_onePart 49 rfl) (by decide) (fun cd83 => ?_) (fun cd83 => ?_)
        · skip
          refine r_iconst C (oDec_at oX12_onePart 53 rfl) (v := km1) (by rw [qkm1]; rfl) ?_
          refine r_istore C (lv' := [(0, .ref (oad E 71)), (1, .int x1), (3, .int x3), (4, .int km1)]) [1, 2, 3, 0] (oDec_at oX12_onePart 54 rfl) (by decide) rfl ?_
          refine r_iload C (j := 3) (oDec_at oX12_onePart 55 rfl) rfl ?_
          refine r_iconst C (oDec_at oX12_onePart 56 rfl) (v := km1) (by rw [qkm1]; rfl) ?_
          refine r_icmp_eq C 132 (oDec_at oX12_onePart 57 rfl) (by decide) (fun cd84 => ?_) (fun cd84 => ?_)
          · skip
            have lk85 : ((u76).1 71 48).toInt = (t.1 71 48).toInt := congrArg Int32.toInt ((fu76 71 48 rfl).1)
            have lk86 : ((u76).1 71 5).toInt = (t.1 71 5).toInt := congrArg Int32.toInt ((fu76 71 5 rfl).1)
            have lk87 : ((u76).1 71 2).toInt = v78.toInt := congrArg Int32.toInt (ev78)
            have lk88 : ((u76).1 71 45).toInt = (t.1 71 45).toInt := congrArg Int32.toInt ((fu76 71 45 rfl).1)
            have lk89 : ((u76).1 71 47).toInt = (t.1 71 47).toInt := congrArg Int32.toInt ((fu76 71 47 rfl).1)
            have lk90 : ((u76).1 71 2).toInt = v78.toInt := congrArg Int32.toInt (ev78)
            have lk91 : ((u76).1 71 45).toInt = (t.1 71 45).toInt := congrArg Int32.toInt ((fu76 71 45 rfl).1)
            have lk92 : ((u76).1 71 47).toInt = (t.1 71 47).toInt := congrArg Int32.toInt ((fu76 71 47 rfl).1)
            have lk93 : ((u76).1 71 2).toInt = v78.toInt := congrArg Int32.toInt (ev78)
            have lk94 : ((u76).1 71 2).toInt = v78.toInt := congrArg Int32.toInt (ev78)
            refine r_pick C [0, 1] rfl ?_
            exact (ih (n - 1) (by omega)).2.2.2.1 (u76) x1  (by first | exact oQ_opens fu76 rfl iv0 pu76_1 (by omega) (by omega) (by omega) | exact (oQ_fr fu76 rfl iv0)) (by omega) (by omega) (by omega) (by omega) (by omega) (by omega)
          · omega
        · skip
          replace pu76_1 := pu76_1.resolve_left (by omega)
          refine r_aload_n C (j := 0) (oDec_at oX12_onePart 50 rfl) rfl rfl ?_
          refine r_geti (k := 2) (lo := 0) (hi := 1600) C v78 oCl12 rfl (by decide) flX12_179 rfl rfl (ev78) rfl rfl (oDec_at oX12_onePart 51 rfl) (fun b95 b95h => ?_)
          refine r_goto C (tgt := 107) (oDec_at oX12_onePart 52 rfl) (by decide) ?_
          refine r_istore C (lv' := [(0, .ref (oad E 71)), (1, .int x1), (3, .int x3), (4, .int v78)]) [1, 2, 3, 0] (oDec_at oX12_onePart 54 rfl) (by decide) rfl ?_
          refine r_iload C (j := 3) (oDec_at oX12_onePart 55 rfl) rfl ?_
          refine r_iconst C (oDec_at oX12_onePart 56 rfl) (v := km1) (by rw [qkm1]; rfl) ?_
          refine r_icmp_eq C 132 (oDec_at oX12_onePart 57 rfl) (by decide) (fun cd96 => ?_) (fun cd96 => ?_)
          · skip
            have lk97 : ((u76).1 71 48).toInt = (t.1 71 48).toInt := congrArg Int32.toInt ((fu76 71 48 rfl).1)
            have lk98 : ((u76).1 71 5).toInt = (t.1 71 5).toInt := congrArg Int32.toInt ((fu76 71 5 rfl).1)
            have lk99 : ((u76).1 71 2).toInt = v78.toInt := congrArg Int32.toInt (ev78)
            have lk100 : ((u76).1 71 45).toInt = (t.1 71 45).toInt := congrArg Int32.toInt ((fu76 71 45 rfl).1)
            have lk101 : ((u76).1 71 47).toInt = (t.1 71 47).toInt := congrArg Int32.toInt ((fu76 71 47 rfl).1)
            have lk102 : ((u76).1 71 2).toInt = v78.toInt := congrArg Int32.toInt (ev78)
            have lk103 : ((u76).1 71 45).toInt = (t.1 71 45).toInt := congrArg Int32.toInt ((fu76 71 45 rfl).1)
            have lk104 : ((u76).1 71 47).toInt = (t.1 71 47).toInt := congrArg Int32.toInt ((fu76 71 47 rfl).1)
            have lk105 : ((u76).1 71 2).toInt = v78.toInt := congrArg Int32.toInt (ev78)
            have lk106 : ((u76).1 71 2).toInt = v78.toInt := congrArg Int32.toInt (ev78)
            refine r_pick C [0, 1] rfl ?_
            exact (ih (n - 1) (by omega)).2.2.2.1 (u76) x1  (by first | exact oQ_opens fu76 rfl iv0 pu76_1 (by omega) (by omega) (by omega) | exact (oQ_fr fu76 rfl iv0)) (by omega) (by omega) (by omega) (by omega) (by omega) (by omega)
          · skip
            refine r_aload_n C (j := 0) (oDec_at oX12_onePart 58 rfl) rfl rfl ?_
            refine r_iload_n C (j := 2) (oDec_at oX12_onePart 59 rfl) rfl rfl ?_
            refine r_if_eq C 125 (oDec_at oX12_onePart 60 rfl) (by decide) (fun cd107 => ?_) (fun cd107 => ?_)
            · skip
              refine r_bipush C (oDec_at oX12_onePart 63 rfl) (v := k22) (by rw [qk22]; rfl) ?_
              refine r_iload C (j := 3) (oDec_at oX12_onePart 64 rfl) rfl ?_
              have lk108 : ((u76).1 71 47).toInt = (t.1 71 47).toInt := congrArg Int32.toInt ((fu76 71 47 rfl).1)
              have lk109 : ((u76).1 71 47).toInt = (t.1 71 47).toInt := congrArg Int32.toInt ((fu76 71 47 rfl).1)
              have lk110 : ((u76).1 71 48).toInt = (t.1 71 48).toInt := congrArg Int32.toInt ((fu76 71 48 rfl).1)
              have lk111 : ((u76).1 71 48).toInt = (t.1 71 48).toInt := congrArg Int32.toInt ((fu76 71 48 rfl).1)
              have lk112 : ((u76).1 71 47).toInt = (t.1 71 47).toInt := congrArg Int32.toInt ((fu76 71 47 rfl).1)
              have lk113 : ((u76).1 71 5).toInt = (t.1 71 5).toInt := congrArg Int32.toInt ((fu76 71 5 rfl).1)
              have lk114 : ((u76).1 71 5).toInt = (t.1 71 5).toInt := congrArg Int32.toInt ((fu76 71 5 rfl).1)
              refine r_callVv C oCl12 rfl miX12_opens mlX12_292 (ct_X12_opens l E (u76) k22 v78 (by omega) (by omega)) (by decide) rfl rfl rfl (Nat.le_of_ble_eq_true rfl) (oDec_at oX12_onePart 65 rfl) (fun u115 pu115 fu115 => ?_)
              try dsimp only at pu115
              try simp only [lk109, lk110, lk111, lk112, lk113, lk114] at pu115
              obtain ⟨pu115_0, pu115_1, pu115_2⟩ := pu115
              have lk117 : ((u115).1 71 2).toInt = v78.toInt := congrArg Int32.toInt (((fu115 71 2 rfl).1).trans (ev78))
              have lk118 : ((u115).1 71 45).toInt = (t.1 71 45).toInt := congrArg Int32.toInt (((fu115 71 45 rfl).1).trans ((fu76 71 45 rfl).1))
              have lk119 : ((u115).1 71 2).toInt = v78.toInt := congrArg Int32.toInt (((fu115 71 2 rfl).1).trans (ev78))
              have lk120 : ((u115).1 71 45).toInt = (t.1 71 45).toInt := congrArg Int32.toInt (((fu115 71 45 rfl).1).trans ((fu76 71 45 rfl).1))
              have lk121 : ((u115).1 71 2).toInt = v78.toInt := congrArg Int32.toInt (((fu115 71 2 rfl).1).trans (ev78))
              have lk122 : ((u115).1 71 2).toInt = v78.toInt := congrArg Int32.toInt (((fu115 71 2 rfl).1).trans (ev78))
              refine r_pick C [0, 1] rfl ?_
              exact (ih (n - 1) (by omega)).2.2.2.1 (u115) x1  (by first | exact oQ_opens fu115 rfl (oQ_fr fu76 rfl iv0) pu115_1 (by omega) (by omega) (by omega) | exact (by assumption)) (by omega) (by omega) (by omega) (by omega) (by omega) (by omega)
            · skip
              refine r_bipush C (oDec_at oX12_onePart 61 rfl) (v := k21) (by rw [qk21]; rfl) ?_
              refine r_goto C (tgt := 127) (oDec_at oX12_onePart 62 rfl) (by decide) ?_
              refine r_iload C (j := 3) (oDec_at oX12_onePart 64 rfl) rfl ?_
              have lk123 : ((u76).1 71 47).toInt = (t.1 71 47).toInt := congrArg Int32.toInt ((fu76 71 47 rfl).1)
              have lk124 : ((u76).1 71 47).toInt = (t.1 71 47).toInt := congrArg Int32.toInt ((fu76 71 47 rfl).1)
              have lk125 : ((u76).1 71 48).toInt = (t.1 71 48).toInt := congrArg Int32.toInt ((fu76 71 48 rfl).1)
              have lk126 : ((u76).1 71 48).toInt = (t.1 71 48).toInt := congrArg Int32.toInt ((fu76 71 48 rfl).1)
              have lk127 : ((u76).1 71 47).toInt = (t.1 71 47).toInt := congrArg Int32.toInt ((fu76 71 47 rfl).1)
              have lk128 : ((u76).1 71 5).toInt = (t.1 71 5).toInt := congrArg Int32.toInt ((fu76 71 5 rfl).1)
              have lk129 : ((u76).1 71 5).toInt = (t.1 71 5).toInt := congrArg Int32.toInt ((fu76 71 5 rfl).1)
              refine r_callVv C oCl12 rfl miX12_opens mlX12_292 (ct_X12_opens l E (u76) k21 v78 (by omega) (by omega)) (by decide) rfl rfl rfl (Nat.le_of_ble_eq_true rfl) (oDec_at oX12_onePart 65 rfl) (fun u130 pu130 fu130 => ?_)
              try dsimp only at pu130
              try simp only [lk124, lk125, lk126, lk127, lk128, lk129] at pu130
              obtain ⟨pu130_0, pu130_1, pu130_2⟩ := pu130
              have lk132 : ((u130).1 71 2).toInt = v78.toInt := congrArg Int32.toInt (((fu130 71 2 rfl).1).trans (ev78))
              have lk133 : ((u130).1 71 45).toInt = (t.1 71 45).toInt := congrArg Int32.toInt (((fu130 71 45 rfl).1).trans ((fu76 71 45 rfl).1))
              have lk134 : ((u130).1 71 2).toInt = v78.toInt := congrArg Int32.toInt (((fu130 71 2 rfl).1).trans (ev78))
              have lk135 : ((u130).1 71 45).toInt = (t.1 71 45).toInt := congrArg Int32.toInt (((fu130 71 45 rfl).1).trans ((fu76 71 45 rfl).1))
              have lk136 : ((u130).1 71 2).toInt = v78.toInt := congrArg Int32.toInt (((fu130 71 2 rfl).1).trans (ev78))
              have lk137 : ((u130).1 71 2).toInt = v78.toInt := congrArg Int32.toInt (((fu130 71 2 rfl).1).trans (ev78))
              refine r_pick C [0, 1] rfl ?_
              exact (ih (n - 1) (by omega)).2.2.2.1 (u130) x1  (by first | exact oQ_opens fu130 rfl (oQ_fr fu76 rfl iv0) pu130_1 (by omega) (by omega) (by omega) | exact (by assumption)) (by omega) (by omega) (by omega) (by omega) (by omega) (by omega)
      · intro t x1  iv0 iv1 iv2 iv3 iv4 iv5 hmu
        have rx1 := n_rng x1
        refine r_ty C (fun hty => ?_)
        have hty_coded : (0 : Int) ≤ ((t).1 71 45).toInt ∧ ((t).1 71 45).toInt ≤ 1600 := hty.1 71 45
        have hty_waits : (0 : Int) ≤ ((t).1 71 47).toInt ∧ ((t).1 71 47).toInt ≤ 1700 := hty.1 71 47
        have hty_at : (0 : Int) ≤ ((t).1 71 2).toInt ∧ ((t).1 71 2).toInt ≤ 1600 := hty.1 71 2
        clear hty
        refine r_aload_n C (j := 0) (oDec_at oX12_onePart 66 rfl) rfl rfl ?_
        refine r_bipush C (oDec_at oX12_onePart 67 rfl) (v := k40) (by rw [qk40]; rfl) ?_
        refine r_callVv C oCl12 rfl miX12_asksSign mlX12_248 (ct_X12_asksSign l E (t) k40 (by omega)) (by decide) rfl rfl rfl (Nat.le_of_ble_eq_true rfl) (oDec_at oX12_onePart 68 rfl) (fun u138 pu138 fu138 => ?_)
        try dsimp only at pu138
        obtain ⟨pu138_0, pu138_1⟩ := pu138
        refine r_goto C (tgt := 143) (oDec_at oX12_onePart 69 rfl) (by decide) ?_
        refine r_goto C (tgt := 2) (oDec_at oX12_onePart 72 rfl) (by decide) ?_
        have lk140 : ((u138).1 71 48).toInt = (t.1 71 48).toInt := congrArg Int32.toInt ((fu138 71 48 rfl).1)
        have lk141 : ((u138).1 71 45).toInt = (t.1 71 45).toInt := congrArg Int32.toInt ((fu138 71 45 rfl).1)
        have lk142 : ((u138).1 71 47).toInt = (t.1 71 47).toInt := congrArg Int32.toInt ((fu138 71 47 rfl).1)
        have lk143 : ((u138).1 71 45).toInt = (t.1 71 45).toInt := congrArg Int32.toInt ((fu138 71 45 rfl).1)
        have lk144 : ((u138).1 71 47).toInt = (t.1 71 47).toInt := congrArg Int32.toInt ((fu138 71 47 rfl).1)
        have hj := oB1_f ((u138).1 71 5)
        exact (ih (n - 1) (by omega)).1 (u138) x1  (oQ_frb fu138 rfl (by omega) iv0) (by omega) (by omega) (by omega) (by omega) (by omega) (by omega)
      · intro t   iv0 iv1 iv2 iv3 iv4 hmu
        refine r_ty C (fun hty => ?_)
        have hty_coded : (0 : Int) ≤ ((t).1 71 45).toInt ∧ ((t).1 71 45).toInt ≤ 1600 := hty.1 71 45
        have hty_waits : (0 : Int) ≤ ((t).1 71 47).toInt ∧ ((t).1 71 47).toInt ≤ 1700 := hty.1 71 47
        have hty_at : (0 : Int) ≤ ((t).1 71 2).toInt ∧ ((t).1 71 2).toInt ≤ 1600 := hty.1 71 2
        clear hty
        refine r_aload_n C (j := 0) (oDec_at oX12_onePart 73 rfl) rfl rfl ?_
        obtain ⟨v145, ev145⟩ : ∃ z : Int32, (t).1 71 5 = z := ⟨_, rfl⟩
        have gv145 : (t.1 71 5).toInt = v145.toInt := congrArg Int32.toInt (ev145)
        have rv145 := n_rng v145
        refine r_geti (k := 5) (lo := (-2147483648)) (hi := 2147483647) C v145 oCl12 rfl (by decide) flX12_173 rfl rfl (ev145) rfl rfl (oDec_at oX12_onePart 74 rfl) (fun _ _ => ?_)
        refine r_if_eq C 154 (oDec_at oX12_onePart 75 rfl) (by decide) (fun cd146 => ?_) (fun cd146 => ?_)
        · skip
          refine r_aload_n C (j := 0) (oDec_at oX12_onePart 77 rfl) rfl rfl ?_
          obtain ⟨v147, ev147⟩ : ∃ z : Int32, (t).1 71 56 = z := ⟨_, rfl⟩
          have gv147 : (t.1 71 56).toInt = v147.toInt := congrArg Int32.toInt (ev147)
          refine r_geti (k := 56) (lo := 0) (hi := 1) C v147 oCl12 rfl (by decide) flX12_295 rfl rfl (ev147) rfl rfl (oDec_at oX12_onePart 78 rfl) (fun b148 b148h => ?_)
          refine r_if_eq C 168 (oDec_at oX12_onePart 79 rfl) (by decide) (fun cd149 => ?_) (fun cd149 => ?_)
          · skip
            refine r_aload_n C (j := 0) (oDec_at oX12_onePart 83 rfl) rfl rfl ?_
            refine r_callVi C oCl12 rfl miX12_rulePart mlX12_301 (ct_X12_rulePart l E (t)  ) (by decide) rfl rfl rfl (Nat.le_of_ble_eq_true rfl) (oDec_at oX12_onePart 84 rfl) (fun r151 u150 pu150 fu150 => ?_)
            try dsimp only at pu150
            obtain ⟨pu150_0, pu150_1⟩ := pu150
            have rr151 := n_rng r151
            refine r_istore_n C (lv' := [(0, .ref (oad E 71)), (2, .int r151)]) [1, 0] (oDec_at oX12_onePart 85 rfl) rfl (by decide) rfl ?_
            refine r_aload_n C (j := 0) (oDec_at oX12_onePart 86 rfl) rfl rfl ?_
            refine r_iload_n C (j := 1) (oDec_at oX12_onePart 87 rfl) rfl rfl ?_
            refine r_iconst C (oDec_at oX12_onePart 88 rfl) (v := km1) (by rw [qkm1]; rfl) ?_
            refine r_pc C 176 rfl ?_
            refine r_icmp_eq C 183 (oDec_at oX12_onePart 89 rfl) (by decide) (fun cd152 => ?_) (fun cd152 => ?_)
            · skip
              refine r_sipush C (oDec_at oX12_onePart 92 rfl) (v := k1000) (by rw [qk1000]; rfl) ?_
              refine r_aload_n C (j := 0) (oDec_at oX12_onePart 93 rfl) rfl rfl ?_
              refine r_iconst C (oDec_at oX12_onePart 94 rfl) (v := k0) (by rw [qk0]; rfl) ?_
              refine r_sipush C (oDec_at oX12_onePart 95 rfl) (v := k9999) (by rw [qk9999]; rfl) ?_
              have lk153 : ((u150).1 71 5).toInt = v145.toInt := congrArg Int32.toInt (((fu150 71 5 rfl).1).trans (ev145))
              have lk154 : ((u150).1 71 5).toInt = v145.toInt := congrArg Int32.toInt (((fu150 71 5 rfl).1).trans (ev145))
              refine r_callVi C oCl12 rfl miX12_number mlX12_244 (ct_X12_number l E (u150) k0 k9999 ) (by decide) rfl rfl rfl (Nat.le_of_ble_eq_true rfl) (oDec_at oX12_onePart 96 rfl) (fun r156 u155 pu155 fu155 => ?_)
              try dsimp only at pu155
              try simp only [lk153, lk154] at pu155
              obtain ⟨pu155_0, pu155_1, pu155_2, pu155_3⟩ := pu155
              have rr156 := n_rng r156
              obtain ⟨v157, ev157⟩ : ∃ z : Int32, z = k1000 + r156 := ⟨_, rfl⟩
              have hv157 : v157.toInt = k1000.toInt + r156.toInt := n_add ev157 (by omega) (by omega)
              refine r_iadd C v157 (oDec_at oX12_onePart 97 rfl) ev157 ?_
              refine r_pc C 195 rfl ?_
              have lk158 : ((u155).1 71 45).toInt = (t.1 71 45).toInt := congrArg Int32.toInt (((fu155 71 45 rfl).1).trans ((fu150 71 45 rfl).1))
              have lk159 : ((u155).1 71 45).toInt = (t.1 71 45).toInt := congrArg Int32.toInt (((fu155 71 45 rfl).1).trans ((fu150 71 45 rfl).1))
              have lk160 : ((u155).1 71 45).toInt = (t.1 71 45).toInt := congrArg Int32.toInt (((fu155 71 45 rfl).1).trans ((fu150 71 45 rfl).1))
              refine r_callVv C oCl12 rfl miX12_lay mlX12_280 (ct_X12_lay l E (u155) v157 (by omega)) (by decide) rfl rfl rfl (Nat.le_of_ble_eq_true rfl) (oDec_at oX12_onePart 98 rfl) (fun u161 pu161 fu161 => ?_)
              try dsimp only at pu161
              try simp only [lk159, lk160] at pu161
              obtain ⟨pu161_0, pu161_1⟩ := pu161
              have hq163 : oQ b (x + 1) (u161) := oQ_opnd (oQ_frb fu155 rfl (by omega) (oQ_fr fu150 rfl iv0)) pu161_0 (by omega) (by omega)
              have lk164 : ((u161).1 71 48).toInt = (t.1 71 48).toInt := congrArg Int32.toInt (((fu161 71 48 rfl).1).trans (((fu155 71 48 rfl).1).trans ((fu150 71 48 rfl).1)))
              have lk165 : ((u161).1 71 2).toInt = (u155.1 71 2).toInt := congrArg Int32.toInt ((fu161 71 2 rfl).1)
              have lk166 : ((u161).1 71 47).toInt = (t.1 71 47).toInt := congrArg Int32.toInt (((fu161 71 47 rfl).1).trans (((fu155 71 47 rfl).1).trans ((fu150 71 47 rfl).1)))
              have lk167 : ((u161).1 71 5).toInt = (u155.1 71 5).toInt := congrArg Int32.toInt ((fu161 71 5 rfl).1)
              have lk168 : ((u161).1 71 2).toInt = (u155.1 71 2).toInt := congrArg Int32.toInt ((fu161 71 2 rfl).1)
              have lk169 : ((u161).1 71 47).toInt = (t.1 71 47).toInt := congrArg Int32.toInt (((fu161 71 47 rfl).1).trans (((fu155 71 47 rfl).1).trans ((fu150 71 47 rfl).1)))
              have lk170 : ((u161).1 71 2).toInt = (u155.1 71 2).toInt := congrArg Int32.toInt ((fu161 71 2 rfl).1)
              exact r_vret C (oDec_at oX12_onePart 99 rfl) ⟨rfl, ⟨hq163, by omega, by omega, by omega, by omega⟩⟩
            · skip
              replace pu150_0 := pu150_0.resolve_left (by omega)
              refine r_iload_n C (j := 1) (oDec_at oX12_onePart 90 rfl) rfl rfl ?_
              refine r_goto C (tgt := 195) (oDec_at oX12_onePart 91 rfl) (by decide) ?_
              have lk171 : ((u150).1 71 45).toInt = (t.1 71 45).toInt := congrArg Int32.toInt ((fu150 71 45 rfl).1)
              have lk172 : ((u150).1 71 45).toInt = (t.1 71 45).toInt := congrArg Int32.toInt ((fu150 71 45 rfl).1)
              have lk173 : ((u150).1 71 45).toInt = (t.1 71 45).toInt := congrArg Int32.toInt ((fu150 71 45 rfl).1)
              refine r_callVv C oCl12 rfl miX12_lay mlX12_280 (ct_X12_lay l E (u150) r151 (by omega)) (by decide) rfl rfl rfl (Nat.le_of_ble_eq_true rfl) (oDec_at oX12_onePart 98 rfl) (fun u174 pu174 fu174 => ?_)
              try dsimp only at pu174
              try simp only [lk172, lk173] at pu174
              obtain ⟨pu174_0, pu174_1⟩ := pu174
              have hq176 : oQ b (x + 1) (u174) := oQ_opnd (oQ_fr fu150 rfl iv0) pu174_0 (by omega) (by omega)
              have lk177 : ((u174).1 71 48).toInt = (t.1 71 48).toInt := congrArg Int32.toInt (((fu174 71 48 rfl).1).trans ((fu150 71 48 rfl).1))
              have lk178 : ((u174).1 71 2).toInt = (u150.1 71 2).toInt := congrArg Int32.toInt ((fu174 71 2 rfl).1)
              have lk179 : ((u174).1 71 47).toInt = (t.1 71 47).toInt := congrArg Int32.toInt (((fu174 71 47 rfl).1).trans ((fu150 71 47 rfl).1))
              have lk180 : ((u174).1 71 5).toInt = v145.toInt := congrArg Int32.toInt (((fu174 71 5 rfl).1).trans (((fu150 71 5 rfl).1).trans (ev145)))
              have lk181 : ((u174).1 71 2).toInt = (u150.1 71 2).toInt := congrArg Int32.toInt ((fu174 71 2 rfl).1)
              have lk182 : ((u174).1 71 47).toInt = (t.1 71 47).toInt := congrArg Int32.toInt (((fu174 71 47 rfl).1).trans ((fu150 71 47 rfl).1))
              have lk183 : ((u174).1 71 2).toInt = (u150.1 71 2).toInt := congrArg Int32.toInt ((fu174 71 2 rfl).1)
              exact r_vret C (oDec_at oX12_onePart 99 rfl) ⟨rfl, ⟨hq176, by omega, by omega, by omega, by omega⟩⟩
          · skip
            refine r_aload_n C (j := 0) (oDec_at oX12_onePart 80 rfl) rfl rfl ?_
            refine r_callVi C oCl12 rfl miX12_mottoPart mlX12_298 (ct_X12_mottoPart l E (t)  ) (by decide) rfl rfl rfl (Nat.le_of_ble_eq_true rfl) (oDec_at oX12_onePart 81 rfl) (fun r185 u184 pu184 fu184 => ?_)
            try dsimp only at pu184
            obtain ⟨pu184_0, pu184_1⟩ := pu184
            have rr185 := n_rng r185
            refine r_goto C (tgt := 172) (oDec_at oX12_onePart 82 rfl) (by decide) ?_
            refine r_istore_n C (lv' := [(0, .ref (oad E 71)), (2, .int r185)]) [1, 0] (oDec_at oX12_onePart 85 rfl) rfl (by decide) rfl ?_
            refine r_aload_n C (j := 0) (oDec_at oX12_onePart 86 rfl) rfl rfl ?_
            refine r_iload_n C (j := 1) (oDec_at oX12_onePart 87 rfl) rfl rfl ?_
            refine r_iconst C (oDec_at oX12_onePart 88 rfl) (v := km1) (by rw [qkm1]; rfl) ?_
            refine r_pc C 176 rfl ?_
            refine r_icmp_eq C 183 (oDec_at oX12_onePart 89 rfl) (by decide) (fun cd186 => ?_) (fun cd186 => ?_)
            · skip
              refine r_sipush C (oDec_at oX12_onePart 92 rfl) (v := k1000) (by rw [qk1000]; rfl) ?_
              refine r_aload_n C (j := 0) (oDec_at oX12_onePart 93 rfl) rfl rfl ?_
              refine r_iconst C (oDec_at oX12_onePart 94 rfl) (v := k0) (by rw [qk0]; rfl) ?_
              refine r_sipush C (oDec_at oX12_onePart 95 rfl) (v := k9999) (by rw [qk9999]; rfl) ?_
              have lk187 : ((u184).1 71 5).toInt = v145.toInt := congrArg Int32.toInt (((fu184 71 5 rfl).1).trans (ev145))
              have lk188 : ((u184).1 71 5).toInt = v145.toInt := congrArg Int32.toInt (((fu184 71 5 rfl).1).trans (ev145))
              refine r_callVi C oCl12 rfl miX12_number mlX12_244 (ct_X12_number l E (u184) k0 k9999 ) (by decide) rfl rfl rfl (Nat.le_of_ble_eq_true rfl) (oDec_at oX12_onePart 96 rfl) (fun r190 u189 pu189 fu189 => ?_)
              try dsimp only at pu189
              try simp only [lk187, lk188] at pu189
              obtain ⟨pu189_0, pu189_1, pu189_2, pu189_3⟩ := pu189
              have rr190 := n_rng r190
              obtain ⟨v191, ev191⟩ : ∃ z : Int32, z = k1000 + r190 := ⟨_, rfl⟩
              have hv191 : v191.toInt = k1000.toInt + r190.toInt := n_add ev191 (by omega) (by omega)
              refine r_iadd C v191 (oDec_at oX12_onePart 97 rfl) ev191 ?_
              refine r_pc C 195 rfl ?_
              have lk192 : ((u189).1 71 45).toInt = (t.1 71 45).toInt := congrArg Int32.toInt (((fu189 71 45 rfl).1).trans ((fu184 71 45 rfl).1))
              have lk193 : ((u189).1 71 45).toInt = (t.1 71 45).toInt := congrArg Int32.toInt (((fu189 71 45 rfl).1).trans ((fu184 71 45 rfl).1))
              have lk194 : ((u189).1 71 45).toInt = (t.1 71 45).toInt := congrArg Int32.toInt (((fu189 71 45 rfl).1).trans ((fu184 71 45 rfl).1))
              refine r_callVv C oCl12 rfl miX12_lay mlX12_280 (ct_X12_lay l E (u189) v191 (by omega)) (by decide) rfl rfl rfl (Nat.le_of_ble_eq_true rfl) (oDec_at oX12_onePart 98 rfl) (fun u195 pu195 fu195 => ?_)
              try dsimp only at pu195
              try simp only [lk193, lk194] at pu195
              obtain ⟨pu195_0, pu195_1⟩ := pu195
              have hq197 : oQ b (x + 1) (u195) := oQ_opnd (oQ_frb fu189 rfl (by omega) (oQ_fr fu184 rfl iv0)) pu195_0 (by omega) (by omega)
              have lk198 : ((u195).1 71 48).toInt = (t.1 71 48).toInt := congrArg Int32.toInt (((fu195 71 48 rfl).1).trans (((fu189 71 48 rfl).1).trans ((fu184 71 48 rfl).1)))
              have lk199 : ((u195).1 71 2).toInt = (u189.1 71 2).toInt := congrArg Int32.toInt ((fu195 71 2 rfl).1)
              have lk200 : ((u195).1 71 47).toInt = (t.1 71 47).toInt := congrArg Int32.toInt (((fu195 71 47 rfl).1).trans (((fu189 71 47 rfl).1).trans ((fu184 71 47 rfl).1)))
              have lk201 : ((u195).1 71 5).toInt = (u189.1 71 5).toInt := congrArg Int32.toInt ((fu195 71 5 rfl).1)
              have lk202 : ((u195).1 71 2).toInt = (u189.1 71 2).toInt := congrArg Int32.toInt ((fu195 71 2 rfl).1)
              have lk203 : ((u195).1 71 47).toInt = (t.1 71 47).toInt := congrArg Int32.toInt (((fu195 71 47 rfl).1).trans (((fu189 71 47 rfl).1).trans ((fu184 71 47 rfl).1)))
              have lk204 : ((u195).1 71 2).toInt = (u189.1 71 2).toInt := congrArg Int32.toInt ((fu195 71 2 rfl).1)
              exact r_vret C (oDec_at oX12_onePart 99 rfl) ⟨rfl, ⟨hq197, by omega, by omega, by omega, by omega⟩⟩
            · skip
              replace pu184_0 := pu184_0.resolve_left (by omega)
              refine r_iload_n C (j := 1) (oDec_at oX12_onePart 90 rfl) rfl rfl ?_
              refine r_goto C (tgt := 195) (oDec_at oX12_onePart 91 rfl) (by decide) ?_
              have lk205 : ((u184).1 71 45).toInt = (t.1 71 45).toInt := congrArg Int32.toInt ((fu184 71 45 rfl).1)
              have lk206 : ((u184).1 71 45).toInt = (t.1 71 45).toInt := congrArg Int32.toInt ((fu184 71 45 rfl).1)
              have lk207 : ((u184).1 71 45).toInt = (t.1 71 45).toInt := congrArg Int32.toInt ((fu184 71 45 rfl).1)
              refine r_callVv C oCl12 rfl miX12_lay mlX12_280 (ct_X12_lay l E (u184) r185 (by omega)) (by decide) rfl rfl rfl (Nat.le_of_ble_eq_true rfl) (oDec_at oX12_onePart 98 rfl) (fun u208 pu208 fu208 => ?_)
              try dsimp only at pu208
              try simp only [lk206, lk207] at pu208
              obtain ⟨pu208_0, pu208_1⟩ := pu208
              have hq210 : oQ b (x + 1) (u208) := oQ_opnd (oQ_fr fu184 rfl iv0) pu208_0 (by omega) (by omega)
              have lk211 : ((u208).1 71 48).toInt = (t.1 71 48).toInt := congrArg Int32.toInt (((fu208 71 48 rfl).1).trans ((fu184 71 48 rfl).1))
              have lk212 : ((u208).1 71 2).toInt = (u184.1 71 2).toInt := congrArg Int32.toInt ((fu208 71 2 rfl).1)
              have lk213 : ((u208).1 71 47).toInt = (t.1 71 47).toInt := congrArg Int32.toInt (((fu208 71 47 rfl).1).trans ((fu184 71 47 rfl).1))
              have lk214 : ((u208).1 71 5).toInt = v145.toInt := congrArg Int32.toInt (((fu208 71 5 rfl).1).trans (((fu184 71 5 rfl).1).trans (ev145)))
              have lk215 : ((u208).1 71 2).toInt = (u184.1 71 2).toInt := congrArg Int32.toInt ((fu208 71 2 rfl).1)
              have lk216 : ((u208).1 71 47).toInt = (t.1 71 47).toInt := congrArg Int32.toInt (((fu208 71 47 rfl).1).trans ((fu184 71 47 rfl).1))
              have lk217 : ((u208).1 71 2).toInt = (u184.1 71 2).toInt := congrArg Int32.toInt ((fu208 71 2 rfl).1)
              exact r_vret C (oDec_at oX12_onePart 99 rfl) ⟨rfl, ⟨hq210, by omega, by omega, by omega, by omega⟩⟩
        · skip
          have hq218 : oQ b (x + 1) (t) := oQ_bad iv0 (by omega)
          have lk219 : ((t).1 71 5).toInt = v145.toInt := congrArg Int32.toInt (ev145)
          exact r_vret C (oDec_at oX12_onePart 76 rfl) ⟨rfl, ⟨hq218, by omega, by omega, by omega, by omega⟩⟩
  refine r_iconst C (oDec_at oX12_onePart 0 rfl) (v := k1) (by rw [qk1]; rfl) ?_
  refine r_istore_n C (lv' := [(0, .ref (oad E 71)), (1, .int k1)]) [1, 0] (oDec_at oX12_onePart 1 rfl) rfl (by decide) rfl ?_
  have hj := oB1_f ((s).1 71 5)
  exact (key (1000 * (1602 - ((s).1 71 2).toInt) + 10 * k1.toInt + 500 * oB1 ((s).1 71 5)).toNat).1 (s) k1  hp0 (by omega) (by omega) (by omega) (by omega) (by omega) (by omega)
