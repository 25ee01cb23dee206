set_option maxHeartbeats 4000000 in
set_option maxRecDepth 100000 in
theorem ct5_X12_onePart (l : Launch) (E : oE) (s : oS)  (b : Nat) (x : Nat) (g : Int → Int) (fp : Int) (fq : Int) (cz : oqCf) (kx : Nat) (hp0 : oQ b x s) (hp1 : (b : Int) ≤ 1700) (hp2 : (s.1 71 5).toInt = 0) (hp3 : 0 ≤ (s.1 71 48).toInt ∧ (s.1 71 48).toInt ≤ 6) (hp4 : (s.1 71 45).toInt + (s.1 71 47).toInt + 5 ≤ (s.1 71 2).toInt) (hp5 : oqJ g fp fq cz kx b 1 s) (hp6 : ((s.1 71 56).toInt = 1 ∧ fp = 19 ∧ fq = 24) ∨ ((s.1 71 56).toInt = 0 ∧ fp = 11 ∧ fq = 19)) (hp7 : oqZ g s) (hp8 : oqWd s) : oMet l 5 yX12_onePart cX12_onePart 5 none [(12, 2), (12, 4), (12, 5), (12, 6), (12, 9), (12, 45), (12, 47), (12, 48), (78, 9999), (79, 9999)] E s [.ref (oad E 71)] (oPv (fun u => (oQ b (x + 1) u) ∧ (0 ≤ (u.1 71 48).toInt ∧ (u.1 71 48).toInt ≤ 6) ∧ ((s.1 71 2).toInt - (s.1 71 45).toInt - (s.1 71 47).toInt ≤ (u.1 71 2).toInt - (u.1 71 45).toInt - (u.1 71 47).toInt + 1) ∧ ((u.1 71 5).toInt = 0 → ((s.1 71 2).toInt - (s.1 71 45).toInt - (s.1 71 47).toInt ≤ (u.1 71 2).toInt - (u.1 71 45).toInt - (u.1 71 47).toInt ∧ (s.1 71 2).toInt + 1 ≤ (u.1 71 2).toInt)) ∧ ((s.1 71 2).toInt ≤ (u.1 71 2).toInt) ∧ (oqJ g fp fq cz kx b 3 u) ∧ ((u.1 71 5).toInt = 0 → (u.1 71 6).toInt = (s.1 71 6).toInt))) := by
  refine oMet.of (lv := [(0, .ref (oad E 71))]) (by decide +kernel) (Nat.le_of_ble_eq_true rfl) rfl (fun J C hT => ?_)
  have C : oC l 5 cX12_onePart RX12 5 none [(12, 2), (12, 4), (12, 5), (12, 6), (12, 9), (12, 45), (12, 47), (12, 48), (78, 9999), (79, 9999)] E s (oPv (fun u => (oQ b (x + 1) u) ∧ (0 ≤ (u.1 71 48).toInt ∧ (u.1 71 48).toInt ≤ 6) ∧ ((s.1 71 2).toInt - (s.1 71 45).toInt - (s.1 71 47).toInt ≤ (u.1 71 2).toInt - (u.1 71 45).toInt - (u.1 71 47).toInt + 1) ∧ ((u.1 71 5).toInt = 0 → ((s.1 71 2).toInt - (s.1 71 45).toInt - (s.1 71 47).toInt ≤ (u.1 71 2).toInt - (u.1 71 45).toInt - (u.1 71 47).toInt ∧ (s.1 71 2).toInt + 1 ≤ (u.1 71 2).toInt)) ∧ ((s.1 71 2).toInt ≤ (u.1 71 2).toInt) ∧ (oqJ g fp fq cz kx b 3 u) ∧ ((u.1 71 5).toInt = 0 → (u.1 71 6).toInt = (s.1 71 6).toInt))) J := C
  obtain ⟨km1, qkm1⟩ : ∃ z : Int32, z = (-1) := ⟨_, rfl⟩
  have ekm1 : km1.toInt = (-1) := by rw [qkm1]; rfl
  obtain ⟨k0, qk0⟩ : ∃ z : Int32, z = 0 := ⟨_, rfl⟩
  have ek0 : k0.toInt = 0 := by rw [qk0]; rfl
  obtain ⟨k1, qk1⟩ : ∃ z : Int32, z = 1 := ⟨_, rfl⟩
  have ek1 : k1.toInt = 1 := by rw [qk1]; rfl
  obtain ⟨k20, qk20⟩ : ∃ z : Int32, z = 20 := ⟨_, rfl⟩
  have ek20 : k20.toInt = 20 := by rw [qk20]; rfl
  obtain ⟨k21, qk21⟩ : ∃ z : Int32, z = 21 := ⟨_, rfl⟩
  have ek21 : k21.toInt = 21 := by rw [qk21]; rfl
  obtain ⟨k22, qk22⟩ : ∃ z : Int32, z = 22 := ⟨_, rfl⟩
  have ek22 : k22.toInt = 22 := by rw [qk22]; rfl
  obtain ⟨k40, qk40⟩ : ∃ z : Int32, z = 40 := ⟨_, rfl⟩
  have ek40 : k40.toInt = 40 := by rw [qk40]; rfl
  obtain ⟨k1000, qk1000⟩ : ∃ z : Int32, z = 1000 := ⟨_, rfl⟩
  have ek1000 : k1000.toInt = 1000 := by rw [qk1000]; rfl
  obtain ⟨k9999, qk9999⟩ : ∃ z : Int32, z = 9999 := ⟨_, rfl⟩
  have ek9999 : k9999.toInt = 9999 := by rw [qk9999]; rfl
  have key : ∀ n : Nat, (∀ (t : oS) (x1 : Int32), (oQ b x t) → (0 ≤ x1.toInt ∧ x1.toInt ≤ 1) → (0 ≤ (t.1 71 48).toInt ∧ (t.1 71 48).toInt ≤ 6) → ((t.1 71 5).toInt = 0 → (s.1 71 2).toInt - (s.1 71 45).toInt - (s.1 71 47).toInt ≤ (t.1 71 2).toInt - (t.1 71 45).toInt - (t.1 71 47).toInt) → ((s.1 71 2).toInt - (s.1 71 45).toInt - (s.1 71 47).toInt ≤ (t.1 71 2).toInt - (t.1 71 45).toInt - (t.1 71 47).toInt + 1) → ((s.1 71 2).toInt ≤ (t.1 71 2).toInt) → (oqJ g fp fq cz kx b 1 t) → (((t.1 71 56).toInt = 1 ∧ fp = 19 ∧ fq = 24) ∨ ((t.1 71 56).toInt = 0 ∧ fp = 11 ∧ fq = 19)) → (x1.toInt = 0 → (oqSk g (t.1 71 2).toInt = (t.1 71 2).toInt ∧ g (t.1 71 2).toInt ≠ 40 ∧ oqWi g (t.1 71 2).toInt (t.1 71 4).toInt ≠ 24 ∧ oqWi g (t.1 71 2).toInt (t.1 71 4).toInt ≠ 25)) → ((t.1 71 5).toInt = 0 → (t.1 71 6).toInt = (s.1 71 6).toInt) → (oqZ g t) → (oqWd t) → 1000 * (1602 - (t.1 71 2).toInt) + 10 * x1.toInt + 500 * oB1 (t.1 71 5) ≤ (n : Int) → J t 2 [(0, .ref (oad E 71)), (1, .int x1)] []) ∧ (∀ (t : oS) (x1 : Int32), (oQ b x t) → (x1.toInt = 1) → (0 ≤ (t.1 71 48).toInt ∧ (t.1 71 48).toInt ≤ 6) → ((t.1 71 5).toInt = 0) → ((s.1 71 2).toInt - (s.1 71 45).toInt - (s.1 71 47).toInt ≤ (t.1 71 2).toInt - (t.1 71 45).toInt - (t.1 71 47).toInt) → ((s.1 71 2).toInt ≤ (t.1 71 2).toInt) → (oqJ g fp fq cz kx b 1 t) → (((t.1 71 56).toInt = 1 ∧ fp = 19 ∧ fq = 24) ∨ ((t.1 71 56).toInt = 0 ∧ fp = 11 ∧ fq = 19)) → (oqSk g (t.1 71 2).toInt = (t.1 71 2).toInt ∧ g (t.1 71 2).toInt ≠ 40 ∧ (oqWi g (t.1 71 2).toInt (t.1 71 4).toInt = 24 ∨ oqWi g (t.1 71 2).toInt (t.1 71 4).toInt = 25)) → ((t.1 71 5).toInt = 0 → (t.1 71 6).toInt = (s.1 71 6).toInt) → (oqZ g t) → (oqWd t) → 1000 * (1602 - (t.1 71 2).toInt) + 400 ≤ (n : Int) → J t 69 [(0, .ref (oad E 71)), (1, .int x1)] []) ∧ (∀ (t : oS) (x1 : Int32) (x3 : Int32), (oQ b x t) → (x1.toInt = 1) → (0 ≤ (t.1 71 48).toInt ∧ (t.1 71 48).toInt ≤ 6) → ((t.1 71 5).toInt = 0 → (s.1 71 2).toInt - (s.1 71 45).toInt - (s.1 71 47).toInt + 3 ≤ (t.1 71 2).toInt - (t.1 71 45).toInt - (t.1 71 47).toInt) → ((s.1 71 2).toInt - (s.1 71 45).toInt - (s.1 71 47).toInt ≤ (t.1 71 2).toInt - (t.1 71 45).toInt - (t.1 71 47).toInt) → ((s.1 71 2).toInt ≤ (t.1 71 2).toInt) → (0 ≤ x3.toInt ∧ x3.toInt ≤ 1) → (x3.toInt = 1 → oqM g fp fq cz kx b 24 t) → (x3.toInt = 0 → oqM g fp fq cz kx b 25 t) → (((t.1 71 56).toInt = 1 ∧ fp = 19 ∧ fq = 24) ∨ ((t.1 71 56).toInt = 0 ∧ fp = 11 ∧ fq = 19)) → ((t.1 71 5).toInt = 0) → ((t.1 71 5).toInt = 0 → (t.1 71 6).toInt = (s.1 71 6).toInt) → (oqZ g t) → (oqWd t) → 1000 * (1602 - (t.1 71 2).toInt) + 300 ≤ (n : Int) → J t 90 [(0, .ref (oad E 71)), (1, .int x1), (3, .int x3)] []) ∧ (∀ (t : oS) (x1 : Int32), (oQ b x t) → (x1.toInt = 1) → (0 ≤ (t.1 71 48).toInt ∧ (t.1 71 48).toInt ≤ 6) → ((t.1 71 5).toInt = 0 → (s.1 71 2).toInt - (s.1 71 45).toInt - (s.1 71 47).toInt + 2 ≤ (t.1 71 2).toInt - (t.1 71 45).toInt - (t.1 71 47).toInt) → ((s.1 71 2).toInt - (s.1 71 45).toInt - (s.1 71 47).toInt ≤ (t.1 71 2).toInt - (t.1 71 45).toInt - (t.1 71 47).toInt + 1) → ((s.1 71 2).toInt ≤ (t.1 71 2).toInt) → (oqM2 g fp fq cz kx b t) → (((t.1 71 56).toInt = 1 ∧ fp = 19 ∧ fq = 24) ∨ ((t.1 71 56).toInt = 0 ∧ fp = 11 ∧ fq = 19)) → ((t.1 71 5).toInt = 0 → (t.1 71 6).toInt = (s.1 71 6).toInt) → (oqZ g t) → (oqWd t) → 1000 * (1602 - (t.1 71 2).toInt) + 200 ≤ (n : Int) → J t 132 [(0, .ref (oad E 71)), (1, .int x1)] []) ∧ (∀ (t : oS), (oQ b x t) → (0 ≤ (t.1 71 48).toInt ∧ (t.1 71 48).toInt ≤ 6) → ((t.1 71 5).toInt = 0 → (s.1 71 2).toInt - (s.1 71 45).toInt - (s.1 71 47).toInt ≤ (t.1 71 2).toInt - (t.1 71 45).toInt - (t.1 71 47).toInt) → ((s.1 71 2).toInt - (s.1 71 45).toInt - (s.1 71 47).toInt ≤ (t.1 71 2).toInt - (t.1 71 45).toInt - (t.1 71 47).toInt + 1) → ((s.1 71 2).toInt ≤ (t.1 71 2).toInt) → (oqJ g fp fq cz kx b 1 t) → (((t.1 71 56).toInt = 1 ∧ fp = 19 ∧ fq = 24) ∨ ((t.1 71 56).toInt = 0 ∧ fp = 11 ∧ fq = 19)) → ((t.1 71 5).toInt = 0 → (oqSk g (t.1 71 2).toInt = (t.1 71 2).toInt ∧ g (t.1 71 2).toInt ≠ 40 ∧ oqWi g (t.1 71 2).toInt (t.1 71 4).toInt ≠ 24 ∧ oqWi g (t.1 71 2).toInt (t.1 71 4).toInt ≠ 25)) → ((t.1 71 5).toInt = 0 → (t.1 71 6).toInt = (s.1 71 6).toInt) → (oqZ g t) → (oqWd t) → 50 ≤ (n : Int) → J t 146 [(0, .ref (oad E 71))] []) := by
    intro n
    induction n using Nat.strongRecOn with
    | _ n ih =>
      refine ⟨?_, ?_, ?_, ?_, ?_⟩
      · intro t x1  iv0 iv1 iv2 iv3 iv4 iv5 iv6 iv7 iv8 iv9 iv10 iv11 hmu
        have rx1 := n_rng x1
        have hjn := oB1_nn (t.1 71 5)
        refine r_ty C (fun hty => ?_)
        have hty_coded : (0 : Int) ≤ ((t).1 71 45).toInt ∧ ((t).1 71 45).toInt ≤ 1600 := hty.1 71 45
        have hty_waits : (0 : Int) ≤ ((t).1 71 47).toInt ∧ ((t).1 71 47).toInt ≤ 1700 := hty.1 71 47
        have hty_at : (0 : Int) ≤ ((t).1 71 2).toInt ∧ ((t).1 71 2).toInt ≤ 1600 := hty.1 71 2
        clear hty
        refine r_iload_n C (j := 1) (oDec_at oX12_onePart 2 rfl) rfl rfl ?_
        refine r_if_eq C 146 (oDec_at oX12_onePart 3 rfl) (by decide) (fun cd1 => ?_) (fun cd1 => ?_)
        · skip
          refine r_pick C [0] rfl ?_
          exact (ih (n - 1) (by omega)).2.2.2.2 (t)   iv0 (by omega) (by omega) (by omega) (by omega) iv6 (by omega) (by omega) (by omega) iv10 iv11 (by omega)
        · skip
          refine r_aload_n C (j := 0) (oDec_at oX12_onePart 4 rfl) rfl rfl ?_
          obtain ⟨v2, ev2⟩ : ∃ z : Int32, (t).1 71 5 = z := ⟨_, rfl⟩
          have gv2 : (t.1 71 5).toInt = v2.toInt := congrArg Int32.toInt (ev2)
          have rv2 := n_rng v2
          refine r_geti (k := 5) (lo := (-2147483648)) (hi := 2147483647) C v2 oCl12 rfl (by decide) flX12_173 rfl rfl (ev2) rfl rfl (oDec_at oX12_onePart 5 rfl) (fun _ _ => ?_)
          refine r_if_ne C 146 (oDec_at oX12_onePart 6 rfl) (by decide) (fun cd3 => ?_) (fun cd3 => ?_)
          · skip
            have lk4 : ((t).1 71 5).toInt = v2.toInt := congrArg Int32.toInt (ev2)
            have lk5 : ((t).1 71 5).toInt = v2.toInt := congrArg Int32.toInt (ev2)
            have lk6 : ((t).1 71 5).toInt = v2.toInt := congrArg Int32.toInt (ev2)
            refine r_pick C [0] rfl ?_
            exact (ih (n - 1) (by omega)).2.2.2.2 (t)   iv0 (by omega) (by omega) (by omega) (by omega) iv6 (by omega) (by omega) (by omega) iv10 iv11 (by omega)
          · skip
            have hj0 := oB1_0 (x := t.1 71 5) (by omega)
            refine r_aload_n C (j := 0) (oDec_at oX12_onePart 7 rfl) rfl rfl ?_
            obtain ⟨A, hA⟩ : ∃ z : Int, z = ((t).1 71 2).toInt := ⟨_, rfl⟩
            refine r_callVi C oCl12 rfl miX12_look mlX12_185 (ct4_X12_look l E (t)  (g) (A) (by omega) iv10) (by decide) rfl rfl rfl (Nat.le_of_ble_eq_true rfl) (oDec_at oX12_onePart 8 rfl) (fun r8 u7 pu7 fu7 => ?_)
            try dsimp only at pu7
            obtain ⟨pu7_0, pu7_1, pu7_2, pu7_3, pu7_4, pu7_5⟩ := pu7
            have rr8 := n_rng r8
            have hsk : oqSk g ((u7).1 71 2).toInt = ((u7).1 71 2).toInt := by rw [show ((u7).1 71 2).toInt = oqSk g A by omega]; exact oqSk_sk pu7_3
            have hgA : g ((u7).1 71 2).toInt = r8.toInt := by rw [show ((u7).1 71 2).toInt = oqSk g A by omega]; omega
            have hq9 : oqJ g fp fq cz kx b 1 (u7) := oqJ_id iv6 (oFr_row fu7 (c := 103) rfl rfl) (congrArg Int32.toInt (fu7 71 5 rfl).1) (congrArg Int32.toInt (fu7 71 47 rfl).1) (by rw [show ((u7).1 71 2).toInt = oqSk g A by omega, ← hA]; exact oqSk_sk pu7_3) (congrArg Int32.toInt (fu7 71 4 rfl).1) (congrArg Int32.toInt (fu7 71 48 rfl).1) (congrArg Int32.toInt (fu7 71 6 rfl).1)
            refine r_istore_n C (lv' := [(0, .ref (oad E 71)), (1, .int x1), (2, .int r8)]) [1, 2, 0] (oDec_at oX12_onePart 9 rfl) rfl (by decide) rfl ?_
            refine r_iload_n C (j := 2) (oDec_at oX12_onePart 10 rfl) rfl rfl ?_
            refine r_bipush C (oDec_at oX12_onePart 11 rfl) (v := k40) (by rw [qk40]; rfl) ?_
            refine r_icmp_ne C 47 (oDec_at oX12_onePart 12 rfl) (by decide) (fun cd10 => ?_) (fun cd10 => ?_)
            · skip
              have lk11 : ((u7).1 71 4).toInt = (t.1 71 4).toInt := congrArg Int32.toInt ((fu7 71 4 rfl).1)
              obtain ⟨A1, hA1⟩ : ∃ z : Int, z = ((u7).1 71 2).toInt := ⟨_, rfl⟩
              obtain ⟨E1, hE1⟩ : ∃ z : Int, z = ((u7).1 71 4).toInt := ⟨_, rfl⟩
              have hskA : oqSk g A1 = A1 := by rw [hA1]; exact hsk
              have hgA1 : g A1 = g ((u7).1 71 2).toInt := by rw [hA1]
              refine r_aload_n C (j := 0) (oDec_at oX12_onePart 25 rfl) rfl rfl ?_
              refine r_aload_n C (j := 0) (oDec_at oX12_onePart 26 rfl) rfl rfl ?_
              refine r_getF (k := 34) (b := 97) C oCl12 rfl (by decide) flX12_90 rfl rfl rfl (oDec_at oX12_onePart 27 rfl) ?_
              have lk12 : ((u7).1 71 4).toInt = (t.1 71 4).toInt := congrArg Int32.toInt ((fu7 71 4 rfl).1)
              have lk13 : ((u7).1 71 5).toInt = v2.toInt := congrArg Int32.toInt (((fu7 71 5 rfl).1).trans (ev2))
              refine r_callVi C oCl12 rfl miX12_isHere mlX12_196 (ct4_X12_isHere l E (u7) 97 73 3 rfl (by decide) (by decide) rfl rfl (g) (A1) (E1) (24) (by omega) (by omega) (oqZ_fr fu7 rfl iv10) (by omega) (by omega) rfl (oqWd_at (oqWd_fr fu7 rfl iv11) 24 (by decide)) (by omega)) (by decide) rfl rfl rfl (Nat.le_of_ble_eq_true rfl) (oDec_at oX12_onePart 28 rfl) (fun r15 u14 pu14 fu14 => ?_)
              try dsimp only at pu14
              try simp only [lk12, lk13] at pu14
              obtain ⟨pu14_0, pu14_1, pu14_2, pu14_3, pu14_4, pu14_5, pu14_6⟩ := pu14
              have rr15 := n_rng r15
              have hw24 := oqWi_is (g := g) (a := A1) (b := E1) (i := 24) (by decide)
              have hq16 : oqJ g fp fq cz kx b 1 (u14) := oqJ_id hq9 (oFr_row fu14 (c := 103) rfl rfl) (congrArg Int32.toInt (fu14 71 5 rfl).1) (congrArg Int32.toInt (fu14 71 47 rfl).1) (by rw [show ((u14).1 71 2).toInt = ((u7).1 71 2).toInt by omega]) (congrArg Int32.toInt (fu14 71 4 rfl).1) (congrArg Int32.toInt (fu14 71 48 rfl).1) (congrArg Int32.toInt (fu14 71 6 rfl).1)
              refine r_if_ne C 69 (oDec_at oX12_onePart 29 rfl) (by decide) (fun cd17 => ?_) (fun cd17 => ?_)
              · skip
                replace pu14_4 := pu14_4 (by omega)
                clear pu14_5
                replace pu14_6 := pu14_6 (by omega)
                have lk18 : ((u14).1 71 48).toInt = (t.1 71 48).toInt := congrArg Int32.toInt (((fu14 71 48 rfl).1).trans ((fu7 71 48 rfl).1))
                have lk19 : ((u14).1 71 5).toInt = v2.toInt := congrArg Int32.toInt (((fu14 71 5 rfl).1).trans (((fu7 71 5 rfl).1).trans (ev2)))
                have lk20 : ((u14).1 71 45).toInt = (t.1 71 45).toInt := congrArg Int32.toInt (((fu14 71 45 rfl).1).trans ((fu7 71 45 rfl).1))
                have lk21 : ((u14).1 71 47).toInt = (t.1 71 47).toInt := congrArg Int32.toInt (((fu14 71 47 rfl).1).trans ((fu7 71 47 rfl).1))
                have lk22 : ((u14).1 71 56).toInt = (t.1 71 56).toInt := congrArg Int32.toInt (((fu14 71 56 rfl).1).trans ((fu7 71 56 rfl).1))
                have lk23 : ((u14).1 71 4).toInt = (t.1 71 4).toInt := congrArg Int32.toInt (((fu14 71 4 rfl).1).trans ((fu7 71 4 rfl).1))
                have lk24 : ((u14).1 71 5).toInt = v2.toInt := congrArg Int32.toInt (((fu14 71 5 rfl).1).trans (((fu7 71 5 rfl).1).trans (ev2)))
                have lk25 : ((u14).1 71 6).toInt = (t.1 71 6).toInt := congrArg Int32.toInt (((fu14 71 6 rfl).1).trans ((fu7 71 6 rfl).1))
                refine r_pick C [0, 1] rfl ?_
                exact (ih (n - 1) (by omega)).2.1 (u14) x1  (oQ_fr fu14 rfl (oQ_fr fu7 rfl iv0)) (by omega) (by omega) (by omega) (by omega) (by omega) hq16 (by omega) (by (have ea : ((u14).1 71 2).toInt = A1 := (by omega); have ee : ((u14).1 71 4).toInt = E1 := (by omega); rw [ea, ee]; omega)) (by omega) (oqZ_fr fu14 rfl (oqZ_fr fu7 rfl iv10)) (oqWd_fr fu14 rfl (oqWd_fr fu7 rfl iv11)) (by omega)
              · skip
                clear pu14_4
                replace pu14_5 := pu14_5 (by omega)
                clear pu14_6
                refine r_aload_n C (j := 0) (oDec_at oX12_onePart 30 rfl) rfl rfl ?_
                refine r_aload_n C (j := 0) (oDec_at oX12_onePart 31 rfl) rfl rfl ?_
                refine r_getF (k := 35) (b := 98) C oCl12 rfl (by decide) flX12_93 rfl rfl rfl (oDec_at oX12_onePart 32 rfl) ?_
                have lk26 : ((u14).1 71 4).toInt = (t.1 71 4).toInt := congrArg Int32.toInt (((fu14 71 4 rfl).1).trans ((fu7 71 4 rfl).1))
                have lk27 : ((u14).1 71 5).toInt = v2.toInt := congrArg Int32.toInt (((fu14 71 5 rfl).1).trans (((fu7 71 5 rfl).1).trans (ev2)))
                refine r_callVi C oCl12 rfl miX12_isHere mlX12_196 (ct4_X12_isHere l E (u14) 98 74 3 rfl (by decide) (by decide) rfl rfl (g) (A1) (E1) (25) (by omega) (by omega) (oqZ_fr fu14 rfl (oqZ_fr fu7 rfl iv10)) (by omega) (by omega) rfl (oqWd_at (oqWd_fr fu14 rfl (oqWd_fr fu7 rfl iv11)) 25 (by decide)) (by omega)) (by decide) rfl rfl rfl (Nat.le_of_ble_eq_true rfl) (oDec_at oX12_onePart 33 rfl) (fun r29 u28 pu28 fu28 => ?_)
                try dsimp only at pu28
                try simp only [lk26, lk27] at pu28
                obtain ⟨pu28_0, pu28_1, pu28_2, pu28_3, pu28_4, pu28_5, pu28_6⟩ := pu28
                have rr29 := n_rng r29
                have hw25 := oqWi_is (g := g) (a := A1) (b := E1) (i := 25) (by decide)
                have hq30 : oqJ g fp fq cz kx b 1 (u28) := oqJ_id hq16 (oFr_row fu28 (c := 103) rfl rfl) (congrArg Int32.toInt (fu28 71 5 rfl).1) (congrArg Int32.toInt (fu28 71 47 rfl).1) (by rw [show ((u28).1 71 2).toInt = ((u14).1 71 2).toInt by omega]) (congrArg Int32.toInt (fu28 71 4 rfl).1) (congrArg Int32.toInt (fu28 71 48 rfl).1) (congrArg Int32.toInt (fu28 71 6 rfl).1)
                refine r_if_eq C 141 (oDec_at oX12_onePart 34 rfl) (by decide) (fun cd31 => ?_) (fun cd31 => ?_)
                · skip
                  clear pu28_4
                  replace pu28_5 := pu28_5 (by omega)
                  clear pu28_6
                  refine r_iconst C (oDec_at oX12_onePart 70 rfl) (v := k0) (by rw [qk0]; rfl) ?_
                  refine r_istore_n C (lv' := [(0, .ref (oad E 71)), (1, .int k0), (2, .int r8)]) [1, 0, 2] (oDec_at oX12_onePart 71 rfl) rfl (by decide) rfl ?_
                  refine r_goto C (tgt := 2) (oDec_at oX12_onePart 72 rfl) (by decide) ?_
                  have lk32 : ((u28).1 71 48).toInt = (t.1 71 48).toInt := congrArg Int32.toInt (((fu28 71 48 rfl).1).trans (((fu14 71 48 rfl).1).trans ((fu7 71 48 rfl).1)))
                  have lk33 : ((u28).1 71 5).toInt = v2.toInt := congrArg Int32.toInt (((fu28 71 5 rfl).1).trans (((fu14 71 5 rfl).1).trans (((fu7 71 5 rfl).1).trans (ev2))))
                  have lk34 : ((u28).1 71 45).toInt = (t.1 71 45).toInt := congrArg Int32.toInt (((fu28 71 45 rfl).1).trans (((fu14 71 45 rfl).1).trans ((fu7 71 45 rfl).1)))
                  have lk35 : ((u28).1 71 47).toInt = (t.1 71 47).toInt := congrArg Int32.toInt (((fu28 71 47 rfl).1).trans (((fu14 71 47 rfl).1).trans ((fu7 71 47 rfl).1)))
                  have lk36 : ((u28).1 71 45).toInt = (t.1 71 45).toInt := congrArg Int32.toInt (((fu28 71 45 rfl).1).trans (((fu14 71 45 rfl).1).trans ((fu7 71 45 rfl).1)))
                  have lk37 : ((u28).1 71 47).toInt = (t.1 71 47).toInt := congrArg Int32.toInt (((fu28 71 47 rfl).1).trans (((fu14 71 47 rfl).1).trans ((fu7 71 47 rfl).1)))
                  have lk38 : ((u28).1 71 56).toInt = (t.1 71 56).toInt := congrArg Int32.toInt (((fu28 71 56 rfl).1).trans (((fu14 71 56 rfl).1).trans ((fu7 71 56 rfl).1)))
                  have lk39 : ((u28).1 71 4).toInt = (t.1 71 4).toInt := congrArg Int32.toInt (((fu28 71 4 rfl).1).trans (((fu14 71 4 rfl).1).trans ((fu7 71 4 rfl).1)))
                  have lk40 : ((u28).1 71 5).toInt = v2.toInt := congrArg Int32.toInt (((fu28 71 5 rfl).1).trans (((fu14 71 5 rfl).1).trans (((fu7 71 5 rfl).1).trans (ev2))))
                  have lk41 : ((u28).1 71 6).toInt = (t.1 71 6).toInt := congrArg Int32.toInt (((fu28 71 6 rfl).1).trans (((fu14 71 6 rfl).1).trans ((fu7 71 6 rfl).1)))
                  have hj := oB1_f ((u28).1 71 5)
                  refine r_pick C [0, 1] rfl ?_
                  exact (ih (n - 1) (by omega)).1 (u28) k0  (oQ_fr fu28 rfl (oQ_fr fu14 rfl (oQ_fr fu7 rfl iv0))) (by omega) (by omega) (by omega) (by omega) (by omega) hq30 (by omega) (by omega) (by omega) (oqZ_fr fu28 rfl (oqZ_fr fu14 rfl (oqZ_fr fu7 rfl iv10))) (oqWd_fr fu28 rfl (oqWd_fr fu14 rfl (oqWd_fr fu7 rfl iv11))) (by omega)
                · skip
                  replace pu28_4 := pu28_4 (by omega)
                  clear pu28_5
                  replace pu28_6 := pu28_6 (by omega)
                  have lk42 : ((u28).1 71 48).toInt = (t.1 71 48).toInt := congrArg Int32.toInt (((fu28 71 48 rfl).1).trans (((fu14 71 48 rfl).1).trans ((fu7 71 48 rfl).1)))
                  have lk43 : ((u28).1 71 5).toInt = v2.toInt := congrArg Int32.toInt (((fu28 71 5 rfl).1).trans (((fu14 71 5 rfl).1).trans (((fu7 71 5 rfl).1).trans (ev2))))
                  have lk44 : ((u28).1 71 45).toInt = (t.1 71 45).toInt := congrArg Int32.toInt (((fu28 71 45 rfl).1).trans (((fu14 71 45 rfl).1).trans ((fu7 71 45 rfl).1)))
                  have lk45 : ((u28).1 71 47).toInt = (t.1 71 47).toInt := congrArg Int32.toInt (((fu28 71 47 rfl).1).trans (((fu14 71 47 rfl).1).trans ((fu7 71 47 rfl).1)))
                  have lk46 : ((u28).1 71 56).toInt = (t.1 71 56).toInt := congrArg Int32.toInt (((fu28 71 56 rfl).1).trans (((fu14 71 56 rfl).1).trans ((fu7 71 56 rfl).1)))
                  have lk47 : ((u28).1 71 4).toInt = (t.1 71 4).toInt := congrArg Int32.toInt (((fu28 71 4 rfl).1).trans (((fu14 71 4 rfl).1).trans ((fu7 71 4 rfl).1)))
                  have lk48 : ((u28).1 71 5).toInt = v2.toInt := congrArg Int32.toInt (((fu28 71 5 rfl).1).trans (((fu14 71 5 rfl).1).trans (((fu7 71 5 rfl).1).trans (ev2))))
                  have lk49 : ((u28).1 71 6).toInt = (t.1 71 6).toInt := congrArg Int32.toInt (((fu28 71 6 rfl).1).trans (((fu14 71 6 rfl).1).trans ((fu7 71 6 rfl).1)))
                  refine r_pick C [0, 1] rfl ?_
                  exact (ih (n - 1) (by omega)).2.1 (u28) x1  (oQ_fr fu28 rfl (oQ_fr fu14 rfl (oQ_fr fu7 rfl iv0))) (by omega) (by omega) (by omega) (by omega) (by omega) hq30 (by omega) (by (have ea : ((u28).1 71 2).toInt = A1 := (by omega); have ee : ((u28).1 71 4).toInt = E1 := (by omega); rw [ea, ee]; omega)) (by omega) (oqZ_fr fu28 rfl (oqZ_fr fu14 rfl (oqZ_fr fu7 rfl iv10))) (oqWd_fr fu28 rfl (oqWd_fr fu14 rfl (oqWd_fr fu7 rfl iv11))) (by omega)
            · skip
              refine r_aload_n C (j := 0) (oDec_at oX12_onePart 13 rfl) rfl rfl ?_
              refine r_bipush C (oDec_at oX12_onePart 14 rfl) (v := k20) (by rw [qk20]; rfl) ?_
              refine r_aload_n C (j := 0) (oDec_at oX12_onePart 15 rfl) rfl rfl ?_
              obtain ⟨v50, ev50⟩ : ∃ z : Int32, (u7).1 71 2 = z := ⟨_, rfl⟩
              have gv50 : (u7.1 71 2).toInt = v50.toInt := congrArg Int32.toInt (ev50)
              refine r_geti (k := 2) (lo := 0) (hi := 1600) C v50 oCl12 rfl (by decide) flX12_179 rfl rfl (ev50) rfl rfl (oDec_at oX12_onePart 16 rfl) (fun b51 b51h => ?_)
              have lk52 : ((u7).1 71 47).toInt = (t.1 71 47).toInt := congrArg Int32.toInt ((fu7 71 47 rfl).1)
              have lk53 : ((u7).1 71 2).toInt = v50.toInt := congrArg Int32.toInt (ev50)
              have lk54 : ((u7).1 71 4).toInt = (t.1 71 4).toInt := congrArg Int32.toInt ((fu7 71 4 rfl).1)
              have lk55 : ((u7).1 71 5).toInt = v2.toInt := congrArg Int32.toInt (((fu7 71 5 rfl).1).trans (ev2))
              have lk56 : ((u7).1 71 48).toInt = (t.1 71 48).toInt := congrArg Int32.toInt ((fu7 71 48 rfl).1)
              have lk57 : ((u7).1 71 47).toInt = (t.1 71 47).toInt := congrArg Int32.toInt ((fu7 71 47 rfl).1)
              have lk58 : ((u7).1 71 48).toInt = (t.1 71 48).toInt := congrArg Int32.toInt ((fu7 71 48 rfl).1)
              have lk59 : ((u7).1 71 5).toInt = v2.toInt := congrArg Int32.toInt (((fu7 71 5 rfl).1).trans (ev2))
              have lk60 : ((u7).1 71 48).toInt = (t.1 71 48).toInt := congrArg Int32.toInt ((fu7 71 48 rfl).1)
              have lk61 : ((u7).1 71 47).toInt = (t.1 71 47).toInt := congrArg Int32.toInt ((fu7 71 47 rfl).1)
              have lk62 : ((u7).1 71 5).toInt = v2.toInt := congrArg Int32.toInt (((fu7 71 5 rfl).1).trans (ev2))
              have lk63 : ((u7).1 71 5).toInt = v2.toInt := congrArg Int32.toInt (((fu7 71 5 rfl).1).trans (ev2))
              have lk64 : ((u7).1 71 48).toInt = (t.1 71 48).toInt := congrArg Int32.toInt ((fu7 71 48 rfl).1)
              have lk65 : ((u7).1 71 6).toInt = (t.1 71 6).toInt := congrArg Int32.toInt ((fu7 71 6 rfl).1)
              refine r_callVv C oCl12 rfl miX12_opens mlX12_292 (ct5_X12_opens l E (u7) k20 v50 (by omega) (by omega) (by omega)) (by decide) rfl rfl rfl (Nat.le_of_ble_eq_true rfl) (oDec_at oX12_onePart 17 rfl) (fun u66 pu66 fu66 => ?_)
              try dsimp only at pu66
              try simp only [lk57, lk58, lk59, lk60, lk61, lk62, lk63, lk64, lk65] at pu66
              obtain ⟨pu66_0, pu66_1, pu66_2, pu66_3, pu66_4⟩ := pu66
              have lk68 : ((u66).1 71 2).toInt = v50.toInt := congrArg Int32.toInt (((fu66 71 2 rfl).1).trans (ev50))
              have lk69 : ((u66).1 71 4).toInt = (t.1 71 4).toInt := congrArg Int32.toInt (((fu66 71 4 rfl).1).trans ((fu7 71 4 rfl).1))
              have hq70 : oQ b x (u66) := oQ_opens fu66 rfl (oQ_fr fu7 rfl iv0) pu66_1 (by omega) (by omega) (by omega)
              refine r_aload_n C (j := 0) (oDec_at oX12_onePart 18 rfl) rfl rfl ?_
              refine r_pc C 35 rfl ?_
              refine r_dup C (oDec_at oX12_onePart 19 rfl) rfl ?_
              refine r_geti (k := 2) (lo := 0) (hi := 1600) C v50 oCl12 rfl (by decide) flX12_179 rfl rfl (((fu66 71 2 rfl).1).trans (ev50)) rfl rfl (oDec_at oX12_onePart 20 rfl) (fun _ _ => ?_)
              refine r_iconst C (oDec_at oX12_onePart 21 rfl) (v := k1) (by rw [qk1]; rfl) ?_
              obtain ⟨v71, ev71⟩ : ∃ z : Int32, z = v50 + k1 := ⟨_, rfl⟩
              have hv71 : v71.toInt = v50.toInt + k1.toInt := n_add ev71 (by omega) (by omega)
              refine r_iadd C v71 (oDec_at oX12_onePart 22 rfl) ev71 ?_
              refine r_puti (k := 2) (lo := 0) (hi := 1600) C oCl12 rfl (by decide) flX12_179 rfl rfl rfl rfl rfl rfl rfl rfl ⟨by omega, by omega⟩ (oDec_at oX12_onePart 23 rfl) ?_
              have hq72 : oqJ g fp fq cz kx b 1 ((pI u66 71 2 v71)) := oqJ_par hq9 (by omega) pu66_1 (by omega) hsk (by omega) (by omega) (by omega) (by omega) (by omega)
              refine r_goto C (tgt := 143) (oDec_at oX12_onePart 24 rfl) (by decide) ?_
              refine r_goto C (tgt := 2) (oDec_at oX12_onePart 72 rfl) (by decide) ?_
              have lk73 : (((pI u66 71 2 v71)).1 71 48).toInt = (u66.1 71 48).toInt := congrArg Int32.toInt ((pI_ne (a := 71) (b := 48) (c := 71) (k := 2) _ _ (Or.inr (by decide))))
              have lk74 : (((pI u66 71 2 v71)).1 71 5).toInt = (u66.1 71 5).toInt := congrArg Int32.toInt ((pI_ne (a := 71) (b := 5) (c := 71) (k := 2) _ _ (Or.inr (by decide))))
              have lk75 : (((pI u66 71 2 v71)).1 71 2).toInt = v71.toInt := congrArg Int32.toInt ((pI_self _ _ _ _))
              have lk76 : (((pI u66 71 2 v71)).1 71 45).toInt = (t.1 71 45).toInt := congrArg Int32.toInt (((pI_ne (a := 71) (b := 45) (c := 71) (k := 2) _ _ (Or.inr (by decide)))).trans (((fu66 71 45 rfl).1).trans ((fu7 71 45 rfl).1)))
              have lk77 : (((pI u66 71 2 v71)).1 71 47).toInt = (u66.1 71 47).toInt := congrArg Int32.toInt ((pI_ne (a := 71) (b := 47) (c := 71) (k := 2) _ _ (Or.inr (by decide))))
              have lk78 : (((pI u66 71 2 v71)).1 71 2).toInt = v71.toInt := congrArg Int32.toInt ((pI_self _ _ _ _))
              have lk79 : (((pI u66 71 2 v71)).1 71 45).toInt = (t.1 71 45).toInt := congrArg Int32.toInt (((pI_ne (a := 71) (b := 45) (c := 71) (k := 2) _ _ (Or.inr (by decide)))).trans (((fu66 71 45 rfl).1).trans ((fu7 71 45 rfl).1)))
              have lk80 : (((pI u66 71 2 v71)).1 71 47).toInt = (u66.1 71 47).toInt := congrArg Int32.toInt ((pI_ne (a := 71) (b := 47) (c := 71) (k := 2) _ _ (Or.inr (by decide))))
              have lk81 : (((pI u66 71 2 v71)).1 71 2).toInt = v71.toInt := congrArg Int32.toInt ((pI_self _ _ _ _))
              have lk82 : (((pI u66 71 2 v71)).1 71 56).toInt = (t.1 71 56).toInt := congrArg Int32.toInt (((pI_ne (a := 71) (b := 56) (c := 71) (k := 2) _ _ (Or.inr (by decide)))).trans (((fu66 71 56 rfl).1).trans ((fu7 71 56 rfl).1)))
              have lk83 : (((pI u66 71 2 v71)).1 71 2).toInt = v71.toInt := congrArg Int32.toInt ((pI_self _ _ _ _))
              have lk84 : (((pI u66 71 2 v71)).1 71 4).toInt = (t.1 71 4).toInt := congrArg Int32.toInt (((pI_ne (a := 71) (b := 4) (c := 71) (k := 2) _ _ (Or.inr (by decide)))).trans (((fu66 71 4 rfl).1).trans ((fu7 71 4 rfl).1)))
              have lk85 : (((pI u66 71 2 v71)).1 71 5).toInt = (u66.1 71 5).toInt := congrArg Int32.toInt ((pI_ne (a := 71) (b := 5) (c := 71) (k := 2) _ _ (Or.inr (by decide))))
              have lk86 : (((pI u66 71 2 v71)).1 71 6).toInt = (u66.1 71 6).toInt := congrArg Int32.toInt ((pI_ne (a := 71) (b := 6) (c := 71) (k := 2) _ _ (Or.inr (by decide))))
              have lk87 : (((pI u66 71 2 v71)).1 71 2).toInt = v71.toInt := congrArg Int32.toInt ((pI_self _ _ _ _))
              have hj := oB1_f (((pI u66 71 2 v71)).1 71 5)
              refine r_pick C [0, 1] rfl ?_
              exact (ih (n - 1) (by omega)).1 ((pI u66 71 2 v71)) x1  (oQ_fr (oFr_oneI (q := 12) (m := 2) rfl (by rfl)) rfl hq70) (by omega) (by omega) (by omega) (by omega) (by omega) hq72 (by omega) (by omega) (by omega) (oqZ_fr (oFr_oneI (q := 12) (m := 2) rfl (by rfl)) rfl (oqZ_fr fu66 rfl (oqZ_fr fu7 rfl iv10))) (oqWd_fr (oFr_oneI (q := 12) (m := 2) rfl (by rfl)) rfl (oqWd_fr fu66 rfl (oqWd_fr fu7 rfl iv11))) (by omega)
      · intro t x1  iv0 iv1 iv2 iv3 iv4 iv5 iv6 iv7 iv8 iv9 iv10 iv11 hmu
        have rx1 := n_rng x1
        refine r_ty C (fun hty => ?_)
        have hty_coded : (0 : Int) ≤ ((t).1 71 45).toInt ∧ ((t).1 71 45).toInt ≤ 1600 := hty.1 71 45
        have hty_waits : (0 : Int) ≤ ((t).1 71 47).toInt ∧ ((t).1 71 47).toInt ≤ 1700 := hty.1 71 47
        have hty_at : (0 : Int) ≤ ((t).1 71 2).toInt ∧ ((t).1 71 2).toInt ≤ 1600 := hty.1 71 2
        clear hty
        have hw24 := oqWi_is (g := g) (a := (t.1 71 2).toInt) (b := (t.1 71 4).toInt) (i := 24) (by decide)
        have hw25 := oqWi_is (g := g) (a := (t.1 71 2).toInt) (b := (t.1 71 4).toInt) (i := 25) (by decide)
        have hHa24 : oqHa g (t.1 71 2).toInt 24 = oqSk g (t.1 71 2).toInt + (oqWl 24 : Int) := rfl
        have hHa25 : oqHa g (t.1 71 2).toInt 25 = oqSk g (t.1 71 2).toInt + (oqWl 25 : Int) := rfl
        have hl24 : oqWl 24 = 3 := rfl
        have hl25 : oqWl 25 = 3 := rfl
        refine r_aload_n C (j := 0) (oDec_at oX12_onePart 35 rfl) rfl rfl ?_
        refine r_aload_n C (j := 0) (oDec_at oX12_onePart 36 rfl) rfl rfl ?_
        refine r_getF (k := 34) (b := 97) C oCl12 rfl (by decide) flX12_90 rfl rfl rfl (oDec_at oX12_onePart 37 rfl) ?_
        refine r_callVi C oCl12 rfl miX12_takes mlX12_200 (ct6_X12_takes l E (t) 97 73 3 rfl (by decide) (by decide) rfl rfl (g) ((t.1 71 2).toInt) ((t.1 71 4).toInt) (24) (by omega) (by omega) iv10 (by omega) (by omega) rfl (oqWd_at iv11 24 (by decide)) (by omega)) (by decide) rfl rfl rfl (Nat.le_of_ble_eq_true rfl) (oDec_at oX12_onePart 38 rfl) (fun r89 u88 pu88 fu88 => ?_)
        try dsimp only at pu88
        obtain ⟨pu88_0, pu88_1, pu88_2, pu88_3, pu88_4⟩ := pu88
        have rr89 := n_rng r89
        refine r_istore_n C (lv' := [(0, .ref (oad E 71)), (1, .int x1), (3, .int r89)]) [1, 2, 0] (oDec_at oX12_onePart 39 rfl) rfl (by decide) rfl ?_
        refine r_iload_n C (j := 2) (oDec_at oX12_onePart 40 rfl) rfl rfl ?_
        refine r_pc C 79 rfl ?_
        refine r_if_ne C 90 (oDec_at oX12_onePart 41 rfl) (by decide) (fun cd90 => ?_) (fun cd90 => ?_)
        · skip
          replace pu88_1 := pu88_1 (by omega)
          clear pu88_2
          have lk91 : ((u88).1 71 48).toInt = (t.1 71 48).toInt := congrArg Int32.toInt ((fu88 71 48 rfl).1)
          have lk92 : ((u88).1 71 5).toInt = (t.1 71 5).toInt := congrArg Int32.toInt ((fu88 71 5 rfl).1)
          have lk93 : ((u88).1 71 45).toInt = (t.1 71 45).toInt := congrArg Int32.toInt ((fu88 71 45 rfl).1)
          have lk94 : ((u88).1 71 47).toInt = (t.1 71 47).toInt := congrArg Int32.toInt ((fu88 71 47 rfl).1)
          have lk95 : ((u88).1 71 45).toInt = (t.1 71 45).toInt := congrArg Int32.toInt ((fu88 71 45 rfl).1)
          have lk96 : ((u88).1 71 47).toInt = (t.1 71 47).toInt := congrArg Int32.toInt ((fu88 71 47 rfl).1)
          have lk97 : ((u88).1 71 56).toInt = (t.1 71 56).toInt := congrArg Int32.toInt ((fu88 71 56 rfl).1)
          have lk98 : ((u88).1 71 5).toInt = (t.1 71 5).toInt := congrArg Int32.toInt ((fu88 71 5 rfl).1)
          have lk99 : ((u88).1 71 5).toInt = (t.1 71 5).toInt := congrArg Int32.toInt ((fu88 71 5 rfl).1)
          have lk100 : ((u88).1 71 6).toInt = (t.1 71 6).toInt := congrArg Int32.toInt ((fu88 71 6 rfl).1)
          exact (ih (n - 1) (by omega)).2.2.1 (u88) x1 r89  (oQ_fr fu88 rfl iv0) (by omega) (by omega) (by omega) (by omega) (by omega) (by omega) (by first | (intro h; exfalso; omega) | exact fun _ => oqM_of (s := t) iv6 (by omega) (oFr_row fu88 (c := 103) rfl rfl) (congrArg Int32.toInt (fu88 71 47 rfl).1) (congrArg Int32.toInt (fu88 71 48 rfl).1) (by omega) (by omega) (by omega) (by omega) (by omega)) (by first | (intro h; exfalso; omega) | exact fun _ => oqM_of (s := t) iv6 (by omega) ((oFr_row fu88 (c := 103) rfl rfl).trans (oFr_row fu88 (c := 103) rfl rfl)) ((congrArg Int32.toInt (fu88 71 47 rfl).1).trans (congrArg Int32.toInt (fu88 71 47 rfl).1)) ((congrArg Int32.toInt (fu88 71 48 rfl).1).trans (congrArg Int32.toInt (fu88 71 48 rfl).1)) (by omega) (by omega) (by omega) (by omega) (by omega)) (by omega) (by omega) (by omega) (oqZ_fr fu88 rfl iv10) (oqWd_fr fu88 rfl iv11) (by omega)
        · skip
          clear pu88_1
          replace pu88_2 := pu88_2 (by omega)
          refine r_aload_n C (j := 0) (oDec_at oX12_onePart 42 rfl) rfl rfl ?_
          refine r_aload_n C (j := 0) (oDec_at oX12_onePart 43 rfl) rfl rfl ?_
          refine r_getF (k := 35) (b := 98) C oCl12 rfl (by decide) flX12_93 rfl rfl rfl (oDec_at oX12_onePart 44 rfl) ?_
          have lk101 : ((u88).1 71 5).toInt = (t.1 71 5).toInt := congrArg Int32.toInt ((fu88 71 5 rfl).1)
          have lk102 : ((u88).1 71 5).toInt = (t.1 71 5).toInt := congrArg Int32.toInt ((fu88 71 5 rfl).1)
          have lk103 : ((u88).1 71 6).toInt = (t.1 71 6).toInt := congrArg Int32.toInt ((fu88 71 6 rfl).1)
          have lk104 : ((u88).1 71 5).toInt = (t.1 71 5).toInt := congrArg Int32.toInt ((fu88 71 5 rfl).1)
          have lk105 : ((u88).1 71 6).toInt = (t.1 71 6).toInt := congrArg Int32.toInt ((fu88 71 6 rfl).1)
          refine r_callVv C oCl12 rfl miX12_asks mlX12_240 (ct6_X12_asks l E (u88) 98 74 3 rfl (by decide) (by decide) rfl rfl (g) ((t.1 71 2).toInt) ((t.1 71 4).toInt) (25) (by omega) (oqZ_fr fu88 rfl iv10) (by omega) rfl (oqWd_at (oqWd_fr fu88 rfl iv11) 25 (by decide)) (by omega)) (by decide) rfl rfl rfl (Nat.le_of_ble_eq_true rfl) (oDec_at oX12_onePart 45 rfl) (fun u106 pu106 fu106 => ?_)
          try dsimp only at pu106
          try simp only [lk101, lk102, lk103, lk104, lk105] at pu106
          obtain ⟨pu106_0, pu106_1, pu106_2⟩ := pu106
          have lk108 : ((u106).1 71 48).toInt = (t.1 71 48).toInt := congrArg Int32.toInt (((fu106 71 48 rfl).1).trans ((fu88 71 48 rfl).1))
          have lk109 : ((u106).1 71 45).toInt = (t.1 71 45).toInt := congrArg Int32.toInt (((fu106 71 45 rfl).1).trans ((fu88 71 45 rfl).1))
          have lk110 : ((u106).1 71 47).toInt = (t.1 71 47).toInt := congrArg Int32.toInt (((fu106 71 47 rfl).1).trans ((fu88 71 47 rfl).1))
          have lk111 : ((u106).1 71 45).toInt = (t.1 71 45).toInt := congrArg Int32.toInt (((fu106 71 45 rfl).1).trans ((fu88 71 45 rfl).1))
          have lk112 : ((u106).1 71 47).toInt = (t.1 71 47).toInt := congrArg Int32.toInt (((fu106 71 47 rfl).1).trans ((fu88 71 47 rfl).1))
          have lk113 : ((u106).1 71 56).toInt = (t.1 71 56).toInt := congrArg Int32.toInt (((fu106 71 56 rfl).1).trans ((fu88 71 56 rfl).1))
          exact (ih (n - 1) (by omega)).2.2.1 (u106) x1 r89  (oQ_frb fu106 rfl (by omega) (oQ_fr fu88 rfl iv0)) (by omega) (by omega) (by omega) (by omega) (by omega) (by omega) (by first | (intro h; exfalso; omega) | exact fun _ => oqM_of (s := t) iv6 (by omega) (oFr_row fu88 (c := 103) rfl rfl) (congrArg Int32.toInt (fu88 71 47 rfl).1) (congrArg Int32.toInt (fu88 71 48 rfl).1) (by omega) (by omega) (by omega) (by omega) (by omega)) (by first | (intro h; exfalso; omega) | exact fun _ => oqM_of (s := t) iv6 (by omega) ((oFr_row fu106 (c := 103) rfl rfl).trans (oFr_row fu88 (c := 103) rfl rfl)) ((congrArg Int32.toInt (fu106 71 47 rfl).1).trans (congrArg Int32.toInt (fu88 71 47 rfl).1)) ((congrArg Int32.toInt (fu106 71 48 rfl).1).trans (congrArg Int32.toInt (fu88 71 48 rfl).1)) (by omega) (by omega) (by omega) (by omega) (by omega)) (by omega) (by omega) (by omega) (oqZ_fr fu106 rfl (oqZ_fr fu88 rfl iv10)) (oqWd_fr fu106 rfl (oqWd_fr fu88 rfl iv11)) (by omega)
      · intro t x1 x3  iv0 iv1 iv2 iv3 iv4 iv5 iv6 iv7 iv8 iv9 iv10 iv11 iv12 iv13 hmu
        have rx1 := n_rng x1
        have rx3 := n_rng x3
        refine r_ty C (fun hty => ?_)
        have hty_coded : (0 : Int) ≤ ((t).1 71 45).toInt ∧ ((t).1 71 45).toInt ≤ 1600 := hty.1 71 45
        have hty_waits : (0 : Int) ≤ ((t).1 71 47).toInt ∧ ((t).1 71 47).toInt ≤ 1700 := hty.1 71 47
        have hty_at : (0 : Int) ≤ ((t).1 71 2).toInt ∧ ((t).1 71 2).toInt ≤ 1600 := hty.1 71 2
        clear hty
        refine r_aload_n C (j := 0) (oDec_at oX12_onePart 46 rfl) rfl rfl ?_
        refine r_callVi C oCl12 rfl miX12_look mlX12_185 (ct4_X12_look l E (t)  (g) ((t.1 71 2).toInt) (by omega) iv12) (by decide) rfl rfl rfl (Nat.le_of_ble_eq_true rfl) (oDec_at oX12_onePart 47 rfl) (fun r115 u114 pu114 fu114 => ?_)
        try dsimp only at pu114
        obtain ⟨pu114_0, pu114_1, pu114_2, pu114_3, pu114_4, pu114_5⟩ := pu114
        have rr115 := n_rng r115
        have lk116 : ((u114).1 71 4).toInt = (t.1 71 4).toInt := congrArg Int32.toInt ((fu114 71 4 rfl).1)
        have lk117 : ((u114).1 71 5).toInt = (t.1 71 5).toInt := congrArg Int32.toInt ((fu114 71 5 rfl).1)
        have lk118 : ((u114).1 71 48).toInt = (t.1 71 48).toInt := congrArg Int32.toInt ((fu114 71 48 rfl).1)
        have lk119 : ((u114).1 71 47).toInt = (t.1 71 47).toInt := congrArg Int32.toInt ((fu114 71 47 rfl).1)
        have hsk3 : oqSk g ((u114).1 71 2).toInt = ((u114).1 71 2).toInt := by rw [show ((u114).1 71 2).toInt = oqSk g (t.1 71 2).toInt by omega]; exact oqSk_sk pu114_3
        have hg3 : g ((u114).1 71 2).toInt = r115.toInt := by rw [show ((u114).1 71 2).toInt = oqSk g (t.1 71 2).toInt by omega]; omega
        have hM1 : x3.toInt = 1 → oqM g fp fq cz kx b 24 (u114) := (fun h9 => oqM_lk (iv7 h9) (by omega) (oFr_row fu114 (c := 103) rfl rfl) (congrArg Int32.toInt (fu114 71 47 rfl).1) (congrArg Int32.toInt (fu114 71 48 rfl).1) (congrArg Int32.toInt (fu114 71 4 rfl).1) (by rw [show ((u114).1 71 2).toInt = oqSk g (t.1 71 2).toInt by omega]; exact oqSk_sk pu114_3))
        have hM0 : x3.toInt = 0 → oqM g fp fq cz kx b 25 (u114) := (fun h9 => oqM_lk (iv8 h9) (by omega) (oFr_row fu114 (c := 103) rfl rfl) (congrArg Int32.toInt (fu114 71 47 rfl).1) (congrArg Int32.toInt (fu114 71 48 rfl).1) (congrArg Int32.toInt (fu114 71 4 rfl).1) (by rw [show ((u114).1 71 2).toInt = oqSk g (t.1 71 2).toInt by omega]; exact oqSk_sk pu114_3))
        refine r_bipush C (oDec_at oX12_onePart 48 rfl) (v := k40) (by rw [qk40]; rfl) ?_
        refine r_icmp_ne C 106 (oDec_at oX12_onePart 49 rfl) (by decide) (fun cd120 => ?_) (fun cd120 => ?_)
        · skip
          refine r_iconst C (oDec_at oX12_onePart 53 rfl) (v := km1) (by rw [qkm1]; rfl) ?_
          refine r_istore C (lv' := [(0, .ref (oad E 71)), (1, .int x1), (3, .int x3), (4, .int km1)]) [1, 2, 3, 0] (oDec_at oX12_onePart 54 rfl) (by decide) rfl ?_
          refine r_iload C (j := 3) (oDec_at oX12_onePart 55 rfl) rfl ?_
          refine r_iconst C (oDec_at oX12_onePart 56 rfl) (v := km1) (by rw [qkm1]; rfl) ?_
          refine r_icmp_eq C 132 (oDec_at oX12_onePart 57 rfl) (by decide) (fun cd121 => ?_) (fun cd121 => ?_)
          · skip
            have lk122 : ((u114).1 71 48).toInt = (t.1 71 48).toInt := congrArg Int32.toInt ((fu114 71 48 rfl).1)
            have lk123 : ((u114).1 71 5).toInt = (t.1 71 5).toInt := congrArg Int32.toInt ((fu114 71 5 rfl).1)
            have lk124 : ((u114).1 71 45).toInt = (t.1 71 45).toInt := congrArg Int32.toInt ((fu114 71 45 rfl).1)
            have lk125 : ((u114).1 71 47).toInt = (t.1 71 47).toInt := congrArg Int32.toInt ((fu114 71 47 rfl).1)
            have lk126 : ((u114).1 71 45).toInt = (t.1 71 45).toInt := congrArg Int32.toInt ((fu114 71 45 rfl).1)
            have lk127 : ((u114).1 71 47).toInt = (t.1 71 47).toInt := congrArg Int32.toInt ((fu114 71 47 rfl).1)
            have lk128 : ((u114).1 71 56).toInt = (t.1 71 56).toInt := congrArg Int32.toInt ((fu114 71 56 rfl).1)
            have lk129 : ((u114).1 71 5).toInt = (t.1 71 5).toInt := congrArg Int32.toInt ((fu114 71 5 rfl).1)
            have lk130 : ((u114).1 71 6).toInt = (t.1 71 6).toInt := congrArg Int32.toInt ((fu114 71 6 rfl).1)
            refine r_pick C [0, 1] rfl ?_
            exact (ih (n - 1) (by omega)).2.2.2.1 (u114) x1  (by first | exact oQ_opens fu114 rfl iv0 pu114_1 (by omega) (by omega) (by omega) | exact (oQ_fr fu114 rfl iv0)) (by omega) (by omega) (by omega) (by omega) (by omega) (by first | (exfalso; omega) | exact oqM_op (hM1 (by omega)) (by omega) pu114_1 (Or.inl ⟨rfl, by omega⟩) hsk3 (by omega) (by omega) (by omega) (by omega) | exact oqM_op (hM0 (by omega)) (by omega) pu114_1 (Or.inr ⟨rfl, by omega⟩) hsk3 (by omega) (by omega) (by omega) (by omega) | (rcases (show x3.toInt = 1 ∨ x3.toInt = 0 by omega) with h9 | h9; exact oqM_no (hM1 h9) (Or.inl rfl) (by omega) hsk3 (by omega); exact oqM_no (hM0 h9) (Or.inr rfl) (by omega) hsk3 (by omega))) (by omega) (by omega) (oqZ_fr fu114 rfl iv12) (oqWd_fr fu114 rfl iv13) (by omega)
          · omega
        · skip
          refine r_aload_n C (j := 0) (oDec_at oX12_onePart 50 rfl) rfl rfl ?_
          obtain ⟨v131, ev131⟩ : ∃ z : Int32, (u114).1 71 2 = z := ⟨_, rfl⟩
          have gv131 : (u114.1 71 2).toInt = v131.toInt := congrArg Int32.toInt (ev131)
          refine r_geti (k := 2) (lo := 0) (hi := 1600) C v131 oCl12 rfl (by decide) flX12_179 rfl rfl (ev131) rfl rfl (oDec_at oX12_onePart 51 rfl) (fun b132 b132h => ?_)
          refine r_goto C (tgt := 107) (oDec_at oX12_onePart 52 rfl) (by decide) ?_
          refine r_istore C (lv' := [(0, .ref (oad E 71)), (1, .int x1), (3, .int x3), (4, .int v131)]) [1, 2, 3, 0] (oDec_at oX12_onePart 54 rfl) (by decide) rfl ?_
          refine r_iload C (j := 3) (oDec_at oX12_onePart 55 rfl) rfl ?_
          refine r_iconst C (oDec_at oX12_onePart 56 rfl) (v := km1) (by rw [qkm1]; rfl) ?_
          refine r_icmp_eq C 132 (oDec_at oX12_onePart 57 rfl) (by decide) (fun cd133 => ?_) (fun cd133 => ?_)
          · skip
            have lk134 : ((u114).1 71 48).toInt = (t.1 71 48).toInt := congrArg Int32.toInt ((fu114 71 48 rfl).1)
            have lk135 : ((u114).1 71 5).toInt = (t.1 71 5).toInt := congrArg Int32.toInt ((fu114 71 5 rfl).1)
            have lk136 : ((u114).1 71 2).toInt = v131.toInt := congrArg Int32.toInt (ev131)
            have lk137 : ((u114).1 71 45).toInt = (t.1 71 45).toInt := congrArg Int32.toInt ((fu114 71 45 rfl).1)
            have lk138 : ((u114).1 71 47).toInt = (t.1 71 47).toInt := congrArg Int32.toInt ((fu114 71 47 rfl).1)
            have lk139 : ((u114).1 71 2).toInt = v131.toInt := congrArg Int32.toInt (ev131)
            have lk140 : ((u114).1 71 45).toInt = (t.1 71 45).toInt := congrArg Int32.toInt ((fu114 71 45 rfl).1)
            have lk141 : ((u114).1 71 47).toInt = (t.1 71 47).toInt := congrArg Int32.toInt ((fu114 71 47 rfl).1)
            have lk142 : ((u114).1 71 2).toInt = v131.toInt := congrArg Int32.toInt (ev131)
            have lk143 : ((u114).1 71 56).toInt = (t.1 71 56).toInt := congrArg Int32.toInt ((fu114 71 56 rfl).1)
            have lk144 : ((u114).1 71 5).toInt = (t.1 71 5).toInt := congrArg Int32.toInt ((fu114 71 5 rfl).1)
            have lk145 : ((u114).1 71 6).toInt = (t.1 71 6).toInt := congrArg Int32.toInt ((fu114 71 6 rfl).1)
            have lk146 : ((u114).1 71 2).toInt = v131.toInt := congrArg Int32.toInt (ev131)
            refine r_pick C [0, 1] rfl ?_
            exact (ih (n - 1) (by omega)).2.2.2.1 (u114) x1  (by first | exact oQ_opens fu114 rfl iv0 pu114_1 (by omega) (by omega) (by omega) | exact (oQ_fr fu114 rfl iv0)) (by omega) (by omega) (by omega) (by omega) (by omega) (by first | (exfalso; omega) | exact oqM_op (hM1 (by omega)) (by omega) pu114_1 (Or.inl ⟨rfl, by omega⟩) hsk3 (by omega) (by omega) (by omega) (by omega) | exact oqM_op (hM0 (by omega)) (by omega) pu114_1 (Or.inr ⟨rfl, by omega⟩) hsk3 (by omega) (by omega) (by omega) (by omega) | (rcases (show x3.toInt = 1 ∨ x3.toInt = 0 by omega) with h9 | h9; exact oqM_no (hM1 h9) (Or.inl rfl) (by omega) hsk3 (by omega); exact oqM_no (hM0 h9) (Or.inr rfl) (by omega) hsk3 (by omega))) (by omega) (by omega) (oqZ_fr fu114 rfl iv12) (oqWd_fr fu114 rfl iv13) (by omega)
          · skip
            refine r_aload_n C (j := 0) (oDec_at oX12_onePart 58 rfl) rfl rfl ?_
            refine r_iload_n C (j := 2) (oDec_at oX12_onePart 59 rfl) rfl rfl ?_
            refine r_if_eq C 125 (oDec_at oX12_onePart 60 rfl) (by decide) (fun cd147 => ?_) (fun cd147 => ?_)
            · skip
              refine r_bipush C (oDec_at oX12_onePart 63 rfl) (v := k22) (by rw [qk22]; rfl) ?_
              refine r_iload C (j := 3) (oDec_at oX12_onePart 64 rfl) rfl ?_
              have lk148 : ((u114).1 71 47).toInt = (t.1 71 47).toInt := congrArg Int32.toInt ((fu114 71 47 rfl).1)
              have lk149 : ((u114).1 71 2).toInt = v131.toInt := congrArg Int32.toInt (ev131)
              have lk150 : ((u114).1 71 4).toInt = (t.1 71 4).toInt := congrArg Int32.toInt ((fu114 71 4 rfl).1)
              have lk151 : ((u114).1 71 5).toInt = (t.1 71 5).toInt := congrArg Int32.toInt ((fu114 71 5 rfl).1)
              have lk152 : ((u114).1 71 48).toInt = (t.1 71 48).toInt := congrArg Int32.toInt ((fu114 71 48 rfl).1)
              have lk153 : ((u114).1 71 47).toInt = (t.1 71 47).toInt := congrArg Int32.toInt ((fu114 71 47 rfl).1)
              have lk154 : ((u114).1 71 48).toInt = (t.1 71 48).toInt := congrArg Int32.toInt ((fu114 71 48 rfl).1)
              have lk155 : ((u114).1 71 5).toInt = (t.1 71 5).toInt := congrArg Int32.toInt ((fu114 71 5 rfl).1)
              have lk156 : ((u114).1 71 48).toInt = (t.1 71 48).toInt := congrArg Int32.toInt ((fu114 71 48 rfl).1)
              have lk157 : ((u114).1 71 47).toInt = (t.1 71 47).toInt := congrArg Int32.toInt ((fu114 71 47 rfl).1)
              have lk158 : ((u114).1 71 5).toInt = (t.1 71 5).toInt := congrArg Int32.toInt ((fu114 71 5 rfl).1)
              have lk159 : ((u114).1 71 5).toInt = (t.1 71 5).toInt := congrArg Int32.toInt ((fu114 71 5 rfl).1)
              have lk160 : ((u114).1 71 48).toInt = (t.1 71 48).toInt := congrArg Int32.toInt ((fu114 71 48 rfl).1)
              have lk161 : ((u114).1 71 6).toInt = (t.1 71 6).toInt := congrArg Int32.toInt ((fu114 71 6 rfl).1)
              refine r_callVv C oCl12 rfl miX12_opens mlX12_292 (ct5_X12_opens l E (u114) k22 v131 (by omega) (by omega) (by omega)) (by decide) rfl rfl rfl (Nat.le_of_ble_eq_true rfl) (oDec_at oX12_onePart 65 rfl) (fun u162 pu162 fu162 => ?_)
              try dsimp only at pu162
              try simp only [lk153, lk154, lk155, lk156, lk157, lk158, lk159, lk160, lk161] at pu162
              obtain ⟨pu162_0, pu162_1, pu162_2, pu162_3, pu162_4⟩ := pu162
              have lk164 : ((u162).1 71 2).toInt = v131.toInt := congrArg Int32.toInt (((fu162 71 2 rfl).1).trans (ev131))
              have lk165 : ((u162).1 71 45).toInt = (t.1 71 45).toInt := congrArg Int32.toInt (((fu162 71 45 rfl).1).trans ((fu114 71 45 rfl).1))
              have lk166 : ((u162).1 71 2).toInt = v131.toInt := congrArg Int32.toInt (((fu162 71 2 rfl).1).trans (ev131))
              have lk167 : ((u162).1 71 45).toInt = (t.1 71 45).toInt := congrArg Int32.toInt (((fu162 71 45 rfl).1).trans ((fu114 71 45 rfl).1))
              have lk168 : ((u162).1 71 2).toInt = v131.toInt := congrArg Int32.toInt (((fu162 71 2 rfl).1).trans (ev131))
              have lk169 : ((u162).1 71 56).toInt = (t.1 71 56).toInt := congrArg Int32.toInt (((fu162 71 56 rfl).1).trans ((fu114 71 56 rfl).1))
              have lk170 : ((u162).1 71 2).toInt = v131.toInt := congrArg Int32.toInt (((fu162 71 2 rfl).1).trans (ev131))
              refine r_pick C [0, 1] rfl ?_
              exact (ih (n - 1) (by omega)).2.2.2.1 (u162) x1  (by first | exact oQ_opens fu162 rfl (oQ_fr fu114 rfl iv0) pu162_1 (by omega) (by omega) (by omega) | exact (by assumption)) (by omega) (by omega) (by omega) (by omega) (by omega) (by first | (exfalso; omega) | exact oqM_op (hM1 (by omega)) (by omega) pu162_1 (Or.inl ⟨rfl, by omega⟩) hsk3 (by omega) (by omega) (by omega) (by omega) | exact oqM_op (hM0 (by omega)) (by omega) pu162_1 (Or.inr ⟨rfl, by omega⟩) hsk3 (by omega) (by omega) (by omega) (by omega) | (rcases (show x3.toInt = 1 ∨ x3.toInt = 0 by omega) with h9 | h9; exact oqM_no (hM1 h9) (Or.inl rfl) (by omega) hsk3 (by omega); exact oqM_no (hM0 h9) (Or.inr rfl) (by omega) hsk3 (by omega))) (by omega) (by omega) (oqZ_fr fu162 rfl (oqZ_fr fu114 rfl iv12)) (oqWd_fr fu162 rfl (oqWd_fr fu114 rfl iv13)) (by omega)
            · skip
              refine r_bipush C (oDec_at oX12_onePart 61 rfl) (v := k21) (by rw [qk21]; rfl) ?_
              refine r_goto C (tgt := 127) (oDec_at oX12_onePart 62 rfl) (by decide) ?_
              refine r_iload C (j := 3) (oDec_at oX12_onePart 64 rfl) rfl ?_
              have lk171 : ((u114).1 71 47).toInt = (t.1 71 47).toInt := congrArg Int32.toInt ((fu114 71 47 rfl).1)
              have lk172 : ((u114).1 71 2).toInt = v131.toInt := congrArg Int32.toInt (ev131)
              have lk173 : ((u114).1 71 4).toInt = (t.1 71 4).toInt := congrArg Int32.toInt ((fu114 71 4 rfl).1)
              have lk174 : ((u114).1 71 5).toInt = (t.1 71 5).toInt := congrArg Int32.toInt ((fu114 71 5 rfl).1)
              have lk175 : ((u114).1 71 48).toInt = (t.1 71 48).toInt := congrArg Int32.toInt ((fu114 71 48 rfl).1)
              have lk176 : ((u114).1 71 47).toInt = (t.1 71 47).toInt := congrArg Int32.toInt ((fu114 71 47 rfl).1)
              have lk177 : ((u114).1 71 48).toInt = (t.1 71 48).toInt := congrArg Int32.toInt ((fu114 71 48 rfl).1)
              have lk178 : ((u114).1 71 5).toInt = (t.1 71 5).toInt := congrArg Int32.toInt ((fu114 71 5 rfl).1)
              have lk179 : ((u114).1 71 48).toInt = (t.1 71 48).toInt := congrArg Int32.toInt ((fu114 71 48 rfl).1)
              have lk180 : ((u114).1 71 47).toInt = (t.1 71 47).toInt := congrArg Int32.toInt ((fu114 71 47 rfl).1)
              have lk181 : ((u114).1 71 5).toInt = (t.1 71 5).toInt := congrArg Int32.toInt ((fu114 71 5 rfl).1)
              have lk182 : ((u114).1 71 5).toInt = (t.1 71 5).toInt := congrArg Int32.toInt ((fu114 71 5 rfl).1)
              have lk183 : ((u114).1 71 48).toInt = (t.1 71 48).toInt := congrArg Int32.toInt ((fu114 71 48 rfl).1)
              have lk184 : ((u114).1 71 6).toInt = (t.1 71 6).toInt := congrArg Int32.toInt ((fu114 71 6 rfl).1)
              refine r_callVv C oCl12 rfl miX12_opens mlX12_292 (ct5_X12_opens l E (u114) k21 v131 (by omega) (by omega) (by omega)) (by decide) rfl rfl rfl (Nat.le_of_ble_eq_true rfl) (oDec_at oX12_onePart 65 rfl) (fun u185 pu185 fu185 => ?_)
              try dsimp only at pu185
              try simp only [lk176, lk177, lk178, lk179, lk180, lk181, lk182, lk183, lk184] at pu185
              obtain ⟨pu185_0, pu185_1, pu185_2, pu185_3, pu185_4⟩ := pu185
              have lk187 : ((u185).1 71 2).toInt = v131.toInt := congrArg Int32.toInt (((fu185 71 2 rfl).1).trans (ev131))
              have lk188 : ((u185).1 71 45).toInt = (t.1 71 45).toInt := congrArg Int32.toInt (((fu185 71 45 rfl).1).trans ((fu114 71 45 rfl).1))
              have lk189 : ((u185).1 71 2).toInt = v131.toInt := congrArg Int32.toInt (((fu185 71 2 rfl).1).trans (ev131))
              have lk190 : ((u185).1 71 45).toInt = (t.1 71 45).toInt := congrArg Int32.toInt (((fu185 71 45 rfl).1).trans ((fu114 71 45 rfl).1))
              have lk191 : ((u185).1 71 2).toInt = v131.toInt := congrArg Int32.toInt (((fu185 71 2 rfl).1).trans (ev131))
              have lk192 : ((u185).1 71 56).toInt = (t.1 71 56).toInt := congrArg Int32.toInt (((fu185 71 56 rfl).1).trans ((fu114 71 56 rfl).1))
              have lk193 : ((u185).1 71 2).toInt = v131.toInt := congrArg Int32.toInt (((fu185 71 2 rfl).1).trans (ev131))
              refine r_pick C [0, 1] rfl ?_
              exact (ih (n - 1) (by omega)).2.2.2.1 (u185) x1  (by first | exact oQ_opens fu185 rfl (oQ_fr fu114 rfl iv0) pu185_1 (by omega) (by omega) (by omega) | exact (by assumption)) (by omega) (by omega) (by omega) (by omega) (by omega) (by first | (exfalso; omega) | exact oqM_op (hM1 (by omega)) (by omega) pu185_1 (Or.inl ⟨rfl, by omega⟩) hsk3 (by omega) (by omega) (by omega) (by omega) | exact oqM_op (hM0 (by omega)) (by omega) pu185_1 (Or.inr ⟨rfl, by omega⟩) hsk3 (by omega) (by omega) (by omega) (by omega) | (rcases (show x3.toInt = 1 ∨ x3.toInt = 0 by omega) with h9 | h9; exact oqM_no (hM1 h9) (Or.inl rfl) (by omega) hsk3 (by omega); exact oqM_no (hM0 h9) (Or.inr rfl) (by omega) hsk3 (by omega))) (by omega) (by omega) (oqZ_fr fu185 rfl (oqZ_fr fu114 rfl iv12)) (oqWd_fr fu185 rfl (oqWd_fr fu114 rfl iv13)) (by omega)
      · intro t x1  iv0 iv1 iv2 iv3 iv4 iv5 iv6 iv7 iv8 iv9 iv10 hmu
        have rx1 := n_rng x1
        refine r_ty C (fun hty => ?_)
        have hty_coded : (0 : Int) ≤ ((t).1 71 45).toInt ∧ ((t).1 71 45).toInt ≤ 1600 := hty.1 71 45
        have hty_waits : (0 : Int) ≤ ((t).1 71 47).toInt ∧ ((t).1 71 47).toInt ≤ 1700 := hty.1 71 47
        have hty_at : (0 : Int) ≤ ((t).1 71 2).toInt ∧ ((t).1 71 2).toInt ≤ 1600 := hty.1 71 2
        clear hty
        have hge := oqSk_ge g (t.1 71 2).toInt
        refine r_aload_n C (j := 0) (oDec_at oX12_onePart 66 rfl) rfl rfl ?_
        refine r_bipush C (oDec_at oX12_onePart 67 rfl) (v := k40) (by rw [qk40]; rfl) ?_
        refine r_callVv C oCl12 rfl miX12_asksSign mlX12_248 (ct6_X12_asksSign l E (t) k40 (g) ((t.1 71 2).toInt) (40) (by omega) iv9 (by omega) (by omega)) (by decide) rfl rfl rfl (Nat.le_of_ble_eq_true rfl) (oDec_at oX12_onePart 68 rfl) (fun u194 pu194 fu194 => ?_)
        try dsimp only at pu194
        obtain ⟨pu194_0, pu194_1, pu194_2, pu194_3⟩ := pu194
        have lk196 : ((u194).1 71 4).toInt = (t.1 71 4).toInt := congrArg Int32.toInt ((fu194 71 4 rfl).1)
        have lk197 : ((u194).1 71 48).toInt = (t.1 71 48).toInt := congrArg Int32.toInt ((fu194 71 48 rfl).1)
        have lk198 : ((u194).1 71 47).toInt = (t.1 71 47).toInt := congrArg Int32.toInt ((fu194 71 47 rfl).1)
        have hq199 : oqJ g fp fq cz kx b 1 (u194) := oqM2_J iv6 (oFr_row fu194 (c := 103) rfl rfl) (congrArg Int32.toInt (fu194 71 47 rfl).1) (congrArg Int32.toInt (fu194 71 48 rfl).1) (congrArg Int32.toInt (fu194 71 4 rfl).1) (fun h9 => by have h8 := pu194_0 h9; omega) (fun h9 => by have h8 := pu194_1 h9; omega)
        refine r_goto C (tgt := 143) (oDec_at oX12_onePart 69 rfl) (by decide) ?_
        refine r_goto C (tgt := 2) (oDec_at oX12_onePart 72 rfl) (by decide) ?_
        have lk200 : ((u194).1 71 48).toInt = (t.1 71 48).toInt := congrArg Int32.toInt ((fu194 71 48 rfl).1)
        have lk201 : ((u194).1 71 45).toInt = (t.1 71 45).toInt := congrArg Int32.toInt ((fu194 71 45 rfl).1)
        have lk202 : ((u194).1 71 47).toInt = (t.1 71 47).toInt := congrArg Int32.toInt ((fu194 71 47 rfl).1)
        have lk203 : ((u194).1 71 45).toInt = (t.1 71 45).toInt := congrArg Int32.toInt ((fu194 71 45 rfl).1)
        have lk204 : ((u194).1 71 47).toInt = (t.1 71 47).toInt := congrArg Int32.toInt ((fu194 71 47 rfl).1)
        have lk205 : ((u194).1 71 56).toInt = (t.1 71 56).toInt := congrArg Int32.toInt ((fu194 71 56 rfl).1)
        have lk206 : ((u194).1 71 4).toInt = (t.1 71 4).toInt := congrArg Int32.toInt ((fu194 71 4 rfl).1)
        have hj := oB1_f ((u194).1 71 5)
        exact (ih (n - 1) (by omega)).1 (u194) x1  (oQ_frb fu194 rfl (by omega) iv0) (by omega) (by omega) (by omega) (by omega) (by omega) hq199 (by omega) (by omega) (by omega) (oqZ_fr fu194 rfl iv9) (oqWd_fr fu194 rfl iv10) (by omega)
      · intro t   iv0 iv1 iv2 iv3 iv4 iv5 iv6 iv7 iv8 iv9 iv10 hmu
        refine r_ty C (fun hty => ?_)
        have hty_coded : (0 : Int) ≤ ((t).1 71 45).toInt ∧ ((t).1 71 45).toInt ≤ 1600 := hty.1 71 45
        have hty_waits : (0 : Int) ≤ ((t).1 71 47).toInt ∧ ((t).1 71 47).toInt ≤ 1700 := hty.1 71 47
        have hty_at : (0 : Int) ≤ ((t).1 71 2).toInt ∧ ((t).1 71 2).toInt ≤ 1600 := hty.1 71 2
        clear hty
        refine r_aload_n C (j := 0) (oDec_at oX12_onePart 73 rfl) rfl rfl ?_
        obtain ⟨v207, ev207⟩ : ∃ z : Int32, (t).1 71 5 = z := ⟨_, rfl⟩
        have gv207 : (t.1 71 5).toInt = v207.toInt := congrArg Int32.toInt (ev207)
        have rv207 := n_rng v207
        refine r_geti (k := 5) (lo := (-2147483648)) (hi := 2147483647) C v207 oCl12 rfl (by decide) flX12_173 rfl rfl (ev207) rfl rfl (oDec_at oX12_onePart 74 rfl) (fun _ _ => ?_)
        refine r_if_eq C 154 (oDec_at oX12_onePart 75 rfl) (by decide) (fun cd208 => ?_) (fun cd208 => ?_)
        · skip
          refine r_aload_n C (j := 0) (oDec_at oX12_onePart 77 rfl) rfl rfl ?_
          obtain ⟨v209, ev209⟩ : ∃ z : Int32, (t).1 71 56 = z := ⟨_, rfl⟩
          have gv209 : (t.1 71 56).toInt = v209.toInt := congrArg Int32.toInt (ev209)
          refine r_geti (k := 56) (lo := 0) (hi := 1) C v209 oCl12 rfl (by decide) flX12_295 rfl rfl (ev209) rfl rfl (oDec_at oX12_onePart 78 rfl) (fun b210 b210h => ?_)
          refine r_if_eq C 168 (oDec_at oX12_onePart 79 rfl) (by decide) (fun cd211 => ?_) (fun cd211 => ?_)
          · skip
            refine r_aload_n C (j := 0) (oDec_at oX12_onePart 83 rfl) rfl rfl ?_
            have lk212 : ((t).1 71 5).toInt = v207.toInt := congrArg Int32.toInt (ev207)
            refine r_callVi C oCl12 rfl miX12_rulePart mlX12_301 (ct5_X12_rulePart l E (t)  (g) ((t.1 71 2).toInt) ((t.1 71 4).toInt) (by omega) (by omega) iv9 (by omega) iv10 (by omega)) (by decide) rfl rfl rfl (Nat.le_of_ble_eq_true rfl) (oDec_at oX12_onePart 84 rfl) (fun r214 u213 pu213 fu213 => ?_)
            try dsimp only at pu213
            try simp only [lk212] at pu213
            obtain ⟨pu213_0, pu213_1, pu213_2, pu213_3⟩ := pu213
            have rr214 := n_rng r214
            refine r_istore_n C (lv' := [(0, .ref (oad E 71)), (2, .int r214)]) [1, 0] (oDec_at oX12_onePart 85 rfl) rfl (by decide) rfl ?_
            refine r_aload_n C (j := 0) (oDec_at oX12_onePart 86 rfl) rfl rfl ?_
            refine r_iload_n C (j := 1) (oDec_at oX12_onePart 87 rfl) rfl rfl ?_
            refine r_iconst C (oDec_at oX12_onePart 88 rfl) (v := km1) (by rw [qkm1]; rfl) ?_
            refine r_pc C 176 rfl ?_
            refine r_icmp_eq C 183 (oDec_at oX12_onePart 89 rfl) (by decide) (fun cd215 => ?_) (fun cd215 => ?_)
            · skip
              have lk216 : ((u213).1 71 5).toInt = v207.toInt := congrArg Int32.toInt (((fu213 71 5 rfl).1).trans (ev207))
              have lk217 : ((u213).1 71 48).toInt = (t.1 71 48).toInt := congrArg Int32.toInt ((fu213 71 48 rfl).1)
              have lk218 : ((u213).1 71 47).toInt = (t.1 71 47).toInt := congrArg Int32.toInt ((fu213 71 47 rfl).1)
              have hq219 : oqJ g fp fq cz kx b 1 (u213) := oqJ_id iv5 (oFr_row fu213 (c := 103) rfl rfl) (congrArg Int32.toInt (fu213 71 5 rfl).1) (congrArg Int32.toInt (fu213 71 47 rfl).1) (by rw [show ((u213).1 71 2).toInt = (t.1 71 2).toInt by omega]) (by omega) (congrArg Int32.toInt (fu213 71 48 rfl).1) (congrArg Int32.toInt (fu213 71 6 rfl).1)
              refine r_sipush C (oDec_at oX12_onePart 92 rfl) (v := k1000) (by rw [qk1000]; rfl) ?_
              refine r_aload_n C (j := 0) (oDec_at oX12_onePart 93 rfl) rfl rfl ?_
              refine r_iconst C (oDec_at oX12_onePart 94 rfl) (v := k0) (by rw [qk0]; rfl) ?_
              refine r_sipush C (oDec_at oX12_onePart 95 rfl) (v := k9999) (by rw [qk9999]; rfl) ?_
              have lk220 : ((u213).1 71 5).toInt = v207.toInt := congrArg Int32.toInt (((fu213 71 5 rfl).1).trans (ev207))
              have lk221 : ((u213).1 71 48).toInt = (t.1 71 48).toInt := congrArg Int32.toInt ((fu213 71 48 rfl).1)
              have lk222 : ((u213).1 71 47).toInt = (t.1 71 47).toInt := congrArg Int32.toInt ((fu213 71 47 rfl).1)
              have lk223 : ((u213).1 71 5).toInt = v207.toInt := congrArg Int32.toInt (((fu213 71 5 rfl).1).trans (ev207))
              have lk224 : ((u213).1 71 5).toInt = v207.toInt := congrArg Int32.toInt (((fu213 71 5 rfl).1).trans (ev207))
              have lk225 : ((u213).1 71 6).toInt = (t.1 71 6).toInt := congrArg Int32.toInt ((fu213 71 6 rfl).1)
              have lk226 : ((u213).1 71 5).toInt = v207.toInt := congrArg Int32.toInt (((fu213 71 5 rfl).1).trans (ev207))
              have lk227 : ((u213).1 71 6).toInt = (t.1 71 6).toInt := congrArg Int32.toInt ((fu213 71 6 rfl).1)
              refine r_callVi C oCl12 rfl miX12_number mlX12_244 (ct6_X12_number l E (u213) k0 k9999 (g) ((t.1 71 2).toInt) ((t.1 71 4).toInt) (0) (9999) (by omega) (oqZ_fr fu213 rfl iv9) (by omega) (by omega)) (by decide) rfl rfl rfl (Nat.le_of_ble_eq_true rfl) (oDec_at oX12_onePart 96 rfl) (fun r229 u228 pu228 fu228 => ?_)
              try dsimp only at pu228
              try simp only [lk223, lk224, lk225, lk226, lk227] at pu228
              obtain ⟨pu228_0, pu228_1, pu228_2, pu228_3⟩ := pu228
              have rr229 := n_rng r229
              have lk230 : ((u228).1 71 48).toInt = (t.1 71 48).toInt := congrArg Int32.toInt (((fu228 71 48 rfl).1).trans ((fu213 71 48 rfl).1))
              have lk231 : ((u228).1 71 47).toInt = (t.1 71 47).toInt := congrArg Int32.toInt (((fu228 71 47 rfl).1).trans ((fu213 71 47 rfl).1))
              have hq232 : oqJ g fp fq cz kx b 3 (u228) := (by by_cases h9 : ((u228).1 71 5).toInt = 0; (have h8 := pu228_1 h9; exact oqJ_go hq219 (by omega) h9 (oFr_row fu228 (c := 103) rfl rfl) (congrArg Int32.toInt (fu228 71 47 rfl).1) (oqp_num (g := g) (p := fp) (q := fq) (a := (t.1 71 2).toInt) (b := (t.1 71 4).toInt) (o := (t.1 71 48).toInt) (by omega) (by omega) (by omega) (by omega)) (by first | omega | (rw [show ((u213).1 71 2).toInt = (t.1 71 2).toInt by omega]; omega)) (by first | omega | (congr 1; omega)) (by first | omega | (congr 1; omega)) (by first | omega | (congr 1; omega)) (by first | omega | (congr 1; omega)) (by first | omega | (congr 1; omega))); (have h8 := pu228_2 h9; exact oqJ_flt hq219 (by omega) h9 (oqp_numF (g := g) (p := fp) (q := fq) (a := (t.1 71 2).toInt) (b := (t.1 71 4).toInt) (o := (t.1 71 48).toInt) (by omega) (by omega) (by omega) (by omega)) (by first | omega | (rw [show ((u213).1 71 2).toInt = (t.1 71 2).toInt by omega]; omega)) (by first | omega | (congr 1; omega)) (by first | omega | (congr 1; omega)) (by first | omega | (congr 1; omega)) (by first | omega | (congr 1; omega))))
              obtain ⟨v233, ev233⟩ : ∃ z : Int32, z = k1000 + r229 := ⟨_, rfl⟩
              have hv233 : v233.toInt = k1000.toInt + r229.toInt := n_add ev233 (by omega) (by omega)
              refine r_iadd C v233 (oDec_at oX12_onePart 97 rfl) ev233 ?_
              refine r_pc C 195 rfl ?_
              have lk234 : ((u228).1 71 45).toInt = (t.1 71 45).toInt := congrArg Int32.toInt (((fu228 71 45 rfl).1).trans ((fu213 71 45 rfl).1))
              have lk235 : ((u228).1 71 45).toInt = (t.1 71 45).toInt := congrArg Int32.toInt (((fu228 71 45 rfl).1).trans ((fu213 71 45 rfl).1))
              have lk236 : ((u228).1 71 45).toInt = (t.1 71 45).toInt := congrArg Int32.toInt (((fu228 71 45 rfl).1).trans ((fu213 71 45 rfl).1))
              refine r_callVv C oCl12 rfl miX12_lay mlX12_280 (ct_X12_lay l E (u228) v233 (by omega)) (by decide) rfl rfl rfl (Nat.le_of_ble_eq_true rfl) (oDec_at oX12_onePart 98 rfl) (fun u237 pu237 fu237 => ?_)
              try dsimp only at pu237
              try simp only [lk235, lk236] at pu237
              obtain ⟨pu237_0, pu237_1⟩ := pu237
              have hq239 : oQ b (x + 1) (u237) := oQ_opnd (oQ_frb fu228 rfl (by omega) (oQ_fr fu213 rfl iv0)) pu237_0 (by omega) (by omega)
              have lk240 : ((u237).1 71 48).toInt = (t.1 71 48).toInt := congrArg Int32.toInt (((fu237 71 48 rfl).1).trans (((fu228 71 48 rfl).1).trans ((fu213 71 48 rfl).1)))
              have lk241 : ((u237).1 71 2).toInt = (u228.1 71 2).toInt := congrArg Int32.toInt ((fu237 71 2 rfl).1)
              have lk242 : ((u237).1 71 47).toInt = (t.1 71 47).toInt := congrArg Int32.toInt (((fu237 71 47 rfl).1).trans (((fu228 71 47 rfl).1).trans ((fu213 71 47 rfl).1)))
              have lk243 : ((u237).1 71 5).toInt = (u228.1 71 5).toInt := congrArg Int32.toInt ((fu237 71 5 rfl).1)
              have lk244 : ((u237).1 71 2).toInt = (u228.1 71 2).toInt := congrArg Int32.toInt ((fu237 71 2 rfl).1)
              have lk245 : ((u237).1 71 47).toInt = (t.1 71 47).toInt := congrArg Int32.toInt (((fu237 71 47 rfl).1).trans (((fu228 71 47 rfl).1).trans ((fu213 71 47 rfl).1)))
              have lk246 : ((u237).1 71 2).toInt = (u228.1 71 2).toInt := congrArg Int32.toInt ((fu237 71 2 rfl).1)
              have lk247 : ((u237).1 71 5).toInt = (u228.1 71 5).toInt := congrArg Int32.toInt ((fu237 71 5 rfl).1)
              have lk248 : ((u237).1 71 6).toInt = (u228.1 71 6).toInt := congrArg Int32.toInt ((fu237 71 6 rfl).1)
              exact r_vret C (oDec_at oX12_onePart 99 rfl) ⟨rfl, ⟨hq239, by omega, by omega, by omega, by omega, (oqJ_fr fu237 rfl hq232), by omega⟩⟩
            · skip
              replace pu213_0 := pu213_0.resolve_left (by omega)
              have lk249 : ((u213).1 71 5).toInt = v207.toInt := congrArg Int32.toInt (((fu213 71 5 rfl).1).trans (ev207))
              have lk250 : ((u213).1 71 48).toInt = (t.1 71 48).toInt := congrArg Int32.toInt ((fu213 71 48 rfl).1)
              have lk251 : ((u213).1 71 47).toInt = (t.1 71 47).toInt := congrArg Int32.toInt ((fu213 71 47 rfl).1)
              have hq252 : oqJ g fp fq cz kx b 3 (u213) := oqJ_go iv5 (by omega) (by omega) (oFr_row fu213 (c := 103) rfl rfl) (congrArg Int32.toInt (fu213 71 47 rfl).1) (oqp_wd (g := g) (p := fp) (q := fq) (a := (t.1 71 2).toInt) (b := (t.1 71 4).toInt) (o := (t.1 71 48).toInt) (j := (oqWi g (t.1 71 2).toInt (t.1 71 4).toInt).toNat) (by omega) (by omega) (by omega) (by omega)) (by first | omega | (congr 1; omega)) rfl rfl (by first | omega | (congr 1; omega)) (by first | omega | (congr 1; omega)) ((congrArg Int32.toInt (fu213 71 48 rfl).1)).symm
              refine r_iload_n C (j := 1) (oDec_at oX12_onePart 90 rfl) rfl rfl ?_
              refine r_goto C (tgt := 195) (oDec_at oX12_onePart 91 rfl) (by decide) ?_
              have lk253 : ((u213).1 71 45).toInt = (t.1 71 45).toInt := congrArg Int32.toInt ((fu213 71 45 rfl).1)
              have lk254 : ((u213).1 71 45).toInt = (t.1 71 45).toInt := congrArg Int32.toInt ((fu213 71 45 rfl).1)
              have lk255 : ((u213).1 71 45).toInt = (t.1 71 45).toInt := congrArg Int32.toInt ((fu213 71 45 rfl).1)
              refine r_callVv C oCl12 rfl miX12_lay mlX12_280 (ct_X12_lay l E (u213) r214 (by omega)) (by decide) rfl rfl rfl (Nat.le_of_ble_eq_true rfl) (oDec_at oX12_onePart 98 rfl) (fun u256 pu256 fu256 => ?_)
              try dsimp only at pu256
              try simp only [lk254, lk255] at pu256
              obtain ⟨pu256_0, pu256_1⟩ := pu256
              have hq258 : oQ b (x + 1) (u256) := oQ_opnd (oQ_fr fu213 rfl iv0) pu256_0 (by omega) (by omega)
              have lk259 : ((u256).1 71 48).toInt = (t.1 71 48).toInt := congrArg Int32.toInt (((fu256 71 48 rfl).1).trans ((fu213 71 48 rfl).1))
              have lk260 : ((u256).1 71 2).toInt = (u213.1 71 2).toInt := congrArg Int32.toInt ((fu256 71 2 rfl).1)
              have lk261 : ((u256).1 71 47).toInt = (t.1 71 47).toInt := congrArg Int32.toInt (((fu256 71 47 rfl).1).trans ((fu213 71 47 rfl).1))
              have lk262 : ((u256).1 71 5).toInt = v207.toInt := congrArg Int32.toInt (((fu256 71 5 rfl).1).trans (((fu213 71 5 rfl).1).trans (ev207)))
              have lk263 : ((u256).1 71 2).toInt = (u213.1 71 2).toInt := congrArg Int32.toInt ((fu256 71 2 rfl).1)
              have lk264 : ((u256).1 71 47).toInt = (t.1 71 47).toInt := congrArg Int32.toInt (((fu256 71 47 rfl).1).trans ((fu213 71 47 rfl).1))
              have lk265 : ((u256).1 71 2).toInt = (u213.1 71 2).toInt := congrArg Int32.toInt ((fu256 71 2 rfl).1)
              have lk266 : ((u256).1 71 5).toInt = v207.toInt := congrArg Int32.toInt (((fu256 71 5 rfl).1).trans (((fu213 71 5 rfl).1).trans (ev207)))
              have lk267 : ((u256).1 71 6).toInt = (t.1 71 6).toInt := congrArg Int32.toInt (((fu256 71 6 rfl).1).trans ((fu213 71 6 rfl).1))
              exact r_vret C (oDec_at oX12_onePart 99 rfl) ⟨rfl, ⟨hq258, by omega, by omega, by omega, by omega, (oqJ_fr fu256 rfl hq252), by omega⟩⟩
          · skip
            refine r_aload_n C (j := 0) (oDec_at oX12_onePart 80 rfl) rfl rfl ?_
            have lk268 : ((t).1 71 5).toInt = v207.toInt := congrArg Int32.toInt (ev207)
            refine r_callVi C oCl12 rfl miX12_mottoPart mlX12_298 (ct5_X12_mottoPart l E (t)  (g) ((t.1 71 2).toInt) ((t.1 71 4).toInt) (by omega) (by omega) iv9 (by omega) iv10 (by omega)) (by decide) rfl rfl rfl (Nat.le_of_ble_eq_true rfl) (oDec_at oX12_onePart 81 rfl) (fun r270 u269 pu269 fu269 => ?_)
            try dsimp only at pu269
            try simp only [lk268] at pu269
            obtain ⟨pu269_0, pu269_1, pu269_2, pu269_3⟩ := pu269
            have rr270 := n_rng r270
            refine r_goto C (tgt := 172) (oDec_at oX12_onePart 82 rfl) (by decide) ?_
            refine r_istore_n C (lv' := [(0, .ref (oad E 71)), (2, .int r270)]) [1, 0] (oDec_at oX12_onePart 85 rfl) rfl (by decide) rfl ?_
            refine r_aload_n C (j := 0) (oDec_at oX12_onePart 86 rfl) rfl rfl ?_
            refine r_iload_n C (j := 1) (oDec_at oX12_onePart 87 rfl) rfl rfl ?_
            refine r_iconst C (oDec_at oX12_onePart 88 rfl) (v := km1) (by rw [qkm1]; rfl) ?_
            refine r_pc C 176 rfl ?_
            refine r_icmp_eq C 183 (oDec_at oX12_onePart 89 rfl) (by decide) (fun cd271 => ?_) (fun cd271 => ?_)
            · skip
              have lk272 : ((u269).1 71 5).toInt = v207.toInt := congrArg Int32.toInt (((fu269 71 5 rfl).1).trans (ev207))
              have lk273 : ((u269).1 71 48).toInt = (t.1 71 48).toInt := congrArg Int32.toInt ((fu269 71 48 rfl).1)
              have lk274 : ((u269).1 71 47).toInt = (t.1 71 47).toInt := congrArg Int32.toInt ((fu269 71 47 rfl).1)
              have hq275 : oqJ g fp fq cz kx b 1 (u269) := oqJ_id iv5 (oFr_row fu269 (c := 103) rfl rfl) (congrArg Int32.toInt (fu269 71 5 rfl).1) (congrArg Int32.toInt (fu269 71 47 rfl).1) (by rw [show ((u269).1 71 2).toInt = (t.1 71 2).toInt by omega]) (by omega) (congrArg Int32.toInt (fu269 71 48 rfl).1) (congrArg Int32.toInt (fu269 71 6 rfl).1)
              refine r_sipush C (oDec_at oX12_onePart 92 rfl) (v := k1000) (by rw [qk1000]; rfl) ?_
              refine r_aload_n C (j := 0) (oDec_at oX12_onePart 93 rfl) rfl rfl ?_
              refine r_iconst C (oDec_at oX12_onePart 94 rfl) (v := k0) (by rw [qk0]; rfl) ?_
              refine r_sipush C (oDec_at oX12_onePart 95 rfl) (v := k9999) (by rw [qk9999]; rfl) ?_
              have lk276 : ((u269).1 71 5).toInt = v207.toInt := congrArg Int32.toInt (((fu269 71 5 rfl).1).trans (ev207))
              have lk277 : ((u269).1 71 48).toInt = (t.1 71 48).toInt := congrArg Int32.toInt ((fu269 71 48 rfl).1)
              have lk278 : ((u269).1 71 47).toInt = (t.1 71 47).toInt := congrArg Int32.toInt ((fu269 71 47 rfl).1)
              have lk279 : ((u269).1 71 5).toInt = v207.toInt := congrArg Int32.toInt (((fu269 71 5 rfl).1).trans (ev207))
              have lk280 : ((u269).1 71 5).toInt = v207.toInt := congrArg Int32.toInt (((fu269 71 5 rfl).1).trans (ev207))
              have lk281 : ((u269).1 71 6).toInt = (t.1 71 6).toInt := congrArg Int32.toInt ((fu269 71 6 rfl).1)
              have lk282 : ((u269).1 71 5).toInt = v207.toInt := congrArg Int32.toInt (((fu269 71 5 rfl).1).trans (ev207))
              have lk283 : ((u269).1 71 6).toInt = (t.1 71 6).toInt := congrArg Int32.toInt ((fu269 71 6 rfl).1)
              refine r_callVi C oCl12 rfl miX12_number mlX12_244 (ct6_X12_number l E (u269) k0 k9999 (g) ((t.1 71 2).toInt) ((t.1 71 4).toInt) (0) (9999) (by omega) (oqZ_fr fu269 rfl iv9) (by omega) (by omega)) (by decide) rfl rfl rfl (Nat.le_of_ble_eq_true rfl) (oDec_at oX12_onePart 96 rfl) (fun r285 u284 pu284 fu284 => ?_)
              try dsimp only at pu284
              try simp only [lk279, lk280, lk281, lk282, lk283] at pu284
              obtain ⟨pu284_0, pu284_1, pu284_2, pu284_3⟩ := pu284
              have rr285 := n_rng r285
              have lk286 : ((u284).1 71 48).toInt = (t.1 71 48).toInt := congrArg Int32.toInt (((fu284 71 48 rfl).1).trans ((fu269 71 48 rfl).1))
              have lk287 : ((u284).1 71 47).toInt = (t.1 71 47).toInt := congrArg Int32.toInt (((fu284 71 47 rfl).1).trans ((fu269 71 47 rfl).1))
              have hq288 : oqJ g fp fq cz kx b 3 (u284) := (by by_cases h9 : ((u284).1 71 5).toInt = 0; (have h8 := pu284_1 h9; exact oqJ_go hq275 (by omega) h9 (oFr_row fu284 (c := 103) rfl rfl) (congrArg Int32.toInt (fu284 71 47 rfl).1) (oqp_num (g := g) (p := fp) (q := fq) (a := (t.1 71 2).toInt) (b := (t.1 71 4).toInt) (o := (t.1 71 48).toInt) (by omega) (by omega) (by omega) (by omega)) (by first | omega | (rw [show ((u269).1 71 2).toInt = (t.1 71 2).toInt by omega]; omega)) (by first | omega | (congr 1; omega)) (by first | omega | (congr 1; omega)) (by first | omega | (congr 1; omega)) (by first | omega | (congr 1; omega)) (by first | omega | (congr 1; omega))); (have h8 := pu284_2 h9; exact oqJ_flt hq275 (by omega) h9 (oqp_numF (g := g) (p := fp) (q := fq) (a := (t.1 71 2).toInt) (b := (t.1 71 4).toInt) (o := (t.1 71 48).toInt) (by omega) (by omega) (by omega) (by omega)) (by first | omega | (rw [show ((u269).1 71 2).toInt = (t.1 71 2).toInt by omega]; omega)) (by first | omega | (congr 1; omega)) (by first | omega | (congr 1; omega)) (by first | omega | (congr 1; omega)) (by first | omega | (congr 1; omega))))
              obtain ⟨v289, ev289⟩ : ∃ z : Int32, z = k1000 + r285 := ⟨_, rfl⟩
              have hv289 : v289.toInt = k1000.toInt + r285.toInt := n_add ev289 (by omega) (by omega)
              refine r_iadd C v289 (oDec_at oX12_onePart 97 rfl) ev289 ?_
              refine r_pc C 195 rfl ?_
              have lk290 : ((u284).1 71 45).toInt = (t.1 71 45).toInt := congrArg Int32.toInt (((fu284 71 45 rfl).1).trans ((fu269 71 45 rfl).1))
              have lk291 : ((u284).1 71 45).toInt = (t.1 71 45).toInt := congrArg Int32.toInt (((fu284 71 45 rfl).1).trans ((fu269 71 45 rfl).1))
              have lk292 : ((u284).1 71 45).toInt = (t.1 71 45).toInt := congrArg Int32.toInt (((fu284 71 45 rfl).1).trans ((fu269 71 45 rfl).1))
              refine r_callVv C oCl12 rfl miX12_lay mlX12_280 (ct_X12_lay l E (u284) v289 (by omega)) (by decide) rfl rfl rfl (Nat.le_of_ble_eq_true rfl) (oDec_at oX12_onePart 98 rfl) (fun u293 pu293 fu293 => ?_)
              try dsimp only at pu293
              try simp only [lk291, lk292] at pu293
              obtain ⟨pu293_0, pu293_1⟩ := pu293
              have hq295 : oQ b (x + 1) (u293) := oQ_opnd (oQ_frb fu284 rfl (by omega) (oQ_fr fu269 rfl iv0)) pu293_0 (by omega) (by omega)
              have lk296 : ((u293).1 71 48).toInt = (t.1 71 48).toInt := congrArg Int32.toInt (((fu293 71 48 rfl).1).trans (((fu284 71 48 rfl).1).trans ((fu269 71 48 rfl).1)))
              have lk297 : ((u293).1 71 2).toInt = (u284.1 71 2).toInt := congrArg Int32.toInt ((fu293 71 2 rfl).1)
              have lk298 : ((u293).1 71 47).toInt = (t.1 71 47).toInt := congrArg Int32.toInt (((fu293 71 47 rfl).1).trans (((fu284 71 47 rfl).1).trans ((fu269 71 47 rfl).1)))
              have lk299 : ((u293).1 71 5).toInt = (u284.1 71 5).toInt := congrArg Int32.toInt ((fu293 71 5 rfl).1)
              have lk300 : ((u293).1 71 2).toInt = (u284.1 71 2).toInt := congrArg Int32.toInt ((fu293 71 2 rfl).1)
              have lk301 : ((u293).1 71 47).toInt = (t.1 71 47).toInt := congrArg Int32.toInt (((fu293 71 47 rfl).1).trans (((fu284 71 47 rfl).1).trans ((fu269 71 47 rfl).1)))
              have lk302 : ((u293).1 71 2).toInt = (u284.1 71 2).toInt := congrArg Int32.toInt ((fu293 71 2 rfl).1)
              have lk303 : ((u293).1 71 5).toInt = (u284.1 71 5).toInt := congrArg Int32.toInt ((fu293 71 5 rfl).1)
              have lk304 : ((u293).1 71 6).toInt = (u284.1 71 6).toInt := congrArg Int32.toInt ((fu293 71 6 rfl).1)
              exact r_vret C (oDec_at oX12_onePart 99 rfl) ⟨rfl, ⟨hq295, by omega, by omega, by omega, by omega, (oqJ_fr fu293 rfl hq288), by omega⟩⟩
            · skip
              replace pu269_0 := pu269_0.resolve_left (by omega)
              have lk305 : ((u269).1 71 5).toInt = v207.toInt := congrArg Int32.toInt (((fu269 71 5 rfl).1).trans (ev207))
              have lk306 : ((u269).1 71 48).toInt = (t.1 71 48).toInt := congrArg Int32.toInt ((fu269 71 48 rfl).1)
              have lk307 : ((u269).1 71 47).toInt = (t.1 71 47).toInt := congrArg Int32.toInt ((fu269 71 47 rfl).1)
              have hq308 : oqJ g fp fq cz kx b 3 (u269) := oqJ_go iv5 (by omega) (by omega) (oFr_row fu269 (c := 103) rfl rfl) (congrArg Int32.toInt (fu269 71 47 rfl).1) (oqp_wd (g := g) (p := fp) (q := fq) (a := (t.1 71 2).toInt) (b := (t.1 71 4).toInt) (o := (t.1 71 48).toInt) (j := (oqWi g (t.1 71 2).toInt (t.1 71 4).toInt).toNat) (by omega) (by omega) (by omega) (by omega)) (by first | omega | (congr 1; omega)) rfl rfl (by first | omega | (congr 1; omega)) (by first | omega | (congr 1; omega)) ((congrArg Int32.toInt (fu269 71 48 rfl).1)).symm
              refine r_iload_n C (j := 1) (oDec_at oX12_onePart 90 rfl) rfl rfl ?_
              refine r_goto C (tgt := 195) (oDec_at oX12_onePart 91 rfl) (by decide) ?_
              have lk309 : ((u269).1 71 45).toInt = (t.1 71 45).toInt := congrArg Int32.toInt ((fu269 71 45 rfl).1)
              have lk310 : ((u269).1 71 45).toInt = (t.1 71 45).toInt := congrArg Int32.toInt ((fu269 71 45 rfl).1)
              have lk311 : ((u269).1 71 45).toInt = (t.1 71 45).toInt := congrArg Int32.toInt ((fu269 71 45 rfl).1)
              refine r_callVv C oCl12 rfl miX12_lay mlX12_280 (ct_X12_lay l E (u269) r270 (by omega)) (by decide) rfl rfl rfl (Nat.le_of_ble_eq_true rfl) (oDec_at oX12_onePart 98 rfl) (fun u312 pu312 fu312 => ?_)
              try dsimp only at pu312
              try simp only [lk310, lk311] at pu312
              obtain ⟨pu312_0, pu312_1⟩ := pu312
              have hq314 : oQ b (x + 1) (u312) := oQ_opnd (oQ_fr fu269 rfl iv0) pu312_0 (by omega) (by omega)
              have lk315 : ((u312).1 71 48).toInt = (t.1 71 48).toInt := congrArg Int32.toInt (((fu312 71 48 rfl).1).trans ((fu269 71 48 rfl).1))
              have lk316 : ((u312).1 71 2).toInt = (u269.1 71 2).toInt := congrArg Int32.toInt ((fu312 71 2 rfl).1)
              have lk317 : ((u312).1 71 47).toInt = (t.1 71 47).toInt := congrArg Int32.toInt (((fu312 71 47 rfl).1).trans ((fu269 71 47 rfl).1))
              have lk318 : ((u312).1 71 5).toInt = v207.toInt := congrArg Int32.toInt (((fu312 71 5 rfl).1).trans (((fu269 71 5 rfl).1).trans (ev207)))
              have lk319 : ((u312).1 71 2).toInt = (u269.1 71 2).toInt := congrArg Int32.toInt ((fu312 71 2 rfl).1)
              have lk320 : ((u312).1 71 47).toInt = (t.1 71 47).toInt := congrArg Int32.toInt (((fu312 71 47 rfl).1).trans ((fu269 71 47 rfl).1))
              have lk321 : ((u312).1 71 2).toInt = (u269.1 71 2).toInt := congrArg Int32.toInt ((fu312 71 2 rfl).1)
              have lk322 : ((u312).1 71 5).toInt = v207.toInt := congrArg Int32.toInt (((fu312 71 5 rfl).1).trans (((fu269 71 5 rfl).1).trans (ev207)))
              have lk323 : ((u312).1 71 6).toInt = (t.1 71 6).toInt := congrArg Int32.toInt (((fu312 71 6 rfl).1).trans ((fu269 71 6 rfl).1))
              exact r_vret C (oDec_at oX12_onePart 99 rfl) ⟨rfl, ⟨hq314, by omega, by omega, by omega, by omega, (oqJ_fr fu312 rfl hq308), by omega⟩⟩
        · skip
          have lk324 : ((t).1 71 5).toInt = v207.toInt := congrArg Int32.toInt (ev207)
          have hq325 : oQ b (x + 1) (t) := oQ_bad iv0 (by omega)
          have hq326 : oqJ g fp fq cz kx b 3 (t) := oqJ_kp iv5 (by omega) rfl rfl
          have lk327 : ((t).1 71 5).toInt = v207.toInt := congrArg Int32.toInt (ev207)
          have lk328 : ((t).1 71 5).toInt = v207.toInt := congrArg Int32.toInt (ev207)
          exact r_vret C (oDec_at oX12_onePart 76 rfl) ⟨rfl, ⟨hq325, by omega, by omega, by omega, by omega, hq326, by omega⟩⟩
  refine r_iconst C (oDec_at oX12_onePart 0 rfl) (v := k1) (by rw [qk1]; rfl) ?_
  refine r_istore_n C (lv' := [(0, .ref (oad E 71)), (1, .int k1)]) [1, 0] (oDec_at oX12_onePart 1 rfl) rfl (by decide) rfl ?_
  have hj := oB1_f ((s).1 71 5)
  exact (key (1000 * (1602 - ((s).1 71 2).toInt) + 10 * k1.toInt + 500 * oB1 ((s).1 71 5)).toNat).1 (s) k1  hp0 (by omega) (by omega) (by omega) (by omega) (by omega) hp5 (by omega) (by omega) (by omega) hp7 hp8 (by omega)
