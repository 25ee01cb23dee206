set_option maxHeartbeats 4000000 in
set_option maxRecDepth 100000 in
theorem ct9_X12_goesOn (l : Launch) (E : oE) (s : oS)  (b : Nat) (x : Nat) (g : Int → Int) (fp : Int) (fq : Int) (cz : oqCf) (kx : Nat) (cw : oqCw) (xw : Int) (cs : Nat) (Cq : Nat → Int32) (hp0 : oQ b (x + 1) s) (hp1 : (s.1 71 55).toInt = (b : Int)) (hp2 : (b : Int) ≤ 1700) (hp3 : (s.1 71 5).toInt = 0) (hp4 : 0 ≤ (s.1 71 48).toInt ∧ (s.1 71 48).toInt ≤ 6) (hp5 : (s.1 71 45).toInt + (s.1 71 47).toInt + 5 ≤ (s.1 71 2).toInt) (hp6 : oqJ g fp fq cz kx b 3 s) (hp7 : oqZ g s) (hp8 : oqBP s) (hp9 : oqJw g fp fq cw xw b cs 3 s) (hp10 : 30 ≤ xw ∧ xw ≤ 33) (hp11 : owC0 Cq s) : oMet l 4 yX12_goesOn cX12_goesOn 2 (some .boolean) [(12, 2), (12, 5), (12, 6), (12, 45), (12, 47), (12, 48), (78, 9999), (79, 9999)] E s [.ref (oad E 71)] (oPi (fun r u => (0 ≤ r.toInt ∧ r.toInt ≤ 1) ∧ (r.toInt = 1 → oQ b x u) ∧ (r.toInt = 0 → (oQ b (x + 1) u ∧ oMn u)) ∧ (0 ≤ (u.1 71 48).toInt ∧ (u.1 71 48).toInt ≤ 6) ∧ ((s.1 71 2).toInt - (s.1 71 45).toInt - (s.1 71 47).toInt ≤ (u.1 71 2).toInt - (u.1 71 45).toInt - (u.1 71 47).toInt) ∧ ((s.1 71 2).toInt ≤ (u.1 71 2).toInt) ∧ (r.toInt = 1 → oqJ g fp fq cz kx b 1 u) ∧ (r.toInt = 0 → oqJ g fp fq cz kx b 3 u) ∧ (r.toInt = 0 → oqGe g u) ∧ (oqBP u) ∧ (r.toInt = 1 → oqJw g fp fq cw xw b cs 1 u) ∧ (r.toInt = 0 → oqJw g fp fq cw xw b cs 3 u) ∧ (owC0 Cq u))) := by
  refine oMet.of (lv := [(0, .ref (oad E 71))]) (by decide +kernel) (Nat.le_of_ble_eq_true rfl) rfl (fun J C hT => ?_)
  have C : oC l 4 cX12_goesOn RX12 2 (some .boolean) [(12, 2), (12, 5), (12, 6), (12, 45), (12, 47), (12, 48), (78, 9999), (79, 9999)] E s (oPi (fun r u => (0 ≤ r.toInt ∧ r.toInt ≤ 1) ∧ (r.toInt = 1 → oQ b x u) ∧ (r.toInt = 0 → (oQ b (x + 1) u ∧ oMn u)) ∧ (0 ≤ (u.1 71 48).toInt ∧ (u.1 71 48).toInt ≤ 6) ∧ ((s.1 71 2).toInt - (s.1 71 45).toInt - (s.1 71 47).toInt ≤ (u.1 71 2).toInt - (u.1 71 45).toInt - (u.1 71 47).toInt) ∧ ((s.1 71 2).toInt ≤ (u.1 71 2).toInt) ∧ (r.toInt = 1 → oqJ g fp fq cz kx b 1 u) ∧ (r.toInt = 0 → oqJ g fp fq cz kx b 3 u) ∧ (r.toInt = 0 → oqGe g u) ∧ (oqBP u) ∧ (r.toInt = 1 → oqJw g fp fq cw xw b cs 1 u) ∧ (r.toInt = 0 → oqJw g fp fq cw xw b cs 3 u) ∧ (owC0 Cq u))) J := C
  obtain ⟨km1, qkm1⟩ : ∃ z : Int32, z = (-1) := ⟨_, rfl⟩
  have ekm1 : km1.toInt = (-1) := by rw [qkm1]; rfl
  obtain ⟨k0, qk0⟩ : ∃ z : Int32, z = 0 := ⟨_, rfl⟩
  have ek0 : k0.toInt = 0 := by rw [qk0]; rfl
  obtain ⟨k1, qk1⟩ : ∃ z : Int32, z = 1 := ⟨_, rfl⟩
  have ek1 : k1.toInt = 1 := by rw [qk1]; rfl
  obtain ⟨k2, qk2⟩ : ∃ z : Int32, z = 2 := ⟨_, rfl⟩
  have ek2 : k2.toInt = 2 := by rw [qk2]; rfl
  obtain ⟨k3, qk3⟩ : ∃ z : Int32, z = 3 := ⟨_, rfl⟩
  have ek3 : k3.toInt = 3 := by rw [qk3]; rfl
  obtain ⟨k4, qk4⟩ : ∃ z : Int32, z = 4 := ⟨_, rfl⟩
  have ek4 : k4.toInt = 4 := by rw [qk4]; rfl
  obtain ⟨k5, qk5⟩ : ∃ z : Int32, z = 5 := ⟨_, rfl⟩
  have ek5 : k5.toInt = 5 := by rw [qk5]; rfl
  obtain ⟨k6, qk6⟩ : ∃ z : Int32, z = 6 := ⟨_, rfl⟩
  have ek6 : k6.toInt = 6 := by rw [qk6]; rfl
  obtain ⟨k20, qk20⟩ : ∃ z : Int32, z = 20 := ⟨_, rfl⟩
  have ek20 : k20.toInt = 20 := by rw [qk20]; rfl
  obtain ⟨k21, qk21⟩ : ∃ z : Int32, z = 21 := ⟨_, rfl⟩
  have ek21 : k21.toInt = 21 := by rw [qk21]; rfl
  obtain ⟨k22, qk22⟩ : ∃ z : Int32, z = 22 := ⟨_, rfl⟩
  have ek22 : k22.toInt = 22 := by rw [qk22]; rfl
  obtain ⟨k23, qk23⟩ : ∃ z : Int32, z = 23 := ⟨_, rfl⟩
  have ek23 : k23.toInt = 23 := by rw [qk23]; rfl
  obtain ⟨k24, qk24⟩ : ∃ z : Int32, z = 24 := ⟨_, rfl⟩
  have ek24 : k24.toInt = 24 := by rw [qk24]; rfl
  obtain ⟨k41, qk41⟩ : ∃ z : Int32, z = 41 := ⟨_, rfl⟩
  have ek41 : k41.toInt = 41 := by rw [qk41]; rfl
  obtain ⟨k42, qk42⟩ : ∃ z : Int32, z = 42 := ⟨_, rfl⟩
  have ek42 : k42.toInt = 42 := by rw [qk42]; rfl
  obtain ⟨k43, qk43⟩ : ∃ z : Int32, z = 43 := ⟨_, rfl⟩
  have ek43 : k43.toInt = 43 := by rw [qk43]; rfl
  obtain ⟨k44, qk44⟩ : ∃ z : Int32, z = 44 := ⟨_, rfl⟩
  have ek44 : k44.toInt = 44 := by rw [qk44]; rfl
  obtain ⟨k45, qk45⟩ : ∃ z : Int32, z = 45 := ⟨_, rfl⟩
  have ek45 : k45.toInt = 45 := by rw [qk45]; rfl
  obtain ⟨k47, qk47⟩ : ∃ z : Int32, z = 47 := ⟨_, rfl⟩
  have ek47 : k47.toInt = 47 := by rw [qk47]; rfl
  have key : ∀ n : Nat, (∀ (t : oS), (oQ b (x + 1) t) → ((t.1 71 5).toInt = 0) → (0 ≤ (t.1 71 48).toInt ∧ (t.1 71 48).toInt ≤ 6) → ((s.1 71 2).toInt - (s.1 71 45).toInt - (s.1 71 47).toInt ≤ (t.1 71 2).toInt - (t.1 71 45).toInt - (t.1 71 47).toInt) → ((s.1 71 2).toInt ≤ (t.1 71 2).toInt) → ((t.1 71 55).toInt = (b : Int)) → (oqJ g fp fq cz kx b 3 t) → (oqZ g t) → (oqBP t) → (oqJw g fp fq cw xw b cs 3 t) → (owC0 Cq t) → 4000 * (1601 - (t.1 71 2).toInt) ≤ (n : Int) → J t 0 [(0, .ref (oad E 71))] []) ∧ (∀ (t : oS), (oQ b (x + 1) t) → ((t.1 71 5).toInt = 0) → (0 ≤ (t.1 71 48).toInt ∧ (t.1 71 48).toInt ≤ 6) → ((s.1 71 2).toInt - (s.1 71 45).toInt - (s.1 71 47).toInt ≤ (t.1 71 2).toInt - (t.1 71 45).toInt - (t.1 71 47).toInt) → ((s.1 71 2).toInt ≤ (t.1 71 2).toInt) → ((t.1 71 55).toInt = (b : Int)) → (oqJ g fp fq cz kx b 3 t) → (oqZ g t) → (oqSk g (t.1 71 2).toInt = (t.1 71 2).toInt) → (oqNc g b t) → (oqBP t) → (oqJw g fp fq cw xw b cs 3 t) → (owC0 Cq t) → 2000 ≤ (n : Int) → J t 118 [(0, .ref (oad E 71))] []) ∧ (∀ (t : oS) (x1 : Int32), (oQ b (x + 1) t) → ((t.1 71 5).toInt = 0) → (0 ≤ (t.1 71 48).toInt ∧ (t.1 71 48).toInt ≤ 6) → ((s.1 71 2).toInt - (s.1 71 45).toInt - (s.1 71 47).toInt + 1 ≤ (t.1 71 2).toInt - (t.1 71 45).toInt - (t.1 71 47).toInt) → ((s.1 71 2).toInt ≤ (t.1 71 2).toInt) → (3 ≤ x1.toInt ∧ x1.toInt ≤ 4) → (oqJ g fp fq cz kx b 1 t) → (oqBP t) → (oqOw g fp fq cw xw b cs t) → (x1.toInt = oqOc g ((t.1 71 2).toInt - 1) ∧ (g ((t.1 71 2).toInt - 1) = 42 ∨ g ((t.1 71 2).toInt - 1) = 47)) → (owC0 Cq t) → (t.1 71 47).toInt + 1 ≤ (n : Int) → J t 158 [(0, .ref (oad E 71)), (1, .int x1)] []) ∧ (∀ (t : oS) (x1 : Int32), (oQ b (x + 1) t) → ((t.1 71 5).toInt = 0) → (0 ≤ (t.1 71 48).toInt ∧ (t.1 71 48).toInt ≤ 6) → ((s.1 71 2).toInt - (s.1 71 45).toInt - (s.1 71 47).toInt + 1 ≤ (t.1 71 2).toInt - (t.1 71 45).toInt - (t.1 71 47).toInt) → ((s.1 71 2).toInt ≤ (t.1 71 2).toInt) → (1 ≤ x1.toInt ∧ x1.toInt ≤ 2) → (oqJ g fp fq cz kx b 1 t) → (oqBP t) → (oqOw g fp fq cw xw b cs t) → (x1.toInt = oqOc g ((t.1 71 2).toInt - 1) ∧ (g ((t.1 71 2).toInt - 1) = 43 ∨ g ((t.1 71 2).toInt - 1) = 45)) → (owC0 Cq t) → (t.1 71 47).toInt + 1 ≤ (n : Int) → J t 243 [(0, .ref (oad E 71)), (1, .int x1)] []) := by
    intro n
    induction n using Nat.strongRecOn with
    | _ n ih =>
      refine ⟨?_, ?_, ?_, ?_⟩
      · intro t   iv0 iv1 iv2 iv3 iv4 iv5 iv6 iv7 iv8 iv9 iv10 hmu
        refine r_ty C (fun hty => ?_)
        have hty_coded : (0 : Int) ≤ ((t).1 71 45).toInt ∧ ((t).1 71 45).toInt ≤ 1600 := hty.1 71 45
        have hty_waits : (0 : Int) ≤ ((t).1 71 47).toInt ∧ ((t).1 71 47).toInt ≤ 1700 := hty.1 71 47
        have hty_at : (0 : Int) ≤ ((t).1 71 2).toInt ∧ ((t).1 71 2).toInt ≤ 1600 := hty.1 71 2
        clear hty
        refine r_aload_n C (j := 0) (oDec_at oX12_goesOn 0 rfl) rfl rfl ?_
        obtain ⟨v1, ev1⟩ : ∃ z : Int32, (t).1 71 5 = z := ⟨_, rfl⟩
        have gv1 : (t.1 71 5).toInt = v1.toInt := congrArg Int32.toInt (ev1)
        have rv1 := n_rng v1
        refine r_geti (k := 5) (lo := (-2147483648)) (hi := 2147483647) C v1 oCl12 rfl (by decide) flX12_173 rfl rfl (ev1) rfl rfl (oDec_at oX12_goesOn 1 rfl) (fun _ _ => ?_)
        refine r_if_ne C 118 (oDec_at oX12_goesOn 2 rfl) (by decide) (fun cd2 => ?_) (fun cd2 => ?_)
        · skip
          have lk3 : ((t).1 71 5).toInt = v1.toInt := congrArg Int32.toInt (ev1)
          exact (ih (n - 1) (by omega)).2.1 (t)   iv0 (by omega) (by omega) (by omega) (by omega) (by omega) iv6 iv7 (by omega) (by first | exact oqNc_41 (by omega) | exact oqNc_mk iv0 (by omega) (by assumption) (by assumption) (by assumption) (by omega) (by omega) (by omega) (by omega) (by omega) (by omega) | (exfalso; omega)) iv8 iv9 iv10 (by omega)
        · skip
          refine r_aload_n C (j := 0) (oDec_at oX12_goesOn 3 rfl) rfl rfl ?_
          refine r_callVi C oCl12 rfl miX12_look mlX12_185 (ct4_X12_look l E (t)  (g) ((t.1 71 2).toInt) (by omega) iv7) (by decide) rfl rfl rfl (Nat.le_of_ble_eq_true rfl) (oDec_at oX12_goesOn 4 rfl) (fun r5 u4 pu4 fu4 => ?_)
          try dsimp only at pu4
          obtain ⟨pu4_0, pu4_1, pu4_2, pu4_3, pu4_4, pu4_5⟩ := pu4
          have rr5 := n_rng r5
          have hsk : oqSk g ((u4).1 71 2).toInt = ((u4).1 71 2).toInt := by rw [show ((u4).1 71 2).toInt = oqSk g (t.1 71 2).toInt by omega]; exact oqSk_sk pu4_3
          have hgA : g ((u4).1 71 2).toInt = r5.toInt := by rw [show ((u4).1 71 2).toInt = oqSk g (t.1 71 2).toInt by omega]; omega
          have hq6 : oqJ g fp fq cz kx b 3 (u4) := oqJ_id iv6 (oFr_row fu4 (c := 103) rfl rfl) (congrArg Int32.toInt (fu4 71 5 rfl).1) (congrArg Int32.toInt (fu4 71 47 rfl).1) (by rw [show ((u4).1 71 2).toInt = oqSk g (t.1 71 2).toInt by omega]; exact oqSk_sk pu4_3) (congrArg Int32.toInt (fu4 71 4 rfl).1) (congrArg Int32.toInt (fu4 71 48 rfl).1) (congrArg Int32.toInt (fu4 71 6 rfl).1)
          have hq7 : oqJw g fp fq cw xw b cs 3 (u4) := oqJw_id iv9 (oqSq_of fu4 rfl) (fun h9 => (congrArg Int32.toInt (fu4 71 5 rfl).1).symm.trans h9) (by rw [show ((u4).1 71 2).toInt = oqSk g (t.1 71 2).toInt by omega]; exact oqSk_sk pu4_3) (congrArg Int32.toInt (fu4 71 4 rfl).1)
          refine r_bipush C (oDec_at oX12_goesOn 5 rfl) (v := k41) (by rw [qk41]; rfl) ?_
          refine r_icmp_ne C 118 (oDec_at oX12_goesOn 6 rfl) (by decide) (fun cd8 => ?_) (fun cd8 => ?_)
          · skip
            have lk9 : ((u4).1 71 5).toInt = v1.toInt := congrArg Int32.toInt (((fu4 71 5 rfl).1).trans (ev1))
            have lk10 : ((u4).1 71 48).toInt = (t.1 71 48).toInt := congrArg Int32.toInt ((fu4 71 48 rfl).1)
            have lk11 : ((u4).1 71 45).toInt = (t.1 71 45).toInt := congrArg Int32.toInt ((fu4 71 45 rfl).1)
            have lk12 : ((u4).1 71 47).toInt = (t.1 71 47).toInt := congrArg Int32.toInt ((fu4 71 47 rfl).1)
            have lk13 : ((u4).1 71 55).toInt = (t.1 71 55).toInt := congrArg Int32.toInt ((fu4 71 55 rfl).1)
            exact (ih (n - 1) (by omega)).2.1 (u4)   (oQ_fr fu4 rfl iv0) (by omega) (by omega) (by omega) (by omega) (by omega) hq6 (oqZ_fr fu4 rfl iv7) (by omega) (by first | exact oqNc_41 (by omega) | exact oqNc_mk (oQ_fr fu4 rfl iv0) (by omega) (by assumption) (by assumption) (by assumption) (by omega) (by omega) (by omega) (by omega) (by omega) (by omega) | (exfalso; omega)) (oqBP_fr fu4 rfl iv8) hq7 (owC0_fr fu4 rfl iv10) (by omega)
          · skip
            refine r_aload_n C (j := 0) (oDec_at oX12_goesOn 7 rfl) rfl rfl ?_
            refine r_callVi C oCl12 rfl miX12_mark mlX12_304 (ct_X12_mark l E (u4)  ) (by decide) rfl rfl rfl (Nat.le_of_ble_eq_true rfl) (oDec_at oX12_goesOn 8 rfl) (fun r15 u14 pu14 fu14 => ?_)
            try dsimp only at pu14
            have hxu14 := oFr_nil fu14; subst hxu14
            have rr15 := n_rng r15
            have lk16 : ((u4).1 71 47).toInt = (t.1 71 47).toInt := congrArg Int32.toInt ((fu4 71 47 rfl).1)
            have lk17 : ((u4).1 71 55).toInt = (t.1 71 55).toInt := congrArg Int32.toInt ((fu4 71 55 rfl).1)
            have lk18 : ((u4).1 71 5).toInt = v1.toInt := congrArg Int32.toInt (((fu4 71 5 rfl).1).trans (ev1))
            refine r_bipush C (oDec_at oX12_goesOn 9 rfl) (v := k20) (by rw [qk20]; rfl) ?_
            refine r_icmp_eq C 43 (oDec_at oX12_goesOn 10 rfl) (by decide) (fun cd19 => ?_) (fun cd19 => ?_)
            · skip
              have lk20 : ((u4).1 71 4).toInt = (t.1 71 4).toInt := congrArg Int32.toInt ((fu4 71 4 rfl).1)
              have lk21 : ((u4).1 71 5).toInt = v1.toInt := congrArg Int32.toInt (((fu4 71 5 rfl).1).trans (ev1))
              have lk22 : ((u4).1 71 48).toInt = (t.1 71 48).toInt := congrArg Int32.toInt ((fu4 71 48 rfl).1)
              have lk23 : ((u4).1 71 47).toInt = (t.1 71 47).toInt := congrArg Int32.toInt ((fu4 71 47 rfl).1)
              have hq24 : oMk (r15.toInt) (u4) := pu14
              refine r_aload_n C (j := 0) (oDec_at oX12_goesOn 19 rfl) rfl rfl ?_
              refine r_dup C (oDec_at oX12_goesOn 20 rfl) rfl ?_
              obtain ⟨v25, ev25⟩ : ∃ z : Int32, (u4).1 71 2 = z := ⟨_, rfl⟩
              have gv25 : (u4.1 71 2).toInt = v25.toInt := congrArg Int32.toInt (ev25)
              refine r_geti (k := 2) (lo := 0) (hi := 1600) C v25 oCl12 rfl (by decide) flX12_179 rfl rfl (ev25) rfl rfl (oDec_at oX12_goesOn 21 rfl) (fun b26 b26h => ?_)
              refine r_iconst C (oDec_at oX12_goesOn 22 rfl) (v := k1) (by rw [qk1]; rfl) ?_
              obtain ⟨v27, ev27⟩ : ∃ z : Int32, z = v25 + k1 := ⟨_, rfl⟩
              have hv27 : v27.toInt = v25.toInt + k1.toInt := n_add ev27 (by omega) (by omega)
              refine r_iadd C v27 (oDec_at oX12_goesOn 23 rfl) ev27 ?_
              refine r_puti (k := 2) (lo := 0) (hi := 1600) C oCl12 rfl (by decide) flX12_179 rfl rfl rfl rfl rfl rfl rfl rfl ⟨by omega, by omega⟩ (oDec_at oX12_goesOn 24 rfl) ?_
              refine r_pc C 53 rfl ?_
              have lk28 : (((pI u4 71 2 v27)).1 71 2).toInt = v27.toInt := congrArg Int32.toInt ((pI_self _ _ _ _))
              have eat : (((pI u4 71 2 v27)).1 71 2).toInt - 1 = ((u4).1 71 2).toInt := by omega
              have hmu9 : ¬ oqMu g ((((pI u4 71 2 v27)).1 71 2).toInt - 1) := by rw [eat]; exact oqMu_no ⟨by omega, by omega⟩
              have hq29 : oqK b (oqSg ((u4).1 103) b (((u4).1 71 47).toNatClampNeg - b)) ((pI u4 71 2 v27)) := rfl
              have hq30 : oqOw g fp fq cw xw b cs ((pI u4 71 2 v27)) := oqOw_of hq7 oqSq_at (fun h9 => ⟨h9, by rw [hsk]; omega⟩) rfl
              refine r_aload_n C (j := 0) (oDec_at oX12_goesOn 25 rfl) rfl rfl ?_
              have lk31 : (((pI u4 71 2 v27)).1 71 55).toInt = (t.1 71 55).toInt := congrArg Int32.toInt (((pI_ne (a := 71) (b := 55) (c := 71) (k := 2) _ _ (Or.inr (by decide)))).trans ((fu4 71 55 rfl).1))
              have lk32 : (((pI u4 71 2 v27)).1 71 5).toInt = v1.toInt := congrArg Int32.toInt (((pI_ne (a := 71) (b := 5) (c := 71) (k := 2) _ _ (Or.inr (by decide)))).trans (((fu4 71 5 rfl).1).trans (ev1)))
              have lk33 : (((pI u4 71 2 v27)).1 71 45).toInt = (t.1 71 45).toInt := congrArg Int32.toInt (((pI_ne (a := 71) (b := 45) (c := 71) (k := 2) _ _ (Or.inr (by decide)))).trans ((fu4 71 45 rfl).1))
              have lk34 : (((pI u4 71 2 v27)).1 71 47).toInt = (t.1 71 47).toInt := congrArg Int32.toInt (((pI_ne (a := 71) (b := 47) (c := 71) (k := 2) _ _ (Or.inr (by decide)))).trans ((fu4 71 47 rfl).1))
              have lk35 : (((pI u4 71 2 v27)).1 71 2).toInt = v27.toInt := congrArg Int32.toInt ((pI_self _ _ _ _))
              have lk36 : (((pI u4 71 2 v27)).1 71 45).toInt = (t.1 71 45).toInt := congrArg Int32.toInt (((pI_ne (a := 71) (b := 45) (c := 71) (k := 2) _ _ (Or.inr (by decide)))).trans ((fu4 71 45 rfl).1))
              have lk37 : (((pI u4 71 2 v27)).1 71 47).toInt = (t.1 71 47).toInt := congrArg Int32.toInt (((pI_ne (a := 71) (b := 47) (c := 71) (k := 2) _ _ (Or.inr (by decide)))).trans ((fu4 71 47 rfl).1))
              have lk38 : (((pI u4 71 2 v27)).1 71 47).toInt = (t.1 71 47).toInt := congrArg Int32.toInt (((pI_ne (a := 71) (b := 47) (c := 71) (k := 2) _ _ (Or.inr (by decide)))).trans ((fu4 71 47 rfl).1))
              refine r_callVv C oCl12 rfl miX12_dropsToMark mlX12_307 (ct9_X12_dropsToMark l E ((pI u4 71 2 v27))  (b) (x + 1) (r15.toInt) (oqSg ((u4).1 103) b (((u4).1 71 47).toNatClampNeg - b)) (g) (fp) (fq) (cw) (xw) (cs) (Cq) (oQ_fr (oFr_oneI (q := 12) (m := 2) rfl (by rfl)) rfl (oQ_fr fu4 rfl iv0)) (oMk_fr (oFr_oneI (q := 12) (m := 2) rfl (by rfl)) rfl hq24) (by omega) (by omega) (by omega) (by omega) hq29 hq30 hmu9 (owC0_fr (oFr_oneI (q := 12) (m := 2) rfl (by rfl)) rfl (owC0_fr fu4 rfl iv10))) (by decide) rfl rfl rfl (Nat.le_of_ble_eq_true rfl) (oDec_at oX12_goesOn 26 rfl) (fun u39 pu39 fu39 => ?_)
              try dsimp only at pu39
              try simp only [lk31, lk32, lk33, lk34, lk35, lk36, lk37, lk38] at pu39
              obtain ⟨pu39_0, pu39_1, pu39_2, pu39_3, pu39_4, pu39_5, pu39_6⟩ := pu39
              have lk41 : ((u39).1 71 5).toInt = v1.toInt := congrArg Int32.toInt (((fu39 71 5 rfl).1).trans (((pI_ne (a := 71) (b := 5) (c := 71) (k := 2) _ _ (Or.inr (by decide)))).trans (((fu4 71 5 rfl).1).trans (ev1))))
              have lk42 : ((u39).1 71 48).toInt = (t.1 71 48).toInt := congrArg Int32.toInt (((fu39 71 48 rfl).1).trans (((pI_ne (a := 71) (b := 48) (c := 71) (k := 2) _ _ (Or.inr (by decide)))).trans ((fu4 71 48 rfl).1)))
              have lk43 : ((u39).1 71 2).toInt = v27.toInt := congrArg Int32.toInt (((fu39 71 2 rfl).1).trans ((pI_self _ _ _ _)))
              have lk44 : ((u39).1 71 4).toInt = (t.1 71 4).toInt := congrArg Int32.toInt (((fu39 71 4 rfl).1).trans (((pI_ne (a := 71) (b := 4) (c := 71) (k := 2) _ _ (Or.inr (by decide)))).trans ((fu4 71 4 rfl).1)))
              have htp := pu39_3 (by omega)
              have ho1 := oQ_opn1 pu39_0 (by omega) (by omega) (by omega)
              have hno9 : ¬ oqOp g (((u39).1 71 2).toInt - 1) := by rw [show ((u39).1 71 2).toInt - 1 = ((u4).1 71 2).toInt by omega]; exact oqOp_no ⟨by omega, by omega, by omega, by omega⟩
              refine r_aload_n C (j := 0) (oDec_at oX12_goesOn 27 rfl) rfl rfl ?_
              refine r_dup C (oDec_at oX12_goesOn 28 rfl) rfl ?_
              obtain ⟨v45, ev45⟩ : ∃ z : Int32, (u39).1 71 47 = z := ⟨_, rfl⟩
              have gv45 : (u39.1 71 47).toInt = v45.toInt := congrArg Int32.toInt (ev45)
              refine r_geti (k := 47) (lo := 0) (hi := 1700) C v45 oCl12 rfl (by decide) flX12_277 rfl rfl (ev45) rfl rfl (oDec_at oX12_goesOn 29 rfl) (fun b46 b46h => ?_)
              refine r_iconst C (oDec_at oX12_goesOn 30 rfl) (v := k1) (by rw [qk1]; rfl) ?_
              refine r_pc C 63 rfl ?_
              obtain ⟨v47, ev47⟩ : ∃ z : Int32, z = v45 - k1 := ⟨_, rfl⟩
              have hv47 : v47.toInt = v45.toInt - k1.toInt := n_sub ev47 (by omega) (by omega)
              refine r_isub C v47 (oDec_at oX12_goesOn 31 rfl) ev47 ?_
              refine r_puti (k := 47) (lo := 0) (hi := 1700) C oCl12 rfl (by decide) flX12_277 rfl rfl rfl rfl rfl rfl rfl rfl ⟨by omega, by omega⟩ (oDec_at oX12_goesOn 32 rfl) ?_
              refine r_aload_n C (j := 0) (oDec_at oX12_goesOn 33 rfl) rfl rfl ?_
              refine r_dup C (oDec_at oX12_goesOn 34 rfl) rfl ?_
              obtain ⟨v48, ev48⟩ : ∃ z : Int32, ((pI u39 71 47 v47)).1 71 48 = z := ⟨_, rfl⟩
              have gv48 : (t.1 71 48).toInt = v48.toInt := congrArg Int32.toInt ((((pI_ne (a := 71) (b := 48) (c := 71) (k := 47) _ _ (Or.inr (by decide)))).trans (((fu39 71 48 rfl).1).trans (((pI_ne (a := 71) (b := 48) (c := 71) (k := 2) _ _ (Or.inr (by decide)))).trans ((fu4 71 48 rfl).1)))).symm.trans ev48)
              have ggv48 : (((pI u39 71 47 v47)).1 71 48).toInt = v48.toInt := congrArg Int32.toInt ev48
              refine r_geti (k := 48) (lo := (-1)) (hi := 7) C v48 oCl12 rfl (by decide) flX12_274 rfl rfl (ev48) rfl rfl (oDec_at oX12_goesOn 35 rfl) (fun b49 b49h => ?_)
              refine r_iconst C (oDec_at oX12_goesOn 36 rfl) (v := k1) (by rw [qk1]; rfl) ?_
              refine r_pc C 73 rfl ?_
              obtain ⟨v50, ev50⟩ : ∃ z : Int32, z = v48 - k1 := ⟨_, rfl⟩
              have hv50 : v50.toInt = v48.toInt - k1.toInt := n_sub ev50 (by omega) (by omega)
              refine r_isub C v50 (oDec_at oX12_goesOn 37 rfl) ev50 ?_
              refine r_puti (k := 48) (lo := (-1)) (hi := 7) C oCl12 rfl (by decide) flX12_274 rfl rfl rfl rfl rfl rfl rfl rfl ⟨by omega, by omega⟩ (oDec_at oX12_goesOn 38 rfl) ?_
              have hcl : (oTop (u39) = 20 → oqJw g fp fq cw xw b cs 3 ((pI (pI u39 71 47 v47) 71 48 v50))) ∧ (oTop (u39) = 23 ∨ oTop (u39) = 24 → oqVw g fp fq cw xw b cs 3 (oTop (u39) - 18) ((pI (pI u39 71 47 v47) 71 48 v50))) := oqOw_cl pu39_5 (by omega) hno9 (by omega) (by omega) (by omega)
              have hq51 : oqJ g fp fq cz kx b 3 ((pI (pI u39 71 47 v47) 71 48 v50)) := oqJ_cl (s := u4) hq6 (by omega) hsk (by omega) ((oFr_row fu39 (c := 103) rfl rfl).trans rfl) (by omega) (by omega) (by omega) (by omega) pu39_4 (by omega) (by omega) (by omega) (by omega)
              refine r_aload_n C (j := 0) (oDec_at oX12_goesOn 39 rfl) rfl rfl ?_
              refine r_getF (k := 46) (b := 103) C oCl12 rfl (by decide) flX12_111 rfl rfl rfl (oDec_at oX12_goesOn 40 rfl) ?_
              refine r_aload_n C (j := 0) (oDec_at oX12_goesOn 41 rfl) rfl rfl ?_
              refine r_geti (k := 47) (lo := 0) (hi := 1700) C v47 oCl12 rfl (by decide) flX12_277 rfl rfl (((pI_ne (a := 71) (b := 47) (c := 71) (k := 48) _ _ (Or.inr (by decide)))).trans ((pI_self _ _ _ _))) rfl rfl (oDec_at oX12_goesOn 42 rfl) (fun _ _ => ?_)
              refine r_pc C 85 rfl ?_
              obtain ⟨v53, ev53⟩ : ∃ z : Int32, ((pI (pI u39 71 47 v47) 71 48 v50)).1 103 v47.toNatClampNeg = z := ⟨_, rfl⟩
              have av53 : t.1 103 v47.toNatClampNeg = v53 := (((pI_ne (a := 103) (b := v47.toNatClampNeg) (c := 71) _ _ (Or.inl (by decide)))).trans (((pI_ne (a := 103) (b := v47.toNatClampNeg) (c := 71) _ _ (Or.inl (by decide)))).trans (((fu39 103 v47.toNatClampNeg rfl).1).trans (((pI_ne (a := 103) (b := v47.toNatClampNeg) (c := 71) _ _ (Or.inl (by decide)))).trans ((fu4 103 v47.toNatClampNeg rfl).1))))).symm.trans ev53
              have gv53 : (t.1 103 v47.toNatClampNeg).toInt = v53.toInt := congrArg Int32.toInt ((((pI_ne (a := 103) (b := v47.toNatClampNeg) (c := 71) _ _ (Or.inl (by decide)))).trans (((pI_ne (a := 103) (b := v47.toNatClampNeg) (c := 71) _ _ (Or.inl (by decide)))).trans (((fu39 103 v47.toNatClampNeg rfl).1).trans (((pI_ne (a := 103) (b := v47.toNatClampNeg) (c := 71) _ _ (Or.inl (by decide)))).trans ((fu4 103 v47.toNatClampNeg rfl).1))))).symm.trans ev53)
              have rv53 := n_rng v53
              refine r_iald (n := 1700) (lo := (-2147483648)) (hi := 2147483647) C v53 rfl (by decide) rfl rfl ⟨by omega, by omega⟩ (by decide) ev53 rfl rfl (oDec_at oX12_goesOn 43 rfl) (fun _ _ => ?_)
              have hv0 := oTop_of (s := u39) (i := v47) ev53 (by omega)
              refine r_bipush C (oDec_at oX12_goesOn 44 rfl) (v := k20) (by rw [qk20]; rfl) ?_
              have lk54 : (((pI (pI u39 71 47 v47) 71 48 v50)).1 71 45).toInt = (u39.1 71 45).toInt := congrArg Int32.toInt (((pI_ne (a := 71) (b := 45) (c := 71) (k := 48) _ _ (Or.inr (by decide)))).trans ((pI_ne (a := 71) (b := 45) (c := 71) (k := 47) _ _ (Or.inr (by decide)))))
              refine r_icmp_eq C 0 (oDec_at oX12_goesOn 45 rfl) (by decide) (fun cd55 => ?_) (fun cd55 => ?_)
              · skip
                have lk56 : (((pI (pI u39 71 47 v47) 71 48 v50)).1 71 5).toInt = v1.toInt := congrArg Int32.toInt (((pI_ne (a := 71) (b := 5) (c := 71) (k := 48) _ _ (Or.inr (by decide)))).trans (((pI_ne (a := 71) (b := 5) (c := 71) (k := 47) _ _ (Or.inr (by decide)))).trans (((fu39 71 5 rfl).1).trans (((pI_ne (a := 71) (b := 5) (c := 71) (k := 2) _ _ (Or.inr (by decide)))).trans (((fu4 71 5 rfl).1).trans (ev1))))))
                have lk57 : (((pI (pI u39 71 47 v47) 71 48 v50)).1 71 48).toInt = v50.toInt := congrArg Int32.toInt ((pI_self _ _ _ _))
                have lk58 : (((pI (pI u39 71 47 v47) 71 48 v50)).1 71 2).toInt = v27.toInt := congrArg Int32.toInt (((pI_ne (a := 71) (b := 2) (c := 71) (k := 48) _ _ (Or.inr (by decide)))).trans (((pI_ne (a := 71) (b := 2) (c := 71) (k := 47) _ _ (Or.inr (by decide)))).trans (((fu39 71 2 rfl).1).trans ((pI_self _ _ _ _)))))
                have lk59 : (((pI (pI u39 71 47 v47) 71 48 v50)).1 71 45).toInt = (u39.1 71 45).toInt := congrArg Int32.toInt (((pI_ne (a := 71) (b := 45) (c := 71) (k := 48) _ _ (Or.inr (by decide)))).trans ((pI_ne (a := 71) (b := 45) (c := 71) (k := 47) _ _ (Or.inr (by decide)))))
                have lk60 : (((pI (pI u39 71 47 v47) 71 48 v50)).1 71 47).toInt = v47.toInt := congrArg Int32.toInt (((pI_ne (a := 71) (b := 47) (c := 71) (k := 48) _ _ (Or.inr (by decide)))).trans ((pI_self _ _ _ _)))
                have lk61 : (((pI (pI u39 71 47 v47) 71 48 v50)).1 71 2).toInt = v27.toInt := congrArg Int32.toInt (((pI_ne (a := 71) (b := 2) (c := 71) (k := 48) _ _ (Or.inr (by decide)))).trans (((pI_ne (a := 71) (b := 2) (c := 71) (k := 47) _ _ (Or.inr (by decide)))).trans (((fu39 71 2 rfl).1).trans ((pI_self _ _ _ _)))))
                have lk62 : (((pI (pI u39 71 47 v47) 71 48 v50)).1 71 55).toInt = (t.1 71 55).toInt := congrArg Int32.toInt (((pI_ne (a := 71) (b := 55) (c := 71) (k := 48) _ _ (Or.inr (by decide)))).trans (((pI_ne (a := 71) (b := 55) (c := 71) (k := 47) _ _ (Or.inr (by decide)))).trans (((fu39 71 55 rfl).1).trans (((pI_ne (a := 71) (b := 55) (c := 71) (k := 2) _ _ (Or.inr (by decide)))).trans ((fu4 71 55 rfl).1)))))
                have lk63 : (((pI (pI u39 71 47 v47) 71 48 v50)).1 71 2).toInt = v27.toInt := congrArg Int32.toInt (((pI_ne (a := 71) (b := 2) (c := 71) (k := 48) _ _ (Or.inr (by decide)))).trans (((pI_ne (a := 71) (b := 2) (c := 71) (k := 47) _ _ (Or.inr (by decide)))).trans (((fu39 71 2 rfl).1).trans ((pI_self _ _ _ _)))))
                exact (ih (n - 1) (by omega)).1 ((pI (pI u39 71 47 v47) 71 48 v50))   (by first | exact (by assumption) | exact oQ_pop pu39_0 (by omega) (by omega) (by omega) (by omega)) (by omega) (by omega) (by omega) (by omega) (by omega) hq51 (oqZ_fr (oFr_oneI (q := 12) (m := 48) rfl (by rfl)) rfl (oqZ_fr (oFr_oneI (q := 12) (m := 47) rfl (by rfl)) rfl (oqZ_fr fu39 rfl (oqZ_fr (oFr_oneI (q := 12) (m := 2) rfl (by rfl)) rfl (oqZ_fr fu4 rfl iv7))))) (oqBP_fr (oFr_oneI (q := 12) (m := 48) rfl (by rfl)) rfl (oqBP_fr (oFr_oneI (q := 12) (m := 47) rfl (by rfl)) rfl (oqBP_fr fu39 rfl (oqBP_fr (oFr_oneI (q := 12) (m := 2) rfl (by rfl)) rfl (oqBP_fr fu4 rfl iv8))))) (by first | exact (by assumption) | exact hcl.1 (by omega)) (owC0_fr (oFr_oneI (q := 12) (m := 48) rfl (by rfl)) rfl (owC0_fr (oFr_oneI (q := 12) (m := 47) rfl (by rfl)) rfl pu39_6)) (by omega)
              · skip
                have hq64 : oQ b (x + 1 + 1) ((pI (pI u39 71 47 v47) 71 48 v50)) := oQ_popN pu39_0 (by omega) (by omega) (by omega) (by omega)
                have hq65 : oqVw g fp fq cw xw b cs 3 (oTop (u39) - 18) ((pI (pI u39 71 47 v47) 71 48 v50)) := hcl.2 (by omega)
                refine r_aload_n C (j := 0) (oDec_at oX12_goesOn 46 rfl) rfl rfl ?_
                refine r_aload_n C (j := 0) (oDec_at oX12_goesOn 47 rfl) rfl rfl ?_
                refine r_getF (k := 46) (b := 103) C oCl12 rfl (by decide) flX12_111 rfl rfl rfl (oDec_at oX12_goesOn 48 rfl) ?_
                refine r_aload_n C (j := 0) (oDec_at oX12_goesOn 49 rfl) rfl rfl ?_
                refine r_geti (k := 47) (lo := 0) (hi := 1700) C v47 oCl12 rfl (by decide) flX12_277 rfl rfl (((pI_ne (a := 71) (b := 47) (c := 71) (k := 48) _ _ (Or.inr (by decide)))).trans ((pI_self _ _ _ _))) rfl rfl (oDec_at oX12_goesOn 50 rfl) (fun _ _ => ?_)
                refine r_iald (n := 1700) (lo := (-2147483648)) (hi := 2147483647) C v53 rfl (by decide) rfl rfl ⟨by omega, by omega⟩ (by decide) (ev53) rfl rfl (oDec_at oX12_goesOn 51 rfl) (fun _ _ => ?_)
                refine r_pc C 101 rfl ?_
                refine r_bipush C (oDec_at oX12_goesOn 52 rfl) (v := k23) (by rw [qk23]; rfl) ?_
                refine r_icmp_ne C 110 (oDec_at oX12_goesOn 53 rfl) (by decide) (fun cd67 => ?_) (fun cd67 => ?_)
                · skip
                  refine r_bipush C (oDec_at oX12_goesOn 56 rfl) (v := k6) (by rw [qk6]; rfl) ?_
                  have lk68 : (((pI (pI u39 71 47 v47) 71 48 v50)).1 71 45).toInt = (u39.1 71 45).toInt := congrArg Int32.toInt (((pI_ne (a := 71) (b := 45) (c := 71) (k := 48) _ _ (Or.inr (by decide)))).trans ((pI_ne (a := 71) (b := 45) (c := 71) (k := 47) _ _ (Or.inr (by decide)))))
                  have lk69 : (((pI (pI u39 71 47 v47) 71 48 v50)).1 71 45).toInt = (u39.1 71 45).toInt := congrArg Int32.toInt (((pI_ne (a := 71) (b := 45) (c := 71) (k := 48) _ _ (Or.inr (by decide)))).trans ((pI_ne (a := 71) (b := 45) (c := 71) (k := 47) _ _ (Or.inr (by decide)))))
                  have lk70 : (((pI (pI u39 71 47 v47) 71 48 v50)).1 71 45).toInt = (u39.1 71 45).toInt := congrArg Int32.toInt (((pI_ne (a := 71) (b := 45) (c := 71) (k := 48) _ _ (Or.inr (by decide)))).trans ((pI_ne (a := 71) (b := 45) (c := 71) (k := 47) _ _ (Or.inr (by decide)))))
                  refine r_callVv C oCl12 rfl miX12_lay mlX12_280 (ct9_X12_lay l E ((pI (pI u39 71 47 v47) 71 48 v50)) k6 (Cq) (by omega) (owC0_fr (oFr_oneI (q := 12) (m := 48) rfl (by rfl)) rfl (owC0_fr (oFr_oneI (q := 12) (m := 47) rfl (by rfl)) rfl pu39_6))) (by decide) rfl rfl rfl (Nat.le_of_ble_eq_true rfl) (oDec_at oX12_goesOn 57 rfl) (fun u71 pu71 fu71 => ?_)
                  try dsimp only at pu71
                  try simp only [lk69, lk70] at pu71
                  obtain ⟨pu71_0, pu71_1, pu71_2⟩ := pu71
                  have hq73 : oQ b (x + 1) (u71) := oQ_jn hq64 pu71_0 (by omega) (by omega) (by omega)
                  have hq74 : oqJw g fp fq cw xw b cs 3 (u71) := oqVw_lay hq65 pu71_0 (by omega) (by omega)
                  refine r_goto C (tgt := 0) (oDec_at oX12_goesOn 58 rfl) (by decide) ?_
                  have lk75 : ((u71).1 71 5).toInt = v1.toInt := congrArg Int32.toInt (((fu71 71 5 rfl).1).trans (((pI_ne (a := 71) (b := 5) (c := 71) (k := 48) _ _ (Or.inr (by decide)))).trans (((pI_ne (a := 71) (b := 5) (c := 71) (k := 47) _ _ (Or.inr (by decide)))).trans (((fu39 71 5 rfl).1).trans (((pI_ne (a := 71) (b := 5) (c := 71) (k := 2) _ _ (Or.inr (by decide)))).trans (((fu4 71 5 rfl).1).trans (ev1)))))))
                  have lk76 : ((u71).1 71 48).toInt = v50.toInt := congrArg Int32.toInt (((fu71 71 48 rfl).1).trans ((pI_self _ _ _ _)))
                  have lk77 : ((u71).1 71 2).toInt = v27.toInt := congrArg Int32.toInt (((fu71 71 2 rfl).1).trans (((pI_ne (a := 71) (b := 2) (c := 71) (k := 48) _ _ (Or.inr (by decide)))).trans (((pI_ne (a := 71) (b := 2) (c := 71) (k := 47) _ _ (Or.inr (by decide)))).trans (((fu39 71 2 rfl).1).trans ((pI_self _ _ _ _))))))
                  have lk78 : ((u71).1 71 47).toInt = v47.toInt := congrArg Int32.toInt (((fu71 71 47 rfl).1).trans (((pI_ne (a := 71) (b := 47) (c := 71) (k := 48) _ _ (Or.inr (by decide)))).trans ((pI_self _ _ _ _))))
                  have lk79 : ((u71).1 71 2).toInt = v27.toInt := congrArg Int32.toInt (((fu71 71 2 rfl).1).trans (((pI_ne (a := 71) (b := 2) (c := 71) (k := 48) _ _ (Or.inr (by decide)))).trans (((pI_ne (a := 71) (b := 2) (c := 71) (k := 47) _ _ (Or.inr (by decide)))).trans (((fu39 71 2 rfl).1).trans ((pI_self _ _ _ _))))))
                  have lk80 : ((u71).1 71 55).toInt = (t.1 71 55).toInt := congrArg Int32.toInt (((fu71 71 55 rfl).1).trans (((pI_ne (a := 71) (b := 55) (c := 71) (k := 48) _ _ (Or.inr (by decide)))).trans (((pI_ne (a := 71) (b := 55) (c := 71) (k := 47) _ _ (Or.inr (by decide)))).trans (((fu39 71 55 rfl).1).trans (((pI_ne (a := 71) (b := 55) (c := 71) (k := 2) _ _ (Or.inr (by decide)))).trans ((fu4 71 55 rfl).1))))))
                  have lk81 : ((u71).1 71 2).toInt = v27.toInt := congrArg Int32.toInt (((fu71 71 2 rfl).1).trans (((pI_ne (a := 71) (b := 2) (c := 71) (k := 48) _ _ (Or.inr (by decide)))).trans (((pI_ne (a := 71) (b := 2) (c := 71) (k := 47) _ _ (Or.inr (by decide)))).trans (((fu39 71 2 rfl).1).trans ((pI_self _ _ _ _))))))
                  exact (ih (n - 1) (by omega)).1 (u71)   (by first | exact hq73 | exact oQ_pop pu39_0 (by omega) (by omega) (by omega) (by omega)) (by omega) (by omega) (by omega) (by omega) (by omega) (oqJ_fr fu71 rfl hq51) (oqZ_fr fu71 rfl (oqZ_fr (oFr_oneI (q := 12) (m := 48) rfl (by rfl)) rfl (oqZ_fr (oFr_oneI (q := 12) (m := 47) rfl (by rfl)) rfl (oqZ_fr fu39 rfl (oqZ_fr (oFr_oneI (q := 12) (m := 2) rfl (by rfl)) rfl (oqZ_fr fu4 rfl iv7)))))) (oqBP_fr fu71 rfl (oqBP_fr (oFr_oneI (q := 12) (m := 48) rfl (by rfl)) rfl (oqBP_fr (oFr_oneI (q := 12) (m := 47) rfl (by rfl)) rfl (oqBP_fr fu39 rfl (oqBP_fr (oFr_oneI (q := 12) (m := 2) rfl (by rfl)) rfl (oqBP_fr fu4 rfl iv8)))))) (by first | exact hq74 | exact hcl.1 (by omega)) pu71_2 (by omega)
                · skip
                  refine r_iconst C (oDec_at oX12_goesOn 54 rfl) (v := k5) (by rw [qk5]; rfl) ?_
                  refine r_goto C (tgt := 112) (oDec_at oX12_goesOn 55 rfl) (by decide) ?_
                  have lk82 : (((pI (pI u39 71 47 v47) 71 48 v50)).1 71 45).toInt = (u39.1 71 45).toInt := congrArg Int32.toInt (((pI_ne (a := 71) (b := 45) (c := 71) (k := 48) _ _ (Or.inr (by decide)))).trans ((pI_ne (a := 71) (b := 45) (c := 71) (k := 47) _ _ (Or.inr (by decide)))))
                  have lk83 : (((pI (pI u39 71 47 v47) 71 48 v50)).1 71 45).toInt = (u39.1 71 45).toInt := congrArg Int32.toInt (((pI_ne (a := 71) (b := 45) (c := 71) (k := 48) _ _ (Or.inr (by decide)))).trans ((pI_ne (a := 71) (b := 45) (c := 71) (k := 47) _ _ (Or.inr (by decide)))))
                  have lk84 : (((pI (pI u39 71 47 v47) 71 48 v50)).1 71 45).toInt = (u39.1 71 45).toInt := congrArg Int32.toInt (((pI_ne (a := 71) (b := 45) (c := 71) (k := 48) _ _ (Or.inr (by decide)))).trans ((pI_ne (a := 71) (b := 45) (c := 71) (k := 47) _ _ (Or.inr (by decide)))))
                  refine r_callVv C oCl12 rfl miX12_lay mlX12_280 (ct9_X12_lay l E ((pI (pI u39 71 47 v47) 71 48 v50)) k5 (Cq) (by omega) (owC0_fr (oFr_oneI (q := 12) (m := 48) rfl (by rfl)) rfl (owC0_fr (oFr_oneI (q := 12) (m := 47) rfl (by rfl)) rfl pu39_6))) (by decide) rfl rfl rfl (Nat.le_of_ble_eq_true rfl) (oDec_at oX12_goesOn 57 rfl) (fun u85 pu85 fu85 => ?_)
                  try dsimp only at pu85
                  try simp only [lk83, lk84] at pu85
                  obtain ⟨pu85_0, pu85_1, pu85_2⟩ := pu85
                  have hq87 : oQ b (x + 1) (u85) := oQ_jn hq64 pu85_0 (by omega) (by omega) (by omega)
                  have hq88 : oqJw g fp fq cw xw b cs 3 (u85) := oqVw_lay hq65 pu85_0 (by omega) (by omega)
                  refine r_goto C (tgt := 0) (oDec_at oX12_goesOn 58 rfl) (by decide) ?_
                  have lk89 : ((u85).1 71 5).toInt = v1.toInt := congrArg Int32.toInt (((fu85 71 5 rfl).1).trans (((pI_ne (a := 71) (b := 5) (c := 71) (k := 48) _ _ (Or.inr (by decide)))).trans (((pI_ne (a := 71) (b := 5) (c := 71) (k := 47) _ _ (Or.inr (by decide)))).trans (((fu39 71 5 rfl).1).trans (((pI_ne (a := 71) (b := 5) (c := 71) (k := 2) _ _ (Or.inr (by decide)))).trans (((fu4 71 5 rfl).1).trans (ev1)))))))
                  have lk90 : ((u85).1 71 48).toInt = v50.toInt := congrArg Int32.toInt (((fu85 71 48 rfl).1).trans ((pI_self _ _ _ _)))
                  have lk91 : ((u85).1 71 2).toInt = v27.toInt := congrArg Int32.toInt (((fu85 71 2 rfl).1).trans (((pI_ne (a := 71) (b := 2) (c := 71) (k := 48) _ _ (Or.inr (by decide)))).trans (((pI_ne (a := 71) (b := 2) (c := 71) (k := 47) _ _ (Or.inr (by decide)))).trans (((fu39 71 2 rfl).1).trans ((pI_self _ _ _ _))))))
                  have lk92 : ((u85).1 71 47).toInt = v47.toInt := congrArg Int32.toInt (((fu85 71 47 rfl).1).trans (((pI_ne (a := 71) (b := 47) (c := 71) (k := 48) _ _ (Or.inr (by decide)))).trans ((pI_self _ _ _ _))))
                  have lk93 : ((u85).1 71 2).toInt = v27.toInt := congrArg Int32.toInt (((fu85 71 2 rfl).1).trans (((pI_ne (a := 71) (b := 2) (c := 71) (k := 48) _ _ (Or.inr (by decide)))).trans (((pI_ne (a := 71) (b := 2) (c := 71) (k := 47) _ _ (Or.inr (by decide)))).trans (((fu39 71 2 rfl).1).trans ((pI_self _ _ _ _))))))
                  have lk94 : ((u85).1 71 55).toInt = (t.1 71 55).toInt := congrArg Int32.toInt (((fu85 71 55 rfl).1).trans (((pI_ne (a := 71) (b := 55) (c := 71) (k := 48) _ _ (Or.inr (by decide)))).trans (((pI_ne (a := 71) (b := 55) (c := 71) (k := 47) _ _ (Or.inr (by decide)))).trans (((fu39 71 55 rfl).1).trans (((pI_ne (a := 71) (b := 55) (c := 71) (k := 2) _ _ (Or.inr (by decide)))).trans ((fu4 71 55 rfl).1))))))
                  have lk95 : ((u85).1 71 2).toInt = v27.toInt := congrArg Int32.toInt (((fu85 71 2 rfl).1).trans (((pI_ne (a := 71) (b := 2) (c := 71) (k := 48) _ _ (Or.inr (by decide)))).trans (((pI_ne (a := 71) (b := 2) (c := 71) (k := 47) _ _ (Or.inr (by decide)))).trans (((fu39 71 2 rfl).1).trans ((pI_self _ _ _ _))))))
                  exact (ih (n - 1) (by omega)).1 (u85)   (by first | exact hq87 | exact oQ_pop pu39_0 (by omega) (by omega) (by omega) (by omega)) (by omega) (by omega) (by omega) (by omega) (by omega) (oqJ_fr fu85 rfl hq51) (oqZ_fr fu85 rfl (oqZ_fr (oFr_oneI (q := 12) (m := 48) rfl (by rfl)) rfl (oqZ_fr (oFr_oneI (q := 12) (m := 47) rfl (by rfl)) rfl (oqZ_fr fu39 rfl (oqZ_fr (oFr_oneI (q := 12) (m := 2) rfl (by rfl)) rfl (oqZ_fr fu4 rfl iv7)))))) (oqBP_fr fu85 rfl (oqBP_fr (oFr_oneI (q := 12) (m := 48) rfl (by rfl)) rfl (oqBP_fr (oFr_oneI (q := 12) (m := 47) rfl (by rfl)) rfl (oqBP_fr fu39 rfl (oqBP_fr (oFr_oneI (q := 12) (m := 2) rfl (by rfl)) rfl (oqBP_fr fu4 rfl iv8)))))) (by first | exact hq88 | exact hcl.1 (by omega)) pu85_2 (by omega)
            · skip
              refine r_aload_n C (j := 0) (oDec_at oX12_goesOn 11 rfl) rfl rfl ?_
              refine r_callVi C oCl12 rfl miX12_mark mlX12_304 (ct_X12_mark l E (u4)  ) (by decide) rfl rfl rfl (Nat.le_of_ble_eq_true rfl) (oDec_at oX12_goesOn 12 rfl) (fun r97 u96 pu96 fu96 => ?_)
              try dsimp only at pu96
              have hxu96 := oFr_nil fu96; subst hxu96
              have rr97 := n_rng r97
              refine r_bipush C (oDec_at oX12_goesOn 13 rfl) (v := k23) (by rw [qk23]; rfl) ?_
              refine r_icmp_eq C 43 (oDec_at oX12_goesOn 14 rfl) (by decide) (fun cd98 => ?_) (fun cd98 => ?_)
              · skip
                have lk99 : ((u4).1 71 4).toInt = (t.1 71 4).toInt := congrArg Int32.toInt ((fu4 71 4 rfl).1)
                have lk100 : ((u4).1 71 5).toInt = v1.toInt := congrArg Int32.toInt (((fu4 71 5 rfl).1).trans (ev1))
                have lk101 : ((u4).1 71 48).toInt = (t.1 71 48).toInt := congrArg Int32.toInt ((fu4 71 48 rfl).1)
                have lk102 : ((u4).1 71 47).toInt = (t.1 71 47).toInt := congrArg Int32.toInt ((fu4 71 47 rfl).1)
                have hq103 : oMk (r97.toInt) (u4) := pu96
                refine r_aload_n C (j := 0) (oDec_at oX12_goesOn 19 rfl) rfl rfl ?_
                refine r_dup C (oDec_at oX12_goesOn 20 rfl) rfl ?_
                obtain ⟨v104, ev104⟩ : ∃ z : Int32, (u4).1 71 2 = z := ⟨_, rfl⟩
                have gv104 : (u4.1 71 2).toInt = v104.toInt := congrArg Int32.toInt (ev104)
                refine r_geti (k := 2) (lo := 0) (hi := 1600) C v104 oCl12 rfl (by decide) flX12_179 rfl rfl (ev104) rfl rfl (oDec_at oX12_goesOn 21 rfl) (fun b105 b105h => ?_)
                refine r_iconst C (oDec_at oX12_goesOn 22 rfl) (v := k1) (by rw [qk1]; rfl) ?_
                obtain ⟨v106, ev106⟩ : ∃ z : Int32, z = v104 + k1 := ⟨_, rfl⟩
                have hv106 : v106.toInt = v104.toInt + k1.toInt := n_add ev106 (by omega) (by omega)
                refine r_iadd C v106 (oDec_at oX12_goesOn 23 rfl) ev106 ?_
                refine r_puti (k := 2) (lo := 0) (hi := 1600) C oCl12 rfl (by decide) flX12_179 rfl rfl rfl rfl rfl rfl rfl rfl ⟨by omega, by omega⟩ (oDec_at oX12_goesOn 24 rfl) ?_
                refine r_pc C 53 rfl ?_
                have lk107 : (((pI u4 71 2 v106)).1 71 2).toInt = v106.toInt := congrArg Int32.toInt ((pI_self _ _ _ _))
                have eat : (((pI u4 71 2 v106)).1 71 2).toInt - 1 = ((u4).1 71 2).toInt := by omega
                have hmu9 : ¬ oqMu g ((((pI u4 71 2 v106)).1 71 2).toInt - 1) := by rw [eat]; exact oqMu_no ⟨by omega, by omega⟩
                have hq108 : oqK b (oqSg ((u4).1 103) b (((u4).1 71 47).toNatClampNeg - b)) ((pI u4 71 2 v106)) := rfl
                have hq109 : oqOw g fp fq cw xw b cs ((pI u4 71 2 v106)) := oqOw_of hq7 oqSq_at (fun h9 => ⟨h9, by rw [hsk]; omega⟩) rfl
                refine r_aload_n C (j := 0) (oDec_at oX12_goesOn 25 rfl) rfl rfl ?_
                have lk110 : (((pI u4 71 2 v106)).1 71 55).toInt = (t.1 71 55).toInt := congrArg Int32.toInt (((pI_ne (a := 71) (b := 55) (c := 71) (k := 2) _ _ (Or.inr (by decide)))).trans ((fu4 71 55 rfl).1))
                have lk111 : (((pI u4 71 2 v106)).1 71 5).toInt = v1.toInt := congrArg Int32.toInt (((pI_ne (a := 71) (b := 5) (c := 71) (k := 2) _ _ (Or.inr (by decide)))).trans (((fu4 71 5 rfl).1).trans (ev1)))
                have lk112 : (((pI u4 71 2 v106)).1 71 45).toInt = (t.1 71 45).toInt := congrArg Int32.toInt (((pI_ne (a := 71) (b := 45) (c := 71) (k := 2) _ _ (Or.inr (by decide)))).trans ((fu4 71 45 rfl).1))
                have lk113 : (((pI u4 71 2 v106)).1 71 47).toInt = (t.1 71 47).toInt := congrArg Int32.toInt (((pI_ne (a := 71) (b := 47) (c := 71) (k := 2) _ _ (Or.inr (by decide)))).trans ((fu4 71 47 rfl).1))
                have lk114 : (((pI u4 71 2 v106)).1 71 2).toInt = v106.toInt := congrArg Int32.toInt ((pI_self _ _ _ _))
                have lk115 : (((pI u4 71 2 v106)).1 71 45).toInt = (t.1 71 45).toInt := congrArg Int32.toInt (((pI_ne (a := 71) (b := 45) (c := 71) (k := 2) _ _ (Or.inr (by decide)))).trans ((fu4 71 45 rfl).1))
                have lk116 : (((pI u4 71 2 v106)).1 71 47).toInt = (t.1 71 47).toInt := congrArg Int32.toInt (((pI_ne (a := 71) (b := 47) (c := 71) (k := 2) _ _ (Or.inr (by decide)))).trans ((fu4 71 47 rfl).1))
                have lk117 : (((pI u4 71 2 v106)).1 71 47).toInt = (t.1 71 47).toInt := congrArg Int32.toInt (((pI_ne (a := 71) (b := 47) (c := 71) (k := 2) _ _ (Or.inr (by decide)))).trans ((fu4 71 47 rfl).1))
                refine r_callVv C oCl12 rfl miX12_dropsToMark mlX12_307 (ct9_X12_dropsToMark l E ((pI u4 71 2 v106))  (b) (x + 1) (r97.toInt) (oqSg ((u4).1 103) b (((u4).1 71 47).toNatClampNeg - b)) (g) (fp) (fq) (cw) (xw) (cs) (Cq) (oQ_fr (oFr_oneI (q := 12) (m := 2) rfl (by rfl)) rfl (oQ_fr fu4 rfl iv0)) (oMk_fr (oFr_oneI (q := 12) (m := 2) rfl (by rfl)) rfl hq103) (by omega) (by omega) (by omega) (by omega) hq108 hq109 hmu9 (owC0_fr (oFr_oneI (q := 12) (m := 2) rfl (by rfl)) rfl (owC0_fr fu4 rfl iv10))) (by decide) rfl rfl rfl (Nat.le_of_ble_eq_true rfl) (oDec_at oX12_goesOn 26 rfl) (fun u118 pu118 fu118 => ?_)
                try dsimp only at pu118
                try simp only [lk110, lk111, lk112, lk113, lk114, lk115, lk116, lk117] at pu118
                obtain ⟨pu118_0, pu118_1, pu118_2, pu118_3, pu118_4, pu118_5, pu118_6⟩ := pu118
                have lk120 : ((u118).1 71 5).toInt = v1.toInt := congrArg Int32.toInt (((fu118 71 5 rfl).1).trans (((pI_ne (a := 71) (b := 5) (c := 71) (k := 2) _ _ (Or.inr (by decide)))).trans (((fu4 71 5 rfl).1).trans (ev1))))
                have lk121 : ((u118).1 71 48).toInt = (t.1 71 48).toInt := congrArg Int32.toInt (((fu118 71 48 rfl).1).trans (((pI_ne (a := 71) (b := 48) (c := 71) (k := 2) _ _ (Or.inr (by decide)))).trans ((fu4 71 48 rfl).1)))
                have lk122 : ((u118).1 71 2).toInt = v106.toInt := congrArg Int32.toInt (((fu118 71 2 rfl).1).trans ((pI_self _ _ _ _)))
                have lk123 : ((u118).1 71 4).toInt = (t.1 71 4).toInt := congrArg Int32.toInt (((fu118 71 4 rfl).1).trans (((pI_ne (a := 71) (b := 4) (c := 71) (k := 2) _ _ (Or.inr (by decide)))).trans ((fu4 71 4 rfl).1)))
                have htp := pu118_3 (by omega)
                have ho1 := oQ_opn1 pu118_0 (by omega) (by omega) (by omega)
                have hno9 : ¬ oqOp g (((u118).1 71 2).toInt - 1) := by rw [show ((u118).1 71 2).toInt - 1 = ((u4).1 71 2).toInt by omega]; exact oqOp_no ⟨by omega, by omega, by omega, by omega⟩
                refine r_aload_n C (j := 0) (oDec_at oX12_goesOn 27 rfl) rfl rfl ?_
                refine r_dup C (oDec_at oX12_goesOn 28 rfl) rfl ?_
                obtain ⟨v124, ev124⟩ : ∃ z : Int32, (u118).1 71 47 = z := ⟨_, rfl⟩
                have gv124 : (u118.1 71 47).toInt = v124.toInt := congrArg Int32.toInt (ev124)
                refine r_geti (k := 47) (lo := 0) (hi := 1700) C v124 oCl12 rfl (by decide) flX12_277 rfl rfl (ev124) rfl rfl (oDec_at oX12_goesOn 29 rfl) (fun b125 b125h => ?_)
                refine r_iconst C (oDec_at oX12_goesOn 30 rfl) (v := k1) (by rw [qk1]; rfl) ?_
                refine r_pc C 63 rfl ?_
                obtain ⟨v126, ev126⟩ : ∃ z : Int32, z = v124 - k1 := ⟨_, rfl⟩
                have hv126 : v126.toInt = v124.toInt - k1.toInt := n_sub ev126 (by omega) (by omega)
                refine r_isub C v126 (oDec_at oX12_goesOn 31 rfl) ev126 ?_
                refine r_puti (k := 47) (lo := 0) (hi := 1700) C oCl12 rfl (by decide) flX12_277 rfl rfl rfl rfl rfl rfl rfl rfl ⟨by omega, by omega⟩ (oDec_at oX12_goesOn 32 rfl) ?_
                refine r_aload_n C (j := 0) (oDec_at oX12_goesOn 33 rfl) rfl rfl ?_
                refine r_dup C (oDec_at oX12_goesOn 34 rfl) rfl ?_
                obtain ⟨v127, ev127⟩ : ∃ z : Int32, ((pI u118 71 47 v126)).1 71 48 = z := ⟨_, rfl⟩
                have gv127 : (t.1 71 48).toInt = v127.toInt := congrArg Int32.toInt ((((pI_ne (a := 71) (b := 48) (c := 71) (k := 47) _ _ (Or.inr (by decide)))).trans (((fu118 71 48 rfl).1).trans (((pI_ne (a := 71) (b := 48) (c := 71) (k := 2) _ _ (Or.inr (by decide)))).trans ((fu4 71 48 rfl).1)))).symm.trans ev127)
                have ggv127 : (((pI u118 71 47 v126)).1 71 48).toInt = v127.toInt := congrArg Int32.toInt ev127
                refine r_geti (k := 48) (lo := (-1)) (hi := 7) C v127 oCl12 rfl (by decide) flX12_274 rfl rfl (ev127) rfl rfl (oDec_at oX12_goesOn 35 rfl) (fun b128 b128h => ?_)
                refine r_iconst C (oDec_at oX12_goesOn 36 rfl) (v := k1) (by rw [qk1]; rfl) ?_
                refine r_pc C 73 rfl ?_
                obtain ⟨v129, ev129⟩ : ∃ z : Int32, z = v127 - k1 := ⟨_, rfl⟩
                have hv129 : v129.toInt = v127.toInt - k1.toInt := n_sub ev129 (by omega) (by omega)
                refine r_isub C v129 (oDec_at oX12_goesOn 37 rfl) ev129 ?_
                refine r_puti (k := 48) (lo := (-1)) (hi := 7) C oCl12 rfl (by decide) flX12_274 rfl rfl rfl rfl rfl rfl rfl rfl ⟨by omega, by omega⟩ (oDec_at oX12_goesOn 38 rfl) ?_
                have hcl : (oTop (u118) = 20 → oqJw g fp fq cw xw b cs 3 ((pI (pI u118 71 47 v126) 71 48 v129))) ∧ (oTop (u118) = 23 ∨ oTop (u118) = 24 → oqVw g fp fq cw xw b cs 3 (oTop (u118) - 18) ((pI (pI u118 71 47 v126) 71 48 v129))) := oqOw_cl pu118_5 (by omega) hno9 (by omega) (by omega) (by omega)
                have hq130 : oqJ g fp fq cz kx b 3 ((pI (pI u118 71 47 v126) 71 48 v129)) := oqJ_cl (s := u4) hq6 (by omega) hsk (by omega) ((oFr_row fu118 (c := 103) rfl rfl).trans rfl) (by omega) (by omega) (by omega) (by omega) pu118_4 (by omega) (by omega) (by omega) (by omega)
                refine r_aload_n C (j := 0) (oDec_at oX12_goesOn 39 rfl) rfl rfl ?_
                refine r_getF (k := 46) (b := 103) C oCl12 rfl (by decide) flX12_111 rfl rfl rfl (oDec_at oX12_goesOn 40 rfl) ?_
                refine r_aload_n C (j := 0) (oDec_at oX12_goesOn 41 rfl) rfl rfl ?_
                refine r_geti (k := 47) (lo := 0) (hi := 1700) C v126 oCl12 rfl (by decide) flX12_277 rfl rfl (((pI_ne (a := 71) (b := 47) (c := 71) (k := 48) _ _ (Or.inr (by decide)))).trans ((pI_self _ _ _ _))) rfl rfl (oDec_at oX12_goesOn 42 rfl) (fun _ _ => ?_)
                refine r_pc C 85 rfl ?_
                obtain ⟨v132, ev132⟩ : ∃ z : Int32, ((pI (pI u118 71 47 v126) 71 48 v129)).1 103 v126.toNatClampNeg = z := ⟨_, rfl⟩
                have av132 : t.1 103 v126.toNatClampNeg = v132 := (((pI_ne (a := 103) (b := v126.toNatClampNeg) (c := 71) _ _ (Or.inl (by decide)))).trans (((pI_ne (a := 103) (b := v126.toNatClampNeg) (c := 71) _ _ (Or.inl (by decide)))).trans (((fu118 103 v126.toNatClampNeg rfl).1).trans (((pI_ne (a := 103) (b := v126.toNatClampNeg) (c := 71) _ _ (Or.inl (by decide)))).trans ((fu4 103 v126.toNatClampNeg rfl).1))))).symm.trans ev132
                have gv132 : (t.1 103 v126.toNatClampNeg).toInt = v132.toInt := congrArg Int32.toInt ((((pI_ne (a := 103) (b := v126.toNatClampNeg) (c := 71) _ _ (Or.inl (by decide)))).trans (((pI_ne (a := 103) (b := v126.toNatClampNeg) (c := 71) _ _ (Or.inl (by decide)))).trans (((fu118 103 v126.toNatClampNeg rfl).1).trans (((pI_ne (a := 103) (b := v126.toNatClampNeg) (c := 71) _ _ (Or.inl (by decide)))).trans ((fu4 103 v126.toNatClampNeg rfl).1))))).symm.trans ev132)
                have rv132 := n_rng v132
                refine r_iald (n := 1700) (lo := (-2147483648)) (hi := 2147483647) C v132 rfl (by decide) rfl rfl ⟨by omega, by omega⟩ (by decide) ev132 rfl rfl (oDec_at oX12_goesOn 43 rfl) (fun _ _ => ?_)
                have hv0 := oTop_of (s := u118) (i := v126) ev132 (by omega)
                refine r_bipush C (oDec_at oX12_goesOn 44 rfl) (v := k20) (by rw [qk20]; rfl) ?_
                have lk133 : (((pI (pI u118 71 47 v126) 71 48 v129)).1 71 45).toInt = (u118.1 71 45).toInt := congrArg Int32.toInt (((pI_ne (a := 71) (b := 45) (c := 71) (k := 48) _ _ (Or.inr (by decide)))).trans ((pI_ne (a := 71) (b := 45) (c := 71) (k := 47) _ _ (Or.inr (by decide)))))
                refine r_icmp_eq C 0 (oDec_at oX12_goesOn 45 rfl) (by decide) (fun cd134 => ?_) (fun cd134 => ?_)
                · skip
                  have lk135 : (((pI (pI u118 71 47 v126) 71 48 v129)).1 71 5).toInt = v1.toInt := congrArg Int32.toInt (((pI_ne (a := 71) (b := 5) (c := 71) (k := 48) _ _ (Or.inr (by decide)))).trans (((pI_ne (a := 71) (b := 5) (c := 71) (k := 47) _ _ (Or.inr (by decide)))).trans (((fu118 71 5 rfl).1).trans (((pI_ne (a := 71) (b := 5) (c := 71) (k := 2) _ _ (Or.inr (by decide)))).trans (((fu4 71 5 rfl).1).trans (ev1))))))
                  have lk136 : (((pI (pI u118 71 47 v126) 71 48 v129)).1 71 48).toInt = v129.toInt := congrArg Int32.toInt ((pI_self _ _ _ _))
                  have lk137 : (((pI (pI u118 71 47 v126) 71 48 v129)).1 71 2).toInt = v106.toInt := congrArg Int32.toInt (((pI_ne (a := 71) (b := 2) (c := 71) (k := 48) _ _ (Or.inr (by decide)))).trans (((pI_ne (a := 71) (b := 2) (c := 71) (k := 47) _ _ (Or.inr (by decide)))).trans (((fu118 71 2 rfl).1).trans ((pI_self _ _ _ _)))))
                  have lk138 : (((pI (pI u118 71 47 v126) 71 48 v129)).1 71 45).toInt = (u118.1 71 45).toInt := congrArg Int32.toInt (((pI_ne (a := 71) (b := 45) (c := 71) (k := 48) _ _ (Or.inr (by decide)))).trans ((pI_ne (a := 71) (b := 45) (c := 71) (k := 47) _ _ (Or.inr (by decide)))))
                  have lk139 : (((pI (pI u118 71 47 v126) 71 48 v129)).1 71 47).toInt = v126.toInt := congrArg Int32.toInt (((pI_ne (a := 71) (b := 47) (c := 71) (k := 48) _ _ (Or.inr (by decide)))).trans ((pI_self _ _ _ _)))
                  have lk140 : (((pI (pI u118 71 47 v126) 71 48 v129)).1 71 2).toInt = v106.toInt := congrArg Int32.toInt (((pI_ne (a := 71) (b := 2) (c := 71) (k := 48) _ _ (Or.inr (by decide)))).trans (((pI_ne (a := 71) (b := 2) (c := 71) (k := 47) _ _ (Or.inr (by decide)))).trans (((fu118 71 2 rfl).1).trans ((pI_self _ _ _ _)))))
                  have lk141 : (((pI (pI u118 71 47 v126) 71 48 v129)).1 71 55).toInt = (t.1 71 55).toInt := congrArg Int32.toInt (((pI_ne (a := 71) (b := 55) (c := 71) (k := 48) _ _ (Or.inr (by decide)))).trans (((pI_ne (a := 71) (b := 55) (c := 71) (k := 47) _ _ (Or.inr (by decide)))).trans (((fu118 71 55 rfl).1).trans (((pI_ne (a := 71) (b := 55) (c := 71) (k := 2) _ _ (Or.inr (by decide)))).trans ((fu4 71 55 rfl).1)))))
                  have lk142 : (((pI (pI u118 71 47 v126) 71 48 v129)).1 71 2).toInt = v106.toInt := congrArg Int32.toInt (((pI_ne (a := 71) (b := 2) (c := 71) (k := 48) _ _ (Or.inr (by decide)))).trans (((pI_ne (a := 71) (b := 2) (c := 71) (k := 47) _ _ (Or.inr (by decide)))).trans (((fu118 71 2 rfl).1).trans ((pI_self _ _ _ _)))))
                  exact (ih (n - 1) (by omega)).1 ((pI (pI u118 71 47 v126) 71 48 v129))   (by first | exact (by assumption) | exact oQ_pop pu118_0 (by omega) (by omega) (by omega) (by omega)) (by omega) (by omega) (by omega) (by omega) (by omega) hq130 (oqZ_fr (oFr_oneI (q := 12) (m := 48) rfl (by rfl)) rfl (oqZ_fr (oFr_oneI (q := 12) (m := 47) rfl (by rfl)) rfl (oqZ_fr fu118 rfl (oqZ_fr (oFr_oneI (q := 12) (m := 2) rfl (by rfl)) rfl (oqZ_fr fu4 rfl iv7))))) (oqBP_fr (oFr_oneI (q := 12) (m := 48) rfl (by rfl)) rfl (oqBP_fr (oFr_oneI (q := 12) (m := 47) rfl (by rfl)) rfl (oqBP_fr fu118 rfl (oqBP_fr (oFr_oneI (q := 12) (m := 2) rfl (by rfl)) rfl (oqBP_fr fu4 rfl iv8))))) (by first | exact (by assumption) | exact hcl.1 (by omega)) (owC0_fr (oFr_oneI (q := 12) (m := 48) rfl (by rfl)) rfl (owC0_fr (oFr_oneI (q := 12) (m := 47) rfl (by rfl)) rfl pu118_6)) (by omega)
                · skip
                  have hq143 : oQ b (x + 1 + 1) ((pI (pI u118 71 47 v126) 71 48 v129)) := oQ_popN pu118_0 (by omega) (by omega) (by omega) (by omega)
                  have hq144 : oqVw g fp fq cw xw b cs 3 (oTop (u118) - 18) ((pI (pI u118 71 47 v126) 71 48 v129)) := hcl.2 (by omega)
                  refine r_aload_n C (j := 0) (oDec_at oX12_goesOn 46 rfl) rfl rfl ?_
                  refine r_aload_n C (j := 0) (oDec_at oX12_goesOn 47 rfl) rfl rfl ?_
                  refine r_getF (k := 46) (b := 103) C oCl12 rfl (by decide) flX12_111 rfl rfl rfl (oDec_at oX12_goesOn 48 rfl) ?_
                  refine r_aload_n C (j := 0) (oDec_at oX12_goesOn 49 rfl) rfl rfl ?_
                  refine r_geti (k := 47) (lo := 0) (hi := 1700) C v126 oCl12 rfl (by decide) flX12_277 rfl rfl (((pI_ne (a := 71) (b := 47) (c := 71) (k := 48) _ _ (Or.inr (by decide)))).trans ((pI_self _ _ _ _))) rfl rfl (oDec_at oX12_goesOn 50 rfl) (fun _ _ => ?_)
                  refine r_iald (n := 1700) (lo := (-2147483648)) (hi := 2147483647) C v132 rfl (by decide) rfl rfl ⟨by omega, by omega⟩ (by decide) (ev132) rfl rfl (oDec_at oX12_goesOn 51 rfl) (fun _ _ => ?_)
                  refine r_pc C 101 rfl ?_
                  refine r_bipush C (oDec_at oX12_goesOn 52 rfl) (v := k23) (by rw [qk23]; rfl) ?_
                  refine r_icmp_ne C 110 (oDec_at oX12_goesOn 53 rfl) (by decide) (fun cd146 => ?_) (fun cd146 => ?_)
                  · skip
                    refine r_bipush C (oDec_at oX12_goesOn 56 rfl) (v := k6) (by rw [qk6]; rfl) ?_
                    have lk147 : (((pI (pI u118 71 47 v126) 71 48 v129)).1 71 45).toInt = (u118.1 71 45).toInt := congrArg Int32.toInt (((pI_ne (a := 71) (b := 45) (c := 71) (k := 48) _ _ (Or.inr (by decide)))).trans ((pI_ne (a := 71) (b := 45) (c := 71) (k := 47) _ _ (Or.inr (by decide)))))
                    have lk148 : (((pI (pI u118 71 47 v126) 71 48 v129)).1 71 45).toInt = (u118.1 71 45).toInt := congrArg Int32.toInt (((pI_ne (a := 71) (b := 45) (c := 71) (k := 48) _ _ (Or.inr (by decide)))).trans ((pI_ne (a := 71) (b := 45) (c := 71) (k := 47) _ _ (Or.inr (by decide)))))
                    have lk149 : (((pI (pI u118 71 47 v126) 71 48 v129)).1 71 45).toInt = (u118.1 71 45).toInt := congrArg Int32.toInt (((pI_ne (a := 71) (b := 45) (c := 71) (k := 48) _ _ (Or.inr (by decide)))).trans ((pI_ne (a := 71) (b := 45) (c := 71) (k := 47) _ _ (Or.inr (by decide)))))
                    refine r_callVv C oCl12 rfl miX12_lay mlX12_280 (ct9_X12_lay l E ((pI (pI u118 71 47 v126) 71 48 v129)) k6 (Cq) (by omega) (owC0_fr (oFr_oneI (q := 12) (m := 48) rfl (by rfl)) rfl (owC0_fr (oFr_oneI (q := 12) (m := 47) rfl (by rfl)) rfl pu118_6))) (by decide) rfl rfl rfl (Nat.le_of_ble_eq_true rfl) (oDec_at oX12_goesOn 57 rfl) (fun u150 pu150 fu150 => ?_)
                    try dsimp only at pu150
                    try simp only [lk148, lk149] at pu150
                    obtain ⟨pu150_0, pu150_1, pu150_2⟩ := pu150
                    have hq152 : oQ b (x + 1) (u150) := oQ_jn hq143 pu150_0 (by omega) (by omega) (by omega)
                    have hq153 : oqJw g fp fq cw xw b cs 3 (u150) := oqVw_lay hq144 pu150_0 (by omega) (by omega)
                    refine r_goto C (tgt := 0) (oDec_at oX12_goesOn 58 rfl) (by decide) ?_
                    have lk154 : ((u150).1 71 5).toInt = v1.toInt := congrArg Int32.toInt (((fu150 71 5 rfl).1).trans (((pI_ne (a := 71) (b := 5) (c := 71) (k := 48) _ _ (Or.inr (by decide)))).trans (((pI_ne (a := 71) (b := 5) (c := 71) (k := 47) _ _ (Or.inr (by decide)))).trans (((fu118 71 5 rfl).1).trans (((pI_ne (a := 71) (b := 5) (c := 71) (k := 2) _ _ (Or.inr (by decide)))).trans (((fu4 71 5 rfl).1).trans (ev1)))))))
                    have lk155 : ((u150).1 71 48).toInt = v129.toInt := congrArg Int32.toInt (((fu150 71 48 rfl).1).trans ((pI_self _ _ _ _)))
                    have lk156 : ((u150).1 71 2).toInt = v106.toInt := congrArg Int32.toInt (((fu150 71 2 rfl).1).trans (((pI_ne (a := 71) (b := 2) (c := 71) (k := 48) _ _ (Or.inr (by decide)))).trans (((pI_ne (a := 71) (b := 2) (c := 71) (k := 47) _ _ (Or.inr (by decide)))).trans (((fu118 71 2 rfl).1).trans ((pI_self _ _ _ _))))))
                    have lk157 : ((u150).1 71 47).toInt = v126.toInt := congrArg Int32.toInt (((fu150 71 47 rfl).1).trans (((pI_ne (a := 71) (b := 47) (c := 71) (k := 48) _ _ (Or.inr (by decide)))).trans ((pI_self _ _ _ _))))
                    have lk158 : ((u150).1 71 2).toInt = v106.toInt := congrArg Int32.toInt (((fu150 71 2 rfl).1).trans (((pI_ne (a := 71) (b := 2) (c := 71) (k := 48) _ _ (Or.inr (by decide)))).trans (((pI_ne (a := 71) (b := 2) (c := 71) (k := 47) _ _ (Or.inr (by decide)))).trans (((fu118 71 2 rfl).1).trans ((pI_self _ _ _ _))))))
                    have lk159 : ((u150).1 71 55).toInt = (t.1 71 55).toInt := congrArg Int32.toInt (((fu150 71 55 rfl).1).trans (((pI_ne (a := 71) (b := 55) (c := 71) (k := 48) _ _ (Or.inr (by decide)))).trans (((pI_ne (a := 71) (b := 55) (c := 71) (k := 47) _ _ (Or.inr (by decide)))).trans (((fu118 71 55 rfl).1).trans (((pI_ne (a := 71) (b := 55) (c := 71) (k := 2) _ _ (Or.inr (by decide)))).trans ((fu4 71 55 rfl).1))))))
                    have lk160 : ((u150).1 71 2).toInt = v106.toInt := congrArg Int32.toInt (((fu150 71 2 rfl).1).trans (((pI_ne (a := 71) (b := 2) (c := 71) (k := 48) _ _ (Or.inr (by decide)))).trans (((pI_ne (a := 71) (b := 2) (c := 71) (k := 47) _ _ (Or.inr (by decide)))).trans (((fu118 71 2 rfl).1).trans ((pI_self _ _ _ _))))))
                    exact (ih (n - 1) (by omega)).1 (u150)   (by first | exact hq152 | exact oQ_pop pu118_0 (by omega) (by omega) (by omega) (by omega)) (by omega) (by omega) (by omega) (by omega) (by omega) (oqJ_fr fu150 rfl hq130) (oqZ_fr fu150 rfl (oqZ_fr (oFr_oneI (q := 12) (m := 48) rfl (by rfl)) rfl (oqZ_fr (oFr_oneI (q := 12) (m := 47) rfl (by rfl)) rfl (oqZ_fr fu118 rfl (oqZ_fr (oFr_oneI (q := 12) (m := 2) rfl (by rfl)) rfl (oqZ_fr fu4 rfl iv7)))))) (oqBP_fr fu150 rfl (oqBP_fr (oFr_oneI (q := 12) (m := 48) rfl (by rfl)) rfl (oqBP_fr (oFr_oneI (q := 12) (m := 47) rfl (by rfl)) rfl (oqBP_fr fu118 rfl (oqBP_fr (oFr_oneI (q := 12) (m := 2) rfl (by rfl)) rfl (oqBP_fr fu4 rfl iv8)))))) (by first | exact hq153 | exact hcl.1 (by omega)) pu150_2 (by omega)
                  · skip
                    refine r_iconst C (oDec_at oX12_goesOn 54 rfl) (v := k5) (by rw [qk5]; rfl) ?_
                    refine r_goto C (tgt := 112) (oDec_at oX12_goesOn 55 rfl) (by decide) ?_
                    have lk161 : (((pI (pI u118 71 47 v126) 71 48 v129)).1 71 45).toInt = (u118.1 71 45).toInt := congrArg Int32.toInt (((pI_ne (a := 71) (b := 45) (c := 71) (k := 48) _ _ (Or.inr (by decide)))).trans ((pI_ne (a := 71) (b := 45) (c := 71) (k := 47) _ _ (Or.inr (by decide)))))
                    have lk162 : (((pI (pI u118 71 47 v126) 71 48 v129)).1 71 45).toInt = (u118.1 71 45).toInt := congrArg Int32.toInt (((pI_ne (a := 71) (b := 45) (c := 71) (k := 48) _ _ (Or.inr (by decide)))).trans ((pI_ne (a := 71) (b := 45) (c := 71) (k := 47) _ _ (Or.inr (by decide)))))
                    have lk163 : (((pI (pI u118 71 47 v126) 71 48 v129)).1 71 45).toInt = (u118.1 71 45).toInt := congrArg Int32.toInt (((pI_ne (a := 71) (b := 45) (c := 71) (k := 48) _ _ (Or.inr (by decide)))).trans ((pI_ne (a := 71) (b := 45) (c := 71) (k := 47) _ _ (Or.inr (by decide)))))
                    refine r_callVv C oCl12 rfl miX12_lay mlX12_280 (ct9_X12_lay l E ((pI (pI u118 71 47 v126) 71 48 v129)) k5 (Cq) (by omega) (owC0_fr (oFr_oneI (q := 12) (m := 48) rfl (by rfl)) rfl (owC0_fr (oFr_oneI (q := 12) (m := 47) rfl (by rfl)) rfl pu118_6))) (by decide) rfl rfl rfl (Nat.le_of_ble_eq_true rfl) (oDec_at oX12_goesOn 57 rfl) (fun u164 pu164 fu164 => ?_)
                    try dsimp only at pu164
                    try simp only [lk162, lk163] at pu164
                    obtain ⟨pu164_0, pu164_1, pu164_2⟩ := pu164
                    have hq166 : oQ b (x + 1) (u164) := oQ_jn hq143 pu164_0 (by omega) (by omega) (by omega)
                    have hq167 : oqJw g fp fq cw xw b cs 3 (u164) := oqVw_lay hq144 pu164_0 (by omega) (by omega)
                    refine r_goto C (tgt := 0) (oDec_at oX12_goesOn 58 rfl) (by decide) ?_
                    have lk168 : ((u164).1 71 5).toInt = v1.toInt := congrArg Int32.toInt (((fu164 71 5 rfl).1).trans (((pI_ne (a := 71) (b := 5) (c := 71) (k := 48) _ _ (Or.inr (by decide)))).trans (((pI_ne (a := 71) (b := 5) (c := 71) (k := 47) _ _ (Or.inr (by decide)))).trans (((fu118 71 5 rfl).1).trans (((pI_ne (a := 71) (b := 5) (c := 71) (k := 2) _ _ (Or.inr (by decide)))).trans (((fu4 71 5 rfl).1).trans (ev1)))))))
                    have lk169 : ((u164).1 71 48).toInt = v129.toInt := congrArg Int32.toInt (((fu164 71 48 rfl).1).trans ((pI_self _ _ _ _)))
                    have lk170 : ((u164).1 71 2).toInt = v106.toInt := congrArg Int32.toInt (((fu164 71 2 rfl).1).trans (((pI_ne (a := 71) (b := 2) (c := 71) (k := 48) _ _ (Or.inr (by decide)))).trans (((pI_ne (a := 71) (b := 2) (c := 71) (k := 47) _ _ (Or.inr (by decide)))).trans (((fu118 71 2 rfl).1).trans ((pI_self _ _ _ _))))))
                    have lk171 : ((u164).1 71 47).toInt = v126.toInt := congrArg Int32.toInt (((fu164 71 47 rfl).1).trans (((pI_ne (a := 71) (b := 47) (c := 71) (k := 48) _ _ (Or.inr (by decide)))).trans ((pI_self _ _ _ _))))
                    have lk172 : ((u164).1 71 2).toInt = v106.toInt := congrArg Int32.toInt (((fu164 71 2 rfl).1).trans (((pI_ne (a := 71) (b := 2) (c := 71) (k := 48) _ _ (Or.inr (by decide)))).trans (((pI_ne (a := 71) (b := 2) (c := 71) (k := 47) _ _ (Or.inr (by decide)))).trans (((fu118 71 2 rfl).1).trans ((pI_self _ _ _ _))))))
                    have lk173 : ((u164).1 71 55).toInt = (t.1 71 55).toInt := congrArg Int32.toInt (((fu164 71 55 rfl).1).trans (((pI_ne (a := 71) (b := 55) (c := 71) (k := 48) _ _ (Or.inr (by decide)))).trans (((pI_ne (a := 71) (b := 55) (c := 71) (k := 47) _ _ (Or.inr (by decide)))).trans (((fu118 71 55 rfl).1).trans (((pI_ne (a := 71) (b := 55) (c := 71) (k := 2) _ _ (Or.inr (by decide)))).trans ((fu4 71 55 rfl).1))))))
                    have lk174 : ((u164).1 71 2).toInt = v106.toInt := congrArg Int32.toInt (((fu164 71 2 rfl).1).trans (((pI_ne (a := 71) (b := 2) (c := 71) (k := 48) _ _ (Or.inr (by decide)))).trans (((pI_ne (a := 71) (b := 2) (c := 71) (k := 47) _ _ (Or.inr (by decide)))).trans (((fu118 71 2 rfl).1).trans ((pI_self _ _ _ _))))))
                    exact (ih (n - 1) (by omega)).1 (u164)   (by first | exact hq166 | exact oQ_pop pu118_0 (by omega) (by omega) (by omega) (by omega)) (by omega) (by omega) (by omega) (by omega) (by omega) (oqJ_fr fu164 rfl hq130) (oqZ_fr fu164 rfl (oqZ_fr (oFr_oneI (q := 12) (m := 48) rfl (by rfl)) rfl (oqZ_fr (oFr_oneI (q := 12) (m := 47) rfl (by rfl)) rfl (oqZ_fr fu118 rfl (oqZ_fr (oFr_oneI (q := 12) (m := 2) rfl (by rfl)) rfl (oqZ_fr fu4 rfl iv7)))))) (oqBP_fr fu164 rfl (oqBP_fr (oFr_oneI (q := 12) (m := 48) rfl (by rfl)) rfl (oqBP_fr (oFr_oneI (q := 12) (m := 47) rfl (by rfl)) rfl (oqBP_fr fu118 rfl (oqBP_fr (oFr_oneI (q := 12) (m := 2) rfl (by rfl)) rfl (oqBP_fr fu4 rfl iv8)))))) (by first | exact hq167 | exact hcl.1 (by omega)) pu164_2 (by omega)
              · skip
                refine r_aload_n C (j := 0) (oDec_at oX12_goesOn 15 rfl) rfl rfl ?_
                refine r_callVi C oCl12 rfl miX12_mark mlX12_304 (ct_X12_mark l E (u4)  ) (by decide) rfl rfl rfl (Nat.le_of_ble_eq_true rfl) (oDec_at oX12_goesOn 16 rfl) (fun r176 u175 pu175 fu175 => ?_)
                try dsimp only at pu175
                have hxu175 := oFr_nil fu175; subst hxu175
                have rr176 := n_rng r176
                refine r_bipush C (oDec_at oX12_goesOn 17 rfl) (v := k24) (by rw [qk24]; rfl) ?_
                refine r_icmp_ne C 118 (oDec_at oX12_goesOn 18 rfl) (by decide) (fun cd177 => ?_) (fun cd177 => ?_)
                · skip
                  have lk178 : ((u4).1 71 5).toInt = v1.toInt := congrArg Int32.toInt (((fu4 71 5 rfl).1).trans (ev1))
                  have lk179 : ((u4).1 71 48).toInt = (t.1 71 48).toInt := congrArg Int32.toInt ((fu4 71 48 rfl).1)
                  have lk180 : ((u4).1 71 45).toInt = (t.1 71 45).toInt := congrArg Int32.toInt ((fu4 71 45 rfl).1)
                  have lk181 : ((u4).1 71 47).toInt = (t.1 71 47).toInt := congrArg Int32.toInt ((fu4 71 47 rfl).1)
                  have lk182 : ((u4).1 71 55).toInt = (t.1 71 55).toInt := congrArg Int32.toInt ((fu4 71 55 rfl).1)
                  exact (ih (n - 1) (by omega)).2.1 (u4)   (oQ_fr fu4 rfl iv0) (by omega) (by omega) (by omega) (by omega) (by omega) hq6 (oqZ_fr fu4 rfl iv7) (by omega) (by first | exact oqNc_41 (by omega) | exact oqNc_mk (oQ_fr fu4 rfl iv0) (by omega) pu14 pu96 pu175 (by omega) (by omega) (by omega) (by omega) (by omega) (by omega) | (exfalso; omega)) (oqBP_fr fu4 rfl iv8) hq7 (owC0_fr fu4 rfl iv10) (by omega)
                · skip
                  have lk183 : ((u4).1 71 4).toInt = (t.1 71 4).toInt := congrArg Int32.toInt ((fu4 71 4 rfl).1)
                  have lk184 : ((u4).1 71 5).toInt = v1.toInt := congrArg Int32.toInt (((fu4 71 5 rfl).1).trans (ev1))
                  have lk185 : ((u4).1 71 48).toInt = (t.1 71 48).toInt := congrArg Int32.toInt ((fu4 71 48 rfl).1)
                  have lk186 : ((u4).1 71 47).toInt = (t.1 71 47).toInt := congrArg Int32.toInt ((fu4 71 47 rfl).1)
                  have hq187 : oMk (r176.toInt) (u4) := pu175
                  refine r_aload_n C (j := 0) (oDec_at oX12_goesOn 19 rfl) rfl rfl ?_
                  refine r_dup C (oDec_at oX12_goesOn 20 rfl) rfl ?_
                  obtain ⟨v188, ev188⟩ : ∃ z : Int32, (u4).1 71 2 = z := ⟨_, rfl⟩
                  have gv188 : (u4.1 71 2).toInt = v188.toInt := congrArg Int32.toInt (ev188)
                  refine r_geti (k := 2) (lo := 0) (hi := 1600) C v188 oCl12 rfl (by decide) flX12_179 rfl rfl (ev188) rfl rfl (oDec_at oX12_goesOn 21 rfl) (fun b189 b189h => ?_)
                  refine r_iconst C (oDec_at oX12_goesOn 22 rfl) (v := k1) (by rw [qk1]; rfl) ?_
                  obtain ⟨v190, ev190⟩ : ∃ z : Int32, z = v188 + k1 := ⟨_, rfl⟩
                  have hv190 : v190.toInt = v188.toInt + k1.toInt := n_add ev190 (by omega) (by omega)
                  refine r_iadd C v190 (oDec_at oX12_goesOn 23 rfl) ev190 ?_
                  refine r_puti (k := 2) (lo := 0) (hi := 1600) C oCl12 rfl (by decide) flX12_179 rfl rfl rfl rfl rfl rfl rfl rfl ⟨by omega, by omega⟩ (oDec_at oX12_goesOn 24 rfl) ?_
                  refine r_pc C 53 rfl ?_
                  have lk191 : (((pI u4 71 2 v190)).1 71 2).toInt = v190.toInt := congrArg Int32.toInt ((pI_self _ _ _ _))
                  have eat : (((pI u4 71 2 v190)).1 71 2).toInt - 1 = ((u4).1 71 2).toInt := by omega
                  have hmu9 : ¬ oqMu g ((((pI u4 71 2 v190)).1 71 2).toInt - 1) := by rw [eat]; exact oqMu_no ⟨by omega, by omega⟩
                  have hq192 : oqK b (oqSg ((u4).1 103) b (((u4).1 71 47).toNatClampNeg - b)) ((pI u4 71 2 v190)) := rfl
                  have hq193 : oqOw g fp fq cw xw b cs ((pI u4 71 2 v190)) := oqOw_of hq7 oqSq_at (fun h9 => ⟨h9, by rw [hsk]; omega⟩) rfl
                  refine r_aload_n C (j := 0) (oDec_at oX12_goesOn 25 rfl) rfl rfl ?_
                  have lk194 : (((pI u4 71 2 v190)).1 71 55).toInt = (t.1 71 55).toInt := congrArg Int32.toInt (((pI_ne (a := 71) (b := 55) (c := 71) (k := 2) _ _ (Or.inr (by decide)))).trans ((fu4 71 55 rfl).1))
                  have lk195 : (((pI u4 71 2 v190)).1 71 5).toInt = v1.toInt := congrArg Int32.toInt (((pI_ne (a := 71) (b := 5) (c := 71) (k := 2) _ _ (Or.inr (by decide)))).trans (((fu4 71 5 rfl).1).trans (ev1)))
                  have lk196 : (((pI u4 71 2 v190)).1 71 45).toInt = (t.1 71 45).toInt := congrArg Int32.toInt (((pI_ne (a := 71) (b := 45) (c := 71) (k := 2) _ _ (Or.inr (by decide)))).trans ((fu4 71 45 rfl).1))
                  have lk197 : (((pI u4 71 2 v190)).1 71 47).toInt = (t.1 71 47).toInt := congrArg Int32.toInt (((pI_ne (a := 71) (b := 47) (c := 71) (k := 2) _ _ (Or.inr (by decide)))).trans ((fu4 71 47 rfl).1))
                  have lk198 : (((pI u4 71 2 v190)).1 71 2).toInt = v190.toInt := congrArg Int32.toInt ((pI_self _ _ _ _))
                  have lk199 : (((pI u4 71 2 v190)).1 71 45).toInt = (t.1 71 45).toInt := congrArg Int32.toInt (((pI_ne (a := 71) (b := 45) (c := 71) (k := 2) _ _ (Or.inr (by decide)))).trans ((fu4 71 45 rfl).1))
                  have lk200 : (((pI u4 71 2 v190)).1 71 47).toInt = (t.1 71 47).toInt := congrArg Int32.toInt (((pI_ne (a := 71) (b := 47) (c := 71) (k := 2) _ _ (Or.inr (by decide)))).trans ((fu4 71 47 rfl).1))
                  have lk201 : (((pI u4 71 2 v190)).1 71 47).toInt = (t.1 71 47).toInt := congrArg Int32.toInt (((pI_ne (a := 71) (b := 47) (c := 71) (k := 2) _ _ (Or.inr (by decide)))).trans ((fu4 71 47 rfl).1))
                  refine r_callVv C oCl12 rfl miX12_dropsToMark mlX12_307 (ct9_X12_dropsToMark l E ((pI u4 71 2 v190))  (b) (x + 1) (r176.toInt) (oqSg ((u4).1 103) b (((u4).1 71 47).toNatClampNeg - b)) (g) (fp) (fq) (cw) (xw) (cs) (Cq) (oQ_fr (oFr_oneI (q := 12) (m := 2) rfl (by rfl)) rfl (oQ_fr fu4 rfl iv0)) (oMk_fr (oFr_oneI (q := 12) (m := 2) rfl (by rfl)) rfl hq187) (by omega) (by omega) (by omega) (by omega) hq192 hq193 hmu9 (owC0_fr (oFr_oneI (q := 12) (m := 2) rfl (by rfl)) rfl (owC0_fr fu4 rfl iv10))) (by decide) rfl rfl rfl (Nat.le_of_ble_eq_true rfl) (oDec_at oX12_goesOn 26 rfl) (fun u202 pu202 fu202 => ?_)
                  try dsimp only at pu202
                  try simp only [lk194, lk195, lk196, lk197, lk198, lk199, lk200, lk201] at pu202
                  obtain ⟨pu202_0, pu202_1, pu202_2, pu202_3, pu202_4, pu202_5, pu202_6⟩ := pu202
                  have lk204 : ((u202).1 71 5).toInt = v1.toInt := congrArg Int32.toInt (((fu202 71 5 rfl).1).trans (((pI_ne (a := 71) (b := 5) (c := 71) (k := 2) _ _ (Or.inr (by decide)))).trans (((fu4 71 5 rfl).1).trans (ev1))))
                  have lk205 : ((u202).1 71 48).toInt = (t.1 71 48).toInt := congrArg Int32.toInt (((fu202 71 48 rfl).1).trans (((pI_ne (a := 71) (b := 48) (c := 71) (k := 2) _ _ (Or.inr (by decide)))).trans ((fu4 71 48 rfl).1)))
                  have lk206 : ((u202).1 71 2).toInt = v190.toInt := congrArg Int32.toInt (((fu202 71 2 rfl).1).trans ((pI_self _ _ _ _)))
                  have lk207 : ((u202).1 71 4).toInt = (t.1 71 4).toInt := congrArg Int32.toInt (((fu202 71 4 rfl).1).trans (((pI_ne (a := 71) (b := 4) (c := 71) (k := 2) _ _ (Or.inr (by decide)))).trans ((fu4 71 4 rfl).1)))
                  have htp := pu202_3 (by omega)
                  have ho1 := oQ_opn1 pu202_0 (by omega) (by omega) (by omega)
                  have hno9 : ¬ oqOp g (((u202).1 71 2).toInt - 1) := by rw [show ((u202).1 71 2).toInt - 1 = ((u4).1 71 2).toInt by omega]; exact oqOp_no ⟨by omega, by omega, by omega, by omega⟩
                  refine r_aload_n C (j := 0) (oDec_at oX12_goesOn 27 rfl) rfl rfl ?_
                  refine r_dup C (oDec_at oX12_goesOn 28 rfl) rfl ?_
                  obtain ⟨v208, ev208⟩ : ∃ z : Int32, (u202).1 71 47 = z := ⟨_, rfl⟩
                  have gv208 : (u202.1 71 47).toInt = v208.toInt := congrArg Int32.toInt (ev208)
                  refine r_geti (k := 47) (lo := 0) (hi := 1700) C v208 oCl12 rfl (by decide) flX12_277 rfl rfl (ev208) rfl rfl (oDec_at oX12_goesOn 29 rfl) (fun b209 b209h => ?_)
                  refine r_iconst C (oDec_at oX12_goesOn 30 rfl) (v := k1) (by rw [qk1]; rfl) ?_
                  refine r_pc C 63 rfl ?_
                  obtain ⟨v210, ev210⟩ : ∃ z : Int32, z = v208 - k1 := ⟨_, rfl⟩
                  have hv210 : v210.toInt = v208.toInt - k1.toInt := n_sub ev210 (by omega) (by omega)
                  refine r_isub C v210 (oDec_at oX12_goesOn 31 rfl) ev210 ?_
                  refine r_puti (k := 47) (lo := 0) (hi := 1700) C oCl12 rfl (by decide) flX12_277 rfl rfl rfl rfl rfl rfl rfl rfl ⟨by omega, by omega⟩ (oDec_at oX12_goesOn 32 rfl) ?_
                  refine r_aload_n C (j := 0) (oDec_at oX12_goesOn 33 rfl) rfl rfl ?_
                  refine r_dup C (oDec_at oX12_goesOn 34 rfl) rfl ?_
                  obtain ⟨v211, ev211⟩ : ∃ z : Int32, ((pI u202 71 47 v210)).1 71 48 = z := ⟨_, rfl⟩
                  have gv211 : (t.1 71 48).toInt = v211.toInt := congrArg Int32.toInt ((((pI_ne (a := 71) (b := 48) (c := 71) (k := 47) _ _ (Or.inr (by decide)))).trans (((fu202 71 48 rfl).1).trans (((pI_ne (a := 71) (b := 48) (c := 71) (k := 2) _ _ (Or.inr (by decide)))).trans ((fu4 71 48 rfl).1)))).symm.trans ev211)
                  have ggv211 : (((pI u202 71 47 v210)).1 71 48).toInt = v211.toInt := congrArg Int32.toInt ev211
                  refine r_geti (k := 48) (lo := (-1)) (hi := 7) C v211 oCl12 rfl (by decide) flX12_274 rfl rfl (ev211) rfl rfl (oDec_at oX12_goesOn 35 rfl) (fun b212 b212h => ?_)
                  refine r_iconst C (oDec_at oX12_goesOn 36 rfl) (v := k1) (by rw [qk1]; rfl) ?_
                  refine r_pc C 73 rfl ?_
                  obtain ⟨v213, ev213⟩ : ∃ z : Int32, z = v211 - k1 := ⟨_, rfl⟩
                  have hv213 : v213.toInt = v211.toInt - k1.toInt := n_sub ev213 (by omega) (by omega)
                  refine r_isub C v213 (oDec_at oX12_goesOn 37 rfl) ev213 ?_
                  refine r_puti (k := 48) (lo := (-1)) (hi := 7) C oCl12 rfl (by decide) flX12_274 rfl rfl rfl rfl rfl rfl rfl rfl ⟨by omega, by omega⟩ (oDec_at oX12_goesOn 38 rfl) ?_
                  have hcl : (oTop (u202) = 20 → oqJw g fp fq cw xw b cs 3 ((pI (pI u202 71 47 v210) 71 48 v213))) ∧ (oTop (u202) = 23 ∨ oTop (u202) = 24 → oqVw g fp fq cw xw b cs 3 (oTop (u202) - 18) ((pI (pI u202 71 47 v210) 71 48 v213))) := oqOw_cl pu202_5 (by omega) hno9 (by omega) (by omega) (by omega)
                  have hq214 : oqJ g fp fq cz kx b 3 ((pI (pI u202 71 47 v210) 71 48 v213)) := oqJ_cl (s := u4) hq6 (by omega) hsk (by omega) ((oFr_row fu202 (c := 103) rfl rfl).trans rfl) (by omega) (by omega) (by omega) (by omega) pu202_4 (by omega) (by omega) (by omega) (by omega)
                  refine r_aload_n C (j := 0) (oDec_at oX12_goesOn 39 rfl) rfl rfl ?_
                  refine r_getF (k := 46) (b := 103) C oCl12 rfl (by decide) flX12_111 rfl rfl rfl (oDec_at oX12_goesOn 40 rfl) ?_
                  refine r_aload_n C (j := 0) (oDec_at oX12_goesOn 41 rfl) rfl rfl ?_
                  refine r_geti (k := 47) (lo := 0) (hi := 1700) C v210 oCl12 rfl (by decide) flX12_277 rfl rfl (((pI_ne (a := 71) (b := 47) (c := 71) (k := 48) _ _ (Or.inr (by decide)))).trans ((pI_self _ _ _ _))) rfl rfl (oDec_at oX12_goesOn 42 rfl) (fun _ _ => ?_)
                  refine r_pc C 85 rfl ?_
                  obtain ⟨v216, ev216⟩ : ∃ z : Int32, ((pI (pI u202 71 47 v210) 71 48 v213)).1 103 v210.toNatClampNeg = z := ⟨_, rfl⟩
                  have av216 : t.1 103 v210.toNatClampNeg = v216 := (((pI_ne (a := 103) (b := v210.toNatClampNeg) (c := 71) _ _ (Or.inl (by decide)))).trans (((pI_ne (a := 103) (b := v210.toNatClampNeg) (c := 71) _ _ (Or.inl (by decide)))).trans (((fu202 103 v210.toNatClampNeg rfl).1).trans (((pI_ne (a := 103) (b := v210.toNatClampNeg) (c := 71) _ _ (Or.inl (by decide)))).trans ((fu4 103 v210.toNatClampNeg rfl).1))))).symm.trans ev216
                  have gv216 : (t.1 103 v210.toNatClampNeg).toInt = v216.toInt := congrArg Int32.toInt ((((pI_ne (a := 103) (b := v210.toNatClampNeg) (c := 71) _ _ (Or.inl (by decide)))).trans (((pI_ne (a := 103) (b := v210.toNatClampNeg) (c := 71) _ _ (Or.inl (by decide)))).trans (((fu202 103 v210.toNatClampNeg rfl).1).trans (((pI_ne (a := 103) (b := v210.toNatClampNeg) (c := 71) _ _ (Or.inl (by decide)))).trans ((fu4 103 v210.toNatClampNeg rfl).1))))).symm.trans ev216)
                  have rv216 := n_rng v216
                  refine r_iald (n := 1700) (lo := (-2147483648)) (hi := 2147483647) C v216 rfl (by decide) rfl rfl ⟨by omega, by omega⟩ (by decide) ev216 rfl rfl (oDec_at oX12_goesOn 43 rfl) (fun _ _ => ?_)
                  have hv0 := oTop_of (s := u202) (i := v210) ev216 (by omega)
                  refine r_bipush C (oDec_at oX12_goesOn 44 rfl) (v := k20) (by rw [qk20]; rfl) ?_
                  have lk217 : (((pI (pI u202 71 47 v210) 71 48 v213)).1 71 45).toInt = (u202.1 71 45).toInt := congrArg Int32.toInt (((pI_ne (a := 71) (b := 45) (c := 71) (k := 48) _ _ (Or.inr (by decide)))).trans ((pI_ne (a := 71) (b := 45) (c := 71) (k := 47) _ _ (Or.inr (by decide)))))
                  refine r_icmp_eq C 0 (oDec_at oX12_goesOn 45 rfl) (by decide) (fun cd218 => ?_) (fun cd218 => ?_)
                  · skip
                    have lk219 : (((pI (pI u202 71 47 v210) 71 48 v213)).1 71 5).toInt = v1.toInt := congrArg Int32.toInt (((pI_ne (a := 71) (b := 5) (c := 71) (k := 48) _ _ (Or.inr (by decide)))).trans (((pI_ne (a := 71) (b := 5) (c := 71) (k := 47) _ _ (Or.inr (by decide)))).trans (((fu202 71 5 rfl).1).trans (((pI_ne (a := 71) (b := 5) (c := 71) (k := 2) _ _ (Or.inr (by decide)))).trans (((fu4 71 5 rfl).1).trans (ev1))))))
                    have lk220 : (((pI (pI u202 71 47 v210) 71 48 v213)).1 71 48).toInt = v213.toInt := congrArg Int32.toInt ((pI_self _ _ _ _))
                    have lk221 : (((pI (pI u202 71 47 v210) 71 48 v213)).1 71 2).toInt = v190.toInt := congrArg Int32.toInt (((pI_ne (a := 71) (b := 2) (c := 71) (k := 48) _ _ (Or.inr (by decide)))).trans (((pI_ne (a := 71) (b := 2) (c := 71) (k := 47) _ _ (Or.inr (by decide)))).trans (((fu202 71 2 rfl).1).trans ((pI_self _ _ _ _)))))
                    have lk222 : (((pI (pI u202 71 47 v210) 71 48 v213)).1 71 45).toInt = (u202.1 71 45).toInt := congrArg Int32.toInt (((pI_ne (a := 71) (b := 45) (c := 71) (k := 48) _ _ (Or.inr (by decide)))).trans ((pI_ne (a := 71) (b := 45) (c := 71) (k := 47) _ _ (Or.inr (by decide)))))
                    have lk223 : (((pI (pI u202 71 47 v210) 71 48 v213)).1 71 47).toInt = v210.toInt := congrArg Int32.toInt (((pI_ne (a := 71) (b := 47) (c := 71) (k := 48) _ _ (Or.inr (by decide)))).trans ((pI_self _ _ _ _)))
                    have lk224 : (((pI (pI u202 71 47 v210) 71 48 v213)).1 71 2).toInt = v190.toInt := congrArg Int32.toInt (((pI_ne (a := 71) (b := 2) (c := 71) (k := 48) _ _ (Or.inr (by decide)))).trans (((pI_ne (a := 71) (b := 2) (c := 71) (k := 47) _ _ (Or.inr (by decide)))).trans (((fu202 71 2 rfl).1).trans ((pI_self _ _ _ _)))))
                    have lk225 : (((pI (pI u202 71 47 v210) 71 48 v213)).1 71 55).toInt = (t.1 71 55).toInt := congrArg Int32.toInt (((pI_ne (a := 71) (b := 55) (c := 71) (k := 48) _ _ (Or.inr (by decide)))).trans (((pI_ne (a := 71) (b := 55) (c := 71) (k := 47) _ _ (Or.inr (by decide)))).trans (((fu202 71 55 rfl).1).trans (((pI_ne (a := 71) (b := 55) (c := 71) (k := 2) _ _ (Or.inr (by decide)))).trans ((fu4 71 55 rfl).1)))))
                    have lk226 : (((pI (pI u202 71 47 v210) 71 48 v213)).1 71 2).toInt = v190.toInt := congrArg Int32.toInt (((pI_ne (a := 71) (b := 2) (c := 71) (k := 48) _ _ (Or.inr (by decide)))).trans (((pI_ne (a := 71) (b := 2) (c := 71) (k := 47) _ _ (Or.inr (by decide)))).trans (((fu202 71 2 rfl).1).trans ((pI_self _ _ _ _)))))
                    exact (ih (n - 1) (by omega)).1 ((pI (pI u202 71 47 v210) 71 48 v213))   (by first | exact (by assumption) | exact oQ_pop pu202_0 (by omega) (by omega) (by omega) (by omega)) (by omega) (by omega) (by omega) (by omega) (by omega) hq214 (oqZ_fr (oFr_oneI (q := 12) (m := 48) rfl (by rfl)) rfl (oqZ_fr (oFr_oneI (q := 12) (m := 47) rfl (by rfl)) rfl (oqZ_fr fu202 rfl (oqZ_fr (oFr_oneI (q := 12) (m := 2) rfl (by rfl)) rfl (oqZ_fr fu4 rfl iv7))))) (oqBP_fr (oFr_oneI (q := 12) (m := 48) rfl (by rfl)) rfl (oqBP_fr (oFr_oneI (q := 12) (m := 47) rfl (by rfl)) rfl (oqBP_fr fu202 rfl (oqBP_fr (oFr_oneI (q := 12) (m := 2) rfl (by rfl)) rfl (oqBP_fr fu4 rfl iv8))))) (by first | exact (by assumption) | exact hcl.1 (by omega)) (owC0_fr (oFr_oneI (q := 12) (m := 48) rfl (by rfl)) rfl (owC0_fr (oFr_oneI (q := 12) (m := 47) rfl (by rfl)) rfl pu202_6)) (by omega)
                  · skip
                    have hq227 : oQ b (x + 1 + 1) ((pI (pI u202 71 47 v210) 71 48 v213)) := oQ_popN pu202_0 (by omega) (by omega) (by omega) (by omega)
                    have hq228 : oqVw g fp fq cw xw b cs 3 (oTop (u202) - 18) ((pI (pI u202 71 47 v210) 71 48 v213)) := hcl.2 (by omega)
                    refine r_aload_n C (j := 0) (oDec_at oX12_goesOn 46 rfl) rfl rfl ?_
                    refine r_aload_n C (j := 0) (oDec_at oX12_goesOn 47 rfl) rfl rfl ?_
                    refine r_getF (k := 46) (b := 103) C oCl12 rfl (by decide) flX12_111 rfl rfl rfl (oDec_at oX12_goesOn 48 rfl) ?_
                    refine r_aload_n C (j := 0) (oDec_at oX12_goesOn 49 rfl) rfl rfl ?_
                    refine r_geti (k := 47) (lo := 0) (hi := 1700) C v210 oCl12 rfl (by decide) flX12_277 rfl rfl (((pI_ne (a := 71) (b := 47) (c := 71) (k := 48) _ _ (Or.inr (by decide)))).trans ((pI_self _ _ _ _))) rfl rfl (oDec_at oX12_goesOn 50 rfl) (fun _ _ => ?_)
                    refine r_iald (n := 1700) (lo := (-2147483648)) (hi := 2147483647) C v216 rfl (by decide) rfl rfl ⟨by omega, by omega⟩ (by decide) (ev216) rfl rfl (oDec_at oX12_goesOn 51 rfl) (fun _ _ => ?_)
                    refine r_pc C 101 rfl ?_
                    refine r_bipush C (oDec_at oX12_goesOn 52 rfl) (v := k23) (by rw [qk23]; rfl) ?_
                    refine r_icmp_ne C 110 (oDec_at oX12_goesOn 53 rfl) (by decide) (fun cd230 => ?_) (fun cd230 => ?_)
                    · skip
                      refine r_bipush C (oDec_at oX12_goesOn 56 rfl) (v := k6) (by rw [qk6]; rfl) ?_
                      have lk231 : (((pI (pI u202 71 47 v210) 71 48 v213)).1 71 45).toInt = (u202.1 71 45).toInt := congrArg Int32.toInt (((pI_ne (a := 71) (b := 45) (c := 71) (k := 48) _ _ (Or.inr (by decide)))).trans ((pI_ne (a := 71) (b := 45) (c := 71) (k := 47) _ _ (Or.inr (by decide)))))
                      have lk232 : (((pI (pI u202 71 47 v210) 71 48 v213)).1 71 45).toInt = (u202.1 71 45).toInt := congrArg Int32.toInt (((pI_ne (a := 71) (b := 45) (c := 71) (k := 48) _ _ (Or.inr (by decide)))).trans ((pI_ne (a := 71) (b := 45) (c := 71) (k := 47) _ _ (Or.inr (by decide)))))
                      have lk233 : (((pI (pI u202 71 47 v210) 71 48 v213)).1 71 45).toInt = (u202.1 71 45).toInt := congrArg Int32.toInt (((pI_ne (a := 71) (b := 45) (c := 71) (k := 48) _ _ (Or.inr (by decide)))).trans ((pI_ne (a := 71) (b := 45) (c := 71) (k := 47) _ _ (Or.inr (by decide)))))
                      refine r_callVv C oCl12 rfl miX12_lay mlX12_280 (ct9_X12_lay l E ((pI (pI u202 71 47 v210) 71 48 v213)) k6 (Cq) (by omega) (owC0_fr (oFr_oneI (q := 12) (m := 48) rfl (by rfl)) rfl (owC0_fr (oFr_oneI (q := 12) (m := 47) rfl (by rfl)) rfl pu202_6))) (by decide) rfl rfl rfl (Nat.le_of_ble_eq_true rfl) (oDec_at oX12_goesOn 57 rfl) (fun u234 pu234 fu234 => ?_)
                      try dsimp only at pu234
                      try simp only [lk232, lk233] at pu234
                      obtain ⟨pu234_0, pu234_1, pu234_2⟩ := pu234
                      have hq236 : oQ b (x + 1) (u234) := oQ_jn hq227 pu234_0 (by omega) (by omega) (by omega)
                      have hq237 : oqJw g fp fq cw xw b cs 3 (u234) := oqVw_lay hq228 pu234_0 (by omega) (by omega)
                      refine r_goto C (tgt := 0) (oDec_at oX12_goesOn 58 rfl) (by decide) ?_
                      have lk238 : ((u234).1 71 5).toInt = v1.toInt := congrArg Int32.toInt (((fu234 71 5 rfl).1).trans (((pI_ne (a := 71) (b := 5) (c := 71) (k := 48) _ _ (Or.inr (by decide)))).trans (((pI_ne (a := 71) (b := 5) (c := 71) (k := 47) _ _ (Or.inr (by decide)))).trans (((fu202 71 5 rfl).1).trans (((pI_ne (a := 71) (b := 5) (c := 71) (k := 2) _ _ (Or.inr (by decide)))).trans (((fu4 71 5 rfl).1).trans (ev1)))))))
                      have lk239 : ((u234).1 71 48).toInt = v213.toInt := congrArg Int32.toInt (((fu234 71 48 rfl).1).trans ((pI_self _ _ _ _)))
                      have lk240 : ((u234).1 71 2).toInt = v190.toInt := congrArg Int32.toInt (((fu234 71 2 rfl).1).trans (((pI_ne (a := 71) (b := 2) (c := 71) (k := 48) _ _ (Or.inr (by decide)))).trans (((pI_ne (a := 71) (b := 2) (c := 71) (k := 47) _ _ (Or.inr (by decide)))).trans (((fu202 71 2 rfl).1).trans ((pI_self _ _ _ _))))))
                      have lk241 : ((u234).1 71 47).toInt = v210.toInt := congrArg Int32.toInt (((fu234 71 47 rfl).1).trans (((pI_ne (a := 71) (b := 47) (c := 71) (k := 48) _ _ (Or.inr (by decide)))).trans ((pI_self _ _ _ _))))
                      have lk242 : ((u234).1 71 2).toInt = v190.toInt := congrArg Int32.toInt (((fu234 71 2 rfl).1).trans (((pI_ne (a := 71) (b := 2) (c := 71) (k := 48) _ _ (Or.inr (by decide)))).trans (((pI_ne (a := 71) (b := 2) (c := 71) (k := 47) _ _ (Or.inr (by decide)))).trans (((fu202 71 2 rfl).1).trans ((pI_self _ _ _ _))))))
                      have lk243 : ((u234).1 71 55).toInt = (t.1 71 55).toInt := congrArg Int32.toInt (((fu234 71 55 rfl).1).trans (((pI_ne (a := 71) (b := 55) (c := 71) (k := 48) _ _ (Or.inr (by decide)))).trans (((pI_ne (a := 71) (b := 55) (c := 71) (k := 47) _ _ (Or.inr (by decide)))).trans (((fu202 71 55 rfl).1).trans (((pI_ne (a := 71) (b := 55) (c := 71) (k := 2) _ _ (Or.inr (by decide)))).trans ((fu4 71 55 rfl).1))))))
                      have lk244 : ((u234).1 71 2).toInt = v190.toInt := congrArg Int32.toInt (((fu234 71 2 rfl).1).trans (((pI_ne (a := 71) (b := 2) (c := 71) (k := 48) _ _ (Or.inr (by decide)))).trans (((pI_ne (a := 71) (b := 2) (c := 71) (k := 47) _ _ (Or.inr (by decide)))).trans (((fu202 71 2 rfl).1).trans ((pI_self _ _ _ _))))))
                      exact (ih (n - 1) (by omega)).1 (u234)   (by first | exact hq236 | exact oQ_pop pu202_0 (by omega) (by omega) (by omega) (by omega)) (by omega) (by omega) (by omega) (by omega) (by omega) (oqJ_fr fu234 rfl hq214) (oqZ_fr fu234 rfl (oqZ_fr (oFr_oneI (q := 12) (m := 48) rfl (by rfl)) rfl (oqZ_fr (oFr_oneI (q := 12) (m := 47) rfl (by rfl)) rfl (oqZ_fr fu202 rfl (oqZ_fr (oFr_oneI (q := 12) (m := 2) rfl (by rfl)) rfl (oqZ_fr fu4 rfl iv7)))))) (oqBP_fr fu234 rfl (oqBP_fr (oFr_oneI (q := 12) (m := 48) rfl (by rfl)) rfl (oqBP_fr (oFr_oneI (q := 12) (m := 47) rfl (by rfl)) rfl (oqBP_fr fu202 rfl (oqBP_fr (oFr_oneI (q := 12) (m := 2) rfl (by rfl)) rfl (oqBP_fr fu4 rfl iv8)))))) (by first | exact hq237 | exact hcl.1 (by omega)) pu234_2 (by omega)
                    · skip
                      refine r_iconst C (oDec_at oX12_goesOn 54 rfl) (v := k5) (by rw [qk5]; rfl) ?_
                      refine r_goto C (tgt := 112) (oDec_at oX12_goesOn 55 rfl) (by decide) ?_
                      have lk245 : (((pI (pI u202 71 47 v210) 71 48 v213)).1 71 45).toInt = (u202.1 71 45).toInt := congrArg Int32.toInt (((pI_ne (a := 71) (b := 45) (c := 71) (k := 48) _ _ (Or.inr (by decide)))).trans ((pI_ne (a := 71) (b := 45) (c := 71) (k := 47) _ _ (Or.inr (by decide)))))
                      have lk246 : (((pI (pI u202 71 47 v210) 71 48 v213)).1 71 45).toInt = (u202.1 71 45).toInt := congrArg Int32.toInt (((pI_ne (a := 71) (b := 45) (c := 71) (k := 48) _ _ (Or.inr (by decide)))).trans ((pI_ne (a := 71) (b := 45) (c := 71) (k := 47) _ _ (Or.inr (by decide)))))
                      have lk247 : (((pI (pI u202 71 47 v210) 71 48 v213)).1 71 45).toInt = (u202.1 71 45).toInt := congrArg Int32.toInt (((pI_ne (a := 71) (b := 45) (c := 71) (k := 48) _ _ (Or.inr (by decide)))).trans ((pI_ne (a := 71) (b := 45) (c := 71) (k := 47) _ _ (Or.inr (by decide)))))
                      refine r_callVv C oCl12 rfl miX12_lay mlX12_280 (ct9_X12_lay l E ((pI (pI u202 71 47 v210) 71 48 v213)) k5 (Cq) (by omega) (owC0_fr (oFr_oneI (q := 12) (m := 48) rfl (by rfl)) rfl (owC0_fr (oFr_oneI (q := 12) (m := 47) rfl (by rfl)) rfl pu202_6))) (by decide) rfl rfl rfl (Nat.le_of_ble_eq_true rfl) (oDec_at oX12_goesOn 57 rfl) (fun u248 pu248 fu248 => ?_)
                      try dsimp only at pu248
                      try simp only [lk246, lk247] at pu248
                      obtain ⟨pu248_0, pu248_1, pu248_2⟩ := pu248
                      have hq250 : oQ b (x + 1) (u248) := oQ_jn hq227 pu248_0 (by omega) (by omega) (by omega)
                      have hq251 : oqJw g fp fq cw xw b cs 3 (u248) := oqVw_lay hq228 pu248_0 (by omega) (by omega)
                      refine r_goto C (tgt := 0) (oDec_at oX12_goesOn 58 rfl) (by decide) ?_
                      have lk252 : ((u248).1 71 5).toInt = v1.toInt := congrArg Int32.toInt (((fu248 71 5 rfl).1).trans (((pI_ne (a := 71) (b := 5) (c := 71) (k := 48) _ _ (Or.inr (by decide)))).trans (((pI_ne (a := 71) (b := 5) (c := 71) (k := 47) _ _ (Or.inr (by decide)))).trans (((fu202 71 5 rfl).1).trans (((pI_ne (a := 71) (b := 5) (c := 71) (k := 2) _ _ (Or.inr (by decide)))).trans (((fu4 71 5 rfl).1).trans (ev1)))))))
                      have lk253 : ((u248).1 71 48).toInt = v213.toInt := congrArg Int32.toInt (((fu248 71 48 rfl).1).trans ((pI_self _ _ _ _)))
                      have lk254 : ((u248).1 71 2).toInt = v190.toInt := congrArg Int32.toInt (((fu248 71 2 rfl).1).trans (((pI_ne (a := 71) (b := 2) (c := 71) (k := 48) _ _ (Or.inr (by decide)))).trans (((pI_ne (a := 71) (b := 2) (c := 71) (k := 47) _ _ (Or.inr (by decide)))).trans (((fu202 71 2 rfl).1).trans ((pI_self _ _ _ _))))))
                      have lk255 : ((u248).1 71 47).toInt = v210.toInt := congrArg Int32.toInt (((fu248 71 47 rfl).1).trans (((pI_ne (a := 71) (b := 47) (c := 71) (k := 48) _ _ (Or.inr (by decide)))).trans ((pI_self _ _ _ _))))
                      have lk256 : ((u248).1 71 2).toInt = v190.toInt := congrArg Int32.toInt (((fu248 71 2 rfl).1).trans (((pI_ne (a := 71) (b := 2) (c := 71) (k := 48) _ _ (Or.inr (by decide)))).trans (((pI_ne (a := 71) (b := 2) (c := 71) (k := 47) _ _ (Or.inr (by decide)))).trans (((fu202 71 2 rfl).1).trans ((pI_self _ _ _ _))))))
                      have lk257 : ((u248).1 71 55).toInt = (t.1 71 55).toInt := congrArg Int32.toInt (((fu248 71 55 rfl).1).trans (((pI_ne (a := 71) (b := 55) (c := 71) (k := 48) _ _ (Or.inr (by decide)))).trans (((pI_ne (a := 71) (b := 55) (c := 71) (k := 47) _ _ (Or.inr (by decide)))).trans (((fu202 71 55 rfl).1).trans (((pI_ne (a := 71) (b := 55) (c := 71) (k := 2) _ _ (Or.inr (by decide)))).trans ((fu4 71 55 rfl).1))))))
                      have lk258 : ((u248).1 71 2).toInt = v190.toInt := congrArg Int32.toInt (((fu248 71 2 rfl).1).trans (((pI_ne (a := 71) (b := 2) (c := 71) (k := 48) _ _ (Or.inr (by decide)))).trans (((pI_ne (a := 71) (b := 2) (c := 71) (k := 47) _ _ (Or.inr (by decide)))).trans (((fu202 71 2 rfl).1).trans ((pI_self _ _ _ _))))))
                      exact (ih (n - 1) (by omega)).1 (u248)   (by first | exact hq250 | exact oQ_pop pu202_0 (by omega) (by omega) (by omega) (by omega)) (by omega) (by omega) (by omega) (by omega) (by omega) (oqJ_fr fu248 rfl hq214) (oqZ_fr fu248 rfl (oqZ_fr (oFr_oneI (q := 12) (m := 48) rfl (by rfl)) rfl (oqZ_fr (oFr_oneI (q := 12) (m := 47) rfl (by rfl)) rfl (oqZ_fr fu202 rfl (oqZ_fr (oFr_oneI (q := 12) (m := 2) rfl (by rfl)) rfl (oqZ_fr fu4 rfl iv7)))))) (oqBP_fr fu248 rfl (oqBP_fr (oFr_oneI (q := 12) (m := 48) rfl (by rfl)) rfl (oqBP_fr (oFr_oneI (q := 12) (m := 47) rfl (by rfl)) rfl (oqBP_fr fu202 rfl (oqBP_fr (oFr_oneI (q := 12) (m := 2) rfl (by rfl)) rfl (oqBP_fr fu4 rfl iv8)))))) (by first | exact hq251 | exact hcl.1 (by omega)) pu248_2 (by omega)
      · intro t   iv0 iv1 iv2 iv3 iv4 iv5 iv6 iv7 iv8 iv9 iv10 iv11 iv12 hmu
        refine r_ty C (fun hty => ?_)
        have hty_coded : (0 : Int) ≤ ((t).1 71 45).toInt ∧ ((t).1 71 45).toInt ≤ 1600 := hty.1 71 45
        have hty_waits : (0 : Int) ≤ ((t).1 71 47).toInt ∧ ((t).1 71 47).toInt ≤ 1700 := hty.1 71 47
        have hty_at : (0 : Int) ≤ ((t).1 71 2).toInt ∧ ((t).1 71 2).toInt ≤ 1600 := hty.1 71 2
        clear hty
        obtain ⟨hk, hhk⟩ : ∃ z : Int, oqHs b t = z := ⟨_, rfl⟩
        have hg5 : g (oqSk g (t.1 71 2).toInt) = g (t.1 71 2).toInt := by rw [show oqSk g (t.1 71 2).toInt = (t.1 71 2).toInt by omega]
        have hq259 : oqHq b hk (t) := hhk
        refine r_aload_n C (j := 0) (oDec_at oX12_goesOn 59 rfl) rfl rfl ?_
        refine r_bipush C (oDec_at oX12_goesOn 60 rfl) (v := k42) (by rw [qk42]; rfl) ?_
        refine r_callVi C oCl12 rfl miX12_takesSign mlX12_207 (ct6_X12_takesSign l E (t) k42 (g) ((t.1 71 2).toInt) (42) (by omega) iv7 (by omega) (by omega)) (by decide) rfl rfl rfl (Nat.le_of_ble_eq_true rfl) (oDec_at oX12_goesOn 61 rfl) (fun r261 u260 pu260 fu260 => ?_)
        try dsimp only at pu260
        obtain ⟨pu260_0, pu260_1, pu260_2, pu260_3, pu260_4⟩ := pu260
        have rr261 := n_rng r261
        refine r_if_ne C 136 (oDec_at oX12_goesOn 62 rfl) (by decide) (fun cd262 => ?_) (fun cd262 => ?_)
        · skip
          replace pu260_1 := pu260_1 (by omega)
          clear pu260_2
          have lk263 : ((u260).1 71 4).toInt = (t.1 71 4).toInt := congrArg Int32.toInt ((fu260 71 4 rfl).1)
          have lk264 : ((u260).1 71 5).toInt = (t.1 71 5).toInt := congrArg Int32.toInt ((fu260 71 5 rfl).1)
          have lk265 : ((u260).1 71 48).toInt = (t.1 71 48).toInt := congrArg Int32.toInt ((fu260 71 48 rfl).1)
          have lk266 : ((u260).1 71 47).toInt = (t.1 71 47).toInt := congrArg Int32.toInt ((fu260 71 47 rfl).1)
          clear pu260_3
          have hq267 : oqJ g fp fq cz kx b 1 (u260) := oqJ_go iv6 (by omega) (by omega) (oFr_row fu260 (c := 103) rfl rfl) (congrArg Int32.toInt (fu260 71 47 rfl).1) (oqs_op (g := g) (p := fp) (q := fq) (a := (t.1 71 2).toInt) (b := (t.1 71 4).toInt) (o := (t.1 71 48).toInt) (by unfold oqOp; omega)) (by rw [show ((t).1 71 2).toInt = (t.1 71 2).toInt by omega]; omega) (by first | omega | (congr 1; omega)) (by first | omega | (congr 1; omega)) (by first | omega | (congr 1; omega)) (by first | omega | (congr 1; omega)) (by first | omega | (congr 1; omega))
          have hq268 : oqOw g fp fq cw xw b cs (u260) := oqOw_of iv11 (oqSq_of fu260 rfl) (fun h9 => ⟨by omega, by rw [show ((t).1 71 2).toInt = (t.1 71 2).toInt by omega]; omega⟩) (congrArg Int32.toInt (fu260 71 4 rfl).1)
          refine r_aload_n C (j := 0) (oDec_at oX12_goesOn 67 rfl) rfl rfl ?_
          refine r_getF (k := 0) (b := 72) C oCl12 rfl (by decide) flX12_7 rfl rfl rfl (oDec_at oX12_goesOn 68 rfl) ?_
          refine r_aload_n C (j := 0) (oDec_at oX12_goesOn 69 rfl) rfl rfl ?_
          obtain ⟨v269, ev269⟩ : ∃ z : Int32, (u260).1 71 2 = z := ⟨_, rfl⟩
          have gv269 : (u260.1 71 2).toInt = v269.toInt := congrArg Int32.toInt (ev269)
          refine r_geti (k := 2) (lo := 0) (hi := 1600) C v269 oCl12 rfl (by decide) flX12_179 rfl rfl (ev269) rfl rfl (oDec_at oX12_goesOn 70 rfl) (fun b270 b270h => ?_)
          refine r_iconst C (oDec_at oX12_goesOn 71 rfl) (v := k1) (by rw [qk1]; rfl) ?_
          obtain ⟨v271, ev271⟩ : ∃ z : Int32, z = v269 - k1 := ⟨_, rfl⟩
          have hv271 : v271.toInt = v269.toInt - k1.toInt := n_sub ev271 (by omega) (by omega)
          refine r_isub C v271 (oDec_at oX12_goesOn 72 rfl) ev271 ?_
          refine r_pc C 146 rfl ?_
          obtain ⟨v273, ev273⟩ : ∃ z : Int32, (u260).1 72 v271.toNatClampNeg = z := ⟨_, rfl⟩
          have av273 : t.1 72 v271.toNatClampNeg = v273 := ((fu260 72 v271.toNatClampNeg rfl).1).symm.trans ev273
          have gv273 : (t.1 72 v271.toNatClampNeg).toInt = v273.toInt := congrArg Int32.toInt (((fu260 72 v271.toNatClampNeg rfl).1).symm.trans ev273)
          refine r_iald (n := 1600) (lo := 0) (hi := 255) C v273 rfl (by decide) rfl rfl ⟨by omega, by omega⟩ (by decide) ev273 rfl rfl (oDec_at oX12_goesOn 73 rfl) (fun b272 b272h => ?_)
          have lk274 : ((u260).1 71 2).toInt = v269.toInt := congrArg Int32.toInt (ev269)
          have hgc := oqZ_rd (a := ((u260).1 71 2).toInt - 1) (oqZ_fr fu260 rfl iv7) ev273 (by omega) (by omega) (by rw [show ((u260).1 71 2).toInt - 1 = oqSk g (t.1 71 2).toInt by omega]; omega)
          have hoc := oqOc_v (g := g) (a := ((u260).1 71 2).toInt - 1)
          have hgd : g (((u260).1 71 2).toInt - 1) = g (oqSk g (t.1 71 2).toInt) := by rw [show ((u260).1 71 2).toInt - 1 = oqSk g (t.1 71 2).toInt by omega]
          refine r_bipush C (oDec_at oX12_goesOn 74 rfl) (v := k42) (by rw [qk42]; rfl) ?_
          refine r_icmp_ne C 156 (oDec_at oX12_goesOn 75 rfl) (by decide) (fun cd275 => ?_) (fun cd275 => ?_)
          · skip
            refine r_iconst C (oDec_at oX12_goesOn 78 rfl) (v := k4) (by rw [qk4]; rfl) ?_
            refine r_istore_n C (lv' := [(0, .ref (oad E 71)), (1, .int k4)]) [1, 0] (oDec_at oX12_goesOn 79 rfl) rfl (by decide) rfl ?_
            have lk276 : ((u260).1 71 5).toInt = (t.1 71 5).toInt := congrArg Int32.toInt ((fu260 71 5 rfl).1)
            have lk277 : ((u260).1 71 48).toInt = (t.1 71 48).toInt := congrArg Int32.toInt ((fu260 71 48 rfl).1)
            have lk278 : ((u260).1 71 2).toInt = v269.toInt := congrArg Int32.toInt (ev269)
            have lk279 : ((u260).1 71 45).toInt = (t.1 71 45).toInt := congrArg Int32.toInt ((fu260 71 45 rfl).1)
            have lk280 : ((u260).1 71 47).toInt = (t.1 71 47).toInt := congrArg Int32.toInt ((fu260 71 47 rfl).1)
            have lk281 : ((u260).1 71 2).toInt = v269.toInt := congrArg Int32.toInt (ev269)
            have lk282 : ((u260).1 71 2).toInt = v269.toInt := congrArg Int32.toInt (ev269)
            have lk283 : ((u260).1 71 47).toInt = (t.1 71 47).toInt := congrArg Int32.toInt ((fu260 71 47 rfl).1)
            exact (ih (n - 1) (by omega)).2.2.1 (u260) k4  (oQ_fr fu260 rfl iv0) (by omega) (by omega) (by omega) (by omega) (by omega) hq267 (oqBP_fr fu260 rfl iv10) hq268 (by first | omega | (rw [show ((u260).1 71 2).toInt = (t.1 71 2).toInt by omega]; omega)) (owC0_fr fu260 rfl iv12) (by omega)
          · skip
            refine r_iconst C (oDec_at oX12_goesOn 76 rfl) (v := k3) (by rw [qk3]; rfl) ?_
            refine r_goto C (tgt := 157) (oDec_at oX12_goesOn 77 rfl) (by decide) ?_
            refine r_istore_n C (lv' := [(0, .ref (oad E 71)), (1, .int k3)]) [1, 0] (oDec_at oX12_goesOn 79 rfl) rfl (by decide) rfl ?_
            have lk284 : ((u260).1 71 5).toInt = (t.1 71 5).toInt := congrArg Int32.toInt ((fu260 71 5 rfl).1)
            have lk285 : ((u260).1 71 48).toInt = (t.1 71 48).toInt := congrArg Int32.toInt ((fu260 71 48 rfl).1)
            have lk286 : ((u260).1 71 2).toInt = v269.toInt := congrArg Int32.toInt (ev269)
            have lk287 : ((u260).1 71 45).toInt = (t.1 71 45).toInt := congrArg Int32.toInt ((fu260 71 45 rfl).1)
            have lk288 : ((u260).1 71 47).toInt = (t.1 71 47).toInt := congrArg Int32.toInt ((fu260 71 47 rfl).1)
            have lk289 : ((u260).1 71 2).toInt = v269.toInt := congrArg Int32.toInt (ev269)
            have lk290 : ((u260).1 71 2).toInt = v269.toInt := congrArg Int32.toInt (ev269)
            have lk291 : ((u260).1 71 47).toInt = (t.1 71 47).toInt := congrArg Int32.toInt ((fu260 71 47 rfl).1)
            exact (ih (n - 1) (by omega)).2.2.1 (u260) k3  (oQ_fr fu260 rfl iv0) (by omega) (by omega) (by omega) (by omega) (by omega) hq267 (oqBP_fr fu260 rfl iv10) hq268 (by first | omega | (rw [show ((u260).1 71 2).toInt = (t.1 71 2).toInt by omega]; omega)) (owC0_fr fu260 rfl iv12) (by omega)
        · skip
          clear pu260_1
          replace pu260_2 := pu260_2 (by omega)
          have lk292 : ((u260).1 71 4).toInt = (t.1 71 4).toInt := congrArg Int32.toInt ((fu260 71 4 rfl).1)
          have lk293 : ((u260).1 71 5).toInt = (t.1 71 5).toInt := congrArg Int32.toInt ((fu260 71 5 rfl).1)
          have lk294 : ((u260).1 71 48).toInt = (t.1 71 48).toInt := congrArg Int32.toInt ((fu260 71 48 rfl).1)
          have lk295 : ((u260).1 71 47).toInt = (t.1 71 47).toInt := congrArg Int32.toInt ((fu260 71 47 rfl).1)
          replace pu260_2 := pu260_2 (by omega)
          clear pu260_3
          have hq296 : oqJ g fp fq cz kx b 3 (u260) := oqJ_id iv6 (oFr_row fu260 (c := 103) rfl rfl) (congrArg Int32.toInt (fu260 71 5 rfl).1) (congrArg Int32.toInt (fu260 71 47 rfl).1) (by rw [show ((u260).1 71 2).toInt = ((t).1 71 2).toInt by omega]) (congrArg Int32.toInt (fu260 71 4 rfl).1) (congrArg Int32.toInt (fu260 71 48 rfl).1) (congrArg Int32.toInt (fu260 71 6 rfl).1)
          have hq297 : oqJw g fp fq cw xw b cs 3 (u260) := oqJw_id iv11 (oqSq_of fu260 rfl) (fun h9 => (congrArg Int32.toInt (fu260 71 5 rfl).1).symm.trans h9) (by rw [show ((u260).1 71 2).toInt = ((t).1 71 2).toInt by omega]) (congrArg Int32.toInt (fu260 71 4 rfl).1)
          refine r_aload_n C (j := 0) (oDec_at oX12_goesOn 63 rfl) rfl rfl ?_
          refine r_bipush C (oDec_at oX12_goesOn 64 rfl) (v := k47) (by rw [qk47]; rfl) ?_
          have lk298 : ((u260).1 71 5).toInt = (t.1 71 5).toInt := congrArg Int32.toInt ((fu260 71 5 rfl).1)
          have lk299 : ((u260).1 71 5).toInt = (t.1 71 5).toInt := congrArg Int32.toInt ((fu260 71 5 rfl).1)
          have lk300 : ((u260).1 71 5).toInt = (t.1 71 5).toInt := congrArg Int32.toInt ((fu260 71 5 rfl).1)
          have lk301 : ((u260).1 71 5).toInt = (t.1 71 5).toInt := congrArg Int32.toInt ((fu260 71 5 rfl).1)
          refine r_callVi C oCl12 rfl miX12_takesSign mlX12_207 (ct6_X12_takesSign l E (u260) k47 (g) ((t.1 71 2).toInt) (47) (by omega) (oqZ_fr fu260 rfl iv7) (by omega) (by omega)) (by decide) rfl rfl rfl (Nat.le_of_ble_eq_true rfl) (oDec_at oX12_goesOn 65 rfl) (fun r303 u302 pu302 fu302 => ?_)
          try dsimp only at pu302
          try simp only [lk298, lk299, lk300, lk301] at pu302
          obtain ⟨pu302_0, pu302_1, pu302_2, pu302_3, pu302_4⟩ := pu302
          have rr303 := n_rng r303
          refine r_if_eq C 203 (oDec_at oX12_goesOn 66 rfl) (by decide) (fun cd304 => ?_) (fun cd304 => ?_)
          · skip
            clear pu302_1
            replace pu302_2 := pu302_2 (by omega)
            have lk305 : ((u302).1 71 4).toInt = (t.1 71 4).toInt := congrArg Int32.toInt (((fu302 71 4 rfl).1).trans ((fu260 71 4 rfl).1))
            have lk306 : ((u302).1 71 5).toInt = (t.1 71 5).toInt := congrArg Int32.toInt (((fu302 71 5 rfl).1).trans ((fu260 71 5 rfl).1))
            have lk307 : ((u302).1 71 48).toInt = (t.1 71 48).toInt := congrArg Int32.toInt (((fu302 71 48 rfl).1).trans ((fu260 71 48 rfl).1))
            have lk308 : ((u302).1 71 47).toInt = (t.1 71 47).toInt := congrArg Int32.toInt (((fu302 71 47 rfl).1).trans ((fu260 71 47 rfl).1))
            replace pu302_2 := pu302_2 (by omega)
            clear pu302_3
            have hq309 : oqJ g fp fq cz kx b 3 (u302) := oqJ_id hq296 (oFr_row fu302 (c := 103) rfl rfl) (congrArg Int32.toInt (fu302 71 5 rfl).1) (congrArg Int32.toInt (fu302 71 47 rfl).1) (by rw [show ((u302).1 71 2).toInt = ((u260).1 71 2).toInt by omega]) (congrArg Int32.toInt (fu302 71 4 rfl).1) (congrArg Int32.toInt (fu302 71 48 rfl).1) (congrArg Int32.toInt (fu302 71 6 rfl).1)
            have hq310 : oqJw g fp fq cw xw b cs 3 (u302) := oqJw_id hq297 (oqSq_of fu302 rfl) (fun h9 => (congrArg Int32.toInt (fu302 71 5 rfl).1).symm.trans h9) (by rw [show ((u302).1 71 2).toInt = ((u260).1 71 2).toInt by omega]) (congrArg Int32.toInt (fu302 71 4 rfl).1)
            refine r_aload_n C (j := 0) (oDec_at oX12_goesOn 105 rfl) rfl rfl ?_
            refine r_bipush C (oDec_at oX12_goesOn 106 rfl) (v := k43) (by rw [qk43]; rfl) ?_
            have lk311 : ((u302).1 71 5).toInt = (t.1 71 5).toInt := congrArg Int32.toInt (((fu302 71 5 rfl).1).trans ((fu260 71 5 rfl).1))
            have lk312 : ((u302).1 71 5).toInt = (t.1 71 5).toInt := congrArg Int32.toInt (((fu302 71 5 rfl).1).trans ((fu260 71 5 rfl).1))
            have lk313 : ((u302).1 71 5).toInt = (t.1 71 5).toInt := congrArg Int32.toInt (((fu302 71 5 rfl).1).trans ((fu260 71 5 rfl).1))
            have lk314 : ((u302).1 71 5).toInt = (t.1 71 5).toInt := congrArg Int32.toInt (((fu302 71 5 rfl).1).trans ((fu260 71 5 rfl).1))
            refine r_callVi C oCl12 rfl miX12_takesSign mlX12_207 (ct6_X12_takesSign l E (u302) k43 (g) ((t.1 71 2).toInt) (43) (by omega) (oqZ_fr fu302 rfl (oqZ_fr fu260 rfl iv7)) (by omega) (by omega)) (by decide) rfl rfl rfl (Nat.le_of_ble_eq_true rfl) (oDec_at oX12_goesOn 107 rfl) (fun r316 u315 pu315 fu315 => ?_)
            try dsimp only at pu315
            try simp only [lk311, lk312, lk313, lk314] at pu315
            obtain ⟨pu315_0, pu315_1, pu315_2, pu315_3, pu315_4⟩ := pu315
            have rr316 := n_rng r316
            refine r_if_ne C 221 (oDec_at oX12_goesOn 108 rfl) (by decide) (fun cd317 => ?_) (fun cd317 => ?_)
            · skip
              replace pu315_1 := pu315_1 (by omega)
              clear pu315_2
              have lk318 : ((u315).1 71 4).toInt = (t.1 71 4).toInt := congrArg Int32.toInt (((fu315 71 4 rfl).1).trans (((fu302 71 4 rfl).1).trans ((fu260 71 4 rfl).1)))
              have lk319 : ((u315).1 71 5).toInt = (t.1 71 5).toInt := congrArg Int32.toInt (((fu315 71 5 rfl).1).trans (((fu302 71 5 rfl).1).trans ((fu260 71 5 rfl).1)))
              have lk320 : ((u315).1 71 48).toInt = (t.1 71 48).toInt := congrArg Int32.toInt (((fu315 71 48 rfl).1).trans (((fu302 71 48 rfl).1).trans ((fu260 71 48 rfl).1)))
              have lk321 : ((u315).1 71 47).toInt = (t.1 71 47).toInt := congrArg Int32.toInt (((fu315 71 47 rfl).1).trans (((fu302 71 47 rfl).1).trans ((fu260 71 47 rfl).1)))
              clear pu315_3
              have hq322 : oqJ g fp fq cz kx b 1 (u315) := oqJ_go hq309 (by omega) (by omega) (oFr_row fu315 (c := 103) rfl rfl) (congrArg Int32.toInt (fu315 71 47 rfl).1) (oqs_op (g := g) (p := fp) (q := fq) (a := (t.1 71 2).toInt) (b := (t.1 71 4).toInt) (o := (t.1 71 48).toInt) (by unfold oqOp; omega)) (by rw [show ((u302).1 71 2).toInt = (t.1 71 2).toInt by omega]; omega) (by first | omega | (congr 1; omega)) (by first | omega | (congr 1; omega)) (by first | omega | (congr 1; omega)) (by first | omega | (congr 1; omega)) (by first | omega | (congr 1; omega))
              have hq323 : oqOw g fp fq cw xw b cs (u315) := oqOw_of hq310 (oqSq_of fu315 rfl) (fun h9 => ⟨by omega, by rw [show ((u302).1 71 2).toInt = (t.1 71 2).toInt by omega]; omega⟩) (congrArg Int32.toInt (fu315 71 4 rfl).1)
              refine r_aload_n C (j := 0) (oDec_at oX12_goesOn 113 rfl) rfl rfl ?_
              refine r_getF (k := 0) (b := 72) C oCl12 rfl (by decide) flX12_7 rfl rfl rfl (oDec_at oX12_goesOn 114 rfl) ?_
              refine r_aload_n C (j := 0) (oDec_at oX12_goesOn 115 rfl) rfl rfl ?_
              obtain ⟨v324, ev324⟩ : ∃ z : Int32, (u315).1 71 2 = z := ⟨_, rfl⟩
              have gv324 : (u315.1 71 2).toInt = v324.toInt := congrArg Int32.toInt (ev324)
              refine r_geti (k := 2) (lo := 0) (hi := 1600) C v324 oCl12 rfl (by decide) flX12_179 rfl rfl (ev324) rfl rfl (oDec_at oX12_goesOn 116 rfl) (fun b325 b325h => ?_)
              refine r_iconst C (oDec_at oX12_goesOn 117 rfl) (v := k1) (by rw [qk1]; rfl) ?_
              obtain ⟨v326, ev326⟩ : ∃ z : Int32, z = v324 - k1 := ⟨_, rfl⟩
              have hv326 : v326.toInt = v324.toInt - k1.toInt := n_sub ev326 (by omega) (by omega)
              refine r_isub C v326 (oDec_at oX12_goesOn 118 rfl) ev326 ?_
              refine r_pc C 231 rfl ?_
              obtain ⟨v328, ev328⟩ : ∃ z : Int32, (u315).1 72 v326.toNatClampNeg = z := ⟨_, rfl⟩
              have av328 : t.1 72 v326.toNatClampNeg = v328 := (((fu315 72 v326.toNatClampNeg rfl).1).trans (((fu302 72 v326.toNatClampNeg rfl).1).trans ((fu260 72 v326.toNatClampNeg rfl).1))).symm.trans ev328
              have gv328 : (t.1 72 v326.toNatClampNeg).toInt = v328.toInt := congrArg Int32.toInt ((((fu315 72 v326.toNatClampNeg rfl).1).trans (((fu302 72 v326.toNatClampNeg rfl).1).trans ((fu260 72 v326.toNatClampNeg rfl).1))).symm.trans ev328)
              refine r_iald (n := 1600) (lo := 0) (hi := 255) C v328 rfl (by decide) rfl rfl ⟨by omega, by omega⟩ (by decide) ev328 rfl rfl (oDec_at oX12_goesOn 119 rfl) (fun b327 b327h => ?_)
              have lk329 : ((u315).1 71 2).toInt = v324.toInt := congrArg Int32.toInt (ev324)
              have hgc := oqZ_rd (a := ((u315).1 71 2).toInt - 1) (oqZ_fr fu315 rfl (oqZ_fr fu302 rfl (oqZ_fr fu260 rfl iv7))) ev328 (by omega) (by omega) (by rw [show ((u315).1 71 2).toInt - 1 = oqSk g (t.1 71 2).toInt by omega]; omega)
              have hoc := oqOc_v (g := g) (a := ((u315).1 71 2).toInt - 1)
              have hgd : g (((u315).1 71 2).toInt - 1) = g (oqSk g (t.1 71 2).toInt) := by rw [show ((u315).1 71 2).toInt - 1 = oqSk g (t.1 71 2).toInt by omega]
              refine r_bipush C (oDec_at oX12_goesOn 120 rfl) (v := k43) (by rw [qk43]; rfl) ?_
              refine r_icmp_ne C 241 (oDec_at oX12_goesOn 121 rfl) (by decide) (fun cd330 => ?_) (fun cd330 => ?_)
              · skip
                refine r_iconst C (oDec_at oX12_goesOn 124 rfl) (v := k2) (by rw [qk2]; rfl) ?_
                refine r_istore_n C (lv' := [(0, .ref (oad E 71)), (1, .int k2)]) [1, 0] (oDec_at oX12_goesOn 125 rfl) rfl (by decide) rfl ?_
                have lk331 : ((u315).1 71 5).toInt = (t.1 71 5).toInt := congrArg Int32.toInt (((fu315 71 5 rfl).1).trans (((fu302 71 5 rfl).1).trans ((fu260 71 5 rfl).1)))
                have lk332 : ((u315).1 71 48).toInt = (t.1 71 48).toInt := congrArg Int32.toInt (((fu315 71 48 rfl).1).trans (((fu302 71 48 rfl).1).trans ((fu260 71 48 rfl).1)))
                have lk333 : ((u315).1 71 2).toInt = v324.toInt := congrArg Int32.toInt (ev324)
                have lk334 : ((u315).1 71 45).toInt = (t.1 71 45).toInt := congrArg Int32.toInt (((fu315 71 45 rfl).1).trans (((fu302 71 45 rfl).1).trans ((fu260 71 45 rfl).1)))
                have lk335 : ((u315).1 71 47).toInt = (t.1 71 47).toInt := congrArg Int32.toInt (((fu315 71 47 rfl).1).trans (((fu302 71 47 rfl).1).trans ((fu260 71 47 rfl).1)))
                have lk336 : ((u315).1 71 2).toInt = v324.toInt := congrArg Int32.toInt (ev324)
                have lk337 : ((u315).1 71 2).toInt = v324.toInt := congrArg Int32.toInt (ev324)
                have lk338 : ((u315).1 71 47).toInt = (t.1 71 47).toInt := congrArg Int32.toInt (((fu315 71 47 rfl).1).trans (((fu302 71 47 rfl).1).trans ((fu260 71 47 rfl).1)))
                exact (ih (n - 1) (by omega)).2.2.2 (u315) k2  (oQ_fr fu315 rfl (oQ_fr fu302 rfl (oQ_fr fu260 rfl iv0))) (by omega) (by omega) (by omega) (by omega) (by omega) hq322 (oqBP_fr fu315 rfl (oqBP_fr fu302 rfl (oqBP_fr fu260 rfl iv10))) hq323 (by first | omega | (rw [show ((u315).1 71 2).toInt = (t.1 71 2).toInt by omega]; omega)) (owC0_fr fu315 rfl (owC0_fr fu302 rfl (owC0_fr fu260 rfl iv12))) (by omega)
              · skip
                refine r_iconst C (oDec_at oX12_goesOn 122 rfl) (v := k1) (by rw [qk1]; rfl) ?_
                refine r_goto C (tgt := 242) (oDec_at oX12_goesOn 123 rfl) (by decide) ?_
                refine r_istore_n C (lv' := [(0, .ref (oad E 71)), (1, .int k1)]) [1, 0] (oDec_at oX12_goesOn 125 rfl) rfl (by decide) rfl ?_
                have lk339 : ((u315).1 71 5).toInt = (t.1 71 5).toInt := congrArg Int32.toInt (((fu315 71 5 rfl).1).trans (((fu302 71 5 rfl).1).trans ((fu260 71 5 rfl).1)))
                have lk340 : ((u315).1 71 48).toInt = (t.1 71 48).toInt := congrArg Int32.toInt (((fu315 71 48 rfl).1).trans (((fu302 71 48 rfl).1).trans ((fu260 71 48 rfl).1)))
                have lk341 : ((u315).1 71 2).toInt = v324.toInt := congrArg Int32.toInt (ev324)
                have lk342 : ((u315).1 71 45).toInt = (t.1 71 45).toInt := congrArg Int32.toInt (((fu315 71 45 rfl).1).trans (((fu302 71 45 rfl).1).trans ((fu260 71 45 rfl).1)))
                have lk343 : ((u315).1 71 47).toInt = (t.1 71 47).toInt := congrArg Int32.toInt (((fu315 71 47 rfl).1).trans (((fu302 71 47 rfl).1).trans ((fu260 71 47 rfl).1)))
                have lk344 : ((u315).1 71 2).toInt = v324.toInt := congrArg Int32.toInt (ev324)
                have lk345 : ((u315).1 71 2).toInt = v324.toInt := congrArg Int32.toInt (ev324)
                have lk346 : ((u315).1 71 47).toInt = (t.1 71 47).toInt := congrArg Int32.toInt (((fu315 71 47 rfl).1).trans (((fu302 71 47 rfl).1).trans ((fu260 71 47 rfl).1)))
                exact (ih (n - 1) (by omega)).2.2.2 (u315) k1  (oQ_fr fu315 rfl (oQ_fr fu302 rfl (oQ_fr fu260 rfl iv0))) (by omega) (by omega) (by omega) (by omega) (by omega) hq322 (oqBP_fr fu315 rfl (oqBP_fr fu302 rfl (oqBP_fr fu260 rfl iv10))) hq323 (by first | omega | (rw [show ((u315).1 71 2).toInt = (t.1 71 2).toInt by omega]; omega)) (owC0_fr fu315 rfl (owC0_fr fu302 rfl (owC0_fr fu260 rfl iv12))) (by omega)
            · skip
              clear pu315_1
              replace pu315_2 := pu315_2 (by omega)
              have lk347 : ((u315).1 71 4).toInt = (t.1 71 4).toInt := congrArg Int32.toInt (((fu315 71 4 rfl).1).trans (((fu302 71 4 rfl).1).trans ((fu260 71 4 rfl).1)))
              have lk348 : ((u315).1 71 5).toInt = (t.1 71 5).toInt := congrArg Int32.toInt (((fu315 71 5 rfl).1).trans (((fu302 71 5 rfl).1).trans ((fu260 71 5 rfl).1)))
              have lk349 : ((u315).1 71 48).toInt = (t.1 71 48).toInt := congrArg Int32.toInt (((fu315 71 48 rfl).1).trans (((fu302 71 48 rfl).1).trans ((fu260 71 48 rfl).1)))
              have lk350 : ((u315).1 71 47).toInt = (t.1 71 47).toInt := congrArg Int32.toInt (((fu315 71 47 rfl).1).trans (((fu302 71 47 rfl).1).trans ((fu260 71 47 rfl).1)))
              replace pu315_2 := pu315_2 (by omega)
              clear pu315_3
              have hq351 : oqJ g fp fq cz kx b 3 (u315) := oqJ_id hq309 (oFr_row fu315 (c := 103) rfl rfl) (congrArg Int32.toInt (fu315 71 5 rfl).1) (congrArg Int32.toInt (fu315 71 47 rfl).1) (by rw [show ((u315).1 71 2).toInt = ((u302).1 71 2).toInt by omega]) (congrArg Int32.toInt (fu315 71 4 rfl).1) (congrArg Int32.toInt (fu315 71 48 rfl).1) (congrArg Int32.toInt (fu315 71 6 rfl).1)
              have hq352 : oqJw g fp fq cw xw b cs 3 (u315) := oqJw_id hq310 (oqSq_of fu315 rfl) (fun h9 => (congrArg Int32.toInt (fu315 71 5 rfl).1).symm.trans h9) (by rw [show ((u315).1 71 2).toInt = ((u302).1 71 2).toInt by omega]) (congrArg Int32.toInt (fu315 71 4 rfl).1)
              refine r_aload_n C (j := 0) (oDec_at oX12_goesOn 109 rfl) rfl rfl ?_
              refine r_bipush C (oDec_at oX12_goesOn 110 rfl) (v := k45) (by rw [qk45]; rfl) ?_
              have lk353 : ((u315).1 71 5).toInt = (t.1 71 5).toInt := congrArg Int32.toInt (((fu315 71 5 rfl).1).trans (((fu302 71 5 rfl).1).trans ((fu260 71 5 rfl).1)))
              have lk354 : ((u315).1 71 5).toInt = (t.1 71 5).toInt := congrArg Int32.toInt (((fu315 71 5 rfl).1).trans (((fu302 71 5 rfl).1).trans ((fu260 71 5 rfl).1)))
              have lk355 : ((u315).1 71 5).toInt = (t.1 71 5).toInt := congrArg Int32.toInt (((fu315 71 5 rfl).1).trans (((fu302 71 5 rfl).1).trans ((fu260 71 5 rfl).1)))
              have lk356 : ((u315).1 71 5).toInt = (t.1 71 5).toInt := congrArg Int32.toInt (((fu315 71 5 rfl).1).trans (((fu302 71 5 rfl).1).trans ((fu260 71 5 rfl).1)))
              refine r_callVi C oCl12 rfl miX12_takesSign mlX12_207 (ct6_X12_takesSign l E (u315) k45 (g) ((t.1 71 2).toInt) (45) (by omega) (oqZ_fr fu315 rfl (oqZ_fr fu302 rfl (oqZ_fr fu260 rfl iv7))) (by omega) (by omega)) (by decide) rfl rfl rfl (Nat.le_of_ble_eq_true rfl) (oDec_at oX12_goesOn 111 rfl) (fun r358 u357 pu357 fu357 => ?_)
              try dsimp only at pu357
              try simp only [lk353, lk354, lk355, lk356] at pu357
              obtain ⟨pu357_0, pu357_1, pu357_2, pu357_3, pu357_4⟩ := pu357
              have rr358 := n_rng r358
              refine r_if_eq C 304 (oDec_at oX12_goesOn 112 rfl) (by decide) (fun cd359 => ?_) (fun cd359 => ?_)
              · skip
                clear pu357_1
                replace pu357_2 := pu357_2 (by omega)
                have lk360 : ((u357).1 71 4).toInt = (t.1 71 4).toInt := congrArg Int32.toInt (((fu357 71 4 rfl).1).trans (((fu315 71 4 rfl).1).trans (((fu302 71 4 rfl).1).trans ((fu260 71 4 rfl).1))))
                have lk361 : ((u357).1 71 5).toInt = (t.1 71 5).toInt := congrArg Int32.toInt (((fu357 71 5 rfl).1).trans (((fu315 71 5 rfl).1).trans (((fu302 71 5 rfl).1).trans ((fu260 71 5 rfl).1))))
                have lk362 : ((u357).1 71 48).toInt = (t.1 71 48).toInt := congrArg Int32.toInt (((fu357 71 48 rfl).1).trans (((fu315 71 48 rfl).1).trans (((fu302 71 48 rfl).1).trans ((fu260 71 48 rfl).1))))
                have lk363 : ((u357).1 71 47).toInt = (t.1 71 47).toInt := congrArg Int32.toInt (((fu357 71 47 rfl).1).trans (((fu315 71 47 rfl).1).trans (((fu302 71 47 rfl).1).trans ((fu260 71 47 rfl).1))))
                replace pu357_2 := pu357_2 (by omega)
                clear pu357_3
                have eA : ((u357).1 71 2).toInt = (t.1 71 2).toInt := by omega
                have hgs : oqSk g ((u357).1 71 2).toInt = oqSk g (t.1 71 2).toInt := by rw [eA]
                have hgg : g (oqSk g ((u357).1 71 2).toInt) = g (oqSk g (t.1 71 2).toInt) := by rw [eA]
                have hg5 : g (oqSk g (t.1 71 2).toInt) = g (t.1 71 2).toInt := by rw [show oqSk g (t.1 71 2).toInt = (t.1 71 2).toInt by omega]
                have hg2 : g ((u357).1 71 2).toInt = g (t.1 71 2).toInt := by rw [eA]
                have hno : ¬ oqOp g (oqSk g ((u357).1 71 2).toInt) := oqOp_no ⟨by omega, by omega, by omega, by omega⟩
                have hq364 : oqJ g fp fq cz kx b 3 (u357) := oqJ_id hq351 (oFr_row fu357 (c := 103) rfl rfl) (congrArg Int32.toInt (fu357 71 5 rfl).1) (congrArg Int32.toInt (fu357 71 47 rfl).1) (by rw [show ((u357).1 71 2).toInt = ((u315).1 71 2).toInt by omega]) (congrArg Int32.toInt (fu357 71 4 rfl).1) (congrArg Int32.toInt (fu357 71 48 rfl).1) (congrArg Int32.toInt (fu357 71 6 rfl).1)
                have hq365 : oqJw g fp fq cw xw b cs 3 (u357) := oqJw_id hq352 (oqSq_of fu357 rfl) (fun h9 => (congrArg Int32.toInt (fu357 71 5 rfl).1).symm.trans h9) (by rw [show ((u357).1 71 2).toInt = ((u315).1 71 2).toInt by omega]) (congrArg Int32.toInt (fu357 71 4 rfl).1)
                refine r_aload_n C (j := 0) (oDec_at oX12_goesOn 159 rfl) rfl rfl ?_
                refine r_callVi C oCl12 rfl miX12_mark mlX12_304 (ct_X12_mark l E (u357)  ) (by decide) rfl rfl rfl (Nat.le_of_ble_eq_true rfl) (oDec_at oX12_goesOn 160 rfl) (fun r367 u366 pu366 fu366 => ?_)
                try dsimp only at pu366
                have hxu366 := oFr_nil fu366; subst hxu366
                have rr367 := n_rng r367
                refine r_bipush C (oDec_at oX12_goesOn 161 rfl) (v := k21) (by rw [qk21]; rfl) ?_
                refine r_icmp_eq C 322 (oDec_at oX12_goesOn 162 rfl) (by decide) (fun cd368 => ?_) (fun cd368 => ?_)
                · skip
                  have lk369 : ((u357).1 71 45).toInt = (t.1 71 45).toInt := congrArg Int32.toInt (((fu357 71 45 rfl).1).trans (((fu315 71 45 rfl).1).trans (((fu302 71 45 rfl).1).trans ((fu260 71 45 rfl).1))))
                  have lk370 : ((u357).1 71 47).toInt = (t.1 71 47).toInt := congrArg Int32.toInt (((fu357 71 47 rfl).1).trans (((fu315 71 47 rfl).1).trans (((fu302 71 47 rfl).1).trans ((fu260 71 47 rfl).1))))
                  have lk371 : ((u357).1 71 48).toInt = (t.1 71 48).toInt := congrArg Int32.toInt (((fu357 71 48 rfl).1).trans (((fu315 71 48 rfl).1).trans (((fu302 71 48 rfl).1).trans ((fu260 71 48 rfl).1))))
                  have lk372 : ((u357).1 71 4).toInt = (t.1 71 4).toInt := congrArg Int32.toInt (((fu357 71 4 rfl).1).trans (((fu315 71 4 rfl).1).trans (((fu302 71 4 rfl).1).trans ((fu260 71 4 rfl).1))))
                  have lk373 : ((u357).1 71 5).toInt = (t.1 71 5).toInt := congrArg Int32.toInt (((fu357 71 5 rfl).1).trans (((fu315 71 5 rfl).1).trans (((fu302 71 5 rfl).1).trans ((fu260 71 5 rfl).1))))
                  have lk374 : ((u357).1 71 55).toInt = (t.1 71 55).toInt := congrArg Int32.toInt (((fu357 71 55 rfl).1).trans (((fu315 71 55 rfl).1).trans (((fu302 71 55 rfl).1).trans ((fu260 71 55 rfl).1))))
                  have hh1 := oqHs_1 (oQ_fr fu357 rfl (oQ_fr fu315 rfl (oQ_fr fu302 rfl (oQ_fr fu260 rfl iv0)))) (by omega) pu366 (by omega) (by omega) (by omega) (by omega)
                  have hq375 : oMk (r367.toInt) (u357) := pu366
                  have hq376 : oqK b (oqSg ((u357).1 103) b (((u357).1 71 47).toNatClampNeg - b)) (u357) := rfl
                  refine r_aload_n C (j := 0) (oDec_at oX12_goesOn 167 rfl) rfl rfl ?_
                  refine r_bipush C (oDec_at oX12_goesOn 168 rfl) (v := k44) (by rw [qk44]; rfl) ?_
                  have lk377 : ((u357).1 71 5).toInt = (t.1 71 5).toInt := congrArg Int32.toInt (((fu357 71 5 rfl).1).trans (((fu315 71 5 rfl).1).trans (((fu302 71 5 rfl).1).trans ((fu260 71 5 rfl).1))))
                  have lk378 : ((u357).1 71 5).toInt = (t.1 71 5).toInt := congrArg Int32.toInt (((fu357 71 5 rfl).1).trans (((fu315 71 5 rfl).1).trans (((fu302 71 5 rfl).1).trans ((fu260 71 5 rfl).1))))
                  have lk379 : ((u357).1 71 6).toInt = (t.1 71 6).toInt := congrArg Int32.toInt (((fu357 71 6 rfl).1).trans (((fu315 71 6 rfl).1).trans (((fu302 71 6 rfl).1).trans ((fu260 71 6 rfl).1))))
                  have lk380 : ((u357).1 71 5).toInt = (t.1 71 5).toInt := congrArg Int32.toInt (((fu357 71 5 rfl).1).trans (((fu315 71 5 rfl).1).trans (((fu302 71 5 rfl).1).trans ((fu260 71 5 rfl).1))))
                  have lk381 : ((u357).1 71 6).toInt = (t.1 71 6).toInt := congrArg Int32.toInt (((fu357 71 6 rfl).1).trans (((fu315 71 6 rfl).1).trans (((fu302 71 6 rfl).1).trans ((fu260 71 6 rfl).1))))
                  have lk382 : ((u357).1 71 5).toInt = (t.1 71 5).toInt := congrArg Int32.toInt (((fu357 71 5 rfl).1).trans (((fu315 71 5 rfl).1).trans (((fu302 71 5 rfl).1).trans ((fu260 71 5 rfl).1))))
                  refine r_callVv C oCl12 rfl miX12_asksSign mlX12_248 (ct7_X12_asksSign l E (u357) k44 (g) ((t.1 71 2).toInt) (44) (by omega) (oqZ_fr fu357 rfl (oqZ_fr fu315 rfl (oqZ_fr fu302 rfl (oqZ_fr fu260 rfl iv7)))) (by omega) (by omega) (oqBP_fr fu357 rfl (oqBP_fr fu315 rfl (oqBP_fr fu302 rfl (oqBP_fr fu260 rfl iv10))))) (by decide) rfl rfl rfl (Nat.le_of_ble_eq_true rfl) (oDec_at oX12_goesOn 169 rfl) (fun u383 pu383 fu383 => ?_)
                  try dsimp only at pu383
                  try simp only [lk377, lk378, lk379, lk380, lk381, lk382] at pu383
                  obtain ⟨pu383_0, pu383_1, pu383_2, pu383_3, pu383_4⟩ := pu383
                  have lk385 : ((u383).1 71 4).toInt = (t.1 71 4).toInt := congrArg Int32.toInt (((fu383 71 4 rfl).1).trans (((fu357 71 4 rfl).1).trans (((fu315 71 4 rfl).1).trans (((fu302 71 4 rfl).1).trans ((fu260 71 4 rfl).1)))))
                  have lk386 : ((u383).1 71 48).toInt = (t.1 71 48).toInt := congrArg Int32.toInt (((fu383 71 48 rfl).1).trans (((fu357 71 48 rfl).1).trans (((fu315 71 48 rfl).1).trans (((fu302 71 48 rfl).1).trans ((fu260 71 48 rfl).1)))))
                  have lk387 : ((u383).1 71 47).toInt = (t.1 71 47).toInt := congrArg Int32.toInt (((fu383 71 47 rfl).1).trans (((fu357 71 47 rfl).1).trans (((fu315 71 47 rfl).1).trans (((fu302 71 47 rfl).1).trans ((fu260 71 47 rfl).1)))))
                  refine r_aload_n C (j := 0) (oDec_at oX12_goesOn 170 rfl) rfl rfl ?_
                  obtain ⟨v388, ev388⟩ : ∃ z : Int32, (u383).1 71 5 = z := ⟨_, rfl⟩
                  have gv388 : (u383.1 71 5).toInt = v388.toInt := congrArg Int32.toInt (ev388)
                  have rv388 := n_rng v388
                  refine r_geti (k := 5) (lo := (-2147483648)) (hi := 2147483647) C v388 oCl12 rfl (by decide) flX12_173 rfl rfl (ev388) rfl rfl (oDec_at oX12_goesOn 171 rfl) (fun _ _ => ?_)
                  refine r_if_eq C 337 (oDec_at oX12_goesOn 172 rfl) (by decide) (fun cd389 => ?_) (fun cd389 => ?_)
                  · skip
                    have hg44 : g (((u383).1 71 2).toInt - 1) = 44 := by rw [show ((u383).1 71 2).toInt - 1 = oqSk g (t.1 71 2).toInt by omega]; omega
                    have hmu9 : ¬ oqMu g (((u383).1 71 2).toInt - 1) := oqMu_no ⟨by omega, by omega⟩
                    have hq390 : oqOw g fp fq cw xw b cs (u383) := oqOw_of (s := u357) hq365 (oqSq_of fu383 rfl) (fun h9 => ⟨by omega, by rw [show ((u357).1 71 2).toInt = (t.1 71 2).toInt by omega]; omega⟩) (congrArg Int32.toInt (fu383 71 4 rfl).1)
                    refine r_aload_n C (j := 0) (oDec_at oX12_goesOn 175 rfl) rfl rfl ?_
                    have lk391 : ((u383).1 71 55).toInt = (t.1 71 55).toInt := congrArg Int32.toInt (((fu383 71 55 rfl).1).trans (((fu357 71 55 rfl).1).trans (((fu315 71 55 rfl).1).trans (((fu302 71 55 rfl).1).trans ((fu260 71 55 rfl).1)))))
                    have lk392 : ((u383).1 71 5).toInt = v388.toInt := congrArg Int32.toInt (ev388)
                    have lk393 : ((u383).1 71 45).toInt = (t.1 71 45).toInt := congrArg Int32.toInt (((fu383 71 45 rfl).1).trans (((fu357 71 45 rfl).1).trans (((fu315 71 45 rfl).1).trans (((fu302 71 45 rfl).1).trans ((fu260 71 45 rfl).1)))))
                    have lk394 : ((u383).1 71 47).toInt = (t.1 71 47).toInt := congrArg Int32.toInt (((fu383 71 47 rfl).1).trans (((fu357 71 47 rfl).1).trans (((fu315 71 47 rfl).1).trans (((fu302 71 47 rfl).1).trans ((fu260 71 47 rfl).1)))))
                    have lk395 : ((u383).1 71 45).toInt = (t.1 71 45).toInt := congrArg Int32.toInt (((fu383 71 45 rfl).1).trans (((fu357 71 45 rfl).1).trans (((fu315 71 45 rfl).1).trans (((fu302 71 45 rfl).1).trans ((fu260 71 45 rfl).1)))))
                    have lk396 : ((u383).1 71 47).toInt = (t.1 71 47).toInt := congrArg Int32.toInt (((fu383 71 47 rfl).1).trans (((fu357 71 47 rfl).1).trans (((fu315 71 47 rfl).1).trans (((fu302 71 47 rfl).1).trans ((fu260 71 47 rfl).1)))))
                    have lk397 : ((u383).1 71 47).toInt = (t.1 71 47).toInt := congrArg Int32.toInt (((fu383 71 47 rfl).1).trans (((fu357 71 47 rfl).1).trans (((fu315 71 47 rfl).1).trans (((fu302 71 47 rfl).1).trans ((fu260 71 47 rfl).1)))))
                    refine r_callVv C oCl12 rfl miX12_dropsToMark mlX12_307 (ct9_X12_dropsToMark l E (u383)  (b) (x + 1) (r367.toInt) (oqSg ((u357).1 103) b (((u357).1 71 47).toNatClampNeg - b)) (g) (fp) (fq) (cw) (xw) (cs) (Cq) (oQ_frb fu383 rfl (by omega) (oQ_fr fu357 rfl (oQ_fr fu315 rfl (oQ_fr fu302 rfl (oQ_fr fu260 rfl iv0))))) (oMk_fr fu383 rfl hq375) (by omega) (by omega) (by omega) (by omega) (oqK_fr fu383 rfl hq376) hq390 hmu9 (owC0_fr fu383 rfl (owC0_fr fu357 rfl (owC0_fr fu315 rfl (owC0_fr fu302 rfl (owC0_fr fu260 rfl iv12)))))) (by decide) rfl rfl rfl (Nat.le_of_ble_eq_true rfl) (oDec_at oX12_goesOn 176 rfl) (fun u398 pu398 fu398 => ?_)
                    try dsimp only at pu398
                    try simp only [lk391, lk392, lk393, lk394, lk395, lk396, lk397] at pu398
                    obtain ⟨pu398_0, pu398_1, pu398_2, pu398_3, pu398_4, pu398_5, pu398_6⟩ := pu398
                    have lk400 : ((u398).1 71 5).toInt = v388.toInt := congrArg Int32.toInt (((fu398 71 5 rfl).1).trans (ev388))
                    have lk401 : ((u398).1 71 48).toInt = (t.1 71 48).toInt := congrArg Int32.toInt (((fu398 71 48 rfl).1).trans (((fu383 71 48 rfl).1).trans (((fu357 71 48 rfl).1).trans (((fu315 71 48 rfl).1).trans (((fu302 71 48 rfl).1).trans ((fu260 71 48 rfl).1))))))
                    have lk402 : ((u398).1 71 2).toInt = (u383.1 71 2).toInt := congrArg Int32.toInt ((fu398 71 2 rfl).1)
                    have lk403 : ((u398).1 71 4).toInt = (t.1 71 4).toInt := congrArg Int32.toInt (((fu398 71 4 rfl).1).trans (((fu383 71 4 rfl).1).trans (((fu357 71 4 rfl).1).trans (((fu315 71 4 rfl).1).trans (((fu302 71 4 rfl).1).trans ((fu260 71 4 rfl).1))))))
                    have htp := pu398_3 (by omega)
                    have hno9 : ¬ oqOp g (((u398).1 71 2).toInt - 1) := by rw [show ((u398).1 71 2).toInt - 1 = ((u383).1 71 2).toInt - 1 by omega]; exact oqOp_no ⟨by omega, by omega, by omega, by omega⟩
                    refine r_aload_n C (j := 0) (oDec_at oX12_goesOn 177 rfl) rfl rfl ?_
                    refine r_getF (k := 46) (b := 103) C oCl12 rfl (by decide) flX12_111 rfl rfl rfl (oDec_at oX12_goesOn 178 rfl) ?_
                    refine r_aload_n C (j := 0) (oDec_at oX12_goesOn 179 rfl) rfl rfl ?_
                    obtain ⟨v404, ev404⟩ : ∃ z : Int32, (u398).1 71 47 = z := ⟨_, rfl⟩
                    have gv404 : (u398.1 71 47).toInt = v404.toInt := congrArg Int32.toInt (ev404)
                    refine r_geti (k := 47) (lo := 0) (hi := 1700) C v404 oCl12 rfl (by decide) flX12_277 rfl rfl (ev404) rfl rfl (oDec_at oX12_goesOn 180 rfl) (fun b405 b405h => ?_)
                    refine r_pc C 349 rfl ?_
                    refine r_iconst C (oDec_at oX12_goesOn 181 rfl) (v := k1) (by rw [qk1]; rfl) ?_
                    obtain ⟨v406, ev406⟩ : ∃ z : Int32, z = v404 - k1 := ⟨_, rfl⟩
                    have hv406 : v406.toInt = v404.toInt - k1.toInt := n_sub ev406 (by omega) (by omega)
                    refine r_isub C v406 (oDec_at oX12_goesOn 182 rfl) ev406 ?_
                    refine r_dup2 C (oDec_at oX12_goesOn 183 rfl) rfl rfl ?_
                    obtain ⟨v408, ev408⟩ : ∃ z : Int32, (u398).1 103 v406.toNatClampNeg = z := ⟨_, rfl⟩
                    have av408 : t.1 103 v406.toNatClampNeg = v408 := (((fu398 103 v406.toNatClampNeg rfl).1).trans (((fu383 103 v406.toNatClampNeg rfl).1).trans (((fu357 103 v406.toNatClampNeg rfl).1).trans (((fu315 103 v406.toNatClampNeg rfl).1).trans (((fu302 103 v406.toNatClampNeg rfl).1).trans ((fu260 103 v406.toNatClampNeg rfl).1)))))).symm.trans ev408
                    have gv408 : (t.1 103 v406.toNatClampNeg).toInt = v408.toInt := congrArg Int32.toInt ((((fu398 103 v406.toNatClampNeg rfl).1).trans (((fu383 103 v406.toNatClampNeg rfl).1).trans (((fu357 103 v406.toNatClampNeg rfl).1).trans (((fu315 103 v406.toNatClampNeg rfl).1).trans (((fu302 103 v406.toNatClampNeg rfl).1).trans ((fu260 103 v406.toNatClampNeg rfl).1)))))).symm.trans ev408)
                    have rv408 := n_rng v408
                    refine r_iald (n := 1700) (lo := (-2147483648)) (hi := 2147483647) C v408 rfl (by decide) rfl rfl ⟨by omega, by omega⟩ (by decide) ev408 rfl rfl (oDec_at oX12_goesOn 184 rfl) (fun _ _ => ?_)
                    have hv0 := oTop_of (s := u398) (i := v406) ev408 (by omega)
                    refine r_iconst C (oDec_at oX12_goesOn 185 rfl) (v := k2) (by rw [qk2]; rfl) ?_
                    obtain ⟨v409, ev409⟩ : ∃ z : Int32, z = v408 + k2 := ⟨_, rfl⟩
                    have hv409 : v409.toInt = v408.toInt + k2.toInt := n_add ev409 (by omega) (by omega)
                    refine r_iadd C v409 (oDec_at oX12_goesOn 186 rfl) ev409 ?_
                    refine r_pc C 355 rfl ?_
                    refine r_iast (n := 1700) (lo := (-2147483648)) (hi := 2147483647) C rfl (by decide) rfl rfl ⟨by omega, by omega⟩ (by decide) rfl rfl rfl rfl (n_rng _) (oDec_at oX12_goesOn 187 rfl) ?_
                    have hq410 : oQ b x ((pI u398 103 v406.toNatClampNeg v409)) := oQ_comma (x := x) pu398_0 (by omega) (by omega) (by assumption) (by omega)
                    have hq411 : oqJ g fp fq cz kx b 1 ((pI u398 103 v406.toNatClampNeg v409)) := oqJ_cm (s := u357) hq364 (by omega) (by omega) ((oFr_row fu398 (c := 103) rfl rfl).trans (oFr_row fu383 (c := 103) rfl rfl)) (by omega) (by omega) (by omega) (by omega) pu398_4 (by omega) (by omega) (by omega) (by omega)
                    have hq412 : oqJw g fp fq cw xw b cs 1 ((pI u398 103 v406.toNatClampNeg v409)) := oqOw_cm pu398_5 (by omega) hno9 (by omega) (by omega) (by omega) (by omega)
                    refine r_iconst C (oDec_at oX12_goesOn 188 rfl) (v := k1) (by rw [qk1]; rfl) ?_
                    have lk413 : (((pI u398 103 v406.toNatClampNeg v409)).1 71 48).toInt = (t.1 71 48).toInt := congrArg Int32.toInt (((pI_ne (a := 71) (b := 48) (c := 103) _ _ (Or.inl (by decide)))).trans (((fu398 71 48 rfl).1).trans (((fu383 71 48 rfl).1).trans (((fu357 71 48 rfl).1).trans (((fu315 71 48 rfl).1).trans (((fu302 71 48 rfl).1).trans ((fu260 71 48 rfl).1)))))))
                    have lk414 : (((pI u398 103 v406.toNatClampNeg v409)).1 71 2).toInt = (u383.1 71 2).toInt := congrArg Int32.toInt (((pI_ne (a := 71) (b := 2) (c := 103) _ _ (Or.inl (by decide)))).trans ((fu398 71 2 rfl).1))
                    have lk415 : (((pI u398 103 v406.toNatClampNeg v409)).1 71 45).toInt = (u398.1 71 45).toInt := congrArg Int32.toInt ((pI_ne (a := 71) (b := 45) (c := 103) _ _ (Or.inl (by decide))))
                    have lk416 : (((pI u398 103 v406.toNatClampNeg v409)).1 71 47).toInt = v404.toInt := congrArg Int32.toInt (((pI_ne (a := 71) (b := 47) (c := 103) _ _ (Or.inl (by decide)))).trans (ev404))
                    have lk417 : (((pI u398 103 v406.toNatClampNeg v409)).1 71 2).toInt = (u383.1 71 2).toInt := congrArg Int32.toInt (((pI_ne (a := 71) (b := 2) (c := 103) _ _ (Or.inl (by decide)))).trans ((fu398 71 2 rfl).1))
                    exact r_zret C (n_bool (by omega)) (oDec_at oX12_goesOn 189 rfl) ⟨_, rfl, ⟨by omega, by first | (intro h; exfalso; omega) | exact fun _ => hq410, by first | (intro h; exfalso; omega) | exact fun _ => ⟨(by assumption), by first | (intro hb; exfalso; omega) | exact fun _ => oMk_c pu398 (by omega)⟩, by omega, by omega, by omega, by first | (intro h; exfalso; omega) | exact fun _ => hq411, by first | (intro h; exfalso; omega) | exact fun _ => (by assumption), by first | (intro h; exfalso; omega) | exact fun _ => oqGe_b (by omega) | exact fun _ => oqGe_of (A := (t.1 71 2).toInt) (by omega) (by omega) (by omega) (by omega) (by omega) (by omega), (oqBP_fr (oFr_oneI (q := 79) (m := 9999) rfl (by rfl)) rfl (oqBP_fr fu398 rfl pu383_4)), by first | (intro h; exfalso; omega) | exact fun _ => hq412, by first | (intro h; exfalso; omega) | exact fun _ => (by assumption), (owC0_fr (oFr_oneI (q := 79) (m := 9999) rfl (by rfl)) rfl pu398_6)⟩⟩
                  · skip
                    have hq418 : oqJ g fp fq cz kx b 3 (u383) := oqJ_opF (s := u357) hq364 (by omega) hno (by omega) (by omega) (by omega)
                    have hq419 : oqJw g fp fq cw xw b cs 3 (u383) := oqJw_bd (by omega)
                    refine r_iconst C (oDec_at oX12_goesOn 173 rfl) (v := k0) (by rw [qk0]; rfl) ?_
                    have lk420 : ((u383).1 71 48).toInt = (t.1 71 48).toInt := congrArg Int32.toInt (((fu383 71 48 rfl).1).trans (((fu357 71 48 rfl).1).trans (((fu315 71 48 rfl).1).trans (((fu302 71 48 rfl).1).trans ((fu260 71 48 rfl).1)))))
                    have lk421 : ((u383).1 71 45).toInt = (t.1 71 45).toInt := congrArg Int32.toInt (((fu383 71 45 rfl).1).trans (((fu357 71 45 rfl).1).trans (((fu315 71 45 rfl).1).trans (((fu302 71 45 rfl).1).trans ((fu260 71 45 rfl).1)))))
                    have lk422 : ((u383).1 71 47).toInt = (t.1 71 47).toInt := congrArg Int32.toInt (((fu383 71 47 rfl).1).trans (((fu357 71 47 rfl).1).trans (((fu315 71 47 rfl).1).trans (((fu302 71 47 rfl).1).trans ((fu260 71 47 rfl).1)))))
                    exact r_zret C (n_bool (by omega)) (oDec_at oX12_goesOn 174 rfl) ⟨_, rfl, ⟨by omega, by first | (intro h; exfalso; omega) | exact fun _ => (by assumption), by first | (intro h; exfalso; omega) | exact fun _ => ⟨(oQ_frb fu383 rfl (by omega) (oQ_fr fu357 rfl (oQ_fr fu315 rfl (oQ_fr fu302 rfl (oQ_fr fu260 rfl iv0))))), by first | (intro hb; exfalso; omega) | exact fun _ => oMk_c pu383 (by omega)⟩, by omega, by omega, by omega, by first | (intro h; exfalso; omega) | exact fun _ => (by assumption), by first | (intro h; exfalso; omega) | exact fun _ => hq418, by first | (intro h; exfalso; omega) | exact fun _ => oqGe_b (by omega) | exact fun _ => oqGe_of (A := (t.1 71 2).toInt) (by omega) (by omega) (by omega) (by omega) (by omega) (by omega), pu383_4, by first | (intro h; exfalso; omega) | exact fun _ => (by assumption), by first | (intro h; exfalso; omega) | exact fun _ => hq419, (owC0_fr fu383 rfl (owC0_fr fu357 rfl (owC0_fr fu315 rfl (owC0_fr fu302 rfl (owC0_fr fu260 rfl iv12)))))⟩⟩
                · skip
                  refine r_aload_n C (j := 0) (oDec_at oX12_goesOn 163 rfl) rfl rfl ?_
                  refine r_callVi C oCl12 rfl miX12_mark mlX12_304 (ct_X12_mark l E (u357)  ) (by decide) rfl rfl rfl (Nat.le_of_ble_eq_true rfl) (oDec_at oX12_goesOn 164 rfl) (fun r424 u423 pu423 fu423 => ?_)
                  try dsimp only at pu423
                  have hxu423 := oFr_nil fu423; subst hxu423
                  have rr424 := n_rng r424
                  refine r_bipush C (oDec_at oX12_goesOn 165 rfl) (v := k22) (by rw [qk22]; rfl) ?_
                  refine r_icmp_ne C 358 (oDec_at oX12_goesOn 166 rfl) (by decide) (fun cd425 => ?_) (fun cd425 => ?_)
                  · skip
                    have lk426 : ((u357).1 71 4).toInt = (t.1 71 4).toInt := congrArg Int32.toInt (((fu357 71 4 rfl).1).trans (((fu315 71 4 rfl).1).trans (((fu302 71 4 rfl).1).trans ((fu260 71 4 rfl).1))))
                    have lk427 : ((u357).1 71 5).toInt = (t.1 71 5).toInt := congrArg Int32.toInt (((fu357 71 5 rfl).1).trans (((fu315 71 5 rfl).1).trans (((fu302 71 5 rfl).1).trans ((fu260 71 5 rfl).1))))
                    have lk428 : ((u357).1 71 48).toInt = (t.1 71 48).toInt := congrArg Int32.toInt (((fu357 71 48 rfl).1).trans (((fu315 71 48 rfl).1).trans (((fu302 71 48 rfl).1).trans ((fu260 71 48 rfl).1))))
                    have lk429 : ((u357).1 71 47).toInt = (t.1 71 47).toInt := congrArg Int32.toInt (((fu357 71 47 rfl).1).trans (((fu315 71 47 rfl).1).trans (((fu302 71 47 rfl).1).trans ((fu260 71 47 rfl).1))))
                    have lk430 : ((u357).1 71 55).toInt = (t.1 71 55).toInt := congrArg Int32.toInt (((fu357 71 55 rfl).1).trans (((fu315 71 55 rfl).1).trans (((fu302 71 55 rfl).1).trans ((fu260 71 55 rfl).1))))
                    refine r_aload_n C (j := 0) (oDec_at oX12_goesOn 190 rfl) rfl rfl ?_
                    refine r_callVi C oCl12 rfl miX12_mark mlX12_304 (ct_X12_mark l E (u357)  ) (by decide) rfl rfl rfl (Nat.le_of_ble_eq_true rfl) (oDec_at oX12_goesOn 191 rfl) (fun r432 u431 pu431 fu431 => ?_)
                    try dsimp only at pu431
                    have hxu431 := oFr_nil fu431; subst hxu431
                    have rr432 := n_rng r432
                    refine r_iconst C (oDec_at oX12_goesOn 192 rfl) (v := km1) (by rw [qkm1]; rfl) ?_
                    refine r_icmp_eq C 382 (oDec_at oX12_goesOn 193 rfl) (by decide) (fun cd433 => ?_) (fun cd433 => ?_)
                    · skip
                      have lk434 : ((u357).1 71 6).toInt = (t.1 71 6).toInt := congrArg Int32.toInt (((fu357 71 6 rfl).1).trans (((fu315 71 6 rfl).1).trans (((fu302 71 6 rfl).1).trans ((fu260 71 6 rfl).1))))
                      refine r_iconst C (oDec_at oX12_goesOn 202 rfl) (v := k0) (by rw [qk0]; rfl) ?_
                      have lk435 : ((u357).1 71 48).toInt = (t.1 71 48).toInt := congrArg Int32.toInt (((fu357 71 48 rfl).1).trans (((fu315 71 48 rfl).1).trans (((fu302 71 48 rfl).1).trans ((fu260 71 48 rfl).1))))
                      have lk436 : ((u357).1 71 45).toInt = (t.1 71 45).toInt := congrArg Int32.toInt (((fu357 71 45 rfl).1).trans (((fu315 71 45 rfl).1).trans (((fu302 71 45 rfl).1).trans ((fu260 71 45 rfl).1))))
                      have lk437 : ((u357).1 71 47).toInt = (t.1 71 47).toInt := congrArg Int32.toInt (((fu357 71 47 rfl).1).trans (((fu315 71 47 rfl).1).trans (((fu302 71 47 rfl).1).trans ((fu260 71 47 rfl).1))))
                      exact r_zret C (n_bool (by omega)) (oDec_at oX12_goesOn 203 rfl) ⟨_, rfl, ⟨by omega, by first | (intro h; exfalso; omega) | exact fun _ => (by assumption), by first | (intro h; exfalso; omega) | exact fun _ => ⟨(oQ_fr fu357 rfl (oQ_fr fu315 rfl (oQ_fr fu302 rfl (oQ_fr fu260 rfl iv0)))), by first | (intro hb; exfalso; omega) | exact fun _ => oMk_c pu431 (by omega)⟩, by omega, by omega, by omega, by first | (intro h; exfalso; omega) | exact fun _ => (by assumption), by first | (intro h; exfalso; omega) | exact fun _ => hq364, by first | (intro h; exfalso; omega) | exact fun _ => oqGe_b (by omega) | exact fun _ => oqGe_of (A := (t.1 71 2).toInt) (by omega) (by omega) (by omega) (by omega) (by omega) (by omega), (oqBP_fr fu357 rfl (oqBP_fr fu315 rfl (oqBP_fr fu302 rfl (oqBP_fr fu260 rfl iv10)))), by first | (intro h; exfalso; omega) | exact fun _ => (by assumption), by first | (intro h; exfalso; omega) | exact fun _ => hq365, (owC0_fr fu357 rfl (owC0_fr fu315 rfl (owC0_fr fu302 rfl (owC0_fr fu260 rfl iv12))))⟩⟩
                    · skip
                      have lk438 : ((u357).1 71 5).toInt = (t.1 71 5).toInt := congrArg Int32.toInt (((fu357 71 5 rfl).1).trans (((fu315 71 5 rfl).1).trans (((fu302 71 5 rfl).1).trans ((fu260 71 5 rfl).1))))
                      refine r_aload_n C (j := 0) (oDec_at oX12_goesOn 194 rfl) rfl rfl ?_
                      obtain ⟨v439, ev439⟩ : ∃ z : Int32, (u357).1 71 5 = z := ⟨_, rfl⟩
                      have gv439 : (t.1 71 5).toInt = v439.toInt := congrArg Int32.toInt ((((fu357 71 5 rfl).1).trans (((fu315 71 5 rfl).1).trans (((fu302 71 5 rfl).1).trans ((fu260 71 5 rfl).1)))).symm.trans ev439)
                      have ggv439 : ((u357).1 71 5).toInt = v439.toInt := congrArg Int32.toInt ev439
                      have rv439 := n_rng v439
                      refine r_geti (k := 5) (lo := (-2147483648)) (hi := 2147483647) C v439 oCl12 rfl (by decide) flX12_173 rfl rfl (ev439) rfl rfl (oDec_at oX12_goesOn 195 rfl) (fun _ _ => ?_)
                      refine r_if_ne C 382 (oDec_at oX12_goesOn 196 rfl) (by decide) (fun cd440 => ?_) (fun cd440 => ?_)
                      · skip
                        have lk441 : ((u357).1 71 6).toInt = (t.1 71 6).toInt := congrArg Int32.toInt (((fu357 71 6 rfl).1).trans (((fu315 71 6 rfl).1).trans (((fu302 71 6 rfl).1).trans ((fu260 71 6 rfl).1))))
                        refine r_iconst C (oDec_at oX12_goesOn 202 rfl) (v := k0) (by rw [qk0]; rfl) ?_
                        have lk442 : ((u357).1 71 48).toInt = (t.1 71 48).toInt := congrArg Int32.toInt (((fu357 71 48 rfl).1).trans (((fu315 71 48 rfl).1).trans (((fu302 71 48 rfl).1).trans ((fu260 71 48 rfl).1))))
                        have lk443 : ((u357).1 71 45).toInt = (t.1 71 45).toInt := congrArg Int32.toInt (((fu357 71 45 rfl).1).trans (((fu315 71 45 rfl).1).trans (((fu302 71 45 rfl).1).trans ((fu260 71 45 rfl).1))))
                        have lk444 : ((u357).1 71 47).toInt = (t.1 71 47).toInt := congrArg Int32.toInt (((fu357 71 47 rfl).1).trans (((fu315 71 47 rfl).1).trans (((fu302 71 47 rfl).1).trans ((fu260 71 47 rfl).1))))
                        exact r_zret C (n_bool (by omega)) (oDec_at oX12_goesOn 203 rfl) ⟨_, rfl, ⟨by omega, by first | (intro h; exfalso; omega) | exact fun _ => (by assumption), by first | (intro h; exfalso; omega) | exact fun _ => ⟨(oQ_fr fu357 rfl (oQ_fr fu315 rfl (oQ_fr fu302 rfl (oQ_fr fu260 rfl iv0)))), by first | (intro hb; exfalso; omega) | exact fun _ => oMk_c pu431 (by omega)⟩, by omega, by omega, by omega, by first | (intro h; exfalso; omega) | exact fun _ => (by assumption), by first | (intro h; exfalso; omega) | exact fun _ => hq364, by first | (intro h; exfalso; omega) | exact fun _ => oqGe_b (by omega) | exact fun _ => oqGe_of (A := (t.1 71 2).toInt) (by omega) (by omega) (by omega) (by omega) (by omega) (by omega), (oqBP_fr fu357 rfl (oqBP_fr fu315 rfl (oqBP_fr fu302 rfl (oqBP_fr fu260 rfl iv10)))), by first | (intro h; exfalso; omega) | exact fun _ => (by assumption), by first | (intro h; exfalso; omega) | exact fun _ => hq365, (owC0_fr fu357 rfl (owC0_fr fu315 rfl (owC0_fr fu302 rfl (owC0_fr fu260 rfl iv12))))⟩⟩
                      · skip
                        have lk445 : ((u357).1 71 4).toInt = (t.1 71 4).toInt := congrArg Int32.toInt (((fu357 71 4 rfl).1).trans (((fu315 71 4 rfl).1).trans (((fu302 71 4 rfl).1).trans ((fu260 71 4 rfl).1))))
                        have lk446 : ((u357).1 71 5).toInt = v439.toInt := congrArg Int32.toInt (ev439)
                        have lk447 : ((u357).1 71 48).toInt = (t.1 71 48).toInt := congrArg Int32.toInt (((fu357 71 48 rfl).1).trans (((fu315 71 48 rfl).1).trans (((fu302 71 48 rfl).1).trans ((fu260 71 48 rfl).1))))
                        have lk448 : ((u357).1 71 47).toInt = (t.1 71 47).toInt := congrArg Int32.toInt (((fu357 71 47 rfl).1).trans (((fu315 71 47 rfl).1).trans (((fu302 71 47 rfl).1).trans ((fu260 71 47 rfl).1))))
                        have lk449 : ((u357).1 71 55).toInt = (t.1 71 55).toInt := congrArg Int32.toInt (((fu357 71 55 rfl).1).trans (((fu315 71 55 rfl).1).trans (((fu302 71 55 rfl).1).trans ((fu260 71 55 rfl).1))))
                        have hh2 := oqHs_02 (oQ_fr fu357 rfl (oQ_fr fu315 rfl (oQ_fr fu302 rfl (oQ_fr fu260 rfl iv0)))) (by omega) pu366 pu423 pu431 (by omega) (by omega) (by omega) (by omega) (by omega) (by omega)
                        have hhs : oqHs b (u357) = hk := (oqHq_fr fu357 rfl (oqHq_fr fu315 rfl (oqHq_fr fu302 rfl (oqHq_fr fu260 rfl hq259))))
                        have hg41 := oqNc_g iv9 hhk (by omega)
                        refine r_aload_n C (j := 0) (oDec_at oX12_goesOn 197 rfl) rfl rfl ?_
                        refine r_iconst C (oDec_at oX12_goesOn 198 rfl) (v := k1) (by rw [qk1]; rfl) ?_
                        refine r_aload_n C (j := 0) (oDec_at oX12_goesOn 199 rfl) rfl rfl ?_
                        obtain ⟨v450, ev450⟩ : ∃ z : Int32, (u357).1 71 2 = z := ⟨_, rfl⟩
                        have gv450 : (u357.1 71 2).toInt = v450.toInt := congrArg Int32.toInt (ev450)
                        refine r_geti (k := 2) (lo := 0) (hi := 1600) C v450 oCl12 rfl (by decide) flX12_179 rfl rfl (ev450) rfl rfl (oDec_at oX12_goesOn 200 rfl) (fun b451 b451h => ?_)
                        have lk452 : ((u357).1 71 5).toInt = v439.toInt := congrArg Int32.toInt (ev439)
                        have lk453 : ((u357).1 71 5).toInt = v439.toInt := congrArg Int32.toInt (ev439)
                        have lk454 : ((u357).1 71 6).toInt = (t.1 71 6).toInt := congrArg Int32.toInt (((fu357 71 6 rfl).1).trans (((fu315 71 6 rfl).1).trans (((fu302 71 6 rfl).1).trans ((fu260 71 6 rfl).1))))
                        refine r_callVv C oCl12 rfl miX12_fail mlX12_203 (ct7_X12_fail l E (u357) k1 v450 (by omega) (oqBP_fr fu357 rfl (oqBP_fr fu315 rfl (oqBP_fr fu302 rfl (oqBP_fr fu260 rfl iv10))))) (by decide) rfl rfl rfl (Nat.le_of_ble_eq_true rfl) (oDec_at oX12_goesOn 201 rfl) (fun u455 pu455 fu455 => ?_)
                        try dsimp only at pu455
                        try simp only [lk452, lk453, lk454] at pu455
                        obtain ⟨pu455_0, pu455_1, pu455_2⟩ := pu455
                        have hq457 : oqJ g fp fq cz kx b 3 (u455) := oqJ_opF (s := u357) hq364 (by omega) hno (by omega) (by omega) (by omega)
                        have hq458 : oqJw g fp fq cw xw b cs 3 (u455) := oqJw_bd (by omega)
                        refine r_iconst C (oDec_at oX12_goesOn 202 rfl) (v := k0) (by rw [qk0]; rfl) ?_
                        refine r_pc C 383 rfl ?_
                        have lk459 : ((u455).1 71 48).toInt = (t.1 71 48).toInt := congrArg Int32.toInt (((fu455 71 48 rfl).1).trans (((fu357 71 48 rfl).1).trans (((fu315 71 48 rfl).1).trans (((fu302 71 48 rfl).1).trans ((fu260 71 48 rfl).1)))))
                        have lk460 : ((u455).1 71 2).toInt = v450.toInt := congrArg Int32.toInt (((fu455 71 2 rfl).1).trans (ev450))
                        have lk461 : ((u455).1 71 45).toInt = (t.1 71 45).toInt := congrArg Int32.toInt (((fu455 71 45 rfl).1).trans (((fu357 71 45 rfl).1).trans (((fu315 71 45 rfl).1).trans (((fu302 71 45 rfl).1).trans ((fu260 71 45 rfl).1)))))
                        have lk462 : ((u455).1 71 47).toInt = (t.1 71 47).toInt := congrArg Int32.toInt (((fu455 71 47 rfl).1).trans (((fu357 71 47 rfl).1).trans (((fu315 71 47 rfl).1).trans (((fu302 71 47 rfl).1).trans ((fu260 71 47 rfl).1)))))
                        have lk463 : ((u455).1 71 2).toInt = v450.toInt := congrArg Int32.toInt (((fu455 71 2 rfl).1).trans (ev450))
                        exact r_zret C (n_bool (by omega)) (oDec_at oX12_goesOn 203 rfl) ⟨_, rfl, ⟨by omega, by first | (intro h; exfalso; omega) | exact fun _ => (by assumption), by first | (intro h; exfalso; omega) | exact fun _ => ⟨(oQ_frb fu455 rfl (by omega) (oQ_fr fu357 rfl (oQ_fr fu315 rfl (oQ_fr fu302 rfl (oQ_fr fu260 rfl iv0))))), by first | (intro hb; exfalso; omega) | exact fun _ => oMk_c pu455 (by omega)⟩, by omega, by omega, by omega, by first | (intro h; exfalso; omega) | exact fun _ => (by assumption), by first | (intro h; exfalso; omega) | exact fun _ => hq457, by first | (intro h; exfalso; omega) | exact fun _ => oqGe_b (by omega) | exact fun _ => oqGe_of (A := (t.1 71 2).toInt) (by omega) (by omega) (by omega) (by omega) (by omega) (by omega), pu455_2, by first | (intro h; exfalso; omega) | exact fun _ => (by assumption), by first | (intro h; exfalso; omega) | exact fun _ => hq458, (owC0_fr fu455 rfl (owC0_fr fu357 rfl (owC0_fr fu315 rfl (owC0_fr fu302 rfl (owC0_fr fu260 rfl iv12)))))⟩⟩
                  · skip
                    have lk464 : ((u357).1 71 45).toInt = (t.1 71 45).toInt := congrArg Int32.toInt (((fu357 71 45 rfl).1).trans (((fu315 71 45 rfl).1).trans (((fu302 71 45 rfl).1).trans ((fu260 71 45 rfl).1))))
                    have lk465 : ((u357).1 71 47).toInt = (t.1 71 47).toInt := congrArg Int32.toInt (((fu357 71 47 rfl).1).trans (((fu315 71 47 rfl).1).trans (((fu302 71 47 rfl).1).trans ((fu260 71 47 rfl).1))))
                    have lk466 : ((u357).1 71 48).toInt = (t.1 71 48).toInt := congrArg Int32.toInt (((fu357 71 48 rfl).1).trans (((fu315 71 48 rfl).1).trans (((fu302 71 48 rfl).1).trans ((fu260 71 48 rfl).1))))
                    have lk467 : ((u357).1 71 4).toInt = (t.1 71 4).toInt := congrArg Int32.toInt (((fu357 71 4 rfl).1).trans (((fu315 71 4 rfl).1).trans (((fu302 71 4 rfl).1).trans ((fu260 71 4 rfl).1))))
                    have lk468 : ((u357).1 71 5).toInt = (t.1 71 5).toInt := congrArg Int32.toInt (((fu357 71 5 rfl).1).trans (((fu315 71 5 rfl).1).trans (((fu302 71 5 rfl).1).trans ((fu260 71 5 rfl).1))))
                    have lk469 : ((u357).1 71 55).toInt = (t.1 71 55).toInt := congrArg Int32.toInt (((fu357 71 55 rfl).1).trans (((fu315 71 55 rfl).1).trans (((fu302 71 55 rfl).1).trans ((fu260 71 55 rfl).1))))
                    have hh1 := oqHs_1 (oQ_fr fu357 rfl (oQ_fr fu315 rfl (oQ_fr fu302 rfl (oQ_fr fu260 rfl iv0)))) (by omega) pu423 (by omega) (by omega) (by omega) (by omega)
                    have hq470 : oMk (r424.toInt) (u357) := pu423
                    have hq471 : oqK b (oqSg ((u357).1 103) b (((u357).1 71 47).toNatClampNeg - b)) (u357) := rfl
                    refine r_aload_n C (j := 0) (oDec_at oX12_goesOn 167 rfl) rfl rfl ?_
                    refine r_bipush C (oDec_at oX12_goesOn 168 rfl) (v := k44) (by rw [qk44]; rfl) ?_
                    have lk472 : ((u357).1 71 5).toInt = (t.1 71 5).toInt := congrArg Int32.toInt (((fu357 71 5 rfl).1).trans (((fu315 71 5 rfl).1).trans (((fu302 71 5 rfl).1).trans ((fu260 71 5 rfl).1))))
                    have lk473 : ((u357).1 71 5).toInt = (t.1 71 5).toInt := congrArg Int32.toInt (((fu357 71 5 rfl).1).trans (((fu315 71 5 rfl).1).trans (((fu302 71 5 rfl).1).trans ((fu260 71 5 rfl).1))))
                    have lk474 : ((u357).1 71 6).toInt = (t.1 71 6).toInt := congrArg Int32.toInt (((fu357 71 6 rfl).1).trans (((fu315 71 6 rfl).1).trans (((fu302 71 6 rfl).1).trans ((fu260 71 6 rfl).1))))
                    have lk475 : ((u357).1 71 5).toInt = (t.1 71 5).toInt := congrArg Int32.toInt (((fu357 71 5 rfl).1).trans (((fu315 71 5 rfl).1).trans (((fu302 71 5 rfl).1).trans ((fu260 71 5 rfl).1))))
                    have lk476 : ((u357).1 71 6).toInt = (t.1 71 6).toInt := congrArg Int32.toInt (((fu357 71 6 rfl).1).trans (((fu315 71 6 rfl).1).trans (((fu302 71 6 rfl).1).trans ((fu260 71 6 rfl).1))))
                    have lk477 : ((u357).1 71 5).toInt = (t.1 71 5).toInt := congrArg Int32.toInt (((fu357 71 5 rfl).1).trans (((fu315 71 5 rfl).1).trans (((fu302 71 5 rfl).1).trans ((fu260 71 5 rfl).1))))
                    refine r_callVv C oCl12 rfl miX12_asksSign mlX12_248 (ct7_X12_asksSign l E (u357) k44 (g) ((t.1 71 2).toInt) (44) (by omega) (oqZ_fr fu357 rfl (oqZ_fr fu315 rfl (oqZ_fr fu302 rfl (oqZ_fr fu260 rfl iv7)))) (by omega) (by omega) (oqBP_fr fu357 rfl (oqBP_fr fu315 rfl (oqBP_fr fu302 rfl (oqBP_fr fu260 rfl iv10))))) (by decide) rfl rfl rfl (Nat.le_of_ble_eq_true rfl) (oDec_at oX12_goesOn 169 rfl) (fun u478 pu478 fu478 => ?_)
                    try dsimp only at pu478
                    try simp only [lk472, lk473, lk474, lk475, lk476, lk477] at pu478
                    obtain ⟨pu478_0, pu478_1, pu478_2, pu478_3, pu478_4⟩ := pu478
                    have lk480 : ((u478).1 71 4).toInt = (t.1 71 4).toInt := congrArg Int32.toInt (((fu478 71 4 rfl).1).trans (((fu357 71 4 rfl).1).trans (((fu315 71 4 rfl).1).trans (((fu302 71 4 rfl).1).trans ((fu260 71 4 rfl).1)))))
                    have lk481 : ((u478).1 71 48).toInt = (t.1 71 48).toInt := congrArg Int32.toInt (((fu478 71 48 rfl).1).trans (((fu357 71 48 rfl).1).trans (((fu315 71 48 rfl).1).trans (((fu302 71 48 rfl).1).trans ((fu260 71 48 rfl).1)))))
                    have lk482 : ((u478).1 71 47).toInt = (t.1 71 47).toInt := congrArg Int32.toInt (((fu478 71 47 rfl).1).trans (((fu357 71 47 rfl).1).trans (((fu315 71 47 rfl).1).trans (((fu302 71 47 rfl).1).trans ((fu260 71 47 rfl).1)))))
                    refine r_aload_n C (j := 0) (oDec_at oX12_goesOn 170 rfl) rfl rfl ?_
                    obtain ⟨v483, ev483⟩ : ∃ z : Int32, (u478).1 71 5 = z := ⟨_, rfl⟩
                    have gv483 : (u478.1 71 5).toInt = v483.toInt := congrArg Int32.toInt (ev483)
                    have rv483 := n_rng v483
                    refine r_geti (k := 5) (lo := (-2147483648)) (hi := 2147483647) C v483 oCl12 rfl (by decide) flX12_173 rfl rfl (ev483) rfl rfl (oDec_at oX12_goesOn 171 rfl) (fun _ _ => ?_)
                    refine r_if_eq C 337 (oDec_at oX12_goesOn 172 rfl) (by decide) (fun cd484 => ?_) (fun cd484 => ?_)
                    · skip
                      have hg44 : g (((u478).1 71 2).toInt - 1) = 44 := by rw [show ((u478).1 71 2).toInt - 1 = oqSk g (t.1 71 2).toInt by omega]; omega
                      have hmu9 : ¬ oqMu g (((u478).1 71 2).toInt - 1) := oqMu_no ⟨by omega, by omega⟩
                      have hq485 : oqOw g fp fq cw xw b cs (u478) := oqOw_of (s := u357) hq365 (oqSq_of fu478 rfl) (fun h9 => ⟨by omega, by rw [show ((u357).1 71 2).toInt = (t.1 71 2).toInt by omega]; omega⟩) (congrArg Int32.toInt (fu478 71 4 rfl).1)
                      refine r_aload_n C (j := 0) (oDec_at oX12_goesOn 175 rfl) rfl rfl ?_
                      have lk486 : ((u478).1 71 55).toInt = (t.1 71 55).toInt := congrArg Int32.toInt (((fu478 71 55 rfl).1).trans (((fu357 71 55 rfl).1).trans (((fu315 71 55 rfl).1).trans (((fu302 71 55 rfl).1).trans ((fu260 71 55 rfl).1)))))
                      have lk487 : ((u478).1 71 5).toInt = v483.toInt := congrArg Int32.toInt (ev483)
                      have lk488 : ((u478).1 71 45).toInt = (t.1 71 45).toInt := congrArg Int32.toInt (((fu478 71 45 rfl).1).trans (((fu357 71 45 rfl).1).trans (((fu315 71 45 rfl).1).trans (((fu302 71 45 rfl).1).trans ((fu260 71 45 rfl).1)))))
                      have lk489 : ((u478).1 71 47).toInt = (t.1 71 47).toInt := congrArg Int32.toInt (((fu478 71 47 rfl).1).trans (((fu357 71 47 rfl).1).trans (((fu315 71 47 rfl).1).trans (((fu302 71 47 rfl).1).trans ((fu260 71 47 rfl).1)))))
                      have lk490 : ((u478).1 71 45).toInt = (t.1 71 45).toInt := congrArg Int32.toInt (((fu478 71 45 rfl).1).trans (((fu357 71 45 rfl).1).trans (((fu315 71 45 rfl).1).trans (((fu302 71 45 rfl).1).trans ((fu260 71 45 rfl).1)))))
                      have lk491 : ((u478).1 71 47).toInt = (t.1 71 47).toInt := congrArg Int32.toInt (((fu478 71 47 rfl).1).trans (((fu357 71 47 rfl).1).trans (((fu315 71 47 rfl).1).trans (((fu302 71 47 rfl).1).trans ((fu260 71 47 rfl).1)))))
                      have lk492 : ((u478).1 71 47).toInt = (t.1 71 47).toInt := congrArg Int32.toInt (((fu478 71 47 rfl).1).trans (((fu357 71 47 rfl).1).trans (((fu315 71 47 rfl).1).trans (((fu302 71 47 rfl).1).trans ((fu260 71 47 rfl).1)))))
                      refine r_callVv C oCl12 rfl miX12_dropsToMark mlX12_307 (ct9_X12_dropsToMark l E (u478)  (b) (x + 1) (r424.toInt) (oqSg ((u357).1 103) b (((u357).1 71 47).toNatClampNeg - b)) (g) (fp) (fq) (cw) (xw) (cs) (Cq) (oQ_frb fu478 rfl (by omega) (oQ_fr fu357 rfl (oQ_fr fu315 rfl (oQ_fr fu302 rfl (oQ_fr fu260 rfl iv0))))) (oMk_fr fu478 rfl hq470) (by omega) (by omega) (by omega) (by omega) (oqK_fr fu478 rfl hq471) hq485 hmu9 (owC0_fr fu478 rfl (owC0_fr fu357 rfl (owC0_fr fu315 rfl (owC0_fr fu302 rfl (owC0_fr fu260 rfl iv12)))))) (by decide) rfl rfl rfl (Nat.le_of_ble_eq_true rfl) (oDec_at oX12_goesOn 176 rfl) (fun u493 pu493 fu493 => ?_)
                      try dsimp only at pu493
                      try simp only [lk486, lk487, lk488, lk489, lk490, lk491, lk492] at pu493
                      obtain ⟨pu493_0, pu493_1, pu493_2, pu493_3, pu493_4, pu493_5, pu493_6⟩ := pu493
                      have lk495 : ((u493).1 71 5).toInt = v483.toInt := congrArg Int32.toInt (((fu493 71 5 rfl).1).trans (ev483))
                      have lk496 : ((u493).1 71 48).toInt = (t.1 71 48).toInt := congrArg Int32.toInt (((fu493 71 48 rfl).1).trans (((fu478 71 48 rfl).1).trans (((fu357 71 48 rfl).1).trans (((fu315 71 48 rfl).1).trans (((fu302 71 48 rfl).1).trans ((fu260 71 48 rfl).1))))))
                      have lk497 : ((u493).1 71 2).toInt = (u478.1 71 2).toInt := congrArg Int32.toInt ((fu493 71 2 rfl).1)
                      have lk498 : ((u493).1 71 4).toInt = (t.1 71 4).toInt := congrArg Int32.toInt (((fu493 71 4 rfl).1).trans (((fu478 71 4 rfl).1).trans (((fu357 71 4 rfl).1).trans (((fu315 71 4 rfl).1).trans (((fu302 71 4 rfl).1).trans ((fu260 71 4 rfl).1))))))
                      have htp := pu493_3 (by omega)
                      have hno9 : ¬ oqOp g (((u493).1 71 2).toInt - 1) := by rw [show ((u493).1 71 2).toInt - 1 = ((u478).1 71 2).toInt - 1 by omega]; exact oqOp_no ⟨by omega, by omega, by omega, by omega⟩
                      refine r_aload_n C (j := 0) (oDec_at oX12_goesOn 177 rfl) rfl rfl ?_
                      refine r_getF (k := 46) (b := 103) C oCl12 rfl (by decide) flX12_111 rfl rfl rfl (oDec_at oX12_goesOn 178 rfl) ?_
                      refine r_aload_n C (j := 0) (oDec_at oX12_goesOn 179 rfl) rfl rfl ?_
                      obtain ⟨v499, ev499⟩ : ∃ z : Int32, (u493).1 71 47 = z := ⟨_, rfl⟩
                      have gv499 : (u493.1 71 47).toInt = v499.toInt := congrArg Int32.toInt (ev499)
                      refine r_geti (k := 47) (lo := 0) (hi := 1700) C v499 oCl12 rfl (by decide) flX12_277 rfl rfl (ev499) rfl rfl (oDec_at oX12_goesOn 180 rfl) (fun b500 b500h => ?_)
                      refine r_pc C 349 rfl ?_
                      refine r_iconst C (oDec_at oX12_goesOn 181 rfl) (v := k1) (by rw [qk1]; rfl) ?_
                      obtain ⟨v501, ev501⟩ : ∃ z : Int32, z = v499 - k1 := ⟨_, rfl⟩
                      have hv501 : v501.toInt = v499.toInt - k1.toInt := n_sub ev501 (by omega) (by omega)
                      refine r_isub C v501 (oDec_at oX12_goesOn 182 rfl) ev501 ?_
                      refine r_dup2 C (oDec_at oX12_goesOn 183 rfl) rfl rfl ?_
                      obtain ⟨v503, ev503⟩ : ∃ z : Int32, (u493).1 103 v501.toNatClampNeg = z := ⟨_, rfl⟩
                      have av503 : t.1 103 v501.toNatClampNeg = v503 := (((fu493 103 v501.toNatClampNeg rfl).1).trans (((fu478 103 v501.toNatClampNeg rfl).1).trans (((fu357 103 v501.toNatClampNeg rfl).1).trans (((fu315 103 v501.toNatClampNeg rfl).1).trans (((fu302 103 v501.toNatClampNeg rfl).1).trans ((fu260 103 v501.toNatClampNeg rfl).1)))))).symm.trans ev503
                      have gv503 : (t.1 103 v501.toNatClampNeg).toInt = v503.toInt := congrArg Int32.toInt ((((fu493 103 v501.toNatClampNeg rfl).1).trans (((fu478 103 v501.toNatClampNeg rfl).1).trans (((fu357 103 v501.toNatClampNeg rfl).1).trans (((fu315 103 v501.toNatClampNeg rfl).1).trans (((fu302 103 v501.toNatClampNeg rfl).1).trans ((fu260 103 v501.toNatClampNeg rfl).1)))))).symm.trans ev503)
                      have rv503 := n_rng v503
                      refine r_iald (n := 1700) (lo := (-2147483648)) (hi := 2147483647) C v503 rfl (by decide) rfl rfl ⟨by omega, by omega⟩ (by decide) ev503 rfl rfl (oDec_at oX12_goesOn 184 rfl) (fun _ _ => ?_)
                      have hv0 := oTop_of (s := u493) (i := v501) ev503 (by omega)
                      refine r_iconst C (oDec_at oX12_goesOn 185 rfl) (v := k2) (by rw [qk2]; rfl) ?_
                      obtain ⟨v504, ev504⟩ : ∃ z : Int32, z = v503 + k2 := ⟨_, rfl⟩
                      have hv504 : v504.toInt = v503.toInt + k2.toInt := n_add ev504 (by omega) (by omega)
                      refine r_iadd C v504 (oDec_at oX12_goesOn 186 rfl) ev504 ?_
                      refine r_pc C 355 rfl ?_
                      refine r_iast (n := 1700) (lo := (-2147483648)) (hi := 2147483647) C rfl (by decide) rfl rfl ⟨by omega, by omega⟩ (by decide) rfl rfl rfl rfl (n_rng _) (oDec_at oX12_goesOn 187 rfl) ?_
                      have hq505 : oQ b x ((pI u493 103 v501.toNatClampNeg v504)) := oQ_comma (x := x) pu493_0 (by omega) (by omega) (by assumption) (by omega)
                      have hq506 : oqJ g fp fq cz kx b 1 ((pI u493 103 v501.toNatClampNeg v504)) := oqJ_cm (s := u357) hq364 (by omega) (by omega) ((oFr_row fu493 (c := 103) rfl rfl).trans (oFr_row fu478 (c := 103) rfl rfl)) (by omega) (by omega) (by omega) (by omega) pu493_4 (by omega) (by omega) (by omega) (by omega)
                      have hq507 : oqJw g fp fq cw xw b cs 1 ((pI u493 103 v501.toNatClampNeg v504)) := oqOw_cm pu493_5 (by omega) hno9 (by omega) (by omega) (by omega) (by omega)
                      refine r_iconst C (oDec_at oX12_goesOn 188 rfl) (v := k1) (by rw [qk1]; rfl) ?_
                      have lk508 : (((pI u493 103 v501.toNatClampNeg v504)).1 71 48).toInt = (t.1 71 48).toInt := congrArg Int32.toInt (((pI_ne (a := 71) (b := 48) (c := 103) _ _ (Or.inl (by decide)))).trans (((fu493 71 48 rfl).1).trans (((fu478 71 48 rfl).1).trans (((fu357 71 48 rfl).1).trans (((fu315 71 48 rfl).1).trans (((fu302 71 48 rfl).1).trans ((fu260 71 48 rfl).1)))))))
                      have lk509 : (((pI u493 103 v501.toNatClampNeg v504)).1 71 2).toInt = (u478.1 71 2).toInt := congrArg Int32.toInt (((pI_ne (a := 71) (b := 2) (c := 103) _ _ (Or.inl (by decide)))).trans ((fu493 71 2 rfl).1))
                      have lk510 : (((pI u493 103 v501.toNatClampNeg v504)).1 71 45).toInt = (u493.1 71 45).toInt := congrArg Int32.toInt ((pI_ne (a := 71) (b := 45) (c := 103) _ _ (Or.inl (by decide))))
                      have lk511 : (((pI u493 103 v501.toNatClampNeg v504)).1 71 47).toInt = v499.toInt := congrArg Int32.toInt (((pI_ne (a := 71) (b := 47) (c := 103) _ _ (Or.inl (by decide)))).trans (ev499))
                      have lk512 : (((pI u493 103 v501.toNatClampNeg v504)).1 71 2).toInt = (u478.1 71 2).toInt := congrArg Int32.toInt (((pI_ne (a := 71) (b := 2) (c := 103) _ _ (Or.inl (by decide)))).trans ((fu493 71 2 rfl).1))
                      exact r_zret C (n_bool (by omega)) (oDec_at oX12_goesOn 189 rfl) ⟨_, rfl, ⟨by omega, by first | (intro h; exfalso; omega) | exact fun _ => hq505, by first | (intro h; exfalso; omega) | exact fun _ => ⟨(by assumption), by first | (intro hb; exfalso; omega) | exact fun _ => oMk_c pu493 (by omega)⟩, by omega, by omega, by omega, by first | (intro h; exfalso; omega) | exact fun _ => hq506, by first | (intro h; exfalso; omega) | exact fun _ => (by assumption), by first | (intro h; exfalso; omega) | exact fun _ => oqGe_b (by omega) | exact fun _ => oqGe_of (A := (t.1 71 2).toInt) (by omega) (by omega) (by omega) (by omega) (by omega) (by omega), (oqBP_fr (oFr_oneI (q := 79) (m := 9999) rfl (by rfl)) rfl (oqBP_fr fu493 rfl pu478_4)), by first | (intro h; exfalso; omega) | exact fun _ => hq507, by first | (intro h; exfalso; omega) | exact fun _ => (by assumption), (owC0_fr (oFr_oneI (q := 79) (m := 9999) rfl (by rfl)) rfl pu493_6)⟩⟩
                    · skip
                      have hq513 : oqJ g fp fq cz kx b 3 (u478) := oqJ_opF (s := u357) hq364 (by omega) hno (by omega) (by omega) (by omega)
                      have hq514 : oqJw g fp fq cw xw b cs 3 (u478) := oqJw_bd (by omega)
                      refine r_iconst C (oDec_at oX12_goesOn 173 rfl) (v := k0) (by rw [qk0]; rfl) ?_
                      have lk515 : ((u478).1 71 48).toInt = (t.1 71 48).toInt := congrArg Int32.toInt (((fu478 71 48 rfl).1).trans (((fu357 71 48 rfl).1).trans (((fu315 71 48 rfl).1).trans (((fu302 71 48 rfl).1).trans ((fu260 71 48 rfl).1)))))
                      have lk516 : ((u478).1 71 45).toInt = (t.1 71 45).toInt := congrArg Int32.toInt (((fu478 71 45 rfl).1).trans (((fu357 71 45 rfl).1).trans (((fu315 71 45 rfl).1).trans (((fu302 71 45 rfl).1).trans ((fu260 71 45 rfl).1)))))
                      have lk517 : ((u478).1 71 47).toInt = (t.1 71 47).toInt := congrArg Int32.toInt (((fu478 71 47 rfl).1).trans (((fu357 71 47 rfl).1).trans (((fu315 71 47 rfl).1).trans (((fu302 71 47 rfl).1).trans ((fu260 71 47 rfl).1)))))
                      exact r_zret C (n_bool (by omega)) (oDec_at oX12_goesOn 174 rfl) ⟨_, rfl, ⟨by omega, by first | (intro h; exfalso; omega) | exact fun _ => (by assumption), by first | (intro h; exfalso; omega) | exact fun _ => ⟨(oQ_frb fu478 rfl (by omega) (oQ_fr fu357 rfl (oQ_fr fu315 rfl (oQ_fr fu302 rfl (oQ_fr fu260 rfl iv0))))), by first | (intro hb; exfalso; omega) | exact fun _ => oMk_c pu478 (by omega)⟩, by omega, by omega, by omega, by first | (intro h; exfalso; omega) | exact fun _ => (by assumption), by first | (intro h; exfalso; omega) | exact fun _ => hq513, by first | (intro h; exfalso; omega) | exact fun _ => oqGe_b (by omega) | exact fun _ => oqGe_of (A := (t.1 71 2).toInt) (by omega) (by omega) (by omega) (by omega) (by omega) (by omega), pu478_4, by first | (intro h; exfalso; omega) | exact fun _ => (by assumption), by first | (intro h; exfalso; omega) | exact fun _ => hq514, (owC0_fr fu478 rfl (owC0_fr fu357 rfl (owC0_fr fu315 rfl (owC0_fr fu302 rfl (owC0_fr fu260 rfl iv12)))))⟩⟩
              · skip
                replace pu357_1 := pu357_1 (by omega)
                clear pu357_2
                have lk518 : ((u357).1 71 4).toInt = (t.1 71 4).toInt := congrArg Int32.toInt (((fu357 71 4 rfl).1).trans (((fu315 71 4 rfl).1).trans (((fu302 71 4 rfl).1).trans ((fu260 71 4 rfl).1))))
                have lk519 : ((u357).1 71 5).toInt = (t.1 71 5).toInt := congrArg Int32.toInt (((fu357 71 5 rfl).1).trans (((fu315 71 5 rfl).1).trans (((fu302 71 5 rfl).1).trans ((fu260 71 5 rfl).1))))
                have lk520 : ((u357).1 71 48).toInt = (t.1 71 48).toInt := congrArg Int32.toInt (((fu357 71 48 rfl).1).trans (((fu315 71 48 rfl).1).trans (((fu302 71 48 rfl).1).trans ((fu260 71 48 rfl).1))))
                have lk521 : ((u357).1 71 47).toInt = (t.1 71 47).toInt := congrArg Int32.toInt (((fu357 71 47 rfl).1).trans (((fu315 71 47 rfl).1).trans (((fu302 71 47 rfl).1).trans ((fu260 71 47 rfl).1))))
                clear pu357_3
                have hq522 : oqJ g fp fq cz kx b 1 (u357) := oqJ_go hq351 (by omega) (by omega) (oFr_row fu357 (c := 103) rfl rfl) (congrArg Int32.toInt (fu357 71 47 rfl).1) (oqs_op (g := g) (p := fp) (q := fq) (a := (t.1 71 2).toInt) (b := (t.1 71 4).toInt) (o := (t.1 71 48).toInt) (by unfold oqOp; omega)) (by rw [show ((u315).1 71 2).toInt = (t.1 71 2).toInt by omega]; omega) (by first | omega | (congr 1; omega)) (by first | omega | (congr 1; omega)) (by first | omega | (congr 1; omega)) (by first | omega | (congr 1; omega)) (by first | omega | (congr 1; omega))
                have hq523 : oqOw g fp fq cw xw b cs (u357) := oqOw_of hq352 (oqSq_of fu357 rfl) (fun h9 => ⟨by omega, by rw [show ((u315).1 71 2).toInt = (t.1 71 2).toInt by omega]; omega⟩) (congrArg Int32.toInt (fu357 71 4 rfl).1)
                refine r_aload_n C (j := 0) (oDec_at oX12_goesOn 113 rfl) rfl rfl ?_
                refine r_getF (k := 0) (b := 72) C oCl12 rfl (by decide) flX12_7 rfl rfl rfl (oDec_at oX12_goesOn 114 rfl) ?_
                refine r_aload_n C (j := 0) (oDec_at oX12_goesOn 115 rfl) rfl rfl ?_
                obtain ⟨v524, ev524⟩ : ∃ z : Int32, (u357).1 71 2 = z := ⟨_, rfl⟩
                have gv524 : (u357.1 71 2).toInt = v524.toInt := congrArg Int32.toInt (ev524)
                refine r_geti (k := 2) (lo := 0) (hi := 1600) C v524 oCl12 rfl (by decide) flX12_179 rfl rfl (ev524) rfl rfl (oDec_at oX12_goesOn 116 rfl) (fun b525 b525h => ?_)
                refine r_iconst C (oDec_at oX12_goesOn 117 rfl) (v := k1) (by rw [qk1]; rfl) ?_
                obtain ⟨v526, ev526⟩ : ∃ z : Int32, z = v524 - k1 := ⟨_, rfl⟩
                have hv526 : v526.toInt = v524.toInt - k1.toInt := n_sub ev526 (by omega) (by omega)
                refine r_isub C v526 (oDec_at oX12_goesOn 118 rfl) ev526 ?_
                refine r_pc C 231 rfl ?_
                obtain ⟨v528, ev528⟩ : ∃ z : Int32, (u357).1 72 v526.toNatClampNeg = z := ⟨_, rfl⟩
                have av528 : t.1 72 v526.toNatClampNeg = v528 := (((fu357 72 v526.toNatClampNeg rfl).1).trans (((fu315 72 v526.toNatClampNeg rfl).1).trans (((fu302 72 v526.toNatClampNeg rfl).1).trans ((fu260 72 v526.toNatClampNeg rfl).1)))).symm.trans ev528
                have gv528 : (t.1 72 v526.toNatClampNeg).toInt = v528.toInt := congrArg Int32.toInt ((((fu357 72 v526.toNatClampNeg rfl).1).trans (((fu315 72 v526.toNatClampNeg rfl).1).trans (((fu302 72 v526.toNatClampNeg rfl).1).trans ((fu260 72 v526.toNatClampNeg rfl).1)))).symm.trans ev528)
                refine r_iald (n := 1600) (lo := 0) (hi := 255) C v528 rfl (by decide) rfl rfl ⟨by omega, by omega⟩ (by decide) ev528 rfl rfl (oDec_at oX12_goesOn 119 rfl) (fun b527 b527h => ?_)
                have lk529 : ((u357).1 71 2).toInt = v524.toInt := congrArg Int32.toInt (ev524)
                have hgc := oqZ_rd (a := ((u357).1 71 2).toInt - 1) (oqZ_fr fu357 rfl (oqZ_fr fu315 rfl (oqZ_fr fu302 rfl (oqZ_fr fu260 rfl iv7)))) ev528 (by omega) (by omega) (by rw [show ((u357).1 71 2).toInt - 1 = oqSk g (t.1 71 2).toInt by omega]; omega)
                have hoc := oqOc_v (g := g) (a := ((u357).1 71 2).toInt - 1)
                have hgd : g (((u357).1 71 2).toInt - 1) = g (oqSk g (t.1 71 2).toInt) := by rw [show ((u357).1 71 2).toInt - 1 = oqSk g (t.1 71 2).toInt by omega]
                refine r_bipush C (oDec_at oX12_goesOn 120 rfl) (v := k43) (by rw [qk43]; rfl) ?_
                refine r_icmp_ne C 241 (oDec_at oX12_goesOn 121 rfl) (by decide) (fun cd530 => ?_) (fun cd530 => ?_)
                · skip
                  refine r_iconst C (oDec_at oX12_goesOn 124 rfl) (v := k2) (by rw [qk2]; rfl) ?_
                  refine r_istore_n C (lv' := [(0, .ref (oad E 71)), (1, .int k2)]) [1, 0] (oDec_at oX12_goesOn 125 rfl) rfl (by decide) rfl ?_
                  have lk531 : ((u357).1 71 5).toInt = (t.1 71 5).toInt := congrArg Int32.toInt (((fu357 71 5 rfl).1).trans (((fu315 71 5 rfl).1).trans (((fu302 71 5 rfl).1).trans ((fu260 71 5 rfl).1))))
                  have lk532 : ((u357).1 71 48).toInt = (t.1 71 48).toInt := congrArg Int32.toInt (((fu357 71 48 rfl).1).trans (((fu315 71 48 rfl).1).trans (((fu302 71 48 rfl).1).trans ((fu260 71 48 rfl).1))))
                  have lk533 : ((u357).1 71 2).toInt = v524.toInt := congrArg Int32.toInt (ev524)
                  have lk534 : ((u357).1 71 45).toInt = (t.1 71 45).toInt := congrArg Int32.toInt (((fu357 71 45 rfl).1).trans (((fu315 71 45 rfl).1).trans (((fu302 71 45 rfl).1).trans ((fu260 71 45 rfl).1))))
                  have lk535 : ((u357).1 71 47).toInt = (t.1 71 47).toInt := congrArg Int32.toInt (((fu357 71 47 rfl).1).trans (((fu315 71 47 rfl).1).trans (((fu302 71 47 rfl).1).trans ((fu260 71 47 rfl).1))))
                  have lk536 : ((u357).1 71 2).toInt = v524.toInt := congrArg Int32.toInt (ev524)
                  have lk537 : ((u357).1 71 2).toInt = v524.toInt := congrArg Int32.toInt (ev524)
                  have lk538 : ((u357).1 71 47).toInt = (t.1 71 47).toInt := congrArg Int32.toInt (((fu357 71 47 rfl).1).trans (((fu315 71 47 rfl).1).trans (((fu302 71 47 rfl).1).trans ((fu260 71 47 rfl).1))))
                  exact (ih (n - 1) (by omega)).2.2.2 (u357) k2  (oQ_fr fu357 rfl (oQ_fr fu315 rfl (oQ_fr fu302 rfl (oQ_fr fu260 rfl iv0)))) (by omega) (by omega) (by omega) (by omega) (by omega) hq522 (oqBP_fr fu357 rfl (oqBP_fr fu315 rfl (oqBP_fr fu302 rfl (oqBP_fr fu260 rfl iv10)))) hq523 (by first | omega | (rw [show ((u357).1 71 2).toInt = (t.1 71 2).toInt by omega]; omega)) (owC0_fr fu357 rfl (owC0_fr fu315 rfl (owC0_fr fu302 rfl (owC0_fr fu260 rfl iv12)))) (by omega)
                · skip
                  refine r_iconst C (oDec_at oX12_goesOn 122 rfl) (v := k1) (by rw [qk1]; rfl) ?_
                  refine r_goto C (tgt := 242) (oDec_at oX12_goesOn 123 rfl) (by decide) ?_
                  refine r_istore_n C (lv' := [(0, .ref (oad E 71)), (1, .int k1)]) [1, 0] (oDec_at oX12_goesOn 125 rfl) rfl (by decide) rfl ?_
                  have lk539 : ((u357).1 71 5).toInt = (t.1 71 5).toInt := congrArg Int32.toInt (((fu357 71 5 rfl).1).trans (((fu315 71 5 rfl).1).trans (((fu302 71 5 rfl).1).trans ((fu260 71 5 rfl).1))))
                  have lk540 : ((u357).1 71 48).toInt = (t.1 71 48).toInt := congrArg Int32.toInt (((fu357 71 48 rfl).1).trans (((fu315 71 48 rfl).1).trans (((fu302 71 48 rfl).1).trans ((fu260 71 48 rfl).1))))
                  have lk541 : ((u357).1 71 2).toInt = v524.toInt := congrArg Int32.toInt (ev524)
                  have lk542 : ((u357).1 71 45).toInt = (t.1 71 45).toInt := congrArg Int32.toInt (((fu357 71 45 rfl).1).trans (((fu315 71 45 rfl).1).trans (((fu302 71 45 rfl).1).trans ((fu260 71 45 rfl).1))))
                  have lk543 : ((u357).1 71 47).toInt = (t.1 71 47).toInt := congrArg Int32.toInt (((fu357 71 47 rfl).1).trans (((fu315 71 47 rfl).1).trans (((fu302 71 47 rfl).1).trans ((fu260 71 47 rfl).1))))
                  have lk544 : ((u357).1 71 2).toInt = v524.toInt := congrArg Int32.toInt (ev524)
                  have lk545 : ((u357).1 71 2).toInt = v524.toInt := congrArg Int32.toInt (ev524)
                  have lk546 : ((u357).1 71 47).toInt = (t.1 71 47).toInt := congrArg Int32.toInt (((fu357 71 47 rfl).1).trans (((fu315 71 47 rfl).1).trans (((fu302 71 47 rfl).1).trans ((fu260 71 47 rfl).1))))
                  exact (ih (n - 1) (by omega)).2.2.2 (u357) k1  (oQ_fr fu357 rfl (oQ_fr fu315 rfl (oQ_fr fu302 rfl (oQ_fr fu260 rfl iv0)))) (by omega) (by omega) (by omega) (by omega) (by omega) hq522 (oqBP_fr fu357 rfl (oqBP_fr fu315 rfl (oqBP_fr fu302 rfl (oqBP_fr fu260 rfl iv10)))) hq523 (by first | omega | (rw [show ((u357).1 71 2).toInt = (t.1 71 2).toInt by omega]; omega)) (owC0_fr fu357 rfl (owC0_fr fu315 rfl (owC0_fr fu302 rfl (owC0_fr fu260 rfl iv12)))) (by omega)
          · skip
            replace pu302_1 := pu302_1 (by omega)
            clear pu302_2
            have lk547 : ((u302).1 71 4).toInt = (t.1 71 4).toInt := congrArg Int32.toInt (((fu302 71 4 rfl).1).trans ((fu260 71 4 rfl).1))
            have lk548 : ((u302).1 71 5).toInt = (t.1 71 5).toInt := congrArg Int32.toInt (((fu302 71 5 rfl).1).trans ((fu260 71 5 rfl).1))
            have lk549 : ((u302).1 71 48).toInt = (t.1 71 48).toInt := congrArg Int32.toInt (((fu302 71 48 rfl).1).trans ((fu260 71 48 rfl).1))
            have lk550 : ((u302).1 71 47).toInt = (t.1 71 47).toInt := congrArg Int32.toInt (((fu302 71 47 rfl).1).trans ((fu260 71 47 rfl).1))
            clear pu302_3
            have hq551 : oqJ g fp fq cz kx b 1 (u302) := oqJ_go hq296 (by omega) (by omega) (oFr_row fu302 (c := 103) rfl rfl) (congrArg Int32.toInt (fu302 71 47 rfl).1) (oqs_op (g := g) (p := fp) (q := fq) (a := (t.1 71 2).toInt) (b := (t.1 71 4).toInt) (o := (t.1 71 48).toInt) (by unfold oqOp; omega)) (by rw [show ((u260).1 71 2).toInt = (t.1 71 2).toInt by omega]; omega) (by first | omega | (congr 1; omega)) (by first | omega | (congr 1; omega)) (by first | omega | (congr 1; omega)) (by first | omega | (congr 1; omega)) (by first | omega | (congr 1; omega))
            have hq552 : oqOw g fp fq cw xw b cs (u302) := oqOw_of hq297 (oqSq_of fu302 rfl) (fun h9 => ⟨by omega, by rw [show ((u260).1 71 2).toInt = (t.1 71 2).toInt by omega]; omega⟩) (congrArg Int32.toInt (fu302 71 4 rfl).1)
            refine r_aload_n C (j := 0) (oDec_at oX12_goesOn 67 rfl) rfl rfl ?_
            refine r_getF (k := 0) (b := 72) C oCl12 rfl (by decide) flX12_7 rfl rfl rfl (oDec_at oX12_goesOn 68 rfl) ?_
            refine r_aload_n C (j := 0) (oDec_at oX12_goesOn 69 rfl) rfl rfl ?_
            obtain ⟨v553, ev553⟩ : ∃ z : Int32, (u302).1 71 2 = z := ⟨_, rfl⟩
            have gv553 : (u302.1 71 2).toInt = v553.toInt := congrArg Int32.toInt (ev553)
            refine r_geti (k := 2) (lo := 0) (hi := 1600) C v553 oCl12 rfl (by decide) flX12_179 rfl rfl (ev553) rfl rfl (oDec_at oX12_goesOn 70 rfl) (fun b554 b554h => ?_)
            refine r_iconst C (oDec_at oX12_goesOn 71 rfl) (v := k1) (by rw [qk1]; rfl) ?_
            obtain ⟨v555, ev555⟩ : ∃ z : Int32, z = v553 - k1 := ⟨_, rfl⟩
            have hv555 : v555.toInt = v553.toInt - k1.toInt := n_sub ev555 (by omega) (by omega)
            refine r_isub C v555 (oDec_at oX12_goesOn 72 rfl) ev555 ?_
            refine r_pc C 146 rfl ?_
            obtain ⟨v557, ev557⟩ : ∃ z : Int32, (u302).1 72 v555.toNatClampNeg = z := ⟨_, rfl⟩
            have av557 : t.1 72 v555.toNatClampNeg = v557 := (((fu302 72 v555.toNatClampNeg rfl).1).trans ((fu260 72 v555.toNatClampNeg rfl).1)).symm.trans ev557
            have gv557 : (t.1 72 v555.toNatClampNeg).toInt = v557.toInt := congrArg Int32.toInt ((((fu302 72 v555.toNatClampNeg rfl).1).trans ((fu260 72 v555.toNatClampNeg rfl).1)).symm.trans ev557)
            refine r_iald (n := 1600) (lo := 0) (hi := 255) C v557 rfl (by decide) rfl rfl ⟨by omega, by omega⟩ (by decide) ev557 rfl rfl (oDec_at oX12_goesOn 73 rfl) (fun b556 b556h => ?_)
            have lk558 : ((u302).1 71 2).toInt = v553.toInt := congrArg Int32.toInt (ev553)
            have hgc := oqZ_rd (a := ((u302).1 71 2).toInt - 1) (oqZ_fr fu302 rfl (oqZ_fr fu260 rfl iv7)) ev557 (by omega) (by omega) (by rw [show ((u302).1 71 2).toInt - 1 = oqSk g (t.1 71 2).toInt by omega]; omega)
            have hoc := oqOc_v (g := g) (a := ((u302).1 71 2).toInt - 1)
            have hgd : g (((u302).1 71 2).toInt - 1) = g (oqSk g (t.1 71 2).toInt) := by rw [show ((u302).1 71 2).toInt - 1 = oqSk g (t.1 71 2).toInt by omega]
            refine r_bipush C (oDec_at oX12_goesOn 74 rfl) (v := k42) (by rw [qk42]; rfl) ?_
            refine r_icmp_ne C 156 (oDec_at oX12_goesOn 75 rfl) (by decide) (fun cd559 => ?_) (fun cd559 => ?_)
            · skip
              refine r_iconst C (oDec_at oX12_goesOn 78 rfl) (v := k4) (by rw [qk4]; rfl) ?_
              refine r_istore_n C (lv' := [(0, .ref (oad E 71)), (1, .int k4)]) [1, 0] (oDec_at oX12_goesOn 79 rfl) rfl (by decide) rfl ?_
              have lk560 : ((u302).1 71 5).toInt = (t.1 71 5).toInt := congrArg Int32.toInt (((fu302 71 5 rfl).1).trans ((fu260 71 5 rfl).1))
              have lk561 : ((u302).1 71 48).toInt = (t.1 71 48).toInt := congrArg Int32.toInt (((fu302 71 48 rfl).1).trans ((fu260 71 48 rfl).1))
              have lk562 : ((u302).1 71 2).toInt = v553.toInt := congrArg Int32.toInt (ev553)
              have lk563 : ((u302).1 71 45).toInt = (t.1 71 45).toInt := congrArg Int32.toInt (((fu302 71 45 rfl).1).trans ((fu260 71 45 rfl).1))
              have lk564 : ((u302).1 71 47).toInt = (t.1 71 47).toInt := congrArg Int32.toInt (((fu302 71 47 rfl).1).trans ((fu260 71 47 rfl).1))
              have lk565 : ((u302).1 71 2).toInt = v553.toInt := congrArg Int32.toInt (ev553)
              have lk566 : ((u302).1 71 2).toInt = v553.toInt := congrArg Int32.toInt (ev553)
              have lk567 : ((u302).1 71 47).toInt = (t.1 71 47).toInt := congrArg Int32.toInt (((fu302 71 47 rfl).1).trans ((fu260 71 47 rfl).1))
              exact (ih (n - 1) (by omega)).2.2.1 (u302) k4  (oQ_fr fu302 rfl (oQ_fr fu260 rfl iv0)) (by omega) (by omega) (by omega) (by omega) (by omega) hq551 (oqBP_fr fu302 rfl (oqBP_fr fu260 rfl iv10)) hq552 (by first | omega | (rw [show ((u302).1 71 2).toInt = (t.1 71 2).toInt by omega]; omega)) (owC0_fr fu302 rfl (owC0_fr fu260 rfl iv12)) (by omega)
            · skip
              refine r_iconst C (oDec_at oX12_goesOn 76 rfl) (v := k3) (by rw [qk3]; rfl) ?_
              refine r_goto C (tgt := 157) (oDec_at oX12_goesOn 77 rfl) (by decide) ?_
              refine r_istore_n C (lv' := [(0, .ref (oad E 71)), (1, .int k3)]) [1, 0] (oDec_at oX12_goesOn 79 rfl) rfl (by decide) rfl ?_
              have lk568 : ((u302).1 71 5).toInt = (t.1 71 5).toInt := congrArg Int32.toInt (((fu302 71 5 rfl).1).trans ((fu260 71 5 rfl).1))
              have lk569 : ((u302).1 71 48).toInt = (t.1 71 48).toInt := congrArg Int32.toInt (((fu302 71 48 rfl).1).trans ((fu260 71 48 rfl).1))
              have lk570 : ((u302).1 71 2).toInt = v553.toInt := congrArg Int32.toInt (ev553)
              have lk571 : ((u302).1 71 45).toInt = (t.1 71 45).toInt := congrArg Int32.toInt (((fu302 71 45 rfl).1).trans ((fu260 71 45 rfl).1))
              have lk572 : ((u302).1 71 47).toInt = (t.1 71 47).toInt := congrArg Int32.toInt (((fu302 71 47 rfl).1).trans ((fu260 71 47 rfl).1))
              have lk573 : ((u302).1 71 2).toInt = v553.toInt := congrArg Int32.toInt (ev553)
              have lk574 : ((u302).1 71 2).toInt = v553.toInt := congrArg Int32.toInt (ev553)
              have lk575 : ((u302).1 71 47).toInt = (t.1 71 47).toInt := congrArg Int32.toInt (((fu302 71 47 rfl).1).trans ((fu260 71 47 rfl).1))
              exact (ih (n - 1) (by omega)).2.2.1 (u302) k3  (oQ_fr fu302 rfl (oQ_fr fu260 rfl iv0)) (by omega) (by omega) (by omega) (by omega) (by omega) hq551 (oqBP_fr fu302 rfl (oqBP_fr fu260 rfl iv10)) hq552 (by first | omega | (rw [show ((u302).1 71 2).toInt = (t.1 71 2).toInt by omega]; omega)) (owC0_fr fu302 rfl (owC0_fr fu260 rfl iv12)) (by omega)
      · intro t x1  iv0 iv1 iv2 iv3 iv4 iv5 iv6 iv7 iv8 iv9 iv10 hmu
        have rx1 := n_rng x1
        refine r_ty C (fun hty => ?_)
        have hty_coded : (0 : Int) ≤ ((t).1 71 45).toInt ∧ ((t).1 71 45).toInt ≤ 1600 := hty.1 71 45
        have hty_waits : (0 : Int) ≤ ((t).1 71 47).toInt ∧ ((t).1 71 47).toInt ≤ 1700 := hty.1 71 47
        have hty_at : (0 : Int) ≤ ((t).1 71 2).toInt ∧ ((t).1 71 2).toInt ≤ 1600 := hty.1 71 2
        clear hty
        refine r_aload_n C (j := 0) (oDec_at oX12_goesOn 80 rfl) rfl rfl ?_
        refine r_iconst C (oDec_at oX12_goesOn 81 rfl) (v := k3) (by rw [qk3]; rfl) ?_
        refine r_callVi C oCl12 rfl miX12_isOn mlX12_310 (ct_X12_isOn l E (t) k3 ) (by decide) rfl rfl rfl (Nat.le_of_ble_eq_true rfl) (oDec_at oX12_goesOn 82 rfl) (fun r577 u576 pu576 fu576 => ?_)
        try dsimp only at pu576
        obtain ⟨pu576_0, pu576_1, pu576_2⟩ := pu576
        have hxu576 := oFr_nil fu576; subst hxu576
        have rr577 := n_rng r577
        refine r_if_ne C 174 (oDec_at oX12_goesOn 83 rfl) (by decide) (fun cd578 => ?_) (fun cd578 => ?_)
        · skip
          replace pu576_1 := pu576_1 (by omega)
          clear pu576_2
          have hbt := oQ_bB iv0 (by omega) (by omega) (by omega) (by omega)
          refine r_aload_n C (j := 0) (oDec_at oX12_goesOn 88 rfl) rfl rfl ?_
          refine r_callVv C oCl12 rfl miX12_drops mlX12_289 (ct9_X12_drops l E (t)  (Cq) (by omega) (by omega) iv10) (by decide) rfl rfl rfl (Nat.le_of_ble_eq_true rfl) (oDec_at oX12_goesOn 89 rfl) (fun u579 pu579 fu579 => ?_)
          try dsimp only at pu579
          obtain ⟨pu579_0, pu579_1, pu579_2, pu579_3⟩ := pu579
          have hq581 : oQ b (x + 1) (u579) := oQ_drop iv0 pu579_0 (by omega) (by omega) (by omega) (by omega)
          have hq582 : oqJ g fp fq cz kx b 1 (u579) := oqJ_drop iv6 pu579_0 (by omega) (fun _ => hbt) (fun _ => oqCd_no (by omega))
          have hq583 : oqOw g fp fq cw xw b cs (u579) := oqOw_drop iv8 pu579_0 (by omega) (by omega) hbt (by first | exact Or.inl (by omega) | exact Or.inr (Or.inl (by omega)))
          refine r_goto C (tgt := 158) (oDec_at oX12_goesOn 90 rfl) (by decide) ?_
          have lk584 : ((u579).1 71 5).toInt = (t.1 71 5).toInt := congrArg Int32.toInt ((fu579 71 5 rfl).1)
          have lk585 : ((u579).1 71 48).toInt = (t.1 71 48).toInt := congrArg Int32.toInt ((fu579 71 48 rfl).1)
          have lk586 : ((u579).1 71 2).toInt = (t.1 71 2).toInt := congrArg Int32.toInt ((fu579 71 2 rfl).1)
          have lk587 : ((u579).1 71 2).toInt = (t.1 71 2).toInt := congrArg Int32.toInt ((fu579 71 2 rfl).1)
          have lk588 : ((u579).1 71 2).toInt = (t.1 71 2).toInt := congrArg Int32.toInt ((fu579 71 2 rfl).1)
          exact (ih (n - 1) (by omega)).2.2.1 (u579) x1  hq581 (by omega) (by omega) (by omega) (by omega) (by omega) hq582 (oqBP_fr fu579 rfl iv7) hq583 (by first | omega | (rw [show ((u579).1 71 2).toInt = (t.1 71 2).toInt by omega]; omega)) pu579_3 (by omega)
        · skip
          clear pu576_1
          replace pu576_2 := pu576_2 (by omega)
          refine r_aload_n C (j := 0) (oDec_at oX12_goesOn 84 rfl) rfl rfl ?_
          refine r_iconst C (oDec_at oX12_goesOn 85 rfl) (v := k4) (by rw [qk4]; rfl) ?_
          refine r_callVi C oCl12 rfl miX12_isOn mlX12_310 (ct_X12_isOn l E (t) k4 ) (by decide) rfl rfl rfl (Nat.le_of_ble_eq_true rfl) (oDec_at oX12_goesOn 86 rfl) (fun r590 u589 pu589 fu589 => ?_)
          try dsimp only at pu589
          obtain ⟨pu589_0, pu589_1, pu589_2⟩ := pu589
          have hxu589 := oFr_nil fu589; subst hxu589
          have rr590 := n_rng r590
          refine r_if_eq C 181 (oDec_at oX12_goesOn 87 rfl) (by decide) (fun cd591 => ?_) (fun cd591 => ?_)
          · skip
            clear pu589_1
            replace pu589_2 := pu589_2 (by omega)
            refine r_aload_n C (j := 0) (oDec_at oX12_goesOn 91 rfl) rfl rfl ?_
            refine r_getF (k := 46) (b := 103) C oCl12 rfl (by decide) flX12_111 rfl rfl rfl (oDec_at oX12_goesOn 92 rfl) ?_
            refine r_aload_n C (j := 0) (oDec_at oX12_goesOn 93 rfl) rfl rfl ?_
            obtain ⟨v592, ev592⟩ : ∃ z : Int32, (t).1 71 47 = z := ⟨_, rfl⟩
            have gv592 : (t.1 71 47).toInt = v592.toInt := congrArg Int32.toInt (ev592)
            refine r_geti (k := 47) (lo := 0) (hi := 1700) C v592 oCl12 rfl (by decide) flX12_277 rfl rfl (ev592) rfl rfl (oDec_at oX12_goesOn 94 rfl) (fun b593 b593h => ?_)
            refine r_iload_n C (j := 1) (oDec_at oX12_goesOn 95 rfl) rfl rfl ?_
            refine r_iast (n := 1700) (lo := (-2147483648)) (hi := 2147483647) C rfl (by decide) rfl rfl ⟨by omega, by omega⟩ (by decide) rfl rfl rfl rfl (n_rng _) (oDec_at oX12_goesOn 96 rfl) ?_
            refine r_pc C 191 rfl ?_
            refine r_aload_n C (j := 0) (oDec_at oX12_goesOn 97 rfl) rfl rfl ?_
            refine r_dup C (oDec_at oX12_goesOn 98 rfl) rfl ?_
            refine r_geti (k := 47) (lo := 0) (hi := 1700) C v592 oCl12 rfl (by decide) flX12_277 rfl rfl (((pI_ne (a := 71) (b := 47) (c := 103) _ _ (Or.inl (by decide)))).trans (ev592)) rfl rfl (oDec_at oX12_goesOn 99 rfl) (fun _ _ => ?_)
            refine r_iconst C (oDec_at oX12_goesOn 100 rfl) (v := k1) (by rw [qk1]; rfl) ?_
            obtain ⟨v594, ev594⟩ : ∃ z : Int32, z = v592 + k1 := ⟨_, rfl⟩
            have hv594 : v594.toInt = v592.toInt + k1.toInt := n_add ev594 (by omega) (by omega)
            refine r_iadd C v594 (oDec_at oX12_goesOn 101 rfl) ev594 ?_
            refine r_puti (k := 47) (lo := 0) (hi := 1700) C oCl12 rfl (by decide) flX12_277 rfl rfl rfl rfl rfl rfl rfl rfl ⟨by omega, by omega⟩ (oDec_at oX12_goesOn 102 rfl) ?_
            refine r_pc C 201 rfl ?_
            have hq595 : oQ b x ((pI (pI t 103 v592.toNatClampNeg x1) 71 47 v594)) := oQ_push (x := x) iv0 (by assumption) (by omega) (by omega) (by omega)
            have hq596 : oqJ g fp fq cz kx b 1 ((pI (pI t 103 v592.toNatClampNeg x1) 71 47 v594)) := oqJ_push iv6 (by assumption) (by omega) (by omega) (by omega)
            have hq597 : oqJw g fp fq cw xw b cs 1 ((pI (pI t 103 v592.toNatClampNeg x1) 71 47 v594)) := oqOw_mu iv8 (by omega) (by assumption) (by omega) (by omega) (by unfold oqMu; omega) (by omega) (by omega)
            refine r_iconst C (oDec_at oX12_goesOn 103 rfl) (v := k1) (by rw [qk1]; rfl) ?_
            have lk598 : (((pI (pI t 103 v592.toNatClampNeg x1) 71 47 v594)).1 71 48).toInt = (t.1 71 48).toInt := congrArg Int32.toInt (((pI_ne (a := 71) (b := 48) (c := 71) (k := 47) _ _ (Or.inr (by decide)))).trans ((pI_ne (a := 71) (b := 48) (c := 103) _ _ (Or.inl (by decide)))))
            have lk599 : (((pI (pI t 103 v592.toNatClampNeg x1) 71 47 v594)).1 71 2).toInt = (t.1 71 2).toInt := congrArg Int32.toInt (((pI_ne (a := 71) (b := 2) (c := 71) (k := 47) _ _ (Or.inr (by decide)))).trans ((pI_ne (a := 71) (b := 2) (c := 103) _ _ (Or.inl (by decide)))))
            have lk600 : (((pI (pI t 103 v592.toNatClampNeg x1) 71 47 v594)).1 71 45).toInt = (t.1 71 45).toInt := congrArg Int32.toInt (((pI_ne (a := 71) (b := 45) (c := 71) (k := 47) _ _ (Or.inr (by decide)))).trans ((pI_ne (a := 71) (b := 45) (c := 103) _ _ (Or.inl (by decide)))))
            have lk601 : (((pI (pI t 103 v592.toNatClampNeg x1) 71 47 v594)).1 71 47).toInt = v594.toInt := congrArg Int32.toInt ((pI_self _ _ _ _))
            have lk602 : (((pI (pI t 103 v592.toNatClampNeg x1) 71 47 v594)).1 71 2).toInt = (t.1 71 2).toInt := congrArg Int32.toInt (((pI_ne (a := 71) (b := 2) (c := 71) (k := 47) _ _ (Or.inr (by decide)))).trans ((pI_ne (a := 71) (b := 2) (c := 103) _ _ (Or.inl (by decide)))))
            exact r_zret C (n_bool (by omega)) (oDec_at oX12_goesOn 104 rfl) ⟨_, rfl, ⟨by omega, by first | (intro h; exfalso; omega) | exact fun _ => hq595, by first | (intro h; exfalso; omega) | exact fun _ => ⟨(by assumption), by first | (intro hb; exfalso; omega) | exact fun _ => oMk_c pu589 (by omega)⟩, by omega, by omega, by omega, by first | (intro h; exfalso; omega) | exact fun _ => hq596, by first | (intro h; exfalso; omega) | exact fun _ => (by assumption), by first | (intro h; exfalso; omega) | exact fun _ => oqGe_b (by omega) | exact fun _ => oqGe_of (A := (t.1 71 2).toInt) (by omega) (by omega) (by omega) (by omega) (by omega) (by omega), (oqBP_fr (oFr_oneI (q := 12) (m := 47) rfl (by rfl)) rfl (oqBP_fr (oFr_oneI (q := 79) (m := 9999) rfl (by rfl)) rfl iv7)), by first | (intro h; exfalso; omega) | exact fun _ => hq597, by first | (intro h; exfalso; omega) | exact fun _ => (by assumption), (owC0_fr (oFr_oneI (q := 12) (m := 47) rfl (by rfl)) rfl (owC0_fr (oFr_oneI (q := 79) (m := 9999) rfl (by rfl)) rfl iv10))⟩⟩
          · skip
            replace pu589_1 := pu589_1 (by omega)
            clear pu589_2
            have hbt := oQ_bB iv0 (by omega) (by omega) (by omega) (by omega)
            refine r_aload_n C (j := 0) (oDec_at oX12_goesOn 88 rfl) rfl rfl ?_
            refine r_callVv C oCl12 rfl miX12_drops mlX12_289 (ct9_X12_drops l E (t)  (Cq) (by omega) (by omega) iv10) (by decide) rfl rfl rfl (Nat.le_of_ble_eq_true rfl) (oDec_at oX12_goesOn 89 rfl) (fun u603 pu603 fu603 => ?_)
            try dsimp only at pu603
            obtain ⟨pu603_0, pu603_1, pu603_2, pu603_3⟩ := pu603
            have hq605 : oQ b (x + 1) (u603) := oQ_drop iv0 pu603_0 (by omega) (by omega) (by omega) (by omega)
            have hq606 : oqJ g fp fq cz kx b 1 (u603) := oqJ_drop iv6 pu603_0 (by omega) (fun _ => hbt) (fun _ => oqCd_no (by omega))
            have hq607 : oqOw g fp fq cw xw b cs (u603) := oqOw_drop iv8 pu603_0 (by omega) (by omega) hbt (by first | exact Or.inl (by omega) | exact Or.inr (Or.inl (by omega)))
            refine r_goto C (tgt := 158) (oDec_at oX12_goesOn 90 rfl) (by decide) ?_
            have lk608 : ((u603).1 71 5).toInt = (t.1 71 5).toInt := congrArg Int32.toInt ((fu603 71 5 rfl).1)
            have lk609 : ((u603).1 71 48).toInt = (t.1 71 48).toInt := congrArg Int32.toInt ((fu603 71 48 rfl).1)
            have lk610 : ((u603).1 71 2).toInt = (t.1 71 2).toInt := congrArg Int32.toInt ((fu603 71 2 rfl).1)
            have lk611 : ((u603).1 71 2).toInt = (t.1 71 2).toInt := congrArg Int32.toInt ((fu603 71 2 rfl).1)
            have lk612 : ((u603).1 71 2).toInt = (t.1 71 2).toInt := congrArg Int32.toInt ((fu603 71 2 rfl).1)
            exact (ih (n - 1) (by omega)).2.2.1 (u603) x1  hq605 (by omega) (by omega) (by omega) (by omega) (by omega) hq606 (oqBP_fr fu603 rfl iv7) hq607 (by first | omega | (rw [show ((u603).1 71 2).toInt = (t.1 71 2).toInt by omega]; omega)) pu603_3 (by omega)
      · intro t x1  iv0 iv1 iv2 iv3 iv4 iv5 iv6 iv7 iv8 iv9 iv10 hmu
        have rx1 := n_rng x1
        refine r_ty C (fun hty => ?_)
        have hty_coded : (0 : Int) ≤ ((t).1 71 45).toInt ∧ ((t).1 71 45).toInt ≤ 1600 := hty.1 71 45
        have hty_waits : (0 : Int) ≤ ((t).1 71 47).toInt ∧ ((t).1 71 47).toInt ≤ 1700 := hty.1 71 47
        have hty_at : (0 : Int) ≤ ((t).1 71 2).toInt ∧ ((t).1 71 2).toInt ≤ 1600 := hty.1 71 2
        clear hty
        refine r_aload_n C (j := 0) (oDec_at oX12_goesOn 126 rfl) rfl rfl ?_
        refine r_iconst C (oDec_at oX12_goesOn 127 rfl) (v := k3) (by rw [qk3]; rfl) ?_
        refine r_callVi C oCl12 rfl miX12_isOn mlX12_310 (ct_X12_isOn l E (t) k3 ) (by decide) rfl rfl rfl (Nat.le_of_ble_eq_true rfl) (oDec_at oX12_goesOn 128 rfl) (fun r614 u613 pu613 fu613 => ?_)
        try dsimp only at pu613
        obtain ⟨pu613_0, pu613_1, pu613_2⟩ := pu613
        have hxu613 := oFr_nil fu613; subst hxu613
        have rr614 := n_rng r614
        refine r_if_ne C 275 (oDec_at oX12_goesOn 129 rfl) (by decide) (fun cd615 => ?_) (fun cd615 => ?_)
        · skip
          replace pu613_1 := pu613_1 (by omega)
          clear pu613_2
          have hbt := oQ_bB iv0 (by omega) (by omega) (by omega) (by omega)
          have hmu8 : ¬ oqMu g ((t.1 71 2).toInt - 1) := oqMu_no ⟨by omega, by omega⟩
          refine r_aload_n C (j := 0) (oDec_at oX12_goesOn 142 rfl) rfl rfl ?_
          refine r_callVv C oCl12 rfl miX12_drops mlX12_289 (ct9_X12_drops l E (t)  (Cq) (by omega) (by omega) iv10) (by decide) rfl rfl rfl (Nat.le_of_ble_eq_true rfl) (oDec_at oX12_goesOn 143 rfl) (fun u616 pu616 fu616 => ?_)
          try dsimp only at pu616
          obtain ⟨pu616_0, pu616_1, pu616_2, pu616_3⟩ := pu616
          have hq618 : oQ b (x + 1) (u616) := oQ_drop iv0 pu616_0 (by omega) (by omega) (by omega) (by omega)
          have hq619 : oqJ g fp fq cz kx b 1 (u616) := oqJ_drop iv6 pu616_0 (by omega) (fun _ => hbt) (fun _ => oqCd_no (by omega))
          have hq620 : oqOw g fp fq cw xw b cs (u616) := oqOw_drop iv8 pu616_0 (by omega) (by omega) hbt (by first | exact Or.inl (by omega) | exact Or.inr (Or.inl (by omega)) | exact Or.inr (Or.inr ⟨by omega, hmu8⟩))
          refine r_goto C (tgt := 243) (oDec_at oX12_goesOn 144 rfl) (by decide) ?_
          have lk621 : ((u616).1 71 5).toInt = (t.1 71 5).toInt := congrArg Int32.toInt ((fu616 71 5 rfl).1)
          have lk622 : ((u616).1 71 48).toInt = (t.1 71 48).toInt := congrArg Int32.toInt ((fu616 71 48 rfl).1)
          have lk623 : ((u616).1 71 2).toInt = (t.1 71 2).toInt := congrArg Int32.toInt ((fu616 71 2 rfl).1)
          have lk624 : ((u616).1 71 2).toInt = (t.1 71 2).toInt := congrArg Int32.toInt ((fu616 71 2 rfl).1)
          have lk625 : ((u616).1 71 2).toInt = (t.1 71 2).toInt := congrArg Int32.toInt ((fu616 71 2 rfl).1)
          exact (ih (n - 1) (by omega)).2.2.2 (u616) x1  hq618 (by omega) (by omega) (by omega) (by omega) (by omega) hq619 (oqBP_fr fu616 rfl iv7) hq620 (by first | omega | (rw [show ((u616).1 71 2).toInt = (t.1 71 2).toInt by omega]; omega)) pu616_3 (by omega)
        · skip
          clear pu613_1
          replace pu613_2 := pu613_2 (by omega)
          refine r_aload_n C (j := 0) (oDec_at oX12_goesOn 130 rfl) rfl rfl ?_
          refine r_iconst C (oDec_at oX12_goesOn 131 rfl) (v := k4) (by rw [qk4]; rfl) ?_
          refine r_callVi C oCl12 rfl miX12_isOn mlX12_310 (ct_X12_isOn l E (t) k4 ) (by decide) rfl rfl rfl (Nat.le_of_ble_eq_true rfl) (oDec_at oX12_goesOn 132 rfl) (fun r627 u626 pu626 fu626 => ?_)
          try dsimp only at pu626
          obtain ⟨pu626_0, pu626_1, pu626_2⟩ := pu626
          have hxu626 := oFr_nil fu626; subst hxu626
          have rr627 := n_rng r627
          refine r_if_ne C 275 (oDec_at oX12_goesOn 133 rfl) (by decide) (fun cd628 => ?_) (fun cd628 => ?_)
          · skip
            replace pu626_1 := pu626_1 (by omega)
            clear pu626_2
            have hbt := oQ_bB iv0 (by omega) (by omega) (by omega) (by omega)
            have hmu8 : ¬ oqMu g ((t.1 71 2).toInt - 1) := oqMu_no ⟨by omega, by omega⟩
            refine r_aload_n C (j := 0) (oDec_at oX12_goesOn 142 rfl) rfl rfl ?_
            refine r_callVv C oCl12 rfl miX12_drops mlX12_289 (ct9_X12_drops l E (t)  (Cq) (by omega) (by omega) iv10) (by decide) rfl rfl rfl (Nat.le_of_ble_eq_true rfl) (oDec_at oX12_goesOn 143 rfl) (fun u629 pu629 fu629 => ?_)
            try dsimp only at pu629
            obtain ⟨pu629_0, pu629_1, pu629_2, pu629_3⟩ := pu629
            have hq631 : oQ b (x + 1) (u629) := oQ_drop iv0 pu629_0 (by omega) (by omega) (by omega) (by omega)
            have hq632 : oqJ g fp fq cz kx b 1 (u629) := oqJ_drop iv6 pu629_0 (by omega) (fun _ => hbt) (fun _ => oqCd_no (by omega))
            have hq633 : oqOw g fp fq cw xw b cs (u629) := oqOw_drop iv8 pu629_0 (by omega) (by omega) hbt (by first | exact Or.inl (by omega) | exact Or.inr (Or.inl (by omega)) | exact Or.inr (Or.inr ⟨by omega, hmu8⟩))
            refine r_goto C (tgt := 243) (oDec_at oX12_goesOn 144 rfl) (by decide) ?_
            have lk634 : ((u629).1 71 5).toInt = (t.1 71 5).toInt := congrArg Int32.toInt ((fu629 71 5 rfl).1)
            have lk635 : ((u629).1 71 48).toInt = (t.1 71 48).toInt := congrArg Int32.toInt ((fu629 71 48 rfl).1)
            have lk636 : ((u629).1 71 2).toInt = (t.1 71 2).toInt := congrArg Int32.toInt ((fu629 71 2 rfl).1)
            have lk637 : ((u629).1 71 2).toInt = (t.1 71 2).toInt := congrArg Int32.toInt ((fu629 71 2 rfl).1)
            have lk638 : ((u629).1 71 2).toInt = (t.1 71 2).toInt := congrArg Int32.toInt ((fu629 71 2 rfl).1)
            exact (ih (n - 1) (by omega)).2.2.2 (u629) x1  hq631 (by omega) (by omega) (by omega) (by omega) (by omega) hq632 (oqBP_fr fu629 rfl iv7) hq633 (by first | omega | (rw [show ((u629).1 71 2).toInt = (t.1 71 2).toInt by omega]; omega)) pu629_3 (by omega)
          · skip
            clear pu626_1
            replace pu626_2 := pu626_2 (by omega)
            refine r_aload_n C (j := 0) (oDec_at oX12_goesOn 134 rfl) rfl rfl ?_
            refine r_iconst C (oDec_at oX12_goesOn 135 rfl) (v := k1) (by rw [qk1]; rfl) ?_
            refine r_callVi C oCl12 rfl miX12_isOn mlX12_310 (ct_X12_isOn l E (t) k1 ) (by decide) rfl rfl rfl (Nat.le_of_ble_eq_true rfl) (oDec_at oX12_goesOn 136 rfl) (fun r640 u639 pu639 fu639 => ?_)
            try dsimp only at pu639
            obtain ⟨pu639_0, pu639_1, pu639_2⟩ := pu639
            have hxu639 := oFr_nil fu639; subst hxu639
            have rr640 := n_rng r640
            refine r_if_ne C 275 (oDec_at oX12_goesOn 137 rfl) (by decide) (fun cd641 => ?_) (fun cd641 => ?_)
            · skip
              replace pu639_1 := pu639_1 (by omega)
              clear pu639_2
              have hbt := oQ_bB iv0 (by omega) (by omega) (by omega) (by omega)
              have hmu8 : ¬ oqMu g ((t.1 71 2).toInt - 1) := oqMu_no ⟨by omega, by omega⟩
              refine r_aload_n C (j := 0) (oDec_at oX12_goesOn 142 rfl) rfl rfl ?_
              refine r_callVv C oCl12 rfl miX12_drops mlX12_289 (ct9_X12_drops l E (t)  (Cq) (by omega) (by omega) iv10) (by decide) rfl rfl rfl (Nat.le_of_ble_eq_true rfl) (oDec_at oX12_goesOn 143 rfl) (fun u642 pu642 fu642 => ?_)
              try dsimp only at pu642
              obtain ⟨pu642_0, pu642_1, pu642_2, pu642_3⟩ := pu642
              have hq644 : oQ b (x + 1) (u642) := oQ_drop iv0 pu642_0 (by omega) (by omega) (by omega) (by omega)
              have hq645 : oqJ g fp fq cz kx b 1 (u642) := oqJ_drop iv6 pu642_0 (by omega) (fun _ => hbt) (fun _ => oqCd_no (by omega))
              have hq646 : oqOw g fp fq cw xw b cs (u642) := oqOw_drop iv8 pu642_0 (by omega) (by omega) hbt (by first | exact Or.inl (by omega) | exact Or.inr (Or.inl (by omega)) | exact Or.inr (Or.inr ⟨by omega, hmu8⟩))
              refine r_goto C (tgt := 243) (oDec_at oX12_goesOn 144 rfl) (by decide) ?_
              have lk647 : ((u642).1 71 5).toInt = (t.1 71 5).toInt := congrArg Int32.toInt ((fu642 71 5 rfl).1)
              have lk648 : ((u642).1 71 48).toInt = (t.1 71 48).toInt := congrArg Int32.toInt ((fu642 71 48 rfl).1)
              have lk649 : ((u642).1 71 2).toInt = (t.1 71 2).toInt := congrArg Int32.toInt ((fu642 71 2 rfl).1)
              have lk650 : ((u642).1 71 2).toInt = (t.1 71 2).toInt := congrArg Int32.toInt ((fu642 71 2 rfl).1)
              have lk651 : ((u642).1 71 2).toInt = (t.1 71 2).toInt := congrArg Int32.toInt ((fu642 71 2 rfl).1)
              exact (ih (n - 1) (by omega)).2.2.2 (u642) x1  hq644 (by omega) (by omega) (by omega) (by omega) (by omega) hq645 (oqBP_fr fu642 rfl iv7) hq646 (by first | omega | (rw [show ((u642).1 71 2).toInt = (t.1 71 2).toInt by omega]; omega)) pu642_3 (by omega)
            · skip
              clear pu639_1
              replace pu639_2 := pu639_2 (by omega)
              refine r_aload_n C (j := 0) (oDec_at oX12_goesOn 138 rfl) rfl rfl ?_
              refine r_iconst C (oDec_at oX12_goesOn 139 rfl) (v := k2) (by rw [qk2]; rfl) ?_
              refine r_callVi C oCl12 rfl miX12_isOn mlX12_310 (ct_X12_isOn l E (t) k2 ) (by decide) rfl rfl rfl (Nat.le_of_ble_eq_true rfl) (oDec_at oX12_goesOn 140 rfl) (fun r653 u652 pu652 fu652 => ?_)
              try dsimp only at pu652
              obtain ⟨pu652_0, pu652_1, pu652_2⟩ := pu652
              have hxu652 := oFr_nil fu652; subst hxu652
              have rr653 := n_rng r653
              refine r_if_eq C 282 (oDec_at oX12_goesOn 141 rfl) (by decide) (fun cd654 => ?_) (fun cd654 => ?_)
              · skip
                clear pu652_1
                replace pu652_2 := pu652_2 (by omega)
                refine r_aload_n C (j := 0) (oDec_at oX12_goesOn 145 rfl) rfl rfl ?_
                refine r_getF (k := 46) (b := 103) C oCl12 rfl (by decide) flX12_111 rfl rfl rfl (oDec_at oX12_goesOn 146 rfl) ?_
                refine r_aload_n C (j := 0) (oDec_at oX12_goesOn 147 rfl) rfl rfl ?_
                obtain ⟨v655, ev655⟩ : ∃ z : Int32, (t).1 71 47 = z := ⟨_, rfl⟩
                have gv655 : (t.1 71 47).toInt = v655.toInt := congrArg Int32.toInt (ev655)
                refine r_geti (k := 47) (lo := 0) (hi := 1700) C v655 oCl12 rfl (by decide) flX12_277 rfl rfl (ev655) rfl rfl (oDec_at oX12_goesOn 148 rfl) (fun b656 b656h => ?_)
                refine r_iload_n C (j := 1) (oDec_at oX12_goesOn 149 rfl) rfl rfl ?_
                refine r_iast (n := 1700) (lo := (-2147483648)) (hi := 2147483647) C rfl (by decide) rfl rfl ⟨by omega, by omega⟩ (by decide) rfl rfl rfl rfl (n_rng _) (oDec_at oX12_goesOn 150 rfl) ?_
                refine r_pc C 292 rfl ?_
                refine r_aload_n C (j := 0) (oDec_at oX12_goesOn 151 rfl) rfl rfl ?_
                refine r_dup C (oDec_at oX12_goesOn 152 rfl) rfl ?_
                refine r_geti (k := 47) (lo := 0) (hi := 1700) C v655 oCl12 rfl (by decide) flX12_277 rfl rfl (((pI_ne (a := 71) (b := 47) (c := 103) _ _ (Or.inl (by decide)))).trans (ev655)) rfl rfl (oDec_at oX12_goesOn 153 rfl) (fun _ _ => ?_)
                refine r_iconst C (oDec_at oX12_goesOn 154 rfl) (v := k1) (by rw [qk1]; rfl) ?_
                obtain ⟨v657, ev657⟩ : ∃ z : Int32, z = v655 + k1 := ⟨_, rfl⟩
                have hv657 : v657.toInt = v655.toInt + k1.toInt := n_add ev657 (by omega) (by omega)
                refine r_iadd C v657 (oDec_at oX12_goesOn 155 rfl) ev657 ?_
                refine r_puti (k := 47) (lo := 0) (hi := 1700) C oCl12 rfl (by decide) flX12_277 rfl rfl rfl rfl rfl rfl rfl rfl ⟨by omega, by omega⟩ (oDec_at oX12_goesOn 156 rfl) ?_
                refine r_pc C 302 rfl ?_
                have hq658 : oQ b x ((pI (pI t 103 v655.toNatClampNeg x1) 71 47 v657)) := oQ_push (x := x) iv0 (by assumption) (by omega) (by omega) (by omega)
                have hq659 : oqJ g fp fq cz kx b 1 ((pI (pI t 103 v655.toNatClampNeg x1) 71 47 v657)) := oqJ_push iv6 (by assumption) (by omega) (by omega) (by omega)
                have hq660 : oqJw g fp fq cw xw b cs 1 ((pI (pI t 103 v655.toNatClampNeg x1) 71 47 v657)) := oqOw_ad iv8 (by omega) (by assumption) (by omega) (by omega) (by unfold oqOp; omega) (by omega) (by omega)
                refine r_iconst C (oDec_at oX12_goesOn 157 rfl) (v := k1) (by rw [qk1]; rfl) ?_
                have lk661 : (((pI (pI t 103 v655.toNatClampNeg x1) 71 47 v657)).1 71 48).toInt = (t.1 71 48).toInt := congrArg Int32.toInt (((pI_ne (a := 71) (b := 48) (c := 71) (k := 47) _ _ (Or.inr (by decide)))).trans ((pI_ne (a := 71) (b := 48) (c := 103) _ _ (Or.inl (by decide)))))
                have lk662 : (((pI (pI t 103 v655.toNatClampNeg x1) 71 47 v657)).1 71 2).toInt = (t.1 71 2).toInt := congrArg Int32.toInt (((pI_ne (a := 71) (b := 2) (c := 71) (k := 47) _ _ (Or.inr (by decide)))).trans ((pI_ne (a := 71) (b := 2) (c := 103) _ _ (Or.inl (by decide)))))
                have lk663 : (((pI (pI t 103 v655.toNatClampNeg x1) 71 47 v657)).1 71 45).toInt = (t.1 71 45).toInt := congrArg Int32.toInt (((pI_ne (a := 71) (b := 45) (c := 71) (k := 47) _ _ (Or.inr (by decide)))).trans ((pI_ne (a := 71) (b := 45) (c := 103) _ _ (Or.inl (by decide)))))
                have lk664 : (((pI (pI t 103 v655.toNatClampNeg x1) 71 47 v657)).1 71 47).toInt = v657.toInt := congrArg Int32.toInt ((pI_self _ _ _ _))
                have lk665 : (((pI (pI t 103 v655.toNatClampNeg x1) 71 47 v657)).1 71 2).toInt = (t.1 71 2).toInt := congrArg Int32.toInt (((pI_ne (a := 71) (b := 2) (c := 71) (k := 47) _ _ (Or.inr (by decide)))).trans ((pI_ne (a := 71) (b := 2) (c := 103) _ _ (Or.inl (by decide)))))
                exact r_zret C (n_bool (by omega)) (oDec_at oX12_goesOn 158 rfl) ⟨_, rfl, ⟨by omega, by first | (intro h; exfalso; omega) | exact fun _ => hq658, by first | (intro h; exfalso; omega) | exact fun _ => ⟨(by assumption), by first | (intro hb; exfalso; omega) | exact fun _ => oMk_c pu652 (by omega)⟩, by omega, by omega, by omega, by first | (intro h; exfalso; omega) | exact fun _ => hq659, by first | (intro h; exfalso; omega) | exact fun _ => (by assumption), by first | (intro h; exfalso; omega) | exact fun _ => oqGe_b (by omega) | exact fun _ => oqGe_of (A := (t.1 71 2).toInt) (by omega) (by omega) (by omega) (by omega) (by omega) (by omega), (oqBP_fr (oFr_oneI (q := 12) (m := 47) rfl (by rfl)) rfl (oqBP_fr (oFr_oneI (q := 79) (m := 9999) rfl (by rfl)) rfl iv7)), by first | (intro h; exfalso; omega) | exact fun _ => hq660, by first | (intro h; exfalso; omega) | exact fun _ => (by assumption), (owC0_fr (oFr_oneI (q := 12) (m := 47) rfl (by rfl)) rfl (owC0_fr (oFr_oneI (q := 79) (m := 9999) rfl (by rfl)) rfl iv10))⟩⟩
              · skip
                replace pu652_1 := pu652_1 (by omega)
                clear pu652_2
                have hbt := oQ_bB iv0 (by omega) (by omega) (by omega) (by omega)
                have hmu8 : ¬ oqMu g ((t.1 71 2).toInt - 1) := oqMu_no ⟨by omega, by omega⟩
                refine r_aload_n C (j := 0) (oDec_at oX12_goesOn 142 rfl) rfl rfl ?_
                refine r_callVv C oCl12 rfl miX12_drops mlX12_289 (ct9_X12_drops l E (t)  (Cq) (by omega) (by omega) iv10) (by decide) rfl rfl rfl (Nat.le_of_ble_eq_true rfl) (oDec_at oX12_goesOn 143 rfl) (fun u666 pu666 fu666 => ?_)
                try dsimp only at pu666
                obtain ⟨pu666_0, pu666_1, pu666_2, pu666_3⟩ := pu666
                have hq668 : oQ b (x + 1) (u666) := oQ_drop iv0 pu666_0 (by omega) (by omega) (by omega) (by omega)
                have hq669 : oqJ g fp fq cz kx b 1 (u666) := oqJ_drop iv6 pu666_0 (by omega) (fun _ => hbt) (fun _ => oqCd_no (by omega))
                have hq670 : oqOw g fp fq cw xw b cs (u666) := oqOw_drop iv8 pu666_0 (by omega) (by omega) hbt (by first | exact Or.inl (by omega) | exact Or.inr (Or.inl (by omega)) | exact Or.inr (Or.inr ⟨by omega, hmu8⟩))
                refine r_goto C (tgt := 243) (oDec_at oX12_goesOn 144 rfl) (by decide) ?_
                have lk671 : ((u666).1 71 5).toInt = (t.1 71 5).toInt := congrArg Int32.toInt ((fu666 71 5 rfl).1)
                have lk672 : ((u666).1 71 48).toInt = (t.1 71 48).toInt := congrArg Int32.toInt ((fu666 71 48 rfl).1)
                have lk673 : ((u666).1 71 2).toInt = (t.1 71 2).toInt := congrArg Int32.toInt ((fu666 71 2 rfl).1)
                have lk674 : ((u666).1 71 2).toInt = (t.1 71 2).toInt := congrArg Int32.toInt ((fu666 71 2 rfl).1)
                have lk675 : ((u666).1 71 2).toInt = (t.1 71 2).toInt := congrArg Int32.toInt ((fu666 71 2 rfl).1)
                exact (ih (n - 1) (by omega)).2.2.2 (u666) x1  hq668 (by omega) (by omega) (by omega) (by omega) (by omega) hq669 (oqBP_fr fu666 rfl iv7) hq670 (by first | omega | (rw [show ((u666).1 71 2).toInt = (t.1 71 2).toInt by omega]; omega)) pu666_3 (by omega)
  exact (key (4000 * (1601 - ((s).1 71 2).toInt)).toNat).1 (s)   (by first | exact hp0 | exact oQ_pop (by assumption) (by omega) (by omega) (by omega) (by omega)) (by omega) (by omega) (by omega) (by omega) (by omega) hp6 hp7 hp8 (by first | exact hp9 | exact hcl.1 (by omega)) hp11 (by omega)
