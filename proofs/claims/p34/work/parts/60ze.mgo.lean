set_option maxHeartbeats 4000000 in
set_option maxRecDepth 100000 in
theorem ct7_X12_goesOn (l : Launch) (E : oE) (s : oS)  (b : Nat) (x : Nat) (g : Int → Int) (fp : Int) (fq : Int) (cz : oqCf) (kx : Nat) (hp0 : oQ b (x + 1) s) (hp1 : (s.1 71 55).toInt = (b : Int)) (hp2 : (b : Int) ≤ 1700) (hp3 : (s.1 71 5).toInt = 0) (hp4 : 0 ≤ (s.1 71 48).toInt ∧ (s.1 71 48).toInt ≤ 6) (hp5 : (s.1 71 45).toInt + (s.1 71 47).toInt + 5 ≤ (s.1 71 2).toInt) (hp6 : oqJ g fp fq cz kx b 3 s) (hp7 : oqZ g s) (hp8 : oqBP s) : oMet l 4 yX12_goesOn cX12_goesOn 2 (some .boolean) [(12, 2), (12, 5), (12, 6), (12, 45), (12, 47), (12, 48), (78, 9999), (79, 9999)] E s [.ref (oad E 71)] (oPi (fun r u => (0 ≤ r.toInt ∧ r.toInt ≤ 1) ∧ (r.toInt = 1 → oQ b x u) ∧ (r.toInt = 0 → (oQ b (x + 1) u ∧ oMn u)) ∧ (0 ≤ (u.1 71 48).toInt ∧ (u.1 71 48).toInt ≤ 6) ∧ ((s.1 71 2).toInt - (s.1 71 45).toInt - (s.1 71 47).toInt ≤ (u.1 71 2).toInt - (u.1 71 45).toInt - (u.1 71 47).toInt) ∧ ((s.1 71 2).toInt ≤ (u.1 71 2).toInt) ∧ (r.toInt = 1 → oqJ g fp fq cz kx b 1 u) ∧ (r.toInt = 0 → oqJ g fp fq cz kx b 3 u) ∧ (r.toInt = 0 → oqGe g u) ∧ (oqBP u))) := by
  refine oMet.of (lv := [(0, .ref (oad E 71))]) (by decide +kernel) (Nat.le_of_ble_eq_true rfl) rfl (fun J C hT => ?_)
  have C : oC l 4 cX12_goesOn RX12 2 (some .boolean) [(12, 2), (12, 5), (12, 6), (12, 45), (12, 47), (12, 48), (78, 9999), (79, 9999)] E s (oPi (fun r u => (0 ≤ r.toInt ∧ r.toInt ≤ 1) ∧ (r.toInt = 1 → oQ b x u) ∧ (r.toInt = 0 → (oQ b (x + 1) u ∧ oMn u)) ∧ (0 ≤ (u.1 71 48).toInt ∧ (u.1 71 48).toInt ≤ 6) ∧ ((s.1 71 2).toInt - (s.1 71 45).toInt - (s.1 71 47).toInt ≤ (u.1 71 2).toInt - (u.1 71 45).toInt - (u.1 71 47).toInt) ∧ ((s.1 71 2).toInt ≤ (u.1 71 2).toInt) ∧ (r.toInt = 1 → oqJ g fp fq cz kx b 1 u) ∧ (r.toInt = 0 → oqJ g fp fq cz kx b 3 u) ∧ (r.toInt = 0 → oqGe g u) ∧ (oqBP u))) J := C
  obtain ⟨km1, qkm1⟩ : ∃ z : Int32, z = (-1) := ⟨_, rfl⟩
  have ekm1 : km1.toInt = (-1) := by rw [qkm1]; rfl
  obtain ⟨k0, qk0⟩ : ∃ z : Int32, z = 0 := ⟨_, rfl⟩
  have ek0 : k0.toInt = 0 := by rw [qk0]; rfl
  obtain ⟨k1, qk1⟩ : ∃ z : Int32, z = 1 := ⟨_, rfl⟩
  have ek1 : k1.toInt = 1 := by rw [qk1]; rfl
  obtain ⟨k2, qk2⟩ : ∃ z : Int32, z = 2 := ⟨_, rfl⟩
  have ek2 : k2.toInt = 2 := by rw [qk2]; rfl
  obtain ⟨k3, qk3⟩ : ∃ z : Int32, z = 3 := ⟨_, rfl⟩
  have ek3 : k3.toInt = 3 := by rw [qk3]; rfl
  obtain ⟨k4, qk4⟩ : ∃ z : Int32, z = 4 := ⟨_, rfl⟩
  have ek4 : k4.toInt = 4 := by rw [qk4]; rfl
  obtain ⟨k5, qk5⟩ : ∃ z : Int32, z = 5 := ⟨_, rfl⟩
  have ek5 : k5.toInt = 5 := by rw [qk5]; rfl
  obtain ⟨k6, qk6⟩ : ∃ z : Int32, z = 6 := ⟨_, rfl⟩
  have ek6 : k6.toInt = 6 := by rw [qk6]; rfl
  obtain ⟨k20, qk20⟩ : ∃ z : Int32, z = 20 := ⟨_, rfl⟩
  have ek20 : k20.toInt = 20 := by rw [qk20]; rfl
  obtain ⟨k21, qk21⟩ : ∃ z : Int32, z = 21 := ⟨_, rfl⟩
  have ek21 : k21.toInt = 21 := by rw [qk21]; rfl
  obtain ⟨k22, qk22⟩ : ∃ z : Int32, z = 22 := ⟨_, rfl⟩
  have ek22 : k22.toInt = 22 := by rw [qk22]; rfl
  obtain ⟨k23, qk23⟩ : ∃ z : Int32, z = 23 := ⟨_, rfl⟩
  have ek23 : k23.toInt = 23 := by rw [qk23]; rfl
  obtain ⟨k24, qk24⟩ : ∃ z : Int32, z = 24 := ⟨_, rfl⟩
  have ek24 : k24.toInt = 24 := by rw [qk24]; rfl
  obtain ⟨k41, qk41⟩ : ∃ z : Int32, z = 41 := ⟨_, rfl⟩
  have ek41 : k41.toInt = 41 := by rw [qk41]; rfl
  obtain ⟨k42, qk42⟩ : ∃ z : Int32, z = 42 := ⟨_, rfl⟩
  have ek42 : k42.toInt = 42 := by rw [qk42]; rfl
  obtain ⟨k43, qk43⟩ : ∃ z : Int32, z = 43 := ⟨_, rfl⟩
  have ek43 : k43.toInt = 43 := by rw [qk43]; rfl
  obtain ⟨k44, qk44⟩ : ∃ z : Int32, z = 44 := ⟨_, rfl⟩
  have ek44 : k44.toInt = 44 := by rw [qk44]; rfl
  obtain ⟨k45, qk45⟩ : ∃ z : Int32, z = 45 := ⟨_, rfl⟩
  have ek45 : k45.toInt = 45 := by rw [qk45]; rfl
  obtain ⟨k47, qk47⟩ : ∃ z : Int32, z = 47 := ⟨_, rfl⟩
  have ek47 : k47.toInt = 47 := by rw [qk47]; rfl
  have key : ∀ n : Nat, (∀ (t : oS), (oQ b (x + 1) t) → ((t.1 71 5).toInt = 0) → (0 ≤ (t.1 71 48).toInt ∧ (t.1 71 48).toInt ≤ 6) → ((s.1 71 2).toInt - (s.1 71 45).toInt - (s.1 71 47).toInt ≤ (t.1 71 2).toInt - (t.1 71 45).toInt - (t.1 71 47).toInt) → ((s.1 71 2).toInt ≤ (t.1 71 2).toInt) → ((t.1 71 55).toInt = (b : Int)) → (oqJ g fp fq cz kx b 3 t) → (oqZ g t) → (oqBP t) → 4000 * (1601 - (t.1 71 2).toInt) ≤ (n : Int) → J t 0 [(0, .ref (oad E 71))] []) ∧ (∀ (t : oS), (oQ b (x + 1) t) → ((t.1 71 5).toInt = 0) → (0 ≤ (t.1 71 48).toInt ∧ (t.1 71 48).toInt ≤ 6) → ((s.1 71 2).toInt - (s.1 71 45).toInt - (s.1 71 47).toInt ≤ (t.1 71 2).toInt - (t.1 71 45).toInt - (t.1 71 47).toInt) → ((s.1 71 2).toInt ≤ (t.1 71 2).toInt) → ((t.1 71 55).toInt = (b : Int)) → (oqJ g fp fq cz kx b 3 t) → (oqZ g t) → (oqSk g (t.1 71 2).toInt = (t.1 71 2).toInt) → (oqNc g b t) → (oqBP t) → 2000 ≤ (n : Int) → J t 118 [(0, .ref (oad E 71))] []) ∧ (∀ (t : oS) (x1 : Int32), (oQ b (x + 1) t) → ((t.1 71 5).toInt = 0) → (0 ≤ (t.1 71 48).toInt ∧ (t.1 71 48).toInt ≤ 6) → ((s.1 71 2).toInt - (s.1 71 45).toInt - (s.1 71 47).toInt + 1 ≤ (t.1 71 2).toInt - (t.1 71 45).toInt - (t.1 71 47).toInt) → ((s.1 71 2).toInt ≤ (t.1 71 2).toInt) → (3 ≤ x1.toInt ∧ x1.toInt ≤ 4) → (oqJ g fp fq cz kx b 1 t) → (oqBP t) → (t.1 71 47).toInt + 1 ≤ (n : Int) → J t 158 [(0, .ref (oad E 71)), (1, .int x1)] []) ∧ (∀ (t : oS) (x1 : Int32), (oQ b (x + 1) t) → ((t.1 71 5).toInt = 0) → (0 ≤ (t.1 71 48).toInt ∧ (t.1 71 48).toInt ≤ 6) → ((s.1 71 2).toInt - (s.1 71 45).toInt - (s.1 71 47).toInt + 1 ≤ (t.1 71 2).toInt - (t.1 71 45).toInt - (t.1 71 47).toInt) → ((s.1 71 2).toInt ≤ (t.1 71 2).toInt) → (1 ≤ x1.toInt ∧ x1.toInt ≤ 2) → (oqJ g fp fq cz kx b 1 t) → (oqBP t) → (t.1 71 47).toInt + 1 ≤ (n : Int) → J t 243 [(0, .ref (oad E 71)), (1, .int x1)] []) := by
    intro n
    induction n using Nat.strongRecOn with
    | _ n ih =>
      refine ⟨?_, ?_, ?_, ?_⟩
      · intro t   iv0 iv1 iv2 iv3 iv4 iv5 iv6 iv7 iv8 hmu
        refine r_ty C (fun hty => ?_)
        have hty_coded : (0 : Int) ≤ ((t).1 71 45).toInt ∧ ((t).1 71 45).toInt ≤ 1600 := hty.1 71 45
        have hty_waits : (0 : Int) ≤ ((t).1 71 47).toInt ∧ ((t).1 71 47).toInt ≤ 1700 := hty.1 71 47
        have hty_at : (0 : Int) ≤ ((t).1 71 2).toInt ∧ ((t).1 71 2).toInt ≤ 1600 := hty.1 71 2
        clear hty
        refine r_aload_n C (j := 0) (oDec_at oX12_goesOn 0 rfl) rfl rfl ?_
        obtain ⟨v1, ev1⟩ : ∃ z : Int32, (t).1 71 5 = z := ⟨_, rfl⟩
        have gv1 : (t.1 71 5).toInt = v1.toInt := congrArg Int32.toInt (ev1)
        have rv1 := n_rng v1
        refine r_geti (k := 5) (lo := (-2147483648)) (hi := 2147483647) C v1 oCl12 rfl (by decide) flX12_173 rfl rfl (ev1) rfl rfl (oDec_at oX12_goesOn 1 rfl) (fun _ _ => ?_)
        refine r_if_ne C 118 (oDec_at oX12_goesOn 2 rfl) (by decide) (fun cd2 => ?_) (fun cd2 => ?_)
        · skip
          have lk3 : ((t).1 71 5).toInt = v1.toInt := congrArg Int32.toInt (ev1)
          exact (ih (n - 1) (by omega)).2.1 (t)   iv0 (by omega) (by omega) (by omega) (by omega) (by omega) iv6 iv7 (by omega) (by first | exact oqNc_41 (by omega) | exact oqNc_mk iv0 (by omega) (by assumption) (by assumption) (by assumption) (by omega) (by omega) (by omega) (by omega) (by omega) (by omega) | (exfalso; omega)) iv8 (by omega)
        · skip
          refine r_aload_n C (j := 0) (oDec_at oX12_goesOn 3 rfl) rfl rfl ?_
          refine r_callVi C oCl12 rfl miX12_look mlX12_185 (ct4_X12_look l E (t)  (g) ((t.1 71 2).toInt) (by omega) iv7) (by decide) rfl rfl rfl (Nat.le_of_ble_eq_true rfl) (oDec_at oX12_goesOn 4 rfl) (fun r5 u4 pu4 fu4 => ?_)
          try dsimp only at pu4
          obtain ⟨pu4_0, pu4_1, pu4_2, pu4_3, pu4_4, pu4_5⟩ := pu4
          have rr5 := n_rng r5
          have hsk : oqSk g ((u4).1 71 2).toInt = ((u4).1 71 2).toInt := by rw [show ((u4).1 71 2).toInt = oqSk g (t.1 71 2).toInt by omega]; exact oqSk_sk pu4_3
          have hgA : g ((u4).1 71 2).toInt = r5.toInt := by rw [show ((u4).1 71 2).toInt = oqSk g (t.1 71 2).toInt by omega]; omega
          have hq6 : oqJ g fp fq cz kx b 3 (u4) := oqJ_id iv6 (oFr_row fu4 (c := 103) rfl rfl) (congrArg Int32.toInt (fu4 71 5 rfl).1) (congrArg Int32.toInt (fu4 71 47 rfl).1) (by rw [show ((u4).1 71 2).toInt = oqSk g (t.1 71 2).toInt by omega]; exact oqSk_sk pu4_3) (congrArg Int32.toInt (fu4 71 4 rfl).1) (congrArg Int32.toInt (fu4 71 48 rfl).1) (congrArg Int32.toInt (fu4 71 6 rfl).1)
          refine r_bipush C (oDec_at oX12_goesOn 5 rfl) (v := k41) (by rw [qk41]; rfl) ?_
          refine r_icmp_ne C 118 (oDec_at oX12_goesOn 6 rfl) (by decide) (fun cd7 => ?_) (fun cd7 => ?_)
          · skip
            have lk8 : ((u4).1 71 5).toInt = v1.toInt := congrArg Int32.toInt (((fu4 71 5 rfl).1).trans (ev1))
            have lk9 : ((u4).1 71 48).toInt = (t.1 71 48).toInt := congrArg Int32.toInt ((fu4 71 48 rfl).1)
            have lk10 : ((u4).1 71 45).toInt = (t.1 71 45).toInt := congrArg Int32.toInt ((fu4 71 45 rfl).1)
            have lk11 : ((u4).1 71 47).toInt = (t.1 71 47).toInt := congrArg Int32.toInt ((fu4 71 47 rfl).1)
            have lk12 : ((u4).1 71 55).toInt = (t.1 71 55).toInt := congrArg Int32.toInt ((fu4 71 55 rfl).1)
            exact (ih (n - 1) (by omega)).2.1 (u4)   (oQ_fr fu4 rfl iv0) (by omega) (by omega) (by omega) (by omega) (by omega) hq6 (oqZ_fr fu4 rfl iv7) (by omega) (by first | exact oqNc_41 (by omega) | exact oqNc_mk (oQ_fr fu4 rfl iv0) (by omega) (by assumption) (by assumption) (by assumption) (by omega) (by omega) (by omega) (by omega) (by omega) (by omega) | (exfalso; omega)) (oqBP_fr fu4 rfl iv8) (by omega)
          · skip
            refine r_aload_n C (j := 0) (oDec_at oX12_goesOn 7 rfl) rfl rfl ?_
            refine r_callVi C oCl12 rfl miX12_mark mlX12_304 (ct_X12_mark l E (u4)  ) (by decide) rfl rfl rfl (Nat.le_of_ble_eq_true rfl) (oDec_at oX12_goesOn 8 rfl) (fun r14 u13 pu13 fu13 => ?_)
            try dsimp only at pu13
            have hxu13 := oFr_nil fu13; subst hxu13
            have rr14 := n_rng r14
            have lk15 : ((u4).1 71 47).toInt = (t.1 71 47).toInt := congrArg Int32.toInt ((fu4 71 47 rfl).1)
            have lk16 : ((u4).1 71 55).toInt = (t.1 71 55).toInt := congrArg Int32.toInt ((fu4 71 55 rfl).1)
            have lk17 : ((u4).1 71 5).toInt = v1.toInt := congrArg Int32.toInt (((fu4 71 5 rfl).1).trans (ev1))
            refine r_bipush C (oDec_at oX12_goesOn 9 rfl) (v := k20) (by rw [qk20]; rfl) ?_
            refine r_icmp_eq C 43 (oDec_at oX12_goesOn 10 rfl) (by decide) (fun cd18 => ?_) (fun cd18 => ?_)
            · skip
              have lk19 : ((u4).1 71 4).toInt = (t.1 71 4).toInt := congrArg Int32.toInt ((fu4 71 4 rfl).1)
              have lk20 : ((u4).1 71 5).toInt = v1.toInt := congrArg Int32.toInt (((fu4 71 5 rfl).1).trans (ev1))
              have lk21 : ((u4).1 71 48).toInt = (t.1 71 48).toInt := congrArg Int32.toInt ((fu4 71 48 rfl).1)
              have lk22 : ((u4).1 71 47).toInt = (t.1 71 47).toInt := congrArg Int32.toInt ((fu4 71 47 rfl).1)
              have hq23 : oMk (r14.toInt) (u4) := pu13
              refine r_aload_n C (j := 0) (oDec_at oX12_goesOn 19 rfl) rfl rfl ?_
              refine r_dup C (oDec_at oX12_goesOn 20 rfl) rfl ?_
              obtain ⟨v24, ev24⟩ : ∃ z : Int32, (u4).1 71 2 = z := ⟨_, rfl⟩
              have gv24 : (u4.1 71 2).toInt = v24.toInt := congrArg Int32.toInt (ev24)
              refine r_geti (k := 2) (lo := 0) (hi := 1600) C v24 oCl12 rfl (by decide) flX12_179 rfl rfl (ev24) rfl rfl (oDec_at oX12_goesOn 21 rfl) (fun b25 b25h => ?_)
              refine r_iconst C (oDec_at oX12_goesOn 22 rfl) (v := k1) (by rw [qk1]; rfl) ?_
              obtain ⟨v26, ev26⟩ : ∃ z : Int32, z = v24 + k1 := ⟨_, rfl⟩
              have hv26 : v26.toInt = v24.toInt + k1.toInt := n_add ev26 (by omega) (by omega)
              refine r_iadd C v26 (oDec_at oX12_goesOn 23 rfl) ev26 ?_
              refine r_puti (k := 2) (lo := 0) (hi := 1600) C oCl12 rfl (by decide) flX12_179 rfl rfl rfl rfl rfl rfl rfl rfl ⟨by omega, by omega⟩ (oDec_at oX12_goesOn 24 rfl) ?_
              refine r_pc C 53 rfl ?_
              have hq27 : oqK b (oqSg ((u4).1 103) b (((u4).1 71 47).toNatClampNeg - b)) ((pI u4 71 2 v26)) := rfl
              refine r_aload_n C (j := 0) (oDec_at oX12_goesOn 25 rfl) rfl rfl ?_
              have lk28 : (((pI u4 71 2 v26)).1 71 55).toInt = (t.1 71 55).toInt := congrArg Int32.toInt (((pI_ne (a := 71) (b := 55) (c := 71) (k := 2) _ _ (Or.inr (by decide)))).trans ((fu4 71 55 rfl).1))
              have lk29 : (((pI u4 71 2 v26)).1 71 5).toInt = v1.toInt := congrArg Int32.toInt (((pI_ne (a := 71) (b := 5) (c := 71) (k := 2) _ _ (Or.inr (by decide)))).trans (((fu4 71 5 rfl).1).trans (ev1)))
              have lk30 : (((pI u4 71 2 v26)).1 71 45).toInt = (t.1 71 45).toInt := congrArg Int32.toInt (((pI_ne (a := 71) (b := 45) (c := 71) (k := 2) _ _ (Or.inr (by decide)))).trans ((fu4 71 45 rfl).1))
              have lk31 : (((pI u4 71 2 v26)).1 71 47).toInt = (t.1 71 47).toInt := congrArg Int32.toInt (((pI_ne (a := 71) (b := 47) (c := 71) (k := 2) _ _ (Or.inr (by decide)))).trans ((fu4 71 47 rfl).1))
              have lk32 : (((pI u4 71 2 v26)).1 71 45).toInt = (t.1 71 45).toInt := congrArg Int32.toInt (((pI_ne (a := 71) (b := 45) (c := 71) (k := 2) _ _ (Or.inr (by decide)))).trans ((fu4 71 45 rfl).1))
              have lk33 : (((pI u4 71 2 v26)).1 71 47).toInt = (t.1 71 47).toInt := congrArg Int32.toInt (((pI_ne (a := 71) (b := 47) (c := 71) (k := 2) _ _ (Or.inr (by decide)))).trans ((fu4 71 47 rfl).1))
              have lk34 : (((pI u4 71 2 v26)).1 71 47).toInt = (t.1 71 47).toInt := congrArg Int32.toInt (((pI_ne (a := 71) (b := 47) (c := 71) (k := 2) _ _ (Or.inr (by decide)))).trans ((fu4 71 47 rfl).1))
              refine r_callVv C oCl12 rfl miX12_dropsToMark mlX12_307 (ct5_X12_dropsToMark l E ((pI u4 71 2 v26))  (b) (x + 1) (r14.toInt) (oqSg ((u4).1 103) b (((u4).1 71 47).toNatClampNeg - b)) (oQ_fr (oFr_oneI (q := 12) (m := 2) rfl (by rfl)) rfl (oQ_fr fu4 rfl iv0)) (oMk_fr (oFr_oneI (q := 12) (m := 2) rfl (by rfl)) rfl hq23) (by omega) (by omega) (by omega) (by omega) hq27) (by decide) rfl rfl rfl (Nat.le_of_ble_eq_true rfl) (oDec_at oX12_goesOn 26 rfl) (fun u35 pu35 fu35 => ?_)
              try dsimp only at pu35
              try simp only [lk28, lk29, lk30, lk31, lk32, lk33, lk34] at pu35
              obtain ⟨pu35_0, pu35_1, pu35_2, pu35_3, pu35_4⟩ := pu35
              have lk37 : ((u35).1 71 5).toInt = v1.toInt := congrArg Int32.toInt (((fu35 71 5 rfl).1).trans (((pI_ne (a := 71) (b := 5) (c := 71) (k := 2) _ _ (Or.inr (by decide)))).trans (((fu4 71 5 rfl).1).trans (ev1))))
              have lk38 : ((u35).1 71 48).toInt = (t.1 71 48).toInt := congrArg Int32.toInt (((fu35 71 48 rfl).1).trans (((pI_ne (a := 71) (b := 48) (c := 71) (k := 2) _ _ (Or.inr (by decide)))).trans ((fu4 71 48 rfl).1)))
              have lk39 : ((u35).1 71 2).toInt = v26.toInt := congrArg Int32.toInt (((fu35 71 2 rfl).1).trans ((pI_self _ _ _ _)))
              have lk40 : ((u35).1 71 4).toInt = (t.1 71 4).toInt := congrArg Int32.toInt (((fu35 71 4 rfl).1).trans (((pI_ne (a := 71) (b := 4) (c := 71) (k := 2) _ _ (Or.inr (by decide)))).trans ((fu4 71 4 rfl).1)))
              have htp := pu35_3 (by omega)
              have ho1 := oQ_opn1 pu35_0 (by omega) (by omega) (by omega)
              refine r_aload_n C (j := 0) (oDec_at oX12_goesOn 27 rfl) rfl rfl ?_
              refine r_dup C (oDec_at oX12_goesOn 28 rfl) rfl ?_
              obtain ⟨v41, ev41⟩ : ∃ z : Int32, (u35).1 71 47 = z := ⟨_, rfl⟩
              have gv41 : (u35.1 71 47).toInt = v41.toInt := congrArg Int32.toInt (ev41)
              refine r_geti (k := 47) (lo := 0) (hi := 1700) C v41 oCl12 rfl (by decide) flX12_277 rfl rfl (ev41) rfl rfl (oDec_at oX12_goesOn 29 rfl) (fun b42 b42h => ?_)
              refine r_iconst C (oDec_at oX12_goesOn 30 rfl) (v := k1) (by rw [qk1]; rfl) ?_
              refine r_pc C 63 rfl ?_
              obtain ⟨v43, ev43⟩ : ∃ z : Int32, z = v41 - k1 := ⟨_, rfl⟩
              have hv43 : v43.toInt = v41.toInt - k1.toInt := n_sub ev43 (by omega) (by omega)
              refine r_isub C v43 (oDec_at oX12_goesOn 31 rfl) ev43 ?_
              refine r_puti (k := 47) (lo := 0) (hi := 1700) C oCl12 rfl (by decide) flX12_277 rfl rfl rfl rfl rfl rfl rfl rfl ⟨by omega, by omega⟩ (oDec_at oX12_goesOn 32 rfl) ?_
              refine r_aload_n C (j := 0) (oDec_at oX12_goesOn 33 rfl) rfl rfl ?_
              refine r_dup C (oDec_at oX12_goesOn 34 rfl) rfl ?_
              obtain ⟨v44, ev44⟩ : ∃ z : Int32, ((pI u35 71 47 v43)).1 71 48 = z := ⟨_, rfl⟩
              have gv44 : (t.1 71 48).toInt = v44.toInt := congrArg Int32.toInt ((((pI_ne (a := 71) (b := 48) (c := 71) (k := 47) _ _ (Or.inr (by decide)))).trans (((fu35 71 48 rfl).1).trans (((pI_ne (a := 71) (b := 48) (c := 71) (k := 2) _ _ (Or.inr (by decide)))).trans ((fu4 71 48 rfl).1)))).symm.trans ev44)
              have ggv44 : (((pI u35 71 47 v43)).1 71 48).toInt = v44.toInt := congrArg Int32.toInt ev44
              refine r_geti (k := 48) (lo := (-1)) (hi := 7) C v44 oCl12 rfl (by decide) flX12_274 rfl rfl (ev44) rfl rfl (oDec_at oX12_goesOn 35 rfl) (fun b45 b45h => ?_)
              refine r_iconst C (oDec_at oX12_goesOn 36 rfl) (v := k1) (by rw [qk1]; rfl) ?_
              refine r_pc C 73 rfl ?_
              obtain ⟨v46, ev46⟩ : ∃ z : Int32, z = v44 - k1 := ⟨_, rfl⟩
              have hv46 : v46.toInt = v44.toInt - k1.toInt := n_sub ev46 (by omega) (by omega)
              refine r_isub C v46 (oDec_at oX12_goesOn 37 rfl) ev46 ?_
              refine r_puti (k := 48) (lo := (-1)) (hi := 7) C oCl12 rfl (by decide) flX12_274 rfl rfl rfl rfl rfl rfl rfl rfl ⟨by omega, by omega⟩ (oDec_at oX12_goesOn 38 rfl) ?_
              have hq47 : oqJ g fp fq cz kx b 3 ((pI (pI u35 71 47 v43) 71 48 v46)) := oqJ_cl (s := u4) hq6 (by omega) hsk (by omega) ((oFr_row fu35 (c := 103) rfl rfl).trans rfl) (by omega) (by omega) (by omega) (by omega) pu35_4 (by omega) (by omega) (by omega) (by omega)
              refine r_aload_n C (j := 0) (oDec_at oX12_goesOn 39 rfl) rfl rfl ?_
              refine r_getF (k := 46) (b := 103) C oCl12 rfl (by decide) flX12_111 rfl rfl rfl (oDec_at oX12_goesOn 40 rfl) ?_
              refine r_aload_n C (j := 0) (oDec_at oX12_goesOn 41 rfl) rfl rfl ?_
              refine r_geti (k := 47) (lo := 0) (hi := 1700) C v43 oCl12 rfl (by decide) flX12_277 rfl rfl (((pI_ne (a := 71) (b := 47) (c := 71) (k := 48) _ _ (Or.inr (by decide)))).trans ((pI_self _ _ _ _))) rfl rfl (oDec_at oX12_goesOn 42 rfl) (fun _ _ => ?_)
              refine r_pc C 85 rfl ?_
              obtain ⟨v49, ev49⟩ : ∃ z : Int32, ((pI (pI u35 71 47 v43) 71 48 v46)).1 103 v43.toNatClampNeg = z := ⟨_, rfl⟩
              have av49 : t.1 103 v43.toNatClampNeg = v49 := (((pI_ne (a := 103) (b := v43.toNatClampNeg) (c := 71) _ _ (Or.inl (by decide)))).trans (((pI_ne (a := 103) (b := v43.toNatClampNeg) (c := 71) _ _ (Or.inl (by decide)))).trans (((fu35 103 v43.toNatClampNeg rfl).1).trans (((pI_ne (a := 103) (b := v43.toNatClampNeg) (c := 71) _ _ (Or.inl (by decide)))).trans ((fu4 103 v43.toNatClampNeg rfl).1))))).symm.trans ev49
              have gv49 : (t.1 103 v43.toNatClampNeg).toInt = v49.toInt := congrArg Int32.toInt ((((pI_ne (a := 103) (b := v43.toNatClampNeg) (c := 71) _ _ (Or.inl (by decide)))).trans (((pI_ne (a := 103) (b := v43.toNatClampNeg) (c := 71) _ _ (Or.inl (by decide)))).trans (((fu35 103 v43.toNatClampNeg rfl).1).trans (((pI_ne (a := 103) (b := v43.toNatClampNeg) (c := 71) _ _ (Or.inl (by decide)))).trans ((fu4 103 v43.toNatClampNeg rfl).1))))).symm.trans ev49)
              have rv49 := n_rng v49
              refine r_iald (n := 1700) (lo := (-2147483648)) (hi := 2147483647) C v49 rfl (by decide) rfl rfl ⟨by omega, by omega⟩ (by decide) ev49 rfl rfl (oDec_at oX12_goesOn 43 rfl) (fun _ _ => ?_)
              have hv0 := oTop_of (s := u35) (i := v43) ev49 (by omega)
              refine r_bipush C (oDec_at oX12_goesOn 44 rfl) (v := k20) (by rw [qk20]; rfl) ?_
              refine r_icmp_eq C 0 (oDec_at oX12_goesOn 45 rfl) (by decide) (fun cd50 => ?_) (fun cd50 => ?_)
              · skip
                have lk51 : (((pI (pI u35 71 47 v43) 71 48 v46)).1 71 5).toInt = v1.toInt := congrArg Int32.toInt (((pI_ne (a := 71) (b := 5) (c := 71) (k := 48) _ _ (Or.inr (by decide)))).trans (((pI_ne (a := 71) (b := 5) (c := 71) (k := 47) _ _ (Or.inr (by decide)))).trans (((fu35 71 5 rfl).1).trans (((pI_ne (a := 71) (b := 5) (c := 71) (k := 2) _ _ (Or.inr (by decide)))).trans (((fu4 71 5 rfl).1).trans (ev1))))))
                have lk52 : (((pI (pI u35 71 47 v43) 71 48 v46)).1 71 48).toInt = v46.toInt := congrArg Int32.toInt ((pI_self _ _ _ _))
                have lk53 : (((pI (pI u35 71 47 v43) 71 48 v46)).1 71 2).toInt = v26.toInt := congrArg Int32.toInt (((pI_ne (a := 71) (b := 2) (c := 71) (k := 48) _ _ (Or.inr (by decide)))).trans (((pI_ne (a := 71) (b := 2) (c := 71) (k := 47) _ _ (Or.inr (by decide)))).trans (((fu35 71 2 rfl).1).trans ((pI_self _ _ _ _)))))
                have lk54 : (((pI (pI u35 71 47 v43) 71 48 v46)).1 71 45).toInt = (u35.1 71 45).toInt := congrArg Int32.toInt (((pI_ne (a := 71) (b := 45) (c := 71) (k := 48) _ _ (Or.inr (by decide)))).trans ((pI_ne (a := 71) (b := 45) (c := 71) (k := 47) _ _ (Or.inr (by decide)))))
                have lk55 : (((pI (pI u35 71 47 v43) 71 48 v46)).1 71 47).toInt = v43.toInt := congrArg Int32.toInt (((pI_ne (a := 71) (b := 47) (c := 71) (k := 48) _ _ (Or.inr (by decide)))).trans ((pI_self _ _ _ _)))
                have lk56 : (((pI (pI u35 71 47 v43) 71 48 v46)).1 71 2).toInt = v26.toInt := congrArg Int32.toInt (((pI_ne (a := 71) (b := 2) (c := 71) (k := 48) _ _ (Or.inr (by decide)))).trans (((pI_ne (a := 71) (b := 2) (c := 71) (k := 47) _ _ (Or.inr (by decide)))).trans (((fu35 71 2 rfl).1).trans ((pI_self _ _ _ _)))))
                have lk57 : (((pI (pI u35 71 47 v43) 71 48 v46)).1 71 55).toInt = (t.1 71 55).toInt := congrArg Int32.toInt (((pI_ne (a := 71) (b := 55) (c := 71) (k := 48) _ _ (Or.inr (by decide)))).trans (((pI_ne (a := 71) (b := 55) (c := 71) (k := 47) _ _ (Or.inr (by decide)))).trans (((fu35 71 55 rfl).1).trans (((pI_ne (a := 71) (b := 55) (c := 71) (k := 2) _ _ (Or.inr (by decide)))).trans ((fu4 71 55 rfl).1)))))
                have lk58 : (((pI (pI u35 71 47 v43) 71 48 v46)).1 71 2).toInt = v26.toInt := congrArg Int32.toInt (((pI_ne (a := 71) (b := 2) (c := 71) (k := 48) _ _ (Or.inr (by decide)))).trans (((pI_ne (a := 71) (b := 2) (c := 71) (k := 47) _ _ (Or.inr (by decide)))).trans (((fu35 71 2 rfl).1).trans ((pI_self _ _ _ _)))))
                exact (ih (n - 1) (by omega)).1 ((pI (pI u35 71 47 v43) 71 48 v46))   (by first | exact (by assumption) | exact oQ_pop pu35_0 (by omega) (by omega) (by omega) (by omega)) (by omega) (by omega) (by omega) (by omega) (by omega) hq47 (oqZ_fr (oFr_oneI (q := 12) (m := 48) rfl (by rfl)) rfl (oqZ_fr (oFr_oneI (q := 12) (m := 47) rfl (by rfl)) rfl (oqZ_fr fu35 rfl (oqZ_fr (oFr_oneI (q := 12) (m := 2) rfl (by rfl)) rfl (oqZ_fr fu4 rfl iv7))))) (oqBP_fr (oFr_oneI (q := 12) (m := 48) rfl (by rfl)) rfl (oqBP_fr (oFr_oneI (q := 12) (m := 47) rfl (by rfl)) rfl (oqBP_fr fu35 rfl (oqBP_fr (oFr_oneI (q := 12) (m := 2) rfl (by rfl)) rfl (oqBP_fr fu4 rfl iv8))))) (by omega)
              · skip
                have hq59 : oQ b (x + 1 + 1) ((pI (pI u35 71 47 v43) 71 48 v46)) := oQ_popN pu35_0 (by omega) (by omega) (by omega) (by omega)
                refine r_aload_n C (j := 0) (oDec_at oX12_goesOn 46 rfl) rfl rfl ?_
                refine r_aload_n C (j := 0) (oDec_at oX12_goesOn 47 rfl) rfl rfl ?_
                refine r_getF (k := 46) (b := 103) C oCl12 rfl (by decide) flX12_111 rfl rfl rfl (oDec_at oX12_goesOn 48 rfl) ?_
                refine r_aload_n C (j := 0) (oDec_at oX12_goesOn 49 rfl) rfl rfl ?_
                refine r_geti (k := 47) (lo := 0) (hi := 1700) C v43 oCl12 rfl (by decide) flX12_277 rfl rfl (((pI_ne (a := 71) (b := 47) (c := 71) (k := 48) _ _ (Or.inr (by decide)))).trans ((pI_self _ _ _ _))) rfl rfl (oDec_at oX12_goesOn 50 rfl) (fun _ _ => ?_)
                refine r_iald (n := 1700) (lo := (-2147483648)) (hi := 2147483647) C v49 rfl (by decide) rfl rfl ⟨by omega, by omega⟩ (by decide) (ev49) rfl rfl (oDec_at oX12_goesOn 51 rfl) (fun _ _ => ?_)
                refine r_pc C 101 rfl ?_
                refine r_bipush C (oDec_at oX12_goesOn 52 rfl) (v := k23) (by rw [qk23]; rfl) ?_
                refine r_icmp_ne C 110 (oDec_at oX12_goesOn 53 rfl) (by decide) (fun cd61 => ?_) (fun cd61 => ?_)
                · skip
                  refine r_bipush C (oDec_at oX12_goesOn 56 rfl) (v := k6) (by rw [qk6]; rfl) ?_
                  have lk62 : (((pI (pI u35 71 47 v43) 71 48 v46)).1 71 45).toInt = (u35.1 71 45).toInt := congrArg Int32.toInt (((pI_ne (a := 71) (b := 45) (c := 71) (k := 48) _ _ (Or.inr (by decide)))).trans ((pI_ne (a := 71) (b := 45) (c := 71) (k := 47) _ _ (Or.inr (by decide)))))
                  have lk63 : (((pI (pI u35 71 47 v43) 71 48 v46)).1 71 45).toInt = (u35.1 71 45).toInt := congrArg Int32.toInt (((pI_ne (a := 71) (b := 45) (c := 71) (k := 48) _ _ (Or.inr (by decide)))).trans ((pI_ne (a := 71) (b := 45) (c := 71) (k := 47) _ _ (Or.inr (by decide)))))
                  have lk64 : (((pI (pI u35 71 47 v43) 71 48 v46)).1 71 45).toInt = (u35.1 71 45).toInt := congrArg Int32.toInt (((pI_ne (a := 71) (b := 45) (c := 71) (k := 48) _ _ (Or.inr (by decide)))).trans ((pI_ne (a := 71) (b := 45) (c := 71) (k := 47) _ _ (Or.inr (by decide)))))
                  refine r_callVv C oCl12 rfl miX12_lay mlX12_280 (ct_X12_lay l E ((pI (pI u35 71 47 v43) 71 48 v46)) k6 (by omega)) (by decide) rfl rfl rfl (Nat.le_of_ble_eq_true rfl) (oDec_at oX12_goesOn 57 rfl) (fun u65 pu65 fu65 => ?_)
                  try dsimp only at pu65
                  try simp only [lk63, lk64] at pu65
                  obtain ⟨pu65_0, pu65_1⟩ := pu65
                  have hq67 : oQ b (x + 1) (u65) := oQ_jn hq59 pu65_0 (by omega) (by omega) (by omega)
                  refine r_goto C (tgt := 0) (oDec_at oX12_goesOn 58 rfl) (by decide) ?_
                  have lk68 : ((u65).1 71 5).toInt = v1.toInt := congrArg Int32.toInt (((fu65 71 5 rfl).1).trans (((pI_ne (a := 71) (b := 5) (c := 71) (k := 48) _ _ (Or.inr (by decide)))).trans (((pI_ne (a := 71) (b := 5) (c := 71) (k := 47) _ _ (Or.inr (by decide)))).trans (((fu35 71 5 rfl).1).trans (((pI_ne (a := 71) (b := 5) (c := 71) (k := 2) _ _ (Or.inr (by decide)))).trans (((fu4 71 5 rfl).1).trans (ev1)))))))
                  have lk69 : ((u65).1 71 48).toInt = v46.toInt := congrArg Int32.toInt (((fu65 71 48 rfl).1).trans ((pI_self _ _ _ _)))
                  have lk70 : ((u65).1 71 2).toInt = v26.toInt := congrArg Int32.toInt (((fu65 71 2 rfl).1).trans (((pI_ne (a := 71) (b := 2) (c := 71) (k := 48) _ _ (Or.inr (by decide)))).trans (((pI_ne (a := 71) (b := 2) (c := 71) (k := 47) _ _ (Or.inr (by decide)))).trans (((fu35 71 2 rfl).1).trans ((pI_self _ _ _ _))))))
                  have lk71 : ((u65).1 71 47).toInt = v43.toInt := congrArg Int32.toInt (((fu65 71 47 rfl).1).trans (((pI_ne (a := 71) (b := 47) (c := 71) (k := 48) _ _ (Or.inr (by decide)))).trans ((pI_self _ _ _ _))))
                  have lk72 : ((u65).1 71 2).toInt = v26.toInt := congrArg Int32.toInt (((fu65 71 2 rfl).1).trans (((pI_ne (a := 71) (b := 2) (c := 71) (k := 48) _ _ (Or.inr (by decide)))).trans (((pI_ne (a := 71) (b := 2) (c := 71) (k := 47) _ _ (Or.inr (by decide)))).trans (((fu35 71 2 rfl).1).trans ((pI_self _ _ _ _))))))
                  have lk73 : ((u65).1 71 55).toInt = (t.1 71 55).toInt := congrArg Int32.toInt (((fu65 71 55 rfl).1).trans (((pI_ne (a := 71) (b := 55) (c := 71) (k := 48) _ _ (Or.inr (by decide)))).trans (((pI_ne (a := 71) (b := 55) (c := 71) (k := 47) _ _ (Or.inr (by decide)))).trans (((fu35 71 55 rfl).1).trans (((pI_ne (a := 71) (b := 55) (c := 71) (k := 2) _ _ (Or.inr (by decide)))).trans ((fu4 71 55 rfl).1))))))
                  have lk74 : ((u65).1 71 2).toInt = v26.toInt := congrArg Int32.toInt (((fu65 71 2 rfl).1).trans (((pI_ne (a := 71) (b := 2) (c := 71) (k := 48) _ _ (Or.inr (by decide)))).trans (((pI_ne (a := 71) (b := 2) (c := 71) (k := 47) _ _ (Or.inr (by decide)))).trans (((fu35 71 2 rfl).1).trans ((pI_self _ _ _ _))))))
                  exact (ih (n - 1) (by omega)).1 (u65)   (by first | exact hq67 | exact oQ_pop pu35_0 (by omega) (by omega) (by omega) (by omega)) (by omega) (by omega) (by omega) (by omega) (by omega) (oqJ_fr fu65 rfl hq47) (oqZ_fr fu65 rfl (oqZ_fr (oFr_oneI (q := 12) (m := 48) rfl (by rfl)) rfl (oqZ_fr (oFr_oneI (q := 12) (m := 47) rfl (by rfl)) rfl (oqZ_fr fu35 rfl (oqZ_fr (oFr_oneI (q := 12) (m := 2) rfl (by rfl)) rfl (oqZ_fr fu4 rfl iv7)))))) (oqBP_fr fu65 rfl (oqBP_fr (oFr_oneI (q := 12) (m := 48) rfl (by rfl)) rfl (oqBP_fr (oFr_oneI (q := 12) (m := 47) rfl (by rfl)) rfl (oqBP_fr fu35 rfl (oqBP_fr (oFr_oneI (q := 12) (m := 2) rfl (by rfl)) rfl (oqBP_fr fu4 rfl iv8)))))) (by omega)
                · skip
                  refine r_iconst C (oDec_at oX12_goesOn 54 rfl) (v := k5) (by rw [qk5]; rfl) ?_
                  refine r_goto C (tgt := 112) (oDec_at oX12_goesOn 55 rfl) (by decide) ?_
                  have lk75 : (((pI (pI u35 71 47 v43) 71 48 v46)).1 71 45).toInt = (u35.1 71 45).toInt := congrArg Int32.toInt (((pI_ne (a := 71) (b := 45) (c := 71) (k := 48) _ _ (Or.inr (by decide)))).trans ((pI_ne (a := 71) (b := 45) (c := 71) (k := 47) _ _ (Or.inr (by decide)))))
                  have lk76 : (((pI (pI u35 71 47 v43) 71 48 v46)).1 71 45).toInt = (u35.1 71 45).toInt := congrArg Int32.toInt (((pI_ne (a := 71) (b := 45) (c := 71) (k := 48) _ _ (Or.inr (by decide)))).trans ((pI_ne (a := 71) (b := 45) (c := 71) (k := 47) _ _ (Or.inr (by decide)))))
                  have lk77 : (((pI (pI u35 71 47 v43) 71 48 v46)).1 71 45).toInt = (u35.1 71 45).toInt := congrArg Int32.toInt (((pI_ne (a := 71) (b := 45) (c := 71) (k := 48) _ _ (Or.inr (by decide)))).trans ((pI_ne (a := 71) (b := 45) (c := 71) (k := 47) _ _ (Or.inr (by decide)))))
                  refine r_callVv C oCl12 rfl miX12_lay mlX12_280 (ct_X12_lay l E ((pI (pI u35 71 47 v43) 71 48 v46)) k5 (by omega)) (by decide) rfl rfl rfl (Nat.le_of_ble_eq_true rfl) (oDec_at oX12_goesOn 57 rfl) (fun u78 pu78 fu78 => ?_)
                  try dsimp only at pu78
                  try simp only [lk76, lk77] at pu78
                  obtain ⟨pu78_0, pu78_1⟩ := pu78
                  have hq80 : oQ b (x + 1) (u78) := oQ_jn hq59 pu78_0 (by omega) (by omega) (by omega)
                  refine r_goto C (tgt := 0) (oDec_at oX12_goesOn 58 rfl) (by decide) ?_
                  have lk81 : ((u78).1 71 5).toInt = v1.toInt := congrArg Int32.toInt (((fu78 71 5 rfl).1).trans (((pI_ne (a := 71) (b := 5) (c := 71) (k := 48) _ _ (Or.inr (by decide)))).trans (((pI_ne (a := 71) (b := 5) (c := 71) (k := 47) _ _ (Or.inr (by decide)))).trans (((fu35 71 5 rfl).1).trans (((pI_ne (a := 71) (b := 5) (c := 71) (k := 2) _ _ (Or.inr (by decide)))).trans (((fu4 71 5 rfl).1).trans (ev1)))))))
                  have lk82 : ((u78).1 71 48).toInt = v46.toInt := congrArg Int32.toInt (((fu78 71 48 rfl).1).trans ((pI_self _ _ _ _)))
                  have lk83 : ((u78).1 71 2).toInt = v26.toInt := congrArg Int32.toInt (((fu78 71 2 rfl).1).trans (((pI_ne (a := 71) (b := 2) (c := 71) (k := 48) _ _ (Or.inr (by decide)))).trans (((pI_ne (a := 71) (b := 2) (c := 71) (k := 47) _ _ (Or.inr (by decide)))).trans (((fu35 71 2 rfl).1).trans ((pI_self _ _ _ _))))))
                  have lk84 : ((u78).1 71 47).toInt = v43.toInt := congrArg Int32.toInt (((fu78 71 47 rfl).1).trans (((pI_ne (a := 71) (b := 47) (c := 71) (k := 48) _ _ (Or.inr (by decide)))).trans ((pI_self _ _ _ _))))
                  have lk85 : ((u78).1 71 2).toInt = v26.toInt := congrArg Int32.toInt (((fu78 71 2 rfl).1).trans (((pI_ne (a := 71) (b := 2) (c := 71) (k := 48) _ _ (Or.inr (by decide)))).trans (((pI_ne (a := 71) (b := 2) (c := 71) (k := 47) _ _ (Or.inr (by decide)))).trans (((fu35 71 2 rfl).1).trans ((pI_self _ _ _ _))))))
                  have lk86 : ((u78).1 71 55).toInt = (t.1 71 55).toInt := congrArg Int32.toInt (((fu78 71 55 rfl).1).trans (((pI_ne (a := 71) (b := 55) (c := 71) (k := 48) _ _ (Or.inr (by decide)))).trans (((pI_ne (a := 71) (b := 55) (c := 71) (k := 47) _ _ (Or.inr (by decide)))).trans (((fu35 71 55 rfl).1).trans (((pI_ne (a := 71) (b := 55) (c := 71) (k := 2) _ _ (Or.inr (by decide)))).trans ((fu4 71 55 rfl).1))))))
                  have lk87 : ((u78).1 71 2).toInt = v26.toInt := congrArg Int32.toInt (((fu78 71 2 rfl).1).trans (((pI_ne (a := 71) (b := 2) (c := 71) (k := 48) _ _ (Or.inr (by decide)))).trans (((pI_ne (a := 71) (b := 2) (c := 71) (k := 47) _ _ (Or.inr (by decide)))).trans (((fu35 71 2 rfl).1).trans ((pI_self _ _ _ _))))))
                  exact (ih (n - 1) (by omega)).1 (u78)   (by first | exact hq80 | exact oQ_pop pu35_0 (by omega) (by omega) (by omega) (by omega)) (by omega) (by omega) (by omega) (by omega) (by omega) (oqJ_fr fu78 rfl hq47) (oqZ_fr fu78 rfl (oqZ_fr (oFr_oneI (q := 12) (m := 48) rfl (by rfl)) rfl (oqZ_fr (oFr_oneI (q := 12) (m := 47) rfl (by rfl)) rfl (oqZ_fr fu35 rfl (oqZ_fr (oFr_oneI (q := 12) (m := 2) rfl (by rfl)) rfl (oqZ_fr fu4 rfl iv7)))))) (oqBP_fr fu78 rfl (oqBP_fr (oFr_oneI (q := 12) (m := 48) rfl (by rfl)) rfl (oqBP_fr (oFr_oneI (q := 12) (m := 47) rfl (by rfl)) rfl (oqBP_fr fu35 rfl (oqBP_fr (oFr_oneI (q := 12) (m := 2) rfl (by rfl)) rfl (oqBP_fr fu4 rfl iv8)))))) (by omega)
            · skip
              refine r_aload_n C (j := 0) (oDec_at oX12_goesOn 11 rfl) rfl rfl ?_
              refine r_callVi C oCl12 rfl miX12_mark mlX12_304 (ct_X12_mark l E (u4)  ) (by decide) rfl rfl rfl (Nat.le_of_ble_eq_true rfl) (oDec_at oX12_goesOn 12 rfl) (fun r89 u88 pu88 fu88 => ?_)
              try dsimp only at pu88
              have hxu88 := oFr_nil fu88; subst hxu88
              have rr89 := n_rng r89
              refine r_bipush C (oDec_at oX12_goesOn 13 rfl) (v := k23) (by rw [qk23]; rfl) ?_
              refine r_icmp_eq C 43 (oDec_at oX12_goesOn 14 rfl) (by decide) (fun cd90 => ?_) (fun cd90 => ?_)
              · skip
                have lk91 : ((u4).1 71 4).toInt = (t.1 71 4).toInt := congrArg Int32.toInt ((fu4 71 4 rfl).1)
                have lk92 : ((u4).1 71 5).toInt = v1.toInt := congrArg Int32.toInt (((fu4 71 5 rfl).1).trans (ev1))
                have lk93 : ((u4).1 71 48).toInt = (t.1 71 48).toInt := congrArg Int32.toInt ((fu4 71 48 rfl).1)
                have lk94 : ((u4).1 71 47).toInt = (t.1 71 47).toInt := congrArg Int32.toInt ((fu4 71 47 rfl).1)
                have hq95 : oMk (r89.toInt) (u4) := pu88
                refine r_aload_n C (j := 0) (oDec_at oX12_goesOn 19 rfl) rfl rfl ?_
                refine r_dup C (oDec_at oX12_goesOn 20 rfl) rfl ?_
                obtain ⟨v96, ev96⟩ : ∃ z : Int32, (u4).1 71 2 = z := ⟨_, rfl⟩
                have gv96 : (u4.1 71 2).toInt = v96.toInt := congrArg Int32.toInt (ev96)
                refine r_geti (k := 2) (lo := 0) (hi := 1600) C v96 oCl12 rfl (by decide) flX12_179 rfl rfl (ev96) rfl rfl (oDec_at oX12_goesOn 21 rfl) (fun b97 b97h => ?_)
                refine r_iconst C (oDec_at oX12_goesOn 22 rfl) (v := k1) (by rw [qk1]; rfl) ?_
                obtain ⟨v98, ev98⟩ : ∃ z : Int32, z = v96 + k1 := ⟨_, rfl⟩
                have hv98 : v98.toInt = v96.toInt + k1.toInt := n_add ev98 (by omega) (by omega)
                refine r_iadd C v98 (oDec_at oX12_goesOn 23 rfl) ev98 ?_
                refine r_puti (k := 2) (lo := 0) (hi := 1600) C oCl12 rfl (by decide) flX12_179 rfl rfl rfl rfl rfl rfl rfl rfl ⟨by omega, by omega⟩ (oDec_at oX12_goesOn 24 rfl) ?_
                refine r_pc C 53 rfl ?_
                have hq99 : oqK b (oqSg ((u4).1 103) b (((u4).1 71 47).toNatClampNeg - b)) ((pI u4 71 2 v98)) := rfl
                refine r_aload_n C (j := 0) (oDec_at oX12_goesOn 25 rfl) rfl rfl ?_
                have lk100 : (((pI u4 71 2 v98)).1 71 55).toInt = (t.1 71 55).toInt := congrArg Int32.toInt (((pI_ne (a := 71) (b := 55) (c := 71) (k := 2) _ _ (Or.inr (by decide)))).trans ((fu4 71 55 rfl).1))
                have lk101 : (((pI u4 71 2 v98)).1 71 5).toInt = v1.toInt := congrArg Int32.toInt (((pI_ne (a := 71) (b := 5) (c := 71) (k := 2) _ _ (Or.inr (by decide)))).trans (((fu4 71 5 rfl).1).trans (ev1)))
                have lk102 : (((pI u4 71 2 v98)).1 71 45).toInt = (t.1 71 45).toInt := congrArg Int32.toInt (((pI_ne (a := 71) (b := 45) (c := 71) (k := 2) _ _ (Or.inr (by decide)))).trans ((fu4 71 45 rfl).1))
                have lk103 : (((pI u4 71 2 v98)).1 71 47).toInt = (t.1 71 47).toInt := congrArg Int32.toInt (((pI_ne (a := 71) (b := 47) (c := 71) (k := 2) _ _ (Or.inr (by decide)))).trans ((fu4 71 47 rfl).1))
                have lk104 : (((pI u4 71 2 v98)).1 71 45).toInt = (t.1 71 45).toInt := congrArg Int32.toInt (((pI_ne (a := 71) (b := 45) (c := 71) (k := 2) _ _ (Or.inr (by decide)))).trans ((fu4 71 45 rfl).1))
                have lk105 : (((pI u4 71 2 v98)).1 71 47).toInt = (t.1 71 47).toInt := congrArg Int32.toInt (((pI_ne (a := 71) (b := 47) (c := 71) (k := 2) _ _ (Or.inr (by decide)))).trans ((fu4 71 47 rfl).1))
                have lk106 : (((pI u4 71 2 v98)).1 71 47).toInt = (t.1 71 47).toInt := congrArg Int32.toInt (((pI_ne (a := 71) (b := 47) (c := 71) (k := 2) _ _ (Or.inr (by decide)))).trans ((fu4 71 47 rfl).1))
                refine r_callVv C oCl12 rfl miX12_dropsToMark mlX12_307 (ct5_X12_dropsToMark l E ((pI u4 71 2 v98))  (b) (x + 1) (r89.toInt) (oqSg ((u4).1 103) b (((u4).1 71 47).toNatClampNeg - b)) (oQ_fr (oFr_oneI (q := 12) (m := 2) rfl (by rfl)) rfl (oQ_fr fu4 rfl iv0)) (oMk_fr (oFr_oneI (q := 12) (m := 2) rfl (by rfl)) rfl hq95) (by omega) (by omega) (by omega) (by omega) hq99) (by decide) rfl rfl rfl (Nat.le_of_ble_eq_true rfl) (oDec_at oX12_goesOn 26 rfl) (fun u107 pu107 fu107 => ?_)
                try dsimp only at pu107
                try simp only [lk100, lk101, lk102, lk103, lk104, lk105, lk106] at pu107
                obtain ⟨pu107_0, pu107_1, pu107_2, pu107_3, pu107_4⟩ := pu107
                have lk109 : ((u107).1 71 5).toInt = v1.toInt := congrArg Int32.toInt (((fu107 71 5 rfl).1).trans (((pI_ne (a := 71) (b := 5) (c := 71) (k := 2) _ _ (Or.inr (by decide)))).trans (((fu4 71 5 rfl).1).trans (ev1))))
                have lk110 : ((u107).1 71 48).toInt = (t.1 71 48).toInt := congrArg Int32.toInt (((fu107 71 48 rfl).1).trans (((pI_ne (a := 71) (b := 48) (c := 71) (k := 2) _ _ (Or.inr (by decide)))).trans ((fu4 71 48 rfl).1)))
                have lk111 : ((u107).1 71 2).toInt = v98.toInt := congrArg Int32.toInt (((fu107 71 2 rfl).1).trans ((pI_self _ _ _ _)))
                have lk112 : ((u107).1 71 4).toInt = (t.1 71 4).toInt := congrArg Int32.toInt (((fu107 71 4 rfl).1).trans (((pI_ne (a := 71) (b := 4) (c := 71) (k := 2) _ _ (Or.inr (by decide)))).trans ((fu4 71 4 rfl).1)))
                have htp := pu107_3 (by omega)
                have ho1 := oQ_opn1 pu107_0 (by omega) (by omega) (by omega)
                refine r_aload_n C (j := 0) (oDec_at oX12_goesOn 27 rfl) rfl rfl ?_
                refine r_dup C (oDec_at oX12_goesOn 28 rfl) rfl ?_
                obtain ⟨v113, ev113⟩ : ∃ z : Int32, (u107).1 71 47 = z := ⟨_, rfl⟩
                have gv113 : (u107.1 71 47).toInt = v113.toInt := congrArg Int32.toInt (ev113)
                refine r_geti (k := 47) (lo := 0) (hi := 1700) C v113 oCl12 rfl (by decide) flX12_277 rfl rfl (ev113) rfl rfl (oDec_at oX12_goesOn 29 rfl) (fun b114 b114h => ?_)
                refine r_iconst C (oDec_at oX12_goesOn 30 rfl) (v := k1) (by rw [qk1]; rfl) ?_
                refine r_pc C 63 rfl ?_
                obtain ⟨v115, ev115⟩ : ∃ z : Int32, z = v113 - k1 := ⟨_, rfl⟩
                have hv115 : v115.toInt = v113.toInt - k1.toInt := n_sub ev115 (by omega) (by omega)
                refine r_isub C v115 (oDec_at oX12_goesOn 31 rfl) ev115 ?_
                refine r_puti (k := 47) (lo := 0) (hi := 1700) C oCl12 rfl (by decide) flX12_277 rfl rfl rfl rfl rfl rfl rfl rfl ⟨by omega, by omega⟩ (oDec_at oX12_goesOn 32 rfl) ?_
                refine r_aload_n C (j := 0) (oDec_at oX12_goesOn 33 rfl) rfl rfl ?_
                refine r_dup C (oDec_at oX12_goesOn 34 rfl) rfl ?_
                obtain ⟨v116, ev116⟩ : ∃ z : Int32, ((pI u107 71 47 v115)).1 71 48 = z := ⟨_, rfl⟩
                have gv116 : (t.1 71 48).toInt = v116.toInt := congrArg Int32.toInt ((((pI_ne (a := 71) (b := 48) (c := 71) (k := 47) _ _ (Or.inr (by decide)))).trans (((fu107 71 48 rfl).1).trans (((pI_ne (a := 71) (b := 48) (c := 71) (k := 2) _ _ (Or.inr (by decide)))).trans ((fu4 71 48 rfl).1)))).symm.trans ev116)
                have ggv116 : (((pI u107 71 47 v115)).1 71 48).toInt = v116.toInt := congrArg Int32.toInt ev116
                refine r_geti (k := 48) (lo := (-1)) (hi := 7) C v116 oCl12 rfl (by decide) flX12_274 rfl rfl (ev116) rfl rfl (oDec_at oX12_goesOn 35 rfl) (fun b117 b117h => ?_)
                refine r_iconst C (oDec_at oX12_goesOn 36 rfl) (v := k1) (by rw [qk1]; rfl) ?_
                refine r_pc C 73 rfl ?_
                obtain ⟨v118, ev118⟩ : ∃ z : Int32, z = v116 - k1 := ⟨_, rfl⟩
                have hv118 : v118.toInt = v116.toInt - k1.toInt := n_sub ev118 (by omega) (by omega)
                refine r_isub C v118 (oDec_at oX12_goesOn 37 rfl) ev118 ?_
                refine r_puti (k := 48) (lo := (-1)) (hi := 7) C oCl12 rfl (by decide) flX12_274 rfl rfl rfl rfl rfl rfl rfl rfl ⟨by omega, by omega⟩ (oDec_at oX12_goesOn 38 rfl) ?_
                have hq119 : oqJ g fp fq cz kx b 3 ((pI (pI u107 71 47 v115) 71 48 v118)) := oqJ_cl (s := u4) hq6 (by omega) hsk (by omega) ((oFr_row fu107 (c := 103) rfl rfl).trans rfl) (by omega) (by omega) (by omega) (by omega) pu107_4 (by omega) (by omega) (by omega) (by omega)
                refine r_aload_n C (j := 0) (oDec_at oX12_goesOn 39 rfl) rfl rfl ?_
                refine r_getF (k := 46) (b := 103) C oCl12 rfl (by decide) flX12_111 rfl rfl rfl (oDec_at oX12_goesOn 40 rfl) ?_
                refine r_aload_n C (j := 0) (oDec_at oX12_goesOn 41 rfl) rfl rfl ?_
                refine r_geti (k := 47) (lo := 0) (hi := 1700) C v115 oCl12 rfl (by decide) flX12_277 rfl rfl (((pI_ne (a := 71) (b := 47) (c := 71) (k := 48) _ _ (Or.inr (by decide)))).trans ((pI_self _ _ _ _))) rfl rfl (oDec_at oX12_goesOn 42 rfl) (fun _ _ => ?_)
                refine r_pc C 85 rfl ?_
                obtain ⟨v121, ev121⟩ : ∃ z : Int32, ((pI (pI u107 71 47 v115) 71 48 v118)).1 103 v115.toNatClampNeg = z := ⟨_, rfl⟩
                have av121 : t.1 103 v115.toNatClampNeg = v121 := (((pI_ne (a := 103) (b := v115.toNatClampNeg) (c := 71) _ _ (Or.inl (by decide)))).trans (((pI_ne (a := 103) (b := v115.toNatClampNeg) (c := 71) _ _ (Or.inl (by decide)))).trans (((fu107 103 v115.toNatClampNeg rfl).1).trans (((pI_ne (a := 103) (b := v115.toNatClampNeg) (c := 71) _ _ (Or.inl (by decide)))).trans ((fu4 103 v115.toNatClampNeg rfl).1))))).symm.trans ev121
                have gv121 : (t.1 103 v115.toNatClampNeg).toInt = v121.toInt := congrArg Int32.toInt ((((pI_ne (a := 103) (b := v115.toNatClampNeg) (c := 71) _ _ (Or.inl (by decide)))).trans (((pI_ne (a := 103) (b := v115.toNatClampNeg) (c := 71) _ _ (Or.inl (by decide)))).trans (((fu107 103 v115.toNatClampNeg rfl).1).trans (((pI_ne (a := 103) (b := v115.toNatClampNeg) (c := 71) _ _ (Or.inl (by decide)))).trans ((fu4 103 v115.toNatClampNeg rfl).1))))).symm.trans ev121)
                have rv121 := n_rng v121
                refine r_iald (n := 1700) (lo := (-2147483648)) (hi := 2147483647) C v121 rfl (by decide) rfl rfl ⟨by omega, by omega⟩ (by decide) ev121 rfl rfl (oDec_at oX12_goesOn 43 rfl) (fun _ _ => ?_)
                have hv0 := oTop_of (s := u107) (i := v115) ev121 (by omega)
                refine r_bipush C (oDec_at oX12_goesOn 44 rfl) (v := k20) (by rw [qk20]; rfl) ?_
                refine r_icmp_eq C 0 (oDec_at oX12_goesOn 45 rfl) (by decide) (fun cd122 => ?_) (fun cd122 => ?_)
                · skip
                  have lk123 : (((pI (pI u107 71 47 v115) 71 48 v118)).1 71 5).toInt = v1.toInt := congrArg Int32.toInt (((pI_ne (a := 71) (b := 5) (c := 71) (k := 48) _ _ (Or.inr (by decide)))).trans (((pI_ne (a := 71) (b := 5) (c := 71) (k := 47) _ _ (Or.inr (by decide)))).trans (((fu107 71 5 rfl).1).trans (((pI_ne (a := 71) (b := 5) (c := 71) (k := 2) _ _ (Or.inr (by decide)))).trans (((fu4 71 5 rfl).1).trans (ev1))))))
                  have lk124 : (((pI (pI u107 71 47 v115) 71 48 v118)).1 71 48).toInt = v118.toInt := congrArg Int32.toInt ((pI_self _ _ _ _))
                  have lk125 : (((pI (pI u107 71 47 v115) 71 48 v118)).1 71 2).toInt = v98.toInt := congrArg Int32.toInt (((pI_ne (a := 71) (b := 2) (c := 71) (k := 48) _ _ (Or.inr (by decide)))).trans (((pI_ne (a := 71) (b := 2) (c := 71) (k := 47) _ _ (Or.inr (by decide)))).trans (((fu107 71 2 rfl).1).trans ((pI_self _ _ _ _)))))
                  have lk126 : (((pI (pI u107 71 47 v115) 71 48 v118)).1 71 45).toInt = (u107.1 71 45).toInt := congrArg Int32.toInt (((pI_ne (a := 71) (b := 45) (c := 71) (k := 48) _ _ (Or.inr (by decide)))).trans ((pI_ne (a := 71) (b := 45) (c := 71) (k := 47) _ _ (Or.inr (by decide)))))
                  have lk127 : (((pI (pI u107 71 47 v115) 71 48 v118)).1 71 47).toInt = v115.toInt := congrArg Int32.toInt (((pI_ne (a := 71) (b := 47) (c := 71) (k := 48) _ _ (Or.inr (by decide)))).trans ((pI_self _ _ _ _)))
                  have lk128 : (((pI (pI u107 71 47 v115) 71 48 v118)).1 71 2).toInt = v98.toInt := congrArg Int32.toInt (((pI_ne (a := 71) (b := 2) (c := 71) (k := 48) _ _ (Or.inr (by decide)))).trans (((pI_ne (a := 71) (b := 2) (c := 71) (k := 47) _ _ (Or.inr (by decide)))).trans (((fu107 71 2 rfl).1).trans ((pI_self _ _ _ _)))))
                  have lk129 : (((pI (pI u107 71 47 v115) 71 48 v118)).1 71 55).toInt = (t.1 71 55).toInt := congrArg Int32.toInt (((pI_ne (a := 71) (b := 55) (c := 71) (k := 48) _ _ (Or.inr (by decide)))).trans (((pI_ne (a := 71) (b := 55) (c := 71) (k := 47) _ _ (Or.inr (by decide)))).trans (((fu107 71 55 rfl).1).trans (((pI_ne (a := 71) (b := 55) (c := 71) (k := 2) _ _ (Or.inr (by decide)))).trans ((fu4 71 55 rfl).1)))))
                  have lk130 : (((pI (pI u107 71 47 v115) 71 48 v118)).1 71 2).toInt = v98.toInt := congrArg Int32.toInt (((pI_ne (a := 71) (b := 2) (c := 71) (k := 48) _ _ (Or.inr (by decide)))).trans (((pI_ne (a := 71) (b := 2) (c := 71) (k := 47) _ _ (Or.inr (by decide)))).trans (((fu107 71 2 rfl).1).trans ((pI_self _ _ _ _)))))
                  exact (ih (n - 1) (by omega)).1 ((pI (pI u107 71 47 v115) 71 48 v118))   (by first | exact (by assumption) | exact oQ_pop pu107_0 (by omega) (by omega) (by omega) (by omega)) (by omega) (by omega) (by omega) (by omega) (by omega) hq119 (oqZ_fr (oFr_oneI (q := 12) (m := 48) rfl (by rfl)) rfl (oqZ_fr (oFr_oneI (q := 12) (m := 47) rfl (by rfl)) rfl (oqZ_fr fu107 rfl (oqZ_fr (oFr_oneI (q := 12) (m := 2) rfl (by rfl)) rfl (oqZ_fr fu4 rfl iv7))))) (oqBP_fr (oFr_oneI (q := 12) (m := 48) rfl (by rfl)) rfl (oqBP_fr (oFr_oneI (q := 12) (m := 47) rfl (by rfl)) rfl (oqBP_fr fu107 rfl (oqBP_fr (oFr_oneI (q := 12) (m := 2) rfl (by rfl)) rfl (oqBP_fr fu4 rfl iv8))))) (by omega)
                · skip
                  have hq131 : oQ b (x + 1 + 1) ((pI (pI u107 71 47 v115) 71 48 v118)) := oQ_popN pu107_0 (by omega) (by omega) (by omega) (by omega)
                  refine r_aload_n C (j := 0) (oDec_at oX12_goesOn 46 rfl) rfl rfl ?_
                  refine r_aload_n C (j := 0) (oDec_at oX12_goesOn 47 rfl) rfl rfl ?_
                  refine r_getF (k := 46) (b := 103) C oCl12 rfl (by decide) flX12_111 rfl rfl rfl (oDec_at oX12_goesOn 48 rfl) ?_
                  refine r_aload_n C (j := 0) (oDec_at oX12_goesOn 49 rfl) rfl rfl ?_
                  refine r_geti (k := 47) (lo := 0) (hi := 1700) C v115 oCl12 rfl (by decide) flX12_277 rfl rfl (((pI_ne (a := 71) (b := 47) (c := 71) (k := 48) _ _ (Or.inr (by decide)))).trans ((pI_self _ _ _ _))) rfl rfl (oDec_at oX12_goesOn 50 rfl) (fun _ _ => ?_)
                  refine r_iald (n := 1700) (lo := (-2147483648)) (hi := 2147483647) C v121 rfl (by decide) rfl rfl ⟨by omega, by omega⟩ (by decide) (ev121) rfl rfl (oDec_at oX12_goesOn 51 rfl) (fun _ _ => ?_)
                  refine r_pc C 101 rfl ?_
                  refine r_bipush C (oDec_at oX12_goesOn 52 rfl) (v := k23) (by rw [qk23]; rfl) ?_
                  refine r_icmp_ne C 110 (oDec_at oX12_goesOn 53 rfl) (by decide) (fun cd133 => ?_) (fun cd133 => ?_)
                  · skip
                    refine r_bipush C (oDec_at oX12_goesOn 56 rfl) (v := k6) (by rw [qk6]; rfl) ?_
                    have lk134 : (((pI (pI u107 71 47 v115) 71 48 v118)).1 71 45).toInt = (u107.1 71 45).toInt := congrArg Int32.toInt (((pI_ne (a := 71) (b := 45) (c := 71) (k := 48) _ _ (Or.inr (by decide)))).trans ((pI_ne (a := 71) (b := 45) (c := 71) (k := 47) _ _ (Or.inr (by decide)))))
                    have lk135 : (((pI (pI u107 71 47 v115) 71 48 v118)).1 71 45).toInt = (u107.1 71 45).toInt := congrArg Int32.toInt (((pI_ne (a := 71) (b := 45) (c := 71) (k := 48) _ _ (Or.inr (by decide)))).trans ((pI_ne (a := 71) (b := 45) (c := 71) (k := 47) _ _ (Or.inr (by decide)))))
                    have lk136 : (((pI (pI u107 71 47 v115) 71 48 v118)).1 71 45).toInt = (u107.1 71 45).toInt := congrArg Int32.toInt (((pI_ne (a := 71) (b := 45) (c := 71) (k := 48) _ _ (Or.inr (by decide)))).trans ((pI_ne (a := 71) (b := 45) (c := 71) (k := 47) _ _ (Or.inr (by decide)))))
                    refine r_callVv C oCl12 rfl miX12_lay mlX12_280 (ct_X12_lay l E ((pI (pI u107 71 47 v115) 71 48 v118)) k6 (by omega)) (by decide) rfl rfl rfl (Nat.le_of_ble_eq_true rfl) (oDec_at oX12_goesOn 57 rfl) (fun u137 pu137 fu137 => ?_)
                    try dsimp only at pu137
                    try simp only [lk135, lk136] at pu137
                    obtain ⟨pu137_0, pu137_1⟩ := pu137
                    have hq139 : oQ b (x + 1) (u137) := oQ_jn hq131 pu137_0 (by omega) (by omega) (by omega)
                    refine r_goto C (tgt := 0) (oDec_at oX12_goesOn 58 rfl) (by decide) ?_
                    have lk140 : ((u137).1 71 5).toInt = v1.toInt := congrArg Int32.toInt (((fu137 71 5 rfl).1).trans (((pI_ne (a := 71) (b := 5) (c := 71) (k := 48) _ _ (Or.inr (by decide)))).trans (((pI_ne (a := 71) (b := 5) (c := 71) (k := 47) _ _ (Or.inr (by decide)))).trans (((fu107 71 5 rfl).1).trans (((pI_ne (a := 71) (b := 5) (c := 71) (k := 2) _ _ (Or.inr (by decide)))).trans (((fu4 71 5 rfl).1).trans (ev1)))))))
                    have lk141 : ((u137).1 71 48).toInt = v118.toInt := congrArg Int32.toInt (((fu137 71 48 rfl).1).trans ((pI_self _ _ _ _)))
                    have lk142 : ((u137).1 71 2).toInt = v98.toInt := congrArg Int32.toInt (((fu137 71 2 rfl).1).trans (((pI_ne (a := 71) (b := 2) (c := 71) (k := 48) _ _ (Or.inr (by decide)))).trans (((pI_ne (a := 71) (b := 2) (c := 71) (k := 47) _ _ (Or.inr (by decide)))).trans (((fu107 71 2 rfl).1).trans ((pI_self _ _ _ _))))))
                    have lk143 : ((u137).1 71 47).toInt = v115.toInt := congrArg Int32.toInt (((fu137 71 47 rfl).1).trans (((pI_ne (a := 71) (b := 47) (c := 71) (k := 48) _ _ (Or.inr (by decide)))).trans ((pI_self _ _ _ _))))
                    have lk144 : ((u137).1 71 2).toInt = v98.toInt := congrArg Int32.toInt (((fu137 71 2 rfl).1).trans (((pI_ne (a := 71) (b := 2) (c := 71) (k := 48) _ _ (Or.inr (by decide)))).trans (((pI_ne (a := 71) (b := 2) (c := 71) (k := 47) _ _ (Or.inr (by decide)))).trans (((fu107 71 2 rfl).1).trans ((pI_self _ _ _ _))))))
                    have lk145 : ((u137).1 71 55).toInt = (t.1 71 55).toInt := congrArg Int32.toInt (((fu137 71 55 rfl).1).trans (((pI_ne (a := 71) (b := 55) (c := 71) (k := 48) _ _ (Or.inr (by decide)))).trans (((pI_ne (a := 71) (b := 55) (c := 71) (k := 47) _ _ (Or.inr (by decide)))).trans (((fu107 71 55 rfl).1).trans (((pI_ne (a := 71) (b := 55) (c := 71) (k := 2) _ _ (Or.inr (by decide)))).trans ((fu4 71 55 rfl).1))))))
                    have lk146 : ((u137).1 71 2).toInt = v98.toInt := congrArg Int32.toInt (((fu137 71 2 rfl).1).trans (((pI_ne (a := 71) (b := 2) (c := 71) (k := 48) _ _ (Or.inr (by decide)))).trans (((pI_ne (a := 71) (b := 2) (c := 71) (k := 47) _ _ (Or.inr (by decide)))).trans (((fu107 71 2 rfl).1).trans ((pI_self _ _ _ _))))))
                    exact (ih (n - 1) (by omega)).1 (u137)   (by first | exact hq139 | exact oQ_pop pu107_0 (by omega) (by omega) (by omega) (by omega)) (by omega) (by omega) (by omega) (by omega) (by omega) (oqJ_fr fu137 rfl hq119) (oqZ_fr fu137 rfl (oqZ_fr (oFr_oneI (q := 12) (m := 48) rfl (by rfl)) rfl (oqZ_fr (oFr_oneI (q := 12) (m := 47) rfl (by rfl)) rfl (oqZ_fr fu107 rfl (oqZ_fr (oFr_oneI (q := 12) (m := 2) rfl (by rfl)) rfl (oqZ_fr fu4 rfl iv7)))))) (oqBP_fr fu137 rfl (oqBP_fr (oFr_oneI (q := 12) (m := 48) rfl (by rfl)) rfl (oqBP_fr (oFr_oneI (q := 12) (m := 47) rfl (by rfl)) rfl (oqBP_fr fu107 rfl (oqBP_fr (oFr_oneI (q := 12) (m := 2) rfl (by rfl)) rfl (oqBP_fr fu4 rfl iv8)))))) (by omega)
                  · skip
                    refine r_iconst C (oDec_at oX12_goesOn 54 rfl) (v := k5) (by rw [qk5]; rfl) ?_
                    refine r_goto C (tgt := 112) (oDec_at oX12_goesOn 55 rfl) (by decide) ?_
                    have lk147 : (((pI (pI u107 71 47 v115) 71 48 v118)).1 71 45).toInt = (u107.1 71 45).toInt := congrArg Int32.toInt (((pI_ne (a := 71) (b := 45) (c := 71) (k := 48) _ _ (Or.inr (by decide)))).trans ((pI_ne (a := 71) (b := 45) (c := 71) (k := 47) _ _ (Or.inr (by decide)))))
                    have lk148 : (((pI (pI u107 71 47 v115) 71 48 v118)).1 71 45).toInt = (u107.1 71 45).toInt := congrArg Int32.toInt (((pI_ne (a := 71) (b := 45) (c := 71) (k := 48) _ _ (Or.inr (by decide)))).trans ((pI_ne (a := 71) (b := 45) (c := 71) (k := 47) _ _ (Or.inr (by decide)))))
                    have lk149 : (((pI (pI u107 71 47 v115) 71 48 v118)).1 71 45).toInt = (u107.1 71 45).toInt := congrArg Int32.toInt (((pI_ne (a := 71) (b := 45) (c := 71) (k := 48) _ _ (Or.inr (by decide)))).trans ((pI_ne (a := 71) (b := 45) (c := 71) (k := 47) _ _ (Or.inr (by decide)))))
                    refine r_callVv C oCl12 rfl miX12_lay mlX12_280 (ct_X12_lay l E ((pI (pI u107 71 47 v115) 71 48 v118)) k5 (by omega)) (by decide) rfl rfl rfl (Nat.le_of_ble_eq_true rfl) (oDec_at oX12_goesOn 57 rfl) (fun u150 pu150 fu150 => ?_)
                    try dsimp only at pu150
                    try simp only [lk148, lk149] at pu150
                    obtain ⟨pu150_0, pu150_1⟩ := pu150
                    have hq152 : oQ b (x + 1) (u150) := oQ_jn hq131 pu150_0 (by omega) (by omega) (by omega)
                    refine r_goto C (tgt := 0) (oDec_at oX12_goesOn 58 rfl) (by decide) ?_
                    have lk153 : ((u150).1 71 5).toInt = v1.toInt := congrArg Int32.toInt (((fu150 71 5 rfl).1).trans (((pI_ne (a := 71) (b := 5) (c := 71) (k := 48) _ _ (Or.inr (by decide)))).trans (((pI_ne (a := 71) (b := 5) (c := 71) (k := 47) _ _ (Or.inr (by decide)))).trans (((fu107 71 5 rfl).1).trans (((pI_ne (a := 71) (b := 5) (c := 71) (k := 2) _ _ (Or.inr (by decide)))).trans (((fu4 71 5 rfl).1).trans (ev1)))))))
                    have lk154 : ((u150).1 71 48).toInt = v118.toInt := congrArg Int32.toInt (((fu150 71 48 rfl).1).trans ((pI_self _ _ _ _)))
                    have lk155 : ((u150).1 71 2).toInt = v98.toInt := congrArg Int32.toInt (((fu150 71 2 rfl).1).trans (((pI_ne (a := 71) (b := 2) (c := 71) (k := 48) _ _ (Or.inr (by decide)))).trans (((pI_ne (a := 71) (b := 2) (c := 71) (k := 47) _ _ (Or.inr (by decide)))).trans (((fu107 71 2 rfl).1).trans ((pI_self _ _ _ _))))))
                    have lk156 : ((u150).1 71 47).toInt = v115.toInt := congrArg Int32.toInt (((fu150 71 47 rfl).1).trans (((pI_ne (a := 71) (b := 47) (c := 71) (k := 48) _ _ (Or.inr (by decide)))).trans ((pI_self _ _ _ _))))
                    have lk157 : ((u150).1 71 2).toInt = v98.toInt := congrArg Int32.toInt (((fu150 71 2 rfl).1).trans (((pI_ne (a := 71) (b := 2) (c := 71) (k := 48) _ _ (Or.inr (by decide)))).trans (((pI_ne (a := 71) (b := 2) (c := 71) (k := 47) _ _ (Or.inr (by decide)))).trans (((fu107 71 2 rfl).1).trans ((pI_self _ _ _ _))))))
                    have lk158 : ((u150).1 71 55).toInt = (t.1 71 55).toInt := congrArg Int32.toInt (((fu150 71 55 rfl).1).trans (((pI_ne (a := 71) (b := 55) (c := 71) (k := 48) _ _ (Or.inr (by decide)))).trans (((pI_ne (a := 71) (b := 55) (c := 71) (k := 47) _ _ (Or.inr (by decide)))).trans (((fu107 71 55 rfl).1).trans (((pI_ne (a := 71) (b := 55) (c := 71) (k := 2) _ _ (Or.inr (by decide)))).trans ((fu4 71 55 rfl).1))))))
                    have lk159 : ((u150).1 71 2).toInt = v98.toInt := congrArg Int32.toInt (((fu150 71 2 rfl).1).trans (((pI_ne (a := 71) (b := 2) (c := 71) (k := 48) _ _ (Or.inr (by decide)))).trans (((pI_ne (a := 71) (b := 2) (c := 71) (k := 47) _ _ (Or.inr (by decide)))).trans (((fu107 71 2 rfl).1).trans ((pI_self _ _ _ _))))))
                    exact (ih (n - 1) (by omega)).1 (u150)   (by first | exact hq152 | exact oQ_pop pu107_0 (by omega) (by omega) (by omega) (by omega)) (by omega) (by omega) (by omega) (by omega) (by omega) (oqJ_fr fu150 rfl hq119) (oqZ_fr fu150 rfl (oqZ_fr (oFr_oneI (q := 12) (m := 48) rfl (by rfl)) rfl (oqZ_fr (oFr_oneI (q := 12) (m := 47) rfl (by rfl)) rfl (oqZ_fr fu107 rfl (oqZ_fr (oFr_oneI (q := 12) (m := 2) rfl (by rfl)) rfl (oqZ_fr fu4 rfl iv7)))))) (oqBP_fr fu150 rfl (oqBP_fr (oFr_oneI (q := 12) (m := 48) rfl (by rfl)) rfl (oqBP_fr (oFr_oneI (q := 12) (m := 47) rfl (by rfl)) rfl (oqBP_fr fu107 rfl (oqBP_fr (oFr_oneI (q := 12) (m := 2) rfl (by rfl)) rfl (oqBP_fr fu4 rfl iv8)))))) (by omega)
              · skip
                refine r_aload_n C (j := 0) (oDec_at oX12_goesOn 15 rfl) rfl rfl ?_
                refine r_callVi C oCl12 rfl miX12_mark mlX12_304 (ct_X12_mark l E (u4)  ) (by decide) rfl rfl rfl (Nat.le_of_ble_eq_true rfl) (oDec_at oX12_goesOn 16 rfl) (fun r161 u160 pu160 fu160 => ?_)
                try dsimp only at pu160
                have hxu160 := oFr_nil fu160; subst hxu160
                have rr161 := n_rng r161
                refine r_bipush C (oDec_at oX12_goesOn 17 rfl) (v := k24) (by rw [qk24]; rfl) ?_
                refine r_icmp_ne C 118 (oDec_at oX12_goesOn 18 rfl) (by decide) (fun cd162 => ?_) (fun cd162 => ?_)
                · skip
                  have lk163 : ((u4).1 71 5).toInt = v1.toInt := congrArg Int32.toInt (((fu4 71 5 rfl).1).trans (ev1))
                  have lk164 : ((u4).1 71 48).toInt = (t.1 71 48).toInt := congrArg Int32.toInt ((fu4 71 48 rfl).1)
                  have lk165 : ((u4).1 71 45).toInt = (t.1 71 45).toInt := congrArg Int32.toInt ((fu4 71 45 rfl).1)
                  have lk166 : ((u4).1 71 47).toInt = (t.1 71 47).toInt := congrArg Int32.toInt ((fu4 71 47 rfl).1)
                  have lk167 : ((u4).1 71 55).toInt = (t.1 71 55).toInt := congrArg Int32.toInt ((fu4 71 55 rfl).1)
                  exact (ih (n - 1) (by omega)).2.1 (u4)   (oQ_fr fu4 rfl iv0) (by omega) (by omega) (by omega) (by omega) (by omega) hq6 (oqZ_fr fu4 rfl iv7) (by omega) (by first | exact oqNc_41 (by omega) | exact oqNc_mk (oQ_fr fu4 rfl iv0) (by omega) pu13 pu88 pu160 (by omega) (by omega) (by omega) (by omega) (by omega) (by omega) | (exfalso; omega)) (oqBP_fr fu4 rfl iv8) (by omega)
                · skip
                  have lk168 : ((u4).1 71 4).toInt = (t.1 71 4).toInt := congrArg Int32.toInt ((fu4 71 4 rfl).1)
                  have lk169 : ((u4).1 71 5).toInt = v1.toInt := congrArg Int32.toInt (((fu4 71 5 rfl).1).trans (ev1))
                  have lk170 : ((u4).1 71 48).toInt = (t.1 71 48).toInt := congrArg Int32.toInt ((fu4 71 48 rfl).1)
                  have lk171 : ((u4).1 71 47).toInt = (t.1 71 47).toInt := congrArg Int32.toInt ((fu4 71 47 rfl).1)
                  have hq172 : oMk (r161.toInt) (u4) := pu160
                  refine r_aload_n C (j := 0) (oDec_at oX12_goesOn 19 rfl) rfl rfl ?_
                  refine r_dup C (oDec_at oX12_goesOn 20 rfl) rfl ?_
                  obtain ⟨v173, ev173⟩ : ∃ z : Int32, (u4).1 71 2 = z := ⟨_, rfl⟩
                  have gv173 : (u4.1 71 2).toInt = v173.toInt := congrArg Int32.toInt (ev173)
                  refine r_geti (k := 2) (lo := 0) (hi := 1600) C v173 oCl12 rfl (by decide) flX12_179 rfl rfl (ev173) rfl rfl (oDec_at oX12_goesOn 21 rfl) (fun b174 b174h => ?_)
                  refine r_iconst C (oDec_at oX12_goesOn 22 rfl) (v := k1) (by rw [qk1]; rfl) ?_
                  obtain ⟨v175, ev175⟩ : ∃ z : Int32, z = v173 + k1 := ⟨_, rfl⟩
                  have hv175 : v175.toInt = v173.toInt + k1.toInt := n_add ev175 (by omega) (by omega)
                  refine r_iadd C v175 (oDec_at oX12_goesOn 23 rfl) ev175 ?_
                  refine r_puti (k := 2) (lo := 0) (hi := 1600) C oCl12 rfl (by decide) flX12_179 rfl rfl rfl rfl rfl rfl rfl rfl ⟨by omega, by omega⟩ (oDec_at oX12_goesOn 24 rfl) ?_
                  refine r_pc C 53 rfl ?_
                  have hq176 : oqK b (oqSg ((u4).1 103) b (((u4).1 71 47).toNatClampNeg - b)) ((pI u4 71 2 v175)) := rfl
                  refine r_aload_n C (j := 0) (oDec_at oX12_goesOn 25 rfl) rfl rfl ?_
                  have lk177 : (((pI u4 71 2 v175)).1 71 55).toInt = (t.1 71 55).toInt := congrArg Int32.toInt (((pI_ne (a := 71) (b := 55) (c := 71) (k := 2) _ _ (Or.inr (by decide)))).trans ((fu4 71 55 rfl).1))
                  have lk178 : (((pI u4 71 2 v175)).1 71 5).toInt = v1.toInt := congrArg Int32.toInt (((pI_ne (a := 71) (b := 5) (c := 71) (k := 2) _ _ (Or.inr (by decide)))).trans (((fu4 71 5 rfl).1).trans (ev1)))
                  have lk179 : (((pI u4 71 2 v175)).1 71 45).toInt = (t.1 71 45).toInt := congrArg Int32.toInt (((pI_ne (a := 71) (b := 45) (c := 71) (k := 2) _ _ (Or.inr (by decide)))).trans ((fu4 71 45 rfl).1))
                  have lk180 : (((pI u4 71 2 v175)).1 71 47).toInt = (t.1 71 47).toInt := congrArg Int32.toInt (((pI_ne (a := 71) (b := 47) (c := 71) (k := 2) _ _ (Or.inr (by decide)))).trans ((fu4 71 47 rfl).1))
                  have lk181 : (((pI u4 71 2 v175)).1 71 45).toInt = (t.1 71 45).toInt := congrArg Int32.toInt (((pI_ne (a := 71) (b := 45) (c := 71) (k := 2) _ _ (Or.inr (by decide)))).trans ((fu4 71 45 rfl).1))
                  have lk182 : (((pI u4 71 2 v175)).1 71 47).toInt = (t.1 71 47).toInt := congrArg Int32.toInt (((pI_ne (a := 71) (b := 47) (c := 71) (k := 2) _ _ (Or.inr (by decide)))).trans ((fu4 71 47 rfl).1))
                  have lk183 : (((pI u4 71 2 v175)).1 71 47).toInt = (t.1 71 47).toInt := congrArg Int32.toInt (((pI_ne (a := 71) (b := 47) (c := 71) (k := 2) _ _ (Or.inr (by decide)))).trans ((fu4 71 47 rfl).1))
                  refine r_callVv C oCl12 rfl miX12_dropsToMark mlX12_307 (ct5_X12_dropsToMark l E ((pI u4 71 2 v175))  (b) (x + 1) (r161.toInt) (oqSg ((u4).1 103) b (((u4).1 71 47).toNatClampNeg - b)) (oQ_fr (oFr_oneI (q := 12) (m := 2) rfl (by rfl)) rfl (oQ_fr fu4 rfl iv0)) (oMk_fr (oFr_oneI (q := 12) (m := 2) rfl (by rfl)) rfl hq172) (by omega) (by omega) (by omega) (by omega) hq176) (by decide) rfl rfl rfl (Nat.le_of_ble_eq_true rfl) (oDec_at oX12_goesOn 26 rfl) (fun u184 pu184 fu184 => ?_)
                  try dsimp only at pu184
                  try simp only [lk177, lk178, lk179, lk180, lk181, lk182, lk183] at pu184
                  obtain ⟨pu184_0, pu184_1, pu184_2, pu184_3, pu184_4⟩ := pu184
                  have lk186 : ((u184).1 71 5).toInt = v1.toInt := congrArg Int32.toInt (((fu184 71 5 rfl).1).trans (((pI_ne (a := 71) (b := 5) (c := 71) (k := 2) _ _ (Or.inr (by decide)))).trans (((fu4 71 5 rfl).1).trans (ev1))))
                  have lk187 : ((u184).1 71 48).toInt = (t.1 71 48).toInt := congrArg Int32.toInt (((fu184 71 48 rfl).1).trans (((pI_ne (a := 71) (b := 48) (c := 71) (k := 2) _ _ (Or.inr (by decide)))).trans ((fu4 71 48 rfl).1)))
                  have lk188 : ((u184).1 71 2).toInt = v175.toInt := congrArg Int32.toInt (((fu184 71 2 rfl).1).trans ((pI_self _ _ _ _)))
                  have lk189 : ((u184).1 71 4).toInt = (t.1 71 4).toInt := congrArg Int32.toInt (((fu184 71 4 rfl).1).trans (((pI_ne (a := 71) (b := 4) (c := 71) (k := 2) _ _ (Or.inr (by decide)))).trans ((fu4 71 4 rfl).1)))
                  have htp := pu184_3 (by omega)
                  have ho1 := oQ_opn1 pu184_0 (by omega) (by omega) (by omega)
                  refine r_aload_n C (j := 0) (oDec_at oX12_goesOn 27 rfl) rfl rfl ?_
                  refine r_dup C (oDec_at oX12_goesOn 28 rfl) rfl ?_
                  obtain ⟨v190, ev190⟩ : ∃ z : Int32, (u184).1 71 47 = z := ⟨_, rfl⟩
                  have gv190 : (u184.1 71 47).toInt = v190.toInt := congrArg Int32.toInt (ev190)
                  refine r_geti (k := 47) (lo := 0) (hi := 1700) C v190 oCl12 rfl (by decide) flX12_277 rfl rfl (ev190) rfl rfl (oDec_at oX12_goesOn 29 rfl) (fun b191 b191h => ?_)
                  refine r_iconst C (oDec_at oX12_goesOn 30 rfl) (v := k1) (by rw [qk1]; rfl) ?_
                  refine r_pc C 63 rfl ?_
                  obtain ⟨v192, ev192⟩ : ∃ z : Int32, z = v190 - k1 := ⟨_, rfl⟩
                  have hv192 : v192.toInt = v190.toInt - k1.toInt := n_sub ev192 (by omega) (by omega)
                  refine r_isub C v192 (oDec_at oX12_goesOn 31 rfl) ev192 ?_
                  refine r_puti (k := 47) (lo := 0) (hi := 1700) C oCl12 rfl (by decide) flX12_277 rfl rfl rfl rfl rfl rfl rfl rfl ⟨by omega, by omega⟩ (oDec_at oX12_goesOn 32 rfl) ?_
                  refine r_aload_n C (j := 0) (oDec_at oX12_goesOn 33 rfl) rfl rfl ?_
                  refine r_dup C (oDec_at oX12_goesOn 34 rfl) rfl ?_
                  obtain ⟨v193, ev193⟩ : ∃ z : Int32, ((pI u184 71 47 v192)).1 71 48 = z := ⟨_, rfl⟩
                  have gv193 : (t.1 71 48).toInt = v193.toInt := congrArg Int32.toInt ((((pI_ne (a := 71) (b := 48) (c := 71) (k := 47) _ _ (Or.inr (by decide)))).trans (((fu184 71 48 rfl).1).trans (((pI_ne (a := 71) (b := 48) (c := 71) (k := 2) _ _ (Or.inr (by decide)))).trans ((fu4 71 48 rfl).1)))).symm.trans ev193)
                  have ggv193 : (((pI u184 71 47 v192)).1 71 48).toInt = v193.toInt := congrArg Int32.toInt ev193
                  refine r_geti (k := 48) (lo := (-1)) (hi := 7) C v193 oCl12 rfl (by decide) flX12_274 rfl rfl (ev193) rfl rfl (oDec_at oX12_goesOn 35 rfl) (fun b194 b194h => ?_)
                  refine r_iconst C (oDec_at oX12_goesOn 36 rfl) (v := k1) (by rw [qk1]; rfl) ?_
                  refine r_pc C 73 rfl ?_
                  obtain ⟨v195, ev195⟩ : ∃ z : Int32, z = v193 - k1 := ⟨_, rfl⟩
                  have hv195 : v195.toInt = v193.toInt - k1.toInt := n_sub ev195 (by omega) (by omega)
                  refine r_isub C v195 (oDec_at oX12_goesOn 37 rfl) ev195 ?_
                  refine r_puti (k := 48) (lo := (-1)) (hi := 7) C oCl12 rfl (by decide) flX12_274 rfl rfl rfl rfl rfl rfl rfl rfl ⟨by omega, by omega⟩ (oDec_at oX12_goesOn 38 rfl) ?_
                  have hq196 : oqJ g fp fq cz kx b 3 ((pI (pI u184 71 47 v192) 71 48 v195)) := oqJ_cl (s := u4) hq6 (by omega) hsk (by omega) ((oFr_row fu184 (c := 103) rfl rfl).trans rfl) (by omega) (by omega) (by omega) (by omega) pu184_4 (by omega) (by omega) (by omega) (by omega)
                  refine r_aload_n C (j := 0) (oDec_at oX12_goesOn 39 rfl) rfl rfl ?_
                  refine r_getF (k := 46) (b := 103) C oCl12 rfl (by decide) flX12_111 rfl rfl rfl (oDec_at oX12_goesOn 40 rfl) ?_
                  refine r_aload_n C (j := 0) (oDec_at oX12_goesOn 41 rfl) rfl rfl ?_
                  refine r_geti (k := 47) (lo := 0) (hi := 1700) C v192 oCl12 rfl (by decide) flX12_277 rfl rfl (((pI_ne (a := 71) (b := 47) (c := 71) (k := 48) _ _ (Or.inr (by decide)))).trans ((pI_self _ _ _ _))) rfl rfl (oDec_at oX12_goesOn 42 rfl) (fun _ _ => ?_)
                  refine r_pc C 85 rfl ?_
                  obtain ⟨v198, ev198⟩ : ∃ z : Int32, ((pI (pI u184 71 47 v192) 71 48 v195)).1 103 v192.toNatClampNeg = z := ⟨_, rfl⟩
                  have av198 : t.1 103 v192.toNatClampNeg = v198 := (((pI_ne (a := 103) (b := v192.toNatClampNeg) (c := 71) _ _ (Or.inl (by decide)))).trans (((pI_ne (a := 103) (b := v192.toNatClampNeg) (c := 71) _ _ (Or.inl (by decide)))).trans (((fu184 103 v192.toNatClampNeg rfl).1).trans (((pI_ne (a := 103) (b := v192.toNatClampNeg) (c := 71) _ _ (Or.inl (by decide)))).trans ((fu4 103 v192.toNatClampNeg rfl).1))))).symm.trans ev198
                  have gv198 : (t.1 103 v192.toNatClampNeg).toInt = v198.toInt := congrArg Int32.toInt ((((pI_ne (a := 103) (b := v192.toNatClampNeg) (c := 71) _ _ (Or.inl (by decide)))).trans (((pI_ne (a := 103) (b := v192.toNatClampNeg) (c := 71) _ _ (Or.inl (by decide)))).trans (((fu184 103 v192.toNatClampNeg rfl).1).trans (((pI_ne (a := 103) (b := v192.toNatClampNeg) (c := 71) _ _ (Or.inl (by decide)))).trans ((fu4 103 v192.toNatClampNeg rfl).1))))).symm.trans ev198)
                  have rv198 := n_rng v198
                  refine r_iald (n := 1700) (lo := (-2147483648)) (hi := 2147483647) C v198 rfl (by decide) rfl rfl ⟨by omega, by omega⟩ (by decide) ev198 rfl rfl (oDec_at oX12_goesOn 43 rfl) (fun _ _ => ?_)
                  have hv0 := oTop_of (s := u184) (i := v192) ev198 (by omega)
                  refine r_bipush C (oDec_at oX12_goesOn 44 rfl) (v := k20) (by rw [qk20]; rfl) ?_
                  refine r_icmp_eq C 0 (oDec_at oX12_goesOn 45 rfl) (by decide) (fun cd199 => ?_) (fun cd199 => ?_)
                  · skip
                    have lk200 : (((pI (pI u184 71 47 v192) 71 48 v195)).1 71 5).toInt = v1.toInt := congrArg Int32.toInt (((pI_ne (a := 71) (b := 5) (c := 71) (k := 48) _ _ (Or.inr (by decide)))).trans (((pI_ne (a := 71) (b := 5) (c := 71) (k := 47) _ _ (Or.inr (by decide)))).trans (((fu184 71 5 rfl).1).trans (((pI_ne (a := 71) (b := 5) (c := 71) (k := 2) _ _ (Or.inr (by decide)))).trans (((fu4 71 5 rfl).1).trans (ev1))))))
                    have lk201 : (((pI (pI u184 71 47 v192) 71 48 v195)).1 71 48).toInt = v195.toInt := congrArg Int32.toInt ((pI_self _ _ _ _))
                    have lk202 : (((pI (pI u184 71 47 v192) 71 48 v195)).1 71 2).toInt = v175.toInt := congrArg Int32.toInt (((pI_ne (a := 71) (b := 2) (c := 71) (k := 48) _ _ (Or.inr (by decide)))).trans (((pI_ne (a := 71) (b := 2) (c := 71) (k := 47) _ _ (Or.inr (by decide)))).trans (((fu184 71 2 rfl).1).trans ((pI_self _ _ _ _)))))
                    have lk203 : (((pI (pI u184 71 47 v192) 71 48 v195)).1 71 45).toInt = (u184.1 71 45).toInt := congrArg Int32.toInt (((pI_ne (a := 71) (b := 45) (c := 71) (k := 48) _ _ (Or.inr (by decide)))).trans ((pI_ne (a := 71) (b := 45) (c := 71) (k := 47) _ _ (Or.inr (by decide)))))
                    have lk204 : (((pI (pI u184 71 47 v192) 71 48 v195)).1 71 47).toInt = v192.toInt := congrArg Int32.toInt (((pI_ne (a := 71) (b := 47) (c := 71) (k := 48) _ _ (Or.inr (by decide)))).trans ((pI_self _ _ _ _)))
                    have lk205 : (((pI (pI u184 71 47 v192) 71 48 v195)).1 71 2).toInt = v175.toInt := congrArg Int32.toInt (((pI_ne (a := 71) (b := 2) (c := 71) (k := 48) _ _ (Or.inr (by decide)))).trans (((pI_ne (a := 71) (b := 2) (c := 71) (k := 47) _ _ (Or.inr (by decide)))).trans (((fu184 71 2 rfl).1).trans ((pI_self _ _ _ _)))))
                    have lk206 : (((pI (pI u184 71 47 v192) 71 48 v195)).1 71 55).toInt = (t.1 71 55).toInt := congrArg Int32.toInt (((pI_ne (a := 71) (b := 55) (c := 71) (k := 48) _ _ (Or.inr (by decide)))).trans (((pI_ne (a := 71) (b := 55) (c := 71) (k := 47) _ _ (Or.inr (by decide)))).trans (((fu184 71 55 rfl).1).trans (((pI_ne (a := 71) (b := 55) (c := 71) (k := 2) _ _ (Or.inr (by decide)))).trans ((fu4 71 55 rfl).1)))))
                    have lk207 : (((pI (pI u184 71 47 v192) 71 48 v195)).1 71 2).toInt = v175.toInt := congrArg Int32.toInt (((pI_ne (a := 71) (b := 2) (c := 71) (k := 48) _ _ (Or.inr (by decide)))).trans (((pI_ne (a := 71) (b := 2) (c := 71) (k := 47) _ _ (Or.inr (by decide)))).trans (((fu184 71 2 rfl).1).trans ((pI_self _ _ _ _)))))
                    exact (ih (n - 1) (by omega)).1 ((pI (pI u184 71 47 v192) 71 48 v195))   (by first | exact (by assumption) | exact oQ_pop pu184_0 (by omega) (by omega) (by omega) (by omega)) (by omega) (by omega) (by omega) (by omega) (by omega) hq196 (oqZ_fr (oFr_oneI (q := 12) (m := 48) rfl (by rfl)) rfl (oqZ_fr (oFr_oneI (q := 12) (m := 47) rfl (by rfl)) rfl (oqZ_fr fu184 rfl (oqZ_fr (oFr_oneI (q := 12) (m := 2) rfl (by rfl)) rfl (oqZ_fr fu4 rfl iv7))))) (oqBP_fr (oFr_oneI (q := 12) (m := 48) rfl (by rfl)) rfl (oqBP_fr (oFr_oneI (q := 12) (m := 47) rfl (by rfl)) rfl (oqBP_fr fu184 rfl (oqBP_fr (oFr_oneI (q := 12) (m := 2) rfl (by rfl)) rfl (oqBP_fr fu4 rfl iv8))))) (by omega)
                  · skip
                    have hq208 : oQ b (x + 1 + 1) ((pI (pI u184 71 47 v192) 71 48 v195)) := oQ_popN pu184_0 (by omega) (by omega) (by omega) (by omega)
                    refine r_aload_n C (j := 0) (oDec_at oX12_goesOn 46 rfl) rfl rfl ?_
                    refine r_aload_n C (j := 0) (oDec_at oX12_goesOn 47 rfl) rfl rfl ?_
                    refine r_getF (k := 46) (b := 103) C oCl12 rfl (by decide) flX12_111 rfl rfl rfl (oDec_at oX12_goesOn 48 rfl) ?_
                    refine r_aload_n C (j := 0) (oDec_at oX12_goesOn 49 rfl) rfl rfl ?_
                    refine r_geti (k := 47) (lo := 0) (hi := 1700) C v192 oCl12 rfl (by decide) flX12_277 rfl rfl (((pI_ne (a := 71) (b := 47) (c := 71) (k := 48) _ _ (Or.inr (by decide)))).trans ((pI_self _ _ _ _))) rfl rfl (oDec_at oX12_goesOn 50 rfl) (fun _ _ => ?_)
                    refine r_iald (n := 1700) (lo := (-2147483648)) (hi := 2147483647) C v198 rfl (by decide) rfl rfl ⟨by omega, by omega⟩ (by decide) (ev198) rfl rfl (oDec_at oX12_goesOn 51 rfl) (fun _ _ => ?_)
                    refine r_pc C 101 rfl ?_
                    refine r_bipush C (oDec_at oX12_goesOn 52 rfl) (v := k23) (by rw [qk23]; rfl) ?_
                    refine r_icmp_ne C 110 (oDec_at oX12_goesOn 53 rfl) (by decide) (fun cd210 => ?_) (fun cd210 => ?_)
                    · skip
                      refine r_bipush C (oDec_at oX12_goesOn 56 rfl) (v := k6) (by rw [qk6]; rfl) ?_
                      have lk211 : (((pI (pI u184 71 47 v192) 71 48 v195)).1 71 45).toInt = (u184.1 71 45).toInt := congrArg Int32.toInt (((pI_ne (a := 71) (b := 45) (c := 71) (k := 48) _ _ (Or.inr (by decide)))).trans ((pI_ne (a := 71) (b := 45) (c := 71) (k := 47) _ _ (Or.inr (by decide)))))
                      have lk212 : (((pI (pI u184 71 47 v192) 71 48 v195)).1 71 45).toInt = (u184.1 71 45).toInt := congrArg Int32.toInt (((pI_ne (a := 71) (b := 45) (c := 71) (k := 48) _ _ (Or.inr (by decide)))).trans ((pI_ne (a := 71) (b := 45) (c := 71) (k := 47) _ _ (Or.inr (by decide)))))
                      have lk213 : (((pI (pI u184 71 47 v192) 71 48 v195)).1 71 45).toInt = (u184.1 71 45).toInt := congrArg Int32.toInt (((pI_ne (a := 71) (b := 45) (c := 71) (k := 48) _ _ (Or.inr (by decide)))).trans ((pI_ne (a := 71) (b := 45) (c := 71) (k := 47) _ _ (Or.inr (by decide)))))
                      refine r_callVv C oCl12 rfl miX12_lay mlX12_280 (ct_X12_lay l E ((pI (pI u184 71 47 v192) 71 48 v195)) k6 (by omega)) (by decide) rfl rfl rfl (Nat.le_of_ble_eq_true rfl) (oDec_at oX12_goesOn 57 rfl) (fun u214 pu214 fu214 => ?_)
                      try dsimp only at pu214
                      try simp only [lk212, lk213] at pu214
                      obtain ⟨pu214_0, pu214_1⟩ := pu214
                      have hq216 : oQ b (x + 1) (u214) := oQ_jn hq208 pu214_0 (by omega) (by omega) (by omega)
                      refine r_goto C (tgt := 0) (oDec_at oX12_goesOn 58 rfl) (by decide) ?_
                      have lk217 : ((u214).1 71 5).toInt = v1.toInt := congrArg Int32.toInt (((fu214 71 5 rfl).1).trans (((pI_ne (a := 71) (b := 5) (c := 71) (k := 48) _ _ (Or.inr (by decide)))).trans (((pI_ne (a := 71) (b := 5) (c := 71) (k := 47) _ _ (Or.inr (by decide)))).trans (((fu184 71 5 rfl).1).trans (((pI_ne (a := 71) (b := 5) (c := 71) (k := 2) _ _ (Or.inr (by decide)))).trans (((fu4 71 5 rfl).1).trans (ev1)))))))
                      have lk218 : ((u214).1 71 48).toInt = v195.toInt := congrArg Int32.toInt (((fu214 71 48 rfl).1).trans ((pI_self _ _ _ _)))
                      have lk219 : ((u214).1 71 2).toInt = v175.toInt := congrArg Int32.toInt (((fu214 71 2 rfl).1).trans (((pI_ne (a := 71) (b := 2) (c := 71) (k := 48) _ _ (Or.inr (by decide)))).trans (((pI_ne (a := 71) (b := 2) (c := 71) (k := 47) _ _ (Or.inr (by decide)))).trans (((fu184 71 2 rfl).1).trans ((pI_self _ _ _ _))))))
                      have lk220 : ((u214).1 71 47).toInt = v192.toInt := congrArg Int32.toInt (((fu214 71 47 rfl).1).trans (((pI_ne (a := 71) (b := 47) (c := 71) (k := 48) _ _ (Or.inr (by decide)))).trans ((pI_self _ _ _ _))))
                      have lk221 : ((u214).1 71 2).toInt = v175.toInt := congrArg Int32.toInt (((fu214 71 2 rfl).1).trans (((pI_ne (a := 71) (b := 2) (c := 71) (k := 48) _ _ (Or.inr (by decide)))).trans (((pI_ne (a := 71) (b := 2) (c := 71) (k := 47) _ _ (Or.inr (by decide)))).trans (((fu184 71 2 rfl).1).trans ((pI_self _ _ _ _))))))
                      have lk222 : ((u214).1 71 55).toInt = (t.1 71 55).toInt := congrArg Int32.toInt (((fu214 71 55 rfl).1).trans (((pI_ne (a := 71) (b := 55) (c := 71) (k := 48) _ _ (Or.inr (by decide)))).trans (((pI_ne (a := 71) (b := 55) (c := 71) (k := 47) _ _ (Or.inr (by decide)))).trans (((fu184 71 55 rfl).1).trans (((pI_ne (a := 71) (b := 55) (c := 71) (k := 2) _ _ (Or.inr (by decide)))).trans ((fu4 71 55 rfl).1))))))
                      have lk223 : ((u214).1 71 2).toInt = v175.toInt := congrArg Int32.toInt (((fu214 71 2 rfl).1).trans (((pI_ne (a := 71) (b := 2) (c := 71) (k := 48) _ _ (Or.inr (by decide)))).trans (((pI_ne (a := 71) (b := 2) (c := 71) (k := 47) _ _ (Or.inr (by decide)))).trans (((fu184 71 2 rfl).1).trans ((pI_self _ _ _ _))))))
                      exact (ih (n - 1) (by omega)).1 (u214)   (by first | exact hq216 | exact oQ_pop pu184_0 (by omega) (by omega) (by omega) (by omega)) (by omega) (by omega) (by omega) (by omega) (by omega) (oqJ_fr fu214 rfl hq196) (oqZ_fr fu214 rfl (oqZ_fr (oFr_oneI (q := 12) (m := 48) rfl (by rfl)) rfl (oqZ_fr (oFr_oneI (q := 12) (m := 47) rfl (by rfl)) rfl (oqZ_fr fu184 rfl (oqZ_fr (oFr_oneI (q := 12) (m := 2) rfl (by rfl)) rfl (oqZ_fr fu4 rfl iv7)))))) (oqBP_fr fu214 rfl (oqBP_fr (oFr_oneI (q := 12) (m := 48) rfl (by rfl)) rfl (oqBP_fr (oFr_oneI (q := 12) (m := 47) rfl (by rfl)) rfl (oqBP_fr fu184 rfl (oqBP_fr (oFr_oneI (q := 12) (m := 2) rfl (by rfl)) rfl (oqBP_fr fu4 rfl iv8)))))) (by omega)
                    · skip
                      refine r_iconst C (oDec_at oX12_goesOn 54 rfl) (v := k5) (by rw [qk5]; rfl) ?_
                      refine r_goto C (tgt := 112) (oDec_at oX12_goesOn 55 rfl) (by decide) ?_
                      have lk224 : (((pI (pI u184 71 47 v192) 71 48 v195)).1 71 45).toInt = (u184.1 71 45).toInt := congrArg Int32.toInt (((pI_ne (a := 71) (b := 45) (c := 71) (k := 48) _ _ (Or.inr (by decide)))).trans ((pI_ne (a := 71) (b := 45) (c := 71) (k := 47) _ _ (Or.inr (by decide)))))
                      have lk225 : (((pI (pI u184 71 47 v192) 71 48 v195)).1 71 45).toInt = (u184.1 71 45).toInt := congrArg Int32.toInt (((pI_ne (a := 71) (b := 45) (c := 71) (k := 48) _ _ (Or.inr (by decide)))).trans ((pI_ne (a := 71) (b := 45) (c := 71) (k := 47) _ _ (Or.inr (by decide)))))
                      have lk226 : (((pI (pI u184 71 47 v192) 71 48 v195)).1 71 45).toInt = (u184.1 71 45).toInt := congrArg Int32.toInt (((pI_ne (a := 71) (b := 45) (c := 71) (k := 48) _ _ (Or.inr (by decide)))).trans ((pI_ne (a := 71) (b := 45) (c := 71) (k := 47) _ _ (Or.inr (by decide)))))
                      refine r_callVv C oCl12 rfl miX12_lay mlX12_280 (ct_X12_lay l E ((pI (pI u184 71 47 v192) 71 48 v195)) k5 (by omega)) (by decide) rfl rfl rfl (Nat.le_of_ble_eq_true rfl) (oDec_at oX12_goesOn 57 rfl) (fun u227 pu227 fu227 => ?_)
                      try dsimp only at pu227
                      try simp only [lk225, lk226] at pu227
                      obtain ⟨pu227_0, pu227_1⟩ := pu227
                      have hq229 : oQ b (x + 1) (u227) := oQ_jn hq208 pu227_0 (by omega) (by omega) (by omega)
                      refine r_goto C (tgt := 0) (oDec_at oX12_goesOn 58 rfl) (by decide) ?_
                      have lk230 : ((u227).1 71 5).toInt = v1.toInt := congrArg Int32.toInt (((fu227 71 5 rfl).1).trans (((pI_ne (a := 71) (b := 5) (c := 71) (k := 48) _ _ (Or.inr (by decide)))).trans (((pI_ne (a := 71) (b := 5) (c := 71) (k := 47) _ _ (Or.inr (by decide)))).trans (((fu184 71 5 rfl).1).trans (((pI_ne (a := 71) (b := 5) (c := 71) (k := 2) _ _ (Or.inr (by decide)))).trans (((fu4 71 5 rfl).1).trans (ev1)))))))
                      have lk231 : ((u227).1 71 48).toInt = v195.toInt := congrArg Int32.toInt (((fu227 71 48 rfl).1).trans ((pI_self _ _ _ _)))
                      have lk232 : ((u227).1 71 2).toInt = v175.toInt := congrArg Int32.toInt (((fu227 71 2 rfl).1).trans (((pI_ne (a := 71) (b := 2) (c := 71) (k := 48) _ _ (Or.inr (by decide)))).trans (((pI_ne (a := 71) (b := 2) (c := 71) (k := 47) _ _ (Or.inr (by decide)))).trans (((fu184 71 2 rfl).1).trans ((pI_self _ _ _ _))))))
                      have lk233 : ((u227).1 71 47).toInt = v192.toInt := congrArg Int32.toInt (((fu227 71 47 rfl).1).trans (((pI_ne (a := 71) (b := 47) (c := 71) (k := 48) _ _ (Or.inr (by decide)))).trans ((pI_self _ _ _ _))))
                      have lk234 : ((u227).1 71 2).toInt = v175.toInt := congrArg Int32.toInt (((fu227 71 2 rfl).1).trans (((pI_ne (a := 71) (b := 2) (c := 71) (k := 48) _ _ (Or.inr (by decide)))).trans (((pI_ne (a := 71) (b := 2) (c := 71) (k := 47) _ _ (Or.inr (by decide)))).trans (((fu184 71 2 rfl).1).trans ((pI_self _ _ _ _))))))
                      have lk235 : ((u227).1 71 55).toInt = (t.1 71 55).toInt := congrArg Int32.toInt (((fu227 71 55 rfl).1).trans (((pI_ne (a := 71) (b := 55) (c := 71) (k := 48) _ _ (Or.inr (by decide)))).trans (((pI_ne (a := 71) (b := 55) (c := 71) (k := 47) _ _ (Or.inr (by decide)))).trans (((fu184 71 55 rfl).1).trans (((pI_ne (a := 71) (b := 55) (c := 71) (k := 2) _ _ (Or.inr (by decide)))).trans ((fu4 71 55 rfl).1))))))
                      have lk236 : ((u227).1 71 2).toInt = v175.toInt := congrArg Int32.toInt (((fu227 71 2 rfl).1).trans (((pI_ne (a := 71) (b := 2) (c := 71) (k := 48) _ _ (Or.inr (by decide)))).trans (((pI_ne (a := 71) (b := 2) (c := 71) (k := 47) _ _ (Or.inr (by decide)))).trans (((fu184 71 2 rfl).1).trans ((pI_self _ _ _ _))))))
                      exact (ih (n - 1) (by omega)).1 (u227)   (by first | exact hq229 | exact oQ_pop pu184_0 (by omega) (by omega) (by omega) (by omega)) (by omega) (by omega) (by omega) (by omega) (by omega) (oqJ_fr fu227 rfl hq196) (oqZ_fr fu227 rfl (oqZ_fr (oFr_oneI (q := 12) (m := 48) rfl (by rfl)) rfl (oqZ_fr (oFr_oneI (q := 12) (m := 47) rfl (by rfl)) rfl (oqZ_fr fu184 rfl (oqZ_fr (oFr_oneI (q := 12) (m := 2) rfl (by rfl)) rfl (oqZ_fr fu4 rfl iv7)))))) (oqBP_fr fu227 rfl (oqBP_fr (oFr_oneI (q := 12) (m := 48) rfl (by rfl)) rfl (oqBP_fr (oFr_oneI (q := 12) (m := 47) rfl (by rfl)) rfl (oqBP_fr fu184 rfl (oqBP_fr (oFr_oneI (q := 12) (m := 2) rfl (by rfl)) rfl (oqBP_fr fu4 rfl iv8)))))) (by omega)
      · intro t   iv0 iv1 iv2 iv3 iv4 iv5 iv6 iv7 iv8 iv9 iv10 hmu
        refine r_ty C (fun hty => ?_)
        have hty_coded : (0 : Int) ≤ ((t).1 71 45).toInt ∧ ((t).1 71 45).toInt ≤ 1600 := hty.1 71 45
        have hty_waits : (0 : Int) ≤ ((t).1 71 47).toInt ∧ ((t).1 71 47).toInt ≤ 1700 := hty.1 71 47
        have hty_at : (0 : Int) ≤ ((t).1 71 2).toInt ∧ ((t).1 71 2).toInt ≤ 1600 := hty.1 71 2
        clear hty
        obtain ⟨hk, hhk⟩ : ∃ z : Int, oqHs b t = z := ⟨_, rfl⟩
        have hg5 : g (oqSk g (t.1 71 2).toInt) = g (t.1 71 2).toInt := by rw [show oqSk g (t.1 71 2).toInt = (t.1 71 2).toInt by omega]
        have hq237 : oqHq b hk (t) := hhk
        refine r_aload_n C (j := 0) (oDec_at oX12_goesOn 59 rfl) rfl rfl ?_
        refine r_bipush C (oDec_at oX12_goesOn 60 rfl) (v := k42) (by rw [qk42]; rfl) ?_
        refine r_callVi C oCl12 rfl miX12_takesSign mlX12_207 (ct6_X12_takesSign l E (t) k42 (g) ((t.1 71 2).toInt) (42) (by omega) iv7 (by omega) (by omega)) (by decide) rfl rfl rfl (Nat.le_of_ble_eq_true rfl) (oDec_at oX12_goesOn 61 rfl) (fun r239 u238 pu238 fu238 => ?_)
        try dsimp only at pu238
        obtain ⟨pu238_0, pu238_1, pu238_2, pu238_3, pu238_4⟩ := pu238
        have rr239 := n_rng r239
        refine r_if_ne C 136 (oDec_at oX12_goesOn 62 rfl) (by decide) (fun cd240 => ?_) (fun cd240 => ?_)
        · skip
          replace pu238_1 := pu238_1 (by omega)
          clear pu238_2
          have lk241 : ((u238).1 71 4).toInt = (t.1 71 4).toInt := congrArg Int32.toInt ((fu238 71 4 rfl).1)
          have lk242 : ((u238).1 71 5).toInt = (t.1 71 5).toInt := congrArg Int32.toInt ((fu238 71 5 rfl).1)
          have lk243 : ((u238).1 71 48).toInt = (t.1 71 48).toInt := congrArg Int32.toInt ((fu238 71 48 rfl).1)
          have lk244 : ((u238).1 71 47).toInt = (t.1 71 47).toInt := congrArg Int32.toInt ((fu238 71 47 rfl).1)
          clear pu238_3
          have hq245 : oqJ g fp fq cz kx b 1 (u238) := oqJ_go iv6 (by omega) (by omega) (oFr_row fu238 (c := 103) rfl rfl) (congrArg Int32.toInt (fu238 71 47 rfl).1) (oqs_op (g := g) (p := fp) (q := fq) (a := (t.1 71 2).toInt) (b := (t.1 71 4).toInt) (o := (t.1 71 48).toInt) (by unfold oqOp; omega)) (by rw [show ((t).1 71 2).toInt = (t.1 71 2).toInt by omega]; omega) (by first | omega | (congr 1; omega)) (by first | omega | (congr 1; omega)) (by first | omega | (congr 1; omega)) (by first | omega | (congr 1; omega)) (by first | omega | (congr 1; omega))
          refine r_aload_n C (j := 0) (oDec_at oX12_goesOn 67 rfl) rfl rfl ?_
          refine r_getF (k := 0) (b := 72) C oCl12 rfl (by decide) flX12_7 rfl rfl rfl (oDec_at oX12_goesOn 68 rfl) ?_
          refine r_aload_n C (j := 0) (oDec_at oX12_goesOn 69 rfl) rfl rfl ?_
          obtain ⟨v246, ev246⟩ : ∃ z : Int32, (u238).1 71 2 = z := ⟨_, rfl⟩
          have gv246 : (u238.1 71 2).toInt = v246.toInt := congrArg Int32.toInt (ev246)
          refine r_geti (k := 2) (lo := 0) (hi := 1600) C v246 oCl12 rfl (by decide) flX12_179 rfl rfl (ev246) rfl rfl (oDec_at oX12_goesOn 70 rfl) (fun b247 b247h => ?_)
          refine r_iconst C (oDec_at oX12_goesOn 71 rfl) (v := k1) (by rw [qk1]; rfl) ?_
          obtain ⟨v248, ev248⟩ : ∃ z : Int32, z = v246 - k1 := ⟨_, rfl⟩
          have hv248 : v248.toInt = v246.toInt - k1.toInt := n_sub ev248 (by omega) (by omega)
          refine r_isub C v248 (oDec_at oX12_goesOn 72 rfl) ev248 ?_
          refine r_pc C 146 rfl ?_
          obtain ⟨v250, ev250⟩ : ∃ z : Int32, (u238).1 72 v248.toNatClampNeg = z := ⟨_, rfl⟩
          have av250 : t.1 72 v248.toNatClampNeg = v250 := ((fu238 72 v248.toNatClampNeg rfl).1).symm.trans ev250
          have gv250 : (t.1 72 v248.toNatClampNeg).toInt = v250.toInt := congrArg Int32.toInt (((fu238 72 v248.toNatClampNeg rfl).1).symm.trans ev250)
          refine r_iald (n := 1600) (lo := 0) (hi := 255) C v250 rfl (by decide) rfl rfl ⟨by omega, by omega⟩ (by decide) ev250 rfl rfl (oDec_at oX12_goesOn 73 rfl) (fun b249 b249h => ?_)
          refine r_bipush C (oDec_at oX12_goesOn 74 rfl) (v := k42) (by rw [qk42]; rfl) ?_
          refine r_icmp_ne C 156 (oDec_at oX12_goesOn 75 rfl) (by decide) (fun cd251 => ?_) (fun cd251 => ?_)
          · skip
            refine r_iconst C (oDec_at oX12_goesOn 78 rfl) (v := k4) (by rw [qk4]; rfl) ?_
            refine r_istore_n C (lv' := [(0, .ref (oad E 71)), (1, .int k4)]) [1, 0] (oDec_at oX12_goesOn 79 rfl) rfl (by decide) rfl ?_
            have lk252 : ((u238).1 71 5).toInt = (t.1 71 5).toInt := congrArg Int32.toInt ((fu238 71 5 rfl).1)
            have lk253 : ((u238).1 71 48).toInt = (t.1 71 48).toInt := congrArg Int32.toInt ((fu238 71 48 rfl).1)
            have lk254 : ((u238).1 71 2).toInt = v246.toInt := congrArg Int32.toInt (ev246)
            have lk255 : ((u238).1 71 45).toInt = (t.1 71 45).toInt := congrArg Int32.toInt ((fu238 71 45 rfl).1)
            have lk256 : ((u238).1 71 47).toInt = (t.1 71 47).toInt := congrArg Int32.toInt ((fu238 71 47 rfl).1)
            have lk257 : ((u238).1 71 2).toInt = v246.toInt := congrArg Int32.toInt (ev246)
            have lk258 : ((u238).1 71 47).toInt = (t.1 71 47).toInt := congrArg Int32.toInt ((fu238 71 47 rfl).1)
            exact (ih (n - 1) (by omega)).2.2.1 (u238) k4  (oQ_fr fu238 rfl iv0) (by omega) (by omega) (by omega) (by omega) (by omega) hq245 (oqBP_fr fu238 rfl iv10) (by omega)
          · skip
            refine r_iconst C (oDec_at oX12_goesOn 76 rfl) (v := k3) (by rw [qk3]; rfl) ?_
            refine r_goto C (tgt := 157) (oDec_at oX12_goesOn 77 rfl) (by decide) ?_
            refine r_istore_n C (lv' := [(0, .ref (oad E 71)), (1, .int k3)]) [1, 0] (oDec_at oX12_goesOn 79 rfl) rfl (by decide) rfl ?_
            have lk259 : ((u238).1 71 5).toInt = (t.1 71 5).toInt := congrArg Int32.toInt ((fu238 71 5 rfl).1)
            have lk260 : ((u238).1 71 48).toInt = (t.1 71 48).toInt := congrArg Int32.toInt ((fu238 71 48 rfl).1)
            have lk261 : ((u238).1 71 2).toInt = v246.toInt := congrArg Int32.toInt (ev246)
            have lk262 : ((u238).1 71 45).toInt = (t.1 71 45).toInt := congrArg Int32.toInt ((fu238 71 45 rfl).1)
            have lk263 : ((u238).1 71 47).toInt = (t.1 71 47).toInt := congrArg Int32.toInt ((fu238 71 47 rfl).1)
            have lk264 : ((u238).1 71 2).toInt = v246.toInt := congrArg Int32.toInt (ev246)
            have lk265 : ((u238).1 71 47).toInt = (t.1 71 47).toInt := congrArg Int32.toInt ((fu238 71 47 rfl).1)
            exact (ih (n - 1) (by omega)).2.2.1 (u238) k3  (oQ_fr fu238 rfl iv0) (by omega) (by omega) (by omega) (by omega) (by omega) hq245 (oqBP_fr fu238 rfl iv10) (by omega)
        · skip
          clear pu238_1
          replace pu238_2 := pu238_2 (by omega)
          have lk266 : ((u238).1 71 4).toInt = (t.1 71 4).toInt := congrArg Int32.toInt ((fu238 71 4 rfl).1)
          have lk267 : ((u238).1 71 5).toInt = (t.1 71 5).toInt := congrArg Int32.toInt ((fu238 71 5 rfl).1)
          have lk268 : ((u238).1 71 48).toInt = (t.1 71 48).toInt := congrArg Int32.toInt ((fu238 71 48 rfl).1)
          have lk269 : ((u238).1 71 47).toInt = (t.1 71 47).toInt := congrArg Int32.toInt ((fu238 71 47 rfl).1)
          replace pu238_2 := pu238_2 (by omega)
          clear pu238_3
          have hq270 : oqJ g fp fq cz kx b 3 (u238) := oqJ_id iv6 (oFr_row fu238 (c := 103) rfl rfl) (congrArg Int32.toInt (fu238 71 5 rfl).1) (congrArg Int32.toInt (fu238 71 47 rfl).1) (by rw [show ((u238).1 71 2).toInt = ((t).1 71 2).toInt by omega]) (congrArg Int32.toInt (fu238 71 4 rfl).1) (congrArg Int32.toInt (fu238 71 48 rfl).1) (congrArg Int32.toInt (fu238 71 6 rfl).1)
          refine r_aload_n C (j := 0) (oDec_at oX12_goesOn 63 rfl) rfl rfl ?_
          refine r_bipush C (oDec_at oX12_goesOn 64 rfl) (v := k47) (by rw [qk47]; rfl) ?_
          have lk271 : ((u238).1 71 5).toInt = (t.1 71 5).toInt := congrArg Int32.toInt ((fu238 71 5 rfl).1)
          have lk272 : ((u238).1 71 5).toInt = (t.1 71 5).toInt := congrArg Int32.toInt ((fu238 71 5 rfl).1)
          have lk273 : ((u238).1 71 5).toInt = (t.1 71 5).toInt := congrArg Int32.toInt ((fu238 71 5 rfl).1)
          have lk274 : ((u238).1 71 5).toInt = (t.1 71 5).toInt := congrArg Int32.toInt ((fu238 71 5 rfl).1)
          refine r_callVi C oCl12 rfl miX12_takesSign mlX12_207 (ct6_X12_takesSign l E (u238) k47 (g) ((t.1 71 2).toInt) (47) (by omega) (oqZ_fr fu238 rfl iv7) (by omega) (by omega)) (by decide) rfl rfl rfl (Nat.le_of_ble_eq_true rfl) (oDec_at oX12_goesOn 65 rfl) (fun r276 u275 pu275 fu275 => ?_)
          try dsimp only at pu275
          try simp only [lk271, lk272, lk273, lk274] at pu275
          obtain ⟨pu275_0, pu275_1, pu275_2, pu275_3, pu275_4⟩ := pu275
          have rr276 := n_rng r276
          refine r_if_eq C 203 (oDec_at oX12_goesOn 66 rfl) (by decide) (fun cd277 => ?_) (fun cd277 => ?_)
          · skip
            clear pu275_1
            replace pu275_2 := pu275_2 (by omega)
            have lk278 : ((u275).1 71 4).toInt = (t.1 71 4).toInt := congrArg Int32.toInt (((fu275 71 4 rfl).1).trans ((fu238 71 4 rfl).1))
            have lk279 : ((u275).1 71 5).toInt = (t.1 71 5).toInt := congrArg Int32.toInt (((fu275 71 5 rfl).1).trans ((fu238 71 5 rfl).1))
            have lk280 : ((u275).1 71 48).toInt = (t.1 71 48).toInt := congrArg Int32.toInt (((fu275 71 48 rfl).1).trans ((fu238 71 48 rfl).1))
            have lk281 : ((u275).1 71 47).toInt = (t.1 71 47).toInt := congrArg Int32.toInt (((fu275 71 47 rfl).1).trans ((fu238 71 47 rfl).1))
            replace pu275_2 := pu275_2 (by omega)
            clear pu275_3
            have hq282 : oqJ g fp fq cz kx b 3 (u275) := oqJ_id hq270 (oFr_row fu275 (c := 103) rfl rfl) (congrArg Int32.toInt (fu275 71 5 rfl).1) (congrArg Int32.toInt (fu275 71 47 rfl).1) (by rw [show ((u275).1 71 2).toInt = ((u238).1 71 2).toInt by omega]) (congrArg Int32.toInt (fu275 71 4 rfl).1) (congrArg Int32.toInt (fu275 71 48 rfl).1) (congrArg Int32.toInt (fu275 71 6 rfl).1)
            refine r_aload_n C (j := 0) (oDec_at oX12_goesOn 105 rfl) rfl rfl ?_
            refine r_bipush C (oDec_at oX12_goesOn 106 rfl) (v := k43) (by rw [qk43]; rfl) ?_
            have lk283 : ((u275).1 71 5).toInt = (t.1 71 5).toInt := congrArg Int32.toInt (((fu275 71 5 rfl).1).trans ((fu238 71 5 rfl).1))
            have lk284 : ((u275).1 71 5).toInt = (t.1 71 5).toInt := congrArg Int32.toInt (((fu275 71 5 rfl).1).trans ((fu238 71 5 rfl).1))
            have lk285 : ((u275).1 71 5).toInt = (t.1 71 5).toInt := congrArg Int32.toInt (((fu275 71 5 rfl).1).trans ((fu238 71 5 rfl).1))
            have lk286 : ((u275).1 71 5).toInt = (t.1 71 5).toInt := congrArg Int32.toInt (((fu275 71 5 rfl).1).trans ((fu238 71 5 rfl).1))
            refine r_callVi C oCl12 rfl miX12_takesSign mlX12_207 (ct6_X12_takesSign l E (u275) k43 (g) ((t.1 71 2).toInt) (43) (by omega) (oqZ_fr fu275 rfl (oqZ_fr fu238 rfl iv7)) (by omega) (by omega)) (by decide) rfl rfl rfl (Nat.le_of_ble_eq_true rfl) (oDec_at oX12_goesOn 107 rfl) (fun r288 u287 pu287 fu287 => ?_)
            try dsimp only at pu287
            try simp only [lk283, lk284, lk285, lk286] at pu287
            obtain ⟨pu287_0, pu287_1, pu287_2, pu287_3, pu287_4⟩ := pu287
            have rr288 := n_rng r288
            refine r_if_ne C 221 (oDec_at oX12_goesOn 108 rfl) (by decide) (fun cd289 => ?_) (fun cd289 => ?_)
            · skip
              replace pu287_1 := pu287_1 (by omega)
              clear pu287_2
              have lk290 : ((u287).1 71 4).toInt = (t.1 71 4).toInt := congrArg Int32.toInt (((fu287 71 4 rfl).1).trans (((fu275 71 4 rfl).1).trans ((fu238 71 4 rfl).1)))
              have lk291 : ((u287).1 71 5).toInt = (t.1 71 5).toInt := congrArg Int32.toInt (((fu287 71 5 rfl).1).trans (((fu275 71 5 rfl).1).trans ((fu238 71 5 rfl).1)))
              have lk292 : ((u287).1 71 48).toInt = (t.1 71 48).toInt := congrArg Int32.toInt (((fu287 71 48 rfl).1).trans (((fu275 71 48 rfl).1).trans ((fu238 71 48 rfl).1)))
              have lk293 : ((u287).1 71 47).toInt = (t.1 71 47).toInt := congrArg Int32.toInt (((fu287 71 47 rfl).1).trans (((fu275 71 47 rfl).1).trans ((fu238 71 47 rfl).1)))
              clear pu287_3
              have hq294 : oqJ g fp fq cz kx b 1 (u287) := oqJ_go hq282 (by omega) (by omega) (oFr_row fu287 (c := 103) rfl rfl) (congrArg Int32.toInt (fu287 71 47 rfl).1) (oqs_op (g := g) (p := fp) (q := fq) (a := (t.1 71 2).toInt) (b := (t.1 71 4).toInt) (o := (t.1 71 48).toInt) (by unfold oqOp; omega)) (by rw [show ((u275).1 71 2).toInt = (t.1 71 2).toInt by omega]; omega) (by first | omega | (congr 1; omega)) (by first | omega | (congr 1; omega)) (by first | omega | (congr 1; omega)) (by first | omega | (congr 1; omega)) (by first | omega | (congr 1; omega))
              refine r_aload_n C (j := 0) (oDec_at oX12_goesOn 113 rfl) rfl rfl ?_
              refine r_getF (k := 0) (b := 72) C oCl12 rfl (by decide) flX12_7 rfl rfl rfl (oDec_at oX12_goesOn 114 rfl) ?_
              refine r_aload_n C (j := 0) (oDec_at oX12_goesOn 115 rfl) rfl rfl ?_
              obtain ⟨v295, ev295⟩ : ∃ z : Int32, (u287).1 71 2 = z := ⟨_, rfl⟩
              have gv295 : (u287.1 71 2).toInt = v295.toInt := congrArg Int32.toInt (ev295)
              refine r_geti (k := 2) (lo := 0) (hi := 1600) C v295 oCl12 rfl (by decide) flX12_179 rfl rfl (ev295) rfl rfl (oDec_at oX12_goesOn 116 rfl) (fun b296 b296h => ?_)
              refine r_iconst C (oDec_at oX12_goesOn 117 rfl) (v := k1) (by rw [qk1]; rfl) ?_
              obtain ⟨v297, ev297⟩ : ∃ z : Int32, z = v295 - k1 := ⟨_, rfl⟩
              have hv297 : v297.toInt = v295.toInt - k1.toInt := n_sub ev297 (by omega) (by omega)
              refine r_isub C v297 (oDec_at oX12_goesOn 118 rfl) ev297 ?_
              refine r_pc C 231 rfl ?_
              obtain ⟨v299, ev299⟩ : ∃ z : Int32, (u287).1 72 v297.toNatClampNeg = z := ⟨_, rfl⟩
              have av299 : t.1 72 v297.toNatClampNeg = v299 := (((fu287 72 v297.toNatClampNeg rfl).1).trans (((fu275 72 v297.toNatClampNeg rfl).1).trans ((fu238 72 v297.toNatClampNeg rfl).1))).symm.trans ev299
              have gv299 : (t.1 72 v297.toNatClampNeg).toInt = v299.toInt := congrArg Int32.toInt ((((fu287 72 v297.toNatClampNeg rfl).1).trans (((fu275 72 v297.toNatClampNeg rfl).1).trans ((fu238 72 v297.toNatClampNeg rfl).1))).symm.trans ev299)
              refine r_iald (n := 1600) (lo := 0) (hi := 255) C v299 rfl (by decide) rfl rfl ⟨by omega, by omega⟩ (by decide) ev299 rfl rfl (oDec_at oX12_goesOn 119 rfl) (fun b298 b298h => ?_)
              refine r_bipush C (oDec_at oX12_goesOn 120 rfl) (v := k43) (by rw [qk43]; rfl) ?_
              refine r_icmp_ne C 241 (oDec_at oX12_goesOn 121 rfl) (by decide) (fun cd300 => ?_) (fun cd300 => ?_)
              · skip
                refine r_iconst C (oDec_at oX12_goesOn 124 rfl) (v := k2) (by rw [qk2]; rfl) ?_
                refine r_istore_n C (lv' := [(0, .ref (oad E 71)), (1, .int k2)]) [1, 0] (oDec_at oX12_goesOn 125 rfl) rfl (by decide) rfl ?_
                have lk301 : ((u287).1 71 5).toInt = (t.1 71 5).toInt := congrArg Int32.toInt (((fu287 71 5 rfl).1).trans (((fu275 71 5 rfl).1).trans ((fu238 71 5 rfl).1)))
                have lk302 : ((u287).1 71 48).toInt = (t.1 71 48).toInt := congrArg Int32.toInt (((fu287 71 48 rfl).1).trans (((fu275 71 48 rfl).1).trans ((fu238 71 48 rfl).1)))
                have lk303 : ((u287).1 71 2).toInt = v295.toInt := congrArg Int32.toInt (ev295)
                have lk304 : ((u287).1 71 45).toInt = (t.1 71 45).toInt := congrArg Int32.toInt (((fu287 71 45 rfl).1).trans (((fu275 71 45 rfl).1).trans ((fu238 71 45 rfl).1)))
                have lk305 : ((u287).1 71 47).toInt = (t.1 71 47).toInt := congrArg Int32.toInt (((fu287 71 47 rfl).1).trans (((fu275 71 47 rfl).1).trans ((fu238 71 47 rfl).1)))
                have lk306 : ((u287).1 71 2).toInt = v295.toInt := congrArg Int32.toInt (ev295)
                have lk307 : ((u287).1 71 47).toInt = (t.1 71 47).toInt := congrArg Int32.toInt (((fu287 71 47 rfl).1).trans (((fu275 71 47 rfl).1).trans ((fu238 71 47 rfl).1)))
                exact (ih (n - 1) (by omega)).2.2.2 (u287) k2  (oQ_fr fu287 rfl (oQ_fr fu275 rfl (oQ_fr fu238 rfl iv0))) (by omega) (by omega) (by omega) (by omega) (by omega) hq294 (oqBP_fr fu287 rfl (oqBP_fr fu275 rfl (oqBP_fr fu238 rfl iv10))) (by omega)
              · skip
                refine r_iconst C (oDec_at oX12_goesOn 122 rfl) (v := k1) (by rw [qk1]; rfl) ?_
                refine r_goto C (tgt := 242) (oDec_at oX12_goesOn 123 rfl) (by decide) ?_
                refine r_istore_n C (lv' := [(0, .ref (oad E 71)), (1, .int k1)]) [1, 0] (oDec_at oX12_goesOn 125 rfl) rfl (by decide) rfl ?_
                have lk308 : ((u287).1 71 5).toInt = (t.1 71 5).toInt := congrArg Int32.toInt (((fu287 71 5 rfl).1).trans (((fu275 71 5 rfl).1).trans ((fu238 71 5 rfl).1)))
                have lk309 : ((u287).1 71 48).toInt = (t.1 71 48).toInt := congrArg Int32.toInt (((fu287 71 48 rfl).1).trans (((fu275 71 48 rfl).1).trans ((fu238 71 48 rfl).1)))
                have lk310 : ((u287).1 71 2).toInt = v295.toInt := congrArg Int32.toInt (ev295)
                have lk311 : ((u287).1 71 45).toInt = (t.1 71 45).toInt := congrArg Int32.toInt (((fu287 71 45 rfl).1).trans (((fu275 71 45 rfl).1).trans ((fu238 71 45 rfl).1)))
                have lk312 : ((u287).1 71 47).toInt = (t.1 71 47).toInt := congrArg Int32.toInt (((fu287 71 47 rfl).1).trans (((fu275 71 47 rfl).1).trans ((fu238 71 47 rfl).1)))
                have lk313 : ((u287).1 71 2).toInt = v295.toInt := congrArg Int32.toInt (ev295)
                have lk314 : ((u287).1 71 47).toInt = (t.1 71 47).toInt := congrArg Int32.toInt (((fu287 71 47 rfl).1).trans (((fu275 71 47 rfl).1).trans ((fu238 71 47 rfl).1)))
                exact (ih (n - 1) (by omega)).2.2.2 (u287) k1  (oQ_fr fu287 rfl (oQ_fr fu275 rfl (oQ_fr fu238 rfl iv0))) (by omega) (by omega) (by omega) (by omega) (by omega) hq294 (oqBP_fr fu287 rfl (oqBP_fr fu275 rfl (oqBP_fr fu238 rfl iv10))) (by omega)
            · skip
              clear pu287_1
              replace pu287_2 := pu287_2 (by omega)
              have lk315 : ((u287).1 71 4).toInt = (t.1 71 4).toInt := congrArg Int32.toInt (((fu287 71 4 rfl).1).trans (((fu275 71 4 rfl).1).trans ((fu238 71 4 rfl).1)))
              have lk316 : ((u287).1 71 5).toInt = (t.1 71 5).toInt := congrArg Int32.toInt (((fu287 71 5 rfl).1).trans (((fu275 71 5 rfl).1).trans ((fu238 71 5 rfl).1)))
              have lk317 : ((u287).1 71 48).toInt = (t.1 71 48).toInt := congrArg Int32.toInt (((fu287 71 48 rfl).1).trans (((fu275 71 48 rfl).1).trans ((fu238 71 48 rfl).1)))
              have lk318 : ((u287).1 71 47).toInt = (t.1 71 47).toInt := congrArg Int32.toInt (((fu287 71 47 rfl).1).trans (((fu275 71 47 rfl).1).trans ((fu238 71 47 rfl).1)))
              replace pu287_2 := pu287_2 (by omega)
              clear pu287_3
              have hq319 : oqJ g fp fq cz kx b 3 (u287) := oqJ_id hq282 (oFr_row fu287 (c := 103) rfl rfl) (congrArg Int32.toInt (fu287 71 5 rfl).1) (congrArg Int32.toInt (fu287 71 47 rfl).1) (by rw [show ((u287).1 71 2).toInt = ((u275).1 71 2).toInt by omega]) (congrArg Int32.toInt (fu287 71 4 rfl).1) (congrArg Int32.toInt (fu287 71 48 rfl).1) (congrArg Int32.toInt (fu287 71 6 rfl).1)
              refine r_aload_n C (j := 0) (oDec_at oX12_goesOn 109 rfl) rfl rfl ?_
              refine r_bipush C (oDec_at oX12_goesOn 110 rfl) (v := k45) (by rw [qk45]; rfl) ?_
              have lk320 : ((u287).1 71 5).toInt = (t.1 71 5).toInt := congrArg Int32.toInt (((fu287 71 5 rfl).1).trans (((fu275 71 5 rfl).1).trans ((fu238 71 5 rfl).1)))
              have lk321 : ((u287).1 71 5).toInt = (t.1 71 5).toInt := congrArg Int32.toInt (((fu287 71 5 rfl).1).trans (((fu275 71 5 rfl).1).trans ((fu238 71 5 rfl).1)))
              have lk322 : ((u287).1 71 5).toInt = (t.1 71 5).toInt := congrArg Int32.toInt (((fu287 71 5 rfl).1).trans (((fu275 71 5 rfl).1).trans ((fu238 71 5 rfl).1)))
              have lk323 : ((u287).1 71 5).toInt = (t.1 71 5).toInt := congrArg Int32.toInt (((fu287 71 5 rfl).1).trans (((fu275 71 5 rfl).1).trans ((fu238 71 5 rfl).1)))
              refine r_callVi C oCl12 rfl miX12_takesSign mlX12_207 (ct6_X12_takesSign l E (u287) k45 (g) ((t.1 71 2).toInt) (45) (by omega) (oqZ_fr fu287 rfl (oqZ_fr fu275 rfl (oqZ_fr fu238 rfl iv7))) (by omega) (by omega)) (by decide) rfl rfl rfl (Nat.le_of_ble_eq_true rfl) (oDec_at oX12_goesOn 111 rfl) (fun r325 u324 pu324 fu324 => ?_)
              try dsimp only at pu324
              try simp only [lk320, lk321, lk322, lk323] at pu324
              obtain ⟨pu324_0, pu324_1, pu324_2, pu324_3, pu324_4⟩ := pu324
              have rr325 := n_rng r325
              refine r_if_eq C 304 (oDec_at oX12_goesOn 112 rfl) (by decide) (fun cd326 => ?_) (fun cd326 => ?_)
              · skip
                clear pu324_1
                replace pu324_2 := pu324_2 (by omega)
                have lk327 : ((u324).1 71 4).toInt = (t.1 71 4).toInt := congrArg Int32.toInt (((fu324 71 4 rfl).1).trans (((fu287 71 4 rfl).1).trans (((fu275 71 4 rfl).1).trans ((fu238 71 4 rfl).1))))
                have lk328 : ((u324).1 71 5).toInt = (t.1 71 5).toInt := congrArg Int32.toInt (((fu324 71 5 rfl).1).trans (((fu287 71 5 rfl).1).trans (((fu275 71 5 rfl).1).trans ((fu238 71 5 rfl).1))))
                have lk329 : ((u324).1 71 48).toInt = (t.1 71 48).toInt := congrArg Int32.toInt (((fu324 71 48 rfl).1).trans (((fu287 71 48 rfl).1).trans (((fu275 71 48 rfl).1).trans ((fu238 71 48 rfl).1))))
                have lk330 : ((u324).1 71 47).toInt = (t.1 71 47).toInt := congrArg Int32.toInt (((fu324 71 47 rfl).1).trans (((fu287 71 47 rfl).1).trans (((fu275 71 47 rfl).1).trans ((fu238 71 47 rfl).1))))
                replace pu324_2 := pu324_2 (by omega)
                clear pu324_3
                have eA : ((u324).1 71 2).toInt = (t.1 71 2).toInt := by omega
                have hgs : oqSk g ((u324).1 71 2).toInt = oqSk g (t.1 71 2).toInt := by rw [eA]
                have hgg : g (oqSk g ((u324).1 71 2).toInt) = g (oqSk g (t.1 71 2).toInt) := by rw [eA]
                have hg5 : g (oqSk g (t.1 71 2).toInt) = g (t.1 71 2).toInt := by rw [show oqSk g (t.1 71 2).toInt = (t.1 71 2).toInt by omega]
                have hg2 : g ((u324).1 71 2).toInt = g (t.1 71 2).toInt := by rw [eA]
                have hno : ¬ oqOp g (oqSk g ((u324).1 71 2).toInt) := oqOp_no ⟨by omega, by omega, by omega, by omega⟩
                have hq331 : oqJ g fp fq cz kx b 3 (u324) := oqJ_id hq319 (oFr_row fu324 (c := 103) rfl rfl) (congrArg Int32.toInt (fu324 71 5 rfl).1) (congrArg Int32.toInt (fu324 71 47 rfl).1) (by rw [show ((u324).1 71 2).toInt = ((u287).1 71 2).toInt by omega]) (congrArg Int32.toInt (fu324 71 4 rfl).1) (congrArg Int32.toInt (fu324 71 48 rfl).1) (congrArg Int32.toInt (fu324 71 6 rfl).1)
                refine r_aload_n C (j := 0) (oDec_at oX12_goesOn 159 rfl) rfl rfl ?_
                refine r_callVi C oCl12 rfl miX12_mark mlX12_304 (ct_X12_mark l E (u324)  ) (by decide) rfl rfl rfl (Nat.le_of_ble_eq_true rfl) (oDec_at oX12_goesOn 160 rfl) (fun r333 u332 pu332 fu332 => ?_)
                try dsimp only at pu332
                have hxu332 := oFr_nil fu332; subst hxu332
                have rr333 := n_rng r333
                refine r_bipush C (oDec_at oX12_goesOn 161 rfl) (v := k21) (by rw [qk21]; rfl) ?_
                refine r_icmp_eq C 322 (oDec_at oX12_goesOn 162 rfl) (by decide) (fun cd334 => ?_) (fun cd334 => ?_)
                · skip
                  have lk335 : ((u324).1 71 45).toInt = (t.1 71 45).toInt := congrArg Int32.toInt (((fu324 71 45 rfl).1).trans (((fu287 71 45 rfl).1).trans (((fu275 71 45 rfl).1).trans ((fu238 71 45 rfl).1))))
                  have lk336 : ((u324).1 71 47).toInt = (t.1 71 47).toInt := congrArg Int32.toInt (((fu324 71 47 rfl).1).trans (((fu287 71 47 rfl).1).trans (((fu275 71 47 rfl).1).trans ((fu238 71 47 rfl).1))))
                  have lk337 : ((u324).1 71 48).toInt = (t.1 71 48).toInt := congrArg Int32.toInt (((fu324 71 48 rfl).1).trans (((fu287 71 48 rfl).1).trans (((fu275 71 48 rfl).1).trans ((fu238 71 48 rfl).1))))
                  have lk338 : ((u324).1 71 4).toInt = (t.1 71 4).toInt := congrArg Int32.toInt (((fu324 71 4 rfl).1).trans (((fu287 71 4 rfl).1).trans (((fu275 71 4 rfl).1).trans ((fu238 71 4 rfl).1))))
                  have lk339 : ((u324).1 71 5).toInt = (t.1 71 5).toInt := congrArg Int32.toInt (((fu324 71 5 rfl).1).trans (((fu287 71 5 rfl).1).trans (((fu275 71 5 rfl).1).trans ((fu238 71 5 rfl).1))))
                  have lk340 : ((u324).1 71 55).toInt = (t.1 71 55).toInt := congrArg Int32.toInt (((fu324 71 55 rfl).1).trans (((fu287 71 55 rfl).1).trans (((fu275 71 55 rfl).1).trans ((fu238 71 55 rfl).1))))
                  have hh1 := oqHs_1 (oQ_fr fu324 rfl (oQ_fr fu287 rfl (oQ_fr fu275 rfl (oQ_fr fu238 rfl iv0)))) (by omega) pu332 (by omega) (by omega) (by omega) (by omega)
                  have hq341 : oMk (r333.toInt) (u324) := pu332
                  have hq342 : oqK b (oqSg ((u324).1 103) b (((u324).1 71 47).toNatClampNeg - b)) (u324) := rfl
                  refine r_aload_n C (j := 0) (oDec_at oX12_goesOn 167 rfl) rfl rfl ?_
                  refine r_bipush C (oDec_at oX12_goesOn 168 rfl) (v := k44) (by rw [qk44]; rfl) ?_
                  have lk343 : ((u324).1 71 5).toInt = (t.1 71 5).toInt := congrArg Int32.toInt (((fu324 71 5 rfl).1).trans (((fu287 71 5 rfl).1).trans (((fu275 71 5 rfl).1).trans ((fu238 71 5 rfl).1))))
                  have lk344 : ((u324).1 71 5).toInt = (t.1 71 5).toInt := congrArg Int32.toInt (((fu324 71 5 rfl).1).trans (((fu287 71 5 rfl).1).trans (((fu275 71 5 rfl).1).trans ((fu238 71 5 rfl).1))))
                  have lk345 : ((u324).1 71 6).toInt = (t.1 71 6).toInt := congrArg Int32.toInt (((fu324 71 6 rfl).1).trans (((fu287 71 6 rfl).1).trans (((fu275 71 6 rfl).1).trans ((fu238 71 6 rfl).1))))
                  have lk346 : ((u324).1 71 5).toInt = (t.1 71 5).toInt := congrArg Int32.toInt (((fu324 71 5 rfl).1).trans (((fu287 71 5 rfl).1).trans (((fu275 71 5 rfl).1).trans ((fu238 71 5 rfl).1))))
                  have lk347 : ((u324).1 71 6).toInt = (t.1 71 6).toInt := congrArg Int32.toInt (((fu324 71 6 rfl).1).trans (((fu287 71 6 rfl).1).trans (((fu275 71 6 rfl).1).trans ((fu238 71 6 rfl).1))))
                  have lk348 : ((u324).1 71 5).toInt = (t.1 71 5).toInt := congrArg Int32.toInt (((fu324 71 5 rfl).1).trans (((fu287 71 5 rfl).1).trans (((fu275 71 5 rfl).1).trans ((fu238 71 5 rfl).1))))
                  refine r_callVv C oCl12 rfl miX12_asksSign mlX12_248 (ct7_X12_asksSign l E (u324) k44 (g) ((t.1 71 2).toInt) (44) (by omega) (oqZ_fr fu324 rfl (oqZ_fr fu287 rfl (oqZ_fr fu275 rfl (oqZ_fr fu238 rfl iv7)))) (by omega) (by omega) (oqBP_fr fu324 rfl (oqBP_fr fu287 rfl (oqBP_fr fu275 rfl (oqBP_fr fu238 rfl iv10))))) (by decide) rfl rfl rfl (Nat.le_of_ble_eq_true rfl) (oDec_at oX12_goesOn 169 rfl) (fun u349 pu349 fu349 => ?_)
                  try dsimp only at pu349
                  try simp only [lk343, lk344, lk345, lk346, lk347, lk348] at pu349
                  obtain ⟨pu349_0, pu349_1, pu349_2, pu349_3, pu349_4⟩ := pu349
                  have lk351 : ((u349).1 71 4).toInt = (t.1 71 4).toInt := congrArg Int32.toInt (((fu349 71 4 rfl).1).trans (((fu324 71 4 rfl).1).trans (((fu287 71 4 rfl).1).trans (((fu275 71 4 rfl).1).trans ((fu238 71 4 rfl).1)))))
                  have lk352 : ((u349).1 71 48).toInt = (t.1 71 48).toInt := congrArg Int32.toInt (((fu349 71 48 rfl).1).trans (((fu324 71 48 rfl).1).trans (((fu287 71 48 rfl).1).trans (((fu275 71 48 rfl).1).trans ((fu238 71 48 rfl).1)))))
                  have lk353 : ((u349).1 71 47).toInt = (t.1 71 47).toInt := congrArg Int32.toInt (((fu349 71 47 rfl).1).trans (((fu324 71 47 rfl).1).trans (((fu287 71 47 rfl).1).trans (((fu275 71 47 rfl).1).trans ((fu238 71 47 rfl).1)))))
                  refine r_aload_n C (j := 0) (oDec_at oX12_goesOn 170 rfl) rfl rfl ?_
                  obtain ⟨v354, ev354⟩ : ∃ z : Int32, (u349).1 71 5 = z := ⟨_, rfl⟩
                  have gv354 : (u349.1 71 5).toInt = v354.toInt := congrArg Int32.toInt (ev354)
                  have rv354 := n_rng v354
                  refine r_geti (k := 5) (lo := (-2147483648)) (hi := 2147483647) C v354 oCl12 rfl (by decide) flX12_173 rfl rfl (ev354) rfl rfl (oDec_at oX12_goesOn 171 rfl) (fun _ _ => ?_)
                  refine r_if_eq C 337 (oDec_at oX12_goesOn 172 rfl) (by decide) (fun cd355 => ?_) (fun cd355 => ?_)
                  · skip
                    refine r_aload_n C (j := 0) (oDec_at oX12_goesOn 175 rfl) rfl rfl ?_
                    have lk356 : ((u349).1 71 55).toInt = (t.1 71 55).toInt := congrArg Int32.toInt (((fu349 71 55 rfl).1).trans (((fu324 71 55 rfl).1).trans (((fu287 71 55 rfl).1).trans (((fu275 71 55 rfl).1).trans ((fu238 71 55 rfl).1)))))
                    have lk357 : ((u349).1 71 5).toInt = v354.toInt := congrArg Int32.toInt (ev354)
                    have lk358 : ((u349).1 71 45).toInt = (t.1 71 45).toInt := congrArg Int32.toInt (((fu349 71 45 rfl).1).trans (((fu324 71 45 rfl).1).trans (((fu287 71 45 rfl).1).trans (((fu275 71 45 rfl).1).trans ((fu238 71 45 rfl).1)))))
                    have lk359 : ((u349).1 71 47).toInt = (t.1 71 47).toInt := congrArg Int32.toInt (((fu349 71 47 rfl).1).trans (((fu324 71 47 rfl).1).trans (((fu287 71 47 rfl).1).trans (((fu275 71 47 rfl).1).trans ((fu238 71 47 rfl).1)))))
                    have lk360 : ((u349).1 71 45).toInt = (t.1 71 45).toInt := congrArg Int32.toInt (((fu349 71 45 rfl).1).trans (((fu324 71 45 rfl).1).trans (((fu287 71 45 rfl).1).trans (((fu275 71 45 rfl).1).trans ((fu238 71 45 rfl).1)))))
                    have lk361 : ((u349).1 71 47).toInt = (t.1 71 47).toInt := congrArg Int32.toInt (((fu349 71 47 rfl).1).trans (((fu324 71 47 rfl).1).trans (((fu287 71 47 rfl).1).trans (((fu275 71 47 rfl).1).trans ((fu238 71 47 rfl).1)))))
                    have lk362 : ((u349).1 71 47).toInt = (t.1 71 47).toInt := congrArg Int32.toInt (((fu349 71 47 rfl).1).trans (((fu324 71 47 rfl).1).trans (((fu287 71 47 rfl).1).trans (((fu275 71 47 rfl).1).trans ((fu238 71 47 rfl).1)))))
                    refine r_callVv C oCl12 rfl miX12_dropsToMark mlX12_307 (ct5_X12_dropsToMark l E (u349)  (b) (x + 1) (r333.toInt) (oqSg ((u324).1 103) b (((u324).1 71 47).toNatClampNeg - b)) (oQ_frb fu349 rfl (by omega) (oQ_fr fu324 rfl (oQ_fr fu287 rfl (oQ_fr fu275 rfl (oQ_fr fu238 rfl iv0))))) (oMk_fr fu349 rfl hq341) (by omega) (by omega) (by omega) (by omega) (oqK_fr fu349 rfl hq342)) (by decide) rfl rfl rfl (Nat.le_of_ble_eq_true rfl) (oDec_at oX12_goesOn 176 rfl) (fun u363 pu363 fu363 => ?_)
                    try dsimp only at pu363
                    try simp only [lk356, lk357, lk358, lk359, lk360, lk361, lk362] at pu363
                    obtain ⟨pu363_0, pu363_1, pu363_2, pu363_3, pu363_4⟩ := pu363
                    have lk365 : ((u363).1 71 5).toInt = v354.toInt := congrArg Int32.toInt (((fu363 71 5 rfl).1).trans (ev354))
                    have lk366 : ((u363).1 71 48).toInt = (t.1 71 48).toInt := congrArg Int32.toInt (((fu363 71 48 rfl).1).trans (((fu349 71 48 rfl).1).trans (((fu324 71 48 rfl).1).trans (((fu287 71 48 rfl).1).trans (((fu275 71 48 rfl).1).trans ((fu238 71 48 rfl).1))))))
                    have lk367 : ((u363).1 71 2).toInt = (u349.1 71 2).toInt := congrArg Int32.toInt ((fu363 71 2 rfl).1)
                    have lk368 : ((u363).1 71 4).toInt = (t.1 71 4).toInt := congrArg Int32.toInt (((fu363 71 4 rfl).1).trans (((fu349 71 4 rfl).1).trans (((fu324 71 4 rfl).1).trans (((fu287 71 4 rfl).1).trans (((fu275 71 4 rfl).1).trans ((fu238 71 4 rfl).1))))))
                    have htp := pu363_3 (by omega)
                    refine r_aload_n C (j := 0) (oDec_at oX12_goesOn 177 rfl) rfl rfl ?_
                    refine r_getF (k := 46) (b := 103) C oCl12 rfl (by decide) flX12_111 rfl rfl rfl (oDec_at oX12_goesOn 178 rfl) ?_
                    refine r_aload_n C (j := 0) (oDec_at oX12_goesOn 179 rfl) rfl rfl ?_
                    obtain ⟨v369, ev369⟩ : ∃ z : Int32, (u363).1 71 47 = z := ⟨_, rfl⟩
                    have gv369 : (u363.1 71 47).toInt = v369.toInt := congrArg Int32.toInt (ev369)
                    refine r_geti (k := 47) (lo := 0) (hi := 1700) C v369 oCl12 rfl (by decide) flX12_277 rfl rfl (ev369) rfl rfl (oDec_at oX12_goesOn 180 rfl) (fun b370 b370h => ?_)
                    refine r_pc C 349 rfl ?_
                    refine r_iconst C (oDec_at oX12_goesOn 181 rfl) (v := k1) (by rw [qk1]; rfl) ?_
                    obtain ⟨v371, ev371⟩ : ∃ z : Int32, z = v369 - k1 := ⟨_, rfl⟩
                    have hv371 : v371.toInt = v369.toInt - k1.toInt := n_sub ev371 (by omega) (by omega)
                    refine r_isub C v371 (oDec_at oX12_goesOn 182 rfl) ev371 ?_
                    refine r_dup2 C (oDec_at oX12_goesOn 183 rfl) rfl rfl ?_
                    obtain ⟨v373, ev373⟩ : ∃ z : Int32, (u363).1 103 v371.toNatClampNeg = z := ⟨_, rfl⟩
                    have av373 : t.1 103 v371.toNatClampNeg = v373 := (((fu363 103 v371.toNatClampNeg rfl).1).trans (((fu349 103 v371.toNatClampNeg rfl).1).trans (((fu324 103 v371.toNatClampNeg rfl).1).trans (((fu287 103 v371.toNatClampNeg rfl).1).trans (((fu275 103 v371.toNatClampNeg rfl).1).trans ((fu238 103 v371.toNatClampNeg rfl).1)))))).symm.trans ev373
                    have gv373 : (t.1 103 v371.toNatClampNeg).toInt = v373.toInt := congrArg Int32.toInt ((((fu363 103 v371.toNatClampNeg rfl).1).trans (((fu349 103 v371.toNatClampNeg rfl).1).trans (((fu324 103 v371.toNatClampNeg rfl).1).trans (((fu287 103 v371.toNatClampNeg rfl).1).trans (((fu275 103 v371.toNatClampNeg rfl).1).trans ((fu238 103 v371.toNatClampNeg rfl).1)))))).symm.trans ev373)
                    have rv373 := n_rng v373
                    refine r_iald (n := 1700) (lo := (-2147483648)) (hi := 2147483647) C v373 rfl (by decide) rfl rfl ⟨by omega, by omega⟩ (by decide) ev373 rfl rfl (oDec_at oX12_goesOn 184 rfl) (fun _ _ => ?_)
                    have hv0 := oTop_of (s := u363) (i := v371) ev373 (by omega)
                    refine r_iconst C (oDec_at oX12_goesOn 185 rfl) (v := k2) (by rw [qk2]; rfl) ?_
                    obtain ⟨v374, ev374⟩ : ∃ z : Int32, z = v373 + k2 := ⟨_, rfl⟩
                    have hv374 : v374.toInt = v373.toInt + k2.toInt := n_add ev374 (by omega) (by omega)
                    refine r_iadd C v374 (oDec_at oX12_goesOn 186 rfl) ev374 ?_
                    refine r_pc C 355 rfl ?_
                    refine r_iast (n := 1700) (lo := (-2147483648)) (hi := 2147483647) C rfl (by decide) rfl rfl ⟨by omega, by omega⟩ (by decide) rfl rfl rfl rfl (n_rng _) (oDec_at oX12_goesOn 187 rfl) ?_
                    have hq375 : oQ b x ((pI u363 103 v371.toNatClampNeg v374)) := oQ_comma (x := x) pu363_0 (by omega) (by omega) (by assumption) (by omega)
                    have hq376 : oqJ g fp fq cz kx b 1 ((pI u363 103 v371.toNatClampNeg v374)) := oqJ_cm (s := u324) hq331 (by omega) (by omega) ((oFr_row fu363 (c := 103) rfl rfl).trans (oFr_row fu349 (c := 103) rfl rfl)) (by omega) (by omega) (by omega) (by omega) pu363_4 (by omega) (by omega) (by omega) (by omega)
                    refine r_iconst C (oDec_at oX12_goesOn 188 rfl) (v := k1) (by rw [qk1]; rfl) ?_
                    have lk377 : (((pI u363 103 v371.toNatClampNeg v374)).1 71 48).toInt = (t.1 71 48).toInt := congrArg Int32.toInt (((pI_ne (a := 71) (b := 48) (c := 103) _ _ (Or.inl (by decide)))).trans (((fu363 71 48 rfl).1).trans (((fu349 71 48 rfl).1).trans (((fu324 71 48 rfl).1).trans (((fu287 71 48 rfl).1).trans (((fu275 71 48 rfl).1).trans ((fu238 71 48 rfl).1)))))))
                    have lk378 : (((pI u363 103 v371.toNatClampNeg v374)).1 71 2).toInt = (u349.1 71 2).toInt := congrArg Int32.toInt (((pI_ne (a := 71) (b := 2) (c := 103) _ _ (Or.inl (by decide)))).trans ((fu363 71 2 rfl).1))
                    have lk379 : (((pI u363 103 v371.toNatClampNeg v374)).1 71 45).toInt = (u363.1 71 45).toInt := congrArg Int32.toInt ((pI_ne (a := 71) (b := 45) (c := 103) _ _ (Or.inl (by decide))))
                    have lk380 : (((pI u363 103 v371.toNatClampNeg v374)).1 71 47).toInt = v369.toInt := congrArg Int32.toInt (((pI_ne (a := 71) (b := 47) (c := 103) _ _ (Or.inl (by decide)))).trans (ev369))
                    have lk381 : (((pI u363 103 v371.toNatClampNeg v374)).1 71 2).toInt = (u349.1 71 2).toInt := congrArg Int32.toInt (((pI_ne (a := 71) (b := 2) (c := 103) _ _ (Or.inl (by decide)))).trans ((fu363 71 2 rfl).1))
                    exact r_zret C (n_bool (by omega)) (oDec_at oX12_goesOn 189 rfl) ⟨_, rfl, ⟨by omega, by first | (intro h; exfalso; omega) | exact fun _ => hq375, by first | (intro h; exfalso; omega) | exact fun _ => ⟨(by assumption), by first | (intro hb; exfalso; omega) | exact fun _ => oMk_c pu363 (by omega)⟩, by omega, by omega, by omega, by first | (intro h; exfalso; omega) | exact fun _ => hq376, by first | (intro h; exfalso; omega) | exact fun _ => (by assumption), by first | (intro h; exfalso; omega) | exact fun _ => oqGe_b (by omega) | exact fun _ => oqGe_of (A := (t.1 71 2).toInt) (by omega) (by omega) (by omega) (by omega) (by omega) (by omega), (oqBP_fr (oFr_oneI (q := 79) (m := 9999) rfl (by rfl)) rfl (oqBP_fr fu363 rfl pu349_4))⟩⟩
                  · skip
                    have hq382 : oqJ g fp fq cz kx b 3 (u349) := oqJ_opF (s := u324) hq331 (by omega) hno (by omega) (by omega) (by omega)
                    refine r_iconst C (oDec_at oX12_goesOn 173 rfl) (v := k0) (by rw [qk0]; rfl) ?_
                    have lk383 : ((u349).1 71 48).toInt = (t.1 71 48).toInt := congrArg Int32.toInt (((fu349 71 48 rfl).1).trans (((fu324 71 48 rfl).1).trans (((fu287 71 48 rfl).1).trans (((fu275 71 48 rfl).1).trans ((fu238 71 48 rfl).1)))))
                    have lk384 : ((u349).1 71 45).toInt = (t.1 71 45).toInt := congrArg Int32.toInt (((fu349 71 45 rfl).1).trans (((fu324 71 45 rfl).1).trans (((fu287 71 45 rfl).1).trans (((fu275 71 45 rfl).1).trans ((fu238 71 45 rfl).1)))))
                    have lk385 : ((u349).1 71 47).toInt = (t.1 71 47).toInt := congrArg Int32.toInt (((fu349 71 47 rfl).1).trans (((fu324 71 47 rfl).1).trans (((fu287 71 47 rfl).1).trans (((fu275 71 47 rfl).1).trans ((fu238 71 47 rfl).1)))))
                    exact r_zret C (n_bool (by omega)) (oDec_at oX12_goesOn 174 rfl) ⟨_, rfl, ⟨by omega, by first | (intro h; exfalso; omega) | exact fun _ => (by assumption), by first | (intro h; exfalso; omega) | exact fun _ => ⟨(oQ_frb fu349 rfl (by omega) (oQ_fr fu324 rfl (oQ_fr fu287 rfl (oQ_fr fu275 rfl (oQ_fr fu238 rfl iv0))))), by first | (intro hb; exfalso; omega) | exact fun _ => oMk_c pu349 (by omega)⟩, by omega, by omega, by omega, by first | (intro h; exfalso; omega) | exact fun _ => (by assumption), by first | (intro h; exfalso; omega) | exact fun _ => hq382, by first | (intro h; exfalso; omega) | exact fun _ => oqGe_b (by omega) | exact fun _ => oqGe_of (A := (t.1 71 2).toInt) (by omega) (by omega) (by omega) (by omega) (by omega) (by omega), pu349_4⟩⟩
                · skip
                  refine r_aload_n C (j := 0) (oDec_at oX12_goesOn 163 rfl) rfl rfl ?_
                  refine r_callVi C oCl12 rfl miX12_mark mlX12_304 (ct_X12_mark l E (u324)  ) (by decide) rfl rfl rfl (Nat.le_of_ble_eq_true rfl) (oDec_at oX12_goesOn 164 rfl) (fun r387 u386 pu386 fu386 => ?_)
                  try dsimp only at pu386
                  have hxu386 := oFr_nil fu386; subst hxu386
                  have rr387 := n_rng r387
                  refine r_bipush C (oDec_at oX12_goesOn 165 rfl) (v := k22) (by rw [qk22]; rfl) ?_
                  refine r_icmp_ne C 358 (oDec_at oX12_goesOn 166 rfl) (by decide) (fun cd388 => ?_) (fun cd388 => ?_)
                  · skip
                    have lk389 : ((u324).1 71 4).toInt = (t.1 71 4).toInt := congrArg Int32.toInt (((fu324 71 4 rfl).1).trans (((fu287 71 4 rfl).1).trans (((fu275 71 4 rfl).1).trans ((fu238 71 4 rfl).1))))
                    have lk390 : ((u324).1 71 5).toInt = (t.1 71 5).toInt := congrArg Int32.toInt (((fu324 71 5 rfl).1).trans (((fu287 71 5 rfl).1).trans (((fu275 71 5 rfl).1).trans ((fu238 71 5 rfl).1))))
                    have lk391 : ((u324).1 71 48).toInt = (t.1 71 48).toInt := congrArg Int32.toInt (((fu324 71 48 rfl).1).trans (((fu287 71 48 rfl).1).trans (((fu275 71 48 rfl).1).trans ((fu238 71 48 rfl).1))))
                    have lk392 : ((u324).1 71 47).toInt = (t.1 71 47).toInt := congrArg Int32.toInt (((fu324 71 47 rfl).1).trans (((fu287 71 47 rfl).1).trans (((fu275 71 47 rfl).1).trans ((fu238 71 47 rfl).1))))
                    have lk393 : ((u324).1 71 55).toInt = (t.1 71 55).toInt := congrArg Int32.toInt (((fu324 71 55 rfl).1).trans (((fu287 71 55 rfl).1).trans (((fu275 71 55 rfl).1).trans ((fu238 71 55 rfl).1))))
                    refine r_aload_n C (j := 0) (oDec_at oX12_goesOn 190 rfl) rfl rfl ?_
                    refine r_callVi C oCl12 rfl miX12_mark mlX12_304 (ct_X12_mark l E (u324)  ) (by decide) rfl rfl rfl (Nat.le_of_ble_eq_true rfl) (oDec_at oX12_goesOn 191 rfl) (fun r395 u394 pu394 fu394 => ?_)
                    try dsimp only at pu394
                    have hxu394 := oFr_nil fu394; subst hxu394
                    have rr395 := n_rng r395
                    refine r_iconst C (oDec_at oX12_goesOn 192 rfl) (v := km1) (by rw [qkm1]; rfl) ?_
                    refine r_icmp_eq C 382 (oDec_at oX12_goesOn 193 rfl) (by decide) (fun cd396 => ?_) (fun cd396 => ?_)
                    · skip
                      have lk397 : ((u324).1 71 6).toInt = (t.1 71 6).toInt := congrArg Int32.toInt (((fu324 71 6 rfl).1).trans (((fu287 71 6 rfl).1).trans (((fu275 71 6 rfl).1).trans ((fu238 71 6 rfl).1))))
                      refine r_iconst C (oDec_at oX12_goesOn 202 rfl) (v := k0) (by rw [qk0]; rfl) ?_
                      have lk398 : ((u324).1 71 48).toInt = (t.1 71 48).toInt := congrArg Int32.toInt (((fu324 71 48 rfl).1).trans (((fu287 71 48 rfl).1).trans (((fu275 71 48 rfl).1).trans ((fu238 71 48 rfl).1))))
                      have lk399 : ((u324).1 71 45).toInt = (t.1 71 45).toInt := congrArg Int32.toInt (((fu324 71 45 rfl).1).trans (((fu287 71 45 rfl).1).trans (((fu275 71 45 rfl).1).trans ((fu238 71 45 rfl).1))))
                      have lk400 : ((u324).1 71 47).toInt = (t.1 71 47).toInt := congrArg Int32.toInt (((fu324 71 47 rfl).1).trans (((fu287 71 47 rfl).1).trans (((fu275 71 47 rfl).1).trans ((fu238 71 47 rfl).1))))
                      exact r_zret C (n_bool (by omega)) (oDec_at oX12_goesOn 203 rfl) ⟨_, rfl, ⟨by omega, by first | (intro h; exfalso; omega) | exact fun _ => (by assumption), by first | (intro h; exfalso; omega) | exact fun _ => ⟨(oQ_fr fu324 rfl (oQ_fr fu287 rfl (oQ_fr fu275 rfl (oQ_fr fu238 rfl iv0)))), by first | (intro hb; exfalso; omega) | exact fun _ => oMk_c pu394 (by omega)⟩, by omega, by omega, by omega, by first | (intro h; exfalso; omega) | exact fun _ => (by assumption), by first | (intro h; exfalso; omega) | exact fun _ => hq331, by first | (intro h; exfalso; omega) | exact fun _ => oqGe_b (by omega) | exact fun _ => oqGe_of (A := (t.1 71 2).toInt) (by omega) (by omega) (by omega) (by omega) (by omega) (by omega), (oqBP_fr fu324 rfl (oqBP_fr fu287 rfl (oqBP_fr fu275 rfl (oqBP_fr fu238 rfl iv10))))⟩⟩
                    · skip
                      have lk401 : ((u324).1 71 5).toInt = (t.1 71 5).toInt := congrArg Int32.toInt (((fu324 71 5 rfl).1).trans (((fu287 71 5 rfl).1).trans (((fu275 71 5 rfl).1).trans ((fu238 71 5 rfl).1))))
                      refine r_aload_n C (j := 0) (oDec_at oX12_goesOn 194 rfl) rfl rfl ?_
                      obtain ⟨v402, ev402⟩ : ∃ z : Int32, (u324).1 71 5 = z := ⟨_, rfl⟩
                      have gv402 : (t.1 71 5).toInt = v402.toInt := congrArg Int32.toInt ((((fu324 71 5 rfl).1).trans (((fu287 71 5 rfl).1).trans (((fu275 71 5 rfl).1).trans ((fu238 71 5 rfl).1)))).symm.trans ev402)
                      have ggv402 : ((u324).1 71 5).toInt = v402.toInt := congrArg Int32.toInt ev402
                      have rv402 := n_rng v402
                      refine r_geti (k := 5) (lo := (-2147483648)) (hi := 2147483647) C v402 oCl12 rfl (by decide) flX12_173 rfl rfl (ev402) rfl rfl (oDec_at oX12_goesOn 195 rfl) (fun _ _ => ?_)
                      refine r_if_ne C 382 (oDec_at oX12_goesOn 196 rfl) (by decide) (fun cd403 => ?_) (fun cd403 => ?_)
                      · skip
                        have lk404 : ((u324).1 71 6).toInt = (t.1 71 6).toInt := congrArg Int32.toInt (((fu324 71 6 rfl).1).trans (((fu287 71 6 rfl).1).trans (((fu275 71 6 rfl).1).trans ((fu238 71 6 rfl).1))))
                        refine r_iconst C (oDec_at oX12_goesOn 202 rfl) (v := k0) (by rw [qk0]; rfl) ?_
                        have lk405 : ((u324).1 71 48).toInt = (t.1 71 48).toInt := congrArg Int32.toInt (((fu324 71 48 rfl).1).trans (((fu287 71 48 rfl).1).trans (((fu275 71 48 rfl).1).trans ((fu238 71 48 rfl).1))))
                        have lk406 : ((u324).1 71 45).toInt = (t.1 71 45).toInt := congrArg Int32.toInt (((fu324 71 45 rfl).1).trans (((fu287 71 45 rfl).1).trans (((fu275 71 45 rfl).1).trans ((fu238 71 45 rfl).1))))
                        have lk407 : ((u324).1 71 47).toInt = (t.1 71 47).toInt := congrArg Int32.toInt (((fu324 71 47 rfl).1).trans (((fu287 71 47 rfl).1).trans (((fu275 71 47 rfl).1).trans ((fu238 71 47 rfl).1))))
                        exact r_zret C (n_bool (by omega)) (oDec_at oX12_goesOn 203 rfl) ⟨_, rfl, ⟨by omega, by first | (intro h; exfalso; omega) | exact fun _ => (by assumption), by first | (intro h; exfalso; omega) | exact fun _ => ⟨(oQ_fr fu324 rfl (oQ_fr fu287 rfl (oQ_fr fu275 rfl (oQ_fr fu238 rfl iv0)))), by first | (intro hb; exfalso; omega) | exact fun _ => oMk_c pu394 (by omega)⟩, by omega, by omega, by omega, by first | (intro h; exfalso; omega) | exact fun _ => (by assumption), by first | (intro h; exfalso; omega) | exact fun _ => hq331, by first | (intro h; exfalso; omega) | exact fun _ => oqGe_b (by omega) | exact fun _ => oqGe_of (A := (t.1 71 2).toInt) (by omega) (by omega) (by omega) (by omega) (by omega) (by omega), (oqBP_fr fu324 rfl (oqBP_fr fu287 rfl (oqBP_fr fu275 rfl (oqBP_fr fu238 rfl iv10))))⟩⟩
                      · skip
                        have lk408 : ((u324).1 71 4).toInt = (t.1 71 4).toInt := congrArg Int32.toInt (((fu324 71 4 rfl).1).trans (((fu287 71 4 rfl).1).trans (((fu275 71 4 rfl).1).trans ((fu238 71 4 rfl).1))))
                        have lk409 : ((u324).1 71 5).toInt = v402.toInt := congrArg Int32.toInt (ev402)
                        have lk410 : ((u324).1 71 48).toInt = (t.1 71 48).toInt := congrArg Int32.toInt (((fu324 71 48 rfl).1).trans (((fu287 71 48 rfl).1).trans (((fu275 71 48 rfl).1).trans ((fu238 71 48 rfl).1))))
                        have lk411 : ((u324).1 71 47).toInt = (t.1 71 47).toInt := congrArg Int32.toInt (((fu324 71 47 rfl).1).trans (((fu287 71 47 rfl).1).trans (((fu275 71 47 rfl).1).trans ((fu238 71 47 rfl).1))))
                        have lk412 : ((u324).1 71 55).toInt = (t.1 71 55).toInt := congrArg Int32.toInt (((fu324 71 55 rfl).1).trans (((fu287 71 55 rfl).1).trans (((fu275 71 55 rfl).1).trans ((fu238 71 55 rfl).1))))
                        have hh2 := oqHs_02 (oQ_fr fu324 rfl (oQ_fr fu287 rfl (oQ_fr fu275 rfl (oQ_fr fu238 rfl iv0)))) (by omega) pu332 pu386 pu394 (by omega) (by omega) (by omega) (by omega) (by omega) (by omega)
                        have hhs : oqHs b (u324) = hk := (oqHq_fr fu324 rfl (oqHq_fr fu287 rfl (oqHq_fr fu275 rfl (oqHq_fr fu238 rfl hq237))))
                        have hg41 := oqNc_g iv9 hhk (by omega)
                        refine r_aload_n C (j := 0) (oDec_at oX12_goesOn 197 rfl) rfl rfl ?_
                        refine r_iconst C (oDec_at oX12_goesOn 198 rfl) (v := k1) (by rw [qk1]; rfl) ?_
                        refine r_aload_n C (j := 0) (oDec_at oX12_goesOn 199 rfl) rfl rfl ?_
                        obtain ⟨v413, ev413⟩ : ∃ z : Int32, (u324).1 71 2 = z := ⟨_, rfl⟩
                        have gv413 : (u324.1 71 2).toInt = v413.toInt := congrArg Int32.toInt (ev413)
                        refine r_geti (k := 2) (lo := 0) (hi := 1600) C v413 oCl12 rfl (by decide) flX12_179 rfl rfl (ev413) rfl rfl (oDec_at oX12_goesOn 200 rfl) (fun b414 b414h => ?_)
                        have lk415 : ((u324).1 71 5).toInt = v402.toInt := congrArg Int32.toInt (ev402)
                        have lk416 : ((u324).1 71 5).toInt = v402.toInt := congrArg Int32.toInt (ev402)
                        have lk417 : ((u324).1 71 6).toInt = (t.1 71 6).toInt := congrArg Int32.toInt (((fu324 71 6 rfl).1).trans (((fu287 71 6 rfl).1).trans (((fu275 71 6 rfl).1).trans ((fu238 71 6 rfl).1))))
                        refine r_callVv C oCl12 rfl miX12_fail mlX12_203 (ct7_X12_fail l E (u324) k1 v413 (by omega) (oqBP_fr fu324 rfl (oqBP_fr fu287 rfl (oqBP_fr fu275 rfl (oqBP_fr fu238 rfl iv10))))) (by decide) rfl rfl rfl (Nat.le_of_ble_eq_true rfl) (oDec_at oX12_goesOn 201 rfl) (fun u418 pu418 fu418 => ?_)
                        try dsimp only at pu418
                        try simp only [lk415, lk416, lk417] at pu418
                        obtain ⟨pu418_0, pu418_1, pu418_2⟩ := pu418
                        have hq420 : oqJ g fp fq cz kx b 3 (u418) := oqJ_opF (s := u324) hq331 (by omega) hno (by omega) (by omega) (by omega)
                        refine r_iconst C (oDec_at oX12_goesOn 202 rfl) (v := k0) (by rw [qk0]; rfl) ?_
                        refine r_pc C 383 rfl ?_
                        have lk421 : ((u418).1 71 48).toInt = (t.1 71 48).toInt := congrArg Int32.toInt (((fu418 71 48 rfl).1).trans (((fu324 71 48 rfl).1).trans (((fu287 71 48 rfl).1).trans (((fu275 71 48 rfl).1).trans ((fu238 71 48 rfl).1)))))
                        have lk422 : ((u418).1 71 2).toInt = v413.toInt := congrArg Int32.toInt (((fu418 71 2 rfl).1).trans (ev413))
                        have lk423 : ((u418).1 71 45).toInt = (t.1 71 45).toInt := congrArg Int32.toInt (((fu418 71 45 rfl).1).trans (((fu324 71 45 rfl).1).trans (((fu287 71 45 rfl).1).trans (((fu275 71 45 rfl).1).trans ((fu238 71 45 rfl).1)))))
                        have lk424 : ((u418).1 71 47).toInt = (t.1 71 47).toInt := congrArg Int32.toInt (((fu418 71 47 rfl).1).trans (((fu324 71 47 rfl).1).trans (((fu287 71 47 rfl).1).trans (((fu275 71 47 rfl).1).trans ((fu238 71 47 rfl).1)))))
                        have lk425 : ((u418).1 71 2).toInt = v413.toInt := congrArg Int32.toInt (((fu418 71 2 rfl).1).trans (ev413))
                        exact r_zret C (n_bool (by omega)) (oDec_at oX12_goesOn 203 rfl) ⟨_, rfl, ⟨by omega, by first | (intro h; exfalso; omega) | exact fun _ => (by assumption), by first | (intro h; exfalso; omega) | exact fun _ => ⟨(oQ_frb fu418 rfl (by omega) (oQ_fr fu324 rfl (oQ_fr fu287 rfl (oQ_fr fu275 rfl (oQ_fr fu238 rfl iv0))))), by first | (intro hb; exfalso; omega) | exact fun _ => oMk_c pu418 (by omega)⟩, by omega, by omega, by omega, by first | (intro h; exfalso; omega) | exact fun _ => (by assumption), by first | (intro h; exfalso; omega) | exact fun _ => hq420, by first | (intro h; exfalso; omega) | exact fun _ => oqGe_b (by omega) | exact fun _ => oqGe_of (A := (t.1 71 2).toInt) (by omega) (by omega) (by omega) (by omega) (by omega) (by omega), pu418_2⟩⟩
                  · skip
                    have lk426 : ((u324).1 71 45).toInt = (t.1 71 45).toInt := congrArg Int32.toInt (((fu324 71 45 rfl).1).trans (((fu287 71 45 rfl).1).trans (((fu275 71 45 rfl).1).trans ((fu238 71 45 rfl).1))))
                    have lk427 : ((u324).1 71 47).toInt = (t.1 71 47).toInt := congrArg Int32.toInt (((fu324 71 47 rfl).1).trans (((fu287 71 47 rfl).1).trans (((fu275 71 47 rfl).1).trans ((fu238 71 47 rfl).1))))
                    have lk428 : ((u324).1 71 48).toInt = (t.1 71 48).toInt := congrArg Int32.toInt (((fu324 71 48 rfl).1).trans (((fu287 71 48 rfl).1).trans (((fu275 71 48 rfl).1).trans ((fu238 71 48 rfl).1))))
                    have lk429 : ((u324).1 71 4).toInt = (t.1 71 4).toInt := congrArg Int32.toInt (((fu324 71 4 rfl).1).trans (((fu287 71 4 rfl).1).trans (((fu275 71 4 rfl).1).trans ((fu238 71 4 rfl).1))))
                    have lk430 : ((u324).1 71 5).toInt = (t.1 71 5).toInt := congrArg Int32.toInt (((fu324 71 5 rfl).1).trans (((fu287 71 5 rfl).1).trans (((fu275 71 5 rfl).1).trans ((fu238 71 5 rfl).1))))
                    have lk431 : ((u324).1 71 55).toInt = (t.1 71 55).toInt := congrArg Int32.toInt (((fu324 71 55 rfl).1).trans (((fu287 71 55 rfl).1).trans (((fu275 71 55 rfl).1).trans ((fu238 71 55 rfl).1))))
                    have hh1 := oqHs_1 (oQ_fr fu324 rfl (oQ_fr fu287 rfl (oQ_fr fu275 rfl (oQ_fr fu238 rfl iv0)))) (by omega) pu386 (by omega) (by omega) (by omega) (by omega)
                    have hq432 : oMk (r387.toInt) (u324) := pu386
                    have hq433 : oqK b (oqSg ((u324).1 103) b (((u324).1 71 47).toNatClampNeg - b)) (u324) := rfl
                    refine r_aload_n C (j := 0) (oDec_at oX12_goesOn 167 rfl) rfl rfl ?_
                    refine r_bipush C (oDec_at oX12_goesOn 168 rfl) (v := k44) (by rw [qk44]; rfl) ?_
                    have lk434 : ((u324).1 71 5).toInt = (t.1 71 5).toInt := congrArg Int32.toInt (((fu324 71 5 rfl).1).trans (((fu287 71 5 rfl).1).trans (((fu275 71 5 rfl).1).trans ((fu238 71 5 rfl).1))))
                    have lk435 : ((u324).1 71 5).toInt = (t.1 71 5).toInt := congrArg Int32.toInt (((fu324 71 5 rfl).1).trans (((fu287 71 5 rfl).1).trans (((fu275 71 5 rfl).1).trans ((fu238 71 5 rfl).1))))
                    have lk436 : ((u324).1 71 6).toInt = (t.1 71 6).toInt := congrArg Int32.toInt (((fu324 71 6 rfl).1).trans (((fu287 71 6 rfl).1).trans (((fu275 71 6 rfl).1).trans ((fu238 71 6 rfl).1))))
                    have lk437 : ((u324).1 71 5).toInt = (t.1 71 5).toInt := congrArg Int32.toInt (((fu324 71 5 rfl).1).trans (((fu287 71 5 rfl).1).trans (((fu275 71 5 rfl).1).trans ((fu238 71 5 rfl).1))))
                    have lk438 : ((u324).1 71 6).toInt = (t.1 71 6).toInt := congrArg Int32.toInt (((fu324 71 6 rfl).1).trans (((fu287 71 6 rfl).1).trans (((fu275 71 6 rfl).1).trans ((fu238 71 6 rfl).1))))
                    have lk439 : ((u324).1 71 5).toInt = (t.1 71 5).toInt := congrArg Int32.toInt (((fu324 71 5 rfl).1).trans (((fu287 71 5 rfl).1).trans (((fu275 71 5 rfl).1).trans ((fu238 71 5 rfl).1))))
                    refine r_callVv C oCl12 rfl miX12_asksSign mlX12_248 (ct7_X12_asksSign l E (u324) k44 (g) ((t.1 71 2).toInt) (44) (by omega) (oqZ_fr fu324 rfl (oqZ_fr fu287 rfl (oqZ_fr fu275 rfl (oqZ_fr fu238 rfl iv7)))) (by omega) (by omega) (oqBP_fr fu324 rfl (oqBP_fr fu287 rfl (oqBP_fr fu275 rfl (oqBP_fr fu238 rfl iv10))))) (by decide) rfl rfl rfl (Nat.le_of_ble_eq_true rfl) (oDec_at oX12_goesOn 169 rfl) (fun u440 pu440 fu440 => ?_)
                    try dsimp only at pu440
                    try simp only [lk434, lk435, lk436, lk437, lk438, lk439] at pu440
                    obtain ⟨pu440_0, pu440_1, pu440_2, pu440_3, pu440_4⟩ := pu440
                    have lk442 : ((u440).1 71 4).toInt = (t.1 71 4).toInt := congrArg Int32.toInt (((fu440 71 4 rfl).1).trans (((fu324 71 4 rfl).1).trans (((fu287 71 4 rfl).1).trans (((fu275 71 4 rfl).1).trans ((fu238 71 4 rfl).1)))))
                    have lk443 : ((u440).1 71 48).toInt = (t.1 71 48).toInt := congrArg Int32.toInt (((fu440 71 48 rfl).1).trans (((fu324 71 48 rfl).1).trans (((fu287 71 48 rfl).1).trans (((fu275 71 48 rfl).1).trans ((fu238 71 48 rfl).1)))))
                    have lk444 : ((u440).1 71 47).toInt = (t.1 71 47).toInt := congrArg Int32.toInt (((fu440 71 47 rfl).1).trans (((fu324 71 47 rfl).1).trans (((fu287 71 47 rfl).1).trans (((fu275 71 47 rfl).1).trans ((fu238 71 47 rfl).1)))))
                    refine r_aload_n C (j := 0) (oDec_at oX12_goesOn 170 rfl) rfl rfl ?_
                    obtain ⟨v445, ev445⟩ : ∃ z : Int32, (u440).1 71 5 = z := ⟨_, rfl⟩
                    have gv445 : (u440.1 71 5).toInt = v445.toInt := congrArg Int32.toInt (ev445)
                    have rv445 := n_rng v445
                    refine r_geti (k := 5) (lo := (-2147483648)) (hi := 2147483647) C v445 oCl12 rfl (by decide) flX12_173 rfl rfl (ev445) rfl rfl (oDec_at oX12_goesOn 171 rfl) (fun _ _ => ?_)
                    refine r_if_eq C 337 (oDec_at oX12_goesOn 172 rfl) (by decide) (fun cd446 => ?_) (fun cd446 => ?_)
                    · skip
                      refine r_aload_n C (j := 0) (oDec_at oX12_goesOn 175 rfl) rfl rfl ?_
                      have lk447 : ((u440).1 71 55).toInt = (t.1 71 55).toInt := congrArg Int32.toInt (((fu440 71 55 rfl).1).trans (((fu324 71 55 rfl).1).trans (((fu287 71 55 rfl).1).trans (((fu275 71 55 rfl).1).trans ((fu238 71 55 rfl).1)))))
                      have lk448 : ((u440).1 71 5).toInt = v445.toInt := congrArg Int32.toInt (ev445)
                      have lk449 : ((u440).1 71 45).toInt = (t.1 71 45).toInt := congrArg Int32.toInt (((fu440 71 45 rfl).1).trans (((fu324 71 45 rfl).1).trans (((fu287 71 45 rfl).1).trans (((fu275 71 45 rfl).1).trans ((fu238 71 45 rfl).1)))))
                      have lk450 : ((u440).1 71 47).toInt = (t.1 71 47).toInt := congrArg Int32.toInt (((fu440 71 47 rfl).1).trans (((fu324 71 47 rfl).1).trans (((fu287 71 47 rfl).1).trans (((fu275 71 47 rfl).1).trans ((fu238 71 47 rfl).1)))))
                      have lk451 : ((u440).1 71 45).toInt = (t.1 71 45).toInt := congrArg Int32.toInt (((fu440 71 45 rfl).1).trans (((fu324 71 45 rfl).1).trans (((fu287 71 45 rfl).1).trans (((fu275 71 45 rfl).1).trans ((fu238 71 45 rfl).1)))))
                      have lk452 : ((u440).1 71 47).toInt = (t.1 71 47).toInt := congrArg Int32.toInt (((fu440 71 47 rfl).1).trans (((fu324 71 47 rfl).1).trans (((fu287 71 47 rfl).1).trans (((fu275 71 47 rfl).1).trans ((fu238 71 47 rfl).1)))))
                      have lk453 : ((u440).1 71 47).toInt = (t.1 71 47).toInt := congrArg Int32.toInt (((fu440 71 47 rfl).1).trans (((fu324 71 47 rfl).1).trans (((fu287 71 47 rfl).1).trans (((fu275 71 47 rfl).1).trans ((fu238 71 47 rfl).1)))))
                      refine r_callVv C oCl12 rfl miX12_dropsToMark mlX12_307 (ct5_X12_dropsToMark l E (u440)  (b) (x + 1) (r387.toInt) (oqSg ((u324).1 103) b (((u324).1 71 47).toNatClampNeg - b)) (oQ_frb fu440 rfl (by omega) (oQ_fr fu324 rfl (oQ_fr fu287 rfl (oQ_fr fu275 rfl (oQ_fr fu238 rfl iv0))))) (oMk_fr fu440 rfl hq432) (by omega) (by omega) (by omega) (by omega) (oqK_fr fu440 rfl hq433)) (by decide) rfl rfl rfl (Nat.le_of_ble_eq_true rfl) (oDec_at oX12_goesOn 176 rfl) (fun u454 pu454 fu454 => ?_)
                      try dsimp only at pu454
                      try simp only [lk447, lk448, lk449, lk450, lk451, lk452, lk453] at pu454
                      obtain ⟨pu454_0, pu454_1, pu454_2, pu454_3, pu454_4⟩ := pu454
                      have lk456 : ((u454).1 71 5).toInt = v445.toInt := congrArg Int32.toInt (((fu454 71 5 rfl).1).trans (ev445))
                      have lk457 : ((u454).1 71 48).toInt = (t.1 71 48).toInt := congrArg Int32.toInt (((fu454 71 48 rfl).1).trans (((fu440 71 48 rfl).1).trans (((fu324 71 48 rfl).1).trans (((fu287 71 48 rfl).1).trans (((fu275 71 48 rfl).1).trans ((fu238 71 48 rfl).1))))))
                      have lk458 : ((u454).1 71 2).toInt = (u440.1 71 2).toInt := congrArg Int32.toInt ((fu454 71 2 rfl).1)
                      have lk459 : ((u454).1 71 4).toInt = (t.1 71 4).toInt := congrArg Int32.toInt (((fu454 71 4 rfl).1).trans (((fu440 71 4 rfl).1).trans (((fu324 71 4 rfl).1).trans (((fu287 71 4 rfl).1).trans (((fu275 71 4 rfl).1).trans ((fu238 71 4 rfl).1))))))
                      have htp := pu454_3 (by omega)
                      refine r_aload_n C (j := 0) (oDec_at oX12_goesOn 177 rfl) rfl rfl ?_
                      refine r_getF (k := 46) (b := 103) C oCl12 rfl (by decide) flX12_111 rfl rfl rfl (oDec_at oX12_goesOn 178 rfl) ?_
                      refine r_aload_n C (j := 0) (oDec_at oX12_goesOn 179 rfl) rfl rfl ?_
                      obtain ⟨v460, ev460⟩ : ∃ z : Int32, (u454).1 71 47 = z := ⟨_, rfl⟩
                      have gv460 : (u454.1 71 47).toInt = v460.toInt := congrArg Int32.toInt (ev460)
                      refine r_geti (k := 47) (lo := 0) (hi := 1700) C v460 oCl12 rfl (by decide) flX12_277 rfl rfl (ev460) rfl rfl (oDec_at oX12_goesOn 180 rfl) (fun b461 b461h => ?_)
                      refine r_pc C 349 rfl ?_
                      refine r_iconst C (oDec_at oX12_goesOn 181 rfl) (v := k1) (by rw [qk1]; rfl) ?_
                      obtain ⟨v462, ev462⟩ : ∃ z : Int32, z = v460 - k1 := ⟨_, rfl⟩
                      have hv462 : v462.toInt = v460.toInt - k1.toInt := n_sub ev462 (by omega) (by omega)
                      refine r_isub C v462 (oDec_at oX12_goesOn 182 rfl) ev462 ?_
                      refine r_dup2 C (oDec_at oX12_goesOn 183 rfl) rfl rfl ?_
                      obtain ⟨v464, ev464⟩ : ∃ z : Int32, (u454).1 103 v462.toNatClampNeg = z := ⟨_, rfl⟩
                      have av464 : t.1 103 v462.toNatClampNeg = v464 := (((fu454 103 v462.toNatClampNeg rfl).1).trans (((fu440 103 v462.toNatClampNeg rfl).1).trans (((fu324 103 v462.toNatClampNeg rfl).1).trans (((fu287 103 v462.toNatClampNeg rfl).1).trans (((fu275 103 v462.toNatClampNeg rfl).1).trans ((fu238 103 v462.toNatClampNeg rfl).1)))))).symm.trans ev464
                      have gv464 : (t.1 103 v462.toNatClampNeg).toInt = v464.toInt := congrArg Int32.toInt ((((fu454 103 v462.toNatClampNeg rfl).1).trans (((fu440 103 v462.toNatClampNeg rfl).1).trans (((fu324 103 v462.toNatClampNeg rfl).1).trans (((fu287 103 v462.toNatClampNeg rfl).1).trans (((fu275 103 v462.toNatClampNeg rfl).1).trans ((fu238 103 v462.toNatClampNeg rfl).1)))))).symm.trans ev464)
                      have rv464 := n_rng v464
                      refine r_iald (n := 1700) (lo := (-2147483648)) (hi := 2147483647) C v464 rfl (by decide) rfl rfl ⟨by omega, by omega⟩ (by decide) ev464 rfl rfl (oDec_at oX12_goesOn 184 rfl) (fun _ _ => ?_)
                      have hv0 := oTop_of (s := u454) (i := v462) ev464 (by omega)
                      refine r_iconst C (oDec_at oX12_goesOn 185 rfl) (v := k2) (by rw [qk2]; rfl) ?_
                      obtain ⟨v465, ev465⟩ : ∃ z : Int32, z = v464 + k2 := ⟨_, rfl⟩
                      have hv465 : v465.toInt = v464.toInt + k2.toInt := n_add ev465 (by omega) (by omega)
                      refine r_iadd C v465 (oDec_at oX12_goesOn 186 rfl) ev465 ?_
                      refine r_pc C 355 rfl ?_
                      refine r_iast (n := 1700) (lo := (-2147483648)) (hi := 2147483647) C rfl (by decide) rfl rfl ⟨by omega, by omega⟩ (by decide) rfl rfl rfl rfl (n_rng _) (oDec_at oX12_goesOn 187 rfl) ?_
                      have hq466 : oQ b x ((pI u454 103 v462.toNatClampNeg v465)) := oQ_comma (x := x) pu454_0 (by omega) (by omega) (by assumption) (by omega)
                      have hq467 : oqJ g fp fq cz kx b 1 ((pI u454 103 v462.toNatClampNeg v465)) := oqJ_cm (s := u324) hq331 (by omega) (by omega) ((oFr_row fu454 (c := 103) rfl rfl).trans (oFr_row fu440 (c := 103) rfl rfl)) (by omega) (by omega) (by omega) (by omega) pu454_4 (by omega) (by omega) (by omega) (by omega)
                      refine r_iconst C (oDec_at oX12_goesOn 188 rfl) (v := k1) (by rw [qk1]; rfl) ?_
                      have lk468 : (((pI u454 103 v462.toNatClampNeg v465)).1 71 48).toInt = (t.1 71 48).toInt := congrArg Int32.toInt (((pI_ne (a := 71) (b := 48) (c := 103) _ _ (Or.inl (by decide)))).trans (((fu454 71 48 rfl).1).trans (((fu440 71 48 rfl).1).trans (((fu324 71 48 rfl).1).trans (((fu287 71 48 rfl).1).trans (((fu275 71 48 rfl).1).trans ((fu238 71 48 rfl).1)))))))
                      have lk469 : (((pI u454 103 v462.toNatClampNeg v465)).1 71 2).toInt = (u440.1 71 2).toInt := congrArg Int32.toInt (((pI_ne (a := 71) (b := 2) (c := 103) _ _ (Or.inl (by decide)))).trans ((fu454 71 2 rfl).1))
                      have lk470 : (((pI u454 103 v462.toNatClampNeg v465)).1 71 45).toInt = (u454.1 71 45).toInt := congrArg Int32.toInt ((pI_ne (a := 71) (b := 45) (c := 103) _ _ (Or.inl (by decide))))
                      have lk471 : (((pI u454 103 v462.toNatClampNeg v465)).1 71 47).toInt = v460.toInt := congrArg Int32.toInt (((pI_ne (a := 71) (b := 47) (c := 103) _ _ (Or.inl (by decide)))).trans (ev460))
                      have lk472 : (((pI u454 103 v462.toNatClampNeg v465)).1 71 2).toInt = (u440.1 71 2).toInt := congrArg Int32.toInt (((pI_ne (a := 71) (b := 2) (c := 103) _ _ (Or.inl (by decide)))).trans ((fu454 71 2 rfl).1))
                      exact r_zret C (n_bool (by omega)) (oDec_at oX12_goesOn 189 rfl) ⟨_, rfl, ⟨by omega, by first | (intro h; exfalso; omega) | exact fun _ => hq466, by first | (intro h; exfalso; omega) | exact fun _ => ⟨(by assumption), by first | (intro hb; exfalso; omega) | exact fun _ => oMk_c pu454 (by omega)⟩, by omega, by omega, by omega, by first | (intro h; exfalso; omega) | exact fun _ => hq467, by first | (intro h; exfalso; omega) | exact fun _ => (by assumption), by first | (intro h; exfalso; omega) | exact fun _ => oqGe_b (by omega) | exact fun _ => oqGe_of (A := (t.1 71 2).toInt) (by omega) (by omega) (by omega) (by omega) (by omega) (by omega), (oqBP_fr (oFr_oneI (q := 79) (m := 9999) rfl (by rfl)) rfl (oqBP_fr fu454 rfl pu440_4))⟩⟩
                    · skip
                      have hq473 : oqJ g fp fq cz kx b 3 (u440) := oqJ_opF (s := u324) hq331 (by omega) hno (by omega) (by omega) (by omega)
                      refine r_iconst C (oDec_at oX12_goesOn 173 rfl) (v := k0) (by rw [qk0]; rfl) ?_
                      have lk474 : ((u440).1 71 48).toInt = (t.1 71 48).toInt := congrArg Int32.toInt (((fu440 71 48 rfl).1).trans (((fu324 71 48 rfl).1).trans (((fu287 71 48 rfl).1).trans (((fu275 71 48 rfl).1).trans ((fu238 71 48 rfl).1)))))
                      have lk475 : ((u440).1 71 45).toInt = (t.1 71 45).toInt := congrArg Int32.toInt (((fu440 71 45 rfl).1).trans (((fu324 71 45 rfl).1).trans (((fu287 71 45 rfl).1).trans (((fu275 71 45 rfl).1).trans ((fu238 71 45 rfl).1)))))
                      have lk476 : ((u440).1 71 47).toInt = (t.1 71 47).toInt := congrArg Int32.toInt (((fu440 71 47 rfl).1).trans (((fu324 71 47 rfl).1).trans (((fu287 71 47 rfl).1).trans (((fu275 71 47 rfl).1).trans ((fu238 71 47 rfl).1)))))
                      exact r_zret C (n_bool (by omega)) (oDec_at oX12_goesOn 174 rfl) ⟨_, rfl, ⟨by omega, by first | (intro h; exfalso; omega) | exact fun _ => (by assumption), by first | (intro h; exfalso; omega) | exact fun _ => ⟨(oQ_frb fu440 rfl (by omega) (oQ_fr fu324 rfl (oQ_fr fu287 rfl (oQ_fr fu275 rfl (oQ_fr fu238 rfl iv0))))), by first | (intro hb; exfalso; omega) | exact fun _ => oMk_c pu440 (by omega)⟩, by omega, by omega, by omega, by first | (intro h; exfalso; omega) | exact fun _ => (by assumption), by first | (intro h; exfalso; omega) | exact fun _ => hq473, by first | (intro h; exfalso; omega) | exact fun _ => oqGe_b (by omega) | exact fun _ => oqGe_of (A := (t.1 71 2).toInt) (by omega) (by omega) (by omega) (by omega) (by omega) (by omega), pu440_4⟩⟩
              · skip
                replace pu324_1 := pu324_1 (by omega)
                clear pu324_2
                have lk477 : ((u324).1 71 4).toInt = (t.1 71 4).toInt := congrArg Int32.toInt (((fu324 71 4 rfl).1).trans (((fu287 71 4 rfl).1).trans (((fu275 71 4 rfl).1).trans ((fu238 71 4 rfl).1))))
                have lk478 : ((u324).1 71 5).toInt = (t.1 71 5).toInt := congrArg Int32.toInt (((fu324 71 5 rfl).1).trans (((fu287 71 5 rfl).1).trans (((fu275 71 5 rfl).1).trans ((fu238 71 5 rfl).1))))
                have lk479 : ((u324).1 71 48).toInt = (t.1 71 48).toInt := congrArg Int32.toInt (((fu324 71 48 rfl).1).trans (((fu287 71 48 rfl).1).trans (((fu275 71 48 rfl).1).trans ((fu238 71 48 rfl).1))))
                have lk480 : ((u324).1 71 47).toInt = (t.1 71 47).toInt := congrArg Int32.toInt (((fu324 71 47 rfl).1).trans (((fu287 71 47 rfl).1).trans (((fu275 71 47 rfl).1).trans ((fu238 71 47 rfl).1))))
                clear pu324_3
                have hq481 : oqJ g fp fq cz kx b 1 (u324) := oqJ_go hq319 (by omega) (by omega) (oFr_row fu324 (c := 103) rfl rfl) (congrArg Int32.toInt (fu324 71 47 rfl).1) (oqs_op (g := g) (p := fp) (q := fq) (a := (t.1 71 2).toInt) (b := (t.1 71 4).toInt) (o := (t.1 71 48).toInt) (by unfold oqOp; omega)) (by rw [show ((u287).1 71 2).toInt = (t.1 71 2).toInt by omega]; omega) (by first | omega | (congr 1; omega)) (by first | omega | (congr 1; omega)) (by first | omega | (congr 1; omega)) (by first | omega | (congr 1; omega)) (by first | omega | (congr 1; omega))
                refine r_aload_n C (j := 0) (oDec_at oX12_goesOn 113 rfl) rfl rfl ?_
                refine r_getF (k := 0) (b := 72) C oCl12 rfl (by decide) flX12_7 rfl rfl rfl (oDec_at oX12_goesOn 114 rfl) ?_
                refine r_aload_n C (j := 0) (oDec_at oX12_goesOn 115 rfl) rfl rfl ?_
                obtain ⟨v482, ev482⟩ : ∃ z : Int32, (u324).1 71 2 = z := ⟨_, rfl⟩
                have gv482 : (u324.1 71 2).toInt = v482.toInt := congrArg Int32.toInt (ev482)
                refine r_geti (k := 2) (lo := 0) (hi := 1600) C v482 oCl12 rfl (by decide) flX12_179 rfl rfl (ev482) rfl rfl (oDec_at oX12_goesOn 116 rfl) (fun b483 b483h => ?_)
                refine r_iconst C (oDec_at oX12_goesOn 117 rfl) (v := k1) (by rw [qk1]; rfl) ?_
                obtain ⟨v484, ev484⟩ : ∃ z : Int32, z = v482 - k1 := ⟨_, rfl⟩
                have hv484 : v484.toInt = v482.toInt - k1.toInt := n_sub ev484 (by omega) (by omega)
                refine r_isub C v484 (oDec_at oX12_goesOn 118 rfl) ev484 ?_
                refine r_pc C 231 rfl ?_
                obtain ⟨v486, ev486⟩ : ∃ z : Int32, (u324).1 72 v484.toNatClampNeg = z := ⟨_, rfl⟩
                have av486 : t.1 72 v484.toNatClampNeg = v486 := (((fu324 72 v484.toNatClampNeg rfl).1).trans (((fu287 72 v484.toNatClampNeg rfl).1).trans (((fu275 72 v484.toNatClampNeg rfl).1).trans ((fu238 72 v484.toNatClampNeg rfl).1)))).symm.trans ev486
                have gv486 : (t.1 72 v484.toNatClampNeg).toInt = v486.toInt := congrArg Int32.toInt ((((fu324 72 v484.toNatClampNeg rfl).1).trans (((fu287 72 v484.toNatClampNeg rfl).1).trans (((fu275 72 v484.toNatClampNeg rfl).1).trans ((fu238 72 v484.toNatClampNeg rfl).1)))).symm.trans ev486)
                refine r_iald (n := 1600) (lo := 0) (hi := 255) C v486 rfl (by decide) rfl rfl ⟨by omega, by omega⟩ (by decide) ev486 rfl rfl (oDec_at oX12_goesOn 119 rfl) (fun b485 b485h => ?_)
                refine r_bipush C (oDec_at oX12_goesOn 120 rfl) (v := k43) (by rw [qk43]; rfl) ?_
                refine r_icmp_ne C 241 (oDec_at oX12_goesOn 121 rfl) (by decide) (fun cd487 => ?_) (fun cd487 => ?_)
                · skip
                  refine r_iconst C (oDec_at oX12_goesOn 124 rfl) (v := k2) (by rw [qk2]; rfl) ?_
                  refine r_istore_n C (lv' := [(0, .ref (oad E 71)), (1, .int k2)]) [1, 0] (oDec_at oX12_goesOn 125 rfl) rfl (by decide) rfl ?_
                  have lk488 : ((u324).1 71 5).toInt = (t.1 71 5).toInt := congrArg Int32.toInt (((fu324 71 5 rfl).1).trans (((fu287 71 5 rfl).1).trans (((fu275 71 5 rfl).1).trans ((fu238 71 5 rfl).1))))
                  have lk489 : ((u324).1 71 48).toInt = (t.1 71 48).toInt := congrArg Int32.toInt (((fu324 71 48 rfl).1).trans (((fu287 71 48 rfl).1).trans (((fu275 71 48 rfl).1).trans ((fu238 71 48 rfl).1))))
                  have lk490 : ((u324).1 71 2).toInt = v482.toInt := congrArg Int32.toInt (ev482)
                  have lk491 : ((u324).1 71 45).toInt = (t.1 71 45).toInt := congrArg Int32.toInt (((fu324 71 45 rfl).1).trans (((fu287 71 45 rfl).1).trans (((fu275 71 45 rfl).1).trans ((fu238 71 45 rfl).1))))
                  have lk492 : ((u324).1 71 47).toInt = (t.1 71 47).toInt := congrArg Int32.toInt (((fu324 71 47 rfl).1).trans (((fu287 71 47 rfl).1).trans (((fu275 71 47 rfl).1).trans ((fu238 71 47 rfl).1))))
                  have lk493 : ((u324).1 71 2).toInt = v482.toInt := congrArg Int32.toInt (ev482)
                  have lk494 : ((u324).1 71 47).toInt = (t.1 71 47).toInt := congrArg Int32.toInt (((fu324 71 47 rfl).1).trans (((fu287 71 47 rfl).1).trans (((fu275 71 47 rfl).1).trans ((fu238 71 47 rfl).1))))
                  exact (ih (n - 1) (by omega)).2.2.2 (u324) k2  (oQ_fr fu324 rfl (oQ_fr fu287 rfl (oQ_fr fu275 rfl (oQ_fr fu238 rfl iv0)))) (by omega) (by omega) (by omega) (by omega) (by omega) hq481 (oqBP_fr fu324 rfl (oqBP_fr fu287 rfl (oqBP_fr fu275 rfl (oqBP_fr fu238 rfl iv10)))) (by omega)
                · skip
                  refine r_iconst C (oDec_at oX12_goesOn 122 rfl) (v := k1) (by rw [qk1]; rfl) ?_
                  refine r_goto C (tgt := 242) (oDec_at oX12_goesOn 123 rfl) (by decide) ?_
                  refine r_istore_n C (lv' := [(0, .ref (oad E 71)), (1, .int k1)]) [1, 0] (oDec_at oX12_goesOn 125 rfl) rfl (by decide) rfl ?_
                  have lk495 : ((u324).1 71 5).toInt = (t.1 71 5).toInt := congrArg Int32.toInt (((fu324 71 5 rfl).1).trans (((fu287 71 5 rfl).1).trans (((fu275 71 5 rfl).1).trans ((fu238 71 5 rfl).1))))
                  have lk496 : ((u324).1 71 48).toInt = (t.1 71 48).toInt := congrArg Int32.toInt (((fu324 71 48 rfl).1).trans (((fu287 71 48 rfl).1).trans (((fu275 71 48 rfl).1).trans ((fu238 71 48 rfl).1))))
                  have lk497 : ((u324).1 71 2).toInt = v482.toInt := congrArg Int32.toInt (ev482)
                  have lk498 : ((u324).1 71 45).toInt = (t.1 71 45).toInt := congrArg Int32.toInt (((fu324 71 45 rfl).1).trans (((fu287 71 45 rfl).1).trans (((fu275 71 45 rfl).1).trans ((fu238 71 45 rfl).1))))
                  have lk499 : ((u324).1 71 47).toInt = (t.1 71 47).toInt := congrArg Int32.toInt (((fu324 71 47 rfl).1).trans (((fu287 71 47 rfl).1).trans (((fu275 71 47 rfl).1).trans ((fu238 71 47 rfl).1))))
                  have lk500 : ((u324).1 71 2).toInt = v482.toInt := congrArg Int32.toInt (ev482)
                  have lk501 : ((u324).1 71 47).toInt = (t.1 71 47).toInt := congrArg Int32.toInt (((fu324 71 47 rfl).1).trans (((fu287 71 47 rfl).1).trans (((fu275 71 47 rfl).1).trans ((fu238 71 47 rfl).1))))
                  exact (ih (n - 1) (by omega)).2.2.2 (u324) k1  (oQ_fr fu324 rfl (oQ_fr fu287 rfl (oQ_fr fu275 rfl (oQ_fr fu238 rfl iv0)))) (by omega) (by omega) (by omega) (by omega) (by omega) hq481 (oqBP_fr fu324 rfl (oqBP_fr fu287 rfl (oqBP_fr fu275 rfl (oqBP_fr fu238 rfl iv10)))) (by omega)
          · skip
            replace pu275_1 := pu275_1 (by omega)
            clear pu275_2
            have lk502 : ((u275).1 71 4).toInt = (t.1 71 4).toInt := congrArg Int32.toInt (((fu275 71 4 rfl).1).trans ((fu238 71 4 rfl).1))
            have lk503 : ((u275).1 71 5).toInt = (t.1 71 5).toInt := congrArg Int32.toInt (((fu275 71 5 rfl).1).trans ((fu238 71 5 rfl).1))
            have lk504 : ((u275).1 71 48).toInt = (t.1 71 48).toInt := congrArg Int32.toInt (((fu275 71 48 rfl).1).trans ((fu238 71 48 rfl).1))
            have lk505 : ((u275).1 71 47).toInt = (t.1 71 47).toInt := congrArg Int32.toInt (((fu275 71 47 rfl).1).trans ((fu238 71 47 rfl).1))
            clear pu275_3
            have hq506 : oqJ g fp fq cz kx b 1 (u275) := oqJ_go hq270 (by omega) (by omega) (oFr_row fu275 (c := 103) rfl rfl) (congrArg Int32.toInt (fu275 71 47 rfl).1) (oqs_op (g := g) (p := fp) (q := fq) (a := (t.1 71 2).toInt) (b := (t.1 71 4).toInt) (o := (t.1 71 48).toInt) (by unfold oqOp; omega)) (by rw [show ((u238).1 71 2).toInt = (t.1 71 2).toInt by omega]; omega) (by first | omega | (congr 1; omega)) (by first | omega | (congr 1; omega)) (by first | omega | (congr 1; omega)) (by first | omega | (congr 1; omega)) (by first | omega | (congr 1; omega))
            refine r_aload_n C (j := 0) (oDec_at oX12_goesOn 67 rfl) rfl rfl ?_
            refine r_getF (k := 0) (b := 72) C oCl12 rfl (by decide) flX12_7 rfl rfl rfl (oDec_at oX12_goesOn 68 rfl) ?_
            refine r_aload_n C (j := 0) (oDec_at oX12_goesOn 69 rfl) rfl rfl ?_
            obtain ⟨v507, ev507⟩ : ∃ z : Int32, (u275).1 71 2 = z := ⟨_, rfl⟩
            have gv507 : (u275.1 71 2).toInt = v507.toInt := congrArg Int32.toInt (ev507)
            refine r_geti (k := 2) (lo := 0) (hi := 1600) C v507 oCl12 rfl (by decide) flX12_179 rfl rfl (ev507) rfl rfl (oDec_at oX12_goesOn 70 rfl) (fun b508 b508h => ?_)
            refine r_iconst C (oDec_at oX12_goesOn 71 rfl) (v := k1) (by rw [qk1]; rfl) ?_
            obtain ⟨v509, ev509⟩ : ∃ z : Int32, z = v507 - k1 := ⟨_, rfl⟩
            have hv509 : v509.toInt = v507.toInt - k1.toInt := n_sub ev509 (by omega) (by omega)
            refine r_isub C v509 (oDec_at oX12_goesOn 72 rfl) ev509 ?_
            refine r_pc C 146 rfl ?_
            obtain ⟨v511, ev511⟩ : ∃ z : Int32, (u275).1 72 v509.toNatClampNeg = z := ⟨_, rfl⟩
            have av511 : t.1 72 v509.toNatClampNeg = v511 := (((fu275 72 v509.toNatClampNeg rfl).1).trans ((fu238 72 v509.toNatClampNeg rfl).1)).symm.trans ev511
            have gv511 : (t.1 72 v509.toNatClampNeg).toInt = v511.toInt := congrArg Int32.toInt ((((fu275 72 v509.toNatClampNeg rfl).1).trans ((fu238 72 v509.toNatClampNeg rfl).1)).symm.trans ev511)
            refine r_iald (n := 1600) (lo := 0) (hi := 255) C v511 rfl (by decide) rfl rfl ⟨by omega, by omega⟩ (by decide) ev511 rfl rfl (oDec_at oX12_goesOn 73 rfl) (fun b510 b510h => ?_)
            refine r_bipush C (oDec_at oX12_goesOn 74 rfl) (v := k42) (by rw [qk42]; rfl) ?_
            refine r_icmp_ne C 156 (oDec_at oX12_goesOn 75 rfl) (by decide) (fun cd512 => ?_) (fun cd512 => ?_)
            · skip
              refine r_iconst C (oDec_at oX12_goesOn 78 rfl) (v := k4) (by rw [qk4]; rfl) ?_
              refine r_istore_n C (lv' := [(0, .ref (oad E 71)), (1, .int k4)]) [1, 0] (oDec_at oX12_goesOn 79 rfl) rfl (by decide) rfl ?_
              have lk513 : ((u275).1 71 5).toInt = (t.1 71 5).toInt := congrArg Int32.toInt (((fu275 71 5 rfl).1).trans ((fu238 71 5 rfl).1))
              have lk514 : ((u275).1 71 48).toInt = (t.1 71 48).toInt := congrArg Int32.toInt (((fu275 71 48 rfl).1).trans ((fu238 71 48 rfl).1))
              have lk515 : ((u275).1 71 2).toInt = v507.toInt := congrArg Int32.toInt (ev507)
              have lk516 : ((u275).1 71 45).toInt = (t.1 71 45).toInt := congrArg Int32.toInt (((fu275 71 45 rfl).1).trans ((fu238 71 45 rfl).1))
              have lk517 : ((u275).1 71 47).toInt = (t.1 71 47).toInt := congrArg Int32.toInt (((fu275 71 47 rfl).1).trans ((fu238 71 47 rfl).1))
              have lk518 : ((u275).1 71 2).toInt = v507.toInt := congrArg Int32.toInt (ev507)
              have lk519 : ((u275).1 71 47).toInt = (t.1 71 47).toInt := congrArg Int32.toInt (((fu275 71 47 rfl).1).trans ((fu238 71 47 rfl).1))
              exact (ih (n - 1) (by omega)).2.2.1 (u275) k4  (oQ_fr fu275 rfl (oQ_fr fu238 rfl iv0)) (by omega) (by omega) (by omega) (by omega) (by omega) hq506 (oqBP_fr fu275 rfl (oqBP_fr fu238 rfl iv10)) (by omega)
            · skip
              refine r_iconst C (oDec_at oX12_goesOn 76 rfl) (v := k3) (by rw [qk3]; rfl) ?_
              refine r_goto C (tgt := 157) (oDec_at oX12_goesOn 77 rfl) (by decide) ?_
              refine r_istore_n C (lv' := [(0, .ref (oad E 71)), (1, .int k3)]) [1, 0] (oDec_at oX12_goesOn 79 rfl) rfl (by decide) rfl ?_
              have lk520 : ((u275).1 71 5).toInt = (t.1 71 5).toInt := congrArg Int32.toInt (((fu275 71 5 rfl).1).trans ((fu238 71 5 rfl).1))
              have lk521 : ((u275).1 71 48).toInt = (t.1 71 48).toInt := congrArg Int32.toInt (((fu275 71 48 rfl).1).trans ((fu238 71 48 rfl).1))
              have lk522 : ((u275).1 71 2).toInt = v507.toInt := congrArg Int32.toInt (ev507)
              have lk523 : ((u275).1 71 45).toInt = (t.1 71 45).toInt := congrArg Int32.toInt (((fu275 71 45 rfl).1).trans ((fu238 71 45 rfl).1))
              have lk524 : ((u275).1 71 47).toInt = (t.1 71 47).toInt := congrArg Int32.toInt (((fu275 71 47 rfl).1).trans ((fu238 71 47 rfl).1))
              have lk525 : ((u275).1 71 2).toInt = v507.toInt := congrArg Int32.toInt (ev507)
              have lk526 : ((u275).1 71 47).toInt = (t.1 71 47).toInt := congrArg Int32.toInt (((fu275 71 47 rfl).1).trans ((fu238 71 47 rfl).1))
              exact (ih (n - 1) (by omega)).2.2.1 (u275) k3  (oQ_fr fu275 rfl (oQ_fr fu238 rfl iv0)) (by omega) (by omega) (by omega) (by omega) (by omega) hq506 (oqBP_fr fu275 rfl (oqBP_fr fu238 rfl iv10)) (by omega)
      · intro t x1  iv0 iv1 iv2 iv3 iv4 iv5 iv6 iv7 hmu
        have rx1 := n_rng x1
        refine r_ty C (fun hty => ?_)
        have hty_coded : (0 : Int) ≤ ((t).1 71 45).toInt ∧ ((t).1 71 45).toInt ≤ 1600 := hty.1 71 45
        have hty_waits : (0 : Int) ≤ ((t).1 71 47).toInt ∧ ((t).1 71 47).toInt ≤ 1700 := hty.1 71 47
        have hty_at : (0 : Int) ≤ ((t).1 71 2).toInt ∧ ((t).1 71 2).toInt ≤ 1600 := hty.1 71 2
        clear hty
        refine r_aload_n C (j := 0) (oDec_at oX12_goesOn 80 rfl) rfl rfl ?_
        refine r_iconst C (oDec_at oX12_goesOn 81 rfl) (v := k3) (by rw [qk3]; rfl) ?_
        refine r_callVi C oCl12 rfl miX12_isOn mlX12_310 (ct_X12_isOn l E (t) k3 ) (by decide) rfl rfl rfl (Nat.le_of_ble_eq_true rfl) (oDec_at oX12_goesOn 82 rfl) (fun r528 u527 pu527 fu527 => ?_)
        try dsimp only at pu527
        obtain ⟨pu527_0, pu527_1, pu527_2⟩ := pu527
        have hxu527 := oFr_nil fu527; subst hxu527
        have rr528 := n_rng r528
        refine r_if_ne C 174 (oDec_at oX12_goesOn 83 rfl) (by decide) (fun cd529 => ?_) (fun cd529 => ?_)
        · skip
          replace pu527_1 := pu527_1 (by omega)
          clear pu527_2
          have hbt := oQ_bB iv0 (by omega) (by omega) (by omega) (by omega)
          refine r_aload_n C (j := 0) (oDec_at oX12_goesOn 88 rfl) rfl rfl ?_
          refine r_callVv C oCl12 rfl miX12_drops mlX12_289 (ct_X12_drops l E (t)  (by omega) (by omega)) (by decide) rfl rfl rfl (Nat.le_of_ble_eq_true rfl) (oDec_at oX12_goesOn 89 rfl) (fun u530 pu530 fu530 => ?_)
          try dsimp only at pu530
          obtain ⟨pu530_0, pu530_1, pu530_2⟩ := pu530
          have hq532 : oQ b (x + 1) (u530) := oQ_drop iv0 pu530_0 (by omega) (by omega) (by omega) (by omega)
          have hq533 : oqJ g fp fq cz kx b 1 (u530) := oqJ_drop iv6 pu530_0 (by omega) (fun _ => hbt) (fun _ => oqCd_no (by omega))
          refine r_goto C (tgt := 158) (oDec_at oX12_goesOn 90 rfl) (by decide) ?_
          have lk534 : ((u530).1 71 5).toInt = (t.1 71 5).toInt := congrArg Int32.toInt ((fu530 71 5 rfl).1)
          have lk535 : ((u530).1 71 48).toInt = (t.1 71 48).toInt := congrArg Int32.toInt ((fu530 71 48 rfl).1)
          have lk536 : ((u530).1 71 2).toInt = (t.1 71 2).toInt := congrArg Int32.toInt ((fu530 71 2 rfl).1)
          have lk537 : ((u530).1 71 2).toInt = (t.1 71 2).toInt := congrArg Int32.toInt ((fu530 71 2 rfl).1)
          exact (ih (n - 1) (by omega)).2.2.1 (u530) x1  hq532 (by omega) (by omega) (by omega) (by omega) (by omega) hq533 (oqBP_fr fu530 rfl iv7) (by omega)
        · skip
          clear pu527_1
          replace pu527_2 := pu527_2 (by omega)
          refine r_aload_n C (j := 0) (oDec_at oX12_goesOn 84 rfl) rfl rfl ?_
          refine r_iconst C (oDec_at oX12_goesOn 85 rfl) (v := k4) (by rw [qk4]; rfl) ?_
          refine r_callVi C oCl12 rfl miX12_isOn mlX12_310 (ct_X12_isOn l E (t) k4 ) (by decide) rfl rfl rfl (Nat.le_of_ble_eq_true rfl) (oDec_at oX12_goesOn 86 rfl) (fun r539 u538 pu538 fu538 => ?_)
          try dsimp only at pu538
          obtain ⟨pu538_0, pu538_1, pu538_2⟩ := pu538
          have hxu538 := oFr_nil fu538; subst hxu538
          have rr539 := n_rng r539
          refine r_if_eq C 181 (oDec_at oX12_goesOn 87 rfl) (by decide) (fun cd540 => ?_) (fun cd540 => ?_)
          · skip
            clear pu538_1
            replace pu538_2 := pu538_2 (by omega)
            refine r_aload_n C (j := 0) (oDec_at oX12_goesOn 91 rfl) rfl rfl ?_
            refine r_getF (k := 46) (b := 103) C oCl12 rfl (by decide) flX12_111 rfl rfl rfl (oDec_at oX12_goesOn 92 rfl) ?_
            refine r_aload_n C (j := 0) (oDec_at oX12_goesOn 93 rfl) rfl rfl ?_
            obtain ⟨v541, ev541⟩ : ∃ z : Int32, (t).1 71 47 = z := ⟨_, rfl⟩
            have gv541 : (t.1 71 47).toInt = v541.toInt := congrArg Int32.toInt (ev541)
            refine r_geti (k := 47) (lo := 0) (hi := 1700) C v541 oCl12 rfl (by decide) flX12_277 rfl rfl (ev541) rfl rfl (oDec_at oX12_goesOn 94 rfl) (fun b542 b542h => ?_)
            refine r_iload_n C (j := 1) (oDec_at oX12_goesOn 95 rfl) rfl rfl ?_
            refine r_iast (n := 1700) (lo := (-2147483648)) (hi := 2147483647) C rfl (by decide) rfl rfl ⟨by omega, by omega⟩ (by decide) rfl rfl rfl rfl (n_rng _) (oDec_at oX12_goesOn 96 rfl) ?_
            refine r_pc C 191 rfl ?_
            refine r_aload_n C (j := 0) (oDec_at oX12_goesOn 97 rfl) rfl rfl ?_
            refine r_dup C (oDec_at oX12_goesOn 98 rfl) rfl ?_
            refine r_geti (k := 47) (lo := 0) (hi := 1700) C v541 oCl12 rfl (by decide) flX12_277 rfl rfl (((pI_ne (a := 71) (b := 47) (c := 103) _ _ (Or.inl (by decide)))).trans (ev541)) rfl rfl (oDec_at oX12_goesOn 99 rfl) (fun _ _ => ?_)
            refine r_iconst C (oDec_at oX12_goesOn 100 rfl) (v := k1) (by rw [qk1]; rfl) ?_
            obtain ⟨v543, ev543⟩ : ∃ z : Int32, z = v541 + k1 := ⟨_, rfl⟩
            have hv543 : v543.toInt = v541.toInt + k1.toInt := n_add ev543 (by omega) (by omega)
            refine r_iadd C v543 (oDec_at oX12_goesOn 101 rfl) ev543 ?_
            refine r_puti (k := 47) (lo := 0) (hi := 1700) C oCl12 rfl (by decide) flX12_277 rfl rfl rfl rfl rfl rfl rfl rfl ⟨by omega, by omega⟩ (oDec_at oX12_goesOn 102 rfl) ?_
            refine r_pc C 201 rfl ?_
            have hq544 : oQ b x ((pI (pI t 103 v541.toNatClampNeg x1) 71 47 v543)) := oQ_push (x := x) iv0 (by assumption) (by omega) (by omega) (by omega)
            have hq545 : oqJ g fp fq cz kx b 1 ((pI (pI t 103 v541.toNatClampNeg x1) 71 47 v543)) := oqJ_push iv6 (by assumption) (by omega) (by omega) (by omega)
            refine r_iconst C (oDec_at oX12_goesOn 103 rfl) (v := k1) (by rw [qk1]; rfl) ?_
            have lk546 : (((pI (pI t 103 v541.toNatClampNeg x1) 71 47 v543)).1 71 48).toInt = (t.1 71 48).toInt := congrArg Int32.toInt (((pI_ne (a := 71) (b := 48) (c := 71) (k := 47) _ _ (Or.inr (by decide)))).trans ((pI_ne (a := 71) (b := 48) (c := 103) _ _ (Or.inl (by decide)))))
            have lk547 : (((pI (pI t 103 v541.toNatClampNeg x1) 71 47 v543)).1 71 2).toInt = (t.1 71 2).toInt := congrArg Int32.toInt (((pI_ne (a := 71) (b := 2) (c := 71) (k := 47) _ _ (Or.inr (by decide)))).trans ((pI_ne (a := 71) (b := 2) (c := 103) _ _ (Or.inl (by decide)))))
            have lk548 : (((pI (pI t 103 v541.toNatClampNeg x1) 71 47 v543)).1 71 45).toInt = (t.1 71 45).toInt := congrArg Int32.toInt (((pI_ne (a := 71) (b := 45) (c := 71) (k := 47) _ _ (Or.inr (by decide)))).trans ((pI_ne (a := 71) (b := 45) (c := 103) _ _ (Or.inl (by decide)))))
            have lk549 : (((pI (pI t 103 v541.toNatClampNeg x1) 71 47 v543)).1 71 47).toInt = v543.toInt := congrArg Int32.toInt ((pI_self _ _ _ _))
            have lk550 : (((pI (pI t 103 v541.toNatClampNeg x1) 71 47 v543)).1 71 2).toInt = (t.1 71 2).toInt := congrArg Int32.toInt (((pI_ne (a := 71) (b := 2) (c := 71) (k := 47) _ _ (Or.inr (by decide)))).trans ((pI_ne (a := 71) (b := 2) (c := 103) _ _ (Or.inl (by decide)))))
            exact r_zret C (n_bool (by omega)) (oDec_at oX12_goesOn 104 rfl) ⟨_, rfl, ⟨by omega, by first | (intro h; exfalso; omega) | exact fun _ => hq544, by first | (intro h; exfalso; omega) | exact fun _ => ⟨(by assumption), by first | (intro hb; exfalso; omega) | exact fun _ => oMk_c pu538 (by omega)⟩, by omega, by omega, by omega, by first | (intro h; exfalso; omega) | exact fun _ => hq545, by first | (intro h; exfalso; omega) | exact fun _ => (by assumption), by first | (intro h; exfalso; omega) | exact fun _ => oqGe_b (by omega) | exact fun _ => oqGe_of (A := (t.1 71 2).toInt) (by omega) (by omega) (by omega) (by omega) (by omega) (by omega), (oqBP_fr (oFr_oneI (q := 12) (m := 47) rfl (by rfl)) rfl (oqBP_fr (oFr_oneI (q := 79) (m := 9999) rfl (by rfl)) rfl iv7))⟩⟩
          · skip
            replace pu538_1 := pu538_1 (by omega)
            clear pu538_2
            have hbt := oQ_bB iv0 (by omega) (by omega) (by omega) (by omega)
            refine r_aload_n C (j := 0) (oDec_at oX12_goesOn 88 rfl) rfl rfl ?_
            refine r_callVv C oCl12 rfl miX12_drops mlX12_289 (ct_X12_drops l E (t)  (by omega) (by omega)) (by decide) rfl rfl rfl (Nat.le_of_ble_eq_true rfl) (oDec_at oX12_goesOn 89 rfl) (fun u551 pu551 fu551 => ?_)
            try dsimp only at pu551
            obtain ⟨pu551_0, pu551_1, pu551_2⟩ := pu551
            have hq553 : oQ b (x + 1) (u551) := oQ_drop iv0 pu551_0 (by omega) (by omega) (by omega) (by omega)
            have hq554 : oqJ g fp fq cz kx b 1 (u551) := oqJ_drop iv6 pu551_0 (by omega) (fun _ => hbt) (fun _ => oqCd_no (by omega))
            refine r_goto C (tgt := 158) (oDec_at oX12_goesOn 90 rfl) (by decide) ?_
            have lk555 : ((u551).1 71 5).toInt = (t.1 71 5).toInt := congrArg Int32.toInt ((fu551 71 5 rfl).1)
            have lk556 : ((u551).1 71 48).toInt = (t.1 71 48).toInt := congrArg Int32.toInt ((fu551 71 48 rfl).1)
            have lk557 : ((u551).1 71 2).toInt = (t.1 71 2).toInt := congrArg Int32.toInt ((fu551 71 2 rfl).1)
            have lk558 : ((u551).1 71 2).toInt = (t.1 71 2).toInt := congrArg Int32.toInt ((fu551 71 2 rfl).1)
            exact (ih (n - 1) (by omega)).2.2.1 (u551) x1  hq553 (by omega) (by omega) (by omega) (by omega) (by omega) hq554 (oqBP_fr fu551 rfl iv7) (by omega)
      · intro t x1  iv0 iv1 iv2 iv3 iv4 iv5 iv6 iv7 hmu
        have rx1 := n_rng x1
        refine r_ty C (fun hty => ?_)
        have hty_coded : (0 : Int) ≤ ((t).1 71 45).toInt ∧ ((t).1 71 45).toInt ≤ 1600 := hty.1 71 45
        have hty_waits : (0 : Int) ≤ ((t).1 71 47).toInt ∧ ((t).1 71 47).toInt ≤ 1700 := hty.1 71 47
        have hty_at : (0 : Int) ≤ ((t).1 71 2).toInt ∧ ((t).1 71 2).toInt ≤ 1600 := hty.1 71 2
        clear hty
        refine r_aload_n C (j := 0) (oDec_at oX12_goesOn 126 rfl) rfl rfl ?_
        refine r_iconst C (oDec_at oX12_goesOn 127 rfl) (v := k3) (by rw [qk3]; rfl) ?_
        refine r_callVi C oCl12 rfl miX12_isOn mlX12_310 (ct_X12_isOn l E (t) k3 ) (by decide) rfl rfl rfl (Nat.le_of_ble_eq_true rfl) (oDec_at oX12_goesOn 128 rfl) (fun r560 u559 pu559 fu559 => ?_)
        try dsimp only at pu559
        obtain ⟨pu559_0, pu559_1, pu559_2⟩ := pu559
        have hxu559 := oFr_nil fu559; subst hxu559
        have rr560 := n_rng r560
        refine r_if_ne C 275 (oDec_at oX12_goesOn 129 rfl) (by decide) (fun cd561 => ?_) (fun cd561 => ?_)
        · skip
          replace pu559_1 := pu559_1 (by omega)
          clear pu559_2
          have hbt := oQ_bB iv0 (by omega) (by omega) (by omega) (by omega)
          refine r_aload_n C (j := 0) (oDec_at oX12_goesOn 142 rfl) rfl rfl ?_
          refine r_callVv C oCl12 rfl miX12_drops mlX12_289 (ct_X12_drops l E (t)  (by omega) (by omega)) (by decide) rfl rfl rfl (Nat.le_of_ble_eq_true rfl) (oDec_at oX12_goesOn 143 rfl) (fun u562 pu562 fu562 => ?_)
          try dsimp only at pu562
          obtain ⟨pu562_0, pu562_1, pu562_2⟩ := pu562
          have hq564 : oQ b (x + 1) (u562) := oQ_drop iv0 pu562_0 (by omega) (by omega) (by omega) (by omega)
          have hq565 : oqJ g fp fq cz kx b 1 (u562) := oqJ_drop iv6 pu562_0 (by omega) (fun _ => hbt) (fun _ => oqCd_no (by omega))
          refine r_goto C (tgt := 243) (oDec_at oX12_goesOn 144 rfl) (by decide) ?_
          have lk566 : ((u562).1 71 5).toInt = (t.1 71 5).toInt := congrArg Int32.toInt ((fu562 71 5 rfl).1)
          have lk567 : ((u562).1 71 48).toInt = (t.1 71 48).toInt := congrArg Int32.toInt ((fu562 71 48 rfl).1)
          have lk568 : ((u562).1 71 2).toInt = (t.1 71 2).toInt := congrArg Int32.toInt ((fu562 71 2 rfl).1)
          have lk569 : ((u562).1 71 2).toInt = (t.1 71 2).toInt := congrArg Int32.toInt ((fu562 71 2 rfl).1)
          exact (ih (n - 1) (by omega)).2.2.2 (u562) x1  hq564 (by omega) (by omega) (by omega) (by omega) (by omega) hq565 (oqBP_fr fu562 rfl iv7) (by omega)
        · skip
          clear pu559_1
          replace pu559_2 := pu559_2 (by omega)
          refine r_aload_n C (j := 0) (oDec_at oX12_goesOn 130 rfl) rfl rfl ?_
          refine r_iconst C (oDec_at oX12_goesOn 131 rfl) (v := k4) (by rw [qk4]; rfl) ?_
          refine r_callVi C oCl12 rfl miX12_isOn mlX12_310 (ct_X12_isOn l E (t) k4 ) (by decide) rfl rfl rfl (Nat.le_of_ble_eq_true rfl) (oDec_at oX12_goesOn 132 rfl) (fun r571 u570 pu570 fu570 => ?_)
          try dsimp only at pu570
          obtain ⟨pu570_0, pu570_1, pu570_2⟩ := pu570
          have hxu570 := oFr_nil fu570; subst hxu570
          have rr571 := n_rng r571
          refine r_if_ne C 275 (oDec_at oX12_goesOn 133 rfl) (by decide) (fun cd572 => ?_) (fun cd572 => ?_)
          · skip
            replace pu570_1 := pu570_1 (by omega)
            clear pu570_2
            have hbt := oQ_bB iv0 (by omega) (by omega) (by omega) (by omega)
            refine r_aload_n C (j := 0) (oDec_at oX12_goesOn 142 rfl) rfl rfl ?_
            refine r_callVv C oCl12 rfl miX12_drops mlX12_289 (ct_X12_drops l E (t)  (by omega) (by omega)) (by decide) rfl rfl rfl (Nat.le_of_ble_eq_true rfl) (oDec_at oX12_goesOn 143 rfl) (fun u573 pu573 fu573 => ?_)
            try dsimp only at pu573
            obtain ⟨pu573_0, pu573_1, pu573_2⟩ := pu573
            have hq575 : oQ b (x + 1) (u573) := oQ_drop iv0 pu573_0 (by omega) (by omega) (by omega) (by omega)
            have hq576 : oqJ g fp fq cz kx b 1 (u573) := oqJ_drop iv6 pu573_0 (by omega) (fun _ => hbt) (fun _ => oqCd_no (by omega))
            refine r_goto C (tgt := 243) (oDec_at oX12_goesOn 144 rfl) (by decide) ?_
            have lk577 : ((u573).1 71 5).toInt = (t.1 71 5).toInt := congrArg Int32.toInt ((fu573 71 5 rfl).1)
            have lk578 : ((u573).1 71 48).toInt = (t.1 71 48).toInt := congrArg Int32.toInt ((fu573 71 48 rfl).1)
            have lk579 : ((u573).1 71 2).toInt = (t.1 71 2).toInt := congrArg Int32.toInt ((fu573 71 2 rfl).1)
            have lk580 : ((u573).1 71 2).toInt = (t.1 71 2).toInt := congrArg Int32.toInt ((fu573 71 2 rfl).1)
            exact (ih (n - 1) (by omega)).2.2.2 (u573) x1  hq575 (by omega) (by omega) (by omega) (by omega) (by omega) hq576 (oqBP_fr fu573 rfl iv7) (by omega)
          · skip
            clear pu570_1
            replace pu570_2 := pu570_2 (by omega)
            refine r_aload_n C (j := 0) (oDec_at oX12_goesOn 134 rfl) rfl rfl ?_
            refine r_iconst C (oDec_at oX12_goesOn 135 rfl) (v := k1) (by rw [qk1]; rfl) ?_
            refine r_callVi C oCl12 rfl miX12_isOn mlX12_310 (ct_X12_isOn l E (t) k1 ) (by decide) rfl rfl rfl (Nat.le_of_ble_eq_true rfl) (oDec_at oX12_goesOn 136 rfl) (fun r582 u581 pu581 fu581 => ?_)
            try dsimp only at pu581
            obtain ⟨pu581_0, pu581_1, pu581_2⟩ := pu581
            have hxu581 := oFr_nil fu581; subst hxu581
            have rr582 := n_rng r582
            refine r_if_ne C 275 (oDec_at oX12_goesOn 137 rfl) (by decide) (fun cd583 => ?_) (fun cd583 => ?_)
            · skip
              replace pu581_1 := pu581_1 (by omega)
              clear pu581_2
              have hbt := oQ_bB iv0 (by omega) (by omega) (by omega) (by omega)
              refine r_aload_n C (j := 0) (oDec_at oX12_goesOn 142 rfl) rfl rfl ?_
              refine r_callVv C oCl12 rfl miX12_drops mlX12_289 (ct_X12_drops l E (t)  (by omega) (by omega)) (by decide) rfl rfl rfl (Nat.le_of_ble_eq_true rfl) (oDec_at oX12_goesOn 143 rfl) (fun u584 pu584 fu584 => ?_)
              try dsimp only at pu584
              obtain ⟨pu584_0, pu584_1, pu584_2⟩ := pu584
              have hq586 : oQ b (x + 1) (u584) := oQ_drop iv0 pu584_0 (by omega) (by omega) (by omega) (by omega)
              have hq587 : oqJ g fp fq cz kx b 1 (u584) := oqJ_drop iv6 pu584_0 (by omega) (fun _ => hbt) (fun _ => oqCd_no (by omega))
              refine r_goto C (tgt := 243) (oDec_at oX12_goesOn 144 rfl) (by decide) ?_
              have lk588 : ((u584).1 71 5).toInt = (t.1 71 5).toInt := congrArg Int32.toInt ((fu584 71 5 rfl).1)
              have lk589 : ((u584).1 71 48).toInt = (t.1 71 48).toInt := congrArg Int32.toInt ((fu584 71 48 rfl).1)
              have lk590 : ((u584).1 71 2).toInt = (t.1 71 2).toInt := congrArg Int32.toInt ((fu584 71 2 rfl).1)
              have lk591 : ((u584).1 71 2).toInt = (t.1 71 2).toInt := congrArg Int32.toInt ((fu584 71 2 rfl).1)
              exact (ih (n - 1) (by omega)).2.2.2 (u584) x1  hq586 (by omega) (by omega) (by omega) (by omega) (by omega) hq587 (oqBP_fr fu584 rfl iv7) (by omega)
            · skip
              clear pu581_1
              replace pu581_2 := pu581_2 (by omega)
              refine r_aload_n C (j := 0) (oDec_at oX12_goesOn 138 rfl) rfl rfl ?_
              refine r_iconst C (oDec_at oX12_goesOn 139 rfl) (v := k2) (by rw [qk2]; rfl) ?_
              refine r_callVi C oCl12 rfl miX12_isOn mlX12_310 (ct_X12_isOn l E (t) k2 ) (by decide) rfl rfl rfl (Nat.le_of_ble_eq_true rfl) (oDec_at oX12_goesOn 140 rfl) (fun r593 u592 pu592 fu592 => ?_)
              try dsimp only at pu592
              obtain ⟨pu592_0, pu592_1, pu592_2⟩ := pu592
              have hxu592 := oFr_nil fu592; subst hxu592
              have rr593 := n_rng r593
              refine r_if_eq C 282 (oDec_at oX12_goesOn 141 rfl) (by decide) (fun cd594 => ?_) (fun cd594 => ?_)
              · skip
                clear pu592_1
                replace pu592_2 := pu592_2 (by omega)
                refine r_aload_n C (j := 0) (oDec_at oX12_goesOn 145 rfl) rfl rfl ?_
                refine r_getF (k := 46) (b := 103) C oCl12 rfl (by decide) flX12_111 rfl rfl rfl (oDec_at oX12_goesOn 146 rfl) ?_
                refine r_aload_n C (j := 0) (oDec_at oX12_goesOn 147 rfl) rfl rfl ?_
                obtain ⟨v595, ev595⟩ : ∃ z : Int32, (t).1 71 47 = z := ⟨_, rfl⟩
                have gv595 : (t.1 71 47).toInt = v595.toInt := congrArg Int32.toInt (ev595)
                refine r_geti (k := 47) (lo := 0) (hi := 1700) C v595 oCl12 rfl (by decide) flX12_277 rfl rfl (ev595) rfl rfl (oDec_at oX12_goesOn 148 rfl) (fun b596 b596h => ?_)
                refine r_iload_n C (j := 1) (oDec_at oX12_goesOn 149 rfl) rfl rfl ?_
                refine r_iast (n := 1700) (lo := (-2147483648)) (hi := 2147483647) C rfl (by decide) rfl rfl ⟨by omega, by omega⟩ (by decide) rfl rfl rfl rfl (n_rng _) (oDec_at oX12_goesOn 150 rfl) ?_
                refine r_pc C 292 rfl ?_
                refine r_aload_n C (j := 0) (oDec_at oX12_goesOn 151 rfl) rfl rfl ?_
                refine r_dup C (oDec_at oX12_goesOn 152 rfl) rfl ?_
                refine r_geti (k := 47) (lo := 0) (hi := 1700) C v595 oCl12 rfl (by decide) flX12_277 rfl rfl (((pI_ne (a := 71) (b := 47) (c := 103) _ _ (Or.inl (by decide)))).trans (ev595)) rfl rfl (oDec_at oX12_goesOn 153 rfl) (fun _ _ => ?_)
                refine r_iconst C (oDec_at oX12_goesOn 154 rfl) (v := k1) (by rw [qk1]; rfl) ?_
                obtain ⟨v597, ev597⟩ : ∃ z : Int32, z = v595 + k1 := ⟨_, rfl⟩
                have hv597 : v597.toInt = v595.toInt + k1.toInt := n_add ev597 (by omega) (by omega)
                refine r_iadd C v597 (oDec_at oX12_goesOn 155 rfl) ev597 ?_
                refine r_puti (k := 47) (lo := 0) (hi := 1700) C oCl12 rfl (by decide) flX12_277 rfl rfl rfl rfl rfl rfl rfl rfl ⟨by omega, by omega⟩ (oDec_at oX12_goesOn 156 rfl) ?_
                refine r_pc C 302 rfl ?_
                have hq598 : oQ b x ((pI (pI t 103 v595.toNatClampNeg x1) 71 47 v597)) := oQ_push (x := x) iv0 (by assumption) (by omega) (by omega) (by omega)
                have hq599 : oqJ g fp fq cz kx b 1 ((pI (pI t 103 v595.toNatClampNeg x1) 71 47 v597)) := oqJ_push iv6 (by assumption) (by omega) (by omega) (by omega)
                refine r_iconst C (oDec_at oX12_goesOn 157 rfl) (v := k1) (by rw [qk1]; rfl) ?_
                have lk600 : (((pI (pI t 103 v595.toNatClampNeg x1) 71 47 v597)).1 71 48).toInt = (t.1 71 48).toInt := congrArg Int32.toInt (((pI_ne (a := 71) (b := 48) (c := 71) (k := 47) _ _ (Or.inr (by decide)))).trans ((pI_ne (a := 71) (b := 48) (c := 103) _ _ (Or.inl (by decide)))))
                have lk601 : (((pI (pI t 103 v595.toNatClampNeg x1) 71 47 v597)).1 71 2).toInt = (t.1 71 2).toInt := congrArg Int32.toInt (((pI_ne (a := 71) (b := 2) (c := 71) (k := 47) _ _ (Or.inr (by decide)))).trans ((pI_ne (a := 71) (b := 2) (c := 103) _ _ (Or.inl (by decide)))))
                have lk602 : (((pI (pI t 103 v595.toNatClampNeg x1) 71 47 v597)).1 71 45).toInt = (t.1 71 45).toInt := congrArg Int32.toInt (((pI_ne (a := 71) (b := 45) (c := 71) (k := 47) _ _ (Or.inr (by decide)))).trans ((pI_ne (a := 71) (b := 45) (c := 103) _ _ (Or.inl (by decide)))))
                have lk603 : (((pI (pI t 103 v595.toNatClampNeg x1) 71 47 v597)).1 71 47).toInt = v597.toInt := congrArg Int32.toInt ((pI_self _ _ _ _))
                have lk604 : (((pI (pI t 103 v595.toNatClampNeg x1) 71 47 v597)).1 71 2).toInt = (t.1 71 2).toInt := congrArg Int32.toInt (((pI_ne (a := 71) (b := 2) (c := 71) (k := 47) _ _ (Or.inr (by decide)))).trans ((pI_ne (a := 71) (b := 2) (c := 103) _ _ (Or.inl (by decide)))))
                exact r_zret C (n_bool (by omega)) (oDec_at oX12_goesOn 158 rfl) ⟨_, rfl, ⟨by omega, by first | (intro h; exfalso; omega) | exact fun _ => hq598, by first | (intro h; exfalso; omega) | exact fun _ => ⟨(by assumption), by first | (intro hb; exfalso; omega) | exact fun _ => oMk_c pu592 (by omega)⟩, by omega, by omega, by omega, by first | (intro h; exfalso; omega) | exact fun _ => hq599, by first | (intro h; exfalso; omega) | exact fun _ => (by assumption), by first | (intro h; exfalso; omega) | exact fun _ => oqGe_b (by omega) | exact fun _ => oqGe_of (A := (t.1 71 2).toInt) (by omega) (by omega) (by omega) (by omega) (by omega) (by omega), (oqBP_fr (oFr_oneI (q := 12) (m := 47) rfl (by rfl)) rfl (oqBP_fr (oFr_oneI (q := 79) (m := 9999) rfl (by rfl)) rfl iv7))⟩⟩
              · skip
                replace pu592_1 := pu592_1 (by omega)
                clear pu592_2
                have hbt := oQ_bB iv0 (by omega) (by omega) (by omega) (by omega)
                refine r_aload_n C (j := 0) (oDec_at oX12_goesOn 142 rfl) rfl rfl ?_
                refine r_callVv C oCl12 rfl miX12_drops mlX12_289 (ct_X12_drops l E (t)  (by omega) (by omega)) (by decide) rfl rfl rfl (Nat.le_of_ble_eq_true rfl) (oDec_at oX12_goesOn 143 rfl) (fun u605 pu605 fu605 => ?_)
                try dsimp only at pu605
                obtain ⟨pu605_0, pu605_1, pu605_2⟩ := pu605
                have hq607 : oQ b (x + 1) (u605) := oQ_drop iv0 pu605_0 (by omega) (by omega) (by omega) (by omega)
                have hq608 : oqJ g fp fq cz kx b 1 (u605) := oqJ_drop iv6 pu605_0 (by omega) (fun _ => hbt) (fun _ => oqCd_no (by omega))
                refine r_goto C (tgt := 243) (oDec_at oX12_goesOn 144 rfl) (by decide) ?_
                have lk609 : ((u605).1 71 5).toInt = (t.1 71 5).toInt := congrArg Int32.toInt ((fu605 71 5 rfl).1)
                have lk610 : ((u605).1 71 48).toInt = (t.1 71 48).toInt := congrArg Int32.toInt ((fu605 71 48 rfl).1)
                have lk611 : ((u605).1 71 2).toInt = (t.1 71 2).toInt := congrArg Int32.toInt ((fu605 71 2 rfl).1)
                have lk612 : ((u605).1 71 2).toInt = (t.1 71 2).toInt := congrArg Int32.toInt ((fu605 71 2 rfl).1)
                exact (ih (n - 1) (by omega)).2.2.2 (u605) x1  hq607 (by omega) (by omega) (by omega) (by omega) (by omega) hq608 (oqBP_fr fu605 rfl iv7) (by omega)
  exact (key (4000 * (1601 - ((s).1 71 2).toInt)).toNat).1 (s)   (by first | exact hp0 | exact oQ_pop (by assumption) (by omega) (by omega) (by omega) (by omega)) (by omega) (by omega) (by omega) (by omega) (by omega) hp6 hp7 hp8 (by omega)
