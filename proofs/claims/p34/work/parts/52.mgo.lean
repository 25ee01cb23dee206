set_option maxHeartbeats 4000000 in
set_option maxRecDepth 100000 in
theorem ct_X12_goesOn (l : Launch) (E : oE) (s : oS)  (b : Nat) (x : Nat) (hp0 : oQ b (x + 1) s) (hp1 : (s.1 71 55).toInt = (b : Int)) (hp2 : (b : Int) ≤ 1700) (hp3 : (s.1 71 5).toInt = 0) (hp4 : 0 ≤ (s.1 71 48).toInt ∧ (s.1 71 48).toInt ≤ 6) (hp5 : (s.1 71 45).toInt + (s.1 71 47).toInt + 5 ≤ (s.1 71 2).toInt) : oMet l 4 yX12_goesOn cX12_goesOn 2 (some .boolean) [(12, 2), (12, 5), (12, 6), (12, 45), (12, 47), (12, 48), (78, 9999), (79, 9999)] E s [.ref (oad E 71)] (oPi (fun r u => (0 ≤ r.toInt ∧ r.toInt ≤ 1) ∧ (r.toInt = 1 → oQ b x u) ∧ (r.toInt = 0 → (oQ b (x + 1) u ∧ oMn u)) ∧ (0 ≤ (u.1 71 48).toInt ∧ (u.1 71 48).toInt ≤ 6) ∧ ((s.1 71 2).toInt - (s.1 71 45).toInt - (s.1 71 47).toInt ≤ (u.1 71 2).toInt - (u.1 71 45).toInt - (u.1 71 47).toInt) ∧ ((s.1 71 2).toInt ≤ (u.1 71 2).toInt))) := by
  refine oMet.of (lv := [(0, .ref (oad E 71))]) (by decide +kernel) (Nat.le_of_ble_eq_true rfl) rfl (fun J C hT => ?_)
  have C : oC l 4 cX12_goesOn RX12 2 (some .boolean) [(12, 2), (12, 5), (12, 6), (12, 45), (12, 47), (12, 48), (78, 9999), (79, 9999)] E s (oPi (fun r u => (0 ≤ r.toInt ∧ r.toInt ≤ 1) ∧ (r.toInt = 1 → oQ b x u) ∧ (r.toInt = 0 → (oQ b (x + 1) u ∧ oMn u)) ∧ (0 ≤ (u.1 71 48).toInt ∧ (u.1 71 48).toInt ≤ 6) ∧ ((s.1 71 2).toInt - (s.1 71 45).toInt - (s.1 71 47).toInt ≤ (u.1 71 2).toInt - (u.1 71 45).toInt - (u.1 71 47).toInt) ∧ ((s.1 71 2).toInt ≤ (u.1 71 2).toInt))) J := C
  obtain ⟨km1, qkm1⟩ : ∃ z : Int32, z = (-1) := ⟨_, rfl⟩
  have ekm1 : km1.toInt = (-1) := by rw [qkm1]; rfl
  obtain ⟨k0, qk0⟩ : ∃ z : Int32, z = 0 := ⟨_, rfl⟩
  have ek0 : k0.toInt = 0 := by rw [qk0]; rfl
  obtain ⟨k1, qk1⟩ : ∃ z : Int32, z = 1 := ⟨_, rfl⟩
  have ek1 : k1.toInt = 1 := by rw [qk1]; rfl
  obtain ⟨k2, qk2⟩ : ∃ z : Int32, z = 2 := ⟨_, rfl⟩
  have ek2 : k2.toInt = 2 := by rw [qk2]; rfl
  obtain ⟨k3, qk3⟩ : ∃ z : Int32, z = 3 := ⟨_, rfl⟩
  have ek3 : k3.toInt = 3 := by rw [qk3]; rfl
  obtain ⟨k4, qk4⟩ : ∃ z : Int32, z = 4 := ⟨_, rfl⟩
  have ek4 : k4.toInt = 4 := by rw [qk4]; rfl
  obtain ⟨k5, qk5⟩ : ∃ z : Int32, z = 5 := ⟨_, rfl⟩
  have ek5 : k5.toInt = 5 := by rw [qk5]; rfl
  obtain ⟨k6, qk6⟩ : ∃ z : Int32, z = 6 := ⟨_, rfl⟩
  have ek6 : k6.toInt = 6 := by rw [qk6]; rfl
  obtain ⟨k20, qk20⟩ : ∃ z : Int32, z = 20 := ⟨_, rfl⟩
  have ek20 : k20.toInt = 20 := by rw [qk20]; rfl
  obtain ⟨k21, qk21⟩ : ∃ z : Int32, z = 21 := ⟨_, rfl⟩
  have ek21 : k21.toInt = 21 := by rw [qk21]; rfl
  obtain ⟨k22, qk22⟩ : ∃ z : Int32, z = 22 := ⟨_, rfl⟩
  have ek22 : k22.toInt = 22 := by rw [qk22]; rfl
  obtain ⟨k23, qk23⟩ : ∃ z : Int32, z = 23 := ⟨_, rfl⟩
  have ek23 : k23.toInt = 23 := by rw [qk23]; rfl
  obtain ⟨k24, qk24⟩ : ∃ z : Int32, z = 24 := ⟨_, rfl⟩
  have ek24 : k24.toInt = 24 := by rw [qk24]; rfl
  obtain ⟨k41, qk41⟩ : ∃ z : Int32, z = 41 := ⟨_, rfl⟩
  have ek41 : k41.toInt = 41 := by rw [qk41]; rfl
  obtain ⟨k42, qk42⟩ : ∃ z : Int32, z = 42 := ⟨_, rfl⟩
  have ek42 : k42.toInt = 42 := by rw [qk42]; rfl
  obtain ⟨k43, qk43⟩ : ∃ z : Int32, z = 43 := ⟨_, rfl⟩
  have ek43 : k43.toInt = 43 := by rw [qk43]; rfl
  obtain ⟨k44, qk44⟩ : ∃ z : Int32, z = 44 := ⟨_, rfl⟩
  have ek44 : k44.toInt = 44 := by rw [qk44]; rfl
  obtain ⟨k45, qk45⟩ : ∃ z : Int32, z = 45 := ⟨_, rfl⟩
  have ek45 : k45.toInt = 45 := by rw [qk45]; rfl
  obtain ⟨k47, qk47⟩ : ∃ z : Int32, z = 47 := ⟨_, rfl⟩
  have ek47 : k47.toInt = 47 := by rw [qk47]; rfl
  have key : ∀ n : Nat, (∀ (t : oS), (oQ b (x + 1) t) → ((t.1 71 5).toInt = 0) → (0 ≤ (t.1 71 48).toInt ∧ (t.1 71 48).toInt ≤ 6) → ((s.1 71 2).toInt - (s.1 71 45).toInt - (s.1 71 47).toInt ≤ (t.1 71 2).toInt - (t.1 71 45).toInt - (t.1 71 47).toInt) → ((s.1 71 2).toInt ≤ (t.1 71 2).toInt) → ((t.1 71 55).toInt = (b : Int)) → 4000 * (1601 - (t.1 71 2).toInt) ≤ (n : Int) → J t 0 [(0, .ref (oad E 71))] []) ∧ (∀ (t : oS), (oQ b (x + 1) t) → ((t.1 71 5).toInt = 0) → (0 ≤ (t.1 71 48).toInt ∧ (t.1 71 48).toInt ≤ 6) → ((s.1 71 2).toInt - (s.1 71 45).toInt - (s.1 71 47).toInt ≤ (t.1 71 2).toInt - (t.1 71 45).toInt - (t.1 71 47).toInt) → ((s.1 71 2).toInt ≤ (t.1 71 2).toInt) → ((t.1 71 55).toInt = (b : Int)) → 2000 ≤ (n : Int) → J t 118 [(0, .ref (oad E 71))] []) ∧ (∀ (t : oS) (x1 : Int32), (oQ b (x + 1) t) → ((t.1 71 5).toInt = 0) → (0 ≤ (t.1 71 48).toInt ∧ (t.1 71 48).toInt ≤ 6) → ((s.1 71 2).toInt - (s.1 71 45).toInt - (s.1 71 47).toInt + 1 ≤ (t.1 71 2).toInt - (t.1 71 45).toInt - (t.1 71 47).toInt) → ((s.1 71 2).toInt ≤ (t.1 71 2).toInt) → (3 ≤ x1.toInt ∧ x1.toInt ≤ 4) → (t.1 71 47).toInt + 1 ≤ (n : Int) → J t 158 [(0, .ref (oad E 71)), (1, .int x1)] []) ∧ (∀ (t : oS) (x1 : Int32), (oQ b (x + 1) t) → ((t.1 71 5).toInt = 0) → (0 ≤ (t.1 71 48).toInt ∧ (t.1 71 48).toInt ≤ 6) → ((s.1 71 2).toInt - (s.1 71 45).toInt - (s.1 71 47).toInt + 1 ≤ (t.1 71 2).toInt - (t.1 71 45).toInt - (t.1 71 47).toInt) → ((s.1 71 2).toInt ≤ (t.1 71 2).toInt) → (1 ≤ x1.toInt ∧ x1.toInt ≤ 2) → (t.1 71 47).toInt + 1 ≤ (n : Int) → J t 243 [(0, .ref (oad E 71)), (1, .int x1)] []) := by
    intro n
    induction n using Nat.strongRecOn with
    | _ n ih =>
      refine ⟨?_, ?_, ?_, ?_⟩
      · intro t   iv0 iv1 iv2 iv3 iv4 iv5 hmu
        refine r_ty C (fun hty => ?_)
        have hty_coded : (0 : Int) ≤ ((t).1 71 45).toInt ∧ ((t).1 71 45).toInt ≤ 1600 := hty.1 71 45
        have hty_waits : (0 : Int) ≤ ((t).1 71 47).toInt ∧ ((t).1 71 47).toInt ≤ 1700 := hty.1 71 47
        have hty_at : (0 : Int) ≤ ((t).1 71 2).toInt ∧ ((t).1 71 2).toInt ≤ 1600 := hty.1 71 2
        clear hty
        refine r_aload_n C (j := 0) (oDec_at oX12_goesOn 0 rfl) rfl rfl ?_
        obtain ⟨v1, ev1⟩ : ∃ z : Int32, (t).1 71 5 = z := ⟨_, rfl⟩
        have gv1 : (t.1 71 5).toInt = v1.toInt := congrArg Int32.toInt (ev1)
        have rv1 := n_rng v1
        refine r_geti (k := 5) (lo := (-2147483648)) (hi := 2147483647) C v1 oCl12 rfl (by decide) flX12_173 rfl rfl (ev1) rfl rfl (oDec_at oX12_goesOn 1 rfl) (fun _ _ => ?_)
        refine r_if_ne C 118 (oDec_at oX12_goesOn 2 rfl) (by decide) (fun cd2 => ?_) (fun cd2 => ?_)
        · skip
          have lk3 : ((t).1 71 5).toInt = v1.toInt := congrArg Int32.toInt (ev1)
          exact (ih (n - 1) (by omega)).2.1 (t)   iv0 (by omega) (by omega) (by omega) (by omega) (by omega) (by omega)
        · skip
          refine r_aload_n C (j := 0) (oDec_at oX12_goesOn 3 rfl) rfl rfl ?_
          refine r_callVi C oCl12 rfl miX12_look mlX12_185 (ct_X12_look l E (t)  ) (by decide) rfl rfl rfl (Nat.le_of_ble_eq_true rfl) (oDec_at oX12_goesOn 4 rfl) (fun r5 u4 pu4 fu4 => ?_)
          try dsimp only at pu4
          obtain ⟨pu4_0, pu4_1⟩ := pu4
          obtain ⟨v6, ev6⟩ : ∃ z : Int32, (u4).1 71 2 = z := ⟨_, rfl⟩
          have gv6 : (u4.1 71 2).toInt = v6.toInt := congrArg Int32.toInt ev6
          have lt7 : ((u4).1 72 ((u4).1 71 2).toNatClampNeg).toInt = (t.1 72 v6.toNatClampNeg).toInt := by rw [ev6, show (u4).1 72 v6.toNatClampNeg = t.1 72 v6.toNatClampNeg from (fu4 72 v6.toNatClampNeg rfl).1]
          have lu8 : ((u4).1 71 2).toInt = v6.toInt := congrArg Int32.toInt (ev6)
          have lu9 : ((u4).1 71 2).toInt = v6.toInt := congrArg Int32.toInt (ev6)
          have lu10 : ((u4).1 71 3).toInt = (t.1 71 3).toInt := congrArg Int32.toInt ((fu4 71 3 rfl).1)
          have rr5 := n_rng r5
          refine r_bipush C (oDec_at oX12_goesOn 5 rfl) (v := k41) (by rw [qk41]; rfl) ?_
          refine r_icmp_ne C 118 (oDec_at oX12_goesOn 6 rfl) (by decide) (fun cd11 => ?_) (fun cd11 => ?_)
          · skip
            have lk12 : ((u4).1 71 5).toInt = v1.toInt := congrArg Int32.toInt (((fu4 71 5 rfl).1).trans (ev1))
            have lk13 : ((u4).1 71 48).toInt = (t.1 71 48).toInt := congrArg Int32.toInt ((fu4 71 48 rfl).1)
            have lk14 : ((u4).1 71 2).toInt = v6.toInt := congrArg Int32.toInt (ev6)
            have lk15 : ((u4).1 71 45).toInt = (t.1 71 45).toInt := congrArg Int32.toInt ((fu4 71 45 rfl).1)
            have lk16 : ((u4).1 71 47).toInt = (t.1 71 47).toInt := congrArg Int32.toInt ((fu4 71 47 rfl).1)
            have lk17 : ((u4).1 71 2).toInt = v6.toInt := congrArg Int32.toInt (ev6)
            have lk18 : ((u4).1 71 55).toInt = (t.1 71 55).toInt := congrArg Int32.toInt ((fu4 71 55 rfl).1)
            exact (ih (n - 1) (by omega)).2.1 (u4)   (oQ_fr fu4 rfl iv0) (by omega) (by omega) (by omega) (by omega) (by omega) (by omega)
          · skip
            replace pu4_1 := pu4_1.resolve_left (by omega)
            refine r_aload_n C (j := 0) (oDec_at oX12_goesOn 7 rfl) rfl rfl ?_
            refine r_callVi C oCl12 rfl miX12_mark mlX12_304 (ct_X12_mark l E (u4)  ) (by decide) rfl rfl rfl (Nat.le_of_ble_eq_true rfl) (oDec_at oX12_goesOn 8 rfl) (fun r20 u19 pu19 fu19 => ?_)
            try dsimp only at pu19
            have hxu19 := oFr_nil fu19; subst hxu19
            have rr20 := n_rng r20
            refine r_bipush C (oDec_at oX12_goesOn 9 rfl) (v := k20) (by rw [qk20]; rfl) ?_
            refine r_icmp_eq C 43 (oDec_at oX12_goesOn 10 rfl) (by decide) (fun cd21 => ?_) (fun cd21 => ?_)
            · skip
              have hq22 : oMk (r20.toInt) (u4) := pu19
              refine r_aload_n C (j := 0) (oDec_at oX12_goesOn 19 rfl) rfl rfl ?_
              refine r_dup C (oDec_at oX12_goesOn 20 rfl) rfl ?_
              refine r_geti (k := 2) (lo := 0) (hi := 1600) C v6 oCl12 rfl (by decide) flX12_179 rfl rfl (ev6) rfl rfl (oDec_at oX12_goesOn 21 rfl) (fun b23 b23h => ?_)
              refine r_iconst C (oDec_at oX12_goesOn 22 rfl) (v := k1) (by rw [qk1]; rfl) ?_
              obtain ⟨v24, ev24⟩ : ∃ z : Int32, z = v6 + k1 := ⟨_, rfl⟩
              have hv24 : v24.toInt = v6.toInt + k1.toInt := n_add ev24 (by omega) (by omega)
              refine r_iadd C v24 (oDec_at oX12_goesOn 23 rfl) ev24 ?_
              refine r_puti (k := 2) (lo := 0) (hi := 1600) C oCl12 rfl (by decide) flX12_179 rfl rfl rfl rfl rfl rfl rfl rfl ⟨by omega, by omega⟩ (oDec_at oX12_goesOn 24 rfl) ?_
              refine r_pc C 53 rfl ?_
              refine r_aload_n C (j := 0) (oDec_at oX12_goesOn 25 rfl) rfl rfl ?_
              have lk25 : (((pI u4 71 2 v24)).1 71 55).toInt = (t.1 71 55).toInt := congrArg Int32.toInt (((pI_ne (a := 71) (b := 55) (c := 71) (k := 2) _ _ (Or.inr (by decide)))).trans ((fu4 71 55 rfl).1))
              have lk26 : (((pI u4 71 2 v24)).1 71 5).toInt = v1.toInt := congrArg Int32.toInt (((pI_ne (a := 71) (b := 5) (c := 71) (k := 2) _ _ (Or.inr (by decide)))).trans (((fu4 71 5 rfl).1).trans (ev1)))
              have lk27 : (((pI u4 71 2 v24)).1 71 45).toInt = (t.1 71 45).toInt := congrArg Int32.toInt (((pI_ne (a := 71) (b := 45) (c := 71) (k := 2) _ _ (Or.inr (by decide)))).trans ((fu4 71 45 rfl).1))
              have lk28 : (((pI u4 71 2 v24)).1 71 47).toInt = (t.1 71 47).toInt := congrArg Int32.toInt (((pI_ne (a := 71) (b := 47) (c := 71) (k := 2) _ _ (Or.inr (by decide)))).trans ((fu4 71 47 rfl).1))
              have lk29 : (((pI u4 71 2 v24)).1 71 45).toInt = (t.1 71 45).toInt := congrArg Int32.toInt (((pI_ne (a := 71) (b := 45) (c := 71) (k := 2) _ _ (Or.inr (by decide)))).trans ((fu4 71 45 rfl).1))
              have lk30 : (((pI u4 71 2 v24)).1 71 47).toInt = (t.1 71 47).toInt := congrArg Int32.toInt (((pI_ne (a := 71) (b := 47) (c := 71) (k := 2) _ _ (Or.inr (by decide)))).trans ((fu4 71 47 rfl).1))
              have lk31 : (((pI u4 71 2 v24)).1 71 47).toInt = (t.1 71 47).toInt := congrArg Int32.toInt (((pI_ne (a := 71) (b := 47) (c := 71) (k := 2) _ _ (Or.inr (by decide)))).trans ((fu4 71 47 rfl).1))
              refine r_callVv C oCl12 rfl miX12_dropsToMark mlX12_307 (ct_X12_dropsToMark l E ((pI u4 71 2 v24))  (b) (x + 1) (r20.toInt) (oQ_fr (oFr_oneI (q := 12) (m := 2) rfl (by rfl)) rfl (oQ_fr fu4 rfl iv0)) (oMk_fr (oFr_oneI (q := 12) (m := 2) rfl (by rfl)) rfl hq22) (by omega) (by omega) (by omega) (by omega)) (by decide) rfl rfl rfl (Nat.le_of_ble_eq_true rfl) (oDec_at oX12_goesOn 26 rfl) (fun u32 pu32 fu32 => ?_)
              try dsimp only at pu32
              try simp only [lk25, lk26, lk27, lk28, lk29, lk30, lk31] at pu32
              obtain ⟨pu32_0, pu32_1, pu32_2, pu32_3⟩ := pu32
              have lk34 : ((u32).1 71 5).toInt = v1.toInt := congrArg Int32.toInt (((fu32 71 5 rfl).1).trans (((pI_ne (a := 71) (b := 5) (c := 71) (k := 2) _ _ (Or.inr (by decide)))).trans (((fu4 71 5 rfl).1).trans (ev1))))
              have lk35 : ((u32).1 71 48).toInt = (t.1 71 48).toInt := congrArg Int32.toInt (((fu32 71 48 rfl).1).trans (((pI_ne (a := 71) (b := 48) (c := 71) (k := 2) _ _ (Or.inr (by decide)))).trans ((fu4 71 48 rfl).1)))
              have htp := pu32_3 (by omega)
              have ho1 := oQ_opn1 pu32_0 (by omega) (by omega) (by omega)
              refine r_aload_n C (j := 0) (oDec_at oX12_goesOn 27 rfl) rfl rfl ?_
              refine r_dup C (oDec_at oX12_goesOn 28 rfl) rfl ?_
              obtain ⟨v36, ev36⟩ : ∃ z : Int32, (u32).1 71 47 = z := ⟨_, rfl⟩
              have gv36 : (u32.1 71 47).toInt = v36.toInt := congrArg Int32.toInt (ev36)
              refine r_geti (k := 47) (lo := 0) (hi := 1700) C v36 oCl12 rfl (by decide) flX12_277 rfl rfl (ev36) rfl rfl (oDec_at oX12_goesOn 29 rfl) (fun b37 b37h => ?_)
              refine r_iconst C (oDec_at oX12_goesOn 30 rfl) (v := k1) (by rw [qk1]; rfl) ?_
              refine r_pc C 63 rfl ?_
              obtain ⟨v38, ev38⟩ : ∃ z : Int32, z = v36 - k1 := ⟨_, rfl⟩
              have hv38 : v38.toInt = v36.toInt - k1.toInt := n_sub ev38 (by omega) (by omega)
              refine r_isub C v38 (oDec_at oX12_goesOn 31 rfl) ev38 ?_
              refine r_puti (k := 47) (lo := 0) (hi := 1700) C oCl12 rfl (by decide) flX12_277 rfl rfl rfl rfl rfl rfl rfl rfl ⟨by omega, by omega⟩ (oDec_at oX12_goesOn 32 rfl) ?_
              refine r_aload_n C (j := 0) (oDec_at oX12_goesOn 33 rfl) rfl rfl ?_
              refine r_dup C (oDec_at oX12_goesOn 34 rfl) rfl ?_
              obtain ⟨v39, ev39⟩ : ∃ z : Int32, ((pI u32 71 47 v38)).1 71 48 = z := ⟨_, rfl⟩
              have gv39 : (t.1 71 48).toInt = v39.toInt := congrArg Int32.toInt ((((pI_ne (a := 71) (b := 48) (c := 71) (k := 47) _ _ (Or.inr (by decide)))).trans (((fu32 71 48 rfl).1).trans (((pI_ne (a := 71) (b := 48) (c := 71) (k := 2) _ _ (Or.inr (by decide)))).trans ((fu4 71 48 rfl).1)))).symm.trans ev39)
              have ggv39 : (((pI u32 71 47 v38)).1 71 48).toInt = v39.toInt := congrArg Int32.toInt ev39
              refine r_geti (k := 48) (lo := (-1)) (hi := 7) C v39 oCl12 rfl (by decide) flX12_274 rfl rfl (ev39) rfl rfl (oDec_at oX12_goesOn 35 rfl) (fun b40 b40h => ?_)
              refine r_iconst C (oDec_at oX12_goesOn 36 rfl) (v := k1) (by rw [qk1]; rfl) ?_
              refine r_pc C 73 rfl ?_
              obtain ⟨v41, ev41⟩ : ∃ z : Int32, z = v39 - k1 := ⟨_, rfl⟩
              have hv41 : v41.toInt = v39.toInt - k1.toInt := n_sub ev41 (by omega) (by omega)
              refine r_isub C v41 (oDec_at oX12_goesOn 37 rfl) ev41 ?_
              refine r_puti (k := 48) (lo := (-1)) (hi := 7) C oCl12 rfl (by decide) flX12_274 rfl rfl rfl rfl rfl rfl rfl rfl ⟨by omega, by omega⟩ (oDec_at oX12_goesOn 38 rfl) ?_
              refine r_aload_n C (j := 0) (oDec_at oX12_goesOn 39 rfl) rfl rfl ?_
              refine r_getF (k := 46) (b := 103) C oCl12 rfl (by decide) flX12_111 rfl rfl rfl (oDec_at oX12_goesOn 40 rfl) ?_
              refine r_aload_n C (j := 0) (oDec_at oX12_goesOn 41 rfl) rfl rfl ?_
              refine r_geti (k := 47) (lo := 0) (hi := 1700) C v38 oCl12 rfl (by decide) flX12_277 rfl rfl (((pI_ne (a := 71) (b := 47) (c := 71) (k := 48) _ _ (Or.inr (by decide)))).trans ((pI_self _ _ _ _))) rfl rfl (oDec_at oX12_goesOn 42 rfl) (fun _ _ => ?_)
              refine r_pc C 85 rfl ?_
              obtain ⟨v43, ev43⟩ : ∃ z : Int32, ((pI (pI u32 71 47 v38) 71 48 v41)).1 103 v38.toNatClampNeg = z := ⟨_, rfl⟩
              have av43 : t.1 103 v38.toNatClampNeg = v43 := (((pI_ne (a := 103) (b := v38.toNatClampNeg) (c := 71) _ _ (Or.inl (by decide)))).trans (((pI_ne (a := 103) (b := v38.toNatClampNeg) (c := 71) _ _ (Or.inl (by decide)))).trans (((fu32 103 v38.toNatClampNeg rfl).1).trans (((pI_ne (a := 103) (b := v38.toNatClampNeg) (c := 71) _ _ (Or.inl (by decide)))).trans ((fu4 103 v38.toNatClampNeg rfl).1))))).symm.trans ev43
              have gv43 : (t.1 103 v38.toNatClampNeg).toInt = v43.toInt := congrArg Int32.toInt ((((pI_ne (a := 103) (b := v38.toNatClampNeg) (c := 71) _ _ (Or.inl (by decide)))).trans (((pI_ne (a := 103) (b := v38.toNatClampNeg) (c := 71) _ _ (Or.inl (by decide)))).trans (((fu32 103 v38.toNatClampNeg rfl).1).trans (((pI_ne (a := 103) (b := v38.toNatClampNeg) (c := 71) _ _ (Or.inl (by decide)))).trans ((fu4 103 v38.toNatClampNeg rfl).1))))).symm.trans ev43)
              have rv43 := n_rng v43
              refine r_iald (n := 1700) (lo := (-2147483648)) (hi := 2147483647) C v43 rfl (by decide) rfl rfl ⟨by omega, by omega⟩ (by decide) ev43 rfl rfl (oDec_at oX12_goesOn 43 rfl) (fun _ _ => ?_)
              have hv0 := oTop_of (s := u32) (i := v38) ev43 (by omega)
              refine r_bipush C (oDec_at oX12_goesOn 44 rfl) (v := k20) (by rw [qk20]; rfl) ?_
              refine r_icmp_eq C 0 (oDec_at oX12_goesOn 45 rfl) (by decide) (fun cd44 => ?_) (fun cd44 => ?_)
              · skip
                have lk45 : (((pI (pI u32 71 47 v38) 71 48 v41)).1 71 5).toInt = v1.toInt := congrArg Int32.toInt (((pI_ne (a := 71) (b := 5) (c := 71) (k := 48) _ _ (Or.inr (by decide)))).trans (((pI_ne (a := 71) (b := 5) (c := 71) (k := 47) _ _ (Or.inr (by decide)))).trans (((fu32 71 5 rfl).1).trans (((pI_ne (a := 71) (b := 5) (c := 71) (k := 2) _ _ (Or.inr (by decide)))).trans (((fu4 71 5 rfl).1).trans (ev1))))))
                have lk46 : (((pI (pI u32 71 47 v38) 71 48 v41)).1 71 48).toInt = v41.toInt := congrArg Int32.toInt ((pI_self _ _ _ _))
                have lk47 : (((pI (pI u32 71 47 v38) 71 48 v41)).1 71 2).toInt = v24.toInt := congrArg Int32.toInt (((pI_ne (a := 71) (b := 2) (c := 71) (k := 48) _ _ (Or.inr (by decide)))).trans (((pI_ne (a := 71) (b := 2) (c := 71) (k := 47) _ _ (Or.inr (by decide)))).trans (((fu32 71 2 rfl).1).trans ((pI_self _ _ _ _)))))
                have lk48 : (((pI (pI u32 71 47 v38) 71 48 v41)).1 71 45).toInt = (u32.1 71 45).toInt := congrArg Int32.toInt (((pI_ne (a := 71) (b := 45) (c := 71) (k := 48) _ _ (Or.inr (by decide)))).trans ((pI_ne (a := 71) (b := 45) (c := 71) (k := 47) _ _ (Or.inr (by decide)))))
                have lk49 : (((pI (pI u32 71 47 v38) 71 48 v41)).1 71 47).toInt = v38.toInt := congrArg Int32.toInt (((pI_ne (a := 71) (b := 47) (c := 71) (k := 48) _ _ (Or.inr (by decide)))).trans ((pI_self _ _ _ _)))
                have lk50 : (((pI (pI u32 71 47 v38) 71 48 v41)).1 71 2).toInt = v24.toInt := congrArg Int32.toInt (((pI_ne (a := 71) (b := 2) (c := 71) (k := 48) _ _ (Or.inr (by decide)))).trans (((pI_ne (a := 71) (b := 2) (c := 71) (k := 47) _ _ (Or.inr (by decide)))).trans (((fu32 71 2 rfl).1).trans ((pI_self _ _ _ _)))))
                have lk51 : (((pI (pI u32 71 47 v38) 71 48 v41)).1 71 55).toInt = (t.1 71 55).toInt := congrArg Int32.toInt (((pI_ne (a := 71) (b := 55) (c := 71) (k := 48) _ _ (Or.inr (by decide)))).trans (((pI_ne (a := 71) (b := 55) (c := 71) (k := 47) _ _ (Or.inr (by decide)))).trans (((fu32 71 55 rfl).1).trans (((pI_ne (a := 71) (b := 55) (c := 71) (k := 2) _ _ (Or.inr (by decide)))).trans ((fu4 71 55 rfl).1)))))
                have lk52 : (((pI (pI u32 71 47 v38) 71 48 v41)).1 71 2).toInt = v24.toInt := congrArg Int32.toInt (((pI_ne (a := 71) (b := 2) (c := 71) (k := 48) _ _ (Or.inr (by decide)))).trans (((pI_ne (a := 71) (b := 2) (c := 71) (k := 47) _ _ (Or.inr (by decide)))).trans (((fu32 71 2 rfl).1).trans ((pI_self _ _ _ _)))))
                exact (ih (n - 1) (by omega)).1 ((pI (pI u32 71 47 v38) 71 48 v41))   (by first | exact (by assumption) | exact oQ_pop pu32_0 (by omega) (by omega) (by omega) (by omega)) (by omega) (by omega) (by omega) (by omega) (by omega) (by omega)
              · skip
                have hq53 : oQ b (x + 1 + 1) ((pI (pI u32 71 47 v38) 71 48 v41)) := oQ_popN pu32_0 (by omega) (by omega) (by omega) (by omega)
                refine r_aload_n C (j := 0) (oDec_at oX12_goesOn 46 rfl) rfl rfl ?_
                refine r_aload_n C (j := 0) (oDec_at oX12_goesOn 47 rfl) rfl rfl ?_
                refine r_getF (k := 46) (b := 103) C oCl12 rfl (by decide) flX12_111 rfl rfl rfl (oDec_at oX12_goesOn 48 rfl) ?_
                refine r_aload_n C (j := 0) (oDec_at oX12_goesOn 49 rfl) rfl rfl ?_
                refine r_geti (k := 47) (lo := 0) (hi := 1700) C v38 oCl12 rfl (by decide) flX12_277 rfl rfl (((pI_ne (a := 71) (b := 47) (c := 71) (k := 48) _ _ (Or.inr (by decide)))).trans ((pI_self _ _ _ _))) rfl rfl (oDec_at oX12_goesOn 50 rfl) (fun _ _ => ?_)
                refine r_iald (n := 1700) (lo := (-2147483648)) (hi := 2147483647) C v43 rfl (by decide) rfl rfl ⟨by omega, by omega⟩ (by decide) (ev43) rfl rfl (oDec_at oX12_goesOn 51 rfl) (fun _ _ => ?_)
                refine r_pc C 101 rfl ?_
                refine r_bipush C (oDec_at oX12_goesOn 52 rfl) (v := k23) (by rw [qk23]; rfl) ?_
                refine r_icmp_ne C 110 (oDec_at oX12_goesOn 53 rfl) (by decide) (fun cd55 => ?_) (fun cd55 => ?_)
                · skip
                  refine r_bipush C (oDec_at oX12_goesOn 56 rfl) (v := k6) (by rw [qk6]; rfl) ?_
                  have lk56 : (((pI (pI u32 71 47 v38) 71 48 v41)).1 71 45).toInt = (u32.1 71 45).toInt := congrArg Int32.toInt (((pI_ne (a := 71) (b := 45) (c := 71) (k := 48) _ _ (Or.inr (by decide)))).trans ((pI_ne (a := 71) (b := 45) (c := 71) (k := 47) _ _ (Or.inr (by decide)))))
                  have lk57 : (((pI (pI u32 71 47 v38) 71 48 v41)).1 71 45).toInt = (u32.1 71 45).toInt := congrArg Int32.toInt (((pI_ne (a := 71) (b := 45) (c := 71) (k := 48) _ _ (Or.inr (by decide)))).trans ((pI_ne (a := 71) (b := 45) (c := 71) (k := 47) _ _ (Or.inr (by decide)))))
                  have lk58 : (((pI (pI u32 71 47 v38) 71 48 v41)).1 71 45).toInt = (u32.1 71 45).toInt := congrArg Int32.toInt (((pI_ne (a := 71) (b := 45) (c := 71) (k := 48) _ _ (Or.inr (by decide)))).trans ((pI_ne (a := 71) (b := 45) (c := 71) (k := 47) _ _ (Or.inr (by decide)))))
                  refine r_callVv C oCl12 rfl miX12_lay mlX12_280 (ct_X12_lay l E ((pI (pI u32 71 47 v38) 71 48 v41)) k6 (by omega)) (by decide) rfl rfl rfl (Nat.le_of_ble_eq_true rfl) (oDec_at oX12_goesOn 57 rfl) (fun u59 pu59 fu59 => ?_)
                  try dsimp only at pu59
                  try simp only [lk57, lk58] at pu59
                  obtain ⟨pu59_0, pu59_1⟩ := pu59
                  have hq61 : oQ b (x + 1) (u59) := oQ_jn hq53 pu59_0 (by omega) (by omega) (by omega)
                  refine r_goto C (tgt := 0) (oDec_at oX12_goesOn 58 rfl) (by decide) ?_
                  have lk62 : ((u59).1 71 5).toInt = v1.toInt := congrArg Int32.toInt (((fu59 71 5 rfl).1).trans (((pI_ne (a := 71) (b := 5) (c := 71) (k := 48) _ _ (Or.inr (by decide)))).trans (((pI_ne (a := 71) (b := 5) (c := 71) (k := 47) _ _ (Or.inr (by decide)))).trans (((fu32 71 5 rfl).1).trans (((pI_ne (a := 71) (b := 5) (c := 71) (k := 2) _ _ (Or.inr (by decide)))).trans (((fu4 71 5 rfl).1).trans (ev1)))))))
                  have lk63 : ((u59).1 71 48).toInt = v41.toInt := congrArg Int32.toInt (((fu59 71 48 rfl).1).trans ((pI_self _ _ _ _)))
                  have lk64 : ((u59).1 71 2).toInt = v24.toInt := congrArg Int32.toInt (((fu59 71 2 rfl).1).trans (((pI_ne (a := 71) (b := 2) (c := 71) (k := 48) _ _ (Or.inr (by decide)))).trans (((pI_ne (a := 71) (b := 2) (c := 71) (k := 47) _ _ (Or.inr (by decide)))).trans (((fu32 71 2 rfl).1).trans ((pI_self _ _ _ _))))))
                  have lk65 : ((u59).1 71 47).toInt = v38.toInt := congrArg Int32.toInt (((fu59 71 47 rfl).1).trans (((pI_ne (a := 71) (b := 47) (c := 71) (k := 48) _ _ (Or.inr (by decide)))).trans ((pI_self _ _ _ _))))
                  have lk66 : ((u59).1 71 2).toInt = v24.toInt := congrArg Int32.toInt (((fu59 71 2 rfl).1).trans (((pI_ne (a := 71) (b := 2) (c := 71) (k := 48) _ _ (Or.inr (by decide)))).trans (((pI_ne (a := 71) (b := 2) (c := 71) (k := 47) _ _ (Or.inr (by decide)))).trans (((fu32 71 2 rfl).1).trans ((pI_self _ _ _ _))))))
                  have lk67 : ((u59).1 71 55).toInt = (t.1 71 55).toInt := congrArg Int32.toInt (((fu59 71 55 rfl).1).trans (((pI_ne (a := 71) (b := 55) (c := 71) (k := 48) _ _ (Or.inr (by decide)))).trans (((pI_ne (a := 71) (b := 55) (c := 71) (k := 47) _ _ (Or.inr (by decide)))).trans (((fu32 71 55 rfl).1).trans (((pI_ne (a := 71) (b := 55) (c := 71) (k := 2) _ _ (Or.inr (by decide)))).trans ((fu4 71 55 rfl).1))))))
                  have lk68 : ((u59).1 71 2).toInt = v24.toInt := congrArg Int32.toInt (((fu59 71 2 rfl).1).trans (((pI_ne (a := 71) (b := 2) (c := 71) (k := 48) _ _ (Or.inr (by decide)))).trans (((pI_ne (a := 71) (b := 2) (c := 71) (k := 47) _ _ (Or.inr (by decide)))).trans (((fu32 71 2 rfl).1).trans ((pI_self _ _ _ _))))))
                  exact (ih (n - 1) (by omega)).1 (u59)   (by first | exact hq61 | exact oQ_pop pu32_0 (by omega) (by omega) (by omega) (by omega)) (by omega) (by omega) (by omega) (by omega) (by omega) (by omega)
                · skip
                  refine r_iconst C (oDec_at oX12_goesOn 54 rfl) (v := k5) (by rw [qk5]; rfl) ?_
                  refine r_goto C (tgt := 112) (oDec_at oX12_goesOn 55 rfl) (by decide) ?_
                  have lk69 : (((pI (pI u32 71 47 v38) 71 48 v41)).1 71 45).toInt = (u32.1 71 45).toInt := congrArg Int32.toInt (((pI_ne (a := 71) (b := 45) (c := 71) (k := 48) _ _ (Or.inr (by decide)))).trans ((pI_ne (a := 71) (b := 45) (c := 71) (k := 47) _ _ (Or.inr (by decide)))))
                  have lk70 : (((pI (pI u32 71 47 v38) 71 48 v41)).1 71 45).toInt = (u32.1 71 45).toInt := congrArg Int32.toInt (((pI_ne (a := 71) (b := 45) (c := 71) (k := 48) _ _ (Or.inr (by decide)))).trans ((pI_ne (a := 71) (b := 45) (c := 71) (k := 47) _ _ (Or.inr (by decide)))))
                  have lk71 : (((pI (pI u32 71 47 v38) 71 48 v41)).1 71 45).toInt = (u32.1 71 45).toInt := congrArg Int32.toInt (((pI_ne (a := 71) (b := 45) (c := 71) (k := 48) _ _ (Or.inr (by decide)))).trans ((pI_ne (a := 71) (b := 45) (c := 71) (k := 47) _ _ (Or.inr (by decide)))))
                  refine r_callVv C oCl12 rfl miX12_lay mlX12_280 (ct_X12_lay l E ((pI (pI u32 71 47 v38) 71 48 v41)) k5 (by omega)) (by decide) rfl rfl rfl (Nat.le_of_ble_eq_true rfl) (oDec_at oX12_goesOn 57 rfl) (fun u72 pu72 fu72 => ?_)
                  try dsimp only at pu72
                  try simp only [lk70, lk71] at pu72
                  obtain ⟨pu72_0, pu72_1⟩ := pu72
                  have hq74 : oQ b (x + 1) (u72) := oQ_jn hq53 pu72_0 (by omega) (by omega) (by omega)
                  refine r_goto C (tgt := 0) (oDec_at oX12_goesOn 58 rfl) (by decide) ?_
                  have lk75 : ((u72).1 71 5).toInt = v1.toInt := congrArg Int32.toInt (((fu72 71 5 rfl).1).trans (((pI_ne (a := 71) (b := 5) (c := 71) (k := 48) _ _ (Or.inr (by decide)))).trans (((pI_ne (a := 71) (b := 5) (c := 71) (k := 47) _ _ (Or.inr (by decide)))).trans (((fu32 71 5 rfl).1).trans (((pI_ne (a := 71) (b := 5) (c := 71) (k := 2) _ _ (Or.inr (by decide)))).trans (((fu4 71 5 rfl).1).trans (ev1)))))))
                  have lk76 : ((u72).1 71 48).toInt = v41.toInt := congrArg Int32.toInt (((fu72 71 48 rfl).1).trans ((pI_self _ _ _ _)))
                  have lk77 : ((u72).1 71 2).toInt = v24.toInt := congrArg Int32.toInt (((fu72 71 2 rfl).1).trans (((pI_ne (a := 71) (b := 2) (c := 71) (k := 48) _ _ (Or.inr (by decide)))).trans (((pI_ne (a := 71) (b := 2) (c := 71) (k := 47) _ _ (Or.inr (by decide)))).trans (((fu32 71 2 rfl).1).trans ((pI_self _ _ _ _))))))
                  have lk78 : ((u72).1 71 47).toInt = v38.toInt := congrArg Int32.toInt (((fu72 71 47 rfl).1).trans (((pI_ne (a := 71) (b := 47) (c := 71) (k := 48) _ _ (Or.inr (by decide)))).trans ((pI_self _ _ _ _))))
                  have lk79 : ((u72).1 71 2).toInt = v24.toInt := congrArg Int32.toInt (((fu72 71 2 rfl).1).trans (((pI_ne (a := 71) (b := 2) (c := 71) (k := 48) _ _ (Or.inr (by decide)))).trans (((pI_ne (a := 71) (b := 2) (c := 71) (k := 47) _ _ (Or.inr (by decide)))).trans (((fu32 71 2 rfl).1).trans ((pI_self _ _ _ _))))))
                  have lk80 : ((u72).1 71 55).toInt = (t.1 71 55).toInt := congrArg Int32.toInt (((fu72 71 55 rfl).1).trans (((pI_ne (a := 71) (b := 55) (c := 71) (k := 48) _ _ (Or.inr (by decide)))).trans (((pI_ne (a := 71) (b := 55) (c := 71) (k := 47) _ _ (Or.inr (by decide)))).trans (((fu32 71 55 rfl).1).trans (((pI_ne (a := 71) (b := 55) (c := 71) (k := 2) _ _ (Or.inr (by decide)))).trans ((fu4 71 55 rfl).1))))))
                  have lk81 : ((u72).1 71 2).toInt = v24.toInt := congrArg Int32.toInt (((fu72 71 2 rfl).1).trans (((pI_ne (a := 71) (b := 2) (c := 71) (k := 48) _ _ (Or.inr (by decide)))).trans (((pI_ne (a := 71) (b := 2) (c := 71) (k := 47) _ _ (Or.inr (by decide)))).trans (((fu32 71 2 rfl).1).trans ((pI_self _ _ _ _))))))
                  exact (ih (n - 1) (by omega)).1 (u72)   (by first | exact hq74 | exact oQ_pop pu32_0 (by omega) (by omega) (by omega) (by omega)) (by omega) (by omega) (by omega) (by omega) (by omega) (by omega)
            · skip
              refine r_aload_n C (j := 0) (oDec_at oX12_goesOn 11 rfl) rfl rfl ?_
              refine r_callVi C oCl12 rfl miX12_mark mlX12_304 (ct_X12_mark l E (u4)  ) (by decide) rfl rfl rfl (Nat.le_of_ble_eq_true rfl) (oDec_at oX12_goesOn 12 rfl) (fun r83 u82 pu82 fu82 => ?_)
              try dsimp only at pu82
              have hxu82 := oFr_nil fu82; subst hxu82
              have rr83 := n_rng r83
              refine r_bipush C (oDec_at oX12_goesOn 13 rfl) (v := k23) (by rw [qk23]; rfl) ?_
              refine r_icmp_eq C 43 (oDec_at oX12_goesOn 14 rfl) (by decide) (fun cd84 => ?_) (fun cd84 => ?_)
              · skip
                have hq85 : oMk (r83.toInt) (u4) := pu82
                refine r_aload_n C (j := 0) (oDec_at oX12_goesOn 19 rfl) rfl rfl ?_
                refine r_dup C (oDec_at oX12_goesOn 20 rfl) rfl ?_
                refine r_geti (k := 2) (lo := 0) (hi := 1600) C v6 oCl12 rfl (by decide) flX12_179 rfl rfl (ev6) rfl rfl (oDec_at oX12_goesOn 21 rfl) (fun b86 b86h => ?_)
                refine r_iconst C (oDec_at oX12_goesOn 22 rfl) (v := k1) (by rw [qk1]; rfl) ?_
                obtain ⟨v87, ev87⟩ : ∃ z : Int32, z = v6 + k1 := ⟨_, rfl⟩
                have hv87 : v87.toInt = v6.toInt + k1.toInt := n_add ev87 (by omega) (by omega)
                refine r_iadd C v87 (oDec_at oX12_goesOn 23 rfl) ev87 ?_
                refine r_puti (k := 2) (lo := 0) (hi := 1600) C oCl12 rfl (by decide) flX12_179 rfl rfl rfl rfl rfl rfl rfl rfl ⟨by omega, by omega⟩ (oDec_at oX12_goesOn 24 rfl) ?_
                refine r_pc C 53 rfl ?_
                refine r_aload_n C (j := 0) (oDec_at oX12_goesOn 25 rfl) rfl rfl ?_
                have lk88 : (((pI u4 71 2 v87)).1 71 55).toInt = (t.1 71 55).toInt := congrArg Int32.toInt (((pI_ne (a := 71) (b := 55) (c := 71) (k := 2) _ _ (Or.inr (by decide)))).trans ((fu4 71 55 rfl).1))
                have lk89 : (((pI u4 71 2 v87)).1 71 5).toInt = v1.toInt := congrArg Int32.toInt (((pI_ne (a := 71) (b := 5) (c := 71) (k := 2) _ _ (Or.inr (by decide)))).trans (((fu4 71 5 rfl).1).trans (ev1)))
                have lk90 : (((pI u4 71 2 v87)).1 71 45).toInt = (t.1 71 45).toInt := congrArg Int32.toInt (((pI_ne (a := 71) (b := 45) (c := 71) (k := 2) _ _ (Or.inr (by decide)))).trans ((fu4 71 45 rfl).1))
                have lk91 : (((pI u4 71 2 v87)).1 71 47).toInt = (t.1 71 47).toInt := congrArg Int32.toInt (((pI_ne (a := 71) (b := 47) (c := 71) (k := 2) _ _ (Or.inr (by decide)))).trans ((fu4 71 47 rfl).1))
                have lk92 : (((pI u4 71 2 v87)).1 71 45).toInt = (t.1 71 45).toInt := congrArg Int32.toInt (((pI_ne (a := 71) (b := 45) (c := 71) (k := 2) _ _ (Or.inr (by decide)))).trans ((fu4 71 45 rfl).1))
                have lk93 : (((pI u4 71 2 v87)).1 71 47).toInt = (t.1 71 47).toInt := congrArg Int32.toInt (((pI_ne (a := 71) (b := 47) (c := 71) (k := 2) _ _ (Or.inr (by decide)))).trans ((fu4 71 47 rfl).1))
                have lk94 : (((pI u4 71 2 v87)).1 71 47).toInt = (t.1 71 47).toInt := congrArg Int32.toInt (((pI_ne (a := 71) (b := 47) (c := 71) (k := 2) _ _ (Or.inr (by decide)))).trans ((fu4 71 47 rfl).1))
                refine r_callVv C oCl12 rfl miX12_dropsToMark mlX12_307 (ct_X12_dropsToMark l E ((pI u4 71 2 v87))  (b) (x + 1) (r83.toInt) (oQ_fr (oFr_oneI (q := 12) (m := 2) rfl (by rfl)) rfl (oQ_fr fu4 rfl iv0)) (oMk_fr (oFr_oneI (q := 12) (m := 2) rfl (by rfl)) rfl hq85) (by omega) (by omega) (by omega) (by omega)) (by decide) rfl rfl rfl (Nat.le_of_ble_eq_true rfl) (oDec_at oX12_goesOn 26 rfl) (fun u95 pu95 fu95 => ?_)
                try dsimp only at pu95
                try simp only [lk88, lk89, lk90, lk91, lk92, lk93, lk94] at pu95
                obtain ⟨pu95_0, pu95_1, pu95_2, pu95_3⟩ := pu95
                have lk97 : ((u95).1 71 5).toInt = v1.toInt := congrArg Int32.toInt (((fu95 71 5 rfl).1).trans (((pI_ne (a := 71) (b := 5) (c := 71) (k := 2) _ _ (Or.inr (by decide)))).trans (((fu4 71 5 rfl).1).trans (ev1))))
                have lk98 : ((u95).1 71 48).toInt = (t.1 71 48).toInt := congrArg Int32.toInt (((fu95 71 48 rfl).1).trans (((pI_ne (a := 71) (b := 48) (c := 71) (k := 2) _ _ (Or.inr (by decide)))).trans ((fu4 71 48 rfl).1)))
                have htp := pu95_3 (by omega)
                have ho1 := oQ_opn1 pu95_0 (by omega) (by omega) (by omega)
                refine r_aload_n C (j := 0) (oDec_at oX12_goesOn 27 rfl) rfl rfl ?_
                refine r_dup C (oDec_at oX12_goesOn 28 rfl) rfl ?_
                obtain ⟨v99, ev99⟩ : ∃ z : Int32, (u95).1 71 47 = z := ⟨_, rfl⟩
                have gv99 : (u95.1 71 47).toInt = v99.toInt := congrArg Int32.toInt (ev99)
                refine r_geti (k := 47) (lo := 0) (hi := 1700) C v99 oCl12 rfl (by decide) flX12_277 rfl rfl (ev99) rfl rfl (oDec_at oX12_goesOn 29 rfl) (fun b100 b100h => ?_)
                refine r_iconst C (oDec_at oX12_goesOn 30 rfl) (v := k1) (by rw [qk1]; rfl) ?_
                refine r_pc C 63 rfl ?_
                obtain ⟨v101, ev101⟩ : ∃ z : Int32, z = v99 - k1 := ⟨_, rfl⟩
                have hv101 : v101.toInt = v99.toInt - k1.toInt := n_sub ev101 (by omega) (by omega)
                refine r_isub C v101 (oDec_at oX12_goesOn 31 rfl) ev101 ?_
                refine r_puti (k := 47) (lo := 0) (hi := 1700) C oCl12 rfl (by decide) flX12_277 rfl rfl rfl rfl rfl rfl rfl rfl ⟨by omega, by omega⟩ (oDec_at oX12_goesOn 32 rfl) ?_
                refine r_aload_n C (j := 0) (oDec_at oX12_goesOn 33 rfl) rfl rfl ?_
                refine r_dup C (oDec_at oX12_goesOn 34 rfl) rfl ?_
                obtain ⟨v102, ev102⟩ : ∃ z : Int32, ((pI u95 71 47 v101)).1 71 48 = z := ⟨_, rfl⟩
                have gv102 : (t.1 71 48).toInt = v102.toInt := congrArg Int32.toInt ((((pI_ne (a := 71) (b := 48) (c := 71) (k := 47) _ _ (Or.inr (by decide)))).trans (((fu95 71 48 rfl).1).trans (((pI_ne (a := 71) (b := 48) (c := 71) (k := 2) _ _ (Or.inr (by decide)))).trans ((fu4 71 48 rfl).1)))).symm.trans ev102)
                have ggv102 : (((pI u95 71 47 v101)).1 71 48).toInt = v102.toInt := congrArg Int32.toInt ev102
                refine r_geti (k := 48) (lo := (-1)) (hi := 7) C v102 oCl12 rfl (by decide) flX12_274 rfl rfl (ev102) rfl rfl (oDec_at oX12_goesOn 35 rfl) (fun b103 b103h => ?_)
                refine r_iconst C (oDec_at oX12_goesOn 36 rfl) (v := k1) (by rw [qk1]; rfl) ?_
                refine r_pc C 73 rfl ?_
                obtain ⟨v104, ev104⟩ : ∃ z : Int32, z = v102 - k1 := ⟨_, rfl⟩
                have hv104 : v104.toInt = v102.toInt - k1.toInt := n_sub ev104 (by omega) (by omega)
                refine r_isub C v104 (oDec_at oX12_goesOn 37 rfl) ev104 ?_
                refine r_puti (k := 48) (lo := (-1)) (hi := 7) C oCl12 rfl (by decide) flX12_274 rfl rfl rfl rfl rfl rfl rfl rfl ⟨by omega, by omega⟩ (oDec_at oX12_goesOn 38 rfl) ?_
                refine r_aload_n C (j := 0) (oDec_at oX12_goesOn 39 rfl) rfl rfl ?_
                refine r_getF (k := 46) (b := 103) C oCl12 rfl (by decide) flX12_111 rfl rfl rfl (oDec_at oX12_goesOn 40 rfl) ?_
                refine r_aload_n C (j := 0) (oDec_at oX12_goesOn 41 rfl) rfl rfl ?_
                refine r_geti (k := 47) (lo := 0) (hi := 1700) C v101 oCl12 rfl (by decide) flX12_277 rfl rfl (((pI_ne (a := 71) (b := 47) (c := 71) (k := 48) _ _ (Or.inr (by decide)))).trans ((pI_self _ _ _ _))) rfl rfl (oDec_at oX12_goesOn 42 rfl) (fun _ _ => ?_)
                refine r_pc C 85 rfl ?_
                obtain ⟨v106, ev106⟩ : ∃ z : Int32, ((pI (pI u95 71 47 v101) 71 48 v104)).1 103 v101.toNatClampNeg = z := ⟨_, rfl⟩
                have av106 : t.1 103 v101.toNatClampNeg = v106 := (((pI_ne (a := 103) (b := v101.toNatClampNeg) (c := 71) _ _ (Or.inl (by decide)))).trans (((pI_ne (a := 103) (b := v101.toNatClampNeg) (c := 71) _ _ (Or.inl (by decide)))).trans (((fu95 103 v101.toNatClampNeg rfl).1).trans (((pI_ne (a := 103) (b := v101.toNatClampNeg) (c := 71) _ _ (Or.inl (by decide)))).trans ((fu4 103 v101.toNatClampNeg rfl).1))))).symm.trans ev106
                have gv106 : (t.1 103 v101.toNatClampNeg).toInt = v106.toInt := congrArg Int32.toInt ((((pI_ne (a := 103) (b := v101.toNatClampNeg) (c := 71) _ _ (Or.inl (by decide)))).trans (((pI_ne (a := 103) (b := v101.toNatClampNeg) (c := 71) _ _ (Or.inl (by decide)))).trans (((fu95 103 v101.toNatClampNeg rfl).1).trans (((pI_ne (a := 103) (b := v101.toNatClampNeg) (c := 71) _ _ (Or.inl (by decide)))).trans ((fu4 103 v101.toNatClampNeg rfl).1))))).symm.trans ev106)
                have rv106 := n_rng v106
                refine r_iald (n := 1700) (lo := (-2147483648)) (hi := 2147483647) C v106 rfl (by decide) rfl rfl ⟨by omega, by omega⟩ (by decide) ev106 rfl rfl (oDec_at oX12_goesOn 43 rfl) (fun _ _ => ?_)
                have hv0 := oTop_of (s := u95) (i := v101) ev106 (by omega)
                refine r_bipush C (oDec_at oX12_goesOn 44 rfl) (v := k20) (by rw [qk20]; rfl) ?_
                refine r_icmp_eq C 0 (oDec_at oX12_goesOn 45 rfl) (by decide) (fun cd107 => ?_) (fun cd107 => ?_)
                · skip
                  have lk108 : (((pI (pI u95 71 47 v101) 71 48 v104)).1 71 5).toInt = v1.toInt := congrArg Int32.toInt (((pI_ne (a := 71) (b := 5) (c := 71) (k := 48) _ _ (Or.inr (by decide)))).trans (((pI_ne (a := 71) (b := 5) (c := 71) (k := 47) _ _ (Or.inr (by decide)))).trans (((fu95 71 5 rfl).1).trans (((pI_ne (a := 71) (b := 5) (c := 71) (k := 2) _ _ (Or.inr (by decide)))).trans (((fu4 71 5 rfl).1).trans (ev1))))))
                  have lk109 : (((pI (pI u95 71 47 v101) 71 48 v104)).1 71 48).toInt = v104.toInt := congrArg Int32.toInt ((pI_self _ _ _ _))
                  have lk110 : (((pI (pI u95 71 47 v101) 71 48 v104)).1 71 2).toInt = v87.toInt := congrArg Int32.toInt (((pI_ne (a := 71) (b := 2) (c := 71) (k := 48) _ _ (Or.inr (by decide)))).trans (((pI_ne (a := 71) (b := 2) (c := 71) (k := 47) _ _ (Or.inr (by decide)))).trans (((fu95 71 2 rfl).1).trans ((pI_self _ _ _ _)))))
                  have lk111 : (((pI (pI u95 71 47 v101) 71 48 v104)).1 71 45).toInt = (u95.1 71 45).toInt := congrArg Int32.toInt (((pI_ne (a := 71) (b := 45) (c := 71) (k := 48) _ _ (Or.inr (by decide)))).trans ((pI_ne (a := 71) (b := 45) (c := 71) (k := 47) _ _ (Or.inr (by decide)))))
                  have lk112 : (((pI (pI u95 71 47 v101) 71 48 v104)).1 71 47).toInt = v101.toInt := congrArg Int32.toInt (((pI_ne (a := 71) (b := 47) (c := 71) (k := 48) _ _ (Or.inr (by decide)))).trans ((pI_self _ _ _ _)))
                  have lk113 : (((pI (pI u95 71 47 v101) 71 48 v104)).1 71 2).toInt = v87.toInt := congrArg Int32.toInt (((pI_ne (a := 71) (b := 2) (c := 71) (k := 48) _ _ (Or.inr (by decide)))).trans (((pI_ne (a := 71) (b := 2) (c := 71) (k := 47) _ _ (Or.inr (by decide)))).trans (((fu95 71 2 rfl).1).trans ((pI_self _ _ _ _)))))
                  have lk114 : (((pI (pI u95 71 47 v101) 71 48 v104)).1 71 55).toInt = (t.1 71 55).toInt := congrArg Int32.toInt (((pI_ne (a := 71) (b := 55) (c := 71) (k := 48) _ _ (Or.inr (by decide)))).trans (((pI_ne (a := 71) (b := 55) (c := 71) (k := 47) _ _ (Or.inr (by decide)))).trans (((fu95 71 55 rfl).1).trans (((pI_ne (a := 71) (b := 55) (c := 71) (k := 2) _ _ (Or.inr (by decide)))).trans ((fu4 71 55 rfl).1)))))
                  have lk115 : (((pI (pI u95 71 47 v101) 71 48 v104)).1 71 2).toInt = v87.toInt := congrArg Int32.toInt (((pI_ne (a := 71) (b := 2) (c := 71) (k := 48) _ _ (Or.inr (by decide)))).trans (((pI_ne (a := 71) (b := 2) (c := 71) (k := 47) _ _ (Or.inr (by decide)))).trans (((fu95 71 2 rfl).1).trans ((pI_self _ _ _ _)))))
                  exact (ih (n - 1) (by omega)).1 ((pI (pI u95 71 47 v101) 71 48 v104))   (by first | exact (by assumption) | exact oQ_pop pu95_0 (by omega) (by omega) (by omega) (by omega)) (by omega) (by omega) (by omega) (by omega) (by omega) (by omega)
                · skip
                  have hq116 : oQ b (x + 1 + 1) ((pI (pI u95 71 47 v101) 71 48 v104)) := oQ_popN pu95_0 (by omega) (by omega) (by omega) (by omega)
                  refine r_aload_n C (j := 0) (oDec_at oX12_goesOn 46 rfl) rfl rfl ?_
                  refine r_aload_n C (j := 0) (oDec_at oX12_goesOn 47 rfl) rfl rfl ?_
                  refine r_getF (k := 46) (b := 103) C oCl12 rfl (by decide) flX12_111 rfl rfl rfl (oDec_at oX12_goesOn 48 rfl) ?_
                  refine r_aload_n C (j := 0) (oDec_at oX12_goesOn 49 rfl) rfl rfl ?_
                  refine r_geti (k := 47) (lo := 0) (hi := 1700) C v101 oCl12 rfl (by decide) flX12_277 rfl rfl (((pI_ne (a := 71) (b := 47) (c := 71) (k := 48) _ _ (Or.inr (by decide)))).trans ((pI_self _ _ _ _))) rfl rfl (oDec_at oX12_goesOn 50 rfl) (fun _ _ => ?_)
                  refine r_iald (n := 1700) (lo := (-2147483648)) (hi := 2147483647) C v106 rfl (by decide) rfl rfl ⟨by omega, by omega⟩ (by decide) (ev106) rfl rfl (oDec_at oX12_goesOn 51 rfl) (fun _ _ => ?_)
                  refine r_pc C 101 rfl ?_
                  refine r_bipush C (oDec_at oX12_goesOn 52 rfl) (v := k23) (by rw [qk23]; rfl) ?_
                  refine r_icmp_ne C 110 (oDec_at oX12_goesOn 53 rfl) (by decide) (fun cd118 => ?_) (fun cd118 => ?_)
                  · skip
                    refine r_bipush C (oDec_at oX12_goesOn 56 rfl) (v := k6) (by rw [qk6]; rfl) ?_
                    have lk119 : (((pI (pI u95 71 47 v101) 71 48 v104)).1 71 45).toInt = (u95.1 71 45).toInt := congrArg Int32.toInt (((pI_ne (a := 71) (b := 45) (c := 71) (k := 48) _ _ (Or.inr (by decide)))).trans ((pI_ne (a := 71) (b := 45) (c := 71) (k := 47) _ _ (Or.inr (by decide)))))
                    have lk120 : (((pI (pI u95 71 47 v101) 71 48 v104)).1 71 45).toInt = (u95.1 71 45).toInt := congrArg Int32.toInt (((pI_ne (a := 71) (b := 45) (c := 71) (k := 48) _ _ (Or.inr (by decide)))).trans ((pI_ne (a := 71) (b := 45) (c := 71) (k := 47) _ _ (Or.inr (by decide)))))
                    have lk121 : (((pI (pI u95 71 47 v101) 71 48 v104)).1 71 45).toInt = (u95.1 71 45).toInt := congrArg Int32.toInt (((pI_ne (a := 71) (b := 45) (c := 71) (k := 48) _ _ (Or.inr (by decide)))).trans ((pI_ne (a := 71) (b := 45) (c := 71) (k := 47) _ _ (Or.inr (by decide)))))
                    refine r_callVv C oCl12 rfl miX12_lay mlX12_280 (ct_X12_lay l E ((pI (pI u95 71 47 v101) 71 48 v104)) k6 (by omega)) (by decide) rfl rfl rfl (Nat.le_of_ble_eq_true rfl) (oDec_at oX12_goesOn 57 rfl) (fun u122 pu122 fu122 => ?_)
                    try dsimp only at pu122
                    try simp only [lk120, lk121] at pu122
                    obtain ⟨pu122_0, pu122_1⟩ := pu122
                    have hq124 : oQ b (x + 1) (u122) := oQ_jn hq116 pu122_0 (by omega) (by omega) (by omega)
                    refine r_goto C (tgt := 0) (oDec_at oX12_goesOn 58 rfl) (by decide) ?_
                    have lk125 : ((u122).1 71 5).toInt = v1.toInt := congrArg Int32.toInt (((fu122 71 5 rfl).1).trans (((pI_ne (a := 71) (b := 5) (c := 71) (k := 48) _ _ (Or.inr (by decide)))).trans (((pI_ne (a := 71) (b := 5) (c := 71) (k := 47) _ _ (Or.inr (by decide)))).trans (((fu95 71 5 rfl).1).trans (((pI_ne (a := 71) (b := 5) (c := 71) (k := 2) _ _ (Or.inr (by decide)))).trans (((fu4 71 5 rfl).1).trans (ev1)))))))
                    have lk126 : ((u122).1 71 48).toInt = v104.toInt := congrArg Int32.toInt (((fu122 71 48 rfl).1).trans ((pI_self _ _ _ _)))
                    have lk127 : ((u122).1 71 2).toInt = v87.toInt := congrArg Int32.toInt (((fu122 71 2 rfl).1).trans (((pI_ne (a := 71) (b := 2) (c := 71) (k := 48) _ _ (Or.inr (by decide)))).trans (((pI_ne (a := 71) (b := 2) (c := 71) (k := 47) _ _ (Or.inr (by decide)))).trans (((fu95 71 2 rfl).1).trans ((pI_self _ _ _ _))))))
                    have lk128 : ((u122).1 71 47).toInt = v101.toInt := congrArg Int32.toInt (((fu122 71 47 rfl).1).trans (((pI_ne (a := 71) (b := 47) (c := 71) (k := 48) _ _ (Or.inr (by decide)))).trans ((pI_self _ _ _ _))))
                    have lk129 : ((u122).1 71 2).toInt = v87.toInt := congrArg Int32.toInt (((fu122 71 2 rfl).1).trans (((pI_ne (a := 71) (b := 2) (c := 71) (k := 48) _ _ (Or.inr (by decide)))).trans (((pI_ne (a := 71) (b := 2) (c := 71) (k := 47) _ _ (Or.inr (by decide)))).trans (((fu95 71 2 rfl).1).trans ((pI_self _ _ _ _))))))
                    have lk130 : ((u122).1 71 55).toInt = (t.1 71 55).toInt := congrArg Int32.toInt (((fu122 71 55 rfl).1).trans (((pI_ne (a := 71) (b := 55) (c := 71) (k := 48) _ _ (Or.inr (by decide)))).trans (((pI_ne (a := 71) (b := 55) (c := 71) (k := 47) _ _ (Or.inr (by decide)))).trans (((fu95 71 55 rfl).1).trans (((pI_ne (a := 71) (b := 55) (c := 71) (k := 2) _ _ (Or.inr (by decide)))).trans ((fu4 71 55 rfl).1))))))
                    have lk131 : ((u122).1 71 2).toInt = v87.toInt := congrArg Int32.toInt (((fu122 71 2 rfl).1).trans (((pI_ne (a := 71) (b := 2) (c := 71) (k := 48) _ _ (Or.inr (by decide)))).trans (((pI_ne (a := 71) (b := 2) (c := 71) (k := 47) _ _ (Or.inr (by decide)))).trans (((fu95 71 2 rfl).1).trans ((pI_self _ _ _ _))))))
                    exact (ih (n - 1) (by omega)).1 (u122)   (by first | exact hq124 | exact oQ_pop pu95_0 (by omega) (by omega) (by omega) (by omega)) (by omega) (by omega) (by omega) (by omega) (by omega) (by omega)
                  · skip
                    refine r_iconst C (oDec_at oX12_goesOn 54 rfl) (v := k5) (by rw [qk5]; rfl) ?_
                    refine r_goto C (tgt := 112) (oDec_at oX12_goesOn 55 rfl) (by decide) ?_
                    have lk132 : (((pI (pI u95 71 47 v101) 71 48 v104)).1 71 45).toInt = (u95.1 71 45).toInt := congrArg Int32.toInt (((pI_ne (a := 71) (b := 45) (c := 71) (k := 48) _ _ (Or.inr (by decide)))).trans ((pI_ne (a := 71) (b := 45) (c := 71) (k := 47) _ _ (Or.inr (by decide)))))
                    have lk133 : (((pI (pI u95 71 47 v101) 71 48 v104)).1 71 45).toInt = (u95.1 71 45).toInt := congrArg Int32.toInt (((pI_ne (a := 71) (b := 45) (c := 71) (k := 48) _ _ (Or.inr (by decide)))).trans ((pI_ne (a := 71) (b := 45) (c := 71) (k := 47) _ _ (Or.inr (by decide)))))
                    have lk134 : (((pI (pI u95 71 47 v101) 71 48 v104)).1 71 45).toInt = (u95.1 71 45).toInt := congrArg Int32.toInt (((pI_ne (a := 71) (b := 45) (c := 71) (k := 48) _ _ (Or.inr (by decide)))).trans ((pI_ne (a := 71) (b := 45) (c := 71) (k := 47) _ _ (Or.inr (by decide)))))
                    refine r_callVv C oCl12 rfl miX12_lay mlX12_280 (ct_X12_lay l E ((pI (pI u95 71 47 v101) 71 48 v104)) k5 (by omega)) (by decide) rfl rfl rfl (Nat.le_of_ble_eq_true rfl) (oDec_at oX12_goesOn 57 rfl) (fun u135 pu135 fu135 => ?_)
                    try dsimp only at pu135
                    try simp only [lk133, lk134] at pu135
                    obtain ⟨pu135_0, pu135_1⟩ := pu135
                    have hq137 : oQ b (x + 1) (u135) := oQ_jn hq116 pu135_0 (by omega) (by omega) (by omega)
                    refine r_goto C (tgt := 0) (oDec_at oX12_goesOn 58 rfl) (by decide) ?_
                    have lk138 : ((u135).1 71 5).toInt = v1.toInt := congrArg Int32.toInt (((fu135 71 5 rfl).1).trans (((pI_ne (a := 71) (b := 5) (c := 71) (k := 48) _ _ (Or.inr (by decide)))).trans (((pI_ne (a := 71) (b := 5) (c := 71) (k := 47) _ _ (Or.inr (by decide)))).trans (((fu95 71 5 rfl).1).trans (((pI_ne (a := 71) (b := 5) (c := 71) (k := 2) _ _ (Or.inr (by decide)))).trans (((fu4 71 5 rfl).1).trans (ev1)))))))
                    have lk139 : ((u135).1 71 48).toInt = v104.toInt := congrArg Int32.toInt (((fu135 71 48 rfl).1).trans ((pI_self _ _ _ _)))
                    have lk140 : ((u135).1 71 2).toInt = v87.toInt := congrArg Int32.toInt (((fu135 71 2 rfl).1).trans (((pI_ne (a := 71) (b := 2) (c := 71) (k := 48) _ _ (Or.inr (by decide)))).trans (((pI_ne (a := 71) (b := 2) (c := 71) (k := 47) _ _ (Or.inr (by decide)))).trans (((fu95 71 2 rfl).1).trans ((pI_self _ _ _ _))))))
                    have lk141 : ((u135).1 71 47).toInt = v101.toInt := congrArg Int32.toInt (((fu135 71 47 rfl).1).trans (((pI_ne (a := 71) (b := 47) (c := 71) (k := 48) _ _ (Or.inr (by decide)))).trans ((pI_self _ _ _ _))))
                    have lk142 : ((u135).1 71 2).toInt = v87.toInt := congrArg Int32.toInt (((fu135 71 2 rfl).1).trans (((pI_ne (a := 71) (b := 2) (c := 71) (k := 48) _ _ (Or.inr (by decide)))).trans (((pI_ne (a := 71) (b := 2) (c := 71) (k := 47) _ _ (Or.inr (by decide)))).trans (((fu95 71 2 rfl).1).trans ((pI_self _ _ _ _))))))
                    have lk143 : ((u135).1 71 55).toInt = (t.1 71 55).toInt := congrArg Int32.toInt (((fu135 71 55 rfl).1).trans (((pI_ne (a := 71) (b := 55) (c := 71) (k := 48) _ _ (Or.inr (by decide)))).trans (((pI_ne (a := 71) (b := 55) (c := 71) (k := 47) _ _ (Or.inr (by decide)))).trans (((fu95 71 55 rfl).1).trans (((pI_ne (a := 71) (b := 55) (c := 71) (k := 2) _ _ (Or.inr (by decide)))).trans ((fu4 71 55 rfl).1))))))
                    have lk144 : ((u135).1 71 2).toInt = v87.toInt := congrArg Int32.toInt (((fu135 71 2 rfl).1).trans (((pI_ne (a := 71) (b := 2) (c := 71) (k := 48) _ _ (Or.inr (by decide)))).trans (((pI_ne (a := 71) (b := 2) (c := 71) (k := 47) _ _ (Or.inr (by decide)))).trans (((fu95 71 2 rfl).1).trans ((pI_self _ _ _ _))))))
                    exact (ih (n - 1) (by omega)).1 (u135)   (by first | exact hq137 | exact oQ_pop pu95_0 (by omega) (by omega) (by omega) (by omega)) (by omega) (by omega) (by omega) (by omega) (by omega) (by omega)
              · skip
                refine r_aload_n C (j := 0) (oDec_at oX12_goesOn 15 rfl) rfl rfl ?_
                refine r_callVi C oCl12 rfl miX12_mark mlX12_304 (ct_X12_mark l E (u4)  ) (by decide) rfl rfl rfl (Nat.le_of_ble_eq_true rfl) (oDec_at oX12_goesOn 16 rfl) (fun r146 u145 pu145 fu145 => ?_)
                try dsimp only at pu145
                have hxu145 := oFr_nil fu145; subst hxu145
                have rr146 := n_rng r146
                refine r_bipush C (oDec_at oX12_goesOn 17 rfl) (v := k24) (by rw [qk24]; rfl) ?_
                refine r_icmp_ne C 118 (oDec_at oX12_goesOn 18 rfl) (by decide) (fun cd147 => ?_) (fun cd147 => ?_)
                · skip
                  have lk148 : ((u4).1 71 5).toInt = v1.toInt := congrArg Int32.toInt (((fu4 71 5 rfl).1).trans (ev1))
                  have lk149 : ((u4).1 71 48).toInt = (t.1 71 48).toInt := congrArg Int32.toInt ((fu4 71 48 rfl).1)
                  have lk150 : ((u4).1 71 2).toInt = v6.toInt := congrArg Int32.toInt (ev6)
                  have lk151 : ((u4).1 71 45).toInt = (t.1 71 45).toInt := congrArg Int32.toInt ((fu4 71 45 rfl).1)
                  have lk152 : ((u4).1 71 47).toInt = (t.1 71 47).toInt := congrArg Int32.toInt ((fu4 71 47 rfl).1)
                  have lk153 : ((u4).1 71 2).toInt = v6.toInt := congrArg Int32.toInt (ev6)
                  have lk154 : ((u4).1 71 55).toInt = (t.1 71 55).toInt := congrArg Int32.toInt ((fu4 71 55 rfl).1)
                  exact (ih (n - 1) (by omega)).2.1 (u4)   (oQ_fr fu4 rfl iv0) (by omega) (by omega) (by omega) (by omega) (by omega) (by omega)
                · skip
                  have hq155 : oMk (r146.toInt) (u4) := pu145
                  refine r_aload_n C (j := 0) (oDec_at oX12_goesOn 19 rfl) rfl rfl ?_
                  refine r_dup C (oDec_at oX12_goesOn 20 rfl) rfl ?_
                  refine r_geti (k := 2) (lo := 0) (hi := 1600) C v6 oCl12 rfl (by decide) flX12_179 rfl rfl (ev6) rfl rfl (oDec_at oX12_goesOn 21 rfl) (fun b156 b156h => ?_)
                  refine r_iconst C (oDec_at oX12_goesOn 22 rfl) (v := k1) (by rw [qk1]; rfl) ?_
                  obtain ⟨v157, ev157⟩ : ∃ z : Int32, z = v6 + k1 := ⟨_, rfl⟩
                  have hv157 : v157.toInt = v6.toInt + k1.toInt := n_add ev157 (by omega) (by omega)
                  refine r_iadd C v157 (oDec_at oX12_goesOn 23 rfl) ev157 ?_
                  refine r_puti (k := 2) (lo := 0) (hi := 1600) C oCl12 rfl (by decide) flX12_179 rfl rfl rfl rfl rfl rfl rfl rfl ⟨by omega, by omega⟩ (oDec_at oX12_goesOn 24 rfl) ?_
                  refine r_pc C 53 rfl ?_
                  refine r_aload_n C (j := 0) (oDec_at oX12_goesOn 25 rfl) rfl rfl ?_
                  have lk158 : (((pI u4 71 2 v157)).1 71 55).toInt = (t.1 71 55).toInt := congrArg Int32.toInt (((pI_ne (a := 71) (b := 55) (c := 71) (k := 2) _ _ (Or.inr (by decide)))).trans ((fu4 71 55 rfl).1))
                  have lk159 : (((pI u4 71 2 v157)).1 71 5).toInt = v1.toInt := congrArg Int32.toInt (((pI_ne (a := 71) (b := 5) (c := 71) (k := 2) _ _ (Or.inr (by decide)))).trans (((fu4 71 5 rfl).1).trans (ev1)))
                  have lk160 : (((pI u4 71 2 v157)).1 71 45).toInt = (t.1 71 45).toInt := congrArg Int32.toInt (((pI_ne (a := 71) (b := 45) (c := 71) (k := 2) _ _ (Or.inr (by decide)))).trans ((fu4 71 45 rfl).1))
                  have lk161 : (((pI u4 71 2 v157)).1 71 47).toInt = (t.1 71 47).toInt := congrArg Int32.toInt (((pI_ne (a := 71) (b := 47) (c := 71) (k := 2) _ _ (Or.inr (by decide)))).trans ((fu4 71 47 rfl).1))
                  have lk162 : (((pI u4 71 2 v157)).1 71 45).toInt = (t.1 71 45).toInt := congrArg Int32.toInt (((pI_ne (a := 71) (b := 45) (c := 71) (k := 2) _ _ (Or.inr (by decide)))).trans ((fu4 71 45 rfl).1))
                  have lk163 : (((pI u4 71 2 v157)).1 71 47).toInt = (t.1 71 47).toInt := congrArg Int32.toInt (((pI_ne (a := 71) (b := 47) (c := 71) (k := 2) _ _ (Or.inr (by decide)))).trans ((fu4 71 47 rfl).1))
                  have lk164 : (((pI u4 71 2 v157)).1 71 47).toInt = (t.1 71 47).toInt := congrArg Int32.toInt (((pI_ne (a := 71) (b := 47) (c := 71) (k := 2) _ _ (Or.inr (by decide)))).trans ((fu4 71 47 rfl).1))
                  refine r_callVv C oCl12 rfl miX12_dropsToMark mlX12_307 (ct_X12_dropsToMark l E ((pI u4 71 2 v157))  (b) (x + 1) (r146.toInt) (oQ_fr (oFr_oneI (q := 12) (m := 2) rfl (by rfl)) rfl (oQ_fr fu4 rfl iv0)) (oMk_fr (oFr_oneI (q := 12) (m := 2) rfl (by rfl)) rfl hq155) (by omega) (by omega) (by omega) (by omega)) (by decide) rfl rfl rfl (Nat.le_of_ble_eq_true rfl) (oDec_at oX12_goesOn 26 rfl) (fun u165 pu165 fu165 => ?_)
                  try dsimp only at pu165
                  try simp only [lk158, lk159, lk160, lk161, lk162, lk163, lk164] at pu165
                  obtain ⟨pu165_0, pu165_1, pu165_2, pu165_3⟩ := pu165
                  have lk167 : ((u165).1 71 5).toInt = v1.toInt := congrArg Int32.toInt (((fu165 71 5 rfl).1).trans (((pI_ne (a := 71) (b := 5) (c := 71) (k := 2) _ _ (Or.inr (by decide)))).trans (((fu4 71 5 rfl).1).trans (ev1))))
                  have lk168 : ((u165).1 71 48).toInt = (t.1 71 48).toInt := congrArg Int32.toInt (((fu165 71 48 rfl).1).trans (((pI_ne (a := 71) (b := 48) (c := 71) (k := 2) _ _ (Or.inr (by decide)))).trans ((fu4 71 48 rfl).1)))
                  have htp := pu165_3 (by omega)
                  have ho1 := oQ_opn1 pu165_0 (by omega) (by omega) (by omega)
                  refine r_aload_n C (j := 0) (oDec_at oX12_goesOn 27 rfl) rfl rfl ?_
                  refine r_dup C (oDec_at oX12_goesOn 28 rfl) rfl ?_
                  obtain ⟨v169, ev169⟩ : ∃ z : Int32, (u165).1 71 47 = z := ⟨_, rfl⟩
                  have gv169 : (u165.1 71 47).toInt = v169.toInt := congrArg Int32.toInt (ev169)
                  refine r_geti (k := 47) (lo := 0) (hi := 1700) C v169 oCl12 rfl (by decide) flX12_277 rfl rfl (ev169) rfl rfl (oDec_at oX12_goesOn 29 rfl) (fun b170 b170h => ?_)
                  refine r_iconst C (oDec_at oX12_goesOn 30 rfl) (v := k1) (by rw [qk1]; rfl) ?_
                  refine r_pc C 63 rfl ?_
                  obtain ⟨v171, ev171⟩ : ∃ z : Int32, z = v169 - k1 := ⟨_, rfl⟩
                  have hv171 : v171.toInt = v169.toInt - k1.toInt := n_sub ev171 (by omega) (by omega)
                  refine r_isub C v171 (oDec_at oX12_goesOn 31 rfl) ev171 ?_
                  refine r_puti (k := 47) (lo := 0) (hi := 1700) C oCl12 rfl (by decide) flX12_277 rfl rfl rfl rfl rfl rfl rfl rfl ⟨by omega, by omega⟩ (oDec_at oX12_goesOn 32 rfl) ?_
                  refine r_aload_n C (j := 0) (oDec_at oX12_goesOn 33 rfl) rfl rfl ?_
                  refine r_dup C (oDec_at oX12_goesOn 34 rfl) rfl ?_
                  obtain ⟨v172, ev172⟩ : ∃ z : Int32, ((pI u165 71 47 v171)).1 71 48 = z := ⟨_, rfl⟩
                  have gv172 : (t.1 71 48).toInt = v172.toInt := congrArg Int32.toInt ((((pI_ne (a := 71) (b := 48) (c := 71) (k := 47) _ _ (Or.inr (by decide)))).trans (((fu165 71 48 rfl).1).trans (((pI_ne (a := 71) (b := 48) (c := 71) (k := 2) _ _ (Or.inr (by decide)))).trans ((fu4 71 48 rfl).1)))).symm.trans ev172)
                  have ggv172 : (((pI u165 71 47 v171)).1 71 48).toInt = v172.toInt := congrArg Int32.toInt ev172
                  refine r_geti (k := 48) (lo := (-1)) (hi := 7) C v172 oCl12 rfl (by decide) flX12_274 rfl rfl (ev172) rfl rfl (oDec_at oX12_goesOn 35 rfl) (fun b173 b173h => ?_)
                  refine r_iconst C (oDec_at oX12_goesOn 36 rfl) (v := k1) (by rw [qk1]; rfl) ?_
                  refine r_pc C 73 rfl ?_
                  obtain ⟨v174, ev174⟩ : ∃ z : Int32, z = v172 - k1 := ⟨_, rfl⟩
                  have hv174 : v174.toInt = v172.toInt - k1.toInt := n_sub ev174 (by omega) (by omega)
                  refine r_isub C v174 (oDec_at oX12_goesOn 37 rfl) ev174 ?_
                  refine r_puti (k := 48) (lo := (-1)) (hi := 7) C oCl12 rfl (by decide) flX12_274 rfl rfl rfl rfl rfl rfl rfl rfl ⟨by omega, by omega⟩ (oDec_at oX12_goesOn 38 rfl) ?_
                  refine r_aload_n C (j := 0) (oDec_at oX12_goesOn 39 rfl) rfl rfl ?_
                  refine r_getF (k := 46) (b := 103) C oCl12 rfl (by decide) flX12_111 rfl rfl rfl (oDec_at oX12_goesOn 40 rfl) ?_
                  refine r_aload_n C (j := 0) (oDec_at oX12_goesOn 41 rfl) rfl rfl ?_
                  refine r_geti (k := 47) (lo := 0) (hi := 1700) C v171 oCl12 rfl (by decide) flX12_277 rfl rfl (((pI_ne (a := 71) (b := 47) (c := 71) (k := 48) _ _ (Or.inr (by decide)))).trans ((pI_self _ _ _ _))) rfl rfl (oDec_at oX12_goesOn 42 rfl) (fun _ _ => ?_)
                  refine r_pc C 85 rfl ?_
                  obtain ⟨v176, ev176⟩ : ∃ z : Int32, ((pI (pI u165 71 47 v171) 71 48 v174)).1 103 v171.toNatClampNeg = z := ⟨_, rfl⟩
                  have av176 : t.1 103 v171.toNatClampNeg = v176 := (((pI_ne (a := 103) (b := v171.toNatClampNeg) (c := 71) _ _ (Or.inl (by decide)))).trans (((pI_ne (a := 103) (b := v171.toNatClampNeg) (c := 71) _ _ (Or.inl (by decide)))).trans (((fu165 103 v171.toNatClampNeg rfl).1).trans (((pI_ne (a := 103) (b := v171.toNatClampNeg) (c := 71) _ _ (Or.inl (by decide)))).trans ((fu4 103 v171.toNatClampNeg rfl).1))))).symm.trans ev176
                  have gv176 : (t.1 103 v171.toNatClampNeg).toInt = v176.toInt := congrArg Int32.toInt ((((pI_ne (a := 103) (b := v171.toNatClampNeg) (c := 71) _ _ (Or.inl (by decide)))).trans (((pI_ne (a := 103) (b := v171.toNatClampNeg) (c := 71) _ _ (Or.inl (by decide)))).trans (((fu165 103 v171.toNatClampNeg rfl).1).trans (((pI_ne (a := 103) (b := v171.toNatClampNeg) (c := 71) _ _ (Or.inl (by decide)))).trans ((fu4 103 v171.toNatClampNeg rfl).1))))).symm.trans ev176)
                  have rv176 := n_rng v176
                  refine r_iald (n := 1700) (lo := (-2147483648)) (hi := 2147483647) C v176 rfl (by decide) rfl rfl ⟨by omega, by omega⟩ (by decide) ev176 rfl rfl (oDec_at oX12_goesOn 43 rfl) (fun _ _ => ?_)
                  have hv0 := oTop_of (s := u165) (i := v171) ev176 (by omega)
                  refine r_bipush C (oDec_at oX12_goesOn 44 rfl) (v := k20) (by rw [qk20]; rfl) ?_
                  refine r_icmp_eq C 0 (oDec_at oX12_goesOn 45 rfl) (by decide) (fun cd177 => ?_) (fun cd177 => ?_)
                  · skip
                    have lk178 : (((pI (pI u165 71 47 v171) 71 48 v174)).1 71 5).toInt = v1.toInt := congrArg Int32.toInt (((pI_ne (a := 71) (b := 5) (c := 71) (k := 48) _ _ (Or.inr (by decide)))).trans (((pI_ne (a := 71) (b := 5) (c := 71) (k := 47) _ _ (Or.inr (by decide)))).trans (((fu165 71 5 rfl).1).trans (((pI_ne (a := 71) (b := 5) (c := 71) (k := 2) _ _ (Or.inr (by decide)))).trans (((fu4 71 5 rfl).1).trans (ev1))))))
                    have lk179 : (((pI (pI u165 71 47 v171) 71 48 v174)).1 71 48).toInt = v174.toInt := congrArg Int32.toInt ((pI_self _ _ _ _))
                    have lk180 : (((pI (pI u165 71 47 v171) 71 48 v174)).1 71 2).toInt = v157.toInt := congrArg Int32.toInt (((pI_ne (a := 71) (b := 2) (c := 71) (k := 48) _ _ (Or.inr (by decide)))).trans (((pI_ne (a := 71) (b := 2) (c := 71) (k := 47) _ _ (Or.inr (by decide)))).trans (((fu165 71 2 rfl).1).trans ((pI_self _ _ _ _)))))
                    have lk181 : (((pI (pI u165 71 47 v171) 71 48 v174)).1 71 45).toInt = (u165.1 71 45).toInt := congrArg Int32.toInt (((pI_ne (a := 71) (b := 45) (c := 71) (k := 48) _ _ (Or.inr (by decide)))).trans ((pI_ne (a := 71) (b := 45) (c := 71) (k := 47) _ _ (Or.inr (by decide)))))
                    have lk182 : (((pI (pI u165 71 47 v171) 71 48 v174)).1 71 47).toInt = v171.toInt := congrArg Int32.toInt (((pI_ne (a := 71) (b := 47) (c := 71) (k := 48) _ _ (Or.inr (by decide)))).trans ((pI_self _ _ _ _)))
                    have lk183 : (((pI (pI u165 71 47 v171) 71 48 v174)).1 71 2).toInt = v157.toInt := congrArg Int32.toInt (((pI_ne (a := 71) (b := 2) (c := 71) (k := 48) _ _ (Or.inr (by decide)))).trans (((pI_ne (a := 71) (b := 2) (c := 71) (k := 47) _ _ (Or.inr (by decide)))).trans (((fu165 71 2 rfl).1).trans ((pI_self _ _ _ _)))))
                    have lk184 : (((pI (pI u165 71 47 v171) 71 48 v174)).1 71 55).toInt = (t.1 71 55).toInt := congrArg Int32.toInt (((pI_ne (a := 71) (b := 55) (c := 71) (k := 48) _ _ (Or.inr (by decide)))).trans (((pI_ne (a := 71) (b := 55) (c := 71) (k := 47) _ _ (Or.inr (by decide)))).trans (((fu165 71 55 rfl).1).trans (((pI_ne (a := 71) (b := 55) (c := 71) (k := 2) _ _ (Or.inr (by decide)))).trans ((fu4 71 55 rfl).1)))))
                    have lk185 : (((pI (pI u165 71 47 v171) 71 48 v174)).1 71 2).toInt = v157.toInt := congrArg Int32.toInt (((pI_ne (a := 71) (b := 2) (c := 71) (k := 48) _ _ (Or.inr (by decide)))).trans (((pI_ne (a := 71) (b := 2) (c := 71) (k := 47) _ _ (Or.inr (by decide)))).trans (((fu165 71 2 rfl).1).trans ((pI_self _ _ _ _)))))
                    exact (ih (n - 1) (by omega)).1 ((pI (pI u165 71 47 v171) 71 48 v174))   (by first | exact (by assumption) | exact oQ_pop pu165_0 (by omega) (by omega) (by omega) (by omega)) (by omega) (by omega) (by omega) (by omega) (by omega) (by omega)
                  · skip
                    have hq186 : oQ b (x + 1 + 1) ((pI (pI u165 71 47 v171) 71 48 v174)) := oQ_popN pu165_0 (by omega) (by omega) (by omega) (by omega)
                    refine r_aload_n C (j := 0) (oDec_at oX12_goesOn 46 rfl) rfl rfl ?_
                    refine r_aload_n C (j := 0) (oDec_at oX12_goesOn 47 rfl) rfl rfl ?_
                    refine r_getF (k := 46) (b := 103) C oCl12 rfl (by decide) flX12_111 rfl rfl rfl (oDec_at oX12_goesOn 48 rfl) ?_
                    refine r_aload_n C (j := 0) (oDec_at oX12_goesOn 49 rfl) rfl rfl ?_
                    refine r_geti (k := 47) (lo := 0) (hi := 1700) C v171 oCl12 rfl (by decide) flX12_277 rfl rfl (((pI_ne (a := 71) (b := 47) (c := 71) (k := 48) _ _ (Or.inr (by decide)))).trans ((pI_self _ _ _ _))) rfl rfl (oDec_at oX12_goesOn 50 rfl) (fun _ _ => ?_)
                    refine r_iald (n := 1700) (lo := (-2147483648)) (hi := 2147483647) C v176 rfl (by decide) rfl rfl ⟨by omega, by omega⟩ (by decide) (ev176) rfl rfl (oDec_at oX12_goesOn 51 rfl) (fun _ _ => ?_)
                    refine r_pc C 101 rfl ?_
                    refine r_bipush C (oDec_at oX12_goesOn 52 rfl) (v := k23) (by rw [qk23]; rfl) ?_
                    refine r_icmp_ne C 110 (oDec_at oX12_goesOn 53 rfl) (by decide) (fun cd188 => ?_) (fun cd188 => ?_)
                    · skip
                      refine r_bipush C (oDec_at oX12_goesOn 56 rfl) (v := k6) (by rw [qk6]; rfl) ?_
                      have lk189 : (((pI (pI u165 71 47 v171) 71 48 v174)).1 71 45).toInt = (u165.1 71 45).toInt := congrArg Int32.toInt (((pI_ne (a := 71) (b := 45) (c := 71) (k := 48) _ _ (Or.inr (by decide)))).trans ((pI_ne (a := 71) (b := 45) (c := 71) (k := 47) _ _ (Or.inr (by decide)))))
                      have lk190 : (((pI (pI u165 71 47 v171) 71 48 v174)).1 71 45).toInt = (u165.1 71 45).toInt := congrArg Int32.toInt (((pI_ne (a := 71) (b := 45) (c := 71) (k := 48) _ _ (Or.inr (by decide)))).trans ((pI_ne (a := 71) (b := 45) (c := 71) (k := 47) _ _ (Or.inr (by decide)))))
                      have lk191 : (((pI (pI u165 71 47 v171) 71 48 v174)).1 71 45).toInt = (u165.1 71 45).toInt := congrArg Int32.toInt (((pI_ne (a := 71) (b := 45) (c := 71) (k := 48) _ _ (Or.inr (by decide)))).trans ((pI_ne (a := 71) (b := 45) (c := 71) (k := 47) _ _ (Or.inr (by decide)))))
                      refine r_callVv C oCl12 rfl miX12_lay mlX12_280 (ct_X12_lay l E ((pI (pI u165 71 47 v171) 71 48 v174)) k6 (by omega)) (by decide) rfl rfl rfl (Nat.le_of_ble_eq_true rfl) (oDec_at oX12_goesOn 57 rfl) (fun u192 pu192 fu192 => ?_)
                      try dsimp only at pu192
                      try simp only [lk190, lk191] at pu192
                      obtain ⟨pu192_0, pu192_1⟩ := pu192
                      have hq194 : oQ b (x + 1) (u192) := oQ_jn hq186 pu192_0 (by omega) (by omega) (by omega)
                      refine r_goto C (tgt := 0) (oDec_at oX12_goesOn 58 rfl) (by decide) ?_
                      have lk195 : ((u192).1 71 5).toInt = v1.toInt := congrArg Int32.toInt (((fu192 71 5 rfl).1).trans (((pI_ne (a := 71) (b := 5) (c := 71) (k := 48) _ _ (Or.inr (by decide)))).trans (((pI_ne (a := 71) (b := 5) (c := 71) (k := 47) _ _ (Or.inr (by decide)))).trans (((fu165 71 5 rfl).1).trans (((pI_ne (a := 71) (b := 5) (c := 71) (k := 2) _ _ (Or.inr (by decide)))).trans (((fu4 71 5 rfl).1).trans (ev1)))))))
                      have lk196 : ((u192).1 71 48).toInt = v174.toInt := congrArg Int32.toInt (((fu192 71 48 rfl).1).trans ((pI_self _ _ _ _)))
                      have lk197 : ((u192).1 71 2).toInt = v157.toInt := congrArg Int32.toInt (((fu192 71 2 rfl).1).trans (((pI_ne (a := 71) (b := 2) (c := 71) (k := 48) _ _ (Or.inr (by decide)))).trans (((pI_ne (a := 71) (b := 2) (c := 71) (k := 47) _ _ (Or.inr (by decide)))).trans (((fu165 71 2 rfl).1).trans ((pI_self _ _ _ _))))))
                      have lk198 : ((u192).1 71 47).toInt = v171.toInt := congrArg Int32.toInt (((fu192 71 47 rfl).1).trans (((pI_ne (a := 71) (b := 47) (c := 71) (k := 48) _ _ (Or.inr (by decide)))).trans ((pI_self _ _ _ _))))
                      have lk199 : ((u192).1 71 2).toInt = v157.toInt := congrArg Int32.toInt (((fu192 71 2 rfl).1).trans (((pI_ne (a := 71) (b := 2) (c := 71) (k := 48) _ _ (Or.inr (by decide)))).trans (((pI_ne (a := 71) (b := 2) (c := 71) (k := 47) _ _ (Or.inr (by decide)))).trans (((fu165 71 2 rfl).1).trans ((pI_self _ _ _ _))))))
                      have lk200 : ((u192).1 71 55).toInt = (t.1 71 55).toInt := congrArg Int32.toInt (((fu192 71 55 rfl).1).trans (((pI_ne (a := 71) (b := 55) (c := 71) (k := 48) _ _ (Or.inr (by decide)))).trans (((pI_ne (a := 71) (b := 55) (c := 71) (k := 47) _ _ (Or.inr (by decide)))).trans (((fu165 71 55 rfl).1).trans (((pI_ne (a := 71) (b := 55) (c := 71) (k := 2) _ _ (Or.inr (by decide)))).trans ((fu4 71 55 rfl).1))))))
                      have lk201 : ((u192).1 71 2).toInt = v157.toInt := congrArg Int32.toInt (((fu192 71 2 rfl).1).trans (((pI_ne (a := 71) (b := 2) (c := 71) (k := 48) _ _ (Or.inr (by decide)))).trans (((pI_ne (a := 71) (b := 2) (c := 71) (k := 47) _ _ (Or.inr (by decide)))).trans (((fu165 71 2 rfl).1).trans ((pI_self _ _ _ _))))))
                      exact (ih (n - 1) (by omega)).1 (u192)   (by first | exact hq194 | exact oQ_pop pu165_0 (by omega) (by omega) (by omega) (by omega)) (by omega) (by omega) (by omega) (by omega) (by omega) (by omega)
                    · skip
                      refine r_iconst C (oDec_at oX12_goesOn 54 rfl) (v := k5) (by rw [qk5]; rfl) ?_
                      refine r_goto C (tgt := 112) (oDec_at oX12_goesOn 55 rfl) (by decide) ?_
                      have lk202 : (((pI (pI u165 71 47 v171) 71 48 v174)).1 71 45).toInt = (u165.1 71 45).toInt := congrArg Int32.toInt (((pI_ne (a := 71) (b := 45) (c := 71) (k := 48) _ _ (Or.inr (by decide)))).trans ((pI_ne (a := 71) (b := 45) (c := 71) (k := 47) _ _ (Or.inr (by decide)))))
                      have lk203 : (((pI (pI u165 71 47 v171) 71 48 v174)).1 71 45).toInt = (u165.1 71 45).toInt := congrArg Int32.toInt (((pI_ne (a := 71) (b := 45) (c := 71) (k := 48) _ _ (Or.inr (by decide)))).trans ((pI_ne (a := 71) (b := 45) (c := 71) (k := 47) _ _ (Or.inr (by decide)))))
                      have lk204 : (((pI (pI u165 71 47 v171) 71 48 v174)).1 71 45).toInt = (u165.1 71 45).toInt := congrArg Int32.toInt (((pI_ne (a := 71) (b := 45) (c := 71) (k := 48) _ _ (Or.inr (by decide)))).trans ((pI_ne (a := 71) (b := 45) (c := 71) (k := 47) _ _ (Or.inr (by decide)))))
                      refine r_callVv C oCl12 rfl miX12_lay mlX12_280 (ct_X12_lay l E ((pI (pI u165 71 47 v171) 71 48 v174)) k5 (by omega)) (by decide) rfl rfl rfl (Nat.le_of_ble_eq_true rfl) (oDec_at oX12_goesOn 57 rfl) (fun u205 pu205 fu205 => ?_)
                      try dsimp only at pu205
                      try simp only [lk203, lk204] at pu205
                      obtain ⟨pu205_0, pu205_1⟩ := pu205
                      have hq207 : oQ b (x + 1) (u205) := oQ_jn hq186 pu205_0 (by omega) (by omega) (by omega)
                      refine r_goto C (tgt := 0) (oDec_at oX12_goesOn 58 rfl) (by decide) ?_
                      have lk208 : ((u205).1 71 5).toInt = v1.toInt := congrArg Int32.toInt (((fu205 71 5 rfl).1).trans (((pI_ne (a := 71) (b := 5) (c := 71) (k := 48) _ _ (Or.inr (by decide)))).trans (((pI_ne (a := 71) (b := 5) (c := 71) (k := 47) _ _ (Or.inr (by decide)))).trans (((fu165 71 5 rfl).1).trans (((pI_ne (a := 71) (b := 5) (c := 71) (k := 2) _ _ (Or.inr (by decide)))).trans (((fu4 71 5 rfl).1).trans (ev1)))))))
                      have lk209 : ((u205).1 71 48).toInt = v174.toInt := congrArg Int32.toInt (((fu205 71 48 rfl).1).trans ((pI_self _ _ _ _)))
                      have lk210 : ((u205).1 71 2).toInt = v157.toInt := congrArg Int32.toInt (((fu205 71 2 rfl).1).trans (((pI_ne (a := 71) (b := 2) (c := 71) (k := 48) _ _ (Or.inr (by decide)))).trans (((pI_ne (a := 71) (b := 2) (c := 71) (k := 47) _ _ (Or.inr (by decide)))).trans (((fu165 71 2 rfl).1).trans ((pI_self _ _ _ _))))))
                      have lk211 : ((u205).1 71 47).toInt = v171.toInt := congrArg Int32.toInt (((fu205 71 47 rfl).1).trans (((pI_ne (a := 71) (b := 47) (c := 71) (k := 48) _ _ (Or.inr (by decide)))).trans ((pI_self _ _ _ _))))
                      have lk212 : ((u205).1 71 2).toInt = v157.toInt := congrArg Int32.toInt (((fu205 71 2 rfl).1).trans (((pI_ne (a := 71) (b := 2) (c := 71) (k := 48) _ _ (Or.inr (by decide)))).trans (((pI_ne (a := 71) (b := 2) (c := 71) (k := 47) _ _ (Or.inr (by decide)))).trans (((fu165 71 2 rfl).1).trans ((pI_self _ _ _ _))))))
                      have lk213 : ((u205).1 71 55).toInt = (t.1 71 55).toInt := congrArg Int32.toInt (((fu205 71 55 rfl).1).trans (((pI_ne (a := 71) (b := 55) (c := 71) (k := 48) _ _ (Or.inr (by decide)))).trans (((pI_ne (a := 71) (b := 55) (c := 71) (k := 47) _ _ (Or.inr (by decide)))).trans (((fu165 71 55 rfl).1).trans (((pI_ne (a := 71) (b := 55) (c := 71) (k := 2) _ _ (Or.inr (by decide)))).trans ((fu4 71 55 rfl).1))))))
                      have lk214 : ((u205).1 71 2).toInt = v157.toInt := congrArg Int32.toInt (((fu205 71 2 rfl).1).trans (((pI_ne (a := 71) (b := 2) (c := 71) (k := 48) _ _ (Or.inr (by decide)))).trans (((pI_ne (a := 71) (b := 2) (c := 71) (k := 47) _ _ (Or.inr (by decide)))).trans (((fu165 71 2 rfl).1).trans ((pI_self _ _ _ _))))))
                      exact (ih (n - 1) (by omega)).1 (u205)   (by first | exact hq207 | exact oQ_pop pu165_0 (by omega) (by omega) (by omega) (by omega)) (by omega) (by omega) (by omega) (by omega) (by omega) (by omega)
      · intro t   iv0 iv1 iv2 iv3 iv4 iv5 hmu
        refine r_ty C (fun hty => ?_)
        have hty_coded : (0 : Int) ≤ ((t).1 71 45).toInt ∧ ((t).1 71 45).toInt ≤ 1600 := hty.1 71 45
        have hty_waits : (0 : Int) ≤ ((t).1 71 47).toInt ∧ ((t).1 71 47).toInt ≤ 1700 := hty.1 71 47
        have hty_at : (0 : Int) ≤ ((t).1 71 2).toInt ∧ ((t).1 71 2).toInt ≤ 1600 := hty.1 71 2
        clear hty
        refine r_aload_n C (j := 0) (oDec_at oX12_goesOn 59 rfl) rfl rfl ?_
        refine r_bipush C (oDec_at oX12_goesOn 60 rfl) (v := k42) (by rw [qk42]; rfl) ?_
        refine r_callVi C oCl12 rfl miX12_takesSign mlX12_207 (ct_X12_takesSign l E (t) k42 (by omega)) (by decide) rfl rfl rfl (Nat.le_of_ble_eq_true rfl) (oDec_at oX12_goesOn 61 rfl) (fun r216 u215 pu215 fu215 => ?_)
        try dsimp only at pu215
        obtain ⟨pu215_0, pu215_1, pu215_2⟩ := pu215
        have rr216 := n_rng r216
        refine r_if_ne C 136 (oDec_at oX12_goesOn 62 rfl) (by decide) (fun cd217 => ?_) (fun cd217 => ?_)
        · skip
          replace pu215_2 := pu215_2 (by omega)
          refine r_aload_n C (j := 0) (oDec_at oX12_goesOn 67 rfl) rfl rfl ?_
          refine r_getF (k := 0) (b := 72) C oCl12 rfl (by decide) flX12_7 rfl rfl rfl (oDec_at oX12_goesOn 68 rfl) ?_
          refine r_aload_n C (j := 0) (oDec_at oX12_goesOn 69 rfl) rfl rfl ?_
          obtain ⟨v218, ev218⟩ : ∃ z : Int32, (u215).1 71 2 = z := ⟨_, rfl⟩
          have gv218 : (u215.1 71 2).toInt = v218.toInt := congrArg Int32.toInt (ev218)
          refine r_geti (k := 2) (lo := 0) (hi := 1600) C v218 oCl12 rfl (by decide) flX12_179 rfl rfl (ev218) rfl rfl (oDec_at oX12_goesOn 70 rfl) (fun b219 b219h => ?_)
          refine r_iconst C (oDec_at oX12_goesOn 71 rfl) (v := k1) (by rw [qk1]; rfl) ?_
          obtain ⟨v220, ev220⟩ : ∃ z : Int32, z = v218 - k1 := ⟨_, rfl⟩
          have hv220 : v220.toInt = v218.toInt - k1.toInt := n_sub ev220 (by omega) (by omega)
          refine r_isub C v220 (oDec_at oX12_goesOn 72 rfl) ev220 ?_
          refine r_pc C 146 rfl ?_
          obtain ⟨v222, ev222⟩ : ∃ z : Int32, (u215).1 72 v220.toNatClampNeg = z := ⟨_, rfl⟩
          have av222 : t.1 72 v220.toNatClampNeg = v222 := ((fu215 72 v220.toNatClampNeg rfl).1).symm.trans ev222
          have gv222 : (t.1 72 v220.toNatClampNeg).toInt = v222.toInt := congrArg Int32.toInt (((fu215 72 v220.toNatClampNeg rfl).1).symm.trans ev222)
          refine r_iald (n := 1600) (lo := 0) (hi := 255) C v222 rfl (by decide) rfl rfl ⟨by omega, by omega⟩ (by decide) ev222 rfl rfl (oDec_at oX12_goesOn 73 rfl) (fun b221 b221h => ?_)
          refine r_bipush C (oDec_at oX12_goesOn 74 rfl) (v := k42) (by rw [qk42]; rfl) ?_
          refine r_icmp_ne C 156 (oDec_at oX12_goesOn 75 rfl) (by decide) (fun cd223 => ?_) (fun cd223 => ?_)
          · skip
            refine r_iconst C (oDec_at oX12_goesOn 78 rfl) (v := k4) (by rw [qk4]; rfl) ?_
            refine r_istore_n C (lv' := [(0, .ref (oad E 71)), (1, .int k4)]) [1, 0] (oDec_at oX12_goesOn 79 rfl) rfl (by decide) rfl ?_
            have lk224 : ((u215).1 71 5).toInt = (t.1 71 5).toInt := congrArg Int32.toInt ((fu215 71 5 rfl).1)
            have lk225 : ((u215).1 71 48).toInt = (t.1 71 48).toInt := congrArg Int32.toInt ((fu215 71 48 rfl).1)
            have lk226 : ((u215).1 71 2).toInt = v218.toInt := congrArg Int32.toInt (ev218)
            have lk227 : ((u215).1 71 45).toInt = (t.1 71 45).toInt := congrArg Int32.toInt ((fu215 71 45 rfl).1)
            have lk228 : ((u215).1 71 47).toInt = (t.1 71 47).toInt := congrArg Int32.toInt ((fu215 71 47 rfl).1)
            have lk229 : ((u215).1 71 2).toInt = v218.toInt := congrArg Int32.toInt (ev218)
            have lk230 : ((u215).1 71 47).toInt = (t.1 71 47).toInt := congrArg Int32.toInt ((fu215 71 47 rfl).1)
            exact (ih (n - 1) (by omega)).2.2.1 (u215) k4  (oQ_fr fu215 rfl iv0) (by omega) (by omega) (by omega) (by omega) (by omega) (by omega)
          · skip
            refine r_iconst C (oDec_at oX12_goesOn 76 rfl) (v := k3) (by rw [qk3]; rfl) ?_
            refine r_goto C (tgt := 157) (oDec_at oX12_goesOn 77 rfl) (by decide) ?_
            refine r_istore_n C (lv' := [(0, .ref (oad E 71)), (1, .int k3)]) [1, 0] (oDec_at oX12_goesOn 79 rfl) rfl (by decide) rfl ?_
            have lk231 : ((u215).1 71 5).toInt = (t.1 71 5).toInt := congrArg Int32.toInt ((fu215 71 5 rfl).1)
            have lk232 : ((u215).1 71 48).toInt = (t.1 71 48).toInt := congrArg Int32.toInt ((fu215 71 48 rfl).1)
            have lk233 : ((u215).1 71 2).toInt = v218.toInt := congrArg Int32.toInt (ev218)
            have lk234 : ((u215).1 71 45).toInt = (t.1 71 45).toInt := congrArg Int32.toInt ((fu215 71 45 rfl).1)
            have lk235 : ((u215).1 71 47).toInt = (t.1 71 47).toInt := congrArg Int32.toInt ((fu215 71 47 rfl).1)
            have lk236 : ((u215).1 71 2).toInt = v218.toInt := congrArg Int32.toInt (ev218)
            have lk237 : ((u215).1 71 47).toInt = (t.1 71 47).toInt := congrArg Int32.toInt ((fu215 71 47 rfl).1)
            exact (ih (n - 1) (by omega)).2.2.1 (u215) k3  (oQ_fr fu215 rfl iv0) (by omega) (by omega) (by omega) (by omega) (by omega) (by omega)
        · skip
          clear pu215_2
          refine r_aload_n C (j := 0) (oDec_at oX12_goesOn 63 rfl) rfl rfl ?_
          refine r_bipush C (oDec_at oX12_goesOn 64 rfl) (v := k47) (by rw [qk47]; rfl) ?_
          have lk238 : ((u215).1 71 5).toInt = (t.1 71 5).toInt := congrArg Int32.toInt ((fu215 71 5 rfl).1)
          refine r_callVi C oCl12 rfl miX12_takesSign mlX12_207 (ct_X12_takesSign l E (u215) k47 (by omega)) (by decide) rfl rfl rfl (Nat.le_of_ble_eq_true rfl) (oDec_at oX12_goesOn 65 rfl) (fun r240 u239 pu239 fu239 => ?_)
          try dsimp only at pu239
          try simp only [lk238] at pu239
          obtain ⟨pu239_0, pu239_1, pu239_2⟩ := pu239
          have rr240 := n_rng r240
          refine r_if_eq C 203 (oDec_at oX12_goesOn 66 rfl) (by decide) (fun cd241 => ?_) (fun cd241 => ?_)
          · skip
            clear pu239_2
            refine r_aload_n C (j := 0) (oDec_at oX12_goesOn 105 rfl) rfl rfl ?_
            refine r_bipush C (oDec_at oX12_goesOn 106 rfl) (v := k43) (by rw [qk43]; rfl) ?_
            have lk242 : ((u239).1 71 5).toInt = (t.1 71 5).toInt := congrArg Int32.toInt (((fu239 71 5 rfl).1).trans ((fu215 71 5 rfl).1))
            refine r_callVi C oCl12 rfl miX12_takesSign mlX12_207 (ct_X12_takesSign l E (u239) k43 (by omega)) (by decide) rfl rfl rfl (Nat.le_of_ble_eq_true rfl) (oDec_at oX12_goesOn 107 rfl) (fun r244 u243 pu243 fu243 => ?_)
            try dsimp only at pu243
            try simp only [lk242] at pu243
            obtain ⟨pu243_0, pu243_1, pu243_2⟩ := pu243
            have rr244 := n_rng r244
            refine r_if_ne C 221 (oDec_at oX12_goesOn 108 rfl) (by decide) (fun cd245 => ?_) (fun cd245 => ?_)
            · skip
              replace pu243_2 := pu243_2 (by omega)
              refine r_aload_n C (j := 0) (oDec_at oX12_goesOn 113 rfl) rfl rfl ?_
              refine r_getF (k := 0) (b := 72) C oCl12 rfl (by decide) flX12_7 rfl rfl rfl (oDec_at oX12_goesOn 114 rfl) ?_
              refine r_aload_n C (j := 0) (oDec_at oX12_goesOn 115 rfl) rfl rfl ?_
              obtain ⟨v246, ev246⟩ : ∃ z : Int32, (u243).1 71 2 = z := ⟨_, rfl⟩
              have gv246 : (u243.1 71 2).toInt = v246.toInt := congrArg Int32.toInt (ev246)
              refine r_geti (k := 2) (lo := 0) (hi := 1600) C v246 oCl12 rfl (by decide) flX12_179 rfl rfl (ev246) rfl rfl (oDec_at oX12_goesOn 116 rfl) (fun b247 b247h => ?_)
              refine r_iconst C (oDec_at oX12_goesOn 117 rfl) (v := k1) (by rw [qk1]; rfl) ?_
              obtain ⟨v248, ev248⟩ : ∃ z : Int32, z = v246 - k1 := ⟨_, rfl⟩
              have hv248 : v248.toInt = v246.toInt - k1.toInt := n_sub ev248 (by omega) (by omega)
              refine r_isub C v248 (oDec_at oX12_goesOn 118 rfl) ev248 ?_
              refine r_pc C 231 rfl ?_
              obtain ⟨v250, ev250⟩ : ∃ z : Int32, (u243).1 72 v248.toNatClampNeg = z := ⟨_, rfl⟩
              have av250 : t.1 72 v248.toNatClampNeg = v250 := (((fu243 72 v248.toNatClampNeg rfl).1).trans (((fu239 72 v248.toNatClampNeg rfl).1).trans ((fu215 72 v248.toNatClampNeg rfl).1))).symm.trans ev250
              have gv250 : (t.1 72 v248.toNatClampNeg).toInt = v250.toInt := congrArg Int32.toInt ((((fu243 72 v248.toNatClampNeg rfl).1).trans (((fu239 72 v248.toNatClampNeg rfl).1).trans ((fu215 72 v248.toNatClampNeg rfl).1))).symm.trans ev250)
              refine r_iald (n := 1600) (lo := 0) (hi := 255) C v250 rfl (by decide) rfl rfl ⟨by omega, by omega⟩ (by decide) ev250 rfl rfl (oDec_at oX12_goesOn 119 rfl) (fun b249 b249h => ?_)
              refine r_bipush C (oDec_at oX12_goesOn 120 rfl) (v := k43) (by rw [qk43]; rfl) ?_
              refine r_icmp_ne C 241 (oDec_at oX12_goesOn 121 rfl) (by decide) (fun cd251 => ?_) (fun cd251 => ?_)
              · skip
                refine r_iconst C (oDec_at oX12_goesOn 124 rfl) (v := k2) (by rw [qk2]; rfl) ?_
                refine r_istore_n C (lv' := [(0, .ref (oad E 71)), (1, .int k2)]) [1, 0] (oDec_at oX12_goesOn 125 rfl) rfl (by decide) rfl ?_
                have lk252 : ((u243).1 71 5).toInt = (t.1 71 5).toInt := congrArg Int32.toInt (((fu243 71 5 rfl).1).trans (((fu239 71 5 rfl).1).trans ((fu215 71 5 rfl).1)))
                have lk253 : ((u243).1 71 48).toInt = (t.1 71 48).toInt := congrArg Int32.toInt (((fu243 71 48 rfl).1).trans (((fu239 71 48 rfl).1).trans ((fu215 71 48 rfl).1)))
                have lk254 : ((u243).1 71 2).toInt = v246.toInt := congrArg Int32.toInt (ev246)
                have lk255 : ((u243).1 71 45).toInt = (t.1 71 45).toInt := congrArg Int32.toInt (((fu243 71 45 rfl).1).trans (((fu239 71 45 rfl).1).trans ((fu215 71 45 rfl).1)))
                have lk256 : ((u243).1 71 47).toInt = (t.1 71 47).toInt := congrArg Int32.toInt (((fu243 71 47 rfl).1).trans (((fu239 71 47 rfl).1).trans ((fu215 71 47 rfl).1)))
                have lk257 : ((u243).1 71 2).toInt = v246.toInt := congrArg Int32.toInt (ev246)
                have lk258 : ((u243).1 71 47).toInt = (t.1 71 47).toInt := congrArg Int32.toInt (((fu243 71 47 rfl).1).trans (((fu239 71 47 rfl).1).trans ((fu215 71 47 rfl).1)))
                exact (ih (n - 1) (by omega)).2.2.2 (u243) k2  (oQ_fr fu243 rfl (oQ_fr fu239 rfl (oQ_fr fu215 rfl iv0))) (by omega) (by omega) (by omega) (by omega) (by omega) (by omega)
              · skip
                refine r_iconst C (oDec_at oX12_goesOn 122 rfl) (v := k1) (by rw [qk1]; rfl) ?_
                refine r_goto C (tgt := 242) (oDec_at oX12_goesOn 123 rfl) (by decide) ?_
                refine r_istore_n C (lv' := [(0, .ref (oad E 71)), (1, .int k1)]) [1, 0] (oDec_at oX12_goesOn 125 rfl) rfl (by decide) rfl ?_
                have lk259 : ((u243).1 71 5).toInt = (t.1 71 5).toInt := congrArg Int32.toInt (((fu243 71 5 rfl).1).trans (((fu239 71 5 rfl).1).trans ((fu215 71 5 rfl).1)))
                have lk260 : ((u243).1 71 48).toInt = (t.1 71 48).toInt := congrArg Int32.toInt (((fu243 71 48 rfl).1).trans (((fu239 71 48 rfl).1).trans ((fu215 71 48 rfl).1)))
                have lk261 : ((u243).1 71 2).toInt = v246.toInt := congrArg Int32.toInt (ev246)
                have lk262 : ((u243).1 71 45).toInt = (t.1 71 45).toInt := congrArg Int32.toInt (((fu243 71 45 rfl).1).trans (((fu239 71 45 rfl).1).trans ((fu215 71 45 rfl).1)))
                have lk263 : ((u243).1 71 47).toInt = (t.1 71 47).toInt := congrArg Int32.toInt (((fu243 71 47 rfl).1).trans (((fu239 71 47 rfl).1).trans ((fu215 71 47 rfl).1)))
                have lk264 : ((u243).1 71 2).toInt = v246.toInt := congrArg Int32.toInt (ev246)
                have lk265 : ((u243).1 71 47).toInt = (t.1 71 47).toInt := congrArg Int32.toInt (((fu243 71 47 rfl).1).trans (((fu239 71 47 rfl).1).trans ((fu215 71 47 rfl).1)))
                exact (ih (n - 1) (by omega)).2.2.2 (u243) k1  (oQ_fr fu243 rfl (oQ_fr fu239 rfl (oQ_fr fu215 rfl iv0))) (by omega) (by omega) (by omega) (by omega) (by omega) (by omega)
            · skip
              clear pu243_2
              refine r_aload_n C (j := 0) (oDec_at oX12_goesOn 109 rfl) rfl rfl ?_
              refine r_bipush C (oDec_at oX12_goesOn 110 rfl) (v := k45) (by rw [qk45]; rfl) ?_
              have lk266 : ((u243).1 71 5).toInt = (t.1 71 5).toInt := congrArg Int32.toInt (((fu243 71 5 rfl).1).trans (((fu239 71 5 rfl).1).trans ((fu215 71 5 rfl).1)))
              refine r_callVi C oCl12 rfl miX12_takesSign mlX12_207 (ct_X12_takesSign l E (u243) k45 (by omega)) (by decide) rfl rfl rfl (Nat.le_of_ble_eq_true rfl) (oDec_at oX12_goesOn 111 rfl) (fun r268 u267 pu267 fu267 => ?_)
              try dsimp only at pu267
              try simp only [lk266] at pu267
              obtain ⟨pu267_0, pu267_1, pu267_2⟩ := pu267
              have rr268 := n_rng r268
              refine r_if_eq C 304 (oDec_at oX12_goesOn 112 rfl) (by decide) (fun cd269 => ?_) (fun cd269 => ?_)
              · skip
                clear pu267_2
                refine r_aload_n C (j := 0) (oDec_at oX12_goesOn 159 rfl) rfl rfl ?_
                refine r_callVi C oCl12 rfl miX12_mark mlX12_304 (ct_X12_mark l E (u267)  ) (by decide) rfl rfl rfl (Nat.le_of_ble_eq_true rfl) (oDec_at oX12_goesOn 160 rfl) (fun r271 u270 pu270 fu270 => ?_)
                try dsimp only at pu270
                have hxu270 := oFr_nil fu270; subst hxu270
                have rr271 := n_rng r271
                refine r_bipush C (oDec_at oX12_goesOn 161 rfl) (v := k21) (by rw [qk21]; rfl) ?_
                refine r_icmp_eq C 322 (oDec_at oX12_goesOn 162 rfl) (by decide) (fun cd272 => ?_) (fun cd272 => ?_)
                · skip
                  have lk273 : ((u267).1 71 45).toInt = (t.1 71 45).toInt := congrArg Int32.toInt (((fu267 71 45 rfl).1).trans (((fu243 71 45 rfl).1).trans (((fu239 71 45 rfl).1).trans ((fu215 71 45 rfl).1))))
                  have lk274 : ((u267).1 71 47).toInt = (t.1 71 47).toInt := congrArg Int32.toInt (((fu267 71 47 rfl).1).trans (((fu243 71 47 rfl).1).trans (((fu239 71 47 rfl).1).trans ((fu215 71 47 rfl).1))))
                  have lk275 : ((u267).1 71 48).toInt = (t.1 71 48).toInt := congrArg Int32.toInt (((fu267 71 48 rfl).1).trans (((fu243 71 48 rfl).1).trans (((fu239 71 48 rfl).1).trans ((fu215 71 48 rfl).1))))
                  have hq276 : oMk (r271.toInt) (u267) := pu270
                  refine r_aload_n C (j := 0) (oDec_at oX12_goesOn 167 rfl) rfl rfl ?_
                  refine r_bipush C (oDec_at oX12_goesOn 168 rfl) (v := k44) (by rw [qk44]; rfl) ?_
                  have lk277 : ((u267).1 71 5).toInt = (t.1 71 5).toInt := congrArg Int32.toInt (((fu267 71 5 rfl).1).trans (((fu243 71 5 rfl).1).trans (((fu239 71 5 rfl).1).trans ((fu215 71 5 rfl).1))))
                  refine r_callVv C oCl12 rfl miX12_asksSign mlX12_248 (ct_X12_asksSign l E (u267) k44 (by omega)) (by decide) rfl rfl rfl (Nat.le_of_ble_eq_true rfl) (oDec_at oX12_goesOn 169 rfl) (fun u278 pu278 fu278 => ?_)
                  try dsimp only at pu278
                  try simp only [lk277] at pu278
                  obtain ⟨pu278_0, pu278_1⟩ := pu278
                  refine r_aload_n C (j := 0) (oDec_at oX12_goesOn 170 rfl) rfl rfl ?_
                  obtain ⟨v280, ev280⟩ : ∃ z : Int32, (u278).1 71 5 = z := ⟨_, rfl⟩
                  have gv280 : (u278.1 71 5).toInt = v280.toInt := congrArg Int32.toInt (ev280)
                  have rv280 := n_rng v280
                  refine r_geti (k := 5) (lo := (-2147483648)) (hi := 2147483647) C v280 oCl12 rfl (by decide) flX12_173 rfl rfl (ev280) rfl rfl (oDec_at oX12_goesOn 171 rfl) (fun _ _ => ?_)
                  refine r_if_eq C 337 (oDec_at oX12_goesOn 172 rfl) (by decide) (fun cd281 => ?_) (fun cd281 => ?_)
                  · skip
                    refine r_aload_n C (j := 0) (oDec_at oX12_goesOn 175 rfl) rfl rfl ?_
                    have lk282 : ((u278).1 71 55).toInt = (t.1 71 55).toInt := congrArg Int32.toInt (((fu278 71 55 rfl).1).trans (((fu267 71 55 rfl).1).trans (((fu243 71 55 rfl).1).trans (((fu239 71 55 rfl).1).trans ((fu215 71 55 rfl).1)))))
                    have lk283 : ((u278).1 71 5).toInt = v280.toInt := congrArg Int32.toInt (ev280)
                    have lk284 : ((u278).1 71 45).toInt = (t.1 71 45).toInt := congrArg Int32.toInt (((fu278 71 45 rfl).1).trans (((fu267 71 45 rfl).1).trans (((fu243 71 45 rfl).1).trans (((fu239 71 45 rfl).1).trans ((fu215 71 45 rfl).1)))))
                    have lk285 : ((u278).1 71 47).toInt = (t.1 71 47).toInt := congrArg Int32.toInt (((fu278 71 47 rfl).1).trans (((fu267 71 47 rfl).1).trans (((fu243 71 47 rfl).1).trans (((fu239 71 47 rfl).1).trans ((fu215 71 47 rfl).1)))))
                    have lk286 : ((u278).1 71 45).toInt = (t.1 71 45).toInt := congrArg Int32.toInt (((fu278 71 45 rfl).1).trans (((fu267 71 45 rfl).1).trans (((fu243 71 45 rfl).1).trans (((fu239 71 45 rfl).1).trans ((fu215 71 45 rfl).1)))))
                    have lk287 : ((u278).1 71 47).toInt = (t.1 71 47).toInt := congrArg Int32.toInt (((fu278 71 47 rfl).1).trans (((fu267 71 47 rfl).1).trans (((fu243 71 47 rfl).1).trans (((fu239 71 47 rfl).1).trans ((fu215 71 47 rfl).1)))))
                    have lk288 : ((u278).1 71 47).toInt = (t.1 71 47).toInt := congrArg Int32.toInt (((fu278 71 47 rfl).1).trans (((fu267 71 47 rfl).1).trans (((fu243 71 47 rfl).1).trans (((fu239 71 47 rfl).1).trans ((fu215 71 47 rfl).1)))))
                    refine r_callVv C oCl12 rfl miX12_dropsToMark mlX12_307 (ct_X12_dropsToMark l E (u278)  (b) (x + 1) (r271.toInt) (oQ_frb fu278 rfl (by omega) (oQ_fr fu267 rfl (oQ_fr fu243 rfl (oQ_fr fu239 rfl (oQ_fr fu215 rfl iv0))))) (oMk_fr fu278 rfl hq276) (by omega) (by omega) (by omega) (by omega)) (by decide) rfl rfl rfl (Nat.le_of_ble_eq_true rfl) (oDec_at oX12_goesOn 176 rfl) (fun u289 pu289 fu289 => ?_)
                    try dsimp only at pu289
                    try simp only [lk282, lk283, lk284, lk285, lk286, lk287, lk288] at pu289
                    obtain ⟨pu289_0, pu289_1, pu289_2, pu289_3⟩ := pu289
                    have lk291 : ((u289).1 71 5).toInt = v280.toInt := congrArg Int32.toInt (((fu289 71 5 rfl).1).trans (ev280))
                    have lk292 : ((u289).1 71 48).toInt = (t.1 71 48).toInt := congrArg Int32.toInt (((fu289 71 48 rfl).1).trans (((fu278 71 48 rfl).1).trans (((fu267 71 48 rfl).1).trans (((fu243 71 48 rfl).1).trans (((fu239 71 48 rfl).1).trans ((fu215 71 48 rfl).1))))))
                    have htp := pu289_3 (by omega)
                    refine r_aload_n C (j := 0) (oDec_at oX12_goesOn 177 rfl) rfl rfl ?_
                    refine r_getF (k := 46) (b := 103) C oCl12 rfl (by decide) flX12_111 rfl rfl rfl (oDec_at oX12_goesOn 178 rfl) ?_
                    refine r_aload_n C (j := 0) (oDec_at oX12_goesOn 179 rfl) rfl rfl ?_
                    obtain ⟨v293, ev293⟩ : ∃ z : Int32, (u289).1 71 47 = z := ⟨_, rfl⟩
                    have gv293 : (u289.1 71 47).toInt = v293.toInt := congrArg Int32.toInt (ev293)
                    refine r_geti (k := 47) (lo := 0) (hi := 1700) C v293 oCl12 rfl (by decide) flX12_277 rfl rfl (ev293) rfl rfl (oDec_at oX12_goesOn 180 rfl) (fun b294 b294h => ?_)
                    refine r_pc C 349 rfl ?_
                    refine r_iconst C (oDec_at oX12_goesOn 181 rfl) (v := k1) (by rw [qk1]; rfl) ?_
                    obtain ⟨v295, ev295⟩ : ∃ z : Int32, z = v293 - k1 := ⟨_, rfl⟩
                    have hv295 : v295.toInt = v293.toInt - k1.toInt := n_sub ev295 (by omega) (by omega)
                    refine r_isub C v295 (oDec_at oX12_goesOn 182 rfl) ev295 ?_
                    refine r_dup2 C (oDec_at oX12_goesOn 183 rfl) rfl rfl ?_
                    obtain ⟨v297, ev297⟩ : ∃ z : Int32, (u289).1 103 v295.toNatClampNeg = z := ⟨_, rfl⟩
                    have av297 : t.1 103 v295.toNatClampNeg = v297 := (((fu289 103 v295.toNatClampNeg rfl).1).trans (((fu278 103 v295.toNatClampNeg rfl).1).trans (((fu267 103 v295.toNatClampNeg rfl).1).trans (((fu243 103 v295.toNatClampNeg rfl).1).trans (((fu239 103 v295.toNatClampNeg rfl).1).trans ((fu215 103 v295.toNatClampNeg rfl).1)))))).symm.trans ev297
                    have gv297 : (t.1 103 v295.toNatClampNeg).toInt = v297.toInt := congrArg Int32.toInt ((((fu289 103 v295.toNatClampNeg rfl).1).trans (((fu278 103 v295.toNatClampNeg rfl).1).trans (((fu267 103 v295.toNatClampNeg rfl).1).trans (((fu243 103 v295.toNatClampNeg rfl).1).trans (((fu239 103 v295.toNatClampNeg rfl).1).trans ((fu215 103 v295.toNatClampNeg rfl).1)))))).symm.trans ev297)
                    have rv297 := n_rng v297
                    refine r_iald (n := 1700) (lo := (-2147483648)) (hi := 2147483647) C v297 rfl (by decide) rfl rfl ⟨by omega, by omega⟩ (by decide) ev297 rfl rfl (oDec_at oX12_goesOn 184 rfl) (fun _ _ => ?_)
                    have hv0 := oTop_of (s := u289) (i := v295) ev297 (by omega)
                    refine r_iconst C (oDec_at oX12_goesOn 185 rfl) (v := k2) (by rw [qk2]; rfl) ?_
                    obtain ⟨v298, ev298⟩ : ∃ z : Int32, z = v297 + k2 := ⟨_, rfl⟩
                    have hv298 : v298.toInt = v297.toInt + k2.toInt := n_add ev298 (by omega) (by omega)
                    refine r_iadd C v298 (oDec_at oX12_goesOn 186 rfl) ev298 ?_
                    refine r_pc C 355 rfl ?_
                    refine r_iast (n := 1700) (lo := (-2147483648)) (hi := 2147483647) C rfl (by decide) rfl rfl ⟨by omega, by omega⟩ (by decide) rfl rfl rfl rfl (n_rng _) (oDec_at oX12_goesOn 187 rfl) ?_
                    have hq299 : oQ b x ((pI u289 103 v295.toNatClampNeg v298)) := oQ_comma (x := x) pu289_0 (by omega) (by omega) (by assumption) (by omega)
                    refine r_iconst C (oDec_at oX12_goesOn 188 rfl) (v := k1) (by rw [qk1]; rfl) ?_
                    have lk300 : (((pI u289 103 v295.toNatClampNeg v298)).1 71 48).toInt = (t.1 71 48).toInt := congrArg Int32.toInt (((pI_ne (a := 71) (b := 48) (c := 103) _ _ (Or.inl (by decide)))).trans (((fu289 71 48 rfl).1).trans (((fu278 71 48 rfl).1).trans (((fu267 71 48 rfl).1).trans (((fu243 71 48 rfl).1).trans (((fu239 71 48 rfl).1).trans ((fu215 71 48 rfl).1)))))))
                    have lk301 : (((pI u289 103 v295.toNatClampNeg v298)).1 71 2).toInt = (u278.1 71 2).toInt := congrArg Int32.toInt (((pI_ne (a := 71) (b := 2) (c := 103) _ _ (Or.inl (by decide)))).trans ((fu289 71 2 rfl).1))
                    have lk302 : (((pI u289 103 v295.toNatClampNeg v298)).1 71 45).toInt = (u289.1 71 45).toInt := congrArg Int32.toInt ((pI_ne (a := 71) (b := 45) (c := 103) _ _ (Or.inl (by decide))))
                    have lk303 : (((pI u289 103 v295.toNatClampNeg v298)).1 71 47).toInt = v293.toInt := congrArg Int32.toInt (((pI_ne (a := 71) (b := 47) (c := 103) _ _ (Or.inl (by decide)))).trans (ev293))
                    have lk304 : (((pI u289 103 v295.toNatClampNeg v298)).1 71 2).toInt = (u278.1 71 2).toInt := congrArg Int32.toInt (((pI_ne (a := 71) (b := 2) (c := 103) _ _ (Or.inl (by decide)))).trans ((fu289 71 2 rfl).1))
                    exact r_zret C (n_bool (by omega)) (oDec_at oX12_goesOn 189 rfl) ⟨_, rfl, ⟨by omega, by first | (intro h; exfalso; omega) | exact fun _ => hq299, by first | (intro h; exfalso; omega) | exact fun _ => ⟨(by assumption), by first | (intro hb; exfalso; omega) | exact fun _ => oMk_c pu289 (by omega)⟩, by omega, by omega, by omega⟩⟩
                  · skip
                    refine r_iconst C (oDec_at oX12_goesOn 173 rfl) (v := k0) (by rw [qk0]; rfl) ?_
                    have lk305 : ((u278).1 71 48).toInt = (t.1 71 48).toInt := congrArg Int32.toInt (((fu278 71 48 rfl).1).trans (((fu267 71 48 rfl).1).trans (((fu243 71 48 rfl).1).trans (((fu239 71 48 rfl).1).trans ((fu215 71 48 rfl).1)))))
                    have lk306 : ((u278).1 71 45).toInt = (t.1 71 45).toInt := congrArg Int32.toInt (((fu278 71 45 rfl).1).trans (((fu267 71 45 rfl).1).trans (((fu243 71 45 rfl).1).trans (((fu239 71 45 rfl).1).trans ((fu215 71 45 rfl).1)))))
                    have lk307 : ((u278).1 71 47).toInt = (t.1 71 47).toInt := congrArg Int32.toInt (((fu278 71 47 rfl).1).trans (((fu267 71 47 rfl).1).trans (((fu243 71 47 rfl).1).trans (((fu239 71 47 rfl).1).trans ((fu215 71 47 rfl).1)))))
                    exact r_zret C (n_bool (by omega)) (oDec_at oX12_goesOn 174 rfl) ⟨_, rfl, ⟨by omega, by first | (intro h; exfalso; omega) | exact fun _ => (by assumption), by first | (intro h; exfalso; omega) | exact fun _ => ⟨(oQ_frb fu278 rfl (by omega) (oQ_fr fu267 rfl (oQ_fr fu243 rfl (oQ_fr fu239 rfl (oQ_fr fu215 rfl iv0))))), by first | (intro hb; exfalso; omega) | exact fun _ => oMk_c pu278 (by omega)⟩, by omega, by omega, by omega⟩⟩
                · skip
                  refine r_aload_n C (j := 0) (oDec_at oX12_goesOn 163 rfl) rfl rfl ?_
                  refine r_callVi C oCl12 rfl miX12_mark mlX12_304 (ct_X12_mark l E (u267)  ) (by decide) rfl rfl rfl (Nat.le_of_ble_eq_true rfl) (oDec_at oX12_goesOn 164 rfl) (fun r309 u308 pu308 fu308 => ?_)
                  try dsimp only at pu308
                  have hxu308 := oFr_nil fu308; subst hxu308
                  have rr309 := n_rng r309
                  refine r_bipush C (oDec_at oX12_goesOn 165 rfl) (v := k22) (by rw [qk22]; rfl) ?_
                  refine r_icmp_ne C 358 (oDec_at oX12_goesOn 166 rfl) (by decide) (fun cd310 => ?_) (fun cd310 => ?_)
                  · skip
                    refine r_aload_n C (j := 0) (oDec_at oX12_goesOn 190 rfl) rfl rfl ?_
                    refine r_callVi C oCl12 rfl miX12_mark mlX12_304 (ct_X12_mark l E (u267)  ) (by decide) rfl rfl rfl (Nat.le_of_ble_eq_true rfl) (oDec_at oX12_goesOn 191 rfl) (fun r312 u311 pu311 fu311 => ?_)
                    try dsimp only at pu311
                    have hxu311 := oFr_nil fu311; subst hxu311
                    have rr312 := n_rng r312
                    refine r_iconst C (oDec_at oX12_goesOn 192 rfl) (v := km1) (by rw [qkm1]; rfl) ?_
                    refine r_icmp_eq C 382 (oDec_at oX12_goesOn 193 rfl) (by decide) (fun cd313 => ?_) (fun cd313 => ?_)
                    · skip
                      refine r_iconst C (oDec_at oX12_goesOn 202 rfl) (v := k0) (by rw [qk0]; rfl) ?_
                      have lk314 : ((u267).1 71 48).toInt = (t.1 71 48).toInt := congrArg Int32.toInt (((fu267 71 48 rfl).1).trans (((fu243 71 48 rfl).1).trans (((fu239 71 48 rfl).1).trans ((fu215 71 48 rfl).1))))
                      have lk315 : ((u267).1 71 45).toInt = (t.1 71 45).toInt := congrArg Int32.toInt (((fu267 71 45 rfl).1).trans (((fu243 71 45 rfl).1).trans (((fu239 71 45 rfl).1).trans ((fu215 71 45 rfl).1))))
                      have lk316 : ((u267).1 71 47).toInt = (t.1 71 47).toInt := congrArg Int32.toInt (((fu267 71 47 rfl).1).trans (((fu243 71 47 rfl).1).trans (((fu239 71 47 rfl).1).trans ((fu215 71 47 rfl).1))))
                      exact r_zret C (n_bool (by omega)) (oDec_at oX12_goesOn 203 rfl) ⟨_, rfl, ⟨by omega, by first | (intro h; exfalso; omega) | exact fun _ => (by assumption), by first | (intro h; exfalso; omega) | exact fun _ => ⟨(oQ_fr fu267 rfl (oQ_fr fu243 rfl (oQ_fr fu239 rfl (oQ_fr fu215 rfl iv0)))), by first | (intro hb; exfalso; omega) | exact fun _ => oMk_c pu311 (by omega)⟩, by omega, by omega, by omega⟩⟩
                    · skip
                      have lk317 : ((u267).1 71 5).toInt = (t.1 71 5).toInt := congrArg Int32.toInt (((fu267 71 5 rfl).1).trans (((fu243 71 5 rfl).1).trans (((fu239 71 5 rfl).1).trans ((fu215 71 5 rfl).1))))
                      refine r_aload_n C (j := 0) (oDec_at oX12_goesOn 194 rfl) rfl rfl ?_
                      obtain ⟨v318, ev318⟩ : ∃ z : Int32, (u267).1 71 5 = z := ⟨_, rfl⟩
                      have gv318 : (t.1 71 5).toInt = v318.toInt := congrArg Int32.toInt ((((fu267 71 5 rfl).1).trans (((fu243 71 5 rfl).1).trans (((fu239 71 5 rfl).1).trans ((fu215 71 5 rfl).1)))).symm.trans ev318)
                      have ggv318 : ((u267).1 71 5).toInt = v318.toInt := congrArg Int32.toInt ev318
                      have rv318 := n_rng v318
                      refine r_geti (k := 5) (lo := (-2147483648)) (hi := 2147483647) C v318 oCl12 rfl (by decide) flX12_173 rfl rfl (ev318) rfl rfl (oDec_at oX12_goesOn 195 rfl) (fun _ _ => ?_)
                      refine r_if_ne C 382 (oDec_at oX12_goesOn 196 rfl) (by decide) (fun cd319 => ?_) (fun cd319 => ?_)
                      · skip
                        refine r_iconst C (oDec_at oX12_goesOn 202 rfl) (v := k0) (by rw [qk0]; rfl) ?_
                        have lk320 : ((u267).1 71 48).toInt = (t.1 71 48).toInt := congrArg Int32.toInt (((fu267 71 48 rfl).1).trans (((fu243 71 48 rfl).1).trans (((fu239 71 48 rfl).1).trans ((fu215 71 48 rfl).1))))
                        have lk321 : ((u267).1 71 45).toInt = (t.1 71 45).toInt := congrArg Int32.toInt (((fu267 71 45 rfl).1).trans (((fu243 71 45 rfl).1).trans (((fu239 71 45 rfl).1).trans ((fu215 71 45 rfl).1))))
                        have lk322 : ((u267).1 71 47).toInt = (t.1 71 47).toInt := congrArg Int32.toInt (((fu267 71 47 rfl).1).trans (((fu243 71 47 rfl).1).trans (((fu239 71 47 rfl).1).trans ((fu215 71 47 rfl).1))))
                        exact r_zret C (n_bool (by omega)) (oDec_at oX12_goesOn 203 rfl) ⟨_, rfl, ⟨by omega, by first | (intro h; exfalso; omega) | exact fun _ => (by assumption), by first | (intro h; exfalso; omega) | exact fun _ => ⟨(oQ_fr fu267 rfl (oQ_fr fu243 rfl (oQ_fr fu239 rfl (oQ_fr fu215 rfl iv0)))), by first | (intro hb; exfalso; omega) | exact fun _ => oMk_c pu311 (by omega)⟩, by omega, by omega, by omega⟩⟩
                      · skip
                        refine r_aload_n C (j := 0) (oDec_at oX12_goesOn 197 rfl) rfl rfl ?_
                        refine r_iconst C (oDec_at oX12_goesOn 198 rfl) (v := k1) (by rw [qk1]; rfl) ?_
                        refine r_aload_n C (j := 0) (oDec_at oX12_goesOn 199 rfl) rfl rfl ?_
                        obtain ⟨v323, ev323⟩ : ∃ z : Int32, (u267).1 71 2 = z := ⟨_, rfl⟩
                        have gv323 : (u267.1 71 2).toInt = v323.toInt := congrArg Int32.toInt (ev323)
                        refine r_geti (k := 2) (lo := 0) (hi := 1600) C v323 oCl12 rfl (by decide) flX12_179 rfl rfl (ev323) rfl rfl (oDec_at oX12_goesOn 200 rfl) (fun b324 b324h => ?_)
                        have lk325 : ((u267).1 71 5).toInt = v318.toInt := congrArg Int32.toInt (ev318)
                        have lk326 : ((u267).1 71 5).toInt = v318.toInt := congrArg Int32.toInt (ev318)
                        refine r_callVv C oCl12 rfl miX12_fail mlX12_203 (ct_X12_fail l E (u267) k1 v323 ) (by decide) rfl rfl rfl (Nat.le_of_ble_eq_true rfl) (oDec_at oX12_goesOn 201 rfl) (fun u327 pu327 fu327 => ?_)
                        try dsimp only at pu327
                        try simp only [lk325, lk326] at pu327
                        obtain ⟨pu327_0, pu327_1⟩ := pu327
                        refine r_iconst C (oDec_at oX12_goesOn 202 rfl) (v := k0) (by rw [qk0]; rfl) ?_
                        refine r_pc C 383 rfl ?_
                        have lk329 : ((u327).1 71 48).toInt = (t.1 71 48).toInt := congrArg Int32.toInt (((fu327 71 48 rfl).1).trans (((fu267 71 48 rfl).1).trans (((fu243 71 48 rfl).1).trans (((fu239 71 48 rfl).1).trans ((fu215 71 48 rfl).1)))))
                        have lk330 : ((u327).1 71 2).toInt = v323.toInt := congrArg Int32.toInt (((fu327 71 2 rfl).1).trans (ev323))
                        have lk331 : ((u327).1 71 45).toInt = (t.1 71 45).toInt := congrArg Int32.toInt (((fu327 71 45 rfl).1).trans (((fu267 71 45 rfl).1).trans (((fu243 71 45 rfl).1).trans (((fu239 71 45 rfl).1).trans ((fu215 71 45 rfl).1)))))
                        have lk332 : ((u327).1 71 47).toInt = (t.1 71 47).toInt := congrArg Int32.toInt (((fu327 71 47 rfl).1).trans (((fu267 71 47 rfl).1).trans (((fu243 71 47 rfl).1).trans (((fu239 71 47 rfl).1).trans ((fu215 71 47 rfl).1)))))
                        have lk333 : ((u327).1 71 2).toInt = v323.toInt := congrArg Int32.toInt (((fu327 71 2 rfl).1).trans (ev323))
                        exact r_zret C (n_bool (by omega)) (oDec_at oX12_goesOn 203 rfl) ⟨_, rfl, ⟨by omega, by first | (intro h; exfalso; omega) | exact fun _ => (by assumption), by first | (intro h; exfalso; omega) | exact fun _ => ⟨(oQ_frb fu327 rfl (by omega) (oQ_fr fu267 rfl (oQ_fr fu243 rfl (oQ_fr fu239 rfl (oQ_fr fu215 rfl iv0))))), by first | (intro hb; exfalso; omega) | exact fun _ => oMk_c pu327 (by omega)⟩, by omega, by omega, by omega⟩⟩
                  · skip
                    have lk334 : ((u267).1 71 45).toInt = (t.1 71 45).toInt := congrArg Int32.toInt (((fu267 71 45 rfl).1).trans (((fu243 71 45 rfl).1).trans (((fu239 71 45 rfl).1).trans ((fu215 71 45 rfl).1))))
                    have lk335 : ((u267).1 71 47).toInt = (t.1 71 47).toInt := congrArg Int32.toInt (((fu267 71 47 rfl).1).trans (((fu243 71 47 rfl).1).trans (((fu239 71 47 rfl).1).trans ((fu215 71 47 rfl).1))))
                    have lk336 : ((u267).1 71 48).toInt = (t.1 71 48).toInt := congrArg Int32.toInt (((fu267 71 48 rfl).1).trans (((fu243 71 48 rfl).1).trans (((fu239 71 48 rfl).1).trans ((fu215 71 48 rfl).1))))
                    have hq337 : oMk (r309.toInt) (u267) := pu308
                    refine r_aload_n C (j := 0) (oDec_at oX12_goesOn 167 rfl) rfl rfl ?_
                    refine r_bipush C (oDec_at oX12_goesOn 168 rfl) (v := k44) (by rw [qk44]; rfl) ?_
                    have lk338 : ((u267).1 71 5).toInt = (t.1 71 5).toInt := congrArg Int32.toInt (((fu267 71 5 rfl).1).trans (((fu243 71 5 rfl).1).trans (((fu239 71 5 rfl).1).trans ((fu215 71 5 rfl).1))))
                    refine r_callVv C oCl12 rfl miX12_asksSign mlX12_248 (ct_X12_asksSign l E (u267) k44 (by omega)) (by decide) rfl rfl rfl (Nat.le_of_ble_eq_true rfl) (oDec_at oX12_goesOn 169 rfl) (fun u339 pu339 fu339 => ?_)
                    try dsimp only at pu339
                    try simp only [lk338] at pu339
                    obtain ⟨pu339_0, pu339_1⟩ := pu339
                    refine r_aload_n C (j := 0) (oDec_at oX12_goesOn 170 rfl) rfl rfl ?_
                    obtain ⟨v341, ev341⟩ : ∃ z : Int32, (u339).1 71 5 = z := ⟨_, rfl⟩
                    have gv341 : (u339.1 71 5).toInt = v341.toInt := congrArg Int32.toInt (ev341)
                    have rv341 := n_rng v341
                    refine r_geti (k := 5) (lo := (-2147483648)) (hi := 2147483647) C v341 oCl12 rfl (by decide) flX12_173 rfl rfl (ev341) rfl rfl (oDec_at oX12_goesOn 171 rfl) (fun _ _ => ?_)
                    refine r_if_eq C 337 (oDec_at oX12_goesOn 172 rfl) (by decide) (fun cd342 => ?_) (fun cd342 => ?_)
                    · skip
                      refine r_aload_n C (j := 0) (oDec_at oX12_goesOn 175 rfl) rfl rfl ?_
                      have lk343 : ((u339).1 71 55).toInt = (t.1 71 55).toInt := congrArg Int32.toInt (((fu339 71 55 rfl).1).trans (((fu267 71 55 rfl).1).trans (((fu243 71 55 rfl).1).trans (((fu239 71 55 rfl).1).trans ((fu215 71 55 rfl).1)))))
                      have lk344 : ((u339).1 71 5).toInt = v341.toInt := congrArg Int32.toInt (ev341)
                      have lk345 : ((u339).1 71 45).toInt = (t.1 71 45).toInt := congrArg Int32.toInt (((fu339 71 45 rfl).1).trans (((fu267 71 45 rfl).1).trans (((fu243 71 45 rfl).1).trans (((fu239 71 45 rfl).1).trans ((fu215 71 45 rfl).1)))))
                      have lk346 : ((u339).1 71 47).toInt = (t.1 71 47).toInt := congrArg Int32.toInt (((fu339 71 47 rfl).1).trans (((fu267 71 47 rfl).1).trans (((fu243 71 47 rfl).1).trans (((fu239 71 47 rfl).1).trans ((fu215 71 47 rfl).1)))))
                      have lk347 : ((u339).1 71 45).toInt = (t.1 71 45).toInt := congrArg Int32.toInt (((fu339 71 45 rfl).1).trans (((fu267 71 45 rfl).1).trans (((fu243 71 45 rfl).1).trans (((fu239 71 45 rfl).1).trans ((fu215 71 45 rfl).1)))))
                      have lk348 : ((u339).1 71 47).toInt = (t.1 71 47).toInt := congrArg Int32.toInt (((fu339 71 47 rfl).1).trans (((fu267 71 47 rfl).1).trans (((fu243 71 47 rfl).1).trans (((fu239 71 47 rfl).1).trans ((fu215 71 47 rfl).1)))))
                      have lk349 : ((u339).1 71 47).toInt = (t.1 71 47).toInt := congrArg Int32.toInt (((fu339 71 47 rfl).1).trans (((fu267 71 47 rfl).1).trans (((fu243 71 47 rfl).1).trans (((fu239 71 47 rfl).1).trans ((fu215 71 47 rfl).1)))))
                      refine r_callVv C oCl12 rfl miX12_dropsToMark mlX12_307 (ct_X12_dropsToMark l E (u339)  (b) (x + 1) (r309.toInt) (oQ_frb fu339 rfl (by omega) (oQ_fr fu267 rfl (oQ_fr fu243 rfl (oQ_fr fu239 rfl (oQ_fr fu215 rfl iv0))))) (oMk_fr fu339 rfl hq337) (by omega) (by omega) (by omega) (by omega)) (by decide) rfl rfl rfl (Nat.le_of_ble_eq_true rfl) (oDec_at oX12_goesOn 176 rfl) (fun u350 pu350 fu350 => ?_)
                      try dsimp only at pu350
                      try simp only [lk343, lk344, lk345, lk346, lk347, lk348, lk349] at pu350
                      obtain ⟨pu350_0, pu350_1, pu350_2, pu350_3⟩ := pu350
                      have lk352 : ((u350).1 71 5).toInt = v341.toInt := congrArg Int32.toInt (((fu350 71 5 rfl).1).trans (ev341))
                      have lk353 : ((u350).1 71 48).toInt = (t.1 71 48).toInt := congrArg Int32.toInt (((fu350 71 48 rfl).1).trans (((fu339 71 48 rfl).1).trans (((fu267 71 48 rfl).1).trans (((fu243 71 48 rfl).1).trans (((fu239 71 48 rfl).1).trans ((fu215 71 48 rfl).1))))))
                      have htp := pu350_3 (by omega)
                      refine r_aload_n C (j := 0) (oDec_at oX12_goesOn 177 rfl) rfl rfl ?_
                      refine r_getF (k := 46) (b := 103) C oCl12 rfl (by decide) flX12_111 rfl rfl rfl (oDec_at oX12_goesOn 178 rfl) ?_
                      refine r_aload_n C (j := 0) (oDec_at oX12_goesOn 179 rfl) rfl rfl ?_
                      obtain ⟨v354, ev354⟩ : ∃ z : Int32, (u350).1 71 47 = z := ⟨_, rfl⟩
                      have gv354 : (u350.1 71 47).toInt = v354.toInt := congrArg Int32.toInt (ev354)
                      refine r_geti (k := 47) (lo := 0) (hi := 1700) C v354 oCl12 rfl (by decide) flX12_277 rfl rfl (ev354) rfl rfl (oDec_at oX12_goesOn 180 rfl) (fun b355 b355h => ?_)
                      refine r_pc C 349 rfl ?_
                      refine r_iconst C (oDec_at oX12_goesOn 181 rfl) (v := k1) (by rw [qk1]; rfl) ?_
                      obtain ⟨v356, ev356⟩ : ∃ z : Int32, z = v354 - k1 := ⟨_, rfl⟩
                      have hv356 : v356.toInt = v354.toInt - k1.toInt := n_sub ev356 (by omega) (by omega)
                      refine r_isub C v356 (oDec_at oX12_goesOn 182 rfl) ev356 ?_
                      refine r_dup2 C (oDec_at oX12_goesOn 183 rfl) rfl rfl ?_
                      obtain ⟨v358, ev358⟩ : ∃ z : Int32, (u350).1 103 v356.toNatClampNeg = z := ⟨_, rfl⟩
                      have av358 : t.1 103 v356.toNatClampNeg = v358 := (((fu350 103 v356.toNatClampNeg rfl).1).trans (((fu339 103 v356.toNatClampNeg rfl).1).trans (((fu267 103 v356.toNatClampNeg rfl).1).trans (((fu243 103 v356.toNatClampNeg rfl).1).trans (((fu239 103 v356.toNatClampNeg rfl).1).trans ((fu215 103 v356.toNatClampNeg rfl).1)))))).symm.trans ev358
                      have gv358 : (t.1 103 v356.toNatClampNeg).toInt = v358.toInt := congrArg Int32.toInt ((((fu350 103 v356.toNatClampNeg rfl).1).trans (((fu339 103 v356.toNatClampNeg rfl).1).trans (((fu267 103 v356.toNatClampNeg rfl).1).trans (((fu243 103 v356.toNatClampNeg rfl).1).trans (((fu239 103 v356.toNatClampNeg rfl).1).trans ((fu215 103 v356.toNatClampNeg rfl).1)))))).symm.trans ev358)
                      have rv358 := n_rng v358
                      refine r_iald (n := 1700) (lo := (-2147483648)) (hi := 2147483647) C v358 rfl (by decide) rfl rfl ⟨by omega, by omega⟩ (by decide) ev358 rfl rfl (oDec_at oX12_goesOn 184 rfl) (fun _ _ => ?_)
                      have hv0 := oTop_of (s := u350) (i := v356) ev358 (by omega)
                      refine r_iconst C (oDec_at oX12_goesOn 185 rfl) (v := k2) (by rw [qk2]; rfl) ?_
                      obtain ⟨v359, ev359⟩ : ∃ z : Int32, z = v358 + k2 := ⟨_, rfl⟩
                      have hv359 : v359.toInt = v358.toInt + k2.toInt := n_add ev359 (by omega) (by omega)
                      refine r_iadd C v359 (oDec_at oX12_goesOn 186 rfl) ev359 ?_
                      refine r_pc C 355 rfl ?_
                      refine r_iast (n := 1700) (lo := (-2147483648)) (hi := 2147483647) C rfl (by decide) rfl rfl ⟨by omega, by omega⟩ (by decide) rfl rfl rfl rfl (n_rng _) (oDec_at oX12_goesOn 187 rfl) ?_
                      have hq360 : oQ b x ((pI u350 103 v356.toNatClampNeg v359)) := oQ_comma (x := x) pu350_0 (by omega) (by omega) (by assumption) (by omega)
                      refine r_iconst C (oDec_at oX12_goesOn 188 rfl) (v := k1) (by rw [qk1]; rfl) ?_
                      have lk361 : (((pI u350 103 v356.toNatClampNeg v359)).1 71 48).toInt = (t.1 71 48).toInt := congrArg Int32.toInt (((pI_ne (a := 71) (b := 48) (c := 103) _ _ (Or.inl (by decide)))).trans (((fu350 71 48 rfl).1).trans (((fu339 71 48 rfl).1).trans (((fu267 71 48 rfl).1).trans (((fu243 71 48 rfl).1).trans (((fu239 71 48 rfl).1).trans ((fu215 71 48 rfl).1)))))))
                      have lk362 : (((pI u350 103 v356.toNatClampNeg v359)).1 71 2).toInt = (u339.1 71 2).toInt := congrArg Int32.toInt (((pI_ne (a := 71) (b := 2) (c := 103) _ _ (Or.inl (by decide)))).trans ((fu350 71 2 rfl).1))
                      have lk363 : (((pI u350 103 v356.toNatClampNeg v359)).1 71 45).toInt = (u350.1 71 45).toInt := congrArg Int32.toInt ((pI_ne (a := 71) (b := 45) (c := 103) _ _ (Or.inl (by decide))))
                      have lk364 : (((pI u350 103 v356.toNatClampNeg v359)).1 71 47).toInt = v354.toInt := congrArg Int32.toInt (((pI_ne (a := 71) (b := 47) (c := 103) _ _ (Or.inl (by decide)))).trans (ev354))
                      have lk365 : (((pI u350 103 v356.toNatClampNeg v359)).1 71 2).toInt = (u339.1 71 2).toInt := congrArg Int32.toInt (((pI_ne (a := 71) (b := 2) (c := 103) _ _ (Or.inl (by decide)))).trans ((fu350 71 2 rfl).1))
                      exact r_zret C (n_bool (by omega)) (oDec_at oX12_goesOn 189 rfl) ⟨_, rfl, ⟨by omega, by first | (intro h; exfalso; omega) | exact fun _ => hq360, by first | (intro h; exfalso; omega) | exact fun _ => ⟨(by assumption), by first | (intro hb; exfalso; omega) | exact fun _ => oMk_c pu350 (by omega)⟩, by omega, by omega, by omega⟩⟩
                    · skip
                      refine r_iconst C (oDec_at oX12_goesOn 173 rfl) (v := k0) (by rw [qk0]; rfl) ?_
                      have lk366 : ((u339).1 71 48).toInt = (t.1 71 48).toInt := congrArg Int32.toInt (((fu339 71 48 rfl).1).trans (((fu267 71 48 rfl).1).trans (((fu243 71 48 rfl).1).trans (((fu239 71 48 rfl).1).trans ((fu215 71 48 rfl).1)))))
                      have lk367 : ((u339).1 71 45).toInt = (t.1 71 45).toInt := congrArg Int32.toInt (((fu339 71 45 rfl).1).trans (((fu267 71 45 rfl).1).trans (((fu243 71 45 rfl).1).trans (((fu239 71 45 rfl).1).trans ((fu215 71 45 rfl).1)))))
                      have lk368 : ((u339).1 71 47).toInt = (t.1 71 47).toInt := congrArg Int32.toInt (((fu339 71 47 rfl).1).trans (((fu267 71 47 rfl).1).trans (((fu243 71 47 rfl).1).trans (((fu239 71 47 rfl).1).trans ((fu215 71 47 rfl).1)))))
                      exact r_zret C (n_bool (by omega)) (oDec_at oX12_goesOn 174 rfl) ⟨_, rfl, ⟨by omega, by first | (intro h; exfalso; omega) | exact fun _ => (by assumption), by first | (intro h; exfalso; omega) | exact fun _ => ⟨(oQ_frb fu339 rfl (by omega) (oQ_fr fu267 rfl (oQ_fr fu243 rfl (oQ_fr fu239 rfl (oQ_fr fu215 rfl iv0))))), by first | (intro hb; exfalso; omega) | exact fun _ => oMk_c pu339 (by omega)⟩, by omega, by omega, by omega⟩⟩
              · skip
                replace pu267_2 := pu267_2 (by omega)
                refine r_aload_n C (j := 0) (oDec_at oX12_goesOn 113 rfl) rfl rfl ?_
                refine r_getF (k := 0) (b := 72) C oCl12 rfl (by decide) flX12_7 rfl rfl rfl (oDec_at oX12_goesOn 114 rfl) ?_
                refine r_aload_n C (j := 0) (oDec_at oX12_goesOn 115 rfl) rfl rfl ?_
                obtain ⟨v369, ev369⟩ : ∃ z : Int32, (u267).1 71 2 = z := ⟨_, rfl⟩
                have gv369 : (u267.1 71 2).toInt = v369.toInt := congrArg Int32.toInt (ev369)
                refine r_geti (k := 2) (lo := 0) (hi := 1600) C v369 oCl12 rfl (by decide) flX12_179 rfl rfl (ev369) rfl rfl (oDec_at oX12_goesOn 116 rfl) (fun b370 b370h => ?_)
                refine r_iconst C (oDec_at oX12_goesOn 117 rfl) (v := k1) (by rw [qk1]; rfl) ?_
                obtain ⟨v371, ev371⟩ : ∃ z : Int32, z = v369 - k1 := ⟨_, rfl⟩
                have hv371 : v371.toInt = v369.toInt - k1.toInt := n_sub ev371 (by omega) (by omega)
                refine r_isub C v371 (oDec_at oX12_goesOn 118 rfl) ev371 ?_
                refine r_pc C 231 rfl ?_
                obtain ⟨v373, ev373⟩ : ∃ z : Int32, (u267).1 72 v371.toNatClampNeg = z := ⟨_, rfl⟩
                have av373 : t.1 72 v371.toNatClampNeg = v373 := (((fu267 72 v371.toNatClampNeg rfl).1).trans (((fu243 72 v371.toNatClampNeg rfl).1).trans (((fu239 72 v371.toNatClampNeg rfl).1).trans ((fu215 72 v371.toNatClampNeg rfl).1)))).symm.trans ev373
                have gv373 : (t.1 72 v371.toNatClampNeg).toInt = v373.toInt := congrArg Int32.toInt ((((fu267 72 v371.toNatClampNeg rfl).1).trans (((fu243 72 v371.toNatClampNeg rfl).1).trans (((fu239 72 v371.toNatClampNeg rfl).1).trans ((fu215 72 v371.toNatClampNeg rfl).1)))).symm.trans ev373)
                refine r_iald (n := 1600) (lo := 0) (hi := 255) C v373 rfl (by decide) rfl rfl ⟨by omega, by omega⟩ (by decide) ev373 rfl rfl (oDec_at oX12_goesOn 119 rfl) (fun b372 b372h => ?_)
                refine r_bipush C (oDec_at oX12_goesOn 120 rfl) (v := k43) (by rw [qk43]; rfl) ?_
                refine r_icmp_ne C 241 (oDec_at oX12_goesOn 121 rfl) (by decide) (fun cd374 => ?_) (fun cd374 => ?_)
                · skip
                  refine r_iconst C (oDec_at oX12_goesOn 124 rfl) (v := k2) (by rw [qk2]; rfl) ?_
                  refine r_istore_n C (lv' := [(0, .ref (oad E 71)), (1, .int k2)]) [1, 0] (oDec_at oX12_goesOn 125 rfl) rfl (by decide) rfl ?_
                  have lk375 : ((u267).1 71 5).toInt = (t.1 71 5).toInt := congrArg Int32.toInt (((fu267 71 5 rfl).1).trans (((fu243 71 5 rfl).1).trans (((fu239 71 5 rfl).1).trans ((fu215 71 5 rfl).1))))
                  have lk376 : ((u267).1 71 48).toInt = (t.1 71 48).toInt := congrArg Int32.toInt (((fu267 71 48 rfl).1).trans (((fu243 71 48 rfl).1).trans (((fu239 71 48 rfl).1).trans ((fu215 71 48 rfl).1))))
                  have lk377 : ((u267).1 71 2).toInt = v369.toInt := congrArg Int32.toInt (ev369)
                  have lk378 : ((u267).1 71 45).toInt = (t.1 71 45).toInt := congrArg Int32.toInt (((fu267 71 45 rfl).1).trans (((fu243 71 45 rfl).1).trans (((fu239 71 45 rfl).1).trans ((fu215 71 45 rfl).1))))
                  have lk379 : ((u267).1 71 47).toInt = (t.1 71 47).toInt := congrArg Int32.toInt (((fu267 71 47 rfl).1).trans (((fu243 71 47 rfl).1).trans (((fu239 71 47 rfl).1).trans ((fu215 71 47 rfl).1))))
                  have lk380 : ((u267).1 71 2).toInt = v369.toInt := congrArg Int32.toInt (ev369)
                  have lk381 : ((u267).1 71 47).toInt = (t.1 71 47).toInt := congrArg Int32.toInt (((fu267 71 47 rfl).1).trans (((fu243 71 47 rfl).1).trans (((fu239 71 47 rfl).1).trans ((fu215 71 47 rfl).1))))
                  exact (ih (n - 1) (by omega)).2.2.2 (u267) k2  (oQ_fr fu267 rfl (oQ_fr fu243 rfl (oQ_fr fu239 rfl (oQ_fr fu215 rfl iv0)))) (by omega) (by omega) (by omega) (by omega) (by omega) (by omega)
                · skip
                  refine r_iconst C (oDec_at oX12_goesOn 122 rfl) (v := k1) (by rw [qk1]; rfl) ?_
                  refine r_goto C (tgt := 242) (oDec_at oX12_goesOn 123 rfl) (by decide) ?_
                  refine r_istore_n C (lv' := [(0, .ref (oad E 71)), (1, .int k1)]) [1, 0] (oDec_at oX12_goesOn 125 rfl) rfl (by decide) rfl ?_
                  have lk382 : ((u267).1 71 5).toInt = (t.1 71 5).toInt := congrArg Int32.toInt (((fu267 71 5 rfl).1).trans (((fu243 71 5 rfl).1).trans (((fu239 71 5 rfl).1).trans ((fu215 71 5 rfl).1))))
                  have lk383 : ((u267).1 71 48).toInt = (t.1 71 48).toInt := congrArg Int32.toInt (((fu267 71 48 rfl).1).trans (((fu243 71 48 rfl).1).trans (((fu239 71 48 rfl).1).trans ((fu215 71 48 rfl).1))))
                  have lk384 : ((u267).1 71 2).toInt = v369.toInt := congrArg Int32.toInt (ev369)
                  have lk385 : ((u267).1 71 45).toInt = (t.1 71 45).toInt := congrArg Int32.toInt (((fu267 71 45 rfl).1).trans (((fu243 71 45 rfl).1).trans (((fu239 71 45 rfl).1).trans ((fu215 71 45 rfl).1))))
                  have lk386 : ((u267).1 71 47).toInt = (t.1 71 47).toInt := congrArg Int32.toInt (((fu267 71 47 rfl).1).trans (((fu243 71 47 rfl).1).trans (((fu239 71 47 rfl).1).trans ((fu215 71 47 rfl).1))))
                  have lk387 : ((u267).1 71 2).toInt = v369.toInt := congrArg Int32.toInt (ev369)
                  have lk388 : ((u267).1 71 47).toInt = (t.1 71 47).toInt := congrArg Int32.toInt (((fu267 71 47 rfl).1).trans (((fu243 71 47 rfl).1).trans (((fu239 71 47 rfl).1).trans ((fu215 71 47 rfl).1))))
                  exact (ih (n - 1) (by omega)).2.2.2 (u267) k1  (oQ_fr fu267 rfl (oQ_fr fu243 rfl (oQ_fr fu239 rfl (oQ_fr fu215 rfl iv0)))) (by omega) (by omega) (by omega) (by omega) (by omega) (by omega)
          · skip
            replace pu239_2 := pu239_2 (by omega)
            refine r_aload_n C (j := 0) (oDec_at oX12_goesOn 67 rfl) rfl rfl ?_
            refine r_getF (k := 0) (b := 72) C oCl12 rfl (by decide) flX12_7 rfl rfl rfl (oDec_at oX12_goesOn 68 rfl) ?_
            refine r_aload_n C (j := 0) (oDec_at oX12_goesOn 69 rfl) rfl rfl ?_
            obtain ⟨v389, ev389⟩ : ∃ z : Int32, (u239).1 71 2 = z := ⟨_, rfl⟩
            have gv389 : (u239.1 71 2).toInt = v389.toInt := congrArg Int32.toInt (ev389)
            refine r_geti (k := 2) (lo := 0) (hi := 1600) C v389 oCl12 rfl (by decide) flX12_179 rfl rfl (ev389) rfl rfl (oDec_at oX12_goesOn 70 rfl) (fun b390 b390h => ?_)
            refine r_iconst C (oDec_at oX12_goesOn 71 rfl) (v := k1) (by rw [qk1]; rfl) ?_
            obtain ⟨v391, ev391⟩ : ∃ z : Int32, z = v389 - k1 := ⟨_, rfl⟩
            have hv391 : v391.toInt = v389.toInt - k1.toInt := n_sub ev391 (by omega) (by omega)
            refine r_isub C v391 (oDec_at oX12_goesOn 72 rfl) ev391 ?_
            refine r_pc C 146 rfl ?_
            obtain ⟨v393, ev393⟩ : ∃ z : Int32, (u239).1 72 v391.toNatClampNeg = z := ⟨_, rfl⟩
            have av393 : t.1 72 v391.toNatClampNeg = v393 := (((fu239 72 v391.toNatClampNeg rfl).1).trans ((fu215 72 v391.toNatClampNeg rfl).1)).symm.trans ev393
            have gv393 : (t.1 72 v391.toNatClampNeg).toInt = v393.toInt := congrArg Int32.toInt ((((fu239 72 v391.toNatClampNeg rfl).1).trans ((fu215 72 v391.toNatClampNeg rfl).1)).symm.trans ev393)
            refine r_iald (n := 1600) (lo := 0) (hi := 255) C v393 rfl (by decide) rfl rfl ⟨by omega, by omega⟩ (by decide) ev393 rfl rfl (oDec_at oX12_goesOn 73 rfl) (fun b392 b392h => ?_)
            refine r_bipush C (oDec_at oX12_goesOn 74 rfl) (v := k42) (by rw [qk42]; rfl) ?_
            refine r_icmp_ne C 156 (oDec_at oX12_goesOn 75 rfl) (by decide) (fun cd394 => ?_) (fun cd394 => ?_)
            · skip
              refine r_iconst C (oDec_at oX12_goesOn 78 rfl) (v := k4) (by rw [qk4]; rfl) ?_
              refine r_istore_n C (lv' := [(0, .ref (oad E 71)), (1, .int k4)]) [1, 0] (oDec_at oX12_goesOn 79 rfl) rfl (by decide) rfl ?_
              have lk395 : ((u239).1 71 5).toInt = (t.1 71 5).toInt := congrArg Int32.toInt (((fu239 71 5 rfl).1).trans ((fu215 71 5 rfl).1))
              have lk396 : ((u239).1 71 48).toInt = (t.1 71 48).toInt := congrArg Int32.toInt (((fu239 71 48 rfl).1).trans ((fu215 71 48 rfl).1))
              have lk397 : ((u239).1 71 2).toInt = v389.toInt := congrArg Int32.toInt (ev389)
              have lk398 : ((u239).1 71 45).toInt = (t.1 71 45).toInt := congrArg Int32.toInt (((fu239 71 45 rfl).1).trans ((fu215 71 45 rfl).1))
              have lk399 : ((u239).1 71 47).toInt = (t.1 71 47).toInt := congrArg Int32.toInt (((fu239 71 47 rfl).1).trans ((fu215 71 47 rfl).1))
              have lk400 : ((u239).1 71 2).toInt = v389.toInt := congrArg Int32.toInt (ev389)
              have lk401 : ((u239).1 71 47).toInt = (t.1 71 47).toInt := congrArg Int32.toInt (((fu239 71 47 rfl).1).trans ((fu215 71 47 rfl).1))
              exact (ih (n - 1) (by omega)).2.2.1 (u239) k4  (oQ_fr fu239 rfl (oQ_fr fu215 rfl iv0)) (by omega) (by omega) (by omega) (by omega) (by omega) (by omega)
            · skip
              refine r_iconst C (oDec_at oX12_goesOn 76 rfl) (v := k3) (by rw [qk3]; rfl) ?_
              refine r_goto C (tgt := 157) (oDec_at oX12_goesOn 77 rfl) (by decide) ?_
              refine r_istore_n C (lv' := [(0, .ref (oad E 71)), (1, .int k3)]) [1, 0] (oDec_at oX12_goesOn 79 rfl) rfl (by decide) rfl ?_
              have lk402 : ((u239).1 71 5).toInt = (t.1 71 5).toInt := congrArg Int32.toInt (((fu239 71 5 rfl).1).trans ((fu215 71 5 rfl).1))
              have lk403 : ((u239).1 71 48).toInt = (t.1 71 48).toInt := congrArg Int32.toInt (((fu239 71 48 rfl).1).trans ((fu215 71 48 rfl).1))
              have lk404 : ((u239).1 71 2).toInt = v389.toInt := congrArg Int32.toInt (ev389)
              have lk405 : ((u239).1 71 45).toInt = (t.1 71 45).toInt := congrArg Int32.toInt (((fu239 71 45 rfl).1).trans ((fu215 71 45 rfl).1))
              have lk406 : ((u239).1 71 47).toInt = (t.1 71 47).toInt := congrArg Int32.toInt (((fu239 71 47 rfl).1).trans ((fu215 71 47 rfl).1))
              have lk407 : ((u239).1 71 2).toInt = v389.toInt := congrArg Int32.toInt (ev389)
              have lk408 : ((u239).1 71 47).toInt = (t.1 71 47).toInt := congrArg Int32.toInt (((fu239 71 47 rfl).1).trans ((fu215 71 47 rfl).1))
              exact (ih (n - 1) (by omega)).2.2.1 (u239) k3  (oQ_fr fu239 rfl (oQ_fr fu215 rfl iv0)) (by omega) (by omega) (by omega) (by omega) (by omega) (by omega)
      · intro t x1  iv0 iv1 iv2 iv3 iv4 iv5 hmu
        have rx1 := n_rng x1
        refine r_ty C (fun hty => ?_)
        have hty_coded : (0 : Int) ≤ ((t).1 71 45).toInt ∧ ((t).1 71 45).toInt ≤ 1600 := hty.1 71 45
        have hty_waits : (0 : Int) ≤ ((t).1 71 47).toInt ∧ ((t).1 71 47).toInt ≤ 1700 := hty.1 71 47
        have hty_at : (0 : Int) ≤ ((t).1 71 2).toInt ∧ ((t).1 71 2).toInt ≤ 1600 := hty.1 71 2
        clear hty
        refine r_aload_n C (j := 0) (oDec_at oX12_goesOn 80 rfl) rfl rfl ?_
        refine r_iconst C (oDec_at oX12_goesOn 81 rfl) (v := k3) (by rw [qk3]; rfl) ?_
        refine r_callVi C oCl12 rfl miX12_isOn mlX12_310 (ct_X12_isOn l E (t) k3 ) (by decide) rfl rfl rfl (Nat.le_of_ble_eq_true rfl) (oDec_at oX12_goesOn 82 rfl) (fun r410 u409 pu409 fu409 => ?_)
        try dsimp only at pu409
        obtain ⟨pu409_0, pu409_1, pu409_2⟩ := pu409
        have hxu409 := oFr_nil fu409; subst hxu409
        have rr410 := n_rng r410
        refine r_if_ne C 174 (oDec_at oX12_goesOn 83 rfl) (by decide) (fun cd411 => ?_) (fun cd411 => ?_)
        · skip
          replace pu409_1 := pu409_1 (by omega)
          clear pu409_2
          refine r_aload_n C (j := 0) (oDec_at oX12_goesOn 88 rfl) rfl rfl ?_
          refine r_callVv C oCl12 rfl miX12_drops mlX12_289 (ct_X12_drops l E (t)  (by omega) (by omega)) (by decide) rfl rfl rfl (Nat.le_of_ble_eq_true rfl) (oDec_at oX12_goesOn 89 rfl) (fun u412 pu412 fu412 => ?_)
          try dsimp only at pu412
          obtain ⟨pu412_0, pu412_1, pu412_2⟩ := pu412
          have hq414 : oQ b (x + 1) (u412) := oQ_drop iv0 pu412_0 (by omega) (by omega) (by omega) (by omega)
          refine r_goto C (tgt := 158) (oDec_at oX12_goesOn 90 rfl) (by decide) ?_
          have lk415 : ((u412).1 71 5).toInt = (t.1 71 5).toInt := congrArg Int32.toInt ((fu412 71 5 rfl).1)
          have lk416 : ((u412).1 71 48).toInt = (t.1 71 48).toInt := congrArg Int32.toInt ((fu412 71 48 rfl).1)
          have lk417 : ((u412).1 71 2).toInt = (t.1 71 2).toInt := congrArg Int32.toInt ((fu412 71 2 rfl).1)
          have lk418 : ((u412).1 71 2).toInt = (t.1 71 2).toInt := congrArg Int32.toInt ((fu412 71 2 rfl).1)
          exact (ih (n - 1) (by omega)).2.2.1 (u412) x1  hq414 (by omega) (by omega) (by omega) (by omega) (by omega) (by omega)
        · skip
          clear pu409_1
          replace pu409_2 := pu409_2 (by omega)
          refine r_aload_n C (j := 0) (oDec_at oX12_goesOn 84 rfl) rfl rfl ?_
          refine r_iconst C (oDec_at oX12_goesOn 85 rfl) (v := k4) (by rw [qk4]; rfl) ?_
          refine r_callVi C oCl12 rfl miX12_isOn mlX12_310 (ct_X12_isOn l E (t) k4 ) (by decide) rfl rfl rfl (Nat.le_of_ble_eq_true rfl) (oDec_at oX12_goesOn 86 rfl) (fun r420 u419 pu419 fu419 => ?_)
          try dsimp only at pu419
          obtain ⟨pu419_0, pu419_1, pu419_2⟩ := pu419
          have hxu419 := oFr_nil fu419; subst hxu419
          have rr420 := n_rng r420
          refine r_if_eq C 181 (oDec_at oX12_goesOn 87 rfl) (by decide) (fun cd421 => ?_) (fun cd421 => ?_)
          · skip
            clear pu419_1
            replace pu419_2 := pu419_2 (by omega)
            refine r_aload_n C (j := 0) (oDec_at oX12_goesOn 91 rfl) rfl rfl ?_
            refine r_getF (k := 46) (b := 103) C oCl12 rfl (by decide) flX12_111 rfl rfl rfl (oDec_at oX12_goesOn 92 rfl) ?_
            refine r_aload_n C (j := 0) (oDec_at oX12_goesOn 93 rfl) rfl rfl ?_
            obtain ⟨v422, ev422⟩ : ∃ z : Int32, (t).1 71 47 = z := ⟨_, rfl⟩
            have gv422 : (t.1 71 47).toInt = v422.toInt := congrArg Int32.toInt (ev422)
            refine r_geti (k := 47) (lo := 0) (hi := 1700) C v422 oCl12 rfl (by decide) flX12_277 rfl rfl (ev422) rfl rfl (oDec_at oX12_goesOn 94 rfl) (fun b423 b423h => ?_)
            refine r_iload_n C (j := 1) (oDec_at oX12_goesOn 95 rfl) rfl rfl ?_
            refine r_iast (n := 1700) (lo := (-2147483648)) (hi := 2147483647) C rfl (by decide) rfl rfl ⟨by omega, by omega⟩ (by decide) rfl rfl rfl rfl (n_rng _) (oDec_at oX12_goesOn 96 rfl) ?_
            refine r_pc C 191 rfl ?_
            refine r_aload_n C (j := 0) (oDec_at oX12_goesOn 97 rfl) rfl rfl ?_
            refine r_dup C (oDec_at oX12_goesOn 98 rfl) rfl ?_
            refine r_geti (k := 47) (lo := 0) (hi := 1700) C v422 oCl12 rfl (by decide) flX12_277 rfl rfl (((pI_ne (a := 71) (b := 47) (c := 103) _ _ (Or.inl (by decide)))).trans (ev422)) rfl rfl (oDec_at oX12_goesOn 99 rfl) (fun _ _ => ?_)
            refine r_iconst C (oDec_at oX12_goesOn 100 rfl) (v := k1) (by rw [qk1]; rfl) ?_
            obtain ⟨v424, ev424⟩ : ∃ z : Int32, z = v422 + k1 := ⟨_, rfl⟩
            have hv424 : v424.toInt = v422.toInt + k1.toInt := n_add ev424 (by omega) (by omega)
            refine r_iadd C v424 (oDec_at oX12_goesOn 101 rfl) ev424 ?_
            refine r_puti (k := 47) (lo := 0) (hi := 1700) C oCl12 rfl (by decide) flX12_277 rfl rfl rfl rfl rfl rfl rfl rfl ⟨by omega, by omega⟩ (oDec_at oX12_goesOn 102 rfl) ?_
            refine r_pc C 201 rfl ?_
            have hq425 : oQ b x ((pI (pI t 103 v422.toNatClampNeg x1) 71 47 v424)) := oQ_push (x := x) iv0 (by assumption) (by omega) (by omega) (by omega)
            refine r_iconst C (oDec_at oX12_goesOn 103 rfl) (v := k1) (by rw [qk1]; rfl) ?_
            have lk426 : (((pI (pI t 103 v422.toNatClampNeg x1) 71 47 v424)).1 71 48).toInt = (t.1 71 48).toInt := congrArg Int32.toInt (((pI_ne (a := 71) (b := 48) (c := 71) (k := 47) _ _ (Or.inr (by decide)))).trans ((pI_ne (a := 71) (b := 48) (c := 103) _ _ (Or.inl (by decide)))))
            have lk427 : (((pI (pI t 103 v422.toNatClampNeg x1) 71 47 v424)).1 71 2).toInt = (t.1 71 2).toInt := congrArg Int32.toInt (((pI_ne (a := 71) (b := 2) (c := 71) (k := 47) _ _ (Or.inr (by decide)))).trans ((pI_ne (a := 71) (b := 2) (c := 103) _ _ (Or.inl (by decide)))))
            have lk428 : (((pI (pI t 103 v422.toNatClampNeg x1) 71 47 v424)).1 71 45).toInt = (t.1 71 45).toInt := congrArg Int32.toInt (((pI_ne (a := 71) (b := 45) (c := 71) (k := 47) _ _ (Or.inr (by decide)))).trans ((pI_ne (a := 71) (b := 45) (c := 103) _ _ (Or.inl (by decide)))))
            have lk429 : (((pI (pI t 103 v422.toNatClampNeg x1) 71 47 v424)).1 71 47).toInt = v424.toInt := congrArg Int32.toInt ((pI_self _ _ _ _))
            have lk430 : (((pI (pI t 103 v422.toNatClampNeg x1) 71 47 v424)).1 71 2).toInt = (t.1 71 2).toInt := congrArg Int32.toInt (((pI_ne (a := 71) (b := 2) (c := 71) (k := 47) _ _ (Or.inr (by decide)))).trans ((pI_ne (a := 71) (b := 2) (c := 103) _ _ (Or.inl (by decide)))))
            exact r_zret C (n_bool (by omega)) (oDec_at oX12_goesOn 104 rfl) ⟨_, rfl, ⟨by omega, by first | (intro h; exfalso; omega) | exact fun _ => hq425, by first | (intro h; exfalso; omega) | exact fun _ => ⟨(by assumption), by first | (intro hb; exfalso; omega) | exact fun _ => oMk_c pu419 (by omega)⟩, by omega, by omega, by omega⟩⟩
          · skip
            replace pu419_1 := pu419_1 (by omega)
            clear pu419_2
            refine r_aload_n C (j := 0) (oDec_at oX12_goesOn 88 rfl) rfl rfl ?_
            refine r_callVv C oCl12 rfl miX12_drops mlX12_289 (ct_X12_drops l E (t)  (by omega) (by omega)) (by decide) rfl rfl rfl (Nat.le_of_ble_eq_true rfl) (oDec_at oX12_goesOn 89 rfl) (fun u431 pu431 fu431 => ?_)
            try dsimp only at pu431
            obtain ⟨pu431_0, pu431_1, pu431_2⟩ := pu431
            have hq433 : oQ b (x + 1) (u431) := oQ_drop iv0 pu431_0 (by omega) (by omega) (by omega) (by omega)
            refine r_goto C (tgt := 158) (oDec_at oX12_goesOn 90 rfl) (by decide) ?_
            have lk434 : ((u431).1 71 5).toInt = (t.1 71 5).toInt := congrArg Int32.toInt ((fu431 71 5 rfl).1)
            have lk435 : ((u431).1 71 48).toInt = (t.1 71 48).toInt := congrArg Int32.toInt ((fu431 71 48 rfl).1)
            have lk436 : ((u431).1 71 2).toInt = (t.1 71 2).toInt := congrArg Int32.toInt ((fu431 71 2 rfl).1)
            have lk437 : ((u431).1 71 2).toInt = (t.1 71 2).toInt := congrArg Int32.toInt ((fu431 71 2 rfl).1)
            exact (ih (n - 1) (by omega)).2.2.1 (u431) x1  hq433 (by omega) (by omega) (by omega) (by omega) (by omega) (by omega)
      · intro t x1  iv0 iv1 iv2 iv3 iv4 iv5 hmu
        have rx1 := n_rng x1
        refine r_ty C (fun hty => ?_)
        have hty_coded : (0 : Int) ≤ ((t).1 71 45).toInt ∧ ((t).1 71 45).toInt ≤ 1600 := hty.1 71 45
        have hty_waits : (0 : Int) ≤ ((t).1 71 47).toInt ∧ ((t).1 71 47).toInt ≤ 1700 := hty.1 71 47
        have hty_at : (0 : Int) ≤ ((t).1 71 2).toInt ∧ ((t).1 71 2).toInt ≤ 1600 := hty.1 71 2
        clear hty
        refine r_aload_n C (j := 0) (oDec_at oX12_goesOn 126 rfl) rfl rfl ?_
        refine r_iconst C (oDec_at oX12_goesOn 127 rfl) (v := k3) (by rw [qk3]; rfl) ?_
        refine r_callVi C oCl12 rfl miX12_isOn mlX12_310 (ct_X12_isOn l E (t) k3 ) (by decide) rfl rfl rfl (Nat.le_of_ble_eq_true rfl) (oDec_at oX12_goesOn 128 rfl) (fun r439 u438 pu438 fu438 => ?_)
        try dsimp only at pu438
        obtain ⟨pu438_0, pu438_1, pu438_2⟩ := pu438
        have hxu438 := oFr_nil fu438; subst hxu438
        have rr439 := n_rng r439
        refine r_if_ne C 275 (oDec_at oX12_goesOn 129 rfl) (by decide) (fun cd440 => ?_) (fun cd440 => ?_)
        · skip
          replace pu438_1 := pu438_1 (by omega)
          clear pu438_2
          refine r_aload_n C (j := 0) (oDec_at oX12_goesOn 142 rfl) rfl rfl ?_
          refine r_callVv C oCl12 rfl miX12_drops mlX12_289 (ct_X12_drops l E (t)  (by omega) (by omega)) (by decide) rfl rfl rfl (Nat.le_of_ble_eq_true rfl) (oDec_at oX12_goesOn 143 rfl) (fun u441 pu441 fu441 => ?_)
          try dsimp only at pu441
          obtain ⟨pu441_0, pu441_1, pu441_2⟩ := pu441
          have hq443 : oQ b (x + 1) (u441) := oQ_drop iv0 pu441_0 (by omega) (by omega) (by omega) (by omega)
          refine r_goto C (tgt := 243) (oDec_at oX12_goesOn 144 rfl) (by decide) ?_
          have lk444 : ((u441).1 71 5).toInt = (t.1 71 5).toInt := congrArg Int32.toInt ((fu441 71 5 rfl).1)
          have lk445 : ((u441).1 71 48).toInt = (t.1 71 48).toInt := congrArg Int32.toInt ((fu441 71 48 rfl).1)
          have lk446 : ((u441).1 71 2).toInt = (t.1 71 2).toInt := congrArg Int32.toInt ((fu441 71 2 rfl).1)
          have lk447 : ((u441).1 71 2).toInt = (t.1 71 2).toInt := congrArg Int32.toInt ((fu441 71 2 rfl).1)
          exact (ih (n - 1) (by omega)).2.2.2 (u441) x1  hq443 (by omega) (by omega) (by omega) (by omega) (by omega) (by omega)
        · skip
          clear pu438_1
          replace pu438_2 := pu438_2 (by omega)
          refine r_aload_n C (j := 0) (oDec_at oX12_goesOn 130 rfl) rfl rfl ?_
          refine r_iconst C (oDec_at oX12_goesOn 131 rfl) (v := k4) (by rw [qk4]; rfl) ?_
          refine r_callVi C oCl12 rfl miX12_isOn mlX12_310 (ct_X12_isOn l E (t) k4 ) (by decide) rfl rfl rfl (Nat.le_of_ble_eq_true rfl) (oDec_at oX12_goesOn 132 rfl) (fun r449 u448 pu448 fu448 => ?_)
          try dsimp only at pu448
          obtain ⟨pu448_0, pu448_1, pu448_2⟩ := pu448
          have hxu448 := oFr_nil fu448; subst hxu448
          have rr449 := n_rng r449
          refine r_if_ne C 275 (oDec_at oX12_goesOn 133 rfl) (by decide) (fun cd450 => ?_) (fun cd450 => ?_)
          · skip
            replace pu448_1 := pu448_1 (by omega)
            clear pu448_2
            refine r_aload_n C (j := 0) (oDec_at oX12_goesOn 142 rfl) rfl rfl ?_
            refine r_callVv C oCl12 rfl miX12_drops mlX12_289 (ct_X12_drops l E (t)  (by omega) (by omega)) (by decide) rfl rfl rfl (Nat.le_of_ble_eq_true rfl) (oDec_at oX12_goesOn 143 rfl) (fun u451 pu451 fu451 => ?_)
            try dsimp only at pu451
            obtain ⟨pu451_0, pu451_1, pu451_2⟩ := pu451
            have hq453 : oQ b (x + 1) (u451) := oQ_drop iv0 pu451_0 (by omega) (by omega) (by omega) (by omega)
            refine r_goto C (tgt := 243) (oDec_at oX12_goesOn 144 rfl) (by decide) ?_
            have lk454 : ((u451).1 71 5).toInt = (t.1 71 5).toInt := congrArg Int32.toInt ((fu451 71 5 rfl).1)
            have lk455 : ((u451).1 71 48).toInt = (t.1 71 48).toInt := congrArg Int32.toInt ((fu451 71 48 rfl).1)
            have lk456 : ((u451).1 71 2).toInt = (t.1 71 2).toInt := congrArg Int32.toInt ((fu451 71 2 rfl).1)
            have lk457 : ((u451).1 71 2).toInt = (t.1 71 2).toInt := congrArg Int32.toInt ((fu451 71 2 rfl).1)
            exact (ih (n - 1) (by omega)).2.2.2 (u451) x1  hq453 (by omega) (by omega) (by omega) (by omega) (by omega) (by omega)
          · skip
            clear pu448_1
            replace pu448_2 := pu448_2 (by omega)
            refine r_aload_n C (j := 0) (oDec_at oX12_goesOn 134 rfl) rfl rfl ?_
            refine r_iconst C (oDec_at oX12_goesOn 135 rfl) (v := k1) (by rw [qk1]; rfl) ?_
            refine r_callVi C oCl12 rfl miX12_isOn mlX12_310 (ct_X12_isOn l E (t) k1 ) (by decide) rfl rfl rfl (Nat.le_of_ble_eq_true rfl) (oDec_at oX12_goesOn 136 rfl) (fun r459 u458 pu458 fu458 => ?_)
            try dsimp only at pu458
            obtain ⟨pu458_0, pu458_1, pu458_2⟩ := pu458
            have hxu458 := oFr_nil fu458; subst hxu458
            have rr459 := n_rng r459
            refine r_if_ne C 275 (oDec_at oX12_goesOn 137 rfl) (by decide) (fun cd460 => ?_) (fun cd460 => ?_)
            · skip
              replace pu458_1 := pu458_1 (by omega)
              clear pu458_2
              refine r_aload_n C (j := 0) (oDec_at oX12_goesOn 142 rfl) rfl rfl ?_
              refine r_callVv C oCl12 rfl miX12_drops mlX12_289 (ct_X12_drops l E (t)  (by omega) (by omega)) (by decide) rfl rfl rfl (Nat.le_of_ble_eq_true rfl) (oDec_at oX12_goesOn 143 rfl) (fun u461 pu461 fu461 => ?_)
              try dsimp only at pu461
              obtain ⟨pu461_0, pu461_1, pu461_2⟩ := pu461
              have hq463 : oQ b (x + 1) (u461) := oQ_drop iv0 pu461_0 (by omega) (by omega) (by omega) (by omega)
              refine r_goto C (tgt := 243) (oDec_at oX12_goesOn 144 rfl) (by decide) ?_
              have lk464 : ((u461).1 71 5).toInt = (t.1 71 5).toInt := congrArg Int32.toInt ((fu461 71 5 rfl).1)
              have lk465 : ((u461).1 71 48).toInt = (t.1 71 48).toInt := congrArg Int32.toInt ((fu461 71 48 rfl).1)
              have lk466 : ((u461).1 71 2).toInt = (t.1 71 2).toInt := congrArg Int32.toInt ((fu461 71 2 rfl).1)
              have lk467 : ((u461).1 71 2).toInt = (t.1 71 2).toInt := congrArg Int32.toInt ((fu461 71 2 rfl).1)
              exact (ih (n - 1) (by omega)).2.2.2 (u461) x1  hq463 (by omega) (by omega) (by omega) (by omega) (by omega) (by omega)
            · skip
              clear pu458_1
              replace pu458_2 := pu458_2 (by omega)
              refine r_aload_n C (j := 0) (oDec_at oX12_goesOn 138 rfl) rfl rfl ?_
              refine r_iconst C (oDec_at oX12_goesOn 139 rfl) (v := k2) (by rw [qk2]; rfl) ?_
              refine r_callVi C oCl12 rfl miX12_isOn mlX12_310 (ct_X12_isOn l E (t) k2 ) (by decide) rfl rfl rfl (Nat.le_of_ble_eq_true rfl) (oDec_at oX12_goesOn 140 rfl) (fun r469 u468 pu468 fu468 => ?_)
              try dsimp only at pu468
              obtain ⟨pu468_0, pu468_1, pu468_2⟩ := pu468
              have hxu468 := oFr_nil fu468; subst hxu468
              have rr469 := n_rng r469
              refine r_if_eq C 282 (oDec_at oX12_goesOn 141 rfl) (by decide) (fun cd470 => ?_) (fun cd470 => ?_)
              · skip
                clear pu468_1
                replace pu468_2 := pu468_2 (by omega)
                refine r_aload_n C (j := 0) (oDec_at oX12_goesOn 145 rfl) rfl rfl ?_
                refine r_getF (k := 46) (b := 103) C oCl12 rfl (by decide) flX12_111 rfl rfl rfl (oDec_at oX12_goesOn 146 rfl) ?_
                refine r_aload_n C (j := 0) (oDec_at oX12_goesOn 147 rfl) rfl rfl ?_
                obtain ⟨v471, ev471⟩ : ∃ z : Int32, (t).1 71 47 = z := ⟨_, rfl⟩
                have gv471 : (t.1 71 47).toInt = v471.toInt := congrArg Int32.toInt (ev471)
                refine r_geti (k := 47) (lo := 0) (hi := 1700) C v471 oCl12 rfl (by decide) flX12_277 rfl rfl (ev471) rfl rfl (oDec_at oX12_goesOn 148 rfl) (fun b472 b472h => ?_)
                refine r_iload_n C (j := 1) (oDec_at oX12_goesOn 149 rfl) rfl rfl ?_
                refine r_iast (n := 1700) (lo := (-2147483648)) (hi := 2147483647) C rfl (by decide) rfl rfl ⟨by omega, by omega⟩ (by decide) rfl rfl rfl rfl (n_rng _) (oDec_at oX12_goesOn 150 rfl) ?_
                refine r_pc C 292 rfl ?_
                refine r_aload_n C (j := 0) (oDec_at oX12_goesOn 151 rfl) rfl rfl ?_
                refine r_dup C (oDec_at oX12_goesOn 152 rfl) rfl ?_
                refine r_geti (k := 47) (lo := 0) (hi := 1700) C v471 oCl12 rfl (by decide) flX12_277 rfl rfl (((pI_ne (a := 71) (b := 47) (c := 103) _ _ (Or.inl (by decide)))).trans (ev471)) rfl rfl (oDec_at oX12_goesOn 153 rfl) (fun _ _ => ?_)
                refine r_iconst C (oDec_at oX12_goesOn 154 rfl) (v := k1) (by rw [qk1]; rfl) ?_
                obtain ⟨v473, ev473⟩ : ∃ z : Int32, z = v471 + k1 := ⟨_, rfl⟩
                have hv473 : v473.toInt = v471.toInt + k1.toInt := n_add ev473 (by omega) (by omega)
                refine r_iadd C v473 (oDec_at oX12_goesOn 155 rfl) ev473 ?_
                refine r_puti (k := 47) (lo := 0) (hi := 1700) C oCl12 rfl (by decide) flX12_277 rfl rfl rfl rfl rfl rfl rfl rfl ⟨by omega, by omega⟩ (oDec_at oX12_goesOn 156 rfl) ?_
                refine r_pc C 302 rfl ?_
                have hq474 : oQ b x ((pI (pI t 103 v471.toNatClampNeg x1) 71 47 v473)) := oQ_push (x := x) iv0 (by assumption) (by omega) (by omega) (by omega)
                refine r_iconst C (oDec_at oX12_goesOn 157 rfl) (v := k1) (by rw [qk1]; rfl) ?_
                have lk475 : (((pI (pI t 103 v471.toNatClampNeg x1) 71 47 v473)).1 71 48).toInt = (t.1 71 48).toInt := congrArg Int32.toInt (((pI_ne (a := 71) (b := 48) (c := 71) (k := 47) _ _ (Or.inr (by decide)))).trans ((pI_ne (a := 71) (b := 48) (c := 103) _ _ (Or.inl (by decide)))))
                have lk476 : (((pI (pI t 103 v471.toNatClampNeg x1) 71 47 v473)).1 71 2).toInt = (t.1 71 2).toInt := congrArg Int32.toInt (((pI_ne (a := 71) (b := 2) (c := 71) (k := 47) _ _ (Or.inr (by decide)))).trans ((pI_ne (a := 71) (b := 2) (c := 103) _ _ (Or.inl (by decide)))))
                have lk477 : (((pI (pI t 103 v471.toNatClampNeg x1) 71 47 v473)).1 71 45).toInt = (t.1 71 45).toInt := congrArg Int32.toInt (((pI_ne (a := 71) (b := 45) (c := 71) (k := 47) _ _ (Or.inr (by decide)))).trans ((pI_ne (a := 71) (b := 45) (c := 103) _ _ (Or.inl (by decide)))))
                have lk478 : (((pI (pI t 103 v471.toNatClampNeg x1) 71 47 v473)).1 71 47).toInt = v473.toInt := congrArg Int32.toInt ((pI_self _ _ _ _))
                have lk479 : (((pI (pI t 103 v471.toNatClampNeg x1) 71 47 v473)).1 71 2).toInt = (t.1 71 2).toInt := congrArg Int32.toInt (((pI_ne (a := 71) (b := 2) (c := 71) (k := 47) _ _ (Or.inr (by decide)))).trans ((pI_ne (a := 71) (b := 2) (c := 103) _ _ (Or.inl (by decide)))))
                exact r_zret C (n_bool (by omega)) (oDec_at oX12_goesOn 158 rfl) ⟨_, rfl, ⟨by omega, by first | (intro h; exfalso; omega) | exact fun _ => hq474, by first | (intro h; exfalso; omega) | exact fun _ => ⟨(by assumption), by first | (intro hb; exfalso; omega) | exact fun _ => oMk_c pu468 (by omega)⟩, by omega, by omega, by omega⟩⟩
              · skip
                replace pu468_1 := pu468_1 (by omega)
                clear pu468_2
                refine r_aload_n C (j := 0) (oDec_at oX12_goesOn 142 rfl) rfl rfl ?_
                refine r_callVv C oCl12 rfl miX12_drops mlX12_289 (ct_X12_drops l E (t)  (by omega) (by omega)) (by decide) rfl rfl rfl (Nat.le_of_ble_eq_true rfl) (oDec_at oX12_goesOn 143 rfl) (fun u480 pu480 fu480 => ?_)
                try dsimp only at pu480
                obtain ⟨pu480_0, pu480_1, pu480_2⟩ := pu480
                have hq482 : oQ b (x + 1) (u480) := oQ_drop iv0 pu480_0 (by omega) (by omega) (by omega) (by omega)
                refine r_goto C (tgt := 243) (oDec_at oX12_goesOn 144 rfl) (by decide) ?_
                have lk483 : ((u480).1 71 5).toInt = (t.1 71 5).toInt := congrArg Int32.toInt ((fu480 71 5 rfl).1)
                have lk484 : ((u480).1 71 48).toInt = (t.1 71 48).toInt := congrArg Int32.toInt ((fu480 71 48 rfl).1)
                have lk485 : ((u480).1 71 2).toInt = (t.1 71 2).toInt := congrArg Int32.toInt ((fu480 71 2 rfl).1)
                have lk486 : ((u480).1 71 2).toInt = (t.1 71 2).toInt := congrArg Int32.toInt ((fu480 71 2 rfl).1)
                exact (ih (n - 1) (by omega)).2.2.2 (u480) x1  hq482 (by omega) (by omega) (by omega) (by omega) (by omega) (by omega)
  exact (key (4000 * (1601 - ((s).1 71 2).toInt)).toNat).1 (s)   (by first | exact hp0 | exact oQ_pop (by assumption) (by omega) (by omega) (by omega) (by omega)) (by omega) (by omega) (by omega) (by omega) (by omega) (by omega)
