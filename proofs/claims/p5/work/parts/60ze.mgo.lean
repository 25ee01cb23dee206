set_option maxHeartbeats 4000000 in
set_option maxRecDepth 100000 in
theorem ct5_X12_goesOn (l : Launch) (E : oE) (s : oS)  (b : Nat) (x : Nat) (g : Int → Int) (fp : Int) (fq : Int) (cz : oqCf) (kx : Nat) (hp0 : oQ b (x + 1) s) (hp1 : (s.1 71 55).toInt = (b : Int)) (hp2 : (b : Int) ≤ 1700) (hp3 : (s.1 71 5).toInt = 0) (hp4 : 0 ≤ (s.1 71 48).toInt ∧ (s.1 71 48).toInt ≤ 6) (hp5 : (s.1 71 45).toInt + (s.1 71 47).toInt + 5 ≤ (s.1 71 2).toInt) (hp6 : oqJ g fp fq cz kx b 3 s) (hp7 : oqZ g s) : oMet l 4 yX12_goesOn cX12_goesOn 2 (some .boolean) [(12, 2), (12, 5), (12, 6), (12, 45), (12, 47), (12, 48), (78, 9999), (79, 9999)] E s [.ref (oad E 71)] (oPi (fun r u => (0 ≤ r.toInt ∧ r.toInt ≤ 1) ∧ (r.toInt = 1 → oQ b x u) ∧ (r.toInt = 0 → (oQ b (x + 1) u ∧ oMn u)) ∧ (0 ≤ (u.1 71 48).toInt ∧ (u.1 71 48).toInt ≤ 6) ∧ ((s.1 71 2).toInt - (s.1 71 45).toInt - (s.1 71 47).toInt ≤ (u.1 71 2).toInt - (u.1 71 45).toInt - (u.1 71 47).toInt) ∧ ((s.1 71 2).toInt ≤ (u.1 71 2).toInt) ∧ (r.toInt = 1 → oqJ g fp fq cz kx b 1 u) ∧ (r.toInt = 0 → oqJ g fp fq cz kx b 3 u) ∧ (r.toInt = 0 → (u.1 71 5).toInt = 0 → (g (u.1 71 2).toInt ≠ 42 ∧ g (u.1 71 2).toInt ≠ 47 ∧ g (u.1 71 2).toInt ≠ 43 ∧ g (u.1 71 2).toInt ≠ 45 ∧ oqSk g (u.1 71 2).toInt = (u.1 71 2).toInt)) ∧ ((u.1 71 5).toInt = 0 → (u.1 71 6).toInt = (s.1 71 6).toInt))) := by
  refine oMet.of (lv := [(0, .ref (oad E 71))]) (by decide +kernel) (Nat.le_of_ble_eq_true rfl) rfl (fun J C hT => ?_)
  have C : oC l 4 cX12_goesOn RX12 2 (some .boolean) [(12, 2), (12, 5), (12, 6), (12, 45), (12, 47), (12, 48), (78, 9999), (79, 9999)] E s (oPi (fun r u => (0 ≤ r.toInt ∧ r.toInt ≤ 1) ∧ (r.toInt = 1 → oQ b x u) ∧ (r.toInt = 0 → (oQ b (x + 1) u ∧ oMn u)) ∧ (0 ≤ (u.1 71 48).toInt ∧ (u.1 71 48).toInt ≤ 6) ∧ ((s.1 71 2).toInt - (s.1 71 45).toInt - (s.1 71 47).toInt ≤ (u.1 71 2).toInt - (u.1 71 45).toInt - (u.1 71 47).toInt) ∧ ((s.1 71 2).toInt ≤ (u.1 71 2).toInt) ∧ (r.toInt = 1 → oqJ g fp fq cz kx b 1 u) ∧ (r.toInt = 0 → oqJ g fp fq cz kx b 3 u) ∧ (r.toInt = 0 → (u.1 71 5).toInt = 0 → (g (u.1 71 2).toInt ≠ 42 ∧ g (u.1 71 2).toInt ≠ 47 ∧ g (u.1 71 2).toInt ≠ 43 ∧ g (u.1 71 2).toInt ≠ 45 ∧ oqSk g (u.1 71 2).toInt = (u.1 71 2).toInt)) ∧ ((u.1 71 5).toInt = 0 → (u.1 71 6).toInt = (s.1 71 6).toInt))) J := C
  obtain ⟨km1, qkm1⟩ : ∃ z : Int32, z = (-1) := ⟨_, rfl⟩
  have ekm1 : km1.toInt = (-1) := by rw [qkm1]; rfl
  obtain ⟨k0, qk0⟩ : ∃ z : Int32, z = 0 := ⟨_, rfl⟩
  have ek0 : k0.toInt = 0 := by rw [qk0]; rfl
  obtain ⟨k1, qk1⟩ : ∃ z : Int32, z = 1 := ⟨_, rfl⟩
  have ek1 : k1.toInt = 1 := by rw [qk1]; rfl
  obtain ⟨k2, qk2⟩ : ∃ z : Int32, z = 2 := ⟨_, rfl⟩
  have ek2 : k2.toInt = 2 := by rw [qk2]; rfl
  obtain ⟨k3, qk3⟩ : ∃ z : Int32, z = 3 := ⟨_, rfl⟩
  have ek3 : k3.toInt = 3 := by rw [qk3]; rfl
  obtain ⟨k4, qk4⟩ : ∃ z : Int32, z = 4 := ⟨_, rfl⟩
  have ek4 : k4.toInt = 4 := by rw [qk4]; rfl
  obtain ⟨k5, qk5⟩ : ∃ z : Int32, z = 5 := ⟨_, rfl⟩
  have ek5 : k5.toInt = 5 := by rw [qk5]; rfl
  obtain ⟨k6, qk6⟩ : ∃ z : Int32, z = 6 := ⟨_, rfl⟩
  have ek6 : k6.toInt = 6 := by rw [qk6]; rfl
  obtain ⟨k20, qk20⟩ : ∃ z : Int32, z = 20 := ⟨_, rfl⟩
  have ek20 : k20.toInt = 20 := by rw [qk20]; rfl
  obtain ⟨k21, qk21⟩ : ∃ z : Int32, z = 21 := ⟨_, rfl⟩
  have ek21 : k21.toInt = 21 := by rw [qk21]; rfl
  obtain ⟨k22, qk22⟩ : ∃ z : Int32, z = 22 := ⟨_, rfl⟩
  have ek22 : k22.toInt = 22 := by rw [qk22]; rfl
  obtain ⟨k23, qk23⟩ : ∃ z : Int32, z = 23 := ⟨_, rfl⟩
  have ek23 : k23.toInt = 23 := by rw [qk23]; rfl
  obtain ⟨k24, qk24⟩ : ∃ z : Int32, z = 24 := ⟨_, rfl⟩
  have ek24 : k24.toInt = 24 := by rw [qk24]; rfl
  obtain ⟨k41, qk41⟩ : ∃ z : Int32, z = 41 := ⟨_, rfl⟩
  have ek41 : k41.toInt = 41 := by rw [qk41]; rfl
  obtain ⟨k42, qk42⟩ : ∃ z : Int32, z = 42 := ⟨_, rfl⟩
  have ek42 : k42.toInt = 42 := by rw [qk42]; rfl
  obtain ⟨k43, qk43⟩ : ∃ z : Int32, z = 43 := ⟨_, rfl⟩
  have ek43 : k43.toInt = 43 := by rw [qk43]; rfl
  obtain ⟨k44, qk44⟩ : ∃ z : Int32, z = 44 := ⟨_, rfl⟩
  have ek44 : k44.toInt = 44 := by rw [qk44]; rfl
  obtain ⟨k45, qk45⟩ : ∃ z : Int32, z = 45 := ⟨_, rfl⟩
  have ek45 : k45.toInt = 45 := by rw [qk45]; rfl
  obtain ⟨k47, qk47⟩ : ∃ z : Int32, z = 47 := ⟨_, rfl⟩
  have ek47 : k47.toInt = 47 := by rw [qk47]; rfl
  have key : ∀ n : Nat, (∀ (t : oS), (oQ b (x + 1) t) → ((t.1 71 5).toInt = 0) → (0 ≤ (t.1 71 48).toInt ∧ (t.1 71 48).toInt ≤ 6) → ((s.1 71 2).toInt - (s.1 71 45).toInt - (s.1 71 47).toInt ≤ (t.1 71 2).toInt - (t.1 71 45).toInt - (t.1 71 47).toInt) → ((s.1 71 2).toInt ≤ (t.1 71 2).toInt) → ((t.1 71 55).toInt = (b : Int)) → (oqJ g fp fq cz kx b 3 t) → (oqZ g t) → ((t.1 71 5).toInt = 0 → (t.1 71 6).toInt = (s.1 71 6).toInt) → 4000 * (1601 - (t.1 71 2).toInt) ≤ (n : Int) → J t 0 [(0, .ref (oad E 71))] []) ∧ (∀ (t : oS), (oQ b (x + 1) t) → ((t.1 71 5).toInt = 0) → (0 ≤ (t.1 71 48).toInt ∧ (t.1 71 48).toInt ≤ 6) → ((s.1 71 2).toInt - (s.1 71 45).toInt - (s.1 71 47).toInt ≤ (t.1 71 2).toInt - (t.1 71 45).toInt - (t.1 71 47).toInt) → ((s.1 71 2).toInt ≤ (t.1 71 2).toInt) → ((t.1 71 55).toInt = (b : Int)) → (oqJ g fp fq cz kx b 3 t) → (oqZ g t) → (oqSk g (t.1 71 2).toInt = (t.1 71 2).toInt) → (g (t.1 71 2).toInt ≠ 41 ∨ (oqHs b t ≠ 0 ∧ oqHs b t ≠ 2)) → ((t.1 71 5).toInt = 0 → (t.1 71 6).toInt = (s.1 71 6).toInt) → 2000 ≤ (n : Int) → J t 118 [(0, .ref (oad E 71))] []) ∧ (∀ (t : oS) (x1 : Int32), (oQ b (x + 1) t) → ((t.1 71 5).toInt = 0) → (0 ≤ (t.1 71 48).toInt ∧ (t.1 71 48).toInt ≤ 6) → ((s.1 71 2).toInt - (s.1 71 45).toInt - (s.1 71 47).toInt + 1 ≤ (t.1 71 2).toInt - (t.1 71 45).toInt - (t.1 71 47).toInt) → ((s.1 71 2).toInt ≤ (t.1 71 2).toInt) → (3 ≤ x1.toInt ∧ x1.toInt ≤ 4) → (oqJ g fp fq cz kx b 1 t) → ((t.1 71 5).toInt = 0 → (t.1 71 6).toInt = (s.1 71 6).toInt) → (t.1 71 47).toInt + 1 ≤ (n : Int) → J t 158 [(0, .ref (oad E 71)), (1, .int x1)] []) ∧ (∀ (t : oS) (x1 : Int32), (oQ b (x + 1) t) → ((t.1 71 5).toInt = 0) → (0 ≤ (t.1 71 48).toInt ∧ (t.1 71 48).toInt ≤ 6) → ((s.1 71 2).toInt - (s.1 71 45).toInt - (s.1 71 47).toInt + 1 ≤ (t.1 71 2).toInt - (t.1 71 45).toInt - (t.1 71 47).toInt) → ((s.1 71 2).toInt ≤ (t.1 71 2).toInt) → (1 ≤ x1.toInt ∧ x1.toInt ≤ 2) → (oqJ g fp fq cz kx b 1 t) → ((t.1 71 5).toInt = 0 → (t.1 71 6).toInt = (s.1 71 6).toInt) → (t.1 71 47).toInt + 1 ≤ (n : Int) → J t 243 [(0, .ref (oad E 71)), (1, .int x1)] []) := by
    intro n
    induction n using Nat.strongRecOn with
    | _ n ih =>
      refine ⟨?_, ?_, ?_, ?_⟩
      · intro t   iv0 iv1 iv2 iv3 iv4 iv5 iv6 iv7 iv8 hmu
        refine r_ty C (fun hty => ?_)
        have hty_coded : (0 : Int) ≤ ((t).1 71 45).toInt ∧ ((t).1 71 45).toInt ≤ 1600 := hty.1 71 45
        have hty_waits : (0 : Int) ≤ ((t).1 71 47).toInt ∧ ((t).1 71 47).toInt ≤ 1700 := hty.1 71 47
        have hty_at : (0 : Int) ≤ ((t).1 71 2).toInt ∧ ((t).1 71 2).toInt ≤ 1600 := hty.1 71 2
        clear hty
        refine r_aload_n C (j := 0) (oDec_at oX12_goesOn 0 rfl) rfl rfl ?_
        obtain ⟨v1, ev1⟩ : ∃ z : Int32, (t).1 71 5 = z := ⟨_, rfl⟩
        have gv1 : (t.1 71 5).toInt = v1.toInt := congrArg Int32.toInt (ev1)
        have rv1 := n_rng v1
        refine r_geti (k := 5) (lo := (-2147483648)) (hi := 2147483647) C v1 oCl12 rfl (by decide) flX12_173 rfl rfl (ev1) rfl rfl (oDec_at oX12_goesOn 1 rfl) (fun _ _ => ?_)
        refine r_if_ne C 118 (oDec_at oX12_goesOn 2 rfl) (by decide) (fun cd2 => ?_) (fun cd2 => ?_)
        · skip
          have lk3 : ((t).1 71 5).toInt = v1.toInt := congrArg Int32.toInt (ev1)
          have lk4 : ((t).1 71 5).toInt = v1.toInt := congrArg Int32.toInt (ev1)
          exact (ih (n - 1) (by omega)).2.1 (t)   iv0 (by omega) (by omega) (by omega) (by omega) (by omega) iv6 iv7 (by omega) (by omega) (by omega) (by omega)
        · skip
          refine r_aload_n C (j := 0) (oDec_at oX12_goesOn 3 rfl) rfl rfl ?_
          refine r_callVi C oCl12 rfl miX12_look mlX12_185 (ct4_X12_look l E (t)  (g) ((t.1 71 2).toInt) (by omega) iv7) (by decide) rfl rfl rfl (Nat.le_of_ble_eq_true rfl) (oDec_at oX12_goesOn 4 rfl) (fun r6 u5 pu5 fu5 => ?_)
          try dsimp only at pu5
          obtain ⟨pu5_0, pu5_1, pu5_2, pu5_3, pu5_4, pu5_5⟩ := pu5
          have rr6 := n_rng r6
          have hsk : oqSk g ((u5).1 71 2).toInt = ((u5).1 71 2).toInt := by rw [show ((u5).1 71 2).toInt = oqSk g (t.1 71 2).toInt by omega]; exact oqSk_sk pu5_3
          have hgA : g ((u5).1 71 2).toInt = r6.toInt := by rw [show ((u5).1 71 2).toInt = oqSk g (t.1 71 2).toInt by omega]; omega
          have hq7 : oqJ g fp fq cz kx b 3 (u5) := oqJ_id iv6 (oFr_row fu5 (c := 103) rfl rfl) (congrArg Int32.toInt (fu5 71 5 rfl).1) (congrArg Int32.toInt (fu5 71 47 rfl).1) (by rw [show ((u5).1 71 2).toInt = oqSk g (t.1 71 2).toInt by omega]; exact oqSk_sk pu5_3) (congrArg Int32.toInt (fu5 71 4 rfl).1) (congrArg Int32.toInt (fu5 71 48 rfl).1) (congrArg Int32.toInt (fu5 71 6 rfl).1)
          refine r_bipush C (oDec_at oX12_goesOn 5 rfl) (v := k41) (by rw [qk41]; rfl) ?_
          refine r_icmp_ne C 118 (oDec_at oX12_goesOn 6 rfl) (by decide) (fun cd8 => ?_) (fun cd8 => ?_)
          · skip
            have lk9 : ((u5).1 71 5).toInt = v1.toInt := congrArg Int32.toInt (((fu5 71 5 rfl).1).trans (ev1))
            have lk10 : ((u5).1 71 48).toInt = (t.1 71 48).toInt := congrArg Int32.toInt ((fu5 71 48 rfl).1)
            have lk11 : ((u5).1 71 45).toInt = (t.1 71 45).toInt := congrArg Int32.toInt ((fu5 71 45 rfl).1)
            have lk12 : ((u5).1 71 47).toInt = (t.1 71 47).toInt := congrArg Int32.toInt ((fu5 71 47 rfl).1)
            have lk13 : ((u5).1 71 55).toInt = (t.1 71 55).toInt := congrArg Int32.toInt ((fu5 71 55 rfl).1)
            have lk14 : ((u5).1 71 5).toInt = v1.toInt := congrArg Int32.toInt (((fu5 71 5 rfl).1).trans (ev1))
            have lk15 : ((u5).1 71 6).toInt = (t.1 71 6).toInt := congrArg Int32.toInt ((fu5 71 6 rfl).1)
            exact (ih (n - 1) (by omega)).2.1 (u5)   (oQ_fr fu5 rfl iv0) (by omega) (by omega) (by omega) (by omega) (by omega) hq7 (oqZ_fr fu5 rfl iv7) (by omega) (by omega) (by omega) (by omega)
          · skip
            refine r_aload_n C (j := 0) (oDec_at oX12_goesOn 7 rfl) rfl rfl ?_
            refine r_callVi C oCl12 rfl miX12_mark mlX12_304 (ct_X12_mark l E (u5)  ) (by decide) rfl rfl rfl (Nat.le_of_ble_eq_true rfl) (oDec_at oX12_goesOn 8 rfl) (fun r17 u16 pu16 fu16 => ?_)
            try dsimp only at pu16
            have hxu16 := oFr_nil fu16; subst hxu16
            have rr17 := n_rng r17
            have lk18 : ((u5).1 71 47).toInt = (t.1 71 47).toInt := congrArg Int32.toInt ((fu5 71 47 rfl).1)
            have lk19 : ((u5).1 71 55).toInt = (t.1 71 55).toInt := congrArg Int32.toInt ((fu5 71 55 rfl).1)
            have lk20 : ((u5).1 71 5).toInt = v1.toInt := congrArg Int32.toInt (((fu5 71 5 rfl).1).trans (ev1))
            have hm1 := oqHs_mk (oQ_fr fu5 rfl iv0) (by omega) pu16 (by omega) (by omega) (by omega)
            refine r_bipush C (oDec_at oX12_goesOn 9 rfl) (v := k20) (by rw [qk20]; rfl) ?_
            refine r_icmp_eq C 43 (oDec_at oX12_goesOn 10 rfl) (by decide) (fun cd21 => ?_) (fun cd21 => ?_)
            · skip
              have lk22 : ((u5).1 71 4).toInt = (t.1 71 4).toInt := congrArg Int32.toInt ((fu5 71 4 rfl).1)
              have lk23 : ((u5).1 71 5).toInt = v1.toInt := congrArg Int32.toInt (((fu5 71 5 rfl).1).trans (ev1))
              have lk24 : ((u5).1 71 48).toInt = (t.1 71 48).toInt := congrArg Int32.toInt ((fu5 71 48 rfl).1)
              have lk25 : ((u5).1 71 47).toInt = (t.1 71 47).toInt := congrArg Int32.toInt ((fu5 71 47 rfl).1)
              have hq26 : oMk (r17.toInt) (u5) := pu16
              refine r_aload_n C (j := 0) (oDec_at oX12_goesOn 19 rfl) rfl rfl ?_
              refine r_dup C (oDec_at oX12_goesOn 20 rfl) rfl ?_
              obtain ⟨v27, ev27⟩ : ∃ z : Int32, (u5).1 71 2 = z := ⟨_, rfl⟩
              have gv27 : (u5.1 71 2).toInt = v27.toInt := congrArg Int32.toInt (ev27)
              refine r_geti (k := 2) (lo := 0) (hi := 1600) C v27 oCl12 rfl (by decide) flX12_179 rfl rfl (ev27) rfl rfl (oDec_at oX12_goesOn 21 rfl) (fun b28 b28h => ?_)
              refine r_iconst C (oDec_at oX12_goesOn 22 rfl) (v := k1) (by rw [qk1]; rfl) ?_
              obtain ⟨v29, ev29⟩ : ∃ z : Int32, z = v27 + k1 := ⟨_, rfl⟩
              have hv29 : v29.toInt = v27.toInt + k1.toInt := n_add ev29 (by omega) (by omega)
              refine r_iadd C v29 (oDec_at oX12_goesOn 23 rfl) ev29 ?_
              refine r_puti (k := 2) (lo := 0) (hi := 1600) C oCl12 rfl (by decide) flX12_179 rfl rfl rfl rfl rfl rfl rfl rfl ⟨by omega, by omega⟩ (oDec_at oX12_goesOn 24 rfl) ?_
              refine r_pc C 53 rfl ?_
              have hq30 : oqK b (oqSg ((u5).1 103) b (((u5).1 71 47).toNatClampNeg - b)) ((pI u5 71 2 v29)) := rfl
              refine r_aload_n C (j := 0) (oDec_at oX12_goesOn 25 rfl) rfl rfl ?_
              have lk31 : (((pI u5 71 2 v29)).1 71 55).toInt = (t.1 71 55).toInt := congrArg Int32.toInt (((pI_ne (a := 71) (b := 55) (c := 71) (k := 2) _ _ (Or.inr (by decide)))).trans ((fu5 71 55 rfl).1))
              have lk32 : (((pI u5 71 2 v29)).1 71 5).toInt = v1.toInt := congrArg Int32.toInt (((pI_ne (a := 71) (b := 5) (c := 71) (k := 2) _ _ (Or.inr (by decide)))).trans (((fu5 71 5 rfl).1).trans (ev1)))
              have lk33 : (((pI u5 71 2 v29)).1 71 45).toInt = (t.1 71 45).toInt := congrArg Int32.toInt (((pI_ne (a := 71) (b := 45) (c := 71) (k := 2) _ _ (Or.inr (by decide)))).trans ((fu5 71 45 rfl).1))
              have lk34 : (((pI u5 71 2 v29)).1 71 47).toInt = (t.1 71 47).toInt := congrArg Int32.toInt (((pI_ne (a := 71) (b := 47) (c := 71) (k := 2) _ _ (Or.inr (by decide)))).trans ((fu5 71 47 rfl).1))
              have lk35 : (((pI u5 71 2 v29)).1 71 45).toInt = (t.1 71 45).toInt := congrArg Int32.toInt (((pI_ne (a := 71) (b := 45) (c := 71) (k := 2) _ _ (Or.inr (by decide)))).trans ((fu5 71 45 rfl).1))
              have lk36 : (((pI u5 71 2 v29)).1 71 47).toInt = (t.1 71 47).toInt := congrArg Int32.toInt (((pI_ne (a := 71) (b := 47) (c := 71) (k := 2) _ _ (Or.inr (by decide)))).trans ((fu5 71 47 rfl).1))
              have lk37 : (((pI u5 71 2 v29)).1 71 47).toInt = (t.1 71 47).toInt := congrArg Int32.toInt (((pI_ne (a := 71) (b := 47) (c := 71) (k := 2) _ _ (Or.inr (by decide)))).trans ((fu5 71 47 rfl).1))
              refine r_callVv C oCl12 rfl miX12_dropsToMark mlX12_307 (ct5_X12_dropsToMark l E ((pI u5 71 2 v29))  (b) (x + 1) (r17.toInt) (oqSg ((u5).1 103) b (((u5).1 71 47).toNatClampNeg - b)) (oQ_fr (oFr_oneI (q := 12) (m := 2) rfl (by rfl)) rfl (oQ_fr fu5 rfl iv0)) (oMk_fr (oFr_oneI (q := 12) (m := 2) rfl (by rfl)) rfl hq26) (by omega) (by omega) (by omega) (by omega) hq30) (by decide) rfl rfl rfl (Nat.le_of_ble_eq_true rfl) (oDec_at oX12_goesOn 26 rfl) (fun u38 pu38 fu38 => ?_)
              try dsimp only at pu38
              try simp only [lk31, lk32, lk33, lk34, lk35, lk36, lk37] at pu38
              obtain ⟨pu38_0, pu38_1, pu38_2, pu38_3, pu38_4⟩ := pu38
              have lk40 : ((u38).1 71 5).toInt = v1.toInt := congrArg Int32.toInt (((fu38 71 5 rfl).1).trans (((pI_ne (a := 71) (b := 5) (c := 71) (k := 2) _ _ (Or.inr (by decide)))).trans (((fu5 71 5 rfl).1).trans (ev1))))
              have lk41 : ((u38).1 71 48).toInt = (t.1 71 48).toInt := congrArg Int32.toInt (((fu38 71 48 rfl).1).trans (((pI_ne (a := 71) (b := 48) (c := 71) (k := 2) _ _ (Or.inr (by decide)))).trans ((fu5 71 48 rfl).1)))
              have lk42 : ((u38).1 71 2).toInt = v29.toInt := congrArg Int32.toInt (((fu38 71 2 rfl).1).trans ((pI_self _ _ _ _)))
              have lk43 : ((u38).1 71 4).toInt = (t.1 71 4).toInt := congrArg Int32.toInt (((fu38 71 4 rfl).1).trans (((pI_ne (a := 71) (b := 4) (c := 71) (k := 2) _ _ (Or.inr (by decide)))).trans ((fu5 71 4 rfl).1)))
              have htp := pu38_3 (by omega)
              have ho1 := oQ_opn1 pu38_0 (by omega) (by omega) (by omega)
              refine r_aload_n C (j := 0) (oDec_at oX12_goesOn 27 rfl) rfl rfl ?_
              refine r_dup C (oDec_at oX12_goesOn 28 rfl) rfl ?_
              obtain ⟨v44, ev44⟩ : ∃ z : Int32, (u38).1 71 47 = z := ⟨_, rfl⟩
              have gv44 : (u38.1 71 47).toInt = v44.toInt := congrArg Int32.toInt (ev44)
              refine r_geti (k := 47) (lo := 0) (hi := 1700) C v44 oCl12 rfl (by decide) flX12_277 rfl rfl (ev44) rfl rfl (oDec_at oX12_goesOn 29 rfl) (fun b45 b45h => ?_)
              refine r_iconst C (oDec_at oX12_goesOn 30 rfl) (v := k1) (by rw [qk1]; rfl) ?_
              refine r_pc C 63 rfl ?_
              obtain ⟨v46, ev46⟩ : ∃ z : Int32, z = v44 - k1 := ⟨_, rfl⟩
              have hv46 : v46.toInt = v44.toInt - k1.toInt := n_sub ev46 (by omega) (by omega)
              refine r_isub C v46 (oDec_at oX12_goesOn 31 rfl) ev46 ?_
              refine r_puti (k := 47) (lo := 0) (hi := 1700) C oCl12 rfl (by decide) flX12_277 rfl rfl rfl rfl rfl rfl rfl rfl ⟨by omega, by omega⟩ (oDec_at oX12_goesOn 32 rfl) ?_
              refine r_aload_n C (j := 0) (oDec_at oX12_goesOn 33 rfl) rfl rfl ?_
              refine r_dup C (oDec_at oX12_goesOn 34 rfl) rfl ?_
              obtain ⟨v47, ev47⟩ : ∃ z : Int32, ((pI u38 71 47 v46)).1 71 48 = z := ⟨_, rfl⟩
              have gv47 : (t.1 71 48).toInt = v47.toInt := congrArg Int32.toInt ((((pI_ne (a := 71) (b := 48) (c := 71) (k := 47) _ _ (Or.inr (by decide)))).trans (((fu38 71 48 rfl).1).trans (((pI_ne (a := 71) (b := 48) (c := 71) (k := 2) _ _ (Or.inr (by decide)))).trans ((fu5 71 48 rfl).1)))).symm.trans ev47)
              have ggv47 : (((pI u38 71 47 v46)).1 71 48).toInt = v47.toInt := congrArg Int32.toInt ev47
              refine r_geti (k := 48) (lo := (-1)) (hi := 7) C v47 oCl12 rfl (by decide) flX12_274 rfl rfl (ev47) rfl rfl (oDec_at oX12_goesOn 35 rfl) (fun b48 b48h => ?_)
              refine r_iconst C (oDec_at oX12_goesOn 36 rfl) (v := k1) (by rw [qk1]; rfl) ?_
              refine r_pc C 73 rfl ?_
              obtain ⟨v49, ev49⟩ : ∃ z : Int32, z = v47 - k1 := ⟨_, rfl⟩
              have hv49 : v49.toInt = v47.toInt - k1.toInt := n_sub ev49 (by omega) (by omega)
              refine r_isub C v49 (oDec_at oX12_goesOn 37 rfl) ev49 ?_
              refine r_puti (k := 48) (lo := (-1)) (hi := 7) C oCl12 rfl (by decide) flX12_274 rfl rfl rfl rfl rfl rfl rfl rfl ⟨by omega, by omega⟩ (oDec_at oX12_goesOn 38 rfl) ?_
              have hq50 : oqJ g fp fq cz kx b 3 ((pI (pI u38 71 47 v46) 71 48 v49)) := oqJ_cl (s := u5) hq7 (by omega) hsk (by omega) (oFr_row fu38 (c := 103) rfl rfl) (by omega) (by omega) (by omega) (by omega) pu38_4 (by omega) (by omega) (by omega) (by omega)
              refine r_aload_n C (j := 0) (oDec_at oX12_goesOn 39 rfl) rfl rfl ?_
              refine r_getF (k := 46) (b := 103) C oCl12 rfl (by decide) flX12_111 rfl rfl rfl (oDec_at oX12_goesOn 40 rfl) ?_
              refine r_aload_n C (j := 0) (oDec_at oX12_goesOn 41 rfl) rfl rfl ?_
              refine r_geti (k := 47) (lo := 0) (hi := 1700) C v46 oCl12 rfl (by decide) flX12_277 rfl rfl (((pI_ne (a := 71) (b := 47) (c := 71) (k := 48) _ _ (Or.inr (by decide)))).trans ((pI_self _ _ _ _))) rfl rfl (oDec_at oX12_goesOn 42 rfl) (fun _ _ => ?_)
              refine r_pc C 85 rfl ?_
              obtain ⟨v52, ev52⟩ : ∃ z : Int32, ((pI (pI u38 71 47 v46) 71 48 v49)).1 103 v46.toNatClampNeg = z := ⟨_, rfl⟩
              have av52 : t.1 103 v46.toNatClampNeg = v52 := (((pI_ne (a := 103) (b := v46.toNatClampNeg) (c := 71) _ _ (Or.inl (by decide)))).trans (((pI_ne (a := 103) (b := v46.toNatClampNeg) (c := 71) _ _ (Or.inl (by decide)))).trans (((fu38 103 v46.toNatClampNeg rfl).1).trans (((pI_ne (a := 103) (b := v46.toNatClampNeg) (c := 71) _ _ (Or.inl (by decide)))).trans ((fu5 103 v46.toNatClampNeg rfl).1))))).symm.trans ev52
              have gv52 : (t.1 103 v46.toNatClampNeg).toInt = v52.toInt := congrArg Int32.toInt ((((pI_ne (a := 103) (b := v46.toNatClampNeg) (c := 71) _ _ (Or.inl (by decide)))).trans (((pI_ne (a := 103) (b := v46.toNatClampNeg) (c := 71) _ _ (Or.inl (by decide)))).trans (((fu38 103 v46.toNatClampNeg rfl).1).trans (((pI_ne (a := 103) (b := v46.toNatClampNeg) (c := 71) _ _ (Or.inl (by decide)))).trans ((fu5 103 v46.toNatClampNeg rfl).1))))).symm.trans ev52)
              have rv52 := n_rng v52
              refine r_iald (n := 1700) (lo := (-2147483648)) (hi := 2147483647) C v52 rfl (by decide) rfl rfl ⟨by omega, by omega⟩ (by decide) ev52 rfl rfl (oDec_at oX12_goesOn 43 rfl) (fun _ _ => ?_)
              have hv0 := oTop_of (s := u38) (i := v46) ev52 (by omega)
              refine r_bipush C (oDec_at oX12_goesOn 44 rfl) (v := k20) (by rw [qk20]; rfl) ?_
              refine r_icmp_eq C 0 (oDec_at oX12_goesOn 45 rfl) (by decide) (fun cd53 => ?_) (fun cd53 => ?_)
              · skip
                have lk54 : (((pI (pI u38 71 47 v46) 71 48 v49)).1 71 5).toInt = v1.toInt := congrArg Int32.toInt (((pI_ne (a := 71) (b := 5) (c := 71) (k := 48) _ _ (Or.inr (by decide)))).trans (((pI_ne (a := 71) (b := 5) (c := 71) (k := 47) _ _ (Or.inr (by decide)))).trans (((fu38 71 5 rfl).1).trans (((pI_ne (a := 71) (b := 5) (c := 71) (k := 2) _ _ (Or.inr (by decide)))).trans (((fu5 71 5 rfl).1).trans (ev1))))))
                have lk55 : (((pI (pI u38 71 47 v46) 71 48 v49)).1 71 48).toInt = v49.toInt := congrArg Int32.toInt ((pI_self _ _ _ _))
                have lk56 : (((pI (pI u38 71 47 v46) 71 48 v49)).1 71 2).toInt = v29.toInt := congrArg Int32.toInt (((pI_ne (a := 71) (b := 2) (c := 71) (k := 48) _ _ (Or.inr (by decide)))).trans (((pI_ne (a := 71) (b := 2) (c := 71) (k := 47) _ _ (Or.inr (by decide)))).trans (((fu38 71 2 rfl).1).trans ((pI_self _ _ _ _)))))
                have lk57 : (((pI (pI u38 71 47 v46) 71 48 v49)).1 71 45).toInt = (u38.1 71 45).toInt := congrArg Int32.toInt (((pI_ne (a := 71) (b := 45) (c := 71) (k := 48) _ _ (Or.inr (by decide)))).trans ((pI_ne (a := 71) (b := 45) (c := 71) (k := 47) _ _ (Or.inr (by decide)))))
                have lk58 : (((pI (pI u38 71 47 v46) 71 48 v49)).1 71 47).toInt = v46.toInt := congrArg Int32.toInt (((pI_ne (a := 71) (b := 47) (c := 71) (k := 48) _ _ (Or.inr (by decide)))).trans ((pI_self _ _ _ _)))
                have lk59 : (((pI (pI u38 71 47 v46) 71 48 v49)).1 71 2).toInt = v29.toInt := congrArg Int32.toInt (((pI_ne (a := 71) (b := 2) (c := 71) (k := 48) _ _ (Or.inr (by decide)))).trans (((pI_ne (a := 71) (b := 2) (c := 71) (k := 47) _ _ (Or.inr (by decide)))).trans (((fu38 71 2 rfl).1).trans ((pI_self _ _ _ _)))))
                have lk60 : (((pI (pI u38 71 47 v46) 71 48 v49)).1 71 55).toInt = (t.1 71 55).toInt := congrArg Int32.toInt (((pI_ne (a := 71) (b := 55) (c := 71) (k := 48) _ _ (Or.inr (by decide)))).trans (((pI_ne (a := 71) (b := 55) (c := 71) (k := 47) _ _ (Or.inr (by decide)))).trans (((fu38 71 55 rfl).1).trans (((pI_ne (a := 71) (b := 55) (c := 71) (k := 2) _ _ (Or.inr (by decide)))).trans ((fu5 71 55 rfl).1)))))
                have lk61 : (((pI (pI u38 71 47 v46) 71 48 v49)).1 71 5).toInt = v1.toInt := congrArg Int32.toInt (((pI_ne (a := 71) (b := 5) (c := 71) (k := 48) _ _ (Or.inr (by decide)))).trans (((pI_ne (a := 71) (b := 5) (c := 71) (k := 47) _ _ (Or.inr (by decide)))).trans (((fu38 71 5 rfl).1).trans (((pI_ne (a := 71) (b := 5) (c := 71) (k := 2) _ _ (Or.inr (by decide)))).trans (((fu5 71 5 rfl).1).trans (ev1))))))
                have lk62 : (((pI (pI u38 71 47 v46) 71 48 v49)).1 71 6).toInt = (t.1 71 6).toInt := congrArg Int32.toInt (((pI_ne (a := 71) (b := 6) (c := 71) (k := 48) _ _ (Or.inr (by decide)))).trans (((pI_ne (a := 71) (b := 6) (c := 71) (k := 47) _ _ (Or.inr (by decide)))).trans (((fu38 71 6 rfl).1).trans (((pI_ne (a := 71) (b := 6) (c := 71) (k := 2) _ _ (Or.inr (by decide)))).trans ((fu5 71 6 rfl).1)))))
                have lk63 : (((pI (pI u38 71 47 v46) 71 48 v49)).1 71 2).toInt = v29.toInt := congrArg Int32.toInt (((pI_ne (a := 71) (b := 2) (c := 71) (k := 48) _ _ (Or.inr (by decide)))).trans (((pI_ne (a := 71) (b := 2) (c := 71) (k := 47) _ _ (Or.inr (by decide)))).trans (((fu38 71 2 rfl).1).trans ((pI_self _ _ _ _)))))
                exact (ih (n - 1) (by omega)).1 ((pI (pI u38 71 47 v46) 71 48 v49))   (by first | exact (by assumption) | exact oQ_pop pu38_0 (by omega) (by omega) (by omega) (by omega)) (by omega) (by omega) (by omega) (by omega) (by omega) hq50 (oqZ_fr (oFr_oneI (q := 12) (m := 48) rfl (by rfl)) rfl (oqZ_fr (oFr_oneI (q := 12) (m := 47) rfl (by rfl)) rfl (oqZ_fr fu38 rfl (oqZ_fr (oFr_oneI (q := 12) (m := 2) rfl (by rfl)) rfl (oqZ_fr fu5 rfl iv7))))) (by omega) (by omega)
              · skip
                have hq64 : oQ b (x + 1 + 1) ((pI (pI u38 71 47 v46) 71 48 v49)) := oQ_popN pu38_0 (by omega) (by omega) (by omega) (by omega)
                refine r_aload_n C (j := 0) (oDec_at oX12_goesOn 46 rfl) rfl rfl ?_
                refine r_aload_n C (j := 0) (oDec_at oX12_goesOn 47 rfl) rfl rfl ?_
                refine r_getF (k := 46) (b := 103) C oCl12 rfl (by decide) flX12_111 rfl rfl rfl (oDec_at oX12_goesOn 48 rfl) ?_
                refine r_aload_n C (j := 0) (oDec_at oX12_goesOn 49 rfl) rfl rfl ?_
                refine r_geti (k := 47) (lo := 0) (hi := 1700) C v46 oCl12 rfl (by decide) flX12_277 rfl rfl (((pI_ne (a := 71) (b := 47) (c := 71) (k := 48) _ _ (Or.inr (by decide)))).trans ((pI_self _ _ _ _))) rfl rfl (oDec_at oX12_goesOn 50 rfl) (fun _ _ => ?_)
                refine r_iald (n := 1700) (lo := (-2147483648)) (hi := 2147483647) C v52 rfl (by decide) rfl rfl ⟨by omega, by omega⟩ (by decide) (ev52) rfl rfl (oDec_at oX12_goesOn 51 rfl) (fun _ _ => ?_)
                refine r_pc C 101 rfl ?_
                refine r_bipush C (oDec_at oX12_goesOn 52 rfl) (v := k23) (by rw [qk23]; rfl) ?_
                refine r_icmp_ne C 110 (oDec_at oX12_goesOn 53 rfl) (by decide) (fun cd66 => ?_) (fun cd66 => ?_)
                · skip
                  refine r_bipush C (oDec_at oX12_goesOn 56 rfl) (v := k6) (by rw [qk6]; rfl) ?_
                  have lk67 : (((pI (pI u38 71 47 v46) 71 48 v49)).1 71 45).toInt = (u38.1 71 45).toInt := congrArg Int32.toInt (((pI_ne (a := 71) (b := 45) (c := 71) (k := 48) _ _ (Or.inr (by decide)))).trans ((pI_ne (a := 71) (b := 45) (c := 71) (k := 47) _ _ (Or.inr (by decide)))))
                  have lk68 : (((pI (pI u38 71 47 v46) 71 48 v49)).1 71 45).toInt = (u38.1 71 45).toInt := congrArg Int32.toInt (((pI_ne (a := 71) (b := 45) (c := 71) (k := 48) _ _ (Or.inr (by decide)))).trans ((pI_ne (a := 71) (b := 45) (c := 71) (k := 47) _ _ (Or.inr (by decide)))))
                  have lk69 : (((pI (pI u38 71 47 v46) 71 48 v49)).1 71 45).toInt = (u38.1 71 45).toInt := congrArg Int32.toInt (((pI_ne (a := 71) (b := 45) (c := 71) (k := 48) _ _ (Or.inr (by decide)))).trans ((pI_ne (a := 71) (b := 45) (c := 71) (k := 47) _ _ (Or.inr (by decide)))))
                  refine r_callVv C oCl12 rfl miX12_lay mlX12_280 (ct_X12_lay l E ((pI (pI u38 71 47 v46) 71 48 v49)) k6 (by omega)) (by decide) rfl rfl rfl (Nat.le_of_ble_eq_true rfl) (oDec_at oX12_goesOn 57 rfl) (fun u70 pu70 fu70 => ?_)
                  try dsimp only at pu70
                  try simp only [lk68, lk69] at pu70
                  obtain ⟨pu70_0, pu70_1⟩ := pu70
                  have hq72 : oQ b (x + 1) (u70) := oQ_jn hq64 pu70_0 (by omega) (by omega) (by omega)
                  refine r_goto C (tgt := 0) (oDec_at oX12_goesOn 58 rfl) (by decide) ?_
                  have lk73 : ((u70).1 71 5).toInt = v1.toInt := congrArg Int32.toInt (((fu70 71 5 rfl).1).trans (((pI_ne (a := 71) (b := 5) (c := 71) (k := 48) _ _ (Or.inr (by decide)))).trans (((pI_ne (a := 71) (b := 5) (c := 71) (k := 47) _ _ (Or.inr (by decide)))).trans (((fu38 71 5 rfl).1).trans (((pI_ne (a := 71) (b := 5) (c := 71) (k := 2) _ _ (Or.inr (by decide)))).trans (((fu5 71 5 rfl).1).trans (ev1)))))))
                  have lk74 : ((u70).1 71 48).toInt = v49.toInt := congrArg Int32.toInt (((fu70 71 48 rfl).1).trans ((pI_self _ _ _ _)))
                  have lk75 : ((u70).1 71 2).toInt = v29.toInt := congrArg Int32.toInt (((fu70 71 2 rfl).1).trans (((pI_ne (a := 71) (b := 2) (c := 71) (k := 48) _ _ (Or.inr (by decide)))).trans (((pI_ne (a := 71) (b := 2) (c := 71) (k := 47) _ _ (Or.inr (by decide)))).trans (((fu38 71 2 rfl).1).trans ((pI_self _ _ _ _))))))
                  have lk76 : ((u70).1 71 47).toInt = v46.toInt := congrArg Int32.toInt (((fu70 71 47 rfl).1).trans (((pI_ne (a := 71) (b := 47) (c := 71) (k := 48) _ _ (Or.inr (by decide)))).trans ((pI_self _ _ _ _))))
                  have lk77 : ((u70).1 71 2).toInt = v29.toInt := congrArg Int32.toInt (((fu70 71 2 rfl).1).trans (((pI_ne (a := 71) (b := 2) (c := 71) (k := 48) _ _ (Or.inr (by decide)))).trans (((pI_ne (a := 71) (b := 2) (c := 71) (k := 47) _ _ (Or.inr (by decide)))).trans (((fu38 71 2 rfl).1).trans ((pI_self _ _ _ _))))))
                  have lk78 : ((u70).1 71 55).toInt = (t.1 71 55).toInt := congrArg Int32.toInt (((fu70 71 55 rfl).1).trans (((pI_ne (a := 71) (b := 55) (c := 71) (k := 48) _ _ (Or.inr (by decide)))).trans (((pI_ne (a := 71) (b := 55) (c := 71) (k := 47) _ _ (Or.inr (by decide)))).trans (((fu38 71 55 rfl).1).trans (((pI_ne (a := 71) (b := 55) (c := 71) (k := 2) _ _ (Or.inr (by decide)))).trans ((fu5 71 55 rfl).1))))))
                  have lk79 : ((u70).1 71 5).toInt = v1.toInt := congrArg Int32.toInt (((fu70 71 5 rfl).1).trans (((pI_ne (a := 71) (b := 5) (c := 71) (k := 48) _ _ (Or.inr (by decide)))).trans (((pI_ne (a := 71) (b := 5) (c := 71) (k := 47) _ _ (Or.inr (by decide)))).trans (((fu38 71 5 rfl).1).trans (((pI_ne (a := 71) (b := 5) (c := 71) (k := 2) _ _ (Or.inr (by decide)))).trans (((fu5 71 5 rfl).1).trans (ev1)))))))
                  have lk80 : ((u70).1 71 6).toInt = (t.1 71 6).toInt := congrArg Int32.toInt (((fu70 71 6 rfl).1).trans (((pI_ne (a := 71) (b := 6) (c := 71) (k := 48) _ _ (Or.inr (by decide)))).trans (((pI_ne (a := 71) (b := 6) (c := 71) (k := 47) _ _ (Or.inr (by decide)))).trans (((fu38 71 6 rfl).1).trans (((pI_ne (a := 71) (b := 6) (c := 71) (k := 2) _ _ (Or.inr (by decide)))).trans ((fu5 71 6 rfl).1))))))
                  have lk81 : ((u70).1 71 2).toInt = v29.toInt := congrArg Int32.toInt (((fu70 71 2 rfl).1).trans (((pI_ne (a := 71) (b := 2) (c := 71) (k := 48) _ _ (Or.inr (by decide)))).trans (((pI_ne (a := 71) (b := 2) (c := 71) (k := 47) _ _ (Or.inr (by decide)))).trans (((fu38 71 2 rfl).1).trans ((pI_self _ _ _ _))))))
                  exact (ih (n - 1) (by omega)).1 (u70)   (by first | exact hq72 | exact oQ_pop pu38_0 (by omega) (by omega) (by omega) (by omega)) (by omega) (by omega) (by omega) (by omega) (by omega) (oqJ_fr fu70 rfl hq50) (oqZ_fr fu70 rfl (oqZ_fr (oFr_oneI (q := 12) (m := 48) rfl (by rfl)) rfl (oqZ_fr (oFr_oneI (q := 12) (m := 47) rfl (by rfl)) rfl (oqZ_fr fu38 rfl (oqZ_fr (oFr_oneI (q := 12) (m := 2) rfl (by rfl)) rfl (oqZ_fr fu5 rfl iv7)))))) (by omega) (by omega)
                · skip
                  refine r_iconst C (oDec_at oX12_goesOn 54 rfl) (v := k5) (by rw [qk5]; rfl) ?_
                  refine r_goto C (tgt := 112) (oDec_at oX12_goesOn 55 rfl) (by decide) ?_
                  have lk82 : (((pI (pI u38 71 47 v46) 71 48 v49)).1 71 45).toInt = (u38.1 71 45).toInt := congrArg Int32.toInt (((pI_ne (a := 71) (b := 45) (c := 71) (k := 48) _ _ (Or.inr (by decide)))).trans ((pI_ne (a := 71) (b := 45) (c := 71) (k := 47) _ _ (Or.inr (by decide)))))
                  have lk83 : (((pI (pI u38 71 47 v46) 71 48 v49)).1 71 45).toInt = (u38.1 71 45).toInt := congrArg Int32.toInt (((pI_ne (a := 71) (b := 45) (c := 71) (k := 48) _ _ (Or.inr (by decide)))).trans ((pI_ne (a := 71) (b := 45) (c := 71) (k := 47) _ _ (Or.inr (by decide)))))
                  have lk84 : (((pI (pI u38 71 47 v46) 71 48 v49)).1 71 45).toInt = (u38.1 71 45).toInt := congrArg Int32.toInt (((pI_ne (a := 71) (b := 45) (c := 71) (k := 48) _ _ (Or.inr (by decide)))).trans ((pI_ne (a := 71) (b := 45) (c := 71) (k := 47) _ _ (Or.inr (by decide)))))
                  refine r_callVv C oCl12 rfl miX12_lay mlX12_280 (ct_X12_lay l E ((pI (pI u38 71 47 v46) 71 48 v49)) k5 (by omega)) (by decide) rfl rfl rfl (Nat.le_of_ble_eq_true rfl) (oDec_at oX12_goesOn 57 rfl) (fun u85 pu85 fu85 => ?_)
                  try dsimp only at pu85
                  try simp only [lk83, lk84] at pu85
                  obtain ⟨pu85_0, pu85_1⟩ := pu85
                  have hq87 : oQ b (x + 1) (u85) := oQ_jn hq64 pu85_0 (by omega) (by omega) (by omega)
                  refine r_goto C (tgt := 0) (oDec_at oX12_goesOn 58 rfl) (by decide) ?_
                  have lk88 : ((u85).1 71 5).toInt = v1.toInt := congrArg Int32.toInt (((fu85 71 5 rfl).1).trans (((pI_ne (a := 71) (b := 5) (c := 71) (k := 48) _ _ (Or.inr (by decide)))).trans (((pI_ne (a := 71) (b := 5) (c := 71) (k := 47) _ _ (Or.inr (by decide)))).trans (((fu38 71 5 rfl).1).trans (((pI_ne (a := 71) (b := 5) (c := 71) (k := 2) _ _ (Or.inr (by decide)))).trans (((fu5 71 5 rfl).1).trans (ev1)))))))
                  have lk89 : ((u85).1 71 48).toInt = v49.toInt := congrArg Int32.toInt (((fu85 71 48 rfl).1).trans ((pI_self _ _ _ _)))
                  have lk90 : ((u85).1 71 2).toInt = v29.toInt := congrArg Int32.toInt (((fu85 71 2 rfl).1).trans (((pI_ne (a := 71) (b := 2) (c := 71) (k := 48) _ _ (Or.inr (by decide)))).trans (((pI_ne (a := 71) (b := 2) (c := 71) (k := 47) _ _ (Or.inr (by decide)))).trans (((fu38 71 2 rfl).1).trans ((pI_self _ _ _ _))))))
                  have lk91 : ((u85).1 71 47).toInt = v46.toInt := congrArg Int32.toInt (((fu85 71 47 rfl).1).trans (((pI_ne (a := 71) (b := 47) (c := 71) (k := 48) _ _ (Or.inr (by decide)))).trans ((pI_self _ _ _ _))))
                  have lk92 : ((u85).1 71 2).toInt = v29.toInt := congrArg Int32.toInt (((fu85 71 2 rfl).1).trans (((pI_ne (a := 71) (b := 2) (c := 71) (k := 48) _ _ (Or.inr (by decide)))).trans (((pI_ne (a := 71) (b := 2) (c := 71) (k := 47) _ _ (Or.inr (by decide)))).trans (((fu38 71 2 rfl).1).trans ((pI_self _ _ _ _))))))
                  have lk93 : ((u85).1 71 55).toInt = (t.1 71 55).toInt := congrArg Int32.toInt (((fu85 71 55 rfl).1).trans (((pI_ne (a := 71) (b := 55) (c := 71) (k := 48) _ _ (Or.inr (by decide)))).trans (((pI_ne (a := 71) (b := 55) (c := 71) (k := 47) _ _ (Or.inr (by decide)))).trans (((fu38 71 55 rfl).1).trans (((pI_ne (a := 71) (b := 55) (c := 71) (k := 2) _ _ (Or.inr (by decide)))).trans ((fu5 71 55 rfl).1))))))
                  have lk94 : ((u85).1 71 5).toInt = v1.toInt := congrArg Int32.toInt (((fu85 71 5 rfl).1).trans (((pI_ne (a := 71) (b := 5) (c := 71) (k := 48) _ _ (Or.inr (by decide)))).trans (((pI_ne (a := 71) (b := 5) (c := 71) (k := 47) _ _ (Or.inr (by decide)))).trans (((fu38 71 5 rfl).1).trans (((pI_ne (a := 71) (b := 5) (c := 71) (k := 2) _ _ (Or.inr (by decide)))).trans (((fu5 71 5 rfl).1).trans (ev1)))))))
                  have lk95 : ((u85).1 71 6).toInt = (t.1 71 6).toInt := congrArg Int32.toInt (((fu85 71 6 rfl).1).trans (((pI_ne (a := 71) (b := 6) (c := 71) (k := 48) _ _ (Or.inr (by decide)))).trans (((pI_ne (a := 71) (b := 6) (c := 71) (k := 47) _ _ (Or.inr (by decide)))).trans (((fu38 71 6 rfl).1).trans (((pI_ne (a := 71) (b := 6) (c := 71) (k := 2) _ _ (Or.inr (by decide)))).trans ((fu5 71 6 rfl).1))))))
                  have lk96 : ((u85).1 71 2).toInt = v29.toInt := congrArg Int32.toInt (((fu85 71 2 rfl).1).trans (((pI_ne (a := 71) (b := 2) (c := 71) (k := 48) _ _ (Or.inr (by decide)))).trans (((pI_ne (a := 71) (b := 2) (c := 71) (k := 47) _ _ (Or.inr (by decide)))).trans (((fu38 71 2 rfl).1).trans ((pI_self _ _ _ _))))))
                  exact (ih (n - 1) (by omega)).1 (u85)   (by first | exact hq87 | exact oQ_pop pu38_0 (by omega) (by omega) (by omega) (by omega)) (by omega) (by omega) (by omega) (by omega) (by omega) (oqJ_fr fu85 rfl hq50) (oqZ_fr fu85 rfl (oqZ_fr (oFr_oneI (q := 12) (m := 48) rfl (by rfl)) rfl (oqZ_fr (oFr_oneI (q := 12) (m := 47) rfl (by rfl)) rfl (oqZ_fr fu38 rfl (oqZ_fr (oFr_oneI (q := 12) (m := 2) rfl (by rfl)) rfl (oqZ_fr fu5 rfl iv7)))))) (by omega) (by omega)
            · skip
              refine r_aload_n C (j := 0) (oDec_at oX12_goesOn 11 rfl) rfl rfl ?_
              refine r_callVi C oCl12 rfl miX12_mark mlX12_304 (ct_X12_mark l E (u5)  ) (by decide) rfl rfl rfl (Nat.le_of_ble_eq_true rfl) (oDec_at oX12_goesOn 12 rfl) (fun r98 u97 pu97 fu97 => ?_)
              try dsimp only at pu97
              have hxu97 := oFr_nil fu97; subst hxu97
              have rr98 := n_rng r98
              have lk99 : ((u5).1 71 47).toInt = (t.1 71 47).toInt := congrArg Int32.toInt ((fu5 71 47 rfl).1)
              have lk100 : ((u5).1 71 55).toInt = (t.1 71 55).toInt := congrArg Int32.toInt ((fu5 71 55 rfl).1)
              have lk101 : ((u5).1 71 5).toInt = v1.toInt := congrArg Int32.toInt (((fu5 71 5 rfl).1).trans (ev1))
              have hm2 := oqHs_mk (oQ_fr fu5 rfl iv0) (by omega) pu97 (by omega) (by omega) (by omega)
              refine r_bipush C (oDec_at oX12_goesOn 13 rfl) (v := k23) (by rw [qk23]; rfl) ?_
              refine r_icmp_eq C 43 (oDec_at oX12_goesOn 14 rfl) (by decide) (fun cd102 => ?_) (fun cd102 => ?_)
              · skip
                have lk103 : ((u5).1 71 4).toInt = (t.1 71 4).toInt := congrArg Int32.toInt ((fu5 71 4 rfl).1)
                have lk104 : ((u5).1 71 5).toInt = v1.toInt := congrArg Int32.toInt (((fu5 71 5 rfl).1).trans (ev1))
                have lk105 : ((u5).1 71 48).toInt = (t.1 71 48).toInt := congrArg Int32.toInt ((fu5 71 48 rfl).1)
                have lk106 : ((u5).1 71 47).toInt = (t.1 71 47).toInt := congrArg Int32.toInt ((fu5 71 47 rfl).1)
                have hq107 : oMk (r98.toInt) (u5) := pu97
                refine r_aload_n C (j := 0) (oDec_at oX12_goesOn 19 rfl) rfl rfl ?_
                refine r_dup C (oDec_at oX12_goesOn 20 rfl) rfl ?_
                obtain ⟨v108, ev108⟩ : ∃ z : Int32, (u5).1 71 2 = z := ⟨_, rfl⟩
                have gv108 : (u5.1 71 2).toInt = v108.toInt := congrArg Int32.toInt (ev108)
                refine r_geti (k := 2) (lo := 0) (hi := 1600) C v108 oCl12 rfl (by decide) flX12_179 rfl rfl (ev108) rfl rfl (oDec_at oX12_goesOn 21 rfl) (fun b109 b109h => ?_)
                refine r_iconst C (oDec_at oX12_goesOn 22 rfl) (v := k1) (by rw [qk1]; rfl) ?_
                obtain ⟨v110, ev110⟩ : ∃ z : Int32, z = v108 + k1 := ⟨_, rfl⟩
                have hv110 : v110.toInt = v108.toInt + k1.toInt := n_add ev110 (by omega) (by omega)
                refine r_iadd C v110 (oDec_at oX12_goesOn 23 rfl) ev110 ?_
                refine r_puti (k := 2) (lo := 0) (hi := 1600) C oCl12 rfl (by decide) flX12_179 rfl rfl rfl rfl rfl rfl rfl rfl ⟨by omega, by omega⟩ (oDec_at oX12_goesOn 24 rfl) ?_
                refine r_pc C 53 rfl ?_
                have hq111 : oqK b (oqSg ((u5).1 103) b (((u5).1 71 47).toNatClampNeg - b)) ((pI u5 71 2 v110)) := rfl
                refine r_aload_n C (j := 0) (oDec_at oX12_goesOn 25 rfl) rfl rfl ?_
                have lk112 : (((pI u5 71 2 v110)).1 71 55).toInt = (t.1 71 55).toInt := congrArg Int32.toInt (((pI_ne (a := 71) (b := 55) (c := 71) (k := 2) _ _ (Or.inr (by decide)))).trans ((fu5 71 55 rfl).1))
                have lk113 : (((pI u5 71 2 v110)).1 71 5).toInt = v1.toInt := congrArg Int32.toInt (((pI_ne (a := 71) (b := 5) (c := 71) (k := 2) _ _ (Or.inr (by decide)))).trans (((fu5 71 5 rfl).1).trans (ev1)))
                have lk114 : (((pI u5 71 2 v110)).1 71 45).toInt = (t.1 71 45).toInt := congrArg Int32.toInt (((pI_ne (a := 71) (b := 45) (c := 71) (k := 2) _ _ (Or.inr (by decide)))).trans ((fu5 71 45 rfl).1))
                have lk115 : (((pI u5 71 2 v110)).1 71 47).toInt = (t.1 71 47).toInt := congrArg Int32.toInt (((pI_ne (a := 71) (b := 47) (c := 71) (k := 2) _ _ (Or.inr (by decide)))).trans ((fu5 71 47 rfl).1))
                have lk116 : (((pI u5 71 2 v110)).1 71 45).toInt = (t.1 71 45).toInt := congrArg Int32.toInt (((pI_ne (a := 71) (b := 45) (c := 71) (k := 2) _ _ (Or.inr (by decide)))).trans ((fu5 71 45 rfl).1))
                have lk117 : (((pI u5 71 2 v110)).1 71 47).toInt = (t.1 71 47).toInt := congrArg Int32.toInt (((pI_ne (a := 71) (b := 47) (c := 71) (k := 2) _ _ (Or.inr (by decide)))).trans ((fu5 71 47 rfl).1))
                have lk118 : (((pI u5 71 2 v110)).1 71 47).toInt = (t.1 71 47).toInt := congrArg Int32.toInt (((pI_ne (a := 71) (b := 47) (c := 71) (k := 2) _ _ (Or.inr (by decide)))).trans ((fu5 71 47 rfl).1))
                refine r_callVv C oCl12 rfl miX12_dropsToMark mlX12_307 (ct5_X12_dropsToMark l E ((pI u5 71 2 v110))  (b) (x + 1) (r98.toInt) (oqSg ((u5).1 103) b (((u5).1 71 47).toNatClampNeg - b)) (oQ_fr (oFr_oneI (q := 12) (m := 2) rfl (by rfl)) rfl (oQ_fr fu5 rfl iv0)) (oMk_fr (oFr_oneI (q := 12) (m := 2) rfl (by rfl)) rfl hq107) (by omega) (by omega) (by omega) (by omega) hq111) (by decide) rfl rfl rfl (Nat.le_of_ble_eq_true rfl) (oDec_at oX12_goesOn 26 rfl) (fun u119 pu119 fu119 => ?_)
                try dsimp only at pu119
                try simp only [lk112, lk113, lk114, lk115, lk116, lk117, lk118] at pu119
                obtain ⟨pu119_0, pu119_1, pu119_2, pu119_3, pu119_4⟩ := pu119
                have lk121 : ((u119).1 71 5).toInt = v1.toInt := congrArg Int32.toInt (((fu119 71 5 rfl).1).trans (((pI_ne (a := 71) (b := 5) (c := 71) (k := 2) _ _ (Or.inr (by decide)))).trans (((fu5 71 5 rfl).1).trans (ev1))))
                have lk122 : ((u119).1 71 48).toInt = (t.1 71 48).toInt := congrArg Int32.toInt (((fu119 71 48 rfl).1).trans (((pI_ne (a := 71) (b := 48) (c := 71) (k := 2) _ _ (Or.inr (by decide)))).trans ((fu5 71 48 rfl).1)))
                have lk123 : ((u119).1 71 2).toInt = v110.toInt := congrArg Int32.toInt (((fu119 71 2 rfl).1).trans ((pI_self _ _ _ _)))
                have lk124 : ((u119).1 71 4).toInt = (t.1 71 4).toInt := congrArg Int32.toInt (((fu119 71 4 rfl).1).trans (((pI_ne (a := 71) (b := 4) (c := 71) (k := 2) _ _ (Or.inr (by decide)))).trans ((fu5 71 4 rfl).1)))
                have htp := pu119_3 (by omega)
                have ho1 := oQ_opn1 pu119_0 (by omega) (by omega) (by omega)
                refine r_aload_n C (j := 0) (oDec_at oX12_goesOn 27 rfl) rfl rfl ?_
                refine r_dup C (oDec_at oX12_goesOn 28 rfl) rfl ?_
                obtain ⟨v125, ev125⟩ : ∃ z : Int32, (u119).1 71 47 = z := ⟨_, rfl⟩
                have gv125 : (u119.1 71 47).toInt = v125.toInt := congrArg Int32.toInt (ev125)
                refine r_geti (k := 47) (lo := 0) (hi := 1700) C v125 oCl12 rfl (by decide) flX12_277 rfl rfl (ev125) rfl rfl (oDec_at oX12_goesOn 29 rfl) (fun b126 b126h => ?_)
                refine r_iconst C (oDec_at oX12_goesOn 30 rfl) (v := k1) (by rw [qk1]; rfl) ?_
                refine r_pc C 63 rfl ?_
                obtain ⟨v127, ev127⟩ : ∃ z : Int32, z = v125 - k1 := ⟨_, rfl⟩
                have hv127 : v127.toInt = v125.toInt - k1.toInt := n_sub ev127 (by omega) (by omega)
                refine r_isub C v127 (oDec_at oX12_goesOn 31 rfl) ev127 ?_
                refine r_puti (k := 47) (lo := 0) (hi := 1700) C oCl12 rfl (by decide) flX12_277 rfl rfl rfl rfl rfl rfl rfl rfl ⟨by omega, by omega⟩ (oDec_at oX12_goesOn 32 rfl) ?_
                refine r_aload_n C (j := 0) (oDec_at oX12_goesOn 33 rfl) rfl rfl ?_
                refine r_dup C (oDec_at oX12_goesOn 34 rfl) rfl ?_
                obtain ⟨v128, ev128⟩ : ∃ z : Int32, ((pI u119 71 47 v127)).1 71 48 = z := ⟨_, rfl⟩
                have gv128 : (t.1 71 48).toInt = v128.toInt := congrArg Int32.toInt ((((pI_ne (a := 71) (b := 48) (c := 71) (k := 47) _ _ (Or.inr (by decide)))).trans (((fu119 71 48 rfl).1).trans (((pI_ne (a := 71) (b := 48) (c := 71) (k := 2) _ _ (Or.inr (by decide)))).trans ((fu5 71 48 rfl).1)))).symm.trans ev128)
                have ggv128 : (((pI u119 71 47 v127)).1 71 48).toInt = v128.toInt := congrArg Int32.toInt ev128
                refine r_geti (k := 48) (lo := (-1)) (hi := 7) C v128 oCl12 rfl (by decide) flX12_274 rfl rfl (ev128) rfl rfl (oDec_at oX12_goesOn 35 rfl) (fun b129 b129h => ?_)
                refine r_iconst C (oDec_at oX12_goesOn 36 rfl) (v := k1) (by rw [qk1]; rfl) ?_
                refine r_pc C 73 rfl ?_
                obtain ⟨v130, ev130⟩ : ∃ z : Int32, z = v128 - k1 := ⟨_, rfl⟩
                have hv130 : v130.toInt = v128.toInt - k1.toInt := n_sub ev130 (by omega) (by omega)
                refine r_isub C v130 (oDec_at oX12_goesOn 37 rfl) ev130 ?_
                refine r_puti (k := 48) (lo := (-1)) (hi := 7) C oCl12 rfl (by decide) flX12_274 rfl rfl rfl rfl rfl rfl rfl rfl ⟨by omega, by omega⟩ (oDec_at oX12_goesOn 38 rfl) ?_
                have hq131 : oqJ g fp fq cz kx b 3 ((pI (pI u119 71 47 v127) 71 48 v130)) := oqJ_cl (s := u5) hq7 (by omega) hsk (by omega) (oFr_row fu119 (c := 103) rfl rfl) (by omega) (by omega) (by omega) (by omega) pu119_4 (by omega) (by omega) (by omega) (by omega)
                refine r_aload_n C (j := 0) (oDec_at oX12_goesOn 39 rfl) rfl rfl ?_
                refine r_getF (k := 46) (b := 103) C oCl12 rfl (by decide) flX12_111 rfl rfl rfl (oDec_at oX12_goesOn 40 rfl) ?_
                refine r_aload_n C (j := 0) (oDec_at oX12_goesOn 41 rfl) rfl rfl ?_
                refine r_geti (k := 47) (lo := 0) (hi := 1700) C v127 oCl12 rfl (by decide) flX12_277 rfl rfl (((pI_ne (a := 71) (b := 47) (c := 71) (k := 48) _ _ (Or.inr (by decide)))).trans ((pI_self _ _ _ _))) rfl rfl (oDec_at oX12_goesOn 42 rfl) (fun _ _ => ?_)
                refine r_pc C 85 rfl ?_
                obtain ⟨v133, ev133⟩ : ∃ z : Int32, ((pI (pI u119 71 47 v127) 71 48 v130)).1 103 v127.toNatClampNeg = z := ⟨_, rfl⟩
                have av133 : t.1 103 v127.toNatClampNeg = v133 := (((pI_ne (a := 103) (b := v127.toNatClampNeg) (c := 71) _ _ (Or.inl (by decide)))).trans (((pI_ne (a := 103) (b := v127.toNatClampNeg) (c := 71) _ _ (Or.inl (by decide)))).trans (((fu119 103 v127.toNatClampNeg rfl).1).trans (((pI_ne (a := 103) (b := v127.toNatClampNeg) (c := 71) _ _ (Or.inl (by decide)))).trans ((fu5 103 v127.toNatClampNeg rfl).1))))).symm.trans ev133
                have gv133 : (t.1 103 v127.toNatClampNeg).toInt = v133.toInt := congrArg Int32.toInt ((((pI_ne (a := 103) (b := v127.toNatClampNeg) (c := 71) _ _ (Or.inl (by decide)))).trans (((pI_ne (a := 103) (b := v127.toNatClampNeg) (c := 71) _ _ (Or.inl (by decide)))).trans (((fu119 103 v127.toNatClampNeg rfl).1).trans (((pI_ne (a := 103) (b := v127.toNatClampNeg) (c := 71) _ _ (Or.inl (by decide)))).trans ((fu5 103 v127.toNatClampNeg rfl).1))))).symm.trans ev133)
                have rv133 := n_rng v133
                refine r_iald (n := 1700) (lo := (-2147483648)) (hi := 2147483647) C v133 rfl (by decide) rfl rfl ⟨by omega, by omega⟩ (by decide) ev133 rfl rfl (oDec_at oX12_goesOn 43 rfl) (fun _ _ => ?_)
                have hv0 := oTop_of (s := u119) (i := v127) ev133 (by omega)
                refine r_bipush C (oDec_at oX12_goesOn 44 rfl) (v := k20) (by rw [qk20]; rfl) ?_
                refine r_icmp_eq C 0 (oDec_at oX12_goesOn 45 rfl) (by decide) (fun cd134 => ?_) (fun cd134 => ?_)
                · skip
                  have lk135 : (((pI (pI u119 71 47 v127) 71 48 v130)).1 71 5).toInt = v1.toInt := congrArg Int32.toInt (((pI_ne (a := 71) (b := 5) (c := 71) (k := 48) _ _ (Or.inr (by decide)))).trans (((pI_ne (a := 71) (b := 5) (c := 71) (k := 47) _ _ (Or.inr (by decide)))).trans (((fu119 71 5 rfl).1).trans (((pI_ne (a := 71) (b := 5) (c := 71) (k := 2) _ _ (Or.inr (by decide)))).trans (((fu5 71 5 rfl).1).trans (ev1))))))
                  have lk136 : (((pI (pI u119 71 47 v127) 71 48 v130)).1 71 48).toInt = v130.toInt := congrArg Int32.toInt ((pI_self _ _ _ _))
                  have lk137 : (((pI (pI u119 71 47 v127) 71 48 v130)).1 71 2).toInt = v110.toInt := congrArg Int32.toInt (((pI_ne (a := 71) (b := 2) (c := 71) (k := 48) _ _ (Or.inr (by decide)))).trans (((pI_ne (a := 71) (b := 2) (c := 71) (k := 47) _ _ (Or.inr (by decide)))).trans (((fu119 71 2 rfl).1).trans ((pI_self _ _ _ _)))))
                  have lk138 : (((pI (pI u119 71 47 v127) 71 48 v130)).1 71 45).toInt = (u119.1 71 45).toInt := congrArg Int32.toInt (((pI_ne (a := 71) (b := 45) (c := 71) (k := 48) _ _ (Or.inr (by decide)))).trans ((pI_ne (a := 71) (b := 45) (c := 71) (k := 47) _ _ (Or.inr (by decide)))))
                  have lk139 : (((pI (pI u119 71 47 v127) 71 48 v130)).1 71 47).toInt = v127.toInt := congrArg Int32.toInt (((pI_ne (a := 71) (b := 47) (c := 71) (k := 48) _ _ (Or.inr (by decide)))).trans ((pI_self _ _ _ _)))
                  have lk140 : (((pI (pI u119 71 47 v127) 71 48 v130)).1 71 2).toInt = v110.toInt := congrArg Int32.toInt (((pI_ne (a := 71) (b := 2) (c := 71) (k := 48) _ _ (Or.inr (by decide)))).trans (((pI_ne (a := 71) (b := 2) (c := 71) (k := 47) _ _ (Or.inr (by decide)))).trans (((fu119 71 2 rfl).1).trans ((pI_self _ _ _ _)))))
                  have lk141 : (((pI (pI u119 71 47 v127) 71 48 v130)).1 71 55).toInt = (t.1 71 55).toInt := congrArg Int32.toInt (((pI_ne (a := 71) (b := 55) (c := 71) (k := 48) _ _ (Or.inr (by decide)))).trans (((pI_ne (a := 71) (b := 55) (c := 71) (k := 47) _ _ (Or.inr (by decide)))).trans (((fu119 71 55 rfl).1).trans (((pI_ne (a := 71) (b := 55) (c := 71) (k := 2) _ _ (Or.inr (by decide)))).trans ((fu5 71 55 rfl).1)))))
                  have lk142 : (((pI (pI u119 71 47 v127) 71 48 v130)).1 71 5).toInt = v1.toInt := congrArg Int32.toInt (((pI_ne (a := 71) (b := 5) (c := 71) (k := 48) _ _ (Or.inr (by decide)))).trans (((pI_ne (a := 71) (b := 5) (c := 71) (k := 47) _ _ (Or.inr (by decide)))).trans (((fu119 71 5 rfl).1).trans (((pI_ne (a := 71) (b := 5) (c := 71) (k := 2) _ _ (Or.inr (by decide)))).trans (((fu5 71 5 rfl).1).trans (ev1))))))
                  have lk143 : (((pI (pI u119 71 47 v127) 71 48 v130)).1 71 6).toInt = (t.1 71 6).toInt := congrArg Int32.toInt (((pI_ne (a := 71) (b := 6) (c := 71) (k := 48) _ _ (Or.inr (by decide)))).trans (((pI_ne (a := 71) (b := 6) (c := 71) (k := 47) _ _ (Or.inr (by decide)))).trans (((fu119 71 6 rfl).1).trans (((pI_ne (a := 71) (b := 6) (c := 71) (k := 2) _ _ (Or.inr (by decide)))).trans ((fu5 71 6 rfl).1)))))
                  have lk144 : (((pI (pI u119 71 47 v127) 71 48 v130)).1 71 2).toInt = v110.toInt := congrArg Int32.toInt (((pI_ne (a := 71) (b := 2) (c := 71) (k := 48) _ _ (Or.inr (by decide)))).trans (((pI_ne (a := 71) (b := 2) (c := 71) (k := 47) _ _ (Or.inr (by decide)))).trans (((fu119 71 2 rfl).1).trans ((pI_self _ _ _ _)))))
                  exact (ih (n - 1) (by omega)).1 ((pI (pI u119 71 47 v127) 71 48 v130))   (by first | exact (by assumption) | exact oQ_pop pu119_0 (by omega) (by omega) (by omega) (by omega)) (by omega) (by omega) (by omega) (by omega) (by omega) hq131 (oqZ_fr (oFr_oneI (q := 12) (m := 48) rfl (by rfl)) rfl (oqZ_fr (oFr_oneI (q := 12) (m := 47) rfl (by rfl)) rfl (oqZ_fr fu119 rfl (oqZ_fr (oFr_oneI (q := 12) (m := 2) rfl (by rfl)) rfl (oqZ_fr fu5 rfl iv7))))) (by omega) (by omega)
                · skip
                  have hq145 : oQ b (x + 1 + 1) ((pI (pI u119 71 47 v127) 71 48 v130)) := oQ_popN pu119_0 (by omega) (by omega) (by omega) (by omega)
                  refine r_aload_n C (j := 0) (oDec_at oX12_goesOn 46 rfl) rfl rfl ?_
                  refine r_aload_n C (j := 0) (oDec_at oX12_goesOn 47 rfl) rfl rfl ?_
                  refine r_getF (k := 46) (b := 103) C oCl12 rfl (by decide) flX12_111 rfl rfl rfl (oDec_at oX12_goesOn 48 rfl) ?_
                  refine r_aload_n C (j := 0) (oDec_at oX12_goesOn 49 rfl) rfl rfl ?_
                  refine r_geti (k := 47) (lo := 0) (hi := 1700) C v127 oCl12 rfl (by decide) flX12_277 rfl rfl (((pI_ne (a := 71) (b := 47) (c := 71) (k := 48) _ _ (Or.inr (by decide)))).trans ((pI_self _ _ _ _))) rfl rfl (oDec_at oX12_goesOn 50 rfl) (fun _ _ => ?_)
                  refine r_iald (n := 1700) (lo := (-2147483648)) (hi := 2147483647) C v133 rfl (by decide) rfl rfl ⟨by omega, by omega⟩ (by decide) (ev133) rfl rfl (oDec_at oX12_goesOn 51 rfl) (fun _ _ => ?_)
                  refine r_pc C 101 rfl ?_
                  refine r_bipush C (oDec_at oX12_goesOn 52 rfl) (v := k23) (by rw [qk23]; rfl) ?_
                  refine r_icmp_ne C 110 (oDec_at oX12_goesOn 53 rfl) (by decide) (fun cd147 => ?_) (fun cd147 => ?_)
                  · skip
                    refine r_bipush C (oDec_at oX12_goesOn 56 rfl) (v := k6) (by rw [qk6]; rfl) ?_
                    have lk148 : (((pI (pI u119 71 47 v127) 71 48 v130)).1 71 45).toInt = (u119.1 71 45).toInt := congrArg Int32.toInt (((pI_ne (a := 71) (b := 45) (c := 71) (k := 48) _ _ (Or.inr (by decide)))).trans ((pI_ne (a := 71) (b := 45) (c := 71) (k := 47) _ _ (Or.inr (by decide)))))
                    have lk149 : (((pI (pI u119 71 47 v127) 71 48 v130)).1 71 45).toInt = (u119.1 71 45).toInt := congrArg Int32.toInt (((pI_ne (a := 71) (b := 45) (c := 71) (k := 48) _ _ (Or.inr (by decide)))).trans ((pI_ne (a := 71) (b := 45) (c := 71) (k := 47) _ _ (Or.inr (by decide)))))
                    have lk150 : (((pI (pI u119 71 47 v127) 71 48 v130)).1 71 45).toInt = (u119.1 71 45).toInt := congrArg Int32.toInt (((pI_ne (a := 71) (b := 45) (c := 71) (k := 48) _ _ (Or.inr (by decide)))).trans ((pI_ne (a := 71) (b := 45) (c := 71) (k := 47) _ _ (Or.inr (by decide)))))
                    refine r_callVv C oCl12 rfl miX12_lay mlX12_280 (ct_X12_lay l E ((pI (pI u119 71 47 v127) 71 48 v130)) k6 (by omega)) (by decide) rfl rfl rfl (Nat.le_of_ble_eq_true rfl) (oDec_at oX12_goesOn 57 rfl) (fun u151 pu151 fu151 => ?_)
                    try dsimp only at pu151
                    try simp only [lk149, lk150] at pu151
                    obtain ⟨pu151_0, pu151_1⟩ := pu151
                    have hq153 : oQ b (x + 1) (u151) := oQ_jn hq145 pu151_0 (by omega) (by omega) (by omega)
                    refine r_goto C (tgt := 0) (oDec_at oX12_goesOn 58 rfl) (by decide) ?_
                    have lk154 : ((u151).1 71 5).toInt = v1.toInt := congrArg Int32.toInt (((fu151 71 5 rfl).1).trans (((pI_ne (a := 71) (b := 5) (c := 71) (k := 48) _ _ (Or.inr (by decide)))).trans (((pI_ne (a := 71) (b := 5) (c := 71) (k := 47) _ _ (Or.inr (by decide)))).trans (((fu119 71 5 rfl).1).trans (((pI_ne (a := 71) (b := 5) (c := 71) (k := 2) _ _ (Or.inr (by decide)))).trans (((fu5 71 5 rfl).1).trans (ev1)))))))
                    have lk155 : ((u151).1 71 48).toInt = v130.toInt := congrArg Int32.toInt (((fu151 71 48 rfl).1).trans ((pI_self _ _ _ _)))
                    have lk156 : ((u151).1 71 2).toInt = v110.toInt := congrArg Int32.toInt (((fu151 71 2 rfl).1).trans (((pI_ne (a := 71) (b := 2) (c := 71) (k := 48) _ _ (Or.inr (by decide)))).trans (((pI_ne (a := 71) (b := 2) (c := 71) (k := 47) _ _ (Or.inr (by decide)))).trans (((fu119 71 2 rfl).1).trans ((pI_self _ _ _ _))))))
                    have lk157 : ((u151).1 71 47).toInt = v127.toInt := congrArg Int32.toInt (((fu151 71 47 rfl).1).trans (((pI_ne (a := 71) (b := 47) (c := 71) (k := 48) _ _ (Or.inr (by decide)))).trans ((pI_self _ _ _ _))))
                    have lk158 : ((u151).1 71 2).toInt = v110.toInt := congrArg Int32.toInt (((fu151 71 2 rfl).1).trans (((pI_ne (a := 71) (b := 2) (c := 71) (k := 48) _ _ (Or.inr (by decide)))).trans (((pI_ne (a := 71) (b := 2) (c := 71) (k := 47) _ _ (Or.inr (by decide)))).trans (((fu119 71 2 rfl).1).trans ((pI_self _ _ _ _))))))
                    have lk159 : ((u151).1 71 55).toInt = (t.1 71 55).toInt := congrArg Int32.toInt (((fu151 71 55 rfl).1).trans (((pI_ne (a := 71) (b := 55) (c := 71) (k := 48) _ _ (Or.inr (by decide)))).trans (((pI_ne (a := 71) (b := 55) (c := 71) (k := 47) _ _ (Or.inr (by decide)))).trans (((fu119 71 55 rfl).1).trans (((pI_ne (a := 71) (b := 55) (c := 71) (k := 2) _ _ (Or.inr (by decide)))).trans ((fu5 71 55 rfl).1))))))
                    have lk160 : ((u151).1 71 5).toInt = v1.toInt := congrArg Int32.toInt (((fu151 71 5 rfl).1).trans (((pI_ne (a := 71) (b := 5) (c := 71) (k := 48) _ _ (Or.inr (by decide)))).trans (((pI_ne (a := 71) (b := 5) (c := 71) (k := 47) _ _ (Or.inr (by decide)))).trans (((fu119 71 5 rfl).1).trans (((pI_ne (a := 71) (b := 5) (c := 71) (k := 2) _ _ (Or.inr (by decide)))).trans (((fu5 71 5 rfl).1).trans (ev1)))))))
                    have lk161 : ((u151).1 71 6).toInt = (t.1 71 6).toInt := congrArg Int32.toInt (((fu151 71 6 rfl).1).trans (((pI_ne (a := 71) (b := 6) (c := 71) (k := 48) _ _ (Or.inr (by decide)))).trans (((pI_ne (a := 71) (b := 6) (c := 71) (k := 47) _ _ (Or.inr (by decide)))).trans (((fu119 71 6 rfl).1).trans (((pI_ne (a := 71) (b := 6) (c := 71) (k := 2) _ _ (Or.inr (by decide)))).trans ((fu5 71 6 rfl).1))))))
                    have lk162 : ((u151).1 71 2).toInt = v110.toInt := congrArg Int32.toInt (((fu151 71 2 rfl).1).trans (((pI_ne (a := 71) (b := 2) (c := 71) (k := 48) _ _ (Or.inr (by decide)))).trans (((pI_ne (a := 71) (b := 2) (c := 71) (k := 47) _ _ (Or.inr (by decide)))).trans (((fu119 71 2 rfl).1).trans ((pI_self _ _ _ _))))))
                    exact (ih (n - 1) (by omega)).1 (u151)   (by first | exact hq153 | exact oQ_pop pu119_0 (by omega) (by omega) (by omega) (by omega)) (by omega) (by omega) (by omega) (by omega) (by omega) (oqJ_fr fu151 rfl hq131) (oqZ_fr fu151 rfl (oqZ_fr (oFr_oneI (q := 12) (m := 48) rfl (by rfl)) rfl (oqZ_fr (oFr_oneI (q := 12) (m := 47) rfl (by rfl)) rfl (oqZ_fr fu119 rfl (oqZ_fr (oFr_oneI (q := 12) (m := 2) rfl (by rfl)) rfl (oqZ_fr fu5 rfl iv7)))))) (by omega) (by omega)
                  · skip
                    refine r_iconst C (oDec_at oX12_goesOn 54 rfl) (v := k5) (by rw [qk5]; rfl) ?_
                    refine r_goto C (tgt := 112) (oDec_at oX12_goesOn 55 rfl) (by decide) ?_
                    have lk163 : (((pI (pI u119 71 47 v127) 71 48 v130)).1 71 45).toInt = (u119.1 71 45).toInt := congrArg Int32.toInt (((pI_ne (a := 71) (b := 45) (c := 71) (k := 48) _ _ (Or.inr (by decide)))).trans ((pI_ne (a := 71) (b := 45) (c := 71) (k := 47) _ _ (Or.inr (by decide)))))
                    have lk164 : (((pI (pI u119 71 47 v127) 71 48 v130)).1 71 45).toInt = (u119.1 71 45).toInt := congrArg Int32.toInt (((pI_ne (a := 71) (b := 45) (c := 71) (k := 48) _ _ (Or.inr (by decide)))).trans ((pI_ne (a := 71) (b := 45) (c := 71) (k := 47) _ _ (Or.inr (by decide)))))
                    have lk165 : (((pI (pI u119 71 47 v127) 71 48 v130)).1 71 45).toInt = (u119.1 71 45).toInt := congrArg Int32.toInt (((pI_ne (a := 71) (b := 45) (c := 71) (k := 48) _ _ (Or.inr (by decide)))).trans ((pI_ne (a := 71) (b := 45) (c := 71) (k := 47) _ _ (Or.inr (by decide)))))
                    refine r_callVv C oCl12 rfl miX12_lay mlX12_280 (ct_X12_lay l E ((pI (pI u119 71 47 v127) 71 48 v130)) k5 (by omega)) (by decide) rfl rfl rfl (Nat.le_of_ble_eq_true rfl) (oDec_at oX12_goesOn 57 rfl) (fun u166 pu166 fu166 => ?_)
                    try dsimp only at pu166
                    try simp only [lk164, lk165] at pu166
                    obtain ⟨pu166_0, pu166_1⟩ := pu166
                    have hq168 : oQ b (x + 1) (u166) := oQ_jn hq145 pu166_0 (by omega) (by omega) (by omega)
                    refine r_goto C (tgt := 0) (oDec_at oX12_goesOn 58 rfl) (by decide) ?_
                    have lk169 : ((u166).1 71 5).toInt = v1.toInt := congrArg Int32.toInt (((fu166 71 5 rfl).1).trans (((pI_ne (a := 71) (b := 5) (c := 71) (k := 48) _ _ (Or.inr (by decide)))).trans (((pI_ne (a := 71) (b := 5) (c := 71) (k := 47) _ _ (Or.inr (by decide)))).trans (((fu119 71 5 rfl).1).trans (((pI_ne (a := 71) (b := 5) (c := 71) (k := 2) _ _ (Or.inr (by decide)))).trans (((fu5 71 5 rfl).1).trans (ev1)))))))
                    have lk170 : ((u166).1 71 48).toInt = v130.toInt := congrArg Int32.toInt (((fu166 71 48 rfl).1).trans ((pI_self _ _ _ _)))
                    have lk171 : ((u166).1 71 2).toInt = v110.toInt := congrArg Int32.toInt (((fu166 71 2 rfl).1).trans (((pI_ne (a := 71) (b := 2) (c := 71) (k := 48) _ _ (Or.inr (by decide)))).trans (((pI_ne (a := 71) (b := 2) (c := 71) (k := 47) _ _ (Or.inr (by decide)))).trans (((fu119 71 2 rfl).1).trans ((pI_self _ _ _ _))))))
                    have lk172 : ((u166).1 71 47).toInt = v127.toInt := congrArg Int32.toInt (((fu166 71 47 rfl).1).trans (((pI_ne (a := 71) (b := 47) (c := 71) (k := 48) _ _ (Or.inr (by decide)))).trans ((pI_self _ _ _ _))))
                    have lk173 : ((u166).1 71 2).toInt = v110.toInt := congrArg Int32.toInt (((fu166 71 2 rfl).1).trans (((pI_ne (a := 71) (b := 2) (c := 71) (k := 48) _ _ (Or.inr (by decide)))).trans (((pI_ne (a := 71) (b := 2) (c := 71) (k := 47) _ _ (Or.inr (by decide)))).trans (((fu119 71 2 rfl).1).trans ((pI_self _ _ _ _))))))
                    have lk174 : ((u166).1 71 55).toInt = (t.1 71 55).toInt := congrArg Int32.toInt (((fu166 71 55 rfl).1).trans (((pI_ne (a := 71) (b := 55) (c := 71) (k := 48) _ _ (Or.inr (by decide)))).trans (((pI_ne (a := 71) (b := 55) (c := 71) (k := 47) _ _ (Or.inr (by decide)))).trans (((fu119 71 55 rfl).1).trans (((pI_ne (a := 71) (b := 55) (c := 71) (k := 2) _ _ (Or.inr (by decide)))).trans ((fu5 71 55 rfl).1))))))
                    have lk175 : ((u166).1 71 5).toInt = v1.toInt := congrArg Int32.toInt (((fu166 71 5 rfl).1).trans (((pI_ne (a := 71) (b := 5) (c := 71) (k := 48) _ _ (Or.inr (by decide)))).trans (((pI_ne (a := 71) (b := 5) (c := 71) (k := 47) _ _ (Or.inr (by decide)))).trans (((fu119 71 5 rfl).1).trans (((pI_ne (a := 71) (b := 5) (c := 71) (k := 2) _ _ (Or.inr (by decide)))).trans (((fu5 71 5 rfl).1).trans (ev1)))))))
                    have lk176 : ((u166).1 71 6).toInt = (t.1 71 6).toInt := congrArg Int32.toInt (((fu166 71 6 rfl).1).trans (((pI_ne (a := 71) (b := 6) (c := 71) (k := 48) _ _ (Or.inr (by decide)))).trans (((pI_ne (a := 71) (b := 6) (c := 71) (k := 47) _ _ (Or.inr (by decide)))).trans (((fu119 71 6 rfl).1).trans (((pI_ne (a := 71) (b := 6) (c := 71) (k := 2) _ _ (Or.inr (by decide)))).trans ((fu5 71 6 rfl).1))))))
                    have lk177 : ((u166).1 71 2).toInt = v110.toInt := congrArg Int32.toInt (((fu166 71 2 rfl).1).trans (((pI_ne (a := 71) (b := 2) (c := 71) (k := 48) _ _ (Or.inr (by decide)))).trans (((pI_ne (a := 71) (b := 2) (c := 71) (k := 47) _ _ (Or.inr (by decide)))).trans (((fu119 71 2 rfl).1).trans ((pI_self _ _ _ _))))))
                    exact (ih (n - 1) (by omega)).1 (u166)   (by first | exact hq168 | exact oQ_pop pu119_0 (by omega) (by omega) (by omega) (by omega)) (by omega) (by omega) (by omega) (by omega) (by omega) (oqJ_fr fu166 rfl hq131) (oqZ_fr fu166 rfl (oqZ_fr (oFr_oneI (q := 12) (m := 48) rfl (by rfl)) rfl (oqZ_fr (oFr_oneI (q := 12) (m := 47) rfl (by rfl)) rfl (oqZ_fr fu119 rfl (oqZ_fr (oFr_oneI (q := 12) (m := 2) rfl (by rfl)) rfl (oqZ_fr fu5 rfl iv7)))))) (by omega) (by omega)
              · skip
                refine r_aload_n C (j := 0) (oDec_at oX12_goesOn 15 rfl) rfl rfl ?_
                refine r_callVi C oCl12 rfl miX12_mark mlX12_304 (ct_X12_mark l E (u5)  ) (by decide) rfl rfl rfl (Nat.le_of_ble_eq_true rfl) (oDec_at oX12_goesOn 16 rfl) (fun r179 u178 pu178 fu178 => ?_)
                try dsimp only at pu178
                have hxu178 := oFr_nil fu178; subst hxu178
                have rr179 := n_rng r179
                have lk180 : ((u5).1 71 47).toInt = (t.1 71 47).toInt := congrArg Int32.toInt ((fu5 71 47 rfl).1)
                have lk181 : ((u5).1 71 55).toInt = (t.1 71 55).toInt := congrArg Int32.toInt ((fu5 71 55 rfl).1)
                have lk182 : ((u5).1 71 5).toInt = v1.toInt := congrArg Int32.toInt (((fu5 71 5 rfl).1).trans (ev1))
                have hm3 := oqHs_mk (oQ_fr fu5 rfl iv0) (by omega) pu178 (by omega) (by omega) (by omega)
                have hmu := oMk_u pu97 pu178
                refine r_bipush C (oDec_at oX12_goesOn 17 rfl) (v := k24) (by rw [qk24]; rfl) ?_
                refine r_icmp_ne C 118 (oDec_at oX12_goesOn 18 rfl) (by decide) (fun cd183 => ?_) (fun cd183 => ?_)
                · skip
                  have lk184 : ((u5).1 71 5).toInt = v1.toInt := congrArg Int32.toInt (((fu5 71 5 rfl).1).trans (ev1))
                  have lk185 : ((u5).1 71 48).toInt = (t.1 71 48).toInt := congrArg Int32.toInt ((fu5 71 48 rfl).1)
                  have lk186 : ((u5).1 71 45).toInt = (t.1 71 45).toInt := congrArg Int32.toInt ((fu5 71 45 rfl).1)
                  have lk187 : ((u5).1 71 47).toInt = (t.1 71 47).toInt := congrArg Int32.toInt ((fu5 71 47 rfl).1)
                  have lk188 : ((u5).1 71 55).toInt = (t.1 71 55).toInt := congrArg Int32.toInt ((fu5 71 55 rfl).1)
                  have lk189 : ((u5).1 71 5).toInt = v1.toInt := congrArg Int32.toInt (((fu5 71 5 rfl).1).trans (ev1))
                  have lk190 : ((u5).1 71 6).toInt = (t.1 71 6).toInt := congrArg Int32.toInt ((fu5 71 6 rfl).1)
                  exact (ih (n - 1) (by omega)).2.1 (u5)   (oQ_fr fu5 rfl iv0) (by omega) (by omega) (by omega) (by omega) (by omega) hq7 (oqZ_fr fu5 rfl iv7) (by omega) (by omega) (by omega) (by omega)
                · skip
                  have lk191 : ((u5).1 71 4).toInt = (t.1 71 4).toInt := congrArg Int32.toInt ((fu5 71 4 rfl).1)
                  have lk192 : ((u5).1 71 5).toInt = v1.toInt := congrArg Int32.toInt (((fu5 71 5 rfl).1).trans (ev1))
                  have lk193 : ((u5).1 71 48).toInt = (t.1 71 48).toInt := congrArg Int32.toInt ((fu5 71 48 rfl).1)
                  have lk194 : ((u5).1 71 47).toInt = (t.1 71 47).toInt := congrArg Int32.toInt ((fu5 71 47 rfl).1)
                  have hq195 : oMk (r179.toInt) (u5) := pu178
                  refine r_aload_n C (j := 0) (oDec_at oX12_goesOn 19 rfl) rfl rfl ?_
                  refine r_dup C (oDec_at oX12_goesOn 20 rfl) rfl ?_
                  obtain ⟨v196, ev196⟩ : ∃ z : Int32, (u5).1 71 2 = z := ⟨_, rfl⟩
                  have gv196 : (u5.1 71 2).toInt = v196.toInt := congrArg Int32.toInt (ev196)
                  refine r_geti (k := 2) (lo := 0) (hi := 1600) C v196 oCl12 rfl (by decide) flX12_179 rfl rfl (ev196) rfl rfl (oDec_at oX12_goesOn 21 rfl) (fun b197 b197h => ?_)
                  refine r_iconst C (oDec_at oX12_goesOn 22 rfl) (v := k1) (by rw [qk1]; rfl) ?_
                  obtain ⟨v198, ev198⟩ : ∃ z : Int32, z = v196 + k1 := ⟨_, rfl⟩
                  have hv198 : v198.toInt = v196.toInt + k1.toInt := n_add ev198 (by omega) (by omega)
                  refine r_iadd C v198 (oDec_at oX12_goesOn 23 rfl) ev198 ?_
                  refine r_puti (k := 2) (lo := 0) (hi := 1600) C oCl12 rfl (by decide) flX12_179 rfl rfl rfl rfl rfl rfl rfl rfl ⟨by omega, by omega⟩ (oDec_at oX12_goesOn 24 rfl) ?_
                  refine r_pc C 53 rfl ?_
                  have hq199 : oqK b (oqSg ((u5).1 103) b (((u5).1 71 47).toNatClampNeg - b)) ((pI u5 71 2 v198)) := rfl
                  refine r_aload_n C (j := 0) (oDec_at oX12_goesOn 25 rfl) rfl rfl ?_
                  have lk200 : (((pI u5 71 2 v198)).1 71 55).toInt = (t.1 71 55).toInt := congrArg Int32.toInt (((pI_ne (a := 71) (b := 55) (c := 71) (k := 2) _ _ (Or.inr (by decide)))).trans ((fu5 71 55 rfl).1))
                  have lk201 : (((pI u5 71 2 v198)).1 71 5).toInt = v1.toInt := congrArg Int32.toInt (((pI_ne (a := 71) (b := 5) (c := 71) (k := 2) _ _ (Or.inr (by decide)))).trans (((fu5 71 5 rfl).1).trans (ev1)))
                  have lk202 : (((pI u5 71 2 v198)).1 71 45).toInt = (t.1 71 45).toInt := congrArg Int32.toInt (((pI_ne (a := 71) (b := 45) (c := 71) (k := 2) _ _ (Or.inr (by decide)))).trans ((fu5 71 45 rfl).1))
                  have lk203 : (((pI u5 71 2 v198)).1 71 47).toInt = (t.1 71 47).toInt := congrArg Int32.toInt (((pI_ne (a := 71) (b := 47) (c := 71) (k := 2) _ _ (Or.inr (by decide)))).trans ((fu5 71 47 rfl).1))
                  have lk204 : (((pI u5 71 2 v198)).1 71 45).toInt = (t.1 71 45).toInt := congrArg Int32.toInt (((pI_ne (a := 71) (b := 45) (c := 71) (k := 2) _ _ (Or.inr (by decide)))).trans ((fu5 71 45 rfl).1))
                  have lk205 : (((pI u5 71 2 v198)).1 71 47).toInt = (t.1 71 47).toInt := congrArg Int32.toInt (((pI_ne (a := 71) (b := 47) (c := 71) (k := 2) _ _ (Or.inr (by decide)))).trans ((fu5 71 47 rfl).1))
                  have lk206 : (((pI u5 71 2 v198)).1 71 47).toInt = (t.1 71 47).toInt := congrArg Int32.toInt (((pI_ne (a := 71) (b := 47) (c := 71) (k := 2) _ _ (Or.inr (by decide)))).trans ((fu5 71 47 rfl).1))
                  refine r_callVv C oCl12 rfl miX12_dropsToMark mlX12_307 (ct5_X12_dropsToMark l E ((pI u5 71 2 v198))  (b) (x + 1) (r179.toInt) (oqSg ((u5).1 103) b (((u5).1 71 47).toNatClampNeg - b)) (oQ_fr (oFr_oneI (q := 12) (m := 2) rfl (by rfl)) rfl (oQ_fr fu5 rfl iv0)) (oMk_fr (oFr_oneI (q := 12) (m := 2) rfl (by rfl)) rfl hq195) (by omega) (by omega) (by omega) (by omega) hq199) (by decide) rfl rfl rfl (Nat.le_of_ble_eq_true rfl) (oDec_at oX12_goesOn 26 rfl) (fun u207 pu207 fu207 => ?_)
                  try dsimp only at pu207
                  try simp only [lk200, lk201, lk202, lk203, lk204, lk205, lk206] at pu207
                  obtain ⟨pu207_0, pu207_1, pu207_2, pu207_3, pu207_4⟩ := pu207
                  have lk209 : ((u207).1 71 5).toInt = v1.toInt := congrArg Int32.toInt (((fu207 71 5 rfl).1).trans (((pI_ne (a := 71) (b := 5) (c := 71) (k := 2) _ _ (Or.inr (by decide)))).trans (((fu5 71 5 rfl).1).trans (ev1))))
                  have lk210 : ((u207).1 71 48).toInt = (t.1 71 48).toInt := congrArg Int32.toInt (((fu207 71 48 rfl).1).trans (((pI_ne (a := 71) (b := 48) (c := 71) (k := 2) _ _ (Or.inr (by decide)))).trans ((fu5 71 48 rfl).1)))
                  have lk211 : ((u207).1 71 2).toInt = v198.toInt := congrArg Int32.toInt (((fu207 71 2 rfl).1).trans ((pI_self _ _ _ _)))
                  have lk212 : ((u207).1 71 4).toInt = (t.1 71 4).toInt := congrArg Int32.toInt (((fu207 71 4 rfl).1).trans (((pI_ne (a := 71) (b := 4) (c := 71) (k := 2) _ _ (Or.inr (by decide)))).trans ((fu5 71 4 rfl).1)))
                  have htp := pu207_3 (by omega)
                  have ho1 := oQ_opn1 pu207_0 (by omega) (by omega) (by omega)
                  refine r_aload_n C (j := 0) (oDec_at oX12_goesOn 27 rfl) rfl rfl ?_
                  refine r_dup C (oDec_at oX12_goesOn 28 rfl) rfl ?_
                  obtain ⟨v213, ev213⟩ : ∃ z : Int32, (u207).1 71 47 = z := ⟨_, rfl⟩
                  have gv213 : (u207.1 71 47).toInt = v213.toInt := congrArg Int32.toInt (ev213)
                  refine r_geti (k := 47) (lo := 0) (hi := 1700) C v213 oCl12 rfl (by decide) flX12_277 rfl rfl (ev213) rfl rfl (oDec_at oX12_goesOn 29 rfl) (fun b214 b214h => ?_)
                  refine r_iconst C (oDec_at oX12_goesOn 30 rfl) (v := k1) (by rw [qk1]; rfl) ?_
                  refine r_pc C 63 rfl ?_
                  obtain ⟨v215, ev215⟩ : ∃ z : Int32, z = v213 - k1 := ⟨_, rfl⟩
                  have hv215 : v215.toInt = v213.toInt - k1.toInt := n_sub ev215 (by omega) (by omega)
                  refine r_isub C v215 (oDec_at oX12_goesOn 31 rfl) ev215 ?_
                  refine r_puti (k := 47) (lo := 0) (hi := 1700) C oCl12 rfl (by decide) flX12_277 rfl rfl rfl rfl rfl rfl rfl rfl ⟨by omega, by omega⟩ (oDec_at oX12_goesOn 32 rfl) ?_
                  refine r_aload_n C (j := 0) (oDec_at oX12_goesOn 33 rfl) rfl rfl ?_
                  refine r_dup C (oDec_at oX12_goesOn 34 rfl) rfl ?_
                  obtain ⟨v216, ev216⟩ : ∃ z : Int32, ((pI u207 71 47 v215)).1 71 48 = z := ⟨_, rfl⟩
                  have gv216 : (t.1 71 48).toInt = v216.toInt := congrArg Int32.toInt ((((pI_ne (a := 71) (b := 48) (c := 71) (k := 47) _ _ (Or.inr (by decide)))).trans (((fu207 71 48 rfl).1).trans (((pI_ne (a := 71) (b := 48) (c := 71) (k := 2) _ _ (Or.inr (by decide)))).trans ((fu5 71 48 rfl).1)))).symm.trans ev216)
                  have ggv216 : (((pI u207 71 47 v215)).1 71 48).toInt = v216.toInt := congrArg Int32.toInt ev216
                  refine r_geti (k := 48) (lo := (-1)) (hi := 7) C v216 oCl12 rfl (by decide) flX12_274 rfl rfl (ev216) rfl rfl (oDec_at oX12_goesOn 35 rfl) (fun b217 b217h => ?_)
                  refine r_iconst C (oDec_at oX12_goesOn 36 rfl) (v := k1) (by rw [qk1]; rfl) ?_
                  refine r_pc C 73 rfl ?_
                  obtain ⟨v218, ev218⟩ : ∃ z : Int32, z = v216 - k1 := ⟨_, rfl⟩
                  have hv218 : v218.toInt = v216.toInt - k1.toInt := n_sub ev218 (by omega) (by omega)
                  refine r_isub C v218 (oDec_at oX12_goesOn 37 rfl) ev218 ?_
                  refine r_puti (k := 48) (lo := (-1)) (hi := 7) C oCl12 rfl (by decide) flX12_274 rfl rfl rfl rfl rfl rfl rfl rfl ⟨by omega, by omega⟩ (oDec_at oX12_goesOn 38 rfl) ?_
                  have hq219 : oqJ g fp fq cz kx b 3 ((pI (pI u207 71 47 v215) 71 48 v218)) := oqJ_cl (s := u5) hq7 (by omega) hsk (by omega) (oFr_row fu207 (c := 103) rfl rfl) (by omega) (by omega) (by omega) (by omega) pu207_4 (by omega) (by omega) (by omega) (by omega)
                  refine r_aload_n C (j := 0) (oDec_at oX12_goesOn 39 rfl) rfl rfl ?_
                  refine r_getF (k := 46) (b := 103) C oCl12 rfl (by decide) flX12_111 rfl rfl rfl (oDec_at oX12_goesOn 40 rfl) ?_
                  refine r_aload_n C (j := 0) (oDec_at oX12_goesOn 41 rfl) rfl rfl ?_
                  refine r_geti (k := 47) (lo := 0) (hi := 1700) C v215 oCl12 rfl (by decide) flX12_277 rfl rfl (((pI_ne (a := 71) (b := 47) (c := 71) (k := 48) _ _ (Or.inr (by decide)))).trans ((pI_self _ _ _ _))) rfl rfl (oDec_at oX12_goesOn 42 rfl) (fun _ _ => ?_)
                  refine r_pc C 85 rfl ?_
                  obtain ⟨v221, ev221⟩ : ∃ z : Int32, ((pI (pI u207 71 47 v215) 71 48 v218)).1 103 v215.toNatClampNeg = z := ⟨_, rfl⟩
                  have av221 : t.1 103 v215.toNatClampNeg = v221 := (((pI_ne (a := 103) (b := v215.toNatClampNeg) (c := 71) _ _ (Or.inl (by decide)))).trans (((pI_ne (a := 103) (b := v215.toNatClampNeg) (c := 71) _ _ (Or.inl (by decide)))).trans (((fu207 103 v215.toNatClampNeg rfl).1).trans (((pI_ne (a := 103) (b := v215.toNatClampNeg) (c := 71) _ _ (Or.inl (by decide)))).trans ((fu5 103 v215.toNatClampNeg rfl).1))))).symm.trans ev221
                  have gv221 : (t.1 103 v215.toNatClampNeg).toInt = v221.toInt := congrArg Int32.toInt ((((pI_ne (a := 103) (b := v215.toNatClampNeg) (c := 71) _ _ (Or.inl (by decide)))).trans (((pI_ne (a := 103) (b := v215.toNatClampNeg) (c := 71) _ _ (Or.inl (by decide)))).trans (((fu207 103 v215.toNatClampNeg rfl).1).trans (((pI_ne (a := 103) (b := v215.toNatClampNeg) (c := 71) _ _ (Or.inl (by decide)))).trans ((fu5 103 v215.toNatClampNeg rfl).1))))).symm.trans ev221)
                  have rv221 := n_rng v221
                  refine r_iald (n := 1700) (lo := (-2147483648)) (hi := 2147483647) C v221 rfl (by decide) rfl rfl ⟨by omega, by omega⟩ (by decide) ev221 rfl rfl (oDec_at oX12_goesOn 43 rfl) (fun _ _ => ?_)
                  have hv0 := oTop_of (s := u207) (i := v215) ev221 (by omega)
                  refine r_bipush C (oDec_at oX12_goesOn 44 rfl) (v := k20) (by rw [qk20]; rfl) ?_
                  refine r_icmp_eq C 0 (oDec_at oX12_goesOn 45 rfl) (by decide) (fun cd222 => ?_) (fun cd222 => ?_)
                  · skip
                    have lk223 : (((pI (pI u207 71 47 v215) 71 48 v218)).1 71 5).toInt = v1.toInt := congrArg Int32.toInt (((pI_ne (a := 71) (b := 5) (c := 71) (k := 48) _ _ (Or.inr (by decide)))).trans (((pI_ne (a := 71) (b := 5) (c := 71) (k := 47) _ _ (Or.inr (by decide)))).trans (((fu207 71 5 rfl).1).trans (((pI_ne (a := 71) (b := 5) (c := 71) (k := 2) _ _ (Or.inr (by decide)))).trans (((fu5 71 5 rfl).1).trans (ev1))))))
                    have lk224 : (((pI (pI u207 71 47 v215) 71 48 v218)).1 71 48).toInt = v218.toInt := congrArg Int32.toInt ((pI_self _ _ _ _))
                    have lk225 : (((pI (pI u207 71 47 v215) 71 48 v218)).1 71 2).toInt = v198.toInt := congrArg Int32.toInt (((pI_ne (a := 71) (b := 2) (c := 71) (k := 48) _ _ (Or.inr (by decide)))).trans (((pI_ne (a := 71) (b := 2) (c := 71) (k := 47) _ _ (Or.inr (by decide)))).trans (((fu207 71 2 rfl).1).trans ((pI_self _ _ _ _)))))
                    have lk226 : (((pI (pI u207 71 47 v215) 71 48 v218)).1 71 45).toInt = (u207.1 71 45).toInt := congrArg Int32.toInt (((pI_ne (a := 71) (b := 45) (c := 71) (k := 48) _ _ (Or.inr (by decide)))).trans ((pI_ne (a := 71) (b := 45) (c := 71) (k := 47) _ _ (Or.inr (by decide)))))
                    have lk227 : (((pI (pI u207 71 47 v215) 71 48 v218)).1 71 47).toInt = v215.toInt := congrArg Int32.toInt (((pI_ne (a := 71) (b := 47) (c := 71) (k := 48) _ _ (Or.inr (by decide)))).trans ((pI_self _ _ _ _)))
                    have lk228 : (((pI (pI u207 71 47 v215) 71 48 v218)).1 71 2).toInt = v198.toInt := congrArg Int32.toInt (((pI_ne (a := 71) (b := 2) (c := 71) (k := 48) _ _ (Or.inr (by decide)))).trans (((pI_ne (a := 71) (b := 2) (c := 71) (k := 47) _ _ (Or.inr (by decide)))).trans (((fu207 71 2 rfl).1).trans ((pI_self _ _ _ _)))))
                    have lk229 : (((pI (pI u207 71 47 v215) 71 48 v218)).1 71 55).toInt = (t.1 71 55).toInt := congrArg Int32.toInt (((pI_ne (a := 71) (b := 55) (c := 71) (k := 48) _ _ (Or.inr (by decide)))).trans (((pI_ne (a := 71) (b := 55) (c := 71) (k := 47) _ _ (Or.inr (by decide)))).trans (((fu207 71 55 rfl).1).trans (((pI_ne (a := 71) (b := 55) (c := 71) (k := 2) _ _ (Or.inr (by decide)))).trans ((fu5 71 55 rfl).1)))))
                    have lk230 : (((pI (pI u207 71 47 v215) 71 48 v218)).1 71 5).toInt = v1.toInt := congrArg Int32.toInt (((pI_ne (a := 71) (b := 5) (c := 71) (k := 48) _ _ (Or.inr (by decide)))).trans (((pI_ne (a := 71) (b := 5) (c := 71) (k := 47) _ _ (Or.inr (by decide)))).trans (((fu207 71 5 rfl).1).trans (((pI_ne (a := 71) (b := 5) (c := 71) (k := 2) _ _ (Or.inr (by decide)))).trans (((fu5 71 5 rfl).1).trans (ev1))))))
                    have lk231 : (((pI (pI u207 71 47 v215) 71 48 v218)).1 71 6).toInt = (t.1 71 6).toInt := congrArg Int32.toInt (((pI_ne (a := 71) (b := 6) (c := 71) (k := 48) _ _ (Or.inr (by decide)))).trans (((pI_ne (a := 71) (b := 6) (c := 71) (k := 47) _ _ (Or.inr (by decide)))).trans (((fu207 71 6 rfl).1).trans (((pI_ne (a := 71) (b := 6) (c := 71) (k := 2) _ _ (Or.inr (by decide)))).trans ((fu5 71 6 rfl).1)))))
                    have lk232 : (((pI (pI u207 71 47 v215) 71 48 v218)).1 71 2).toInt = v198.toInt := congrArg Int32.toInt (((pI_ne (a := 71) (b := 2) (c := 71) (k := 48) _ _ (Or.inr (by decide)))).trans (((pI_ne (a := 71) (b := 2) (c := 71) (k := 47) _ _ (Or.inr (by decide)))).trans (((fu207 71 2 rfl).1).trans ((pI_self _ _ _ _)))))
                    exact (ih (n - 1) (by omega)).1 ((pI (pI u207 71 47 v215) 71 48 v218))   (by first | exact (by assumption) | exact oQ_pop pu207_0 (by omega) (by omega) (by omega) (by omega)) (by omega) (by omega) (by omega) (by omega) (by omega) hq219 (oqZ_fr (oFr_oneI (q := 12) (m := 48) rfl (by rfl)) rfl (oqZ_fr (oFr_oneI (q := 12) (m := 47) rfl (by rfl)) rfl (oqZ_fr fu207 rfl (oqZ_fr (oFr_oneI (q := 12) (m := 2) rfl (by rfl)) rfl (oqZ_fr fu5 rfl iv7))))) (by omega) (by omega)
                  · skip
                    have hq233 : oQ b (x + 1 + 1) ((pI (pI u207 71 47 v215) 71 48 v218)) := oQ_popN pu207_0 (by omega) (by omega) (by omega) (by omega)
                    refine r_aload_n C (j := 0) (oDec_at oX12_goesOn 46 rfl) rfl rfl ?_
                    refine r_aload_n C (j := 0) (oDec_at oX12_goesOn 47 rfl) rfl rfl ?_
                    refine r_getF (k := 46) (b := 103) C oCl12 rfl (by decide) flX12_111 rfl rfl rfl (oDec_at oX12_goesOn 48 rfl) ?_
                    refine r_aload_n C (j := 0) (oDec_at oX12_goesOn 49 rfl) rfl rfl ?_
                    refine r_geti (k := 47) (lo := 0) (hi := 1700) C v215 oCl12 rfl (by decide) flX12_277 rfl rfl (((pI_ne (a := 71) (b := 47) (c := 71) (k := 48) _ _ (Or.inr (by decide)))).trans ((pI_self _ _ _ _))) rfl rfl (oDec_at oX12_goesOn 50 rfl) (fun _ _ => ?_)
                    refine r_iald (n := 1700) (lo := (-2147483648)) (hi := 2147483647) C v221 rfl (by decide) rfl rfl ⟨by omega, by omega⟩ (by decide) (ev221) rfl rfl (oDec_at oX12_goesOn 51 rfl) (fun _ _ => ?_)
                    refine r_pc C 101 rfl ?_
                    refine r_bipush C (oDec_at oX12_goesOn 52 rfl) (v := k23) (by rw [qk23]; rfl) ?_
                    refine r_icmp_ne C 110 (oDec_at oX12_goesOn 53 rfl) (by decide) (fun cd235 => ?_) (fun cd235 => ?_)
                    · skip
                      refine r_bipush C (oDec_at oX12_goesOn 56 rfl) (v := k6) (by rw [qk6]; rfl) ?_
                      have lk236 : (((pI (pI u207 71 47 v215) 71 48 v218)).1 71 45).toInt = (u207.1 71 45).toInt := congrArg Int32.toInt (((pI_ne (a := 71) (b := 45) (c := 71) (k := 48) _ _ (Or.inr (by decide)))).trans ((pI_ne (a := 71) (b := 45) (c := 71) (k := 47) _ _ (Or.inr (by decide)))))
                      have lk237 : (((pI (pI u207 71 47 v215) 71 48 v218)).1 71 45).toInt = (u207.1 71 45).toInt := congrArg Int32.toInt (((pI_ne (a := 71) (b := 45) (c := 71) (k := 48) _ _ (Or.inr (by decide)))).trans ((pI_ne (a := 71) (b := 45) (c := 71) (k := 47) _ _ (Or.inr (by decide)))))
                      have lk238 : (((pI (pI u207 71 47 v215) 71 48 v218)).1 71 45).toInt = (u207.1 71 45).toInt := congrArg Int32.toInt (((pI_ne (a := 71) (b := 45) (c := 71) (k := 48) _ _ (Or.inr (by decide)))).trans ((pI_ne (a := 71) (b := 45) (c := 71) (k := 47) _ _ (Or.inr (by decide)))))
                      refine r_callVv C oCl12 rfl miX12_lay mlX12_280 (ct_X12_lay l E ((pI (pI u207 71 47 v215) 71 48 v218)) k6 (by omega)) (by decide) rfl rfl rfl (Nat.le_of_ble_eq_true rfl) (oDec_at oX12_goesOn 57 rfl) (fun u239 pu239 fu239 => ?_)
                      try dsimp only at pu239
                      try simp only [lk237, lk238] at pu239
                      obtain ⟨pu239_0, pu239_1⟩ := pu239
                      have hq241 : oQ b (x + 1) (u239) := oQ_jn hq233 pu239_0 (by omega) (by omega) (by omega)
                      refine r_goto C (tgt := 0) (oDec_at oX12_goesOn 58 rfl) (by decide) ?_
                      have lk242 : ((u239).1 71 5).toInt = v1.toInt := congrArg Int32.toInt (((fu239 71 5 rfl).1).trans (((pI_ne (a := 71) (b := 5) (c := 71) (k := 48) _ _ (Or.inr (by decide)))).trans (((pI_ne (a := 71) (b := 5) (c := 71) (k := 47) _ _ (Or.inr (by decide)))).trans (((fu207 71 5 rfl).1).trans (((pI_ne (a := 71) (b := 5) (c := 71) (k := 2) _ _ (Or.inr (by decide)))).trans (((fu5 71 5 rfl).1).trans (ev1)))))))
                      have lk243 : ((u239).1 71 48).toInt = v218.toInt := congrArg Int32.toInt (((fu239 71 48 rfl).1).trans ((pI_self _ _ _ _)))
                      have lk244 : ((u239).1 71 2).toInt = v198.toInt := congrArg Int32.toInt (((fu239 71 2 rfl).1).trans (((pI_ne (a := 71) (b := 2) (c := 71) (k := 48) _ _ (Or.inr (by decide)))).trans (((pI_ne (a := 71) (b := 2) (c := 71) (k := 47) _ _ (Or.inr (by decide)))).trans (((fu207 71 2 rfl).1).trans ((pI_self _ _ _ _))))))
                      have lk245 : ((u239).1 71 47).toInt = v215.toInt := congrArg Int32.toInt (((fu239 71 47 rfl).1).trans (((pI_ne (a := 71) (b := 47) (c := 71) (k := 48) _ _ (Or.inr (by decide)))).trans ((pI_self _ _ _ _))))
                      have lk246 : ((u239).1 71 2).toInt = v198.toInt := congrArg Int32.toInt (((fu239 71 2 rfl).1).trans (((pI_ne (a := 71) (b := 2) (c := 71) (k := 48) _ _ (Or.inr (by decide)))).trans (((pI_ne (a := 71) (b := 2) (c := 71) (k := 47) _ _ (Or.inr (by decide)))).trans (((fu207 71 2 rfl).1).trans ((pI_self _ _ _ _))))))
                      have lk247 : ((u239).1 71 55).toInt = (t.1 71 55).toInt := congrArg Int32.toInt (((fu239 71 55 rfl).1).trans (((pI_ne (a := 71) (b := 55) (c := 71) (k := 48) _ _ (Or.inr (by decide)))).trans (((pI_ne (a := 71) (b := 55) (c := 71) (k := 47) _ _ (Or.inr (by decide)))).trans (((fu207 71 55 rfl).1).trans (((pI_ne (a := 71) (b := 55) (c := 71) (k := 2) _ _ (Or.inr (by decide)))).trans ((fu5 71 55 rfl).1))))))
                      have lk248 : ((u239).1 71 5).toInt = v1.toInt := congrArg Int32.toInt (((fu239 71 5 rfl).1).trans (((pI_ne (a := 71) (b := 5) (c := 71) (k := 48) _ _ (Or.inr (by decide)))).trans (((pI_ne (a := 71) (b := 5) (c := 71) (k := 47) _ _ (Or.inr (by decide)))).trans (((fu207 71 5 rfl).1).trans (((pI_ne (a := 71) (b := 5) (c := 71) (k := 2) _ _ (Or.inr (by decide)))).trans (((fu5 71 5 rfl).1).trans (ev1)))))))
                      have lk249 : ((u239).1 71 6).toInt = (t.1 71 6).toInt := congrArg Int32.toInt (((fu239 71 6 rfl).1).trans (((pI_ne (a := 71) (b := 6) (c := 71) (k := 48) _ _ (Or.inr (by decide)))).trans (((pI_ne (a := 71) (b := 6) (c := 71) (k := 47) _ _ (Or.inr (by decide)))).trans (((fu207 71 6 rfl).1).trans (((pI_ne (a := 71) (b := 6) (c := 71) (k := 2) _ _ (Or.inr (by decide)))).trans ((fu5 71 6 rfl).1))))))
                      have lk250 : ((u239).1 71 2).toInt = v198.toInt := congrArg Int32.toInt (((fu239 71 2 rfl).1).trans (((pI_ne (a := 71) (b := 2) (c := 71) (k := 48) _ _ (Or.inr (by decide)))).trans (((pI_ne (a := 71) (b := 2) (c := 71) (k := 47) _ _ (Or.inr (by decide)))).trans (((fu207 71 2 rfl).1).trans ((pI_self _ _ _ _))))))
                      exact (ih (n - 1) (by omega)).1 (u239)   (by first | exact hq241 | exact oQ_pop pu207_0 (by omega) (by omega) (by omega) (by omega)) (by omega) (by omega) (by omega) (by omega) (by omega) (oqJ_fr fu239 rfl hq219) (oqZ_fr fu239 rfl (oqZ_fr (oFr_oneI (q := 12) (m := 48) rfl (by rfl)) rfl (oqZ_fr (oFr_oneI (q := 12) (m := 47) rfl (by rfl)) rfl (oqZ_fr fu207 rfl (oqZ_fr (oFr_oneI (q := 12) (m := 2) rfl (by rfl)) rfl (oqZ_fr fu5 rfl iv7)))))) (by omega) (by omega)
                    · skip
                      refine r_iconst C (oDec_at oX12_goesOn 54 rfl) (v := k5) (by rw [qk5]; rfl) ?_
                      refine r_goto C (tgt := 112) (oDec_at oX12_goesOn 55 rfl) (by decide) ?_
                      have lk251 : (((pI (pI u207 71 47 v215) 71 48 v218)).1 71 45).toInt = (u207.1 71 45).toInt := congrArg Int32.toInt (((pI_ne (a := 71) (b := 45) (c := 71) (k := 48) _ _ (Or.inr (by decide)))).trans ((pI_ne (a := 71) (b := 45) (c := 71) (k := 47) _ _ (Or.inr (by decide)))))
                      have lk252 : (((pI (pI u207 71 47 v215) 71 48 v218)).1 71 45).toInt = (u207.1 71 45).toInt := congrArg Int32.toInt (((pI_ne (a := 71) (b := 45) (c := 71) (k := 48) _ _ (Or.inr (by decide)))).trans ((pI_ne (a := 71) (b := 45) (c := 71) (k := 47) _ _ (Or.inr (by decide)))))
                      have lk253 : (((pI (pI u207 71 47 v215) 71 48 v218)).1 71 45).toInt = (u207.1 71 45).toInt := congrArg Int32.toInt (((pI_ne (a := 71) (b := 45) (c := 71) (k := 48) _ _ (Or.inr (by decide)))).trans ((pI_ne (a := 71) (b := 45) (c := 71) (k := 47) _ _ (Or.inr (by decide)))))
                      refine r_callVv C oCl12 rfl miX12_lay mlX12_280 (ct_X12_lay l E ((pI (pI u207 71 47 v215) 71 48 v218)) k5 (by omega)) (by decide) rfl rfl rfl (Nat.le_of_ble_eq_true rfl) (oDec_at oX12_goesOn 57 rfl) (fun u254 pu254 fu254 => ?_)
                      try dsimp only at pu254
                      try simp only [lk252, lk253] at pu254
                      obtain ⟨pu254_0, pu254_1⟩ := pu254
                      have hq256 : oQ b (x + 1) (u254) := oQ_jn hq233 pu254_0 (by omega) (by omega) (by omega)
                      refine r_goto C (tgt := 0) (oDec_at oX12_goesOn 58 rfl) (by decide) ?_
                      have lk257 : ((u254).1 71 5).toInt = v1.toInt := congrArg Int32.toInt (((fu254 71 5 rfl).1).trans (((pI_ne (a := 71) (b := 5) (c := 71) (k := 48) _ _ (Or.inr (by decide)))).trans (((pI_ne (a := 71) (b := 5) (c := 71) (k := 47) _ _ (Or.inr (by decide)))).trans (((fu207 71 5 rfl).1).trans (((pI_ne (a := 71) (b := 5) (c := 71) (k := 2) _ _ (Or.inr (by decide)))).trans (((fu5 71 5 rfl).1).trans (ev1)))))))
                      have lk258 : ((u254).1 71 48).toInt = v218.toInt := congrArg Int32.toInt (((fu254 71 48 rfl).1).trans ((pI_self _ _ _ _)))
                      have lk259 : ((u254).1 71 2).toInt = v198.toInt := congrArg Int32.toInt (((fu254 71 2 rfl).1).trans (((pI_ne (a := 71) (b := 2) (c := 71) (k := 48) _ _ (Or.inr (by decide)))).trans (((pI_ne (a := 71) (b := 2) (c := 71) (k := 47) _ _ (Or.inr (by decide)))).trans (((fu207 71 2 rfl).1).trans ((pI_self _ _ _ _))))))
                      have lk260 : ((u254).1 71 47).toInt = v215.toInt := congrArg Int32.toInt (((fu254 71 47 rfl).1).trans (((pI_ne (a := 71) (b := 47) (c := 71) (k := 48) _ _ (Or.inr (by decide)))).trans ((pI_self _ _ _ _))))
                      have lk261 : ((u254).1 71 2).toInt = v198.toInt := congrArg Int32.toInt (((fu254 71 2 rfl).1).trans (((pI_ne (a := 71) (b := 2) (c := 71) (k := 48) _ _ (Or.inr (by decide)))).trans (((pI_ne (a := 71) (b := 2) (c := 71) (k := 47) _ _ (Or.inr (by decide)))).trans (((fu207 71 2 rfl).1).trans ((pI_self _ _ _ _))))))
                      have lk262 : ((u254).1 71 55).toInt = (t.1 71 55).toInt := congrArg Int32.toInt (((fu254 71 55 rfl).1).trans (((pI_ne (a := 71) (b := 55) (c := 71) (k := 48) _ _ (Or.inr (by decide)))).trans (((pI_ne (a := 71) (b := 55) (c := 71) (k := 47) _ _ (Or.inr (by decide)))).trans (((fu207 71 55 rfl).1).trans (((pI_ne (a := 71) (b := 55) (c := 71) (k := 2) _ _ (Or.inr (by decide)))).trans ((fu5 71 55 rfl).1))))))
                      have lk263 : ((u254).1 71 5).toInt = v1.toInt := congrArg Int32.toInt (((fu254 71 5 rfl).1).trans (((pI_ne (a := 71) (b := 5) (c := 71) (k := 48) _ _ (Or.inr (by decide)))).trans (((pI_ne (a := 71) (b := 5) (c := 71) (k := 47) _ _ (Or.inr (by decide)))).trans (((fu207 71 5 rfl).1).trans (((pI_ne (a := 71) (b := 5) (c := 71) (k := 2) _ _ (Or.inr (by decide)))).trans (((fu5 71 5 rfl).1).trans (ev1)))))))
                      have lk264 : ((u254).1 71 6).toInt = (t.1 71 6).toInt := congrArg Int32.toInt (((fu254 71 6 rfl).1).trans (((pI_ne (a := 71) (b := 6) (c := 71) (k := 48) _ _ (Or.inr (by decide)))).trans (((pI_ne (a := 71) (b := 6) (c := 71) (k := 47) _ _ (Or.inr (by decide)))).trans (((fu207 71 6 rfl).1).trans (((pI_ne (a := 71) (b := 6) (c := 71) (k := 2) _ _ (Or.inr (by decide)))).trans ((fu5 71 6 rfl).1))))))
                      have lk265 : ((u254).1 71 2).toInt = v198.toInt := congrArg Int32.toInt (((fu254 71 2 rfl).1).trans (((pI_ne (a := 71) (b := 2) (c := 71) (k := 48) _ _ (Or.inr (by decide)))).trans (((pI_ne (a := 71) (b := 2) (c := 71) (k := 47) _ _ (Or.inr (by decide)))).trans (((fu207 71 2 rfl).1).trans ((pI_self _ _ _ _))))))
                      exact (ih (n - 1) (by omega)).1 (u254)   (by first | exact hq256 | exact oQ_pop pu207_0 (by omega) (by omega) (by omega) (by omega)) (by omega) (by omega) (by omega) (by omega) (by omega) (oqJ_fr fu254 rfl hq219) (oqZ_fr fu254 rfl (oqZ_fr (oFr_oneI (q := 12) (m := 48) rfl (by rfl)) rfl (oqZ_fr (oFr_oneI (q := 12) (m := 47) rfl (by rfl)) rfl (oqZ_fr fu207 rfl (oqZ_fr (oFr_oneI (q := 12) (m := 2) rfl (by rfl)) rfl (oqZ_fr fu5 rfl iv7)))))) (by omega) (by omega)
      · intro t   iv0 iv1 iv2 iv3 iv4 iv5 iv6 iv7 iv8 iv9 iv10 hmu
        refine r_ty C (fun hty => ?_)
        have hty_coded : (0 : Int) ≤ ((t).1 71 45).toInt ∧ ((t).1 71 45).toInt ≤ 1600 := hty.1 71 45
        have hty_waits : (0 : Int) ≤ ((t).1 71 47).toInt ∧ ((t).1 71 47).toInt ≤ 1700 := hty.1 71 47
        have hty_at : (0 : Int) ≤ ((t).1 71 2).toInt ∧ ((t).1 71 2).toInt ≤ 1600 := hty.1 71 2
        clear hty
        have hg5 : g (oqSk g (t.1 71 2).toInt) = g (t.1 71 2).toInt := by rw [show oqSk g (t.1 71 2).toInt = (t.1 71 2).toInt by omega]
        refine r_aload_n C (j := 0) (oDec_at oX12_goesOn 59 rfl) rfl rfl ?_
        refine r_bipush C (oDec_at oX12_goesOn 60 rfl) (v := k42) (by rw [qk42]; rfl) ?_
        refine r_callVi C oCl12 rfl miX12_takesSign mlX12_207 (ct6_X12_takesSign l E (t) k42 (g) ((t.1 71 2).toInt) (42) (by omega) iv7 (by omega) (by omega)) (by decide) rfl rfl rfl (Nat.le_of_ble_eq_true rfl) (oDec_at oX12_goesOn 61 rfl) (fun r267 u266 pu266 fu266 => ?_)
        try dsimp only at pu266
        obtain ⟨pu266_0, pu266_1, pu266_2, pu266_3, pu266_4⟩ := pu266
        have rr267 := n_rng r267
        refine r_if_ne C 136 (oDec_at oX12_goesOn 62 rfl) (by decide) (fun cd268 => ?_) (fun cd268 => ?_)
        · skip
          replace pu266_1 := pu266_1 (by omega)
          clear pu266_2
          have lk269 : ((u266).1 71 4).toInt = (t.1 71 4).toInt := congrArg Int32.toInt ((fu266 71 4 rfl).1)
          have lk270 : ((u266).1 71 5).toInt = (t.1 71 5).toInt := congrArg Int32.toInt ((fu266 71 5 rfl).1)
          have lk271 : ((u266).1 71 48).toInt = (t.1 71 48).toInt := congrArg Int32.toInt ((fu266 71 48 rfl).1)
          have lk272 : ((u266).1 71 47).toInt = (t.1 71 47).toInt := congrArg Int32.toInt ((fu266 71 47 rfl).1)
          have hq273 : oqJ g fp fq cz kx b 1 (u266) := oqJ_go iv6 (by omega) (by omega) (oFr_row fu266 (c := 103) rfl rfl) (congrArg Int32.toInt (fu266 71 47 rfl).1) (oqs_op (g := g) (p := fp) (q := fq) (a := (t.1 71 2).toInt) (b := (t.1 71 4).toInt) (o := (t.1 71 48).toInt) (by unfold oqOp; omega)) (by rw [show ((t).1 71 2).toInt = (t.1 71 2).toInt by omega]; omega) (by first | omega | (congr 1; omega)) (by first | omega | (congr 1; omega)) (by first | omega | (congr 1; omega)) (by first | omega | (congr 1; omega)) (by first | omega | (congr 1; omega))
          refine r_aload_n C (j := 0) (oDec_at oX12_goesOn 67 rfl) rfl rfl ?_
          refine r_getF (k := 0) (b := 72) C oCl12 rfl (by decide) flX12_7 rfl rfl rfl (oDec_at oX12_goesOn 68 rfl) ?_
          refine r_aload_n C (j := 0) (oDec_at oX12_goesOn 69 rfl) rfl rfl ?_
          obtain ⟨v274, ev274⟩ : ∃ z : Int32, (u266).1 71 2 = z := ⟨_, rfl⟩
          have gv274 : (u266.1 71 2).toInt = v274.toInt := congrArg Int32.toInt (ev274)
          refine r_geti (k := 2) (lo := 0) (hi := 1600) C v274 oCl12 rfl (by decide) flX12_179 rfl rfl (ev274) rfl rfl (oDec_at oX12_goesOn 70 rfl) (fun b275 b275h => ?_)
          refine r_iconst C (oDec_at oX12_goesOn 71 rfl) (v := k1) (by rw [qk1]; rfl) ?_
          obtain ⟨v276, ev276⟩ : ∃ z : Int32, z = v274 - k1 := ⟨_, rfl⟩
          have hv276 : v276.toInt = v274.toInt - k1.toInt := n_sub ev276 (by omega) (by omega)
          refine r_isub C v276 (oDec_at oX12_goesOn 72 rfl) ev276 ?_
          refine r_pc C 146 rfl ?_
          obtain ⟨v278, ev278⟩ : ∃ z : Int32, (u266).1 72 v276.toNatClampNeg = z := ⟨_, rfl⟩
          have av278 : t.1 72 v276.toNatClampNeg = v278 := ((fu266 72 v276.toNatClampNeg rfl).1).symm.trans ev278
          have gv278 : (t.1 72 v276.toNatClampNeg).toInt = v278.toInt := congrArg Int32.toInt (((fu266 72 v276.toNatClampNeg rfl).1).symm.trans ev278)
          refine r_iald (n := 1600) (lo := 0) (hi := 255) C v278 rfl (by decide) rfl rfl ⟨by omega, by omega⟩ (by decide) ev278 rfl rfl (oDec_at oX12_goesOn 73 rfl) (fun b277 b277h => ?_)
          refine r_bipush C (oDec_at oX12_goesOn 74 rfl) (v := k42) (by rw [qk42]; rfl) ?_
          refine r_icmp_ne C 156 (oDec_at oX12_goesOn 75 rfl) (by decide) (fun cd279 => ?_) (fun cd279 => ?_)
          · skip
            refine r_iconst C (oDec_at oX12_goesOn 78 rfl) (v := k4) (by rw [qk4]; rfl) ?_
            refine r_istore_n C (lv' := [(0, .ref (oad E 71)), (1, .int k4)]) [1, 0] (oDec_at oX12_goesOn 79 rfl) rfl (by decide) rfl ?_
            have lk280 : ((u266).1 71 5).toInt = (t.1 71 5).toInt := congrArg Int32.toInt ((fu266 71 5 rfl).1)
            have lk281 : ((u266).1 71 48).toInt = (t.1 71 48).toInt := congrArg Int32.toInt ((fu266 71 48 rfl).1)
            have lk282 : ((u266).1 71 2).toInt = v274.toInt := congrArg Int32.toInt (ev274)
            have lk283 : ((u266).1 71 45).toInt = (t.1 71 45).toInt := congrArg Int32.toInt ((fu266 71 45 rfl).1)
            have lk284 : ((u266).1 71 47).toInt = (t.1 71 47).toInt := congrArg Int32.toInt ((fu266 71 47 rfl).1)
            have lk285 : ((u266).1 71 2).toInt = v274.toInt := congrArg Int32.toInt (ev274)
            have lk286 : ((u266).1 71 5).toInt = (t.1 71 5).toInt := congrArg Int32.toInt ((fu266 71 5 rfl).1)
            have lk287 : ((u266).1 71 6).toInt = (t.1 71 6).toInt := congrArg Int32.toInt ((fu266 71 6 rfl).1)
            have lk288 : ((u266).1 71 47).toInt = (t.1 71 47).toInt := congrArg Int32.toInt ((fu266 71 47 rfl).1)
            exact (ih (n - 1) (by omega)).2.2.1 (u266) k4  (oQ_fr fu266 rfl iv0) (by omega) (by omega) (by omega) (by omega) (by omega) hq273 (by omega) (by omega)
          · skip
            refine r_iconst C (oDec_at oX12_goesOn 76 rfl) (v := k3) (by rw [qk3]; rfl) ?_
            refine r_goto C (tgt := 157) (oDec_at oX12_goesOn 77 rfl) (by decide) ?_
            refine r_istore_n C (lv' := [(0, .ref (oad E 71)), (1, .int k3)]) [1, 0] (oDec_at oX12_goesOn 79 rfl) rfl (by decide) rfl ?_
            have lk289 : ((u266).1 71 5).toInt = (t.1 71 5).toInt := congrArg Int32.toInt ((fu266 71 5 rfl).1)
            have lk290 : ((u266).1 71 48).toInt = (t.1 71 48).toInt := congrArg Int32.toInt ((fu266 71 48 rfl).1)
            have lk291 : ((u266).1 71 2).toInt = v274.toInt := congrArg Int32.toInt (ev274)
            have lk292 : ((u266).1 71 45).toInt = (t.1 71 45).toInt := congrArg Int32.toInt ((fu266 71 45 rfl).1)
            have lk293 : ((u266).1 71 47).toInt = (t.1 71 47).toInt := congrArg Int32.toInt ((fu266 71 47 rfl).1)
            have lk294 : ((u266).1 71 2).toInt = v274.toInt := congrArg Int32.toInt (ev274)
            have lk295 : ((u266).1 71 5).toInt = (t.1 71 5).toInt := congrArg Int32.toInt ((fu266 71 5 rfl).1)
            have lk296 : ((u266).1 71 6).toInt = (t.1 71 6).toInt := congrArg Int32.toInt ((fu266 71 6 rfl).1)
            have lk297 : ((u266).1 71 47).toInt = (t.1 71 47).toInt := congrArg Int32.toInt ((fu266 71 47 rfl).1)
            exact (ih (n - 1) (by omega)).2.2.1 (u266) k3  (oQ_fr fu266 rfl iv0) (by omega) (by omega) (by omega) (by omega) (by omega) hq273 (by omega) (by omega)
        · skip
          clear pu266_1
          replace pu266_2 := pu266_2 (by omega)
          have lk298 : ((u266).1 71 4).toInt = (t.1 71 4).toInt := congrArg Int32.toInt ((fu266 71 4 rfl).1)
          have lk299 : ((u266).1 71 5).toInt = (t.1 71 5).toInt := congrArg Int32.toInt ((fu266 71 5 rfl).1)
          have lk300 : ((u266).1 71 48).toInt = (t.1 71 48).toInt := congrArg Int32.toInt ((fu266 71 48 rfl).1)
          have lk301 : ((u266).1 71 47).toInt = (t.1 71 47).toInt := congrArg Int32.toInt ((fu266 71 47 rfl).1)
          have hq302 : oqJ g fp fq cz kx b 3 (u266) := oqJ_id iv6 (oFr_row fu266 (c := 103) rfl rfl) (congrArg Int32.toInt (fu266 71 5 rfl).1) (congrArg Int32.toInt (fu266 71 47 rfl).1) (by rw [show ((u266).1 71 2).toInt = ((t).1 71 2).toInt by omega]) (congrArg Int32.toInt (fu266 71 4 rfl).1) (congrArg Int32.toInt (fu266 71 48 rfl).1) (congrArg Int32.toInt (fu266 71 6 rfl).1)
          refine r_aload_n C (j := 0) (oDec_at oX12_goesOn 63 rfl) rfl rfl ?_
          refine r_bipush C (oDec_at oX12_goesOn 64 rfl) (v := k47) (by rw [qk47]; rfl) ?_
          have lk303 : ((u266).1 71 5).toInt = (t.1 71 5).toInt := congrArg Int32.toInt ((fu266 71 5 rfl).1)
          have lk304 : ((u266).1 71 5).toInt = (t.1 71 5).toInt := congrArg Int32.toInt ((fu266 71 5 rfl).1)
          have lk305 : ((u266).1 71 5).toInt = (t.1 71 5).toInt := congrArg Int32.toInt ((fu266 71 5 rfl).1)
          have lk306 : ((u266).1 71 5).toInt = (t.1 71 5).toInt := congrArg Int32.toInt ((fu266 71 5 rfl).1)
          refine r_callVi C oCl12 rfl miX12_takesSign mlX12_207 (ct6_X12_takesSign l E (u266) k47 (g) ((t.1 71 2).toInt) (47) (by omega) (oqZ_fr fu266 rfl iv7) (by omega) (by omega)) (by decide) rfl rfl rfl (Nat.le_of_ble_eq_true rfl) (oDec_at oX12_goesOn 65 rfl) (fun r308 u307 pu307 fu307 => ?_)
          try dsimp only at pu307
          try simp only [lk303, lk304, lk305, lk306] at pu307
          obtain ⟨pu307_0, pu307_1, pu307_2, pu307_3, pu307_4⟩ := pu307
          have rr308 := n_rng r308
          refine r_if_eq C 203 (oDec_at oX12_goesOn 66 rfl) (by decide) (fun cd309 => ?_) (fun cd309 => ?_)
          · skip
            clear pu307_1
            replace pu307_2 := pu307_2 (by omega)
            have lk310 : ((u307).1 71 4).toInt = (t.1 71 4).toInt := congrArg Int32.toInt (((fu307 71 4 rfl).1).trans ((fu266 71 4 rfl).1))
            have lk311 : ((u307).1 71 5).toInt = (t.1 71 5).toInt := congrArg Int32.toInt (((fu307 71 5 rfl).1).trans ((fu266 71 5 rfl).1))
            have lk312 : ((u307).1 71 48).toInt = (t.1 71 48).toInt := congrArg Int32.toInt (((fu307 71 48 rfl).1).trans ((fu266 71 48 rfl).1))
            have lk313 : ((u307).1 71 47).toInt = (t.1 71 47).toInt := congrArg Int32.toInt (((fu307 71 47 rfl).1).trans ((fu266 71 47 rfl).1))
            have hq314 : oqJ g fp fq cz kx b 3 (u307) := oqJ_id hq302 (oFr_row fu307 (c := 103) rfl rfl) (congrArg Int32.toInt (fu307 71 5 rfl).1) (congrArg Int32.toInt (fu307 71 47 rfl).1) (by rw [show ((u307).1 71 2).toInt = ((u266).1 71 2).toInt by omega]) (congrArg Int32.toInt (fu307 71 4 rfl).1) (congrArg Int32.toInt (fu307 71 48 rfl).1) (congrArg Int32.toInt (fu307 71 6 rfl).1)
            refine r_aload_n C (j := 0) (oDec_at oX12_goesOn 105 rfl) rfl rfl ?_
            refine r_bipush C (oDec_at oX12_goesOn 106 rfl) (v := k43) (by rw [qk43]; rfl) ?_
            have lk315 : ((u307).1 71 5).toInt = (t.1 71 5).toInt := congrArg Int32.toInt (((fu307 71 5 rfl).1).trans ((fu266 71 5 rfl).1))
            have lk316 : ((u307).1 71 5).toInt = (t.1 71 5).toInt := congrArg Int32.toInt (((fu307 71 5 rfl).1).trans ((fu266 71 5 rfl).1))
            have lk317 : ((u307).1 71 5).toInt = (t.1 71 5).toInt := congrArg Int32.toInt (((fu307 71 5 rfl).1).trans ((fu266 71 5 rfl).1))
            have lk318 : ((u307).1 71 5).toInt = (t.1 71 5).toInt := congrArg Int32.toInt (((fu307 71 5 rfl).1).trans ((fu266 71 5 rfl).1))
            refine r_callVi C oCl12 rfl miX12_takesSign mlX12_207 (ct6_X12_takesSign l E (u307) k43 (g) ((t.1 71 2).toInt) (43) (by omega) (oqZ_fr fu307 rfl (oqZ_fr fu266 rfl iv7)) (by omega) (by omega)) (by decide) rfl rfl rfl (Nat.le_of_ble_eq_true rfl) (oDec_at oX12_goesOn 107 rfl) (fun r320 u319 pu319 fu319 => ?_)
            try dsimp only at pu319
            try simp only [lk315, lk316, lk317, lk318] at pu319
            obtain ⟨pu319_0, pu319_1, pu319_2, pu319_3, pu319_4⟩ := pu319
            have rr320 := n_rng r320
            refine r_if_ne C 221 (oDec_at oX12_goesOn 108 rfl) (by decide) (fun cd321 => ?_) (fun cd321 => ?_)
            · skip
              replace pu319_1 := pu319_1 (by omega)
              clear pu319_2
              have lk322 : ((u319).1 71 4).toInt = (t.1 71 4).toInt := congrArg Int32.toInt (((fu319 71 4 rfl).1).trans (((fu307 71 4 rfl).1).trans ((fu266 71 4 rfl).1)))
              have lk323 : ((u319).1 71 5).toInt = (t.1 71 5).toInt := congrArg Int32.toInt (((fu319 71 5 rfl).1).trans (((fu307 71 5 rfl).1).trans ((fu266 71 5 rfl).1)))
              have lk324 : ((u319).1 71 48).toInt = (t.1 71 48).toInt := congrArg Int32.toInt (((fu319 71 48 rfl).1).trans (((fu307 71 48 rfl).1).trans ((fu266 71 48 rfl).1)))
              have lk325 : ((u319).1 71 47).toInt = (t.1 71 47).toInt := congrArg Int32.toInt (((fu319 71 47 rfl).1).trans (((fu307 71 47 rfl).1).trans ((fu266 71 47 rfl).1)))
              have hq326 : oqJ g fp fq cz kx b 1 (u319) := oqJ_go hq314 (by omega) (by omega) (oFr_row fu319 (c := 103) rfl rfl) (congrArg Int32.toInt (fu319 71 47 rfl).1) (oqs_op (g := g) (p := fp) (q := fq) (a := (t.1 71 2).toInt) (b := (t.1 71 4).toInt) (o := (t.1 71 48).toInt) (by unfold oqOp; omega)) (by rw [show ((u307).1 71 2).toInt = (t.1 71 2).toInt by omega]; omega) (by first | omega | (congr 1; omega)) (by first | omega | (congr 1; omega)) (by first | omega | (congr 1; omega)) (by first | omega | (congr 1; omega)) (by first | omega | (congr 1; omega))
              refine r_aload_n C (j := 0) (oDec_at oX12_goesOn 113 rfl) rfl rfl ?_
              refine r_getF (k := 0) (b := 72) C oCl12 rfl (by decide) flX12_7 rfl rfl rfl (oDec_at oX12_goesOn 114 rfl) ?_
              refine r_aload_n C (j := 0) (oDec_at oX12_goesOn 115 rfl) rfl rfl ?_
              obtain ⟨v327, ev327⟩ : ∃ z : Int32, (u319).1 71 2 = z := ⟨_, rfl⟩
              have gv327 : (u319.1 71 2).toInt = v327.toInt := congrArg Int32.toInt (ev327)
              refine r_geti (k := 2) (lo := 0) (hi := 1600) C v327 oCl12 rfl (by decide) flX12_179 rfl rfl (ev327) rfl rfl (oDec_at oX12_goesOn 116 rfl) (fun b328 b328h => ?_)
              refine r_iconst C (oDec_at oX12_goesOn 117 rfl) (v := k1) (by rw [qk1]; rfl) ?_
              obtain ⟨v329, ev329⟩ : ∃ z : Int32, z = v327 - k1 := ⟨_, rfl⟩
              have hv329 : v329.toInt = v327.toInt - k1.toInt := n_sub ev329 (by omega) (by omega)
              refine r_isub C v329 (oDec_at oX12_goesOn 118 rfl) ev329 ?_
              refine r_pc C 231 rfl ?_
              obtain ⟨v331, ev331⟩ : ∃ z : Int32, (u319).1 72 v329.toNatClampNeg = z := ⟨_, rfl⟩
              have av331 : t.1 72 v329.toNatClampNeg = v331 := (((fu319 72 v329.toNatClampNeg rfl).1).trans (((fu307 72 v329.toNatClampNeg rfl).1).trans ((fu266 72 v329.toNatClampNeg rfl).1))).symm.trans ev331
              have gv331 : (t.1 72 v329.toNatClampNeg).toInt = v331.toInt := congrArg Int32.toInt ((((fu319 72 v329.toNatClampNeg rfl).1).trans (((fu307 72 v329.toNatClampNeg rfl).1).trans ((fu266 72 v329.toNatClampNeg rfl).1))).symm.trans ev331)
              refine r_iald (n := 1600) (lo := 0) (hi := 255) C v331 rfl (by decide) rfl rfl ⟨by omega, by omega⟩ (by decide) ev331 rfl rfl (oDec_at oX12_goesOn 119 rfl) (fun b330 b330h => ?_)
              refine r_bipush C (oDec_at oX12_goesOn 120 rfl) (v := k43) (by rw [qk43]; rfl) ?_
              refine r_icmp_ne C 241 (oDec_at oX12_goesOn 121 rfl) (by decide) (fun cd332 => ?_) (fun cd332 => ?_)
              · skip
                refine r_iconst C (oDec_at oX12_goesOn 124 rfl) (v := k2) (by rw [qk2]; rfl) ?_
                refine r_istore_n C (lv' := [(0, .ref (oad E 71)), (1, .int k2)]) [1, 0] (oDec_at oX12_goesOn 125 rfl) rfl (by decide) rfl ?_
                have lk333 : ((u319).1 71 5).toInt = (t.1 71 5).toInt := congrArg Int32.toInt (((fu319 71 5 rfl).1).trans (((fu307 71 5 rfl).1).trans ((fu266 71 5 rfl).1)))
                have lk334 : ((u319).1 71 48).toInt = (t.1 71 48).toInt := congrArg Int32.toInt (((fu319 71 48 rfl).1).trans (((fu307 71 48 rfl).1).trans ((fu266 71 48 rfl).1)))
                have lk335 : ((u319).1 71 2).toInt = v327.toInt := congrArg Int32.toInt (ev327)
                have lk336 : ((u319).1 71 45).toInt = (t.1 71 45).toInt := congrArg Int32.toInt (((fu319 71 45 rfl).1).trans (((fu307 71 45 rfl).1).trans ((fu266 71 45 rfl).1)))
                have lk337 : ((u319).1 71 47).toInt = (t.1 71 47).toInt := congrArg Int32.toInt (((fu319 71 47 rfl).1).trans (((fu307 71 47 rfl).1).trans ((fu266 71 47 rfl).1)))
                have lk338 : ((u319).1 71 2).toInt = v327.toInt := congrArg Int32.toInt (ev327)
                have lk339 : ((u319).1 71 5).toInt = (t.1 71 5).toInt := congrArg Int32.toInt (((fu319 71 5 rfl).1).trans (((fu307 71 5 rfl).1).trans ((fu266 71 5 rfl).1)))
                have lk340 : ((u319).1 71 6).toInt = (t.1 71 6).toInt := congrArg Int32.toInt (((fu319 71 6 rfl).1).trans (((fu307 71 6 rfl).1).trans ((fu266 71 6 rfl).1)))
                have lk341 : ((u319).1 71 47).toInt = (t.1 71 47).toInt := congrArg Int32.toInt (((fu319 71 47 rfl).1).trans (((fu307 71 47 rfl).1).trans ((fu266 71 47 rfl).1)))
                exact (ih (n - 1) (by omega)).2.2.2 (u319) k2  (oQ_fr fu319 rfl (oQ_fr fu307 rfl (oQ_fr fu266 rfl iv0))) (by omega) (by omega) (by omega) (by omega) (by omega) hq326 (by omega) (by omega)
              · skip
                refine r_iconst C (oDec_at oX12_goesOn 122 rfl) (v := k1) (by rw [qk1]; rfl) ?_
                refine r_goto C (tgt := 242) (oDec_at oX12_goesOn 123 rfl) (by decide) ?_
                refine r_istore_n C (lv' := [(0, .ref (oad E 71)), (1, .int k1)]) [1, 0] (oDec_at oX12_goesOn 125 rfl) rfl (by decide) rfl ?_
                have lk342 : ((u319).1 71 5).toInt = (t.1 71 5).toInt := congrArg Int32.toInt (((fu319 71 5 rfl).1).trans (((fu307 71 5 rfl).1).trans ((fu266 71 5 rfl).1)))
                have lk343 : ((u319).1 71 48).toInt = (t.1 71 48).toInt := congrArg Int32.toInt (((fu319 71 48 rfl).1).trans (((fu307 71 48 rfl).1).trans ((fu266 71 48 rfl).1)))
                have lk344 : ((u319).1 71 2).toInt = v327.toInt := congrArg Int32.toInt (ev327)
                have lk345 : ((u319).1 71 45).toInt = (t.1 71 45).toInt := congrArg Int32.toInt (((fu319 71 45 rfl).1).trans (((fu307 71 45 rfl).1).trans ((fu266 71 45 rfl).1)))
                have lk346 : ((u319).1 71 47).toInt = (t.1 71 47).toInt := congrArg Int32.toInt (((fu319 71 47 rfl).1).trans (((fu307 71 47 rfl).1).trans ((fu266 71 47 rfl).1)))
                have lk347 : ((u319).1 71 2).toInt = v327.toInt := congrArg Int32.toInt (ev327)
                have lk348 : ((u319).1 71 5).toInt = (t.1 71 5).toInt := congrArg Int32.toInt (((fu319 71 5 rfl).1).trans (((fu307 71 5 rfl).1).trans ((fu266 71 5 rfl).1)))
                have lk349 : ((u319).1 71 6).toInt = (t.1 71 6).toInt := congrArg Int32.toInt (((fu319 71 6 rfl).1).trans (((fu307 71 6 rfl).1).trans ((fu266 71 6 rfl).1)))
                have lk350 : ((u319).1 71 47).toInt = (t.1 71 47).toInt := congrArg Int32.toInt (((fu319 71 47 rfl).1).trans (((fu307 71 47 rfl).1).trans ((fu266 71 47 rfl).1)))
                exact (ih (n - 1) (by omega)).2.2.2 (u319) k1  (oQ_fr fu319 rfl (oQ_fr fu307 rfl (oQ_fr fu266 rfl iv0))) (by omega) (by omega) (by omega) (by omega) (by omega) hq326 (by omega) (by omega)
            · skip
              clear pu319_1
              replace pu319_2 := pu319_2 (by omega)
              have lk351 : ((u319).1 71 4).toInt = (t.1 71 4).toInt := congrArg Int32.toInt (((fu319 71 4 rfl).1).trans (((fu307 71 4 rfl).1).trans ((fu266 71 4 rfl).1)))
              have lk352 : ((u319).1 71 5).toInt = (t.1 71 5).toInt := congrArg Int32.toInt (((fu319 71 5 rfl).1).trans (((fu307 71 5 rfl).1).trans ((fu266 71 5 rfl).1)))
              have lk353 : ((u319).1 71 48).toInt = (t.1 71 48).toInt := congrArg Int32.toInt (((fu319 71 48 rfl).1).trans (((fu307 71 48 rfl).1).trans ((fu266 71 48 rfl).1)))
              have lk354 : ((u319).1 71 47).toInt = (t.1 71 47).toInt := congrArg Int32.toInt (((fu319 71 47 rfl).1).trans (((fu307 71 47 rfl).1).trans ((fu266 71 47 rfl).1)))
              have hq355 : oqJ g fp fq cz kx b 3 (u319) := oqJ_id hq314 (oFr_row fu319 (c := 103) rfl rfl) (congrArg Int32.toInt (fu319 71 5 rfl).1) (congrArg Int32.toInt (fu319 71 47 rfl).1) (by rw [show ((u319).1 71 2).toInt = ((u307).1 71 2).toInt by omega]) (congrArg Int32.toInt (fu319 71 4 rfl).1) (congrArg Int32.toInt (fu319 71 48 rfl).1) (congrArg Int32.toInt (fu319 71 6 rfl).1)
              refine r_aload_n C (j := 0) (oDec_at oX12_goesOn 109 rfl) rfl rfl ?_
              refine r_bipush C (oDec_at oX12_goesOn 110 rfl) (v := k45) (by rw [qk45]; rfl) ?_
              have lk356 : ((u319).1 71 5).toInt = (t.1 71 5).toInt := congrArg Int32.toInt (((fu319 71 5 rfl).1).trans (((fu307 71 5 rfl).1).trans ((fu266 71 5 rfl).1)))
              have lk357 : ((u319).1 71 5).toInt = (t.1 71 5).toInt := congrArg Int32.toInt (((fu319 71 5 rfl).1).trans (((fu307 71 5 rfl).1).trans ((fu266 71 5 rfl).1)))
              have lk358 : ((u319).1 71 5).toInt = (t.1 71 5).toInt := congrArg Int32.toInt (((fu319 71 5 rfl).1).trans (((fu307 71 5 rfl).1).trans ((fu266 71 5 rfl).1)))
              have lk359 : ((u319).1 71 5).toInt = (t.1 71 5).toInt := congrArg Int32.toInt (((fu319 71 5 rfl).1).trans (((fu307 71 5 rfl).1).trans ((fu266 71 5 rfl).1)))
              refine r_callVi C oCl12 rfl miX12_takesSign mlX12_207 (ct6_X12_takesSign l E (u319) k45 (g) ((t.1 71 2).toInt) (45) (by omega) (oqZ_fr fu319 rfl (oqZ_fr fu307 rfl (oqZ_fr fu266 rfl iv7))) (by omega) (by omega)) (by decide) rfl rfl rfl (Nat.le_of_ble_eq_true rfl) (oDec_at oX12_goesOn 111 rfl) (fun r361 u360 pu360 fu360 => ?_)
              try dsimp only at pu360
              try simp only [lk356, lk357, lk358, lk359] at pu360
              obtain ⟨pu360_0, pu360_1, pu360_2, pu360_3, pu360_4⟩ := pu360
              have rr361 := n_rng r361
              refine r_if_eq C 304 (oDec_at oX12_goesOn 112 rfl) (by decide) (fun cd362 => ?_) (fun cd362 => ?_)
              · skip
                clear pu360_1
                replace pu360_2 := pu360_2 (by omega)
                have lk363 : ((u360).1 71 4).toInt = (t.1 71 4).toInt := congrArg Int32.toInt (((fu360 71 4 rfl).1).trans (((fu319 71 4 rfl).1).trans (((fu307 71 4 rfl).1).trans ((fu266 71 4 rfl).1))))
                have lk364 : ((u360).1 71 5).toInt = (t.1 71 5).toInt := congrArg Int32.toInt (((fu360 71 5 rfl).1).trans (((fu319 71 5 rfl).1).trans (((fu307 71 5 rfl).1).trans ((fu266 71 5 rfl).1))))
                have lk365 : ((u360).1 71 48).toInt = (t.1 71 48).toInt := congrArg Int32.toInt (((fu360 71 48 rfl).1).trans (((fu319 71 48 rfl).1).trans (((fu307 71 48 rfl).1).trans ((fu266 71 48 rfl).1))))
                have lk366 : ((u360).1 71 47).toInt = (t.1 71 47).toInt := congrArg Int32.toInt (((fu360 71 47 rfl).1).trans (((fu319 71 47 rfl).1).trans (((fu307 71 47 rfl).1).trans ((fu266 71 47 rfl).1))))
                have eA : ((u360).1 71 2).toInt = (t.1 71 2).toInt := by omega
                have hgs : oqSk g ((u360).1 71 2).toInt = oqSk g (t.1 71 2).toInt := by rw [eA]
                have hgg : g (oqSk g ((u360).1 71 2).toInt) = g (oqSk g (t.1 71 2).toInt) := by rw [eA]
                have hg2 : g ((u360).1 71 2).toInt = g (t.1 71 2).toInt := by rw [eA]
                have hg5 : g (oqSk g (t.1 71 2).toInt) = g (t.1 71 2).toInt := by rw [show oqSk g (t.1 71 2).toInt = (t.1 71 2).toInt by omega]
                have hno : ¬ oqOp g (oqSk g ((u360).1 71 2).toInt) := oqOp_no ⟨by omega, by omega, by omega, by omega⟩
                have hq367 : oqJ g fp fq cz kx b 3 (u360) := oqJ_id hq355 (oFr_row fu360 (c := 103) rfl rfl) (congrArg Int32.toInt (fu360 71 5 rfl).1) (congrArg Int32.toInt (fu360 71 47 rfl).1) (by rw [show ((u360).1 71 2).toInt = ((u319).1 71 2).toInt by omega]) (congrArg Int32.toInt (fu360 71 4 rfl).1) (congrArg Int32.toInt (fu360 71 48 rfl).1) (congrArg Int32.toInt (fu360 71 6 rfl).1)
                refine r_aload_n C (j := 0) (oDec_at oX12_goesOn 159 rfl) rfl rfl ?_
                refine r_callVi C oCl12 rfl miX12_mark mlX12_304 (ct_X12_mark l E (u360)  ) (by decide) rfl rfl rfl (Nat.le_of_ble_eq_true rfl) (oDec_at oX12_goesOn 160 rfl) (fun r369 u368 pu368 fu368 => ?_)
                try dsimp only at pu368
                have hxu368 := oFr_nil fu368; subst hxu368
                have rr369 := n_rng r369
                have lk370 : ((u360).1 71 47).toInt = (t.1 71 47).toInt := congrArg Int32.toInt (((fu360 71 47 rfl).1).trans (((fu319 71 47 rfl).1).trans (((fu307 71 47 rfl).1).trans ((fu266 71 47 rfl).1))))
                have lk371 : ((u360).1 71 55).toInt = (t.1 71 55).toInt := congrArg Int32.toInt (((fu360 71 55 rfl).1).trans (((fu319 71 55 rfl).1).trans (((fu307 71 55 rfl).1).trans ((fu266 71 55 rfl).1))))
                have lk372 : ((u360).1 71 5).toInt = (t.1 71 5).toInt := congrArg Int32.toInt (((fu360 71 5 rfl).1).trans (((fu319 71 5 rfl).1).trans (((fu307 71 5 rfl).1).trans ((fu266 71 5 rfl).1))))
                have hm5 := oqHs_mk (oQ_fr fu360 rfl (oQ_fr fu319 rfl (oQ_fr fu307 rfl (oQ_fr fu266 rfl iv0)))) (by omega) pu368 (by omega) (by omega) (by omega)
                refine r_bipush C (oDec_at oX12_goesOn 161 rfl) (v := k21) (by rw [qk21]; rfl) ?_
                refine r_icmp_eq C 322 (oDec_at oX12_goesOn 162 rfl) (by decide) (fun cd373 => ?_) (fun cd373 => ?_)
                · skip
                  have lk374 : ((u360).1 71 45).toInt = (t.1 71 45).toInt := congrArg Int32.toInt (((fu360 71 45 rfl).1).trans (((fu319 71 45 rfl).1).trans (((fu307 71 45 rfl).1).trans ((fu266 71 45 rfl).1))))
                  have lk375 : ((u360).1 71 47).toInt = (t.1 71 47).toInt := congrArg Int32.toInt (((fu360 71 47 rfl).1).trans (((fu319 71 47 rfl).1).trans (((fu307 71 47 rfl).1).trans ((fu266 71 47 rfl).1))))
                  have lk376 : ((u360).1 71 48).toInt = (t.1 71 48).toInt := congrArg Int32.toInt (((fu360 71 48 rfl).1).trans (((fu319 71 48 rfl).1).trans (((fu307 71 48 rfl).1).trans ((fu266 71 48 rfl).1))))
                  have lk377 : ((u360).1 71 4).toInt = (t.1 71 4).toInt := congrArg Int32.toInt (((fu360 71 4 rfl).1).trans (((fu319 71 4 rfl).1).trans (((fu307 71 4 rfl).1).trans ((fu266 71 4 rfl).1))))
                  have lk378 : ((u360).1 71 5).toInt = (t.1 71 5).toInt := congrArg Int32.toInt (((fu360 71 5 rfl).1).trans (((fu319 71 5 rfl).1).trans (((fu307 71 5 rfl).1).trans ((fu266 71 5 rfl).1))))
                  have hq379 : oMk (r369.toInt) (u360) := pu368
                  have hq380 : oqK b (oqSg ((u360).1 103) b (((u360).1 71 47).toNatClampNeg - b)) (u360) := rfl
                  refine r_aload_n C (j := 0) (oDec_at oX12_goesOn 167 rfl) rfl rfl ?_
                  refine r_bipush C (oDec_at oX12_goesOn 168 rfl) (v := k44) (by rw [qk44]; rfl) ?_
                  have lk381 : ((u360).1 71 5).toInt = (t.1 71 5).toInt := congrArg Int32.toInt (((fu360 71 5 rfl).1).trans (((fu319 71 5 rfl).1).trans (((fu307 71 5 rfl).1).trans ((fu266 71 5 rfl).1))))
                  have lk382 : ((u360).1 71 5).toInt = (t.1 71 5).toInt := congrArg Int32.toInt (((fu360 71 5 rfl).1).trans (((fu319 71 5 rfl).1).trans (((fu307 71 5 rfl).1).trans ((fu266 71 5 rfl).1))))
                  have lk383 : ((u360).1 71 6).toInt = (t.1 71 6).toInt := congrArg Int32.toInt (((fu360 71 6 rfl).1).trans (((fu319 71 6 rfl).1).trans (((fu307 71 6 rfl).1).trans ((fu266 71 6 rfl).1))))
                  have lk384 : ((u360).1 71 5).toInt = (t.1 71 5).toInt := congrArg Int32.toInt (((fu360 71 5 rfl).1).trans (((fu319 71 5 rfl).1).trans (((fu307 71 5 rfl).1).trans ((fu266 71 5 rfl).1))))
                  have lk385 : ((u360).1 71 6).toInt = (t.1 71 6).toInt := congrArg Int32.toInt (((fu360 71 6 rfl).1).trans (((fu319 71 6 rfl).1).trans (((fu307 71 6 rfl).1).trans ((fu266 71 6 rfl).1))))
                  have lk386 : ((u360).1 71 5).toInt = (t.1 71 5).toInt := congrArg Int32.toInt (((fu360 71 5 rfl).1).trans (((fu319 71 5 rfl).1).trans (((fu307 71 5 rfl).1).trans ((fu266 71 5 rfl).1))))
                  refine r_callVv C oCl12 rfl miX12_asksSign mlX12_248 (ct6_X12_asksSign l E (u360) k44 (g) ((t.1 71 2).toInt) (44) (by omega) (oqZ_fr fu360 rfl (oqZ_fr fu319 rfl (oqZ_fr fu307 rfl (oqZ_fr fu266 rfl iv7)))) (by omega) (by omega)) (by decide) rfl rfl rfl (Nat.le_of_ble_eq_true rfl) (oDec_at oX12_goesOn 169 rfl) (fun u387 pu387 fu387 => ?_)
                  try dsimp only at pu387
                  try simp only [lk381, lk382, lk383, lk384, lk385, lk386] at pu387
                  obtain ⟨pu387_0, pu387_1, pu387_2, pu387_3⟩ := pu387
                  have lk389 : ((u387).1 71 4).toInt = (t.1 71 4).toInt := congrArg Int32.toInt (((fu387 71 4 rfl).1).trans (((fu360 71 4 rfl).1).trans (((fu319 71 4 rfl).1).trans (((fu307 71 4 rfl).1).trans ((fu266 71 4 rfl).1)))))
                  have lk390 : ((u387).1 71 48).toInt = (t.1 71 48).toInt := congrArg Int32.toInt (((fu387 71 48 rfl).1).trans (((fu360 71 48 rfl).1).trans (((fu319 71 48 rfl).1).trans (((fu307 71 48 rfl).1).trans ((fu266 71 48 rfl).1)))))
                  have lk391 : ((u387).1 71 47).toInt = (t.1 71 47).toInt := congrArg Int32.toInt (((fu387 71 47 rfl).1).trans (((fu360 71 47 rfl).1).trans (((fu319 71 47 rfl).1).trans (((fu307 71 47 rfl).1).trans ((fu266 71 47 rfl).1)))))
                  refine r_aload_n C (j := 0) (oDec_at oX12_goesOn 170 rfl) rfl rfl ?_
                  obtain ⟨v392, ev392⟩ : ∃ z : Int32, (u387).1 71 5 = z := ⟨_, rfl⟩
                  have gv392 : (u387.1 71 5).toInt = v392.toInt := congrArg Int32.toInt (ev392)
                  have rv392 := n_rng v392
                  refine r_geti (k := 5) (lo := (-2147483648)) (hi := 2147483647) C v392 oCl12 rfl (by decide) flX12_173 rfl rfl (ev392) rfl rfl (oDec_at oX12_goesOn 171 rfl) (fun _ _ => ?_)
                  refine r_if_eq C 337 (oDec_at oX12_goesOn 172 rfl) (by decide) (fun cd393 => ?_) (fun cd393 => ?_)
                  · skip
                    refine r_aload_n C (j := 0) (oDec_at oX12_goesOn 175 rfl) rfl rfl ?_
                    have lk394 : ((u387).1 71 55).toInt = (t.1 71 55).toInt := congrArg Int32.toInt (((fu387 71 55 rfl).1).trans (((fu360 71 55 rfl).1).trans (((fu319 71 55 rfl).1).trans (((fu307 71 55 rfl).1).trans ((fu266 71 55 rfl).1)))))
                    have lk395 : ((u387).1 71 5).toInt = v392.toInt := congrArg Int32.toInt (ev392)
                    have lk396 : ((u387).1 71 45).toInt = (t.1 71 45).toInt := congrArg Int32.toInt (((fu387 71 45 rfl).1).trans (((fu360 71 45 rfl).1).trans (((fu319 71 45 rfl).1).trans (((fu307 71 45 rfl).1).trans ((fu266 71 45 rfl).1)))))
                    have lk397 : ((u387).1 71 47).toInt = (t.1 71 47).toInt := congrArg Int32.toInt (((fu387 71 47 rfl).1).trans (((fu360 71 47 rfl).1).trans (((fu319 71 47 rfl).1).trans (((fu307 71 47 rfl).1).trans ((fu266 71 47 rfl).1)))))
                    have lk398 : ((u387).1 71 45).toInt = (t.1 71 45).toInt := congrArg Int32.toInt (((fu387 71 45 rfl).1).trans (((fu360 71 45 rfl).1).trans (((fu319 71 45 rfl).1).trans (((fu307 71 45 rfl).1).trans ((fu266 71 45 rfl).1)))))
                    have lk399 : ((u387).1 71 47).toInt = (t.1 71 47).toInt := congrArg Int32.toInt (((fu387 71 47 rfl).1).trans (((fu360 71 47 rfl).1).trans (((fu319 71 47 rfl).1).trans (((fu307 71 47 rfl).1).trans ((fu266 71 47 rfl).1)))))
                    have lk400 : ((u387).1 71 47).toInt = (t.1 71 47).toInt := congrArg Int32.toInt (((fu387 71 47 rfl).1).trans (((fu360 71 47 rfl).1).trans (((fu319 71 47 rfl).1).trans (((fu307 71 47 rfl).1).trans ((fu266 71 47 rfl).1)))))
                    refine r_callVv C oCl12 rfl miX12_dropsToMark mlX12_307 (ct5_X12_dropsToMark l E (u387)  (b) (x + 1) (r369.toInt) (oqSg ((u360).1 103) b (((u360).1 71 47).toNatClampNeg - b)) (oQ_frb fu387 rfl (by omega) (oQ_fr fu360 rfl (oQ_fr fu319 rfl (oQ_fr fu307 rfl (oQ_fr fu266 rfl iv0))))) (oMk_fr fu387 rfl hq379) (by omega) (by omega) (by omega) (by omega) (oqK_fr fu387 rfl hq380)) (by decide) rfl rfl rfl (Nat.le_of_ble_eq_true rfl) (oDec_at oX12_goesOn 176 rfl) (fun u401 pu401 fu401 => ?_)
                    try dsimp only at pu401
                    try simp only [lk394, lk395, lk396, lk397, lk398, lk399, lk400] at pu401
                    obtain ⟨pu401_0, pu401_1, pu401_2, pu401_3, pu401_4⟩ := pu401
                    have lk403 : ((u401).1 71 5).toInt = v392.toInt := congrArg Int32.toInt (((fu401 71 5 rfl).1).trans (ev392))
                    have lk404 : ((u401).1 71 48).toInt = (t.1 71 48).toInt := congrArg Int32.toInt (((fu401 71 48 rfl).1).trans (((fu387 71 48 rfl).1).trans (((fu360 71 48 rfl).1).trans (((fu319 71 48 rfl).1).trans (((fu307 71 48 rfl).1).trans ((fu266 71 48 rfl).1))))))
                    have lk405 : ((u401).1 71 2).toInt = (u387.1 71 2).toInt := congrArg Int32.toInt ((fu401 71 2 rfl).1)
                    have lk406 : ((u401).1 71 4).toInt = (t.1 71 4).toInt := congrArg Int32.toInt (((fu401 71 4 rfl).1).trans (((fu387 71 4 rfl).1).trans (((fu360 71 4 rfl).1).trans (((fu319 71 4 rfl).1).trans (((fu307 71 4 rfl).1).trans ((fu266 71 4 rfl).1))))))
                    have htp := pu401_3 (by omega)
                    refine r_aload_n C (j := 0) (oDec_at oX12_goesOn 177 rfl) rfl rfl ?_
                    refine r_getF (k := 46) (b := 103) C oCl12 rfl (by decide) flX12_111 rfl rfl rfl (oDec_at oX12_goesOn 178 rfl) ?_
                    refine r_aload_n C (j := 0) (oDec_at oX12_goesOn 179 rfl) rfl rfl ?_
                    obtain ⟨v407, ev407⟩ : ∃ z : Int32, (u401).1 71 47 = z := ⟨_, rfl⟩
                    have gv407 : (u401.1 71 47).toInt = v407.toInt := congrArg Int32.toInt (ev407)
                    refine r_geti (k := 47) (lo := 0) (hi := 1700) C v407 oCl12 rfl (by decide) flX12_277 rfl rfl (ev407) rfl rfl (oDec_at oX12_goesOn 180 rfl) (fun b408 b408h => ?_)
                    refine r_pc C 349 rfl ?_
                    refine r_iconst C (oDec_at oX12_goesOn 181 rfl) (v := k1) (by rw [qk1]; rfl) ?_
                    obtain ⟨v409, ev409⟩ : ∃ z : Int32, z = v407 - k1 := ⟨_, rfl⟩
                    have hv409 : v409.toInt = v407.toInt - k1.toInt := n_sub ev409 (by omega) (by omega)
                    refine r_isub C v409 (oDec_at oX12_goesOn 182 rfl) ev409 ?_
                    refine r_dup2 C (oDec_at oX12_goesOn 183 rfl) rfl rfl ?_
                    obtain ⟨v411, ev411⟩ : ∃ z : Int32, (u401).1 103 v409.toNatClampNeg = z := ⟨_, rfl⟩
                    have av411 : t.1 103 v409.toNatClampNeg = v411 := (((fu401 103 v409.toNatClampNeg rfl).1).trans (((fu387 103 v409.toNatClampNeg rfl).1).trans (((fu360 103 v409.toNatClampNeg rfl).1).trans (((fu319 103 v409.toNatClampNeg rfl).1).trans (((fu307 103 v409.toNatClampNeg rfl).1).trans ((fu266 103 v409.toNatClampNeg rfl).1)))))).symm.trans ev411
                    have gv411 : (t.1 103 v409.toNatClampNeg).toInt = v411.toInt := congrArg Int32.toInt ((((fu401 103 v409.toNatClampNeg rfl).1).trans (((fu387 103 v409.toNatClampNeg rfl).1).trans (((fu360 103 v409.toNatClampNeg rfl).1).trans (((fu319 103 v409.toNatClampNeg rfl).1).trans (((fu307 103 v409.toNatClampNeg rfl).1).trans ((fu266 103 v409.toNatClampNeg rfl).1)))))).symm.trans ev411)
                    have rv411 := n_rng v411
                    refine r_iald (n := 1700) (lo := (-2147483648)) (hi := 2147483647) C v411 rfl (by decide) rfl rfl ⟨by omega, by omega⟩ (by decide) ev411 rfl rfl (oDec_at oX12_goesOn 184 rfl) (fun _ _ => ?_)
                    have hv0 := oTop_of (s := u401) (i := v409) ev411 (by omega)
                    refine r_iconst C (oDec_at oX12_goesOn 185 rfl) (v := k2) (by rw [qk2]; rfl) ?_
                    obtain ⟨v412, ev412⟩ : ∃ z : Int32, z = v411 + k2 := ⟨_, rfl⟩
                    have hv412 : v412.toInt = v411.toInt + k2.toInt := n_add ev412 (by omega) (by omega)
                    refine r_iadd C v412 (oDec_at oX12_goesOn 186 rfl) ev412 ?_
                    refine r_pc C 355 rfl ?_
                    refine r_iast (n := 1700) (lo := (-2147483648)) (hi := 2147483647) C rfl (by decide) rfl rfl ⟨by omega, by omega⟩ (by decide) rfl rfl rfl rfl (n_rng _) (oDec_at oX12_goesOn 187 rfl) ?_
                    have hq413 : oQ b x ((pI u401 103 v409.toNatClampNeg v412)) := oQ_comma (x := x) pu401_0 (by omega) (by omega) (by assumption) (by omega)
                    have hq414 : oqJ g fp fq cz kx b 1 ((pI u401 103 v409.toNatClampNeg v412)) := oqJ_cm (s := u360) hq367 (by omega) (by omega) ((oFr_row fu401 (c := 103) rfl rfl).trans (oFr_row fu387 (c := 103) rfl rfl)) (by omega) (by omega) (by omega) (by omega) pu401_4 (by omega) (by omega) (by omega) (by omega)
                    refine r_iconst C (oDec_at oX12_goesOn 188 rfl) (v := k1) (by rw [qk1]; rfl) ?_
                    have lk415 : (((pI u401 103 v409.toNatClampNeg v412)).1 71 48).toInt = (t.1 71 48).toInt := congrArg Int32.toInt (((pI_ne (a := 71) (b := 48) (c := 103) _ _ (Or.inl (by decide)))).trans (((fu401 71 48 rfl).1).trans (((fu387 71 48 rfl).1).trans (((fu360 71 48 rfl).1).trans (((fu319 71 48 rfl).1).trans (((fu307 71 48 rfl).1).trans ((fu266 71 48 rfl).1)))))))
                    have lk416 : (((pI u401 103 v409.toNatClampNeg v412)).1 71 2).toInt = (u387.1 71 2).toInt := congrArg Int32.toInt (((pI_ne (a := 71) (b := 2) (c := 103) _ _ (Or.inl (by decide)))).trans ((fu401 71 2 rfl).1))
                    have lk417 : (((pI u401 103 v409.toNatClampNeg v412)).1 71 45).toInt = (u401.1 71 45).toInt := congrArg Int32.toInt ((pI_ne (a := 71) (b := 45) (c := 103) _ _ (Or.inl (by decide))))
                    have lk418 : (((pI u401 103 v409.toNatClampNeg v412)).1 71 47).toInt = v407.toInt := congrArg Int32.toInt (((pI_ne (a := 71) (b := 47) (c := 103) _ _ (Or.inl (by decide)))).trans (ev407))
                    have lk419 : (((pI u401 103 v409.toNatClampNeg v412)).1 71 2).toInt = (u387.1 71 2).toInt := congrArg Int32.toInt (((pI_ne (a := 71) (b := 2) (c := 103) _ _ (Or.inl (by decide)))).trans ((fu401 71 2 rfl).1))
                    have lk420 : (((pI u401 103 v409.toNatClampNeg v412)).1 71 5).toInt = v392.toInt := congrArg Int32.toInt (((pI_ne (a := 71) (b := 5) (c := 103) _ _ (Or.inl (by decide)))).trans (((fu401 71 5 rfl).1).trans (ev392)))
                    have lk421 : (((pI u401 103 v409.toNatClampNeg v412)).1 71 2).toInt = (u387.1 71 2).toInt := congrArg Int32.toInt (((pI_ne (a := 71) (b := 2) (c := 103) _ _ (Or.inl (by decide)))).trans ((fu401 71 2 rfl).1))
                    have lk422 : (((pI u401 103 v409.toNatClampNeg v412)).1 71 5).toInt = v392.toInt := congrArg Int32.toInt (((pI_ne (a := 71) (b := 5) (c := 103) _ _ (Or.inl (by decide)))).trans (((fu401 71 5 rfl).1).trans (ev392)))
                    have lk423 : (((pI u401 103 v409.toNatClampNeg v412)).1 71 6).toInt = (u387.1 71 6).toInt := congrArg Int32.toInt (((pI_ne (a := 71) (b := 6) (c := 103) _ _ (Or.inl (by decide)))).trans ((fu401 71 6 rfl).1))
                    exact r_zret C (n_bool (by omega)) (oDec_at oX12_goesOn 189 rfl) ⟨_, rfl, ⟨by omega, by first | (intro h; exfalso; omega) | exact fun _ => hq413, by first | (intro h; exfalso; omega) | exact fun _ => ⟨(by assumption), by first | (intro hb; exfalso; omega) | exact fun _ => oMk_c pu401 (by omega)⟩, by omega, by omega, by omega, by first | (intro h; exfalso; omega) | exact fun _ => hq414, by first | (intro h; exfalso; omega) | exact fun _ => (by assumption), by omega, by omega⟩⟩
                  · skip
                    have hq424 : oqJ g fp fq cz kx b 3 (u387) := oqJ_opF (s := u360) hq367 (by omega) hno (by omega) (by omega) (by omega)
                    refine r_iconst C (oDec_at oX12_goesOn 173 rfl) (v := k0) (by rw [qk0]; rfl) ?_
                    have lk425 : ((u387).1 71 48).toInt = (t.1 71 48).toInt := congrArg Int32.toInt (((fu387 71 48 rfl).1).trans (((fu360 71 48 rfl).1).trans (((fu319 71 48 rfl).1).trans (((fu307 71 48 rfl).1).trans ((fu266 71 48 rfl).1)))))
                    have lk426 : ((u387).1 71 45).toInt = (t.1 71 45).toInt := congrArg Int32.toInt (((fu387 71 45 rfl).1).trans (((fu360 71 45 rfl).1).trans (((fu319 71 45 rfl).1).trans (((fu307 71 45 rfl).1).trans ((fu266 71 45 rfl).1)))))
                    have lk427 : ((u387).1 71 47).toInt = (t.1 71 47).toInt := congrArg Int32.toInt (((fu387 71 47 rfl).1).trans (((fu360 71 47 rfl).1).trans (((fu319 71 47 rfl).1).trans (((fu307 71 47 rfl).1).trans ((fu266 71 47 rfl).1)))))
                    have lk428 : ((u387).1 71 5).toInt = v392.toInt := congrArg Int32.toInt (ev392)
                    have lk429 : ((u387).1 71 5).toInt = v392.toInt := congrArg Int32.toInt (ev392)
                    exact r_zret C (n_bool (by omega)) (oDec_at oX12_goesOn 174 rfl) ⟨_, rfl, ⟨by omega, by first | (intro h; exfalso; omega) | exact fun _ => (by assumption), by first | (intro h; exfalso; omega) | exact fun _ => ⟨(oQ_frb fu387 rfl (by omega) (oQ_fr fu360 rfl (oQ_fr fu319 rfl (oQ_fr fu307 rfl (oQ_fr fu266 rfl iv0))))), by first | (intro hb; exfalso; omega) | exact fun _ => oMk_c pu387 (by omega)⟩, by omega, by omega, by omega, by first | (intro h; exfalso; omega) | exact fun _ => (by assumption), by first | (intro h; exfalso; omega) | exact fun _ => hq424, by omega, by omega⟩⟩
                · skip
                  refine r_aload_n C (j := 0) (oDec_at oX12_goesOn 163 rfl) rfl rfl ?_
                  refine r_callVi C oCl12 rfl miX12_mark mlX12_304 (ct_X12_mark l E (u360)  ) (by decide) rfl rfl rfl (Nat.le_of_ble_eq_true rfl) (oDec_at oX12_goesOn 164 rfl) (fun r431 u430 pu430 fu430 => ?_)
                  try dsimp only at pu430
                  have hxu430 := oFr_nil fu430; subst hxu430
                  have rr431 := n_rng r431
                  have lk432 : ((u360).1 71 47).toInt = (t.1 71 47).toInt := congrArg Int32.toInt (((fu360 71 47 rfl).1).trans (((fu319 71 47 rfl).1).trans (((fu307 71 47 rfl).1).trans ((fu266 71 47 rfl).1))))
                  have lk433 : ((u360).1 71 55).toInt = (t.1 71 55).toInt := congrArg Int32.toInt (((fu360 71 55 rfl).1).trans (((fu319 71 55 rfl).1).trans (((fu307 71 55 rfl).1).trans ((fu266 71 55 rfl).1))))
                  have lk434 : ((u360).1 71 5).toInt = (t.1 71 5).toInt := congrArg Int32.toInt (((fu360 71 5 rfl).1).trans (((fu319 71 5 rfl).1).trans (((fu307 71 5 rfl).1).trans ((fu266 71 5 rfl).1))))
                  have hm6 := oqHs_mk (oQ_fr fu360 rfl (oQ_fr fu319 rfl (oQ_fr fu307 rfl (oQ_fr fu266 rfl iv0)))) (by omega) pu430 (by omega) (by omega) (by omega)
                  have hmu := oMk_u pu368 pu430
                  refine r_bipush C (oDec_at oX12_goesOn 165 rfl) (v := k22) (by rw [qk22]; rfl) ?_
                  refine r_icmp_ne C 358 (oDec_at oX12_goesOn 166 rfl) (by decide) (fun cd435 => ?_) (fun cd435 => ?_)
                  · skip
                    have lk436 : ((u360).1 71 4).toInt = (t.1 71 4).toInt := congrArg Int32.toInt (((fu360 71 4 rfl).1).trans (((fu319 71 4 rfl).1).trans (((fu307 71 4 rfl).1).trans ((fu266 71 4 rfl).1))))
                    have lk437 : ((u360).1 71 5).toInt = (t.1 71 5).toInt := congrArg Int32.toInt (((fu360 71 5 rfl).1).trans (((fu319 71 5 rfl).1).trans (((fu307 71 5 rfl).1).trans ((fu266 71 5 rfl).1))))
                    have lk438 : ((u360).1 71 48).toInt = (t.1 71 48).toInt := congrArg Int32.toInt (((fu360 71 48 rfl).1).trans (((fu319 71 48 rfl).1).trans (((fu307 71 48 rfl).1).trans ((fu266 71 48 rfl).1))))
                    have lk439 : ((u360).1 71 47).toInt = (t.1 71 47).toInt := congrArg Int32.toInt (((fu360 71 47 rfl).1).trans (((fu319 71 47 rfl).1).trans (((fu307 71 47 rfl).1).trans ((fu266 71 47 rfl).1))))
                    refine r_aload_n C (j := 0) (oDec_at oX12_goesOn 190 rfl) rfl rfl ?_
                    refine r_callVi C oCl12 rfl miX12_mark mlX12_304 (ct_X12_mark l E (u360)  ) (by decide) rfl rfl rfl (Nat.le_of_ble_eq_true rfl) (oDec_at oX12_goesOn 191 rfl) (fun r441 u440 pu440 fu440 => ?_)
                    try dsimp only at pu440
                    have hxu440 := oFr_nil fu440; subst hxu440
                    have rr441 := n_rng r441
                    have lk442 : ((u360).1 71 47).toInt = (t.1 71 47).toInt := congrArg Int32.toInt (((fu360 71 47 rfl).1).trans (((fu319 71 47 rfl).1).trans (((fu307 71 47 rfl).1).trans ((fu266 71 47 rfl).1))))
                    have lk443 : ((u360).1 71 55).toInt = (t.1 71 55).toInt := congrArg Int32.toInt (((fu360 71 55 rfl).1).trans (((fu319 71 55 rfl).1).trans (((fu307 71 55 rfl).1).trans ((fu266 71 55 rfl).1))))
                    have lk444 : ((u360).1 71 5).toInt = (t.1 71 5).toInt := congrArg Int32.toInt (((fu360 71 5 rfl).1).trans (((fu319 71 5 rfl).1).trans (((fu307 71 5 rfl).1).trans ((fu266 71 5 rfl).1))))
                    have hm7 := oqHs_mk (oQ_fr fu360 rfl (oQ_fr fu319 rfl (oQ_fr fu307 rfl (oQ_fr fu266 rfl iv0)))) (by omega) pu440 (by omega) (by omega) (by omega)
                    refine r_iconst C (oDec_at oX12_goesOn 192 rfl) (v := km1) (by rw [qkm1]; rfl) ?_
                    refine r_icmp_eq C 382 (oDec_at oX12_goesOn 193 rfl) (by decide) (fun cd445 => ?_) (fun cd445 => ?_)
                    · skip
                      have lk446 : ((u360).1 71 6).toInt = (t.1 71 6).toInt := congrArg Int32.toInt (((fu360 71 6 rfl).1).trans (((fu319 71 6 rfl).1).trans (((fu307 71 6 rfl).1).trans ((fu266 71 6 rfl).1))))
                      have hq447 : oqJ g fp fq cz kx b 3 (u360) := (by first | exact hq367 | exact oqJ_opF (s := u360) hq367 (by omega) hno (by omega) (by omega) (by omega))
                      refine r_iconst C (oDec_at oX12_goesOn 202 rfl) (v := k0) (by rw [qk0]; rfl) ?_
                      have lk448 : ((u360).1 71 48).toInt = (t.1 71 48).toInt := congrArg Int32.toInt (((fu360 71 48 rfl).1).trans (((fu319 71 48 rfl).1).trans (((fu307 71 48 rfl).1).trans ((fu266 71 48 rfl).1))))
                      have lk449 : ((u360).1 71 45).toInt = (t.1 71 45).toInt := congrArg Int32.toInt (((fu360 71 45 rfl).1).trans (((fu319 71 45 rfl).1).trans (((fu307 71 45 rfl).1).trans ((fu266 71 45 rfl).1))))
                      have lk450 : ((u360).1 71 47).toInt = (t.1 71 47).toInt := congrArg Int32.toInt (((fu360 71 47 rfl).1).trans (((fu319 71 47 rfl).1).trans (((fu307 71 47 rfl).1).trans ((fu266 71 47 rfl).1))))
                      have lk451 : ((u360).1 71 5).toInt = (t.1 71 5).toInt := congrArg Int32.toInt (((fu360 71 5 rfl).1).trans (((fu319 71 5 rfl).1).trans (((fu307 71 5 rfl).1).trans ((fu266 71 5 rfl).1))))
                      have lk452 : ((u360).1 71 5).toInt = (t.1 71 5).toInt := congrArg Int32.toInt (((fu360 71 5 rfl).1).trans (((fu319 71 5 rfl).1).trans (((fu307 71 5 rfl).1).trans ((fu266 71 5 rfl).1))))
                      have lk453 : ((u360).1 71 6).toInt = (t.1 71 6).toInt := congrArg Int32.toInt (((fu360 71 6 rfl).1).trans (((fu319 71 6 rfl).1).trans (((fu307 71 6 rfl).1).trans ((fu266 71 6 rfl).1))))
                      exact r_zret C (n_bool (by omega)) (oDec_at oX12_goesOn 203 rfl) ⟨_, rfl, ⟨by omega, by first | (intro h; exfalso; omega) | exact fun _ => (by assumption), by first | (intro h; exfalso; omega) | exact fun _ => ⟨(oQ_fr fu360 rfl (oQ_fr fu319 rfl (oQ_fr fu307 rfl (oQ_fr fu266 rfl iv0)))), by first | (intro hb; exfalso; omega) | exact fun _ => oMk_c pu440 (by omega)⟩, by omega, by omega, by omega, by first | (intro h; exfalso; omega) | exact fun _ => (by assumption), by first | (intro h; exfalso; omega) | exact fun _ => hq447, by omega, by omega⟩⟩
                    · skip
                      have lk454 : ((u360).1 71 5).toInt = (t.1 71 5).toInt := congrArg Int32.toInt (((fu360 71 5 rfl).1).trans (((fu319 71 5 rfl).1).trans (((fu307 71 5 rfl).1).trans ((fu266 71 5 rfl).1))))
                      refine r_aload_n C (j := 0) (oDec_at oX12_goesOn 194 rfl) rfl rfl ?_
                      obtain ⟨v455, ev455⟩ : ∃ z : Int32, (u360).1 71 5 = z := ⟨_, rfl⟩
                      have gv455 : (t.1 71 5).toInt = v455.toInt := congrArg Int32.toInt ((((fu360 71 5 rfl).1).trans (((fu319 71 5 rfl).1).trans (((fu307 71 5 rfl).1).trans ((fu266 71 5 rfl).1)))).symm.trans ev455)
                      have ggv455 : ((u360).1 71 5).toInt = v455.toInt := congrArg Int32.toInt ev455
                      have rv455 := n_rng v455
                      refine r_geti (k := 5) (lo := (-2147483648)) (hi := 2147483647) C v455 oCl12 rfl (by decide) flX12_173 rfl rfl (ev455) rfl rfl (oDec_at oX12_goesOn 195 rfl) (fun _ _ => ?_)
                      refine r_if_ne C 382 (oDec_at oX12_goesOn 196 rfl) (by decide) (fun cd456 => ?_) (fun cd456 => ?_)
                      · skip
                        have lk457 : ((u360).1 71 6).toInt = (t.1 71 6).toInt := congrArg Int32.toInt (((fu360 71 6 rfl).1).trans (((fu319 71 6 rfl).1).trans (((fu307 71 6 rfl).1).trans ((fu266 71 6 rfl).1))))
                        have hq458 : oqJ g fp fq cz kx b 3 (u360) := (by first | exact hq367 | exact oqJ_opF (s := u360) hq367 (by omega) hno (by omega) (by omega) (by omega))
                        refine r_iconst C (oDec_at oX12_goesOn 202 rfl) (v := k0) (by rw [qk0]; rfl) ?_
                        have lk459 : ((u360).1 71 48).toInt = (t.1 71 48).toInt := congrArg Int32.toInt (((fu360 71 48 rfl).1).trans (((fu319 71 48 rfl).1).trans (((fu307 71 48 rfl).1).trans ((fu266 71 48 rfl).1))))
                        have lk460 : ((u360).1 71 45).toInt = (t.1 71 45).toInt := congrArg Int32.toInt (((fu360 71 45 rfl).1).trans (((fu319 71 45 rfl).1).trans (((fu307 71 45 rfl).1).trans ((fu266 71 45 rfl).1))))
                        have lk461 : ((u360).1 71 47).toInt = (t.1 71 47).toInt := congrArg Int32.toInt (((fu360 71 47 rfl).1).trans (((fu319 71 47 rfl).1).trans (((fu307 71 47 rfl).1).trans ((fu266 71 47 rfl).1))))
                        have lk462 : ((u360).1 71 5).toInt = v455.toInt := congrArg Int32.toInt (ev455)
                        have lk463 : ((u360).1 71 5).toInt = v455.toInt := congrArg Int32.toInt (ev455)
                        have lk464 : ((u360).1 71 6).toInt = (t.1 71 6).toInt := congrArg Int32.toInt (((fu360 71 6 rfl).1).trans (((fu319 71 6 rfl).1).trans (((fu307 71 6 rfl).1).trans ((fu266 71 6 rfl).1))))
                        exact r_zret C (n_bool (by omega)) (oDec_at oX12_goesOn 203 rfl) ⟨_, rfl, ⟨by omega, by first | (intro h; exfalso; omega) | exact fun _ => (by assumption), by first | (intro h; exfalso; omega) | exact fun _ => ⟨(oQ_fr fu360 rfl (oQ_fr fu319 rfl (oQ_fr fu307 rfl (oQ_fr fu266 rfl iv0)))), by first | (intro hb; exfalso; omega) | exact fun _ => oMk_c pu440 (by omega)⟩, by omega, by omega, by omega, by first | (intro h; exfalso; omega) | exact fun _ => (by assumption), by first | (intro h; exfalso; omega) | exact fun _ => hq458, by omega, by omega⟩⟩
                      · skip
                        refine r_aload_n C (j := 0) (oDec_at oX12_goesOn 197 rfl) rfl rfl ?_
                        refine r_iconst C (oDec_at oX12_goesOn 198 rfl) (v := k1) (by rw [qk1]; rfl) ?_
                        refine r_aload_n C (j := 0) (oDec_at oX12_goesOn 199 rfl) rfl rfl ?_
                        obtain ⟨v465, ev465⟩ : ∃ z : Int32, (u360).1 71 2 = z := ⟨_, rfl⟩
                        have gv465 : (u360.1 71 2).toInt = v465.toInt := congrArg Int32.toInt (ev465)
                        refine r_geti (k := 2) (lo := 0) (hi := 1600) C v465 oCl12 rfl (by decide) flX12_179 rfl rfl (ev465) rfl rfl (oDec_at oX12_goesOn 200 rfl) (fun b466 b466h => ?_)
                        have lk467 : ((u360).1 71 5).toInt = v455.toInt := congrArg Int32.toInt (ev455)
                        have lk468 : ((u360).1 71 5).toInt = v455.toInt := congrArg Int32.toInt (ev455)
                        have lk469 : ((u360).1 71 6).toInt = (t.1 71 6).toInt := congrArg Int32.toInt (((fu360 71 6 rfl).1).trans (((fu319 71 6 rfl).1).trans (((fu307 71 6 rfl).1).trans ((fu266 71 6 rfl).1))))
                        refine r_callVv C oCl12 rfl miX12_fail mlX12_203 (ct4_X12_fail l E (u360) k1 v465 ) (by decide) rfl rfl rfl (Nat.le_of_ble_eq_true rfl) (oDec_at oX12_goesOn 201 rfl) (fun u470 pu470 fu470 => ?_)
                        try dsimp only at pu470
                        try simp only [lk467, lk468, lk469] at pu470
                        obtain ⟨pu470_0, pu470_1⟩ := pu470
                        have hq472 : oqJ g fp fq cz kx b 3 (u470) := (by first | exact (by assumption) | exact oqJ_opF (s := u360) hq367 (by omega) hno (by omega) (by omega) (by omega))
                        refine r_iconst C (oDec_at oX12_goesOn 202 rfl) (v := k0) (by rw [qk0]; rfl) ?_
                        refine r_pc C 383 rfl ?_
                        have lk473 : ((u470).1 71 48).toInt = (t.1 71 48).toInt := congrArg Int32.toInt (((fu470 71 48 rfl).1).trans (((fu360 71 48 rfl).1).trans (((fu319 71 48 rfl).1).trans (((fu307 71 48 rfl).1).trans ((fu266 71 48 rfl).1)))))
                        have lk474 : ((u470).1 71 2).toInt = v465.toInt := congrArg Int32.toInt (((fu470 71 2 rfl).1).trans (ev465))
                        have lk475 : ((u470).1 71 45).toInt = (t.1 71 45).toInt := congrArg Int32.toInt (((fu470 71 45 rfl).1).trans (((fu360 71 45 rfl).1).trans (((fu319 71 45 rfl).1).trans (((fu307 71 45 rfl).1).trans ((fu266 71 45 rfl).1)))))
                        have lk476 : ((u470).1 71 47).toInt = (t.1 71 47).toInt := congrArg Int32.toInt (((fu470 71 47 rfl).1).trans (((fu360 71 47 rfl).1).trans (((fu319 71 47 rfl).1).trans (((fu307 71 47 rfl).1).trans ((fu266 71 47 rfl).1)))))
                        have lk477 : ((u470).1 71 2).toInt = v465.toInt := congrArg Int32.toInt (((fu470 71 2 rfl).1).trans (ev465))
                        have lk478 : ((u470).1 71 2).toInt = v465.toInt := congrArg Int32.toInt (((fu470 71 2 rfl).1).trans (ev465))
                        exact r_zret C (n_bool (by omega)) (oDec_at oX12_goesOn 203 rfl) ⟨_, rfl, ⟨by omega, by first | (intro h; exfalso; omega) | exact fun _ => (by assumption), by first | (intro h; exfalso; omega) | exact fun _ => ⟨(oQ_frb fu470 rfl (by omega) (oQ_fr fu360 rfl (oQ_fr fu319 rfl (oQ_fr fu307 rfl (oQ_fr fu266 rfl iv0))))), by first | (intro hb; exfalso; omega) | exact fun _ => oMk_c pu470 (by omega)⟩, by omega, by omega, by omega, by first | (intro h; exfalso; omega) | exact fun _ => (by assumption), by first | (intro h; exfalso; omega) | exact fun _ => hq472, by omega, by omega⟩⟩
                  · skip
                    have lk479 : ((u360).1 71 45).toInt = (t.1 71 45).toInt := congrArg Int32.toInt (((fu360 71 45 rfl).1).trans (((fu319 71 45 rfl).1).trans (((fu307 71 45 rfl).1).trans ((fu266 71 45 rfl).1))))
                    have lk480 : ((u360).1 71 47).toInt = (t.1 71 47).toInt := congrArg Int32.toInt (((fu360 71 47 rfl).1).trans (((fu319 71 47 rfl).1).trans (((fu307 71 47 rfl).1).trans ((fu266 71 47 rfl).1))))
                    have lk481 : ((u360).1 71 48).toInt = (t.1 71 48).toInt := congrArg Int32.toInt (((fu360 71 48 rfl).1).trans (((fu319 71 48 rfl).1).trans (((fu307 71 48 rfl).1).trans ((fu266 71 48 rfl).1))))
                    have lk482 : ((u360).1 71 4).toInt = (t.1 71 4).toInt := congrArg Int32.toInt (((fu360 71 4 rfl).1).trans (((fu319 71 4 rfl).1).trans (((fu307 71 4 rfl).1).trans ((fu266 71 4 rfl).1))))
                    have lk483 : ((u360).1 71 5).toInt = (t.1 71 5).toInt := congrArg Int32.toInt (((fu360 71 5 rfl).1).trans (((fu319 71 5 rfl).1).trans (((fu307 71 5 rfl).1).trans ((fu266 71 5 rfl).1))))
                    have hq484 : oMk (r431.toInt) (u360) := pu430
                    have hq485 : oqK b (oqSg ((u360).1 103) b (((u360).1 71 47).toNatClampNeg - b)) (u360) := rfl
                    refine r_aload_n C (j := 0) (oDec_at oX12_goesOn 167 rfl) rfl rfl ?_
                    refine r_bipush C (oDec_at oX12_goesOn 168 rfl) (v := k44) (by rw [qk44]; rfl) ?_
                    have lk486 : ((u360).1 71 5).toInt = (t.1 71 5).toInt := congrArg Int32.toInt (((fu360 71 5 rfl).1).trans (((fu319 71 5 rfl).1).trans (((fu307 71 5 rfl).1).trans ((fu266 71 5 rfl).1))))
                    have lk487 : ((u360).1 71 5).toInt = (t.1 71 5).toInt := congrArg Int32.toInt (((fu360 71 5 rfl).1).trans (((fu319 71 5 rfl).1).trans (((fu307 71 5 rfl).1).trans ((fu266 71 5 rfl).1))))
                    have lk488 : ((u360).1 71 6).toInt = (t.1 71 6).toInt := congrArg Int32.toInt (((fu360 71 6 rfl).1).trans (((fu319 71 6 rfl).1).trans (((fu307 71 6 rfl).1).trans ((fu266 71 6 rfl).1))))
                    have lk489 : ((u360).1 71 5).toInt = (t.1 71 5).toInt := congrArg Int32.toInt (((fu360 71 5 rfl).1).trans (((fu319 71 5 rfl).1).trans (((fu307 71 5 rfl).1).trans ((fu266 71 5 rfl).1))))
                    have lk490 : ((u360).1 71 6).toInt = (t.1 71 6).toInt := congrArg Int32.toInt (((fu360 71 6 rfl).1).trans (((fu319 71 6 rfl).1).trans (((fu307 71 6 rfl).1).trans ((fu266 71 6 rfl).1))))
                    have lk491 : ((u360).1 71 5).toInt = (t.1 71 5).toInt := congrArg Int32.toInt (((fu360 71 5 rfl).1).trans (((fu319 71 5 rfl).1).trans (((fu307 71 5 rfl).1).trans ((fu266 71 5 rfl).1))))
                    refine r_callVv C oCl12 rfl miX12_asksSign mlX12_248 (ct6_X12_asksSign l E (u360) k44 (g) ((t.1 71 2).toInt) (44) (by omega) (oqZ_fr fu360 rfl (oqZ_fr fu319 rfl (oqZ_fr fu307 rfl (oqZ_fr fu266 rfl iv7)))) (by omega) (by omega)) (by decide) rfl rfl rfl (Nat.le_of_ble_eq_true rfl) (oDec_at oX12_goesOn 169 rfl) (fun u492 pu492 fu492 => ?_)
                    try dsimp only at pu492
                    try simp only [lk486, lk487, lk488, lk489, lk490, lk491] at pu492
                    obtain ⟨pu492_0, pu492_1, pu492_2, pu492_3⟩ := pu492
                    have lk494 : ((u492).1 71 4).toInt = (t.1 71 4).toInt := congrArg Int32.toInt (((fu492 71 4 rfl).1).trans (((fu360 71 4 rfl).1).trans (((fu319 71 4 rfl).1).trans (((fu307 71 4 rfl).1).trans ((fu266 71 4 rfl).1)))))
                    have lk495 : ((u492).1 71 48).toInt = (t.1 71 48).toInt := congrArg Int32.toInt (((fu492 71 48 rfl).1).trans (((fu360 71 48 rfl).1).trans (((fu319 71 48 rfl).1).trans (((fu307 71 48 rfl).1).trans ((fu266 71 48 rfl).1)))))
                    have lk496 : ((u492).1 71 47).toInt = (t.1 71 47).toInt := congrArg Int32.toInt (((fu492 71 47 rfl).1).trans (((fu360 71 47 rfl).1).trans (((fu319 71 47 rfl).1).trans (((fu307 71 47 rfl).1).trans ((fu266 71 47 rfl).1)))))
                    refine r_aload_n C (j := 0) (oDec_at oX12_goesOn 170 rfl) rfl rfl ?_
                    obtain ⟨v497, ev497⟩ : ∃ z : Int32, (u492).1 71 5 = z := ⟨_, rfl⟩
                    have gv497 : (u492.1 71 5).toInt = v497.toInt := congrArg Int32.toInt (ev497)
                    have rv497 := n_rng v497
                    refine r_geti (k := 5) (lo := (-2147483648)) (hi := 2147483647) C v497 oCl12 rfl (by decide) flX12_173 rfl rfl (ev497) rfl rfl (oDec_at oX12_goesOn 171 rfl) (fun _ _ => ?_)
                    refine r_if_eq C 337 (oDec_at oX12_goesOn 172 rfl) (by decide) (fun cd498 => ?_) (fun cd498 => ?_)
                    · skip
                      refine r_aload_n C (j := 0) (oDec_at oX12_goesOn 175 rfl) rfl rfl ?_
                      have lk499 : ((u492).1 71 55).toInt = (t.1 71 55).toInt := congrArg Int32.toInt (((fu492 71 55 rfl).1).trans (((fu360 71 55 rfl).1).trans (((fu319 71 55 rfl).1).trans (((fu307 71 55 rfl).1).trans ((fu266 71 55 rfl).1)))))
                      have lk500 : ((u492).1 71 5).toInt = v497.toInt := congrArg Int32.toInt (ev497)
                      have lk501 : ((u492).1 71 45).toInt = (t.1 71 45).toInt := congrArg Int32.toInt (((fu492 71 45 rfl).1).trans (((fu360 71 45 rfl).1).trans (((fu319 71 45 rfl).1).trans (((fu307 71 45 rfl).1).trans ((fu266 71 45 rfl).1)))))
                      have lk502 : ((u492).1 71 47).toInt = (t.1 71 47).toInt := congrArg Int32.toInt (((fu492 71 47 rfl).1).trans (((fu360 71 47 rfl).1).trans (((fu319 71 47 rfl).1).trans (((fu307 71 47 rfl).1).trans ((fu266 71 47 rfl).1)))))
                      have lk503 : ((u492).1 71 45).toInt = (t.1 71 45).toInt := congrArg Int32.toInt (((fu492 71 45 rfl).1).trans (((fu360 71 45 rfl).1).trans (((fu319 71 45 rfl).1).trans (((fu307 71 45 rfl).1).trans ((fu266 71 45 rfl).1)))))
                      have lk504 : ((u492).1 71 47).toInt = (t.1 71 47).toInt := congrArg Int32.toInt (((fu492 71 47 rfl).1).trans (((fu360 71 47 rfl).1).trans (((fu319 71 47 rfl).1).trans (((fu307 71 47 rfl).1).trans ((fu266 71 47 rfl).1)))))
                      have lk505 : ((u492).1 71 47).toInt = (t.1 71 47).toInt := congrArg Int32.toInt (((fu492 71 47 rfl).1).trans (((fu360 71 47 rfl).1).trans (((fu319 71 47 rfl).1).trans (((fu307 71 47 rfl).1).trans ((fu266 71 47 rfl).1)))))
                      refine r_callVv C oCl12 rfl miX12_dropsToMark mlX12_307 (ct5_X12_dropsToMark l E (u492)  (b) (x + 1) (r431.toInt) (oqSg ((u360).1 103) b (((u360).1 71 47).toNatClampNeg - b)) (oQ_frb fu492 rfl (by omega) (oQ_fr fu360 rfl (oQ_fr fu319 rfl (oQ_fr fu307 rfl (oQ_fr fu266 rfl iv0))))) (oMk_fr fu492 rfl hq484) (by omega) (by omega) (by omega) (by omega) (oqK_fr fu492 rfl hq485)) (by decide) rfl rfl rfl (Nat.le_of_ble_eq_true rfl) (oDec_at oX12_goesOn 176 rfl) (fun u506 pu506 fu506 => ?_)
                      try dsimp only at pu506
                      try simp only [lk499, lk500, lk501, lk502, lk503, lk504, lk505] at pu506
                      obtain ⟨pu506_0, pu506_1, pu506_2, pu506_3, pu506_4⟩ := pu506
                      have lk508 : ((u506).1 71 5).toInt = v497.toInt := congrArg Int32.toInt (((fu506 71 5 rfl).1).trans (ev497))
                      have lk509 : ((u506).1 71 48).toInt = (t.1 71 48).toInt := congrArg Int32.toInt (((fu506 71 48 rfl).1).trans (((fu492 71 48 rfl).1).trans (((fu360 71 48 rfl).1).trans (((fu319 71 48 rfl).1).trans (((fu307 71 48 rfl).1).trans ((fu266 71 48 rfl).1))))))
                      have lk510 : ((u506).1 71 2).toInt = (u492.1 71 2).toInt := congrArg Int32.toInt ((fu506 71 2 rfl).1)
                      have lk511 : ((u506).1 71 4).toInt = (t.1 71 4).toInt := congrArg Int32.toInt (((fu506 71 4 rfl).1).trans (((fu492 71 4 rfl).1).trans (((fu360 71 4 rfl).1).trans (((fu319 71 4 rfl).1).trans (((fu307 71 4 rfl).1).trans ((fu266 71 4 rfl).1))))))
                      have htp := pu506_3 (by omega)
                      refine r_aload_n C (j := 0) (oDec_at oX12_goesOn 177 rfl) rfl rfl ?_
                      refine r_getF (k := 46) (b := 103) C oCl12 rfl (by decide) flX12_111 rfl rfl rfl (oDec_at oX12_goesOn 178 rfl) ?_
                      refine r_aload_n C (j := 0) (oDec_at oX12_goesOn 179 rfl) rfl rfl ?_
                      obtain ⟨v512, ev512⟩ : ∃ z : Int32, (u506).1 71 47 = z := ⟨_, rfl⟩
                      have gv512 : (u506.1 71 47).toInt = v512.toInt := congrArg Int32.toInt (ev512)
                      refine r_geti (k := 47) (lo := 0) (hi := 1700) C v512 oCl12 rfl (by decide) flX12_277 rfl rfl (ev512) rfl rfl (oDec_at oX12_goesOn 180 rfl) (fun b513 b513h => ?_)
                      refine r_pc C 349 rfl ?_
                      refine r_iconst C (oDec_at oX12_goesOn 181 rfl) (v := k1) (by rw [qk1]; rfl) ?_
                      obtain ⟨v514, ev514⟩ : ∃ z : Int32, z = v512 - k1 := ⟨_, rfl⟩
                      have hv514 : v514.toInt = v512.toInt - k1.toInt := n_sub ev514 (by omega) (by omega)
                      refine r_isub C v514 (oDec_at oX12_goesOn 182 rfl) ev514 ?_
                      refine r_dup2 C (oDec_at oX12_goesOn 183 rfl) rfl rfl ?_
                      obtain ⟨v516, ev516⟩ : ∃ z : Int32, (u506).1 103 v514.toNatClampNeg = z := ⟨_, rfl⟩
                      have av516 : t.1 103 v514.toNatClampNeg = v516 := (((fu506 103 v514.toNatClampNeg rfl).1).trans (((fu492 103 v514.toNatClampNeg rfl).1).trans (((fu360 103 v514.toNatClampNeg rfl).1).trans (((fu319 103 v514.toNatClampNeg rfl).1).trans (((fu307 103 v514.toNatClampNeg rfl).1).trans ((fu266 103 v514.toNatClampNeg rfl).1)))))).symm.trans ev516
                      have gv516 : (t.1 103 v514.toNatClampNeg).toInt = v516.toInt := congrArg Int32.toInt ((((fu506 103 v514.toNatClampNeg rfl).1).trans (((fu492 103 v514.toNatClampNeg rfl).1).trans (((fu360 103 v514.toNatClampNeg rfl).1).trans (((fu319 103 v514.toNatClampNeg rfl).1).trans (((fu307 103 v514.toNatClampNeg rfl).1).trans ((fu266 103 v514.toNatClampNeg rfl).1)))))).symm.trans ev516)
                      have rv516 := n_rng v516
                      refine r_iald (n := 1700) (lo := (-2147483648)) (hi := 2147483647) C v516 rfl (by decide) rfl rfl ⟨by omega, by omega⟩ (by decide) ev516 rfl rfl (oDec_at oX12_goesOn 184 rfl) (fun _ _ => ?_)
                      have hv0 := oTop_of (s := u506) (i := v514) ev516 (by omega)
                      refine r_iconst C (oDec_at oX12_goesOn 185 rfl) (v := k2) (by rw [qk2]; rfl) ?_
                      obtain ⟨v517, ev517⟩ : ∃ z : Int32, z = v516 + k2 := ⟨_, rfl⟩
                      have hv517 : v517.toInt = v516.toInt + k2.toInt := n_add ev517 (by omega) (by omega)
                      refine r_iadd C v517 (oDec_at oX12_goesOn 186 rfl) ev517 ?_
                      refine r_pc C 355 rfl ?_
                      refine r_iast (n := 1700) (lo := (-2147483648)) (hi := 2147483647) C rfl (by decide) rfl rfl ⟨by omega, by omega⟩ (by decide) rfl rfl rfl rfl (n_rng _) (oDec_at oX12_goesOn 187 rfl) ?_
                      have hq518 : oQ b x ((pI u506 103 v514.toNatClampNeg v517)) := oQ_comma (x := x) pu506_0 (by omega) (by omega) (by assumption) (by omega)
                      have hq519 : oqJ g fp fq cz kx b 1 ((pI u506 103 v514.toNatClampNeg v517)) := oqJ_cm (s := u360) hq367 (by omega) (by omega) ((oFr_row fu506 (c := 103) rfl rfl).trans (oFr_row fu492 (c := 103) rfl rfl)) (by omega) (by omega) (by omega) (by omega) pu506_4 (by omega) (by omega) (by omega) (by omega)
                      refine r_iconst C (oDec_at oX12_goesOn 188 rfl) (v := k1) (by rw [qk1]; rfl) ?_
                      have lk520 : (((pI u506 103 v514.toNatClampNeg v517)).1 71 48).toInt = (t.1 71 48).toInt := congrArg Int32.toInt (((pI_ne (a := 71) (b := 48) (c := 103) _ _ (Or.inl (by decide)))).trans (((fu506 71 48 rfl).1).trans (((fu492 71 48 rfl).1).trans (((fu360 71 48 rfl).1).trans (((fu319 71 48 rfl).1).trans (((fu307 71 48 rfl).1).trans ((fu266 71 48 rfl).1)))))))
                      have lk521 : (((pI u506 103 v514.toNatClampNeg v517)).1 71 2).toInt = (u492.1 71 2).toInt := congrArg Int32.toInt (((pI_ne (a := 71) (b := 2) (c := 103) _ _ (Or.inl (by decide)))).trans ((fu506 71 2 rfl).1))
                      have lk522 : (((pI u506 103 v514.toNatClampNeg v517)).1 71 45).toInt = (u506.1 71 45).toInt := congrArg Int32.toInt ((pI_ne (a := 71) (b := 45) (c := 103) _ _ (Or.inl (by decide))))
                      have lk523 : (((pI u506 103 v514.toNatClampNeg v517)).1 71 47).toInt = v512.toInt := congrArg Int32.toInt (((pI_ne (a := 71) (b := 47) (c := 103) _ _ (Or.inl (by decide)))).trans (ev512))
                      have lk524 : (((pI u506 103 v514.toNatClampNeg v517)).1 71 2).toInt = (u492.1 71 2).toInt := congrArg Int32.toInt (((pI_ne (a := 71) (b := 2) (c := 103) _ _ (Or.inl (by decide)))).trans ((fu506 71 2 rfl).1))
                      have lk525 : (((pI u506 103 v514.toNatClampNeg v517)).1 71 5).toInt = v497.toInt := congrArg Int32.toInt (((pI_ne (a := 71) (b := 5) (c := 103) _ _ (Or.inl (by decide)))).trans (((fu506 71 5 rfl).1).trans (ev497)))
                      have lk526 : (((pI u506 103 v514.toNatClampNeg v517)).1 71 2).toInt = (u492.1 71 2).toInt := congrArg Int32.toInt (((pI_ne (a := 71) (b := 2) (c := 103) _ _ (Or.inl (by decide)))).trans ((fu506 71 2 rfl).1))
                      have lk527 : (((pI u506 103 v514.toNatClampNeg v517)).1 71 5).toInt = v497.toInt := congrArg Int32.toInt (((pI_ne (a := 71) (b := 5) (c := 103) _ _ (Or.inl (by decide)))).trans (((fu506 71 5 rfl).1).trans (ev497)))
                      have lk528 : (((pI u506 103 v514.toNatClampNeg v517)).1 71 6).toInt = (u492.1 71 6).toInt := congrArg Int32.toInt (((pI_ne (a := 71) (b := 6) (c := 103) _ _ (Or.inl (by decide)))).trans ((fu506 71 6 rfl).1))
                      exact r_zret C (n_bool (by omega)) (oDec_at oX12_goesOn 189 rfl) ⟨_, rfl, ⟨by omega, by first | (intro h; exfalso; omega) | exact fun _ => hq518, by first | (intro h; exfalso; omega) | exact fun _ => ⟨(by assumption), by first | (intro hb; exfalso; omega) | exact fun _ => oMk_c pu506 (by omega)⟩, by omega, by omega, by omega, by first | (intro h; exfalso; omega) | exact fun _ => hq519, by first | (intro h; exfalso; omega) | exact fun _ => (by assumption), by omega, by omega⟩⟩
                    · skip
                      have hq529 : oqJ g fp fq cz kx b 3 (u492) := oqJ_opF (s := u360) hq367 (by omega) hno (by omega) (by omega) (by omega)
                      refine r_iconst C (oDec_at oX12_goesOn 173 rfl) (v := k0) (by rw [qk0]; rfl) ?_
                      have lk530 : ((u492).1 71 48).toInt = (t.1 71 48).toInt := congrArg Int32.toInt (((fu492 71 48 rfl).1).trans (((fu360 71 48 rfl).1).trans (((fu319 71 48 rfl).1).trans (((fu307 71 48 rfl).1).trans ((fu266 71 48 rfl).1)))))
                      have lk531 : ((u492).1 71 45).toInt = (t.1 71 45).toInt := congrArg Int32.toInt (((fu492 71 45 rfl).1).trans (((fu360 71 45 rfl).1).trans (((fu319 71 45 rfl).1).trans (((fu307 71 45 rfl).1).trans ((fu266 71 45 rfl).1)))))
                      have lk532 : ((u492).1 71 47).toInt = (t.1 71 47).toInt := congrArg Int32.toInt (((fu492 71 47 rfl).1).trans (((fu360 71 47 rfl).1).trans (((fu319 71 47 rfl).1).trans (((fu307 71 47 rfl).1).trans ((fu266 71 47 rfl).1)))))
                      have lk533 : ((u492).1 71 5).toInt = v497.toInt := congrArg Int32.toInt (ev497)
                      have lk534 : ((u492).1 71 5).toInt = v497.toInt := congrArg Int32.toInt (ev497)
                      exact r_zret C (n_bool (by omega)) (oDec_at oX12_goesOn 174 rfl) ⟨_, rfl, ⟨by omega, by first | (intro h; exfalso; omega) | exact fun _ => (by assumption), by first | (intro h; exfalso; omega) | exact fun _ => ⟨(oQ_frb fu492 rfl (by omega) (oQ_fr fu360 rfl (oQ_fr fu319 rfl (oQ_fr fu307 rfl (oQ_fr fu266 rfl iv0))))), by first | (intro hb; exfalso; omega) | exact fun _ => oMk_c pu492 (by omega)⟩, by omega, by omega, by omega, by first | (intro h; exfalso; omega) | exact fun _ => (by assumption), by first | (intro h; exfalso; omega) | exact fun _ => hq529, by omega, by omega⟩⟩
              · skip
                replace pu360_1 := pu360_1 (by omega)
                clear pu360_2
                have lk535 : ((u360).1 71 4).toInt = (t.1 71 4).toInt := congrArg Int32.toInt (((fu360 71 4 rfl).1).trans (((fu319 71 4 rfl).1).trans (((fu307 71 4 rfl).1).trans ((fu266 71 4 rfl).1))))
                have lk536 : ((u360).1 71 5).toInt = (t.1 71 5).toInt := congrArg Int32.toInt (((fu360 71 5 rfl).1).trans (((fu319 71 5 rfl).1).trans (((fu307 71 5 rfl).1).trans ((fu266 71 5 rfl).1))))
                have lk537 : ((u360).1 71 48).toInt = (t.1 71 48).toInt := congrArg Int32.toInt (((fu360 71 48 rfl).1).trans (((fu319 71 48 rfl).1).trans (((fu307 71 48 rfl).1).trans ((fu266 71 48 rfl).1))))
                have lk538 : ((u360).1 71 47).toInt = (t.1 71 47).toInt := congrArg Int32.toInt (((fu360 71 47 rfl).1).trans (((fu319 71 47 rfl).1).trans (((fu307 71 47 rfl).1).trans ((fu266 71 47 rfl).1))))
                have hq539 : oqJ g fp fq cz kx b 1 (u360) := oqJ_go hq355 (by omega) (by omega) (oFr_row fu360 (c := 103) rfl rfl) (congrArg Int32.toInt (fu360 71 47 rfl).1) (oqs_op (g := g) (p := fp) (q := fq) (a := (t.1 71 2).toInt) (b := (t.1 71 4).toInt) (o := (t.1 71 48).toInt) (by unfold oqOp; omega)) (by rw [show ((u319).1 71 2).toInt = (t.1 71 2).toInt by omega]; omega) (by first | omega | (congr 1; omega)) (by first | omega | (congr 1; omega)) (by first | omega | (congr 1; omega)) (by first | omega | (congr 1; omega)) (by first | omega | (congr 1; omega))
                refine r_aload_n C (j := 0) (oDec_at oX12_goesOn 113 rfl) rfl rfl ?_
                refine r_getF (k := 0) (b := 72) C oCl12 rfl (by decide) flX12_7 rfl rfl rfl (oDec_at oX12_goesOn 114 rfl) ?_
                refine r_aload_n C (j := 0) (oDec_at oX12_goesOn 115 rfl) rfl rfl ?_
                obtain ⟨v540, ev540⟩ : ∃ z : Int32, (u360).1 71 2 = z := ⟨_, rfl⟩
                have gv540 : (u360.1 71 2).toInt = v540.toInt := congrArg Int32.toInt (ev540)
                refine r_geti (k := 2) (lo := 0) (hi := 1600) C v540 oCl12 rfl (by decide) flX12_179 rfl rfl (ev540) rfl rfl (oDec_at oX12_goesOn 116 rfl) (fun b541 b541h => ?_)
                refine r_iconst C (oDec_at oX12_goesOn 117 rfl) (v := k1) (by rw [qk1]; rfl) ?_
                obtain ⟨v542, ev542⟩ : ∃ z : Int32, z = v540 - k1 := ⟨_, rfl⟩
                have hv542 : v542.toInt = v540.toInt - k1.toInt := n_sub ev542 (by omega) (by omega)
                refine r_isub C v542 (oDec_at oX12_goesOn 118 rfl) ev542 ?_
                refine r_pc C 231 rfl ?_
                obtain ⟨v544, ev544⟩ : ∃ z : Int32, (u360).1 72 v542.toNatClampNeg = z := ⟨_, rfl⟩
                have av544 : t.1 72 v542.toNatClampNeg = v544 := (((fu360 72 v542.toNatClampNeg rfl).1).trans (((fu319 72 v542.toNatClampNeg rfl).1).trans (((fu307 72 v542.toNatClampNeg rfl).1).trans ((fu266 72 v542.toNatClampNeg rfl).1)))).symm.trans ev544
                have gv544 : (t.1 72 v542.toNatClampNeg).toInt = v544.toInt := congrArg Int32.toInt ((((fu360 72 v542.toNatClampNeg rfl).1).trans (((fu319 72 v542.toNatClampNeg rfl).1).trans (((fu307 72 v542.toNatClampNeg rfl).1).trans ((fu266 72 v542.toNatClampNeg rfl).1)))).symm.trans ev544)
                refine r_iald (n := 1600) (lo := 0) (hi := 255) C v544 rfl (by decide) rfl rfl ⟨by omega, by omega⟩ (by decide) ev544 rfl rfl (oDec_at oX12_goesOn 119 rfl) (fun b543 b543h => ?_)
                refine r_bipush C (oDec_at oX12_goesOn 120 rfl) (v := k43) (by rw [qk43]; rfl) ?_
                refine r_icmp_ne C 241 (oDec_at oX12_goesOn 121 rfl) (by decide) (fun cd545 => ?_) (fun cd545 => ?_)
                · skip
                  refine r_iconst C (oDec_at oX12_goesOn 124 rfl) (v := k2) (by rw [qk2]; rfl) ?_
                  refine r_istore_n C (lv' := [(0, .ref (oad E 71)), (1, .int k2)]) [1, 0] (oDec_at oX12_goesOn 125 rfl) rfl (by decide) rfl ?_
                  have lk546 : ((u360).1 71 5).toInt = (t.1 71 5).toInt := congrArg Int32.toInt (((fu360 71 5 rfl).1).trans (((fu319 71 5 rfl).1).trans (((fu307 71 5 rfl).1).trans ((fu266 71 5 rfl).1))))
                  have lk547 : ((u360).1 71 48).toInt = (t.1 71 48).toInt := congrArg Int32.toInt (((fu360 71 48 rfl).1).trans (((fu319 71 48 rfl).1).trans (((fu307 71 48 rfl).1).trans ((fu266 71 48 rfl).1))))
                  have lk548 : ((u360).1 71 2).toInt = v540.toInt := congrArg Int32.toInt (ev540)
                  have lk549 : ((u360).1 71 45).toInt = (t.1 71 45).toInt := congrArg Int32.toInt (((fu360 71 45 rfl).1).trans (((fu319 71 45 rfl).1).trans (((fu307 71 45 rfl).1).trans ((fu266 71 45 rfl).1))))
                  have lk550 : ((u360).1 71 47).toInt = (t.1 71 47).toInt := congrArg Int32.toInt (((fu360 71 47 rfl).1).trans (((fu319 71 47 rfl).1).trans (((fu307 71 47 rfl).1).trans ((fu266 71 47 rfl).1))))
                  have lk551 : ((u360).1 71 2).toInt = v540.toInt := congrArg Int32.toInt (ev540)
                  have lk552 : ((u360).1 71 5).toInt = (t.1 71 5).toInt := congrArg Int32.toInt (((fu360 71 5 rfl).1).trans (((fu319 71 5 rfl).1).trans (((fu307 71 5 rfl).1).trans ((fu266 71 5 rfl).1))))
                  have lk553 : ((u360).1 71 6).toInt = (t.1 71 6).toInt := congrArg Int32.toInt (((fu360 71 6 rfl).1).trans (((fu319 71 6 rfl).1).trans (((fu307 71 6 rfl).1).trans ((fu266 71 6 rfl).1))))
                  have lk554 : ((u360).1 71 47).toInt = (t.1 71 47).toInt := congrArg Int32.toInt (((fu360 71 47 rfl).1).trans (((fu319 71 47 rfl).1).trans (((fu307 71 47 rfl).1).trans ((fu266 71 47 rfl).1))))
                  exact (ih (n - 1) (by omega)).2.2.2 (u360) k2  (oQ_fr fu360 rfl (oQ_fr fu319 rfl (oQ_fr fu307 rfl (oQ_fr fu266 rfl iv0)))) (by omega) (by omega) (by omega) (by omega) (by omega) hq539 (by omega) (by omega)
                · skip
                  refine r_iconst C (oDec_at oX12_goesOn 122 rfl) (v := k1) (by rw [qk1]; rfl) ?_
                  refine r_goto C (tgt := 242) (oDec_at oX12_goesOn 123 rfl) (by decide) ?_
                  refine r_istore_n C (lv' := [(0, .ref (oad E 71)), (1, .int k1)]) [1, 0] (oDec_at oX12_goesOn 125 rfl) rfl (by decide) rfl ?_
                  have lk555 : ((u360).1 71 5).toInt = (t.1 71 5).toInt := congrArg Int32.toInt (((fu360 71 5 rfl).1).trans (((fu319 71 5 rfl).1).trans (((fu307 71 5 rfl).1).trans ((fu266 71 5 rfl).1))))
                  have lk556 : ((u360).1 71 48).toInt = (t.1 71 48).toInt := congrArg Int32.toInt (((fu360 71 48 rfl).1).trans (((fu319 71 48 rfl).1).trans (((fu307 71 48 rfl).1).trans ((fu266 71 48 rfl).1))))
                  have lk557 : ((u360).1 71 2).toInt = v540.toInt := congrArg Int32.toInt (ev540)
                  have lk558 : ((u360).1 71 45).toInt = (t.1 71 45).toInt := congrArg Int32.toInt (((fu360 71 45 rfl).1).trans (((fu319 71 45 rfl).1).trans (((fu307 71 45 rfl).1).trans ((fu266 71 45 rfl).1))))
                  have lk559 : ((u360).1 71 47).toInt = (t.1 71 47).toInt := congrArg Int32.toInt (((fu360 71 47 rfl).1).trans (((fu319 71 47 rfl).1).trans (((fu307 71 47 rfl).1).trans ((fu266 71 47 rfl).1))))
                  have lk560 : ((u360).1 71 2).toInt = v540.toInt := congrArg Int32.toInt (ev540)
                  have lk561 : ((u360).1 71 5).toInt = (t.1 71 5).toInt := congrArg Int32.toInt (((fu360 71 5 rfl).1).trans (((fu319 71 5 rfl).1).trans (((fu307 71 5 rfl).1).trans ((fu266 71 5 rfl).1))))
                  have lk562 : ((u360).1 71 6).toInt = (t.1 71 6).toInt := congrArg Int32.toInt (((fu360 71 6 rfl).1).trans (((fu319 71 6 rfl).1).trans (((fu307 71 6 rfl).1).trans ((fu266 71 6 rfl).1))))
                  have lk563 : ((u360).1 71 47).toInt = (t.1 71 47).toInt := congrArg Int32.toInt (((fu360 71 47 rfl).1).trans (((fu319 71 47 rfl).1).trans (((fu307 71 47 rfl).1).trans ((fu266 71 47 rfl).1))))
                  exact (ih (n - 1) (by omega)).2.2.2 (u360) k1  (oQ_fr fu360 rfl (oQ_fr fu319 rfl (oQ_fr fu307 rfl (oQ_fr fu266 rfl iv0)))) (by omega) (by omega) (by omega) (by omega) (by omega) hq539 (by omega) (by omega)
          · skip
            replace pu307_1 := pu307_1 (by omega)
            clear pu307_2
            have lk564 : ((u307).1 71 4).toInt = (t.1 71 4).toInt := congrArg Int32.toInt (((fu307 71 4 rfl).1).trans ((fu266 71 4 rfl).1))
            have lk565 : ((u307).1 71 5).toInt = (t.1 71 5).toInt := congrArg Int32.toInt (((fu307 71 5 rfl).1).trans ((fu266 71 5 rfl).1))
            have lk566 : ((u307).1 71 48).toInt = (t.1 71 48).toInt := congrArg Int32.toInt (((fu307 71 48 rfl).1).trans ((fu266 71 48 rfl).1))
            have lk567 : ((u307).1 71 47).toInt = (t.1 71 47).toInt := congrArg Int32.toInt (((fu307 71 47 rfl).1).trans ((fu266 71 47 rfl).1))
            have hq568 : oqJ g fp fq cz kx b 1 (u307) := oqJ_go hq302 (by omega) (by omega) (oFr_row fu307 (c := 103) rfl rfl) (congrArg Int32.toInt (fu307 71 47 rfl).1) (oqs_op (g := g) (p := fp) (q := fq) (a := (t.1 71 2).toInt) (b := (t.1 71 4).toInt) (o := (t.1 71 48).toInt) (by unfold oqOp; omega)) (by rw [show ((u266).1 71 2).toInt = (t.1 71 2).toInt by omega]; omega) (by first | omega | (congr 1; omega)) (by first | omega | (congr 1; omega)) (by first | omega | (congr 1; omega)) (by first | omega | (congr 1; omega)) (by first | omega | (congr 1; omega))
            refine r_aload_n C (j := 0) (oDec_at oX12_goesOn 67 rfl) rfl rfl ?_
            refine r_getF (k := 0) (b := 72) C oCl12 rfl (by decide) flX12_7 rfl rfl rfl (oDec_at oX12_goesOn 68 rfl) ?_
            refine r_aload_n C (j := 0) (oDec_at oX12_goesOn 69 rfl) rfl rfl ?_
            obtain ⟨v569, ev569⟩ : ∃ z : Int32, (u307).1 71 2 = z := ⟨_, rfl⟩
            have gv569 : (u307.1 71 2).toInt = v569.toInt := congrArg Int32.toInt (ev569)
            refine r_geti (k := 2) (lo := 0) (hi := 1600) C v569 oCl12 rfl (by decide) flX12_179 rfl rfl (ev569) rfl rfl (oDec_at oX12_goesOn 70 rfl) (fun b570 b570h => ?_)
            refine r_iconst C (oDec_at oX12_goesOn 71 rfl) (v := k1) (by rw [qk1]; rfl) ?_
            obtain ⟨v571, ev571⟩ : ∃ z : Int32, z = v569 - k1 := ⟨_, rfl⟩
            have hv571 : v571.toInt = v569.toInt - k1.toInt := n_sub ev571 (by omega) (by omega)
            refine r_isub C v571 (oDec_at oX12_goesOn 72 rfl) ev571 ?_
            refine r_pc C 146 rfl ?_
            obtain ⟨v573, ev573⟩ : ∃ z : Int32, (u307).1 72 v571.toNatClampNeg = z := ⟨_, rfl⟩
            have av573 : t.1 72 v571.toNatClampNeg = v573 := (((fu307 72 v571.toNatClampNeg rfl).1).trans ((fu266 72 v571.toNatClampNeg rfl).1)).symm.trans ev573
            have gv573 : (t.1 72 v571.toNatClampNeg).toInt = v573.toInt := congrArg Int32.toInt ((((fu307 72 v571.toNatClampNeg rfl).1).trans ((fu266 72 v571.toNatClampNeg rfl).1)).symm.trans ev573)
            refine r_iald (n := 1600) (lo := 0) (hi := 255) C v573 rfl (by decide) rfl rfl ⟨by omega, by omega⟩ (by decide) ev573 rfl rfl (oDec_at oX12_goesOn 73 rfl) (fun b572 b572h => ?_)
            refine r_bipush C (oDec_at oX12_goesOn 74 rfl) (v := k42) (by rw [qk42]; rfl) ?_
            refine r_icmp_ne C 156 (oDec_at oX12_goesOn 75 rfl) (by decide) (fun cd574 => ?_) (fun cd574 => ?_)
            · skip
              refine r_iconst C (oDec_at oX12_goesOn 78 rfl) (v := k4) (by rw [qk4]; rfl) ?_
              refine r_istore_n C (lv' := [(0, .ref (oad E 71)), (1, .int k4)]) [1, 0] (oDec_at oX12_goesOn 79 rfl) rfl (by decide) rfl ?_
              have lk575 : ((u307).1 71 5).toInt = (t.1 71 5).toInt := congrArg Int32.toInt (((fu307 71 5 rfl).1).trans ((fu266 71 5 rfl).1))
              have lk576 : ((u307).1 71 48).toInt = (t.1 71 48).toInt := congrArg Int32.toInt (((fu307 71 48 rfl).1).trans ((fu266 71 48 rfl).1))
              have lk577 : ((u307).1 71 2).toInt = v569.toInt := congrArg Int32.toInt (ev569)
              have lk578 : ((u307).1 71 45).toInt = (t.1 71 45).toInt := congrArg Int32.toInt (((fu307 71 45 rfl).1).trans ((fu266 71 45 rfl).1))
              have lk579 : ((u307).1 71 47).toInt = (t.1 71 47).toInt := congrArg Int32.toInt (((fu307 71 47 rfl).1).trans ((fu266 71 47 rfl).1))
              have lk580 : ((u307).1 71 2).toInt = v569.toInt := congrArg Int32.toInt (ev569)
              have lk581 : ((u307).1 71 5).toInt = (t.1 71 5).toInt := congrArg Int32.toInt (((fu307 71 5 rfl).1).trans ((fu266 71 5 rfl).1))
              have lk582 : ((u307).1 71 6).toInt = (t.1 71 6).toInt := congrArg Int32.toInt (((fu307 71 6 rfl).1).trans ((fu266 71 6 rfl).1))
              have lk583 : ((u307).1 71 47).toInt = (t.1 71 47).toInt := congrArg Int32.toInt (((fu307 71 47 rfl).1).trans ((fu266 71 47 rfl).1))
              exact (ih (n - 1) (by omega)).2.2.1 (u307) k4  (oQ_fr fu307 rfl (oQ_fr fu266 rfl iv0)) (by omega) (by omega) (by omega) (by omega) (by omega) hq568 (by omega) (by omega)
            · skip
              refine r_iconst C (oDec_at oX12_goesOn 76 rfl) (v := k3) (by rw [qk3]; rfl) ?_
              refine r_goto C (tgt := 157) (oDec_at oX12_goesOn 77 rfl) (by decide) ?_
              refine r_istore_n C (lv' := [(0, .ref (oad E 71)), (1, .int k3)]) [1, 0] (oDec_at oX12_goesOn 79 rfl) rfl (by decide) rfl ?_
              have lk584 : ((u307).1 71 5).toInt = (t.1 71 5).toInt := congrArg Int32.toInt (((fu307 71 5 rfl).1).trans ((fu266 71 5 rfl).1))
              have lk585 : ((u307).1 71 48).toInt = (t.1 71 48).toInt := congrArg Int32.toInt (((fu307 71 48 rfl).1).trans ((fu266 71 48 rfl).1))
              have lk586 : ((u307).1 71 2).toInt = v569.toInt := congrArg Int32.toInt (ev569)
              have lk587 : ((u307).1 71 45).toInt = (t.1 71 45).toInt := congrArg Int32.toInt (((fu307 71 45 rfl).1).trans ((fu266 71 45 rfl).1))
              have lk588 : ((u307).1 71 47).toInt = (t.1 71 47).toInt := congrArg Int32.toInt (((fu307 71 47 rfl).1).trans ((fu266 71 47 rfl).1))
              have lk589 : ((u307).1 71 2).toInt = v569.toInt := congrArg Int32.toInt (ev569)
              have lk590 : ((u307).1 71 5).toInt = (t.1 71 5).toInt := congrArg Int32.toInt (((fu307 71 5 rfl).1).trans ((fu266 71 5 rfl).1))
              have lk591 : ((u307).1 71 6).toInt = (t.1 71 6).toInt := congrArg Int32.toInt (((fu307 71 6 rfl).1).trans ((fu266 71 6 rfl).1))
              have lk592 : ((u307).1 71 47).toInt = (t.1 71 47).toInt := congrArg Int32.toInt (((fu307 71 47 rfl).1).trans ((fu266 71 47 rfl).1))
              exact (ih (n - 1) (by omega)).2.2.1 (u307) k3  (oQ_fr fu307 rfl (oQ_fr fu266 rfl iv0)) (by omega) (by omega) (by omega) (by omega) (by omega) hq568 (by omega) (by omega)
      · intro t x1  iv0 iv1 iv2 iv3 iv4 iv5 iv6 iv7 hmu
        have rx1 := n_rng x1
        refine r_ty C (fun hty => ?_)
        have hty_coded : (0 : Int) ≤ ((t).1 71 45).toInt ∧ ((t).1 71 45).toInt ≤ 1600 := hty.1 71 45
        have hty_waits : (0 : Int) ≤ ((t).1 71 47).toInt ∧ ((t).1 71 47).toInt ≤ 1700 := hty.1 71 47
        have hty_at : (0 : Int) ≤ ((t).1 71 2).toInt ∧ ((t).1 71 2).toInt ≤ 1600 := hty.1 71 2
        clear hty
        refine r_aload_n C (j := 0) (oDec_at oX12_goesOn 80 rfl) rfl rfl ?_
        refine r_iconst C (oDec_at oX12_goesOn 81 rfl) (v := k3) (by rw [qk3]; rfl) ?_
        refine r_callVi C oCl12 rfl miX12_isOn mlX12_310 (ct_X12_isOn l E (t) k3 ) (by decide) rfl rfl rfl (Nat.le_of_ble_eq_true rfl) (oDec_at oX12_goesOn 82 rfl) (fun r594 u593 pu593 fu593 => ?_)
        try dsimp only at pu593
        obtain ⟨pu593_0, pu593_1, pu593_2⟩ := pu593
        have hxu593 := oFr_nil fu593; subst hxu593
        have rr594 := n_rng r594
        refine r_if_ne C 174 (oDec_at oX12_goesOn 83 rfl) (by decide) (fun cd595 => ?_) (fun cd595 => ?_)
        · skip
          replace pu593_1 := pu593_1 (by omega)
          clear pu593_2
          have hbt := oQ_bB iv0 (by omega) (by omega) (by omega) (by omega)
          refine r_aload_n C (j := 0) (oDec_at oX12_goesOn 88 rfl) rfl rfl ?_
          refine r_callVv C oCl12 rfl miX12_drops mlX12_289 (ct_X12_drops l E (t)  (by omega) (by omega)) (by decide) rfl rfl rfl (Nat.le_of_ble_eq_true rfl) (oDec_at oX12_goesOn 89 rfl) (fun u596 pu596 fu596 => ?_)
          try dsimp only at pu596
          obtain ⟨pu596_0, pu596_1, pu596_2⟩ := pu596
          have hq598 : oQ b (x + 1) (u596) := oQ_drop iv0 pu596_0 (by omega) (by omega) (by omega) (by omega)
          have hq599 : oqJ g fp fq cz kx b 1 (u596) := oqJ_drop iv6 pu596_0 (by omega) (fun _ => hbt) (fun _ => oqCd_no (by omega))
          refine r_goto C (tgt := 158) (oDec_at oX12_goesOn 90 rfl) (by decide) ?_
          have lk600 : ((u596).1 71 5).toInt = (t.1 71 5).toInt := congrArg Int32.toInt ((fu596 71 5 rfl).1)
          have lk601 : ((u596).1 71 48).toInt = (t.1 71 48).toInt := congrArg Int32.toInt ((fu596 71 48 rfl).1)
          have lk602 : ((u596).1 71 2).toInt = (t.1 71 2).toInt := congrArg Int32.toInt ((fu596 71 2 rfl).1)
          have lk603 : ((u596).1 71 2).toInt = (t.1 71 2).toInt := congrArg Int32.toInt ((fu596 71 2 rfl).1)
          have lk604 : ((u596).1 71 5).toInt = (t.1 71 5).toInt := congrArg Int32.toInt ((fu596 71 5 rfl).1)
          have lk605 : ((u596).1 71 6).toInt = (t.1 71 6).toInt := congrArg Int32.toInt ((fu596 71 6 rfl).1)
          exact (ih (n - 1) (by omega)).2.2.1 (u596) x1  hq598 (by omega) (by omega) (by omega) (by omega) (by omega) hq599 (by omega) (by omega)
        · skip
          clear pu593_1
          replace pu593_2 := pu593_2 (by omega)
          refine r_aload_n C (j := 0) (oDec_at oX12_goesOn 84 rfl) rfl rfl ?_
          refine r_iconst C (oDec_at oX12_goesOn 85 rfl) (v := k4) (by rw [qk4]; rfl) ?_
          refine r_callVi C oCl12 rfl miX12_isOn mlX12_310 (ct_X12_isOn l E (t) k4 ) (by decide) rfl rfl rfl (Nat.le_of_ble_eq_true rfl) (oDec_at oX12_goesOn 86 rfl) (fun r607 u606 pu606 fu606 => ?_)
          try dsimp only at pu606
          obtain ⟨pu606_0, pu606_1, pu606_2⟩ := pu606
          have hxu606 := oFr_nil fu606; subst hxu606
          have rr607 := n_rng r607
          refine r_if_eq C 181 (oDec_at oX12_goesOn 87 rfl) (by decide) (fun cd608 => ?_) (fun cd608 => ?_)
          · skip
            clear pu606_1
            replace pu606_2 := pu606_2 (by omega)
            refine r_aload_n C (j := 0) (oDec_at oX12_goesOn 91 rfl) rfl rfl ?_
            refine r_getF (k := 46) (b := 103) C oCl12 rfl (by decide) flX12_111 rfl rfl rfl (oDec_at oX12_goesOn 92 rfl) ?_
            refine r_aload_n C (j := 0) (oDec_at oX12_goesOn 93 rfl) rfl rfl ?_
            obtain ⟨v609, ev609⟩ : ∃ z : Int32, (t).1 71 47 = z := ⟨_, rfl⟩
            have gv609 : (t.1 71 47).toInt = v609.toInt := congrArg Int32.toInt (ev609)
            refine r_geti (k := 47) (lo := 0) (hi := 1700) C v609 oCl12 rfl (by decide) flX12_277 rfl rfl (ev609) rfl rfl (oDec_at oX12_goesOn 94 rfl) (fun b610 b610h => ?_)
            refine r_iload_n C (j := 1) (oDec_at oX12_goesOn 95 rfl) rfl rfl ?_
            refine r_iast (n := 1700) (lo := (-2147483648)) (hi := 2147483647) C rfl (by decide) rfl rfl ⟨by omega, by omega⟩ (by decide) rfl rfl rfl rfl (n_rng _) (oDec_at oX12_goesOn 96 rfl) ?_
            refine r_pc C 191 rfl ?_
            refine r_aload_n C (j := 0) (oDec_at oX12_goesOn 97 rfl) rfl rfl ?_
            refine r_dup C (oDec_at oX12_goesOn 98 rfl) rfl ?_
            refine r_geti (k := 47) (lo := 0) (hi := 1700) C v609 oCl12 rfl (by decide) flX12_277 rfl rfl (((pI_ne (a := 71) (b := 47) (c := 103) _ _ (Or.inl (by decide)))).trans (ev609)) rfl rfl (oDec_at oX12_goesOn 99 rfl) (fun _ _ => ?_)
            refine r_iconst C (oDec_at oX12_goesOn 100 rfl) (v := k1) (by rw [qk1]; rfl) ?_
            obtain ⟨v611, ev611⟩ : ∃ z : Int32, z = v609 + k1 := ⟨_, rfl⟩
            have hv611 : v611.toInt = v609.toInt + k1.toInt := n_add ev611 (by omega) (by omega)
            refine r_iadd C v611 (oDec_at oX12_goesOn 101 rfl) ev611 ?_
            refine r_puti (k := 47) (lo := 0) (hi := 1700) C oCl12 rfl (by decide) flX12_277 rfl rfl rfl rfl rfl rfl rfl rfl ⟨by omega, by omega⟩ (oDec_at oX12_goesOn 102 rfl) ?_
            refine r_pc C 201 rfl ?_
            have hq612 : oQ b x ((pI (pI t 103 v609.toNatClampNeg x1) 71 47 v611)) := oQ_push (x := x) iv0 (by assumption) (by omega) (by omega) (by omega)
            have hq613 : oqJ g fp fq cz kx b 1 ((pI (pI t 103 v609.toNatClampNeg x1) 71 47 v611)) := oqJ_push iv6 (by assumption) (by omega) (by omega) (by omega)
            refine r_iconst C (oDec_at oX12_goesOn 103 rfl) (v := k1) (by rw [qk1]; rfl) ?_
            have lk614 : (((pI (pI t 103 v609.toNatClampNeg x1) 71 47 v611)).1 71 48).toInt = (t.1 71 48).toInt := congrArg Int32.toInt (((pI_ne (a := 71) (b := 48) (c := 71) (k := 47) _ _ (Or.inr (by decide)))).trans ((pI_ne (a := 71) (b := 48) (c := 103) _ _ (Or.inl (by decide)))))
            have lk615 : (((pI (pI t 103 v609.toNatClampNeg x1) 71 47 v611)).1 71 2).toInt = (t.1 71 2).toInt := congrArg Int32.toInt (((pI_ne (a := 71) (b := 2) (c := 71) (k := 47) _ _ (Or.inr (by decide)))).trans ((pI_ne (a := 71) (b := 2) (c := 103) _ _ (Or.inl (by decide)))))
            have lk616 : (((pI (pI t 103 v609.toNatClampNeg x1) 71 47 v611)).1 71 45).toInt = (t.1 71 45).toInt := congrArg Int32.toInt (((pI_ne (a := 71) (b := 45) (c := 71) (k := 47) _ _ (Or.inr (by decide)))).trans ((pI_ne (a := 71) (b := 45) (c := 103) _ _ (Or.inl (by decide)))))
            have lk617 : (((pI (pI t 103 v609.toNatClampNeg x1) 71 47 v611)).1 71 47).toInt = v611.toInt := congrArg Int32.toInt ((pI_self _ _ _ _))
            have lk618 : (((pI (pI t 103 v609.toNatClampNeg x1) 71 47 v611)).1 71 2).toInt = (t.1 71 2).toInt := congrArg Int32.toInt (((pI_ne (a := 71) (b := 2) (c := 71) (k := 47) _ _ (Or.inr (by decide)))).trans ((pI_ne (a := 71) (b := 2) (c := 103) _ _ (Or.inl (by decide)))))
            have lk619 : (((pI (pI t 103 v609.toNatClampNeg x1) 71 47 v611)).1 71 5).toInt = (t.1 71 5).toInt := congrArg Int32.toInt (((pI_ne (a := 71) (b := 5) (c := 71) (k := 47) _ _ (Or.inr (by decide)))).trans ((pI_ne (a := 71) (b := 5) (c := 103) _ _ (Or.inl (by decide)))))
            have lk620 : (((pI (pI t 103 v609.toNatClampNeg x1) 71 47 v611)).1 71 2).toInt = (t.1 71 2).toInt := congrArg Int32.toInt (((pI_ne (a := 71) (b := 2) (c := 71) (k := 47) _ _ (Or.inr (by decide)))).trans ((pI_ne (a := 71) (b := 2) (c := 103) _ _ (Or.inl (by decide)))))
            have lk621 : (((pI (pI t 103 v609.toNatClampNeg x1) 71 47 v611)).1 71 5).toInt = (t.1 71 5).toInt := congrArg Int32.toInt (((pI_ne (a := 71) (b := 5) (c := 71) (k := 47) _ _ (Or.inr (by decide)))).trans ((pI_ne (a := 71) (b := 5) (c := 103) _ _ (Or.inl (by decide)))))
            have lk622 : (((pI (pI t 103 v609.toNatClampNeg x1) 71 47 v611)).1 71 6).toInt = (t.1 71 6).toInt := congrArg Int32.toInt (((pI_ne (a := 71) (b := 6) (c := 71) (k := 47) _ _ (Or.inr (by decide)))).trans ((pI_ne (a := 71) (b := 6) (c := 103) _ _ (Or.inl (by decide)))))
            exact r_zret C (n_bool (by omega)) (oDec_at oX12_goesOn 104 rfl) ⟨_, rfl, ⟨by omega, by first | (intro h; exfalso; omega) | exact fun _ => hq612, by first | (intro h; exfalso; omega) | exact fun _ => ⟨(by assumption), by first | (intro hb; exfalso; omega) | exact fun _ => oMk_c pu606 (by omega)⟩, by omega, by omega, by omega, by first | (intro h; exfalso; omega) | exact fun _ => hq613, by first | (intro h; exfalso; omega) | exact fun _ => (by assumption), by omega, by omega⟩⟩
          · skip
            replace pu606_1 := pu606_1 (by omega)
            clear pu606_2
            have hbt := oQ_bB iv0 (by omega) (by omega) (by omega) (by omega)
            refine r_aload_n C (j := 0) (oDec_at oX12_goesOn 88 rfl) rfl rfl ?_
            refine r_callVv C oCl12 rfl miX12_drops mlX12_289 (ct_X12_drops l E (t)  (by omega) (by omega)) (by decide) rfl rfl rfl (Nat.le_of_ble_eq_true rfl) (oDec_at oX12_goesOn 89 rfl) (fun u623 pu623 fu623 => ?_)
            try dsimp only at pu623
            obtain ⟨pu623_0, pu623_1, pu623_2⟩ := pu623
            have hq625 : oQ b (x + 1) (u623) := oQ_drop iv0 pu623_0 (by omega) (by omega) (by omega) (by omega)
            have hq626 : oqJ g fp fq cz kx b 1 (u623) := oqJ_drop iv6 pu623_0 (by omega) (fun _ => hbt) (fun _ => oqCd_no (by omega))
            refine r_goto C (tgt := 158) (oDec_at oX12_goesOn 90 rfl) (by decide) ?_
            have lk627 : ((u623).1 71 5).toInt = (t.1 71 5).toInt := congrArg Int32.toInt ((fu623 71 5 rfl).1)
            have lk628 : ((u623).1 71 48).toInt = (t.1 71 48).toInt := congrArg Int32.toInt ((fu623 71 48 rfl).1)
            have lk629 : ((u623).1 71 2).toInt = (t.1 71 2).toInt := congrArg Int32.toInt ((fu623 71 2 rfl).1)
            have lk630 : ((u623).1 71 2).toInt = (t.1 71 2).toInt := congrArg Int32.toInt ((fu623 71 2 rfl).1)
            have lk631 : ((u623).1 71 5).toInt = (t.1 71 5).toInt := congrArg Int32.toInt ((fu623 71 5 rfl).1)
            have lk632 : ((u623).1 71 6).toInt = (t.1 71 6).toInt := congrArg Int32.toInt ((fu623 71 6 rfl).1)
            exact (ih (n - 1) (by omega)).2.2.1 (u623) x1  hq625 (by omega) (by omega) (by omega) (by omega) (by omega) hq626 (by omega) (by omega)
      · intro t x1  iv0 iv1 iv2 iv3 iv4 iv5 iv6 iv7 hmu
        have rx1 := n_rng x1
        refine r_ty C (fun hty => ?_)
        have hty_coded : (0 : Int) ≤ ((t).1 71 45).toInt ∧ ((t).1 71 45).toInt ≤ 1600 := hty.1 71 45
        have hty_waits : (0 : Int) ≤ ((t).1 71 47).toInt ∧ ((t).1 71 47).toInt ≤ 1700 := hty.1 71 47
        have hty_at : (0 : Int) ≤ ((t).1 71 2).toInt ∧ ((t).1 71 2).toInt ≤ 1600 := hty.1 71 2
        clear hty
        refine r_aload_n C (j := 0) (oDec_at oX12_goesOn 126 rfl) rfl rfl ?_
        refine r_iconst C (oDec_at oX12_goesOn 127 rfl) (v := k3) (by rw [qk3]; rfl) ?_
        refine r_callVi C oCl12 rfl miX12_isOn mlX12_310 (ct_X12_isOn l E (t) k3 ) (by decide) rfl rfl rfl (Nat.le_of_ble_eq_true rfl) (oDec_at oX12_goesOn 128 rfl) (fun r634 u633 pu633 fu633 => ?_)
        try dsimp only at pu633
        obtain ⟨pu633_0, pu633_1, pu633_2⟩ := pu633
        have hxu633 := oFr_nil fu633; subst hxu633
        have rr634 := n_rng r634
        refine r_if_ne C 275 (oDec_at oX12_goesOn 129 rfl) (by decide) (fun cd635 => ?_) (fun cd635 => ?_)
        · skip
          replace pu633_1 := pu633_1 (by omega)
          clear pu633_2
          have hbt := oQ_bB iv0 (by omega) (by omega) (by omega) (by omega)
          refine r_aload_n C (j := 0) (oDec_at oX12_goesOn 142 rfl) rfl rfl ?_
          refine r_callVv C oCl12 rfl miX12_drops mlX12_289 (ct_X12_drops l E (t)  (by omega) (by omega)) (by decide) rfl rfl rfl (Nat.le_of_ble_eq_true rfl) (oDec_at oX12_goesOn 143 rfl) (fun u636 pu636 fu636 => ?_)
          try dsimp only at pu636
          obtain ⟨pu636_0, pu636_1, pu636_2⟩ := pu636
          have hq638 : oQ b (x + 1) (u636) := oQ_drop iv0 pu636_0 (by omega) (by omega) (by omega) (by omega)
          have hq639 : oqJ g fp fq cz kx b 1 (u636) := oqJ_drop iv6 pu636_0 (by omega) (fun _ => hbt) (fun _ => oqCd_no (by omega))
          refine r_goto C (tgt := 243) (oDec_at oX12_goesOn 144 rfl) (by decide) ?_
          have lk640 : ((u636).1 71 5).toInt = (t.1 71 5).toInt := congrArg Int32.toInt ((fu636 71 5 rfl).1)
          have lk641 : ((u636).1 71 48).toInt = (t.1 71 48).toInt := congrArg Int32.toInt ((fu636 71 48 rfl).1)
          have lk642 : ((u636).1 71 2).toInt = (t.1 71 2).toInt := congrArg Int32.toInt ((fu636 71 2 rfl).1)
          have lk643 : ((u636).1 71 2).toInt = (t.1 71 2).toInt := congrArg Int32.toInt ((fu636 71 2 rfl).1)
          have lk644 : ((u636).1 71 5).toInt = (t.1 71 5).toInt := congrArg Int32.toInt ((fu636 71 5 rfl).1)
          have lk645 : ((u636).1 71 6).toInt = (t.1 71 6).toInt := congrArg Int32.toInt ((fu636 71 6 rfl).1)
          exact (ih (n - 1) (by omega)).2.2.2 (u636) x1  hq638 (by omega) (by omega) (by omega) (by omega) (by omega) hq639 (by omega) (by omega)
        · skip
          clear pu633_1
          replace pu633_2 := pu633_2 (by omega)
          refine r_aload_n C (j := 0) (oDec_at oX12_goesOn 130 rfl) rfl rfl ?_
          refine r_iconst C (oDec_at oX12_goesOn 131 rfl) (v := k4) (by rw [qk4]; rfl) ?_
          refine r_callVi C oCl12 rfl miX12_isOn mlX12_310 (ct_X12_isOn l E (t) k4 ) (by decide) rfl rfl rfl (Nat.le_of_ble_eq_true rfl) (oDec_at oX12_goesOn 132 rfl) (fun r647 u646 pu646 fu646 => ?_)
          try dsimp only at pu646
          obtain ⟨pu646_0, pu646_1, pu646_2⟩ := pu646
          have hxu646 := oFr_nil fu646; subst hxu646
          have rr647 := n_rng r647
          refine r_if_ne C 275 (oDec_at oX12_goesOn 133 rfl) (by decide) (fun cd648 => ?_) (fun cd648 => ?_)
          · skip
            replace pu646_1 := pu646_1 (by omega)
            clear pu646_2
            have hbt := oQ_bB iv0 (by omega) (by omega) (by omega) (by omega)
            refine r_aload_n C (j := 0) (oDec_at oX12_goesOn 142 rfl) rfl rfl ?_
            refine r_callVv C oCl12 rfl miX12_drops mlX12_289 (ct_X12_drops l E (t)  (by omega) (by omega)) (by decide) rfl rfl rfl (Nat.le_of_ble_eq_true rfl) (oDec_at oX12_goesOn 143 rfl) (fun u649 pu649 fu649 => ?_)
            try dsimp only at pu649
            obtain ⟨pu649_0, pu649_1, pu649_2⟩ := pu649
            have hq651 : oQ b (x + 1) (u649) := oQ_drop iv0 pu649_0 (by omega) (by omega) (by omega) (by omega)
            have hq652 : oqJ g fp fq cz kx b 1 (u649) := oqJ_drop iv6 pu649_0 (by omega) (fun _ => hbt) (fun _ => oqCd_no (by omega))
            refine r_goto C (tgt := 243) (oDec_at oX12_goesOn 144 rfl) (by decide) ?_
            have lk653 : ((u649).1 71 5).toInt = (t.1 71 5).toInt := congrArg Int32.toInt ((fu649 71 5 rfl).1)
            have lk654 : ((u649).1 71 48).toInt = (t.1 71 48).toInt := congrArg Int32.toInt ((fu649 71 48 rfl).1)
            have lk655 : ((u649).1 71 2).toInt = (t.1 71 2).toInt := congrArg Int32.toInt ((fu649 71 2 rfl).1)
            have lk656 : ((u649).1 71 2).toInt = (t.1 71 2).toInt := congrArg Int32.toInt ((fu649 71 2 rfl).1)
            have lk657 : ((u649).1 71 5).toInt = (t.1 71 5).toInt := congrArg Int32.toInt ((fu649 71 5 rfl).1)
            have lk658 : ((u649).1 71 6).toInt = (t.1 71 6).toInt := congrArg Int32.toInt ((fu649 71 6 rfl).1)
            exact (ih (n - 1) (by omega)).2.2.2 (u649) x1  hq651 (by omega) (by omega) (by omega) (by omega) (by omega) hq652 (by omega) (by omega)
          · skip
            clear pu646_1
            replace pu646_2 := pu646_2 (by omega)
            refine r_aload_n C (j := 0) (oDec_at oX12_goesOn 134 rfl) rfl rfl ?_
            refine r_iconst C (oDec_at oX12_goesOn 135 rfl) (v := k1) (by rw [qk1]; rfl) ?_
            refine r_callVi C oCl12 rfl miX12_isOn mlX12_310 (ct_X12_isOn l E (t) k1 ) (by decide) rfl rfl rfl (Nat.le_of_ble_eq_true rfl) (oDec_at oX12_goesOn 136 rfl) (fun r660 u659 pu659 fu659 => ?_)
            try dsimp only at pu659
            obtain ⟨pu659_0, pu659_1, pu659_2⟩ := pu659
            have hxu659 := oFr_nil fu659; subst hxu659
            have rr660 := n_rng r660
            refine r_if_ne C 275 (oDec_at oX12_goesOn 137 rfl) (by decide) (fun cd661 => ?_) (fun cd661 => ?_)
            · skip
              replace pu659_1 := pu659_1 (by omega)
              clear pu659_2
              have hbt := oQ_bB iv0 (by omega) (by omega) (by omega) (by omega)
              refine r_aload_n C (j := 0) (oDec_at oX12_goesOn 142 rfl) rfl rfl ?_
              refine r_callVv C oCl12 rfl miX12_drops mlX12_289 (ct_X12_drops l E (t)  (by omega) (by omega)) (by decide) rfl rfl rfl (Nat.le_of_ble_eq_true rfl) (oDec_at oX12_goesOn 143 rfl) (fun u662 pu662 fu662 => ?_)
              try dsimp only at pu662
              obtain ⟨pu662_0, pu662_1, pu662_2⟩ := pu662
              have hq664 : oQ b (x + 1) (u662) := oQ_drop iv0 pu662_0 (by omega) (by omega) (by omega) (by omega)
              have hq665 : oqJ g fp fq cz kx b 1 (u662) := oqJ_drop iv6 pu662_0 (by omega) (fun _ => hbt) (fun _ => oqCd_no (by omega))
              refine r_goto C (tgt := 243) (oDec_at oX12_goesOn 144 rfl) (by decide) ?_
              have lk666 : ((u662).1 71 5).toInt = (t.1 71 5).toInt := congrArg Int32.toInt ((fu662 71 5 rfl).1)
              have lk667 : ((u662).1 71 48).toInt = (t.1 71 48).toInt := congrArg Int32.toInt ((fu662 71 48 rfl).1)
              have lk668 : ((u662).1 71 2).toInt = (t.1 71 2).toInt := congrArg Int32.toInt ((fu662 71 2 rfl).1)
              have lk669 : ((u662).1 71 2).toInt = (t.1 71 2).toInt := congrArg Int32.toInt ((fu662 71 2 rfl).1)
              have lk670 : ((u662).1 71 5).toInt = (t.1 71 5).toInt := congrArg Int32.toInt ((fu662 71 5 rfl).1)
              have lk671 : ((u662).1 71 6).toInt = (t.1 71 6).toInt := congrArg Int32.toInt ((fu662 71 6 rfl).1)
              exact (ih (n - 1) (by omega)).2.2.2 (u662) x1  hq664 (by omega) (by omega) (by omega) (by omega) (by omega) hq665 (by omega) (by omega)
            · skip
              clear pu659_1
              replace pu659_2 := pu659_2 (by omega)
              refine r_aload_n C (j := 0) (oDec_at oX12_goesOn 138 rfl) rfl rfl ?_
              refine r_iconst C (oDec_at oX12_goesOn 139 rfl) (v := k2) (by rw [qk2]; rfl) ?_
              refine r_callVi C oCl12 rfl miX12_isOn mlX12_310 (ct_X12_isOn l E (t) k2 ) (by decide) rfl rfl rfl (Nat.le_of_ble_eq_true rfl) (oDec_at oX12_goesOn 140 rfl) (fun r673 u672 pu672 fu672 => ?_)
              try dsimp only at pu672
              obtain ⟨pu672_0, pu672_1, pu672_2⟩ := pu672
              have hxu672 := oFr_nil fu672; subst hxu672
              have rr673 := n_rng r673
              refine r_if_eq C 282 (oDec_at oX12_goesOn 141 rfl) (by decide) (fun cd674 => ?_) (fun cd674 => ?_)
              · skip
                clear pu672_1
                replace pu672_2 := pu672_2 (by omega)
                refine r_aload_n C (j := 0) (oDec_at oX12_goesOn 145 rfl) rfl rfl ?_
                refine r_getF (k := 46) (b := 103) C oCl12 rfl (by decide) flX12_111 rfl rfl rfl (oDec_at oX12_goesOn 146 rfl) ?_
                refine r_aload_n C (j := 0) (oDec_at oX12_goesOn 147 rfl) rfl rfl ?_
                obtain ⟨v675, ev675⟩ : ∃ z : Int32, (t).1 71 47 = z := ⟨_, rfl⟩
                have gv675 : (t.1 71 47).toInt = v675.toInt := congrArg Int32.toInt (ev675)
                refine r_geti (k := 47) (lo := 0) (hi := 1700) C v675 oCl12 rfl (by decide) flX12_277 rfl rfl (ev675) rfl rfl (oDec_at oX12_goesOn 148 rfl) (fun b676 b676h => ?_)
                refine r_iload_n C (j := 1) (oDec_at oX12_goesOn 149 rfl) rfl rfl ?_
                refine r_iast (n := 1700) (lo := (-2147483648)) (hi := 2147483647) C rfl (by decide) rfl rfl ⟨by omega, by omega⟩ (by decide) rfl rfl rfl rfl (n_rng _) (oDec_at oX12_goesOn 150 rfl) ?_
                refine r_pc C 292 rfl ?_
                refine r_aload_n C (j := 0) (oDec_at oX12_goesOn 151 rfl) rfl rfl ?_
                refine r_dup C (oDec_at oX12_goesOn 152 rfl) rfl ?_
                refine r_geti (k := 47) (lo := 0) (hi := 1700) C v675 oCl12 rfl (by decide) flX12_277 rfl rfl (((pI_ne (a := 71) (b := 47) (c := 103) _ _ (Or.inl (by decide)))).trans (ev675)) rfl rfl (oDec_at oX12_goesOn 153 rfl) (fun _ _ => ?_)
                refine r_iconst C (oDec_at oX12_goesOn 154 rfl) (v := k1) (by rw [qk1]; rfl) ?_
                obtain ⟨v677, ev677⟩ : ∃ z : Int32, z = v675 + k1 := ⟨_, rfl⟩
                have hv677 : v677.toInt = v675.toInt + k1.toInt := n_add ev677 (by omega) (by omega)
                refine r_iadd C v677 (oDec_at oX12_goesOn 155 rfl) ev677 ?_
                refine r_puti (k := 47) (lo := 0) (hi := 1700) C oCl12 rfl (by decide) flX12_277 rfl rfl rfl rfl rfl rfl rfl rfl ⟨by omega, by omega⟩ (oDec_at oX12_goesOn 156 rfl) ?_
                refine r_pc C 302 rfl ?_
                have hq678 : oQ b x ((pI (pI t 103 v675.toNatClampNeg x1) 71 47 v677)) := oQ_push (x := x) iv0 (by assumption) (by omega) (by omega) (by omega)
                have hq679 : oqJ g fp fq cz kx b 1 ((pI (pI t 103 v675.toNatClampNeg x1) 71 47 v677)) := oqJ_push iv6 (by assumption) (by omega) (by omega) (by omega)
                refine r_iconst C (oDec_at oX12_goesOn 157 rfl) (v := k1) (by rw [qk1]; rfl) ?_
                have lk680 : (((pI (pI t 103 v675.toNatClampNeg x1) 71 47 v677)).1 71 48).toInt = (t.1 71 48).toInt := congrArg Int32.toInt (((pI_ne (a := 71) (b := 48) (c := 71) (k := 47) _ _ (Or.inr (by decide)))).trans ((pI_ne (a := 71) (b := 48) (c := 103) _ _ (Or.inl (by decide)))))
                have lk681 : (((pI (pI t 103 v675.toNatClampNeg x1) 71 47 v677)).1 71 2).toInt = (t.1 71 2).toInt := congrArg Int32.toInt (((pI_ne (a := 71) (b := 2) (c := 71) (k := 47) _ _ (Or.inr (by decide)))).trans ((pI_ne (a := 71) (b := 2) (c := 103) _ _ (Or.inl (by decide)))))
                have lk682 : (((pI (pI t 103 v675.toNatClampNeg x1) 71 47 v677)).1 71 45).toInt = (t.1 71 45).toInt := congrArg Int32.toInt (((pI_ne (a := 71) (b := 45) (c := 71) (k := 47) _ _ (Or.inr (by decide)))).trans ((pI_ne (a := 71) (b := 45) (c := 103) _ _ (Or.inl (by decide)))))
                have lk683 : (((pI (pI t 103 v675.toNatClampNeg x1) 71 47 v677)).1 71 47).toInt = v677.toInt := congrArg Int32.toInt ((pI_self _ _ _ _))
                have lk684 : (((pI (pI t 103 v675.toNatClampNeg x1) 71 47 v677)).1 71 2).toInt = (t.1 71 2).toInt := congrArg Int32.toInt (((pI_ne (a := 71) (b := 2) (c := 71) (k := 47) _ _ (Or.inr (by decide)))).trans ((pI_ne (a := 71) (b := 2) (c := 103) _ _ (Or.inl (by decide)))))
                have lk685 : (((pI (pI t 103 v675.toNatClampNeg x1) 71 47 v677)).1 71 5).toInt = (t.1 71 5).toInt := congrArg Int32.toInt (((pI_ne (a := 71) (b := 5) (c := 71) (k := 47) _ _ (Or.inr (by decide)))).trans ((pI_ne (a := 71) (b := 5) (c := 103) _ _ (Or.inl (by decide)))))
                have lk686 : (((pI (pI t 103 v675.toNatClampNeg x1) 71 47 v677)).1 71 2).toInt = (t.1 71 2).toInt := congrArg Int32.toInt (((pI_ne (a := 71) (b := 2) (c := 71) (k := 47) _ _ (Or.inr (by decide)))).trans ((pI_ne (a := 71) (b := 2) (c := 103) _ _ (Or.inl (by decide)))))
                have lk687 : (((pI (pI t 103 v675.toNatClampNeg x1) 71 47 v677)).1 71 5).toInt = (t.1 71 5).toInt := congrArg Int32.toInt (((pI_ne (a := 71) (b := 5) (c := 71) (k := 47) _ _ (Or.inr (by decide)))).trans ((pI_ne (a := 71) (b := 5) (c := 103) _ _ (Or.inl (by decide)))))
                have lk688 : (((pI (pI t 103 v675.toNatClampNeg x1) 71 47 v677)).1 71 6).toInt = (t.1 71 6).toInt := congrArg Int32.toInt (((pI_ne (a := 71) (b := 6) (c := 71) (k := 47) _ _ (Or.inr (by decide)))).trans ((pI_ne (a := 71) (b := 6) (c := 103) _ _ (Or.inl (by decide)))))
                exact r_zret C (n_bool (by omega)) (oDec_at oX12_goesOn 158 rfl) ⟨_, rfl, ⟨by omega, by first | (intro h; exfalso; omega) | exact fun _ => hq678, by first | (intro h; exfalso; omega) | exact fun _ => ⟨(by assumption), by first | (intro hb; exfalso; omega) | exact fun _ => oMk_c pu672 (by omega)⟩, by omega, by omega, by omega, by first | (intro h; exfalso; omega) | exact fun _ => hq679, by first | (intro h; exfalso; omega) | exact fun _ => (by assumption), by omega, by omega⟩⟩
              · skip
                replace pu672_1 := pu672_1 (by omega)
                clear pu672_2
                have hbt := oQ_bB iv0 (by omega) (by omega) (by omega) (by omega)
                refine r_aload_n C (j := 0) (oDec_at oX12_goesOn 142 rfl) rfl rfl ?_
                refine r_callVv C oCl12 rfl miX12_drops mlX12_289 (ct_X12_drops l E (t)  (by omega) (by omega)) (by decide) rfl rfl rfl (Nat.le_of_ble_eq_true rfl) (oDec_at oX12_goesOn 143 rfl) (fun u689 pu689 fu689 => ?_)
                try dsimp only at pu689
                obtain ⟨pu689_0, pu689_1, pu689_2⟩ := pu689
                have hq691 : oQ b (x + 1) (u689) := oQ_drop iv0 pu689_0 (by omega) (by omega) (by omega) (by omega)
                have hq692 : oqJ g fp fq cz kx b 1 (u689) := oqJ_drop iv6 pu689_0 (by omega) (fun _ => hbt) (fun _ => oqCd_no (by omega))
                refine r_goto C (tgt := 243) (oDec_at oX12_goesOn 144 rfl) (by decide) ?_
                have lk693 : ((u689).1 71 5).toInt = (t.1 71 5).toInt := congrArg Int32.toInt ((fu689 71 5 rfl).1)
                have lk694 : ((u689).1 71 48).toInt = (t.1 71 48).toInt := congrArg Int32.toInt ((fu689 71 48 rfl).1)
                have lk695 : ((u689).1 71 2).toInt = (t.1 71 2).toInt := congrArg Int32.toInt ((fu689 71 2 rfl).1)
                have lk696 : ((u689).1 71 2).toInt = (t.1 71 2).toInt := congrArg Int32.toInt ((fu689 71 2 rfl).1)
                have lk697 : ((u689).1 71 5).toInt = (t.1 71 5).toInt := congrArg Int32.toInt ((fu689 71 5 rfl).1)
                have lk698 : ((u689).1 71 6).toInt = (t.1 71 6).toInt := congrArg Int32.toInt ((fu689 71 6 rfl).1)
                exact (ih (n - 1) (by omega)).2.2.2 (u689) x1  hq691 (by omega) (by omega) (by omega) (by omega) (by omega) hq692 (by omega) (by omega)
  exact (key (4000 * (1601 - ((s).1 71 2).toInt)).toNat).1 (s)   (by first | exact hp0 | exact oQ_pop (by assumption) (by omega) (by omega) (by omega) (by omega)) (by omega) (by omega) (by omega) (by omega) (by omega) hp6 hp7 (by omega) (by omega)
