set_option maxHeartbeats 4000000 in
set_option maxRecDepth 100000 in
theorem gr4_X5 (l : Launch) (E : oE) : ∀ N : Nat, (∀ (s : oS) (a1 : Int32) (g : Int → Int) (fp : Int) (fq : Int) (a : Int) (b : Int) (op : Int) (hp0 : (s.1 30 2).toInt = a) (hp1 : (s.1 30 3).toInt = b) (hp2 : oqX g s) (hp3 : (s.1 30 5).toInt = op) (hp4 : (s.1 30 6).toInt = fp ∧ (s.1 30 7).toInt = fq) (hp5 : fq ≤ 24 ∧ 0 ≤ fp) (hp6 : 6 - (s.1 30 5).toInt ≤ (N : Int)), oMet l (7 + 10 * N + 1) yX5_choice cX5_choice 2 (some .boolean) [(0, 1), (5, 2), (5, 3), (5, 4), (5, 5), (5, 8), (5, 9), (20, 9999)] E s [.ref (oad E 30), .int a1] (oPi (fun r u => (0 ≤ r.toInt ∧ r.toInt ≤ 1) ∧ (r.toInt = 1 → oqCy g fp fq a b op (oqSk g (u.1 30 2).toInt) (u.1 30 3).toInt) ∧ (r.toInt = 1 → ((u.1 30 5).toInt = op ∧ a + 1 ≤ (u.1 30 2).toInt ∧ (u.1 30 8).toInt = (s.1 30 8).toInt ∧ (u.1 30 9).toInt = (s.1 30 9).toInt)) ∧ (r.toInt = 0 → oqCn g fp fq a b op (u.1 30 8).toInt (u.1 30 9).toInt)))) ∧ (∀ (s : oS)  (g : Int → Int) (fp : Int) (fq : Int) (a : Int) (b : Int) (op : Int) (hp0 : (s.1 30 2).toInt = a) (hp1 : (s.1 30 3).toInt = b) (hp2 : oqX g s) (hp3 : (s.1 30 5).toInt = op) (hp4 : (s.1 30 6).toInt = fp ∧ (s.1 30 7).toInt = fq) (hp5 : fq ≤ 24 ∧ 0 ≤ fp) (hp6 : 6 - (s.1 30 5).toInt ≤ (N : Int)), oMet l (7 + 10 * N + 2) yX5_part cX5_part 3 (some .boolean) [(0, 1), (5, 2), (5, 3), (5, 4), (5, 5), (5, 8), (5, 9), (20, 9999)] E s [.ref (oad E 30)] (oPi (fun r u => (0 ≤ r.toInt ∧ r.toInt ≤ 1) ∧ (r.toInt = 1 → oqGo g fp fq 1 (oqSk g a) b op 3 (oqSk g (u.1 30 2).toInt) (u.1 30 3).toInt op) ∧ (r.toInt = 1 → ((u.1 30 5).toInt = op ∧ a + 1 ≤ (u.1 30 2).toInt ∧ (u.1 30 8).toInt = (s.1 30 8).toInt ∧ (u.1 30 9).toInt = (s.1 30 9).toInt)) ∧ (r.toInt = 0 → oqFa g fp fq 1 (oqSk g a) b op (u.1 30 8).toInt (u.1 30 9).toInt)))) ∧ (∀ (s : oS)  (g : Int → Int) (fp : Int) (fq : Int) (a : Int) (b : Int) (op : Int) (hp0 : (s.1 30 2).toInt = a) (hp1 : (s.1 30 3).toInt = b) (hp2 : oqX g s) (hp3 : (s.1 30 5).toInt = op) (hp4 : (s.1 30 6).toInt = fp ∧ (s.1 30 7).toInt = fq) (hp5 : fq ≤ 24 ∧ 0 ≤ fp) (hp6 : 6 - (s.1 30 5).toInt ≤ (N : Int)), oMet l (7 + 10 * N + 3) yX5_product cX5_product 3 (some .boolean) [(0, 1), (5, 2), (5, 3), (5, 4), (5, 5), (5, 8), (5, 9), (20, 9999)] E s [.ref (oad E 30)] (oPi (fun r u => (0 ≤ r.toInt ∧ r.toInt ≤ 1) ∧ (r.toInt = 1 → oqGo g fp fq 1 (oqSk g a) b op 3 (u.1 30 2).toInt (u.1 30 3).toInt op) ∧ (r.toInt = 1 → (g (u.1 30 2).toInt ≠ 42 ∧ g (u.1 30 2).toInt ≠ 47)) ∧ (r.toInt = 1 → (oqSk g (u.1 30 2).toInt = (u.1 30 2).toInt ∧ (u.1 30 5).toInt = op ∧ a + 1 ≤ (u.1 30 2).toInt ∧ (u.1 30 8).toInt = (s.1 30 8).toInt ∧ (u.1 30 9).toInt = (s.1 30 9).toInt)) ∧ (r.toInt = 0 → oqFa g fp fq 1 (oqSk g a) b op (u.1 30 8).toInt (u.1 30 9).toInt)))) ∧ (∀ (s : oS)  (g : Int → Int) (fp : Int) (fq : Int) (a : Int) (b : Int) (op : Int) (hp0 : (s.1 30 2).toInt = a) (hp1 : (s.1 30 3).toInt = b) (hp2 : oqX g s) (hp3 : (s.1 30 5).toInt = op) (hp4 : (s.1 30 6).toInt = fp ∧ (s.1 30 7).toInt = fq) (hp5 : fq ≤ 24 ∧ 0 ≤ fp) (hp6 : 6 - (s.1 30 5).toInt ≤ (N : Int)), oMet l (7 + 10 * N + 4) yX5_sum cX5_sum 3 (some .boolean) [(0, 1), (5, 2), (5, 3), (5, 4), (5, 5), (5, 8), (5, 9), (20, 9999)] E s [.ref (oad E 30)] (oPi (fun r u => (0 ≤ r.toInt ∧ r.toInt ≤ 1) ∧ (r.toInt = 1 → oqGo g fp fq 1 (oqSk g a) b op 3 (u.1 30 2).toInt (u.1 30 3).toInt op) ∧ (r.toInt = 1 → ¬ oqOp g (u.1 30 2).toInt) ∧ (r.toInt = 1 → (oqSk g (u.1 30 2).toInt = (u.1 30 2).toInt ∧ (u.1 30 5).toInt = op ∧ a + 1 ≤ (u.1 30 2).toInt ∧ (u.1 30 8).toInt = (s.1 30 8).toInt ∧ (u.1 30 9).toInt = (s.1 30 9).toInt)) ∧ (r.toInt = 0 → oqFa g fp fq 1 (oqSk g a) b op (u.1 30 8).toInt (u.1 30 9).toInt)))) ∧ (∀ (s : oS)  (g : Int → Int) (fp : Int) (fq : Int) (a : Int) (b : Int) (op : Int) (hp0 : (s.1 30 2).toInt = a) (hp1 : (s.1 30 3).toInt = b) (hp2 : oqX g s) (hp3 : (s.1 30 5).toInt = op) (hp4 : (s.1 30 6).toInt = fp ∧ (s.1 30 7).toInt = fq) (hp5 : fq ≤ 24 ∧ 0 ≤ fp) (hp6 : 6 - (s.1 30 5).toInt ≤ (N : Int)), oMet l (7 + 10 * N + 5) yX5_fact cX5_fact 3 (some .boolean) [(0, 1), (5, 2), (5, 3), (5, 4), (5, 5), (5, 8), (5, 9), (20, 9999)] E s [.ref (oad E 30)] (oPi (fun r u => (0 ≤ r.toInt ∧ r.toInt ≤ 1) ∧ (r.toInt = 1 → oqGo g fp fq 0 (oqSk g a) b op 2 (oqSk g (u.1 30 2).toInt) (u.1 30 3).toInt op) ∧ (r.toInt = 1 → ((u.1 30 5).toInt = op ∧ a + 1 ≤ (u.1 30 2).toInt ∧ (u.1 30 8).toInt = (s.1 30 8).toInt ∧ (u.1 30 9).toInt = (s.1 30 9).toInt)) ∧ (r.toInt = 0 → oqFa g fp fq 0 (oqSk g a) b op (u.1 30 8).toInt (u.1 30 9).toInt)))) ∧ (∀ (s : oS)  (g : Int → Int) (fp : Int) (fq : Int) (a : Int) (b : Int) (op : Int) (hp0 : (s.1 30 2).toInt = a) (hp1 : (s.1 30 3).toInt = b) (hp2 : oqX g s) (hp3 : (s.1 30 5).toInt = op) (hp4 : (s.1 30 6).toInt = fp ∧ (s.1 30 7).toInt = fq) (hp5 : fq ≤ 24 ∧ 0 ≤ fp) (hp6 : 6 - (s.1 30 5).toInt ≤ (N : Int)), oMet l (7 + 10 * N + 6) yX5_both cX5_both 2 (some .boolean) [(0, 1), (5, 2), (5, 3), (5, 4), (5, 5), (5, 8), (5, 9), (20, 9999)] E s [.ref (oad E 30)] (oPi (fun r u => (0 ≤ r.toInt ∧ r.toInt ≤ 1) ∧ (r.toInt = 1 → oqGn g fp fq (oqSk g a) b op (u.1 30 2).toInt (u.1 30 3).toInt) ∧ (r.toInt = 1 → oqWi g (u.1 30 2).toInt (u.1 30 3).toInt ≠ 8) ∧ (r.toInt = 1 → (oqSk g (u.1 30 2).toInt = (u.1 30 2).toInt ∧ (u.1 30 5).toInt = op ∧ a + 1 ≤ (u.1 30 2).toInt ∧ (u.1 30 8).toInt = (s.1 30 8).toInt ∧ (u.1 30 9).toInt = (s.1 30 9).toInt)) ∧ (r.toInt = 0 → oqFn g fp fq (oqSk g a) b op (u.1 30 8).toInt (u.1 30 9).toInt)))) ∧ (∀ (s : oS)  (g : Int → Int) (fp : Int) (fq : Int) (a : Int) (b : Int) (op : Int) (hp0 : (s.1 30 2).toInt = a) (hp1 : (s.1 30 3).toInt = b) (hp2 : oqX g s) (hp3 : (s.1 30 5).toInt = op) (hp4 : (s.1 30 6).toInt = fp ∧ (s.1 30 7).toInt = fq) (hp5 : fq ≤ 24 ∧ 0 ≤ fp) (hp6 : 6 - (s.1 30 5).toInt ≤ (N : Int)), oMet l (7 + 10 * N + 7) yX5_test cX5_test 2 (some .boolean) [(0, 1), (5, 2), (5, 3), (5, 4), (5, 5), (5, 8), (5, 9), (20, 9999)] E s [.ref (oad E 30)] (oPi (fun r u => (0 ≤ r.toInt ∧ r.toInt ≤ 1) ∧ (r.toInt = 1 → oqGn g fp fq (oqSk g a) b op (u.1 30 2).toInt (u.1 30 3).toInt) ∧ (r.toInt = 1 → (oqWi g (u.1 30 2).toInt (u.1 30 3).toInt ≠ 7 ∧ oqWi g (u.1 30 2).toInt (u.1 30 3).toInt ≠ 8)) ∧ (r.toInt = 1 → (oqSk g (u.1 30 2).toInt = (u.1 30 2).toInt ∧ (u.1 30 5).toInt = op ∧ a + 1 ≤ (u.1 30 2).toInt ∧ (u.1 30 8).toInt = (s.1 30 8).toInt ∧ (u.1 30 9).toInt = (s.1 30 9).toInt)) ∧ (r.toInt = 0 → oqFn g fp fq (oqSk g a) b op (u.1 30 8).toInt (u.1 30 9).toInt)))) := by
  intro N
  induction N using Nat.strongRecOn with
  | _ N ih =>
    have h_X5_choice : ∀ (s : oS) (a1 : Int32) (g : Int → Int) (fp : Int) (fq : Int) (a : Int) (b : Int) (op : Int) (hp0 : (s.1 30 2).toInt = a) (hp1 : (s.1 30 3).toInt = b) (hp2 : oqX g s) (hp3 : (s.1 30 5).toInt = op) (hp4 : (s.1 30 6).toInt = fp ∧ (s.1 30 7).toInt = fq) (hp5 : fq ≤ 24 ∧ 0 ≤ fp) (hp6 : 6 - (s.1 30 5).toInt ≤ (N : Int)), oMet l (7 + 10 * N + 1) yX5_choice cX5_choice 2 (some .boolean) [(0, 1), (5, 2), (5, 3), (5, 4), (5, 5), (5, 8), (5, 9), (20, 9999)] E s [.ref (oad E 30), .int a1] (oPi (fun r u => (0 ≤ r.toInt ∧ r.toInt ≤ 1) ∧ (r.toInt = 1 → oqCy g fp fq a b op (oqSk g (u.1 30 2).toInt) (u.1 30 3).toInt) ∧ (r.toInt = 1 → ((u.1 30 5).toInt = op ∧ a + 1 ≤ (u.1 30 2).toInt ∧ (u.1 30 8).toInt = (s.1 30 8).toInt ∧ (u.1 30 9).toInt = (s.1 30 9).toInt)) ∧ (r.toInt = 0 → oqCn g fp fq a b op (u.1 30 8).toInt (u.1 30 9).toInt))) := by
      intro s a1 g fp fq a b op hp0 hp1 hp2 hp3 hp4 hp5 hp6
      refine oMet.of (lv := [(0, .ref (oad E 30)), (1, .int a1)]) (by decide +kernel) (Nat.le_of_ble_eq_true rfl) rfl (fun J C hT => ?_)
      have C : oC l (7 + 10 * N + 1) cX5_choice RX5 2 (some .boolean) [(0, 1), (5, 2), (5, 3), (5, 4), (5, 5), (5, 8), (5, 9), (20, 9999)] E s (oPi (fun r u => (0 ≤ r.toInt ∧ r.toInt ≤ 1) ∧ (r.toInt = 1 → oqCy g fp fq a b op (oqSk g (u.1 30 2).toInt) (u.1 30 3).toInt) ∧ (r.toInt = 1 → ((u.1 30 5).toInt = op ∧ a + 1 ≤ (u.1 30 2).toInt ∧ (u.1 30 8).toInt = (s.1 30 8).toInt ∧ (u.1 30 9).toInt = (s.1 30 9).toInt)) ∧ (r.toInt = 0 → oqCn g fp fq a b op (u.1 30 8).toInt (u.1 30 9).toInt))) J := C
      obtain ⟨k0, qk0⟩ : ∃ z : Int32, z = 0 := ⟨_, rfl⟩
      have ek0 : k0.toInt = 0 := by rw [qk0]; rfl
      obtain ⟨k1, qk1⟩ : ∃ z : Int32, z = 1 := ⟨_, rfl⟩
      have ek1 : k1.toInt = 1 := by rw [qk1]; rfl
      obtain ⟨k40, qk40⟩ : ∃ z : Int32, z = 40 := ⟨_, rfl⟩
      have ek40 : k40.toInt = 40 := by rw [qk40]; rfl
      obtain ⟨k41, qk41⟩ : ∃ z : Int32, z = 41 := ⟨_, rfl⟩
      have ek41 : k41.toInt = 41 := by rw [qk41]; rfl
      obtain ⟨k44, qk44⟩ : ∃ z : Int32, z = 44 := ⟨_, rfl⟩
      have ek44 : k44.toInt = 44 := by rw [qk44]; rfl
      have rg1 := n_rng a1
      have hto : (0 : Int) ≤ (s.1 30 5).toInt ∧ (s.1 30 5).toInt ≤ 6 := hT.1 30 5
      refine r_aload_n C (j := 0) (oDec_at oX5_choice 0 rfl) rfl rfl ?_
      refine r_callVi C oCl5 rfl miX5_peek mlX5_43 (ct4_X5_peek l E (s)  (g) (a) (by omega) hp2) (by omega) rfl rfl rfl (Nat.le_of_ble_eq_true rfl) (oDec_at oX5_choice 1 rfl) (fun r2 u1 pu1 fu1 => ?_)
      try dsimp only at pu1
      obtain ⟨pu1_0, pu1_1, pu1_2, pu1_3, pu1_4, pu1_5⟩ := pu1
      have rr2 := n_rng r2
      have hss := oqSk_sk (g := g) (a := a) ⟨by omega, by omega⟩
      have hg2 : g (oqSk g (oqSk g a)) = g (oqSk g a) := by rw [hss]
      refine r_bipush C (oDec_at oX5_choice 2 rfl) (v := k40) (by rw [qk40]; rfl) ?_
      refine r_icmp_eq C 19 (oDec_at oX5_choice 3 rfl) (by decide) (fun cd3 => ?_) (fun cd3 => ?_)
      · skip
        refine r_aload_n C (j := 0) (oDec_at oX5_choice 10 rfl) rfl rfl ?_
        have lk4 : ((u1).1 30 5).toInt = (s.1 30 5).toInt := congrArg Int32.toInt ((fu1 30 5 rfl).1)
        have lk5 : ((u1).1 30 8).toInt = (s.1 30 8).toInt := congrArg Int32.toInt ((fu1 30 8 rfl).1)
        have lk6 : ((u1).1 30 9).toInt = (s.1 30 9).toInt := congrArg Int32.toInt ((fu1 30 9 rfl).1)
        have lk7 : ((u1).1 30 5).toInt = (s.1 30 5).toInt := congrArg Int32.toInt ((fu1 30 5 rfl).1)
        refine r_callVi C oCl5 rfl miX5_opens mlX5_154 (ct4_X5_opens l E (u1)  ) (by omega) rfl rfl rfl (Nat.le_of_ble_eq_true rfl) (oDec_at oX5_choice 11 rfl) (fun r9 u8 pu8 fu8 => ?_)
        try dsimp only at pu8
        try simp only [lk4, lk5, lk6, lk7] at pu8
        obtain ⟨pu8_0, pu8_1, pu8_2⟩ := pu8
        have rr9 := n_rng r9
        refine r_if_eq C 67 (oDec_at oX5_choice 12 rfl) (by decide) (fun cd10 => ?_) (fun cd10 => ?_)
        · skip
          clear pu8_1
          replace pu8_2 := pu8_2 (by omega)
          refine r_iconst C (oDec_at oX5_choice 31 rfl) (v := k0) (by rw [qk0]; rfl) ?_
          have lk11 : ((u8).1 30 2).toInt = (u1.1 30 2).toInt := congrArg Int32.toInt ((fu8 30 2 rfl).1)
          have lk12 : ((u8).1 30 3).toInt = (s.1 30 3).toInt := congrArg Int32.toInt (((fu8 30 3 rfl).1).trans ((fu1 30 3 rfl).1))
          have lk13 : ((u8).1 30 2).toInt = (u1.1 30 2).toInt := congrArg Int32.toInt ((fu8 30 2 rfl).1)
          exact r_zret C (n_bool (by omega)) (oDec_at oX5_choice 32 rfl) ⟨_, rfl, ⟨by omega, fun h => by exfalso; omega, fun h => by exfalso; omega, by first | exact fun _ => Or.inr (Or.inl ⟨by omega, by omega, by omega, by omega⟩) | exact fun _ => oqc_F (by omega) (by omega) pu8_4 | exact fun _ => (oqc_N1 (by omega) (by omega) (by assumption) (by assumption) (by omega)).cast (by omega) (by omega) | exact fun _ => oqc_F2 (by omega) (by omega) (by assumption) (by assumption) (by omega) pu8_4 | exact fun _ => (oqc_N2 (by omega) (by omega) (by assumption) (by assumption) (by omega) (by assumption) (by assumption) (by omega)).cast (by omega) (by omega) | (intro h; exfalso; omega)⟩⟩
        · skip
          replace pu8_1 := pu8_1 (by omega)
          clear pu8_2
          refine r_aload_n C (j := 0) (oDec_at oX5_choice 13 rfl) rfl rfl ?_
          refine r_bipush C (oDec_at oX5_choice 14 rfl) (v := k40) (by rw [qk40]; rfl) ?_
          have lk14 : ((u8).1 30 2).toInt = (u1.1 30 2).toInt := congrArg Int32.toInt ((fu8 30 2 rfl).1)
          refine r_callVi C oCl5 rfl miX5_expectSign mlX5_88 (ct4_X5_expectSign l E (u8) k40 (g) (oqSk g a) (40) (by omega) (oqX_fr fu8 rfl (oqX_fr fu1 rfl hp2)) (by omega) (by omega)) (by omega) rfl rfl rfl (Nat.le_of_ble_eq_true rfl) (oDec_at oX5_choice 15 rfl) (fun r16 u15 pu15 fu15 => ?_)
          try dsimp only at pu15
          try simp only [lk14] at pu15
          obtain ⟨pu15_0, pu15_1, pu15_2⟩ := pu15
          have rr16 := n_rng r16
          refine r_if_eq C 67 (oDec_at oX5_choice 16 rfl) (by decide) (fun cd17 => ?_) (fun cd17 => ?_)
          · skip
            clear pu15_1
            replace pu15_2 := pu15_2 (by omega)
            refine r_iconst C (oDec_at oX5_choice 31 rfl) (v := k0) (by rw [qk0]; rfl) ?_
            have lk18 : ((u15).1 30 3).toInt = (s.1 30 3).toInt := congrArg Int32.toInt (((fu15 30 3 rfl).1).trans (((fu8 30 3 rfl).1).trans ((fu1 30 3 rfl).1)))
            have lk19 : ((u15).1 30 5).toInt = (u8.1 30 5).toInt := congrArg Int32.toInt ((fu15 30 5 rfl).1)
            exact r_zret C (n_bool (by omega)) (oDec_at oX5_choice 32 rfl) ⟨_, rfl, ⟨by omega, fun h => by exfalso; omega, fun h => by exfalso; omega, by first | exact fun _ => Or.inr (Or.inl ⟨by omega, by omega, by omega, by omega⟩) | exact fun _ => oqc_F (by omega) (by omega) pu15_4 | exact fun _ => (oqc_N1 (by omega) (by omega) (by assumption) (by assumption) (by omega)).cast (by omega) (by omega) | exact fun _ => oqc_F2 (by omega) (by omega) (by assumption) (by assumption) (by omega) pu15_4 | exact fun _ => (oqc_N2 (by omega) (by omega) (by assumption) (by assumption) (by omega) (by assumption) (by assumption) (by omega)).cast (by omega) (by omega) | (intro h; exfalso; omega)⟩⟩
          · skip
            replace pu15_1 := pu15_1 (by omega)
            clear pu15_2
            refine r_aload_n C (j := 0) (oDec_at oX5_choice 17 rfl) rfl rfl ?_
            have lk20 : ((u15).1 30 3).toInt = (s.1 30 3).toInt := congrArg Int32.toInt (((fu15 30 3 rfl).1).trans (((fu8 30 3 rfl).1).trans ((fu1 30 3 rfl).1)))
            have lk21 : ((u15).1 30 5).toInt = (u8.1 30 5).toInt := congrArg Int32.toInt ((fu15 30 5 rfl).1)
            have lk22 : ((u15).1 30 6).toInt = (s.1 30 6).toInt := congrArg Int32.toInt (((fu15 30 6 rfl).1).trans (((fu8 30 6 rfl).1).trans ((fu1 30 6 rfl).1)))
            have lk23 : ((u15).1 30 7).toInt = (s.1 30 7).toInt := congrArg Int32.toInt (((fu15 30 7 rfl).1).trans (((fu8 30 7 rfl).1).trans ((fu1 30 7 rfl).1)))
            have lk24 : ((u15).1 30 5).toInt = (u8.1 30 5).toInt := congrArg Int32.toInt ((fu15 30 5 rfl).1)
            refine r_callVi C oCl5 rfl miX5_sum mlX5_160 (((ih (N - 1) (by omega)).2.2.2.1) (u15)  (g) (fp) (fq) (oqSk g a + 1) (b) (op + 1) (by omega) (by omega) (oqX_fr fu15 rfl (oqX_fr fu8 rfl (oqX_fr fu1 rfl hp2))) (by omega) (by omega) (by omega) (by omega)) (by omega) rfl rfl rfl (Nat.le_of_ble_eq_true rfl) (oDec_at oX5_choice 18 rfl) (fun r26 u25 pu25 fu25 => ?_)
            try dsimp only at pu25
            try simp only [lk20, lk21, lk22, lk23, lk24] at pu25
            obtain ⟨pu25_0, pu25_1, pu25_2, pu25_3, pu25_4⟩ := pu25
            have rr26 := n_rng r26
            refine r_if_eq C 67 (oDec_at oX5_choice 19 rfl) (by decide) (fun cd27 => ?_) (fun cd27 => ?_)
            · skip
              clear pu25_1
              clear pu25_2
              clear pu25_3
              replace pu25_4 := pu25_4 (by omega)
              refine r_iconst C (oDec_at oX5_choice 31 rfl) (v := k0) (by rw [qk0]; rfl) ?_
              exact r_zret C (n_bool (by omega)) (oDec_at oX5_choice 32 rfl) ⟨_, rfl, ⟨by omega, fun h => by exfalso; omega, fun h => by exfalso; omega, by first | exact fun _ => Or.inr (Or.inl ⟨by omega, by omega, by omega, by omega⟩) | exact fun _ => oqc_F (by omega) (by omega) pu25_4 | exact fun _ => (oqc_N1 (by omega) (by omega) (by assumption) (by assumption) (by omega)).cast (by omega) (by omega) | exact fun _ => oqc_F2 (by omega) (by omega) (by assumption) (by assumption) (by omega) pu25_4 | exact fun _ => (oqc_N2 (by omega) (by omega) (by assumption) (by assumption) (by omega) (by assumption) (by assumption) (by omega)).cast (by omega) (by omega) | (intro h; exfalso; omega)⟩⟩
            · skip
              replace pu25_1 := pu25_1 (by omega)
              replace pu25_2 := pu25_2 (by omega)
              replace pu25_3 := pu25_3 (by omega)
              clear pu25_4
              have hgX : g (oqSk g ((u25).1 30 2).toInt) = g ((u25).1 30 2).toInt := by rw [show oqSk g ((u25).1 30 2).toInt = ((u25).1 30 2).toInt by omega]
              refine r_aload_n C (j := 0) (oDec_at oX5_choice 20 rfl) rfl rfl ?_
              refine r_bipush C (oDec_at oX5_choice 21 rfl) (v := k44) (by rw [qk44]; rfl) ?_
              refine r_callVi C oCl5 rfl miX5_expectSign mlX5_88 (ct4_X5_expectSign l E (u25) k44 (g) (((u25).1 30 2).toInt) (44) (by omega) (oqX_fr fu25 rfl (oqX_fr fu15 rfl (oqX_fr fu8 rfl (oqX_fr fu1 rfl hp2)))) (by omega) (by omega)) (by omega) rfl rfl rfl (Nat.le_of_ble_eq_true rfl) (oDec_at oX5_choice 22 rfl) (fun r29 u28 pu28 fu28 => ?_)
              try dsimp only at pu28
              obtain ⟨pu28_0, pu28_1, pu28_2⟩ := pu28
              have rr29 := n_rng r29
              refine r_if_eq C 67 (oDec_at oX5_choice 23 rfl) (by decide) (fun cd30 => ?_) (fun cd30 => ?_)
              · skip
                clear pu28_1
                replace pu28_2 := pu28_2 (by omega)
                refine r_iconst C (oDec_at oX5_choice 31 rfl) (v := k0) (by rw [qk0]; rfl) ?_
                have lk31 : ((u28).1 30 3).toInt = (u25.1 30 3).toInt := congrArg Int32.toInt ((fu28 30 3 rfl).1)
                have lk32 : ((u28).1 30 5).toInt = (u25.1 30 5).toInt := congrArg Int32.toInt ((fu28 30 5 rfl).1)
                exact r_zret C (n_bool (by omega)) (oDec_at oX5_choice 32 rfl) ⟨_, rfl, ⟨by omega, fun h => by exfalso; omega, fun h => by exfalso; omega, by first | exact fun _ => Or.inr (Or.inl ⟨by omega, by omega, by omega, by omega⟩) | exact fun _ => oqc_F (by omega) (by omega) pu28_4 | exact fun _ => (oqc_N1 (by omega) (by omega) pu25_1 pu25_2 (by omega)).cast (by omega) (by omega) | exact fun _ => oqc_F2 (by omega) (by omega) pu25_1 pu25_2 (by omega) pu28_4 | exact fun _ => (oqc_N2 (by omega) (by omega) pu25_1 pu25_2 (by omega) (by assumption) (by assumption) (by omega)).cast (by omega) (by omega) | (intro h; exfalso; omega)⟩⟩
              · skip
                replace pu28_1 := pu28_1 (by omega)
                clear pu28_2
                refine r_aload_n C (j := 0) (oDec_at oX5_choice 24 rfl) rfl rfl ?_
                have lk33 : ((u28).1 30 3).toInt = (u25.1 30 3).toInt := congrArg Int32.toInt ((fu28 30 3 rfl).1)
                have lk34 : ((u28).1 30 5).toInt = (u25.1 30 5).toInt := congrArg Int32.toInt ((fu28 30 5 rfl).1)
                have lk35 : ((u28).1 30 6).toInt = (s.1 30 6).toInt := congrArg Int32.toInt (((fu28 30 6 rfl).1).trans (((fu25 30 6 rfl).1).trans (((fu15 30 6 rfl).1).trans (((fu8 30 6 rfl).1).trans ((fu1 30 6 rfl).1)))))
                have lk36 : ((u28).1 30 7).toInt = (s.1 30 7).toInt := congrArg Int32.toInt (((fu28 30 7 rfl).1).trans (((fu25 30 7 rfl).1).trans (((fu15 30 7 rfl).1).trans (((fu8 30 7 rfl).1).trans ((fu1 30 7 rfl).1)))))
                have lk37 : ((u28).1 30 5).toInt = (u25.1 30 5).toInt := congrArg Int32.toInt ((fu28 30 5 rfl).1)
                refine r_callVi C oCl5 rfl miX5_sum mlX5_160 (((ih (N - 1) (by omega)).2.2.2.1) (u28)  (g) (fp) (fq) (((u25).1 30 2).toInt + 1) (((u25).1 30 3).toInt) (op + 1) (by omega) (by omega) (oqX_fr fu28 rfl (oqX_fr fu25 rfl (oqX_fr fu15 rfl (oqX_fr fu8 rfl (oqX_fr fu1 rfl hp2))))) (by omega) (by omega) (by omega) (by omega)) (by omega) rfl rfl rfl (Nat.le_of_ble_eq_true rfl) (oDec_at oX5_choice 25 rfl) (fun r39 u38 pu38 fu38 => ?_)
                try dsimp only at pu38
                try simp only [lk33, lk34, lk35, lk36, lk37] at pu38
                obtain ⟨pu38_0, pu38_1, pu38_2, pu38_3, pu38_4⟩ := pu38
                have rr39 := n_rng r39
                refine r_if_eq C 67 (oDec_at oX5_choice 26 rfl) (by decide) (fun cd40 => ?_) (fun cd40 => ?_)
                · skip
                  clear pu38_1
                  clear pu38_2
                  clear pu38_3
                  replace pu38_4 := pu38_4 (by omega)
                  refine r_iconst C (oDec_at oX5_choice 31 rfl) (v := k0) (by rw [qk0]; rfl) ?_
                  exact r_zret C (n_bool (by omega)) (oDec_at oX5_choice 32 rfl) ⟨_, rfl, ⟨by omega, fun h => by exfalso; omega, fun h => by exfalso; omega, by first | exact fun _ => Or.inr (Or.inl ⟨by omega, by omega, by omega, by omega⟩) | exact fun _ => oqc_F (by omega) (by omega) pu38_4 | exact fun _ => (oqc_N1 (by omega) (by omega) pu25_1 pu25_2 (by omega)).cast (by omega) (by omega) | exact fun _ => oqc_F2 (by omega) (by omega) pu25_1 pu25_2 (by omega) pu38_4 | exact fun _ => (oqc_N2 (by omega) (by omega) pu25_1 pu25_2 (by omega) (by assumption) (by assumption) (by omega)).cast (by omega) (by omega) | (intro h; exfalso; omega)⟩⟩
                · skip
                  replace pu38_1 := pu38_1 (by omega)
                  replace pu38_2 := pu38_2 (by omega)
                  replace pu38_3 := pu38_3 (by omega)
                  clear pu38_4
                  have hgX : g (oqSk g ((u38).1 30 2).toInt) = g ((u38).1 30 2).toInt := by rw [show oqSk g ((u38).1 30 2).toInt = ((u38).1 30 2).toInt by omega]
                  refine r_aload_n C (j := 0) (oDec_at oX5_choice 27 rfl) rfl rfl ?_
                  refine r_bipush C (oDec_at oX5_choice 28 rfl) (v := k41) (by rw [qk41]; rfl) ?_
                  refine r_callVi C oCl5 rfl miX5_expectSign mlX5_88 (ct4_X5_expectSign l E (u38) k41 (g) (((u38).1 30 2).toInt) (41) (by omega) (oqX_fr fu38 rfl (oqX_fr fu28 rfl (oqX_fr fu25 rfl (oqX_fr fu15 rfl (oqX_fr fu8 rfl (oqX_fr fu1 rfl hp2)))))) (by omega) (by omega)) (by omega) rfl rfl rfl (Nat.le_of_ble_eq_true rfl) (oDec_at oX5_choice 29 rfl) (fun r42 u41 pu41 fu41 => ?_)
                  try dsimp only at pu41
                  obtain ⟨pu41_0, pu41_1, pu41_2⟩ := pu41
                  have rr42 := n_rng r42
                  refine r_if_ne C 69 (oDec_at oX5_choice 30 rfl) (by decide) (fun cd43 => ?_) (fun cd43 => ?_)
                  · skip
                    replace pu41_1 := pu41_1 (by omega)
                    clear pu41_2
                    refine r_aload_n C (j := 0) (oDec_at oX5_choice 33 rfl) rfl rfl ?_
                    refine r_getS (k := 1) (q2 := 0) C oCl5 rfl (by decide) flX5_19 rfl rfl rfl ks1 (oDec_at oX5_choice 34 rfl) (fun b44 rb44 mb44 hkb44 => ?_)
                    refine r_iload_n C (j := 1) (oDec_at oX5_choice 35 rfl) rfl rfl ?_
                    refine r_callVv C oCl0 hkb44 miX0_emit mlX5_147 (ct_X0_emit l E (u41) b44 hkb44 a1 ) (by omega) rfl rfl rfl (Nat.le_of_ble_eq_true rfl) (oDec_at oX5_choice 36 rfl) (fun u45 pu45 fu45 => ?_)
                    try dsimp only at pu45
                    refine r_aload_n C (j := 0) (oDec_at oX5_choice 37 rfl) rfl rfl ?_
                    have lk47 : ((u45).1 30 5).toInt = (u38.1 30 5).toInt := congrArg Int32.toInt (((fu45 30 5 rfl).1).trans ((fu41 30 5 rfl).1))
                    have lk48 : ((u45).1 30 5).toInt = (u38.1 30 5).toInt := congrArg Int32.toInt (((fu45 30 5 rfl).1).trans ((fu41 30 5 rfl).1))
                    refine r_callVi C oCl5 rfl miX5_closes mlX5_157 (ct4_X5_closes l E (u45)  (by omega)) (by omega) rfl rfl rfl (Nat.le_of_ble_eq_true rfl) (oDec_at oX5_choice 38 rfl) (fun r50 u49 pu49 fu49 => ?_)
                    try dsimp only at pu49
                    try simp only [lk47, lk48] at pu49
                    obtain ⟨pu49_0, pu49_1⟩ := pu49
                    have rr50 := n_rng r50
                    refine r_pc C 81 rfl ?_
                    have lk51 : ((u49).1 30 2).toInt = (u41.1 30 2).toInt := congrArg Int32.toInt (((fu49 30 2 rfl).1).trans ((fu45 30 2 rfl).1))
                    have lk52 : ((u49).1 30 3).toInt = (u38.1 30 3).toInt := congrArg Int32.toInt (((fu49 30 3 rfl).1).trans (((fu45 30 3 rfl).1).trans ((fu41 30 3 rfl).1)))
                    have lk53 : ((u49).1 30 2).toInt = (u41.1 30 2).toInt := congrArg Int32.toInt (((fu49 30 2 rfl).1).trans ((fu45 30 2 rfl).1))
                    have lk54 : ((u49).1 30 8).toInt = (u41.1 30 8).toInt := congrArg Int32.toInt (((fu49 30 8 rfl).1).trans ((fu45 30 8 rfl).1))
                    have lk55 : ((u49).1 30 9).toInt = (u41.1 30 9).toInt := congrArg Int32.toInt (((fu49 30 9 rfl).1).trans ((fu45 30 9 rfl).1))
                    have lk56 : ((u49).1 30 8).toInt = (u41.1 30 8).toInt := congrArg Int32.toInt (((fu49 30 8 rfl).1).trans ((fu45 30 8 rfl).1))
                    have lk57 : ((u49).1 30 9).toInt = (u41.1 30 9).toInt := congrArg Int32.toInt (((fu49 30 9 rfl).1).trans ((fu45 30 9 rfl).1))
                    exact r_zret C (n_bool (by omega)) (oDec_at oX5_choice 39 rfl) ⟨_, rfl, ⟨by omega, fun _ => (oqc_Y (by omega) (by omega) pu25_1 pu25_2 (by omega) pu38_1 pu38_2 (by omega)).castS (by omega) (by omega), by omega, fun h => by exfalso; omega⟩⟩
                  · skip
                    clear pu41_1
                    replace pu41_2 := pu41_2 (by omega)
                    refine r_iconst C (oDec_at oX5_choice 31 rfl) (v := k0) (by rw [qk0]; rfl) ?_
                    have lk58 : ((u41).1 30 3).toInt = (u38.1 30 3).toInt := congrArg Int32.toInt ((fu41 30 3 rfl).1)
                    have lk59 : ((u41).1 30 5).toInt = (u38.1 30 5).toInt := congrArg Int32.toInt ((fu41 30 5 rfl).1)
                    exact r_zret C (n_bool (by omega)) (oDec_at oX5_choice 32 rfl) ⟨_, rfl, ⟨by omega, fun h => by exfalso; omega, fun h => by exfalso; omega, by first | exact fun _ => Or.inr (Or.inl ⟨by omega, by omega, by omega, by omega⟩) | exact fun _ => oqc_F (by omega) (by omega) pu41_4 | exact fun _ => (oqc_N1 (by omega) (by omega) pu25_1 pu25_2 (by omega)).cast (by omega) (by omega) | exact fun _ => oqc_F2 (by omega) (by omega) pu25_1 pu25_2 (by omega) pu41_4 | exact fun _ => (oqc_N2 (by omega) (by omega) pu25_1 pu25_2 (by omega) pu38_1 pu38_2 (by omega)).cast (by omega) (by omega) | (intro h; exfalso; omega)⟩⟩
      · skip
        refine r_aload_n C (j := 0) (oDec_at oX5_choice 4 rfl) rfl rfl ?_
        refine r_iconst C (oDec_at oX5_choice 5 rfl) (v := k1) (by rw [qk1]; rfl) ?_
        refine r_aload_n C (j := 0) (oDec_at oX5_choice 6 rfl) rfl rfl ?_
        obtain ⟨v60, ev60⟩ : ∃ z : Int32, (u1).1 30 2 = z := ⟨_, rfl⟩
        have gv60 : (u1.1 30 2).toInt = v60.toInt := congrArg Int32.toInt (ev60)
        refine r_geti (k := 2) (lo := 0) (hi := 1600) C v60 oCl5 rfl (by decide) flX5_23 rfl rfl (ev60) rfl rfl (oDec_at oX5_choice 7 rfl) (fun b61 b61h => ?_)
        refine r_callVi C oCl5 rfl miX5_fail mlX5_62 (ct4_X5_fail l E (u1) k1 v60 ) (by omega) rfl rfl rfl (Nat.le_of_ble_eq_true rfl) (oDec_at oX5_choice 8 rfl) (fun r63 u62 pu62 fu62 => ?_)
        try dsimp only at pu62
        obtain ⟨pu62_0, pu62_1, pu62_2, pu62_3⟩ := pu62
        have rr63 := n_rng r63
        have lk64 : ((u62).1 30 2).toInt = v60.toInt := congrArg Int32.toInt (((fu62 30 2 rfl).1).trans (ev60))
        have lk65 : ((u62).1 30 3).toInt = (s.1 30 3).toInt := congrArg Int32.toInt (((fu62 30 3 rfl).1).trans ((fu1 30 3 rfl).1))
        have lk66 : ((u62).1 30 5).toInt = (s.1 30 5).toInt := congrArg Int32.toInt (((fu62 30 5 rfl).1).trans ((fu1 30 5 rfl).1))
        have lk67 : ((u62).1 30 2).toInt = v60.toInt := congrArg Int32.toInt (((fu62 30 2 rfl).1).trans (ev60))
        exact r_zret C (n_bool (by omega)) (oDec_at oX5_choice 9 rfl) ⟨_, rfl, ⟨by omega, fun h => by exfalso; omega, by omega, fun _ => Or.inl ⟨by omega, by omega, by omega⟩⟩⟩
    have h_X5_part : ∀ (s : oS)  (g : Int → Int) (fp : Int) (fq : Int) (a : Int) (b : Int) (op : Int) (hp0 : (s.1 30 2).toInt = a) (hp1 : (s.1 30 3).toInt = b) (hp2 : oqX g s) (hp3 : (s.1 30 5).toInt = op) (hp4 : (s.1 30 6).toInt = fp ∧ (s.1 30 7).toInt = fq) (hp5 : fq ≤ 24 ∧ 0 ≤ fp) (hp6 : 6 - (s.1 30 5).toInt ≤ (N : Int)), oMet l (7 + 10 * N + 2) yX5_part cX5_part 3 (some .boolean) [(0, 1), (5, 2), (5, 3), (5, 4), (5, 5), (5, 8), (5, 9), (20, 9999)] E s [.ref (oad E 30)] (oPi (fun r u => (0 ≤ r.toInt ∧ r.toInt ≤ 1) ∧ (r.toInt = 1 → oqGo g fp fq 1 (oqSk g a) b op 3 (oqSk g (u.1 30 2).toInt) (u.1 30 3).toInt op) ∧ (r.toInt = 1 → ((u.1 30 5).toInt = op ∧ a + 1 ≤ (u.1 30 2).toInt ∧ (u.1 30 8).toInt = (s.1 30 8).toInt ∧ (u.1 30 9).toInt = (s.1 30 9).toInt)) ∧ (r.toInt = 0 → oqFa g fp fq 1 (oqSk g a) b op (u.1 30 8).toInt (u.1 30 9).toInt))) := by
      intro s g fp fq a b op hp0 hp1 hp2 hp3 hp4 hp5 hp6
      refine oMet.of (lv := [(0, .ref (oad E 30))]) (by decide +kernel) (Nat.le_of_ble_eq_true rfl) rfl (fun J C hT => ?_)
      have C : oC l (7 + 10 * N + 2) cX5_part RX5 3 (some .boolean) [(0, 1), (5, 2), (5, 3), (5, 4), (5, 5), (5, 8), (5, 9), (20, 9999)] E s (oPi (fun r u => (0 ≤ r.toInt ∧ r.toInt ≤ 1) ∧ (r.toInt = 1 → oqGo g fp fq 1 (oqSk g a) b op 3 (oqSk g (u.1 30 2).toInt) (u.1 30 3).toInt op) ∧ (r.toInt = 1 → ((u.1 30 5).toInt = op ∧ a + 1 ≤ (u.1 30 2).toInt ∧ (u.1 30 8).toInt = (s.1 30 8).toInt ∧ (u.1 30 9).toInt = (s.1 30 9).toInt)) ∧ (r.toInt = 0 → oqFa g fp fq 1 (oqSk g a) b op (u.1 30 8).toInt (u.1 30 9).toInt))) J := C
      obtain ⟨km1, qkm1⟩ : ∃ z : Int32, z = (-1) := ⟨_, rfl⟩
      have ekm1 : km1.toInt = (-1) := by rw [qkm1]; rfl
      obtain ⟨k0, qk0⟩ : ∃ z : Int32, z = 0 := ⟨_, rfl⟩
      have ek0 : k0.toInt = 0 := by rw [qk0]; rfl
      obtain ⟨k1, qk1⟩ : ∃ z : Int32, z = 1 := ⟨_, rfl⟩
      have ek1 : k1.toInt = 1 := by rw [qk1]; rfl
      obtain ⟨k24, qk24⟩ : ∃ z : Int32, z = 24 := ⟨_, rfl⟩
      have ek24 : k24.toInt = 24 := by rw [qk24]; rfl
      obtain ⟨k25, qk25⟩ : ∃ z : Int32, z = 25 := ⟨_, rfl⟩
      have ek25 : k25.toInt = 25 := by rw [qk25]; rfl
      obtain ⟨k40, qk40⟩ : ∃ z : Int32, z = 40 := ⟨_, rfl⟩
      have ek40 : k40.toInt = 40 := by rw [qk40]; rfl
      obtain ⟨k41, qk41⟩ : ∃ z : Int32, z = 41 := ⟨_, rfl⟩
      have ek41 : k41.toInt = 41 := by rw [qk41]; rfl
      obtain ⟨k9999, qk9999⟩ : ∃ z : Int32, z = 9999 := ⟨_, rfl⟩
      have ek9999 : k9999.toInt = 9999 := by rw [qk9999]; rfl
      obtain ⟨k10000, qk10000⟩ : ∃ z : Int32, z = 10000 := ⟨_, rfl⟩
      have ek10000 : k10000.toInt = 10000 := by rw [qk10000]; rfl
      obtain ⟨k10030, qk10030⟩ : ∃ z : Int32, z = 10030 := ⟨_, rfl⟩
      have ek10030 : k10030.toInt = 10030 := by rw [qk10030]; rfl
      obtain ⟨k10031, qk10031⟩ : ∃ z : Int32, z = 10031 := ⟨_, rfl⟩
      have ek10031 : k10031.toInt = 10031 := by rw [qk10031]; rfl
      have hto : (0 : Int) ≤ (s.1 30 5).toInt ∧ (s.1 30 5).toInt ≤ 6 := hT.1 30 5
      refine r_aload_n C (j := 0) (oDec_at oX5_part 0 rfl) rfl rfl ?_
      refine r_callVi C oCl5 rfl miX5_peek mlX5_43 (ct4_X5_peek l E (s)  (g) (a) (by omega) hp2) (by omega) rfl rfl rfl (Nat.le_of_ble_eq_true rfl) (oDec_at oX5_part 1 rfl) (fun r2 u1 pu1 fu1 => ?_)
      try dsimp only at pu1
      obtain ⟨pu1_0, pu1_1, pu1_2, pu1_3, pu1_4, pu1_5⟩ := pu1
      have rr2 := n_rng r2
      have hss := oqSk_sk (g := g) (a := a) ⟨by omega, by omega⟩
      have hg2 : g (oqSk g (oqSk g a)) = g (oqSk g a) := by rw [hss]
      refine r_istore_n C (lv' := [(0, .ref (oad E 30)), (1, .int r2)]) [1, 0] (oDec_at oX5_part 2 rfl) rfl (by decide) rfl ?_
      refine r_iload_n C (j := 1) (oDec_at oX5_part 3 rfl) rfl rfl ?_
      refine r_bipush C (oDec_at oX5_part 4 rfl) (v := k40) (by rw [qk40]; rfl) ?_
      refine r_icmp_ne C 56 (oDec_at oX5_part 5 rfl) (by decide) (fun cd3 => ?_) (fun cd3 => ?_)
      · skip
        refine r_iload_n C (j := 1) (oDec_at oX5_part 27 rfl) rfl rfl ?_
        refine r_callSi C miX5_isDigit mlX5_169 (ct_X5_isDigit l E (u1) r2 ) (by omega) rfl rfl rfl (Nat.le_of_ble_eq_true rfl) (oDec_at oX5_part 28 rfl) (fun r5 u4 pu4 fu4 => ?_)
        try dsimp only at pu4
        obtain ⟨pu4_0, pu4_1⟩ := pu4
        have hxu4 := oFr_nil fu4; subst hxu4
        have rr5 := n_rng r5
        refine r_if_eq C 91 (oDec_at oX5_part 29 rfl) (by decide) (fun cd6 => ?_) (fun cd6 => ?_)
        · skip
          refine r_aload_n C (j := 0) (oDec_at oX5_part 46 rfl) rfl rfl ?_
          have lk7 : ((u1).1 30 3).toInt = (s.1 30 3).toInt := congrArg Int32.toInt ((fu1 30 3 rfl).1)
          refine r_callVi C oCl5 rfl miX5_wordAhead mlX5_91 (ct4_X5_wordAhead l E (u1)  (g) (oqSk g a) (b) (by omega) (by omega) (oqX_fr fu1 rfl hp2)) (by omega) rfl rfl rfl (Nat.le_of_ble_eq_true rfl) (oDec_at oX5_part 47 rfl) (fun r9 u8 pu8 fu8 => ?_)
          try dsimp only at pu8
          try simp only [lk7] at pu8
          obtain ⟨pu8_0, pu8_1, pu8_2, pu8_3, pu8_4, pu8_5⟩ := pu8
          have rr9 := n_rng r9
          have hj := oqWi_eq pu8_2 ⟨by omega, by omega⟩
          clear pu8_2 pu8_3
          refine r_istore_n C (lv' := [(0, .ref (oad E 30)), (1, .int r2), (2, .int r9)]) [1, 2, 0] (oDec_at oX5_part 48 rfl) rfl (by decide) rfl ?_
          refine r_iload_n C (j := 2) (oDec_at oX5_part 49 rfl) rfl rfl ?_
          refine r_aload_n C (j := 0) (oDec_at oX5_part 50 rfl) rfl rfl ?_
          obtain ⟨v10, ev10⟩ : ∃ z : Int32, (u8).1 30 6 = z := ⟨_, rfl⟩
          have gv10 : (s.1 30 6).toInt = v10.toInt := congrArg Int32.toInt ((((fu8 30 6 rfl).1).trans ((fu1 30 6 rfl).1)).symm.trans ev10)
          have ggv10 : ((u8).1 30 6).toInt = v10.toInt := congrArg Int32.toInt ev10
          have rv10 := n_rng v10
          refine r_geti (k := 6) (lo := (-2147483648)) (hi := 2147483647) C v10 oCl5 rfl (by decide) flX5_109 rfl rfl (ev10) rfl rfl (oDec_at oX5_part 51 rfl) (fun _ _ => ?_)
          refine r_pc C 101 rfl ?_
          refine r_icmp_lt C 135 (oDec_at oX5_part 52 rfl) (by decide) (fun cd11 => ?_) (fun cd11 => ?_)
          · skip
            refine r_iload_n C (j := 2) (oDec_at oX5_part 70 rfl) rfl rfl ?_
            refine r_bipush C (oDec_at oX5_part 71 rfl) (v := k24) (by rw [qk24]; rfl) ?_
            refine r_icmp_eq C 157 (oDec_at oX5_part 72 rfl) (by decide) (fun cd12 => ?_) (fun cd12 => ?_)
            · skip
              have hjn : oqWi g (oqSk g a) b = ((r9.toInt.toNat : Nat) : Int) := by omega
              have hl1 := oq_w1 r9.toInt.toNat (by omega)
              have hHa : oqHa g (oqSk g a) (r9.toInt.toNat) = oqSk g (oqSk g a) + (oqWl (r9.toInt.toNat) : Int) := rfl
              have hH9 := (oqWi_is (g := g) (a := oqSk g a) (b := b) (i := r9.toInt.toNat) (by omega)).mp hjn
              refine r_aload_n C (j := 0) (oDec_at oX5_part 82 rfl) rfl rfl ?_
              refine r_iload_n C (j := 2) (oDec_at oX5_part 83 rfl) rfl rfl ?_
              have lk13 : ((u8).1 30 3).toInt = (s.1 30 3).toInt := congrArg Int32.toInt (((fu8 30 3 rfl).1).trans ((fu1 30 3 rfl).1))
              have lk14 : ((u8).1 30 8).toInt = (s.1 30 8).toInt := congrArg Int32.toInt (((fu8 30 8 rfl).1).trans ((fu1 30 8 rfl).1))
              have lk15 : ((u8).1 30 9).toInt = (s.1 30 9).toInt := congrArg Int32.toInt (((fu8 30 9 rfl).1).trans ((fu1 30 9 rfl).1))
              refine r_callVi C oCl5 rfl miX5_expect mlX5_74 (ct4_X5_expect l E (u8) r9 (g) (oqSk g a) (b) (r9.toInt.toNat) (by omega) (by omega) (oqX_fr fu8 rfl (oqX_fr fu1 rfl hp2)) (by omega) (by omega)) (by omega) rfl rfl rfl (Nat.le_of_ble_eq_true rfl) (oDec_at oX5_part 84 rfl) (fun r17 u16 pu16 fu16 => ?_)
              try dsimp only at pu16
              try simp only [lk13, lk14, lk15] at pu16
              obtain ⟨pu16_0, pu16_1, pu16_2⟩ := pu16
              have rr17 := n_rng r17
              refine r_if_eq C 191 (oDec_at oX5_part 85 rfl) (by decide) (fun cd18 => ?_) (fun cd18 => ?_)
              · skip
                clear pu16_1
                replace pu16_2 := pu16_2 (by omega)
                refine r_iconst C (oDec_at oX5_part 97 rfl) (v := k0) (by rw [qk0]; rfl) ?_
                have lk19 : ((u16).1 30 5).toInt = (s.1 30 5).toInt := congrArg Int32.toInt (((fu16 30 5 rfl).1).trans (((fu8 30 5 rfl).1).trans ((fu1 30 5 rfl).1)))
                exact r_zret C (n_bool (by omega)) (oDec_at oX5_part 98 rfl) ⟨_, rfl, ⟨by omega, by first | exact fun _ => oqp_minY (by omega) hjn (by omega) pu16_1 | (intro h; exfalso; omega), by omega, by first | (intro h; exfalso; omega) | exact fun _ => oqp_minN (by omega) hjn (by omega) pu16_3⟩⟩
              · skip
                replace pu16_1 := pu16_1 (by omega)
                clear pu16_2
                refine r_aload_n C (j := 0) (oDec_at oX5_part 86 rfl) rfl rfl ?_
                refine r_iload_n C (j := 2) (oDec_at oX5_part 87 rfl) rfl rfl ?_
                refine r_bipush C (oDec_at oX5_part 88 rfl) (v := k24) (by rw [qk24]; rfl) ?_
                refine r_icmp_ne C 178 (oDec_at oX5_part 89 rfl) (by decide) (fun cd20 => ?_) (fun cd20 => ?_)
                · omega
                · skip
                  refine r_sipush C (oDec_at oX5_part 90 rfl) (v := k10030) (by rw [qk10030]; rfl) ?_
                  refine r_goto C (tgt := 181) (oDec_at oX5_part 91 rfl) (by decide) ?_
                  have lk21 : ((u16).1 30 5).toInt = (s.1 30 5).toInt := congrArg Int32.toInt (((fu16 30 5 rfl).1).trans (((fu8 30 5 rfl).1).trans ((fu1 30 5 rfl).1)))
                  have lk22 : ((u16).1 30 6).toInt = v10.toInt := congrArg Int32.toInt (((fu16 30 6 rfl).1).trans (ev10))
                  have lk23 : ((u16).1 30 7).toInt = (s.1 30 7).toInt := congrArg Int32.toInt (((fu16 30 7 rfl).1).trans (((fu8 30 7 rfl).1).trans ((fu1 30 7 rfl).1)))
                  have lk24 : ((u16).1 30 5).toInt = (s.1 30 5).toInt := congrArg Int32.toInt (((fu16 30 5 rfl).1).trans (((fu8 30 5 rfl).1).trans ((fu1 30 5 rfl).1)))
                  refine r_callVi C oCl5 rfl miX5_choice mlX5_172 (h_X5_choice (u16) k10030 (g) (fp) (fq) (oqHa g (oqSk g a) (r9.toInt.toNat)) (oqHa g (oqSk g a) (r9.toInt.toNat)) (op) (by omega) (by omega) (oqX_fr fu16 rfl (oqX_fr fu8 rfl (oqX_fr fu1 rfl hp2))) (by omega) (by omega) (by omega) (by omega)) (by omega) rfl rfl rfl (Nat.le_of_ble_eq_true rfl) (oDec_at oX5_part 93 rfl) (fun r26 u25 pu25 fu25 => ?_)
                  try dsimp only at pu25
                  try simp only [lk21, lk22, lk23, lk24] at pu25
                  obtain ⟨pu25_0, pu25_1, pu25_2, pu25_3⟩ := pu25
                  have rr26 := n_rng r26
                  refine r_if_eq C 191 (oDec_at oX5_part 94 rfl) (by decide) (fun cd27 => ?_) (fun cd27 => ?_)
                  · skip
                    clear pu25_1
                    clear pu25_2
                    replace pu25_3 := pu25_3 (by omega)
                    refine r_iconst C (oDec_at oX5_part 97 rfl) (v := k0) (by rw [qk0]; rfl) ?_
                    exact r_zret C (n_bool (by omega)) (oDec_at oX5_part 98 rfl) ⟨_, rfl, ⟨by omega, by first | exact fun _ => oqp_minY (by omega) hjn (by omega) pu25_1 | (intro h; exfalso; omega), by omega, by first | (intro h; exfalso; omega) | exact fun _ => oqp_minN (by omega) hjn (by omega) pu25_3⟩⟩
                  · skip
                    replace pu25_1 := pu25_1 (by omega)
                    replace pu25_2 := pu25_2 (by omega)
                    clear pu25_3
                    refine r_iconst C (oDec_at oX5_part 95 rfl) (v := k1) (by rw [qk1]; rfl) ?_
                    refine r_goto C (tgt := 192) (oDec_at oX5_part 96 rfl) (by decide) ?_
                    exact r_zret C (n_bool (by omega)) (oDec_at oX5_part 98 rfl) ⟨_, rfl, ⟨by omega, by first | exact fun _ => oqp_minY (by omega) hjn (by omega) pu25_1 | (intro h; exfalso; omega), by omega, by first | (intro h; exfalso; omega) | exact fun _ => oqp_minN (by omega) hjn (by omega) pu25_3⟩⟩
            · skip
              refine r_iload_n C (j := 2) (oDec_at oX5_part 73 rfl) rfl rfl ?_
              refine r_bipush C (oDec_at oX5_part 74 rfl) (v := k25) (by rw [qk25]; rfl) ?_
              refine r_icmp_eq C 157 (oDec_at oX5_part 75 rfl) (by decide) (fun cd28 => ?_) (fun cd28 => ?_)
              · skip
                have hjn : oqWi g (oqSk g a) b = ((r9.toInt.toNat : Nat) : Int) := by omega
                have hl1 := oq_w1 r9.toInt.toNat (by omega)
                have hHa : oqHa g (oqSk g a) (r9.toInt.toNat) = oqSk g (oqSk g a) + (oqWl (r9.toInt.toNat) : Int) := rfl
                have hH9 := (oqWi_is (g := g) (a := oqSk g a) (b := b) (i := r9.toInt.toNat) (by omega)).mp hjn
                refine r_aload_n C (j := 0) (oDec_at oX5_part 82 rfl) rfl rfl ?_
                refine r_iload_n C (j := 2) (oDec_at oX5_part 83 rfl) rfl rfl ?_
                have lk29 : ((u8).1 30 3).toInt = (s.1 30 3).toInt := congrArg Int32.toInt (((fu8 30 3 rfl).1).trans ((fu1 30 3 rfl).1))
                have lk30 : ((u8).1 30 8).toInt = (s.1 30 8).toInt := congrArg Int32.toInt (((fu8 30 8 rfl).1).trans ((fu1 30 8 rfl).1))
                have lk31 : ((u8).1 30 9).toInt = (s.1 30 9).toInt := congrArg Int32.toInt (((fu8 30 9 rfl).1).trans ((fu1 30 9 rfl).1))
                refine r_callVi C oCl5 rfl miX5_expect mlX5_74 (ct4_X5_expect l E (u8) r9 (g) (oqSk g a) (b) (r9.toInt.toNat) (by omega) (by omega) (oqX_fr fu8 rfl (oqX_fr fu1 rfl hp2)) (by omega) (by omega)) (by omega) rfl rfl rfl (Nat.le_of_ble_eq_true rfl) (oDec_at oX5_part 84 rfl) (fun r33 u32 pu32 fu32 => ?_)
                try dsimp only at pu32
                try simp only [lk29, lk30, lk31] at pu32
                obtain ⟨pu32_0, pu32_1, pu32_2⟩ := pu32
                have rr33 := n_rng r33
                refine r_if_eq C 191 (oDec_at oX5_part 85 rfl) (by decide) (fun cd34 => ?_) (fun cd34 => ?_)
                · skip
                  clear pu32_1
                  replace pu32_2 := pu32_2 (by omega)
                  refine r_iconst C (oDec_at oX5_part 97 rfl) (v := k0) (by rw [qk0]; rfl) ?_
                  have lk35 : ((u32).1 30 5).toInt = (s.1 30 5).toInt := congrArg Int32.toInt (((fu32 30 5 rfl).1).trans (((fu8 30 5 rfl).1).trans ((fu1 30 5 rfl).1)))
                  exact r_zret C (n_bool (by omega)) (oDec_at oX5_part 98 rfl) ⟨_, rfl, ⟨by omega, by first | exact fun _ => oqp_minY (by omega) hjn (by omega) pu32_1 | (intro h; exfalso; omega), by omega, by first | (intro h; exfalso; omega) | exact fun _ => oqp_minN (by omega) hjn (by omega) pu32_3⟩⟩
                · skip
                  replace pu32_1 := pu32_1 (by omega)
                  clear pu32_2
                  refine r_aload_n C (j := 0) (oDec_at oX5_part 86 rfl) rfl rfl ?_
                  refine r_iload_n C (j := 2) (oDec_at oX5_part 87 rfl) rfl rfl ?_
                  refine r_bipush C (oDec_at oX5_part 88 rfl) (v := k24) (by rw [qk24]; rfl) ?_
                  refine r_icmp_ne C 178 (oDec_at oX5_part 89 rfl) (by decide) (fun cd36 => ?_) (fun cd36 => ?_)
                  · skip
                    refine r_sipush C (oDec_at oX5_part 92 rfl) (v := k10031) (by rw [qk10031]; rfl) ?_
                    have lk37 : ((u32).1 30 5).toInt = (s.1 30 5).toInt := congrArg Int32.toInt (((fu32 30 5 rfl).1).trans (((fu8 30 5 rfl).1).trans ((fu1 30 5 rfl).1)))
                    have lk38 : ((u32).1 30 6).toInt = v10.toInt := congrArg Int32.toInt (((fu32 30 6 rfl).1).trans (ev10))
                    have lk39 : ((u32).1 30 7).toInt = (s.1 30 7).toInt := congrArg Int32.toInt (((fu32 30 7 rfl).1).trans (((fu8 30 7 rfl).1).trans ((fu1 30 7 rfl).1)))
                    have lk40 : ((u32).1 30 5).toInt = (s.1 30 5).toInt := congrArg Int32.toInt (((fu32 30 5 rfl).1).trans (((fu8 30 5 rfl).1).trans ((fu1 30 5 rfl).1)))
                    refine r_callVi C oCl5 rfl miX5_choice mlX5_172 (h_X5_choice (u32) k10031 (g) (fp) (fq) (oqHa g (oqSk g a) (r9.toInt.toNat)) (oqHa g (oqSk g a) (r9.toInt.toNat)) (op) (by omega) (by omega) (oqX_fr fu32 rfl (oqX_fr fu8 rfl (oqX_fr fu1 rfl hp2))) (by omega) (by omega) (by omega) (by omega)) (by omega) rfl rfl rfl (Nat.le_of_ble_eq_true rfl) (oDec_at oX5_part 93 rfl) (fun r42 u41 pu41 fu41 => ?_)
                    try dsimp only at pu41
                    try simp only [lk37, lk38, lk39, lk40] at pu41
                    obtain ⟨pu41_0, pu41_1, pu41_2, pu41_3⟩ := pu41
                    have rr42 := n_rng r42
                    refine r_if_eq C 191 (oDec_at oX5_part 94 rfl) (by decide) (fun cd43 => ?_) (fun cd43 => ?_)
                    · skip
                      clear pu41_1
                      clear pu41_2
                      replace pu41_3 := pu41_3 (by omega)
                      refine r_iconst C (oDec_at oX5_part 97 rfl) (v := k0) (by rw [qk0]; rfl) ?_
                      exact r_zret C (n_bool (by omega)) (oDec_at oX5_part 98 rfl) ⟨_, rfl, ⟨by omega, by first | exact fun _ => oqp_minY (by omega) hjn (by omega) pu41_1 | (intro h; exfalso; omega), by omega, by first | (intro h; exfalso; omega) | exact fun _ => oqp_minN (by omega) hjn (by omega) pu41_3⟩⟩
                    · skip
                      replace pu41_1 := pu41_1 (by omega)
                      replace pu41_2 := pu41_2 (by omega)
                      clear pu41_3
                      refine r_iconst C (oDec_at oX5_part 95 rfl) (v := k1) (by rw [qk1]; rfl) ?_
                      refine r_goto C (tgt := 192) (oDec_at oX5_part 96 rfl) (by decide) ?_
                      exact r_zret C (n_bool (by omega)) (oDec_at oX5_part 98 rfl) ⟨_, rfl, ⟨by omega, by first | exact fun _ => oqp_minY (by omega) hjn (by omega) pu41_1 | (intro h; exfalso; omega), by omega, by first | (intro h; exfalso; omega) | exact fun _ => oqp_minN (by omega) hjn (by omega) pu41_3⟩⟩
                  · omega
              · skip
                refine r_aload_n C (j := 0) (oDec_at oX5_part 76 rfl) rfl rfl ?_
                refine r_iconst C (oDec_at oX5_part 77 rfl) (v := k1) (by rw [qk1]; rfl) ?_
                refine r_aload_n C (j := 0) (oDec_at oX5_part 78 rfl) rfl rfl ?_
                obtain ⟨v44, ev44⟩ : ∃ z : Int32, (u8).1 30 2 = z := ⟨_, rfl⟩
                have gv44 : (u8.1 30 2).toInt = v44.toInt := congrArg Int32.toInt (ev44)
                refine r_geti (k := 2) (lo := 0) (hi := 1600) C v44 oCl5 rfl (by decide) flX5_23 rfl rfl (ev44) rfl rfl (oDec_at oX5_part 79 rfl) (fun b45 b45h => ?_)
                refine r_callVi C oCl5 rfl miX5_fail mlX5_62 (ct4_X5_fail l E (u8) k1 v44 ) (by omega) rfl rfl rfl (Nat.le_of_ble_eq_true rfl) (oDec_at oX5_part 80 rfl) (fun r47 u46 pu46 fu46 => ?_)
                try dsimp only at pu46
                obtain ⟨pu46_0, pu46_1, pu46_2, pu46_3⟩ := pu46
                have rr47 := n_rng r47
                have lk48 : ((u46).1 30 2).toInt = v44.toInt := congrArg Int32.toInt (((fu46 30 2 rfl).1).trans (ev44))
                have lk49 : ((u46).1 30 3).toInt = (s.1 30 3).toInt := congrArg Int32.toInt (((fu46 30 3 rfl).1).trans (((fu8 30 3 rfl).1).trans ((fu1 30 3 rfl).1)))
                have lk50 : ((u46).1 30 5).toInt = (s.1 30 5).toInt := congrArg Int32.toInt (((fu46 30 5 rfl).1).trans (((fu8 30 5 rfl).1).trans ((fu1 30 5 rfl).1)))
                have lk51 : ((u46).1 30 2).toInt = v44.toInt := congrArg Int32.toInt (((fu46 30 2 rfl).1).trans (ev44))
                exact r_zret C (n_bool (by omega)) (oDec_at oX5_part 81 rfl) ⟨_, rfl, ⟨by omega, fun h => by exfalso; omega, by omega, fun _ => (oqp_none (by omega) hss (by omega) (by omega) (by omega)).cast (by omega) (by omega)⟩⟩
          · skip
            refine r_iload_n C (j := 2) (oDec_at oX5_part 53 rfl) rfl rfl ?_
            refine r_aload_n C (j := 0) (oDec_at oX5_part 54 rfl) rfl rfl ?_
            obtain ⟨v52, ev52⟩ : ∃ z : Int32, (u8).1 30 7 = z := ⟨_, rfl⟩
            have gv52 : (s.1 30 7).toInt = v52.toInt := congrArg Int32.toInt ((((fu8 30 7 rfl).1).trans ((fu1 30 7 rfl).1)).symm.trans ev52)
            have ggv52 : ((u8).1 30 7).toInt = v52.toInt := congrArg Int32.toInt ev52
            have rv52 := n_rng v52
            refine r_geti (k := 7) (lo := (-2147483648)) (hi := 2147483647) C v52 oCl5 rfl (by decide) flX5_112 rfl rfl (ev52) rfl rfl (oDec_at oX5_part 55 rfl) (fun _ _ => ?_)
            refine r_icmp_ge C 135 (oDec_at oX5_part 56 rfl) (by decide) (fun cd53 => ?_) (fun cd53 => ?_)
            · skip
              refine r_iload_n C (j := 2) (oDec_at oX5_part 70 rfl) rfl rfl ?_
              refine r_bipush C (oDec_at oX5_part 71 rfl) (v := k24) (by rw [qk24]; rfl) ?_
              refine r_icmp_eq C 157 (oDec_at oX5_part 72 rfl) (by decide) (fun cd54 => ?_) (fun cd54 => ?_)
              · skip
                have hjn : oqWi g (oqSk g a) b = ((r9.toInt.toNat : Nat) : Int) := by omega
                have hl1 := oq_w1 r9.toInt.toNat (by omega)
                have hHa : oqHa g (oqSk g a) (r9.toInt.toNat) = oqSk g (oqSk g a) + (oqWl (r9.toInt.toNat) : Int) := rfl
                have hH9 := (oqWi_is (g := g) (a := oqSk g a) (b := b) (i := r9.toInt.toNat) (by omega)).mp hjn
                refine r_aload_n C (j := 0) (oDec_at oX5_part 82 rfl) rfl rfl ?_
                refine r_iload_n C (j := 2) (oDec_at oX5_part 83 rfl) rfl rfl ?_
                have lk55 : ((u8).1 30 3).toInt = (s.1 30 3).toInt := congrArg Int32.toInt (((fu8 30 3 rfl).1).trans ((fu1 30 3 rfl).1))
                have lk56 : ((u8).1 30 8).toInt = (s.1 30 8).toInt := congrArg Int32.toInt (((fu8 30 8 rfl).1).trans ((fu1 30 8 rfl).1))
                have lk57 : ((u8).1 30 9).toInt = (s.1 30 9).toInt := congrArg Int32.toInt (((fu8 30 9 rfl).1).trans ((fu1 30 9 rfl).1))
                refine r_callVi C oCl5 rfl miX5_expect mlX5_74 (ct4_X5_expect l E (u8) r9 (g) (oqSk g a) (b) (r9.toInt.toNat) (by omega) (by omega) (oqX_fr fu8 rfl (oqX_fr fu1 rfl hp2)) (by omega) (by omega)) (by omega) rfl rfl rfl (Nat.le_of_ble_eq_true rfl) (oDec_at oX5_part 84 rfl) (fun r59 u58 pu58 fu58 => ?_)
                try dsimp only at pu58
                try simp only [lk55, lk56, lk57] at pu58
                obtain ⟨pu58_0, pu58_1, pu58_2⟩ := pu58
                have rr59 := n_rng r59
                refine r_if_eq C 191 (oDec_at oX5_part 85 rfl) (by decide) (fun cd60 => ?_) (fun cd60 => ?_)
                · skip
                  clear pu58_1
                  replace pu58_2 := pu58_2 (by omega)
                  refine r_iconst C (oDec_at oX5_part 97 rfl) (v := k0) (by rw [qk0]; rfl) ?_
                  have lk61 : ((u58).1 30 5).toInt = (s.1 30 5).toInt := congrArg Int32.toInt (((fu58 30 5 rfl).1).trans (((fu8 30 5 rfl).1).trans ((fu1 30 5 rfl).1)))
                  exact r_zret C (n_bool (by omega)) (oDec_at oX5_part 98 rfl) ⟨_, rfl, ⟨by omega, by first | exact fun _ => oqp_minY (by omega) hjn (by omega) pu58_1 | (intro h; exfalso; omega), by omega, by first | (intro h; exfalso; omega) | exact fun _ => oqp_minN (by omega) hjn (by omega) pu58_3⟩⟩
                · skip
                  replace pu58_1 := pu58_1 (by omega)
                  clear pu58_2
                  refine r_aload_n C (j := 0) (oDec_at oX5_part 86 rfl) rfl rfl ?_
                  refine r_iload_n C (j := 2) (oDec_at oX5_part 87 rfl) rfl rfl ?_
                  refine r_bipush C (oDec_at oX5_part 88 rfl) (v := k24) (by rw [qk24]; rfl) ?_
                  refine r_icmp_ne C 178 (oDec_at oX5_part 89 rfl) (by decide) (fun cd62 => ?_) (fun cd62 => ?_)
                  · omega
                  · skip
                    refine r_sipush C (oDec_at oX5_part 90 rfl) (v := k10030) (by rw [qk10030]; rfl) ?_
                    refine r_goto C (tgt := 181) (oDec_at oX5_part 91 rfl) (by decide) ?_
                    have lk63 : ((u58).1 30 5).toInt = (s.1 30 5).toInt := congrArg Int32.toInt (((fu58 30 5 rfl).1).trans (((fu8 30 5 rfl).1).trans ((fu1 30 5 rfl).1)))
                    have lk64 : ((u58).1 30 6).toInt = v10.toInt := congrArg Int32.toInt (((fu58 30 6 rfl).1).trans (ev10))
                    have lk65 : ((u58).1 30 7).toInt = v52.toInt := congrArg Int32.toInt (((fu58 30 7 rfl).1).trans (ev52))
                    have lk66 : ((u58).1 30 5).toInt = (s.1 30 5).toInt := congrArg Int32.toInt (((fu58 30 5 rfl).1).trans (((fu8 30 5 rfl).1).trans ((fu1 30 5 rfl).1)))
                    refine r_callVi C oCl5 rfl miX5_choice mlX5_172 (h_X5_choice (u58) k10030 (g) (fp) (fq) (oqHa g (oqSk g a) (r9.toInt.toNat)) (oqHa g (oqSk g a) (r9.toInt.toNat)) (op) (by omega) (by omega) (oqX_fr fu58 rfl (oqX_fr fu8 rfl (oqX_fr fu1 rfl hp2))) (by omega) (by omega) (by omega) (by omega)) (by omega) rfl rfl rfl (Nat.le_of_ble_eq_true rfl) (oDec_at oX5_part 93 rfl) (fun r68 u67 pu67 fu67 => ?_)
                    try dsimp only at pu67
                    try simp only [lk63, lk64, lk65, lk66] at pu67
                    obtain ⟨pu67_0, pu67_1, pu67_2, pu67_3⟩ := pu67
                    have rr68 := n_rng r68
                    refine r_if_eq C 191 (oDec_at oX5_part 94 rfl) (by decide) (fun cd69 => ?_) (fun cd69 => ?_)
                    · skip
                      clear pu67_1
                      clear pu67_2
                      replace pu67_3 := pu67_3 (by omega)
                      refine r_iconst C (oDec_at oX5_part 97 rfl) (v := k0) (by rw [qk0]; rfl) ?_
                      exact r_zret C (n_bool (by omega)) (oDec_at oX5_part 98 rfl) ⟨_, rfl, ⟨by omega, by first | exact fun _ => oqp_minY (by omega) hjn (by omega) pu67_1 | (intro h; exfalso; omega), by omega, by first | (intro h; exfalso; omega) | exact fun _ => oqp_minN (by omega) hjn (by omega) pu67_3⟩⟩
                    · skip
                      replace pu67_1 := pu67_1 (by omega)
                      replace pu67_2 := pu67_2 (by omega)
                      clear pu67_3
                      refine r_iconst C (oDec_at oX5_part 95 rfl) (v := k1) (by rw [qk1]; rfl) ?_
                      refine r_goto C (tgt := 192) (oDec_at oX5_part 96 rfl) (by decide) ?_
                      exact r_zret C (n_bool (by omega)) (oDec_at oX5_part 98 rfl) ⟨_, rfl, ⟨by omega, by first | exact fun _ => oqp_minY (by omega) hjn (by omega) pu67_1 | (intro h; exfalso; omega), by omega, by first | (intro h; exfalso; omega) | exact fun _ => oqp_minN (by omega) hjn (by omega) pu67_3⟩⟩
              · skip
                refine r_iload_n C (j := 2) (oDec_at oX5_part 73 rfl) rfl rfl ?_
                refine r_bipush C (oDec_at oX5_part 74 rfl) (v := k25) (by rw [qk25]; rfl) ?_
                refine r_icmp_eq C 157 (oDec_at oX5_part 75 rfl) (by decide) (fun cd70 => ?_) (fun cd70 => ?_)
                · skip
                  have hjn : oqWi g (oqSk g a) b = ((r9.toInt.toNat : Nat) : Int) := by omega
                  have hl1 := oq_w1 r9.toInt.toNat (by omega)
                  have hHa : oqHa g (oqSk g a) (r9.toInt.toNat) = oqSk g (oqSk g a) + (oqWl (r9.toInt.toNat) : Int) := rfl
                  have hH9 := (oqWi_is (g := g) (a := oqSk g a) (b := b) (i := r9.toInt.toNat) (by omega)).mp hjn
                  refine r_aload_n C (j := 0) (oDec_at oX5_part 82 rfl) rfl rfl ?_
                  refine r_iload_n C (j := 2) (oDec_at oX5_part 83 rfl) rfl rfl ?_
                  have lk71 : ((u8).1 30 3).toInt = (s.1 30 3).toInt := congrArg Int32.toInt (((fu8 30 3 rfl).1).trans ((fu1 30 3 rfl).1))
                  have lk72 : ((u8).1 30 8).toInt = (s.1 30 8).toInt := congrArg Int32.toInt (((fu8 30 8 rfl).1).trans ((fu1 30 8 rfl).1))
                  have lk73 : ((u8).1 30 9).toInt = (s.1 30 9).toInt := congrArg Int32.toInt (((fu8 30 9 rfl).1).trans ((fu1 30 9 rfl).1))
                  refine r_callVi C oCl5 rfl miX5_expect mlX5_74 (ct4_X5_expect l E (u8) r9 (g) (oqSk g a) (b) (r9.toInt.toNat) (by omega) (by omega) (oqX_fr fu8 rfl (oqX_fr fu1 rfl hp2)) (by omega) (by omega)) (by omega) rfl rfl rfl (Nat.le_of_ble_eq_true rfl) (oDec_at oX5_part 84 rfl) (fun r75 u74 pu74 fu74 => ?_)
                  try dsimp only at pu74
                  try simp only [lk71, lk72, lk73] at pu74
                  obtain ⟨pu74_0, pu74_1, pu74_2⟩ := pu74
                  have rr75 := n_rng r75
                  refine r_if_eq C 191 (oDec_at oX5_part 85 rfl) (by decide) (fun cd76 => ?_) (fun cd76 => ?_)
                  · skip
                    clear pu74_1
                    replace pu74_2 := pu74_2 (by omega)
                    refine r_iconst C (oDec_at oX5_part 97 rfl) (v := k0) (by rw [qk0]; rfl) ?_
                    have lk77 : ((u74).1 30 5).toInt = (s.1 30 5).toInt := congrArg Int32.toInt (((fu74 30 5 rfl).1).trans (((fu8 30 5 rfl).1).trans ((fu1 30 5 rfl).1)))
                    exact r_zret C (n_bool (by omega)) (oDec_at oX5_part 98 rfl) ⟨_, rfl, ⟨by omega, by first | exact fun _ => oqp_minY (by omega) hjn (by omega) pu74_1 | (intro h; exfalso; omega), by omega, by first | (intro h; exfalso; omega) | exact fun _ => oqp_minN (by omega) hjn (by omega) pu74_3⟩⟩
                  · skip
                    replace pu74_1 := pu74_1 (by omega)
                    clear pu74_2
                    refine r_aload_n C (j := 0) (oDec_at oX5_part 86 rfl) rfl rfl ?_
                    refine r_iload_n C (j := 2) (oDec_at oX5_part 87 rfl) rfl rfl ?_
                    refine r_bipush C (oDec_at oX5_part 88 rfl) (v := k24) (by rw [qk24]; rfl) ?_
                    refine r_icmp_ne C 178 (oDec_at oX5_part 89 rfl) (by decide) (fun cd78 => ?_) (fun cd78 => ?_)
                    · skip
                      refine r_sipush C (oDec_at oX5_part 92 rfl) (v := k10031) (by rw [qk10031]; rfl) ?_
                      have lk79 : ((u74).1 30 5).toInt = (s.1 30 5).toInt := congrArg Int32.toInt (((fu74 30 5 rfl).1).trans (((fu8 30 5 rfl).1).trans ((fu1 30 5 rfl).1)))
                      have lk80 : ((u74).1 30 6).toInt = v10.toInt := congrArg Int32.toInt (((fu74 30 6 rfl).1).trans (ev10))
                      have lk81 : ((u74).1 30 7).toInt = v52.toInt := congrArg Int32.toInt (((fu74 30 7 rfl).1).trans (ev52))
                      have lk82 : ((u74).1 30 5).toInt = (s.1 30 5).toInt := congrArg Int32.toInt (((fu74 30 5 rfl).1).trans (((fu8 30 5 rfl).1).trans ((fu1 30 5 rfl).1)))
                      refine r_callVi C oCl5 rfl miX5_choice mlX5_172 (h_X5_choice (u74) k10031 (g) (fp) (fq) (oqHa g (oqSk g a) (r9.toInt.toNat)) (oqHa g (oqSk g a) (r9.toInt.toNat)) (op) (by omega) (by omega) (oqX_fr fu74 rfl (oqX_fr fu8 rfl (oqX_fr fu1 rfl hp2))) (by omega) (by omega) (by omega) (by omega)) (by omega) rfl rfl rfl (Nat.le_of_ble_eq_true rfl) (oDec_at oX5_part 93 rfl) (fun r84 u83 pu83 fu83 => ?_)
                      try dsimp only at pu83
                      try simp only [lk79, lk80, lk81, lk82] at pu83
                      obtain ⟨pu83_0, pu83_1, pu83_2, pu83_3⟩ := pu83
                      have rr84 := n_rng r84
                      refine r_if_eq C 191 (oDec_at oX5_part 94 rfl) (by decide) (fun cd85 => ?_) (fun cd85 => ?_)
                      · skip
                        clear pu83_1
                        clear pu83_2
                        replace pu83_3 := pu83_3 (by omega)
                        refine r_iconst C (oDec_at oX5_part 97 rfl) (v := k0) (by rw [qk0]; rfl) ?_
                        exact r_zret C (n_bool (by omega)) (oDec_at oX5_part 98 rfl) ⟨_, rfl, ⟨by omega, by first | exact fun _ => oqp_minY (by omega) hjn (by omega) pu83_1 | (intro h; exfalso; omega), by omega, by first | (intro h; exfalso; omega) | exact fun _ => oqp_minN (by omega) hjn (by omega) pu83_3⟩⟩
                      · skip
                        replace pu83_1 := pu83_1 (by omega)
                        replace pu83_2 := pu83_2 (by omega)
                        clear pu83_3
                        refine r_iconst C (oDec_at oX5_part 95 rfl) (v := k1) (by rw [qk1]; rfl) ?_
                        refine r_goto C (tgt := 192) (oDec_at oX5_part 96 rfl) (by decide) ?_
                        exact r_zret C (n_bool (by omega)) (oDec_at oX5_part 98 rfl) ⟨_, rfl, ⟨by omega, by first | exact fun _ => oqp_minY (by omega) hjn (by omega) pu83_1 | (intro h; exfalso; omega), by omega, by first | (intro h; exfalso; omega) | exact fun _ => oqp_minN (by omega) hjn (by omega) pu83_3⟩⟩
                    · omega
                · skip
                  refine r_aload_n C (j := 0) (oDec_at oX5_part 76 rfl) rfl rfl ?_
                  refine r_iconst C (oDec_at oX5_part 77 rfl) (v := k1) (by rw [qk1]; rfl) ?_
                  refine r_aload_n C (j := 0) (oDec_at oX5_part 78 rfl) rfl rfl ?_
                  obtain ⟨v86, ev86⟩ : ∃ z : Int32, (u8).1 30 2 = z := ⟨_, rfl⟩
                  have gv86 : (u8.1 30 2).toInt = v86.toInt := congrArg Int32.toInt (ev86)
                  refine r_geti (k := 2) (lo := 0) (hi := 1600) C v86 oCl5 rfl (by decide) flX5_23 rfl rfl (ev86) rfl rfl (oDec_at oX5_part 79 rfl) (fun b87 b87h => ?_)
                  refine r_callVi C oCl5 rfl miX5_fail mlX5_62 (ct4_X5_fail l E (u8) k1 v86 ) (by omega) rfl rfl rfl (Nat.le_of_ble_eq_true rfl) (oDec_at oX5_part 80 rfl) (fun r89 u88 pu88 fu88 => ?_)
                  try dsimp only at pu88
                  obtain ⟨pu88_0, pu88_1, pu88_2, pu88_3⟩ := pu88
                  have rr89 := n_rng r89
                  have lk90 : ((u88).1 30 2).toInt = v86.toInt := congrArg Int32.toInt (((fu88 30 2 rfl).1).trans (ev86))
                  have lk91 : ((u88).1 30 3).toInt = (s.1 30 3).toInt := congrArg Int32.toInt (((fu88 30 3 rfl).1).trans (((fu8 30 3 rfl).1).trans ((fu1 30 3 rfl).1)))
                  have lk92 : ((u88).1 30 5).toInt = (s.1 30 5).toInt := congrArg Int32.toInt (((fu88 30 5 rfl).1).trans (((fu8 30 5 rfl).1).trans ((fu1 30 5 rfl).1)))
                  have lk93 : ((u88).1 30 2).toInt = v86.toInt := congrArg Int32.toInt (((fu88 30 2 rfl).1).trans (ev86))
                  exact r_zret C (n_bool (by omega)) (oDec_at oX5_part 81 rfl) ⟨_, rfl, ⟨by omega, fun h => by exfalso; omega, by omega, fun _ => (oqp_none (by omega) hss (by omega) (by omega) (by omega)).cast (by omega) (by omega)⟩⟩
            · skip
              refine r_aload_n C (j := 0) (oDec_at oX5_part 57 rfl) rfl rfl ?_
              refine r_getS (k := 1) (q2 := 0) C oCl5 rfl (by decide) flX5_19 rfl rfl rfl ks1 (oDec_at oX5_part 58 rfl) (fun b94 rb94 mb94 hkb94 => ?_)
              refine r_sipush C (oDec_at oX5_part 59 rfl) (v := k10000) (by rw [qk10000]; rfl) ?_
              refine r_iload_n C (j := 2) (oDec_at oX5_part 60 rfl) rfl rfl ?_
              obtain ⟨v95, ev95⟩ : ∃ z : Int32, z = k10000 + r9 := ⟨_, rfl⟩
              have hv95 : v95.toInt = k10000.toInt + r9.toInt := n_add ev95 (by omega) (by omega)
              refine r_iadd C v95 (oDec_at oX5_part 61 rfl) ev95 ?_
              refine r_aload_n C (j := 0) (oDec_at oX5_part 62 rfl) rfl rfl ?_
              refine r_pc C 122 rfl ?_
              refine r_geti (k := 6) (lo := (-2147483648)) (hi := 2147483647) C v10 oCl5 rfl (by decide) flX5_109 rfl rfl (ev10) rfl rfl (oDec_at oX5_part 63 rfl) (fun _ _ => ?_)
              obtain ⟨v96, ev96⟩ : ∃ z : Int32, z = v95 - v10 := ⟨_, rfl⟩
              have hv96 : v96.toInt = v95.toInt - v10.toInt := n_sub ev96 (by omega) (by omega)
              refine r_isub C v96 (oDec_at oX5_part 64 rfl) ev96 ?_
              refine r_callVv C oCl0 hkb94 miX0_emit mlX5_147 (ct_X0_emit l E (u8) b94 hkb94 v96 ) (by omega) rfl rfl rfl (Nat.le_of_ble_eq_true rfl) (oDec_at oX5_part 65 rfl) (fun u97 pu97 fu97 => ?_)
              try dsimp only at pu97
              have hjn : oqWi g (oqSk g a) b = ((r9.toInt.toNat : Nat) : Int) := by omega
              have hl1 := oq_w1 r9.toInt.toNat (by omega)
              have hHa : oqHa g (oqSk g a) (r9.toInt.toNat) = oqSk g (oqSk g a) + (oqWl (r9.toInt.toNat) : Int) := rfl
              have hH9 := (oqWi_is (g := g) (a := oqSk g a) (b := b) (i := r9.toInt.toNat) (by omega)).mp hjn
              refine r_aload_n C (j := 0) (oDec_at oX5_part 66 rfl) rfl rfl ?_
              refine r_iload_n C (j := 2) (oDec_at oX5_part 67 rfl) rfl rfl ?_
              have lk99 : ((u97).1 30 2).toInt = (u8.1 30 2).toInt := congrArg Int32.toInt ((fu97 30 2 rfl).1)
              have lk100 : ((u97).1 30 3).toInt = (s.1 30 3).toInt := congrArg Int32.toInt (((fu97 30 3 rfl).1).trans (((fu8 30 3 rfl).1).trans ((fu1 30 3 rfl).1)))
              have lk101 : ((u97).1 30 8).toInt = (s.1 30 8).toInt := congrArg Int32.toInt (((fu97 30 8 rfl).1).trans (((fu8 30 8 rfl).1).trans ((fu1 30 8 rfl).1)))
              have lk102 : ((u97).1 30 9).toInt = (s.1 30 9).toInt := congrArg Int32.toInt (((fu97 30 9 rfl).1).trans (((fu8 30 9 rfl).1).trans ((fu1 30 9 rfl).1)))
              refine r_callVi C oCl5 rfl miX5_expect mlX5_74 (ct4_X5_expect l E (u97) r9 (g) (oqSk g a) (b) (r9.toInt.toNat) (by omega) (by omega) (oqX_fr fu97 rfl (oqX_fr fu8 rfl (oqX_fr fu1 rfl hp2))) (by omega) (by omega)) (by omega) rfl rfl rfl (Nat.le_of_ble_eq_true rfl) (oDec_at oX5_part 68 rfl) (fun r104 u103 pu103 fu103 => ?_)
              try dsimp only at pu103
              try simp only [lk99, lk100, lk101, lk102] at pu103
              obtain ⟨pu103_0, pu103_1, pu103_2⟩ := pu103
              have rr104 := n_rng r104
              refine r_pc C 134 rfl ?_
              have lk105 : ((u103).1 30 5).toInt = (s.1 30 5).toInt := congrArg Int32.toInt (((fu103 30 5 rfl).1).trans (((fu97 30 5 rfl).1).trans (((fu8 30 5 rfl).1).trans ((fu1 30 5 rfl).1))))
              exact r_zret C (n_bool (by omega)) (oDec_at oX5_part 69 rfl) ⟨_, rfl, ⟨by omega, fun _ => (oqp_wd (by omega) hjn (by omega) (by omega)).castS (by omega) (by omega), by omega, fun h => by exfalso; omega⟩⟩
        · skip
          have hwn := oqWi_let (g := g) (a := oqSk g a) (b := b) (by omega)
          have hge := oqNk_rg g (oqSk g a) b 0 9999
          have hnr := oqDn_rg g (oqSk g (oqSk g a))
          have hna : oqNa g (oqSk g a) = oqSk g (oqSk g a) + oqDn g (oqSk g (oqSk g a)) := rfl
          refine r_aload_n C (j := 0) (oDec_at oX5_part 30 rfl) rfl rfl ?_
          refine r_iconst C (oDec_at oX5_part 31 rfl) (v := k0) (by rw [qk0]; rfl) ?_
          refine r_sipush C (oDec_at oX5_part 32 rfl) (v := k9999) (by rw [qk9999]; rfl) ?_
          have lk106 : ((u1).1 30 3).toInt = (s.1 30 3).toInt := congrArg Int32.toInt ((fu1 30 3 rfl).1)
          have lk107 : ((u1).1 30 8).toInt = (s.1 30 8).toInt := congrArg Int32.toInt ((fu1 30 8 rfl).1)
          have lk108 : ((u1).1 30 9).toInt = (s.1 30 9).toInt := congrArg Int32.toInt ((fu1 30 9 rfl).1)
          refine r_callVi C oCl5 rfl miX5_number mlX5_70 (ct4_X5_number l E (u1) k0 k9999 (g) (oqSk g a) (b) (0) (9999) (by omega) (by omega) (oqX_fr fu1 rfl hp2) (by omega) (by omega) (by omega)) (by omega) rfl rfl rfl (Nat.le_of_ble_eq_true rfl) (oDec_at oX5_part 33 rfl) (fun r110 u109 pu109 fu109 => ?_)
          try dsimp only at pu109
          try simp only [lk106, lk107, lk108] at pu109
          obtain ⟨pu109_0, pu109_1⟩ := pu109
          have rr110 := n_rng r110
          refine r_istore_n C (lv' := [(0, .ref (oad E 30)), (1, .int r2), (2, .int r110)]) [1, 2, 0] (oDec_at oX5_part 34 rfl) rfl (by decide) rfl ?_
          refine r_aload_n C (j := 0) (oDec_at oX5_part 35 rfl) rfl rfl ?_
          refine r_pc C 73 rfl ?_
          refine r_getS (k := 1) (q2 := 0) C oCl5 rfl (by decide) flX5_19 rfl rfl rfl ks1 (oDec_at oX5_part 36 rfl) (fun b111 rb111 mb111 hkb111 => ?_)
          refine r_iload_n C (j := 2) (oDec_at oX5_part 37 rfl) rfl rfl ?_
          refine r_callVv C oCl0 hkb111 miX0_emit mlX5_147 (ct_X0_emit l E (u109) b111 hkb111 r110 ) (by omega) rfl rfl rfl (Nat.le_of_ble_eq_true rfl) (oDec_at oX5_part 38 rfl) (fun u112 pu112 fu112 => ?_)
          try dsimp only at pu112
          refine r_iload_n C (j := 2) (oDec_at oX5_part 39 rfl) rfl rfl ?_
          refine r_iconst C (oDec_at oX5_part 40 rfl) (v := km1) (by rw [qkm1]; rfl) ?_
          refine r_icmp_eq C 89 (oDec_at oX5_part 41 rfl) (by decide) (fun cd114 => ?_) (fun cd114 => ?_)
          · skip
            refine r_iconst C (oDec_at oX5_part 44 rfl) (v := k0) (by rw [qk0]; rfl) ?_
            have lk115 : ((u112).1 30 2).toInt = (u109.1 30 2).toInt := congrArg Int32.toInt ((fu112 30 2 rfl).1)
            have lk116 : ((u112).1 30 3).toInt = (u109.1 30 3).toInt := congrArg Int32.toInt ((fu112 30 3 rfl).1)
            have lk117 : ((u112).1 30 5).toInt = (s.1 30 5).toInt := congrArg Int32.toInt (((fu112 30 5 rfl).1).trans (((fu109 30 5 rfl).1).trans ((fu1 30 5 rfl).1)))
            have lk118 : ((u112).1 30 2).toInt = (u109.1 30 2).toInt := congrArg Int32.toInt ((fu112 30 2 rfl).1)
            have lk119 : ((u112).1 30 8).toInt = (u109.1 30 8).toInt := congrArg Int32.toInt ((fu112 30 8 rfl).1)
            have lk120 : ((u112).1 30 9).toInt = (u109.1 30 9).toInt := congrArg Int32.toInt ((fu112 30 9 rfl).1)
            have lk121 : ((u112).1 30 8).toInt = (u109.1 30 8).toInt := congrArg Int32.toInt ((fu112 30 8 rfl).1)
            have lk122 : ((u112).1 30 9).toInt = (u109.1 30 9).toInt := congrArg Int32.toInt ((fu112 30 9 rfl).1)
            exact r_zret C (n_bool (by omega)) (oDec_at oX5_part 45 rfl) ⟨_, rfl, ⟨by omega, by first | (intro h; exfalso; omega) | exact fun _ => (oqp_num (by omega) (by omega) (by omega) (by omega)).castS (by omega) (by omega), by omega, by first | (intro h; exfalso; omega) | exact fun _ => (oqp_numF (by omega) (by omega) (by omega) (by omega)).cast (by omega) (by omega)⟩⟩
          · skip
            replace pu109_0 := pu109_0.resolve_left (by omega)
            refine r_iconst C (oDec_at oX5_part 42 rfl) (v := k1) (by rw [qk1]; rfl) ?_
            refine r_goto C (tgt := 90) (oDec_at oX5_part 43 rfl) (by decide) ?_
            have lk123 : ((u112).1 30 2).toInt = (u109.1 30 2).toInt := congrArg Int32.toInt ((fu112 30 2 rfl).1)
            have lk124 : ((u112).1 30 3).toInt = (u109.1 30 3).toInt := congrArg Int32.toInt ((fu112 30 3 rfl).1)
            have lk125 : ((u112).1 30 5).toInt = (s.1 30 5).toInt := congrArg Int32.toInt (((fu112 30 5 rfl).1).trans (((fu109 30 5 rfl).1).trans ((fu1 30 5 rfl).1)))
            have lk126 : ((u112).1 30 2).toInt = (u109.1 30 2).toInt := congrArg Int32.toInt ((fu112 30 2 rfl).1)
            have lk127 : ((u112).1 30 8).toInt = (u109.1 30 8).toInt := congrArg Int32.toInt ((fu112 30 8 rfl).1)
            have lk128 : ((u112).1 30 9).toInt = (u109.1 30 9).toInt := congrArg Int32.toInt ((fu112 30 9 rfl).1)
            have lk129 : ((u112).1 30 8).toInt = (u109.1 30 8).toInt := congrArg Int32.toInt ((fu112 30 8 rfl).1)
            have lk130 : ((u112).1 30 9).toInt = (u109.1 30 9).toInt := congrArg Int32.toInt ((fu112 30 9 rfl).1)
            exact r_zret C (n_bool (by omega)) (oDec_at oX5_part 45 rfl) ⟨_, rfl, ⟨by omega, by first | (intro h; exfalso; omega) | exact fun _ => (oqp_num (by omega) (by omega) (by omega) (by omega)).castS (by omega) (by omega), by omega, by first | (intro h; exfalso; omega) | exact fun _ => (oqp_numF (by omega) (by omega) (by omega) (by omega)).cast (by omega) (by omega)⟩⟩
      · skip
        refine r_aload_n C (j := 0) (oDec_at oX5_part 6 rfl) rfl rfl ?_
        have lk131 : ((u1).1 30 5).toInt = (s.1 30 5).toInt := congrArg Int32.toInt ((fu1 30 5 rfl).1)
        have lk132 : ((u1).1 30 8).toInt = (s.1 30 8).toInt := congrArg Int32.toInt ((fu1 30 8 rfl).1)
        have lk133 : ((u1).1 30 9).toInt = (s.1 30 9).toInt := congrArg Int32.toInt ((fu1 30 9 rfl).1)
        have lk134 : ((u1).1 30 5).toInt = (s.1 30 5).toInt := congrArg Int32.toInt ((fu1 30 5 rfl).1)
        refine r_callVi C oCl5 rfl miX5_opens mlX5_154 (ct4_X5_opens l E (u1)  ) (by omega) rfl rfl rfl (Nat.le_of_ble_eq_true rfl) (oDec_at oX5_part 7 rfl) (fun r136 u135 pu135 fu135 => ?_)
        try dsimp only at pu135
        try simp only [lk131, lk132, lk133, lk134] at pu135
        obtain ⟨pu135_0, pu135_1, pu135_2⟩ := pu135
        have rr136 := n_rng r136
        refine r_if_eq C 54 (oDec_at oX5_part 8 rfl) (by decide) (fun cd137 => ?_) (fun cd137 => ?_)
        · skip
          clear pu135_1
          replace pu135_2 := pu135_2 (by omega)
          refine r_iconst C (oDec_at oX5_part 25 rfl) (v := k0) (by rw [qk0]; rfl) ?_
          have lk138 : ((u135).1 30 2).toInt = (u1.1 30 2).toInt := congrArg Int32.toInt ((fu135 30 2 rfl).1)
          have lk139 : ((u135).1 30 3).toInt = (s.1 30 3).toInt := congrArg Int32.toInt (((fu135 30 3 rfl).1).trans ((fu1 30 3 rfl).1))
          have lk140 : ((u135).1 30 2).toInt = (u1.1 30 2).toInt := congrArg Int32.toInt ((fu135 30 2 rfl).1)
          exact r_zret C (n_bool (by omega)) (oDec_at oX5_part 26 rfl) ⟨_, rfl, ⟨by omega, by first | exact fun _ => (oqp_parY (by omega) (by omega) (by assumption) (by assumption) (by omega)).castS (by omega) (by omega) | (intro h; exfalso; omega), by omega, by first | exact fun _ => (oqp_deep (by omega) (by omega)).cast (by omega) (by omega) | exact fun _ => oqp_parF (by omega) (by omega) pu135_4 | exact fun _ => (oqp_parN (by omega) (by omega) (by assumption) (by assumption) (by omega)).cast (by omega) (by omega) | (intro h; exfalso; omega)⟩⟩
        · skip
          replace pu135_1 := pu135_1 (by omega)
          clear pu135_2
          refine r_aload_n C (j := 0) (oDec_at oX5_part 9 rfl) rfl rfl ?_
          refine r_bipush C (oDec_at oX5_part 10 rfl) (v := k40) (by rw [qk40]; rfl) ?_
          have lk141 : ((u135).1 30 2).toInt = (u1.1 30 2).toInt := congrArg Int32.toInt ((fu135 30 2 rfl).1)
          refine r_callVi C oCl5 rfl miX5_expectSign mlX5_88 (ct4_X5_expectSign l E (u135) k40 (g) (oqSk g a) (40) (by omega) (oqX_fr fu135 rfl (oqX_fr fu1 rfl hp2)) (by omega) (by omega)) (by omega) rfl rfl rfl (Nat.le_of_ble_eq_true rfl) (oDec_at oX5_part 11 rfl) (fun r143 u142 pu142 fu142 => ?_)
          try dsimp only at pu142
          try simp only [lk141] at pu142
          obtain ⟨pu142_0, pu142_1, pu142_2⟩ := pu142
          have rr143 := n_rng r143
          refine r_if_eq C 54 (oDec_at oX5_part 12 rfl) (by decide) (fun cd144 => ?_) (fun cd144 => ?_)
          · skip
            clear pu142_1
            replace pu142_2 := pu142_2 (by omega)
            refine r_iconst C (oDec_at oX5_part 25 rfl) (v := k0) (by rw [qk0]; rfl) ?_
            have lk145 : ((u142).1 30 3).toInt = (s.1 30 3).toInt := congrArg Int32.toInt (((fu142 30 3 rfl).1).trans (((fu135 30 3 rfl).1).trans ((fu1 30 3 rfl).1)))
            have lk146 : ((u142).1 30 5).toInt = (u135.1 30 5).toInt := congrArg Int32.toInt ((fu142 30 5 rfl).1)
            exact r_zret C (n_bool (by omega)) (oDec_at oX5_part 26 rfl) ⟨_, rfl, ⟨by omega, by first | exact fun _ => (oqp_parY (by omega) (by omega) (by assumption) (by assumption) (by omega)).castS (by omega) (by omega) | (intro h; exfalso; omega), by omega, by first | exact fun _ => (oqp_deep (by omega) (by omega)).cast (by omega) (by omega) | exact fun _ => oqp_parF (by omega) (by omega) pu142_4 | exact fun _ => (oqp_parN (by omega) (by omega) (by assumption) (by assumption) (by omega)).cast (by omega) (by omega) | (intro h; exfalso; omega)⟩⟩
          · skip
            replace pu142_1 := pu142_1 (by omega)
            clear pu142_2
            refine r_aload_n C (j := 0) (oDec_at oX5_part 13 rfl) rfl rfl ?_
            have lk147 : ((u142).1 30 3).toInt = (s.1 30 3).toInt := congrArg Int32.toInt (((fu142 30 3 rfl).1).trans (((fu135 30 3 rfl).1).trans ((fu1 30 3 rfl).1)))
            have lk148 : ((u142).1 30 5).toInt = (u135.1 30 5).toInt := congrArg Int32.toInt ((fu142 30 5 rfl).1)
            have lk149 : ((u142).1 30 6).toInt = (s.1 30 6).toInt := congrArg Int32.toInt (((fu142 30 6 rfl).1).trans (((fu135 30 6 rfl).1).trans ((fu1 30 6 rfl).1)))
            have lk150 : ((u142).1 30 7).toInt = (s.1 30 7).toInt := congrArg Int32.toInt (((fu142 30 7 rfl).1).trans (((fu135 30 7 rfl).1).trans ((fu1 30 7 rfl).1)))
            have lk151 : ((u142).1 30 5).toInt = (u135.1 30 5).toInt := congrArg Int32.toInt ((fu142 30 5 rfl).1)
            refine r_callVi C oCl5 rfl miX5_sum mlX5_160 (((ih (N - 1) (by omega)).2.2.2.1) (u142)  (g) (fp) (fq) (oqSk g a + 1) (b) (op + 1) (by omega) (by omega) (oqX_fr fu142 rfl (oqX_fr fu135 rfl (oqX_fr fu1 rfl hp2))) (by omega) (by omega) (by omega) (by omega)) (by omega) rfl rfl rfl (Nat.le_of_ble_eq_true rfl) (oDec_at oX5_part 14 rfl) (fun r153 u152 pu152 fu152 => ?_)
            try dsimp only at pu152
            try simp only [lk147, lk148, lk149, lk150, lk151] at pu152
            obtain ⟨pu152_0, pu152_1, pu152_2, pu152_3, pu152_4⟩ := pu152
            have rr153 := n_rng r153
            refine r_if_eq C 54 (oDec_at oX5_part 15 rfl) (by decide) (fun cd154 => ?_) (fun cd154 => ?_)
            · skip
              clear pu152_1
              clear pu152_2
              clear pu152_3
              replace pu152_4 := pu152_4 (by omega)
              refine r_iconst C (oDec_at oX5_part 25 rfl) (v := k0) (by rw [qk0]; rfl) ?_
              exact r_zret C (n_bool (by omega)) (oDec_at oX5_part 26 rfl) ⟨_, rfl, ⟨by omega, by first | exact fun _ => (oqp_parY (by omega) (by omega) (by assumption) (by assumption) (by omega)).castS (by omega) (by omega) | (intro h; exfalso; omega), by omega, by first | exact fun _ => (oqp_deep (by omega) (by omega)).cast (by omega) (by omega) | exact fun _ => oqp_parF (by omega) (by omega) pu152_4 | exact fun _ => (oqp_parN (by omega) (by omega) (by assumption) (by assumption) (by omega)).cast (by omega) (by omega) | (intro h; exfalso; omega)⟩⟩
            · skip
              replace pu152_1 := pu152_1 (by omega)
              replace pu152_2 := pu152_2 (by omega)
              replace pu152_3 := pu152_3 (by omega)
              clear pu152_4
              have hgX : g (oqSk g ((u152).1 30 2).toInt) = g ((u152).1 30 2).toInt := by rw [show oqSk g ((u152).1 30 2).toInt = ((u152).1 30 2).toInt by omega]
              refine r_aload_n C (j := 0) (oDec_at oX5_part 16 rfl) rfl rfl ?_
              refine r_bipush C (oDec_at oX5_part 17 rfl) (v := k41) (by rw [qk41]; rfl) ?_
              refine r_callVi C oCl5 rfl miX5_expectSign mlX5_88 (ct4_X5_expectSign l E (u152) k41 (g) (((u152).1 30 2).toInt) (41) (by omega) (oqX_fr fu152 rfl (oqX_fr fu142 rfl (oqX_fr fu135 rfl (oqX_fr fu1 rfl hp2)))) (by omega) (by omega)) (by omega) rfl rfl rfl (Nat.le_of_ble_eq_true rfl) (oDec_at oX5_part 18 rfl) (fun r156 u155 pu155 fu155 => ?_)
              try dsimp only at pu155
              obtain ⟨pu155_0, pu155_1, pu155_2⟩ := pu155
              have rr156 := n_rng r156
              refine r_if_eq C 54 (oDec_at oX5_part 19 rfl) (by decide) (fun cd157 => ?_) (fun cd157 => ?_)
              · skip
                clear pu155_1
                replace pu155_2 := pu155_2 (by omega)
                refine r_iconst C (oDec_at oX5_part 25 rfl) (v := k0) (by rw [qk0]; rfl) ?_
                have lk158 : ((u155).1 30 3).toInt = (u152.1 30 3).toInt := congrArg Int32.toInt ((fu155 30 3 rfl).1)
                have lk159 : ((u155).1 30 5).toInt = (u152.1 30 5).toInt := congrArg Int32.toInt ((fu155 30 5 rfl).1)
                exact r_zret C (n_bool (by omega)) (oDec_at oX5_part 26 rfl) ⟨_, rfl, ⟨by omega, by first | exact fun _ => (oqp_parY (by omega) (by omega) pu152_1 pu152_2 (by omega)).castS (by omega) (by omega) | (intro h; exfalso; omega), by omega, by first | exact fun _ => (oqp_deep (by omega) (by omega)).cast (by omega) (by omega) | exact fun _ => oqp_parF (by omega) (by omega) pu155_4 | exact fun _ => (oqp_parN (by omega) (by omega) pu152_1 pu152_2 (by omega)).cast (by omega) (by omega) | (intro h; exfalso; omega)⟩⟩
              · skip
                replace pu155_1 := pu155_1 (by omega)
                clear pu155_2
                refine r_aload_n C (j := 0) (oDec_at oX5_part 20 rfl) rfl rfl ?_
                have lk160 : ((u155).1 30 5).toInt = (u152.1 30 5).toInt := congrArg Int32.toInt ((fu155 30 5 rfl).1)
                have lk161 : ((u155).1 30 5).toInt = (u152.1 30 5).toInt := congrArg Int32.toInt ((fu155 30 5 rfl).1)
                refine r_callVi C oCl5 rfl miX5_closes mlX5_157 (ct4_X5_closes l E (u155)  (by omega)) (by omega) rfl rfl rfl (Nat.le_of_ble_eq_true rfl) (oDec_at oX5_part 21 rfl) (fun r163 u162 pu162 fu162 => ?_)
                try dsimp only at pu162
                try simp only [lk160, lk161] at pu162
                obtain ⟨pu162_0, pu162_1⟩ := pu162
                have rr163 := n_rng r163
                refine r_if_eq C 54 (oDec_at oX5_part 22 rfl) (by decide) (fun cd164 => ?_) (fun cd164 => ?_)
                · skip
                  refine r_iconst C (oDec_at oX5_part 25 rfl) (v := k0) (by rw [qk0]; rfl) ?_
                  have lk165 : ((u162).1 30 2).toInt = (u155.1 30 2).toInt := congrArg Int32.toInt ((fu162 30 2 rfl).1)
                  have lk166 : ((u162).1 30 3).toInt = (u152.1 30 3).toInt := congrArg Int32.toInt (((fu162 30 3 rfl).1).trans ((fu155 30 3 rfl).1))
                  have lk167 : ((u162).1 30 2).toInt = (u155.1 30 2).toInt := congrArg Int32.toInt ((fu162 30 2 rfl).1)
                  have lk168 : ((u162).1 30 8).toInt = (u155.1 30 8).toInt := congrArg Int32.toInt ((fu162 30 8 rfl).1)
                  have lk169 : ((u162).1 30 9).toInt = (u155.1 30 9).toInt := congrArg Int32.toInt ((fu162 30 9 rfl).1)
                  have lk170 : ((u162).1 30 8).toInt = (u155.1 30 8).toInt := congrArg Int32.toInt ((fu162 30 8 rfl).1)
                  have lk171 : ((u162).1 30 9).toInt = (u155.1 30 9).toInt := congrArg Int32.toInt ((fu162 30 9 rfl).1)
                  exact r_zret C (n_bool (by omega)) (oDec_at oX5_part 26 rfl) ⟨_, rfl, ⟨by omega, by first | exact fun _ => (oqp_parY (by omega) (by omega) pu152_1 pu152_2 (by omega)).castS (by omega) (by omega) | (intro h; exfalso; omega), by omega, by first | exact fun _ => (oqp_deep (by omega) (by omega)).cast (by omega) (by omega) | exact fun _ => oqp_parF (by omega) (by omega) pu162_4 | exact fun _ => (oqp_parN (by omega) (by omega) pu152_1 pu152_2 (by omega)).cast (by omega) (by omega) | (intro h; exfalso; omega)⟩⟩
                · skip
                  refine r_iconst C (oDec_at oX5_part 23 rfl) (v := k1) (by rw [qk1]; rfl) ?_
                  refine r_goto C (tgt := 55) (oDec_at oX5_part 24 rfl) (by decide) ?_
                  have lk172 : ((u162).1 30 2).toInt = (u155.1 30 2).toInt := congrArg Int32.toInt ((fu162 30 2 rfl).1)
                  have lk173 : ((u162).1 30 3).toInt = (u152.1 30 3).toInt := congrArg Int32.toInt (((fu162 30 3 rfl).1).trans ((fu155 30 3 rfl).1))
                  have lk174 : ((u162).1 30 2).toInt = (u155.1 30 2).toInt := congrArg Int32.toInt ((fu162 30 2 rfl).1)
                  have lk175 : ((u162).1 30 8).toInt = (u155.1 30 8).toInt := congrArg Int32.toInt ((fu162 30 8 rfl).1)
                  have lk176 : ((u162).1 30 9).toInt = (u155.1 30 9).toInt := congrArg Int32.toInt ((fu162 30 9 rfl).1)
                  have lk177 : ((u162).1 30 8).toInt = (u155.1 30 8).toInt := congrArg Int32.toInt ((fu162 30 8 rfl).1)
                  have lk178 : ((u162).1 30 9).toInt = (u155.1 30 9).toInt := congrArg Int32.toInt ((fu162 30 9 rfl).1)
                  exact r_zret C (n_bool (by omega)) (oDec_at oX5_part 26 rfl) ⟨_, rfl, ⟨by omega, by first | exact fun _ => (oqp_parY (by omega) (by omega) pu152_1 pu152_2 (by omega)).castS (by omega) (by omega) | (intro h; exfalso; omega), by omega, by first | exact fun _ => (oqp_deep (by omega) (by omega)).cast (by omega) (by omega) | exact fun _ => oqp_parF (by omega) (by omega) pu162_4 | exact fun _ => (oqp_parN (by omega) (by omega) pu152_1 pu152_2 (by omega)).cast (by omega) (by omega) | (intro h; exfalso; omega)⟩⟩
    have h_X5_product : ∀ (s : oS)  (g : Int → Int) (fp : Int) (fq : Int) (a : Int) (b : Int) (op : Int) (hp0 : (s.1 30 2).toInt = a) (hp1 : (s.1 30 3).toInt = b) (hp2 : oqX g s) (hp3 : (s.1 30 5).toInt = op) (hp4 : (s.1 30 6).toInt = fp ∧ (s.1 30 7).toInt = fq) (hp5 : fq ≤ 24 ∧ 0 ≤ fp) (hp6 : 6 - (s.1 30 5).toInt ≤ (N : Int)), oMet l (7 + 10 * N + 3) yX5_product cX5_product 3 (some .boolean) [(0, 1), (5, 2), (5, 3), (5, 4), (5, 5), (5, 8), (5, 9), (20, 9999)] E s [.ref (oad E 30)] (oPi (fun r u => (0 ≤ r.toInt ∧ r.toInt ≤ 1) ∧ (r.toInt = 1 → oqGo g fp fq 1 (oqSk g a) b op 3 (u.1 30 2).toInt (u.1 30 3).toInt op) ∧ (r.toInt = 1 → (g (u.1 30 2).toInt ≠ 42 ∧ g (u.1 30 2).toInt ≠ 47)) ∧ (r.toInt = 1 → (oqSk g (u.1 30 2).toInt = (u.1 30 2).toInt ∧ (u.1 30 5).toInt = op ∧ a + 1 ≤ (u.1 30 2).toInt ∧ (u.1 30 8).toInt = (s.1 30 8).toInt ∧ (u.1 30 9).toInt = (s.1 30 9).toInt)) ∧ (r.toInt = 0 → oqFa g fp fq 1 (oqSk g a) b op (u.1 30 8).toInt (u.1 30 9).toInt))) := by
      intro s g fp fq a b op hp0 hp1 hp2 hp3 hp4 hp5 hp6
      refine oMet.of (lv := [(0, .ref (oad E 30))]) (by decide +kernel) (Nat.le_of_ble_eq_true rfl) rfl (fun J C hT => ?_)
      have C : oC l (7 + 10 * N + 3) cX5_product RX5 3 (some .boolean) [(0, 1), (5, 2), (5, 3), (5, 4), (5, 5), (5, 8), (5, 9), (20, 9999)] E s (oPi (fun r u => (0 ≤ r.toInt ∧ r.toInt ≤ 1) ∧ (r.toInt = 1 → oqGo g fp fq 1 (oqSk g a) b op 3 (u.1 30 2).toInt (u.1 30 3).toInt op) ∧ (r.toInt = 1 → (g (u.1 30 2).toInt ≠ 42 ∧ g (u.1 30 2).toInt ≠ 47)) ∧ (r.toInt = 1 → (oqSk g (u.1 30 2).toInt = (u.1 30 2).toInt ∧ (u.1 30 5).toInt = op ∧ a + 1 ≤ (u.1 30 2).toInt ∧ (u.1 30 8).toInt = (s.1 30 8).toInt ∧ (u.1 30 9).toInt = (s.1 30 9).toInt)) ∧ (r.toInt = 0 → oqFa g fp fq 1 (oqSk g a) b op (u.1 30 8).toInt (u.1 30 9).toInt))) J := C
      obtain ⟨k0, qk0⟩ : ∃ z : Int32, z = 0 := ⟨_, rfl⟩
      have ek0 : k0.toInt = 0 := by rw [qk0]; rfl
      obtain ⟨k1, qk1⟩ : ∃ z : Int32, z = 1 := ⟨_, rfl⟩
      have ek1 : k1.toInt = 1 := by rw [qk1]; rfl
      obtain ⟨k42, qk42⟩ : ∃ z : Int32, z = 42 := ⟨_, rfl⟩
      have ek42 : k42.toInt = 42 := by rw [qk42]; rfl
      obtain ⟨k47, qk47⟩ : ∃ z : Int32, z = 47 := ⟨_, rfl⟩
      have ek47 : k47.toInt = 47 := by rw [qk47]; rfl
      obtain ⟨k1600, qk1600⟩ : ∃ z : Int32, z = 1600 := ⟨_, rfl⟩
      have ek1600 : k1600.toInt = 1600 := by rw [qk1600]; rfl
      obtain ⟨k10028, qk10028⟩ : ∃ z : Int32, z = 10028 := ⟨_, rfl⟩
      have ek10028 : k10028.toInt = 10028 := by rw [qk10028]; rfl
      obtain ⟨k10029, qk10029⟩ : ∃ z : Int32, z = 10029 := ⟨_, rfl⟩
      have ek10029 : k10029.toInt = 10029 := by rw [qk10029]; rfl
      have key : ∀ n : Nat, (∀ (t : oS) (x1 : Int32), (oqX g t) → (0 ≤ x1.toInt ∧ 2 * x1.toInt ≤ (t.1 30 2).toInt) → ((t.1 30 5).toInt = op) → (oqGo g fp fq 1 (oqSk g a) b op 3 (oqSk g (t.1 30 2).toInt) (t.1 30 3).toInt op) → (a + 1 ≤ (t.1 30 2).toInt) → ((t.1 30 8).toInt = (s.1 30 8).toInt ∧ (t.1 30 9).toInt = (s.1 30 9).toInt) → ((t.1 30 6).toInt = fp ∧ (t.1 30 7).toInt = fq) → 1601 - x1.toInt ≤ (n : Int) → J t 11 [(0, .ref (oad E 30)), (1, .int x1)] []) := by
        intro n
        induction n using Nat.strongRecOn with
        | _ n ih =>
          skip
          · intro t x1  iv0 iv1 iv2 iv3 iv4 iv5 iv6 hmu
            have rx1 := n_rng x1
            refine r_iload_n C (j := 1) (oDec_at oX5_product 7 rfl) rfl rfl ?_
            refine r_sipush C (oDec_at oX5_product 8 rfl) (v := k1600) (by rw [qk1600]; rfl) ?_
            refine r_icmp_ge C 84 (oDec_at oX5_product 9 rfl) (by decide) (fun cd1 => ?_) (fun cd1 => ?_)
            · skip
              refine r_ty C (fun hty => ?_)
              have hta : (0 : Int) ≤ ((t).1 30 2).toInt ∧ ((t).1 30 2).toInt ≤ 1600 := hty.1 30 2
              clear hty
              refine r_iconst C (oDec_at oX5_product 43 rfl) (v := k1) (by rw [qk1]; rfl) ?_
              exact r_zret C (n_bool (by omega)) (oDec_at oX5_product 44 rfl) ⟨_, rfl, ⟨by omega, by exfalso; omega, by omega, by omega, by exfalso; omega⟩⟩
            · skip
              refine r_aload_n C (j := 0) (oDec_at oX5_product 10 rfl) rfl rfl ?_
              refine r_callVi C oCl5 rfl miX5_peek mlX5_43 (ct4_X5_peek l E (t)  (g) ((t.1 30 2).toInt) (by omega) iv0) (by omega) rfl rfl rfl (Nat.le_of_ble_eq_true rfl) (oDec_at oX5_product 11 rfl) (fun r3 u2 pu2 fu2 => ?_)
              try dsimp only at pu2
              obtain ⟨pu2_0, pu2_1, pu2_2, pu2_3, pu2_4, pu2_5⟩ := pu2
              have rr3 := n_rng r3
              have hst := oqSk_sk (g := g) (a := (t.1 30 2).toInt) ⟨by omega, by omega⟩
              have hgx : g ((u2).1 30 2).toInt = g (oqSk g (t.1 30 2).toInt) := by rw [show ((u2).1 30 2).toInt = oqSk g (t.1 30 2).toInt by omega]
              have hsx : oqSk g ((u2).1 30 2).toInt = ((u2).1 30 2).toInt := by rw [show ((u2).1 30 2).toInt = oqSk g (t.1 30 2).toInt by omega]; exact hst
              refine r_istore_n C (lv' := [(0, .ref (oad E 30)), (1, .int x1), (2, .int r3)]) [1, 2, 0] (oDec_at oX5_product 12 rfl) rfl (by decide) rfl ?_
              refine r_iload_n C (j := 2) (oDec_at oX5_product 13 rfl) rfl rfl ?_
              refine r_bipush C (oDec_at oX5_product 14 rfl) (v := k42) (by rw [qk42]; rfl) ?_
              refine r_icmp_eq C 37 (oDec_at oX5_product 15 rfl) (by decide) (fun cd4 => ?_) (fun cd4 => ?_)
              · skip
                have hop : oqOp g (oqSk g (t.1 30 2).toInt) := by unfold oqOp; omega
                refine r_aload_n C (j := 0) (oDec_at oX5_product 21 rfl) rfl rfl ?_
                refine r_dup C (oDec_at oX5_product 22 rfl) rfl ?_
                obtain ⟨v5, ev5⟩ : ∃ z : Int32, (u2).1 30 2 = z := ⟨_, rfl⟩
                have gv5 : (u2.1 30 2).toInt = v5.toInt := congrArg Int32.toInt (ev5)
                refine r_geti (k := 2) (lo := 0) (hi := 1600) C v5 oCl5 rfl (by decide) flX5_23 rfl rfl (ev5) rfl rfl (oDec_at oX5_product 23 rfl) (fun b6 b6h => ?_)
                refine r_iconst C (oDec_at oX5_product 24 rfl) (v := k1) (by rw [qk1]; rfl) ?_
                obtain ⟨v7, ev7⟩ : ∃ z : Int32, z = v5 + k1 := ⟨_, rfl⟩
                have hv7 : v7.toInt = v5.toInt + k1.toInt := n_add ev7 (by omega) (by omega)
                refine r_iadd C v7 (oDec_at oX5_product 25 rfl) ev7 ?_
                refine r_puti (k := 2) (lo := 0) (hi := 1600) C oCl5 rfl (by decide) flX5_23 rfl rfl rfl rfl rfl rfl rfl rfl ⟨by omega, by omega⟩ (oDec_at oX5_product 26 rfl) ?_
                refine r_pc C 47 rfl ?_
                refine r_aload_n C (j := 0) (oDec_at oX5_product 27 rfl) rfl rfl ?_
                have lk8 : (((pI u2 30 2 v7)).1 30 2).toInt = v7.toInt := congrArg Int32.toInt ((pI_self _ _ _ _))
                have lk9 : (((pI u2 30 2 v7)).1 30 3).toInt = (t.1 30 3).toInt := congrArg Int32.toInt (((pI_ne (a := 30) (b := 3) (c := 30) (k := 2) _ _ (Or.inr (by decide)))).trans ((fu2 30 3 rfl).1))
                have lk10 : (((pI u2 30 2 v7)).1 30 5).toInt = (t.1 30 5).toInt := congrArg Int32.toInt (((pI_ne (a := 30) (b := 5) (c := 30) (k := 2) _ _ (Or.inr (by decide)))).trans ((fu2 30 5 rfl).1))
                have lk11 : (((pI u2 30 2 v7)).1 30 6).toInt = (t.1 30 6).toInt := congrArg Int32.toInt (((pI_ne (a := 30) (b := 6) (c := 30) (k := 2) _ _ (Or.inr (by decide)))).trans ((fu2 30 6 rfl).1))
                have lk12 : (((pI u2 30 2 v7)).1 30 7).toInt = (t.1 30 7).toInt := congrArg Int32.toInt (((pI_ne (a := 30) (b := 7) (c := 30) (k := 2) _ _ (Or.inr (by decide)))).trans ((fu2 30 7 rfl).1))
                have lk13 : (((pI u2 30 2 v7)).1 30 5).toInt = (t.1 30 5).toInt := congrArg Int32.toInt (((pI_ne (a := 30) (b := 5) (c := 30) (k := 2) _ _ (Or.inr (by decide)))).trans ((fu2 30 5 rfl).1))
                have lk14 : (((pI u2 30 2 v7)).1 30 8).toInt = (t.1 30 8).toInt := congrArg Int32.toInt (((pI_ne (a := 30) (b := 8) (c := 30) (k := 2) _ _ (Or.inr (by decide)))).trans ((fu2 30 8 rfl).1))
                have lk15 : (((pI u2 30 2 v7)).1 30 9).toInt = (t.1 30 9).toInt := congrArg Int32.toInt (((pI_ne (a := 30) (b := 9) (c := 30) (k := 2) _ _ (Or.inr (by decide)))).trans ((fu2 30 9 rfl).1))
                refine r_callVi C oCl5 rfl miX5_part mlX5_166 (h_X5_part ((pI u2 30 2 v7))  (g) (fp) (fq) (oqSk g (t.1 30 2).toInt + 1) ((t.1 30 3).toInt) (op) (by omega) (by omega) (oqX_fr (oFr_oneI (q := 5) (m := 2) rfl (by rfl)) rfl (oqX_fr fu2 rfl iv0)) (by omega) (by omega) (by omega) (by omega)) (by omega) rfl rfl rfl (Nat.le_of_ble_eq_true rfl) (oDec_at oX5_product 28 rfl) (fun r17 u16 pu16 fu16 => ?_)
                try dsimp only at pu16
                try simp only [lk8, lk9, lk10, lk11, lk12, lk13, lk14, lk15] at pu16
                obtain ⟨pu16_0, pu16_1, pu16_2, pu16_3⟩ := pu16
                have rr17 := n_rng r17
                refine r_if_ne C 56 (oDec_at oX5_product 29 rfl) (by decide) (fun cd18 => ?_) (fun cd18 => ?_)
                · skip
                  replace pu16_1 := pu16_1 (by omega)
                  replace pu16_2 := pu16_2 (by omega)
                  clear pu16_3
                  refine r_aload_n C (j := 0) (oDec_at oX5_product 32 rfl) rfl rfl ?_
                  refine r_getS (k := 1) (q2 := 0) C oCl5 rfl (by decide) flX5_19 rfl rfl rfl ks1 (oDec_at oX5_product 33 rfl) (fun b19 rb19 mb19 hkb19 => ?_)
                  refine r_iload_n C (j := 2) (oDec_at oX5_product 34 rfl) rfl rfl ?_
                  refine r_bipush C (oDec_at oX5_product 35 rfl) (v := k42) (by rw [qk42]; rfl) ?_
                  refine r_icmp_ne C 72 (oDec_at oX5_product 36 rfl) (by decide) (fun cd20 => ?_) (fun cd20 => ?_)
                  · omega
                  · skip
                    refine r_sipush C (oDec_at oX5_product 37 rfl) (v := k10028) (by rw [qk10028]; rfl) ?_
                    refine r_goto C (tgt := 75) (oDec_at oX5_product 38 rfl) (by decide) ?_
                    refine r_callVv C oCl0 hkb19 miX0_emit mlX5_147 (ct_X0_emit l E (u16) b19 hkb19 k10028 ) (by omega) rfl rfl rfl (Nat.le_of_ble_eq_true rfl) (oDec_at oX5_product 40 rfl) (fun u21 pu21 fu21 => ?_)
                    try dsimp only at pu21
                    obtain ⟨v23, ev23⟩ : ∃ z : Int32, x1 + Int32.ofInt 1 = z := ⟨_, rfl⟩
                    have hv23 : v23.toInt = x1.toInt + 1 := n_inc ev23 (by decide) (by omega) (by omega)
                    refine r_iinc C (j := 1) (lv' := [(0, .ref (oad E 30)), (1, .int v23), (2, .int r3)]) v23 [1, 0, 2] (oDec_at oX5_product 41 rfl) rfl ev23 (by decide) rfl ?_
                    refine r_goto C (tgt := 11) (oDec_at oX5_product 42 rfl) (by decide) ?_
                    have lk24 : ((u21).1 30 2).toInt = (u16.1 30 2).toInt := congrArg Int32.toInt ((fu21 30 2 rfl).1)
                    have lk25 : ((u21).1 30 5).toInt = (u16.1 30 5).toInt := congrArg Int32.toInt ((fu21 30 5 rfl).1)
                    have lk26 : ((u21).1 30 2).toInt = (u16.1 30 2).toInt := congrArg Int32.toInt ((fu21 30 2 rfl).1)
                    have lk27 : ((u21).1 30 3).toInt = (u16.1 30 3).toInt := congrArg Int32.toInt ((fu21 30 3 rfl).1)
                    have lk28 : ((u21).1 30 2).toInt = (u16.1 30 2).toInt := congrArg Int32.toInt ((fu21 30 2 rfl).1)
                    have lk29 : ((u21).1 30 8).toInt = (u16.1 30 8).toInt := congrArg Int32.toInt ((fu21 30 8 rfl).1)
                    have lk30 : ((u21).1 30 9).toInt = (u16.1 30 9).toInt := congrArg Int32.toInt ((fu21 30 9 rfl).1)
                    have lk31 : ((u21).1 30 6).toInt = (t.1 30 6).toInt := congrArg Int32.toInt (((fu21 30 6 rfl).1).trans (((fu16 30 6 rfl).1).trans (((pI_ne (a := 30) (b := 6) (c := 30) (k := 2) _ _ (Or.inr (by decide)))).trans ((fu2 30 6 rfl).1))))
                    have lk32 : ((u21).1 30 7).toInt = (t.1 30 7).toInt := congrArg Int32.toInt (((fu21 30 7 rfl).1).trans (((fu16 30 7 rfl).1).trans (((pI_ne (a := 30) (b := 7) (c := 30) (k := 2) _ _ (Or.inr (by decide)))).trans ((fu2 30 7 rfl).1))))
                    refine r_pick C [0, 1] rfl ?_
                    exact (ih (n - 1) (by omega)) (u21) v23  (oqX_fr fu21 rfl (oqX_fr fu16 rfl (oqX_fr (oFr_oneI (q := 5) (m := 2) rfl (by rfl)) rfl (oqX_fr fu2 rfl iv0)))) (by omega) (by omega) (by first | exact (oqp_op iv3 hop pu16_1).castS (by omega) (by omega) | exact ((by assumption)).castS (by omega) (by omega)) (by omega) (by omega) (by omega) (by omega)
                · skip
                  clear pu16_1
                  clear pu16_2
                  replace pu16_3 := pu16_3 (by omega)
                  refine r_iconst C (oDec_at oX5_product 30 rfl) (v := k0) (by rw [qk0]; rfl) ?_
                  exact r_zret C (n_bool (by omega)) (oDec_at oX5_product 31 rfl) ⟨_, rfl, ⟨by omega, fun h => by exfalso; omega, by omega, by omega, fun _ => oqp_opF iv3 hop pu16_3⟩⟩
              · skip
                refine r_iload_n C (j := 2) (oDec_at oX5_product 16 rfl) rfl rfl ?_
                refine r_bipush C (oDec_at oX5_product 17 rfl) (v := k47) (by rw [qk47]; rfl) ?_
                refine r_icmp_eq C 37 (oDec_at oX5_product 18 rfl) (by decide) (fun cd33 => ?_) (fun cd33 => ?_)
                · skip
                  have hop : oqOp g (oqSk g (t.1 30 2).toInt) := by unfold oqOp; omega
                  refine r_aload_n C (j := 0) (oDec_at oX5_product 21 rfl) rfl rfl ?_
                  refine r_dup C (oDec_at oX5_product 22 rfl) rfl ?_
                  obtain ⟨v34, ev34⟩ : ∃ z : Int32, (u2).1 30 2 = z := ⟨_, rfl⟩
                  have gv34 : (u2.1 30 2).toInt = v34.toInt := congrArg Int32.toInt (ev34)
                  refine r_geti (k := 2) (lo := 0) (hi := 1600) C v34 oCl5 rfl (by decide) flX5_23 rfl rfl (ev34) rfl rfl (oDec_at oX5_product 23 rfl) (fun b35 b35h => ?_)
                  refine r_iconst C (oDec_at oX5_product 24 rfl) (v := k1) (by rw [qk1]; rfl) ?_
                  obtain ⟨v36, ev36⟩ : ∃ z : Int32, z = v34 + k1 := ⟨_, rfl⟩
                  have hv36 : v36.toInt = v34.toInt + k1.toInt := n_add ev36 (by omega) (by omega)
                  refine r_iadd C v36 (oDec_at oX5_product 25 rfl) ev36 ?_
                  refine r_puti (k := 2) (lo := 0) (hi := 1600) C oCl5 rfl (by decide) flX5_23 rfl rfl rfl rfl rfl rfl rfl rfl ⟨by omega, by omega⟩ (oDec_at oX5_product 26 rfl) ?_
                  refine r_pc C 47 rfl ?_
                  refine r_aload_n C (j := 0) (oDec_at oX5_product 27 rfl) rfl rfl ?_
                  have lk37 : (((pI u2 30 2 v36)).1 30 2).toInt = v36.toInt := congrArg Int32.toInt ((pI_self _ _ _ _))
                  have lk38 : (((pI u2 30 2 v36)).1 30 3).toInt = (t.1 30 3).toInt := congrArg Int32.toInt (((pI_ne (a := 30) (b := 3) (c := 30) (k := 2) _ _ (Or.inr (by decide)))).trans ((fu2 30 3 rfl).1))
                  have lk39 : (((pI u2 30 2 v36)).1 30 5).toInt = (t.1 30 5).toInt := congrArg Int32.toInt (((pI_ne (a := 30) (b := 5) (c := 30) (k := 2) _ _ (Or.inr (by decide)))).trans ((fu2 30 5 rfl).1))
                  have lk40 : (((pI u2 30 2 v36)).1 30 6).toInt = (t.1 30 6).toInt := congrArg Int32.toInt (((pI_ne (a := 30) (b := 6) (c := 30) (k := 2) _ _ (Or.inr (by decide)))).trans ((fu2 30 6 rfl).1))
                  have lk41 : (((pI u2 30 2 v36)).1 30 7).toInt = (t.1 30 7).toInt := congrArg Int32.toInt (((pI_ne (a := 30) (b := 7) (c := 30) (k := 2) _ _ (Or.inr (by decide)))).trans ((fu2 30 7 rfl).1))
                  have lk42 : (((pI u2 30 2 v36)).1 30 5).toInt = (t.1 30 5).toInt := congrArg Int32.toInt (((pI_ne (a := 30) (b := 5) (c := 30) (k := 2) _ _ (Or.inr (by decide)))).trans ((fu2 30 5 rfl).1))
                  have lk43 : (((pI u2 30 2 v36)).1 30 8).toInt = (t.1 30 8).toInt := congrArg Int32.toInt (((pI_ne (a := 30) (b := 8) (c := 30) (k := 2) _ _ (Or.inr (by decide)))).trans ((fu2 30 8 rfl).1))
                  have lk44 : (((pI u2 30 2 v36)).1 30 9).toInt = (t.1 30 9).toInt := congrArg Int32.toInt (((pI_ne (a := 30) (b := 9) (c := 30) (k := 2) _ _ (Or.inr (by decide)))).trans ((fu2 30 9 rfl).1))
                  refine r_callVi C oCl5 rfl miX5_part mlX5_166 (h_X5_part ((pI u2 30 2 v36))  (g) (fp) (fq) (oqSk g (t.1 30 2).toInt + 1) ((t.1 30 3).toInt) (op) (by omega) (by omega) (oqX_fr (oFr_oneI (q := 5) (m := 2) rfl (by rfl)) rfl (oqX_fr fu2 rfl iv0)) (by omega) (by omega) (by omega) (by omega)) (by omega) rfl rfl rfl (Nat.le_of_ble_eq_true rfl) (oDec_at oX5_product 28 rfl) (fun r46 u45 pu45 fu45 => ?_)
                  try dsimp only at pu45
                  try simp only [lk37, lk38, lk39, lk40, lk41, lk42, lk43, lk44] at pu45
                  obtain ⟨pu45_0, pu45_1, pu45_2, pu45_3⟩ := pu45
                  have rr46 := n_rng r46
                  refine r_if_ne C 56 (oDec_at oX5_product 29 rfl) (by decide) (fun cd47 => ?_) (fun cd47 => ?_)
                  · skip
                    replace pu45_1 := pu45_1 (by omega)
                    replace pu45_2 := pu45_2 (by omega)
                    clear pu45_3
                    refine r_aload_n C (j := 0) (oDec_at oX5_product 32 rfl) rfl rfl ?_
                    refine r_getS (k := 1) (q2 := 0) C oCl5 rfl (by decide) flX5_19 rfl rfl rfl ks1 (oDec_at oX5_product 33 rfl) (fun b48 rb48 mb48 hkb48 => ?_)
                    refine r_iload_n C (j := 2) (oDec_at oX5_product 34 rfl) rfl rfl ?_
                    refine r_bipush C (oDec_at oX5_product 35 rfl) (v := k42) (by rw [qk42]; rfl) ?_
                    refine r_icmp_ne C 72 (oDec_at oX5_product 36 rfl) (by decide) (fun cd49 => ?_) (fun cd49 => ?_)
                    · skip
                      refine r_sipush C (oDec_at oX5_product 39 rfl) (v := k10029) (by rw [qk10029]; rfl) ?_
                      refine r_callVv C oCl0 hkb48 miX0_emit mlX5_147 (ct_X0_emit l E (u45) b48 hkb48 k10029 ) (by omega) rfl rfl rfl (Nat.le_of_ble_eq_true rfl) (oDec_at oX5_product 40 rfl) (fun u50 pu50 fu50 => ?_)
                      try dsimp only at pu50
                      obtain ⟨v52, ev52⟩ : ∃ z : Int32, x1 + Int32.ofInt 1 = z := ⟨_, rfl⟩
                      have hv52 : v52.toInt = x1.toInt + 1 := n_inc ev52 (by decide) (by omega) (by omega)
                      refine r_iinc C (j := 1) (lv' := [(0, .ref (oad E 30)), (1, .int v52), (2, .int r3)]) v52 [1, 0, 2] (oDec_at oX5_product 41 rfl) rfl ev52 (by decide) rfl ?_
                      refine r_goto C (tgt := 11) (oDec_at oX5_product 42 rfl) (by decide) ?_
                      have lk53 : ((u50).1 30 2).toInt = (u45.1 30 2).toInt := congrArg Int32.toInt ((fu50 30 2 rfl).1)
                      have lk54 : ((u50).1 30 5).toInt = (u45.1 30 5).toInt := congrArg Int32.toInt ((fu50 30 5 rfl).1)
                      have lk55 : ((u50).1 30 2).toInt = (u45.1 30 2).toInt := congrArg Int32.toInt ((fu50 30 2 rfl).1)
                      have lk56 : ((u50).1 30 3).toInt = (u45.1 30 3).toInt := congrArg Int32.toInt ((fu50 30 3 rfl).1)
                      have lk57 : ((u50).1 30 2).toInt = (u45.1 30 2).toInt := congrArg Int32.toInt ((fu50 30 2 rfl).1)
                      have lk58 : ((u50).1 30 8).toInt = (u45.1 30 8).toInt := congrArg Int32.toInt ((fu50 30 8 rfl).1)
                      have lk59 : ((u50).1 30 9).toInt = (u45.1 30 9).toInt := congrArg Int32.toInt ((fu50 30 9 rfl).1)
                      have lk60 : ((u50).1 30 6).toInt = (t.1 30 6).toInt := congrArg Int32.toInt (((fu50 30 6 rfl).1).trans (((fu45 30 6 rfl).1).trans (((pI_ne (a := 30) (b := 6) (c := 30) (k := 2) _ _ (Or.inr (by decide)))).trans ((fu2 30 6 rfl).1))))
                      have lk61 : ((u50).1 30 7).toInt = (t.1 30 7).toInt := congrArg Int32.toInt (((fu50 30 7 rfl).1).trans (((fu45 30 7 rfl).1).trans (((pI_ne (a := 30) (b := 7) (c := 30) (k := 2) _ _ (Or.inr (by decide)))).trans ((fu2 30 7 rfl).1))))
                      refine r_pick C [0, 1] rfl ?_
                      exact (ih (n - 1) (by omega)) (u50) v52  (oqX_fr fu50 rfl (oqX_fr fu45 rfl (oqX_fr (oFr_oneI (q := 5) (m := 2) rfl (by rfl)) rfl (oqX_fr fu2 rfl iv0)))) (by omega) (by omega) (by first | exact (oqp_op iv3 hop pu45_1).castS (by omega) (by omega) | exact ((by assumption)).castS (by omega) (by omega)) (by omega) (by omega) (by omega) (by omega)
                    · omega
                  · skip
                    clear pu45_1
                    clear pu45_2
                    replace pu45_3 := pu45_3 (by omega)
                    refine r_iconst C (oDec_at oX5_product 30 rfl) (v := k0) (by rw [qk0]; rfl) ?_
                    exact r_zret C (n_bool (by omega)) (oDec_at oX5_product 31 rfl) ⟨_, rfl, ⟨by omega, fun h => by exfalso; omega, by omega, by omega, fun _ => oqp_opF iv3 hop pu45_3⟩⟩
                · skip
                  refine r_iconst C (oDec_at oX5_product 19 rfl) (v := k1) (by rw [qk1]; rfl) ?_
                  have lk62 : ((u2).1 30 3).toInt = (t.1 30 3).toInt := congrArg Int32.toInt ((fu2 30 3 rfl).1)
                  have lk63 : ((u2).1 30 5).toInt = (t.1 30 5).toInt := congrArg Int32.toInt ((fu2 30 5 rfl).1)
                  have lk64 : ((u2).1 30 8).toInt = (t.1 30 8).toInt := congrArg Int32.toInt ((fu2 30 8 rfl).1)
                  have lk65 : ((u2).1 30 9).toInt = (t.1 30 9).toInt := congrArg Int32.toInt ((fu2 30 9 rfl).1)
                  have lk66 : ((u2).1 30 8).toInt = (t.1 30 8).toInt := congrArg Int32.toInt ((fu2 30 8 rfl).1)
                  have lk67 : ((u2).1 30 9).toInt = (t.1 30 9).toInt := congrArg Int32.toInt ((fu2 30 9 rfl).1)
                  exact r_zret C (n_bool (by omega)) (oDec_at oX5_product 20 rfl) ⟨_, rfl, ⟨by omega, fun _ => iv3.cast (by omega) (by omega), by omega, by omega, fun h => by exfalso; omega⟩⟩
      refine r_aload_n C (j := 0) (oDec_at oX5_product 0 rfl) rfl rfl ?_
      refine r_callVi C oCl5 rfl miX5_part mlX5_166 (h_X5_part (s)  (g) (fp) (fq) (a) (b) (op) (by omega) (by omega) hp2 (by omega) (by omega) (by omega) (by omega)) (by omega) rfl rfl rfl (Nat.le_of_ble_eq_true rfl) (oDec_at oX5_product 1 rfl) (fun r69 u68 pu68 fu68 => ?_)
      try dsimp only at pu68
      obtain ⟨pu68_0, pu68_1, pu68_2, pu68_3⟩ := pu68
      have rr69 := n_rng r69
      refine r_if_ne C 9 (oDec_at oX5_product 2 rfl) (by decide) (fun cd70 => ?_) (fun cd70 => ?_)
      · skip
        replace pu68_1 := pu68_1 (by omega)
        replace pu68_2 := pu68_2 (by omega)
        clear pu68_3
        refine r_ty C (fun hty => ?_)
        have hta : (0 : Int) ≤ ((u68).1 30 2).toInt ∧ ((u68).1 30 2).toInt ≤ 1600 := hty.1 30 2
        clear hty
        refine r_iconst C (oDec_at oX5_product 5 rfl) (v := k0) (by rw [qk0]; rfl) ?_
        refine r_istore_n C (lv' := [(0, .ref (oad E 30)), (1, .int k0)]) [1, 0] (oDec_at oX5_product 6 rfl) rfl (by decide) rfl ?_
        have lk71 : ((u68).1 30 6).toInt = (s.1 30 6).toInt := congrArg Int32.toInt ((fu68 30 6 rfl).1)
        have lk72 : ((u68).1 30 7).toInt = (s.1 30 7).toInt := congrArg Int32.toInt ((fu68 30 7 rfl).1)
        exact (key (1601 - k0.toInt).toNat) (u68) k0  (oqX_fr fu68 rfl hp2) (by omega) (by omega) (by first | exact (pu68_1).castS (by omega) (by omega)) (by omega) (by omega) (by omega) (by omega)
      · skip
        clear pu68_1
        clear pu68_2
        replace pu68_3 := pu68_3 (by omega)
        refine r_iconst C (oDec_at oX5_product 3 rfl) (v := k0) (by rw [qk0]; rfl) ?_
        exact r_zret C (n_bool (by omega)) (oDec_at oX5_product 4 rfl) ⟨_, rfl, ⟨by omega, fun h => by exfalso; omega, by omega, by omega, fun _ => pu68_3⟩⟩
    have h_X5_sum : ∀ (s : oS)  (g : Int → Int) (fp : Int) (fq : Int) (a : Int) (b : Int) (op : Int) (hp0 : (s.1 30 2).toInt = a) (hp1 : (s.1 30 3).toInt = b) (hp2 : oqX g s) (hp3 : (s.1 30 5).toInt = op) (hp4 : (s.1 30 6).toInt = fp ∧ (s.1 30 7).toInt = fq) (hp5 : fq ≤ 24 ∧ 0 ≤ fp) (hp6 : 6 - (s.1 30 5).toInt ≤ (N : Int)), oMet l (7 + 10 * N + 4) yX5_sum cX5_sum 3 (some .boolean) [(0, 1), (5, 2), (5, 3), (5, 4), (5, 5), (5, 8), (5, 9), (20, 9999)] E s [.ref (oad E 30)] (oPi (fun r u => (0 ≤ r.toInt ∧ r.toInt ≤ 1) ∧ (r.toInt = 1 → oqGo g fp fq 1 (oqSk g a) b op 3 (u.1 30 2).toInt (u.1 30 3).toInt op) ∧ (r.toInt = 1 → ¬ oqOp g (u.1 30 2).toInt) ∧ (r.toInt = 1 → (oqSk g (u.1 30 2).toInt = (u.1 30 2).toInt ∧ (u.1 30 5).toInt = op ∧ a + 1 ≤ (u.1 30 2).toInt ∧ (u.1 30 8).toInt = (s.1 30 8).toInt ∧ (u.1 30 9).toInt = (s.1 30 9).toInt)) ∧ (r.toInt = 0 → oqFa g fp fq 1 (oqSk g a) b op (u.1 30 8).toInt (u.1 30 9).toInt))) := by
      intro s g fp fq a b op hp0 hp1 hp2 hp3 hp4 hp5 hp6
      refine oMet.of (lv := [(0, .ref (oad E 30))]) (by decide +kernel) (Nat.le_of_ble_eq_true rfl) rfl (fun J C hT => ?_)
      have C : oC l (7 + 10 * N + 4) cX5_sum RX5 3 (some .boolean) [(0, 1), (5, 2), (5, 3), (5, 4), (5, 5), (5, 8), (5, 9), (20, 9999)] E s (oPi (fun r u => (0 ≤ r.toInt ∧ r.toInt ≤ 1) ∧ (r.toInt = 1 → oqGo g fp fq 1 (oqSk g a) b op 3 (u.1 30 2).toInt (u.1 30 3).toInt op) ∧ (r.toInt = 1 → ¬ oqOp g (u.1 30 2).toInt) ∧ (r.toInt = 1 → (oqSk g (u.1 30 2).toInt = (u.1 30 2).toInt ∧ (u.1 30 5).toInt = op ∧ a + 1 ≤ (u.1 30 2).toInt ∧ (u.1 30 8).toInt = (s.1 30 8).toInt ∧ (u.1 30 9).toInt = (s.1 30 9).toInt)) ∧ (r.toInt = 0 → oqFa g fp fq 1 (oqSk g a) b op (u.1 30 8).toInt (u.1 30 9).toInt))) J := C
      obtain ⟨k0, qk0⟩ : ∃ z : Int32, z = 0 := ⟨_, rfl⟩
      have ek0 : k0.toInt = 0 := by rw [qk0]; rfl
      obtain ⟨k1, qk1⟩ : ∃ z : Int32, z = 1 := ⟨_, rfl⟩
      have ek1 : k1.toInt = 1 := by rw [qk1]; rfl
      obtain ⟨k43, qk43⟩ : ∃ z : Int32, z = 43 := ⟨_, rfl⟩
      have ek43 : k43.toInt = 43 := by rw [qk43]; rfl
      obtain ⟨k45, qk45⟩ : ∃ z : Int32, z = 45 := ⟨_, rfl⟩
      have ek45 : k45.toInt = 45 := by rw [qk45]; rfl
      obtain ⟨k1600, qk1600⟩ : ∃ z : Int32, z = 1600 := ⟨_, rfl⟩
      have ek1600 : k1600.toInt = 1600 := by rw [qk1600]; rfl
      obtain ⟨k10026, qk10026⟩ : ∃ z : Int32, z = 10026 := ⟨_, rfl⟩
      have ek10026 : k10026.toInt = 10026 := by rw [qk10026]; rfl
      obtain ⟨k10027, qk10027⟩ : ∃ z : Int32, z = 10027 := ⟨_, rfl⟩
      have ek10027 : k10027.toInt = 10027 := by rw [qk10027]; rfl
      have key : ∀ n : Nat, (∀ (t : oS) (x1 : Int32), (oqX g t) → (0 ≤ x1.toInt ∧ 2 * x1.toInt ≤ (t.1 30 2).toInt) → ((t.1 30 5).toInt = op) → (oqGo g fp fq 1 (oqSk g a) b op 3 (t.1 30 2).toInt (t.1 30 3).toInt op) → (a + 1 ≤ (t.1 30 2).toInt) → ((t.1 30 8).toInt = (s.1 30 8).toInt ∧ (t.1 30 9).toInt = (s.1 30 9).toInt) → ((t.1 30 6).toInt = fp ∧ (t.1 30 7).toInt = fq) → (g (t.1 30 2).toInt ≠ 42 ∧ g (t.1 30 2).toInt ≠ 47 ∧ oqSk g (t.1 30 2).toInt = (t.1 30 2).toInt) → 1601 - x1.toInt ≤ (n : Int) → J t 11 [(0, .ref (oad E 30)), (1, .int x1)] []) := by
        intro n
        induction n using Nat.strongRecOn with
        | _ n ih =>
          skip
          · intro t x1  iv0 iv1 iv2 iv3 iv4 iv5 iv6 iv7 hmu
            have rx1 := n_rng x1
            refine r_iload_n C (j := 1) (oDec_at oX5_sum 7 rfl) rfl rfl ?_
            refine r_sipush C (oDec_at oX5_sum 8 rfl) (v := k1600) (by rw [qk1600]; rfl) ?_
            refine r_icmp_ge C 84 (oDec_at oX5_sum 9 rfl) (by decide) (fun cd1 => ?_) (fun cd1 => ?_)
            · skip
              refine r_ty C (fun hty => ?_)
              have hta : (0 : Int) ≤ ((t).1 30 2).toInt ∧ ((t).1 30 2).toInt ≤ 1600 := hty.1 30 2
              clear hty
              refine r_iconst C (oDec_at oX5_sum 43 rfl) (v := k1) (by rw [qk1]; rfl) ?_
              exact r_zret C (n_bool (by omega)) (oDec_at oX5_sum 44 rfl) ⟨_, rfl, ⟨by omega, by exfalso; omega, by exfalso; omega, by omega, by exfalso; omega⟩⟩
            · skip
              refine r_aload_n C (j := 0) (oDec_at oX5_sum 10 rfl) rfl rfl ?_
              refine r_callVi C oCl5 rfl miX5_peek mlX5_43 (ct4_X5_peek l E (t)  (g) ((t.1 30 2).toInt) (by omega) iv0) (by omega) rfl rfl rfl (Nat.le_of_ble_eq_true rfl) (oDec_at oX5_sum 11 rfl) (fun r3 u2 pu2 fu2 => ?_)
              try dsimp only at pu2
              obtain ⟨pu2_0, pu2_1, pu2_2, pu2_3, pu2_4, pu2_5⟩ := pu2
              have rr3 := n_rng r3
              have hgx : g (oqSk g (t.1 30 2).toInt) = g (t.1 30 2).toInt := by rw [iv7.2.2]
              have hgy : g ((u2).1 30 2).toInt = g (t.1 30 2).toInt := by rw [show ((u2).1 30 2).toInt = (t.1 30 2).toInt by omega]
              have hsx : oqSk g ((u2).1 30 2).toInt = ((u2).1 30 2).toInt := by rw [show ((u2).1 30 2).toInt = (t.1 30 2).toInt by omega]; exact iv7.2.2
              refine r_istore_n C (lv' := [(0, .ref (oad E 30)), (1, .int x1), (2, .int r3)]) [1, 2, 0] (oDec_at oX5_sum 12 rfl) rfl (by decide) rfl ?_
              refine r_iload_n C (j := 2) (oDec_at oX5_sum 13 rfl) rfl rfl ?_
              refine r_bipush C (oDec_at oX5_sum 14 rfl) (v := k43) (by rw [qk43]; rfl) ?_
              refine r_icmp_eq C 37 (oDec_at oX5_sum 15 rfl) (by decide) (fun cd4 => ?_) (fun cd4 => ?_)
              · skip
                have hop : oqOp g (t.1 30 2).toInt := by unfold oqOp; omega
                refine r_aload_n C (j := 0) (oDec_at oX5_sum 21 rfl) rfl rfl ?_
                refine r_dup C (oDec_at oX5_sum 22 rfl) rfl ?_
                obtain ⟨v5, ev5⟩ : ∃ z : Int32, (u2).1 30 2 = z := ⟨_, rfl⟩
                have gv5 : (u2.1 30 2).toInt = v5.toInt := congrArg Int32.toInt (ev5)
                refine r_geti (k := 2) (lo := 0) (hi := 1600) C v5 oCl5 rfl (by decide) flX5_23 rfl rfl (ev5) rfl rfl (oDec_at oX5_sum 23 rfl) (fun b6 b6h => ?_)
                refine r_iconst C (oDec_at oX5_sum 24 rfl) (v := k1) (by rw [qk1]; rfl) ?_
                obtain ⟨v7, ev7⟩ : ∃ z : Int32, z = v5 + k1 := ⟨_, rfl⟩
                have hv7 : v7.toInt = v5.toInt + k1.toInt := n_add ev7 (by omega) (by omega)
                refine r_iadd C v7 (oDec_at oX5_sum 25 rfl) ev7 ?_
                refine r_puti (k := 2) (lo := 0) (hi := 1600) C oCl5 rfl (by decide) flX5_23 rfl rfl rfl rfl rfl rfl rfl rfl ⟨by omega, by omega⟩ (oDec_at oX5_sum 26 rfl) ?_
                refine r_pc C 47 rfl ?_
                refine r_aload_n C (j := 0) (oDec_at oX5_sum 27 rfl) rfl rfl ?_
                have lk8 : (((pI u2 30 2 v7)).1 30 2).toInt = v7.toInt := congrArg Int32.toInt ((pI_self _ _ _ _))
                have lk9 : (((pI u2 30 2 v7)).1 30 3).toInt = (t.1 30 3).toInt := congrArg Int32.toInt (((pI_ne (a := 30) (b := 3) (c := 30) (k := 2) _ _ (Or.inr (by decide)))).trans ((fu2 30 3 rfl).1))
                have lk10 : (((pI u2 30 2 v7)).1 30 5).toInt = (t.1 30 5).toInt := congrArg Int32.toInt (((pI_ne (a := 30) (b := 5) (c := 30) (k := 2) _ _ (Or.inr (by decide)))).trans ((fu2 30 5 rfl).1))
                have lk11 : (((pI u2 30 2 v7)).1 30 6).toInt = (t.1 30 6).toInt := congrArg Int32.toInt (((pI_ne (a := 30) (b := 6) (c := 30) (k := 2) _ _ (Or.inr (by decide)))).trans ((fu2 30 6 rfl).1))
                have lk12 : (((pI u2 30 2 v7)).1 30 7).toInt = (t.1 30 7).toInt := congrArg Int32.toInt (((pI_ne (a := 30) (b := 7) (c := 30) (k := 2) _ _ (Or.inr (by decide)))).trans ((fu2 30 7 rfl).1))
                have lk13 : (((pI u2 30 2 v7)).1 30 5).toInt = (t.1 30 5).toInt := congrArg Int32.toInt (((pI_ne (a := 30) (b := 5) (c := 30) (k := 2) _ _ (Or.inr (by decide)))).trans ((fu2 30 5 rfl).1))
                have lk14 : (((pI u2 30 2 v7)).1 30 8).toInt = (t.1 30 8).toInt := congrArg Int32.toInt (((pI_ne (a := 30) (b := 8) (c := 30) (k := 2) _ _ (Or.inr (by decide)))).trans ((fu2 30 8 rfl).1))
                have lk15 : (((pI u2 30 2 v7)).1 30 9).toInt = (t.1 30 9).toInt := congrArg Int32.toInt (((pI_ne (a := 30) (b := 9) (c := 30) (k := 2) _ _ (Or.inr (by decide)))).trans ((fu2 30 9 rfl).1))
                refine r_callVi C oCl5 rfl miX5_product mlX5_163 (h_X5_product ((pI u2 30 2 v7))  (g) (fp) (fq) ((t.1 30 2).toInt + 1) ((t.1 30 3).toInt) (op) (by omega) (by omega) (oqX_fr (oFr_oneI (q := 5) (m := 2) rfl (by rfl)) rfl (oqX_fr fu2 rfl iv0)) (by omega) (by omega) (by omega) (by omega)) (by omega) rfl rfl rfl (Nat.le_of_ble_eq_true rfl) (oDec_at oX5_sum 28 rfl) (fun r17 u16 pu16 fu16 => ?_)
                try dsimp only at pu16
                try simp only [lk8, lk9, lk10, lk11, lk12, lk13, lk14, lk15] at pu16
                obtain ⟨pu16_0, pu16_1, pu16_2, pu16_3, pu16_4⟩ := pu16
                have rr17 := n_rng r17
                refine r_if_ne C 56 (oDec_at oX5_sum 29 rfl) (by decide) (fun cd18 => ?_) (fun cd18 => ?_)
                · skip
                  replace pu16_1 := pu16_1 (by omega)
                  replace pu16_2 := pu16_2 (by omega)
                  replace pu16_3 := pu16_3 (by omega)
                  clear pu16_4
                  refine r_aload_n C (j := 0) (oDec_at oX5_sum 32 rfl) rfl rfl ?_
                  refine r_getS (k := 1) (q2 := 0) C oCl5 rfl (by decide) flX5_19 rfl rfl rfl ks1 (oDec_at oX5_sum 33 rfl) (fun b19 rb19 mb19 hkb19 => ?_)
                  refine r_iload_n C (j := 2) (oDec_at oX5_sum 34 rfl) rfl rfl ?_
                  refine r_bipush C (oDec_at oX5_sum 35 rfl) (v := k43) (by rw [qk43]; rfl) ?_
                  refine r_icmp_ne C 72 (oDec_at oX5_sum 36 rfl) (by decide) (fun cd20 => ?_) (fun cd20 => ?_)
                  · omega
                  · skip
                    refine r_sipush C (oDec_at oX5_sum 37 rfl) (v := k10026) (by rw [qk10026]; rfl) ?_
                    refine r_goto C (tgt := 75) (oDec_at oX5_sum 38 rfl) (by decide) ?_
                    refine r_callVv C oCl0 hkb19 miX0_emit mlX5_147 (ct_X0_emit l E (u16) b19 hkb19 k10026 ) (by omega) rfl rfl rfl (Nat.le_of_ble_eq_true rfl) (oDec_at oX5_sum 40 rfl) (fun u21 pu21 fu21 => ?_)
                    try dsimp only at pu21
                    obtain ⟨v23, ev23⟩ : ∃ z : Int32, x1 + Int32.ofInt 1 = z := ⟨_, rfl⟩
                    have hv23 : v23.toInt = x1.toInt + 1 := n_inc ev23 (by decide) (by omega) (by omega)
                    refine r_iinc C (j := 1) (lv' := [(0, .ref (oad E 30)), (1, .int v23), (2, .int r3)]) v23 [1, 0, 2] (oDec_at oX5_sum 41 rfl) rfl ev23 (by decide) rfl ?_
                    refine r_goto C (tgt := 11) (oDec_at oX5_sum 42 rfl) (by decide) ?_
                    have lk24 : ((u21).1 30 2).toInt = (u16.1 30 2).toInt := congrArg Int32.toInt ((fu21 30 2 rfl).1)
                    have lk25 : ((u21).1 30 5).toInt = (u16.1 30 5).toInt := congrArg Int32.toInt ((fu21 30 5 rfl).1)
                    have lk26 : ((u21).1 30 2).toInt = (u16.1 30 2).toInt := congrArg Int32.toInt ((fu21 30 2 rfl).1)
                    have lk27 : ((u21).1 30 3).toInt = (u16.1 30 3).toInt := congrArg Int32.toInt ((fu21 30 3 rfl).1)
                    have lk28 : ((u21).1 30 2).toInt = (u16.1 30 2).toInt := congrArg Int32.toInt ((fu21 30 2 rfl).1)
                    have lk29 : ((u21).1 30 8).toInt = (u16.1 30 8).toInt := congrArg Int32.toInt ((fu21 30 8 rfl).1)
                    have lk30 : ((u21).1 30 9).toInt = (u16.1 30 9).toInt := congrArg Int32.toInt ((fu21 30 9 rfl).1)
                    have lk31 : ((u21).1 30 6).toInt = (t.1 30 6).toInt := congrArg Int32.toInt (((fu21 30 6 rfl).1).trans (((fu16 30 6 rfl).1).trans (((pI_ne (a := 30) (b := 6) (c := 30) (k := 2) _ _ (Or.inr (by decide)))).trans ((fu2 30 6 rfl).1))))
                    have lk32 : ((u21).1 30 7).toInt = (t.1 30 7).toInt := congrArg Int32.toInt (((fu21 30 7 rfl).1).trans (((fu16 30 7 rfl).1).trans (((pI_ne (a := 30) (b := 7) (c := 30) (k := 2) _ _ (Or.inr (by decide)))).trans ((fu2 30 7 rfl).1))))
                    have lk33 : ((u21).1 30 2).toInt = (u16.1 30 2).toInt := congrArg Int32.toInt ((fu21 30 2 rfl).1)
                    refine r_pick C [0, 1] rfl ?_
                    exact (ih (n - 1) (by omega)) (u21) v23  (oqX_fr fu21 rfl (oqX_fr fu16 rfl (oqX_fr (oFr_oneI (q := 5) (m := 2) rfl (by rfl)) rfl (oqX_fr fu2 rfl iv0)))) (by omega) (by omega) (by first | exact (oqp_op iv3 hop pu16_1).cast (by omega) (by omega) | exact ((by assumption)).cast (by omega) (by omega)) (by omega) (by omega) (by omega) (by first | omega | (have hat9 : ((u21).1 30 2).toInt = ((u16).1 30 2).toInt := (by omega); rw [hat9]; omega)) (by omega)
                · skip
                  clear pu16_1
                  clear pu16_2
                  clear pu16_3
                  replace pu16_4 := pu16_4 (by omega)
                  refine r_iconst C (oDec_at oX5_sum 30 rfl) (v := k0) (by rw [qk0]; rfl) ?_
                  exact r_zret C (n_bool (by omega)) (oDec_at oX5_sum 31 rfl) ⟨_, rfl, ⟨by omega, fun h => by exfalso; omega, fun h => by exfalso; omega, by omega, fun _ => oqp_opF iv3 hop pu16_4⟩⟩
              · skip
                refine r_iload_n C (j := 2) (oDec_at oX5_sum 16 rfl) rfl rfl ?_
                refine r_bipush C (oDec_at oX5_sum 17 rfl) (v := k45) (by rw [qk45]; rfl) ?_
                refine r_icmp_eq C 37 (oDec_at oX5_sum 18 rfl) (by decide) (fun cd34 => ?_) (fun cd34 => ?_)
                · skip
                  have hop : oqOp g (t.1 30 2).toInt := by unfold oqOp; omega
                  refine r_aload_n C (j := 0) (oDec_at oX5_sum 21 rfl) rfl rfl ?_
                  refine r_dup C (oDec_at oX5_sum 22 rfl) rfl ?_
                  obtain ⟨v35, ev35⟩ : ∃ z : Int32, (u2).1 30 2 = z := ⟨_, rfl⟩
                  have gv35 : (u2.1 30 2).toInt = v35.toInt := congrArg Int32.toInt (ev35)
                  refine r_geti (k := 2) (lo := 0) (hi := 1600) C v35 oCl5 rfl (by decide) flX5_23 rfl rfl (ev35) rfl rfl (oDec_at oX5_sum 23 rfl) (fun b36 b36h => ?_)
                  refine r_iconst C (oDec_at oX5_sum 24 rfl) (v := k1) (by rw [qk1]; rfl) ?_
                  obtain ⟨v37, ev37⟩ : ∃ z : Int32, z = v35 + k1 := ⟨_, rfl⟩
                  have hv37 : v37.toInt = v35.toInt + k1.toInt := n_add ev37 (by omega) (by omega)
                  refine r_iadd C v37 (oDec_at oX5_sum 25 rfl) ev37 ?_
                  refine r_puti (k := 2) (lo := 0) (hi := 1600) C oCl5 rfl (by decide) flX5_23 rfl rfl rfl rfl rfl rfl rfl rfl ⟨by omega, by omega⟩ (oDec_at oX5_sum 26 rfl) ?_
                  refine r_pc C 47 rfl ?_
                  refine r_aload_n C (j := 0) (oDec_at oX5_sum 27 rfl) rfl rfl ?_
                  have lk38 : (((pI u2 30 2 v37)).1 30 2).toInt = v37.toInt := congrArg Int32.toInt ((pI_self _ _ _ _))
                  have lk39 : (((pI u2 30 2 v37)).1 30 3).toInt = (t.1 30 3).toInt := congrArg Int32.toInt (((pI_ne (a := 30) (b := 3) (c := 30) (k := 2) _ _ (Or.inr (by decide)))).trans ((fu2 30 3 rfl).1))
                  have lk40 : (((pI u2 30 2 v37)).1 30 5).toInt = (t.1 30 5).toInt := congrArg Int32.toInt (((pI_ne (a := 30) (b := 5) (c := 30) (k := 2) _ _ (Or.inr (by decide)))).trans ((fu2 30 5 rfl).1))
                  have lk41 : (((pI u2 30 2 v37)).1 30 6).toInt = (t.1 30 6).toInt := congrArg Int32.toInt (((pI_ne (a := 30) (b := 6) (c := 30) (k := 2) _ _ (Or.inr (by decide)))).trans ((fu2 30 6 rfl).1))
                  have lk42 : (((pI u2 30 2 v37)).1 30 7).toInt = (t.1 30 7).toInt := congrArg Int32.toInt (((pI_ne (a := 30) (b := 7) (c := 30) (k := 2) _ _ (Or.inr (by decide)))).trans ((fu2 30 7 rfl).1))
                  have lk43 : (((pI u2 30 2 v37)).1 30 5).toInt = (t.1 30 5).toInt := congrArg Int32.toInt (((pI_ne (a := 30) (b := 5) (c := 30) (k := 2) _ _ (Or.inr (by decide)))).trans ((fu2 30 5 rfl).1))
                  have lk44 : (((pI u2 30 2 v37)).1 30 8).toInt = (t.1 30 8).toInt := congrArg Int32.toInt (((pI_ne (a := 30) (b := 8) (c := 30) (k := 2) _ _ (Or.inr (by decide)))).trans ((fu2 30 8 rfl).1))
                  have lk45 : (((pI u2 30 2 v37)).1 30 9).toInt = (t.1 30 9).toInt := congrArg Int32.toInt (((pI_ne (a := 30) (b := 9) (c := 30) (k := 2) _ _ (Or.inr (by decide)))).trans ((fu2 30 9 rfl).1))
                  refine r_callVi C oCl5 rfl miX5_product mlX5_163 (h_X5_product ((pI u2 30 2 v37))  (g) (fp) (fq) ((t.1 30 2).toInt + 1) ((t.1 30 3).toInt) (op) (by omega) (by omega) (oqX_fr (oFr_oneI (q := 5) (m := 2) rfl (by rfl)) rfl (oqX_fr fu2 rfl iv0)) (by omega) (by omega) (by omega) (by omega)) (by omega) rfl rfl rfl (Nat.le_of_ble_eq_true rfl) (oDec_at oX5_sum 28 rfl) (fun r47 u46 pu46 fu46 => ?_)
                  try dsimp only at pu46
                  try simp only [lk38, lk39, lk40, lk41, lk42, lk43, lk44, lk45] at pu46
                  obtain ⟨pu46_0, pu46_1, pu46_2, pu46_3, pu46_4⟩ := pu46
                  have rr47 := n_rng r47
                  refine r_if_ne C 56 (oDec_at oX5_sum 29 rfl) (by decide) (fun cd48 => ?_) (fun cd48 => ?_)
                  · skip
                    replace pu46_1 := pu46_1 (by omega)
                    replace pu46_2 := pu46_2 (by omega)
                    replace pu46_3 := pu46_3 (by omega)
                    clear pu46_4
                    refine r_aload_n C (j := 0) (oDec_at oX5_sum 32 rfl) rfl rfl ?_
                    refine r_getS (k := 1) (q2 := 0) C oCl5 rfl (by decide) flX5_19 rfl rfl rfl ks1 (oDec_at oX5_sum 33 rfl) (fun b49 rb49 mb49 hkb49 => ?_)
                    refine r_iload_n C (j := 2) (oDec_at oX5_sum 34 rfl) rfl rfl ?_
                    refine r_bipush C (oDec_at oX5_sum 35 rfl) (v := k43) (by rw [qk43]; rfl) ?_
                    refine r_icmp_ne C 72 (oDec_at oX5_sum 36 rfl) (by decide) (fun cd50 => ?_) (fun cd50 => ?_)
                    · skip
                      refine r_sipush C (oDec_at oX5_sum 39 rfl) (v := k10027) (by rw [qk10027]; rfl) ?_
                      refine r_callVv C oCl0 hkb49 miX0_emit mlX5_147 (ct_X0_emit l E (u46) b49 hkb49 k10027 ) (by omega) rfl rfl rfl (Nat.le_of_ble_eq_true rfl) (oDec_at oX5_sum 40 rfl) (fun u51 pu51 fu51 => ?_)
                      try dsimp only at pu51
                      obtain ⟨v53, ev53⟩ : ∃ z : Int32, x1 + Int32.ofInt 1 = z := ⟨_, rfl⟩
                      have hv53 : v53.toInt = x1.toInt + 1 := n_inc ev53 (by decide) (by omega) (by omega)
                      refine r_iinc C (j := 1) (lv' := [(0, .ref (oad E 30)), (1, .int v53), (2, .int r3)]) v53 [1, 0, 2] (oDec_at oX5_sum 41 rfl) rfl ev53 (by decide) rfl ?_
                      refine r_goto C (tgt := 11) (oDec_at oX5_sum 42 rfl) (by decide) ?_
                      have lk54 : ((u51).1 30 2).toInt = (u46.1 30 2).toInt := congrArg Int32.toInt ((fu51 30 2 rfl).1)
                      have lk55 : ((u51).1 30 5).toInt = (u46.1 30 5).toInt := congrArg Int32.toInt ((fu51 30 5 rfl).1)
                      have lk56 : ((u51).1 30 2).toInt = (u46.1 30 2).toInt := congrArg Int32.toInt ((fu51 30 2 rfl).1)
                      have lk57 : ((u51).1 30 3).toInt = (u46.1 30 3).toInt := congrArg Int32.toInt ((fu51 30 3 rfl).1)
                      have lk58 : ((u51).1 30 2).toInt = (u46.1 30 2).toInt := congrArg Int32.toInt ((fu51 30 2 rfl).1)
                      have lk59 : ((u51).1 30 8).toInt = (u46.1 30 8).toInt := congrArg Int32.toInt ((fu51 30 8 rfl).1)
                      have lk60 : ((u51).1 30 9).toInt = (u46.1 30 9).toInt := congrArg Int32.toInt ((fu51 30 9 rfl).1)
                      have lk61 : ((u51).1 30 6).toInt = (t.1 30 6).toInt := congrArg Int32.toInt (((fu51 30 6 rfl).1).trans (((fu46 30 6 rfl).1).trans (((pI_ne (a := 30) (b := 6) (c := 30) (k := 2) _ _ (Or.inr (by decide)))).trans ((fu2 30 6 rfl).1))))
                      have lk62 : ((u51).1 30 7).toInt = (t.1 30 7).toInt := congrArg Int32.toInt (((fu51 30 7 rfl).1).trans (((fu46 30 7 rfl).1).trans (((pI_ne (a := 30) (b := 7) (c := 30) (k := 2) _ _ (Or.inr (by decide)))).trans ((fu2 30 7 rfl).1))))
                      have lk63 : ((u51).1 30 2).toInt = (u46.1 30 2).toInt := congrArg Int32.toInt ((fu51 30 2 rfl).1)
                      refine r_pick C [0, 1] rfl ?_
                      exact (ih (n - 1) (by omega)) (u51) v53  (oqX_fr fu51 rfl (oqX_fr fu46 rfl (oqX_fr (oFr_oneI (q := 5) (m := 2) rfl (by rfl)) rfl (oqX_fr fu2 rfl iv0)))) (by omega) (by omega) (by first | exact (oqp_op iv3 hop pu46_1).cast (by omega) (by omega) | exact ((by assumption)).cast (by omega) (by omega)) (by omega) (by omega) (by omega) (by first | omega | (have hat9 : ((u51).1 30 2).toInt = ((u46).1 30 2).toInt := (by omega); rw [hat9]; omega)) (by omega)
                    · omega
                  · skip
                    clear pu46_1
                    clear pu46_2
                    clear pu46_3
                    replace pu46_4 := pu46_4 (by omega)
                    refine r_iconst C (oDec_at oX5_sum 30 rfl) (v := k0) (by rw [qk0]; rfl) ?_
                    exact r_zret C (n_bool (by omega)) (oDec_at oX5_sum 31 rfl) ⟨_, rfl, ⟨by omega, fun h => by exfalso; omega, fun h => by exfalso; omega, by omega, fun _ => oqp_opF iv3 hop pu46_4⟩⟩
                · skip
                  refine r_iconst C (oDec_at oX5_sum 19 rfl) (v := k1) (by rw [qk1]; rfl) ?_
                  have lk64 : ((u2).1 30 3).toInt = (t.1 30 3).toInt := congrArg Int32.toInt ((fu2 30 3 rfl).1)
                  have lk65 : ((u2).1 30 5).toInt = (t.1 30 5).toInt := congrArg Int32.toInt ((fu2 30 5 rfl).1)
                  have lk66 : ((u2).1 30 8).toInt = (t.1 30 8).toInt := congrArg Int32.toInt ((fu2 30 8 rfl).1)
                  have lk67 : ((u2).1 30 9).toInt = (t.1 30 9).toInt := congrArg Int32.toInt ((fu2 30 9 rfl).1)
                  have lk68 : ((u2).1 30 8).toInt = (t.1 30 8).toInt := congrArg Int32.toInt ((fu2 30 8 rfl).1)
                  have lk69 : ((u2).1 30 9).toInt = (t.1 30 9).toInt := congrArg Int32.toInt ((fu2 30 9 rfl).1)
                  exact r_zret C (n_bool (by omega)) (oDec_at oX5_sum 20 rfl) ⟨_, rfl, ⟨by omega, fun _ => iv3.cast (by omega) (by omega), fun _ => oqOp_no ⟨by omega, by omega, by omega, by omega⟩, by omega, fun h => by exfalso; omega⟩⟩
      refine r_aload_n C (j := 0) (oDec_at oX5_sum 0 rfl) rfl rfl ?_
      refine r_callVi C oCl5 rfl miX5_product mlX5_163 (h_X5_product (s)  (g) (fp) (fq) (a) (b) (op) (by omega) (by omega) hp2 (by omega) (by omega) (by omega) (by omega)) (by omega) rfl rfl rfl (Nat.le_of_ble_eq_true rfl) (oDec_at oX5_sum 1 rfl) (fun r71 u70 pu70 fu70 => ?_)
      try dsimp only at pu70
      obtain ⟨pu70_0, pu70_1, pu70_2, pu70_3, pu70_4⟩ := pu70
      have rr71 := n_rng r71
      refine r_if_ne C 9 (oDec_at oX5_sum 2 rfl) (by decide) (fun cd72 => ?_) (fun cd72 => ?_)
      · skip
        replace pu70_1 := pu70_1 (by omega)
        replace pu70_2 := pu70_2 (by omega)
        replace pu70_3 := pu70_3 (by omega)
        clear pu70_4
        refine r_ty C (fun hty => ?_)
        have hta : (0 : Int) ≤ ((u70).1 30 2).toInt ∧ ((u70).1 30 2).toInt ≤ 1600 := hty.1 30 2
        clear hty
        refine r_iconst C (oDec_at oX5_sum 5 rfl) (v := k0) (by rw [qk0]; rfl) ?_
        refine r_istore_n C (lv' := [(0, .ref (oad E 30)), (1, .int k0)]) [1, 0] (oDec_at oX5_sum 6 rfl) rfl (by decide) rfl ?_
        have lk73 : ((u70).1 30 6).toInt = (s.1 30 6).toInt := congrArg Int32.toInt ((fu70 30 6 rfl).1)
        have lk74 : ((u70).1 30 7).toInt = (s.1 30 7).toInt := congrArg Int32.toInt ((fu70 30 7 rfl).1)
        exact (key (1601 - k0.toInt).toNat) (u70) k0  (oqX_fr fu70 rfl hp2) (by omega) (by omega) (by first | exact (pu70_1).cast (by omega) (by omega)) (by omega) (by omega) (by omega) (by first | omega | (have hat9 : ((u70).1 30 2).toInt = ((u70).1 30 2).toInt := (by omega); rw [hat9]; omega)) (by omega)
      · skip
        clear pu70_1
        clear pu70_2
        clear pu70_3
        replace pu70_4 := pu70_4 (by omega)
        refine r_iconst C (oDec_at oX5_sum 3 rfl) (v := k0) (by rw [qk0]; rfl) ?_
        exact r_zret C (n_bool (by omega)) (oDec_at oX5_sum 4 rfl) ⟨_, rfl, ⟨by omega, fun h => by exfalso; omega, fun h => by exfalso; omega, by omega, fun _ => pu70_4⟩⟩
    have h_X5_fact : ∀ (s : oS)  (g : Int → Int) (fp : Int) (fq : Int) (a : Int) (b : Int) (op : Int) (hp0 : (s.1 30 2).toInt = a) (hp1 : (s.1 30 3).toInt = b) (hp2 : oqX g s) (hp3 : (s.1 30 5).toInt = op) (hp4 : (s.1 30 6).toInt = fp ∧ (s.1 30 7).toInt = fq) (hp5 : fq ≤ 24 ∧ 0 ≤ fp) (hp6 : 6 - (s.1 30 5).toInt ≤ (N : Int)), oMet l (7 + 10 * N + 5) yX5_fact cX5_fact 3 (some .boolean) [(0, 1), (5, 2), (5, 3), (5, 4), (5, 5), (5, 8), (5, 9), (20, 9999)] E s [.ref (oad E 30)] (oPi (fun r u => (0 ≤ r.toInt ∧ r.toInt ≤ 1) ∧ (r.toInt = 1 → oqGo g fp fq 0 (oqSk g a) b op 2 (oqSk g (u.1 30 2).toInt) (u.1 30 3).toInt op) ∧ (r.toInt = 1 → ((u.1 30 5).toInt = op ∧ a + 1 ≤ (u.1 30 2).toInt ∧ (u.1 30 8).toInt = (s.1 30 8).toInt ∧ (u.1 30 9).toInt = (s.1 30 9).toInt)) ∧ (r.toInt = 0 → oqFa g fp fq 0 (oqSk g a) b op (u.1 30 8).toInt (u.1 30 9).toInt))) := by
      intro s g fp fq a b op hp0 hp1 hp2 hp3 hp4 hp5 hp6
      refine oMet.of (lv := [(0, .ref (oad E 30))]) (by decide +kernel) (Nat.le_of_ble_eq_true rfl) rfl (fun J C hT => ?_)
      have C : oC l (7 + 10 * N + 5) cX5_fact RX5 3 (some .boolean) [(0, 1), (5, 2), (5, 3), (5, 4), (5, 5), (5, 8), (5, 9), (20, 9999)] E s (oPi (fun r u => (0 ≤ r.toInt ∧ r.toInt ≤ 1) ∧ (r.toInt = 1 → oqGo g fp fq 0 (oqSk g a) b op 2 (oqSk g (u.1 30 2).toInt) (u.1 30 3).toInt op) ∧ (r.toInt = 1 → ((u.1 30 5).toInt = op ∧ a + 1 ≤ (u.1 30 2).toInt ∧ (u.1 30 8).toInt = (s.1 30 8).toInt ∧ (u.1 30 9).toInt = (s.1 30 9).toInt)) ∧ (r.toInt = 0 → oqFa g fp fq 0 (oqSk g a) b op (u.1 30 8).toInt (u.1 30 9).toInt))) J := C
      obtain ⟨k0, qk0⟩ : ∃ z : Int32, z = 0 := ⟨_, rfl⟩
      have ek0 : k0.toInt = 0 := by rw [qk0]; rfl
      obtain ⟨k1, qk1⟩ : ∃ z : Int32, z = 1 := ⟨_, rfl⟩
      have ek1 : k1.toInt = 1 := by rw [qk1]; rfl
      obtain ⟨k9, qk9⟩ : ∃ z : Int32, z = 9 := ⟨_, rfl⟩
      have ek9 : k9.toInt = 9 := by rw [qk9]; rfl
      obtain ⟨k10, qk10⟩ : ∃ z : Int32, z = 10 := ⟨_, rfl⟩
      have ek10 : k10.toInt = 10 := by rw [qk10]; rfl
      obtain ⟨k60, qk60⟩ : ∃ z : Int32, z = 60 := ⟨_, rfl⟩
      have ek60 : k60.toInt = 60 := by rw [qk60]; rfl
      obtain ⟨k61, qk61⟩ : ∃ z : Int32, z = 61 := ⟨_, rfl⟩
      have ek61 : k61.toInt = 61 := by rw [qk61]; rfl
      obtain ⟨k62, qk62⟩ : ∃ z : Int32, z = 62 := ⟨_, rfl⟩
      have ek62 : k62.toInt = 62 := by rw [qk62]; rfl
      obtain ⟨k91, qk91⟩ : ∃ z : Int32, z = 91 := ⟨_, rfl⟩
      have ek91 : k91.toInt = 91 := by rw [qk91]; rfl
      obtain ⟨k93, qk93⟩ : ∃ z : Int32, z = 93 := ⟨_, rfl⟩
      have ek93 : k93.toInt = 93 := by rw [qk93]; rfl
      obtain ⟨k10020, qk10020⟩ : ∃ z : Int32, z = 10020 := ⟨_, rfl⟩
      have ek10020 : k10020.toInt = 10020 := by rw [qk10020]; rfl
      obtain ⟨k10023, qk10023⟩ : ∃ z : Int32, z = 10023 := ⟨_, rfl⟩
      have ek10023 : k10023.toInt = 10023 := by rw [qk10023]; rfl
      obtain ⟨k10024, qk10024⟩ : ∃ z : Int32, z = 10024 := ⟨_, rfl⟩
      have ek10024 : k10024.toInt = 10024 := by rw [qk10024]; rfl
      obtain ⟨k10025, qk10025⟩ : ∃ z : Int32, z = 10025 := ⟨_, rfl⟩
      have ek10025 : k10025.toInt = 10025 := by rw [qk10025]; rfl
      have hto : (0 : Int) ≤ (s.1 30 5).toInt ∧ (s.1 30 5).toInt ≤ 6 := hT.1 30 5
      refine r_aload_n C (j := 0) (oDec_at oX5_fact 0 rfl) rfl rfl ?_
      refine r_callVi C oCl5 rfl miX5_peek mlX5_43 (ct4_X5_peek l E (s)  (g) (a) (by omega) hp2) (by omega) rfl rfl rfl (Nat.le_of_ble_eq_true rfl) (oDec_at oX5_fact 1 rfl) (fun r2 u1 pu1 fu1 => ?_)
      try dsimp only at pu1
      obtain ⟨pu1_0, pu1_1, pu1_2, pu1_3, pu1_4, pu1_5⟩ := pu1
      have rr2 := n_rng r2
      have hss := oqSk_sk (g := g) (a := a) ⟨by omega, by omega⟩
      have hg2 : g (oqSk g (oqSk g a)) = g (oqSk g a) := by rw [hss]
      refine r_bipush C (oDec_at oX5_fact 2 rfl) (v := k91) (by rw [qk91]; rfl) ?_
      refine r_icmp_ne C 54 (oDec_at oX5_fact 3 rfl) (by decide) (fun cd3 => ?_) (fun cd3 => ?_)
      · skip
        refine r_aload_n C (j := 0) (oDec_at oX5_fact 25 rfl) rfl rfl ?_
        have lk4 : ((u1).1 30 3).toInt = (s.1 30 3).toInt := congrArg Int32.toInt ((fu1 30 3 rfl).1)
        refine r_callVi C oCl5 rfl miX5_wordAhead mlX5_91 (ct4_X5_wordAhead l E (u1)  (g) (oqSk g a) (b) (by omega) (by omega) (oqX_fr fu1 rfl hp2)) (by omega) rfl rfl rfl (Nat.le_of_ble_eq_true rfl) (oDec_at oX5_fact 26 rfl) (fun r6 u5 pu5 fu5 => ?_)
        try dsimp only at pu5
        try simp only [lk4] at pu5
        obtain ⟨pu5_0, pu5_1, pu5_2, pu5_3, pu5_4, pu5_5⟩ := pu5
        have rr6 := n_rng r6
        have hj := oqWi_eq pu5_2 ⟨by omega, by omega⟩
        clear pu5_2 pu5_3
        refine r_istore_n C (lv' := [(0, .ref (oad E 30)), (1, .int r6)]) [1, 0] (oDec_at oX5_fact 27 rfl) rfl (by decide) rfl ?_
        refine r_iload_n C (j := 1) (oDec_at oX5_fact 28 rfl) rfl rfl ?_
        refine r_bipush C (oDec_at oX5_fact 29 rfl) (v := k9) (by rw [qk9]; rfl) ?_
        refine r_icmp_ne C 105 (oDec_at oX5_fact 30 rfl) (by decide) (fun cd7 => ?_) (fun cd7 => ?_)
        · skip
          refine r_iload_n C (j := 1) (oDec_at oX5_fact 50 rfl) rfl rfl ?_
          refine r_bipush C (oDec_at oX5_fact 51 rfl) (v := k10) (by rw [qk10]; rfl) ?_
          refine r_icmp_ne C 126 (oDec_at oX5_fact 52 rfl) (by decide) (fun cd8 => ?_) (fun cd8 => ?_)
          · skip
            refine r_aload_n C (j := 0) (oDec_at oX5_fact 61 rfl) rfl rfl ?_
            have lk9 : ((u5).1 30 3).toInt = (s.1 30 3).toInt := congrArg Int32.toInt (((fu5 30 3 rfl).1).trans ((fu1 30 3 rfl).1))
            have lk10 : ((u5).1 30 5).toInt = (s.1 30 5).toInt := congrArg Int32.toInt (((fu5 30 5 rfl).1).trans ((fu1 30 5 rfl).1))
            have lk11 : ((u5).1 30 6).toInt = (s.1 30 6).toInt := congrArg Int32.toInt (((fu5 30 6 rfl).1).trans ((fu1 30 6 rfl).1))
            have lk12 : ((u5).1 30 7).toInt = (s.1 30 7).toInt := congrArg Int32.toInt (((fu5 30 7 rfl).1).trans ((fu1 30 7 rfl).1))
            have lk13 : ((u5).1 30 5).toInt = (s.1 30 5).toInt := congrArg Int32.toInt (((fu5 30 5 rfl).1).trans ((fu1 30 5 rfl).1))
            have lk14 : ((u5).1 30 8).toInt = (s.1 30 8).toInt := congrArg Int32.toInt (((fu5 30 8 rfl).1).trans ((fu1 30 8 rfl).1))
            have lk15 : ((u5).1 30 9).toInt = (s.1 30 9).toInt := congrArg Int32.toInt (((fu5 30 9 rfl).1).trans ((fu1 30 9 rfl).1))
            refine r_callVi C oCl5 rfl miX5_sum mlX5_160 (h_X5_sum (u5)  (g) (fp) (fq) (oqSk g a) (b) (op) (by omega) (by omega) (oqX_fr fu5 rfl (oqX_fr fu1 rfl hp2)) (by omega) (by omega) (by omega) (by omega)) (by omega) rfl rfl rfl (Nat.le_of_ble_eq_true rfl) (oDec_at oX5_fact 62 rfl) (fun r17 u16 pu16 fu16 => ?_)
            try dsimp only at pu16
            try simp only [lk9, lk10, lk11, lk12, lk13, lk14, lk15] at pu16
            obtain ⟨pu16_0, pu16_1, pu16_2, pu16_3, pu16_4⟩ := pu16
            have rr17 := n_rng r17
            refine r_if_ne C 135 (oDec_at oX5_fact 63 rfl) (by decide) (fun cd18 => ?_) (fun cd18 => ?_)
            · skip
              replace pu16_1 := pu16_1 (by omega)
              replace pu16_2 := pu16_2 (by omega)
              replace pu16_3 := pu16_3 (by omega)
              clear pu16_4
              rw [hss] at pu16_1
              have hgX : g (oqSk g ((u16).1 30 2).toInt) = g ((u16).1 30 2).toInt := by rw [show oqSk g ((u16).1 30 2).toInt = ((u16).1 30 2).toInt by omega]
              refine r_aload_n C (j := 0) (oDec_at oX5_fact 66 rfl) rfl rfl ?_
              have lk19 : ((u16).1 1 1).toInt = (s.1 1 1).toInt := congrArg Int32.toInt (((fu16 1 1 rfl).1).trans (((fu5 1 1 rfl).1).trans ((fu1 1 1 rfl).1)))
              refine r_callVi C oCl5 rfl miX5_peek mlX5_43 (ct4_X5_peek l E (u16)  (g) (((u16).1 30 2).toInt) (by omega) (oqX_fr fu16 rfl (oqX_fr fu5 rfl (oqX_fr fu1 rfl hp2)))) (by omega) rfl rfl rfl (Nat.le_of_ble_eq_true rfl) (oDec_at oX5_fact 67 rfl) (fun r21 u20 pu20 fu20 => ?_)
              try dsimp only at pu20
              try simp only [lk19] at pu20
              obtain ⟨pu20_0, pu20_1, pu20_2, pu20_3, pu20_4, pu20_5⟩ := pu20
              have rr21 := n_rng r21
              have hxx : ((u20).1 30 2).toInt = ((u16).1 30 2).toInt := by omega
              refine r_istore_n C (lv' := [(0, .ref (oad E 30)), (1, .int r6), (2, .int r21)]) [1, 2, 0] (oDec_at oX5_fact 68 rfl) rfl (by decide) rfl ?_
              refine r_iload_n C (j := 2) (oDec_at oX5_fact 69 rfl) rfl rfl ?_
              refine r_bipush C (oDec_at oX5_fact 70 rfl) (v := k60) (by rw [qk60]; rfl) ?_
              refine r_icmp_eq C 168 (oDec_at oX5_fact 71 rfl) (by decide) (fun cd22 => ?_) (fun cd22 => ?_)
              · skip
                refine r_aload_n C (j := 0) (oDec_at oX5_fact 84 rfl) rfl rfl ?_
                refine r_dup C (oDec_at oX5_fact 85 rfl) rfl ?_
                obtain ⟨v23, ev23⟩ : ∃ z : Int32, (u20).1 30 2 = z := ⟨_, rfl⟩
                have gv23 : (u20.1 30 2).toInt = v23.toInt := congrArg Int32.toInt (ev23)
                refine r_geti (k := 2) (lo := 0) (hi := 1600) C v23 oCl5 rfl (by decide) flX5_23 rfl rfl (ev23) rfl rfl (oDec_at oX5_fact 86 rfl) (fun b24 b24h => ?_)
                refine r_iconst C (oDec_at oX5_fact 87 rfl) (v := k1) (by rw [qk1]; rfl) ?_
                obtain ⟨v25, ev25⟩ : ∃ z : Int32, z = v23 + k1 := ⟨_, rfl⟩
                have hv25 : v25.toInt = v23.toInt + k1.toInt := n_add ev25 (by omega) (by omega)
                refine r_iadd C v25 (oDec_at oX5_fact 88 rfl) ev25 ?_
                refine r_puti (k := 2) (lo := 0) (hi := 1600) C oCl5 rfl (by decide) flX5_23 rfl rfl rfl rfl rfl rfl rfl rfl ⟨by omega, by omega⟩ (oDec_at oX5_fact 89 rfl) ?_
                refine r_pc C 178 rfl ?_
                refine r_aload_n C (j := 0) (oDec_at oX5_fact 90 rfl) rfl rfl ?_
                have lk26 : (((pI u20 30 2 v25)).1 30 2).toInt = v25.toInt := congrArg Int32.toInt ((pI_self _ _ _ _))
                have lk27 : (((pI u20 30 2 v25)).1 30 3).toInt = (u16.1 30 3).toInt := congrArg Int32.toInt (((pI_ne (a := 30) (b := 3) (c := 30) (k := 2) _ _ (Or.inr (by decide)))).trans ((fu20 30 3 rfl).1))
                have lk28 : (((pI u20 30 2 v25)).1 30 5).toInt = (u16.1 30 5).toInt := congrArg Int32.toInt (((pI_ne (a := 30) (b := 5) (c := 30) (k := 2) _ _ (Or.inr (by decide)))).trans ((fu20 30 5 rfl).1))
                have lk29 : (((pI u20 30 2 v25)).1 30 6).toInt = (s.1 30 6).toInt := congrArg Int32.toInt (((pI_ne (a := 30) (b := 6) (c := 30) (k := 2) _ _ (Or.inr (by decide)))).trans (((fu20 30 6 rfl).1).trans (((fu16 30 6 rfl).1).trans (((fu5 30 6 rfl).1).trans ((fu1 30 6 rfl).1)))))
                have lk30 : (((pI u20 30 2 v25)).1 30 7).toInt = (s.1 30 7).toInt := congrArg Int32.toInt (((pI_ne (a := 30) (b := 7) (c := 30) (k := 2) _ _ (Or.inr (by decide)))).trans (((fu20 30 7 rfl).1).trans (((fu16 30 7 rfl).1).trans (((fu5 30 7 rfl).1).trans ((fu1 30 7 rfl).1)))))
                have lk31 : (((pI u20 30 2 v25)).1 30 5).toInt = (u16.1 30 5).toInt := congrArg Int32.toInt (((pI_ne (a := 30) (b := 5) (c := 30) (k := 2) _ _ (Or.inr (by decide)))).trans ((fu20 30 5 rfl).1))
                have lk32 : (((pI u20 30 2 v25)).1 30 8).toInt = (u16.1 30 8).toInt := congrArg Int32.toInt (((pI_ne (a := 30) (b := 8) (c := 30) (k := 2) _ _ (Or.inr (by decide)))).trans ((fu20 30 8 rfl).1))
                have lk33 : (((pI u20 30 2 v25)).1 30 9).toInt = (u16.1 30 9).toInt := congrArg Int32.toInt (((pI_ne (a := 30) (b := 9) (c := 30) (k := 2) _ _ (Or.inr (by decide)))).trans ((fu20 30 9 rfl).1))
                refine r_callVi C oCl5 rfl miX5_sum mlX5_160 (h_X5_sum ((pI u20 30 2 v25))  (g) (fp) (fq) (((u16).1 30 2).toInt + 1) (((u16).1 30 3).toInt) (op) (by omega) (by omega) (oqX_fr (oFr_oneI (q := 5) (m := 2) rfl (by rfl)) rfl (oqX_fr fu20 rfl (oqX_fr fu16 rfl (oqX_fr fu5 rfl (oqX_fr fu1 rfl hp2))))) (by omega) (by omega) (by omega) (by omega)) (by omega) rfl rfl rfl (Nat.le_of_ble_eq_true rfl) (oDec_at oX5_fact 91 rfl) (fun r35 u34 pu34 fu34 => ?_)
                try dsimp only at pu34
                try simp only [lk26, lk27, lk28, lk29, lk30, lk31, lk32, lk33] at pu34
                obtain ⟨pu34_0, pu34_1, pu34_2, pu34_3, pu34_4⟩ := pu34
                have rr35 := n_rng r35
                refine r_if_ne C 187 (oDec_at oX5_fact 92 rfl) (by decide) (fun cd36 => ?_) (fun cd36 => ?_)
                · skip
                  replace pu34_1 := pu34_1 (by omega)
                  replace pu34_2 := pu34_2 (by omega)
                  replace pu34_3 := pu34_3 (by omega)
                  clear pu34_4
                  refine r_aload_n C (j := 0) (oDec_at oX5_fact 95 rfl) rfl rfl ?_
                  refine r_getS (k := 1) (q2 := 0) C oCl5 rfl (by decide) flX5_19 rfl rfl rfl ks1 (oDec_at oX5_fact 96 rfl) (fun b37 rb37 mb37 hkb37 => ?_)
                  refine r_iload_n C (j := 2) (oDec_at oX5_fact 97 rfl) rfl rfl ?_
                  refine r_bipush C (oDec_at oX5_fact 98 rfl) (v := k60) (by rw [qk60]; rfl) ?_
                  refine r_icmp_ne C 203 (oDec_at oX5_fact 99 rfl) (by decide) (fun cd38 => ?_) (fun cd38 => ?_)
                  · omega
                  · skip
                    refine r_sipush C (oDec_at oX5_fact 100 rfl) (v := k10023) (by rw [qk10023]; rfl) ?_
                    refine r_goto C (tgt := 218) (oDec_at oX5_fact 101 rfl) (by decide) ?_
                    refine r_callVv C oCl0 hkb37 miX0_emit mlX5_147 (ct_X0_emit l E (u34) b37 hkb37 k10023 ) (by omega) rfl rfl rfl (Nat.le_of_ble_eq_true rfl) (oDec_at oX5_fact 108 rfl) (fun u39 pu39 fu39 => ?_)
                    try dsimp only at pu39
                    refine r_iconst C (oDec_at oX5_fact 109 rfl) (v := k1) (by rw [qk1]; rfl) ?_
                    have lk41 : ((u39).1 30 2).toInt = (u34.1 30 2).toInt := congrArg Int32.toInt ((fu39 30 2 rfl).1)
                    have lk42 : ((u39).1 30 3).toInt = (u34.1 30 3).toInt := congrArg Int32.toInt ((fu39 30 3 rfl).1)
                    have lk43 : ((u39).1 30 5).toInt = (u34.1 30 5).toInt := congrArg Int32.toInt ((fu39 30 5 rfl).1)
                    have lk44 : ((u39).1 30 2).toInt = (u34.1 30 2).toInt := congrArg Int32.toInt ((fu39 30 2 rfl).1)
                    have lk45 : ((u39).1 30 8).toInt = (u34.1 30 8).toInt := congrArg Int32.toInt ((fu39 30 8 rfl).1)
                    have lk46 : ((u39).1 30 9).toInt = (u34.1 30 9).toInt := congrArg Int32.toInt ((fu39 30 9 rfl).1)
                    have lk47 : ((u39).1 30 8).toInt = (u34.1 30 8).toInt := congrArg Int32.toInt ((fu39 30 8 rfl).1)
                    have lk48 : ((u39).1 30 9).toInt = (u34.1 30 9).toInt := congrArg Int32.toInt ((fu39 30 9 rfl).1)
                    exact r_zret C (n_bool (by omega)) (oDec_at oX5_fact 110 rfl) ⟨_, rfl, ⟨by omega, fun _ => by rw [show oqSk g ((u39).1 30 2).toInt = ((u34).1 30 2).toInt by (rw [show ((u39).1 30 2).toInt = ((u34).1 30 2).toInt by omega]; omega)]; exact (oqf_sgnY (by omega) (by omega) (by omega) pu16_1 pu16_2 (by omega) pu34_1 pu34_2).cast (by omega) (by omega), by omega, fun h => by exfalso; omega⟩⟩
                · skip
                  clear pu34_1
                  clear pu34_2
                  clear pu34_3
                  replace pu34_4 := pu34_4 (by omega)
                  refine r_iconst C (oDec_at oX5_fact 93 rfl) (v := k0) (by rw [qk0]; rfl) ?_
                  exact r_zret C (n_bool (by omega)) (oDec_at oX5_fact 94 rfl) ⟨_, rfl, ⟨by omega, fun h => by exfalso; omega, by omega, fun _ => oqf_sgnF (by omega) (by omega) (by omega) pu16_1 pu16_2 (by omega) pu34_4⟩⟩
              · skip
                refine r_iload_n C (j := 2) (oDec_at oX5_fact 72 rfl) rfl rfl ?_
                refine r_bipush C (oDec_at oX5_fact 73 rfl) (v := k62) (by rw [qk62]; rfl) ?_
                refine r_icmp_eq C 168 (oDec_at oX5_fact 74 rfl) (by decide) (fun cd49 => ?_) (fun cd49 => ?_)
                · skip
                  refine r_aload_n C (j := 0) (oDec_at oX5_fact 84 rfl) rfl rfl ?_
                  refine r_dup C (oDec_at oX5_fact 85 rfl) rfl ?_
                  obtain ⟨v50, ev50⟩ : ∃ z : Int32, (u20).1 30 2 = z := ⟨_, rfl⟩
                  have gv50 : (u20.1 30 2).toInt = v50.toInt := congrArg Int32.toInt (ev50)
                  refine r_geti (k := 2) (lo := 0) (hi := 1600) C v50 oCl5 rfl (by decide) flX5_23 rfl rfl (ev50) rfl rfl (oDec_at oX5_fact 86 rfl) (fun b51 b51h => ?_)
                  refine r_iconst C (oDec_at oX5_fact 87 rfl) (v := k1) (by rw [qk1]; rfl) ?_
                  obtain ⟨v52, ev52⟩ : ∃ z : Int32, z = v50 + k1 := ⟨_, rfl⟩
                  have hv52 : v52.toInt = v50.toInt + k1.toInt := n_add ev52 (by omega) (by omega)
                  refine r_iadd C v52 (oDec_at oX5_fact 88 rfl) ev52 ?_
                  refine r_puti (k := 2) (lo := 0) (hi := 1600) C oCl5 rfl (by decide) flX5_23 rfl rfl rfl rfl rfl rfl rfl rfl ⟨by omega, by omega⟩ (oDec_at oX5_fact 89 rfl) ?_
                  refine r_pc C 178 rfl ?_
                  refine r_aload_n C (j := 0) (oDec_at oX5_fact 90 rfl) rfl rfl ?_
                  have lk53 : (((pI u20 30 2 v52)).1 30 2).toInt = v52.toInt := congrArg Int32.toInt ((pI_self _ _ _ _))
                  have lk54 : (((pI u20 30 2 v52)).1 30 3).toInt = (u16.1 30 3).toInt := congrArg Int32.toInt (((pI_ne (a := 30) (b := 3) (c := 30) (k := 2) _ _ (Or.inr (by decide)))).trans ((fu20 30 3 rfl).1))
                  have lk55 : (((pI u20 30 2 v52)).1 30 5).toInt = (u16.1 30 5).toInt := congrArg Int32.toInt (((pI_ne (a := 30) (b := 5) (c := 30) (k := 2) _ _ (Or.inr (by decide)))).trans ((fu20 30 5 rfl).1))
                  have lk56 : (((pI u20 30 2 v52)).1 30 6).toInt = (s.1 30 6).toInt := congrArg Int32.toInt (((pI_ne (a := 30) (b := 6) (c := 30) (k := 2) _ _ (Or.inr (by decide)))).trans (((fu20 30 6 rfl).1).trans (((fu16 30 6 rfl).1).trans (((fu5 30 6 rfl).1).trans ((fu1 30 6 rfl).1)))))
                  have lk57 : (((pI u20 30 2 v52)).1 30 7).toInt = (s.1 30 7).toInt := congrArg Int32.toInt (((pI_ne (a := 30) (b := 7) (c := 30) (k := 2) _ _ (Or.inr (by decide)))).trans (((fu20 30 7 rfl).1).trans (((fu16 30 7 rfl).1).trans (((fu5 30 7 rfl).1).trans ((fu1 30 7 rfl).1)))))
                  have lk58 : (((pI u20 30 2 v52)).1 30 5).toInt = (u16.1 30 5).toInt := congrArg Int32.toInt (((pI_ne (a := 30) (b := 5) (c := 30) (k := 2) _ _ (Or.inr (by decide)))).trans ((fu20 30 5 rfl).1))
                  have lk59 : (((pI u20 30 2 v52)).1 30 8).toInt = (u16.1 30 8).toInt := congrArg Int32.toInt (((pI_ne (a := 30) (b := 8) (c := 30) (k := 2) _ _ (Or.inr (by decide)))).trans ((fu20 30 8 rfl).1))
                  have lk60 : (((pI u20 30 2 v52)).1 30 9).toInt = (u16.1 30 9).toInt := congrArg Int32.toInt (((pI_ne (a := 30) (b := 9) (c := 30) (k := 2) _ _ (Or.inr (by decide)))).trans ((fu20 30 9 rfl).1))
                  refine r_callVi C oCl5 rfl miX5_sum mlX5_160 (h_X5_sum ((pI u20 30 2 v52))  (g) (fp) (fq) (((u16).1 30 2).toInt + 1) (((u16).1 30 3).toInt) (op) (by omega) (by omega) (oqX_fr (oFr_oneI (q := 5) (m := 2) rfl (by rfl)) rfl (oqX_fr fu20 rfl (oqX_fr fu16 rfl (oqX_fr fu5 rfl (oqX_fr fu1 rfl hp2))))) (by omega) (by omega) (by omega) (by omega)) (by omega) rfl rfl rfl (Nat.le_of_ble_eq_true rfl) (oDec_at oX5_fact 91 rfl) (fun r62 u61 pu61 fu61 => ?_)
                  try dsimp only at pu61
                  try simp only [lk53, lk54, lk55, lk56, lk57, lk58, lk59, lk60] at pu61
                  obtain ⟨pu61_0, pu61_1, pu61_2, pu61_3, pu61_4⟩ := pu61
                  have rr62 := n_rng r62
                  refine r_if_ne C 187 (oDec_at oX5_fact 92 rfl) (by decide) (fun cd63 => ?_) (fun cd63 => ?_)
                  · skip
                    replace pu61_1 := pu61_1 (by omega)
                    replace pu61_2 := pu61_2 (by omega)
                    replace pu61_3 := pu61_3 (by omega)
                    clear pu61_4
                    refine r_aload_n C (j := 0) (oDec_at oX5_fact 95 rfl) rfl rfl ?_
                    refine r_getS (k := 1) (q2 := 0) C oCl5 rfl (by decide) flX5_19 rfl rfl rfl ks1 (oDec_at oX5_fact 96 rfl) (fun b64 rb64 mb64 hkb64 => ?_)
                    refine r_iload_n C (j := 2) (oDec_at oX5_fact 97 rfl) rfl rfl ?_
                    refine r_bipush C (oDec_at oX5_fact 98 rfl) (v := k60) (by rw [qk60]; rfl) ?_
                    refine r_icmp_ne C 203 (oDec_at oX5_fact 99 rfl) (by decide) (fun cd65 => ?_) (fun cd65 => ?_)
                    · skip
                      refine r_iload_n C (j := 2) (oDec_at oX5_fact 102 rfl) rfl rfl ?_
                      refine r_bipush C (oDec_at oX5_fact 103 rfl) (v := k62) (by rw [qk62]; rfl) ?_
                      refine r_icmp_ne C 215 (oDec_at oX5_fact 104 rfl) (by decide) (fun cd66 => ?_) (fun cd66 => ?_)
                      · omega
                      · skip
                        refine r_sipush C (oDec_at oX5_fact 105 rfl) (v := k10024) (by rw [qk10024]; rfl) ?_
                        refine r_goto C (tgt := 218) (oDec_at oX5_fact 106 rfl) (by decide) ?_
                        refine r_callVv C oCl0 hkb64 miX0_emit mlX5_147 (ct_X0_emit l E (u61) b64 hkb64 k10024 ) (by omega) rfl rfl rfl (Nat.le_of_ble_eq_true rfl) (oDec_at oX5_fact 108 rfl) (fun u67 pu67 fu67 => ?_)
                        try dsimp only at pu67
                        refine r_iconst C (oDec_at oX5_fact 109 rfl) (v := k1) (by rw [qk1]; rfl) ?_
                        have lk69 : ((u67).1 30 2).toInt = (u61.1 30 2).toInt := congrArg Int32.toInt ((fu67 30 2 rfl).1)
                        have lk70 : ((u67).1 30 3).toInt = (u61.1 30 3).toInt := congrArg Int32.toInt ((fu67 30 3 rfl).1)
                        have lk71 : ((u67).1 30 5).toInt = (u61.1 30 5).toInt := congrArg Int32.toInt ((fu67 30 5 rfl).1)
                        have lk72 : ((u67).1 30 2).toInt = (u61.1 30 2).toInt := congrArg Int32.toInt ((fu67 30 2 rfl).1)
                        have lk73 : ((u67).1 30 8).toInt = (u61.1 30 8).toInt := congrArg Int32.toInt ((fu67 30 8 rfl).1)
                        have lk74 : ((u67).1 30 9).toInt = (u61.1 30 9).toInt := congrArg Int32.toInt ((fu67 30 9 rfl).1)
                        have lk75 : ((u67).1 30 8).toInt = (u61.1 30 8).toInt := congrArg Int32.toInt ((fu67 30 8 rfl).1)
                        have lk76 : ((u67).1 30 9).toInt = (u61.1 30 9).toInt := congrArg Int32.toInt ((fu67 30 9 rfl).1)
                        exact r_zret C (n_bool (by omega)) (oDec_at oX5_fact 110 rfl) ⟨_, rfl, ⟨by omega, fun _ => by rw [show oqSk g ((u67).1 30 2).toInt = ((u61).1 30 2).toInt by (rw [show ((u67).1 30 2).toInt = ((u61).1 30 2).toInt by omega]; omega)]; exact (oqf_sgnY (by omega) (by omega) (by omega) pu16_1 pu16_2 (by omega) pu61_1 pu61_2).cast (by omega) (by omega), by omega, fun h => by exfalso; omega⟩⟩
                    · omega
                  · skip
                    clear pu61_1
                    clear pu61_2
                    clear pu61_3
                    replace pu61_4 := pu61_4 (by omega)
                    refine r_iconst C (oDec_at oX5_fact 93 rfl) (v := k0) (by rw [qk0]; rfl) ?_
                    exact r_zret C (n_bool (by omega)) (oDec_at oX5_fact 94 rfl) ⟨_, rfl, ⟨by omega, fun h => by exfalso; omega, by omega, fun _ => oqf_sgnF (by omega) (by omega) (by omega) pu16_1 pu16_2 (by omega) pu61_4⟩⟩
                · skip
                  refine r_iload_n C (j := 2) (oDec_at oX5_fact 75 rfl) rfl rfl ?_
                  refine r_bipush C (oDec_at oX5_fact 76 rfl) (v := k61) (by rw [qk61]; rfl) ?_
                  refine r_icmp_eq C 168 (oDec_at oX5_fact 77 rfl) (by decide) (fun cd77 => ?_) (fun cd77 => ?_)
                  · skip
                    refine r_aload_n C (j := 0) (oDec_at oX5_fact 84 rfl) rfl rfl ?_
                    refine r_dup C (oDec_at oX5_fact 85 rfl) rfl ?_
                    obtain ⟨v78, ev78⟩ : ∃ z : Int32, (u20).1 30 2 = z := ⟨_, rfl⟩
                    have gv78 : (u20.1 30 2).toInt = v78.toInt := congrArg Int32.toInt (ev78)
                    refine r_geti (k := 2) (lo := 0) (hi := 1600) C v78 oCl5 rfl (by decide) flX5_23 rfl rfl (ev78) rfl rfl (oDec_at oX5_fact 86 rfl) (fun b79 b79h => ?_)
                    refine r_iconst C (oDec_at oX5_fact 87 rfl) (v := k1) (by rw [qk1]; rfl) ?_
                    obtain ⟨v80, ev80⟩ : ∃ z : Int32, z = v78 + k1 := ⟨_, rfl⟩
                    have hv80 : v80.toInt = v78.toInt + k1.toInt := n_add ev80 (by omega) (by omega)
                    refine r_iadd C v80 (oDec_at oX5_fact 88 rfl) ev80 ?_
                    refine r_puti (k := 2) (lo := 0) (hi := 1600) C oCl5 rfl (by decide) flX5_23 rfl rfl rfl rfl rfl rfl rfl rfl ⟨by omega, by omega⟩ (oDec_at oX5_fact 89 rfl) ?_
                    refine r_pc C 178 rfl ?_
                    refine r_aload_n C (j := 0) (oDec_at oX5_fact 90 rfl) rfl rfl ?_
                    have lk81 : (((pI u20 30 2 v80)).1 30 2).toInt = v80.toInt := congrArg Int32.toInt ((pI_self _ _ _ _))
                    have lk82 : (((pI u20 30 2 v80)).1 30 3).toInt = (u16.1 30 3).toInt := congrArg Int32.toInt (((pI_ne (a := 30) (b := 3) (c := 30) (k := 2) _ _ (Or.inr (by decide)))).trans ((fu20 30 3 rfl).1))
                    have lk83 : (((pI u20 30 2 v80)).1 30 5).toInt = (u16.1 30 5).toInt := congrArg Int32.toInt (((pI_ne (a := 30) (b := 5) (c := 30) (k := 2) _ _ (Or.inr (by decide)))).trans ((fu20 30 5 rfl).1))
                    have lk84 : (((pI u20 30 2 v80)).1 30 6).toInt = (s.1 30 6).toInt := congrArg Int32.toInt (((pI_ne (a := 30) (b := 6) (c := 30) (k := 2) _ _ (Or.inr (by decide)))).trans (((fu20 30 6 rfl).1).trans (((fu16 30 6 rfl).1).trans (((fu5 30 6 rfl).1).trans ((fu1 30 6 rfl).1)))))
                    have lk85 : (((pI u20 30 2 v80)).1 30 7).toInt = (s.1 30 7).toInt := congrArg Int32.toInt (((pI_ne (a := 30) (b := 7) (c := 30) (k := 2) _ _ (Or.inr (by decide)))).trans (((fu20 30 7 rfl).1).trans (((fu16 30 7 rfl).1).trans (((fu5 30 7 rfl).1).trans ((fu1 30 7 rfl).1)))))
                    have lk86 : (((pI u20 30 2 v80)).1 30 5).toInt = (u16.1 30 5).toInt := congrArg Int32.toInt (((pI_ne (a := 30) (b := 5) (c := 30) (k := 2) _ _ (Or.inr (by decide)))).trans ((fu20 30 5 rfl).1))
                    have lk87 : (((pI u20 30 2 v80)).1 30 8).toInt = (u16.1 30 8).toInt := congrArg Int32.toInt (((pI_ne (a := 30) (b := 8) (c := 30) (k := 2) _ _ (Or.inr (by decide)))).trans ((fu20 30 8 rfl).1))
                    have lk88 : (((pI u20 30 2 v80)).1 30 9).toInt = (u16.1 30 9).toInt := congrArg Int32.toInt (((pI_ne (a := 30) (b := 9) (c := 30) (k := 2) _ _ (Or.inr (by decide)))).trans ((fu20 30 9 rfl).1))
                    refine r_callVi C oCl5 rfl miX5_sum mlX5_160 (h_X5_sum ((pI u20 30 2 v80))  (g) (fp) (fq) (((u16).1 30 2).toInt + 1) (((u16).1 30 3).toInt) (op) (by omega) (by omega) (oqX_fr (oFr_oneI (q := 5) (m := 2) rfl (by rfl)) rfl (oqX_fr fu20 rfl (oqX_fr fu16 rfl (oqX_fr fu5 rfl (oqX_fr fu1 rfl hp2))))) (by omega) (by omega) (by omega) (by omega)) (by omega) rfl rfl rfl (Nat.le_of_ble_eq_true rfl) (oDec_at oX5_fact 91 rfl) (fun r90 u89 pu89 fu89 => ?_)
                    try dsimp only at pu89
                    try simp only [lk81, lk82, lk83, lk84, lk85, lk86, lk87, lk88] at pu89
                    obtain ⟨pu89_0, pu89_1, pu89_2, pu89_3, pu89_4⟩ := pu89
                    have rr90 := n_rng r90
                    refine r_if_ne C 187 (oDec_at oX5_fact 92 rfl) (by decide) (fun cd91 => ?_) (fun cd91 => ?_)
                    · skip
                      replace pu89_1 := pu89_1 (by omega)
                      replace pu89_2 := pu89_2 (by omega)
                      replace pu89_3 := pu89_3 (by omega)
                      clear pu89_4
                      refine r_aload_n C (j := 0) (oDec_at oX5_fact 95 rfl) rfl rfl ?_
                      refine r_getS (k := 1) (q2 := 0) C oCl5 rfl (by decide) flX5_19 rfl rfl rfl ks1 (oDec_at oX5_fact 96 rfl) (fun b92 rb92 mb92 hkb92 => ?_)
                      refine r_iload_n C (j := 2) (oDec_at oX5_fact 97 rfl) rfl rfl ?_
                      refine r_bipush C (oDec_at oX5_fact 98 rfl) (v := k60) (by rw [qk60]; rfl) ?_
                      refine r_icmp_ne C 203 (oDec_at oX5_fact 99 rfl) (by decide) (fun cd93 => ?_) (fun cd93 => ?_)
                      · skip
                        refine r_iload_n C (j := 2) (oDec_at oX5_fact 102 rfl) rfl rfl ?_
                        refine r_bipush C (oDec_at oX5_fact 103 rfl) (v := k62) (by rw [qk62]; rfl) ?_
                        refine r_icmp_ne C 215 (oDec_at oX5_fact 104 rfl) (by decide) (fun cd94 => ?_) (fun cd94 => ?_)
                        · skip
                          refine r_sipush C (oDec_at oX5_fact 107 rfl) (v := k10025) (by rw [qk10025]; rfl) ?_
                          refine r_callVv C oCl0 hkb92 miX0_emit mlX5_147 (ct_X0_emit l E (u89) b92 hkb92 k10025 ) (by omega) rfl rfl rfl (Nat.le_of_ble_eq_true rfl) (oDec_at oX5_fact 108 rfl) (fun u95 pu95 fu95 => ?_)
                          try dsimp only at pu95
                          refine r_iconst C (oDec_at oX5_fact 109 rfl) (v := k1) (by rw [qk1]; rfl) ?_
                          have lk97 : ((u95).1 30 2).toInt = (u89.1 30 2).toInt := congrArg Int32.toInt ((fu95 30 2 rfl).1)
                          have lk98 : ((u95).1 30 3).toInt = (u89.1 30 3).toInt := congrArg Int32.toInt ((fu95 30 3 rfl).1)
                          have lk99 : ((u95).1 30 5).toInt = (u89.1 30 5).toInt := congrArg Int32.toInt ((fu95 30 5 rfl).1)
                          have lk100 : ((u95).1 30 2).toInt = (u89.1 30 2).toInt := congrArg Int32.toInt ((fu95 30 2 rfl).1)
                          have lk101 : ((u95).1 30 8).toInt = (u89.1 30 8).toInt := congrArg Int32.toInt ((fu95 30 8 rfl).1)
                          have lk102 : ((u95).1 30 9).toInt = (u89.1 30 9).toInt := congrArg Int32.toInt ((fu95 30 9 rfl).1)
                          have lk103 : ((u95).1 30 8).toInt = (u89.1 30 8).toInt := congrArg Int32.toInt ((fu95 30 8 rfl).1)
                          have lk104 : ((u95).1 30 9).toInt = (u89.1 30 9).toInt := congrArg Int32.toInt ((fu95 30 9 rfl).1)
                          exact r_zret C (n_bool (by omega)) (oDec_at oX5_fact 110 rfl) ⟨_, rfl, ⟨by omega, fun _ => by rw [show oqSk g ((u95).1 30 2).toInt = ((u89).1 30 2).toInt by (rw [show ((u95).1 30 2).toInt = ((u89).1 30 2).toInt by omega]; omega)]; exact (oqf_sgnY (by omega) (by omega) (by omega) pu16_1 pu16_2 (by omega) pu89_1 pu89_2).cast (by omega) (by omega), by omega, fun h => by exfalso; omega⟩⟩
                        · omega
                      · omega
                    · skip
                      clear pu89_1
                      clear pu89_2
                      clear pu89_3
                      replace pu89_4 := pu89_4 (by omega)
                      refine r_iconst C (oDec_at oX5_fact 93 rfl) (v := k0) (by rw [qk0]; rfl) ?_
                      exact r_zret C (n_bool (by omega)) (oDec_at oX5_fact 94 rfl) ⟨_, rfl, ⟨by omega, fun h => by exfalso; omega, by omega, fun _ => oqf_sgnF (by omega) (by omega) (by omega) pu16_1 pu16_2 (by omega) pu89_4⟩⟩
                  · skip
                    refine r_aload_n C (j := 0) (oDec_at oX5_fact 78 rfl) rfl rfl ?_
                    refine r_iconst C (oDec_at oX5_fact 79 rfl) (v := k1) (by rw [qk1]; rfl) ?_
                    refine r_aload_n C (j := 0) (oDec_at oX5_fact 80 rfl) rfl rfl ?_
                    obtain ⟨v105, ev105⟩ : ∃ z : Int32, (u20).1 30 2 = z := ⟨_, rfl⟩
                    have gv105 : (u20.1 30 2).toInt = v105.toInt := congrArg Int32.toInt (ev105)
                    refine r_geti (k := 2) (lo := 0) (hi := 1600) C v105 oCl5 rfl (by decide) flX5_23 rfl rfl (ev105) rfl rfl (oDec_at oX5_fact 81 rfl) (fun b106 b106h => ?_)
                    refine r_callVi C oCl5 rfl miX5_fail mlX5_62 (ct4_X5_fail l E (u20) k1 v105 ) (by omega) rfl rfl rfl (Nat.le_of_ble_eq_true rfl) (oDec_at oX5_fact 82 rfl) (fun r108 u107 pu107 fu107 => ?_)
                    try dsimp only at pu107
                    obtain ⟨pu107_0, pu107_1, pu107_2, pu107_3⟩ := pu107
                    have rr108 := n_rng r108
                    have lk109 : ((u107).1 30 2).toInt = v105.toInt := congrArg Int32.toInt (((fu107 30 2 rfl).1).trans (ev105))
                    have lk110 : ((u107).1 30 3).toInt = (u16.1 30 3).toInt := congrArg Int32.toInt (((fu107 30 3 rfl).1).trans ((fu20 30 3 rfl).1))
                    have lk111 : ((u107).1 30 5).toInt = (u16.1 30 5).toInt := congrArg Int32.toInt (((fu107 30 5 rfl).1).trans ((fu20 30 5 rfl).1))
                    have lk112 : ((u107).1 30 2).toInt = v105.toInt := congrArg Int32.toInt (((fu107 30 2 rfl).1).trans (ev105))
                    exact r_zret C (n_bool (by omega)) (oDec_at oX5_fact 83 rfl) ⟨_, rfl, ⟨by omega, fun h => by exfalso; omega, by omega, fun _ => (oqf_sgnN (by omega) (by omega) (by omega) pu16_1 pu16_2 (by omega)).cast (by omega) (by omega)⟩⟩
            · skip
              clear pu16_1
              clear pu16_2
              clear pu16_3
              replace pu16_4 := pu16_4 (by omega)
              rw [hss] at pu16_4
              refine r_iconst C (oDec_at oX5_fact 64 rfl) (v := k0) (by rw [qk0]; rfl) ?_
              exact r_zret C (n_bool (by omega)) (oDec_at oX5_fact 65 rfl) ⟨_, rfl, ⟨by omega, fun h => by exfalso; omega, by omega, fun _ => oqf_sumF (by omega) (by omega) (by omega) pu16_4⟩⟩
          · skip
            have hH9 := oqWi_is (g := g) (a := oqSk g a) (b := b) (i := 10) (by decide)
            have hHa : oqHa g (oqSk g a) 10 = oqSk g (oqSk g a) + (oqWl 10 : Int) := rfl
            have hl9 : oqWl 10 = 3 := rfl
            refine r_aload_n C (j := 0) (oDec_at oX5_fact 53 rfl) rfl rfl ?_
            refine r_getS (k := 1) (q2 := 0) C oCl5 rfl (by decide) flX5_19 rfl rfl rfl ks1 (oDec_at oX5_fact 54 rfl) (fun b113 rb113 mb113 hkb113 => ?_)
            refine r_iconst C (oDec_at oX5_fact 55 rfl) (v := k1) (by rw [qk1]; rfl) ?_
            refine r_callVv C oCl0 hkb113 miX0_emit mlX5_147 (ct_X0_emit l E (u5) b113 hkb113 k1 ) (by omega) rfl rfl rfl (Nat.le_of_ble_eq_true rfl) (oDec_at oX5_fact 56 rfl) (fun u114 pu114 fu114 => ?_)
            try dsimp only at pu114
            refine r_aload_n C (j := 0) (oDec_at oX5_fact 57 rfl) rfl rfl ?_
            refine r_bipush C (oDec_at oX5_fact 58 rfl) (v := k10) (by rw [qk10]; rfl) ?_
            refine r_pc C 122 rfl ?_
            have lk116 : ((u114).1 30 2).toInt = (u5.1 30 2).toInt := congrArg Int32.toInt ((fu114 30 2 rfl).1)
            have lk117 : ((u114).1 30 3).toInt = (s.1 30 3).toInt := congrArg Int32.toInt (((fu114 30 3 rfl).1).trans (((fu5 30 3 rfl).1).trans ((fu1 30 3 rfl).1)))
            have lk118 : ((u114).1 30 8).toInt = (s.1 30 8).toInt := congrArg Int32.toInt (((fu114 30 8 rfl).1).trans (((fu5 30 8 rfl).1).trans ((fu1 30 8 rfl).1)))
            have lk119 : ((u114).1 30 9).toInt = (s.1 30 9).toInt := congrArg Int32.toInt (((fu114 30 9 rfl).1).trans (((fu5 30 9 rfl).1).trans ((fu1 30 9 rfl).1)))
            refine r_callVi C oCl5 rfl miX5_expect mlX5_74 (ct4_X5_expect l E (u114) k10 (g) (oqSk g a) (b) (10) (by omega) (by omega) (oqX_fr fu114 rfl (oqX_fr fu5 rfl (oqX_fr fu1 rfl hp2))) (by omega) (by omega)) (by omega) rfl rfl rfl (Nat.le_of_ble_eq_true rfl) (oDec_at oX5_fact 59 rfl) (fun r121 u120 pu120 fu120 => ?_)
            try dsimp only at pu120
            try simp only [lk116, lk117, lk118, lk119] at pu120
            obtain ⟨pu120_0, pu120_1, pu120_2⟩ := pu120
            have rr121 := n_rng r121
            have lk122 : ((u120).1 30 5).toInt = (s.1 30 5).toInt := congrArg Int32.toInt (((fu120 30 5 rfl).1).trans (((fu114 30 5 rfl).1).trans (((fu5 30 5 rfl).1).trans ((fu1 30 5 rfl).1))))
            exact r_zret C (n_bool (by omega)) (oDec_at oX5_fact 60 rfl) ⟨_, rfl, ⟨by omega, fun _ => (oqf_all (by omega) (by omega)).castS (by omega) (by omega), by omega, fun h => by exfalso; omega⟩⟩
        · skip
          have hH9 := oqWi_is (g := g) (a := oqSk g a) (b := b) (i := 9) (by decide)
          have hHa : oqHa g (oqSk g a) 9 = oqSk g (oqSk g a) + (oqWl 9 : Int) := rfl
          have hl9 : oqWl 9 = 3 := rfl
          refine r_aload_n C (j := 0) (oDec_at oX5_fact 31 rfl) rfl rfl ?_
          have lk123 : ((u5).1 30 5).toInt = (s.1 30 5).toInt := congrArg Int32.toInt (((fu5 30 5 rfl).1).trans ((fu1 30 5 rfl).1))
          have lk124 : ((u5).1 30 8).toInt = (s.1 30 8).toInt := congrArg Int32.toInt (((fu5 30 8 rfl).1).trans ((fu1 30 8 rfl).1))
          have lk125 : ((u5).1 30 9).toInt = (s.1 30 9).toInt := congrArg Int32.toInt (((fu5 30 9 rfl).1).trans ((fu1 30 9 rfl).1))
          have lk126 : ((u5).1 30 5).toInt = (s.1 30 5).toInt := congrArg Int32.toInt (((fu5 30 5 rfl).1).trans ((fu1 30 5 rfl).1))
          refine r_callVi C oCl5 rfl miX5_opens mlX5_154 (ct4_X5_opens l E (u5)  ) (by omega) rfl rfl rfl (Nat.le_of_ble_eq_true rfl) (oDec_at oX5_fact 32 rfl) (fun r128 u127 pu127 fu127 => ?_)
          try dsimp only at pu127
          try simp only [lk123, lk124, lk125, lk126] at pu127
          obtain ⟨pu127_0, pu127_1, pu127_2⟩ := pu127
          have rr128 := n_rng r128
          refine r_if_eq C 88 (oDec_at oX5_fact 33 rfl) (by decide) (fun cd129 => ?_) (fun cd129 => ?_)
          · skip
            clear pu127_1
            replace pu127_2 := pu127_2 (by omega)
            refine r_iconst C (oDec_at oX5_fact 41 rfl) (v := k0) (by rw [qk0]; rfl) ?_
            have lk130 : ((u127).1 30 2).toInt = (u5.1 30 2).toInt := congrArg Int32.toInt ((fu127 30 2 rfl).1)
            have lk131 : ((u127).1 30 3).toInt = (s.1 30 3).toInt := congrArg Int32.toInt (((fu127 30 3 rfl).1).trans (((fu5 30 3 rfl).1).trans ((fu1 30 3 rfl).1)))
            have lk132 : ((u127).1 30 2).toInt = (u5.1 30 2).toInt := congrArg Int32.toInt ((fu127 30 2 rfl).1)
            exact r_zret C (n_bool (by omega)) (oDec_at oX5_fact 42 rfl) ⟨_, rfl, ⟨by omega, fun h => by exfalso; omega, by omega, by first | exact fun _ => (oqf_deepN (by omega) (by omega) (by omega)).cast (by omega) (by omega) | exact fun _ => oqf_notF (by omega) (by omega) (by omega) pu127_3 | (intro h; exfalso; omega)⟩⟩
          · skip
            replace pu127_1 := pu127_1 (by omega)
            clear pu127_2
            refine r_aload_n C (j := 0) (oDec_at oX5_fact 34 rfl) rfl rfl ?_
            refine r_bipush C (oDec_at oX5_fact 35 rfl) (v := k9) (by rw [qk9]; rfl) ?_
            have lk133 : ((u127).1 30 2).toInt = (u5.1 30 2).toInt := congrArg Int32.toInt ((fu127 30 2 rfl).1)
            have lk134 : ((u127).1 30 3).toInt = (s.1 30 3).toInt := congrArg Int32.toInt (((fu127 30 3 rfl).1).trans (((fu5 30 3 rfl).1).trans ((fu1 30 3 rfl).1)))
            refine r_callVi C oCl5 rfl miX5_expect mlX5_74 (ct4_X5_expect l E (u127) k9 (g) (oqSk g a) (b) (9) (by omega) (by omega) (oqX_fr fu127 rfl (oqX_fr fu5 rfl (oqX_fr fu1 rfl hp2))) (by omega) (by omega)) (by omega) rfl rfl rfl (Nat.le_of_ble_eq_true rfl) (oDec_at oX5_fact 36 rfl) (fun r136 u135 pu135 fu135 => ?_)
            try dsimp only at pu135
            try simp only [lk133, lk134] at pu135
            obtain ⟨pu135_0, pu135_1, pu135_2⟩ := pu135
            have rr136 := n_rng r136
            refine r_if_eq C 88 (oDec_at oX5_fact 37 rfl) (by decide) (fun cd137 => ?_) (fun cd137 => ?_)
            · skip
              clear pu135_1
              replace pu135_2 := pu135_2 (by omega)
              refine r_iconst C (oDec_at oX5_fact 41 rfl) (v := k0) (by rw [qk0]; rfl) ?_
              have lk138 : ((u135).1 30 5).toInt = (u127.1 30 5).toInt := congrArg Int32.toInt ((fu135 30 5 rfl).1)
              exact r_zret C (n_bool (by omega)) (oDec_at oX5_fact 42 rfl) ⟨_, rfl, ⟨by omega, fun h => by exfalso; omega, by omega, by first | exact fun _ => (oqf_deepN (by omega) (by omega) (by omega)).cast (by omega) (by omega) | exact fun _ => oqf_notF (by omega) (by omega) (by omega) pu135_3 | (intro h; exfalso; omega)⟩⟩
            · skip
              replace pu135_1 := pu135_1 (by omega)
              clear pu135_2
              refine r_aload_n C (j := 0) (oDec_at oX5_fact 38 rfl) rfl rfl ?_
              have lk139 : ((u135).1 30 5).toInt = (u127.1 30 5).toInt := congrArg Int32.toInt ((fu135 30 5 rfl).1)
              have lk140 : ((u135).1 30 6).toInt = (s.1 30 6).toInt := congrArg Int32.toInt (((fu135 30 6 rfl).1).trans (((fu127 30 6 rfl).1).trans (((fu5 30 6 rfl).1).trans ((fu1 30 6 rfl).1))))
              have lk141 : ((u135).1 30 7).toInt = (s.1 30 7).toInt := congrArg Int32.toInt (((fu135 30 7 rfl).1).trans (((fu127 30 7 rfl).1).trans (((fu5 30 7 rfl).1).trans ((fu1 30 7 rfl).1))))
              have lk142 : ((u135).1 30 5).toInt = (u127.1 30 5).toInt := congrArg Int32.toInt ((fu135 30 5 rfl).1)
              refine r_callVi C oCl5 rfl miX5_fact mlX5_151 (((ih (N - 1) (by omega)).2.2.2.2.1) (u135)  (g) (fp) (fq) (oqHa g (oqSk g a) 9) (oqHa g (oqSk g a) 9) (op + 1) (by omega) (by omega) (oqX_fr fu135 rfl (oqX_fr fu127 rfl (oqX_fr fu5 rfl (oqX_fr fu1 rfl hp2)))) (by omega) (by omega) (by omega) (by omega)) (by omega) rfl rfl rfl (Nat.le_of_ble_eq_true rfl) (oDec_at oX5_fact 39 rfl) (fun r144 u143 pu143 fu143 => ?_)
              try dsimp only at pu143
              try simp only [lk139, lk140, lk141, lk142] at pu143
              obtain ⟨pu143_0, pu143_1, pu143_2, pu143_3⟩ := pu143
              have rr144 := n_rng r144
              refine r_if_ne C 90 (oDec_at oX5_fact 40 rfl) (by decide) (fun cd145 => ?_) (fun cd145 => ?_)
              · skip
                replace pu143_1 := pu143_1 (by omega)
                replace pu143_2 := pu143_2 (by omega)
                clear pu143_3
                refine r_aload_n C (j := 0) (oDec_at oX5_fact 43 rfl) rfl rfl ?_
                refine r_getS (k := 1) (q2 := 0) C oCl5 rfl (by decide) flX5_19 rfl rfl rfl ks1 (oDec_at oX5_fact 44 rfl) (fun b146 rb146 mb146 hkb146 => ?_)
                refine r_sipush C (oDec_at oX5_fact 45 rfl) (v := k10020) (by rw [qk10020]; rfl) ?_
                refine r_callVv C oCl0 hkb146 miX0_emit mlX5_147 (ct_X0_emit l E (u143) b146 hkb146 k10020 ) (by omega) rfl rfl rfl (Nat.le_of_ble_eq_true rfl) (oDec_at oX5_fact 46 rfl) (fun u147 pu147 fu147 => ?_)
                try dsimp only at pu147
                refine r_aload_n C (j := 0) (oDec_at oX5_fact 47 rfl) rfl rfl ?_
                have lk149 : ((u147).1 30 5).toInt = (u143.1 30 5).toInt := congrArg Int32.toInt ((fu147 30 5 rfl).1)
                have lk150 : ((u147).1 30 5).toInt = (u143.1 30 5).toInt := congrArg Int32.toInt ((fu147 30 5 rfl).1)
                refine r_callVi C oCl5 rfl miX5_closes mlX5_157 (ct4_X5_closes l E (u147)  (by omega)) (by omega) rfl rfl rfl (Nat.le_of_ble_eq_true rfl) (oDec_at oX5_fact 48 rfl) (fun r152 u151 pu151 fu151 => ?_)
                try dsimp only at pu151
                try simp only [lk149, lk150] at pu151
                obtain ⟨pu151_0, pu151_1⟩ := pu151
                have rr152 := n_rng r152
                refine r_pc C 104 rfl ?_
                have lk153 : ((u151).1 30 2).toInt = (u143.1 30 2).toInt := congrArg Int32.toInt (((fu151 30 2 rfl).1).trans ((fu147 30 2 rfl).1))
                have lk154 : ((u151).1 30 3).toInt = (u143.1 30 3).toInt := congrArg Int32.toInt (((fu151 30 3 rfl).1).trans ((fu147 30 3 rfl).1))
                have lk155 : ((u151).1 30 2).toInt = (u143.1 30 2).toInt := congrArg Int32.toInt (((fu151 30 2 rfl).1).trans ((fu147 30 2 rfl).1))
                have lk156 : ((u151).1 30 8).toInt = (u143.1 30 8).toInt := congrArg Int32.toInt (((fu151 30 8 rfl).1).trans ((fu147 30 8 rfl).1))
                have lk157 : ((u151).1 30 9).toInt = (u143.1 30 9).toInt := congrArg Int32.toInt (((fu151 30 9 rfl).1).trans ((fu147 30 9 rfl).1))
                have lk158 : ((u151).1 30 8).toInt = (u143.1 30 8).toInt := congrArg Int32.toInt (((fu151 30 8 rfl).1).trans ((fu147 30 8 rfl).1))
                have lk159 : ((u151).1 30 9).toInt = (u143.1 30 9).toInt := congrArg Int32.toInt (((fu151 30 9 rfl).1).trans ((fu147 30 9 rfl).1))
                exact r_zret C (n_bool (by omega)) (oDec_at oX5_fact 49 rfl) ⟨_, rfl, ⟨by omega, fun _ => (oqf_notY (by omega) (by omega) (by omega) pu143_1).castS (by omega) (by omega), by omega, fun h => by exfalso; omega⟩⟩
              · skip
                clear pu143_1
                clear pu143_2
                replace pu143_3 := pu143_3 (by omega)
                refine r_iconst C (oDec_at oX5_fact 41 rfl) (v := k0) (by rw [qk0]; rfl) ?_
                exact r_zret C (n_bool (by omega)) (oDec_at oX5_fact 42 rfl) ⟨_, rfl, ⟨by omega, fun h => by exfalso; omega, by omega, by first | exact fun _ => (oqf_deepN (by omega) (by omega) (by omega)).cast (by omega) (by omega) | exact fun _ => oqf_notF (by omega) (by omega) (by omega) pu143_3 | (intro h; exfalso; omega)⟩⟩
      · skip
        refine r_aload_n C (j := 0) (oDec_at oX5_fact 4 rfl) rfl rfl ?_
        have lk160 : ((u1).1 30 5).toInt = (s.1 30 5).toInt := congrArg Int32.toInt ((fu1 30 5 rfl).1)
        have lk161 : ((u1).1 30 8).toInt = (s.1 30 8).toInt := congrArg Int32.toInt ((fu1 30 8 rfl).1)
        have lk162 : ((u1).1 30 9).toInt = (s.1 30 9).toInt := congrArg Int32.toInt ((fu1 30 9 rfl).1)
        have lk163 : ((u1).1 30 5).toInt = (s.1 30 5).toInt := congrArg Int32.toInt ((fu1 30 5 rfl).1)
        refine r_callVi C oCl5 rfl miX5_opens mlX5_154 (ct4_X5_opens l E (u1)  ) (by omega) rfl rfl rfl (Nat.le_of_ble_eq_true rfl) (oDec_at oX5_fact 5 rfl) (fun r165 u164 pu164 fu164 => ?_)
        try dsimp only at pu164
        try simp only [lk160, lk161, lk162, lk163] at pu164
        obtain ⟨pu164_0, pu164_1, pu164_2⟩ := pu164
        have rr165 := n_rng r165
        refine r_if_eq C 52 (oDec_at oX5_fact 6 rfl) (by decide) (fun cd166 => ?_) (fun cd166 => ?_)
        · skip
          clear pu164_1
          replace pu164_2 := pu164_2 (by omega)
          refine r_iconst C (oDec_at oX5_fact 23 rfl) (v := k0) (by rw [qk0]; rfl) ?_
          have lk167 : ((u164).1 30 2).toInt = (u1.1 30 2).toInt := congrArg Int32.toInt ((fu164 30 2 rfl).1)
          have lk168 : ((u164).1 30 3).toInt = (s.1 30 3).toInt := congrArg Int32.toInt (((fu164 30 3 rfl).1).trans ((fu1 30 3 rfl).1))
          have lk169 : ((u164).1 30 2).toInt = (u1.1 30 2).toInt := congrArg Int32.toInt ((fu164 30 2 rfl).1)
          exact r_zret C (n_bool (by omega)) (oDec_at oX5_fact 24 rfl) ⟨_, rfl, ⟨by omega, by first | (intro h; exfalso; omega) | exact fun _ => (oqf_sqY (by omega) (by omega) (by assumption) ⟨by omega, by omega⟩ (by omega)).castS (by omega) (by omega), by omega, by first | exact fun _ => (oqf_deepS (by omega) (by omega)).cast (by omega) (by omega) | exact fun _ => oqf_sqF (by omega) (by omega) pu164_4 | exact fun _ => (oqf_sqN (by omega) (by omega) (by assumption) ⟨by omega, by omega⟩ (by omega)).cast (by omega) (by omega) | (intro h; exfalso; omega)⟩⟩
        · skip
          replace pu164_1 := pu164_1 (by omega)
          clear pu164_2
          refine r_aload_n C (j := 0) (oDec_at oX5_fact 7 rfl) rfl rfl ?_
          refine r_bipush C (oDec_at oX5_fact 8 rfl) (v := k91) (by rw [qk91]; rfl) ?_
          have lk170 : ((u164).1 30 2).toInt = (u1.1 30 2).toInt := congrArg Int32.toInt ((fu164 30 2 rfl).1)
          refine r_callVi C oCl5 rfl miX5_expectSign mlX5_88 (ct4_X5_expectSign l E (u164) k91 (g) (oqSk g a) (91) (by omega) (oqX_fr fu164 rfl (oqX_fr fu1 rfl hp2)) (by omega) (by omega)) (by omega) rfl rfl rfl (Nat.le_of_ble_eq_true rfl) (oDec_at oX5_fact 9 rfl) (fun r172 u171 pu171 fu171 => ?_)
          try dsimp only at pu171
          try simp only [lk170] at pu171
          obtain ⟨pu171_0, pu171_1, pu171_2⟩ := pu171
          have rr172 := n_rng r172
          refine r_if_eq C 52 (oDec_at oX5_fact 10 rfl) (by decide) (fun cd173 => ?_) (fun cd173 => ?_)
          · skip
            clear pu171_1
            replace pu171_2 := pu171_2 (by omega)
            refine r_iconst C (oDec_at oX5_fact 23 rfl) (v := k0) (by rw [qk0]; rfl) ?_
            have lk174 : ((u171).1 30 3).toInt = (s.1 30 3).toInt := congrArg Int32.toInt (((fu171 30 3 rfl).1).trans (((fu164 30 3 rfl).1).trans ((fu1 30 3 rfl).1)))
            have lk175 : ((u171).1 30 5).toInt = (u164.1 30 5).toInt := congrArg Int32.toInt ((fu171 30 5 rfl).1)
            exact r_zret C (n_bool (by omega)) (oDec_at oX5_fact 24 rfl) ⟨_, rfl, ⟨by omega, by first | (intro h; exfalso; omega) | exact fun _ => (oqf_sqY (by omega) (by omega) (by assumption) ⟨by omega, by omega⟩ (by omega)).castS (by omega) (by omega), by omega, by first | exact fun _ => (oqf_deepS (by omega) (by omega)).cast (by omega) (by omega) | exact fun _ => oqf_sqF (by omega) (by omega) pu171_4 | exact fun _ => (oqf_sqN (by omega) (by omega) (by assumption) ⟨by omega, by omega⟩ (by omega)).cast (by omega) (by omega) | (intro h; exfalso; omega)⟩⟩
          · skip
            replace pu171_1 := pu171_1 (by omega)
            clear pu171_2
            refine r_aload_n C (j := 0) (oDec_at oX5_fact 11 rfl) rfl rfl ?_
            have lk176 : ((u171).1 30 3).toInt = (s.1 30 3).toInt := congrArg Int32.toInt (((fu171 30 3 rfl).1).trans (((fu164 30 3 rfl).1).trans ((fu1 30 3 rfl).1)))
            have lk177 : ((u171).1 30 5).toInt = (u164.1 30 5).toInt := congrArg Int32.toInt ((fu171 30 5 rfl).1)
            have lk178 : ((u171).1 30 6).toInt = (s.1 30 6).toInt := congrArg Int32.toInt (((fu171 30 6 rfl).1).trans (((fu164 30 6 rfl).1).trans ((fu1 30 6 rfl).1)))
            have lk179 : ((u171).1 30 7).toInt = (s.1 30 7).toInt := congrArg Int32.toInt (((fu171 30 7 rfl).1).trans (((fu164 30 7 rfl).1).trans ((fu1 30 7 rfl).1)))
            have lk180 : ((u171).1 30 5).toInt = (u164.1 30 5).toInt := congrArg Int32.toInt ((fu171 30 5 rfl).1)
            refine r_callVi C oCl5 rfl miX5_test mlX5_118 (((ih (N - 1) (by omega)).2.2.2.2.2.2) (u171)  (g) (fp) (fq) (oqSk g a + 1) (b) (op + 1) (by omega) (by omega) (oqX_fr fu171 rfl (oqX_fr fu164 rfl (oqX_fr fu1 rfl hp2))) (by omega) (by omega) (by omega) (by omega)) (by omega) rfl rfl rfl (Nat.le_of_ble_eq_true rfl) (oDec_at oX5_fact 12 rfl) (fun r182 u181 pu181 fu181 => ?_)
            try dsimp only at pu181
            try simp only [lk176, lk177, lk178, lk179, lk180] at pu181
            obtain ⟨pu181_0, pu181_1, pu181_2, pu181_3, pu181_4⟩ := pu181
            have rr182 := n_rng r182
            refine r_if_eq C 52 (oDec_at oX5_fact 13 rfl) (by decide) (fun cd183 => ?_) (fun cd183 => ?_)
            · skip
              clear pu181_1
              clear pu181_2
              clear pu181_3
              replace pu181_4 := pu181_4 (by omega)
              refine r_iconst C (oDec_at oX5_fact 23 rfl) (v := k0) (by rw [qk0]; rfl) ?_
              exact r_zret C (n_bool (by omega)) (oDec_at oX5_fact 24 rfl) ⟨_, rfl, ⟨by omega, by first | (intro h; exfalso; omega) | exact fun _ => (oqf_sqY (by omega) (by omega) (by assumption) ⟨by omega, by omega⟩ (by omega)).castS (by omega) (by omega), by omega, by first | exact fun _ => (oqf_deepS (by omega) (by omega)).cast (by omega) (by omega) | exact fun _ => oqf_sqF (by omega) (by omega) pu181_4 | exact fun _ => (oqf_sqN (by omega) (by omega) (by assumption) ⟨by omega, by omega⟩ (by omega)).cast (by omega) (by omega) | (intro h; exfalso; omega)⟩⟩
            · skip
              replace pu181_1 := pu181_1 (by omega)
              replace pu181_2 := pu181_2 (by omega)
              replace pu181_3 := pu181_3 (by omega)
              clear pu181_4
              have hgX : g (oqSk g ((u181).1 30 2).toInt) = g ((u181).1 30 2).toInt := by rw [show oqSk g ((u181).1 30 2).toInt = ((u181).1 30 2).toInt by omega]
              refine r_aload_n C (j := 0) (oDec_at oX5_fact 14 rfl) rfl rfl ?_
              refine r_bipush C (oDec_at oX5_fact 15 rfl) (v := k93) (by rw [qk93]; rfl) ?_
              refine r_callVi C oCl5 rfl miX5_expectSign mlX5_88 (ct4_X5_expectSign l E (u181) k93 (g) (((u181).1 30 2).toInt) (93) (by omega) (oqX_fr fu181 rfl (oqX_fr fu171 rfl (oqX_fr fu164 rfl (oqX_fr fu1 rfl hp2)))) (by omega) (by omega)) (by omega) rfl rfl rfl (Nat.le_of_ble_eq_true rfl) (oDec_at oX5_fact 16 rfl) (fun r185 u184 pu184 fu184 => ?_)
              try dsimp only at pu184
              obtain ⟨pu184_0, pu184_1, pu184_2⟩ := pu184
              have rr185 := n_rng r185
              refine r_if_eq C 52 (oDec_at oX5_fact 17 rfl) (by decide) (fun cd186 => ?_) (fun cd186 => ?_)
              · skip
                clear pu184_1
                replace pu184_2 := pu184_2 (by omega)
                refine r_iconst C (oDec_at oX5_fact 23 rfl) (v := k0) (by rw [qk0]; rfl) ?_
                have lk187 : ((u184).1 30 3).toInt = (u181.1 30 3).toInt := congrArg Int32.toInt ((fu184 30 3 rfl).1)
                have lk188 : ((u184).1 30 5).toInt = (u181.1 30 5).toInt := congrArg Int32.toInt ((fu184 30 5 rfl).1)
                exact r_zret C (n_bool (by omega)) (oDec_at oX5_fact 24 rfl) ⟨_, rfl, ⟨by omega, by first | (intro h; exfalso; omega) | exact fun _ => (oqf_sqY (by omega) (by omega) pu181_1 ⟨by omega, by omega⟩ (by omega)).castS (by omega) (by omega), by omega, by first | exact fun _ => (oqf_deepS (by omega) (by omega)).cast (by omega) (by omega) | exact fun _ => oqf_sqF (by omega) (by omega) pu184_4 | exact fun _ => (oqf_sqN (by omega) (by omega) pu181_1 ⟨by omega, by omega⟩ (by omega)).cast (by omega) (by omega) | (intro h; exfalso; omega)⟩⟩
              · skip
                replace pu184_1 := pu184_1 (by omega)
                clear pu184_2
                refine r_aload_n C (j := 0) (oDec_at oX5_fact 18 rfl) rfl rfl ?_
                have lk189 : ((u184).1 30 5).toInt = (u181.1 30 5).toInt := congrArg Int32.toInt ((fu184 30 5 rfl).1)
                have lk190 : ((u184).1 30 5).toInt = (u181.1 30 5).toInt := congrArg Int32.toInt ((fu184 30 5 rfl).1)
                refine r_callVi C oCl5 rfl miX5_closes mlX5_157 (ct4_X5_closes l E (u184)  (by omega)) (by omega) rfl rfl rfl (Nat.le_of_ble_eq_true rfl) (oDec_at oX5_fact 19 rfl) (fun r192 u191 pu191 fu191 => ?_)
                try dsimp only at pu191
                try simp only [lk189, lk190] at pu191
                obtain ⟨pu191_0, pu191_1⟩ := pu191
                have rr192 := n_rng r192
                refine r_if_eq C 52 (oDec_at oX5_fact 20 rfl) (by decide) (fun cd193 => ?_) (fun cd193 => ?_)
                · skip
                  refine r_iconst C (oDec_at oX5_fact 23 rfl) (v := k0) (by rw [qk0]; rfl) ?_
                  have lk194 : ((u191).1 30 2).toInt = (u184.1 30 2).toInt := congrArg Int32.toInt ((fu191 30 2 rfl).1)
                  have lk195 : ((u191).1 30 3).toInt = (u181.1 30 3).toInt := congrArg Int32.toInt (((fu191 30 3 rfl).1).trans ((fu184 30 3 rfl).1))
                  have lk196 : ((u191).1 30 2).toInt = (u184.1 30 2).toInt := congrArg Int32.toInt ((fu191 30 2 rfl).1)
                  have lk197 : ((u191).1 30 8).toInt = (u184.1 30 8).toInt := congrArg Int32.toInt ((fu191 30 8 rfl).1)
                  have lk198 : ((u191).1 30 9).toInt = (u184.1 30 9).toInt := congrArg Int32.toInt ((fu191 30 9 rfl).1)
                  have lk199 : ((u191).1 30 8).toInt = (u184.1 30 8).toInt := congrArg Int32.toInt ((fu191 30 8 rfl).1)
                  have lk200 : ((u191).1 30 9).toInt = (u184.1 30 9).toInt := congrArg Int32.toInt ((fu191 30 9 rfl).1)
                  exact r_zret C (n_bool (by omega)) (oDec_at oX5_fact 24 rfl) ⟨_, rfl, ⟨by omega, by first | (intro h; exfalso; omega) | exact fun _ => (oqf_sqY (by omega) (by omega) pu181_1 ⟨by omega, by omega⟩ (by omega)).castS (by omega) (by omega), by omega, by first | exact fun _ => (oqf_deepS (by omega) (by omega)).cast (by omega) (by omega) | exact fun _ => oqf_sqF (by omega) (by omega) pu191_4 | exact fun _ => (oqf_sqN (by omega) (by omega) pu181_1 ⟨by omega, by omega⟩ (by omega)).cast (by omega) (by omega) | (intro h; exfalso; omega)⟩⟩
                · skip
                  refine r_iconst C (oDec_at oX5_fact 21 rfl) (v := k1) (by rw [qk1]; rfl) ?_
                  refine r_goto C (tgt := 53) (oDec_at oX5_fact 22 rfl) (by decide) ?_
                  have lk201 : ((u191).1 30 2).toInt = (u184.1 30 2).toInt := congrArg Int32.toInt ((fu191 30 2 rfl).1)
                  have lk202 : ((u191).1 30 3).toInt = (u181.1 30 3).toInt := congrArg Int32.toInt (((fu191 30 3 rfl).1).trans ((fu184 30 3 rfl).1))
                  have lk203 : ((u191).1 30 2).toInt = (u184.1 30 2).toInt := congrArg Int32.toInt ((fu191 30 2 rfl).1)
                  have lk204 : ((u191).1 30 8).toInt = (u184.1 30 8).toInt := congrArg Int32.toInt ((fu191 30 8 rfl).1)
                  have lk205 : ((u191).1 30 9).toInt = (u184.1 30 9).toInt := congrArg Int32.toInt ((fu191 30 9 rfl).1)
                  have lk206 : ((u191).1 30 8).toInt = (u184.1 30 8).toInt := congrArg Int32.toInt ((fu191 30 8 rfl).1)
                  have lk207 : ((u191).1 30 9).toInt = (u184.1 30 9).toInt := congrArg Int32.toInt ((fu191 30 9 rfl).1)
                  exact r_zret C (n_bool (by omega)) (oDec_at oX5_fact 24 rfl) ⟨_, rfl, ⟨by omega, by first | (intro h; exfalso; omega) | exact fun _ => (oqf_sqY (by omega) (by omega) pu181_1 ⟨by omega, by omega⟩ (by omega)).castS (by omega) (by omega), by omega, by first | exact fun _ => (oqf_deepS (by omega) (by omega)).cast (by omega) (by omega) | exact fun _ => oqf_sqF (by omega) (by omega) pu191_4 | exact fun _ => (oqf_sqN (by omega) (by omega) pu181_1 ⟨by omega, by omega⟩ (by omega)).cast (by omega) (by omega) | (intro h; exfalso; omega)⟩⟩
    have h_X5_both : ∀ (s : oS)  (g : Int → Int) (fp : Int) (fq : Int) (a : Int) (b : Int) (op : Int) (hp0 : (s.1 30 2).toInt = a) (hp1 : (s.1 30 3).toInt = b) (hp2 : oqX g s) (hp3 : (s.1 30 5).toInt = op) (hp4 : (s.1 30 6).toInt = fp ∧ (s.1 30 7).toInt = fq) (hp5 : fq ≤ 24 ∧ 0 ≤ fp) (hp6 : 6 - (s.1 30 5).toInt ≤ (N : Int)), oMet l (7 + 10 * N + 6) yX5_both cX5_both 2 (some .boolean) [(0, 1), (5, 2), (5, 3), (5, 4), (5, 5), (5, 8), (5, 9), (20, 9999)] E s [.ref (oad E 30)] (oPi (fun r u => (0 ≤ r.toInt ∧ r.toInt ≤ 1) ∧ (r.toInt = 1 → oqGn g fp fq (oqSk g a) b op (u.1 30 2).toInt (u.1 30 3).toInt) ∧ (r.toInt = 1 → oqWi g (u.1 30 2).toInt (u.1 30 3).toInt ≠ 8) ∧ (r.toInt = 1 → (oqSk g (u.1 30 2).toInt = (u.1 30 2).toInt ∧ (u.1 30 5).toInt = op ∧ a + 1 ≤ (u.1 30 2).toInt ∧ (u.1 30 8).toInt = (s.1 30 8).toInt ∧ (u.1 30 9).toInt = (s.1 30 9).toInt)) ∧ (r.toInt = 0 → oqFn g fp fq (oqSk g a) b op (u.1 30 8).toInt (u.1 30 9).toInt))) := by
      intro s g fp fq a b op hp0 hp1 hp2 hp3 hp4 hp5 hp6
      refine oMet.of (lv := [(0, .ref (oad E 30))]) (by decide +kernel) (Nat.le_of_ble_eq_true rfl) rfl (fun J C hT => ?_)
      have C : oC l (7 + 10 * N + 6) cX5_both RX5 2 (some .boolean) [(0, 1), (5, 2), (5, 3), (5, 4), (5, 5), (5, 8), (5, 9), (20, 9999)] E s (oPi (fun r u => (0 ≤ r.toInt ∧ r.toInt ≤ 1) ∧ (r.toInt = 1 → oqGn g fp fq (oqSk g a) b op (u.1 30 2).toInt (u.1 30 3).toInt) ∧ (r.toInt = 1 → oqWi g (u.1 30 2).toInt (u.1 30 3).toInt ≠ 8) ∧ (r.toInt = 1 → (oqSk g (u.1 30 2).toInt = (u.1 30 2).toInt ∧ (u.1 30 5).toInt = op ∧ a + 1 ≤ (u.1 30 2).toInt ∧ (u.1 30 8).toInt = (s.1 30 8).toInt ∧ (u.1 30 9).toInt = (s.1 30 9).toInt)) ∧ (r.toInt = 0 → oqFn g fp fq (oqSk g a) b op (u.1 30 8).toInt (u.1 30 9).toInt))) J := C
      obtain ⟨k0, qk0⟩ : ∃ z : Int32, z = 0 := ⟨_, rfl⟩
      have ek0 : k0.toInt = 0 := by rw [qk0]; rfl
      obtain ⟨k1, qk1⟩ : ∃ z : Int32, z = 1 := ⟨_, rfl⟩
      have ek1 : k1.toInt = 1 := by rw [qk1]; rfl
      obtain ⟨k8, qk8⟩ : ∃ z : Int32, z = 8 := ⟨_, rfl⟩
      have ek8 : k8.toInt = 8 := by rw [qk8]; rfl
      obtain ⟨k1600, qk1600⟩ : ∃ z : Int32, z = 1600 := ⟨_, rfl⟩
      have ek1600 : k1600.toInt = 1600 := by rw [qk1600]; rfl
      obtain ⟨k10022, qk10022⟩ : ∃ z : Int32, z = 10022 := ⟨_, rfl⟩
      have ek10022 : k10022.toInt = 10022 := by rw [qk10022]; rfl
      have key : ∀ n : Nat, (∀ (t : oS) (x1 : Int32), (oqX g t) → (0 ≤ x1.toInt ∧ 2 * x1.toInt ≤ (t.1 30 2).toInt) → ((t.1 30 5).toInt = op) → (oqGn g fp fq (oqSk g a) b op (oqSk g (t.1 30 2).toInt) (t.1 30 3).toInt) → (a + 1 ≤ (t.1 30 2).toInt) → ((t.1 30 8).toInt = (s.1 30 8).toInt ∧ (t.1 30 9).toInt = (s.1 30 9).toInt) → ((t.1 30 6).toInt = fp ∧ (t.1 30 7).toInt = fq) → 1601 - x1.toInt ≤ (n : Int) → J t 11 [(0, .ref (oad E 30)), (1, .int x1)] []) := by
        intro n
        induction n using Nat.strongRecOn with
        | _ n ih =>
          skip
          · intro t x1  iv0 iv1 iv2 iv3 iv4 iv5 iv6 hmu
            have rx1 := n_rng x1
            refine r_iload_n C (j := 1) (oDec_at oX5_both 7 rfl) rfl rfl ?_
            refine r_sipush C (oDec_at oX5_both 8 rfl) (v := k1600) (by rw [qk1600]; rfl) ?_
            refine r_icmp_ge C 52 (oDec_at oX5_both 9 rfl) (by decide) (fun cd1 => ?_) (fun cd1 => ?_)
            · skip
              try (have hat9 : ((t).1 30 2).toInt = oqSk g (t.1 30 2).toInt := by omega)
              try (have hgl9 : ((t).1 30 3).toInt = (t.1 30 3).toInt := by omega)
              refine r_ty C (fun hty => ?_)
              have hta : (0 : Int) ≤ ((t).1 30 2).toInt ∧ ((t).1 30 2).toInt ≤ 1600 := hty.1 30 2
              clear hty
              refine r_iconst C (oDec_at oX5_both 25 rfl) (v := k1) (by rw [qk1]; rfl) ?_
              exact r_zret C (n_bool (by omega)) (oDec_at oX5_both 26 rfl) ⟨_, rfl, ⟨by omega, by first | (exfalso; omega) | exact fun _ => iv3.cast (by omega) (by omega), by first | (exfalso; omega) | (intro _; rw [hat9, hgl9, hws]; omega), by first | (exfalso; omega) | (intro _; refine ⟨by rw [hat9]; exact hst, by omega, by omega, by omega, by omega⟩), fun h => by exfalso; omega⟩⟩
            · skip
              refine r_aload_n C (j := 0) (oDec_at oX5_both 10 rfl) rfl rfl ?_
              refine r_bipush C (oDec_at oX5_both 11 rfl) (v := k8) (by rw [qk8]; rfl) ?_
              refine r_callVi C oCl5 rfl miX5_accept mlX5_66 (ct4_X5_accept l E (t) k8 (g) ((t.1 30 2).toInt) ((t.1 30 3).toInt) (8) (by omega) (by omega) iv0 (by omega) (by omega)) (by omega) rfl rfl rfl (Nat.le_of_ble_eq_true rfl) (oDec_at oX5_both 12 rfl) (fun r3 u2 pu2 fu2 => ?_)
              try dsimp only at pu2
              obtain ⟨pu2_0, pu2_1, pu2_2, pu2_3⟩ := pu2
              have rr3 := n_rng r3
              have hst := oqSk_sk (g := g) (a := (t.1 30 2).toInt) ⟨by omega, by omega⟩
              have hge := oqSk_ge g (t.1 30 2).toInt
              have hH8 := oqWi_is (g := g) (a := (t.1 30 2).toInt) (b := (t.1 30 3).toInt) (i := 8) (by decide)
              have hws := oqWi_sk (b := (t.1 30 3).toInt) hst
              have hHs := oqHa_sk (i := 8) hst
              have hHa : oqHa g (t.1 30 2).toInt 8 = oqSk g (t.1 30 2).toInt + (oqWl 8 : Int) := rfl
              have hl8 : oqWl 8 = 3 := rfl
              refine r_if_eq C 52 (oDec_at oX5_both 13 rfl) (by decide) (fun cd4 => ?_) (fun cd4 => ?_)
              · skip
                clear pu2_1
                replace pu2_2 := pu2_2 (by omega)
                try (have hat9 : ((u2).1 30 2).toInt = oqSk g (t.1 30 2).toInt := by omega)
                try (have hgl9 : ((u2).1 30 3).toInt = (t.1 30 3).toInt := by omega)
                refine r_ty C (fun hty => ?_)
                have hta : (0 : Int) ≤ ((u2).1 30 2).toInt ∧ ((u2).1 30 2).toInt ≤ 1600 := hty.1 30 2
                clear hty
                refine r_iconst C (oDec_at oX5_both 25 rfl) (v := k1) (by rw [qk1]; rfl) ?_
                have lk5 : ((u2).1 30 5).toInt = (t.1 30 5).toInt := congrArg Int32.toInt ((fu2 30 5 rfl).1)
                have lk6 : ((u2).1 30 8).toInt = (t.1 30 8).toInt := congrArg Int32.toInt ((fu2 30 8 rfl).1)
                have lk7 : ((u2).1 30 9).toInt = (t.1 30 9).toInt := congrArg Int32.toInt ((fu2 30 9 rfl).1)
                have lk8 : ((u2).1 30 8).toInt = (t.1 30 8).toInt := congrArg Int32.toInt ((fu2 30 8 rfl).1)
                have lk9 : ((u2).1 30 9).toInt = (t.1 30 9).toInt := congrArg Int32.toInt ((fu2 30 9 rfl).1)
                exact r_zret C (n_bool (by omega)) (oDec_at oX5_both 26 rfl) ⟨_, rfl, ⟨by omega, by first | (exfalso; omega) | exact fun _ => iv3.cast (by omega) (by omega), by first | (exfalso; omega) | (intro _; rw [hat9, hgl9, hws]; omega), by first | (exfalso; omega) | (intro _; refine ⟨by rw [hat9]; exact hst, by omega, by omega, by omega, by omega⟩), fun h => by exfalso; omega⟩⟩
              · skip
                replace pu2_1 := pu2_1 (by omega)
                clear pu2_2
                refine r_aload_n C (j := 0) (oDec_at oX5_both 14 rfl) rfl rfl ?_
                have lk10 : ((u2).1 30 5).toInt = (t.1 30 5).toInt := congrArg Int32.toInt ((fu2 30 5 rfl).1)
                have lk11 : ((u2).1 30 6).toInt = (t.1 30 6).toInt := congrArg Int32.toInt ((fu2 30 6 rfl).1)
                have lk12 : ((u2).1 30 7).toInt = (t.1 30 7).toInt := congrArg Int32.toInt ((fu2 30 7 rfl).1)
                have lk13 : ((u2).1 30 5).toInt = (t.1 30 5).toInt := congrArg Int32.toInt ((fu2 30 5 rfl).1)
                have lk14 : ((u2).1 30 8).toInt = (t.1 30 8).toInt := congrArg Int32.toInt ((fu2 30 8 rfl).1)
                have lk15 : ((u2).1 30 9).toInt = (t.1 30 9).toInt := congrArg Int32.toInt ((fu2 30 9 rfl).1)
                refine r_callVi C oCl5 rfl miX5_fact mlX5_151 (h_X5_fact (u2)  (g) (fp) (fq) (oqHa g (t.1 30 2).toInt 8) (oqHa g (t.1 30 2).toInt 8) (op) (by omega) (by omega) (oqX_fr fu2 rfl iv0) (by omega) (by omega) (by omega) (by omega)) (by omega) rfl rfl rfl (Nat.le_of_ble_eq_true rfl) (oDec_at oX5_both 15 rfl) (fun r17 u16 pu16 fu16 => ?_)
                try dsimp only at pu16
                try simp only [lk10, lk11, lk12, lk13, lk14, lk15] at pu16
                obtain ⟨pu16_0, pu16_1, pu16_2, pu16_3⟩ := pu16
                have rr17 := n_rng r17
                refine r_if_ne C 36 (oDec_at oX5_both 16 rfl) (by decide) (fun cd18 => ?_) (fun cd18 => ?_)
                · skip
                  replace pu16_1 := pu16_1 (by omega)
                  replace pu16_2 := pu16_2 (by omega)
                  clear pu16_3
                  refine r_aload_n C (j := 0) (oDec_at oX5_both 19 rfl) rfl rfl ?_
                  refine r_getS (k := 1) (q2 := 0) C oCl5 rfl (by decide) flX5_19 rfl rfl rfl ks1 (oDec_at oX5_both 20 rfl) (fun b19 rb19 mb19 hkb19 => ?_)
                  refine r_sipush C (oDec_at oX5_both 21 rfl) (v := k10022) (by rw [qk10022]; rfl) ?_
                  refine r_callVv C oCl0 hkb19 miX0_emit mlX5_147 (ct_X0_emit l E (u16) b19 hkb19 k10022 ) (by omega) rfl rfl rfl (Nat.le_of_ble_eq_true rfl) (oDec_at oX5_both 22 rfl) (fun u20 pu20 fu20 => ?_)
                  try dsimp only at pu20
                  obtain ⟨v22, ev22⟩ : ∃ z : Int32, x1 + Int32.ofInt 1 = z := ⟨_, rfl⟩
                  have hv22 : v22.toInt = x1.toInt + 1 := n_inc ev22 (by decide) (by omega) (by omega)
                  refine r_iinc C (j := 1) (lv' := [(0, .ref (oad E 30)), (1, .int v22)]) v22 [1, 0] (oDec_at oX5_both 23 rfl) rfl ev22 (by decide) rfl ?_
                  refine r_goto C (tgt := 11) (oDec_at oX5_both 24 rfl) (by decide) ?_
                  have lk23 : ((u20).1 30 2).toInt = (u16.1 30 2).toInt := congrArg Int32.toInt ((fu20 30 2 rfl).1)
                  have lk24 : ((u20).1 30 5).toInt = (u16.1 30 5).toInt := congrArg Int32.toInt ((fu20 30 5 rfl).1)
                  have lk25 : ((u20).1 30 2).toInt = (u16.1 30 2).toInt := congrArg Int32.toInt ((fu20 30 2 rfl).1)
                  have lk26 : ((u20).1 30 3).toInt = (u16.1 30 3).toInt := congrArg Int32.toInt ((fu20 30 3 rfl).1)
                  have lk27 : ((u20).1 30 2).toInt = (u16.1 30 2).toInt := congrArg Int32.toInt ((fu20 30 2 rfl).1)
                  have lk28 : ((u20).1 30 8).toInt = (u16.1 30 8).toInt := congrArg Int32.toInt ((fu20 30 8 rfl).1)
                  have lk29 : ((u20).1 30 9).toInt = (u16.1 30 9).toInt := congrArg Int32.toInt ((fu20 30 9 rfl).1)
                  have lk30 : ((u20).1 30 6).toInt = (t.1 30 6).toInt := congrArg Int32.toInt (((fu20 30 6 rfl).1).trans (((fu16 30 6 rfl).1).trans ((fu2 30 6 rfl).1)))
                  have lk31 : ((u20).1 30 7).toInt = (t.1 30 7).toInt := congrArg Int32.toInt (((fu20 30 7 rfl).1).trans (((fu16 30 7 rfl).1).trans ((fu2 30 7 rfl).1)))
                  exact (ih (n - 1) (by omega)) (u20) v22  (oqX_fr fu20 rfl (oqX_fr fu16 rfl (oqX_fr fu2 rfl iv0))) (by omega) (by omega) (by first | exact (oqb_and iv3 (by omega) (by rw [hHs]; exact oqb_1 pu16_1)).castS (by omega) (by omega) | exact (oqb_1 (by assumption)).castS (by omega) (by omega)) (by omega) (by omega) (by omega) (by omega)
                · skip
                  clear pu16_1
                  clear pu16_2
                  replace pu16_3 := pu16_3 (by omega)
                  refine r_iconst C (oDec_at oX5_both 17 rfl) (v := k0) (by rw [qk0]; rfl) ?_
                  exact r_zret C (n_bool (by omega)) (oDec_at oX5_both 18 rfl) ⟨_, rfl, ⟨by omega, fun h => by exfalso; omega, fun h => by exfalso; omega, by omega, fun _ => oqb_andF iv3 (by omega) (by rw [hHs]; exact oqb_1F pu16_3)⟩⟩
      refine r_aload_n C (j := 0) (oDec_at oX5_both 0 rfl) rfl rfl ?_
      refine r_callVi C oCl5 rfl miX5_fact mlX5_151 (h_X5_fact (s)  (g) (fp) (fq) (a) (b) (op) (by omega) (by omega) hp2 (by omega) (by omega) (by omega) (by omega)) (by omega) rfl rfl rfl (Nat.le_of_ble_eq_true rfl) (oDec_at oX5_both 1 rfl) (fun r33 u32 pu32 fu32 => ?_)
      try dsimp only at pu32
      obtain ⟨pu32_0, pu32_1, pu32_2, pu32_3⟩ := pu32
      have rr33 := n_rng r33
      refine r_if_ne C 9 (oDec_at oX5_both 2 rfl) (by decide) (fun cd34 => ?_) (fun cd34 => ?_)
      · skip
        replace pu32_1 := pu32_1 (by omega)
        replace pu32_2 := pu32_2 (by omega)
        clear pu32_3
        refine r_ty C (fun hty => ?_)
        have hta : (0 : Int) ≤ ((u32).1 30 2).toInt ∧ ((u32).1 30 2).toInt ≤ 1600 := hty.1 30 2
        clear hty
        refine r_iconst C (oDec_at oX5_both 5 rfl) (v := k0) (by rw [qk0]; rfl) ?_
        refine r_istore_n C (lv' := [(0, .ref (oad E 30)), (1, .int k0)]) [1, 0] (oDec_at oX5_both 6 rfl) rfl (by decide) rfl ?_
        have lk35 : ((u32).1 30 6).toInt = (s.1 30 6).toInt := congrArg Int32.toInt ((fu32 30 6 rfl).1)
        have lk36 : ((u32).1 30 7).toInt = (s.1 30 7).toInt := congrArg Int32.toInt ((fu32 30 7 rfl).1)
        exact (key (1601 - k0.toInt).toNat) (u32) k0  (oqX_fr fu32 rfl hp2) (by omega) (by omega) (by first | exact (oqb_1 pu32_1).castS (by omega) (by omega)) (by omega) (by omega) (by omega) (by omega)
      · skip
        clear pu32_1
        clear pu32_2
        replace pu32_3 := pu32_3 (by omega)
        refine r_iconst C (oDec_at oX5_both 3 rfl) (v := k0) (by rw [qk0]; rfl) ?_
        exact r_zret C (n_bool (by omega)) (oDec_at oX5_both 4 rfl) ⟨_, rfl, ⟨by omega, fun h => by exfalso; omega, fun h => by exfalso; omega, by omega, fun _ => oqb_1F pu32_3⟩⟩
    have h_X5_test : ∀ (s : oS)  (g : Int → Int) (fp : Int) (fq : Int) (a : Int) (b : Int) (op : Int) (hp0 : (s.1 30 2).toInt = a) (hp1 : (s.1 30 3).toInt = b) (hp2 : oqX g s) (hp3 : (s.1 30 5).toInt = op) (hp4 : (s.1 30 6).toInt = fp ∧ (s.1 30 7).toInt = fq) (hp5 : fq ≤ 24 ∧ 0 ≤ fp) (hp6 : 6 - (s.1 30 5).toInt ≤ (N : Int)), oMet l (7 + 10 * N + 7) yX5_test cX5_test 2 (some .boolean) [(0, 1), (5, 2), (5, 3), (5, 4), (5, 5), (5, 8), (5, 9), (20, 9999)] E s [.ref (oad E 30)] (oPi (fun r u => (0 ≤ r.toInt ∧ r.toInt ≤ 1) ∧ (r.toInt = 1 → oqGn g fp fq (oqSk g a) b op (u.1 30 2).toInt (u.1 30 3).toInt) ∧ (r.toInt = 1 → (oqWi g (u.1 30 2).toInt (u.1 30 3).toInt ≠ 7 ∧ oqWi g (u.1 30 2).toInt (u.1 30 3).toInt ≠ 8)) ∧ (r.toInt = 1 → (oqSk g (u.1 30 2).toInt = (u.1 30 2).toInt ∧ (u.1 30 5).toInt = op ∧ a + 1 ≤ (u.1 30 2).toInt ∧ (u.1 30 8).toInt = (s.1 30 8).toInt ∧ (u.1 30 9).toInt = (s.1 30 9).toInt)) ∧ (r.toInt = 0 → oqFn g fp fq (oqSk g a) b op (u.1 30 8).toInt (u.1 30 9).toInt))) := by
      intro s g fp fq a b op hp0 hp1 hp2 hp3 hp4 hp5 hp6
      refine oMet.of (lv := [(0, .ref (oad E 30))]) (by decide +kernel) (Nat.le_of_ble_eq_true rfl) rfl (fun J C hT => ?_)
      have C : oC l (7 + 10 * N + 7) cX5_test RX5 2 (some .boolean) [(0, 1), (5, 2), (5, 3), (5, 4), (5, 5), (5, 8), (5, 9), (20, 9999)] E s (oPi (fun r u => (0 ≤ r.toInt ∧ r.toInt ≤ 1) ∧ (r.toInt = 1 → oqGn g fp fq (oqSk g a) b op (u.1 30 2).toInt (u.1 30 3).toInt) ∧ (r.toInt = 1 → (oqWi g (u.1 30 2).toInt (u.1 30 3).toInt ≠ 7 ∧ oqWi g (u.1 30 2).toInt (u.1 30 3).toInt ≠ 8)) ∧ (r.toInt = 1 → (oqSk g (u.1 30 2).toInt = (u.1 30 2).toInt ∧ (u.1 30 5).toInt = op ∧ a + 1 ≤ (u.1 30 2).toInt ∧ (u.1 30 8).toInt = (s.1 30 8).toInt ∧ (u.1 30 9).toInt = (s.1 30 9).toInt)) ∧ (r.toInt = 0 → oqFn g fp fq (oqSk g a) b op (u.1 30 8).toInt (u.1 30 9).toInt))) J := C
      obtain ⟨k0, qk0⟩ : ∃ z : Int32, z = 0 := ⟨_, rfl⟩
      have ek0 : k0.toInt = 0 := by rw [qk0]; rfl
      obtain ⟨k1, qk1⟩ : ∃ z : Int32, z = 1 := ⟨_, rfl⟩
      have ek1 : k1.toInt = 1 := by rw [qk1]; rfl
      obtain ⟨k7, qk7⟩ : ∃ z : Int32, z = 7 := ⟨_, rfl⟩
      have ek7 : k7.toInt = 7 := by rw [qk7]; rfl
      obtain ⟨k1600, qk1600⟩ : ∃ z : Int32, z = 1600 := ⟨_, rfl⟩
      have ek1600 : k1600.toInt = 1600 := by rw [qk1600]; rfl
      obtain ⟨k10021, qk10021⟩ : ∃ z : Int32, z = 10021 := ⟨_, rfl⟩
      have ek10021 : k10021.toInt = 10021 := by rw [qk10021]; rfl
      have key : ∀ n : Nat, (∀ (t : oS) (x1 : Int32), (oqX g t) → (0 ≤ x1.toInt ∧ 2 * x1.toInt ≤ (t.1 30 2).toInt) → ((t.1 30 5).toInt = op) → (oqGn g fp fq (oqSk g a) b op (t.1 30 2).toInt (t.1 30 3).toInt) → (a + 1 ≤ (t.1 30 2).toInt) → ((t.1 30 8).toInt = (s.1 30 8).toInt ∧ (t.1 30 9).toInt = (s.1 30 9).toInt) → ((t.1 30 6).toInt = fp ∧ (t.1 30 7).toInt = fq) → (oqWi g (t.1 30 2).toInt (t.1 30 3).toInt ≠ 8 ∧ oqSk g (t.1 30 2).toInt = (t.1 30 2).toInt) → 1601 - x1.toInt ≤ (n : Int) → J t 11 [(0, .ref (oad E 30)), (1, .int x1)] []) := by
        intro n
        induction n using Nat.strongRecOn with
        | _ n ih =>
          skip
          · intro t x1  iv0 iv1 iv2 iv3 iv4 iv5 iv6 iv7 hmu
            have rx1 := n_rng x1
            refine r_iload_n C (j := 1) (oDec_at oX5_test 7 rfl) rfl rfl ?_
            refine r_sipush C (oDec_at oX5_test 8 rfl) (v := k1600) (by rw [qk1600]; rfl) ?_
            refine r_icmp_ge C 52 (oDec_at oX5_test 9 rfl) (by decide) (fun cd1 => ?_) (fun cd1 => ?_)
            · skip
              try (have hat9 : ((t).1 30 2).toInt = (t.1 30 2).toInt := by omega)
              try (have hgl9 : ((t).1 30 3).toInt = (t.1 30 3).toInt := by omega)
              refine r_ty C (fun hty => ?_)
              have hta : (0 : Int) ≤ ((t).1 30 2).toInt ∧ ((t).1 30 2).toInt ≤ 1600 := hty.1 30 2
              clear hty
              refine r_iconst C (oDec_at oX5_test 25 rfl) (v := k1) (by rw [qk1]; rfl) ?_
              exact r_zret C (n_bool (by omega)) (oDec_at oX5_test 26 rfl) ⟨_, rfl, ⟨by omega, by first | (exfalso; omega) | exact fun _ => iv3.cast (by omega) (by omega), by first | (exfalso; omega) | (intro _; rw [hat9, hgl9]; omega), by first | (exfalso; omega) | (intro _; refine ⟨by rw [hat9]; exact iv7.2, by omega, by omega, by omega, by omega⟩), fun h => by exfalso; omega⟩⟩
            · skip
              refine r_aload_n C (j := 0) (oDec_at oX5_test 10 rfl) rfl rfl ?_
              refine r_bipush C (oDec_at oX5_test 11 rfl) (v := k7) (by rw [qk7]; rfl) ?_
              refine r_callVi C oCl5 rfl miX5_accept mlX5_66 (ct4_X5_accept l E (t) k7 (g) ((t.1 30 2).toInt) ((t.1 30 3).toInt) (7) (by omega) (by omega) iv0 (by omega) (by omega)) (by omega) rfl rfl rfl (Nat.le_of_ble_eq_true rfl) (oDec_at oX5_test 12 rfl) (fun r3 u2 pu2 fu2 => ?_)
              try dsimp only at pu2
              obtain ⟨pu2_0, pu2_1, pu2_2, pu2_3⟩ := pu2
              have rr3 := n_rng r3
              have hge := oqSk_ge g (t.1 30 2).toInt
              have hH7 := oqWi_is (g := g) (a := (t.1 30 2).toInt) (b := (t.1 30 3).toInt) (i := 7) (by decide)
              have hHa : oqHa g (t.1 30 2).toInt 7 = oqSk g (t.1 30 2).toInt + (oqWl 7 : Int) := rfl
              have hl8 : oqWl 7 = 2 := rfl
              refine r_if_eq C 52 (oDec_at oX5_test 13 rfl) (by decide) (fun cd4 => ?_) (fun cd4 => ?_)
              · skip
                clear pu2_1
                replace pu2_2 := pu2_2 (by omega)
                try (have hat9 : ((u2).1 30 2).toInt = (t.1 30 2).toInt := by omega)
                try (have hgl9 : ((u2).1 30 3).toInt = (t.1 30 3).toInt := by omega)
                refine r_ty C (fun hty => ?_)
                have hta : (0 : Int) ≤ ((u2).1 30 2).toInt ∧ ((u2).1 30 2).toInt ≤ 1600 := hty.1 30 2
                clear hty
                refine r_iconst C (oDec_at oX5_test 25 rfl) (v := k1) (by rw [qk1]; rfl) ?_
                have lk5 : ((u2).1 30 5).toInt = (t.1 30 5).toInt := congrArg Int32.toInt ((fu2 30 5 rfl).1)
                have lk6 : ((u2).1 30 8).toInt = (t.1 30 8).toInt := congrArg Int32.toInt ((fu2 30 8 rfl).1)
                have lk7 : ((u2).1 30 9).toInt = (t.1 30 9).toInt := congrArg Int32.toInt ((fu2 30 9 rfl).1)
                have lk8 : ((u2).1 30 8).toInt = (t.1 30 8).toInt := congrArg Int32.toInt ((fu2 30 8 rfl).1)
                have lk9 : ((u2).1 30 9).toInt = (t.1 30 9).toInt := congrArg Int32.toInt ((fu2 30 9 rfl).1)
                exact r_zret C (n_bool (by omega)) (oDec_at oX5_test 26 rfl) ⟨_, rfl, ⟨by omega, by first | (exfalso; omega) | exact fun _ => iv3.cast (by omega) (by omega), by first | (exfalso; omega) | (intro _; rw [hat9, hgl9]; omega), by first | (exfalso; omega) | (intro _; refine ⟨by rw [hat9]; exact iv7.2, by omega, by omega, by omega, by omega⟩), fun h => by exfalso; omega⟩⟩
              · skip
                replace pu2_1 := pu2_1 (by omega)
                clear pu2_2
                refine r_aload_n C (j := 0) (oDec_at oX5_test 14 rfl) rfl rfl ?_
                have lk10 : ((u2).1 30 5).toInt = (t.1 30 5).toInt := congrArg Int32.toInt ((fu2 30 5 rfl).1)
                have lk11 : ((u2).1 30 6).toInt = (t.1 30 6).toInt := congrArg Int32.toInt ((fu2 30 6 rfl).1)
                have lk12 : ((u2).1 30 7).toInt = (t.1 30 7).toInt := congrArg Int32.toInt ((fu2 30 7 rfl).1)
                have lk13 : ((u2).1 30 5).toInt = (t.1 30 5).toInt := congrArg Int32.toInt ((fu2 30 5 rfl).1)
                have lk14 : ((u2).1 30 8).toInt = (t.1 30 8).toInt := congrArg Int32.toInt ((fu2 30 8 rfl).1)
                have lk15 : ((u2).1 30 9).toInt = (t.1 30 9).toInt := congrArg Int32.toInt ((fu2 30 9 rfl).1)
                refine r_callVi C oCl5 rfl miX5_both mlX5_144 (h_X5_both (u2)  (g) (fp) (fq) (oqHa g (t.1 30 2).toInt 7) (oqHa g (t.1 30 2).toInt 7) (op) (by omega) (by omega) (oqX_fr fu2 rfl iv0) (by omega) (by omega) (by omega) (by omega)) (by omega) rfl rfl rfl (Nat.le_of_ble_eq_true rfl) (oDec_at oX5_test 15 rfl) (fun r17 u16 pu16 fu16 => ?_)
                try dsimp only at pu16
                try simp only [lk10, lk11, lk12, lk13, lk14, lk15] at pu16
                obtain ⟨pu16_0, pu16_1, pu16_2, pu16_3, pu16_4⟩ := pu16
                have rr17 := n_rng r17
                refine r_if_ne C 36 (oDec_at oX5_test 16 rfl) (by decide) (fun cd18 => ?_) (fun cd18 => ?_)
                · skip
                  replace pu16_1 := pu16_1 (by omega)
                  replace pu16_2 := pu16_2 (by omega)
                  replace pu16_3 := pu16_3 (by omega)
                  clear pu16_4
                  refine r_aload_n C (j := 0) (oDec_at oX5_test 19 rfl) rfl rfl ?_
                  refine r_getS (k := 1) (q2 := 0) C oCl5 rfl (by decide) flX5_19 rfl rfl rfl ks1 (oDec_at oX5_test 20 rfl) (fun b19 rb19 mb19 hkb19 => ?_)
                  refine r_sipush C (oDec_at oX5_test 21 rfl) (v := k10021) (by rw [qk10021]; rfl) ?_
                  refine r_callVv C oCl0 hkb19 miX0_emit mlX5_147 (ct_X0_emit l E (u16) b19 hkb19 k10021 ) (by omega) rfl rfl rfl (Nat.le_of_ble_eq_true rfl) (oDec_at oX5_test 22 rfl) (fun u20 pu20 fu20 => ?_)
                  try dsimp only at pu20
                  obtain ⟨v22, ev22⟩ : ∃ z : Int32, x1 + Int32.ofInt 1 = z := ⟨_, rfl⟩
                  have hv22 : v22.toInt = x1.toInt + 1 := n_inc ev22 (by decide) (by omega) (by omega)
                  refine r_iinc C (j := 1) (lv' := [(0, .ref (oad E 30)), (1, .int v22)]) v22 [1, 0] (oDec_at oX5_test 23 rfl) rfl ev22 (by decide) rfl ?_
                  refine r_goto C (tgt := 11) (oDec_at oX5_test 24 rfl) (by decide) ?_
                  have lk23 : ((u20).1 30 2).toInt = (u16.1 30 2).toInt := congrArg Int32.toInt ((fu20 30 2 rfl).1)
                  have lk24 : ((u20).1 30 5).toInt = (u16.1 30 5).toInt := congrArg Int32.toInt ((fu20 30 5 rfl).1)
                  have lk25 : ((u20).1 30 2).toInt = (u16.1 30 2).toInt := congrArg Int32.toInt ((fu20 30 2 rfl).1)
                  have lk26 : ((u20).1 30 3).toInt = (u16.1 30 3).toInt := congrArg Int32.toInt ((fu20 30 3 rfl).1)
                  have lk27 : ((u20).1 30 2).toInt = (u16.1 30 2).toInt := congrArg Int32.toInt ((fu20 30 2 rfl).1)
                  have lk28 : ((u20).1 30 8).toInt = (u16.1 30 8).toInt := congrArg Int32.toInt ((fu20 30 8 rfl).1)
                  have lk29 : ((u20).1 30 9).toInt = (u16.1 30 9).toInt := congrArg Int32.toInt ((fu20 30 9 rfl).1)
                  have lk30 : ((u20).1 30 6).toInt = (t.1 30 6).toInt := congrArg Int32.toInt (((fu20 30 6 rfl).1).trans (((fu16 30 6 rfl).1).trans ((fu2 30 6 rfl).1)))
                  have lk31 : ((u20).1 30 7).toInt = (t.1 30 7).toInt := congrArg Int32.toInt (((fu20 30 7 rfl).1).trans (((fu16 30 7 rfl).1).trans ((fu2 30 7 rfl).1)))
                  have lk32 : ((u20).1 30 2).toInt = (u16.1 30 2).toInt := congrArg Int32.toInt ((fu20 30 2 rfl).1)
                  have lk33 : ((u20).1 30 3).toInt = (u16.1 30 3).toInt := congrArg Int32.toInt ((fu20 30 3 rfl).1)
                  exact (ih (n - 1) (by omega)) (u20) v22  (oqX_fr fu20 rfl (oqX_fr fu16 rfl (oqX_fr fu2 rfl iv0))) (by omega) (by omega) (by first | exact (oqb_or iv3 (by omega) pu16_1).cast (by omega) (by omega) | exact ((by assumption)).cast (by omega) (by omega)) (by omega) (by omega) (by omega) (by first | omega | (have hat9 : ((u20).1 30 2).toInt = ((u16).1 30 2).toInt := (by omega); have hag9 : ((u20).1 30 3).toInt = ((u16).1 30 3).toInt := (by omega); rw [hat9, hag9]; omega)) (by omega)
                · skip
                  clear pu16_1
                  clear pu16_2
                  clear pu16_3
                  replace pu16_4 := pu16_4 (by omega)
                  refine r_iconst C (oDec_at oX5_test 17 rfl) (v := k0) (by rw [qk0]; rfl) ?_
                  exact r_zret C (n_bool (by omega)) (oDec_at oX5_test 18 rfl) ⟨_, rfl, ⟨by omega, fun h => by exfalso; omega, fun h => by exfalso; omega, by omega, fun _ => oqb_orF iv3 (by omega) pu16_4⟩⟩
      refine r_aload_n C (j := 0) (oDec_at oX5_test 0 rfl) rfl rfl ?_
      refine r_callVi C oCl5 rfl miX5_both mlX5_144 (h_X5_both (s)  (g) (fp) (fq) (a) (b) (op) (by omega) (by omega) hp2 (by omega) (by omega) (by omega) (by omega)) (by omega) rfl rfl rfl (Nat.le_of_ble_eq_true rfl) (oDec_at oX5_test 1 rfl) (fun r35 u34 pu34 fu34 => ?_)
      try dsimp only at pu34
      obtain ⟨pu34_0, pu34_1, pu34_2, pu34_3, pu34_4⟩ := pu34
      have rr35 := n_rng r35
      refine r_if_ne C 9 (oDec_at oX5_test 2 rfl) (by decide) (fun cd36 => ?_) (fun cd36 => ?_)
      · skip
        replace pu34_1 := pu34_1 (by omega)
        replace pu34_2 := pu34_2 (by omega)
        replace pu34_3 := pu34_3 (by omega)
        clear pu34_4
        refine r_ty C (fun hty => ?_)
        have hta : (0 : Int) ≤ ((u34).1 30 2).toInt ∧ ((u34).1 30 2).toInt ≤ 1600 := hty.1 30 2
        clear hty
        refine r_iconst C (oDec_at oX5_test 5 rfl) (v := k0) (by rw [qk0]; rfl) ?_
        refine r_istore_n C (lv' := [(0, .ref (oad E 30)), (1, .int k0)]) [1, 0] (oDec_at oX5_test 6 rfl) rfl (by decide) rfl ?_
        have lk37 : ((u34).1 30 6).toInt = (s.1 30 6).toInt := congrArg Int32.toInt ((fu34 30 6 rfl).1)
        have lk38 : ((u34).1 30 7).toInt = (s.1 30 7).toInt := congrArg Int32.toInt ((fu34 30 7 rfl).1)
        exact (key (1601 - k0.toInt).toNat) (u34) k0  (oqX_fr fu34 rfl hp2) (by omega) (by omega) (by first | exact (pu34_1).cast (by omega) (by omega)) (by omega) (by omega) (by omega) (by first | omega | (have hat9 : ((u34).1 30 2).toInt = ((u34).1 30 2).toInt := (by omega); have hag9 : ((u34).1 30 3).toInt = ((u34).1 30 3).toInt := (by omega); rw [hat9, hag9]; omega)) (by omega)
      · skip
        clear pu34_1
        clear pu34_2
        clear pu34_3
        replace pu34_4 := pu34_4 (by omega)
        refine r_iconst C (oDec_at oX5_test 3 rfl) (v := k0) (by rw [qk0]; rfl) ?_
        exact r_zret C (n_bool (by omega)) (oDec_at oX5_test 4 rfl) ⟨_, rfl, ⟨by omega, fun h => by exfalso; omega, fun h => by exfalso; omega, by omega, fun _ => pu34_4⟩⟩
    exact ⟨h_X5_choice, h_X5_part, h_X5_product, h_X5_sum, h_X5_fact, h_X5_both, h_X5_test⟩
theorem ct4_X5_choice (l : Launch) (E : oE) : ∀ (s : oS) (a1 : Int32) (g : Int → Int) (fp : Int) (fq : Int) (a : Int) (b : Int) (op : Int) (hp0 : (s.1 30 2).toInt = a) (hp1 : (s.1 30 3).toInt = b) (hp2 : oqX g s) (hp3 : (s.1 30 5).toInt = op) (hp4 : (s.1 30 6).toInt = fp ∧ (s.1 30 7).toInt = fq) (hp5 : fq ≤ 24 ∧ 0 ≤ fp) (hp6 : 6 - (s.1 30 5).toInt ≤ 6), oMet l 68 yX5_choice cX5_choice 2 (some .boolean) [(0, 1), (5, 2), (5, 3), (5, 4), (5, 5), (5, 8), (5, 9), (20, 9999)] E s [.ref (oad E 30), .int a1] (oPi (fun r u => (0 ≤ r.toInt ∧ r.toInt ≤ 1) ∧ (r.toInt = 1 → oqCy g fp fq a b op (oqSk g (u.1 30 2).toInt) (u.1 30 3).toInt) ∧ (r.toInt = 1 → ((u.1 30 5).toInt = op ∧ a + 1 ≤ (u.1 30 2).toInt ∧ (u.1 30 8).toInt = (s.1 30 8).toInt ∧ (u.1 30 9).toInt = (s.1 30 9).toInt)) ∧ (r.toInt = 0 → oqCn g fp fq a b op (u.1 30 8).toInt (u.1 30 9).toInt))) := fun s => (gr4_X5 l E 6).1 s
theorem ct4_X5_part (l : Launch) (E : oE) : ∀ (s : oS)  (g : Int → Int) (fp : Int) (fq : Int) (a : Int) (b : Int) (op : Int) (hp0 : (s.1 30 2).toInt = a) (hp1 : (s.1 30 3).toInt = b) (hp2 : oqX g s) (hp3 : (s.1 30 5).toInt = op) (hp4 : (s.1 30 6).toInt = fp ∧ (s.1 30 7).toInt = fq) (hp5 : fq ≤ 24 ∧ 0 ≤ fp) (hp6 : 6 - (s.1 30 5).toInt ≤ 6), oMet l 69 yX5_part cX5_part 3 (some .boolean) [(0, 1), (5, 2), (5, 3), (5, 4), (5, 5), (5, 8), (5, 9), (20, 9999)] E s [.ref (oad E 30)] (oPi (fun r u => (0 ≤ r.toInt ∧ r.toInt ≤ 1) ∧ (r.toInt = 1 → oqGo g fp fq 1 (oqSk g a) b op 3 (oqSk g (u.1 30 2).toInt) (u.1 30 3).toInt op) ∧ (r.toInt = 1 → ((u.1 30 5).toInt = op ∧ a + 1 ≤ (u.1 30 2).toInt ∧ (u.1 30 8).toInt = (s.1 30 8).toInt ∧ (u.1 30 9).toInt = (s.1 30 9).toInt)) ∧ (r.toInt = 0 → oqFa g fp fq 1 (oqSk g a) b op (u.1 30 8).toInt (u.1 30 9).toInt))) := fun s => (gr4_X5 l E 6).2.1 s
theorem ct4_X5_product (l : Launch) (E : oE) : ∀ (s : oS)  (g : Int → Int) (fp : Int) (fq : Int) (a : Int) (b : Int) (op : Int) (hp0 : (s.1 30 2).toInt = a) (hp1 : (s.1 30 3).toInt = b) (hp2 : oqX g s) (hp3 : (s.1 30 5).toInt = op) (hp4 : (s.1 30 6).toInt = fp ∧ (s.1 30 7).toInt = fq) (hp5 : fq ≤ 24 ∧ 0 ≤ fp) (hp6 : 6 - (s.1 30 5).toInt ≤ 6), oMet l 70 yX5_product cX5_product 3 (some .boolean) [(0, 1), (5, 2), (5, 3), (5, 4), (5, 5), (5, 8), (5, 9), (20, 9999)] E s [.ref (oad E 30)] (oPi (fun r u => (0 ≤ r.toInt ∧ r.toInt ≤ 1) ∧ (r.toInt = 1 → oqGo g fp fq 1 (oqSk g a) b op 3 (u.1 30 2).toInt (u.1 30 3).toInt op) ∧ (r.toInt = 1 → (g (u.1 30 2).toInt ≠ 42 ∧ g (u.1 30 2).toInt ≠ 47)) ∧ (r.toInt = 1 → (oqSk g (u.1 30 2).toInt = (u.1 30 2).toInt ∧ (u.1 30 5).toInt = op ∧ a + 1 ≤ (u.1 30 2).toInt ∧ (u.1 30 8).toInt = (s.1 30 8).toInt ∧ (u.1 30 9).toInt = (s.1 30 9).toInt)) ∧ (r.toInt = 0 → oqFa g fp fq 1 (oqSk g a) b op (u.1 30 8).toInt (u.1 30 9).toInt))) := fun s => (gr4_X5 l E 6).2.2.1 s
theorem ct4_X5_sum (l : Launch) (E : oE) : ∀ (s : oS)  (g : Int → Int) (fp : Int) (fq : Int) (a : Int) (b : Int) (op : Int) (hp0 : (s.1 30 2).toInt = a) (hp1 : (s.1 30 3).toInt = b) (hp2 : oqX g s) (hp3 : (s.1 30 5).toInt = op) (hp4 : (s.1 30 6).toInt = fp ∧ (s.1 30 7).toInt = fq) (hp5 : fq ≤ 24 ∧ 0 ≤ fp) (hp6 : 6 - (s.1 30 5).toInt ≤ 6), oMet l 71 yX5_sum cX5_sum 3 (some .boolean) [(0, 1), (5, 2), (5, 3), (5, 4), (5, 5), (5, 8), (5, 9), (20, 9999)] E s [.ref (oad E 30)] (oPi (fun r u => (0 ≤ r.toInt ∧ r.toInt ≤ 1) ∧ (r.toInt = 1 → oqGo g fp fq 1 (oqSk g a) b op 3 (u.1 30 2).toInt (u.1 30 3).toInt op) ∧ (r.toInt = 1 → ¬ oqOp g (u.1 30 2).toInt) ∧ (r.toInt = 1 → (oqSk g (u.1 30 2).toInt = (u.1 30 2).toInt ∧ (u.1 30 5).toInt = op ∧ a + 1 ≤ (u.1 30 2).toInt ∧ (u.1 30 8).toInt = (s.1 30 8).toInt ∧ (u.1 30 9).toInt = (s.1 30 9).toInt)) ∧ (r.toInt = 0 → oqFa g fp fq 1 (oqSk g a) b op (u.1 30 8).toInt (u.1 30 9).toInt))) := fun s => (gr4_X5 l E 6).2.2.2.1 s
theorem ct4_X5_fact (l : Launch) (E : oE) : ∀ (s : oS)  (g : Int → Int) (fp : Int) (fq : Int) (a : Int) (b : Int) (op : Int) (hp0 : (s.1 30 2).toInt = a) (hp1 : (s.1 30 3).toInt = b) (hp2 : oqX g s) (hp3 : (s.1 30 5).toInt = op) (hp4 : (s.1 30 6).toInt = fp ∧ (s.1 30 7).toInt = fq) (hp5 : fq ≤ 24 ∧ 0 ≤ fp) (hp6 : 6 - (s.1 30 5).toInt ≤ 6), oMet l 72 yX5_fact cX5_fact 3 (some .boolean) [(0, 1), (5, 2), (5, 3), (5, 4), (5, 5), (5, 8), (5, 9), (20, 9999)] E s [.ref (oad E 30)] (oPi (fun r u => (0 ≤ r.toInt ∧ r.toInt ≤ 1) ∧ (r.toInt = 1 → oqGo g fp fq 0 (oqSk g a) b op 2 (oqSk g (u.1 30 2).toInt) (u.1 30 3).toInt op) ∧ (r.toInt = 1 → ((u.1 30 5).toInt = op ∧ a + 1 ≤ (u.1 30 2).toInt ∧ (u.1 30 8).toInt = (s.1 30 8).toInt ∧ (u.1 30 9).toInt = (s.1 30 9).toInt)) ∧ (r.toInt = 0 → oqFa g fp fq 0 (oqSk g a) b op (u.1 30 8).toInt (u.1 30 9).toInt))) := fun s => (gr4_X5 l E 6).2.2.2.2.1 s
theorem ct4_X5_both (l : Launch) (E : oE) : ∀ (s : oS)  (g : Int → Int) (fp : Int) (fq : Int) (a : Int) (b : Int) (op : Int) (hp0 : (s.1 30 2).toInt = a) (hp1 : (s.1 30 3).toInt = b) (hp2 : oqX g s) (hp3 : (s.1 30 5).toInt = op) (hp4 : (s.1 30 6).toInt = fp ∧ (s.1 30 7).toInt = fq) (hp5 : fq ≤ 24 ∧ 0 ≤ fp) (hp6 : 6 - (s.1 30 5).toInt ≤ 6), oMet l 73 yX5_both cX5_both 2 (some .boolean) [(0, 1), (5, 2), (5, 3), (5, 4), (5, 5), (5, 8), (5, 9), (20, 9999)] E s [.ref (oad E 30)] (oPi (fun r u => (0 ≤ r.toInt ∧ r.toInt ≤ 1) ∧ (r.toInt = 1 → oqGn g fp fq (oqSk g a) b op (u.1 30 2).toInt (u.1 30 3).toInt) ∧ (r.toInt = 1 → oqWi g (u.1 30 2).toInt (u.1 30 3).toInt ≠ 8) ∧ (r.toInt = 1 → (oqSk g (u.1 30 2).toInt = (u.1 30 2).toInt ∧ (u.1 30 5).toInt = op ∧ a + 1 ≤ (u.1 30 2).toInt ∧ (u.1 30 8).toInt = (s.1 30 8).toInt ∧ (u.1 30 9).toInt = (s.1 30 9).toInt)) ∧ (r.toInt = 0 → oqFn g fp fq (oqSk g a) b op (u.1 30 8).toInt (u.1 30 9).toInt))) := fun s => (gr4_X5 l E 6).2.2.2.2.2.1 s
theorem ct4_X5_test (l : Launch) (E : oE) : ∀ (s : oS)  (g : Int → Int) (fp : Int) (fq : Int) (a : Int) (b : Int) (op : Int) (hp0 : (s.1 30 2).toInt = a) (hp1 : (s.1 30 3).toInt = b) (hp2 : oqX g s) (hp3 : (s.1 30 5).toInt = op) (hp4 : (s.1 30 6).toInt = fp ∧ (s.1 30 7).toInt = fq) (hp5 : fq ≤ 24 ∧ 0 ≤ fp) (hp6 : 6 - (s.1 30 5).toInt ≤ 6), oMet l 74 yX5_test cX5_test 2 (some .boolean) [(0, 1), (5, 2), (5, 3), (5, 4), (5, 5), (5, 8), (5, 9), (20, 9999)] E s [.ref (oad E 30)] (oPi (fun r u => (0 ≤ r.toInt ∧ r.toInt ≤ 1) ∧ (r.toInt = 1 → oqGn g fp fq (oqSk g a) b op (u.1 30 2).toInt (u.1 30 3).toInt) ∧ (r.toInt = 1 → (oqWi g (u.1 30 2).toInt (u.1 30 3).toInt ≠ 7 ∧ oqWi g (u.1 30 2).toInt (u.1 30 3).toInt ≠ 8)) ∧ (r.toInt = 1 → (oqSk g (u.1 30 2).toInt = (u.1 30 2).toInt ∧ (u.1 30 5).toInt = op ∧ a + 1 ≤ (u.1 30 2).toInt ∧ (u.1 30 8).toInt = (s.1 30 8).toInt ∧ (u.1 30 9).toInt = (s.1 30 9).toInt)) ∧ (r.toInt = 0 → oqFn g fp fq (oqSk g a) b op (u.1 30 8).toInt (u.1 30 9).toInt))) := fun s => (gr4_X5 l E 6).2.2.2.2.2.2 s
