set_option maxHeartbeats 4000000 in
set_option maxRecDepth 100000 in
theorem gr_X5 (l : Launch) (E : oE) : ∀ N : Nat, (∀ (s : oS) (a1 : Int32) (hp0 : 6 - (s.1 30 5).toInt ≤ (N : Int)), oMet l (7 + 10 * N + 1) yX5_choice cX5_choice 2 (some .boolean) [(0, 1), (5, 2), (5, 3), (5, 4), (5, 5), (5, 8), (5, 9), (20, 9999)] E s [.ref (oad E 30), .int a1] (oPi (fun r u => (0 ≤ r.toInt ∧ r.toInt ≤ 1) ∧ (r.toInt = 1 → (u.1 30 5).toInt = (s.1 30 5).toInt)))) ∧ (∀ (s : oS)  (hp0 : 6 - (s.1 30 5).toInt ≤ (N : Int)), oMet l (7 + 10 * N + 2) yX5_part cX5_part 3 (some .boolean) [(0, 1), (5, 2), (5, 3), (5, 4), (5, 5), (5, 8), (5, 9), (20, 9999)] E s [.ref (oad E 30)] (oPi (fun r u => (0 ≤ r.toInt ∧ r.toInt ≤ 1) ∧ (r.toInt = 1 → (u.1 30 5).toInt = (s.1 30 5).toInt)))) ∧ (∀ (s : oS)  (hp0 : 6 - (s.1 30 5).toInt ≤ (N : Int)), oMet l (7 + 10 * N + 3) yX5_product cX5_product 3 (some .boolean) [(0, 1), (5, 2), (5, 3), (5, 4), (5, 5), (5, 8), (5, 9), (20, 9999)] E s [.ref (oad E 30)] (oPi (fun r u => (0 ≤ r.toInt ∧ r.toInt ≤ 1) ∧ (r.toInt = 1 → (u.1 30 5).toInt = (s.1 30 5).toInt)))) ∧ (∀ (s : oS)  (hp0 : 6 - (s.1 30 5).toInt ≤ (N : Int)), oMet l (7 + 10 * N + 4) yX5_sum cX5_sum 3 (some .boolean) [(0, 1), (5, 2), (5, 3), (5, 4), (5, 5), (5, 8), (5, 9), (20, 9999)] E s [.ref (oad E 30)] (oPi (fun r u => (0 ≤ r.toInt ∧ r.toInt ≤ 1) ∧ (r.toInt = 1 → (u.1 30 5).toInt = (s.1 30 5).toInt)))) ∧ (∀ (s : oS)  (hp0 : 6 - (s.1 30 5).toInt ≤ (N : Int)), oMet l (7 + 10 * N + 5) yX5_fact cX5_fact 3 (some .boolean) [(0, 1), (5, 2), (5, 3), (5, 4), (5, 5), (5, 8), (5, 9), (20, 9999)] E s [.ref (oad E 30)] (oPi (fun r u => (0 ≤ r.toInt ∧ r.toInt ≤ 1) ∧ (r.toInt = 1 → (u.1 30 5).toInt = (s.1 30 5).toInt)))) ∧ (∀ (s : oS)  (hp0 : 6 - (s.1 30 5).toInt ≤ (N : Int)), oMet l (7 + 10 * N + 6) yX5_both cX5_both 2 (some .boolean) [(0, 1), (5, 2), (5, 3), (5, 4), (5, 5), (5, 8), (5, 9), (20, 9999)] E s [.ref (oad E 30)] (oPi (fun r u => (0 ≤ r.toInt ∧ r.toInt ≤ 1) ∧ (r.toInt = 1 → (u.1 30 5).toInt = (s.1 30 5).toInt)))) ∧ (∀ (s : oS)  (hp0 : 6 - (s.1 30 5).toInt ≤ (N : Int)), oMet l (7 + 10 * N + 7) yX5_test cX5_test 2 (some .boolean) [(0, 1), (5, 2), (5, 3), (5, 4), (5, 5), (5, 8), (5, 9), (20, 9999)] E s [.ref (oad E 30)] (oPi (fun r u => (0 ≤ r.toInt ∧ r.toInt ≤ 1) ∧ (r.toInt = 1 → (u.1 30 5).toInt = (s.1 30 5).toInt)))) := by
  intro N
  induction N using Nat.strongRecOn with
  | _ N ih =>
    have h_X5_choice : ∀ (s : oS) (a1 : Int32) (hp0 : 6 - (s.1 30 5).toInt ≤ (N : Int)), oMet l (7 + 10 * N + 1) yX5_choice cX5_choice 2 (some .boolean) [(0, 1), (5, 2), (5, 3), (5, 4), (5, 5), (5, 8), (5, 9), (20, 9999)] E s [.ref (oad E 30), .int a1] (oPi (fun r u => (0 ≤ r.toInt ∧ r.toInt ≤ 1) ∧ (r.toInt = 1 → (u.1 30 5).toInt = (s.1 30 5).toInt))) := by
      intro s a1 hp0
      refine oMet.of (lv := [(0, .ref (oad E 30)), (1, .int a1)]) (by decide +kernel) (Nat.le_of_ble_eq_true rfl) rfl (fun J C hT => ?_)
      have C : oC l (7 + 10 * N + 1) cX5_choice RX5 2 (some .boolean) [(0, 1), (5, 2), (5, 3), (5, 4), (5, 5), (5, 8), (5, 9), (20, 9999)] E s (oPi (fun r u => (0 ≤ r.toInt ∧ r.toInt ≤ 1) ∧ (r.toInt = 1 → (u.1 30 5).toInt = (s.1 30 5).toInt))) J := C
      obtain ⟨k0, qk0⟩ : ∃ z : Int32, z = 0 := ⟨_, rfl⟩
      have ek0 : k0.toInt = 0 := by rw [qk0]; rfl
      obtain ⟨k1, qk1⟩ : ∃ z : Int32, z = 1 := ⟨_, rfl⟩
      have ek1 : k1.toInt = 1 := by rw [qk1]; rfl
      obtain ⟨k40, qk40⟩ : ∃ z : Int32, z = 40 := ⟨_, rfl⟩
      have ek40 : k40.toInt = 40 := by rw [qk40]; rfl
      obtain ⟨k41, qk41⟩ : ∃ z : Int32, z = 41 := ⟨_, rfl⟩
      have ek41 : k41.toInt = 41 := by rw [qk41]; rfl
      obtain ⟨k44, qk44⟩ : ∃ z : Int32, z = 44 := ⟨_, rfl⟩
      have ek44 : k44.toInt = 44 := by rw [qk44]; rfl
      have rg1 := n_rng a1
      refine r_aload_n C (j := 0) (oDec_at oX5_choice 0 rfl) rfl rfl ?_
      refine r_callVi C oCl5 rfl miX5_peek mlX5_43 (ct_X5_peek l E (s)  ) (by omega) rfl rfl rfl (Nat.le_of_ble_eq_true rfl) (oDec_at oX5_choice 1 rfl) (fun r2 u1 pu1 fu1 => ?_)
      try dsimp only at pu1
      have rr2 := n_rng r2
      refine r_bipush C (oDec_at oX5_choice 2 rfl) (v := k40) (by rw [qk40]; rfl) ?_
      refine r_icmp_eq C 19 (oDec_at oX5_choice 3 rfl) (by decide) (fun cd3 => ?_) (fun cd3 => ?_)
      · skip
        refine r_aload_n C (j := 0) (oDec_at oX5_choice 10 rfl) rfl rfl ?_
        have lk4 : ((u1).1 30 5).toInt = (s.1 30 5).toInt := congrArg Int32.toInt ((fu1 30 5 rfl).1)
        refine r_callVi C oCl5 rfl miX5_opens mlX5_154 (ct_X5_opens l E (u1)  ) (by omega) rfl rfl rfl (Nat.le_of_ble_eq_true rfl) (oDec_at oX5_choice 11 rfl) (fun r6 u5 pu5 fu5 => ?_)
        try dsimp only at pu5
        have rr6 := n_rng r6
        refine r_if_eq C 67 (oDec_at oX5_choice 12 rfl) (by decide) (fun cd7 => ?_) (fun cd7 => ?_)
        · skip
          refine r_iconst C (oDec_at oX5_choice 31 rfl) (v := k0) (by rw [qk0]; rfl) ?_
          exact r_zret C (n_bool (by omega)) (oDec_at oX5_choice 32 rfl) ⟨_, rfl, ⟨by omega, by omega⟩⟩
        · skip
          refine r_aload_n C (j := 0) (oDec_at oX5_choice 13 rfl) rfl rfl ?_
          refine r_bipush C (oDec_at oX5_choice 14 rfl) (v := k40) (by rw [qk40]; rfl) ?_
          refine r_callVi C oCl5 rfl miX5_expectSign mlX5_88 (ct_X5_expectSign l E (u5) k40 (by omega)) (by omega) rfl rfl rfl (Nat.le_of_ble_eq_true rfl) (oDec_at oX5_choice 15 rfl) (fun r9 u8 pu8 fu8 => ?_)
          try dsimp only at pu8
          have rr9 := n_rng r9
          refine r_if_eq C 67 (oDec_at oX5_choice 16 rfl) (by decide) (fun cd10 => ?_) (fun cd10 => ?_)
          · skip
            refine r_iconst C (oDec_at oX5_choice 31 rfl) (v := k0) (by rw [qk0]; rfl) ?_
            have lk11 : ((u8).1 30 5).toInt = (u5.1 30 5).toInt := congrArg Int32.toInt ((fu8 30 5 rfl).1)
            exact r_zret C (n_bool (by omega)) (oDec_at oX5_choice 32 rfl) ⟨_, rfl, ⟨by omega, by omega⟩⟩
          · skip
            refine r_aload_n C (j := 0) (oDec_at oX5_choice 17 rfl) rfl rfl ?_
            have lk12 : ((u8).1 30 5).toInt = (u5.1 30 5).toInt := congrArg Int32.toInt ((fu8 30 5 rfl).1)
            have lk13 : ((u8).1 30 5).toInt = (u5.1 30 5).toInt := congrArg Int32.toInt ((fu8 30 5 rfl).1)
            refine r_callVi C oCl5 rfl miX5_sum mlX5_160 (((ih (N - 1) (by omega)).2.2.2.1) (u8)  (by omega)) (by omega) rfl rfl rfl (Nat.le_of_ble_eq_true rfl) (oDec_at oX5_choice 18 rfl) (fun r15 u14 pu14 fu14 => ?_)
            try dsimp only at pu14
            have rr15 := n_rng r15
            refine r_if_eq C 67 (oDec_at oX5_choice 19 rfl) (by decide) (fun cd16 => ?_) (fun cd16 => ?_)
            · skip
              refine r_iconst C (oDec_at oX5_choice 31 rfl) (v := k0) (by rw [qk0]; rfl) ?_
              exact r_zret C (n_bool (by omega)) (oDec_at oX5_choice 32 rfl) ⟨_, rfl, ⟨by omega, by omega⟩⟩
            · skip
              refine r_aload_n C (j := 0) (oDec_at oX5_choice 20 rfl) rfl rfl ?_
              refine r_bipush C (oDec_at oX5_choice 21 rfl) (v := k44) (by rw [qk44]; rfl) ?_
              refine r_callVi C oCl5 rfl miX5_expectSign mlX5_88 (ct_X5_expectSign l E (u14) k44 (by omega)) (by omega) rfl rfl rfl (Nat.le_of_ble_eq_true rfl) (oDec_at oX5_choice 22 rfl) (fun r18 u17 pu17 fu17 => ?_)
              try dsimp only at pu17
              have rr18 := n_rng r18
              refine r_if_eq C 67 (oDec_at oX5_choice 23 rfl) (by decide) (fun cd19 => ?_) (fun cd19 => ?_)
              · skip
                refine r_iconst C (oDec_at oX5_choice 31 rfl) (v := k0) (by rw [qk0]; rfl) ?_
                have lk20 : ((u17).1 30 5).toInt = (u14.1 30 5).toInt := congrArg Int32.toInt ((fu17 30 5 rfl).1)
                exact r_zret C (n_bool (by omega)) (oDec_at oX5_choice 32 rfl) ⟨_, rfl, ⟨by omega, by omega⟩⟩
              · skip
                refine r_aload_n C (j := 0) (oDec_at oX5_choice 24 rfl) rfl rfl ?_
                have lk21 : ((u17).1 30 5).toInt = (u14.1 30 5).toInt := congrArg Int32.toInt ((fu17 30 5 rfl).1)
                have lk22 : ((u17).1 30 5).toInt = (u14.1 30 5).toInt := congrArg Int32.toInt ((fu17 30 5 rfl).1)
                refine r_callVi C oCl5 rfl miX5_sum mlX5_160 (((ih (N - 1) (by omega)).2.2.2.1) (u17)  (by omega)) (by omega) rfl rfl rfl (Nat.le_of_ble_eq_true rfl) (oDec_at oX5_choice 25 rfl) (fun r24 u23 pu23 fu23 => ?_)
                try dsimp only at pu23
                have rr24 := n_rng r24
                refine r_if_eq C 67 (oDec_at oX5_choice 26 rfl) (by decide) (fun cd25 => ?_) (fun cd25 => ?_)
                · skip
                  refine r_iconst C (oDec_at oX5_choice 31 rfl) (v := k0) (by rw [qk0]; rfl) ?_
                  exact r_zret C (n_bool (by omega)) (oDec_at oX5_choice 32 rfl) ⟨_, rfl, ⟨by omega, by omega⟩⟩
                · skip
                  refine r_aload_n C (j := 0) (oDec_at oX5_choice 27 rfl) rfl rfl ?_
                  refine r_bipush C (oDec_at oX5_choice 28 rfl) (v := k41) (by rw [qk41]; rfl) ?_
                  refine r_callVi C oCl5 rfl miX5_expectSign mlX5_88 (ct_X5_expectSign l E (u23) k41 (by omega)) (by omega) rfl rfl rfl (Nat.le_of_ble_eq_true rfl) (oDec_at oX5_choice 29 rfl) (fun r27 u26 pu26 fu26 => ?_)
                  try dsimp only at pu26
                  have rr27 := n_rng r27
                  refine r_if_ne C 69 (oDec_at oX5_choice 30 rfl) (by decide) (fun cd28 => ?_) (fun cd28 => ?_)
                  · skip
                    refine r_aload_n C (j := 0) (oDec_at oX5_choice 33 rfl) rfl rfl ?_
                    refine r_getS (k := 1) (q2 := 0) C oCl5 rfl (by decide) flX5_19 rfl rfl rfl ks1 (oDec_at oX5_choice 34 rfl) (fun b29 rb29 mb29 hkb29 => ?_)
                    refine r_iload_n C (j := 1) (oDec_at oX5_choice 35 rfl) rfl rfl ?_
                    refine r_callVv C oCl0 hkb29 miX0_emit mlX5_147 (ct_X0_emit l E (u26) b29 hkb29 a1 ) (by omega) rfl rfl rfl (Nat.le_of_ble_eq_true rfl) (oDec_at oX5_choice 36 rfl) (fun u30 pu30 fu30 => ?_)
                    try dsimp only at pu30
                    refine r_aload_n C (j := 0) (oDec_at oX5_choice 37 rfl) rfl rfl ?_
                    have lk32 : ((u30).1 30 5).toInt = (u23.1 30 5).toInt := congrArg Int32.toInt (((fu30 30 5 rfl).1).trans ((fu26 30 5 rfl).1))
                    have lk33 : ((u30).1 30 5).toInt = (u23.1 30 5).toInt := congrArg Int32.toInt (((fu30 30 5 rfl).1).trans ((fu26 30 5 rfl).1))
                    refine r_callVi C oCl5 rfl miX5_closes mlX5_157 (ct_X5_closes l E (u30)  (by omega)) (by omega) rfl rfl rfl (Nat.le_of_ble_eq_true rfl) (oDec_at oX5_choice 38 rfl) (fun r35 u34 pu34 fu34 => ?_)
                    try dsimp only at pu34
                    have rr35 := n_rng r35
                    refine r_pc C 81 rfl ?_
                    exact r_zret C (n_bool (by omega)) (oDec_at oX5_choice 39 rfl) ⟨_, rfl, ⟨by omega, by omega⟩⟩
                  · skip
                    refine r_iconst C (oDec_at oX5_choice 31 rfl) (v := k0) (by rw [qk0]; rfl) ?_
                    have lk36 : ((u26).1 30 5).toInt = (u23.1 30 5).toInt := congrArg Int32.toInt ((fu26 30 5 rfl).1)
                    exact r_zret C (n_bool (by omega)) (oDec_at oX5_choice 32 rfl) ⟨_, rfl, ⟨by omega, by omega⟩⟩
      · skip
        refine r_aload_n C (j := 0) (oDec_at oX5_choice 4 rfl) rfl rfl ?_
        refine r_iconst C (oDec_at oX5_choice 5 rfl) (v := k1) (by rw [qk1]; rfl) ?_
        refine r_aload_n C (j := 0) (oDec_at oX5_choice 6 rfl) rfl rfl ?_
        obtain ⟨v37, ev37⟩ : ∃ z : Int32, (u1).1 30 2 = z := ⟨_, rfl⟩
        have gv37 : (u1.1 30 2).toInt = v37.toInt := congrArg Int32.toInt (ev37)
        refine r_geti (k := 2) (lo := 0) (hi := 1600) C v37 oCl5 rfl (by decide) flX5_23 rfl rfl (ev37) rfl rfl (oDec_at oX5_choice 7 rfl) (fun b38 b38h => ?_)
        refine r_callVi C oCl5 rfl miX5_fail mlX5_62 (ct_X5_fail l E (u1) k1 v37 ) (by omega) rfl rfl rfl (Nat.le_of_ble_eq_true rfl) (oDec_at oX5_choice 8 rfl) (fun r40 u39 pu39 fu39 => ?_)
        try dsimp only at pu39
        have rr40 := n_rng r40
        have lk41 : ((u39).1 30 5).toInt = (s.1 30 5).toInt := congrArg Int32.toInt (((fu39 30 5 rfl).1).trans ((fu1 30 5 rfl).1))
        exact r_zret C (n_bool (by omega)) (oDec_at oX5_choice 9 rfl) ⟨_, rfl, ⟨by omega, by omega⟩⟩
    have h_X5_part : ∀ (s : oS)  (hp0 : 6 - (s.1 30 5).toInt ≤ (N : Int)), oMet l (7 + 10 * N + 2) yX5_part cX5_part 3 (some .boolean) [(0, 1), (5, 2), (5, 3), (5, 4), (5, 5), (5, 8), (5, 9), (20, 9999)] E s [.ref (oad E 30)] (oPi (fun r u => (0 ≤ r.toInt ∧ r.toInt ≤ 1) ∧ (r.toInt = 1 → (u.1 30 5).toInt = (s.1 30 5).toInt))) := by
      intro s hp0
      refine oMet.of (lv := [(0, .ref (oad E 30))]) (by decide +kernel) (Nat.le_of_ble_eq_true rfl) rfl (fun J C hT => ?_)
      have C : oC l (7 + 10 * N + 2) cX5_part RX5 3 (some .boolean) [(0, 1), (5, 2), (5, 3), (5, 4), (5, 5), (5, 8), (5, 9), (20, 9999)] E s (oPi (fun r u => (0 ≤ r.toInt ∧ r.toInt ≤ 1) ∧ (r.toInt = 1 → (u.1 30 5).toInt = (s.1 30 5).toInt))) J := C
      obtain ⟨km1, qkm1⟩ : ∃ z : Int32, z = (-1) := ⟨_, rfl⟩
      have ekm1 : km1.toInt = (-1) := by rw [qkm1]; rfl
      obtain ⟨k0, qk0⟩ : ∃ z : Int32, z = 0 := ⟨_, rfl⟩
      have ek0 : k0.toInt = 0 := by rw [qk0]; rfl
      obtain ⟨k1, qk1⟩ : ∃ z : Int32, z = 1 := ⟨_, rfl⟩
      have ek1 : k1.toInt = 1 := by rw [qk1]; rfl
      obtain ⟨k24, qk24⟩ : ∃ z : Int32, z = 24 := ⟨_, rfl⟩
      have ek24 : k24.toInt = 24 := by rw [qk24]; rfl
      obtain ⟨k25, qk25⟩ : ∃ z : Int32, z = 25 := ⟨_, rfl⟩
      have ek25 : k25.toInt = 25 := by rw [qk25]; rfl
      obtain ⟨k40, qk40⟩ : ∃ z : Int32, z = 40 := ⟨_, rfl⟩
      have ek40 : k40.toInt = 40 := by rw [qk40]; rfl
      obtain ⟨k41, qk41⟩ : ∃ z : Int32, z = 41 := ⟨_, rfl⟩
      have ek41 : k41.toInt = 41 := by rw [qk41]; rfl
      obtain ⟨k9999, qk9999⟩ : ∃ z : Int32, z = 9999 := ⟨_, rfl⟩
      have ek9999 : k9999.toInt = 9999 := by rw [qk9999]; rfl
      obtain ⟨k10000, qk10000⟩ : ∃ z : Int32, z = 10000 := ⟨_, rfl⟩
      have ek10000 : k10000.toInt = 10000 := by rw [qk10000]; rfl
      obtain ⟨k10030, qk10030⟩ : ∃ z : Int32, z = 10030 := ⟨_, rfl⟩
      have ek10030 : k10030.toInt = 10030 := by rw [qk10030]; rfl
      obtain ⟨k10031, qk10031⟩ : ∃ z : Int32, z = 10031 := ⟨_, rfl⟩
      have ek10031 : k10031.toInt = 10031 := by rw [qk10031]; rfl
      refine r_aload_n C (j := 0) (oDec_at oX5_part 0 rfl) rfl rfl ?_
      refine r_callVi C oCl5 rfl miX5_peek mlX5_43 (ct_X5_peek l E (s)  ) (by omega) rfl rfl rfl (Nat.le_of_ble_eq_true rfl) (oDec_at oX5_part 1 rfl) (fun r2 u1 pu1 fu1 => ?_)
      try dsimp only at pu1
      have rr2 := n_rng r2
      refine r_istore_n C (lv' := [(0, .ref (oad E 30)), (1, .int r2)]) [1, 0] (oDec_at oX5_part 2 rfl) rfl (by decide) rfl ?_
      refine r_iload_n C (j := 1) (oDec_at oX5_part 3 rfl) rfl rfl ?_
      refine r_bipush C (oDec_at oX5_part 4 rfl) (v := k40) (by rw [qk40]; rfl) ?_
      refine r_icmp_ne C 56 (oDec_at oX5_part 5 rfl) (by decide) (fun cd3 => ?_) (fun cd3 => ?_)
      · skip
        refine r_iload_n C (j := 1) (oDec_at oX5_part 27 rfl) rfl rfl ?_
        refine r_callSi C miX5_isDigit mlX5_169 (ct_X5_isDigit l E (u1) r2 ) (by omega) rfl rfl rfl (Nat.le_of_ble_eq_true rfl) (oDec_at oX5_part 28 rfl) (fun r5 u4 pu4 fu4 => ?_)
        try dsimp only at pu4
        have rr5 := n_rng r5
        refine r_if_eq C 91 (oDec_at oX5_part 29 rfl) (by decide) (fun cd6 => ?_) (fun cd6 => ?_)
        · skip
          refine r_aload_n C (j := 0) (oDec_at oX5_part 46 rfl) rfl rfl ?_
          refine r_callVi C oCl5 rfl miX5_wordAhead mlX5_91 (ct_X5_wordAhead l E (u4)  ) (by omega) rfl rfl rfl (Nat.le_of_ble_eq_true rfl) (oDec_at oX5_part 47 rfl) (fun r8 u7 pu7 fu7 => ?_)
          try dsimp only at pu7
          have rr8 := n_rng r8
          refine r_istore_n C (lv' := [(0, .ref (oad E 30)), (1, .int r2), (2, .int r8)]) [1, 2, 0] (oDec_at oX5_part 48 rfl) rfl (by decide) rfl ?_
          refine r_iload_n C (j := 2) (oDec_at oX5_part 49 rfl) rfl rfl ?_
          refine r_aload_n C (j := 0) (oDec_at oX5_part 50 rfl) rfl rfl ?_
          obtain ⟨v9, ev9⟩ : ∃ z : Int32, (u7).1 30 6 = z := ⟨_, rfl⟩
          have gv9 : (s.1 30 6).toInt = v9.toInt := congrArg Int32.toInt ((((fu7 30 6 rfl).1).trans (((fu4 30 6 rfl).1).trans ((fu1 30 6 rfl).1))).symm.trans ev9)
          have rv9 := n_rng v9
          refine r_geti (k := 6) (lo := (-2147483648)) (hi := 2147483647) C v9 oCl5 rfl (by decide) flX5_109 rfl rfl (ev9) rfl rfl (oDec_at oX5_part 51 rfl) (fun _ _ => ?_)
          refine r_pc C 101 rfl ?_
          refine r_icmp_lt C 135 (oDec_at oX5_part 52 rfl) (by decide) (fun cd10 => ?_) (fun cd10 => ?_)
          · skip
            refine r_iload_n C (j := 2) (oDec_at oX5_part 70 rfl) rfl rfl ?_
            refine r_bipush C (oDec_at oX5_part 71 rfl) (v := k24) (by rw [qk24]; rfl) ?_
            refine r_icmp_eq C 157 (oDec_at oX5_part 72 rfl) (by decide) (fun cd11 => ?_) (fun cd11 => ?_)
            · skip
              refine r_aload_n C (j := 0) (oDec_at oX5_part 82 rfl) rfl rfl ?_
              refine r_iload_n C (j := 2) (oDec_at oX5_part 83 rfl) rfl rfl ?_
              refine r_callVi C oCl5 rfl miX5_expect mlX5_74 (ct_X5_expect l E (u7) r8 ) (by omega) rfl rfl rfl (Nat.le_of_ble_eq_true rfl) (oDec_at oX5_part 84 rfl) (fun r13 u12 pu12 fu12 => ?_)
              try dsimp only at pu12
              have rr13 := n_rng r13
              refine r_if_eq C 191 (oDec_at oX5_part 85 rfl) (by decide) (fun cd14 => ?_) (fun cd14 => ?_)
              · skip
                refine r_iconst C (oDec_at oX5_part 97 rfl) (v := k0) (by rw [qk0]; rfl) ?_
                have lk15 : ((u12).1 30 5).toInt = (s.1 30 5).toInt := congrArg Int32.toInt (((fu12 30 5 rfl).1).trans (((fu7 30 5 rfl).1).trans (((fu4 30 5 rfl).1).trans ((fu1 30 5 rfl).1))))
                exact r_zret C (n_bool (by omega)) (oDec_at oX5_part 98 rfl) ⟨_, rfl, ⟨by omega, by omega⟩⟩
              · skip
                refine r_aload_n C (j := 0) (oDec_at oX5_part 86 rfl) rfl rfl ?_
                refine r_iload_n C (j := 2) (oDec_at oX5_part 87 rfl) rfl rfl ?_
                refine r_bipush C (oDec_at oX5_part 88 rfl) (v := k24) (by rw [qk24]; rfl) ?_
                refine r_icmp_ne C 178 (oDec_at oX5_part 89 rfl) (by decide) (fun cd16 => ?_) (fun cd16 => ?_)
                · omega
                · skip
                  refine r_sipush C (oDec_at oX5_part 90 rfl) (v := k10030) (by rw [qk10030]; rfl) ?_
                  refine r_goto C (tgt := 181) (oDec_at oX5_part 91 rfl) (by decide) ?_
                  have lk17 : ((u12).1 30 5).toInt = (s.1 30 5).toInt := congrArg Int32.toInt (((fu12 30 5 rfl).1).trans (((fu7 30 5 rfl).1).trans (((fu4 30 5 rfl).1).trans ((fu1 30 5 rfl).1))))
                  have lk18 : ((u12).1 30 5).toInt = (s.1 30 5).toInt := congrArg Int32.toInt (((fu12 30 5 rfl).1).trans (((fu7 30 5 rfl).1).trans (((fu4 30 5 rfl).1).trans ((fu1 30 5 rfl).1))))
                  refine r_callVi C oCl5 rfl miX5_choice mlX5_172 (h_X5_choice (u12) k10030 (by omega)) (by omega) rfl rfl rfl (Nat.le_of_ble_eq_true rfl) (oDec_at oX5_part 93 rfl) (fun r20 u19 pu19 fu19 => ?_)
                  try dsimp only at pu19
                  have rr20 := n_rng r20
                  refine r_if_eq C 191 (oDec_at oX5_part 94 rfl) (by decide) (fun cd21 => ?_) (fun cd21 => ?_)
                  · skip
                    refine r_iconst C (oDec_at oX5_part 97 rfl) (v := k0) (by rw [qk0]; rfl) ?_
                    exact r_zret C (n_bool (by omega)) (oDec_at oX5_part 98 rfl) ⟨_, rfl, ⟨by omega, by omega⟩⟩
                  · skip
                    refine r_iconst C (oDec_at oX5_part 95 rfl) (v := k1) (by rw [qk1]; rfl) ?_
                    refine r_goto C (tgt := 192) (oDec_at oX5_part 96 rfl) (by decide) ?_
                    exact r_zret C (n_bool (by omega)) (oDec_at oX5_part 98 rfl) ⟨_, rfl, ⟨by omega, by omega⟩⟩
            · skip
              refine r_iload_n C (j := 2) (oDec_at oX5_part 73 rfl) rfl rfl ?_
              refine r_bipush C (oDec_at oX5_part 74 rfl) (v := k25) (by rw [qk25]; rfl) ?_
              refine r_icmp_eq C 157 (oDec_at oX5_part 75 rfl) (by decide) (fun cd22 => ?_) (fun cd22 => ?_)
              · skip
                refine r_aload_n C (j := 0) (oDec_at oX5_part 82 rfl) rfl rfl ?_
                refine r_iload_n C (j := 2) (oDec_at oX5_part 83 rfl) rfl rfl ?_
                refine r_callVi C oCl5 rfl miX5_expect mlX5_74 (ct_X5_expect l E (u7) r8 ) (by omega) rfl rfl rfl (Nat.le_of_ble_eq_true rfl) (oDec_at oX5_part 84 rfl) (fun r24 u23 pu23 fu23 => ?_)
                try dsimp only at pu23
                have rr24 := n_rng r24
                refine r_if_eq C 191 (oDec_at oX5_part 85 rfl) (by decide) (fun cd25 => ?_) (fun cd25 => ?_)
                · skip
                  refine r_iconst C (oDec_at oX5_part 97 rfl) (v := k0) (by rw [qk0]; rfl) ?_
                  have lk26 : ((u23).1 30 5).toInt = (s.1 30 5).toInt := congrArg Int32.toInt (((fu23 30 5 rfl).1).trans (((fu7 30 5 rfl).1).trans (((fu4 30 5 rfl).1).trans ((fu1 30 5 rfl).1))))
                  exact r_zret C (n_bool (by omega)) (oDec_at oX5_part 98 rfl) ⟨_, rfl, ⟨by omega, by omega⟩⟩
                · skip
                  refine r_aload_n C (j := 0) (oDec_at oX5_part 86 rfl) rfl rfl ?_
                  refine r_iload_n C (j := 2) (oDec_at oX5_part 87 rfl) rfl rfl ?_
                  refine r_bipush C (oDec_at oX5_part 88 rfl) (v := k24) (by rw [qk24]; rfl) ?_
                  refine r_icmp_ne C 178 (oDec_at oX5_part 89 rfl) (by decide) (fun cd27 => ?_) (fun cd27 => ?_)
                  · skip
                    refine r_sipush C (oDec_at oX5_part 92 rfl) (v := k10031) (by rw [qk10031]; rfl) ?_
                    have lk28 : ((u23).1 30 5).toInt = (s.1 30 5).toInt := congrArg Int32.toInt (((fu23 30 5 rfl).1).trans (((fu7 30 5 rfl).1).trans (((fu4 30 5 rfl).1).trans ((fu1 30 5 rfl).1))))
                    have lk29 : ((u23).1 30 5).toInt = (s.1 30 5).toInt := congrArg Int32.toInt (((fu23 30 5 rfl).1).trans (((fu7 30 5 rfl).1).trans (((fu4 30 5 rfl).1).trans ((fu1 30 5 rfl).1))))
                    refine r_callVi C oCl5 rfl miX5_choice mlX5_172 (h_X5_choice (u23) k10031 (by omega)) (by omega) rfl rfl rfl (Nat.le_of_ble_eq_true rfl) (oDec_at oX5_part 93 rfl) (fun r31 u30 pu30 fu30 => ?_)
                    try dsimp only at pu30
                    have rr31 := n_rng r31
                    refine r_if_eq C 191 (oDec_at oX5_part 94 rfl) (by decide) (fun cd32 => ?_) (fun cd32 => ?_)
                    · skip
                      refine r_iconst C (oDec_at oX5_part 97 rfl) (v := k0) (by rw [qk0]; rfl) ?_
                      exact r_zret C (n_bool (by omega)) (oDec_at oX5_part 98 rfl) ⟨_, rfl, ⟨by omega, by omega⟩⟩
                    · skip
                      refine r_iconst C (oDec_at oX5_part 95 rfl) (v := k1) (by rw [qk1]; rfl) ?_
                      refine r_goto C (tgt := 192) (oDec_at oX5_part 96 rfl) (by decide) ?_
                      exact r_zret C (n_bool (by omega)) (oDec_at oX5_part 98 rfl) ⟨_, rfl, ⟨by omega, by omega⟩⟩
                  · omega
              · skip
                refine r_aload_n C (j := 0) (oDec_at oX5_part 76 rfl) rfl rfl ?_
                refine r_iconst C (oDec_at oX5_part 77 rfl) (v := k1) (by rw [qk1]; rfl) ?_
                refine r_aload_n C (j := 0) (oDec_at oX5_part 78 rfl) rfl rfl ?_
                obtain ⟨v33, ev33⟩ : ∃ z : Int32, (u7).1 30 2 = z := ⟨_, rfl⟩
                have gv33 : (u7.1 30 2).toInt = v33.toInt := congrArg Int32.toInt (ev33)
                refine r_geti (k := 2) (lo := 0) (hi := 1600) C v33 oCl5 rfl (by decide) flX5_23 rfl rfl (ev33) rfl rfl (oDec_at oX5_part 79 rfl) (fun b34 b34h => ?_)
                refine r_callVi C oCl5 rfl miX5_fail mlX5_62 (ct_X5_fail l E (u7) k1 v33 ) (by omega) rfl rfl rfl (Nat.le_of_ble_eq_true rfl) (oDec_at oX5_part 80 rfl) (fun r36 u35 pu35 fu35 => ?_)
                try dsimp only at pu35
                have rr36 := n_rng r36
                have lk37 : ((u35).1 30 5).toInt = (s.1 30 5).toInt := congrArg Int32.toInt (((fu35 30 5 rfl).1).trans (((fu7 30 5 rfl).1).trans (((fu4 30 5 rfl).1).trans ((fu1 30 5 rfl).1))))
                exact r_zret C (n_bool (by omega)) (oDec_at oX5_part 81 rfl) ⟨_, rfl, ⟨by omega, by omega⟩⟩
          · skip
            refine r_iload_n C (j := 2) (oDec_at oX5_part 53 rfl) rfl rfl ?_
            refine r_aload_n C (j := 0) (oDec_at oX5_part 54 rfl) rfl rfl ?_
            obtain ⟨v38, ev38⟩ : ∃ z : Int32, (u7).1 30 7 = z := ⟨_, rfl⟩
            have gv38 : (s.1 30 7).toInt = v38.toInt := congrArg Int32.toInt ((((fu7 30 7 rfl).1).trans (((fu4 30 7 rfl).1).trans ((fu1 30 7 rfl).1))).symm.trans ev38)
            have rv38 := n_rng v38
            refine r_geti (k := 7) (lo := (-2147483648)) (hi := 2147483647) C v38 oCl5 rfl (by decide) flX5_112 rfl rfl (ev38) rfl rfl (oDec_at oX5_part 55 rfl) (fun _ _ => ?_)
            refine r_icmp_ge C 135 (oDec_at oX5_part 56 rfl) (by decide) (fun cd39 => ?_) (fun cd39 => ?_)
            · skip
              refine r_iload_n C (j := 2) (oDec_at oX5_part 70 rfl) rfl rfl ?_
              refine r_bipush C (oDec_at oX5_part 71 rfl) (v := k24) (by rw [qk24]; rfl) ?_
              refine r_icmp_eq C 157 (oDec_at oX5_part 72 rfl) (by decide) (fun cd40 => ?_) (fun cd40 => ?_)
              · skip
                refine r_aload_n C (j := 0) (oDec_at oX5_part 82 rfl) rfl rfl ?_
                refine r_iload_n C (j := 2) (oDec_at oX5_part 83 rfl) rfl rfl ?_
                refine r_callVi C oCl5 rfl miX5_expect mlX5_74 (ct_X5_expect l E (u7) r8 ) (by omega) rfl rfl rfl (Nat.le_of_ble_eq_true rfl) (oDec_at oX5_part 84 rfl) (fun r42 u41 pu41 fu41 => ?_)
                try dsimp only at pu41
                have rr42 := n_rng r42
                refine r_if_eq C 191 (oDec_at oX5_part 85 rfl) (by decide) (fun cd43 => ?_) (fun cd43 => ?_)
                · skip
                  refine r_iconst C (oDec_at oX5_part 97 rfl) (v := k0) (by rw [qk0]; rfl) ?_
                  have lk44 : ((u41).1 30 5).toInt = (s.1 30 5).toInt := congrArg Int32.toInt (((fu41 30 5 rfl).1).trans (((fu7 30 5 rfl).1).trans (((fu4 30 5 rfl).1).trans ((fu1 30 5 rfl).1))))
                  exact r_zret C (n_bool (by omega)) (oDec_at oX5_part 98 rfl) ⟨_, rfl, ⟨by omega, by omega⟩⟩
                · skip
                  refine r_aload_n C (j := 0) (oDec_at oX5_part 86 rfl) rfl rfl ?_
                  refine r_iload_n C (j := 2) (oDec_at oX5_part 87 rfl) rfl rfl ?_
                  refine r_bipush C (oDec_at oX5_part 88 rfl) (v := k24) (by rw [qk24]; rfl) ?_
                  refine r_icmp_ne C 178 (oDec_at oX5_part 89 rfl) (by decide) (fun cd45 => ?_) (fun cd45 => ?_)
                  · omega
                  · skip
                    refine r_sipush C (oDec_at oX5_part 90 rfl) (v := k10030) (by rw [qk10030]; rfl) ?_
                    refine r_goto C (tgt := 181) (oDec_at oX5_part 91 rfl) (by decide) ?_
                    have lk46 : ((u41).1 30 5).toInt = (s.1 30 5).toInt := congrArg Int32.toInt (((fu41 30 5 rfl).1).trans (((fu7 30 5 rfl).1).trans (((fu4 30 5 rfl).1).trans ((fu1 30 5 rfl).1))))
                    have lk47 : ((u41).1 30 5).toInt = (s.1 30 5).toInt := congrArg Int32.toInt (((fu41 30 5 rfl).1).trans (((fu7 30 5 rfl).1).trans (((fu4 30 5 rfl).1).trans ((fu1 30 5 rfl).1))))
                    refine r_callVi C oCl5 rfl miX5_choice mlX5_172 (h_X5_choice (u41) k10030 (by omega)) (by omega) rfl rfl rfl (Nat.le_of_ble_eq_true rfl) (oDec_at oX5_part 93 rfl) (fun r49 u48 pu48 fu48 => ?_)
                    try dsimp only at pu48
                    have rr49 := n_rng r49
                    refine r_if_eq C 191 (oDec_at oX5_part 94 rfl) (by decide) (fun cd50 => ?_) (fun cd50 => ?_)
                    · skip
                      refine r_iconst C (oDec_at oX5_part 97 rfl) (v := k0) (by rw [qk0]; rfl) ?_
                      exact r_zret C (n_bool (by omega)) (oDec_at oX5_part 98 rfl) ⟨_, rfl, ⟨by omega, by omega⟩⟩
                    · skip
                      refine r_iconst C (oDec_at oX5_part 95 rfl) (v := k1) (by rw [qk1]; rfl) ?_
                      refine r_goto C (tgt := 192) (oDec_at oX5_part 96 rfl) (by decide) ?_
                      exact r_zret C (n_bool (by omega)) (oDec_at oX5_part 98 rfl) ⟨_, rfl, ⟨by omega, by omega⟩⟩
              · skip
                refine r_iload_n C (j := 2) (oDec_at oX5_part 73 rfl) rfl rfl ?_
                refine r_bipush C (oDec_at oX5_part 74 rfl) (v := k25) (by rw [qk25]; rfl) ?_
                refine r_icmp_eq C 157 (oDec_at oX5_part 75 rfl) (by decide) (fun cd51 => ?_) (fun cd51 => ?_)
                · skip
                  refine r_aload_n C (j := 0) (oDec_at oX5_part 82 rfl) rfl rfl ?_
                  refine r_iload_n C (j := 2) (oDec_at oX5_part 83 rfl) rfl rfl ?_
                  refine r_callVi C oCl5 rfl miX5_expect mlX5_74 (ct_X5_expect l E (u7) r8 ) (by omega) rfl rfl rfl (Nat.le_of_ble_eq_true rfl) (oDec_at oX5_part 84 rfl) (fun r53 u52 pu52 fu52 => ?_)
                  try dsimp only at pu52
                  have rr53 := n_rng r53
                  refine r_if_eq C 191 (oDec_at oX5_part 85 rfl) (by decide) (fun cd54 => ?_) (fun cd54 => ?_)
                  · skip
                    refine r_iconst C (oDec_at oX5_part 97 rfl) (v := k0) (by rw [qk0]; rfl) ?_
                    have lk55 : ((u52).1 30 5).toInt = (s.1 30 5).toInt := congrArg Int32.toInt (((fu52 30 5 rfl).1).trans (((fu7 30 5 rfl).1).trans (((fu4 30 5 rfl).1).trans ((fu1 30 5 rfl).1))))
                    exact r_zret C (n_bool (by omega)) (oDec_at oX5_part 98 rfl) ⟨_, rfl, ⟨by omega, by omega⟩⟩
                  · skip
                    refine r_aload_n C (j := 0) (oDec_at oX5_part 86 rfl) rfl rfl ?_
                    refine r_iload_n C (j := 2) (oDec_at oX5_part 87 rfl) rfl rfl ?_
                    refine r_bipush C (oDec_at oX5_part 88 rfl) (v := k24) (by rw [qk24]; rfl) ?_
                    refine r_icmp_ne C 178 (oDec_at oX5_part 89 rfl) (by decide) (fun cd56 => ?_) (fun cd56 => ?_)
                    · skip
                      refine r_sipush C (oDec_at oX5_part 92 rfl) (v := k10031) (by rw [qk10031]; rfl) ?_
                      have lk57 : ((u52).1 30 5).toInt = (s.1 30 5).toInt := congrArg Int32.toInt (((fu52 30 5 rfl).1).trans (((fu7 30 5 rfl).1).trans (((fu4 30 5 rfl).1).trans ((fu1 30 5 rfl).1))))
                      have lk58 : ((u52).1 30 5).toInt = (s.1 30 5).toInt := congrArg Int32.toInt (((fu52 30 5 rfl).1).trans (((fu7 30 5 rfl).1).trans (((fu4 30 5 rfl).1).trans ((fu1 30 5 rfl).1))))
                      refine r_callVi C oCl5 rfl miX5_choice mlX5_172 (h_X5_choice (u52) k10031 (by omega)) (by omega) rfl rfl rfl (Nat.le_of_ble_eq_true rfl) (oDec_at oX5_part 93 rfl) (fun r60 u59 pu59 fu59 => ?_)
                      try dsimp only at pu59
                      have rr60 := n_rng r60
                      refine r_if_eq C 191 (oDec_at oX5_part 94 rfl) (by decide) (fun cd61 => ?_) (fun cd61 => ?_)
                      · skip
                        refine r_iconst C (oDec_at oX5_part 97 rfl) (v := k0) (by rw [qk0]; rfl) ?_
                        exact r_zret C (n_bool (by omega)) (oDec_at oX5_part 98 rfl) ⟨_, rfl, ⟨by omega, by omega⟩⟩
                      · skip
                        refine r_iconst C (oDec_at oX5_part 95 rfl) (v := k1) (by rw [qk1]; rfl) ?_
                        refine r_goto C (tgt := 192) (oDec_at oX5_part 96 rfl) (by decide) ?_
                        exact r_zret C (n_bool (by omega)) (oDec_at oX5_part 98 rfl) ⟨_, rfl, ⟨by omega, by omega⟩⟩
                    · omega
                · skip
                  refine r_aload_n C (j := 0) (oDec_at oX5_part 76 rfl) rfl rfl ?_
                  refine r_iconst C (oDec_at oX5_part 77 rfl) (v := k1) (by rw [qk1]; rfl) ?_
                  refine r_aload_n C (j := 0) (oDec_at oX5_part 78 rfl) rfl rfl ?_
                  obtain ⟨v62, ev62⟩ : ∃ z : Int32, (u7).1 30 2 = z := ⟨_, rfl⟩
                  have gv62 : (u7.1 30 2).toInt = v62.toInt := congrArg Int32.toInt (ev62)
                  refine r_geti (k := 2) (lo := 0) (hi := 1600) C v62 oCl5 rfl (by decide) flX5_23 rfl rfl (ev62) rfl rfl (oDec_at oX5_part 79 rfl) (fun b63 b63h => ?_)
                  refine r_callVi C oCl5 rfl miX5_fail mlX5_62 (ct_X5_fail l E (u7) k1 v62 ) (by omega) rfl rfl rfl (Nat.le_of_ble_eq_true rfl) (oDec_at oX5_part 80 rfl) (fun r65 u64 pu64 fu64 => ?_)
                  try dsimp only at pu64
                  have rr65 := n_rng r65
                  have lk66 : ((u64).1 30 5).toInt = (s.1 30 5).toInt := congrArg Int32.toInt (((fu64 30 5 rfl).1).trans (((fu7 30 5 rfl).1).trans (((fu4 30 5 rfl).1).trans ((fu1 30 5 rfl).1))))
                  exact r_zret C (n_bool (by omega)) (oDec_at oX5_part 81 rfl) ⟨_, rfl, ⟨by omega, by omega⟩⟩
            · skip
              refine r_aload_n C (j := 0) (oDec_at oX5_part 57 rfl) rfl rfl ?_
              refine r_getS (k := 1) (q2 := 0) C oCl5 rfl (by decide) flX5_19 rfl rfl rfl ks1 (oDec_at oX5_part 58 rfl) (fun b67 rb67 mb67 hkb67 => ?_)
              refine r_sipush C (oDec_at oX5_part 59 rfl) (v := k10000) (by rw [qk10000]; rfl) ?_
              refine r_iload_n C (j := 2) (oDec_at oX5_part 60 rfl) rfl rfl ?_
              obtain ⟨v68, ev68⟩ : ∃ z : Int32, z = k10000 + r8 := ⟨_, rfl⟩
              have rv68 := n_rng v68
              refine r_iadd C v68 (oDec_at oX5_part 61 rfl) ev68 ?_
              refine r_aload_n C (j := 0) (oDec_at oX5_part 62 rfl) rfl rfl ?_
              refine r_pc C 122 rfl ?_
              refine r_geti (k := 6) (lo := (-2147483648)) (hi := 2147483647) C v9 oCl5 rfl (by decide) flX5_109 rfl rfl (ev9) rfl rfl (oDec_at oX5_part 63 rfl) (fun _ _ => ?_)
              obtain ⟨v69, ev69⟩ : ∃ z : Int32, z = v68 - v9 := ⟨_, rfl⟩
              have rv69 := n_rng v69
              refine r_isub C v69 (oDec_at oX5_part 64 rfl) ev69 ?_
              refine r_callVv C oCl0 hkb67 miX0_emit mlX5_147 (ct_X0_emit l E (u7) b67 hkb67 v69 ) (by omega) rfl rfl rfl (Nat.le_of_ble_eq_true rfl) (oDec_at oX5_part 65 rfl) (fun u70 pu70 fu70 => ?_)
              try dsimp only at pu70
              refine r_aload_n C (j := 0) (oDec_at oX5_part 66 rfl) rfl rfl ?_
              refine r_iload_n C (j := 2) (oDec_at oX5_part 67 rfl) rfl rfl ?_
              refine r_callVi C oCl5 rfl miX5_expect mlX5_74 (ct_X5_expect l E (u70) r8 ) (by omega) rfl rfl rfl (Nat.le_of_ble_eq_true rfl) (oDec_at oX5_part 68 rfl) (fun r73 u72 pu72 fu72 => ?_)
              try dsimp only at pu72
              have rr73 := n_rng r73
              refine r_pc C 134 rfl ?_
              have lk74 : ((u72).1 30 5).toInt = (s.1 30 5).toInt := congrArg Int32.toInt (((fu72 30 5 rfl).1).trans (((fu70 30 5 rfl).1).trans (((fu7 30 5 rfl).1).trans (((fu4 30 5 rfl).1).trans ((fu1 30 5 rfl).1)))))
              exact r_zret C (n_bool (by omega)) (oDec_at oX5_part 69 rfl) ⟨_, rfl, ⟨by omega, by omega⟩⟩
        · skip
          refine r_aload_n C (j := 0) (oDec_at oX5_part 30 rfl) rfl rfl ?_
          refine r_iconst C (oDec_at oX5_part 31 rfl) (v := k0) (by rw [qk0]; rfl) ?_
          refine r_sipush C (oDec_at oX5_part 32 rfl) (v := k9999) (by rw [qk9999]; rfl) ?_
          refine r_callVi C oCl5 rfl miX5_number mlX5_70 (ct_X5_number l E (u4) k0 k9999 ) (by omega) rfl rfl rfl (Nat.le_of_ble_eq_true rfl) (oDec_at oX5_part 33 rfl) (fun r76 u75 pu75 fu75 => ?_)
          try dsimp only at pu75
          have rr76 := n_rng r76
          refine r_istore_n C (lv' := [(0, .ref (oad E 30)), (1, .int r2), (2, .int r76)]) [1, 2, 0] (oDec_at oX5_part 34 rfl) rfl (by decide) rfl ?_
          refine r_aload_n C (j := 0) (oDec_at oX5_part 35 rfl) rfl rfl ?_
          refine r_pc C 73 rfl ?_
          refine r_getS (k := 1) (q2 := 0) C oCl5 rfl (by decide) flX5_19 rfl rfl rfl ks1 (oDec_at oX5_part 36 rfl) (fun b77 rb77 mb77 hkb77 => ?_)
          refine r_iload_n C (j := 2) (oDec_at oX5_part 37 rfl) rfl rfl ?_
          refine r_callVv C oCl0 hkb77 miX0_emit mlX5_147 (ct_X0_emit l E (u75) b77 hkb77 r76 ) (by omega) rfl rfl rfl (Nat.le_of_ble_eq_true rfl) (oDec_at oX5_part 38 rfl) (fun u78 pu78 fu78 => ?_)
          try dsimp only at pu78
          refine r_iload_n C (j := 2) (oDec_at oX5_part 39 rfl) rfl rfl ?_
          refine r_iconst C (oDec_at oX5_part 40 rfl) (v := km1) (by rw [qkm1]; rfl) ?_
          refine r_icmp_eq C 89 (oDec_at oX5_part 41 rfl) (by decide) (fun cd80 => ?_) (fun cd80 => ?_)
          · skip
            refine r_iconst C (oDec_at oX5_part 44 rfl) (v := k0) (by rw [qk0]; rfl) ?_
            have lk81 : ((u78).1 30 5).toInt = (s.1 30 5).toInt := congrArg Int32.toInt (((fu78 30 5 rfl).1).trans (((fu75 30 5 rfl).1).trans (((fu4 30 5 rfl).1).trans ((fu1 30 5 rfl).1))))
            exact r_zret C (n_bool (by omega)) (oDec_at oX5_part 45 rfl) ⟨_, rfl, ⟨by omega, by omega⟩⟩
          · skip
            refine r_iconst C (oDec_at oX5_part 42 rfl) (v := k1) (by rw [qk1]; rfl) ?_
            refine r_goto C (tgt := 90) (oDec_at oX5_part 43 rfl) (by decide) ?_
            have lk82 : ((u78).1 30 5).toInt = (s.1 30 5).toInt := congrArg Int32.toInt (((fu78 30 5 rfl).1).trans (((fu75 30 5 rfl).1).trans (((fu4 30 5 rfl).1).trans ((fu1 30 5 rfl).1))))
            exact r_zret C (n_bool (by omega)) (oDec_at oX5_part 45 rfl) ⟨_, rfl, ⟨by omega, by omega⟩⟩
      · skip
        refine r_aload_n C (j := 0) (oDec_at oX5_part 6 rfl) rfl rfl ?_
        have lk83 : ((u1).1 30 5).toInt = (s.1 30 5).toInt := congrArg Int32.toInt ((fu1 30 5 rfl).1)
        refine r_callVi C oCl5 rfl miX5_opens mlX5_154 (ct_X5_opens l E (u1)  ) (by omega) rfl rfl rfl (Nat.le_of_ble_eq_true rfl) (oDec_at oX5_part 7 rfl) (fun r85 u84 pu84 fu84 => ?_)
        try dsimp only at pu84
        have rr85 := n_rng r85
        refine r_if_eq C 54 (oDec_at oX5_part 8 rfl) (by decide) (fun cd86 => ?_) (fun cd86 => ?_)
        · skip
          refine r_iconst C (oDec_at oX5_part 25 rfl) (v := k0) (by rw [qk0]; rfl) ?_
          exact r_zret C (n_bool (by omega)) (oDec_at oX5_part 26 rfl) ⟨_, rfl, ⟨by omega, by omega⟩⟩
        · skip
          refine r_aload_n C (j := 0) (oDec_at oX5_part 9 rfl) rfl rfl ?_
          refine r_bipush C (oDec_at oX5_part 10 rfl) (v := k40) (by rw [qk40]; rfl) ?_
          refine r_callVi C oCl5 rfl miX5_expectSign mlX5_88 (ct_X5_expectSign l E (u84) k40 (by omega)) (by omega) rfl rfl rfl (Nat.le_of_ble_eq_true rfl) (oDec_at oX5_part 11 rfl) (fun r88 u87 pu87 fu87 => ?_)
          try dsimp only at pu87
          have rr88 := n_rng r88
          refine r_if_eq C 54 (oDec_at oX5_part 12 rfl) (by decide) (fun cd89 => ?_) (fun cd89 => ?_)
          · skip
            refine r_iconst C (oDec_at oX5_part 25 rfl) (v := k0) (by rw [qk0]; rfl) ?_
            have lk90 : ((u87).1 30 5).toInt = (u84.1 30 5).toInt := congrArg Int32.toInt ((fu87 30 5 rfl).1)
            exact r_zret C (n_bool (by omega)) (oDec_at oX5_part 26 rfl) ⟨_, rfl, ⟨by omega, by omega⟩⟩
          · skip
            refine r_aload_n C (j := 0) (oDec_at oX5_part 13 rfl) rfl rfl ?_
            have lk91 : ((u87).1 30 5).toInt = (u84.1 30 5).toInt := congrArg Int32.toInt ((fu87 30 5 rfl).1)
            have lk92 : ((u87).1 30 5).toInt = (u84.1 30 5).toInt := congrArg Int32.toInt ((fu87 30 5 rfl).1)
            refine r_callVi C oCl5 rfl miX5_sum mlX5_160 (((ih (N - 1) (by omega)).2.2.2.1) (u87)  (by omega)) (by omega) rfl rfl rfl (Nat.le_of_ble_eq_true rfl) (oDec_at oX5_part 14 rfl) (fun r94 u93 pu93 fu93 => ?_)
            try dsimp only at pu93
            have rr94 := n_rng r94
            refine r_if_eq C 54 (oDec_at oX5_part 15 rfl) (by decide) (fun cd95 => ?_) (fun cd95 => ?_)
            · skip
              refine r_iconst C (oDec_at oX5_part 25 rfl) (v := k0) (by rw [qk0]; rfl) ?_
              exact r_zret C (n_bool (by omega)) (oDec_at oX5_part 26 rfl) ⟨_, rfl, ⟨by omega, by omega⟩⟩
            · skip
              refine r_aload_n C (j := 0) (oDec_at oX5_part 16 rfl) rfl rfl ?_
              refine r_bipush C (oDec_at oX5_part 17 rfl) (v := k41) (by rw [qk41]; rfl) ?_
              refine r_callVi C oCl5 rfl miX5_expectSign mlX5_88 (ct_X5_expectSign l E (u93) k41 (by omega)) (by omega) rfl rfl rfl (Nat.le_of_ble_eq_true rfl) (oDec_at oX5_part 18 rfl) (fun r97 u96 pu96 fu96 => ?_)
              try dsimp only at pu96
              have rr97 := n_rng r97
              refine r_if_eq C 54 (oDec_at oX5_part 19 rfl) (by decide) (fun cd98 => ?_) (fun cd98 => ?_)
              · skip
                refine r_iconst C (oDec_at oX5_part 25 rfl) (v := k0) (by rw [qk0]; rfl) ?_
                have lk99 : ((u96).1 30 5).toInt = (u93.1 30 5).toInt := congrArg Int32.toInt ((fu96 30 5 rfl).1)
                exact r_zret C (n_bool (by omega)) (oDec_at oX5_part 26 rfl) ⟨_, rfl, ⟨by omega, by omega⟩⟩
              · skip
                refine r_aload_n C (j := 0) (oDec_at oX5_part 20 rfl) rfl rfl ?_
                have lk100 : ((u96).1 30 5).toInt = (u93.1 30 5).toInt := congrArg Int32.toInt ((fu96 30 5 rfl).1)
                have lk101 : ((u96).1 30 5).toInt = (u93.1 30 5).toInt := congrArg Int32.toInt ((fu96 30 5 rfl).1)
                refine r_callVi C oCl5 rfl miX5_closes mlX5_157 (ct_X5_closes l E (u96)  (by omega)) (by omega) rfl rfl rfl (Nat.le_of_ble_eq_true rfl) (oDec_at oX5_part 21 rfl) (fun r103 u102 pu102 fu102 => ?_)
                try dsimp only at pu102
                have rr103 := n_rng r103
                refine r_if_eq C 54 (oDec_at oX5_part 22 rfl) (by decide) (fun cd104 => ?_) (fun cd104 => ?_)
                · skip
                  refine r_iconst C (oDec_at oX5_part 25 rfl) (v := k0) (by rw [qk0]; rfl) ?_
                  exact r_zret C (n_bool (by omega)) (oDec_at oX5_part 26 rfl) ⟨_, rfl, ⟨by omega, by omega⟩⟩
                · skip
                  refine r_iconst C (oDec_at oX5_part 23 rfl) (v := k1) (by rw [qk1]; rfl) ?_
                  refine r_goto C (tgt := 55) (oDec_at oX5_part 24 rfl) (by decide) ?_
                  exact r_zret C (n_bool (by omega)) (oDec_at oX5_part 26 rfl) ⟨_, rfl, ⟨by omega, by omega⟩⟩
    have h_X5_product : ∀ (s : oS)  (hp0 : 6 - (s.1 30 5).toInt ≤ (N : Int)), oMet l (7 + 10 * N + 3) yX5_product cX5_product 3 (some .boolean) [(0, 1), (5, 2), (5, 3), (5, 4), (5, 5), (5, 8), (5, 9), (20, 9999)] E s [.ref (oad E 30)] (oPi (fun r u => (0 ≤ r.toInt ∧ r.toInt ≤ 1) ∧ (r.toInt = 1 → (u.1 30 5).toInt = (s.1 30 5).toInt))) := by
      intro s hp0
      refine oMet.of (lv := [(0, .ref (oad E 30))]) (by decide +kernel) (Nat.le_of_ble_eq_true rfl) rfl (fun J C hT => ?_)
      have C : oC l (7 + 10 * N + 3) cX5_product RX5 3 (some .boolean) [(0, 1), (5, 2), (5, 3), (5, 4), (5, 5), (5, 8), (5, 9), (20, 9999)] E s (oPi (fun r u => (0 ≤ r.toInt ∧ r.toInt ≤ 1) ∧ (r.toInt = 1 → (u.1 30 5).toInt = (s.1 30 5).toInt))) J := C
      obtain ⟨k0, qk0⟩ : ∃ z : Int32, z = 0 := ⟨_, rfl⟩
      have ek0 : k0.toInt = 0 := by rw [qk0]; rfl
      obtain ⟨k1, qk1⟩ : ∃ z : Int32, z = 1 := ⟨_, rfl⟩
      have ek1 : k1.toInt = 1 := by rw [qk1]; rfl
      obtain ⟨k42, qk42⟩ : ∃ z : Int32, z = 42 := ⟨_, rfl⟩
      have ek42 : k42.toInt = 42 := by rw [qk42]; rfl
      obtain ⟨k47, qk47⟩ : ∃ z : Int32, z = 47 := ⟨_, rfl⟩
      have ek47 : k47.toInt = 47 := by rw [qk47]; rfl
      obtain ⟨k1600, qk1600⟩ : ∃ z : Int32, z = 1600 := ⟨_, rfl⟩
      have ek1600 : k1600.toInt = 1600 := by rw [qk1600]; rfl
      obtain ⟨k10028, qk10028⟩ : ∃ z : Int32, z = 10028 := ⟨_, rfl⟩
      have ek10028 : k10028.toInt = 10028 := by rw [qk10028]; rfl
      obtain ⟨k10029, qk10029⟩ : ∃ z : Int32, z = 10029 := ⟨_, rfl⟩
      have ek10029 : k10029.toInt = 10029 := by rw [qk10029]; rfl
      have key : ∀ n : Nat, (∀ (t : oS) (x1 : Int32), (0 ≤ x1.toInt ∧ x1.toInt ≤ 1600) → ((t.1 30 5).toInt = (s.1 30 5).toInt) → 1601 - x1.toInt ≤ (n : Int) → J t 11 [(0, .ref (oad E 30)), (1, .int x1)] []) := by
        intro n
        induction n using Nat.strongRecOn with
        | _ n ih =>
          skip
          · intro t x1  iv0 iv1 hmu
            have rx1 := n_rng x1
            refine r_iload_n C (j := 1) (oDec_at oX5_product 7 rfl) rfl rfl ?_
            refine r_sipush C (oDec_at oX5_product 8 rfl) (v := k1600) (by rw [qk1600]; rfl) ?_
            refine r_icmp_ge C 84 (oDec_at oX5_product 9 rfl) (by decide) (fun cd1 => ?_) (fun cd1 => ?_)
            · skip
              refine r_iconst C (oDec_at oX5_product 43 rfl) (v := k1) (by rw [qk1]; rfl) ?_
              exact r_zret C (n_bool (by omega)) (oDec_at oX5_product 44 rfl) ⟨_, rfl, ⟨by omega, by omega⟩⟩
            · skip
              refine r_aload_n C (j := 0) (oDec_at oX5_product 10 rfl) rfl rfl ?_
              refine r_callVi C oCl5 rfl miX5_peek mlX5_43 (ct_X5_peek l E (t)  ) (by omega) rfl rfl rfl (Nat.le_of_ble_eq_true rfl) (oDec_at oX5_product 11 rfl) (fun r3 u2 pu2 fu2 => ?_)
              try dsimp only at pu2
              have rr3 := n_rng r3
              refine r_istore_n C (lv' := [(0, .ref (oad E 30)), (1, .int x1), (2, .int r3)]) [1, 2, 0] (oDec_at oX5_product 12 rfl) rfl (by decide) rfl ?_
              refine r_iload_n C (j := 2) (oDec_at oX5_product 13 rfl) rfl rfl ?_
              refine r_bipush C (oDec_at oX5_product 14 rfl) (v := k42) (by rw [qk42]; rfl) ?_
              refine r_icmp_eq C 37 (oDec_at oX5_product 15 rfl) (by decide) (fun cd4 => ?_) (fun cd4 => ?_)
              · skip
                refine r_aload_n C (j := 0) (oDec_at oX5_product 21 rfl) rfl rfl ?_
                refine r_dup C (oDec_at oX5_product 22 rfl) rfl ?_
                obtain ⟨v5, ev5⟩ : ∃ z : Int32, (u2).1 30 2 = z := ⟨_, rfl⟩
                have gv5 : (u2.1 30 2).toInt = v5.toInt := congrArg Int32.toInt (ev5)
                refine r_geti (k := 2) (lo := 0) (hi := 1600) C v5 oCl5 rfl (by decide) flX5_23 rfl rfl (ev5) rfl rfl (oDec_at oX5_product 23 rfl) (fun b6 b6h => ?_)
                refine r_iconst C (oDec_at oX5_product 24 rfl) (v := k1) (by rw [qk1]; rfl) ?_
                obtain ⟨v7, ev7⟩ : ∃ z : Int32, z = v5 + k1 := ⟨_, rfl⟩
                have hv7 : v7.toInt = v5.toInt + k1.toInt := n_add ev7 (by omega) (by omega)
                refine r_iadd C v7 (oDec_at oX5_product 25 rfl) ev7 ?_
                refine r_puti (k := 2) (lo := 0) (hi := 1600) C oCl5 rfl (by decide) flX5_23 rfl rfl rfl rfl rfl rfl rfl rfl ⟨by omega, by omega⟩ (oDec_at oX5_product 26 rfl) ?_
                refine r_pc C 47 rfl ?_
                refine r_aload_n C (j := 0) (oDec_at oX5_product 27 rfl) rfl rfl ?_
                have lk8 : (((pI u2 30 2 v7)).1 30 5).toInt = (t.1 30 5).toInt := congrArg Int32.toInt (((pI_ne (a := 30) (b := 5) (c := 30) (k := 2) _ _ (Or.inr (by decide)))).trans ((fu2 30 5 rfl).1))
                have lk9 : (((pI u2 30 2 v7)).1 30 5).toInt = (t.1 30 5).toInt := congrArg Int32.toInt (((pI_ne (a := 30) (b := 5) (c := 30) (k := 2) _ _ (Or.inr (by decide)))).trans ((fu2 30 5 rfl).1))
                refine r_callVi C oCl5 rfl miX5_part mlX5_166 (h_X5_part ((pI u2 30 2 v7))  (by omega)) (by omega) rfl rfl rfl (Nat.le_of_ble_eq_true rfl) (oDec_at oX5_product 28 rfl) (fun r11 u10 pu10 fu10 => ?_)
                try dsimp only at pu10
                have rr11 := n_rng r11
                refine r_if_ne C 56 (oDec_at oX5_product 29 rfl) (by decide) (fun cd12 => ?_) (fun cd12 => ?_)
                · skip
                  refine r_aload_n C (j := 0) (oDec_at oX5_product 32 rfl) rfl rfl ?_
                  refine r_getS (k := 1) (q2 := 0) C oCl5 rfl (by decide) flX5_19 rfl rfl rfl ks1 (oDec_at oX5_product 33 rfl) (fun b13 rb13 mb13 hkb13 => ?_)
                  refine r_iload_n C (j := 2) (oDec_at oX5_product 34 rfl) rfl rfl ?_
                  refine r_bipush C (oDec_at oX5_product 35 rfl) (v := k42) (by rw [qk42]; rfl) ?_
                  refine r_icmp_ne C 72 (oDec_at oX5_product 36 rfl) (by decide) (fun cd14 => ?_) (fun cd14 => ?_)
                  · omega
                  · skip
                    refine r_sipush C (oDec_at oX5_product 37 rfl) (v := k10028) (by rw [qk10028]; rfl) ?_
                    refine r_goto C (tgt := 75) (oDec_at oX5_product 38 rfl) (by decide) ?_
                    refine r_callVv C oCl0 hkb13 miX0_emit mlX5_147 (ct_X0_emit l E (u10) b13 hkb13 k10028 ) (by omega) rfl rfl rfl (Nat.le_of_ble_eq_true rfl) (oDec_at oX5_product 40 rfl) (fun u15 pu15 fu15 => ?_)
                    try dsimp only at pu15
                    obtain ⟨v17, ev17⟩ : ∃ z : Int32, x1 + Int32.ofInt 1 = z := ⟨_, rfl⟩
                    have hv17 : v17.toInt = x1.toInt + 1 := n_inc ev17 (by decide) (by omega) (by omega)
                    refine r_iinc C (j := 1) (lv' := [(0, .ref (oad E 30)), (1, .int v17), (2, .int r3)]) v17 [1, 0, 2] (oDec_at oX5_product 41 rfl) rfl ev17 (by decide) rfl ?_
                    refine r_goto C (tgt := 11) (oDec_at oX5_product 42 rfl) (by decide) ?_
                    have lk18 : ((u15).1 30 5).toInt = (u10.1 30 5).toInt := congrArg Int32.toInt ((fu15 30 5 rfl).1)
                    refine r_pick C [0, 1] rfl ?_
                    exact (ih (n - 1) (by omega)) (u15) v17  (by omega) (by omega) (by omega)
                · skip
                  refine r_iconst C (oDec_at oX5_product 30 rfl) (v := k0) (by rw [qk0]; rfl) ?_
                  exact r_zret C (n_bool (by omega)) (oDec_at oX5_product 31 rfl) ⟨_, rfl, ⟨by omega, by omega⟩⟩
              · skip
                refine r_iload_n C (j := 2) (oDec_at oX5_product 16 rfl) rfl rfl ?_
                refine r_bipush C (oDec_at oX5_product 17 rfl) (v := k47) (by rw [qk47]; rfl) ?_
                refine r_icmp_eq C 37 (oDec_at oX5_product 18 rfl) (by decide) (fun cd19 => ?_) (fun cd19 => ?_)
                · skip
                  refine r_aload_n C (j := 0) (oDec_at oX5_product 21 rfl) rfl rfl ?_
                  refine r_dup C (oDec_at oX5_product 22 rfl) rfl ?_
                  obtain ⟨v20, ev20⟩ : ∃ z : Int32, (u2).1 30 2 = z := ⟨_, rfl⟩
                  have gv20 : (u2.1 30 2).toInt = v20.toInt := congrArg Int32.toInt (ev20)
                  refine r_geti (k := 2) (lo := 0) (hi := 1600) C v20 oCl5 rfl (by decide) flX5_23 rfl rfl (ev20) rfl rfl (oDec_at oX5_product 23 rfl) (fun b21 b21h => ?_)
                  refine r_iconst C (oDec_at oX5_product 24 rfl) (v := k1) (by rw [qk1]; rfl) ?_
                  obtain ⟨v22, ev22⟩ : ∃ z : Int32, z = v20 + k1 := ⟨_, rfl⟩
                  have hv22 : v22.toInt = v20.toInt + k1.toInt := n_add ev22 (by omega) (by omega)
                  refine r_iadd C v22 (oDec_at oX5_product 25 rfl) ev22 ?_
                  refine r_puti (k := 2) (lo := 0) (hi := 1600) C oCl5 rfl (by decide) flX5_23 rfl rfl rfl rfl rfl rfl rfl rfl ⟨by omega, by omega⟩ (oDec_at oX5_product 26 rfl) ?_
                  refine r_pc C 47 rfl ?_
                  refine r_aload_n C (j := 0) (oDec_at oX5_product 27 rfl) rfl rfl ?_
                  have lk23 : (((pI u2 30 2 v22)).1 30 5).toInt = (t.1 30 5).toInt := congrArg Int32.toInt (((pI_ne (a := 30) (b := 5) (c := 30) (k := 2) _ _ (Or.inr (by decide)))).trans ((fu2 30 5 rfl).1))
                  have lk24 : (((pI u2 30 2 v22)).1 30 5).toInt = (t.1 30 5).toInt := congrArg Int32.toInt (((pI_ne (a := 30) (b := 5) (c := 30) (k := 2) _ _ (Or.inr (by decide)))).trans ((fu2 30 5 rfl).1))
                  refine r_callVi C oCl5 rfl miX5_part mlX5_166 (h_X5_part ((pI u2 30 2 v22))  (by omega)) (by omega) rfl rfl rfl (Nat.le_of_ble_eq_true rfl) (oDec_at oX5_product 28 rfl) (fun r26 u25 pu25 fu25 => ?_)
                  try dsimp only at pu25
                  have rr26 := n_rng r26
                  refine r_if_ne C 56 (oDec_at oX5_product 29 rfl) (by decide) (fun cd27 => ?_) (fun cd27 => ?_)
                  · skip
                    refine r_aload_n C (j := 0) (oDec_at oX5_product 32 rfl) rfl rfl ?_
                    refine r_getS (k := 1) (q2 := 0) C oCl5 rfl (by decide) flX5_19 rfl rfl rfl ks1 (oDec_at oX5_product 33 rfl) (fun b28 rb28 mb28 hkb28 => ?_)
                    refine r_iload_n C (j := 2) (oDec_at oX5_product 34 rfl) rfl rfl ?_
                    refine r_bipush C (oDec_at oX5_product 35 rfl) (v := k42) (by rw [qk42]; rfl) ?_
                    refine r_icmp_ne C 72 (oDec_at oX5_product 36 rfl) (by decide) (fun cd29 => ?_) (fun cd29 => ?_)
                    · skip
                      refine r_sipush C (oDec_at oX5_product 39 rfl) (v := k10029) (by rw [qk10029]; rfl) ?_
                      refine r_callVv C oCl0 hkb28 miX0_emit mlX5_147 (ct_X0_emit l E (u25) b28 hkb28 k10029 ) (by omega) rfl rfl rfl (Nat.le_of_ble_eq_true rfl) (oDec_at oX5_product 40 rfl) (fun u30 pu30 fu30 => ?_)
                      try dsimp only at pu30
                      obtain ⟨v32, ev32⟩ : ∃ z : Int32, x1 + Int32.ofInt 1 = z := ⟨_, rfl⟩
                      have hv32 : v32.toInt = x1.toInt + 1 := n_inc ev32 (by decide) (by omega) (by omega)
                      refine r_iinc C (j := 1) (lv' := [(0, .ref (oad E 30)), (1, .int v32), (2, .int r3)]) v32 [1, 0, 2] (oDec_at oX5_product 41 rfl) rfl ev32 (by decide) rfl ?_
                      refine r_goto C (tgt := 11) (oDec_at oX5_product 42 rfl) (by decide) ?_
                      have lk33 : ((u30).1 30 5).toInt = (u25.1 30 5).toInt := congrArg Int32.toInt ((fu30 30 5 rfl).1)
                      refine r_pick C [0, 1] rfl ?_
                      exact (ih (n - 1) (by omega)) (u30) v32  (by omega) (by omega) (by omega)
                    · omega
                  · skip
                    refine r_iconst C (oDec_at oX5_product 30 rfl) (v := k0) (by rw [qk0]; rfl) ?_
                    exact r_zret C (n_bool (by omega)) (oDec_at oX5_product 31 rfl) ⟨_, rfl, ⟨by omega, by omega⟩⟩
                · skip
                  refine r_iconst C (oDec_at oX5_product 19 rfl) (v := k1) (by rw [qk1]; rfl) ?_
                  have lk34 : ((u2).1 30 5).toInt = (t.1 30 5).toInt := congrArg Int32.toInt ((fu2 30 5 rfl).1)
                  exact r_zret C (n_bool (by omega)) (oDec_at oX5_product 20 rfl) ⟨_, rfl, ⟨by omega, by omega⟩⟩
      refine r_aload_n C (j := 0) (oDec_at oX5_product 0 rfl) rfl rfl ?_
      refine r_callVi C oCl5 rfl miX5_part mlX5_166 (h_X5_part (s)  (by omega)) (by omega) rfl rfl rfl (Nat.le_of_ble_eq_true rfl) (oDec_at oX5_product 1 rfl) (fun r36 u35 pu35 fu35 => ?_)
      try dsimp only at pu35
      have rr36 := n_rng r36
      refine r_if_ne C 9 (oDec_at oX5_product 2 rfl) (by decide) (fun cd37 => ?_) (fun cd37 => ?_)
      · skip
        refine r_iconst C (oDec_at oX5_product 5 rfl) (v := k0) (by rw [qk0]; rfl) ?_
        refine r_istore_n C (lv' := [(0, .ref (oad E 30)), (1, .int k0)]) [1, 0] (oDec_at oX5_product 6 rfl) rfl (by decide) rfl ?_
        exact (key (1601 - k0.toInt).toNat) (u35) k0  (by omega) (by omega) (by omega)
      · skip
        refine r_iconst C (oDec_at oX5_product 3 rfl) (v := k0) (by rw [qk0]; rfl) ?_
        exact r_zret C (n_bool (by omega)) (oDec_at oX5_product 4 rfl) ⟨_, rfl, ⟨by omega, by omega⟩⟩
    have h_X5_sum : ∀ (s : oS)  (hp0 : 6 - (s.1 30 5).toInt ≤ (N : Int)), oMet l (7 + 10 * N + 4) yX5_sum cX5_sum 3 (some .boolean) [(0, 1), (5, 2), (5, 3), (5, 4), (5, 5), (5, 8), (5, 9), (20, 9999)] E s [.ref (oad E 30)] (oPi (fun r u => (0 ≤ r.toInt ∧ r.toInt ≤ 1) ∧ (r.toInt = 1 → (u.1 30 5).toInt = (s.1 30 5).toInt))) := by
      intro s hp0
      refine oMet.of (lv := [(0, .ref (oad E 30))]) (by decide +kernel) (Nat.le_of_ble_eq_true rfl) rfl (fun J C hT => ?_)
      have C : oC l (7 + 10 * N + 4) cX5_sum RX5 3 (some .boolean) [(0, 1), (5, 2), (5, 3), (5, 4), (5, 5), (5, 8), (5, 9), (20, 9999)] E s (oPi (fun r u => (0 ≤ r.toInt ∧ r.toInt ≤ 1) ∧ (r.toInt = 1 → (u.1 30 5).toInt = (s.1 30 5).toInt))) J := C
      obtain ⟨k0, qk0⟩ : ∃ z : Int32, z = 0 := ⟨_, rfl⟩
      have ek0 : k0.toInt = 0 := by rw [qk0]; rfl
      obtain ⟨k1, qk1⟩ : ∃ z : Int32, z = 1 := ⟨_, rfl⟩
      have ek1 : k1.toInt = 1 := by rw [qk1]; rfl
      obtain ⟨k43, qk43⟩ : ∃ z : Int32, z = 43 := ⟨_, rfl⟩
      have ek43 : k43.toInt = 43 := by rw [qk43]; rfl
      obtain ⟨k45, qk45⟩ : ∃ z : Int32, z = 45 := ⟨_, rfl⟩
      have ek45 : k45.toInt = 45 := by rw [qk45]; rfl
      obtain ⟨k1600, qk1600⟩ : ∃ z : Int32, z = 1600 := ⟨_, rfl⟩
      have ek1600 : k1600.toInt = 1600 := by rw [qk1600]; rfl
      obtain ⟨k10026, qk10026⟩ : ∃ z : Int32, z = 10026 := ⟨_, rfl⟩
      have ek10026 : k10026.toInt = 10026 := by rw [qk10026]; rfl
      obtain ⟨k10027, qk10027⟩ : ∃ z : Int32, z = 10027 := ⟨_, rfl⟩
      have ek10027 : k10027.toInt = 10027 := by rw [qk10027]; rfl
      have key : ∀ n : Nat, (∀ (t : oS) (x1 : Int32), (0 ≤ x1.toInt ∧ x1.toInt ≤ 1600) → ((t.1 30 5).toInt = (s.1 30 5).toInt) → 1601 - x1.toInt ≤ (n : Int) → J t 11 [(0, .ref (oad E 30)), (1, .int x1)] []) := by
        intro n
        induction n using Nat.strongRecOn with
        | _ n ih =>
          skip
          · intro t x1  iv0 iv1 hmu
            have rx1 := n_rng x1
            refine r_iload_n C (j := 1) (oDec_at oX5_sum 7 rfl) rfl rfl ?_
            refine r_sipush C (oDec_at oX5_sum 8 rfl) (v := k1600) (by rw [qk1600]; rfl) ?_
            refine r_icmp_ge C 84 (oDec_at oX5_sum 9 rfl) (by decide) (fun cd1 => ?_) (fun cd1 => ?_)
            · skip
              refine r_iconst C (oDec_at oX5_sum 43 rfl) (v := k1) (by rw [qk1]; rfl) ?_
              exact r_zret C (n_bool (by omega)) (oDec_at oX5_sum 44 rfl) ⟨_, rfl, ⟨by omega, by omega⟩⟩
            · skip
              refine r_aload_n C (j := 0) (oDec_at oX5_sum 10 rfl) rfl rfl ?_
              refine r_callVi C oCl5 rfl miX5_peek mlX5_43 (ct_X5_peek l E (t)  ) (by omega) rfl rfl rfl (Nat.le_of_ble_eq_true rfl) (oDec_at oX5_sum 11 rfl) (fun r3 u2 pu2 fu2 => ?_)
              try dsimp only at pu2
              have rr3 := n_rng r3
              refine r_istore_n C (lv' := [(0, .ref (oad E 30)), (1, .int x1), (2, .int r3)]) [1, 2, 0] (oDec_at oX5_sum 12 rfl) rfl (by decide) rfl ?_
              refine r_iload_n C (j := 2) (oDec_at oX5_sum 13 rfl) rfl rfl ?_
              refine r_bipush C (oDec_at oX5_sum 14 rfl) (v := k43) (by rw [qk43]; rfl) ?_
              refine r_icmp_eq C 37 (oDec_at oX5_sum 15 rfl) (by decide) (fun cd4 => ?_) (fun cd4 => ?_)
              · skip
                refine r_aload_n C (j := 0) (oDec_at oX5_sum 21 rfl) rfl rfl ?_
                refine r_dup C (oDec_at oX5_sum 22 rfl) rfl ?_
                obtain ⟨v5, ev5⟩ : ∃ z : Int32, (u2).1 30 2 = z := ⟨_, rfl⟩
                have gv5 : (u2.1 30 2).toInt = v5.toInt := congrArg Int32.toInt (ev5)
                refine r_geti (k := 2) (lo := 0) (hi := 1600) C v5 oCl5 rfl (by decide) flX5_23 rfl rfl (ev5) rfl rfl (oDec_at oX5_sum 23 rfl) (fun b6 b6h => ?_)
                refine r_iconst C (oDec_at oX5_sum 24 rfl) (v := k1) (by rw [qk1]; rfl) ?_
                obtain ⟨v7, ev7⟩ : ∃ z : Int32, z = v5 + k1 := ⟨_, rfl⟩
                have hv7 : v7.toInt = v5.toInt + k1.toInt := n_add ev7 (by omega) (by omega)
                refine r_iadd C v7 (oDec_at oX5_sum 25 rfl) ev7 ?_
                refine r_puti (k := 2) (lo := 0) (hi := 1600) C oCl5 rfl (by decide) flX5_23 rfl rfl rfl rfl rfl rfl rfl rfl ⟨by omega, by omega⟩ (oDec_at oX5_sum 26 rfl) ?_
                refine r_pc C 47 rfl ?_
                refine r_aload_n C (j := 0) (oDec_at oX5_sum 27 rfl) rfl rfl ?_
                have lk8 : (((pI u2 30 2 v7)).1 30 5).toInt = (t.1 30 5).toInt := congrArg Int32.toInt (((pI_ne (a := 30) (b := 5) (c := 30) (k := 2) _ _ (Or.inr (by decide)))).trans ((fu2 30 5 rfl).1))
                have lk9 : (((pI u2 30 2 v7)).1 30 5).toInt = (t.1 30 5).toInt := congrArg Int32.toInt (((pI_ne (a := 30) (b := 5) (c := 30) (k := 2) _ _ (Or.inr (by decide)))).trans ((fu2 30 5 rfl).1))
                refine r_callVi C oCl5 rfl miX5_product mlX5_163 (h_X5_product ((pI u2 30 2 v7))  (by omega)) (by omega) rfl rfl rfl (Nat.le_of_ble_eq_true rfl) (oDec_at oX5_sum 28 rfl) (fun r11 u10 pu10 fu10 => ?_)
                try dsimp only at pu10
                have rr11 := n_rng r11
                refine r_if_ne C 56 (oDec_at oX5_sum 29 rfl) (by decide) (fun cd12 => ?_) (fun cd12 => ?_)
                · skip
                  refine r_aload_n C (j := 0) (oDec_at oX5_sum 32 rfl) rfl rfl ?_
                  refine r_getS (k := 1) (q2 := 0) C oCl5 rfl (by decide) flX5_19 rfl rfl rfl ks1 (oDec_at oX5_sum 33 rfl) (fun b13 rb13 mb13 hkb13 => ?_)
                  refine r_iload_n C (j := 2) (oDec_at oX5_sum 34 rfl) rfl rfl ?_
                  refine r_bipush C (oDec_at oX5_sum 35 rfl) (v := k43) (by rw [qk43]; rfl) ?_
                  refine r_icmp_ne C 72 (oDec_at oX5_sum 36 rfl) (by decide) (fun cd14 => ?_) (fun cd14 => ?_)
                  · omega
                  · skip
                    refine r_sipush C (oDec_at oX5_sum 37 rfl) (v := k10026) (by rw [qk10026]; rfl) ?_
                    refine r_goto C (tgt := 75) (oDec_at oX5_sum 38 rfl) (by decide) ?_
                    refine r_callVv C oCl0 hkb13 miX0_emit mlX5_147 (ct_X0_emit l E (u10) b13 hkb13 k10026 ) (by omega) rfl rfl rfl (Nat.le_of_ble_eq_true rfl) (oDec_at oX5_sum 40 rfl) (fun u15 pu15 fu15 => ?_)
                    try dsimp only at pu15
                    obtain ⟨v17, ev17⟩ : ∃ z : Int32, x1 + Int32.ofInt 1 = z := ⟨_, rfl⟩
                    have hv17 : v17.toInt = x1.toInt + 1 := n_inc ev17 (by decide) (by omega) (by omega)
                    refine r_iinc C (j := 1) (lv' := [(0, .ref (oad E 30)), (1, .int v17), (2, .int r3)]) v17 [1, 0, 2] (oDec_at oX5_sum 41 rfl) rfl ev17 (by decide) rfl ?_
                    refine r_goto C (tgt := 11) (oDec_at oX5_sum 42 rfl) (by decide) ?_
                    have lk18 : ((u15).1 30 5).toInt = (u10.1 30 5).toInt := congrArg Int32.toInt ((fu15 30 5 rfl).1)
                    refine r_pick C [0, 1] rfl ?_
                    exact (ih (n - 1) (by omega)) (u15) v17  (by omega) (by omega) (by omega)
                · skip
                  refine r_iconst C (oDec_at oX5_sum 30 rfl) (v := k0) (by rw [qk0]; rfl) ?_
                  exact r_zret C (n_bool (by omega)) (oDec_at oX5_sum 31 rfl) ⟨_, rfl, ⟨by omega, by omega⟩⟩
              · skip
                refine r_iload_n C (j := 2) (oDec_at oX5_sum 16 rfl) rfl rfl ?_
                refine r_bipush C (oDec_at oX5_sum 17 rfl) (v := k45) (by rw [qk45]; rfl) ?_
                refine r_icmp_eq C 37 (oDec_at oX5_sum 18 rfl) (by decide) (fun cd19 => ?_) (fun cd19 => ?_)
                · skip
                  refine r_aload_n C (j := 0) (oDec_at oX5_sum 21 rfl) rfl rfl ?_
                  refine r_dup C (oDec_at oX5_sum 22 rfl) rfl ?_
                  obtain ⟨v20, ev20⟩ : ∃ z : Int32, (u2).1 30 2 = z := ⟨_, rfl⟩
                  have gv20 : (u2.1 30 2).toInt = v20.toInt := congrArg Int32.toInt (ev20)
                  refine r_geti (k := 2) (lo := 0) (hi := 1600) C v20 oCl5 rfl (by decide) flX5_23 rfl rfl (ev20) rfl rfl (oDec_at oX5_sum 23 rfl) (fun b21 b21h => ?_)
                  refine r_iconst C (oDec_at oX5_sum 24 rfl) (v := k1) (by rw [qk1]; rfl) ?_
                  obtain ⟨v22, ev22⟩ : ∃ z : Int32, z = v20 + k1 := ⟨_, rfl⟩
                  have hv22 : v22.toInt = v20.toInt + k1.toInt := n_add ev22 (by omega) (by omega)
                  refine r_iadd C v22 (oDec_at oX5_sum 25 rfl) ev22 ?_
                  refine r_puti (k := 2) (lo := 0) (hi := 1600) C oCl5 rfl (by decide) flX5_23 rfl rfl rfl rfl rfl rfl rfl rfl ⟨by omega, by omega⟩ (oDec_at oX5_sum 26 rfl) ?_
                  refine r_pc C 47 rfl ?_
                  refine r_aload_n C (j := 0) (oDec_at oX5_sum 27 rfl) rfl rfl ?_
                  have lk23 : (((pI u2 30 2 v22)).1 30 5).toInt = (t.1 30 5).toInt := congrArg Int32.toInt (((pI_ne (a := 30) (b := 5) (c := 30) (k := 2) _ _ (Or.inr (by decide)))).trans ((fu2 30 5 rfl).1))
                  have lk24 : (((pI u2 30 2 v22)).1 30 5).toInt = (t.1 30 5).toInt := congrArg Int32.toInt (((pI_ne (a := 30) (b := 5) (c := 30) (k := 2) _ _ (Or.inr (by decide)))).trans ((fu2 30 5 rfl).1))
                  refine r_callVi C oCl5 rfl miX5_product mlX5_163 (h_X5_product ((pI u2 30 2 v22))  (by omega)) (by omega) rfl rfl rfl (Nat.le_of_ble_eq_true rfl) (oDec_at oX5_sum 28 rfl) (fun r26 u25 pu25 fu25 => ?_)
                  try dsimp only at pu25
                  have rr26 := n_rng r26
                  refine r_if_ne C 56 (oDec_at oX5_sum 29 rfl) (by decide) (fun cd27 => ?_) (fun cd27 => ?_)
                  · skip
                    refine r_aload_n C (j := 0) (oDec_at oX5_sum 32 rfl) rfl rfl ?_
                    refine r_getS (k := 1) (q2 := 0) C oCl5 rfl (by decide) flX5_19 rfl rfl rfl ks1 (oDec_at oX5_sum 33 rfl) (fun b28 rb28 mb28 hkb28 => ?_)
                    refine r_iload_n C (j := 2) (oDec_at oX5_sum 34 rfl) rfl rfl ?_
                    refine r_bipush C (oDec_at oX5_sum 35 rfl) (v := k43) (by rw [qk43]; rfl) ?_
                    refine r_icmp_ne C 72 (oDec_at oX5_sum 36 rfl) (by decide) (fun cd29 => ?_) (fun cd29 => ?_)
                    · skip
                      refine r_sipush C (oDec_at oX5_sum 39 rfl) (v := k10027) (by rw [qk10027]; rfl) ?_
                      refine r_callVv C oCl0 hkb28 miX0_emit mlX5_147 (ct_X0_emit l E (u25) b28 hkb28 k10027 ) (by omega) rfl rfl rfl (Nat.le_of_ble_eq_true rfl) (oDec_at oX5_sum 40 rfl) (fun u30 pu30 fu30 => ?_)
                      try dsimp only at pu30
                      obtain ⟨v32, ev32⟩ : ∃ z : Int32, x1 + Int32.ofInt 1 = z := ⟨_, rfl⟩
                      have hv32 : v32.toInt = x1.toInt + 1 := n_inc ev32 (by decide) (by omega) (by omega)
                      refine r_iinc C (j := 1) (lv' := [(0, .ref (oad E 30)), (1, .int v32), (2, .int r3)]) v32 [1, 0, 2] (oDec_at oX5_sum 41 rfl) rfl ev32 (by decide) rfl ?_
                      refine r_goto C (tgt := 11) (oDec_at oX5_sum 42 rfl) (by decide) ?_
                      have lk33 : ((u30).1 30 5).toInt = (u25.1 30 5).toInt := congrArg Int32.toInt ((fu30 30 5 rfl).1)
                      refine r_pick C [0, 1] rfl ?_
                      exact (ih (n - 1) (by omega)) (u30) v32  (by omega) (by omega) (by omega)
                    · omega
                  · skip
                    refine r_iconst C (oDec_at oX5_sum 30 rfl) (v := k0) (by rw [qk0]; rfl) ?_
                    exact r_zret C (n_bool (by omega)) (oDec_at oX5_sum 31 rfl) ⟨_, rfl, ⟨by omega, by omega⟩⟩
                · skip
                  refine r_iconst C (oDec_at oX5_sum 19 rfl) (v := k1) (by rw [qk1]; rfl) ?_
                  have lk34 : ((u2).1 30 5).toInt = (t.1 30 5).toInt := congrArg Int32.toInt ((fu2 30 5 rfl).1)
                  exact r_zret C (n_bool (by omega)) (oDec_at oX5_sum 20 rfl) ⟨_, rfl, ⟨by omega, by omega⟩⟩
      refine r_aload_n C (j := 0) (oDec_at oX5_sum 0 rfl) rfl rfl ?_
      refine r_callVi C oCl5 rfl miX5_product mlX5_163 (h_X5_product (s)  (by omega)) (by omega) rfl rfl rfl (Nat.le_of_ble_eq_true rfl) (oDec_at oX5_sum 1 rfl) (fun r36 u35 pu35 fu35 => ?_)
      try dsimp only at pu35
      have rr36 := n_rng r36
      refine r_if_ne C 9 (oDec_at oX5_sum 2 rfl) (by decide) (fun cd37 => ?_) (fun cd37 => ?_)
      · skip
        refine r_iconst C (oDec_at oX5_sum 5 rfl) (v := k0) (by rw [qk0]; rfl) ?_
        refine r_istore_n C (lv' := [(0, .ref (oad E 30)), (1, .int k0)]) [1, 0] (oDec_at oX5_sum 6 rfl) rfl (by decide) rfl ?_
        exact (key (1601 - k0.toInt).toNat) (u35) k0  (by omega) (by omega) (by omega)
      · skip
        refine r_iconst C (oDec_at oX5_sum 3 rfl) (v := k0) (by rw [qk0]; rfl) ?_
        exact r_zret C (n_bool (by omega)) (oDec_at oX5_sum 4 rfl) ⟨_, rfl, ⟨by omega, by omega⟩⟩
    have h_X5_fact : ∀ (s : oS)  (hp0 : 6 - (s.1 30 5).toInt ≤ (N : Int)), oMet l (7 + 10 * N + 5) yX5_fact cX5_fact 3 (some .boolean) [(0, 1), (5, 2), (5, 3), (5, 4), (5, 5), (5, 8), (5, 9), (20, 9999)] E s [.ref (oad E 30)] (oPi (fun r u => (0 ≤ r.toInt ∧ r.toInt ≤ 1) ∧ (r.toInt = 1 → (u.1 30 5).toInt = (s.1 30 5).toInt))) := by
      intro s hp0
      refine oMet.of (lv := [(0, .ref (oad E 30))]) (by decide +kernel) (Nat.le_of_ble_eq_true rfl) rfl (fun J C hT => ?_)
      have C : oC l (7 + 10 * N + 5) cX5_fact RX5 3 (some .boolean) [(0, 1), (5, 2), (5, 3), (5, 4), (5, 5), (5, 8), (5, 9), (20, 9999)] E s (oPi (fun r u => (0 ≤ r.toInt ∧ r.toInt ≤ 1) ∧ (r.toInt = 1 → (u.1 30 5).toInt = (s.1 30 5).toInt))) J := C
      obtain ⟨k0, qk0⟩ : ∃ z : Int32, z = 0 := ⟨_, rfl⟩
      have ek0 : k0.toInt = 0 := by rw [qk0]; rfl
      obtain ⟨k1, qk1⟩ : ∃ z : Int32, z = 1 := ⟨_, rfl⟩
      have ek1 : k1.toInt = 1 := by rw [qk1]; rfl
      obtain ⟨k9, qk9⟩ : ∃ z : Int32, z = 9 := ⟨_, rfl⟩
      have ek9 : k9.toInt = 9 := by rw [qk9]; rfl
      obtain ⟨k10, qk10⟩ : ∃ z : Int32, z = 10 := ⟨_, rfl⟩
      have ek10 : k10.toInt = 10 := by rw [qk10]; rfl
      obtain ⟨k60, qk60⟩ : ∃ z : Int32, z = 60 := ⟨_, rfl⟩
      have ek60 : k60.toInt = 60 := by rw [qk60]; rfl
      obtain ⟨k61, qk61⟩ : ∃ z : Int32, z = 61 := ⟨_, rfl⟩
      have ek61 : k61.toInt = 61 := by rw [qk61]; rfl
      obtain ⟨k62, qk62⟩ : ∃ z : Int32, z = 62 := ⟨_, rfl⟩
      have ek62 : k62.toInt = 62 := by rw [qk62]; rfl
      obtain ⟨k91, qk91⟩ : ∃ z : Int32, z = 91 := ⟨_, rfl⟩
      have ek91 : k91.toInt = 91 := by rw [qk91]; rfl
      obtain ⟨k93, qk93⟩ : ∃ z : Int32, z = 93 := ⟨_, rfl⟩
      have ek93 : k93.toInt = 93 := by rw [qk93]; rfl
      obtain ⟨k10020, qk10020⟩ : ∃ z : Int32, z = 10020 := ⟨_, rfl⟩
      have ek10020 : k10020.toInt = 10020 := by rw [qk10020]; rfl
      obtain ⟨k10023, qk10023⟩ : ∃ z : Int32, z = 10023 := ⟨_, rfl⟩
      have ek10023 : k10023.toInt = 10023 := by rw [qk10023]; rfl
      obtain ⟨k10024, qk10024⟩ : ∃ z : Int32, z = 10024 := ⟨_, rfl⟩
      have ek10024 : k10024.toInt = 10024 := by rw [qk10024]; rfl
      obtain ⟨k10025, qk10025⟩ : ∃ z : Int32, z = 10025 := ⟨_, rfl⟩
      have ek10025 : k10025.toInt = 10025 := by rw [qk10025]; rfl
      refine r_aload_n C (j := 0) (oDec_at oX5_fact 0 rfl) rfl rfl ?_
      refine r_callVi C oCl5 rfl miX5_peek mlX5_43 (ct_X5_peek l E (s)  ) (by omega) rfl rfl rfl (Nat.le_of_ble_eq_true rfl) (oDec_at oX5_fact 1 rfl) (fun r2 u1 pu1 fu1 => ?_)
      try dsimp only at pu1
      have rr2 := n_rng r2
      refine r_bipush C (oDec_at oX5_fact 2 rfl) (v := k91) (by rw [qk91]; rfl) ?_
      refine r_icmp_ne C 54 (oDec_at oX5_fact 3 rfl) (by decide) (fun cd3 => ?_) (fun cd3 => ?_)
      · skip
        refine r_aload_n C (j := 0) (oDec_at oX5_fact 25 rfl) rfl rfl ?_
        refine r_callVi C oCl5 rfl miX5_wordAhead mlX5_91 (ct_X5_wordAhead l E (u1)  ) (by omega) rfl rfl rfl (Nat.le_of_ble_eq_true rfl) (oDec_at oX5_fact 26 rfl) (fun r5 u4 pu4 fu4 => ?_)
        try dsimp only at pu4
        have rr5 := n_rng r5
        refine r_istore_n C (lv' := [(0, .ref (oad E 30)), (1, .int r5)]) [1, 0] (oDec_at oX5_fact 27 rfl) rfl (by decide) rfl ?_
        refine r_iload_n C (j := 1) (oDec_at oX5_fact 28 rfl) rfl rfl ?_
        refine r_bipush C (oDec_at oX5_fact 29 rfl) (v := k9) (by rw [qk9]; rfl) ?_
        refine r_icmp_ne C 105 (oDec_at oX5_fact 30 rfl) (by decide) (fun cd6 => ?_) (fun cd6 => ?_)
        · skip
          refine r_iload_n C (j := 1) (oDec_at oX5_fact 50 rfl) rfl rfl ?_
          refine r_bipush C (oDec_at oX5_fact 51 rfl) (v := k10) (by rw [qk10]; rfl) ?_
          refine r_icmp_ne C 126 (oDec_at oX5_fact 52 rfl) (by decide) (fun cd7 => ?_) (fun cd7 => ?_)
          · skip
            refine r_aload_n C (j := 0) (oDec_at oX5_fact 61 rfl) rfl rfl ?_
            have lk8 : ((u4).1 30 5).toInt = (s.1 30 5).toInt := congrArg Int32.toInt (((fu4 30 5 rfl).1).trans ((fu1 30 5 rfl).1))
            have lk9 : ((u4).1 30 5).toInt = (s.1 30 5).toInt := congrArg Int32.toInt (((fu4 30 5 rfl).1).trans ((fu1 30 5 rfl).1))
            refine r_callVi C oCl5 rfl miX5_sum mlX5_160 (h_X5_sum (u4)  (by omega)) (by omega) rfl rfl rfl (Nat.le_of_ble_eq_true rfl) (oDec_at oX5_fact 62 rfl) (fun r11 u10 pu10 fu10 => ?_)
            try dsimp only at pu10
            have rr11 := n_rng r11
            refine r_if_ne C 135 (oDec_at oX5_fact 63 rfl) (by decide) (fun cd12 => ?_) (fun cd12 => ?_)
            · skip
              refine r_aload_n C (j := 0) (oDec_at oX5_fact 66 rfl) rfl rfl ?_
              refine r_callVi C oCl5 rfl miX5_peek mlX5_43 (ct_X5_peek l E (u10)  ) (by omega) rfl rfl rfl (Nat.le_of_ble_eq_true rfl) (oDec_at oX5_fact 67 rfl) (fun r14 u13 pu13 fu13 => ?_)
              try dsimp only at pu13
              have rr14 := n_rng r14
              refine r_istore_n C (lv' := [(0, .ref (oad E 30)), (1, .int r5), (2, .int r14)]) [1, 2, 0] (oDec_at oX5_fact 68 rfl) rfl (by decide) rfl ?_
              refine r_iload_n C (j := 2) (oDec_at oX5_fact 69 rfl) rfl rfl ?_
              refine r_bipush C (oDec_at oX5_fact 70 rfl) (v := k60) (by rw [qk60]; rfl) ?_
              refine r_icmp_eq C 168 (oDec_at oX5_fact 71 rfl) (by decide) (fun cd15 => ?_) (fun cd15 => ?_)
              · skip
                refine r_aload_n C (j := 0) (oDec_at oX5_fact 84 rfl) rfl rfl ?_
                refine r_dup C (oDec_at oX5_fact 85 rfl) rfl ?_
                obtain ⟨v16, ev16⟩ : ∃ z : Int32, (u13).1 30 2 = z := ⟨_, rfl⟩
                have gv16 : (u13.1 30 2).toInt = v16.toInt := congrArg Int32.toInt (ev16)
                refine r_geti (k := 2) (lo := 0) (hi := 1600) C v16 oCl5 rfl (by decide) flX5_23 rfl rfl (ev16) rfl rfl (oDec_at oX5_fact 86 rfl) (fun b17 b17h => ?_)
                refine r_iconst C (oDec_at oX5_fact 87 rfl) (v := k1) (by rw [qk1]; rfl) ?_
                obtain ⟨v18, ev18⟩ : ∃ z : Int32, z = v16 + k1 := ⟨_, rfl⟩
                have hv18 : v18.toInt = v16.toInt + k1.toInt := n_add ev18 (by omega) (by omega)
                refine r_iadd C v18 (oDec_at oX5_fact 88 rfl) ev18 ?_
                refine r_puti (k := 2) (lo := 0) (hi := 1600) C oCl5 rfl (by decide) flX5_23 rfl rfl rfl rfl rfl rfl rfl rfl ⟨by omega, by omega⟩ (oDec_at oX5_fact 89 rfl) ?_
                refine r_pc C 178 rfl ?_
                refine r_aload_n C (j := 0) (oDec_at oX5_fact 90 rfl) rfl rfl ?_
                have lk19 : (((pI u13 30 2 v18)).1 30 5).toInt = (u10.1 30 5).toInt := congrArg Int32.toInt (((pI_ne (a := 30) (b := 5) (c := 30) (k := 2) _ _ (Or.inr (by decide)))).trans ((fu13 30 5 rfl).1))
                have lk20 : (((pI u13 30 2 v18)).1 30 5).toInt = (u10.1 30 5).toInt := congrArg Int32.toInt (((pI_ne (a := 30) (b := 5) (c := 30) (k := 2) _ _ (Or.inr (by decide)))).trans ((fu13 30 5 rfl).1))
                refine r_callVi C oCl5 rfl miX5_sum mlX5_160 (h_X5_sum ((pI u13 30 2 v18))  (by omega)) (by omega) rfl rfl rfl (Nat.le_of_ble_eq_true rfl) (oDec_at oX5_fact 91 rfl) (fun r22 u21 pu21 fu21 => ?_)
                try dsimp only at pu21
                have rr22 := n_rng r22
                refine r_if_ne C 187 (oDec_at oX5_fact 92 rfl) (by decide) (fun cd23 => ?_) (fun cd23 => ?_)
                · skip
                  refine r_aload_n C (j := 0) (oDec_at oX5_fact 95 rfl) rfl rfl ?_
                  refine r_getS (k := 1) (q2 := 0) C oCl5 rfl (by decide) flX5_19 rfl rfl rfl ks1 (oDec_at oX5_fact 96 rfl) (fun b24 rb24 mb24 hkb24 => ?_)
                  refine r_iload_n C (j := 2) (oDec_at oX5_fact 97 rfl) rfl rfl ?_
                  refine r_bipush C (oDec_at oX5_fact 98 rfl) (v := k60) (by rw [qk60]; rfl) ?_
                  refine r_icmp_ne C 203 (oDec_at oX5_fact 99 rfl) (by decide) (fun cd25 => ?_) (fun cd25 => ?_)
                  · omega
                  · skip
                    refine r_sipush C (oDec_at oX5_fact 100 rfl) (v := k10023) (by rw [qk10023]; rfl) ?_
                    refine r_goto C (tgt := 218) (oDec_at oX5_fact 101 rfl) (by decide) ?_
                    refine r_callVv C oCl0 hkb24 miX0_emit mlX5_147 (ct_X0_emit l E (u21) b24 hkb24 k10023 ) (by omega) rfl rfl rfl (Nat.le_of_ble_eq_true rfl) (oDec_at oX5_fact 108 rfl) (fun u26 pu26 fu26 => ?_)
                    try dsimp only at pu26
                    refine r_iconst C (oDec_at oX5_fact 109 rfl) (v := k1) (by rw [qk1]; rfl) ?_
                    have lk28 : ((u26).1 30 5).toInt = (u21.1 30 5).toInt := congrArg Int32.toInt ((fu26 30 5 rfl).1)
                    exact r_zret C (n_bool (by omega)) (oDec_at oX5_fact 110 rfl) ⟨_, rfl, ⟨by omega, by omega⟩⟩
                · skip
                  refine r_iconst C (oDec_at oX5_fact 93 rfl) (v := k0) (by rw [qk0]; rfl) ?_
                  exact r_zret C (n_bool (by omega)) (oDec_at oX5_fact 94 rfl) ⟨_, rfl, ⟨by omega, by omega⟩⟩
              · skip
                refine r_iload_n C (j := 2) (oDec_at oX5_fact 72 rfl) rfl rfl ?_
                refine r_bipush C (oDec_at oX5_fact 73 rfl) (v := k62) (by rw [qk62]; rfl) ?_
                refine r_icmp_eq C 168 (oDec_at oX5_fact 74 rfl) (by decide) (fun cd29 => ?_) (fun cd29 => ?_)
                · skip
                  refine r_aload_n C (j := 0) (oDec_at oX5_fact 84 rfl) rfl rfl ?_
                  refine r_dup C (oDec_at oX5_fact 85 rfl) rfl ?_
                  obtain ⟨v30, ev30⟩ : ∃ z : Int32, (u13).1 30 2 = z := ⟨_, rfl⟩
                  have gv30 : (u13.1 30 2).toInt = v30.toInt := congrArg Int32.toInt (ev30)
                  refine r_geti (k := 2) (lo := 0) (hi := 1600) C v30 oCl5 rfl (by decide) flX5_23 rfl rfl (ev30) rfl rfl (oDec_at oX5_fact 86 rfl) (fun b31 b31h => ?_)
                  refine r_iconst C (oDec_at oX5_fact 87 rfl) (v := k1) (by rw [qk1]; rfl) ?_
                  obtain ⟨v32, ev32⟩ : ∃ z : Int32, z = v30 + k1 := ⟨_, rfl⟩
                  have hv32 : v32.toInt = v30.toInt + k1.toInt := n_add ev32 (by omega) (by omega)
                  refine r_iadd C v32 (oDec_at oX5_fact 88 rfl) ev32 ?_
                  refine r_puti (k := 2) (lo := 0) (hi := 1600) C oCl5 rfl (by decide) flX5_23 rfl rfl rfl rfl rfl rfl rfl rfl ⟨by omega, by omega⟩ (oDec_at oX5_fact 89 rfl) ?_
                  refine r_pc C 178 rfl ?_
                  refine r_aload_n C (j := 0) (oDec_at oX5_fact 90 rfl) rfl rfl ?_
                  have lk33 : (((pI u13 30 2 v32)).1 30 5).toInt = (u10.1 30 5).toInt := congrArg Int32.toInt (((pI_ne (a := 30) (b := 5) (c := 30) (k := 2) _ _ (Or.inr (by decide)))).trans ((fu13 30 5 rfl).1))
                  have lk34 : (((pI u13 30 2 v32)).1 30 5).toInt = (u10.1 30 5).toInt := congrArg Int32.toInt (((pI_ne (a := 30) (b := 5) (c := 30) (k := 2) _ _ (Or.inr (by decide)))).trans ((fu13 30 5 rfl).1))
                  refine r_callVi C oCl5 rfl miX5_sum mlX5_160 (h_X5_sum ((pI u13 30 2 v32))  (by omega)) (by omega) rfl rfl rfl (Nat.le_of_ble_eq_true rfl) (oDec_at oX5_fact 91 rfl) (fun r36 u35 pu35 fu35 => ?_)
                  try dsimp only at pu35
                  have rr36 := n_rng r36
                  refine r_if_ne C 187 (oDec_at oX5_fact 92 rfl) (by decide) (fun cd37 => ?_) (fun cd37 => ?_)
                  · skip
                    refine r_aload_n C (j := 0) (oDec_at oX5_fact 95 rfl) rfl rfl ?_
                    refine r_getS (k := 1) (q2 := 0) C oCl5 rfl (by decide) flX5_19 rfl rfl rfl ks1 (oDec_at oX5_fact 96 rfl) (fun b38 rb38 mb38 hkb38 => ?_)
                    refine r_iload_n C (j := 2) (oDec_at oX5_fact 97 rfl) rfl rfl ?_
                    refine r_bipush C (oDec_at oX5_fact 98 rfl) (v := k60) (by rw [qk60]; rfl) ?_
                    refine r_icmp_ne C 203 (oDec_at oX5_fact 99 rfl) (by decide) (fun cd39 => ?_) (fun cd39 => ?_)
                    · skip
                      refine r_iload_n C (j := 2) (oDec_at oX5_fact 102 rfl) rfl rfl ?_
                      refine r_bipush C (oDec_at oX5_fact 103 rfl) (v := k62) (by rw [qk62]; rfl) ?_
                      refine r_icmp_ne C 215 (oDec_at oX5_fact 104 rfl) (by decide) (fun cd40 => ?_) (fun cd40 => ?_)
                      · omega
                      · skip
                        refine r_sipush C (oDec_at oX5_fact 105 rfl) (v := k10024) (by rw [qk10024]; rfl) ?_
                        refine r_goto C (tgt := 218) (oDec_at oX5_fact 106 rfl) (by decide) ?_
                        refine r_callVv C oCl0 hkb38 miX0_emit mlX5_147 (ct_X0_emit l E (u35) b38 hkb38 k10024 ) (by omega) rfl rfl rfl (Nat.le_of_ble_eq_true rfl) (oDec_at oX5_fact 108 rfl) (fun u41 pu41 fu41 => ?_)
                        try dsimp only at pu41
                        refine r_iconst C (oDec_at oX5_fact 109 rfl) (v := k1) (by rw [qk1]; rfl) ?_
                        have lk43 : ((u41).1 30 5).toInt = (u35.1 30 5).toInt := congrArg Int32.toInt ((fu41 30 5 rfl).1)
                        exact r_zret C (n_bool (by omega)) (oDec_at oX5_fact 110 rfl) ⟨_, rfl, ⟨by omega, by omega⟩⟩
                    · omega
                  · skip
                    refine r_iconst C (oDec_at oX5_fact 93 rfl) (v := k0) (by rw [qk0]; rfl) ?_
                    exact r_zret C (n_bool (by omega)) (oDec_at oX5_fact 94 rfl) ⟨_, rfl, ⟨by omega, by omega⟩⟩
                · skip
                  refine r_iload_n C (j := 2) (oDec_at oX5_fact 75 rfl) rfl rfl ?_
                  refine r_bipush C (oDec_at oX5_fact 76 rfl) (v := k61) (by rw [qk61]; rfl) ?_
                  refine r_icmp_eq C 168 (oDec_at oX5_fact 77 rfl) (by decide) (fun cd44 => ?_) (fun cd44 => ?_)
                  · skip
                    refine r_aload_n C (j := 0) (oDec_at oX5_fact 84 rfl) rfl rfl ?_
                    refine r_dup C (oDec_at oX5_fact 85 rfl) rfl ?_
                    obtain ⟨v45, ev45⟩ : ∃ z : Int32, (u13).1 30 2 = z := ⟨_, rfl⟩
                    have gv45 : (u13.1 30 2).toInt = v45.toInt := congrArg Int32.toInt (ev45)
                    refine r_geti (k := 2) (lo := 0) (hi := 1600) C v45 oCl5 rfl (by decide) flX5_23 rfl rfl (ev45) rfl rfl (oDec_at oX5_fact 86 rfl) (fun b46 b46h => ?_)
                    refine r_iconst C (oDec_at oX5_fact 87 rfl) (v := k1) (by rw [qk1]; rfl) ?_
                    obtain ⟨v47, ev47⟩ : ∃ z : Int32, z = v45 + k1 := ⟨_, rfl⟩
                    have hv47 : v47.toInt = v45.toInt + k1.toInt := n_add ev47 (by omega) (by omega)
                    refine r_iadd C v47 (oDec_at oX5_fact 88 rfl) ev47 ?_
                    refine r_puti (k := 2) (lo := 0) (hi := 1600) C oCl5 rfl (by decide) flX5_23 rfl rfl rfl rfl rfl rfl rfl rfl ⟨by omega, by omega⟩ (oDec_at oX5_fact 89 rfl) ?_
                    refine r_pc C 178 rfl ?_
                    refine r_aload_n C (j := 0) (oDec_at oX5_fact 90 rfl) rfl rfl ?_
                    have lk48 : (((pI u13 30 2 v47)).1 30 5).toInt = (u10.1 30 5).toInt := congrArg Int32.toInt (((pI_ne (a := 30) (b := 5) (c := 30) (k := 2) _ _ (Or.inr (by decide)))).trans ((fu13 30 5 rfl).1))
                    have lk49 : (((pI u13 30 2 v47)).1 30 5).toInt = (u10.1 30 5).toInt := congrArg Int32.toInt (((pI_ne (a := 30) (b := 5) (c := 30) (k := 2) _ _ (Or.inr (by decide)))).trans ((fu13 30 5 rfl).1))
                    refine r_callVi C oCl5 rfl miX5_sum mlX5_160 (h_X5_sum ((pI u13 30 2 v47))  (by omega)) (by omega) rfl rfl rfl (Nat.le_of_ble_eq_true rfl) (oDec_at oX5_fact 91 rfl) (fun r51 u50 pu50 fu50 => ?_)
                    try dsimp only at pu50
                    have rr51 := n_rng r51
                    refine r_if_ne C 187 (oDec_at oX5_fact 92 rfl) (by decide) (fun cd52 => ?_) (fun cd52 => ?_)
                    · skip
                      refine r_aload_n C (j := 0) (oDec_at oX5_fact 95 rfl) rfl rfl ?_
                      refine r_getS (k := 1) (q2 := 0) C oCl5 rfl (by decide) flX5_19 rfl rfl rfl ks1 (oDec_at oX5_fact 96 rfl) (fun b53 rb53 mb53 hkb53 => ?_)
                      refine r_iload_n C (j := 2) (oDec_at oX5_fact 97 rfl) rfl rfl ?_
                      refine r_bipush C (oDec_at oX5_fact 98 rfl) (v := k60) (by rw [qk60]; rfl) ?_
                      refine r_icmp_ne C 203 (oDec_at oX5_fact 99 rfl) (by decide) (fun cd54 => ?_) (fun cd54 => ?_)
                      · skip
                        refine r_iload_n C (j := 2) (oDec_at oX5_fact 102 rfl) rfl rfl ?_
                        refine r_bipush C (oDec_at oX5_fact 103 rfl) (v := k62) (by rw [qk62]; rfl) ?_
                        refine r_icmp_ne C 215 (oDec_at oX5_fact 104 rfl) (by decide) (fun cd55 => ?_) (fun cd55 => ?_)
                        · skip
                          refine r_sipush C (oDec_at oX5_fact 107 rfl) (v := k10025) (by rw [qk10025]; rfl) ?_
                          refine r_callVv C oCl0 hkb53 miX0_emit mlX5_147 (ct_X0_emit l E (u50) b53 hkb53 k10025 ) (by omega) rfl rfl rfl (Nat.le_of_ble_eq_true rfl) (oDec_at oX5_fact 108 rfl) (fun u56 pu56 fu56 => ?_)
                          try dsimp only at pu56
                          refine r_iconst C (oDec_at oX5_fact 109 rfl) (v := k1) (by rw [qk1]; rfl) ?_
                          have lk58 : ((u56).1 30 5).toInt = (u50.1 30 5).toInt := congrArg Int32.toInt ((fu56 30 5 rfl).1)
                          exact r_zret C (n_bool (by omega)) (oDec_at oX5_fact 110 rfl) ⟨_, rfl, ⟨by omega, by omega⟩⟩
                        · omega
                      · omega
                    · skip
                      refine r_iconst C (oDec_at oX5_fact 93 rfl) (v := k0) (by rw [qk0]; rfl) ?_
                      exact r_zret C (n_bool (by omega)) (oDec_at oX5_fact 94 rfl) ⟨_, rfl, ⟨by omega, by omega⟩⟩
                  · skip
                    refine r_aload_n C (j := 0) (oDec_at oX5_fact 78 rfl) rfl rfl ?_
                    refine r_iconst C (oDec_at oX5_fact 79 rfl) (v := k1) (by rw [qk1]; rfl) ?_
                    refine r_aload_n C (j := 0) (oDec_at oX5_fact 80 rfl) rfl rfl ?_
                    obtain ⟨v59, ev59⟩ : ∃ z : Int32, (u13).1 30 2 = z := ⟨_, rfl⟩
                    have gv59 : (u13.1 30 2).toInt = v59.toInt := congrArg Int32.toInt (ev59)
                    refine r_geti (k := 2) (lo := 0) (hi := 1600) C v59 oCl5 rfl (by decide) flX5_23 rfl rfl (ev59) rfl rfl (oDec_at oX5_fact 81 rfl) (fun b60 b60h => ?_)
                    refine r_callVi C oCl5 rfl miX5_fail mlX5_62 (ct_X5_fail l E (u13) k1 v59 ) (by omega) rfl rfl rfl (Nat.le_of_ble_eq_true rfl) (oDec_at oX5_fact 82 rfl) (fun r62 u61 pu61 fu61 => ?_)
                    try dsimp only at pu61
                    have rr62 := n_rng r62
                    have lk63 : ((u61).1 30 5).toInt = (u10.1 30 5).toInt := congrArg Int32.toInt (((fu61 30 5 rfl).1).trans ((fu13 30 5 rfl).1))
                    exact r_zret C (n_bool (by omega)) (oDec_at oX5_fact 83 rfl) ⟨_, rfl, ⟨by omega, by omega⟩⟩
            · skip
              refine r_iconst C (oDec_at oX5_fact 64 rfl) (v := k0) (by rw [qk0]; rfl) ?_
              exact r_zret C (n_bool (by omega)) (oDec_at oX5_fact 65 rfl) ⟨_, rfl, ⟨by omega, by omega⟩⟩
          · skip
            refine r_aload_n C (j := 0) (oDec_at oX5_fact 53 rfl) rfl rfl ?_
            refine r_getS (k := 1) (q2 := 0) C oCl5 rfl (by decide) flX5_19 rfl rfl rfl ks1 (oDec_at oX5_fact 54 rfl) (fun b64 rb64 mb64 hkb64 => ?_)
            refine r_iconst C (oDec_at oX5_fact 55 rfl) (v := k1) (by rw [qk1]; rfl) ?_
            refine r_callVv C oCl0 hkb64 miX0_emit mlX5_147 (ct_X0_emit l E (u4) b64 hkb64 k1 ) (by omega) rfl rfl rfl (Nat.le_of_ble_eq_true rfl) (oDec_at oX5_fact 56 rfl) (fun u65 pu65 fu65 => ?_)
            try dsimp only at pu65
            refine r_aload_n C (j := 0) (oDec_at oX5_fact 57 rfl) rfl rfl ?_
            refine r_bipush C (oDec_at oX5_fact 58 rfl) (v := k10) (by rw [qk10]; rfl) ?_
            refine r_pc C 122 rfl ?_
            refine r_callVi C oCl5 rfl miX5_expect mlX5_74 (ct_X5_expect l E (u65) k10 ) (by omega) rfl rfl rfl (Nat.le_of_ble_eq_true rfl) (oDec_at oX5_fact 59 rfl) (fun r68 u67 pu67 fu67 => ?_)
            try dsimp only at pu67
            have rr68 := n_rng r68
            have lk69 : ((u67).1 30 5).toInt = (s.1 30 5).toInt := congrArg Int32.toInt (((fu67 30 5 rfl).1).trans (((fu65 30 5 rfl).1).trans (((fu4 30 5 rfl).1).trans ((fu1 30 5 rfl).1))))
            exact r_zret C (n_bool (by omega)) (oDec_at oX5_fact 60 rfl) ⟨_, rfl, ⟨by omega, by omega⟩⟩
        · skip
          refine r_aload_n C (j := 0) (oDec_at oX5_fact 31 rfl) rfl rfl ?_
          have lk70 : ((u4).1 30 5).toInt = (s.1 30 5).toInt := congrArg Int32.toInt (((fu4 30 5 rfl).1).trans ((fu1 30 5 rfl).1))
          refine r_callVi C oCl5 rfl miX5_opens mlX5_154 (ct_X5_opens l E (u4)  ) (by omega) rfl rfl rfl (Nat.le_of_ble_eq_true rfl) (oDec_at oX5_fact 32 rfl) (fun r72 u71 pu71 fu71 => ?_)
          try dsimp only at pu71
          have rr72 := n_rng r72
          refine r_if_eq C 88 (oDec_at oX5_fact 33 rfl) (by decide) (fun cd73 => ?_) (fun cd73 => ?_)
          · skip
            refine r_iconst C (oDec_at oX5_fact 41 rfl) (v := k0) (by rw [qk0]; rfl) ?_
            exact r_zret C (n_bool (by omega)) (oDec_at oX5_fact 42 rfl) ⟨_, rfl, ⟨by omega, by omega⟩⟩
          · skip
            refine r_aload_n C (j := 0) (oDec_at oX5_fact 34 rfl) rfl rfl ?_
            refine r_bipush C (oDec_at oX5_fact 35 rfl) (v := k9) (by rw [qk9]; rfl) ?_
            refine r_callVi C oCl5 rfl miX5_expect mlX5_74 (ct_X5_expect l E (u71) k9 ) (by omega) rfl rfl rfl (Nat.le_of_ble_eq_true rfl) (oDec_at oX5_fact 36 rfl) (fun r75 u74 pu74 fu74 => ?_)
            try dsimp only at pu74
            have rr75 := n_rng r75
            refine r_if_eq C 88 (oDec_at oX5_fact 37 rfl) (by decide) (fun cd76 => ?_) (fun cd76 => ?_)
            · skip
              refine r_iconst C (oDec_at oX5_fact 41 rfl) (v := k0) (by rw [qk0]; rfl) ?_
              have lk77 : ((u74).1 30 5).toInt = (u71.1 30 5).toInt := congrArg Int32.toInt ((fu74 30 5 rfl).1)
              exact r_zret C (n_bool (by omega)) (oDec_at oX5_fact 42 rfl) ⟨_, rfl, ⟨by omega, by omega⟩⟩
            · skip
              refine r_aload_n C (j := 0) (oDec_at oX5_fact 38 rfl) rfl rfl ?_
              have lk78 : ((u74).1 30 5).toInt = (u71.1 30 5).toInt := congrArg Int32.toInt ((fu74 30 5 rfl).1)
              have lk79 : ((u74).1 30 5).toInt = (u71.1 30 5).toInt := congrArg Int32.toInt ((fu74 30 5 rfl).1)
              refine r_callVi C oCl5 rfl miX5_fact mlX5_151 (((ih (N - 1) (by omega)).2.2.2.2.1) (u74)  (by omega)) (by omega) rfl rfl rfl (Nat.le_of_ble_eq_true rfl) (oDec_at oX5_fact 39 rfl) (fun r81 u80 pu80 fu80 => ?_)
              try dsimp only at pu80
              have rr81 := n_rng r81
              refine r_if_ne C 90 (oDec_at oX5_fact 40 rfl) (by decide) (fun cd82 => ?_) (fun cd82 => ?_)
              · skip
                refine r_aload_n C (j := 0) (oDec_at oX5_fact 43 rfl) rfl rfl ?_
                refine r_getS (k := 1) (q2 := 0) C oCl5 rfl (by decide) flX5_19 rfl rfl rfl ks1 (oDec_at oX5_fact 44 rfl) (fun b83 rb83 mb83 hkb83 => ?_)
                refine r_sipush C (oDec_at oX5_fact 45 rfl) (v := k10020) (by rw [qk10020]; rfl) ?_
                refine r_callVv C oCl0 hkb83 miX0_emit mlX5_147 (ct_X0_emit l E (u80) b83 hkb83 k10020 ) (by omega) rfl rfl rfl (Nat.le_of_ble_eq_true rfl) (oDec_at oX5_fact 46 rfl) (fun u84 pu84 fu84 => ?_)
                try dsimp only at pu84
                refine r_aload_n C (j := 0) (oDec_at oX5_fact 47 rfl) rfl rfl ?_
                have lk86 : ((u84).1 30 5).toInt = (u80.1 30 5).toInt := congrArg Int32.toInt ((fu84 30 5 rfl).1)
                have lk87 : ((u84).1 30 5).toInt = (u80.1 30 5).toInt := congrArg Int32.toInt ((fu84 30 5 rfl).1)
                refine r_callVi C oCl5 rfl miX5_closes mlX5_157 (ct_X5_closes l E (u84)  (by omega)) (by omega) rfl rfl rfl (Nat.le_of_ble_eq_true rfl) (oDec_at oX5_fact 48 rfl) (fun r89 u88 pu88 fu88 => ?_)
                try dsimp only at pu88
                have rr89 := n_rng r89
                refine r_pc C 104 rfl ?_
                exact r_zret C (n_bool (by omega)) (oDec_at oX5_fact 49 rfl) ⟨_, rfl, ⟨by omega, by omega⟩⟩
              · skip
                refine r_iconst C (oDec_at oX5_fact 41 rfl) (v := k0) (by rw [qk0]; rfl) ?_
                exact r_zret C (n_bool (by omega)) (oDec_at oX5_fact 42 rfl) ⟨_, rfl, ⟨by omega, by omega⟩⟩
      · skip
        refine r_aload_n C (j := 0) (oDec_at oX5_fact 4 rfl) rfl rfl ?_
        have lk90 : ((u1).1 30 5).toInt = (s.1 30 5).toInt := congrArg Int32.toInt ((fu1 30 5 rfl).1)
        refine r_callVi C oCl5 rfl miX5_opens mlX5_154 (ct_X5_opens l E (u1)  ) (by omega) rfl rfl rfl (Nat.le_of_ble_eq_true rfl) (oDec_at oX5_fact 5 rfl) (fun r92 u91 pu91 fu91 => ?_)
        try dsimp only at pu91
        have rr92 := n_rng r92
        refine r_if_eq C 52 (oDec_at oX5_fact 6 rfl) (by decide) (fun cd93 => ?_) (fun cd93 => ?_)
        · skip
          refine r_iconst C (oDec_at oX5_fact 23 rfl) (v := k0) (by rw [qk0]; rfl) ?_
          exact r_zret C (n_bool (by omega)) (oDec_at oX5_fact 24 rfl) ⟨_, rfl, ⟨by omega, by omega⟩⟩
        · skip
          refine r_aload_n C (j := 0) (oDec_at oX5_fact 7 rfl) rfl rfl ?_
          refine r_bipush C (oDec_at oX5_fact 8 rfl) (v := k91) (by rw [qk91]; rfl) ?_
          refine r_callVi C oCl5 rfl miX5_expectSign mlX5_88 (ct_X5_expectSign l E (u91) k91 (by omega)) (by omega) rfl rfl rfl (Nat.le_of_ble_eq_true rfl) (oDec_at oX5_fact 9 rfl) (fun r95 u94 pu94 fu94 => ?_)
          try dsimp only at pu94
          have rr95 := n_rng r95
          refine r_if_eq C 52 (oDec_at oX5_fact 10 rfl) (by decide) (fun cd96 => ?_) (fun cd96 => ?_)
          · skip
            refine r_iconst C (oDec_at oX5_fact 23 rfl) (v := k0) (by rw [qk0]; rfl) ?_
            have lk97 : ((u94).1 30 5).toInt = (u91.1 30 5).toInt := congrArg Int32.toInt ((fu94 30 5 rfl).1)
            exact r_zret C (n_bool (by omega)) (oDec_at oX5_fact 24 rfl) ⟨_, rfl, ⟨by omega, by omega⟩⟩
          · skip
            refine r_aload_n C (j := 0) (oDec_at oX5_fact 11 rfl) rfl rfl ?_
            have lk98 : ((u94).1 30 5).toInt = (u91.1 30 5).toInt := congrArg Int32.toInt ((fu94 30 5 rfl).1)
            have lk99 : ((u94).1 30 5).toInt = (u91.1 30 5).toInt := congrArg Int32.toInt ((fu94 30 5 rfl).1)
            refine r_callVi C oCl5 rfl miX5_test mlX5_118 (((ih (N - 1) (by omega)).2.2.2.2.2.2) (u94)  (by omega)) (by omega) rfl rfl rfl (Nat.le_of_ble_eq_true rfl) (oDec_at oX5_fact 12 rfl) (fun r101 u100 pu100 fu100 => ?_)
            try dsimp only at pu100
            have rr101 := n_rng r101
            refine r_if_eq C 52 (oDec_at oX5_fact 13 rfl) (by decide) (fun cd102 => ?_) (fun cd102 => ?_)
            · skip
              refine r_iconst C (oDec_at oX5_fact 23 rfl) (v := k0) (by rw [qk0]; rfl) ?_
              exact r_zret C (n_bool (by omega)) (oDec_at oX5_fact 24 rfl) ⟨_, rfl, ⟨by omega, by omega⟩⟩
            · skip
              refine r_aload_n C (j := 0) (oDec_at oX5_fact 14 rfl) rfl rfl ?_
              refine r_bipush C (oDec_at oX5_fact 15 rfl) (v := k93) (by rw [qk93]; rfl) ?_
              refine r_callVi C oCl5 rfl miX5_expectSign mlX5_88 (ct_X5_expectSign l E (u100) k93 (by omega)) (by omega) rfl rfl rfl (Nat.le_of_ble_eq_true rfl) (oDec_at oX5_fact 16 rfl) (fun r104 u103 pu103 fu103 => ?_)
              try dsimp only at pu103
              have rr104 := n_rng r104
              refine r_if_eq C 52 (oDec_at oX5_fact 17 rfl) (by decide) (fun cd105 => ?_) (fun cd105 => ?_)
              · skip
                refine r_iconst C (oDec_at oX5_fact 23 rfl) (v := k0) (by rw [qk0]; rfl) ?_
                have lk106 : ((u103).1 30 5).toInt = (u100.1 30 5).toInt := congrArg Int32.toInt ((fu103 30 5 rfl).1)
                exact r_zret C (n_bool (by omega)) (oDec_at oX5_fact 24 rfl) ⟨_, rfl, ⟨by omega, by omega⟩⟩
              · skip
                refine r_aload_n C (j := 0) (oDec_at oX5_fact 18 rfl) rfl rfl ?_
                have lk107 : ((u103).1 30 5).toInt = (u100.1 30 5).toInt := congrArg Int32.toInt ((fu103 30 5 rfl).1)
                have lk108 : ((u103).1 30 5).toInt = (u100.1 30 5).toInt := congrArg Int32.toInt ((fu103 30 5 rfl).1)
                refine r_callVi C oCl5 rfl miX5_closes mlX5_157 (ct_X5_closes l E (u103)  (by omega)) (by omega) rfl rfl rfl (Nat.le_of_ble_eq_true rfl) (oDec_at oX5_fact 19 rfl) (fun r110 u109 pu109 fu109 => ?_)
                try dsimp only at pu109
                have rr110 := n_rng r110
                refine r_if_eq C 52 (oDec_at oX5_fact 20 rfl) (by decide) (fun cd111 => ?_) (fun cd111 => ?_)
                · skip
                  refine r_iconst C (oDec_at oX5_fact 23 rfl) (v := k0) (by rw [qk0]; rfl) ?_
                  exact r_zret C (n_bool (by omega)) (oDec_at oX5_fact 24 rfl) ⟨_, rfl, ⟨by omega, by omega⟩⟩
                · skip
                  refine r_iconst C (oDec_at oX5_fact 21 rfl) (v := k1) (by rw [qk1]; rfl) ?_
                  refine r_goto C (tgt := 53) (oDec_at oX5_fact 22 rfl) (by decide) ?_
                  exact r_zret C (n_bool (by omega)) (oDec_at oX5_fact 24 rfl) ⟨_, rfl, ⟨by omega, by omega⟩⟩
    have h_X5_both : ∀ (s : oS)  (hp0 : 6 - (s.1 30 5).toInt ≤ (N : Int)), oMet l (7 + 10 * N + 6) yX5_both cX5_both 2 (some .boolean) [(0, 1), (5, 2), (5, 3), (5, 4), (5, 5), (5, 8), (5, 9), (20, 9999)] E s [.ref (oad E 30)] (oPi (fun r u => (0 ≤ r.toInt ∧ r.toInt ≤ 1) ∧ (r.toInt = 1 → (u.1 30 5).toInt = (s.1 30 5).toInt))) := by
      intro s hp0
      refine oMet.of (lv := [(0, .ref (oad E 30))]) (by decide +kernel) (Nat.le_of_ble_eq_true rfl) rfl (fun J C hT => ?_)
      have C : oC l (7 + 10 * N + 6) cX5_both RX5 2 (some .boolean) [(0, 1), (5, 2), (5, 3), (5, 4), (5, 5), (5, 8), (5, 9), (20, 9999)] E s (oPi (fun r u => (0 ≤ r.toInt ∧ r.toInt ≤ 1) ∧ (r.toInt = 1 → (u.1 30 5).toInt = (s.1 30 5).toInt))) J := C
      obtain ⟨k0, qk0⟩ : ∃ z : Int32, z = 0 := ⟨_, rfl⟩
      have ek0 : k0.toInt = 0 := by rw [qk0]; rfl
      obtain ⟨k1, qk1⟩ : ∃ z : Int32, z = 1 := ⟨_, rfl⟩
      have ek1 : k1.toInt = 1 := by rw [qk1]; rfl
      obtain ⟨k8, qk8⟩ : ∃ z : Int32, z = 8 := ⟨_, rfl⟩
      have ek8 : k8.toInt = 8 := by rw [qk8]; rfl
      obtain ⟨k1600, qk1600⟩ : ∃ z : Int32, z = 1600 := ⟨_, rfl⟩
      have ek1600 : k1600.toInt = 1600 := by rw [qk1600]; rfl
      obtain ⟨k10022, qk10022⟩ : ∃ z : Int32, z = 10022 := ⟨_, rfl⟩
      have ek10022 : k10022.toInt = 10022 := by rw [qk10022]; rfl
      have key : ∀ n : Nat, (∀ (t : oS) (x1 : Int32), (0 ≤ x1.toInt ∧ x1.toInt ≤ 1600) → ((t.1 30 5).toInt = (s.1 30 5).toInt) → 1601 - x1.toInt ≤ (n : Int) → J t 11 [(0, .ref (oad E 30)), (1, .int x1)] []) := by
        intro n
        induction n using Nat.strongRecOn with
        | _ n ih =>
          skip
          · intro t x1  iv0 iv1 hmu
            have rx1 := n_rng x1
            refine r_iload_n C (j := 1) (oDec_at oX5_both 7 rfl) rfl rfl ?_
            refine r_sipush C (oDec_at oX5_both 8 rfl) (v := k1600) (by rw [qk1600]; rfl) ?_
            refine r_icmp_ge C 52 (oDec_at oX5_both 9 rfl) (by decide) (fun cd1 => ?_) (fun cd1 => ?_)
            · skip
              refine r_iconst C (oDec_at oX5_both 25 rfl) (v := k1) (by rw [qk1]; rfl) ?_
              exact r_zret C (n_bool (by omega)) (oDec_at oX5_both 26 rfl) ⟨_, rfl, ⟨by omega, by omega⟩⟩
            · skip
              refine r_aload_n C (j := 0) (oDec_at oX5_both 10 rfl) rfl rfl ?_
              refine r_bipush C (oDec_at oX5_both 11 rfl) (v := k8) (by rw [qk8]; rfl) ?_
              refine r_callVi C oCl5 rfl miX5_accept mlX5_66 (ct_X5_accept l E (t) k8 ) (by omega) rfl rfl rfl (Nat.le_of_ble_eq_true rfl) (oDec_at oX5_both 12 rfl) (fun r3 u2 pu2 fu2 => ?_)
              try dsimp only at pu2
              have rr3 := n_rng r3
              refine r_if_eq C 52 (oDec_at oX5_both 13 rfl) (by decide) (fun cd4 => ?_) (fun cd4 => ?_)
              · skip
                refine r_iconst C (oDec_at oX5_both 25 rfl) (v := k1) (by rw [qk1]; rfl) ?_
                have lk5 : ((u2).1 30 5).toInt = (t.1 30 5).toInt := congrArg Int32.toInt ((fu2 30 5 rfl).1)
                exact r_zret C (n_bool (by omega)) (oDec_at oX5_both 26 rfl) ⟨_, rfl, ⟨by omega, by omega⟩⟩
              · skip
                refine r_aload_n C (j := 0) (oDec_at oX5_both 14 rfl) rfl rfl ?_
                have lk6 : ((u2).1 30 5).toInt = (t.1 30 5).toInt := congrArg Int32.toInt ((fu2 30 5 rfl).1)
                have lk7 : ((u2).1 30 5).toInt = (t.1 30 5).toInt := congrArg Int32.toInt ((fu2 30 5 rfl).1)
                refine r_callVi C oCl5 rfl miX5_fact mlX5_151 (h_X5_fact (u2)  (by omega)) (by omega) rfl rfl rfl (Nat.le_of_ble_eq_true rfl) (oDec_at oX5_both 15 rfl) (fun r9 u8 pu8 fu8 => ?_)
                try dsimp only at pu8
                have rr9 := n_rng r9
                refine r_if_ne C 36 (oDec_at oX5_both 16 rfl) (by decide) (fun cd10 => ?_) (fun cd10 => ?_)
                · skip
                  refine r_aload_n C (j := 0) (oDec_at oX5_both 19 rfl) rfl rfl ?_
                  refine r_getS (k := 1) (q2 := 0) C oCl5 rfl (by decide) flX5_19 rfl rfl rfl ks1 (oDec_at oX5_both 20 rfl) (fun b11 rb11 mb11 hkb11 => ?_)
                  refine r_sipush C (oDec_at oX5_both 21 rfl) (v := k10022) (by rw [qk10022]; rfl) ?_
                  refine r_callVv C oCl0 hkb11 miX0_emit mlX5_147 (ct_X0_emit l E (u8) b11 hkb11 k10022 ) (by omega) rfl rfl rfl (Nat.le_of_ble_eq_true rfl) (oDec_at oX5_both 22 rfl) (fun u12 pu12 fu12 => ?_)
                  try dsimp only at pu12
                  obtain ⟨v14, ev14⟩ : ∃ z : Int32, x1 + Int32.ofInt 1 = z := ⟨_, rfl⟩
                  have hv14 : v14.toInt = x1.toInt + 1 := n_inc ev14 (by decide) (by omega) (by omega)
                  refine r_iinc C (j := 1) (lv' := [(0, .ref (oad E 30)), (1, .int v14)]) v14 [1, 0] (oDec_at oX5_both 23 rfl) rfl ev14 (by decide) rfl ?_
                  refine r_goto C (tgt := 11) (oDec_at oX5_both 24 rfl) (by decide) ?_
                  have lk15 : ((u12).1 30 5).toInt = (u8.1 30 5).toInt := congrArg Int32.toInt ((fu12 30 5 rfl).1)
                  exact (ih (n - 1) (by omega)) (u12) v14  (by omega) (by omega) (by omega)
                · skip
                  refine r_iconst C (oDec_at oX5_both 17 rfl) (v := k0) (by rw [qk0]; rfl) ?_
                  exact r_zret C (n_bool (by omega)) (oDec_at oX5_both 18 rfl) ⟨_, rfl, ⟨by omega, by omega⟩⟩
      refine r_aload_n C (j := 0) (oDec_at oX5_both 0 rfl) rfl rfl ?_
      refine r_callVi C oCl5 rfl miX5_fact mlX5_151 (h_X5_fact (s)  (by omega)) (by omega) rfl rfl rfl (Nat.le_of_ble_eq_true rfl) (oDec_at oX5_both 1 rfl) (fun r17 u16 pu16 fu16 => ?_)
      try dsimp only at pu16
      have rr17 := n_rng r17
      refine r_if_ne C 9 (oDec_at oX5_both 2 rfl) (by decide) (fun cd18 => ?_) (fun cd18 => ?_)
      · skip
        refine r_iconst C (oDec_at oX5_both 5 rfl) (v := k0) (by rw [qk0]; rfl) ?_
        refine r_istore_n C (lv' := [(0, .ref (oad E 30)), (1, .int k0)]) [1, 0] (oDec_at oX5_both 6 rfl) rfl (by decide) rfl ?_
        exact (key (1601 - k0.toInt).toNat) (u16) k0  (by omega) (by omega) (by omega)
      · skip
        refine r_iconst C (oDec_at oX5_both 3 rfl) (v := k0) (by rw [qk0]; rfl) ?_
        exact r_zret C (n_bool (by omega)) (oDec_at oX5_both 4 rfl) ⟨_, rfl, ⟨by omega, by omega⟩⟩
    have h_X5_test : ∀ (s : oS)  (hp0 : 6 - (s.1 30 5).toInt ≤ (N : Int)), oMet l (7 + 10 * N + 7) yX5_test cX5_test 2 (some .boolean) [(0, 1), (5, 2), (5, 3), (5, 4), (5, 5), (5, 8), (5, 9), (20, 9999)] E s [.ref (oad E 30)] (oPi (fun r u => (0 ≤ r.toInt ∧ r.toInt ≤ 1) ∧ (r.toInt = 1 → (u.1 30 5).toInt = (s.1 30 5).toInt))) := by
      intro s hp0
      refine oMet.of (lv := [(0, .ref (oad E 30))]) (by decide +kernel) (Nat.le_of_ble_eq_true rfl) rfl (fun J C hT => ?_)
      have C : oC l (7 + 10 * N + 7) cX5_test RX5 2 (some .boolean) [(0, 1), (5, 2), (5, 3), (5, 4), (5, 5), (5, 8), (5, 9), (20, 9999)] E s (oPi (fun r u => (0 ≤ r.toInt ∧ r.toInt ≤ 1) ∧ (r.toInt = 1 → (u.1 30 5).toInt = (s.1 30 5).toInt))) J := C
      obtain ⟨k0, qk0⟩ : ∃ z : Int32, z = 0 := ⟨_, rfl⟩
      have ek0 : k0.toInt = 0 := by rw [qk0]; rfl
      obtain ⟨k1, qk1⟩ : ∃ z : Int32, z = 1 := ⟨_, rfl⟩
      have ek1 : k1.toInt = 1 := by rw [qk1]; rfl
      obtain ⟨k7, qk7⟩ : ∃ z : Int32, z = 7 := ⟨_, rfl⟩
      have ek7 : k7.toInt = 7 := by rw [qk7]; rfl
      obtain ⟨k1600, qk1600⟩ : ∃ z : Int32, z = 1600 := ⟨_, rfl⟩
      have ek1600 : k1600.toInt = 1600 := by rw [qk1600]; rfl
      obtain ⟨k10021, qk10021⟩ : ∃ z : Int32, z = 10021 := ⟨_, rfl⟩
      have ek10021 : k10021.toInt = 10021 := by rw [qk10021]; rfl
      have key : ∀ n : Nat, (∀ (t : oS) (x1 : Int32), (0 ≤ x1.toInt ∧ x1.toInt ≤ 1600) → ((t.1 30 5).toInt = (s.1 30 5).toInt) → 1601 - x1.toInt ≤ (n : Int) → J t 11 [(0, .ref (oad E 30)), (1, .int x1)] []) := by
        intro n
        induction n using Nat.strongRecOn with
        | _ n ih =>
          skip
          · intro t x1  iv0 iv1 hmu
            have rx1 := n_rng x1
            refine r_iload_n C (j := 1) (oDec_at oX5_test 7 rfl) rfl rfl ?_
            refine r_sipush C (oDec_at oX5_test 8 rfl) (v := k1600) (by rw [qk1600]; rfl) ?_
            refine r_icmp_ge C 52 (oDec_at oX5_test 9 rfl) (by decide) (fun cd1 => ?_) (fun cd1 => ?_)
            · skip
              refine r_iconst C (oDec_at oX5_test 25 rfl) (v := k1) (by rw [qk1]; rfl) ?_
              exact r_zret C (n_bool (by omega)) (oDec_at oX5_test 26 rfl) ⟨_, rfl, ⟨by omega, by omega⟩⟩
            · skip
              refine r_aload_n C (j := 0) (oDec_at oX5_test 10 rfl) rfl rfl ?_
              refine r_bipush C (oDec_at oX5_test 11 rfl) (v := k7) (by rw [qk7]; rfl) ?_
              refine r_callVi C oCl5 rfl miX5_accept mlX5_66 (ct_X5_accept l E (t) k7 ) (by omega) rfl rfl rfl (Nat.le_of_ble_eq_true rfl) (oDec_at oX5_test 12 rfl) (fun r3 u2 pu2 fu2 => ?_)
              try dsimp only at pu2
              have rr3 := n_rng r3
              refine r_if_eq C 52 (oDec_at oX5_test 13 rfl) (by decide) (fun cd4 => ?_) (fun cd4 => ?_)
              · skip
                refine r_iconst C (oDec_at oX5_test 25 rfl) (v := k1) (by rw [qk1]; rfl) ?_
                have lk5 : ((u2).1 30 5).toInt = (t.1 30 5).toInt := congrArg Int32.toInt ((fu2 30 5 rfl).1)
                exact r_zret C (n_bool (by omega)) (oDec_at oX5_test 26 rfl) ⟨_, rfl, ⟨by omega, by omega⟩⟩
              · skip
                refine r_aload_n C (j := 0) (oDec_at oX5_test 14 rfl) rfl rfl ?_
                have lk6 : ((u2).1 30 5).toInt = (t.1 30 5).toInt := congrArg Int32.toInt ((fu2 30 5 rfl).1)
                have lk7 : ((u2).1 30 5).toInt = (t.1 30 5).toInt := congrArg Int32.toInt ((fu2 30 5 rfl).1)
                refine r_callVi C oCl5 rfl miX5_both mlX5_144 (h_X5_both (u2)  (by omega)) (by omega) rfl rfl rfl (Nat.le_of_ble_eq_true rfl) (oDec_at oX5_test 15 rfl) (fun r9 u8 pu8 fu8 => ?_)
                try dsimp only at pu8
                have rr9 := n_rng r9
                refine r_if_ne C 36 (oDec_at oX5_test 16 rfl) (by decide) (fun cd10 => ?_) (fun cd10 => ?_)
                · skip
                  refine r_aload_n C (j := 0) (oDec_at oX5_test 19 rfl) rfl rfl ?_
                  refine r_getS (k := 1) (q2 := 0) C oCl5 rfl (by decide) flX5_19 rfl rfl rfl ks1 (oDec_at oX5_test 20 rfl) (fun b11 rb11 mb11 hkb11 => ?_)
                  refine r_sipush C (oDec_at oX5_test 21 rfl) (v := k10021) (by rw [qk10021]; rfl) ?_
                  refine r_callVv C oCl0 hkb11 miX0_emit mlX5_147 (ct_X0_emit l E (u8) b11 hkb11 k10021 ) (by omega) rfl rfl rfl (Nat.le_of_ble_eq_true rfl) (oDec_at oX5_test 22 rfl) (fun u12 pu12 fu12 => ?_)
                  try dsimp only at pu12
                  obtain ⟨v14, ev14⟩ : ∃ z : Int32, x1 + Int32.ofInt 1 = z := ⟨_, rfl⟩
                  have hv14 : v14.toInt = x1.toInt + 1 := n_inc ev14 (by decide) (by omega) (by omega)
                  refine r_iinc C (j := 1) (lv' := [(0, .ref (oad E 30)), (1, .int v14)]) v14 [1, 0] (oDec_at oX5_test 23 rfl) rfl ev14 (by decide) rfl ?_
                  refine r_goto C (tgt := 11) (oDec_at oX5_test 24 rfl) (by decide) ?_
                  have lk15 : ((u12).1 30 5).toInt = (u8.1 30 5).toInt := congrArg Int32.toInt ((fu12 30 5 rfl).1)
                  exact (ih (n - 1) (by omega)) (u12) v14  (by omega) (by omega) (by omega)
                · skip
                  refine r_iconst C (oDec_at oX5_test 17 rfl) (v := k0) (by rw [qk0]; rfl) ?_
                  exact r_zret C (n_bool (by omega)) (oDec_at oX5_test 18 rfl) ⟨_, rfl, ⟨by omega, by omega⟩⟩
      refine r_aload_n C (j := 0) (oDec_at oX5_test 0 rfl) rfl rfl ?_
      refine r_callVi C oCl5 rfl miX5_both mlX5_144 (h_X5_both (s)  (by omega)) (by omega) rfl rfl rfl (Nat.le_of_ble_eq_true rfl) (oDec_at oX5_test 1 rfl) (fun r17 u16 pu16 fu16 => ?_)
      try dsimp only at pu16
      have rr17 := n_rng r17
      refine r_if_ne C 9 (oDec_at oX5_test 2 rfl) (by decide) (fun cd18 => ?_) (fun cd18 => ?_)
      · skip
        refine r_iconst C (oDec_at oX5_test 5 rfl) (v := k0) (by rw [qk0]; rfl) ?_
        refine r_istore_n C (lv' := [(0, .ref (oad E 30)), (1, .int k0)]) [1, 0] (oDec_at oX5_test 6 rfl) rfl (by decide) rfl ?_
        exact (key (1601 - k0.toInt).toNat) (u16) k0  (by omega) (by omega) (by omega)
      · skip
        refine r_iconst C (oDec_at oX5_test 3 rfl) (v := k0) (by rw [qk0]; rfl) ?_
        exact r_zret C (n_bool (by omega)) (oDec_at oX5_test 4 rfl) ⟨_, rfl, ⟨by omega, by omega⟩⟩
    exact ⟨h_X5_choice, h_X5_part, h_X5_product, h_X5_sum, h_X5_fact, h_X5_both, h_X5_test⟩
theorem ct_X5_choice (l : Launch) (E : oE) : ∀ (s : oS) (a1 : Int32) (hp0 : 6 - (s.1 30 5).toInt ≤ 6), oMet l 68 yX5_choice cX5_choice 2 (some .boolean) [(0, 1), (5, 2), (5, 3), (5, 4), (5, 5), (5, 8), (5, 9), (20, 9999)] E s [.ref (oad E 30), .int a1] (oPi (fun r u => (0 ≤ r.toInt ∧ r.toInt ≤ 1) ∧ (r.toInt = 1 → (u.1 30 5).toInt = (s.1 30 5).toInt))) := fun s => (gr_X5 l E 6).1 s
theorem ct_X5_part (l : Launch) (E : oE) : ∀ (s : oS)  (hp0 : 6 - (s.1 30 5).toInt ≤ 6), oMet l 69 yX5_part cX5_part 3 (some .boolean) [(0, 1), (5, 2), (5, 3), (5, 4), (5, 5), (5, 8), (5, 9), (20, 9999)] E s [.ref (oad E 30)] (oPi (fun r u => (0 ≤ r.toInt ∧ r.toInt ≤ 1) ∧ (r.toInt = 1 → (u.1 30 5).toInt = (s.1 30 5).toInt))) := fun s => (gr_X5 l E 6).2.1 s
theorem ct_X5_product (l : Launch) (E : oE) : ∀ (s : oS)  (hp0 : 6 - (s.1 30 5).toInt ≤ 6), oMet l 70 yX5_product cX5_product 3 (some .boolean) [(0, 1), (5, 2), (5, 3), (5, 4), (5, 5), (5, 8), (5, 9), (20, 9999)] E s [.ref (oad E 30)] (oPi (fun r u => (0 ≤ r.toInt ∧ r.toInt ≤ 1) ∧ (r.toInt = 1 → (u.1 30 5).toInt = (s.1 30 5).toInt))) := fun s => (gr_X5 l E 6).2.2.1 s
theorem ct_X5_sum (l : Launch) (E : oE) : ∀ (s : oS)  (hp0 : 6 - (s.1 30 5).toInt ≤ 6), oMet l 71 yX5_sum cX5_sum 3 (some .boolean) [(0, 1), (5, 2), (5, 3), (5, 4), (5, 5), (5, 8), (5, 9), (20, 9999)] E s [.ref (oad E 30)] (oPi (fun r u => (0 ≤ r.toInt ∧ r.toInt ≤ 1) ∧ (r.toInt = 1 → (u.1 30 5).toInt = (s.1 30 5).toInt))) := fun s => (gr_X5 l E 6).2.2.2.1 s
theorem ct_X5_fact (l : Launch) (E : oE) : ∀ (s : oS)  (hp0 : 6 - (s.1 30 5).toInt ≤ 6), oMet l 72 yX5_fact cX5_fact 3 (some .boolean) [(0, 1), (5, 2), (5, 3), (5, 4), (5, 5), (5, 8), (5, 9), (20, 9999)] E s [.ref (oad E 30)] (oPi (fun r u => (0 ≤ r.toInt ∧ r.toInt ≤ 1) ∧ (r.toInt = 1 → (u.1 30 5).toInt = (s.1 30 5).toInt))) := fun s => (gr_X5 l E 6).2.2.2.2.1 s
theorem ct_X5_both (l : Launch) (E : oE) : ∀ (s : oS)  (hp0 : 6 - (s.1 30 5).toInt ≤ 6), oMet l 73 yX5_both cX5_both 2 (some .boolean) [(0, 1), (5, 2), (5, 3), (5, 4), (5, 5), (5, 8), (5, 9), (20, 9999)] E s [.ref (oad E 30)] (oPi (fun r u => (0 ≤ r.toInt ∧ r.toInt ≤ 1) ∧ (r.toInt = 1 → (u.1 30 5).toInt = (s.1 30 5).toInt))) := fun s => (gr_X5 l E 6).2.2.2.2.2.1 s
theorem ct_X5_test (l : Launch) (E : oE) : ∀ (s : oS)  (hp0 : 6 - (s.1 30 5).toInt ≤ 6), oMet l 74 yX5_test cX5_test 2 (some .boolean) [(0, 1), (5, 2), (5, 3), (5, 4), (5, 5), (5, 8), (5, 9), (20, 9999)] E s [.ref (oad E 30)] (oPi (fun r u => (0 ≤ r.toInt ∧ r.toInt ≤ 1) ∧ (r.toInt = 1 → (u.1 30 5).toInt = (s.1 30 5).toInt))) := fun s => (gr_X5 l E 6).2.2.2.2.2.2 s
