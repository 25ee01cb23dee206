set_option maxHeartbeats 4000000 in
set_option maxRecDepth 100000 in
theorem ct_X5_bookStatement (l : Launch) (E : oE) (s : oS)   : oMet l 75 yX5_bookStatement cX5_bookStatement 3 (some .boolean) [(0, 1), (0, 6), (0, 7), (0, 8), (5, 2), (5, 3), (5, 4), (5, 5), (5, 6), (5, 7), (5, 8), (5, 9), (20, 9999), (21, 9999), (22, 9999), (23, 9999)] E s [.ref (oad E 30)] (oPi (fun r u => (0 ≤ r.toInt ∧ r.toInt ≤ 1))) := by
  refine oMet.of (lv := [(0, .ref (oad E 30))]) (by decide +kernel) (Nat.le_of_ble_eq_true rfl) rfl (fun J C hT => ?_)
  have C : oC l 75 cX5_bookStatement RX5 3 (some .boolean) [(0, 1), (0, 6), (0, 7), (0, 8), (5, 2), (5, 3), (5, 4), (5, 5), (5, 6), (5, 7), (5, 8), (5, 9), (20, 9999), (21, 9999), (22, 9999), (23, 9999)] E s (oPi (fun r u => (0 ≤ r.toInt ∧ r.toInt ≤ 1))) J := C
  obtain ⟨k0, qk0⟩ : ∃ z : Int32, z = 0 := ⟨_, rfl⟩
  have ek0 : k0.toInt = 0 := by rw [qk0]; rfl
  obtain ⟨k1, qk1⟩ : ∃ z : Int32, z = 1 := ⟨_, rfl⟩
  have ek1 : k1.toInt = 1 := by rw [qk1]; rfl
  obtain ⟨k3, qk3⟩ : ∃ z : Int32, z = 3 := ⟨_, rfl⟩
  have ek3 : k3.toInt = 3 := by rw [qk3]; rfl
  obtain ⟨k4, qk4⟩ : ∃ z : Int32, z = 4 := ⟨_, rfl⟩
  have ek4 : k4.toInt = 4 := by rw [qk4]; rfl
  obtain ⟨k5, qk5⟩ : ∃ z : Int32, z = 5 := ⟨_, rfl⟩
  have ek5 : k5.toInt = 5 := by rw [qk5]; rfl
  obtain ⟨k6, qk6⟩ : ∃ z : Int32, z = 6 := ⟨_, rfl⟩
  have ek6 : k6.toInt = 6 := by rw [qk6]; rfl
  obtain ⟨k11, qk11⟩ : ∃ z : Int32, z = 11 := ⟨_, rfl⟩
  have ek11 : k11.toInt = 11 := by rw [qk11]; rfl
  obtain ⟨k12, qk12⟩ : ∃ z : Int32, z = 12 := ⟨_, rfl⟩
  have ek12 : k12.toInt = 12 := by rw [qk12]; rfl
  obtain ⟨k19, qk19⟩ : ∃ z : Int32, z = 19 := ⟨_, rfl⟩
  have ek19 : k19.toInt = 19 := by rw [qk19]; rfl
  obtain ⟨k24, qk24⟩ : ∃ z : Int32, z = 24 := ⟨_, rfl⟩
  have ek24 : k24.toInt = 24 := by rw [qk24]; rfl
  obtain ⟨k59, qk59⟩ : ∃ z : Int32, z = 59 := ⟨_, rfl⟩
  have ek59 : k59.toInt = 59 := by rw [qk59]; rfl
  have ht5 : (0 : Int) ≤ (s.1 30 5).toInt ∧ (s.1 30 5).toInt ≤ 6 := hT.1 30 5
  refine r_aload_n C (j := 0) (oDec_at oX5_bookStatement 0 rfl) rfl rfl ?_
  refine r_callVi C oCl5 rfl miX5_wordAhead mlX5_91 (ct_X5_wordAhead l E (s)  ) (by decide) rfl rfl rfl (Nat.le_of_ble_eq_true rfl) (oDec_at oX5_bookStatement 1 rfl) (fun r2 u1 pu1 fu1 => ?_)
  try dsimp only at pu1
  have rr2 := n_rng r2
  refine r_istore_n C (lv' := [(0, .ref (oad E 30)), (1, .int r2)]) [1, 0] (oDec_at oX5_bookStatement 2 rfl) rfl (by decide) rfl ?_
  refine r_iload_n C (j := 1) (oDec_at oX5_bookStatement 3 rfl) rfl rfl ?_
  refine r_iconst C (oDec_at oX5_bookStatement 4 rfl) (v := k3) (by rw [qk3]; rfl) ?_
  refine r_icmp_eq C 30 (oDec_at oX5_bookStatement 5 rfl) (by decide) (fun cd3 => ?_) (fun cd3 => ?_)
  · skip
    refine r_iload_n C (j := 1) (oDec_at oX5_bookStatement 18 rfl) rfl rfl ?_
    refine r_iconst C (oDec_at oX5_bookStatement 19 rfl) (v := k4) (by rw [qk4]; rfl) ?_
    refine r_icmp_ne C 47 (oDec_at oX5_bookStatement 20 rfl) (by decide) (fun cd4 => ?_) (fun cd4 => ?_)
    · skip
      refine r_iload_n C (j := 1) (oDec_at oX5_bookStatement 26 rfl) rfl rfl ?_
      refine r_iconst C (oDec_at oX5_bookStatement 27 rfl) (v := k5) (by rw [qk5]; rfl) ?_
      refine r_icmp_ne C 74 (oDec_at oX5_bookStatement 28 rfl) (by decide) (fun cd5 => ?_) (fun cd5 => ?_)
      · skip
        refine r_aload_n C (j := 0) (oDec_at oX5_bookStatement 40 rfl) rfl rfl ?_
        refine r_callVv C oCl5 rfl miX5_passWord mlX5_100 (ct_X5_passWord l E (u1)  ) (by decide) rfl rfl rfl (Nat.le_of_ble_eq_true rfl) (oDec_at oX5_bookStatement 41 rfl) (fun u6 pu6 fu6 => ?_)
        try dsimp only at pu6
        refine r_iload_n C (j := 1) (oDec_at oX5_bookStatement 42 rfl) rfl rfl ?_
        refine r_iconst C (oDec_at oX5_bookStatement 43 rfl) (v := k3) (by rw [qk3]; rfl) ?_
        refine r_icmp_ne C 105 (oDec_at oX5_bookStatement 44 rfl) (by decide) (fun cd8 => ?_) (fun cd8 => ?_)
        · omega
        · skip
          refine r_aload_n C (j := 0) (oDec_at oX5_bookStatement 45 rfl) rfl rfl ?_
          refine r_callVi C oCl5 rfl miX5_measure mlX5_103 (ct_X5_measure l E (u6)  ) (by decide) rfl rfl rfl (Nat.le_of_ble_eq_true rfl) (oDec_at oX5_bookStatement 46 rfl) (fun r10 u9 pu9 fu9 => ?_)
          try dsimp only at pu9
          have rr10 := n_rng r10
          refine r_if_eq C 103 (oDec_at oX5_bookStatement 47 rfl) (by decide) (fun cd11 => ?_) (fun cd11 => ?_)
          · skip
            refine r_iconst C (oDec_at oX5_bookStatement 54 rfl) (v := k0) (by rw [qk0]; rfl) ?_
            exact r_zret C (n_bool (by omega)) (oDec_at oX5_bookStatement 55 rfl) ⟨_, rfl, by omega⟩
          · skip
            refine r_aload_n C (j := 0) (oDec_at oX5_bookStatement 48 rfl) rfl rfl ?_
            refine r_bipush C (oDec_at oX5_bookStatement 49 rfl) (v := k59) (by rw [qk59]; rfl) ?_
            refine r_callVi C oCl5 rfl miX5_expectSign mlX5_88 (ct_X5_expectSign l E (u9) k59 (by omega)) (by decide) rfl rfl rfl (Nat.le_of_ble_eq_true rfl) (oDec_at oX5_bookStatement 50 rfl) (fun r13 u12 pu12 fu12 => ?_)
            try dsimp only at pu12
            have rr13 := n_rng r13
            refine r_if_eq C 103 (oDec_at oX5_bookStatement 51 rfl) (by decide) (fun cd14 => ?_) (fun cd14 => ?_)
            · skip
              refine r_iconst C (oDec_at oX5_bookStatement 54 rfl) (v := k0) (by rw [qk0]; rfl) ?_
              exact r_zret C (n_bool (by omega)) (oDec_at oX5_bookStatement 55 rfl) ⟨_, rfl, by omega⟩
            · skip
              refine r_iconst C (oDec_at oX5_bookStatement 52 rfl) (v := k1) (by rw [qk1]; rfl) ?_
              refine r_goto C (tgt := 104) (oDec_at oX5_bookStatement 53 rfl) (by decide) ?_
              exact r_zret C (n_bool (by omega)) (oDec_at oX5_bookStatement 55 rfl) ⟨_, rfl, by omega⟩
      · omega
    · omega
  · skip
    refine r_iload_n C (j := 1) (oDec_at oX5_bookStatement 6 rfl) rfl rfl ?_
    refine r_iconst C (oDec_at oX5_bookStatement 7 rfl) (v := k4) (by rw [qk4]; rfl) ?_
    refine r_icmp_eq C 30 (oDec_at oX5_bookStatement 8 rfl) (by decide) (fun cd15 => ?_) (fun cd15 => ?_)
    · skip
      refine r_iload_n C (j := 1) (oDec_at oX5_bookStatement 18 rfl) rfl rfl ?_
      refine r_iconst C (oDec_at oX5_bookStatement 19 rfl) (v := k4) (by rw [qk4]; rfl) ?_
      refine r_icmp_ne C 47 (oDec_at oX5_bookStatement 20 rfl) (by decide) (fun cd16 => ?_) (fun cd16 => ?_)
      · omega
      · skip
        refine r_aload_n C (j := 0) (oDec_at oX5_bookStatement 21 rfl) rfl rfl ?_
        refine r_getS (k := 1) (q2 := 0) C oCl5 rfl (by decide) flX5_19 rfl rfl rfl ks1 (oDec_at oX5_bookStatement 22 rfl) (fun b17 rb17 mb17 hkb17 => ?_)
        obtain ⟨v18, ev18⟩ : ∃ z : Int32, (u1).1 b17 7 = z := ⟨_, rfl⟩
        have gv18 : (s.1 b17 7).toInt = v18.toInt := congrArg Int32.toInt (((fu1 b17 7 (by rw [hkb17]; rfl)).1).symm.trans ev18)
        refine r_getiN (k := 7) (lo := 0) (hi := 12) C v18 oCl0 hkb17 (by decide) flX5_94 rfl rfl (ev18) rfl rfl (oDec_at oX5_bookStatement 23 rfl) (fun b19 b19h => ?_)
        refine r_bipush C (oDec_at oX5_bookStatement 24 rfl) (v := k12) (by rw [qk12]; rfl) ?_
        refine r_icmp_ge C 64 (oDec_at oX5_bookStatement 25 rfl) (by decide) (fun cd20 => ?_) (fun cd20 => ?_)
        · skip
          refine r_aload_n C (j := 0) (oDec_at oX5_bookStatement 34 rfl) rfl rfl ?_
          refine r_iconst C (oDec_at oX5_bookStatement 35 rfl) (v := k5) (by rw [qk5]; rfl) ?_
          refine r_aload_n C (j := 0) (oDec_at oX5_bookStatement 36 rfl) rfl rfl ?_
          obtain ⟨v21, ev21⟩ : ∃ z : Int32, (u1).1 30 2 = z := ⟨_, rfl⟩
          have gv21 : (u1.1 30 2).toInt = v21.toInt := congrArg Int32.toInt (ev21)
          refine r_geti (k := 2) (lo := 0) (hi := 1600) C v21 oCl5 rfl (by decide) flX5_23 rfl rfl (ev21) rfl rfl (oDec_at oX5_bookStatement 37 rfl) (fun b22 b22h => ?_)
          refine r_callVi C oCl5 rfl miX5_fail mlX5_62 (ct_X5_fail l E (u1) k5 v21 ) (by decide) rfl rfl rfl (Nat.le_of_ble_eq_true rfl) (oDec_at oX5_bookStatement 38 rfl) (fun r24 u23 pu23 fu23 => ?_)
          try dsimp only at pu23
          have rr24 := n_rng r24
          exact r_zret C (n_bool (by omega)) (oDec_at oX5_bookStatement 39 rfl) ⟨_, rfl, by omega⟩
        · skip
          refine r_iload_n C (j := 1) (oDec_at oX5_bookStatement 26 rfl) rfl rfl ?_
          refine r_iconst C (oDec_at oX5_bookStatement 27 rfl) (v := k5) (by rw [qk5]; rfl) ?_
          refine r_icmp_ne C 74 (oDec_at oX5_bookStatement 28 rfl) (by decide) (fun cd25 => ?_) (fun cd25 => ?_)
          · skip
            refine r_aload_n C (j := 0) (oDec_at oX5_bookStatement 40 rfl) rfl rfl ?_
            refine r_callVv C oCl5 rfl miX5_passWord mlX5_100 (ct_X5_passWord l E (u1)  ) (by decide) rfl rfl rfl (Nat.le_of_ble_eq_true rfl) (oDec_at oX5_bookStatement 41 rfl) (fun u26 pu26 fu26 => ?_)
            try dsimp only at pu26
            refine r_iload_n C (j := 1) (oDec_at oX5_bookStatement 42 rfl) rfl rfl ?_
            refine r_iconst C (oDec_at oX5_bookStatement 43 rfl) (v := k3) (by rw [qk3]; rfl) ?_
            refine r_icmp_ne C 105 (oDec_at oX5_bookStatement 44 rfl) (by decide) (fun cd28 => ?_) (fun cd28 => ?_)
            · skip
              refine r_aload_n C (j := 0) (oDec_at oX5_bookStatement 56 rfl) rfl rfl ?_
              refine r_getK (k := 1) (b := b17) C oCl5 rfl (by decide) flX5_19 rfl rfl (((fu26 30 1 rfl).2.2).trans (rb17)) (oDec_at oX5_bookStatement 57 rfl) ?_
              obtain ⟨v30, ev30⟩ : ∃ z : Int32, (u26).1 b17 1 = z := ⟨_, rfl⟩
              have gv30 : (s.1 b17 1).toInt = v30.toInt := congrArg Int32.toInt ((((fu26 b17 1 (by rw [hkb17]; rfl)).1).trans ((fu1 b17 1 (by rw [hkb17]; rfl)).1)).symm.trans ev30)
              refine r_getiN (k := 1) (lo := 0) (hi := 1600) C v30 oCl0 hkb17 (by decide) flX5_106 rfl rfl (ev30) rfl rfl (oDec_at oX5_bookStatement 58 rfl) (fun b31 b31h => ?_)
              refine r_istore_n C (lv' := [(0, .ref (oad E 30)), (1, .int r2), (2, .int v30)]) [1, 2, 0] (oDec_at oX5_bookStatement 59 rfl) rfl (by decide) rfl ?_
              refine r_aload_n C (j := 0) (oDec_at oX5_bookStatement 60 rfl) rfl rfl ?_
              refine r_iload_n C (j := 1) (oDec_at oX5_bookStatement 61 rfl) rfl rfl ?_
              refine r_iconst C (oDec_at oX5_bookStatement 62 rfl) (v := k5) (by rw [qk5]; rfl) ?_
              refine r_pc C 116 rfl ?_
              refine r_icmp_ne C 124 (oDec_at oX5_bookStatement 63 rfl) (by decide) (fun cd32 => ?_) (fun cd32 => ?_)
              · skip
                refine r_bipush C (oDec_at oX5_bookStatement 66 rfl) (v := k11) (by rw [qk11]; rfl) ?_
                refine r_puti (k := 6) (lo := (-2147483648)) (hi := 2147483647) C oCl5 rfl (by decide) flX5_109 rfl rfl rfl rfl rfl rfl rfl rfl (n_rng _) (oDec_at oX5_bookStatement 67 rfl) ?_
                refine r_aload_n C (j := 0) (oDec_at oX5_bookStatement 68 rfl) rfl rfl ?_
                refine r_iload_n C (j := 1) (oDec_at oX5_bookStatement 69 rfl) rfl rfl ?_
                refine r_iconst C (oDec_at oX5_bookStatement 70 rfl) (v := k5) (by rw [qk5]; rfl) ?_
                refine r_icmp_ne C 140 (oDec_at oX5_bookStatement 71 rfl) (by decide) (fun cd33 => ?_) (fun cd33 => ?_)
                · skip
                  refine r_bipush C (oDec_at oX5_bookStatement 74 rfl) (v := k19) (by rw [qk19]; rfl) ?_
                  refine r_puti (k := 7) (lo := (-2147483648)) (hi := 2147483647) C oCl5 rfl (by decide) flX5_112 rfl rfl rfl rfl rfl rfl rfl rfl (n_rng _) (oDec_at oX5_bookStatement 75 rfl) ?_
                  refine r_iload_n C (j := 1) (oDec_at oX5_bookStatement 76 rfl) rfl rfl ?_
                  refine r_iconst C (oDec_at oX5_bookStatement 77 rfl) (v := k5) (by rw [qk5]; rfl) ?_
                  refine r_icmp_ne C 157 (oDec_at oX5_bookStatement 78 rfl) (by decide) (fun cd34 => ?_) (fun cd34 => ?_)
                  · skip
                    refine r_aload_n C (j := 0) (oDec_at oX5_bookStatement 82 rfl) rfl rfl ?_
                    refine r_bipush C (oDec_at oX5_bookStatement 83 rfl) (v := k6) (by rw [qk6]; rfl) ?_
                    refine r_callVi C oCl5 rfl miX5_expect mlX5_74 (ct_X5_expect l E ((pI (pI u26 30 6 k11) 30 7 k19)) k6 ) (by decide) rfl rfl rfl (Nat.le_of_ble_eq_true rfl) (oDec_at oX5_bookStatement 84 rfl) (fun r36 u35 pu35 fu35 => ?_)
                    try dsimp only at pu35
                    have rr36 := n_rng r36
                    refine r_if_eq C 182 (oDec_at oX5_bookStatement 85 rfl) (by decide) (fun cd37 => ?_) (fun cd37 => ?_)
                    · skip
                      refine r_iconst C (oDec_at oX5_bookStatement 93 rfl) (v := k0) (by rw [qk0]; rfl) ?_
                      exact r_zret C (n_bool (by omega)) (oDec_at oX5_bookStatement 94 rfl) ⟨_, rfl, by omega⟩
                    · skip
                      refine r_aload_n C (j := 0) (oDec_at oX5_bookStatement 86 rfl) rfl rfl ?_
                      have lk38 : ((u35).1 30 5).toInt = (s.1 30 5).toInt := congrArg Int32.toInt (((fu35 30 5 rfl).1).trans (((pI_ne (a := 30) (b := 5) (c := 30) (k := 7) _ _ (Or.inr (by decide)))).trans (((pI_ne (a := 30) (b := 5) (c := 30) (k := 6) _ _ (Or.inr (by decide)))).trans (((fu26 30 5 rfl).1).trans ((fu1 30 5 rfl).1)))))
                      have lk39 : ((u35).1 30 5).toInt = (s.1 30 5).toInt := congrArg Int32.toInt (((fu35 30 5 rfl).1).trans (((pI_ne (a := 30) (b := 5) (c := 30) (k := 7) _ _ (Or.inr (by decide)))).trans (((pI_ne (a := 30) (b := 5) (c := 30) (k := 6) _ _ (Or.inr (by decide)))).trans (((fu26 30 5 rfl).1).trans ((fu1 30 5 rfl).1)))))
                      refine r_callVi C oCl5 rfl miX5_test mlX5_118 (ct_X5_test l E (u35)  (by omega)) (by decide) rfl rfl rfl (Nat.le_of_ble_eq_true rfl) (oDec_at oX5_bookStatement 87 rfl) (fun r41 u40 pu40 fu40 => ?_)
                      try dsimp only at pu40
                      have rr41 := n_rng r41
                      refine r_if_eq C 182 (oDec_at oX5_bookStatement 88 rfl) (by decide) (fun cd42 => ?_) (fun cd42 => ?_)
                      · skip
                        refine r_iconst C (oDec_at oX5_bookStatement 93 rfl) (v := k0) (by rw [qk0]; rfl) ?_
                        exact r_zret C (n_bool (by omega)) (oDec_at oX5_bookStatement 94 rfl) ⟨_, rfl, by omega⟩
                      · skip
                        refine r_aload_n C (j := 0) (oDec_at oX5_bookStatement 89 rfl) rfl rfl ?_
                        refine r_bipush C (oDec_at oX5_bookStatement 90 rfl) (v := k59) (by rw [qk59]; rfl) ?_
                        refine r_callVi C oCl5 rfl miX5_expectSign mlX5_88 (ct_X5_expectSign l E (u40) k59 (by omega)) (by decide) rfl rfl rfl (Nat.le_of_ble_eq_true rfl) (oDec_at oX5_bookStatement 91 rfl) (fun r44 u43 pu43 fu43 => ?_)
                        try dsimp only at pu43
                        have rr44 := n_rng r44
                        refine r_if_ne C 184 (oDec_at oX5_bookStatement 92 rfl) (by decide) (fun cd45 => ?_) (fun cd45 => ?_)
                        · skip
                          refine r_aload_n C (j := 0) (oDec_at oX5_bookStatement 95 rfl) rfl rfl ?_
                          refine r_getK (k := 1) (b := b17) C oCl5 rfl (by decide) flX5_19 rfl rfl (((fu43 30 1 rfl).2.2).trans (((fu40 30 1 rfl).2.2).trans (((fu35 30 1 rfl).2.2).trans ((show ((pI (pI u26 30 6 k11) 30 7 k19)).2.2 30 1 = b17 + 1 from (show ((pI u26 30 6 k11)).2.2 30 1 = b17 + 1 from ((fu26 30 1 rfl).2.2).trans (rb17))))))) (oDec_at oX5_bookStatement 96 rfl) ?_
                          refine r_iload_n C (j := 1) (oDec_at oX5_bookStatement 97 rfl) rfl rfl ?_
                          refine r_iconst C (oDec_at oX5_bookStatement 98 rfl) (v := k5) (by rw [qk5]; rfl) ?_
                          refine r_icmp_ne C 197 (oDec_at oX5_bookStatement 99 rfl) (by decide) (fun cd47 => ?_) (fun cd47 => ?_)
                          · skip
                            refine r_iconst C (oDec_at oX5_bookStatement 102 rfl) (v := k0) (by rw [qk0]; rfl) ?_
                            refine r_iload_n C (j := 2) (oDec_at oX5_bookStatement 103 rfl) rfl rfl ?_
                            have lk48 : ((u43).1 b17 8).toInt = (s.1 b17 8).toInt := congrArg Int32.toInt (((fu43 b17 8 (by rw [hkb17]; rfl)).1).trans (((fu40 b17 8 (by rw [hkb17]; rfl)).1).trans (((fu35 b17 8 (by rw [hkb17]; rfl)).1).trans (((pI_ne _ _ (Or.inl (okd_ne hkb17 rfl (by decide))))).trans (((pI_ne _ _ (Or.inl (okd_ne hkb17 rfl (by decide))))).trans (((fu26 b17 8 (by rw [hkb17]; rfl)).1).trans ((fu1 b17 8 (by rw [hkb17]; rfl)).1)))))))
                            have lk49 : ((u43).1 b17 7).toInt = v18.toInt := congrArg Int32.toInt (((fu43 b17 7 (by rw [hkb17]; rfl)).1).trans (((fu40 b17 7 (by rw [hkb17]; rfl)).1).trans (((fu35 b17 7 (by rw [hkb17]; rfl)).1).trans (((pI_ne _ _ (Or.inl (okd_ne hkb17 rfl (by decide))))).trans (((pI_ne _ _ (Or.inl (okd_ne hkb17 rfl (by decide))))).trans (((fu26 b17 7 (by rw [hkb17]; rfl)).1).trans (ev18)))))))
                            refine r_callVv C oCl0 hkb17 miX0_close mlX5_121 (ct_X0_close l E (u43) b17 hkb17 k0 v30 (by omega) (by omega) (by omega) (by omega)) (by decide) rfl rfl rfl (Nat.le_of_ble_eq_true rfl) (oDec_at oX5_bookStatement 104 rfl) (fun u50 pu50 fu50 => ?_)
                            try dsimp only at pu50
                            refine r_iconst C (oDec_at oX5_bookStatement 105 rfl) (v := k1) (by rw [qk1]; rfl) ?_
                            exact r_zret C (n_bool (by omega)) (oDec_at oX5_bookStatement 106 rfl) ⟨_, rfl, by omega⟩
                          · omega
                        · skip
                          refine r_iconst C (oDec_at oX5_bookStatement 93 rfl) (v := k0) (by rw [qk0]; rfl) ?_
                          exact r_zret C (n_bool (by omega)) (oDec_at oX5_bookStatement 94 rfl) ⟨_, rfl, by omega⟩
                  · omega
                · omega
              · omega
            · omega
          · omega
    · skip
      refine r_iload_n C (j := 1) (oDec_at oX5_bookStatement 9 rfl) rfl rfl ?_
      refine r_iconst C (oDec_at oX5_bookStatement 10 rfl) (v := k5) (by rw [qk5]; rfl) ?_
      refine r_icmp_eq C 30 (oDec_at oX5_bookStatement 11 rfl) (by decide) (fun cd52 => ?_) (fun cd52 => ?_)
      · skip
        refine r_iload_n C (j := 1) (oDec_at oX5_bookStatement 18 rfl) rfl rfl ?_
        refine r_iconst C (oDec_at oX5_bookStatement 19 rfl) (v := k4) (by rw [qk4]; rfl) ?_
        refine r_icmp_ne C 47 (oDec_at oX5_bookStatement 20 rfl) (by decide) (fun cd53 => ?_) (fun cd53 => ?_)
        · skip
          refine r_iload_n C (j := 1) (oDec_at oX5_bookStatement 26 rfl) rfl rfl ?_
          refine r_iconst C (oDec_at oX5_bookStatement 27 rfl) (v := k5) (by rw [qk5]; rfl) ?_
          refine r_icmp_ne C 74 (oDec_at oX5_bookStatement 28 rfl) (by decide) (fun cd54 => ?_) (fun cd54 => ?_)
          · omega
          · skip
            refine r_aload_n C (j := 0) (oDec_at oX5_bookStatement 29 rfl) rfl rfl ?_
            refine r_getS (k := 1) (q2 := 0) C oCl5 rfl (by decide) flX5_19 rfl rfl rfl ks1 (oDec_at oX5_bookStatement 30 rfl) (fun b55 rb55 mb55 hkb55 => ?_)
            obtain ⟨v56, ev56⟩ : ∃ z : Int32, (u1).1 b55 8 = z := ⟨_, rfl⟩
            have gv56 : (s.1 b55 8).toInt = v56.toInt := congrArg Int32.toInt (((fu1 b55 8 (by rw [hkb55]; rfl)).1).symm.trans ev56)
            refine r_getiN (k := 8) (lo := 0) (hi := 6) C v56 oCl0 hkb55 (by decide) flX5_97 rfl rfl (ev56) rfl rfl (oDec_at oX5_bookStatement 31 rfl) (fun b57 b57h => ?_)
            refine r_bipush C (oDec_at oX5_bookStatement 32 rfl) (v := k6) (by rw [qk6]; rfl) ?_
            refine r_icmp_lt C 74 (oDec_at oX5_bookStatement 33 rfl) (by decide) (fun cd58 => ?_) (fun cd58 => ?_)
            · skip
              refine r_aload_n C (j := 0) (oDec_at oX5_bookStatement 40 rfl) rfl rfl ?_
              refine r_callVv C oCl5 rfl miX5_passWord mlX5_100 (ct_X5_passWord l E (u1)  ) (by decide) rfl rfl rfl (Nat.le_of_ble_eq_true rfl) (oDec_at oX5_bookStatement 41 rfl) (fun u59 pu59 fu59 => ?_)
              try dsimp only at pu59
              refine r_iload_n C (j := 1) (oDec_at oX5_bookStatement 42 rfl) rfl rfl ?_
              refine r_iconst C (oDec_at oX5_bookStatement 43 rfl) (v := k3) (by rw [qk3]; rfl) ?_
              refine r_icmp_ne C 105 (oDec_at oX5_bookStatement 44 rfl) (by decide) (fun cd61 => ?_) (fun cd61 => ?_)
              · skip
                refine r_aload_n C (j := 0) (oDec_at oX5_bookStatement 56 rfl) rfl rfl ?_
                refine r_getK (k := 1) (b := b55) C oCl5 rfl (by decide) flX5_19 rfl rfl (((fu59 30 1 rfl).2.2).trans (rb55)) (oDec_at oX5_bookStatement 57 rfl) ?_
                obtain ⟨v63, ev63⟩ : ∃ z : Int32, (u59).1 b55 1 = z := ⟨_, rfl⟩
                have gv63 : (s.1 b55 1).toInt = v63.toInt := congrArg Int32.toInt ((((fu59 b55 1 (by rw [hkb55]; rfl)).1).trans ((fu1 b55 1 (by rw [hkb55]; rfl)).1)).symm.trans ev63)
                refine r_getiN (k := 1) (lo := 0) (hi := 1600) C v63 oCl0 hkb55 (by decide) flX5_106 rfl rfl (ev63) rfl rfl (oDec_at oX5_bookStatement 58 rfl) (fun b64 b64h => ?_)
                refine r_istore_n C (lv' := [(0, .ref (oad E 30)), (1, .int r2), (2, .int v63)]) [1, 2, 0] (oDec_at oX5_bookStatement 59 rfl) rfl (by decide) rfl ?_
                refine r_aload_n C (j := 0) (oDec_at oX5_bookStatement 60 rfl) rfl rfl ?_
                refine r_iload_n C (j := 1) (oDec_at oX5_bookStatement 61 rfl) rfl rfl ?_
                refine r_iconst C (oDec_at oX5_bookStatement 62 rfl) (v := k5) (by rw [qk5]; rfl) ?_
                refine r_pc C 116 rfl ?_
                refine r_icmp_ne C 124 (oDec_at oX5_bookStatement 63 rfl) (by decide) (fun cd65 => ?_) (fun cd65 => ?_)
                · omega
                · skip
                  refine r_bipush C (oDec_at oX5_bookStatement 64 rfl) (v := k19) (by rw [qk19]; rfl) ?_
                  refine r_goto C (tgt := 126) (oDec_at oX5_bookStatement 65 rfl) (by decide) ?_
                  refine r_puti (k := 6) (lo := (-2147483648)) (hi := 2147483647) C oCl5 rfl (by decide) flX5_109 rfl rfl rfl rfl rfl rfl rfl rfl (n_rng _) (oDec_at oX5_bookStatement 67 rfl) ?_
                  refine r_aload_n C (j := 0) (oDec_at oX5_bookStatement 68 rfl) rfl rfl ?_
                  refine r_iload_n C (j := 1) (oDec_at oX5_bookStatement 69 rfl) rfl rfl ?_
                  refine r_iconst C (oDec_at oX5_bookStatement 70 rfl) (v := k5) (by rw [qk5]; rfl) ?_
                  refine r_icmp_ne C 140 (oDec_at oX5_bookStatement 71 rfl) (by decide) (fun cd66 => ?_) (fun cd66 => ?_)
                  · omega
                  · skip
                    refine r_bipush C (oDec_at oX5_bookStatement 72 rfl) (v := k24) (by rw [qk24]; rfl) ?_
                    refine r_goto C (tgt := 142) (oDec_at oX5_bookStatement 73 rfl) (by decide) ?_
                    refine r_puti (k := 7) (lo := (-2147483648)) (hi := 2147483647) C oCl5 rfl (by decide) flX5_112 rfl rfl rfl rfl rfl rfl rfl rfl (n_rng _) (oDec_at oX5_bookStatement 75 rfl) ?_
                    refine r_iload_n C (j := 1) (oDec_at oX5_bookStatement 76 rfl) rfl rfl ?_
                    refine r_iconst C (oDec_at oX5_bookStatement 77 rfl) (v := k5) (by rw [qk5]; rfl) ?_
                    refine r_icmp_ne C 157 (oDec_at oX5_bookStatement 78 rfl) (by decide) (fun cd67 => ?_) (fun cd67 => ?_)
                    · omega
                    · skip
                      refine r_aload_n C (j := 0) (oDec_at oX5_bookStatement 79 rfl) rfl rfl ?_
                      refine r_callVi C oCl5 rfl miX5_name mlX5_115 (ct_X5_name l E ((pI (pI u59 30 6 k19) 30 7 k24))  ) (by decide) rfl rfl rfl (Nat.le_of_ble_eq_true rfl) (oDec_at oX5_bookStatement 80 rfl) (fun r69 u68 pu68 fu68 => ?_)
                      try dsimp only at pu68
                      have rr69 := n_rng r69
                      refine r_if_eq C 182 (oDec_at oX5_bookStatement 81 rfl) (by decide) (fun cd70 => ?_) (fun cd70 => ?_)
                      · skip
                        refine r_iconst C (oDec_at oX5_bookStatement 93 rfl) (v := k0) (by rw [qk0]; rfl) ?_
                        exact r_zret C (n_bool (by omega)) (oDec_at oX5_bookStatement 94 rfl) ⟨_, rfl, by omega⟩
                      · skip
                        refine r_aload_n C (j := 0) (oDec_at oX5_bookStatement 82 rfl) rfl rfl ?_
                        refine r_bipush C (oDec_at oX5_bookStatement 83 rfl) (v := k6) (by rw [qk6]; rfl) ?_
                        refine r_callVi C oCl5 rfl miX5_expect mlX5_74 (ct_X5_expect l E (u68) k6 ) (by decide) rfl rfl rfl (Nat.le_of_ble_eq_true rfl) (oDec_at oX5_bookStatement 84 rfl) (fun r72 u71 pu71 fu71 => ?_)
                        try dsimp only at pu71
                        have rr72 := n_rng r72
                        refine r_if_eq C 182 (oDec_at oX5_bookStatement 85 rfl) (by decide) (fun cd73 => ?_) (fun cd73 => ?_)
                        · skip
                          refine r_iconst C (oDec_at oX5_bookStatement 93 rfl) (v := k0) (by rw [qk0]; rfl) ?_
                          exact r_zret C (n_bool (by omega)) (oDec_at oX5_bookStatement 94 rfl) ⟨_, rfl, by omega⟩
                        · skip
                          refine r_aload_n C (j := 0) (oDec_at oX5_bookStatement 86 rfl) rfl rfl ?_
                          have lk74 : ((u71).1 30 5).toInt = (s.1 30 5).toInt := congrArg Int32.toInt (((fu71 30 5 rfl).1).trans (((fu68 30 5 rfl).1).trans (((pI_ne (a := 30) (b := 5) (c := 30) (k := 7) _ _ (Or.inr (by decide)))).trans (((pI_ne (a := 30) (b := 5) (c := 30) (k := 6) _ _ (Or.inr (by decide)))).trans (((fu59 30 5 rfl).1).trans ((fu1 30 5 rfl).1))))))
                          have lk75 : ((u71).1 30 5).toInt = (s.1 30 5).toInt := congrArg Int32.toInt (((fu71 30 5 rfl).1).trans (((fu68 30 5 rfl).1).trans (((pI_ne (a := 30) (b := 5) (c := 30) (k := 7) _ _ (Or.inr (by decide)))).trans (((pI_ne (a := 30) (b := 5) (c := 30) (k := 6) _ _ (Or.inr (by decide)))).trans (((fu59 30 5 rfl).1).trans ((fu1 30 5 rfl).1))))))
                          refine r_callVi C oCl5 rfl miX5_test mlX5_118 (ct_X5_test l E (u71)  (by omega)) (by decide) rfl rfl rfl (Nat.le_of_ble_eq_true rfl) (oDec_at oX5_bookStatement 87 rfl) (fun r77 u76 pu76 fu76 => ?_)
                          try dsimp only at pu76
                          have rr77 := n_rng r77
                          refine r_if_eq C 182 (oDec_at oX5_bookStatement 88 rfl) (by decide) (fun cd78 => ?_) (fun cd78 => ?_)
                          · skip
                            refine r_iconst C (oDec_at oX5_bookStatement 93 rfl) (v := k0) (by rw [qk0]; rfl) ?_
                            exact r_zret C (n_bool (by omega)) (oDec_at oX5_bookStatement 94 rfl) ⟨_, rfl, by omega⟩
                          · skip
                            refine r_aload_n C (j := 0) (oDec_at oX5_bookStatement 89 rfl) rfl rfl ?_
                            refine r_bipush C (oDec_at oX5_bookStatement 90 rfl) (v := k59) (by rw [qk59]; rfl) ?_
                            refine r_callVi C oCl5 rfl miX5_expectSign mlX5_88 (ct_X5_expectSign l E (u76) k59 (by omega)) (by decide) rfl rfl rfl (Nat.le_of_ble_eq_true rfl) (oDec_at oX5_bookStatement 91 rfl) (fun r80 u79 pu79 fu79 => ?_)
                            try dsimp only at pu79
                            have rr80 := n_rng r80
                            refine r_if_ne C 184 (oDec_at oX5_bookStatement 92 rfl) (by decide) (fun cd81 => ?_) (fun cd81 => ?_)
                            · skip
                              refine r_aload_n C (j := 0) (oDec_at oX5_bookStatement 95 rfl) rfl rfl ?_
                              refine r_getK (k := 1) (b := b55) C oCl5 rfl (by decide) flX5_19 rfl rfl (((fu79 30 1 rfl).2.2).trans (((fu76 30 1 rfl).2.2).trans (((fu71 30 1 rfl).2.2).trans (((fu68 30 1 rfl).2.2).trans ((show ((pI (pI u59 30 6 k19) 30 7 k24)).2.2 30 1 = b55 + 1 from (show ((pI u59 30 6 k19)).2.2 30 1 = b55 + 1 from ((fu59 30 1 rfl).2.2).trans (rb55)))))))) (oDec_at oX5_bookStatement 96 rfl) ?_
                              refine r_iload_n C (j := 1) (oDec_at oX5_bookStatement 97 rfl) rfl rfl ?_
                              refine r_iconst C (oDec_at oX5_bookStatement 98 rfl) (v := k5) (by rw [qk5]; rfl) ?_
                              refine r_icmp_ne C 197 (oDec_at oX5_bookStatement 99 rfl) (by decide) (fun cd83 => ?_) (fun cd83 => ?_)
                              · omega
                              · skip
                                refine r_iconst C (oDec_at oX5_bookStatement 100 rfl) (v := k1) (by rw [qk1]; rfl) ?_
                                refine r_goto C (tgt := 198) (oDec_at oX5_bookStatement 101 rfl) (by decide) ?_
                                refine r_iload_n C (j := 2) (oDec_at oX5_bookStatement 103 rfl) rfl rfl ?_
                                have lk84 : ((u79).1 b55 8).toInt = v56.toInt := congrArg Int32.toInt (((fu79 b55 8 (by rw [hkb55]; rfl)).1).trans (((fu76 b55 8 (by rw [hkb55]; rfl)).1).trans (((fu71 b55 8 (by rw [hkb55]; rfl)).1).trans (((fu68 b55 8 (by rw [hkb55]; rfl)).1).trans (((pI_ne _ _ (Or.inl (okd_ne hkb55 rfl (by decide))))).trans (((pI_ne _ _ (Or.inl (okd_ne hkb55 rfl (by decide))))).trans (((fu59 b55 8 (by rw [hkb55]; rfl)).1).trans (ev56))))))))
                                have lk85 : ((u79).1 b55 7).toInt = (s.1 b55 7).toInt := congrArg Int32.toInt (((fu79 b55 7 (by rw [hkb55]; rfl)).1).trans (((fu76 b55 7 (by rw [hkb55]; rfl)).1).trans (((fu71 b55 7 (by rw [hkb55]; rfl)).1).trans (((fu68 b55 7 (by rw [hkb55]; rfl)).1).trans (((pI_ne _ _ (Or.inl (okd_ne hkb55 rfl (by decide))))).trans (((pI_ne _ _ (Or.inl (okd_ne hkb55 rfl (by decide))))).trans (((fu59 b55 7 (by rw [hkb55]; rfl)).1).trans ((fu1 b55 7 (by rw [hkb55]; rfl)).1))))))))
                                refine r_callVv C oCl0 hkb55 miX0_close mlX5_121 (ct_X0_close l E (u79) b55 hkb55 k1 v63 (by omega) (by omega) (by omega) (by omega)) (by decide) rfl rfl rfl (Nat.le_of_ble_eq_true rfl) (oDec_at oX5_bookStatement 104 rfl) (fun u86 pu86 fu86 => ?_)
                                try dsimp only at pu86
                                refine r_iconst C (oDec_at oX5_bookStatement 105 rfl) (v := k1) (by rw [qk1]; rfl) ?_
                                exact r_zret C (n_bool (by omega)) (oDec_at oX5_bookStatement 106 rfl) ⟨_, rfl, by omega⟩
                            · skip
                              refine r_iconst C (oDec_at oX5_bookStatement 93 rfl) (v := k0) (by rw [qk0]; rfl) ?_
                              exact r_zret C (n_bool (by omega)) (oDec_at oX5_bookStatement 94 rfl) ⟨_, rfl, by omega⟩
              · omega
            · skip
              refine r_aload_n C (j := 0) (oDec_at oX5_bookStatement 34 rfl) rfl rfl ?_
              refine r_iconst C (oDec_at oX5_bookStatement 35 rfl) (v := k5) (by rw [qk5]; rfl) ?_
              refine r_aload_n C (j := 0) (oDec_at oX5_bookStatement 36 rfl) rfl rfl ?_
              obtain ⟨v88, ev88⟩ : ∃ z : Int32, (u1).1 30 2 = z := ⟨_, rfl⟩
              have gv88 : (u1.1 30 2).toInt = v88.toInt := congrArg Int32.toInt (ev88)
              refine r_geti (k := 2) (lo := 0) (hi := 1600) C v88 oCl5 rfl (by decide) flX5_23 rfl rfl (ev88) rfl rfl (oDec_at oX5_bookStatement 37 rfl) (fun b89 b89h => ?_)
              refine r_callVi C oCl5 rfl miX5_fail mlX5_62 (ct_X5_fail l E (u1) k5 v88 ) (by decide) rfl rfl rfl (Nat.le_of_ble_eq_true rfl) (oDec_at oX5_bookStatement 38 rfl) (fun r91 u90 pu90 fu90 => ?_)
              try dsimp only at pu90
              have rr91 := n_rng r91
              exact r_zret C (n_bool (by omega)) (oDec_at oX5_bookStatement 39 rfl) ⟨_, rfl, by omega⟩
        · omega
      · skip
        refine r_aload_n C (j := 0) (oDec_at oX5_bookStatement 12 rfl) rfl rfl ?_
        refine r_iconst C (oDec_at oX5_bookStatement 13 rfl) (v := k1) (by rw [qk1]; rfl) ?_
        refine r_aload_n C (j := 0) (oDec_at oX5_bookStatement 14 rfl) rfl rfl ?_
        obtain ⟨v92, ev92⟩ : ∃ z : Int32, (u1).1 30 2 = z := ⟨_, rfl⟩
        have gv92 : (u1.1 30 2).toInt = v92.toInt := congrArg Int32.toInt (ev92)
        refine r_geti (k := 2) (lo := 0) (hi := 1600) C v92 oCl5 rfl (by decide) flX5_23 rfl rfl (ev92) rfl rfl (oDec_at oX5_bookStatement 15 rfl) (fun b93 b93h => ?_)
        refine r_callVi C oCl5 rfl miX5_fail mlX5_62 (ct_X5_fail l E (u1) k1 v92 ) (by decide) rfl rfl rfl (Nat.le_of_ble_eq_true rfl) (oDec_at oX5_bookStatement 16 rfl) (fun r95 u94 pu94 fu94 => ?_)
        try dsimp only at pu94
        have rr95 := n_rng r95
        exact r_zret C (n_bool (by omega)) (oDec_at oX5_bookStatement 17 rfl) ⟨_, rfl, by omega⟩
set_option maxHeartbeats 4000000 in
set_option maxRecDepth 100000 in
theorem ct_X5_readLine (l : Launch) (E : oE) (s : oS) (c1 : Nat) (hk1 : okd c1 = 4)  : oMet l 8 yX5_readLine cX5_readLine 3 (some .int) [(4, 4), (4, 5), (4, 6), (4, 7), (5, 2), (5, 3), (5, 4), (5, 5), (5, 8), (5, 9), (16, 9999), (17, 9999), (18, 9999), (19, 9999)] E s [.ref (oad E 30), .ref (oad E c1)] (oPi (fun r u => True)) := by
  refine oMet.of (lv := [(0, .ref (oad E 30)), (1, .ref (oad E c1))]) (by decide +kernel) (Nat.le_of_ble_eq_true rfl) rfl (fun J C hT => ?_)
  have C : oC l 8 cX5_readLine RX5 3 (some .int) [(4, 4), (4, 5), (4, 6), (4, 7), (5, 2), (5, 3), (5, 4), (5, 5), (5, 8), (5, 9), (16, 9999), (17, 9999), (18, 9999), (19, 9999)] E s (oPi (fun r u => True)) J := C
  obtain ⟨km1, qkm1⟩ : ∃ z : Int32, z = (-1) := ⟨_, rfl⟩
  have ekm1 : km1.toInt = (-1) := by rw [qkm1]; rfl
  obtain ⟨k0, qk0⟩ : ∃ z : Int32, z = 0 := ⟨_, rfl⟩
  have ek0 : k0.toInt = 0 := by rw [qk0]; rfl
  obtain ⟨k24, qk24⟩ : ∃ z : Int32, z = 24 := ⟨_, rfl⟩
  have ek24 : k24.toInt = 24 := by rw [qk24]; rfl
  have key : ∀ n : Nat, (∀ (t : oS) (x2 : Int32), (0 ≤ x2.toInt ∧ x2.toInt ≤ 24) → 25 - x2.toInt ≤ (n : Int) → J t 10 [(0, .ref (oad E 30)), (1, .ref (oad E c1)), (2, .int x2)] []) := by
    intro n
    induction n using Nat.strongRecOn with
    | _ n ih =>
      skip
      · intro t x2  iv0 hmu
        have rx2 := n_rng x2
        refine r_iload_n C (j := 2) (oDec_at oX5_readLine 6 rfl) rfl rfl ?_
        refine r_bipush C (oDec_at oX5_readLine 7 rfl) (v := k24) (by rw [qk24]; rfl) ?_
        refine r_icmp_ge C 42 (oDec_at oX5_readLine 8 rfl) (by decide) (fun cd1 => ?_) (fun cd1 => ?_)
        · skip
          refine r_aload_n C (j := 0) (oDec_at oX5_readLine 23 rfl) rfl rfl ?_
          refine r_bipush C (oDec_at oX5_readLine 24 rfl) (v := k24) (by rw [qk24]; rfl) ?_
          refine r_callVi C oCl5 rfl miX5_closing mlX5_51 (ct_X5_closing l E (t) k24 ) (by decide) rfl rfl rfl (Nat.le_of_ble_eq_true rfl) (oDec_at oX5_readLine 25 rfl) (fun r3 u2 pu2 fu2 => ?_)
          try dsimp only at pu2
          have rr3 := n_rng r3
          exact r_iret C (oDec_at oX5_readLine 26 rfl) ⟨_, rfl, trivial⟩
        · skip
          refine r_aload_n C (j := 0) (oDec_at oX5_readLine 9 rfl) rfl rfl ?_
          refine r_callVi C oCl5 rfl miX5_peek mlX5_43 (ct_X5_peek l E (t)  ) (by decide) rfl rfl rfl (Nat.le_of_ble_eq_true rfl) (oDec_at oX5_readLine 10 rfl) (fun r5 u4 pu4 fu4 => ?_)
          try dsimp only at pu4
          have rr5 := n_rng r5
          refine r_iconst C (oDec_at oX5_readLine 11 rfl) (v := km1) (by rw [qkm1]; rfl) ?_
          refine r_icmp_ne C 26 (oDec_at oX5_readLine 12 rfl) (by decide) (fun cd6 => ?_) (fun cd6 => ?_)
          · skip
            refine r_aload_n C (j := 0) (oDec_at oX5_readLine 15 rfl) rfl rfl ?_
            refine r_aload_n C (j := 1) (oDec_at oX5_readLine 16 rfl) rfl rfl ?_
            refine r_callVi C oCl5 rfl miX5_noteStatement mlX5_47 (ct_X5_noteStatement l E (u4) c1 hk1 ) (by decide) rfl rfl rfl (Nat.le_of_ble_eq_true rfl) (oDec_at oX5_readLine 17 rfl) (fun r8 u7 pu7 fu7 => ?_)
            try dsimp only at pu7
            have rr8 := n_rng r8
            refine r_if_ne C 36 (oDec_at oX5_readLine 18 rfl) (by decide) (fun cd9 => ?_) (fun cd9 => ?_)
            · skip
              obtain ⟨v10, ev10⟩ : ∃ z : Int32, x2 + Int32.ofInt 1 = z := ⟨_, rfl⟩
              have hv10 : v10.toInt = x2.toInt + 1 := n_inc ev10 (by decide) (by omega) (by omega)
              refine r_iinc C (j := 2) (lv' := [(0, .ref (oad E 30)), (1, .ref (oad E c1)), (2, .int v10)]) v10 [1, 2, 0] (oDec_at oX5_readLine 21 rfl) rfl ev10 (by decide) rfl ?_
              refine r_goto C (tgt := 10) (oDec_at oX5_readLine 22 rfl) (by decide) ?_
              exact (ih (n - 1) (by omega)) (u7) v10  (by omega) (by omega)
            · skip
              refine r_iconst C (oDec_at oX5_readLine 19 rfl) (v := km1) (by rw [qkm1]; rfl) ?_
              exact r_iret C (oDec_at oX5_readLine 20 rfl) ⟨_, rfl, trivial⟩
          · skip
            refine r_iload_n C (j := 2) (oDec_at oX5_readLine 13 rfl) rfl rfl ?_
            exact r_iret C (oDec_at oX5_readLine 14 rfl) ⟨_, rfl, trivial⟩
  refine r_aload_n C (j := 0) (oDec_at oX5_readLine 0 rfl) rfl rfl ?_
  refine r_callVv C oCl5 rfl miX5_begin mlX5_35 (ct_X5_begin l E (s)  ) (by decide) rfl rfl rfl (Nat.le_of_ble_eq_true rfl) (oDec_at oX5_readLine 1 rfl) (fun u11 pu11 fu11 => ?_)
  try dsimp only at pu11
  refine r_aload_n C (j := 1) (oDec_at oX5_readLine 2 rfl) rfl rfl ?_
  refine r_callVv C oCl4 hk1 miX4_clear mlX5_38 (ct_X4_clear l E (u11) c1 hk1 ) (by decide) rfl rfl rfl (Nat.le_of_ble_eq_true rfl) (oDec_at oX5_readLine 3 rfl) (fun u13 pu13 fu13 => ?_)
  try dsimp only at pu13
  refine r_iconst C (oDec_at oX5_readLine 4 rfl) (v := k0) (by rw [qk0]; rfl) ?_
  refine r_istore_n C (lv' := [(0, .ref (oad E 30)), (1, .ref (oad E c1)), (2, .int k0)]) [1, 2, 0] (oDec_at oX5_readLine 5 rfl) rfl (by decide) rfl ?_
  exact (key (25 - k0.toInt).toNat) (u13) k0  (by omega) (by omega)
set_option maxHeartbeats 4000000 in
set_option maxRecDepth 100000 in
theorem ct_X5_readBook (l : Launch) (E : oE) (s : oS) (c1 : Nat) (hk1 : okd c1 = 0)  : oMet l 76 yX5_readBook cX5_readBook 3 (some .int) [(0, 1), (0, 6), (0, 7), (0, 8), (5, 1), (5, 2), (5, 3), (5, 4), (5, 5), (5, 6), (5, 7), (5, 8), (5, 9), (20, 9999), (21, 9999), (22, 9999), (23, 9999)] E s [.ref (oad E 30), .ref (oad E c1)] (oPi (fun r u => True)) := by
  refine oMet.of (lv := [(0, .ref (oad E 30)), (1, .ref (oad E c1))]) (by decide +kernel) (Nat.le_of_ble_eq_true rfl) rfl (fun J C hT => ?_)
  have C : oC l 76 cX5_readBook RX5 3 (some .int) [(0, 1), (0, 6), (0, 7), (0, 8), (5, 1), (5, 2), (5, 3), (5, 4), (5, 5), (5, 6), (5, 7), (5, 8), (5, 9), (20, 9999), (21, 9999), (22, 9999), (23, 9999)] E s (oPi (fun r u => True)) J := C
  obtain ⟨km1, qkm1⟩ : ∃ z : Int32, z = (-1) := ⟨_, rfl⟩
  have ekm1 : km1.toInt = (-1) := by rw [qkm1]; rfl
  obtain ⟨k0, qk0⟩ : ∃ z : Int32, z = 0 := ⟨_, rfl⟩
  have ek0 : k0.toInt = 0 := by rw [qk0]; rfl
  obtain ⟨k60, qk60⟩ : ∃ z : Int32, z = 60 := ⟨_, rfl⟩
  have ek60 : k60.toInt = 60 := by rw [qk60]; rfl
  have key : ∀ n : Nat, (∀ (t : oS) (x2 : Int32), (0 ≤ x2.toInt ∧ x2.toInt ≤ 60) → 61 - x2.toInt ≤ (n : Int) → J t 18 [(0, .ref (oad E 30)), (2, .int x2)] []) := by
    intro n
    induction n using Nat.strongRecOn with
    | _ n ih =>
      skip
      · intro t x2  iv0 hmu
        have rx2 := n_rng x2
        refine r_iload_n C (j := 1) (oDec_at oX5_readBook 10 rfl) rfl rfl ?_
        refine r_bipush C (oDec_at oX5_readBook 11 rfl) (v := k60) (by rw [qk60]; rfl) ?_
        refine r_icmp_ge C 49 (oDec_at oX5_readBook 12 rfl) (by decide) (fun cd1 => ?_) (fun cd1 => ?_)
        · skip
          refine r_aload_n C (j := 0) (oDec_at oX5_readBook 26 rfl) rfl rfl ?_
          refine r_bipush C (oDec_at oX5_readBook 27 rfl) (v := k60) (by rw [qk60]; rfl) ?_
          refine r_callVi C oCl5 rfl miX5_closing mlX5_51 (ct_X5_closing l E (t) k60 ) (by decide) rfl rfl rfl (Nat.le_of_ble_eq_true rfl) (oDec_at oX5_readBook 28 rfl) (fun r3 u2 pu2 fu2 => ?_)
          try dsimp only at pu2
          have rr3 := n_rng r3
          exact r_iret C (oDec_at oX5_readBook 29 rfl) ⟨_, rfl, trivial⟩
        · skip
          refine r_aload_n C (j := 0) (oDec_at oX5_readBook 13 rfl) rfl rfl ?_
          refine r_callVi C oCl5 rfl miX5_peek mlX5_43 (ct_X5_peek l E (t)  ) (by decide) rfl rfl rfl (Nat.le_of_ble_eq_true rfl) (oDec_at oX5_readBook 14 rfl) (fun r5 u4 pu4 fu4 => ?_)
          try dsimp only at pu4
          have rr5 := n_rng r5
          refine r_iconst C (oDec_at oX5_readBook 15 rfl) (v := km1) (by rw [qkm1]; rfl) ?_
          refine r_icmp_ne C 34 (oDec_at oX5_readBook 16 rfl) (by decide) (fun cd6 => ?_) (fun cd6 => ?_)
          · skip
            refine r_aload_n C (j := 0) (oDec_at oX5_readBook 19 rfl) rfl rfl ?_
            refine r_callVi C oCl5 rfl miX5_bookStatement mlX5_58 (ct_X5_bookStatement l E (u4)  ) (by decide) rfl rfl rfl (Nat.le_of_ble_eq_true rfl) (oDec_at oX5_readBook 20 rfl) (fun r8 u7 pu7 fu7 => ?_)
            try dsimp only at pu7
            have rr8 := n_rng r8
            refine r_if_ne C 43 (oDec_at oX5_readBook 21 rfl) (by decide) (fun cd9 => ?_) (fun cd9 => ?_)
            · skip
              obtain ⟨v10, ev10⟩ : ∃ z : Int32, x2 + Int32.ofInt 1 = z := ⟨_, rfl⟩
              have hv10 : v10.toInt = x2.toInt + 1 := n_inc ev10 (by decide) (by omega) (by omega)
              refine r_iinc C (j := 1) (lv' := [(0, .ref (oad E 30)), (2, .int v10)]) v10 [1, 0] (oDec_at oX5_readBook 24 rfl) rfl ev10 (by decide) rfl ?_
              refine r_goto C (tgt := 18) (oDec_at oX5_readBook 25 rfl) (by decide) ?_
              exact (ih (n - 1) (by omega)) (u7) v10  (by omega) (by omega)
            · skip
              refine r_iconst C (oDec_at oX5_readBook 22 rfl) (v := km1) (by rw [qkm1]; rfl) ?_
              exact r_iret C (oDec_at oX5_readBook 23 rfl) ⟨_, rfl, trivial⟩
          · skip
            refine r_iload_n C (j := 1) (oDec_at oX5_readBook 17 rfl) rfl rfl ?_
            exact r_iret C (oDec_at oX5_readBook 18 rfl) ⟨_, rfl, trivial⟩
  refine r_aload_n C (j := 0) (oDec_at oX5_readBook 0 rfl) rfl rfl ?_
  refine r_callVv C oCl5 rfl miX5_begin mlX5_35 (ct_X5_begin l E (s)  ) (by decide) rfl rfl rfl (Nat.le_of_ble_eq_true rfl) (oDec_at oX5_readBook 1 rfl) (fun u11 pu11 fu11 => ?_)
  try dsimp only at pu11
  refine r_aload_n C (j := 0) (oDec_at oX5_readBook 2 rfl) rfl rfl ?_
  refine r_aload_n C (j := 1) (oDec_at oX5_readBook 3 rfl) rfl rfl ?_
  refine r_putr (k := 1) C oCl5 rfl (by decide) flX5_19 rfl rfl rfl rfl rfl rfl (oRok_S (q := 5) (k := 1) (j := 1) rfl rfl (kin1 hk1)) (oDec_at oX5_readBook 4 rfl) ?_
  refine r_aload_n C (j := 0) (oDec_at oX5_readBook 5 rfl) rfl rfl ?_
  refine r_pc C 10 rfl ?_
  refine r_getK (k := 1) (b := c1) C oCl5 rfl (by decide) flX5_19 rfl rfl ((pR_self _ _ _ _)) (oDec_at oX5_readBook 6 rfl) ?_
  refine r_callVv C oCl0 hk1 miX0_clear mlX5_55 (ct_X0_clear l E ((pR u11 30 1 (c1 + 1))) c1 hk1 ) (by decide) rfl rfl rfl (Nat.le_of_ble_eq_true rfl) (oDec_at oX5_readBook 7 rfl) (fun u14 pu14 fu14 => ?_)
  try dsimp only at pu14
  refine r_iconst C (oDec_at oX5_readBook 8 rfl) (v := k0) (by rw [qk0]; rfl) ?_
  refine r_istore_n C (lv' := [(0, .ref (oad E 30)), (1, .ref (oad E c1)), (2, .int k0)]) [1, 2, 0] (oDec_at oX5_readBook 9 rfl) rfl (by decide) rfl ?_
  refine r_pick C [0, 2] rfl ?_
  exact (key (61 - k0.toInt).toNat) (u14) k0  (by omega) (by omega)
