set_option maxHeartbeats 4000000 in
set_option maxRecDepth 100000 in
theorem ct9_X1_begin (l : Launch) (E : oE) (s : oS) (a1 : Int32) (a2 : Int32)  (hp0 : -1 ≤ a1.toInt ∧ a1.toInt ≤ 4499) (hp1 : -1 ≤ a2.toInt ∧ a2.toInt ≤ 4499) : oMet l 2 yX1_begin cX1_begin 4 none [(1, 6), (1, 7), (1, 8), (9, 0), (9, 1), (9, 2), (9, 3), (9, 4)] E s [.ref (oad E 35), .int a1, .int a2] (oPv (fun u => (owVR u) ∧ (a1.toInt = 84 → 0 ≤ a2.toInt → (owVo 40 84 u ∧ owVo 41 a2.toInt u)) ∧ ((u.1 35 6).toInt = 0))) := by
  refine oMet.of (lv := [(0, .ref (oad E 35)), (1, .int a1), (2, .int a2)]) (by decide +kernel) (Nat.le_of_ble_eq_true rfl) rfl (fun J C hT => ?_)
  have C : oC l 2 cX1_begin RX1 4 none [(1, 6), (1, 7), (1, 8), (9, 0), (9, 1), (9, 2), (9, 3), (9, 4)] E s (oPv (fun u => (owVR u) ∧ (a1.toInt = 84 → 0 ≤ a2.toInt → (owVo 40 84 u ∧ owVo 41 a2.toInt u)) ∧ ((u.1 35 6).toInt = 0))) J := C
  obtain ⟨k0, qk0⟩ : ∃ z : Int32, z = 0 := ⟨_, rfl⟩
  have ek0 : k0.toInt = 0 := by rw [qk0]; rfl
  obtain ⟨k1, qk1⟩ : ∃ z : Int32, z = 1 := ⟨_, rfl⟩
  have ek1 : k1.toInt = 1 := by rw [qk1]; rfl
  obtain ⟨k84, qk84⟩ : ∃ z : Int32, z = 84 := ⟨_, rfl⟩
  have ek84 : k84.toInt = 84 := by rw [qk84]; rfl
  have rg1 := n_rng a1
  have rg2 := n_rng a2
  refine r_iload_n C (j := 1) (oDec_at oX1_begin 0 rfl) rfl rfl ?_
  refine r_bipush C (oDec_at oX1_begin 1 rfl) (v := k84) (by rw [qk84]; rfl) ?_
  refine r_icmp_eq C 17 (oDec_at oX1_begin 2 rfl) (by decide) (fun cd1 => ?_) (fun cd1 => ?_)
  · skip
    refine r_iconst C (oDec_at oX1_begin 9 rfl) (v := k1) (by rw [qk1]; rfl) ?_
    refine r_goto C (tgt := 22) (oDec_at oX1_begin 10 rfl) (by decide) ?_
    refine r_istore_n C (lv' := [(0, .ref (oad E 35)), (1, .int a1), (2, .int a2), (3, .int k1)]) [1, 2, 3, 0] (oDec_at oX1_begin 12 rfl) rfl (by decide) rfl ?_
    refine r_aload_n C (j := 0) (oDec_at oX1_begin 13 rfl) rfl rfl ?_
    refine r_getF (k := 4) (b := 40) C oCl1 rfl (by decide) flX1_27 rfl rfl rfl (oDec_at oX1_begin 14 rfl) ?_
    refine r_iload_n C (j := 3) (oDec_at oX1_begin 15 rfl) rfl rfl ?_
    refine r_if_eq C 35 (oDec_at oX1_begin 16 rfl) (by decide) (fun cd2 => ?_) (fun cd2 => ?_)
    · omega
    · skip
      refine r_iload_n C (j := 1) (oDec_at oX1_begin 17 rfl) rfl rfl ?_
      refine r_goto C (tgt := 36) (oDec_at oX1_begin 18 rfl) (by decide) ?_
      refine r_callVv C oCl9 rfl miX9_take mlX1_100 (ct9_X9_take l E (s) 40 rfl a1 (by omega)) (by decide) rfl rfl rfl (Nat.le_of_ble_eq_true rfl) (oDec_at oX1_begin 20 rfl) (fun u3 pu3 fu3 => ?_)
      try dsimp only at pu3
      obtain ⟨pu3_0, pu3_1, pu3_2, pu3_3⟩ := pu3
      refine r_aload_n C (j := 0) (oDec_at oX1_begin 21 rfl) rfl rfl ?_
      refine r_getF (k := 5) (b := 41) C oCl1 rfl (by decide) flX1_31 rfl rfl rfl (oDec_at oX1_begin 22 rfl) ?_
      refine r_iload_n C (j := 3) (oDec_at oX1_begin 23 rfl) rfl rfl ?_
      refine r_if_eq C 51 (oDec_at oX1_begin 24 rfl) (by decide) (fun cd5 => ?_) (fun cd5 => ?_)
      · omega
      · skip
        refine r_iload_n C (j := 2) (oDec_at oX1_begin 25 rfl) rfl rfl ?_
        refine r_goto C (tgt := 52) (oDec_at oX1_begin 26 rfl) (by decide) ?_
        refine r_callVv C oCl9 rfl miX9_take mlX1_100 (ct9_X9_take l E (u3) 41 rfl a2 (by omega)) (by decide) rfl rfl rfl (Nat.le_of_ble_eq_true rfl) (oDec_at oX1_begin 28 rfl) (fun u6 pu6 fu6 => ?_)
        try dsimp only at pu6
        obtain ⟨pu6_0, pu6_1, pu6_2, pu6_3⟩ := pu6
        have hvo9 : a1.toInt = 84 → 0 ≤ a2.toInt → (owVo 40 84 (u6) ∧ owVo 41 a2.toInt (u6)) := by first | exact fun h8 h9 => ⟨owVo_tr (fun k => pu6_3 40 k (by decide)) (by have h7 := pu3_2 (by omega); rw [h8] at h7; exact h7), pu6_2 (by omega)⟩ | (intro h8 h9; exfalso; omega)
        have hq8 : owVR (u6) := ⟨⟨by rw [pu6_3 40 1 (by decide)]; exact pu3_0, by rw [pu6_3 40 0 (by decide)]; exact pu3_1⟩, pu6_0, pu6_1⟩
        refine r_aload_n C (j := 0) (oDec_at oX1_begin 29 rfl) rfl rfl ?_
        refine r_iconst C (oDec_at oX1_begin 30 rfl) (v := k0) (by rw [qk0]; rfl) ?_
        refine r_puti (k := 6) (lo := 0) (hi := 48) C oCl1 rfl (by decide) flX1_104 rfl rfl rfl rfl rfl rfl rfl rfl ⟨by omega, by omega⟩ (oDec_at oX1_begin 31 rfl) ?_
        refine r_aload_n C (j := 0) (oDec_at oX1_begin 32 rfl) rfl rfl ?_
        refine r_pc C 61 rfl ?_
        refine r_iconst C (oDec_at oX1_begin 33 rfl) (v := k0) (by rw [qk0]; rfl) ?_
        refine r_puti (k := 7) (lo := (-2147483648)) (hi := 2147483647) C oCl1 rfl (by decide) flX1_64 rfl rfl rfl rfl rfl rfl rfl rfl (n_rng _) (oDec_at oX1_begin 34 rfl) ?_
        refine r_aload_n C (j := 0) (oDec_at oX1_begin 35 rfl) rfl rfl ?_
        refine r_iconst C (oDec_at oX1_begin 36 rfl) (v := k0) (by rw [qk0]; rfl) ?_
        refine r_puti (k := 8) (lo := (-2147483648)) (hi := 2147483647) C oCl1 rfl (by decide) flX1_67 rfl rfl rfl rfl rfl rfl rfl rfl (n_rng _) (oDec_at oX1_begin 37 rfl) ?_
        have lk9 : (((pI (pI (pI u6 35 6 k0) 35 7 k0) 35 8 k0)).1 35 6).toInt = k0.toInt := congrArg Int32.toInt (((pI_ne (a := 35) (b := 6) (c := 35) (k := 8) _ _ (Or.inr (by decide)))).trans (((pI_ne (a := 35) (b := 6) (c := 35) (k := 7) _ _ (Or.inr (by decide)))).trans ((pI_self _ _ _ _))))
        exact r_vret C (oDec_at oX1_begin 38 rfl) ⟨rfl, ⟨(owVR_fr (oFr_oneI (q := 1) (m := 8) rfl (by rfl)) rfl (owVR_fr (oFr_oneI (q := 1) (m := 7) rfl (by rfl)) rfl (owVR_fr (oFr_oneI (q := 1) (m := 6) rfl (by rfl)) rfl hq8))), fun h8 h9 => ⟨(hvo9 h8 h9).1, (hvo9 h8 h9).2⟩, by omega⟩⟩
  · skip
    refine r_iload_n C (j := 2) (oDec_at oX1_begin 3 rfl) rfl rfl ?_
    refine r_bipush C (oDec_at oX1_begin 4 rfl) (v := k84) (by rw [qk84]; rfl) ?_
    refine r_icmp_eq C 21 (oDec_at oX1_begin 5 rfl) (by decide) (fun cd10 => ?_) (fun cd10 => ?_)
    · skip
      refine r_iconst C (oDec_at oX1_begin 11 rfl) (v := k0) (by rw [qk0]; rfl) ?_
      refine r_istore_n C (lv' := [(0, .ref (oad E 35)), (1, .int a1), (2, .int a2), (3, .int k0)]) [1, 2, 3, 0] (oDec_at oX1_begin 12 rfl) rfl (by decide) rfl ?_
      refine r_aload_n C (j := 0) (oDec_at oX1_begin 13 rfl) rfl rfl ?_
      refine r_getF (k := 4) (b := 40) C oCl1 rfl (by decide) flX1_27 rfl rfl rfl (oDec_at oX1_begin 14 rfl) ?_
      refine r_iload_n C (j := 3) (oDec_at oX1_begin 15 rfl) rfl rfl ?_
      refine r_if_eq C 35 (oDec_at oX1_begin 16 rfl) (by decide) (fun cd11 => ?_) (fun cd11 => ?_)
      · skip
        refine r_iload_n C (j := 2) (oDec_at oX1_begin 19 rfl) rfl rfl ?_
        refine r_callVv C oCl9 rfl miX9_take mlX1_100 (ct9_X9_take l E (s) 40 rfl a2 (by omega)) (by decide) rfl rfl rfl (Nat.le_of_ble_eq_true rfl) (oDec_at oX1_begin 20 rfl) (fun u12 pu12 fu12 => ?_)
        try dsimp only at pu12
        obtain ⟨pu12_0, pu12_1, pu12_2, pu12_3⟩ := pu12
        refine r_aload_n C (j := 0) (oDec_at oX1_begin 21 rfl) rfl rfl ?_
        refine r_getF (k := 5) (b := 41) C oCl1 rfl (by decide) flX1_31 rfl rfl rfl (oDec_at oX1_begin 22 rfl) ?_
        refine r_iload_n C (j := 3) (oDec_at oX1_begin 23 rfl) rfl rfl ?_
        refine r_if_eq C 51 (oDec_at oX1_begin 24 rfl) (by decide) (fun cd14 => ?_) (fun cd14 => ?_)
        · skip
          refine r_iload_n C (j := 1) (oDec_at oX1_begin 27 rfl) rfl rfl ?_
          refine r_callVv C oCl9 rfl miX9_take mlX1_100 (ct9_X9_take l E (u12) 41 rfl a1 (by omega)) (by decide) rfl rfl rfl (Nat.le_of_ble_eq_true rfl) (oDec_at oX1_begin 28 rfl) (fun u15 pu15 fu15 => ?_)
          try dsimp only at pu15
          obtain ⟨pu15_0, pu15_1, pu15_2, pu15_3⟩ := pu15
          have hvo9 : a1.toInt = 84 → 0 ≤ a2.toInt → (owVo 40 84 (u15) ∧ owVo 41 a2.toInt (u15)) := by first | exact fun h8 h9 => ⟨owVo_tr (fun k => pu15_3 40 k (by decide)) (by have h7 := pu12_2 (by omega); rw [h8] at h7; exact h7), pu15_2 (by omega)⟩ | (intro h8 h9; exfalso; omega)
          have hq17 : owVR (u15) := ⟨⟨by rw [pu15_3 40 1 (by decide)]; exact pu12_0, by rw [pu15_3 40 0 (by decide)]; exact pu12_1⟩, pu15_0, pu15_1⟩
          refine r_aload_n C (j := 0) (oDec_at oX1_begin 29 rfl) rfl rfl ?_
          refine r_iconst C (oDec_at oX1_begin 30 rfl) (v := k0) (by rw [qk0]; rfl) ?_
          refine r_puti (k := 6) (lo := 0) (hi := 48) C oCl1 rfl (by decide) flX1_104 rfl rfl rfl rfl rfl rfl rfl rfl ⟨by omega, by omega⟩ (oDec_at oX1_begin 31 rfl) ?_
          refine r_aload_n C (j := 0) (oDec_at oX1_begin 32 rfl) rfl rfl ?_
          refine r_pc C 61 rfl ?_
          refine r_iconst C (oDec_at oX1_begin 33 rfl) (v := k0) (by rw [qk0]; rfl) ?_
          refine r_puti (k := 7) (lo := (-2147483648)) (hi := 2147483647) C oCl1 rfl (by decide) flX1_64 rfl rfl rfl rfl rfl rfl rfl rfl (n_rng _) (oDec_at oX1_begin 34 rfl) ?_
          refine r_aload_n C (j := 0) (oDec_at oX1_begin 35 rfl) rfl rfl ?_
          refine r_iconst C (oDec_at oX1_begin 36 rfl) (v := k0) (by rw [qk0]; rfl) ?_
          refine r_puti (k := 8) (lo := (-2147483648)) (hi := 2147483647) C oCl1 rfl (by decide) flX1_67 rfl rfl rfl rfl rfl rfl rfl rfl (n_rng _) (oDec_at oX1_begin 37 rfl) ?_
          have lk18 : (((pI (pI (pI u15 35 6 k0) 35 7 k0) 35 8 k0)).1 35 6).toInt = k0.toInt := congrArg Int32.toInt (((pI_ne (a := 35) (b := 6) (c := 35) (k := 8) _ _ (Or.inr (by decide)))).trans (((pI_ne (a := 35) (b := 6) (c := 35) (k := 7) _ _ (Or.inr (by decide)))).trans ((pI_self _ _ _ _))))
          exact r_vret C (oDec_at oX1_begin 38 rfl) ⟨rfl, ⟨(owVR_fr (oFr_oneI (q := 1) (m := 8) rfl (by rfl)) rfl (owVR_fr (oFr_oneI (q := 1) (m := 7) rfl (by rfl)) rfl (owVR_fr (oFr_oneI (q := 1) (m := 6) rfl (by rfl)) rfl hq17))), fun h8 h9 => ⟨(hvo9 h8 h9).1, (hvo9 h8 h9).2⟩, by omega⟩⟩
        · omega
      · omega
    · skip
      refine r_iload_n C (j := 1) (oDec_at oX1_begin 6 rfl) rfl rfl ?_
      refine r_iload_n C (j := 2) (oDec_at oX1_begin 7 rfl) rfl rfl ?_
      refine r_icmp_ge C 21 (oDec_at oX1_begin 8 rfl) (by decide) (fun cd19 => ?_) (fun cd19 => ?_)
      · skip
        refine r_iconst C (oDec_at oX1_begin 11 rfl) (v := k0) (by rw [qk0]; rfl) ?_
        refine r_istore_n C (lv' := [(0, .ref (oad E 35)), (1, .int a1), (2, .int a2), (3, .int k0)]) [1, 2, 3, 0] (oDec_at oX1_begin 12 rfl) rfl (by decide) rfl ?_
        refine r_aload_n C (j := 0) (oDec_at oX1_begin 13 rfl) rfl rfl ?_
        refine r_getF (k := 4) (b := 40) C oCl1 rfl (by decide) flX1_27 rfl rfl rfl (oDec_at oX1_begin 14 rfl) ?_
        refine r_iload_n C (j := 3) (oDec_at oX1_begin 15 rfl) rfl rfl ?_
        refine r_if_eq C 35 (oDec_at oX1_begin 16 rfl) (by decide) (fun cd20 => ?_) (fun cd20 => ?_)
        · skip
          refine r_iload_n C (j := 2) (oDec_at oX1_begin 19 rfl) rfl rfl ?_
          refine r_callVv C oCl9 rfl miX9_take mlX1_100 (ct9_X9_take l E (s) 40 rfl a2 (by omega)) (by decide) rfl rfl rfl (Nat.le_of_ble_eq_true rfl) (oDec_at oX1_begin 20 rfl) (fun u21 pu21 fu21 => ?_)
          try dsimp only at pu21
          obtain ⟨pu21_0, pu21_1, pu21_2, pu21_3⟩ := pu21
          refine r_aload_n C (j := 0) (oDec_at oX1_begin 21 rfl) rfl rfl ?_
          refine r_getF (k := 5) (b := 41) C oCl1 rfl (by decide) flX1_31 rfl rfl rfl (oDec_at oX1_begin 22 rfl) ?_
          refine r_iload_n C (j := 3) (oDec_at oX1_begin 23 rfl) rfl rfl ?_
          refine r_if_eq C 51 (oDec_at oX1_begin 24 rfl) (by decide) (fun cd23 => ?_) (fun cd23 => ?_)
          · skip
            refine r_iload_n C (j := 1) (oDec_at oX1_begin 27 rfl) rfl rfl ?_
            refine r_callVv C oCl9 rfl miX9_take mlX1_100 (ct9_X9_take l E (u21) 41 rfl a1 (by omega)) (by decide) rfl rfl rfl (Nat.le_of_ble_eq_true rfl) (oDec_at oX1_begin 28 rfl) (fun u24 pu24 fu24 => ?_)
            try dsimp only at pu24
            obtain ⟨pu24_0, pu24_1, pu24_2, pu24_3⟩ := pu24
            have hvo9 : a1.toInt = 84 → 0 ≤ a2.toInt → (owVo 40 84 (u24) ∧ owVo 41 a2.toInt (u24)) := by first | exact fun h8 h9 => ⟨owVo_tr (fun k => pu24_3 40 k (by decide)) (by have h7 := pu21_2 (by omega); rw [h8] at h7; exact h7), pu24_2 (by omega)⟩ | (intro h8 h9; exfalso; omega)
            have hq26 : owVR (u24) := ⟨⟨by rw [pu24_3 40 1 (by decide)]; exact pu21_0, by rw [pu24_3 40 0 (by decide)]; exact pu21_1⟩, pu24_0, pu24_1⟩
            refine r_aload_n C (j := 0) (oDec_at oX1_begin 29 rfl) rfl rfl ?_
            refine r_iconst C (oDec_at oX1_begin 30 rfl) (v := k0) (by rw [qk0]; rfl) ?_
            refine r_puti (k := 6) (lo := 0) (hi := 48) C oCl1 rfl (by decide) flX1_104 rfl rfl rfl rfl rfl rfl rfl rfl ⟨by omega, by omega⟩ (oDec_at oX1_begin 31 rfl) ?_
            refine r_aload_n C (j := 0) (oDec_at oX1_begin 32 rfl) rfl rfl ?_
            refine r_pc C 61 rfl ?_
            refine r_iconst C (oDec_at oX1_begin 33 rfl) (v := k0) (by rw [qk0]; rfl) ?_
            refine r_puti (k := 7) (lo := (-2147483648)) (hi := 2147483647) C oCl1 rfl (by decide) flX1_64 rfl rfl rfl rfl rfl rfl rfl rfl (n_rng _) (oDec_at oX1_begin 34 rfl) ?_
            refine r_aload_n C (j := 0) (oDec_at oX1_begin 35 rfl) rfl rfl ?_
            refine r_iconst C (oDec_at oX1_begin 36 rfl) (v := k0) (by rw [qk0]; rfl) ?_
            refine r_puti (k := 8) (lo := (-2147483648)) (hi := 2147483647) C oCl1 rfl (by decide) flX1_67 rfl rfl rfl rfl rfl rfl rfl rfl (n_rng _) (oDec_at oX1_begin 37 rfl) ?_
            have lk27 : (((pI (pI (pI u24 35 6 k0) 35 7 k0) 35 8 k0)).1 35 6).toInt = k0.toInt := congrArg Int32.toInt (((pI_ne (a := 35) (b := 6) (c := 35) (k := 8) _ _ (Or.inr (by decide)))).trans (((pI_ne (a := 35) (b := 6) (c := 35) (k := 7) _ _ (Or.inr (by decide)))).trans ((pI_self _ _ _ _))))
            exact r_vret C (oDec_at oX1_begin 38 rfl) ⟨rfl, ⟨(owVR_fr (oFr_oneI (q := 1) (m := 8) rfl (by rfl)) rfl (owVR_fr (oFr_oneI (q := 1) (m := 7) rfl (by rfl)) rfl (owVR_fr (oFr_oneI (q := 1) (m := 6) rfl (by rfl)) rfl hq26))), fun h8 h9 => ⟨(hvo9 h8 h9).1, (hvo9 h8 h9).2⟩, by omega⟩⟩
          · omega
        · omega
      · skip
        refine r_iconst C (oDec_at oX1_begin 9 rfl) (v := k1) (by rw [qk1]; rfl) ?_
        refine r_goto C (tgt := 22) (oDec_at oX1_begin 10 rfl) (by decide) ?_
        refine r_istore_n C (lv' := [(0, .ref (oad E 35)), (1, .int a1), (2, .int a2), (3, .int k1)]) [1, 2, 3, 0] (oDec_at oX1_begin 12 rfl) rfl (by decide) rfl ?_
        refine r_aload_n C (j := 0) (oDec_at oX1_begin 13 rfl) rfl rfl ?_
        refine r_getF (k := 4) (b := 40) C oCl1 rfl (by decide) flX1_27 rfl rfl rfl (oDec_at oX1_begin 14 rfl) ?_
        refine r_iload_n C (j := 3) (oDec_at oX1_begin 15 rfl) rfl rfl ?_
        refine r_if_eq C 35 (oDec_at oX1_begin 16 rfl) (by decide) (fun cd28 => ?_) (fun cd28 => ?_)
        · omega
        · skip
          refine r_iload_n C (j := 1) (oDec_at oX1_begin 17 rfl) rfl rfl ?_
          refine r_goto C (tgt := 36) (oDec_at oX1_begin 18 rfl) (by decide) ?_
          refine r_callVv C oCl9 rfl miX9_take mlX1_100 (ct9_X9_take l E (s) 40 rfl a1 (by omega)) (by decide) rfl rfl rfl (Nat.le_of_ble_eq_true rfl) (oDec_at oX1_begin 20 rfl) (fun u29 pu29 fu29 => ?_)
          try dsimp only at pu29
          obtain ⟨pu29_0, pu29_1, pu29_2, pu29_3⟩ := pu29
          refine r_aload_n C (j := 0) (oDec_at oX1_begin 21 rfl) rfl rfl ?_
          refine r_getF (k := 5) (b := 41) C oCl1 rfl (by decide) flX1_31 rfl rfl rfl (oDec_at oX1_begin 22 rfl) ?_
          refine r_iload_n C (j := 3) (oDec_at oX1_begin 23 rfl) rfl rfl ?_
          refine r_if_eq C 51 (oDec_at oX1_begin 24 rfl) (by decide) (fun cd31 => ?_) (fun cd31 => ?_)
          · omega
          · skip
            refine r_iload_n C (j := 2) (oDec_at oX1_begin 25 rfl) rfl rfl ?_
            refine r_goto C (tgt := 52) (oDec_at oX1_begin 26 rfl) (by decide) ?_
            refine r_callVv C oCl9 rfl miX9_take mlX1_100 (ct9_X9_take l E (u29) 41 rfl a2 (by omega)) (by decide) rfl rfl rfl (Nat.le_of_ble_eq_true rfl) (oDec_at oX1_begin 28 rfl) (fun u32 pu32 fu32 => ?_)
            try dsimp only at pu32
            obtain ⟨pu32_0, pu32_1, pu32_2, pu32_3⟩ := pu32
            have hvo9 : a1.toInt = 84 → 0 ≤ a2.toInt → (owVo 40 84 (u32) ∧ owVo 41 a2.toInt (u32)) := by first | exact fun h8 h9 => ⟨owVo_tr (fun k => pu32_3 40 k (by decide)) (by have h7 := pu29_2 (by omega); rw [h8] at h7; exact h7), pu32_2 (by omega)⟩ | (intro h8 h9; exfalso; omega)
            have hq34 : owVR (u32) := ⟨⟨by rw [pu32_3 40 1 (by decide)]; exact pu29_0, by rw [pu32_3 40 0 (by decide)]; exact pu29_1⟩, pu32_0, pu32_1⟩
            refine r_aload_n C (j := 0) (oDec_at oX1_begin 29 rfl) rfl rfl ?_
            refine r_iconst C (oDec_at oX1_begin 30 rfl) (v := k0) (by rw [qk0]; rfl) ?_
            refine r_puti (k := 6) (lo := 0) (hi := 48) C oCl1 rfl (by decide) flX1_104 rfl rfl rfl rfl rfl rfl rfl rfl ⟨by omega, by omega⟩ (oDec_at oX1_begin 31 rfl) ?_
            refine r_aload_n C (j := 0) (oDec_at oX1_begin 32 rfl) rfl rfl ?_
            refine r_pc C 61 rfl ?_
            refine r_iconst C (oDec_at oX1_begin 33 rfl) (v := k0) (by rw [qk0]; rfl) ?_
            refine r_puti (k := 7) (lo := (-2147483648)) (hi := 2147483647) C oCl1 rfl (by decide) flX1_64 rfl rfl rfl rfl rfl rfl rfl rfl (n_rng _) (oDec_at oX1_begin 34 rfl) ?_
            refine r_aload_n C (j := 0) (oDec_at oX1_begin 35 rfl) rfl rfl ?_
            refine r_iconst C (oDec_at oX1_begin 36 rfl) (v := k0) (by rw [qk0]; rfl) ?_
            refine r_puti (k := 8) (lo := (-2147483648)) (hi := 2147483647) C oCl1 rfl (by decide) flX1_67 rfl rfl rfl rfl rfl rfl rfl rfl (n_rng _) (oDec_at oX1_begin 37 rfl) ?_
            have lk35 : (((pI (pI (pI u32 35 6 k0) 35 7 k0) 35 8 k0)).1 35 6).toInt = k0.toInt := congrArg Int32.toInt (((pI_ne (a := 35) (b := 6) (c := 35) (k := 8) _ _ (Or.inr (by decide)))).trans (((pI_ne (a := 35) (b := 6) (c := 35) (k := 7) _ _ (Or.inr (by decide)))).trans ((pI_self _ _ _ _))))
            exact r_vret C (oDec_at oX1_begin 38 rfl) ⟨rfl, ⟨(owVR_fr (oFr_oneI (q := 1) (m := 8) rfl (by rfl)) rfl (owVR_fr (oFr_oneI (q := 1) (m := 7) rfl (by rfl)) rfl (owVR_fr (oFr_oneI (q := 1) (m := 6) rfl (by rfl)) rfl hq34))), fun h8 h9 => ⟨(hvo9 h8 h9).1, (hvo9 h8 h9).2⟩, by omega⟩⟩
set_option maxHeartbeats 4000000 in
set_option maxRecDepth 100000 in
theorem ct9_X1_hear (l : Launch) (E : oE) (s : oS) (c1 : Nat) (hk1 : okd c1 = 4) (a2 : Int32) (a3 : Int32) (a4 : Int32)  (hp0 : owLN s) (hp1 : owDN s) (hp2 : 2 ≤ a2.toInt ∧ a2.toInt ≤ 12) (hp3 : -1 ≤ a3.toInt ∧ a3.toInt ≤ 4499) (hp4 : -1 ≤ a4.toInt ∧ a4.toInt ≤ 4499) : oMet l 5 yX1_hear cX1_hear 16 none [(1, 6), (1, 7), (1, 8), (9, 0), (9, 1), (9, 2), (9, 3), (9, 4), (28, 9999), (29, 9999), (30, 9999), (31, 9999)] E s [.ref (oad E 35), .ref (oad E c1), .int a2, .int a3, .int a4] (oPv (fun u => (owDN u))) := by
  refine oMet.of (lv := [(0, .ref (oad E 35)), (1, .ref (oad E c1)), (2, .int a2), (3, .int a3), (4, .int a4)]) (by decide +kernel) (Nat.le_of_ble_eq_true rfl) rfl (fun J C hT => ?_)
  have C : oC l 5 cX1_hear RX1 16 none [(1, 6), (1, 7), (1, 8), (9, 0), (9, 1), (9, 2), (9, 3), (9, 4), (28, 9999), (29, 9999), (30, 9999), (31, 9999)] E s (oPv (fun u => (owDN u))) J := C
  obtain ⟨km1000000000, qkm1000000000⟩ : ∃ z : Int32, z = (-1000000000) := ⟨_, rfl⟩
  have ekm1000000000 : km1000000000.toInt = (-1000000000) := by rw [qkm1000000000]; rfl
  obtain ⟨k0, qk0⟩ : ∃ z : Int32, z = 0 := ⟨_, rfl⟩
  have ek0 : k0.toInt = 0 := by rw [qk0]; rfl
  obtain ⟨k1, qk1⟩ : ∃ z : Int32, z = 1 := ⟨_, rfl⟩
  have ek1 : k1.toInt = 1 := by rw [qk1]; rfl
  have rg2 := n_rng a2
  have rg3 := n_rng a3
  have rg4 := n_rng a4
  have key : ∀ n : Nat, (∀ (t : oS) (x6 : Int32) (x7 : Int32) (x8 : Int32) (x9 : Int32) (x10 : Int32) (x11 : Int32), (owLN t) → (owDN t) → (owVR t) → (0 ≤ x11.toInt) → x6.toInt - x11.toInt + 4294967296 ≤ (n : Int) → J t 103 [(0, .ref (oad E 35)), (1, .ref (oad E c1)), (2, .int a2), (6, .int x6), (7, .int x7), (8, .int x8), (9, .int x9), (10, .int x10), (11, .int x11)] []) := by
    intro n
    induction n using Nat.strongRecOn with
    | _ n ih =>
      skip
      · intro t x6 x7 x8 x9 x10 x11  iv0 iv1 iv2 iv3 hmu
        have rx6 := n_rng x6
        have rx7 := n_rng x7
        have rx8 := n_rng x8
        have rx9 := n_rng x9
        have rx10 := n_rng x10
        have rx11 := n_rng x11
        refine r_iload C (j := 8) (oDec_at oX1_hear 52 rfl) rfl ?_
        refine r_iload C (j := 3) (oDec_at oX1_hear 53 rfl) rfl ?_
        refine r_icmp_ge C 292 (oDec_at oX1_hear 54 rfl) (by decide) (fun cd1 => ?_) (fun cd1 => ?_)
        · skip
          exact r_vret C (oDec_at oX1_hear 147 rfl) ⟨rfl, iv1⟩
        · skip
          refine r_aload_n C (j := 0) (oDec_at oX1_hear 55 rfl) rfl rfl ?_
          refine r_getF (k := 4) (b := 40) C oCl1 rfl (by decide) flX1_27 rfl rfl rfl (oDec_at oX1_hear 56 rfl) ?_
          refine r_aload_n C (j := 1) (oDec_at oX1_hear 57 rfl) rfl rfl ?_
          refine r_iload C (j := 8) (oDec_at oX1_hear 58 rfl) rfl ?_
          refine r_iconst C (oDec_at oX1_hear 59 rfl) (v := k1) (by rw [qk1]; rfl) ?_
          obtain ⟨v2, ev2⟩ : ∃ z : Int32, z = x11 + k1 := ⟨_, rfl⟩
          have rv2 := n_rng v2
          refine r_iadd C v2 (oDec_at oX1_hear 60 rfl) ev2 ?_
          refine r_pc C 119 rfl ?_
          refine r_callVi C oCl9 rfl miX9_number mlX1_55 (ct_X9_number l E (t) 40 rfl c1 hk1 v2 ) (by decide) rfl rfl rfl (Nat.le_of_ble_eq_true rfl) (oDec_at oX1_hear 61 rfl) (fun r4 u3 pu3 fu3 => ?_)
          try dsimp only at pu3
          have hxu3 := oFr_nil fu3; subst hxu3
          have rr4 := n_rng r4
          refine r_istore C (lv' := [(0, .ref (oad E 35)), (1, .ref (oad E c1)), (2, .int a2), (6, .int x6), (7, .int x7), (8, .int x8), (9, .int x9), (10, .int x10), (11, .int x11), (12, .int r4)]) [1, 2, 3, 4, 5, 6, 7, 8, 9, 0] (oDec_at oX1_hear 62 rfl) (by decide) rfl ?_
          refine r_aload_n C (j := 0) (oDec_at oX1_hear 63 rfl) rfl rfl ?_
          refine r_getF (k := 5) (b := 41) C oCl1 rfl (by decide) flX1_31 rfl rfl rfl (oDec_at oX1_hear 64 rfl) ?_
          refine r_aload_n C (j := 1) (oDec_at oX1_hear 65 rfl) rfl rfl ?_
          refine r_iload C (j := 8) (oDec_at oX1_hear 66 rfl) rfl ?_
          refine r_pc C 131 rfl ?_
          refine r_iconst C (oDec_at oX1_hear 67 rfl) (v := k1) (by rw [qk1]; rfl) ?_
          obtain ⟨v5, ev5⟩ : ∃ z : Int32, z = x11 + k1 := ⟨_, rfl⟩
          have rv5 := n_rng v5
          refine r_iadd C v5 (oDec_at oX1_hear 68 rfl) ev5 ?_
          refine r_callVi C oCl9 rfl miX9_number mlX1_55 (ct_X9_number l E (t) 41 rfl c1 hk1 v5 ) (by decide) rfl rfl rfl (Nat.le_of_ble_eq_true rfl) (oDec_at oX1_hear 69 rfl) (fun r7 u6 pu6 fu6 => ?_)
          try dsimp only at pu6
          have hxu6 := oFr_nil fu6; subst hxu6
          have rr7 := n_rng r7
          refine r_istore C (lv' := [(0, .ref (oad E 35)), (1, .ref (oad E c1)), (2, .int a2), (6, .int x6), (7, .int x7), (8, .int x8), (9, .int x9), (10, .int x10), (11, .int x11), (12, .int r4), (13, .int r7)]) [1, 2, 3, 4, 5, 6, 7, 8, 9, 10, 0] (oDec_at oX1_hear 70 rfl) (by decide) rfl ?_
          refine r_aload_n C (j := 0) (oDec_at oX1_hear 71 rfl) rfl rfl ?_
          refine r_aload_n C (j := 1) (oDec_at oX1_hear 72 rfl) rfl rfl ?_
          refine r_pc C 140 rfl ?_
          refine r_iload C (j := 6) (oDec_at oX1_hear 73 rfl) rfl ?_
          refine r_iload C (j := 7) (oDec_at oX1_hear 74 rfl) rfl ?_
          refine r_callVi C oCl1 rfl miX1_apartAt mlX1_59 (ct9_X1_apartAt l E (t) c1 hk1 x9 x10 iv0 iv2) (by decide) rfl rfl rfl (Nat.le_of_ble_eq_true rfl) (oDec_at oX1_hear 75 rfl) (fun r9 u8 pu8 fu8 => ?_)
          try dsimp only at pu8
          have hxu8 := oFr_nil fu8; subst hxu8
          have rr9 := n_rng r9
          have hap9 := pu8
          have hab9 := owAp_b (a := x9.toInt) (b := x10.toInt) (show owLN (t) from iv0) hk1 (show owVR (t) from iv2)
          have hq10 : owVL 40 c1 (owTn (t) 40 c1) (t) := ⟨rfl, hk1, fun _ => rfl⟩
          have hq11 : owVL 41 c1 (owTn (t) 41 c1) (t) := ⟨rfl, hk1, fun _ => rfl⟩
          refine r_istore C (lv' := [(0, .ref (oad E 35)), (1, .ref (oad E c1)), (2, .int a2), (6, .int x6), (7, .int x7), (8, .int x8), (9, .int x9), (10, .int x10), (11, .int x11), (12, .int r4), (13, .int r7), (14, .int r9)]) [1, 2, 3, 4, 5, 6, 7, 8, 9, 10, 11, 0] (oDec_at oX1_hear 76 rfl) (by decide) rfl ?_
          refine r_iload C (j := 11) (oDec_at oX1_hear 77 rfl) rfl ?_
          refine r_ldc C (v := km1000000000) (by rw [qkm1000000000]; exact kcX1_63) (oDec_at oX1_hear 78 rfl) ?_
          refine r_pc C 153 rfl ?_
          refine r_icmp_eq C 270 (oDec_at oX1_hear 79 rfl) (by decide) (fun cd12 => ?_) (fun cd12 => ?_)
          · skip
            refine r_iload C (j := 6) (oDec_at oX1_hear 137 rfl) rfl ?_
            refine r_istore C (lv' := [(0, .ref (oad E 35)), (1, .ref (oad E c1)), (2, .int a2), (6, .int x6), (7, .int x9), (8, .int x8), (9, .int x9), (10, .int x10), (11, .int x11), (12, .int r4), (13, .int r7), (14, .int r9)]) [1, 2, 3, 4, 0, 5, 6, 7, 8, 9, 10, 11] (oDec_at oX1_hear 138 rfl) (by decide) rfl ?_
            refine r_iload C (j := 7) (oDec_at oX1_hear 139 rfl) rfl ?_
            refine r_istore C (lv' := [(0, .ref (oad E 35)), (1, .ref (oad E c1)), (2, .int a2), (6, .int x6), (7, .int x9), (8, .int x10), (9, .int x9), (10, .int x10), (11, .int x11), (12, .int r4), (13, .int r7), (14, .int r9)]) [1, 2, 3, 4, 5, 0, 6, 7, 8, 9, 10, 11] (oDec_at oX1_hear 140 rfl) (by decide) rfl ?_
            refine r_iload C (j := 9) (oDec_at oX1_hear 141 rfl) rfl ?_
            refine r_istore C (lv' := [(0, .ref (oad E 35)), (1, .ref (oad E c1)), (2, .int a2), (6, .int x6), (7, .int x9), (8, .int x10), (9, .int r4), (10, .int x10), (11, .int x11), (12, .int r4), (13, .int r7), (14, .int r9)]) [1, 2, 3, 4, 5, 6, 0, 7, 8, 9, 10, 11] (oDec_at oX1_hear 142 rfl) (by decide) rfl ?_
            refine r_pc C 282 rfl ?_
            refine r_iload C (j := 10) (oDec_at oX1_hear 143 rfl) rfl ?_
            refine r_istore C (lv' := [(0, .ref (oad E 35)), (1, .ref (oad E c1)), (2, .int a2), (6, .int x6), (7, .int x9), (8, .int x10), (9, .int r4), (10, .int r7), (11, .int x11), (12, .int r4), (13, .int r7), (14, .int r9)]) [1, 2, 3, 4, 5, 6, 7, 0, 8, 9, 10, 11] (oDec_at oX1_hear 144 rfl) (by decide) rfl ?_
            obtain ⟨v13, ev13⟩ : ∃ z : Int32, x11 + Int32.ofInt 1 = z := ⟨_, rfl⟩
            have hv13 : v13.toInt = x11.toInt + 1 := n_inc ev13 (by decide) (by omega) (by omega)
            refine r_iinc C (j := 8) (lv' := [(0, .ref (oad E 35)), (1, .ref (oad E c1)), (2, .int a2), (6, .int x6), (7, .int x9), (8, .int x10), (9, .int r4), (10, .int r7), (11, .int v13), (12, .int r4), (13, .int r7), (14, .int r9)]) v13 [1, 2, 3, 4, 5, 6, 7, 8, 0, 9, 10, 11] (oDec_at oX1_hear 145 rfl) rfl ev13 (by decide) rfl ?_
            refine r_goto C (tgt := 103) (oDec_at oX1_hear 146 rfl) (by decide) ?_
            refine r_pick C [0, 1, 2, 3, 4, 5, 6, 7, 8] rfl ?_
            exact (ih (n - 1) (by omega)) (t) x6 x9 x10 r4 r7 v13  iv0 iv1 iv2 (by omega) (by omega)
          · skip
            have hne9 : owTn (t) 40 c1 x9.toInt ≠ -1000000000 ∧ owTn (t) 41 c1 x10.toInt ≠ -1000000000 := owAp_ne (by omega)
            refine r_aload_n C (j := 0) (oDec_at oX1_hear 80 rfl) rfl rfl ?_
            refine r_dup C (oDec_at oX1_hear 81 rfl) rfl ?_
            obtain ⟨v14, ev14⟩ : ∃ z : Int32, (t).1 35 7 = z := ⟨_, rfl⟩
            have gv14 : (t.1 35 7).toInt = v14.toInt := congrArg Int32.toInt (ev14)
            have rv14 := n_rng v14
            refine r_geti (k := 7) (lo := (-2147483648)) (hi := 2147483647) C v14 oCl1 rfl (by decide) flX1_64 rfl rfl (ev14) rfl rfl (oDec_at oX1_hear 82 rfl) (fun _ _ => ?_)
            refine r_iconst C (oDec_at oX1_hear 83 rfl) (v := k1) (by rw [qk1]; rfl) ?_
            obtain ⟨v15, ev15⟩ : ∃ z : Int32, z = v14 + k1 := ⟨_, rfl⟩
            have rv15 := n_rng v15
            refine r_iadd C v15 (oDec_at oX1_hear 84 rfl) ev15 ?_
            refine r_puti (k := 7) (lo := (-2147483648)) (hi := 2147483647) C oCl1 rfl (by decide) flX1_64 rfl rfl rfl rfl rfl rfl rfl rfl (n_rng _) (oDec_at oX1_hear 85 rfl) ?_
            refine r_pc C 166 rfl ?_
            refine r_aload_n C (j := 0) (oDec_at oX1_hear 86 rfl) rfl rfl ?_
            refine r_aload_n C (j := 0) (oDec_at oX1_hear 87 rfl) rfl rfl ?_
            obtain ⟨v16, ev16⟩ : ∃ z : Int32, ((pI t 35 7 v15)).1 35 8 = z := ⟨_, rfl⟩
            have gv16 : (t.1 35 8).toInt = v16.toInt := congrArg Int32.toInt (((pI_ne (a := 35) (b := 8) (c := 35) (k := 7) _ _ (Or.inr (by decide)))).symm.trans ev16)
            have ggv16 : (((pI t 35 7 v15)).1 35 8).toInt = v16.toInt := congrArg Int32.toInt ev16
            have rv16 := n_rng v16
            refine r_geti (k := 8) (lo := (-2147483648)) (hi := 2147483647) C v16 oCl1 rfl (by decide) flX1_67 rfl rfl (ev16) rfl rfl (oDec_at oX1_hear 88 rfl) (fun _ _ => ?_)
            refine r_iload C (j := 11) (oDec_at oX1_hear 89 rfl) rfl ?_
            refine r_callSi C miJ9_abs_0f7a4 mlX1_70 (ct9_J9_abs l E ((pI t 35 7 v15)) r9 (by omega)) (by decide) rfl rfl rfl (Nat.le_of_ble_eq_true rfl) (oDec_at oX1_hear 90 rfl) (fun r18 u17 pu17 fu17 => ?_)
            try dsimp only at pu17
            have hxu17 := oFr_nil fu17; subst hxu17
            have rr18 := n_rng r18
            refine r_callSi C miJ9_max_7cf53 mlX1_42 (ct_J9_max_7cf53 l E ((pI t 35 7 v15)) v16 r18 ) (by decide) rfl rfl rfl (Nat.le_of_ble_eq_true rfl) (oDec_at oX1_hear 91 rfl) (fun r20 u19 pu19 fu19 => ?_)
            try dsimp only at pu19
            have hxu19 := oFr_nil fu19; subst hxu19
            have rr20 := n_rng r20
            refine r_pc C 179 rfl ?_
            refine r_puti (k := 8) (lo := (-2147483648)) (hi := 2147483647) C oCl1 rfl (by decide) flX1_67 rfl rfl rfl rfl rfl rfl rfl rfl (n_rng _) (oDec_at oX1_hear 92 rfl) ?_
            refine r_iload C (j := 6) (oDec_at oX1_hear 93 rfl) rfl ?_
            refine r_iload C (j := 4) (oDec_at oX1_hear 94 rfl) rfl ?_
            refine r_icmp_ne C 196 (oDec_at oX1_hear 95 rfl) (by decide) (fun cd21 => ?_) (fun cd21 => ?_)
            · skip
              refine r_aload_n C (j := 0) (oDec_at oX1_hear 99 rfl) rfl rfl ?_
              refine r_aload_n C (j := 1) (oDec_at oX1_hear 100 rfl) rfl rfl ?_
              refine r_iload C (j := 9) (oDec_at oX1_hear 101 rfl) rfl ?_
              refine r_iload C (j := 10) (oDec_at oX1_hear 102 rfl) rfl ?_
              refine r_callVi C oCl1 rfl miX1_apartAt mlX1_59 (ct9_X1_apartAt l E ((pI (pI t 35 7 v15) 35 8 r20)) c1 hk1 r4 r7 (owLN_fr (oFr_oneI (q := 1) (m := 8) rfl (by rfl)) rfl (owLN_fr (oFr_oneI (q := 1) (m := 7) rfl (by rfl)) rfl iv0)) (owVR_fr (oFr_oneI (q := 1) (m := 8) rfl (by rfl)) rfl (owVR_fr (oFr_oneI (q := 1) (m := 7) rfl (by rfl)) rfl iv2))) (by decide) rfl rfl rfl (Nat.le_of_ble_eq_true rfl) (oDec_at oX1_hear 103 rfl) (fun r23 u22 pu22 fu22 => ?_)
              try dsimp only at pu22
              have hxu22 := oFr_nil fu22; subst hxu22
              have rr23 := n_rng r23
              refine r_ldc C (v := km1000000000) (by rw [qkm1000000000]; exact kcX1_63) (oDec_at oX1_hear 104 rfl) ?_
              refine r_pc C 207 rfl ?_
              refine r_icmp_ne C 214 (oDec_at oX1_hear 105 rfl) (by decide) (fun cd24 => ?_) (fun cd24 => ?_)
              · skip
                refine r_iconst C (oDec_at oX1_hear 108 rfl) (v := k0) (by rw [qk0]; rfl) ?_
                refine r_istore C (lv' := [(0, .ref (oad E 35)), (1, .ref (oad E c1)), (2, .int a2), (6, .int x6), (7, .int x7), (8, .int x8), (9, .int x9), (10, .int x10), (11, .int x11), (12, .int r4), (13, .int r7), (14, .int r9), (15, .int k0)]) [1, 2, 3, 4, 5, 6, 7, 8, 9, 10, 11, 12, 0] (oDec_at oX1_hear 109 rfl) (by decide) rfl ?_
                refine r_aload_n C (j := 0) (oDec_at oX1_hear 110 rfl) rfl rfl ?_
                refine r_iload C (j := 8) (oDec_at oX1_hear 111 rfl) rfl ?_
                refine r_iload C (j := 11) (oDec_at oX1_hear 112 rfl) rfl ?_
                refine r_aload_n C (j := 0) (oDec_at oX1_hear 113 rfl) rfl rfl ?_
                refine r_pc C 223 rfl ?_
                refine r_aload_n C (j := 1) (oDec_at oX1_hear 114 rfl) rfl rfl ?_
                refine r_iload C (j := 4) (oDec_at oX1_hear 115 rfl) rfl ?_
                refine r_iload C (j := 5) (oDec_at oX1_hear 116 rfl) rfl ?_
                refine r_callVi C oCl1 rfl miX1_apartAt mlX1_59 (ct9_X1_apartAt l E ((pI (pI t 35 7 v15) 35 8 r20)) c1 hk1 x7 x8 (owLN_fr (oFr_oneI (q := 1) (m := 8) rfl (by rfl)) rfl (owLN_fr (oFr_oneI (q := 1) (m := 7) rfl (by rfl)) rfl iv0)) (owVR_fr (oFr_oneI (q := 1) (m := 8) rfl (by rfl)) rfl (owVR_fr (oFr_oneI (q := 1) (m := 7) rfl (by rfl)) rfl iv2))) (by decide) rfl rfl rfl (Nat.le_of_ble_eq_true rfl) (oDec_at oX1_hear 117 rfl) (fun r26 u25 pu25 fu25 => ?_)
                try dsimp only at pu25
                have hxu25 := oFr_nil fu25; subst hxu25
                have rr26 := n_rng r26
                have hlp9 := pu25
                have hlb9 := owAp_b (a := x7.toInt) (b := x8.toInt) (show owLN ((pI (pI t 35 7 v15) 35 8 r20)) from (owLN_fr (oFr_oneI (q := 1) (m := 8) rfl (by rfl)) rfl (owLN_fr (oFr_oneI (q := 1) (m := 7) rfl (by rfl)) rfl iv0))) hk1 (show owVR ((pI (pI t 35 7 v15) 35 8 r20)) from (owVR_fr (oFr_oneI (q := 1) (m := 8) rfl (by rfl)) rfl (owVR_fr (oFr_oneI (q := 1) (m := 7) rfl (by rfl)) rfl iv2)))
                have lk27 : (((pI (pI t 35 7 v15) 35 8 r20)).1 35 6).toInt = (t.1 35 6).toInt := congrArg Int32.toInt (((pI_ne (a := 35) (b := 6) (c := 35) (k := 8) _ _ (Or.inr (by decide)))).trans ((pI_ne (a := 35) (b := 6) (c := 35) (k := 7) _ _ (Or.inr (by decide)))))
                refine r_callVv C oCl1 rfl miX1_mark mlX1_74 (ct9_X1_mark l E ((pI (pI t 35 7 v15) 35 8 r20)) x11 r9 r26 (owDN_fr (oFr_oneI (q := 1) (m := 8) rfl (by rfl)) rfl (owDN_fr (oFr_oneI (q := 1) (m := 7) rfl (by rfl)) rfl iv1)) (by omega) (by omega)) (by decide) rfl rfl rfl (Nat.le_of_ble_eq_true rfl) (oDec_at oX1_hear 118 rfl) (fun u28 pu28 fu28 => ?_)
                try dsimp only at pu28
                try simp only [lk27] at pu28
                obtain ⟨pu28_0, pu28_1⟩ := pu28
                have hvr9 : owVR (u28) := (owVR_fr fu28 rfl (owVR_fr (oFr_oneI (q := 1) (m := 8) rfl (by rfl)) rfl (owVR_fr (oFr_oneI (q := 1) (m := 7) rfl (by rfl)) rfl iv2)))
                have hv40 := hvr9.1.1
                have hv41 := hvr9.2.1
                refine r_aload_n C (j := 0) (oDec_at oX1_hear 119 rfl) rfl rfl ?_
                refine r_pc C 235 rfl ?_
                refine r_iload C (j := 8) (oDec_at oX1_hear 120 rfl) rfl ?_
                refine r_iload_n C (j := 2) (oDec_at oX1_hear 121 rfl) rfl rfl ?_
                refine r_callSi C miX1_beatOf mlX1_78 (ct9_X1_beatOf l E (u28) x11 a2 (by omega) (by omega)) (by decide) rfl rfl rfl (Nat.le_of_ble_eq_true rfl) (oDec_at oX1_hear 122 rfl) (fun r31 u30 pu30 fu30 => ?_)
                try dsimp only at pu30
                obtain ⟨pu30_0, pu30_1⟩ := pu30
                have hxu30 := oFr_nil fu30; subst hxu30
                have rr31 := n_rng r31
                refine r_aload_n C (j := 0) (oDec_at oX1_hear 123 rfl) rfl rfl ?_
                refine r_getF (k := 4) (b := 40) C oCl1 rfl (by decide) flX1_27 rfl rfl rfl (oDec_at oX1_hear 124 rfl) ?_
                refine r_aload_n C (j := 1) (oDec_at oX1_hear 125 rfl) rfl rfl ?_
                refine r_pc C 246 rfl ?_
                refine r_iload C (j := 4) (oDec_at oX1_hear 126 rfl) rfl ?_
                refine r_iload C (j := 6) (oDec_at oX1_hear 127 rfl) rfl ?_
                have lk32 : ((u28).1 40 1).toInt = (t.1 40 1).toInt := congrArg Int32.toInt (((fu28 40 1 rfl).1).trans (((pI_ne (a := 40) (b := 1) (c := 35) _ _ (Or.inl (by decide)))).trans ((pI_ne (a := 40) (b := 1) (c := 35) _ _ (Or.inl (by decide))))))
                refine r_callSi C miX1_rise mlX1_81 (ct9_X1_rise l E (u28) 40 rfl c1 hk1 x7 x9 (owLN_fr fu28 rfl (owLN_fr (oFr_oneI (q := 1) (m := 8) rfl (by rfl)) rfl (owLN_fr (oFr_oneI (q := 1) (m := 7) rfl (by rfl)) rfl iv0))) hv40 (by rw [(show owVL 40 c1 (owTn (t) 40 c1) (u28) from (owVL_fr fu28 rfl (owVL_fr (oFr_oneI (q := 1) (m := 8) rfl (by rfl)) rfl (owVL_fr (oFr_oneI (q := 1) (m := 7) rfl (by rfl)) rfl hq10)))).2.2 _]; exact hne9.1)) (by decide) rfl rfl rfl (Nat.le_of_ble_eq_true rfl) (oDec_at oX1_hear 128 rfl) (fun r34 u33 pu33 fu33 => ?_)
                try dsimp only at pu33
                try simp only [lk32] at pu33
                obtain ⟨pu33_0, pu33_1⟩ := pu33
                have hxu33 := oFr_nil fu33; subst hxu33
                have rr34 := n_rng r34
                refine r_aload_n C (j := 0) (oDec_at oX1_hear 129 rfl) rfl rfl ?_
                refine r_getF (k := 5) (b := 41) C oCl1 rfl (by decide) flX1_31 rfl rfl rfl (oDec_at oX1_hear 130 rfl) ?_
                refine r_aload_n C (j := 1) (oDec_at oX1_hear 131 rfl) rfl rfl ?_
                refine r_pc C 258 rfl ?_
                refine r_iload C (j := 5) (oDec_at oX1_hear 132 rfl) rfl ?_
                refine r_iload C (j := 7) (oDec_at oX1_hear 133 rfl) rfl ?_
                have lk35 : ((u28).1 41 1).toInt = (t.1 41 1).toInt := congrArg Int32.toInt (((fu28 41 1 rfl).1).trans (((pI_ne (a := 41) (b := 1) (c := 35) _ _ (Or.inl (by decide)))).trans ((pI_ne (a := 41) (b := 1) (c := 35) _ _ (Or.inl (by decide))))))
                refine r_callSi C miX1_rise mlX1_81 (ct9_X1_rise l E (u28) 41 rfl c1 hk1 x8 x10 (owLN_fr fu28 rfl (owLN_fr (oFr_oneI (q := 1) (m := 8) rfl (by rfl)) rfl (owLN_fr (oFr_oneI (q := 1) (m := 7) rfl (by rfl)) rfl iv0))) hv41 (by rw [(show owVL 41 c1 (owTn (t) 41 c1) (u28) from (owVL_fr fu28 rfl (owVL_fr (oFr_oneI (q := 1) (m := 8) rfl (by rfl)) rfl (owVL_fr (oFr_oneI (q := 1) (m := 7) rfl (by rfl)) rfl hq11)))).2.2 _]; exact hne9.2)) (by decide) rfl rfl rfl (Nat.le_of_ble_eq_true rfl) (oDec_at oX1_hear 134 rfl) (fun r37 u36 pu36 fu36 => ?_)
                try dsimp only at pu36
                try simp only [lk35] at pu36
                obtain ⟨pu36_0, pu36_1⟩ := pu36
                have hxu36 := oFr_nil fu36; subst hxu36
                have rr37 := n_rng r37
                refine r_iload C (j := 12) (oDec_at oX1_hear 135 rfl) rfl ?_
                have lk38 : ((u28).1 35 6).toInt = (t.1 35 6).toInt := congrArg Int32.toInt (((fu28 35 6 rfl).1).trans (((pI_ne (a := 35) (b := 6) (c := 35) (k := 8) _ _ (Or.inr (by decide)))).trans ((pI_ne (a := 35) (b := 6) (c := 35) (k := 7) _ _ (Or.inr (by decide))))))
                refine r_callVv C oCl1 rfl miX1_moved mlX1_85 (ct9_X1_moved l E (u28) r31 r34 r37 k0 pu28_0 (by omega) (by omega) (by omega) (by omega)) (by decide) rfl rfl rfl (Nat.le_of_ble_eq_true rfl) (oDec_at oX1_hear 136 rfl) (fun u39 pu39 fu39 => ?_)
                try dsimp only at pu39
                try simp only [lk38] at pu39
                obtain ⟨pu39_0, pu39_1⟩ := pu39
                refine r_iload C (j := 6) (oDec_at oX1_hear 137 rfl) rfl ?_
                refine r_pc C 272 rfl ?_
                refine r_istore C (lv' := [(0, .ref (oad E 35)), (1, .ref (oad E c1)), (2, .int a2), (6, .int x6), (7, .int x9), (8, .int x8), (9, .int x9), (10, .int x10), (11, .int x11), (12, .int r4), (13, .int r7), (14, .int r9), (15, .int k0)]) [1, 2, 3, 4, 0, 5, 6, 7, 8, 9, 10, 11, 12] (oDec_at oX1_hear 138 rfl) (by decide) rfl ?_
                refine r_iload C (j := 7) (oDec_at oX1_hear 139 rfl) rfl ?_
                refine r_istore C (lv' := [(0, .ref (oad E 35)), (1, .ref (oad E c1)), (2, .int a2), (6, .int x6), (7, .int x9), (8, .int x10), (9, .int x9), (10, .int x10), (11, .int x11), (12, .int r4), (13, .int r7), (14, .int r9), (15, .int k0)]) [1, 2, 3, 4, 5, 0, 6, 7, 8, 9, 10, 11, 12] (oDec_at oX1_hear 140 rfl) (by decide) rfl ?_
                refine r_iload C (j := 9) (oDec_at oX1_hear 141 rfl) rfl ?_
                refine r_istore C (lv' := [(0, .ref (oad E 35)), (1, .ref (oad E c1)), (2, .int a2), (6, .int x6), (7, .int x9), (8, .int x10), (9, .int r4), (10, .int x10), (11, .int x11), (12, .int r4), (13, .int r7), (14, .int r9), (15, .int k0)]) [1, 2, 3, 4, 5, 6, 0, 7, 8, 9, 10, 11, 12] (oDec_at oX1_hear 142 rfl) (by decide) rfl ?_
                refine r_iload C (j := 10) (oDec_at oX1_hear 143 rfl) rfl ?_
                refine r_pc C 284 rfl ?_
                refine r_istore C (lv' := [(0, .ref (oad E 35)), (1, .ref (oad E c1)), (2, .int a2), (6, .int x6), (7, .int x9), (8, .int x10), (9, .int r4), (10, .int r7), (11, .int x11), (12, .int r4), (13, .int r7), (14, .int r9), (15, .int k0)]) [1, 2, 3, 4, 5, 6, 7, 0, 8, 9, 10, 11, 12] (oDec_at oX1_hear 144 rfl) (by decide) rfl ?_
                obtain ⟨v41, ev41⟩ : ∃ z : Int32, x11 + Int32.ofInt 1 = z := ⟨_, rfl⟩
                have hv41 : v41.toInt = x11.toInt + 1 := n_inc ev41 (by decide) (by omega) (by omega)
                refine r_iinc C (j := 8) (lv' := [(0, .ref (oad E 35)), (1, .ref (oad E c1)), (2, .int a2), (6, .int x6), (7, .int x9), (8, .int x10), (9, .int r4), (10, .int r7), (11, .int v41), (12, .int r4), (13, .int r7), (14, .int r9), (15, .int k0)]) v41 [1, 2, 3, 4, 5, 6, 7, 8, 0, 9, 10, 11, 12] (oDec_at oX1_hear 145 rfl) rfl ev41 (by decide) rfl ?_
                refine r_goto C (tgt := 103) (oDec_at oX1_hear 146 rfl) (by decide) ?_
                refine r_pick C [0, 1, 2, 3, 4, 5, 6, 7, 8] rfl ?_
                exact (ih (n - 1) (by omega)) (u39) x6 x9 x10 r4 r7 v41  (owLN_fr fu39 rfl (owLN_fr fu28 rfl (owLN_fr (oFr_oneI (q := 1) (m := 8) rfl (by rfl)) rfl (owLN_fr (oFr_oneI (q := 1) (m := 7) rfl (by rfl)) rfl iv0)))) pu39_0 (owVR_fr fu39 rfl (owVR_fr fu28 rfl (owVR_fr (oFr_oneI (q := 1) (m := 8) rfl (by rfl)) rfl (owVR_fr (oFr_oneI (q := 1) (m := 7) rfl (by rfl)) rfl iv2)))) (by omega) (by omega)
              · skip
                refine r_iconst C (oDec_at oX1_hear 106 rfl) (v := k1) (by rw [qk1]; rfl) ?_
                refine r_goto C (tgt := 215) (oDec_at oX1_hear 107 rfl) (by decide) ?_
                refine r_istore C (lv' := [(0, .ref (oad E 35)), (1, .ref (oad E c1)), (2, .int a2), (6, .int x6), (7, .int x7), (8, .int x8), (9, .int x9), (10, .int x10), (11, .int x11), (12, .int r4), (13, .int r7), (14, .int r9), (15, .int k1)]) [1, 2, 3, 4, 5, 6, 7, 8, 9, 10, 11, 12, 0] (oDec_at oX1_hear 109 rfl) (by decide) rfl ?_
                refine r_aload_n C (j := 0) (oDec_at oX1_hear 110 rfl) rfl rfl ?_
                refine r_iload C (j := 8) (oDec_at oX1_hear 111 rfl) rfl ?_
                refine r_iload C (j := 11) (oDec_at oX1_hear 112 rfl) rfl ?_
                refine r_aload_n C (j := 0) (oDec_at oX1_hear 113 rfl) rfl rfl ?_
                refine r_pc C 223 rfl ?_
                refine r_aload_n C (j := 1) (oDec_at oX1_hear 114 rfl) rfl rfl ?_
                refine r_iload C (j := 4) (oDec_at oX1_hear 115 rfl) rfl ?_
                refine r_iload C (j := 5) (oDec_at oX1_hear 116 rfl) rfl ?_
                refine r_callVi C oCl1 rfl miX1_apartAt mlX1_59 (ct9_X1_apartAt l E ((pI (pI t 35 7 v15) 35 8 r20)) c1 hk1 x7 x8 (owLN_fr (oFr_oneI (q := 1) (m := 8) rfl (by rfl)) rfl (owLN_fr (oFr_oneI (q := 1) (m := 7) rfl (by rfl)) rfl iv0)) (owVR_fr (oFr_oneI (q := 1) (m := 8) rfl (by rfl)) rfl (owVR_fr (oFr_oneI (q := 1) (m := 7) rfl (by rfl)) rfl iv2))) (by decide) rfl rfl rfl (Nat.le_of_ble_eq_true rfl) (oDec_at oX1_hear 117 rfl) (fun r43 u42 pu42 fu42 => ?_)
                try dsimp only at pu42
                have hxu42 := oFr_nil fu42; subst hxu42
                have rr43 := n_rng r43
                have hlp9 := pu42
                have hlb9 := owAp_b (a := x7.toInt) (b := x8.toInt) (show owLN ((pI (pI t 35 7 v15) 35 8 r20)) from (owLN_fr (oFr_oneI (q := 1) (m := 8) rfl (by rfl)) rfl (owLN_fr (oFr_oneI (q := 1) (m := 7) rfl (by rfl)) rfl iv0))) hk1 (show owVR ((pI (pI t 35 7 v15) 35 8 r20)) from (owVR_fr (oFr_oneI (q := 1) (m := 8) rfl (by rfl)) rfl (owVR_fr (oFr_oneI (q := 1) (m := 7) rfl (by rfl)) rfl iv2)))
                have lk44 : (((pI (pI t 35 7 v15) 35 8 r20)).1 35 6).toInt = (t.1 35 6).toInt := congrArg Int32.toInt (((pI_ne (a := 35) (b := 6) (c := 35) (k := 8) _ _ (Or.inr (by decide)))).trans ((pI_ne (a := 35) (b := 6) (c := 35) (k := 7) _ _ (Or.inr (by decide)))))
                refine r_callVv C oCl1 rfl miX1_mark mlX1_74 (ct9_X1_mark l E ((pI (pI t 35 7 v15) 35 8 r20)) x11 r9 r43 (owDN_fr (oFr_oneI (q := 1) (m := 8) rfl (by rfl)) rfl (owDN_fr (oFr_oneI (q := 1) (m := 7) rfl (by rfl)) rfl iv1)) (by omega) (by omega)) (by decide) rfl rfl rfl (Nat.le_of_ble_eq_true rfl) (oDec_at oX1_hear 118 rfl) (fun u45 pu45 fu45 => ?_)
                try dsimp only at pu45
                try simp only [lk44] at pu45
                obtain ⟨pu45_0, pu45_1⟩ := pu45
                have hvr9 : owVR (u45) := (owVR_fr fu45 rfl (owVR_fr (oFr_oneI (q := 1) (m := 8) rfl (by rfl)) rfl (owVR_fr (oFr_oneI (q := 1) (m := 7) rfl (by rfl)) rfl iv2)))
                have hv40 := hvr9.1.1
                have hv41 := hvr9.2.1
                refine r_aload_n C (j := 0) (oDec_at oX1_hear 119 rfl) rfl rfl ?_
                refine r_pc C 235 rfl ?_
                refine r_iload C (j := 8) (oDec_at oX1_hear 120 rfl) rfl ?_
                refine r_iload_n C (j := 2) (oDec_at oX1_hear 121 rfl) rfl rfl ?_
                refine r_callSi C miX1_beatOf mlX1_78 (ct9_X1_beatOf l E (u45) x11 a2 (by omega) (by omega)) (by decide) rfl rfl rfl (Nat.le_of_ble_eq_true rfl) (oDec_at oX1_hear 122 rfl) (fun r48 u47 pu47 fu47 => ?_)
                try dsimp only at pu47
                obtain ⟨pu47_0, pu47_1⟩ := pu47
                have hxu47 := oFr_nil fu47; subst hxu47
                have rr48 := n_rng r48
                refine r_aload_n C (j := 0) (oDec_at oX1_hear 123 rfl) rfl rfl ?_
                refine r_getF (k := 4) (b := 40) C oCl1 rfl (by decide) flX1_27 rfl rfl rfl (oDec_at oX1_hear 124 rfl) ?_
                refine r_aload_n C (j := 1) (oDec_at oX1_hear 125 rfl) rfl rfl ?_
                refine r_pc C 246 rfl ?_
                refine r_iload C (j := 4) (oDec_at oX1_hear 126 rfl) rfl ?_
                refine r_iload C (j := 6) (oDec_at oX1_hear 127 rfl) rfl ?_
                have lk49 : ((u45).1 40 1).toInt = (t.1 40 1).toInt := congrArg Int32.toInt (((fu45 40 1 rfl).1).trans (((pI_ne (a := 40) (b := 1) (c := 35) _ _ (Or.inl (by decide)))).trans ((pI_ne (a := 40) (b := 1) (c := 35) _ _ (Or.inl (by decide))))))
                refine r_callSi C miX1_rise mlX1_81 (ct9_X1_rise l E (u45) 40 rfl c1 hk1 x7 x9 (owLN_fr fu45 rfl (owLN_fr (oFr_oneI (q := 1) (m := 8) rfl (by rfl)) rfl (owLN_fr (oFr_oneI (q := 1) (m := 7) rfl (by rfl)) rfl iv0))) hv40 (by rw [(show owVL 40 c1 (owTn (t) 40 c1) (u45) from (owVL_fr fu45 rfl (owVL_fr (oFr_oneI (q := 1) (m := 8) rfl (by rfl)) rfl (owVL_fr (oFr_oneI (q := 1) (m := 7) rfl (by rfl)) rfl hq10)))).2.2 _]; exact hne9.1)) (by decide) rfl rfl rfl (Nat.le_of_ble_eq_true rfl) (oDec_at oX1_hear 128 rfl) (fun r51 u50 pu50 fu50 => ?_)
                try dsimp only at pu50
                try simp only [lk49] at pu50
                obtain ⟨pu50_0, pu50_1⟩ := pu50
                have hxu50 := oFr_nil fu50; subst hxu50
                have rr51 := n_rng r51
                refine r_aload_n C (j := 0) (oDec_at oX1_hear 129 rfl) rfl rfl ?_
                refine r_getF (k := 5) (b := 41) C oCl1 rfl (by decide) flX1_31 rfl rfl rfl (oDec_at oX1_hear 130 rfl) ?_
                refine r_aload_n C (j := 1) (oDec_at oX1_hear 131 rfl) rfl rfl ?_
                refine r_pc C 258 rfl ?_
                refine r_iload C (j := 5) (oDec_at oX1_hear 132 rfl) rfl ?_
                refine r_iload C (j := 7) (oDec_at oX1_hear 133 rfl) rfl ?_
                have lk52 : ((u45).1 41 1).toInt = (t.1 41 1).toInt := congrArg Int32.toInt (((fu45 41 1 rfl).1).trans (((pI_ne (a := 41) (b := 1) (c := 35) _ _ (Or.inl (by decide)))).trans ((pI_ne (a := 41) (b := 1) (c := 35) _ _ (Or.inl (by decide))))))
                refine r_callSi C miX1_rise mlX1_81 (ct9_X1_rise l E (u45) 41 rfl c1 hk1 x8 x10 (owLN_fr fu45 rfl (owLN_fr (oFr_oneI (q := 1) (m := 8) rfl (by rfl)) rfl (owLN_fr (oFr_oneI (q := 1) (m := 7) rfl (by rfl)) rfl iv0))) hv41 (by rw [(show owVL 41 c1 (owTn (t) 41 c1) (u45) from (owVL_fr fu45 rfl (owVL_fr (oFr_oneI (q := 1) (m := 8) rfl (by rfl)) rfl (owVL_fr (oFr_oneI (q := 1) (m := 7) rfl (by rfl)) rfl hq11)))).2.2 _]; exact hne9.2)) (by decide) rfl rfl rfl (Nat.le_of_ble_eq_true rfl) (oDec_at oX1_hear 134 rfl) (fun r54 u53 pu53 fu53 => ?_)
                try dsimp only at pu53
                try simp only [lk52] at pu53
                obtain ⟨pu53_0, pu53_1⟩ := pu53
                have hxu53 := oFr_nil fu53; subst hxu53
                have rr54 := n_rng r54
                refine r_iload C (j := 12) (oDec_at oX1_hear 135 rfl) rfl ?_
                have lk55 : ((u45).1 35 6).toInt = (t.1 35 6).toInt := congrArg Int32.toInt (((fu45 35 6 rfl).1).trans (((pI_ne (a := 35) (b := 6) (c := 35) (k := 8) _ _ (Or.inr (by decide)))).trans ((pI_ne (a := 35) (b := 6) (c := 35) (k := 7) _ _ (Or.inr (by decide))))))
                refine r_callVv C oCl1 rfl miX1_moved mlX1_85 (ct9_X1_moved l E (u45) r48 r51 r54 k1 pu45_0 (by omega) (by omega) (by omega) (by omega)) (by decide) rfl rfl rfl (Nat.le_of_ble_eq_true rfl) (oDec_at oX1_hear 136 rfl) (fun u56 pu56 fu56 => ?_)
                try dsimp only at pu56
                try simp only [lk55] at pu56
                obtain ⟨pu56_0, pu56_1⟩ := pu56
                refine r_iload C (j := 6) (oDec_at oX1_hear 137 rfl) rfl ?_
                refine r_pc C 272 rfl ?_
                refine r_istore C (lv' := [(0, .ref (oad E 35)), (1, .ref (oad E c1)), (2, .int a2), (6, .int x6), (7, .int x9), (8, .int x8), (9, .int x9), (10, .int x10), (11, .int x11), (12, .int r4), (13, .int r7), (14, .int r9), (15, .int k1)]) [1, 2, 3, 4, 0, 5, 6, 7, 8, 9, 10, 11, 12] (oDec_at oX1_hear 138 rfl) (by decide) rfl ?_
                refine r_iload C (j := 7) (oDec_at oX1_hear 139 rfl) rfl ?_
                refine r_istore C (lv' := [(0, .ref (oad E 35)), (1, .ref (oad E c1)), (2, .int a2), (6, .int x6), (7, .int x9), (8, .int x10), (9, .int x9), (10, .int x10), (11, .int x11), (12, .int r4), (13, .int r7), (14, .int r9), (15, .int k1)]) [1, 2, 3, 4, 5, 0, 6, 7, 8, 9, 10, 11, 12] (oDec_at oX1_hear 140 rfl) (by decide) rfl ?_
                refine r_iload C (j := 9) (oDec_at oX1_hear 141 rfl) rfl ?_
                refine r_istore C (lv' := [(0, .ref (oad E 35)), (1, .ref (oad E c1)), (2, .int a2), (6, .int x6), (7, .int x9), (8, .int x10), (9, .int r4), (10, .int x10), (11, .int x11), (12, .int r4), (13, .int r7), (14, .int r9), (15, .int k1)]) [1, 2, 3, 4, 5, 6, 0, 7, 8, 9, 10, 11, 12] (oDec_at oX1_hear 142 rfl) (by decide) rfl ?_
                refine r_iload C (j := 10) (oDec_at oX1_hear 143 rfl) rfl ?_
                refine r_pc C 284 rfl ?_
                refine r_istore C (lv' := [(0, .ref (oad E 35)), (1, .ref (oad E c1)), (2, .int a2), (6, .int x6), (7, .int x9), (8, .int x10), (9, .int r4), (10, .int r7), (11, .int x11), (12, .int r4), (13, .int r7), (14, .int r9), (15, .int k1)]) [1, 2, 3, 4, 5, 6, 7, 0, 8, 9, 10, 11, 12] (oDec_at oX1_hear 144 rfl) (by decide) rfl ?_
                obtain ⟨v58, ev58⟩ : ∃ z : Int32, x11 + Int32.ofInt 1 = z := ⟨_, rfl⟩
                have hv58 : v58.toInt = x11.toInt + 1 := n_inc ev58 (by decide) (by omega) (by omega)
                refine r_iinc C (j := 8) (lv' := [(0, .ref (oad E 35)), (1, .ref (oad E c1)), (2, .int a2), (6, .int x6), (7, .int x9), (8, .int x10), (9, .int r4), (10, .int r7), (11, .int v58), (12, .int r4), (13, .int r7), (14, .int r9), (15, .int k1)]) v58 [1, 2, 3, 4, 5, 6, 7, 8, 0, 9, 10, 11, 12] (oDec_at oX1_hear 145 rfl) rfl ev58 (by decide) rfl ?_
                refine r_goto C (tgt := 103) (oDec_at oX1_hear 146 rfl) (by decide) ?_
                refine r_pick C [0, 1, 2, 3, 4, 5, 6, 7, 8] rfl ?_
                exact (ih (n - 1) (by omega)) (u56) x6 x9 x10 r4 r7 v58  (owLN_fr fu56 rfl (owLN_fr fu45 rfl (owLN_fr (oFr_oneI (q := 1) (m := 8) rfl (by rfl)) rfl (owLN_fr (oFr_oneI (q := 1) (m := 7) rfl (by rfl)) rfl iv0)))) pu56_0 (owVR_fr fu56 rfl (owVR_fr fu45 rfl (owVR_fr (oFr_oneI (q := 1) (m := 8) rfl (by rfl)) rfl (owVR_fr (oFr_oneI (q := 1) (m := 7) rfl (by rfl)) rfl iv2)))) (by omega) (by omega)
            · skip
              refine r_iload C (j := 7) (oDec_at oX1_hear 96 rfl) rfl ?_
              refine r_iload C (j := 5) (oDec_at oX1_hear 97 rfl) rfl ?_
              refine r_icmp_eq C 270 (oDec_at oX1_hear 98 rfl) (by decide) (fun cd59 => ?_) (fun cd59 => ?_)
              · skip
                refine r_iload C (j := 6) (oDec_at oX1_hear 137 rfl) rfl ?_
                refine r_istore C (lv' := [(0, .ref (oad E 35)), (1, .ref (oad E c1)), (2, .int a2), (6, .int x6), (7, .int x9), (8, .int x8), (9, .int x9), (10, .int x10), (11, .int x11), (12, .int r4), (13, .int r7), (14, .int r9)]) [1, 2, 3, 4, 0, 5, 6, 7, 8, 9, 10, 11] (oDec_at oX1_hear 138 rfl) (by decide) rfl ?_
                refine r_iload C (j := 7) (oDec_at oX1_hear 139 rfl) rfl ?_
                refine r_istore C (lv' := [(0, .ref (oad E 35)), (1, .ref (oad E c1)), (2, .int a2), (6, .int x6), (7, .int x9), (8, .int x10), (9, .int x9), (10, .int x10), (11, .int x11), (12, .int r4), (13, .int r7), (14, .int r9)]) [1, 2, 3, 4, 5, 0, 6, 7, 8, 9, 10, 11] (oDec_at oX1_hear 140 rfl) (by decide) rfl ?_
                refine r_iload C (j := 9) (oDec_at oX1_hear 141 rfl) rfl ?_
                refine r_istore C (lv' := [(0, .ref (oad E 35)), (1, .ref (oad E c1)), (2, .int a2), (6, .int x6), (7, .int x9), (8, .int x10), (9, .int r4), (10, .int x10), (11, .int x11), (12, .int r4), (13, .int r7), (14, .int r9)]) [1, 2, 3, 4, 5, 6, 0, 7, 8, 9, 10, 11] (oDec_at oX1_hear 142 rfl) (by decide) rfl ?_
                refine r_pc C 282 rfl ?_
                refine r_iload C (j := 10) (oDec_at oX1_hear 143 rfl) rfl ?_
                refine r_istore C (lv' := [(0, .ref (oad E 35)), (1, .ref (oad E c1)), (2, .int a2), (6, .int x6), (7, .int x9), (8, .int x10), (9, .int r4), (10, .int r7), (11, .int x11), (12, .int r4), (13, .int r7), (14, .int r9)]) [1, 2, 3, 4, 5, 6, 7, 0, 8, 9, 10, 11] (oDec_at oX1_hear 144 rfl) (by decide) rfl ?_
                obtain ⟨v60, ev60⟩ : ∃ z : Int32, x11 + Int32.ofInt 1 = z := ⟨_, rfl⟩
                have hv60 : v60.toInt = x11.toInt + 1 := n_inc ev60 (by decide) (by omega) (by omega)
                refine r_iinc C (j := 8) (lv' := [(0, .ref (oad E 35)), (1, .ref (oad E c1)), (2, .int a2), (6, .int x6), (7, .int x9), (8, .int x10), (9, .int r4), (10, .int r7), (11, .int v60), (12, .int r4), (13, .int r7), (14, .int r9)]) v60 [1, 2, 3, 4, 5, 6, 7, 8, 0, 9, 10, 11] (oDec_at oX1_hear 145 rfl) rfl ev60 (by decide) rfl ?_
                refine r_goto C (tgt := 103) (oDec_at oX1_hear 146 rfl) (by decide) ?_
                refine r_pick C [0, 1, 2, 3, 4, 5, 6, 7, 8] rfl ?_
                exact (ih (n - 1) (by omega)) ((pI (pI t 35 7 v15) 35 8 r20)) x6 x9 x10 r4 r7 v60  (owLN_fr (oFr_oneI (q := 1) (m := 8) rfl (by rfl)) rfl (owLN_fr (oFr_oneI (q := 1) (m := 7) rfl (by rfl)) rfl iv0)) (owDN_fr (oFr_oneI (q := 1) (m := 8) rfl (by rfl)) rfl (owDN_fr (oFr_oneI (q := 1) (m := 7) rfl (by rfl)) rfl iv1)) (owVR_fr (oFr_oneI (q := 1) (m := 8) rfl (by rfl)) rfl (owVR_fr (oFr_oneI (q := 1) (m := 7) rfl (by rfl)) rfl iv2)) (by omega) (by omega)
              · skip
                refine r_aload_n C (j := 0) (oDec_at oX1_hear 99 rfl) rfl rfl ?_
                refine r_aload_n C (j := 1) (oDec_at oX1_hear 100 rfl) rfl rfl ?_
                refine r_iload C (j := 9) (oDec_at oX1_hear 101 rfl) rfl ?_
                refine r_iload C (j := 10) (oDec_at oX1_hear 102 rfl) rfl ?_
                refine r_callVi C oCl1 rfl miX1_apartAt mlX1_59 (ct9_X1_apartAt l E ((pI (pI t 35 7 v15) 35 8 r20)) c1 hk1 r4 r7 (owLN_fr (oFr_oneI (q := 1) (m := 8) rfl (by rfl)) rfl (owLN_fr (oFr_oneI (q := 1) (m := 7) rfl (by rfl)) rfl iv0)) (owVR_fr (oFr_oneI (q := 1) (m := 8) rfl (by rfl)) rfl (owVR_fr (oFr_oneI (q := 1) (m := 7) rfl (by rfl)) rfl iv2))) (by decide) rfl rfl rfl (Nat.le_of_ble_eq_true rfl) (oDec_at oX1_hear 103 rfl) (fun r62 u61 pu61 fu61 => ?_)
                try dsimp only at pu61
                have hxu61 := oFr_nil fu61; subst hxu61
                have rr62 := n_rng r62
                refine r_ldc C (v := km1000000000) (by rw [qkm1000000000]; exact kcX1_63) (oDec_at oX1_hear 104 rfl) ?_
                refine r_pc C 207 rfl ?_
                refine r_icmp_ne C 214 (oDec_at oX1_hear 105 rfl) (by decide) (fun cd63 => ?_) (fun cd63 => ?_)
                · skip
                  refine r_iconst C (oDec_at oX1_hear 108 rfl) (v := k0) (by rw [qk0]; rfl) ?_
                  refine r_istore C (lv' := [(0, .ref (oad E 35)), (1, .ref (oad E c1)), (2, .int a2), (6, .int x6), (7, .int x7), (8, .int x8), (9, .int x9), (10, .int x10), (11, .int x11), (12, .int r4), (13, .int r7), (14, .int r9), (15, .int k0)]) [1, 2, 3, 4, 5, 6, 7, 8, 9, 10, 11, 12, 0] (oDec_at oX1_hear 109 rfl) (by decide) rfl ?_
                  refine r_aload_n C (j := 0) (oDec_at oX1_hear 110 rfl) rfl rfl ?_
                  refine r_iload C (j := 8) (oDec_at oX1_hear 111 rfl) rfl ?_
                  refine r_iload C (j := 11) (oDec_at oX1_hear 112 rfl) rfl ?_
                  refine r_aload_n C (j := 0) (oDec_at oX1_hear 113 rfl) rfl rfl ?_
                  refine r_pc C 223 rfl ?_
                  refine r_aload_n C (j := 1) (oDec_at oX1_hear 114 rfl) rfl rfl ?_
                  refine r_iload C (j := 4) (oDec_at oX1_hear 115 rfl) rfl ?_
                  refine r_iload C (j := 5) (oDec_at oX1_hear 116 rfl) rfl ?_
                  refine r_callVi C oCl1 rfl miX1_apartAt mlX1_59 (ct9_X1_apartAt l E ((pI (pI t 35 7 v15) 35 8 r20)) c1 hk1 x7 x8 (owLN_fr (oFr_oneI (q := 1) (m := 8) rfl (by rfl)) rfl (owLN_fr (oFr_oneI (q := 1) (m := 7) rfl (by rfl)) rfl iv0)) (owVR_fr (oFr_oneI (q := 1) (m := 8) rfl (by rfl)) rfl (owVR_fr (oFr_oneI (q := 1) (m := 7) rfl (by rfl)) rfl iv2))) (by decide) rfl rfl rfl (Nat.le_of_ble_eq_true rfl) (oDec_at oX1_hear 117 rfl) (fun r65 u64 pu64 fu64 => ?_)
                  try dsimp only at pu64
                  have hxu64 := oFr_nil fu64; subst hxu64
                  have rr65 := n_rng r65
                  have hlp9 := pu64
                  have hlb9 := owAp_b (a := x7.toInt) (b := x8.toInt) (show owLN ((pI (pI t 35 7 v15) 35 8 r20)) from (owLN_fr (oFr_oneI (q := 1) (m := 8) rfl (by rfl)) rfl (owLN_fr (oFr_oneI (q := 1) (m := 7) rfl (by rfl)) rfl iv0))) hk1 (show owVR ((pI (pI t 35 7 v15) 35 8 r20)) from (owVR_fr (oFr_oneI (q := 1) (m := 8) rfl (by rfl)) rfl (owVR_fr (oFr_oneI (q := 1) (m := 7) rfl (by rfl)) rfl iv2)))
                  have lk66 : (((pI (pI t 35 7 v15) 35 8 r20)).1 35 6).toInt = (t.1 35 6).toInt := congrArg Int32.toInt (((pI_ne (a := 35) (b := 6) (c := 35) (k := 8) _ _ (Or.inr (by decide)))).trans ((pI_ne (a := 35) (b := 6) (c := 35) (k := 7) _ _ (Or.inr (by decide)))))
                  refine r_callVv C oCl1 rfl miX1_mark mlX1_74 (ct9_X1_mark l E ((pI (pI t 35 7 v15) 35 8 r20)) x11 r9 r65 (owDN_fr (oFr_oneI (q := 1) (m := 8) rfl (by rfl)) rfl (owDN_fr (oFr_oneI (q := 1) (m := 7) rfl (by rfl)) rfl iv1)) (by omega) (by omega)) (by decide) rfl rfl rfl (Nat.le_of_ble_eq_true rfl) (oDec_at oX1_hear 118 rfl) (fun u67 pu67 fu67 => ?_)
                  try dsimp only at pu67
                  try simp only [lk66] at pu67
                  obtain ⟨pu67_0, pu67_1⟩ := pu67
                  have hvr9 : owVR (u67) := (owVR_fr fu67 rfl (owVR_fr (oFr_oneI (q := 1) (m := 8) rfl (by rfl)) rfl (owVR_fr (oFr_oneI (q := 1) (m := 7) rfl (by rfl)) rfl iv2)))
                  have hv40 := hvr9.1.1
                  have hv41 := hvr9.2.1
                  refine r_aload_n C (j := 0) (oDec_at oX1_hear 119 rfl) rfl rfl ?_
                  refine r_pc C 235 rfl ?_
                  refine r_iload C (j := 8) (oDec_at oX1_hear 120 rfl) rfl ?_
                  refine r_iload_n C (j := 2) (oDec_at oX1_hear 121 rfl) rfl rfl ?_
                  refine r_callSi C miX1_beatOf mlX1_78 (ct9_X1_beatOf l E (u67) x11 a2 (by omega) (by omega)) (by decide) rfl rfl rfl (Nat.le_of_ble_eq_true rfl) (oDec_at oX1_hear 122 rfl) (fun r70 u69 pu69 fu69 => ?_)
                  try dsimp only at pu69
                  obtain ⟨pu69_0, pu69_1⟩ := pu69
                  have hxu69 := oFr_nil fu69; subst hxu69
                  have rr70 := n_rng r70
                  refine r_aload_n C (j := 0) (oDec_at oX1_hear 123 rfl) rfl rfl ?_
                  refine r_getF (k := 4) (b := 40) C oCl1 rfl (by decide) flX1_27 rfl rfl rfl (oDec_at oX1_hear 124 rfl) ?_
                  refine r_aload_n C (j := 1) (oDec_at oX1_hear 125 rfl) rfl rfl ?_
                  refine r_pc C 246 rfl ?_
                  refine r_iload C (j := 4) (oDec_at oX1_hear 126 rfl) rfl ?_
                  refine r_iload C (j := 6) (oDec_at oX1_hear 127 rfl) rfl ?_
                  have lk71 : ((u67).1 40 1).toInt = (t.1 40 1).toInt := congrArg Int32.toInt (((fu67 40 1 rfl).1).trans (((pI_ne (a := 40) (b := 1) (c := 35) _ _ (Or.inl (by decide)))).trans ((pI_ne (a := 40) (b := 1) (c := 35) _ _ (Or.inl (by decide))))))
                  refine r_callSi C miX1_rise mlX1_81 (ct9_X1_rise l E (u67) 40 rfl c1 hk1 x7 x9 (owLN_fr fu67 rfl (owLN_fr (oFr_oneI (q := 1) (m := 8) rfl (by rfl)) rfl (owLN_fr (oFr_oneI (q := 1) (m := 7) rfl (by rfl)) rfl iv0))) hv40 (by rw [(show owVL 40 c1 (owTn (t) 40 c1) (u67) from (owVL_fr fu67 rfl (owVL_fr (oFr_oneI (q := 1) (m := 8) rfl (by rfl)) rfl (owVL_fr (oFr_oneI (q := 1) (m := 7) rfl (by rfl)) rfl hq10)))).2.2 _]; exact hne9.1)) (by decide) rfl rfl rfl (Nat.le_of_ble_eq_true rfl) (oDec_at oX1_hear 128 rfl) (fun r73 u72 pu72 fu72 => ?_)
                  try dsimp only at pu72
                  try simp only [lk71] at pu72
                  obtain ⟨pu72_0, pu72_1⟩ := pu72
                  have hxu72 := oFr_nil fu72; subst hxu72
                  have rr73 := n_rng r73
                  refine r_aload_n C (j := 0) (oDec_at oX1_hear 129 rfl) rfl rfl ?_
                  refine r_getF (k := 5) (b := 41) C oCl1 rfl (by decide) flX1_31 rfl rfl rfl (oDec_at oX1_hear 130 rfl) ?_
                  refine r_aload_n C (j := 1) (oDec_at oX1_hear 131 rfl) rfl rfl ?_
                  refine r_pc C 258 rfl ?_
                  refine r_iload C (j := 5) (oDec_at oX1_hear 132 rfl) rfl ?_
                  refine r_iload C (j := 7) (oDec_at oX1_hear 133 rfl) rfl ?_
                  have lk74 : ((u67).1 41 1).toInt = (t.1 41 1).toInt := congrArg Int32.toInt (((fu67 41 1 rfl).1).trans (((pI_ne (a := 41) (b := 1) (c := 35) _ _ (Or.inl (by decide)))).trans ((pI_ne (a := 41) (b := 1) (c := 35) _ _ (Or.inl (by decide))))))
                  refine r_callSi C miX1_rise mlX1_81 (ct9_X1_rise l E (u67) 41 rfl c1 hk1 x8 x10 (owLN_fr fu67 rfl (owLN_fr (oFr_oneI (q := 1) (m := 8) rfl (by rfl)) rfl (owLN_fr (oFr_oneI (q := 1) (m := 7) rfl (by rfl)) rfl iv0))) hv41 (by rw [(show owVL 41 c1 (owTn (t) 41 c1) (u67) from (owVL_fr fu67 rfl (owVL_fr (oFr_oneI (q := 1) (m := 8) rfl (by rfl)) rfl (owVL_fr (oFr_oneI (q := 1) (m := 7) rfl (by rfl)) rfl hq11)))).2.2 _]; exact hne9.2)) (by decide) rfl rfl rfl (Nat.le_of_ble_eq_true rfl) (oDec_at oX1_hear 134 rfl) (fun r76 u75 pu75 fu75 => ?_)
                  try dsimp only at pu75
                  try simp only [lk74] at pu75
                  obtain ⟨pu75_0, pu75_1⟩ := pu75
                  have hxu75 := oFr_nil fu75; subst hxu75
                  have rr76 := n_rng r76
                  refine r_iload C (j := 12) (oDec_at oX1_hear 135 rfl) rfl ?_
                  have lk77 : ((u67).1 35 6).toInt = (t.1 35 6).toInt := congrArg Int32.toInt (((fu67 35 6 rfl).1).trans (((pI_ne (a := 35) (b := 6) (c := 35) (k := 8) _ _ (Or.inr (by decide)))).trans ((pI_ne (a := 35) (b := 6) (c := 35) (k := 7) _ _ (Or.inr (by decide))))))
                  refine r_callVv C oCl1 rfl miX1_moved mlX1_85 (ct9_X1_moved l E (u67) r70 r73 r76 k0 pu67_0 (by omega) (by omega) (by omega) (by omega)) (by decide) rfl rfl rfl (Nat.le_of_ble_eq_true rfl) (oDec_at oX1_hear 136 rfl) (fun u78 pu78 fu78 => ?_)
                  try dsimp only at pu78
                  try simp only [lk77] at pu78
                  obtain ⟨pu78_0, pu78_1⟩ := pu78
                  refine r_iload C (j := 6) (oDec_at oX1_hear 137 rfl) rfl ?_
                  refine r_pc C 272 rfl ?_
                  refine r_istore C (lv' := [(0, .ref (oad E 35)), (1, .ref (oad E c1)), (2, .int a2), (6, .int x6), (7, .int x9), (8, .int x8), (9, .int x9), (10, .int x10), (11, .int x11), (12, .int r4), (13, .int r7), (14, .int r9), (15, .int k0)]) [1, 2, 3, 4, 0, 5, 6, 7, 8, 9, 10, 11, 12] (oDec_at oX1_hear 138 rfl) (by decide) rfl ?_
                  refine r_iload C (j := 7) (oDec_at oX1_hear 139 rfl) rfl ?_
                  refine r_istore C (lv' := [(0, .ref (oad E 35)), (1, .ref (oad E c1)), (2, .int a2), (6, .int x6), (7, .int x9), (8, .int x10), (9, .int x9), (10, .int x10), (11, .int x11), (12, .int r4), (13, .int r7), (14, .int r9), (15, .int k0)]) [1, 2, 3, 4, 5, 0, 6, 7, 8, 9, 10, 11, 12] (oDec_at oX1_hear 140 rfl) (by decide) rfl ?_
                  refine r_iload C (j := 9) (oDec_at oX1_hear 141 rfl) rfl ?_
                  refine r_istore C (lv' := [(0, .ref (oad E 35)), (1, .ref (oad E c1)), (2, .int a2), (6, .int x6), (7, .int x9), (8, .int x10), (9, .int r4), (10, .int x10), (11, .int x11), (12, .int r4), (13, .int r7), (14, .int r9), (15, .int k0)]) [1, 2, 3, 4, 5, 6, 0, 7, 8, 9, 10, 11, 12] (oDec_at oX1_hear 142 rfl) (by decide) rfl ?_
                  refine r_iload C (j := 10) (oDec_at oX1_hear 143 rfl) rfl ?_
                  refine r_pc C 284 rfl ?_
                  refine r_istore C (lv' := [(0, .ref (oad E 35)), (1, .ref (oad E c1)), (2, .int a2), (6, .int x6), (7, .int x9), (8, .int x10), (9, .int r4), (10, .int r7), (11, .int x11), (12, .int r4), (13, .int r7), (14, .int r9), (15, .int k0)]) [1, 2, 3, 4, 5, 6, 7, 0, 8, 9, 10, 11, 12] (oDec_at oX1_hear 144 rfl) (by decide) rfl ?_
                  obtain ⟨v80, ev80⟩ : ∃ z : Int32, x11 + Int32.ofInt 1 = z := ⟨_, rfl⟩
                  have hv80 : v80.toInt = x11.toInt + 1 := n_inc ev80 (by decide) (by omega) (by omega)
                  refine r_iinc C (j := 8) (lv' := [(0, .ref (oad E 35)), (1, .ref (oad E c1)), (2, .int a2), (6, .int x6), (7, .int x9), (8, .int x10), (9, .int r4), (10, .int r7), (11, .int v80), (12, .int r4), (13, .int r7), (14, .int r9), (15, .int k0)]) v80 [1, 2, 3, 4, 5, 6, 7, 8, 0, 9, 10, 11, 12] (oDec_at oX1_hear 145 rfl) rfl ev80 (by decide) rfl ?_
                  refine r_goto C (tgt := 103) (oDec_at oX1_hear 146 rfl) (by decide) ?_
                  refine r_pick C [0, 1, 2, 3, 4, 5, 6, 7, 8] rfl ?_
                  exact (ih (n - 1) (by omega)) (u78) x6 x9 x10 r4 r7 v80  (owLN_fr fu78 rfl (owLN_fr fu67 rfl (owLN_fr (oFr_oneI (q := 1) (m := 8) rfl (by rfl)) rfl (owLN_fr (oFr_oneI (q := 1) (m := 7) rfl (by rfl)) rfl iv0)))) pu78_0 (owVR_fr fu78 rfl (owVR_fr fu67 rfl (owVR_fr (oFr_oneI (q := 1) (m := 8) rfl (by rfl)) rfl (owVR_fr (oFr_oneI (q := 1) (m := 7) rfl (by rfl)) rfl iv2)))) (by omega) (by omega)
                · skip
                  refine r_iconst C (oDec_at oX1_hear 106 rfl) (v := k1) (by rw [qk1]; rfl) ?_
                  refine r_goto C (tgt := 215) (oDec_at oX1_hear 107 rfl) (by decide) ?_
                  refine r_istore C (lv' := [(0, .ref (oad E 35)), (1, .ref (oad E c1)), (2, .int a2), (6, .int x6), (7, .int x7), (8, .int x8), (9, .int x9), (10, .int x10), (11, .int x11), (12, .int r4), (13, .int r7), (14, .int r9), (15, .int k1)]) [1, 2, 3, 4, 5, 6, 7, 8, 9, 10, 11, 12, 0] (oDec_at oX1_hear 109 rfl) (by decide) rfl ?_
                  refine r_aload_n C (j := 0) (oDec_at oX1_hear 110 rfl) rfl rfl ?_
                  refine r_iload C (j := 8) (oDec_at oX1_hear 111 rfl) rfl ?_
                  refine r_iload C (j := 11) (oDec_at oX1_hear 112 rfl) rfl ?_
                  refine r_aload_n C (j := 0) (oDec_at oX1_hear 113 rfl) rfl rfl ?_
                  refine r_pc C 223 rfl ?_
                  refine r_aload_n C (j := 1) (oDec_at oX1_hear 114 rfl) rfl rfl ?_
                  refine r_iload C (j := 4) (oDec_at oX1_hear 115 rfl) rfl ?_
                  refine r_iload C (j := 5) (oDec_at oX1_hear 116 rfl) rfl ?_
                  refine r_callVi C oCl1 rfl miX1_apartAt mlX1_59 (ct9_X1_apartAt l E ((pI (pI t 35 7 v15) 35 8 r20)) c1 hk1 x7 x8 (owLN_fr (oFr_oneI (q := 1) (m := 8) rfl (by rfl)) rfl (owLN_fr (oFr_oneI (q := 1) (m := 7) rfl (by rfl)) rfl iv0)) (owVR_fr (oFr_oneI (q := 1) (m := 8) rfl (by rfl)) rfl (owVR_fr (oFr_oneI (q := 1) (m := 7) rfl (by rfl)) rfl iv2))) (by decide) rfl rfl rfl (Nat.le_of_ble_eq_true rfl) (oDec_at oX1_hear 117 rfl) (fun r82 u81 pu81 fu81 => ?_)
                  try dsimp only at pu81
                  have hxu81 := oFr_nil fu81; subst hxu81
                  have rr82 := n_rng r82
                  have hlp9 := pu81
                  have hlb9 := owAp_b (a := x7.toInt) (b := x8.toInt) (show owLN ((pI (pI t 35 7 v15) 35 8 r20)) from (owLN_fr (oFr_oneI (q := 1) (m := 8) rfl (by rfl)) rfl (owLN_fr (oFr_oneI (q := 1) (m := 7) rfl (by rfl)) rfl iv0))) hk1 (show owVR ((pI (pI t 35 7 v15) 35 8 r20)) from (owVR_fr (oFr_oneI (q := 1) (m := 8) rfl (by rfl)) rfl (owVR_fr (oFr_oneI (q := 1) (m := 7) rfl (by rfl)) rfl iv2)))
                  have lk83 : (((pI (pI t 35 7 v15) 35 8 r20)).1 35 6).toInt = (t.1 35 6).toInt := congrArg Int32.toInt (((pI_ne (a := 35) (b := 6) (c := 35) (k := 8) _ _ (Or.inr (by decide)))).trans ((pI_ne (a := 35) (b := 6) (c := 35) (k := 7) _ _ (Or.inr (by decide)))))
                  refine r_callVv C oCl1 rfl miX1_mark mlX1_74 (ct9_X1_mark l E ((pI (pI t 35 7 v15) 35 8 r20)) x11 r9 r82 (owDN_fr (oFr_oneI (q := 1) (m := 8) rfl (by rfl)) rfl (owDN_fr (oFr_oneI (q := 1) (m := 7) rfl (by rfl)) rfl iv1)) (by omega) (by omega)) (by decide) rfl rfl rfl (Nat.le_of_ble_eq_true rfl) (oDec_at oX1_hear 118 rfl) (fun u84 pu84 fu84 => ?_)
                  try dsimp only at pu84
                  try simp only [lk83] at pu84
                  obtain ⟨pu84_0, pu84_1⟩ := pu84
                  have hvr9 : owVR (u84) := (owVR_fr fu84 rfl (owVR_fr (oFr_oneI (q := 1) (m := 8) rfl (by rfl)) rfl (owVR_fr (oFr_oneI (q := 1) (m := 7) rfl (by rfl)) rfl iv2)))
                  have hv40 := hvr9.1.1
                  have hv41 := hvr9.2.1
                  refine r_aload_n C (j := 0) (oDec_at oX1_hear 119 rfl) rfl rfl ?_
                  refine r_pc C 235 rfl ?_
                  refine r_iload C (j := 8) (oDec_at oX1_hear 120 rfl) rfl ?_
                  refine r_iload_n C (j := 2) (oDec_at oX1_hear 121 rfl) rfl rfl ?_
                  refine r_callSi C miX1_beatOf mlX1_78 (ct9_X1_beatOf l E (u84) x11 a2 (by omega) (by omega)) (by decide) rfl rfl rfl (Nat.le_of_ble_eq_true rfl) (oDec_at oX1_hear 122 rfl) (fun r87 u86 pu86 fu86 => ?_)
                  try dsimp only at pu86
                  obtain ⟨pu86_0, pu86_1⟩ := pu86
                  have hxu86 := oFr_nil fu86; subst hxu86
                  have rr87 := n_rng r87
                  refine r_aload_n C (j := 0) (oDec_at oX1_hear 123 rfl) rfl rfl ?_
                  refine r_getF (k := 4) (b := 40) C oCl1 rfl (by decide) flX1_27 rfl rfl rfl (oDec_at oX1_hear 124 rfl) ?_
                  refine r_aload_n C (j := 1) (oDec_at oX1_hear 125 rfl) rfl rfl ?_
                  refine r_pc C 246 rfl ?_
                  refine r_iload C (j := 4) (oDec_at oX1_hear 126 rfl) rfl ?_
                  refine r_iload C (j := 6) (oDec_at oX1_hear 127 rfl) rfl ?_
                  have lk88 : ((u84).1 40 1).toInt = (t.1 40 1).toInt := congrArg Int32.toInt (((fu84 40 1 rfl).1).trans (((pI_ne (a := 40) (b := 1) (c := 35) _ _ (Or.inl (by decide)))).trans ((pI_ne (a := 40) (b := 1) (c := 35) _ _ (Or.inl (by decide))))))
                  refine r_callSi C miX1_rise mlX1_81 (ct9_X1_rise l E (u84) 40 rfl c1 hk1 x7 x9 (owLN_fr fu84 rfl (owLN_fr (oFr_oneI (q := 1) (m := 8) rfl (by rfl)) rfl (owLN_fr (oFr_oneI (q := 1) (m := 7) rfl (by rfl)) rfl iv0))) hv40 (by rw [(show owVL 40 c1 (owTn (t) 40 c1) (u84) from (owVL_fr fu84 rfl (owVL_fr (oFr_oneI (q := 1) (m := 8) rfl (by rfl)) rfl (owVL_fr (oFr_oneI (q := 1) (m := 7) rfl (by rfl)) rfl hq10)))).2.2 _]; exact hne9.1)) (by decide) rfl rfl rfl (Nat.le_of_ble_eq_true rfl) (oDec_at oX1_hear 128 rfl) (fun r90 u89 pu89 fu89 => ?_)
                  try dsimp only at pu89
                  try simp only [lk88] at pu89
                  obtain ⟨pu89_0, pu89_1⟩ := pu89
                  have hxu89 := oFr_nil fu89; subst hxu89
                  have rr90 := n_rng r90
                  refine r_aload_n C (j := 0) (oDec_at oX1_hear 129 rfl) rfl rfl ?_
                  refine r_getF (k := 5) (b := 41) C oCl1 rfl (by decide) flX1_31 rfl rfl rfl (oDec_at oX1_hear 130 rfl) ?_
                  refine r_aload_n C (j := 1) (oDec_at oX1_hear 131 rfl) rfl rfl ?_
                  refine r_pc C 258 rfl ?_
                  refine r_iload C (j := 5) (oDec_at oX1_hear 132 rfl) rfl ?_
                  refine r_iload C (j := 7) (oDec_at oX1_hear 133 rfl) rfl ?_
                  have lk91 : ((u84).1 41 1).toInt = (t.1 41 1).toInt := congrArg Int32.toInt (((fu84 41 1 rfl).1).trans (((pI_ne (a := 41) (b := 1) (c := 35) _ _ (Or.inl (by decide)))).trans ((pI_ne (a := 41) (b := 1) (c := 35) _ _ (Or.inl (by decide))))))
                  refine r_callSi C miX1_rise mlX1_81 (ct9_X1_rise l E (u84) 41 rfl c1 hk1 x8 x10 (owLN_fr fu84 rfl (owLN_fr (oFr_oneI (q := 1) (m := 8) rfl (by rfl)) rfl (owLN_fr (oFr_oneI (q := 1) (m := 7) rfl (by rfl)) rfl iv0))) hv41 (by rw [(show owVL 41 c1 (owTn (t) 41 c1) (u84) from (owVL_fr fu84 rfl (owVL_fr (oFr_oneI (q := 1) (m := 8) rfl (by rfl)) rfl (owVL_fr (oFr_oneI (q := 1) (m := 7) rfl (by rfl)) rfl hq11)))).2.2 _]; exact hne9.2)) (by decide) rfl rfl rfl (Nat.le_of_ble_eq_true rfl) (oDec_at oX1_hear 134 rfl) (fun r93 u92 pu92 fu92 => ?_)
                  try dsimp only at pu92
                  try simp only [lk91] at pu92
                  obtain ⟨pu92_0, pu92_1⟩ := pu92
                  have hxu92 := oFr_nil fu92; subst hxu92
                  have rr93 := n_rng r93
                  refine r_iload C (j := 12) (oDec_at oX1_hear 135 rfl) rfl ?_
                  have lk94 : ((u84).1 35 6).toInt = (t.1 35 6).toInt := congrArg Int32.toInt (((fu84 35 6 rfl).1).trans (((pI_ne (a := 35) (b := 6) (c := 35) (k := 8) _ _ (Or.inr (by decide)))).trans ((pI_ne (a := 35) (b := 6) (c := 35) (k := 7) _ _ (Or.inr (by decide))))))
                  refine r_callVv C oCl1 rfl miX1_moved mlX1_85 (ct9_X1_moved l E (u84) r87 r90 r93 k1 pu84_0 (by omega) (by omega) (by omega) (by omega)) (by decide) rfl rfl rfl (Nat.le_of_ble_eq_true rfl) (oDec_at oX1_hear 136 rfl) (fun u95 pu95 fu95 => ?_)
                  try dsimp only at pu95
                  try simp only [lk94] at pu95
                  obtain ⟨pu95_0, pu95_1⟩ := pu95
                  refine r_iload C (j := 6) (oDec_at oX1_hear 137 rfl) rfl ?_
                  refine r_pc C 272 rfl ?_
                  refine r_istore C (lv' := [(0, .ref (oad E 35)), (1, .ref (oad E c1)), (2, .int a2), (6, .int x6), (7, .int x9), (8, .int x8), (9, .int x9), (10, .int x10), (11, .int x11), (12, .int r4), (13, .int r7), (14, .int r9), (15, .int k1)]) [1, 2, 3, 4, 0, 5, 6, 7, 8, 9, 10, 11, 12] (oDec_at oX1_hear 138 rfl) (by decide) rfl ?_
                  refine r_iload C (j := 7) (oDec_at oX1_hear 139 rfl) rfl ?_
                  refine r_istore C (lv' := [(0, .ref (oad E 35)), (1, .ref (oad E c1)), (2, .int a2), (6, .int x6), (7, .int x9), (8, .int x10), (9, .int x9), (10, .int x10), (11, .int x11), (12, .int r4), (13, .int r7), (14, .int r9), (15, .int k1)]) [1, 2, 3, 4, 5, 0, 6, 7, 8, 9, 10, 11, 12] (oDec_at oX1_hear 140 rfl) (by decide) rfl ?_
                  refine r_iload C (j := 9) (oDec_at oX1_hear 141 rfl) rfl ?_
                  refine r_istore C (lv' := [(0, .ref (oad E 35)), (1, .ref (oad E c1)), (2, .int a2), (6, .int x6), (7, .int x9), (8, .int x10), (9, .int r4), (10, .int x10), (11, .int x11), (12, .int r4), (13, .int r7), (14, .int r9), (15, .int k1)]) [1, 2, 3, 4, 5, 6, 0, 7, 8, 9, 10, 11, 12] (oDec_at oX1_hear 142 rfl) (by decide) rfl ?_
                  refine r_iload C (j := 10) (oDec_at oX1_hear 143 rfl) rfl ?_
                  refine r_pc C 284 rfl ?_
                  refine r_istore C (lv' := [(0, .ref (oad E 35)), (1, .ref (oad E c1)), (2, .int a2), (6, .int x6), (7, .int x9), (8, .int x10), (9, .int r4), (10, .int r7), (11, .int x11), (12, .int r4), (13, .int r7), (14, .int r9), (15, .int k1)]) [1, 2, 3, 4, 5, 6, 7, 0, 8, 9, 10, 11, 12] (oDec_at oX1_hear 144 rfl) (by decide) rfl ?_
                  obtain ⟨v97, ev97⟩ : ∃ z : Int32, x11 + Int32.ofInt 1 = z := ⟨_, rfl⟩
                  have hv97 : v97.toInt = x11.toInt + 1 := n_inc ev97 (by decide) (by omega) (by omega)
                  refine r_iinc C (j := 8) (lv' := [(0, .ref (oad E 35)), (1, .ref (oad E c1)), (2, .int a2), (6, .int x6), (7, .int x9), (8, .int x10), (9, .int r4), (10, .int r7), (11, .int v97), (12, .int r4), (13, .int r7), (14, .int r9), (15, .int k1)]) v97 [1, 2, 3, 4, 5, 6, 7, 8, 0, 9, 10, 11, 12] (oDec_at oX1_hear 145 rfl) rfl ev97 (by decide) rfl ?_
                  refine r_goto C (tgt := 103) (oDec_at oX1_hear 146 rfl) (by decide) ?_
                  refine r_pick C [0, 1, 2, 3, 4, 5, 6, 7, 8] rfl ?_
                  exact (ih (n - 1) (by omega)) (u95) x6 x9 x10 r4 r7 v97  (owLN_fr fu95 rfl (owLN_fr fu84 rfl (owLN_fr (oFr_oneI (q := 1) (m := 8) rfl (by rfl)) rfl (owLN_fr (oFr_oneI (q := 1) (m := 7) rfl (by rfl)) rfl iv0)))) pu95_0 (owVR_fr fu95 rfl (owVR_fr fu84 rfl (owVR_fr (oFr_oneI (q := 1) (m := 8) rfl (by rfl)) rfl (owVR_fr (oFr_oneI (q := 1) (m := 7) rfl (by rfl)) rfl iv2)))) (by omega) (by omega)
  refine r_aload_n C (j := 0) (oDec_at oX1_hear 0 rfl) rfl rfl ?_
  refine r_iload_n C (j := 3) (oDec_at oX1_hear 1 rfl) rfl rfl ?_
  refine r_iload C (j := 4) (oDec_at oX1_hear 2 rfl) rfl ?_
  refine r_callVv C oCl1 rfl miX1_begin mlX1_34 (ct9_X1_begin l E (s) a3 a4 (by omega) (by omega)) (by decide) rfl rfl rfl (Nat.le_of_ble_eq_true rfl) (oDec_at oX1_hear 3 rfl) (fun u98 pu98 fu98 => ?_)
  try dsimp only at pu98
  obtain ⟨pu98_0, pu98_1, pu98_2⟩ := pu98
  have hvs9 : owVR (u98) := pu98_0
  have hvs1 := hvs9.1.2
  have hvs2 := hvs9.2.2
  refine r_aload_n C (j := 0) (oDec_at oX1_hear 4 rfl) rfl rfl ?_
  refine r_getF (k := 4) (b := 40) C oCl1 rfl (by decide) flX1_27 rfl rfl rfl (oDec_at oX1_hear 5 rfl) ?_
  refine r_pc C 11 rfl ?_
  obtain ⟨v100, ev100⟩ : ∃ z : Int32, (u98).1 40 0 = z := ⟨_, rfl⟩
  have gv100 : (u98.1 40 0).toInt = v100.toInt := congrArg Int32.toInt (ev100)
  have rv100 := n_rng v100
  refine r_getiN (k := 0) (lo := (-2147483648)) (hi := 2147483647) C v100 oCl9 rfl (by decide) flX1_38 rfl rfl (ev100) rfl rfl (oDec_at oX1_hear 6 rfl) (fun _ _ => ?_)
  refine r_aload_n C (j := 0) (oDec_at oX1_hear 7 rfl) rfl rfl ?_
  refine r_getF (k := 5) (b := 41) C oCl1 rfl (by decide) flX1_31 rfl rfl rfl (oDec_at oX1_hear 8 rfl) ?_
  obtain ⟨v101, ev101⟩ : ∃ z : Int32, (u98).1 41 0 = z := ⟨_, rfl⟩
  have gv101 : (u98.1 41 0).toInt = v101.toInt := congrArg Int32.toInt (ev101)
  have rv101 := n_rng v101
  refine r_getiN (k := 0) (lo := (-2147483648)) (hi := 2147483647) C v101 oCl9 rfl (by decide) flX1_38 rfl rfl (ev101) rfl rfl (oDec_at oX1_hear 9 rfl) (fun _ _ => ?_)
  refine r_callSi C miJ9_max_7cf53 mlX1_42 (ct_J9_max_7cf53 l E (u98) v100 v101 ) (by decide) rfl rfl rfl (Nat.le_of_ble_eq_true rfl) (oDec_at oX1_hear 10 rfl) (fun r103 u102 pu102 fu102 => ?_)
  try dsimp only at pu102
  have hxu102 := oFr_nil fu102; subst hxu102
  have rr103 := n_rng r103
  refine r_istore C (lv' := [(0, .ref (oad E 35)), (1, .ref (oad E c1)), (2, .int a2), (3, .int a3), (4, .int a4), (5, .int r103)]) [1, 2, 3, 4, 5, 0] (oDec_at oX1_hear 11 rfl) (by decide) rfl ?_
  refine r_pc C 26 rfl ?_
  refine r_aload_n C (j := 0) (oDec_at oX1_hear 12 rfl) rfl rfl ?_
  refine r_getF (k := 4) (b := 40) C oCl1 rfl (by decide) flX1_27 rfl rfl rfl (oDec_at oX1_hear 13 rfl) ?_
  refine r_aload_n C (j := 1) (oDec_at oX1_hear 14 rfl) rfl rfl ?_
  refine r_callVi C oCl9 rfl miX9_stop mlX1_48 (ct_X9_stop l E (u98) 40 rfl c1 hk1 ) (by decide) rfl rfl rfl (Nat.le_of_ble_eq_true rfl) (oDec_at oX1_hear 15 rfl) (fun r105 u104 pu104 fu104 => ?_)
  try dsimp only at pu104
  have hxu104 := oFr_nil fu104; subst hxu104
  have rr105 := n_rng r105
  refine r_aload_n C (j := 0) (oDec_at oX1_hear 16 rfl) rfl rfl ?_
  refine r_getF (k := 5) (b := 41) C oCl1 rfl (by decide) flX1_31 rfl rfl rfl (oDec_at oX1_hear 17 rfl) ?_
  refine r_pc C 38 rfl ?_
  refine r_aload_n C (j := 1) (oDec_at oX1_hear 18 rfl) rfl rfl ?_
  refine r_callVi C oCl9 rfl miX9_stop mlX1_48 (ct_X9_stop l E (u98) 41 rfl c1 hk1 ) (by decide) rfl rfl rfl (Nat.le_of_ble_eq_true rfl) (oDec_at oX1_hear 19 rfl) (fun r107 u106 pu106 fu106 => ?_)
  try dsimp only at pu106
  have hxu106 := oFr_nil fu106; subst hxu106
  have rr107 := n_rng r107
  refine r_callSi C miJ9_min_7cf53 mlX1_52 (ct_J9_min_7cf53 l E (u98) r105 r107 ) (by decide) rfl rfl rfl (Nat.le_of_ble_eq_true rfl) (oDec_at oX1_hear 20 rfl) (fun r109 u108 pu108 fu108 => ?_)
  try dsimp only at pu108
  have hxu108 := oFr_nil fu108; subst hxu108
  have rr109 := n_rng r109
  refine r_istore C (lv' := [(0, .ref (oad E 35)), (1, .ref (oad E c1)), (2, .int a2), (3, .int a3), (4, .int a4), (5, .int r103), (6, .int r109)]) [1, 2, 3, 4, 5, 6, 0] (oDec_at oX1_hear 21 rfl) (by decide) rfl ?_
  refine r_aload_n C (j := 0) (oDec_at oX1_hear 22 rfl) rfl rfl ?_
  refine r_getF (k := 4) (b := 40) C oCl1 rfl (by decide) flX1_27 rfl rfl rfl (oDec_at oX1_hear 23 rfl) ?_
  refine r_pc C 51 rfl ?_
  refine r_aload_n C (j := 1) (oDec_at oX1_hear 24 rfl) rfl rfl ?_
  refine r_iload C (j := 5) (oDec_at oX1_hear 25 rfl) rfl ?_
  refine r_iconst C (oDec_at oX1_hear 26 rfl) (v := k1) (by rw [qk1]; rfl) ?_
  obtain ⟨v110, ev110⟩ : ∃ z : Int32, z = r103 - k1 := ⟨_, rfl⟩
  have rv110 := n_rng v110
  refine r_isub C v110 (oDec_at oX1_hear 27 rfl) ev110 ?_
  refine r_callVi C oCl9 rfl miX9_number mlX1_55 (ct_X9_number l E (u98) 40 rfl c1 hk1 v110 ) (by decide) rfl rfl rfl (Nat.le_of_ble_eq_true rfl) (oDec_at oX1_hear 28 rfl) (fun r112 u111 pu111 fu111 => ?_)
  try dsimp only at pu111
  have hxu111 := oFr_nil fu111; subst hxu111
  have rr112 := n_rng r112
  refine r_istore C (lv' := [(0, .ref (oad E 35)), (1, .ref (oad E c1)), (2, .int a2), (3, .int a3), (4, .int a4), (5, .int r103), (6, .int r109), (7, .int r112)]) [1, 2, 3, 4, 5, 6, 7, 0] (oDec_at oX1_hear 29 rfl) (by decide) rfl ?_
  refine r_pc C 61 rfl ?_
  refine r_aload_n C (j := 0) (oDec_at oX1_hear 30 rfl) rfl rfl ?_
  refine r_getF (k := 5) (b := 41) C oCl1 rfl (by decide) flX1_31 rfl rfl rfl (oDec_at oX1_hear 31 rfl) ?_
  refine r_aload_n C (j := 1) (oDec_at oX1_hear 32 rfl) rfl rfl ?_
  refine r_iload C (j := 5) (oDec_at oX1_hear 33 rfl) rfl ?_
  refine r_iconst C (oDec_at oX1_hear 34 rfl) (v := k1) (by rw [qk1]; rfl) ?_
  obtain ⟨v113, ev113⟩ : ∃ z : Int32, z = r103 - k1 := ⟨_, rfl⟩
  have rv113 := n_rng v113
  refine r_isub C v113 (oDec_at oX1_hear 35 rfl) ev113 ?_
  refine r_pc C 70 rfl ?_
  refine r_callVi C oCl9 rfl miX9_number mlX1_55 (ct_X9_number l E (u98) 41 rfl c1 hk1 v113 ) (by decide) rfl rfl rfl (Nat.le_of_ble_eq_true rfl) (oDec_at oX1_hear 36 rfl) (fun r115 u114 pu114 fu114 => ?_)
  try dsimp only at pu114
  have hxu114 := oFr_nil fu114; subst hxu114
  have rr115 := n_rng r115
  refine r_istore C (lv' := [(0, .ref (oad E 35)), (1, .ref (oad E c1)), (2, .int a2), (3, .int a3), (4, .int a4), (5, .int r103), (6, .int r109), (7, .int r112), (8, .int r115)]) [1, 2, 3, 4, 5, 6, 7, 8, 0] (oDec_at oX1_hear 37 rfl) (by decide) rfl ?_
  refine r_aload_n C (j := 0) (oDec_at oX1_hear 38 rfl) rfl rfl ?_
  refine r_getF (k := 4) (b := 40) C oCl1 rfl (by decide) flX1_27 rfl rfl rfl (oDec_at oX1_hear 39 rfl) ?_
  refine r_aload_n C (j := 1) (oDec_at oX1_hear 40 rfl) rfl rfl ?_
  refine r_iload C (j := 5) (oDec_at oX1_hear 41 rfl) rfl ?_
  refine r_pc C 82 rfl ?_
  refine r_callVi C oCl9 rfl miX9_number mlX1_55 (ct_X9_number l E (u98) 40 rfl c1 hk1 r103 ) (by decide) rfl rfl rfl (Nat.le_of_ble_eq_true rfl) (oDec_at oX1_hear 42 rfl) (fun r117 u116 pu116 fu116 => ?_)
  try dsimp only at pu116
  have hxu116 := oFr_nil fu116; subst hxu116
  have rr117 := n_rng r117
  refine r_istore C (lv' := [(0, .ref (oad E 35)), (1, .ref (oad E c1)), (2, .int a2), (3, .int a3), (4, .int a4), (5, .int r103), (6, .int r109), (7, .int r112), (8, .int r115), (9, .int r117)]) [1, 2, 3, 4, 5, 6, 7, 8, 9, 0] (oDec_at oX1_hear 43 rfl) (by decide) rfl ?_
  refine r_aload_n C (j := 0) (oDec_at oX1_hear 44 rfl) rfl rfl ?_
  refine r_getF (k := 5) (b := 41) C oCl1 rfl (by decide) flX1_31 rfl rfl rfl (oDec_at oX1_hear 45 rfl) ?_
  refine r_aload_n C (j := 1) (oDec_at oX1_hear 46 rfl) rfl rfl ?_
  refine r_iload C (j := 5) (oDec_at oX1_hear 47 rfl) rfl ?_
  refine r_pc C 94 rfl ?_
  refine r_callVi C oCl9 rfl miX9_number mlX1_55 (ct_X9_number l E (u98) 41 rfl c1 hk1 r103 ) (by decide) rfl rfl rfl (Nat.le_of_ble_eq_true rfl) (oDec_at oX1_hear 48 rfl) (fun r119 u118 pu118 fu118 => ?_)
  try dsimp only at pu118
  have hxu118 := oFr_nil fu118; subst hxu118
  have rr119 := n_rng r119
  refine r_istore C (lv' := [(0, .ref (oad E 35)), (1, .ref (oad E c1)), (2, .int a2), (3, .int a3), (4, .int a4), (5, .int r103), (6, .int r109), (7, .int r112), (8, .int r115), (9, .int r117), (10, .int r119)]) [1, 2, 3, 4, 5, 6, 7, 8, 9, 10, 0] (oDec_at oX1_hear 49 rfl) (by decide) rfl ?_
  refine r_iload C (j := 5) (oDec_at oX1_hear 50 rfl) rfl ?_
  refine r_istore C (lv' := [(0, .ref (oad E 35)), (1, .ref (oad E c1)), (2, .int a2), (3, .int a3), (4, .int a4), (5, .int r103), (6, .int r109), (7, .int r112), (8, .int r115), (9, .int r117), (10, .int r119), (11, .int r103)]) [1, 2, 3, 4, 5, 6, 7, 8, 9, 10, 11, 0] (oDec_at oX1_hear 51 rfl) (by decide) rfl ?_
  refine r_pick C [0, 1, 2, 6, 7, 8, 9, 10, 11] rfl ?_
  exact (key (r109.toInt - r103.toInt + 4294967296).toNat) (u98) r109 r112 r115 r117 r119 r103  (owLN_fr fu98 rfl hp0) (owDN_fr fu98 rfl hp1) pu98_0 (by omega) (by omega)
set_option maxHeartbeats 4000000 in
set_option maxRecDepth 100000 in
theorem ct9_X1_hearRound (l : Launch) (E : oE) (s : oS) (c1 : Nat) (hk1 : okd c1 = 4) (a2 : Int32) (a3 : Int32)  (hp0 : owLN s) (hp1 : owDN s) (hp2 : 2 ≤ a2.toInt ∧ a2.toInt ≤ 12) (hp3 : -1 ≤ a3.toInt ∧ a3.toInt ≤ 4499) : oMet l 5 yX1_hearRound cX1_hearRound 12 none [(1, 6), (1, 7), (1, 8), (9, 0), (9, 1), (9, 2), (9, 3), (9, 4), (28, 9999), (29, 9999), (30, 9999), (31, 9999)] E s [.ref (oad E 35), .ref (oad E c1), .int a2, .int a3] (oPv (fun u => (owDN u))) := by
  refine oMet.of (lv := [(0, .ref (oad E 35)), (1, .ref (oad E c1)), (2, .int a2), (3, .int a3)]) (by decide +kernel) (Nat.le_of_ble_eq_true rfl) rfl (fun J C hT => ?_)
  have C : oC l 5 cX1_hearRound RX1 12 none [(1, 6), (1, 7), (1, 8), (9, 0), (9, 1), (9, 2), (9, 3), (9, 4), (28, 9999), (29, 9999), (30, 9999), (31, 9999)] E s (oPv (fun u => (owDN u))) J := C
  obtain ⟨km1000000000, qkm1000000000⟩ : ∃ z : Int32, z = (-1000000000) := ⟨_, rfl⟩
  have ekm1000000000 : km1000000000.toInt = (-1000000000) := by rw [qkm1000000000]; rfl
  obtain ⟨k0, qk0⟩ : ∃ z : Int32, z = 0 := ⟨_, rfl⟩
  have ek0 : k0.toInt = 0 := by rw [qk0]; rfl
  obtain ⟨k1, qk1⟩ : ∃ z : Int32, z = 1 := ⟨_, rfl⟩
  have ek1 : k1.toInt = 1 := by rw [qk1]; rfl
  obtain ⟨k84, qk84⟩ : ∃ z : Int32, z = 84 := ⟨_, rfl⟩
  have ek84 : k84.toInt = 84 := by rw [qk84]; rfl
  have rg2 := n_rng a2
  have rg3 := n_rng a3
  have key : ∀ n : Nat, (∀ (t : oS) (x4 : Int32) (x5 : Int32), (1 ≤ x4.toInt ∧ x4.toInt ≤ 96) → (owLN t) → (owDN t) → (owVR t) → (0 ≤ x5.toInt) → 2147483648 - x5.toInt ≤ (n : Int) → J t 28 [(0, .ref (oad E 35)), (1, .ref (oad E c1)), (2, .int a2), (4, .int x4), (5, .int x5)] []) := by
    intro n
    induction n using Nat.strongRecOn with
    | _ n ih =>
      skip
      · intro t x4 x5  iv0 iv1 iv2 iv3 iv4 hmu
        have rx4 := n_rng x4
        have rx5 := n_rng x5
        refine r_iload C (j := 4) (oDec_at oX1_hearRound 14 rfl) rfl ?_
        refine r_aload_n C (j := 0) (oDec_at oX1_hearRound 15 rfl) rfl rfl ?_
        refine r_getF (k := 5) (b := 41) C oCl1 rfl (by decide) flX1_31 rfl rfl rfl (oDec_at oX1_hearRound 16 rfl) ?_
        obtain ⟨v1, ev1⟩ : ∃ z : Int32, (t).1 41 0 = z := ⟨_, rfl⟩
        have gv1 : (t.1 41 0).toInt = v1.toInt := congrArg Int32.toInt (ev1)
        have rv1 := n_rng v1
        refine r_getiN (k := 0) (lo := (-2147483648)) (hi := 2147483647) C v1 oCl9 rfl (by decide) flX1_38 rfl rfl (ev1) rfl rfl (oDec_at oX1_hearRound 17 rfl) (fun _ _ => ?_)
        refine r_iload C (j := 3) (oDec_at oX1_hearRound 18 rfl) rfl ?_
        obtain ⟨v2, ev2⟩ : ∃ z : Int32, z = v1 + x4 := ⟨_, rfl⟩
        have rv2 := n_rng v2
        refine r_iadd C v2 (oDec_at oX1_hearRound 19 rfl) ev2 ?_
        refine r_pc C 40 rfl ?_
        refine r_icmp_ge C 217 (oDec_at oX1_hearRound 20 rfl) (by decide) (fun cd3 => ?_) (fun cd3 => ?_)
        · skip
          exact r_vret C (oDec_at oX1_hearRound 107 rfl) ⟨rfl, iv2⟩
        · skip
          refine r_iload C (j := 4) (oDec_at oX1_hearRound 21 rfl) rfl ?_
          refine r_aload_n C (j := 0) (oDec_at oX1_hearRound 22 rfl) rfl rfl ?_
          refine r_getF (k := 5) (b := 41) C oCl1 rfl (by decide) flX1_31 rfl rfl rfl (oDec_at oX1_hearRound 23 rfl) ?_
          refine r_getiN (k := 0) (lo := (-2147483648)) (hi := 2147483647) C v1 oCl9 rfl (by decide) flX1_38 rfl rfl (ev1) rfl rfl (oDec_at oX1_hearRound 24 rfl) (fun _ _ => ?_)
          obtain ⟨v4, ev4⟩ : ∃ z : Int32, z = x5 - v1 := ⟨_, rfl⟩
          have rv4 := n_rng v4
          refine r_isub C v4 (oDec_at oX1_hearRound 25 rfl) ev4 ?_
          refine r_istore C (lv' := [(0, .ref (oad E 35)), (1, .ref (oad E c1)), (2, .int a2), (4, .int x4), (5, .int x5), (6, .int v4)]) [1, 2, 3, 4, 5, 0] (oDec_at oX1_hearRound 26 rfl) (by decide) rfl ?_
          refine r_pc C 55 rfl ?_
          refine r_aload_n C (j := 0) (oDec_at oX1_hearRound 27 rfl) rfl rfl ?_
          refine r_getF (k := 4) (b := 40) C oCl1 rfl (by decide) flX1_27 rfl rfl rfl (oDec_at oX1_hearRound 28 rfl) ?_
          refine r_aload_n C (j := 1) (oDec_at oX1_hearRound 29 rfl) rfl rfl ?_
          refine r_iload C (j := 4) (oDec_at oX1_hearRound 30 rfl) rfl ?_
          refine r_iconst C (oDec_at oX1_hearRound 31 rfl) (v := k1) (by rw [qk1]; rfl) ?_
          obtain ⟨v5, ev5⟩ : ∃ z : Int32, z = x5 - k1 := ⟨_, rfl⟩
          have rv5 := n_rng v5
          refine r_isub C v5 (oDec_at oX1_hearRound 32 rfl) ev5 ?_
          refine r_pc C 64 rfl ?_
          refine r_iload C (j := 3) (oDec_at oX1_hearRound 33 rfl) rfl ?_
          refine r_callSi C miJ9_floorMod_7cf53 mlX1_94 (ct_J9_floorMod_7cf53 l E (t) v5 x4 (by omega)) (by decide) rfl rfl rfl (Nat.le_of_ble_eq_true rfl) (oDec_at oX1_hearRound 34 rfl) (fun r7 u6 pu6 fu6 => ?_)
          try dsimp only at pu6
          have hxu6 := oFr_nil fu6; subst hxu6
          have rr7 := n_rng r7
          refine r_callVi C oCl9 rfl miX9_turned mlX1_97 (ct_X9_turned l E (t) 40 rfl c1 hk1 r7 ) (by decide) rfl rfl rfl (Nat.le_of_ble_eq_true rfl) (oDec_at oX1_hearRound 35 rfl) (fun r9 u8 pu8 fu8 => ?_)
          try dsimp only at pu8
          have hxu8 := oFr_nil fu8; subst hxu8
          have rr9 := n_rng r9
          refine r_istore C (lv' := [(0, .ref (oad E 35)), (1, .ref (oad E c1)), (2, .int a2), (4, .int x4), (5, .int x5), (6, .int v4), (7, .int r9)]) [1, 2, 3, 4, 5, 6, 0] (oDec_at oX1_hearRound 36 rfl) (by decide) rfl ?_
          refine r_aload_n C (j := 0) (oDec_at oX1_hearRound 37 rfl) rfl rfl ?_
          refine r_getF (k := 4) (b := 40) C oCl1 rfl (by decide) flX1_27 rfl rfl rfl (oDec_at oX1_hearRound 38 rfl) ?_
          refine r_pc C 78 rfl ?_
          refine r_aload_n C (j := 1) (oDec_at oX1_hearRound 39 rfl) rfl rfl ?_
          refine r_iload C (j := 4) (oDec_at oX1_hearRound 40 rfl) rfl ?_
          refine r_iload C (j := 3) (oDec_at oX1_hearRound 41 rfl) rfl ?_
          refine r_callSi C miJ9_floorMod_7cf53 mlX1_94 (ct_J9_floorMod_7cf53 l E (t) x5 x4 (by omega)) (by decide) rfl rfl rfl (Nat.le_of_ble_eq_true rfl) (oDec_at oX1_hearRound 42 rfl) (fun r11 u10 pu10 fu10 => ?_)
          try dsimp only at pu10
          have hxu10 := oFr_nil fu10; subst hxu10
          have rr11 := n_rng r11
          refine r_callVi C oCl9 rfl miX9_turned mlX1_97 (ct_X9_turned l E (t) 40 rfl c1 hk1 r11 ) (by decide) rfl rfl rfl (Nat.le_of_ble_eq_true rfl) (oDec_at oX1_hearRound 43 rfl) (fun r13 u12 pu12 fu12 => ?_)
          try dsimp only at pu12
          have hxu12 := oFr_nil fu12; subst hxu12
          have rr13 := n_rng r13
          refine r_istore C (lv' := [(0, .ref (oad E 35)), (1, .ref (oad E c1)), (2, .int a2), (4, .int x4), (5, .int x5), (6, .int v4), (7, .int r9), (8, .int r13)]) [1, 2, 3, 4, 5, 6, 7, 0] (oDec_at oX1_hearRound 44 rfl) (by decide) rfl ?_
          refine r_pc C 91 rfl ?_
          refine r_aload_n C (j := 0) (oDec_at oX1_hearRound 45 rfl) rfl rfl ?_
          refine r_getF (k := 5) (b := 41) C oCl1 rfl (by decide) flX1_31 rfl rfl rfl (oDec_at oX1_hearRound 46 rfl) ?_
          refine r_aload_n C (j := 1) (oDec_at oX1_hearRound 47 rfl) rfl rfl ?_
          refine r_iload C (j := 5) (oDec_at oX1_hearRound 48 rfl) rfl ?_
          refine r_iconst C (oDec_at oX1_hearRound 49 rfl) (v := k1) (by rw [qk1]; rfl) ?_
          obtain ⟨v14, ev14⟩ : ∃ z : Int32, z = v4 - k1 := ⟨_, rfl⟩
          have rv14 := n_rng v14
          refine r_isub C v14 (oDec_at oX1_hearRound 50 rfl) ev14 ?_
          refine r_pc C 100 rfl ?_
          refine r_iload C (j := 3) (oDec_at oX1_hearRound 51 rfl) rfl ?_
          refine r_callSi C miJ9_floorMod_7cf53 mlX1_94 (ct_J9_floorMod_7cf53 l E (t) v14 x4 (by omega)) (by decide) rfl rfl rfl (Nat.le_of_ble_eq_true rfl) (oDec_at oX1_hearRound 52 rfl) (fun r16 u15 pu15 fu15 => ?_)
          try dsimp only at pu15
          have hxu15 := oFr_nil fu15; subst hxu15
          have rr16 := n_rng r16
          refine r_callVi C oCl9 rfl miX9_turned mlX1_97 (ct_X9_turned l E (t) 41 rfl c1 hk1 r16 ) (by decide) rfl rfl rfl (Nat.le_of_ble_eq_true rfl) (oDec_at oX1_hearRound 53 rfl) (fun r18 u17 pu17 fu17 => ?_)
          try dsimp only at pu17
          have hxu17 := oFr_nil fu17; subst hxu17
          have rr18 := n_rng r18
          refine r_istore C (lv' := [(0, .ref (oad E 35)), (1, .ref (oad E c1)), (2, .int a2), (4, .int x4), (5, .int x5), (6, .int v4), (7, .int r9), (8, .int r13), (9, .int r18)]) [1, 2, 3, 4, 5, 6, 7, 8, 0] (oDec_at oX1_hearRound 54 rfl) (by decide) rfl ?_
          refine r_aload_n C (j := 0) (oDec_at oX1_hearRound 55 rfl) rfl rfl ?_
          refine r_getF (k := 5) (b := 41) C oCl1 rfl (by decide) flX1_31 rfl rfl rfl (oDec_at oX1_hearRound 56 rfl) ?_
          refine r_pc C 114 rfl ?_
          refine r_aload_n C (j := 1) (oDec_at oX1_hearRound 57 rfl) rfl rfl ?_
          refine r_iload C (j := 5) (oDec_at oX1_hearRound 58 rfl) rfl ?_
          refine r_iload C (j := 3) (oDec_at oX1_hearRound 59 rfl) rfl ?_
          refine r_callSi C miJ9_floorMod_7cf53 mlX1_94 (ct_J9_floorMod_7cf53 l E (t) v4 x4 (by omega)) (by decide) rfl rfl rfl (Nat.le_of_ble_eq_true rfl) (oDec_at oX1_hearRound 60 rfl) (fun r20 u19 pu19 fu19 => ?_)
          try dsimp only at pu19
          have hxu19 := oFr_nil fu19; subst hxu19
          have rr20 := n_rng r20
          refine r_callVi C oCl9 rfl miX9_turned mlX1_97 (ct_X9_turned l E (t) 41 rfl c1 hk1 r20 ) (by decide) rfl rfl rfl (Nat.le_of_ble_eq_true rfl) (oDec_at oX1_hearRound 61 rfl) (fun r22 u21 pu21 fu21 => ?_)
          try dsimp only at pu21
          have hxu21 := oFr_nil fu21; subst hxu21
          have rr22 := n_rng r22
          refine r_istore C (lv' := [(0, .ref (oad E 35)), (1, .ref (oad E c1)), (2, .int a2), (4, .int x4), (5, .int x5), (6, .int v4), (7, .int r9), (8, .int r13), (9, .int r18), (10, .int r22)]) [1, 2, 3, 4, 5, 6, 7, 8, 9, 0] (oDec_at oX1_hearRound 62 rfl) (by decide) rfl ?_
          refine r_pc C 127 rfl ?_
          refine r_aload_n C (j := 0) (oDec_at oX1_hearRound 63 rfl) rfl rfl ?_
          refine r_aload_n C (j := 1) (oDec_at oX1_hearRound 64 rfl) rfl rfl ?_
          refine r_iload C (j := 7) (oDec_at oX1_hearRound 65 rfl) rfl ?_
          refine r_iload C (j := 9) (oDec_at oX1_hearRound 66 rfl) rfl ?_
          refine r_callVi C oCl1 rfl miX1_apartAt mlX1_59 (ct9_X1_apartAt l E (t) c1 hk1 r13 r22 iv1 iv3) (by decide) rfl rfl rfl (Nat.le_of_ble_eq_true rfl) (oDec_at oX1_hearRound 67 rfl) (fun r24 u23 pu23 fu23 => ?_)
          try dsimp only at pu23
          have hxu23 := oFr_nil fu23; subst hxu23
          have rr24 := n_rng r24
          have hap9 := pu23
          have hab9 := owAp_b (a := r13.toInt) (b := r22.toInt) (show owLN (t) from iv1) hk1 (show owVR (t) from iv3)
          have hq25 : owVL 40 c1 (owTn (t) 40 c1) (t) := ⟨rfl, hk1, fun _ => rfl⟩
          have hq26 : owVL 41 c1 (owTn (t) 41 c1) (t) := ⟨rfl, hk1, fun _ => rfl⟩
          refine r_istore C (lv' := [(0, .ref (oad E 35)), (1, .ref (oad E c1)), (2, .int a2), (4, .int x4), (5, .int x5), (6, .int v4), (7, .int r9), (8, .int r13), (9, .int r18), (10, .int r22), (11, .int r24)]) [1, 2, 3, 4, 5, 6, 7, 8, 9, 10, 0] (oDec_at oX1_hearRound 68 rfl) (by decide) rfl ?_
          refine r_pc C 138 rfl ?_
          refine r_iload C (j := 10) (oDec_at oX1_hearRound 69 rfl) rfl ?_
          refine r_ldc C (v := km1000000000) (by rw [qkm1000000000]; exact kcX1_63) (oDec_at oX1_hearRound 70 rfl) ?_
          refine r_icmp_eq C 211 (oDec_at oX1_hearRound 71 rfl) (by decide) (fun cd27 => ?_) (fun cd27 => ?_)
          · skip
            obtain ⟨v28, ev28⟩ : ∃ z : Int32, x5 + Int32.ofInt 1 = z := ⟨_, rfl⟩
            have hv28 : v28.toInt = x5.toInt + 1 := n_inc ev28 (by decide) (by omega) (by omega)
            refine r_iinc C (j := 4) (lv' := [(0, .ref (oad E 35)), (1, .ref (oad E c1)), (2, .int a2), (4, .int x4), (5, .int v28), (6, .int v4), (7, .int r9), (8, .int r13), (9, .int r18), (10, .int r22), (11, .int r24)]) v28 [1, 2, 3, 4, 0, 5, 6, 7, 8, 9, 10] (oDec_at oX1_hearRound 105 rfl) rfl ev28 (by decide) rfl ?_
            refine r_goto C (tgt := 28) (oDec_at oX1_hearRound 106 rfl) (by decide) ?_
            refine r_pick C [0, 1, 2, 3, 4] rfl ?_
            exact (ih (n - 1) (by omega)) (t) x4 v28  (by omega) iv1 iv2 iv3 (by omega) (by omega)
          · skip
            have hne9 : owTn (t) 40 c1 r13.toInt ≠ -1000000000 ∧ owTn (t) 41 c1 r22.toInt ≠ -1000000000 := owAp_ne (by omega)
            refine r_iload C (j := 7) (oDec_at oX1_hearRound 72 rfl) rfl ?_
            refine r_iload C (j := 6) (oDec_at oX1_hearRound 73 rfl) rfl ?_
            refine r_icmp_ne C 159 (oDec_at oX1_hearRound 74 rfl) (by decide) (fun cd29 => ?_) (fun cd29 => ?_)
            · skip
              refine r_aload_n C (j := 0) (oDec_at oX1_hearRound 78 rfl) rfl rfl ?_
              refine r_iload C (j := 4) (oDec_at oX1_hearRound 79 rfl) rfl ?_
              refine r_iload C (j := 10) (oDec_at oX1_hearRound 80 rfl) rfl ?_
              refine r_aload_n C (j := 0) (oDec_at oX1_hearRound 81 rfl) rfl rfl ?_
              refine r_aload_n C (j := 1) (oDec_at oX1_hearRound 82 rfl) rfl rfl ?_
              refine r_iload C (j := 6) (oDec_at oX1_hearRound 83 rfl) rfl ?_
              refine r_pc C 168 rfl ?_
              refine r_iload C (j := 8) (oDec_at oX1_hearRound 84 rfl) rfl ?_
              refine r_callVi C oCl1 rfl miX1_apartAt mlX1_59 (ct9_X1_apartAt l E (t) c1 hk1 r9 r18 iv1 iv3) (by decide) rfl rfl rfl (Nat.le_of_ble_eq_true rfl) (oDec_at oX1_hearRound 85 rfl) (fun r31 u30 pu30 fu30 => ?_)
              try dsimp only at pu30
              have hxu30 := oFr_nil fu30; subst hxu30
              have rr31 := n_rng r31
              have hlp9 := pu30
              have hlb9 := owAp_b (a := r9.toInt) (b := r18.toInt) (show owLN (t) from iv1) hk1 (show owVR (t) from iv3)
              refine r_callVv C oCl1 rfl miX1_mark mlX1_74 (ct9_X1_mark l E (t) x5 r24 r31 iv2 (by omega) (by omega)) (by decide) rfl rfl rfl (Nat.le_of_ble_eq_true rfl) (oDec_at oX1_hearRound 86 rfl) (fun u32 pu32 fu32 => ?_)
              try dsimp only at pu32
              obtain ⟨pu32_0, pu32_1⟩ := pu32
              have hvr9 : owVR (u32) := (owVR_fr fu32 rfl iv3)
              have hv40 := hvr9.1.1
              have hv41 := hvr9.2.1
              refine r_aload_n C (j := 0) (oDec_at oX1_hearRound 87 rfl) rfl rfl ?_
              refine r_iload C (j := 4) (oDec_at oX1_hearRound 88 rfl) rfl ?_
              refine r_iload_n C (j := 2) (oDec_at oX1_hearRound 89 rfl) rfl rfl ?_
              refine r_pc C 180 rfl ?_
              refine r_callSi C miX1_beatOf mlX1_78 (ct9_X1_beatOf l E (u32) x5 a2 (by omega) (by omega)) (by decide) rfl rfl rfl (Nat.le_of_ble_eq_true rfl) (oDec_at oX1_hearRound 90 rfl) (fun r35 u34 pu34 fu34 => ?_)
              try dsimp only at pu34
              obtain ⟨pu34_0, pu34_1⟩ := pu34
              have hxu34 := oFr_nil fu34; subst hxu34
              have rr35 := n_rng r35
              refine r_aload_n C (j := 0) (oDec_at oX1_hearRound 91 rfl) rfl rfl ?_
              refine r_getF (k := 4) (b := 40) C oCl1 rfl (by decide) flX1_27 rfl rfl rfl (oDec_at oX1_hearRound 92 rfl) ?_
              refine r_aload_n C (j := 1) (oDec_at oX1_hearRound 93 rfl) rfl rfl ?_
              refine r_iload C (j := 6) (oDec_at oX1_hearRound 94 rfl) rfl ?_
              refine r_iload C (j := 7) (oDec_at oX1_hearRound 95 rfl) rfl ?_
              refine r_pc C 192 rfl ?_
              have lk36 : ((u32).1 40 1).toInt = (t.1 40 1).toInt := congrArg Int32.toInt ((fu32 40 1 rfl).1)
              refine r_callSi C miX1_rise mlX1_81 (ct9_X1_rise l E (u32) 40 rfl c1 hk1 r9 r13 (owLN_fr fu32 rfl iv1) hv40 (by rw [(show owVL 40 c1 (owTn (t) 40 c1) (u32) from (owVL_fr fu32 rfl hq25)).2.2 _]; exact hne9.1)) (by decide) rfl rfl rfl (Nat.le_of_ble_eq_true rfl) (oDec_at oX1_hearRound 96 rfl) (fun r38 u37 pu37 fu37 => ?_)
              try dsimp only at pu37
              try simp only [lk36] at pu37
              obtain ⟨pu37_0, pu37_1⟩ := pu37
              have hxu37 := oFr_nil fu37; subst hxu37
              have rr38 := n_rng r38
              refine r_aload_n C (j := 0) (oDec_at oX1_hearRound 97 rfl) rfl rfl ?_
              refine r_getF (k := 5) (b := 41) C oCl1 rfl (by decide) flX1_31 rfl rfl rfl (oDec_at oX1_hearRound 98 rfl) ?_
              refine r_aload_n C (j := 1) (oDec_at oX1_hearRound 99 rfl) rfl rfl ?_
              refine r_iload C (j := 8) (oDec_at oX1_hearRound 100 rfl) rfl ?_
              refine r_iload C (j := 9) (oDec_at oX1_hearRound 101 rfl) rfl ?_
              refine r_pc C 204 rfl ?_
              have lk39 : ((u32).1 41 1).toInt = (t.1 41 1).toInt := congrArg Int32.toInt ((fu32 41 1 rfl).1)
              refine r_callSi C miX1_rise mlX1_81 (ct9_X1_rise l E (u32) 41 rfl c1 hk1 r18 r22 (owLN_fr fu32 rfl iv1) hv41 (by rw [(show owVL 41 c1 (owTn (t) 41 c1) (u32) from (owVL_fr fu32 rfl hq26)).2.2 _]; exact hne9.2)) (by decide) rfl rfl rfl (Nat.le_of_ble_eq_true rfl) (oDec_at oX1_hearRound 102 rfl) (fun r41 u40 pu40 fu40 => ?_)
              try dsimp only at pu40
              try simp only [lk39] at pu40
              obtain ⟨pu40_0, pu40_1⟩ := pu40
              have hxu40 := oFr_nil fu40; subst hxu40
              have rr41 := n_rng r41
              refine r_iconst C (oDec_at oX1_hearRound 103 rfl) (v := k0) (by rw [qk0]; rfl) ?_
              have lk42 : ((u32).1 35 6).toInt = (t.1 35 6).toInt := congrArg Int32.toInt ((fu32 35 6 rfl).1)
              refine r_callVv C oCl1 rfl miX1_moved mlX1_85 (ct9_X1_moved l E (u32) r35 r38 r41 k0 pu32_0 (by omega) (by omega) (by omega) (by omega)) (by decide) rfl rfl rfl (Nat.le_of_ble_eq_true rfl) (oDec_at oX1_hearRound 104 rfl) (fun u43 pu43 fu43 => ?_)
              try dsimp only at pu43
              try simp only [lk42] at pu43
              obtain ⟨pu43_0, pu43_1⟩ := pu43
              obtain ⟨v45, ev45⟩ : ∃ z : Int32, x5 + Int32.ofInt 1 = z := ⟨_, rfl⟩
              have hv45 : v45.toInt = x5.toInt + 1 := n_inc ev45 (by decide) (by omega) (by omega)
              refine r_iinc C (j := 4) (lv' := [(0, .ref (oad E 35)), (1, .ref (oad E c1)), (2, .int a2), (4, .int x4), (5, .int v45), (6, .int v4), (7, .int r9), (8, .int r13), (9, .int r18), (10, .int r22), (11, .int r24)]) v45 [1, 2, 3, 4, 0, 5, 6, 7, 8, 9, 10] (oDec_at oX1_hearRound 105 rfl) rfl ev45 (by decide) rfl ?_
              refine r_goto C (tgt := 28) (oDec_at oX1_hearRound 106 rfl) (by decide) ?_
              refine r_pick C [0, 1, 2, 3, 4] rfl ?_
              exact (ih (n - 1) (by omega)) (u43) x4 v45  (by omega) (owLN_fr fu43 rfl (owLN_fr fu32 rfl iv1)) pu43_0 (owVR_fr fu43 rfl (owVR_fr fu32 rfl iv3)) (by omega) (by omega)
            · skip
              refine r_iload C (j := 9) (oDec_at oX1_hearRound 75 rfl) rfl ?_
              refine r_iload C (j := 8) (oDec_at oX1_hearRound 76 rfl) rfl ?_
              refine r_icmp_eq C 211 (oDec_at oX1_hearRound 77 rfl) (by decide) (fun cd46 => ?_) (fun cd46 => ?_)
              · skip
                obtain ⟨v47, ev47⟩ : ∃ z : Int32, x5 + Int32.ofInt 1 = z := ⟨_, rfl⟩
                have hv47 : v47.toInt = x5.toInt + 1 := n_inc ev47 (by decide) (by omega) (by omega)
                refine r_iinc C (j := 4) (lv' := [(0, .ref (oad E 35)), (1, .ref (oad E c1)), (2, .int a2), (4, .int x4), (5, .int v47), (6, .int v4), (7, .int r9), (8, .int r13), (9, .int r18), (10, .int r22), (11, .int r24)]) v47 [1, 2, 3, 4, 0, 5, 6, 7, 8, 9, 10] (oDec_at oX1_hearRound 105 rfl) rfl ev47 (by decide) rfl ?_
                refine r_goto C (tgt := 28) (oDec_at oX1_hearRound 106 rfl) (by decide) ?_
                refine r_pick C [0, 1, 2, 3, 4] rfl ?_
                exact (ih (n - 1) (by omega)) (t) x4 v47  (by omega) iv1 iv2 iv3 (by omega) (by omega)
              · skip
                refine r_aload_n C (j := 0) (oDec_at oX1_hearRound 78 rfl) rfl rfl ?_
                refine r_iload C (j := 4) (oDec_at oX1_hearRound 79 rfl) rfl ?_
                refine r_iload C (j := 10) (oDec_at oX1_hearRound 80 rfl) rfl ?_
                refine r_aload_n C (j := 0) (oDec_at oX1_hearRound 81 rfl) rfl rfl ?_
                refine r_aload_n C (j := 1) (oDec_at oX1_hearRound 82 rfl) rfl rfl ?_
                refine r_iload C (j := 6) (oDec_at oX1_hearRound 83 rfl) rfl ?_
                refine r_pc C 168 rfl ?_
                refine r_iload C (j := 8) (oDec_at oX1_hearRound 84 rfl) rfl ?_
                refine r_callVi C oCl1 rfl miX1_apartAt mlX1_59 (ct9_X1_apartAt l E (t) c1 hk1 r9 r18 iv1 iv3) (by decide) rfl rfl rfl (Nat.le_of_ble_eq_true rfl) (oDec_at oX1_hearRound 85 rfl) (fun r49 u48 pu48 fu48 => ?_)
                try dsimp only at pu48
                have hxu48 := oFr_nil fu48; subst hxu48
                have rr49 := n_rng r49
                have hlp9 := pu48
                have hlb9 := owAp_b (a := r9.toInt) (b := r18.toInt) (show owLN (t) from iv1) hk1 (show owVR (t) from iv3)
                refine r_callVv C oCl1 rfl miX1_mark mlX1_74 (ct9_X1_mark l E (t) x5 r24 r49 iv2 (by omega) (by omega)) (by decide) rfl rfl rfl (Nat.le_of_ble_eq_true rfl) (oDec_at oX1_hearRound 86 rfl) (fun u50 pu50 fu50 => ?_)
                try dsimp only at pu50
                obtain ⟨pu50_0, pu50_1⟩ := pu50
                have hvr9 : owVR (u50) := (owVR_fr fu50 rfl iv3)
                have hv40 := hvr9.1.1
                have hv41 := hvr9.2.1
                refine r_aload_n C (j := 0) (oDec_at oX1_hearRound 87 rfl) rfl rfl ?_
                refine r_iload C (j := 4) (oDec_at oX1_hearRound 88 rfl) rfl ?_
                refine r_iload_n C (j := 2) (oDec_at oX1_hearRound 89 rfl) rfl rfl ?_
                refine r_pc C 180 rfl ?_
                refine r_callSi C miX1_beatOf mlX1_78 (ct9_X1_beatOf l E (u50) x5 a2 (by omega) (by omega)) (by decide) rfl rfl rfl (Nat.le_of_ble_eq_true rfl) (oDec_at oX1_hearRound 90 rfl) (fun r53 u52 pu52 fu52 => ?_)
                try dsimp only at pu52
                obtain ⟨pu52_0, pu52_1⟩ := pu52
                have hxu52 := oFr_nil fu52; subst hxu52
                have rr53 := n_rng r53
                refine r_aload_n C (j := 0) (oDec_at oX1_hearRound 91 rfl) rfl rfl ?_
                refine r_getF (k := 4) (b := 40) C oCl1 rfl (by decide) flX1_27 rfl rfl rfl (oDec_at oX1_hearRound 92 rfl) ?_
                refine r_aload_n C (j := 1) (oDec_at oX1_hearRound 93 rfl) rfl rfl ?_
                refine r_iload C (j := 6) (oDec_at oX1_hearRound 94 rfl) rfl ?_
                refine r_iload C (j := 7) (oDec_at oX1_hearRound 95 rfl) rfl ?_
                refine r_pc C 192 rfl ?_
                have lk54 : ((u50).1 40 1).toInt = (t.1 40 1).toInt := congrArg Int32.toInt ((fu50 40 1 rfl).1)
                refine r_callSi C miX1_rise mlX1_81 (ct9_X1_rise l E (u50) 40 rfl c1 hk1 r9 r13 (owLN_fr fu50 rfl iv1) hv40 (by rw [(show owVL 40 c1 (owTn (t) 40 c1) (u50) from (owVL_fr fu50 rfl hq25)).2.2 _]; exact hne9.1)) (by decide) rfl rfl rfl (Nat.le_of_ble_eq_true rfl) (oDec_at oX1_hearRound 96 rfl) (fun r56 u55 pu55 fu55 => ?_)
                try dsimp only at pu55
                try simp only [lk54] at pu55
                obtain ⟨pu55_0, pu55_1⟩ := pu55
                have hxu55 := oFr_nil fu55; subst hxu55
                have rr56 := n_rng r56
                refine r_aload_n C (j := 0) (oDec_at oX1_hearRound 97 rfl) rfl rfl ?_
                refine r_getF (k := 5) (b := 41) C oCl1 rfl (by decide) flX1_31 rfl rfl rfl (oDec_at oX1_hearRound 98 rfl) ?_
                refine r_aload_n C (j := 1) (oDec_at oX1_hearRound 99 rfl) rfl rfl ?_
                refine r_iload C (j := 8) (oDec_at oX1_hearRound 100 rfl) rfl ?_
                refine r_iload C (j := 9) (oDec_at oX1_hearRound 101 rfl) rfl ?_
                refine r_pc C 204 rfl ?_
                have lk57 : ((u50).1 41 1).toInt = (t.1 41 1).toInt := congrArg Int32.toInt ((fu50 41 1 rfl).1)
                refine r_callSi C miX1_rise mlX1_81 (ct9_X1_rise l E (u50) 41 rfl c1 hk1 r18 r22 (owLN_fr fu50 rfl iv1) hv41 (by rw [(show owVL 41 c1 (owTn (t) 41 c1) (u50) from (owVL_fr fu50 rfl hq26)).2.2 _]; exact hne9.2)) (by decide) rfl rfl rfl (Nat.le_of_ble_eq_true rfl) (oDec_at oX1_hearRound 102 rfl) (fun r59 u58 pu58 fu58 => ?_)
                try dsimp only at pu58
                try simp only [lk57] at pu58
                obtain ⟨pu58_0, pu58_1⟩ := pu58
                have hxu58 := oFr_nil fu58; subst hxu58
                have rr59 := n_rng r59
                refine r_iconst C (oDec_at oX1_hearRound 103 rfl) (v := k0) (by rw [qk0]; rfl) ?_
                have lk60 : ((u50).1 35 6).toInt = (t.1 35 6).toInt := congrArg Int32.toInt ((fu50 35 6 rfl).1)
                refine r_callVv C oCl1 rfl miX1_moved mlX1_85 (ct9_X1_moved l E (u50) r53 r56 r59 k0 pu50_0 (by omega) (by omega) (by omega) (by omega)) (by decide) rfl rfl rfl (Nat.le_of_ble_eq_true rfl) (oDec_at oX1_hearRound 104 rfl) (fun u61 pu61 fu61 => ?_)
                try dsimp only at pu61
                try simp only [lk60] at pu61
                obtain ⟨pu61_0, pu61_1⟩ := pu61
                obtain ⟨v63, ev63⟩ : ∃ z : Int32, x5 + Int32.ofInt 1 = z := ⟨_, rfl⟩
                have hv63 : v63.toInt = x5.toInt + 1 := n_inc ev63 (by decide) (by omega) (by omega)
                refine r_iinc C (j := 4) (lv' := [(0, .ref (oad E 35)), (1, .ref (oad E c1)), (2, .int a2), (4, .int x4), (5, .int v63), (6, .int v4), (7, .int r9), (8, .int r13), (9, .int r18), (10, .int r22), (11, .int r24)]) v63 [1, 2, 3, 4, 0, 5, 6, 7, 8, 9, 10] (oDec_at oX1_hearRound 105 rfl) rfl ev63 (by decide) rfl ?_
                refine r_goto C (tgt := 28) (oDec_at oX1_hearRound 106 rfl) (by decide) ?_
                refine r_pick C [0, 1, 2, 3, 4] rfl ?_
                exact (ih (n - 1) (by omega)) (u61) x4 v63  (by omega) (owLN_fr fu61 rfl (owLN_fr fu50 rfl iv1)) pu61_0 (owVR_fr fu61 rfl (owVR_fr fu50 rfl iv3)) (by omega) (by omega)
  refine r_aload_n C (j := 0) (oDec_at oX1_hearRound 0 rfl) rfl rfl ?_
  refine r_bipush C (oDec_at oX1_hearRound 1 rfl) (v := k84) (by rw [qk84]; rfl) ?_
  refine r_iload_n C (j := 3) (oDec_at oX1_hearRound 2 rfl) rfl rfl ?_
  refine r_callVv C oCl1 rfl miX1_begin mlX1_34 (ct9_X1_begin l E (s) k84 a3 (by omega) (by omega)) (by decide) rfl rfl rfl (Nat.le_of_ble_eq_true rfl) (oDec_at oX1_hearRound 3 rfl) (fun u64 pu64 fu64 => ?_)
  try dsimp only at pu64
  obtain ⟨pu64_0, pu64_1, pu64_2⟩ := pu64
  have hvs9 : owVR (u64) := pu64_0
  have hvs1 := hvs9.1.2
  have hvs2 := hvs9.2.2
  refine r_aload_n C (j := 1) (oDec_at oX1_hearRound 4 rfl) rfl rfl ?_
  obtain ⟨v66, ev66⟩ : ∃ z : Int32, (u64).1 c1 5 = z := ⟨_, rfl⟩
  have gv66 : (s.1 c1 5).toInt = v66.toInt := congrArg Int32.toInt (((fu64 c1 5 (by rw [hk1]; rfl)).1).symm.trans ev66)
  have ggv66 : ((u64).1 c1 5).toInt = v66.toInt := congrArg Int32.toInt ev66
  refine r_getiN (k := 5) (lo := 0) (hi := 96) C v66 oCl4 hk1 (by decide) flX1_89 rfl rfl (ev66) rfl rfl (oDec_at oX1_hearRound 5 rfl) (fun b67 b67h => ?_)
  refine r_pc C 11 rfl ?_
  refine r_istore C (lv' := [(0, .ref (oad E 35)), (1, .ref (oad E c1)), (2, .int a2), (3, .int a3), (4, .int v66)]) [1, 2, 3, 4, 0] (oDec_at oX1_hearRound 6 rfl) (by decide) rfl ?_
  refine r_iload C (j := 4) (oDec_at oX1_hearRound 7 rfl) rfl ?_
  refine r_if_ne C 19 (oDec_at oX1_hearRound 8 rfl) (by decide) (fun cd68 => ?_) (fun cd68 => ?_)
  · skip
    refine r_aload_n C (j := 0) (oDec_at oX1_hearRound 10 rfl) rfl rfl ?_
    refine r_getF (k := 5) (b := 41) C oCl1 rfl (by decide) flX1_31 rfl rfl rfl (oDec_at oX1_hearRound 11 rfl) ?_
    obtain ⟨v69, ev69⟩ : ∃ z : Int32, (u64).1 41 0 = z := ⟨_, rfl⟩
    have gv69 : (u64.1 41 0).toInt = v69.toInt := congrArg Int32.toInt (ev69)
    have rv69 := n_rng v69
    refine r_getiN (k := 0) (lo := (-2147483648)) (hi := 2147483647) C v69 oCl9 rfl (by decide) flX1_38 rfl rfl (ev69) rfl rfl (oDec_at oX1_hearRound 12 rfl) (fun _ _ => ?_)
    refine r_istore C (lv' := [(0, .ref (oad E 35)), (1, .ref (oad E c1)), (2, .int a2), (3, .int a3), (4, .int v66), (5, .int v69)]) [1, 2, 3, 4, 5, 0] (oDec_at oX1_hearRound 13 rfl) (by decide) rfl ?_
    refine r_pick C [0, 1, 2, 4, 5] rfl ?_
    exact (key (2147483648 - v69.toInt).toNat) (u64) v66 v69  (by omega) (owLN_fr fu64 rfl hp0) (owDN_fr fu64 rfl hp1) pu64_0 (by omega) (by omega)
  · skip
    exact r_vret C (oDec_at oX1_hearRound 9 rfl) ⟨rfl, (owDN_fr fu64 rfl hp1)⟩
