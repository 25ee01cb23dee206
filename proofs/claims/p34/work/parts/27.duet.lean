set_option maxHeartbeats 4000000 in
set_option maxRecDepth 100000 in
theorem ct_X2_packMoves (l : Launch) (E : oE) (s : oS) (a0 : Int32) (a1 : Int32) (a2 : Int32) (a3 : Int32)  : oMet l 1 yX2_packMoves cX2_packMoves 4 (some .int) [] E s [.int a0, .int a1, .int a2, .int a3] (oPi (fun r u => True)) := by
  refine oMet.of (lv := [(0, .int a0), (1, .int a1), (2, .int a2), (3, .int a3)]) (by decide +kernel) (Nat.le_of_ble_eq_true rfl) rfl (fun J C hT => ?_)
  have C : oC l 1 cX2_packMoves RX2 4 (some .int) [] E s (oPi (fun r u => True)) J := C
  obtain ⟨k2, qk2⟩ : ∃ z : Int32, z = 2 := ⟨_, rfl⟩
  have ek2 : k2.toInt = 2 := by rw [qk2]; rfl
  obtain ⟨k32, qk32⟩ : ∃ z : Int32, z = 32 := ⟨_, rfl⟩
  have ek32 : k32.toInt = 32 := by rw [qk32]; rfl
  obtain ⟨k64, qk64⟩ : ∃ z : Int32, z = 64 := ⟨_, rfl⟩
  have ek64 : k64.toInt = 64 := by rw [qk64]; rfl
  have rg0 := n_rng a0
  have rg1 := n_rng a1
  have rg2 := n_rng a2
  have rg3 := n_rng a3
  refine r_iload_n C (j := 0) (oDec_at oX2_packMoves 0 rfl) rfl rfl ?_
  refine r_bipush C (oDec_at oX2_packMoves 1 rfl) (v := k64) (by rw [qk64]; rfl) ?_
  obtain ⟨v1, ev1⟩ : ∃ z : Int32, z = a0 * k64 := ⟨_, rfl⟩
  have rv1 := n_rng v1
  refine r_imul C v1 (oDec_at oX2_packMoves 2 rfl) ev1 ?_
  refine r_iload_n C (j := 1) (oDec_at oX2_packMoves 3 rfl) rfl rfl ?_
  obtain ⟨v2, ev2⟩ : ∃ z : Int32, z = v1 + a1 := ⟨_, rfl⟩
  have rv2 := n_rng v2
  refine r_iadd C v2 (oDec_at oX2_packMoves 4 rfl) ev2 ?_
  refine r_bipush C (oDec_at oX2_packMoves 5 rfl) (v := k32) (by rw [qk32]; rfl) ?_
  refine r_pc C 8 rfl ?_
  obtain ⟨v3, ev3⟩ : ∃ z : Int32, z = v2 + k32 := ⟨_, rfl⟩
  have rv3 := n_rng v3
  refine r_iadd C v3 (oDec_at oX2_packMoves 6 rfl) ev3 ?_
  refine r_bipush C (oDec_at oX2_packMoves 7 rfl) (v := k64) (by rw [qk64]; rfl) ?_
  obtain ⟨v4, ev4⟩ : ∃ z : Int32, z = v3 * k64 := ⟨_, rfl⟩
  have rv4 := n_rng v4
  refine r_imul C v4 (oDec_at oX2_packMoves 8 rfl) ev4 ?_
  refine r_iload_n C (j := 2) (oDec_at oX2_packMoves 9 rfl) rfl rfl ?_
  obtain ⟨v5, ev5⟩ : ∃ z : Int32, z = v4 + a2 := ⟨_, rfl⟩
  have rv5 := n_rng v5
  refine r_iadd C v5 (oDec_at oX2_packMoves 10 rfl) ev5 ?_
  refine r_bipush C (oDec_at oX2_packMoves 11 rfl) (v := k32) (by rw [qk32]; rfl) ?_
  refine r_pc C 16 rfl ?_
  obtain ⟨v6, ev6⟩ : ∃ z : Int32, z = v5 + k32 := ⟨_, rfl⟩
  have rv6 := n_rng v6
  refine r_iadd C v6 (oDec_at oX2_packMoves 12 rfl) ev6 ?_
  refine r_iconst C (oDec_at oX2_packMoves 13 rfl) (v := k2) (by rw [qk2]; rfl) ?_
  obtain ⟨v7, ev7⟩ : ∃ z : Int32, z = v6 * k2 := ⟨_, rfl⟩
  have rv7 := n_rng v7
  refine r_imul C v7 (oDec_at oX2_packMoves 14 rfl) ev7 ?_
  refine r_iload_n C (j := 3) (oDec_at oX2_packMoves 15 rfl) rfl rfl ?_
  obtain ⟨v8, ev8⟩ : ∃ z : Int32, z = v7 + a3 := ⟨_, rfl⟩
  have rv8 := n_rng v8
  refine r_iadd C v8 (oDec_at oX2_packMoves 16 rfl) ev8 ?_
  exact r_iret C (oDec_at oX2_packMoves 17 rfl) ⟨_, rfl, trivial⟩
set_option maxHeartbeats 4000000 in
set_option maxRecDepth 100000 in
theorem ct_X1_begin (l : Launch) (E : oE) (s : oS) (a1 : Int32) (a2 : Int32)  : oMet l 2 yX1_begin cX1_begin 4 none [(1, 6), (1, 7), (1, 8), (9, 0), (9, 1), (9, 2), (9, 3), (9, 4)] E s [.ref (oad E 35), .int a1, .int a2] (oPv (fun u => True)) := by
  refine oMet.of (lv := [(0, .ref (oad E 35)), (1, .int a1), (2, .int a2)]) (by decide +kernel) (Nat.le_of_ble_eq_true rfl) rfl (fun J C hT => ?_)
  have C : oC l 2 cX1_begin RX1 4 none [(1, 6), (1, 7), (1, 8), (9, 0), (9, 1), (9, 2), (9, 3), (9, 4)] E s (oPv (fun u => True)) J := C
  obtain ⟨k0, qk0⟩ : ∃ z : Int32, z = 0 := ⟨_, rfl⟩
  have ek0 : k0.toInt = 0 := by rw [qk0]; rfl
  obtain ⟨k1, qk1⟩ : ∃ z : Int32, z = 1 := ⟨_, rfl⟩
  have ek1 : k1.toInt = 1 := by rw [qk1]; rfl
  obtain ⟨k84, qk84⟩ : ∃ z : Int32, z = 84 := ⟨_, rfl⟩
  have ek84 : k84.toInt = 84 := by rw [qk84]; rfl
  have rg1 := n_rng a1
  have rg2 := n_rng a2
  refine r_iload_n C (j := 1) (oDec_at oX1_begin 0 rfl) rfl rfl ?_
  refine r_bipush C (oDec_at oX1_begin 1 rfl) (v := k84) (by rw [qk84]; rfl) ?_
  refine r_icmp_eq C 17 (oDec_at oX1_begin 2 rfl) (by decide) (fun cd1 => ?_) (fun cd1 => ?_)
  · skip
    refine r_iconst C (oDec_at oX1_begin 9 rfl) (v := k1) (by rw [qk1]; rfl) ?_
    refine r_goto C (tgt := 22) (oDec_at oX1_begin 10 rfl) (by decide) ?_
    refine r_istore_n C (lv' := [(0, .ref (oad E 35)), (1, .int a1), (2, .int a2), (3, .int k1)]) [1, 2, 3, 0] (oDec_at oX1_begin 12 rfl) rfl (by decide) rfl ?_
    refine r_aload_n C (j := 0) (oDec_at oX1_begin 13 rfl) rfl rfl ?_
    refine r_getF (k := 4) (b := 40) C oCl1 rfl (by decide) flX1_27 rfl rfl rfl (oDec_at oX1_begin 14 rfl) ?_
    refine r_iload_n C (j := 3) (oDec_at oX1_begin 15 rfl) rfl rfl ?_
    refine r_if_eq C 35 (oDec_at oX1_begin 16 rfl) (by decide) (fun cd2 => ?_) (fun cd2 => ?_)
    · omega
    · skip
      refine r_iload_n C (j := 1) (oDec_at oX1_begin 17 rfl) rfl rfl ?_
      refine r_goto C (tgt := 36) (oDec_at oX1_begin 18 rfl) (by decide) ?_
      refine r_callVv C oCl9 rfl miX9_take mlX1_100 (ct_X9_take l E (s) 40 rfl a1 ) (by decide) rfl rfl rfl (Nat.le_of_ble_eq_true rfl) (oDec_at oX1_begin 20 rfl) (fun u3 pu3 fu3 => ?_)
      try dsimp only at pu3
      refine r_aload_n C (j := 0) (oDec_at oX1_begin 21 rfl) rfl rfl ?_
      refine r_getF (k := 5) (b := 41) C oCl1 rfl (by decide) flX1_31 rfl rfl rfl (oDec_at oX1_begin 22 rfl) ?_
      refine r_iload_n C (j := 3) (oDec_at oX1_begin 23 rfl) rfl rfl ?_
      refine r_if_eq C 51 (oDec_at oX1_begin 24 rfl) (by decide) (fun cd5 => ?_) (fun cd5 => ?_)
      · omega
      · skip
        refine r_iload_n C (j := 2) (oDec_at oX1_begin 25 rfl) rfl rfl ?_
        refine r_goto C (tgt := 52) (oDec_at oX1_begin 26 rfl) (by decide) ?_
        refine r_callVv C oCl9 rfl miX9_take mlX1_100 (ct_X9_take l E (u3) 41 rfl a2 ) (by decide) rfl rfl rfl (Nat.le_of_ble_eq_true rfl) (oDec_at oX1_begin 28 rfl) (fun u6 pu6 fu6 => ?_)
        try dsimp only at pu6
        refine r_aload_n C (j := 0) (oDec_at oX1_begin 29 rfl) rfl rfl ?_
        refine r_iconst C (oDec_at oX1_begin 30 rfl) (v := k0) (by rw [qk0]; rfl) ?_
        refine r_puti (k := 6) (lo := 0) (hi := 48) C oCl1 rfl (by decide) flX1_104 rfl rfl rfl rfl rfl rfl rfl rfl ⟨by omega, by omega⟩ (oDec_at oX1_begin 31 rfl) ?_
        refine r_aload_n C (j := 0) (oDec_at oX1_begin 32 rfl) rfl rfl ?_
        refine r_pc C 61 rfl ?_
        refine r_iconst C (oDec_at oX1_begin 33 rfl) (v := k0) (by rw [qk0]; rfl) ?_
        refine r_puti (k := 7) (lo := (-2147483648)) (hi := 2147483647) C oCl1 rfl (by decide) flX1_64 rfl rfl rfl rfl rfl rfl rfl rfl (n_rng _) (oDec_at oX1_begin 34 rfl) ?_
        refine r_aload_n C (j := 0) (oDec_at oX1_begin 35 rfl) rfl rfl ?_
        refine r_iconst C (oDec_at oX1_begin 36 rfl) (v := k0) (by rw [qk0]; rfl) ?_
        refine r_puti (k := 8) (lo := (-2147483648)) (hi := 2147483647) C oCl1 rfl (by decide) flX1_67 rfl rfl rfl rfl rfl rfl rfl rfl (n_rng _) (oDec_at oX1_begin 37 rfl) ?_
        exact r_vret C (oDec_at oX1_begin 38 rfl) ⟨rfl, trivial⟩
  · skip
    refine r_iload_n C (j := 2) (oDec_at oX1_begin 3 rfl) rfl rfl ?_
    refine r_bipush C (oDec_at oX1_begin 4 rfl) (v := k84) (by rw [qk84]; rfl) ?_
    refine r_icmp_eq C 21 (oDec_at oX1_begin 5 rfl) (by decide) (fun cd8 => ?_) (fun cd8 => ?_)
    · skip
      refine r_iconst C (oDec_at oX1_begin 11 rfl) (v := k0) (by rw [qk0]; rfl) ?_
      refine r_istore_n C (lv' := [(0, .ref (oad E 35)), (1, .int a1), (2, .int a2), (3, .int k0)]) [1, 2, 3, 0] (oDec_at oX1_begin 12 rfl) rfl (by decide) rfl ?_
      refine r_aload_n C (j := 0) (oDec_at oX1_begin 13 rfl) rfl rfl ?_
      refine r_getF (k := 4) (b := 40) C oCl1 rfl (by decide) flX1_27 rfl rfl rfl (oDec_at oX1_begin 14 rfl) ?_
      refine r_iload_n C (j := 3) (oDec_at oX1_begin 15 rfl) rfl rfl ?_
      refine r_if_eq C 35 (oDec_at oX1_begin 16 rfl) (by decide) (fun cd9 => ?_) (fun cd9 => ?_)
      · skip
        refine r_iload_n C (j := 2) (oDec_at oX1_begin 19 rfl) rfl rfl ?_
        refine r_callVv C oCl9 rfl miX9_take mlX1_100 (ct_X9_take l E (s) 40 rfl a2 ) (by decide) rfl rfl rfl (Nat.le_of_ble_eq_true rfl) (oDec_at oX1_begin 20 rfl) (fun u10 pu10 fu10 => ?_)
        try dsimp only at pu10
        refine r_aload_n C (j := 0) (oDec_at oX1_begin 21 rfl) rfl rfl ?_
        refine r_getF (k := 5) (b := 41) C oCl1 rfl (by decide) flX1_31 rfl rfl rfl (oDec_at oX1_begin 22 rfl) ?_
        refine r_iload_n C (j := 3) (oDec_at oX1_begin 23 rfl) rfl rfl ?_
        refine r_if_eq C 51 (oDec_at oX1_begin 24 rfl) (by decide) (fun cd12 => ?_) (fun cd12 => ?_)
        · skip
          refine r_iload_n C (j := 1) (oDec_at oX1_begin 27 rfl) rfl rfl ?_
          refine r_callVv C oCl9 rfl miX9_take mlX1_100 (ct_X9_take l E (u10) 41 rfl a1 ) (by decide) rfl rfl rfl (Nat.le_of_ble_eq_true rfl) (oDec_at oX1_begin 28 rfl) (fun u13 pu13 fu13 => ?_)
          try dsimp only at pu13
          refine r_aload_n C (j := 0) (oDec_at oX1_begin 29 rfl) rfl rfl ?_
          refine r_iconst C (oDec_at oX1_begin 30 rfl) (v := k0) (by rw [qk0]; rfl) ?_
          refine r_puti (k := 6) (lo := 0) (hi := 48) C oCl1 rfl (by decide) flX1_104 rfl rfl rfl rfl rfl rfl rfl rfl ⟨by omega, by omega⟩ (oDec_at oX1_begin 31 rfl) ?_
          refine r_aload_n C (j := 0) (oDec_at oX1_begin 32 rfl) rfl rfl ?_
          refine r_pc C 61 rfl ?_
          refine r_iconst C (oDec_at oX1_begin 33 rfl) (v := k0) (by rw [qk0]; rfl) ?_
          refine r_puti (k := 7) (lo := (-2147483648)) (hi := 2147483647) C oCl1 rfl (by decide) flX1_64 rfl rfl rfl rfl rfl rfl rfl rfl (n_rng _) (oDec_at oX1_begin 34 rfl) ?_
          refine r_aload_n C (j := 0) (oDec_at oX1_begin 35 rfl) rfl rfl ?_
          refine r_iconst C (oDec_at oX1_begin 36 rfl) (v := k0) (by rw [qk0]; rfl) ?_
          refine r_puti (k := 8) (lo := (-2147483648)) (hi := 2147483647) C oCl1 rfl (by decide) flX1_67 rfl rfl rfl rfl rfl rfl rfl rfl (n_rng _) (oDec_at oX1_begin 37 rfl) ?_
          exact r_vret C (oDec_at oX1_begin 38 rfl) ⟨rfl, trivial⟩
        · omega
      · omega
    · skip
      refine r_iload_n C (j := 1) (oDec_at oX1_begin 6 rfl) rfl rfl ?_
      refine r_iload_n C (j := 2) (oDec_at oX1_begin 7 rfl) rfl rfl ?_
      refine r_icmp_ge C 21 (oDec_at oX1_begin 8 rfl) (by decide) (fun cd15 => ?_) (fun cd15 => ?_)
      · skip
        refine r_iconst C (oDec_at oX1_begin 11 rfl) (v := k0) (by rw [qk0]; rfl) ?_
        refine r_istore_n C (lv' := [(0, .ref (oad E 35)), (1, .int a1), (2, .int a2), (3, .int k0)]) [1, 2, 3, 0] (oDec_at oX1_begin 12 rfl) rfl (by decide) rfl ?_
        refine r_aload_n C (j := 0) (oDec_at oX1_begin 13 rfl) rfl rfl ?_
        refine r_getF (k := 4) (b := 40) C oCl1 rfl (by decide) flX1_27 rfl rfl rfl (oDec_at oX1_begin 14 rfl) ?_
        refine r_iload_n C (j := 3) (oDec_at oX1_begin 15 rfl) rfl rfl ?_
        refine r_if_eq C 35 (oDec_at oX1_begin 16 rfl) (by decide) (fun cd16 => ?_) (fun cd16 => ?_)
        · skip
          refine r_iload_n C (j := 2) (oDec_at oX1_begin 19 rfl) rfl rfl ?_
          refine r_callVv C oCl9 rfl miX9_take mlX1_100 (ct_X9_take l E (s) 40 rfl a2 ) (by decide) rfl rfl rfl (Nat.le_of_ble_eq_true rfl) (oDec_at oX1_begin 20 rfl) (fun u17 pu17 fu17 => ?_)
          try dsimp only at pu17
          refine r_aload_n C (j := 0) (oDec_at oX1_begin 21 rfl) rfl rfl ?_
          refine r_getF (k := 5) (b := 41) C oCl1 rfl (by decide) flX1_31 rfl rfl rfl (oDec_at oX1_begin 22 rfl) ?_
          refine r_iload_n C (j := 3) (oDec_at oX1_begin 23 rfl) rfl rfl ?_
          refine r_if_eq C 51 (oDec_at oX1_begin 24 rfl) (by decide) (fun cd19 => ?_) (fun cd19 => ?_)
          · skip
            refine r_iload_n C (j := 1) (oDec_at oX1_begin 27 rfl) rfl rfl ?_
            refine r_callVv C oCl9 rfl miX9_take mlX1_100 (ct_X9_take l E (u17) 41 rfl a1 ) (by decide) rfl rfl rfl (Nat.le_of_ble_eq_true rfl) (oDec_at oX1_begin 28 rfl) (fun u20 pu20 fu20 => ?_)
            try dsimp only at pu20
            refine r_aload_n C (j := 0) (oDec_at oX1_begin 29 rfl) rfl rfl ?_
            refine r_iconst C (oDec_at oX1_begin 30 rfl) (v := k0) (by rw [qk0]; rfl) ?_
            refine r_puti (k := 6) (lo := 0) (hi := 48) C oCl1 rfl (by decide) flX1_104 rfl rfl rfl rfl rfl rfl rfl rfl ⟨by omega, by omega⟩ (oDec_at oX1_begin 31 rfl) ?_
            refine r_aload_n C (j := 0) (oDec_at oX1_begin 32 rfl) rfl rfl ?_
            refine r_pc C 61 rfl ?_
            refine r_iconst C (oDec_at oX1_begin 33 rfl) (v := k0) (by rw [qk0]; rfl) ?_
            refine r_puti (k := 7) (lo := (-2147483648)) (hi := 2147483647) C oCl1 rfl (by decide) flX1_64 rfl rfl rfl rfl rfl rfl rfl rfl (n_rng _) (oDec_at oX1_begin 34 rfl) ?_
            refine r_aload_n C (j := 0) (oDec_at oX1_begin 35 rfl) rfl rfl ?_
            refine r_iconst C (oDec_at oX1_begin 36 rfl) (v := k0) (by rw [qk0]; rfl) ?_
            refine r_puti (k := 8) (lo := (-2147483648)) (hi := 2147483647) C oCl1 rfl (by decide) flX1_67 rfl rfl rfl rfl rfl rfl rfl rfl (n_rng _) (oDec_at oX1_begin 37 rfl) ?_
            exact r_vret C (oDec_at oX1_begin 38 rfl) ⟨rfl, trivial⟩
          · omega
        · omega
      · skip
        refine r_iconst C (oDec_at oX1_begin 9 rfl) (v := k1) (by rw [qk1]; rfl) ?_
        refine r_goto C (tgt := 22) (oDec_at oX1_begin 10 rfl) (by decide) ?_
        refine r_istore_n C (lv' := [(0, .ref (oad E 35)), (1, .int a1), (2, .int a2), (3, .int k1)]) [1, 2, 3, 0] (oDec_at oX1_begin 12 rfl) rfl (by decide) rfl ?_
        refine r_aload_n C (j := 0) (oDec_at oX1_begin 13 rfl) rfl rfl ?_
        refine r_getF (k := 4) (b := 40) C oCl1 rfl (by decide) flX1_27 rfl rfl rfl (oDec_at oX1_begin 14 rfl) ?_
        refine r_iload_n C (j := 3) (oDec_at oX1_begin 15 rfl) rfl rfl ?_
        refine r_if_eq C 35 (oDec_at oX1_begin 16 rfl) (by decide) (fun cd22 => ?_) (fun cd22 => ?_)
        · omega
        · skip
          refine r_iload_n C (j := 1) (oDec_at oX1_begin 17 rfl) rfl rfl ?_
          refine r_goto C (tgt := 36) (oDec_at oX1_begin 18 rfl) (by decide) ?_
          refine r_callVv C oCl9 rfl miX9_take mlX1_100 (ct_X9_take l E (s) 40 rfl a1 ) (by decide) rfl rfl rfl (Nat.le_of_ble_eq_true rfl) (oDec_at oX1_begin 20 rfl) (fun u23 pu23 fu23 => ?_)
          try dsimp only at pu23
          refine r_aload_n C (j := 0) (oDec_at oX1_begin 21 rfl) rfl rfl ?_
          refine r_getF (k := 5) (b := 41) C oCl1 rfl (by decide) flX1_31 rfl rfl rfl (oDec_at oX1_begin 22 rfl) ?_
          refine r_iload_n C (j := 3) (oDec_at oX1_begin 23 rfl) rfl rfl ?_
          refine r_if_eq C 51 (oDec_at oX1_begin 24 rfl) (by decide) (fun cd25 => ?_) (fun cd25 => ?_)
          · omega
          · skip
            refine r_iload_n C (j := 2) (oDec_at oX1_begin 25 rfl) rfl rfl ?_
            refine r_goto C (tgt := 52) (oDec_at oX1_begin 26 rfl) (by decide) ?_
            refine r_callVv C oCl9 rfl miX9_take mlX1_100 (ct_X9_take l E (u23) 41 rfl a2 ) (by decide) rfl rfl rfl (Nat.le_of_ble_eq_true rfl) (oDec_at oX1_begin 28 rfl) (fun u26 pu26 fu26 => ?_)
            try dsimp only at pu26
            refine r_aload_n C (j := 0) (oDec_at oX1_begin 29 rfl) rfl rfl ?_
            refine r_iconst C (oDec_at oX1_begin 30 rfl) (v := k0) (by rw [qk0]; rfl) ?_
            refine r_puti (k := 6) (lo := 0) (hi := 48) C oCl1 rfl (by decide) flX1_104 rfl rfl rfl rfl rfl rfl rfl rfl ⟨by omega, by omega⟩ (oDec_at oX1_begin 31 rfl) ?_
            refine r_aload_n C (j := 0) (oDec_at oX1_begin 32 rfl) rfl rfl ?_
            refine r_pc C 61 rfl ?_
            refine r_iconst C (oDec_at oX1_begin 33 rfl) (v := k0) (by rw [qk0]; rfl) ?_
            refine r_puti (k := 7) (lo := (-2147483648)) (hi := 2147483647) C oCl1 rfl (by decide) flX1_64 rfl rfl rfl rfl rfl rfl rfl rfl (n_rng _) (oDec_at oX1_begin 34 rfl) ?_
            refine r_aload_n C (j := 0) (oDec_at oX1_begin 35 rfl) rfl rfl ?_
            refine r_iconst C (oDec_at oX1_begin 36 rfl) (v := k0) (by rw [qk0]; rfl) ?_
            refine r_puti (k := 8) (lo := (-2147483648)) (hi := 2147483647) C oCl1 rfl (by decide) flX1_67 rfl rfl rfl rfl rfl rfl rfl rfl (n_rng _) (oDec_at oX1_begin 37 rfl) ?_
            exact r_vret C (oDec_at oX1_begin 38 rfl) ⟨rfl, trivial⟩
set_option maxHeartbeats 4000000 in
set_option maxRecDepth 100000 in
theorem ct_X1_beatOf (l : Launch) (E : oE) (s : oS) (a0 : Int32) (a1 : Int32)  : oMet l 1 yX1_beatOf cX1_beatOf 2 (some .int) [] E s [.int a0, .int a1] (oPi (fun r u => True)) := by
  refine oMet.of (lv := [(0, .int a0), (1, .int a1)]) (by decide +kernel) (Nat.le_of_ble_eq_true rfl) rfl (fun J C hT => ?_)
  have C : oC l 1 cX1_beatOf RX1 2 (some .int) [] E s (oPi (fun r u => True)) J := C
  obtain ⟨k0, qk0⟩ : ∃ z : Int32, z = 0 := ⟨_, rfl⟩
  have ek0 : k0.toInt = 0 := by rw [qk0]; rfl
  have rg0 := n_rng a0
  have rg1 := n_rng a1
  refine r_iload_n C (j := 1) (oDec_at oX1_beatOf 0 rfl) rfl rfl ?_
  refine r_if_le C 10 (oDec_at oX1_beatOf 1 rfl) (by decide) (fun cd1 => ?_) (fun cd1 => ?_)
  · skip
    refine r_iconst C (oDec_at oX1_beatOf 6 rfl) (v := k0) (by rw [qk0]; rfl) ?_
    exact r_iret C (oDec_at oX1_beatOf 7 rfl) ⟨_, rfl, trivial⟩
  · skip
    refine r_iload_n C (j := 0) (oDec_at oX1_beatOf 2 rfl) rfl rfl ?_
    refine r_iload_n C (j := 1) (oDec_at oX1_beatOf 3 rfl) rfl rfl ?_
    obtain ⟨v2, ev2⟩ : ∃ z : Int32, z = a0 - a0 / a1 * a1 := ⟨_, rfl⟩
    have rv2 := n_rng v2
    refine r_irem C v2 (oDec_at oX1_beatOf 4 rfl) (n_ne0 (by omega)) ev2 ?_
    refine r_goto C (tgt := 11) (oDec_at oX1_beatOf 5 rfl) (by decide) ?_
    exact r_iret C (oDec_at oX1_beatOf 7 rfl) ⟨_, rfl, trivial⟩
set_option maxHeartbeats 4000000 in
set_option maxRecDepth 100000 in
theorem ct_X1_apartAt (l : Launch) (E : oE) (s : oS) (c1 : Nat) (hk1 : okd c1 = 4) (a2 : Int32) (a3 : Int32)  : oMet l 4 yX1_apartAt cX1_apartAt 6 (some .int) [] E s [.ref (oad E 35), .ref (oad E c1), .int a2, .int a3] (oPi (fun r u => True)) := by
  refine oMet.of (lv := [(0, .ref (oad E 35)), (1, .ref (oad E c1)), (2, .int a2), (3, .int a3)]) (by decide +kernel) (Nat.le_of_ble_eq_true rfl) rfl (fun J C hT => ?_)
  have C : oC l 4 cX1_apartAt RX1 6 (some .int) [] E s (oPi (fun r u => True)) J := C
  obtain ⟨km1000000000, qkm1000000000⟩ : ∃ z : Int32, z = (-1000000000) := ⟨_, rfl⟩
  have ekm1000000000 : km1000000000.toInt = (-1000000000) := by rw [qkm1000000000]; rfl
  have rg2 := n_rng a2
  have rg3 := n_rng a3
  refine r_aload_n C (j := 0) (oDec_at oX1_apartAt 0 rfl) rfl rfl ?_
  refine r_getF (k := 4) (b := 40) C oCl1 rfl (by decide) flX1_27 rfl rfl rfl (oDec_at oX1_apartAt 1 rfl) ?_
  refine r_aload_n C (j := 1) (oDec_at oX1_apartAt 2 rfl) rfl rfl ?_
  refine r_iload_n C (j := 2) (oDec_at oX1_apartAt 3 rfl) rfl rfl ?_
  refine r_callVi C oCl9 rfl miX9_tone mlX1_107 (ct_X9_tone l E (s) 40 rfl c1 hk1 a2 ) (by decide) rfl rfl rfl (Nat.le_of_ble_eq_true rfl) (oDec_at oX1_apartAt 4 rfl) (fun r2 u1 pu1 fu1 => ?_)
  try dsimp only at pu1
  have rr2 := n_rng r2
  refine r_istore C (lv' := [(0, .ref (oad E 35)), (1, .ref (oad E c1)), (2, .int a2), (3, .int a3), (4, .int r2)]) [1, 2, 3, 4, 0] (oDec_at oX1_apartAt 5 rfl) (by decide) rfl ?_
  refine r_pc C 11 rfl ?_
  refine r_aload_n C (j := 0) (oDec_at oX1_apartAt 6 rfl) rfl rfl ?_
  refine r_getF (k := 5) (b := 41) C oCl1 rfl (by decide) flX1_31 rfl rfl rfl (oDec_at oX1_apartAt 7 rfl) ?_
  refine r_aload_n C (j := 1) (oDec_at oX1_apartAt 8 rfl) rfl rfl ?_
  refine r_iload_n C (j := 3) (oDec_at oX1_apartAt 9 rfl) rfl rfl ?_
  refine r_callVi C oCl9 rfl miX9_tone mlX1_107 (ct_X9_tone l E (u1) 41 rfl c1 hk1 a3 ) (by decide) rfl rfl rfl (Nat.le_of_ble_eq_true rfl) (oDec_at oX1_apartAt 10 rfl) (fun r4 u3 pu3 fu3 => ?_)
  try dsimp only at pu3
  have rr4 := n_rng r4
  refine r_istore C (lv' := [(0, .ref (oad E 35)), (1, .ref (oad E c1)), (2, .int a2), (3, .int a3), (4, .int r2), (5, .int r4)]) [1, 2, 3, 4, 5, 0] (oDec_at oX1_apartAt 11 rfl) (by decide) rfl ?_
  refine r_pc C 22 rfl ?_
  refine r_iload C (j := 4) (oDec_at oX1_apartAt 12 rfl) rfl ?_
  refine r_ldc C (v := km1000000000) (by rw [qkm1000000000]; exact kcX1_63) (oDec_at oX1_apartAt 13 rfl) ?_
  refine r_icmp_eq C 36 (oDec_at oX1_apartAt 14 rfl) (by decide) (fun cd5 => ?_) (fun cd5 => ?_)
  · skip
    refine r_ldc C (v := km1000000000) (by rw [qkm1000000000]; exact kcX1_63) (oDec_at oX1_apartAt 18 rfl) ?_
    refine r_goto C (tgt := 46) (oDec_at oX1_apartAt 19 rfl) (by decide) ?_
    exact r_iret C (oDec_at oX1_apartAt 23 rfl) ⟨_, rfl, trivial⟩
  · skip
    refine r_iload C (j := 5) (oDec_at oX1_apartAt 15 rfl) rfl ?_
    refine r_ldc C (v := km1000000000) (by rw [qkm1000000000]; exact kcX1_63) (oDec_at oX1_apartAt 16 rfl) ?_
    refine r_icmp_ne C 41 (oDec_at oX1_apartAt 17 rfl) (by decide) (fun cd6 => ?_) (fun cd6 => ?_)
    · skip
      refine r_iload C (j := 5) (oDec_at oX1_apartAt 20 rfl) rfl ?_
      refine r_iload C (j := 4) (oDec_at oX1_apartAt 21 rfl) rfl ?_
      obtain ⟨v7, ev7⟩ : ∃ z : Int32, z = r4 - r2 := ⟨_, rfl⟩
      have rv7 := n_rng v7
      refine r_isub C v7 (oDec_at oX1_apartAt 22 rfl) ev7 ?_
      exact r_iret C (oDec_at oX1_apartAt 23 rfl) ⟨_, rfl, trivial⟩
    · skip
      refine r_ldc C (v := km1000000000) (by rw [qkm1000000000]; exact kcX1_63) (oDec_at oX1_apartAt 18 rfl) ?_
      refine r_goto C (tgt := 46) (oDec_at oX1_apartAt 19 rfl) (by decide) ?_
      exact r_iret C (oDec_at oX1_apartAt 23 rfl) ⟨_, rfl, trivial⟩
set_option maxHeartbeats 4000000 in
set_option maxRecDepth 100000 in
theorem ct_X1_rise (l : Launch) (E : oE) (s : oS) (c0 : Nat) (hk0 : okd c0 = 9) (c1 : Nat) (hk1 : okd c1 = 4) (a2 : Int32) (a3 : Int32)  : oMet l 4 yX1_rise cX1_rise 5 (some .int) [] E s [.ref (oad E c0), .ref (oad E c1), .int a2, .int a3] (oPi (fun r u => True)) := by
  refine oMet.of (lv := [(0, .ref (oad E c0)), (1, .ref (oad E c1)), (2, .int a2), (3, .int a3)]) (by decide +kernel) (Nat.le_of_ble_eq_true rfl) rfl (fun J C hT => ?_)
  have C : oC l 4 cX1_rise RX1 5 (some .int) [] E s (oPi (fun r u => True)) J := C
  obtain ⟨km1000000000, qkm1000000000⟩ : ∃ z : Int32, z = (-1000000000) := ⟨_, rfl⟩
  have ekm1000000000 : km1000000000.toInt = (-1000000000) := by rw [qkm1000000000]; rfl
  obtain ⟨k0, qk0⟩ : ∃ z : Int32, z = 0 := ⟨_, rfl⟩
  have ek0 : k0.toInt = 0 := by rw [qk0]; rfl
  have rg2 := n_rng a2
  have rg3 := n_rng a3
  refine r_aload_n C (j := 0) (oDec_at oX1_rise 0 rfl) rfl rfl ?_
  refine r_aload_n C (j := 1) (oDec_at oX1_rise 1 rfl) rfl rfl ?_
  refine r_iload_n C (j := 2) (oDec_at oX1_rise 2 rfl) rfl rfl ?_
  refine r_callVi C oCl9 hk0 miX9_tone mlX1_107 (ct_X9_tone l E (s) c0 hk0 c1 hk1 a2 ) (by decide) rfl rfl rfl (Nat.le_of_ble_eq_true rfl) (oDec_at oX1_rise 3 rfl) (fun r2 u1 pu1 fu1 => ?_)
  try dsimp only at pu1
  have rr2 := n_rng r2
  refine r_istore C (lv' := [(0, .ref (oad E c0)), (1, .ref (oad E c1)), (2, .int a2), (3, .int a3), (4, .int r2)]) [1, 2, 3, 4, 0] (oDec_at oX1_rise 4 rfl) (by decide) rfl ?_
  refine r_iload C (j := 4) (oDec_at oX1_rise 5 rfl) rfl ?_
  refine r_pc C 10 rfl ?_
  refine r_ldc C (v := km1000000000) (by rw [qkm1000000000]; exact kcX1_63) (oDec_at oX1_rise 6 rfl) ?_
  refine r_icmp_ne C 19 (oDec_at oX1_rise 7 rfl) (by decide) (fun cd3 => ?_) (fun cd3 => ?_)
  · skip
    refine r_aload_n C (j := 0) (oDec_at oX1_rise 10 rfl) rfl rfl ?_
    refine r_aload_n C (j := 1) (oDec_at oX1_rise 11 rfl) rfl rfl ?_
    refine r_iload_n C (j := 3) (oDec_at oX1_rise 12 rfl) rfl rfl ?_
    refine r_callVi C oCl9 hk0 miX9_tone mlX1_107 (ct_X9_tone l E (u1) c0 hk0 c1 hk1 a3 ) (by decide) rfl rfl rfl (Nat.le_of_ble_eq_true rfl) (oDec_at oX1_rise 13 rfl) (fun r5 u4 pu4 fu4 => ?_)
    try dsimp only at pu4
    have rr5 := n_rng r5
    refine r_iload C (j := 4) (oDec_at oX1_rise 14 rfl) rfl ?_
    obtain ⟨v6, ev6⟩ : ∃ z : Int32, z = r5 - r2 := ⟨_, rfl⟩
    have rv6 := n_rng v6
    refine r_isub C v6 (oDec_at oX1_rise 15 rfl) ev6 ?_
    refine r_pc C 28 rfl ?_
    exact r_iret C (oDec_at oX1_rise 16 rfl) ⟨_, rfl, trivial⟩
  · skip
    refine r_iconst C (oDec_at oX1_rise 8 rfl) (v := k0) (by rw [qk0]; rfl) ?_
    refine r_goto C (tgt := 28) (oDec_at oX1_rise 9 rfl) (by decide) ?_
    exact r_iret C (oDec_at oX1_rise 16 rfl) ⟨_, rfl, trivial⟩
set_option maxHeartbeats 4000000 in
set_option maxRecDepth 100000 in
theorem ct_X1_mark (l : Launch) (E : oE) (s : oS) (a1 : Int32) (a2 : Int32) (a3 : Int32)  : oMet l 1 yX1_mark cX1_mark 4 none [(28, 9999), (29, 9999), (30, 9999)] E s [.ref (oad E 35), .int a1, .int a2, .int a3] (oPv (fun u => True)) := by
  refine oMet.of (lv := [(0, .ref (oad E 35)), (1, .int a1), (2, .int a2), (3, .int a3)]) (by decide +kernel) (Nat.le_of_ble_eq_true rfl) rfl (fun J C hT => ?_)
  have C : oC l 1 cX1_mark RX1 4 none [(28, 9999), (29, 9999), (30, 9999)] E s (oPv (fun u => True)) J := C
  obtain ⟨k48, qk48⟩ : ∃ z : Int32, z = 48 := ⟨_, rfl⟩
  have ek48 : k48.toInt = 48 := by rw [qk48]; rfl
  have rg1 := n_rng a1
  have rg2 := n_rng a2
  have rg3 := n_rng a3
  refine r_aload_n C (j := 0) (oDec_at oX1_mark 0 rfl) rfl rfl ?_
  obtain ⟨v1, ev1⟩ : ∃ z : Int32, (s).1 35 6 = z := ⟨_, rfl⟩
  have gv1 : (s.1 35 6).toInt = v1.toInt := congrArg Int32.toInt (ev1)
  refine r_geti (k := 6) (lo := 0) (hi := 48) C v1 oCl1 rfl (by decide) flX1_104 rfl rfl (ev1) rfl rfl (oDec_at oX1_mark 1 rfl) (fun b2 b2h => ?_)
  refine r_bipush C (oDec_at oX1_mark 2 rfl) (v := k48) (by rw [qk48]; rfl) ?_
  refine r_icmp_ge C 39 (oDec_at oX1_mark 3 rfl) (by decide) (fun cd3 => ?_) (fun cd3 => ?_)
  · skip
    exact r_vret C (oDec_at oX1_mark 22 rfl) ⟨rfl, trivial⟩
  · skip
    refine r_aload_n C (j := 0) (oDec_at oX1_mark 4 rfl) rfl rfl ?_
    refine r_getF (k := 0) (b := 36) C oCl1 rfl (by decide) flX1_11 rfl rfl rfl (oDec_at oX1_mark 5 rfl) ?_
    refine r_aload_n C (j := 0) (oDec_at oX1_mark 6 rfl) rfl rfl ?_
    refine r_geti (k := 6) (lo := 0) (hi := 48) C v1 oCl1 rfl (by decide) flX1_104 rfl rfl (ev1) rfl rfl (oDec_at oX1_mark 7 rfl) (fun _ _ => ?_)
    refine r_iload_n C (j := 1) (oDec_at oX1_mark 8 rfl) rfl rfl ?_
    refine r_iast (n := 48) (lo := (-2147483648)) (hi := 2147483647) C rfl (by decide) rfl rfl ⟨by omega, by omega⟩ (by decide) rfl rfl rfl rfl (n_rng _) (oDec_at oX1_mark 9 rfl) ?_
    refine r_pc C 19 rfl ?_
    refine r_aload_n C (j := 0) (oDec_at oX1_mark 10 rfl) rfl rfl ?_
    refine r_getF (k := 1) (b := 37) C oCl1 rfl (by decide) flX1_15 rfl rfl rfl (oDec_at oX1_mark 11 rfl) ?_
    refine r_aload_n C (j := 0) (oDec_at oX1_mark 12 rfl) rfl rfl ?_
    refine r_geti (k := 6) (lo := 0) (hi := 48) C v1 oCl1 rfl (by decide) flX1_104 rfl rfl (((pI_ne (a := 35) (b := 6) (c := 36) _ _ (Or.inl (by decide)))).trans (ev1)) rfl rfl (oDec_at oX1_mark 13 rfl) (fun _ _ => ?_)
    refine r_iload_n C (j := 2) (oDec_at oX1_mark 14 rfl) rfl rfl ?_
    refine r_iast (n := 48) (lo := (-2147483648)) (hi := 2147483647) C rfl (by decide) rfl rfl ⟨by omega, by omega⟩ (by decide) rfl rfl rfl rfl (n_rng _) (oDec_at oX1_mark 15 rfl) ?_
    refine r_pc C 29 rfl ?_
    refine r_aload_n C (j := 0) (oDec_at oX1_mark 16 rfl) rfl rfl ?_
    refine r_getF (k := 2) (b := 38) C oCl1 rfl (by decide) flX1_18 rfl rfl rfl (oDec_at oX1_mark 17 rfl) ?_
    refine r_aload_n C (j := 0) (oDec_at oX1_mark 18 rfl) rfl rfl ?_
    refine r_geti (k := 6) (lo := 0) (hi := 48) C v1 oCl1 rfl (by decide) flX1_104 rfl rfl (((pI_ne (a := 35) (b := 6) (c := 37) _ _ (Or.inl (by decide)))).trans (((pI_ne (a := 35) (b := 6) (c := 36) _ _ (Or.inl (by decide)))).trans (ev1))) rfl rfl (oDec_at oX1_mark 19 rfl) (fun _ _ => ?_)
    refine r_iload_n C (j := 3) (oDec_at oX1_mark 20 rfl) rfl rfl ?_
    refine r_iast (n := 48) (lo := (-2147483648)) (hi := 2147483647) C rfl (by decide) rfl rfl ⟨by omega, by omega⟩ (by decide) rfl rfl rfl rfl (n_rng _) (oDec_at oX1_mark 21 rfl) ?_
    refine r_pc C 39 rfl ?_
    exact r_vret C (oDec_at oX1_mark 22 rfl) ⟨rfl, trivial⟩
set_option maxHeartbeats 4000000 in
set_option maxRecDepth 100000 in
theorem ct_X1_moved (l : Launch) (E : oE) (s : oS) (a1 : Int32) (a2 : Int32) (a3 : Int32) (a4 : Int32)  : oMet l 2 yX1_moved cX1_moved 5 none [(1, 6), (31, 9999)] E s [.ref (oad E 35), .int a1, .int a2, .int a3, .int a4] (oPv (fun u => True)) := by
  refine oMet.of (lv := [(0, .ref (oad E 35)), (1, .int a1), (2, .int a2), (3, .int a3), (4, .int a4)]) (by decide +kernel) (Nat.le_of_ble_eq_true rfl) rfl (fun J C hT => ?_)
  have C : oC l 2 cX1_moved RX1 5 none [(1, 6), (31, 9999)] E s (oPv (fun u => True)) J := C
  obtain ⟨k1, qk1⟩ : ∃ z : Int32, z = 1 := ⟨_, rfl⟩
  have ek1 : k1.toInt = 1 := by rw [qk1]; rfl
  obtain ⟨k48, qk48⟩ : ∃ z : Int32, z = 48 := ⟨_, rfl⟩
  have ek48 : k48.toInt = 48 := by rw [qk48]; rfl
  have rg1 := n_rng a1
  have rg2 := n_rng a2
  have rg3 := n_rng a3
  have rg4 := n_rng a4
  refine r_aload_n C (j := 0) (oDec_at oX1_moved 0 rfl) rfl rfl ?_
  obtain ⟨v1, ev1⟩ : ∃ z : Int32, (s).1 35 6 = z := ⟨_, rfl⟩
  have gv1 : (s.1 35 6).toInt = v1.toInt := congrArg Int32.toInt (ev1)
  refine r_geti (k := 6) (lo := 0) (hi := 48) C v1 oCl1 rfl (by decide) flX1_104 rfl rfl (ev1) rfl rfl (oDec_at oX1_moved 1 rfl) (fun b2 b2h => ?_)
  refine r_bipush C (oDec_at oX1_moved 2 rfl) (v := k48) (by rw [qk48]; rfl) ?_
  refine r_icmp_ge C 36 (oDec_at oX1_moved 3 rfl) (by decide) (fun cd3 => ?_) (fun cd3 => ?_)
  · skip
    exact r_vret C (oDec_at oX1_moved 20 rfl) ⟨rfl, trivial⟩
  · skip
    refine r_aload_n C (j := 0) (oDec_at oX1_moved 4 rfl) rfl rfl ?_
    refine r_getF (k := 3) (b := 39) C oCl1 rfl (by decide) flX1_21 rfl rfl rfl (oDec_at oX1_moved 5 rfl) ?_
    refine r_aload_n C (j := 0) (oDec_at oX1_moved 6 rfl) rfl rfl ?_
    refine r_geti (k := 6) (lo := 0) (hi := 48) C v1 oCl1 rfl (by decide) flX1_104 rfl rfl (ev1) rfl rfl (oDec_at oX1_moved 7 rfl) (fun _ _ => ?_)
    refine r_iload_n C (j := 1) (oDec_at oX1_moved 8 rfl) rfl rfl ?_
    refine r_iload_n C (j := 2) (oDec_at oX1_moved 9 rfl) rfl rfl ?_
    refine r_pc C 19 rfl ?_
    refine r_iload_n C (j := 3) (oDec_at oX1_moved 10 rfl) rfl rfl ?_
    refine r_iload C (j := 4) (oDec_at oX1_moved 11 rfl) rfl ?_
    refine r_callSi C miX2_packMoves mlX1_110 (ct_X2_packMoves l E (s) a1 a2 a3 a4 ) (by decide) rfl rfl rfl (Nat.le_of_ble_eq_true rfl) (oDec_at oX1_moved 12 rfl) (fun r5 u4 pu4 fu4 => ?_)
    try dsimp only at pu4
    have rr5 := n_rng r5
    refine r_iast (n := 48) (lo := (-2147483648)) (hi := 2147483647) C rfl (by decide) rfl rfl ⟨by omega, by omega⟩ (by decide) rfl rfl rfl rfl (n_rng _) (oDec_at oX1_moved 13 rfl) ?_
    refine r_aload_n C (j := 0) (oDec_at oX1_moved 14 rfl) rfl rfl ?_
    refine r_dup C (oDec_at oX1_moved 15 rfl) rfl ?_
    refine r_pc C 28 rfl ?_
    refine r_geti (k := 6) (lo := 0) (hi := 48) C v1 oCl1 rfl (by decide) flX1_104 rfl rfl (((pI_ne (a := 35) (b := 6) (c := 39) _ _ (Or.inl (by decide)))).trans (((fu4 35 6 rfl).1).trans (ev1))) rfl rfl (oDec_at oX1_moved 16 rfl) (fun _ _ => ?_)
    refine r_iconst C (oDec_at oX1_moved 17 rfl) (v := k1) (by rw [qk1]; rfl) ?_
    obtain ⟨v6, ev6⟩ : ∃ z : Int32, z = v1 + k1 := ⟨_, rfl⟩
    have hv6 : v6.toInt = v1.toInt + k1.toInt := n_add ev6 (by omega) (by omega)
    refine r_iadd C v6 (oDec_at oX1_moved 18 rfl) ev6 ?_
    refine r_puti (k := 6) (lo := 0) (hi := 48) C oCl1 rfl (by decide) flX1_104 rfl rfl rfl rfl rfl rfl rfl rfl ⟨by omega, by omega⟩ (oDec_at oX1_moved 19 rfl) ?_
    exact r_vret C (oDec_at oX1_moved 20 rfl) ⟨rfl, trivial⟩
set_option maxHeartbeats 4000000 in
set_option maxRecDepth 100000 in
theorem ct_X1_tickOf (l : Launch) (E : oE) (s : oS) (a1 : Int32)  : oMet l 1 yX1_tickOf cX1_tickOf 2 (some .int) [] E s [.ref (oad E 35), .int a1] (oPi (fun r u => True)) := by
  refine oMet.of (lv := [(0, .ref (oad E 35)), (1, .int a1)]) (by decide +kernel) (Nat.le_of_ble_eq_true rfl) rfl (fun J C hT => ?_)
  have C : oC l 1 cX1_tickOf RX1 2 (some .int) [] E s (oPi (fun r u => True)) J := C
  obtain ⟨km1, qkm1⟩ : ∃ z : Int32, z = (-1) := ⟨_, rfl⟩
  have ekm1 : km1.toInt = (-1) := by rw [qkm1]; rfl
  obtain ⟨k48, qk48⟩ : ∃ z : Int32, z = 48 := ⟨_, rfl⟩
  have ek48 : k48.toInt = 48 := by rw [qk48]; rfl
  have rg1 := n_rng a1
  refine r_iload_n C (j := 1) (oDec_at oX1_tickOf 0 rfl) rfl rfl ?_
  refine r_if_lt C 27 (oDec_at oX1_tickOf 1 rfl) (by decide) (fun cd1 => ?_) (fun cd1 => ?_)
  · skip
    refine r_iconst C (oDec_at oX1_tickOf 14 rfl) (v := km1) (by rw [qkm1]; rfl) ?_
    exact r_iret C (oDec_at oX1_tickOf 15 rfl) ⟨_, rfl, trivial⟩
  · skip
    refine r_iload_n C (j := 1) (oDec_at oX1_tickOf 2 rfl) rfl rfl ?_
    refine r_aload_n C (j := 0) (oDec_at oX1_tickOf 3 rfl) rfl rfl ?_
    obtain ⟨v2, ev2⟩ : ∃ z : Int32, (s).1 35 6 = z := ⟨_, rfl⟩
    have gv2 : (s.1 35 6).toInt = v2.toInt := congrArg Int32.toInt (ev2)
    refine r_geti (k := 6) (lo := 0) (hi := 48) C v2 oCl1 rfl (by decide) flX1_104 rfl rfl (ev2) rfl rfl (oDec_at oX1_tickOf 4 rfl) (fun b3 b3h => ?_)
    refine r_icmp_ge C 27 (oDec_at oX1_tickOf 5 rfl) (by decide) (fun cd4 => ?_) (fun cd4 => ?_)
    · skip
      refine r_iconst C (oDec_at oX1_tickOf 14 rfl) (v := km1) (by rw [qkm1]; rfl) ?_
      exact r_iret C (oDec_at oX1_tickOf 15 rfl) ⟨_, rfl, trivial⟩
    · skip
      refine r_iload_n C (j := 1) (oDec_at oX1_tickOf 6 rfl) rfl rfl ?_
      refine r_bipush C (oDec_at oX1_tickOf 7 rfl) (v := k48) (by rw [qk48]; rfl) ?_
      refine r_icmp_ge C 27 (oDec_at oX1_tickOf 8 rfl) (by decide) (fun cd5 => ?_) (fun cd5 => ?_)
      · skip
        refine r_iconst C (oDec_at oX1_tickOf 14 rfl) (v := km1) (by rw [qkm1]; rfl) ?_
        exact r_iret C (oDec_at oX1_tickOf 15 rfl) ⟨_, rfl, trivial⟩
      · skip
        refine r_aload_n C (j := 0) (oDec_at oX1_tickOf 9 rfl) rfl rfl ?_
        refine r_getF (k := 0) (b := 36) C oCl1 rfl (by decide) flX1_11 rfl rfl rfl (oDec_at oX1_tickOf 10 rfl) ?_
        refine r_iload_n C (j := 1) (oDec_at oX1_tickOf 11 rfl) rfl rfl ?_
        obtain ⟨v6, ev6⟩ : ∃ z : Int32, (s).1 36 a1.toNatClampNeg = z := ⟨_, rfl⟩
        have rv6 := n_rng v6
        refine r_iald (n := 48) (lo := (-2147483648)) (hi := 2147483647) C v6 rfl (by decide) rfl rfl ⟨by omega, by omega⟩ (by decide) ev6 rfl rfl (oDec_at oX1_tickOf 12 rfl) (fun _ _ => ?_)
        refine r_goto C (tgt := 28) (oDec_at oX1_tickOf 13 rfl) (by decide) ?_
        exact r_iret C (oDec_at oX1_tickOf 15 rfl) ⟨_, rfl, trivial⟩
set_option maxHeartbeats 4000000 in
set_option maxRecDepth 100000 in
theorem ct_X1_hear (l : Launch) (E : oE) (s : oS) (c1 : Nat) (hk1 : okd c1 = 4) (a2 : Int32) (a3 : Int32) (a4 : Int32)  : oMet l 5 yX1_hear cX1_hear 16 none [(1, 6), (1, 7), (1, 8), (9, 0), (9, 1), (9, 2), (9, 3), (9, 4), (28, 9999), (29, 9999), (30, 9999), (31, 9999)] E s [.ref (oad E 35), .ref (oad E c1), .int a2, .int a3, .int a4] (oPv (fun u => True)) := by
  refine oMet.of (lv := [(0, .ref (oad E 35)), (1, .ref (oad E c1)), (2, .int a2), (3, .int a3), (4, .int a4)]) (by decide +kernel) (Nat.le_of_ble_eq_true rfl) rfl (fun J C hT => ?_)
  have C : oC l 5 cX1_hear RX1 16 none [(1, 6), (1, 7), (1, 8), (9, 0), (9, 1), (9, 2), (9, 3), (9, 4), (28, 9999), (29, 9999), (30, 9999), (31, 9999)] E s (oPv (fun u => True)) J := C
  obtain ⟨km1000000000, qkm1000000000⟩ : ∃ z : Int32, z = (-1000000000) := ⟨_, rfl⟩
  have ekm1000000000 : km1000000000.toInt = (-1000000000) := by rw [qkm1000000000]; rfl
  obtain ⟨k0, qk0⟩ : ∃ z : Int32, z = 0 := ⟨_, rfl⟩
  have ek0 : k0.toInt = 0 := by rw [qk0]; rfl
  obtain ⟨k1, qk1⟩ : ∃ z : Int32, z = 1 := ⟨_, rfl⟩
  have ek1 : k1.toInt = 1 := by rw [qk1]; rfl
  have rg2 := n_rng a2
  have rg3 := n_rng a3
  have rg4 := n_rng a4
  have key : ∀ n : Nat, (∀ (t : oS) (x6 : Int32) (x7 : Int32) (x8 : Int32) (x9 : Int32) (x10 : Int32) (x11 : Int32), x6.toInt - x11.toInt + 4294967296 ≤ (n : Int) → J t 103 [(0, .ref (oad E 35)), (1, .ref (oad E c1)), (2, .int a2), (6, .int x6), (7, .int x7), (8, .int x8), (9, .int x9), (10, .int x10), (11, .int x11)] []) := by
    intro n
    induction n using Nat.strongRecOn with
    | _ n ih =>
      skip
      · intro t x6 x7 x8 x9 x10 x11   hmu
        have rx6 := n_rng x6
        have rx7 := n_rng x7
        have rx8 := n_rng x8
        have rx9 := n_rng x9
        have rx10 := n_rng x10
        have rx11 := n_rng x11
        refine r_iload C (j := 8) (oDec_at oX1_hear 52 rfl) rfl ?_
        refine r_iload C (j := 3) (oDec_at oX1_hear 53 rfl) rfl ?_
        refine r_icmp_ge C 292 (oDec_at oX1_hear 54 rfl) (by decide) (fun cd1 => ?_) (fun cd1 => ?_)
        · skip
          exact r_vret C (oDec_at oX1_hear 147 rfl) ⟨rfl, trivial⟩
        · skip
          refine r_aload_n C (j := 0) (oDec_at oX1_hear 55 rfl) rfl rfl ?_
          refine r_getF (k := 4) (b := 40) C oCl1 rfl (by decide) flX1_27 rfl rfl rfl (oDec_at oX1_hear 56 rfl) ?_
          refine r_aload_n C (j := 1) (oDec_at oX1_hear 57 rfl) rfl rfl ?_
          refine r_iload C (j := 8) (oDec_at oX1_hear 58 rfl) rfl ?_
          refine r_iconst C (oDec_at oX1_hear 59 rfl) (v := k1) (by rw [qk1]; rfl) ?_
          obtain ⟨v2, ev2⟩ : ∃ z : Int32, z = x11 + k1 := ⟨_, rfl⟩
          have rv2 := n_rng v2
          refine r_iadd C v2 (oDec_at oX1_hear 60 rfl) ev2 ?_
          refine r_pc C 119 rfl ?_
          refine r_callVi C oCl9 rfl miX9_number mlX1_55 (ct_X9_number l E (t) 40 rfl c1 hk1 v2 ) (by decide) rfl rfl rfl (Nat.le_of_ble_eq_true rfl) (oDec_at oX1_hear 61 rfl) (fun r4 u3 pu3 fu3 => ?_)
          try dsimp only at pu3
          have rr4 := n_rng r4
          refine r_istore C (lv' := [(0, .ref (oad E 35)), (1, .ref (oad E c1)), (2, .int a2), (6, .int x6), (7, .int x7), (8, .int x8), (9, .int x9), (10, .int x10), (11, .int x11), (12, .int r4)]) [1, 2, 3, 4, 5, 6, 7, 8, 9, 0] (oDec_at oX1_hear 62 rfl) (by decide) rfl ?_
          refine r_aload_n C (j := 0) (oDec_at oX1_hear 63 rfl) rfl rfl ?_
          refine r_getF (k := 5) (b := 41) C oCl1 rfl (by decide) flX1_31 rfl rfl rfl (oDec_at oX1_hear 64 rfl) ?_
          refine r_aload_n C (j := 1) (oDec_at oX1_hear 65 rfl) rfl rfl ?_
          refine r_iload C (j := 8) (oDec_at oX1_hear 66 rfl) rfl ?_
          refine r_pc C 131 rfl ?_
          refine r_iconst C (oDec_at oX1_hear 67 rfl) (v := k1) (by rw [qk1]; rfl) ?_
          obtain ⟨v5, ev5⟩ : ∃ z : Int32, z = x11 + k1 := ⟨_, rfl⟩
          have rv5 := n_rng v5
          refine r_iadd C v5 (oDec_at oX1_hear 68 rfl) ev5 ?_
          refine r_callVi C oCl9 rfl miX9_number mlX1_55 (ct_X9_number l E (u3) 41 rfl c1 hk1 v5 ) (by decide) rfl rfl rfl (Nat.le_of_ble_eq_true rfl) (oDec_at oX1_hear 69 rfl) (fun r7 u6 pu6 fu6 => ?_)
          try dsimp only at pu6
          have rr7 := n_rng r7
          refine r_istore C (lv' := [(0, .ref (oad E 35)), (1, .ref (oad E c1)), (2, .int a2), (6, .int x6), (7, .int x7), (8, .int x8), (9, .int x9), (10, .int x10), (11, .int x11), (12, .int r4), (13, .int r7)]) [1, 2, 3, 4, 5, 6, 7, 8, 9, 10, 0] (oDec_at oX1_hear 70 rfl) (by decide) rfl ?_
          refine r_aload_n C (j := 0) (oDec_at oX1_hear 71 rfl) rfl rfl ?_
          refine r_aload_n C (j := 1) (oDec_at oX1_hear 72 rfl) rfl rfl ?_
          refine r_pc C 140 rfl ?_
          refine r_iload C (j := 6) (oDec_at oX1_hear 73 rfl) rfl ?_
          refine r_iload C (j := 7) (oDec_at oX1_hear 74 rfl) rfl ?_
          refine r_callVi C oCl1 rfl miX1_apartAt mlX1_59 (ct_X1_apartAt l E (u6) c1 hk1 x9 x10 ) (by decide) rfl rfl rfl (Nat.le_of_ble_eq_true rfl) (oDec_at oX1_hear 75 rfl) (fun r9 u8 pu8 fu8 => ?_)
          try dsimp only at pu8
          have rr9 := n_rng r9
          refine r_istore C (lv' := [(0, .ref (oad E 35)), (1, .ref (oad E c1)), (2, .int a2), (6, .int x6), (7, .int x7), (8, .int x8), (9, .int x9), (10, .int x10), (11, .int x11), (12, .int r4), (13, .int r7), (14, .int r9)]) [1, 2, 3, 4, 5, 6, 7, 8, 9, 10, 11, 0] (oDec_at oX1_hear 76 rfl) (by decide) rfl ?_
          refine r_iload C (j := 11) (oDec_at oX1_hear 77 rfl) rfl ?_
          refine r_ldc C (v := km1000000000) (by rw [qkm1000000000]; exact kcX1_63) (oDec_at oX1_hear 78 rfl) ?_
          refine r_pc C 153 rfl ?_
          refine r_icmp_eq C 270 (oDec_at oX1_hear 79 rfl) (by decide) (fun cd10 => ?_) (fun cd10 => ?_)
          · skip
            refine r_iload C (j := 6) (oDec_at oX1_hear 137 rfl) rfl ?_
            refine r_istore C (lv' := [(0, .ref (oad E 35)), (1, .ref (oad E c1)), (2, .int a2), (6, .int x6), (7, .int x9), (8, .int x8), (9, .int x9), (10, .int x10), (11, .int x11), (12, .int r4), (13, .int r7), (14, .int r9)]) [1, 2, 3, 4, 0, 5, 6, 7, 8, 9, 10, 11] (oDec_at oX1_hear 138 rfl) (by decide) rfl ?_
            refine r_iload C (j := 7) (oDec_at oX1_hear 139 rfl) rfl ?_
            refine r_istore C (lv' := [(0, .ref (oad E 35)), (1, .ref (oad E c1)), (2, .int a2), (6, .int x6), (7, .int x9), (8, .int x10), (9, .int x9), (10, .int x10), (11, .int x11), (12, .int r4), (13, .int r7), (14, .int r9)]) [1, 2, 3, 4, 5, 0, 6, 7, 8, 9, 10, 11] (oDec_at oX1_hear 140 rfl) (by decide) rfl ?_
            refine r_iload C (j := 9) (oDec_at oX1_hear 141 rfl) rfl ?_
            refine r_istore C (lv' := [(0, .ref (oad E 35)), (1, .ref (oad E c1)), (2, .int a2), (6, .int x6), (7, .int x9), (8, .int x10), (9, .int r4), (10, .int x10), (11, .int x11), (12, .int r4), (13, .int r7), (14, .int r9)]) [1, 2, 3, 4, 5, 6, 0, 7, 8, 9, 10, 11] (oDec_at oX1_hear 142 rfl) (by decide) rfl ?_
            refine r_pc C 282 rfl ?_
            refine r_iload C (j := 10) (oDec_at oX1_hear 143 rfl) rfl ?_
            refine r_istore C (lv' := [(0, .ref (oad E 35)), (1, .ref (oad E c1)), (2, .int a2), (6, .int x6), (7, .int x9), (8, .int x10), (9, .int r4), (10, .int r7), (11, .int x11), (12, .int r4), (13, .int r7), (14, .int r9)]) [1, 2, 3, 4, 5, 6, 7, 0, 8, 9, 10, 11] (oDec_at oX1_hear 144 rfl) (by decide) rfl ?_
            obtain ⟨v11, ev11⟩ : ∃ z : Int32, x11 + Int32.ofInt 1 = z := ⟨_, rfl⟩
            have hv11 : v11.toInt = x11.toInt + 1 := n_inc ev11 (by decide) (by omega) (by omega)
            refine r_iinc C (j := 8) (lv' := [(0, .ref (oad E 35)), (1, .ref (oad E c1)), (2, .int a2), (6, .int x6), (7, .int x9), (8, .int x10), (9, .int r4), (10, .int r7), (11, .int v11), (12, .int r4), (13, .int r7), (14, .int r9)]) v11 [1, 2, 3, 4, 5, 6, 7, 8, 0, 9, 10, 11] (oDec_at oX1_hear 145 rfl) rfl ev11 (by decide) rfl ?_
            refine r_goto C (tgt := 103) (oDec_at oX1_hear 146 rfl) (by decide) ?_
            refine r_pick C [0, 1, 2, 3, 4, 5, 6, 7, 8] rfl ?_
            exact (ih (n - 1) (by omega)) (u8) x6 x9 x10 r4 r7 v11   (by omega)
          · skip
            refine r_aload_n C (j := 0) (oDec_at oX1_hear 80 rfl) rfl rfl ?_
            refine r_dup C (oDec_at oX1_hear 81 rfl) rfl ?_
            obtain ⟨v12, ev12⟩ : ∃ z : Int32, (u8).1 35 7 = z := ⟨_, rfl⟩
            have gv12 : (t.1 35 7).toInt = v12.toInt := congrArg Int32.toInt ((((fu8 35 7 rfl).1).trans (((fu6 35 7 rfl).1).trans ((fu3 35 7 rfl).1))).symm.trans ev12)
            have rv12 := n_rng v12
            refine r_geti (k := 7) (lo := (-2147483648)) (hi := 2147483647) C v12 oCl1 rfl (by decide) flX1_64 rfl rfl (ev12) rfl rfl (oDec_at oX1_hear 82 rfl) (fun _ _ => ?_)
            refine r_iconst C (oDec_at oX1_hear 83 rfl) (v := k1) (by rw [qk1]; rfl) ?_
            obtain ⟨v13, ev13⟩ : ∃ z : Int32, z = v12 + k1 := ⟨_, rfl⟩
            have rv13 := n_rng v13
            refine r_iadd C v13 (oDec_at oX1_hear 84 rfl) ev13 ?_
            refine r_puti (k := 7) (lo := (-2147483648)) (hi := 2147483647) C oCl1 rfl (by decide) flX1_64 rfl rfl rfl rfl rfl rfl rfl rfl (n_rng _) (oDec_at oX1_hear 85 rfl) ?_
            refine r_pc C 166 rfl ?_
            refine r_aload_n C (j := 0) (oDec_at oX1_hear 86 rfl) rfl rfl ?_
            refine r_aload_n C (j := 0) (oDec_at oX1_hear 87 rfl) rfl rfl ?_
            obtain ⟨v14, ev14⟩ : ∃ z : Int32, ((pI u8 35 7 v13)).1 35 8 = z := ⟨_, rfl⟩
            have gv14 : (t.1 35 8).toInt = v14.toInt := congrArg Int32.toInt ((((pI_ne (a := 35) (b := 8) (c := 35) (k := 7) _ _ (Or.inr (by decide)))).trans (((fu8 35 8 rfl).1).trans (((fu6 35 8 rfl).1).trans ((fu3 35 8 rfl).1)))).symm.trans ev14)
            have rv14 := n_rng v14
            refine r_geti (k := 8) (lo := (-2147483648)) (hi := 2147483647) C v14 oCl1 rfl (by decide) flX1_67 rfl rfl (ev14) rfl rfl (oDec_at oX1_hear 88 rfl) (fun _ _ => ?_)
            refine r_iload C (j := 11) (oDec_at oX1_hear 89 rfl) rfl ?_
            refine r_callSi C miJ9_abs_0f7a4 mlX1_70 (ct_J9_abs_0f7a4 l E ((pI u8 35 7 v13)) r9 ) (by decide) rfl rfl rfl (Nat.le_of_ble_eq_true rfl) (oDec_at oX1_hear 90 rfl) (fun r16 u15 pu15 fu15 => ?_)
            try dsimp only at pu15
            have rr16 := n_rng r16
            refine r_callSi C miJ9_max_7cf53 mlX1_42 (ct_J9_max_7cf53 l E (u15) v14 r16 ) (by decide) rfl rfl rfl (Nat.le_of_ble_eq_true rfl) (oDec_at oX1_hear 91 rfl) (fun r18 u17 pu17 fu17 => ?_)
            try dsimp only at pu17
            have rr18 := n_rng r18
            refine r_pc C 179 rfl ?_
            refine r_puti (k := 8) (lo := (-2147483648)) (hi := 2147483647) C oCl1 rfl (by decide) flX1_67 rfl rfl rfl rfl rfl rfl rfl rfl (n_rng _) (oDec_at oX1_hear 92 rfl) ?_
            refine r_iload C (j := 6) (oDec_at oX1_hear 93 rfl) rfl ?_
            refine r_iload C (j := 4) (oDec_at oX1_hear 94 rfl) rfl ?_
            refine r_icmp_ne C 196 (oDec_at oX1_hear 95 rfl) (by decide) (fun cd19 => ?_) (fun cd19 => ?_)
            · skip
              refine r_aload_n C (j := 0) (oDec_at oX1_hear 99 rfl) rfl rfl ?_
              refine r_aload_n C (j := 1) (oDec_at oX1_hear 100 rfl) rfl rfl ?_
              refine r_iload C (j := 9) (oDec_at oX1_hear 101 rfl) rfl ?_
              refine r_iload C (j := 10) (oDec_at oX1_hear 102 rfl) rfl ?_
              refine r_callVi C oCl1 rfl miX1_apartAt mlX1_59 (ct_X1_apartAt l E ((pI u17 35 8 r18)) c1 hk1 r4 r7 ) (by decide) rfl rfl rfl (Nat.le_of_ble_eq_true rfl) (oDec_at oX1_hear 103 rfl) (fun r21 u20 pu20 fu20 => ?_)
              try dsimp only at pu20
              have rr21 := n_rng r21
              refine r_ldc C (v := km1000000000) (by rw [qkm1000000000]; exact kcX1_63) (oDec_at oX1_hear 104 rfl) ?_
              refine r_pc C 207 rfl ?_
              refine r_icmp_ne C 214 (oDec_at oX1_hear 105 rfl) (by decide) (fun cd22 => ?_) (fun cd22 => ?_)
              · skip
                refine r_iconst C (oDec_at oX1_hear 108 rfl) (v := k0) (by rw [qk0]; rfl) ?_
                refine r_istore C (lv' := [(0, .ref (oad E 35)), (1, .ref (oad E c1)), (2, .int a2), (6, .int x6), (7, .int x7), (8, .int x8), (9, .int x9), (10, .int x10), (11, .int x11), (12, .int r4), (13, .int r7), (14, .int r9), (15, .int k0)]) [1, 2, 3, 4, 5, 6, 7, 8, 9, 10, 11, 12, 0] (oDec_at oX1_hear 109 rfl) (by decide) rfl ?_
                refine r_aload_n C (j := 0) (oDec_at oX1_hear 110 rfl) rfl rfl ?_
                refine r_iload C (j := 8) (oDec_at oX1_hear 111 rfl) rfl ?_
                refine r_iload C (j := 11) (oDec_at oX1_hear 112 rfl) rfl ?_
                refine r_aload_n C (j := 0) (oDec_at oX1_hear 113 rfl) rfl rfl ?_
                refine r_pc C 223 rfl ?_
                refine r_aload_n C (j := 1) (oDec_at oX1_hear 114 rfl) rfl rfl ?_
                refine r_iload C (j := 4) (oDec_at oX1_hear 115 rfl) rfl ?_
                refine r_iload C (j := 5) (oDec_at oX1_hear 116 rfl) rfl ?_
                refine r_callVi C oCl1 rfl miX1_apartAt mlX1_59 (ct_X1_apartAt l E (u20) c1 hk1 x7 x8 ) (by decide) rfl rfl rfl (Nat.le_of_ble_eq_true rfl) (oDec_at oX1_hear 117 rfl) (fun r24 u23 pu23 fu23 => ?_)
                try dsimp only at pu23
                have rr24 := n_rng r24
                refine r_callVv C oCl1 rfl miX1_mark mlX1_74 (ct_X1_mark l E (u23) x11 r9 r24 ) (by decide) rfl rfl rfl (Nat.le_of_ble_eq_true rfl) (oDec_at oX1_hear 118 rfl) (fun u25 pu25 fu25 => ?_)
                try dsimp only at pu25
                refine r_aload_n C (j := 0) (oDec_at oX1_hear 119 rfl) rfl rfl ?_
                refine r_pc C 235 rfl ?_
                refine r_iload C (j := 8) (oDec_at oX1_hear 120 rfl) rfl ?_
                refine r_iload_n C (j := 2) (oDec_at oX1_hear 121 rfl) rfl rfl ?_
                refine r_callSi C miX1_beatOf mlX1_78 (ct_X1_beatOf l E (u25) x11 a2 ) (by decide) rfl rfl rfl (Nat.le_of_ble_eq_true rfl) (oDec_at oX1_hear 122 rfl) (fun r28 u27 pu27 fu27 => ?_)
                try dsimp only at pu27
                have rr28 := n_rng r28
                refine r_aload_n C (j := 0) (oDec_at oX1_hear 123 rfl) rfl rfl ?_
                refine r_getF (k := 4) (b := 40) C oCl1 rfl (by decide) flX1_27 rfl rfl rfl (oDec_at oX1_hear 124 rfl) ?_
                refine r_aload_n C (j := 1) (oDec_at oX1_hear 125 rfl) rfl rfl ?_
                refine r_pc C 246 rfl ?_
                refine r_iload C (j := 4) (oDec_at oX1_hear 126 rfl) rfl ?_
                refine r_iload C (j := 6) (oDec_at oX1_hear 127 rfl) rfl ?_
                refine r_callSi C miX1_rise mlX1_81 (ct_X1_rise l E (u27) 40 rfl c1 hk1 x7 x9 ) (by decide) rfl rfl rfl (Nat.le_of_ble_eq_true rfl) (oDec_at oX1_hear 128 rfl) (fun r30 u29 pu29 fu29 => ?_)
                try dsimp only at pu29
                have rr30 := n_rng r30
                refine r_aload_n C (j := 0) (oDec_at oX1_hear 129 rfl) rfl rfl ?_
                refine r_getF (k := 5) (b := 41) C oCl1 rfl (by decide) flX1_31 rfl rfl rfl (oDec_at oX1_hear 130 rfl) ?_
                refine r_aload_n C (j := 1) (oDec_at oX1_hear 131 rfl) rfl rfl ?_
                refine r_pc C 258 rfl ?_
                refine r_iload C (j := 5) (oDec_at oX1_hear 132 rfl) rfl ?_
                refine r_iload C (j := 7) (oDec_at oX1_hear 133 rfl) rfl ?_
                refine r_callSi C miX1_rise mlX1_81 (ct_X1_rise l E (u29) 41 rfl c1 hk1 x8 x10 ) (by decide) rfl rfl rfl (Nat.le_of_ble_eq_true rfl) (oDec_at oX1_hear 134 rfl) (fun r32 u31 pu31 fu31 => ?_)
                try dsimp only at pu31
                have rr32 := n_rng r32
                refine r_iload C (j := 12) (oDec_at oX1_hear 135 rfl) rfl ?_
                refine r_callVv C oCl1 rfl miX1_moved mlX1_85 (ct_X1_moved l E (u31) r28 r30 r32 k0 ) (by decide) rfl rfl rfl (Nat.le_of_ble_eq_true rfl) (oDec_at oX1_hear 136 rfl) (fun u33 pu33 fu33 => ?_)
                try dsimp only at pu33
                refine r_iload C (j := 6) (oDec_at oX1_hear 137 rfl) rfl ?_
                refine r_pc C 272 rfl ?_
                refine r_istore C (lv' := [(0, .ref (oad E 35)), (1, .ref (oad E c1)), (2, .int a2), (6, .int x6), (7, .int x9), (8, .int x8), (9, .int x9), (10, .int x10), (11, .int x11), (12, .int r4), (13, .int r7), (14, .int r9), (15, .int k0)]) [1, 2, 3, 4, 0, 5, 6, 7, 8, 9, 10, 11, 12] (oDec_at oX1_hear 138 rfl) (by decide) rfl ?_
                refine r_iload C (j := 7) (oDec_at oX1_hear 139 rfl) rfl ?_
                refine r_istore C (lv' := [(0, .ref (oad E 35)), (1, .ref (oad E c1)), (2, .int a2), (6, .int x6), (7, .int x9), (8, .int x10), (9, .int x9), (10, .int x10), (11, .int x11), (12, .int r4), (13, .int r7), (14, .int r9), (15, .int k0)]) [1, 2, 3, 4, 5, 0, 6, 7, 8, 9, 10, 11, 12] (oDec_at oX1_hear 140 rfl) (by decide) rfl ?_
                refine r_iload C (j := 9) (oDec_at oX1_hear 141 rfl) rfl ?_
                refine r_istore C (lv' := [(0, .ref (oad E 35)), (1, .ref (oad E c1)), (2, .int a2), (6, .int x6), (7, .int x9), (8, .int x10), (9, .int r4), (10, .int x10), (11, .int x11), (12, .int r4), (13, .int r7), (14, .int r9), (15, .int k0)]) [1, 2, 3, 4, 5, 6, 0, 7, 8, 9, 10, 11, 12] (oDec_at oX1_hear 142 rfl) (by decide) rfl ?_
                refine r_iload C (j := 10) (oDec_at oX1_hear 143 rfl) rfl ?_
                refine r_pc C 284 rfl ?_
                refine r_istore C (lv' := [(0, .ref (oad E 35)), (1, .ref (oad E c1)), (2, .int a2), (6, .int x6), (7, .int x9), (8, .int x10), (9, .int r4), (10, .int r7), (11, .int x11), (12, .int r4), (13, .int r7), (14, .int r9), (15, .int k0)]) [1, 2, 3, 4, 5, 6, 7, 0, 8, 9, 10, 11, 12] (oDec_at oX1_hear 144 rfl) (by decide) rfl ?_
                obtain ⟨v35, ev35⟩ : ∃ z : Int32, x11 + Int32.ofInt 1 = z := ⟨_, rfl⟩
                have hv35 : v35.toInt = x11.toInt + 1 := n_inc ev35 (by decide) (by omega) (by omega)
                refine r_iinc C (j := 8) (lv' := [(0, .ref (oad E 35)), (1, .ref (oad E c1)), (2, .int a2), (6, .int x6), (7, .int x9), (8, .int x10), (9, .int r4), (10, .int r7), (11, .int v35), (12, .int r4), (13, .int r7), (14, .int r9), (15, .int k0)]) v35 [1, 2, 3, 4, 5, 6, 7, 8, 0, 9, 10, 11, 12] (oDec_at oX1_hear 145 rfl) rfl ev35 (by decide) rfl ?_
                refine r_goto C (tgt := 103) (oDec_at oX1_hear 146 rfl) (by decide) ?_
                refine r_pick C [0, 1, 2, 3, 4, 5, 6, 7, 8] rfl ?_
                exact (ih (n - 1) (by omega)) (u33) x6 x9 x10 r4 r7 v35   (by omega)
              · skip
                refine r_iconst C (oDec_at oX1_hear 106 rfl) (v := k1) (by rw [qk1]; rfl) ?_
                refine r_goto C (tgt := 215) (oDec_at oX1_hear 107 rfl) (by decide) ?_
                refine r_istore C (lv' := [(0, .ref (oad E 35)), (1, .ref (oad E c1)), (2, .int a2), (6, .int x6), (7, .int x7), (8, .int x8), (9, .int x9), (10, .int x10), (11, .int x11), (12, .int r4), (13, .int r7), (14, .int r9), (15, .int k1)]) [1, 2, 3, 4, 5, 6, 7, 8, 9, 10, 11, 12, 0] (oDec_at oX1_hear 109 rfl) (by decide) rfl ?_
                refine r_aload_n C (j := 0) (oDec_at oX1_hear 110 rfl) rfl rfl ?_
                refine r_iload C (j := 8) (oDec_at oX1_hear 111 rfl) rfl ?_
                refine r_iload C (j := 11) (oDec_at oX1_hear 112 rfl) rfl ?_
                refine r_aload_n C (j := 0) (oDec_at oX1_hear 113 rfl) rfl rfl ?_
                refine r_pc C 223 rfl ?_
                refine r_aload_n C (j := 1) (oDec_at oX1_hear 114 rfl) rfl rfl ?_
                refine r_iload C (j := 4) (oDec_at oX1_hear 115 rfl) rfl ?_
                refine r_iload C (j := 5) (oDec_at oX1_hear 116 rfl) rfl ?_
                refine r_callVi C oCl1 rfl miX1_apartAt mlX1_59 (ct_X1_apartAt l E (u20) c1 hk1 x7 x8 ) (by decide) rfl rfl rfl (Nat.le_of_ble_eq_true rfl) (oDec_at oX1_hear 117 rfl) (fun r37 u36 pu36 fu36 => ?_)
                try dsimp only at pu36
                have rr37 := n_rng r37
                refine r_callVv C oCl1 rfl miX1_mark mlX1_74 (ct_X1_mark l E (u36) x11 r9 r37 ) (by decide) rfl rfl rfl (Nat.le_of_ble_eq_true rfl) (oDec_at oX1_hear 118 rfl) (fun u38 pu38 fu38 => ?_)
                try dsimp only at pu38
                refine r_aload_n C (j := 0) (oDec_at oX1_hear 119 rfl) rfl rfl ?_
                refine r_pc C 235 rfl ?_
                refine r_iload C (j := 8) (oDec_at oX1_hear 120 rfl) rfl ?_
                refine r_iload_n C (j := 2) (oDec_at oX1_hear 121 rfl) rfl rfl ?_
                refine r_callSi C miX1_beatOf mlX1_78 (ct_X1_beatOf l E (u38) x11 a2 ) (by decide) rfl rfl rfl (Nat.le_of_ble_eq_true rfl) (oDec_at oX1_hear 122 rfl) (fun r41 u40 pu40 fu40 => ?_)
                try dsimp only at pu40
                have rr41 := n_rng r41
                refine r_aload_n C (j := 0) (oDec_at oX1_hear 123 rfl) rfl rfl ?_
                refine r_getF (k := 4) (b := 40) C oCl1 rfl (by decide) flX1_27 rfl rfl rfl (oDec_at oX1_hear 124 rfl) ?_
                refine r_aload_n C (j := 1) (oDec_at oX1_hear 125 rfl) rfl rfl ?_
                refine r_pc C 246 rfl ?_
                refine r_iload C (j := 4) (oDec_at oX1_hear 126 rfl) rfl ?_
                refine r_iload C (j := 6) (oDec_at oX1_hear 127 rfl) rfl ?_
                refine r_callSi C miX1_rise mlX1_81 (ct_X1_rise l E (u40) 40 rfl c1 hk1 x7 x9 ) (by decide) rfl rfl rfl (Nat.le_of_ble_eq_true rfl) (oDec_at oX1_hear 128 rfl) (fun r43 u42 pu42 fu42 => ?_)
                try dsimp only at pu42
                have rr43 := n_rng r43
                refine r_aload_n C (j := 0) (oDec_at oX1_hear 129 rfl) rfl rfl ?_
                refine r_getF (k := 5) (b := 41) C oCl1 rfl (by decide) flX1_31 rfl rfl rfl (oDec_at oX1_hear 130 rfl) ?_
                refine r_aload_n C (j := 1) (oDec_at oX1_hear 131 rfl) rfl rfl ?_
                refine r_pc C 258 rfl ?_
                refine r_iload C (j := 5) (oDec_at oX1_hear 132 rfl) rfl ?_
                refine r_iload C (j := 7) (oDec_at oX1_hear 133 rfl) rfl ?_
                refine r_callSi C miX1_rise mlX1_81 (ct_X1_rise l E (u42) 41 rfl c1 hk1 x8 x10 ) (by decide) rfl rfl rfl (Nat.le_of_ble_eq_true rfl) (oDec_at oX1_hear 134 rfl) (fun r45 u44 pu44 fu44 => ?_)
                try dsimp only at pu44
                have rr45 := n_rng r45
                refine r_iload C (j := 12) (oDec_at oX1_hear 135 rfl) rfl ?_
                refine r_callVv C oCl1 rfl miX1_moved mlX1_85 (ct_X1_moved l E (u44) r41 r43 r45 k1 ) (by decide) rfl rfl rfl (Nat.le_of_ble_eq_true rfl) (oDec_at oX1_hear 136 rfl) (fun u46 pu46 fu46 => ?_)
                try dsimp only at pu46
                refine r_iload C (j := 6) (oDec_at oX1_hear 137 rfl) rfl ?_
                refine r_pc C 272 rfl ?_
                refine r_istore C (lv' := [(0, .ref (oad E 35)), (1, .ref (oad E c1)), (2, .int a2), (6, .int x6), (7, .int x9), (8, .int x8), (9, .int x9), (10, .int x10), (11, .int x11), (12, .int r4), (13, .int r7), (14, .int r9), (15, .int k1)]) [1, 2, 3, 4, 0, 5, 6, 7, 8, 9, 10, 11, 12] (oDec_at oX1_hear 138 rfl) (by decide) rfl ?_
                refine r_iload C (j := 7) (oDec_at oX1_hear 139 rfl) rfl ?_
                refine r_istore C (lv' := [(0, .ref (oad E 35)), (1, .ref (oad E c1)), (2, .int a2), (6, .int x6), (7, .int x9), (8, .int x10), (9, .int x9), (10, .int x10), (11, .int x11), (12, .int r4), (13, .int r7), (14, .int r9), (15, .int k1)]) [1, 2, 3, 4, 5, 0, 6, 7, 8, 9, 10, 11, 12] (oDec_at oX1_hear 140 rfl) (by decide) rfl ?_
                refine r_iload C (j := 9) (oDec_at oX1_hear 141 rfl) rfl ?_
                refine r_istore C (lv' := [(0, .ref (oad E 35)), (1, .ref (oad E c1)), (2, .int a2), (6, .int x6), (7, .int x9), (8, .int x10), (9, .int r4), (10, .int x10), (11, .int x11), (12, .int r4), (13, .int r7), (14, .int r9), (15, .int k1)]) [1, 2, 3, 4, 5, 6, 0, 7, 8, 9, 10, 11, 12] (oDec_at oX1_hear 142 rfl) (by decide) rfl ?_
                refine r_iload C (j := 10) (oDec_at oX1_hear 143 rfl) rfl ?_
                refine r_pc C 284 rfl ?_
                refine r_istore C (lv' := [(0, .ref (oad E 35)), (1, .ref (oad E c1)), (2, .int a2), (6, .int x6), (7, .int x9), (8, .int x10), (9, .int r4), (10, .int r7), (11, .int x11), (12, .int r4), (13, .int r7), (14, .int r9), (15, .int k1)]) [1, 2, 3, 4, 5, 6, 7, 0, 8, 9, 10, 11, 12] (oDec_at oX1_hear 144 rfl) (by decide) rfl ?_
                obtain ⟨v48, ev48⟩ : ∃ z : Int32, x11 + Int32.ofInt 1 = z := ⟨_, rfl⟩
                have hv48 : v48.toInt = x11.toInt + 1 := n_inc ev48 (by decide) (by omega) (by omega)
                refine r_iinc C (j := 8) (lv' := [(0, .ref (oad E 35)), (1, .ref (oad E c1)), (2, .int a2), (6, .int x6), (7, .int x9), (8, .int x10), (9, .int r4), (10, .int r7), (11, .int v48), (12, .int r4), (13, .int r7), (14, .int r9), (15, .int k1)]) v48 [1, 2, 3, 4, 5, 6, 7, 8, 0, 9, 10, 11, 12] (oDec_at oX1_hear 145 rfl) rfl ev48 (by decide) rfl ?_
                refine r_goto C (tgt := 103) (oDec_at oX1_hear 146 rfl) (by decide) ?_
                refine r_pick C [0, 1, 2, 3, 4, 5, 6, 7, 8] rfl ?_
                exact (ih (n - 1) (by omega)) (u46) x6 x9 x10 r4 r7 v48   (by omega)
            · skip
              refine r_iload C (j := 7) (oDec_at oX1_hear 96 rfl) rfl ?_
              refine r_iload C (j := 5) (oDec_at oX1_hear 97 rfl) rfl ?_
              refine r_icmp_eq C 270 (oDec_at oX1_hear 98 rfl) (by decide) (fun cd49 => ?_) (fun cd49 => ?_)
              · skip
                refine r_iload C (j := 6) (oDec_at oX1_hear 137 rfl) rfl ?_
                refine r_istore C (lv' := [(0, .ref (oad E 35)), (1, .ref (oad E c1)), (2, .int a2), (6, .int x6), (7, .int x9), (8, .int x8), (9, .int x9), (10, .int x10), (11, .int x11), (12, .int r4), (13, .int r7), (14, .int r9)]) [1, 2, 3, 4, 0, 5, 6, 7, 8, 9, 10, 11] (oDec_at oX1_hear 138 rfl) (by decide) rfl ?_
                refine r_iload C (j := 7) (oDec_at oX1_hear 139 rfl) rfl ?_
                refine r_istore C (lv' := [(0, .ref (oad E 35)), (1, .ref (oad E c1)), (2, .int a2), (6, .int x6), (7, .int x9), (8, .int x10), (9, .int x9), (10, .int x10), (11, .int x11), (12, .int r4), (13, .int r7), (14, .int r9)]) [1, 2, 3, 4, 5, 0, 6, 7, 8, 9, 10, 11] (oDec_at oX1_hear 140 rfl) (by decide) rfl ?_
                refine r_iload C (j := 9) (oDec_at oX1_hear 141 rfl) rfl ?_
                refine r_istore C (lv' := [(0, .ref (oad E 35)), (1, .ref (oad E c1)), (2, .int a2), (6, .int x6), (7, .int x9), (8, .int x10), (9, .int r4), (10, .int x10), (11, .int x11), (12, .int r4), (13, .int r7), (14, .int r9)]) [1, 2, 3, 4, 5, 6, 0, 7, 8, 9, 10, 11] (oDec_at oX1_hear 142 rfl) (by decide) rfl ?_
                refine r_pc C 282 rfl ?_
                refine r_iload C (j := 10) (oDec_at oX1_hear 143 rfl) rfl ?_
                refine r_istore C (lv' := [(0, .ref (oad E 35)), (1, .ref (oad E c1)), (2, .int a2), (6, .int x6), (7, .int x9), (8, .int x10), (9, .int r4), (10, .int r7), (11, .int x11), (12, .int r4), (13, .int r7), (14, .int r9)]) [1, 2, 3, 4, 5, 6, 7, 0, 8, 9, 10, 11] (oDec_at oX1_hear 144 rfl) (by decide) rfl ?_
                obtain ⟨v50, ev50⟩ : ∃ z : Int32, x11 + Int32.ofInt 1 = z := ⟨_, rfl⟩
                have hv50 : v50.toInt = x11.toInt + 1 := n_inc ev50 (by decide) (by omega) (by omega)
                refine r_iinc C (j := 8) (lv' := [(0, .ref (oad E 35)), (1, .ref (oad E c1)), (2, .int a2), (6, .int x6), (7, .int x9), (8, .int x10), (9, .int r4), (10, .int r7), (11, .int v50), (12, .int r4), (13, .int r7), (14, .int r9)]) v50 [1, 2, 3, 4, 5, 6, 7, 8, 0, 9, 10, 11] (oDec_at oX1_hear 145 rfl) rfl ev50 (by decide) rfl ?_
                refine r_goto C (tgt := 103) (oDec_at oX1_hear 146 rfl) (by decide) ?_
                refine r_pick C [0, 1, 2, 3, 4, 5, 6, 7, 8] rfl ?_
                exact (ih (n - 1) (by omega)) ((pI u17 35 8 r18)) x6 x9 x10 r4 r7 v50   (by omega)
              · skip
                refine r_aload_n C (j := 0) (oDec_at oX1_hear 99 rfl) rfl rfl ?_
                refine r_aload_n C (j := 1) (oDec_at oX1_hear 100 rfl) rfl rfl ?_
                refine r_iload C (j := 9) (oDec_at oX1_hear 101 rfl) rfl ?_
                refine r_iload C (j := 10) (oDec_at oX1_hear 102 rfl) rfl ?_
                refine r_callVi C oCl1 rfl miX1_apartAt mlX1_59 (ct_X1_apartAt l E ((pI u17 35 8 r18)) c1 hk1 r4 r7 ) (by decide) rfl rfl rfl (Nat.le_of_ble_eq_true rfl) (oDec_at oX1_hear 103 rfl) (fun r52 u51 pu51 fu51 => ?_)
                try dsimp only at pu51
                have rr52 := n_rng r52
                refine r_ldc C (v := km1000000000) (by rw [qkm1000000000]; exact kcX1_63) (oDec_at oX1_hear 104 rfl) ?_
                refine r_pc C 207 rfl ?_
                refine r_icmp_ne C 214 (oDec_at oX1_hear 105 rfl) (by decide) (fun cd53 => ?_) (fun cd53 => ?_)
                · skip
                  refine r_iconst C (oDec_at oX1_hear 108 rfl) (v := k0) (by rw [qk0]; rfl) ?_
                  refine r_istore C (lv' := [(0, .ref (oad E 35)), (1, .ref (oad E c1)), (2, .int a2), (6, .int x6), (7, .int x7), (8, .int x8), (9, .int x9), (10, .int x10), (11, .int x11), (12, .int r4), (13, .int r7), (14, .int r9), (15, .int k0)]) [1, 2, 3, 4, 5, 6, 7, 8, 9, 10, 11, 12, 0] (oDec_at oX1_hear 109 rfl) (by decide) rfl ?_
                  refine r_aload_n C (j := 0) (oDec_at oX1_hear 110 rfl) rfl rfl ?_
                  refine r_iload C (j := 8) (oDec_at oX1_hear 111 rfl) rfl ?_
                  refine r_iload C (j := 11) (oDec_at oX1_hear 112 rfl) rfl ?_
                  refine r_aload_n C (j := 0) (oDec_at oX1_hear 113 rfl) rfl rfl ?_
                  refine r_pc C 223 rfl ?_
                  refine r_aload_n C (j := 1) (oDec_at oX1_hear 114 rfl) rfl rfl ?_
                  refine r_iload C (j := 4) (oDec_at oX1_hear 115 rfl) rfl ?_
                  refine r_iload C (j := 5) (oDec_at oX1_hear 116 rfl) rfl ?_
                  refine r_callVi C oCl1 rfl miX1_apartAt mlX1_59 (ct_X1_apartAt l E (u51) c1 hk1 x7 x8 ) (by decide) rfl rfl rfl (Nat.le_of_ble_eq_true rfl) (oDec_at oX1_hear 117 rfl) (fun r55 u54 pu54 fu54 => ?_)
                  try dsimp only at pu54
                  have rr55 := n_rng r55
                  refine r_callVv C oCl1 rfl miX1_mark mlX1_74 (ct_X1_mark l E (u54) x11 r9 r55 ) (by decide) rfl rfl rfl (Nat.le_of_ble_eq_true rfl) (oDec_at oX1_hear 118 rfl) (fun u56 pu56 fu56 => ?_)
                  try dsimp only at pu56
                  refine r_aload_n C (j := 0) (oDec_at oX1_hear 119 rfl) rfl rfl ?_
                  refine r_pc C 235 rfl ?_
                  refine r_iload C (j := 8) (oDec_at oX1_hear 120 rfl) rfl ?_
                  refine r_iload_n C (j := 2) (oDec_at oX1_hear 121 rfl) rfl rfl ?_
                  refine r_callSi C miX1_beatOf mlX1_78 (ct_X1_beatOf l E (u56) x11 a2 ) (by decide) rfl rfl rfl (Nat.le_of_ble_eq_true rfl) (oDec_at oX1_hear 122 rfl) (fun r59 u58 pu58 fu58 => ?_)
                  try dsimp only at pu58
                  have rr59 := n_rng r59
                  refine r_aload_n C (j := 0) (oDec_at oX1_hear 123 rfl) rfl rfl ?_
                  refine r_getF (k := 4) (b := 40) C oCl1 rfl (by decide) flX1_27 rfl rfl rfl (oDec_at oX1_hear 124 rfl) ?_
                  refine r_aload_n C (j := 1) (oDec_at oX1_hear 125 rfl) rfl rfl ?_
                  refine r_pc C 246 rfl ?_
                  refine r_iload C (j := 4) (oDec_at oX1_hear 126 rfl) rfl ?_
                  refine r_iload C (j := 6) (oDec_at oX1_hear 127 rfl) rfl ?_
                  refine r_callSi C miX1_rise mlX1_81 (ct_X1_rise l E (u58) 40 rfl c1 hk1 x7 x9 ) (by decide) rfl rfl rfl (Nat.le_of_ble_eq_true rfl) (oDec_at oX1_hear 128 rfl) (fun r61 u60 pu60 fu60 => ?_)
                  try dsimp only at pu60
                  have rr61 := n_rng r61
                  refine r_aload_n C (j := 0) (oDec_at oX1_hear 129 rfl) rfl rfl ?_
                  refine r_getF (k := 5) (b := 41) C oCl1 rfl (by decide) flX1_31 rfl rfl rfl (oDec_at oX1_hear 130 rfl) ?_
                  refine r_aload_n C (j := 1) (oDec_at oX1_hear 131 rfl) rfl rfl ?_
                  refine r_pc C 258 rfl ?_
                  refine r_iload C (j := 5) (oDec_at oX1_hear 132 rfl) rfl ?_
                  refine r_iload C (j := 7) (oDec_at oX1_hear 133 rfl) rfl ?_
                  refine r_callSi C miX1_rise mlX1_81 (ct_X1_rise l E (u60) 41 rfl c1 hk1 x8 x10 ) (by decide) rfl rfl rfl (Nat.le_of_ble_eq_true rfl) (oDec_at oX1_hear 134 rfl) (fun r63 u62 pu62 fu62 => ?_)
                  try dsimp only at pu62
                  have rr63 := n_rng r63
                  refine r_iload C (j := 12) (oDec_at oX1_hear 135 rfl) rfl ?_
                  refine r_callVv C oCl1 rfl miX1_moved mlX1_85 (ct_X1_moved l E (u62) r59 r61 r63 k0 ) (by decide) rfl rfl rfl (Nat.le_of_ble_eq_true rfl) (oDec_at oX1_hear 136 rfl) (fun u64 pu64 fu64 => ?_)
                  try dsimp only at pu64
                  refine r_iload C (j := 6) (oDec_at oX1_hear 137 rfl) rfl ?_
                  refine r_pc C 272 rfl ?_
                  refine r_istore C (lv' := [(0, .ref (oad E 35)), (1, .ref (oad E c1)), (2, .int a2), (6, .int x6), (7, .int x9), (8, .int x8), (9, .int x9), (10, .int x10), (11, .int x11), (12, .int r4), (13, .int r7), (14, .int r9), (15, .int k0)]) [1, 2, 3, 4, 0, 5, 6, 7, 8, 9, 10, 11, 12] (oDec_at oX1_hear 138 rfl) (by decide) rfl ?_
                  refine r_iload C (j := 7) (oDec_at oX1_hear 139 rfl) rfl ?_
                  refine r_istore C (lv' := [(0, .ref (oad E 35)), (1, .ref (oad E c1)), (2, .int a2), (6, .int x6), (7, .int x9), (8, .int x10), (9, .int x9), (10, .int x10), (11, .int x11), (12, .int r4), (13, .int r7), (14, .int r9), (15, .int k0)]) [1, 2, 3, 4, 5, 0, 6, 7, 8, 9, 10, 11, 12] (oDec_at oX1_hear 140 rfl) (by decide) rfl ?_
                  refine r_iload C (j := 9) (oDec_at oX1_hear 141 rfl) rfl ?_
                  refine r_istore C (lv' := [(0, .ref (oad E 35)), (1, .ref (oad E c1)), (2, .int a2), (6, .int x6), (7, .int x9), (8, .int x10), (9, .int r4), (10, .int x10), (11, .int x11), (12, .int r4), (13, .int r7), (14, .int r9), (15, .int k0)]) [1, 2, 3, 4, 5, 6, 0, 7, 8, 9, 10, 11, 12] (oDec_at oX1_hear 142 rfl) (by decide) rfl ?_
                  refine r_iload C (j := 10) (oDec_at oX1_hear 143 rfl) rfl ?_
                  refine r_pc C 284 rfl ?_
                  refine r_istore C (lv' := [(0, .ref (oad E 35)), (1, .ref (oad E c1)), (2, .int a2), (6, .int x6), (7, .int x9), (8, .int x10), (9, .int r4), (10, .int r7), (11, .int x11), (12, .int r4), (13, .int r7), (14, .int r9), (15, .int k0)]) [1, 2, 3, 4, 5, 6, 7, 0, 8, 9, 10, 11, 12] (oDec_at oX1_hear 144 rfl) (by decide) rfl ?_
                  obtain ⟨v66, ev66⟩ : ∃ z : Int32, x11 + Int32.ofInt 1 = z := ⟨_, rfl⟩
                  have hv66 : v66.toInt = x11.toInt + 1 := n_inc ev66 (by decide) (by omega) (by omega)
                  refine r_iinc C (j := 8) (lv' := [(0, .ref (oad E 35)), (1, .ref (oad E c1)), (2, .int a2), (6, .int x6), (7, .int x9), (8, .int x10), (9, .int r4), (10, .int r7), (11, .int v66), (12, .int r4), (13, .int r7), (14, .int r9), (15, .int k0)]) v66 [1, 2, 3, 4, 5, 6, 7, 8, 0, 9, 10, 11, 12] (oDec_at oX1_hear 145 rfl) rfl ev66 (by decide) rfl ?_
                  refine r_goto C (tgt := 103) (oDec_at oX1_hear 146 rfl) (by decide) ?_
                  refine r_pick C [0, 1, 2, 3, 4, 5, 6, 7, 8] rfl ?_
                  exact (ih (n - 1) (by omega)) (u64) x6 x9 x10 r4 r7 v66   (by omega)
                · skip
                  refine r_iconst C (oDec_at oX1_hear 106 rfl) (v := k1) (by rw [qk1]; rfl) ?_
                  refine r_goto C (tgt := 215) (oDec_at oX1_hear 107 rfl) (by decide) ?_
                  refine r_istore C (lv' := [(0, .ref (oad E 35)), (1, .ref (oad E c1)), (2, .int a2), (6, .int x6), (7, .int x7), (8, .int x8), (9, .int x9), (10, .int x10), (11, .int x11), (12, .int r4), (13, .int r7), (14, .int r9), (15, .int k1)]) [1, 2, 3, 4, 5, 6, 7, 8, 9, 10, 11, 12, 0] (oDec_at oX1_hear 109 rfl) (by decide) rfl ?_
                  refine r_aload_n C (j := 0) (oDec_at oX1_hear 110 rfl) rfl rfl ?_
                  refine r_iload C (j := 8) (oDec_at oX1_hear 111 rfl) rfl ?_
                  refine r_iload C (j := 11) (oDec_at oX1_hear 112 rfl) rfl ?_
                  refine r_aload_n C (j := 0) (oDec_at oX1_hear 113 rfl) rfl rfl ?_
                  refine r_pc C 223 rfl ?_
                  refine r_aload_n C (j := 1) (oDec_at oX1_hear 114 rfl) rfl rfl ?_
                  refine r_iload C (j := 4) (oDec_at oX1_hear 115 rfl) rfl ?_
                  refine r_iload C (j := 5) (oDec_at oX1_hear 116 rfl) rfl ?_
                  refine r_callVi C oCl1 rfl miX1_apartAt mlX1_59 (ct_X1_apartAt l E (u51) c1 hk1 x7 x8 ) (by decide) rfl rfl rfl (Nat.le_of_ble_eq_true rfl) (oDec_at oX1_hear 117 rfl) (fun r68 u67 pu67 fu67 => ?_)
                  try dsimp only at pu67
                  have rr68 := n_rng r68
                  refine r_callVv C oCl1 rfl miX1_mark mlX1_74 (ct_X1_mark l E (u67) x11 r9 r68 ) (by decide) rfl rfl rfl (Nat.le_of_ble_eq_true rfl) (oDec_at oX1_hear 118 rfl) (fun u69 pu69 fu69 => ?_)
                  try dsimp only at pu69
                  refine r_aload_n C (j := 0) (oDec_at oX1_hear 119 rfl) rfl rfl ?_
                  refine r_pc C 235 rfl ?_
                  refine r_iload C (j := 8) (oDec_at oX1_hear 120 rfl) rfl ?_
                  refine r_iload_n C (j := 2) (oDec_at oX1_hear 121 rfl) rfl rfl ?_
                  refine r_callSi C miX1_beatOf mlX1_78 (ct_X1_beatOf l E (u69) x11 a2 ) (by decide) rfl rfl rfl (Nat.le_of_ble_eq_true rfl) (oDec_at oX1_hear 122 rfl) (fun r72 u71 pu71 fu71 => ?_)
                  try dsimp only at pu71
                  have rr72 := n_rng r72
                  refine r_aload_n C (j := 0) (oDec_at oX1_hear 123 rfl) rfl rfl ?_
                  refine r_getF (k := 4) (b := 40) C oCl1 rfl (by decide) flX1_27 rfl rfl rfl (oDec_at oX1_hear 124 rfl) ?_
                  refine r_aload_n C (j := 1) (oDec_at oX1_hear 125 rfl) rfl rfl ?_
                  refine r_pc C 246 rfl ?_
                  refine r_iload C (j := 4) (oDec_at oX1_hear 126 rfl) rfl ?_
                  refine r_iload C (j := 6) (oDec_at oX1_hear 127 rfl) rfl ?_
                  refine r_callSi C miX1_rise mlX1_81 (ct_X1_rise l E (u71) 40 rfl c1 hk1 x7 x9 ) (by decide) rfl rfl rfl (Nat.le_of_ble_eq_true rfl) (oDec_at oX1_hear 128 rfl) (fun r74 u73 pu73 fu73 => ?_)
                  try dsimp only at pu73
                  have rr74 := n_rng r74
                  refine r_aload_n C (j := 0) (oDec_at oX1_hear 129 rfl) rfl rfl ?_
                  refine r_getF (k := 5) (b := 41) C oCl1 rfl (by decide) flX1_31 rfl rfl rfl (oDec_at oX1_hear 130 rfl) ?_
                  refine r_aload_n C (j := 1) (oDec_at oX1_hear 131 rfl) rfl rfl ?_
                  refine r_pc C 258 rfl ?_
                  refine r_iload C (j := 5) (oDec_at oX1_hear 132 rfl) rfl ?_
                  refine r_iload C (j := 7) (oDec_at oX1_hear 133 rfl) rfl ?_
                  refine r_callSi C miX1_rise mlX1_81 (ct_X1_rise l E (u73) 41 rfl c1 hk1 x8 x10 ) (by decide) rfl rfl rfl (Nat.le_of_ble_eq_true rfl) (oDec_at oX1_hear 134 rfl) (fun r76 u75 pu75 fu75 => ?_)
                  try dsimp only at pu75
                  have rr76 := n_rng r76
                  refine r_iload C (j := 12) (oDec_at oX1_hear 135 rfl) rfl ?_
                  refine r_callVv C oCl1 rfl miX1_moved mlX1_85 (ct_X1_moved l E (u75) r72 r74 r76 k1 ) (by decide) rfl rfl rfl (Nat.le_of_ble_eq_true rfl) (oDec_at oX1_hear 136 rfl) (fun u77 pu77 fu77 => ?_)
                  try dsimp only at pu77
                  refine r_iload C (j := 6) (oDec_at oX1_hear 137 rfl) rfl ?_
                  refine r_pc C 272 rfl ?_
                  refine r_istore C (lv' := [(0, .ref (oad E 35)), (1, .ref (oad E c1)), (2, .int a2), (6, .int x6), (7, .int x9), (8, .int x8), (9, .int x9), (10, .int x10), (11, .int x11), (12, .int r4), (13, .int r7), (14, .int r9), (15, .int k1)]) [1, 2, 3, 4, 0, 5, 6, 7, 8, 9, 10, 11, 12] (oDec_at oX1_hear 138 rfl) (by decide) rfl ?_
                  refine r_iload C (j := 7) (oDec_at oX1_hear 139 rfl) rfl ?_
                  refine r_istore C (lv' := [(0, .ref (oad E 35)), (1, .ref (oad E c1)), (2, .int a2), (6, .int x6), (7, .int x9), (8, .int x10), (9, .int x9), (10, .int x10), (11, .int x11), (12, .int r4), (13, .int r7), (14, .int r9), (15, .int k1)]) [1, 2, 3, 4, 5, 0, 6, 7, 8, 9, 10, 11, 12] (oDec_at oX1_hear 140 rfl) (by decide) rfl ?_
                  refine r_iload C (j := 9) (oDec_at oX1_hear 141 rfl) rfl ?_
                  refine r_istore C (lv' := [(0, .ref (oad E 35)), (1, .ref (oad E c1)), (2, .int a2), (6, .int x6), (7, .int x9), (8, .int x10), (9, .int r4), (10, .int x10), (11, .int x11), (12, .int r4), (13, .int r7), (14, .int r9), (15, .int k1)]) [1, 2, 3, 4, 5, 6, 0, 7, 8, 9, 10, 11, 12] (oDec_at oX1_hear 142 rfl) (by decide) rfl ?_
                  refine r_iload C (j := 10) (oDec_at oX1_hear 143 rfl) rfl ?_
                  refine r_pc C 284 rfl ?_
                  refine r_istore C (lv' := [(0, .ref (oad E 35)), (1, .ref (oad E c1)), (2, .int a2), (6, .int x6), (7, .int x9), (8, .int x10), (9, .int r4), (10, .int r7), (11, .int x11), (12, .int r4), (13, .int r7), (14, .int r9), (15, .int k1)]) [1, 2, 3, 4, 5, 6, 7, 0, 8, 9, 10, 11, 12] (oDec_at oX1_hear 144 rfl) (by decide) rfl ?_
                  obtain ⟨v79, ev79⟩ : ∃ z : Int32, x11 + Int32.ofInt 1 = z := ⟨_, rfl⟩
                  have hv79 : v79.toInt = x11.toInt + 1 := n_inc ev79 (by decide) (by omega) (by omega)
                  refine r_iinc C (j := 8) (lv' := [(0, .ref (oad E 35)), (1, .ref (oad E c1)), (2, .int a2), (6, .int x6), (7, .int x9), (8, .int x10), (9, .int r4), (10, .int r7), (11, .int v79), (12, .int r4), (13, .int r7), (14, .int r9), (15, .int k1)]) v79 [1, 2, 3, 4, 5, 6, 7, 8, 0, 9, 10, 11, 12] (oDec_at oX1_hear 145 rfl) rfl ev79 (by decide) rfl ?_
                  refine r_goto C (tgt := 103) (oDec_at oX1_hear 146 rfl) (by decide) ?_
                  refine r_pick C [0, 1, 2, 3, 4, 5, 6, 7, 8] rfl ?_
                  exact (ih (n - 1) (by omega)) (u77) x6 x9 x10 r4 r7 v79   (by omega)
  refine r_aload_n C (j := 0) (oDec_at oX1_hear 0 rfl) rfl rfl ?_
  refine r_iload_n C (j := 3) (oDec_at oX1_hear 1 rfl) rfl rfl ?_
  refine r_iload C (j := 4) (oDec_at oX1_hear 2 rfl) rfl ?_
  refine r_callVv C oCl1 rfl miX1_begin mlX1_34 (ct_X1_begin l E (s) a3 a4 ) (by decide) rfl rfl rfl (Nat.le_of_ble_eq_true rfl) (oDec_at oX1_hear 3 rfl) (fun u80 pu80 fu80 => ?_)
  try dsimp only at pu80
  refine r_aload_n C (j := 0) (oDec_at oX1_hear 4 rfl) rfl rfl ?_
  refine r_getF (k := 4) (b := 40) C oCl1 rfl (by decide) flX1_27 rfl rfl rfl (oDec_at oX1_hear 5 rfl) ?_
  refine r_pc C 11 rfl ?_
  obtain ⟨v82, ev82⟩ : ∃ z : Int32, (u80).1 40 0 = z := ⟨_, rfl⟩
  have gv82 : (u80.1 40 0).toInt = v82.toInt := congrArg Int32.toInt (ev82)
  have rv82 := n_rng v82
  refine r_getiN (k := 0) (lo := (-2147483648)) (hi := 2147483647) C v82 oCl9 rfl (by decide) flX1_38 rfl rfl (ev82) rfl rfl (oDec_at oX1_hear 6 rfl) (fun _ _ => ?_)
  refine r_aload_n C (j := 0) (oDec_at oX1_hear 7 rfl) rfl rfl ?_
  refine r_getF (k := 5) (b := 41) C oCl1 rfl (by decide) flX1_31 rfl rfl rfl (oDec_at oX1_hear 8 rfl) ?_
  obtain ⟨v83, ev83⟩ : ∃ z : Int32, (u80).1 41 0 = z := ⟨_, rfl⟩
  have gv83 : (u80.1 41 0).toInt = v83.toInt := congrArg Int32.toInt (ev83)
  have rv83 := n_rng v83
  refine r_getiN (k := 0) (lo := (-2147483648)) (hi := 2147483647) C v83 oCl9 rfl (by decide) flX1_38 rfl rfl (ev83) rfl rfl (oDec_at oX1_hear 9 rfl) (fun _ _ => ?_)
  refine r_callSi C miJ9_max_7cf53 mlX1_42 (ct_J9_max_7cf53 l E (u80) v82 v83 ) (by decide) rfl rfl rfl (Nat.le_of_ble_eq_true rfl) (oDec_at oX1_hear 10 rfl) (fun r85 u84 pu84 fu84 => ?_)
  try dsimp only at pu84
  have rr85 := n_rng r85
  refine r_istore C (lv' := [(0, .ref (oad E 35)), (1, .ref (oad E c1)), (2, .int a2), (3, .int a3), (4, .int a4), (5, .int r85)]) [1, 2, 3, 4, 5, 0] (oDec_at oX1_hear 11 rfl) (by decide) rfl ?_
  refine r_pc C 26 rfl ?_
  refine r_aload_n C (j := 0) (oDec_at oX1_hear 12 rfl) rfl rfl ?_
  refine r_getF (k := 4) (b := 40) C oCl1 rfl (by decide) flX1_27 rfl rfl rfl (oDec_at oX1_hear 13 rfl) ?_
  refine r_aload_n C (j := 1) (oDec_at oX1_hear 14 rfl) rfl rfl ?_
  refine r_callVi C oCl9 rfl miX9_stop mlX1_48 (ct_X9_stop l E (u84) 40 rfl c1 hk1 ) (by decide) rfl rfl rfl (Nat.le_of_ble_eq_true rfl) (oDec_at oX1_hear 15 rfl) (fun r87 u86 pu86 fu86 => ?_)
  try dsimp only at pu86
  have rr87 := n_rng r87
  refine r_aload_n C (j := 0) (oDec_at oX1_hear 16 rfl) rfl rfl ?_
  refine r_getF (k := 5) (b := 41) C oCl1 rfl (by decide) flX1_31 rfl rfl rfl (oDec_at oX1_hear 17 rfl) ?_
  refine r_pc C 38 rfl ?_
  refine r_aload_n C (j := 1) (oDec_at oX1_hear 18 rfl) rfl rfl ?_
  refine r_callVi C oCl9 rfl miX9_stop mlX1_48 (ct_X9_stop l E (u86) 41 rfl c1 hk1 ) (by decide) rfl rfl rfl (Nat.le_of_ble_eq_true rfl) (oDec_at oX1_hear 19 rfl) (fun r89 u88 pu88 fu88 => ?_)
  try dsimp only at pu88
  have rr89 := n_rng r89
  refine r_callSi C miJ9_min_7cf53 mlX1_52 (ct_J9_min_7cf53 l E (u88) r87 r89 ) (by decide) rfl rfl rfl (Nat.le_of_ble_eq_true rfl) (oDec_at oX1_hear 20 rfl) (fun r91 u90 pu90 fu90 => ?_)
  try dsimp only at pu90
  have rr91 := n_rng r91
  refine r_istore C (lv' := [(0, .ref (oad E 35)), (1, .ref (oad E c1)), (2, .int a2), (3, .int a3), (4, .int a4), (5, .int r85), (6, .int r91)]) [1, 2, 3, 4, 5, 6, 0] (oDec_at oX1_hear 21 rfl) (by decide) rfl ?_
  refine r_aload_n C (j := 0) (oDec_at oX1_hear 22 rfl) rfl rfl ?_
  refine r_getF (k := 4) (b := 40) C oCl1 rfl (by decide) flX1_27 rfl rfl rfl (oDec_at oX1_hear 23 rfl) ?_
  refine r_pc C 51 rfl ?_
  refine r_aload_n C (j := 1) (oDec_at oX1_hear 24 rfl) rfl rfl ?_
  refine r_iload C (j := 5) (oDec_at oX1_hear 25 rfl) rfl ?_
  refine r_iconst C (oDec_at oX1_hear 26 rfl) (v := k1) (by rw [qk1]; rfl) ?_
  obtain ⟨v92, ev92⟩ : ∃ z : Int32, z = r85 - k1 := ⟨_, rfl⟩
  have rv92 := n_rng v92
  refine r_isub C v92 (oDec_at oX1_hear 27 rfl) ev92 ?_
  refine r_callVi C oCl9 rfl miX9_number mlX1_55 (ct_X9_number l E (u90) 40 rfl c1 hk1 v92 ) (by decide) rfl rfl rfl (Nat.le_of_ble_eq_true rfl) (oDec_at oX1_hear 28 rfl) (fun r94 u93 pu93 fu93 => ?_)
  try dsimp only at pu93
  have rr94 := n_rng r94
  refine r_istore C (lv' := [(0, .ref (oad E 35)), (1, .ref (oad E c1)), (2, .int a2), (3, .int a3), (4, .int a4), (5, .int r85), (6, .int r91), (7, .int r94)]) [1, 2, 3, 4, 5, 6, 7, 0] (oDec_at oX1_hear 29 rfl) (by decide) rfl ?_
  refine r_pc C 61 rfl ?_
  refine r_aload_n C (j := 0) (oDec_at oX1_hear 30 rfl) rfl rfl ?_
  refine r_getF (k := 5) (b := 41) C oCl1 rfl (by decide) flX1_31 rfl rfl rfl (oDec_at oX1_hear 31 rfl) ?_
  refine r_aload_n C (j := 1) (oDec_at oX1_hear 32 rfl) rfl rfl ?_
  refine r_iload C (j := 5) (oDec_at oX1_hear 33 rfl) rfl ?_
  refine r_iconst C (oDec_at oX1_hear 34 rfl) (v := k1) (by rw [qk1]; rfl) ?_
  obtain ⟨v95, ev95⟩ : ∃ z : Int32, z = r85 - k1 := ⟨_, rfl⟩
  have rv95 := n_rng v95
  refine r_isub C v95 (oDec_at oX1_hear 35 rfl) ev95 ?_
  refine r_pc C 70 rfl ?_
  refine r_callVi C oCl9 rfl miX9_number mlX1_55 (ct_X9_number l E (u93) 41 rfl c1 hk1 v95 ) (by decide) rfl rfl rfl (Nat.le_of_ble_eq_true rfl) (oDec_at oX1_hear 36 rfl) (fun r97 u96 pu96 fu96 => ?_)
  try dsimp only at pu96
  have rr97 := n_rng r97
  refine r_istore C (lv' := [(0, .ref (oad E 35)), (1, .ref (oad E c1)), (2, .int a2), (3, .int a3), (4, .int a4), (5, .int r85), (6, .int r91), (7, .int r94), (8, .int r97)]) [1, 2, 3, 4, 5, 6, 7, 8, 0] (oDec_at oX1_hear 37 rfl) (by decide) rfl ?_
  refine r_aload_n C (j := 0) (oDec_at oX1_hear 38 rfl) rfl rfl ?_
  refine r_getF (k := 4) (b := 40) C oCl1 rfl (by decide) flX1_27 rfl rfl rfl (oDec_at oX1_hear 39 rfl) ?_
  refine r_aload_n C (j := 1) (oDec_at oX1_hear 40 rfl) rfl rfl ?_
  refine r_iload C (j := 5) (oDec_at oX1_hear 41 rfl) rfl ?_
  refine r_pc C 82 rfl ?_
  refine r_callVi C oCl9 rfl miX9_number mlX1_55 (ct_X9_number l E (u96) 40 rfl c1 hk1 r85 ) (by decide) rfl rfl rfl (Nat.le_of_ble_eq_true rfl) (oDec_at oX1_hear 42 rfl) (fun r99 u98 pu98 fu98 => ?_)
  try dsimp only at pu98
  have rr99 := n_rng r99
  refine r_istore C (lv' := [(0, .ref (oad E 35)), (1, .ref (oad E c1)), (2, .int a2), (3, .int a3), (4, .int a4), (5, .int r85), (6, .int r91), (7, .int r94), (8, .int r97), (9, .int r99)]) [1, 2, 3, 4, 5, 6, 7, 8, 9, 0] (oDec_at oX1_hear 43 rfl) (by decide) rfl ?_
  refine r_aload_n C (j := 0) (oDec_at oX1_hear 44 rfl) rfl rfl ?_
  refine r_getF (k := 5) (b := 41) C oCl1 rfl (by decide) flX1_31 rfl rfl rfl (oDec_at oX1_hear 45 rfl) ?_
  refine r_aload_n C (j := 1) (oDec_at oX1_hear 46 rfl) rfl rfl ?_
  refine r_iload C (j := 5) (oDec_at oX1_hear 47 rfl) rfl ?_
  refine r_pc C 94 rfl ?_
  refine r_callVi C oCl9 rfl miX9_number mlX1_55 (ct_X9_number l E (u98) 41 rfl c1 hk1 r85 ) (by decide) rfl rfl rfl (Nat.le_of_ble_eq_true rfl) (oDec_at oX1_hear 48 rfl) (fun r101 u100 pu100 fu100 => ?_)
  try dsimp only at pu100
  have rr101 := n_rng r101
  refine r_istore C (lv' := [(0, .ref (oad E 35)), (1, .ref (oad E c1)), (2, .int a2), (3, .int a3), (4, .int a4), (5, .int r85), (6, .int r91), (7, .int r94), (8, .int r97), (9, .int r99), (10, .int r101)]) [1, 2, 3, 4, 5, 6, 7, 8, 9, 10, 0] (oDec_at oX1_hear 49 rfl) (by decide) rfl ?_
  refine r_iload C (j := 5) (oDec_at oX1_hear 50 rfl) rfl ?_
  refine r_istore C (lv' := [(0, .ref (oad E 35)), (1, .ref (oad E c1)), (2, .int a2), (3, .int a3), (4, .int a4), (5, .int r85), (6, .int r91), (7, .int r94), (8, .int r97), (9, .int r99), (10, .int r101), (11, .int r85)]) [1, 2, 3, 4, 5, 6, 7, 8, 9, 10, 11, 0] (oDec_at oX1_hear 51 rfl) (by decide) rfl ?_
  refine r_pick C [0, 1, 2, 6, 7, 8, 9, 10, 11] rfl ?_
  exact (key (r91.toInt - r85.toInt + 4294967296).toNat) (u100) r91 r94 r97 r99 r101 r85   (by omega)
set_option maxHeartbeats 4000000 in
set_option maxRecDepth 100000 in
theorem ct_X1_hearRound (l : Launch) (E : oE) (s : oS) (c1 : Nat) (hk1 : okd c1 = 4) (a2 : Int32) (a3 : Int32)  : oMet l 5 yX1_hearRound cX1_hearRound 12 none [(1, 6), (1, 7), (1, 8), (9, 0), (9, 1), (9, 2), (9, 3), (9, 4), (28, 9999), (29, 9999), (30, 9999), (31, 9999)] E s [.ref (oad E 35), .ref (oad E c1), .int a2, .int a3] (oPv (fun u => True)) := by
  refine oMet.of (lv := [(0, .ref (oad E 35)), (1, .ref (oad E c1)), (2, .int a2), (3, .int a3)]) (by decide +kernel) (Nat.le_of_ble_eq_true rfl) rfl (fun J C hT => ?_)
  have C : oC l 5 cX1_hearRound RX1 12 none [(1, 6), (1, 7), (1, 8), (9, 0), (9, 1), (9, 2), (9, 3), (9, 4), (28, 9999), (29, 9999), (30, 9999), (31, 9999)] E s (oPv (fun u => True)) J := C
  obtain ⟨km1000000000, qkm1000000000⟩ : ∃ z : Int32, z = (-1000000000) := ⟨_, rfl⟩
  have ekm1000000000 : km1000000000.toInt = (-1000000000) := by rw [qkm1000000000]; rfl
  obtain ⟨k0, qk0⟩ : ∃ z : Int32, z = 0 := ⟨_, rfl⟩
  have ek0 : k0.toInt = 0 := by rw [qk0]; rfl
  obtain ⟨k1, qk1⟩ : ∃ z : Int32, z = 1 := ⟨_, rfl⟩
  have ek1 : k1.toInt = 1 := by rw [qk1]; rfl
  obtain ⟨k84, qk84⟩ : ∃ z : Int32, z = 84 := ⟨_, rfl⟩
  have ek84 : k84.toInt = 84 := by rw [qk84]; rfl
  have rg2 := n_rng a2
  have rg3 := n_rng a3
  have key : ∀ n : Nat, (∀ (t : oS) (x4 : Int32) (x5 : Int32), (1 ≤ x4.toInt ∧ x4.toInt ≤ 96) → 2147483648 - x5.toInt ≤ (n : Int) → J t 28 [(0, .ref (oad E 35)), (1, .ref (oad E c1)), (2, .int a2), (4, .int x4), (5, .int x5)] []) := by
    intro n
    induction n using Nat.strongRecOn with
    | _ n ih =>
      skip
      · intro t x4 x5  iv0 hmu
        have rx4 := n_rng x4
        have rx5 := n_rng x5
        refine r_iload C (j := 4) (oDec_at oX1_hearRound 14 rfl) rfl ?_
        refine r_aload_n C (j := 0) (oDec_at oX1_hearRound 15 rfl) rfl rfl ?_
        refine r_getF (k := 5) (b := 41) C oCl1 rfl (by decide) flX1_31 rfl rfl rfl (oDec_at oX1_hearRound 16 rfl) ?_
        obtain ⟨v1, ev1⟩ : ∃ z : Int32, (t).1 41 0 = z := ⟨_, rfl⟩
        have gv1 : (t.1 41 0).toInt = v1.toInt := congrArg Int32.toInt (ev1)
        have rv1 := n_rng v1
        refine r_getiN (k := 0) (lo := (-2147483648)) (hi := 2147483647) C v1 oCl9 rfl (by decide) flX1_38 rfl rfl (ev1) rfl rfl (oDec_at oX1_hearRound 17 rfl) (fun _ _ => ?_)
        refine r_iload C (j := 3) (oDec_at oX1_hearRound 18 rfl) rfl ?_
        obtain ⟨v2, ev2⟩ : ∃ z : Int32, z = v1 + x4 := ⟨_, rfl⟩
        have rv2 := n_rng v2
        refine r_iadd C v2 (oDec_at oX1_hearRound 19 rfl) ev2 ?_
        refine r_pc C 40 rfl ?_
        refine r_icmp_ge C 217 (oDec_at oX1_hearRound 20 rfl) (by decide) (fun cd3 => ?_) (fun cd3 => ?_)
        · skip
          exact r_vret C (oDec_at oX1_hearRound 107 rfl) ⟨rfl, trivial⟩
        · skip
          refine r_iload C (j := 4) (oDec_at oX1_hearRound 21 rfl) rfl ?_
          refine r_aload_n C (j := 0) (oDec_at oX1_hearRound 22 rfl) rfl rfl ?_
          refine r_getF (k := 5) (b := 41) C oCl1 rfl (by decide) flX1_31 rfl rfl rfl (oDec_at oX1_hearRound 23 rfl) ?_
          refine r_getiN (k := 0) (lo := (-2147483648)) (hi := 2147483647) C v1 oCl9 rfl (by decide) flX1_38 rfl rfl (ev1) rfl rfl (oDec_at oX1_hearRound 24 rfl) (fun _ _ => ?_)
          obtain ⟨v4, ev4⟩ : ∃ z : Int32, z = x5 - v1 := ⟨_, rfl⟩
          have rv4 := n_rng v4
          refine r_isub C v4 (oDec_at oX1_hearRound 25 rfl) ev4 ?_
          refine r_istore C (lv' := [(0, .ref (oad E 35)), (1, .ref (oad E c1)), (2, .int a2), (4, .int x4), (5, .int x5), (6, .int v4)]) [1, 2, 3, 4, 5, 0] (oDec_at oX1_hearRound 26 rfl) (by decide) rfl ?_
          refine r_pc C 55 rfl ?_
          refine r_aload_n C (j := 0) (oDec_at oX1_hearRound 27 rfl) rfl rfl ?_
          refine r_getF (k := 4) (b := 40) C oCl1 rfl (by decide) flX1_27 rfl rfl rfl (oDec_at oX1_hearRound 28 rfl) ?_
          refine r_aload_n C (j := 1) (oDec_at oX1_hearRound 29 rfl) rfl rfl ?_
          refine r_iload C (j := 4) (oDec_at oX1_hearRound 30 rfl) rfl ?_
          refine r_iconst C (oDec_at oX1_hearRound 31 rfl) (v := k1) (by rw [qk1]; rfl) ?_
          obtain ⟨v5, ev5⟩ : ∃ z : Int32, z = x5 - k1 := ⟨_, rfl⟩
          have rv5 := n_rng v5
          refine r_isub C v5 (oDec_at oX1_hearRound 32 rfl) ev5 ?_
          refine r_pc C 64 rfl ?_
          refine r_iload C (j := 3) (oDec_at oX1_hearRound 33 rfl) rfl ?_
          refine r_callSi C miJ9_floorMod_7cf53 mlX1_94 (ct_J9_floorMod_7cf53 l E (t) v5 x4 (by omega)) (by decide) rfl rfl rfl (Nat.le_of_ble_eq_true rfl) (oDec_at oX1_hearRound 34 rfl) (fun r7 u6 pu6 fu6 => ?_)
          try dsimp only at pu6
          have rr7 := n_rng r7
          refine r_callVi C oCl9 rfl miX9_turned mlX1_97 (ct_X9_turned l E (u6) 40 rfl c1 hk1 r7 ) (by decide) rfl rfl rfl (Nat.le_of_ble_eq_true rfl) (oDec_at oX1_hearRound 35 rfl) (fun r9 u8 pu8 fu8 => ?_)
          try dsimp only at pu8
          have rr9 := n_rng r9
          refine r_istore C (lv' := [(0, .ref (oad E 35)), (1, .ref (oad E c1)), (2, .int a2), (4, .int x4), (5, .int x5), (6, .int v4), (7, .int r9)]) [1, 2, 3, 4, 5, 6, 0] (oDec_at oX1_hearRound 36 rfl) (by decide) rfl ?_
          refine r_aload_n C (j := 0) (oDec_at oX1_hearRound 37 rfl) rfl rfl ?_
          refine r_getF (k := 4) (b := 40) C oCl1 rfl (by decide) flX1_27 rfl rfl rfl (oDec_at oX1_hearRound 38 rfl) ?_
          refine r_pc C 78 rfl ?_
          refine r_aload_n C (j := 1) (oDec_at oX1_hearRound 39 rfl) rfl rfl ?_
          refine r_iload C (j := 4) (oDec_at oX1_hearRound 40 rfl) rfl ?_
          refine r_iload C (j := 3) (oDec_at oX1_hearRound 41 rfl) rfl ?_
          refine r_callSi C miJ9_floorMod_7cf53 mlX1_94 (ct_J9_floorMod_7cf53 l E (u8) x5 x4 (by omega)) (by decide) rfl rfl rfl (Nat.le_of_ble_eq_true rfl) (oDec_at oX1_hearRound 42 rfl) (fun r11 u10 pu10 fu10 => ?_)
          try dsimp only at pu10
          have rr11 := n_rng r11
          refine r_callVi C oCl9 rfl miX9_turned mlX1_97 (ct_X9_turned l E (u10) 40 rfl c1 hk1 r11 ) (by decide) rfl rfl rfl (Nat.le_of_ble_eq_true rfl) (oDec_at oX1_hearRound 43 rfl) (fun r13 u12 pu12 fu12 => ?_)
          try dsimp only at pu12
          have rr13 := n_rng r13
          refine r_istore C (lv' := [(0, .ref (oad E 35)), (1, .ref (oad E c1)), (2, .int a2), (4, .int x4), (5, .int x5), (6, .int v4), (7, .int r9), (8, .int r13)]) [1, 2, 3, 4, 5, 6, 7, 0] (oDec_at oX1_hearRound 44 rfl) (by decide) rfl ?_
          refine r_pc C 91 rfl ?_
          refine r_aload_n C (j := 0) (oDec_at oX1_hearRound 45 rfl) rfl rfl ?_
          refine r_getF (k := 5) (b := 41) C oCl1 rfl (by decide) flX1_31 rfl rfl rfl (oDec_at oX1_hearRound 46 rfl) ?_
          refine r_aload_n C (j := 1) (oDec_at oX1_hearRound 47 rfl) rfl rfl ?_
          refine r_iload C (j := 5) (oDec_at oX1_hearRound 48 rfl) rfl ?_
          refine r_iconst C (oDec_at oX1_hearRound 49 rfl) (v := k1) (by rw [qk1]; rfl) ?_
          obtain ⟨v14, ev14⟩ : ∃ z : Int32, z = v4 - k1 := ⟨_, rfl⟩
          have rv14 := n_rng v14
          refine r_isub C v14 (oDec_at oX1_hearRound 50 rfl) ev14 ?_
          refine r_pc C 100 rfl ?_
          refine r_iload C (j := 3) (oDec_at oX1_hearRound 51 rfl) rfl ?_
          refine r_callSi C miJ9_floorMod_7cf53 mlX1_94 (ct_J9_floorMod_7cf53 l E (u12) v14 x4 (by omega)) (by decide) rfl rfl rfl (Nat.le_of_ble_eq_true rfl) (oDec_at oX1_hearRound 52 rfl) (fun r16 u15 pu15 fu15 => ?_)
          try dsimp only at pu15
          have rr16 := n_rng r16
          refine r_callVi C oCl9 rfl miX9_turned mlX1_97 (ct_X9_turned l E (u15) 41 rfl c1 hk1 r16 ) (by decide) rfl rfl rfl (Nat.le_of_ble_eq_true rfl) (oDec_at oX1_hearRound 53 rfl) (fun r18 u17 pu17 fu17 => ?_)
          try dsimp only at pu17
          have rr18 := n_rng r18
          refine r_istore C (lv' := [(0, .ref (oad E 35)), (1, .ref (oad E c1)), (2, .int a2), (4, .int x4), (5, .int x5), (6, .int v4), (7, .int r9), (8, .int r13), (9, .int r18)]) [1, 2, 3, 4, 5, 6, 7, 8, 0] (oDec_at oX1_hearRound 54 rfl) (by decide) rfl ?_
          refine r_aload_n C (j := 0) (oDec_at oX1_hearRound 55 rfl) rfl rfl ?_
          refine r_getF (k := 5) (b := 41) C oCl1 rfl (by decide) flX1_31 rfl rfl rfl (oDec_at oX1_hearRound 56 rfl) ?_
          refine r_pc C 114 rfl ?_
          refine r_aload_n C (j := 1) (oDec_at oX1_hearRound 57 rfl) rfl rfl ?_
          refine r_iload C (j := 5) (oDec_at oX1_hearRound 58 rfl) rfl ?_
          refine r_iload C (j := 3) (oDec_at oX1_hearRound 59 rfl) rfl ?_
          refine r_callSi C miJ9_floorMod_7cf53 mlX1_94 (ct_J9_floorMod_7cf53 l E (u17) v4 x4 (by omega)) (by decide) rfl rfl rfl (Nat.le_of_ble_eq_true rfl) (oDec_at oX1_hearRound 60 rfl) (fun r20 u19 pu19 fu19 => ?_)
          try dsimp only at pu19
          have rr20 := n_rng r20
          refine r_callVi C oCl9 rfl miX9_turned mlX1_97 (ct_X9_turned l E (u19) 41 rfl c1 hk1 r20 ) (by decide) rfl rfl rfl (Nat.le_of_ble_eq_true rfl) (oDec_at oX1_hearRound 61 rfl) (fun r22 u21 pu21 fu21 => ?_)
          try dsimp only at pu21
          have rr22 := n_rng r22
          refine r_istore C (lv' := [(0, .ref (oad E 35)), (1, .ref (oad E c1)), (2, .int a2), (4, .int x4), (5, .int x5), (6, .int v4), (7, .int r9), (8, .int r13), (9, .int r18), (10, .int r22)]) [1, 2, 3, 4, 5, 6, 7, 8, 9, 0] (oDec_at oX1_hearRound 62 rfl) (by decide) rfl ?_
          refine r_pc C 127 rfl ?_
          refine r_aload_n C (j := 0) (oDec_at oX1_hearRound 63 rfl) rfl rfl ?_
          refine r_aload_n C (j := 1) (oDec_at oX1_hearRound 64 rfl) rfl rfl ?_
          refine r_iload C (j := 7) (oDec_at oX1_hearRound 65 rfl) rfl ?_
          refine r_iload C (j := 9) (oDec_at oX1_hearRound 66 rfl) rfl ?_
          refine r_callVi C oCl1 rfl miX1_apartAt mlX1_59 (ct_X1_apartAt l E (u21) c1 hk1 r13 r22 ) (by decide) rfl rfl rfl (Nat.le_of_ble_eq_true rfl) (oDec_at oX1_hearRound 67 rfl) (fun r24 u23 pu23 fu23 => ?_)
          try dsimp only at pu23
          have rr24 := n_rng r24
          refine r_istore C (lv' := [(0, .ref (oad E 35)), (1, .ref (oad E c1)), (2, .int a2), (4, .int x4), (5, .int x5), (6, .int v4), (7, .int r9), (8, .int r13), (9, .int r18), (10, .int r22), (11, .int r24)]) [1, 2, 3, 4, 5, 6, 7, 8, 9, 10, 0] (oDec_at oX1_hearRound 68 rfl) (by decide) rfl ?_
          refine r_pc C 138 rfl ?_
          refine r_iload C (j := 10) (oDec_at oX1_hearRound 69 rfl) rfl ?_
          refine r_ldc C (v := km1000000000) (by rw [qkm1000000000]; exact kcX1_63) (oDec_at oX1_hearRound 70 rfl) ?_
          refine r_icmp_eq C 211 (oDec_at oX1_hearRound 71 rfl) (by decide) (fun cd25 => ?_) (fun cd25 => ?_)
          · skip
            obtain ⟨v26, ev26⟩ : ∃ z : Int32, x5 + Int32.ofInt 1 = z := ⟨_, rfl⟩
            have hv26 : v26.toInt = x5.toInt + 1 := n_inc ev26 (by decide) (by omega) (by omega)
            refine r_iinc C (j := 4) (lv' := [(0, .ref (oad E 35)), (1, .ref (oad E c1)), (2, .int a2), (4, .int x4), (5, .int v26), (6, .int v4), (7, .int r9), (8, .int r13), (9, .int r18), (10, .int r22), (11, .int r24)]) v26 [1, 2, 3, 4, 0, 5, 6, 7, 8, 9, 10] (oDec_at oX1_hearRound 105 rfl) rfl ev26 (by decide) rfl ?_
            refine r_goto C (tgt := 28) (oDec_at oX1_hearRound 106 rfl) (by decide) ?_
            refine r_pick C [0, 1, 2, 3, 4] rfl ?_
            exact (ih (n - 1) (by omega)) (u23) x4 v26  (by omega) (by omega)
          · skip
            refine r_iload C (j := 7) (oDec_at oX1_hearRound 72 rfl) rfl ?_
            refine r_iload C (j := 6) (oDec_at oX1_hearRound 73 rfl) rfl ?_
            refine r_icmp_ne C 159 (oDec_at oX1_hearRound 74 rfl) (by decide) (fun cd27 => ?_) (fun cd27 => ?_)
            · skip
              refine r_aload_n C (j := 0) (oDec_at oX1_hearRound 78 rfl) rfl rfl ?_
              refine r_iload C (j := 4) (oDec_at oX1_hearRound 79 rfl) rfl ?_
              refine r_iload C (j := 10) (oDec_at oX1_hearRound 80 rfl) rfl ?_
              refine r_aload_n C (j := 0) (oDec_at oX1_hearRound 81 rfl) rfl rfl ?_
              refine r_aload_n C (j := 1) (oDec_at oX1_hearRound 82 rfl) rfl rfl ?_
              refine r_iload C (j := 6) (oDec_at oX1_hearRound 83 rfl) rfl ?_
              refine r_pc C 168 rfl ?_
              refine r_iload C (j := 8) (oDec_at oX1_hearRound 84 rfl) rfl ?_
              refine r_callVi C oCl1 rfl miX1_apartAt mlX1_59 (ct_X1_apartAt l E (u23) c1 hk1 r9 r18 ) (by decide) rfl rfl rfl (Nat.le_of_ble_eq_true rfl) (oDec_at oX1_hearRound 85 rfl) (fun r29 u28 pu28 fu28 => ?_)
              try dsimp only at pu28
              have rr29 := n_rng r29
              refine r_callVv C oCl1 rfl miX1_mark mlX1_74 (ct_X1_mark l E (u28) x5 r24 r29 ) (by decide) rfl rfl rfl (Nat.le_of_ble_eq_true rfl) (oDec_at oX1_hearRound 86 rfl) (fun u30 pu30 fu30 => ?_)
              try dsimp only at pu30
              refine r_aload_n C (j := 0) (oDec_at oX1_hearRound 87 rfl) rfl rfl ?_
              refine r_iload C (j := 4) (oDec_at oX1_hearRound 88 rfl) rfl ?_
              refine r_iload_n C (j := 2) (oDec_at oX1_hearRound 89 rfl) rfl rfl ?_
              refine r_pc C 180 rfl ?_
              refine r_callSi C miX1_beatOf mlX1_78 (ct_X1_beatOf l E (u30) x5 a2 ) (by decide) rfl rfl rfl (Nat.le_of_ble_eq_true rfl) (oDec_at oX1_hearRound 90 rfl) (fun r33 u32 pu32 fu32 => ?_)
              try dsimp only at pu32
              have rr33 := n_rng r33
              refine r_aload_n C (j := 0) (oDec_at oX1_hearRound 91 rfl) rfl rfl ?_
              refine r_getF (k := 4) (b := 40) C oCl1 rfl (by decide) flX1_27 rfl rfl rfl (oDec_at oX1_hearRound 92 rfl) ?_
              refine r_aload_n C (j := 1) (oDec_at oX1_hearRound 93 rfl) rfl rfl ?_
              refine r_iload C (j := 6) (oDec_at oX1_hearRound 94 rfl) rfl ?_
              refine r_iload C (j := 7) (oDec_at oX1_hearRound 95 rfl) rfl ?_
              refine r_pc C 192 rfl ?_
              refine r_callSi C miX1_rise mlX1_81 (ct_X1_rise l E (u32) 40 rfl c1 hk1 r9 r13 ) (by decide) rfl rfl rfl (Nat.le_of_ble_eq_true rfl) (oDec_at oX1_hearRound 96 rfl) (fun r35 u34 pu34 fu34 => ?_)
              try dsimp only at pu34
              have rr35 := n_rng r35
              refine r_aload_n C (j := 0) (oDec_at oX1_hearRound 97 rfl) rfl rfl ?_
              refine r_getF (k := 5) (b := 41) C oCl1 rfl (by decide) flX1_31 rfl rfl rfl (oDec_at oX1_hearRound 98 rfl) ?_
              refine r_aload_n C (j := 1) (oDec_at oX1_hearRound 99 rfl) rfl rfl ?_
              refine r_iload C (j := 8) (oDec_at oX1_hearRound 100 rfl) rfl ?_
              refine r_iload C (j := 9) (oDec_at oX1_hearRound 101 rfl) rfl ?_
              refine r_pc C 204 rfl ?_
              refine r_callSi C miX1_rise mlX1_81 (ct_X1_rise l E (u34) 41 rfl c1 hk1 r18 r22 ) (by decide) rfl rfl rfl (Nat.le_of_ble_eq_true rfl) (oDec_at oX1_hearRound 102 rfl) (fun r37 u36 pu36 fu36 => ?_)
              try dsimp only at pu36
              have rr37 := n_rng r37
              refine r_iconst C (oDec_at oX1_hearRound 103 rfl) (v := k0) (by rw [qk0]; rfl) ?_
              refine r_callVv C oCl1 rfl miX1_moved mlX1_85 (ct_X1_moved l E (u36) r33 r35 r37 k0 ) (by decide) rfl rfl rfl (Nat.le_of_ble_eq_true rfl) (oDec_at oX1_hearRound 104 rfl) (fun u38 pu38 fu38 => ?_)
              try dsimp only at pu38
              obtain ⟨v40, ev40⟩ : ∃ z : Int32, x5 + Int32.ofInt 1 = z := ⟨_, rfl⟩
              have hv40 : v40.toInt = x5.toInt + 1 := n_inc ev40 (by decide) (by omega) (by omega)
              refine r_iinc C (j := 4) (lv' := [(0, .ref (oad E 35)), (1, .ref (oad E c1)), (2, .int a2), (4, .int x4), (5, .int v40), (6, .int v4), (7, .int r9), (8, .int r13), (9, .int r18), (10, .int r22), (11, .int r24)]) v40 [1, 2, 3, 4, 0, 5, 6, 7, 8, 9, 10] (oDec_at oX1_hearRound 105 rfl) rfl ev40 (by decide) rfl ?_
              refine r_goto C (tgt := 28) (oDec_at oX1_hearRound 106 rfl) (by decide) ?_
              refine r_pick C [0, 1, 2, 3, 4] rfl ?_
              exact (ih (n - 1) (by omega)) (u38) x4 v40  (by omega) (by omega)
            · skip
              refine r_iload C (j := 9) (oDec_at oX1_hearRound 75 rfl) rfl ?_
              refine r_iload C (j := 8) (oDec_at oX1_hearRound 76 rfl) rfl ?_
              refine r_icmp_eq C 211 (oDec_at oX1_hearRound 77 rfl) (by decide) (fun cd41 => ?_) (fun cd41 => ?_)
              · skip
                obtain ⟨v42, ev42⟩ : ∃ z : Int32, x5 + Int32.ofInt 1 = z := ⟨_, rfl⟩
                have hv42 : v42.toInt = x5.toInt + 1 := n_inc ev42 (by decide) (by omega) (by omega)
                refine r_iinc C (j := 4) (lv' := [(0, .ref (oad E 35)), (1, .ref (oad E c1)), (2, .int a2), (4, .int x4), (5, .int v42), (6, .int v4), (7, .int r9), (8, .int r13), (9, .int r18), (10, .int r22), (11, .int r24)]) v42 [1, 2, 3, 4, 0, 5, 6, 7, 8, 9, 10] (oDec_at oX1_hearRound 105 rfl) rfl ev42 (by decide) rfl ?_
                refine r_goto C (tgt := 28) (oDec_at oX1_hearRound 106 rfl) (by decide) ?_
                refine r_pick C [0, 1, 2, 3, 4] rfl ?_
                exact (ih (n - 1) (by omega)) (u23) x4 v42  (by omega) (by omega)
              · skip
                refine r_aload_n C (j := 0) (oDec_at oX1_hearRound 78 rfl) rfl rfl ?_
                refine r_iload C (j := 4) (oDec_at oX1_hearRound 79 rfl) rfl ?_
                refine r_iload C (j := 10) (oDec_at oX1_hearRound 80 rfl) rfl ?_
                refine r_aload_n C (j := 0) (oDec_at oX1_hearRound 81 rfl) rfl rfl ?_
                refine r_aload_n C (j := 1) (oDec_at oX1_hearRound 82 rfl) rfl rfl ?_
                refine r_iload C (j := 6) (oDec_at oX1_hearRound 83 rfl) rfl ?_
                refine r_pc C 168 rfl ?_
                refine r_iload C (j := 8) (oDec_at oX1_hearRound 84 rfl) rfl ?_
                refine r_callVi C oCl1 rfl miX1_apartAt mlX1_59 (ct_X1_apartAt l E (u23) c1 hk1 r9 r18 ) (by decide) rfl rfl rfl (Nat.le_of_ble_eq_true rfl) (oDec_at oX1_hearRound 85 rfl) (fun r44 u43 pu43 fu43 => ?_)
                try dsimp only at pu43
                have rr44 := n_rng r44
                refine r_callVv C oCl1 rfl miX1_mark mlX1_74 (ct_X1_mark l E (u43) x5 r24 r44 ) (by decide) rfl rfl rfl (Nat.le_of_ble_eq_true rfl) (oDec_at oX1_hearRound 86 rfl) (fun u45 pu45 fu45 => ?_)
                try dsimp only at pu45
                refine r_aload_n C (j := 0) (oDec_at oX1_hearRound 87 rfl) rfl rfl ?_
                refine r_iload C (j := 4) (oDec_at oX1_hearRound 88 rfl) rfl ?_
                refine r_iload_n C (j := 2) (oDec_at oX1_hearRound 89 rfl) rfl rfl ?_
                refine r_pc C 180 rfl ?_
                refine r_callSi C miX1_beatOf mlX1_78 (ct_X1_beatOf l E (u45) x5 a2 ) (by decide) rfl rfl rfl (Nat.le_of_ble_eq_true rfl) (oDec_at oX1_hearRound 90 rfl) (fun r48 u47 pu47 fu47 => ?_)
                try dsimp only at pu47
                have rr48 := n_rng r48
                refine r_aload_n C (j := 0) (oDec_at oX1_hearRound 91 rfl) rfl rfl ?_
                refine r_getF (k := 4) (b := 40) C oCl1 rfl (by decide) flX1_27 rfl rfl rfl (oDec_at oX1_hearRound 92 rfl) ?_
                refine r_aload_n C (j := 1) (oDec_at oX1_hearRound 93 rfl) rfl rfl ?_
                refine r_iload C (j := 6) (oDec_at oX1_hearRound 94 rfl) rfl ?_
                refine r_iload C (j := 7) (oDec_at oX1_hearRound 95 rfl) rfl ?_
                refine r_pc C 192 rfl ?_
                refine r_callSi C miX1_rise mlX1_81 (ct_X1_rise l E (u47) 40 rfl c1 hk1 r9 r13 ) (by decide) rfl rfl rfl (Nat.le_of_ble_eq_true rfl) (oDec_at oX1_hearRound 96 rfl) (fun r50 u49 pu49 fu49 => ?_)
                try dsimp only at pu49
                have rr50 := n_rng r50
                refine r_aload_n C (j := 0) (oDec_at oX1_hearRound 97 rfl) rfl rfl ?_
                refine r_getF (k := 5) (b := 41) C oCl1 rfl (by decide) flX1_31 rfl rfl rfl (oDec_at oX1_hearRound 98 rfl) ?_
                refine r_aload_n C (j := 1) (oDec_at oX1_hearRound 99 rfl) rfl rfl ?_
                refine r_iload C (j := 8) (oDec_at oX1_hearRound 100 rfl) rfl ?_
                refine r_iload C (j := 9) (oDec_at oX1_hearRound 101 rfl) rfl ?_
                refine r_pc C 204 rfl ?_
                refine r_callSi C miX1_rise mlX1_81 (ct_X1_rise l E (u49) 41 rfl c1 hk1 r18 r22 ) (by decide) rfl rfl rfl (Nat.le_of_ble_eq_true rfl) (oDec_at oX1_hearRound 102 rfl) (fun r52 u51 pu51 fu51 => ?_)
                try dsimp only at pu51
                have rr52 := n_rng r52
                refine r_iconst C (oDec_at oX1_hearRound 103 rfl) (v := k0) (by rw [qk0]; rfl) ?_
                refine r_callVv C oCl1 rfl miX1_moved mlX1_85 (ct_X1_moved l E (u51) r48 r50 r52 k0 ) (by decide) rfl rfl rfl (Nat.le_of_ble_eq_true rfl) (oDec_at oX1_hearRound 104 rfl) (fun u53 pu53 fu53 => ?_)
                try dsimp only at pu53
                obtain ⟨v55, ev55⟩ : ∃ z : Int32, x5 + Int32.ofInt 1 = z := ⟨_, rfl⟩
                have hv55 : v55.toInt = x5.toInt + 1 := n_inc ev55 (by decide) (by omega) (by omega)
                refine r_iinc C (j := 4) (lv' := [(0, .ref (oad E 35)), (1, .ref (oad E c1)), (2, .int a2), (4, .int x4), (5, .int v55), (6, .int v4), (7, .int r9), (8, .int r13), (9, .int r18), (10, .int r22), (11, .int r24)]) v55 [1, 2, 3, 4, 0, 5, 6, 7, 8, 9, 10] (oDec_at oX1_hearRound 105 rfl) rfl ev55 (by decide) rfl ?_
                refine r_goto C (tgt := 28) (oDec_at oX1_hearRound 106 rfl) (by decide) ?_
                refine r_pick C [0, 1, 2, 3, 4] rfl ?_
                exact (ih (n - 1) (by omega)) (u53) x4 v55  (by omega) (by omega)
  refine r_aload_n C (j := 0) (oDec_at oX1_hearRound 0 rfl) rfl rfl ?_
  refine r_bipush C (oDec_at oX1_hearRound 1 rfl) (v := k84) (by rw [qk84]; rfl) ?_
  refine r_iload_n C (j := 3) (oDec_at oX1_hearRound 2 rfl) rfl rfl ?_
  refine r_callVv C oCl1 rfl miX1_begin mlX1_34 (ct_X1_begin l E (s) k84 a3 ) (by decide) rfl rfl rfl (Nat.le_of_ble_eq_true rfl) (oDec_at oX1_hearRound 3 rfl) (fun u56 pu56 fu56 => ?_)
  try dsimp only at pu56
  refine r_aload_n C (j := 1) (oDec_at oX1_hearRound 4 rfl) rfl rfl ?_
  obtain ⟨v58, ev58⟩ : ∃ z : Int32, (u56).1 c1 5 = z := ⟨_, rfl⟩
  have gv58 : (s.1 c1 5).toInt = v58.toInt := congrArg Int32.toInt (((fu56 c1 5 (by rw [hk1]; rfl)).1).symm.trans ev58)
  refine r_getiN (k := 5) (lo := 0) (hi := 96) C v58 oCl4 hk1 (by decide) flX1_89 rfl rfl (ev58) rfl rfl (oDec_at oX1_hearRound 5 rfl) (fun b59 b59h => ?_)
  refine r_pc C 11 rfl ?_
  refine r_istore C (lv' := [(0, .ref (oad E 35)), (1, .ref (oad E c1)), (2, .int a2), (3, .int a3), (4, .int v58)]) [1, 2, 3, 4, 0] (oDec_at oX1_hearRound 6 rfl) (by decide) rfl ?_
  refine r_iload C (j := 4) (oDec_at oX1_hearRound 7 rfl) rfl ?_
  refine r_if_ne C 19 (oDec_at oX1_hearRound 8 rfl) (by decide) (fun cd60 => ?_) (fun cd60 => ?_)
  · skip
    refine r_aload_n C (j := 0) (oDec_at oX1_hearRound 10 rfl) rfl rfl ?_
    refine r_getF (k := 5) (b := 41) C oCl1 rfl (by decide) flX1_31 rfl rfl rfl (oDec_at oX1_hearRound 11 rfl) ?_
    obtain ⟨v61, ev61⟩ : ∃ z : Int32, (u56).1 41 0 = z := ⟨_, rfl⟩
    have gv61 : (u56.1 41 0).toInt = v61.toInt := congrArg Int32.toInt (ev61)
    have rv61 := n_rng v61
    refine r_getiN (k := 0) (lo := (-2147483648)) (hi := 2147483647) C v61 oCl9 rfl (by decide) flX1_38 rfl rfl (ev61) rfl rfl (oDec_at oX1_hearRound 12 rfl) (fun _ _ => ?_)
    refine r_istore C (lv' := [(0, .ref (oad E 35)), (1, .ref (oad E c1)), (2, .int a2), (3, .int a3), (4, .int v58), (5, .int v61)]) [1, 2, 3, 4, 5, 0] (oDec_at oX1_hearRound 13 rfl) (by decide) rfl ?_
    refine r_pick C [0, 1, 2, 4, 5] rfl ?_
    exact (key (2147483648 - v61.toInt).toNat) (u56) v58 v61  (by omega) (by omega)
  · skip
    exact r_vret C (oDec_at oX1_hearRound 9 rfl) ⟨rfl, trivial⟩
