set_option maxHeartbeats 4000000 in
set_option maxRecDepth 100000 in
theorem ct5_X12_isOwnHere (l : Launch) (E : oE) (s : oS)  (g : Int → Int) (a : Int) (b : Int) (hp0 : (s.1 71 2).toInt = a) (hp1 : (s.1 71 4).toInt = b) (hp2 : oqZ g s) (hp3 : (s.1 71 5).toInt = 0) (hp4 : oqWd s) (hp5 : oqSk g a = a) : oMet l 3 yX12_isOwnHere cX12_isOwnHere 2 (some .boolean) [(12, 2)] E s [.ref (oad E 71)] (oPi (fun r u => (0 ≤ r.toInt ∧ r.toInt ≤ 1) ∧ ((s.1 71 2).toInt ≤ (u.1 71 2).toInt) ∧ (r.toInt = 1 → oqWi g a b ≠ -1) ∧ (r.toInt = 0 → oqWi g a b = -1) ∧ ((u.1 71 2).toInt = a))) := by
  refine oMet.of (lv := [(0, .ref (oad E 71))]) (by decide +kernel) (Nat.le_of_ble_eq_true rfl) rfl (fun J C hT => ?_)
  have C : oC l 3 cX12_isOwnHere RX12 2 (some .boolean) [(12, 2)] E s (oPi (fun r u => (0 ≤ r.toInt ∧ r.toInt ≤ 1) ∧ ((s.1 71 2).toInt ≤ (u.1 71 2).toInt) ∧ (r.toInt = 1 → oqWi g a b ≠ -1) ∧ (r.toInt = 0 → oqWi g a b = -1) ∧ ((u.1 71 2).toInt = a))) J := C
  obtain ⟨k0, qk0⟩ : ∃ z : Int32, z = 0 := ⟨_, rfl⟩
  have ek0 : k0.toInt = 0 := by rw [qk0]; rfl
  obtain ⟨k1, qk1⟩ : ∃ z : Int32, z = 1 := ⟨_, rfl⟩
  have ek1 : k1.toInt = 1 := by rw [qk1]; rfl
  have hrg := oqWi_rg g a b
  refine r_aload_n C (j := 0) (oDec_at oX12_isOwnHere 0 rfl) rfl rfl ?_
  refine r_aload_n C (j := 0) (oDec_at oX12_isOwnHere 1 rfl) rfl rfl ?_
  refine r_getF (k := 10) (b := 73) C oCl12 rfl (by decide) flX12_17 rfl rfl rfl (oDec_at oX12_isOwnHere 2 rfl) ?_
  refine r_callVi C oCl12 rfl miX12_isHere mlX12_196 (ct4_X12_isHere l E (s) 73 49 4 rfl (by decide) (by decide) rfl rfl (g) (a) (b) (0) (by omega) (by omega) hp2 (by omega) (by omega) rfl (oqWd_at hp4 0 (by decide)) (by omega)) (by decide) rfl rfl rfl (Nat.le_of_ble_eq_true rfl) (oDec_at oX12_isOwnHere 3 rfl) (fun r2 u1 pu1 fu1 => ?_)
  try dsimp only at pu1
  obtain ⟨pu1_0, pu1_1, pu1_2, pu1_3, pu1_4, pu1_5, pu1_6⟩ := pu1
  have rr2 := n_rng r2
  have hy : r2.toInt = 1 → oqWi g a b ≠ -1 := fun h9 => by (have h8 := (oqWi_is (g := g) (a := a) (b := b) (i := 0) (by decide)).mpr (pu1_4 h9); omega)
  refine r_if_ne C 66 (oDec_at oX12_isOwnHere 4 rfl) (by decide) (fun cd3 => ?_) (fun cd3 => ?_)
  · skip
    replace pu1_4 := pu1_4 (by omega)
    clear pu1_5
    replace pu1_6 := pu1_6 (by omega)
    refine r_iconst C (oDec_at oX12_isOwnHere 30 rfl) (v := k1) (by rw [qk1]; rfl) ?_
    refine r_goto C (tgt := 71) (oDec_at oX12_isOwnHere 31 rfl) (by decide) ?_
    refine r_istore_n C (lv' := [(0, .ref (oad E 71)), (1, .int k1)]) [1, 0] (oDec_at oX12_isOwnHere 33 rfl) rfl (by decide) rfl ?_
    refine r_iload_n C (j := 1) (oDec_at oX12_isOwnHere 34 rfl) rfl rfl ?_
    refine r_if_ne C 142 (oDec_at oX12_isOwnHere 35 rfl) (by decide) (fun cd4 => ?_) (fun cd4 => ?_)
    · skip
      refine r_iconst C (oDec_at oX12_isOwnHere 66 rfl) (v := k1) (by rw [qk1]; rfl) ?_
      refine r_goto C (tgt := 147) (oDec_at oX12_isOwnHere 67 rfl) (by decide) ?_
      refine r_istore_n C (lv' := [(0, .ref (oad E 71)), (1, .int k1)]) [1, 0] (oDec_at oX12_isOwnHere 69 rfl) rfl (by decide) rfl ?_
      refine r_iload_n C (j := 1) (oDec_at oX12_isOwnHere 70 rfl) rfl rfl ?_
      refine r_if_ne C 218 (oDec_at oX12_isOwnHere 71 rfl) (by decide) (fun cd5 => ?_) (fun cd5 => ?_)
      · skip
        refine r_iconst C (oDec_at oX12_isOwnHere 102 rfl) (v := k1) (by rw [qk1]; rfl) ?_
        refine r_goto C (tgt := 223) (oDec_at oX12_isOwnHere 103 rfl) (by decide) ?_
        refine r_istore_n C (lv' := [(0, .ref (oad E 71)), (1, .int k1)]) [1, 0] (oDec_at oX12_isOwnHere 105 rfl) rfl (by decide) rfl ?_
        refine r_iload_n C (j := 1) (oDec_at oX12_isOwnHere 106 rfl) rfl rfl ?_
        refine r_if_ne C 294 (oDec_at oX12_isOwnHere 107 rfl) (by decide) (fun cd6 => ?_) (fun cd6 => ?_)
        · skip
          refine r_iconst C (oDec_at oX12_isOwnHere 138 rfl) (v := k1) (by rw [qk1]; rfl) ?_
          refine r_goto C (tgt := 299) (oDec_at oX12_isOwnHere 139 rfl) (by decide) ?_
          refine r_istore_n C (lv' := [(0, .ref (oad E 71)), (1, .int k1)]) [1, 0] (oDec_at oX12_isOwnHere 141 rfl) rfl (by decide) rfl ?_
          refine r_iload_n C (j := 1) (oDec_at oX12_isOwnHere 142 rfl) rfl rfl ?_
          refine r_if_ne C 326 (oDec_at oX12_isOwnHere 143 rfl) (by decide) (fun cd7 => ?_) (fun cd7 => ?_)
          · skip
            refine r_iconst C (oDec_at oX12_isOwnHere 154 rfl) (v := k1) (by rw [qk1]; rfl) ?_
            refine r_goto C (tgt := 331) (oDec_at oX12_isOwnHere 155 rfl) (by decide) ?_
            refine r_istore_n C (lv' := [(0, .ref (oad E 71)), (1, .int k1)]) [1, 0] (oDec_at oX12_isOwnHere 157 rfl) rfl (by decide) rfl ?_
            refine r_iload_n C (j := 1) (oDec_at oX12_isOwnHere 158 rfl) rfl rfl ?_
            exact r_zret C (n_bool (by omega)) (oDec_at oX12_isOwnHere 159 rfl) ⟨_, rfl, ⟨by omega, by omega, by first | exact fun _ => hy (by omega) | (intro h; exfalso; omega), by omega, by omega⟩⟩
          · omega
        · omega
      · omega
    · omega
  · skip
    clear pu1_4
    replace pu1_5 := pu1_5 (by omega)
    clear pu1_6
    clear hy
    have hz0 : oqWi g a b ≠ 0 := fun h9 => by (have h8 := (oqWi_is (g := g) (a := a) (b := b) (i := 0) (by decide)).mp h9; omega)
    refine r_aload_n C (j := 0) (oDec_at oX12_isOwnHere 5 rfl) rfl rfl ?_
    refine r_aload_n C (j := 0) (oDec_at oX12_isOwnHere 6 rfl) rfl rfl ?_
    refine r_getF (k := 11) (b := 74) C oCl12 rfl (by decide) flX12_21 rfl rfl rfl (oDec_at oX12_isOwnHere 7 rfl) ?_
    have lk8 : ((u1).1 71 4).toInt = (s.1 71 4).toInt := congrArg Int32.toInt ((fu1 71 4 rfl).1)
    have lk9 : ((u1).1 71 5).toInt = (s.1 71 5).toInt := congrArg Int32.toInt ((fu1 71 5 rfl).1)
    refine r_callVi C oCl12 rfl miX12_isHere mlX12_196 (ct4_X12_isHere l E (u1) 74 50 3 rfl (by decide) (by decide) rfl rfl (g) (a) (b) (1) (by omega) (by omega) (oqZ_fr fu1 rfl hp2) (by omega) (by omega) rfl (oqWd_at (oqWd_fr fu1 rfl hp4) 1 (by decide)) (by omega)) (by decide) rfl rfl rfl (Nat.le_of_ble_eq_true rfl) (oDec_at oX12_isOwnHere 8 rfl) (fun r11 u10 pu10 fu10 => ?_)
    try dsimp only at pu10
    try simp only [lk8, lk9] at pu10
    obtain ⟨pu10_0, pu10_1, pu10_2, pu10_3, pu10_4, pu10_5, pu10_6⟩ := pu10
    have rr11 := n_rng r11
    have hy : r11.toInt = 1 → oqWi g a b ≠ -1 := fun h9 => by (have h8 := (oqWi_is (g := g) (a := a) (b := b) (i := 1) (by decide)).mpr (pu10_4 h9); omega)
    refine r_if_ne C 66 (oDec_at oX12_isOwnHere 9 rfl) (by decide) (fun cd12 => ?_) (fun cd12 => ?_)
    · skip
      replace pu10_4 := pu10_4 (by omega)
      clear pu10_5
      replace pu10_6 := pu10_6 (by omega)
      refine r_iconst C (oDec_at oX12_isOwnHere 30 rfl) (v := k1) (by rw [qk1]; rfl) ?_
      refine r_goto C (tgt := 71) (oDec_at oX12_isOwnHere 31 rfl) (by decide) ?_
      refine r_istore_n C (lv' := [(0, .ref (oad E 71)), (1, .int k1)]) [1, 0] (oDec_at oX12_isOwnHere 33 rfl) rfl (by decide) rfl ?_
      refine r_iload_n C (j := 1) (oDec_at oX12_isOwnHere 34 rfl) rfl rfl ?_
      refine r_if_ne C 142 (oDec_at oX12_isOwnHere 35 rfl) (by decide) (fun cd13 => ?_) (fun cd13 => ?_)
      · skip
        refine r_iconst C (oDec_at oX12_isOwnHere 66 rfl) (v := k1) (by rw [qk1]; rfl) ?_
        refine r_goto C (tgt := 147) (oDec_at oX12_isOwnHere 67 rfl) (by decide) ?_
        refine r_istore_n C (lv' := [(0, .ref (oad E 71)), (1, .int k1)]) [1, 0] (oDec_at oX12_isOwnHere 69 rfl) rfl (by decide) rfl ?_
        refine r_iload_n C (j := 1) (oDec_at oX12_isOwnHere 70 rfl) rfl rfl ?_
        refine r_if_ne C 218 (oDec_at oX12_isOwnHere 71 rfl) (by decide) (fun cd14 => ?_) (fun cd14 => ?_)
        · skip
          refine r_iconst C (oDec_at oX12_isOwnHere 102 rfl) (v := k1) (by rw [qk1]; rfl) ?_
          refine r_goto C (tgt := 223) (oDec_at oX12_isOwnHere 103 rfl) (by decide) ?_
          refine r_istore_n C (lv' := [(0, .ref (oad E 71)), (1, .int k1)]) [1, 0] (oDec_at oX12_isOwnHere 105 rfl) rfl (by decide) rfl ?_
          refine r_iload_n C (j := 1) (oDec_at oX12_isOwnHere 106 rfl) rfl rfl ?_
          refine r_if_ne C 294 (oDec_at oX12_isOwnHere 107 rfl) (by decide) (fun cd15 => ?_) (fun cd15 => ?_)
          · skip
            refine r_iconst C (oDec_at oX12_isOwnHere 138 rfl) (v := k1) (by rw [qk1]; rfl) ?_
            refine r_goto C (tgt := 299) (oDec_at oX12_isOwnHere 139 rfl) (by decide) ?_
            refine r_istore_n C (lv' := [(0, .ref (oad E 71)), (1, .int k1)]) [1, 0] (oDec_at oX12_isOwnHere 141 rfl) rfl (by decide) rfl ?_
            refine r_iload_n C (j := 1) (oDec_at oX12_isOwnHere 142 rfl) rfl rfl ?_
            refine r_if_ne C 326 (oDec_at oX12_isOwnHere 143 rfl) (by decide) (fun cd16 => ?_) (fun cd16 => ?_)
            · skip
              refine r_iconst C (oDec_at oX12_isOwnHere 154 rfl) (v := k1) (by rw [qk1]; rfl) ?_
              refine r_goto C (tgt := 331) (oDec_at oX12_isOwnHere 155 rfl) (by decide) ?_
              refine r_istore_n C (lv' := [(0, .ref (oad E 71)), (1, .int k1)]) [1, 0] (oDec_at oX12_isOwnHere 157 rfl) rfl (by decide) rfl ?_
              refine r_iload_n C (j := 1) (oDec_at oX12_isOwnHere 158 rfl) rfl rfl ?_
              exact r_zret C (n_bool (by omega)) (oDec_at oX12_isOwnHere 159 rfl) ⟨_, rfl, ⟨by omega, by omega, by first | exact fun _ => hy (by omega) | (intro h; exfalso; omega), by omega, by omega⟩⟩
            · omega
          · omega
        · omega
      · omega
    · skip
      clear pu10_4
      replace pu10_5 := pu10_5 (by omega)
      clear pu10_6
      clear hy
      have hz1 : oqWi g a b ≠ 1 := fun h9 => by (have h8 := (oqWi_is (g := g) (a := a) (b := b) (i := 1) (by decide)).mp h9; omega)
      refine r_aload_n C (j := 0) (oDec_at oX12_isOwnHere 10 rfl) rfl rfl ?_
      refine r_aload_n C (j := 0) (oDec_at oX12_isOwnHere 11 rfl) rfl rfl ?_
      refine r_getF (k := 12) (b := 75) C oCl12 rfl (by decide) flX12_24 rfl rfl rfl (oDec_at oX12_isOwnHere 12 rfl) ?_
      have lk17 : ((u10).1 71 4).toInt = (s.1 71 4).toInt := congrArg Int32.toInt (((fu10 71 4 rfl).1).trans ((fu1 71 4 rfl).1))
      have lk18 : ((u10).1 71 5).toInt = (s.1 71 5).toInt := congrArg Int32.toInt (((fu10 71 5 rfl).1).trans ((fu1 71 5 rfl).1))
      refine r_callVi C oCl12 rfl miX12_isHere mlX12_196 (ct4_X12_isHere l E (u10) 75 51 4 rfl (by decide) (by decide) rfl rfl (g) (a) (b) (2) (by omega) (by omega) (oqZ_fr fu10 rfl (oqZ_fr fu1 rfl hp2)) (by omega) (by omega) rfl (oqWd_at (oqWd_fr fu10 rfl (oqWd_fr fu1 rfl hp4)) 2 (by decide)) (by omega)) (by decide) rfl rfl rfl (Nat.le_of_ble_eq_true rfl) (oDec_at oX12_isOwnHere 13 rfl) (fun r20 u19 pu19 fu19 => ?_)
      try dsimp only at pu19
      try simp only [lk17, lk18] at pu19
      obtain ⟨pu19_0, pu19_1, pu19_2, pu19_3, pu19_4, pu19_5, pu19_6⟩ := pu19
      have rr20 := n_rng r20
      have hy : r20.toInt = 1 → oqWi g a b ≠ -1 := fun h9 => by (have h8 := (oqWi_is (g := g) (a := a) (b := b) (i := 2) (by decide)).mpr (pu19_4 h9); omega)
      refine r_if_ne C 66 (oDec_at oX12_isOwnHere 14 rfl) (by decide) (fun cd21 => ?_) (fun cd21 => ?_)
      · skip
        replace pu19_4 := pu19_4 (by omega)
        clear pu19_5
        replace pu19_6 := pu19_6 (by omega)
        refine r_iconst C (oDec_at oX12_isOwnHere 30 rfl) (v := k1) (by rw [qk1]; rfl) ?_
        refine r_goto C (tgt := 71) (oDec_at oX12_isOwnHere 31 rfl) (by decide) ?_
        refine r_istore_n C (lv' := [(0, .ref (oad E 71)), (1, .int k1)]) [1, 0] (oDec_at oX12_isOwnHere 33 rfl) rfl (by decide) rfl ?_
        refine r_iload_n C (j := 1) (oDec_at oX12_isOwnHere 34 rfl) rfl rfl ?_
        refine r_if_ne C 142 (oDec_at oX12_isOwnHere 35 rfl) (by decide) (fun cd22 => ?_) (fun cd22 => ?_)
        · skip
          refine r_iconst C (oDec_at oX12_isOwnHere 66 rfl) (v := k1) (by rw [qk1]; rfl) ?_
          refine r_goto C (tgt := 147) (oDec_at oX12_isOwnHere 67 rfl) (by decide) ?_
          refine r_istore_n C (lv' := [(0, .ref (oad E 71)), (1, .int k1)]) [1, 0] (oDec_at oX12_isOwnHere 69 rfl) rfl (by decide) rfl ?_
          refine r_iload_n C (j := 1) (oDec_at oX12_isOwnHere 70 rfl) rfl rfl ?_
          refine r_if_ne C 218 (oDec_at oX12_isOwnHere 71 rfl) (by decide) (fun cd23 => ?_) (fun cd23 => ?_)
          · skip
            refine r_iconst C (oDec_at oX12_isOwnHere 102 rfl) (v := k1) (by rw [qk1]; rfl) ?_
            refine r_goto C (tgt := 223) (oDec_at oX12_isOwnHere 103 rfl) (by decide) ?_
            refine r_istore_n C (lv' := [(0, .ref (oad E 71)), (1, .int k1)]) [1, 0] (oDec_at oX12_isOwnHere 105 rfl) rfl (by decide) rfl ?_
            refine r_iload_n C (j := 1) (oDec_at oX12_isOwnHere 106 rfl) rfl rfl ?_
            refine r_if_ne C 294 (oDec_at oX12_isOwnHere 107 rfl) (by decide) (fun cd24 => ?_) (fun cd24 => ?_)
            · skip
              refine r_iconst C (oDec_at oX12_isOwnHere 138 rfl) (v := k1) (by rw [qk1]; rfl) ?_
              refine r_goto C (tgt := 299) (oDec_at oX12_isOwnHere 139 rfl) (by decide) ?_
              refine r_istore_n C (lv' := [(0, .ref (oad E 71)), (1, .int k1)]) [1, 0] (oDec_at oX12_isOwnHere 141 rfl) rfl (by decide) rfl ?_
              refine r_iload_n C (j := 1) (oDec_at oX12_isOwnHere 142 rfl) rfl rfl ?_
              refine r_if_ne C 326 (oDec_at oX12_isOwnHere 143 rfl) (by decide) (fun cd25 => ?_) (fun cd25 => ?_)
              · skip
                refine r_iconst C (oDec_at oX12_isOwnHere 154 rfl) (v := k1) (by rw [qk1]; rfl) ?_
                refine r_goto C (tgt := 331) (oDec_at oX12_isOwnHere 155 rfl) (by decide) ?_
                refine r_istore_n C (lv' := [(0, .ref (oad E 71)), (1, .int k1)]) [1, 0] (oDec_at oX12_isOwnHere 157 rfl) rfl (by decide) rfl ?_
                refine r_iload_n C (j := 1) (oDec_at oX12_isOwnHere 158 rfl) rfl rfl ?_
                exact r_zret C (n_bool (by omega)) (oDec_at oX12_isOwnHere 159 rfl) ⟨_, rfl, ⟨by omega, by omega, by first | exact fun _ => hy (by omega) | (intro h; exfalso; omega), by omega, by omega⟩⟩
              · omega
            · omega
          · omega
        · omega
      · skip
        clear pu19_4
        replace pu19_5 := pu19_5 (by omega)
        clear pu19_6
        clear hy
        have hz2 : oqWi g a b ≠ 2 := fun h9 => by (have h8 := (oqWi_is (g := g) (a := a) (b := b) (i := 2) (by decide)).mp h9; omega)
        refine r_aload_n C (j := 0) (oDec_at oX12_isOwnHere 15 rfl) rfl rfl ?_
        refine r_aload_n C (j := 0) (oDec_at oX12_isOwnHere 16 rfl) rfl rfl ?_
        refine r_getF (k := 13) (b := 76) C oCl12 rfl (by decide) flX12_27 rfl rfl rfl (oDec_at oX12_isOwnHere 17 rfl) ?_
        have lk26 : ((u19).1 71 4).toInt = (s.1 71 4).toInt := congrArg Int32.toInt (((fu19 71 4 rfl).1).trans (((fu10 71 4 rfl).1).trans ((fu1 71 4 rfl).1)))
        have lk27 : ((u19).1 71 5).toInt = (s.1 71 5).toInt := congrArg Int32.toInt (((fu19 71 5 rfl).1).trans (((fu10 71 5 rfl).1).trans ((fu1 71 5 rfl).1)))
        refine r_callVi C oCl12 rfl miX12_isHere mlX12_196 (ct4_X12_isHere l E (u19) 76 52 7 rfl (by decide) (by decide) rfl rfl (g) (a) (b) (3) (by omega) (by omega) (oqZ_fr fu19 rfl (oqZ_fr fu10 rfl (oqZ_fr fu1 rfl hp2))) (by omega) (by omega) rfl (oqWd_at (oqWd_fr fu19 rfl (oqWd_fr fu10 rfl (oqWd_fr fu1 rfl hp4))) 3 (by decide)) (by omega)) (by decide) rfl rfl rfl (Nat.le_of_ble_eq_true rfl) (oDec_at oX12_isOwnHere 18 rfl) (fun r29 u28 pu28 fu28 => ?_)
        try dsimp only at pu28
        try simp only [lk26, lk27] at pu28
        obtain ⟨pu28_0, pu28_1, pu28_2, pu28_3, pu28_4, pu28_5, pu28_6⟩ := pu28
        have rr29 := n_rng r29
        have hy : r29.toInt = 1 → oqWi g a b ≠ -1 := fun h9 => by (have h8 := (oqWi_is (g := g) (a := a) (b := b) (i := 3) (by decide)).mpr (pu28_4 h9); omega)
        refine r_if_ne C 66 (oDec_at oX12_isOwnHere 19 rfl) (by decide) (fun cd30 => ?_) (fun cd30 => ?_)
        · skip
          replace pu28_4 := pu28_4 (by omega)
          clear pu28_5
          replace pu28_6 := pu28_6 (by omega)
          refine r_iconst C (oDec_at oX12_isOwnHere 30 rfl) (v := k1) (by rw [qk1]; rfl) ?_
          refine r_goto C (tgt := 71) (oDec_at oX12_isOwnHere 31 rfl) (by decide) ?_
          refine r_istore_n C (lv' := [(0, .ref (oad E 71)), (1, .int k1)]) [1, 0] (oDec_at oX12_isOwnHere 33 rfl) rfl (by decide) rfl ?_
          refine r_iload_n C (j := 1) (oDec_at oX12_isOwnHere 34 rfl) rfl rfl ?_
          refine r_if_ne C 142 (oDec_at oX12_isOwnHere 35 rfl) (by decide) (fun cd31 => ?_) (fun cd31 => ?_)
          · skip
            refine r_iconst C (oDec_at oX12_isOwnHere 66 rfl) (v := k1) (by rw [qk1]; rfl) ?_
            refine r_goto C (tgt := 147) (oDec_at oX12_isOwnHere 67 rfl) (by decide) ?_
            refine r_istore_n C (lv' := [(0, .ref (oad E 71)), (1, .int k1)]) [1, 0] (oDec_at oX12_isOwnHere 69 rfl) rfl (by decide) rfl ?_
            refine r_iload_n C (j := 1) (oDec_at oX12_isOwnHere 70 rfl) rfl rfl ?_
            refine r_if_ne C 218 (oDec_at oX12_isOwnHere 71 rfl) (by decide) (fun cd32 => ?_) (fun cd32 => ?_)
            · skip
              refine r_iconst C (oDec_at oX12_isOwnHere 102 rfl) (v := k1) (by rw [qk1]; rfl) ?_
              refine r_goto C (tgt := 223) (oDec_at oX12_isOwnHere 103 rfl) (by decide) ?_
              refine r_istore_n C (lv' := [(0, .ref (oad E 71)), (1, .int k1)]) [1, 0] (oDec_at oX12_isOwnHere 105 rfl) rfl (by decide) rfl ?_
              refine r_iload_n C (j := 1) (oDec_at oX12_isOwnHere 106 rfl) rfl rfl ?_
              refine r_if_ne C 294 (oDec_at oX12_isOwnHere 107 rfl) (by decide) (fun cd33 => ?_) (fun cd33 => ?_)
              · skip
                refine r_iconst C (oDec_at oX12_isOwnHere 138 rfl) (v := k1) (by rw [qk1]; rfl) ?_
                refine r_goto C (tgt := 299) (oDec_at oX12_isOwnHere 139 rfl) (by decide) ?_
                refine r_istore_n C (lv' := [(0, .ref (oad E 71)), (1, .int k1)]) [1, 0] (oDec_at oX12_isOwnHere 141 rfl) rfl (by decide) rfl ?_
                refine r_iload_n C (j := 1) (oDec_at oX12_isOwnHere 142 rfl) rfl rfl ?_
                refine r_if_ne C 326 (oDec_at oX12_isOwnHere 143 rfl) (by decide) (fun cd34 => ?_) (fun cd34 => ?_)
                · skip
                  refine r_iconst C (oDec_at oX12_isOwnHere 154 rfl) (v := k1) (by rw [qk1]; rfl) ?_
                  refine r_goto C (tgt := 331) (oDec_at oX12_isOwnHere 155 rfl) (by decide) ?_
                  refine r_istore_n C (lv' := [(0, .ref (oad E 71)), (1, .int k1)]) [1, 0] (oDec_at oX12_isOwnHere 157 rfl) rfl (by decide) rfl ?_
                  refine r_iload_n C (j := 1) (oDec_at oX12_isOwnHere 158 rfl) rfl rfl ?_
                  exact r_zret C (n_bool (by omega)) (oDec_at oX12_isOwnHere 159 rfl) ⟨_, rfl, ⟨by omega, by omega, by first | exact fun _ => hy (by omega) | (intro h; exfalso; omega), by omega, by omega⟩⟩
                · omega
              · omega
            · omega
          · omega
        · skip
          clear pu28_4
          replace pu28_5 := pu28_5 (by omega)
          clear pu28_6
          clear hy
          have hz3 : oqWi g a b ≠ 3 := fun h9 => by (have h8 := (oqWi_is (g := g) (a := a) (b := b) (i := 3) (by decide)).mp h9; omega)
          refine r_aload_n C (j := 0) (oDec_at oX12_isOwnHere 20 rfl) rfl rfl ?_
          refine r_aload_n C (j := 0) (oDec_at oX12_isOwnHere 21 rfl) rfl rfl ?_
          refine r_getF (k := 14) (b := 77) C oCl12 rfl (by decide) flX12_30 rfl rfl rfl (oDec_at oX12_isOwnHere 22 rfl) ?_
          have lk35 : ((u28).1 71 4).toInt = (s.1 71 4).toInt := congrArg Int32.toInt (((fu28 71 4 rfl).1).trans (((fu19 71 4 rfl).1).trans (((fu10 71 4 rfl).1).trans ((fu1 71 4 rfl).1))))
          have lk36 : ((u28).1 71 5).toInt = (s.1 71 5).toInt := congrArg Int32.toInt (((fu28 71 5 rfl).1).trans (((fu19 71 5 rfl).1).trans (((fu10 71 5 rfl).1).trans ((fu1 71 5 rfl).1))))
          refine r_callVi C oCl12 rfl miX12_isHere mlX12_196 (ct4_X12_isHere l E (u28) 77 53 3 rfl (by decide) (by decide) rfl rfl (g) (a) (b) (4) (by omega) (by omega) (oqZ_fr fu28 rfl (oqZ_fr fu19 rfl (oqZ_fr fu10 rfl (oqZ_fr fu1 rfl hp2)))) (by omega) (by omega) rfl (oqWd_at (oqWd_fr fu28 rfl (oqWd_fr fu19 rfl (oqWd_fr fu10 rfl (oqWd_fr fu1 rfl hp4)))) 4 (by decide)) (by omega)) (by decide) rfl rfl rfl (Nat.le_of_ble_eq_true rfl) (oDec_at oX12_isOwnHere 23 rfl) (fun r38 u37 pu37 fu37 => ?_)
          try dsimp only at pu37
          try simp only [lk35, lk36] at pu37
          obtain ⟨pu37_0, pu37_1, pu37_2, pu37_3, pu37_4, pu37_5, pu37_6⟩ := pu37
          have rr38 := n_rng r38
          have hy : r38.toInt = 1 → oqWi g a b ≠ -1 := fun h9 => by (have h8 := (oqWi_is (g := g) (a := a) (b := b) (i := 4) (by decide)).mpr (pu37_4 h9); omega)
          refine r_if_ne C 66 (oDec_at oX12_isOwnHere 24 rfl) (by decide) (fun cd39 => ?_) (fun cd39 => ?_)
          · skip
            replace pu37_4 := pu37_4 (by omega)
            clear pu37_5
            replace pu37_6 := pu37_6 (by omega)
            refine r_iconst C (oDec_at oX12_isOwnHere 30 rfl) (v := k1) (by rw [qk1]; rfl) ?_
            refine r_goto C (tgt := 71) (oDec_at oX12_isOwnHere 31 rfl) (by decide) ?_
            refine r_istore_n C (lv' := [(0, .ref (oad E 71)), (1, .int k1)]) [1, 0] (oDec_at oX12_isOwnHere 33 rfl) rfl (by decide) rfl ?_
            refine r_iload_n C (j := 1) (oDec_at oX12_isOwnHere 34 rfl) rfl rfl ?_
            refine r_if_ne C 142 (oDec_at oX12_isOwnHere 35 rfl) (by decide) (fun cd40 => ?_) (fun cd40 => ?_)
            · skip
              refine r_iconst C (oDec_at oX12_isOwnHere 66 rfl) (v := k1) (by rw [qk1]; rfl) ?_
              refine r_goto C (tgt := 147) (oDec_at oX12_isOwnHere 67 rfl) (by decide) ?_
              refine r_istore_n C (lv' := [(0, .ref (oad E 71)), (1, .int k1)]) [1, 0] (oDec_at oX12_isOwnHere 69 rfl) rfl (by decide) rfl ?_
              refine r_iload_n C (j := 1) (oDec_at oX12_isOwnHere 70 rfl) rfl rfl ?_
              refine r_if_ne C 218 (oDec_at oX12_isOwnHere 71 rfl) (by decide) (fun cd41 => ?_) (fun cd41 => ?_)
              · skip
                refine r_iconst C (oDec_at oX12_isOwnHere 102 rfl) (v := k1) (by rw [qk1]; rfl) ?_
                refine r_goto C (tgt := 223) (oDec_at oX12_isOwnHere 103 rfl) (by decide) ?_
                refine r_istore_n C (lv' := [(0, .ref (oad E 71)), (1, .int k1)]) [1, 0] (oDec_at oX12_isOwnHere 105 rfl) rfl (by decide) rfl ?_
                refine r_iload_n C (j := 1) (oDec_at oX12_isOwnHere 106 rfl) rfl rfl ?_
                refine r_if_ne C 294 (oDec_at oX12_isOwnHere 107 rfl) (by decide) (fun cd42 => ?_) (fun cd42 => ?_)
                · skip
                  refine r_iconst C (oDec_at oX12_isOwnHere 138 rfl) (v := k1) (by rw [qk1]; rfl) ?_
                  refine r_goto C (tgt := 299) (oDec_at oX12_isOwnHere 139 rfl) (by decide) ?_
                  refine r_istore_n C (lv' := [(0, .ref (oad E 71)), (1, .int k1)]) [1, 0] (oDec_at oX12_isOwnHere 141 rfl) rfl (by decide) rfl ?_
                  refine r_iload_n C (j := 1) (oDec_at oX12_isOwnHere 142 rfl) rfl rfl ?_
                  refine r_if_ne C 326 (oDec_at oX12_isOwnHere 143 rfl) (by decide) (fun cd43 => ?_) (fun cd43 => ?_)
                  · skip
                    refine r_iconst C (oDec_at oX12_isOwnHere 154 rfl) (v := k1) (by rw [qk1]; rfl) ?_
                    refine r_goto C (tgt := 331) (oDec_at oX12_isOwnHere 155 rfl) (by decide) ?_
                    refine r_istore_n C (lv' := [(0, .ref (oad E 71)), (1, .int k1)]) [1, 0] (oDec_at oX12_isOwnHere 157 rfl) rfl (by decide) rfl ?_
                    refine r_iload_n C (j := 1) (oDec_at oX12_isOwnHere 158 rfl) rfl rfl ?_
                    exact r_zret C (n_bool (by omega)) (oDec_at oX12_isOwnHere 159 rfl) ⟨_, rfl, ⟨by omega, by omega, by first | exact fun _ => hy (by omega) | (intro h; exfalso; omega), by omega, by omega⟩⟩
                  · omega
                · omega
              · omega
            · omega
          · skip
            clear pu37_4
            replace pu37_5 := pu37_5 (by omega)
            clear pu37_6
            clear hy
            have hz4 : oqWi g a b ≠ 4 := fun h9 => by (have h8 := (oqWi_is (g := g) (a := a) (b := b) (i := 4) (by decide)).mp h9; omega)
            refine r_aload_n C (j := 0) (oDec_at oX12_isOwnHere 25 rfl) rfl rfl ?_
            refine r_aload_n C (j := 0) (oDec_at oX12_isOwnHere 26 rfl) rfl rfl ?_
            refine r_getF (k := 15) (b := 78) C oCl12 rfl (by decide) flX12_33 rfl rfl rfl (oDec_at oX12_isOwnHere 27 rfl) ?_
            have lk44 : ((u37).1 71 4).toInt = (s.1 71 4).toInt := congrArg Int32.toInt (((fu37 71 4 rfl).1).trans (((fu28 71 4 rfl).1).trans (((fu19 71 4 rfl).1).trans (((fu10 71 4 rfl).1).trans ((fu1 71 4 rfl).1)))))
            have lk45 : ((u37).1 71 5).toInt = (s.1 71 5).toInt := congrArg Int32.toInt (((fu37 71 5 rfl).1).trans (((fu28 71 5 rfl).1).trans (((fu19 71 5 rfl).1).trans (((fu10 71 5 rfl).1).trans ((fu1 71 5 rfl).1)))))
            refine r_callVi C oCl12 rfl miX12_isHere mlX12_196 (ct4_X12_isHere l E (u37) 78 54 5 rfl (by decide) (by decide) rfl rfl (g) (a) (b) (5) (by omega) (by omega) (oqZ_fr fu37 rfl (oqZ_fr fu28 rfl (oqZ_fr fu19 rfl (oqZ_fr fu10 rfl (oqZ_fr fu1 rfl hp2))))) (by omega) (by omega) rfl (oqWd_at (oqWd_fr fu37 rfl (oqWd_fr fu28 rfl (oqWd_fr fu19 rfl (oqWd_fr fu10 rfl (oqWd_fr fu1 rfl hp4))))) 5 (by decide)) (by omega)) (by decide) rfl rfl rfl (Nat.le_of_ble_eq_true rfl) (oDec_at oX12_isOwnHere 28 rfl) (fun r47 u46 pu46 fu46 => ?_)
            try dsimp only at pu46
            try simp only [lk44, lk45] at pu46
            obtain ⟨pu46_0, pu46_1, pu46_2, pu46_3, pu46_4, pu46_5, pu46_6⟩ := pu46
            have rr47 := n_rng r47
            have hy : r47.toInt = 1 → oqWi g a b ≠ -1 := fun h9 => by (have h8 := (oqWi_is (g := g) (a := a) (b := b) (i := 5) (by decide)).mpr (pu46_4 h9); omega)
            refine r_if_eq C 70 (oDec_at oX12_isOwnHere 29 rfl) (by decide) (fun cd48 => ?_) (fun cd48 => ?_)
            · skip
              clear pu46_4
              replace pu46_5 := pu46_5 (by omega)
              clear pu46_6
              clear hy
              have hz5 : oqWi g a b ≠ 5 := fun h9 => by (have h8 := (oqWi_is (g := g) (a := a) (b := b) (i := 5) (by decide)).mp h9; omega)
              refine r_iconst C (oDec_at oX12_isOwnHere 32 rfl) (v := k0) (by rw [qk0]; rfl) ?_
              refine r_istore_n C (lv' := [(0, .ref (oad E 71)), (1, .int k0)]) [1, 0] (oDec_at oX12_isOwnHere 33 rfl) rfl (by decide) rfl ?_
              refine r_iload_n C (j := 1) (oDec_at oX12_isOwnHere 34 rfl) rfl rfl ?_
              refine r_if_ne C 142 (oDec_at oX12_isOwnHere 35 rfl) (by decide) (fun cd49 => ?_) (fun cd49 => ?_)
              · omega
              · skip
                refine r_aload_n C (j := 0) (oDec_at oX12_isOwnHere 36 rfl) rfl rfl ?_
                refine r_aload_n C (j := 0) (oDec_at oX12_isOwnHere 37 rfl) rfl rfl ?_
                refine r_getF (k := 16) (b := 79) C oCl12 rfl (by decide) flX12_36 rfl rfl rfl (oDec_at oX12_isOwnHere 38 rfl) ?_
                have lk50 : ((u46).1 71 4).toInt = (s.1 71 4).toInt := congrArg Int32.toInt (((fu46 71 4 rfl).1).trans (((fu37 71 4 rfl).1).trans (((fu28 71 4 rfl).1).trans (((fu19 71 4 rfl).1).trans (((fu10 71 4 rfl).1).trans ((fu1 71 4 rfl).1))))))
                have lk51 : ((u46).1 71 5).toInt = (s.1 71 5).toInt := congrArg Int32.toInt (((fu46 71 5 rfl).1).trans (((fu37 71 5 rfl).1).trans (((fu28 71 5 rfl).1).trans (((fu19 71 5 rfl).1).trans (((fu10 71 5 rfl).1).trans ((fu1 71 5 rfl).1))))))
                refine r_callVi C oCl12 rfl miX12_isHere mlX12_196 (ct4_X12_isHere l E (u46) 79 55 4 rfl (by decide) (by decide) rfl rfl (g) (a) (b) (6) (by omega) (by omega) (oqZ_fr fu46 rfl (oqZ_fr fu37 rfl (oqZ_fr fu28 rfl (oqZ_fr fu19 rfl (oqZ_fr fu10 rfl (oqZ_fr fu1 rfl hp2)))))) (by omega) (by omega) rfl (oqWd_at (oqWd_fr fu46 rfl (oqWd_fr fu37 rfl (oqWd_fr fu28 rfl (oqWd_fr fu19 rfl (oqWd_fr fu10 rfl (oqWd_fr fu1 rfl hp4)))))) 6 (by decide)) (by omega)) (by decide) rfl rfl rfl (Nat.le_of_ble_eq_true rfl) (oDec_at oX12_isOwnHere 39 rfl) (fun r53 u52 pu52 fu52 => ?_)
                try dsimp only at pu52
                try simp only [lk50, lk51] at pu52
                obtain ⟨pu52_0, pu52_1, pu52_2, pu52_3, pu52_4, pu52_5, pu52_6⟩ := pu52
                have rr53 := n_rng r53
                have hy : r53.toInt = 1 → oqWi g a b ≠ -1 := fun h9 => by (have h8 := (oqWi_is (g := g) (a := a) (b := b) (i := 6) (by decide)).mpr (pu52_4 h9); omega)
                refine r_if_ne C 142 (oDec_at oX12_isOwnHere 40 rfl) (by decide) (fun cd54 => ?_) (fun cd54 => ?_)
                · skip
                  replace pu52_4 := pu52_4 (by omega)
                  clear pu52_5
                  replace pu52_6 := pu52_6 (by omega)
                  refine r_iconst C (oDec_at oX12_isOwnHere 66 rfl) (v := k1) (by rw [qk1]; rfl) ?_
                  refine r_goto C (tgt := 147) (oDec_at oX12_isOwnHere 67 rfl) (by decide) ?_
                  refine r_istore_n C (lv' := [(0, .ref (oad E 71)), (1, .int k1)]) [1, 0] (oDec_at oX12_isOwnHere 69 rfl) rfl (by decide) rfl ?_
                  refine r_iload_n C (j := 1) (oDec_at oX12_isOwnHere 70 rfl) rfl rfl ?_
                  refine r_if_ne C 218 (oDec_at oX12_isOwnHere 71 rfl) (by decide) (fun cd55 => ?_) (fun cd55 => ?_)
                  · skip
                    refine r_iconst C (oDec_at oX12_isOwnHere 102 rfl) (v := k1) (by rw [qk1]; rfl) ?_
                    refine r_goto C (tgt := 223) (oDec_at oX12_isOwnHere 103 rfl) (by decide) ?_
                    refine r_istore_n C (lv' := [(0, .ref (oad E 71)), (1, .int k1)]) [1, 0] (oDec_at oX12_isOwnHere 105 rfl) rfl (by decide) rfl ?_
                    refine r_iload_n C (j := 1) (oDec_at oX12_isOwnHere 106 rfl) rfl rfl ?_
                    refine r_if_ne C 294 (oDec_at oX12_isOwnHere 107 rfl) (by decide) (fun cd56 => ?_) (fun cd56 => ?_)
                    · skip
                      refine r_iconst C (oDec_at oX12_isOwnHere 138 rfl) (v := k1) (by rw [qk1]; rfl) ?_
                      refine r_goto C (tgt := 299) (oDec_at oX12_isOwnHere 139 rfl) (by decide) ?_
                      refine r_istore_n C (lv' := [(0, .ref (oad E 71)), (1, .int k1)]) [1, 0] (oDec_at oX12_isOwnHere 141 rfl) rfl (by decide) rfl ?_
                      refine r_iload_n C (j := 1) (oDec_at oX12_isOwnHere 142 rfl) rfl rfl ?_
                      refine r_if_ne C 326 (oDec_at oX12_isOwnHere 143 rfl) (by decide) (fun cd57 => ?_) (fun cd57 => ?_)
                      · skip
                        refine r_iconst C (oDec_at oX12_isOwnHere 154 rfl) (v := k1) (by rw [qk1]; rfl) ?_
                        refine r_goto C (tgt := 331) (oDec_at oX12_isOwnHere 155 rfl) (by decide) ?_
                        refine r_istore_n C (lv' := [(0, .ref (oad E 71)), (1, .int k1)]) [1, 0] (oDec_at oX12_isOwnHere 157 rfl) rfl (by decide) rfl ?_
                        refine r_iload_n C (j := 1) (oDec_at oX12_isOwnHere 158 rfl) rfl rfl ?_
                        exact r_zret C (n_bool (by omega)) (oDec_at oX12_isOwnHere 159 rfl) ⟨_, rfl, ⟨by omega, by omega, by first | exact fun _ => hy (by omega) | (intro h; exfalso; omega), by omega, by omega⟩⟩
                      · omega
                    · omega
                  · omega
                · skip
                  clear pu52_4
                  replace pu52_5 := pu52_5 (by omega)
                  clear pu52_6
                  clear hy
                  have hz6 : oqWi g a b ≠ 6 := fun h9 => by (have h8 := (oqWi_is (g := g) (a := a) (b := b) (i := 6) (by decide)).mp h9; omega)
                  refine r_aload_n C (j := 0) (oDec_at oX12_isOwnHere 41 rfl) rfl rfl ?_
                  refine r_aload_n C (j := 0) (oDec_at oX12_isOwnHere 42 rfl) rfl rfl ?_
                  refine r_getF (k := 17) (b := 80) C oCl12 rfl (by decide) flX12_39 rfl rfl rfl (oDec_at oX12_isOwnHere 43 rfl) ?_
                  have lk58 : ((u52).1 71 4).toInt = (s.1 71 4).toInt := congrArg Int32.toInt (((fu52 71 4 rfl).1).trans (((fu46 71 4 rfl).1).trans (((fu37 71 4 rfl).1).trans (((fu28 71 4 rfl).1).trans (((fu19 71 4 rfl).1).trans (((fu10 71 4 rfl).1).trans ((fu1 71 4 rfl).1)))))))
                  have lk59 : ((u52).1 71 5).toInt = (s.1 71 5).toInt := congrArg Int32.toInt (((fu52 71 5 rfl).1).trans (((fu46 71 5 rfl).1).trans (((fu37 71 5 rfl).1).trans (((fu28 71 5 rfl).1).trans (((fu19 71 5 rfl).1).trans (((fu10 71 5 rfl).1).trans ((fu1 71 5 rfl).1)))))))
                  refine r_callVi C oCl12 rfl miX12_isHere mlX12_196 (ct4_X12_isHere l E (u52) 80 56 2 rfl (by decide) (by decide) rfl rfl (g) (a) (b) (7) (by omega) (by omega) (oqZ_fr fu52 rfl (oqZ_fr fu46 rfl (oqZ_fr fu37 rfl (oqZ_fr fu28 rfl (oqZ_fr fu19 rfl (oqZ_fr fu10 rfl (oqZ_fr fu1 rfl hp2))))))) (by omega) (by omega) rfl (oqWd_at (oqWd_fr fu52 rfl (oqWd_fr fu46 rfl (oqWd_fr fu37 rfl (oqWd_fr fu28 rfl (oqWd_fr fu19 rfl (oqWd_fr fu10 rfl (oqWd_fr fu1 rfl hp4))))))) 7 (by decide)) (by omega)) (by decide) rfl rfl rfl (Nat.le_of_ble_eq_true rfl) (oDec_at oX12_isOwnHere 44 rfl) (fun r61 u60 pu60 fu60 => ?_)
                  try dsimp only at pu60
                  try simp only [lk58, lk59] at pu60
                  obtain ⟨pu60_0, pu60_1, pu60_2, pu60_3, pu60_4, pu60_5, pu60_6⟩ := pu60
                  have rr61 := n_rng r61
                  have hy : r61.toInt = 1 → oqWi g a b ≠ -1 := fun h9 => by (have h8 := (oqWi_is (g := g) (a := a) (b := b) (i := 7) (by decide)).mpr (pu60_4 h9); omega)
                  refine r_if_ne C 142 (oDec_at oX12_isOwnHere 45 rfl) (by decide) (fun cd62 => ?_) (fun cd62 => ?_)
                  · skip
                    replace pu60_4 := pu60_4 (by omega)
                    clear pu60_5
                    replace pu60_6 := pu60_6 (by omega)
                    refine r_iconst C (oDec_at oX12_isOwnHere 66 rfl) (v := k1) (by rw [qk1]; rfl) ?_
                    refine r_goto C (tgt := 147) (oDec_at oX12_isOwnHere 67 rfl) (by decide) ?_
                    refine r_istore_n C (lv' := [(0, .ref (oad E 71)), (1, .int k1)]) [1, 0] (oDec_at oX12_isOwnHere 69 rfl) rfl (by decide) rfl ?_
                    refine r_iload_n C (j := 1) (oDec_at oX12_isOwnHere 70 rfl) rfl rfl ?_
                    refine r_if_ne C 218 (oDec_at oX12_isOwnHere 71 rfl) (by decide) (fun cd63 => ?_) (fun cd63 => ?_)
                    · skip
                      refine r_iconst C (oDec_at oX12_isOwnHere 102 rfl) (v := k1) (by rw [qk1]; rfl) ?_
                      refine r_goto C (tgt := 223) (oDec_at oX12_isOwnHere 103 rfl) (by decide) ?_
                      refine r_istore_n C (lv' := [(0, .ref (oad E 71)), (1, .int k1)]) [1, 0] (oDec_at oX12_isOwnHere 105 rfl) rfl (by decide) rfl ?_
                      refine r_iload_n C (j := 1) (oDec_at oX12_isOwnHere 106 rfl) rfl rfl ?_
                      refine r_if_ne C 294 (oDec_at oX12_isOwnHere 107 rfl) (by decide) (fun cd64 => ?_) (fun cd64 => ?_)
                      · skip
                        refine r_iconst C (oDec_at oX12_isOwnHere 138 rfl) (v := k1) (by rw [qk1]; rfl) ?_
                        refine r_goto C (tgt := 299) (oDec_at oX12_isOwnHere 139 rfl) (by decide) ?_
                        refine r_istore_n C (lv' := [(0, .ref (oad E 71)), (1, .int k1)]) [1, 0] (oDec_at oX12_isOwnHere 141 rfl) rfl (by decide) rfl ?_
                        refine r_iload_n C (j := 1) (oDec_at oX12_isOwnHere 142 rfl) rfl rfl ?_
                        refine r_if_ne C 326 (oDec_at oX12_isOwnHere 143 rfl) (by decide) (fun cd65 => ?_) (fun cd65 => ?_)
                        · skip
                          refine r_iconst C (oDec_at oX12_isOwnHere 154 rfl) (v := k1) (by rw [qk1]; rfl) ?_
                          refine r_goto C (tgt := 331) (oDec_at oX12_isOwnHere 155 rfl) (by decide) ?_
                          refine r_istore_n C (lv' := [(0, .ref (oad E 71)), (1, .int k1)]) [1, 0] (oDec_at oX12_isOwnHere 157 rfl) rfl (by decide) rfl ?_
                          refine r_iload_n C (j := 1) (oDec_at oX12_isOwnHere 158 rfl) rfl rfl ?_
                          exact r_zret C (n_bool (by omega)) (oDec_at oX12_isOwnHere 159 rfl) ⟨_, rfl, ⟨by omega, by omega, by first | exact fun _ => hy (by omega) | (intro h; exfalso; omega), by omega, by omega⟩⟩
                        · omega
                      · omega
                    · omega
                  · skip
                    clear pu60_4
                    replace pu60_5 := pu60_5 (by omega)
                    clear pu60_6
                    clear hy
                    have hz7 : oqWi g a b ≠ 7 := fun h9 => by (have h8 := (oqWi_is (g := g) (a := a) (b := b) (i := 7) (by decide)).mp h9; omega)
                    refine r_aload_n C (j := 0) (oDec_at oX12_isOwnHere 46 rfl) rfl rfl ?_
                    refine r_aload_n C (j := 0) (oDec_at oX12_isOwnHere 47 rfl) rfl rfl ?_
                    refine r_getF (k := 18) (b := 81) C oCl12 rfl (by decide) flX12_42 rfl rfl rfl (oDec_at oX12_isOwnHere 48 rfl) ?_
                    have lk66 : ((u60).1 71 4).toInt = (s.1 71 4).toInt := congrArg Int32.toInt (((fu60 71 4 rfl).1).trans (((fu52 71 4 rfl).1).trans (((fu46 71 4 rfl).1).trans (((fu37 71 4 rfl).1).trans (((fu28 71 4 rfl).1).trans (((fu19 71 4 rfl).1).trans (((fu10 71 4 rfl).1).trans ((fu1 71 4 rfl).1))))))))
                    have lk67 : ((u60).1 71 5).toInt = (s.1 71 5).toInt := congrArg Int32.toInt (((fu60 71 5 rfl).1).trans (((fu52 71 5 rfl).1).trans (((fu46 71 5 rfl).1).trans (((fu37 71 5 rfl).1).trans (((fu28 71 5 rfl).1).trans (((fu19 71 5 rfl).1).trans (((fu10 71 5 rfl).1).trans ((fu1 71 5 rfl).1))))))))
                    refine r_callVi C oCl12 rfl miX12_isHere mlX12_196 (ct4_X12_isHere l E (u60) 81 57 3 rfl (by decide) (by decide) rfl rfl (g) (a) (b) (8) (by omega) (by omega) (oqZ_fr fu60 rfl (oqZ_fr fu52 rfl (oqZ_fr fu46 rfl (oqZ_fr fu37 rfl (oqZ_fr fu28 rfl (oqZ_fr fu19 rfl (oqZ_fr fu10 rfl (oqZ_fr fu1 rfl hp2)))))))) (by omega) (by omega) rfl (oqWd_at (oqWd_fr fu60 rfl (oqWd_fr fu52 rfl (oqWd_fr fu46 rfl (oqWd_fr fu37 rfl (oqWd_fr fu28 rfl (oqWd_fr fu19 rfl (oqWd_fr fu10 rfl (oqWd_fr fu1 rfl hp4)))))))) 8 (by decide)) (by omega)) (by decide) rfl rfl rfl (Nat.le_of_ble_eq_true rfl) (oDec_at oX12_isOwnHere 49 rfl) (fun r69 u68 pu68 fu68 => ?_)
                    try dsimp only at pu68
                    try simp only [lk66, lk67] at pu68
                    obtain ⟨pu68_0, pu68_1, pu68_2, pu68_3, pu68_4, pu68_5, pu68_6⟩ := pu68
                    have rr69 := n_rng r69
                    have hy : r69.toInt = 1 → oqWi g a b ≠ -1 := fun h9 => by (have h8 := (oqWi_is (g := g) (a := a) (b := b) (i := 8) (by decide)).mpr (pu68_4 h9); omega)
                    refine r_if_ne C 142 (oDec_at oX12_isOwnHere 50 rfl) (by decide) (fun cd70 => ?_) (fun cd70 => ?_)
                    · skip
                      replace pu68_4 := pu68_4 (by omega)
                      clear pu68_5
                      replace pu68_6 := pu68_6 (by omega)
                      refine r_iconst C (oDec_at oX12_isOwnHere 66 rfl) (v := k1) (by rw [qk1]; rfl) ?_
                      refine r_goto C (tgt := 147) (oDec_at oX12_isOwnHere 67 rfl) (by decide) ?_
                      refine r_istore_n C (lv' := [(0, .ref (oad E 71)), (1, .int k1)]) [1, 0] (oDec_at oX12_isOwnHere 69 rfl) rfl (by decide) rfl ?_
                      refine r_iload_n C (j := 1) (oDec_at oX12_isOwnHere 70 rfl) rfl rfl ?_
                      refine r_if_ne C 218 (oDec_at oX12_isOwnHere 71 rfl) (by decide) (fun cd71 => ?_) (fun cd71 => ?_)
                      · skip
                        refine r_iconst C (oDec_at oX12_isOwnHere 102 rfl) (v := k1) (by rw [qk1]; rfl) ?_
                        refine r_goto C (tgt := 223) (oDec_at oX12_isOwnHere 103 rfl) (by decide) ?_
                        refine r_istore_n C (lv' := [(0, .ref (oad E 71)), (1, .int k1)]) [1, 0] (oDec_at oX12_isOwnHere 105 rfl) rfl (by decide) rfl ?_
                        refine r_iload_n C (j := 1) (oDec_at oX12_isOwnHere 106 rfl) rfl rfl ?_
                        refine r_if_ne C 294 (oDec_at oX12_isOwnHere 107 rfl) (by decide) (fun cd72 => ?_) (fun cd72 => ?_)
                        · skip
                          refine r_iconst C (oDec_at oX12_isOwnHere 138 rfl) (v := k1) (by rw [qk1]; rfl) ?_
                          refine r_goto C (tgt := 299) (oDec_at oX12_isOwnHere 139 rfl) (by decide) ?_
                          refine r_istore_n C (lv' := [(0, .ref (oad E 71)), (1, .int k1)]) [1, 0] (oDec_at oX12_isOwnHere 141 rfl) rfl (by decide) rfl ?_
                          refine r_iload_n C (j := 1) (oDec_at oX12_isOwnHere 142 rfl) rfl rfl ?_
                          refine r_if_ne C 326 (oDec_at oX12_isOwnHere 143 rfl) (by decide) (fun cd73 => ?_) (fun cd73 => ?_)
                          · skip
                            refine r_iconst C (oDec_at oX12_isOwnHere 154 rfl) (v := k1) (by rw [qk1]; rfl) ?_
                            refine r_goto C (tgt := 331) (oDec_at oX12_isOwnHere 155 rfl) (by decide) ?_
                            refine r_istore_n C (lv' := [(0, .ref (oad E 71)), (1, .int k1)]) [1, 0] (oDec_at oX12_isOwnHere 157 rfl) rfl (by decide) rfl ?_
                            refine r_iload_n C (j := 1) (oDec_at oX12_isOwnHere 158 rfl) rfl rfl ?_
                            exact r_zret C (n_bool (by omega)) (oDec_at oX12_isOwnHere 159 rfl) ⟨_, rfl, ⟨by omega, by omega, by first | exact fun _ => hy (by omega) | (intro h; exfalso; omega), by omega, by omega⟩⟩
                          · omega
                        · omega
                      · omega
                    · skip
                      clear pu68_4
                      replace pu68_5 := pu68_5 (by omega)
                      clear pu68_6
                      clear hy
                      have hz8 : oqWi g a b ≠ 8 := fun h9 => by (have h8 := (oqWi_is (g := g) (a := a) (b := b) (i := 8) (by decide)).mp h9; omega)
                      refine r_aload_n C (j := 0) (oDec_at oX12_isOwnHere 51 rfl) rfl rfl ?_
                      refine r_aload_n C (j := 0) (oDec_at oX12_isOwnHere 52 rfl) rfl rfl ?_
                      refine r_getF (k := 19) (b := 82) C oCl12 rfl (by decide) flX12_45 rfl rfl rfl (oDec_at oX12_isOwnHere 53 rfl) ?_
                      have lk74 : ((u68).1 71 4).toInt = (s.1 71 4).toInt := congrArg Int32.toInt (((fu68 71 4 rfl).1).trans (((fu60 71 4 rfl).1).trans (((fu52 71 4 rfl).1).trans (((fu46 71 4 rfl).1).trans (((fu37 71 4 rfl).1).trans (((fu28 71 4 rfl).1).trans (((fu19 71 4 rfl).1).trans (((fu10 71 4 rfl).1).trans ((fu1 71 4 rfl).1)))))))))
                      have lk75 : ((u68).1 71 5).toInt = (s.1 71 5).toInt := congrArg Int32.toInt (((fu68 71 5 rfl).1).trans (((fu60 71 5 rfl).1).trans (((fu52 71 5 rfl).1).trans (((fu46 71 5 rfl).1).trans (((fu37 71 5 rfl).1).trans (((fu28 71 5 rfl).1).trans (((fu19 71 5 rfl).1).trans (((fu10 71 5 rfl).1).trans ((fu1 71 5 rfl).1)))))))))
                      refine r_callVi C oCl12 rfl miX12_isHere mlX12_196 (ct4_X12_isHere l E (u68) 82 58 3 rfl (by decide) (by decide) rfl rfl (g) (a) (b) (9) (by omega) (by omega) (oqZ_fr fu68 rfl (oqZ_fr fu60 rfl (oqZ_fr fu52 rfl (oqZ_fr fu46 rfl (oqZ_fr fu37 rfl (oqZ_fr fu28 rfl (oqZ_fr fu19 rfl (oqZ_fr fu10 rfl (oqZ_fr fu1 rfl hp2))))))))) (by omega) (by omega) rfl (oqWd_at (oqWd_fr fu68 rfl (oqWd_fr fu60 rfl (oqWd_fr fu52 rfl (oqWd_fr fu46 rfl (oqWd_fr fu37 rfl (oqWd_fr fu28 rfl (oqWd_fr fu19 rfl (oqWd_fr fu10 rfl (oqWd_fr fu1 rfl hp4))))))))) 9 (by decide)) (by omega)) (by decide) rfl rfl rfl (Nat.le_of_ble_eq_true rfl) (oDec_at oX12_isOwnHere 54 rfl) (fun r77 u76 pu76 fu76 => ?_)
                      try dsimp only at pu76
                      try simp only [lk74, lk75] at pu76
                      obtain ⟨pu76_0, pu76_1, pu76_2, pu76_3, pu76_4, pu76_5, pu76_6⟩ := pu76
                      have rr77 := n_rng r77
                      have hy : r77.toInt = 1 → oqWi g a b ≠ -1 := fun h9 => by (have h8 := (oqWi_is (g := g) (a := a) (b := b) (i := 9) (by decide)).mpr (pu76_4 h9); omega)
                      refine r_if_ne C 142 (oDec_at oX12_isOwnHere 55 rfl) (by decide) (fun cd78 => ?_) (fun cd78 => ?_)
                      · skip
                        replace pu76_4 := pu76_4 (by omega)
                        clear pu76_5
                        replace pu76_6 := pu76_6 (by omega)
                        refine r_iconst C (oDec_at oX12_isOwnHere 66 rfl) (v := k1) (by rw [qk1]; rfl) ?_
                        refine r_goto C (tgt := 147) (oDec_at oX12_isOwnHere 67 rfl) (by decide) ?_
                        refine r_istore_n C (lv' := [(0, .ref (oad E 71)), (1, .int k1)]) [1, 0] (oDec_at oX12_isOwnHere 69 rfl) rfl (by decide) rfl ?_
                        refine r_iload_n C (j := 1) (oDec_at oX12_isOwnHere 70 rfl) rfl rfl ?_
                        refine r_if_ne C 218 (oDec_at oX12_isOwnHere 71 rfl) (by decide) (fun cd79 => ?_) (fun cd79 => ?_)
                        · skip
                          refine r_iconst C (oDec_at oX12_isOwnHere 102 rfl) (v := k1) (by rw [qk1]; rfl) ?_
                          refine r_goto C (tgt := 223) (oDec_at oX12_isOwnHere 103 rfl) (by decide) ?_
                          refine r_istore_n C (lv' := [(0, .ref (oad E 71)), (1, .int k1)]) [1, 0] (oDec_at oX12_isOwnHere 105 rfl) rfl (by decide) rfl ?_
                          refine r_iload_n C (j := 1) (oDec_at oX12_isOwnHere 106 rfl) rfl rfl ?_
                          refine r_if_ne C 294 (oDec_at oX12_isOwnHere 107 rfl) (by decide) (fun cd80 => ?_) (fun cd80 => ?_)
                          · skip
                            refine r_iconst C (oDec_at oX12_isOwnHere 138 rfl) (v := k1) (by rw [qk1]; rfl) ?_
                            refine r_goto C (tgt := 299) (oDec_at oX12_isOwnHere 139 rfl) (by decide) ?_
                            refine r_istore_n C (lv' := [(0, .ref (oad E 71)), (1, .int k1)]) [1, 0] (oDec_at oX12_isOwnHere 141 rfl) rfl (by decide) rfl ?_
                            refine r_iload_n C (j := 1) (oDec_at oX12_isOwnHere 142 rfl) rfl rfl ?_
                            refine r_if_ne C 326 (oDec_at oX12_isOwnHere 143 rfl) (by decide) (fun cd81 => ?_) (fun cd81 => ?_)
                            · skip
                              refine r_iconst C (oDec_at oX12_isOwnHere 154 rfl) (v := k1) (by rw [qk1]; rfl) ?_
                              refine r_goto C (tgt := 331) (oDec_at oX12_isOwnHere 155 rfl) (by decide) ?_
                              refine r_istore_n C (lv' := [(0, .ref (oad E 71)), (1, .int k1)]) [1, 0] (oDec_at oX12_isOwnHere 157 rfl) rfl (by decide) rfl ?_
                              refine r_iload_n C (j := 1) (oDec_at oX12_isOwnHere 158 rfl) rfl rfl ?_
                              exact r_zret C (n_bool (by omega)) (oDec_at oX12_isOwnHere 159 rfl) ⟨_, rfl, ⟨by omega, by omega, by first | exact fun _ => hy (by omega) | (intro h; exfalso; omega), by omega, by omega⟩⟩
                            · omega
                          · omega
                        · omega
                      · skip
                        clear pu76_4
                        replace pu76_5 := pu76_5 (by omega)
                        clear pu76_6
                        clear hy
                        have hz9 : oqWi g a b ≠ 9 := fun h9 => by (have h8 := (oqWi_is (g := g) (a := a) (b := b) (i := 9) (by decide)).mp h9; omega)
                        refine r_aload_n C (j := 0) (oDec_at oX12_isOwnHere 56 rfl) rfl rfl ?_
                        refine r_aload_n C (j := 0) (oDec_at oX12_isOwnHere 57 rfl) rfl rfl ?_
                        refine r_getF (k := 20) (b := 83) C oCl12 rfl (by decide) flX12_48 rfl rfl rfl (oDec_at oX12_isOwnHere 58 rfl) ?_
                        have lk82 : ((u76).1 71 4).toInt = (s.1 71 4).toInt := congrArg Int32.toInt (((fu76 71 4 rfl).1).trans (((fu68 71 4 rfl).1).trans (((fu60 71 4 rfl).1).trans (((fu52 71 4 rfl).1).trans (((fu46 71 4 rfl).1).trans (((fu37 71 4 rfl).1).trans (((fu28 71 4 rfl).1).trans (((fu19 71 4 rfl).1).trans (((fu10 71 4 rfl).1).trans ((fu1 71 4 rfl).1))))))))))
                        have lk83 : ((u76).1 71 5).toInt = (s.1 71 5).toInt := congrArg Int32.toInt (((fu76 71 5 rfl).1).trans (((fu68 71 5 rfl).1).trans (((fu60 71 5 rfl).1).trans (((fu52 71 5 rfl).1).trans (((fu46 71 5 rfl).1).trans (((fu37 71 5 rfl).1).trans (((fu28 71 5 rfl).1).trans (((fu19 71 5 rfl).1).trans (((fu10 71 5 rfl).1).trans ((fu1 71 5 rfl).1))))))))))
                        refine r_callVi C oCl12 rfl miX12_isHere mlX12_196 (ct4_X12_isHere l E (u76) 83 59 3 rfl (by decide) (by decide) rfl rfl (g) (a) (b) (10) (by omega) (by omega) (oqZ_fr fu76 rfl (oqZ_fr fu68 rfl (oqZ_fr fu60 rfl (oqZ_fr fu52 rfl (oqZ_fr fu46 rfl (oqZ_fr fu37 rfl (oqZ_fr fu28 rfl (oqZ_fr fu19 rfl (oqZ_fr fu10 rfl (oqZ_fr fu1 rfl hp2)))))))))) (by omega) (by omega) rfl (oqWd_at (oqWd_fr fu76 rfl (oqWd_fr fu68 rfl (oqWd_fr fu60 rfl (oqWd_fr fu52 rfl (oqWd_fr fu46 rfl (oqWd_fr fu37 rfl (oqWd_fr fu28 rfl (oqWd_fr fu19 rfl (oqWd_fr fu10 rfl (oqWd_fr fu1 rfl hp4)))))))))) 10 (by decide)) (by omega)) (by decide) rfl rfl rfl (Nat.le_of_ble_eq_true rfl) (oDec_at oX12_isOwnHere 59 rfl) (fun r85 u84 pu84 fu84 => ?_)
                        try dsimp only at pu84
                        try simp only [lk82, lk83] at pu84
                        obtain ⟨pu84_0, pu84_1, pu84_2, pu84_3, pu84_4, pu84_5, pu84_6⟩ := pu84
                        have rr85 := n_rng r85
                        have hy : r85.toInt = 1 → oqWi g a b ≠ -1 := fun h9 => by (have h8 := (oqWi_is (g := g) (a := a) (b := b) (i := 10) (by decide)).mpr (pu84_4 h9); omega)
                        refine r_if_ne C 142 (oDec_at oX12_isOwnHere 60 rfl) (by decide) (fun cd86 => ?_) (fun cd86 => ?_)
                        · skip
                          replace pu84_4 := pu84_4 (by omega)
                          clear pu84_5
                          replace pu84_6 := pu84_6 (by omega)
                          refine r_iconst C (oDec_at oX12_isOwnHere 66 rfl) (v := k1) (by rw [qk1]; rfl) ?_
                          refine r_goto C (tgt := 147) (oDec_at oX12_isOwnHere 67 rfl) (by decide) ?_
                          refine r_istore_n C (lv' := [(0, .ref (oad E 71)), (1, .int k1)]) [1, 0] (oDec_at oX12_isOwnHere 69 rfl) rfl (by decide) rfl ?_
                          refine r_iload_n C (j := 1) (oDec_at oX12_isOwnHere 70 rfl) rfl rfl ?_
                          refine r_if_ne C 218 (oDec_at oX12_isOwnHere 71 rfl) (by decide) (fun cd87 => ?_) (fun cd87 => ?_)
                          · skip
                            refine r_iconst C (oDec_at oX12_isOwnHere 102 rfl) (v := k1) (by rw [qk1]; rfl) ?_
                            refine r_goto C (tgt := 223) (oDec_at oX12_isOwnHere 103 rfl) (by decide) ?_
                            refine r_istore_n C (lv' := [(0, .ref (oad E 71)), (1, .int k1)]) [1, 0] (oDec_at oX12_isOwnHere 105 rfl) rfl (by decide) rfl ?_
                            refine r_iload_n C (j := 1) (oDec_at oX12_isOwnHere 106 rfl) rfl rfl ?_
                            refine r_if_ne C 294 (oDec_at oX12_isOwnHere 107 rfl) (by decide) (fun cd88 => ?_) (fun cd88 => ?_)
                            · skip
                              refine r_iconst C (oDec_at oX12_isOwnHere 138 rfl) (v := k1) (by rw [qk1]; rfl) ?_
                              refine r_goto C (tgt := 299) (oDec_at oX12_isOwnHere 139 rfl) (by decide) ?_
                              refine r_istore_n C (lv' := [(0, .ref (oad E 71)), (1, .int k1)]) [1, 0] (oDec_at oX12_isOwnHere 141 rfl) rfl (by decide) rfl ?_
                              refine r_iload_n C (j := 1) (oDec_at oX12_isOwnHere 142 rfl) rfl rfl ?_
                              refine r_if_ne C 326 (oDec_at oX12_isOwnHere 143 rfl) (by decide) (fun cd89 => ?_) (fun cd89 => ?_)
                              · skip
                                refine r_iconst C (oDec_at oX12_isOwnHere 154 rfl) (v := k1) (by rw [qk1]; rfl) ?_
                                refine r_goto C (tgt := 331) (oDec_at oX12_isOwnHere 155 rfl) (by decide) ?_
                                refine r_istore_n C (lv' := [(0, .ref (oad E 71)), (1, .int k1)]) [1, 0] (oDec_at oX12_isOwnHere 157 rfl) rfl (by decide) rfl ?_
                                refine r_iload_n C (j := 1) (oDec_at oX12_isOwnHere 158 rfl) rfl rfl ?_
                                exact r_zret C (n_bool (by omega)) (oDec_at oX12_isOwnHere 159 rfl) ⟨_, rfl, ⟨by omega, by omega, by first | exact fun _ => hy (by omega) | (intro h; exfalso; omega), by omega, by omega⟩⟩
                              · omega
                            · omega
                          · omega
                        · skip
                          clear pu84_4
                          replace pu84_5 := pu84_5 (by omega)
                          clear pu84_6
                          clear hy
                          have hz10 : oqWi g a b ≠ 10 := fun h9 => by (have h8 := (oqWi_is (g := g) (a := a) (b := b) (i := 10) (by decide)).mp h9; omega)
                          refine r_aload_n C (j := 0) (oDec_at oX12_isOwnHere 61 rfl) rfl rfl ?_
                          refine r_aload_n C (j := 0) (oDec_at oX12_isOwnHere 62 rfl) rfl rfl ?_
                          refine r_getF (k := 21) (b := 84) C oCl12 rfl (by decide) flX12_51 rfl rfl rfl (oDec_at oX12_isOwnHere 63 rfl) ?_
                          have lk90 : ((u84).1 71 4).toInt = (s.1 71 4).toInt := congrArg Int32.toInt (((fu84 71 4 rfl).1).trans (((fu76 71 4 rfl).1).trans (((fu68 71 4 rfl).1).trans (((fu60 71 4 rfl).1).trans (((fu52 71 4 rfl).1).trans (((fu46 71 4 rfl).1).trans (((fu37 71 4 rfl).1).trans (((fu28 71 4 rfl).1).trans (((fu19 71 4 rfl).1).trans (((fu10 71 4 rfl).1).trans ((fu1 71 4 rfl).1)))))))))))
                          have lk91 : ((u84).1 71 5).toInt = (s.1 71 5).toInt := congrArg Int32.toInt (((fu84 71 5 rfl).1).trans (((fu76 71 5 rfl).1).trans (((fu68 71 5 rfl).1).trans (((fu60 71 5 rfl).1).trans (((fu52 71 5 rfl).1).trans (((fu46 71 5 rfl).1).trans (((fu37 71 5 rfl).1).trans (((fu28 71 5 rfl).1).trans (((fu19 71 5 rfl).1).trans (((fu10 71 5 rfl).1).trans ((fu1 71 5 rfl).1)))))))))))
                          refine r_callVi C oCl12 rfl miX12_isHere mlX12_196 (ct4_X12_isHere l E (u84) 84 60 3 rfl (by decide) (by decide) rfl rfl (g) (a) (b) (11) (by omega) (by omega) (oqZ_fr fu84 rfl (oqZ_fr fu76 rfl (oqZ_fr fu68 rfl (oqZ_fr fu60 rfl (oqZ_fr fu52 rfl (oqZ_fr fu46 rfl (oqZ_fr fu37 rfl (oqZ_fr fu28 rfl (oqZ_fr fu19 rfl (oqZ_fr fu10 rfl (oqZ_fr fu1 rfl hp2))))))))))) (by omega) (by omega) rfl (oqWd_at (oqWd_fr fu84 rfl (oqWd_fr fu76 rfl (oqWd_fr fu68 rfl (oqWd_fr fu60 rfl (oqWd_fr fu52 rfl (oqWd_fr fu46 rfl (oqWd_fr fu37 rfl (oqWd_fr fu28 rfl (oqWd_fr fu19 rfl (oqWd_fr fu10 rfl (oqWd_fr fu1 rfl hp4))))))))))) 11 (by decide)) (by omega)) (by decide) rfl rfl rfl (Nat.le_of_ble_eq_true rfl) (oDec_at oX12_isOwnHere 64 rfl) (fun r93 u92 pu92 fu92 => ?_)
                          try dsimp only at pu92
                          try simp only [lk90, lk91] at pu92
                          obtain ⟨pu92_0, pu92_1, pu92_2, pu92_3, pu92_4, pu92_5, pu92_6⟩ := pu92
                          have rr93 := n_rng r93
                          have hy : r93.toInt = 1 → oqWi g a b ≠ -1 := fun h9 => by (have h8 := (oqWi_is (g := g) (a := a) (b := b) (i := 11) (by decide)).mpr (pu92_4 h9); omega)
                          refine r_if_eq C 146 (oDec_at oX12_isOwnHere 65 rfl) (by decide) (fun cd94 => ?_) (fun cd94 => ?_)
                          · skip
                            clear pu92_4
                            replace pu92_5 := pu92_5 (by omega)
                            clear pu92_6
                            clear hy
                            have hz11 : oqWi g a b ≠ 11 := fun h9 => by (have h8 := (oqWi_is (g := g) (a := a) (b := b) (i := 11) (by decide)).mp h9; omega)
                            refine r_iconst C (oDec_at oX12_isOwnHere 68 rfl) (v := k0) (by rw [qk0]; rfl) ?_
                            refine r_istore_n C (lv' := [(0, .ref (oad E 71)), (1, .int k0)]) [1, 0] (oDec_at oX12_isOwnHere 69 rfl) rfl (by decide) rfl ?_
                            refine r_iload_n C (j := 1) (oDec_at oX12_isOwnHere 70 rfl) rfl rfl ?_
                            refine r_if_ne C 218 (oDec_at oX12_isOwnHere 71 rfl) (by decide) (fun cd95 => ?_) (fun cd95 => ?_)
                            · omega
                            · skip
                              refine r_aload_n C (j := 0) (oDec_at oX12_isOwnHere 72 rfl) rfl rfl ?_
                              refine r_aload_n C (j := 0) (oDec_at oX12_isOwnHere 73 rfl) rfl rfl ?_
                              refine r_getF (k := 22) (b := 85) C oCl12 rfl (by decide) flX12_54 rfl rfl rfl (oDec_at oX12_isOwnHere 74 rfl) ?_
                              have lk96 : ((u92).1 71 4).toInt = (s.1 71 4).toInt := congrArg Int32.toInt (((fu92 71 4 rfl).1).trans (((fu84 71 4 rfl).1).trans (((fu76 71 4 rfl).1).trans (((fu68 71 4 rfl).1).trans (((fu60 71 4 rfl).1).trans (((fu52 71 4 rfl).1).trans (((fu46 71 4 rfl).1).trans (((fu37 71 4 rfl).1).trans (((fu28 71 4 rfl).1).trans (((fu19 71 4 rfl).1).trans (((fu10 71 4 rfl).1).trans ((fu1 71 4 rfl).1))))))))))))
                              have lk97 : ((u92).1 71 5).toInt = (s.1 71 5).toInt := congrArg Int32.toInt (((fu92 71 5 rfl).1).trans (((fu84 71 5 rfl).1).trans (((fu76 71 5 rfl).1).trans (((fu68 71 5 rfl).1).trans (((fu60 71 5 rfl).1).trans (((fu52 71 5 rfl).1).trans (((fu46 71 5 rfl).1).trans (((fu37 71 5 rfl).1).trans (((fu28 71 5 rfl).1).trans (((fu19 71 5 rfl).1).trans (((fu10 71 5 rfl).1).trans ((fu1 71 5 rfl).1))))))))))))
                              refine r_callVi C oCl12 rfl miX12_isHere mlX12_196 (ct4_X12_isHere l E (u92) 85 61 4 rfl (by decide) (by decide) rfl rfl (g) (a) (b) (12) (by omega) (by omega) (oqZ_fr fu92 rfl (oqZ_fr fu84 rfl (oqZ_fr fu76 rfl (oqZ_fr fu68 rfl (oqZ_fr fu60 rfl (oqZ_fr fu52 rfl (oqZ_fr fu46 rfl (oqZ_fr fu37 rfl (oqZ_fr fu28 rfl (oqZ_fr fu19 rfl (oqZ_fr fu10 rfl (oqZ_fr fu1 rfl hp2)))))))))))) (by omega) (by omega) rfl (oqWd_at (oqWd_fr fu92 rfl (oqWd_fr fu84 rfl (oqWd_fr fu76 rfl (oqWd_fr fu68 rfl (oqWd_fr fu60 rfl (oqWd_fr fu52 rfl (oqWd_fr fu46 rfl (oqWd_fr fu37 rfl (oqWd_fr fu28 rfl (oqWd_fr fu19 rfl (oqWd_fr fu10 rfl (oqWd_fr fu1 rfl hp4)))))))))))) 12 (by decide)) (by omega)) (by decide) rfl rfl rfl (Nat.le_of_ble_eq_true rfl) (oDec_at oX12_isOwnHere 75 rfl) (fun r99 u98 pu98 fu98 => ?_)
                              try dsimp only at pu98
                              try simp only [lk96, lk97] at pu98
                              obtain ⟨pu98_0, pu98_1, pu98_2, pu98_3, pu98_4, pu98_5, pu98_6⟩ := pu98
                              have rr99 := n_rng r99
                              have hy : r99.toInt = 1 → oqWi g a b ≠ -1 := fun h9 => by (have h8 := (oqWi_is (g := g) (a := a) (b := b) (i := 12) (by decide)).mpr (pu98_4 h9); omega)
                              refine r_if_ne C 218 (oDec_at oX12_isOwnHere 76 rfl) (by decide) (fun cd100 => ?_) (fun cd100 => ?_)
                              · skip
                                replace pu98_4 := pu98_4 (by omega)
                                clear pu98_5
                                replace pu98_6 := pu98_6 (by omega)
                                refine r_iconst C (oDec_at oX12_isOwnHere 102 rfl) (v := k1) (by rw [qk1]; rfl) ?_
                                refine r_goto C (tgt := 223) (oDec_at oX12_isOwnHere 103 rfl) (by decide) ?_
                                refine r_istore_n C (lv' := [(0, .ref (oad E 71)), (1, .int k1)]) [1, 0] (oDec_at oX12_isOwnHere 105 rfl) rfl (by decide) rfl ?_
                                refine r_iload_n C (j := 1) (oDec_at oX12_isOwnHere 106 rfl) rfl rfl ?_
                                refine r_if_ne C 294 (oDec_at oX12_isOwnHere 107 rfl) (by decide) (fun cd101 => ?_) (fun cd101 => ?_)
                                · skip
                                  refine r_iconst C (oDec_at oX12_isOwnHere 138 rfl) (v := k1) (by rw [qk1]; rfl) ?_
                                  refine r_goto C (tgt := 299) (oDec_at oX12_isOwnHere 139 rfl) (by decide) ?_
                                  refine r_istore_n C (lv' := [(0, .ref (oad E 71)), (1, .int k1)]) [1, 0] (oDec_at oX12_isOwnHere 141 rfl) rfl (by decide) rfl ?_
                                  refine r_iload_n C (j := 1) (oDec_at oX12_isOwnHere 142 rfl) rfl rfl ?_
                                  refine r_if_ne C 326 (oDec_at oX12_isOwnHere 143 rfl) (by decide) (fun cd102 => ?_) (fun cd102 => ?_)
                                  · skip
                                    refine r_iconst C (oDec_at oX12_isOwnHere 154 rfl) (v := k1) (by rw [qk1]; rfl) ?_
                                    refine r_goto C (tgt := 331) (oDec_at oX12_isOwnHere 155 rfl) (by decide) ?_
                                    refine r_istore_n C (lv' := [(0, .ref (oad E 71)), (1, .int k1)]) [1, 0] (oDec_at oX12_isOwnHere 157 rfl) rfl (by decide) rfl ?_
                                    refine r_iload_n C (j := 1) (oDec_at oX12_isOwnHere 158 rfl) rfl rfl ?_
                                    exact r_zret C (n_bool (by omega)) (oDec_at oX12_isOwnHere 159 rfl) ⟨_, rfl, ⟨by omega, by omega, by first | exact fun _ => hy (by omega) | (intro h; exfalso; omega), by omega, by omega⟩⟩
                                  · omega
                                · omega
                              · skip
                                clear pu98_4
                                replace pu98_5 := pu98_5 (by omega)
                                clear pu98_6
                                clear hy
                                have hz12 : oqWi g a b ≠ 12 := fun h9 => by (have h8 := (oqWi_is (g := g) (a := a) (b := b) (i := 12) (by decide)).mp h9; omega)
                                refine r_aload_n C (j := 0) (oDec_at oX12_isOwnHere 77 rfl) rfl rfl ?_
                                refine r_aload_n C (j := 0) (oDec_at oX12_isOwnHere 78 rfl) rfl rfl ?_
                                refine r_getF (k := 23) (b := 86) C oCl12 rfl (by decide) flX12_57 rfl rfl rfl (oDec_at oX12_isOwnHere 79 rfl) ?_
                                have lk103 : ((u98).1 71 4).toInt = (s.1 71 4).toInt := congrArg Int32.toInt (((fu98 71 4 rfl).1).trans (((fu92 71 4 rfl).1).trans (((fu84 71 4 rfl).1).trans (((fu76 71 4 rfl).1).trans (((fu68 71 4 rfl).1).trans (((fu60 71 4 rfl).1).trans (((fu52 71 4 rfl).1).trans (((fu46 71 4 rfl).1).trans (((fu37 71 4 rfl).1).trans (((fu28 71 4 rfl).1).trans (((fu19 71 4 rfl).1).trans (((fu10 71 4 rfl).1).trans ((fu1 71 4 rfl).1)))))))))))))
                                have lk104 : ((u98).1 71 5).toInt = (s.1 71 5).toInt := congrArg Int32.toInt (((fu98 71 5 rfl).1).trans (((fu92 71 5 rfl).1).trans (((fu84 71 5 rfl).1).trans (((fu76 71 5 rfl).1).trans (((fu68 71 5 rfl).1).trans (((fu60 71 5 rfl).1).trans (((fu52 71 5 rfl).1).trans (((fu46 71 5 rfl).1).trans (((fu37 71 5 rfl).1).trans (((fu28 71 5 rfl).1).trans (((fu19 71 5 rfl).1).trans (((fu10 71 5 rfl).1).trans ((fu1 71 5 rfl).1)))))))))))))
                                refine r_callVi C oCl12 rfl miX12_isHere mlX12_196 (ct4_X12_isHere l E (u98) 86 62 5 rfl (by decide) (by decide) rfl rfl (g) (a) (b) (13) (by omega) (by omega) (oqZ_fr fu98 rfl (oqZ_fr fu92 rfl (oqZ_fr fu84 rfl (oqZ_fr fu76 rfl (oqZ_fr fu68 rfl (oqZ_fr fu60 rfl (oqZ_fr fu52 rfl (oqZ_fr fu46 rfl (oqZ_fr fu37 rfl (oqZ_fr fu28 rfl (oqZ_fr fu19 rfl (oqZ_fr fu10 rfl (oqZ_fr fu1 rfl hp2))))))))))))) (by omega) (by omega) rfl (oqWd_at (oqWd_fr fu98 rfl (oqWd_fr fu92 rfl (oqWd_fr fu84 rfl (oqWd_fr fu76 rfl (oqWd_fr fu68 rfl (oqWd_fr fu60 rfl (oqWd_fr fu52 rfl (oqWd_fr fu46 rfl (oqWd_fr fu37 rfl (oqWd_fr fu28 rfl (oqWd_fr fu19 rfl (oqWd_fr fu10 rfl (oqWd_fr fu1 rfl hp4))))))))))))) 13 (by decide)) (by omega)) (by decide) rfl rfl rfl (Nat.le_of_ble_eq_true rfl) (oDec_at oX12_isOwnHere 80 rfl) (fun r106 u105 pu105 fu105 => ?_)
                                try dsimp only at pu105
                                try simp only [lk103, lk104] at pu105
                                obtain ⟨pu105_0, pu105_1, pu105_2, pu105_3, pu105_4, pu105_5, pu105_6⟩ := pu105
                                have rr106 := n_rng r106
                                have hy : r106.toInt = 1 → oqWi g a b ≠ -1 := fun h9 => by (have h8 := (oqWi_is (g := g) (a := a) (b := b) (i := 13) (by decide)).mpr (pu105_4 h9); omega)
                                refine r_if_ne C 218 (oDec_at oX12_isOwnHere 81 rfl) (by decide) (fun cd107 => ?_) (fun cd107 => ?_)
                                · skip
                                  replace pu105_4 := pu105_4 (by omega)
                                  clear pu105_5
                                  replace pu105_6 := pu105_6 (by omega)
                                  refine r_iconst C (oDec_at oX12_isOwnHere 102 rfl) (v := k1) (by rw [qk1]; rfl) ?_
                                  refine r_goto C (tgt := 223) (oDec_at oX12_isOwnHere 103 rfl) (by decide) ?_
                                  refine r_istore_n C (lv' := [(0, .ref (oad E 71)), (1, .int k1)]) [1, 0] (oDec_at oX12_isOwnHere 105 rfl) rfl (by decide) rfl ?_
                                  refine r_iload_n C (j := 1) (oDec_at oX12_isOwnHere 106 rfl) rfl rfl ?_
                                  refine r_if_ne C 294 (oDec_at oX12_isOwnHere 107 rfl) (by decide) (fun cd108 => ?_) (fun cd108 => ?_)
                                  · skip
                                    refine r_iconst C (oDec_at oX12_isOwnHere 138 rfl) (v := k1) (by rw [qk1]; rfl) ?_
                                    refine r_goto C (tgt := 299) (oDec_at oX12_isOwnHere 139 rfl) (by decide) ?_
                                    refine r_istore_n C (lv' := [(0, .ref (oad E 71)), (1, .int k1)]) [1, 0] (oDec_at oX12_isOwnHere 141 rfl) rfl (by decide) rfl ?_
                                    refine r_iload_n C (j := 1) (oDec_at oX12_isOwnHere 142 rfl) rfl rfl ?_
                                    refine r_if_ne C 326 (oDec_at oX12_isOwnHere 143 rfl) (by decide) (fun cd109 => ?_) (fun cd109 => ?_)
                                    · skip
                                      refine r_iconst C (oDec_at oX12_isOwnHere 154 rfl) (v := k1) (by rw [qk1]; rfl) ?_
                                      refine r_goto C (tgt := 331) (oDec_at oX12_isOwnHere 155 rfl) (by decide) ?_
                                      refine r_istore_n C (lv' := [(0, .ref (oad E 71)), (1, .int k1)]) [1, 0] (oDec_at oX12_isOwnHere 157 rfl) rfl (by decide) rfl ?_
                                      refine r_iload_n C (j := 1) (oDec_at oX12_isOwnHere 158 rfl) rfl rfl ?_
                                      exact r_zret C (n_bool (by omega)) (oDec_at oX12_isOwnHere 159 rfl) ⟨_, rfl, ⟨by omega, by omega, by first | exact fun _ => hy (by omega) | (intro h; exfalso; omega), by omega, by omega⟩⟩
                                    · omega
                                  · omega
                                · skip
                                  clear pu105_4
                                  replace pu105_5 := pu105_5 (by omega)
                                  clear pu105_6
                                  clear hy
                                  have hz13 : oqWi g a b ≠ 13 := fun h9 => by (have h8 := (oqWi_is (g := g) (a := a) (b := b) (i := 13) (by decide)).mp h9; omega)
                                  refine r_aload_n C (j := 0) (oDec_at oX12_isOwnHere 82 rfl) rfl rfl ?_
                                  refine r_aload_n C (j := 0) (oDec_at oX12_isOwnHere 83 rfl) rfl rfl ?_
                                  refine r_getF (k := 24) (b := 87) C oCl12 rfl (by decide) flX12_60 rfl rfl rfl (oDec_at oX12_isOwnHere 84 rfl) ?_
                                  have lk110 : ((u105).1 71 4).toInt = (s.1 71 4).toInt := congrArg Int32.toInt (((fu105 71 4 rfl).1).trans (((fu98 71 4 rfl).1).trans (((fu92 71 4 rfl).1).trans (((fu84 71 4 rfl).1).trans (((fu76 71 4 rfl).1).trans (((fu68 71 4 rfl).1).trans (((fu60 71 4 rfl).1).trans (((fu52 71 4 rfl).1).trans (((fu46 71 4 rfl).1).trans (((fu37 71 4 rfl).1).trans (((fu28 71 4 rfl).1).trans (((fu19 71 4 rfl).1).trans (((fu10 71 4 rfl).1).trans ((fu1 71 4 rfl).1))))))))))))))
                                  have lk111 : ((u105).1 71 5).toInt = (s.1 71 5).toInt := congrArg Int32.toInt (((fu105 71 5 rfl).1).trans (((fu98 71 5 rfl).1).trans (((fu92 71 5 rfl).1).trans (((fu84 71 5 rfl).1).trans (((fu76 71 5 rfl).1).trans (((fu68 71 5 rfl).1).trans (((fu60 71 5 rfl).1).trans (((fu52 71 5 rfl).1).trans (((fu46 71 5 rfl).1).trans (((fu37 71 5 rfl).1).trans (((fu28 71 5 rfl).1).trans (((fu19 71 5 rfl).1).trans (((fu10 71 5 rfl).1).trans ((fu1 71 5 rfl).1))))))))))))))
                                  refine r_callVi C oCl12 rfl miX12_isHere mlX12_196 (ct4_X12_isHere l E (u105) 87 63 4 rfl (by decide) (by decide) rfl rfl (g) (a) (b) (14) (by omega) (by omega) (oqZ_fr fu105 rfl (oqZ_fr fu98 rfl (oqZ_fr fu92 rfl (oqZ_fr fu84 rfl (oqZ_fr fu76 rfl (oqZ_fr fu68 rfl (oqZ_fr fu60 rfl (oqZ_fr fu52 rfl (oqZ_fr fu46 rfl (oqZ_fr fu37 rfl (oqZ_fr fu28 rfl (oqZ_fr fu19 rfl (oqZ_fr fu10 rfl (oqZ_fr fu1 rfl hp2)))))))))))))) (by omega) (by omega) rfl (oqWd_at (oqWd_fr fu105 rfl (oqWd_fr fu98 rfl (oqWd_fr fu92 rfl (oqWd_fr fu84 rfl (oqWd_fr fu76 rfl (oqWd_fr fu68 rfl (oqWd_fr fu60 rfl (oqWd_fr fu52 rfl (oqWd_fr fu46 rfl (oqWd_fr fu37 rfl (oqWd_fr fu28 rfl (oqWd_fr fu19 rfl (oqWd_fr fu10 rfl (oqWd_fr fu1 rfl hp4)))))))))))))) 14 (by decide)) (by omega)) (by decide) rfl rfl rfl (Nat.le_of_ble_eq_true rfl) (oDec_at oX12_isOwnHere 85 rfl) (fun r113 u112 pu112 fu112 => ?_)
                                  try dsimp only at pu112
                                  try simp only [lk110, lk111] at pu112
                                  obtain ⟨pu112_0, pu112_1, pu112_2, pu112_3, pu112_4, pu112_5, pu112_6⟩ := pu112
                                  have rr113 := n_rng r113
                                  have hy : r113.toInt = 1 → oqWi g a b ≠ -1 := fun h9 => by (have h8 := (oqWi_is (g := g) (a := a) (b := b) (i := 14) (by decide)).mpr (pu112_4 h9); omega)
                                  refine r_if_ne C 218 (oDec_at oX12_isOwnHere 86 rfl) (by decide) (fun cd114 => ?_) (fun cd114 => ?_)
                                  · skip
                                    replace pu112_4 := pu112_4 (by omega)
                                    clear pu112_5
                                    replace pu112_6 := pu112_6 (by omega)
                                    refine r_iconst C (oDec_at oX12_isOwnHere 102 rfl) (v := k1) (by rw [qk1]; rfl) ?_
                                    refine r_goto C (tgt := 223) (oDec_at oX12_isOwnHere 103 rfl) (by decide) ?_
                                    refine r_istore_n C (lv' := [(0, .ref (oad E 71)), (1, .int k1)]) [1, 0] (oDec_at oX12_isOwnHere 105 rfl) rfl (by decide) rfl ?_
                                    refine r_iload_n C (j := 1) (oDec_at oX12_isOwnHere 106 rfl) rfl rfl ?_
                                    refine r_if_ne C 294 (oDec_at oX12_isOwnHere 107 rfl) (by decide) (fun cd115 => ?_) (fun cd115 => ?_)
                                    · skip
                                      refine r_iconst C (oDec_at oX12_isOwnHere 138 rfl) (v := k1) (by rw [qk1]; rfl) ?_
                                      refine r_goto C (tgt := 299) (oDec_at oX12_isOwnHere 139 rfl) (by decide) ?_
                                      refine r_istore_n C (lv' := [(0, .ref (oad E 71)), (1, .int k1)]) [1, 0] (oDec_at oX12_isOwnHere 141 rfl) rfl (by decide) rfl ?_
                                      refine r_iload_n C (j := 1) (oDec_at oX12_isOwnHere 142 rfl) rfl rfl ?_
                                      refine r_if_ne C 326 (oDec_at oX12_isOwnHere 143 rfl) (by decide) (fun cd116 => ?_) (fun cd116 => ?_)
                                      · skip
                                        refine r_iconst C (oDec_at oX12_isOwnHere 154 rfl) (v := k1) (by rw [qk1]; rfl) ?_
                                        refine r_goto C (tgt := 331) (oDec_at oX12_isOwnHere 155 rfl) (by decide) ?_
                                        refine r_istore_n C (lv' := [(0, .ref (oad E 71)), (1, .int k1)]) [1, 0] (oDec_at oX12_isOwnHere 157 rfl) rfl (by decide) rfl ?_
                                        refine r_iload_n C (j := 1) (oDec_at oX12_isOwnHere 158 rfl) rfl rfl ?_
                                        exact r_zret C (n_bool (by omega)) (oDec_at oX12_isOwnHere 159 rfl) ⟨_, rfl, ⟨by omega, by omega, by first | exact fun _ => hy (by omega) | (intro h; exfalso; omega), by omega, by omega⟩⟩
                                      · omega
                                    · omega
                                  · skip
                                    clear pu112_4
                                    replace pu112_5 := pu112_5 (by omega)
                                    clear pu112_6
                                    clear hy
                                    have hz14 : oqWi g a b ≠ 14 := fun h9 => by (have h8 := (oqWi_is (g := g) (a := a) (b := b) (i := 14) (by decide)).mp h9; omega)
                                    refine r_aload_n C (j := 0) (oDec_at oX12_isOwnHere 87 rfl) rfl rfl ?_
                                    refine r_aload_n C (j := 0) (oDec_at oX12_isOwnHere 88 rfl) rfl rfl ?_
                                    refine r_getF (k := 25) (b := 88) C oCl12 rfl (by decide) flX12_63 rfl rfl rfl (oDec_at oX12_isOwnHere 89 rfl) ?_
                                    have lk117 : ((u112).1 71 4).toInt = (s.1 71 4).toInt := congrArg Int32.toInt (((fu112 71 4 rfl).1).trans (((fu105 71 4 rfl).1).trans (((fu98 71 4 rfl).1).trans (((fu92 71 4 rfl).1).trans (((fu84 71 4 rfl).1).trans (((fu76 71 4 rfl).1).trans (((fu68 71 4 rfl).1).trans (((fu60 71 4 rfl).1).trans (((fu52 71 4 rfl).1).trans (((fu46 71 4 rfl).1).trans (((fu37 71 4 rfl).1).trans (((fu28 71 4 rfl).1).trans (((fu19 71 4 rfl).1).trans (((fu10 71 4 rfl).1).trans ((fu1 71 4 rfl).1)))))))))))))))
                                    have lk118 : ((u112).1 71 5).toInt = (s.1 71 5).toInt := congrArg Int32.toInt (((fu112 71 5 rfl).1).trans (((fu105 71 5 rfl).1).trans (((fu98 71 5 rfl).1).trans (((fu92 71 5 rfl).1).trans (((fu84 71 5 rfl).1).trans (((fu76 71 5 rfl).1).trans (((fu68 71 5 rfl).1).trans (((fu60 71 5 rfl).1).trans (((fu52 71 5 rfl).1).trans (((fu46 71 5 rfl).1).trans (((fu37 71 5 rfl).1).trans (((fu28 71 5 rfl).1).trans (((fu19 71 5 rfl).1).trans (((fu10 71 5 rfl).1).trans ((fu1 71 5 rfl).1)))))))))))))))
                                    refine r_callVi C oCl12 rfl miX12_isHere mlX12_196 (ct4_X12_isHere l E (u112) 88 64 4 rfl (by decide) (by decide) rfl rfl (g) (a) (b) (15) (by omega) (by omega) (oqZ_fr fu112 rfl (oqZ_fr fu105 rfl (oqZ_fr fu98 rfl (oqZ_fr fu92 rfl (oqZ_fr fu84 rfl (oqZ_fr fu76 rfl (oqZ_fr fu68 rfl (oqZ_fr fu60 rfl (oqZ_fr fu52 rfl (oqZ_fr fu46 rfl (oqZ_fr fu37 rfl (oqZ_fr fu28 rfl (oqZ_fr fu19 rfl (oqZ_fr fu10 rfl (oqZ_fr fu1 rfl hp2))))))))))))))) (by omega) (by omega) rfl (oqWd_at (oqWd_fr fu112 rfl (oqWd_fr fu105 rfl (oqWd_fr fu98 rfl (oqWd_fr fu92 rfl (oqWd_fr fu84 rfl (oqWd_fr fu76 rfl (oqWd_fr fu68 rfl (oqWd_fr fu60 rfl (oqWd_fr fu52 rfl (oqWd_fr fu46 rfl (oqWd_fr fu37 rfl (oqWd_fr fu28 rfl (oqWd_fr fu19 rfl (oqWd_fr fu10 rfl (oqWd_fr fu1 rfl hp4))))))))))))))) 15 (by decide)) (by omega)) (by decide) rfl rfl rfl (Nat.le_of_ble_eq_true rfl) (oDec_at oX12_isOwnHere 90 rfl) (fun r120 u119 pu119 fu119 => ?_)
                                    try dsimp only at pu119
                                    try simp only [lk117, lk118] at pu119
                                    obtain ⟨pu119_0, pu119_1, pu119_2, pu119_3, pu119_4, pu119_5, pu119_6⟩ := pu119
                                    have rr120 := n_rng r120
                                    have hy : r120.toInt = 1 → oqWi g a b ≠ -1 := fun h9 => by (have h8 := (oqWi_is (g := g) (a := a) (b := b) (i := 15) (by decide)).mpr (pu119_4 h9); omega)
                                    refine r_if_ne C 218 (oDec_at oX12_isOwnHere 91 rfl) (by decide) (fun cd121 => ?_) (fun cd121 => ?_)
                                    · skip
                                      replace pu119_4 := pu119_4 (by omega)
                                      clear pu119_5
                                      replace pu119_6 := pu119_6 (by omega)
                                      refine r_iconst C (oDec_at oX12_isOwnHere 102 rfl) (v := k1) (by rw [qk1]; rfl) ?_
                                      refine r_goto C (tgt := 223) (oDec_at oX12_isOwnHere 103 rfl) (by decide) ?_
                                      refine r_istore_n C (lv' := [(0, .ref (oad E 71)), (1, .int k1)]) [1, 0] (oDec_at oX12_isOwnHere 105 rfl) rfl (by decide) rfl ?_
                                      refine r_iload_n C (j := 1) (oDec_at oX12_isOwnHere 106 rfl) rfl rfl ?_
                                      refine r_if_ne C 294 (oDec_at oX12_isOwnHere 107 rfl) (by decide) (fun cd122 => ?_) (fun cd122 => ?_)
                                      · skip
                                        refine r_iconst C (oDec_at oX12_isOwnHere 138 rfl) (v := k1) (by rw [qk1]; rfl) ?_
                                        refine r_goto C (tgt := 299) (oDec_at oX12_isOwnHere 139 rfl) (by decide) ?_
                                        refine r_istore_n C (lv' := [(0, .ref (oad E 71)), (1, .int k1)]) [1, 0] (oDec_at oX12_isOwnHere 141 rfl) rfl (by decide) rfl ?_
                                        refine r_iload_n C (j := 1) (oDec_at oX12_isOwnHere 142 rfl) rfl rfl ?_
                                        refine r_if_ne C 326 (oDec_at oX12_isOwnHere 143 rfl) (by decide) (fun cd123 => ?_) (fun cd123 => ?_)
                                        · skip
                                          refine r_iconst C (oDec_at oX12_isOwnHere 154 rfl) (v := k1) (by rw [qk1]; rfl) ?_
                                          refine r_goto C (tgt := 331) (oDec_at oX12_isOwnHere 155 rfl) (by decide) ?_
                                          refine r_istore_n C (lv' := [(0, .ref (oad E 71)), (1, .int k1)]) [1, 0] (oDec_at oX12_isOwnHere 157 rfl) rfl (by decide) rfl ?_
                                          refine r_iload_n C (j := 1) (oDec_at oX12_isOwnHere 158 rfl) rfl rfl ?_
                                          exact r_zret C (n_bool (by omega)) (oDec_at oX12_isOwnHere 159 rfl) ⟨_, rfl, ⟨by omega, by omega, by first | exact fun _ => hy (by omega) | (intro h; exfalso; omega), by omega, by omega⟩⟩
                                        · omega
                                      · omega
                                    · skip
                                      clear pu119_4
                                      replace pu119_5 := pu119_5 (by omega)
                                      clear pu119_6
                                      clear hy
                                      have hz15 : oqWi g a b ≠ 15 := fun h9 => by (have h8 := (oqWi_is (g := g) (a := a) (b := b) (i := 15) (by decide)).mp h9; omega)
                                      refine r_aload_n C (j := 0) (oDec_at oX12_isOwnHere 92 rfl) rfl rfl ?_
                                      refine r_aload_n C (j := 0) (oDec_at oX12_isOwnHere 93 rfl) rfl rfl ?_
                                      refine r_getF (k := 26) (b := 89) C oCl12 rfl (by decide) flX12_66 rfl rfl rfl (oDec_at oX12_isOwnHere 94 rfl) ?_
                                      have lk124 : ((u119).1 71 4).toInt = (s.1 71 4).toInt := congrArg Int32.toInt (((fu119 71 4 rfl).1).trans (((fu112 71 4 rfl).1).trans (((fu105 71 4 rfl).1).trans (((fu98 71 4 rfl).1).trans (((fu92 71 4 rfl).1).trans (((fu84 71 4 rfl).1).trans (((fu76 71 4 rfl).1).trans (((fu68 71 4 rfl).1).trans (((fu60 71 4 rfl).1).trans (((fu52 71 4 rfl).1).trans (((fu46 71 4 rfl).1).trans (((fu37 71 4 rfl).1).trans (((fu28 71 4 rfl).1).trans (((fu19 71 4 rfl).1).trans (((fu10 71 4 rfl).1).trans ((fu1 71 4 rfl).1))))))))))))))))
                                      have lk125 : ((u119).1 71 5).toInt = (s.1 71 5).toInt := congrArg Int32.toInt (((fu119 71 5 rfl).1).trans (((fu112 71 5 rfl).1).trans (((fu105 71 5 rfl).1).trans (((fu98 71 5 rfl).1).trans (((fu92 71 5 rfl).1).trans (((fu84 71 5 rfl).1).trans (((fu76 71 5 rfl).1).trans (((fu68 71 5 rfl).1).trans (((fu60 71 5 rfl).1).trans (((fu52 71 5 rfl).1).trans (((fu46 71 5 rfl).1).trans (((fu37 71 5 rfl).1).trans (((fu28 71 5 rfl).1).trans (((fu19 71 5 rfl).1).trans (((fu10 71 5 rfl).1).trans ((fu1 71 5 rfl).1))))))))))))))))
                                      refine r_callVi C oCl12 rfl miX12_isHere mlX12_196 (ct4_X12_isHere l E (u119) 89 65 5 rfl (by decide) (by decide) rfl rfl (g) (a) (b) (16) (by omega) (by omega) (oqZ_fr fu119 rfl (oqZ_fr fu112 rfl (oqZ_fr fu105 rfl (oqZ_fr fu98 rfl (oqZ_fr fu92 rfl (oqZ_fr fu84 rfl (oqZ_fr fu76 rfl (oqZ_fr fu68 rfl (oqZ_fr fu60 rfl (oqZ_fr fu52 rfl (oqZ_fr fu46 rfl (oqZ_fr fu37 rfl (oqZ_fr fu28 rfl (oqZ_fr fu19 rfl (oqZ_fr fu10 rfl (oqZ_fr fu1 rfl hp2)))))))))))))))) (by omega) (by omega) rfl (oqWd_at (oqWd_fr fu119 rfl (oqWd_fr fu112 rfl (oqWd_fr fu105 rfl (oqWd_fr fu98 rfl (oqWd_fr fu92 rfl (oqWd_fr fu84 rfl (oqWd_fr fu76 rfl (oqWd_fr fu68 rfl (oqWd_fr fu60 rfl (oqWd_fr fu52 rfl (oqWd_fr fu46 rfl (oqWd_fr fu37 rfl (oqWd_fr fu28 rfl (oqWd_fr fu19 rfl (oqWd_fr fu10 rfl (oqWd_fr fu1 rfl hp4)))))))))))))))) 16 (by decide)) (by omega)) (by decide) rfl rfl rfl (Nat.le_of_ble_eq_true rfl) (oDec_at oX12_isOwnHere 95 rfl) (fun r127 u126 pu126 fu126 => ?_)
                                      try dsimp only at pu126
                                      try simp only [lk124, lk125] at pu126
                                      obtain ⟨pu126_0, pu126_1, pu126_2, pu126_3, pu126_4, pu126_5, pu126_6⟩ := pu126
                                      have rr127 := n_rng r127
                                      have hy : r127.toInt = 1 → oqWi g a b ≠ -1 := fun h9 => by (have h8 := (oqWi_is (g := g) (a := a) (b := b) (i := 16) (by decide)).mpr (pu126_4 h9); omega)
                                      refine r_if_ne C 218 (oDec_at oX12_isOwnHere 96 rfl) (by decide) (fun cd128 => ?_) (fun cd128 => ?_)
                                      · skip
                                        replace pu126_4 := pu126_4 (by omega)
                                        clear pu126_5
                                        replace pu126_6 := pu126_6 (by omega)
                                        refine r_iconst C (oDec_at oX12_isOwnHere 102 rfl) (v := k1) (by rw [qk1]; rfl) ?_
                                        refine r_goto C (tgt := 223) (oDec_at oX12_isOwnHere 103 rfl) (by decide) ?_
                                        refine r_istore_n C (lv' := [(0, .ref (oad E 71)), (1, .int k1)]) [1, 0] (oDec_at oX12_isOwnHere 105 rfl) rfl (by decide) rfl ?_
                                        refine r_iload_n C (j := 1) (oDec_at oX12_isOwnHere 106 rfl) rfl rfl ?_
                                        refine r_if_ne C 294 (oDec_at oX12_isOwnHere 107 rfl) (by decide) (fun cd129 => ?_) (fun cd129 => ?_)
                                        · skip
                                          refine r_iconst C (oDec_at oX12_isOwnHere 138 rfl) (v := k1) (by rw [qk1]; rfl) ?_
                                          refine r_goto C (tgt := 299) (oDec_at oX12_isOwnHere 139 rfl) (by decide) ?_
                                          refine r_istore_n C (lv' := [(0, .ref (oad E 71)), (1, .int k1)]) [1, 0] (oDec_at oX12_isOwnHere 141 rfl) rfl (by decide) rfl ?_
                                          refine r_iload_n C (j := 1) (oDec_at oX12_isOwnHere 142 rfl) rfl rfl ?_
                                          refine r_if_ne C 326 (oDec_at oX12_isOwnHere 143 rfl) (by decide) (fun cd130 => ?_) (fun cd130 => ?_)
                                          · skip
                                            refine r_iconst C (oDec_at oX12_isOwnHere 154 rfl) (v := k1) (by rw [qk1]; rfl) ?_
                                            refine r_goto C (tgt := 331) (oDec_at oX12_isOwnHere 155 rfl) (by decide) ?_
                                            refine r_istore_n C (lv' := [(0, .ref (oad E 71)), (1, .int k1)]) [1, 0] (oDec_at oX12_isOwnHere 157 rfl) rfl (by decide) rfl ?_
                                            refine r_iload_n C (j := 1) (oDec_at oX12_isOwnHere 158 rfl) rfl rfl ?_
                                            exact r_zret C (n_bool (by omega)) (oDec_at oX12_isOwnHere 159 rfl) ⟨_, rfl, ⟨by omega, by omega, by first | exact fun _ => hy (by omega) | (intro h; exfalso; omega), by omega, by omega⟩⟩
                                          · omega
                                        · omega
                                      · skip
                                        clear pu126_4
                                        replace pu126_5 := pu126_5 (by omega)
                                        clear pu126_6
                                        clear hy
                                        have hz16 : oqWi g a b ≠ 16 := fun h9 => by (have h8 := (oqWi_is (g := g) (a := a) (b := b) (i := 16) (by decide)).mp h9; omega)
                                        refine r_aload_n C (j := 0) (oDec_at oX12_isOwnHere 97 rfl) rfl rfl ?_
                                        refine r_aload_n C (j := 0) (oDec_at oX12_isOwnHere 98 rfl) rfl rfl ?_
                                        refine r_getF (k := 27) (b := 90) C oCl12 rfl (by decide) flX12_69 rfl rfl rfl (oDec_at oX12_isOwnHere 99 rfl) ?_
                                        have lk131 : ((u126).1 71 4).toInt = (s.1 71 4).toInt := congrArg Int32.toInt (((fu126 71 4 rfl).1).trans (((fu119 71 4 rfl).1).trans (((fu112 71 4 rfl).1).trans (((fu105 71 4 rfl).1).trans (((fu98 71 4 rfl).1).trans (((fu92 71 4 rfl).1).trans (((fu84 71 4 rfl).1).trans (((fu76 71 4 rfl).1).trans (((fu68 71 4 rfl).1).trans (((fu60 71 4 rfl).1).trans (((fu52 71 4 rfl).1).trans (((fu46 71 4 rfl).1).trans (((fu37 71 4 rfl).1).trans (((fu28 71 4 rfl).1).trans (((fu19 71 4 rfl).1).trans (((fu10 71 4 rfl).1).trans ((fu1 71 4 rfl).1)))))))))))))))))
                                        have lk132 : ((u126).1 71 5).toInt = (s.1 71 5).toInt := congrArg Int32.toInt (((fu126 71 5 rfl).1).trans (((fu119 71 5 rfl).1).trans (((fu112 71 5 rfl).1).trans (((fu105 71 5 rfl).1).trans (((fu98 71 5 rfl).1).trans (((fu92 71 5 rfl).1).trans (((fu84 71 5 rfl).1).trans (((fu76 71 5 rfl).1).trans (((fu68 71 5 rfl).1).trans (((fu60 71 5 rfl).1).trans (((fu52 71 5 rfl).1).trans (((fu46 71 5 rfl).1).trans (((fu37 71 5 rfl).1).trans (((fu28 71 5 rfl).1).trans (((fu19 71 5 rfl).1).trans (((fu10 71 5 rfl).1).trans ((fu1 71 5 rfl).1)))))))))))))))))
                                        refine r_callVi C oCl12 rfl miX12_isHere mlX12_196 (ct4_X12_isHere l E (u126) 90 66 3 rfl (by decide) (by decide) rfl rfl (g) (a) (b) (17) (by omega) (by omega) (oqZ_fr fu126 rfl (oqZ_fr fu119 rfl (oqZ_fr fu112 rfl (oqZ_fr fu105 rfl (oqZ_fr fu98 rfl (oqZ_fr fu92 rfl (oqZ_fr fu84 rfl (oqZ_fr fu76 rfl (oqZ_fr fu68 rfl (oqZ_fr fu60 rfl (oqZ_fr fu52 rfl (oqZ_fr fu46 rfl (oqZ_fr fu37 rfl (oqZ_fr fu28 rfl (oqZ_fr fu19 rfl (oqZ_fr fu10 rfl (oqZ_fr fu1 rfl hp2))))))))))))))))) (by omega) (by omega) rfl (oqWd_at (oqWd_fr fu126 rfl (oqWd_fr fu119 rfl (oqWd_fr fu112 rfl (oqWd_fr fu105 rfl (oqWd_fr fu98 rfl (oqWd_fr fu92 rfl (oqWd_fr fu84 rfl (oqWd_fr fu76 rfl (oqWd_fr fu68 rfl (oqWd_fr fu60 rfl (oqWd_fr fu52 rfl (oqWd_fr fu46 rfl (oqWd_fr fu37 rfl (oqWd_fr fu28 rfl (oqWd_fr fu19 rfl (oqWd_fr fu10 rfl (oqWd_fr fu1 rfl hp4))))))))))))))))) 17 (by decide)) (by omega)) (by decide) rfl rfl rfl (Nat.le_of_ble_eq_true rfl) (oDec_at oX12_isOwnHere 100 rfl) (fun r134 u133 pu133 fu133 => ?_)
                                        try dsimp only at pu133
                                        try simp only [lk131, lk132] at pu133
                                        obtain ⟨pu133_0, pu133_1, pu133_2, pu133_3, pu133_4, pu133_5, pu133_6⟩ := pu133
                                        have rr134 := n_rng r134
                                        have hy : r134.toInt = 1 → oqWi g a b ≠ -1 := fun h9 => by (have h8 := (oqWi_is (g := g) (a := a) (b := b) (i := 17) (by decide)).mpr (pu133_4 h9); omega)
                                        refine r_if_eq C 222 (oDec_at oX12_isOwnHere 101 rfl) (by decide) (fun cd135 => ?_) (fun cd135 => ?_)
                                        · skip
                                          clear pu133_4
                                          replace pu133_5 := pu133_5 (by omega)
                                          clear pu133_6
                                          clear hy
                                          have hz17 : oqWi g a b ≠ 17 := fun h9 => by (have h8 := (oqWi_is (g := g) (a := a) (b := b) (i := 17) (by decide)).mp h9; omega)
                                          refine r_iconst C (oDec_at oX12_isOwnHere 104 rfl) (v := k0) (by rw [qk0]; rfl) ?_
                                          refine r_istore_n C (lv' := [(0, .ref (oad E 71)), (1, .int k0)]) [1, 0] (oDec_at oX12_isOwnHere 105 rfl) rfl (by decide) rfl ?_
                                          refine r_iload_n C (j := 1) (oDec_at oX12_isOwnHere 106 rfl) rfl rfl ?_
                                          refine r_if_ne C 294 (oDec_at oX12_isOwnHere 107 rfl) (by decide) (fun cd136 => ?_) (fun cd136 => ?_)
                                          · omega
                                          · skip
                                            refine r_aload_n C (j := 0) (oDec_at oX12_isOwnHere 108 rfl) rfl rfl ?_
                                            refine r_aload_n C (j := 0) (oDec_at oX12_isOwnHere 109 rfl) rfl rfl ?_
                                            refine r_getF (k := 28) (b := 91) C oCl12 rfl (by decide) flX12_72 rfl rfl rfl (oDec_at oX12_isOwnHere 110 rfl) ?_
                                            have lk137 : ((u133).1 71 4).toInt = (s.1 71 4).toInt := congrArg Int32.toInt (((fu133 71 4 rfl).1).trans (((fu126 71 4 rfl).1).trans (((fu119 71 4 rfl).1).trans (((fu112 71 4 rfl).1).trans (((fu105 71 4 rfl).1).trans (((fu98 71 4 rfl).1).trans (((fu92 71 4 rfl).1).trans (((fu84 71 4 rfl).1).trans (((fu76 71 4 rfl).1).trans (((fu68 71 4 rfl).1).trans (((fu60 71 4 rfl).1).trans (((fu52 71 4 rfl).1).trans (((fu46 71 4 rfl).1).trans (((fu37 71 4 rfl).1).trans (((fu28 71 4 rfl).1).trans (((fu19 71 4 rfl).1).trans (((fu10 71 4 rfl).1).trans ((fu1 71 4 rfl).1))))))))))))))))))
                                            have lk138 : ((u133).1 71 5).toInt = (s.1 71 5).toInt := congrArg Int32.toInt (((fu133 71 5 rfl).1).trans (((fu126 71 5 rfl).1).trans (((fu119 71 5 rfl).1).trans (((fu112 71 5 rfl).1).trans (((fu105 71 5 rfl).1).trans (((fu98 71 5 rfl).1).trans (((fu92 71 5 rfl).1).trans (((fu84 71 5 rfl).1).trans (((fu76 71 5 rfl).1).trans (((fu68 71 5 rfl).1).trans (((fu60 71 5 rfl).1).trans (((fu52 71 5 rfl).1).trans (((fu46 71 5 rfl).1).trans (((fu37 71 5 rfl).1).trans (((fu28 71 5 rfl).1).trans (((fu19 71 5 rfl).1).trans (((fu10 71 5 rfl).1).trans ((fu1 71 5 rfl).1))))))))))))))))))
                                            refine r_callVi C oCl12 rfl miX12_isHere mlX12_196 (ct4_X12_isHere l E (u133) 91 67 4 rfl (by decide) (by decide) rfl rfl (g) (a) (b) (18) (by omega) (by omega) (oqZ_fr fu133 rfl (oqZ_fr fu126 rfl (oqZ_fr fu119 rfl (oqZ_fr fu112 rfl (oqZ_fr fu105 rfl (oqZ_fr fu98 rfl (oqZ_fr fu92 rfl (oqZ_fr fu84 rfl (oqZ_fr fu76 rfl (oqZ_fr fu68 rfl (oqZ_fr fu60 rfl (oqZ_fr fu52 rfl (oqZ_fr fu46 rfl (oqZ_fr fu37 rfl (oqZ_fr fu28 rfl (oqZ_fr fu19 rfl (oqZ_fr fu10 rfl (oqZ_fr fu1 rfl hp2)))))))))))))))))) (by omega) (by omega) rfl (oqWd_at (oqWd_fr fu133 rfl (oqWd_fr fu126 rfl (oqWd_fr fu119 rfl (oqWd_fr fu112 rfl (oqWd_fr fu105 rfl (oqWd_fr fu98 rfl (oqWd_fr fu92 rfl (oqWd_fr fu84 rfl (oqWd_fr fu76 rfl (oqWd_fr fu68 rfl (oqWd_fr fu60 rfl (oqWd_fr fu52 rfl (oqWd_fr fu46 rfl (oqWd_fr fu37 rfl (oqWd_fr fu28 rfl (oqWd_fr fu19 rfl (oqWd_fr fu10 rfl (oqWd_fr fu1 rfl hp4)))))))))))))))))) 18 (by decide)) (by omega)) (by decide) rfl rfl rfl (Nat.le_of_ble_eq_true rfl) (oDec_at oX12_isOwnHere 111 rfl) (fun r140 u139 pu139 fu139 => ?_)
                                            try dsimp only at pu139
                                            try simp only [lk137, lk138] at pu139
                                            obtain ⟨pu139_0, pu139_1, pu139_2, pu139_3, pu139_4, pu139_5, pu139_6⟩ := pu139
                                            have rr140 := n_rng r140
                                            have hy : r140.toInt = 1 → oqWi g a b ≠ -1 := fun h9 => by (have h8 := (oqWi_is (g := g) (a := a) (b := b) (i := 18) (by decide)).mpr (pu139_4 h9); omega)
                                            refine r_if_ne C 294 (oDec_at oX12_isOwnHere 112 rfl) (by decide) (fun cd141 => ?_) (fun cd141 => ?_)
                                            · skip
                                              replace pu139_4 := pu139_4 (by omega)
                                              clear pu139_5
                                              replace pu139_6 := pu139_6 (by omega)
                                              refine r_iconst C (oDec_at oX12_isOwnHere 138 rfl) (v := k1) (by rw [qk1]; rfl) ?_
                                              refine r_goto C (tgt := 299) (oDec_at oX12_isOwnHere 139 rfl) (by decide) ?_
                                              refine r_istore_n C (lv' := [(0, .ref (oad E 71)), (1, .int k1)]) [1, 0] (oDec_at oX12_isOwnHere 141 rfl) rfl (by decide) rfl ?_
                                              refine r_iload_n C (j := 1) (oDec_at oX12_isOwnHere 142 rfl) rfl rfl ?_
                                              refine r_if_ne C 326 (oDec_at oX12_isOwnHere 143 rfl) (by decide) (fun cd142 => ?_) (fun cd142 => ?_)
                                              · skip
                                                refine r_iconst C (oDec_at oX12_isOwnHere 154 rfl) (v := k1) (by rw [qk1]; rfl) ?_
                                                refine r_goto C (tgt := 331) (oDec_at oX12_isOwnHere 155 rfl) (by decide) ?_
                                                refine r_istore_n C (lv' := [(0, .ref (oad E 71)), (1, .int k1)]) [1, 0] (oDec_at oX12_isOwnHere 157 rfl) rfl (by decide) rfl ?_
                                                refine r_iload_n C (j := 1) (oDec_at oX12_isOwnHere 158 rfl) rfl rfl ?_
                                                exact r_zret C (n_bool (by omega)) (oDec_at oX12_isOwnHere 159 rfl) ⟨_, rfl, ⟨by omega, by omega, by first | exact fun _ => hy (by omega) | (intro h; exfalso; omega), by omega, by omega⟩⟩
                                              · omega
                                            · skip
                                              clear pu139_4
                                              replace pu139_5 := pu139_5 (by omega)
                                              clear pu139_6
                                              clear hy
                                              have hz18 : oqWi g a b ≠ 18 := fun h9 => by (have h8 := (oqWi_is (g := g) (a := a) (b := b) (i := 18) (by decide)).mp h9; omega)
                                              refine r_aload_n C (j := 0) (oDec_at oX12_isOwnHere 113 rfl) rfl rfl ?_
                                              refine r_aload_n C (j := 0) (oDec_at oX12_isOwnHere 114 rfl) rfl rfl ?_
                                              refine r_getF (k := 29) (b := 92) C oCl12 rfl (by decide) flX12_75 rfl rfl rfl (oDec_at oX12_isOwnHere 115 rfl) ?_
                                              have lk143 : ((u139).1 71 4).toInt = (s.1 71 4).toInt := congrArg Int32.toInt (((fu139 71 4 rfl).1).trans (((fu133 71 4 rfl).1).trans (((fu126 71 4 rfl).1).trans (((fu119 71 4 rfl).1).trans (((fu112 71 4 rfl).1).trans (((fu105 71 4 rfl).1).trans (((fu98 71 4 rfl).1).trans (((fu92 71 4 rfl).1).trans (((fu84 71 4 rfl).1).trans (((fu76 71 4 rfl).1).trans (((fu68 71 4 rfl).1).trans (((fu60 71 4 rfl).1).trans (((fu52 71 4 rfl).1).trans (((fu46 71 4 rfl).1).trans (((fu37 71 4 rfl).1).trans (((fu28 71 4 rfl).1).trans (((fu19 71 4 rfl).1).trans (((fu10 71 4 rfl).1).trans ((fu1 71 4 rfl).1)))))))))))))))))))
                                              have lk144 : ((u139).1 71 5).toInt = (s.1 71 5).toInt := congrArg Int32.toInt (((fu139 71 5 rfl).1).trans (((fu133 71 5 rfl).1).trans (((fu126 71 5 rfl).1).trans (((fu119 71 5 rfl).1).trans (((fu112 71 5 rfl).1).trans (((fu105 71 5 rfl).1).trans (((fu98 71 5 rfl).1).trans (((fu92 71 5 rfl).1).trans (((fu84 71 5 rfl).1).trans (((fu76 71 5 rfl).1).trans (((fu68 71 5 rfl).1).trans (((fu60 71 5 rfl).1).trans (((fu52 71 5 rfl).1).trans (((fu46 71 5 rfl).1).trans (((fu37 71 5 rfl).1).trans (((fu28 71 5 rfl).1).trans (((fu19 71 5 rfl).1).trans (((fu10 71 5 rfl).1).trans ((fu1 71 5 rfl).1)))))))))))))))))))
                                              refine r_callVi C oCl12 rfl miX12_isHere mlX12_196 (ct4_X12_isHere l E (u139) 92 68 5 rfl (by decide) (by decide) rfl rfl (g) (a) (b) (19) (by omega) (by omega) (oqZ_fr fu139 rfl (oqZ_fr fu133 rfl (oqZ_fr fu126 rfl (oqZ_fr fu119 rfl (oqZ_fr fu112 rfl (oqZ_fr fu105 rfl (oqZ_fr fu98 rfl (oqZ_fr fu92 rfl (oqZ_fr fu84 rfl (oqZ_fr fu76 rfl (oqZ_fr fu68 rfl (oqZ_fr fu60 rfl (oqZ_fr fu52 rfl (oqZ_fr fu46 rfl (oqZ_fr fu37 rfl (oqZ_fr fu28 rfl (oqZ_fr fu19 rfl (oqZ_fr fu10 rfl (oqZ_fr fu1 rfl hp2))))))))))))))))))) (by omega) (by omega) rfl (oqWd_at (oqWd_fr fu139 rfl (oqWd_fr fu133 rfl (oqWd_fr fu126 rfl (oqWd_fr fu119 rfl (oqWd_fr fu112 rfl (oqWd_fr fu105 rfl (oqWd_fr fu98 rfl (oqWd_fr fu92 rfl (oqWd_fr fu84 rfl (oqWd_fr fu76 rfl (oqWd_fr fu68 rfl (oqWd_fr fu60 rfl (oqWd_fr fu52 rfl (oqWd_fr fu46 rfl (oqWd_fr fu37 rfl (oqWd_fr fu28 rfl (oqWd_fr fu19 rfl (oqWd_fr fu10 rfl (oqWd_fr fu1 rfl hp4))))))))))))))))))) 19 (by decide)) (by omega)) (by decide) rfl rfl rfl (Nat.le_of_ble_eq_true rfl) (oDec_at oX12_isOwnHere 116 rfl) (fun r146 u145 pu145 fu145 => ?_)
                                              try dsimp only at pu145
                                              try simp only [lk143, lk144] at pu145
                                              obtain ⟨pu145_0, pu145_1, pu145_2, pu145_3, pu145_4, pu145_5, pu145_6⟩ := pu145
                                              have rr146 := n_rng r146
                                              have hy : r146.toInt = 1 → oqWi g a b ≠ -1 := fun h9 => by (have h8 := (oqWi_is (g := g) (a := a) (b := b) (i := 19) (by decide)).mpr (pu145_4 h9); omega)
                                              refine r_if_ne C 294 (oDec_at oX12_isOwnHere 117 rfl) (by decide) (fun cd147 => ?_) (fun cd147 => ?_)
                                              · skip
                                                replace pu145_4 := pu145_4 (by omega)
                                                clear pu145_5
                                                replace pu145_6 := pu145_6 (by omega)
                                                refine r_iconst C (oDec_at oX12_isOwnHere 138 rfl) (v := k1) (by rw [qk1]; rfl) ?_
                                                refine r_goto C (tgt := 299) (oDec_at oX12_isOwnHere 139 rfl) (by decide) ?_
                                                refine r_istore_n C (lv' := [(0, .ref (oad E 71)), (1, .int k1)]) [1, 0] (oDec_at oX12_isOwnHere 141 rfl) rfl (by decide) rfl ?_
                                                refine r_iload_n C (j := 1) (oDec_at oX12_isOwnHere 142 rfl) rfl rfl ?_
                                                refine r_if_ne C 326 (oDec_at oX12_isOwnHere 143 rfl) (by decide) (fun cd148 => ?_) (fun cd148 => ?_)
                                                · skip
                                                  refine r_iconst C (oDec_at oX12_isOwnHere 154 rfl) (v := k1) (by rw [qk1]; rfl) ?_
                                                  refine r_goto C (tgt := 331) (oDec_at oX12_isOwnHere 155 rfl) (by decide) ?_
                                                  refine r_istore_n C (lv' := [(0, .ref (oad E 71)), (1, .int k1)]) [1, 0] (oDec_at oX12_isOwnHere 157 rfl) rfl (by decide) rfl ?_
                                                  refine r_iload_n C (j := 1) (oDec_at oX12_isOwnHere 158 rfl) rfl rfl ?_
                                                  exact r_zret C (n_bool (by omega)) (oDec_at oX12_isOwnHere 159 rfl) ⟨_, rfl, ⟨by omega, by omega, by first | exact fun _ => hy (by omega) | (intro h; exfalso; omega), by omega, by omega⟩⟩
                                                · omega
                                              · skip
                                                clear pu145_4
                                                replace pu145_5 := pu145_5 (by omega)
                                                clear pu145_6
                                                clear hy
                                                have hz19 : oqWi g a b ≠ 19 := fun h9 => by (have h8 := (oqWi_is (g := g) (a := a) (b := b) (i := 19) (by decide)).mp h9; omega)
                                                refine r_aload_n C (j := 0) (oDec_at oX12_isOwnHere 118 rfl) rfl rfl ?_
                                                refine r_aload_n C (j := 0) (oDec_at oX12_isOwnHere 119 rfl) rfl rfl ?_
                                                refine r_getF (k := 30) (b := 93) C oCl12 rfl (by decide) flX12_78 rfl rfl rfl (oDec_at oX12_isOwnHere 120 rfl) ?_
                                                have lk149 : ((u145).1 71 4).toInt = (s.1 71 4).toInt := congrArg Int32.toInt (((fu145 71 4 rfl).1).trans (((fu139 71 4 rfl).1).trans (((fu133 71 4 rfl).1).trans (((fu126 71 4 rfl).1).trans (((fu119 71 4 rfl).1).trans (((fu112 71 4 rfl).1).trans (((fu105 71 4 rfl).1).trans (((fu98 71 4 rfl).1).trans (((fu92 71 4 rfl).1).trans (((fu84 71 4 rfl).1).trans (((fu76 71 4 rfl).1).trans (((fu68 71 4 rfl).1).trans (((fu60 71 4 rfl).1).trans (((fu52 71 4 rfl).1).trans (((fu46 71 4 rfl).1).trans (((fu37 71 4 rfl).1).trans (((fu28 71 4 rfl).1).trans (((fu19 71 4 rfl).1).trans (((fu10 71 4 rfl).1).trans ((fu1 71 4 rfl).1))))))))))))))))))))
                                                have lk150 : ((u145).1 71 5).toInt = (s.1 71 5).toInt := congrArg Int32.toInt (((fu145 71 5 rfl).1).trans (((fu139 71 5 rfl).1).trans (((fu133 71 5 rfl).1).trans (((fu126 71 5 rfl).1).trans (((fu119 71 5 rfl).1).trans (((fu112 71 5 rfl).1).trans (((fu105 71 5 rfl).1).trans (((fu98 71 5 rfl).1).trans (((fu92 71 5 rfl).1).trans (((fu84 71 5 rfl).1).trans (((fu76 71 5 rfl).1).trans (((fu68 71 5 rfl).1).trans (((fu60 71 5 rfl).1).trans (((fu52 71 5 rfl).1).trans (((fu46 71 5 rfl).1).trans (((fu37 71 5 rfl).1).trans (((fu28 71 5 rfl).1).trans (((fu19 71 5 rfl).1).trans (((fu10 71 5 rfl).1).trans ((fu1 71 5 rfl).1))))))))))))))))))))
                                                refine r_callVi C oCl12 rfl miX12_isHere mlX12_196 (ct4_X12_isHere l E (u145) 93 69 4 rfl (by decide) (by decide) rfl rfl (g) (a) (b) (20) (by omega) (by omega) (oqZ_fr fu145 rfl (oqZ_fr fu139 rfl (oqZ_fr fu133 rfl (oqZ_fr fu126 rfl (oqZ_fr fu119 rfl (oqZ_fr fu112 rfl (oqZ_fr fu105 rfl (oqZ_fr fu98 rfl (oqZ_fr fu92 rfl (oqZ_fr fu84 rfl (oqZ_fr fu76 rfl (oqZ_fr fu68 rfl (oqZ_fr fu60 rfl (oqZ_fr fu52 rfl (oqZ_fr fu46 rfl (oqZ_fr fu37 rfl (oqZ_fr fu28 rfl (oqZ_fr fu19 rfl (oqZ_fr fu10 rfl (oqZ_fr fu1 rfl hp2)))))))))))))))))))) (by omega) (by omega) rfl (oqWd_at (oqWd_fr fu145 rfl (oqWd_fr fu139 rfl (oqWd_fr fu133 rfl (oqWd_fr fu126 rfl (oqWd_fr fu119 rfl (oqWd_fr fu112 rfl (oqWd_fr fu105 rfl (oqWd_fr fu98 rfl (oqWd_fr fu92 rfl (oqWd_fr fu84 rfl (oqWd_fr fu76 rfl (oqWd_fr fu68 rfl (oqWd_fr fu60 rfl (oqWd_fr fu52 rfl (oqWd_fr fu46 rfl (oqWd_fr fu37 rfl (oqWd_fr fu28 rfl (oqWd_fr fu19 rfl (oqWd_fr fu10 rfl (oqWd_fr fu1 rfl hp4)))))))))))))))))))) 20 (by decide)) (by omega)) (by decide) rfl rfl rfl (Nat.le_of_ble_eq_true rfl) (oDec_at oX12_isOwnHere 121 rfl) (fun r152 u151 pu151 fu151 => ?_)
                                                try dsimp only at pu151
                                                try simp only [lk149, lk150] at pu151
                                                obtain ⟨pu151_0, pu151_1, pu151_2, pu151_3, pu151_4, pu151_5, pu151_6⟩ := pu151
                                                have rr152 := n_rng r152
                                                have hy : r152.toInt = 1 → oqWi g a b ≠ -1 := fun h9 => by (have h8 := (oqWi_is (g := g) (a := a) (b := b) (i := 20) (by decide)).mpr (pu151_4 h9); omega)
                                                refine r_if_ne C 294 (oDec_at oX12_isOwnHere 122 rfl) (by decide) (fun cd153 => ?_) (fun cd153 => ?_)
                                                · skip
                                                  replace pu151_4 := pu151_4 (by omega)
                                                  clear pu151_5
                                                  replace pu151_6 := pu151_6 (by omega)
                                                  refine r_iconst C (oDec_at oX12_isOwnHere 138 rfl) (v := k1) (by rw [qk1]; rfl) ?_
                                                  refine r_goto C (tgt := 299) (oDec_at oX12_isOwnHere 139 rfl) (by decide) ?_
                                                  refine r_istore_n C (lv' := [(0, .ref (oad E 71)), (1, .int k1)]) [1, 0] (oDec_at oX12_isOwnHere 141 rfl) rfl (by decide) rfl ?_
                                                  refine r_iload_n C (j := 1) (oDec_at oX12_isOwnHere 142 rfl) rfl rfl ?_
                                                  refine r_if_ne C 326 (oDec_at oX12_isOwnHere 143 rfl) (by decide) (fun cd154 => ?_) (fun cd154 => ?_)
                                                  · skip
                                                    refine r_iconst C (oDec_at oX12_isOwnHere 154 rfl) (v := k1) (by rw [qk1]; rfl) ?_
                                                    refine r_goto C (tgt := 331) (oDec_at oX12_isOwnHere 155 rfl) (by decide) ?_
                                                    refine r_istore_n C (lv' := [(0, .ref (oad E 71)), (1, .int k1)]) [1, 0] (oDec_at oX12_isOwnHere 157 rfl) rfl (by decide) rfl ?_
                                                    refine r_iload_n C (j := 1) (oDec_at oX12_isOwnHere 158 rfl) rfl rfl ?_
                                                    exact r_zret C (n_bool (by omega)) (oDec_at oX12_isOwnHere 159 rfl) ⟨_, rfl, ⟨by omega, by omega, by first | exact fun _ => hy (by omega) | (intro h; exfalso; omega), by omega, by omega⟩⟩
                                                  · omega
                                                · skip
                                                  clear pu151_4
                                                  replace pu151_5 := pu151_5 (by omega)
                                                  clear pu151_6
                                                  clear hy
                                                  have hz20 : oqWi g a b ≠ 20 := fun h9 => by (have h8 := (oqWi_is (g := g) (a := a) (b := b) (i := 20) (by decide)).mp h9; omega)
                                                  refine r_aload_n C (j := 0) (oDec_at oX12_isOwnHere 123 rfl) rfl rfl ?_
                                                  refine r_aload_n C (j := 0) (oDec_at oX12_isOwnHere 124 rfl) rfl rfl ?_
                                                  refine r_getF (k := 31) (b := 94) C oCl12 rfl (by decide) flX12_81 rfl rfl rfl (oDec_at oX12_isOwnHere 125 rfl) ?_
                                                  have lk155 : ((u151).1 71 4).toInt = (s.1 71 4).toInt := congrArg Int32.toInt (((fu151 71 4 rfl).1).trans (((fu145 71 4 rfl).1).trans (((fu139 71 4 rfl).1).trans (((fu133 71 4 rfl).1).trans (((fu126 71 4 rfl).1).trans (((fu119 71 4 rfl).1).trans (((fu112 71 4 rfl).1).trans (((fu105 71 4 rfl).1).trans (((fu98 71 4 rfl).1).trans (((fu92 71 4 rfl).1).trans (((fu84 71 4 rfl).1).trans (((fu76 71 4 rfl).1).trans (((fu68 71 4 rfl).1).trans (((fu60 71 4 rfl).1).trans (((fu52 71 4 rfl).1).trans (((fu46 71 4 rfl).1).trans (((fu37 71 4 rfl).1).trans (((fu28 71 4 rfl).1).trans (((fu19 71 4 rfl).1).trans (((fu10 71 4 rfl).1).trans ((fu1 71 4 rfl).1)))))))))))))))))))))
                                                  have lk156 : ((u151).1 71 5).toInt = (s.1 71 5).toInt := congrArg Int32.toInt (((fu151 71 5 rfl).1).trans (((fu145 71 5 rfl).1).trans (((fu139 71 5 rfl).1).trans (((fu133 71 5 rfl).1).trans (((fu126 71 5 rfl).1).trans (((fu119 71 5 rfl).1).trans (((fu112 71 5 rfl).1).trans (((fu105 71 5 rfl).1).trans (((fu98 71 5 rfl).1).trans (((fu92 71 5 rfl).1).trans (((fu84 71 5 rfl).1).trans (((fu76 71 5 rfl).1).trans (((fu68 71 5 rfl).1).trans (((fu60 71 5 rfl).1).trans (((fu52 71 5 rfl).1).trans (((fu46 71 5 rfl).1).trans (((fu37 71 5 rfl).1).trans (((fu28 71 5 rfl).1).trans (((fu19 71 5 rfl).1).trans (((fu10 71 5 rfl).1).trans ((fu1 71 5 rfl).1)))))))))))))))))))))
                                                  refine r_callVi C oCl12 rfl miX12_isHere mlX12_196 (ct4_X12_isHere l E (u151) 94 70 6 rfl (by decide) (by decide) rfl rfl (g) (a) (b) (21) (by omega) (by omega) (oqZ_fr fu151 rfl (oqZ_fr fu145 rfl (oqZ_fr fu139 rfl (oqZ_fr fu133 rfl (oqZ_fr fu126 rfl (oqZ_fr fu119 rfl (oqZ_fr fu112 rfl (oqZ_fr fu105 rfl (oqZ_fr fu98 rfl (oqZ_fr fu92 rfl (oqZ_fr fu84 rfl (oqZ_fr fu76 rfl (oqZ_fr fu68 rfl (oqZ_fr fu60 rfl (oqZ_fr fu52 rfl (oqZ_fr fu46 rfl (oqZ_fr fu37 rfl (oqZ_fr fu28 rfl (oqZ_fr fu19 rfl (oqZ_fr fu10 rfl (oqZ_fr fu1 rfl hp2))))))))))))))))))))) (by omega) (by omega) rfl (oqWd_at (oqWd_fr fu151 rfl (oqWd_fr fu145 rfl (oqWd_fr fu139 rfl (oqWd_fr fu133 rfl (oqWd_fr fu126 rfl (oqWd_fr fu119 rfl (oqWd_fr fu112 rfl (oqWd_fr fu105 rfl (oqWd_fr fu98 rfl (oqWd_fr fu92 rfl (oqWd_fr fu84 rfl (oqWd_fr fu76 rfl (oqWd_fr fu68 rfl (oqWd_fr fu60 rfl (oqWd_fr fu52 rfl (oqWd_fr fu46 rfl (oqWd_fr fu37 rfl (oqWd_fr fu28 rfl (oqWd_fr fu19 rfl (oqWd_fr fu10 rfl (oqWd_fr fu1 rfl hp4))))))))))))))))))))) 21 (by decide)) (by omega)) (by decide) rfl rfl rfl (Nat.le_of_ble_eq_true rfl) (oDec_at oX12_isOwnHere 126 rfl) (fun r158 u157 pu157 fu157 => ?_)
                                                  try dsimp only at pu157
                                                  try simp only [lk155, lk156] at pu157
                                                  obtain ⟨pu157_0, pu157_1, pu157_2, pu157_3, pu157_4, pu157_5, pu157_6⟩ := pu157
                                                  have rr158 := n_rng r158
                                                  have hy : r158.toInt = 1 → oqWi g a b ≠ -1 := fun h9 => by (have h8 := (oqWi_is (g := g) (a := a) (b := b) (i := 21) (by decide)).mpr (pu157_4 h9); omega)
                                                  refine r_if_ne C 294 (oDec_at oX12_isOwnHere 127 rfl) (by decide) (fun cd159 => ?_) (fun cd159 => ?_)
                                                  · skip
                                                    replace pu157_4 := pu157_4 (by omega)
                                                    clear pu157_5
                                                    replace pu157_6 := pu157_6 (by omega)
                                                    refine r_iconst C (oDec_at oX12_isOwnHere 138 rfl) (v := k1) (by rw [qk1]; rfl) ?_
                                                    refine r_goto C (tgt := 299) (oDec_at oX12_isOwnHere 139 rfl) (by decide) ?_
                                                    refine r_istore_n C (lv' := [(0, .ref (oad E 71)), (1, .int k1)]) [1, 0] (oDec_at oX12_isOwnHere 141 rfl) rfl (by decide) rfl ?_
                                                    refine r_iload_n C (j := 1) (oDec_at oX12_isOwnHere 142 rfl) rfl rfl ?_
                                                    refine r_if_ne C 326 (oDec_at oX12_isOwnHere 143 rfl) (by decide) (fun cd160 => ?_) (fun cd160 => ?_)
                                                    · skip
                                                      refine r_iconst C (oDec_at oX12_isOwnHere 154 rfl) (v := k1) (by rw [qk1]; rfl) ?_
                                                      refine r_goto C (tgt := 331) (oDec_at oX12_isOwnHere 155 rfl) (by decide) ?_
                                                      refine r_istore_n C (lv' := [(0, .ref (oad E 71)), (1, .int k1)]) [1, 0] (oDec_at oX12_isOwnHere 157 rfl) rfl (by decide) rfl ?_
                                                      refine r_iload_n C (j := 1) (oDec_at oX12_isOwnHere 158 rfl) rfl rfl ?_
                                                      exact r_zret C (n_bool (by omega)) (oDec_at oX12_isOwnHere 159 rfl) ⟨_, rfl, ⟨by omega, by omega, by first | exact fun _ => hy (by omega) | (intro h; exfalso; omega), by omega, by omega⟩⟩
                                                    · omega
                                                  · skip
                                                    clear pu157_4
                                                    replace pu157_5 := pu157_5 (by omega)
                                                    clear pu157_6
                                                    clear hy
                                                    have hz21 : oqWi g a b ≠ 21 := fun h9 => by (have h8 := (oqWi_is (g := g) (a := a) (b := b) (i := 21) (by decide)).mp h9; omega)
                                                    refine r_aload_n C (j := 0) (oDec_at oX12_isOwnHere 128 rfl) rfl rfl ?_
                                                    refine r_aload_n C (j := 0) (oDec_at oX12_isOwnHere 129 rfl) rfl rfl ?_
                                                    refine r_getF (k := 32) (b := 95) C oCl12 rfl (by decide) flX12_84 rfl rfl rfl (oDec_at oX12_isOwnHere 130 rfl) ?_
                                                    have lk161 : ((u157).1 71 4).toInt = (s.1 71 4).toInt := congrArg Int32.toInt (((fu157 71 4 rfl).1).trans (((fu151 71 4 rfl).1).trans (((fu145 71 4 rfl).1).trans (((fu139 71 4 rfl).1).trans (((fu133 71 4 rfl).1).trans (((fu126 71 4 rfl).1).trans (((fu119 71 4 rfl).1).trans (((fu112 71 4 rfl).1).trans (((fu105 71 4 rfl).1).trans (((fu98 71 4 rfl).1).trans (((fu92 71 4 rfl).1).trans (((fu84 71 4 rfl).1).trans (((fu76 71 4 rfl).1).trans (((fu68 71 4 rfl).1).trans (((fu60 71 4 rfl).1).trans (((fu52 71 4 rfl).1).trans (((fu46 71 4 rfl).1).trans (((fu37 71 4 rfl).1).trans (((fu28 71 4 rfl).1).trans (((fu19 71 4 rfl).1).trans (((fu10 71 4 rfl).1).trans ((fu1 71 4 rfl).1))))))))))))))))))))))
                                                    have lk162 : ((u157).1 71 5).toInt = (s.1 71 5).toInt := congrArg Int32.toInt (((fu157 71 5 rfl).1).trans (((fu151 71 5 rfl).1).trans (((fu145 71 5 rfl).1).trans (((fu139 71 5 rfl).1).trans (((fu133 71 5 rfl).1).trans (((fu126 71 5 rfl).1).trans (((fu119 71 5 rfl).1).trans (((fu112 71 5 rfl).1).trans (((fu105 71 5 rfl).1).trans (((fu98 71 5 rfl).1).trans (((fu92 71 5 rfl).1).trans (((fu84 71 5 rfl).1).trans (((fu76 71 5 rfl).1).trans (((fu68 71 5 rfl).1).trans (((fu60 71 5 rfl).1).trans (((fu52 71 5 rfl).1).trans (((fu46 71 5 rfl).1).trans (((fu37 71 5 rfl).1).trans (((fu28 71 5 rfl).1).trans (((fu19 71 5 rfl).1).trans (((fu10 71 5 rfl).1).trans ((fu1 71 5 rfl).1))))))))))))))))))))))
                                                    refine r_callVi C oCl12 rfl miX12_isHere mlX12_196 (ct4_X12_isHere l E (u157) 95 71 4 rfl (by decide) (by decide) rfl rfl (g) (a) (b) (22) (by omega) (by omega) (oqZ_fr fu157 rfl (oqZ_fr fu151 rfl (oqZ_fr fu145 rfl (oqZ_fr fu139 rfl (oqZ_fr fu133 rfl (oqZ_fr fu126 rfl (oqZ_fr fu119 rfl (oqZ_fr fu112 rfl (oqZ_fr fu105 rfl (oqZ_fr fu98 rfl (oqZ_fr fu92 rfl (oqZ_fr fu84 rfl (oqZ_fr fu76 rfl (oqZ_fr fu68 rfl (oqZ_fr fu60 rfl (oqZ_fr fu52 rfl (oqZ_fr fu46 rfl (oqZ_fr fu37 rfl (oqZ_fr fu28 rfl (oqZ_fr fu19 rfl (oqZ_fr fu10 rfl (oqZ_fr fu1 rfl hp2)))))))))))))))))))))) (by omega) (by omega) rfl (oqWd_at (oqWd_fr fu157 rfl (oqWd_fr fu151 rfl (oqWd_fr fu145 rfl (oqWd_fr fu139 rfl (oqWd_fr fu133 rfl (oqWd_fr fu126 rfl (oqWd_fr fu119 rfl (oqWd_fr fu112 rfl (oqWd_fr fu105 rfl (oqWd_fr fu98 rfl (oqWd_fr fu92 rfl (oqWd_fr fu84 rfl (oqWd_fr fu76 rfl (oqWd_fr fu68 rfl (oqWd_fr fu60 rfl (oqWd_fr fu52 rfl (oqWd_fr fu46 rfl (oqWd_fr fu37 rfl (oqWd_fr fu28 rfl (oqWd_fr fu19 rfl (oqWd_fr fu10 rfl (oqWd_fr fu1 rfl hp4)))))))))))))))))))))) 22 (by decide)) (by omega)) (by decide) rfl rfl rfl (Nat.le_of_ble_eq_true rfl) (oDec_at oX12_isOwnHere 131 rfl) (fun r164 u163 pu163 fu163 => ?_)
                                                    try dsimp only at pu163
                                                    try simp only [lk161, lk162] at pu163
                                                    obtain ⟨pu163_0, pu163_1, pu163_2, pu163_3, pu163_4, pu163_5, pu163_6⟩ := pu163
                                                    have rr164 := n_rng r164
                                                    have hy : r164.toInt = 1 → oqWi g a b ≠ -1 := fun h9 => by (have h8 := (oqWi_is (g := g) (a := a) (b := b) (i := 22) (by decide)).mpr (pu163_4 h9); omega)
                                                    refine r_if_ne C 294 (oDec_at oX12_isOwnHere 132 rfl) (by decide) (fun cd165 => ?_) (fun cd165 => ?_)
                                                    · skip
                                                      replace pu163_4 := pu163_4 (by omega)
                                                      clear pu163_5
                                                      replace pu163_6 := pu163_6 (by omega)
                                                      refine r_iconst C (oDec_at oX12_isOwnHere 138 rfl) (v := k1) (by rw [qk1]; rfl) ?_
                                                      refine r_goto C (tgt := 299) (oDec_at oX12_isOwnHere 139 rfl) (by decide) ?_
                                                      refine r_istore_n C (lv' := [(0, .ref (oad E 71)), (1, .int k1)]) [1, 0] (oDec_at oX12_isOwnHere 141 rfl) rfl (by decide) rfl ?_
                                                      refine r_iload_n C (j := 1) (oDec_at oX12_isOwnHere 142 rfl) rfl rfl ?_
                                                      refine r_if_ne C 326 (oDec_at oX12_isOwnHere 143 rfl) (by decide) (fun cd166 => ?_) (fun cd166 => ?_)
                                                      · skip
                                                        refine r_iconst C (oDec_at oX12_isOwnHere 154 rfl) (v := k1) (by rw [qk1]; rfl) ?_
                                                        refine r_goto C (tgt := 331) (oDec_at oX12_isOwnHere 155 rfl) (by decide) ?_
                                                        refine r_istore_n C (lv' := [(0, .ref (oad E 71)), (1, .int k1)]) [1, 0] (oDec_at oX12_isOwnHere 157 rfl) rfl (by decide) rfl ?_
                                                        refine r_iload_n C (j := 1) (oDec_at oX12_isOwnHere 158 rfl) rfl rfl ?_
                                                        exact r_zret C (n_bool (by omega)) (oDec_at oX12_isOwnHere 159 rfl) ⟨_, rfl, ⟨by omega, by omega, by first | exact fun _ => hy (by omega) | (intro h; exfalso; omega), by omega, by omega⟩⟩
                                                      · omega
                                                    · skip
                                                      clear pu163_4
                                                      replace pu163_5 := pu163_5 (by omega)
                                                      clear pu163_6
                                                      clear hy
                                                      have hz22 : oqWi g a b ≠ 22 := fun h9 => by (have h8 := (oqWi_is (g := g) (a := a) (b := b) (i := 22) (by decide)).mp h9; omega)
                                                      refine r_aload_n C (j := 0) (oDec_at oX12_isOwnHere 133 rfl) rfl rfl ?_
                                                      refine r_aload_n C (j := 0) (oDec_at oX12_isOwnHere 134 rfl) rfl rfl ?_
                                                      refine r_getF (k := 33) (b := 96) C oCl12 rfl (by decide) flX12_87 rfl rfl rfl (oDec_at oX12_isOwnHere 135 rfl) ?_
                                                      have lk167 : ((u163).1 71 4).toInt = (s.1 71 4).toInt := congrArg Int32.toInt (((fu163 71 4 rfl).1).trans (((fu157 71 4 rfl).1).trans (((fu151 71 4 rfl).1).trans (((fu145 71 4 rfl).1).trans (((fu139 71 4 rfl).1).trans (((fu133 71 4 rfl).1).trans (((fu126 71 4 rfl).1).trans (((fu119 71 4 rfl).1).trans (((fu112 71 4 rfl).1).trans (((fu105 71 4 rfl).1).trans (((fu98 71 4 rfl).1).trans (((fu92 71 4 rfl).1).trans (((fu84 71 4 rfl).1).trans (((fu76 71 4 rfl).1).trans (((fu68 71 4 rfl).1).trans (((fu60 71 4 rfl).1).trans (((fu52 71 4 rfl).1).trans (((fu46 71 4 rfl).1).trans (((fu37 71 4 rfl).1).trans (((fu28 71 4 rfl).1).trans (((fu19 71 4 rfl).1).trans (((fu10 71 4 rfl).1).trans ((fu1 71 4 rfl).1)))))))))))))))))))))))
                                                      have lk168 : ((u163).1 71 5).toInt = (s.1 71 5).toInt := congrArg Int32.toInt (((fu163 71 5 rfl).1).trans (((fu157 71 5 rfl).1).trans (((fu151 71 5 rfl).1).trans (((fu145 71 5 rfl).1).trans (((fu139 71 5 rfl).1).trans (((fu133 71 5 rfl).1).trans (((fu126 71 5 rfl).1).trans (((fu119 71 5 rfl).1).trans (((fu112 71 5 rfl).1).trans (((fu105 71 5 rfl).1).trans (((fu98 71 5 rfl).1).trans (((fu92 71 5 rfl).1).trans (((fu84 71 5 rfl).1).trans (((fu76 71 5 rfl).1).trans (((fu68 71 5 rfl).1).trans (((fu60 71 5 rfl).1).trans (((fu52 71 5 rfl).1).trans (((fu46 71 5 rfl).1).trans (((fu37 71 5 rfl).1).trans (((fu28 71 5 rfl).1).trans (((fu19 71 5 rfl).1).trans (((fu10 71 5 rfl).1).trans ((fu1 71 5 rfl).1)))))))))))))))))))))))
                                                      refine r_callVi C oCl12 rfl miX12_isHere mlX12_196 (ct4_X12_isHere l E (u163) 96 72 4 rfl (by decide) (by decide) rfl rfl (g) (a) (b) (23) (by omega) (by omega) (oqZ_fr fu163 rfl (oqZ_fr fu157 rfl (oqZ_fr fu151 rfl (oqZ_fr fu145 rfl (oqZ_fr fu139 rfl (oqZ_fr fu133 rfl (oqZ_fr fu126 rfl (oqZ_fr fu119 rfl (oqZ_fr fu112 rfl (oqZ_fr fu105 rfl (oqZ_fr fu98 rfl (oqZ_fr fu92 rfl (oqZ_fr fu84 rfl (oqZ_fr fu76 rfl (oqZ_fr fu68 rfl (oqZ_fr fu60 rfl (oqZ_fr fu52 rfl (oqZ_fr fu46 rfl (oqZ_fr fu37 rfl (oqZ_fr fu28 rfl (oqZ_fr fu19 rfl (oqZ_fr fu10 rfl (oqZ_fr fu1 rfl hp2))))))))))))))))))))))) (by omega) (by omega) rfl (oqWd_at (oqWd_fr fu163 rfl (oqWd_fr fu157 rfl (oqWd_fr fu151 rfl (oqWd_fr fu145 rfl (oqWd_fr fu139 rfl (oqWd_fr fu133 rfl (oqWd_fr fu126 rfl (oqWd_fr fu119 rfl (oqWd_fr fu112 rfl (oqWd_fr fu105 rfl (oqWd_fr fu98 rfl (oqWd_fr fu92 rfl (oqWd_fr fu84 rfl (oqWd_fr fu76 rfl (oqWd_fr fu68 rfl (oqWd_fr fu60 rfl (oqWd_fr fu52 rfl (oqWd_fr fu46 rfl (oqWd_fr fu37 rfl (oqWd_fr fu28 rfl (oqWd_fr fu19 rfl (oqWd_fr fu10 rfl (oqWd_fr fu1 rfl hp4))))))))))))))))))))))) 23 (by decide)) (by omega)) (by decide) rfl rfl rfl (Nat.le_of_ble_eq_true rfl) (oDec_at oX12_isOwnHere 136 rfl) (fun r170 u169 pu169 fu169 => ?_)
                                                      try dsimp only at pu169
                                                      try simp only [lk167, lk168] at pu169
                                                      obtain ⟨pu169_0, pu169_1, pu169_2, pu169_3, pu169_4, pu169_5, pu169_6⟩ := pu169
                                                      have rr170 := n_rng r170
                                                      have hy : r170.toInt = 1 → oqWi g a b ≠ -1 := fun h9 => by (have h8 := (oqWi_is (g := g) (a := a) (b := b) (i := 23) (by decide)).mpr (pu169_4 h9); omega)
                                                      refine r_if_eq C 298 (oDec_at oX12_isOwnHere 137 rfl) (by decide) (fun cd171 => ?_) (fun cd171 => ?_)
                                                      · skip
                                                        clear pu169_4
                                                        replace pu169_5 := pu169_5 (by omega)
                                                        clear pu169_6
                                                        clear hy
                                                        have hz23 : oqWi g a b ≠ 23 := fun h9 => by (have h8 := (oqWi_is (g := g) (a := a) (b := b) (i := 23) (by decide)).mp h9; omega)
                                                        refine r_iconst C (oDec_at oX12_isOwnHere 140 rfl) (v := k0) (by rw [qk0]; rfl) ?_
                                                        refine r_istore_n C (lv' := [(0, .ref (oad E 71)), (1, .int k0)]) [1, 0] (oDec_at oX12_isOwnHere 141 rfl) rfl (by decide) rfl ?_
                                                        refine r_iload_n C (j := 1) (oDec_at oX12_isOwnHere 142 rfl) rfl rfl ?_
                                                        refine r_if_ne C 326 (oDec_at oX12_isOwnHere 143 rfl) (by decide) (fun cd172 => ?_) (fun cd172 => ?_)
                                                        · omega
                                                        · skip
                                                          refine r_aload_n C (j := 0) (oDec_at oX12_isOwnHere 144 rfl) rfl rfl ?_
                                                          refine r_aload_n C (j := 0) (oDec_at oX12_isOwnHere 145 rfl) rfl rfl ?_
                                                          refine r_getF (k := 34) (b := 97) C oCl12 rfl (by decide) flX12_90 rfl rfl rfl (oDec_at oX12_isOwnHere 146 rfl) ?_
                                                          have lk173 : ((u169).1 71 4).toInt = (s.1 71 4).toInt := congrArg Int32.toInt (((fu169 71 4 rfl).1).trans (((fu163 71 4 rfl).1).trans (((fu157 71 4 rfl).1).trans (((fu151 71 4 rfl).1).trans (((fu145 71 4 rfl).1).trans (((fu139 71 4 rfl).1).trans (((fu133 71 4 rfl).1).trans (((fu126 71 4 rfl).1).trans (((fu119 71 4 rfl).1).trans (((fu112 71 4 rfl).1).trans (((fu105 71 4 rfl).1).trans (((fu98 71 4 rfl).1).trans (((fu92 71 4 rfl).1).trans (((fu84 71 4 rfl).1).trans (((fu76 71 4 rfl).1).trans (((fu68 71 4 rfl).1).trans (((fu60 71 4 rfl).1).trans (((fu52 71 4 rfl).1).trans (((fu46 71 4 rfl).1).trans (((fu37 71 4 rfl).1).trans (((fu28 71 4 rfl).1).trans (((fu19 71 4 rfl).1).trans (((fu10 71 4 rfl).1).trans ((fu1 71 4 rfl).1))))))))))))))))))))))))
                                                          have lk174 : ((u169).1 71 5).toInt = (s.1 71 5).toInt := congrArg Int32.toInt (((fu169 71 5 rfl).1).trans (((fu163 71 5 rfl).1).trans (((fu157 71 5 rfl).1).trans (((fu151 71 5 rfl).1).trans (((fu145 71 5 rfl).1).trans (((fu139 71 5 rfl).1).trans (((fu133 71 5 rfl).1).trans (((fu126 71 5 rfl).1).trans (((fu119 71 5 rfl).1).trans (((fu112 71 5 rfl).1).trans (((fu105 71 5 rfl).1).trans (((fu98 71 5 rfl).1).trans (((fu92 71 5 rfl).1).trans (((fu84 71 5 rfl).1).trans (((fu76 71 5 rfl).1).trans (((fu68 71 5 rfl).1).trans (((fu60 71 5 rfl).1).trans (((fu52 71 5 rfl).1).trans (((fu46 71 5 rfl).1).trans (((fu37 71 5 rfl).1).trans (((fu28 71 5 rfl).1).trans (((fu19 71 5 rfl).1).trans (((fu10 71 5 rfl).1).trans ((fu1 71 5 rfl).1))))))))))))))))))))))))
                                                          refine r_callVi C oCl12 rfl miX12_isHere mlX12_196 (ct4_X12_isHere l E (u169) 97 73 3 rfl (by decide) (by decide) rfl rfl (g) (a) (b) (24) (by omega) (by omega) (oqZ_fr fu169 rfl (oqZ_fr fu163 rfl (oqZ_fr fu157 rfl (oqZ_fr fu151 rfl (oqZ_fr fu145 rfl (oqZ_fr fu139 rfl (oqZ_fr fu133 rfl (oqZ_fr fu126 rfl (oqZ_fr fu119 rfl (oqZ_fr fu112 rfl (oqZ_fr fu105 rfl (oqZ_fr fu98 rfl (oqZ_fr fu92 rfl (oqZ_fr fu84 rfl (oqZ_fr fu76 rfl (oqZ_fr fu68 rfl (oqZ_fr fu60 rfl (oqZ_fr fu52 rfl (oqZ_fr fu46 rfl (oqZ_fr fu37 rfl (oqZ_fr fu28 rfl (oqZ_fr fu19 rfl (oqZ_fr fu10 rfl (oqZ_fr fu1 rfl hp2)))))))))))))))))))))))) (by omega) (by omega) rfl (oqWd_at (oqWd_fr fu169 rfl (oqWd_fr fu163 rfl (oqWd_fr fu157 rfl (oqWd_fr fu151 rfl (oqWd_fr fu145 rfl (oqWd_fr fu139 rfl (oqWd_fr fu133 rfl (oqWd_fr fu126 rfl (oqWd_fr fu119 rfl (oqWd_fr fu112 rfl (oqWd_fr fu105 rfl (oqWd_fr fu98 rfl (oqWd_fr fu92 rfl (oqWd_fr fu84 rfl (oqWd_fr fu76 rfl (oqWd_fr fu68 rfl (oqWd_fr fu60 rfl (oqWd_fr fu52 rfl (oqWd_fr fu46 rfl (oqWd_fr fu37 rfl (oqWd_fr fu28 rfl (oqWd_fr fu19 rfl (oqWd_fr fu10 rfl (oqWd_fr fu1 rfl hp4)))))))))))))))))))))))) 24 (by decide)) (by omega)) (by decide) rfl rfl rfl (Nat.le_of_ble_eq_true rfl) (oDec_at oX12_isOwnHere 147 rfl) (fun r176 u175 pu175 fu175 => ?_)
                                                          try dsimp only at pu175
                                                          try simp only [lk173, lk174] at pu175
                                                          obtain ⟨pu175_0, pu175_1, pu175_2, pu175_3, pu175_4, pu175_5, pu175_6⟩ := pu175
                                                          have rr176 := n_rng r176
                                                          have hy : r176.toInt = 1 → oqWi g a b ≠ -1 := fun h9 => by (have h8 := (oqWi_is (g := g) (a := a) (b := b) (i := 24) (by decide)).mpr (pu175_4 h9); omega)
                                                          refine r_if_ne C 326 (oDec_at oX12_isOwnHere 148 rfl) (by decide) (fun cd177 => ?_) (fun cd177 => ?_)
                                                          · skip
                                                            replace pu175_4 := pu175_4 (by omega)
                                                            clear pu175_5
                                                            replace pu175_6 := pu175_6 (by omega)
                                                            refine r_iconst C (oDec_at oX12_isOwnHere 154 rfl) (v := k1) (by rw [qk1]; rfl) ?_
                                                            refine r_goto C (tgt := 331) (oDec_at oX12_isOwnHere 155 rfl) (by decide) ?_
                                                            refine r_istore_n C (lv' := [(0, .ref (oad E 71)), (1, .int k1)]) [1, 0] (oDec_at oX12_isOwnHere 157 rfl) rfl (by decide) rfl ?_
                                                            refine r_iload_n C (j := 1) (oDec_at oX12_isOwnHere 158 rfl) rfl rfl ?_
                                                            exact r_zret C (n_bool (by omega)) (oDec_at oX12_isOwnHere 159 rfl) ⟨_, rfl, ⟨by omega, by omega, by first | exact fun _ => hy (by omega) | (intro h; exfalso; omega), by omega, by omega⟩⟩
                                                          · skip
                                                            clear pu175_4
                                                            replace pu175_5 := pu175_5 (by omega)
                                                            clear pu175_6
                                                            clear hy
                                                            have hz24 : oqWi g a b ≠ 24 := fun h9 => by (have h8 := (oqWi_is (g := g) (a := a) (b := b) (i := 24) (by decide)).mp h9; omega)
                                                            refine r_aload_n C (j := 0) (oDec_at oX12_isOwnHere 149 rfl) rfl rfl ?_
                                                            refine r_aload_n C (j := 0) (oDec_at oX12_isOwnHere 150 rfl) rfl rfl ?_
                                                            refine r_getF (k := 35) (b := 98) C oCl12 rfl (by decide) flX12_93 rfl rfl rfl (oDec_at oX12_isOwnHere 151 rfl) ?_
                                                            have lk178 : ((u175).1 71 4).toInt = (s.1 71 4).toInt := congrArg Int32.toInt (((fu175 71 4 rfl).1).trans (((fu169 71 4 rfl).1).trans (((fu163 71 4 rfl).1).trans (((fu157 71 4 rfl).1).trans (((fu151 71 4 rfl).1).trans (((fu145 71 4 rfl).1).trans (((fu139 71 4 rfl).1).trans (((fu133 71 4 rfl).1).trans (((fu126 71 4 rfl).1).trans (((fu119 71 4 rfl).1).trans (((fu112 71 4 rfl).1).trans (((fu105 71 4 rfl).1).trans (((fu98 71 4 rfl).1).trans (((fu92 71 4 rfl).1).trans (((fu84 71 4 rfl).1).trans (((fu76 71 4 rfl).1).trans (((fu68 71 4 rfl).1).trans (((fu60 71 4 rfl).1).trans (((fu52 71 4 rfl).1).trans (((fu46 71 4 rfl).1).trans (((fu37 71 4 rfl).1).trans (((fu28 71 4 rfl).1).trans (((fu19 71 4 rfl).1).trans (((fu10 71 4 rfl).1).trans ((fu1 71 4 rfl).1)))))))))))))))))))))))))
                                                            have lk179 : ((u175).1 71 5).toInt = (s.1 71 5).toInt := congrArg Int32.toInt (((fu175 71 5 rfl).1).trans (((fu169 71 5 rfl).1).trans (((fu163 71 5 rfl).1).trans (((fu157 71 5 rfl).1).trans (((fu151 71 5 rfl).1).trans (((fu145 71 5 rfl).1).trans (((fu139 71 5 rfl).1).trans (((fu133 71 5 rfl).1).trans (((fu126 71 5 rfl).1).trans (((fu119 71 5 rfl).1).trans (((fu112 71 5 rfl).1).trans (((fu105 71 5 rfl).1).trans (((fu98 71 5 rfl).1).trans (((fu92 71 5 rfl).1).trans (((fu84 71 5 rfl).1).trans (((fu76 71 5 rfl).1).trans (((fu68 71 5 rfl).1).trans (((fu60 71 5 rfl).1).trans (((fu52 71 5 rfl).1).trans (((fu46 71 5 rfl).1).trans (((fu37 71 5 rfl).1).trans (((fu28 71 5 rfl).1).trans (((fu19 71 5 rfl).1).trans (((fu10 71 5 rfl).1).trans ((fu1 71 5 rfl).1)))))))))))))))))))))))))
                                                            refine r_callVi C oCl12 rfl miX12_isHere mlX12_196 (ct4_X12_isHere l E (u175) 98 74 3 rfl (by decide) (by decide) rfl rfl (g) (a) (b) (25) (by omega) (by omega) (oqZ_fr fu175 rfl (oqZ_fr fu169 rfl (oqZ_fr fu163 rfl (oqZ_fr fu157 rfl (oqZ_fr fu151 rfl (oqZ_fr fu145 rfl (oqZ_fr fu139 rfl (oqZ_fr fu133 rfl (oqZ_fr fu126 rfl (oqZ_fr fu119 rfl (oqZ_fr fu112 rfl (oqZ_fr fu105 rfl (oqZ_fr fu98 rfl (oqZ_fr fu92 rfl (oqZ_fr fu84 rfl (oqZ_fr fu76 rfl (oqZ_fr fu68 rfl (oqZ_fr fu60 rfl (oqZ_fr fu52 rfl (oqZ_fr fu46 rfl (oqZ_fr fu37 rfl (oqZ_fr fu28 rfl (oqZ_fr fu19 rfl (oqZ_fr fu10 rfl (oqZ_fr fu1 rfl hp2))))))))))))))))))))))))) (by omega) (by omega) rfl (oqWd_at (oqWd_fr fu175 rfl (oqWd_fr fu169 rfl (oqWd_fr fu163 rfl (oqWd_fr fu157 rfl (oqWd_fr fu151 rfl (oqWd_fr fu145 rfl (oqWd_fr fu139 rfl (oqWd_fr fu133 rfl (oqWd_fr fu126 rfl (oqWd_fr fu119 rfl (oqWd_fr fu112 rfl (oqWd_fr fu105 rfl (oqWd_fr fu98 rfl (oqWd_fr fu92 rfl (oqWd_fr fu84 rfl (oqWd_fr fu76 rfl (oqWd_fr fu68 rfl (oqWd_fr fu60 rfl (oqWd_fr fu52 rfl (oqWd_fr fu46 rfl (oqWd_fr fu37 rfl (oqWd_fr fu28 rfl (oqWd_fr fu19 rfl (oqWd_fr fu10 rfl (oqWd_fr fu1 rfl hp4))))))))))))))))))))))))) 25 (by decide)) (by omega)) (by decide) rfl rfl rfl (Nat.le_of_ble_eq_true rfl) (oDec_at oX12_isOwnHere 152 rfl) (fun r181 u180 pu180 fu180 => ?_)
                                                            try dsimp only at pu180
                                                            try simp only [lk178, lk179] at pu180
                                                            obtain ⟨pu180_0, pu180_1, pu180_2, pu180_3, pu180_4, pu180_5, pu180_6⟩ := pu180
                                                            have rr181 := n_rng r181
                                                            have hy : r181.toInt = 1 → oqWi g a b ≠ -1 := fun h9 => by (have h8 := (oqWi_is (g := g) (a := a) (b := b) (i := 25) (by decide)).mpr (pu180_4 h9); omega)
                                                            refine r_if_eq C 330 (oDec_at oX12_isOwnHere 153 rfl) (by decide) (fun cd182 => ?_) (fun cd182 => ?_)
                                                            · skip
                                                              clear pu180_4
                                                              replace pu180_5 := pu180_5 (by omega)
                                                              clear pu180_6
                                                              clear hy
                                                              have hz25 : oqWi g a b ≠ 25 := fun h9 => by (have h8 := (oqWi_is (g := g) (a := a) (b := b) (i := 25) (by decide)).mp h9; omega)
                                                              refine r_iconst C (oDec_at oX12_isOwnHere 156 rfl) (v := k0) (by rw [qk0]; rfl) ?_
                                                              refine r_istore_n C (lv' := [(0, .ref (oad E 71)), (1, .int k0)]) [1, 0] (oDec_at oX12_isOwnHere 157 rfl) rfl (by decide) rfl ?_
                                                              refine r_iload_n C (j := 1) (oDec_at oX12_isOwnHere 158 rfl) rfl rfl ?_
                                                              exact r_zret C (n_bool (by omega)) (oDec_at oX12_isOwnHere 159 rfl) ⟨_, rfl, ⟨by omega, by omega, by first | exact fun _ => hy (by omega) | (intro h; exfalso; omega), by omega, by omega⟩⟩
                                                            · skip
                                                              replace pu180_4 := pu180_4 (by omega)
                                                              clear pu180_5
                                                              replace pu180_6 := pu180_6 (by omega)
                                                              refine r_iconst C (oDec_at oX12_isOwnHere 154 rfl) (v := k1) (by rw [qk1]; rfl) ?_
                                                              refine r_goto C (tgt := 331) (oDec_at oX12_isOwnHere 155 rfl) (by decide) ?_
                                                              refine r_istore_n C (lv' := [(0, .ref (oad E 71)), (1, .int k1)]) [1, 0] (oDec_at oX12_isOwnHere 157 rfl) rfl (by decide) rfl ?_
                                                              refine r_iload_n C (j := 1) (oDec_at oX12_isOwnHere 158 rfl) rfl rfl ?_
                                                              exact r_zret C (n_bool (by omega)) (oDec_at oX12_isOwnHere 159 rfl) ⟨_, rfl, ⟨by omega, by omega, by first | exact fun _ => hy (by omega) | (intro h; exfalso; omega), by omega, by omega⟩⟩
                                                      · skip
                                                        replace pu169_4 := pu169_4 (by omega)
                                                        clear pu169_5
                                                        replace pu169_6 := pu169_6 (by omega)
                                                        refine r_iconst C (oDec_at oX12_isOwnHere 138 rfl) (v := k1) (by rw [qk1]; rfl) ?_
                                                        refine r_goto C (tgt := 299) (oDec_at oX12_isOwnHere 139 rfl) (by decide) ?_
                                                        refine r_istore_n C (lv' := [(0, .ref (oad E 71)), (1, .int k1)]) [1, 0] (oDec_at oX12_isOwnHere 141 rfl) rfl (by decide) rfl ?_
                                                        refine r_iload_n C (j := 1) (oDec_at oX12_isOwnHere 142 rfl) rfl rfl ?_
                                                        refine r_if_ne C 326 (oDec_at oX12_isOwnHere 143 rfl) (by decide) (fun cd183 => ?_) (fun cd183 => ?_)
                                                        · skip
                                                          refine r_iconst C (oDec_at oX12_isOwnHere 154 rfl) (v := k1) (by rw [qk1]; rfl) ?_
                                                          refine r_goto C (tgt := 331) (oDec_at oX12_isOwnHere 155 rfl) (by decide) ?_
                                                          refine r_istore_n C (lv' := [(0, .ref (oad E 71)), (1, .int k1)]) [1, 0] (oDec_at oX12_isOwnHere 157 rfl) rfl (by decide) rfl ?_
                                                          refine r_iload_n C (j := 1) (oDec_at oX12_isOwnHere 158 rfl) rfl rfl ?_
                                                          exact r_zret C (n_bool (by omega)) (oDec_at oX12_isOwnHere 159 rfl) ⟨_, rfl, ⟨by omega, by omega, by first | exact fun _ => hy (by omega) | (intro h; exfalso; omega), by omega, by omega⟩⟩
                                                        · omega
                                        · skip
                                          replace pu133_4 := pu133_4 (by omega)
                                          clear pu133_5
                                          replace pu133_6 := pu133_6 (by omega)
                                          refine r_iconst C (oDec_at oX12_isOwnHere 102 rfl) (v := k1) (by rw [qk1]; rfl) ?_
                                          refine r_goto C (tgt := 223) (oDec_at oX12_isOwnHere 103 rfl) (by decide) ?_
                                          refine r_istore_n C (lv' := [(0, .ref (oad E 71)), (1, .int k1)]) [1, 0] (oDec_at oX12_isOwnHere 105 rfl) rfl (by decide) rfl ?_
                                          refine r_iload_n C (j := 1) (oDec_at oX12_isOwnHere 106 rfl) rfl rfl ?_
                                          refine r_if_ne C 294 (oDec_at oX12_isOwnHere 107 rfl) (by decide) (fun cd184 => ?_) (fun cd184 => ?_)
                                          · skip
                                            refine r_iconst C (oDec_at oX12_isOwnHere 138 rfl) (v := k1) (by rw [qk1]; rfl) ?_
                                            refine r_goto C (tgt := 299) (oDec_at oX12_isOwnHere 139 rfl) (by decide) ?_
                                            refine r_istore_n C (lv' := [(0, .ref (oad E 71)), (1, .int k1)]) [1, 0] (oDec_at oX12_isOwnHere 141 rfl) rfl (by decide) rfl ?_
                                            refine r_iload_n C (j := 1) (oDec_at oX12_isOwnHere 142 rfl) rfl rfl ?_
                                            refine r_if_ne C 326 (oDec_at oX12_isOwnHere 143 rfl) (by decide) (fun cd185 => ?_) (fun cd185 => ?_)
                                            · skip
                                              refine r_iconst C (oDec_at oX12_isOwnHere 154 rfl) (v := k1) (by rw [qk1]; rfl) ?_
                                              refine r_goto C (tgt := 331) (oDec_at oX12_isOwnHere 155 rfl) (by decide) ?_
                                              refine r_istore_n C (lv' := [(0, .ref (oad E 71)), (1, .int k1)]) [1, 0] (oDec_at oX12_isOwnHere 157 rfl) rfl (by decide) rfl ?_
                                              refine r_iload_n C (j := 1) (oDec_at oX12_isOwnHere 158 rfl) rfl rfl ?_
                                              exact r_zret C (n_bool (by omega)) (oDec_at oX12_isOwnHere 159 rfl) ⟨_, rfl, ⟨by omega, by omega, by first | exact fun _ => hy (by omega) | (intro h; exfalso; omega), by omega, by omega⟩⟩
                                            · omega
                                          · omega
                          · skip
                            replace pu92_4 := pu92_4 (by omega)
                            clear pu92_5
                            replace pu92_6 := pu92_6 (by omega)
                            refine r_iconst C (oDec_at oX12_isOwnHere 66 rfl) (v := k1) (by rw [qk1]; rfl) ?_
                            refine r_goto C (tgt := 147) (oDec_at oX12_isOwnHere 67 rfl) (by decide) ?_
                            refine r_istore_n C (lv' := [(0, .ref (oad E 71)), (1, .int k1)]) [1, 0] (oDec_at oX12_isOwnHere 69 rfl) rfl (by decide) rfl ?_
                            refine r_iload_n C (j := 1) (oDec_at oX12_isOwnHere 70 rfl) rfl rfl ?_
                            refine r_if_ne C 218 (oDec_at oX12_isOwnHere 71 rfl) (by decide) (fun cd186 => ?_) (fun cd186 => ?_)
                            · skip
                              refine r_iconst C (oDec_at oX12_isOwnHere 102 rfl) (v := k1) (by rw [qk1]; rfl) ?_
                              refine r_goto C (tgt := 223) (oDec_at oX12_isOwnHere 103 rfl) (by decide) ?_
                              refine r_istore_n C (lv' := [(0, .ref (oad E 71)), (1, .int k1)]) [1, 0] (oDec_at oX12_isOwnHere 105 rfl) rfl (by decide) rfl ?_
                              refine r_iload_n C (j := 1) (oDec_at oX12_isOwnHere 106 rfl) rfl rfl ?_
                              refine r_if_ne C 294 (oDec_at oX12_isOwnHere 107 rfl) (by decide) (fun cd187 => ?_) (fun cd187 => ?_)
                              · skip
                                refine r_iconst C (oDec_at oX12_isOwnHere 138 rfl) (v := k1) (by rw [qk1]; rfl) ?_
                                refine r_goto C (tgt := 299) (oDec_at oX12_isOwnHere 139 rfl) (by decide) ?_
                                refine r_istore_n C (lv' := [(0, .ref (oad E 71)), (1, .int k1)]) [1, 0] (oDec_at oX12_isOwnHere 141 rfl) rfl (by decide) rfl ?_
                                refine r_iload_n C (j := 1) (oDec_at oX12_isOwnHere 142 rfl) rfl rfl ?_
                                refine r_if_ne C 326 (oDec_at oX12_isOwnHere 143 rfl) (by decide) (fun cd188 => ?_) (fun cd188 => ?_)
                                · skip
                                  refine r_iconst C (oDec_at oX12_isOwnHere 154 rfl) (v := k1) (by rw [qk1]; rfl) ?_
                                  refine r_goto C (tgt := 331) (oDec_at oX12_isOwnHere 155 rfl) (by decide) ?_
                                  refine r_istore_n C (lv' := [(0, .ref (oad E 71)), (1, .int k1)]) [1, 0] (oDec_at oX12_isOwnHere 157 rfl) rfl (by decide) rfl ?_
                                  refine r_iload_n C (j := 1) (oDec_at oX12_isOwnHere 158 rfl) rfl rfl ?_
                                  exact r_zret C (n_bool (by omega)) (oDec_at oX12_isOwnHere 159 rfl) ⟨_, rfl, ⟨by omega, by omega, by first | exact fun _ => hy (by omega) | (intro h; exfalso; omega), by omega, by omega⟩⟩
                                · omega
                              · omega
                            · omega
            · skip
              replace pu46_4 := pu46_4 (by omega)
              clear pu46_5
              replace pu46_6 := pu46_6 (by omega)
              refine r_iconst C (oDec_at oX12_isOwnHere 30 rfl) (v := k1) (by rw [qk1]; rfl) ?_
              refine r_goto C (tgt := 71) (oDec_at oX12_isOwnHere 31 rfl) (by decide) ?_
              refine r_istore_n C (lv' := [(0, .ref (oad E 71)), (1, .int k1)]) [1, 0] (oDec_at oX12_isOwnHere 33 rfl) rfl (by decide) rfl ?_
              refine r_iload_n C (j := 1) (oDec_at oX12_isOwnHere 34 rfl) rfl rfl ?_
              refine r_if_ne C 142 (oDec_at oX12_isOwnHere 35 rfl) (by decide) (fun cd189 => ?_) (fun cd189 => ?_)
              · skip
                refine r_iconst C (oDec_at oX12_isOwnHere 66 rfl) (v := k1) (by rw [qk1]; rfl) ?_
                refine r_goto C (tgt := 147) (oDec_at oX12_isOwnHere 67 rfl) (by decide) ?_
                refine r_istore_n C (lv' := [(0, .ref (oad E 71)), (1, .int k1)]) [1, 0] (oDec_at oX12_isOwnHere 69 rfl) rfl (by decide) rfl ?_
                refine r_iload_n C (j := 1) (oDec_at oX12_isOwnHere 70 rfl) rfl rfl ?_
                refine r_if_ne C 218 (oDec_at oX12_isOwnHere 71 rfl) (by decide) (fun cd190 => ?_) (fun cd190 => ?_)
                · skip
                  refine r_iconst C (oDec_at oX12_isOwnHere 102 rfl) (v := k1) (by rw [qk1]; rfl) ?_
                  refine r_goto C (tgt := 223) (oDec_at oX12_isOwnHere 103 rfl) (by decide) ?_
                  refine r_istore_n C (lv' := [(0, .ref (oad E 71)), (1, .int k1)]) [1, 0] (oDec_at oX12_isOwnHere 105 rfl) rfl (by decide) rfl ?_
                  refine r_iload_n C (j := 1) (oDec_at oX12_isOwnHere 106 rfl) rfl rfl ?_
                  refine r_if_ne C 294 (oDec_at oX12_isOwnHere 107 rfl) (by decide) (fun cd191 => ?_) (fun cd191 => ?_)
                  · skip
                    refine r_iconst C (oDec_at oX12_isOwnHere 138 rfl) (v := k1) (by rw [qk1]; rfl) ?_
                    refine r_goto C (tgt := 299) (oDec_at oX12_isOwnHere 139 rfl) (by decide) ?_
                    refine r_istore_n C (lv' := [(0, .ref (oad E 71)), (1, .int k1)]) [1, 0] (oDec_at oX12_isOwnHere 141 rfl) rfl (by decide) rfl ?_
                    refine r_iload_n C (j := 1) (oDec_at oX12_isOwnHere 142 rfl) rfl rfl ?_
                    refine r_if_ne C 326 (oDec_at oX12_isOwnHere 143 rfl) (by decide) (fun cd192 => ?_) (fun cd192 => ?_)
                    · skip
                      refine r_iconst C (oDec_at oX12_isOwnHere 154 rfl) (v := k1) (by rw [qk1]; rfl) ?_
                      refine r_goto C (tgt := 331) (oDec_at oX12_isOwnHere 155 rfl) (by decide) ?_
                      refine r_istore_n C (lv' := [(0, .ref (oad E 71)), (1, .int k1)]) [1, 0] (oDec_at oX12_isOwnHere 157 rfl) rfl (by decide) rfl ?_
                      refine r_iload_n C (j := 1) (oDec_at oX12_isOwnHere 158 rfl) rfl rfl ?_
                      exact r_zret C (n_bool (by omega)) (oDec_at oX12_isOwnHere 159 rfl) ⟨_, rfl, ⟨by omega, by omega, by first | exact fun _ => hy (by omega) | (intro h; exfalso; omega), by omega, by omega⟩⟩
                    · omega
                  · omega
                · omega
              · omega
set_option maxHeartbeats 4000000 in
set_option maxRecDepth 100000 in
theorem ct7_X12_name (l : Launch) (E : oE) (s : oS)  (g : Int → Int) (a : Int) (hp0 : (s.1 71 2).toInt = a) (hp1 : (s.1 71 4).toInt = a) (hp2 : oqZ g s) (hp3 : (s.1 71 5).toInt = 0) (hp4 : oqWd s) (hp5 : ¬ (97 ≤ g a ∧ g a ≤ 122)) (hp6 : oqBP s) : oMet l 4 yX12_name cX12_name 3 (some .long) [(12, 2), (12, 4), (12, 5), (12, 6), (12, 36)] E s [.ref (oad E 71)] (oPl (fun r u => ((s.1 71 2).toInt ≤ (u.1 71 2).toInt) ∧ ((u.1 71 5).toInt = 0 → (97 ≤ g (oqSk g a) ∧ g (oqSk g a) ≤ 122 ∧ oqWi g a a = -1 ∧ oqWe g (oqSk g a) - oqSk g a ≤ 6 ∧ r.toInt = oqVf (oqN6 g (oqSk g a)) 6 ∧ (u.1 71 2).toInt = oqWe g (oqSk g a) ∧ (u.1 71 4).toInt = oqWe g (oqSk g a) ∧ (u.1 71 36).toInt = oqSk g a)) ∧ ((u.1 71 5).toInt ≠ 0 → ((u.1 71 5).toInt = 1 ∧ ((¬ (97 ≤ g (oqSk g a) ∧ g (oqSk g a) ≤ 122) ∧ (u.1 71 6).toInt = oqSk g a) ∨ (97 ≤ g (oqSk g a) ∧ g (oqSk g a) ≤ 122 ∧ oqWi g a a ≠ -1 ∧ (u.1 71 6).toInt = oqSk g a) ∨ (97 ≤ g (oqSk g a) ∧ g (oqSk g a) ≤ 122 ∧ oqWi g a a = -1 ∧ 6 < oqWe g (oqSk g a) - oqSk g a ∧ (u.1 71 6).toInt = oqSk g a + 6)))) ∧ (oqBP u))) := by
  refine oMet.of (lv := [(0, .ref (oad E 71))]) (by decide +kernel) (Nat.le_of_ble_eq_true rfl) rfl (fun J C hT => ?_)
  have C : oC l 4 cX12_name RX12 3 (some .long) [(12, 2), (12, 4), (12, 5), (12, 6), (12, 36)] E s (oPl (fun r u => ((s.1 71 2).toInt ≤ (u.1 71 2).toInt) ∧ ((u.1 71 5).toInt = 0 → (97 ≤ g (oqSk g a) ∧ g (oqSk g a) ≤ 122 ∧ oqWi g a a = -1 ∧ oqWe g (oqSk g a) - oqSk g a ≤ 6 ∧ r.toInt = oqVf (oqN6 g (oqSk g a)) 6 ∧ (u.1 71 2).toInt = oqWe g (oqSk g a) ∧ (u.1 71 4).toInt = oqWe g (oqSk g a) ∧ (u.1 71 36).toInt = oqSk g a)) ∧ ((u.1 71 5).toInt ≠ 0 → ((u.1 71 5).toInt = 1 ∧ ((¬ (97 ≤ g (oqSk g a) ∧ g (oqSk g a) ≤ 122) ∧ (u.1 71 6).toInt = oqSk g a) ∨ (97 ≤ g (oqSk g a) ∧ g (oqSk g a) ≤ 122 ∧ oqWi g a a ≠ -1 ∧ (u.1 71 6).toInt = oqSk g a) ∨ (97 ≤ g (oqSk g a) ∧ g (oqSk g a) ≤ 122 ∧ oqWi g a a = -1 ∧ 6 < oqWe g (oqSk g a) - oqSk g a ∧ (u.1 71 6).toInt = oqSk g a + 6)))) ∧ (oqBP u))) J := C
  obtain ⟨k1, qk1⟩ : ∃ z : Int32, z = 1 := ⟨_, rfl⟩
  have ek1 : k1.toInt = 1 := by rw [qk1]; rfl
  obtain ⟨k6, qk6⟩ : ∃ z : Int32, z = 6 := ⟨_, rfl⟩
  have ek6 : k6.toInt = 6 := by rw [qk6]; rfl
  obtain ⟨j0, qj0⟩ : ∃ z : Int64, z = 0 := ⟨_, rfl⟩
  have ej0 : j0.toInt = 0 := by rw [qj0]; rfl
  obtain ⟨j1, qj1⟩ : ∃ z : Int64, z = 1 := ⟨_, rfl⟩
  have ej1 : j1.toInt = 1 := by rw [qj1]; rfl
  obtain ⟨j27, qj27⟩ : ∃ z : Int64, z = 27 := ⟨_, rfl⟩
  have ej27 : j27.toInt = 27 := by rw [qj27]; rfl
  obtain ⟨j97, qj97⟩ : ∃ z : Int64, z = 97 := ⟨_, rfl⟩
  have ej97 : j97.toInt = 97 := by rw [qj97]; rfl
  have htE : (0 : Int) ≤ (s.1 71 3).toInt ∧ (s.1 71 3).toInt ≤ 1600 := hT.1 71 3
  have hgE := oqSk_ge g a
  have key : ∀ n : Nat, (∀ (t : oS) (x1 : Int64), (oqZ g t) → ((t.1 71 36).toInt = oqSk g a ∧ oqSk g a ≤ (t.1 71 2).toInt ∧ 0 ≤ oqSk g a ∧ a ≤ oqSk g a) → ((t.1 71 5).toInt = 0) → (oqBP t) → (97 ≤ g (oqSk g a) ∧ g (oqSk g a) ≤ 122 ∧ oqWi g a a = -1) → (oqRun g (oqSk g a) (t.1 71 2).toInt) → (x1.toInt = oqVa6 g (oqSk g a) ((t.1 71 2).toInt - oqSk g a)) → (((t.1 71 2).toInt = oqSk g a ∧ x1.toInt = 0) ∨ ((t.1 71 2).toInt = oqSk g a + 1 ∧ x1.toInt ≤ 26) ∨ ((t.1 71 2).toInt = oqSk g a + 2 ∧ x1.toInt ≤ 728) ∨ ((t.1 71 2).toInt = oqSk g a + 3 ∧ x1.toInt ≤ 19682) ∨ ((t.1 71 2).toInt = oqSk g a + 4 ∧ x1.toInt ≤ 531440) ∨ ((t.1 71 2).toInt = oqSk g a + 5 ∧ x1.toInt ≤ 14348906) ∨ ((t.1 71 2).toInt = oqSk g a + 6 ∧ x1.toInt ≤ 387420488)) → (0 ≤ x1.toInt) → ((t.1 71 3).toInt = (s.1 71 3).toInt) → 1601 - (t.1 71 2).toInt ≤ (n : Int) → J t 58 [(0, .ref (oad E 71)), (1, .long x1)] []) := by
    intro n
    induction n using Nat.strongRecOn with
    | _ n ih =>
      skip
      · intro t x1  iv0 iv1 iv2 iv3 iv4 iv5 iv6 iv7 iv8 iv9 hmu
        refine r_aload_n C (j := 0) (oDec_at oX12_name 30 rfl) rfl rfl ?_
        obtain ⟨v1, ev1⟩ : ∃ z : Int32, (t).1 71 2 = z := ⟨_, rfl⟩
        have gv1 : (t.1 71 2).toInt = v1.toInt := congrArg Int32.toInt (ev1)
        refine r_geti (k := 2) (lo := 0) (hi := 1600) C v1 oCl12 rfl (by decide) flX12_179 rfl rfl (ev1) rfl rfl (oDec_at oX12_name 31 rfl) (fun b2 b2h => ?_)
        refine r_aload_n C (j := 0) (oDec_at oX12_name 32 rfl) rfl rfl ?_
        obtain ⟨v3, ev3⟩ : ∃ z : Int32, (t).1 71 3 = z := ⟨_, rfl⟩
        have gv3 : (t.1 71 3).toInt = v3.toInt := congrArg Int32.toInt (ev3)
        refine r_geti (k := 3) (lo := 0) (hi := 1600) C v3 oCl12 rfl (by decide) flX12_182 rfl rfl (ev3) rfl rfl (oDec_at oX12_name 33 rfl) (fun b4 b4h => ?_)
        refine r_icmp_ge C 145 (oDec_at oX12_name 34 rfl) (by decide) (fun cd5 => ?_) (fun cd5 => ?_)
        · skip
          have hnl : ¬ (97 ≤ g (t.1 71 2).toInt ∧ g (t.1 71 2).toInt ≤ 122) := by first | omega | (have h9 := oqZ_no iv0 (a := (t.1 71 2).toInt) (by omega); omega)
          have hwe := oqWe_of (g := g) (a := oqSk g a) (b := (t.1 71 2).toInt) (by omega) iv5 hnl (by omega)
          have hve := oqVa6_end (g := g) (A := oqSk g a) (n := (t.1 71 2).toInt - oqSk g a) (by omega) (by omega) (by omega)
          refine r_aload_n C (j := 0) (oDec_at oX12_name 78 rfl) rfl rfl ?_
          refine r_aload_n C (j := 0) (oDec_at oX12_name 79 rfl) rfl rfl ?_
          refine r_geti (k := 2) (lo := 0) (hi := 1600) C v1 oCl12 rfl (by decide) flX12_179 rfl rfl (ev1) rfl rfl (oDec_at oX12_name 80 rfl) (fun _ _ => ?_)
          refine r_puti (k := 4) (lo := (-1)) (hi := 1600) C oCl12 rfl (by decide) flX12_193 rfl rfl rfl rfl rfl rfl rfl rfl ⟨by omega, by omega⟩ (oDec_at oX12_name 81 rfl) ?_
          refine r_lload_n C (j := 1) (oDec_at oX12_name 82 rfl) rfl rfl ?_
          have lk6 : (((pI t 71 4 v1)).1 71 2).toInt = v1.toInt := congrArg Int32.toInt (((pI_ne (a := 71) (b := 2) (c := 71) (k := 4) _ _ (Or.inr (by decide)))).trans (ev1))
          have lk7 : (((pI t 71 4 v1)).1 71 5).toInt = (t.1 71 5).toInt := congrArg Int32.toInt ((pI_ne (a := 71) (b := 5) (c := 71) (k := 4) _ _ (Or.inr (by decide))))
          have lk8 : (((pI t 71 4 v1)).1 71 2).toInt = v1.toInt := congrArg Int32.toInt (((pI_ne (a := 71) (b := 2) (c := 71) (k := 4) _ _ (Or.inr (by decide)))).trans (ev1))
          have lk9 : (((pI t 71 4 v1)).1 71 4).toInt = v1.toInt := congrArg Int32.toInt ((pI_self _ _ _ _))
          have lk10 : (((pI t 71 4 v1)).1 71 36).toInt = (t.1 71 36).toInt := congrArg Int32.toInt ((pI_ne (a := 71) (b := 36) (c := 71) (k := 4) _ _ (Or.inr (by decide))))
          have lk11 : (((pI t 71 4 v1)).1 71 5).toInt = (t.1 71 5).toInt := congrArg Int32.toInt ((pI_ne (a := 71) (b := 5) (c := 71) (k := 4) _ _ (Or.inr (by decide))))
          have lk12 : (((pI t 71 4 v1)).1 71 6).toInt = (t.1 71 6).toInt := congrArg Int32.toInt ((pI_ne (a := 71) (b := 6) (c := 71) (k := 4) _ _ (Or.inr (by decide))))
          exact r_lret C (oDec_at oX12_name 83 rfl) ⟨_, rfl, by omega, by omega, by omega, by omega⟩
        · skip
          refine r_aload_n C (j := 0) (oDec_at oX12_name 35 rfl) rfl rfl ?_
          refine r_getF (k := 0) (b := 72) C oCl12 rfl (by decide) flX12_7 rfl rfl rfl (oDec_at oX12_name 36 rfl) ?_
          refine r_aload_n C (j := 0) (oDec_at oX12_name 37 rfl) rfl rfl ?_
          refine r_geti (k := 2) (lo := 0) (hi := 1600) C v1 oCl12 rfl (by decide) flX12_179 rfl rfl (ev1) rfl rfl (oDec_at oX12_name 38 rfl) (fun _ _ => ?_)
          have hg77 := oqZ_at iv0 ev1 (a := (t.1 71 2).toInt) (by omega) (by omega) (by omega)
          obtain ⟨v14, ev14⟩ : ∃ z : Int32, (t).1 72 v1.toNatClampNeg = z := ⟨_, rfl⟩
          have gv14 : (t.1 72 v1.toNatClampNeg).toInt = v14.toInt := congrArg Int32.toInt (ev14)
          refine r_iald (n := 1600) (lo := 0) (hi := 255) C v14 rfl (by decide) rfl rfl ⟨by omega, by omega⟩ (by decide) ev14 rfl rfl (oDec_at oX12_name 39 rfl) (fun b13 b13h => ?_)
          have la15 : ((t).1 72 ((t).1 71 2).toNatClampNeg).toInt = v14.toInt := by rw [ev1, ev14]
          refine r_callSi C miX12_isLetter mlX12_189 (ct_X12_isLetter l E (t) v14 ) (by decide) rfl rfl rfl (Nat.le_of_ble_eq_true rfl) (oDec_at oX12_name 40 rfl) (fun r17 u16 pu16 fu16 => ?_)
          try dsimp only at pu16
          obtain ⟨pu16_0, pu16_1⟩ := pu16
          have hxu16 := oFr_nil fu16; subst hxu16
          have rr17 := n_rng r17
          refine r_pc C 81 rfl ?_
          refine r_if_eq C 145 (oDec_at oX12_name 41 rfl) (by decide) (fun cd18 => ?_) (fun cd18 => ?_)
          · skip
            have hnl : ¬ (97 ≤ g (t.1 71 2).toInt ∧ g (t.1 71 2).toInt ≤ 122) := by first | omega | (have h9 := oqZ_no iv0 (a := (t.1 71 2).toInt) (by omega); omega)
            have hwe := oqWe_of (g := g) (a := oqSk g a) (b := (t.1 71 2).toInt) (by omega) iv5 hnl (by omega)
            have hve := oqVa6_end (g := g) (A := oqSk g a) (n := (t.1 71 2).toInt - oqSk g a) (by omega) (by omega) (by omega)
            refine r_aload_n C (j := 0) (oDec_at oX12_name 78 rfl) rfl rfl ?_
            refine r_aload_n C (j := 0) (oDec_at oX12_name 79 rfl) rfl rfl ?_
            refine r_geti (k := 2) (lo := 0) (hi := 1600) C v1 oCl12 rfl (by decide) flX12_179 rfl rfl (ev1) rfl rfl (oDec_at oX12_name 80 rfl) (fun _ _ => ?_)
            refine r_puti (k := 4) (lo := (-1)) (hi := 1600) C oCl12 rfl (by decide) flX12_193 rfl rfl rfl rfl rfl rfl rfl rfl ⟨by omega, by omega⟩ (oDec_at oX12_name 81 rfl) ?_
            refine r_lload_n C (j := 1) (oDec_at oX12_name 82 rfl) rfl rfl ?_
            have lk19 : (((pI t 71 4 v1)).1 71 2).toInt = v1.toInt := congrArg Int32.toInt (((pI_ne (a := 71) (b := 2) (c := 71) (k := 4) _ _ (Or.inr (by decide)))).trans (ev1))
            have lk20 : (((pI t 71 4 v1)).1 71 5).toInt = (t.1 71 5).toInt := congrArg Int32.toInt ((pI_ne (a := 71) (b := 5) (c := 71) (k := 4) _ _ (Or.inr (by decide))))
            have lk21 : (((pI t 71 4 v1)).1 71 2).toInt = v1.toInt := congrArg Int32.toInt (((pI_ne (a := 71) (b := 2) (c := 71) (k := 4) _ _ (Or.inr (by decide)))).trans (ev1))
            have lk22 : (((pI t 71 4 v1)).1 71 4).toInt = v1.toInt := congrArg Int32.toInt ((pI_self _ _ _ _))
            have lk23 : (((pI t 71 4 v1)).1 71 36).toInt = (t.1 71 36).toInt := congrArg Int32.toInt ((pI_ne (a := 71) (b := 36) (c := 71) (k := 4) _ _ (Or.inr (by decide))))
            have lk24 : (((pI t 71 4 v1)).1 71 5).toInt = (t.1 71 5).toInt := congrArg Int32.toInt ((pI_ne (a := 71) (b := 5) (c := 71) (k := 4) _ _ (Or.inr (by decide))))
            have lk25 : (((pI t 71 4 v1)).1 71 6).toInt = (t.1 71 6).toInt := congrArg Int32.toInt ((pI_ne (a := 71) (b := 6) (c := 71) (k := 4) _ _ (Or.inr (by decide))))
            exact r_lret C (oDec_at oX12_name 83 rfl) ⟨_, rfl, by omega, by omega, by omega, by omega⟩
          · skip
            refine r_aload_n C (j := 0) (oDec_at oX12_name 42 rfl) rfl rfl ?_
            refine r_geti (k := 2) (lo := 0) (hi := 1600) C v1 oCl12 rfl (by decide) flX12_179 rfl rfl (ev1) rfl rfl (oDec_at oX12_name 43 rfl) (fun _ _ => ?_)
            refine r_aload_n C (j := 0) (oDec_at oX12_name 44 rfl) rfl rfl ?_
            obtain ⟨v26, ev26⟩ : ∃ z : Int32, (t).1 71 36 = z := ⟨_, rfl⟩
            have gv26 : (t.1 71 36).toInt = v26.toInt := congrArg Int32.toInt (ev26)
            have rv26 := n_rng v26
            refine r_geti (k := 36) (lo := (-2147483648)) (hi := 2147483647) C v26 oCl12 rfl (by decide) flX12_224 rfl rfl (ev26) rfl rfl (oDec_at oX12_name 45 rfl) (fun _ _ => ?_)
            obtain ⟨v27, ev27⟩ : ∃ z : Int32, z = v1 - v26 := ⟨_, rfl⟩
            have hv27 : v27.toInt = v1.toInt - v26.toInt := n_sub ev27 (by omega) (by omega)
            refine r_isub C v27 (oDec_at oX12_name 46 rfl) ev27 ?_
            refine r_bipush C (oDec_at oX12_name 47 rfl) (v := k6) (by rw [qk6]; rfl) ?_
            refine r_pc C 95 rfl ?_
            refine r_icmp_ne C 109 (oDec_at oX12_name 48 rfl) (by decide) (fun cd28 => ?_) (fun cd28 => ?_)
            · skip
              refine r_ldc2 C (v := j27) (by rw [qj27]; exact klX12_227) (oDec_at oX12_name 56 rfl) ?_
              refine r_lload_n C (j := 1) (oDec_at oX12_name 57 rfl) rfl rfl ?_
              obtain ⟨v29, ev29⟩ : ∃ z : Int64, z = j27 * x1 := ⟨_, rfl⟩
              have hv29 := n_lmulK (k := 27) ev29 ej27 (by omega) (by omega)
              refine r_lmul C v29 (oDec_at oX12_name 58 rfl) ev29 ?_
              refine r_aload_n C (j := 0) (oDec_at oX12_name 59 rfl) rfl rfl ?_
              refine r_getF (k := 0) (b := 72) C oCl12 rfl (by decide) flX12_7 rfl rfl rfl (oDec_at oX12_name 60 rfl) ?_
              refine r_aload_n C (j := 0) (oDec_at oX12_name 61 rfl) rfl rfl ?_
              refine r_pc C 119 rfl ?_
              refine r_geti (k := 2) (lo := 0) (hi := 1600) C v1 oCl12 rfl (by decide) flX12_179 rfl rfl (ev1) rfl rfl (oDec_at oX12_name 62 rfl) (fun _ _ => ?_)
              have hg122 := oqZ_at iv0 ev1 (a := (t.1 71 2).toInt) (by omega) (by omega) (by omega)
              refine r_iald (n := 1600) (lo := 0) (hi := 255) C v14 rfl (by decide) rfl rfl ⟨by omega, by omega⟩ (by decide) (ev14) rfl rfl (oDec_at oX12_name 63 rfl) (fun b30 b30h => ?_)
              have la31 : ((t).1 72 ((t).1 71 2).toNatClampNeg).toInt = v14.toInt := by rw [ev1, (ev14)]
              obtain ⟨v32, ev32⟩ : ∃ z : Int64, v14.toInt64 = z := ⟨_, rfl⟩
              have hv32 : v32.toInt = v14.toInt := n_i2l ev32
              refine r_i2l C v32 (oDec_at oX12_name 64 rfl) ev32 ?_
              obtain ⟨v33, ev33⟩ : ∃ z : Int64, z = v29 + v32 := ⟨_, rfl⟩
              have hv33 := n_ladd ev33 (by omega) (by omega)
              refine r_ladd C v33 (oDec_at oX12_name 65 rfl) ev33 ?_
              refine r_ldc2 C (v := j97) (by rw [qj97]; exact klX12_229) (oDec_at oX12_name 66 rfl) ?_
              obtain ⟨v34, ev34⟩ : ∃ z : Int64, z = v33 - j97 := ⟨_, rfl⟩
              have hv34 := n_lsub ev34 (by omega) (by omega)
              refine r_lsub C v34 (oDec_at oX12_name 67 rfl) ev34 ?_
              refine r_pc C 129 rfl ?_
              refine r_lconst C (oDec_at oX12_name 68 rfl) (v := j1) (by rw [qj1]; rfl) ?_
              obtain ⟨v35, ev35⟩ : ∃ z : Int64, z = v34 + j1 := ⟨_, rfl⟩
              have hv35 := n_ladd ev35 (by omega) (by omega)
              refine r_ladd C v35 (oDec_at oX12_name 69 rfl) ev35 ?_
              refine r_lstore_n C (lv' := [(0, .ref (oad E 71)), (1, .long v35)]) [1, 0] (oDec_at oX12_name 70 rfl) rfl (by decide) rfl ?_
              refine r_aload_n C (j := 0) (oDec_at oX12_name 71 rfl) rfl rfl ?_
              refine r_dup C (oDec_at oX12_name 72 rfl) rfl ?_
              refine r_geti (k := 2) (lo := 0) (hi := 1600) C v1 oCl12 rfl (by decide) flX12_179 rfl rfl (ev1) rfl rfl (oDec_at oX12_name 73 rfl) (fun _ _ => ?_)
              refine r_pc C 137 rfl ?_
              refine r_iconst C (oDec_at oX12_name 74 rfl) (v := k1) (by rw [qk1]; rfl) ?_
              obtain ⟨v36, ev36⟩ : ∃ z : Int32, z = v1 + k1 := ⟨_, rfl⟩
              have hv36 : v36.toInt = v1.toInt + k1.toInt := n_add ev36 (by omega) (by omega)
              refine r_iadd C v36 (oDec_at oX12_name 75 rfl) ev36 ?_
              refine r_puti (k := 2) (lo := 0) (hi := 1600) C oCl12 rfl (by decide) flX12_179 rfl rfl rfl rfl rfl rfl rfl rfl ⟨by omega, by omega⟩ (oDec_at oX12_name 76 rfl) ?_
              refine r_goto C (tgt := 58) (oDec_at oX12_name 77 rfl) (by decide) ?_
              have lk37 : (((pI t 71 2 v36)).1 71 36).toInt = v26.toInt := congrArg Int32.toInt (((pI_ne (a := 71) (b := 36) (c := 71) (k := 2) _ _ (Or.inr (by decide)))).trans (ev26))
              have lk38 : (((pI t 71 2 v36)).1 71 2).toInt = v36.toInt := congrArg Int32.toInt ((pI_self _ _ _ _))
              have lk39 : (((pI t 71 2 v36)).1 71 5).toInt = (t.1 71 5).toInt := congrArg Int32.toInt ((pI_ne (a := 71) (b := 5) (c := 71) (k := 2) _ _ (Or.inr (by decide))))
              have lk40 : (((pI t 71 2 v36)).1 71 2).toInt = v36.toInt := congrArg Int32.toInt ((pI_self _ _ _ _))
              have lk41 : (((pI t 71 2 v36)).1 71 2).toInt = v36.toInt := congrArg Int32.toInt ((pI_self _ _ _ _))
              have lk42 : (((pI t 71 2 v36)).1 71 2).toInt = v36.toInt := congrArg Int32.toInt ((pI_self _ _ _ _))
              have lk43 : (((pI t 71 2 v36)).1 71 3).toInt = v3.toInt := congrArg Int32.toInt (((pI_ne (a := 71) (b := 3) (c := 71) (k := 2) _ _ (Or.inr (by decide)))).trans (ev3))
              have lk44 : (((pI t 71 2 v36)).1 71 2).toInt = v36.toInt := congrArg Int32.toInt ((pI_self _ _ _ _))
              exact (ih (n - 1) (by omega)) ((pI t 71 2 v36)) v35  (oqZ_fr (oFr_oneI (q := 12) (m := 2) rfl (by rfl)) rfl iv0) (by omega) (by omega) (oqBP_fr (oFr_oneI (q := 12) (m := 2) rfl (by rfl)) rfl iv3) (by omega) (by first | exact oqRun_nx iv5 (by omega) (by omega) | (rw [show (((pI t 71 2 v36)).1 71 2).toInt = oqSk g a by omega]; exact oqRun_0)) (by first | (rw [oqVa6_nx (g := g) (A := oqSk g a) (n := (t.1 71 2).toInt - oqSk g a) (b := (t.1 71 2).toInt) (by omega) (by omega) (by omega) (by omega)]; omega) | (rw [oqVa6_0 (by omega)]; omega)) (by omega) (by omega) (by omega) (by omega)
            · skip
              refine r_aload_n C (j := 0) (oDec_at oX12_name 49 rfl) rfl rfl ?_
              refine r_iconst C (oDec_at oX12_name 50 rfl) (v := k1) (by rw [qk1]; rfl) ?_
              refine r_aload_n C (j := 0) (oDec_at oX12_name 51 rfl) rfl rfl ?_
              have hlong := oqWe_gt iv5 (by omega) (by omega) (by omega)
              refine r_geti (k := 2) (lo := 0) (hi := 1600) C v1 oCl12 rfl (by decide) flX12_179 rfl rfl (ev1) rfl rfl (oDec_at oX12_name 52 rfl) (fun _ _ => ?_)
              refine r_callVv C oCl12 rfl miX12_fail mlX12_203 (ct7_X12_fail l E (t) k1 v1 (by omega) iv3) (by decide) rfl rfl rfl (Nat.le_of_ble_eq_true rfl) (oDec_at oX12_name 53 rfl) (fun u45 pu45 fu45 => ?_)
              try dsimp only at pu45
              obtain ⟨pu45_0, pu45_1, pu45_2⟩ := pu45
              refine r_lconst C (oDec_at oX12_name 54 rfl) (v := j0) (by rw [qj0]; rfl) ?_
              refine r_pc C 108 rfl ?_
              have lk47 : ((u45).1 71 2).toInt = v1.toInt := congrArg Int32.toInt (((fu45 71 2 rfl).1).trans (ev1))
              have lk48 : ((u45).1 71 2).toInt = v1.toInt := congrArg Int32.toInt (((fu45 71 2 rfl).1).trans (ev1))
              have lk49 : ((u45).1 71 4).toInt = (t.1 71 4).toInt := congrArg Int32.toInt ((fu45 71 4 rfl).1)
              have lk50 : ((u45).1 71 36).toInt = v26.toInt := congrArg Int32.toInt (((fu45 71 36 rfl).1).trans (ev26))
              exact r_lret C (oDec_at oX12_name 55 rfl) ⟨_, rfl, by omega, by omega, by omega, by omega⟩
  refine r_aload_n C (j := 0) (oDec_at oX12_name 0 rfl) rfl rfl ?_
  obtain ⟨v51, ev51⟩ : ∃ z : Int32, (s).1 71 5 = z := ⟨_, rfl⟩
  have gv51 : (s.1 71 5).toInt = v51.toInt := congrArg Int32.toInt (ev51)
  have rv51 := n_rng v51
  refine r_geti (k := 5) (lo := (-2147483648)) (hi := 2147483647) C v51 oCl12 rfl (by decide) flX12_173 rfl rfl (ev51) rfl rfl (oDec_at oX12_name 1 rfl) (fun _ _ => ?_)
  refine r_if_eq C 9 (oDec_at oX12_name 2 rfl) (by decide) (fun cd52 => ?_) (fun cd52 => ?_)
  · skip
    refine r_aload_n C (j := 0) (oDec_at oX12_name 5 rfl) rfl rfl ?_
    refine r_callVi C oCl12 rfl miX12_look mlX12_185 (ct4_X12_look l E (s)  (g) (a) (by omega) hp2) (by decide) rfl rfl rfl (Nat.le_of_ble_eq_true rfl) (oDec_at oX12_name 6 rfl) (fun r54 u53 pu53 fu53 => ?_)
    try dsimp only at pu53
    obtain ⟨pu53_0, pu53_1, pu53_2, pu53_3, pu53_4, pu53_5⟩ := pu53
    have rr54 := n_rng r54
    have hss := oqSk_sk (g := g) (a := a) pu53_3
    refine r_callSi C miX12_isLetter mlX12_189 (ct_X12_isLetter l E (u53) r54 ) (by decide) rfl rfl rfl (Nat.le_of_ble_eq_true rfl) (oDec_at oX12_name 7 rfl) (fun r56 u55 pu55 fu55 => ?_)
    try dsimp only at pu55
    obtain ⟨pu55_0, pu55_1⟩ := pu55
    have hxu55 := oFr_nil fu55; subst hxu55
    have rr56 := n_rng r56
    refine r_if_eq C 37 (oDec_at oX12_name 8 rfl) (by decide) (fun cd57 => ?_) (fun cd57 => ?_)
    · skip
      refine r_aload_n C (j := 0) (oDec_at oX12_name 17 rfl) rfl rfl ?_
      refine r_iconst C (oDec_at oX12_name 18 rfl) (v := k1) (by rw [qk1]; rfl) ?_
      refine r_aload_n C (j := 0) (oDec_at oX12_name 19 rfl) rfl rfl ?_
      obtain ⟨v58, ev58⟩ : ∃ z : Int32, (u53).1 71 2 = z := ⟨_, rfl⟩
      have gv58 : (u53.1 71 2).toInt = v58.toInt := congrArg Int32.toInt (ev58)
      refine r_geti (k := 2) (lo := 0) (hi := 1600) C v58 oCl12 rfl (by decide) flX12_179 rfl rfl (ev58) rfl rfl (oDec_at oX12_name 20 rfl) (fun b59 b59h => ?_)
      have lk60 : ((u53).1 71 5).toInt = v51.toInt := congrArg Int32.toInt (((fu53 71 5 rfl).1).trans (ev51))
      have lk61 : ((u53).1 71 5).toInt = v51.toInt := congrArg Int32.toInt (((fu53 71 5 rfl).1).trans (ev51))
      have lk62 : ((u53).1 71 6).toInt = (s.1 71 6).toInt := congrArg Int32.toInt ((fu53 71 6 rfl).1)
      refine r_callVv C oCl12 rfl miX12_fail mlX12_203 (ct7_X12_fail l E (u53) k1 v58 (by omega) (oqBP_fr fu53 rfl hp6)) (by decide) rfl rfl rfl (Nat.le_of_ble_eq_true rfl) (oDec_at oX12_name 21 rfl) (fun u63 pu63 fu63 => ?_)
      try dsimp only at pu63
      try simp only [lk60, lk61, lk62] at pu63
      obtain ⟨pu63_0, pu63_1, pu63_2⟩ := pu63
      refine r_lconst C (oDec_at oX12_name 22 rfl) (v := j0) (by rw [qj0]; rfl) ?_
      refine r_pc C 47 rfl ?_
      have lk65 : ((u63).1 71 2).toInt = v58.toInt := congrArg Int32.toInt (((fu63 71 2 rfl).1).trans (ev58))
      have lk66 : ((u63).1 71 2).toInt = v58.toInt := congrArg Int32.toInt (((fu63 71 2 rfl).1).trans (ev58))
      have lk67 : ((u63).1 71 4).toInt = (s.1 71 4).toInt := congrArg Int32.toInt (((fu63 71 4 rfl).1).trans ((fu53 71 4 rfl).1))
      have lk68 : ((u63).1 71 36).toInt = (s.1 71 36).toInt := congrArg Int32.toInt (((fu63 71 36 rfl).1).trans ((fu53 71 36 rfl).1))
      exact r_lret C (oDec_at oX12_name 23 rfl) ⟨_, rfl, by omega, by omega, by omega, by omega⟩
    · skip
      have hna : oqSk g a ≠ a := fun h9 => by have h8 := congrArg g h9; omega
      refine r_aload_n C (j := 0) (oDec_at oX12_name 9 rfl) rfl rfl ?_
      obtain ⟨v69, ev69⟩ : ∃ z : Int32, (u53).1 71 2 = z := ⟨_, rfl⟩
      have gv69 : (u53.1 71 2).toInt = v69.toInt := congrArg Int32.toInt (ev69)
      refine r_geti (k := 2) (lo := 0) (hi := 1600) C v69 oCl12 rfl (by decide) flX12_179 rfl rfl (ev69) rfl rfl (oDec_at oX12_name 10 rfl) (fun b70 b70h => ?_)
      refine r_aload_n C (j := 0) (oDec_at oX12_name 11 rfl) rfl rfl ?_
      obtain ⟨v71, ev71⟩ : ∃ z : Int32, (u53).1 71 4 = z := ⟨_, rfl⟩
      have gv71 : (s.1 71 4).toInt = v71.toInt := congrArg Int32.toInt (((fu53 71 4 rfl).1).symm.trans ev71)
      have ggv71 : ((u53).1 71 4).toInt = v71.toInt := congrArg Int32.toInt ev71
      refine r_geti (k := 4) (lo := (-1)) (hi := 1600) C v71 oCl12 rfl (by decide) flX12_193 rfl rfl (ev71) rfl rfl (oDec_at oX12_name 12 rfl) (fun b72 b72h => ?_)
      refine r_icmp_eq C 37 (oDec_at oX12_name 13 rfl) (by decide) (fun cd73 => ?_) (fun cd73 => ?_)
      · skip
        refine r_aload_n C (j := 0) (oDec_at oX12_name 17 rfl) rfl rfl ?_
        refine r_iconst C (oDec_at oX12_name 18 rfl) (v := k1) (by rw [qk1]; rfl) ?_
        refine r_aload_n C (j := 0) (oDec_at oX12_name 19 rfl) rfl rfl ?_
        refine r_geti (k := 2) (lo := 0) (hi := 1600) C v69 oCl12 rfl (by decide) flX12_179 rfl rfl (ev69) rfl rfl (oDec_at oX12_name 20 rfl) (fun _ _ => ?_)
        have lk74 : ((u53).1 71 5).toInt = v51.toInt := congrArg Int32.toInt (((fu53 71 5 rfl).1).trans (ev51))
        have lk75 : ((u53).1 71 5).toInt = v51.toInt := congrArg Int32.toInt (((fu53 71 5 rfl).1).trans (ev51))
        have lk76 : ((u53).1 71 6).toInt = (s.1 71 6).toInt := congrArg Int32.toInt ((fu53 71 6 rfl).1)
        refine r_callVv C oCl12 rfl miX12_fail mlX12_203 (ct7_X12_fail l E (u53) k1 v69 (by omega) (oqBP_fr fu53 rfl hp6)) (by decide) rfl rfl rfl (Nat.le_of_ble_eq_true rfl) (oDec_at oX12_name 21 rfl) (fun u77 pu77 fu77 => ?_)
        try dsimp only at pu77
        try simp only [lk74, lk75, lk76] at pu77
        obtain ⟨pu77_0, pu77_1, pu77_2⟩ := pu77
        refine r_lconst C (oDec_at oX12_name 22 rfl) (v := j0) (by rw [qj0]; rfl) ?_
        refine r_pc C 47 rfl ?_
        have lk79 : ((u77).1 71 2).toInt = v69.toInt := congrArg Int32.toInt (((fu77 71 2 rfl).1).trans (ev69))
        have lk80 : ((u77).1 71 2).toInt = v69.toInt := congrArg Int32.toInt (((fu77 71 2 rfl).1).trans (ev69))
        have lk81 : ((u77).1 71 4).toInt = v71.toInt := congrArg Int32.toInt (((fu77 71 4 rfl).1).trans (ev71))
        have lk82 : ((u77).1 71 36).toInt = (s.1 71 36).toInt := congrArg Int32.toInt (((fu77 71 36 rfl).1).trans ((fu53 71 36 rfl).1))
        exact r_lret C (oDec_at oX12_name 23 rfl) ⟨_, rfl, by omega, by omega, by omega, by omega⟩
      · skip
        refine r_aload_n C (j := 0) (oDec_at oX12_name 14 rfl) rfl rfl ?_
        have lk83 : ((u53).1 71 2).toInt = v69.toInt := congrArg Int32.toInt (ev69)
        have lk84 : ((u53).1 71 4).toInt = v71.toInt := congrArg Int32.toInt (ev71)
        have lk85 : ((u53).1 71 5).toInt = v51.toInt := congrArg Int32.toInt (((fu53 71 5 rfl).1).trans (ev51))
        have lk86 : ((u53).1 71 2).toInt = v69.toInt := congrArg Int32.toInt (ev69)
        refine r_callVi C oCl12 rfl miX12_isOwnHere mlX12_220 (ct5_X12_isOwnHere l E (u53)  (g) (oqSk g a) (a) (by omega) (by omega) (oqZ_fr fu53 rfl hp2) (by omega) (oqWd_fr fu53 rfl hp4) (by omega)) (by decide) rfl rfl rfl (Nat.le_of_ble_eq_true rfl) (oDec_at oX12_name 15 rfl) (fun r88 u87 pu87 fu87 => ?_)
        try dsimp only at pu87
        try simp only [lk83, lk84, lk85, lk86] at pu87
        obtain ⟨pu87_0, pu87_1, pu87_2, pu87_3, pu87_4⟩ := pu87
        have rr88 := n_rng r88
        have hws := oqWi_sk (b := a) hss
        refine r_if_eq C 48 (oDec_at oX12_name 16 rfl) (by decide) (fun cd89 => ?_) (fun cd89 => ?_)
        · skip
          clear pu87_2
          replace pu87_3 := pu87_3 (by omega)
          refine r_aload_n C (j := 0) (oDec_at oX12_name 24 rfl) rfl rfl ?_
          refine r_aload_n C (j := 0) (oDec_at oX12_name 25 rfl) rfl rfl ?_
          obtain ⟨v90, ev90⟩ : ∃ z : Int32, (u87).1 71 2 = z := ⟨_, rfl⟩
          have gv90 : (u87.1 71 2).toInt = v90.toInt := congrArg Int32.toInt (ev90)
          refine r_geti (k := 2) (lo := 0) (hi := 1600) C v90 oCl12 rfl (by decide) flX12_179 rfl rfl (ev90) rfl rfl (oDec_at oX12_name 26 rfl) (fun b91 b91h => ?_)
          refine r_puti (k := 36) (lo := (-2147483648)) (hi := 2147483647) C oCl12 rfl (by decide) flX12_224 rfl rfl rfl rfl rfl rfl rfl rfl (n_rng _) (oDec_at oX12_name 27 rfl) ?_
          refine r_lconst C (oDec_at oX12_name 28 rfl) (v := j0) (by rw [qj0]; rfl) ?_
          refine r_lstore_n C (lv' := [(0, .ref (oad E 71)), (1, .long j0)]) [1, 0] (oDec_at oX12_name 29 rfl) rfl (by decide) rfl ?_
          have lk92 : (((pI u87 71 36 v90)).1 71 36).toInt = v90.toInt := congrArg Int32.toInt ((pI_self _ _ _ _))
          have lk93 : (((pI u87 71 36 v90)).1 71 2).toInt = v90.toInt := congrArg Int32.toInt (((pI_ne (a := 71) (b := 2) (c := 71) (k := 36) _ _ (Or.inr (by decide)))).trans (ev90))
          have lk94 : (((pI u87 71 36 v90)).1 71 5).toInt = v51.toInt := congrArg Int32.toInt (((pI_ne (a := 71) (b := 5) (c := 71) (k := 36) _ _ (Or.inr (by decide)))).trans (((fu87 71 5 rfl).1).trans (((fu53 71 5 rfl).1).trans (ev51))))
          have lk95 : (((pI u87 71 36 v90)).1 71 2).toInt = v90.toInt := congrArg Int32.toInt (((pI_ne (a := 71) (b := 2) (c := 71) (k := 36) _ _ (Or.inr (by decide)))).trans (ev90))
          have lk96 : (((pI u87 71 36 v90)).1 71 2).toInt = v90.toInt := congrArg Int32.toInt (((pI_ne (a := 71) (b := 2) (c := 71) (k := 36) _ _ (Or.inr (by decide)))).trans (ev90))
          have lk97 : (((pI u87 71 36 v90)).1 71 2).toInt = v90.toInt := congrArg Int32.toInt (((pI_ne (a := 71) (b := 2) (c := 71) (k := 36) _ _ (Or.inr (by decide)))).trans (ev90))
          have lk98 : (((pI u87 71 36 v90)).1 71 3).toInt = (s.1 71 3).toInt := congrArg Int32.toInt (((pI_ne (a := 71) (b := 3) (c := 71) (k := 36) _ _ (Or.inr (by decide)))).trans (((fu87 71 3 rfl).1).trans ((fu53 71 3 rfl).1)))
          have lk99 : (((pI u87 71 36 v90)).1 71 2).toInt = v90.toInt := congrArg Int32.toInt (((pI_ne (a := 71) (b := 2) (c := 71) (k := 36) _ _ (Or.inr (by decide)))).trans (ev90))
          exact (key (1601 - (((pI u87 71 36 v90)).1 71 2).toInt).toNat) ((pI u87 71 36 v90)) j0  (oqZ_fr (oFr_oneI (q := 12) (m := 36) rfl (by rfl)) rfl (oqZ_fr fu87 rfl (oqZ_fr fu53 rfl hp2))) (by omega) (by omega) (oqBP_fr (oFr_oneI (q := 12) (m := 36) rfl (by rfl)) rfl (oqBP_fr fu87 rfl (oqBP_fr fu53 rfl hp6))) (by omega) (by first | (rw [show (((pI u87 71 36 v90)).1 71 2).toInt = oqSk g a by omega]; exact oqRun_0)) (by first | (rw [oqVa6_nx (g := g) (A := oqSk g a) (n := (t.1 71 2).toInt - oqSk g a) (b := (t.1 71 2).toInt) (by omega) (by omega) (by omega) (by omega)]; omega) | (rw [oqVa6_0 (by omega)]; omega)) (by omega) (by omega) (by omega) (by omega)
        · skip
          replace pu87_2 := pu87_2 (by omega)
          clear pu87_3
          refine r_aload_n C (j := 0) (oDec_at oX12_name 17 rfl) rfl rfl ?_
          refine r_iconst C (oDec_at oX12_name 18 rfl) (v := k1) (by rw [qk1]; rfl) ?_
          refine r_aload_n C (j := 0) (oDec_at oX12_name 19 rfl) rfl rfl ?_
          obtain ⟨v100, ev100⟩ : ∃ z : Int32, (u87).1 71 2 = z := ⟨_, rfl⟩
          have gv100 : (u87.1 71 2).toInt = v100.toInt := congrArg Int32.toInt (ev100)
          refine r_geti (k := 2) (lo := 0) (hi := 1600) C v100 oCl12 rfl (by decide) flX12_179 rfl rfl (ev100) rfl rfl (oDec_at oX12_name 20 rfl) (fun b101 b101h => ?_)
          have lk102 : ((u87).1 71 5).toInt = v51.toInt := congrArg Int32.toInt (((fu87 71 5 rfl).1).trans (((fu53 71 5 rfl).1).trans (ev51)))
          have lk103 : ((u87).1 71 5).toInt = v51.toInt := congrArg Int32.toInt (((fu87 71 5 rfl).1).trans (((fu53 71 5 rfl).1).trans (ev51)))
          have lk104 : ((u87).1 71 6).toInt = (s.1 71 6).toInt := congrArg Int32.toInt (((fu87 71 6 rfl).1).trans ((fu53 71 6 rfl).1))
          refine r_callVv C oCl12 rfl miX12_fail mlX12_203 (ct7_X12_fail l E (u87) k1 v100 (by omega) (oqBP_fr fu87 rfl (oqBP_fr fu53 rfl hp6))) (by decide) rfl rfl rfl (Nat.le_of_ble_eq_true rfl) (oDec_at oX12_name 21 rfl) (fun u105 pu105 fu105 => ?_)
          try dsimp only at pu105
          try simp only [lk102, lk103, lk104] at pu105
          obtain ⟨pu105_0, pu105_1, pu105_2⟩ := pu105
          refine r_lconst C (oDec_at oX12_name 22 rfl) (v := j0) (by rw [qj0]; rfl) ?_
          refine r_pc C 47 rfl ?_
          have lk107 : ((u105).1 71 2).toInt = v100.toInt := congrArg Int32.toInt (((fu105 71 2 rfl).1).trans (ev100))
          have lk108 : ((u105).1 71 2).toInt = v100.toInt := congrArg Int32.toInt (((fu105 71 2 rfl).1).trans (ev100))
          have lk109 : ((u105).1 71 4).toInt = v71.toInt := congrArg Int32.toInt (((fu105 71 4 rfl).1).trans (((fu87 71 4 rfl).1).trans (ev71)))
          have lk110 : ((u105).1 71 36).toInt = (s.1 71 36).toInt := congrArg Int32.toInt (((fu105 71 36 rfl).1).trans (((fu87 71 36 rfl).1).trans ((fu53 71 36 rfl).1)))
          exact r_lret C (oDec_at oX12_name 23 rfl) ⟨_, rfl, by omega, by omega, by omega, by omega⟩
  · skip
    refine r_lconst C (oDec_at oX12_name 3 rfl) (v := j0) (by rw [qj0]; rfl) ?_
    have lk111 : ((s).1 71 5).toInt = v51.toInt := congrArg Int32.toInt (ev51)
    have lk112 : ((s).1 71 5).toInt = v51.toInt := congrArg Int32.toInt (ev51)
    exact r_lret C (oDec_at oX12_name 4 rfl) ⟨_, rfl, by omega, by omega, by omega, by omega⟩
