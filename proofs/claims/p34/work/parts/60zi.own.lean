set_option maxHeartbeats 4000000 in
set_option maxRecDepth 100000 in
theorem ct5_X12_isOwnHere (l : Launch) (E : oE) (s : oS)  (g : Int → Int) (a : Int) (b : Int) (hp0 : (s.1 71 2).toInt = a) (hp1 : (s.1 71 4).toInt = b) (hp2 : oqZ g s) (hp3 : (s.1 71 5).toInt = 0) (hp4 : oqWd s) (hp5 : oqSk g a = a) : oMet l 3 yX12_isOwnHere cX12_isOwnHere 2 (some .boolean) [(12, 2)] E s [.ref (oad E 71)] (oPi (fun r u => (0 ≤ r.toInt ∧ r.toInt ≤ 1) ∧ ((s.1 71 2).toInt ≤ (u.1 71 2).toInt) ∧ (r.toInt = 1 → oqWi g a b ≠ -1) ∧ (r.toInt = 0 → oqWi g a b = -1) ∧ ((u.1 71 2).toInt = a))) := by
  refine oMet.of (lv := [(0, .ref (oad E 71))]) (by decide +kernel) (Nat.le_of_ble_eq_true rfl) rfl (fun J C hT => ?_)
  have C : oC l 3 cX12_isOwnHere RX12 2 (some .boolean) [(12, 2)] E s (oPi (fun r u => (0 ≤ r.toInt ∧ r.toInt ≤ 1) ∧ ((s.1 71 2).toInt ≤ (u.1 71 2).toInt) ∧ (r.toInt = 1 → oqWi g a b ≠ -1) ∧ (r.toInt = 0 → oqWi g a b = -1) ∧ ((u.1 71 2).toInt = a))) J := C
  obtain ⟨k0, qk0⟩ : ∃ z : Int32, z = 0 := ⟨_, rfl⟩
  have ek0 : k0.toInt = 0 := by rw [qk0]; rfl
  obtain ⟨k1, qk1⟩ : ∃ z : Int32, z = 1 := ⟨_, rfl⟩
  have ek1 : k1.toInt = 1 := by rw [qk1]; rfl
  have key : ∀ n : Nat, (∀ (t : oS) (x1 : Int32), (oqZ g t) → (oqWd t) → ((t.1 71 2).toInt = a) → ((t.1 71 4).toInt = b) → ((t.1 71 5).toInt = 0) → (0 ≤ x1.toInt ∧ x1.toInt ≤ 1) → (x1.toInt = 1 → oqWi g a b ≠ -1) → (x1.toInt = 0 → ∀ i : Nat, i < 6 → oqH g a b i = 0) → (4 : Int) ≤ (n : Int) → J t 72 [(0, .ref (oad E 71)), (1, .int x1)] []) ∧ (∀ (t : oS) (x1 : Int32), (oqZ g t) → (oqWd t) → ((t.1 71 2).toInt = a) → ((t.1 71 4).toInt = b) → ((t.1 71 5).toInt = 0) → (0 ≤ x1.toInt ∧ x1.toInt ≤ 1) → (x1.toInt = 1 → oqWi g a b ≠ -1) → (x1.toInt = 0 → ∀ i : Nat, i < 12 → oqH g a b i = 0) → (3 : Int) ≤ (n : Int) → J t 148 [(0, .ref (oad E 71)), (1, .int x1)] []) ∧ (∀ (t : oS) (x1 : Int32), (oqZ g t) → (oqWd t) → ((t.1 71 2).toInt = a) → ((t.1 71 4).toInt = b) → ((t.1 71 5).toInt = 0) → (0 ≤ x1.toInt ∧ x1.toInt ≤ 1) → (x1.toInt = 1 → oqWi g a b ≠ -1) → (x1.toInt = 0 → ∀ i : Nat, i < 18 → oqH g a b i = 0) → (2 : Int) ≤ (n : Int) → J t 224 [(0, .ref (oad E 71)), (1, .int x1)] []) ∧ (∀ (t : oS) (x1 : Int32), (oqZ g t) → (oqWd t) → ((t.1 71 2).toInt = a) → ((t.1 71 4).toInt = b) → ((t.1 71 5).toInt = 0) → (0 ≤ x1.toInt ∧ x1.toInt ≤ 1) → (x1.toInt = 1 → oqWi g a b ≠ -1) → (x1.toInt = 0 → ∀ i : Nat, i < 24 → oqH g a b i = 0) → (1 : Int) ≤ (n : Int) → J t 300 [(0, .ref (oad E 71)), (1, .int x1)] []) := by
    intro n
    induction n using Nat.strongRecOn with
    | _ n ih =>
      refine ⟨?_, ?_, ?_, ?_⟩
      · intro t x1  iv0 iv1 iv2 iv3 iv4 iv5 iv6 iv7 hmu
        have rx1 := n_rng x1
        refine r_iload_n C (j := 1) (oDec_at oX12_isOwnHere 34 rfl) rfl rfl ?_
        refine r_if_ne C 142 (oDec_at oX12_isOwnHere 35 rfl) (by decide) (fun cd1 => ?_) (fun cd1 => ?_)
        · skip
          refine r_iconst C (oDec_at oX12_isOwnHere 66 rfl) (v := k1) (by rw [qk1]; rfl) ?_
          refine r_goto C (tgt := 147) (oDec_at oX12_isOwnHere 67 rfl) (by decide) ?_
          refine r_istore_n C (lv' := [(0, .ref (oad E 71)), (1, .int k1)]) [1, 0] (oDec_at oX12_isOwnHere 69 rfl) rfl (by decide) rfl ?_
          exact (ih (n - 1) (by omega)).2.1 (t) k1  iv0 iv1 (by omega) (by omega) (by omega) (by omega) (by first | exact fun _ => hy (by omega) | (intro h9; exfalso; omega) | exact fun _ => iv6 (by omega)) (by first | (intro h9; exfalso; omega) | exact fun _ i hi => by (by_cases h9 : i < 6; exact iv7 (by omega) i h9; (have h8 : i = 6 ∨ i = 7 ∨ i = 8 ∨ i = 9 ∨ i = 10 ∨ i = 11 := (by omega); rcases h8 with h8 | h8 | h8 | h8 | h8 | h8 <;> (rw [h8]; assumption)))) (by omega)
        · skip
          refine r_aload_n C (j := 0) (oDec_at oX12_isOwnHere 36 rfl) rfl rfl ?_
          refine r_aload_n C (j := 0) (oDec_at oX12_isOwnHere 37 rfl) rfl rfl ?_
          refine r_getF (k := 16) (b := 79) C oCl12 rfl (by decide) flX12_36 rfl rfl rfl (oDec_at oX12_isOwnHere 38 rfl) ?_
          refine r_callVi C oCl12 rfl miX12_isHere mlX12_196 (ct4_X12_isHere l E (t) 79 55 4 rfl (by decide) (by decide) rfl rfl (g) (a) (b) (6) (by omega) (by omega) iv0 (by omega) (by omega) rfl (oqWd_at iv1 6 (by decide)) (by omega)) (by decide) rfl rfl rfl (Nat.le_of_ble_eq_true rfl) (oDec_at oX12_isOwnHere 39 rfl) (fun r3 u2 pu2 fu2 => ?_)
          try dsimp only at pu2
          obtain ⟨pu2_0, pu2_1, pu2_2, pu2_3, pu2_4, pu2_5, pu2_6⟩ := pu2
          have rr3 := n_rng r3
          have hy : r3.toInt = 1 → oqWi g a b ≠ -1 := fun h9 => by (have h8 := (oqWi_is (g := g) (a := a) (b := b) (i := 6) (by decide)).mpr (pu2_4 h9); omega)
          refine r_if_ne C 142 (oDec_at oX12_isOwnHere 40 rfl) (by decide) (fun cd4 => ?_) (fun cd4 => ?_)
          · skip
            replace pu2_4 := pu2_4 (by omega)
            clear pu2_5
            replace pu2_6 := pu2_6 (by omega)
            refine r_iconst C (oDec_at oX12_isOwnHere 66 rfl) (v := k1) (by rw [qk1]; rfl) ?_
            refine r_goto C (tgt := 147) (oDec_at oX12_isOwnHere 67 rfl) (by decide) ?_
            refine r_istore_n C (lv' := [(0, .ref (oad E 71)), (1, .int k1)]) [1, 0] (oDec_at oX12_isOwnHere 69 rfl) rfl (by decide) rfl ?_
            have lk5 : ((u2).1 71 4).toInt = (t.1 71 4).toInt := congrArg Int32.toInt ((fu2 71 4 rfl).1)
            have lk6 : ((u2).1 71 5).toInt = (t.1 71 5).toInt := congrArg Int32.toInt ((fu2 71 5 rfl).1)
            exact (ih (n - 1) (by omega)).2.1 (u2) k1  (oqZ_fr fu2 rfl iv0) (oqWd_fr fu2 rfl iv1) (by omega) (by omega) (by omega) (by omega) (by first | exact fun _ => hy (by omega) | (intro h9; exfalso; omega) | exact fun _ => iv6 (by omega)) (by first | (intro h9; exfalso; omega) | exact fun _ i hi => by (by_cases h9 : i < 6; exact iv7 (by omega) i h9; (have h8 : i = 6 ∨ i = 7 ∨ i = 8 ∨ i = 9 ∨ i = 10 ∨ i = 11 := (by omega); rcases h8 with h8 | h8 | h8 | h8 | h8 | h8 <;> (rw [h8]; assumption)))) (by omega)
          · skip
            clear pu2_4
            replace pu2_5 := pu2_5 (by omega)
            clear pu2_6
            clear hy
            have hz6 : oqH g a b 6 = 0 := pu2_5
            clear pu2_0 pu2_2 pu2_3 pu2_5
            refine r_aload_n C (j := 0) (oDec_at oX12_isOwnHere 41 rfl) rfl rfl ?_
            refine r_aload_n C (j := 0) (oDec_at oX12_isOwnHere 42 rfl) rfl rfl ?_
            refine r_getF (k := 17) (b := 80) C oCl12 rfl (by decide) flX12_39 rfl rfl rfl (oDec_at oX12_isOwnHere 43 rfl) ?_
            have lk7 : ((u2).1 71 4).toInt = (t.1 71 4).toInt := congrArg Int32.toInt ((fu2 71 4 rfl).1)
            have lk8 : ((u2).1 71 5).toInt = (t.1 71 5).toInt := congrArg Int32.toInt ((fu2 71 5 rfl).1)
            refine r_callVi C oCl12 rfl miX12_isHere mlX12_196 (ct4_X12_isHere l E (u2) 80 56 2 rfl (by decide) (by decide) rfl rfl (g) (a) (b) (7) (by omega) (by omega) (oqZ_fr fu2 rfl iv0) (by omega) (by omega) rfl (oqWd_at (oqWd_fr fu2 rfl iv1) 7 (by decide)) (by omega)) (by decide) rfl rfl rfl (Nat.le_of_ble_eq_true rfl) (oDec_at oX12_isOwnHere 44 rfl) (fun r10 u9 pu9 fu9 => ?_)
            try dsimp only at pu9
            try simp only [lk7, lk8] at pu9
            obtain ⟨pu9_0, pu9_1, pu9_2, pu9_3, pu9_4, pu9_5, pu9_6⟩ := pu9
            have rr10 := n_rng r10
            have hy : r10.toInt = 1 → oqWi g a b ≠ -1 := fun h9 => by (have h8 := (oqWi_is (g := g) (a := a) (b := b) (i := 7) (by decide)).mpr (pu9_4 h9); omega)
            refine r_if_ne C 142 (oDec_at oX12_isOwnHere 45 rfl) (by decide) (fun cd11 => ?_) (fun cd11 => ?_)
            · skip
              replace pu9_4 := pu9_4 (by omega)
              clear pu9_5
              replace pu9_6 := pu9_6 (by omega)
              refine r_iconst C (oDec_at oX12_isOwnHere 66 rfl) (v := k1) (by rw [qk1]; rfl) ?_
              refine r_goto C (tgt := 147) (oDec_at oX12_isOwnHere 67 rfl) (by decide) ?_
              refine r_istore_n C (lv' := [(0, .ref (oad E 71)), (1, .int k1)]) [1, 0] (oDec_at oX12_isOwnHere 69 rfl) rfl (by decide) rfl ?_
              have lk12 : ((u9).1 71 4).toInt = (t.1 71 4).toInt := congrArg Int32.toInt (((fu9 71 4 rfl).1).trans ((fu2 71 4 rfl).1))
              have lk13 : ((u9).1 71 5).toInt = (t.1 71 5).toInt := congrArg Int32.toInt (((fu9 71 5 rfl).1).trans ((fu2 71 5 rfl).1))
              exact (ih (n - 1) (by omega)).2.1 (u9) k1  (oqZ_fr fu9 rfl (oqZ_fr fu2 rfl iv0)) (oqWd_fr fu9 rfl (oqWd_fr fu2 rfl iv1)) (by omega) (by omega) (by omega) (by omega) (by first | exact fun _ => hy (by omega) | (intro h9; exfalso; omega) | exact fun _ => iv6 (by omega)) (by first | (intro h9; exfalso; omega) | exact fun _ i hi => by (by_cases h9 : i < 6; exact iv7 (by omega) i h9; (have h8 : i = 6 ∨ i = 7 ∨ i = 8 ∨ i = 9 ∨ i = 10 ∨ i = 11 := (by omega); rcases h8 with h8 | h8 | h8 | h8 | h8 | h8 <;> (rw [h8]; assumption)))) (by omega)
            · skip
              clear pu9_4
              replace pu9_5 := pu9_5 (by omega)
              clear pu9_6
              clear hy
              have hz7 : oqH g a b 7 = 0 := pu9_5
              clear pu9_0 pu9_2 pu9_3 pu9_5
              refine r_aload_n C (j := 0) (oDec_at oX12_isOwnHere 46 rfl) rfl rfl ?_
              refine r_aload_n C (j := 0) (oDec_at oX12_isOwnHere 47 rfl) rfl rfl ?_
              refine r_getF (k := 18) (b := 81) C oCl12 rfl (by decide) flX12_42 rfl rfl rfl (oDec_at oX12_isOwnHere 48 rfl) ?_
              have lk14 : ((u9).1 71 4).toInt = (t.1 71 4).toInt := congrArg Int32.toInt (((fu9 71 4 rfl).1).trans ((fu2 71 4 rfl).1))
              have lk15 : ((u9).1 71 5).toInt = (t.1 71 5).toInt := congrArg Int32.toInt (((fu9 71 5 rfl).1).trans ((fu2 71 5 rfl).1))
              refine r_callVi C oCl12 rfl miX12_isHere mlX12_196 (ct4_X12_isHere l E (u9) 81 57 3 rfl (by decide) (by decide) rfl rfl (g) (a) (b) (8) (by omega) (by omega) (oqZ_fr fu9 rfl (oqZ_fr fu2 rfl iv0)) (by omega) (by omega) rfl (oqWd_at (oqWd_fr fu9 rfl (oqWd_fr fu2 rfl iv1)) 8 (by decide)) (by omega)) (by decide) rfl rfl rfl (Nat.le_of_ble_eq_true rfl) (oDec_at oX12_isOwnHere 49 rfl) (fun r17 u16 pu16 fu16 => ?_)
              try dsimp only at pu16
              try simp only [lk14, lk15] at pu16
              obtain ⟨pu16_0, pu16_1, pu16_2, pu16_3, pu16_4, pu16_5, pu16_6⟩ := pu16
              have rr17 := n_rng r17
              have hy : r17.toInt = 1 → oqWi g a b ≠ -1 := fun h9 => by (have h8 := (oqWi_is (g := g) (a := a) (b := b) (i := 8) (by decide)).mpr (pu16_4 h9); omega)
              refine r_if_ne C 142 (oDec_at oX12_isOwnHere 50 rfl) (by decide) (fun cd18 => ?_) (fun cd18 => ?_)
              · skip
                replace pu16_4 := pu16_4 (by omega)
                clear pu16_5
                replace pu16_6 := pu16_6 (by omega)
                refine r_iconst C (oDec_at oX12_isOwnHere 66 rfl) (v := k1) (by rw [qk1]; rfl) ?_
                refine r_goto C (tgt := 147) (oDec_at oX12_isOwnHere 67 rfl) (by decide) ?_
                refine r_istore_n C (lv' := [(0, .ref (oad E 71)), (1, .int k1)]) [1, 0] (oDec_at oX12_isOwnHere 69 rfl) rfl (by decide) rfl ?_
                have lk19 : ((u16).1 71 4).toInt = (t.1 71 4).toInt := congrArg Int32.toInt (((fu16 71 4 rfl).1).trans (((fu9 71 4 rfl).1).trans ((fu2 71 4 rfl).1)))
                have lk20 : ((u16).1 71 5).toInt = (t.1 71 5).toInt := congrArg Int32.toInt (((fu16 71 5 rfl).1).trans (((fu9 71 5 rfl).1).trans ((fu2 71 5 rfl).1)))
                exact (ih (n - 1) (by omega)).2.1 (u16) k1  (oqZ_fr fu16 rfl (oqZ_fr fu9 rfl (oqZ_fr fu2 rfl iv0))) (oqWd_fr fu16 rfl (oqWd_fr fu9 rfl (oqWd_fr fu2 rfl iv1))) (by omega) (by omega) (by omega) (by omega) (by first | exact fun _ => hy (by omega) | (intro h9; exfalso; omega) | exact fun _ => iv6 (by omega)) (by first | (intro h9; exfalso; omega) | exact fun _ i hi => by (by_cases h9 : i < 6; exact iv7 (by omega) i h9; (have h8 : i = 6 ∨ i = 7 ∨ i = 8 ∨ i = 9 ∨ i = 10 ∨ i = 11 := (by omega); rcases h8 with h8 | h8 | h8 | h8 | h8 | h8 <;> (rw [h8]; assumption)))) (by omega)
              · skip
                clear pu16_4
                replace pu16_5 := pu16_5 (by omega)
                clear pu16_6
                clear hy
                have hz8 : oqH g a b 8 = 0 := pu16_5
                clear pu16_0 pu16_2 pu16_3 pu16_5
                refine r_aload_n C (j := 0) (oDec_at oX12_isOwnHere 51 rfl) rfl rfl ?_
                refine r_aload_n C (j := 0) (oDec_at oX12_isOwnHere 52 rfl) rfl rfl ?_
                refine r_getF (k := 19) (b := 82) C oCl12 rfl (by decide) flX12_45 rfl rfl rfl (oDec_at oX12_isOwnHere 53 rfl) ?_
                have lk21 : ((u16).1 71 4).toInt = (t.1 71 4).toInt := congrArg Int32.toInt (((fu16 71 4 rfl).1).trans (((fu9 71 4 rfl).1).trans ((fu2 71 4 rfl).1)))
                have lk22 : ((u16).1 71 5).toInt = (t.1 71 5).toInt := congrArg Int32.toInt (((fu16 71 5 rfl).1).trans (((fu9 71 5 rfl).1).trans ((fu2 71 5 rfl).1)))
                refine r_callVi C oCl12 rfl miX12_isHere mlX12_196 (ct4_X12_isHere l E (u16) 82 58 3 rfl (by decide) (by decide) rfl rfl (g) (a) (b) (9) (by omega) (by omega) (oqZ_fr fu16 rfl (oqZ_fr fu9 rfl (oqZ_fr fu2 rfl iv0))) (by omega) (by omega) rfl (oqWd_at (oqWd_fr fu16 rfl (oqWd_fr fu9 rfl (oqWd_fr fu2 rfl iv1))) 9 (by decide)) (by omega)) (by decide) rfl rfl rfl (Nat.le_of_ble_eq_true rfl) (oDec_at oX12_isOwnHere 54 rfl) (fun r24 u23 pu23 fu23 => ?_)
                try dsimp only at pu23
                try simp only [lk21, lk22] at pu23
                obtain ⟨pu23_0, pu23_1, pu23_2, pu23_3, pu23_4, pu23_5, pu23_6⟩ := pu23
                have rr24 := n_rng r24
                have hy : r24.toInt = 1 → oqWi g a b ≠ -1 := fun h9 => by (have h8 := (oqWi_is (g := g) (a := a) (b := b) (i := 9) (by decide)).mpr (pu23_4 h9); omega)
                refine r_if_ne C 142 (oDec_at oX12_isOwnHere 55 rfl) (by decide) (fun cd25 => ?_) (fun cd25 => ?_)
                · skip
                  replace pu23_4 := pu23_4 (by omega)
                  clear pu23_5
                  replace pu23_6 := pu23_6 (by omega)
                  refine r_iconst C (oDec_at oX12_isOwnHere 66 rfl) (v := k1) (by rw [qk1]; rfl) ?_
                  refine r_goto C (tgt := 147) (oDec_at oX12_isOwnHere 67 rfl) (by decide) ?_
                  refine r_istore_n C (lv' := [(0, .ref (oad E 71)), (1, .int k1)]) [1, 0] (oDec_at oX12_isOwnHere 69 rfl) rfl (by decide) rfl ?_
                  have lk26 : ((u23).1 71 4).toInt = (t.1 71 4).toInt := congrArg Int32.toInt (((fu23 71 4 rfl).1).trans (((fu16 71 4 rfl).1).trans (((fu9 71 4 rfl).1).trans ((fu2 71 4 rfl).1))))
                  have lk27 : ((u23).1 71 5).toInt = (t.1 71 5).toInt := congrArg Int32.toInt (((fu23 71 5 rfl).1).trans (((fu16 71 5 rfl).1).trans (((fu9 71 5 rfl).1).trans ((fu2 71 5 rfl).1))))
                  exact (ih (n - 1) (by omega)).2.1 (u23) k1  (oqZ_fr fu23 rfl (oqZ_fr fu16 rfl (oqZ_fr fu9 rfl (oqZ_fr fu2 rfl iv0)))) (oqWd_fr fu23 rfl (oqWd_fr fu16 rfl (oqWd_fr fu9 rfl (oqWd_fr fu2 rfl iv1)))) (by omega) (by omega) (by omega) (by omega) (by first | exact fun _ => hy (by omega) | (intro h9; exfalso; omega) | exact fun _ => iv6 (by omega)) (by first | (intro h9; exfalso; omega) | exact fun _ i hi => by (by_cases h9 : i < 6; exact iv7 (by omega) i h9; (have h8 : i = 6 ∨ i = 7 ∨ i = 8 ∨ i = 9 ∨ i = 10 ∨ i = 11 := (by omega); rcases h8 with h8 | h8 | h8 | h8 | h8 | h8 <;> (rw [h8]; assumption)))) (by omega)
                · skip
                  clear pu23_4
                  replace pu23_5 := pu23_5 (by omega)
                  clear pu23_6
                  clear hy
                  have hz9 : oqH g a b 9 = 0 := pu23_5
                  clear pu23_0 pu23_2 pu23_3 pu23_5
                  refine r_aload_n C (j := 0) (oDec_at oX12_isOwnHere 56 rfl) rfl rfl ?_
                  refine r_aload_n C (j := 0) (oDec_at oX12_isOwnHere 57 rfl) rfl rfl ?_
                  refine r_getF (k := 20) (b := 83) C oCl12 rfl (by decide) flX12_48 rfl rfl rfl (oDec_at oX12_isOwnHere 58 rfl) ?_
                  have lk28 : ((u23).1 71 4).toInt = (t.1 71 4).toInt := congrArg Int32.toInt (((fu23 71 4 rfl).1).trans (((fu16 71 4 rfl).1).trans (((fu9 71 4 rfl).1).trans ((fu2 71 4 rfl).1))))
                  have lk29 : ((u23).1 71 5).toInt = (t.1 71 5).toInt := congrArg Int32.toInt (((fu23 71 5 rfl).1).trans (((fu16 71 5 rfl).1).trans (((fu9 71 5 rfl).1).trans ((fu2 71 5 rfl).1))))
                  refine r_callVi C oCl12 rfl miX12_isHere mlX12_196 (ct4_X12_isHere l E (u23) 83 59 3 rfl (by decide) (by decide) rfl rfl (g) (a) (b) (10) (by omega) (by omega) (oqZ_fr fu23 rfl (oqZ_fr fu16 rfl (oqZ_fr fu9 rfl (oqZ_fr fu2 rfl iv0)))) (by omega) (by omega) rfl (oqWd_at (oqWd_fr fu23 rfl (oqWd_fr fu16 rfl (oqWd_fr fu9 rfl (oqWd_fr fu2 rfl iv1)))) 10 (by decide)) (by omega)) (by decide) rfl rfl rfl (Nat.le_of_ble_eq_true rfl) (oDec_at oX12_isOwnHere 59 rfl) (fun r31 u30 pu30 fu30 => ?_)
                  try dsimp only at pu30
                  try simp only [lk28, lk29] at pu30
                  obtain ⟨pu30_0, pu30_1, pu30_2, pu30_3, pu30_4, pu30_5, pu30_6⟩ := pu30
                  have rr31 := n_rng r31
                  have hy : r31.toInt = 1 → oqWi g a b ≠ -1 := fun h9 => by (have h8 := (oqWi_is (g := g) (a := a) (b := b) (i := 10) (by decide)).mpr (pu30_4 h9); omega)
                  refine r_if_ne C 142 (oDec_at oX12_isOwnHere 60 rfl) (by decide) (fun cd32 => ?_) (fun cd32 => ?_)
                  · skip
                    replace pu30_4 := pu30_4 (by omega)
                    clear pu30_5
                    replace pu30_6 := pu30_6 (by omega)
                    refine r_iconst C (oDec_at oX12_isOwnHere 66 rfl) (v := k1) (by rw [qk1]; rfl) ?_
                    refine r_goto C (tgt := 147) (oDec_at oX12_isOwnHere 67 rfl) (by decide) ?_
                    refine r_istore_n C (lv' := [(0, .ref (oad E 71)), (1, .int k1)]) [1, 0] (oDec_at oX12_isOwnHere 69 rfl) rfl (by decide) rfl ?_
                    have lk33 : ((u30).1 71 4).toInt = (t.1 71 4).toInt := congrArg Int32.toInt (((fu30 71 4 rfl).1).trans (((fu23 71 4 rfl).1).trans (((fu16 71 4 rfl).1).trans (((fu9 71 4 rfl).1).trans ((fu2 71 4 rfl).1)))))
                    have lk34 : ((u30).1 71 5).toInt = (t.1 71 5).toInt := congrArg Int32.toInt (((fu30 71 5 rfl).1).trans (((fu23 71 5 rfl).1).trans (((fu16 71 5 rfl).1).trans (((fu9 71 5 rfl).1).trans ((fu2 71 5 rfl).1)))))
                    exact (ih (n - 1) (by omega)).2.1 (u30) k1  (oqZ_fr fu30 rfl (oqZ_fr fu23 rfl (oqZ_fr fu16 rfl (oqZ_fr fu9 rfl (oqZ_fr fu2 rfl iv0))))) (oqWd_fr fu30 rfl (oqWd_fr fu23 rfl (oqWd_fr fu16 rfl (oqWd_fr fu9 rfl (oqWd_fr fu2 rfl iv1))))) (by omega) (by omega) (by omega) (by omega) (by first | exact fun _ => hy (by omega) | (intro h9; exfalso; omega) | exact fun _ => iv6 (by omega)) (by first | (intro h9; exfalso; omega) | exact fun _ i hi => by (by_cases h9 : i < 6; exact iv7 (by omega) i h9; (have h8 : i = 6 ∨ i = 7 ∨ i = 8 ∨ i = 9 ∨ i = 10 ∨ i = 11 := (by omega); rcases h8 with h8 | h8 | h8 | h8 | h8 | h8 <;> (rw [h8]; assumption)))) (by omega)
                  · skip
                    clear pu30_4
                    replace pu30_5 := pu30_5 (by omega)
                    clear pu30_6
                    clear hy
                    have hz10 : oqH g a b 10 = 0 := pu30_5
                    clear pu30_0 pu30_2 pu30_3 pu30_5
                    refine r_aload_n C (j := 0) (oDec_at oX12_isOwnHere 61 rfl) rfl rfl ?_
                    refine r_aload_n C (j := 0) (oDec_at oX12_isOwnHere 62 rfl) rfl rfl ?_
                    refine r_getF (k := 21) (b := 84) C oCl12 rfl (by decide) flX12_51 rfl rfl rfl (oDec_at oX12_isOwnHere 63 rfl) ?_
                    have lk35 : ((u30).1 71 4).toInt = (t.1 71 4).toInt := congrArg Int32.toInt (((fu30 71 4 rfl).1).trans (((fu23 71 4 rfl).1).trans (((fu16 71 4 rfl).1).trans (((fu9 71 4 rfl).1).trans ((fu2 71 4 rfl).1)))))
                    have lk36 : ((u30).1 71 5).toInt = (t.1 71 5).toInt := congrArg Int32.toInt (((fu30 71 5 rfl).1).trans (((fu23 71 5 rfl).1).trans (((fu16 71 5 rfl).1).trans (((fu9 71 5 rfl).1).trans ((fu2 71 5 rfl).1)))))
                    refine r_callVi C oCl12 rfl miX12_isHere mlX12_196 (ct4_X12_isHere l E (u30) 84 60 3 rfl (by decide) (by decide) rfl rfl (g) (a) (b) (11) (by omega) (by omega) (oqZ_fr fu30 rfl (oqZ_fr fu23 rfl (oqZ_fr fu16 rfl (oqZ_fr fu9 rfl (oqZ_fr fu2 rfl iv0))))) (by omega) (by omega) rfl (oqWd_at (oqWd_fr fu30 rfl (oqWd_fr fu23 rfl (oqWd_fr fu16 rfl (oqWd_fr fu9 rfl (oqWd_fr fu2 rfl iv1))))) 11 (by decide)) (by omega)) (by decide) rfl rfl rfl (Nat.le_of_ble_eq_true rfl) (oDec_at oX12_isOwnHere 64 rfl) (fun r38 u37 pu37 fu37 => ?_)
                    try dsimp only at pu37
                    try simp only [lk35, lk36] at pu37
                    obtain ⟨pu37_0, pu37_1, pu37_2, pu37_3, pu37_4, pu37_5, pu37_6⟩ := pu37
                    have rr38 := n_rng r38
                    have hy : r38.toInt = 1 → oqWi g a b ≠ -1 := fun h9 => by (have h8 := (oqWi_is (g := g) (a := a) (b := b) (i := 11) (by decide)).mpr (pu37_4 h9); omega)
                    refine r_if_eq C 146 (oDec_at oX12_isOwnHere 65 rfl) (by decide) (fun cd39 => ?_) (fun cd39 => ?_)
                    · skip
                      clear pu37_4
                      replace pu37_5 := pu37_5 (by omega)
                      clear pu37_6
                      clear hy
                      have hz11 : oqH g a b 11 = 0 := pu37_5
                      clear pu37_0 pu37_2 pu37_3 pu37_5
                      refine r_iconst C (oDec_at oX12_isOwnHere 68 rfl) (v := k0) (by rw [qk0]; rfl) ?_
                      refine r_istore_n C (lv' := [(0, .ref (oad E 71)), (1, .int k0)]) [1, 0] (oDec_at oX12_isOwnHere 69 rfl) rfl (by decide) rfl ?_
                      have lk40 : ((u37).1 71 4).toInt = (t.1 71 4).toInt := congrArg Int32.toInt (((fu37 71 4 rfl).1).trans (((fu30 71 4 rfl).1).trans (((fu23 71 4 rfl).1).trans (((fu16 71 4 rfl).1).trans (((fu9 71 4 rfl).1).trans ((fu2 71 4 rfl).1))))))
                      have lk41 : ((u37).1 71 5).toInt = (t.1 71 5).toInt := congrArg Int32.toInt (((fu37 71 5 rfl).1).trans (((fu30 71 5 rfl).1).trans (((fu23 71 5 rfl).1).trans (((fu16 71 5 rfl).1).trans (((fu9 71 5 rfl).1).trans ((fu2 71 5 rfl).1))))))
                      exact (ih (n - 1) (by omega)).2.1 (u37) k0  (oqZ_fr fu37 rfl (oqZ_fr fu30 rfl (oqZ_fr fu23 rfl (oqZ_fr fu16 rfl (oqZ_fr fu9 rfl (oqZ_fr fu2 rfl iv0)))))) (oqWd_fr fu37 rfl (oqWd_fr fu30 rfl (oqWd_fr fu23 rfl (oqWd_fr fu16 rfl (oqWd_fr fu9 rfl (oqWd_fr fu2 rfl iv1)))))) (by omega) (by omega) (by omega) (by omega) (by first | exact fun _ => hy (by omega) | (intro h9; exfalso; omega) | exact fun _ => iv6 (by omega)) (by first | (intro h9; exfalso; omega) | exact fun _ i hi => by (by_cases h9 : i < 6; exact iv7 (by omega) i h9; (have h8 : i = 6 ∨ i = 7 ∨ i = 8 ∨ i = 9 ∨ i = 10 ∨ i = 11 := (by omega); rcases h8 with h8 | h8 | h8 | h8 | h8 | h8 <;> (rw [h8]; assumption)))) (by omega)
                    · skip
                      replace pu37_4 := pu37_4 (by omega)
                      clear pu37_5
                      replace pu37_6 := pu37_6 (by omega)
                      refine r_iconst C (oDec_at oX12_isOwnHere 66 rfl) (v := k1) (by rw [qk1]; rfl) ?_
                      refine r_goto C (tgt := 147) (oDec_at oX12_isOwnHere 67 rfl) (by decide) ?_
                      refine r_istore_n C (lv' := [(0, .ref (oad E 71)), (1, .int k1)]) [1, 0] (oDec_at oX12_isOwnHere 69 rfl) rfl (by decide) rfl ?_
                      have lk42 : ((u37).1 71 4).toInt = (t.1 71 4).toInt := congrArg Int32.toInt (((fu37 71 4 rfl).1).trans (((fu30 71 4 rfl).1).trans (((fu23 71 4 rfl).1).trans (((fu16 71 4 rfl).1).trans (((fu9 71 4 rfl).1).trans ((fu2 71 4 rfl).1))))))
                      have lk43 : ((u37).1 71 5).toInt = (t.1 71 5).toInt := congrArg Int32.toInt (((fu37 71 5 rfl).1).trans (((fu30 71 5 rfl).1).trans (((fu23 71 5 rfl).1).trans (((fu16 71 5 rfl).1).trans (((fu9 71 5 rfl).1).trans ((fu2 71 5 rfl).1))))))
                      exact (ih (n - 1) (by omega)).2.1 (u37) k1  (oqZ_fr fu37 rfl (oqZ_fr fu30 rfl (oqZ_fr fu23 rfl (oqZ_fr fu16 rfl (oqZ_fr fu9 rfl (oqZ_fr fu2 rfl iv0)))))) (oqWd_fr fu37 rfl (oqWd_fr fu30 rfl (oqWd_fr fu23 rfl (oqWd_fr fu16 rfl (oqWd_fr fu9 rfl (oqWd_fr fu2 rfl iv1)))))) (by omega) (by omega) (by omega) (by omega) (by first | exact fun _ => hy (by omega) | (intro h9; exfalso; omega) | exact fun _ => iv6 (by omega)) (by first | (intro h9; exfalso; omega) | exact fun _ i hi => by (by_cases h9 : i < 6; exact iv7 (by omega) i h9; (have h8 : i = 6 ∨ i = 7 ∨ i = 8 ∨ i = 9 ∨ i = 10 ∨ i = 11 := (by omega); rcases h8 with h8 | h8 | h8 | h8 | h8 | h8 <;> (rw [h8]; assumption)))) (by omega)
      · intro t x1  iv0 iv1 iv2 iv3 iv4 iv5 iv6 iv7 hmu
        have rx1 := n_rng x1
        refine r_iload_n C (j := 1) (oDec_at oX12_isOwnHere 70 rfl) rfl rfl ?_
        refine r_if_ne C 218 (oDec_at oX12_isOwnHere 71 rfl) (by decide) (fun cd44 => ?_) (fun cd44 => ?_)
        · skip
          refine r_iconst C (oDec_at oX12_isOwnHere 102 rfl) (v := k1) (by rw [qk1]; rfl) ?_
          refine r_goto C (tgt := 223) (oDec_at oX12_isOwnHere 103 rfl) (by decide) ?_
          refine r_istore_n C (lv' := [(0, .ref (oad E 71)), (1, .int k1)]) [1, 0] (oDec_at oX12_isOwnHere 105 rfl) rfl (by decide) rfl ?_
          exact (ih (n - 1) (by omega)).2.2.1 (t) k1  iv0 iv1 (by omega) (by omega) (by omega) (by omega) (by first | exact fun _ => hy (by omega) | (intro h9; exfalso; omega) | exact fun _ => iv6 (by omega)) (by first | (intro h9; exfalso; omega) | exact fun _ i hi => by (by_cases h9 : i < 12; exact iv7 (by omega) i h9; (have h8 : i = 12 ∨ i = 13 ∨ i = 14 ∨ i = 15 ∨ i = 16 ∨ i = 17 := (by omega); rcases h8 with h8 | h8 | h8 | h8 | h8 | h8 <;> (rw [h8]; assumption)))) (by omega)
        · skip
          refine r_aload_n C (j := 0) (oDec_at oX12_isOwnHere 72 rfl) rfl rfl ?_
          refine r_aload_n C (j := 0) (oDec_at oX12_isOwnHere 73 rfl) rfl rfl ?_
          refine r_getF (k := 22) (b := 85) C oCl12 rfl (by decide) flX12_54 rfl rfl rfl (oDec_at oX12_isOwnHere 74 rfl) ?_
          refine r_callVi C oCl12 rfl miX12_isHere mlX12_196 (ct4_X12_isHere l E (t) 85 61 4 rfl (by decide) (by decide) rfl rfl (g) (a) (b) (12) (by omega) (by omega) iv0 (by omega) (by omega) rfl (oqWd_at iv1 12 (by decide)) (by omega)) (by decide) rfl rfl rfl (Nat.le_of_ble_eq_true rfl) (oDec_at oX12_isOwnHere 75 rfl) (fun r46 u45 pu45 fu45 => ?_)
          try dsimp only at pu45
          obtain ⟨pu45_0, pu45_1, pu45_2, pu45_3, pu45_4, pu45_5, pu45_6⟩ := pu45
          have rr46 := n_rng r46
          have hy : r46.toInt = 1 → oqWi g a b ≠ -1 := fun h9 => by (have h8 := (oqWi_is (g := g) (a := a) (b := b) (i := 12) (by decide)).mpr (pu45_4 h9); omega)
          refine r_if_ne C 218 (oDec_at oX12_isOwnHere 76 rfl) (by decide) (fun cd47 => ?_) (fun cd47 => ?_)
          · skip
            replace pu45_4 := pu45_4 (by omega)
            clear pu45_5
            replace pu45_6 := pu45_6 (by omega)
            refine r_iconst C (oDec_at oX12_isOwnHere 102 rfl) (v := k1) (by rw [qk1]; rfl) ?_
            refine r_goto C (tgt := 223) (oDec_at oX12_isOwnHere 103 rfl) (by decide) ?_
            refine r_istore_n C (lv' := [(0, .ref (oad E 71)), (1, .int k1)]) [1, 0] (oDec_at oX12_isOwnHere 105 rfl) rfl (by decide) rfl ?_
            have lk48 : ((u45).1 71 4).toInt = (t.1 71 4).toInt := congrArg Int32.toInt ((fu45 71 4 rfl).1)
            have lk49 : ((u45).1 71 5).toInt = (t.1 71 5).toInt := congrArg Int32.toInt ((fu45 71 5 rfl).1)
            exact (ih (n - 1) (by omega)).2.2.1 (u45) k1  (oqZ_fr fu45 rfl iv0) (oqWd_fr fu45 rfl iv1) (by omega) (by omega) (by omega) (by omega) (by first | exact fun _ => hy (by omega) | (intro h9; exfalso; omega) | exact fun _ => iv6 (by omega)) (by first | (intro h9; exfalso; omega) | exact fun _ i hi => by (by_cases h9 : i < 12; exact iv7 (by omega) i h9; (have h8 : i = 12 ∨ i = 13 ∨ i = 14 ∨ i = 15 ∨ i = 16 ∨ i = 17 := (by omega); rcases h8 with h8 | h8 | h8 | h8 | h8 | h8 <;> (rw [h8]; assumption)))) (by omega)
          · skip
            clear pu45_4
            replace pu45_5 := pu45_5 (by omega)
            clear pu45_6
            clear hy
            have hz12 : oqH g a b 12 = 0 := pu45_5
            clear pu45_0 pu45_2 pu45_3 pu45_5
            refine r_aload_n C (j := 0) (oDec_at oX12_isOwnHere 77 rfl) rfl rfl ?_
            refine r_aload_n C (j := 0) (oDec_at oX12_isOwnHere 78 rfl) rfl rfl ?_
            refine r_getF (k := 23) (b := 86) C oCl12 rfl (by decide) flX12_57 rfl rfl rfl (oDec_at oX12_isOwnHere 79 rfl) ?_
            have lk50 : ((u45).1 71 4).toInt = (t.1 71 4).toInt := congrArg Int32.toInt ((fu45 71 4 rfl).1)
            have lk51 : ((u45).1 71 5).toInt = (t.1 71 5).toInt := congrArg Int32.toInt ((fu45 71 5 rfl).1)
            refine r_callVi C oCl12 rfl miX12_isHere mlX12_196 (ct4_X12_isHere l E (u45) 86 62 5 rfl (by decide) (by decide) rfl rfl (g) (a) (b) (13) (by omega) (by omega) (oqZ_fr fu45 rfl iv0) (by omega) (by omega) rfl (oqWd_at (oqWd_fr fu45 rfl iv1) 13 (by decide)) (by omega)) (by decide) rfl rfl rfl (Nat.le_of_ble_eq_true rfl) (oDec_at oX12_isOwnHere 80 rfl) (fun r53 u52 pu52 fu52 => ?_)
            try dsimp only at pu52
            try simp only [lk50, lk51] at pu52
            obtain ⟨pu52_0, pu52_1, pu52_2, pu52_3, pu52_4, pu52_5, pu52_6⟩ := pu52
            have rr53 := n_rng r53
            have hy : r53.toInt = 1 → oqWi g a b ≠ -1 := fun h9 => by (have h8 := (oqWi_is (g := g) (a := a) (b := b) (i := 13) (by decide)).mpr (pu52_4 h9); omega)
            refine r_if_ne C 218 (oDec_at oX12_isOwnHere 81 rfl) (by decide) (fun cd54 => ?_) (fun cd54 => ?_)
            · skip
              replace pu52_4 := pu52_4 (by omega)
              clear pu52_5
              replace pu52_6 := pu52_6 (by omega)
              refine r_iconst C (oDec_at oX12_isOwnHere 102 rfl) (v := k1) (by rw [qk1]; rfl) ?_
              refine r_goto C (tgt := 223) (oDec_at oX12_isOwnHere 103 rfl) (by decide) ?_
              refine r_istore_n C (lv' := [(0, .ref (oad E 71)), (1, .int k1)]) [1, 0] (oDec_at oX12_isOwnHere 105 rfl) rfl (by decide) rfl ?_
              have lk55 : ((u52).1 71 4).toInt = (t.1 71 4).toInt := congrArg Int32.toInt (((fu52 71 4 rfl).1).trans ((fu45 71 4 rfl).1))
              have lk56 : ((u52).1 71 5).toInt = (t.1 71 5).toInt := congrArg Int32.toInt (((fu52 71 5 rfl).1).trans ((fu45 71 5 rfl).1))
              exact (ih (n - 1) (by omega)).2.2.1 (u52) k1  (oqZ_fr fu52 rfl (oqZ_fr fu45 rfl iv0)) (oqWd_fr fu52 rfl (oqWd_fr fu45 rfl iv1)) (by omega) (by omega) (by omega) (by omega) (by first | exact fun _ => hy (by omega) | (intro h9; exfalso; omega) | exact fun _ => iv6 (by omega)) (by first | (intro h9; exfalso; omega) | exact fun _ i hi => by (by_cases h9 : i < 12; exact iv7 (by omega) i h9; (have h8 : i = 12 ∨ i = 13 ∨ i = 14 ∨ i = 15 ∨ i = 16 ∨ i = 17 := (by omega); rcases h8 with h8 | h8 | h8 | h8 | h8 | h8 <;> (rw [h8]; assumption)))) (by omega)
            · skip
              clear pu52_4
              replace pu52_5 := pu52_5 (by omega)
              clear pu52_6
              clear hy
              have hz13 : oqH g a b 13 = 0 := pu52_5
              clear pu52_0 pu52_2 pu52_3 pu52_5
              refine r_aload_n C (j := 0) (oDec_at oX12_isOwnHere 82 rfl) rfl rfl ?_
              refine r_aload_n C (j := 0) (oDec_at oX12_isOwnHere 83 rfl) rfl rfl ?_
              refine r_getF (k := 24) (b := 87) C oCl12 rfl (by decide) flX12_60 rfl rfl rfl (oDec_at oX12_isOwnHere 84 rfl) ?_
              have lk57 : ((u52).1 71 4).toInt = (t.1 71 4).toInt := congrArg Int32.toInt (((fu52 71 4 rfl).1).trans ((fu45 71 4 rfl).1))
              have lk58 : ((u52).1 71 5).toInt = (t.1 71 5).toInt := congrArg Int32.toInt (((fu52 71 5 rfl).1).trans ((fu45 71 5 rfl).1))
              refine r_callVi C oCl12 rfl miX12_isHere mlX12_196 (ct4_X12_isHere l E (u52) 87 63 4 rfl (by decide) (by decide) rfl rfl (g) (a) (b) (14) (by omega) (by omega) (oqZ_fr fu52 rfl (oqZ_fr fu45 rfl iv0)) (by omega) (by omega) rfl (oqWd_at (oqWd_fr fu52 rfl (oqWd_fr fu45 rfl iv1)) 14 (by decide)) (by omega)) (by decide) rfl rfl rfl (Nat.le_of_ble_eq_true rfl) (oDec_at oX12_isOwnHere 85 rfl) (fun r60 u59 pu59 fu59 => ?_)
              try dsimp only at pu59
              try simp only [lk57, lk58] at pu59
              obtain ⟨pu59_0, pu59_1, pu59_2, pu59_3, pu59_4, pu59_5, pu59_6⟩ := pu59
              have rr60 := n_rng r60
              have hy : r60.toInt = 1 → oqWi g a b ≠ -1 := fun h9 => by (have h8 := (oqWi_is (g := g) (a := a) (b := b) (i := 14) (by decide)).mpr (pu59_4 h9); omega)
              refine r_if_ne C 218 (oDec_at oX12_isOwnHere 86 rfl) (by decide) (fun cd61 => ?_) (fun cd61 => ?_)
              · skip
                replace pu59_4 := pu59_4 (by omega)
                clear pu59_5
                replace pu59_6 := pu59_6 (by omega)
                refine r_iconst C (oDec_at oX12_isOwnHere 102 rfl) (v := k1) (by rw [qk1]; rfl) ?_
                refine r_goto C (tgt := 223) (oDec_at oX12_isOwnHere 103 rfl) (by decide) ?_
                refine r_istore_n C (lv' := [(0, .ref (oad E 71)), (1, .int k1)]) [1, 0] (oDec_at oX12_isOwnHere 105 rfl) rfl (by decide) rfl ?_
                have lk62 : ((u59).1 71 4).toInt = (t.1 71 4).toInt := congrArg Int32.toInt (((fu59 71 4 rfl).1).trans (((fu52 71 4 rfl).1).trans ((fu45 71 4 rfl).1)))
                have lk63 : ((u59).1 71 5).toInt = (t.1 71 5).toInt := congrArg Int32.toInt (((fu59 71 5 rfl).1).trans (((fu52 71 5 rfl).1).trans ((fu45 71 5 rfl).1)))
                exact (ih (n - 1) (by omega)).2.2.1 (u59) k1  (oqZ_fr fu59 rfl (oqZ_fr fu52 rfl (oqZ_fr fu45 rfl iv0))) (oqWd_fr fu59 rfl (oqWd_fr fu52 rfl (oqWd_fr fu45 rfl iv1))) (by omega) (by omega) (by omega) (by omega) (by first | exact fun _ => hy (by omega) | (intro h9; exfalso; omega) | exact fun _ => iv6 (by omega)) (by first | (intro h9; exfalso; omega) | exact fun _ i hi => by (by_cases h9 : i < 12; exact iv7 (by omega) i h9; (have h8 : i = 12 ∨ i = 13 ∨ i = 14 ∨ i = 15 ∨ i = 16 ∨ i = 17 := (by omega); rcases h8 with h8 | h8 | h8 | h8 | h8 | h8 <;> (rw [h8]; assumption)))) (by omega)
              · skip
                clear pu59_4
                replace pu59_5 := pu59_5 (by omega)
                clear pu59_6
                clear hy
                have hz14 : oqH g a b 14 = 0 := pu59_5
                clear pu59_0 pu59_2 pu59_3 pu59_5
                refine r_aload_n C (j := 0) (oDec_at oX12_isOwnHere 87 rfl) rfl rfl ?_
                refine r_aload_n C (j := 0) (oDec_at oX12_isOwnHere 88 rfl) rfl rfl ?_
                refine r_getF (k := 25) (b := 88) C oCl12 rfl (by decide) flX12_63 rfl rfl rfl (oDec_at oX12_isOwnHere 89 rfl) ?_
                have lk64 : ((u59).1 71 4).toInt = (t.1 71 4).toInt := congrArg Int32.toInt (((fu59 71 4 rfl).1).trans (((fu52 71 4 rfl).1).trans ((fu45 71 4 rfl).1)))
                have lk65 : ((u59).1 71 5).toInt = (t.1 71 5).toInt := congrArg Int32.toInt (((fu59 71 5 rfl).1).trans (((fu52 71 5 rfl).1).trans ((fu45 71 5 rfl).1)))
                refine r_callVi C oCl12 rfl miX12_isHere mlX12_196 (ct4_X12_isHere l E (u59) 88 64 4 rfl (by decide) (by decide) rfl rfl (g) (a) (b) (15) (by omega) (by omega) (oqZ_fr fu59 rfl (oqZ_fr fu52 rfl (oqZ_fr fu45 rfl iv0))) (by omega) (by omega) rfl (oqWd_at (oqWd_fr fu59 rfl (oqWd_fr fu52 rfl (oqWd_fr fu45 rfl iv1))) 15 (by decide)) (by omega)) (by decide) rfl rfl rfl (Nat.le_of_ble_eq_true rfl) (oDec_at oX12_isOwnHere 90 rfl) (fun r67 u66 pu66 fu66 => ?_)
                try dsimp only at pu66
                try simp only [lk64, lk65] at pu66
                obtain ⟨pu66_0, pu66_1, pu66_2, pu66_3, pu66_4, pu66_5, pu66_6⟩ := pu66
                have rr67 := n_rng r67
                have hy : r67.toInt = 1 → oqWi g a b ≠ -1 := fun h9 => by (have h8 := (oqWi_is (g := g) (a := a) (b := b) (i := 15) (by decide)).mpr (pu66_4 h9); omega)
                refine r_if_ne C 218 (oDec_at oX12_isOwnHere 91 rfl) (by decide) (fun cd68 => ?_) (fun cd68 => ?_)
                · skip
                  replace pu66_4 := pu66_4 (by omega)
                  clear pu66_5
                  replace pu66_6 := pu66_6 (by omega)
                  refine r_iconst C (oDec_at oX12_isOwnHere 102 rfl) (v := k1) (by rw [qk1]; rfl) ?_
                  refine r_goto C (tgt := 223) (oDec_at oX12_isOwnHere 103 rfl) (by decide) ?_
                  refine r_istore_n C (lv' := [(0, .ref (oad E 71)), (1, .int k1)]) [1, 0] (oDec_at oX12_isOwnHere 105 rfl) rfl (by decide) rfl ?_
                  have lk69 : ((u66).1 71 4).toInt = (t.1 71 4).toInt := congrArg Int32.toInt (((fu66 71 4 rfl).1).trans (((fu59 71 4 rfl).1).trans (((fu52 71 4 rfl).1).trans ((fu45 71 4 rfl).1))))
                  have lk70 : ((u66).1 71 5).toInt = (t.1 71 5).toInt := congrArg Int32.toInt (((fu66 71 5 rfl).1).trans (((fu59 71 5 rfl).1).trans (((fu52 71 5 rfl).1).trans ((fu45 71 5 rfl).1))))
                  exact (ih (n - 1) (by omega)).2.2.1 (u66) k1  (oqZ_fr fu66 rfl (oqZ_fr fu59 rfl (oqZ_fr fu52 rfl (oqZ_fr fu45 rfl iv0)))) (oqWd_fr fu66 rfl (oqWd_fr fu59 rfl (oqWd_fr fu52 rfl (oqWd_fr fu45 rfl iv1)))) (by omega) (by omega) (by omega) (by omega) (by first | exact fun _ => hy (by omega) | (intro h9; exfalso; omega) | exact fun _ => iv6 (by omega)) (by first | (intro h9; exfalso; omega) | exact fun _ i hi => by (by_cases h9 : i < 12; exact iv7 (by omega) i h9; (have h8 : i = 12 ∨ i = 13 ∨ i = 14 ∨ i = 15 ∨ i = 16 ∨ i = 17 := (by omega); rcases h8 with h8 | h8 | h8 | h8 | h8 | h8 <;> (rw [h8]; assumption)))) (by omega)
                · skip
                  clear pu66_4
                  replace pu66_5 := pu66_5 (by omega)
                  clear pu66_6
                  clear hy
                  have hz15 : oqH g a b 15 = 0 := pu66_5
                  clear pu66_0 pu66_2 pu66_3 pu66_5
                  refine r_aload_n C (j := 0) (oDec_at oX12_isOwnHere 92 rfl) rfl rfl ?_
                  refine r_aload_n C (j := 0) (oDec_at oX12_isOwnHere 93 rfl) rfl rfl ?_
                  refine r_getF (k := 26) (b := 89) C oCl12 rfl (by decide) flX12_66 rfl rfl rfl (oDec_at oX12_isOwnHere 94 rfl) ?_
                  have lk71 : ((u66).1 71 4).toInt = (t.1 71 4).toInt := congrArg Int32.toInt (((fu66 71 4 rfl).1).trans (((fu59 71 4 rfl).1).trans (((fu52 71 4 rfl).1).trans ((fu45 71 4 rfl).1))))
                  have lk72 : ((u66).1 71 5).toInt = (t.1 71 5).toInt := congrArg Int32.toInt (((fu66 71 5 rfl).1).trans (((fu59 71 5 rfl).1).trans (((fu52 71 5 rfl).1).trans ((fu45 71 5 rfl).1))))
                  refine r_callVi C oCl12 rfl miX12_isHere mlX12_196 (ct4_X12_isHere l E (u66) 89 65 5 rfl (by decide) (by decide) rfl rfl (g) (a) (b) (16) (by omega) (by omega) (oqZ_fr fu66 rfl (oqZ_fr fu59 rfl (oqZ_fr fu52 rfl (oqZ_fr fu45 rfl iv0)))) (by omega) (by omega) rfl (oqWd_at (oqWd_fr fu66 rfl (oqWd_fr fu59 rfl (oqWd_fr fu52 rfl (oqWd_fr fu45 rfl iv1)))) 16 (by decide)) (by omega)) (by decide) rfl rfl rfl (Nat.le_of_ble_eq_true rfl) (oDec_at oX12_isOwnHere 95 rfl) (fun r74 u73 pu73 fu73 => ?_)
                  try dsimp only at pu73
                  try simp only [lk71, lk72] at pu73
                  obtain ⟨pu73_0, pu73_1, pu73_2, pu73_3, pu73_4, pu73_5, pu73_6⟩ := pu73
                  have rr74 := n_rng r74
                  have hy : r74.toInt = 1 → oqWi g a b ≠ -1 := fun h9 => by (have h8 := (oqWi_is (g := g) (a := a) (b := b) (i := 16) (by decide)).mpr (pu73_4 h9); omega)
                  refine r_if_ne C 218 (oDec_at oX12_isOwnHere 96 rfl) (by decide) (fun cd75 => ?_) (fun cd75 => ?_)
                  · skip
                    replace pu73_4 := pu73_4 (by omega)
                    clear pu73_5
                    replace pu73_6 := pu73_6 (by omega)
                    refine r_iconst C (oDec_at oX12_isOwnHere 102 rfl) (v := k1) (by rw [qk1]; rfl) ?_
                    refine r_goto C (tgt := 223) (oDec_at oX12_isOwnHere 103 rfl) (by decide) ?_
                    refine r_istore_n C (lv' := [(0, .ref (oad E 71)), (1, .int k1)]) [1, 0] (oDec_at oX12_isOwnHere 105 rfl) rfl (by decide) rfl ?_
                    have lk76 : ((u73).1 71 4).toInt = (t.1 71 4).toInt := congrArg Int32.toInt (((fu73 71 4 rfl).1).trans (((fu66 71 4 rfl).1).trans (((fu59 71 4 rfl).1).trans (((fu52 71 4 rfl).1).trans ((fu45 71 4 rfl).1)))))
                    have lk77 : ((u73).1 71 5).toInt = (t.1 71 5).toInt := congrArg Int32.toInt (((fu73 71 5 rfl).1).trans (((fu66 71 5 rfl).1).trans (((fu59 71 5 rfl).1).trans (((fu52 71 5 rfl).1).trans ((fu45 71 5 rfl).1)))))
                    exact (ih (n - 1) (by omega)).2.2.1 (u73) k1  (oqZ_fr fu73 rfl (oqZ_fr fu66 rfl (oqZ_fr fu59 rfl (oqZ_fr fu52 rfl (oqZ_fr fu45 rfl iv0))))) (oqWd_fr fu73 rfl (oqWd_fr fu66 rfl (oqWd_fr fu59 rfl (oqWd_fr fu52 rfl (oqWd_fr fu45 rfl iv1))))) (by omega) (by omega) (by omega) (by omega) (by first | exact fun _ => hy (by omega) | (intro h9; exfalso; omega) | exact fun _ => iv6 (by omega)) (by first | (intro h9; exfalso; omega) | exact fun _ i hi => by (by_cases h9 : i < 12; exact iv7 (by omega) i h9; (have h8 : i = 12 ∨ i = 13 ∨ i = 14 ∨ i = 15 ∨ i = 16 ∨ i = 17 := (by omega); rcases h8 with h8 | h8 | h8 | h8 | h8 | h8 <;> (rw [h8]; assumption)))) (by omega)
                  · skip
                    clear pu73_4
                    replace pu73_5 := pu73_5 (by omega)
                    clear pu73_6
                    clear hy
                    have hz16 : oqH g a b 16 = 0 := pu73_5
                    clear pu73_0 pu73_2 pu73_3 pu73_5
                    refine r_aload_n C (j := 0) (oDec_at oX12_isOwnHere 97 rfl) rfl rfl ?_
                    refine r_aload_n C (j := 0) (oDec_at oX12_isOwnHere 98 rfl) rfl rfl ?_
                    refine r_getF (k := 27) (b := 90) C oCl12 rfl (by decide) flX12_69 rfl rfl rfl (oDec_at oX12_isOwnHere 99 rfl) ?_
                    have lk78 : ((u73).1 71 4).toInt = (t.1 71 4).toInt := congrArg Int32.toInt (((fu73 71 4 rfl).1).trans (((fu66 71 4 rfl).1).trans (((fu59 71 4 rfl).1).trans (((fu52 71 4 rfl).1).trans ((fu45 71 4 rfl).1)))))
                    have lk79 : ((u73).1 71 5).toInt = (t.1 71 5).toInt := congrArg Int32.toInt (((fu73 71 5 rfl).1).trans (((fu66 71 5 rfl).1).trans (((fu59 71 5 rfl).1).trans (((fu52 71 5 rfl).1).trans ((fu45 71 5 rfl).1)))))
                    refine r_callVi C oCl12 rfl miX12_isHere mlX12_196 (ct4_X12_isHere l E (u73) 90 66 3 rfl (by decide) (by decide) rfl rfl (g) (a) (b) (17) (by omega) (by omega) (oqZ_fr fu73 rfl (oqZ_fr fu66 rfl (oqZ_fr fu59 rfl (oqZ_fr fu52 rfl (oqZ_fr fu45 rfl iv0))))) (by omega) (by omega) rfl (oqWd_at (oqWd_fr fu73 rfl (oqWd_fr fu66 rfl (oqWd_fr fu59 rfl (oqWd_fr fu52 rfl (oqWd_fr fu45 rfl iv1))))) 17 (by decide)) (by omega)) (by decide) rfl rfl rfl (Nat.le_of_ble_eq_true rfl) (oDec_at oX12_isOwnHere 100 rfl) (fun r81 u80 pu80 fu80 => ?_)
                    try dsimp only at pu80
                    try simp only [lk78, lk79] at pu80
                    obtain ⟨pu80_0, pu80_1, pu80_2, pu80_3, pu80_4, pu80_5, pu80_6⟩ := pu80
                    have rr81 := n_rng r81
                    have hy : r81.toInt = 1 → oqWi g a b ≠ -1 := fun h9 => by (have h8 := (oqWi_is (g := g) (a := a) (b := b) (i := 17) (by decide)).mpr (pu80_4 h9); omega)
                    refine r_if_eq C 222 (oDec_at oX12_isOwnHere 101 rfl) (by decide) (fun cd82 => ?_) (fun cd82 => ?_)
                    · skip
                      clear pu80_4
                      replace pu80_5 := pu80_5 (by omega)
                      clear pu80_6
                      clear hy
                      have hz17 : oqH g a b 17 = 0 := pu80_5
                      clear pu80_0 pu80_2 pu80_3 pu80_5
                      refine r_iconst C (oDec_at oX12_isOwnHere 104 rfl) (v := k0) (by rw [qk0]; rfl) ?_
                      refine r_istore_n C (lv' := [(0, .ref (oad E 71)), (1, .int k0)]) [1, 0] (oDec_at oX12_isOwnHere 105 rfl) rfl (by decide) rfl ?_
                      have lk83 : ((u80).1 71 4).toInt = (t.1 71 4).toInt := congrArg Int32.toInt (((fu80 71 4 rfl).1).trans (((fu73 71 4 rfl).1).trans (((fu66 71 4 rfl).1).trans (((fu59 71 4 rfl).1).trans (((fu52 71 4 rfl).1).trans ((fu45 71 4 rfl).1))))))
                      have lk84 : ((u80).1 71 5).toInt = (t.1 71 5).toInt := congrArg Int32.toInt (((fu80 71 5 rfl).1).trans (((fu73 71 5 rfl).1).trans (((fu66 71 5 rfl).1).trans (((fu59 71 5 rfl).1).trans (((fu52 71 5 rfl).1).trans ((fu45 71 5 rfl).1))))))
                      exact (ih (n - 1) (by omega)).2.2.1 (u80) k0  (oqZ_fr fu80 rfl (oqZ_fr fu73 rfl (oqZ_fr fu66 rfl (oqZ_fr fu59 rfl (oqZ_fr fu52 rfl (oqZ_fr fu45 rfl iv0)))))) (oqWd_fr fu80 rfl (oqWd_fr fu73 rfl (oqWd_fr fu66 rfl (oqWd_fr fu59 rfl (oqWd_fr fu52 rfl (oqWd_fr fu45 rfl iv1)))))) (by omega) (by omega) (by omega) (by omega) (by first | exact fun _ => hy (by omega) | (intro h9; exfalso; omega) | exact fun _ => iv6 (by omega)) (by first | (intro h9; exfalso; omega) | exact fun _ i hi => by (by_cases h9 : i < 12; exact iv7 (by omega) i h9; (have h8 : i = 12 ∨ i = 13 ∨ i = 14 ∨ i = 15 ∨ i = 16 ∨ i = 17 := (by omega); rcases h8 with h8 | h8 | h8 | h8 | h8 | h8 <;> (rw [h8]; assumption)))) (by omega)
                    · skip
                      replace pu80_4 := pu80_4 (by omega)
                      clear pu80_5
                      replace pu80_6 := pu80_6 (by omega)
                      refine r_iconst C (oDec_at oX12_isOwnHere 102 rfl) (v := k1) (by rw [qk1]; rfl) ?_
                      refine r_goto C (tgt := 223) (oDec_at oX12_isOwnHere 103 rfl) (by decide) ?_
                      refine r_istore_n C (lv' := [(0, .ref (oad E 71)), (1, .int k1)]) [1, 0] (oDec_at oX12_isOwnHere 105 rfl) rfl (by decide) rfl ?_
                      have lk85 : ((u80).1 71 4).toInt = (t.1 71 4).toInt := congrArg Int32.toInt (((fu80 71 4 rfl).1).trans (((fu73 71 4 rfl).1).trans (((fu66 71 4 rfl).1).trans (((fu59 71 4 rfl).1).trans (((fu52 71 4 rfl).1).trans ((fu45 71 4 rfl).1))))))
                      have lk86 : ((u80).1 71 5).toInt = (t.1 71 5).toInt := congrArg Int32.toInt (((fu80 71 5 rfl).1).trans (((fu73 71 5 rfl).1).trans (((fu66 71 5 rfl).1).trans (((fu59 71 5 rfl).1).trans (((fu52 71 5 rfl).1).trans ((fu45 71 5 rfl).1))))))
                      exact (ih (n - 1) (by omega)).2.2.1 (u80) k1  (oqZ_fr fu80 rfl (oqZ_fr fu73 rfl (oqZ_fr fu66 rfl (oqZ_fr fu59 rfl (oqZ_fr fu52 rfl (oqZ_fr fu45 rfl iv0)))))) (oqWd_fr fu80 rfl (oqWd_fr fu73 rfl (oqWd_fr fu66 rfl (oqWd_fr fu59 rfl (oqWd_fr fu52 rfl (oqWd_fr fu45 rfl iv1)))))) (by omega) (by omega) (by omega) (by omega) (by first | exact fun _ => hy (by omega) | (intro h9; exfalso; omega) | exact fun _ => iv6 (by omega)) (by first | (intro h9; exfalso; omega) | exact fun _ i hi => by (by_cases h9 : i < 12; exact iv7 (by omega) i h9; (have h8 : i = 12 ∨ i = 13 ∨ i = 14 ∨ i = 15 ∨ i = 16 ∨ i = 17 := (by omega); rcases h8 with h8 | h8 | h8 | h8 | h8 | h8 <;> (rw [h8]; assumption)))) (by omega)
      · intro t x1  iv0 iv1 iv2 iv3 iv4 iv5 iv6 iv7 hmu
        have rx1 := n_rng x1
        refine r_iload_n C (j := 1) (oDec_at oX12_isOwnHere 106 rfl) rfl rfl ?_
        refine r_if_ne C 294 (oDec_at oX12_isOwnHere 107 rfl) (by decide) (fun cd87 => ?_) (fun cd87 => ?_)
        · skip
          refine r_iconst C (oDec_at oX12_isOwnHere 138 rfl) (v := k1) (by rw [qk1]; rfl) ?_
          refine r_goto C (tgt := 299) (oDec_at oX12_isOwnHere 139 rfl) (by decide) ?_
          refine r_istore_n C (lv' := [(0, .ref (oad E 71)), (1, .int k1)]) [1, 0] (oDec_at oX12_isOwnHere 141 rfl) rfl (by decide) rfl ?_
          exact (ih (n - 1) (by omega)).2.2.2 (t) k1  iv0 iv1 (by omega) (by omega) (by omega) (by omega) (by first | exact fun _ => hy (by omega) | (intro h9; exfalso; omega) | exact fun _ => iv6 (by omega)) (by first | (intro h9; exfalso; omega) | exact fun _ i hi => by (by_cases h9 : i < 18; exact iv7 (by omega) i h9; (have h8 : i = 18 ∨ i = 19 ∨ i = 20 ∨ i = 21 ∨ i = 22 ∨ i = 23 := (by omega); rcases h8 with h8 | h8 | h8 | h8 | h8 | h8 <;> (rw [h8]; assumption)))) (by omega)
        · skip
          refine r_aload_n C (j := 0) (oDec_at oX12_isOwnHere 108 rfl) rfl rfl ?_
          refine r_aload_n C (j := 0) (oDec_at oX12_isOwnHere 109 rfl) rfl rfl ?_
          refine r_getF (k := 28) (b := 91) C oCl12 rfl (by decide) flX12_72 rfl rfl rfl (oDec_at oX12_isOwnHere 110 rfl) ?_
          refine r_callVi C oCl12 rfl miX12_isHere mlX12_196 (ct4_X12_isHere l E (t) 91 67 4 rfl (by decide) (by decide) rfl rfl (g) (a) (b) (18) (by omega) (by omega) iv0 (by omega) (by omega) rfl (oqWd_at iv1 18 (by decide)) (by omega)) (by decide) rfl rfl rfl (Nat.le_of_ble_eq_true rfl) (oDec_at oX12_isOwnHere 111 rfl) (fun r89 u88 pu88 fu88 => ?_)
          try dsimp only at pu88
          obtain ⟨pu88_0, pu88_1, pu88_2, pu88_3, pu88_4, pu88_5, pu88_6⟩ := pu88
          have rr89 := n_rng r89
          have hy : r89.toInt = 1 → oqWi g a b ≠ -1 := fun h9 => by (have h8 := (oqWi_is (g := g) (a := a) (b := b) (i := 18) (by decide)).mpr (pu88_4 h9); omega)
          refine r_if_ne C 294 (oDec_at oX12_isOwnHere 112 rfl) (by decide) (fun cd90 => ?_) (fun cd90 => ?_)
          · skip
            replace pu88_4 := pu88_4 (by omega)
            clear pu88_5
            replace pu88_6 := pu88_6 (by omega)
            refine r_iconst C (oDec_at oX12_isOwnHere 138 rfl) (v := k1) (by rw [qk1]; rfl) ?_
            refine r_goto C (tgt := 299) (oDec_at oX12_isOwnHere 139 rfl) (by decide) ?_
            refine r_istore_n C (lv' := [(0, .ref (oad E 71)), (1, .int k1)]) [1, 0] (oDec_at oX12_isOwnHere 141 rfl) rfl (by decide) rfl ?_
            have lk91 : ((u88).1 71 4).toInt = (t.1 71 4).toInt := congrArg Int32.toInt ((fu88 71 4 rfl).1)
            have lk92 : ((u88).1 71 5).toInt = (t.1 71 5).toInt := congrArg Int32.toInt ((fu88 71 5 rfl).1)
            exact (ih (n - 1) (by omega)).2.2.2 (u88) k1  (oqZ_fr fu88 rfl iv0) (oqWd_fr fu88 rfl iv1) (by omega) (by omega) (by omega) (by omega) (by first | exact fun _ => hy (by omega) | (intro h9; exfalso; omega) | exact fun _ => iv6 (by omega)) (by first | (intro h9; exfalso; omega) | exact fun _ i hi => by (by_cases h9 : i < 18; exact iv7 (by omega) i h9; (have h8 : i = 18 ∨ i = 19 ∨ i = 20 ∨ i = 21 ∨ i = 22 ∨ i = 23 := (by omega); rcases h8 with h8 | h8 | h8 | h8 | h8 | h8 <;> (rw [h8]; assumption)))) (by omega)
          · skip
            clear pu88_4
            replace pu88_5 := pu88_5 (by omega)
            clear pu88_6
            clear hy
            have hz18 : oqH g a b 18 = 0 := pu88_5
            clear pu88_0 pu88_2 pu88_3 pu88_5
            refine r_aload_n C (j := 0) (oDec_at oX12_isOwnHere 113 rfl) rfl rfl ?_
            refine r_aload_n C (j := 0) (oDec_at oX12_isOwnHere 114 rfl) rfl rfl ?_
            refine r_getF (k := 29) (b := 92) C oCl12 rfl (by decide) flX12_75 rfl rfl rfl (oDec_at oX12_isOwnHere 115 rfl) ?_
            have lk93 : ((u88).1 71 4).toInt = (t.1 71 4).toInt := congrArg Int32.toInt ((fu88 71 4 rfl).1)
            have lk94 : ((u88).1 71 5).toInt = (t.1 71 5).toInt := congrArg Int32.toInt ((fu88 71 5 rfl).1)
            refine r_callVi C oCl12 rfl miX12_isHere mlX12_196 (ct4_X12_isHere l E (u88) 92 68 5 rfl (by decide) (by decide) rfl rfl (g) (a) (b) (19) (by omega) (by omega) (oqZ_fr fu88 rfl iv0) (by omega) (by omega) rfl (oqWd_at (oqWd_fr fu88 rfl iv1) 19 (by decide)) (by omega)) (by decide) rfl rfl rfl (Nat.le_of_ble_eq_true rfl) (oDec_at oX12_isOwnHere 116 rfl) (fun r96 u95 pu95 fu95 => ?_)
            try dsimp only at pu95
            try simp only [lk93, lk94] at pu95
            obtain ⟨pu95_0, pu95_1, pu95_2, pu95_3, pu95_4, pu95_5, pu95_6⟩ := pu95
            have rr96 := n_rng r96
            have hy : r96.toInt = 1 → oqWi g a b ≠ -1 := fun h9 => by (have h8 := (oqWi_is (g := g) (a := a) (b := b) (i := 19) (by decide)).mpr (pu95_4 h9); omega)
            refine r_if_ne C 294 (oDec_at oX12_isOwnHere 117 rfl) (by decide) (fun cd97 => ?_) (fun cd97 => ?_)
            · skip
              replace pu95_4 := pu95_4 (by omega)
              clear pu95_5
              replace pu95_6 := pu95_6 (by omega)
              refine r_iconst C (oDec_at oX12_isOwnHere 138 rfl) (v := k1) (by rw [qk1]; rfl) ?_
              refine r_goto C (tgt := 299) (oDec_at oX12_isOwnHere 139 rfl) (by decide) ?_
              refine r_istore_n C (lv' := [(0, .ref (oad E 71)), (1, .int k1)]) [1, 0] (oDec_at oX12_isOwnHere 141 rfl) rfl (by decide) rfl ?_
              have lk98 : ((u95).1 71 4).toInt = (t.1 71 4).toInt := congrArg Int32.toInt (((fu95 71 4 rfl).1).trans ((fu88 71 4 rfl).1))
              have lk99 : ((u95).1 71 5).toInt = (t.1 71 5).toInt := congrArg Int32.toInt (((fu95 71 5 rfl).1).trans ((fu88 71 5 rfl).1))
              exact (ih (n - 1) (by omega)).2.2.2 (u95) k1  (oqZ_fr fu95 rfl (oqZ_fr fu88 rfl iv0)) (oqWd_fr fu95 rfl (oqWd_fr fu88 rfl iv1)) (by omega) (by omega) (by omega) (by omega) (by first | exact fun _ => hy (by omega) | (intro h9; exfalso; omega) | exact fun _ => iv6 (by omega)) (by first | (intro h9; exfalso; omega) | exact fun _ i hi => by (by_cases h9 : i < 18; exact iv7 (by omega) i h9; (have h8 : i = 18 ∨ i = 19 ∨ i = 20 ∨ i = 21 ∨ i = 22 ∨ i = 23 := (by omega); rcases h8 with h8 | h8 | h8 | h8 | h8 | h8 <;> (rw [h8]; assumption)))) (by omega)
            · skip
              clear pu95_4
              replace pu95_5 := pu95_5 (by omega)
              clear pu95_6
              clear hy
              have hz19 : oqH g a b 19 = 0 := pu95_5
              clear pu95_0 pu95_2 pu95_3 pu95_5
              refine r_aload_n C (j := 0) (oDec_at oX12_isOwnHere 118 rfl) rfl rfl ?_
              refine r_aload_n C (j := 0) (oDec_at oX12_isOwnHere 119 rfl) rfl rfl ?_
              refine r_getF (k := 30) (b := 93) C oCl12 rfl (by decide) flX12_78 rfl rfl rfl (oDec_at oX12_isOwnHere 120 rfl) ?_
              have lk100 : ((u95).1 71 4).toInt = (t.1 71 4).toInt := congrArg Int32.toInt (((fu95 71 4 rfl).1).trans ((fu88 71 4 rfl).1))
              have lk101 : ((u95).1 71 5).toInt = (t.1 71 5).toInt := congrArg Int32.toInt (((fu95 71 5 rfl).1).trans ((fu88 71 5 rfl).1))
              refine r_callVi C oCl12 rfl miX12_isHere mlX12_196 (ct4_X12_isHere l E (u95) 93 69 4 rfl (by decide) (by decide) rfl rfl (g) (a) (b) (20) (by omega) (by omega) (oqZ_fr fu95 rfl (oqZ_fr fu88 rfl iv0)) (by omega) (by omega) rfl (oqWd_at (oqWd_fr fu95 rfl (oqWd_fr fu88 rfl iv1)) 20 (by decide)) (by omega)) (by decide) rfl rfl rfl (Nat.le_of_ble_eq_true rfl) (oDec_at oX12_isOwnHere 121 rfl) (fun r103 u102 pu102 fu102 => ?_)
              try dsimp only at pu102
              try simp only [lk100, lk101] at pu102
              obtain ⟨pu102_0, pu102_1, pu102_2, pu102_3, pu102_4, pu102_5, pu102_6⟩ := pu102
              have rr103 := n_rng r103
              have hy : r103.toInt = 1 → oqWi g a b ≠ -1 := fun h9 => by (have h8 := (oqWi_is (g := g) (a := a) (b := b) (i := 20) (by decide)).mpr (pu102_4 h9); omega)
              refine r_if_ne C 294 (oDec_at oX12_isOwnHere 122 rfl) (by decide) (fun cd104 => ?_) (fun cd104 => ?_)
              · skip
                replace pu102_4 := pu102_4 (by omega)
                clear pu102_5
                replace pu102_6 := pu102_6 (by omega)
                refine r_iconst C (oDec_at oX12_isOwnHere 138 rfl) (v := k1) (by rw [qk1]; rfl) ?_
                refine r_goto C (tgt := 299) (oDec_at oX12_isOwnHere 139 rfl) (by decide) ?_
                refine r_istore_n C (lv' := [(0, .ref (oad E 71)), (1, .int k1)]) [1, 0] (oDec_at oX12_isOwnHere 141 rfl) rfl (by decide) rfl ?_
                have lk105 : ((u102).1 71 4).toInt = (t.1 71 4).toInt := congrArg Int32.toInt (((fu102 71 4 rfl).1).trans (((fu95 71 4 rfl).1).trans ((fu88 71 4 rfl).1)))
                have lk106 : ((u102).1 71 5).toInt = (t.1 71 5).toInt := congrArg Int32.toInt (((fu102 71 5 rfl).1).trans (((fu95 71 5 rfl).1).trans ((fu88 71 5 rfl).1)))
                exact (ih (n - 1) (by omega)).2.2.2 (u102) k1  (oqZ_fr fu102 rfl (oqZ_fr fu95 rfl (oqZ_fr fu88 rfl iv0))) (oqWd_fr fu102 rfl (oqWd_fr fu95 rfl (oqWd_fr fu88 rfl iv1))) (by omega) (by omega) (by omega) (by omega) (by first | exact fun _ => hy (by omega) | (intro h9; exfalso; omega) | exact fun _ => iv6 (by omega)) (by first | (intro h9; exfalso; omega) | exact fun _ i hi => by (by_cases h9 : i < 18; exact iv7 (by omega) i h9; (have h8 : i = 18 ∨ i = 19 ∨ i = 20 ∨ i = 21 ∨ i = 22 ∨ i = 23 := (by omega); rcases h8 with h8 | h8 | h8 | h8 | h8 | h8 <;> (rw [h8]; assumption)))) (by omega)
              · skip
                clear pu102_4
                replace pu102_5 := pu102_5 (by omega)
                clear pu102_6
                clear hy
                have hz20 : oqH g a b 20 = 0 := pu102_5
                clear pu102_0 pu102_2 pu102_3 pu102_5
                refine r_aload_n C (j := 0) (oDec_at oX12_isOwnHere 123 rfl) rfl rfl ?_
                refine r_aload_n C (j := 0) (oDec_at oX12_isOwnHere 124 rfl) rfl rfl ?_
                refine r_getF (k := 31) (b := 94) C oCl12 rfl (by decide) flX12_81 rfl rfl rfl (oDec_at oX12_isOwnHere 125 rfl) ?_
                have lk107 : ((u102).1 71 4).toInt = (t.1 71 4).toInt := congrArg Int32.toInt (((fu102 71 4 rfl).1).trans (((fu95 71 4 rfl).1).trans ((fu88 71 4 rfl).1)))
                have lk108 : ((u102).1 71 5).toInt = (t.1 71 5).toInt := congrArg Int32.toInt (((fu102 71 5 rfl).1).trans (((fu95 71 5 rfl).1).trans ((fu88 71 5 rfl).1)))
                refine r_callVi C oCl12 rfl miX12_isHere mlX12_196 (ct4_X12_isHere l E (u102) 94 70 6 rfl (by decide) (by decide) rfl rfl (g) (a) (b) (21) (by omega) (by omega) (oqZ_fr fu102 rfl (oqZ_fr fu95 rfl (oqZ_fr fu88 rfl iv0))) (by omega) (by omega) rfl (oqWd_at (oqWd_fr fu102 rfl (oqWd_fr fu95 rfl (oqWd_fr fu88 rfl iv1))) 21 (by decide)) (by omega)) (by decide) rfl rfl rfl (Nat.le_of_ble_eq_true rfl) (oDec_at oX12_isOwnHere 126 rfl) (fun r110 u109 pu109 fu109 => ?_)
                try dsimp only at pu109
                try simp only [lk107, lk108] at pu109
                obtain ⟨pu109_0, pu109_1, pu109_2, pu109_3, pu109_4, pu109_5, pu109_6⟩ := pu109
                have rr110 := n_rng r110
                have hy : r110.toInt = 1 → oqWi g a b ≠ -1 := fun h9 => by (have h8 := (oqWi_is (g := g) (a := a) (b := b) (i := 21) (by decide)).mpr (pu109_4 h9); omega)
                refine r_if_ne C 294 (oDec_at oX12_isOwnHere 127 rfl) (by decide) (fun cd111 => ?_) (fun cd111 => ?_)
                · skip
                  replace pu109_4 := pu109_4 (by omega)
                  clear pu109_5
                  replace pu109_6 := pu109_6 (by omega)
                  refine r_iconst C (oDec_at oX12_isOwnHere 138 rfl) (v := k1) (by rw [qk1]; rfl) ?_
                  refine r_goto C (tgt := 299) (oDec_at oX12_isOwnHere 139 rfl) (by decide) ?_
                  refine r_istore_n C (lv' := [(0, .ref (oad E 71)), (1, .int k1)]) [1, 0] (oDec_at oX12_isOwnHere 141 rfl) rfl (by decide) rfl ?_
                  have lk112 : ((u109).1 71 4).toInt = (t.1 71 4).toInt := congrArg Int32.toInt (((fu109 71 4 rfl).1).trans (((fu102 71 4 rfl).1).trans (((fu95 71 4 rfl).1).trans ((fu88 71 4 rfl).1))))
                  have lk113 : ((u109).1 71 5).toInt = (t.1 71 5).toInt := congrArg Int32.toInt (((fu109 71 5 rfl).1).trans (((fu102 71 5 rfl).1).trans (((fu95 71 5 rfl).1).trans ((fu88 71 5 rfl).1))))
                  exact (ih (n - 1) (by omega)).2.2.2 (u109) k1  (oqZ_fr fu109 rfl (oqZ_fr fu102 rfl (oqZ_fr fu95 rfl (oqZ_fr fu88 rfl iv0)))) (oqWd_fr fu109 rfl (oqWd_fr fu102 rfl (oqWd_fr fu95 rfl (oqWd_fr fu88 rfl iv1)))) (by omega) (by omega) (by omega) (by omega) (by first | exact fun _ => hy (by omega) | (intro h9; exfalso; omega) | exact fun _ => iv6 (by omega)) (by first | (intro h9; exfalso; omega) | exact fun _ i hi => by (by_cases h9 : i < 18; exact iv7 (by omega) i h9; (have h8 : i = 18 ∨ i = 19 ∨ i = 20 ∨ i = 21 ∨ i = 22 ∨ i = 23 := (by omega); rcases h8 with h8 | h8 | h8 | h8 | h8 | h8 <;> (rw [h8]; assumption)))) (by omega)
                · skip
                  clear pu109_4
                  replace pu109_5 := pu109_5 (by omega)
                  clear pu109_6
                  clear hy
                  have hz21 : oqH g a b 21 = 0 := pu109_5
                  clear pu109_0 pu109_2 pu109_3 pu109_5
                  refine r_aload_n C (j := 0) (oDec_at oX12_isOwnHere 128 rfl) rfl rfl ?_
                  refine r_aload_n C (j := 0) (oDec_at oX12_isOwnHere 129 rfl) rfl rfl ?_
                  refine r_getF (k := 32) (b := 95) C oCl12 rfl (by decide) flX12_84 rfl rfl rfl (oDec_at oX12_isOwnHere 130 rfl) ?_
                  have lk114 : ((u109).1 71 4).toInt = (t.1 71 4).toInt := congrArg Int32.toInt (((fu109 71 4 rfl).1).trans (((fu102 71 4 rfl).1).trans (((fu95 71 4 rfl).1).trans ((fu88 71 4 rfl).1))))
                  have lk115 : ((u109).1 71 5).toInt = (t.1 71 5).toInt := congrArg Int32.toInt (((fu109 71 5 rfl).1).trans (((fu102 71 5 rfl).1).trans (((fu95 71 5 rfl).1).trans ((fu88 71 5 rfl).1))))
                  refine r_callVi C oCl12 rfl miX12_isHere mlX12_196 (ct4_X12_isHere l E (u109) 95 71 4 rfl (by decide) (by decide) rfl rfl (g) (a) (b) (22) (by omega) (by omega) (oqZ_fr fu109 rfl (oqZ_fr fu102 rfl (oqZ_fr fu95 rfl (oqZ_fr fu88 rfl iv0)))) (by omega) (by omega) rfl (oqWd_at (oqWd_fr fu109 rfl (oqWd_fr fu102 rfl (oqWd_fr fu95 rfl (oqWd_fr fu88 rfl iv1)))) 22 (by decide)) (by omega)) (by decide) rfl rfl rfl (Nat.le_of_ble_eq_true rfl) (oDec_at oX12_isOwnHere 131 rfl) (fun r117 u116 pu116 fu116 => ?_)
                  try dsimp only at pu116
                  try simp only [lk114, lk115] at pu116
                  obtain ⟨pu116_0, pu116_1, pu116_2, pu116_3, pu116_4, pu116_5, pu116_6⟩ := pu116
                  have rr117 := n_rng r117
                  have hy : r117.toInt = 1 → oqWi g a b ≠ -1 := fun h9 => by (have h8 := (oqWi_is (g := g) (a := a) (b := b) (i := 22) (by decide)).mpr (pu116_4 h9); omega)
                  refine r_if_ne C 294 (oDec_at oX12_isOwnHere 132 rfl) (by decide) (fun cd118 => ?_) (fun cd118 => ?_)
                  · skip
                    replace pu116_4 := pu116_4 (by omega)
                    clear pu116_5
                    replace pu116_6 := pu116_6 (by omega)
                    refine r_iconst C (oDec_at oX12_isOwnHere 138 rfl) (v := k1) (by rw [qk1]; rfl) ?_
                    refine r_goto C (tgt := 299) (oDec_at oX12_isOwnHere 139 rfl) (by decide) ?_
                    refine r_istore_n C (lv' := [(0, .ref (oad E 71)), (1, .int k1)]) [1, 0] (oDec_at oX12_isOwnHere 141 rfl) rfl (by decide) rfl ?_
                    have lk119 : ((u116).1 71 4).toInt = (t.1 71 4).toInt := congrArg Int32.toInt (((fu116 71 4 rfl).1).trans (((fu109 71 4 rfl).1).trans (((fu102 71 4 rfl).1).trans (((fu95 71 4 rfl).1).trans ((fu88 71 4 rfl).1)))))
                    have lk120 : ((u116).1 71 5).toInt = (t.1 71 5).toInt := congrArg Int32.toInt (((fu116 71 5 rfl).1).trans (((fu109 71 5 rfl).1).trans (((fu102 71 5 rfl).1).trans (((fu95 71 5 rfl).1).trans ((fu88 71 5 rfl).1)))))
                    exact (ih (n - 1) (by omega)).2.2.2 (u116) k1  (oqZ_fr fu116 rfl (oqZ_fr fu109 rfl (oqZ_fr fu102 rfl (oqZ_fr fu95 rfl (oqZ_fr fu88 rfl iv0))))) (oqWd_fr fu116 rfl (oqWd_fr fu109 rfl (oqWd_fr fu102 rfl (oqWd_fr fu95 rfl (oqWd_fr fu88 rfl iv1))))) (by omega) (by omega) (by omega) (by omega) (by first | exact fun _ => hy (by omega) | (intro h9; exfalso; omega) | exact fun _ => iv6 (by omega)) (by first | (intro h9; exfalso; omega) | exact fun _ i hi => by (by_cases h9 : i < 18; exact iv7 (by omega) i h9; (have h8 : i = 18 ∨ i = 19 ∨ i = 20 ∨ i = 21 ∨ i = 22 ∨ i = 23 := (by omega); rcases h8 with h8 | h8 | h8 | h8 | h8 | h8 <;> (rw [h8]; assumption)))) (by omega)
                  · skip
                    clear pu116_4
                    replace pu116_5 := pu116_5 (by omega)
                    clear pu116_6
                    clear hy
                    have hz22 : oqH g a b 22 = 0 := pu116_5
                    clear pu116_0 pu116_2 pu116_3 pu116_5
                    refine r_aload_n C (j := 0) (oDec_at oX12_isOwnHere 133 rfl) rfl rfl ?_
                    refine r_aload_n C (j := 0) (oDec_at oX12_isOwnHere 134 rfl) rfl rfl ?_
                    refine r_getF (k := 33) (b := 96) C oCl12 rfl (by decide) flX12_87 rfl rfl rfl (oDec_at oX12_isOwnHere 135 rfl) ?_
                    have lk121 : ((u116).1 71 4).toInt = (t.1 71 4).toInt := congrArg Int32.toInt (((fu116 71 4 rfl).1).trans (((fu109 71 4 rfl).1).trans (((fu102 71 4 rfl).1).trans (((fu95 71 4 rfl).1).trans ((fu88 71 4 rfl).1)))))
                    have lk122 : ((u116).1 71 5).toInt = (t.1 71 5).toInt := congrArg Int32.toInt (((fu116 71 5 rfl).1).trans (((fu109 71 5 rfl).1).trans (((fu102 71 5 rfl).1).trans (((fu95 71 5 rfl).1).trans ((fu88 71 5 rfl).1)))))
                    refine r_callVi C oCl12 rfl miX12_isHere mlX12_196 (ct4_X12_isHere l E (u116) 96 72 4 rfl (by decide) (by decide) rfl rfl (g) (a) (b) (23) (by omega) (by omega) (oqZ_fr fu116 rfl (oqZ_fr fu109 rfl (oqZ_fr fu102 rfl (oqZ_fr fu95 rfl (oqZ_fr fu88 rfl iv0))))) (by omega) (by omega) rfl (oqWd_at (oqWd_fr fu116 rfl (oqWd_fr fu109 rfl (oqWd_fr fu102 rfl (oqWd_fr fu95 rfl (oqWd_fr fu88 rfl iv1))))) 23 (by decide)) (by omega)) (by decide) rfl rfl rfl (Nat.le_of_ble_eq_true rfl) (oDec_at oX12_isOwnHere 136 rfl) (fun r124 u123 pu123 fu123 => ?_)
                    try dsimp only at pu123
                    try simp only [lk121, lk122] at pu123
                    obtain ⟨pu123_0, pu123_1, pu123_2, pu123_3, pu123_4, pu123_5, pu123_6⟩ := pu123
                    have rr124 := n_rng r124
                    have hy : r124.toInt = 1 → oqWi g a b ≠ -1 := fun h9 => by (have h8 := (oqWi_is (g := g) (a := a) (b := b) (i := 23) (by decide)).mpr (pu123_4 h9); omega)
                    refine r_if_eq C 298 (oDec_at oX12_isOwnHere 137 rfl) (by decide) (fun cd125 => ?_) (fun cd125 => ?_)
                    · skip
                      clear pu123_4
                      replace pu123_5 := pu123_5 (by omega)
                      clear pu123_6
                      clear hy
                      have hz23 : oqH g a b 23 = 0 := pu123_5
                      clear pu123_0 pu123_2 pu123_3 pu123_5
                      refine r_iconst C (oDec_at oX12_isOwnHere 140 rfl) (v := k0) (by rw [qk0]; rfl) ?_
                      refine r_istore_n C (lv' := [(0, .ref (oad E 71)), (1, .int k0)]) [1, 0] (oDec_at oX12_isOwnHere 141 rfl) rfl (by decide) rfl ?_
                      have lk126 : ((u123).1 71 4).toInt = (t.1 71 4).toInt := congrArg Int32.toInt (((fu123 71 4 rfl).1).trans (((fu116 71 4 rfl).1).trans (((fu109 71 4 rfl).1).trans (((fu102 71 4 rfl).1).trans (((fu95 71 4 rfl).1).trans ((fu88 71 4 rfl).1))))))
                      have lk127 : ((u123).1 71 5).toInt = (t.1 71 5).toInt := congrArg Int32.toInt (((fu123 71 5 rfl).1).trans (((fu116 71 5 rfl).1).trans (((fu109 71 5 rfl).1).trans (((fu102 71 5 rfl).1).trans (((fu95 71 5 rfl).1).trans ((fu88 71 5 rfl).1))))))
                      exact (ih (n - 1) (by omega)).2.2.2 (u123) k0  (oqZ_fr fu123 rfl (oqZ_fr fu116 rfl (oqZ_fr fu109 rfl (oqZ_fr fu102 rfl (oqZ_fr fu95 rfl (oqZ_fr fu88 rfl iv0)))))) (oqWd_fr fu123 rfl (oqWd_fr fu116 rfl (oqWd_fr fu109 rfl (oqWd_fr fu102 rfl (oqWd_fr fu95 rfl (oqWd_fr fu88 rfl iv1)))))) (by omega) (by omega) (by omega) (by omega) (by first | exact fun _ => hy (by omega) | (intro h9; exfalso; omega) | exact fun _ => iv6 (by omega)) (by first | (intro h9; exfalso; omega) | exact fun _ i hi => by (by_cases h9 : i < 18; exact iv7 (by omega) i h9; (have h8 : i = 18 ∨ i = 19 ∨ i = 20 ∨ i = 21 ∨ i = 22 ∨ i = 23 := (by omega); rcases h8 with h8 | h8 | h8 | h8 | h8 | h8 <;> (rw [h8]; assumption)))) (by omega)
                    · skip
                      replace pu123_4 := pu123_4 (by omega)
                      clear pu123_5
                      replace pu123_6 := pu123_6 (by omega)
                      refine r_iconst C (oDec_at oX12_isOwnHere 138 rfl) (v := k1) (by rw [qk1]; rfl) ?_
                      refine r_goto C (tgt := 299) (oDec_at oX12_isOwnHere 139 rfl) (by decide) ?_
                      refine r_istore_n C (lv' := [(0, .ref (oad E 71)), (1, .int k1)]) [1, 0] (oDec_at oX12_isOwnHere 141 rfl) rfl (by decide) rfl ?_
                      have lk128 : ((u123).1 71 4).toInt = (t.1 71 4).toInt := congrArg Int32.toInt (((fu123 71 4 rfl).1).trans (((fu116 71 4 rfl).1).trans (((fu109 71 4 rfl).1).trans (((fu102 71 4 rfl).1).trans (((fu95 71 4 rfl).1).trans ((fu88 71 4 rfl).1))))))
                      have lk129 : ((u123).1 71 5).toInt = (t.1 71 5).toInt := congrArg Int32.toInt (((fu123 71 5 rfl).1).trans (((fu116 71 5 rfl).1).trans (((fu109 71 5 rfl).1).trans (((fu102 71 5 rfl).1).trans (((fu95 71 5 rfl).1).trans ((fu88 71 5 rfl).1))))))
                      exact (ih (n - 1) (by omega)).2.2.2 (u123) k1  (oqZ_fr fu123 rfl (oqZ_fr fu116 rfl (oqZ_fr fu109 rfl (oqZ_fr fu102 rfl (oqZ_fr fu95 rfl (oqZ_fr fu88 rfl iv0)))))) (oqWd_fr fu123 rfl (oqWd_fr fu116 rfl (oqWd_fr fu109 rfl (oqWd_fr fu102 rfl (oqWd_fr fu95 rfl (oqWd_fr fu88 rfl iv1)))))) (by omega) (by omega) (by omega) (by omega) (by first | exact fun _ => hy (by omega) | (intro h9; exfalso; omega) | exact fun _ => iv6 (by omega)) (by first | (intro h9; exfalso; omega) | exact fun _ i hi => by (by_cases h9 : i < 18; exact iv7 (by omega) i h9; (have h8 : i = 18 ∨ i = 19 ∨ i = 20 ∨ i = 21 ∨ i = 22 ∨ i = 23 := (by omega); rcases h8 with h8 | h8 | h8 | h8 | h8 | h8 <;> (rw [h8]; assumption)))) (by omega)
      · intro t x1  iv0 iv1 iv2 iv3 iv4 iv5 iv6 iv7 hmu
        have rx1 := n_rng x1
        refine r_iload_n C (j := 1) (oDec_at oX12_isOwnHere 142 rfl) rfl rfl ?_
        refine r_if_ne C 326 (oDec_at oX12_isOwnHere 143 rfl) (by decide) (fun cd130 => ?_) (fun cd130 => ?_)
        · skip
          refine r_iconst C (oDec_at oX12_isOwnHere 154 rfl) (v := k1) (by rw [qk1]; rfl) ?_
          refine r_goto C (tgt := 331) (oDec_at oX12_isOwnHere 155 rfl) (by decide) ?_
          refine r_istore_n C (lv' := [(0, .ref (oad E 71)), (1, .int k1)]) [1, 0] (oDec_at oX12_isOwnHere 157 rfl) rfl (by decide) rfl ?_
          refine r_iload_n C (j := 1) (oDec_at oX12_isOwnHere 158 rfl) rfl rfl ?_
          exact r_zret C (n_bool (by omega)) (oDec_at oX12_isOwnHere 159 rfl) ⟨_, rfl, ⟨by omega, by omega, by first | exact fun _ => hy (by omega) | (intro h9; exfalso; omega) | exact fun _ => iv6 (by omega), by first | (intro h9; exfalso; omega) | exact fun _ => oqWi_no (fun i hi => by (by_cases h9 : i < 24; exact iv7 (by omega) i h9; (have h8 : i = 24 ∨ i = 25 := (by omega); rcases h8 with h8 | h8 <;> (rw [h8]; assumption)))), by omega⟩⟩
        · skip
          refine r_aload_n C (j := 0) (oDec_at oX12_isOwnHere 144 rfl) rfl rfl ?_
          refine r_aload_n C (j := 0) (oDec_at oX12_isOwnHere 145 rfl) rfl rfl ?_
          refine r_getF (k := 34) (b := 97) C oCl12 rfl (by decide) flX12_90 rfl rfl rfl (oDec_at oX12_isOwnHere 146 rfl) ?_
          refine r_callVi C oCl12 rfl miX12_isHere mlX12_196 (ct4_X12_isHere l E (t) 97 73 3 rfl (by decide) (by decide) rfl rfl (g) (a) (b) (24) (by omega) (by omega) iv0 (by omega) (by omega) rfl (oqWd_at iv1 24 (by decide)) (by omega)) (by decide) rfl rfl rfl (Nat.le_of_ble_eq_true rfl) (oDec_at oX12_isOwnHere 147 rfl) (fun r132 u131 pu131 fu131 => ?_)
          try dsimp only at pu131
          obtain ⟨pu131_0, pu131_1, pu131_2, pu131_3, pu131_4, pu131_5, pu131_6⟩ := pu131
          have rr132 := n_rng r132
          have hy : r132.toInt = 1 → oqWi g a b ≠ -1 := fun h9 => by (have h8 := (oqWi_is (g := g) (a := a) (b := b) (i := 24) (by decide)).mpr (pu131_4 h9); omega)
          refine r_if_ne C 326 (oDec_at oX12_isOwnHere 148 rfl) (by decide) (fun cd133 => ?_) (fun cd133 => ?_)
          · skip
            replace pu131_4 := pu131_4 (by omega)
            clear pu131_5
            replace pu131_6 := pu131_6 (by omega)
            refine r_iconst C (oDec_at oX12_isOwnHere 154 rfl) (v := k1) (by rw [qk1]; rfl) ?_
            refine r_goto C (tgt := 331) (oDec_at oX12_isOwnHere 155 rfl) (by decide) ?_
            refine r_istore_n C (lv' := [(0, .ref (oad E 71)), (1, .int k1)]) [1, 0] (oDec_at oX12_isOwnHere 157 rfl) rfl (by decide) rfl ?_
            refine r_iload_n C (j := 1) (oDec_at oX12_isOwnHere 158 rfl) rfl rfl ?_
            exact r_zret C (n_bool (by omega)) (oDec_at oX12_isOwnHere 159 rfl) ⟨_, rfl, ⟨by omega, by omega, by first | exact fun _ => hy (by omega) | (intro h9; exfalso; omega) | exact fun _ => iv6 (by omega), by first | (intro h9; exfalso; omega) | exact fun _ => oqWi_no (fun i hi => by (by_cases h9 : i < 24; exact iv7 (by omega) i h9; (have h8 : i = 24 ∨ i = 25 := (by omega); rcases h8 with h8 | h8 <;> (rw [h8]; assumption)))), by omega⟩⟩
          · skip
            clear pu131_4
            replace pu131_5 := pu131_5 (by omega)
            clear pu131_6
            clear hy
            have hz24 : oqH g a b 24 = 0 := pu131_5
            clear pu131_0 pu131_2 pu131_3 pu131_5
            refine r_aload_n C (j := 0) (oDec_at oX12_isOwnHere 149 rfl) rfl rfl ?_
            refine r_aload_n C (j := 0) (oDec_at oX12_isOwnHere 150 rfl) rfl rfl ?_
            refine r_getF (k := 35) (b := 98) C oCl12 rfl (by decide) flX12_93 rfl rfl rfl (oDec_at oX12_isOwnHere 151 rfl) ?_
            have lk134 : ((u131).1 71 4).toInt = (t.1 71 4).toInt := congrArg Int32.toInt ((fu131 71 4 rfl).1)
            have lk135 : ((u131).1 71 5).toInt = (t.1 71 5).toInt := congrArg Int32.toInt ((fu131 71 5 rfl).1)
            refine r_callVi C oCl12 rfl miX12_isHere mlX12_196 (ct4_X12_isHere l E (u131) 98 74 3 rfl (by decide) (by decide) rfl rfl (g) (a) (b) (25) (by omega) (by omega) (oqZ_fr fu131 rfl iv0) (by omega) (by omega) rfl (oqWd_at (oqWd_fr fu131 rfl iv1) 25 (by decide)) (by omega)) (by decide) rfl rfl rfl (Nat.le_of_ble_eq_true rfl) (oDec_at oX12_isOwnHere 152 rfl) (fun r137 u136 pu136 fu136 => ?_)
            try dsimp only at pu136
            try simp only [lk134, lk135] at pu136
            obtain ⟨pu136_0, pu136_1, pu136_2, pu136_3, pu136_4, pu136_5, pu136_6⟩ := pu136
            have rr137 := n_rng r137
            have hy : r137.toInt = 1 → oqWi g a b ≠ -1 := fun h9 => by (have h8 := (oqWi_is (g := g) (a := a) (b := b) (i := 25) (by decide)).mpr (pu136_4 h9); omega)
            refine r_if_eq C 330 (oDec_at oX12_isOwnHere 153 rfl) (by decide) (fun cd138 => ?_) (fun cd138 => ?_)
            · skip
              clear pu136_4
              replace pu136_5 := pu136_5 (by omega)
              clear pu136_6
              clear hy
              have hz25 : oqH g a b 25 = 0 := pu136_5
              clear pu136_0 pu136_2 pu136_3 pu136_5
              refine r_iconst C (oDec_at oX12_isOwnHere 156 rfl) (v := k0) (by rw [qk0]; rfl) ?_
              refine r_istore_n C (lv' := [(0, .ref (oad E 71)), (1, .int k0)]) [1, 0] (oDec_at oX12_isOwnHere 157 rfl) rfl (by decide) rfl ?_
              refine r_iload_n C (j := 1) (oDec_at oX12_isOwnHere 158 rfl) rfl rfl ?_
              exact r_zret C (n_bool (by omega)) (oDec_at oX12_isOwnHere 159 rfl) ⟨_, rfl, ⟨by omega, by omega, by first | exact fun _ => hy (by omega) | (intro h9; exfalso; omega) | exact fun _ => iv6 (by omega), by first | (intro h9; exfalso; omega) | exact fun _ => oqWi_no (fun i hi => by (by_cases h9 : i < 24; exact iv7 (by omega) i h9; (have h8 : i = 24 ∨ i = 25 := (by omega); rcases h8 with h8 | h8 <;> (rw [h8]; assumption)))), by omega⟩⟩
            · skip
              replace pu136_4 := pu136_4 (by omega)
              clear pu136_5
              replace pu136_6 := pu136_6 (by omega)
              refine r_iconst C (oDec_at oX12_isOwnHere 154 rfl) (v := k1) (by rw [qk1]; rfl) ?_
              refine r_goto C (tgt := 331) (oDec_at oX12_isOwnHere 155 rfl) (by decide) ?_
              refine r_istore_n C (lv' := [(0, .ref (oad E 71)), (1, .int k1)]) [1, 0] (oDec_at oX12_isOwnHere 157 rfl) rfl (by decide) rfl ?_
              refine r_iload_n C (j := 1) (oDec_at oX12_isOwnHere 158 rfl) rfl rfl ?_
              exact r_zret C (n_bool (by omega)) (oDec_at oX12_isOwnHere 159 rfl) ⟨_, rfl, ⟨by omega, by omega, by first | exact fun _ => hy (by omega) | (intro h9; exfalso; omega) | exact fun _ => iv6 (by omega), by first | (intro h9; exfalso; omega) | exact fun _ => oqWi_no (fun i hi => by (by_cases h9 : i < 24; exact iv7 (by omega) i h9; (have h8 : i = 24 ∨ i = 25 := (by omega); rcases h8 with h8 | h8 <;> (rw [h8]; assumption)))), by omega⟩⟩
  refine r_aload_n C (j := 0) (oDec_at oX12_isOwnHere 0 rfl) rfl rfl ?_
  refine r_aload_n C (j := 0) (oDec_at oX12_isOwnHere 1 rfl) rfl rfl ?_
  refine r_getF (k := 10) (b := 73) C oCl12 rfl (by decide) flX12_17 rfl rfl rfl (oDec_at oX12_isOwnHere 2 rfl) ?_
  refine r_callVi C oCl12 rfl miX12_isHere mlX12_196 (ct4_X12_isHere l E (s) 73 49 4 rfl (by decide) (by decide) rfl rfl (g) (a) (b) (0) (by omega) (by omega) hp2 (by omega) (by omega) rfl (oqWd_at hp4 0 (by decide)) (by omega)) (by decide) rfl rfl rfl (Nat.le_of_ble_eq_true rfl) (oDec_at oX12_isOwnHere 3 rfl) (fun r140 u139 pu139 fu139 => ?_)
  try dsimp only at pu139
  obtain ⟨pu139_0, pu139_1, pu139_2, pu139_3, pu139_4, pu139_5, pu139_6⟩ := pu139
  have rr140 := n_rng r140
  have hy : r140.toInt = 1 → oqWi g a b ≠ -1 := fun h9 => by (have h8 := (oqWi_is (g := g) (a := a) (b := b) (i := 0) (by decide)).mpr (pu139_4 h9); omega)
  refine r_if_ne C 66 (oDec_at oX12_isOwnHere 4 rfl) (by decide) (fun cd141 => ?_) (fun cd141 => ?_)
  · skip
    replace pu139_4 := pu139_4 (by omega)
    clear pu139_5
    replace pu139_6 := pu139_6 (by omega)
    refine r_iconst C (oDec_at oX12_isOwnHere 30 rfl) (v := k1) (by rw [qk1]; rfl) ?_
    refine r_goto C (tgt := 71) (oDec_at oX12_isOwnHere 31 rfl) (by decide) ?_
    refine r_istore_n C (lv' := [(0, .ref (oad E 71)), (1, .int k1)]) [1, 0] (oDec_at oX12_isOwnHere 33 rfl) rfl (by decide) rfl ?_
    have lk142 : ((u139).1 71 4).toInt = (s.1 71 4).toInt := congrArg Int32.toInt ((fu139 71 4 rfl).1)
    have lk143 : ((u139).1 71 5).toInt = (s.1 71 5).toInt := congrArg Int32.toInt ((fu139 71 5 rfl).1)
    exact (key ((4 : Int)).toNat).1 (u139) k1  (oqZ_fr fu139 rfl hp2) (oqWd_fr fu139 rfl hp4) (by omega) (by omega) (by omega) (by omega) (by first | exact fun _ => hy (by omega) | (intro h9; exfalso; omega)) (by first | (intro h9; exfalso; omega) | exact fun _ i hi => by (have h8 : i = 0 ∨ i = 1 ∨ i = 2 ∨ i = 3 ∨ i = 4 ∨ i = 5 := (by omega); rcases h8 with h8 | h8 | h8 | h8 | h8 | h8 <;> (rw [h8]; assumption))) (by omega)
  · skip
    clear pu139_4
    replace pu139_5 := pu139_5 (by omega)
    clear pu139_6
    clear hy
    have hz0 : oqH g a b 0 = 0 := pu139_5
    clear pu139_0 pu139_2 pu139_3 pu139_5
    refine r_aload_n C (j := 0) (oDec_at oX12_isOwnHere 5 rfl) rfl rfl ?_
    refine r_aload_n C (j := 0) (oDec_at oX12_isOwnHere 6 rfl) rfl rfl ?_
    refine r_getF (k := 11) (b := 74) C oCl12 rfl (by decide) flX12_21 rfl rfl rfl (oDec_at oX12_isOwnHere 7 rfl) ?_
    have lk144 : ((u139).1 71 4).toInt = (s.1 71 4).toInt := congrArg Int32.toInt ((fu139 71 4 rfl).1)
    have lk145 : ((u139).1 71 5).toInt = (s.1 71 5).toInt := congrArg Int32.toInt ((fu139 71 5 rfl).1)
    refine r_callVi C oCl12 rfl miX12_isHere mlX12_196 (ct4_X12_isHere l E (u139) 74 50 3 rfl (by decide) (by decide) rfl rfl (g) (a) (b) (1) (by omega) (by omega) (oqZ_fr fu139 rfl hp2) (by omega) (by omega) rfl (oqWd_at (oqWd_fr fu139 rfl hp4) 1 (by decide)) (by omega)) (by decide) rfl rfl rfl (Nat.le_of_ble_eq_true rfl) (oDec_at oX12_isOwnHere 8 rfl) (fun r147 u146 pu146 fu146 => ?_)
    try dsimp only at pu146
    try simp only [lk144, lk145] at pu146
    obtain ⟨pu146_0, pu146_1, pu146_2, pu146_3, pu146_4, pu146_5, pu146_6⟩ := pu146
    have rr147 := n_rng r147
    have hy : r147.toInt = 1 → oqWi g a b ≠ -1 := fun h9 => by (have h8 := (oqWi_is (g := g) (a := a) (b := b) (i := 1) (by decide)).mpr (pu146_4 h9); omega)
    refine r_if_ne C 66 (oDec_at oX12_isOwnHere 9 rfl) (by decide) (fun cd148 => ?_) (fun cd148 => ?_)
    · skip
      replace pu146_4 := pu146_4 (by omega)
      clear pu146_5
      replace pu146_6 := pu146_6 (by omega)
      refine r_iconst C (oDec_at oX12_isOwnHere 30 rfl) (v := k1) (by rw [qk1]; rfl) ?_
      refine r_goto C (tgt := 71) (oDec_at oX12_isOwnHere 31 rfl) (by decide) ?_
      refine r_istore_n C (lv' := [(0, .ref (oad E 71)), (1, .int k1)]) [1, 0] (oDec_at oX12_isOwnHere 33 rfl) rfl (by decide) rfl ?_
      have lk149 : ((u146).1 71 4).toInt = (s.1 71 4).toInt := congrArg Int32.toInt (((fu146 71 4 rfl).1).trans ((fu139 71 4 rfl).1))
      have lk150 : ((u146).1 71 5).toInt = (s.1 71 5).toInt := congrArg Int32.toInt (((fu146 71 5 rfl).1).trans ((fu139 71 5 rfl).1))
      exact (key ((4 : Int)).toNat).1 (u146) k1  (oqZ_fr fu146 rfl (oqZ_fr fu139 rfl hp2)) (oqWd_fr fu146 rfl (oqWd_fr fu139 rfl hp4)) (by omega) (by omega) (by omega) (by omega) (by first | exact fun _ => hy (by omega) | (intro h9; exfalso; omega)) (by first | (intro h9; exfalso; omega) | exact fun _ i hi => by (have h8 : i = 0 ∨ i = 1 ∨ i = 2 ∨ i = 3 ∨ i = 4 ∨ i = 5 := (by omega); rcases h8 with h8 | h8 | h8 | h8 | h8 | h8 <;> (rw [h8]; assumption))) (by omega)
    · skip
      clear pu146_4
      replace pu146_5 := pu146_5 (by omega)
      clear pu146_6
      clear hy
      have hz1 : oqH g a b 1 = 0 := pu146_5
      clear pu146_0 pu146_2 pu146_3 pu146_5
      refine r_aload_n C (j := 0) (oDec_at oX12_isOwnHere 10 rfl) rfl rfl ?_
      refine r_aload_n C (j := 0) (oDec_at oX12_isOwnHere 11 rfl) rfl rfl ?_
      refine r_getF (k := 12) (b := 75) C oCl12 rfl (by decide) flX12_24 rfl rfl rfl (oDec_at oX12_isOwnHere 12 rfl) ?_
      have lk151 : ((u146).1 71 4).toInt = (s.1 71 4).toInt := congrArg Int32.toInt (((fu146 71 4 rfl).1).trans ((fu139 71 4 rfl).1))
      have lk152 : ((u146).1 71 5).toInt = (s.1 71 5).toInt := congrArg Int32.toInt (((fu146 71 5 rfl).1).trans ((fu139 71 5 rfl).1))
      refine r_callVi C oCl12 rfl miX12_isHere mlX12_196 (ct4_X12_isHere l E (u146) 75 51 4 rfl (by decide) (by decide) rfl rfl (g) (a) (b) (2) (by omega) (by omega) (oqZ_fr fu146 rfl (oqZ_fr fu139 rfl hp2)) (by omega) (by omega) rfl (oqWd_at (oqWd_fr fu146 rfl (oqWd_fr fu139 rfl hp4)) 2 (by decide)) (by omega)) (by decide) rfl rfl rfl (Nat.le_of_ble_eq_true rfl) (oDec_at oX12_isOwnHere 13 rfl) (fun r154 u153 pu153 fu153 => ?_)
      try dsimp only at pu153
      try simp only [lk151, lk152] at pu153
      obtain ⟨pu153_0, pu153_1, pu153_2, pu153_3, pu153_4, pu153_5, pu153_6⟩ := pu153
      have rr154 := n_rng r154
      have hy : r154.toInt = 1 → oqWi g a b ≠ -1 := fun h9 => by (have h8 := (oqWi_is (g := g) (a := a) (b := b) (i := 2) (by decide)).mpr (pu153_4 h9); omega)
      refine r_if_ne C 66 (oDec_at oX12_isOwnHere 14 rfl) (by decide) (fun cd155 => ?_) (fun cd155 => ?_)
      · skip
        replace pu153_4 := pu153_4 (by omega)
        clear pu153_5
        replace pu153_6 := pu153_6 (by omega)
        refine r_iconst C (oDec_at oX12_isOwnHere 30 rfl) (v := k1) (by rw [qk1]; rfl) ?_
        refine r_goto C (tgt := 71) (oDec_at oX12_isOwnHere 31 rfl) (by decide) ?_
        refine r_istore_n C (lv' := [(0, .ref (oad E 71)), (1, .int k1)]) [1, 0] (oDec_at oX12_isOwnHere 33 rfl) rfl (by decide) rfl ?_
        have lk156 : ((u153).1 71 4).toInt = (s.1 71 4).toInt := congrArg Int32.toInt (((fu153 71 4 rfl).1).trans (((fu146 71 4 rfl).1).trans ((fu139 71 4 rfl).1)))
        have lk157 : ((u153).1 71 5).toInt = (s.1 71 5).toInt := congrArg Int32.toInt (((fu153 71 5 rfl).1).trans (((fu146 71 5 rfl).1).trans ((fu139 71 5 rfl).1)))
        exact (key ((4 : Int)).toNat).1 (u153) k1  (oqZ_fr fu153 rfl (oqZ_fr fu146 rfl (oqZ_fr fu139 rfl hp2))) (oqWd_fr fu153 rfl (oqWd_fr fu146 rfl (oqWd_fr fu139 rfl hp4))) (by omega) (by omega) (by omega) (by omega) (by first | exact fun _ => hy (by omega) | (intro h9; exfalso; omega)) (by first | (intro h9; exfalso; omega) | exact fun _ i hi => by (have h8 : i = 0 ∨ i = 1 ∨ i = 2 ∨ i = 3 ∨ i = 4 ∨ i = 5 := (by omega); rcases h8 with h8 | h8 | h8 | h8 | h8 | h8 <;> (rw [h8]; assumption))) (by omega)
      · skip
        clear pu153_4
        replace pu153_5 := pu153_5 (by omega)
        clear pu153_6
        clear hy
        have hz2 : oqH g a b 2 = 0 := pu153_5
        clear pu153_0 pu153_2 pu153_3 pu153_5
        refine r_aload_n C (j := 0) (oDec_at oX12_isOwnHere 15 rfl) rfl rfl ?_
        refine r_aload_n C (j := 0) (oDec_at oX12_isOwnHere 16 rfl) rfl rfl ?_
        refine r_getF (k := 13) (b := 76) C oCl12 rfl (by decide) flX12_27 rfl rfl rfl (oDec_at oX12_isOwnHere 17 rfl) ?_
        have lk158 : ((u153).1 71 4).toInt = (s.1 71 4).toInt := congrArg Int32.toInt (((fu153 71 4 rfl).1).trans (((fu146 71 4 rfl).1).trans ((fu139 71 4 rfl).1)))
        have lk159 : ((u153).1 71 5).toInt = (s.1 71 5).toInt := congrArg Int32.toInt (((fu153 71 5 rfl).1).trans (((fu146 71 5 rfl).1).trans ((fu139 71 5 rfl).1)))
        refine r_callVi C oCl12 rfl miX12_isHere mlX12_196 (ct4_X12_isHere l E (u153) 76 52 7 rfl (by decide) (by decide) rfl rfl (g) (a) (b) (3) (by omega) (by omega) (oqZ_fr fu153 rfl (oqZ_fr fu146 rfl (oqZ_fr fu139 rfl hp2))) (by omega) (by omega) rfl (oqWd_at (oqWd_fr fu153 rfl (oqWd_fr fu146 rfl (oqWd_fr fu139 rfl hp4))) 3 (by decide)) (by omega)) (by decide) rfl rfl rfl (Nat.le_of_ble_eq_true rfl) (oDec_at oX12_isOwnHere 18 rfl) (fun r161 u160 pu160 fu160 => ?_)
        try dsimp only at pu160
        try simp only [lk158, lk159] at pu160
        obtain ⟨pu160_0, pu160_1, pu160_2, pu160_3, pu160_4, pu160_5, pu160_6⟩ := pu160
        have rr161 := n_rng r161
        have hy : r161.toInt = 1 → oqWi g a b ≠ -1 := fun h9 => by (have h8 := (oqWi_is (g := g) (a := a) (b := b) (i := 3) (by decide)).mpr (pu160_4 h9); omega)
        refine r_if_ne C 66 (oDec_at oX12_isOwnHere 19 rfl) (by decide) (fun cd162 => ?_) (fun cd162 => ?_)
        · skip
          replace pu160_4 := pu160_4 (by omega)
          clear pu160_5
          replace pu160_6 := pu160_6 (by omega)
          refine r_iconst C (oDec_at oX12_isOwnHere 30 rfl) (v := k1) (by rw [qk1]; rfl) ?_
          refine r_goto C (tgt := 71) (oDec_at oX12_isOwnHere 31 rfl) (by decide) ?_
          refine r_istore_n C (lv' := [(0, .ref (oad E 71)), (1, .int k1)]) [1, 0] (oDec_at oX12_isOwnHere 33 rfl) rfl (by decide) rfl ?_
          have lk163 : ((u160).1 71 4).toInt = (s.1 71 4).toInt := congrArg Int32.toInt (((fu160 71 4 rfl).1).trans (((fu153 71 4 rfl).1).trans (((fu146 71 4 rfl).1).trans ((fu139 71 4 rfl).1))))
          have lk164 : ((u160).1 71 5).toInt = (s.1 71 5).toInt := congrArg Int32.toInt (((fu160 71 5 rfl).1).trans (((fu153 71 5 rfl).1).trans (((fu146 71 5 rfl).1).trans ((fu139 71 5 rfl).1))))
          exact (key ((4 : Int)).toNat).1 (u160) k1  (oqZ_fr fu160 rfl (oqZ_fr fu153 rfl (oqZ_fr fu146 rfl (oqZ_fr fu139 rfl hp2)))) (oqWd_fr fu160 rfl (oqWd_fr fu153 rfl (oqWd_fr fu146 rfl (oqWd_fr fu139 rfl hp4)))) (by omega) (by omega) (by omega) (by omega) (by first | exact fun _ => hy (by omega) | (intro h9; exfalso; omega)) (by first | (intro h9; exfalso; omega) | exact fun _ i hi => by (have h8 : i = 0 ∨ i = 1 ∨ i = 2 ∨ i = 3 ∨ i = 4 ∨ i = 5 := (by omega); rcases h8 with h8 | h8 | h8 | h8 | h8 | h8 <;> (rw [h8]; assumption))) (by omega)
        · skip
          clear pu160_4
          replace pu160_5 := pu160_5 (by omega)
          clear pu160_6
          clear hy
          have hz3 : oqH g a b 3 = 0 := pu160_5
          clear pu160_0 pu160_2 pu160_3 pu160_5
          refine r_aload_n C (j := 0) (oDec_at oX12_isOwnHere 20 rfl) rfl rfl ?_
          refine r_aload_n C (j := 0) (oDec_at oX12_isOwnHere 21 rfl) rfl rfl ?_
          refine r_getF (k := 14) (b := 77) C oCl12 rfl (by decide) flX12_30 rfl rfl rfl (oDec_at oX12_isOwnHere 22 rfl) ?_
          have lk165 : ((u160).1 71 4).toInt = (s.1 71 4).toInt := congrArg Int32.toInt (((fu160 71 4 rfl).1).trans (((fu153 71 4 rfl).1).trans (((fu146 71 4 rfl).1).trans ((fu139 71 4 rfl).1))))
          have lk166 : ((u160).1 71 5).toInt = (s.1 71 5).toInt := congrArg Int32.toInt (((fu160 71 5 rfl).1).trans (((fu153 71 5 rfl).1).trans (((fu146 71 5 rfl).1).trans ((fu139 71 5 rfl).1))))
          refine r_callVi C oCl12 rfl miX12_isHere mlX12_196 (ct4_X12_isHere l E (u160) 77 53 3 rfl (by decide) (by decide) rfl rfl (g) (a) (b) (4) (by omega) (by omega) (oqZ_fr fu160 rfl (oqZ_fr fu153 rfl (oqZ_fr fu146 rfl (oqZ_fr fu139 rfl hp2)))) (by omega) (by omega) rfl (oqWd_at (oqWd_fr fu160 rfl (oqWd_fr fu153 rfl (oqWd_fr fu146 rfl (oqWd_fr fu139 rfl hp4)))) 4 (by decide)) (by omega)) (by decide) rfl rfl rfl (Nat.le_of_ble_eq_true rfl) (oDec_at oX12_isOwnHere 23 rfl) (fun r168 u167 pu167 fu167 => ?_)
          try dsimp only at pu167
          try simp only [lk165, lk166] at pu167
          obtain ⟨pu167_0, pu167_1, pu167_2, pu167_3, pu167_4, pu167_5, pu167_6⟩ := pu167
          have rr168 := n_rng r168
          have hy : r168.toInt = 1 → oqWi g a b ≠ -1 := fun h9 => by (have h8 := (oqWi_is (g := g) (a := a) (b := b) (i := 4) (by decide)).mpr (pu167_4 h9); omega)
          refine r_if_ne C 66 (oDec_at oX12_isOwnHere 24 rfl) (by decide) (fun cd169 => ?_) (fun cd169 => ?_)
          · skip
            replace pu167_4 := pu167_4 (by omega)
            clear pu167_5
            replace pu167_6 := pu167_6 (by omega)
            refine r_iconst C (oDec_at oX12_isOwnHere 30 rfl) (v := k1) (by rw [qk1]; rfl) ?_
            refine r_goto C (tgt := 71) (oDec_at oX12_isOwnHere 31 rfl) (by decide) ?_
            refine r_istore_n C (lv' := [(0, .ref (oad E 71)), (1, .int k1)]) [1, 0] (oDec_at oX12_isOwnHere 33 rfl) rfl (by decide) rfl ?_
            have lk170 : ((u167).1 71 4).toInt = (s.1 71 4).toInt := congrArg Int32.toInt (((fu167 71 4 rfl).1).trans (((fu160 71 4 rfl).1).trans (((fu153 71 4 rfl).1).trans (((fu146 71 4 rfl).1).trans ((fu139 71 4 rfl).1)))))
            have lk171 : ((u167).1 71 5).toInt = (s.1 71 5).toInt := congrArg Int32.toInt (((fu167 71 5 rfl).1).trans (((fu160 71 5 rfl).1).trans (((fu153 71 5 rfl).1).trans (((fu146 71 5 rfl).1).trans ((fu139 71 5 rfl).1)))))
            exact (key ((4 : Int)).toNat).1 (u167) k1  (oqZ_fr fu167 rfl (oqZ_fr fu160 rfl (oqZ_fr fu153 rfl (oqZ_fr fu146 rfl (oqZ_fr fu139 rfl hp2))))) (oqWd_fr fu167 rfl (oqWd_fr fu160 rfl (oqWd_fr fu153 rfl (oqWd_fr fu146 rfl (oqWd_fr fu139 rfl hp4))))) (by omega) (by omega) (by omega) (by omega) (by first | exact fun _ => hy (by omega) | (intro h9; exfalso; omega)) (by first | (intro h9; exfalso; omega) | exact fun _ i hi => by (have h8 : i = 0 ∨ i = 1 ∨ i = 2 ∨ i = 3 ∨ i = 4 ∨ i = 5 := (by omega); rcases h8 with h8 | h8 | h8 | h8 | h8 | h8 <;> (rw [h8]; assumption))) (by omega)
          · skip
            clear pu167_4
            replace pu167_5 := pu167_5 (by omega)
            clear pu167_6
            clear hy
            have hz4 : oqH g a b 4 = 0 := pu167_5
            clear pu167_0 pu167_2 pu167_3 pu167_5
            refine r_aload_n C (j := 0) (oDec_at oX12_isOwnHere 25 rfl) rfl rfl ?_
            refine r_aload_n C (j := 0) (oDec_at oX12_isOwnHere 26 rfl) rfl rfl ?_
            refine r_getF (k := 15) (b := 78) C oCl12 rfl (by decide) flX12_33 rfl rfl rfl (oDec_at oX12_isOwnHere 27 rfl) ?_
            have lk172 : ((u167).1 71 4).toInt = (s.1 71 4).toInt := congrArg Int32.toInt (((fu167 71 4 rfl).1).trans (((fu160 71 4 rfl).1).trans (((fu153 71 4 rfl).1).trans (((fu146 71 4 rfl).1).trans ((fu139 71 4 rfl).1)))))
            have lk173 : ((u167).1 71 5).toInt = (s.1 71 5).toInt := congrArg Int32.toInt (((fu167 71 5 rfl).1).trans (((fu160 71 5 rfl).1).trans (((fu153 71 5 rfl).1).trans (((fu146 71 5 rfl).1).trans ((fu139 71 5 rfl).1)))))
            refine r_callVi C oCl12 rfl miX12_isHere mlX12_196 (ct4_X12_isHere l E (u167) 78 54 5 rfl (by decide) (by decide) rfl rfl (g) (a) (b) (5) (by omega) (by omega) (oqZ_fr fu167 rfl (oqZ_fr fu160 rfl (oqZ_fr fu153 rfl (oqZ_fr fu146 rfl (oqZ_fr fu139 rfl hp2))))) (by omega) (by omega) rfl (oqWd_at (oqWd_fr fu167 rfl (oqWd_fr fu160 rfl (oqWd_fr fu153 rfl (oqWd_fr fu146 rfl (oqWd_fr fu139 rfl hp4))))) 5 (by decide)) (by omega)) (by decide) rfl rfl rfl (Nat.le_of_ble_eq_true rfl) (oDec_at oX12_isOwnHere 28 rfl) (fun r175 u174 pu174 fu174 => ?_)
            try dsimp only at pu174
            try simp only [lk172, lk173] at pu174
            obtain ⟨pu174_0, pu174_1, pu174_2, pu174_3, pu174_4, pu174_5, pu174_6⟩ := pu174
            have rr175 := n_rng r175
            have hy : r175.toInt = 1 → oqWi g a b ≠ -1 := fun h9 => by (have h8 := (oqWi_is (g := g) (a := a) (b := b) (i := 5) (by decide)).mpr (pu174_4 h9); omega)
            refine r_if_eq C 70 (oDec_at oX12_isOwnHere 29 rfl) (by decide) (fun cd176 => ?_) (fun cd176 => ?_)
            · skip
              clear pu174_4
              replace pu174_5 := pu174_5 (by omega)
              clear pu174_6
              clear hy
              have hz5 : oqH g a b 5 = 0 := pu174_5
              clear pu174_0 pu174_2 pu174_3 pu174_5
              refine r_iconst C (oDec_at oX12_isOwnHere 32 rfl) (v := k0) (by rw [qk0]; rfl) ?_
              refine r_istore_n C (lv' := [(0, .ref (oad E 71)), (1, .int k0)]) [1, 0] (oDec_at oX12_isOwnHere 33 rfl) rfl (by decide) rfl ?_
              have lk177 : ((u174).1 71 4).toInt = (s.1 71 4).toInt := congrArg Int32.toInt (((fu174 71 4 rfl).1).trans (((fu167 71 4 rfl).1).trans (((fu160 71 4 rfl).1).trans (((fu153 71 4 rfl).1).trans (((fu146 71 4 rfl).1).trans ((fu139 71 4 rfl).1))))))
              have lk178 : ((u174).1 71 5).toInt = (s.1 71 5).toInt := congrArg Int32.toInt (((fu174 71 5 rfl).1).trans (((fu167 71 5 rfl).1).trans (((fu160 71 5 rfl).1).trans (((fu153 71 5 rfl).1).trans (((fu146 71 5 rfl).1).trans ((fu139 71 5 rfl).1))))))
              exact (key ((4 : Int)).toNat).1 (u174) k0  (oqZ_fr fu174 rfl (oqZ_fr fu167 rfl (oqZ_fr fu160 rfl (oqZ_fr fu153 rfl (oqZ_fr fu146 rfl (oqZ_fr fu139 rfl hp2)))))) (oqWd_fr fu174 rfl (oqWd_fr fu167 rfl (oqWd_fr fu160 rfl (oqWd_fr fu153 rfl (oqWd_fr fu146 rfl (oqWd_fr fu139 rfl hp4)))))) (by omega) (by omega) (by omega) (by omega) (by first | exact fun _ => hy (by omega) | (intro h9; exfalso; omega)) (by first | (intro h9; exfalso; omega) | exact fun _ i hi => by (have h8 : i = 0 ∨ i = 1 ∨ i = 2 ∨ i = 3 ∨ i = 4 ∨ i = 5 := (by omega); rcases h8 with h8 | h8 | h8 | h8 | h8 | h8 <;> (rw [h8]; assumption))) (by omega)
            · skip
              replace pu174_4 := pu174_4 (by omega)
              clear pu174_5
              replace pu174_6 := pu174_6 (by omega)
              refine r_iconst C (oDec_at oX12_isOwnHere 30 rfl) (v := k1) (by rw [qk1]; rfl) ?_
              refine r_goto C (tgt := 71) (oDec_at oX12_isOwnHere 31 rfl) (by decide) ?_
              refine r_istore_n C (lv' := [(0, .ref (oad E 71)), (1, .int k1)]) [1, 0] (oDec_at oX12_isOwnHere 33 rfl) rfl (by decide) rfl ?_
              have lk179 : ((u174).1 71 4).toInt = (s.1 71 4).toInt := congrArg Int32.toInt (((fu174 71 4 rfl).1).trans (((fu167 71 4 rfl).1).trans (((fu160 71 4 rfl).1).trans (((fu153 71 4 rfl).1).trans (((fu146 71 4 rfl).1).trans ((fu139 71 4 rfl).1))))))
              have lk180 : ((u174).1 71 5).toInt = (s.1 71 5).toInt := congrArg Int32.toInt (((fu174 71 5 rfl).1).trans (((fu167 71 5 rfl).1).trans (((fu160 71 5 rfl).1).trans (((fu153 71 5 rfl).1).trans (((fu146 71 5 rfl).1).trans ((fu139 71 5 rfl).1))))))
              exact (key ((4 : Int)).toNat).1 (u174) k1  (oqZ_fr fu174 rfl (oqZ_fr fu167 rfl (oqZ_fr fu160 rfl (oqZ_fr fu153 rfl (oqZ_fr fu146 rfl (oqZ_fr fu139 rfl hp2)))))) (oqWd_fr fu174 rfl (oqWd_fr fu167 rfl (oqWd_fr fu160 rfl (oqWd_fr fu153 rfl (oqWd_fr fu146 rfl (oqWd_fr fu139 rfl hp4)))))) (by omega) (by omega) (by omega) (by omega) (by first | exact fun _ => hy (by omega) | (intro h9; exfalso; omega)) (by first | (intro h9; exfalso; omega) | exact fun _ i hi => by (have h8 : i = 0 ∨ i = 1 ∨ i = 2 ∨ i = 3 ∨ i = 4 ∨ i = 5 := (by omega); rcases h8 with h8 | h8 | h8 | h8 | h8 | h8 <;> (rw [h8]; assumption))) (by omega)
