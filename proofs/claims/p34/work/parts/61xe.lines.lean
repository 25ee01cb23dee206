set_option maxHeartbeats 4000000 in
set_option maxRecDepth 100000 in
theorem ct9_X11_imageInSpare (l : Launch) (E : oE) (s : oS)  (g : Int → Int) (nn : Int) (hp0 : (s.1 1 1).toInt = nn) (hp1 : oqX g s) (hp2 : owLN s) : oMet l 2 yX11_imageInSpare cX11_imageInSpare 5 (some .boolean) [(4, 4), (4, 5), (4, 6), (4, 7), (16, 9999), (17, 9999), (18, 9999), (19, 9999)] E s [.ref (oad E 0)] (oPi (fun r u => (0 ≤ r.toInt ∧ r.toInt ≤ 1) ∧ (r.toInt = 1 ↔ oqI g nn) ∧ (owLN u))) := by
  refine oMet.of (lv := [(0, .ref (oad E 0))]) (by decide +kernel) (Nat.le_of_ble_eq_true rfl) rfl (fun J C hT => ?_)
  have C : oC l 2 cX11_imageInSpare RX11 5 (some .boolean) [(4, 4), (4, 5), (4, 6), (4, 7), (16, 9999), (17, 9999), (18, 9999), (19, 9999)] E s (oPi (fun r u => (0 ≤ r.toInt ∧ r.toInt ≤ 1) ∧ (r.toInt = 1 ↔ oqI g nn) ∧ (owLN u))) J := C
  obtain ⟨km1, qkm1⟩ : ∃ z : Int32, z = (-1) := ⟨_, rfl⟩
  have ekm1 : km1.toInt = (-1) := by rw [qkm1]; rfl
  obtain ⟨k0, qk0⟩ : ∃ z : Int32, z = 0 := ⟨_, rfl⟩
  have ek0 : k0.toInt = 0 := by rw [qk0]; rfl
  obtain ⟨k1, qk1⟩ : ∃ z : Int32, z = 1 := ⟨_, rfl⟩
  have ek1 : k1.toInt = 1 := by rw [qk1]; rfl
  obtain ⟨k2, qk2⟩ : ∃ z : Int32, z = 2 := ⟨_, rfl⟩
  have ek2 : k2.toInt = 2 := by rw [qk2]; rfl
  obtain ⟨k23, qk23⟩ : ∃ z : Int32, z = 23 := ⟨_, rfl⟩
  have ek23 : k23.toInt = 23 := by rw [qk23]; rfl
  obtain ⟨k24, qk24⟩ : ∃ z : Int32, z = 24 := ⟨_, rfl⟩
  have ek24 : k24.toInt = 24 := by rw [qk24]; rfl
  obtain ⟨k255, qk255⟩ : ∃ z : Int32, z = 255 := ⟨_, rfl⟩
  have ek255 : k255.toInt = 255 := by rw [qk255]; rfl
  have ht1 : (0 : Int) ≤ (s.1 1 1).toInt ∧ (s.1 1 1).toInt ≤ 1600 := hT.1 1 1
  have key : ∀ n : Nat, (∀ (t : oS) (x1 : Int32) (x2 : Int32) (x3 : Int32), (0 ≤ x1.toInt ∧ x1.toInt ≤ 24) → (0 ≤ x3.toInt ∧ x3.toInt ≤ 49) → (oqX g t) → ((t.1 1 1).toInt = nn ∧ nn = 2 * x1.toInt + 2 ∧ x1.toInt = g 0) → (x3.toInt ≤ 2 * x1.toInt + 1) → (x2.toInt = oqC g x3.toNatClampNeg) → (0 ≤ x2.toInt ∧ x2.toInt ≤ 250) → (owLN t) → 1000 - x3.toInt ≤ (n : Int) → J t 41 [(0, .ref (oad E 0)), (1, .int x1), (2, .int x2), (3, .int x3)] []) ∧ (∀ (t : oS) (x1 : Int32) (x3 : Int32), (0 ≤ x1.toInt ∧ x1.toInt ≤ 24) → (0 ≤ x3.toInt ∧ x3.toInt ≤ 24) → (oqX g t) → ((t.1 1 1).toInt = nn ∧ nn = 2 * x1.toInt + 2 ∧ x1.toInt = g 0) → (x3.toInt ≤ x1.toInt) → (oqP x3.toInt (oqS g x3.toNatClampNeg) t) → (g (nn - 1) = oqC g (nn - 1).toNat) → (oqFt g x3.toNatClampNeg) → (oqS g x3.toNatClampNeg ≤ 96) → (owLN t) → 25 - x3.toInt ≤ (n : Int) → J t 94 [(0, .ref (oad E 0)), (1, .int x1), (3, .int x3)] []) := by
    intro n
    induction n using Nat.strongRecOn with
    | _ n ih =>
      refine ⟨?_, ?_⟩
      · intro t x1 x2 x3  iv0 iv1 iv2 iv3 iv4 iv5 iv6 iv7 hmu
        have rx1 := n_rng x1
        have rx2 := n_rng x2
        have rx3 := n_rng x3
        have hn3 := n_nat x3
        refine r_iload_n C (j := 3) (oDec_at oX11_imageInSpare 25 rfl) rfl rfl ?_
        refine r_iconst C (oDec_at oX11_imageInSpare 26 rfl) (v := k2) (by rw [qk2]; rfl) ?_
        refine r_iload_n C (j := 1) (oDec_at oX11_imageInSpare 27 rfl) rfl rfl ?_
        obtain ⟨v1, ev1⟩ : ∃ z : Int32, z = k2 * x1 := ⟨_, rfl⟩
        have hv1 : v1.toInt = 2 * x1.toInt := n_mulK' 2 ev1 ek2 (by omega) (by omega)
        refine r_imul C v1 (oDec_at oX11_imageInSpare 28 rfl) ev1 ?_
        refine r_icmp_gt C 67 (oDec_at oX11_imageInSpare 29 rfl) (by decide) (fun cd2 => ?_) (fun cd2 => ?_)
        · skip
          refine r_aload_n C (j := 0) (oDec_at oX11_imageInSpare 39 rfl) rfl rfl ?_
          refine r_getF (k := 0) (b := 1) C oCl11 rfl (by decide) flX11_10 rfl rfl rfl (oDec_at oX11_imageInSpare 40 rfl) ?_
          refine r_iconst C (oDec_at oX11_imageInSpare 41 rfl) (v := k2) (by rw [qk2]; rfl) ?_
          refine r_iload_n C (j := 1) (oDec_at oX11_imageInSpare 42 rfl) rfl rfl ?_
          obtain ⟨v3, ev3⟩ : ∃ z : Int32, z = k2 * x1 := ⟨_, rfl⟩
          have hv3 : v3.toInt = 2 * x1.toInt := n_mulK' 2 ev3 ek2 (by omega) (by omega)
          refine r_imul C v3 (oDec_at oX11_imageInSpare 43 rfl) ev3 ?_
          refine r_iconst C (oDec_at oX11_imageInSpare 44 rfl) (v := k1) (by rw [qk1]; rfl) ?_
          refine r_pc C 75 rfl ?_
          obtain ⟨v4, ev4⟩ : ∃ z : Int32, z = v3 + k1 := ⟨_, rfl⟩
          have hv4 : v4.toInt = v3.toInt + k1.toInt := n_add ev4 (by omega) (by omega)
          refine r_iadd C v4 (oDec_at oX11_imageInSpare 45 rfl) ev4 ?_
          refine r_callVi C oCl8 rfl miX8_at mlX11_399 (ct4_X8_at l E (t) v4 (g) (nn - 1) (by omega) iv2) (by decide) rfl rfl rfl (Nat.le_of_ble_eq_true rfl) (oDec_at oX11_imageInSpare 46 rfl) (fun r6 u5 pu5 fu5 => ?_)
          try dsimp only at pu5
          obtain ⟨pu5_0, pu5_1, pu5_2, pu5_3⟩ := pu5
          have hxu5 := oFr_nil fu5; subst hxu5
          have rr6 := n_rng r6
          have hcc : oqC g (nn - 1).toNat = x2.toInt := by rw [show (nn - 1).toNat = x3.toNatClampNeg by omega]; exact iv5.symm
          refine r_iload_n C (j := 2) (oDec_at oX11_imageInSpare 47 rfl) rfl rfl ?_
          refine r_icmp_eq C 85 (oDec_at oX11_imageInSpare 48 rfl) (by decide) (fun cd7 => ?_) (fun cd7 => ?_)
          · skip
            refine r_aload_n C (j := 0) (oDec_at oX11_imageInSpare 51 rfl) rfl rfl ?_
            refine r_getS (k := 2) (q2 := 4) C oCl11 rfl (by decide) flX11_23 rfl rfl rfl ks0 (oDec_at oX11_imageInSpare 52 rfl) (fun b8 rb8 mb8 hkb8 => ?_)
            refine r_callVv C oCl4 hkb8 miX4_clear mlX11_340 (ct9_X4_clear l E (t) b8 hkb8 iv7) (by decide) rfl rfl rfl (Nat.le_of_ble_eq_true rfl) (oDec_at oX11_imageInSpare 53 rfl) (fun u9 pu9 fu9 => ?_)
            try dsimp only at pu9
            obtain ⟨pu9_0, pu9_1, pu9_2, pu9_3, pu9_4⟩ := pu9
            refine r_iconst C (oDec_at oX11_imageInSpare 54 rfl) (v := k0) (by rw [qk0]; rfl) ?_
            refine r_istore_n C (lv' := [(0, .ref (oad E 0)), (1, .int x1), (2, .int x2), (3, .int k0)]) [1, 2, 3, 0] (oDec_at oX11_imageInSpare 55 rfl) rfl (by decide) rfl ?_
            have lk11 : ((u9).1 1 1).toInt = (t.1 1 1).toInt := congrArg Int32.toInt ((fu9 1 1 rfl).1)
            refine r_pick C [0, 1, 3] rfl ?_
            exact (ih (n - 1) (by omega)).2 (u9) x1 k0  (by omega) (by omega) (oqX_fr fu9 rfl iv2) (by omega) (by omega) (by first | (rw [oqS_nx (x := x3) (by omega) (by omega)]; exact ⟨_, (((fu9 0 2 rfl).2.2).trans (rb8)), hkb8, by omega, by omega⟩) | (rw [oqS_at0 (by omega)]; exact ⟨_, (((fu9 0 2 rfl).2.2).trans (rb8)), hkb8, by omega, by omega⟩)) (by first | exact iv6 | omega) (by first | exact oqFt_nx (x := x3) iv7 (by omega) (by omega) (by omega) (by omega) (by omega) | exact oqFt_at0 (by omega)) (by first | (rw [oqS_nx (x := x3) (by omega) (by omega)]; omega) | (rw [oqS_at0 (by omega)]; omega)) pu9_2 (by omega)
          · skip
            refine r_iconst C (oDec_at oX11_imageInSpare 49 rfl) (v := k0) (by rw [qk0]; rfl) ?_
            exact r_zret C (n_bool (by omega)) (oDec_at oX11_imageInSpare 50 rfl) ⟨_, rfl, ⟨by omega, iff_of_false (by omega) (fun h => by obtain ⟨-, q2, -, -⟩ := h; omega), iv7⟩⟩
        · skip
          refine r_iload_n C (j := 2) (oDec_at oX11_imageInSpare 30 rfl) rfl rfl ?_
          refine r_aload_n C (j := 0) (oDec_at oX11_imageInSpare 31 rfl) rfl rfl ?_
          refine r_getF (k := 0) (b := 1) C oCl11 rfl (by decide) flX11_10 rfl rfl rfl (oDec_at oX11_imageInSpare 32 rfl) ?_
          refine r_iload_n C (j := 3) (oDec_at oX11_imageInSpare 33 rfl) rfl rfl ?_
          refine r_callVi C oCl8 rfl miX8_at mlX11_399 (ct4_X8_at l E (t) x3 (g) ((x3.toNatClampNeg : Int)) (by omega) iv2) (by decide) rfl rfl rfl (Nat.le_of_ble_eq_true rfl) (oDec_at oX11_imageInSpare 34 rfl) (fun r13 u12 pu12 fu12 => ?_)
          try dsimp only at pu12
          obtain ⟨pu12_0, pu12_1, pu12_2, pu12_3⟩ := pu12
          have hxu12 := oFr_nil fu12; subst hxu12
          have rr13 := n_rng r13
          refine r_callSi C miX11_nextCheck mlX11_352 (ct4_X11_nextCheck l E (t) x2 r13 (by omega) (by omega)) (by decide) rfl rfl rfl (Nat.le_of_ble_eq_true rfl) (oDec_at oX11_imageInSpare 35 rfl) (fun r15 u14 pu14 fu14 => ?_)
          try dsimp only at pu14
          obtain ⟨pu14_0, pu14_1⟩ := pu14
          have hxu14 := oFr_nil fu14; subst hxu14
          have rr15 := n_rng r15
          refine r_pc C 60 rfl ?_
          refine r_istore_n C (lv' := [(0, .ref (oad E 0)), (1, .int x1), (2, .int r15), (3, .int x3)]) [1, 2, 0, 3] (oDec_at oX11_imageInSpare 36 rfl) rfl (by decide) rfl ?_
          obtain ⟨v16, ev16⟩ : ∃ z : Int32, x3 + Int32.ofInt 1 = z := ⟨_, rfl⟩
          have hv16 : v16.toInt = x3.toInt + 1 := n_inc ev16 (by decide) (by omega) (by omega)
          refine r_iinc C (j := 3) (lv' := [(0, .ref (oad E 0)), (1, .int x1), (2, .int r15), (3, .int v16)]) v16 [1, 2, 3, 0] (oDec_at oX11_imageInSpare 37 rfl) rfl ev16 (by decide) rfl ?_
          refine r_goto C (tgt := 41) (oDec_at oX11_imageInSpare 38 rfl) (by decide) ?_
          exact (ih (n - 1) (by omega)).1 (t) x1 r15 v16  (by omega) (by omega) iv2 (by omega) (by omega) (by first | exact oqC_nx (x := x3) (y := v16) iv5 pu12_0 pu14_0 (by omega) (by omega) | (rw [oqC_at0 (by omega)]; omega)) (by omega) iv7 (by omega)
      · intro t x1 x3  iv0 iv1 iv2 iv3 iv4 iv5 iv6 iv7 iv8 iv9 hmu
        have rx1 := n_rng x1
        have rx3 := n_rng x3
        have hn3 := n_nat x3
        refine r_iload_n C (j := 2) (oDec_at oX11_imageInSpare 56 rfl) rfl rfl ?_
        refine r_iload_n C (j := 1) (oDec_at oX11_imageInSpare 57 rfl) rfl rfl ?_
        refine r_icmp_ge C 157 (oDec_at oX11_imageInSpare 58 rfl) (by decide) (fun cd17 => ?_) (fun cd17 => ?_)
        · skip
          refine r_iconst C (oDec_at oX11_imageInSpare 90 rfl) (v := k1) (by rw [qk1]; rfl) ?_
          exact r_zret C (n_bool (by omega)) (oDec_at oX11_imageInSpare 91 rfl) ⟨_, rfl, ⟨by omega, iff_of_true (by omega) (oqI_yes (x := x3) (by omega) iv6 (by omega) iv7 (by omega)), iv9⟩⟩
        · skip
          refine r_aload_n C (j := 0) (oDec_at oX11_imageInSpare 59 rfl) rfl rfl ?_
          refine r_getF (k := 0) (b := 1) C oCl11 rfl (by decide) flX11_10 rfl rfl rfl (oDec_at oX11_imageInSpare 60 rfl) ?_
          refine r_iconst C (oDec_at oX11_imageInSpare 61 rfl) (v := k2) (by rw [qk2]; rfl) ?_
          refine r_iload_n C (j := 2) (oDec_at oX11_imageInSpare 62 rfl) rfl rfl ?_
          obtain ⟨v18, ev18⟩ : ∃ z : Int32, z = k2 * x3 := ⟨_, rfl⟩
          have hv18 : v18.toInt = 2 * x3.toInt := n_mulK' 2 ev18 ek2 (by omega) (by omega)
          refine r_imul C v18 (oDec_at oX11_imageInSpare 63 rfl) ev18 ?_
          refine r_iconst C (oDec_at oX11_imageInSpare 64 rfl) (v := k1) (by rw [qk1]; rfl) ?_
          refine r_pc C 107 rfl ?_
          obtain ⟨v19, ev19⟩ : ∃ z : Int32, z = v18 + k1 := ⟨_, rfl⟩
          have hv19 : v19.toInt = v18.toInt + k1.toInt := n_add ev19 (by omega) (by omega)
          refine r_iadd C v19 (oDec_at oX11_imageInSpare 65 rfl) ev19 ?_
          refine r_callVi C oCl8 rfl miX8_at mlX11_399 (ct4_X8_at l E (t) v19 (g) (1 + 2 * (x3.toNatClampNeg : Int)) (by omega) iv2) (by decide) rfl rfl rfl (Nat.le_of_ble_eq_true rfl) (oDec_at oX11_imageInSpare 66 rfl) (fun r21 u20 pu20 fu20 => ?_)
          try dsimp only at pu20
          obtain ⟨pu20_0, pu20_1, pu20_2, pu20_3⟩ := pu20
          have hxu20 := oFr_nil fu20; subst hxu20
          have rr21 := n_rng r21
          refine r_istore C (lv' := [(0, .ref (oad E 0)), (1, .int x1), (3, .int x3), (4, .int r21)]) [1, 2, 3, 0] (oDec_at oX11_imageInSpare 67 rfl) (by decide) rfl ?_
          refine r_aload_n C (j := 0) (oDec_at oX11_imageInSpare 68 rfl) rfl rfl ?_
          refine r_getS (k := 2) (q2 := 4) C oCl11 rfl (by decide) flX11_23 rfl rfl rfl ks0 (oDec_at oX11_imageInSpare 69 rfl) (fun b22 rb22 mb22 hkb22 => ?_)
          have hsp := oqP_at iv5 rb22
          obtain ⟨hsp1, hsp2⟩ := hsp
          refine r_iload C (j := 3) (oDec_at oX11_imageInSpare 70 rfl) rfl ?_
          refine r_pc C 119 rfl ?_
          refine r_sipush C (oDec_at oX11_imageInSpare 71 rfl) (v := k255) (by rw [qk255]; rfl) ?_
          refine r_icmp_ne C 129 (oDec_at oX11_imageInSpare 72 rfl) (by decide) (fun cd23 => ?_) (fun cd23 => ?_)
          · skip
            refine r_iload C (j := 3) (oDec_at oX11_imageInSpare 75 rfl) rfl ?_
            refine r_aload_n C (j := 0) (oDec_at oX11_imageInSpare 76 rfl) rfl rfl ?_
            refine r_getF (k := 0) (b := 1) C oCl11 rfl (by decide) flX11_10 rfl rfl rfl (oDec_at oX11_imageInSpare 77 rfl) ?_
            refine r_iconst C (oDec_at oX11_imageInSpare 78 rfl) (v := k2) (by rw [qk2]; rfl) ?_
            refine r_iload_n C (j := 2) (oDec_at oX11_imageInSpare 79 rfl) rfl rfl ?_
            obtain ⟨v24, ev24⟩ : ∃ z : Int32, z = k2 * x3 := ⟨_, rfl⟩
            have hv24 : v24.toInt = 2 * x3.toInt := n_mulK' 2 ev24 ek2 (by omega) (by omega)
            refine r_imul C v24 (oDec_at oX11_imageInSpare 80 rfl) ev24 ?_
            refine r_pc C 138 rfl ?_
            refine r_iconst C (oDec_at oX11_imageInSpare 81 rfl) (v := k2) (by rw [qk2]; rfl) ?_
            obtain ⟨v25, ev25⟩ : ∃ z : Int32, z = v24 + k2 := ⟨_, rfl⟩
            have hv25 : v25.toInt = v24.toInt + k2.toInt := n_add ev25 (by omega) (by omega)
            refine r_iadd C v25 (oDec_at oX11_imageInSpare 82 rfl) ev25 ?_
            refine r_callVi C oCl8 rfl miX8_at mlX11_399 (ct4_X8_at l E (t) v25 (g) (2 + 2 * (x3.toNatClampNeg : Int)) (by omega) iv2) (by decide) rfl rfl rfl (Nat.le_of_ble_eq_true rfl) (oDec_at oX11_imageInSpare 83 rfl) (fun r27 u26 pu26 fu26 => ?_)
            try dsimp only at pu26
            obtain ⟨pu26_0, pu26_1, pu26_2, pu26_3⟩ := pu26
            have hxu26 := oFr_nil fu26; subst hxu26
            have rr27 := n_rng r27
            refine r_callVi C oCl4 hkb22 miX4_add mlX11_346 (ct9_X4_add l E (t) b22 hkb22 r21 r27 iv9) (by decide) rfl rfl rfl (Nat.le_of_ble_eq_true rfl) (oDec_at oX11_imageInSpare 84 rfl) (fun r29 u28 pu28 fu28 => ?_)
            try dsimp only at pu28
            obtain ⟨pu28_0, pu28_1, pu28_2, pu28_3, pu28_4⟩ := pu28
            have rr29 := n_rng r29
            refine r_if_ne C 151 (oDec_at oX11_imageInSpare 85 rfl) (by decide) (fun cd30 => ?_) (fun cd30 => ?_)
            · skip
              replace pu28_1 := pu28_1 (by omega)
              clear pu28_2
              replace pu28_4 := pu28_4 (by omega)
              obtain ⟨v31, ev31⟩ : ∃ z : Int32, x3 + Int32.ofInt 1 = z := ⟨_, rfl⟩
              have hv31 : v31.toInt = x3.toInt + 1 := n_inc ev31 (by decide) (by omega) (by omega)
              refine r_iinc C (j := 2) (lv' := [(0, .ref (oad E 0)), (1, .int x1), (3, .int v31), (4, .int r21)]) v31 [1, 2, 0, 3] (oDec_at oX11_imageInSpare 88 rfl) rfl ev31 (by decide) rfl ?_
              refine r_goto C (tgt := 94) (oDec_at oX11_imageInSpare 89 rfl) (by decide) ?_
              have lk32 : ((u28).1 1 1).toInt = (t.1 1 1).toInt := congrArg Int32.toInt ((fu28 1 1 rfl).1)
              refine r_pick C [0, 1, 2] rfl ?_
              exact (ih (n - 1) (by omega)).2 (u28) x1 v31  (by omega) (by omega) (oqX_fr fu28 rfl iv2) (by omega) (by omega) (by first | (rw [oqS_nx (x := x3) (by omega) (by omega)]; exact ⟨_, (((fu28 0 2 rfl).2.2).trans (rb22)), hkb22, by omega, by omega⟩) | (rw [oqS_at0 (by omega)]; exact ⟨_, (((fu28 0 2 rfl).2.2).trans (rb22)), hkb22, by omega, by omega⟩)) (by first | exact iv6 | omega) (by first | exact oqFt_nx (x := x3) iv7 (by omega) (by omega) (by omega) (by omega) (by omega) | exact oqFt_at0 (by omega)) (by first | (rw [oqS_nx (x := x3) (by omega) (by omega)]; omega) | (rw [oqS_at0 (by omega)]; omega)) pu28_3 (by omega)
            · skip
              clear pu28_1
              replace pu28_2 := pu28_2 (by omega)
              clear pu28_4
              refine r_iconst C (oDec_at oX11_imageInSpare 86 rfl) (v := k0) (by rw [qk0]; rfl) ?_
              exact r_zret C (n_bool (by omega)) (oDec_at oX11_imageInSpare 87 rfl) ⟨_, rfl, ⟨by omega, iff_of_false (by omega) (oqI_no (x := x3) (by omega) (by omega) (by omega)), pu28_3⟩⟩
          · skip
            refine r_iconst C (oDec_at oX11_imageInSpare 73 rfl) (v := km1) (by rw [qkm1]; rfl) ?_
            refine r_goto C (tgt := 131) (oDec_at oX11_imageInSpare 74 rfl) (by decide) ?_
            refine r_aload_n C (j := 0) (oDec_at oX11_imageInSpare 76 rfl) rfl rfl ?_
            refine r_getF (k := 0) (b := 1) C oCl11 rfl (by decide) flX11_10 rfl rfl rfl (oDec_at oX11_imageInSpare 77 rfl) ?_
            refine r_iconst C (oDec_at oX11_imageInSpare 78 rfl) (v := k2) (by rw [qk2]; rfl) ?_
            refine r_iload_n C (j := 2) (oDec_at oX11_imageInSpare 79 rfl) rfl rfl ?_
            obtain ⟨v33, ev33⟩ : ∃ z : Int32, z = k2 * x3 := ⟨_, rfl⟩
            have hv33 : v33.toInt = 2 * x3.toInt := n_mulK' 2 ev33 ek2 (by omega) (by omega)
            refine r_imul C v33 (oDec_at oX11_imageInSpare 80 rfl) ev33 ?_
            refine r_pc C 138 rfl ?_
            refine r_iconst C (oDec_at oX11_imageInSpare 81 rfl) (v := k2) (by rw [qk2]; rfl) ?_
            obtain ⟨v34, ev34⟩ : ∃ z : Int32, z = v33 + k2 := ⟨_, rfl⟩
            have hv34 : v34.toInt = v33.toInt + k2.toInt := n_add ev34 (by omega) (by omega)
            refine r_iadd C v34 (oDec_at oX11_imageInSpare 82 rfl) ev34 ?_
            refine r_callVi C oCl8 rfl miX8_at mlX11_399 (ct4_X8_at l E (t) v34 (g) (2 + 2 * (x3.toNatClampNeg : Int)) (by omega) iv2) (by decide) rfl rfl rfl (Nat.le_of_ble_eq_true rfl) (oDec_at oX11_imageInSpare 83 rfl) (fun r36 u35 pu35 fu35 => ?_)
            try dsimp only at pu35
            obtain ⟨pu35_0, pu35_1, pu35_2, pu35_3⟩ := pu35
            have hxu35 := oFr_nil fu35; subst hxu35
            have rr36 := n_rng r36
            refine r_callVi C oCl4 hkb22 miX4_add mlX11_346 (ct9_X4_add l E (t) b22 hkb22 km1 r36 iv9) (by decide) rfl rfl rfl (Nat.le_of_ble_eq_true rfl) (oDec_at oX11_imageInSpare 84 rfl) (fun r38 u37 pu37 fu37 => ?_)
            try dsimp only at pu37
            obtain ⟨pu37_0, pu37_1, pu37_2, pu37_3, pu37_4⟩ := pu37
            have rr38 := n_rng r38
            refine r_if_ne C 151 (oDec_at oX11_imageInSpare 85 rfl) (by decide) (fun cd39 => ?_) (fun cd39 => ?_)
            · skip
              replace pu37_1 := pu37_1 (by omega)
              clear pu37_2
              replace pu37_4 := pu37_4 (by omega)
              obtain ⟨v40, ev40⟩ : ∃ z : Int32, x3 + Int32.ofInt 1 = z := ⟨_, rfl⟩
              have hv40 : v40.toInt = x3.toInt + 1 := n_inc ev40 (by decide) (by omega) (by omega)
              refine r_iinc C (j := 2) (lv' := [(0, .ref (oad E 0)), (1, .int x1), (3, .int v40), (4, .int r21)]) v40 [1, 2, 0, 3] (oDec_at oX11_imageInSpare 88 rfl) rfl ev40 (by decide) rfl ?_
              refine r_goto C (tgt := 94) (oDec_at oX11_imageInSpare 89 rfl) (by decide) ?_
              have lk41 : ((u37).1 1 1).toInt = (t.1 1 1).toInt := congrArg Int32.toInt ((fu37 1 1 rfl).1)
              refine r_pick C [0, 1, 2] rfl ?_
              exact (ih (n - 1) (by omega)).2 (u37) x1 v40  (by omega) (by omega) (oqX_fr fu37 rfl iv2) (by omega) (by omega) (by first | (rw [oqS_nx (x := x3) (by omega) (by omega)]; exact ⟨_, (((fu37 0 2 rfl).2.2).trans (rb22)), hkb22, by omega, by omega⟩) | (rw [oqS_at0 (by omega)]; exact ⟨_, (((fu37 0 2 rfl).2.2).trans (rb22)), hkb22, by omega, by omega⟩)) (by first | exact iv6 | omega) (by first | exact oqFt_nx (x := x3) iv7 (by omega) (by omega) (by omega) (by omega) (by omega) | exact oqFt_at0 (by omega)) (by first | (rw [oqS_nx (x := x3) (by omega) (by omega)]; omega) | (rw [oqS_at0 (by omega)]; omega)) pu37_3 (by omega)
            · skip
              clear pu37_1
              replace pu37_2 := pu37_2 (by omega)
              clear pu37_4
              refine r_iconst C (oDec_at oX11_imageInSpare 86 rfl) (v := k0) (by rw [qk0]; rfl) ?_
              exact r_zret C (n_bool (by omega)) (oDec_at oX11_imageInSpare 87 rfl) ⟨_, rfl, ⟨by omega, iff_of_false (by omega) (oqI_no (x := x3) (by omega) (by omega) (by omega)), pu37_3⟩⟩
  refine r_aload_n C (j := 0) (oDec_at oX11_imageInSpare 0 rfl) rfl rfl ?_
  refine r_getF (k := 0) (b := 1) C oCl11 rfl (by decide) flX11_10 rfl rfl rfl (oDec_at oX11_imageInSpare 1 rfl) ?_
  refine r_iconst C (oDec_at oX11_imageInSpare 2 rfl) (v := k0) (by rw [qk0]; rfl) ?_
  refine r_callVi C oCl8 rfl miX8_at mlX11_399 (ct4_X8_at l E (s) k0 (g) (0) (by omega) hp1) (by decide) rfl rfl rfl (Nat.le_of_ble_eq_true rfl) (oDec_at oX11_imageInSpare 3 rfl) (fun r43 u42 pu42 fu42 => ?_)
  try dsimp only at pu42
  obtain ⟨pu42_0, pu42_1, pu42_2, pu42_3⟩ := pu42
  have hxu42 := oFr_nil fu42; subst hxu42
  have rr43 := n_rng r43
  refine r_istore_n C (lv' := [(0, .ref (oad E 0)), (1, .int r43)]) [1, 0] (oDec_at oX11_imageInSpare 4 rfl) rfl (by decide) rfl ?_
  refine r_iload_n C (j := 1) (oDec_at oX11_imageInSpare 5 rfl) rfl rfl ?_
  refine r_pc C 10 rfl ?_
  refine r_if_lt C 34 (oDec_at oX11_imageInSpare 6 rfl) (by decide) (fun cd44 => ?_) (fun cd44 => ?_)
  · skip
    refine r_iconst C (oDec_at oX11_imageInSpare 19 rfl) (v := k0) (by rw [qk0]; rfl) ?_
    exact r_zret C (n_bool (by omega)) (oDec_at oX11_imageInSpare 20 rfl) ⟨_, rfl, ⟨by omega, iff_of_false (by omega) (fun h => by obtain ⟨q1, -, -, -⟩ := h; omega), hp2⟩⟩
  · skip
    refine r_iload_n C (j := 1) (oDec_at oX11_imageInSpare 7 rfl) rfl rfl ?_
    refine r_bipush C (oDec_at oX11_imageInSpare 8 rfl) (v := k24) (by rw [qk24]; rfl) ?_
    refine r_icmp_gt C 34 (oDec_at oX11_imageInSpare 9 rfl) (by decide) (fun cd45 => ?_) (fun cd45 => ?_)
    · skip
      refine r_iconst C (oDec_at oX11_imageInSpare 19 rfl) (v := k0) (by rw [qk0]; rfl) ?_
      exact r_zret C (n_bool (by omega)) (oDec_at oX11_imageInSpare 20 rfl) ⟨_, rfl, ⟨by omega, iff_of_false (by omega) (fun h => by obtain ⟨q1, -, -, -⟩ := h; omega), hp2⟩⟩
    · skip
      refine r_aload_n C (j := 0) (oDec_at oX11_imageInSpare 10 rfl) rfl rfl ?_
      refine r_getF (k := 0) (b := 1) C oCl11 rfl (by decide) flX11_10 rfl rfl rfl (oDec_at oX11_imageInSpare 11 rfl) ?_
      obtain ⟨v46, ev46⟩ : ∃ z : Int32, (s).1 1 1 = z := ⟨_, rfl⟩
      have gv46 : (s.1 1 1).toInt = v46.toInt := congrArg Int32.toInt (ev46)
      refine r_getiN (k := 1) (lo := 0) (hi := 1600) C v46 oCl8 rfl (by decide) flX11_111 rfl rfl (ev46) rfl rfl (oDec_at oX11_imageInSpare 12 rfl) (fun b47 b47h => ?_)
      refine r_iconst C (oDec_at oX11_imageInSpare 13 rfl) (v := k2) (by rw [qk2]; rfl) ?_
      refine r_iload_n C (j := 1) (oDec_at oX11_imageInSpare 14 rfl) rfl rfl ?_
      obtain ⟨v48, ev48⟩ : ∃ z : Int32, z = k2 * r43 := ⟨_, rfl⟩
      have hv48 : v48.toInt = 2 * r43.toInt := n_mulK' 2 ev48 ek2 (by omega) (by omega)
      refine r_imul C v48 (oDec_at oX11_imageInSpare 15 rfl) ev48 ?_
      refine r_pc C 29 rfl ?_
      refine r_iconst C (oDec_at oX11_imageInSpare 16 rfl) (v := k2) (by rw [qk2]; rfl) ?_
      obtain ⟨v49, ev49⟩ : ∃ z : Int32, z = v48 + k2 := ⟨_, rfl⟩
      have hv49 : v49.toInt = v48.toInt + k2.toInt := n_add ev49 (by omega) (by omega)
      refine r_iadd C v49 (oDec_at oX11_imageInSpare 17 rfl) ev49 ?_
      refine r_icmp_eq C 36 (oDec_at oX11_imageInSpare 18 rfl) (by decide) (fun cd50 => ?_) (fun cd50 => ?_)
      · skip
        refine r_bipush C (oDec_at oX11_imageInSpare 21 rfl) (v := k23) (by rw [qk23]; rfl) ?_
        refine r_istore_n C (lv' := [(0, .ref (oad E 0)), (1, .int r43), (2, .int k23)]) [1, 2, 0] (oDec_at oX11_imageInSpare 22 rfl) rfl (by decide) rfl ?_
        refine r_iconst C (oDec_at oX11_imageInSpare 23 rfl) (v := k0) (by rw [qk0]; rfl) ?_
        refine r_istore_n C (lv' := [(0, .ref (oad E 0)), (1, .int r43), (2, .int k23), (3, .int k0)]) [1, 2, 3, 0] (oDec_at oX11_imageInSpare 24 rfl) rfl (by decide) rfl ?_
        have lk51 : ((s).1 1 1).toInt = v46.toInt := congrArg Int32.toInt (ev46)
        exact (key (1000 - k0.toInt).toNat).1 (s) r43 k23 k0  (by omega) (by omega) hp1 (by omega) (by omega) (by first | (rw [oqC_at0 (by omega)]; omega)) (by omega) hp2 (by omega)
      · skip
        refine r_iconst C (oDec_at oX11_imageInSpare 19 rfl) (v := k0) (by rw [qk0]; rfl) ?_
        exact r_zret C (n_bool (by omega)) (oDec_at oX11_imageInSpare 20 rfl) ⟨_, rfl, ⟨by omega, iff_of_false (by omega) (fun h => by obtain ⟨q1, -, -, -⟩ := h; omega), hp2⟩⟩
set_option maxHeartbeats 4000000 in
set_option maxRecDepth 100000 in
theorem ct9_X5_noteStatement (l : Launch) (E : oE) (s : oS) (c1 : Nat) (hk1 : okd c1 = 4) (g : Int → Int) (a : Int) (b : Int) (T : Int) (hp0 : (s.1 30 2).toInt = a) (hp1 : (s.1 30 3).toInt = b) (hp2 : oqX g s) (hp3 : (s.1 c1 5).toInt = T) (hp4 : (s.1 c1 4).toInt ≤ 23) (hp5 : g (oqSk g a) ≠ 32 ∧ g (oqSk g a) ≠ 10) (hp6 : owLN s) : oMet l 7 yX5_noteStatement cX5_noteStatement 4 (some .boolean) [(4, 4), (4, 5), (4, 6), (4, 7), (5, 2), (5, 3), (5, 4), (5, 8), (5, 9), (16, 9999), (17, 9999), (18, 9999), (19, 9999)] E s [.ref (oad E 30), .ref (oad E c1)] (oPi (fun r u => (0 ≤ r.toInt ∧ r.toInt ≤ 1) ∧ (r.toInt = 1 → (oqTk g a b T = 0 ∧ (u.1 30 2).toInt = oqTa g a b ∧ (u.1 30 3).toInt = oqTb g a b ∧ (u.1 c1 5).toInt = T + oqTv g a b ∧ (u.1 c1 4).toInt = (s.1 c1 4).toInt + 1 ∧ (u.1 30 8).toInt = (s.1 30 8).toInt ∧ (u.1 30 9).toInt = (s.1 30 9).toInt)) ∧ (r.toInt = 0 → (oqTk g a b T ≠ 0 ∧ (u.1 30 8).toInt = oqTk g a b T ∧ (u.1 30 9).toInt = oqTp g a b T)) ∧ (owLN u))) := by
  refine oMet.of (lv := [(0, .ref (oad E 30)), (1, .ref (oad E c1))]) (by decide +kernel) (Nat.le_of_ble_eq_true rfl) rfl (fun J C hT => ?_)
  have C : oC l 7 cX5_noteStatement RX5 4 (some .boolean) [(4, 4), (4, 5), (4, 6), (4, 7), (5, 2), (5, 3), (5, 4), (5, 8), (5, 9), (16, 9999), (17, 9999), (18, 9999), (19, 9999)] E s (oPi (fun r u => (0 ≤ r.toInt ∧ r.toInt ≤ 1) ∧ (r.toInt = 1 → (oqTk g a b T = 0 ∧ (u.1 30 2).toInt = oqTa g a b ∧ (u.1 30 3).toInt = oqTb g a b ∧ (u.1 c1 5).toInt = T + oqTv g a b ∧ (u.1 c1 4).toInt = (s.1 c1 4).toInt + 1 ∧ (u.1 30 8).toInt = (s.1 30 8).toInt ∧ (u.1 30 9).toInt = (s.1 30 9).toInt)) ∧ (r.toInt = 0 → (oqTk g a b T ≠ 0 ∧ (u.1 30 8).toInt = oqTk g a b T ∧ (u.1 30 9).toInt = oqTp g a b T)) ∧ (owLN u))) J := C
  obtain ⟨km1, qkm1⟩ : ∃ z : Int32, z = (-1) := ⟨_, rfl⟩
  have ekm1 : km1.toInt = (-1) := by rw [qkm1]; rfl
  obtain ⟨k0, qk0⟩ : ∃ z : Int32, z = 0 := ⟨_, rfl⟩
  have ek0 : k0.toInt = 0 := by rw [qk0]; rfl
  obtain ⟨k1, qk1⟩ : ∃ z : Int32, z = 1 := ⟨_, rfl⟩
  have ek1 : k1.toInt = 1 := by rw [qk1]; rfl
  obtain ⟨k2, qk2⟩ : ∃ z : Int32, z = 2 := ⟨_, rfl⟩
  have ek2 : k2.toInt = 2 := by rw [qk2]; rfl
  obtain ⟨k16, qk16⟩ : ∃ z : Int32, z = 16 := ⟨_, rfl⟩
  have ek16 : k16.toInt = 16 := by rw [qk16]; rfl
  obtain ⟨k28, qk28⟩ : ∃ z : Int32, z = 28 := ⟨_, rfl⟩
  have ek28 : k28.toInt = 28 := by rw [qk28]; rfl
  obtain ⟨k59, qk59⟩ : ∃ z : Int32, z = 59 := ⟨_, rfl⟩
  have ek59 : k59.toInt = 59 := by rw [qk59]; rfl
  obtain ⟨k96, qk96⟩ : ∃ z : Int32, z = 96 := ⟨_, rfl⟩
  have ek96 : k96.toInt = 96 := by rw [qk96]; rfl
  have hss := oqSk_sk (g := g) (a := a) ⟨by omega, by omega⟩
  have hs2 := oqH_sk (b := b) (i := 2) hss
  have hsa := oqHa_sk (i := 2) hss
  have hKa : oqK1 g a = oqNk g (oqHa g a 0) (oqHa g a 0) 0 28 := rfl
  have hKb : oqK2 g a b T = oqNk g (oqA2 g a b) (oqA2 g a b) 1 (min 16 (96 - T)) := rfl
  have hA2 : oqA2 g a b = oqHa g (oqA1 g a b) 1 := rfl
  have hTb : oqTb g a b = oqNa g (oqA2 g a b) := rfl
  have hTa : oqTa g a b = oqSk g (oqTb g a b) + 1 := rfl
  have hTv : oqTv g a b = oqNv g (oqA2 g a b) := rfl
  refine r_iconst C (oDec_at oX5_noteStatement 0 rfl) (v := km1) (by rw [qkm1]; rfl) ?_
  refine r_istore_n C (lv' := [(0, .ref (oad E 30)), (1, .ref (oad E c1)), (2, .int km1)]) [1, 2, 0] (oDec_at oX5_noteStatement 1 rfl) rfl (by decide) rfl ?_
  refine r_aload_n C (j := 0) (oDec_at oX5_noteStatement 2 rfl) rfl rfl ?_
  refine r_iconst C (oDec_at oX5_noteStatement 3 rfl) (v := k0) (by rw [qk0]; rfl) ?_
  refine r_callVi C oCl5 rfl miX5_accept mlX5_66 (ct4_X5_accept l E (s) k0 (g) (a) (b) (0) (by omega) (by omega) hp2 (by omega) (by omega)) (by decide) rfl rfl rfl (Nat.le_of_ble_eq_true rfl) (oDec_at oX5_noteStatement 4 rfl) (fun r2 u1 pu1 fu1 => ?_)
  try dsimp only at pu1
  obtain ⟨pu1_0, pu1_1, pu1_2, pu1_3⟩ := pu1
  have rr2 := n_rng r2
  refine r_if_eq C 25 (oDec_at oX5_noteStatement 5 rfl) (by decide) (fun cd3 => ?_) (fun cd3 => ?_)
  · skip
    clear pu1_1
    replace pu1_2 := pu1_2 (by omega)
    refine r_aload_n C (j := 0) (oDec_at oX5_noteStatement 16 rfl) rfl rfl ?_
    refine r_iconst C (oDec_at oX5_noteStatement 17 rfl) (v := k2) (by rw [qk2]; rfl) ?_
    have lk4 : ((u1).1 30 8).toInt = (s.1 30 8).toInt := congrArg Int32.toInt ((fu1 30 8 rfl).1)
    have lk5 : ((u1).1 30 9).toInt = (s.1 30 9).toInt := congrArg Int32.toInt ((fu1 30 9 rfl).1)
    refine r_callVi C oCl5 rfl miX5_expect mlX5_74 (ct4_X5_expect l E (u1) k2 (g) (oqSk g a) (b) (2) (by omega) (by omega) (oqX_fr fu1 rfl hp2) (by omega) (by omega)) (by decide) rfl rfl rfl (Nat.le_of_ble_eq_true rfl) (oDec_at oX5_noteStatement 18 rfl) (fun r7 u6 pu6 fu6 => ?_)
    try dsimp only at pu6
    try simp only [lk4, lk5] at pu6
    obtain ⟨pu6_0, pu6_1, pu6_2⟩ := pu6
    have rr7 := n_rng r7
    refine r_if_ne C 35 (oDec_at oX5_noteStatement 19 rfl) (by decide) (fun cd8 => ?_) (fun cd8 => ?_)
    · skip
      replace pu6_1 := pu6_1 (by omega)
      clear pu6_2
      have hHD : oqHD g a b := by unfold oqHD; omega
      have hA1 : oqA1 g a b = ((u6).1 30 2).toInt := by first | (rw [oqA1_s (by omega)]; omega) | (rw [oqA1_r (by omega)]; omega)
      have hL2 : -1 ≤ km1.toInt ∧ km1.toInt ≤ 28 := by omega
      refine r_aload_n C (j := 0) (oDec_at oX5_noteStatement 22 rfl) rfl rfl ?_
      refine r_iconst C (oDec_at oX5_noteStatement 23 rfl) (v := k1) (by rw [qk1]; rfl) ?_
      refine r_callVi C oCl5 rfl miX5_expect mlX5_74 (ct4_X5_expect l E (u6) k1 (g) (oqA1 g a b) (oqA1 g a b) (1) (by omega) (by omega) (oqX_fr fu6 rfl (oqX_fr fu1 rfl hp2)) (by omega) (by omega)) (by decide) rfl rfl rfl (Nat.le_of_ble_eq_true rfl) (oDec_at oX5_noteStatement 24 rfl) (fun r10 u9 pu9 fu9 => ?_)
      try dsimp only at pu9
      obtain ⟨pu9_0, pu9_1, pu9_2⟩ := pu9
      have rr10 := n_rng r10
      refine r_if_ne C 45 (oDec_at oX5_noteStatement 25 rfl) (by decide) (fun cd11 => ?_) (fun cd11 => ?_)
      · skip
        replace pu9_1 := pu9_1 (by omega)
        clear pu9_2
        refine r_aload_n C (j := 0) (oDec_at oX5_noteStatement 28 rfl) rfl rfl ?_
        refine r_iconst C (oDec_at oX5_noteStatement 29 rfl) (v := k1) (by rw [qk1]; rfl) ?_
        refine r_bipush C (oDec_at oX5_noteStatement 30 rfl) (v := k16) (by rw [qk16]; rfl) ?_
        refine r_bipush C (oDec_at oX5_noteStatement 31 rfl) (v := k96) (by rw [qk96]; rfl) ?_
        refine r_aload_n C (j := 1) (oDec_at oX5_noteStatement 32 rfl) rfl rfl ?_
        obtain ⟨v12, ev12⟩ : ∃ z : Int32, (u9).1 c1 5 = z := ⟨_, rfl⟩
        have gv12 : (s.1 c1 5).toInt = v12.toInt := congrArg Int32.toInt ((((fu9 c1 5 (by rw [hk1]; rfl)).1).trans (((fu6 c1 5 (by rw [hk1]; rfl)).1).trans ((fu1 c1 5 (by rw [hk1]; rfl)).1))).symm.trans ev12)
        have ggv12 : ((u9).1 c1 5).toInt = v12.toInt := congrArg Int32.toInt ev12
        refine r_getiN (k := 5) (lo := 0) (hi := 96) C v12 oCl4 hk1 (by decide) flX5_77 rfl rfl (ev12) rfl rfl (oDec_at oX5_noteStatement 33 rfl) (fun b13 b13h => ?_)
        refine r_pc C 55 rfl ?_
        obtain ⟨v14, ev14⟩ : ∃ z : Int32, z = k96 - v12 := ⟨_, rfl⟩
        have hv14 : v14.toInt = k96.toInt - v12.toInt := n_sub ev14 (by omega) (by omega)
        refine r_isub C v14 (oDec_at oX5_noteStatement 34 rfl) ev14 ?_
        refine r_callSi C miJ9_min_7cf53 mlX5_80 (ct_J9_min_7cf53 l E (u9) k16 v14 ) (by decide) rfl rfl rfl (Nat.le_of_ble_eq_true rfl) (oDec_at oX5_noteStatement 35 rfl) (fun r16 u15 pu15 fu15 => ?_)
        try dsimp only at pu15
        have hxu15 := oFr_nil fu15; subst hxu15
        have rr16 := n_rng r16
        have hmin : r16.toInt = min 16 (96 - T) := by omega
        clear pu15
        refine r_callVi C oCl5 rfl miX5_number mlX5_70 (ct4_X5_number l E (u9) k1 r16 (g) (oqA2 g a b) (oqA2 g a b) (1) (min 16 (96 - T)) (by omega) (by omega) (oqX_fr fu9 rfl (oqX_fr fu6 rfl (oqX_fr fu1 rfl hp2))) (by omega) (by omega) (by omega)) (by decide) rfl rfl rfl (Nat.le_of_ble_eq_true rfl) (oDec_at oX5_noteStatement 36 rfl) (fun r18 u17 pu17 fu17 => ?_)
        try dsimp only at pu17
        obtain ⟨pu17_0, pu17_1⟩ := pu17
        have rr18 := n_rng r18
        refine r_istore_n C (lv' := [(0, .ref (oad E 30)), (1, .ref (oad E c1)), (2, .int km1), (3, .int r18)]) [1, 2, 3, 0] (oDec_at oX5_noteStatement 37 rfl) rfl (by decide) rfl ?_
        refine r_iload_n C (j := 3) (oDec_at oX5_noteStatement 38 rfl) rfl rfl ?_
        refine r_iconst C (oDec_at oX5_noteStatement 39 rfl) (v := km1) (by rw [qkm1]; rfl) ?_
        refine r_pc C 65 rfl ?_
        refine r_icmp_eq C 90 (oDec_at oX5_noteStatement 40 rfl) (by decide) (fun cd19 => ?_) (fun cd19 => ?_)
        · skip
          refine r_iconst C (oDec_at oX5_noteStatement 52 rfl) (v := k0) (by rw [qk0]; rfl) ?_
          have lk20 : ((u17).1 c1 5).toInt = v12.toInt := congrArg Int32.toInt (((fu17 c1 5 (by rw [hk1]; rfl)).1).trans (ev12))
          have lk21 : ((u17).1 c1 4).toInt = (s.1 c1 4).toInt := congrArg Int32.toInt (((fu17 c1 4 (by rw [hk1]; rfl)).1).trans (((fu9 c1 4 (by rw [hk1]; rfl)).1).trans (((fu6 c1 4 (by rw [hk1]; rfl)).1).trans ((fu1 c1 4 (by rw [hk1]; rfl)).1))))
          exact r_zret C (n_bool (by omega)) (oDec_at oX5_noteStatement 53 rfl) ⟨_, rfl, ⟨by omega, by first | (intro h; exfalso; omega) | (have hT := oqT_0 (g := g) (a := a) (b := b) (T := T) hHD (by omega) (by omega) (by omega); omega), by first | (intro h; exfalso; omega) | (have hT := oqT_5 (g := g) (a := a) (b := b) (T := T) hHD (by omega) (by omega) (by omega); omega) | (have hT := oqT_4 (g := g) (a := a) (b := b) (T := T) hHD (by omega) (by omega); omega), (owLN_fr fu17 rfl (owLN_fr fu9 rfl (owLN_fr fu6 rfl (owLN_fr fu1 rfl hp6))))⟩⟩
        · skip
          replace pu17_0 := pu17_0.resolve_left (by omega)
          clear pu17_1
          refine r_aload_n C (j := 1) (oDec_at oX5_noteStatement 41 rfl) rfl rfl ?_
          refine r_iload_n C (j := 2) (oDec_at oX5_noteStatement 42 rfl) rfl rfl ?_
          refine r_iload_n C (j := 3) (oDec_at oX5_noteStatement 43 rfl) rfl rfl ?_
          have lk22 : ((u17).1 c1 4).toInt = (s.1 c1 4).toInt := congrArg Int32.toInt (((fu17 c1 4 (by rw [hk1]; rfl)).1).trans (((fu9 c1 4 (by rw [hk1]; rfl)).1).trans (((fu6 c1 4 (by rw [hk1]; rfl)).1).trans ((fu1 c1 4 (by rw [hk1]; rfl)).1))))
          have lk23 : ((u17).1 c1 5).toInt = v12.toInt := congrArg Int32.toInt (((fu17 c1 5 (by rw [hk1]; rfl)).1).trans (ev12))
          have lk24 : ((u17).1 c1 4).toInt = (s.1 c1 4).toInt := congrArg Int32.toInt (((fu17 c1 4 (by rw [hk1]; rfl)).1).trans (((fu9 c1 4 (by rw [hk1]; rfl)).1).trans (((fu6 c1 4 (by rw [hk1]; rfl)).1).trans ((fu1 c1 4 (by rw [hk1]; rfl)).1))))
          have lk25 : ((u17).1 c1 5).toInt = v12.toInt := congrArg Int32.toInt (((fu17 c1 5 (by rw [hk1]; rfl)).1).trans (ev12))
          have lk26 : ((u17).1 c1 4).toInt = (s.1 c1 4).toInt := congrArg Int32.toInt (((fu17 c1 4 (by rw [hk1]; rfl)).1).trans (((fu9 c1 4 (by rw [hk1]; rfl)).1).trans (((fu6 c1 4 (by rw [hk1]; rfl)).1).trans ((fu1 c1 4 (by rw [hk1]; rfl)).1))))
          have lk27 : ((u17).1 c1 5).toInt = v12.toInt := congrArg Int32.toInt (((fu17 c1 5 (by rw [hk1]; rfl)).1).trans (ev12))
          refine r_callVi C oCl4 hk1 miX4_add mlX5_85 (ct9_X4_add l E (u17) c1 hk1 km1 r18 (owLN_fr fu17 rfl (owLN_fr fu9 rfl (owLN_fr fu6 rfl (owLN_fr fu1 rfl hp6))))) (by decide) rfl rfl rfl (Nat.le_of_ble_eq_true rfl) (oDec_at oX5_noteStatement 44 rfl) (fun r29 u28 pu28 fu28 => ?_)
          try dsimp only at pu28
          try simp only [lk22, lk23, lk24, lk25, lk26, lk27] at pu28
          obtain ⟨pu28_0, pu28_1, pu28_2, pu28_3, pu28_4⟩ := pu28
          have rr29 := n_rng r29
          refine r_if_eq C 90 (oDec_at oX5_noteStatement 45 rfl) (by decide) (fun cd30 => ?_) (fun cd30 => ?_)
          · skip
            clear pu28_1
            replace pu28_2 := pu28_2 (by omega)
            clear pu28_4
            refine r_iconst C (oDec_at oX5_noteStatement 52 rfl) (v := k0) (by rw [qk0]; rfl) ?_
            have lk31 : ((u28).1 30 2).toInt = (u17.1 30 2).toInt := congrArg Int32.toInt ((fu28 30 2 rfl).1)
            have lk32 : ((u28).1 30 3).toInt = (u17.1 30 3).toInt := congrArg Int32.toInt ((fu28 30 3 rfl).1)
            have lk33 : ((u28).1 30 8).toInt = (u17.1 30 8).toInt := congrArg Int32.toInt ((fu28 30 8 rfl).1)
            have lk34 : ((u28).1 30 9).toInt = (u17.1 30 9).toInt := congrArg Int32.toInt ((fu28 30 9 rfl).1)
            have lk35 : ((u28).1 30 8).toInt = (u17.1 30 8).toInt := congrArg Int32.toInt ((fu28 30 8 rfl).1)
            have lk36 : ((u28).1 30 9).toInt = (u17.1 30 9).toInt := congrArg Int32.toInt ((fu28 30 9 rfl).1)
            exact r_zret C (n_bool (by omega)) (oDec_at oX5_noteStatement 53 rfl) ⟨_, rfl, ⟨by omega, by first | (intro h; exfalso; omega) | (have hT := oqT_0 (g := g) (a := a) (b := b) (T := T) hHD (by omega) (by omega) (by omega); omega), by first | (intro h; exfalso; omega) | (have hT := oqT_5 (g := g) (a := a) (b := b) (T := T) hHD (by omega) (by omega) (by omega); omega) | (have hT := oqT_4 (g := g) (a := a) (b := b) (T := T) hHD (by omega) (by omega); omega), pu28_3⟩⟩
          · skip
            replace pu28_1 := pu28_1 (by omega)
            clear pu28_2
            replace pu28_4 := pu28_4 (by omega)
            refine r_aload_n C (j := 0) (oDec_at oX5_noteStatement 46 rfl) rfl rfl ?_
            refine r_bipush C (oDec_at oX5_noteStatement 47 rfl) (v := k59) (by rw [qk59]; rfl) ?_
            have lk37 : ((u28).1 30 2).toInt = (u17.1 30 2).toInt := congrArg Int32.toInt ((fu28 30 2 rfl).1)
            have lk38 : ((u28).1 30 8).toInt = (u17.1 30 8).toInt := congrArg Int32.toInt ((fu28 30 8 rfl).1)
            have lk39 : ((u28).1 30 9).toInt = (u17.1 30 9).toInt := congrArg Int32.toInt ((fu28 30 9 rfl).1)
            refine r_callVi C oCl5 rfl miX5_expectSign mlX5_88 (ct4_X5_expectSign l E (u28) k59 (g) (oqTb g a b) (59) (by omega) (oqX_fr fu28 rfl (oqX_fr fu17 rfl (oqX_fr fu9 rfl (oqX_fr fu6 rfl (oqX_fr fu1 rfl hp2))))) (by omega) (by omega)) (by decide) rfl rfl rfl (Nat.le_of_ble_eq_true rfl) (oDec_at oX5_noteStatement 48 rfl) (fun r41 u40 pu40 fu40 => ?_)
            try dsimp only at pu40
            try simp only [lk37, lk38, lk39] at pu40
            obtain ⟨pu40_0, pu40_1, pu40_2⟩ := pu40
            have rr41 := n_rng r41
            refine r_if_eq C 90 (oDec_at oX5_noteStatement 49 rfl) (by decide) (fun cd42 => ?_) (fun cd42 => ?_)
            · skip
              clear pu40_1
              replace pu40_2 := pu40_2 (by omega)
              refine r_iconst C (oDec_at oX5_noteStatement 52 rfl) (v := k0) (by rw [qk0]; rfl) ?_
              have lk43 : ((u40).1 30 3).toInt = (u17.1 30 3).toInt := congrArg Int32.toInt (((fu40 30 3 rfl).1).trans ((fu28 30 3 rfl).1))
              have lk44 : ((u40).1 c1 5).toInt = (u28.1 c1 5).toInt := congrArg Int32.toInt ((fu40 c1 5 (by rw [hk1]; rfl)).1)
              have lk45 : ((u40).1 c1 4).toInt = (u28.1 c1 4).toInt := congrArg Int32.toInt ((fu40 c1 4 (by rw [hk1]; rfl)).1)
              exact r_zret C (n_bool (by omega)) (oDec_at oX5_noteStatement 53 rfl) ⟨_, rfl, ⟨by omega, by first | (intro h; exfalso; omega) | (have hT := oqT_0 (g := g) (a := a) (b := b) (T := T) hHD (by omega) (by omega) (by omega); omega), by first | (intro h; exfalso; omega) | (have hT := oqT_5 (g := g) (a := a) (b := b) (T := T) hHD (by omega) (by omega) (by omega); omega) | (have hT := oqT_4 (g := g) (a := a) (b := b) (T := T) hHD (by omega) (by omega); omega), (owLN_fr fu40 rfl pu28_3)⟩⟩
            · skip
              replace pu40_1 := pu40_1 (by omega)
              clear pu40_2
              refine r_iconst C (oDec_at oX5_noteStatement 50 rfl) (v := k1) (by rw [qk1]; rfl) ?_
              refine r_goto C (tgt := 91) (oDec_at oX5_noteStatement 51 rfl) (by decide) ?_
              have lk46 : ((u40).1 30 3).toInt = (u17.1 30 3).toInt := congrArg Int32.toInt (((fu40 30 3 rfl).1).trans ((fu28 30 3 rfl).1))
              have lk47 : ((u40).1 c1 5).toInt = (u28.1 c1 5).toInt := congrArg Int32.toInt ((fu40 c1 5 (by rw [hk1]; rfl)).1)
              have lk48 : ((u40).1 c1 4).toInt = (u28.1 c1 4).toInt := congrArg Int32.toInt ((fu40 c1 4 (by rw [hk1]; rfl)).1)
              exact r_zret C (n_bool (by omega)) (oDec_at oX5_noteStatement 53 rfl) ⟨_, rfl, ⟨by omega, by first | (intro h; exfalso; omega) | (have hT := oqT_0 (g := g) (a := a) (b := b) (T := T) hHD (by omega) (by omega) (by omega); omega), by first | (intro h; exfalso; omega) | (have hT := oqT_5 (g := g) (a := a) (b := b) (T := T) hHD (by omega) (by omega) (by omega); omega) | (have hT := oqT_4 (g := g) (a := a) (b := b) (T := T) hHD (by omega) (by omega); omega), (owLN_fr fu40 rfl pu28_3)⟩⟩
      · skip
        clear pu9_1
        replace pu9_2 := pu9_2 (by omega)
        have hT := oqT_3 (g := g) (a := a) (b := b) (T := T) hHD (by omega)
        refine r_iconst C (oDec_at oX5_noteStatement 26 rfl) (v := k0) (by rw [qk0]; rfl) ?_
        have lk49 : ((u9).1 c1 5).toInt = (s.1 c1 5).toInt := congrArg Int32.toInt (((fu9 c1 5 (by rw [hk1]; rfl)).1).trans (((fu6 c1 5 (by rw [hk1]; rfl)).1).trans ((fu1 c1 5 (by rw [hk1]; rfl)).1)))
        have lk50 : ((u9).1 c1 4).toInt = (s.1 c1 4).toInt := congrArg Int32.toInt (((fu9 c1 4 (by rw [hk1]; rfl)).1).trans (((fu6 c1 4 (by rw [hk1]; rfl)).1).trans ((fu1 c1 4 (by rw [hk1]; rfl)).1)))
        exact r_zret C (n_bool (by omega)) (oDec_at oX5_noteStatement 27 rfl) ⟨_, rfl, ⟨by omega, by omega, by omega, (owLN_fr fu9 rfl (owLN_fr fu6 rfl (owLN_fr fu1 rfl hp6)))⟩⟩
    · skip
      clear pu6_1
      replace pu6_2 := pu6_2 (by omega)
      have hT := oqT_2 (g := g) (a := a) (b := b) (T := T) (by omega) (by omega)
      refine r_iconst C (oDec_at oX5_noteStatement 20 rfl) (v := k0) (by rw [qk0]; rfl) ?_
      have lk51 : ((u6).1 c1 5).toInt = (s.1 c1 5).toInt := congrArg Int32.toInt (((fu6 c1 5 (by rw [hk1]; rfl)).1).trans ((fu1 c1 5 (by rw [hk1]; rfl)).1))
      have lk52 : ((u6).1 c1 4).toInt = (s.1 c1 4).toInt := congrArg Int32.toInt (((fu6 c1 4 (by rw [hk1]; rfl)).1).trans ((fu1 c1 4 (by rw [hk1]; rfl)).1))
      exact r_zret C (n_bool (by omega)) (oDec_at oX5_noteStatement 21 rfl) ⟨_, rfl, ⟨by omega, by omega, by omega, (owLN_fr fu6 rfl (owLN_fr fu1 rfl hp6))⟩⟩
  · skip
    replace pu1_1 := pu1_1 (by omega)
    clear pu1_2
    refine r_aload_n C (j := 0) (oDec_at oX5_noteStatement 6 rfl) rfl rfl ?_
    refine r_iconst C (oDec_at oX5_noteStatement 7 rfl) (v := k0) (by rw [qk0]; rfl) ?_
    refine r_bipush C (oDec_at oX5_noteStatement 8 rfl) (v := k28) (by rw [qk28]; rfl) ?_
    have lk53 : ((u1).1 30 8).toInt = (s.1 30 8).toInt := congrArg Int32.toInt ((fu1 30 8 rfl).1)
    have lk54 : ((u1).1 30 9).toInt = (s.1 30 9).toInt := congrArg Int32.toInt ((fu1 30 9 rfl).1)
    refine r_callVi C oCl5 rfl miX5_number mlX5_70 (ct4_X5_number l E (u1) k0 k28 (g) (oqHa g a 0) (oqHa g a 0) (0) (28) (by omega) (by omega) (oqX_fr fu1 rfl hp2) (by omega) (by omega) (by omega)) (by decide) rfl rfl rfl (Nat.le_of_ble_eq_true rfl) (oDec_at oX5_noteStatement 9 rfl) (fun r56 u55 pu55 fu55 => ?_)
    try dsimp only at pu55
    try simp only [lk53, lk54] at pu55
    obtain ⟨pu55_0, pu55_1⟩ := pu55
    have rr56 := n_rng r56
    refine r_istore_n C (lv' := [(0, .ref (oad E 30)), (1, .ref (oad E c1)), (2, .int r56)]) [1, 2, 0] (oDec_at oX5_noteStatement 10 rfl) rfl (by decide) rfl ?_
    refine r_iload_n C (j := 2) (oDec_at oX5_noteStatement 11 rfl) rfl rfl ?_
    refine r_pc C 19 rfl ?_
    refine r_iconst C (oDec_at oX5_noteStatement 12 rfl) (v := km1) (by rw [qkm1]; rfl) ?_
    refine r_icmp_ne C 35 (oDec_at oX5_noteStatement 13 rfl) (by decide) (fun cd57 => ?_) (fun cd57 => ?_)
    · skip
      replace pu55_0 := pu55_0.resolve_left (by omega)
      have hHD : oqHD g a b := by unfold oqHD; omega
      have hA1 : oqA1 g a b = ((u55).1 30 2).toInt := by first | (rw [oqA1_s (by omega)]; omega) | (rw [oqA1_r (by omega)]; omega)
      have hL2 : -1 ≤ r56.toInt ∧ r56.toInt ≤ 28 := by omega
      refine r_aload_n C (j := 0) (oDec_at oX5_noteStatement 22 rfl) rfl rfl ?_
      refine r_iconst C (oDec_at oX5_noteStatement 23 rfl) (v := k1) (by rw [qk1]; rfl) ?_
      refine r_callVi C oCl5 rfl miX5_expect mlX5_74 (ct4_X5_expect l E (u55) k1 (g) (oqA1 g a b) (oqA1 g a b) (1) (by omega) (by omega) (oqX_fr fu55 rfl (oqX_fr fu1 rfl hp2)) (by omega) (by omega)) (by decide) rfl rfl rfl (Nat.le_of_ble_eq_true rfl) (oDec_at oX5_noteStatement 24 rfl) (fun r59 u58 pu58 fu58 => ?_)
      try dsimp only at pu58
      obtain ⟨pu58_0, pu58_1, pu58_2⟩ := pu58
      have rr59 := n_rng r59
      refine r_if_ne C 45 (oDec_at oX5_noteStatement 25 rfl) (by decide) (fun cd60 => ?_) (fun cd60 => ?_)
      · skip
        replace pu58_1 := pu58_1 (by omega)
        clear pu58_2
        refine r_aload_n C (j := 0) (oDec_at oX5_noteStatement 28 rfl) rfl rfl ?_
        refine r_iconst C (oDec_at oX5_noteStatement 29 rfl) (v := k1) (by rw [qk1]; rfl) ?_
        refine r_bipush C (oDec_at oX5_noteStatement 30 rfl) (v := k16) (by rw [qk16]; rfl) ?_
        refine r_bipush C (oDec_at oX5_noteStatement 31 rfl) (v := k96) (by rw [qk96]; rfl) ?_
        refine r_aload_n C (j := 1) (oDec_at oX5_noteStatement 32 rfl) rfl rfl ?_
        obtain ⟨v61, ev61⟩ : ∃ z : Int32, (u58).1 c1 5 = z := ⟨_, rfl⟩
        have gv61 : (s.1 c1 5).toInt = v61.toInt := congrArg Int32.toInt ((((fu58 c1 5 (by rw [hk1]; rfl)).1).trans (((fu55 c1 5 (by rw [hk1]; rfl)).1).trans ((fu1 c1 5 (by rw [hk1]; rfl)).1))).symm.trans ev61)
        have ggv61 : ((u58).1 c1 5).toInt = v61.toInt := congrArg Int32.toInt ev61
        refine r_getiN (k := 5) (lo := 0) (hi := 96) C v61 oCl4 hk1 (by decide) flX5_77 rfl rfl (ev61) rfl rfl (oDec_at oX5_noteStatement 33 rfl) (fun b62 b62h => ?_)
        refine r_pc C 55 rfl ?_
        obtain ⟨v63, ev63⟩ : ∃ z : Int32, z = k96 - v61 := ⟨_, rfl⟩
        have hv63 : v63.toInt = k96.toInt - v61.toInt := n_sub ev63 (by omega) (by omega)
        refine r_isub C v63 (oDec_at oX5_noteStatement 34 rfl) ev63 ?_
        refine r_callSi C miJ9_min_7cf53 mlX5_80 (ct_J9_min_7cf53 l E (u58) k16 v63 ) (by decide) rfl rfl rfl (Nat.le_of_ble_eq_true rfl) (oDec_at oX5_noteStatement 35 rfl) (fun r65 u64 pu64 fu64 => ?_)
        try dsimp only at pu64
        have hxu64 := oFr_nil fu64; subst hxu64
        have rr65 := n_rng r65
        have hmin : r65.toInt = min 16 (96 - T) := by omega
        clear pu64
        refine r_callVi C oCl5 rfl miX5_number mlX5_70 (ct4_X5_number l E (u58) k1 r65 (g) (oqA2 g a b) (oqA2 g a b) (1) (min 16 (96 - T)) (by omega) (by omega) (oqX_fr fu58 rfl (oqX_fr fu55 rfl (oqX_fr fu1 rfl hp2))) (by omega) (by omega) (by omega)) (by decide) rfl rfl rfl (Nat.le_of_ble_eq_true rfl) (oDec_at oX5_noteStatement 36 rfl) (fun r67 u66 pu66 fu66 => ?_)
        try dsimp only at pu66
        obtain ⟨pu66_0, pu66_1⟩ := pu66
        have rr67 := n_rng r67
        refine r_istore_n C (lv' := [(0, .ref (oad E 30)), (1, .ref (oad E c1)), (2, .int r56), (3, .int r67)]) [1, 2, 3, 0] (oDec_at oX5_noteStatement 37 rfl) rfl (by decide) rfl ?_
        refine r_iload_n C (j := 3) (oDec_at oX5_noteStatement 38 rfl) rfl rfl ?_
        refine r_iconst C (oDec_at oX5_noteStatement 39 rfl) (v := km1) (by rw [qkm1]; rfl) ?_
        refine r_pc C 65 rfl ?_
        refine r_icmp_eq C 90 (oDec_at oX5_noteStatement 40 rfl) (by decide) (fun cd68 => ?_) (fun cd68 => ?_)
        · skip
          refine r_iconst C (oDec_at oX5_noteStatement 52 rfl) (v := k0) (by rw [qk0]; rfl) ?_
          have lk69 : ((u66).1 c1 5).toInt = v61.toInt := congrArg Int32.toInt (((fu66 c1 5 (by rw [hk1]; rfl)).1).trans (ev61))
          have lk70 : ((u66).1 c1 4).toInt = (s.1 c1 4).toInt := congrArg Int32.toInt (((fu66 c1 4 (by rw [hk1]; rfl)).1).trans (((fu58 c1 4 (by rw [hk1]; rfl)).1).trans (((fu55 c1 4 (by rw [hk1]; rfl)).1).trans ((fu1 c1 4 (by rw [hk1]; rfl)).1))))
          exact r_zret C (n_bool (by omega)) (oDec_at oX5_noteStatement 53 rfl) ⟨_, rfl, ⟨by omega, by first | (intro h; exfalso; omega) | (have hT := oqT_0 (g := g) (a := a) (b := b) (T := T) hHD (by omega) (by omega) (by omega); omega), by first | (intro h; exfalso; omega) | (have hT := oqT_5 (g := g) (a := a) (b := b) (T := T) hHD (by omega) (by omega) (by omega); omega) | (have hT := oqT_4 (g := g) (a := a) (b := b) (T := T) hHD (by omega) (by omega); omega), (owLN_fr fu66 rfl (owLN_fr fu58 rfl (owLN_fr fu55 rfl (owLN_fr fu1 rfl hp6))))⟩⟩
        · skip
          replace pu66_0 := pu66_0.resolve_left (by omega)
          clear pu66_1
          refine r_aload_n C (j := 1) (oDec_at oX5_noteStatement 41 rfl) rfl rfl ?_
          refine r_iload_n C (j := 2) (oDec_at oX5_noteStatement 42 rfl) rfl rfl ?_
          refine r_iload_n C (j := 3) (oDec_at oX5_noteStatement 43 rfl) rfl rfl ?_
          have lk71 : ((u66).1 c1 4).toInt = (s.1 c1 4).toInt := congrArg Int32.toInt (((fu66 c1 4 (by rw [hk1]; rfl)).1).trans (((fu58 c1 4 (by rw [hk1]; rfl)).1).trans (((fu55 c1 4 (by rw [hk1]; rfl)).1).trans ((fu1 c1 4 (by rw [hk1]; rfl)).1))))
          have lk72 : ((u66).1 c1 5).toInt = v61.toInt := congrArg Int32.toInt (((fu66 c1 5 (by rw [hk1]; rfl)).1).trans (ev61))
          have lk73 : ((u66).1 c1 4).toInt = (s.1 c1 4).toInt := congrArg Int32.toInt (((fu66 c1 4 (by rw [hk1]; rfl)).1).trans (((fu58 c1 4 (by rw [hk1]; rfl)).1).trans (((fu55 c1 4 (by rw [hk1]; rfl)).1).trans ((fu1 c1 4 (by rw [hk1]; rfl)).1))))
          have lk74 : ((u66).1 c1 5).toInt = v61.toInt := congrArg Int32.toInt (((fu66 c1 5 (by rw [hk1]; rfl)).1).trans (ev61))
          have lk75 : ((u66).1 c1 4).toInt = (s.1 c1 4).toInt := congrArg Int32.toInt (((fu66 c1 4 (by rw [hk1]; rfl)).1).trans (((fu58 c1 4 (by rw [hk1]; rfl)).1).trans (((fu55 c1 4 (by rw [hk1]; rfl)).1).trans ((fu1 c1 4 (by rw [hk1]; rfl)).1))))
          have lk76 : ((u66).1 c1 5).toInt = v61.toInt := congrArg Int32.toInt (((fu66 c1 5 (by rw [hk1]; rfl)).1).trans (ev61))
          refine r_callVi C oCl4 hk1 miX4_add mlX5_85 (ct9_X4_add l E (u66) c1 hk1 r56 r67 (owLN_fr fu66 rfl (owLN_fr fu58 rfl (owLN_fr fu55 rfl (owLN_fr fu1 rfl hp6))))) (by decide) rfl rfl rfl (Nat.le_of_ble_eq_true rfl) (oDec_at oX5_noteStatement 44 rfl) (fun r78 u77 pu77 fu77 => ?_)
          try dsimp only at pu77
          try simp only [lk71, lk72, lk73, lk74, lk75, lk76] at pu77
          obtain ⟨pu77_0, pu77_1, pu77_2, pu77_3, pu77_4⟩ := pu77
          have rr78 := n_rng r78
          refine r_if_eq C 90 (oDec_at oX5_noteStatement 45 rfl) (by decide) (fun cd79 => ?_) (fun cd79 => ?_)
          · skip
            clear pu77_1
            replace pu77_2 := pu77_2 (by omega)
            clear pu77_4
            refine r_iconst C (oDec_at oX5_noteStatement 52 rfl) (v := k0) (by rw [qk0]; rfl) ?_
            have lk80 : ((u77).1 30 2).toInt = (u66.1 30 2).toInt := congrArg Int32.toInt ((fu77 30 2 rfl).1)
            have lk81 : ((u77).1 30 3).toInt = (u66.1 30 3).toInt := congrArg Int32.toInt ((fu77 30 3 rfl).1)
            have lk82 : ((u77).1 30 8).toInt = (u66.1 30 8).toInt := congrArg Int32.toInt ((fu77 30 8 rfl).1)
            have lk83 : ((u77).1 30 9).toInt = (u66.1 30 9).toInt := congrArg Int32.toInt ((fu77 30 9 rfl).1)
            have lk84 : ((u77).1 30 8).toInt = (u66.1 30 8).toInt := congrArg Int32.toInt ((fu77 30 8 rfl).1)
            have lk85 : ((u77).1 30 9).toInt = (u66.1 30 9).toInt := congrArg Int32.toInt ((fu77 30 9 rfl).1)
            exact r_zret C (n_bool (by omega)) (oDec_at oX5_noteStatement 53 rfl) ⟨_, rfl, ⟨by omega, by first | (intro h; exfalso; omega) | (have hT := oqT_0 (g := g) (a := a) (b := b) (T := T) hHD (by omega) (by omega) (by omega); omega), by first | (intro h; exfalso; omega) | (have hT := oqT_5 (g := g) (a := a) (b := b) (T := T) hHD (by omega) (by omega) (by omega); omega) | (have hT := oqT_4 (g := g) (a := a) (b := b) (T := T) hHD (by omega) (by omega); omega), pu77_3⟩⟩
          · skip
            replace pu77_1 := pu77_1 (by omega)
            clear pu77_2
            replace pu77_4 := pu77_4 (by omega)
            refine r_aload_n C (j := 0) (oDec_at oX5_noteStatement 46 rfl) rfl rfl ?_
            refine r_bipush C (oDec_at oX5_noteStatement 47 rfl) (v := k59) (by rw [qk59]; rfl) ?_
            have lk86 : ((u77).1 30 2).toInt = (u66.1 30 2).toInt := congrArg Int32.toInt ((fu77 30 2 rfl).1)
            have lk87 : ((u77).1 30 8).toInt = (u66.1 30 8).toInt := congrArg Int32.toInt ((fu77 30 8 rfl).1)
            have lk88 : ((u77).1 30 9).toInt = (u66.1 30 9).toInt := congrArg Int32.toInt ((fu77 30 9 rfl).1)
            refine r_callVi C oCl5 rfl miX5_expectSign mlX5_88 (ct4_X5_expectSign l E (u77) k59 (g) (oqTb g a b) (59) (by omega) (oqX_fr fu77 rfl (oqX_fr fu66 rfl (oqX_fr fu58 rfl (oqX_fr fu55 rfl (oqX_fr fu1 rfl hp2))))) (by omega) (by omega)) (by decide) rfl rfl rfl (Nat.le_of_ble_eq_true rfl) (oDec_at oX5_noteStatement 48 rfl) (fun r90 u89 pu89 fu89 => ?_)
            try dsimp only at pu89
            try simp only [lk86, lk87, lk88] at pu89
            obtain ⟨pu89_0, pu89_1, pu89_2⟩ := pu89
            have rr90 := n_rng r90
            refine r_if_eq C 90 (oDec_at oX5_noteStatement 49 rfl) (by decide) (fun cd91 => ?_) (fun cd91 => ?_)
            · skip
              clear pu89_1
              replace pu89_2 := pu89_2 (by omega)
              refine r_iconst C (oDec_at oX5_noteStatement 52 rfl) (v := k0) (by rw [qk0]; rfl) ?_
              have lk92 : ((u89).1 30 3).toInt = (u66.1 30 3).toInt := congrArg Int32.toInt (((fu89 30 3 rfl).1).trans ((fu77 30 3 rfl).1))
              have lk93 : ((u89).1 c1 5).toInt = (u77.1 c1 5).toInt := congrArg Int32.toInt ((fu89 c1 5 (by rw [hk1]; rfl)).1)
              have lk94 : ((u89).1 c1 4).toInt = (u77.1 c1 4).toInt := congrArg Int32.toInt ((fu89 c1 4 (by rw [hk1]; rfl)).1)
              exact r_zret C (n_bool (by omega)) (oDec_at oX5_noteStatement 53 rfl) ⟨_, rfl, ⟨by omega, by first | (intro h; exfalso; omega) | (have hT := oqT_0 (g := g) (a := a) (b := b) (T := T) hHD (by omega) (by omega) (by omega); omega), by first | (intro h; exfalso; omega) | (have hT := oqT_5 (g := g) (a := a) (b := b) (T := T) hHD (by omega) (by omega) (by omega); omega) | (have hT := oqT_4 (g := g) (a := a) (b := b) (T := T) hHD (by omega) (by omega); omega), (owLN_fr fu89 rfl pu77_3)⟩⟩
            · skip
              replace pu89_1 := pu89_1 (by omega)
              clear pu89_2
              refine r_iconst C (oDec_at oX5_noteStatement 50 rfl) (v := k1) (by rw [qk1]; rfl) ?_
              refine r_goto C (tgt := 91) (oDec_at oX5_noteStatement 51 rfl) (by decide) ?_
              have lk95 : ((u89).1 30 3).toInt = (u66.1 30 3).toInt := congrArg Int32.toInt (((fu89 30 3 rfl).1).trans ((fu77 30 3 rfl).1))
              have lk96 : ((u89).1 c1 5).toInt = (u77.1 c1 5).toInt := congrArg Int32.toInt ((fu89 c1 5 (by rw [hk1]; rfl)).1)
              have lk97 : ((u89).1 c1 4).toInt = (u77.1 c1 4).toInt := congrArg Int32.toInt ((fu89 c1 4 (by rw [hk1]; rfl)).1)
              exact r_zret C (n_bool (by omega)) (oDec_at oX5_noteStatement 53 rfl) ⟨_, rfl, ⟨by omega, by first | (intro h; exfalso; omega) | (have hT := oqT_0 (g := g) (a := a) (b := b) (T := T) hHD (by omega) (by omega) (by omega); omega), by first | (intro h; exfalso; omega) | (have hT := oqT_5 (g := g) (a := a) (b := b) (T := T) hHD (by omega) (by omega) (by omega); omega) | (have hT := oqT_4 (g := g) (a := a) (b := b) (T := T) hHD (by omega) (by omega); omega), (owLN_fr fu89 rfl pu77_3)⟩⟩
      · skip
        clear pu58_1
        replace pu58_2 := pu58_2 (by omega)
        have hT := oqT_3 (g := g) (a := a) (b := b) (T := T) hHD (by omega)
        refine r_iconst C (oDec_at oX5_noteStatement 26 rfl) (v := k0) (by rw [qk0]; rfl) ?_
        have lk98 : ((u58).1 c1 5).toInt = (s.1 c1 5).toInt := congrArg Int32.toInt (((fu58 c1 5 (by rw [hk1]; rfl)).1).trans (((fu55 c1 5 (by rw [hk1]; rfl)).1).trans ((fu1 c1 5 (by rw [hk1]; rfl)).1)))
        have lk99 : ((u58).1 c1 4).toInt = (s.1 c1 4).toInt := congrArg Int32.toInt (((fu58 c1 4 (by rw [hk1]; rfl)).1).trans (((fu55 c1 4 (by rw [hk1]; rfl)).1).trans ((fu1 c1 4 (by rw [hk1]; rfl)).1)))
        exact r_zret C (n_bool (by omega)) (oDec_at oX5_noteStatement 27 rfl) ⟨_, rfl, ⟨by omega, by omega, by omega, (owLN_fr fu58 rfl (owLN_fr fu55 rfl (owLN_fr fu1 rfl hp6)))⟩⟩
    · skip
      clear pu55_0
      replace pu55_1 := pu55_1.resolve_left (by omega)
      have hT := oqT_1 (g := g) (a := a) (b := b) (T := T) (by omega) (by omega)
      refine r_iconst C (oDec_at oX5_noteStatement 14 rfl) (v := k0) (by rw [qk0]; rfl) ?_
      have lk100 : ((u55).1 c1 5).toInt = (s.1 c1 5).toInt := congrArg Int32.toInt (((fu55 c1 5 (by rw [hk1]; rfl)).1).trans ((fu1 c1 5 (by rw [hk1]; rfl)).1))
      have lk101 : ((u55).1 c1 4).toInt = (s.1 c1 4).toInt := congrArg Int32.toInt (((fu55 c1 4 (by rw [hk1]; rfl)).1).trans ((fu1 c1 4 (by rw [hk1]; rfl)).1))
      exact r_zret C (n_bool (by omega)) (oDec_at oX5_noteStatement 15 rfl) ⟨_, rfl, ⟨by omega, by omega, by omega, (owLN_fr fu55 rfl (owLN_fr fu1 rfl hp6))⟩⟩
set_option maxHeartbeats 4000000 in
set_option maxRecDepth 100000 in
theorem ct9_X5_readLine (l : Launch) (E : oE) (s : oS) (c1 : Nat) (hk1 : okd c1 = 4) (g : Int → Int) (hp0 : oqX g s) (hp1 : owLN s) : oMet l 8 yX5_readLine cX5_readLine 3 (some .int) [(4, 4), (4, 5), (4, 6), (4, 7), (5, 2), (5, 3), (5, 4), (5, 5), (5, 8), (5, 9), (16, 9999), (17, 9999), (18, 9999), (19, 9999)] E s [.ref (oad E 30), .ref (oad E c1)] (oPi (fun r u => (r.toInt = oqR1 g) ∧ ((u.1 30 8).toInt = oqR2 g) ∧ ((u.1 30 9).toInt = oqR3 g) ∧ (owLN u))) := by
  refine oMet.of (lv := [(0, .ref (oad E 30)), (1, .ref (oad E c1))]) (by decide +kernel) (Nat.le_of_ble_eq_true rfl) rfl (fun J C hT => ?_)
  have C : oC l 8 cX5_readLine RX5 3 (some .int) [(4, 4), (4, 5), (4, 6), (4, 7), (5, 2), (5, 3), (5, 4), (5, 5), (5, 8), (5, 9), (16, 9999), (17, 9999), (18, 9999), (19, 9999)] E s (oPi (fun r u => (r.toInt = oqR1 g) ∧ ((u.1 30 8).toInt = oqR2 g) ∧ ((u.1 30 9).toInt = oqR3 g) ∧ (owLN u))) J := C
  obtain ⟨km1, qkm1⟩ : ∃ z : Int32, z = (-1) := ⟨_, rfl⟩
  have ekm1 : km1.toInt = (-1) := by rw [qkm1]; rfl
  obtain ⟨k0, qk0⟩ : ∃ z : Int32, z = 0 := ⟨_, rfl⟩
  have ek0 : k0.toInt = 0 := by rw [qk0]; rfl
  obtain ⟨k24, qk24⟩ : ∃ z : Int32, z = 24 := ⟨_, rfl⟩
  have ek24 : k24.toInt = 24 := by rw [qk24]; rfl
  have key : ∀ n : Nat, (∀ (t : oS) (x2 : Int32), (oqX g t) → (oqRn g (t.1 30 2).toInt (t.1 30 3).toInt (t.1 c1 5).toInt x2.toInt) → (0 ≤ x2.toInt ∧ x2.toInt ≤ 24) → ((t.1 c1 4).toInt = x2.toInt) → ((t.1 30 8).toInt = 0 ∧ (t.1 30 9).toInt = -1) → (owLN t) → 25 - x2.toInt ≤ (n : Int) → J t 10 [(0, .ref (oad E 30)), (1, .ref (oad E c1)), (2, .int x2)] []) := by
    intro n
    induction n using Nat.strongRecOn with
    | _ n ih =>
      skip
      · intro t x2  iv0 iv1 iv2 iv3 iv4 iv5 hmu
        have rx2 := n_rng x2
        refine r_iload_n C (j := 2) (oDec_at oX5_readLine 6 rfl) rfl rfl ?_
        refine r_bipush C (oDec_at oX5_readLine 7 rfl) (v := k24) (by rw [qk24]; rfl) ?_
        refine r_icmp_ge C 42 (oDec_at oX5_readLine 8 rfl) (by decide) (fun cd1 => ?_) (fun cd1 => ?_)
        · skip
          refine r_aload_n C (j := 0) (oDec_at oX5_readLine 23 rfl) rfl rfl ?_
          refine r_bipush C (oDec_at oX5_readLine 24 rfl) (v := k24) (by rw [qk24]; rfl) ?_
          refine r_callVi C oCl5 rfl miX5_closing mlX5_51 (ct4_X5_closing l E (t) k24 (g) ((t.1 30 2).toInt) (by omega) iv0) (by decide) rfl rfl rfl (Nat.le_of_ble_eq_true rfl) (oDec_at oX5_readLine 25 rfl) (fun r3 u2 pu2 fu2 => ?_)
          try dsimp only at pu2
          have rr3 := n_rng r3
          have hR : (oqR1 g = r3.toInt ∧ oqR2 g = ((u2).1 30 8).toInt ∧ oqR3 g = ((u2).1 30 9).toInt) := by (rcases pu2 with h8 | h8; (have h9 := oqRn_end iv1 (by omega); omega); (have h9 := oqRn_5 iv1 (by omega) (by omega); omega))
          exact r_iret C (oDec_at oX5_readLine 26 rfl) ⟨_, rfl, ⟨by omega, by omega, by omega, (owLN_fr fu2 rfl iv5)⟩⟩
        · skip
          refine r_aload_n C (j := 0) (oDec_at oX5_readLine 9 rfl) rfl rfl ?_
          refine r_callVi C oCl5 rfl miX5_peek mlX5_43 (ct4_X5_peek l E (t)  (g) ((t.1 30 2).toInt) (by omega) iv0) (by decide) rfl rfl rfl (Nat.le_of_ble_eq_true rfl) (oDec_at oX5_readLine 10 rfl) (fun r5 u4 pu4 fu4 => ?_)
          try dsimp only at pu4
          obtain ⟨pu4_0, pu4_1, pu4_2, pu4_3, pu4_4, pu4_5⟩ := pu4
          have rr5 := n_rng r5
          refine r_iconst C (oDec_at oX5_readLine 11 rfl) (v := km1) (by rw [qkm1]; rfl) ?_
          refine r_icmp_ne C 26 (oDec_at oX5_readLine 12 rfl) (by decide) (fun cd6 => ?_) (fun cd6 => ?_)
          · skip
            have hss := oqSk_sk (g := g) (a := (t.1 30 2).toInt) ⟨by omega, by omega⟩
            have hgs : g (oqSk g (oqSk g (t.1 30 2).toInt)) = g (oqSk g (t.1 30 2).toInt) := by rw [hss]
            refine r_aload_n C (j := 0) (oDec_at oX5_readLine 15 rfl) rfl rfl ?_
            refine r_aload_n C (j := 1) (oDec_at oX5_readLine 16 rfl) rfl rfl ?_
            have lk7 : ((u4).1 30 3).toInt = (t.1 30 3).toInt := congrArg Int32.toInt ((fu4 30 3 rfl).1)
            have lk8 : ((u4).1 c1 5).toInt = (t.1 c1 5).toInt := congrArg Int32.toInt ((fu4 c1 5 (by rw [hk1]; rfl)).1)
            have lk9 : ((u4).1 c1 4).toInt = (t.1 c1 4).toInt := congrArg Int32.toInt ((fu4 c1 4 (by rw [hk1]; rfl)).1)
            have lk10 : ((u4).1 c1 4).toInt = (t.1 c1 4).toInt := congrArg Int32.toInt ((fu4 c1 4 (by rw [hk1]; rfl)).1)
            have lk11 : ((u4).1 30 8).toInt = (t.1 30 8).toInt := congrArg Int32.toInt ((fu4 30 8 rfl).1)
            have lk12 : ((u4).1 30 9).toInt = (t.1 30 9).toInt := congrArg Int32.toInt ((fu4 30 9 rfl).1)
            refine r_callVi C oCl5 rfl miX5_noteStatement mlX5_47 (ct9_X5_noteStatement l E (u4) c1 hk1 (g) (oqSk g (t.1 30 2).toInt) ((t.1 30 3).toInt) ((t.1 c1 5).toInt) (by omega) (by omega) (oqX_fr fu4 rfl iv0) (by omega) (by omega) (by omega) (owLN_fr fu4 rfl iv5)) (by decide) rfl rfl rfl (Nat.le_of_ble_eq_true rfl) (oDec_at oX5_readLine 17 rfl) (fun r14 u13 pu13 fu13 => ?_)
            try dsimp only at pu13
            try simp only [lk7, lk8, lk9, lk10, lk11, lk12] at pu13
            obtain ⟨pu13_0, pu13_1, pu13_2, pu13_3⟩ := pu13
            have rr14 := n_rng r14
            refine r_if_ne C 36 (oDec_at oX5_readLine 18 rfl) (by decide) (fun cd15 => ?_) (fun cd15 => ?_)
            · skip
              replace pu13_1 := pu13_1 (by omega)
              clear pu13_2
              obtain ⟨v16, ev16⟩ : ∃ z : Int32, x2 + Int32.ofInt 1 = z := ⟨_, rfl⟩
              have hv16 : v16.toInt = x2.toInt + 1 := n_inc ev16 (by decide) (by omega) (by omega)
              refine r_iinc C (j := 2) (lv' := [(0, .ref (oad E 30)), (1, .ref (oad E c1)), (2, .int v16)]) v16 [1, 2, 0] (oDec_at oX5_readLine 21 rfl) rfl ev16 (by decide) rfl ?_
              refine r_goto C (tgt := 10) (oDec_at oX5_readLine 22 rfl) (by decide) ?_
              exact (ih (n - 1) (by omega)) (u13) v16  (oqX_fr fu13 rfl (oqX_fr fu4 rfl iv0)) (by first | exact oqRn_nx iv1 (by omega) (by omega) (by omega) (by omega) (by omega) (by omega) (by omega) | exact oqRn_0 (by omega) (by omega) (by omega) (by omega)) (by omega) (by omega) (by omega) pu13_3 (by omega)
            · skip
              clear pu13_1
              replace pu13_2 := pu13_2 (by omega)
              have hR := oqRn_bad iv1 (by omega) (by omega) (by omega)
              refine r_iconst C (oDec_at oX5_readLine 19 rfl) (v := km1) (by rw [qkm1]; rfl) ?_
              exact r_iret C (oDec_at oX5_readLine 20 rfl) ⟨_, rfl, ⟨by omega, by omega, by omega, pu13_3⟩⟩
          · skip
            have hR := oqRn_end iv1 (by omega)
            refine r_iload_n C (j := 2) (oDec_at oX5_readLine 13 rfl) rfl rfl ?_
            have lk17 : ((u4).1 30 8).toInt = (t.1 30 8).toInt := congrArg Int32.toInt ((fu4 30 8 rfl).1)
            have lk18 : ((u4).1 30 9).toInt = (t.1 30 9).toInt := congrArg Int32.toInt ((fu4 30 9 rfl).1)
            exact r_iret C (oDec_at oX5_readLine 14 rfl) ⟨_, rfl, ⟨by omega, by omega, by omega, (owLN_fr fu4 rfl iv5)⟩⟩
  refine r_aload_n C (j := 0) (oDec_at oX5_readLine 0 rfl) rfl rfl ?_
  refine r_callVv C oCl5 rfl miX5_begin mlX5_35 (ct5_X5_begin l E (s)  ) (by decide) rfl rfl rfl (Nat.le_of_ble_eq_true rfl) (oDec_at oX5_readLine 1 rfl) (fun u19 pu19 fu19 => ?_)
  try dsimp only at pu19
  obtain ⟨pu19_0, pu19_1, pu19_2, pu19_3, pu19_4⟩ := pu19
  refine r_aload_n C (j := 1) (oDec_at oX5_readLine 2 rfl) rfl rfl ?_
  refine r_callVv C oCl4 hk1 miX4_clear mlX5_38 (ct9_X4_clear l E (u19) c1 hk1 (owLN_fr fu19 rfl hp1)) (by decide) rfl rfl rfl (Nat.le_of_ble_eq_true rfl) (oDec_at oX5_readLine 3 rfl) (fun u21 pu21 fu21 => ?_)
  try dsimp only at pu21
  obtain ⟨pu21_0, pu21_1, pu21_2, pu21_3, pu21_4⟩ := pu21
  refine r_iconst C (oDec_at oX5_readLine 4 rfl) (v := k0) (by rw [qk0]; rfl) ?_
  refine r_istore_n C (lv' := [(0, .ref (oad E 30)), (1, .ref (oad E c1)), (2, .int k0)]) [1, 2, 0] (oDec_at oX5_readLine 5 rfl) rfl (by decide) rfl ?_
  have lk23 : ((u21).1 30 2).toInt = (u19.1 30 2).toInt := congrArg Int32.toInt ((fu21 30 2 rfl).1)
  have lk24 : ((u21).1 30 3).toInt = (u19.1 30 3).toInt := congrArg Int32.toInt ((fu21 30 3 rfl).1)
  have lk25 : ((u21).1 30 8).toInt = (u19.1 30 8).toInt := congrArg Int32.toInt ((fu21 30 8 rfl).1)
  have lk26 : ((u21).1 30 9).toInt = (u19.1 30 9).toInt := congrArg Int32.toInt ((fu21 30 9 rfl).1)
  exact (key (25 - k0.toInt).toNat) (u21) k0  (oqX_fr fu21 rfl (oqX_fr fu19 rfl hp0)) (by first | exact oqRn_0 (by omega) (by omega) (by omega) (by omega)) (by omega) (by omega) (by omega) pu21_2 (by omega)
