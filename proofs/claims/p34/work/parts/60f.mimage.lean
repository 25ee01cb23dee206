set_option maxHeartbeats 4000000 in
set_option maxRecDepth 100000 in
theorem ct4_X12_isTold (l : Launch) (E : oE) (s : oS) (a1 : Int32) (g : Int → Int) (nn : Int) (hp0 : 0 ≤ a1.toInt ∧ a1.toInt ≤ 1600) (hp1 : a1.toInt = nn) (hp2 : oqY g nn s) : oMet l 2 yX12_isTold cX12_isTold 4 (some .boolean) [] E s [.ref (oad E 71), .int a1] (oPi (fun r u => (0 ≤ r.toInt ∧ r.toInt ≤ 1) ∧ (r.toInt = 1 → oTT u) ∧ (r.toInt = 1 ↔ oqI g nn))) := by
  refine oMet.of (lv := [(0, .ref (oad E 71)), (1, .int a1)]) (by decide +kernel) (Nat.le_of_ble_eq_true rfl) rfl (fun J C hT => ?_)
  have C : oC l 2 cX12_isTold RX12 4 (some .boolean) [] E s (oPi (fun r u => (0 ≤ r.toInt ∧ r.toInt ≤ 1) ∧ (r.toInt = 1 → oTT u) ∧ (r.toInt = 1 ↔ oqI g nn))) J := C
  obtain ⟨k0, qk0⟩ : ∃ z : Int32, z = 0 := ⟨_, rfl⟩
  have ek0 : k0.toInt = 0 := by rw [qk0]; rfl
  obtain ⟨k1, qk1⟩ : ∃ z : Int32, z = 1 := ⟨_, rfl⟩
  have ek1 : k1.toInt = 1 := by rw [qk1]; rfl
  obtain ⟨k2, qk2⟩ : ∃ z : Int32, z = 2 := ⟨_, rfl⟩
  have ek2 : k2.toInt = 2 := by rw [qk2]; rfl
  obtain ⟨k24, qk24⟩ : ∃ z : Int32, z = 24 := ⟨_, rfl⟩
  have ek24 : k24.toInt = 24 := by rw [qk24]; rfl
  obtain ⟨k28, qk28⟩ : ∃ z : Int32, z = 28 := ⟨_, rfl⟩
  have ek28 : k28.toInt = 28 := by rw [qk28]; rfl
  obtain ⟨k96, qk96⟩ : ∃ z : Int32, z = 96 := ⟨_, rfl⟩
  have ek96 : k96.toInt = 96 := by rw [qk96]; rfl
  obtain ⟨k255, qk255⟩ : ∃ z : Int32, z = 255 := ⟨_, rfl⟩
  have ek255 : k255.toInt = 255 := by rw [qk255]; rfl
  obtain ⟨j1, qj1⟩ : ∃ z : Int64, z = 1 := ⟨_, rfl⟩
  have ej1 : j1.toInt = 1 := by rw [qj1]; rfl
  obtain ⟨j16, qj16⟩ : ∃ z : Int64, z = 16 := ⟨_, rfl⟩
  have ej16 : j16.toInt = 16 := by rw [qj16]; rfl
  have rg1 := n_rng a1
  have key : ∀ n : Nat, (∀ (t : oS) (x2 : Int32) (x3 : Int32), (0 ≤ x3.toInt ∧ x3.toInt ≤ 24) → (x3.toInt ≤ (t.1 72 0).toInt ∧ (t.1 72 0).toInt ≤ 24) → (x2.toInt = oSm (fun j => t.1 72 (2 + 2 * j)) x3.toNatClampNeg) → (oTs x3 t) → (0 ≤ x2.toInt ∧ x2.toInt ≤ 300 * x3.toInt) → (nn = 2 * g 0 + 2 ∧ 0 ≤ g 0 ∧ g 0 ≤ 24) → (g (nn - 1) = oqC g (nn - 1).toNat) → (x2.toInt = oqS g x3.toNatClampNeg) → (oqFt g x3.toNatClampNeg) → (oqY g nn t) → 25 - x3.toInt ≤ (n : Int) → J t 57 [(0, .ref (oad E 71)), (2, .int x2), (3, .int x3)] []) := by
    intro n
    induction n using Nat.strongRecOn with
    | _ n ih =>
      skip
      · intro t x2 x3  iv0 iv1 iv2 iv3 iv4 iv5 iv6 iv7 iv8 iv9 hmu
        have rx2 := n_rng x2
        have rx3 := n_rng x3
        have hn3 := n_nat x3
        refine r_iload_n C (j := 2) (oDec_at oX12_isTold 38 rfl) rfl rfl ?_
        refine r_aload_n C (j := 0) (oDec_at oX12_isTold 39 rfl) rfl rfl ?_
        refine r_getF (k := 0) (b := 72) C oCl12 rfl (by decide) flX12_7 rfl rfl rfl (oDec_at oX12_isTold 40 rfl) ?_
        refine r_iconst C (oDec_at oX12_isTold 41 rfl) (v := k0) (by rw [qk0]; rfl) ?_
        obtain ⟨v2, ev2⟩ : ∃ z : Int32, (t).1 72 k0.toNatClampNeg = z := ⟨_, rfl⟩
        have gv2 : (t.1 72 k0.toNatClampNeg).toInt = v2.toInt := congrArg Int32.toInt (ev2)
        refine r_iald (n := 1600) (lo := 0) (hi := 255) C v2 rfl (by decide) rfl rfl ⟨by omega, by omega⟩ (by decide) ev2 rfl rfl (oDec_at oX12_isTold 42 rfl) (fun b1 b1h => ?_)
        have h72b := oIx0 (i := k0) ev2 ek0
        have hg64 := oqY_at iv9 ev2 (a := 0) (by omega) (by omega) (by omega)
        refine r_icmp_ge C 140 (oDec_at oX12_isTold 43 rfl) (by decide) (fun cd3 => ?_) (fun cd3 => ?_)
        · skip
          refine r_iload_n C (j := 1) (oDec_at oX12_isTold 92 rfl) rfl rfl ?_
          refine r_bipush C (oDec_at oX12_isTold 93 rfl) (v := k96) (by rw [qk96]; rfl) ?_
          refine r_icmp_gt C 150 (oDec_at oX12_isTold 94 rfl) (by decide) (fun cd4 => ?_) (fun cd4 => ?_)
          · skip
            refine r_iconst C (oDec_at oX12_isTold 97 rfl) (v := k0) (by rw [qk0]; rfl) ?_
            exact r_zret C (n_bool (by omega)) (oDec_at oX12_isTold 98 rfl) ⟨_, rfl, ⟨by omega, by first | (intro h; exfalso; omega) | exact fun _ => oTT_of (x := x3) iv3 (by omega) (by omega) (by omega), by first | exact iff_of_true (by omega) (oqI_yes (x := x3) (by omega) iv6 (by omega) iv8 (by omega)) | exact iff_of_false (by omega) (oqI_not (x := x3) (by omega) (by omega))⟩⟩
          · skip
            refine r_iconst C (oDec_at oX12_isTold 95 rfl) (v := k1) (by rw [qk1]; rfl) ?_
            refine r_goto C (tgt := 151) (oDec_at oX12_isTold 96 rfl) (by decide) ?_
            exact r_zret C (n_bool (by omega)) (oDec_at oX12_isTold 98 rfl) ⟨_, rfl, ⟨by omega, by first | (intro h; exfalso; omega) | exact fun _ => oTT_of (x := x3) iv3 (by omega) (by omega) (by omega), by first | exact iff_of_true (by omega) (oqI_yes (x := x3) (by omega) iv6 (by omega) iv8 (by omega)) | exact iff_of_false (by omega) (oqI_not (x := x3) (by omega) (by omega))⟩⟩
        · skip
          refine r_aload_n C (j := 0) (oDec_at oX12_isTold 44 rfl) rfl rfl ?_
          refine r_getF (k := 0) (b := 72) C oCl12 rfl (by decide) flX12_7 rfl rfl rfl (oDec_at oX12_isTold 45 rfl) ?_
          refine r_iconst C (oDec_at oX12_isTold 46 rfl) (v := k1) (by rw [qk1]; rfl) ?_
          refine r_iconst C (oDec_at oX12_isTold 47 rfl) (v := k2) (by rw [qk2]; rfl) ?_
          refine r_iload_n C (j := 2) (oDec_at oX12_isTold 48 rfl) rfl rfl ?_
          obtain ⟨v5, ev5⟩ : ∃ z : Int32, z = k2 * x3 := ⟨_, rfl⟩
          have hv5 : v5.toInt = 2 * x3.toInt := n_mulK' 2 ev5 ek2 (by omega) (by omega)
          refine r_imul C v5 (oDec_at oX12_isTold 49 rfl) ev5 ?_
          refine r_pc C 75 rfl ?_
          obtain ⟨v6, ev6⟩ : ∃ z : Int32, z = k1 + v5 := ⟨_, rfl⟩
          have hv6 : v6.toInt = k1.toInt + v5.toInt := n_add ev6 (by omega) (by omega)
          refine r_iadd C v6 (oDec_at oX12_isTold 50 rfl) ev6 ?_
          obtain ⟨v8, ev8⟩ : ∃ z : Int32, (t).1 72 v6.toNatClampNeg = z := ⟨_, rfl⟩
          have gv8 : (t.1 72 v6.toNatClampNeg).toInt = v8.toInt := congrArg Int32.toInt (ev8)
          refine r_iald (n := 1600) (lo := 0) (hi := 255) C v8 rfl (by decide) rfl rfl ⟨by omega, by omega⟩ (by decide) ev8 rfl rfl (oDec_at oX12_isTold 51 rfl) (fun b7 b7h => ?_)
          have hg77 := oqY_at iv9 ev8 (a := 1 + 2 * (x3.toNatClampNeg : Int)) (by omega) (by omega) (by omega)
          refine r_bipush C (oDec_at oX12_isTold 52 rfl) (v := k28) (by rw [qk28]; rfl) ?_
          refine r_icmp_le C 98 (oDec_at oX12_isTold 53 rfl) (by decide) (fun cd9 => ?_) (fun cd9 => ?_)
          · skip
            refine r_aload_n C (j := 0) (oDec_at oX12_isTold 64 rfl) rfl rfl ?_
            refine r_getF (k := 0) (b := 72) C oCl12 rfl (by decide) flX12_7 rfl rfl rfl (oDec_at oX12_isTold 65 rfl) ?_
            refine r_iconst C (oDec_at oX12_isTold 66 rfl) (v := k2) (by rw [qk2]; rfl) ?_
            refine r_iconst C (oDec_at oX12_isTold 67 rfl) (v := k2) (by rw [qk2]; rfl) ?_
            refine r_iload_n C (j := 2) (oDec_at oX12_isTold 68 rfl) rfl rfl ?_
            obtain ⟨v10, ev10⟩ : ∃ z : Int32, z = k2 * x3 := ⟨_, rfl⟩
            have hv10 : v10.toInt = 2 * x3.toInt := n_mulK' 2 ev10 ek2 (by omega) (by omega)
            refine r_imul C v10 (oDec_at oX12_isTold 69 rfl) ev10 ?_
            refine r_pc C 106 rfl ?_
            obtain ⟨v11, ev11⟩ : ∃ z : Int32, z = k2 + v10 := ⟨_, rfl⟩
            have hv11 : v11.toInt = k2.toInt + v10.toInt := n_add ev11 (by omega) (by omega)
            refine r_iadd C v11 (oDec_at oX12_isTold 70 rfl) ev11 ?_
            obtain ⟨v13, ev13⟩ : ∃ z : Int32, (t).1 72 v11.toNatClampNeg = z := ⟨_, rfl⟩
            have gv13 : (t.1 72 v11.toNatClampNeg).toInt = v13.toInt := congrArg Int32.toInt (ev13)
            refine r_iald (n := 1600) (lo := 0) (hi := 255) C v13 rfl (by decide) rfl rfl ⟨by omega, by omega⟩ (by decide) ev13 rfl rfl (oDec_at oX12_isTold 71 rfl) (fun b12 b12h => ?_)
            have hq1 := congrArg Int32.toInt (oIx72 (i := v11) (x := x3) ev13 (by omega) (by omega))
            have hg108 := oqY_at iv9 ev13 (a := 2 + 2 * (x3.toNatClampNeg : Int)) (by omega) (by omega) (by omega)
            obtain ⟨v14, ev14⟩ : ∃ z : Int64, v13.toInt64 = z := ⟨_, rfl⟩
            have hv14 : v14.toInt = v13.toInt := n_i2l ev14
            refine r_i2l C v14 (oDec_at oX12_isTold 72 rfl) ev14 ?_
            refine r_lconst C (oDec_at oX12_isTold 73 rfl) (v := j1) (by rw [qj1]; rfl) ?_
            refine r_ldc2 C (v := j16) (by rw [qj16]; exact klX12_595) (oDec_at oX12_isTold 74 rfl) ?_
            refine r_callSi C miX12_isIn mlX12_216 (ct_X12_isIn l E (t) v14 j1 j16 ) (by decide) rfl rfl rfl (Nat.le_of_ble_eq_true rfl) (oDec_at oX12_isTold 75 rfl) (fun r16 u15 pu15 fu15 => ?_)
            try dsimp only at pu15
            obtain ⟨pu15_0, pu15_1⟩ := pu15
            have hxu15 := oFr_nil fu15; subst hxu15
            have rr16 := n_rng r16
            refine r_pc C 116 rfl ?_
            refine r_if_ne C 121 (oDec_at oX12_isTold 76 rfl) (by decide) (fun cd17 => ?_) (fun cd17 => ?_)
            · skip
              refine r_iload_n C (j := 1) (oDec_at oX12_isTold 79 rfl) rfl rfl ?_
              refine r_aload_n C (j := 0) (oDec_at oX12_isTold 80 rfl) rfl rfl ?_
              refine r_getF (k := 0) (b := 72) C oCl12 rfl (by decide) flX12_7 rfl rfl rfl (oDec_at oX12_isTold 81 rfl) ?_
              refine r_iconst C (oDec_at oX12_isTold 82 rfl) (v := k2) (by rw [qk2]; rfl) ?_
              refine r_iconst C (oDec_at oX12_isTold 83 rfl) (v := k2) (by rw [qk2]; rfl) ?_
              refine r_iload_n C (j := 2) (oDec_at oX12_isTold 84 rfl) rfl rfl ?_
              refine r_pc C 129 rfl ?_
              obtain ⟨v18, ev18⟩ : ∃ z : Int32, z = k2 * x3 := ⟨_, rfl⟩
              have hv18 : v18.toInt = 2 * x3.toInt := n_mulK' 2 ev18 ek2 (by omega) (by omega)
              refine r_imul C v18 (oDec_at oX12_isTold 85 rfl) ev18 ?_
              obtain ⟨v19, ev19⟩ : ∃ z : Int32, z = k2 + v18 := ⟨_, rfl⟩
              have hv19 : v19.toInt = k2.toInt + v18.toInt := n_add ev19 (by omega) (by omega)
              refine r_iadd C v19 (oDec_at oX12_isTold 86 rfl) ev19 ?_
              obtain ⟨v21, ev21⟩ : ∃ z : Int32, (t).1 72 v19.toNatClampNeg = z := ⟨_, rfl⟩
              have gv21 : (t.1 72 v19.toNatClampNeg).toInt = v21.toInt := congrArg Int32.toInt (ev21)
              refine r_iald (n := 1600) (lo := 0) (hi := 255) C v21 rfl (by decide) rfl rfl ⟨by omega, by omega⟩ (by decide) ev21 rfl rfl (oDec_at oX12_isTold 87 rfl) (fun b20 b20h => ?_)
              have hq2 := congrArg Int32.toInt (oIx72 (i := v19) (x := x3) ev21 (by omega) (by omega))
              have hg132 := oqY_at iv9 ev21 (a := 2 + 2 * (x3.toNatClampNeg : Int)) (by omega) (by omega) (by omega)
              obtain ⟨v22, ev22⟩ : ∃ z : Int32, z = x2 + v21 := ⟨_, rfl⟩
              have hv22 : v22.toInt = x2.toInt + v21.toInt := n_add ev22 (by omega) (by omega)
              refine r_iadd C v22 (oDec_at oX12_isTold 88 rfl) ev22 ?_
              refine r_istore_n C (lv' := [(0, .ref (oad E 71)), (2, .int v22), (3, .int x3)]) [1, 0, 2] (oDec_at oX12_isTold 89 rfl) rfl (by decide) rfl ?_
              obtain ⟨v23, ev23⟩ : ∃ z : Int32, x3 + Int32.ofInt 1 = z := ⟨_, rfl⟩
              have hv23 : v23.toInt = x3.toInt + 1 := n_inc ev23 (by decide) (by omega) (by omega)
              refine r_iinc C (j := 2) (lv' := [(0, .ref (oad E 71)), (2, .int v22), (3, .int v23)]) v23 [1, 2, 0] (oDec_at oX12_isTold 90 rfl) rfl ev23 (by decide) rfl ?_
              refine r_pc C 137 rfl ?_
              refine r_goto C (tgt := 57) (oDec_at oX12_isTold 91 rfl) (by decide) ?_
              exact (ih (n - 1) (by omega)) (t) v22 v23  (by omega) (by omega) (by first | (have e2 := oSt_succ (s := t) (x := x3) (y := v23) (by omega) (by omega); omega) | (have e0 := oSm_at0 (f := fun j => (t).1 72 (2 + 2 * j)) (x := v23) (by omega); omega)) (by first | exact oTs_step (x := x3) (y := v23) iv3 (by omega) (by omega) (by omega) | exact oTs_0 (by omega)) (by omega) (by omega) (by first | exact iv6 | omega) (by first | (have e9 := oqS_nx (g := g) (x := x3) (y := v23) (by omega) (by omega); omega) | (have e9 := oqS_at0 (g := g) (x := v23) (by omega); omega)) (by first | exact oqFt_nx (x := x3) iv8 (by omega) (by omega) (by omega) (by omega) (by omega) | exact oqFt_at0 (by omega)) iv9 (by omega)
            · skip
              refine r_iconst C (oDec_at oX12_isTold 77 rfl) (v := k0) (by rw [qk0]; rfl) ?_
              exact r_zret C (n_bool (by omega)) (oDec_at oX12_isTold 78 rfl) ⟨_, rfl, ⟨by omega, by intro h; exfalso; omega, iff_of_false (by omega) (oqI_no (x := x3) (by omega) (by omega) (by omega))⟩⟩
          · skip
            refine r_aload_n C (j := 0) (oDec_at oX12_isTold 54 rfl) rfl rfl ?_
            refine r_getF (k := 0) (b := 72) C oCl12 rfl (by decide) flX12_7 rfl rfl rfl (oDec_at oX12_isTold 55 rfl) ?_
            refine r_iconst C (oDec_at oX12_isTold 56 rfl) (v := k1) (by rw [qk1]; rfl) ?_
            refine r_iconst C (oDec_at oX12_isTold 57 rfl) (v := k2) (by rw [qk2]; rfl) ?_
            refine r_iload_n C (j := 2) (oDec_at oX12_isTold 58 rfl) rfl rfl ?_
            obtain ⟨v24, ev24⟩ : ∃ z : Int32, z = k2 * x3 := ⟨_, rfl⟩
            have hv24 : v24.toInt = 2 * x3.toInt := n_mulK' 2 ev24 ek2 (by omega) (by omega)
            refine r_imul C v24 (oDec_at oX12_isTold 59 rfl) ev24 ?_
            refine r_pc C 90 rfl ?_
            obtain ⟨v25, ev25⟩ : ∃ z : Int32, z = k1 + v24 := ⟨_, rfl⟩
            have hv25 : v25.toInt = k1.toInt + v24.toInt := n_add ev25 (by omega) (by omega)
            refine r_iadd C v25 (oDec_at oX12_isTold 60 rfl) ev25 ?_
            obtain ⟨v27, ev27⟩ : ∃ z : Int32, (t).1 72 v25.toNatClampNeg = z := ⟨_, rfl⟩
            have gv27 : (t.1 72 v25.toNatClampNeg).toInt = v27.toInt := congrArg Int32.toInt (ev27)
            refine r_iald (n := 1600) (lo := 0) (hi := 255) C v27 rfl (by decide) rfl rfl ⟨by omega, by omega⟩ (by decide) ev27 rfl rfl (oDec_at oX12_isTold 61 rfl) (fun b26 b26h => ?_)
            have hg92 := oqY_at iv9 ev27 (a := 1 + 2 * (x3.toNatClampNeg : Int)) (by omega) (by omega) (by omega)
            refine r_sipush C (oDec_at oX12_isTold 62 rfl) (v := k255) (by rw [qk255]; rfl) ?_
            refine r_icmp_ne C 119 (oDec_at oX12_isTold 63 rfl) (by decide) (fun cd28 => ?_) (fun cd28 => ?_)
            · skip
              refine r_iconst C (oDec_at oX12_isTold 77 rfl) (v := k0) (by rw [qk0]; rfl) ?_
              exact r_zret C (n_bool (by omega)) (oDec_at oX12_isTold 78 rfl) ⟨_, rfl, ⟨by omega, by intro h; exfalso; omega, iff_of_false (by omega) (oqI_no (x := x3) (by omega) (by omega) (by omega))⟩⟩
            · skip
              refine r_aload_n C (j := 0) (oDec_at oX12_isTold 64 rfl) rfl rfl ?_
              refine r_getF (k := 0) (b := 72) C oCl12 rfl (by decide) flX12_7 rfl rfl rfl (oDec_at oX12_isTold 65 rfl) ?_
              refine r_iconst C (oDec_at oX12_isTold 66 rfl) (v := k2) (by rw [qk2]; rfl) ?_
              refine r_iconst C (oDec_at oX12_isTold 67 rfl) (v := k2) (by rw [qk2]; rfl) ?_
              refine r_iload_n C (j := 2) (oDec_at oX12_isTold 68 rfl) rfl rfl ?_
              obtain ⟨v29, ev29⟩ : ∃ z : Int32, z = k2 * x3 := ⟨_, rfl⟩
              have hv29 : v29.toInt = 2 * x3.toInt := n_mulK' 2 ev29 ek2 (by omega) (by omega)
              refine r_imul C v29 (oDec_at oX12_isTold 69 rfl) ev29 ?_
              refine r_pc C 106 rfl ?_
              obtain ⟨v30, ev30⟩ : ∃ z : Int32, z = k2 + v29 := ⟨_, rfl⟩
              have hv30 : v30.toInt = k2.toInt + v29.toInt := n_add ev30 (by omega) (by omega)
              refine r_iadd C v30 (oDec_at oX12_isTold 70 rfl) ev30 ?_
              obtain ⟨v32, ev32⟩ : ∃ z : Int32, (t).1 72 v30.toNatClampNeg = z := ⟨_, rfl⟩
              have gv32 : (t.1 72 v30.toNatClampNeg).toInt = v32.toInt := congrArg Int32.toInt (ev32)
              refine r_iald (n := 1600) (lo := 0) (hi := 255) C v32 rfl (by decide) rfl rfl ⟨by omega, by omega⟩ (by decide) ev32 rfl rfl (oDec_at oX12_isTold 71 rfl) (fun b31 b31h => ?_)
              have hq1 := congrArg Int32.toInt (oIx72 (i := v30) (x := x3) ev32 (by omega) (by omega))
              have hg108 := oqY_at iv9 ev32 (a := 2 + 2 * (x3.toNatClampNeg : Int)) (by omega) (by omega) (by omega)
              obtain ⟨v33, ev33⟩ : ∃ z : Int64, v32.toInt64 = z := ⟨_, rfl⟩
              have hv33 : v33.toInt = v32.toInt := n_i2l ev33
              refine r_i2l C v33 (oDec_at oX12_isTold 72 rfl) ev33 ?_
              refine r_lconst C (oDec_at oX12_isTold 73 rfl) (v := j1) (by rw [qj1]; rfl) ?_
              refine r_ldc2 C (v := j16) (by rw [qj16]; exact klX12_595) (oDec_at oX12_isTold 74 rfl) ?_
              refine r_callSi C miX12_isIn mlX12_216 (ct_X12_isIn l E (t) v33 j1 j16 ) (by decide) rfl rfl rfl (Nat.le_of_ble_eq_true rfl) (oDec_at oX12_isTold 75 rfl) (fun r35 u34 pu34 fu34 => ?_)
              try dsimp only at pu34
              obtain ⟨pu34_0, pu34_1⟩ := pu34
              have hxu34 := oFr_nil fu34; subst hxu34
              have rr35 := n_rng r35
              refine r_pc C 116 rfl ?_
              refine r_if_ne C 121 (oDec_at oX12_isTold 76 rfl) (by decide) (fun cd36 => ?_) (fun cd36 => ?_)
              · skip
                refine r_iload_n C (j := 1) (oDec_at oX12_isTold 79 rfl) rfl rfl ?_
                refine r_aload_n C (j := 0) (oDec_at oX12_isTold 80 rfl) rfl rfl ?_
                refine r_getF (k := 0) (b := 72) C oCl12 rfl (by decide) flX12_7 rfl rfl rfl (oDec_at oX12_isTold 81 rfl) ?_
                refine r_iconst C (oDec_at oX12_isTold 82 rfl) (v := k2) (by rw [qk2]; rfl) ?_
                refine r_iconst C (oDec_at oX12_isTold 83 rfl) (v := k2) (by rw [qk2]; rfl) ?_
                refine r_iload_n C (j := 2) (oDec_at oX12_isTold 84 rfl) rfl rfl ?_
                refine r_pc C 129 rfl ?_
                obtain ⟨v37, ev37⟩ : ∃ z : Int32, z = k2 * x3 := ⟨_, rfl⟩
                have hv37 : v37.toInt = 2 * x3.toInt := n_mulK' 2 ev37 ek2 (by omega) (by omega)
                refine r_imul C v37 (oDec_at oX12_isTold 85 rfl) ev37 ?_
                obtain ⟨v38, ev38⟩ : ∃ z : Int32, z = k2 + v37 := ⟨_, rfl⟩
                have hv38 : v38.toInt = k2.toInt + v37.toInt := n_add ev38 (by omega) (by omega)
                refine r_iadd C v38 (oDec_at oX12_isTold 86 rfl) ev38 ?_
                obtain ⟨v40, ev40⟩ : ∃ z : Int32, (t).1 72 v38.toNatClampNeg = z := ⟨_, rfl⟩
                have gv40 : (t.1 72 v38.toNatClampNeg).toInt = v40.toInt := congrArg Int32.toInt (ev40)
                refine r_iald (n := 1600) (lo := 0) (hi := 255) C v40 rfl (by decide) rfl rfl ⟨by omega, by omega⟩ (by decide) ev40 rfl rfl (oDec_at oX12_isTold 87 rfl) (fun b39 b39h => ?_)
                have hq2 := congrArg Int32.toInt (oIx72 (i := v38) (x := x3) ev40 (by omega) (by omega))
                have hg132 := oqY_at iv9 ev40 (a := 2 + 2 * (x3.toNatClampNeg : Int)) (by omega) (by omega) (by omega)
                obtain ⟨v41, ev41⟩ : ∃ z : Int32, z = x2 + v40 := ⟨_, rfl⟩
                have hv41 : v41.toInt = x2.toInt + v40.toInt := n_add ev41 (by omega) (by omega)
                refine r_iadd C v41 (oDec_at oX12_isTold 88 rfl) ev41 ?_
                refine r_istore_n C (lv' := [(0, .ref (oad E 71)), (2, .int v41), (3, .int x3)]) [1, 0, 2] (oDec_at oX12_isTold 89 rfl) rfl (by decide) rfl ?_
                obtain ⟨v42, ev42⟩ : ∃ z : Int32, x3 + Int32.ofInt 1 = z := ⟨_, rfl⟩
                have hv42 : v42.toInt = x3.toInt + 1 := n_inc ev42 (by decide) (by omega) (by omega)
                refine r_iinc C (j := 2) (lv' := [(0, .ref (oad E 71)), (2, .int v41), (3, .int v42)]) v42 [1, 2, 0] (oDec_at oX12_isTold 90 rfl) rfl ev42 (by decide) rfl ?_
                refine r_pc C 137 rfl ?_
                refine r_goto C (tgt := 57) (oDec_at oX12_isTold 91 rfl) (by decide) ?_
                exact (ih (n - 1) (by omega)) (t) v41 v42  (by omega) (by omega) (by first | (have e2 := oSt_succ (s := t) (x := x3) (y := v42) (by omega) (by omega); omega) | (have e0 := oSm_at0 (f := fun j => (t).1 72 (2 + 2 * j)) (x := v42) (by omega); omega)) (by first | exact oTs_step (x := x3) (y := v42) iv3 (by omega) (by omega) (by omega) | exact oTs_0 (by omega)) (by omega) (by omega) (by first | exact iv6 | omega) (by first | (have e9 := oqS_nx (g := g) (x := x3) (y := v42) (by omega) (by omega); omega) | (have e9 := oqS_at0 (g := g) (x := v42) (by omega); omega)) (by first | exact oqFt_nx (x := x3) iv8 (by omega) (by omega) (by omega) (by omega) (by omega) | exact oqFt_at0 (by omega)) iv9 (by omega)
              · skip
                refine r_iconst C (oDec_at oX12_isTold 77 rfl) (v := k0) (by rw [qk0]; rfl) ?_
                exact r_zret C (n_bool (by omega)) (oDec_at oX12_isTold 78 rfl) ⟨_, rfl, ⟨by omega, by intro h; exfalso; omega, iff_of_false (by omega) (oqI_no (x := x3) (by omega) (by omega) (by omega))⟩⟩
  refine r_iload_n C (j := 1) (oDec_at oX12_isTold 0 rfl) rfl rfl ?_
  refine r_iconst C (oDec_at oX12_isTold 1 rfl) (v := k2) (by rw [qk2]; rfl) ?_
  refine r_icmp_lt C 51 (oDec_at oX12_isTold 2 rfl) (by decide) (fun cd43 => ?_) (fun cd43 => ?_)
  · skip
    refine r_iconst C (oDec_at oX12_isTold 32 rfl) (v := k0) (by rw [qk0]; rfl) ?_
    exact r_zret C (n_bool (by omega)) (oDec_at oX12_isTold 33 rfl) ⟨_, rfl, ⟨by omega, by intro h; exfalso; omega, iff_of_false (by omega) (fun h => by obtain ⟨q1, q2, -, -⟩ := h; omega)⟩⟩
  · skip
    refine r_aload_n C (j := 0) (oDec_at oX12_isTold 3 rfl) rfl rfl ?_
    refine r_getF (k := 0) (b := 72) C oCl12 rfl (by decide) flX12_7 rfl rfl rfl (oDec_at oX12_isTold 4 rfl) ?_
    refine r_iconst C (oDec_at oX12_isTold 5 rfl) (v := k0) (by rw [qk0]; rfl) ?_
    obtain ⟨v45, ev45⟩ : ∃ z : Int32, (s).1 72 k0.toNatClampNeg = z := ⟨_, rfl⟩
    have gv45 : (s.1 72 k0.toNatClampNeg).toInt = v45.toInt := congrArg Int32.toInt (ev45)
    refine r_iald (n := 1600) (lo := 0) (hi := 255) C v45 rfl (by decide) rfl rfl ⟨by omega, by omega⟩ (by decide) ev45 rfl rfl (oDec_at oX12_isTold 6 rfl) (fun b44 b44h => ?_)
    have h72 := oIx0 (i := k0) ev45 ek0
    have hg0 := oqY_at hp2 ev45 (a := 0) (by omega) (by omega) (by omega)
    refine r_bipush C (oDec_at oX12_isTold 7 rfl) (v := k24) (by rw [qk24]; rfl) ?_
    refine r_icmp_gt C 51 (oDec_at oX12_isTold 8 rfl) (by decide) (fun cd46 => ?_) (fun cd46 => ?_)
    · skip
      refine r_iconst C (oDec_at oX12_isTold 32 rfl) (v := k0) (by rw [qk0]; rfl) ?_
      exact r_zret C (n_bool (by omega)) (oDec_at oX12_isTold 33 rfl) ⟨_, rfl, ⟨by omega, by intro h; exfalso; omega, iff_of_false (by omega) (fun h => by obtain ⟨q1, q2, -, -⟩ := h; omega)⟩⟩
    · skip
      refine r_iload_n C (j := 1) (oDec_at oX12_isTold 9 rfl) rfl rfl ?_
      refine r_iconst C (oDec_at oX12_isTold 10 rfl) (v := k2) (by rw [qk2]; rfl) ?_
      refine r_aload_n C (j := 0) (oDec_at oX12_isTold 11 rfl) rfl rfl ?_
      refine r_getF (k := 0) (b := 72) C oCl12 rfl (by decide) flX12_7 rfl rfl rfl (oDec_at oX12_isTold 12 rfl) ?_
      refine r_iconst C (oDec_at oX12_isTold 13 rfl) (v := k0) (by rw [qk0]; rfl) ?_
      refine r_iald (n := 1600) (lo := 0) (hi := 255) C v45 rfl (by decide) rfl rfl ⟨by omega, by omega⟩ (by decide) (ev45) rfl rfl (oDec_at oX12_isTold 14 rfl) (fun b47 b47h => ?_)
      refine r_pc C 24 rfl ?_
      obtain ⟨v48, ev48⟩ : ∃ z : Int32, z = k2 * v45 := ⟨_, rfl⟩
      have hv48 : v48.toInt = 2 * v45.toInt := n_mulK' 2 ev48 ek2 (by omega) (by omega)
      refine r_imul C v48 (oDec_at oX12_isTold 15 rfl) ev48 ?_
      refine r_iconst C (oDec_at oX12_isTold 16 rfl) (v := k2) (by rw [qk2]; rfl) ?_
      obtain ⟨v49, ev49⟩ : ∃ z : Int32, z = v48 + k2 := ⟨_, rfl⟩
      have hv49 : v49.toInt = v48.toInt + k2.toInt := n_add ev49 (by omega) (by omega)
      refine r_iadd C v49 (oDec_at oX12_isTold 17 rfl) ev49 ?_
      refine r_icmp_ne C 51 (oDec_at oX12_isTold 18 rfl) (by decide) (fun cd50 => ?_) (fun cd50 => ?_)
      · skip
        refine r_iconst C (oDec_at oX12_isTold 32 rfl) (v := k0) (by rw [qk0]; rfl) ?_
        exact r_zret C (n_bool (by omega)) (oDec_at oX12_isTold 33 rfl) ⟨_, rfl, ⟨by omega, by intro h; exfalso; omega, iff_of_false (by omega) (fun h => by obtain ⟨q1, q2, -, -⟩ := h; omega)⟩⟩
      · skip
        refine r_aload_n C (j := 0) (oDec_at oX12_isTold 19 rfl) rfl rfl ?_
        refine r_getF (k := 0) (b := 72) C oCl12 rfl (by decide) flX12_7 rfl rfl rfl (oDec_at oX12_isTold 20 rfl) ?_
        refine r_iload_n C (j := 1) (oDec_at oX12_isTold 21 rfl) rfl rfl ?_
        refine r_iconst C (oDec_at oX12_isTold 22 rfl) (v := k1) (by rw [qk1]; rfl) ?_
        obtain ⟨v51, ev51⟩ : ∃ z : Int32, z = a1 - k1 := ⟨_, rfl⟩
        have hv51 : v51.toInt = a1.toInt - k1.toInt := n_sub ev51 (by omega) (by omega)
        refine r_isub C v51 (oDec_at oX12_isTold 23 rfl) ev51 ?_
        obtain ⟨v53, ev53⟩ : ∃ z : Int32, (s).1 72 v51.toNatClampNeg = z := ⟨_, rfl⟩
        have gv53 : (s.1 72 v51.toNatClampNeg).toInt = v53.toInt := congrArg Int32.toInt (ev53)
        refine r_iald (n := 1600) (lo := 0) (hi := 255) C v53 rfl (by decide) rfl rfl ⟨by omega, by omega⟩ (by decide) ev53 rfl rfl (oDec_at oX12_isTold 24 rfl) (fun b52 b52h => ?_)
        refine r_pc C 38 rfl ?_
        have hg38 := oqY_at hp2 ev53 (a := nn - 1) (by omega) (by omega) (by omega)
        refine r_aload_n C (j := 0) (oDec_at oX12_isTold 25 rfl) rfl rfl ?_
        refine r_getF (k := 0) (b := 72) C oCl12 rfl (by decide) flX12_7 rfl rfl rfl (oDec_at oX12_isTold 26 rfl) ?_
        refine r_iload_n C (j := 1) (oDec_at oX12_isTold 27 rfl) rfl rfl ?_
        refine r_iconst C (oDec_at oX12_isTold 28 rfl) (v := k1) (by rw [qk1]; rfl) ?_
        obtain ⟨v54, ev54⟩ : ∃ z : Int32, z = a1 - k1 := ⟨_, rfl⟩
        have hv54 : v54.toInt = a1.toInt - k1.toInt := n_sub ev54 (by omega) (by omega)
        refine r_isub C v54 (oDec_at oX12_isTold 29 rfl) ev54 ?_
        refine r_callSi C miX12_checked mlX12_591 (ct4_X12_checked l E (s) 72 48 1600 rfl (by decide) (by decide) rfl rfl v54 (g) (nn - 1) (by omega) (by omega) (by omega) (oqY_all hp2 (fun j => hT.1 72 j))) (by decide) rfl rfl rfl (Nat.le_of_ble_eq_true rfl) (oDec_at oX12_isTold 30 rfl) (fun r56 u55 pu55 fu55 => ?_)
        try dsimp only at pu55
        have hxu55 := oFr_nil fu55; subst hxu55
        have rr56 := n_rng r56
        refine r_pc C 48 rfl ?_
        refine r_icmp_eq C 53 (oDec_at oX12_isTold 31 rfl) (by decide) (fun cd57 => ?_) (fun cd57 => ?_)
        · skip
          refine r_iconst C (oDec_at oX12_isTold 34 rfl) (v := k0) (by rw [qk0]; rfl) ?_
          refine r_istore_n C (lv' := [(0, .ref (oad E 71)), (1, .int a1), (2, .int k0)]) [1, 2, 0] (oDec_at oX12_isTold 35 rfl) rfl (by decide) rfl ?_
          refine r_iconst C (oDec_at oX12_isTold 36 rfl) (v := k0) (by rw [qk0]; rfl) ?_
          refine r_istore_n C (lv' := [(0, .ref (oad E 71)), (1, .int a1), (2, .int k0), (3, .int k0)]) [1, 2, 3, 0] (oDec_at oX12_isTold 37 rfl) rfl (by decide) rfl ?_
          refine r_pick C [0, 2, 3] rfl ?_
          exact (key (25 - k0.toInt).toNat) (s) k0 k0  (by omega) (by omega) (by first | (have e0 := oSm_at0 (f := fun j => (s).1 72 (2 + 2 * j)) (x := k0) (by omega); omega)) (by first | exact oTs_0 (by omega)) (by omega) (by omega) (by first | omega) (by first | (have e9 := oqS_at0 (g := g) (x := k0) (by omega); omega)) (by first | exact oqFt_at0 (by omega)) hp2 (by omega)
        · skip
          refine r_iconst C (oDec_at oX12_isTold 32 rfl) (v := k0) (by rw [qk0]; rfl) ?_
          exact r_zret C (n_bool (by omega)) (oDec_at oX12_isTold 33 rfl) ⟨_, rfl, ⟨by omega, by intro h; exfalso; omega, iff_of_false (by omega) (fun h => by obtain ⟨q1, q2, -, -⟩ := h; omega)⟩⟩
set_option maxHeartbeats 4000000 in
set_option maxRecDepth 100000 in
theorem ct4_X12_on (l : Launch) (E : oE) (s : oS)  (g : Int → Int) (nn : Int) (hp0 : oLT s) (hp1 : 1 ≤ (s.1 71 38).toInt → 1 ≤ (s.1 71 42).toInt) (hp2 : (s.1 71 1).toInt = nn) (hp3 : oqY g nn s) : oMet l 3 yX12_on cX12_on 3 (some .boolean) [(12, 1), (12, 38), (12, 42), (12, 43), (12, 69), (75, 9999), (76, 9999), (77, 9999)] E s [.ref (oad E 71)] (oPi (fun r u => (0 ≤ r.toInt ∧ r.toInt ≤ 1) ∧ (oLT u) ∧ (1 ≤ (u.1 71 38).toInt → 1 ≤ (u.1 71 42).toInt) ∧ ((u.1 71 1).toInt = 0) ∧ (r.toInt = 1 ↔ oqI g nn))) := by
  refine oMet.of (lv := [(0, .ref (oad E 71))]) (by decide +kernel) (Nat.le_of_ble_eq_true rfl) rfl (fun J C hT => ?_)
  have C : oC l 3 cX12_on RX12 3 (some .boolean) [(12, 1), (12, 38), (12, 42), (12, 43), (12, 69), (75, 9999), (76, 9999), (77, 9999)] E s (oPi (fun r u => (0 ≤ r.toInt ∧ r.toInt ≤ 1) ∧ (oLT u) ∧ (1 ≤ (u.1 71 38).toInt → 1 ≤ (u.1 71 42).toInt) ∧ ((u.1 71 1).toInt = 0) ∧ (r.toInt = 1 ↔ oqI g nn))) J := C
  obtain ⟨km1, qkm1⟩ : ∃ z : Int32, z = (-1) := ⟨_, rfl⟩
  have ekm1 : km1.toInt = (-1) := by rw [qkm1]; rfl
  obtain ⟨k0, qk0⟩ : ∃ z : Int32, z = 0 := ⟨_, rfl⟩
  have ek0 : k0.toInt = 0 := by rw [qk0]; rfl
  obtain ⟨k1, qk1⟩ : ∃ z : Int32, z = 1 := ⟨_, rfl⟩
  have ek1 : k1.toInt = 1 := by rw [qk1]; rfl
  obtain ⟨k2, qk2⟩ : ∃ z : Int32, z = 2 := ⟨_, rfl⟩
  have ek2 : k2.toInt = 2 := by rw [qk2]; rfl
  obtain ⟨k255, qk255⟩ : ∃ z : Int32, z = 255 := ⟨_, rfl⟩
  have ek255 : k255.toInt = 255 := by rw [qk255]; rfl
  have key : ∀ n : Nat, (∀ (t : oS) (x2 : Int32), (oTT t) → (oN0 t) → (0 ≤ x2.toInt ∧ x2.toInt ≤ (t.1 71 38).toInt) → ((t.1 71 38).toInt ≤ 24) → (oTc x2 t) → ((t.1 71 1).toInt = 0) → (oqI g nn) → 25 - x2.toInt ≤ (n : Int) → J t 32 [(0, .ref (oad E 71)), (2, .int x2)] []) := by
    intro n
    induction n using Nat.strongRecOn with
    | _ n ih =>
      skip
      · intro t x2  iv0 iv1 iv2 iv3 iv4 iv5 iv6 hmu
        have rx2 := n_rng x2
        refine r_iload_n C (j := 1) (oDec_at oX12_on 20 rfl) rfl rfl ?_
        refine r_aload_n C (j := 0) (oDec_at oX12_on 21 rfl) rfl rfl ?_
        obtain ⟨v1, ev1⟩ : ∃ z : Int32, (t).1 71 38 = z := ⟨_, rfl⟩
        have gv1 : (t.1 71 38).toInt = v1.toInt := congrArg Int32.toInt (ev1)
        refine r_geti (k := 38) (lo := 0) (hi := 24) C v1 oCl12 rfl (by decide) flX12_261 rfl rfl (ev1) rfl rfl (oDec_at oX12_on 22 rfl) (fun b2 b2h => ?_)
        refine r_icmp_ge C 98 (oDec_at oX12_on 23 rfl) (by decide) (fun cd3 => ?_) (fun cd3 => ?_)
        · skip
          have hq4 : oLT (t) := oLT_ofT (x := x2) iv4 iv0 (by omega) iv1
          refine r_aload_n C (j := 0) (oDec_at oX12_on 62 rfl) rfl rfl ?_
          refine r_callVv C oCl12 rfl miX12_lies mlX12_264 (ct_X12_lies l E (t)  hq4) (by decide) rfl rfl rfl (Nat.le_of_ble_eq_true rfl) (oDec_at oX12_on 63 rfl) (fun u5 pu5 fu5 => ?_)
          try dsimp only at pu5
          obtain ⟨pu5_0, pu5_1⟩ := pu5
          have lu7 : ((u5).1 71 38).toInt = v1.toInt := congrArg Int32.toInt (((fu5 71 38 rfl).1).trans (ev1))
          refine r_iconst C (oDec_at oX12_on 64 rfl) (v := k1) (by rw [qk1]; rfl) ?_
          have lk8 : ((u5).1 71 38).toInt = v1.toInt := congrArg Int32.toInt (((fu5 71 38 rfl).1).trans (ev1))
          have lk9 : ((u5).1 71 1).toInt = (t.1 71 1).toInt := congrArg Int32.toInt ((fu5 71 1 rfl).1)
          exact r_zret C (n_bool (by omega)) (oDec_at oX12_on 65 rfl) ⟨_, rfl, ⟨by omega, pu5_0, by omega, by omega, iff_of_true (by omega) iv6⟩⟩
        · skip
          refine r_aload_n C (j := 0) (oDec_at oX12_on 24 rfl) rfl rfl ?_
          refine r_getF (k := 39) (b := 99) C oCl12 rfl (by decide) flX12_96 rfl rfl rfl (oDec_at oX12_on 25 rfl) ?_
          refine r_iload_n C (j := 1) (oDec_at oX12_on 26 rfl) rfl rfl ?_
          refine r_aload_n C (j := 0) (oDec_at oX12_on 27 rfl) rfl rfl ?_
          refine r_getF (k := 0) (b := 72) C oCl12 rfl (by decide) flX12_7 rfl rfl rfl (oDec_at oX12_on 28 rfl) ?_
          refine r_iconst C (oDec_at oX12_on 29 rfl) (v := k1) (by rw [qk1]; rfl) ?_
          refine r_pc C 50 rfl ?_
          refine r_iconst C (oDec_at oX12_on 30 rfl) (v := k2) (by rw [qk2]; rfl) ?_
          refine r_iload_n C (j := 1) (oDec_at oX12_on 31 rfl) rfl rfl ?_
          obtain ⟨v10, ev10⟩ : ∃ z : Int32, z = k2 * x2 := ⟨_, rfl⟩
          have hv10 : v10.toInt = 2 * x2.toInt := n_mulK' 2 ev10 ek2 (by omega) (by omega)
          refine r_imul C v10 (oDec_at oX12_on 32 rfl) ev10 ?_
          obtain ⟨v11, ev11⟩ : ∃ z : Int32, z = k1 + v10 := ⟨_, rfl⟩
          have hv11 : v11.toInt = k1.toInt + v10.toInt := n_add ev11 (by omega) (by omega)
          refine r_iadd C v11 (oDec_at oX12_on 33 rfl) ev11 ?_
          obtain ⟨v13, ev13⟩ : ∃ z : Int32, (t).1 72 v11.toNatClampNeg = z := ⟨_, rfl⟩
          have gv13 : (t.1 72 v11.toNatClampNeg).toInt = v13.toInt := congrArg Int32.toInt (ev13)
          refine r_iald (n := 1600) (lo := 0) (hi := 255) C v13 rfl (by decide) rfl rfl ⟨by omega, by omega⟩ (by decide) ev13 rfl rfl (oDec_at oX12_on 34 rfl) (fun b12 b12h => ?_)
          refine r_sipush C (oDec_at oX12_on 35 rfl) (v := k255) (by rw [qk255]; rfl) ?_
          refine r_pc C 58 rfl ?_
          refine r_icmp_ne C 65 (oDec_at oX12_on 36 rfl) (by decide) (fun cd14 => ?_) (fun cd14 => ?_)
          · skip
            refine r_aload_n C (j := 0) (oDec_at oX12_on 39 rfl) rfl rfl ?_
            refine r_getF (k := 0) (b := 72) C oCl12 rfl (by decide) flX12_7 rfl rfl rfl (oDec_at oX12_on 40 rfl) ?_
            refine r_iconst C (oDec_at oX12_on 41 rfl) (v := k1) (by rw [qk1]; rfl) ?_
            refine r_iconst C (oDec_at oX12_on 42 rfl) (v := k2) (by rw [qk2]; rfl) ?_
            refine r_iload_n C (j := 1) (oDec_at oX12_on 43 rfl) rfl rfl ?_
            obtain ⟨v15, ev15⟩ : ∃ z : Int32, z = k2 * x2 := ⟨_, rfl⟩
            have hv15 : v15.toInt = 2 * x2.toInt := n_mulK' 2 ev15 ek2 (by omega) (by omega)
            refine r_imul C v15 (oDec_at oX12_on 44 rfl) ev15 ?_
            refine r_pc C 73 rfl ?_
            obtain ⟨v16, ev16⟩ : ∃ z : Int32, z = k1 + v15 := ⟨_, rfl⟩
            have hv16 : v16.toInt = k1.toInt + v15.toInt := n_add ev16 (by omega) (by omega)
            refine r_iadd C v16 (oDec_at oX12_on 45 rfl) ev16 ?_
            obtain ⟨v18, ev18⟩ : ∃ z : Int32, (t).1 72 v16.toNatClampNeg = z := ⟨_, rfl⟩
            have gv18 : (t.1 72 v16.toNatClampNeg).toInt = v18.toInt := congrArg Int32.toInt (ev18)
            refine r_iald (n := 1600) (lo := 0) (hi := 255) C v18 rfl (by decide) rfl rfl ⟨by omega, by omega⟩ (by decide) ev18 rfl rfl (oDec_at oX12_on 46 rfl) (fun b17 b17h => ?_)
            refine r_iast (n := 48) (lo := (-2147483648)) (hi := 2147483647) C rfl (by decide) rfl rfl ⟨by omega, by omega⟩ (by decide) rfl rfl rfl rfl (n_rng _) (oDec_at oX12_on 47 rfl) ?_
            refine r_aload_n C (j := 0) (oDec_at oX12_on 48 rfl) rfl rfl ?_
            refine r_getF (k := 40) (b := 100) C oCl12 rfl (by decide) flX12_99 rfl rfl rfl (oDec_at oX12_on 49 rfl) ?_
            refine r_iload_n C (j := 1) (oDec_at oX12_on 50 rfl) rfl rfl ?_
            refine r_pc C 81 rfl ?_
            refine r_aload_n C (j := 0) (oDec_at oX12_on 51 rfl) rfl rfl ?_
            refine r_getF (k := 0) (b := 72) C oCl12 rfl (by decide) flX12_7 rfl rfl rfl (oDec_at oX12_on 52 rfl) ?_
            refine r_iconst C (oDec_at oX12_on 53 rfl) (v := k2) (by rw [qk2]; rfl) ?_
            refine r_iconst C (oDec_at oX12_on 54 rfl) (v := k2) (by rw [qk2]; rfl) ?_
            refine r_iload_n C (j := 1) (oDec_at oX12_on 55 rfl) rfl rfl ?_
            obtain ⟨v19, ev19⟩ : ∃ z : Int32, z = k2 * x2 := ⟨_, rfl⟩
            have hv19 : v19.toInt = 2 * x2.toInt := n_mulK' 2 ev19 ek2 (by omega) (by omega)
            refine r_imul C v19 (oDec_at oX12_on 56 rfl) ev19 ?_
            refine r_pc C 89 rfl ?_
            obtain ⟨v20, ev20⟩ : ∃ z : Int32, z = k2 + v19 := ⟨_, rfl⟩
            have hv20 : v20.toInt = k2.toInt + v19.toInt := n_add ev20 (by omega) (by omega)
            refine r_iadd C v20 (oDec_at oX12_on 57 rfl) ev20 ?_
            obtain ⟨v22, ev22⟩ : ∃ z : Int32, ((pI t 99 x2.toNatClampNeg v18)).1 72 v20.toNatClampNeg = z := ⟨_, rfl⟩
            have av22 : t.1 72 v20.toNatClampNeg = v22 := ((pI_ne (a := 72) (b := v20.toNatClampNeg) (c := 99) _ _ (Or.inl (by decide)))).symm.trans ev22
            have gv22 : (t.1 72 v20.toNatClampNeg).toInt = v22.toInt := congrArg Int32.toInt (((pI_ne (a := 72) (b := v20.toNatClampNeg) (c := 99) _ _ (Or.inl (by decide)))).symm.trans ev22)
            refine r_iald (n := 1600) (lo := 0) (hi := 255) C v22 rfl (by decide) rfl rfl ⟨by omega, by omega⟩ (by decide) ev22 rfl rfl (oDec_at oX12_on 58 rfl) (fun b21 b21h => ?_)
            have hq3 := oIx72 (i := v20) (x := x2) ev22 (by omega) (by omega)
            refine r_iast (n := 48) (lo := 0) (hi := 9999) C rfl (by decide) rfl rfl ⟨by omega, by omega⟩ (by decide) rfl rfl rfl rfl ⟨by omega, by omega⟩ (oDec_at oX12_on 59 rfl) ?_
            obtain ⟨v23, ev23⟩ : ∃ z : Int32, x2 + Int32.ofInt 1 = z := ⟨_, rfl⟩
            have hv23 : v23.toInt = x2.toInt + 1 := n_inc ev23 (by decide) (by omega) (by omega)
            refine r_iinc C (j := 1) (lv' := [(0, .ref (oad E 71)), (2, .int v23)]) v23 [1, 0] (oDec_at oX12_on 60 rfl) rfl ev23 (by decide) rfl ?_
            refine r_goto C (tgt := 32) (oDec_at oX12_on 61 rfl) (by decide) ?_
            have lk24 : (((pI (pI t 99 x2.toNatClampNeg v18) 100 x2.toNatClampNeg v22)).1 71 38).toInt = v1.toInt := congrArg Int32.toInt (((pI_ne (a := 71) (b := 38) (c := 100) _ _ (Or.inl (by decide)))).trans (((pI_ne (a := 71) (b := 38) (c := 99) _ _ (Or.inl (by decide)))).trans (ev1)))
            have lk25 : (((pI (pI t 99 x2.toNatClampNeg v18) 100 x2.toNatClampNeg v22)).1 71 38).toInt = v1.toInt := congrArg Int32.toInt (((pI_ne (a := 71) (b := 38) (c := 100) _ _ (Or.inl (by decide)))).trans (((pI_ne (a := 71) (b := 38) (c := 99) _ _ (Or.inl (by decide)))).trans (ev1)))
            have lk26 : (((pI (pI t 99 x2.toNatClampNeg v18) 100 x2.toNatClampNeg v22)).1 71 1).toInt = (t.1 71 1).toInt := congrArg Int32.toInt (((pI_ne (a := 71) (b := 1) (c := 100) _ _ (Or.inl (by decide)))).trans ((pI_ne (a := 71) (b := 1) (c := 99) _ _ (Or.inl (by decide)))))
            exact (ih (n - 1) (by omega)) ((pI (pI t 99 x2.toNatClampNeg v18) 100 x2.toNatClampNeg v22)) v23  (oTT_fr (oFr_oneI (q := 76) (m := 9999) rfl (by rfl)) rfl (oTT_fr (oFr_oneI (q := 75) (m := 9999) rfl (by rfl)) rfl iv0)) (oN0_fr (oFr_oneI (q := 76) (m := 9999) rfl (by rfl)) rfl (oN0_fr (oFr_oneI (q := 75) (m := 9999) rfl (by rfl)) rfl iv1)) (by omega) (by omega) (by first | exact oTc_step (x := x2) (y := v23) (w := v22) (oTc_fr (oFr_oneI (q := 75) (m := 9999) rfl (by rfl)) rfl iv4) (by omega) (by omega) (by assumption) | exact oTc_0 (by omega)) (by omega) (by first | exact iv6 | exact ((by assumption)).mp (by omega)) (by omega)
          · skip
            refine r_iconst C (oDec_at oX12_on 37 rfl) (v := km1) (by rw [qkm1]; rfl) ?_
            refine r_goto C (tgt := 75) (oDec_at oX12_on 38 rfl) (by decide) ?_
            refine r_iast (n := 48) (lo := (-2147483648)) (hi := 2147483647) C rfl (by decide) rfl rfl ⟨by omega, by omega⟩ (by decide) rfl rfl rfl rfl (n_rng _) (oDec_at oX12_on 47 rfl) ?_
            refine r_aload_n C (j := 0) (oDec_at oX12_on 48 rfl) rfl rfl ?_
            refine r_getF (k := 40) (b := 100) C oCl12 rfl (by decide) flX12_99 rfl rfl rfl (oDec_at oX12_on 49 rfl) ?_
            refine r_iload_n C (j := 1) (oDec_at oX12_on 50 rfl) rfl rfl ?_
            refine r_aload_n C (j := 0) (oDec_at oX12_on 51 rfl) rfl rfl ?_
            refine r_pc C 82 rfl ?_
            refine r_getF (k := 0) (b := 72) C oCl12 rfl (by decide) flX12_7 rfl rfl rfl (oDec_at oX12_on 52 rfl) ?_
            refine r_iconst C (oDec_at oX12_on 53 rfl) (v := k2) (by rw [qk2]; rfl) ?_
            refine r_iconst C (oDec_at oX12_on 54 rfl) (v := k2) (by rw [qk2]; rfl) ?_
            refine r_iload_n C (j := 1) (oDec_at oX12_on 55 rfl) rfl rfl ?_
            obtain ⟨v27, ev27⟩ : ∃ z : Int32, z = k2 * x2 := ⟨_, rfl⟩
            have hv27 : v27.toInt = 2 * x2.toInt := n_mulK' 2 ev27 ek2 (by omega) (by omega)
            refine r_imul C v27 (oDec_at oX12_on 56 rfl) ev27 ?_
            obtain ⟨v28, ev28⟩ : ∃ z : Int32, z = k2 + v27 := ⟨_, rfl⟩
            have hv28 : v28.toInt = k2.toInt + v27.toInt := n_add ev28 (by omega) (by omega)
            refine r_iadd C v28 (oDec_at oX12_on 57 rfl) ev28 ?_
            refine r_pc C 90 rfl ?_
            obtain ⟨v30, ev30⟩ : ∃ z : Int32, ((pI t 99 x2.toNatClampNeg km1)).1 72 v28.toNatClampNeg = z := ⟨_, rfl⟩
            have av30 : t.1 72 v28.toNatClampNeg = v30 := ((pI_ne (a := 72) (b := v28.toNatClampNeg) (c := 99) _ _ (Or.inl (by decide)))).symm.trans ev30
            have gv30 : (t.1 72 v28.toNatClampNeg).toInt = v30.toInt := congrArg Int32.toInt (((pI_ne (a := 72) (b := v28.toNatClampNeg) (c := 99) _ _ (Or.inl (by decide)))).symm.trans ev30)
            refine r_iald (n := 1600) (lo := 0) (hi := 255) C v30 rfl (by decide) rfl rfl ⟨by omega, by omega⟩ (by decide) ev30 rfl rfl (oDec_at oX12_on 58 rfl) (fun b29 b29h => ?_)
            have hq3 := oIx72 (i := v28) (x := x2) ev30 (by omega) (by omega)
            refine r_iast (n := 48) (lo := 0) (hi := 9999) C rfl (by decide) rfl rfl ⟨by omega, by omega⟩ (by decide) rfl rfl rfl rfl ⟨by omega, by omega⟩ (oDec_at oX12_on 59 rfl) ?_
            obtain ⟨v31, ev31⟩ : ∃ z : Int32, x2 + Int32.ofInt 1 = z := ⟨_, rfl⟩
            have hv31 : v31.toInt = x2.toInt + 1 := n_inc ev31 (by decide) (by omega) (by omega)
            refine r_iinc C (j := 1) (lv' := [(0, .ref (oad E 71)), (2, .int v31)]) v31 [1, 0] (oDec_at oX12_on 60 rfl) rfl ev31 (by decide) rfl ?_
            refine r_goto C (tgt := 32) (oDec_at oX12_on 61 rfl) (by decide) ?_
            have lk32 : (((pI (pI t 99 x2.toNatClampNeg km1) 100 x2.toNatClampNeg v30)).1 71 38).toInt = v1.toInt := congrArg Int32.toInt (((pI_ne (a := 71) (b := 38) (c := 100) _ _ (Or.inl (by decide)))).trans (((pI_ne (a := 71) (b := 38) (c := 99) _ _ (Or.inl (by decide)))).trans (ev1)))
            have lk33 : (((pI (pI t 99 x2.toNatClampNeg km1) 100 x2.toNatClampNeg v30)).1 71 38).toInt = v1.toInt := congrArg Int32.toInt (((pI_ne (a := 71) (b := 38) (c := 100) _ _ (Or.inl (by decide)))).trans (((pI_ne (a := 71) (b := 38) (c := 99) _ _ (Or.inl (by decide)))).trans (ev1)))
            have lk34 : (((pI (pI t 99 x2.toNatClampNeg km1) 100 x2.toNatClampNeg v30)).1 71 1).toInt = (t.1 71 1).toInt := congrArg Int32.toInt (((pI_ne (a := 71) (b := 1) (c := 100) _ _ (Or.inl (by decide)))).trans ((pI_ne (a := 71) (b := 1) (c := 99) _ _ (Or.inl (by decide)))))
            exact (ih (n - 1) (by omega)) ((pI (pI t 99 x2.toNatClampNeg km1) 100 x2.toNatClampNeg v30)) v31  (oTT_fr (oFr_oneI (q := 76) (m := 9999) rfl (by rfl)) rfl (oTT_fr (oFr_oneI (q := 75) (m := 9999) rfl (by rfl)) rfl iv0)) (oN0_fr (oFr_oneI (q := 76) (m := 9999) rfl (by rfl)) rfl (oN0_fr (oFr_oneI (q := 75) (m := 9999) rfl (by rfl)) rfl iv1)) (by omega) (by omega) (by first | exact oTc_step (x := x2) (y := v31) (w := v30) (oTc_fr (oFr_oneI (q := 75) (m := 9999) rfl (by rfl)) rfl iv4) (by omega) (by omega) (by assumption) | exact oTc_0 (by omega)) (by omega) (by first | exact iv6 | exact ((by assumption)).mp (by omega)) (by omega)
  refine r_aload_n C (j := 0) (oDec_at oX12_on 0 rfl) rfl rfl ?_
  obtain ⟨v35, ev35⟩ : ∃ z : Int32, (s).1 71 1 = z := ⟨_, rfl⟩
  have gv35 : (s.1 71 1).toInt = v35.toInt := congrArg Int32.toInt (ev35)
  refine r_geti (k := 1) (lo := 0) (hi := 1600) C v35 oCl12 rfl (by decide) flX12_170 rfl rfl (ev35) rfl rfl (oDec_at oX12_on 1 rfl) (fun b36 b36h => ?_)
  refine r_istore_n C (lv' := [(0, .ref (oad E 71)), (1, .int v35)]) [1, 0] (oDec_at oX12_on 2 rfl) rfl (by decide) rfl ?_
  refine r_aload_n C (j := 0) (oDec_at oX12_on 3 rfl) rfl rfl ?_
  refine r_iconst C (oDec_at oX12_on 4 rfl) (v := k0) (by rw [qk0]; rfl) ?_
  refine r_puti (k := 1) (lo := 0) (hi := 1600) C oCl12 rfl (by decide) flX12_170 rfl rfl rfl rfl rfl rfl rfl rfl ⟨by omega, by omega⟩ (oDec_at oX12_on 5 rfl) ?_
  refine r_pc C 10 rfl ?_
  refine r_aload_n C (j := 0) (oDec_at oX12_on 6 rfl) rfl rfl ?_
  refine r_iload_n C (j := 1) (oDec_at oX12_on 7 rfl) rfl rfl ?_
  refine r_callVi C oCl12 rfl miX12_isTold mlX12_597 (ct4_X12_isTold l E ((pI s 71 1 k0)) v35 (g) (nn) (by omega) (by omega) (oqY_fr (oFr_oneI (q := 12) (m := 1) rfl (by rfl)) rfl hp3)) (by decide) rfl rfl rfl (Nat.le_of_ble_eq_true rfl) (oDec_at oX12_on 8 rfl) (fun r38 u37 pu37 fu37 => ?_)
  try dsimp only at pu37
  obtain ⟨pu37_0, pu37_1, pu37_2⟩ := pu37
  have hxu37 := oFr_nil fu37; subst hxu37
  have rr38 := n_rng r38
  refine r_if_ne C 20 (oDec_at oX12_on 9 rfl) (by decide) (fun cd39 => ?_) (fun cd39 => ?_)
  · skip
    have hq40 : oTT ((pI s 71 1 k0)) := pu37_1 (by omega)
    refine r_aload_n C (j := 0) (oDec_at oX12_on 12 rfl) rfl rfl ?_
    refine r_aload_n C (j := 0) (oDec_at oX12_on 13 rfl) rfl rfl ?_
    refine r_getF (k := 0) (b := 72) C oCl12 rfl (by decide) flX12_7 rfl rfl rfl (oDec_at oX12_on 14 rfl) ?_
    refine r_iconst C (oDec_at oX12_on 15 rfl) (v := k0) (by rw [qk0]; rfl) ?_
    obtain ⟨v42, ev42⟩ : ∃ z : Int32, ((pI s 71 1 k0)).1 72 k0.toNatClampNeg = z := ⟨_, rfl⟩
    have av42 : s.1 72 k0.toNatClampNeg = v42 := ((pI_ne (a := 72) (b := k0.toNatClampNeg) (c := 71) _ _ (Or.inl (by decide)))).symm.trans ev42
    have gv42 : (s.1 72 k0.toNatClampNeg).toInt = v42.toInt := congrArg Int32.toInt (((pI_ne (a := 72) (b := k0.toNatClampNeg) (c := 71) _ _ (Or.inl (by decide)))).symm.trans ev42)
    refine r_iald (n := 1600) (lo := 0) (hi := 255) C v42 rfl (by decide) rfl rfl ⟨by omega, by omega⟩ (by decide) ev42 rfl rfl (oDec_at oX12_on 16 rfl) (fun b41 b41h => ?_)
    have h72 := oIx0 (i := k0) ev42 ek0
    have h24 := (hq40).1
    refine r_puti (k := 38) (lo := 0) (hi := 24) C oCl12 rfl (by decide) flX12_261 rfl rfl rfl rfl rfl rfl rfl rfl ⟨by omega, by omega⟩ (oDec_at oX12_on 17 rfl) ?_
    refine r_pc C 30 rfl ?_
    have hq43 : oN0 ((pI (pI s 71 1 k0) 71 38 v42)) := oN0_put (by omega)
    refine r_iconst C (oDec_at oX12_on 18 rfl) (v := k0) (by rw [qk0]; rfl) ?_
    refine r_istore_n C (lv' := [(0, .ref (oad E 71)), (1, .int v35), (2, .int k0)]) [1, 2, 0] (oDec_at oX12_on 19 rfl) rfl (by decide) rfl ?_
    have lk44 : (((pI (pI s 71 1 k0) 71 38 v42)).1 71 38).toInt = v42.toInt := congrArg Int32.toInt ((pI_self _ _ _ _))
    have lk45 : (((pI (pI s 71 1 k0) 71 38 v42)).1 71 38).toInt = v42.toInt := congrArg Int32.toInt ((pI_self _ _ _ _))
    have lk46 : (((pI (pI s 71 1 k0) 71 38 v42)).1 71 1).toInt = k0.toInt := congrArg Int32.toInt (((pI_ne (a := 71) (b := 1) (c := 71) (k := 38) _ _ (Or.inr (by decide)))).trans ((pI_self _ _ _ _)))
    refine r_pick C [0, 2] rfl ?_
    exact (key (25 - k0.toInt).toNat) ((pI (pI s 71 1 k0) 71 38 v42)) k0  (oTT_fr (oFr_oneI (q := 12) (m := 38) rfl (by rfl)) rfl hq40) hq43 (by omega) (by omega) (by first | exact oTc_0 (by omega)) (by omega) (by first | exact (pu37_2).mp (by omega)) (by omega)
  · skip
    refine r_iconst C (oDec_at oX12_on 10 rfl) (v := k0) (by rw [qk0]; rfl) ?_
    have lk47 : (((pI s 71 1 k0)).1 71 38).toInt = (s.1 71 38).toInt := congrArg Int32.toInt ((pI_ne (a := 71) (b := 38) (c := 71) (k := 1) _ _ (Or.inr (by decide))))
    have lk48 : (((pI s 71 1 k0)).1 71 42).toInt = (s.1 71 42).toInt := congrArg Int32.toInt ((pI_ne (a := 71) (b := 42) (c := 71) (k := 1) _ _ (Or.inr (by decide))))
    have lk49 : (((pI s 71 1 k0)).1 71 1).toInt = k0.toInt := congrArg Int32.toInt ((pI_self _ _ _ _))
    exact r_zret C (n_bool (by omega)) (oDec_at oX12_on 11 rfl) ⟨_, rfl, ⟨by omega, (oLT_fr (oFr_oneI (q := 12) (m := 1) rfl (by rfl)) rfl hp0), by omega, by omega, iff_of_false (by omega) (fun h => by have h9 := (pu37_2).mpr h; omega)⟩⟩
