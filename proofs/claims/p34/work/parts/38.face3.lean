set_option maxHeartbeats 4000000 in
set_option maxRecDepth 100000 in
theorem ct_X11_image (l : Launch) (E : oE) (s : oS)   : oMet l 3 yX11_image cX11_image 3 (some .int) [(11, 14), (13, 9999)] E s [.ref (oad E 0)] (oPi (fun r u => True)) := by
  refine oMet.of (lv := [(0, .ref (oad E 0))]) (by decide +kernel) (Nat.le_of_ble_eq_true rfl) rfl (fun J C hT => ?_)
  have C : oC l 3 cX11_image RX11 3 (some .int) [(11, 14), (13, 9999)] E s (oPi (fun r u => True)) J := C
  obtain ⟨km1, qkm1⟩ : ∃ z : Int32, z = (-1) := ⟨_, rfl⟩
  have ekm1 : km1.toInt = (-1) := by rw [qkm1]; rfl
  obtain ⟨k0, qk0⟩ : ∃ z : Int32, z = 0 := ⟨_, rfl⟩
  have ek0 : k0.toInt = 0 := by rw [qk0]; rfl
  obtain ⟨k1, qk1⟩ : ∃ z : Int32, z = 1 := ⟨_, rfl⟩
  have ek1 : k1.toInt = 1 := by rw [qk1]; rfl
  obtain ⟨k2, qk2⟩ : ∃ z : Int32, z = 2 := ⟨_, rfl⟩
  have ek2 : k2.toInt = 2 := by rw [qk2]; rfl
  obtain ⟨k23, qk23⟩ : ∃ z : Int32, z = 23 := ⟨_, rfl⟩
  have ek23 : k23.toInt = 23 := by rw [qk23]; rfl
  obtain ⟨k255, qk255⟩ : ∃ z : Int32, z = 255 := ⟨_, rfl⟩
  have ek255 : k255.toInt = 255 := by rw [qk255]; rfl
  have key : ∀ n : Nat, (∀ (t : oS) (x1 : Int32), (0 ≤ x1.toInt ∧ x1.toInt ≤ 24) → (1 ≤ (t.1 0 14).toInt ∧ (t.1 0 14).toInt ≤ 49) → 1000 - x1.toInt ≤ (n : Int) → J t 20 [(0, .ref (oad E 0)), (1, .int x1)] []) ∧ (∀ (t : oS) (x1 : Int32) (x2 : Int32), (0 ≤ x2.toInt ∧ x2.toInt ≤ 50) → (1 ≤ (t.1 0 14).toInt ∧ (t.1 0 14).toInt ≤ 49) → 51 - x2.toInt ≤ (n : Int) → J t 115 [(0, .ref (oad E 0)), (1, .int x1), (2, .int x2)] []) := by
    intro n
    induction n using Nat.strongRecOn with
    | _ n ih =>
      refine ⟨?_, ?_⟩
      · intro t x1  iv0 iv1 hmu
        have rx1 := n_rng x1
        refine r_iload_n C (j := 1) (oDec_at oX11_image 12 rfl) rfl rfl ?_
        refine r_aload_n C (j := 0) (oDec_at oX11_image 13 rfl) rfl rfl ?_
        refine r_getS (k := 1) (q2 := 4) C oCl11 rfl (by decide) flX11_19 rfl rfl rfl ks0 (oDec_at oX11_image 14 rfl) (fun b1 rb1 mb1 hkb1 => ?_)
        obtain ⟨v2, ev2⟩ : ∃ z : Int32, (t).1 b1 4 = z := ⟨_, rfl⟩
        have gv2 : (t.1 b1 4).toInt = v2.toInt := congrArg Int32.toInt (ev2)
        refine r_getiN (k := 4) (lo := 0) (hi := 24) C v2 oCl4 hkb1 (by decide) flX11_140 rfl rfl (ev2) rfl rfl (oDec_at oX11_image 15 rfl) (fun b3 b3h => ?_)
        refine r_icmp_ge C 110 (oDec_at oX11_image 16 rfl) (by decide) (fun cd4 => ?_) (fun cd4 => ?_)
        · skip
          refine r_bipush C (oDec_at oX11_image 60 rfl) (v := k23) (by rw [qk23]; rfl) ?_
          refine r_istore_n C (lv' := [(0, .ref (oad E 0)), (1, .int k23)]) [1, 0] (oDec_at oX11_image 61 rfl) rfl (by decide) rfl ?_
          refine r_iconst C (oDec_at oX11_image 62 rfl) (v := k0) (by rw [qk0]; rfl) ?_
          refine r_istore_n C (lv' := [(0, .ref (oad E 0)), (1, .int k23), (2, .int k0)]) [1, 2, 0] (oDec_at oX11_image 63 rfl) rfl (by decide) rfl ?_
          exact (ih (n - 1) (by omega)).2 (t) k23 k0  (by omega) (by omega) (by omega)
        · skip
          refine r_aload_n C (j := 0) (oDec_at oX11_image 17 rfl) rfl rfl ?_
          obtain ⟨v5, ev5⟩ : ∃ z : Int32, (t).1 0 14 = z := ⟨_, rfl⟩
          have gv5 : (t.1 0 14).toInt = v5.toInt := congrArg Int32.toInt (ev5)
          refine r_geti (k := 14) (lo := 0) (hi := 50) C v5 oCl11 rfl (by decide) flX11_349 rfl rfl (ev5) rfl rfl (oDec_at oX11_image 18 rfl) (fun b6 b6h => ?_)
          refine r_iconst C (oDec_at oX11_image 19 rfl) (v := k2) (by rw [qk2]; rfl) ?_
          obtain ⟨v7, ev7⟩ : ∃ z : Int32, z = v5 + k2 := ⟨_, rfl⟩
          have hv7 : v7.toInt = v5.toInt + k2.toInt := n_add ev7 (by omega) (by omega)
          refine r_iadd C v7 (oDec_at oX11_image 20 rfl) ev7 ?_
          refine r_aload_n C (j := 0) (oDec_at oX11_image 21 rfl) rfl rfl ?_
          refine r_getF (k := 13) (b := 69) C oCl11 rfl (by decide) flX11_92 rfl rfl rfl (oDec_at oX11_image 22 rfl) ?_
          refine r_pc C 41 rfl ?_
          obtain ⟨v8, ev8⟩ : ∃ z : Int32, Int32.ofNat 50 = z := ⟨_, rfl⟩
          have hv8 : v8.toInt = 50 := by rw [← ev8]; rfl
          refine r_alen0 (n := 50) C v8 rfl (by decide) rfl rfl (by decide) ev8 (oDec_at oX11_image 23 rfl) ?_
          refine r_icmp_ge C 110 (oDec_at oX11_image 24 rfl) (by decide) (fun cd9 => ?_) (fun cd9 => ?_)
          · skip
            refine r_bipush C (oDec_at oX11_image 60 rfl) (v := k23) (by rw [qk23]; rfl) ?_
            refine r_istore_n C (lv' := [(0, .ref (oad E 0)), (1, .int k23)]) [1, 0] (oDec_at oX11_image 61 rfl) rfl (by decide) rfl ?_
            refine r_iconst C (oDec_at oX11_image 62 rfl) (v := k0) (by rw [qk0]; rfl) ?_
            refine r_istore_n C (lv' := [(0, .ref (oad E 0)), (1, .int k23), (2, .int k0)]) [1, 2, 0] (oDec_at oX11_image 63 rfl) rfl (by decide) rfl ?_
            have lk10 : ((t).1 0 14).toInt = v5.toInt := congrArg Int32.toInt (ev5)
            exact (ih (n - 1) (by omega)).2 (t) k23 k0  (by omega) (by omega) (by omega)
          · skip
            refine r_aload_n C (j := 0) (oDec_at oX11_image 25 rfl) rfl rfl ?_
            refine r_getK (k := 1) (b := b1) C oCl11 rfl (by decide) flX11_19 rfl rfl (rb1) (oDec_at oX11_image 26 rfl) ?_
            refine r_iload_n C (j := 1) (oDec_at oX11_image 27 rfl) rfl rfl ?_
            refine r_callVi C oCl4 hkb1 miX4_stepOf mlX11_175 (ct_X4_stepOf l E (t) b1 hkb1 x1 ) (by decide) rfl rfl rfl (Nat.le_of_ble_eq_true rfl) (oDec_at oX11_image 28 rfl) (fun r13 u12 pu12 fu12 => ?_)
            try dsimp only at pu12
            have rr13 := n_rng r13
            refine r_istore_n C (lv' := [(0, .ref (oad E 0)), (1, .int x1), (2, .int r13)]) [1, 2, 0] (oDec_at oX11_image 29 rfl) rfl (by decide) rfl ?_
            refine r_aload_n C (j := 0) (oDec_at oX11_image 30 rfl) rfl rfl ?_
            refine r_getF (k := 13) (b := 69) C oCl11 rfl (by decide) flX11_92 rfl rfl rfl (oDec_at oX11_image 31 rfl) ?_
            refine r_pc C 58 rfl ?_
            refine r_aload_n C (j := 0) (oDec_at oX11_image 32 rfl) rfl rfl ?_
            refine r_geti (k := 14) (lo := 0) (hi := 50) C v5 oCl11 rfl (by decide) flX11_349 rfl rfl (((fu12 0 14 rfl).1).trans (ev5)) rfl rfl (oDec_at oX11_image 33 rfl) (fun _ _ => ?_)
            refine r_iload_n C (j := 2) (oDec_at oX11_image 34 rfl) rfl rfl ?_
            refine r_iconst C (oDec_at oX11_image 35 rfl) (v := km1) (by rw [qkm1]; rfl) ?_
            refine r_icmp_ne C 73 (oDec_at oX11_image 36 rfl) (by decide) (fun cd14 => ?_) (fun cd14 => ?_)
            · skip
              refine r_iload_n C (j := 2) (oDec_at oX11_image 39 rfl) rfl rfl ?_
              refine r_iast (n := 50) (lo := (-2147483648)) (hi := 2147483647) C rfl (by decide) rfl rfl ⟨by omega, by omega⟩ (by decide) rfl rfl rfl rfl (n_rng _) (oDec_at oX11_image 40 rfl) ?_
              refine r_aload_n C (j := 0) (oDec_at oX11_image 41 rfl) rfl rfl ?_
              refine r_getF (k := 13) (b := 69) C oCl11 rfl (by decide) flX11_92 rfl rfl rfl (oDec_at oX11_image 42 rfl) ?_
              refine r_aload_n C (j := 0) (oDec_at oX11_image 43 rfl) rfl rfl ?_
              refine r_geti (k := 14) (lo := 0) (hi := 50) C v5 oCl11 rfl (by decide) flX11_349 rfl rfl (((pI_ne (a := 0) (b := 14) (c := 69) _ _ (Or.inl (by decide)))).trans (((fu12 0 14 rfl).1).trans (ev5))) rfl rfl (oDec_at oX11_image 44 rfl) (fun _ _ => ?_)
              refine r_pc C 83 rfl ?_
              refine r_iconst C (oDec_at oX11_image 45 rfl) (v := k1) (by rw [qk1]; rfl) ?_
              obtain ⟨v15, ev15⟩ : ∃ z : Int32, z = v5 + k1 := ⟨_, rfl⟩
              have hv15 : v15.toInt = v5.toInt + k1.toInt := n_add ev15 (by omega) (by omega)
              refine r_iadd C v15 (oDec_at oX11_image 46 rfl) ev15 ?_
              refine r_aload_n C (j := 0) (oDec_at oX11_image 47 rfl) rfl rfl ?_
              refine r_getK (k := 1) (b := b1) C oCl11 rfl (by decide) flX11_19 rfl rfl ((show ((pI u12 69 v5.toNatClampNeg r13)).2.2 0 1 = b1 + 1 from ((fu12 0 1 rfl).2.2).trans (rb1))) (oDec_at oX11_image 48 rfl) ?_
              refine r_iload_n C (j := 1) (oDec_at oX11_image 49 rfl) rfl rfl ?_
              refine r_callVi C oCl4 hkb1 miX4_lengthOf mlX11_179 (ct_X4_lengthOf l E ((pI u12 69 v5.toNatClampNeg r13)) b1 hkb1 x1 ) (by decide) rfl rfl rfl (Nat.le_of_ble_eq_true rfl) (oDec_at oX11_image 50 rfl) (fun r18 u17 pu17 fu17 => ?_)
              try dsimp only at pu17
              have rr18 := n_rng r18
              refine r_iast (n := 50) (lo := (-2147483648)) (hi := 2147483647) C rfl (by decide) rfl rfl ⟨by omega, by omega⟩ (by decide) rfl rfl rfl rfl (n_rng _) (oDec_at oX11_image 51 rfl) ?_
              refine r_pc C 94 rfl ?_
              refine r_aload_n C (j := 0) (oDec_at oX11_image 52 rfl) rfl rfl ?_
              refine r_dup C (oDec_at oX11_image 53 rfl) rfl ?_
              refine r_geti (k := 14) (lo := 0) (hi := 50) C v5 oCl11 rfl (by decide) flX11_349 rfl rfl (((pI_ne (a := 0) (b := 14) (c := 69) _ _ (Or.inl (by decide)))).trans (((fu17 0 14 rfl).1).trans (((pI_ne (a := 0) (b := 14) (c := 69) _ _ (Or.inl (by decide)))).trans (((fu12 0 14 rfl).1).trans (ev5))))) rfl rfl (oDec_at oX11_image 54 rfl) (fun _ _ => ?_)
              refine r_iconst C (oDec_at oX11_image 55 rfl) (v := k2) (by rw [qk2]; rfl) ?_
              obtain ⟨v19, ev19⟩ : ∃ z : Int32, z = v5 + k2 := ⟨_, rfl⟩
              have hv19 : v19.toInt = v5.toInt + k2.toInt := n_add ev19 (by omega) (by omega)
              refine r_iadd C v19 (oDec_at oX11_image 56 rfl) ev19 ?_
              refine r_puti (k := 14) (lo := 0) (hi := 50) C oCl11 rfl (by decide) flX11_349 rfl rfl rfl rfl rfl rfl rfl rfl ⟨by omega, by omega⟩ (oDec_at oX11_image 57 rfl) ?_
              refine r_pc C 104 rfl ?_
              obtain ⟨v20, ev20⟩ : ∃ z : Int32, x1 + Int32.ofInt 1 = z := ⟨_, rfl⟩
              have hv20 : v20.toInt = x1.toInt + 1 := n_inc ev20 (by decide) (by omega) (by omega)
              refine r_iinc C (j := 1) (lv' := [(0, .ref (oad E 0)), (1, .int v20), (2, .int r13)]) v20 [1, 0, 2] (oDec_at oX11_image 58 rfl) rfl ev20 (by decide) rfl ?_
              refine r_goto C (tgt := 20) (oDec_at oX11_image 59 rfl) (by decide) ?_
              have lk21 : (((pI (pI u17 69 v15.toNatClampNeg r18) 0 14 v19)).1 0 14).toInt = v19.toInt := congrArg Int32.toInt ((pI_self _ _ _ _))
              refine r_pick C [0, 1] rfl ?_
              exact (ih (n - 1) (by omega)).1 ((pI (pI u17 69 v15.toNatClampNeg r18) 0 14 v19)) v20  (by omega) (by omega) (by omega)
            · skip
              refine r_sipush C (oDec_at oX11_image 37 rfl) (v := k255) (by rw [qk255]; rfl) ?_
              refine r_goto C (tgt := 74) (oDec_at oX11_image 38 rfl) (by decide) ?_
              refine r_iast (n := 50) (lo := (-2147483648)) (hi := 2147483647) C rfl (by decide) rfl rfl ⟨by omega, by omega⟩ (by decide) rfl rfl rfl rfl (n_rng _) (oDec_at oX11_image 40 rfl) ?_
              refine r_aload_n C (j := 0) (oDec_at oX11_image 41 rfl) rfl rfl ?_
              refine r_getF (k := 13) (b := 69) C oCl11 rfl (by decide) flX11_92 rfl rfl rfl (oDec_at oX11_image 42 rfl) ?_
              refine r_aload_n C (j := 0) (oDec_at oX11_image 43 rfl) rfl rfl ?_
              refine r_geti (k := 14) (lo := 0) (hi := 50) C v5 oCl11 rfl (by decide) flX11_349 rfl rfl (((pI_ne (a := 0) (b := 14) (c := 69) _ _ (Or.inl (by decide)))).trans (((fu12 0 14 rfl).1).trans (ev5))) rfl rfl (oDec_at oX11_image 44 rfl) (fun _ _ => ?_)
              refine r_pc C 83 rfl ?_
              refine r_iconst C (oDec_at oX11_image 45 rfl) (v := k1) (by rw [qk1]; rfl) ?_
              obtain ⟨v22, ev22⟩ : ∃ z : Int32, z = v5 + k1 := ⟨_, rfl⟩
              have hv22 : v22.toInt = v5.toInt + k1.toInt := n_add ev22 (by omega) (by omega)
              refine r_iadd C v22 (oDec_at oX11_image 46 rfl) ev22 ?_
              refine r_aload_n C (j := 0) (oDec_at oX11_image 47 rfl) rfl rfl ?_
              refine r_getK (k := 1) (b := b1) C oCl11 rfl (by decide) flX11_19 rfl rfl ((show ((pI u12 69 v5.toNatClampNeg k255)).2.2 0 1 = b1 + 1 from ((fu12 0 1 rfl).2.2).trans (rb1))) (oDec_at oX11_image 48 rfl) ?_
              refine r_iload_n C (j := 1) (oDec_at oX11_image 49 rfl) rfl rfl ?_
              refine r_callVi C oCl4 hkb1 miX4_lengthOf mlX11_179 (ct_X4_lengthOf l E ((pI u12 69 v5.toNatClampNeg k255)) b1 hkb1 x1 ) (by decide) rfl rfl rfl (Nat.le_of_ble_eq_true rfl) (oDec_at oX11_image 50 rfl) (fun r25 u24 pu24 fu24 => ?_)
              try dsimp only at pu24
              have rr25 := n_rng r25
              refine r_iast (n := 50) (lo := (-2147483648)) (hi := 2147483647) C rfl (by decide) rfl rfl ⟨by omega, by omega⟩ (by decide) rfl rfl rfl rfl (n_rng _) (oDec_at oX11_image 51 rfl) ?_
              refine r_pc C 94 rfl ?_
              refine r_aload_n C (j := 0) (oDec_at oX11_image 52 rfl) rfl rfl ?_
              refine r_dup C (oDec_at oX11_image 53 rfl) rfl ?_
              refine r_geti (k := 14) (lo := 0) (hi := 50) C v5 oCl11 rfl (by decide) flX11_349 rfl rfl (((pI_ne (a := 0) (b := 14) (c := 69) _ _ (Or.inl (by decide)))).trans (((fu24 0 14 rfl).1).trans (((pI_ne (a := 0) (b := 14) (c := 69) _ _ (Or.inl (by decide)))).trans (((fu12 0 14 rfl).1).trans (ev5))))) rfl rfl (oDec_at oX11_image 54 rfl) (fun _ _ => ?_)
              refine r_iconst C (oDec_at oX11_image 55 rfl) (v := k2) (by rw [qk2]; rfl) ?_
              obtain ⟨v26, ev26⟩ : ∃ z : Int32, z = v5 + k2 := ⟨_, rfl⟩
              have hv26 : v26.toInt = v5.toInt + k2.toInt := n_add ev26 (by omega) (by omega)
              refine r_iadd C v26 (oDec_at oX11_image 56 rfl) ev26 ?_
              refine r_puti (k := 14) (lo := 0) (hi := 50) C oCl11 rfl (by decide) flX11_349 rfl rfl rfl rfl rfl rfl rfl rfl ⟨by omega, by omega⟩ (oDec_at oX11_image 57 rfl) ?_
              refine r_pc C 104 rfl ?_
              obtain ⟨v27, ev27⟩ : ∃ z : Int32, x1 + Int32.ofInt 1 = z := ⟨_, rfl⟩
              have hv27 : v27.toInt = x1.toInt + 1 := n_inc ev27 (by decide) (by omega) (by omega)
              refine r_iinc C (j := 1) (lv' := [(0, .ref (oad E 0)), (1, .int v27), (2, .int r13)]) v27 [1, 0, 2] (oDec_at oX11_image 58 rfl) rfl ev27 (by decide) rfl ?_
              refine r_goto C (tgt := 20) (oDec_at oX11_image 59 rfl) (by decide) ?_
              have lk28 : (((pI (pI u24 69 v22.toNatClampNeg r25) 0 14 v26)).1 0 14).toInt = v26.toInt := congrArg Int32.toInt ((pI_self _ _ _ _))
              refine r_pick C [0, 1] rfl ?_
              exact (ih (n - 1) (by omega)).1 ((pI (pI u24 69 v22.toNatClampNeg r25) 0 14 v26)) v27  (by omega) (by omega) (by omega)
      · intro t x1 x2  iv0 iv1 hmu
        have rx1 := n_rng x1
        have rx2 := n_rng x2
        refine r_iload_n C (j := 2) (oDec_at oX11_image 64 rfl) rfl rfl ?_
        refine r_aload_n C (j := 0) (oDec_at oX11_image 65 rfl) rfl rfl ?_
        obtain ⟨v29, ev29⟩ : ∃ z : Int32, (t).1 0 14 = z := ⟨_, rfl⟩
        have gv29 : (t.1 0 14).toInt = v29.toInt := congrArg Int32.toInt (ev29)
        refine r_geti (k := 14) (lo := 0) (hi := 50) C v29 oCl11 rfl (by decide) flX11_349 rfl rfl (ev29) rfl rfl (oDec_at oX11_image 66 rfl) (fun b30 b30h => ?_)
        refine r_icmp_ge C 140 (oDec_at oX11_image 67 rfl) (by decide) (fun cd31 => ?_) (fun cd31 => ?_)
        · skip
          refine r_aload_n C (j := 0) (oDec_at oX11_image 77 rfl) rfl rfl ?_
          refine r_getF (k := 13) (b := 69) C oCl11 rfl (by decide) flX11_92 rfl rfl rfl (oDec_at oX11_image 78 rfl) ?_
          refine r_aload_n C (j := 0) (oDec_at oX11_image 79 rfl) rfl rfl ?_
          refine r_geti (k := 14) (lo := 0) (hi := 50) C v29 oCl11 rfl (by decide) flX11_349 rfl rfl (ev29) rfl rfl (oDec_at oX11_image 80 rfl) (fun _ _ => ?_)
          refine r_iload_n C (j := 1) (oDec_at oX11_image 81 rfl) rfl rfl ?_
          refine r_iast (n := 50) (lo := (-2147483648)) (hi := 2147483647) C rfl (by decide) rfl rfl ⟨by omega, by omega⟩ (by decide) rfl rfl rfl rfl (n_rng _) (oDec_at oX11_image 82 rfl) ?_
          refine r_pc C 150 rfl ?_
          refine r_aload_n C (j := 0) (oDec_at oX11_image 83 rfl) rfl rfl ?_
          refine r_dup C (oDec_at oX11_image 84 rfl) rfl ?_
          refine r_geti (k := 14) (lo := 0) (hi := 50) C v29 oCl11 rfl (by decide) flX11_349 rfl rfl (((pI_ne (a := 0) (b := 14) (c := 69) _ _ (Or.inl (by decide)))).trans (ev29)) rfl rfl (oDec_at oX11_image 85 rfl) (fun _ _ => ?_)
          refine r_iconst C (oDec_at oX11_image 86 rfl) (v := k1) (by rw [qk1]; rfl) ?_
          obtain ⟨v32, ev32⟩ : ∃ z : Int32, z = v29 + k1 := ⟨_, rfl⟩
          have hv32 : v32.toInt = v29.toInt + k1.toInt := n_add ev32 (by omega) (by omega)
          refine r_iadd C v32 (oDec_at oX11_image 87 rfl) ev32 ?_
          refine r_puti (k := 14) (lo := 0) (hi := 50) C oCl11 rfl (by decide) flX11_349 rfl rfl rfl rfl rfl rfl rfl rfl ⟨by omega, by omega⟩ (oDec_at oX11_image 88 rfl) ?_
          refine r_pc C 160 rfl ?_
          refine r_aload_n C (j := 0) (oDec_at oX11_image 89 rfl) rfl rfl ?_
          refine r_geti (k := 14) (lo := 0) (hi := 50) C v32 oCl11 rfl (by decide) flX11_349 rfl rfl ((pI_self _ _ _ _)) rfl rfl (oDec_at oX11_image 90 rfl) (fun _ _ => ?_)
          exact r_iret C (oDec_at oX11_image 91 rfl) ⟨_, rfl, trivial⟩
        · skip
          refine r_iload_n C (j := 1) (oDec_at oX11_image 68 rfl) rfl rfl ?_
          refine r_aload_n C (j := 0) (oDec_at oX11_image 69 rfl) rfl rfl ?_
          refine r_getF (k := 13) (b := 69) C oCl11 rfl (by decide) flX11_92 rfl rfl rfl (oDec_at oX11_image 70 rfl) ?_
          refine r_iload_n C (j := 2) (oDec_at oX11_image 71 rfl) rfl rfl ?_
          obtain ⟨v33, ev33⟩ : ∃ z : Int32, (t).1 69 x2.toNatClampNeg = z := ⟨_, rfl⟩
          have rv33 := n_rng v33
          refine r_iald (n := 50) (lo := (-2147483648)) (hi := 2147483647) C v33 rfl (by decide) rfl rfl ⟨by omega, by omega⟩ (by decide) ev33 rfl rfl (oDec_at oX11_image 72 rfl) (fun _ _ => ?_)
          refine r_callSi C miX11_nextCheck mlX11_352 (ct_X11_nextCheck l E (t) x1 v33 ) (by decide) rfl rfl rfl (Nat.le_of_ble_eq_true rfl) (oDec_at oX11_image 73 rfl) (fun r36 u35 pu35 fu35 => ?_)
          try dsimp only at pu35
          have rr36 := n_rng r36
          refine r_pc C 133 rfl ?_
          refine r_istore_n C (lv' := [(0, .ref (oad E 0)), (1, .int r36), (2, .int x2)]) [1, 0, 2] (oDec_at oX11_image 74 rfl) rfl (by decide) rfl ?_
          obtain ⟨v37, ev37⟩ : ∃ z : Int32, x2 + Int32.ofInt 1 = z := ⟨_, rfl⟩
          have hv37 : v37.toInt = x2.toInt + 1 := n_inc ev37 (by decide) (by omega) (by omega)
          refine r_iinc C (j := 2) (lv' := [(0, .ref (oad E 0)), (1, .int r36), (2, .int v37)]) v37 [1, 2, 0] (oDec_at oX11_image 75 rfl) rfl ev37 (by decide) rfl ?_
          refine r_goto C (tgt := 115) (oDec_at oX11_image 76 rfl) (by decide) ?_
          have lk38 : ((u35).1 0 14).toInt = v29.toInt := congrArg Int32.toInt (((fu35 0 14 rfl).1).trans (ev29))
          exact (ih (n - 1) (by omega)).2 (u35) r36 v37  (by omega) (by omega) (by omega)
  refine r_aload_n C (j := 0) (oDec_at oX11_image 0 rfl) rfl rfl ?_
  refine r_getF (k := 13) (b := 69) C oCl11 rfl (by decide) flX11_92 rfl rfl rfl (oDec_at oX11_image 1 rfl) ?_
  refine r_iconst C (oDec_at oX11_image 2 rfl) (v := k0) (by rw [qk0]; rfl) ?_
  refine r_aload_n C (j := 0) (oDec_at oX11_image 3 rfl) rfl rfl ?_
  refine r_getS (k := 1) (q2 := 4) C oCl11 rfl (by decide) flX11_19 rfl rfl rfl ks0 (oDec_at oX11_image 4 rfl) (fun b39 rb39 mb39 hkb39 => ?_)
  obtain ⟨v40, ev40⟩ : ∃ z : Int32, (s).1 b39 4 = z := ⟨_, rfl⟩
  have gv40 : (s.1 b39 4).toInt = v40.toInt := congrArg Int32.toInt (ev40)
  refine r_getiN (k := 4) (lo := 0) (hi := 24) C v40 oCl4 hkb39 (by decide) flX11_140 rfl rfl (ev40) rfl rfl (oDec_at oX11_image 5 rfl) (fun b41 b41h => ?_)
  refine r_pc C 12 rfl ?_
  refine r_iast (n := 50) (lo := (-2147483648)) (hi := 2147483647) C rfl (by decide) rfl rfl ⟨by omega, by omega⟩ (by decide) rfl rfl rfl rfl (n_rng _) (oDec_at oX11_image 6 rfl) ?_
  refine r_aload_n C (j := 0) (oDec_at oX11_image 7 rfl) rfl rfl ?_
  refine r_iconst C (oDec_at oX11_image 8 rfl) (v := k1) (by rw [qk1]; rfl) ?_
  refine r_puti (k := 14) (lo := 0) (hi := 50) C oCl11 rfl (by decide) flX11_349 rfl rfl rfl rfl rfl rfl rfl rfl ⟨by omega, by omega⟩ (oDec_at oX11_image 9 rfl) ?_
  refine r_iconst C (oDec_at oX11_image 10 rfl) (v := k0) (by rw [qk0]; rfl) ?_
  refine r_istore_n C (lv' := [(0, .ref (oad E 0)), (1, .int k0)]) [1, 0] (oDec_at oX11_image 11 rfl) rfl (by decide) rfl ?_
  have lk42 : (((pI (pI s 69 k0.toNatClampNeg v40) 0 14 k1)).1 0 14).toInt = k1.toInt := congrArg Int32.toInt ((pI_self _ _ _ _))
  exact (key (1000 - k0.toInt).toNat).1 ((pI (pI s 69 k0.toNatClampNeg v40) 0 14 k1)) k0  (by omega) (by omega) (by omega)
set_option maxHeartbeats 4000000 in
set_option maxRecDepth 100000 in
theorem ct_X11_octet (l : Launch) (E : oE) (s : oS) (a1 : Int32)  : oMet l 1 yX11_octet cX11_octet 2 (some .int) [] E s [.ref (oad E 0), .int a1] (oPi (fun r u => True)) := by
  refine oMet.of (lv := [(0, .ref (oad E 0)), (1, .int a1)]) (by decide +kernel) (Nat.le_of_ble_eq_true rfl) rfl (fun J C hT => ?_)
  have C : oC l 1 cX11_octet RX11 2 (some .int) [] E s (oPi (fun r u => True)) J := C
  obtain ⟨km1, qkm1⟩ : ∃ z : Int32, z = (-1) := ⟨_, rfl⟩
  have ekm1 : km1.toInt = (-1) := by rw [qkm1]; rfl
  have rg1 := n_rng a1
  refine r_iload_n C (j := 1) (oDec_at oX11_octet 0 rfl) rfl rfl ?_
  refine r_if_lt C 30 (oDec_at oX11_octet 1 rfl) (by decide) (fun cd1 => ?_) (fun cd1 => ?_)
  · skip
    refine r_iconst C (oDec_at oX11_octet 16 rfl) (v := km1) (by rw [qkm1]; rfl) ?_
    exact r_iret C (oDec_at oX11_octet 17 rfl) ⟨_, rfl, trivial⟩
  · skip
    refine r_iload_n C (j := 1) (oDec_at oX11_octet 2 rfl) rfl rfl ?_
    refine r_aload_n C (j := 0) (oDec_at oX11_octet 3 rfl) rfl rfl ?_
    obtain ⟨v2, ev2⟩ : ∃ z : Int32, (s).1 0 14 = z := ⟨_, rfl⟩
    have gv2 : (s.1 0 14).toInt = v2.toInt := congrArg Int32.toInt (ev2)
    refine r_geti (k := 14) (lo := 0) (hi := 50) C v2 oCl11 rfl (by decide) flX11_349 rfl rfl (ev2) rfl rfl (oDec_at oX11_octet 4 rfl) (fun b3 b3h => ?_)
    refine r_icmp_ge C 30 (oDec_at oX11_octet 5 rfl) (by decide) (fun cd4 => ?_) (fun cd4 => ?_)
    · skip
      refine r_iconst C (oDec_at oX11_octet 16 rfl) (v := km1) (by rw [qkm1]; rfl) ?_
      exact r_iret C (oDec_at oX11_octet 17 rfl) ⟨_, rfl, trivial⟩
    · skip
      refine r_iload_n C (j := 1) (oDec_at oX11_octet 6 rfl) rfl rfl ?_
      refine r_aload_n C (j := 0) (oDec_at oX11_octet 7 rfl) rfl rfl ?_
      refine r_getF (k := 13) (b := 69) C oCl11 rfl (by decide) flX11_92 rfl rfl rfl (oDec_at oX11_octet 8 rfl) ?_
      obtain ⟨v5, ev5⟩ : ∃ z : Int32, Int32.ofNat 50 = z := ⟨_, rfl⟩
      have hv5 : v5.toInt = 50 := by rw [← ev5]; rfl
      refine r_alen0 (n := 50) C v5 rfl (by decide) rfl rfl (by decide) ev5 (oDec_at oX11_octet 9 rfl) ?_
      refine r_icmp_ge C 30 (oDec_at oX11_octet 10 rfl) (by decide) (fun cd6 => ?_) (fun cd6 => ?_)
      · skip
        refine r_iconst C (oDec_at oX11_octet 16 rfl) (v := km1) (by rw [qkm1]; rfl) ?_
        exact r_iret C (oDec_at oX11_octet 17 rfl) ⟨_, rfl, trivial⟩
      · skip
        refine r_aload_n C (j := 0) (oDec_at oX11_octet 11 rfl) rfl rfl ?_
        refine r_getF (k := 13) (b := 69) C oCl11 rfl (by decide) flX11_92 rfl rfl rfl (oDec_at oX11_octet 12 rfl) ?_
        refine r_iload_n C (j := 1) (oDec_at oX11_octet 13 rfl) rfl rfl ?_
        obtain ⟨v7, ev7⟩ : ∃ z : Int32, (s).1 69 a1.toNatClampNeg = z := ⟨_, rfl⟩
        have rv7 := n_rng v7
        refine r_iald (n := 50) (lo := (-2147483648)) (hi := 2147483647) C v7 rfl (by decide) rfl rfl ⟨by omega, by omega⟩ (by decide) ev7 rfl rfl (oDec_at oX11_octet 14 rfl) (fun _ _ => ?_)
        refine r_goto C (tgt := 31) (oDec_at oX11_octet 15 rfl) (by decide) ?_
        exact r_iret C (oDec_at oX11_octet 17 rfl) ⟨_, rfl, trivial⟩
