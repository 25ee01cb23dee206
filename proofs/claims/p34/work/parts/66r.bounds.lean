set_option maxHeartbeats 4000000 in
set_option maxRecDepth 100000 in
theorem ct9_X11_bounds (l : Launch) (E : oE) (s : oS) (a1 : Int32) (a2 : Int32) (a3 : Int32) (D : Int) (S : Int) (K : Int) (hp0 : owBW D S K s) : oMet l 2 yX11_bounds cX11_bounds 6 (some .int) [(3, 0), (7, 0), (10, 0), (10, 1), (10, 2), (10, 3), (11, 17)] E s [.ref (oad E 0), .int a1, .int a2, .int a3] (oPi (fun r u => ((0 ≤ a1.toInt ∧ a1.toInt ≤ 24 ∧ 0 ≤ a2.toInt ∧ a2.toInt ≤ 7 ∧ 0 ≤ a3.toInt ∧ a3.toInt ≤ 15 ∧ r.toInt = oBF a1.toInt a2.toInt a3.toInt) ∨ ((a1.toInt < 0 ∨ 24 < a1.toInt ∨ a2.toInt < 0 ∨ 7 < a2.toInt ∨ a3.toInt < 0 ∨ 15 < a3.toInt) ∧ r.toInt = -1)) ∧ (owBW (owBb D a1.toInt a1.toInt a2.toInt a3.toInt) (owBb S a2.toInt a1.toInt a2.toInt a3.toInt) (owBb K a3.toInt a1.toInt a2.toInt a3.toInt) u))) := by
  refine oMet.of (lv := [(0, .ref (oad E 0)), (1, .int a1), (2, .int a2), (3, .int a3)]) (by decide +kernel) (Nat.le_of_ble_eq_true rfl) rfl (fun J C hT => ?_)
  have C : oC l 2 cX11_bounds RX11 6 (some .int) [(3, 0), (7, 0), (10, 0), (10, 1), (10, 2), (10, 3), (11, 17)] E s (oPi (fun r u => ((0 ≤ a1.toInt ∧ a1.toInt ≤ 24 ∧ 0 ≤ a2.toInt ∧ a2.toInt ≤ 7 ∧ 0 ≤ a3.toInt ∧ a3.toInt ≤ 15 ∧ r.toInt = oBF a1.toInt a2.toInt a3.toInt) ∨ ((a1.toInt < 0 ∨ 24 < a1.toInt ∨ a2.toInt < 0 ∨ 7 < a2.toInt ∨ a3.toInt < 0 ∨ 15 < a3.toInt) ∧ r.toInt = -1)) ∧ (owBW (owBb D a1.toInt a1.toInt a2.toInt a3.toInt) (owBb S a2.toInt a1.toInt a2.toInt a3.toInt) (owBb K a3.toInt a1.toInt a2.toInt a3.toInt) u))) J := C
  obtain ⟨km1, qkm1⟩ : ∃ z : Int32, z = (-1) := ⟨_, rfl⟩
  have ekm1 : km1.toInt = (-1) := by rw [qkm1]; rfl
  obtain ⟨k0, qk0⟩ : ∃ z : Int32, z = 0 := ⟨_, rfl⟩
  have ek0 : k0.toInt = 0 := by rw [qk0]; rfl
  obtain ⟨k1, qk1⟩ : ∃ z : Int32, z = 1 := ⟨_, rfl⟩
  have ek1 : k1.toInt = 1 := by rw [qk1]; rfl
  obtain ⟨k2, qk2⟩ : ∃ z : Int32, z = 2 := ⟨_, rfl⟩
  have ek2 : k2.toInt = 2 := by rw [qk2]; rfl
  obtain ⟨k7, qk7⟩ : ∃ z : Int32, z = 7 := ⟨_, rfl⟩
  have ek7 : k7.toInt = 7 := by rw [qk7]; rfl
  obtain ⟨k12, qk12⟩ : ∃ z : Int32, z = 12 := ⟨_, rfl⟩
  have ek12 : k12.toInt = 12 := by rw [qk12]; rfl
  obtain ⟨k15, qk15⟩ : ∃ z : Int32, z = 15 := ⟨_, rfl⟩
  have ek15 : k15.toInt = 15 := by rw [qk15]; rfl
  obtain ⟨k24, qk24⟩ : ∃ z : Int32, z = 24 := ⟨_, rfl⟩
  have ek24 : k24.toInt = 24 := by rw [qk24]; rfl
  have rg1 := n_rng a1
  have rg2 := n_rng a2
  have rg3 := n_rng a3
  have hbb9 : ∀ o n : Int, owBb o n a1.toInt a2.toInt a3.toInt = if (0 ≤ a1.toInt ∧ a1.toInt ≤ 24 ∧ 0 ≤ a2.toInt ∧ a2.toInt ≤ 7 ∧ 0 ≤ a3.toInt ∧ a3.toInt ≤ 15) then n else o := fun _ _ => rfl
  have key : ∀ n : Nat, (∀ (t : oS) (x4 : Int32) (x5 : Int32), (0 ≤ x5.toInt ∧ x5.toInt ≤ 12) → ((t.1 43 2).toInt = a3.toInt) → (x4.toInt = oC1 (fun s => oAl a3.toInt (s : Int)) x5.toNatClampNeg) → (0 ≤ x4.toInt ∧ x4.toInt ≤ x5.toInt) → (0 ≤ a1.toInt ∧ a1.toInt ≤ 24 ∧ 0 ≤ a2.toInt ∧ a2.toInt ≤ 7 ∧ 0 ≤ a3.toInt ∧ a3.toInt ≤ 15) → ((t.1 43 0).toInt = a1.toInt ∧ (t.1 43 1).toInt = a2.toInt ∧ (t.1 43 2).toInt = a3.toInt) → 13 - x5.toInt ≤ (n : Int) → J t 66 [(0, .ref (oad E 0)), (1, .int a1), (2, .int a2), (4, .int x4), (5, .int x5)] []) := by
    intro n
    induction n using Nat.strongRecOn with
    | _ n ih =>
      skip
      · intro t x4 x5  iv0 iv1 iv2 iv3 iv4 iv5 hmu
        have rx4 := n_rng x4
        have rx5 := n_rng x5
        refine r_iload C (j := 4) (oDec_at oX11_bounds 35 rfl) rfl ?_
        refine r_bipush C (oDec_at oX11_bounds 36 rfl) (v := k12) (by rw [qk12]; rfl) ?_
        refine r_icmp_ge C 101 (oDec_at oX11_bounds 37 rfl) (by decide) (fun cd1 => ?_) (fun cd1 => ?_)
        · skip
          have hA : x4.toInt = oC1 (fun s => oAl a3.toInt (s : Int)) 12 := by rw [iv2, show x5.toNatClampNeg = 12 by have := n_nat x5; omega]
          refine r_iload_n C (j := 1) (oDec_at oX11_bounds 51 rfl) rfl rfl ?_
          refine r_iconst C (oDec_at oX11_bounds 52 rfl) (v := k1) (by rw [qk1]; rfl) ?_
          obtain ⟨v2, ev2⟩ : ∃ z : Int32, z = a1 + k1 := ⟨_, rfl⟩
          have hv2 : v2.toInt = a1.toInt + k1.toInt := n_add ev2 (by omega) (by omega)
          refine r_iadd C v2 (oDec_at oX11_bounds 53 rfl) ev2 ?_
          refine r_iconst C (oDec_at oX11_bounds 54 rfl) (v := k2) (by rw [qk2]; rfl) ?_
          refine r_iload_n C (j := 2) (oDec_at oX11_bounds 55 rfl) rfl rfl ?_
          obtain ⟨v3, ev3⟩ : ∃ z : Int32, z = k2 * a2 := ⟨_, rfl⟩
          have hv3 : v3.toInt = 2 * a2.toInt := n_mulK' 2 ev3 ek2 (by omega) (by omega)
          refine r_imul C v3 (oDec_at oX11_bounds 56 rfl) ev3 ?_
          refine r_pc C 107 rfl ?_
          refine r_iconst C (oDec_at oX11_bounds 57 rfl) (v := k1) (by rw [qk1]; rfl) ?_
          obtain ⟨v4, ev4⟩ : ∃ z : Int32, z = v3 + k1 := ⟨_, rfl⟩
          have hv4 : v4.toInt = v3.toInt + k1.toInt := n_add ev4 (by omega) (by omega)
          refine r_iadd C v4 (oDec_at oX11_bounds 58 rfl) ev4 ?_
          obtain ⟨v5, ev5⟩ : ∃ z : Int32, z = v2 * v4 := ⟨_, rfl⟩
          have rv5 := n_rng v5
          have hP0 := n_mulB (a := 25) (b := 15) ev5 ⟨by omega, by omega⟩ ⟨by omega, by omega⟩ (by decide); have hP := hP0.1
          refine r_imul C v5 (oDec_at oX11_bounds 59 rfl) ev5 ?_
          refine r_iload C (j := 3) (oDec_at oX11_bounds 60 rfl) rfl ?_
          obtain ⟨v6, ev6⟩ : ∃ z : Int32, z = v5 * x4 := ⟨_, rfl⟩
          have rv6 := n_rng v6
          have hQ0 := n_mulB (a := 375) (b := 12) ev6 ⟨by omega, by omega⟩ ⟨by omega, by omega⟩ (by decide); have hQ := hQ0.1
          refine r_imul C v6 (oDec_at oX11_bounds 61 rfl) ev6 ?_
          refine r_iconst C (oDec_at oX11_bounds 62 rfl) (v := k1) (by rw [qk1]; rfl) ?_
          refine r_pc C 114 rfl ?_
          obtain ⟨v7, ev7⟩ : ∃ z : Int32, z = v6 - k1 := ⟨_, rfl⟩
          have hv7 : v7.toInt = v6.toInt - k1.toInt := n_sub ev7 (by omega) (by omega)
          refine r_isub C v7 (oDec_at oX11_bounds 63 rfl) ev7 ?_
          exact r_iret C (oDec_at oX11_bounds 64 rfl) ⟨_, rfl, ⟨Or.inl ⟨by omega, by omega, by omega, by omega, by omega, by omega, oBF_of (by omega) (by omega) hP hA hQ (by omega)⟩, by first | (have hc9 : ¬ (0 ≤ a1.toInt ∧ a1.toInt ≤ 24 ∧ 0 ≤ a2.toInt ∧ a2.toInt ≤ 7 ∧ 0 ≤ a3.toInt ∧ a3.toInt ≤ 15) := (by omega); simp only [hbb9, if_neg hc9]; exact (by assumption)) | (have hc9 : (0 ≤ a1.toInt ∧ a1.toInt ≤ 24 ∧ 0 ≤ a2.toInt ∧ a2.toInt ≤ 7 ∧ 0 ≤ a3.toInt ∧ a3.toInt ≤ 15) := (by omega); simp only [hbb9, if_pos hc9]; exact ⟨by omega, by omega, by omega⟩)⟩⟩
        · skip
          refine r_iload C (j := 3) (oDec_at oX11_bounds 38 rfl) rfl ?_
          refine r_aload_n C (j := 0) (oDec_at oX11_bounds 39 rfl) rfl rfl ?_
          refine r_getF (k := 10) (b := 43) C oCl11 rfl (by decide) flX11_74 rfl rfl rfl (oDec_at oX11_bounds 40 rfl) ?_
          refine r_iload C (j := 4) (oDec_at oX11_bounds 41 rfl) rfl ?_
          refine r_callVi C oCl10 rfl miX10_allows mlX11_185 (ct3_X10_allows l E (t) x5 (by omega)) (by decide) rfl rfl rfl (Nat.le_of_ble_eq_true rfl) (oDec_at oX11_bounds 42 rfl) (fun r9 u8 pu8 fu8 => ?_)
          try dsimp only at pu8
          obtain ⟨pu8_0, pu8_1⟩ := pu8
          have hxu8 := oFr_nil fu8; subst hxu8
          have rr9 := n_rng r9
          have hal := pu8_1 a3.toInt (by omega)
          refine r_if_eq C 91 (oDec_at oX11_bounds 43 rfl) (by decide) (fun cd10 => ?_) (fun cd10 => ?_)
          · skip
            refine r_iconst C (oDec_at oX11_bounds 46 rfl) (v := k0) (by rw [qk0]; rfl) ?_
            obtain ⟨v11, ev11⟩ : ∃ z : Int32, z = x4 + k0 := ⟨_, rfl⟩
            have hv11 : v11.toInt = x4.toInt + k0.toInt := n_add ev11 (by omega) (by omega)
            refine r_iadd C v11 (oDec_at oX11_bounds 47 rfl) ev11 ?_
            refine r_istore C (lv' := [(0, .ref (oad E 0)), (1, .int a1), (2, .int a2), (4, .int v11), (5, .int x5)]) [1, 2, 3, 0, 4] (oDec_at oX11_bounds 48 rfl) (by decide) rfl ?_
            obtain ⟨v12, ev12⟩ : ∃ z : Int32, x5 + Int32.ofInt 1 = z := ⟨_, rfl⟩
            have hv12 : v12.toInt = x5.toInt + 1 := n_inc ev12 (by decide) (by omega) (by omega)
            refine r_iinc C (j := 4) (lv' := [(0, .ref (oad E 0)), (1, .int a1), (2, .int a2), (4, .int v11), (5, .int v12)]) v12 [1, 2, 3, 4, 0] (oDec_at oX11_bounds 49 rfl) rfl ev12 (by decide) rfl ?_
            refine r_goto C (tgt := 66) (oDec_at oX11_bounds 50 rfl) (by decide) ?_
            exact (ih (n - 1) (by omega)) (t) v11 v12  (by omega) (by omega) (by first | (have e2 := oC1_nx (f := fun s => oAl a3.toInt (s : Int)) (x := x5) (y := v12) (by omega) (by omega); have e3 : oAl a3.toInt ((x5.toNatClampNeg : Nat) : Int) = oAl a3.toInt x5.toInt := (by rw [show ((x5.toNatClampNeg : Nat) : Int) = x5.toInt from by have := n_nat x5; omega]); rw [e2]; show _ = _ + oAl a3.toInt ((x5.toNatClampNeg : Nat) : Int); rw [e3]; omega) | (have e0 := oC1_x0 (f := fun s => oAl a3.toInt (s : Int)) (x := v12) (by omega); rw [e0]; omega)) (by omega) (by omega) (by omega) (by omega)
          · skip
            refine r_iconst C (oDec_at oX11_bounds 44 rfl) (v := k1) (by rw [qk1]; rfl) ?_
            refine r_goto C (tgt := 92) (oDec_at oX11_bounds 45 rfl) (by decide) ?_
            obtain ⟨v13, ev13⟩ : ∃ z : Int32, z = x4 + k1 := ⟨_, rfl⟩
            have hv13 : v13.toInt = x4.toInt + k1.toInt := n_add ev13 (by omega) (by omega)
            refine r_iadd C v13 (oDec_at oX11_bounds 47 rfl) ev13 ?_
            refine r_istore C (lv' := [(0, .ref (oad E 0)), (1, .int a1), (2, .int a2), (4, .int v13), (5, .int x5)]) [1, 2, 3, 0, 4] (oDec_at oX11_bounds 48 rfl) (by decide) rfl ?_
            obtain ⟨v14, ev14⟩ : ∃ z : Int32, x5 + Int32.ofInt 1 = z := ⟨_, rfl⟩
            have hv14 : v14.toInt = x5.toInt + 1 := n_inc ev14 (by decide) (by omega) (by omega)
            refine r_iinc C (j := 4) (lv' := [(0, .ref (oad E 0)), (1, .int a1), (2, .int a2), (4, .int v13), (5, .int v14)]) v14 [1, 2, 3, 4, 0] (oDec_at oX11_bounds 49 rfl) rfl ev14 (by decide) rfl ?_
            refine r_goto C (tgt := 66) (oDec_at oX11_bounds 50 rfl) (by decide) ?_
            exact (ih (n - 1) (by omega)) (t) v13 v14  (by omega) (by omega) (by first | (have e2 := oC1_nx (f := fun s => oAl a3.toInt (s : Int)) (x := x5) (y := v14) (by omega) (by omega); have e3 : oAl a3.toInt ((x5.toNatClampNeg : Nat) : Int) = oAl a3.toInt x5.toInt := (by rw [show ((x5.toNatClampNeg : Nat) : Int) = x5.toInt from by have := n_nat x5; omega]); rw [e2]; show _ = _ + oAl a3.toInt ((x5.toNatClampNeg : Nat) : Int); rw [e3]; omega) | (have e0 := oC1_x0 (f := fun s => oAl a3.toInt (s : Int)) (x := v14) (by omega); rw [e0]; omega)) (by omega) (by omega) (by omega) (by omega)
  refine r_iload_n C (j := 1) (oDec_at oX11_bounds 0 rfl) rfl rfl ?_
  refine r_if_lt C 30 (oDec_at oX11_bounds 1 rfl) (by decide) (fun cd15 => ?_) (fun cd15 => ?_)
  · skip
    refine r_iconst C (oDec_at oX11_bounds 15 rfl) (v := km1) (by rw [qkm1]; rfl) ?_
    exact r_iret C (oDec_at oX11_bounds 16 rfl) ⟨_, rfl, ⟨by omega, by first | (have hc9 : ¬ (0 ≤ a1.toInt ∧ a1.toInt ≤ 24 ∧ 0 ≤ a2.toInt ∧ a2.toInt ≤ 7 ∧ 0 ≤ a3.toInt ∧ a3.toInt ≤ 15) := (by omega); simp only [hbb9, if_neg hc9]; exact hp0) | (have hc9 : (0 ≤ a1.toInt ∧ a1.toInt ≤ 24 ∧ 0 ≤ a2.toInt ∧ a2.toInt ≤ 7 ∧ 0 ≤ a3.toInt ∧ a3.toInt ≤ 15) := (by omega); simp only [hbb9, if_pos hc9]; exact ⟨by omega, by omega, by omega⟩)⟩⟩
  · skip
    refine r_iload_n C (j := 1) (oDec_at oX11_bounds 2 rfl) rfl rfl ?_
    refine r_bipush C (oDec_at oX11_bounds 3 rfl) (v := k24) (by rw [qk24]; rfl) ?_
    refine r_icmp_gt C 30 (oDec_at oX11_bounds 4 rfl) (by decide) (fun cd16 => ?_) (fun cd16 => ?_)
    · skip
      refine r_iconst C (oDec_at oX11_bounds 15 rfl) (v := km1) (by rw [qkm1]; rfl) ?_
      exact r_iret C (oDec_at oX11_bounds 16 rfl) ⟨_, rfl, ⟨by omega, by first | (have hc9 : ¬ (0 ≤ a1.toInt ∧ a1.toInt ≤ 24 ∧ 0 ≤ a2.toInt ∧ a2.toInt ≤ 7 ∧ 0 ≤ a3.toInt ∧ a3.toInt ≤ 15) := (by omega); simp only [hbb9, if_neg hc9]; exact hp0) | (have hc9 : (0 ≤ a1.toInt ∧ a1.toInt ≤ 24 ∧ 0 ≤ a2.toInt ∧ a2.toInt ≤ 7 ∧ 0 ≤ a3.toInt ∧ a3.toInt ≤ 15) := (by omega); simp only [hbb9, if_pos hc9]; exact ⟨by omega, by omega, by omega⟩)⟩⟩
    · skip
      refine r_iload_n C (j := 2) (oDec_at oX11_bounds 5 rfl) rfl rfl ?_
      refine r_if_lt C 30 (oDec_at oX11_bounds 6 rfl) (by decide) (fun cd17 => ?_) (fun cd17 => ?_)
      · skip
        refine r_iconst C (oDec_at oX11_bounds 15 rfl) (v := km1) (by rw [qkm1]; rfl) ?_
        exact r_iret C (oDec_at oX11_bounds 16 rfl) ⟨_, rfl, ⟨by omega, by first | (have hc9 : ¬ (0 ≤ a1.toInt ∧ a1.toInt ≤ 24 ∧ 0 ≤ a2.toInt ∧ a2.toInt ≤ 7 ∧ 0 ≤ a3.toInt ∧ a3.toInt ≤ 15) := (by omega); simp only [hbb9, if_neg hc9]; exact hp0) | (have hc9 : (0 ≤ a1.toInt ∧ a1.toInt ≤ 24 ∧ 0 ≤ a2.toInt ∧ a2.toInt ≤ 7 ∧ 0 ≤ a3.toInt ∧ a3.toInt ≤ 15) := (by omega); simp only [hbb9, if_pos hc9]; exact ⟨by omega, by omega, by omega⟩)⟩⟩
      · skip
        refine r_iload_n C (j := 2) (oDec_at oX11_bounds 7 rfl) rfl rfl ?_
        refine r_bipush C (oDec_at oX11_bounds 8 rfl) (v := k7) (by rw [qk7]; rfl) ?_
        refine r_icmp_gt C 30 (oDec_at oX11_bounds 9 rfl) (by decide) (fun cd18 => ?_) (fun cd18 => ?_)
        · skip
          refine r_iconst C (oDec_at oX11_bounds 15 rfl) (v := km1) (by rw [qkm1]; rfl) ?_
          exact r_iret C (oDec_at oX11_bounds 16 rfl) ⟨_, rfl, ⟨by omega, by first | (have hc9 : ¬ (0 ≤ a1.toInt ∧ a1.toInt ≤ 24 ∧ 0 ≤ a2.toInt ∧ a2.toInt ≤ 7 ∧ 0 ≤ a3.toInt ∧ a3.toInt ≤ 15) := (by omega); simp only [hbb9, if_neg hc9]; exact hp0) | (have hc9 : (0 ≤ a1.toInt ∧ a1.toInt ≤ 24 ∧ 0 ≤ a2.toInt ∧ a2.toInt ≤ 7 ∧ 0 ≤ a3.toInt ∧ a3.toInt ≤ 15) := (by omega); simp only [hbb9, if_pos hc9]; exact ⟨by omega, by omega, by omega⟩)⟩⟩
        · skip
          refine r_iload_n C (j := 3) (oDec_at oX11_bounds 10 rfl) rfl rfl ?_
          refine r_if_lt C 30 (oDec_at oX11_bounds 11 rfl) (by decide) (fun cd19 => ?_) (fun cd19 => ?_)
          · skip
            refine r_iconst C (oDec_at oX11_bounds 15 rfl) (v := km1) (by rw [qkm1]; rfl) ?_
            exact r_iret C (oDec_at oX11_bounds 16 rfl) ⟨_, rfl, ⟨by omega, by first | (have hc9 : ¬ (0 ≤ a1.toInt ∧ a1.toInt ≤ 24 ∧ 0 ≤ a2.toInt ∧ a2.toInt ≤ 7 ∧ 0 ≤ a3.toInt ∧ a3.toInt ≤ 15) := (by omega); simp only [hbb9, if_neg hc9]; exact hp0) | (have hc9 : (0 ≤ a1.toInt ∧ a1.toInt ≤ 24 ∧ 0 ≤ a2.toInt ∧ a2.toInt ≤ 7 ∧ 0 ≤ a3.toInt ∧ a3.toInt ≤ 15) := (by omega); simp only [hbb9, if_pos hc9]; exact ⟨by omega, by omega, by omega⟩)⟩⟩
          · skip
            refine r_iload_n C (j := 3) (oDec_at oX11_bounds 12 rfl) rfl rfl ?_
            refine r_bipush C (oDec_at oX11_bounds 13 rfl) (v := k15) (by rw [qk15]; rfl) ?_
            refine r_icmp_le C 32 (oDec_at oX11_bounds 14 rfl) (by decide) (fun cd20 => ?_) (fun cd20 => ?_)
            · skip
              refine r_aload_n C (j := 0) (oDec_at oX11_bounds 17 rfl) rfl rfl ?_
              refine r_getF (k := 10) (b := 43) C oCl11 rfl (by decide) flX11_74 rfl rfl rfl (oDec_at oX11_bounds 18 rfl) ?_
              refine r_iload_n C (j := 1) (oDec_at oX11_bounds 19 rfl) rfl rfl ?_
              refine r_putiN (k := 0) (lo := 0) (hi := 24) C oCl10 rfl (by decide) flX11_162 rfl rfl rfl rfl rfl rfl rfl rfl ⟨by omega, by omega⟩ (oDec_at oX11_bounds 20 rfl) ?_
              refine r_aload_n C (j := 0) (oDec_at oX11_bounds 21 rfl) rfl rfl ?_
              refine r_getF (k := 10) (b := 43) C oCl11 rfl (by decide) flX11_74 rfl rfl rfl (oDec_at oX11_bounds 22 rfl) ?_
              refine r_pc C 44 rfl ?_
              refine r_iload_n C (j := 2) (oDec_at oX11_bounds 23 rfl) rfl rfl ?_
              refine r_putiN (k := 1) (lo := 0) (hi := 7) C oCl10 rfl (by decide) flX11_165 rfl rfl rfl rfl rfl rfl rfl rfl ⟨by omega, by omega⟩ (oDec_at oX11_bounds 24 rfl) ?_
              refine r_aload_n C (j := 0) (oDec_at oX11_bounds 25 rfl) rfl rfl ?_
              refine r_getF (k := 10) (b := 43) C oCl11 rfl (by decide) flX11_74 rfl rfl rfl (oDec_at oX11_bounds 26 rfl) ?_
              refine r_iload_n C (j := 3) (oDec_at oX11_bounds 27 rfl) rfl rfl ?_
              refine r_putiN (k := 2) (lo := 0) (hi := 15) C oCl10 rfl (by decide) flX11_168 rfl rfl rfl rfl rfl rfl rfl rfl ⟨by omega, by omega⟩ (oDec_at oX11_bounds 28 rfl) ?_
              refine r_pc C 56 rfl ?_
              refine r_aload_n C (j := 0) (oDec_at oX11_bounds 29 rfl) rfl rfl ?_
              refine r_callVv C oCl11 rfl miX11_forget mlX11_131 (ct_X11_forget l E ((pI (pI (pI s 43 0 a1) 43 1 a2) 43 2 a3))  ) (by decide) rfl rfl rfl (Nat.le_of_ble_eq_true rfl) (oDec_at oX11_bounds 30 rfl) (fun u21 pu21 fu21 => ?_)
              try dsimp only at pu21
              refine r_iconst C (oDec_at oX11_bounds 31 rfl) (v := k0) (by rw [qk0]; rfl) ?_
              refine r_istore C (lv' := [(0, .ref (oad E 0)), (1, .int a1), (2, .int a2), (3, .int a3), (4, .int k0)]) [1, 2, 3, 4, 0] (oDec_at oX11_bounds 32 rfl) (by decide) rfl ?_
              refine r_iconst C (oDec_at oX11_bounds 33 rfl) (v := k0) (by rw [qk0]; rfl) ?_
              refine r_istore C (lv' := [(0, .ref (oad E 0)), (1, .int a1), (2, .int a2), (3, .int a3), (4, .int k0), (5, .int k0)]) [1, 2, 3, 4, 5, 0] (oDec_at oX11_bounds 34 rfl) (by decide) rfl ?_
              have lk23 : ((u21).1 43 2).toInt = a3.toInt := congrArg Int32.toInt (((fu21 43 2 rfl).1).trans ((pI_self _ _ _ _)))
              have lk24 : ((u21).1 43 0).toInt = a1.toInt := congrArg Int32.toInt (((fu21 43 0 rfl).1).trans (((pI_ne (a := 43) (b := 0) (c := 43) (k := 2) _ _ (Or.inr (by decide)))).trans (((pI_ne (a := 43) (b := 0) (c := 43) (k := 1) _ _ (Or.inr (by decide)))).trans ((pI_self _ _ _ _)))))
              have lk25 : ((u21).1 43 1).toInt = a2.toInt := congrArg Int32.toInt (((fu21 43 1 rfl).1).trans (((pI_ne (a := 43) (b := 1) (c := 43) (k := 2) _ _ (Or.inr (by decide)))).trans ((pI_self _ _ _ _))))
              have lk26 : ((u21).1 43 2).toInt = a3.toInt := congrArg Int32.toInt (((fu21 43 2 rfl).1).trans ((pI_self _ _ _ _)))
              refine r_pick C [0, 1, 2, 4, 5] rfl ?_
              exact (key (13 - k0.toInt).toNat) (u21) k0 k0  (by omega) (by omega) (by first | (have e0 := oC1_x0 (f := fun s => oAl a3.toInt (s : Int)) (x := k0) (by omega); rw [e0]; omega)) (by omega) (by omega) (by omega) (by omega)
            · skip
              refine r_iconst C (oDec_at oX11_bounds 15 rfl) (v := km1) (by rw [qkm1]; rfl) ?_
              exact r_iret C (oDec_at oX11_bounds 16 rfl) ⟨_, rfl, ⟨by omega, by first | (have hc9 : ¬ (0 ≤ a1.toInt ∧ a1.toInt ≤ 24 ∧ 0 ≤ a2.toInt ∧ a2.toInt ≤ 7 ∧ 0 ≤ a3.toInt ∧ a3.toInt ≤ 15) := (by omega); simp only [hbb9, if_neg hc9]; exact hp0) | (have hc9 : (0 ≤ a1.toInt ∧ a1.toInt ≤ 24 ∧ 0 ≤ a2.toInt ∧ a2.toInt ≤ 7 ∧ 0 ≤ a3.toInt ∧ a3.toInt ≤ 15) := (by omega); simp only [hbb9, if_pos hc9]; exact ⟨by omega, by omega, by omega⟩)⟩⟩
set_option maxHeartbeats 4000000 in
set_option maxRecDepth 100000 in
theorem ct9_X12_bounds (l : Launch) (E : oE) (s : oS) (a1 : Int32) (a2 : Int32) (a3 : Int32) (D : Int) (S : Int) (K : Int) (hp0 : owBY D S K s) : oMet l 3 yX12_bounds cX12_bounds 6 (some .int) [(12, 66), (12, 67), (12, 68), (12, 69)] E s [.ref (oad E 71), .int a1, .int a2, .int a3] (oPi (fun r u => ((0 ≤ a1.toInt ∧ a1.toInt ≤ 24 ∧ 0 ≤ a2.toInt ∧ a2.toInt ≤ 7 ∧ 0 ≤ a3.toInt ∧ a3.toInt ≤ 15 ∧ r.toInt = oBF a1.toInt a2.toInt a3.toInt) ∨ ((a1.toInt < 0 ∨ 24 < a1.toInt ∨ a2.toInt < 0 ∨ 7 < a2.toInt ∨ a3.toInt < 0 ∨ 15 < a3.toInt) ∧ r.toInt = -1)) ∧ (owBY (owBb D a1.toInt a1.toInt a2.toInt a3.toInt) (owBb S a2.toInt a1.toInt a2.toInt a3.toInt) (owBb K a3.toInt a1.toInt a2.toInt a3.toInt) u))) := by
  refine oMet.of (lv := [(0, .ref (oad E 71)), (1, .int a1), (2, .int a2), (3, .int a3)]) (by decide +kernel) (Nat.le_of_ble_eq_true rfl) rfl (fun J C hT => ?_)
  have C : oC l 3 cX12_bounds RX12 6 (some .int) [(12, 66), (12, 67), (12, 68), (12, 69)] E s (oPi (fun r u => ((0 ≤ a1.toInt ∧ a1.toInt ≤ 24 ∧ 0 ≤ a2.toInt ∧ a2.toInt ≤ 7 ∧ 0 ≤ a3.toInt ∧ a3.toInt ≤ 15 ∧ r.toInt = oBF a1.toInt a2.toInt a3.toInt) ∨ ((a1.toInt < 0 ∨ 24 < a1.toInt ∨ a2.toInt < 0 ∨ 7 < a2.toInt ∨ a3.toInt < 0 ∨ 15 < a3.toInt) ∧ r.toInt = -1)) ∧ (owBY (owBb D a1.toInt a1.toInt a2.toInt a3.toInt) (owBb S a2.toInt a1.toInt a2.toInt a3.toInt) (owBb K a3.toInt a1.toInt a2.toInt a3.toInt) u))) J := C
  obtain ⟨km1, qkm1⟩ : ∃ z : Int32, z = (-1) := ⟨_, rfl⟩
  have ekm1 : km1.toInt = (-1) := by rw [qkm1]; rfl
  obtain ⟨k0, qk0⟩ : ∃ z : Int32, z = 0 := ⟨_, rfl⟩
  have ek0 : k0.toInt = 0 := by rw [qk0]; rfl
  obtain ⟨k4500, qk4500⟩ : ∃ z : Int32, z = 4500 := ⟨_, rfl⟩
  have ek4500 : k4500.toInt = 4500 := by rw [qk4500]; rfl
  obtain ⟨j0, qj0⟩ : ∃ z : Int64, z = 0 := ⟨_, rfl⟩
  have ej0 : j0.toInt = 0 := by rw [qj0]; rfl
  obtain ⟨j7, qj7⟩ : ∃ z : Int64, z = 7 := ⟨_, rfl⟩
  have ej7 : j7.toInt = 7 := by rw [qj7]; rfl
  obtain ⟨j15, qj15⟩ : ∃ z : Int64, z = 15 := ⟨_, rfl⟩
  have ej15 : j15.toInt = 15 := by rw [qj15]; rfl
  obtain ⟨j24, qj24⟩ : ∃ z : Int64, z = 24 := ⟨_, rfl⟩
  have ej24 : j24.toInt = 24 := by rw [qj24]; rfl
  have rg1 := n_rng a1
  have rg2 := n_rng a2
  have rg3 := n_rng a3
  have hbb9 : ∀ o n : Int, owBb o n a1.toInt a2.toInt a3.toInt = if (0 ≤ a1.toInt ∧ a1.toInt ≤ 24 ∧ 0 ≤ a2.toInt ∧ a2.toInt ≤ 7 ∧ 0 ≤ a3.toInt ∧ a3.toInt ≤ 15) then n else o := fun _ _ => rfl
  have key : ∀ n : Nat, (∀ (t : oS) (x4 : Int32) (x5 : Int32), (0 ≤ x5.toInt ∧ x5.toInt ≤ 4500) → (0 ≤ x4.toInt ∧ x4.toInt ≤ x5.toInt) → ((t.1 71 66).toInt = a1.toInt ∧ (t.1 71 67).toInt = a2.toInt ∧ (t.1 71 68).toInt = a3.toInt) → (0 ≤ a1.toInt ∧ a1.toInt ≤ 24 ∧ 0 ≤ a2.toInt ∧ a2.toInt ≤ 7 ∧ 0 ≤ a3.toInt ∧ a3.toInt ≤ 15) → (x4.toInt = oC1 (fun c => oBd a1.toInt a2.toInt a3.toInt (c : Int)) x5.toNatClampNeg) → 4501 - x5.toInt ≤ (n : Int) → J t 64 [(0, .ref (oad E 71)), (4, .int x4), (5, .int x5)] []) := by
    intro n
    induction n using Nat.strongRecOn with
    | _ n ih =>
      skip
      · intro t x4 x5  iv0 iv1 iv2 iv3 iv4 hmu
        have rx4 := n_rng x4
        have rx5 := n_rng x5
        refine r_iload C (j := 2) (oDec_at oX12_bounds 36 rfl) rfl ?_
        refine r_sipush C (oDec_at oX12_bounds 37 rfl) (v := k4500) (by rw [qk4500]; rfl) ?_
        refine r_icmp_ge C 90 (oDec_at oX12_bounds 38 rfl) (by decide) (fun cd1 => ?_) (fun cd1 => ?_)
        · skip
          refine r_iload C (j := 1) (oDec_at oX12_bounds 46 rfl) rfl ?_
          exact r_iret C (oDec_at oX12_bounds 47 rfl) ⟨_, rfl, ⟨by first | omega | exact Or.inl ⟨by omega, by omega, by omega, by omega, by omega, by omega, by rw [iv4, show x5.toNatClampNeg = 4500 by have := n_nat x5; omega]; exact oBd_all ⟨by omega, by omega⟩ ⟨by omega, by omega⟩⟩, by first | (have hc9 : ¬ (0 ≤ a1.toInt ∧ a1.toInt ≤ 24 ∧ 0 ≤ a2.toInt ∧ a2.toInt ≤ 7 ∧ 0 ≤ a3.toInt ∧ a3.toInt ≤ 15) := (by omega); simp only [hbb9, if_neg hc9]; exact (by assumption)) | (have hc9 : (0 ≤ a1.toInt ∧ a1.toInt ≤ 24 ∧ 0 ≤ a2.toInt ∧ a2.toInt ≤ 7 ∧ 0 ≤ a3.toInt ∧ a3.toInt ≤ 15) := (by omega); simp only [hbb9, if_pos hc9]; exact ⟨by omega, by omega, by omega⟩)⟩⟩
        · skip
          refine r_aload_n C (j := 0) (oDec_at oX12_bounds 39 rfl) rfl rfl ?_
          refine r_iload C (j := 2) (oDec_at oX12_bounds 40 rfl) rfl ?_
          refine r_callVi C oCl12 rfl miX12_isBound mlX12_476 (ct3_X12_isBound l E (t) x5 (by omega)) (by decide) rfl rfl rfl (Nat.le_of_ble_eq_true rfl) (oDec_at oX12_bounds 41 rfl) (fun r3 u2 pu2 fu2 => ?_)
          try dsimp only at pu2
          obtain ⟨pu2_0, pu2_1⟩ := pu2
          have hxu2 := oFr_nil fu2; subst hxu2
          have rr3 := n_rng r3
          refine r_if_eq C 84 (oDec_at oX12_bounds 42 rfl) (by decide) (fun cd4 => ?_) (fun cd4 => ?_)
          · skip
            obtain ⟨v5, ev5⟩ : ∃ z : Int32, x5 + Int32.ofInt 1 = z := ⟨_, rfl⟩
            have hv5 : v5.toInt = x5.toInt + 1 := n_inc ev5 (by decide) (by omega) (by omega)
            refine r_iinc C (j := 2) (lv' := [(0, .ref (oad E 71)), (4, .int x4), (5, .int v5)]) v5 [1, 2, 0] (oDec_at oX12_bounds 44 rfl) rfl ev5 (by decide) rfl ?_
            refine r_goto C (tgt := 64) (oDec_at oX12_bounds 45 rfl) (by decide) ?_
            exact (ih (n - 1) (by omega)) (t) x4 v5  (by omega) (by omega) (by omega) (by omega) (by first | (have e2 := oC1_nx (f := fun c => oBd a1.toInt a2.toInt a3.toInt (c : Int)) (x := x5) (y := v5) (by omega) (by omega); have hbd := pu2_1 a1.toInt a2.toInt a3.toInt (by omega) (by omega) (by omega); have e3 : oBd a1.toInt a2.toInt a3.toInt ((x5.toNatClampNeg : Nat) : Int) = oBd a1.toInt a2.toInt a3.toInt x5.toInt := (by rw [show ((x5.toNatClampNeg : Nat) : Int) = x5.toInt from by have := n_nat x5; omega]); rw [e2]; show _ = _ + oBd a1.toInt a2.toInt a3.toInt ((x5.toNatClampNeg : Nat) : Int); rw [e3]; omega) | (have e0 := oC1_x0 (f := fun c => oBd a1.toInt a2.toInt a3.toInt (c : Int)) (x := v5) (by omega); rw [e0]; omega)) (by omega)
          · skip
            obtain ⟨v6, ev6⟩ : ∃ z : Int32, x4 + Int32.ofInt 1 = z := ⟨_, rfl⟩
            have hv6 : v6.toInt = x4.toInt + 1 := n_inc ev6 (by decide) (by omega) (by omega)
            refine r_iinc C (j := 1) (lv' := [(0, .ref (oad E 71)), (4, .int v6), (5, .int x5)]) v6 [1, 0, 2] (oDec_at oX12_bounds 43 rfl) rfl ev6 (by decide) rfl ?_
            obtain ⟨v7, ev7⟩ : ∃ z : Int32, x5 + Int32.ofInt 1 = z := ⟨_, rfl⟩
            have hv7 : v7.toInt = x5.toInt + 1 := n_inc ev7 (by decide) (by omega) (by omega)
            refine r_iinc C (j := 2) (lv' := [(0, .ref (oad E 71)), (4, .int v6), (5, .int v7)]) v7 [1, 2, 0] (oDec_at oX12_bounds 44 rfl) rfl ev7 (by decide) rfl ?_
            refine r_goto C (tgt := 64) (oDec_at oX12_bounds 45 rfl) (by decide) ?_
            exact (ih (n - 1) (by omega)) (t) v6 v7  (by omega) (by omega) (by omega) (by omega) (by first | (have e2 := oC1_nx (f := fun c => oBd a1.toInt a2.toInt a3.toInt (c : Int)) (x := x5) (y := v7) (by omega) (by omega); have hbd := pu2_1 a1.toInt a2.toInt a3.toInt (by omega) (by omega) (by omega); have e3 : oBd a1.toInt a2.toInt a3.toInt ((x5.toNatClampNeg : Nat) : Int) = oBd a1.toInt a2.toInt a3.toInt x5.toInt := (by rw [show ((x5.toNatClampNeg : Nat) : Int) = x5.toInt from by have := n_nat x5; omega]); rw [e2]; show _ = _ + oBd a1.toInt a2.toInt a3.toInt ((x5.toNatClampNeg : Nat) : Int); rw [e3]; omega) | (have e0 := oC1_x0 (f := fun c => oBd a1.toInt a2.toInt a3.toInt (c : Int)) (x := v7) (by omega); rw [e0]; omega)) (by omega)
  refine r_iload_n C (j := 1) (oDec_at oX12_bounds 0 rfl) rfl rfl ?_
  obtain ⟨v8, ev8⟩ : ∃ z : Int64, a1.toInt64 = z := ⟨_, rfl⟩
  have hv8 : v8.toInt = a1.toInt := n_i2l ev8
  refine r_i2l C v8 (oDec_at oX12_bounds 1 rfl) ev8 ?_
  refine r_lconst C (oDec_at oX12_bounds 2 rfl) (v := j0) (by rw [qj0]; rfl) ?_
  refine r_ldc2 C (v := j24) (by rw [qj24]; exact klX12_411) (oDec_at oX12_bounds 3 rfl) ?_
  refine r_callSi C miX12_isIn mlX12_216 (ct_X12_isIn l E (s) v8 j0 j24 ) (by decide) rfl rfl rfl (Nat.le_of_ble_eq_true rfl) (oDec_at oX12_bounds 4 rfl) (fun r10 u9 pu9 fu9 => ?_)
  try dsimp only at pu9
  obtain ⟨pu9_0, pu9_1⟩ := pu9
  have hxu9 := oFr_nil fu9; subst hxu9
  have rr10 := n_rng r10
  refine r_if_eq C 36 (oDec_at oX12_bounds 5 rfl) (by decide) (fun cd11 => ?_) (fun cd11 => ?_)
  · skip
    refine r_iconst C (oDec_at oX12_bounds 18 rfl) (v := km1) (by rw [qkm1]; rfl) ?_
    exact r_iret C (oDec_at oX12_bounds 19 rfl) ⟨_, rfl, ⟨by first | omega, by first | (have hc9 : ¬ (0 ≤ a1.toInt ∧ a1.toInt ≤ 24 ∧ 0 ≤ a2.toInt ∧ a2.toInt ≤ 7 ∧ 0 ≤ a3.toInt ∧ a3.toInt ≤ 15) := (by omega); simp only [hbb9, if_neg hc9]; exact hp0) | (have hc9 : (0 ≤ a1.toInt ∧ a1.toInt ≤ 24 ∧ 0 ≤ a2.toInt ∧ a2.toInt ≤ 7 ∧ 0 ≤ a3.toInt ∧ a3.toInt ≤ 15) := (by omega); simp only [hbb9, if_pos hc9]; exact ⟨by omega, by omega, by omega⟩)⟩⟩
  · skip
    refine r_iload_n C (j := 2) (oDec_at oX12_bounds 6 rfl) rfl rfl ?_
    obtain ⟨v12, ev12⟩ : ∃ z : Int64, a2.toInt64 = z := ⟨_, rfl⟩
    have hv12 : v12.toInt = a2.toInt := n_i2l ev12
    refine r_i2l C v12 (oDec_at oX12_bounds 7 rfl) ev12 ?_
    refine r_lconst C (oDec_at oX12_bounds 8 rfl) (v := j0) (by rw [qj0]; rfl) ?_
    refine r_ldc2 C (v := j7) (by rw [qj7]; exact klX12_415) (oDec_at oX12_bounds 9 rfl) ?_
    refine r_callSi C miX12_isIn mlX12_216 (ct_X12_isIn l E (s) v12 j0 j7 ) (by decide) rfl rfl rfl (Nat.le_of_ble_eq_true rfl) (oDec_at oX12_bounds 10 rfl) (fun r14 u13 pu13 fu13 => ?_)
    try dsimp only at pu13
    obtain ⟨pu13_0, pu13_1⟩ := pu13
    have hxu13 := oFr_nil fu13; subst hxu13
    have rr14 := n_rng r14
    refine r_if_eq C 36 (oDec_at oX12_bounds 11 rfl) (by decide) (fun cd15 => ?_) (fun cd15 => ?_)
    · skip
      refine r_iconst C (oDec_at oX12_bounds 18 rfl) (v := km1) (by rw [qkm1]; rfl) ?_
      exact r_iret C (oDec_at oX12_bounds 19 rfl) ⟨_, rfl, ⟨by first | omega, by first | (have hc9 : ¬ (0 ≤ a1.toInt ∧ a1.toInt ≤ 24 ∧ 0 ≤ a2.toInt ∧ a2.toInt ≤ 7 ∧ 0 ≤ a3.toInt ∧ a3.toInt ≤ 15) := (by omega); simp only [hbb9, if_neg hc9]; exact hp0) | (have hc9 : (0 ≤ a1.toInt ∧ a1.toInt ≤ 24 ∧ 0 ≤ a2.toInt ∧ a2.toInt ≤ 7 ∧ 0 ≤ a3.toInt ∧ a3.toInt ≤ 15) := (by omega); simp only [hbb9, if_pos hc9]; exact ⟨by omega, by omega, by omega⟩)⟩⟩
    · skip
      refine r_iload_n C (j := 3) (oDec_at oX12_bounds 12 rfl) rfl rfl ?_
      obtain ⟨v16, ev16⟩ : ∃ z : Int64, a3.toInt64 = z := ⟨_, rfl⟩
      have hv16 : v16.toInt = a3.toInt := n_i2l ev16
      refine r_i2l C v16 (oDec_at oX12_bounds 13 rfl) ev16 ?_
      refine r_lconst C (oDec_at oX12_bounds 14 rfl) (v := j0) (by rw [qj0]; rfl) ?_
      refine r_ldc2 C (v := j15) (by rw [qj15]; exact klX12_488) (oDec_at oX12_bounds 15 rfl) ?_
      refine r_callSi C miX12_isIn mlX12_216 (ct_X12_isIn l E (s) v16 j0 j15 ) (by decide) rfl rfl rfl (Nat.le_of_ble_eq_true rfl) (oDec_at oX12_bounds 16 rfl) (fun r18 u17 pu17 fu17 => ?_)
      try dsimp only at pu17
      obtain ⟨pu17_0, pu17_1⟩ := pu17
      have hxu17 := oFr_nil fu17; subst hxu17
      have rr18 := n_rng r18
      refine r_if_ne C 38 (oDec_at oX12_bounds 17 rfl) (by decide) (fun cd19 => ?_) (fun cd19 => ?_)
      · skip
        refine r_aload_n C (j := 0) (oDec_at oX12_bounds 20 rfl) rfl rfl ?_
        refine r_iload_n C (j := 1) (oDec_at oX12_bounds 21 rfl) rfl rfl ?_
        refine r_puti (k := 66) (lo := 0) (hi := 24) C oCl12 rfl (by decide) flX12_139 rfl rfl rfl rfl rfl rfl rfl rfl ⟨by omega, by omega⟩ (oDec_at oX12_bounds 22 rfl) ?_
        refine r_aload_n C (j := 0) (oDec_at oX12_bounds 23 rfl) rfl rfl ?_
        refine r_iload_n C (j := 2) (oDec_at oX12_bounds 24 rfl) rfl rfl ?_
        refine r_puti (k := 67) (lo := 0) (hi := 7) C oCl12 rfl (by decide) flX12_142 rfl rfl rfl rfl rfl rfl rfl rfl ⟨by omega, by omega⟩ (oDec_at oX12_bounds 25 rfl) ?_
        refine r_pc C 48 rfl ?_
        refine r_aload_n C (j := 0) (oDec_at oX12_bounds 26 rfl) rfl rfl ?_
        refine r_iload_n C (j := 3) (oDec_at oX12_bounds 27 rfl) rfl rfl ?_
        refine r_puti (k := 68) (lo := 0) (hi := 15) C oCl12 rfl (by decide) flX12_378 rfl rfl rfl rfl rfl rfl rfl rfl ⟨by omega, by omega⟩ (oDec_at oX12_bounds 28 rfl) ?_
        refine r_aload_n C (j := 0) (oDec_at oX12_bounds 29 rfl) rfl rfl ?_
        refine r_iconst C (oDec_at oX12_bounds 30 rfl) (v := k0) (by rw [qk0]; rfl) ?_
        refine r_puti (k := 69) (lo := 0) (hi := 1) C oCl12 rfl (by decide) flX12_270 rfl rfl rfl rfl rfl (n_bool (by omega)) (n_fitz (by omega)) rfl ⟨by omega, by omega⟩ (oDec_at oX12_bounds 31 rfl) ?_
        refine r_pc C 58 rfl ?_
        refine r_iconst C (oDec_at oX12_bounds 32 rfl) (v := k0) (by rw [qk0]; rfl) ?_
        refine r_istore C (lv' := [(0, .ref (oad E 71)), (1, .int a1), (2, .int a2), (3, .int a3), (4, .int k0)]) [1, 2, 3, 4, 0] (oDec_at oX12_bounds 33 rfl) (by decide) rfl ?_
        refine r_iconst C (oDec_at oX12_bounds 34 rfl) (v := k0) (by rw [qk0]; rfl) ?_
        refine r_istore C (lv' := [(0, .ref (oad E 71)), (1, .int a1), (2, .int a2), (3, .int a3), (4, .int k0), (5, .int k0)]) [1, 2, 3, 4, 5, 0] (oDec_at oX12_bounds 35 rfl) (by decide) rfl ?_
        have lk20 : (((pI (pI (pI (pI s 71 66 a1) 71 67 a2) 71 68 a3) 71 69 k0)).1 71 66).toInt = a1.toInt := congrArg Int32.toInt (((pI_ne (a := 71) (b := 66) (c := 71) (k := 69) _ _ (Or.inr (by decide)))).trans (((pI_ne (a := 71) (b := 66) (c := 71) (k := 68) _ _ (Or.inr (by decide)))).trans (((pI_ne (a := 71) (b := 66) (c := 71) (k := 67) _ _ (Or.inr (by decide)))).trans ((pI_self _ _ _ _)))))
        have lk21 : (((pI (pI (pI (pI s 71 66 a1) 71 67 a2) 71 68 a3) 71 69 k0)).1 71 67).toInt = a2.toInt := congrArg Int32.toInt (((pI_ne (a := 71) (b := 67) (c := 71) (k := 69) _ _ (Or.inr (by decide)))).trans (((pI_ne (a := 71) (b := 67) (c := 71) (k := 68) _ _ (Or.inr (by decide)))).trans ((pI_self _ _ _ _))))
        have lk22 : (((pI (pI (pI (pI s 71 66 a1) 71 67 a2) 71 68 a3) 71 69 k0)).1 71 68).toInt = a3.toInt := congrArg Int32.toInt (((pI_ne (a := 71) (b := 68) (c := 71) (k := 69) _ _ (Or.inr (by decide)))).trans ((pI_self _ _ _ _)))
        refine r_pick C [0, 4, 5] rfl ?_
        exact (key (4501 - k0.toInt).toNat) ((pI (pI (pI (pI s 71 66 a1) 71 67 a2) 71 68 a3) 71 69 k0)) k0 k0  (by omega) (by omega) (by omega) (by omega) (by first | (have e0 := oC1_x0 (f := fun c => oBd a1.toInt a2.toInt a3.toInt (c : Int)) (x := k0) (by omega); rw [e0]; omega)) (by omega)
      · skip
        refine r_iconst C (oDec_at oX12_bounds 18 rfl) (v := km1) (by rw [qkm1]; rfl) ?_
        exact r_iret C (oDec_at oX12_bounds 19 rfl) ⟨_, rfl, ⟨by first | omega, by first | (have hc9 : ¬ (0 ≤ a1.toInt ∧ a1.toInt ≤ 24 ∧ 0 ≤ a2.toInt ∧ a2.toInt ≤ 7 ∧ 0 ≤ a3.toInt ∧ a3.toInt ≤ 15) := (by omega); simp only [hbb9, if_neg hc9]; exact hp0) | (have hc9 : (0 ≤ a1.toInt ∧ a1.toInt ≤ 24 ∧ 0 ≤ a2.toInt ∧ a2.toInt ≤ 7 ∧ 0 ≤ a3.toInt ∧ a3.toInt ≤ 15) := (by omega); simp only [hbb9, if_pos hc9]; exact ⟨by omega, by omega, by omega⟩)⟩⟩
