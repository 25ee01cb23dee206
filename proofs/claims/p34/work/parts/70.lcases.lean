theorem o_tab {z : Int} (h : 0 ≤ z ∧ z ≤ 38) : z = 0 ∨ z = 1 ∨ z = 2 ∨ z = 3 ∨ z = 4 ∨ z = 5 ∨ z = 6 ∨ z = 7 ∨ z = 8 ∨ z = 9 ∨ z = 10 ∨ z = 11 ∨ z = 12 ∨ z = 13 ∨ z = 14 ∨ z = 15 ∨ z = 16 ∨ z = 17 ∨ z = 18 ∨ z = 19 ∨ z = 20 ∨ z = 21 ∨ z = 22 ∨ z = 23 ∨ z = 24 ∨ z = 25 ∨ z = 26 ∨ z = 27 ∨ z = 28 ∨ z = 29 ∨ z = 30 ∨ z = 31 ∨ z = 32 ∨ z = 33 ∨ z = 34 ∨ z = 35 ∨ z = 36 ∨ z = 37 ∨ z = 38 := by
  omega
set_option maxHeartbeats 8000000 in
set_option maxRecDepth 100000 in
theorem lw_c0 {l : Launch} {b L kc sl : Nat} {xs : Nat → Int32} {E : oE} {J : oS → Nat → List (Nat × Value) → List Value → Prop} (C : oLC l b L xs E kc sl J) (hL : L ≤ 3072) {t : oS} {x3 : Int32} (iv0 : oLT t) (iv1 : 1 ≤ (t.1 71 38).toInt → 1 ≤ (t.1 71 42).toInt) (iv2 : oBI t) (iv3 : oqET t) (hx3 : 0 ≤ x3.toInt ∧ x3.toInt + 6 ≤ (L : Int)) (hgo : ∀ (t2 : oS) (y3 : Int32), oLT t2 → (1 ≤ (t2.1 71 38).toInt → 1 ≤ (t2.1 71 42).toInt) → oBI t2 → (oqET t2) → y3.toInt = x3.toInt + 6 → J t2 18 [(0, .ref b), (1, .ref (oad E 0)), (2, .ref (oad E 71)), (3, .int y3)] []) : J t 204 [(0, .ref b), (1, .ref (oad E 0)), (2, .ref (oad E 71)), (3, .int x3)] [] := by
  obtain ⟨k0, qk0⟩ : ∃ z : Int32, z = 0 := ⟨_, rfl⟩
  have ek0 : k0.toInt = 0 := by rw [qk0]; rfl
  obtain ⟨k1, qk1⟩ : ∃ z : Int32, z = 1 := ⟨_, rfl⟩
  have ek1 : k1.toInt = 1 := by rw [qk1]; rfl
  obtain ⟨k2, qk2⟩ : ∃ z : Int32, z = 2 := ⟨_, rfl⟩
  have ek2 : k2.toInt = 2 := by rw [qk2]; rfl
  obtain ⟨k3, qk3⟩ : ∃ z : Int32, z = 3 := ⟨_, rfl⟩
  have ek3 : k3.toInt = 3 := by rw [qk3]; rfl
  obtain ⟨k4, qk4⟩ : ∃ z : Int32, z = 4 := ⟨_, rfl⟩
  have ek4 : k4.toInt = 4 := by rw [qk4]; rfl
  obtain ⟨k5, qk5⟩ : ∃ z : Int32, z = 5 := ⟨_, rfl⟩
  have ek5 : k5.toInt = 5 := by rw [qk5]; rfl
  obtain ⟨⟨hE, hWd, R9, W9, m9, ⟨b9, d9, hBD, hBC, hME, hKV⟩, hLN, hDN, hBE, hMM, hLO⟩, hCS, D9, S9, K9, hBW, hBY, hBR⟩ := id iv3
  have hE1 : (t.1 1 1).toInt = (t.1 71 1).toInt := hE.1
  refine L_ty C (fun hty => ?_)
  have ht11 : (0 : Int) ≤ (t.1 1 1).toInt ∧ (t.1 1 1).toInt ≤ 1600 := hty.1 1 1
  clear hty
  refine L_aload_n C (j := 1) (oDec_at oLw_0 22 rfl) rfl rfl ?_
  refine L_aload_n C (j := 0) (oDec_at oLw_0 23 rfl) rfl rfl ?_
  refine L_iload_n C (j := 3) (oDec_at oLw_0 24 rfl) rfl rfl ?_
  refine L_iconst C (oDec_at oLw_0 25 rfl) (v := k1) (by rw [qk1]; rfl) ?_
  obtain ⟨v1, ev1⟩ : ∃ z : Int32, z = x3 + k1 := ⟨_, rfl⟩
  have hv1 : v1.toInt = x3.toInt + k1.toInt := n_add ev1 (by omega) (by omega)
  refine L_iadd C v1 (oDec_at oLw_0 26 rfl) ev1 ?_
  refine L_sld C ⟨by omega, by omega⟩ (oDec_at oLw_0 27 rfl) ?_
  obtain ⟨v2, ev2⟩ : ∃ z : Int32, xs v1.toNatClampNeg = z := ⟨_, rfl⟩
  rw [ev2]
  have rv2 := n_rng v2
  refine L_aload_n C (j := 0) (oDec_at oLw_0 28 rfl) rfl rfl ?_
  refine L_iload_n C (j := 3) (oDec_at oLw_0 29 rfl) rfl rfl ?_
  refine L_iconst C (oDec_at oLw_0 30 rfl) (v := k2) (by rw [qk2]; rfl) ?_
  obtain ⟨v3, ev3⟩ : ∃ z : Int32, z = x3 + k2 := ⟨_, rfl⟩
  have hv3 : v3.toInt = x3.toInt + k2.toInt := n_add ev3 (by omega) (by omega)
  refine L_iadd C v3 (oDec_at oLw_0 31 rfl) ev3 ?_
  refine L_sld C ⟨by omega, by omega⟩ (oDec_at oLw_0 32 rfl) ?_
  obtain ⟨v4, ev4⟩ : ∃ z : Int32, xs v3.toNatClampNeg = z := ⟨_, rfl⟩
  rw [ev4]
  have rv4 := n_rng v4
  refine L_aload_n C (j := 0) (oDec_at oLw_0 33 rfl) rfl rfl ?_
  refine L_iload_n C (j := 3) (oDec_at oLw_0 34 rfl) rfl rfl ?_
  refine L_iconst C (oDec_at oLw_0 35 rfl) (v := k3) (by rw [qk3]; rfl) ?_
  obtain ⟨v5, ev5⟩ : ∃ z : Int32, z = x3 + k3 := ⟨_, rfl⟩
  have hv5 : v5.toInt = x3.toInt + k3.toInt := n_add ev5 (by omega) (by omega)
  refine L_iadd C v5 (oDec_at oLw_0 36 rfl) ev5 ?_
  refine L_sld C ⟨by omega, by omega⟩ (oDec_at oLw_0 37 rfl) ?_
  obtain ⟨v6, ev6⟩ : ∃ z : Int32, xs v5.toNatClampNeg = z := ⟨_, rfl⟩
  rw [ev6]
  have rv6 := n_rng v6
  refine L_aload_n C (j := 0) (oDec_at oLw_0 38 rfl) rfl rfl ?_
  refine L_iload_n C (j := 3) (oDec_at oLw_0 39 rfl) rfl rfl ?_
  refine L_iconst C (oDec_at oLw_0 40 rfl) (v := k4) (by rw [qk4]; rfl) ?_
  obtain ⟨v7, ev7⟩ : ∃ z : Int32, z = x3 + k4 := ⟨_, rfl⟩
  have hv7 : v7.toInt = x3.toInt + k4.toInt := n_add ev7 (by omega) (by omega)
  refine L_iadd C v7 (oDec_at oLw_0 41 rfl) ev7 ?_
  refine L_sld C ⟨by omega, by omega⟩ (oDec_at oLw_0 42 rfl) ?_
  obtain ⟨v8, ev8⟩ : ∃ z : Int32, xs v7.toNatClampNeg = z := ⟨_, rfl⟩
  rw [ev8]
  have rv8 := n_rng v8
  refine L_aload_n C (j := 0) (oDec_at oLw_0 43 rfl) rfl rfl ?_
  refine L_iload_n C (j := 3) (oDec_at oLw_0 44 rfl) rfl rfl ?_
  refine L_iconst C (oDec_at oLw_0 45 rfl) (v := k5) (by rw [qk5]; rfl) ?_
  obtain ⟨v9, ev9⟩ : ∃ z : Int32, z = x3 + k5 := ⟨_, rfl⟩
  have hv9 : v9.toInt = x3.toInt + k5.toInt := n_add ev9 (by omega) (by omega)
  refine L_iadd C v9 (oDec_at oLw_0 46 rfl) ev9 ?_
  refine L_sld C ⟨by omega, by omega⟩ (oDec_at oLw_0 47 rfl) ?_
  obtain ⟨v10, ev10⟩ : ∃ z : Int32, xs v9.toNatClampNeg = z := ⟨_, rfl⟩
  rw [ev10]
  have rv10 := n_rng v10
  refine L_callVi C oCl11 rfl miX11_feed mlL_13 (ct4_X11_feed l E (t) v2 v4 v6 v8 v10 ) (by decide) rfl rfl rfl (Nat.le_of_ble_eq_true rfl) (oDec_at oLw_0 48 rfl) (fun r12 u11 pu11 fu11 => ?_)
  try dsimp only at pu11
  obtain ⟨pu11_0, pu11_1⟩ := pu11
  refine L_pc C 233 rfl ?_
  refine L_pop C (oDec_at oLw_0 49 rfl) rfl ?_
  refine L_aload_n C (j := 2) (oDec_at oLw_1 0 rfl) rfl rfl ?_
  refine L_aload_n C (j := 0) (oDec_at oLw_1 1 rfl) rfl rfl ?_
  refine L_iload_n C (j := 3) (oDec_at oLw_1 2 rfl) rfl rfl ?_
  refine L_iconst C (oDec_at oLw_1 3 rfl) (v := k1) (by rw [qk1]; rfl) ?_
  obtain ⟨v13, ev13⟩ : ∃ z : Int32, z = x3 + k1 := ⟨_, rfl⟩
  have hv13 : v13.toInt = x3.toInt + k1.toInt := n_add ev13 (by omega) (by omega)
  refine L_iadd C v13 (oDec_at oLw_1 4 rfl) ev13 ?_
  refine L_sld C ⟨by omega, by omega⟩ (oDec_at oLw_1 5 rfl) ?_
  rw [show xs v13.toNatClampNeg = v2 from by rw [show v13.toNatClampNeg = v1.toNatClampNeg by have q1 := n_nat v13; have q2 := n_nat v1; omega]; exact ev2]
  refine L_aload_n C (j := 0) (oDec_at oLw_1 6 rfl) rfl rfl ?_
  refine L_iload_n C (j := 3) (oDec_at oLw_1 7 rfl) rfl rfl ?_
  refine L_iconst C (oDec_at oLw_1 8 rfl) (v := k2) (by rw [qk2]; rfl) ?_
  obtain ⟨v15, ev15⟩ : ∃ z : Int32, z = x3 + k2 := ⟨_, rfl⟩
  have hv15 : v15.toInt = x3.toInt + k2.toInt := n_add ev15 (by omega) (by omega)
  refine L_iadd C v15 (oDec_at oLw_1 9 rfl) ev15 ?_
  refine L_sld C ⟨by omega, by omega⟩ (oDec_at oLw_1 10 rfl) ?_
  rw [show xs v15.toNatClampNeg = v4 from by rw [show v15.toNatClampNeg = v3.toNatClampNeg by have q1 := n_nat v15; have q2 := n_nat v3; omega]; exact ev4]
  refine L_aload_n C (j := 0) (oDec_at oLw_1 11 rfl) rfl rfl ?_
  refine L_iload_n C (j := 3) (oDec_at oLw_1 12 rfl) rfl rfl ?_
  refine L_iconst C (oDec_at oLw_1 13 rfl) (v := k3) (by rw [qk3]; rfl) ?_
  obtain ⟨v17, ev17⟩ : ∃ z : Int32, z = x3 + k3 := ⟨_, rfl⟩
  have hv17 : v17.toInt = x3.toInt + k3.toInt := n_add ev17 (by omega) (by omega)
  refine L_iadd C v17 (oDec_at oLw_1 14 rfl) ev17 ?_
  refine L_sld C ⟨by omega, by omega⟩ (oDec_at oLw_1 15 rfl) ?_
  rw [show xs v17.toNatClampNeg = v6 from by rw [show v17.toNatClampNeg = v5.toNatClampNeg by have q1 := n_nat v17; have q2 := n_nat v5; omega]; exact ev6]
  refine L_aload_n C (j := 0) (oDec_at oLw_1 16 rfl) rfl rfl ?_
  refine L_iload_n C (j := 3) (oDec_at oLw_1 17 rfl) rfl rfl ?_
  refine L_iconst C (oDec_at oLw_1 18 rfl) (v := k4) (by rw [qk4]; rfl) ?_
  obtain ⟨v19, ev19⟩ : ∃ z : Int32, z = x3 + k4 := ⟨_, rfl⟩
  have hv19 : v19.toInt = x3.toInt + k4.toInt := n_add ev19 (by omega) (by omega)
  refine L_iadd C v19 (oDec_at oLw_1 19 rfl) ev19 ?_
  refine L_sld C ⟨by omega, by omega⟩ (oDec_at oLw_1 20 rfl) ?_
  rw [show xs v19.toNatClampNeg = v8 from by rw [show v19.toNatClampNeg = v7.toNatClampNeg by have q1 := n_nat v19; have q2 := n_nat v7; omega]; exact ev8]
  refine L_aload_n C (j := 0) (oDec_at oLw_1 21 rfl) rfl rfl ?_
  refine L_iload_n C (j := 3) (oDec_at oLw_1 22 rfl) rfl rfl ?_
  refine L_iconst C (oDec_at oLw_1 23 rfl) (v := k5) (by rw [qk5]; rfl) ?_
  obtain ⟨v21, ev21⟩ : ∃ z : Int32, z = x3 + k5 := ⟨_, rfl⟩
  have hv21 : v21.toInt = x3.toInt + k5.toInt := n_add ev21 (by omega) (by omega)
  refine L_iadd C v21 (oDec_at oLw_1 24 rfl) ev21 ?_
  refine L_sld C ⟨by omega, by omega⟩ (oDec_at oLw_1 25 rfl) ?_
  rw [show xs v21.toNatClampNeg = v10 from by rw [show v21.toNatClampNeg = v9.toNatClampNeg by have q1 := n_nat v21; have q2 := n_nat v9; omega]; exact ev10]
  have lk23 : ((u11).1 71 1).toInt = (t.1 71 1).toInt := congrArg Int32.toInt ((fu11 71 1 rfl).1)
  refine L_callVi C oCl12 rfl miX12_feed mlL_17 (ct4_X12_feed l E (u11) v2 v4 v6 v8 v10 ) (by decide) rfl rfl rfl (Nat.le_of_ble_eq_true rfl) (oDec_at oLw_1 26 rfl) (fun r25 u24 pu24 fu24 => ?_)
  try dsimp only at pu24
  obtain ⟨pu24_0, pu24_1⟩ := pu24
  refine L_pc C 263 rfl ?_
  refine L_pop C (oDec_at oLw_1 27 rfl) rfl ?_
  refine L_goto C (tgt := 1453) (oDec_at oLw_1 28 rfl) (by decide) ?_
  obtain ⟨v26, ev26⟩ : ∃ z : Int32, x3 + Int32.ofInt 6 = z := ⟨_, rfl⟩
  have hv26 : v26.toInt = x3.toInt + 6 := n_inc ev26 (by decide) (by omega) (by omega)
  refine L_iinc C (j := 3) (lv' := [(0, .ref b), (1, .ref (oad E 0)), (2, .ref (oad E 71)), (3, .int v26)]) v26 [1, 2, 3, 0] (oDec_at oLw_20 21 rfl) rfl ev26 (by decide) rfl ?_
  refine L_goto C (tgt := 18) (oDec_at oLw_20 22 rfl) (by decide) ?_
  have lk27 : ((u24).1 71 38).toInt = (t.1 71 38).toInt := congrArg Int32.toInt (((fu24 71 38 rfl).1).trans ((fu11 71 38 rfl).1))
  have lk28 : ((u24).1 71 42).toInt = (t.1 71 42).toInt := congrArg Int32.toInt (((fu24 71 42 rfl).1).trans ((fu11 71 42 rfl).1))
  have lk29 : ((u24).1 1 1).toInt = (u11.1 1 1).toInt := congrArg Int32.toInt ((fu24 1 1 rfl).1)
  exact hgo (u24) v26 (oLT_fr fu24 rfl (oLT_fr fu11 rfl iv0)) (by omega) (oBI_fr fu24 rfl (oBI_fr fu11 rfl iv2)) ⟨⟨(oqE_feed hE fu11 rfl fu24 rfl pu11_1 pu24_1 (by omega) ⟨by omega, by omega⟩ ⟨by omega, by omega⟩), (oqWd_fr fu24 rfl (oqWd_fr fu11 rfl hWd)), _, _, _, (owBX_fr fu24 rfl (owBX_fr fu11 rfl ⟨b9, d9, hBD, hBC, hME, hKV⟩)), (owLN_fr fu24 rfl (owLN_fr fu11 rfl hLN)), (owDN_fr fu24 rfl (owDN_fr fu11 rfl hDN)), (owBE_fr fu24 rfl (owBE_fr fu11 rfl hBE)), (owMM_fr fu24 rfl (owMM_fr fu11 rfl hMM)), (owLO_fr fu24 rfl (owLO_fr fu11 rfl hLO))⟩, (owCZ_fr fu24 rfl (owCZ_fr fu11 rfl hCS)), _, _, _, (owBW_fr fu24 rfl (owBW_fr fu11 rfl hBW)), (owBY_fr fu24 rfl (owBY_fr fu11 rfl hBY)), hBR⟩ (by omega)
set_option maxHeartbeats 8000000 in
set_option maxRecDepth 100000 in
theorem lw_c1 {l : Launch} {b L kc sl : Nat} {xs : Nat → Int32} {E : oE} {J : oS → Nat → List (Nat × Value) → List Value → Prop} (C : oLC l b L xs E kc sl J) (hL : L ≤ 3072) {t : oS} {x3 : Int32} (iv0 : oLT t) (iv1 : 1 ≤ (t.1 71 38).toInt → 1 ≤ (t.1 71 42).toInt) (iv2 : oBI t) (iv3 : oqET t) (hx3 : 0 ≤ x3.toInt ∧ x3.toInt + 6 ≤ (L : Int)) (hgo : ∀ (t2 : oS) (y3 : Int32), oLT t2 → (1 ≤ (t2.1 71 38).toInt → 1 ≤ (t2.1 71 42).toInt) → oBI t2 → (oqET t2) → y3.toInt = x3.toInt + 6 → J t2 18 [(0, .ref b), (1, .ref (oad E 0)), (2, .ref (oad E 71)), (3, .int y3)] []) : J t 267 [(0, .ref b), (1, .ref (oad E 0)), (2, .ref (oad E 71)), (3, .int x3)] [] := by
  obtain ⟨k0, qk0⟩ : ∃ z : Int32, z = 0 := ⟨_, rfl⟩
  have ek0 : k0.toInt = 0 := by rw [qk0]; rfl
  obtain ⟨k1, qk1⟩ : ∃ z : Int32, z = 1 := ⟨_, rfl⟩
  have ek1 : k1.toInt = 1 := by rw [qk1]; rfl
  obtain ⟨k2, qk2⟩ : ∃ z : Int32, z = 2 := ⟨_, rfl⟩
  have ek2 : k2.toInt = 2 := by rw [qk2]; rfl
  obtain ⟨k3, qk3⟩ : ∃ z : Int32, z = 3 := ⟨_, rfl⟩
  have ek3 : k3.toInt = 3 := by rw [qk3]; rfl
  obtain ⟨k4, qk4⟩ : ∃ z : Int32, z = 4 := ⟨_, rfl⟩
  have ek4 : k4.toInt = 4 := by rw [qk4]; rfl
  obtain ⟨k5, qk5⟩ : ∃ z : Int32, z = 5 := ⟨_, rfl⟩
  have ek5 : k5.toInt = 5 := by rw [qk5]; rfl
  obtain ⟨⟨hE, hWd, R9, W9, m9, ⟨b9, d9, hBD, hBC, hME, hKV⟩, hLN, hDN, hBE, hMM, hLO⟩, hCS, D9, S9, K9, hBW, hBY, hBR⟩ := id iv3
  have hE1 : (t.1 1 1).toInt = (t.1 71 1).toInt := hE.1
  refine L_aload_n C (j := 1) (oDec_at oLw_1 29 rfl) rfl rfl ?_
  refine L_aload_n C (j := 0) (oDec_at oLw_1 30 rfl) rfl rfl ?_
  refine L_iload_n C (j := 3) (oDec_at oLw_1 31 rfl) rfl rfl ?_
  refine L_iconst C (oDec_at oLw_1 32 rfl) (v := k1) (by rw [qk1]; rfl) ?_
  obtain ⟨v1, ev1⟩ : ∃ z : Int32, z = x3 + k1 := ⟨_, rfl⟩
  have hv1 : v1.toInt = x3.toInt + k1.toInt := n_add ev1 (by omega) (by omega)
  refine L_iadd C v1 (oDec_at oLw_1 33 rfl) ev1 ?_
  refine L_sld C ⟨by omega, by omega⟩ (oDec_at oLw_1 34 rfl) ?_
  obtain ⟨v2, ev2⟩ : ∃ z : Int32, xs v1.toNatClampNeg = z := ⟨_, rfl⟩
  rw [ev2]
  have rv2 := n_rng v2
  refine L_callVi C oCl11 rfl miX11_end mlL_18 (ct_X11_end l E (t) v2 ) (by decide) rfl rfl rfl (Nat.le_of_ble_eq_true rfl) (oDec_at oLw_1 35 rfl) (fun r4 u3 pu3 fu3 => ?_)
  try dsimp only at pu3
  obtain ⟨pu3_0, pu3_1⟩ := pu3
  clear pu3_0
  refine L_pc C 276 rfl ?_
  refine L_pop C (oDec_at oLw_1 36 rfl) rfl ?_
  refine L_aload_n C (j := 2) (oDec_at oLw_1 37 rfl) rfl rfl ?_
  refine L_aload_n C (j := 0) (oDec_at oLw_1 38 rfl) rfl rfl ?_
  refine L_iload_n C (j := 3) (oDec_at oLw_1 39 rfl) rfl rfl ?_
  refine L_iconst C (oDec_at oLw_1 40 rfl) (v := k1) (by rw [qk1]; rfl) ?_
  obtain ⟨v5, ev5⟩ : ∃ z : Int32, z = x3 + k1 := ⟨_, rfl⟩
  have hv5 : v5.toInt = x3.toInt + k1.toInt := n_add ev5 (by omega) (by omega)
  refine L_iadd C v5 (oDec_at oLw_1 41 rfl) ev5 ?_
  refine L_sld C ⟨by omega, by omega⟩ (oDec_at oLw_1 42 rfl) ?_
  rw [show xs v5.toNatClampNeg = v2 from by rw [show v5.toNatClampNeg = v1.toNatClampNeg by have q1 := n_nat v5; have q2 := n_nat v1; omega]; exact ev2]
  have lk7 : ((u3).1 71 1).toInt = (t.1 71 1).toInt := congrArg Int32.toInt ((fu3 71 1 rfl).1)
  refine L_callVi C oCl12 rfl miX12_end mlL_22 (ct_X12_end l E (u3) v2 ) (by decide) rfl rfl rfl (Nat.le_of_ble_eq_true rfl) (oDec_at oLw_1 43 rfl) (fun r9 u8 pu8 fu8 => ?_)
  try dsimp only at pu8
  obtain ⟨pu8_0, pu8_1⟩ := pu8
  clear pu8_0
  refine L_pc C 286 rfl ?_
  refine L_pop C (oDec_at oLw_1 44 rfl) rfl ?_
  refine L_goto C (tgt := 1453) (oDec_at oLw_1 45 rfl) (by decide) ?_
  obtain ⟨v10, ev10⟩ : ∃ z : Int32, x3 + Int32.ofInt 6 = z := ⟨_, rfl⟩
  have hv10 : v10.toInt = x3.toInt + 6 := n_inc ev10 (by decide) (by omega) (by omega)
  refine L_iinc C (j := 3) (lv' := [(0, .ref b), (1, .ref (oad E 0)), (2, .ref (oad E 71)), (3, .int v10)]) v10 [1, 2, 3, 0] (oDec_at oLw_20 21 rfl) rfl ev10 (by decide) rfl ?_
  refine L_goto C (tgt := 18) (oDec_at oLw_20 22 rfl) (by decide) ?_
  have lk11 : ((u8).1 71 38).toInt = (t.1 71 38).toInt := congrArg Int32.toInt (((fu8 71 38 rfl).1).trans ((fu3 71 38 rfl).1))
  have lk12 : ((u8).1 71 42).toInt = (t.1 71 42).toInt := congrArg Int32.toInt (((fu8 71 42 rfl).1).trans ((fu3 71 42 rfl).1))
  have lk13 : ((u8).1 1 1).toInt = (u3.1 1 1).toInt := congrArg Int32.toInt ((fu8 1 1 rfl).1)
  exact hgo (u8) v10 (oLT_fr fu8 rfl (oLT_fr fu3 rfl iv0)) (by omega) (oBI_fr fu8 rfl (oBI_fr fu3 rfl iv2)) ⟨⟨(oqE_end hE fu3 rfl fu8 rfl (by omega) (by omega)), (oqWd_fr fu8 rfl (oqWd_fr fu3 rfl hWd)), _, _, _, (owBX_fr fu8 rfl (owBX_fr fu3 rfl ⟨b9, d9, hBD, hBC, hME, hKV⟩)), (owLN_fr fu8 rfl (owLN_fr fu3 rfl hLN)), (owDN_fr fu8 rfl (owDN_fr fu3 rfl hDN)), (owBE_fr fu8 rfl (owBE_fr fu3 rfl hBE)), (owMM_fr fu8 rfl (owMM_fr fu3 rfl hMM)), (owLO_fr fu8 rfl (owLO_fr fu3 rfl hLO))⟩, (owCZ_fr fu8 rfl (owCZ_fr fu3 rfl hCS)), _, _, _, (owBW_fr fu8 rfl (owBW_fr fu3 rfl hBW)), (owBY_fr fu8 rfl (owBY_fr fu3 rfl hBY)), hBR⟩ (by omega)
set_option maxHeartbeats 8000000 in
set_option maxRecDepth 100000 in
theorem lw_c2 {l : Launch} {b L kc sl : Nat} {xs : Nat → Int32} {E : oE} {J : oS → Nat → List (Nat × Value) → List Value → Prop} (C : oLC l b L xs E kc sl J) (hL : L ≤ 3072) {t : oS} {x3 : Int32} (iv0 : oLT t) (iv1 : 1 ≤ (t.1 71 38).toInt → 1 ≤ (t.1 71 42).toInt) (iv2 : oBI t) (iv3 : oqET t) (hx3 : 0 ≤ x3.toInt ∧ x3.toInt + 6 ≤ (L : Int)) (hgo : ∀ (t2 : oS) (y3 : Int32), oLT t2 → (1 ≤ (t2.1 71 38).toInt → 1 ≤ (t2.1 71 42).toInt) → oBI t2 → (oqET t2) → y3.toInt = x3.toInt + 6 → J t2 18 [(0, .ref b), (1, .ref (oad E 0)), (2, .ref (oad E 71)), (3, .int y3)] []) : J t 290 [(0, .ref b), (1, .ref (oad E 0)), (2, .ref (oad E 71)), (3, .int x3)] [] := by
  obtain ⟨k0, qk0⟩ : ∃ z : Int32, z = 0 := ⟨_, rfl⟩
  have ek0 : k0.toInt = 0 := by rw [qk0]; rfl
  obtain ⟨k1, qk1⟩ : ∃ z : Int32, z = 1 := ⟨_, rfl⟩
  have ek1 : k1.toInt = 1 := by rw [qk1]; rfl
  obtain ⟨k2, qk2⟩ : ∃ z : Int32, z = 2 := ⟨_, rfl⟩
  have ek2 : k2.toInt = 2 := by rw [qk2]; rfl
  obtain ⟨k3, qk3⟩ : ∃ z : Int32, z = 3 := ⟨_, rfl⟩
  have ek3 : k3.toInt = 3 := by rw [qk3]; rfl
  obtain ⟨k4, qk4⟩ : ∃ z : Int32, z = 4 := ⟨_, rfl⟩
  have ek4 : k4.toInt = 4 := by rw [qk4]; rfl
  obtain ⟨k5, qk5⟩ : ∃ z : Int32, z = 5 := ⟨_, rfl⟩
  have ek5 : k5.toInt = 5 := by rw [qk5]; rfl
  obtain ⟨⟨hE, hWd, R9, W9, m9, ⟨b9, d9, hBD, hBC, hME, hKV⟩, hLN, hDN, hBE, hMM, hLO⟩, hCS, D9, S9, K9, hBW, hBY, hBR⟩ := id iv3
  obtain ⟨g, nn, hg1, hg2, hg3, hg4⟩ := oqE_gn hE
  refine L_aload_n C (j := 1) (oDec_at oLw_1 46 rfl) rfl rfl ?_
  refine L_callVi C oCl11 rfl miX11_line mlL_23 (ct11_X11_line l E (t)  g hg1 hLN hCS) (by decide) rfl rfl rfl (Nat.le_of_ble_eq_true rfl) (oDec_at oLw_1 47 rfl) (fun r2 u1 pu1 fu1 => ?_)
  try dsimp only at pu1
  obtain ⟨pu1_0, pu1_1, pu1_2, pu1_3, pu1_4, pu1_5⟩ := pu1
  clear pu1_1
  clear pu1_2
  clear pu1_3
  refine L_pc C 294 rfl ?_
  refine L_pop C (oDec_at oLw_1 48 rfl) rfl ?_
  refine L_aload_n C (j := 2) (oDec_at oLw_1 49 rfl) rfl rfl ?_
  have lk3 : ((u1).1 71 38).toInt = (t.1 71 38).toInt := congrArg Int32.toInt ((fu1 71 38 rfl).1)
  have lk4 : ((u1).1 71 42).toInt = (t.1 71 42).toInt := congrArg Int32.toInt ((fu1 71 42 rfl).1)
  have lk5 : ((u1).1 71 1).toInt = (t.1 71 1).toInt := congrArg Int32.toInt ((fu1 71 1 rfl).1)
  refine L_callVi C oCl12 rfl miX12_line mlL_27 (ct4_X12_line l E (u1)  g nn (oLT_fr fu1 rfl iv0) (by omega) (by omega) (oqY_fr fu1 rfl hg2) (oqWd_fr fu1 rfl hWd)) (by decide) rfl rfl rfl (Nat.le_of_ble_eq_true rfl) (oDec_at oLw_2 0 rfl) (fun r7 u6 pu6 fu6 => ?_)
  try dsimp only at pu6
  obtain ⟨pu6_0, pu6_1, pu6_2, pu6_3, pu6_4, pu6_5⟩ := pu6
  clear pu6_3
  clear pu6_4
  clear pu6_5
  refine L_pc C 299 rfl ?_
  refine L_pop C (oDec_at oLw_2 1 rfl) rfl ?_
  refine L_goto C (tgt := 1453) (oDec_at oLw_2 2 rfl) (by decide) ?_
  obtain ⟨v8, ev8⟩ : ∃ z : Int32, x3 + Int32.ofInt 6 = z := ⟨_, rfl⟩
  have hv8 : v8.toInt = x3.toInt + 6 := n_inc ev8 (by decide) (by omega) (by omega)
  refine L_iinc C (j := 3) (lv' := [(0, .ref b), (1, .ref (oad E 0)), (2, .ref (oad E 71)), (3, .int v8)]) v8 [1, 2, 3, 0] (oDec_at oLw_20 21 rfl) rfl ev8 (by decide) rfl ?_
  refine L_goto C (tgt := 18) (oDec_at oLw_20 22 rfl) (by decide) ?_
  have lk9 : ((u6).1 1 1).toInt = (u1.1 1 1).toInt := congrArg Int32.toInt ((fu6 1 1 rfl).1)
  exact hgo (u6) v8 pu6_0 (by omega) (oBI_fr fu6 rfl (oBI_fr fu1 rfl iv2)) ⟨⟨(oqE_0 (by omega) (by omega)), (oqWd_fr fu6 rfl (oqWd_fr fu1 rfl hWd)), _, _, _, (owBX_fr fu6 rfl (owBX_fr fu1 rfl ⟨b9, d9, hBD, hBC, hME, hKV⟩)), (owLN_fr fu6 rfl pu1_4), (owDN_fr fu6 rfl (owDN_fr fu1 rfl hDN)), (owBE_fr fu6 rfl (owBE_fr fu1 rfl hBE)), (owMM_fr fu6 rfl (owMM_fr fu1 rfl hMM)), (owLO_fr fu6 rfl (owLO_fr fu1 rfl hLO))⟩, (owCZ_fr fu6 rfl pu1_5), _, _, _, (owBW_fr fu6 rfl (owBW_fr fu1 rfl hBW)), (owBY_fr fu6 rfl (owBY_fr fu1 rfl hBY)), hBR⟩ (by omega)
set_option maxHeartbeats 8000000 in
set_option maxRecDepth 100000 in
theorem lw_c3 {l : Launch} {b L kc sl : Nat} {xs : Nat → Int32} {E : oE} {J : oS → Nat → List (Nat × Value) → List Value → Prop} (C : oLC l b L xs E kc sl J) (hL : L ≤ 3072) {t : oS} {x3 : Int32} (iv0 : oLT t) (iv1 : 1 ≤ (t.1 71 38).toInt → 1 ≤ (t.1 71 42).toInt) (iv2 : oBI t) (iv3 : oqET t) (hx3 : 0 ≤ x3.toInt ∧ x3.toInt + 6 ≤ (L : Int)) (hgo : ∀ (t2 : oS) (y3 : Int32), oLT t2 → (1 ≤ (t2.1 71 38).toInt → 1 ≤ (t2.1 71 42).toInt) → oBI t2 → (oqET t2) → y3.toInt = x3.toInt + 6 → J t2 18 [(0, .ref b), (1, .ref (oad E 0)), (2, .ref (oad E 71)), (3, .int y3)] []) : J t 303 [(0, .ref b), (1, .ref (oad E 0)), (2, .ref (oad E 71)), (3, .int x3)] [] := by
  obtain ⟨k0, qk0⟩ : ∃ z : Int32, z = 0 := ⟨_, rfl⟩
  have ek0 : k0.toInt = 0 := by rw [qk0]; rfl
  obtain ⟨k1, qk1⟩ : ∃ z : Int32, z = 1 := ⟨_, rfl⟩
  have ek1 : k1.toInt = 1 := by rw [qk1]; rfl
  obtain ⟨k2, qk2⟩ : ∃ z : Int32, z = 2 := ⟨_, rfl⟩
  have ek2 : k2.toInt = 2 := by rw [qk2]; rfl
  obtain ⟨k3, qk3⟩ : ∃ z : Int32, z = 3 := ⟨_, rfl⟩
  have ek3 : k3.toInt = 3 := by rw [qk3]; rfl
  obtain ⟨k4, qk4⟩ : ∃ z : Int32, z = 4 := ⟨_, rfl⟩
  have ek4 : k4.toInt = 4 := by rw [qk4]; rfl
  obtain ⟨k5, qk5⟩ : ∃ z : Int32, z = 5 := ⟨_, rfl⟩
  have ek5 : k5.toInt = 5 := by rw [qk5]; rfl
  obtain ⟨⟨hE, hWd, R9, W9, m9, ⟨b9, d9, hBD, hBC, hME, hKV⟩, hLN, hDN, hBE, hMM, hLO⟩, hCS, D9, S9, K9, hBW, hBY, hBR⟩ := id iv3
  obtain ⟨g, nn, hg1, hg2, hg3, hg4⟩ := oqE_gn hE
  refine L_aload_n C (j := 1) (oDec_at oLw_2 3 rfl) rfl rfl ?_
  refine L_callVi C oCl11 rfl miX11_book mlL_28 (ct9_X11_book l E (t)  g R9 W9 m9 hg1 ⟨b9, d9, hBD, hBC, hME, hKV⟩) (by decide) rfl rfl rfl (Nat.le_of_ble_eq_true rfl) (oDec_at oLw_2 4 rfl) (fun r2 u1 pu1 fu1 => ?_)
  try dsimp only at pu1
  obtain ⟨pu1_0, pu1_1, pu1_2, pu1_3, pu1_4⟩ := pu1
  clear pu1_1
  clear pu1_2
  clear pu1_3
  refine L_pc C 307 rfl ?_
  refine L_pop C (oDec_at oLw_2 5 rfl) rfl ?_
  refine L_aload_n C (j := 2) (oDec_at oLw_2 6 rfl) rfl rfl ?_
  have lk3 : ((u1).1 71 1).toInt = (t.1 71 1).toInt := congrArg Int32.toInt ((fu1 71 1 rfl).1)
  refine L_callVi C oCl12 rfl miX12_book mlL_31 (ct9_X12_book l E (u1)  g nn R9 W9 m9 (oBI_fr fu1 rfl iv2) (by omega) (oqY_fr fu1 rfl hg2) (oqWd_fr fu1 rfl hWd) (owBE_fr fu1 rfl hBE) (owMM_fr fu1 rfl hMM)) (by decide) rfl rfl rfl (Nat.le_of_ble_eq_true rfl) (oDec_at oLw_2 7 rfl) (fun r5 u4 pu4 fu4 => ?_)
  try dsimp only at pu4
  obtain ⟨pu4_0, pu4_1, pu4_2, pu4_3, pu4_4, pu4_5, pu4_6⟩ := pu4
  clear pu4_2
  clear pu4_3
  clear pu4_4
  refine L_pc C 312 rfl ?_
  refine L_pop C (oDec_at oLw_2 8 rfl) rfl ?_
  refine L_goto C (tgt := 1453) (oDec_at oLw_2 9 rfl) (by decide) ?_
  obtain ⟨v6, ev6⟩ : ∃ z : Int32, x3 + Int32.ofInt 6 = z := ⟨_, rfl⟩
  have hv6 : v6.toInt = x3.toInt + 6 := n_inc ev6 (by decide) (by omega) (by omega)
  refine L_iinc C (j := 3) (lv' := [(0, .ref b), (1, .ref (oad E 0)), (2, .ref (oad E 71)), (3, .int v6)]) v6 [1, 2, 3, 0] (oDec_at oLw_20 21 rfl) rfl ev6 (by decide) rfl ?_
  refine L_goto C (tgt := 18) (oDec_at oLw_20 22 rfl) (by decide) ?_
  have lk7 : ((u4).1 71 38).toInt = (t.1 71 38).toInt := congrArg Int32.toInt (((fu4 71 38 rfl).1).trans ((fu1 71 38 rfl).1))
  have lk8 : ((u4).1 71 42).toInt = (t.1 71 42).toInt := congrArg Int32.toInt (((fu4 71 42 rfl).1).trans ((fu1 71 42 rfl).1))
  have lk9 : ((u4).1 1 1).toInt = (u1.1 1 1).toInt := congrArg Int32.toInt ((fu4 1 1 rfl).1)
  exact hgo (u4) v6 (oLT_fr fu4 rfl (oLT_fr fu1 rfl iv0)) (by omega) pu4_0 ⟨⟨(oqE_0 (by omega) (by omega)), (oqWd_fr fu4 rfl (oqWd_fr fu1 rfl hWd)), _, _, _, (owBX_fr fu4 rfl pu1_4), (owLN_fr fu4 rfl (owLN_fr fu1 rfl hLN)), (owDN_fr fu4 rfl (owDN_fr fu1 rfl hDN)), pu4_5, pu4_6, (owLO_fr fu4 rfl (owLO_fr fu1 rfl hLO))⟩, (owCZ_fr fu4 rfl (owCZ_fr fu1 rfl hCS)), _, _, _, (owBW_fr fu4 rfl (owBW_fr fu1 rfl hBW)), (owBY_fr fu4 rfl (owBY_fr fu1 rfl hBY)), hBR⟩ (by omega)
set_option maxHeartbeats 8000000 in
set_option maxRecDepth 100000 in
theorem lw_c4 {l : Launch} {b L kc sl : Nat} {xs : Nat → Int32} {E : oE} {J : oS → Nat → List (Nat × Value) → List Value → Prop} (C : oLC l b L xs E kc sl J) (hL : L ≤ 3072) {t : oS} {x3 : Int32} (iv0 : oLT t) (iv1 : 1 ≤ (t.1 71 38).toInt → 1 ≤ (t.1 71 42).toInt) (iv2 : oBI t) (iv3 : oqET t) (hx3 : 0 ≤ x3.toInt ∧ x3.toInt + 6 ≤ (L : Int)) (hgo : ∀ (t2 : oS) (y3 : Int32), oLT t2 → (1 ≤ (t2.1 71 38).toInt → 1 ≤ (t2.1 71 42).toInt) → oBI t2 → (oqET t2) → y3.toInt = x3.toInt + 6 → J t2 18 [(0, .ref b), (1, .ref (oad E 0)), (2, .ref (oad E 71)), (3, .int y3)] []) : J t 316 [(0, .ref b), (1, .ref (oad E 0)), (2, .ref (oad E 71)), (3, .int x3)] [] := by
  obtain ⟨k0, qk0⟩ : ∃ z : Int32, z = 0 := ⟨_, rfl⟩
  have ek0 : k0.toInt = 0 := by rw [qk0]; rfl
  obtain ⟨k1, qk1⟩ : ∃ z : Int32, z = 1 := ⟨_, rfl⟩
  have ek1 : k1.toInt = 1 := by rw [qk1]; rfl
  obtain ⟨k2, qk2⟩ : ∃ z : Int32, z = 2 := ⟨_, rfl⟩
  have ek2 : k2.toInt = 2 := by rw [qk2]; rfl
  obtain ⟨k3, qk3⟩ : ∃ z : Int32, z = 3 := ⟨_, rfl⟩
  have ek3 : k3.toInt = 3 := by rw [qk3]; rfl
  obtain ⟨k4, qk4⟩ : ∃ z : Int32, z = 4 := ⟨_, rfl⟩
  have ek4 : k4.toInt = 4 := by rw [qk4]; rfl
  obtain ⟨k5, qk5⟩ : ∃ z : Int32, z = 5 := ⟨_, rfl⟩
  have ek5 : k5.toInt = 5 := by rw [qk5]; rfl
  obtain ⟨⟨hE, hWd, R9, W9, m9, ⟨b9, d9, hBD, hBC, hME, hKV⟩, hLN, hDN, hBE, hMM, hLO⟩, hCS, D9, S9, K9, hBW, hBY, hBR⟩ := id iv3
  refine L_aload_n C (j := 1) (oDec_at oLw_2 10 rfl) rfl rfl ?_
  refine L_aload_n C (j := 0) (oDec_at oLw_2 11 rfl) rfl rfl ?_
  refine L_iload_n C (j := 3) (oDec_at oLw_2 12 rfl) rfl rfl ?_
  refine L_iconst C (oDec_at oLw_2 13 rfl) (v := k1) (by rw [qk1]; rfl) ?_
  obtain ⟨v1, ev1⟩ : ∃ z : Int32, z = x3 + k1 := ⟨_, rfl⟩
  have hv1 : v1.toInt = x3.toInt + k1.toInt := n_add ev1 (by omega) (by omega)
  refine L_iadd C v1 (oDec_at oLw_2 14 rfl) ev1 ?_
  refine L_sld C ⟨by omega, by omega⟩ (oDec_at oLw_2 15 rfl) ?_
  obtain ⟨v2, ev2⟩ : ∃ z : Int32, xs v1.toNatClampNeg = z := ⟨_, rfl⟩
  rw [ev2]
  have rv2 := n_rng v2
  refine L_callVi C oCl11 rfl miX11_fault mlL_32 (ct_X11_fault l E (t) v2 ) (by decide) rfl rfl rfl (Nat.le_of_ble_eq_true rfl) (oDec_at oLw_2 16 rfl) (fun r4 u3 pu3 fu3 => ?_)
  try dsimp only at pu3
  have hxu3 := oFr_nil fu3; subst hxu3
  refine L_pc C 325 rfl ?_
  refine L_pop C (oDec_at oLw_2 17 rfl) rfl ?_
  refine L_aload_n C (j := 2) (oDec_at oLw_2 18 rfl) rfl rfl ?_
  refine L_aload_n C (j := 0) (oDec_at oLw_2 19 rfl) rfl rfl ?_
  refine L_iload_n C (j := 3) (oDec_at oLw_2 20 rfl) rfl rfl ?_
  refine L_iconst C (oDec_at oLw_2 21 rfl) (v := k1) (by rw [qk1]; rfl) ?_
  obtain ⟨v5, ev5⟩ : ∃ z : Int32, z = x3 + k1 := ⟨_, rfl⟩
  have hv5 : v5.toInt = x3.toInt + k1.toInt := n_add ev5 (by omega) (by omega)
  refine L_iadd C v5 (oDec_at oLw_2 22 rfl) ev5 ?_
  refine L_sld C ⟨by omega, by omega⟩ (oDec_at oLw_2 23 rfl) ?_
  rw [show xs v5.toNatClampNeg = v2 from by rw [show v5.toNatClampNeg = v1.toNatClampNeg by have q1 := n_nat v5; have q2 := n_nat v1; omega]; exact ev2]
  refine L_callVi C oCl12 rfl miX12_fault mlL_36 (ct_X12_fault l E (t) v2 ) (by decide) rfl rfl rfl (Nat.le_of_ble_eq_true rfl) (oDec_at oLw_2 24 rfl) (fun r8 u7 pu7 fu7 => ?_)
  try dsimp only at pu7
  have hxu7 := oFr_nil fu7; subst hxu7
  refine L_pc C 335 rfl ?_
  refine L_pop C (oDec_at oLw_2 25 rfl) rfl ?_
  refine L_goto C (tgt := 1453) (oDec_at oLw_2 26 rfl) (by decide) ?_
  obtain ⟨v9, ev9⟩ : ∃ z : Int32, x3 + Int32.ofInt 6 = z := ⟨_, rfl⟩
  have hv9 : v9.toInt = x3.toInt + 6 := n_inc ev9 (by decide) (by omega) (by omega)
  refine L_iinc C (j := 3) (lv' := [(0, .ref b), (1, .ref (oad E 0)), (2, .ref (oad E 71)), (3, .int v9)]) v9 [1, 2, 3, 0] (oDec_at oLw_20 21 rfl) rfl ev9 (by decide) rfl ?_
  refine L_goto C (tgt := 18) (oDec_at oLw_20 22 rfl) (by decide) ?_
  exact hgo (t) v9 iv0 (by omega) iv2 iv3 (by omega)
set_option maxHeartbeats 8000000 in
set_option maxRecDepth 100000 in
theorem lw_c5 {l : Launch} {b L kc sl : Nat} {xs : Nat → Int32} {E : oE} {J : oS → Nat → List (Nat × Value) → List Value → Prop} (C : oLC l b L xs E kc sl J) (hL : L ≤ 3072) {t : oS} {x3 : Int32} (iv0 : oLT t) (iv1 : 1 ≤ (t.1 71 38).toInt → 1 ≤ (t.1 71 42).toInt) (iv2 : oBI t) (iv3 : oqET t) (hx3 : 0 ≤ x3.toInt ∧ x3.toInt + 6 ≤ (L : Int)) (hgo : ∀ (t2 : oS) (y3 : Int32), oLT t2 → (1 ≤ (t2.1 71 38).toInt → 1 ≤ (t2.1 71 42).toInt) → oBI t2 → (oqET t2) → y3.toInt = x3.toInt + 6 → J t2 18 [(0, .ref b), (1, .ref (oad E 0)), (2, .ref (oad E 71)), (3, .int y3)] []) : J t 339 [(0, .ref b), (1, .ref (oad E 0)), (2, .ref (oad E 71)), (3, .int x3)] [] := by
  obtain ⟨k0, qk0⟩ : ∃ z : Int32, z = 0 := ⟨_, rfl⟩
  have ek0 : k0.toInt = 0 := by rw [qk0]; rfl
  obtain ⟨k1, qk1⟩ : ∃ z : Int32, z = 1 := ⟨_, rfl⟩
  have ek1 : k1.toInt = 1 := by rw [qk1]; rfl
  obtain ⟨k2, qk2⟩ : ∃ z : Int32, z = 2 := ⟨_, rfl⟩
  have ek2 : k2.toInt = 2 := by rw [qk2]; rfl
  obtain ⟨k3, qk3⟩ : ∃ z : Int32, z = 3 := ⟨_, rfl⟩
  have ek3 : k3.toInt = 3 := by rw [qk3]; rfl
  obtain ⟨k4, qk4⟩ : ∃ z : Int32, z = 4 := ⟨_, rfl⟩
  have ek4 : k4.toInt = 4 := by rw [qk4]; rfl
  obtain ⟨k5, qk5⟩ : ∃ z : Int32, z = 5 := ⟨_, rfl⟩
  have ek5 : k5.toInt = 5 := by rw [qk5]; rfl
  obtain ⟨⟨hE, hWd, R9, W9, m9, ⟨b9, d9, hBD, hBC, hME, hKV⟩, hLN, hDN, hBE, hMM, hLO⟩, hCS, D9, S9, K9, hBW, hBY, hBR⟩ := id iv3
  refine L_aload_n C (j := 1) (oDec_at oLw_2 27 rfl) rfl rfl ?_
  refine L_aload_n C (j := 0) (oDec_at oLw_2 28 rfl) rfl rfl ?_
  refine L_iload_n C (j := 3) (oDec_at oLw_2 29 rfl) rfl rfl ?_
  refine L_iconst C (oDec_at oLw_2 30 rfl) (v := k1) (by rw [qk1]; rfl) ?_
  obtain ⟨v1, ev1⟩ : ∃ z : Int32, z = x3 + k1 := ⟨_, rfl⟩
  have hv1 : v1.toInt = x3.toInt + k1.toInt := n_add ev1 (by omega) (by omega)
  refine L_iadd C v1 (oDec_at oLw_2 31 rfl) ev1 ?_
  refine L_sld C ⟨by omega, by omega⟩ (oDec_at oLw_2 32 rfl) ?_
  obtain ⟨v2, ev2⟩ : ∃ z : Int32, xs v1.toNatClampNeg = z := ⟨_, rfl⟩
  rw [ev2]
  have rv2 := n_rng v2
  refine L_callVi C oCl11 rfl miX11_has mlL_37 (ct_X11_has l E (t) v2 ) (by decide) rfl rfl rfl (Nat.le_of_ble_eq_true rfl) (oDec_at oLw_2 33 rfl) (fun r4 u3 pu3 fu3 => ?_)
  try dsimp only at pu3
  have hxu3 := oFr_nil fu3; subst hxu3
  refine L_pc C 348 rfl ?_
  refine L_pop C (oDec_at oLw_2 34 rfl) rfl ?_
  refine L_aload_n C (j := 2) (oDec_at oLw_2 35 rfl) rfl rfl ?_
  refine L_aload_n C (j := 0) (oDec_at oLw_2 36 rfl) rfl rfl ?_
  refine L_iload_n C (j := 3) (oDec_at oLw_2 37 rfl) rfl rfl ?_
  refine L_iconst C (oDec_at oLw_2 38 rfl) (v := k1) (by rw [qk1]; rfl) ?_
  obtain ⟨v5, ev5⟩ : ∃ z : Int32, z = x3 + k1 := ⟨_, rfl⟩
  have hv5 : v5.toInt = x3.toInt + k1.toInt := n_add ev5 (by omega) (by omega)
  refine L_iadd C v5 (oDec_at oLw_2 39 rfl) ev5 ?_
  refine L_sld C ⟨by omega, by omega⟩ (oDec_at oLw_2 40 rfl) ?_
  rw [show xs v5.toNatClampNeg = v2 from by rw [show v5.toNatClampNeg = v1.toNatClampNeg by have q1 := n_nat v5; have q2 := n_nat v1; omega]; exact ev2]
  refine L_callVi C oCl12 rfl miX12_has mlL_40 (ct_X12_has l E (t) v2 ) (by decide) rfl rfl rfl (Nat.le_of_ble_eq_true rfl) (oDec_at oLw_2 41 rfl) (fun r8 u7 pu7 fu7 => ?_)
  try dsimp only at pu7
  have hxu7 := oFr_nil fu7; subst hxu7
  refine L_pc C 358 rfl ?_
  refine L_pop C (oDec_at oLw_2 42 rfl) rfl ?_
  refine L_goto C (tgt := 1453) (oDec_at oLw_2 43 rfl) (by decide) ?_
  obtain ⟨v9, ev9⟩ : ∃ z : Int32, x3 + Int32.ofInt 6 = z := ⟨_, rfl⟩
  have hv9 : v9.toInt = x3.toInt + 6 := n_inc ev9 (by decide) (by omega) (by omega)
  refine L_iinc C (j := 3) (lv' := [(0, .ref b), (1, .ref (oad E 0)), (2, .ref (oad E 71)), (3, .int v9)]) v9 [1, 2, 3, 0] (oDec_at oLw_20 21 rfl) rfl ev9 (by decide) rfl ?_
  refine L_goto C (tgt := 18) (oDec_at oLw_20 22 rfl) (by decide) ?_
  exact hgo (t) v9 iv0 (by omega) iv2 iv3 (by omega)
set_option maxHeartbeats 8000000 in
set_option maxRecDepth 100000 in
theorem lw_c6 {l : Launch} {b L kc sl : Nat} {xs : Nat → Int32} {E : oE} {J : oS → Nat → List (Nat × Value) → List Value → Prop} (C : oLC l b L xs E kc sl J) (hL : L ≤ 3072) {t : oS} {x3 : Int32} (iv0 : oLT t) (iv1 : 1 ≤ (t.1 71 38).toInt → 1 ≤ (t.1 71 42).toInt) (iv2 : oBI t) (iv3 : oqET t) (hx3 : 0 ≤ x3.toInt ∧ x3.toInt + 6 ≤ (L : Int)) (hgo : ∀ (t2 : oS) (y3 : Int32), oLT t2 → (1 ≤ (t2.1 71 38).toInt → 1 ≤ (t2.1 71 42).toInt) → oBI t2 → (oqET t2) → y3.toInt = x3.toInt + 6 → J t2 18 [(0, .ref b), (1, .ref (oad E 0)), (2, .ref (oad E 71)), (3, .int y3)] []) : J t 362 [(0, .ref b), (1, .ref (oad E 0)), (2, .ref (oad E 71)), (3, .int x3)] [] := by
  obtain ⟨k0, qk0⟩ : ∃ z : Int32, z = 0 := ⟨_, rfl⟩
  have ek0 : k0.toInt = 0 := by rw [qk0]; rfl
  obtain ⟨k1, qk1⟩ : ∃ z : Int32, z = 1 := ⟨_, rfl⟩
  have ek1 : k1.toInt = 1 := by rw [qk1]; rfl
  obtain ⟨k2, qk2⟩ : ∃ z : Int32, z = 2 := ⟨_, rfl⟩
  have ek2 : k2.toInt = 2 := by rw [qk2]; rfl
  obtain ⟨k3, qk3⟩ : ∃ z : Int32, z = 3 := ⟨_, rfl⟩
  have ek3 : k3.toInt = 3 := by rw [qk3]; rfl
  obtain ⟨k4, qk4⟩ : ∃ z : Int32, z = 4 := ⟨_, rfl⟩
  have ek4 : k4.toInt = 4 := by rw [qk4]; rfl
  obtain ⟨k5, qk5⟩ : ∃ z : Int32, z = 5 := ⟨_, rfl⟩
  have ek5 : k5.toInt = 5 := by rw [qk5]; rfl
  obtain ⟨⟨hE, hWd, R9, W9, m9, ⟨b9, d9, hBD, hBC, hME, hKV⟩, hLN, hDN, hBE, hMM, hLO⟩, hCS, D9, S9, K9, hBW, hBY, hBR⟩ := id iv3
  refine L_aload_n C (j := 1) (oDec_at oLw_2 44 rfl) rfl rfl ?_
  refine L_aload_n C (j := 0) (oDec_at oLw_2 45 rfl) rfl rfl ?_
  refine L_iload_n C (j := 3) (oDec_at oLw_2 46 rfl) rfl rfl ?_
  refine L_iconst C (oDec_at oLw_2 47 rfl) (v := k1) (by rw [qk1]; rfl) ?_
  obtain ⟨v1, ev1⟩ : ∃ z : Int32, z = x3 + k1 := ⟨_, rfl⟩
  have hv1 : v1.toInt = x3.toInt + k1.toInt := n_add ev1 (by omega) (by omega)
  refine L_iadd C v1 (oDec_at oLw_2 48 rfl) ev1 ?_
  refine L_sld C ⟨by omega, by omega⟩ (oDec_at oLw_2 49 rfl) ?_
  obtain ⟨v2, ev2⟩ : ∃ z : Int32, xs v1.toNatClampNeg = z := ⟨_, rfl⟩
  rw [ev2]
  have rv2 := n_rng v2
  refine L_aload_n C (j := 0) (oDec_at oLw_3 0 rfl) rfl rfl ?_
  refine L_iload_n C (j := 3) (oDec_at oLw_3 1 rfl) rfl rfl ?_
  refine L_iconst C (oDec_at oLw_3 2 rfl) (v := k2) (by rw [qk2]; rfl) ?_
  obtain ⟨v3, ev3⟩ : ∃ z : Int32, z = x3 + k2 := ⟨_, rfl⟩
  have hv3 : v3.toInt = x3.toInt + k2.toInt := n_add ev3 (by omega) (by omega)
  refine L_iadd C v3 (oDec_at oLw_3 3 rfl) ev3 ?_
  refine L_sld C ⟨by omega, by omega⟩ (oDec_at oLw_3 4 rfl) ?_
  obtain ⟨v4, ev4⟩ : ∃ z : Int32, xs v3.toNatClampNeg = z := ⟨_, rfl⟩
  rw [ev4]
  have rv4 := n_rng v4
  refine L_callVi C oCl11 rfl miX11_letter mlL_41 (ct_X11_letter l E (t) v2 v4 ) (by decide) rfl rfl rfl (Nat.le_of_ble_eq_true rfl) (oDec_at oLw_3 5 rfl) (fun r6 u5 pu5 fu5 => ?_)
  try dsimp only at pu5
  have hxu5 := oFr_nil fu5; subst hxu5
  refine L_pc C 376 rfl ?_
  refine L_pop C (oDec_at oLw_3 6 rfl) rfl ?_
  refine L_aload_n C (j := 2) (oDec_at oLw_3 7 rfl) rfl rfl ?_
  refine L_aload_n C (j := 0) (oDec_at oLw_3 8 rfl) rfl rfl ?_
  refine L_iload_n C (j := 3) (oDec_at oLw_3 9 rfl) rfl rfl ?_
  refine L_iconst C (oDec_at oLw_3 10 rfl) (v := k1) (by rw [qk1]; rfl) ?_
  obtain ⟨v7, ev7⟩ : ∃ z : Int32, z = x3 + k1 := ⟨_, rfl⟩
  have hv7 : v7.toInt = x3.toInt + k1.toInt := n_add ev7 (by omega) (by omega)
  refine L_iadd C v7 (oDec_at oLw_3 11 rfl) ev7 ?_
  refine L_sld C ⟨by omega, by omega⟩ (oDec_at oLw_3 12 rfl) ?_
  rw [show xs v7.toNatClampNeg = v2 from by rw [show v7.toNatClampNeg = v1.toNatClampNeg by have q1 := n_nat v7; have q2 := n_nat v1; omega]; exact ev2]
  refine L_aload_n C (j := 0) (oDec_at oLw_3 13 rfl) rfl rfl ?_
  refine L_iload_n C (j := 3) (oDec_at oLw_3 14 rfl) rfl rfl ?_
  refine L_iconst C (oDec_at oLw_3 15 rfl) (v := k2) (by rw [qk2]; rfl) ?_
  obtain ⟨v9, ev9⟩ : ∃ z : Int32, z = x3 + k2 := ⟨_, rfl⟩
  have hv9 : v9.toInt = x3.toInt + k2.toInt := n_add ev9 (by omega) (by omega)
  refine L_iadd C v9 (oDec_at oLw_3 16 rfl) ev9 ?_
  refine L_sld C ⟨by omega, by omega⟩ (oDec_at oLw_3 17 rfl) ?_
  rw [show xs v9.toNatClampNeg = v4 from by rw [show v9.toNatClampNeg = v3.toNatClampNeg by have q1 := n_nat v9; have q2 := n_nat v3; omega]; exact ev4]
  refine L_callVi C oCl12 rfl miX12_letter mlL_45 (ct_X12_letter l E (t) v2 v4 ) (by decide) rfl rfl rfl (Nat.le_of_ble_eq_true rfl) (oDec_at oLw_3 18 rfl) (fun r12 u11 pu11 fu11 => ?_)
  try dsimp only at pu11
  have hxu11 := oFr_nil fu11; subst hxu11
  refine L_pc C 391 rfl ?_
  refine L_pop C (oDec_at oLw_3 19 rfl) rfl ?_
  refine L_goto C (tgt := 1453) (oDec_at oLw_3 20 rfl) (by decide) ?_
  obtain ⟨v13, ev13⟩ : ∃ z : Int32, x3 + Int32.ofInt 6 = z := ⟨_, rfl⟩
  have hv13 : v13.toInt = x3.toInt + 6 := n_inc ev13 (by decide) (by omega) (by omega)
  refine L_iinc C (j := 3) (lv' := [(0, .ref b), (1, .ref (oad E 0)), (2, .ref (oad E 71)), (3, .int v13)]) v13 [1, 2, 3, 0] (oDec_at oLw_20 21 rfl) rfl ev13 (by decide) rfl ?_
  refine L_goto C (tgt := 18) (oDec_at oLw_20 22 rfl) (by decide) ?_
  exact hgo (t) v13 iv0 (by omega) iv2 iv3 (by omega)
set_option maxHeartbeats 8000000 in
set_option maxRecDepth 100000 in
theorem lw_c7 {l : Launch} {b L kc sl : Nat} {xs : Nat → Int32} {E : oE} {J : oS → Nat → List (Nat × Value) → List Value → Prop} (C : oLC l b L xs E kc sl J) (hL : L ≤ 3072) {t : oS} {x3 : Int32} (iv0 : oLT t) (iv1 : 1 ≤ (t.1 71 38).toInt → 1 ≤ (t.1 71 42).toInt) (iv2 : oBI t) (iv3 : oqET t) (hx3 : 0 ≤ x3.toInt ∧ x3.toInt + 6 ≤ (L : Int)) (hgo : ∀ (t2 : oS) (y3 : Int32), oLT t2 → (1 ≤ (t2.1 71 38).toInt → 1 ≤ (t2.1 71 42).toInt) → oBI t2 → (oqET t2) → y3.toInt = x3.toInt + 6 → J t2 18 [(0, .ref b), (1, .ref (oad E 0)), (2, .ref (oad E 71)), (3, .int y3)] []) : J t 395 [(0, .ref b), (1, .ref (oad E 0)), (2, .ref (oad E 71)), (3, .int x3)] [] := by
  obtain ⟨k0, qk0⟩ : ∃ z : Int32, z = 0 := ⟨_, rfl⟩
  have ek0 : k0.toInt = 0 := by rw [qk0]; rfl
  obtain ⟨k1, qk1⟩ : ∃ z : Int32, z = 1 := ⟨_, rfl⟩
  have ek1 : k1.toInt = 1 := by rw [qk1]; rfl
  obtain ⟨k2, qk2⟩ : ∃ z : Int32, z = 2 := ⟨_, rfl⟩
  have ek2 : k2.toInt = 2 := by rw [qk2]; rfl
  obtain ⟨k3, qk3⟩ : ∃ z : Int32, z = 3 := ⟨_, rfl⟩
  have ek3 : k3.toInt = 3 := by rw [qk3]; rfl
  obtain ⟨k4, qk4⟩ : ∃ z : Int32, z = 4 := ⟨_, rfl⟩
  have ek4 : k4.toInt = 4 := by rw [qk4]; rfl
  obtain ⟨k5, qk5⟩ : ∃ z : Int32, z = 5 := ⟨_, rfl⟩
  have ek5 : k5.toInt = 5 := by rw [qk5]; rfl
  obtain ⟨⟨hE, hWd, R9, W9, m9, ⟨b9, d9, hBD, hBC, hME, hKV⟩, hLN, hDN, hBE, hMM, hLO⟩, hCS, D9, S9, K9, hBW, hBY, hBR⟩ := id iv3
  refine L_aload_n C (j := 1) (oDec_at oLw_3 21 rfl) rfl rfl ?_
  refine L_aload_n C (j := 0) (oDec_at oLw_3 22 rfl) rfl rfl ?_
  refine L_iload_n C (j := 3) (oDec_at oLw_3 23 rfl) rfl rfl ?_
  refine L_iconst C (oDec_at oLw_3 24 rfl) (v := k1) (by rw [qk1]; rfl) ?_
  obtain ⟨v1, ev1⟩ : ∃ z : Int32, z = x3 + k1 := ⟨_, rfl⟩
  have hv1 : v1.toInt = x3.toInt + k1.toInt := n_add ev1 (by omega) (by omega)
  refine L_iadd C v1 (oDec_at oLw_3 25 rfl) ev1 ?_
  refine L_sld C ⟨by omega, by omega⟩ (oDec_at oLw_3 26 rfl) ?_
  obtain ⟨v2, ev2⟩ : ∃ z : Int32, xs v1.toNatClampNeg = z := ⟨_, rfl⟩
  rw [ev2]
  have rv2 := n_rng v2
  refine L_aload_n C (j := 0) (oDec_at oLw_3 27 rfl) rfl rfl ?_
  refine L_iload_n C (j := 3) (oDec_at oLw_3 28 rfl) rfl rfl ?_
  refine L_iconst C (oDec_at oLw_3 29 rfl) (v := k2) (by rw [qk2]; rfl) ?_
  obtain ⟨v3, ev3⟩ : ∃ z : Int32, z = x3 + k2 := ⟨_, rfl⟩
  have hv3 : v3.toInt = x3.toInt + k2.toInt := n_add ev3 (by omega) (by omega)
  refine L_iadd C v3 (oDec_at oLw_3 30 rfl) ev3 ?_
  refine L_sld C ⟨by omega, by omega⟩ (oDec_at oLw_3 31 rfl) ?_
  obtain ⟨v4, ev4⟩ : ∃ z : Int32, xs v3.toNatClampNeg = z := ⟨_, rfl⟩
  rw [ev4]
  have rv4 := n_rng v4
  refine L_callVi C oCl11 rfl miX11_note mlL_46 (ct_X11_note l E (t) v2 v4 ) (by decide) rfl rfl rfl (Nat.le_of_ble_eq_true rfl) (oDec_at oLw_3 32 rfl) (fun r6 u5 pu5 fu5 => ?_)
  try dsimp only at pu5
  have hxu5 := oFr_nil fu5; subst hxu5
  refine L_pc C 409 rfl ?_
  refine L_pop C (oDec_at oLw_3 33 rfl) rfl ?_
  refine L_aload_n C (j := 2) (oDec_at oLw_3 34 rfl) rfl rfl ?_
  refine L_aload_n C (j := 0) (oDec_at oLw_3 35 rfl) rfl rfl ?_
  refine L_iload_n C (j := 3) (oDec_at oLw_3 36 rfl) rfl rfl ?_
  refine L_iconst C (oDec_at oLw_3 37 rfl) (v := k1) (by rw [qk1]; rfl) ?_
  obtain ⟨v7, ev7⟩ : ∃ z : Int32, z = x3 + k1 := ⟨_, rfl⟩
  have hv7 : v7.toInt = x3.toInt + k1.toInt := n_add ev7 (by omega) (by omega)
  refine L_iadd C v7 (oDec_at oLw_3 38 rfl) ev7 ?_
  refine L_sld C ⟨by omega, by omega⟩ (oDec_at oLw_3 39 rfl) ?_
  rw [show xs v7.toNatClampNeg = v2 from by rw [show v7.toNatClampNeg = v1.toNatClampNeg by have q1 := n_nat v7; have q2 := n_nat v1; omega]; exact ev2]
  refine L_aload_n C (j := 0) (oDec_at oLw_3 40 rfl) rfl rfl ?_
  refine L_iload_n C (j := 3) (oDec_at oLw_3 41 rfl) rfl rfl ?_
  refine L_iconst C (oDec_at oLw_3 42 rfl) (v := k2) (by rw [qk2]; rfl) ?_
  obtain ⟨v9, ev9⟩ : ∃ z : Int32, z = x3 + k2 := ⟨_, rfl⟩
  have hv9 : v9.toInt = x3.toInt + k2.toInt := n_add ev9 (by omega) (by omega)
  refine L_iadd C v9 (oDec_at oLw_3 43 rfl) ev9 ?_
  refine L_sld C ⟨by omega, by omega⟩ (oDec_at oLw_3 44 rfl) ?_
  rw [show xs v9.toNatClampNeg = v4 from by rw [show v9.toNatClampNeg = v3.toNatClampNeg by have q1 := n_nat v9; have q2 := n_nat v3; omega]; exact ev4]
  refine L_callVi C oCl12 rfl miX12_note mlL_49 (ct_X12_note l E (t) v2 v4 ) (by decide) rfl rfl rfl (Nat.le_of_ble_eq_true rfl) (oDec_at oLw_3 45 rfl) (fun r12 u11 pu11 fu11 => ?_)
  try dsimp only at pu11
  have hxu11 := oFr_nil fu11; subst hxu11
  refine L_pc C 424 rfl ?_
  refine L_pop C (oDec_at oLw_3 46 rfl) rfl ?_
  refine L_goto C (tgt := 1453) (oDec_at oLw_3 47 rfl) (by decide) ?_
  obtain ⟨v13, ev13⟩ : ∃ z : Int32, x3 + Int32.ofInt 6 = z := ⟨_, rfl⟩
  have hv13 : v13.toInt = x3.toInt + 6 := n_inc ev13 (by decide) (by omega) (by omega)
  refine L_iinc C (j := 3) (lv' := [(0, .ref b), (1, .ref (oad E 0)), (2, .ref (oad E 71)), (3, .int v13)]) v13 [1, 2, 3, 0] (oDec_at oLw_20 21 rfl) rfl ev13 (by decide) rfl ?_
  refine L_goto C (tgt := 18) (oDec_at oLw_20 22 rfl) (by decide) ?_
  exact hgo (t) v13 iv0 (by omega) iv2 iv3 (by omega)
set_option maxHeartbeats 8000000 in
set_option maxRecDepth 100000 in
theorem lw_c8 {l : Launch} {b L kc sl : Nat} {xs : Nat → Int32} {E : oE} {J : oS → Nat → List (Nat × Value) → List Value → Prop} (C : oLC l b L xs E kc sl J) (hL : L ≤ 3072) {t : oS} {x3 : Int32} (iv0 : oLT t) (iv1 : 1 ≤ (t.1 71 38).toInt → 1 ≤ (t.1 71 42).toInt) (iv2 : oBI t) (iv3 : oqET t) (hx3 : 0 ≤ x3.toInt ∧ x3.toInt + 6 ≤ (L : Int)) (hgo : ∀ (t2 : oS) (y3 : Int32), oLT t2 → (1 ≤ (t2.1 71 38).toInt → 1 ≤ (t2.1 71 42).toInt) → oBI t2 → (oqET t2) → y3.toInt = x3.toInt + 6 → J t2 18 [(0, .ref b), (1, .ref (oad E 0)), (2, .ref (oad E 71)), (3, .int y3)] []) : J t 428 [(0, .ref b), (1, .ref (oad E 0)), (2, .ref (oad E 71)), (3, .int x3)] [] := by
  obtain ⟨k0, qk0⟩ : ∃ z : Int32, z = 0 := ⟨_, rfl⟩
  have ek0 : k0.toInt = 0 := by rw [qk0]; rfl
  obtain ⟨k1, qk1⟩ : ∃ z : Int32, z = 1 := ⟨_, rfl⟩
  have ek1 : k1.toInt = 1 := by rw [qk1]; rfl
  obtain ⟨k2, qk2⟩ : ∃ z : Int32, z = 2 := ⟨_, rfl⟩
  have ek2 : k2.toInt = 2 := by rw [qk2]; rfl
  obtain ⟨k3, qk3⟩ : ∃ z : Int32, z = 3 := ⟨_, rfl⟩
  have ek3 : k3.toInt = 3 := by rw [qk3]; rfl
  obtain ⟨k4, qk4⟩ : ∃ z : Int32, z = 4 := ⟨_, rfl⟩
  have ek4 : k4.toInt = 4 := by rw [qk4]; rfl
  obtain ⟨k5, qk5⟩ : ∃ z : Int32, z = 5 := ⟨_, rfl⟩
  have ek5 : k5.toInt = 5 := by rw [qk5]; rfl
  obtain ⟨⟨hE, hWd, R9, W9, m9, ⟨b9, d9, hBD, hBC, hME, hKV⟩, hLN, hDN, hBE, hMM, hLO⟩, hCS, D9, S9, K9, hBW, hBY, hBR⟩ := id iv3
  refine L_aload_n C (j := 1) (oDec_at oLw_3 48 rfl) rfl rfl ?_
  refine L_aload_n C (j := 0) (oDec_at oLw_3 49 rfl) rfl rfl ?_
  refine L_iload_n C (j := 3) (oDec_at oLw_4 0 rfl) rfl rfl ?_
  refine L_iconst C (oDec_at oLw_4 1 rfl) (v := k1) (by rw [qk1]; rfl) ?_
  obtain ⟨v1, ev1⟩ : ∃ z : Int32, z = x3 + k1 := ⟨_, rfl⟩
  have hv1 : v1.toInt = x3.toInt + k1.toInt := n_add ev1 (by omega) (by omega)
  refine L_iadd C v1 (oDec_at oLw_4 2 rfl) ev1 ?_
  refine L_sld C ⟨by omega, by omega⟩ (oDec_at oLw_4 3 rfl) ?_
  obtain ⟨v2, ev2⟩ : ∃ z : Int32, xs v1.toNatClampNeg = z := ⟨_, rfl⟩
  rw [ev2]
  have rv2 := n_rng v2
  refine L_aload_n C (j := 0) (oDec_at oLw_4 4 rfl) rfl rfl ?_
  refine L_iload_n C (j := 3) (oDec_at oLw_4 5 rfl) rfl rfl ?_
  refine L_iconst C (oDec_at oLw_4 6 rfl) (v := k2) (by rw [qk2]; rfl) ?_
  obtain ⟨v3, ev3⟩ : ∃ z : Int32, z = x3 + k2 := ⟨_, rfl⟩
  have hv3 : v3.toInt = x3.toInt + k2.toInt := n_add ev3 (by omega) (by omega)
  refine L_iadd C v3 (oDec_at oLw_4 7 rfl) ev3 ?_
  refine L_sld C ⟨by omega, by omega⟩ (oDec_at oLw_4 8 rfl) ?_
  obtain ⟨v4, ev4⟩ : ∃ z : Int32, xs v3.toNatClampNeg = z := ⟨_, rfl⟩
  rw [ev4]
  have rv4 := n_rng v4
  refine L_aload_n C (j := 0) (oDec_at oLw_4 9 rfl) rfl rfl ?_
  refine L_iload_n C (j := 3) (oDec_at oLw_4 10 rfl) rfl rfl ?_
  refine L_iconst C (oDec_at oLw_4 11 rfl) (v := k3) (by rw [qk3]; rfl) ?_
  obtain ⟨v5, ev5⟩ : ∃ z : Int32, z = x3 + k3 := ⟨_, rfl⟩
  have hv5 : v5.toInt = x3.toInt + k3.toInt := n_add ev5 (by omega) (by omega)
  refine L_iadd C v5 (oDec_at oLw_4 12 rfl) ev5 ?_
  refine L_sld C ⟨by omega, by omega⟩ (oDec_at oLw_4 13 rfl) ?_
  obtain ⟨v6, ev6⟩ : ∃ z : Int32, xs v5.toNatClampNeg = z := ⟨_, rfl⟩
  rw [ev6]
  have rv6 := n_rng v6
  refine L_callVi C oCl11 rfl miX11_bounds mlL_50 (ct9_X11_bounds l E (t) v2 v4 v6 D9 S9 K9 hBW) (by decide) rfl rfl rfl (Nat.le_of_ble_eq_true rfl) (oDec_at oLw_4 14 rfl) (fun r8 u7 pu7 fu7 => ?_)
  try dsimp only at pu7
  obtain ⟨pu7_0, pu7_1⟩ := pu7
  clear pu7_0
  refine L_pc C 447 rfl ?_
  refine L_pop C (oDec_at oLw_4 15 rfl) rfl ?_
  refine L_aload_n C (j := 2) (oDec_at oLw_4 16 rfl) rfl rfl ?_
  refine L_aload_n C (j := 0) (oDec_at oLw_4 17 rfl) rfl rfl ?_
  refine L_iload_n C (j := 3) (oDec_at oLw_4 18 rfl) rfl rfl ?_
  refine L_iconst C (oDec_at oLw_4 19 rfl) (v := k1) (by rw [qk1]; rfl) ?_
  obtain ⟨v9, ev9⟩ : ∃ z : Int32, z = x3 + k1 := ⟨_, rfl⟩
  have hv9 : v9.toInt = x3.toInt + k1.toInt := n_add ev9 (by omega) (by omega)
  refine L_iadd C v9 (oDec_at oLw_4 20 rfl) ev9 ?_
  refine L_sld C ⟨by omega, by omega⟩ (oDec_at oLw_4 21 rfl) ?_
  rw [show xs v9.toNatClampNeg = v2 from by rw [show v9.toNatClampNeg = v1.toNatClampNeg by have q1 := n_nat v9; have q2 := n_nat v1; omega]; exact ev2]
  refine L_aload_n C (j := 0) (oDec_at oLw_4 22 rfl) rfl rfl ?_
  refine L_iload_n C (j := 3) (oDec_at oLw_4 23 rfl) rfl rfl ?_
  refine L_iconst C (oDec_at oLw_4 24 rfl) (v := k2) (by rw [qk2]; rfl) ?_
  obtain ⟨v11, ev11⟩ : ∃ z : Int32, z = x3 + k2 := ⟨_, rfl⟩
  have hv11 : v11.toInt = x3.toInt + k2.toInt := n_add ev11 (by omega) (by omega)
  refine L_iadd C v11 (oDec_at oLw_4 25 rfl) ev11 ?_
  refine L_sld C ⟨by omega, by omega⟩ (oDec_at oLw_4 26 rfl) ?_
  rw [show xs v11.toNatClampNeg = v4 from by rw [show v11.toNatClampNeg = v3.toNatClampNeg by have q1 := n_nat v11; have q2 := n_nat v3; omega]; exact ev4]
  refine L_aload_n C (j := 0) (oDec_at oLw_4 27 rfl) rfl rfl ?_
  refine L_iload_n C (j := 3) (oDec_at oLw_4 28 rfl) rfl rfl ?_
  refine L_iconst C (oDec_at oLw_4 29 rfl) (v := k3) (by rw [qk3]; rfl) ?_
  obtain ⟨v13, ev13⟩ : ∃ z : Int32, z = x3 + k3 := ⟨_, rfl⟩
  have hv13 : v13.toInt = x3.toInt + k3.toInt := n_add ev13 (by omega) (by omega)
  refine L_iadd C v13 (oDec_at oLw_4 30 rfl) ev13 ?_
  refine L_sld C ⟨by omega, by omega⟩ (oDec_at oLw_4 31 rfl) ?_
  rw [show xs v13.toNatClampNeg = v6 from by rw [show v13.toNatClampNeg = v5.toNatClampNeg by have q1 := n_nat v13; have q2 := n_nat v5; omega]; exact ev6]
  refine L_callVi C oCl12 rfl miX12_bounds mlL_54 (ct9_X12_bounds l E (u7) v2 v4 v6 D9 S9 K9 (owBY_fr fu7 rfl hBY)) (by decide) rfl rfl rfl (Nat.le_of_ble_eq_true rfl) (oDec_at oLw_4 32 rfl) (fun r16 u15 pu15 fu15 => ?_)
  try dsimp only at pu15
  obtain ⟨pu15_0, pu15_1⟩ := pu15
  clear pu15_0
  refine L_pc C 467 rfl ?_
  refine L_pop C (oDec_at oLw_4 33 rfl) rfl ?_
  refine L_goto C (tgt := 1453) (oDec_at oLw_4 34 rfl) (by decide) ?_
  obtain ⟨v17, ev17⟩ : ∃ z : Int32, x3 + Int32.ofInt 6 = z := ⟨_, rfl⟩
  have hv17 : v17.toInt = x3.toInt + 6 := n_inc ev17 (by decide) (by omega) (by omega)
  refine L_iinc C (j := 3) (lv' := [(0, .ref b), (1, .ref (oad E 0)), (2, .ref (oad E 71)), (3, .int v17)]) v17 [1, 2, 3, 0] (oDec_at oLw_20 21 rfl) rfl ev17 (by decide) rfl ?_
  refine L_goto C (tgt := 18) (oDec_at oLw_20 22 rfl) (by decide) ?_
  have lk18 : ((u15).1 71 38).toInt = (t.1 71 38).toInt := congrArg Int32.toInt (((fu15 71 38 rfl).1).trans ((fu7 71 38 rfl).1))
  have lk19 : ((u15).1 71 42).toInt = (t.1 71 42).toInt := congrArg Int32.toInt (((fu15 71 42 rfl).1).trans ((fu7 71 42 rfl).1))
  have lk20 : ((u15).1 1 1).toInt = (t.1 1 1).toInt := congrArg Int32.toInt (((fu15 1 1 rfl).1).trans ((fu7 1 1 rfl).1))
  have lk21 : ((u15).1 71 1).toInt = (t.1 71 1).toInt := congrArg Int32.toInt (((fu15 71 1 rfl).1).trans ((fu7 71 1 rfl).1))
  exact hgo (u15) v17 (oLT_fr fu15 rfl (oLT_fr fu7 rfl iv0)) (by omega) (oBI_fr fu15 rfl (oBI_fr fu7 rfl iv2)) ⟨⟨(oqE_fr fu15 rfl (oqE_fr fu7 rfl hE)), (oqWd_fr fu15 rfl (oqWd_fr fu7 rfl hWd)), _, _, _, (owBX_fr fu15 rfl (owBX_fr fu7 rfl ⟨b9, d9, hBD, hBC, hME, hKV⟩)), (owLN_fr fu15 rfl (owLN_fr fu7 rfl hLN)), (owDN_fr fu15 rfl (owDN_fr fu7 rfl hDN)), (owBE_fr fu15 rfl (owBE_fr fu7 rfl hBE)), (owMM_fr fu15 rfl (owMM_fr fu7 rfl hMM)), (owLO_fr fu15 rfl (owLO_fr fu7 rfl hLO))⟩, (owCZ_fr fu15 rfl (owCZ_fr fu7 rfl hCS)), _, _, _, owBW_fr fu15 rfl pu7_1, pu15_1, owBb_rg hBR⟩ (by omega)
set_option maxHeartbeats 8000000 in
set_option maxRecDepth 100000 in
theorem lw_c9 {l : Launch} {b L kc sl : Nat} {xs : Nat → Int32} {E : oE} {J : oS → Nat → List (Nat × Value) → List Value → Prop} (C : oLC l b L xs E kc sl J) (hL : L ≤ 3072) {t : oS} {x3 : Int32} (iv0 : oLT t) (iv1 : 1 ≤ (t.1 71 38).toInt → 1 ≤ (t.1 71 42).toInt) (iv2 : oBI t) (iv3 : oqET t) (hx3 : 0 ≤ x3.toInt ∧ x3.toInt + 6 ≤ (L : Int)) (hgo : ∀ (t2 : oS) (y3 : Int32), oLT t2 → (1 ≤ (t2.1 71 38).toInt → 1 ≤ (t2.1 71 42).toInt) → oBI t2 → (oqET t2) → y3.toInt = x3.toInt + 6 → J t2 18 [(0, .ref b), (1, .ref (oad E 0)), (2, .ref (oad E 71)), (3, .int y3)] []) : J t 471 [(0, .ref b), (1, .ref (oad E 0)), (2, .ref (oad E 71)), (3, .int x3)] [] := by
  obtain ⟨k0, qk0⟩ : ∃ z : Int32, z = 0 := ⟨_, rfl⟩
  have ek0 : k0.toInt = 0 := by rw [qk0]; rfl
  obtain ⟨k1, qk1⟩ : ∃ z : Int32, z = 1 := ⟨_, rfl⟩
  have ek1 : k1.toInt = 1 := by rw [qk1]; rfl
  obtain ⟨k2, qk2⟩ : ∃ z : Int32, z = 2 := ⟨_, rfl⟩
  have ek2 : k2.toInt = 2 := by rw [qk2]; rfl
  obtain ⟨k3, qk3⟩ : ∃ z : Int32, z = 3 := ⟨_, rfl⟩
  have ek3 : k3.toInt = 3 := by rw [qk3]; rfl
  obtain ⟨k4, qk4⟩ : ∃ z : Int32, z = 4 := ⟨_, rfl⟩
  have ek4 : k4.toInt = 4 := by rw [qk4]; rfl
  obtain ⟨k5, qk5⟩ : ∃ z : Int32, z = 5 := ⟨_, rfl⟩
  have ek5 : k5.toInt = 5 := by rw [qk5]; rfl
  obtain ⟨⟨hE, hWd, R9, W9, m9, ⟨b9, d9, hBD, hBC, hME, hKV⟩, hLN, hDN, hBE, hMM, hLO⟩, hCS, D9, S9, K9, hBW, hBY, hBR⟩ := id iv3
  refine L_aload_n C (j := 1) (oDec_at oLw_4 35 rfl) rfl rfl ?_
  refine L_aload_n C (j := 0) (oDec_at oLw_4 36 rfl) rfl rfl ?_
  refine L_iload_n C (j := 3) (oDec_at oLw_4 37 rfl) rfl rfl ?_
  refine L_iconst C (oDec_at oLw_4 38 rfl) (v := k1) (by rw [qk1]; rfl) ?_
  obtain ⟨v1, ev1⟩ : ∃ z : Int32, z = x3 + k1 := ⟨_, rfl⟩
  have hv1 : v1.toInt = x3.toInt + k1.toInt := n_add ev1 (by omega) (by omega)
  refine L_iadd C v1 (oDec_at oLw_4 39 rfl) ev1 ?_
  refine L_sld C ⟨by omega, by omega⟩ (oDec_at oLw_4 40 rfl) ?_
  obtain ⟨v2, ev2⟩ : ∃ z : Int32, xs v1.toNatClampNeg = z := ⟨_, rfl⟩
  rw [ev2]
  have rv2 := n_rng v2
  refine L_aload_n C (j := 0) (oDec_at oLw_4 41 rfl) rfl rfl ?_
  refine L_iload_n C (j := 3) (oDec_at oLw_4 42 rfl) rfl rfl ?_
  refine L_iconst C (oDec_at oLw_4 43 rfl) (v := k2) (by rw [qk2]; rfl) ?_
  obtain ⟨v3, ev3⟩ : ∃ z : Int32, z = x3 + k2 := ⟨_, rfl⟩
  have hv3 : v3.toInt = x3.toInt + k2.toInt := n_add ev3 (by omega) (by omega)
  refine L_iadd C v3 (oDec_at oLw_4 44 rfl) ev3 ?_
  refine L_sld C ⟨by omega, by omega⟩ (oDec_at oLw_4 45 rfl) ?_
  obtain ⟨v4, ev4⟩ : ∃ z : Int32, xs v3.toNatClampNeg = z := ⟨_, rfl⟩
  rw [ev4]
  have rv4 := n_rng v4
  refine L_aload_n C (j := 0) (oDec_at oLw_4 46 rfl) rfl rfl ?_
  refine L_iload_n C (j := 3) (oDec_at oLw_4 47 rfl) rfl rfl ?_
  refine L_iconst C (oDec_at oLw_4 48 rfl) (v := k3) (by rw [qk3]; rfl) ?_
  obtain ⟨v5, ev5⟩ : ∃ z : Int32, z = x3 + k3 := ⟨_, rfl⟩
  have hv5 : v5.toInt = x3.toInt + k3.toInt := n_add ev5 (by omega) (by omega)
  refine L_iadd C v5 (oDec_at oLw_4 49 rfl) ev5 ?_
  refine L_sld C ⟨by omega, by omega⟩ (oDec_at oLw_5 0 rfl) ?_
  obtain ⟨v6, ev6⟩ : ∃ z : Int32, xs v5.toNatClampNeg = z := ⟨_, rfl⟩
  rw [ev6]
  have rv6 := n_rng v6
  refine L_aload_n C (j := 0) (oDec_at oLw_5 1 rfl) rfl rfl ?_
  refine L_iload_n C (j := 3) (oDec_at oLw_5 2 rfl) rfl rfl ?_
  refine L_iconst C (oDec_at oLw_5 3 rfl) (v := k4) (by rw [qk4]; rfl) ?_
  obtain ⟨v7, ev7⟩ : ∃ z : Int32, z = x3 + k4 := ⟨_, rfl⟩
  have hv7 : v7.toInt = x3.toInt + k4.toInt := n_add ev7 (by omega) (by omega)
  refine L_iadd C v7 (oDec_at oLw_5 4 rfl) ev7 ?_
  refine L_sld C ⟨by omega, by omega⟩ (oDec_at oLw_5 5 rfl) ?_
  obtain ⟨v8, ev8⟩ : ∃ z : Int32, xs v7.toNatClampNeg = z := ⟨_, rfl⟩
  rw [ev8]
  have rv8 := n_rng v8
  refine L_aload_n C (j := 0) (oDec_at oLw_5 6 rfl) rfl rfl ?_
  refine L_iload_n C (j := 3) (oDec_at oLw_5 7 rfl) rfl rfl ?_
  refine L_iconst C (oDec_at oLw_5 8 rfl) (v := k5) (by rw [qk5]; rfl) ?_
  obtain ⟨v9, ev9⟩ : ∃ z : Int32, z = x3 + k5 := ⟨_, rfl⟩
  have hv9 : v9.toInt = x3.toInt + k5.toInt := n_add ev9 (by omega) (by omega)
  refine L_iadd C v9 (oDec_at oLw_5 9 rfl) ev9 ?_
  refine L_sld C ⟨by omega, by omega⟩ (oDec_at oLw_5 10 rfl) ?_
  obtain ⟨v10, ev10⟩ : ∃ z : Int32, xs v9.toNatClampNeg = z := ⟨_, rfl⟩
  rw [ev10]
  have rv10 := n_rng v10
  refine L_callVi C oCl11 rfl miX11_code mlL_55 (ct_X11_code l E (t) v2 v4 v6 v8 v10 ) (by decide) rfl rfl rfl (Nat.le_of_ble_eq_true rfl) (oDec_at oLw_5 11 rfl) (fun r12 u11 pu11 fu11 => ?_)
  try dsimp only at pu11
  have hxu11 := oFr_nil fu11; subst hxu11
  clear pu11
  refine L_pc C 500 rfl ?_
  refine L_pop C (oDec_at oLw_5 12 rfl) rfl ?_
  refine L_aload_n C (j := 2) (oDec_at oLw_5 13 rfl) rfl rfl ?_
  refine L_aload_n C (j := 0) (oDec_at oLw_5 14 rfl) rfl rfl ?_
  refine L_iload_n C (j := 3) (oDec_at oLw_5 15 rfl) rfl rfl ?_
  refine L_iconst C (oDec_at oLw_5 16 rfl) (v := k1) (by rw [qk1]; rfl) ?_
  obtain ⟨v13, ev13⟩ : ∃ z : Int32, z = x3 + k1 := ⟨_, rfl⟩
  have hv13 : v13.toInt = x3.toInt + k1.toInt := n_add ev13 (by omega) (by omega)
  refine L_iadd C v13 (oDec_at oLw_5 17 rfl) ev13 ?_
  refine L_sld C ⟨by omega, by omega⟩ (oDec_at oLw_5 18 rfl) ?_
  rw [show xs v13.toNatClampNeg = v2 from by rw [show v13.toNatClampNeg = v1.toNatClampNeg by have q1 := n_nat v13; have q2 := n_nat v1; omega]; exact ev2]
  refine L_aload_n C (j := 0) (oDec_at oLw_5 19 rfl) rfl rfl ?_
  refine L_iload_n C (j := 3) (oDec_at oLw_5 20 rfl) rfl rfl ?_
  refine L_iconst C (oDec_at oLw_5 21 rfl) (v := k2) (by rw [qk2]; rfl) ?_
  obtain ⟨v15, ev15⟩ : ∃ z : Int32, z = x3 + k2 := ⟨_, rfl⟩
  have hv15 : v15.toInt = x3.toInt + k2.toInt := n_add ev15 (by omega) (by omega)
  refine L_iadd C v15 (oDec_at oLw_5 22 rfl) ev15 ?_
  refine L_sld C ⟨by omega, by omega⟩ (oDec_at oLw_5 23 rfl) ?_
  rw [show xs v15.toNatClampNeg = v4 from by rw [show v15.toNatClampNeg = v3.toNatClampNeg by have q1 := n_nat v15; have q2 := n_nat v3; omega]; exact ev4]
  refine L_aload_n C (j := 0) (oDec_at oLw_5 24 rfl) rfl rfl ?_
  refine L_iload_n C (j := 3) (oDec_at oLw_5 25 rfl) rfl rfl ?_
  refine L_iconst C (oDec_at oLw_5 26 rfl) (v := k3) (by rw [qk3]; rfl) ?_
  obtain ⟨v17, ev17⟩ : ∃ z : Int32, z = x3 + k3 := ⟨_, rfl⟩
  have hv17 : v17.toInt = x3.toInt + k3.toInt := n_add ev17 (by omega) (by omega)
  refine L_iadd C v17 (oDec_at oLw_5 27 rfl) ev17 ?_
  refine L_sld C ⟨by omega, by omega⟩ (oDec_at oLw_5 28 rfl) ?_
  rw [show xs v17.toNatClampNeg = v6 from by rw [show v17.toNatClampNeg = v5.toNatClampNeg by have q1 := n_nat v17; have q2 := n_nat v5; omega]; exact ev6]
  refine L_aload_n C (j := 0) (oDec_at oLw_5 29 rfl) rfl rfl ?_
  refine L_iload_n C (j := 3) (oDec_at oLw_5 30 rfl) rfl rfl ?_
  refine L_iconst C (oDec_at oLw_5 31 rfl) (v := k4) (by rw [qk4]; rfl) ?_
  obtain ⟨v19, ev19⟩ : ∃ z : Int32, z = x3 + k4 := ⟨_, rfl⟩
  have hv19 : v19.toInt = x3.toInt + k4.toInt := n_add ev19 (by omega) (by omega)
  refine L_iadd C v19 (oDec_at oLw_5 32 rfl) ev19 ?_
  refine L_sld C ⟨by omega, by omega⟩ (oDec_at oLw_5 33 rfl) ?_
  rw [show xs v19.toNatClampNeg = v8 from by rw [show v19.toNatClampNeg = v7.toNatClampNeg by have q1 := n_nat v19; have q2 := n_nat v7; omega]; exact ev8]
  refine L_aload_n C (j := 0) (oDec_at oLw_5 34 rfl) rfl rfl ?_
  refine L_iload_n C (j := 3) (oDec_at oLw_5 35 rfl) rfl rfl ?_
  refine L_iconst C (oDec_at oLw_5 36 rfl) (v := k5) (by rw [qk5]; rfl) ?_
  obtain ⟨v21, ev21⟩ : ∃ z : Int32, z = x3 + k5 := ⟨_, rfl⟩
  have hv21 : v21.toInt = x3.toInt + k5.toInt := n_add ev21 (by omega) (by omega)
  refine L_iadd C v21 (oDec_at oLw_5 37 rfl) ev21 ?_
  refine L_sld C ⟨by omega, by omega⟩ (oDec_at oLw_5 38 rfl) ?_
  rw [show xs v21.toNatClampNeg = v10 from by rw [show v21.toNatClampNeg = v9.toNatClampNeg by have q1 := n_nat v21; have q2 := n_nat v9; omega]; exact ev10]
  refine L_callVi C oCl12 rfl miX12_code mlL_58 (ct_X12_code l E (t) v2 v4 v6 v8 v10 ) (by decide) rfl rfl rfl (Nat.le_of_ble_eq_true rfl) (oDec_at oLw_5 39 rfl) (fun r24 u23 pu23 fu23 => ?_)
  try dsimp only at pu23
  have hxu23 := oFr_nil fu23; subst hxu23
  clear pu23
  refine L_pc C 530 rfl ?_
  refine L_pop C (oDec_at oLw_5 40 rfl) rfl ?_
  refine L_goto C (tgt := 1453) (oDec_at oLw_5 41 rfl) (by decide) ?_
  obtain ⟨v25, ev25⟩ : ∃ z : Int32, x3 + Int32.ofInt 6 = z := ⟨_, rfl⟩
  have hv25 : v25.toInt = x3.toInt + 6 := n_inc ev25 (by decide) (by omega) (by omega)
  refine L_iinc C (j := 3) (lv' := [(0, .ref b), (1, .ref (oad E 0)), (2, .ref (oad E 71)), (3, .int v25)]) v25 [1, 2, 3, 0] (oDec_at oLw_20 21 rfl) rfl ev25 (by decide) rfl ?_
  refine L_goto C (tgt := 18) (oDec_at oLw_20 22 rfl) (by decide) ?_
  exact hgo (t) v25 iv0 (by omega) iv2 iv3 (by omega)
set_option maxHeartbeats 8000000 in
set_option maxRecDepth 100000 in
theorem lw_c10 {l : Launch} {b L kc sl : Nat} {xs : Nat → Int32} {E : oE} {J : oS → Nat → List (Nat × Value) → List Value → Prop} (C : oLC l b L xs E kc sl J) (hL : L ≤ 3072) {t : oS} {x3 : Int32} (iv0 : oLT t) (iv1 : 1 ≤ (t.1 71 38).toInt → 1 ≤ (t.1 71 42).toInt) (iv2 : oBI t) (iv3 : oqET t) (hx3 : 0 ≤ x3.toInt ∧ x3.toInt + 6 ≤ (L : Int)) (hgo : ∀ (t2 : oS) (y3 : Int32), oLT t2 → (1 ≤ (t2.1 71 38).toInt → 1 ≤ (t2.1 71 42).toInt) → oBI t2 → (oqET t2) → y3.toInt = x3.toInt + 6 → J t2 18 [(0, .ref b), (1, .ref (oad E 0)), (2, .ref (oad E 71)), (3, .int y3)] []) : J t 534 [(0, .ref b), (1, .ref (oad E 0)), (2, .ref (oad E 71)), (3, .int x3)] [] := by
  obtain ⟨k0, qk0⟩ : ∃ z : Int32, z = 0 := ⟨_, rfl⟩
  have ek0 : k0.toInt = 0 := by rw [qk0]; rfl
  obtain ⟨k1, qk1⟩ : ∃ z : Int32, z = 1 := ⟨_, rfl⟩
  have ek1 : k1.toInt = 1 := by rw [qk1]; rfl
  obtain ⟨k2, qk2⟩ : ∃ z : Int32, z = 2 := ⟨_, rfl⟩
  have ek2 : k2.toInt = 2 := by rw [qk2]; rfl
  obtain ⟨k3, qk3⟩ : ∃ z : Int32, z = 3 := ⟨_, rfl⟩
  have ek3 : k3.toInt = 3 := by rw [qk3]; rfl
  obtain ⟨k4, qk4⟩ : ∃ z : Int32, z = 4 := ⟨_, rfl⟩
  have ek4 : k4.toInt = 4 := by rw [qk4]; rfl
  obtain ⟨k5, qk5⟩ : ∃ z : Int32, z = 5 := ⟨_, rfl⟩
  have ek5 : k5.toInt = 5 := by rw [qk5]; rfl
  obtain ⟨⟨hE, hWd, R9, W9, m9, ⟨b9, d9, hBD, hBC, hME, hKV⟩, hLN, hDN, hBE, hMM, hLO⟩, hCS, D9, S9, K9, hBW, hBY, hBR⟩ := id iv3
  refine L_aload_n C (j := 1) (oDec_at oLw_5 42 rfl) rfl rfl ?_
  refine L_aload_n C (j := 0) (oDec_at oLw_5 43 rfl) rfl rfl ?_
  refine L_iload_n C (j := 3) (oDec_at oLw_5 44 rfl) rfl rfl ?_
  refine L_iconst C (oDec_at oLw_5 45 rfl) (v := k1) (by rw [qk1]; rfl) ?_
  obtain ⟨v1, ev1⟩ : ∃ z : Int32, z = x3 + k1 := ⟨_, rfl⟩
  have hv1 : v1.toInt = x3.toInt + k1.toInt := n_add ev1 (by omega) (by omega)
  refine L_iadd C v1 (oDec_at oLw_5 46 rfl) ev1 ?_
  refine L_sld C ⟨by omega, by omega⟩ (oDec_at oLw_5 47 rfl) ?_
  obtain ⟨v2, ev2⟩ : ∃ z : Int32, xs v1.toNatClampNeg = z := ⟨_, rfl⟩
  rw [ev2]
  have rv2 := n_rng v2
  refine L_aload_n C (j := 0) (oDec_at oLw_5 48 rfl) rfl rfl ?_
  refine L_iload_n C (j := 3) (oDec_at oLw_5 49 rfl) rfl rfl ?_
  refine L_iconst C (oDec_at oLw_6 0 rfl) (v := k2) (by rw [qk2]; rfl) ?_
  obtain ⟨v3, ev3⟩ : ∃ z : Int32, z = x3 + k2 := ⟨_, rfl⟩
  have hv3 : v3.toInt = x3.toInt + k2.toInt := n_add ev3 (by omega) (by omega)
  refine L_iadd C v3 (oDec_at oLw_6 1 rfl) ev3 ?_
  refine L_sld C ⟨by omega, by omega⟩ (oDec_at oLw_6 2 rfl) ?_
  obtain ⟨v4, ev4⟩ : ∃ z : Int32, xs v3.toNatClampNeg = z := ⟨_, rfl⟩
  rw [ev4]
  have rv4 := n_rng v4
  refine L_callVi C oCl11 rfl miX11_follower mlL_59 (ct_X11_follower l E (t) v2 v4 ) (by decide) rfl rfl rfl (Nat.le_of_ble_eq_true rfl) (oDec_at oLw_6 3 rfl) (fun r6 u5 pu5 fu5 => ?_)
  try dsimp only at pu5
  refine L_pc C 548 rfl ?_
  refine L_pop C (oDec_at oLw_6 4 rfl) rfl ?_
  refine L_aload_n C (j := 2) (oDec_at oLw_6 5 rfl) rfl rfl ?_
  refine L_aload_n C (j := 0) (oDec_at oLw_6 6 rfl) rfl rfl ?_
  refine L_iload_n C (j := 3) (oDec_at oLw_6 7 rfl) rfl rfl ?_
  refine L_iconst C (oDec_at oLw_6 8 rfl) (v := k1) (by rw [qk1]; rfl) ?_
  obtain ⟨v7, ev7⟩ : ∃ z : Int32, z = x3 + k1 := ⟨_, rfl⟩
  have hv7 : v7.toInt = x3.toInt + k1.toInt := n_add ev7 (by omega) (by omega)
  refine L_iadd C v7 (oDec_at oLw_6 9 rfl) ev7 ?_
  refine L_sld C ⟨by omega, by omega⟩ (oDec_at oLw_6 10 rfl) ?_
  rw [show xs v7.toNatClampNeg = v2 from by rw [show v7.toNatClampNeg = v1.toNatClampNeg by have q1 := n_nat v7; have q2 := n_nat v1; omega]; exact ev2]
  refine L_aload_n C (j := 0) (oDec_at oLw_6 11 rfl) rfl rfl ?_
  refine L_iload_n C (j := 3) (oDec_at oLw_6 12 rfl) rfl rfl ?_
  refine L_iconst C (oDec_at oLw_6 13 rfl) (v := k2) (by rw [qk2]; rfl) ?_
  obtain ⟨v9, ev9⟩ : ∃ z : Int32, z = x3 + k2 := ⟨_, rfl⟩
  have hv9 : v9.toInt = x3.toInt + k2.toInt := n_add ev9 (by omega) (by omega)
  refine L_iadd C v9 (oDec_at oLw_6 14 rfl) ev9 ?_
  refine L_sld C ⟨by omega, by omega⟩ (oDec_at oLw_6 15 rfl) ?_
  rw [show xs v9.toNatClampNeg = v4 from by rw [show v9.toNatClampNeg = v3.toNatClampNeg by have q1 := n_nat v9; have q2 := n_nat v3; omega]; exact ev4]
  refine L_callVi C oCl12 rfl miX12_follower mlL_62 (ct_X12_follower l E (u5) v2 v4 ) (by decide) rfl rfl rfl (Nat.le_of_ble_eq_true rfl) (oDec_at oLw_6 16 rfl) (fun r12 u11 pu11 fu11 => ?_)
  try dsimp only at pu11
  have hxu11 := oFr_nil fu11; subst hxu11
  refine L_pc C 563 rfl ?_
  refine L_pop C (oDec_at oLw_6 17 rfl) rfl ?_
  refine L_goto C (tgt := 1453) (oDec_at oLw_6 18 rfl) (by decide) ?_
  obtain ⟨v13, ev13⟩ : ∃ z : Int32, x3 + Int32.ofInt 6 = z := ⟨_, rfl⟩
  have hv13 : v13.toInt = x3.toInt + 6 := n_inc ev13 (by decide) (by omega) (by omega)
  refine L_iinc C (j := 3) (lv' := [(0, .ref b), (1, .ref (oad E 0)), (2, .ref (oad E 71)), (3, .int v13)]) v13 [1, 2, 3, 0] (oDec_at oLw_20 21 rfl) rfl ev13 (by decide) rfl ?_
  refine L_goto C (tgt := 18) (oDec_at oLw_20 22 rfl) (by decide) ?_
  have lk14 : ((u5).1 71 38).toInt = (t.1 71 38).toInt := congrArg Int32.toInt ((fu5 71 38 rfl).1)
  have lk15 : ((u5).1 71 42).toInt = (t.1 71 42).toInt := congrArg Int32.toInt ((fu5 71 42 rfl).1)
  exact hgo (u5) v13 (oLT_fr fu5 rfl iv0) (by omega) (oBI_fr fu5 rfl iv2) (oqET_fr fu5 rfl iv3) (by omega)
set_option maxHeartbeats 8000000 in
set_option maxRecDepth 100000 in
theorem lw_c11 {l : Launch} {b L kc sl : Nat} {xs : Nat → Int32} {E : oE} {J : oS → Nat → List (Nat × Value) → List Value → Prop} (C : oLC l b L xs E kc sl J) (hL : L ≤ 3072) {t : oS} {x3 : Int32} (iv0 : oLT t) (iv1 : 1 ≤ (t.1 71 38).toInt → 1 ≤ (t.1 71 42).toInt) (iv2 : oBI t) (iv3 : oqET t) (hx3 : 0 ≤ x3.toInt ∧ x3.toInt + 6 ≤ (L : Int)) (hgo : ∀ (t2 : oS) (y3 : Int32), oLT t2 → (1 ≤ (t2.1 71 38).toInt → 1 ≤ (t2.1 71 42).toInt) → oBI t2 → (oqET t2) → y3.toInt = x3.toInt + 6 → J t2 18 [(0, .ref b), (1, .ref (oad E 0)), (2, .ref (oad E 71)), (3, .int y3)] []) : J t 567 [(0, .ref b), (1, .ref (oad E 0)), (2, .ref (oad E 71)), (3, .int x3)] [] := by
  obtain ⟨k0, qk0⟩ : ∃ z : Int32, z = 0 := ⟨_, rfl⟩
  have ek0 : k0.toInt = 0 := by rw [qk0]; rfl
  obtain ⟨k1, qk1⟩ : ∃ z : Int32, z = 1 := ⟨_, rfl⟩
  have ek1 : k1.toInt = 1 := by rw [qk1]; rfl
  obtain ⟨k2, qk2⟩ : ∃ z : Int32, z = 2 := ⟨_, rfl⟩
  have ek2 : k2.toInt = 2 := by rw [qk2]; rfl
  obtain ⟨k3, qk3⟩ : ∃ z : Int32, z = 3 := ⟨_, rfl⟩
  have ek3 : k3.toInt = 3 := by rw [qk3]; rfl
  obtain ⟨k4, qk4⟩ : ∃ z : Int32, z = 4 := ⟨_, rfl⟩
  have ek4 : k4.toInt = 4 := by rw [qk4]; rfl
  obtain ⟨k5, qk5⟩ : ∃ z : Int32, z = 5 := ⟨_, rfl⟩
  have ek5 : k5.toInt = 5 := by rw [qk5]; rfl
  obtain ⟨⟨hE, hWd, R9, W9, m9, ⟨b9, d9, hBD, hBC, hME, hKV⟩, hLN, hDN, hBE, hMM, hLO⟩, hCS, D9, S9, K9, hBW, hBY, hBR⟩ := id iv3
  refine L_aload_n C (j := 1) (oDec_at oLw_6 19 rfl) rfl rfl ?_
  refine L_aload_n C (j := 0) (oDec_at oLw_6 20 rfl) rfl rfl ?_
  refine L_iload_n C (j := 3) (oDec_at oLw_6 21 rfl) rfl rfl ?_
  refine L_iconst C (oDec_at oLw_6 22 rfl) (v := k1) (by rw [qk1]; rfl) ?_
  obtain ⟨v1, ev1⟩ : ∃ z : Int32, z = x3 + k1 := ⟨_, rfl⟩
  have hv1 : v1.toInt = x3.toInt + k1.toInt := n_add ev1 (by omega) (by omega)
  refine L_iadd C v1 (oDec_at oLw_6 23 rfl) ev1 ?_
  refine L_sld C ⟨by omega, by omega⟩ (oDec_at oLw_6 24 rfl) ?_
  obtain ⟨v2, ev2⟩ : ∃ z : Int32, xs v1.toNatClampNeg = z := ⟨_, rfl⟩
  rw [ev2]
  have rv2 := n_rng v2
  refine L_aload_n C (j := 0) (oDec_at oLw_6 25 rfl) rfl rfl ?_
  refine L_iload_n C (j := 3) (oDec_at oLw_6 26 rfl) rfl rfl ?_
  refine L_iconst C (oDec_at oLw_6 27 rfl) (v := k2) (by rw [qk2]; rfl) ?_
  obtain ⟨v3, ev3⟩ : ∃ z : Int32, z = x3 + k2 := ⟨_, rfl⟩
  have hv3 : v3.toInt = x3.toInt + k2.toInt := n_add ev3 (by omega) (by omega)
  refine L_iadd C v3 (oDec_at oLw_6 28 rfl) ev3 ?_
  refine L_sld C ⟨by omega, by omega⟩ (oDec_at oLw_6 29 rfl) ?_
  obtain ⟨v4, ev4⟩ : ∃ z : Int32, xs v3.toNatClampNeg = z := ⟨_, rfl⟩
  rw [ev4]
  have rv4 := n_rng v4
  refine L_callVi C oCl11 rfl miX11_sings mlL_63 (ct_X11_sings l E (t) v2 v4 ) (by decide) rfl rfl rfl (Nat.le_of_ble_eq_true rfl) (oDec_at oLw_6 30 rfl) (fun r6 u5 pu5 fu5 => ?_)
  try dsimp only at pu5
  refine L_pc C 581 rfl ?_
  refine L_pop C (oDec_at oLw_6 31 rfl) rfl ?_
  refine L_aload_n C (j := 2) (oDec_at oLw_6 32 rfl) rfl rfl ?_
  refine L_aload_n C (j := 0) (oDec_at oLw_6 33 rfl) rfl rfl ?_
  refine L_iload_n C (j := 3) (oDec_at oLw_6 34 rfl) rfl rfl ?_
  refine L_iconst C (oDec_at oLw_6 35 rfl) (v := k1) (by rw [qk1]; rfl) ?_
  obtain ⟨v7, ev7⟩ : ∃ z : Int32, z = x3 + k1 := ⟨_, rfl⟩
  have hv7 : v7.toInt = x3.toInt + k1.toInt := n_add ev7 (by omega) (by omega)
  refine L_iadd C v7 (oDec_at oLw_6 36 rfl) ev7 ?_
  refine L_sld C ⟨by omega, by omega⟩ (oDec_at oLw_6 37 rfl) ?_
  rw [show xs v7.toNatClampNeg = v2 from by rw [show v7.toNatClampNeg = v1.toNatClampNeg by have q1 := n_nat v7; have q2 := n_nat v1; omega]; exact ev2]
  refine L_aload_n C (j := 0) (oDec_at oLw_6 38 rfl) rfl rfl ?_
  refine L_iload_n C (j := 3) (oDec_at oLw_6 39 rfl) rfl rfl ?_
  refine L_iconst C (oDec_at oLw_6 40 rfl) (v := k2) (by rw [qk2]; rfl) ?_
  obtain ⟨v9, ev9⟩ : ∃ z : Int32, z = x3 + k2 := ⟨_, rfl⟩
  have hv9 : v9.toInt = x3.toInt + k2.toInt := n_add ev9 (by omega) (by omega)
  refine L_iadd C v9 (oDec_at oLw_6 41 rfl) ev9 ?_
  refine L_sld C ⟨by omega, by omega⟩ (oDec_at oLw_6 42 rfl) ?_
  rw [show xs v9.toNatClampNeg = v4 from by rw [show v9.toNatClampNeg = v3.toNatClampNeg by have q1 := n_nat v9; have q2 := n_nat v3; omega]; exact ev4]
  refine L_callVi C oCl12 rfl miX12_sings mlL_66 (ct_X12_sings l E (u5) v2 v4 ) (by decide) rfl rfl rfl (Nat.le_of_ble_eq_true rfl) (oDec_at oLw_6 43 rfl) (fun r12 u11 pu11 fu11 => ?_)
  try dsimp only at pu11
  have hxu11 := oFr_nil fu11; subst hxu11
  refine L_pc C 596 rfl ?_
  refine L_pop C (oDec_at oLw_6 44 rfl) rfl ?_
  refine L_goto C (tgt := 1453) (oDec_at oLw_6 45 rfl) (by decide) ?_
  obtain ⟨v13, ev13⟩ : ∃ z : Int32, x3 + Int32.ofInt 6 = z := ⟨_, rfl⟩
  have hv13 : v13.toInt = x3.toInt + 6 := n_inc ev13 (by decide) (by omega) (by omega)
  refine L_iinc C (j := 3) (lv' := [(0, .ref b), (1, .ref (oad E 0)), (2, .ref (oad E 71)), (3, .int v13)]) v13 [1, 2, 3, 0] (oDec_at oLw_20 21 rfl) rfl ev13 (by decide) rfl ?_
  refine L_goto C (tgt := 18) (oDec_at oLw_20 22 rfl) (by decide) ?_
  have lk14 : ((u5).1 71 38).toInt = (t.1 71 38).toInt := congrArg Int32.toInt ((fu5 71 38 rfl).1)
  have lk15 : ((u5).1 71 42).toInt = (t.1 71 42).toInt := congrArg Int32.toInt ((fu5 71 42 rfl).1)
  exact hgo (u5) v13 (oLT_fr fu5 rfl iv0) (by omega) (oBI_fr fu5 rfl iv2) (oqET_fr fu5 rfl iv3) (by omega)
set_option maxHeartbeats 8000000 in
set_option maxRecDepth 100000 in
theorem lw_c12 {l : Launch} {b L kc sl : Nat} {xs : Nat → Int32} {E : oE} {J : oS → Nat → List (Nat × Value) → List Value → Prop} (C : oLC l b L xs E kc sl J) (hL : L ≤ 3072) {t : oS} {x3 : Int32} (iv0 : oLT t) (iv1 : 1 ≤ (t.1 71 38).toInt → 1 ≤ (t.1 71 42).toInt) (iv2 : oBI t) (iv3 : oqET t) (hx3 : 0 ≤ x3.toInt ∧ x3.toInt + 6 ≤ (L : Int)) (hgo : ∀ (t2 : oS) (y3 : Int32), oLT t2 → (1 ≤ (t2.1 71 38).toInt → 1 ≤ (t2.1 71 42).toInt) → oBI t2 → (oqET t2) → y3.toInt = x3.toInt + 6 → J t2 18 [(0, .ref b), (1, .ref (oad E 0)), (2, .ref (oad E 71)), (3, .int y3)] []) : J t 600 [(0, .ref b), (1, .ref (oad E 0)), (2, .ref (oad E 71)), (3, .int x3)] [] := by
  obtain ⟨k0, qk0⟩ : ∃ z : Int32, z = 0 := ⟨_, rfl⟩
  have ek0 : k0.toInt = 0 := by rw [qk0]; rfl
  obtain ⟨k1, qk1⟩ : ∃ z : Int32, z = 1 := ⟨_, rfl⟩
  have ek1 : k1.toInt = 1 := by rw [qk1]; rfl
  obtain ⟨k2, qk2⟩ : ∃ z : Int32, z = 2 := ⟨_, rfl⟩
  have ek2 : k2.toInt = 2 := by rw [qk2]; rfl
  obtain ⟨k3, qk3⟩ : ∃ z : Int32, z = 3 := ⟨_, rfl⟩
  have ek3 : k3.toInt = 3 := by rw [qk3]; rfl
  obtain ⟨k4, qk4⟩ : ∃ z : Int32, z = 4 := ⟨_, rfl⟩
  have ek4 : k4.toInt = 4 := by rw [qk4]; rfl
  obtain ⟨k5, qk5⟩ : ∃ z : Int32, z = 5 := ⟨_, rfl⟩
  have ek5 : k5.toInt = 5 := by rw [qk5]; rfl
  obtain ⟨⟨hE, hWd, R9, W9, m9, ⟨b9, d9, hBD, hBC, hME, hKV⟩, hLN, hDN, hBE, hMM, hLO⟩, hCS, D9, S9, K9, hBW, hBY, hBR⟩ := id iv3
  refine L_aload_n C (j := 1) (oDec_at oLw_6 46 rfl) rfl rfl ?_
  refine L_aload_n C (j := 0) (oDec_at oLw_6 47 rfl) rfl rfl ?_
  refine L_iload_n C (j := 3) (oDec_at oLw_6 48 rfl) rfl rfl ?_
  refine L_iconst C (oDec_at oLw_6 49 rfl) (v := k1) (by rw [qk1]; rfl) ?_
  obtain ⟨v1, ev1⟩ : ∃ z : Int32, z = x3 + k1 := ⟨_, rfl⟩
  have hv1 : v1.toInt = x3.toInt + k1.toInt := n_add ev1 (by omega) (by omega)
  refine L_iadd C v1 (oDec_at oLw_7 0 rfl) ev1 ?_
  refine L_sld C ⟨by omega, by omega⟩ (oDec_at oLw_7 1 rfl) ?_
  obtain ⟨v2, ev2⟩ : ∃ z : Int32, xs v1.toNatClampNeg = z := ⟨_, rfl⟩
  rw [ev2]
  have rv2 := n_rng v2
  refine L_aload_n C (j := 0) (oDec_at oLw_7 2 rfl) rfl rfl ?_
  refine L_iload_n C (j := 3) (oDec_at oLw_7 3 rfl) rfl rfl ?_
  refine L_iconst C (oDec_at oLw_7 4 rfl) (v := k2) (by rw [qk2]; rfl) ?_
  obtain ⟨v3, ev3⟩ : ∃ z : Int32, z = x3 + k2 := ⟨_, rfl⟩
  have hv3 : v3.toInt = x3.toInt + k2.toInt := n_add ev3 (by omega) (by omega)
  refine L_iadd C v3 (oDec_at oLw_7 5 rfl) ev3 ?_
  refine L_sld C ⟨by omega, by omega⟩ (oDec_at oLw_7 6 rfl) ?_
  obtain ⟨v4, ev4⟩ : ∃ z : Int32, xs v3.toNatClampNeg = z := ⟨_, rfl⟩
  rw [ev4]
  have rv4 := n_rng v4
  refine L_aload_n C (j := 0) (oDec_at oLw_7 7 rfl) rfl rfl ?_
  refine L_iload_n C (j := 3) (oDec_at oLw_7 8 rfl) rfl rfl ?_
  refine L_iconst C (oDec_at oLw_7 9 rfl) (v := k3) (by rw [qk3]; rfl) ?_
  obtain ⟨v5, ev5⟩ : ∃ z : Int32, z = x3 + k3 := ⟨_, rfl⟩
  have hv5 : v5.toInt = x3.toInt + k3.toInt := n_add ev5 (by omega) (by omega)
  refine L_iadd C v5 (oDec_at oLw_7 10 rfl) ev5 ?_
  refine L_sld C ⟨by omega, by omega⟩ (oDec_at oLw_7 11 rfl) ?_
  obtain ⟨v6, ev6⟩ : ∃ z : Int32, xs v5.toNatClampNeg = z := ⟨_, rfl⟩
  rw [ev6]
  have rv6 := n_rng v6
  refine L_callVi C oCl11 rfl miX11_breach mlL_67 (ct9_X11_breach l E (t) v2 v4 v6 b9 R9 W9 hBC hKV hLN hDN) (by decide) rfl rfl rfl (Nat.le_of_ble_eq_true rfl) (oDec_at oLw_7 12 rfl) (fun r8 u7 pu7 fu7 => ?_)
  try dsimp only at pu7
  obtain ⟨pu7_0, pu7_1⟩ := pu7
  refine L_pc C 619 rfl ?_
  refine L_pop C (oDec_at oLw_7 13 rfl) rfl ?_
  refine L_aload_n C (j := 2) (oDec_at oLw_7 14 rfl) rfl rfl ?_
  refine L_aload_n C (j := 0) (oDec_at oLw_7 15 rfl) rfl rfl ?_
  refine L_iload_n C (j := 3) (oDec_at oLw_7 16 rfl) rfl rfl ?_
  refine L_iconst C (oDec_at oLw_7 17 rfl) (v := k1) (by rw [qk1]; rfl) ?_
  obtain ⟨v9, ev9⟩ : ∃ z : Int32, z = x3 + k1 := ⟨_, rfl⟩
  have hv9 : v9.toInt = x3.toInt + k1.toInt := n_add ev9 (by omega) (by omega)
  refine L_iadd C v9 (oDec_at oLw_7 18 rfl) ev9 ?_
  refine L_sld C ⟨by omega, by omega⟩ (oDec_at oLw_7 19 rfl) ?_
  rw [show xs v9.toNatClampNeg = v2 from by rw [show v9.toNatClampNeg = v1.toNatClampNeg by have q1 := n_nat v9; have q2 := n_nat v1; omega]; exact ev2]
  refine L_aload_n C (j := 0) (oDec_at oLw_7 20 rfl) rfl rfl ?_
  refine L_iload_n C (j := 3) (oDec_at oLw_7 21 rfl) rfl rfl ?_
  refine L_iconst C (oDec_at oLw_7 22 rfl) (v := k2) (by rw [qk2]; rfl) ?_
  obtain ⟨v11, ev11⟩ : ∃ z : Int32, z = x3 + k2 := ⟨_, rfl⟩
  have hv11 : v11.toInt = x3.toInt + k2.toInt := n_add ev11 (by omega) (by omega)
  refine L_iadd C v11 (oDec_at oLw_7 23 rfl) ev11 ?_
  refine L_sld C ⟨by omega, by omega⟩ (oDec_at oLw_7 24 rfl) ?_
  rw [show xs v11.toNatClampNeg = v4 from by rw [show v11.toNatClampNeg = v3.toNatClampNeg by have q1 := n_nat v11; have q2 := n_nat v3; omega]; exact ev4]
  refine L_aload_n C (j := 0) (oDec_at oLw_7 25 rfl) rfl rfl ?_
  refine L_iload_n C (j := 3) (oDec_at oLw_7 26 rfl) rfl rfl ?_
  refine L_iconst C (oDec_at oLw_7 27 rfl) (v := k3) (by rw [qk3]; rfl) ?_
  obtain ⟨v13, ev13⟩ : ∃ z : Int32, z = x3 + k3 := ⟨_, rfl⟩
  have hv13 : v13.toInt = x3.toInt + k3.toInt := n_add ev13 (by omega) (by omega)
  refine L_iadd C v13 (oDec_at oLw_7 28 rfl) ev13 ?_
  refine L_sld C ⟨by omega, by omega⟩ (oDec_at oLw_7 29 rfl) ?_
  rw [show xs v13.toNatClampNeg = v6 from by rw [show v13.toNatClampNeg = v5.toNatClampNeg by have q1 := n_nat v13; have q2 := n_nat v5; omega]; exact ev6]
  refine L_callVi C oCl12 rfl miX12_breach mlL_70 (ct_X12_breach l E (u7) v2 v4 v6 (oBI_fr fu7 rfl iv2)) (by decide) rfl rfl rfl (Nat.le_of_ble_eq_true rfl) (oDec_at oLw_7 30 rfl) (fun r16 u15 pu15 fu15 => ?_)
  try dsimp only at pu15
  refine L_pc C 639 rfl ?_
  refine L_pop C (oDec_at oLw_7 31 rfl) rfl ?_
  refine L_goto C (tgt := 1453) (oDec_at oLw_7 32 rfl) (by decide) ?_
  obtain ⟨v17, ev17⟩ : ∃ z : Int32, x3 + Int32.ofInt 6 = z := ⟨_, rfl⟩
  have hv17 : v17.toInt = x3.toInt + 6 := n_inc ev17 (by decide) (by omega) (by omega)
  refine L_iinc C (j := 3) (lv' := [(0, .ref b), (1, .ref (oad E 0)), (2, .ref (oad E 71)), (3, .int v17)]) v17 [1, 2, 3, 0] (oDec_at oLw_20 21 rfl) rfl ev17 (by decide) rfl ?_
  refine L_goto C (tgt := 18) (oDec_at oLw_20 22 rfl) (by decide) ?_
  have lk18 : ((u15).1 71 38).toInt = (t.1 71 38).toInt := congrArg Int32.toInt (((fu15 71 38 rfl).1).trans ((fu7 71 38 rfl).1))
  have lk19 : ((u15).1 71 42).toInt = (t.1 71 42).toInt := congrArg Int32.toInt (((fu15 71 42 rfl).1).trans ((fu7 71 42 rfl).1))
  have lk20 : ((u15).1 1 1).toInt = (t.1 1 1).toInt := congrArg Int32.toInt (((fu15 1 1 rfl).1).trans ((fu7 1 1 rfl).1))
  have lk21 : ((u15).1 71 1).toInt = (t.1 71 1).toInt := congrArg Int32.toInt (((fu15 71 1 rfl).1).trans ((fu7 71 1 rfl).1))
  exact hgo (u15) v17 (oLT_fr fu15 rfl (oLT_fr fu7 rfl iv0)) (by omega) (oBI_fr fu15 rfl (oBI_fr fu7 rfl iv2)) ⟨⟨(oqE_fr fu15 rfl (oqE_fr fu7 rfl hE)), (oqWd_fr fu15 rfl (oqWd_fr fu7 rfl hWd)), _, _, _, ⟨b9, d9, (owBD_fr fu15 rfl (owBD_fr fu7 rfl hBD)), (owBC_fr fu15 rfl (owBC_fr fu7 rfl hBC)), (owME_fr fu15 rfl (owME_fr fu7 rfl hME)), (owKV_fr fu15 rfl pu7_0)⟩, (owLN_fr fu15 rfl (owLN_fr fu7 rfl hLN)), (owDN_fr fu15 rfl pu7_1), (owBE_fr fu15 rfl (owBE_fr fu7 rfl hBE)), (owMM_fr fu15 rfl (owMM_fr fu7 rfl hMM)), (owLO_fr fu15 rfl (owLO_fr fu7 rfl hLO))⟩, (owCZ_fr fu15 rfl (owCZ_fr fu7 rfl hCS)), _, _, _, (owBW_fr fu15 rfl (owBW_fr fu7 rfl hBW)), (owBY_fr fu15 rfl (owBY_fr fu7 rfl hBY)), hBR⟩ (by omega)
set_option maxHeartbeats 8000000 in
set_option maxRecDepth 100000 in
theorem lw_c13 {l : Launch} {b L kc sl : Nat} {xs : Nat → Int32} {E : oE} {J : oS → Nat → List (Nat × Value) → List Value → Prop} (C : oLC l b L xs E kc sl J) (hL : L ≤ 3072) {t : oS} {x3 : Int32} (iv0 : oLT t) (iv1 : 1 ≤ (t.1 71 38).toInt → 1 ≤ (t.1 71 42).toInt) (iv2 : oBI t) (iv3 : oqET t) (hx3 : 0 ≤ x3.toInt ∧ x3.toInt + 6 ≤ (L : Int)) (hgo : ∀ (t2 : oS) (y3 : Int32), oLT t2 → (1 ≤ (t2.1 71 38).toInt → 1 ≤ (t2.1 71 42).toInt) → oBI t2 → (oqET t2) → y3.toInt = x3.toInt + 6 → J t2 18 [(0, .ref b), (1, .ref (oad E 0)), (2, .ref (oad E 71)), (3, .int y3)] []) : J t 643 [(0, .ref b), (1, .ref (oad E 0)), (2, .ref (oad E 71)), (3, .int x3)] [] := by
  obtain ⟨k0, qk0⟩ : ∃ z : Int32, z = 0 := ⟨_, rfl⟩
  have ek0 : k0.toInt = 0 := by rw [qk0]; rfl
  obtain ⟨k1, qk1⟩ : ∃ z : Int32, z = 1 := ⟨_, rfl⟩
  have ek1 : k1.toInt = 1 := by rw [qk1]; rfl
  obtain ⟨k2, qk2⟩ : ∃ z : Int32, z = 2 := ⟨_, rfl⟩
  have ek2 : k2.toInt = 2 := by rw [qk2]; rfl
  obtain ⟨k3, qk3⟩ : ∃ z : Int32, z = 3 := ⟨_, rfl⟩
  have ek3 : k3.toInt = 3 := by rw [qk3]; rfl
  obtain ⟨k4, qk4⟩ : ∃ z : Int32, z = 4 := ⟨_, rfl⟩
  have ek4 : k4.toInt = 4 := by rw [qk4]; rfl
  obtain ⟨k5, qk5⟩ : ∃ z : Int32, z = 5 := ⟨_, rfl⟩
  have ek5 : k5.toInt = 5 := by rw [qk5]; rfl
  obtain ⟨⟨hE, hWd, R9, W9, m9, ⟨b9, d9, hBD, hBC, hME, hKV⟩, hLN, hDN, hBE, hMM, hLO⟩, hCS, D9, S9, K9, hBW, hBY, hBR⟩ := id iv3
  refine L_aload_n C (j := 1) (oDec_at oLw_7 33 rfl) rfl rfl ?_
  refine L_aload_n C (j := 0) (oDec_at oLw_7 34 rfl) rfl rfl ?_
  refine L_iload_n C (j := 3) (oDec_at oLw_7 35 rfl) rfl rfl ?_
  refine L_iconst C (oDec_at oLw_7 36 rfl) (v := k1) (by rw [qk1]; rfl) ?_
  obtain ⟨v1, ev1⟩ : ∃ z : Int32, z = x3 + k1 := ⟨_, rfl⟩
  have hv1 : v1.toInt = x3.toInt + k1.toInt := n_add ev1 (by omega) (by omega)
  refine L_iadd C v1 (oDec_at oLw_7 37 rfl) ev1 ?_
  refine L_sld C ⟨by omega, by omega⟩ (oDec_at oLw_7 38 rfl) ?_
  obtain ⟨v2, ev2⟩ : ∃ z : Int32, xs v1.toNatClampNeg = z := ⟨_, rfl⟩
  rw [ev2]
  have rv2 := n_rng v2
  refine L_aload_n C (j := 0) (oDec_at oLw_7 39 rfl) rfl rfl ?_
  refine L_iload_n C (j := 3) (oDec_at oLw_7 40 rfl) rfl rfl ?_
  refine L_iconst C (oDec_at oLw_7 41 rfl) (v := k2) (by rw [qk2]; rfl) ?_
  obtain ⟨v3, ev3⟩ : ∃ z : Int32, z = x3 + k2 := ⟨_, rfl⟩
  have hv3 : v3.toInt = x3.toInt + k2.toInt := n_add ev3 (by omega) (by omega)
  refine L_iadd C v3 (oDec_at oLw_7 42 rfl) ev3 ?_
  refine L_sld C ⟨by omega, by omega⟩ (oDec_at oLw_7 43 rfl) ?_
  obtain ⟨v4, ev4⟩ : ∃ z : Int32, xs v3.toNatClampNeg = z := ⟨_, rfl⟩
  rw [ev4]
  have rv4 := n_rng v4
  refine L_aload_n C (j := 0) (oDec_at oLw_7 44 rfl) rfl rfl ?_
  refine L_iload_n C (j := 3) (oDec_at oLw_7 45 rfl) rfl rfl ?_
  refine L_iconst C (oDec_at oLw_7 46 rfl) (v := k3) (by rw [qk3]; rfl) ?_
  obtain ⟨v5, ev5⟩ : ∃ z : Int32, z = x3 + k3 := ⟨_, rfl⟩
  have hv5 : v5.toInt = x3.toInt + k3.toInt := n_add ev5 (by omega) (by omega)
  refine L_iadd C v5 (oDec_at oLw_7 47 rfl) ev5 ?_
  refine L_sld C ⟨by omega, by omega⟩ (oDec_at oLw_7 48 rfl) ?_
  obtain ⟨v6, ev6⟩ : ∃ z : Int32, xs v5.toNatClampNeg = z := ⟨_, rfl⟩
  rw [ev6]
  have rv6 := n_rng v6
  refine L_callVi C oCl11 rfl miX11_together mlL_71 (ct9_X11_together l E (t) v2 v4 v6 b9 R9 W9 hBC hKV hLN hDN) (by decide) rfl rfl rfl (Nat.le_of_ble_eq_true rfl) (oDec_at oLw_7 49 rfl) (fun r8 u7 pu7 fu7 => ?_)
  try dsimp only at pu7
  obtain ⟨pu7_0, pu7_1⟩ := pu7
  refine L_pc C 662 rfl ?_
  refine L_pop C (oDec_at oLw_8 0 rfl) rfl ?_
  refine L_aload_n C (j := 2) (oDec_at oLw_8 1 rfl) rfl rfl ?_
  refine L_aload_n C (j := 0) (oDec_at oLw_8 2 rfl) rfl rfl ?_
  refine L_iload_n C (j := 3) (oDec_at oLw_8 3 rfl) rfl rfl ?_
  refine L_iconst C (oDec_at oLw_8 4 rfl) (v := k1) (by rw [qk1]; rfl) ?_
  obtain ⟨v9, ev9⟩ : ∃ z : Int32, z = x3 + k1 := ⟨_, rfl⟩
  have hv9 : v9.toInt = x3.toInt + k1.toInt := n_add ev9 (by omega) (by omega)
  refine L_iadd C v9 (oDec_at oLw_8 5 rfl) ev9 ?_
  refine L_sld C ⟨by omega, by omega⟩ (oDec_at oLw_8 6 rfl) ?_
  rw [show xs v9.toNatClampNeg = v2 from by rw [show v9.toNatClampNeg = v1.toNatClampNeg by have q1 := n_nat v9; have q2 := n_nat v1; omega]; exact ev2]
  refine L_aload_n C (j := 0) (oDec_at oLw_8 7 rfl) rfl rfl ?_
  refine L_iload_n C (j := 3) (oDec_at oLw_8 8 rfl) rfl rfl ?_
  refine L_iconst C (oDec_at oLw_8 9 rfl) (v := k2) (by rw [qk2]; rfl) ?_
  obtain ⟨v11, ev11⟩ : ∃ z : Int32, z = x3 + k2 := ⟨_, rfl⟩
  have hv11 : v11.toInt = x3.toInt + k2.toInt := n_add ev11 (by omega) (by omega)
  refine L_iadd C v11 (oDec_at oLw_8 10 rfl) ev11 ?_
  refine L_sld C ⟨by omega, by omega⟩ (oDec_at oLw_8 11 rfl) ?_
  rw [show xs v11.toNatClampNeg = v4 from by rw [show v11.toNatClampNeg = v3.toNatClampNeg by have q1 := n_nat v11; have q2 := n_nat v3; omega]; exact ev4]
  refine L_aload_n C (j := 0) (oDec_at oLw_8 12 rfl) rfl rfl ?_
  refine L_iload_n C (j := 3) (oDec_at oLw_8 13 rfl) rfl rfl ?_
  refine L_iconst C (oDec_at oLw_8 14 rfl) (v := k3) (by rw [qk3]; rfl) ?_
  obtain ⟨v13, ev13⟩ : ∃ z : Int32, z = x3 + k3 := ⟨_, rfl⟩
  have hv13 : v13.toInt = x3.toInt + k3.toInt := n_add ev13 (by omega) (by omega)
  refine L_iadd C v13 (oDec_at oLw_8 15 rfl) ev13 ?_
  refine L_sld C ⟨by omega, by omega⟩ (oDec_at oLw_8 16 rfl) ?_
  rw [show xs v13.toNatClampNeg = v6 from by rw [show v13.toNatClampNeg = v5.toNatClampNeg by have q1 := n_nat v13; have q2 := n_nat v5; omega]; exact ev6]
  refine L_callVi C oCl12 rfl miX12_together mlL_74 (ct_X12_together l E (u7) v2 v4 v6 (oBI_fr fu7 rfl iv2)) (by decide) rfl rfl rfl (Nat.le_of_ble_eq_true rfl) (oDec_at oLw_8 17 rfl) (fun r16 u15 pu15 fu15 => ?_)
  try dsimp only at pu15
  refine L_pc C 682 rfl ?_
  refine L_pop C (oDec_at oLw_8 18 rfl) rfl ?_
  refine L_goto C (tgt := 1453) (oDec_at oLw_8 19 rfl) (by decide) ?_
  obtain ⟨v17, ev17⟩ : ∃ z : Int32, x3 + Int32.ofInt 6 = z := ⟨_, rfl⟩
  have hv17 : v17.toInt = x3.toInt + 6 := n_inc ev17 (by decide) (by omega) (by omega)
  refine L_iinc C (j := 3) (lv' := [(0, .ref b), (1, .ref (oad E 0)), (2, .ref (oad E 71)), (3, .int v17)]) v17 [1, 2, 3, 0] (oDec_at oLw_20 21 rfl) rfl ev17 (by decide) rfl ?_
  refine L_goto C (tgt := 18) (oDec_at oLw_20 22 rfl) (by decide) ?_
  have lk18 : ((u15).1 71 38).toInt = (t.1 71 38).toInt := congrArg Int32.toInt (((fu15 71 38 rfl).1).trans ((fu7 71 38 rfl).1))
  have lk19 : ((u15).1 71 42).toInt = (t.1 71 42).toInt := congrArg Int32.toInt (((fu15 71 42 rfl).1).trans ((fu7 71 42 rfl).1))
  have lk20 : ((u15).1 1 1).toInt = (t.1 1 1).toInt := congrArg Int32.toInt (((fu15 1 1 rfl).1).trans ((fu7 1 1 rfl).1))
  have lk21 : ((u15).1 71 1).toInt = (t.1 71 1).toInt := congrArg Int32.toInt (((fu15 71 1 rfl).1).trans ((fu7 71 1 rfl).1))
  exact hgo (u15) v17 (oLT_fr fu15 rfl (oLT_fr fu7 rfl iv0)) (by omega) (oBI_fr fu15 rfl (oBI_fr fu7 rfl iv2)) ⟨⟨(oqE_fr fu15 rfl (oqE_fr fu7 rfl hE)), (oqWd_fr fu15 rfl (oqWd_fr fu7 rfl hWd)), _, _, _, ⟨b9, d9, (owBD_fr fu15 rfl (owBD_fr fu7 rfl hBD)), (owBC_fr fu15 rfl (owBC_fr fu7 rfl hBC)), (owME_fr fu15 rfl (owME_fr fu7 rfl hME)), (owKV_fr fu15 rfl pu7_0)⟩, (owLN_fr fu15 rfl (owLN_fr fu7 rfl hLN)), (owDN_fr fu15 rfl pu7_1), (owBE_fr fu15 rfl (owBE_fr fu7 rfl hBE)), (owMM_fr fu15 rfl (owMM_fr fu7 rfl hMM)), (owLO_fr fu15 rfl (owLO_fr fu7 rfl hLO))⟩, (owCZ_fr fu15 rfl (owCZ_fr fu7 rfl hCS)), _, _, _, (owBW_fr fu15 rfl (owBW_fr fu7 rfl hBW)), (owBY_fr fu15 rfl (owBY_fr fu7 rfl hBY)), hBR⟩ (by omega)
set_option maxHeartbeats 8000000 in
set_option maxRecDepth 100000 in
theorem lw_c14 {l : Launch} {b L kc sl : Nat} {xs : Nat → Int32} {E : oE} {J : oS → Nat → List (Nat × Value) → List Value → Prop} (C : oLC l b L xs E kc sl J) (hL : L ≤ 3072) {t : oS} {x3 : Int32} (iv0 : oLT t) (iv1 : 1 ≤ (t.1 71 38).toInt → 1 ≤ (t.1 71 42).toInt) (iv2 : oBI t) (iv3 : oqET t) (hx3 : 0 ≤ x3.toInt ∧ x3.toInt + 6 ≤ (L : Int)) (hgo : ∀ (t2 : oS) (y3 : Int32), oLT t2 → (1 ≤ (t2.1 71 38).toInt → 1 ≤ (t2.1 71 42).toInt) → oBI t2 → (oqET t2) → y3.toInt = x3.toInt + 6 → J t2 18 [(0, .ref b), (1, .ref (oad E 0)), (2, .ref (oad E 71)), (3, .int y3)] []) : J t 686 [(0, .ref b), (1, .ref (oad E 0)), (2, .ref (oad E 71)), (3, .int x3)] [] := by
  obtain ⟨k0, qk0⟩ : ∃ z : Int32, z = 0 := ⟨_, rfl⟩
  have ek0 : k0.toInt = 0 := by rw [qk0]; rfl
  obtain ⟨k1, qk1⟩ : ∃ z : Int32, z = 1 := ⟨_, rfl⟩
  have ek1 : k1.toInt = 1 := by rw [qk1]; rfl
  obtain ⟨k2, qk2⟩ : ∃ z : Int32, z = 2 := ⟨_, rfl⟩
  have ek2 : k2.toInt = 2 := by rw [qk2]; rfl
  obtain ⟨k3, qk3⟩ : ∃ z : Int32, z = 3 := ⟨_, rfl⟩
  have ek3 : k3.toInt = 3 := by rw [qk3]; rfl
  obtain ⟨k4, qk4⟩ : ∃ z : Int32, z = 4 := ⟨_, rfl⟩
  have ek4 : k4.toInt = 4 := by rw [qk4]; rfl
  obtain ⟨k5, qk5⟩ : ∃ z : Int32, z = 5 := ⟨_, rfl⟩
  have ek5 : k5.toInt = 5 := by rw [qk5]; rfl
  obtain ⟨⟨hE, hWd, R9, W9, m9, ⟨b9, d9, hBD, hBC, hME, hKV⟩, hLN, hDN, hBE, hMM, hLO⟩, hCS, D9, S9, K9, hBW, hBY, hBR⟩ := id iv3
  refine L_aload_n C (j := 1) (oDec_at oLw_8 20 rfl) rfl rfl ?_
  refine L_aload_n C (j := 0) (oDec_at oLw_8 21 rfl) rfl rfl ?_
  refine L_iload_n C (j := 3) (oDec_at oLw_8 22 rfl) rfl rfl ?_
  refine L_iconst C (oDec_at oLw_8 23 rfl) (v := k1) (by rw [qk1]; rfl) ?_
  obtain ⟨v1, ev1⟩ : ∃ z : Int32, z = x3 + k1 := ⟨_, rfl⟩
  have hv1 : v1.toInt = x3.toInt + k1.toInt := n_add ev1 (by omega) (by omega)
  refine L_iadd C v1 (oDec_at oLw_8 24 rfl) ev1 ?_
  refine L_sld C ⟨by omega, by omega⟩ (oDec_at oLw_8 25 rfl) ?_
  obtain ⟨v2, ev2⟩ : ∃ z : Int32, xs v1.toNatClampNeg = z := ⟨_, rfl⟩
  rw [ev2]
  have rv2 := n_rng v2
  refine L_aload_n C (j := 0) (oDec_at oLw_8 26 rfl) rfl rfl ?_
  refine L_iload_n C (j := 3) (oDec_at oLw_8 27 rfl) rfl rfl ?_
  refine L_iconst C (oDec_at oLw_8 28 rfl) (v := k2) (by rw [qk2]; rfl) ?_
  obtain ⟨v3, ev3⟩ : ∃ z : Int32, z = x3 + k2 := ⟨_, rfl⟩
  have hv3 : v3.toInt = x3.toInt + k2.toInt := n_add ev3 (by omega) (by omega)
  refine L_iadd C v3 (oDec_at oLw_8 29 rfl) ev3 ?_
  refine L_sld C ⟨by omega, by omega⟩ (oDec_at oLw_8 30 rfl) ?_
  obtain ⟨v4, ev4⟩ : ∃ z : Int32, xs v3.toNatClampNeg = z := ⟨_, rfl⟩
  rw [ev4]
  have rv4 := n_rng v4
  refine L_aload_n C (j := 0) (oDec_at oLw_8 31 rfl) rfl rfl ?_
  refine L_iload_n C (j := 3) (oDec_at oLw_8 32 rfl) rfl rfl ?_
  refine L_iconst C (oDec_at oLw_8 33 rfl) (v := k3) (by rw [qk3]; rfl) ?_
  obtain ⟨v5, ev5⟩ : ∃ z : Int32, z = x3 + k3 := ⟨_, rfl⟩
  have hv5 : v5.toInt = x3.toInt + k3.toInt := n_add ev5 (by omega) (by omega)
  refine L_iadd C v5 (oDec_at oLw_8 34 rfl) ev5 ?_
  refine L_sld C ⟨by omega, by omega⟩ (oDec_at oLw_8 35 rfl) ?_
  obtain ⟨v6, ev6⟩ : ∃ z : Int32, xs v5.toNatClampNeg = z := ⟨_, rfl⟩
  rw [ev6]
  have rv6 := n_rng v6
  refine L_callVi C oCl11 rfl miX11_broken mlL_75 (ct9_X11_broken l E (t) v2 v4 v6 b9 R9 W9 hBC hKV hLN hDN) (by decide) rfl rfl rfl (Nat.le_of_ble_eq_true rfl) (oDec_at oLw_8 36 rfl) (fun r8 u7 pu7 fu7 => ?_)
  try dsimp only at pu7
  obtain ⟨pu7_0, pu7_1⟩ := pu7
  refine L_pc C 705 rfl ?_
  refine L_pop C (oDec_at oLw_8 37 rfl) rfl ?_
  refine L_aload_n C (j := 2) (oDec_at oLw_8 38 rfl) rfl rfl ?_
  refine L_aload_n C (j := 0) (oDec_at oLw_8 39 rfl) rfl rfl ?_
  refine L_iload_n C (j := 3) (oDec_at oLw_8 40 rfl) rfl rfl ?_
  refine L_iconst C (oDec_at oLw_8 41 rfl) (v := k1) (by rw [qk1]; rfl) ?_
  obtain ⟨v9, ev9⟩ : ∃ z : Int32, z = x3 + k1 := ⟨_, rfl⟩
  have hv9 : v9.toInt = x3.toInt + k1.toInt := n_add ev9 (by omega) (by omega)
  refine L_iadd C v9 (oDec_at oLw_8 42 rfl) ev9 ?_
  refine L_sld C ⟨by omega, by omega⟩ (oDec_at oLw_8 43 rfl) ?_
  rw [show xs v9.toNatClampNeg = v2 from by rw [show v9.toNatClampNeg = v1.toNatClampNeg by have q1 := n_nat v9; have q2 := n_nat v1; omega]; exact ev2]
  refine L_aload_n C (j := 0) (oDec_at oLw_8 44 rfl) rfl rfl ?_
  refine L_iload_n C (j := 3) (oDec_at oLw_8 45 rfl) rfl rfl ?_
  refine L_iconst C (oDec_at oLw_8 46 rfl) (v := k2) (by rw [qk2]; rfl) ?_
  obtain ⟨v11, ev11⟩ : ∃ z : Int32, z = x3 + k2 := ⟨_, rfl⟩
  have hv11 : v11.toInt = x3.toInt + k2.toInt := n_add ev11 (by omega) (by omega)
  refine L_iadd C v11 (oDec_at oLw_8 47 rfl) ev11 ?_
  refine L_sld C ⟨by omega, by omega⟩ (oDec_at oLw_8 48 rfl) ?_
  rw [show xs v11.toNatClampNeg = v4 from by rw [show v11.toNatClampNeg = v3.toNatClampNeg by have q1 := n_nat v11; have q2 := n_nat v3; omega]; exact ev4]
  refine L_aload_n C (j := 0) (oDec_at oLw_8 49 rfl) rfl rfl ?_
  refine L_iload_n C (j := 3) (oDec_at oLw_9 0 rfl) rfl rfl ?_
  refine L_iconst C (oDec_at oLw_9 1 rfl) (v := k3) (by rw [qk3]; rfl) ?_
  obtain ⟨v13, ev13⟩ : ∃ z : Int32, z = x3 + k3 := ⟨_, rfl⟩
  have hv13 : v13.toInt = x3.toInt + k3.toInt := n_add ev13 (by omega) (by omega)
  refine L_iadd C v13 (oDec_at oLw_9 2 rfl) ev13 ?_
  refine L_sld C ⟨by omega, by omega⟩ (oDec_at oLw_9 3 rfl) ?_
  rw [show xs v13.toNatClampNeg = v6 from by rw [show v13.toNatClampNeg = v5.toNatClampNeg by have q1 := n_nat v13; have q2 := n_nat v5; omega]; exact ev6]
  refine L_callVi C oCl12 rfl miX12_broken mlL_78 (ct_X12_broken l E (u7) v2 v4 v6 (oBI_fr fu7 rfl iv2)) (by decide) rfl rfl rfl (Nat.le_of_ble_eq_true rfl) (oDec_at oLw_9 4 rfl) (fun r16 u15 pu15 fu15 => ?_)
  try dsimp only at pu15
  refine L_pc C 725 rfl ?_
  refine L_pop C (oDec_at oLw_9 5 rfl) rfl ?_
  refine L_goto C (tgt := 1453) (oDec_at oLw_9 6 rfl) (by decide) ?_
  obtain ⟨v17, ev17⟩ : ∃ z : Int32, x3 + Int32.ofInt 6 = z := ⟨_, rfl⟩
  have hv17 : v17.toInt = x3.toInt + 6 := n_inc ev17 (by decide) (by omega) (by omega)
  refine L_iinc C (j := 3) (lv' := [(0, .ref b), (1, .ref (oad E 0)), (2, .ref (oad E 71)), (3, .int v17)]) v17 [1, 2, 3, 0] (oDec_at oLw_20 21 rfl) rfl ev17 (by decide) rfl ?_
  refine L_goto C (tgt := 18) (oDec_at oLw_20 22 rfl) (by decide) ?_
  have lk18 : ((u15).1 71 38).toInt = (t.1 71 38).toInt := congrArg Int32.toInt (((fu15 71 38 rfl).1).trans ((fu7 71 38 rfl).1))
  have lk19 : ((u15).1 71 42).toInt = (t.1 71 42).toInt := congrArg Int32.toInt (((fu15 71 42 rfl).1).trans ((fu7 71 42 rfl).1))
  have lk20 : ((u15).1 1 1).toInt = (t.1 1 1).toInt := congrArg Int32.toInt (((fu15 1 1 rfl).1).trans ((fu7 1 1 rfl).1))
  have lk21 : ((u15).1 71 1).toInt = (t.1 71 1).toInt := congrArg Int32.toInt (((fu15 71 1 rfl).1).trans ((fu7 71 1 rfl).1))
  exact hgo (u15) v17 (oLT_fr fu15 rfl (oLT_fr fu7 rfl iv0)) (by omega) (oBI_fr fu15 rfl (oBI_fr fu7 rfl iv2)) ⟨⟨(oqE_fr fu15 rfl (oqE_fr fu7 rfl hE)), (oqWd_fr fu15 rfl (oqWd_fr fu7 rfl hWd)), _, _, _, ⟨b9, d9, (owBD_fr fu15 rfl (owBD_fr fu7 rfl hBD)), (owBC_fr fu15 rfl (owBC_fr fu7 rfl hBC)), (owME_fr fu15 rfl (owME_fr fu7 rfl hME)), (owKV_fr fu15 rfl pu7_0)⟩, (owLN_fr fu15 rfl (owLN_fr fu7 rfl hLN)), (owDN_fr fu15 rfl pu7_1), (owBE_fr fu15 rfl (owBE_fr fu7 rfl hBE)), (owMM_fr fu15 rfl (owMM_fr fu7 rfl hMM)), (owLO_fr fu15 rfl (owLO_fr fu7 rfl hLO))⟩, (owCZ_fr fu15 rfl (owCZ_fr fu7 rfl hCS)), _, _, _, (owBW_fr fu15 rfl (owBW_fr fu7 rfl hBW)), (owBY_fr fu15 rfl (owBY_fr fu7 rfl hBY)), hBR⟩ (by omega)
set_option maxHeartbeats 8000000 in
set_option maxRecDepth 100000 in
theorem lw_c15 {l : Launch} {b L kc sl : Nat} {xs : Nat → Int32} {E : oE} {J : oS → Nat → List (Nat × Value) → List Value → Prop} (C : oLC l b L xs E kc sl J) (hL : L ≤ 3072) {t : oS} {x3 : Int32} (iv0 : oLT t) (iv1 : 1 ≤ (t.1 71 38).toInt → 1 ≤ (t.1 71 42).toInt) (iv2 : oBI t) (iv3 : oqET t) (hx3 : 0 ≤ x3.toInt ∧ x3.toInt + 6 ≤ (L : Int)) (hgo : ∀ (t2 : oS) (y3 : Int32), oLT t2 → (1 ≤ (t2.1 71 38).toInt → 1 ≤ (t2.1 71 42).toInt) → oBI t2 → (oqET t2) → y3.toInt = x3.toInt + 6 → J t2 18 [(0, .ref b), (1, .ref (oad E 0)), (2, .ref (oad E 71)), (3, .int y3)] []) : J t 729 [(0, .ref b), (1, .ref (oad E 0)), (2, .ref (oad E 71)), (3, .int x3)] [] := by
  obtain ⟨k0, qk0⟩ : ∃ z : Int32, z = 0 := ⟨_, rfl⟩
  have ek0 : k0.toInt = 0 := by rw [qk0]; rfl
  obtain ⟨k1, qk1⟩ : ∃ z : Int32, z = 1 := ⟨_, rfl⟩
  have ek1 : k1.toInt = 1 := by rw [qk1]; rfl
  obtain ⟨k2, qk2⟩ : ∃ z : Int32, z = 2 := ⟨_, rfl⟩
  have ek2 : k2.toInt = 2 := by rw [qk2]; rfl
  obtain ⟨k3, qk3⟩ : ∃ z : Int32, z = 3 := ⟨_, rfl⟩
  have ek3 : k3.toInt = 3 := by rw [qk3]; rfl
  obtain ⟨k4, qk4⟩ : ∃ z : Int32, z = 4 := ⟨_, rfl⟩
  have ek4 : k4.toInt = 4 := by rw [qk4]; rfl
  obtain ⟨k5, qk5⟩ : ∃ z : Int32, z = 5 := ⟨_, rfl⟩
  have ek5 : k5.toInt = 5 := by rw [qk5]; rfl
  obtain ⟨⟨hE, hWd, R9, W9, m9, ⟨b9, d9, hBD, hBC, hME, hKV⟩, hLN, hDN, hBE, hMM, hLO⟩, hCS, D9, S9, K9, hBW, hBY, hBR⟩ := id iv3
  refine L_aload_n C (j := 1) (oDec_at oLw_9 7 rfl) rfl rfl ?_
  refine L_aload_n C (j := 0) (oDec_at oLw_9 8 rfl) rfl rfl ?_
  refine L_iload_n C (j := 3) (oDec_at oLw_9 9 rfl) rfl rfl ?_
  refine L_iconst C (oDec_at oLw_9 10 rfl) (v := k1) (by rw [qk1]; rfl) ?_
  obtain ⟨v1, ev1⟩ : ∃ z : Int32, z = x3 + k1 := ⟨_, rfl⟩
  have hv1 : v1.toInt = x3.toInt + k1.toInt := n_add ev1 (by omega) (by omega)
  refine L_iadd C v1 (oDec_at oLw_9 11 rfl) ev1 ?_
  refine L_sld C ⟨by omega, by omega⟩ (oDec_at oLw_9 12 rfl) ?_
  obtain ⟨v2, ev2⟩ : ∃ z : Int32, xs v1.toNatClampNeg = z := ⟨_, rfl⟩
  rw [ev2]
  have rv2 := n_rng v2
  refine L_aload_n C (j := 0) (oDec_at oLw_9 13 rfl) rfl rfl ?_
  refine L_iload_n C (j := 3) (oDec_at oLw_9 14 rfl) rfl rfl ?_
  refine L_iconst C (oDec_at oLw_9 15 rfl) (v := k2) (by rw [qk2]; rfl) ?_
  obtain ⟨v3, ev3⟩ : ∃ z : Int32, z = x3 + k2 := ⟨_, rfl⟩
  have hv3 : v3.toInt = x3.toInt + k2.toInt := n_add ev3 (by omega) (by omega)
  refine L_iadd C v3 (oDec_at oLw_9 16 rfl) ev3 ?_
  refine L_sld C ⟨by omega, by omega⟩ (oDec_at oLw_9 17 rfl) ?_
  obtain ⟨v4, ev4⟩ : ∃ z : Int32, xs v3.toNatClampNeg = z := ⟨_, rfl⟩
  rw [ev4]
  have rv4 := n_rng v4
  refine L_if_eq C 747 (oDec_at oLw_9 18 rfl) (by decide) (fun cd5 => ?_) (fun cd5 => ?_)
  · skip
    refine L_iconst C (oDec_at oLw_9 21 rfl) (v := k0) (by rw [qk0]; rfl) ?_
    refine L_callVi C oCl11 rfl miX11_span mlL_79 (ct_X11_span l E (t) v2 k0 (by omega)) (by decide) rfl rfl rfl (Nat.le_of_ble_eq_true rfl) (oDec_at oLw_9 22 rfl) (fun r7 u6 pu6 fu6 => ?_)
    try dsimp only at pu6
    refine L_pc C 751 rfl ?_
    refine L_pop C (oDec_at oLw_9 23 rfl) rfl ?_
    refine L_aload_n C (j := 2) (oDec_at oLw_9 24 rfl) rfl rfl ?_
    refine L_aload_n C (j := 0) (oDec_at oLw_9 25 rfl) rfl rfl ?_
    refine L_iload_n C (j := 3) (oDec_at oLw_9 26 rfl) rfl rfl ?_
    refine L_iconst C (oDec_at oLw_9 27 rfl) (v := k1) (by rw [qk1]; rfl) ?_
    obtain ⟨v8, ev8⟩ : ∃ z : Int32, z = x3 + k1 := ⟨_, rfl⟩
    have hv8 : v8.toInt = x3.toInt + k1.toInt := n_add ev8 (by omega) (by omega)
    refine L_iadd C v8 (oDec_at oLw_9 28 rfl) ev8 ?_
    refine L_sld C ⟨by omega, by omega⟩ (oDec_at oLw_9 29 rfl) ?_
    rw [show xs v8.toNatClampNeg = v2 from by rw [show v8.toNatClampNeg = v1.toNatClampNeg by have q1 := n_nat v8; have q2 := n_nat v1; omega]; exact ev2]
    refine L_aload_n C (j := 0) (oDec_at oLw_9 30 rfl) rfl rfl ?_
    refine L_iload_n C (j := 3) (oDec_at oLw_9 31 rfl) rfl rfl ?_
    refine L_iconst C (oDec_at oLw_9 32 rfl) (v := k2) (by rw [qk2]; rfl) ?_
    obtain ⟨v10, ev10⟩ : ∃ z : Int32, z = x3 + k2 := ⟨_, rfl⟩
    have hv10 : v10.toInt = x3.toInt + k2.toInt := n_add ev10 (by omega) (by omega)
    refine L_iadd C v10 (oDec_at oLw_9 33 rfl) ev10 ?_
    refine L_sld C ⟨by omega, by omega⟩ (oDec_at oLw_9 34 rfl) ?_
    rw [show xs v10.toNatClampNeg = v4 from by rw [show v10.toNatClampNeg = v3.toNatClampNeg by have q1 := n_nat v10; have q2 := n_nat v3; omega]; exact ev4]
    refine L_if_eq C 770 (oDec_at oLw_9 35 rfl) (by decide) (fun cd12 => ?_) (fun cd12 => ?_)
    · skip
      refine L_iconst C (oDec_at oLw_9 38 rfl) (v := k0) (by rw [qk0]; rfl) ?_
      refine L_callVi C oCl12 rfl miX12_span mlL_83 (ct_X12_span l E (u6) v2 k0 (by omega)) (by decide) rfl rfl rfl (Nat.le_of_ble_eq_true rfl) (oDec_at oLw_9 39 rfl) (fun r14 u13 pu13 fu13 => ?_)
      try dsimp only at pu13
      have hxu13 := oFr_nil fu13; subst hxu13
      refine L_pc C 774 rfl ?_
      refine L_pop C (oDec_at oLw_9 40 rfl) rfl ?_
      refine L_goto C (tgt := 1453) (oDec_at oLw_9 41 rfl) (by decide) ?_
      obtain ⟨v15, ev15⟩ : ∃ z : Int32, x3 + Int32.ofInt 6 = z := ⟨_, rfl⟩
      have hv15 : v15.toInt = x3.toInt + 6 := n_inc ev15 (by decide) (by omega) (by omega)
      refine L_iinc C (j := 3) (lv' := [(0, .ref b), (1, .ref (oad E 0)), (2, .ref (oad E 71)), (3, .int v15)]) v15 [1, 2, 3, 0] (oDec_at oLw_20 21 rfl) rfl ev15 (by decide) rfl ?_
      refine L_goto C (tgt := 18) (oDec_at oLw_20 22 rfl) (by decide) ?_
      have lk16 : ((u6).1 71 38).toInt = (t.1 71 38).toInt := congrArg Int32.toInt ((fu6 71 38 rfl).1)
      have lk17 : ((u6).1 71 42).toInt = (t.1 71 42).toInt := congrArg Int32.toInt ((fu6 71 42 rfl).1)
      exact hgo (u6) v15 (oLT_fr fu6 rfl iv0) (by omega) (oBI_fr fu6 rfl iv2) (oqET_fr fu6 rfl iv3) (by omega)
    · skip
      refine L_iconst C (oDec_at oLw_9 36 rfl) (v := k1) (by rw [qk1]; rfl) ?_
      refine L_goto C (tgt := 771) (oDec_at oLw_9 37 rfl) (by decide) ?_
      refine L_callVi C oCl12 rfl miX12_span mlL_83 (ct_X12_span l E (u6) v2 k1 (by omega)) (by decide) rfl rfl rfl (Nat.le_of_ble_eq_true rfl) (oDec_at oLw_9 39 rfl) (fun r19 u18 pu18 fu18 => ?_)
      try dsimp only at pu18
      have hxu18 := oFr_nil fu18; subst hxu18
      refine L_pc C 774 rfl ?_
      refine L_pop C (oDec_at oLw_9 40 rfl) rfl ?_
      refine L_goto C (tgt := 1453) (oDec_at oLw_9 41 rfl) (by decide) ?_
      obtain ⟨v20, ev20⟩ : ∃ z : Int32, x3 + Int32.ofInt 6 = z := ⟨_, rfl⟩
      have hv20 : v20.toInt = x3.toInt + 6 := n_inc ev20 (by decide) (by omega) (by omega)
      refine L_iinc C (j := 3) (lv' := [(0, .ref b), (1, .ref (oad E 0)), (2, .ref (oad E 71)), (3, .int v20)]) v20 [1, 2, 3, 0] (oDec_at oLw_20 21 rfl) rfl ev20 (by decide) rfl ?_
      refine L_goto C (tgt := 18) (oDec_at oLw_20 22 rfl) (by decide) ?_
      have lk21 : ((u6).1 71 38).toInt = (t.1 71 38).toInt := congrArg Int32.toInt ((fu6 71 38 rfl).1)
      have lk22 : ((u6).1 71 42).toInt = (t.1 71 42).toInt := congrArg Int32.toInt ((fu6 71 42 rfl).1)
      exact hgo (u6) v20 (oLT_fr fu6 rfl iv0) (by omega) (oBI_fr fu6 rfl iv2) (oqET_fr fu6 rfl iv3) (by omega)
  · skip
    refine L_iconst C (oDec_at oLw_9 19 rfl) (v := k1) (by rw [qk1]; rfl) ?_
    refine L_goto C (tgt := 748) (oDec_at oLw_9 20 rfl) (by decide) ?_
    refine L_callVi C oCl11 rfl miX11_span mlL_79 (ct_X11_span l E (t) v2 k1 (by omega)) (by decide) rfl rfl rfl (Nat.le_of_ble_eq_true rfl) (oDec_at oLw_9 22 rfl) (fun r24 u23 pu23 fu23 => ?_)
    try dsimp only at pu23
    refine L_pc C 751 rfl ?_
    refine L_pop C (oDec_at oLw_9 23 rfl) rfl ?_
    refine L_aload_n C (j := 2) (oDec_at oLw_9 24 rfl) rfl rfl ?_
    refine L_aload_n C (j := 0) (oDec_at oLw_9 25 rfl) rfl rfl ?_
    refine L_iload_n C (j := 3) (oDec_at oLw_9 26 rfl) rfl rfl ?_
    refine L_iconst C (oDec_at oLw_9 27 rfl) (v := k1) (by rw [qk1]; rfl) ?_
    obtain ⟨v25, ev25⟩ : ∃ z : Int32, z = x3 + k1 := ⟨_, rfl⟩
    have hv25 : v25.toInt = x3.toInt + k1.toInt := n_add ev25 (by omega) (by omega)
    refine L_iadd C v25 (oDec_at oLw_9 28 rfl) ev25 ?_
    refine L_sld C ⟨by omega, by omega⟩ (oDec_at oLw_9 29 rfl) ?_
    rw [show xs v25.toNatClampNeg = v2 from by rw [show v25.toNatClampNeg = v1.toNatClampNeg by have q1 := n_nat v25; have q2 := n_nat v1; omega]; exact ev2]
    refine L_aload_n C (j := 0) (oDec_at oLw_9 30 rfl) rfl rfl ?_
    refine L_iload_n C (j := 3) (oDec_at oLw_9 31 rfl) rfl rfl ?_
    refine L_iconst C (oDec_at oLw_9 32 rfl) (v := k2) (by rw [qk2]; rfl) ?_
    obtain ⟨v27, ev27⟩ : ∃ z : Int32, z = x3 + k2 := ⟨_, rfl⟩
    have hv27 : v27.toInt = x3.toInt + k2.toInt := n_add ev27 (by omega) (by omega)
    refine L_iadd C v27 (oDec_at oLw_9 33 rfl) ev27 ?_
    refine L_sld C ⟨by omega, by omega⟩ (oDec_at oLw_9 34 rfl) ?_
    rw [show xs v27.toNatClampNeg = v4 from by rw [show v27.toNatClampNeg = v3.toNatClampNeg by have q1 := n_nat v27; have q2 := n_nat v3; omega]; exact ev4]
    refine L_if_eq C 770 (oDec_at oLw_9 35 rfl) (by decide) (fun cd29 => ?_) (fun cd29 => ?_)
    · skip
      refine L_iconst C (oDec_at oLw_9 38 rfl) (v := k0) (by rw [qk0]; rfl) ?_
      refine L_callVi C oCl12 rfl miX12_span mlL_83 (ct_X12_span l E (u23) v2 k0 (by omega)) (by decide) rfl rfl rfl (Nat.le_of_ble_eq_true rfl) (oDec_at oLw_9 39 rfl) (fun r31 u30 pu30 fu30 => ?_)
      try dsimp only at pu30
      have hxu30 := oFr_nil fu30; subst hxu30
      refine L_pc C 774 rfl ?_
      refine L_pop C (oDec_at oLw_9 40 rfl) rfl ?_
      refine L_goto C (tgt := 1453) (oDec_at oLw_9 41 rfl) (by decide) ?_
      obtain ⟨v32, ev32⟩ : ∃ z : Int32, x3 + Int32.ofInt 6 = z := ⟨_, rfl⟩
      have hv32 : v32.toInt = x3.toInt + 6 := n_inc ev32 (by decide) (by omega) (by omega)
      refine L_iinc C (j := 3) (lv' := [(0, .ref b), (1, .ref (oad E 0)), (2, .ref (oad E 71)), (3, .int v32)]) v32 [1, 2, 3, 0] (oDec_at oLw_20 21 rfl) rfl ev32 (by decide) rfl ?_
      refine L_goto C (tgt := 18) (oDec_at oLw_20 22 rfl) (by decide) ?_
      have lk33 : ((u23).1 71 38).toInt = (t.1 71 38).toInt := congrArg Int32.toInt ((fu23 71 38 rfl).1)
      have lk34 : ((u23).1 71 42).toInt = (t.1 71 42).toInt := congrArg Int32.toInt ((fu23 71 42 rfl).1)
      exact hgo (u23) v32 (oLT_fr fu23 rfl iv0) (by omega) (oBI_fr fu23 rfl iv2) (oqET_fr fu23 rfl iv3) (by omega)
    · skip
      refine L_iconst C (oDec_at oLw_9 36 rfl) (v := k1) (by rw [qk1]; rfl) ?_
      refine L_goto C (tgt := 771) (oDec_at oLw_9 37 rfl) (by decide) ?_
      refine L_callVi C oCl12 rfl miX12_span mlL_83 (ct_X12_span l E (u23) v2 k1 (by omega)) (by decide) rfl rfl rfl (Nat.le_of_ble_eq_true rfl) (oDec_at oLw_9 39 rfl) (fun r36 u35 pu35 fu35 => ?_)
      try dsimp only at pu35
      have hxu35 := oFr_nil fu35; subst hxu35
      refine L_pc C 774 rfl ?_
      refine L_pop C (oDec_at oLw_9 40 rfl) rfl ?_
      refine L_goto C (tgt := 1453) (oDec_at oLw_9 41 rfl) (by decide) ?_
      obtain ⟨v37, ev37⟩ : ∃ z : Int32, x3 + Int32.ofInt 6 = z := ⟨_, rfl⟩
      have hv37 : v37.toInt = x3.toInt + 6 := n_inc ev37 (by decide) (by omega) (by omega)
      refine L_iinc C (j := 3) (lv' := [(0, .ref b), (1, .ref (oad E 0)), (2, .ref (oad E 71)), (3, .int v37)]) v37 [1, 2, 3, 0] (oDec_at oLw_20 21 rfl) rfl ev37 (by decide) rfl ?_
      refine L_goto C (tgt := 18) (oDec_at oLw_20 22 rfl) (by decide) ?_
      have lk38 : ((u23).1 71 38).toInt = (t.1 71 38).toInt := congrArg Int32.toInt ((fu23 71 38 rfl).1)
      have lk39 : ((u23).1 71 42).toInt = (t.1 71 42).toInt := congrArg Int32.toInt ((fu23 71 42 rfl).1)
      exact hgo (u23) v37 (oLT_fr fu23 rfl iv0) (by omega) (oBI_fr fu23 rfl iv2) (oqET_fr fu23 rfl iv3) (by omega)
set_option maxHeartbeats 8000000 in
set_option maxRecDepth 100000 in
theorem lw_c16 {l : Launch} {b L kc sl : Nat} {xs : Nat → Int32} {E : oE} {J : oS → Nat → List (Nat × Value) → List Value → Prop} (C : oLC l b L xs E kc sl J) (hL : L ≤ 3072) {t : oS} {x3 : Int32} (iv0 : oLT t) (iv1 : 1 ≤ (t.1 71 38).toInt → 1 ≤ (t.1 71 42).toInt) (iv2 : oBI t) (iv3 : oqET t) (hx3 : 0 ≤ x3.toInt ∧ x3.toInt + 6 ≤ (L : Int)) (hgo : ∀ (t2 : oS) (y3 : Int32), oLT t2 → (1 ≤ (t2.1 71 38).toInt → 1 ≤ (t2.1 71 42).toInt) → oBI t2 → (oqET t2) → y3.toInt = x3.toInt + 6 → J t2 18 [(0, .ref b), (1, .ref (oad E 0)), (2, .ref (oad E 71)), (3, .int y3)] []) : J t 778 [(0, .ref b), (1, .ref (oad E 0)), (2, .ref (oad E 71)), (3, .int x3)] [] := by
  obtain ⟨k0, qk0⟩ : ∃ z : Int32, z = 0 := ⟨_, rfl⟩
  have ek0 : k0.toInt = 0 := by rw [qk0]; rfl
  obtain ⟨k1, qk1⟩ : ∃ z : Int32, z = 1 := ⟨_, rfl⟩
  have ek1 : k1.toInt = 1 := by rw [qk1]; rfl
  obtain ⟨k2, qk2⟩ : ∃ z : Int32, z = 2 := ⟨_, rfl⟩
  have ek2 : k2.toInt = 2 := by rw [qk2]; rfl
  obtain ⟨k3, qk3⟩ : ∃ z : Int32, z = 3 := ⟨_, rfl⟩
  have ek3 : k3.toInt = 3 := by rw [qk3]; rfl
  obtain ⟨k4, qk4⟩ : ∃ z : Int32, z = 4 := ⟨_, rfl⟩
  have ek4 : k4.toInt = 4 := by rw [qk4]; rfl
  obtain ⟨k5, qk5⟩ : ∃ z : Int32, z = 5 := ⟨_, rfl⟩
  have ek5 : k5.toInt = 5 := by rw [qk5]; rfl
  obtain ⟨⟨hE, hWd, R9, W9, m9, ⟨b9, d9, hBD, hBC, hME, hKV⟩, hLN, hDN, hBE, hMM, hLO⟩, hCS, D9, S9, K9, hBW, hBY, hBR⟩ := id iv3
  refine L_aload_n C (j := 1) (oDec_at oLw_9 42 rfl) rfl rfl ?_
  refine L_aload_n C (j := 0) (oDec_at oLw_9 43 rfl) rfl rfl ?_
  refine L_iload_n C (j := 3) (oDec_at oLw_9 44 rfl) rfl rfl ?_
  refine L_iconst C (oDec_at oLw_9 45 rfl) (v := k1) (by rw [qk1]; rfl) ?_
  obtain ⟨v1, ev1⟩ : ∃ z : Int32, z = x3 + k1 := ⟨_, rfl⟩
  have hv1 : v1.toInt = x3.toInt + k1.toInt := n_add ev1 (by omega) (by omega)
  refine L_iadd C v1 (oDec_at oLw_9 46 rfl) ev1 ?_
  refine L_sld C ⟨by omega, by omega⟩ (oDec_at oLw_9 47 rfl) ?_
  obtain ⟨v2, ev2⟩ : ∃ z : Int32, xs v1.toNatClampNeg = z := ⟨_, rfl⟩
  rw [ev2]
  have rv2 := n_rng v2
  refine L_callVi C oCl11 rfl miX11_ways mlL_84 (ct9_X11_ways l E (t) v2 b9 R9 W9 hBC hKV hLN hDN) (by decide) rfl rfl rfl (Nat.le_of_ble_eq_true rfl) (oDec_at oLw_9 48 rfl) (fun r4 u3 pu3 fu3 => ?_)
  try dsimp only at pu3
  obtain ⟨pu3_0, pu3_1⟩ := pu3
  refine L_pc C 787 rfl ?_
  refine L_pop C (oDec_at oLw_9 49 rfl) rfl ?_
  refine L_aload_n C (j := 2) (oDec_at oLw_10 0 rfl) rfl rfl ?_
  refine L_aload_n C (j := 0) (oDec_at oLw_10 1 rfl) rfl rfl ?_
  refine L_iload_n C (j := 3) (oDec_at oLw_10 2 rfl) rfl rfl ?_
  refine L_iconst C (oDec_at oLw_10 3 rfl) (v := k1) (by rw [qk1]; rfl) ?_
  obtain ⟨v5, ev5⟩ : ∃ z : Int32, z = x3 + k1 := ⟨_, rfl⟩
  have hv5 : v5.toInt = x3.toInt + k1.toInt := n_add ev5 (by omega) (by omega)
  refine L_iadd C v5 (oDec_at oLw_10 4 rfl) ev5 ?_
  refine L_sld C ⟨by omega, by omega⟩ (oDec_at oLw_10 5 rfl) ?_
  rw [show xs v5.toNatClampNeg = v2 from by rw [show v5.toNatClampNeg = v1.toNatClampNeg by have q1 := n_nat v5; have q2 := n_nat v1; omega]; exact ev2]
  refine L_callVi C oCl12 rfl miX12_ways mlL_87 (ct_X12_ways l E (u3) v2 (oBI_fr fu3 rfl iv2)) (by decide) rfl rfl rfl (Nat.le_of_ble_eq_true rfl) (oDec_at oLw_10 6 rfl) (fun r8 u7 pu7 fu7 => ?_)
  try dsimp only at pu7
  refine L_pc C 797 rfl ?_
  refine L_pop C (oDec_at oLw_10 7 rfl) rfl ?_
  refine L_goto C (tgt := 1453) (oDec_at oLw_10 8 rfl) (by decide) ?_
  obtain ⟨v9, ev9⟩ : ∃ z : Int32, x3 + Int32.ofInt 6 = z := ⟨_, rfl⟩
  have hv9 : v9.toInt = x3.toInt + 6 := n_inc ev9 (by decide) (by omega) (by omega)
  refine L_iinc C (j := 3) (lv' := [(0, .ref b), (1, .ref (oad E 0)), (2, .ref (oad E 71)), (3, .int v9)]) v9 [1, 2, 3, 0] (oDec_at oLw_20 21 rfl) rfl ev9 (by decide) rfl ?_
  refine L_goto C (tgt := 18) (oDec_at oLw_20 22 rfl) (by decide) ?_
  have lk10 : ((u7).1 71 38).toInt = (t.1 71 38).toInt := congrArg Int32.toInt (((fu7 71 38 rfl).1).trans ((fu3 71 38 rfl).1))
  have lk11 : ((u7).1 71 42).toInt = (t.1 71 42).toInt := congrArg Int32.toInt (((fu7 71 42 rfl).1).trans ((fu3 71 42 rfl).1))
  have lk12 : ((u7).1 1 1).toInt = (t.1 1 1).toInt := congrArg Int32.toInt (((fu7 1 1 rfl).1).trans ((fu3 1 1 rfl).1))
  have lk13 : ((u7).1 71 1).toInt = (t.1 71 1).toInt := congrArg Int32.toInt (((fu7 71 1 rfl).1).trans ((fu3 71 1 rfl).1))
  exact hgo (u7) v9 (oLT_fr fu7 rfl (oLT_fr fu3 rfl iv0)) (by omega) (oBI_fr fu7 rfl (oBI_fr fu3 rfl iv2)) ⟨⟨(oqE_fr fu7 rfl (oqE_fr fu3 rfl hE)), (oqWd_fr fu7 rfl (oqWd_fr fu3 rfl hWd)), _, _, _, ⟨b9, d9, (owBD_fr fu7 rfl (owBD_fr fu3 rfl hBD)), (owBC_fr fu7 rfl (owBC_fr fu3 rfl hBC)), (owME_fr fu7 rfl (owME_fr fu3 rfl hME)), (owKV_fr fu7 rfl pu3_0)⟩, (owLN_fr fu7 rfl (owLN_fr fu3 rfl hLN)), (owDN_fr fu7 rfl pu3_1), (owBE_fr fu7 rfl (owBE_fr fu3 rfl hBE)), (owMM_fr fu7 rfl (owMM_fr fu3 rfl hMM)), (owLO_fr fu7 rfl (owLO_fr fu3 rfl hLO))⟩, (owCZ_fr fu7 rfl (owCZ_fr fu3 rfl hCS)), _, _, _, (owBW_fr fu7 rfl (owBW_fr fu3 rfl hBW)), (owBY_fr fu7 rfl (owBY_fr fu3 rfl hBY)), hBR⟩ (by omega)
set_option maxHeartbeats 8000000 in
set_option maxRecDepth 100000 in
theorem lw_c17 {l : Launch} {b L kc sl : Nat} {xs : Nat → Int32} {E : oE} {J : oS → Nat → List (Nat × Value) → List Value → Prop} (C : oLC l b L xs E kc sl J) (hL : L ≤ 3072) {t : oS} {x3 : Int32} (iv0 : oLT t) (iv1 : 1 ≤ (t.1 71 38).toInt → 1 ≤ (t.1 71 42).toInt) (iv2 : oBI t) (iv3 : oqET t) (hx3 : 0 ≤ x3.toInt ∧ x3.toInt + 6 ≤ (L : Int)) (hgo : ∀ (t2 : oS) (y3 : Int32), oLT t2 → (1 ≤ (t2.1 71 38).toInt → 1 ≤ (t2.1 71 42).toInt) → oBI t2 → (oqET t2) → y3.toInt = x3.toInt + 6 → J t2 18 [(0, .ref b), (1, .ref (oad E 0)), (2, .ref (oad E 71)), (3, .int y3)] []) : J t 801 [(0, .ref b), (1, .ref (oad E 0)), (2, .ref (oad E 71)), (3, .int x3)] [] := by
  obtain ⟨k0, qk0⟩ : ∃ z : Int32, z = 0 := ⟨_, rfl⟩
  have ek0 : k0.toInt = 0 := by rw [qk0]; rfl
  obtain ⟨k1, qk1⟩ : ∃ z : Int32, z = 1 := ⟨_, rfl⟩
  have ek1 : k1.toInt = 1 := by rw [qk1]; rfl
  obtain ⟨k2, qk2⟩ : ∃ z : Int32, z = 2 := ⟨_, rfl⟩
  have ek2 : k2.toInt = 2 := by rw [qk2]; rfl
  obtain ⟨k3, qk3⟩ : ∃ z : Int32, z = 3 := ⟨_, rfl⟩
  have ek3 : k3.toInt = 3 := by rw [qk3]; rfl
  obtain ⟨k4, qk4⟩ : ∃ z : Int32, z = 4 := ⟨_, rfl⟩
  have ek4 : k4.toInt = 4 := by rw [qk4]; rfl
  obtain ⟨k5, qk5⟩ : ∃ z : Int32, z = 5 := ⟨_, rfl⟩
  have ek5 : k5.toInt = 5 := by rw [qk5]; rfl
  obtain ⟨⟨hE, hWd, R9, W9, m9, ⟨b9, d9, hBD, hBC, hME, hKV⟩, hLN, hDN, hBE, hMM, hLO⟩, hCS, D9, S9, K9, hBW, hBY, hBR⟩ := id iv3
  refine L_aload_n C (j := 1) (oDec_at oLw_10 9 rfl) rfl rfl ?_
  refine L_aload_n C (j := 0) (oDec_at oLw_10 10 rfl) rfl rfl ?_
  refine L_iload_n C (j := 3) (oDec_at oLw_10 11 rfl) rfl rfl ?_
  refine L_iconst C (oDec_at oLw_10 12 rfl) (v := k1) (by rw [qk1]; rfl) ?_
  obtain ⟨v1, ev1⟩ : ∃ z : Int32, z = x3 + k1 := ⟨_, rfl⟩
  have hv1 : v1.toInt = x3.toInt + k1.toInt := n_add ev1 (by omega) (by omega)
  refine L_iadd C v1 (oDec_at oLw_10 13 rfl) ev1 ?_
  refine L_sld C ⟨by omega, by omega⟩ (oDec_at oLw_10 14 rfl) ?_
  obtain ⟨v2, ev2⟩ : ∃ z : Int32, xs v1.toNatClampNeg = z := ⟨_, rfl⟩
  rw [ev2]
  have rv2 := n_rng v2
  refine L_aload_n C (j := 0) (oDec_at oLw_10 15 rfl) rfl rfl ?_
  refine L_iload_n C (j := 3) (oDec_at oLw_10 16 rfl) rfl rfl ?_
  refine L_iconst C (oDec_at oLw_10 17 rfl) (v := k2) (by rw [qk2]; rfl) ?_
  obtain ⟨v3, ev3⟩ : ∃ z : Int32, z = x3 + k2 := ⟨_, rfl⟩
  have hv3 : v3.toInt = x3.toInt + k2.toInt := n_add ev3 (by omega) (by omega)
  refine L_iadd C v3 (oDec_at oLw_10 18 rfl) ev3 ?_
  refine L_sld C ⟨by omega, by omega⟩ (oDec_at oLw_10 19 rfl) ?_
  obtain ⟨v4, ev4⟩ : ∃ z : Int32, xs v3.toNatClampNeg = z := ⟨_, rfl⟩
  rw [ev4]
  have rv4 := n_rng v4
  refine L_aload_n C (j := 0) (oDec_at oLw_10 20 rfl) rfl rfl ?_
  refine L_iload_n C (j := 3) (oDec_at oLw_10 21 rfl) rfl rfl ?_
  refine L_iconst C (oDec_at oLw_10 22 rfl) (v := k3) (by rw [qk3]; rfl) ?_
  obtain ⟨v5, ev5⟩ : ∃ z : Int32, z = x3 + k3 := ⟨_, rfl⟩
  have hv5 : v5.toInt = x3.toInt + k3.toInt := n_add ev5 (by omega) (by omega)
  refine L_iadd C v5 (oDec_at oLw_10 23 rfl) ev5 ?_
  refine L_sld C ⟨by omega, by omega⟩ (oDec_at oLw_10 24 rfl) ?_
  obtain ⟨v6, ev6⟩ : ∃ z : Int32, xs v5.toNatClampNeg = z := ⟨_, rfl⟩
  rw [ev6]
  have rv6 := n_rng v6
  refine L_callVi C oCl11 rfl miX11_way mlL_88 (ct9_X11_way l E (t) v2 v4 v6 b9 R9 W9 hBC hKV hLN hDN) (by decide) rfl rfl rfl (Nat.le_of_ble_eq_true rfl) (oDec_at oLw_10 25 rfl) (fun r8 u7 pu7 fu7 => ?_)
  try dsimp only at pu7
  obtain ⟨pu7_0, pu7_1⟩ := pu7
  refine L_pc C 820 rfl ?_
  refine L_pop C (oDec_at oLw_10 26 rfl) rfl ?_
  refine L_aload_n C (j := 2) (oDec_at oLw_10 27 rfl) rfl rfl ?_
  refine L_aload_n C (j := 0) (oDec_at oLw_10 28 rfl) rfl rfl ?_
  refine L_iload_n C (j := 3) (oDec_at oLw_10 29 rfl) rfl rfl ?_
  refine L_iconst C (oDec_at oLw_10 30 rfl) (v := k1) (by rw [qk1]; rfl) ?_
  obtain ⟨v9, ev9⟩ : ∃ z : Int32, z = x3 + k1 := ⟨_, rfl⟩
  have hv9 : v9.toInt = x3.toInt + k1.toInt := n_add ev9 (by omega) (by omega)
  refine L_iadd C v9 (oDec_at oLw_10 31 rfl) ev9 ?_
  refine L_sld C ⟨by omega, by omega⟩ (oDec_at oLw_10 32 rfl) ?_
  rw [show xs v9.toNatClampNeg = v2 from by rw [show v9.toNatClampNeg = v1.toNatClampNeg by have q1 := n_nat v9; have q2 := n_nat v1; omega]; exact ev2]
  refine L_aload_n C (j := 0) (oDec_at oLw_10 33 rfl) rfl rfl ?_
  refine L_iload_n C (j := 3) (oDec_at oLw_10 34 rfl) rfl rfl ?_
  refine L_iconst C (oDec_at oLw_10 35 rfl) (v := k2) (by rw [qk2]; rfl) ?_
  obtain ⟨v11, ev11⟩ : ∃ z : Int32, z = x3 + k2 := ⟨_, rfl⟩
  have hv11 : v11.toInt = x3.toInt + k2.toInt := n_add ev11 (by omega) (by omega)
  refine L_iadd C v11 (oDec_at oLw_10 36 rfl) ev11 ?_
  refine L_sld C ⟨by omega, by omega⟩ (oDec_at oLw_10 37 rfl) ?_
  rw [show xs v11.toNatClampNeg = v4 from by rw [show v11.toNatClampNeg = v3.toNatClampNeg by have q1 := n_nat v11; have q2 := n_nat v3; omega]; exact ev4]
  refine L_aload_n C (j := 0) (oDec_at oLw_10 38 rfl) rfl rfl ?_
  refine L_iload_n C (j := 3) (oDec_at oLw_10 39 rfl) rfl rfl ?_
  refine L_iconst C (oDec_at oLw_10 40 rfl) (v := k3) (by rw [qk3]; rfl) ?_
  obtain ⟨v13, ev13⟩ : ∃ z : Int32, z = x3 + k3 := ⟨_, rfl⟩
  have hv13 : v13.toInt = x3.toInt + k3.toInt := n_add ev13 (by omega) (by omega)
  refine L_iadd C v13 (oDec_at oLw_10 41 rfl) ev13 ?_
  refine L_sld C ⟨by omega, by omega⟩ (oDec_at oLw_10 42 rfl) ?_
  rw [show xs v13.toNatClampNeg = v6 from by rw [show v13.toNatClampNeg = v5.toNatClampNeg by have q1 := n_nat v13; have q2 := n_nat v5; omega]; exact ev6]
  refine L_callVi C oCl12 rfl miX12_way mlL_91 (ct_X12_way l E (u7) v2 v4 v6 (oBI_fr fu7 rfl iv2)) (by decide) rfl rfl rfl (Nat.le_of_ble_eq_true rfl) (oDec_at oLw_10 43 rfl) (fun r16 u15 pu15 fu15 => ?_)
  try dsimp only at pu15
  refine L_pc C 840 rfl ?_
  refine L_pop C (oDec_at oLw_10 44 rfl) rfl ?_
  refine L_goto C (tgt := 1453) (oDec_at oLw_10 45 rfl) (by decide) ?_
  obtain ⟨v17, ev17⟩ : ∃ z : Int32, x3 + Int32.ofInt 6 = z := ⟨_, rfl⟩
  have hv17 : v17.toInt = x3.toInt + 6 := n_inc ev17 (by decide) (by omega) (by omega)
  refine L_iinc C (j := 3) (lv' := [(0, .ref b), (1, .ref (oad E 0)), (2, .ref (oad E 71)), (3, .int v17)]) v17 [1, 2, 3, 0] (oDec_at oLw_20 21 rfl) rfl ev17 (by decide) rfl ?_
  refine L_goto C (tgt := 18) (oDec_at oLw_20 22 rfl) (by decide) ?_
  have lk18 : ((u15).1 71 38).toInt = (t.1 71 38).toInt := congrArg Int32.toInt (((fu15 71 38 rfl).1).trans ((fu7 71 38 rfl).1))
  have lk19 : ((u15).1 71 42).toInt = (t.1 71 42).toInt := congrArg Int32.toInt (((fu15 71 42 rfl).1).trans ((fu7 71 42 rfl).1))
  have lk20 : ((u15).1 1 1).toInt = (t.1 1 1).toInt := congrArg Int32.toInt (((fu15 1 1 rfl).1).trans ((fu7 1 1 rfl).1))
  have lk21 : ((u15).1 71 1).toInt = (t.1 71 1).toInt := congrArg Int32.toInt (((fu15 71 1 rfl).1).trans ((fu7 71 1 rfl).1))
  exact hgo (u15) v17 (oLT_fr fu15 rfl (oLT_fr fu7 rfl iv0)) (by omega) (oBI_fr fu15 rfl (oBI_fr fu7 rfl iv2)) ⟨⟨(oqE_fr fu15 rfl (oqE_fr fu7 rfl hE)), (oqWd_fr fu15 rfl (oqWd_fr fu7 rfl hWd)), _, _, _, ⟨b9, d9, (owBD_fr fu15 rfl (owBD_fr fu7 rfl hBD)), (owBC_fr fu15 rfl (owBC_fr fu7 rfl hBC)), (owME_fr fu15 rfl (owME_fr fu7 rfl hME)), (owKV_fr fu15 rfl pu7_0)⟩, (owLN_fr fu15 rfl (owLN_fr fu7 rfl hLN)), (owDN_fr fu15 rfl pu7_1), (owBE_fr fu15 rfl (owBE_fr fu7 rfl hBE)), (owMM_fr fu15 rfl (owMM_fr fu7 rfl hMM)), (owLO_fr fu15 rfl (owLO_fr fu7 rfl hLO))⟩, (owCZ_fr fu15 rfl (owCZ_fr fu7 rfl hCS)), _, _, _, (owBW_fr fu15 rfl (owBW_fr fu7 rfl hBW)), (owBY_fr fu15 rfl (owBY_fr fu7 rfl hBY)), hBR⟩ (by omega)
set_option maxHeartbeats 8000000 in
set_option maxRecDepth 100000 in
theorem lw_c18 {l : Launch} {b L kc sl : Nat} {xs : Nat → Int32} {E : oE} {J : oS → Nat → List (Nat × Value) → List Value → Prop} (C : oLC l b L xs E kc sl J) (hL : L ≤ 3072) {t : oS} {x3 : Int32} (iv0 : oLT t) (iv1 : 1 ≤ (t.1 71 38).toInt → 1 ≤ (t.1 71 42).toInt) (iv2 : oBI t) (iv3 : oqET t) (hx3 : 0 ≤ x3.toInt ∧ x3.toInt + 6 ≤ (L : Int)) (hgo : ∀ (t2 : oS) (y3 : Int32), oLT t2 → (1 ≤ (t2.1 71 38).toInt → 1 ≤ (t2.1 71 42).toInt) → oBI t2 → (oqET t2) → y3.toInt = x3.toInt + 6 → J t2 18 [(0, .ref b), (1, .ref (oad E 0)), (2, .ref (oad E 71)), (3, .int y3)] []) : J t 844 [(0, .ref b), (1, .ref (oad E 0)), (2, .ref (oad E 71)), (3, .int x3)] [] := by
  obtain ⟨k0, qk0⟩ : ∃ z : Int32, z = 0 := ⟨_, rfl⟩
  have ek0 : k0.toInt = 0 := by rw [qk0]; rfl
  obtain ⟨k1, qk1⟩ : ∃ z : Int32, z = 1 := ⟨_, rfl⟩
  have ek1 : k1.toInt = 1 := by rw [qk1]; rfl
  obtain ⟨k2, qk2⟩ : ∃ z : Int32, z = 2 := ⟨_, rfl⟩
  have ek2 : k2.toInt = 2 := by rw [qk2]; rfl
  obtain ⟨k3, qk3⟩ : ∃ z : Int32, z = 3 := ⟨_, rfl⟩
  have ek3 : k3.toInt = 3 := by rw [qk3]; rfl
  obtain ⟨k4, qk4⟩ : ∃ z : Int32, z = 4 := ⟨_, rfl⟩
  have ek4 : k4.toInt = 4 := by rw [qk4]; rfl
  obtain ⟨k5, qk5⟩ : ∃ z : Int32, z = 5 := ⟨_, rfl⟩
  have ek5 : k5.toInt = 5 := by rw [qk5]; rfl
  obtain ⟨⟨hE, hWd, R9, W9, m9, ⟨b9, d9, hBD, hBC, hME, hKV⟩, hLN, hDN, hBE, hMM, hLO⟩, hCS, D9, S9, K9, hBW, hBY, hBR⟩ := id iv3
  refine L_aload_n C (j := 1) (oDec_at oLw_10 46 rfl) rfl rfl ?_
  refine L_aload_n C (j := 0) (oDec_at oLw_10 47 rfl) rfl rfl ?_
  refine L_iload_n C (j := 3) (oDec_at oLw_10 48 rfl) rfl rfl ?_
  refine L_iconst C (oDec_at oLw_10 49 rfl) (v := k1) (by rw [qk1]; rfl) ?_
  obtain ⟨v1, ev1⟩ : ∃ z : Int32, z = x3 + k1 := ⟨_, rfl⟩
  have hv1 : v1.toInt = x3.toInt + k1.toInt := n_add ev1 (by omega) (by omega)
  refine L_iadd C v1 (oDec_at oLw_11 0 rfl) ev1 ?_
  refine L_sld C ⟨by omega, by omega⟩ (oDec_at oLw_11 1 rfl) ?_
  obtain ⟨v2, ev2⟩ : ∃ z : Int32, xs v1.toNatClampNeg = z := ⟨_, rfl⟩
  rw [ev2]
  have rv2 := n_rng v2
  refine L_callVi C oCl11 rfl miX11_signs mlL_92 (ct9_X11_signs l E (t) v2 b9 R9 W9 hBC hKV hLN hDN) (by decide) rfl rfl rfl (Nat.le_of_ble_eq_true rfl) (oDec_at oLw_11 2 rfl) (fun r4 u3 pu3 fu3 => ?_)
  try dsimp only at pu3
  obtain ⟨pu3_0, pu3_1⟩ := pu3
  refine L_pc C 853 rfl ?_
  refine L_pop C (oDec_at oLw_11 3 rfl) rfl ?_
  refine L_aload_n C (j := 2) (oDec_at oLw_11 4 rfl) rfl rfl ?_
  refine L_aload_n C (j := 0) (oDec_at oLw_11 5 rfl) rfl rfl ?_
  refine L_iload_n C (j := 3) (oDec_at oLw_11 6 rfl) rfl rfl ?_
  refine L_iconst C (oDec_at oLw_11 7 rfl) (v := k1) (by rw [qk1]; rfl) ?_
  obtain ⟨v5, ev5⟩ : ∃ z : Int32, z = x3 + k1 := ⟨_, rfl⟩
  have hv5 : v5.toInt = x3.toInt + k1.toInt := n_add ev5 (by omega) (by omega)
  refine L_iadd C v5 (oDec_at oLw_11 8 rfl) ev5 ?_
  refine L_sld C ⟨by omega, by omega⟩ (oDec_at oLw_11 9 rfl) ?_
  rw [show xs v5.toNatClampNeg = v2 from by rw [show v5.toNatClampNeg = v1.toNatClampNeg by have q1 := n_nat v5; have q2 := n_nat v1; omega]; exact ev2]
  refine L_callVi C oCl12 rfl miX12_signs mlL_95 (ct_X12_signs l E (u3) v2 (oBI_fr fu3 rfl iv2)) (by decide) rfl rfl rfl (Nat.le_of_ble_eq_true rfl) (oDec_at oLw_11 10 rfl) (fun r8 u7 pu7 fu7 => ?_)
  try dsimp only at pu7
  refine L_pc C 863 rfl ?_
  refine L_pop C (oDec_at oLw_11 11 rfl) rfl ?_
  refine L_goto C (tgt := 1453) (oDec_at oLw_11 12 rfl) (by decide) ?_
  obtain ⟨v9, ev9⟩ : ∃ z : Int32, x3 + Int32.ofInt 6 = z := ⟨_, rfl⟩
  have hv9 : v9.toInt = x3.toInt + 6 := n_inc ev9 (by decide) (by omega) (by omega)
  refine L_iinc C (j := 3) (lv' := [(0, .ref b), (1, .ref (oad E 0)), (2, .ref (oad E 71)), (3, .int v9)]) v9 [1, 2, 3, 0] (oDec_at oLw_20 21 rfl) rfl ev9 (by decide) rfl ?_
  refine L_goto C (tgt := 18) (oDec_at oLw_20 22 rfl) (by decide) ?_
  have lk10 : ((u7).1 71 38).toInt = (t.1 71 38).toInt := congrArg Int32.toInt (((fu7 71 38 rfl).1).trans ((fu3 71 38 rfl).1))
  have lk11 : ((u7).1 71 42).toInt = (t.1 71 42).toInt := congrArg Int32.toInt (((fu7 71 42 rfl).1).trans ((fu3 71 42 rfl).1))
  have lk12 : ((u7).1 1 1).toInt = (t.1 1 1).toInt := congrArg Int32.toInt (((fu7 1 1 rfl).1).trans ((fu3 1 1 rfl).1))
  have lk13 : ((u7).1 71 1).toInt = (t.1 71 1).toInt := congrArg Int32.toInt (((fu7 71 1 rfl).1).trans ((fu3 71 1 rfl).1))
  exact hgo (u7) v9 (oLT_fr fu7 rfl (oLT_fr fu3 rfl iv0)) (by omega) (oBI_fr fu7 rfl (oBI_fr fu3 rfl iv2)) ⟨⟨(oqE_fr fu7 rfl (oqE_fr fu3 rfl hE)), (oqWd_fr fu7 rfl (oqWd_fr fu3 rfl hWd)), _, _, _, ⟨b9, d9, (owBD_fr fu7 rfl (owBD_fr fu3 rfl hBD)), (owBC_fr fu7 rfl (owBC_fr fu3 rfl hBC)), (owME_fr fu7 rfl (owME_fr fu3 rfl hME)), (owKV_fr fu7 rfl pu3_0)⟩, (owLN_fr fu7 rfl (owLN_fr fu3 rfl hLN)), (owDN_fr fu7 rfl pu3_1), (owBE_fr fu7 rfl (owBE_fr fu3 rfl hBE)), (owMM_fr fu7 rfl (owMM_fr fu3 rfl hMM)), (owLO_fr fu7 rfl (owLO_fr fu3 rfl hLO))⟩, (owCZ_fr fu7 rfl (owCZ_fr fu3 rfl hCS)), _, _, _, (owBW_fr fu7 rfl (owBW_fr fu3 rfl hBW)), (owBY_fr fu7 rfl (owBY_fr fu3 rfl hBY)), hBR⟩ (by omega)
set_option maxHeartbeats 8000000 in
set_option maxRecDepth 100000 in
theorem lw_c19 {l : Launch} {b L kc sl : Nat} {xs : Nat → Int32} {E : oE} {J : oS → Nat → List (Nat × Value) → List Value → Prop} (C : oLC l b L xs E kc sl J) (hL : L ≤ 3072) {t : oS} {x3 : Int32} (iv0 : oLT t) (iv1 : 1 ≤ (t.1 71 38).toInt → 1 ≤ (t.1 71 42).toInt) (iv2 : oBI t) (iv3 : oqET t) (hx3 : 0 ≤ x3.toInt ∧ x3.toInt + 6 ≤ (L : Int)) (hgo : ∀ (t2 : oS) (y3 : Int32), oLT t2 → (1 ≤ (t2.1 71 38).toInt → 1 ≤ (t2.1 71 42).toInt) → oBI t2 → (oqET t2) → y3.toInt = x3.toInt + 6 → J t2 18 [(0, .ref b), (1, .ref (oad E 0)), (2, .ref (oad E 71)), (3, .int y3)] []) : J t 867 [(0, .ref b), (1, .ref (oad E 0)), (2, .ref (oad E 71)), (3, .int x3)] [] := by
  obtain ⟨k0, qk0⟩ : ∃ z : Int32, z = 0 := ⟨_, rfl⟩
  have ek0 : k0.toInt = 0 := by rw [qk0]; rfl
  obtain ⟨k1, qk1⟩ : ∃ z : Int32, z = 1 := ⟨_, rfl⟩
  have ek1 : k1.toInt = 1 := by rw [qk1]; rfl
  obtain ⟨k2, qk2⟩ : ∃ z : Int32, z = 2 := ⟨_, rfl⟩
  have ek2 : k2.toInt = 2 := by rw [qk2]; rfl
  obtain ⟨k3, qk3⟩ : ∃ z : Int32, z = 3 := ⟨_, rfl⟩
  have ek3 : k3.toInt = 3 := by rw [qk3]; rfl
  obtain ⟨k4, qk4⟩ : ∃ z : Int32, z = 4 := ⟨_, rfl⟩
  have ek4 : k4.toInt = 4 := by rw [qk4]; rfl
  obtain ⟨k5, qk5⟩ : ∃ z : Int32, z = 5 := ⟨_, rfl⟩
  have ek5 : k5.toInt = 5 := by rw [qk5]; rfl
  obtain ⟨⟨hE, hWd, R9, W9, m9, ⟨b9, d9, hBD, hBC, hME, hKV⟩, hLN, hDN, hBE, hMM, hLO⟩, hCS, D9, S9, K9, hBW, hBY, hBR⟩ := id iv3
  refine L_aload_n C (j := 1) (oDec_at oLw_11 13 rfl) rfl rfl ?_
  refine L_aload_n C (j := 0) (oDec_at oLw_11 14 rfl) rfl rfl ?_
  refine L_iload_n C (j := 3) (oDec_at oLw_11 15 rfl) rfl rfl ?_
  refine L_iconst C (oDec_at oLw_11 16 rfl) (v := k1) (by rw [qk1]; rfl) ?_
  obtain ⟨v1, ev1⟩ : ∃ z : Int32, z = x3 + k1 := ⟨_, rfl⟩
  have hv1 : v1.toInt = x3.toInt + k1.toInt := n_add ev1 (by omega) (by omega)
  refine L_iadd C v1 (oDec_at oLw_11 17 rfl) ev1 ?_
  refine L_sld C ⟨by omega, by omega⟩ (oDec_at oLw_11 18 rfl) ?_
  obtain ⟨v2, ev2⟩ : ∃ z : Int32, xs v1.toNatClampNeg = z := ⟨_, rfl⟩
  rw [ev2]
  have rv2 := n_rng v2
  refine L_aload_n C (j := 0) (oDec_at oLw_11 19 rfl) rfl rfl ?_
  refine L_iload_n C (j := 3) (oDec_at oLw_11 20 rfl) rfl rfl ?_
  refine L_iconst C (oDec_at oLw_11 21 rfl) (v := k2) (by rw [qk2]; rfl) ?_
  obtain ⟨v3, ev3⟩ : ∃ z : Int32, z = x3 + k2 := ⟨_, rfl⟩
  have hv3 : v3.toInt = x3.toInt + k2.toInt := n_add ev3 (by omega) (by omega)
  refine L_iadd C v3 (oDec_at oLw_11 22 rfl) ev3 ?_
  refine L_sld C ⟨by omega, by omega⟩ (oDec_at oLw_11 23 rfl) ?_
  obtain ⟨v4, ev4⟩ : ∃ z : Int32, xs v3.toNatClampNeg = z := ⟨_, rfl⟩
  rw [ev4]
  have rv4 := n_rng v4
  refine L_callVi C oCl11 rfl miX11_like mlL_96 (ct9_X11_like l E (t) v2 v4 b9 R9 W9 hBC hKV hLN hDN) (by decide) rfl rfl rfl (Nat.le_of_ble_eq_true rfl) (oDec_at oLw_11 24 rfl) (fun r6 u5 pu5 fu5 => ?_)
  try dsimp only at pu5
  obtain ⟨pu5_0, pu5_1⟩ := pu5
  refine L_pc C 881 rfl ?_
  refine L_pop C (oDec_at oLw_11 25 rfl) rfl ?_
  refine L_aload_n C (j := 2) (oDec_at oLw_11 26 rfl) rfl rfl ?_
  refine L_aload_n C (j := 0) (oDec_at oLw_11 27 rfl) rfl rfl ?_
  refine L_iload_n C (j := 3) (oDec_at oLw_11 28 rfl) rfl rfl ?_
  refine L_iconst C (oDec_at oLw_11 29 rfl) (v := k1) (by rw [qk1]; rfl) ?_
  obtain ⟨v7, ev7⟩ : ∃ z : Int32, z = x3 + k1 := ⟨_, rfl⟩
  have hv7 : v7.toInt = x3.toInt + k1.toInt := n_add ev7 (by omega) (by omega)
  refine L_iadd C v7 (oDec_at oLw_11 30 rfl) ev7 ?_
  refine L_sld C ⟨by omega, by omega⟩ (oDec_at oLw_11 31 rfl) ?_
  rw [show xs v7.toNatClampNeg = v2 from by rw [show v7.toNatClampNeg = v1.toNatClampNeg by have q1 := n_nat v7; have q2 := n_nat v1; omega]; exact ev2]
  refine L_aload_n C (j := 0) (oDec_at oLw_11 32 rfl) rfl rfl ?_
  refine L_iload_n C (j := 3) (oDec_at oLw_11 33 rfl) rfl rfl ?_
  refine L_iconst C (oDec_at oLw_11 34 rfl) (v := k2) (by rw [qk2]; rfl) ?_
  obtain ⟨v9, ev9⟩ : ∃ z : Int32, z = x3 + k2 := ⟨_, rfl⟩
  have hv9 : v9.toInt = x3.toInt + k2.toInt := n_add ev9 (by omega) (by omega)
  refine L_iadd C v9 (oDec_at oLw_11 35 rfl) ev9 ?_
  refine L_sld C ⟨by omega, by omega⟩ (oDec_at oLw_11 36 rfl) ?_
  rw [show xs v9.toNatClampNeg = v4 from by rw [show v9.toNatClampNeg = v3.toNatClampNeg by have q1 := n_nat v9; have q2 := n_nat v3; omega]; exact ev4]
  refine L_callVi C oCl12 rfl miX12_like mlL_99 (ct_X12_like l E (u5) v2 v4 (oBI_fr fu5 rfl iv2)) (by decide) rfl rfl rfl (Nat.le_of_ble_eq_true rfl) (oDec_at oLw_11 37 rfl) (fun r12 u11 pu11 fu11 => ?_)
  try dsimp only at pu11
  refine L_pc C 896 rfl ?_
  refine L_pop C (oDec_at oLw_11 38 rfl) rfl ?_
  refine L_goto C (tgt := 1453) (oDec_at oLw_11 39 rfl) (by decide) ?_
  obtain ⟨v13, ev13⟩ : ∃ z : Int32, x3 + Int32.ofInt 6 = z := ⟨_, rfl⟩
  have hv13 : v13.toInt = x3.toInt + 6 := n_inc ev13 (by decide) (by omega) (by omega)
  refine L_iinc C (j := 3) (lv' := [(0, .ref b), (1, .ref (oad E 0)), (2, .ref (oad E 71)), (3, .int v13)]) v13 [1, 2, 3, 0] (oDec_at oLw_20 21 rfl) rfl ev13 (by decide) rfl ?_
  refine L_goto C (tgt := 18) (oDec_at oLw_20 22 rfl) (by decide) ?_
  have lk14 : ((u11).1 71 38).toInt = (t.1 71 38).toInt := congrArg Int32.toInt (((fu11 71 38 rfl).1).trans ((fu5 71 38 rfl).1))
  have lk15 : ((u11).1 71 42).toInt = (t.1 71 42).toInt := congrArg Int32.toInt (((fu11 71 42 rfl).1).trans ((fu5 71 42 rfl).1))
  have lk16 : ((u11).1 1 1).toInt = (t.1 1 1).toInt := congrArg Int32.toInt (((fu11 1 1 rfl).1).trans ((fu5 1 1 rfl).1))
  have lk17 : ((u11).1 71 1).toInt = (t.1 71 1).toInt := congrArg Int32.toInt (((fu11 71 1 rfl).1).trans ((fu5 71 1 rfl).1))
  exact hgo (u11) v13 (oLT_fr fu11 rfl (oLT_fr fu5 rfl iv0)) (by omega) (oBI_fr fu11 rfl (oBI_fr fu5 rfl iv2)) ⟨⟨(oqE_fr fu11 rfl (oqE_fr fu5 rfl hE)), (oqWd_fr fu11 rfl (oqWd_fr fu5 rfl hWd)), _, _, _, ⟨b9, d9, (owBD_fr fu11 rfl (owBD_fr fu5 rfl hBD)), (owBC_fr fu11 rfl (owBC_fr fu5 rfl hBC)), (owME_fr fu11 rfl (owME_fr fu5 rfl hME)), (owKV_fr fu11 rfl pu5_0)⟩, (owLN_fr fu11 rfl (owLN_fr fu5 rfl hLN)), (owDN_fr fu11 rfl pu5_1), (owBE_fr fu11 rfl (owBE_fr fu5 rfl hBE)), (owMM_fr fu11 rfl (owMM_fr fu5 rfl hMM)), (owLO_fr fu11 rfl (owLO_fr fu5 rfl hLO))⟩, (owCZ_fr fu11 rfl (owCZ_fr fu5 rfl hCS)), _, _, _, (owBW_fr fu11 rfl (owBW_fr fu5 rfl hBW)), (owBY_fr fu11 rfl (owBY_fr fu5 rfl hBY)), hBR⟩ (by omega)
set_option maxHeartbeats 8000000 in
set_option maxRecDepth 100000 in
theorem lw_c20 {l : Launch} {b L kc sl : Nat} {xs : Nat → Int32} {E : oE} {J : oS → Nat → List (Nat × Value) → List Value → Prop} (C : oLC l b L xs E kc sl J) (hL : L ≤ 3072) {t : oS} {x3 : Int32} (iv0 : oLT t) (iv1 : 1 ≤ (t.1 71 38).toInt → 1 ≤ (t.1 71 42).toInt) (iv2 : oBI t) (iv3 : oqET t) (hx3 : 0 ≤ x3.toInt ∧ x3.toInt + 6 ≤ (L : Int)) (hgo : ∀ (t2 : oS) (y3 : Int32), oLT t2 → (1 ≤ (t2.1 71 38).toInt → 1 ≤ (t2.1 71 42).toInt) → oBI t2 → (oqET t2) → y3.toInt = x3.toInt + 6 → J t2 18 [(0, .ref b), (1, .ref (oad E 0)), (2, .ref (oad E 71)), (3, .int y3)] []) : J t 900 [(0, .ref b), (1, .ref (oad E 0)), (2, .ref (oad E 71)), (3, .int x3)] [] := by
  obtain ⟨k0, qk0⟩ : ∃ z : Int32, z = 0 := ⟨_, rfl⟩
  have ek0 : k0.toInt = 0 := by rw [qk0]; rfl
  obtain ⟨k1, qk1⟩ : ∃ z : Int32, z = 1 := ⟨_, rfl⟩
  have ek1 : k1.toInt = 1 := by rw [qk1]; rfl
  obtain ⟨k2, qk2⟩ : ∃ z : Int32, z = 2 := ⟨_, rfl⟩
  have ek2 : k2.toInt = 2 := by rw [qk2]; rfl
  obtain ⟨k3, qk3⟩ : ∃ z : Int32, z = 3 := ⟨_, rfl⟩
  have ek3 : k3.toInt = 3 := by rw [qk3]; rfl
  obtain ⟨k4, qk4⟩ : ∃ z : Int32, z = 4 := ⟨_, rfl⟩
  have ek4 : k4.toInt = 4 := by rw [qk4]; rfl
  obtain ⟨k5, qk5⟩ : ∃ z : Int32, z = 5 := ⟨_, rfl⟩
  have ek5 : k5.toInt = 5 := by rw [qk5]; rfl
  obtain ⟨⟨hE, hWd, R9, W9, m9, ⟨b9, d9, hBD, hBC, hME, hKV⟩, hLN, hDN, hBE, hMM, hLO⟩, hCS, D9, S9, K9, hBW, hBY, hBR⟩ := id iv3
  refine L_aload_n C (j := 1) (oDec_at oLw_11 40 rfl) rfl rfl ?_
  refine L_aload_n C (j := 0) (oDec_at oLw_11 41 rfl) rfl rfl ?_
  refine L_iload_n C (j := 3) (oDec_at oLw_11 42 rfl) rfl rfl ?_
  refine L_iconst C (oDec_at oLw_11 43 rfl) (v := k1) (by rw [qk1]; rfl) ?_
  obtain ⟨v1, ev1⟩ : ∃ z : Int32, z = x3 + k1 := ⟨_, rfl⟩
  have hv1 : v1.toInt = x3.toInt + k1.toInt := n_add ev1 (by omega) (by omega)
  refine L_iadd C v1 (oDec_at oLw_11 44 rfl) ev1 ?_
  refine L_sld C ⟨by omega, by omega⟩ (oDec_at oLw_11 45 rfl) ?_
  obtain ⟨v2, ev2⟩ : ∃ z : Int32, xs v1.toNatClampNeg = z := ⟨_, rfl⟩
  rw [ev2]
  have rv2 := n_rng v2
  refine L_aload_n C (j := 0) (oDec_at oLw_11 46 rfl) rfl rfl ?_
  refine L_iload_n C (j := 3) (oDec_at oLw_11 47 rfl) rfl rfl ?_
  refine L_iconst C (oDec_at oLw_11 48 rfl) (v := k2) (by rw [qk2]; rfl) ?_
  obtain ⟨v3, ev3⟩ : ∃ z : Int32, z = x3 + k2 := ⟨_, rfl⟩
  have hv3 : v3.toInt = x3.toInt + k2.toInt := n_add ev3 (by omega) (by omega)
  refine L_iadd C v3 (oDec_at oLw_11 49 rfl) ev3 ?_
  refine L_sld C ⟨by omega, by omega⟩ (oDec_at oLw_12 0 rfl) ?_
  obtain ⟨v4, ev4⟩ : ∃ z : Int32, xs v3.toNatClampNeg = z := ⟨_, rfl⟩
  rw [ev4]
  have rv4 := n_rng v4
  refine L_callVi C oCl11 rfl miX11_means mlL_100 (ct9_X11_means l E (t) v2 v4 b9 R9 W9 hBC hKV hLN hDN) (by decide) rfl rfl rfl (Nat.le_of_ble_eq_true rfl) (oDec_at oLw_12 1 rfl) (fun r6 u5 pu5 fu5 => ?_)
  try dsimp only at pu5
  obtain ⟨pu5_0, pu5_1⟩ := pu5
  refine L_pc C 914 rfl ?_
  refine L_pop C (oDec_at oLw_12 2 rfl) rfl ?_
  refine L_aload_n C (j := 2) (oDec_at oLw_12 3 rfl) rfl rfl ?_
  refine L_aload_n C (j := 0) (oDec_at oLw_12 4 rfl) rfl rfl ?_
  refine L_iload_n C (j := 3) (oDec_at oLw_12 5 rfl) rfl rfl ?_
  refine L_iconst C (oDec_at oLw_12 6 rfl) (v := k1) (by rw [qk1]; rfl) ?_
  obtain ⟨v7, ev7⟩ : ∃ z : Int32, z = x3 + k1 := ⟨_, rfl⟩
  have hv7 : v7.toInt = x3.toInt + k1.toInt := n_add ev7 (by omega) (by omega)
  refine L_iadd C v7 (oDec_at oLw_12 7 rfl) ev7 ?_
  refine L_sld C ⟨by omega, by omega⟩ (oDec_at oLw_12 8 rfl) ?_
  rw [show xs v7.toNatClampNeg = v2 from by rw [show v7.toNatClampNeg = v1.toNatClampNeg by have q1 := n_nat v7; have q2 := n_nat v1; omega]; exact ev2]
  refine L_aload_n C (j := 0) (oDec_at oLw_12 9 rfl) rfl rfl ?_
  refine L_iload_n C (j := 3) (oDec_at oLw_12 10 rfl) rfl rfl ?_
  refine L_iconst C (oDec_at oLw_12 11 rfl) (v := k2) (by rw [qk2]; rfl) ?_
  obtain ⟨v9, ev9⟩ : ∃ z : Int32, z = x3 + k2 := ⟨_, rfl⟩
  have hv9 : v9.toInt = x3.toInt + k2.toInt := n_add ev9 (by omega) (by omega)
  refine L_iadd C v9 (oDec_at oLw_12 12 rfl) ev9 ?_
  refine L_sld C ⟨by omega, by omega⟩ (oDec_at oLw_12 13 rfl) ?_
  rw [show xs v9.toNatClampNeg = v4 from by rw [show v9.toNatClampNeg = v3.toNatClampNeg by have q1 := n_nat v9; have q2 := n_nat v3; omega]; exact ev4]
  refine L_callVi C oCl12 rfl miX12_means mlL_103 (ct_X12_means l E (u5) v2 v4 (oBI_fr fu5 rfl iv2)) (by decide) rfl rfl rfl (Nat.le_of_ble_eq_true rfl) (oDec_at oLw_12 14 rfl) (fun r12 u11 pu11 fu11 => ?_)
  try dsimp only at pu11
  refine L_pc C 929 rfl ?_
  refine L_pop C (oDec_at oLw_12 15 rfl) rfl ?_
  refine L_goto C (tgt := 1453) (oDec_at oLw_12 16 rfl) (by decide) ?_
  obtain ⟨v13, ev13⟩ : ∃ z : Int32, x3 + Int32.ofInt 6 = z := ⟨_, rfl⟩
  have hv13 : v13.toInt = x3.toInt + 6 := n_inc ev13 (by decide) (by omega) (by omega)
  refine L_iinc C (j := 3) (lv' := [(0, .ref b), (1, .ref (oad E 0)), (2, .ref (oad E 71)), (3, .int v13)]) v13 [1, 2, 3, 0] (oDec_at oLw_20 21 rfl) rfl ev13 (by decide) rfl ?_
  refine L_goto C (tgt := 18) (oDec_at oLw_20 22 rfl) (by decide) ?_
  have lk14 : ((u11).1 71 38).toInt = (t.1 71 38).toInt := congrArg Int32.toInt (((fu11 71 38 rfl).1).trans ((fu5 71 38 rfl).1))
  have lk15 : ((u11).1 71 42).toInt = (t.1 71 42).toInt := congrArg Int32.toInt (((fu11 71 42 rfl).1).trans ((fu5 71 42 rfl).1))
  have lk16 : ((u11).1 1 1).toInt = (t.1 1 1).toInt := congrArg Int32.toInt (((fu11 1 1 rfl).1).trans ((fu5 1 1 rfl).1))
  have lk17 : ((u11).1 71 1).toInt = (t.1 71 1).toInt := congrArg Int32.toInt (((fu11 71 1 rfl).1).trans ((fu5 71 1 rfl).1))
  exact hgo (u11) v13 (oLT_fr fu11 rfl (oLT_fr fu5 rfl iv0)) (by omega) (oBI_fr fu11 rfl (oBI_fr fu5 rfl iv2)) ⟨⟨(oqE_fr fu11 rfl (oqE_fr fu5 rfl hE)), (oqWd_fr fu11 rfl (oqWd_fr fu5 rfl hWd)), _, _, _, ⟨b9, d9, (owBD_fr fu11 rfl (owBD_fr fu5 rfl hBD)), (owBC_fr fu11 rfl (owBC_fr fu5 rfl hBC)), (owME_fr fu11 rfl (owME_fr fu5 rfl hME)), (owKV_fr fu11 rfl pu5_0)⟩, (owLN_fr fu11 rfl (owLN_fr fu5 rfl hLN)), (owDN_fr fu11 rfl pu5_1), (owBE_fr fu11 rfl (owBE_fr fu5 rfl hBE)), (owMM_fr fu11 rfl (owMM_fr fu5 rfl hMM)), (owLO_fr fu11 rfl (owLO_fr fu5 rfl hLO))⟩, (owCZ_fr fu11 rfl (owCZ_fr fu5 rfl hCS)), _, _, _, (owBW_fr fu11 rfl (owBW_fr fu5 rfl hBW)), (owBY_fr fu11 rfl (owBY_fr fu5 rfl hBY)), hBR⟩ (by omega)
set_option maxHeartbeats 8000000 in
set_option maxRecDepth 100000 in
theorem lw_c21 {l : Launch} {b L kc sl : Nat} {xs : Nat → Int32} {E : oE} {J : oS → Nat → List (Nat × Value) → List Value → Prop} (C : oLC l b L xs E kc sl J) (hL : L ≤ 3072) {t : oS} {x3 : Int32} (iv0 : oLT t) (iv1 : 1 ≤ (t.1 71 38).toInt → 1 ≤ (t.1 71 42).toInt) (iv2 : oBI t) (iv3 : oqET t) (hx3 : 0 ≤ x3.toInt ∧ x3.toInt + 6 ≤ (L : Int)) (hgo : ∀ (t2 : oS) (y3 : Int32), oLT t2 → (1 ≤ (t2.1 71 38).toInt → 1 ≤ (t2.1 71 42).toInt) → oBI t2 → (oqET t2) → y3.toInt = x3.toInt + 6 → J t2 18 [(0, .ref b), (1, .ref (oad E 0)), (2, .ref (oad E 71)), (3, .int y3)] []) : J t 933 [(0, .ref b), (1, .ref (oad E 0)), (2, .ref (oad E 71)), (3, .int x3)] [] := by
  obtain ⟨k0, qk0⟩ : ∃ z : Int32, z = 0 := ⟨_, rfl⟩
  have ek0 : k0.toInt = 0 := by rw [qk0]; rfl
  obtain ⟨k1, qk1⟩ : ∃ z : Int32, z = 1 := ⟨_, rfl⟩
  have ek1 : k1.toInt = 1 := by rw [qk1]; rfl
  obtain ⟨k2, qk2⟩ : ∃ z : Int32, z = 2 := ⟨_, rfl⟩
  have ek2 : k2.toInt = 2 := by rw [qk2]; rfl
  obtain ⟨k3, qk3⟩ : ∃ z : Int32, z = 3 := ⟨_, rfl⟩
  have ek3 : k3.toInt = 3 := by rw [qk3]; rfl
  obtain ⟨k4, qk4⟩ : ∃ z : Int32, z = 4 := ⟨_, rfl⟩
  have ek4 : k4.toInt = 4 := by rw [qk4]; rfl
  obtain ⟨k5, qk5⟩ : ∃ z : Int32, z = 5 := ⟨_, rfl⟩
  have ek5 : k5.toInt = 5 := by rw [qk5]; rfl
  obtain ⟨⟨hE, hWd, R9, W9, m9, ⟨b9, d9, hBD, hBC, hME, hKV⟩, hLN, hDN, hBE, hMM, hLO⟩, hCS, D9, S9, K9, hBW, hBY, hBR⟩ := id iv3
  refine L_aload_n C (j := 1) (oDec_at oLw_12 17 rfl) rfl rfl ?_
  refine L_aload_n C (j := 0) (oDec_at oLw_12 18 rfl) rfl rfl ?_
  refine L_iload_n C (j := 3) (oDec_at oLw_12 19 rfl) rfl rfl ?_
  refine L_iconst C (oDec_at oLw_12 20 rfl) (v := k1) (by rw [qk1]; rfl) ?_
  obtain ⟨v1, ev1⟩ : ∃ z : Int32, z = x3 + k1 := ⟨_, rfl⟩
  have hv1 : v1.toInt = x3.toInt + k1.toInt := n_add ev1 (by omega) (by omega)
  refine L_iadd C v1 (oDec_at oLw_12 21 rfl) ev1 ?_
  refine L_sld C ⟨by omega, by omega⟩ (oDec_at oLw_12 22 rfl) ?_
  obtain ⟨v2, ev2⟩ : ∃ z : Int32, xs v1.toNatClampNeg = z := ⟨_, rfl⟩
  rw [ev2]
  have rv2 := n_rng v2
  refine L_callVi C oCl11 rfl miX11_mean mlL_104 (ct9_X11_mean l E (t) v2 b9 R9 W9 hBC hKV hLN hDN) (by decide) rfl rfl rfl (Nat.le_of_ble_eq_true rfl) (oDec_at oLw_12 23 rfl) (fun r4 u3 pu3 fu3 => ?_)
  try dsimp only at pu3
  obtain ⟨pu3_0, pu3_1⟩ := pu3
  refine L_pc C 942 rfl ?_
  refine L_pop C (oDec_at oLw_12 24 rfl) rfl ?_
  refine L_aload_n C (j := 2) (oDec_at oLw_12 25 rfl) rfl rfl ?_
  refine L_aload_n C (j := 0) (oDec_at oLw_12 26 rfl) rfl rfl ?_
  refine L_iload_n C (j := 3) (oDec_at oLw_12 27 rfl) rfl rfl ?_
  refine L_iconst C (oDec_at oLw_12 28 rfl) (v := k1) (by rw [qk1]; rfl) ?_
  obtain ⟨v5, ev5⟩ : ∃ z : Int32, z = x3 + k1 := ⟨_, rfl⟩
  have hv5 : v5.toInt = x3.toInt + k1.toInt := n_add ev5 (by omega) (by omega)
  refine L_iadd C v5 (oDec_at oLw_12 29 rfl) ev5 ?_
  refine L_sld C ⟨by omega, by omega⟩ (oDec_at oLw_12 30 rfl) ?_
  rw [show xs v5.toNatClampNeg = v2 from by rw [show v5.toNatClampNeg = v1.toNatClampNeg by have q1 := n_nat v5; have q2 := n_nat v1; omega]; exact ev2]
  refine L_callVi C oCl12 rfl miX12_mean mlL_107 (ct_X12_mean l E (u3) v2 (oBI_fr fu3 rfl iv2)) (by decide) rfl rfl rfl (Nat.le_of_ble_eq_true rfl) (oDec_at oLw_12 31 rfl) (fun r8 u7 pu7 fu7 => ?_)
  try dsimp only at pu7
  refine L_pc C 952 rfl ?_
  refine L_pop C (oDec_at oLw_12 32 rfl) rfl ?_
  refine L_goto C (tgt := 1453) (oDec_at oLw_12 33 rfl) (by decide) ?_
  obtain ⟨v9, ev9⟩ : ∃ z : Int32, x3 + Int32.ofInt 6 = z := ⟨_, rfl⟩
  have hv9 : v9.toInt = x3.toInt + 6 := n_inc ev9 (by decide) (by omega) (by omega)
  refine L_iinc C (j := 3) (lv' := [(0, .ref b), (1, .ref (oad E 0)), (2, .ref (oad E 71)), (3, .int v9)]) v9 [1, 2, 3, 0] (oDec_at oLw_20 21 rfl) rfl ev9 (by decide) rfl ?_
  refine L_goto C (tgt := 18) (oDec_at oLw_20 22 rfl) (by decide) ?_
  have lk10 : ((u7).1 71 38).toInt = (t.1 71 38).toInt := congrArg Int32.toInt (((fu7 71 38 rfl).1).trans ((fu3 71 38 rfl).1))
  have lk11 : ((u7).1 71 42).toInt = (t.1 71 42).toInt := congrArg Int32.toInt (((fu7 71 42 rfl).1).trans ((fu3 71 42 rfl).1))
  have lk12 : ((u7).1 1 1).toInt = (t.1 1 1).toInt := congrArg Int32.toInt (((fu7 1 1 rfl).1).trans ((fu3 1 1 rfl).1))
  have lk13 : ((u7).1 71 1).toInt = (t.1 71 1).toInt := congrArg Int32.toInt (((fu7 71 1 rfl).1).trans ((fu3 71 1 rfl).1))
  exact hgo (u7) v9 (oLT_fr fu7 rfl (oLT_fr fu3 rfl iv0)) (by omega) (oBI_fr fu7 rfl (oBI_fr fu3 rfl iv2)) ⟨⟨(oqE_fr fu7 rfl (oqE_fr fu3 rfl hE)), (oqWd_fr fu7 rfl (oqWd_fr fu3 rfl hWd)), _, _, _, ⟨b9, d9, (owBD_fr fu7 rfl (owBD_fr fu3 rfl hBD)), (owBC_fr fu7 rfl (owBC_fr fu3 rfl hBC)), (owME_fr fu7 rfl (owME_fr fu3 rfl hME)), (owKV_fr fu7 rfl pu3_0)⟩, (owLN_fr fu7 rfl (owLN_fr fu3 rfl hLN)), (owDN_fr fu7 rfl pu3_1), (owBE_fr fu7 rfl (owBE_fr fu3 rfl hBE)), (owMM_fr fu7 rfl (owMM_fr fu3 rfl hMM)), (owLO_fr fu7 rfl (owLO_fr fu3 rfl hLO))⟩, (owCZ_fr fu7 rfl (owCZ_fr fu3 rfl hCS)), _, _, _, (owBW_fr fu7 rfl (owBW_fr fu3 rfl hBW)), (owBY_fr fu7 rfl (owBY_fr fu3 rfl hBY)), hBR⟩ (by omega)
set_option maxHeartbeats 8000000 in
set_option maxRecDepth 100000 in
theorem lw_c22 {l : Launch} {b L kc sl : Nat} {xs : Nat → Int32} {E : oE} {J : oS → Nat → List (Nat × Value) → List Value → Prop} (C : oLC l b L xs E kc sl J) (hL : L ≤ 3072) {t : oS} {x3 : Int32} (iv0 : oLT t) (iv1 : 1 ≤ (t.1 71 38).toInt → 1 ≤ (t.1 71 42).toInt) (iv2 : oBI t) (iv3 : oqET t) (hx3 : 0 ≤ x3.toInt ∧ x3.toInt + 6 ≤ (L : Int)) (hgo : ∀ (t2 : oS) (y3 : Int32), oLT t2 → (1 ≤ (t2.1 71 38).toInt → 1 ≤ (t2.1 71 42).toInt) → oBI t2 → (oqET t2) → y3.toInt = x3.toInt + 6 → J t2 18 [(0, .ref b), (1, .ref (oad E 0)), (2, .ref (oad E 71)), (3, .int y3)] []) : J t 956 [(0, .ref b), (1, .ref (oad E 0)), (2, .ref (oad E 71)), (3, .int x3)] [] := by
  obtain ⟨k0, qk0⟩ : ∃ z : Int32, z = 0 := ⟨_, rfl⟩
  have ek0 : k0.toInt = 0 := by rw [qk0]; rfl
  obtain ⟨k1, qk1⟩ : ∃ z : Int32, z = 1 := ⟨_, rfl⟩
  have ek1 : k1.toInt = 1 := by rw [qk1]; rfl
  obtain ⟨k2, qk2⟩ : ∃ z : Int32, z = 2 := ⟨_, rfl⟩
  have ek2 : k2.toInt = 2 := by rw [qk2]; rfl
  obtain ⟨k3, qk3⟩ : ∃ z : Int32, z = 3 := ⟨_, rfl⟩
  have ek3 : k3.toInt = 3 := by rw [qk3]; rfl
  obtain ⟨k4, qk4⟩ : ∃ z : Int32, z = 4 := ⟨_, rfl⟩
  have ek4 : k4.toInt = 4 := by rw [qk4]; rfl
  obtain ⟨k5, qk5⟩ : ∃ z : Int32, z = 5 := ⟨_, rfl⟩
  have ek5 : k5.toInt = 5 := by rw [qk5]; rfl
  obtain ⟨⟨hE, hWd, R9, W9, m9, ⟨b9, d9, hBD, hBC, hME, hKV⟩, hLN, hDN, hBE, hMM, hLO⟩, hCS, D9, S9, K9, hBW, hBY, hBR⟩ := id iv3
  refine L_aload_n C (j := 1) (oDec_at oLw_12 34 rfl) rfl rfl ?_
  refine L_aload_n C (j := 0) (oDec_at oLw_12 35 rfl) rfl rfl ?_
  refine L_iload_n C (j := 3) (oDec_at oLw_12 36 rfl) rfl rfl ?_
  refine L_iconst C (oDec_at oLw_12 37 rfl) (v := k1) (by rw [qk1]; rfl) ?_
  obtain ⟨v1, ev1⟩ : ∃ z : Int32, z = x3 + k1 := ⟨_, rfl⟩
  have hv1 : v1.toInt = x3.toInt + k1.toInt := n_add ev1 (by omega) (by omega)
  refine L_iadd C v1 (oDec_at oLw_12 38 rfl) ev1 ?_
  refine L_sld C ⟨by omega, by omega⟩ (oDec_at oLw_12 39 rfl) ?_
  obtain ⟨v2, ev2⟩ : ∃ z : Int32, xs v1.toNatClampNeg = z := ⟨_, rfl⟩
  rw [ev2]
  have rv2 := n_rng v2
  refine L_callVi C oCl11 rfl miX11_mottos mlL_108 (ct9_X11_mottos l E (t) v2 b9 R9 W9 hBC hKV hLN hDN) (by decide) rfl rfl rfl (Nat.le_of_ble_eq_true rfl) (oDec_at oLw_12 40 rfl) (fun r4 u3 pu3 fu3 => ?_)
  try dsimp only at pu3
  obtain ⟨pu3_0, pu3_1⟩ := pu3
  refine L_pc C 965 rfl ?_
  refine L_pop C (oDec_at oLw_12 41 rfl) rfl ?_
  refine L_aload_n C (j := 2) (oDec_at oLw_12 42 rfl) rfl rfl ?_
  refine L_aload_n C (j := 0) (oDec_at oLw_12 43 rfl) rfl rfl ?_
  refine L_iload_n C (j := 3) (oDec_at oLw_12 44 rfl) rfl rfl ?_
  refine L_iconst C (oDec_at oLw_12 45 rfl) (v := k1) (by rw [qk1]; rfl) ?_
  obtain ⟨v5, ev5⟩ : ∃ z : Int32, z = x3 + k1 := ⟨_, rfl⟩
  have hv5 : v5.toInt = x3.toInt + k1.toInt := n_add ev5 (by omega) (by omega)
  refine L_iadd C v5 (oDec_at oLw_12 46 rfl) ev5 ?_
  refine L_sld C ⟨by omega, by omega⟩ (oDec_at oLw_12 47 rfl) ?_
  rw [show xs v5.toNatClampNeg = v2 from by rw [show v5.toNatClampNeg = v1.toNatClampNeg by have q1 := n_nat v5; have q2 := n_nat v1; omega]; exact ev2]
  refine L_callVi C oCl12 rfl miX12_mottos mlL_111 (ct_X12_mottos l E (u3) v2 (oBI_fr fu3 rfl iv2)) (by decide) rfl rfl rfl (Nat.le_of_ble_eq_true rfl) (oDec_at oLw_12 48 rfl) (fun r8 u7 pu7 fu7 => ?_)
  try dsimp only at pu7
  refine L_pc C 975 rfl ?_
  refine L_pop C (oDec_at oLw_12 49 rfl) rfl ?_
  refine L_goto C (tgt := 1453) (oDec_at oLw_13 0 rfl) (by decide) ?_
  obtain ⟨v9, ev9⟩ : ∃ z : Int32, x3 + Int32.ofInt 6 = z := ⟨_, rfl⟩
  have hv9 : v9.toInt = x3.toInt + 6 := n_inc ev9 (by decide) (by omega) (by omega)
  refine L_iinc C (j := 3) (lv' := [(0, .ref b), (1, .ref (oad E 0)), (2, .ref (oad E 71)), (3, .int v9)]) v9 [1, 2, 3, 0] (oDec_at oLw_20 21 rfl) rfl ev9 (by decide) rfl ?_
  refine L_goto C (tgt := 18) (oDec_at oLw_20 22 rfl) (by decide) ?_
  have lk10 : ((u7).1 71 38).toInt = (t.1 71 38).toInt := congrArg Int32.toInt (((fu7 71 38 rfl).1).trans ((fu3 71 38 rfl).1))
  have lk11 : ((u7).1 71 42).toInt = (t.1 71 42).toInt := congrArg Int32.toInt (((fu7 71 42 rfl).1).trans ((fu3 71 42 rfl).1))
  have lk12 : ((u7).1 1 1).toInt = (t.1 1 1).toInt := congrArg Int32.toInt (((fu7 1 1 rfl).1).trans ((fu3 1 1 rfl).1))
  have lk13 : ((u7).1 71 1).toInt = (t.1 71 1).toInt := congrArg Int32.toInt (((fu7 71 1 rfl).1).trans ((fu3 71 1 rfl).1))
  exact hgo (u7) v9 (oLT_fr fu7 rfl (oLT_fr fu3 rfl iv0)) (by omega) (oBI_fr fu7 rfl (oBI_fr fu3 rfl iv2)) ⟨⟨(oqE_fr fu7 rfl (oqE_fr fu3 rfl hE)), (oqWd_fr fu7 rfl (oqWd_fr fu3 rfl hWd)), _, _, _, ⟨b9, d9, (owBD_fr fu7 rfl (owBD_fr fu3 rfl hBD)), (owBC_fr fu7 rfl (owBC_fr fu3 rfl hBC)), (owME_fr fu7 rfl (owME_fr fu3 rfl hME)), (owKV_fr fu7 rfl pu3_0)⟩, (owLN_fr fu7 rfl (owLN_fr fu3 rfl hLN)), (owDN_fr fu7 rfl pu3_1), (owBE_fr fu7 rfl (owBE_fr fu3 rfl hBE)), (owMM_fr fu7 rfl (owMM_fr fu3 rfl hMM)), (owLO_fr fu7 rfl (owLO_fr fu3 rfl hLO))⟩, (owCZ_fr fu7 rfl (owCZ_fr fu3 rfl hCS)), _, _, _, (owBW_fr fu7 rfl (owBW_fr fu3 rfl hBW)), (owBY_fr fu7 rfl (owBY_fr fu3 rfl hBY)), hBR⟩ (by omega)
set_option maxHeartbeats 8000000 in
set_option maxRecDepth 100000 in
theorem lw_c23 {l : Launch} {b L kc sl : Nat} {xs : Nat → Int32} {E : oE} {J : oS → Nat → List (Nat × Value) → List Value → Prop} (C : oLC l b L xs E kc sl J) (hL : L ≤ 3072) {t : oS} {x3 : Int32} (iv0 : oLT t) (iv1 : 1 ≤ (t.1 71 38).toInt → 1 ≤ (t.1 71 42).toInt) (iv2 : oBI t) (iv3 : oqET t) (hx3 : 0 ≤ x3.toInt ∧ x3.toInt + 6 ≤ (L : Int)) (hgo : ∀ (t2 : oS) (y3 : Int32), oLT t2 → (1 ≤ (t2.1 71 38).toInt → 1 ≤ (t2.1 71 42).toInt) → oBI t2 → (oqET t2) → y3.toInt = x3.toInt + 6 → J t2 18 [(0, .ref b), (1, .ref (oad E 0)), (2, .ref (oad E 71)), (3, .int y3)] []) : J t 979 [(0, .ref b), (1, .ref (oad E 0)), (2, .ref (oad E 71)), (3, .int x3)] [] := by
  obtain ⟨k0, qk0⟩ : ∃ z : Int32, z = 0 := ⟨_, rfl⟩
  have ek0 : k0.toInt = 0 := by rw [qk0]; rfl
  obtain ⟨k1, qk1⟩ : ∃ z : Int32, z = 1 := ⟨_, rfl⟩
  have ek1 : k1.toInt = 1 := by rw [qk1]; rfl
  obtain ⟨k2, qk2⟩ : ∃ z : Int32, z = 2 := ⟨_, rfl⟩
  have ek2 : k2.toInt = 2 := by rw [qk2]; rfl
  obtain ⟨k3, qk3⟩ : ∃ z : Int32, z = 3 := ⟨_, rfl⟩
  have ek3 : k3.toInt = 3 := by rw [qk3]; rfl
  obtain ⟨k4, qk4⟩ : ∃ z : Int32, z = 4 := ⟨_, rfl⟩
  have ek4 : k4.toInt = 4 := by rw [qk4]; rfl
  obtain ⟨k5, qk5⟩ : ∃ z : Int32, z = 5 := ⟨_, rfl⟩
  have ek5 : k5.toInt = 5 := by rw [qk5]; rfl
  obtain ⟨⟨hE, hWd, R9, W9, m9, ⟨b9, d9, hBD, hBC, hME, hKV⟩, hLN, hDN, hBE, hMM, hLO⟩, hCS, D9, S9, K9, hBW, hBY, hBR⟩ := id iv3
  refine L_aload_n C (j := 1) (oDec_at oLw_13 1 rfl) rfl rfl ?_
  refine L_aload_n C (j := 0) (oDec_at oLw_13 2 rfl) rfl rfl ?_
  refine L_iload_n C (j := 3) (oDec_at oLw_13 3 rfl) rfl rfl ?_
  refine L_iconst C (oDec_at oLw_13 4 rfl) (v := k1) (by rw [qk1]; rfl) ?_
  obtain ⟨v1, ev1⟩ : ∃ z : Int32, z = x3 + k1 := ⟨_, rfl⟩
  have hv1 : v1.toInt = x3.toInt + k1.toInt := n_add ev1 (by omega) (by omega)
  refine L_iadd C v1 (oDec_at oLw_13 5 rfl) ev1 ?_
  refine L_sld C ⟨by omega, by omega⟩ (oDec_at oLw_13 6 rfl) ?_
  obtain ⟨v2, ev2⟩ : ∃ z : Int32, xs v1.toNatClampNeg = z := ⟨_, rfl⟩
  rw [ev2]
  have rv2 := n_rng v2
  refine L_callVi C oCl11 rfl miX11_common mlL_112 (ct9_X11_common l E (t) v2 b9 R9 W9 hBC hKV hLN hDN) (by decide) rfl rfl rfl (Nat.le_of_ble_eq_true rfl) (oDec_at oLw_13 7 rfl) (fun r4 u3 pu3 fu3 => ?_)
  try dsimp only at pu3
  obtain ⟨pu3_0, pu3_1⟩ := pu3
  refine L_pc C 988 rfl ?_
  refine L_pop C (oDec_at oLw_13 8 rfl) rfl ?_
  refine L_aload_n C (j := 2) (oDec_at oLw_13 9 rfl) rfl rfl ?_
  refine L_aload_n C (j := 0) (oDec_at oLw_13 10 rfl) rfl rfl ?_
  refine L_iload_n C (j := 3) (oDec_at oLw_13 11 rfl) rfl rfl ?_
  refine L_iconst C (oDec_at oLw_13 12 rfl) (v := k1) (by rw [qk1]; rfl) ?_
  obtain ⟨v5, ev5⟩ : ∃ z : Int32, z = x3 + k1 := ⟨_, rfl⟩
  have hv5 : v5.toInt = x3.toInt + k1.toInt := n_add ev5 (by omega) (by omega)
  refine L_iadd C v5 (oDec_at oLw_13 13 rfl) ev5 ?_
  refine L_sld C ⟨by omega, by omega⟩ (oDec_at oLw_13 14 rfl) ?_
  rw [show xs v5.toNatClampNeg = v2 from by rw [show v5.toNatClampNeg = v1.toNatClampNeg by have q1 := n_nat v5; have q2 := n_nat v1; omega]; exact ev2]
  refine L_callVi C oCl12 rfl miX12_common mlL_115 (ct_X12_common l E (u3) v2 (oBI_fr fu3 rfl iv2)) (by decide) rfl rfl rfl (Nat.le_of_ble_eq_true rfl) (oDec_at oLw_13 15 rfl) (fun r8 u7 pu7 fu7 => ?_)
  try dsimp only at pu7
  refine L_pc C 998 rfl ?_
  refine L_pop C (oDec_at oLw_13 16 rfl) rfl ?_
  refine L_goto C (tgt := 1453) (oDec_at oLw_13 17 rfl) (by decide) ?_
  obtain ⟨v9, ev9⟩ : ∃ z : Int32, x3 + Int32.ofInt 6 = z := ⟨_, rfl⟩
  have hv9 : v9.toInt = x3.toInt + 6 := n_inc ev9 (by decide) (by omega) (by omega)
  refine L_iinc C (j := 3) (lv' := [(0, .ref b), (1, .ref (oad E 0)), (2, .ref (oad E 71)), (3, .int v9)]) v9 [1, 2, 3, 0] (oDec_at oLw_20 21 rfl) rfl ev9 (by decide) rfl ?_
  refine L_goto C (tgt := 18) (oDec_at oLw_20 22 rfl) (by decide) ?_
  have lk10 : ((u7).1 71 38).toInt = (t.1 71 38).toInt := congrArg Int32.toInt (((fu7 71 38 rfl).1).trans ((fu3 71 38 rfl).1))
  have lk11 : ((u7).1 71 42).toInt = (t.1 71 42).toInt := congrArg Int32.toInt (((fu7 71 42 rfl).1).trans ((fu3 71 42 rfl).1))
  have lk12 : ((u7).1 1 1).toInt = (t.1 1 1).toInt := congrArg Int32.toInt (((fu7 1 1 rfl).1).trans ((fu3 1 1 rfl).1))
  have lk13 : ((u7).1 71 1).toInt = (t.1 71 1).toInt := congrArg Int32.toInt (((fu7 71 1 rfl).1).trans ((fu3 71 1 rfl).1))
  exact hgo (u7) v9 (oLT_fr fu7 rfl (oLT_fr fu3 rfl iv0)) (by omega) (oBI_fr fu7 rfl (oBI_fr fu3 rfl iv2)) ⟨⟨(oqE_fr fu7 rfl (oqE_fr fu3 rfl hE)), (oqWd_fr fu7 rfl (oqWd_fr fu3 rfl hWd)), _, _, _, ⟨b9, d9, (owBD_fr fu7 rfl (owBD_fr fu3 rfl hBD)), (owBC_fr fu7 rfl (owBC_fr fu3 rfl hBC)), (owME_fr fu7 rfl (owME_fr fu3 rfl hME)), (owKV_fr fu7 rfl pu3_0)⟩, (owLN_fr fu7 rfl (owLN_fr fu3 rfl hLN)), (owDN_fr fu7 rfl pu3_1), (owBE_fr fu7 rfl (owBE_fr fu3 rfl hBE)), (owMM_fr fu7 rfl (owMM_fr fu3 rfl hMM)), (owLO_fr fu7 rfl (owLO_fr fu3 rfl hLO))⟩, (owCZ_fr fu7 rfl (owCZ_fr fu3 rfl hCS)), _, _, _, (owBW_fr fu7 rfl (owBW_fr fu3 rfl hBW)), (owBY_fr fu7 rfl (owBY_fr fu3 rfl hBY)), hBR⟩ (by omega)
set_option maxHeartbeats 8000000 in
set_option maxRecDepth 100000 in
theorem lw_c24 {l : Launch} {b L kc sl : Nat} {xs : Nat → Int32} {E : oE} {J : oS → Nat → List (Nat × Value) → List Value → Prop} (C : oLC l b L xs E kc sl J) (hL : L ≤ 3072) {t : oS} {x3 : Int32} (iv0 : oLT t) (iv1 : 1 ≤ (t.1 71 38).toInt → 1 ≤ (t.1 71 42).toInt) (iv2 : oBI t) (iv3 : oqET t) (hx3 : 0 ≤ x3.toInt ∧ x3.toInt + 6 ≤ (L : Int)) (hgo : ∀ (t2 : oS) (y3 : Int32), oLT t2 → (1 ≤ (t2.1 71 38).toInt → 1 ≤ (t2.1 71 42).toInt) → oBI t2 → (oqET t2) → y3.toInt = x3.toInt + 6 → J t2 18 [(0, .ref b), (1, .ref (oad E 0)), (2, .ref (oad E 71)), (3, .int y3)] []) : J t 1002 [(0, .ref b), (1, .ref (oad E 0)), (2, .ref (oad E 71)), (3, .int x3)] [] := by
  obtain ⟨k0, qk0⟩ : ∃ z : Int32, z = 0 := ⟨_, rfl⟩
  have ek0 : k0.toInt = 0 := by rw [qk0]; rfl
  obtain ⟨k1, qk1⟩ : ∃ z : Int32, z = 1 := ⟨_, rfl⟩
  have ek1 : k1.toInt = 1 := by rw [qk1]; rfl
  obtain ⟨k2, qk2⟩ : ∃ z : Int32, z = 2 := ⟨_, rfl⟩
  have ek2 : k2.toInt = 2 := by rw [qk2]; rfl
  obtain ⟨k3, qk3⟩ : ∃ z : Int32, z = 3 := ⟨_, rfl⟩
  have ek3 : k3.toInt = 3 := by rw [qk3]; rfl
  obtain ⟨k4, qk4⟩ : ∃ z : Int32, z = 4 := ⟨_, rfl⟩
  have ek4 : k4.toInt = 4 := by rw [qk4]; rfl
  obtain ⟨k5, qk5⟩ : ∃ z : Int32, z = 5 := ⟨_, rfl⟩
  have ek5 : k5.toInt = 5 := by rw [qk5]; rfl
  obtain ⟨⟨hE, hWd, R9, W9, m9, ⟨b9, d9, hBD, hBC, hME, hKV⟩, hLN, hDN, hBE, hMM, hLO⟩, hCS, D9, S9, K9, hBW, hBY, hBR⟩ := id iv3
  refine L_aload_n C (j := 1) (oDec_at oLw_13 18 rfl) rfl rfl ?_
  refine L_aload_n C (j := 0) (oDec_at oLw_13 19 rfl) rfl rfl ?_
  refine L_iload_n C (j := 3) (oDec_at oLw_13 20 rfl) rfl rfl ?_
  refine L_iconst C (oDec_at oLw_13 21 rfl) (v := k1) (by rw [qk1]; rfl) ?_
  obtain ⟨v1, ev1⟩ : ∃ z : Int32, z = x3 + k1 := ⟨_, rfl⟩
  have hv1 : v1.toInt = x3.toInt + k1.toInt := n_add ev1 (by omega) (by omega)
  refine L_iadd C v1 (oDec_at oLw_13 22 rfl) ev1 ?_
  refine L_sld C ⟨by omega, by omega⟩ (oDec_at oLw_13 23 rfl) ?_
  obtain ⟨v2, ev2⟩ : ∃ z : Int32, xs v1.toNatClampNeg = z := ⟨_, rfl⟩
  rw [ev2]
  have rv2 := n_rng v2
  refine L_aload_n C (j := 0) (oDec_at oLw_13 24 rfl) rfl rfl ?_
  refine L_iload_n C (j := 3) (oDec_at oLw_13 25 rfl) rfl rfl ?_
  refine L_iconst C (oDec_at oLw_13 26 rfl) (v := k2) (by rw [qk2]; rfl) ?_
  obtain ⟨v3, ev3⟩ : ∃ z : Int32, z = x3 + k2 := ⟨_, rfl⟩
  have hv3 : v3.toInt = x3.toInt + k2.toInt := n_add ev3 (by omega) (by omega)
  refine L_iadd C v3 (oDec_at oLw_13 27 rfl) ev3 ?_
  refine L_sld C ⟨by omega, by omega⟩ (oDec_at oLw_13 28 rfl) ?_
  obtain ⟨v4, ev4⟩ : ∃ z : Int32, xs v3.toNatClampNeg = z := ⟨_, rfl⟩
  rw [ev4]
  have rv4 := n_rng v4
  refine L_callVi C oCl11 rfl miX11_over mlL_116 (ct9_X11_over l E (t) v2 v4 b9 R9 W9 hBC hKV hLN hDN) (by decide) rfl rfl rfl (Nat.le_of_ble_eq_true rfl) (oDec_at oLw_13 29 rfl) (fun r6 u5 pu5 fu5 => ?_)
  try dsimp only at pu5
  obtain ⟨pu5_0, pu5_1⟩ := pu5
  refine L_pc C 1016 rfl ?_
  refine L_pop C (oDec_at oLw_13 30 rfl) rfl ?_
  refine L_aload_n C (j := 2) (oDec_at oLw_13 31 rfl) rfl rfl ?_
  refine L_aload_n C (j := 0) (oDec_at oLw_13 32 rfl) rfl rfl ?_
  refine L_iload_n C (j := 3) (oDec_at oLw_13 33 rfl) rfl rfl ?_
  refine L_iconst C (oDec_at oLw_13 34 rfl) (v := k1) (by rw [qk1]; rfl) ?_
  obtain ⟨v7, ev7⟩ : ∃ z : Int32, z = x3 + k1 := ⟨_, rfl⟩
  have hv7 : v7.toInt = x3.toInt + k1.toInt := n_add ev7 (by omega) (by omega)
  refine L_iadd C v7 (oDec_at oLw_13 35 rfl) ev7 ?_
  refine L_sld C ⟨by omega, by omega⟩ (oDec_at oLw_13 36 rfl) ?_
  rw [show xs v7.toNatClampNeg = v2 from by rw [show v7.toNatClampNeg = v1.toNatClampNeg by have q1 := n_nat v7; have q2 := n_nat v1; omega]; exact ev2]
  refine L_aload_n C (j := 0) (oDec_at oLw_13 37 rfl) rfl rfl ?_
  refine L_iload_n C (j := 3) (oDec_at oLw_13 38 rfl) rfl rfl ?_
  refine L_iconst C (oDec_at oLw_13 39 rfl) (v := k2) (by rw [qk2]; rfl) ?_
  obtain ⟨v9, ev9⟩ : ∃ z : Int32, z = x3 + k2 := ⟨_, rfl⟩
  have hv9 : v9.toInt = x3.toInt + k2.toInt := n_add ev9 (by omega) (by omega)
  refine L_iadd C v9 (oDec_at oLw_13 40 rfl) ev9 ?_
  refine L_sld C ⟨by omega, by omega⟩ (oDec_at oLw_13 41 rfl) ?_
  rw [show xs v9.toNatClampNeg = v4 from by rw [show v9.toNatClampNeg = v3.toNatClampNeg by have q1 := n_nat v9; have q2 := n_nat v3; omega]; exact ev4]
  refine L_callVi C oCl12 rfl miX12_over mlL_119 (ct_X12_over l E (u5) v2 v4 (oBI_fr fu5 rfl iv2)) (by decide) rfl rfl rfl (Nat.le_of_ble_eq_true rfl) (oDec_at oLw_13 42 rfl) (fun r12 u11 pu11 fu11 => ?_)
  try dsimp only at pu11
  refine L_pc C 1031 rfl ?_
  refine L_pop C (oDec_at oLw_13 43 rfl) rfl ?_
  refine L_goto C (tgt := 1453) (oDec_at oLw_13 44 rfl) (by decide) ?_
  obtain ⟨v13, ev13⟩ : ∃ z : Int32, x3 + Int32.ofInt 6 = z := ⟨_, rfl⟩
  have hv13 : v13.toInt = x3.toInt + 6 := n_inc ev13 (by decide) (by omega) (by omega)
  refine L_iinc C (j := 3) (lv' := [(0, .ref b), (1, .ref (oad E 0)), (2, .ref (oad E 71)), (3, .int v13)]) v13 [1, 2, 3, 0] (oDec_at oLw_20 21 rfl) rfl ev13 (by decide) rfl ?_
  refine L_goto C (tgt := 18) (oDec_at oLw_20 22 rfl) (by decide) ?_
  have lk14 : ((u11).1 71 38).toInt = (t.1 71 38).toInt := congrArg Int32.toInt (((fu11 71 38 rfl).1).trans ((fu5 71 38 rfl).1))
  have lk15 : ((u11).1 71 42).toInt = (t.1 71 42).toInt := congrArg Int32.toInt (((fu11 71 42 rfl).1).trans ((fu5 71 42 rfl).1))
  have lk16 : ((u11).1 1 1).toInt = (t.1 1 1).toInt := congrArg Int32.toInt (((fu11 1 1 rfl).1).trans ((fu5 1 1 rfl).1))
  have lk17 : ((u11).1 71 1).toInt = (t.1 71 1).toInt := congrArg Int32.toInt (((fu11 71 1 rfl).1).trans ((fu5 71 1 rfl).1))
  exact hgo (u11) v13 (oLT_fr fu11 rfl (oLT_fr fu5 rfl iv0)) (by omega) (oBI_fr fu11 rfl (oBI_fr fu5 rfl iv2)) ⟨⟨(oqE_fr fu11 rfl (oqE_fr fu5 rfl hE)), (oqWd_fr fu11 rfl (oqWd_fr fu5 rfl hWd)), _, _, _, ⟨b9, d9, (owBD_fr fu11 rfl (owBD_fr fu5 rfl hBD)), (owBC_fr fu11 rfl (owBC_fr fu5 rfl hBC)), (owME_fr fu11 rfl (owME_fr fu5 rfl hME)), (owKV_fr fu11 rfl pu5_0)⟩, (owLN_fr fu11 rfl (owLN_fr fu5 rfl hLN)), (owDN_fr fu11 rfl pu5_1), (owBE_fr fu11 rfl (owBE_fr fu5 rfl hBE)), (owMM_fr fu11 rfl (owMM_fr fu5 rfl hMM)), (owLO_fr fu11 rfl (owLO_fr fu5 rfl hLO))⟩, (owCZ_fr fu11 rfl (owCZ_fr fu5 rfl hCS)), _, _, _, (owBW_fr fu11 rfl (owBW_fr fu5 rfl hBW)), (owBY_fr fu11 rfl (owBY_fr fu5 rfl hBY)), hBR⟩ (by omega)
set_option maxHeartbeats 8000000 in
set_option maxRecDepth 100000 in
theorem lw_c25 {l : Launch} {b L kc sl : Nat} {xs : Nat → Int32} {E : oE} {J : oS → Nat → List (Nat × Value) → List Value → Prop} (C : oLC l b L xs E kc sl J) (hL : L ≤ 3072) {t : oS} {x3 : Int32} (iv0 : oLT t) (iv1 : 1 ≤ (t.1 71 38).toInt → 1 ≤ (t.1 71 42).toInt) (iv2 : oBI t) (iv3 : oqET t) (hx3 : 0 ≤ x3.toInt ∧ x3.toInt + 6 ≤ (L : Int)) (hgo : ∀ (t2 : oS) (y3 : Int32), oLT t2 → (1 ≤ (t2.1 71 38).toInt → 1 ≤ (t2.1 71 42).toInt) → oBI t2 → (oqET t2) → y3.toInt = x3.toInt + 6 → J t2 18 [(0, .ref b), (1, .ref (oad E 0)), (2, .ref (oad E 71)), (3, .int y3)] []) : J t 1035 [(0, .ref b), (1, .ref (oad E 0)), (2, .ref (oad E 71)), (3, .int x3)] [] := by
  obtain ⟨k0, qk0⟩ : ∃ z : Int32, z = 0 := ⟨_, rfl⟩
  have ek0 : k0.toInt = 0 := by rw [qk0]; rfl
  obtain ⟨k1, qk1⟩ : ∃ z : Int32, z = 1 := ⟨_, rfl⟩
  have ek1 : k1.toInt = 1 := by rw [qk1]; rfl
  obtain ⟨k2, qk2⟩ : ∃ z : Int32, z = 2 := ⟨_, rfl⟩
  have ek2 : k2.toInt = 2 := by rw [qk2]; rfl
  obtain ⟨k3, qk3⟩ : ∃ z : Int32, z = 3 := ⟨_, rfl⟩
  have ek3 : k3.toInt = 3 := by rw [qk3]; rfl
  obtain ⟨k4, qk4⟩ : ∃ z : Int32, z = 4 := ⟨_, rfl⟩
  have ek4 : k4.toInt = 4 := by rw [qk4]; rfl
  obtain ⟨k5, qk5⟩ : ∃ z : Int32, z = 5 := ⟨_, rfl⟩
  have ek5 : k5.toInt = 5 := by rw [qk5]; rfl
  obtain ⟨⟨hE, hWd, R9, W9, m9, ⟨b9, d9, hBD, hBC, hME, hKV⟩, hLN, hDN, hBE, hMM, hLO⟩, hCS, D9, S9, K9, hBW, hBY, hBR⟩ := id iv3
  refine L_aload_n C (j := 1) (oDec_at oLw_13 45 rfl) rfl rfl ?_
  refine L_aload_n C (j := 0) (oDec_at oLw_13 46 rfl) rfl rfl ?_
  refine L_iload_n C (j := 3) (oDec_at oLw_13 47 rfl) rfl rfl ?_
  refine L_iconst C (oDec_at oLw_13 48 rfl) (v := k1) (by rw [qk1]; rfl) ?_
  obtain ⟨v1, ev1⟩ : ∃ z : Int32, z = x3 + k1 := ⟨_, rfl⟩
  have hv1 : v1.toInt = x3.toInt + k1.toInt := n_add ev1 (by omega) (by omega)
  refine L_iadd C v1 (oDec_at oLw_13 49 rfl) ev1 ?_
  refine L_sld C ⟨by omega, by omega⟩ (oDec_at oLw_14 0 rfl) ?_
  obtain ⟨v2, ev2⟩ : ∃ z : Int32, xs v1.toNatClampNeg = z := ⟨_, rfl⟩
  rw [ev2]
  have rv2 := n_rng v2
  refine L_callVi C oCl11 rfl miX11_alike mlL_120 (ct9_X11_alike l E (t) v2 b9 R9 W9 hBC hKV hLN hDN) (by decide) rfl rfl rfl (Nat.le_of_ble_eq_true rfl) (oDec_at oLw_14 1 rfl) (fun r4 u3 pu3 fu3 => ?_)
  try dsimp only at pu3
  obtain ⟨pu3_0, pu3_1⟩ := pu3
  refine L_pc C 1044 rfl ?_
  refine L_pop C (oDec_at oLw_14 2 rfl) rfl ?_
  refine L_aload_n C (j := 2) (oDec_at oLw_14 3 rfl) rfl rfl ?_
  refine L_aload_n C (j := 0) (oDec_at oLw_14 4 rfl) rfl rfl ?_
  refine L_iload_n C (j := 3) (oDec_at oLw_14 5 rfl) rfl rfl ?_
  refine L_iconst C (oDec_at oLw_14 6 rfl) (v := k1) (by rw [qk1]; rfl) ?_
  obtain ⟨v5, ev5⟩ : ∃ z : Int32, z = x3 + k1 := ⟨_, rfl⟩
  have hv5 : v5.toInt = x3.toInt + k1.toInt := n_add ev5 (by omega) (by omega)
  refine L_iadd C v5 (oDec_at oLw_14 7 rfl) ev5 ?_
  refine L_sld C ⟨by omega, by omega⟩ (oDec_at oLw_14 8 rfl) ?_
  rw [show xs v5.toNatClampNeg = v2 from by rw [show v5.toNatClampNeg = v1.toNatClampNeg by have q1 := n_nat v5; have q2 := n_nat v1; omega]; exact ev2]
  refine L_callVi C oCl12 rfl miX12_alike mlL_123 (ct_X12_alike l E (u3) v2 (oBI_fr fu3 rfl iv2)) (by decide) rfl rfl rfl (Nat.le_of_ble_eq_true rfl) (oDec_at oLw_14 9 rfl) (fun r8 u7 pu7 fu7 => ?_)
  try dsimp only at pu7
  refine L_pc C 1054 rfl ?_
  refine L_pop C (oDec_at oLw_14 10 rfl) rfl ?_
  refine L_goto C (tgt := 1453) (oDec_at oLw_14 11 rfl) (by decide) ?_
  obtain ⟨v9, ev9⟩ : ∃ z : Int32, x3 + Int32.ofInt 6 = z := ⟨_, rfl⟩
  have hv9 : v9.toInt = x3.toInt + 6 := n_inc ev9 (by decide) (by omega) (by omega)
  refine L_iinc C (j := 3) (lv' := [(0, .ref b), (1, .ref (oad E 0)), (2, .ref (oad E 71)), (3, .int v9)]) v9 [1, 2, 3, 0] (oDec_at oLw_20 21 rfl) rfl ev9 (by decide) rfl ?_
  refine L_goto C (tgt := 18) (oDec_at oLw_20 22 rfl) (by decide) ?_
  have lk10 : ((u7).1 71 38).toInt = (t.1 71 38).toInt := congrArg Int32.toInt (((fu7 71 38 rfl).1).trans ((fu3 71 38 rfl).1))
  have lk11 : ((u7).1 71 42).toInt = (t.1 71 42).toInt := congrArg Int32.toInt (((fu7 71 42 rfl).1).trans ((fu3 71 42 rfl).1))
  have lk12 : ((u7).1 1 1).toInt = (t.1 1 1).toInt := congrArg Int32.toInt (((fu7 1 1 rfl).1).trans ((fu3 1 1 rfl).1))
  have lk13 : ((u7).1 71 1).toInt = (t.1 71 1).toInt := congrArg Int32.toInt (((fu7 71 1 rfl).1).trans ((fu3 71 1 rfl).1))
  exact hgo (u7) v9 (oLT_fr fu7 rfl (oLT_fr fu3 rfl iv0)) (by omega) (oBI_fr fu7 rfl (oBI_fr fu3 rfl iv2)) ⟨⟨(oqE_fr fu7 rfl (oqE_fr fu3 rfl hE)), (oqWd_fr fu7 rfl (oqWd_fr fu3 rfl hWd)), _, _, _, ⟨b9, d9, (owBD_fr fu7 rfl (owBD_fr fu3 rfl hBD)), (owBC_fr fu7 rfl (owBC_fr fu3 rfl hBC)), (owME_fr fu7 rfl (owME_fr fu3 rfl hME)), (owKV_fr fu7 rfl pu3_0)⟩, (owLN_fr fu7 rfl (owLN_fr fu3 rfl hLN)), (owDN_fr fu7 rfl pu3_1), (owBE_fr fu7 rfl (owBE_fr fu3 rfl hBE)), (owMM_fr fu7 rfl (owMM_fr fu3 rfl hMM)), (owLO_fr fu7 rfl (owLO_fr fu3 rfl hLO))⟩, (owCZ_fr fu7 rfl (owCZ_fr fu3 rfl hCS)), _, _, _, (owBW_fr fu7 rfl (owBW_fr fu3 rfl hBW)), (owBY_fr fu7 rfl (owBY_fr fu3 rfl hBY)), hBR⟩ (by omega)
set_option maxHeartbeats 8000000 in
set_option maxRecDepth 100000 in
theorem lw_c26 {l : Launch} {b L kc sl : Nat} {xs : Nat → Int32} {E : oE} {J : oS → Nat → List (Nat × Value) → List Value → Prop} (C : oLC l b L xs E kc sl J) (hL : L ≤ 3072) {t : oS} {x3 : Int32} (iv0 : oLT t) (iv1 : 1 ≤ (t.1 71 38).toInt → 1 ≤ (t.1 71 42).toInt) (iv2 : oBI t) (iv3 : oqET t) (hx3 : 0 ≤ x3.toInt ∧ x3.toInt + 6 ≤ (L : Int)) (hgo : ∀ (t2 : oS) (y3 : Int32), oLT t2 → (1 ≤ (t2.1 71 38).toInt → 1 ≤ (t2.1 71 42).toInt) → oBI t2 → (oqET t2) → y3.toInt = x3.toInt + 6 → J t2 18 [(0, .ref b), (1, .ref (oad E 0)), (2, .ref (oad E 71)), (3, .int y3)] []) : J t 1058 [(0, .ref b), (1, .ref (oad E 0)), (2, .ref (oad E 71)), (3, .int x3)] [] := by
  obtain ⟨k0, qk0⟩ : ∃ z : Int32, z = 0 := ⟨_, rfl⟩
  have ek0 : k0.toInt = 0 := by rw [qk0]; rfl
  obtain ⟨k1, qk1⟩ : ∃ z : Int32, z = 1 := ⟨_, rfl⟩
  have ek1 : k1.toInt = 1 := by rw [qk1]; rfl
  obtain ⟨k2, qk2⟩ : ∃ z : Int32, z = 2 := ⟨_, rfl⟩
  have ek2 : k2.toInt = 2 := by rw [qk2]; rfl
  obtain ⟨k3, qk3⟩ : ∃ z : Int32, z = 3 := ⟨_, rfl⟩
  have ek3 : k3.toInt = 3 := by rw [qk3]; rfl
  obtain ⟨k4, qk4⟩ : ∃ z : Int32, z = 4 := ⟨_, rfl⟩
  have ek4 : k4.toInt = 4 := by rw [qk4]; rfl
  obtain ⟨k5, qk5⟩ : ∃ z : Int32, z = 5 := ⟨_, rfl⟩
  have ek5 : k5.toInt = 5 := by rw [qk5]; rfl
  obtain ⟨⟨hE, hWd, R9, W9, m9, ⟨b9, d9, hBD, hBC, hME, hKV⟩, hLN, hDN, hBE, hMM, hLO⟩, hCS, D9, S9, K9, hBW, hBY, hBR⟩ := id iv3
  refine L_aload_n C (j := 1) (oDec_at oLw_14 12 rfl) rfl rfl ?_
  refine L_callVi C oCl11 rfl miX11_unlike mlL_124 (ct9_X11_unlike l E (t)  b9 R9 W9 hBC hKV hLN hDN) (by decide) rfl rfl rfl (Nat.le_of_ble_eq_true rfl) (oDec_at oLw_14 13 rfl) (fun r2 u1 pu1 fu1 => ?_)
  try dsimp only at pu1
  obtain ⟨pu1_0, pu1_1⟩ := pu1
  refine L_pc C 1062 rfl ?_
  refine L_pop C (oDec_at oLw_14 14 rfl) rfl ?_
  refine L_aload_n C (j := 2) (oDec_at oLw_14 15 rfl) rfl rfl ?_
  refine L_callVi C oCl12 rfl miX12_unlike mlL_127 (ct_X12_unlike l E (u1)  (oBI_fr fu1 rfl iv2)) (by decide) rfl rfl rfl (Nat.le_of_ble_eq_true rfl) (oDec_at oLw_14 16 rfl) (fun r4 u3 pu3 fu3 => ?_)
  try dsimp only at pu3
  refine L_pc C 1067 rfl ?_
  refine L_pop C (oDec_at oLw_14 17 rfl) rfl ?_
  refine L_goto C (tgt := 1453) (oDec_at oLw_14 18 rfl) (by decide) ?_
  obtain ⟨v5, ev5⟩ : ∃ z : Int32, x3 + Int32.ofInt 6 = z := ⟨_, rfl⟩
  have hv5 : v5.toInt = x3.toInt + 6 := n_inc ev5 (by decide) (by omega) (by omega)
  refine L_iinc C (j := 3) (lv' := [(0, .ref b), (1, .ref (oad E 0)), (2, .ref (oad E 71)), (3, .int v5)]) v5 [1, 2, 3, 0] (oDec_at oLw_20 21 rfl) rfl ev5 (by decide) rfl ?_
  refine L_goto C (tgt := 18) (oDec_at oLw_20 22 rfl) (by decide) ?_
  have lk6 : ((u3).1 71 38).toInt = (t.1 71 38).toInt := congrArg Int32.toInt (((fu3 71 38 rfl).1).trans ((fu1 71 38 rfl).1))
  have lk7 : ((u3).1 71 42).toInt = (t.1 71 42).toInt := congrArg Int32.toInt (((fu3 71 42 rfl).1).trans ((fu1 71 42 rfl).1))
  have lk8 : ((u3).1 1 1).toInt = (t.1 1 1).toInt := congrArg Int32.toInt (((fu3 1 1 rfl).1).trans ((fu1 1 1 rfl).1))
  have lk9 : ((u3).1 71 1).toInt = (t.1 71 1).toInt := congrArg Int32.toInt (((fu3 71 1 rfl).1).trans ((fu1 71 1 rfl).1))
  exact hgo (u3) v5 (oLT_fr fu3 rfl (oLT_fr fu1 rfl iv0)) (by omega) (oBI_fr fu3 rfl (oBI_fr fu1 rfl iv2)) ⟨⟨(oqE_fr fu3 rfl (oqE_fr fu1 rfl hE)), (oqWd_fr fu3 rfl (oqWd_fr fu1 rfl hWd)), _, _, _, ⟨b9, d9, (owBD_fr fu3 rfl (owBD_fr fu1 rfl hBD)), (owBC_fr fu3 rfl (owBC_fr fu1 rfl hBC)), (owME_fr fu3 rfl (owME_fr fu1 rfl hME)), (owKV_fr fu3 rfl pu1_0)⟩, (owLN_fr fu3 rfl (owLN_fr fu1 rfl hLN)), (owDN_fr fu3 rfl pu1_1), (owBE_fr fu3 rfl (owBE_fr fu1 rfl hBE)), (owMM_fr fu3 rfl (owMM_fr fu1 rfl hMM)), (owLO_fr fu3 rfl (owLO_fr fu1 rfl hLO))⟩, (owCZ_fr fu3 rfl (owCZ_fr fu1 rfl hCS)), _, _, _, (owBW_fr fu3 rfl (owBW_fr fu1 rfl hBW)), (owBY_fr fu3 rfl (owBY_fr fu1 rfl hBY)), hBR⟩ (by omega)
set_option maxHeartbeats 8000000 in
set_option maxRecDepth 100000 in
theorem lw_c27 {l : Launch} {b L kc sl : Nat} {xs : Nat → Int32} {E : oE} {J : oS → Nat → List (Nat × Value) → List Value → Prop} (C : oLC l b L xs E kc sl J) (hL : L ≤ 3072) {t : oS} {x3 : Int32} (iv0 : oLT t) (iv1 : 1 ≤ (t.1 71 38).toInt → 1 ≤ (t.1 71 42).toInt) (iv2 : oBI t) (iv3 : oqET t) (hx3 : 0 ≤ x3.toInt ∧ x3.toInt + 6 ≤ (L : Int)) (hgo : ∀ (t2 : oS) (y3 : Int32), oLT t2 → (1 ≤ (t2.1 71 38).toInt → 1 ≤ (t2.1 71 42).toInt) → oBI t2 → (oqET t2) → y3.toInt = x3.toInt + 6 → J t2 18 [(0, .ref b), (1, .ref (oad E 0)), (2, .ref (oad E 71)), (3, .int y3)] []) : J t 1071 [(0, .ref b), (1, .ref (oad E 0)), (2, .ref (oad E 71)), (3, .int x3)] [] := by
  obtain ⟨k0, qk0⟩ : ∃ z : Int32, z = 0 := ⟨_, rfl⟩
  have ek0 : k0.toInt = 0 := by rw [qk0]; rfl
  obtain ⟨k1, qk1⟩ : ∃ z : Int32, z = 1 := ⟨_, rfl⟩
  have ek1 : k1.toInt = 1 := by rw [qk1]; rfl
  obtain ⟨k2, qk2⟩ : ∃ z : Int32, z = 2 := ⟨_, rfl⟩
  have ek2 : k2.toInt = 2 := by rw [qk2]; rfl
  obtain ⟨k3, qk3⟩ : ∃ z : Int32, z = 3 := ⟨_, rfl⟩
  have ek3 : k3.toInt = 3 := by rw [qk3]; rfl
  obtain ⟨k4, qk4⟩ : ∃ z : Int32, z = 4 := ⟨_, rfl⟩
  have ek4 : k4.toInt = 4 := by rw [qk4]; rfl
  obtain ⟨k5, qk5⟩ : ∃ z : Int32, z = 5 := ⟨_, rfl⟩
  have ek5 : k5.toInt = 5 := by rw [qk5]; rfl
  obtain ⟨⟨hE, hWd, R9, W9, m9, ⟨b9, d9, hBD, hBC, hME, hKV⟩, hLN, hDN, hBE, hMM, hLO⟩, hCS, D9, S9, K9, hBW, hBY, hBR⟩ := id iv3
  refine L_aload_n C (j := 1) (oDec_at oLw_14 19 rfl) rfl rfl ?_
  refine L_aload_n C (j := 0) (oDec_at oLw_14 20 rfl) rfl rfl ?_
  refine L_iload_n C (j := 3) (oDec_at oLw_14 21 rfl) rfl rfl ?_
  refine L_iconst C (oDec_at oLw_14 22 rfl) (v := k1) (by rw [qk1]; rfl) ?_
  obtain ⟨v1, ev1⟩ : ∃ z : Int32, z = x3 + k1 := ⟨_, rfl⟩
  have hv1 : v1.toInt = x3.toInt + k1.toInt := n_add ev1 (by omega) (by omega)
  refine L_iadd C v1 (oDec_at oLw_14 23 rfl) ev1 ?_
  refine L_sld C ⟨by omega, by omega⟩ (oDec_at oLw_14 24 rfl) ?_
  obtain ⟨v2, ev2⟩ : ∃ z : Int32, xs v1.toNatClampNeg = z := ⟨_, rfl⟩
  rw [ev2]
  have rv2 := n_rng v2
  refine L_aload_n C (j := 0) (oDec_at oLw_14 25 rfl) rfl rfl ?_
  refine L_iload_n C (j := 3) (oDec_at oLw_14 26 rfl) rfl rfl ?_
  refine L_iconst C (oDec_at oLw_14 27 rfl) (v := k2) (by rw [qk2]; rfl) ?_
  obtain ⟨v3, ev3⟩ : ∃ z : Int32, z = x3 + k2 := ⟨_, rfl⟩
  have hv3 : v3.toInt = x3.toInt + k2.toInt := n_add ev3 (by omega) (by omega)
  refine L_iadd C v3 (oDec_at oLw_14 28 rfl) ev3 ?_
  refine L_sld C ⟨by omega, by omega⟩ (oDec_at oLw_14 29 rfl) ?_
  obtain ⟨v4, ev4⟩ : ∃ z : Int32, xs v3.toNatClampNeg = z := ⟨_, rfl⟩
  rw [ev4]
  have rv4 := n_rng v4
  refine L_if_eq C 1089 (oDec_at oLw_14 30 rfl) (by decide) (fun cd5 => ?_) (fun cd5 => ?_)
  · skip
    refine L_iconst C (oDec_at oLw_14 33 rfl) (v := k0) (by rw [qk0]; rfl) ?_
    refine L_callVi C oCl11 rfl miX11_rule mlL_128 (ct9_X11_rule l E (t) v2 k0 b9 R9 W9 (by omega) hBC hKV hLN hDN) (by decide) rfl rfl rfl (Nat.le_of_ble_eq_true rfl) (oDec_at oLw_14 34 rfl) (fun r7 u6 pu6 fu6 => ?_)
    try dsimp only at pu6
    obtain ⟨pu6_0, pu6_1⟩ := pu6
    refine L_pc C 1093 rfl ?_
    refine L_pop C (oDec_at oLw_14 35 rfl) rfl ?_
    refine L_aload_n C (j := 2) (oDec_at oLw_14 36 rfl) rfl rfl ?_
    refine L_aload_n C (j := 0) (oDec_at oLw_14 37 rfl) rfl rfl ?_
    refine L_iload_n C (j := 3) (oDec_at oLw_14 38 rfl) rfl rfl ?_
    refine L_iconst C (oDec_at oLw_14 39 rfl) (v := k1) (by rw [qk1]; rfl) ?_
    obtain ⟨v8, ev8⟩ : ∃ z : Int32, z = x3 + k1 := ⟨_, rfl⟩
    have hv8 : v8.toInt = x3.toInt + k1.toInt := n_add ev8 (by omega) (by omega)
    refine L_iadd C v8 (oDec_at oLw_14 40 rfl) ev8 ?_
    refine L_sld C ⟨by omega, by omega⟩ (oDec_at oLw_14 41 rfl) ?_
    rw [show xs v8.toNatClampNeg = v2 from by rw [show v8.toNatClampNeg = v1.toNatClampNeg by have q1 := n_nat v8; have q2 := n_nat v1; omega]; exact ev2]
    refine L_aload_n C (j := 0) (oDec_at oLw_14 42 rfl) rfl rfl ?_
    refine L_iload_n C (j := 3) (oDec_at oLw_14 43 rfl) rfl rfl ?_
    refine L_iconst C (oDec_at oLw_14 44 rfl) (v := k2) (by rw [qk2]; rfl) ?_
    obtain ⟨v10, ev10⟩ : ∃ z : Int32, z = x3 + k2 := ⟨_, rfl⟩
    have hv10 : v10.toInt = x3.toInt + k2.toInt := n_add ev10 (by omega) (by omega)
    refine L_iadd C v10 (oDec_at oLw_14 45 rfl) ev10 ?_
    refine L_sld C ⟨by omega, by omega⟩ (oDec_at oLw_14 46 rfl) ?_
    rw [show xs v10.toNatClampNeg = v4 from by rw [show v10.toNatClampNeg = v3.toNatClampNeg by have q1 := n_nat v10; have q2 := n_nat v3; omega]; exact ev4]
    refine L_if_eq C 1112 (oDec_at oLw_14 47 rfl) (by decide) (fun cd12 => ?_) (fun cd12 => ?_)
    · skip
      refine L_iconst C (oDec_at oLw_15 0 rfl) (v := k0) (by rw [qk0]; rfl) ?_
      refine L_callVi C oCl12 rfl miX12_rule mlL_131 (ct9_X12_rule l E (u6) v2 k0 (by omega) (oBI_fr fu6 rfl iv2) (owLO_fr fu6 rfl hLO)) (by decide) rfl rfl rfl (Nat.le_of_ble_eq_true rfl) (oDec_at oLw_15 1 rfl) (fun r14 u13 pu13 fu13 => ?_)
      try dsimp only at pu13
      refine L_pc C 1116 rfl ?_
      refine L_pop C (oDec_at oLw_15 2 rfl) rfl ?_
      refine L_goto C (tgt := 1453) (oDec_at oLw_15 3 rfl) (by decide) ?_
      obtain ⟨v15, ev15⟩ : ∃ z : Int32, x3 + Int32.ofInt 6 = z := ⟨_, rfl⟩
      have hv15 : v15.toInt = x3.toInt + 6 := n_inc ev15 (by decide) (by omega) (by omega)
      refine L_iinc C (j := 3) (lv' := [(0, .ref b), (1, .ref (oad E 0)), (2, .ref (oad E 71)), (3, .int v15)]) v15 [1, 2, 3, 0] (oDec_at oLw_20 21 rfl) rfl ev15 (by decide) rfl ?_
      refine L_goto C (tgt := 18) (oDec_at oLw_20 22 rfl) (by decide) ?_
      have lk16 : ((u13).1 71 38).toInt = (t.1 71 38).toInt := congrArg Int32.toInt (((fu13 71 38 rfl).1).trans ((fu6 71 38 rfl).1))
      have lk17 : ((u13).1 71 42).toInt = (t.1 71 42).toInt := congrArg Int32.toInt (((fu13 71 42 rfl).1).trans ((fu6 71 42 rfl).1))
      have lk18 : ((u13).1 1 1).toInt = (t.1 1 1).toInt := congrArg Int32.toInt (((fu13 1 1 rfl).1).trans ((fu6 1 1 rfl).1))
      have lk19 : ((u13).1 71 1).toInt = (t.1 71 1).toInt := congrArg Int32.toInt (((fu13 71 1 rfl).1).trans ((fu6 71 1 rfl).1))
      exact hgo (u13) v15 (oLT_fr fu13 rfl (oLT_fr fu6 rfl iv0)) (by omega) (oBI_fr fu13 rfl (oBI_fr fu6 rfl iv2)) ⟨⟨(oqE_fr fu13 rfl (oqE_fr fu6 rfl hE)), (oqWd_fr fu13 rfl (oqWd_fr fu6 rfl hWd)), _, _, _, ⟨b9, d9, (owBD_fr fu13 rfl (owBD_fr fu6 rfl hBD)), (owBC_fr fu13 rfl (owBC_fr fu6 rfl hBC)), (owME_fr fu13 rfl (owME_fr fu6 rfl hME)), (owKV_fr fu13 rfl pu6_0)⟩, (owLN_fr fu13 rfl (owLN_fr fu6 rfl hLN)), (owDN_fr fu13 rfl pu6_1), (owBE_fr fu13 rfl (owBE_fr fu6 rfl hBE)), (owMM_fr fu13 rfl (owMM_fr fu6 rfl hMM)), pu13⟩, (owCZ_fr fu13 rfl (owCZ_fr fu6 rfl hCS)), _, _, _, (owBW_fr fu13 rfl (owBW_fr fu6 rfl hBW)), (owBY_fr fu13 rfl (owBY_fr fu6 rfl hBY)), hBR⟩ (by omega)
    · skip
      refine L_iconst C (oDec_at oLw_14 48 rfl) (v := k1) (by rw [qk1]; rfl) ?_
      refine L_goto C (tgt := 1113) (oDec_at oLw_14 49 rfl) (by decide) ?_
      refine L_callVi C oCl12 rfl miX12_rule mlL_131 (ct9_X12_rule l E (u6) v2 k1 (by omega) (oBI_fr fu6 rfl iv2) (owLO_fr fu6 rfl hLO)) (by decide) rfl rfl rfl (Nat.le_of_ble_eq_true rfl) (oDec_at oLw_15 1 rfl) (fun r21 u20 pu20 fu20 => ?_)
      try dsimp only at pu20
      refine L_pc C 1116 rfl ?_
      refine L_pop C (oDec_at oLw_15 2 rfl) rfl ?_
      refine L_goto C (tgt := 1453) (oDec_at oLw_15 3 rfl) (by decide) ?_
      obtain ⟨v22, ev22⟩ : ∃ z : Int32, x3 + Int32.ofInt 6 = z := ⟨_, rfl⟩
      have hv22 : v22.toInt = x3.toInt + 6 := n_inc ev22 (by decide) (by omega) (by omega)
      refine L_iinc C (j := 3) (lv' := [(0, .ref b), (1, .ref (oad E 0)), (2, .ref (oad E 71)), (3, .int v22)]) v22 [1, 2, 3, 0] (oDec_at oLw_20 21 rfl) rfl ev22 (by decide) rfl ?_
      refine L_goto C (tgt := 18) (oDec_at oLw_20 22 rfl) (by decide) ?_
      have lk23 : ((u20).1 71 38).toInt = (t.1 71 38).toInt := congrArg Int32.toInt (((fu20 71 38 rfl).1).trans ((fu6 71 38 rfl).1))
      have lk24 : ((u20).1 71 42).toInt = (t.1 71 42).toInt := congrArg Int32.toInt (((fu20 71 42 rfl).1).trans ((fu6 71 42 rfl).1))
      have lk25 : ((u20).1 1 1).toInt = (t.1 1 1).toInt := congrArg Int32.toInt (((fu20 1 1 rfl).1).trans ((fu6 1 1 rfl).1))
      have lk26 : ((u20).1 71 1).toInt = (t.1 71 1).toInt := congrArg Int32.toInt (((fu20 71 1 rfl).1).trans ((fu6 71 1 rfl).1))
      exact hgo (u20) v22 (oLT_fr fu20 rfl (oLT_fr fu6 rfl iv0)) (by omega) (oBI_fr fu20 rfl (oBI_fr fu6 rfl iv2)) ⟨⟨(oqE_fr fu20 rfl (oqE_fr fu6 rfl hE)), (oqWd_fr fu20 rfl (oqWd_fr fu6 rfl hWd)), _, _, _, ⟨b9, d9, (owBD_fr fu20 rfl (owBD_fr fu6 rfl hBD)), (owBC_fr fu20 rfl (owBC_fr fu6 rfl hBC)), (owME_fr fu20 rfl (owME_fr fu6 rfl hME)), (owKV_fr fu20 rfl pu6_0)⟩, (owLN_fr fu20 rfl (owLN_fr fu6 rfl hLN)), (owDN_fr fu20 rfl pu6_1), (owBE_fr fu20 rfl (owBE_fr fu6 rfl hBE)), (owMM_fr fu20 rfl (owMM_fr fu6 rfl hMM)), pu20⟩, (owCZ_fr fu20 rfl (owCZ_fr fu6 rfl hCS)), _, _, _, (owBW_fr fu20 rfl (owBW_fr fu6 rfl hBW)), (owBY_fr fu20 rfl (owBY_fr fu6 rfl hBY)), hBR⟩ (by omega)
  · skip
    refine L_iconst C (oDec_at oLw_14 31 rfl) (v := k1) (by rw [qk1]; rfl) ?_
    refine L_goto C (tgt := 1090) (oDec_at oLw_14 32 rfl) (by decide) ?_
    refine L_callVi C oCl11 rfl miX11_rule mlL_128 (ct9_X11_rule l E (t) v2 k1 b9 R9 W9 (by omega) hBC hKV hLN hDN) (by decide) rfl rfl rfl (Nat.le_of_ble_eq_true rfl) (oDec_at oLw_14 34 rfl) (fun r28 u27 pu27 fu27 => ?_)
    try dsimp only at pu27
    obtain ⟨pu27_0, pu27_1⟩ := pu27
    refine L_pc C 1093 rfl ?_
    refine L_pop C (oDec_at oLw_14 35 rfl) rfl ?_
    refine L_aload_n C (j := 2) (oDec_at oLw_14 36 rfl) rfl rfl ?_
    refine L_aload_n C (j := 0) (oDec_at oLw_14 37 rfl) rfl rfl ?_
    refine L_iload_n C (j := 3) (oDec_at oLw_14 38 rfl) rfl rfl ?_
    refine L_iconst C (oDec_at oLw_14 39 rfl) (v := k1) (by rw [qk1]; rfl) ?_
    obtain ⟨v29, ev29⟩ : ∃ z : Int32, z = x3 + k1 := ⟨_, rfl⟩
    have hv29 : v29.toInt = x3.toInt + k1.toInt := n_add ev29 (by omega) (by omega)
    refine L_iadd C v29 (oDec_at oLw_14 40 rfl) ev29 ?_
    refine L_sld C ⟨by omega, by omega⟩ (oDec_at oLw_14 41 rfl) ?_
    rw [show xs v29.toNatClampNeg = v2 from by rw [show v29.toNatClampNeg = v1.toNatClampNeg by have q1 := n_nat v29; have q2 := n_nat v1; omega]; exact ev2]
    refine L_aload_n C (j := 0) (oDec_at oLw_14 42 rfl) rfl rfl ?_
    refine L_iload_n C (j := 3) (oDec_at oLw_14 43 rfl) rfl rfl ?_
    refine L_iconst C (oDec_at oLw_14 44 rfl) (v := k2) (by rw [qk2]; rfl) ?_
    obtain ⟨v31, ev31⟩ : ∃ z : Int32, z = x3 + k2 := ⟨_, rfl⟩
    have hv31 : v31.toInt = x3.toInt + k2.toInt := n_add ev31 (by omega) (by omega)
    refine L_iadd C v31 (oDec_at oLw_14 45 rfl) ev31 ?_
    refine L_sld C ⟨by omega, by omega⟩ (oDec_at oLw_14 46 rfl) ?_
    rw [show xs v31.toNatClampNeg = v4 from by rw [show v31.toNatClampNeg = v3.toNatClampNeg by have q1 := n_nat v31; have q2 := n_nat v3; omega]; exact ev4]
    refine L_if_eq C 1112 (oDec_at oLw_14 47 rfl) (by decide) (fun cd33 => ?_) (fun cd33 => ?_)
    · skip
      refine L_iconst C (oDec_at oLw_15 0 rfl) (v := k0) (by rw [qk0]; rfl) ?_
      refine L_callVi C oCl12 rfl miX12_rule mlL_131 (ct9_X12_rule l E (u27) v2 k0 (by omega) (oBI_fr fu27 rfl iv2) (owLO_fr fu27 rfl hLO)) (by decide) rfl rfl rfl (Nat.le_of_ble_eq_true rfl) (oDec_at oLw_15 1 rfl) (fun r35 u34 pu34 fu34 => ?_)
      try dsimp only at pu34
      refine L_pc C 1116 rfl ?_
      refine L_pop C (oDec_at oLw_15 2 rfl) rfl ?_
      refine L_goto C (tgt := 1453) (oDec_at oLw_15 3 rfl) (by decide) ?_
      obtain ⟨v36, ev36⟩ : ∃ z : Int32, x3 + Int32.ofInt 6 = z := ⟨_, rfl⟩
      have hv36 : v36.toInt = x3.toInt + 6 := n_inc ev36 (by decide) (by omega) (by omega)
      refine L_iinc C (j := 3) (lv' := [(0, .ref b), (1, .ref (oad E 0)), (2, .ref (oad E 71)), (3, .int v36)]) v36 [1, 2, 3, 0] (oDec_at oLw_20 21 rfl) rfl ev36 (by decide) rfl ?_
      refine L_goto C (tgt := 18) (oDec_at oLw_20 22 rfl) (by decide) ?_
      have lk37 : ((u34).1 71 38).toInt = (t.1 71 38).toInt := congrArg Int32.toInt (((fu34 71 38 rfl).1).trans ((fu27 71 38 rfl).1))
      have lk38 : ((u34).1 71 42).toInt = (t.1 71 42).toInt := congrArg Int32.toInt (((fu34 71 42 rfl).1).trans ((fu27 71 42 rfl).1))
      have lk39 : ((u34).1 1 1).toInt = (t.1 1 1).toInt := congrArg Int32.toInt (((fu34 1 1 rfl).1).trans ((fu27 1 1 rfl).1))
      have lk40 : ((u34).1 71 1).toInt = (t.1 71 1).toInt := congrArg Int32.toInt (((fu34 71 1 rfl).1).trans ((fu27 71 1 rfl).1))
      exact hgo (u34) v36 (oLT_fr fu34 rfl (oLT_fr fu27 rfl iv0)) (by omega) (oBI_fr fu34 rfl (oBI_fr fu27 rfl iv2)) ⟨⟨(oqE_fr fu34 rfl (oqE_fr fu27 rfl hE)), (oqWd_fr fu34 rfl (oqWd_fr fu27 rfl hWd)), _, _, _, ⟨b9, d9, (owBD_fr fu34 rfl (owBD_fr fu27 rfl hBD)), (owBC_fr fu34 rfl (owBC_fr fu27 rfl hBC)), (owME_fr fu34 rfl (owME_fr fu27 rfl hME)), (owKV_fr fu34 rfl pu27_0)⟩, (owLN_fr fu34 rfl (owLN_fr fu27 rfl hLN)), (owDN_fr fu34 rfl pu27_1), (owBE_fr fu34 rfl (owBE_fr fu27 rfl hBE)), (owMM_fr fu34 rfl (owMM_fr fu27 rfl hMM)), pu34⟩, (owCZ_fr fu34 rfl (owCZ_fr fu27 rfl hCS)), _, _, _, (owBW_fr fu34 rfl (owBW_fr fu27 rfl hBW)), (owBY_fr fu34 rfl (owBY_fr fu27 rfl hBY)), hBR⟩ (by omega)
    · skip
      refine L_iconst C (oDec_at oLw_14 48 rfl) (v := k1) (by rw [qk1]; rfl) ?_
      refine L_goto C (tgt := 1113) (oDec_at oLw_14 49 rfl) (by decide) ?_
      refine L_callVi C oCl12 rfl miX12_rule mlL_131 (ct9_X12_rule l E (u27) v2 k1 (by omega) (oBI_fr fu27 rfl iv2) (owLO_fr fu27 rfl hLO)) (by decide) rfl rfl rfl (Nat.le_of_ble_eq_true rfl) (oDec_at oLw_15 1 rfl) (fun r42 u41 pu41 fu41 => ?_)
      try dsimp only at pu41
      refine L_pc C 1116 rfl ?_
      refine L_pop C (oDec_at oLw_15 2 rfl) rfl ?_
      refine L_goto C (tgt := 1453) (oDec_at oLw_15 3 rfl) (by decide) ?_
      obtain ⟨v43, ev43⟩ : ∃ z : Int32, x3 + Int32.ofInt 6 = z := ⟨_, rfl⟩
      have hv43 : v43.toInt = x3.toInt + 6 := n_inc ev43 (by decide) (by omega) (by omega)
      refine L_iinc C (j := 3) (lv' := [(0, .ref b), (1, .ref (oad E 0)), (2, .ref (oad E 71)), (3, .int v43)]) v43 [1, 2, 3, 0] (oDec_at oLw_20 21 rfl) rfl ev43 (by decide) rfl ?_
      refine L_goto C (tgt := 18) (oDec_at oLw_20 22 rfl) (by decide) ?_
      have lk44 : ((u41).1 71 38).toInt = (t.1 71 38).toInt := congrArg Int32.toInt (((fu41 71 38 rfl).1).trans ((fu27 71 38 rfl).1))
      have lk45 : ((u41).1 71 42).toInt = (t.1 71 42).toInt := congrArg Int32.toInt (((fu41 71 42 rfl).1).trans ((fu27 71 42 rfl).1))
      have lk46 : ((u41).1 1 1).toInt = (t.1 1 1).toInt := congrArg Int32.toInt (((fu41 1 1 rfl).1).trans ((fu27 1 1 rfl).1))
      have lk47 : ((u41).1 71 1).toInt = (t.1 71 1).toInt := congrArg Int32.toInt (((fu41 71 1 rfl).1).trans ((fu27 71 1 rfl).1))
      exact hgo (u41) v43 (oLT_fr fu41 rfl (oLT_fr fu27 rfl iv0)) (by omega) (oBI_fr fu41 rfl (oBI_fr fu27 rfl iv2)) ⟨⟨(oqE_fr fu41 rfl (oqE_fr fu27 rfl hE)), (oqWd_fr fu41 rfl (oqWd_fr fu27 rfl hWd)), _, _, _, ⟨b9, d9, (owBD_fr fu41 rfl (owBD_fr fu27 rfl hBD)), (owBC_fr fu41 rfl (owBC_fr fu27 rfl hBC)), (owME_fr fu41 rfl (owME_fr fu27 rfl hME)), (owKV_fr fu41 rfl pu27_0)⟩, (owLN_fr fu41 rfl (owLN_fr fu27 rfl hLN)), (owDN_fr fu41 rfl pu27_1), (owBE_fr fu41 rfl (owBE_fr fu27 rfl hBE)), (owMM_fr fu41 rfl (owMM_fr fu27 rfl hMM)), pu41⟩, (owCZ_fr fu41 rfl (owCZ_fr fu27 rfl hCS)), _, _, _, (owBW_fr fu41 rfl (owBW_fr fu27 rfl hBW)), (owBY_fr fu41 rfl (owBY_fr fu27 rfl hBY)), hBR⟩ (by omega)
set_option maxHeartbeats 8000000 in
set_option maxRecDepth 100000 in
theorem lw_c28 {l : Launch} {b L kc sl : Nat} {xs : Nat → Int32} {E : oE} {J : oS → Nat → List (Nat × Value) → List Value → Prop} (C : oLC l b L xs E kc sl J) (hL : L ≤ 3072) {t : oS} {x3 : Int32} (iv0 : oLT t) (iv1 : 1 ≤ (t.1 71 38).toInt → 1 ≤ (t.1 71 42).toInt) (iv2 : oBI t) (iv3 : oqET t) (hx3 : 0 ≤ x3.toInt ∧ x3.toInt + 6 ≤ (L : Int)) (hgo : ∀ (t2 : oS) (y3 : Int32), oLT t2 → (1 ≤ (t2.1 71 38).toInt → 1 ≤ (t2.1 71 42).toInt) → oBI t2 → (oqET t2) → y3.toInt = x3.toInt + 6 → J t2 18 [(0, .ref b), (1, .ref (oad E 0)), (2, .ref (oad E 71)), (3, .int y3)] []) : J t 1120 [(0, .ref b), (1, .ref (oad E 0)), (2, .ref (oad E 71)), (3, .int x3)] [] := by
  obtain ⟨k0, qk0⟩ : ∃ z : Int32, z = 0 := ⟨_, rfl⟩
  have ek0 : k0.toInt = 0 := by rw [qk0]; rfl
  obtain ⟨k1, qk1⟩ : ∃ z : Int32, z = 1 := ⟨_, rfl⟩
  have ek1 : k1.toInt = 1 := by rw [qk1]; rfl
  obtain ⟨k2, qk2⟩ : ∃ z : Int32, z = 2 := ⟨_, rfl⟩
  have ek2 : k2.toInt = 2 := by rw [qk2]; rfl
  obtain ⟨k3, qk3⟩ : ∃ z : Int32, z = 3 := ⟨_, rfl⟩
  have ek3 : k3.toInt = 3 := by rw [qk3]; rfl
  obtain ⟨k4, qk4⟩ : ∃ z : Int32, z = 4 := ⟨_, rfl⟩
  have ek4 : k4.toInt = 4 := by rw [qk4]; rfl
  obtain ⟨k5, qk5⟩ : ∃ z : Int32, z = 5 := ⟨_, rfl⟩
  have ek5 : k5.toInt = 5 := by rw [qk5]; rfl
  obtain ⟨⟨hE, hWd, R9, W9, m9, ⟨b9, d9, hBD, hBC, hME, hKV⟩, hLN, hDN, hBE, hMM, hLO⟩, hCS, D9, S9, K9, hBW, hBY, hBR⟩ := id iv3
  refine L_aload_n C (j := 1) (oDec_at oLw_15 4 rfl) rfl rfl ?_
  refine L_aload_n C (j := 0) (oDec_at oLw_15 5 rfl) rfl rfl ?_
  refine L_iload_n C (j := 3) (oDec_at oLw_15 6 rfl) rfl rfl ?_
  refine L_iconst C (oDec_at oLw_15 7 rfl) (v := k1) (by rw [qk1]; rfl) ?_
  obtain ⟨v1, ev1⟩ : ∃ z : Int32, z = x3 + k1 := ⟨_, rfl⟩
  have hv1 : v1.toInt = x3.toInt + k1.toInt := n_add ev1 (by omega) (by omega)
  refine L_iadd C v1 (oDec_at oLw_15 8 rfl) ev1 ?_
  refine L_sld C ⟨by omega, by omega⟩ (oDec_at oLw_15 9 rfl) ?_
  obtain ⟨v2, ev2⟩ : ∃ z : Int32, xs v1.toNatClampNeg = z := ⟨_, rfl⟩
  rw [ev2]
  have rv2 := n_rng v2
  refine L_aload_n C (j := 0) (oDec_at oLw_15 10 rfl) rfl rfl ?_
  refine L_iload_n C (j := 3) (oDec_at oLw_15 11 rfl) rfl rfl ?_
  refine L_iconst C (oDec_at oLw_15 12 rfl) (v := k2) (by rw [qk2]; rfl) ?_
  obtain ⟨v3, ev3⟩ : ∃ z : Int32, z = x3 + k2 := ⟨_, rfl⟩
  have hv3 : v3.toInt = x3.toInt + k2.toInt := n_add ev3 (by omega) (by omega)
  refine L_iadd C v3 (oDec_at oLw_15 13 rfl) ev3 ?_
  refine L_sld C ⟨by omega, by omega⟩ (oDec_at oLw_15 14 rfl) ?_
  obtain ⟨v4, ev4⟩ : ∃ z : Int32, xs v3.toNatClampNeg = z := ⟨_, rfl⟩
  rw [ev4]
  have rv4 := n_rng v4
  refine L_callVi C oCl11 rfl miX11_meant mlL_132 (ct9_X11_meant l E (t) v2 v4 b9 R9 W9 hBC hKV hLN hDN) (by decide) rfl rfl rfl (Nat.le_of_ble_eq_true rfl) (oDec_at oLw_15 15 rfl) (fun r6 u5 pu5 fu5 => ?_)
  try dsimp only at pu5
  obtain ⟨pu5_0, pu5_1⟩ := pu5
  refine L_pc C 1134 rfl ?_
  refine L_pop C (oDec_at oLw_15 16 rfl) rfl ?_
  refine L_aload_n C (j := 2) (oDec_at oLw_15 17 rfl) rfl rfl ?_
  refine L_aload_n C (j := 0) (oDec_at oLw_15 18 rfl) rfl rfl ?_
  refine L_iload_n C (j := 3) (oDec_at oLw_15 19 rfl) rfl rfl ?_
  refine L_iconst C (oDec_at oLw_15 20 rfl) (v := k1) (by rw [qk1]; rfl) ?_
  obtain ⟨v7, ev7⟩ : ∃ z : Int32, z = x3 + k1 := ⟨_, rfl⟩
  have hv7 : v7.toInt = x3.toInt + k1.toInt := n_add ev7 (by omega) (by omega)
  refine L_iadd C v7 (oDec_at oLw_15 21 rfl) ev7 ?_
  refine L_sld C ⟨by omega, by omega⟩ (oDec_at oLw_15 22 rfl) ?_
  rw [show xs v7.toNatClampNeg = v2 from by rw [show v7.toNatClampNeg = v1.toNatClampNeg by have q1 := n_nat v7; have q2 := n_nat v1; omega]; exact ev2]
  refine L_aload_n C (j := 0) (oDec_at oLw_15 23 rfl) rfl rfl ?_
  refine L_iload_n C (j := 3) (oDec_at oLw_15 24 rfl) rfl rfl ?_
  refine L_iconst C (oDec_at oLw_15 25 rfl) (v := k2) (by rw [qk2]; rfl) ?_
  obtain ⟨v9, ev9⟩ : ∃ z : Int32, z = x3 + k2 := ⟨_, rfl⟩
  have hv9 : v9.toInt = x3.toInt + k2.toInt := n_add ev9 (by omega) (by omega)
  refine L_iadd C v9 (oDec_at oLw_15 26 rfl) ev9 ?_
  refine L_sld C ⟨by omega, by omega⟩ (oDec_at oLw_15 27 rfl) ?_
  rw [show xs v9.toNatClampNeg = v4 from by rw [show v9.toNatClampNeg = v3.toNatClampNeg by have q1 := n_nat v9; have q2 := n_nat v3; omega]; exact ev4]
  refine L_callVi C oCl12 rfl miX12_meant mlL_135 (ct_X12_meant l E (u5) v2 v4 (oBI_fr fu5 rfl iv2)) (by decide) rfl rfl rfl (Nat.le_of_ble_eq_true rfl) (oDec_at oLw_15 28 rfl) (fun r12 u11 pu11 fu11 => ?_)
  try dsimp only at pu11
  refine L_pc C 1149 rfl ?_
  refine L_pop C (oDec_at oLw_15 29 rfl) rfl ?_
  refine L_goto C (tgt := 1453) (oDec_at oLw_15 30 rfl) (by decide) ?_
  obtain ⟨v13, ev13⟩ : ∃ z : Int32, x3 + Int32.ofInt 6 = z := ⟨_, rfl⟩
  have hv13 : v13.toInt = x3.toInt + 6 := n_inc ev13 (by decide) (by omega) (by omega)
  refine L_iinc C (j := 3) (lv' := [(0, .ref b), (1, .ref (oad E 0)), (2, .ref (oad E 71)), (3, .int v13)]) v13 [1, 2, 3, 0] (oDec_at oLw_20 21 rfl) rfl ev13 (by decide) rfl ?_
  refine L_goto C (tgt := 18) (oDec_at oLw_20 22 rfl) (by decide) ?_
  have lk14 : ((u11).1 71 38).toInt = (t.1 71 38).toInt := congrArg Int32.toInt (((fu11 71 38 rfl).1).trans ((fu5 71 38 rfl).1))
  have lk15 : ((u11).1 71 42).toInt = (t.1 71 42).toInt := congrArg Int32.toInt (((fu11 71 42 rfl).1).trans ((fu5 71 42 rfl).1))
  have lk16 : ((u11).1 1 1).toInt = (t.1 1 1).toInt := congrArg Int32.toInt (((fu11 1 1 rfl).1).trans ((fu5 1 1 rfl).1))
  have lk17 : ((u11).1 71 1).toInt = (t.1 71 1).toInt := congrArg Int32.toInt (((fu11 71 1 rfl).1).trans ((fu5 71 1 rfl).1))
  exact hgo (u11) v13 (oLT_fr fu11 rfl (oLT_fr fu5 rfl iv0)) (by omega) (oBI_fr fu11 rfl (oBI_fr fu5 rfl iv2)) ⟨⟨(oqE_fr fu11 rfl (oqE_fr fu5 rfl hE)), (oqWd_fr fu11 rfl (oqWd_fr fu5 rfl hWd)), _, _, _, ⟨b9, d9, (owBD_fr fu11 rfl (owBD_fr fu5 rfl hBD)), (owBC_fr fu11 rfl (owBC_fr fu5 rfl hBC)), (owME_fr fu11 rfl (owME_fr fu5 rfl hME)), (owKV_fr fu11 rfl pu5_0)⟩, (owLN_fr fu11 rfl (owLN_fr fu5 rfl hLN)), (owDN_fr fu11 rfl pu5_1), (owBE_fr fu11 rfl (owBE_fr fu5 rfl hBE)), (owMM_fr fu11 rfl (owMM_fr fu5 rfl hMM)), (owLO_fr fu11 rfl (owLO_fr fu5 rfl hLO))⟩, (owCZ_fr fu11 rfl (owCZ_fr fu5 rfl hCS)), _, _, _, (owBW_fr fu11 rfl (owBW_fr fu5 rfl hBW)), (owBY_fr fu11 rfl (owBY_fr fu5 rfl hBY)), hBR⟩ (by omega)
set_option maxHeartbeats 8000000 in
set_option maxRecDepth 100000 in
theorem lw_c29 {l : Launch} {b L kc sl : Nat} {xs : Nat → Int32} {E : oE} {J : oS → Nat → List (Nat × Value) → List Value → Prop} (C : oLC l b L xs E kc sl J) (hL : L ≤ 3072) {t : oS} {x3 : Int32} (iv0 : oLT t) (iv1 : 1 ≤ (t.1 71 38).toInt → 1 ≤ (t.1 71 42).toInt) (iv2 : oBI t) (iv3 : oqET t) (hx3 : 0 ≤ x3.toInt ∧ x3.toInt + 6 ≤ (L : Int)) (hgo : ∀ (t2 : oS) (y3 : Int32), oLT t2 → (1 ≤ (t2.1 71 38).toInt → 1 ≤ (t2.1 71 42).toInt) → oBI t2 → (oqET t2) → y3.toInt = x3.toInt + 6 → J t2 18 [(0, .ref b), (1, .ref (oad E 0)), (2, .ref (oad E 71)), (3, .int y3)] []) : J t 1153 [(0, .ref b), (1, .ref (oad E 0)), (2, .ref (oad E 71)), (3, .int x3)] [] := by
  obtain ⟨k0, qk0⟩ : ∃ z : Int32, z = 0 := ⟨_, rfl⟩
  have ek0 : k0.toInt = 0 := by rw [qk0]; rfl
  obtain ⟨k1, qk1⟩ : ∃ z : Int32, z = 1 := ⟨_, rfl⟩
  have ek1 : k1.toInt = 1 := by rw [qk1]; rfl
  obtain ⟨k2, qk2⟩ : ∃ z : Int32, z = 2 := ⟨_, rfl⟩
  have ek2 : k2.toInt = 2 := by rw [qk2]; rfl
  obtain ⟨k3, qk3⟩ : ∃ z : Int32, z = 3 := ⟨_, rfl⟩
  have ek3 : k3.toInt = 3 := by rw [qk3]; rfl
  obtain ⟨k4, qk4⟩ : ∃ z : Int32, z = 4 := ⟨_, rfl⟩
  have ek4 : k4.toInt = 4 := by rw [qk4]; rfl
  obtain ⟨k5, qk5⟩ : ∃ z : Int32, z = 5 := ⟨_, rfl⟩
  have ek5 : k5.toInt = 5 := by rw [qk5]; rfl
  obtain ⟨⟨hE, hWd, R9, W9, m9, ⟨b9, d9, hBD, hBC, hME, hKV⟩, hLN, hDN, hBE, hMM, hLO⟩, hCS, D9, S9, K9, hBW, hBY, hBR⟩ := id iv3
  refine L_aload_n C (j := 1) (oDec_at oLw_15 31 rfl) rfl rfl ?_
  refine L_aload_n C (j := 0) (oDec_at oLw_15 32 rfl) rfl rfl ?_
  refine L_iload_n C (j := 3) (oDec_at oLw_15 33 rfl) rfl rfl ?_
  refine L_iconst C (oDec_at oLw_15 34 rfl) (v := k1) (by rw [qk1]; rfl) ?_
  obtain ⟨v1, ev1⟩ : ∃ z : Int32, z = x3 + k1 := ⟨_, rfl⟩
  have hv1 : v1.toInt = x3.toInt + k1.toInt := n_add ev1 (by omega) (by omega)
  refine L_iadd C v1 (oDec_at oLw_15 35 rfl) ev1 ?_
  refine L_sld C ⟨by omega, by omega⟩ (oDec_at oLw_15 36 rfl) ?_
  obtain ⟨v2, ev2⟩ : ∃ z : Int32, xs v1.toNatClampNeg = z := ⟨_, rfl⟩
  rw [ev2]
  have rv2 := n_rng v2
  refine L_callVi C oCl11 rfl miX11_round mlL_136 (ct9_X11_round l E (t) v2 b9 R9 W9 hBC hKV hLN hDN) (by decide) rfl rfl rfl (Nat.le_of_ble_eq_true rfl) (oDec_at oLw_15 37 rfl) (fun r4 u3 pu3 fu3 => ?_)
  try dsimp only at pu3
  obtain ⟨pu3_0, pu3_1⟩ := pu3
  refine L_pc C 1162 rfl ?_
  refine L_pop C (oDec_at oLw_15 38 rfl) rfl ?_
  refine L_aload_n C (j := 2) (oDec_at oLw_15 39 rfl) rfl rfl ?_
  refine L_aload_n C (j := 0) (oDec_at oLw_15 40 rfl) rfl rfl ?_
  refine L_iload_n C (j := 3) (oDec_at oLw_15 41 rfl) rfl rfl ?_
  refine L_iconst C (oDec_at oLw_15 42 rfl) (v := k1) (by rw [qk1]; rfl) ?_
  obtain ⟨v5, ev5⟩ : ∃ z : Int32, z = x3 + k1 := ⟨_, rfl⟩
  have hv5 : v5.toInt = x3.toInt + k1.toInt := n_add ev5 (by omega) (by omega)
  refine L_iadd C v5 (oDec_at oLw_15 43 rfl) ev5 ?_
  refine L_sld C ⟨by omega, by omega⟩ (oDec_at oLw_15 44 rfl) ?_
  rw [show xs v5.toNatClampNeg = v2 from by rw [show v5.toNatClampNeg = v1.toNatClampNeg by have q1 := n_nat v5; have q2 := n_nat v1; omega]; exact ev2]
  have lk7 : ((u3).1 71 38).toInt = (t.1 71 38).toInt := congrArg Int32.toInt ((fu3 71 38 rfl).1)
  have lk8 : ((u3).1 71 42).toInt = (t.1 71 42).toInt := congrArg Int32.toInt ((fu3 71 42 rfl).1)
  refine L_callVi C oCl12 rfl miX12_round mlL_139 (ct_X12_round l E (u3) v2 (oBI_fr fu3 rfl iv2) (by omega)) (by decide) rfl rfl rfl (Nat.le_of_ble_eq_true rfl) (oDec_at oLw_15 45 rfl) (fun r10 u9 pu9 fu9 => ?_)
  try dsimp only at pu9
  refine L_pc C 1172 rfl ?_
  refine L_pop C (oDec_at oLw_15 46 rfl) rfl ?_
  refine L_goto C (tgt := 1453) (oDec_at oLw_15 47 rfl) (by decide) ?_
  obtain ⟨v11, ev11⟩ : ∃ z : Int32, x3 + Int32.ofInt 6 = z := ⟨_, rfl⟩
  have hv11 : v11.toInt = x3.toInt + 6 := n_inc ev11 (by decide) (by omega) (by omega)
  refine L_iinc C (j := 3) (lv' := [(0, .ref b), (1, .ref (oad E 0)), (2, .ref (oad E 71)), (3, .int v11)]) v11 [1, 2, 3, 0] (oDec_at oLw_20 21 rfl) rfl ev11 (by decide) rfl ?_
  refine L_goto C (tgt := 18) (oDec_at oLw_20 22 rfl) (by decide) ?_
  have lk12 : ((u9).1 71 38).toInt = (t.1 71 38).toInt := congrArg Int32.toInt (((fu9 71 38 rfl).1).trans ((fu3 71 38 rfl).1))
  have lk13 : ((u9).1 71 42).toInt = (t.1 71 42).toInt := congrArg Int32.toInt (((fu9 71 42 rfl).1).trans ((fu3 71 42 rfl).1))
  have lk14 : ((u9).1 1 1).toInt = (t.1 1 1).toInt := congrArg Int32.toInt (((fu9 1 1 rfl).1).trans ((fu3 1 1 rfl).1))
  have lk15 : ((u9).1 71 1).toInt = (t.1 71 1).toInt := congrArg Int32.toInt (((fu9 71 1 rfl).1).trans ((fu3 71 1 rfl).1))
  exact hgo (u9) v11 (oLT_fr fu9 rfl (oLT_fr fu3 rfl iv0)) (by omega) (oBI_fr fu9 rfl (oBI_fr fu3 rfl iv2)) ⟨⟨(oqE_fr fu9 rfl (oqE_fr fu3 rfl hE)), (oqWd_fr fu9 rfl (oqWd_fr fu3 rfl hWd)), _, _, _, ⟨b9, d9, (owBD_fr fu9 rfl (owBD_fr fu3 rfl hBD)), (owBC_fr fu9 rfl (owBC_fr fu3 rfl hBC)), (owME_fr fu9 rfl (owME_fr fu3 rfl hME)), (owKV_fr fu9 rfl pu3_0)⟩, (owLN_fr fu9 rfl (owLN_fr fu3 rfl hLN)), (owDN_fr fu9 rfl pu3_1), (owBE_fr fu9 rfl (owBE_fr fu3 rfl hBE)), (owMM_fr fu9 rfl (owMM_fr fu3 rfl hMM)), (owLO_fr fu9 rfl (owLO_fr fu3 rfl hLO))⟩, (owCZ_fr fu9 rfl (owCZ_fr fu3 rfl hCS)), _, _, _, (owBW_fr fu9 rfl (owBW_fr fu3 rfl hBW)), (owBY_fr fu9 rfl (owBY_fr fu3 rfl hBY)), hBR⟩ (by omega)
set_option maxHeartbeats 8000000 in
set_option maxRecDepth 100000 in
theorem lw_c30 {l : Launch} {b L kc sl : Nat} {xs : Nat → Int32} {E : oE} {J : oS → Nat → List (Nat × Value) → List Value → Prop} (C : oLC l b L xs E kc sl J) (hL : L ≤ 3072) {t : oS} {x3 : Int32} (iv0 : oLT t) (iv1 : 1 ≤ (t.1 71 38).toInt → 1 ≤ (t.1 71 42).toInt) (iv2 : oBI t) (iv3 : oqET t) (hx3 : 0 ≤ x3.toInt ∧ x3.toInt + 6 ≤ (L : Int)) (hgo : ∀ (t2 : oS) (y3 : Int32), oLT t2 → (1 ≤ (t2.1 71 38).toInt → 1 ≤ (t2.1 71 42).toInt) → oBI t2 → (oqET t2) → y3.toInt = x3.toInt + 6 → J t2 18 [(0, .ref b), (1, .ref (oad E 0)), (2, .ref (oad E 71)), (3, .int y3)] []) : J t 1176 [(0, .ref b), (1, .ref (oad E 0)), (2, .ref (oad E 71)), (3, .int x3)] [] := by
  obtain ⟨k0, qk0⟩ : ∃ z : Int32, z = 0 := ⟨_, rfl⟩
  have ek0 : k0.toInt = 0 := by rw [qk0]; rfl
  obtain ⟨k1, qk1⟩ : ∃ z : Int32, z = 1 := ⟨_, rfl⟩
  have ek1 : k1.toInt = 1 := by rw [qk1]; rfl
  obtain ⟨k2, qk2⟩ : ∃ z : Int32, z = 2 := ⟨_, rfl⟩
  have ek2 : k2.toInt = 2 := by rw [qk2]; rfl
  obtain ⟨k3, qk3⟩ : ∃ z : Int32, z = 3 := ⟨_, rfl⟩
  have ek3 : k3.toInt = 3 := by rw [qk3]; rfl
  obtain ⟨k4, qk4⟩ : ∃ z : Int32, z = 4 := ⟨_, rfl⟩
  have ek4 : k4.toInt = 4 := by rw [qk4]; rfl
  obtain ⟨k5, qk5⟩ : ∃ z : Int32, z = 5 := ⟨_, rfl⟩
  have ek5 : k5.toInt = 5 := by rw [qk5]; rfl
  obtain ⟨⟨hE, hWd, R9, W9, m9, ⟨b9, d9, hBD, hBC, hME, hKV⟩, hLN, hDN, hBE, hMM, hLO⟩, hCS, D9, S9, K9, hBW, hBY, hBR⟩ := id iv3
  refine L_aload_n C (j := 1) (oDec_at oLw_15 48 rfl) rfl rfl ?_
  refine L_aload_n C (j := 0) (oDec_at oLw_15 49 rfl) rfl rfl ?_
  refine L_iload_n C (j := 3) (oDec_at oLw_16 0 rfl) rfl rfl ?_
  refine L_iconst C (oDec_at oLw_16 1 rfl) (v := k1) (by rw [qk1]; rfl) ?_
  obtain ⟨v1, ev1⟩ : ∃ z : Int32, z = x3 + k1 := ⟨_, rfl⟩
  have hv1 : v1.toInt = x3.toInt + k1.toInt := n_add ev1 (by omega) (by omega)
  refine L_iadd C v1 (oDec_at oLw_16 2 rfl) ev1 ?_
  refine L_sld C ⟨by omega, by omega⟩ (oDec_at oLw_16 3 rfl) ?_
  obtain ⟨v2, ev2⟩ : ∃ z : Int32, xs v1.toNatClampNeg = z := ⟨_, rfl⟩
  rw [ev2]
  have rv2 := n_rng v2
  refine L_aload_n C (j := 0) (oDec_at oLw_16 4 rfl) rfl rfl ?_
  refine L_iload_n C (j := 3) (oDec_at oLw_16 5 rfl) rfl rfl ?_
  refine L_iconst C (oDec_at oLw_16 6 rfl) (v := k2) (by rw [qk2]; rfl) ?_
  obtain ⟨v3, ev3⟩ : ∃ z : Int32, z = x3 + k2 := ⟨_, rfl⟩
  have hv3 : v3.toInt = x3.toInt + k2.toInt := n_add ev3 (by omega) (by omega)
  refine L_iadd C v3 (oDec_at oLw_16 7 rfl) ev3 ?_
  refine L_sld C ⟨by omega, by omega⟩ (oDec_at oLw_16 8 rfl) ?_
  obtain ⟨v4, ev4⟩ : ∃ z : Int32, xs v3.toNatClampNeg = z := ⟨_, rfl⟩
  rw [ev4]
  have rv4 := n_rng v4
  refine L_aload_n C (j := 0) (oDec_at oLw_16 9 rfl) rfl rfl ?_
  refine L_iload_n C (j := 3) (oDec_at oLw_16 10 rfl) rfl rfl ?_
  refine L_iconst C (oDec_at oLw_16 11 rfl) (v := k3) (by rw [qk3]; rfl) ?_
  obtain ⟨v5, ev5⟩ : ∃ z : Int32, z = x3 + k3 := ⟨_, rfl⟩
  have hv5 : v5.toInt = x3.toInt + k3.toInt := n_add ev5 (by omega) (by omega)
  refine L_iadd C v5 (oDec_at oLw_16 12 rfl) ev5 ?_
  refine L_sld C ⟨by omega, by omega⟩ (oDec_at oLw_16 13 rfl) ?_
  obtain ⟨v6, ev6⟩ : ∃ z : Int32, xs v5.toNatClampNeg = z := ⟨_, rfl⟩
  rw [ev6]
  have rv6 := n_rng v6
  refine L_callVi C oCl11 rfl miX11_make mlL_140 (ct11_X11_make l E (t) v2 v4 v6 b9 R9 W9 m9 hBC hKV hDN hLN (hBD.1) hME hCS) (by decide) rfl rfl rfl (Nat.le_of_ble_eq_true rfl) (oDec_at oLw_16 14 rfl) (fun r8 u7 pu7 fu7 => ?_)
  try dsimp only at pu7
  obtain ⟨pu7_0, pu7_1, pu7_2, pu7_3, pu7_4⟩ := pu7
  clear pu7_3
  refine L_pc C 1195 rfl ?_
  refine L_pop C (oDec_at oLw_16 15 rfl) rfl ?_
  refine L_aload_n C (j := 2) (oDec_at oLw_16 16 rfl) rfl rfl ?_
  refine L_aload_n C (j := 0) (oDec_at oLw_16 17 rfl) rfl rfl ?_
  refine L_iload_n C (j := 3) (oDec_at oLw_16 18 rfl) rfl rfl ?_
  refine L_iconst C (oDec_at oLw_16 19 rfl) (v := k1) (by rw [qk1]; rfl) ?_
  obtain ⟨v9, ev9⟩ : ∃ z : Int32, z = x3 + k1 := ⟨_, rfl⟩
  have hv9 : v9.toInt = x3.toInt + k1.toInt := n_add ev9 (by omega) (by omega)
  refine L_iadd C v9 (oDec_at oLw_16 20 rfl) ev9 ?_
  refine L_sld C ⟨by omega, by omega⟩ (oDec_at oLw_16 21 rfl) ?_
  rw [show xs v9.toNatClampNeg = v2 from by rw [show v9.toNatClampNeg = v1.toNatClampNeg by have q1 := n_nat v9; have q2 := n_nat v1; omega]; exact ev2]
  refine L_aload_n C (j := 0) (oDec_at oLw_16 22 rfl) rfl rfl ?_
  refine L_iload_n C (j := 3) (oDec_at oLw_16 23 rfl) rfl rfl ?_
  refine L_iconst C (oDec_at oLw_16 24 rfl) (v := k2) (by rw [qk2]; rfl) ?_
  obtain ⟨v11, ev11⟩ : ∃ z : Int32, z = x3 + k2 := ⟨_, rfl⟩
  have hv11 : v11.toInt = x3.toInt + k2.toInt := n_add ev11 (by omega) (by omega)
  refine L_iadd C v11 (oDec_at oLw_16 25 rfl) ev11 ?_
  refine L_sld C ⟨by omega, by omega⟩ (oDec_at oLw_16 26 rfl) ?_
  rw [show xs v11.toNatClampNeg = v4 from by rw [show v11.toNatClampNeg = v3.toNatClampNeg by have q1 := n_nat v11; have q2 := n_nat v3; omega]; exact ev4]
  refine L_aload_n C (j := 0) (oDec_at oLw_16 27 rfl) rfl rfl ?_
  refine L_iload_n C (j := 3) (oDec_at oLw_16 28 rfl) rfl rfl ?_
  refine L_iconst C (oDec_at oLw_16 29 rfl) (v := k3) (by rw [qk3]; rfl) ?_
  obtain ⟨v13, ev13⟩ : ∃ z : Int32, z = x3 + k3 := ⟨_, rfl⟩
  have hv13 : v13.toInt = x3.toInt + k3.toInt := n_add ev13 (by omega) (by omega)
  refine L_iadd C v13 (oDec_at oLw_16 30 rfl) ev13 ?_
  refine L_sld C ⟨by omega, by omega⟩ (oDec_at oLw_16 31 rfl) ?_
  rw [show xs v13.toNatClampNeg = v6 from by rw [show v13.toNatClampNeg = v5.toNatClampNeg by have q1 := n_nat v13; have q2 := n_nat v5; omega]; exact ev6]
  have lk15 : ((u7).1 71 38).toInt = (t.1 71 38).toInt := congrArg Int32.toInt ((fu7 71 38 rfl).1)
  have lk16 : ((u7).1 71 42).toInt = (t.1 71 42).toInt := congrArg Int32.toInt ((fu7 71 42 rfl).1)
  refine L_callVi C oCl12 rfl miX12_make mlL_143 (ct9_X12_make l E (u7) v2 v4 v6 R9 W9 m9 (oBI_fr fu7 rfl iv2) (oLT_fr fu7 rfl iv0) (by omega) (owBE_fr fu7 rfl hBE) (owMM_fr fu7 rfl hMM) (owLO_fr fu7 rfl hLO)) (by decide) rfl rfl rfl (Nat.le_of_ble_eq_true rfl) (oDec_at oLw_16 32 rfl) (fun r18 u17 pu17 fu17 => ?_)
  try dsimp only at pu17
  obtain ⟨pu17_0, pu17_1, pu17_2⟩ := pu17
  clear pu17_2
  refine L_pc C 1215 rfl ?_
  refine L_pop C (oDec_at oLw_16 33 rfl) rfl ?_
  refine L_goto C (tgt := 1453) (oDec_at oLw_16 34 rfl) (by decide) ?_
  obtain ⟨v19, ev19⟩ : ∃ z : Int32, x3 + Int32.ofInt 6 = z := ⟨_, rfl⟩
  have hv19 : v19.toInt = x3.toInt + 6 := n_inc ev19 (by decide) (by omega) (by omega)
  refine L_iinc C (j := 3) (lv' := [(0, .ref b), (1, .ref (oad E 0)), (2, .ref (oad E 71)), (3, .int v19)]) v19 [1, 2, 3, 0] (oDec_at oLw_20 21 rfl) rfl ev19 (by decide) rfl ?_
  refine L_goto C (tgt := 18) (oDec_at oLw_20 22 rfl) (by decide) ?_
  have lk20 : ((u17).1 1 1).toInt = (t.1 1 1).toInt := congrArg Int32.toInt (((fu17 1 1 rfl).1).trans ((fu7 1 1 rfl).1))
  have lk21 : ((u17).1 71 1).toInt = (t.1 71 1).toInt := congrArg Int32.toInt (((fu17 71 1 rfl).1).trans ((fu7 71 1 rfl).1))
  exact hgo (u17) v19 pu17_0 (by omega) (oBI_fr fu17 rfl (oBI_fr fu7 rfl iv2)) ⟨⟨(oqE_fr fu17 rfl (oqE_fr fu7 rfl hE)), (oqWd_fr fu17 rfl (oqWd_fr fu7 rfl hWd)), _, _, _, ⟨b9, d9, (owBD_fr fu17 rfl (owBD_fr fu7 rfl hBD)), (owBC_fr fu17 rfl (owBC_fr fu7 rfl hBC)), (owME_fr fu17 rfl (owME_fr fu7 rfl hME)), (owKV_fr fu17 rfl pu7_0)⟩, (owLN_fr fu17 rfl pu7_2), (owDN_fr fu17 rfl pu7_1), (owBE_fr fu17 rfl (owBE_fr fu7 rfl hBE)), (owMM_fr fu17 rfl (owMM_fr fu7 rfl hMM)), (owLO_fr fu17 rfl (owLO_fr fu7 rfl hLO))⟩, (owCZ_fr fu17 rfl pu7_4), _, _, _, (owBW_fr fu17 rfl (owBW_fr fu7 rfl hBW)), (owBY_fr fu17 rfl (owBY_fr fu7 rfl hBY)), hBR⟩ (by omega)
set_option maxHeartbeats 8000000 in
set_option maxRecDepth 100000 in
theorem lw_c31 {l : Launch} {b L kc sl : Nat} {xs : Nat → Int32} {E : oE} {J : oS → Nat → List (Nat × Value) → List Value → Prop} (C : oLC l b L xs E kc sl J) (hL : L ≤ 3072) {t : oS} {x3 : Int32} (iv0 : oLT t) (iv1 : 1 ≤ (t.1 71 38).toInt → 1 ≤ (t.1 71 42).toInt) (iv2 : oBI t) (iv3 : oqET t) (hx3 : 0 ≤ x3.toInt ∧ x3.toInt + 6 ≤ (L : Int)) (hgo : ∀ (t2 : oS) (y3 : Int32), oLT t2 → (1 ≤ (t2.1 71 38).toInt → 1 ≤ (t2.1 71 42).toInt) → oBI t2 → (oqET t2) → y3.toInt = x3.toInt + 6 → J t2 18 [(0, .ref b), (1, .ref (oad E 0)), (2, .ref (oad E 71)), (3, .int y3)] []) : J t 1219 [(0, .ref b), (1, .ref (oad E 0)), (2, .ref (oad E 71)), (3, .int x3)] [] := by
  obtain ⟨k0, qk0⟩ : ∃ z : Int32, z = 0 := ⟨_, rfl⟩
  have ek0 : k0.toInt = 0 := by rw [qk0]; rfl
  obtain ⟨k1, qk1⟩ : ∃ z : Int32, z = 1 := ⟨_, rfl⟩
  have ek1 : k1.toInt = 1 := by rw [qk1]; rfl
  obtain ⟨k2, qk2⟩ : ∃ z : Int32, z = 2 := ⟨_, rfl⟩
  have ek2 : k2.toInt = 2 := by rw [qk2]; rfl
  obtain ⟨k3, qk3⟩ : ∃ z : Int32, z = 3 := ⟨_, rfl⟩
  have ek3 : k3.toInt = 3 := by rw [qk3]; rfl
  obtain ⟨k4, qk4⟩ : ∃ z : Int32, z = 4 := ⟨_, rfl⟩
  have ek4 : k4.toInt = 4 := by rw [qk4]; rfl
  obtain ⟨k5, qk5⟩ : ∃ z : Int32, z = 5 := ⟨_, rfl⟩
  have ek5 : k5.toInt = 5 := by rw [qk5]; rfl
  obtain ⟨⟨hE, hWd, R9, W9, m9, ⟨b9, d9, hBD, hBC, hME, hKV⟩, hLN, hDN, hBE, hMM, hLO⟩, hCS, D9, S9, K9, hBW, hBY, hBR⟩ := id iv3
  refine L_aload_n C (j := 1) (oDec_at oLw_16 35 rfl) rfl rfl ?_
  refine L_aload_n C (j := 0) (oDec_at oLw_16 36 rfl) rfl rfl ?_
  refine L_iload_n C (j := 3) (oDec_at oLw_16 37 rfl) rfl rfl ?_
  refine L_iconst C (oDec_at oLw_16 38 rfl) (v := k1) (by rw [qk1]; rfl) ?_
  obtain ⟨v1, ev1⟩ : ∃ z : Int32, z = x3 + k1 := ⟨_, rfl⟩
  have hv1 : v1.toInt = x3.toInt + k1.toInt := n_add ev1 (by omega) (by omega)
  refine L_iadd C v1 (oDec_at oLw_16 39 rfl) ev1 ?_
  refine L_sld C ⟨by omega, by omega⟩ (oDec_at oLw_16 40 rfl) ?_
  obtain ⟨v2, ev2⟩ : ∃ z : Int32, xs v1.toNatClampNeg = z := ⟨_, rfl⟩
  rw [ev2]
  have rv2 := n_rng v2
  refine L_aload_n C (j := 0) (oDec_at oLw_16 41 rfl) rfl rfl ?_
  refine L_iload_n C (j := 3) (oDec_at oLw_16 42 rfl) rfl rfl ?_
  refine L_iconst C (oDec_at oLw_16 43 rfl) (v := k2) (by rw [qk2]; rfl) ?_
  obtain ⟨v3, ev3⟩ : ∃ z : Int32, z = x3 + k2 := ⟨_, rfl⟩
  have hv3 : v3.toInt = x3.toInt + k2.toInt := n_add ev3 (by omega) (by omega)
  refine L_iadd C v3 (oDec_at oLw_16 44 rfl) ev3 ?_
  refine L_sld C ⟨by omega, by omega⟩ (oDec_at oLw_16 45 rfl) ?_
  obtain ⟨v4, ev4⟩ : ∃ z : Int32, xs v3.toNatClampNeg = z := ⟨_, rfl⟩
  rw [ev4]
  have rv4 := n_rng v4
  refine L_callVi C oCl11 rfl miX11_shortest mlL_144 (ct9_X11_shortest l E (t) v2 v4 b9 R9 W9 m9 hBC hKV hDN hLN (hBD.1) hME) (by decide) rfl rfl rfl (Nat.le_of_ble_eq_true rfl) (oDec_at oLw_16 46 rfl) (fun r6 u5 pu5 fu5 => ?_)
  try dsimp only at pu5
  obtain ⟨pu5_0, pu5_1, pu5_2⟩ := pu5
  refine L_pc C 1233 rfl ?_
  refine L_pop C (oDec_at oLw_16 47 rfl) rfl ?_
  refine L_aload_n C (j := 2) (oDec_at oLw_16 48 rfl) rfl rfl ?_
  refine L_aload_n C (j := 0) (oDec_at oLw_16 49 rfl) rfl rfl ?_
  refine L_iload_n C (j := 3) (oDec_at oLw_17 0 rfl) rfl rfl ?_
  refine L_iconst C (oDec_at oLw_17 1 rfl) (v := k1) (by rw [qk1]; rfl) ?_
  obtain ⟨v7, ev7⟩ : ∃ z : Int32, z = x3 + k1 := ⟨_, rfl⟩
  have hv7 : v7.toInt = x3.toInt + k1.toInt := n_add ev7 (by omega) (by omega)
  refine L_iadd C v7 (oDec_at oLw_17 2 rfl) ev7 ?_
  refine L_sld C ⟨by omega, by omega⟩ (oDec_at oLw_17 3 rfl) ?_
  rw [show xs v7.toNatClampNeg = v2 from by rw [show v7.toNatClampNeg = v1.toNatClampNeg by have q1 := n_nat v7; have q2 := n_nat v1; omega]; exact ev2]
  refine L_aload_n C (j := 0) (oDec_at oLw_17 4 rfl) rfl rfl ?_
  refine L_iload_n C (j := 3) (oDec_at oLw_17 5 rfl) rfl rfl ?_
  refine L_iconst C (oDec_at oLw_17 6 rfl) (v := k2) (by rw [qk2]; rfl) ?_
  obtain ⟨v9, ev9⟩ : ∃ z : Int32, z = x3 + k2 := ⟨_, rfl⟩
  have hv9 : v9.toInt = x3.toInt + k2.toInt := n_add ev9 (by omega) (by omega)
  refine L_iadd C v9 (oDec_at oLw_17 7 rfl) ev9 ?_
  refine L_sld C ⟨by omega, by omega⟩ (oDec_at oLw_17 8 rfl) ?_
  rw [show xs v9.toNatClampNeg = v4 from by rw [show v9.toNatClampNeg = v3.toNatClampNeg by have q1 := n_nat v9; have q2 := n_nat v3; omega]; exact ev4]
  have lk11 : ((u5).1 71 38).toInt = (t.1 71 38).toInt := congrArg Int32.toInt ((fu5 71 38 rfl).1)
  have lk12 : ((u5).1 71 42).toInt = (t.1 71 42).toInt := congrArg Int32.toInt ((fu5 71 42 rfl).1)
  refine L_callVi C oCl12 rfl miX12_shortest mlL_147 (ct_X12_shortest l E (u5) v2 v4 (oBI_fr fu5 rfl iv2) (oLT_fr fu5 rfl iv0) (by omega)) (by decide) rfl rfl rfl (Nat.le_of_ble_eq_true rfl) (oDec_at oLw_17 9 rfl) (fun r14 u13 pu13 fu13 => ?_)
  try dsimp only at pu13
  obtain ⟨pu13_0, pu13_1⟩ := pu13
  refine L_pc C 1248 rfl ?_
  refine L_pop C (oDec_at oLw_17 10 rfl) rfl ?_
  refine L_goto C (tgt := 1453) (oDec_at oLw_17 11 rfl) (by decide) ?_
  obtain ⟨v15, ev15⟩ : ∃ z : Int32, x3 + Int32.ofInt 6 = z := ⟨_, rfl⟩
  have hv15 : v15.toInt = x3.toInt + 6 := n_inc ev15 (by decide) (by omega) (by omega)
  refine L_iinc C (j := 3) (lv' := [(0, .ref b), (1, .ref (oad E 0)), (2, .ref (oad E 71)), (3, .int v15)]) v15 [1, 2, 3, 0] (oDec_at oLw_20 21 rfl) rfl ev15 (by decide) rfl ?_
  refine L_goto C (tgt := 18) (oDec_at oLw_20 22 rfl) (by decide) ?_
  have lk16 : ((u13).1 1 1).toInt = (t.1 1 1).toInt := congrArg Int32.toInt (((fu13 1 1 rfl).1).trans ((fu5 1 1 rfl).1))
  have lk17 : ((u13).1 71 1).toInt = (t.1 71 1).toInt := congrArg Int32.toInt (((fu13 71 1 rfl).1).trans ((fu5 71 1 rfl).1))
  exact hgo (u13) v15 pu13_0 (by omega) (oBI_fr fu13 rfl (oBI_fr fu5 rfl iv2)) ⟨⟨(oqE_fr fu13 rfl (oqE_fr fu5 rfl hE)), (oqWd_fr fu13 rfl (oqWd_fr fu5 rfl hWd)), _, _, _, ⟨b9, d9, (owBD_fr fu13 rfl (owBD_fr fu5 rfl hBD)), (owBC_fr fu13 rfl (owBC_fr fu5 rfl hBC)), (owME_fr fu13 rfl (owME_fr fu5 rfl hME)), (owKV_fr fu13 rfl pu5_0)⟩, (owLN_fr fu13 rfl pu5_2), (owDN_fr fu13 rfl pu5_1), (owBE_fr fu13 rfl (owBE_fr fu5 rfl hBE)), (owMM_fr fu13 rfl (owMM_fr fu5 rfl hMM)), (owLO_fr fu13 rfl (owLO_fr fu5 rfl hLO))⟩, (owCZ_fr fu13 rfl (owCZ_fr fu5 rfl hCS)), _, _, _, (owBW_fr fu13 rfl (owBW_fr fu5 rfl hBW)), (owBY_fr fu13 rfl (owBY_fr fu5 rfl hBY)), hBR⟩ (by omega)
set_option maxHeartbeats 8000000 in
set_option maxRecDepth 100000 in
theorem lw_c32 {l : Launch} {b L kc sl : Nat} {xs : Nat → Int32} {E : oE} {J : oS → Nat → List (Nat × Value) → List Value → Prop} (C : oLC l b L xs E kc sl J) (hL : L ≤ 3072) {t : oS} {x3 : Int32} (iv0 : oLT t) (iv1 : 1 ≤ (t.1 71 38).toInt → 1 ≤ (t.1 71 42).toInt) (iv2 : oBI t) (iv3 : oqET t) (hx3 : 0 ≤ x3.toInt ∧ x3.toInt + 6 ≤ (L : Int)) (hgo : ∀ (t2 : oS) (y3 : Int32), oLT t2 → (1 ≤ (t2.1 71 38).toInt → 1 ≤ (t2.1 71 42).toInt) → oBI t2 → (oqET t2) → y3.toInt = x3.toInt + 6 → J t2 18 [(0, .ref b), (1, .ref (oad E 0)), (2, .ref (oad E 71)), (3, .int y3)] []) : J t 1252 [(0, .ref b), (1, .ref (oad E 0)), (2, .ref (oad E 71)), (3, .int x3)] [] := by
  obtain ⟨k0, qk0⟩ : ∃ z : Int32, z = 0 := ⟨_, rfl⟩
  have ek0 : k0.toInt = 0 := by rw [qk0]; rfl
  obtain ⟨k1, qk1⟩ : ∃ z : Int32, z = 1 := ⟨_, rfl⟩
  have ek1 : k1.toInt = 1 := by rw [qk1]; rfl
  obtain ⟨k2, qk2⟩ : ∃ z : Int32, z = 2 := ⟨_, rfl⟩
  have ek2 : k2.toInt = 2 := by rw [qk2]; rfl
  obtain ⟨k3, qk3⟩ : ∃ z : Int32, z = 3 := ⟨_, rfl⟩
  have ek3 : k3.toInt = 3 := by rw [qk3]; rfl
  obtain ⟨k4, qk4⟩ : ∃ z : Int32, z = 4 := ⟨_, rfl⟩
  have ek4 : k4.toInt = 4 := by rw [qk4]; rfl
  obtain ⟨k5, qk5⟩ : ∃ z : Int32, z = 5 := ⟨_, rfl⟩
  have ek5 : k5.toInt = 5 := by rw [qk5]; rfl
  obtain ⟨⟨hE, hWd, R9, W9, m9, ⟨b9, d9, hBD, hBC, hME, hKV⟩, hLN, hDN, hBE, hMM, hLO⟩, hCS, D9, S9, K9, hBW, hBY, hBR⟩ := id iv3
  refine L_aload_n C (j := 1) (oDec_at oLw_17 12 rfl) rfl rfl ?_
  refine L_aload_n C (j := 0) (oDec_at oLw_17 13 rfl) rfl rfl ?_
  refine L_iload_n C (j := 3) (oDec_at oLw_17 14 rfl) rfl rfl ?_
  refine L_iconst C (oDec_at oLw_17 15 rfl) (v := k1) (by rw [qk1]; rfl) ?_
  obtain ⟨v1, ev1⟩ : ∃ z : Int32, z = x3 + k1 := ⟨_, rfl⟩
  have hv1 : v1.toInt = x3.toInt + k1.toInt := n_add ev1 (by omega) (by omega)
  refine L_iadd C v1 (oDec_at oLw_17 16 rfl) ev1 ?_
  refine L_sld C ⟨by omega, by omega⟩ (oDec_at oLw_17 17 rfl) ?_
  obtain ⟨v2, ev2⟩ : ∃ z : Int32, xs v1.toNatClampNeg = z := ⟨_, rfl⟩
  rw [ev2]
  have rv2 := n_rng v2
  refine L_aload_n C (j := 0) (oDec_at oLw_17 18 rfl) rfl rfl ?_
  refine L_iload_n C (j := 3) (oDec_at oLw_17 19 rfl) rfl rfl ?_
  refine L_iconst C (oDec_at oLw_17 20 rfl) (v := k2) (by rw [qk2]; rfl) ?_
  obtain ⟨v3, ev3⟩ : ∃ z : Int32, z = x3 + k2 := ⟨_, rfl⟩
  have hv3 : v3.toInt = x3.toInt + k2.toInt := n_add ev3 (by omega) (by omega)
  refine L_iadd C v3 (oDec_at oLw_17 21 rfl) ev3 ?_
  refine L_sld C ⟨by omega, by omega⟩ (oDec_at oLw_17 22 rfl) ?_
  obtain ⟨v4, ev4⟩ : ∃ z : Int32, xs v3.toNatClampNeg = z := ⟨_, rfl⟩
  rw [ev4]
  have rv4 := n_rng v4
  refine L_aload_n C (j := 0) (oDec_at oLw_17 23 rfl) rfl rfl ?_
  refine L_iload_n C (j := 3) (oDec_at oLw_17 24 rfl) rfl rfl ?_
  refine L_iconst C (oDec_at oLw_17 25 rfl) (v := k3) (by rw [qk3]; rfl) ?_
  obtain ⟨v5, ev5⟩ : ∃ z : Int32, z = x3 + k3 := ⟨_, rfl⟩
  have hv5 : v5.toInt = x3.toInt + k3.toInt := n_add ev5 (by omega) (by omega)
  refine L_iadd C v5 (oDec_at oLw_17 26 rfl) ev5 ?_
  refine L_sld C ⟨by omega, by omega⟩ (oDec_at oLw_17 27 rfl) ?_
  obtain ⟨v6, ev6⟩ : ∃ z : Int32, xs v5.toNatClampNeg = z := ⟨_, rfl⟩
  rw [ev6]
  have rv6 := n_rng v6
  refine L_callVi C oCl11 rfl miX11_richest mlL_148 (ct10_X11_richest l E (t) v2 v4 v6 b9 R9 W9 m9 D9 S9 K9 hBC hKV hLN hDN (hBD.1) hME hBW hCS (by omega)) (by decide) rfl rfl rfl (Nat.le_of_ble_eq_true rfl) (oDec_at oLw_17 28 rfl) (fun r8 u7 pu7 fu7 => ?_)
  try dsimp only at pu7
  obtain ⟨pu7_0, pu7_1, pu7_2, pu7_3, pu7_4⟩ := pu7
  refine L_pc C 1271 rfl ?_
  refine L_aload_n C (j := 2) (oDec_at oLw_17 29 rfl) rfl rfl ?_
  refine L_aload_n C (j := 0) (oDec_at oLw_17 30 rfl) rfl rfl ?_
  refine L_iload_n C (j := 3) (oDec_at oLw_17 31 rfl) rfl rfl ?_
  refine L_iconst C (oDec_at oLw_17 32 rfl) (v := k1) (by rw [qk1]; rfl) ?_
  obtain ⟨v9, ev9⟩ : ∃ z : Int32, z = x3 + k1 := ⟨_, rfl⟩
  have hv9 : v9.toInt = x3.toInt + k1.toInt := n_add ev9 (by omega) (by omega)
  refine L_iadd C v9 (oDec_at oLw_17 33 rfl) ev9 ?_
  refine L_sld C ⟨by omega, by omega⟩ (oDec_at oLw_17 34 rfl) ?_
  rw [show xs v9.toNatClampNeg = v2 from by rw [show v9.toNatClampNeg = v1.toNatClampNeg by have q1 := n_nat v9; have q2 := n_nat v1; omega]; exact ev2]
  refine L_aload_n C (j := 0) (oDec_at oLw_17 35 rfl) rfl rfl ?_
  refine L_iload_n C (j := 3) (oDec_at oLw_17 36 rfl) rfl rfl ?_
  refine L_iconst C (oDec_at oLw_17 37 rfl) (v := k2) (by rw [qk2]; rfl) ?_
  obtain ⟨v11, ev11⟩ : ∃ z : Int32, z = x3 + k2 := ⟨_, rfl⟩
  have hv11 : v11.toInt = x3.toInt + k2.toInt := n_add ev11 (by omega) (by omega)
  refine L_iadd C v11 (oDec_at oLw_17 38 rfl) ev11 ?_
  refine L_sld C ⟨by omega, by omega⟩ (oDec_at oLw_17 39 rfl) ?_
  rw [show xs v11.toNatClampNeg = v4 from by rw [show v11.toNatClampNeg = v3.toNatClampNeg by have q1 := n_nat v11; have q2 := n_nat v3; omega]; exact ev4]
  refine L_aload_n C (j := 0) (oDec_at oLw_17 40 rfl) rfl rfl ?_
  refine L_iload_n C (j := 3) (oDec_at oLw_17 41 rfl) rfl rfl ?_
  refine L_iconst C (oDec_at oLw_17 42 rfl) (v := k3) (by rw [qk3]; rfl) ?_
  obtain ⟨v13, ev13⟩ : ∃ z : Int32, z = x3 + k3 := ⟨_, rfl⟩
  have hv13 : v13.toInt = x3.toInt + k3.toInt := n_add ev13 (by omega) (by omega)
  refine L_iadd C v13 (oDec_at oLw_17 43 rfl) ev13 ?_
  refine L_sld C ⟨by omega, by omega⟩ (oDec_at oLw_17 44 rfl) ?_
  rw [show xs v13.toNatClampNeg = v6 from by rw [show v13.toNatClampNeg = v5.toNatClampNeg by have q1 := n_nat v13; have q2 := n_nat v5; omega]; exact ev6]
  have lk15 : ((u7).1 71 38).toInt = (t.1 71 38).toInt := congrArg Int32.toInt ((fu7 71 38 rfl).1)
  have lk16 : ((u7).1 71 42).toInt = (t.1 71 42).toInt := congrArg Int32.toInt ((fu7 71 42 rfl).1)
  refine L_callVi C oCl12 rfl miX12_richest mlL_151 (ct9_X12_richest l E (u7) v2 v4 v6 R9 W9 m9 D9 S9 K9 (oBI_fr fu7 rfl iv2) (oLT_fr fu7 rfl iv0) (by omega) (owBE_fr fu7 rfl hBE) (owMM_fr fu7 rfl hMM) (owLO_fr fu7 rfl hLO) (owBY_fr fu7 rfl hBY) (by omega)) (by decide) rfl rfl rfl (Nat.le_of_ble_eq_true rfl) (oDec_at oLw_17 45 rfl) (fun r18 u17 pu17 fu17 => ?_)
  try dsimp only at pu17
  obtain ⟨pu17_0, pu17_1, pu17_2⟩ := pu17
  have hcm9 := owRr_det pu7_4 pu17_2
  refine L_pc C 1290 rfl ?_
  refine L_icmp_eq C 1453 (oDec_at oLw_17 46 rfl) (by decide) (fun cd19 => ?_) (fun cd19 => ?_)
  · skip
    obtain ⟨v20, ev20⟩ : ∃ z : Int32, x3 + Int32.ofInt 6 = z := ⟨_, rfl⟩
    have hv20 : v20.toInt = x3.toInt + 6 := n_inc ev20 (by decide) (by omega) (by omega)
    refine L_iinc C (j := 3) (lv' := [(0, .ref b), (1, .ref (oad E 0)), (2, .ref (oad E 71)), (3, .int v20)]) v20 [1, 2, 3, 0] (oDec_at oLw_20 21 rfl) rfl ev20 (by decide) rfl ?_
    refine L_goto C (tgt := 18) (oDec_at oLw_20 22 rfl) (by decide) ?_
    have lk21 : ((u17).1 1 1).toInt = (t.1 1 1).toInt := congrArg Int32.toInt (((fu17 1 1 rfl).1).trans ((fu7 1 1 rfl).1))
    have lk22 : ((u17).1 71 1).toInt = (t.1 71 1).toInt := congrArg Int32.toInt (((fu17 71 1 rfl).1).trans ((fu7 71 1 rfl).1))
    exact hgo (u17) v20 pu17_0 (by omega) (oBI_fr fu17 rfl (oBI_fr fu7 rfl iv2)) ⟨⟨(oqE_fr fu17 rfl (oqE_fr fu7 rfl hE)), (oqWd_fr fu17 rfl (oqWd_fr fu7 rfl hWd)), _, _, _, ⟨b9, d9, (owBD_fr fu17 rfl (owBD_fr fu7 rfl hBD)), (owBC_fr fu17 rfl (owBC_fr fu7 rfl hBC)), (owME_fr fu17 rfl (owME_fr fu7 rfl hME)), (owKV_fr fu17 rfl pu7_0)⟩, (owLN_fr fu17 rfl pu7_1), (owDN_fr fu17 rfl pu7_2), (owBE_fr fu17 rfl (owBE_fr fu7 rfl hBE)), (owMM_fr fu17 rfl (owMM_fr fu7 rfl hMM)), (owLO_fr fu17 rfl (owLO_fr fu7 rfl hLO))⟩, (owCZ_fr fu17 rfl pu7_3), _, _, _, (owBW_fr fu17 rfl (owBW_fr fu7 rfl hBW)), (owBY_fr fu17 rfl (owBY_fr fu7 rfl hBY)), hBR⟩ (by omega)
  · skip
    exfalso
    omega
set_option maxHeartbeats 8000000 in
set_option maxRecDepth 100000 in
theorem lw_c33 {l : Launch} {b L kc sl : Nat} {xs : Nat → Int32} {E : oE} {J : oS → Nat → List (Nat × Value) → List Value → Prop} (C : oLC l b L xs E kc sl J) (hL : L ≤ 3072) {t : oS} {x3 : Int32} (iv0 : oLT t) (iv1 : 1 ≤ (t.1 71 38).toInt → 1 ≤ (t.1 71 42).toInt) (iv2 : oBI t) (iv3 : oqET t) (hx3 : 0 ≤ x3.toInt ∧ x3.toInt + 6 ≤ (L : Int)) (hgo : ∀ (t2 : oS) (y3 : Int32), oLT t2 → (1 ≤ (t2.1 71 38).toInt → 1 ≤ (t2.1 71 42).toInt) → oBI t2 → (oqET t2) → y3.toInt = x3.toInt + 6 → J t2 18 [(0, .ref b), (1, .ref (oad E 0)), (2, .ref (oad E 71)), (3, .int y3)] []) : J t 1295 [(0, .ref b), (1, .ref (oad E 0)), (2, .ref (oad E 71)), (3, .int x3)] [] := by
  obtain ⟨k0, qk0⟩ : ∃ z : Int32, z = 0 := ⟨_, rfl⟩
  have ek0 : k0.toInt = 0 := by rw [qk0]; rfl
  obtain ⟨k1, qk1⟩ : ∃ z : Int32, z = 1 := ⟨_, rfl⟩
  have ek1 : k1.toInt = 1 := by rw [qk1]; rfl
  obtain ⟨k2, qk2⟩ : ∃ z : Int32, z = 2 := ⟨_, rfl⟩
  have ek2 : k2.toInt = 2 := by rw [qk2]; rfl
  obtain ⟨k3, qk3⟩ : ∃ z : Int32, z = 3 := ⟨_, rfl⟩
  have ek3 : k3.toInt = 3 := by rw [qk3]; rfl
  obtain ⟨k4, qk4⟩ : ∃ z : Int32, z = 4 := ⟨_, rfl⟩
  have ek4 : k4.toInt = 4 := by rw [qk4]; rfl
  obtain ⟨k5, qk5⟩ : ∃ z : Int32, z = 5 := ⟨_, rfl⟩
  have ek5 : k5.toInt = 5 := by rw [qk5]; rfl
  obtain ⟨⟨hE, hWd, R9, W9, m9, ⟨b9, d9, hBD, hBC, hME, hKV⟩, hLN, hDN, hBE, hMM, hLO⟩, hCS, D9, S9, K9, hBW, hBY, hBR⟩ := id iv3
  refine L_aload_n C (j := 1) (oDec_at oLw_17 49 rfl) rfl rfl ?_
  refine L_aload_n C (j := 0) (oDec_at oLw_18 0 rfl) rfl rfl ?_
  refine L_iload_n C (j := 3) (oDec_at oLw_18 1 rfl) rfl rfl ?_
  refine L_iconst C (oDec_at oLw_18 2 rfl) (v := k1) (by rw [qk1]; rfl) ?_
  obtain ⟨v1, ev1⟩ : ∃ z : Int32, z = x3 + k1 := ⟨_, rfl⟩
  have hv1 : v1.toInt = x3.toInt + k1.toInt := n_add ev1 (by omega) (by omega)
  refine L_iadd C v1 (oDec_at oLw_18 3 rfl) ev1 ?_
  refine L_sld C ⟨by omega, by omega⟩ (oDec_at oLw_18 4 rfl) ?_
  obtain ⟨v2, ev2⟩ : ∃ z : Int32, xs v1.toNatClampNeg = z := ⟨_, rfl⟩
  rw [ev2]
  have rv2 := n_rng v2
  refine L_aload_n C (j := 0) (oDec_at oLw_18 5 rfl) rfl rfl ?_
  refine L_iload_n C (j := 3) (oDec_at oLw_18 6 rfl) rfl rfl ?_
  refine L_iconst C (oDec_at oLw_18 7 rfl) (v := k2) (by rw [qk2]; rfl) ?_
  obtain ⟨v3, ev3⟩ : ∃ z : Int32, z = x3 + k2 := ⟨_, rfl⟩
  have hv3 : v3.toInt = x3.toInt + k2.toInt := n_add ev3 (by omega) (by omega)
  refine L_iadd C v3 (oDec_at oLw_18 8 rfl) ev3 ?_
  refine L_sld C ⟨by omega, by omega⟩ (oDec_at oLw_18 9 rfl) ?_
  obtain ⟨v4, ev4⟩ : ∃ z : Int32, xs v3.toNatClampNeg = z := ⟨_, rfl⟩
  rw [ev4]
  have rv4 := n_rng v4
  refine L_callVi C oCl11 rfl miX11_wrong mlL_152 (ct9_X11_wrong l E (t) v2 v4 b9 R9 W9 hBC hKV hLN hDN) (by decide) rfl rfl rfl (Nat.le_of_ble_eq_true rfl) (oDec_at oLw_18 10 rfl) (fun r6 u5 pu5 fu5 => ?_)
  try dsimp only at pu5
  obtain ⟨pu5_0, pu5_1, pu5_2⟩ := pu5
  refine L_pc C 1309 rfl ?_
  refine L_pop C (oDec_at oLw_18 11 rfl) rfl ?_
  refine L_aload_n C (j := 2) (oDec_at oLw_18 12 rfl) rfl rfl ?_
  refine L_aload_n C (j := 0) (oDec_at oLw_18 13 rfl) rfl rfl ?_
  refine L_iload_n C (j := 3) (oDec_at oLw_18 14 rfl) rfl rfl ?_
  refine L_iconst C (oDec_at oLw_18 15 rfl) (v := k1) (by rw [qk1]; rfl) ?_
  obtain ⟨v7, ev7⟩ : ∃ z : Int32, z = x3 + k1 := ⟨_, rfl⟩
  have hv7 : v7.toInt = x3.toInt + k1.toInt := n_add ev7 (by omega) (by omega)
  refine L_iadd C v7 (oDec_at oLw_18 16 rfl) ev7 ?_
  refine L_sld C ⟨by omega, by omega⟩ (oDec_at oLw_18 17 rfl) ?_
  rw [show xs v7.toNatClampNeg = v2 from by rw [show v7.toNatClampNeg = v1.toNatClampNeg by have q1 := n_nat v7; have q2 := n_nat v1; omega]; exact ev2]
  refine L_aload_n C (j := 0) (oDec_at oLw_18 18 rfl) rfl rfl ?_
  refine L_iload_n C (j := 3) (oDec_at oLw_18 19 rfl) rfl rfl ?_
  refine L_iconst C (oDec_at oLw_18 20 rfl) (v := k2) (by rw [qk2]; rfl) ?_
  obtain ⟨v9, ev9⟩ : ∃ z : Int32, z = x3 + k2 := ⟨_, rfl⟩
  have hv9 : v9.toInt = x3.toInt + k2.toInt := n_add ev9 (by omega) (by omega)
  refine L_iadd C v9 (oDec_at oLw_18 21 rfl) ev9 ?_
  refine L_sld C ⟨by omega, by omega⟩ (oDec_at oLw_18 22 rfl) ?_
  rw [show xs v9.toNatClampNeg = v4 from by rw [show v9.toNatClampNeg = v3.toNatClampNeg by have q1 := n_nat v9; have q2 := n_nat v3; omega]; exact ev4]
  have lk11 : ((u5).1 71 38).toInt = (t.1 71 38).toInt := congrArg Int32.toInt ((fu5 71 38 rfl).1)
  have lk12 : ((u5).1 71 42).toInt = (t.1 71 42).toInt := congrArg Int32.toInt ((fu5 71 42 rfl).1)
  refine L_callVi C oCl12 rfl miX12_wrong mlL_155 (ct_X12_wrong l E (u5) v2 v4 (oBI_fr fu5 rfl iv2) (oLT_fr fu5 rfl iv0) (by omega)) (by decide) rfl rfl rfl (Nat.le_of_ble_eq_true rfl) (oDec_at oLw_18 23 rfl) (fun r14 u13 pu13 fu13 => ?_)
  try dsimp only at pu13
  obtain ⟨pu13_0, pu13_1⟩ := pu13
  refine L_pc C 1324 rfl ?_
  refine L_pop C (oDec_at oLw_18 24 rfl) rfl ?_
  refine L_goto C (tgt := 1453) (oDec_at oLw_18 25 rfl) (by decide) ?_
  obtain ⟨v15, ev15⟩ : ∃ z : Int32, x3 + Int32.ofInt 6 = z := ⟨_, rfl⟩
  have hv15 : v15.toInt = x3.toInt + 6 := n_inc ev15 (by decide) (by omega) (by omega)
  refine L_iinc C (j := 3) (lv' := [(0, .ref b), (1, .ref (oad E 0)), (2, .ref (oad E 71)), (3, .int v15)]) v15 [1, 2, 3, 0] (oDec_at oLw_20 21 rfl) rfl ev15 (by decide) rfl ?_
  refine L_goto C (tgt := 18) (oDec_at oLw_20 22 rfl) (by decide) ?_
  have lk16 : ((u13).1 1 1).toInt = (t.1 1 1).toInt := congrArg Int32.toInt (((fu13 1 1 rfl).1).trans ((fu5 1 1 rfl).1))
  have lk17 : ((u13).1 71 1).toInt = (t.1 71 1).toInt := congrArg Int32.toInt (((fu13 71 1 rfl).1).trans ((fu5 71 1 rfl).1))
  exact hgo (u13) v15 pu13_0 (by omega) (oBI_fr fu13 rfl (oBI_fr fu5 rfl iv2)) ⟨⟨(oqE_fr fu13 rfl (oqE_fr fu5 rfl hE)), (oqWd_fr fu13 rfl (oqWd_fr fu5 rfl hWd)), _, _, _, ⟨b9, d9, (owBD_fr fu13 rfl (owBD_fr fu5 rfl hBD)), (owBC_fr fu13 rfl (owBC_fr fu5 rfl hBC)), (owME_fr fu13 rfl (owME_fr fu5 rfl hME)), (owKV_fr fu13 rfl pu5_0)⟩, (owLN_fr fu13 rfl pu5_1), (owDN_fr fu13 rfl pu5_2), (owBE_fr fu13 rfl (owBE_fr fu5 rfl hBE)), (owMM_fr fu13 rfl (owMM_fr fu5 rfl hMM)), (owLO_fr fu13 rfl (owLO_fr fu5 rfl hLO))⟩, (owCZ_fr fu13 rfl (owCZ_fr fu5 rfl hCS)), _, _, _, (owBW_fr fu13 rfl (owBW_fr fu5 rfl hBW)), (owBY_fr fu13 rfl (owBY_fr fu5 rfl hBY)), hBR⟩ (by omega)
set_option maxHeartbeats 8000000 in
set_option maxRecDepth 100000 in
theorem lw_c34 {l : Launch} {b L kc sl : Nat} {xs : Nat → Int32} {E : oE} {J : oS → Nat → List (Nat × Value) → List Value → Prop} (C : oLC l b L xs E kc sl J) (hL : L ≤ 3072) {t : oS} {x3 : Int32} (iv0 : oLT t) (iv1 : 1 ≤ (t.1 71 38).toInt → 1 ≤ (t.1 71 42).toInt) (iv2 : oBI t) (iv3 : oqET t) (hx3 : 0 ≤ x3.toInt ∧ x3.toInt + 6 ≤ (L : Int)) (hgo : ∀ (t2 : oS) (y3 : Int32), oLT t2 → (1 ≤ (t2.1 71 38).toInt → 1 ≤ (t2.1 71 42).toInt) → oBI t2 → (oqET t2) → y3.toInt = x3.toInt + 6 → J t2 18 [(0, .ref b), (1, .ref (oad E 0)), (2, .ref (oad E 71)), (3, .int y3)] []) : J t 1328 [(0, .ref b), (1, .ref (oad E 0)), (2, .ref (oad E 71)), (3, .int x3)] [] := by
  obtain ⟨k0, qk0⟩ : ∃ z : Int32, z = 0 := ⟨_, rfl⟩
  have ek0 : k0.toInt = 0 := by rw [qk0]; rfl
  obtain ⟨k1, qk1⟩ : ∃ z : Int32, z = 1 := ⟨_, rfl⟩
  have ek1 : k1.toInt = 1 := by rw [qk1]; rfl
  obtain ⟨k2, qk2⟩ : ∃ z : Int32, z = 2 := ⟨_, rfl⟩
  have ek2 : k2.toInt = 2 := by rw [qk2]; rfl
  obtain ⟨k3, qk3⟩ : ∃ z : Int32, z = 3 := ⟨_, rfl⟩
  have ek3 : k3.toInt = 3 := by rw [qk3]; rfl
  obtain ⟨k4, qk4⟩ : ∃ z : Int32, z = 4 := ⟨_, rfl⟩
  have ek4 : k4.toInt = 4 := by rw [qk4]; rfl
  obtain ⟨k5, qk5⟩ : ∃ z : Int32, z = 5 := ⟨_, rfl⟩
  have ek5 : k5.toInt = 5 := by rw [qk5]; rfl
  obtain ⟨⟨hE, hWd, R9, W9, m9, ⟨b9, d9, hBD, hBC, hME, hKV⟩, hLN, hDN, hBE, hMM, hLO⟩, hCS, D9, S9, K9, hBW, hBY, hBR⟩ := id iv3
  refine L_aload_n C (j := 1) (oDec_at oLw_18 26 rfl) rfl rfl ?_
  refine L_aload_n C (j := 0) (oDec_at oLw_18 27 rfl) rfl rfl ?_
  refine L_iload_n C (j := 3) (oDec_at oLw_18 28 rfl) rfl rfl ?_
  refine L_iconst C (oDec_at oLw_18 29 rfl) (v := k1) (by rw [qk1]; rfl) ?_
  obtain ⟨v1, ev1⟩ : ∃ z : Int32, z = x3 + k1 := ⟨_, rfl⟩
  have hv1 : v1.toInt = x3.toInt + k1.toInt := n_add ev1 (by omega) (by omega)
  refine L_iadd C v1 (oDec_at oLw_18 30 rfl) ev1 ?_
  refine L_sld C ⟨by omega, by omega⟩ (oDec_at oLw_18 31 rfl) ?_
  obtain ⟨v2, ev2⟩ : ∃ z : Int32, xs v1.toNatClampNeg = z := ⟨_, rfl⟩
  rw [ev2]
  have rv2 := n_rng v2
  refine L_aload_n C (j := 0) (oDec_at oLw_18 32 rfl) rfl rfl ?_
  refine L_iload_n C (j := 3) (oDec_at oLw_18 33 rfl) rfl rfl ?_
  refine L_iconst C (oDec_at oLw_18 34 rfl) (v := k2) (by rw [qk2]; rfl) ?_
  obtain ⟨v3, ev3⟩ : ∃ z : Int32, z = x3 + k2 := ⟨_, rfl⟩
  have hv3 : v3.toInt = x3.toInt + k2.toInt := n_add ev3 (by omega) (by omega)
  refine L_iadd C v3 (oDec_at oLw_18 35 rfl) ev3 ?_
  refine L_sld C ⟨by omega, by omega⟩ (oDec_at oLw_18 36 rfl) ?_
  obtain ⟨v4, ev4⟩ : ∃ z : Int32, xs v3.toNatClampNeg = z := ⟨_, rfl⟩
  rw [ev4]
  have rv4 := n_rng v4
  refine L_callVi C oCl11 rfl miX11_change mlL_156 (ct9_X11_change l E (t) v2 v4 hLN) (by decide) rfl rfl rfl (Nat.le_of_ble_eq_true rfl) (oDec_at oLw_18 37 rfl) (fun r6 u5 pu5 fu5 => ?_)
  try dsimp only at pu5
  refine L_pc C 1342 rfl ?_
  refine L_pop C (oDec_at oLw_18 38 rfl) rfl ?_
  refine L_aload_n C (j := 2) (oDec_at oLw_18 39 rfl) rfl rfl ?_
  refine L_aload_n C (j := 0) (oDec_at oLw_18 40 rfl) rfl rfl ?_
  refine L_iload_n C (j := 3) (oDec_at oLw_18 41 rfl) rfl rfl ?_
  refine L_iconst C (oDec_at oLw_18 42 rfl) (v := k1) (by rw [qk1]; rfl) ?_
  obtain ⟨v7, ev7⟩ : ∃ z : Int32, z = x3 + k1 := ⟨_, rfl⟩
  have hv7 : v7.toInt = x3.toInt + k1.toInt := n_add ev7 (by omega) (by omega)
  refine L_iadd C v7 (oDec_at oLw_18 43 rfl) ev7 ?_
  refine L_sld C ⟨by omega, by omega⟩ (oDec_at oLw_18 44 rfl) ?_
  rw [show xs v7.toNatClampNeg = v2 from by rw [show v7.toNatClampNeg = v1.toNatClampNeg by have q1 := n_nat v7; have q2 := n_nat v1; omega]; exact ev2]
  refine L_aload_n C (j := 0) (oDec_at oLw_18 45 rfl) rfl rfl ?_
  refine L_iload_n C (j := 3) (oDec_at oLw_18 46 rfl) rfl rfl ?_
  refine L_iconst C (oDec_at oLw_18 47 rfl) (v := k2) (by rw [qk2]; rfl) ?_
  obtain ⟨v9, ev9⟩ : ∃ z : Int32, z = x3 + k2 := ⟨_, rfl⟩
  have hv9 : v9.toInt = x3.toInt + k2.toInt := n_add ev9 (by omega) (by omega)
  refine L_iadd C v9 (oDec_at oLw_18 48 rfl) ev9 ?_
  refine L_sld C ⟨by omega, by omega⟩ (oDec_at oLw_18 49 rfl) ?_
  rw [show xs v9.toNatClampNeg = v4 from by rw [show v9.toNatClampNeg = v3.toNatClampNeg by have q1 := n_nat v9; have q2 := n_nat v3; omega]; exact ev4]
  have lk11 : ((u5).1 71 38).toInt = (t.1 71 38).toInt := congrArg Int32.toInt ((fu5 71 38 rfl).1)
  have lk12 : ((u5).1 71 42).toInt = (t.1 71 42).toInt := congrArg Int32.toInt ((fu5 71 42 rfl).1)
  refine L_callVi C oCl12 rfl miX12_change mlL_159 (ct_X12_change l E (u5) v2 v4 (oLT_fr fu5 rfl iv0) (by omega)) (by decide) rfl rfl rfl (Nat.le_of_ble_eq_true rfl) (oDec_at oLw_19 0 rfl) (fun r14 u13 pu13 fu13 => ?_)
  try dsimp only at pu13
  obtain ⟨pu13_0, pu13_1⟩ := pu13
  refine L_pc C 1357 rfl ?_
  refine L_pop C (oDec_at oLw_19 1 rfl) rfl ?_
  refine L_goto C (tgt := 1453) (oDec_at oLw_19 2 rfl) (by decide) ?_
  obtain ⟨v15, ev15⟩ : ∃ z : Int32, x3 + Int32.ofInt 6 = z := ⟨_, rfl⟩
  have hv15 : v15.toInt = x3.toInt + 6 := n_inc ev15 (by decide) (by omega) (by omega)
  refine L_iinc C (j := 3) (lv' := [(0, .ref b), (1, .ref (oad E 0)), (2, .ref (oad E 71)), (3, .int v15)]) v15 [1, 2, 3, 0] (oDec_at oLw_20 21 rfl) rfl ev15 (by decide) rfl ?_
  refine L_goto C (tgt := 18) (oDec_at oLw_20 22 rfl) (by decide) ?_
  have lk16 : ((u13).1 71 38).toInt = (t.1 71 38).toInt := congrArg Int32.toInt (((fu13 71 38 rfl).1).trans ((fu5 71 38 rfl).1))
  have lk17 : ((u13).1 1 1).toInt = (t.1 1 1).toInt := congrArg Int32.toInt (((fu13 1 1 rfl).1).trans ((fu5 1 1 rfl).1))
  have lk18 : ((u13).1 71 1).toInt = (t.1 71 1).toInt := congrArg Int32.toInt (((fu13 71 1 rfl).1).trans ((fu5 71 1 rfl).1))
  exact hgo (u13) v15 pu13_0 (by omega) (oBI_fr fu13 rfl (oBI_fr fu5 rfl iv2)) ⟨⟨(oqE_fr fu13 rfl (oqE_fr fu5 rfl hE)), (oqWd_fr fu13 rfl (oqWd_fr fu5 rfl hWd)), _, _, _, (owBX_fr fu13 rfl (owBX_fr fu5 rfl ⟨b9, d9, hBD, hBC, hME, hKV⟩)), (owLN_fr fu13 rfl pu5), (owDN_fr fu13 rfl (owDN_fr fu5 rfl hDN)), (owBE_fr fu13 rfl (owBE_fr fu5 rfl hBE)), (owMM_fr fu13 rfl (owMM_fr fu5 rfl hMM)), (owLO_fr fu13 rfl (owLO_fr fu5 rfl hLO))⟩, (owCZ_fr fu13 rfl (owCZ_fr fu5 rfl hCS)), _, _, _, (owBW_fr fu13 rfl (owBW_fr fu5 rfl hBW)), (owBY_fr fu13 rfl (owBY_fr fu5 rfl hBY)), hBR⟩ (by omega)
set_option maxHeartbeats 8000000 in
set_option maxRecDepth 100000 in
theorem lw_c35 {l : Launch} {b L kc sl : Nat} {xs : Nat → Int32} {E : oE} {J : oS → Nat → List (Nat × Value) → List Value → Prop} (C : oLC l b L xs E kc sl J) (hL : L ≤ 3072) {t : oS} {x3 : Int32} (iv0 : oLT t) (iv1 : 1 ≤ (t.1 71 38).toInt → 1 ≤ (t.1 71 42).toInt) (iv2 : oBI t) (iv3 : oqET t) (hx3 : 0 ≤ x3.toInt ∧ x3.toInt + 6 ≤ (L : Int)) (hgo : ∀ (t2 : oS) (y3 : Int32), oLT t2 → (1 ≤ (t2.1 71 38).toInt → 1 ≤ (t2.1 71 42).toInt) → oBI t2 → (oqET t2) → y3.toInt = x3.toInt + 6 → J t2 18 [(0, .ref b), (1, .ref (oad E 0)), (2, .ref (oad E 71)), (3, .int y3)] []) : J t 1361 [(0, .ref b), (1, .ref (oad E 0)), (2, .ref (oad E 71)), (3, .int x3)] [] := by
  obtain ⟨k0, qk0⟩ : ∃ z : Int32, z = 0 := ⟨_, rfl⟩
  have ek0 : k0.toInt = 0 := by rw [qk0]; rfl
  obtain ⟨k1, qk1⟩ : ∃ z : Int32, z = 1 := ⟨_, rfl⟩
  have ek1 : k1.toInt = 1 := by rw [qk1]; rfl
  obtain ⟨k2, qk2⟩ : ∃ z : Int32, z = 2 := ⟨_, rfl⟩
  have ek2 : k2.toInt = 2 := by rw [qk2]; rfl
  obtain ⟨k3, qk3⟩ : ∃ z : Int32, z = 3 := ⟨_, rfl⟩
  have ek3 : k3.toInt = 3 := by rw [qk3]; rfl
  obtain ⟨k4, qk4⟩ : ∃ z : Int32, z = 4 := ⟨_, rfl⟩
  have ek4 : k4.toInt = 4 := by rw [qk4]; rfl
  obtain ⟨k5, qk5⟩ : ∃ z : Int32, z = 5 := ⟨_, rfl⟩
  have ek5 : k5.toInt = 5 := by rw [qk5]; rfl
  obtain ⟨⟨hE, hWd, R9, W9, m9, ⟨b9, d9, hBD, hBC, hME, hKV⟩, hLN, hDN, hBE, hMM, hLO⟩, hCS, D9, S9, K9, hBW, hBY, hBR⟩ := id iv3
  refine L_aload_n C (j := 1) (oDec_at oLw_19 3 rfl) rfl rfl ?_
  refine L_aload_n C (j := 0) (oDec_at oLw_19 4 rfl) rfl rfl ?_
  refine L_iload_n C (j := 3) (oDec_at oLw_19 5 rfl) rfl rfl ?_
  refine L_iconst C (oDec_at oLw_19 6 rfl) (v := k1) (by rw [qk1]; rfl) ?_
  obtain ⟨v1, ev1⟩ : ∃ z : Int32, z = x3 + k1 := ⟨_, rfl⟩
  have hv1 : v1.toInt = x3.toInt + k1.toInt := n_add ev1 (by omega) (by omega)
  refine L_iadd C v1 (oDec_at oLw_19 7 rfl) ev1 ?_
  refine L_sld C ⟨by omega, by omega⟩ (oDec_at oLw_19 8 rfl) ?_
  obtain ⟨v2, ev2⟩ : ∃ z : Int32, xs v1.toNatClampNeg = z := ⟨_, rfl⟩
  rw [ev2]
  have rv2 := n_rng v2
  refine L_aload_n C (j := 0) (oDec_at oLw_19 9 rfl) rfl rfl ?_
  refine L_iload_n C (j := 3) (oDec_at oLw_19 10 rfl) rfl rfl ?_
  refine L_iconst C (oDec_at oLw_19 11 rfl) (v := k2) (by rw [qk2]; rfl) ?_
  obtain ⟨v3, ev3⟩ : ∃ z : Int32, z = x3 + k2 := ⟨_, rfl⟩
  have hv3 : v3.toInt = x3.toInt + k2.toInt := n_add ev3 (by omega) (by omega)
  refine L_iadd C v3 (oDec_at oLw_19 12 rfl) ev3 ?_
  refine L_sld C ⟨by omega, by omega⟩ (oDec_at oLw_19 13 rfl) ?_
  obtain ⟨v4, ev4⟩ : ∃ z : Int32, xs v3.toNatClampNeg = z := ⟨_, rfl⟩
  rw [ev4]
  have rv4 := n_rng v4
  refine L_aload_n C (j := 0) (oDec_at oLw_19 14 rfl) rfl rfl ?_
  refine L_iload_n C (j := 3) (oDec_at oLw_19 15 rfl) rfl rfl ?_
  refine L_iconst C (oDec_at oLw_19 16 rfl) (v := k3) (by rw [qk3]; rfl) ?_
  obtain ⟨v5, ev5⟩ : ∃ z : Int32, z = x3 + k3 := ⟨_, rfl⟩
  have hv5 : v5.toInt = x3.toInt + k3.toInt := n_add ev5 (by omega) (by omega)
  refine L_iadd C v5 (oDec_at oLw_19 17 rfl) ev5 ?_
  refine L_sld C ⟨by omega, by omega⟩ (oDec_at oLw_19 18 rfl) ?_
  obtain ⟨v6, ev6⟩ : ∃ z : Int32, xs v5.toNatClampNeg = z := ⟨_, rfl⟩
  rw [ev6]
  have rv6 := n_rng v6
  refine L_callVi C oCl11 rfl miX11_draw mlL_160 (ct9_X11_draw l E (t) v2 v4 v6 hLN) (by decide) rfl rfl rfl (Nat.le_of_ble_eq_true rfl) (oDec_at oLw_19 19 rfl) (fun r8 u7 pu7 fu7 => ?_)
  try dsimp only at pu7
  refine L_pc C 1380 rfl ?_
  refine L_pop C (oDec_at oLw_19 20 rfl) rfl ?_
  refine L_aload_n C (j := 2) (oDec_at oLw_19 21 rfl) rfl rfl ?_
  refine L_aload_n C (j := 0) (oDec_at oLw_19 22 rfl) rfl rfl ?_
  refine L_iload_n C (j := 3) (oDec_at oLw_19 23 rfl) rfl rfl ?_
  refine L_iconst C (oDec_at oLw_19 24 rfl) (v := k1) (by rw [qk1]; rfl) ?_
  obtain ⟨v9, ev9⟩ : ∃ z : Int32, z = x3 + k1 := ⟨_, rfl⟩
  have hv9 : v9.toInt = x3.toInt + k1.toInt := n_add ev9 (by omega) (by omega)
  refine L_iadd C v9 (oDec_at oLw_19 25 rfl) ev9 ?_
  refine L_sld C ⟨by omega, by omega⟩ (oDec_at oLw_19 26 rfl) ?_
  rw [show xs v9.toNatClampNeg = v2 from by rw [show v9.toNatClampNeg = v1.toNatClampNeg by have q1 := n_nat v9; have q2 := n_nat v1; omega]; exact ev2]
  refine L_aload_n C (j := 0) (oDec_at oLw_19 27 rfl) rfl rfl ?_
  refine L_iload_n C (j := 3) (oDec_at oLw_19 28 rfl) rfl rfl ?_
  refine L_iconst C (oDec_at oLw_19 29 rfl) (v := k2) (by rw [qk2]; rfl) ?_
  obtain ⟨v11, ev11⟩ : ∃ z : Int32, z = x3 + k2 := ⟨_, rfl⟩
  have hv11 : v11.toInt = x3.toInt + k2.toInt := n_add ev11 (by omega) (by omega)
  refine L_iadd C v11 (oDec_at oLw_19 30 rfl) ev11 ?_
  refine L_sld C ⟨by omega, by omega⟩ (oDec_at oLw_19 31 rfl) ?_
  rw [show xs v11.toNatClampNeg = v4 from by rw [show v11.toNatClampNeg = v3.toNatClampNeg by have q1 := n_nat v11; have q2 := n_nat v3; omega]; exact ev4]
  refine L_aload_n C (j := 0) (oDec_at oLw_19 32 rfl) rfl rfl ?_
  refine L_iload_n C (j := 3) (oDec_at oLw_19 33 rfl) rfl rfl ?_
  refine L_iconst C (oDec_at oLw_19 34 rfl) (v := k3) (by rw [qk3]; rfl) ?_
  obtain ⟨v13, ev13⟩ : ∃ z : Int32, z = x3 + k3 := ⟨_, rfl⟩
  have hv13 : v13.toInt = x3.toInt + k3.toInt := n_add ev13 (by omega) (by omega)
  refine L_iadd C v13 (oDec_at oLw_19 35 rfl) ev13 ?_
  refine L_sld C ⟨by omega, by omega⟩ (oDec_at oLw_19 36 rfl) ?_
  rw [show xs v13.toNatClampNeg = v6 from by rw [show v13.toNatClampNeg = v5.toNatClampNeg by have q1 := n_nat v13; have q2 := n_nat v5; omega]; exact ev6]
  have lk15 : ((u7).1 71 38).toInt = (t.1 71 38).toInt := congrArg Int32.toInt ((fu7 71 38 rfl).1)
  have lk16 : ((u7).1 71 42).toInt = (t.1 71 42).toInt := congrArg Int32.toInt ((fu7 71 42 rfl).1)
  refine L_callVi C oCl12 rfl miX12_draw mlL_163 (ct_X12_draw l E (u7) v2 v4 v6 (oLT_fr fu7 rfl iv0) (by omega)) (by decide) rfl rfl rfl (Nat.le_of_ble_eq_true rfl) (oDec_at oLw_19 37 rfl) (fun r18 u17 pu17 fu17 => ?_)
  try dsimp only at pu17
  obtain ⟨pu17_0, pu17_1⟩ := pu17
  refine L_pc C 1400 rfl ?_
  refine L_pop C (oDec_at oLw_19 38 rfl) rfl ?_
  refine L_goto C (tgt := 1453) (oDec_at oLw_19 39 rfl) (by decide) ?_
  obtain ⟨v19, ev19⟩ : ∃ z : Int32, x3 + Int32.ofInt 6 = z := ⟨_, rfl⟩
  have hv19 : v19.toInt = x3.toInt + 6 := n_inc ev19 (by decide) (by omega) (by omega)
  refine L_iinc C (j := 3) (lv' := [(0, .ref b), (1, .ref (oad E 0)), (2, .ref (oad E 71)), (3, .int v19)]) v19 [1, 2, 3, 0] (oDec_at oLw_20 21 rfl) rfl ev19 (by decide) rfl ?_
  refine L_goto C (tgt := 18) (oDec_at oLw_20 22 rfl) (by decide) ?_
  have lk20 : ((u17).1 1 1).toInt = (t.1 1 1).toInt := congrArg Int32.toInt (((fu17 1 1 rfl).1).trans ((fu7 1 1 rfl).1))
  have lk21 : ((u17).1 71 1).toInt = (t.1 71 1).toInt := congrArg Int32.toInt (((fu17 71 1 rfl).1).trans ((fu7 71 1 rfl).1))
  exact hgo (u17) v19 pu17_0 (by omega) (oBI_fr fu17 rfl (oBI_fr fu7 rfl iv2)) ⟨⟨(oqE_fr fu17 rfl (oqE_fr fu7 rfl hE)), (oqWd_fr fu17 rfl (oqWd_fr fu7 rfl hWd)), _, _, _, (owBX_fr fu17 rfl (owBX_fr fu7 rfl ⟨b9, d9, hBD, hBC, hME, hKV⟩)), (owLN_fr fu17 rfl pu7), (owDN_fr fu17 rfl (owDN_fr fu7 rfl hDN)), (owBE_fr fu17 rfl (owBE_fr fu7 rfl hBE)), (owMM_fr fu17 rfl (owMM_fr fu7 rfl hMM)), (owLO_fr fu17 rfl (owLO_fr fu7 rfl hLO))⟩, (owCZ_fr fu17 rfl (owCZ_fr fu7 rfl hCS)), _, _, _, (owBW_fr fu17 rfl (owBW_fr fu7 rfl hBW)), (owBY_fr fu17 rfl (owBY_fr fu7 rfl hBY)), hBR⟩ (by omega)
set_option maxHeartbeats 8000000 in
set_option maxRecDepth 100000 in
theorem lw_c36 {l : Launch} {b L kc sl : Nat} {xs : Nat → Int32} {E : oE} {J : oS → Nat → List (Nat × Value) → List Value → Prop} (C : oLC l b L xs E kc sl J) (hL : L ≤ 3072) {t : oS} {x3 : Int32} (iv0 : oLT t) (iv1 : 1 ≤ (t.1 71 38).toInt → 1 ≤ (t.1 71 42).toInt) (iv2 : oBI t) (iv3 : oqET t) (hx3 : 0 ≤ x3.toInt ∧ x3.toInt + 6 ≤ (L : Int)) (hgo : ∀ (t2 : oS) (y3 : Int32), oLT t2 → (1 ≤ (t2.1 71 38).toInt → 1 ≤ (t2.1 71 42).toInt) → oBI t2 → (oqET t2) → y3.toInt = x3.toInt + 6 → J t2 18 [(0, .ref b), (1, .ref (oad E 0)), (2, .ref (oad E 71)), (3, .int y3)] []) : J t 1404 [(0, .ref b), (1, .ref (oad E 0)), (2, .ref (oad E 71)), (3, .int x3)] [] := by
  obtain ⟨k0, qk0⟩ : ∃ z : Int32, z = 0 := ⟨_, rfl⟩
  have ek0 : k0.toInt = 0 := by rw [qk0]; rfl
  obtain ⟨k1, qk1⟩ : ∃ z : Int32, z = 1 := ⟨_, rfl⟩
  have ek1 : k1.toInt = 1 := by rw [qk1]; rfl
  obtain ⟨k2, qk2⟩ : ∃ z : Int32, z = 2 := ⟨_, rfl⟩
  have ek2 : k2.toInt = 2 := by rw [qk2]; rfl
  obtain ⟨k3, qk3⟩ : ∃ z : Int32, z = 3 := ⟨_, rfl⟩
  have ek3 : k3.toInt = 3 := by rw [qk3]; rfl
  obtain ⟨k4, qk4⟩ : ∃ z : Int32, z = 4 := ⟨_, rfl⟩
  have ek4 : k4.toInt = 4 := by rw [qk4]; rfl
  obtain ⟨k5, qk5⟩ : ∃ z : Int32, z = 5 := ⟨_, rfl⟩
  have ek5 : k5.toInt = 5 := by rw [qk5]; rfl
  obtain ⟨⟨hE, hWd, R9, W9, m9, ⟨b9, d9, hBD, hBC, hME, hKV⟩, hLN, hDN, hBE, hMM, hLO⟩, hCS, D9, S9, K9, hBW, hBY, hBR⟩ := id iv3
  refine L_aload_n C (j := 1) (oDec_at oLw_19 40 rfl) rfl rfl ?_
  refine L_callVi C oCl11 rfl miX11_image mlL_164 (ct_X11_image l E (t)  ) (by decide) rfl rfl rfl (Nat.le_of_ble_eq_true rfl) (oDec_at oLw_19 41 rfl) (fun r2 u1 pu1 fu1 => ?_)
  try dsimp only at pu1
  refine L_pc C 1408 rfl ?_
  refine L_pop C (oDec_at oLw_19 42 rfl) rfl ?_
  refine L_aload_n C (j := 2) (oDec_at oLw_19 43 rfl) rfl rfl ?_
  refine L_callVi C oCl12 rfl miX12_image mlL_167 (ct_X12_image l E (u1)  ) (by decide) rfl rfl rfl (Nat.le_of_ble_eq_true rfl) (oDec_at oLw_19 44 rfl) (fun r4 u3 pu3 fu3 => ?_)
  try dsimp only at pu3
  refine L_pc C 1413 rfl ?_
  refine L_pop C (oDec_at oLw_19 45 rfl) rfl ?_
  refine L_goto C (tgt := 1453) (oDec_at oLw_19 46 rfl) (by decide) ?_
  obtain ⟨v5, ev5⟩ : ∃ z : Int32, x3 + Int32.ofInt 6 = z := ⟨_, rfl⟩
  have hv5 : v5.toInt = x3.toInt + 6 := n_inc ev5 (by decide) (by omega) (by omega)
  refine L_iinc C (j := 3) (lv' := [(0, .ref b), (1, .ref (oad E 0)), (2, .ref (oad E 71)), (3, .int v5)]) v5 [1, 2, 3, 0] (oDec_at oLw_20 21 rfl) rfl ev5 (by decide) rfl ?_
  refine L_goto C (tgt := 18) (oDec_at oLw_20 22 rfl) (by decide) ?_
  have lk6 : ((u3).1 71 38).toInt = (t.1 71 38).toInt := congrArg Int32.toInt (((fu3 71 38 rfl).1).trans ((fu1 71 38 rfl).1))
  have lk7 : ((u3).1 71 42).toInt = (t.1 71 42).toInt := congrArg Int32.toInt (((fu3 71 42 rfl).1).trans ((fu1 71 42 rfl).1))
  exact hgo (u3) v5 (oLT_fr fu3 rfl (oLT_fr fu1 rfl iv0)) (by omega) (oBI_fr fu3 rfl (oBI_fr fu1 rfl iv2)) (oqET_fr fu3 rfl (oqET_fr fu1 rfl iv3)) (by omega)
set_option maxHeartbeats 8000000 in
set_option maxRecDepth 100000 in
theorem lw_c37 {l : Launch} {b L kc sl : Nat} {xs : Nat → Int32} {E : oE} {J : oS → Nat → List (Nat × Value) → List Value → Prop} (C : oLC l b L xs E kc sl J) (hL : L ≤ 3072) {t : oS} {x3 : Int32} (iv0 : oLT t) (iv1 : 1 ≤ (t.1 71 38).toInt → 1 ≤ (t.1 71 42).toInt) (iv2 : oBI t) (iv3 : oqET t) (hx3 : 0 ≤ x3.toInt ∧ x3.toInt + 6 ≤ (L : Int)) (hgo : ∀ (t2 : oS) (y3 : Int32), oLT t2 → (1 ≤ (t2.1 71 38).toInt → 1 ≤ (t2.1 71 42).toInt) → oBI t2 → (oqET t2) → y3.toInt = x3.toInt + 6 → J t2 18 [(0, .ref b), (1, .ref (oad E 0)), (2, .ref (oad E 71)), (3, .int y3)] []) : J t 1417 [(0, .ref b), (1, .ref (oad E 0)), (2, .ref (oad E 71)), (3, .int x3)] [] := by
  obtain ⟨k0, qk0⟩ : ∃ z : Int32, z = 0 := ⟨_, rfl⟩
  have ek0 : k0.toInt = 0 := by rw [qk0]; rfl
  obtain ⟨k1, qk1⟩ : ∃ z : Int32, z = 1 := ⟨_, rfl⟩
  have ek1 : k1.toInt = 1 := by rw [qk1]; rfl
  obtain ⟨k2, qk2⟩ : ∃ z : Int32, z = 2 := ⟨_, rfl⟩
  have ek2 : k2.toInt = 2 := by rw [qk2]; rfl
  obtain ⟨k3, qk3⟩ : ∃ z : Int32, z = 3 := ⟨_, rfl⟩
  have ek3 : k3.toInt = 3 := by rw [qk3]; rfl
  obtain ⟨k4, qk4⟩ : ∃ z : Int32, z = 4 := ⟨_, rfl⟩
  have ek4 : k4.toInt = 4 := by rw [qk4]; rfl
  obtain ⟨k5, qk5⟩ : ∃ z : Int32, z = 5 := ⟨_, rfl⟩
  have ek5 : k5.toInt = 5 := by rw [qk5]; rfl
  obtain ⟨⟨hE, hWd, R9, W9, m9, ⟨b9, d9, hBD, hBC, hME, hKV⟩, hLN, hDN, hBE, hMM, hLO⟩, hCS, D9, S9, K9, hBW, hBY, hBR⟩ := id iv3
  refine L_aload_n C (j := 1) (oDec_at oLw_19 47 rfl) rfl rfl ?_
  refine L_aload_n C (j := 0) (oDec_at oLw_19 48 rfl) rfl rfl ?_
  refine L_iload_n C (j := 3) (oDec_at oLw_19 49 rfl) rfl rfl ?_
  refine L_iconst C (oDec_at oLw_20 0 rfl) (v := k1) (by rw [qk1]; rfl) ?_
  obtain ⟨v1, ev1⟩ : ∃ z : Int32, z = x3 + k1 := ⟨_, rfl⟩
  have hv1 : v1.toInt = x3.toInt + k1.toInt := n_add ev1 (by omega) (by omega)
  refine L_iadd C v1 (oDec_at oLw_20 1 rfl) ev1 ?_
  refine L_sld C ⟨by omega, by omega⟩ (oDec_at oLw_20 2 rfl) ?_
  obtain ⟨v2, ev2⟩ : ∃ z : Int32, xs v1.toNatClampNeg = z := ⟨_, rfl⟩
  rw [ev2]
  have rv2 := n_rng v2
  refine L_callVi C oCl11 rfl miX11_octet mlL_168 (ct_X11_octet l E (t) v2 ) (by decide) rfl rfl rfl (Nat.le_of_ble_eq_true rfl) (oDec_at oLw_20 3 rfl) (fun r4 u3 pu3 fu3 => ?_)
  try dsimp only at pu3
  have hxu3 := oFr_nil fu3; subst hxu3
  refine L_pc C 1426 rfl ?_
  refine L_pop C (oDec_at oLw_20 4 rfl) rfl ?_
  refine L_aload_n C (j := 2) (oDec_at oLw_20 5 rfl) rfl rfl ?_
  refine L_aload_n C (j := 0) (oDec_at oLw_20 6 rfl) rfl rfl ?_
  refine L_iload_n C (j := 3) (oDec_at oLw_20 7 rfl) rfl rfl ?_
  refine L_iconst C (oDec_at oLw_20 8 rfl) (v := k1) (by rw [qk1]; rfl) ?_
  obtain ⟨v5, ev5⟩ : ∃ z : Int32, z = x3 + k1 := ⟨_, rfl⟩
  have hv5 : v5.toInt = x3.toInt + k1.toInt := n_add ev5 (by omega) (by omega)
  refine L_iadd C v5 (oDec_at oLw_20 9 rfl) ev5 ?_
  refine L_sld C ⟨by omega, by omega⟩ (oDec_at oLw_20 10 rfl) ?_
  rw [show xs v5.toNatClampNeg = v2 from by rw [show v5.toNatClampNeg = v1.toNatClampNeg by have q1 := n_nat v5; have q2 := n_nat v1; omega]; exact ev2]
  refine L_callVi C oCl12 rfl miX12_octet mlL_171 (ct_X12_octet l E (t) v2 ) (by decide) rfl rfl rfl (Nat.le_of_ble_eq_true rfl) (oDec_at oLw_20 11 rfl) (fun r8 u7 pu7 fu7 => ?_)
  try dsimp only at pu7
  have hxu7 := oFr_nil fu7; subst hxu7
  refine L_pc C 1436 rfl ?_
  refine L_pop C (oDec_at oLw_20 12 rfl) rfl ?_
  refine L_goto C (tgt := 1453) (oDec_at oLw_20 13 rfl) (by decide) ?_
  obtain ⟨v9, ev9⟩ : ∃ z : Int32, x3 + Int32.ofInt 6 = z := ⟨_, rfl⟩
  have hv9 : v9.toInt = x3.toInt + 6 := n_inc ev9 (by decide) (by omega) (by omega)
  refine L_iinc C (j := 3) (lv' := [(0, .ref b), (1, .ref (oad E 0)), (2, .ref (oad E 71)), (3, .int v9)]) v9 [1, 2, 3, 0] (oDec_at oLw_20 21 rfl) rfl ev9 (by decide) rfl ?_
  refine L_goto C (tgt := 18) (oDec_at oLw_20 22 rfl) (by decide) ?_
  exact hgo (t) v9 iv0 (by omega) iv2 iv3 (by omega)
set_option maxHeartbeats 8000000 in
set_option maxRecDepth 100000 in
theorem lw_c38 {l : Launch} {b L kc sl : Nat} {xs : Nat → Int32} {E : oE} {J : oS → Nat → List (Nat × Value) → List Value → Prop} (C : oLC l b L xs E kc sl J) (hL : L ≤ 3072) {t : oS} {x3 : Int32} (iv0 : oLT t) (iv1 : 1 ≤ (t.1 71 38).toInt → 1 ≤ (t.1 71 42).toInt) (iv2 : oBI t) (iv3 : oqET t) (hx3 : 0 ≤ x3.toInt ∧ x3.toInt + 6 ≤ (L : Int)) (hgo : ∀ (t2 : oS) (y3 : Int32), oLT t2 → (1 ≤ (t2.1 71 38).toInt → 1 ≤ (t2.1 71 42).toInt) → oBI t2 → (oqET t2) → y3.toInt = x3.toInt + 6 → J t2 18 [(0, .ref b), (1, .ref (oad E 0)), (2, .ref (oad E 71)), (3, .int y3)] []) : J t 1440 [(0, .ref b), (1, .ref (oad E 0)), (2, .ref (oad E 71)), (3, .int x3)] [] := by
  obtain ⟨k0, qk0⟩ : ∃ z : Int32, z = 0 := ⟨_, rfl⟩
  have ek0 : k0.toInt = 0 := by rw [qk0]; rfl
  obtain ⟨k1, qk1⟩ : ∃ z : Int32, z = 1 := ⟨_, rfl⟩
  have ek1 : k1.toInt = 1 := by rw [qk1]; rfl
  obtain ⟨k2, qk2⟩ : ∃ z : Int32, z = 2 := ⟨_, rfl⟩
  have ek2 : k2.toInt = 2 := by rw [qk2]; rfl
  obtain ⟨k3, qk3⟩ : ∃ z : Int32, z = 3 := ⟨_, rfl⟩
  have ek3 : k3.toInt = 3 := by rw [qk3]; rfl
  obtain ⟨k4, qk4⟩ : ∃ z : Int32, z = 4 := ⟨_, rfl⟩
  have ek4 : k4.toInt = 4 := by rw [qk4]; rfl
  obtain ⟨k5, qk5⟩ : ∃ z : Int32, z = 5 := ⟨_, rfl⟩
  have ek5 : k5.toInt = 5 := by rw [qk5]; rfl
  obtain ⟨⟨hE, hWd, R9, W9, m9, ⟨b9, d9, hBD, hBC, hME, hKV⟩, hLN, hDN, hBE, hMM, hLO⟩, hCS, D9, S9, K9, hBW, hBY, hBR⟩ := id iv3
  obtain ⟨g, nn, hg1, hg2, hg3, hg4⟩ := oqE_gn hE
  refine L_aload_n C (j := 1) (oDec_at oLw_20 14 rfl) rfl rfl ?_
  refine L_callVi C oCl11 rfl miX11_on mlL_172 (ct11_X11_on l E (t)  g nn (by omega) hg1 hLN hCS) (by decide) rfl rfl rfl (Nat.le_of_ble_eq_true rfl) (oDec_at oLw_20 15 rfl) (fun r2 u1 pu1 fu1 => ?_)
  try dsimp only at pu1
  obtain ⟨pu1_0, pu1_1, pu1_2, pu1_3, pu1_4⟩ := pu1
  clear pu1_0
  clear pu1_2
  refine L_pc C 1444 rfl ?_
  refine L_pop C (oDec_at oLw_20 16 rfl) rfl ?_
  refine L_aload_n C (j := 2) (oDec_at oLw_20 17 rfl) rfl rfl ?_
  have lk3 : ((u1).1 71 38).toInt = (t.1 71 38).toInt := congrArg Int32.toInt ((fu1 71 38 rfl).1)
  have lk4 : ((u1).1 71 42).toInt = (t.1 71 42).toInt := congrArg Int32.toInt ((fu1 71 42 rfl).1)
  have lk5 : ((u1).1 71 1).toInt = (t.1 71 1).toInt := congrArg Int32.toInt ((fu1 71 1 rfl).1)
  refine L_callVi C oCl12 rfl miX12_on mlL_176 (ct4_X12_on l E (u1)  g nn (oLT_fr fu1 rfl iv0) (by omega) (by omega) (oqY_fr fu1 rfl hg2)) (by decide) rfl rfl rfl (Nat.le_of_ble_eq_true rfl) (oDec_at oLw_20 18 rfl) (fun r7 u6 pu6 fu6 => ?_)
  try dsimp only at pu6
  obtain ⟨pu6_0, pu6_1, pu6_2, pu6_3, pu6_4⟩ := pu6
  clear pu6_0
  clear pu6_4
  refine L_pc C 1449 rfl ?_
  refine L_pop C (oDec_at oLw_20 19 rfl) rfl ?_
  refine L_goto C (tgt := 1453) (oDec_at oLw_20 20 rfl) (by decide) ?_
  obtain ⟨v8, ev8⟩ : ∃ z : Int32, x3 + Int32.ofInt 6 = z := ⟨_, rfl⟩
  have hv8 : v8.toInt = x3.toInt + 6 := n_inc ev8 (by decide) (by omega) (by omega)
  refine L_iinc C (j := 3) (lv' := [(0, .ref b), (1, .ref (oad E 0)), (2, .ref (oad E 71)), (3, .int v8)]) v8 [1, 2, 3, 0] (oDec_at oLw_20 21 rfl) rfl ev8 (by decide) rfl ?_
  refine L_goto C (tgt := 18) (oDec_at oLw_20 22 rfl) (by decide) ?_
  have lk9 : ((u6).1 1 1).toInt = (u1.1 1 1).toInt := congrArg Int32.toInt ((fu6 1 1 rfl).1)
  exact hgo (u6) v8 pu6_1 (by omega) (oBI_fr fu6 rfl (oBI_fr fu1 rfl iv2)) ⟨⟨(oqE_0 (by omega) (by omega)), (oqWd_fr fu6 rfl (oqWd_fr fu1 rfl hWd)), _, _, _, (owBX_fr fu6 rfl (owBX_fr fu1 rfl ⟨b9, d9, hBD, hBC, hME, hKV⟩)), (owLN_fr fu6 rfl pu1_3), (owDN_fr fu6 rfl (owDN_fr fu1 rfl hDN)), (owBE_fr fu6 rfl (owBE_fr fu1 rfl hBE)), (owMM_fr fu6 rfl (owMM_fr fu1 rfl hMM)), (owLO_fr fu6 rfl (owLO_fr fu1 rfl hLO))⟩, (owCZ_fr fu6 rfl pu1_4), _, _, _, (owBW_fr fu6 rfl (owBW_fr fu1 rfl hBW)), (owBY_fr fu6 rfl (owBY_fr fu1 rfl hBY)), hBR⟩ (by omega)
