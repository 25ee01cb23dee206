set_option maxHeartbeats 4000000 in
set_option maxRecDepth 100000 in
theorem ct9_X12_richest (l : Launch) (E : oE) (s : oS) (a1 : Int32) (a2 : Int32) (a3 : Int32) (R : Int) (W : Nat → List Int) (me : Int) (D : Int) (S : Int) (K : Int) (hp0 : oBI s) (hp1 : oLT s) (hp2 : 1 ≤ (s.1 71 38).toInt → 1 ≤ (s.1 71 42).toInt) (hp3 : owBE R W s) (hp4 : owMM me s) (hp5 : owLO s) (hp6 : owBY D S K s) (hp7 : 0 ≤ D ∧ D ≤ 24 ∧ 0 ≤ S ∧ S ≤ 7 ∧ 0 ≤ K ∧ K ≤ 15) : oMet l 8 yX12_richest cX12_richest 8 (some .int) [(12, 38), (12, 42), (12, 43), (12, 58), (12, 60), (12, 61), (12, 62), (12, 63), (12, 65), (12, 69), (12, 77), (75, 9999), (76, 9999), (77, 9999), (84, 9999), (85, 9999), (86, 9999), (90, 9999), (91, 9999), (92, 9999)] E s [.ref (oad E 71), .int a1, .int a2, .int a3] (oPi (fun r u => (oLT u) ∧ (1 ≤ (u.1 71 38).toInt → 1 ≤ (u.1 71 42).toInt) ∧ (owRr (owCn R W me D S K a1.toInt) a1.toInt a2.toInt a3.toInt r.toInt))) := by
  refine oMet.of (lv := [(0, .ref (oad E 71)), (1, .int a1), (2, .int a2), (3, .int a3)]) (by decide +kernel) (Nat.le_of_ble_eq_true rfl) rfl (fun J C hT => ?_)
  have C : oC l 8 cX12_richest RX12 8 (some .int) [(12, 38), (12, 42), (12, 43), (12, 58), (12, 60), (12, 61), (12, 62), (12, 63), (12, 65), (12, 69), (12, 77), (75, 9999), (76, 9999), (77, 9999), (84, 9999), (85, 9999), (86, 9999), (90, 9999), (91, 9999), (92, 9999)] E s (oPi (fun r u => (oLT u) ∧ (1 ≤ (u.1 71 38).toInt → 1 ≤ (u.1 71 42).toInt) ∧ (owRr (owCn R W me D S K a1.toInt) a1.toInt a2.toInt a3.toInt r.toInt))) J := C
  obtain ⟨km1, qkm1⟩ : ∃ z : Int32, z = (-1) := ⟨_, rfl⟩
  have ekm1 : km1.toInt = (-1) := by rw [qkm1]; rfl
  obtain ⟨k0, qk0⟩ : ∃ z : Int32, z = 0 := ⟨_, rfl⟩
  have ek0 : k0.toInt = 0 := by rw [qk0]; rfl
  obtain ⟨j0, qj0⟩ : ∃ z : Int64, z = 0 := ⟨_, rfl⟩
  have ej0 : j0.toInt = 0 := by rw [qj0]; rfl
  obtain ⟨j1, qj1⟩ : ∃ z : Int64, z = 1 := ⟨_, rfl⟩
  have ej1 : j1.toInt = 1 := by rw [qj1]; rfl
  obtain ⟨j2, qj2⟩ : ∃ z : Int64, z = 2 := ⟨_, rfl⟩
  have ej2 : j2.toInt = 2 := by rw [qj2]; rfl
  obtain ⟨j4, qj4⟩ : ∃ z : Int64, z = 4 := ⟨_, rfl⟩
  have ej4 : j4.toInt = 4 := by rw [qj4]; rfl
  have rg1 := n_rng a1
  have rg2 := n_rng a2
  have rg3 := n_rng a3
  obtain ⟨c1, ec1⟩ : ∃ z : Int32, z.toInt = 1 := ⟨1, rfl⟩
  have hme9 : 2 ≤ me ∧ me ≤ 12 := by have h9 : (2 : Int) ≤ (s.1 71 53).toInt ∧ (s.1 71 53).toInt ≤ 12 := hT.1 71 53; have h8 : (s.1 71 53).toInt = me := hp4; omega
  have key : ∀ n : Nat, (∀ (t : oS) (x4 : Int32) (x5 : Int32), (oBI t) → (oLT t) → (1 ≤ (t.1 71 38).toInt → 1 ≤ (t.1 71 42).toInt) → (oAT t) → (x5.toInt = 1 → oDg t) → ((t.1 71 38).toInt = a1.toInt) → (1 ≤ a1.toInt ∧ a1.toInt ≤ 4) → (0 ≤ a2.toInt ∧ a2.toInt ≤ 2) → (0 ≤ x5.toInt ∧ x5.toInt ≤ 1) → (owBE R W t) → (owMM me t) → (owLO t) → (owBY D S K t) → ((1 ≤ a1.toInt ∧ a1.toInt ≤ 4) ∧ (0 ≤ a2.toInt ∧ a2.toInt ≤ 2) ∧ (0 ≤ a3.toInt ∧ a3.toInt ≤ 1)) → (x5.toInt = 1 → owRA a1.toInt t) → (x5.toInt = 1 → owLt a1.toInt a2.toInt (owCn R W me D S K a1.toInt) x4.toInt t) → (x5.toInt = 0 → owMx a1.toInt a2.toInt (owCn R W me D S K a1.toInt) x4.toInt) → 100 * oMM x5 t + 50 ≤ (n : Int) → J t 51 [(0, .ref (oad E 71)), (1, .int a1), (2, .int a2), (3, .int a3), (4, .int x4), (5, .int x5)] []) ∧ (∀ (t : oS) (x4 : Int32) (x7 : Int32), (oBI t) → (oLT t) → (1 ≤ (t.1 71 38).toInt → 1 ≤ (t.1 71 42).toInt) → (oAT t) → (oDg t) → ((t.1 71 38).toInt = a1.toInt) → (1 ≤ a1.toInt ∧ a1.toInt ≤ 4) → (0 ≤ a2.toInt ∧ a2.toInt ≤ 2) → (0 ≤ x7.toInt ∧ x7.toInt ≤ a1.toInt) → (owBE R W t) → (owMM me t) → (owLO t) → (owBY D S K t) → ((1 ≤ a1.toInt ∧ a1.toInt ≤ 4) ∧ (0 ≤ a2.toInt ∧ a2.toInt ≤ 2) ∧ (0 ≤ a3.toInt ∧ a3.toInt ≤ 1)) → (owRA a1.toInt t) → (owLu a1.toInt a2.toInt (owCn R W me D S K a1.toInt) x4.toInt t) → 100 * oMM c1 t + 20 - x7.toInt ≤ (n : Int) → J t 76 [(0, .ref (oad E 71)), (1, .int a1), (2, .int a2), (3, .int a3), (4, .int x4), (7, .int x7)] []) ∧ (∀ (t : oS) (x6 : Int32), (oLT t) → (1 ≤ (t.1 71 38).toInt → 1 ≤ (t.1 71 42).toInt) → ((t.1 71 38).toInt = a1.toInt) → (1 ≤ a1.toInt ∧ a1.toInt ≤ 4) → (0 ≤ x6.toInt ∧ x6.toInt ≤ a1.toInt) → (owBE R W t) → (owMM me t) → (owLO t) → (owBY D S K t) → (owRr (owCn R W me D S K a1.toInt) a1.toInt a2.toInt a3.toInt a1.toInt) → 10 - x6.toInt ≤ (n : Int) → J t 137 [(0, .ref (oad E 71)), (1, .int a1), (6, .int x6)] []) := by
    intro n
    induction n using Nat.strongRecOn with
    | _ n ih =>
      refine ⟨?_, ?_, ?_⟩
      · intro t x4 x5  iv0 iv1 iv2 iv3 iv4 iv5 iv6 iv7 iv8 iv9 iv10 iv11 iv12 iv13 iv14 iv15 iv16 hmu
        have rx4 := n_rng x4
        have rx5 := n_rng x5
        have hn1 := oMM_v (x := x5) (s := t)
        have hnn := oMM_f (x := x5) (s := t) (by omega) (by omega) iv4
        refine r_iload C (j := 5) (oDec_at oX12_richest 29 rfl) rfl ?_
        refine r_if_eq C 112 (oDec_at oX12_richest 30 rfl) (by decide) (fun cd1 => ?_) (fun cd1 => ?_)
        · skip
          refine r_iload C (j := 4) (oDec_at oX12_richest 59 rfl) rfl ?_
          refine r_iconst C (oDec_at oX12_richest 60 rfl) (v := km1) (by rw [qkm1]; rfl) ?_
          refine r_icmp_eq C 122 (oDec_at oX12_richest 61 rfl) (by decide) (fun cd2 => ?_) (fun cd2 => ?_)
          · skip
            refine r_aload_n C (j := 0) (oDec_at oX12_richest 64 rfl) rfl rfl ?_
            refine r_callVv C oCl12 rfl miX12_takesBack mlX12_565 (ct_X12_takesBack l E (t)  iv3) (by decide) rfl rfl rfl (Nat.le_of_ble_eq_true rfl) (oDec_at oX12_richest 65 rfl) (fun u3 pu3 fu3 => ?_)
            try dsimp only at pu3
            obtain ⟨pu3_0, pu3_1, pu3_2⟩ := pu3
            refine r_iload C (j := 4) (oDec_at oX12_richest 66 rfl) rfl ?_
            exact r_iret C (oDec_at oX12_richest 67 rfl) ⟨_, rfl, ⟨pu3_0, by omega, owRr_y (k := (x4).toInt) (by omega) (iv16 (by omega)) (by omega)⟩⟩
          · skip
            refine r_iload_n C (j := 3) (oDec_at oX12_richest 62 rfl) rfl rfl ?_
            refine r_if_ne C 129 (oDec_at oX12_richest 63 rfl) (by decide) (fun cd5 => ?_) (fun cd5 => ?_)
            · skip
              have hrr9 : owRr (owCn R W me D S K a1.toInt) a1.toInt a2.toInt a3.toInt a1.toInt := owRr_y (k := (x4).toInt) (by omega) (iv16 (by omega)) (by omega)
              refine r_aload_n C (j := 0) (oDec_at oX12_richest 68 rfl) rfl rfl ?_
              refine r_iload_n C (j := 1) (oDec_at oX12_richest 69 rfl) rfl rfl ?_
              refine r_puti (k := 38) (lo := 0) (hi := 24) C oCl12 rfl (by decide) flX12_261 rfl rfl rfl rfl rfl rfl rfl rfl ⟨by omega, by omega⟩ (oDec_at oX12_richest 70 rfl) ?_
              have hq6 : oLT ((pI t 71 38 a1)) := oLT_nn iv1 (by omega)
              refine r_iconst C (oDec_at oX12_richest 71 rfl) (v := k0) (by rw [qk0]; rfl) ?_
              refine r_istore C (lv' := [(0, .ref (oad E 71)), (1, .int a1), (2, .int a2), (3, .int a3), (4, .int x4), (5, .int x5), (6, .int k0)]) [1, 2, 3, 4, 5, 6, 0] (oDec_at oX12_richest 72 rfl) (by decide) rfl ?_
              have lk7 : (((pI t 71 38 a1)).1 71 38).toInt = a1.toInt := congrArg Int32.toInt ((pI_self _ _ _ _))
              have lk8 : (((pI t 71 38 a1)).1 71 42).toInt = (t.1 71 42).toInt := congrArg Int32.toInt ((pI_ne (a := 71) (b := 42) (c := 71) (k := 38) _ _ (Or.inr (by decide))))
              have lk9 : (((pI t 71 38 a1)).1 71 38).toInt = a1.toInt := congrArg Int32.toInt ((pI_self _ _ _ _))
              refine r_pick C [0, 1, 6] rfl ?_
              exact (ih (n - 1) (by omega)).2.2 ((pI t 71 38 a1)) k0  hq6 (by omega) (by omega) (by omega) (by omega) (owBE_fr (oFr_oneI (q := 12) (m := 38) rfl (by rfl)) rfl iv9) (owMM_fr (oFr_oneI (q := 12) (m := 38) rfl (by rfl)) rfl iv10) (owLO_fr (oFr_oneI (q := 12) (m := 38) rfl (by rfl)) rfl iv11) (owBY_fr (oFr_oneI (q := 12) (m := 38) rfl (by rfl)) rfl iv12) (by first | exact hrr9 | exact iv9) (by omega)
            · skip
              refine r_aload_n C (j := 0) (oDec_at oX12_richest 64 rfl) rfl rfl ?_
              refine r_callVv C oCl12 rfl miX12_takesBack mlX12_565 (ct_X12_takesBack l E (t)  iv3) (by decide) rfl rfl rfl (Nat.le_of_ble_eq_true rfl) (oDec_at oX12_richest 65 rfl) (fun u10 pu10 fu10 => ?_)
              try dsimp only at pu10
              obtain ⟨pu10_0, pu10_1, pu10_2⟩ := pu10
              refine r_iload C (j := 4) (oDec_at oX12_richest 66 rfl) rfl ?_
              exact r_iret C (oDec_at oX12_richest 67 rfl) ⟨_, rfl, ⟨pu10_0, by omega, owRr_y (k := (x4).toInt) (by omega) (iv16 (by omega)) (by omega)⟩⟩
        · skip
          obtain ⟨st9, hrl9, hdg9, hrn9⟩ := iv15 (by omega)
          have hq12 : oVe (oVl (t.1 99) (t.1 71 38).toNatClampNeg) (t) := (show oVl _ _ = _ from rfl)
          have hq13 : oDg (t) := iv4 (by omega)
          have hq14 : owRL (a1.toInt) st9 (t) := hrl9
          have hq15 : owRA (a1.toInt) (t) := iv14 (by omega)
          refine r_aload_n C (j := 0) (oDec_at oX12_richest 31 rfl) rfl rfl ?_
          refine r_callVi C oCl12 rfl miX12_waysNow mlX12_479 (ct9_X12_waysNow l E (t)  (a1.toInt) (st9) (R) (W) (me) (D) (S) (K) iv0 iv9 iv10 iv11 hq14 hq15 iv12 hdg9 (by omega) (by omega)) (by decide) rfl rfl rfl (Nat.le_of_ble_eq_true rfl) (oDec_at oX12_richest 32 rfl) (fun r17 u16 pu16 fu16 => ?_)
          try dsimp only at pu16
          obtain ⟨pu16_0, pu16_1⟩ := pu16
          have rr17 := n_rng r17
          have hwn9 : owCn R W me D S K a1.toInt st9 r17.toInt := pu16_1
          have hrl8 : owRL (a1.toInt) st9 (u16) := (owRL_fr fu16 rfl hq14)
          refine r_istore C (lv' := [(0, .ref (oad E 71)), (1, .int a1), (2, .int a2), (3, .int a3), (4, .int x4), (5, .int x5), (6, .int r17)]) [1, 2, 3, 4, 5, 6, 0] (oDec_at oX12_richest 33 rfl) (by decide) rfl ?_
          refine r_iload C (j := 6) (oDec_at oX12_richest 34 rfl) rfl ?_
          refine r_iload C (j := 4) (oDec_at oX12_richest 35 rfl) rfl ?_
          refine r_icmp_le C 102 (oDec_at oX12_richest 36 rfl) (by decide) (fun cd18 => ?_) (fun cd18 => ?_)
          · skip
            obtain ⟨st8, hrl7, hdg8, hu1, hu0⟩ : owLu a1.toInt a2.toInt (owCn R W me D S K a1.toInt) x4.toInt (u16) := owLu_of hrl8 hdg9 hwn9 (by omega) hrn9
            have hq19 : owRL (a1.toInt) st8 (u16) := hrl7
            refine r_aload_n C (j := 0) (oDec_at oX12_richest 54 rfl) rfl rfl ?_
            refine r_iload_n C (j := 2) (oDec_at oX12_richest 55 rfl) rfl rfl ?_
            have lk20 : ((u16).1 71 38).toInt = (t.1 71 38).toInt := congrArg Int32.toInt ((fu16 71 38 rfl).1)
            have lk21 : ((u16).1 71 42).toInt = (t.1 71 42).toInt := congrArg Int32.toInt ((fu16 71 42 rfl).1)
            have lk22 : ((u16).1 71 38).toInt = (t.1 71 38).toInt := congrArg Int32.toInt ((fu16 71 38 rfl).1)
            refine r_callVi C oCl12 rfl miX12_nextLine mlX12_551 (ct9_X12_nextLine l E (u16) a2 (oVl (t.1 99) (t.1 71 38).toNatClampNeg) (a1.toInt) (st8) (by omega) (oLT_fr fu16 rfl iv1) (by omega) (oDg_fr fu16 rfl hq13) (oVe_fr fu16 rfl hq12) (owRA_fr fu16 rfl hq15) hq19 hdg8 (by omega)) (by decide) rfl rfl rfl (Nat.le_of_ble_eq_true rfl) (oDec_at oX12_richest 56 rfl) (fun r24 u23 pu23 fu23 => ?_)
            try dsimp only at pu23
            try simp only [lk20, lk21, lk22] at pu23
            obtain ⟨pu23_0, pu23_1, pu23_2, pu23_3, pu23_4, pu23_5, pu23_6, pu23_7⟩ := pu23
            have lu25 : ((u23).1 71 38).toInt = (t.1 71 38).toInt := congrArg Int32.toInt (((fu23 71 38 rfl).1).trans ((fu16 71 38 rfl).1))
            have lu26 : ((u23).1 71 38).toInt = (t.1 71 38).toInt := congrArg Int32.toInt (((fu23 71 38 rfl).1).trans ((fu16 71 38 rfl).1))
            have rr24 := n_rng r24
            have hra9 := pu23_5
            have hnx9 := pu23_6
            have hls9 := pu23_7
            refine r_istore C (lv' := [(0, .ref (oad E 71)), (1, .int a1), (2, .int a2), (3, .int a3), (4, .int x4), (5, .int r24), (6, .int r17)]) [1, 2, 3, 4, 5, 0, 6] (oDec_at oX12_richest 57 rfl) (by decide) rfl ?_
            refine r_goto C (tgt := 51) (oDec_at oX12_richest 58 rfl) (by decide) ?_
            have lk27 : ((u23).1 71 38).toInt = (t.1 71 38).toInt := congrArg Int32.toInt (((fu23 71 38 rfl).1).trans ((fu16 71 38 rfl).1))
            have lk28 : ((u23).1 71 38).toInt = (t.1 71 38).toInt := congrArg Int32.toInt (((fu23 71 38 rfl).1).trans ((fu16 71 38 rfl).1))
            have hjl := oMM_lt (x := x5) (y := r24) (s := t) (t := u23) (by omega) (iv4 (by omega)) (by omega) (by omega) pu23_4
            have hjn := oMM_f (x := r24) (s := u23) (by omega) (by omega) (fun h => (pu23_4 h).1)
            refine r_pick C [0, 1, 2, 3, 4, 5] rfl ?_
            exact (ih (n - 1) (by omega)).1 (u23) x4 r24  (oBI_fr fu23 rfl (oBI_fr fu16 rfl iv0)) pu23_1 (by omega) (oAT_fr fu23 rfl (oAT_fr fu16 rfl iv3)) (by first | exact fun _ => (by assumption) | exact fun h => (pu23_4 h).1) (by omega) (by omega) (by omega) (by omega) (owBE_fr fu23 rfl (owBE_fr fu16 rfl iv9)) (owMM_fr fu23 rfl (owMM_fr fu16 rfl iv10)) (owLO_fr fu23 rfl (owLO_fr fu16 rfl iv11)) (owBY_fr fu23 rfl (owBY_fr fu16 rfl iv12)) (by omega) (by first | exact fun _ => hra9 | exact fun _ => hfa9) (by first | exact fun h9 => owLt_nx (hnx9 h9) hdg8 hu1 (by omega) (by omega) | exact fun h9 => owLt_0 hfb9 (by have h8 := hfc9.mp h9; omega) (by omega)) (by first | exact fun h9 => hu0 (hls9 h9) | exact fun h9 => owMx_0 (by have h8 := mt hfc9.mpr (by omega); omega) (by omega)) (by omega)
          · skip
            refine r_iload C (j := 6) (oDec_at oX12_richest 37 rfl) rfl ?_
            refine r_istore C (lv' := [(0, .ref (oad E 71)), (1, .int a1), (2, .int a2), (3, .int a3), (4, .int r17), (5, .int x5), (6, .int r17)]) [1, 2, 3, 4, 0, 5, 6] (oDec_at oX12_richest 38 rfl) (by decide) rfl ?_
            refine r_iconst C (oDec_at oX12_richest 39 rfl) (v := k0) (by rw [qk0]; rfl) ?_
            refine r_istore C (lv' := [(0, .ref (oad E 71)), (1, .int a1), (2, .int a2), (3, .int a3), (4, .int r17), (5, .int x5), (6, .int r17), (7, .int k0)]) [1, 2, 3, 4, 5, 6, 7, 0] (oDec_at oX12_richest 40 rfl) (by decide) rfl ?_
            have lk29 : ((u16).1 71 38).toInt = (t.1 71 38).toInt := congrArg Int32.toInt ((fu16 71 38 rfl).1)
            have lk30 : ((u16).1 71 42).toInt = (t.1 71 42).toInt := congrArg Int32.toInt ((fu16 71 42 rfl).1)
            have lk31 : ((u16).1 71 38).toInt = (t.1 71 38).toInt := congrArg Int32.toInt ((fu16 71 38 rfl).1)
            have hvs : oVl ((u16).1 99) ((u16).1 71 38).toNatClampNeg = (oVl (t.1 99) (t.1 71 38).toNatClampNeg) := (oVe_fr fu16 rfl hq12)
            have hv1 := oMM_v (x := c1) (s := u16) ec1
            have hv2 := oMM_v (x := c1) (s := t) ec1
            have hvb := oDg_bd (s := u16) ((oDg_fr fu16 rfl hq13)) (by omega)
            refine r_pick C [0, 1, 2, 3, 4, 7] rfl ?_
            exact (ih (n - 1) (by omega)).2.1 (u16) r17 k0  (oBI_fr fu16 rfl iv0) (oLT_fr fu16 rfl iv1) (by omega) (oAT_fr fu16 rfl iv3) (oDg_fr fu16 rfl hq13) (by omega) (by omega) (by omega) (by omega) (owBE_fr fu16 rfl iv9) (owMM_fr fu16 rfl iv10) (owLO_fr fu16 rfl iv11) (owBY_fr fu16 rfl iv12) (by omega) (by exact (owRA_fr fu16 rfl hq15)) (by first | exact owLu_of hrl8 hdg9 hwn9 (by omega) hrn9 | exact (by assumption)) (by omega)
      · intro t x4 x7  iv0 iv1 iv2 iv3 iv4 iv5 iv6 iv7 iv8 iv9 iv10 iv11 iv12 iv13 iv14 iv15 hmu
        have rx4 := n_rng x4
        have rx7 := n_rng x7
        have hq32 : oVe (oVl (t.1 99) (t.1 71 38).toNatClampNeg) (t) := (show oVl _ _ = _ from rfl)
        refine r_iload C (j := 5) (oDec_at oX12_richest 41 rfl) rfl ?_
        refine r_iload_n C (j := 1) (oDec_at oX12_richest 42 rfl) rfl rfl ?_
        refine r_icmp_ge C 102 (oDec_at oX12_richest 43 rfl) (by decide) (fun cd33 => ?_) (fun cd33 => ?_)
        · skip
          obtain ⟨st8, hrl7, hdg8, hu1, hu0⟩ := iv15
          have hq34 : owRL (a1.toInt) st8 (t) := hrl7
          refine r_aload_n C (j := 0) (oDec_at oX12_richest 54 rfl) rfl rfl ?_
          refine r_iload_n C (j := 2) (oDec_at oX12_richest 55 rfl) rfl rfl ?_
          refine r_callVi C oCl12 rfl miX12_nextLine mlX12_551 (ct9_X12_nextLine l E (t) a2 (oVl (t.1 99) (t.1 71 38).toNatClampNeg) (a1.toInt) (st8) (by omega) iv1 (by omega) iv4 hq32 iv14 hq34 hdg8 (by omega)) (by decide) rfl rfl rfl (Nat.le_of_ble_eq_true rfl) (oDec_at oX12_richest 56 rfl) (fun r36 u35 pu35 fu35 => ?_)
          try dsimp only at pu35
          obtain ⟨pu35_0, pu35_1, pu35_2, pu35_3, pu35_4, pu35_5, pu35_6, pu35_7⟩ := pu35
          have lu37 : ((u35).1 71 38).toInt = (t.1 71 38).toInt := congrArg Int32.toInt ((fu35 71 38 rfl).1)
          have lu38 : ((u35).1 71 38).toInt = (t.1 71 38).toInt := congrArg Int32.toInt ((fu35 71 38 rfl).1)
          have rr36 := n_rng r36
          have hra9 := pu35_5
          have hnx9 := pu35_6
          have hls9 := pu35_7
          refine r_istore C (lv' := [(0, .ref (oad E 71)), (1, .int a1), (2, .int a2), (3, .int a3), (4, .int x4), (5, .int r36), (7, .int x7)]) [1, 2, 3, 4, 5, 0, 6] (oDec_at oX12_richest 57 rfl) (by decide) rfl ?_
          refine r_goto C (tgt := 51) (oDec_at oX12_richest 58 rfl) (by decide) ?_
          have lk39 : ((u35).1 71 38).toInt = (t.1 71 38).toInt := congrArg Int32.toInt ((fu35 71 38 rfl).1)
          have lk40 : ((u35).1 71 38).toInt = (t.1 71 38).toInt := congrArg Int32.toInt ((fu35 71 38 rfl).1)
          have hjl := oMM_lt (x := c1) (y := r36) (s := t) (t := u35) (by omega) iv4 (by omega) (by omega) pu35_4
          have hjn := oMM_f (x := r36) (s := u35) (by omega) (by omega) (fun h => (pu35_4 h).1)
          refine r_pick C [0, 1, 2, 3, 4, 5] rfl ?_
          exact (ih (n - 1) (by omega)).1 (u35) x4 r36  (oBI_fr fu35 rfl iv0) pu35_1 (by omega) (oAT_fr fu35 rfl iv3) (by first | exact fun _ => (by assumption) | exact fun h => (pu35_4 h).1) (by omega) (by omega) (by omega) (by omega) (owBE_fr fu35 rfl iv9) (owMM_fr fu35 rfl iv10) (owLO_fr fu35 rfl iv11) (owBY_fr fu35 rfl iv12) (by omega) (by first | exact fun _ => hra9 | exact fun _ => hfa9) (by first | exact fun h9 => owLt_nx (hnx9 h9) hdg8 hu1 (by omega) (by omega) | exact fun h9 => owLt_0 hfb9 (by have h8 := hfc9.mp h9; omega) (by omega)) (by first | exact fun h9 => hu0 (hls9 h9) | exact fun h9 => owMx_0 (by have h8 := mt hfc9.mpr (by omega); omega) (by omega)) (by omega)
        · skip
          refine r_aload_n C (j := 0) (oDec_at oX12_richest 44 rfl) rfl rfl ?_
          refine r_getF (k := 78) (b := 116) C oCl12 rfl (by decide) flX12_164 rfl rfl rfl (oDec_at oX12_richest 45 rfl) ?_
          refine r_iload C (j := 5) (oDec_at oX12_richest 46 rfl) rfl ?_
          refine r_aload_n C (j := 0) (oDec_at oX12_richest 47 rfl) rfl rfl ?_
          refine r_getF (k := 39) (b := 99) C oCl12 rfl (by decide) flX12_96 rfl rfl rfl (oDec_at oX12_richest 48 rfl) ?_
          refine r_iload C (j := 5) (oDec_at oX12_richest 49 rfl) rfl ?_
          refine r_pc C 94 rfl ?_
          obtain ⟨v42, ev42⟩ : ∃ z : Int32, (t).1 99 x7.toNatClampNeg = z := ⟨_, rfl⟩
          have gv42 : (t.1 99 x7.toNatClampNeg).toInt = v42.toInt := congrArg Int32.toInt (ev42)
          have rv42 := n_rng v42
          refine r_iald (n := 48) (lo := (-2147483648)) (hi := 2147483647) C v42 rfl (by decide) rfl rfl ⟨by omega, by omega⟩ (by decide) ev42 rfl rfl (oDec_at oX12_richest 50 rfl) (fun _ _ => ?_)
          refine r_iast (n := 4) (lo := (-2147483648)) (hi := 2147483647) C rfl (by decide) rfl rfl ⟨by omega, by omega⟩ (by decide) rfl rfl rfl rfl (n_rng _) (oDec_at oX12_richest 51 rfl) ?_
          obtain ⟨v43, ev43⟩ : ∃ z : Int32, x7 + Int32.ofInt 1 = z := ⟨_, rfl⟩
          have hv43 : v43.toInt = x7.toInt + 1 := n_inc ev43 (by decide) (by omega) (by omega)
          refine r_iinc C (j := 5) (lv' := [(0, .ref (oad E 71)), (1, .int a1), (2, .int a2), (3, .int a3), (4, .int x4), (7, .int v43)]) v43 [1, 2, 3, 4, 5, 0] (oDec_at oX12_richest 52 rfl) rfl ev43 (by decide) rfl ?_
          refine r_goto C (tgt := 76) (oDec_at oX12_richest 53 rfl) (by decide) ?_
          have lk44 : (((pI t 116 x7.toNatClampNeg v42)).1 71 38).toInt = (t.1 71 38).toInt := congrArg Int32.toInt ((pI_ne (a := 71) (b := 38) (c := 116) _ _ (Or.inl (by decide))))
          have lk45 : (((pI t 116 x7.toNatClampNeg v42)).1 71 42).toInt = (t.1 71 42).toInt := congrArg Int32.toInt ((pI_ne (a := 71) (b := 42) (c := 116) _ _ (Or.inl (by decide))))
          have lk46 : (((pI t 116 x7.toNatClampNeg v42)).1 71 38).toInt = (t.1 71 38).toInt := congrArg Int32.toInt ((pI_ne (a := 71) (b := 38) (c := 116) _ _ (Or.inl (by decide))))
          have hvs : oVl (((pI t 116 x7.toNatClampNeg v42)).1 99) (((pI t 116 x7.toNatClampNeg v42)).1 71 38).toNatClampNeg = (oVl (t.1 99) (t.1 71 38).toNatClampNeg) := (oVe_fr (oFr_oneI (q := 92) (m := 9999) rfl (by rfl)) rfl hq32)
          have hv1 := oMM_v (x := c1) (s := (pI t 116 x7.toNatClampNeg v42)) ec1
          have hv2 := oMM_v (x := c1) (s := t) ec1
          have hvb := oDg_bd (s := (pI t 116 x7.toNatClampNeg v42)) ((oDg_fr (oFr_oneI (q := 92) (m := 9999) rfl (by rfl)) rfl iv4)) (by omega)
          exact (ih (n - 1) (by omega)).2.1 ((pI t 116 x7.toNatClampNeg v42)) x4 v43  (oBI_fr (oFr_oneI (q := 92) (m := 9999) rfl (by rfl)) rfl iv0) (oLT_fr (oFr_oneI (q := 92) (m := 9999) rfl (by rfl)) rfl iv1) (by omega) (oAT_fr (oFr_oneI (q := 92) (m := 9999) rfl (by rfl)) rfl iv3) (oDg_fr (oFr_oneI (q := 92) (m := 9999) rfl (by rfl)) rfl iv4) (by omega) (by omega) (by omega) (by omega) (owBE_fr (oFr_oneI (q := 92) (m := 9999) rfl (by rfl)) rfl iv9) (owMM_fr (oFr_oneI (q := 92) (m := 9999) rfl (by rfl)) rfl iv10) (owLO_fr (oFr_oneI (q := 92) (m := 9999) rfl (by rfl)) rfl iv11) (owBY_fr (oFr_oneI (q := 92) (m := 9999) rfl (by rfl)) rfl iv12) (by omega) (by exact (owRA_fr (oFr_oneI (q := 92) (m := 9999) rfl (by rfl)) rfl iv14)) (by first | exact owLu_of hrl8 hdg9 hwn9 (by omega) hrn9 | exact (owLu_fr (oFr_oneI (q := 92) (m := 9999) rfl (by rfl)) rfl iv15)) (by omega)
      · intro t x6  iv0 iv1 iv2 iv3 iv4 iv5 iv6 iv7 iv8 iv9 hmu
        have rx6 := n_rng x6
        refine r_iload C (j := 2) (oDec_at oX12_richest 73 rfl) rfl ?_
        refine r_iload_n C (j := 1) (oDec_at oX12_richest 74 rfl) rfl rfl ?_
        refine r_icmp_ge C 163 (oDec_at oX12_richest 75 rfl) (by decide) (fun cd47 => ?_) (fun cd47 => ?_)
        · skip
          refine r_aload_n C (j := 0) (oDec_at oX12_richest 86 rfl) rfl rfl ?_
          refine r_callVv C oCl12 rfl miX12_lies mlX12_264 (ct8_X12_lies l E (t)  iv0) (by decide) rfl rfl rfl (Nat.le_of_ble_eq_true rfl) (oDec_at oX12_richest 87 rfl) (fun u48 pu48 fu48 => ?_)
          try dsimp only at pu48
          obtain ⟨pu48_0, pu48_1⟩ := pu48
          have lu50 : ((u48).1 71 38).toInt = (t.1 71 38).toInt := congrArg Int32.toInt ((fu48 71 38 rfl).1)
          refine r_iload_n C (j := 1) (oDec_at oX12_richest 88 rfl) rfl rfl ?_
          have lk51 : ((u48).1 71 38).toInt = (t.1 71 38).toInt := congrArg Int32.toInt ((fu48 71 38 rfl).1)
          exact r_iret C (oDec_at oX12_richest 89 rfl) ⟨_, rfl, ⟨pu48_0, by omega, iv9⟩⟩
        · skip
          refine r_aload_n C (j := 0) (oDec_at oX12_richest 76 rfl) rfl rfl ?_
          refine r_getF (k := 39) (b := 99) C oCl12 rfl (by decide) flX12_96 rfl rfl rfl (oDec_at oX12_richest 77 rfl) ?_
          refine r_iload C (j := 2) (oDec_at oX12_richest 78 rfl) rfl ?_
          refine r_aload_n C (j := 0) (oDec_at oX12_richest 79 rfl) rfl rfl ?_
          refine r_getF (k := 78) (b := 116) C oCl12 rfl (by decide) flX12_164 rfl rfl rfl (oDec_at oX12_richest 80 rfl) ?_
          refine r_iload C (j := 2) (oDec_at oX12_richest 81 rfl) rfl ?_
          refine r_pc C 155 rfl ?_
          obtain ⟨v53, ev53⟩ : ∃ z : Int32, (t).1 116 x6.toNatClampNeg = z := ⟨_, rfl⟩
          have gv53 : (t.1 116 x6.toNatClampNeg).toInt = v53.toInt := congrArg Int32.toInt (ev53)
          have rv53 := n_rng v53
          refine r_iald (n := 4) (lo := (-2147483648)) (hi := 2147483647) C v53 rfl (by decide) rfl rfl ⟨by omega, by omega⟩ (by decide) ev53 rfl rfl (oDec_at oX12_richest 82 rfl) (fun _ _ => ?_)
          refine r_iast (n := 48) (lo := (-2147483648)) (hi := 2147483647) C rfl (by decide) rfl rfl ⟨by omega, by omega⟩ (by decide) rfl rfl rfl rfl (n_rng _) (oDec_at oX12_richest 83 rfl) ?_
          obtain ⟨v54, ev54⟩ : ∃ z : Int32, x6 + Int32.ofInt 1 = z := ⟨_, rfl⟩
          have hv54 : v54.toInt = x6.toInt + 1 := n_inc ev54 (by decide) (by omega) (by omega)
          refine r_iinc C (j := 2) (lv' := [(0, .ref (oad E 71)), (1, .int a1), (6, .int v54)]) v54 [1, 2, 0] (oDec_at oX12_richest 84 rfl) rfl ev54 (by decide) rfl ?_
          refine r_goto C (tgt := 137) (oDec_at oX12_richest 85 rfl) (by decide) ?_
          have lk55 : (((pI t 99 x6.toNatClampNeg v53)).1 71 38).toInt = (t.1 71 38).toInt := congrArg Int32.toInt ((pI_ne (a := 71) (b := 38) (c := 99) _ _ (Or.inl (by decide))))
          have lk56 : (((pI t 99 x6.toNatClampNeg v53)).1 71 42).toInt = (t.1 71 42).toInt := congrArg Int32.toInt ((pI_ne (a := 71) (b := 42) (c := 99) _ _ (Or.inl (by decide))))
          have lk57 : (((pI t 99 x6.toNatClampNeg v53)).1 71 38).toInt = (t.1 71 38).toInt := congrArg Int32.toInt ((pI_ne (a := 71) (b := 38) (c := 99) _ _ (Or.inl (by decide))))
          exact (ih (n - 1) (by omega)).2.2 ((pI t 99 x6.toNatClampNeg v53)) v54  (oLT_fr (oFr_oneI (q := 75) (m := 9999) rfl (by rfl)) rfl iv0) (by omega) (by omega) (by omega) (by omega) (owBE_fr (oFr_oneI (q := 75) (m := 9999) rfl (by rfl)) rfl iv5) (owMM_fr (oFr_oneI (q := 75) (m := 9999) rfl (by rfl)) rfl iv6) (owLO_fr (oFr_oneI (q := 75) (m := 9999) rfl (by rfl)) rfl iv7) (owBY_fr (oFr_oneI (q := 75) (m := 9999) rfl (by rfl)) rfl iv8) (by first | exact hrr9 | exact iv9) (by omega)
  refine r_iload_n C (j := 1) (oDec_at oX12_richest 0 rfl) rfl rfl ?_
  obtain ⟨v58, ev58⟩ : ∃ z : Int64, a1.toInt64 = z := ⟨_, rfl⟩
  have hv58 : v58.toInt = a1.toInt := n_i2l ev58
  refine r_i2l C v58 (oDec_at oX12_richest 1 rfl) ev58 ?_
  refine r_lconst C (oDec_at oX12_richest 2 rfl) (v := j1) (by rw [qj1]; rfl) ?_
  refine r_ldc2 C (v := j4) (by rw [qj4]; exact klX12_493) (oDec_at oX12_richest 3 rfl) ?_
  refine r_callSi C miX12_isIn mlX12_216 (ct_X12_isIn l E (s) v58 j1 j4 ) (by decide) rfl rfl rfl (Nat.le_of_ble_eq_true rfl) (oDec_at oX12_richest 4 rfl) (fun r60 u59 pu59 fu59 => ?_)
  try dsimp only at pu59
  obtain ⟨pu59_0, pu59_1⟩ := pu59
  have hxu59 := oFr_nil fu59; subst hxu59
  have rr60 := n_rng r60
  refine r_if_eq C 34 (oDec_at oX12_richest 5 rfl) (by decide) (fun cd61 => ?_) (fun cd61 => ?_)
  · skip
    refine r_iconst C (oDec_at oX12_richest 18 rfl) (v := km1) (by rw [qkm1]; rfl) ?_
    exact r_iret C (oDec_at oX12_richest 19 rfl) ⟨_, rfl, ⟨hp1, by omega, owRr_n (by omega) (by omega)⟩⟩
  · skip
    refine r_iload_n C (j := 2) (oDec_at oX12_richest 6 rfl) rfl rfl ?_
    obtain ⟨v62, ev62⟩ : ∃ z : Int64, a2.toInt64 = z := ⟨_, rfl⟩
    have hv62 : v62.toInt = a2.toInt := n_i2l ev62
    refine r_i2l C v62 (oDec_at oX12_richest 7 rfl) ev62 ?_
    refine r_lconst C (oDec_at oX12_richest 8 rfl) (v := j0) (by rw [qj0]; rfl) ?_
    refine r_ldc2 C (v := j2) (by rw [qj2]; exact klX12_417) (oDec_at oX12_richest 9 rfl) ?_
    refine r_callSi C miX12_isIn mlX12_216 (ct_X12_isIn l E (s) v62 j0 j2 ) (by decide) rfl rfl rfl (Nat.le_of_ble_eq_true rfl) (oDec_at oX12_richest 10 rfl) (fun r64 u63 pu63 fu63 => ?_)
    try dsimp only at pu63
    obtain ⟨pu63_0, pu63_1⟩ := pu63
    have hxu63 := oFr_nil fu63; subst hxu63
    have rr64 := n_rng r64
    refine r_if_eq C 34 (oDec_at oX12_richest 11 rfl) (by decide) (fun cd65 => ?_) (fun cd65 => ?_)
    · skip
      refine r_iconst C (oDec_at oX12_richest 18 rfl) (v := km1) (by rw [qkm1]; rfl) ?_
      exact r_iret C (oDec_at oX12_richest 19 rfl) ⟨_, rfl, ⟨hp1, by omega, owRr_n (by omega) (by omega)⟩⟩
    · skip
      refine r_iload_n C (j := 3) (oDec_at oX12_richest 12 rfl) rfl rfl ?_
      obtain ⟨v66, ev66⟩ : ∃ z : Int64, a3.toInt64 = z := ⟨_, rfl⟩
      have hv66 : v66.toInt = a3.toInt := n_i2l ev66
      refine r_i2l C v66 (oDec_at oX12_richest 13 rfl) ev66 ?_
      refine r_lconst C (oDec_at oX12_richest 14 rfl) (v := j0) (by rw [qj0]; rfl) ?_
      refine r_lconst C (oDec_at oX12_richest 15 rfl) (v := j1) (by rw [qj1]; rfl) ?_
      refine r_callSi C miX12_isIn mlX12_216 (ct_X12_isIn l E (s) v66 j0 j1 ) (by decide) rfl rfl rfl (Nat.le_of_ble_eq_true rfl) (oDec_at oX12_richest 16 rfl) (fun r68 u67 pu67 fu67 => ?_)
      try dsimp only at pu67
      obtain ⟨pu67_0, pu67_1⟩ := pu67
      have hxu67 := oFr_nil fu67; subst hxu67
      have rr68 := n_rng r68
      refine r_if_ne C 36 (oDec_at oX12_richest 17 rfl) (by decide) (fun cd69 => ?_) (fun cd69 => ?_)
      · skip
        refine r_aload_n C (j := 0) (oDec_at oX12_richest 20 rfl) rfl rfl ?_
        refine r_callVv C oCl12 rfl miX12_putsAside mlX12_559 (ct_X12_putsAside l E (s)  hp1) (by decide) rfl rfl rfl (Nat.le_of_ble_eq_true rfl) (oDec_at oX12_richest 21 rfl) (fun u70 pu70 fu70 => ?_)
        try dsimp only at pu70
        obtain ⟨pu70_0, pu70_1, pu70_2⟩ := pu70
        have lu72 : ((u70).1 71 38).toInt = (s.1 71 38).toInt := congrArg Int32.toInt ((fu70 71 38 rfl).1)
        refine r_iconst C (oDec_at oX12_richest 22 rfl) (v := km1) (by rw [qkm1]; rfl) ?_
        refine r_istore C (lv' := [(0, .ref (oad E 71)), (1, .int a1), (2, .int a2), (3, .int a3), (4, .int km1)]) [1, 2, 3, 4, 0] (oDec_at oX12_richest 23 rfl) (by decide) rfl ?_
        refine r_aload_n C (j := 0) (oDec_at oX12_richest 24 rfl) rfl rfl ?_
        refine r_iload_n C (j := 1) (oDec_at oX12_richest 25 rfl) rfl rfl ?_
        refine r_pc C 45 rfl ?_
        refine r_iload_n C (j := 2) (oDec_at oX12_richest 26 rfl) rfl rfl ?_
        refine r_callVi C oCl12 rfl miX12_firstLine mlX12_548 (ct9_X12_firstLine l E (u70) a1 a2 (by omega) (by omega)) (by decide) rfl rfl rfl (Nat.le_of_ble_eq_true rfl) (oDec_at oX12_richest 27 rfl) (fun r74 u73 pu73 fu73 => ?_)
        try dsimp only at pu73
        obtain ⟨pu73_0, pu73_1, pu73_2, pu73_3, pu73_4, pu73_5, pu73_6, pu73_7⟩ := pu73
        have rr74 := n_rng r74
        have hfa9 := pu73_5
        have hfb9 := pu73_6
        have hfc9 := pu73_7
        refine r_istore C (lv' := [(0, .ref (oad E 71)), (1, .int a1), (2, .int a2), (3, .int a3), (4, .int km1), (5, .int r74)]) [1, 2, 3, 4, 5, 0] (oDec_at oX12_richest 28 rfl) (by decide) rfl ?_
        exact (key (100 * oMM r74 (u73) + 50).toNat).1 (u73) km1 r74  (oBI_fr fu73 rfl (oBI_fr fu70 rfl hp0)) pu73_1 (by omega) (oAT_fr fu73 rfl pu70_1) (by first | exact fun _ => pu73_4 | exact fun h => (pu73_4 h).1) (by omega) (by omega) (by omega) (by omega) (owBE_fr fu73 rfl (owBE_fr fu70 rfl hp3)) (owMM_fr fu73 rfl (owMM_fr fu70 rfl hp4)) (owLO_fr fu73 rfl (owLO_fr fu70 rfl hp5)) (owBY_fr fu73 rfl (owBY_fr fu70 rfl hp6)) (by omega) (by first | exact fun _ => hra9 | exact fun _ => hfa9) (by first | exact fun h9 => owLt_nx (hnx9 h9) hdg8 hu1 (by omega) (by omega) | exact fun h9 => owLt_0 hfb9 (by have h8 := hfc9.mp h9; omega) (by omega)) (by first | exact fun h9 => hu0 (hls9 h9) | exact fun h9 => owMx_0 (by have h8 := mt hfc9.mpr (by omega); omega) (by omega)) (by omega)
      · skip
        refine r_iconst C (oDec_at oX12_richest 18 rfl) (v := km1) (by rw [qkm1]; rfl) ?_
        exact r_iret C (oDec_at oX12_richest 19 rfl) ⟨_, rfl, ⟨hp1, by omega, owRr_n (by omega) (by omega)⟩⟩
