set_option maxHeartbeats 4000000 in
set_option maxRecDepth 100000 in
theorem ct9_X5_readBook (l : Launch) (E : oE) (s : oS) (c1 : Nat) (hk1 : okd c1 = 0) (g : Int → Int) (d : Nat) (G : Nat → Nat → Int32) (hp0 : oqX g s) (hp1 : c1 ≠ d) (hp2 : owK5 d G s) : oMet l 76 yX5_readBook cX5_readBook 3 (some .int) [(0, 1), (0, 6), (0, 7), (0, 8), (5, 1), (5, 2), (5, 3), (5, 4), (5, 5), (5, 6), (5, 7), (5, 8), (5, 9), (20, 9999), (21, 9999), (22, 9999), (23, 9999)] E s [.ref (oad E 30), .ref (oad E c1)] (oPi (fun r u => (r.toInt = oqB1 g) ∧ ((u.1 30 8).toInt = oqB2 g) ∧ ((u.1 30 9).toInt = oqB3 g) ∧ (r.toInt ≠ -1 → oqNl (oqB6 g) (oqB4 g) (oqB5 g) (oqB5 g) u) ∧ (oqKx d G u) ∧ (oqRw c1 u) ∧ (r.toInt ≠ -1 → owCB c1 (oqB4 g) (owB7 g) u) ∧ (r.toInt ≠ -1 → owBM c1 (owB6 g) u))) := by
  refine oMet.of (lv := [(0, .ref (oad E 30)), (1, .ref (oad E c1))]) (by decide +kernel) (Nat.le_of_ble_eq_true rfl) rfl (fun J C hT => ?_)
  have C : oC l 76 cX5_readBook RX5 3 (some .int) [(0, 1), (0, 6), (0, 7), (0, 8), (5, 1), (5, 2), (5, 3), (5, 4), (5, 5), (5, 6), (5, 7), (5, 8), (5, 9), (20, 9999), (21, 9999), (22, 9999), (23, 9999)] E s (oPi (fun r u => (r.toInt = oqB1 g) ∧ ((u.1 30 8).toInt = oqB2 g) ∧ ((u.1 30 9).toInt = oqB3 g) ∧ (r.toInt ≠ -1 → oqNl (oqB6 g) (oqB4 g) (oqB5 g) (oqB5 g) u) ∧ (oqKx d G u) ∧ (oqRw c1 u) ∧ (r.toInt ≠ -1 → owCB c1 (oqB4 g) (owB7 g) u) ∧ (r.toInt ≠ -1 → owBM c1 (owB6 g) u))) J := C
  obtain ⟨km1, qkm1⟩ : ∃ z : Int32, z = (-1) := ⟨_, rfl⟩
  have ekm1 : km1.toInt = (-1) := by rw [qkm1]; rfl
  obtain ⟨k0, qk0⟩ : ∃ z : Int32, z = 0 := ⟨_, rfl⟩
  have ek0 : k0.toInt = 0 := by rw [qk0]; rfl
  obtain ⟨k60, qk60⟩ : ∃ z : Int32, z = 60 := ⟨_, rfl⟩
  have ek60 : k60.toInt = 60 := by rw [qk60]; rfl
  have key : ∀ n : Nat, (∀ (t : oS) (x2 : Int32), (oqX g t) → (oqCS g x2.toInt t) → (0 ≤ x2.toInt ∧ x2.toInt ≤ 60) → ((t.1 30 8).toInt = 0 ∧ (t.1 30 9).toInt = -1) → ((t.1 30 5).toInt = 0 ∧ (t.1 30 2).toInt = (t.1 30 2).toInt ∧ (t.1 30 3).toInt = (t.1 30 3).toInt) → (oqKx d G t) → (oqRw c1 t) → (owCS g c1 x2.toInt t) → ((t.1 c1 1).toInt ≤ (t.1 30 2).toInt ∧ (t.1 c1 6).toInt = (t.1 c1 6).toInt) → 61 - x2.toInt ≤ (n : Int) → J t 18 [(0, .ref (oad E 30)), (2, .int x2)] []) := by
    intro n
    induction n using Nat.strongRecOn with
    | _ n ih =>
      skip
      · intro t x2  iv0 iv1 iv2 iv3 iv4 iv5 iv6 iv7 iv8 hmu
        have rx2 := n_rng x2
        refine r_iload_n C (j := 1) (oDec_at oX5_readBook 10 rfl) rfl rfl ?_
        refine r_bipush C (oDec_at oX5_readBook 11 rfl) (v := k60) (by rw [qk60]; rfl) ?_
        refine r_icmp_ge C 49 (oDec_at oX5_readBook 12 rfl) (by decide) (fun cd1 => ?_) (fun cd1 => ?_)
        · skip
          refine r_aload_n C (j := 0) (oDec_at oX5_readBook 26 rfl) rfl rfl ?_
          obtain ⟨R, M, N, me, W, hNl, hBu, hRM, hBv9, hCB9, hBM9⟩ := iv7
          refine r_bipush C (oDec_at oX5_readBook 27 rfl) (v := k60) (by rw [qk60]; rfl) ?_
          refine r_callVi C oCl5 rfl miX5_closing mlX5_51 (ct4_X5_closing l E (t) k60 (g) ((t.1 30 2).toInt) (by omega) iv0) (by decide) rfl rfl rfl (Nat.le_of_ble_eq_true rfl) (oDec_at oX5_readBook 28 rfl) (fun r3 u2 pu2 fu2 => ?_)
          try dsimp only at pu2
          have rr3 := n_rng r3
          have hR : (oqB1 g = r3.toInt ∧ oqB2 g = ((u2).1 30 8).toInt ∧ oqB3 g = ((u2).1 30 9).toInt) := by (rcases pu2 with h8 | h8; (have h9 := oqBu_end hBu (by omega); omega); (have h9 := oqBu_5 hBu (by omega) (by omega); omega))
          exact r_iret C (oDec_at oX5_readBook 29 rfl) ⟨_, rfl, ⟨by omega, by omega, by omega, fun h => by (have h9 := oqBu_end hBu (by omega); exact oqCS_fin (oqNl_fr fu2 rfl hNl) h9.2.2.2.1 h9.2.2.2.2.1 h9.2.2.2.2.2), (oqKx_fr fu2 rfl iv5), (oqRw_fr fu2 rfl iv6), fun h => (by have h9 := oqBu_end hBu (by omega); have h8 := owBu_end hBv9 (by omega); rw [h9.2.2.2.1, h8.2]; exact owCB_fr fu2 rfl hCB9), fun h => (by have h9 := oqBu_end hBu (by omega); have h8 := owBu_end hBv9 (by omega); rw [h8.1]; exact owBM_fr fu2 rfl hBM9)⟩⟩
        · skip
          obtain ⟨R, M, N, me, W, hNl, hBu, hRM, hBv9, hCB9, hBM9⟩ := iv7
          refine r_aload_n C (j := 0) (oDec_at oX5_readBook 13 rfl) rfl rfl ?_
          refine r_callVi C oCl5 rfl miX5_peek mlX5_43 (ct4_X5_peek l E (t)  (g) ((t.1 30 2).toInt) (by omega) iv0) (by decide) rfl rfl rfl (Nat.le_of_ble_eq_true rfl) (oDec_at oX5_readBook 14 rfl) (fun r5 u4 pu4 fu4 => ?_)
          try dsimp only at pu4
          obtain ⟨pu4_0, pu4_1, pu4_2, pu4_3, pu4_4, pu4_5⟩ := pu4
          have rr5 := n_rng r5
          refine r_iconst C (oDec_at oX5_readBook 15 rfl) (v := km1) (by rw [qkm1]; rfl) ?_
          refine r_icmp_ne C 34 (oDec_at oX5_readBook 16 rfl) (by decide) (fun cd6 => ?_) (fun cd6 => ?_)
          · skip
            have hss := oqSk_sk (g := g) (a := (t.1 30 2).toInt) ⟨by omega, by omega⟩
            have hgs : g (oqSk g (oqSk g (t.1 30 2).toInt)) = g (oqSk g (t.1 30 2).toInt) := by rw [hss]
            have hln9 : ((u4).1 c1 1).toInt = (t.1 c1 1).toInt := congrArg Int32.toInt (fu4 c1 1 (by rw [hk1]; rfl)).1
            have hq7 : oqNl N R M M (u4) := oqNl_fr fu4 rfl hNl
            have hq8 : owCB c1 R W (u4) := owCB_fr fu4 rfl hCB9
            have hq9 : owBM c1 me (u4) := owBM_fr fu4 rfl hBM9
            refine r_aload_n C (j := 0) (oDec_at oX5_readBook 19 rfl) rfl rfl ?_
            have lk10 : ((u4).1 30 3).toInt = (t.1 30 3).toInt := congrArg Int32.toInt ((fu4 30 3 rfl).1)
            have lk11 : ((u4).1 30 5).toInt = (t.1 30 5).toInt := congrArg Int32.toInt ((fu4 30 5 rfl).1)
            have lk12 : ((u4).1 30 8).toInt = (t.1 30 8).toInt := congrArg Int32.toInt ((fu4 30 8 rfl).1)
            have lk13 : ((u4).1 30 9).toInt = (t.1 30 9).toInt := congrArg Int32.toInt ((fu4 30 9 rfl).1)
            refine r_callVi C oCl5 rfl miX5_bookStatement mlX5_58 (ct9_X5_bookStatement l E (u4)  (g) (oqSk g (t.1 30 2).toInt) ((t.1 30 3).toInt) (N) (R) (M) (c1) (me) (W) (d) (G) (by omega) (by omega) (oqX_fr fu4 rfl iv0) hq7 (by omega) (by omega) (oqRw_fr fu4 rfl iv6) hq8 hq9 (oqKx_fr fu4 rfl iv5) (by omega)) (by decide) rfl rfl rfl (Nat.le_of_ble_eq_true rfl) (oDec_at oX5_readBook 20 rfl) (fun r15 u14 pu14 fu14 => ?_)
            try dsimp only at pu14
            try simp only [lk10, lk11, lk12, lk13] at pu14
            obtain ⟨pu14_0, pu14_1, pu14_2, pu14_3, pu14_4, pu14_5, pu14_6, pu14_7, pu14_8⟩ := pu14
            have rr15 := n_rng r15
            refine r_if_ne C 43 (oDec_at oX5_readBook 21 rfl) (by decide) (fun cd16 => ?_) (fun cd16 => ?_)
            · skip
              replace pu14_1 := pu14_1 (by omega)
              clear pu14_2
              replace pu14_3 := pu14_3 (by omega)
              replace pu14_4 := pu14_4 (by omega)
              replace pu14_5 := pu14_5 (by omega)
              replace pu14_6 := pu14_6 (by omega)
              obtain ⟨v17, ev17⟩ : ∃ z : Int32, x2 + Int32.ofInt 1 = z := ⟨_, rfl⟩
              have hv17 : v17.toInt = x2.toInt + 1 := n_inc ev17 (by decide) (by omega) (by omega)
              refine r_iinc C (j := 1) (lv' := [(0, .ref (oad E 30)), (2, .int v17)]) v17 [1, 0] (oDec_at oX5_readBook 24 rfl) rfl ev17 (by decide) rfl ?_
              refine r_goto C (tgt := 18) (oDec_at oX5_readBook 25 rfl) (by decide) ?_
              exact (ih (n - 1) (by omega)) (u14) v17  (oqX_fr fu14 rfl (oqX_fr fu4 rfl iv0)) (by first | exact oqCS_nx hBu (by omega) (by omega) (by omega) hRM pu14_3 (by omega) (by omega) (by omega) | exact oqCS_0 (by assumption) hk1 (by omega) (by omega) (by omega) (by omega) (by omega)) (by omega) (by omega) (by omega) pu14_7 pu14_8 (by first | exact owCS_nx hBu hBv9 (by omega) (by omega) (by omega) hRM pu14_3 pu14_4 pu14_5 (by omega) (by omega) (by omega) | exact owCS_0 (by assumption) hk1 (by omega) (by omega) (by omega) (by omega) (by omega) (by omega)) (by omega) (by omega)
            · skip
              clear pu14_1
              replace pu14_2 := pu14_2 (by omega)
              clear pu14_3
              clear pu14_4
              clear pu14_5
              clear pu14_6
              have hR := oqBu_bad hBu (by omega) (by omega) (by omega)
              refine r_iconst C (oDec_at oX5_readBook 22 rfl) (v := km1) (by rw [qkm1]; rfl) ?_
              exact r_iret C (oDec_at oX5_readBook 23 rfl) ⟨_, rfl, ⟨by omega, by omega, by omega, fun h => by exfalso; omega, pu14_7, pu14_8, fun h => by exfalso; omega, fun h => by exfalso; omega⟩⟩
          · skip
            have hR := oqBu_end hBu (by omega)
            refine r_iload_n C (j := 1) (oDec_at oX5_readBook 17 rfl) rfl rfl ?_
            have lk18 : ((u4).1 30 8).toInt = (t.1 30 8).toInt := congrArg Int32.toInt ((fu4 30 8 rfl).1)
            have lk19 : ((u4).1 30 9).toInt = (t.1 30 9).toInt := congrArg Int32.toInt ((fu4 30 9 rfl).1)
            exact r_iret C (oDec_at oX5_readBook 18 rfl) ⟨_, rfl, ⟨by omega, by omega, by omega, fun _ => oqCS_fin (oqNl_fr fu4 rfl hNl) hR.2.2.2.1 hR.2.2.2.2.1 hR.2.2.2.2.2, (oqKx_fr fu4 rfl iv5), (oqRw_fr fu4 rfl iv6), fun _ => (by have h9 := oqBu_end hBu (by omega); have h8 := owBu_end hBv9 (by omega); rw [h9.2.2.2.1, h8.2]; exact owCB_fr fu4 rfl hCB9), fun _ => (by have h9 := oqBu_end hBu (by omega); have h8 := owBu_end hBv9 (by omega); rw [h8.1]; exact owBM_fr fu4 rfl hBM9)⟩⟩
  refine r_aload_n C (j := 0) (oDec_at oX5_readBook 0 rfl) rfl rfl ?_
  refine r_callVv C oCl5 rfl miX5_begin mlX5_35 (ct5_X5_begin l E (s)  ) (by decide) rfl rfl rfl (Nat.le_of_ble_eq_true rfl) (oDec_at oX5_readBook 1 rfl) (fun u20 pu20 fu20 => ?_)
  try dsimp only at pu20
  obtain ⟨pu20_0, pu20_1, pu20_2, pu20_3, pu20_4⟩ := pu20
  refine r_aload_n C (j := 0) (oDec_at oX5_readBook 2 rfl) rfl rfl ?_
  refine r_aload_n C (j := 1) (oDec_at oX5_readBook 3 rfl) rfl rfl ?_
  refine r_putr (k := 1) C oCl5 rfl (by decide) flX5_19 rfl rfl rfl rfl rfl rfl (oRok_S (q := 5) (k := 1) (j := 1) rfl rfl (kin1 hk1)) (oDec_at oX5_readBook 4 rfl) ?_
  have hq22 : oqKx d G ((pR u20 30 1 (c1 + 1))) := owK5_mk (owK5_fr fu20 rfl hp2) rfl (by assumption)
  have hq23 : oqRw c1 ((pR u20 30 1 (c1 + 1))) := pR_self _ _ _ _
  refine r_aload_n C (j := 0) (oDec_at oX5_readBook 5 rfl) rfl rfl ?_
  refine r_pc C 10 rfl ?_
  refine r_getK (k := 1) (b := c1) C oCl5 rfl (by decide) flX5_19 rfl rfl ((pR_self _ _ _ _)) (oDec_at oX5_readBook 6 rfl) ?_
  refine r_callVv C oCl0 hk1 miX0_clear mlX5_55 (ct9_X0_clear l E ((pR u20 30 1 (c1 + 1))) c1 hk1 (d) (G) (by omega) hq22) (by decide) rfl rfl rfl (Nat.le_of_ble_eq_true rfl) (oDec_at oX5_readBook 7 rfl) (fun u25 pu25 fu25 => ?_)
  try dsimp only at pu25
  obtain ⟨pu25_0, pu25_1, pu25_2, pu25_3, pu25_4⟩ := pu25
  refine r_iconst C (oDec_at oX5_readBook 8 rfl) (v := k0) (by rw [qk0]; rfl) ?_
  refine r_istore_n C (lv' := [(0, .ref (oad E 30)), (1, .ref (oad E c1)), (2, .int k0)]) [1, 2, 0] (oDec_at oX5_readBook 9 rfl) rfl (by decide) rfl ?_
  have lk27 : ((u25).1 30 8).toInt = (u20.1 30 8).toInt := congrArg Int32.toInt (((fu25 30 8 rfl).1).trans ((show ((pR u20 30 1 (c1 + 1))).1 30 8 = u20.1 30 8 from rfl)))
  have lk28 : ((u25).1 30 9).toInt = (u20.1 30 9).toInt := congrArg Int32.toInt (((fu25 30 9 rfl).1).trans ((show ((pR u20 30 1 (c1 + 1))).1 30 9 = u20.1 30 9 from rfl)))
  have lk29 : ((u25).1 30 5).toInt = (u20.1 30 5).toInt := congrArg Int32.toInt (((fu25 30 5 rfl).1).trans ((show ((pR u20 30 1 (c1 + 1))).1 30 5 = u20.1 30 5 from rfl)))
  have lk30 : ((u25).1 30 2).toInt = (u20.1 30 2).toInt := congrArg Int32.toInt (((fu25 30 2 rfl).1).trans ((show ((pR u20 30 1 (c1 + 1))).1 30 2 = u20.1 30 2 from rfl)))
  have lk31 : ((u25).1 30 3).toInt = (u20.1 30 3).toInt := congrArg Int32.toInt (((fu25 30 3 rfl).1).trans ((show ((pR u20 30 1 (c1 + 1))).1 30 3 = u20.1 30 3 from rfl)))
  have lk32 : ((u25).1 30 2).toInt = (u20.1 30 2).toInt := congrArg Int32.toInt (((fu25 30 2 rfl).1).trans ((show ((pR u20 30 1 (c1 + 1))).1 30 2 = u20.1 30 2 from rfl)))
  refine r_pick C [0, 2] rfl ?_
  exact (key (61 - k0.toInt).toNat) (u25) k0  (oqX_fr fu25 rfl (oqX_fr (oFr_oneR (q := 5) (m := 1) rfl (by rfl)) rfl (oqX_fr fu20 rfl hp0))) (by first | exact oqCS_nx hBu (by omega) (by omega) (by omega) hRM pu25_3 (by omega) (by omega) (by omega) | exact oqCS_0 (((fu25 30 1 rfl).2.2).trans ((pR_self _ _ _ _))) hk1 (by omega) (by omega) (by omega) (by omega) (by omega)) (by omega) (by omega) (by omega) pu25_2 (oqRw_fr fu25 rfl hq23) (by first | exact owCS_nx hBu hBv9 (by omega) (by omega) (by omega) hRM pu25_3 pu25_4 pu25_5 (by omega) (by omega) (by omega) | exact owCS_0 (((fu25 30 1 rfl).2.2).trans ((pR_self _ _ _ _))) hk1 (by omega) (by omega) (by omega) (by omega) (by omega) (by omega)) (by omega) (by omega)
