set_option maxHeartbeats 4000000 in
set_option maxRecDepth 100000 in
theorem ct4_X0_clear (l : Launch) (E : oE) (s : oS) (c0 : Nat) (hk0 : okd c0 = 0)   : oMet l 1 yX0_clear cX0_clear 1 none [(0, 1), (0, 6), (0, 7), (0, 8)] E s [.ref (oad E c0)] (oPv (fun u => ((u.1 c0 7).toInt = 0) ∧ ((u.1 c0 8).toInt = 0))) := by
  refine oMet.of (lv := [(0, .ref (oad E c0))]) (by decide +kernel) (Nat.le_of_ble_eq_true rfl) rfl (fun J C hT => ?_)
  have C : oC l 1 cX0_clear RX0 1 none [(0, 1), (0, 6), (0, 7), (0, 8)] E s (oPv (fun u => ((u.1 c0 7).toInt = 0) ∧ ((u.1 c0 8).toInt = 0))) J := C
  obtain ⟨k0, qk0⟩ : ∃ z : Int32, z = 0 := ⟨_, rfl⟩
  have ek0 : k0.toInt = 0 := by rw [qk0]; rfl
  obtain ⟨k4, qk4⟩ : ∃ z : Int32, z = 4 := ⟨_, rfl⟩
  have ek4 : k4.toInt = 4 := by rw [qk4]; rfl
  refine r_aload_n C (j := 0) (oDec_at oX0_clear 0 rfl) rfl rfl ?_
  refine r_iconst C (oDec_at oX0_clear 1 rfl) (v := k0) (by rw [qk0]; rfl) ?_
  refine r_puti (k := 1) (lo := 0) (hi := 1600) C oCl0 hk0 (by decide) flX0_33 rfl rfl rfl rfl rfl rfl rfl rfl ⟨by omega, by omega⟩ (oDec_at oX0_clear 2 rfl) ?_
  refine r_aload_n C (j := 0) (oDec_at oX0_clear 3 rfl) rfl rfl ?_
  refine r_iconst C (oDec_at oX0_clear 4 rfl) (v := k0) (by rw [qk0]; rfl) ?_
  refine r_puti (k := 7) (lo := 0) (hi := 12) C oCl0 hk0 (by decide) flX0_36 rfl rfl rfl rfl rfl rfl rfl rfl ⟨by omega, by omega⟩ (oDec_at oX0_clear 5 rfl) ?_
  refine r_pc C 10 rfl ?_
  refine r_aload_n C (j := 0) (oDec_at oX0_clear 6 rfl) rfl rfl ?_
  refine r_iconst C (oDec_at oX0_clear 7 rfl) (v := k0) (by rw [qk0]; rfl) ?_
  refine r_puti (k := 8) (lo := 0) (hi := 6) C oCl0 hk0 (by decide) flX0_39 rfl rfl rfl rfl rfl rfl rfl rfl ⟨by omega, by omega⟩ (oDec_at oX0_clear 8 rfl) ?_
  refine r_aload_n C (j := 0) (oDec_at oX0_clear 9 rfl) rfl rfl ?_
  refine r_iconst C (oDec_at oX0_clear 10 rfl) (v := k4) (by rw [qk4]; rfl) ?_
  refine r_puti (k := 6) (lo := 2) (hi := 12) C oCl0 hk0 (by decide) flX0_29 rfl rfl rfl rfl rfl rfl rfl rfl ⟨by omega, by omega⟩ (oDec_at oX0_clear 11 rfl) ?_
  refine r_pc C 20 rfl ?_
  have lk1 : (((pI (pI (pI (pI s c0 1 k0) c0 7 k0) c0 8 k0) c0 6 k4)).1 c0 7).toInt = k0.toInt := congrArg Int32.toInt (((pI_ne (a := c0) (b := 7) (c := c0) (k := 6) _ _ (Or.inr (by decide)))).trans (((pI_ne (a := c0) (b := 7) (c := c0) (k := 8) _ _ (Or.inr (by decide)))).trans ((pI_self _ _ _ _))))
  have lk2 : (((pI (pI (pI (pI s c0 1 k0) c0 7 k0) c0 8 k0) c0 6 k4)).1 c0 8).toInt = k0.toInt := congrArg Int32.toInt (((pI_ne (a := c0) (b := 8) (c := c0) (k := 6) _ _ (Or.inr (by decide)))).trans ((pI_self _ _ _ _)))
  exact r_vret C (oDec_at oX0_clear 12 rfl) ⟨rfl, ⟨by omega, by omega⟩⟩
set_option maxHeartbeats 4000000 in
set_option maxRecDepth 100000 in
theorem ct5_X5_begin (l : Launch) (E : oE) (s : oS)    : oMet l 1 yX5_begin cX5_begin 1 none [(5, 2), (5, 3), (5, 5), (5, 8), (5, 9)] E s [.ref (oad E 30)] (oPv (fun u => ((u.1 30 2).toInt = 0) ∧ ((u.1 30 3).toInt = -1) ∧ ((u.1 30 8).toInt = 0) ∧ ((u.1 30 9).toInt = -1) ∧ ((u.1 30 5).toInt = 0))) := by
  refine oMet.of (lv := [(0, .ref (oad E 30))]) (by decide +kernel) (Nat.le_of_ble_eq_true rfl) rfl (fun J C hT => ?_)
  have C : oC l 1 cX5_begin RX5 1 none [(5, 2), (5, 3), (5, 5), (5, 8), (5, 9)] E s (oPv (fun u => ((u.1 30 2).toInt = 0) ∧ ((u.1 30 3).toInt = -1) ∧ ((u.1 30 8).toInt = 0) ∧ ((u.1 30 9).toInt = -1) ∧ ((u.1 30 5).toInt = 0))) J := C
  obtain ⟨km1, qkm1⟩ : ∃ z : Int32, z = (-1) := ⟨_, rfl⟩
  have ekm1 : km1.toInt = (-1) := by rw [qkm1]; rfl
  obtain ⟨k0, qk0⟩ : ∃ z : Int32, z = 0 := ⟨_, rfl⟩
  have ek0 : k0.toInt = 0 := by rw [qk0]; rfl
  refine r_aload_n C (j := 0) (oDec_at oX5_begin 0 rfl) rfl rfl ?_
  refine r_iconst C (oDec_at oX5_begin 1 rfl) (v := k0) (by rw [qk0]; rfl) ?_
  refine r_puti (k := 2) (lo := 0) (hi := 1600) C oCl5 rfl (by decide) flX5_23 rfl rfl rfl rfl rfl rfl rfl rfl ⟨by omega, by omega⟩ (oDec_at oX5_begin 2 rfl) ?_
  refine r_aload_n C (j := 0) (oDec_at oX5_begin 3 rfl) rfl rfl ?_
  refine r_iconst C (oDec_at oX5_begin 4 rfl) (v := km1) (by rw [qkm1]; rfl) ?_
  refine r_puti (k := 3) (lo := (-1)) (hi := 1600) C oCl5 rfl (by decide) flX5_26 rfl rfl rfl rfl rfl rfl rfl rfl ⟨by omega, by omega⟩ (oDec_at oX5_begin 5 rfl) ?_
  refine r_pc C 10 rfl ?_
  refine r_aload_n C (j := 0) (oDec_at oX5_begin 6 rfl) rfl rfl ?_
  refine r_iconst C (oDec_at oX5_begin 7 rfl) (v := k0) (by rw [qk0]; rfl) ?_
  refine r_puti (k := 5) (lo := 0) (hi := 6) C oCl5 rfl (by decide) flX5_29 rfl rfl rfl rfl rfl rfl rfl rfl ⟨by omega, by omega⟩ (oDec_at oX5_begin 8 rfl) ?_
  refine r_aload_n C (j := 0) (oDec_at oX5_begin 9 rfl) rfl rfl ?_
  refine r_iconst C (oDec_at oX5_begin 10 rfl) (v := k0) (by rw [qk0]; rfl) ?_
  refine r_puti (k := 8) (lo := (-2147483648)) (hi := 2147483647) C oCl5 rfl (by decide) flX5_32 rfl rfl rfl rfl rfl rfl rfl rfl (n_rng _) (oDec_at oX5_begin 11 rfl) ?_
  refine r_pc C 20 rfl ?_
  refine r_aload_n C (j := 0) (oDec_at oX5_begin 12 rfl) rfl rfl ?_
  refine r_iconst C (oDec_at oX5_begin 13 rfl) (v := km1) (by rw [qkm1]; rfl) ?_
  refine r_puti (k := 9) (lo := (-2147483648)) (hi := 2147483647) C oCl5 rfl (by decide) flX5_9 rfl rfl rfl rfl rfl rfl rfl rfl (n_rng _) (oDec_at oX5_begin 14 rfl) ?_
  have lk1 : (((pI (pI (pI (pI (pI s 30 2 k0) 30 3 km1) 30 5 k0) 30 8 k0) 30 9 km1)).1 30 2).toInt = k0.toInt := congrArg Int32.toInt (((pI_ne (a := 30) (b := 2) (c := 30) (k := 9) _ _ (Or.inr (by decide)))).trans (((pI_ne (a := 30) (b := 2) (c := 30) (k := 8) _ _ (Or.inr (by decide)))).trans (((pI_ne (a := 30) (b := 2) (c := 30) (k := 5) _ _ (Or.inr (by decide)))).trans (((pI_ne (a := 30) (b := 2) (c := 30) (k := 3) _ _ (Or.inr (by decide)))).trans ((pI_self _ _ _ _))))))
  have lk2 : (((pI (pI (pI (pI (pI s 30 2 k0) 30 3 km1) 30 5 k0) 30 8 k0) 30 9 km1)).1 30 3).toInt = km1.toInt := congrArg Int32.toInt (((pI_ne (a := 30) (b := 3) (c := 30) (k := 9) _ _ (Or.inr (by decide)))).trans (((pI_ne (a := 30) (b := 3) (c := 30) (k := 8) _ _ (Or.inr (by decide)))).trans (((pI_ne (a := 30) (b := 3) (c := 30) (k := 5) _ _ (Or.inr (by decide)))).trans ((pI_self _ _ _ _)))))
  have lk3 : (((pI (pI (pI (pI (pI s 30 2 k0) 30 3 km1) 30 5 k0) 30 8 k0) 30 9 km1)).1 30 8).toInt = k0.toInt := congrArg Int32.toInt (((pI_ne (a := 30) (b := 8) (c := 30) (k := 9) _ _ (Or.inr (by decide)))).trans ((pI_self _ _ _ _)))
  have lk4 : (((pI (pI (pI (pI (pI s 30 2 k0) 30 3 km1) 30 5 k0) 30 8 k0) 30 9 km1)).1 30 9).toInt = km1.toInt := congrArg Int32.toInt ((pI_self _ _ _ _))
  have lk5 : (((pI (pI (pI (pI (pI s 30 2 k0) 30 3 km1) 30 5 k0) 30 8 k0) 30 9 km1)).1 30 5).toInt = k0.toInt := congrArg Int32.toInt (((pI_ne (a := 30) (b := 5) (c := 30) (k := 9) _ _ (Or.inr (by decide)))).trans (((pI_ne (a := 30) (b := 5) (c := 30) (k := 8) _ _ (Or.inr (by decide)))).trans ((pI_self _ _ _ _))))
  exact r_vret C (oDec_at oX5_begin 15 rfl) ⟨rfl, ⟨by omega, by omega, by omega, by omega, by omega⟩⟩
set_option maxHeartbeats 4000000 in
set_option maxRecDepth 100000 in
theorem ct4_X5_readBook (l : Launch) (E : oE) (s : oS) (c1 : Nat) (hk1 : okd c1 = 0) (g : Int → Int) (hp0 : oqX g s) : oMet l 76 yX5_readBook cX5_readBook 3 (some .int) [(0, 1), (0, 6), (0, 7), (0, 8), (5, 1), (5, 2), (5, 3), (5, 4), (5, 5), (5, 6), (5, 7), (5, 8), (5, 9), (20, 9999), (21, 9999), (22, 9999), (23, 9999)] E s [.ref (oad E 30), .ref (oad E c1)] (oPi (fun r u => (r.toInt = oqB1 g) ∧ ((u.1 30 8).toInt = oqB2 g) ∧ ((u.1 30 9).toInt = oqB3 g) ∧ (r.toInt ≠ -1 → oqNl (oqB6 g) (oqB4 g) (oqB5 g) (oqB5 g) u))) := by
  refine oMet.of (lv := [(0, .ref (oad E 30)), (1, .ref (oad E c1))]) (by decide +kernel) (Nat.le_of_ble_eq_true rfl) rfl (fun J C hT => ?_)
  have C : oC l 76 cX5_readBook RX5 3 (some .int) [(0, 1), (0, 6), (0, 7), (0, 8), (5, 1), (5, 2), (5, 3), (5, 4), (5, 5), (5, 6), (5, 7), (5, 8), (5, 9), (20, 9999), (21, 9999), (22, 9999), (23, 9999)] E s (oPi (fun r u => (r.toInt = oqB1 g) ∧ ((u.1 30 8).toInt = oqB2 g) ∧ ((u.1 30 9).toInt = oqB3 g) ∧ (r.toInt ≠ -1 → oqNl (oqB6 g) (oqB4 g) (oqB5 g) (oqB5 g) u))) J := C
  obtain ⟨km1, qkm1⟩ : ∃ z : Int32, z = (-1) := ⟨_, rfl⟩
  have ekm1 : km1.toInt = (-1) := by rw [qkm1]; rfl
  obtain ⟨k0, qk0⟩ : ∃ z : Int32, z = 0 := ⟨_, rfl⟩
  have ek0 : k0.toInt = 0 := by rw [qk0]; rfl
  obtain ⟨k60, qk60⟩ : ∃ z : Int32, z = 60 := ⟨_, rfl⟩
  have ek60 : k60.toInt = 60 := by rw [qk60]; rfl
  have key : ∀ n : Nat, (∀ (t : oS) (x2 : Int32), (oqX g t) → (oqCS g x2.toInt t) → (0 ≤ x2.toInt ∧ x2.toInt ≤ 60) → ((t.1 30 8).toInt = 0 ∧ (t.1 30 9).toInt = -1) → ((t.1 30 5).toInt = 0 ∧ (t.1 30 2).toInt = (t.1 30 2).toInt ∧ (t.1 30 3).toInt = (t.1 30 3).toInt) → 61 - x2.toInt ≤ (n : Int) → J t 18 [(0, .ref (oad E 30)), (2, .int x2)] []) := by
    intro n
    induction n using Nat.strongRecOn with
    | _ n ih =>
      skip
      · intro t x2  iv0 iv1 iv2 iv3 iv4 hmu
        have rx2 := n_rng x2
        refine r_iload_n C (j := 1) (oDec_at oX5_readBook 10 rfl) rfl rfl ?_
        refine r_bipush C (oDec_at oX5_readBook 11 rfl) (v := k60) (by rw [qk60]; rfl) ?_
        refine r_icmp_ge C 49 (oDec_at oX5_readBook 12 rfl) (by decide) (fun cd1 => ?_) (fun cd1 => ?_)
        · skip
          refine r_aload_n C (j := 0) (oDec_at oX5_readBook 26 rfl) rfl rfl ?_
          obtain ⟨R, M, N, hNl, hBu, hRM⟩ := iv1
          refine r_bipush C (oDec_at oX5_readBook 27 rfl) (v := k60) (by rw [qk60]; rfl) ?_
          refine r_callVi C oCl5 rfl miX5_closing mlX5_51 (ct4_X5_closing l E (t) k60 (g) ((t.1 30 2).toInt) (by omega) iv0) (by decide) rfl rfl rfl (Nat.le_of_ble_eq_true rfl) (oDec_at oX5_readBook 28 rfl) (fun r3 u2 pu2 fu2 => ?_)
          try dsimp only at pu2
          have rr3 := n_rng r3
          have hR : (oqB1 g = r3.toInt ∧ oqB2 g = ((u2).1 30 8).toInt ∧ oqB3 g = ((u2).1 30 9).toInt) := by (rcases pu2 with h8 | h8; (have h9 := oqBu_end hBu (by omega); omega); (have h9 := oqBu_5 hBu (by omega) (by omega); omega))
          exact r_iret C (oDec_at oX5_readBook 29 rfl) ⟨_, rfl, ⟨by omega, by omega, by omega, fun h => by (have h9 := oqBu_end hBu (by omega); exact oqCS_fin (oqNl_fr fu2 rfl hNl) h9.2.2.2.1 h9.2.2.2.2.1 h9.2.2.2.2.2)⟩⟩
        · skip
          obtain ⟨R, M, N, hNl, hBu, hRM⟩ := iv1
          refine r_aload_n C (j := 0) (oDec_at oX5_readBook 13 rfl) rfl rfl ?_
          refine r_callVi C oCl5 rfl miX5_peek mlX5_43 (ct4_X5_peek l E (t)  (g) ((t.1 30 2).toInt) (by omega) iv0) (by decide) rfl rfl rfl (Nat.le_of_ble_eq_true rfl) (oDec_at oX5_readBook 14 rfl) (fun r5 u4 pu4 fu4 => ?_)
          try dsimp only at pu4
          obtain ⟨pu4_0, pu4_1, pu4_2, pu4_3, pu4_4, pu4_5⟩ := pu4
          have rr5 := n_rng r5
          refine r_iconst C (oDec_at oX5_readBook 15 rfl) (v := km1) (by rw [qkm1]; rfl) ?_
          refine r_icmp_ne C 34 (oDec_at oX5_readBook 16 rfl) (by decide) (fun cd6 => ?_) (fun cd6 => ?_)
          · skip
            have hss := oqSk_sk (g := g) (a := (t.1 30 2).toInt) ⟨by omega, by omega⟩
            have hgs : g (oqSk g (oqSk g (t.1 30 2).toInt)) = g (oqSk g (t.1 30 2).toInt) := by rw [hss]
            have hq7 : oqNl N R M M (u4) := oqNl_fr fu4 rfl hNl
            refine r_aload_n C (j := 0) (oDec_at oX5_readBook 19 rfl) rfl rfl ?_
            have lk8 : ((u4).1 30 3).toInt = (t.1 30 3).toInt := congrArg Int32.toInt ((fu4 30 3 rfl).1)
            have lk9 : ((u4).1 30 5).toInt = (t.1 30 5).toInt := congrArg Int32.toInt ((fu4 30 5 rfl).1)
            have lk10 : ((u4).1 30 8).toInt = (t.1 30 8).toInt := congrArg Int32.toInt ((fu4 30 8 rfl).1)
            have lk11 : ((u4).1 30 9).toInt = (t.1 30 9).toInt := congrArg Int32.toInt ((fu4 30 9 rfl).1)
            refine r_callVi C oCl5 rfl miX5_bookStatement mlX5_58 (ct4_X5_bookStatement l E (u4)  (g) (oqSk g (t.1 30 2).toInt) ((t.1 30 3).toInt) (N) (R) (M) (by omega) (by omega) (oqX_fr fu4 rfl iv0) hq7 (by omega) (by omega)) (by decide) rfl rfl rfl (Nat.le_of_ble_eq_true rfl) (oDec_at oX5_readBook 20 rfl) (fun r13 u12 pu12 fu12 => ?_)
            try dsimp only at pu12
            try simp only [lk8, lk9, lk10, lk11] at pu12
            obtain ⟨pu12_0, pu12_1, pu12_2, pu12_3⟩ := pu12
            have rr13 := n_rng r13
            refine r_if_ne C 43 (oDec_at oX5_readBook 21 rfl) (by decide) (fun cd14 => ?_) (fun cd14 => ?_)
            · skip
              replace pu12_1 := pu12_1 (by omega)
              clear pu12_2
              replace pu12_3 := pu12_3 (by omega)
              obtain ⟨v15, ev15⟩ : ∃ z : Int32, x2 + Int32.ofInt 1 = z := ⟨_, rfl⟩
              have hv15 : v15.toInt = x2.toInt + 1 := n_inc ev15 (by decide) (by omega) (by omega)
              refine r_iinc C (j := 1) (lv' := [(0, .ref (oad E 30)), (2, .int v15)]) v15 [1, 0] (oDec_at oX5_readBook 24 rfl) rfl ev15 (by decide) rfl ?_
              refine r_goto C (tgt := 18) (oDec_at oX5_readBook 25 rfl) (by decide) ?_
              exact (ih (n - 1) (by omega)) (u12) v15  (oqX_fr fu12 rfl (oqX_fr fu4 rfl iv0)) (by first | exact oqCS_nx hBu (by omega) (by omega) (by omega) hRM pu12_3 (by omega) (by omega) (by omega) | exact oqCS_0 (by assumption) hk1 (by omega) (by omega) (by omega) (by omega) (by omega)) (by omega) (by omega) (by omega) (by omega)
            · skip
              clear pu12_1
              replace pu12_2 := pu12_2 (by omega)
              clear pu12_3
              have hR := oqBu_bad hBu (by omega) (by omega) (by omega)
              refine r_iconst C (oDec_at oX5_readBook 22 rfl) (v := km1) (by rw [qkm1]; rfl) ?_
              exact r_iret C (oDec_at oX5_readBook 23 rfl) ⟨_, rfl, ⟨by omega, by omega, by omega, fun h => by exfalso; omega⟩⟩
          · skip
            have hR := oqBu_end hBu (by omega)
            refine r_iload_n C (j := 1) (oDec_at oX5_readBook 17 rfl) rfl rfl ?_
            have lk16 : ((u4).1 30 8).toInt = (t.1 30 8).toInt := congrArg Int32.toInt ((fu4 30 8 rfl).1)
            have lk17 : ((u4).1 30 9).toInt = (t.1 30 9).toInt := congrArg Int32.toInt ((fu4 30 9 rfl).1)
            exact r_iret C (oDec_at oX5_readBook 18 rfl) ⟨_, rfl, ⟨by omega, by omega, by omega, fun _ => oqCS_fin (oqNl_fr fu4 rfl hNl) hR.2.2.2.1 hR.2.2.2.2.1 hR.2.2.2.2.2⟩⟩
  refine r_aload_n C (j := 0) (oDec_at oX5_readBook 0 rfl) rfl rfl ?_
  refine r_callVv C oCl5 rfl miX5_begin mlX5_35 (ct5_X5_begin l E (s)  ) (by decide) rfl rfl rfl (Nat.le_of_ble_eq_true rfl) (oDec_at oX5_readBook 1 rfl) (fun u18 pu18 fu18 => ?_)
  try dsimp only at pu18
  obtain ⟨pu18_0, pu18_1, pu18_2, pu18_3, pu18_4⟩ := pu18
  refine r_aload_n C (j := 0) (oDec_at oX5_readBook 2 rfl) rfl rfl ?_
  refine r_aload_n C (j := 1) (oDec_at oX5_readBook 3 rfl) rfl rfl ?_
  refine r_putr (k := 1) C oCl5 rfl (by decide) flX5_19 rfl rfl rfl rfl rfl rfl (oRok_S (q := 5) (k := 1) (j := 1) rfl rfl (kin1 hk1)) (oDec_at oX5_readBook 4 rfl) ?_
  refine r_aload_n C (j := 0) (oDec_at oX5_readBook 5 rfl) rfl rfl ?_
  refine r_pc C 10 rfl ?_
  refine r_getK (k := 1) (b := c1) C oCl5 rfl (by decide) flX5_19 rfl rfl ((pR_self _ _ _ _)) (oDec_at oX5_readBook 6 rfl) ?_
  refine r_callVv C oCl0 hk1 miX0_clear mlX5_55 (ct4_X0_clear l E ((pR u18 30 1 (c1 + 1))) c1 hk1 ) (by decide) rfl rfl rfl (Nat.le_of_ble_eq_true rfl) (oDec_at oX5_readBook 7 rfl) (fun u21 pu21 fu21 => ?_)
  try dsimp only at pu21
  obtain ⟨pu21_0, pu21_1⟩ := pu21
  refine r_iconst C (oDec_at oX5_readBook 8 rfl) (v := k0) (by rw [qk0]; rfl) ?_
  refine r_istore_n C (lv' := [(0, .ref (oad E 30)), (1, .ref (oad E c1)), (2, .int k0)]) [1, 2, 0] (oDec_at oX5_readBook 9 rfl) rfl (by decide) rfl ?_
  have lk23 : ((u21).1 30 8).toInt = (u18.1 30 8).toInt := congrArg Int32.toInt (((fu21 30 8 rfl).1).trans ((show ((pR u18 30 1 (c1 + 1))).1 30 8 = u18.1 30 8 from rfl)))
  have lk24 : ((u21).1 30 9).toInt = (u18.1 30 9).toInt := congrArg Int32.toInt (((fu21 30 9 rfl).1).trans ((show ((pR u18 30 1 (c1 + 1))).1 30 9 = u18.1 30 9 from rfl)))
  have lk25 : ((u21).1 30 5).toInt = (u18.1 30 5).toInt := congrArg Int32.toInt (((fu21 30 5 rfl).1).trans ((show ((pR u18 30 1 (c1 + 1))).1 30 5 = u18.1 30 5 from rfl)))
  have lk26 : ((u21).1 30 2).toInt = (u18.1 30 2).toInt := congrArg Int32.toInt (((fu21 30 2 rfl).1).trans ((show ((pR u18 30 1 (c1 + 1))).1 30 2 = u18.1 30 2 from rfl)))
  have lk27 : ((u21).1 30 3).toInt = (u18.1 30 3).toInt := congrArg Int32.toInt (((fu21 30 3 rfl).1).trans ((show ((pR u18 30 1 (c1 + 1))).1 30 3 = u18.1 30 3 from rfl)))
  refine r_pick C [0, 2] rfl ?_
  exact (key (61 - k0.toInt).toNat) (u21) k0  (oqX_fr fu21 rfl (oqX_fr (oFr_oneR (q := 5) (m := 1) rfl (by rfl)) rfl (oqX_fr fu18 rfl hp0))) (by first | exact oqCS_nx hBu (by omega) (by omega) (by omega) hRM pu21_3 (by omega) (by omega) (by omega) | exact oqCS_0 (((fu21 30 1 rfl).2.2).trans ((pR_self _ _ _ _))) hk1 (by omega) (by omega) (by omega) (by omega) (by omega)) (by omega) (by omega) (by omega) (by omega)
set_option maxHeartbeats 4000000 in
set_option maxRecDepth 100000 in
theorem ct4_X11_book (l : Launch) (E : oE) (s : oS)  (g : Int → Int) (hp0 : oqX g s) : oMet l 77 yX11_book cX11_book 3 (some .int) [(0, 1), (0, 6), (0, 7), (0, 8), (2, 3), (3, 0), (5, 1), (5, 2), (5, 3), (5, 4), (5, 5), (5, 6), (5, 7), (5, 8), (5, 9), (7, 0), (8, 1), (10, 3), (11, 4), (11, 5), (11, 17), (20, 9999), (21, 9999), (22, 9999), (23, 9999), (25, 9999)] E s [.ref (oad E 0)] (oPi (fun r u => ((u.1 1 1).toInt = 0) ∧ (r.toInt = oqB1 g) ∧ ((u.1 30 8).toInt = oqB2 g) ∧ ((u.1 30 9).toInt = oqB3 g))) := by
  refine oMet.of (lv := [(0, .ref (oad E 0))]) (by decide +kernel) (Nat.le_of_ble_eq_true rfl) rfl (fun J C hT => ?_)
  have C : oC l 77 cX11_book RX11 3 (some .int) [(0, 1), (0, 6), (0, 7), (0, 8), (2, 3), (3, 0), (5, 1), (5, 2), (5, 3), (5, 4), (5, 5), (5, 6), (5, 7), (5, 8), (5, 9), (7, 0), (8, 1), (10, 3), (11, 4), (11, 5), (11, 17), (20, 9999), (21, 9999), (22, 9999), (23, 9999), (25, 9999)] E s (oPi (fun r u => ((u.1 1 1).toInt = 0) ∧ (r.toInt = oqB1 g) ∧ ((u.1 30 8).toInt = oqB2 g) ∧ ((u.1 30 9).toInt = oqB3 g))) J := C
  obtain ⟨km1, qkm1⟩ : ∃ z : Int32, z = (-1) := ⟨_, rfl⟩
  have ekm1 : km1.toInt = (-1) := by rw [qkm1]; rfl
  obtain ⟨k0, qk0⟩ : ∃ z : Int32, z = 0 := ⟨_, rfl⟩
  have ek0 : k0.toInt = 0 := by rw [qk0]; rfl
  refine r_aload_n C (j := 0) (oDec_at oX11_book 0 rfl) rfl rfl ?_
  refine r_getF (k := 6) (b := 30) C oCl11 rfl (by decide) flX11_44 rfl rfl rfl (oDec_at oX11_book 1 rfl) ?_
  refine r_aload_n C (j := 0) (oDec_at oX11_book 2 rfl) rfl rfl ?_
  refine r_getS (k := 5) (q2 := 0) C oCl11 rfl (by decide) flX11_36 rfl rfl rfl ks1 (oDec_at oX11_book 3 rfl) (fun b1 rb1 mb1 hkb1 => ?_)
  refine r_callVi C oCl5 rfl miX5_readBook mlX11_124 (ct4_X5_readBook l E (s) b1 hkb1 (g) hp0) (by decide) rfl rfl rfl (Nat.le_of_ble_eq_true rfl) (oDec_at oX11_book 4 rfl) (fun r3 u2 pu2 fu2 => ?_)
  try dsimp only at pu2
  obtain ⟨pu2_0, pu2_1, pu2_2, pu2_3⟩ := pu2
  have rr3 := n_rng r3
  refine r_istore_n C (lv' := [(0, .ref (oad E 0)), (1, .int r3)]) [1, 0] (oDec_at oX11_book 5 rfl) rfl (by decide) rfl ?_
  refine r_pc C 12 rfl ?_
  refine r_aload_n C (j := 0) (oDec_at oX11_book 6 rfl) rfl rfl ?_
  refine r_getF (k := 0) (b := 1) C oCl11 rfl (by decide) flX11_10 rfl rfl rfl (oDec_at oX11_book 7 rfl) ?_
  refine r_iconst C (oDec_at oX11_book 8 rfl) (v := k0) (by rw [qk0]; rfl) ?_
  refine r_ty C (fun hty => ?_)
  have ht17 : (0 : Int) ≤ ((u2).1 1 1).toInt ∧ ((u2).1 1 1).toInt ≤ 1600 := hty.1 1 1
  have lk4 : ((u2).1 1 1).toInt = (s.1 1 1).toInt := congrArg Int32.toInt ((fu2 1 1 rfl).1)
  refine r_callVi C oCl8 rfl miX8_cut mlX11_114 (ct_X8_cut l E (u2) k0 ) (by decide) rfl rfl rfl (Nat.le_of_ble_eq_true rfl) (oDec_at oX11_book 9 rfl) (fun r6 u5 pu5 fu5 => ?_)
  try dsimp only at pu5
  try simp only [lk4] at pu5
  obtain ⟨pu5_0, pu5_1⟩ := pu5
  have rr6 := n_rng r6
  refine r_pop C (oDec_at oX11_book 10 rfl) rfl ?_
  refine r_iload_n C (j := 1) (oDec_at oX11_book 11 rfl) rfl rfl ?_
  refine r_pc C 22 rfl ?_
  refine r_iconst C (oDec_at oX11_book 12 rfl) (v := km1) (by rw [qkm1]; rfl) ?_
  refine r_icmp_ne C 28 (oDec_at oX11_book 13 rfl) (by decide) (fun cd7 => ?_) (fun cd7 => ?_)
  · skip
    refine r_aload_n C (j := 0) (oDec_at oX11_book 16 rfl) rfl rfl ?_
    refine r_getS (k := 4) (q2 := 0) C oCl11 rfl (by decide) flX11_32 rfl rfl rfl ks1 (oDec_at oX11_book 17 rfl) (fun b8 rb8 mb8 hkb8 => ?_)
    refine r_astore_n C (lv' := [(0, .ref (oad E 0)), (1, .int r3), (2, .ref (oad E b8))]) [1, 2, 0] (oDec_at oX11_book 18 rfl) rfl (by decide) rfl ?_
    refine r_aload_n C (j := 0) (oDec_at oX11_book 19 rfl) rfl rfl ?_
    refine r_aload_n C (j := 0) (oDec_at oX11_book 20 rfl) rfl rfl ?_
    refine r_getK (k := 5) (b := b1) C oCl11 rfl (by decide) flX11_36 rfl rfl (((fu5 0 5 rfl).2.2).trans (((fu2 0 5 rfl).2.2).trans (rb1))) (oDec_at oX11_book 21 rfl) ?_
    refine r_putr (k := 4) C oCl11 rfl (by decide) flX11_32 rfl rfl rfl rfl rfl rfl (oRok_S (q := 11) (k := 4) (j := 1) rfl rfl (kin1 hkb1)) (oDec_at oX11_book 22 rfl) ?_
    refine r_pc C 41 rfl ?_
    refine r_aload_n C (j := 0) (oDec_at oX11_book 23 rfl) rfl rfl ?_
    refine r_aload_n C (j := 2) (oDec_at oX11_book 24 rfl) rfl rfl ?_
    refine r_putr (k := 5) C oCl11 rfl (by decide) flX11_36 rfl rfl rfl rfl rfl rfl (oRok_S (q := 11) (k := 5) (j := 1) rfl rfl (kin1 hkb8)) (oDec_at oX11_book 25 rfl) ?_
    refine r_aload_n C (j := 0) (oDec_at oX11_book 26 rfl) rfl rfl ?_
    refine r_getF (k := 7) (b := 31) C oCl11 rfl (by decide) flX11_53 rfl rfl rfl (oDec_at oX11_book 27 rfl) ?_
    refine r_aload_n C (j := 0) (oDec_at oX11_book 28 rfl) rfl rfl ?_
    refine r_pc C 51 rfl ?_
    refine r_getK (k := 4) (b := b1) C oCl11 rfl (by decide) flX11_32 rfl rfl (((pR_ne (a := 0) (b := 4) (c := 0) (k := 5) _ _ (Or.inr (by decide)))).trans ((pR_self _ _ _ _))) (oDec_at oX11_book 29 rfl) ?_
    refine r_callVv C oCl2 rfl miX2_follow mlX11_128 (ct_X2_follow l E ((pR (pR u5 0 4 (b1 + 1)) 0 5 (b8 + 1))) b1 hkb1 ) (by decide) rfl rfl rfl (Nat.le_of_ble_eq_true rfl) (oDec_at oX11_book 30 rfl) (fun u11 pu11 fu11 => ?_)
    try dsimp only at pu11
    refine r_aload_n C (j := 0) (oDec_at oX11_book 31 rfl) rfl rfl ?_
    refine r_callVv C oCl11 rfl miX11_forget mlX11_131 (ct_X11_forget l E (u11)  ) (by decide) rfl rfl rfl (Nat.le_of_ble_eq_true rfl) (oDec_at oX11_book 32 rfl) (fun u13 pu13 fu13 => ?_)
    try dsimp only at pu13
    refine r_iload_n C (j := 1) (oDec_at oX11_book 33 rfl) rfl rfl ?_
    have lk15 : ((u13).1 1 1).toInt = (u5.1 1 1).toInt := congrArg Int32.toInt (((fu13 1 1 rfl).1).trans (((fu11 1 1 rfl).1).trans ((show ((pR (pR u5 0 4 (b1 + 1)) 0 5 (b8 + 1))).1 1 1 = u5.1 1 1 from (show ((pR u5 0 4 (b1 + 1))).1 1 1 = u5.1 1 1 from rfl)))))
    have lk16 : ((u13).1 30 8).toInt = (u2.1 30 8).toInt := congrArg Int32.toInt (((fu13 30 8 rfl).1).trans (((fu11 30 8 rfl).1).trans ((show ((pR (pR u5 0 4 (b1 + 1)) 0 5 (b8 + 1))).1 30 8 = u2.1 30 8 from (show ((pR u5 0 4 (b1 + 1))).1 30 8 = u2.1 30 8 from (fu5 30 8 rfl).1)))))
    have lk17 : ((u13).1 30 9).toInt = (u2.1 30 9).toInt := congrArg Int32.toInt (((fu13 30 9 rfl).1).trans (((fu11 30 9 rfl).1).trans ((show ((pR (pR u5 0 4 (b1 + 1)) 0 5 (b8 + 1))).1 30 9 = u2.1 30 9 from (show ((pR u5 0 4 (b1 + 1))).1 30 9 = u2.1 30 9 from (fu5 30 9 rfl).1)))))
    exact r_iret C (oDec_at oX11_book 34 rfl) ⟨_, rfl, ⟨by omega, by omega, by omega, by omega⟩⟩
  · skip
    refine r_iconst C (oDec_at oX11_book 14 rfl) (v := km1) (by rw [qkm1]; rfl) ?_
    have lk18 : ((u5).1 30 8).toInt = (u2.1 30 8).toInt := congrArg Int32.toInt ((fu5 30 8 rfl).1)
    have lk19 : ((u5).1 30 9).toInt = (u2.1 30 9).toInt := congrArg Int32.toInt ((fu5 30 9 rfl).1)
    exact r_iret C (oDec_at oX11_book 15 rfl) ⟨_, rfl, ⟨by omega, by omega, by omega, by omega⟩⟩
