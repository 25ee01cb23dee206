set_option maxHeartbeats 4000000 in
set_option maxRecDepth 100000 in
theorem ct7_X12_sums (l : Launch) (E : oE) (s : oS)  (x : Nat) (B : Nat) (g : Int → Int) (fp : Int) (fq : Int) (cz : oqCf) (kx : Nat) (hp0 : oQ 9999 x s) (hp1 : (s.1 71 5).toInt = 0) (hp2 : 0 ≤ (s.1 71 48).toInt ∧ (s.1 71 48).toInt ≤ 6) (hp3 : (s.1 71 45).toInt + (s.1 71 47).toInt + 5 ≤ (s.1 71 2).toInt) (hp4 : (s.1 71 47).toInt = (B : Int)) (hp5 : oqJ g fp fq cz kx B 1 s) (hp6 : oqZ g s) (hp7 : oqWd s) (hp8 : oqMo fp fq s) (hp9 : oqBP s) : oMet l 6 yX12_sums cX12_sums 3 none [(12, 2), (12, 4), (12, 5), (12, 6), (12, 9), (12, 45), (12, 47), (12, 48), (12, 55), (78, 9999), (79, 9999)] E s [.ref (oad E 71)] (oPv (fun u => (oQ 9999 (x + 1) u) ∧ (0 ≤ (u.1 71 48).toInt ∧ (u.1 71 48).toInt ≤ 6) ∧ ((s.1 71 2).toInt - (s.1 71 45).toInt - (s.1 71 47).toInt ≤ (u.1 71 2).toInt - (u.1 71 45).toInt - (u.1 71 47).toInt + 1) ∧ ((u.1 71 5).toInt = 0 → ((s.1 71 2).toInt - (s.1 71 45).toInt - (s.1 71 47).toInt ≤ (u.1 71 2).toInt - (u.1 71 45).toInt - (u.1 71 47).toInt ∧ (s.1 71 2).toInt + 1 ≤ (u.1 71 2).toInt)) ∧ ((s.1 71 2).toInt ≤ (u.1 71 2).toInt) ∧ (oqJ g fp fq cz kx B 3 u) ∧ (oqSe g B u) ∧ (oqBP u))) := by
  refine oMet.of (lv := [(0, .ref (oad E 71))]) (by decide +kernel) (Nat.le_of_ble_eq_true rfl) rfl (fun J C hT => ?_)
  have C : oC l 6 cX12_sums RX12 3 none [(12, 2), (12, 4), (12, 5), (12, 6), (12, 9), (12, 45), (12, 47), (12, 48), (12, 55), (78, 9999), (79, 9999)] E s (oPv (fun u => (oQ 9999 (x + 1) u) ∧ (0 ≤ (u.1 71 48).toInt ∧ (u.1 71 48).toInt ≤ 6) ∧ ((s.1 71 2).toInt - (s.1 71 45).toInt - (s.1 71 47).toInt ≤ (u.1 71 2).toInt - (u.1 71 45).toInt - (u.1 71 47).toInt + 1) ∧ ((u.1 71 5).toInt = 0 → ((s.1 71 2).toInt - (s.1 71 45).toInt - (s.1 71 47).toInt ≤ (u.1 71 2).toInt - (u.1 71 45).toInt - (u.1 71 47).toInt ∧ (s.1 71 2).toInt + 1 ≤ (u.1 71 2).toInt)) ∧ ((s.1 71 2).toInt ≤ (u.1 71 2).toInt) ∧ (oqJ g fp fq cz kx B 3 u) ∧ (oqSe g B u) ∧ (oqBP u))) J := C
  obtain ⟨k0, qk0⟩ : ∃ z : Int32, z = 0 := ⟨_, rfl⟩
  have ek0 : k0.toInt = 0 := by rw [qk0]; rfl
  obtain ⟨k1, qk1⟩ : ∃ z : Int32, z = 1 := ⟨_, rfl⟩
  have ek1 : k1.toInt = 1 := by rw [qk1]; rfl
  have hBn := n_nat (s.1 71 47)
  have hB : B = (s.1 71 47).toNatClampNeg := by omega
  have htz_waits : (0 : Int) ≤ (s.1 71 47).toInt ∧ (s.1 71 47).toInt ≤ 1700 := hT.1 71 47
  have htz_coded : (0 : Int) ≤ (s.1 71 45).toInt ∧ (s.1 71 45).toInt ≤ 1600 := hT.1 71 45
  have htz_at : (0 : Int) ≤ (s.1 71 2).toInt ∧ (s.1 71 2).toInt ≤ 1600 := hT.1 71 2
  have htz_base : (0 : Int) ≤ (s.1 71 55).toInt ∧ (s.1 71 55).toInt ≤ 1700 := hT.1 71 55
  have key : ∀ n : Nat, (∀ (t : oS) (x1 : Int32) (x2 : Int32), (x2.toInt = 1 → oQ B x t) → (x2.toInt = 0 → (oQ B (x + 1) t ∧ oMn t)) → ((t.1 71 55).toInt = (B : Int)) → (0 ≤ (t.1 71 48).toInt ∧ (t.1 71 48).toInt ≤ 6) → ((s.1 71 2).toInt - (s.1 71 45).toInt - (s.1 71 47).toInt ≤ (t.1 71 2).toInt - (t.1 71 45).toInt - (t.1 71 47).toInt + 1) → ((t.1 71 5).toInt = 0 → (s.1 71 2).toInt - (s.1 71 45).toInt - (s.1 71 47).toInt ≤ (t.1 71 2).toInt - (t.1 71 45).toInt - (t.1 71 47).toInt) → ((s.1 71 2).toInt ≤ (t.1 71 2).toInt) → (0 ≤ x2.toInt ∧ x2.toInt ≤ 1) → ((x2.toInt = 0 ∧ (t.1 71 5).toInt = 0) → (s.1 71 2).toInt + 1 ≤ (t.1 71 2).toInt) → (0 ≤ x1.toInt ∧ x1.toInt ≤ 1700) → (x2.toInt = 1 → oqJ g fp fq cz kx B 1 t) → (x2.toInt = 0 → (oqJ g fp fq cz kx B 3 t ∧ oqGe g t)) → ((s.1 71 47).toInt = (B : Int)) → (oqZ g t) → (oqWd t) → (oqMo fp fq t) → (oqBP t) → 4000 * (1602 - (t.1 71 2).toInt) + x2.toInt ≤ (n : Int) → J t 15 [(0, .ref (oad E 71)), (1, .int x1), (2, .int x2)] []) ∧ (∀ (t : oS) (x1 : Int32), (oQ B (x + 1) t) → (oMn t) → ((t.1 71 55).toInt = (B : Int)) → (0 ≤ (t.1 71 48).toInt ∧ (t.1 71 48).toInt ≤ 6) → ((s.1 71 2).toInt - (s.1 71 45).toInt - (s.1 71 47).toInt ≤ (t.1 71 2).toInt - (t.1 71 45).toInt - (t.1 71 47).toInt + 1) → ((t.1 71 5).toInt = 0 → ((s.1 71 2).toInt - (s.1 71 45).toInt - (s.1 71 47).toInt ≤ (t.1 71 2).toInt - (t.1 71 45).toInt - (t.1 71 47).toInt ∧ (s.1 71 2).toInt + 1 ≤ (t.1 71 2).toInt)) → ((s.1 71 2).toInt ≤ (t.1 71 2).toInt) → (0 ≤ x1.toInt ∧ x1.toInt ≤ 1700) → (oqJ g fp fq cz kx B 3 t) → (oqGe g t) → ((s.1 71 47).toInt = (B : Int) ∧ (t.1 71 2).toInt = (t.1 71 2).toInt) → (oqZ g t) → (oqWd t) → (oqMo fp fq t) → (oqBP t) → (t.1 71 47).toInt + 1 ≤ (n : Int) → J t 53 [(0, .ref (oad E 71)), (1, .int x1)] []) := by
    intro n
    induction n using Nat.strongRecOn with
    | _ n ih =>
      refine ⟨?_, ?_⟩
      · intro t x1 x2  iv0 iv1 iv2 iv3 iv4 iv5 iv6 iv7 iv8 iv9 iv10 iv11 iv12 iv13 iv14 iv15 iv16 hmu
        have rx1 := n_rng x1
        have rx2 := n_rng x2
        refine r_ty C (fun hty => ?_)
        have hty_coded : (0 : Int) ≤ ((t).1 71 45).toInt ∧ ((t).1 71 45).toInt ≤ 1600 := hty.1 71 45
        have hty_waits : (0 : Int) ≤ ((t).1 71 47).toInt ∧ ((t).1 71 47).toInt ≤ 1700 := hty.1 71 47
        have hty_at : (0 : Int) ≤ ((t).1 71 2).toInt ∧ ((t).1 71 2).toInt ≤ 1600 := hty.1 71 2
        clear hty
        refine r_iload_n C (j := 2) (oDec_at oX12_sums 9 rfl) rfl rfl ?_
        refine r_if_eq C 53 (oDec_at oX12_sums 10 rfl) (by decide) (fun cd1 => ?_) (fun cd1 => ?_)
        · skip
          refine r_pick C [0, 1] rfl ?_
          exact (ih (n - 1) (by omega)).2 (t) x1  (by first | exact (by assumption) | exact (iv1 (by omega)).1 | exact oQ_bad (iv0 (by omega)) (by omega)) (by first | exact (by assumption) | exact (iv1 (by omega)).2 | exact fun hb => by exfalso; omega) (by omega) (by omega) (by omega) (by omega) (by omega) (by omega) (by first | exact (by assumption) | exact (iv11 (by omega)).1 | exact oqJ_kp (iv10 (by omega)) (by omega) rfl rfl) (by first | exact (by assumption) | exact (iv11 (by omega)).2 | exact oqGe_mv iv9 (by omega) (by omega) | exact oqGe_b (by omega)) (by omega) iv13 iv14 iv15 iv16 (by omega)
        · skip
          refine r_aload_n C (j := 0) (oDec_at oX12_sums 11 rfl) rfl rfl ?_
          obtain ⟨v2, ev2⟩ : ∃ z : Int32, (t).1 71 5 = z := ⟨_, rfl⟩
          have gv2 : (t.1 71 5).toInt = v2.toInt := congrArg Int32.toInt (ev2)
          have rv2 := n_rng v2
          refine r_geti (k := 5) (lo := (-2147483648)) (hi := 2147483647) C v2 oCl12 rfl (by decide) flX12_173 rfl rfl (ev2) rfl rfl (oDec_at oX12_sums 12 rfl) (fun _ _ => ?_)
          refine r_if_ne C 53 (oDec_at oX12_sums 13 rfl) (by decide) (fun cd3 => ?_) (fun cd3 => ?_)
          · skip
            have lk4 : ((t).1 71 5).toInt = v2.toInt := congrArg Int32.toInt (ev2)
            refine r_pick C [0, 1] rfl ?_
            exact (ih (n - 1) (by omega)).2 (t) x1  (by first | exact (by assumption) | exact (iv1 (by omega)).1 | exact oQ_bad (iv0 (by omega)) (by omega)) (by first | exact (by assumption) | exact (iv1 (by omega)).2 | exact fun hb => by exfalso; omega) (by omega) (by omega) (by omega) (by omega) (by omega) (by omega) (by first | exact (by assumption) | exact (iv11 (by omega)).1 | exact oqJ_kp (iv10 (by omega)) (by omega) rfl rfl) (by first | exact (by assumption) | exact (iv11 (by omega)).2 | exact oqGe_mv iv9 (by omega) (by omega) | exact oqGe_b (by omega)) (by omega) iv13 iv14 iv15 iv16 (by omega)
          · skip
            have hq5 : oQ B x (t) := iv0 (by omega)
            have hq6 : oqJ g fp fq cz kx B 1 (t) := iv10 (by omega)
            refine r_aload_n C (j := 0) (oDec_at oX12_sums 14 rfl) rfl rfl ?_
            have lk7 : ((t).1 71 5).toInt = v2.toInt := congrArg Int32.toInt (ev2)
            refine r_callVv C oCl12 rfl miX12_onePart mlX12_313 (ct7_X12_onePart l E (t)  (B) (x) (g) (fp) (fq) (cz) (kx) hq5 (by omega) (by omega) (by omega) (by omega) hq6 iv13 iv14 iv15 iv16) (by decide) rfl rfl rfl (Nat.le_of_ble_eq_true rfl) (oDec_at oX12_sums 15 rfl) (fun u8 pu8 fu8 => ?_)
            try dsimp only at pu8
            try simp only [lk7] at pu8
            obtain ⟨pu8_0, pu8_1, pu8_2, pu8_3, pu8_4, pu8_5, pu8_6⟩ := pu8
            refine r_aload_n C (j := 0) (oDec_at oX12_sums 16 rfl) rfl rfl ?_
            obtain ⟨v10, ev10⟩ : ∃ z : Int32, (u8).1 71 5 = z := ⟨_, rfl⟩
            have gv10 : (u8.1 71 5).toInt = v10.toInt := congrArg Int32.toInt (ev10)
            have rv10 := n_rng v10
            refine r_geti (k := 5) (lo := (-2147483648)) (hi := 2147483647) C v10 oCl12 rfl (by decide) flX12_173 rfl rfl (ev10) rfl rfl (oDec_at oX12_sums 17 rfl) (fun _ _ => ?_)
            refine r_if_ne C 48 (oDec_at oX12_sums 18 rfl) (by decide) (fun cd11 => ?_) (fun cd11 => ?_)
            · skip
              have lk12 : ((u8).1 71 5).toInt = v10.toInt := congrArg Int32.toInt (ev10)
              have hq13 : oqJ g fp fq cz kx B 3 (u8) := pu8_5
              have hq14 : oqGe g (u8) := (by first | exact (by assumption) | exact oqGe_b (by omega))
              refine r_iconst C (oDec_at oX12_sums 24 rfl) (v := k0) (by rw [qk0]; rfl) ?_
              refine r_istore_n C (lv' := [(0, .ref (oad E 71)), (1, .int x1), (2, .int k0)]) [1, 2, 0] (oDec_at oX12_sums 25 rfl) rfl (by decide) rfl ?_
              refine r_goto C (tgt := 15) (oDec_at oX12_sums 26 rfl) (by decide) ?_
              have lk15 : ((u8).1 71 55).toInt = (t.1 71 55).toInt := congrArg Int32.toInt ((fu8 71 55 rfl).1)
              have lk16 : ((u8).1 71 5).toInt = v10.toInt := congrArg Int32.toInt (ev10)
              have lk17 : ((u8).1 71 5).toInt = v10.toInt := congrArg Int32.toInt (ev10)
              exact (ih (n - 1) (by omega)).1 (u8) x1 k0  (by first | exact fun _ => (by assumption) | (intro h; exfalso; omega)) (by first | (intro h; exfalso; omega) | exact fun _ => pu8_2 (by omega) | exact fun _ => ⟨pu8_0, fun hb => by exfalso; omega⟩) (by omega) (by omega) (by omega) (by omega) (by omega) (by omega) (by omega) (by omega) (by first | (intro h; exfalso; omega) | exact fun _ => (by assumption)) (by first | (intro h; exfalso; omega) | exact fun _ => ⟨hq13, hq14⟩) (by omega) (oqZ_fr fu8 rfl iv13) (oqWd_fr fu8 rfl iv14) (oqMo_fr fu8 rfl iv15) pu8_6 (by omega)
            · skip
              refine r_aload_n C (j := 0) (oDec_at oX12_sums 19 rfl) rfl rfl ?_
              have lk18 : ((u8).1 71 55).toInt = (t.1 71 55).toInt := congrArg Int32.toInt ((fu8 71 55 rfl).1)
              have lk19 : ((u8).1 71 5).toInt = v10.toInt := congrArg Int32.toInt (ev10)
              refine r_callVi C oCl12 rfl miX12_goesOn mlX12_316 (ct7_X12_goesOn l E (u8)  (B) (x) (g) (fp) (fq) (cz) (kx) pu8_0 (by omega) (by omega) (by omega) (by omega) (by omega) pu8_5 (oqZ_fr fu8 rfl iv13) pu8_6) (by decide) rfl rfl rfl (Nat.le_of_ble_eq_true rfl) (oDec_at oX12_sums 20 rfl) (fun r21 u20 pu20 fu20 => ?_)
              try dsimp only at pu20
              try simp only [lk18, lk19] at pu20
              obtain ⟨pu20_0, pu20_1, pu20_2, pu20_3, pu20_4, pu20_5, pu20_6, pu20_7, pu20_8, pu20_9⟩ := pu20
              have rr21 := n_rng r21
              refine r_if_eq C 48 (oDec_at oX12_sums 21 rfl) (by decide) (fun cd22 => ?_) (fun cd22 => ?_)
              · skip
                clear pu20_6
                replace pu20_7 := pu20_7 (by omega)
                replace pu20_8 := pu20_8 (by omega)
                have hq23 : oqJ g fp fq cz kx B 3 (u20) := (by assumption)
                have hq24 : oqGe g (u20) := (by first | exact (by assumption) | exact oqGe_b (by omega))
                refine r_iconst C (oDec_at oX12_sums 24 rfl) (v := k0) (by rw [qk0]; rfl) ?_
                refine r_istore_n C (lv' := [(0, .ref (oad E 71)), (1, .int x1), (2, .int k0)]) [1, 2, 0] (oDec_at oX12_sums 25 rfl) rfl (by decide) rfl ?_
                refine r_goto C (tgt := 15) (oDec_at oX12_sums 26 rfl) (by decide) ?_
                have lk25 : ((u20).1 71 55).toInt = (t.1 71 55).toInt := congrArg Int32.toInt (((fu20 71 55 rfl).1).trans ((fu8 71 55 rfl).1))
                exact (ih (n - 1) (by omega)).1 (u20) x1 k0  (by first | exact fun _ => (by assumption) | (intro h; exfalso; omega)) (by first | (intro h; exfalso; omega) | exact fun _ => pu20_2 (by omega) | exact fun _ => ⟨(by assumption), fun hb => by exfalso; omega⟩) (by omega) (by omega) (by omega) (by omega) (by omega) (by omega) (by omega) (by omega) (by first | (intro h; exfalso; omega) | exact fun _ => (by assumption)) (by first | (intro h; exfalso; omega) | exact fun _ => ⟨hq23, hq24⟩) (by omega) (oqZ_fr fu20 rfl (oqZ_fr fu8 rfl iv13)) (oqWd_fr fu20 rfl (oqWd_fr fu8 rfl iv14)) (oqMo_fr fu20 rfl (oqMo_fr fu8 rfl iv15)) pu20_9 (by omega)
              · skip
                replace pu20_6 := pu20_6 (by omega)
                clear pu20_7
                clear pu20_8
                have hq26 : oQ B x (u20) := pu20_1 (by omega)
                have hq27 : oqJ g fp fq cz kx B 1 (u20) := pu20_6
                refine r_iconst C (oDec_at oX12_sums 22 rfl) (v := k1) (by rw [qk1]; rfl) ?_
                refine r_goto C (tgt := 49) (oDec_at oX12_sums 23 rfl) (by decide) ?_
                refine r_istore_n C (lv' := [(0, .ref (oad E 71)), (1, .int x1), (2, .int k1)]) [1, 2, 0] (oDec_at oX12_sums 25 rfl) rfl (by decide) rfl ?_
                refine r_goto C (tgt := 15) (oDec_at oX12_sums 26 rfl) (by decide) ?_
                have lk28 : ((u20).1 71 55).toInt = (t.1 71 55).toInt := congrArg Int32.toInt (((fu20 71 55 rfl).1).trans ((fu8 71 55 rfl).1))
                exact (ih (n - 1) (by omega)).1 (u20) x1 k1  (by first | exact fun _ => hq26 | (intro h; exfalso; omega)) (by first | (intro h; exfalso; omega) | exact fun _ => pu20_2 (by omega) | exact fun _ => ⟨(by assumption), fun hb => by exfalso; omega⟩) (by omega) (by omega) (by omega) (by omega) (by omega) (by omega) (by omega) (by omega) (by first | (intro h; exfalso; omega) | exact fun _ => hq27) (by first | (intro h; exfalso; omega) | exact fun _ => ⟨(by assumption), (by assumption)⟩) (by omega) (oqZ_fr fu20 rfl (oqZ_fr fu8 rfl iv13)) (oqWd_fr fu20 rfl (oqWd_fr fu8 rfl iv14)) (oqMo_fr fu20 rfl (oqMo_fr fu8 rfl iv15)) pu20_9 (by omega)
      · intro t x1  iv0 iv1 iv2 iv3 iv4 iv5 iv6 iv7 iv8 iv9 iv10 iv11 iv12 iv13 iv14 hmu
        have rx1 := n_rng x1
        refine r_ty C (fun hty => ?_)
        have hty_coded : (0 : Int) ≤ ((t).1 71 45).toInt ∧ ((t).1 71 45).toInt ≤ 1600 := hty.1 71 45
        have hty_waits : (0 : Int) ≤ ((t).1 71 47).toInt ∧ ((t).1 71 47).toInt ≤ 1700 := hty.1 71 47
        have hty_at : (0 : Int) ≤ ((t).1 71 2).toInt ∧ ((t).1 71 2).toInt ≤ 1600 := hty.1 71 2
        clear hty
        refine r_aload_n C (j := 0) (oDec_at oX12_sums 27 rfl) rfl rfl ?_
        obtain ⟨v29, ev29⟩ : ∃ z : Int32, (t).1 71 5 = z := ⟨_, rfl⟩
        have gv29 : (t.1 71 5).toInt = v29.toInt := congrArg Int32.toInt (ev29)
        have rv29 := n_rng v29
        refine r_geti (k := 5) (lo := (-2147483648)) (hi := 2147483647) C v29 oCl12 rfl (by decide) flX12_173 rfl rfl (ev29) rfl rfl (oDec_at oX12_sums 28 rfl) (fun _ _ => ?_)
        refine r_if_ne C 78 (oDec_at oX12_sums 29 rfl) (by decide) (fun cd30 => ?_) (fun cd30 => ?_)
        · skip
          have lk31 : ((t).1 71 5).toInt = v29.toInt := congrArg Int32.toInt (ev29)
          have hbw : ((t).1 71 5).toInt = 0 → (B : Int) ≤ ((t).1 71 47).toInt := fun h9 => by have h8 := ((iv8).1 h9).2.2; have h7 := n_nat ((t).1 71 47); omega
          have hq32 : oQ 9999 (x + 1) (t) := oQ_ST iv0 (by omega)
          refine r_aload_n C (j := 0) (oDec_at oX12_sums 38 rfl) rfl rfl ?_
          refine r_iload_n C (j := 1) (oDec_at oX12_sums 39 rfl) rfl rfl ?_
          refine r_puti (k := 55) (lo := 0) (hi := 1700) C oCl12 rfl (by decide) flX12_283 rfl rfl rfl rfl rfl rfl rfl rfl ⟨by omega, by omega⟩ (oDec_at oX12_sums 40 rfl) ?_
          have lk33 : (((pI t 71 55 x1)).1 71 47).toInt = (t.1 71 47).toInt := congrArg Int32.toInt ((pI_ne (a := 71) (b := 47) (c := 71) (k := 55) _ _ (Or.inr (by decide))))
          have lk34 : (((pI t 71 55 x1)).1 71 5).toInt = v29.toInt := congrArg Int32.toInt (((pI_ne (a := 71) (b := 5) (c := 71) (k := 55) _ _ (Or.inr (by decide)))).trans (ev29))
          have hq35 : oqSe g B ((pI t 71 55 x1)) := oqSe_of (oqGe_fr (oFr_oneI (q := 12) (m := 55) rfl (by rfl)) rfl iv9) (fun h9 => by omega)
          have lk36 : (((pI t 71 55 x1)).1 71 48).toInt = (t.1 71 48).toInt := congrArg Int32.toInt ((pI_ne (a := 71) (b := 48) (c := 71) (k := 55) _ _ (Or.inr (by decide))))
          have lk37 : (((pI t 71 55 x1)).1 71 2).toInt = (t.1 71 2).toInt := congrArg Int32.toInt ((pI_ne (a := 71) (b := 2) (c := 71) (k := 55) _ _ (Or.inr (by decide))))
          have lk38 : (((pI t 71 55 x1)).1 71 45).toInt = (t.1 71 45).toInt := congrArg Int32.toInt ((pI_ne (a := 71) (b := 45) (c := 71) (k := 55) _ _ (Or.inr (by decide))))
          have lk39 : (((pI t 71 55 x1)).1 71 47).toInt = (t.1 71 47).toInt := congrArg Int32.toInt ((pI_ne (a := 71) (b := 47) (c := 71) (k := 55) _ _ (Or.inr (by decide))))
          have lk40 : (((pI t 71 55 x1)).1 71 5).toInt = v29.toInt := congrArg Int32.toInt (((pI_ne (a := 71) (b := 5) (c := 71) (k := 55) _ _ (Or.inr (by decide)))).trans (ev29))
          have lk41 : (((pI t 71 55 x1)).1 71 2).toInt = (t.1 71 2).toInt := congrArg Int32.toInt ((pI_ne (a := 71) (b := 2) (c := 71) (k := 55) _ _ (Or.inr (by decide))))
          have lk42 : (((pI t 71 55 x1)).1 71 45).toInt = (t.1 71 45).toInt := congrArg Int32.toInt ((pI_ne (a := 71) (b := 45) (c := 71) (k := 55) _ _ (Or.inr (by decide))))
          have lk43 : (((pI t 71 55 x1)).1 71 47).toInt = (t.1 71 47).toInt := congrArg Int32.toInt ((pI_ne (a := 71) (b := 47) (c := 71) (k := 55) _ _ (Or.inr (by decide))))
          have lk44 : (((pI t 71 55 x1)).1 71 2).toInt = (t.1 71 2).toInt := congrArg Int32.toInt ((pI_ne (a := 71) (b := 2) (c := 71) (k := 55) _ _ (Or.inr (by decide))))
          exact r_vret C (oDec_at oX12_sums 41 rfl) ⟨rfl, ⟨(oQ_fr (oFr_oneI (q := 12) (m := 55) rfl (by rfl)) rfl hq32), by omega, by omega, by omega, by omega, (oqJ_fr (oFr_oneI (q := 12) (m := 55) rfl (by rfl)) rfl iv8), hq35, (oqBP_fr (oFr_oneI (q := 12) (m := 55) rfl (by rfl)) rfl iv14)⟩⟩
        · skip
          refine r_aload_n C (j := 0) (oDec_at oX12_sums 30 rfl) rfl rfl ?_
          obtain ⟨v45, ev45⟩ : ∃ z : Int32, (t).1 71 47 = z := ⟨_, rfl⟩
          have gv45 : (t.1 71 47).toInt = v45.toInt := congrArg Int32.toInt (ev45)
          refine r_geti (k := 47) (lo := 0) (hi := 1700) C v45 oCl12 rfl (by decide) flX12_277 rfl rfl (ev45) rfl rfl (oDec_at oX12_sums 31 rfl) (fun b46 b46h => ?_)
          refine r_aload_n C (j := 0) (oDec_at oX12_sums 32 rfl) rfl rfl ?_
          obtain ⟨v47, ev47⟩ : ∃ z : Int32, (t).1 71 55 = z := ⟨_, rfl⟩
          have gv47 : (t.1 71 55).toInt = v47.toInt := congrArg Int32.toInt (ev47)
          refine r_geti (k := 55) (lo := 0) (hi := 1700) C v47 oCl12 rfl (by decide) flX12_283 rfl rfl (ev47) rfl rfl (oDec_at oX12_sums 33 rfl) (fun b48 b48h => ?_)
          refine r_icmp_le C 78 (oDec_at oX12_sums 34 rfl) (by decide) (fun cd49 => ?_) (fun cd49 => ?_)
          · skip
            have lk50 : ((t).1 71 5).toInt = v29.toInt := congrArg Int32.toInt (ev29)
            have lk51 : ((t).1 71 47).toInt = v45.toInt := congrArg Int32.toInt (ev45)
            have lk52 : ((t).1 71 55).toInt = v47.toInt := congrArg Int32.toInt (ev47)
            have hbw : ((t).1 71 5).toInt = 0 → (B : Int) ≤ ((t).1 71 47).toInt := fun h9 => by have h8 := ((iv8).1 h9).2.2; have h7 := n_nat ((t).1 71 47); omega
            have hq53 : oQ 9999 (x + 1) (t) := oQ_ST iv0 (by omega)
            refine r_aload_n C (j := 0) (oDec_at oX12_sums 38 rfl) rfl rfl ?_
            refine r_iload_n C (j := 1) (oDec_at oX12_sums 39 rfl) rfl rfl ?_
            refine r_puti (k := 55) (lo := 0) (hi := 1700) C oCl12 rfl (by decide) flX12_283 rfl rfl rfl rfl rfl rfl rfl rfl ⟨by omega, by omega⟩ (oDec_at oX12_sums 40 rfl) ?_
            have lk54 : (((pI t 71 55 x1)).1 71 47).toInt = v45.toInt := congrArg Int32.toInt (((pI_ne (a := 71) (b := 47) (c := 71) (k := 55) _ _ (Or.inr (by decide)))).trans (ev45))
            have lk55 : (((pI t 71 55 x1)).1 71 5).toInt = v29.toInt := congrArg Int32.toInt (((pI_ne (a := 71) (b := 5) (c := 71) (k := 55) _ _ (Or.inr (by decide)))).trans (ev29))
            have hq56 : oqSe g B ((pI t 71 55 x1)) := oqSe_of (oqGe_fr (oFr_oneI (q := 12) (m := 55) rfl (by rfl)) rfl iv9) (fun h9 => by omega)
            have lk57 : (((pI t 71 55 x1)).1 71 48).toInt = (t.1 71 48).toInt := congrArg Int32.toInt ((pI_ne (a := 71) (b := 48) (c := 71) (k := 55) _ _ (Or.inr (by decide))))
            have lk58 : (((pI t 71 55 x1)).1 71 2).toInt = (t.1 71 2).toInt := congrArg Int32.toInt ((pI_ne (a := 71) (b := 2) (c := 71) (k := 55) _ _ (Or.inr (by decide))))
            have lk59 : (((pI t 71 55 x1)).1 71 45).toInt = (t.1 71 45).toInt := congrArg Int32.toInt ((pI_ne (a := 71) (b := 45) (c := 71) (k := 55) _ _ (Or.inr (by decide))))
            have lk60 : (((pI t 71 55 x1)).1 71 47).toInt = v45.toInt := congrArg Int32.toInt (((pI_ne (a := 71) (b := 47) (c := 71) (k := 55) _ _ (Or.inr (by decide)))).trans (ev45))
            have lk61 : (((pI t 71 55 x1)).1 71 5).toInt = v29.toInt := congrArg Int32.toInt (((pI_ne (a := 71) (b := 5) (c := 71) (k := 55) _ _ (Or.inr (by decide)))).trans (ev29))
            have lk62 : (((pI t 71 55 x1)).1 71 2).toInt = (t.1 71 2).toInt := congrArg Int32.toInt ((pI_ne (a := 71) (b := 2) (c := 71) (k := 55) _ _ (Or.inr (by decide))))
            have lk63 : (((pI t 71 55 x1)).1 71 45).toInt = (t.1 71 45).toInt := congrArg Int32.toInt ((pI_ne (a := 71) (b := 45) (c := 71) (k := 55) _ _ (Or.inr (by decide))))
            have lk64 : (((pI t 71 55 x1)).1 71 47).toInt = v45.toInt := congrArg Int32.toInt (((pI_ne (a := 71) (b := 47) (c := 71) (k := 55) _ _ (Or.inr (by decide)))).trans (ev45))
            have lk65 : (((pI t 71 55 x1)).1 71 2).toInt = (t.1 71 2).toInt := congrArg Int32.toInt ((pI_ne (a := 71) (b := 2) (c := 71) (k := 55) _ _ (Or.inr (by decide))))
            exact r_vret C (oDec_at oX12_sums 41 rfl) ⟨rfl, ⟨(oQ_fr (oFr_oneI (q := 12) (m := 55) rfl (by rfl)) rfl hq53), by omega, by omega, by omega, by omega, (oqJ_fr (oFr_oneI (q := 12) (m := 55) rfl (by rfl)) rfl iv8), hq56, (oqBP_fr (oFr_oneI (q := 12) (m := 55) rfl (by rfl)) rfl iv14)⟩⟩
          · skip
            have hnt := oMk_nt (iv1 (by omega)) (by omega) (by omega)
            have h14 := oQ_topS iv0 (by omega) (by omega) (by omega)
            refine r_aload_n C (j := 0) (oDec_at oX12_sums 35 rfl) rfl rfl ?_
            have lk66 : ((t).1 71 47).toInt = v45.toInt := congrArg Int32.toInt (ev45)
            have lk67 : ((t).1 71 47).toInt = v45.toInt := congrArg Int32.toInt (ev45)
            refine r_callVv C oCl12 rfl miX12_drops mlX12_289 (ct_X12_drops l E (t)  (by omega) (by omega)) (by decide) rfl rfl rfl (Nat.le_of_ble_eq_true rfl) (oDec_at oX12_sums 36 rfl) (fun u68 pu68 fu68 => ?_)
            try dsimp only at pu68
            try simp only [lk66, lk67] at pu68
            obtain ⟨pu68_0, pu68_1, pu68_2⟩ := pu68
            have lk70 : ((u68).1 71 2).toInt = (t.1 71 2).toInt := congrArg Int32.toInt ((fu68 71 2 rfl).1)
            have lk71 : ((u68).1 71 6).toInt = (t.1 71 6).toInt := congrArg Int32.toInt ((fu68 71 6 rfl).1)
            have lk72 : ((u68).1 71 5).toInt = v29.toInt := congrArg Int32.toInt (((fu68 71 5 rfl).1).trans (ev29))
            have hq73 : oQ B (x + 1) (u68) := oQ_drop iv0 pu68_0 (by omega) (by omega) (by omega) (by omega)
            have hq74 : oMn (u68) := oMn_drop iv1 pu68_0 (by omega) (by omega)
            have hq75 : oqJ g fp fq cz kx B 3 (u68) := oqJ_drop iv8 pu68_0 (by omega) (fun _ => by omega) (fun _ => oqCd_no (by omega))
            refine r_goto C (tgt := 53) (oDec_at oX12_sums 37 rfl) (by decide) ?_
            have lk76 : ((u68).1 71 55).toInt = v47.toInt := congrArg Int32.toInt (((fu68 71 55 rfl).1).trans (ev47))
            have lk77 : ((u68).1 71 48).toInt = (t.1 71 48).toInt := congrArg Int32.toInt ((fu68 71 48 rfl).1)
            have lk78 : ((u68).1 71 2).toInt = (t.1 71 2).toInt := congrArg Int32.toInt ((fu68 71 2 rfl).1)
            have lk79 : ((u68).1 71 5).toInt = v29.toInt := congrArg Int32.toInt (((fu68 71 5 rfl).1).trans (ev29))
            have lk80 : ((u68).1 71 2).toInt = (t.1 71 2).toInt := congrArg Int32.toInt ((fu68 71 2 rfl).1)
            have lk81 : ((u68).1 71 2).toInt = (t.1 71 2).toInt := congrArg Int32.toInt ((fu68 71 2 rfl).1)
            have lk82 : ((u68).1 71 2).toInt = (t.1 71 2).toInt := congrArg Int32.toInt ((fu68 71 2 rfl).1)
            exact (ih (n - 1) (by omega)).2 (u68) x1  (by first | exact hq73 | exact (iv1 (by omega)).1 | exact oQ_bad (iv0 (by omega)) (by omega)) (by first | exact hq74 | exact (iv1 (by omega)).2 | exact fun hb => by exfalso; omega) (by omega) (by omega) (by omega) (by omega) (by omega) (by omega) (by first | exact hq75 | exact (iv11 (by omega)).1 | exact oqJ_kp (iv10 (by omega)) (by omega) rfl rfl) (by first | exact (oqGe_fr fu68 rfl iv9) | exact (iv11 (by omega)).2 | exact oqGe_mv iv9 (by omega) (by omega) | exact oqGe_b (by omega)) (by omega) (oqZ_fr fu68 rfl iv11) (oqWd_fr fu68 rfl iv12) (oqMo_fr fu68 rfl iv13) (oqBP_fr fu68 rfl iv14) (by omega)
  refine r_aload_n C (j := 0) (oDec_at oX12_sums 0 rfl) rfl rfl ?_
  obtain ⟨v83, ev83⟩ : ∃ z : Int32, (s).1 71 55 = z := ⟨_, rfl⟩
  have gv83 : (s.1 71 55).toInt = v83.toInt := congrArg Int32.toInt (ev83)
  refine r_geti (k := 55) (lo := 0) (hi := 1700) C v83 oCl12 rfl (by decide) flX12_283 rfl rfl (ev83) rfl rfl (oDec_at oX12_sums 1 rfl) (fun b84 b84h => ?_)
  refine r_istore_n C (lv' := [(0, .ref (oad E 71)), (1, .int v83)]) [1, 0] (oDec_at oX12_sums 2 rfl) rfl (by decide) rfl ?_
  refine r_aload_n C (j := 0) (oDec_at oX12_sums 3 rfl) rfl rfl ?_
  refine r_aload_n C (j := 0) (oDec_at oX12_sums 4 rfl) rfl rfl ?_
  obtain ⟨v85, ev85⟩ : ∃ z : Int32, (s).1 71 47 = z := ⟨_, rfl⟩
  have gv85 : (s.1 71 47).toInt = v85.toInt := congrArg Int32.toInt (ev85)
  refine r_geti (k := 47) (lo := 0) (hi := 1700) C v85 oCl12 rfl (by decide) flX12_277 rfl rfl (ev85) rfl rfl (oDec_at oX12_sums 5 rfl) (fun b86 b86h => ?_)
  refine r_pc C 10 rfl ?_
  refine r_puti (k := 55) (lo := 0) (hi := 1700) C oCl12 rfl (by decide) flX12_283 rfl rfl rfl rfl rfl rfl rfl rfl ⟨by omega, by omega⟩ (oDec_at oX12_sums 6 rfl) ?_
  have hq87 : oQ B x ((pI s 71 55 v85)) := oQ_TS (oQ_fr (oFr_oneI (q := 12) (m := 55) rfl (by rfl)) rfl hp0) hB
  refine r_iconst C (oDec_at oX12_sums 7 rfl) (v := k1) (by rw [qk1]; rfl) ?_
  refine r_istore_n C (lv' := [(0, .ref (oad E 71)), (1, .int v83), (2, .int k1)]) [1, 2, 0] (oDec_at oX12_sums 8 rfl) rfl (by decide) rfl ?_
  have lk88 : (((pI s 71 55 v85)).1 71 55).toInt = v85.toInt := congrArg Int32.toInt ((pI_self _ _ _ _))
  have lk89 : (((pI s 71 55 v85)).1 71 48).toInt = (s.1 71 48).toInt := congrArg Int32.toInt ((pI_ne (a := 71) (b := 48) (c := 71) (k := 55) _ _ (Or.inr (by decide))))
  have lk90 : (((pI s 71 55 v85)).1 71 2).toInt = (s.1 71 2).toInt := congrArg Int32.toInt ((pI_ne (a := 71) (b := 2) (c := 71) (k := 55) _ _ (Or.inr (by decide))))
  have lk91 : (((pI s 71 55 v85)).1 71 45).toInt = (s.1 71 45).toInt := congrArg Int32.toInt ((pI_ne (a := 71) (b := 45) (c := 71) (k := 55) _ _ (Or.inr (by decide))))
  have lk92 : (((pI s 71 55 v85)).1 71 47).toInt = v85.toInt := congrArg Int32.toInt (((pI_ne (a := 71) (b := 47) (c := 71) (k := 55) _ _ (Or.inr (by decide)))).trans (ev85))
  have lk93 : (((pI s 71 55 v85)).1 71 5).toInt = (s.1 71 5).toInt := congrArg Int32.toInt ((pI_ne (a := 71) (b := 5) (c := 71) (k := 55) _ _ (Or.inr (by decide))))
  have lk94 : (((pI s 71 55 v85)).1 71 2).toInt = (s.1 71 2).toInt := congrArg Int32.toInt ((pI_ne (a := 71) (b := 2) (c := 71) (k := 55) _ _ (Or.inr (by decide))))
  have lk95 : (((pI s 71 55 v85)).1 71 45).toInt = (s.1 71 45).toInt := congrArg Int32.toInt ((pI_ne (a := 71) (b := 45) (c := 71) (k := 55) _ _ (Or.inr (by decide))))
  have lk96 : (((pI s 71 55 v85)).1 71 47).toInt = v85.toInt := congrArg Int32.toInt (((pI_ne (a := 71) (b := 47) (c := 71) (k := 55) _ _ (Or.inr (by decide)))).trans (ev85))
  have lk97 : (((pI s 71 55 v85)).1 71 2).toInt = (s.1 71 2).toInt := congrArg Int32.toInt ((pI_ne (a := 71) (b := 2) (c := 71) (k := 55) _ _ (Or.inr (by decide))))
  have lk98 : (((pI s 71 55 v85)).1 71 5).toInt = (s.1 71 5).toInt := congrArg Int32.toInt ((pI_ne (a := 71) (b := 5) (c := 71) (k := 55) _ _ (Or.inr (by decide))))
  have lk99 : (((pI s 71 55 v85)).1 71 2).toInt = (s.1 71 2).toInt := congrArg Int32.toInt ((pI_ne (a := 71) (b := 2) (c := 71) (k := 55) _ _ (Or.inr (by decide))))
  have lk100 : (((pI s 71 55 v85)).1 71 2).toInt = (s.1 71 2).toInt := congrArg Int32.toInt ((pI_ne (a := 71) (b := 2) (c := 71) (k := 55) _ _ (Or.inr (by decide))))
  exact (key (4000 * (1602 - (((pI s 71 55 v85)).1 71 2).toInt) + k1.toInt).toNat).1 ((pI s 71 55 v85)) v83 k1  (by first | exact fun _ => hq87 | (intro h; exfalso; omega)) (by first | (intro h; exfalso; omega) | exact fun _ => ⟨(by assumption), fun hb => by exfalso; omega⟩) (by omega) (by omega) (by omega) (by omega) (by omega) (by omega) (by omega) (by omega) (by first | (intro h; exfalso; omega) | exact fun _ => (oqJ_fr (oFr_oneI (q := 12) (m := 55) rfl (by rfl)) rfl hp5)) (by first | (intro h; exfalso; omega) | exact fun _ => ⟨(by assumption), (by assumption)⟩) (by omega) (oqZ_fr (oFr_oneI (q := 12) (m := 55) rfl (by rfl)) rfl hp6) (oqWd_fr (oFr_oneI (q := 12) (m := 55) rfl (by rfl)) rfl hp7) (oqMo_fr (oFr_oneI (q := 12) (m := 55) rfl (by rfl)) rfl hp8) (oqBP_fr (oFr_oneI (q := 12) (m := 55) rfl (by rfl)) rfl hp9) (by omega)
set_option maxHeartbeats 4000000 in
set_option maxRecDepth 100000 in
theorem ct7_X12_fact (l : Launch) (E : oE) (s : oS)  (g : Int → Int) (fp : Int) (fq : Int) (cz : oqCf) (hp0 : oQ 9999 0 s) (hp1 : (s.1 71 5).toInt = 0) (hp2 : 0 ≤ (s.1 71 48).toInt ∧ (s.1 71 48).toInt ≤ 6) (hp3 : (s.1 71 45).toInt + (s.1 71 47).toInt + 5 ≤ (s.1 71 2).toInt) (hp4 : oqTt g fp fq cz 0 s) (hp5 : oqSk g (s.1 71 2).toInt = (s.1 71 2).toInt ∧ g (s.1 71 2).toInt ≠ 91 ∧ oqWi g (s.1 71 2).toInt (s.1 71 4).toInt ≠ 9) (hp6 : oqZ g s) (hp7 : oqWd s) (hp8 : oqMo fp fq s) (hp9 : oqBP s) : oMet l 7 yX12_fact cX12_fact 2 none [(12, 2), (12, 4), (12, 5), (12, 6), (12, 9), (12, 45), (12, 47), (12, 48), (12, 55), (78, 9999), (79, 9999)] E s [.ref (oad E 71)] (oPv (fun u => (oQ 9999 1 u) ∧ (0 ≤ (u.1 71 48).toInt ∧ (u.1 71 48).toInt ≤ 6) ∧ ((s.1 71 2).toInt - (s.1 71 45).toInt - (s.1 71 47).toInt ≤ (u.1 71 2).toInt - (u.1 71 45).toInt - (u.1 71 47).toInt + 2) ∧ ((u.1 71 5).toInt = 0 → ((s.1 71 2).toInt - (s.1 71 45).toInt - (s.1 71 47).toInt ≤ (u.1 71 2).toInt - (u.1 71 45).toInt - (u.1 71 47).toInt ∧ (s.1 71 2).toInt + 1 ≤ (u.1 71 2).toInt)) ∧ ((s.1 71 2).toInt ≤ (u.1 71 2).toInt) ∧ (oqTt g fp fq cz 2 u) ∧ (oqBP u))) := by
  refine oMet.of (lv := [(0, .ref (oad E 71))]) (by decide +kernel) (Nat.le_of_ble_eq_true rfl) rfl (fun J C hT => ?_)
  have C : oC l 7 cX12_fact RX12 2 none [(12, 2), (12, 4), (12, 5), (12, 6), (12, 9), (12, 45), (12, 47), (12, 48), (12, 55), (78, 9999), (79, 9999)] E s (oPv (fun u => (oQ 9999 1 u) ∧ (0 ≤ (u.1 71 48).toInt ∧ (u.1 71 48).toInt ≤ 6) ∧ ((s.1 71 2).toInt - (s.1 71 45).toInt - (s.1 71 47).toInt ≤ (u.1 71 2).toInt - (u.1 71 45).toInt - (u.1 71 47).toInt + 2) ∧ ((u.1 71 5).toInt = 0 → ((s.1 71 2).toInt - (s.1 71 45).toInt - (s.1 71 47).toInt ≤ (u.1 71 2).toInt - (u.1 71 45).toInt - (u.1 71 47).toInt ∧ (s.1 71 2).toInt + 1 ≤ (u.1 71 2).toInt)) ∧ ((s.1 71 2).toInt ≤ (u.1 71 2).toInt) ∧ (oqTt g fp fq cz 2 u) ∧ (oqBP u))) J := C
  obtain ⟨k1, qk1⟩ : ∃ z : Int32, z = 1 := ⟨_, rfl⟩
  have ek1 : k1.toInt = 1 := by rw [qk1]; rfl
  obtain ⟨k11, qk11⟩ : ∃ z : Int32, z = 11 := ⟨_, rfl⟩
  have ek11 : k11.toInt = 11 := by rw [qk11]; rfl
  obtain ⟨k12, qk12⟩ : ∃ z : Int32, z = 12 := ⟨_, rfl⟩
  have ek12 : k12.toInt = 12 := by rw [qk12]; rfl
  obtain ⟨k13, qk13⟩ : ∃ z : Int32, z = 13 := ⟨_, rfl⟩
  have ek13 : k13.toInt = 13 := by rw [qk13]; rfl
  obtain ⟨k17, qk17⟩ : ∃ z : Int32, z = 17 := ⟨_, rfl⟩
  have ek17 : k17.toInt = 17 := by rw [qk17]; rfl
  obtain ⟨k60, qk60⟩ : ∃ z : Int32, z = 60 := ⟨_, rfl⟩
  have ek60 : k60.toInt = 60 := by rw [qk60]; rfl
  obtain ⟨k61, qk61⟩ : ∃ z : Int32, z = 61 := ⟨_, rfl⟩
  have ek61 : k61.toInt = 61 := by rw [qk61]; rfl
  obtain ⟨k62, qk62⟩ : ∃ z : Int32, z = 62 := ⟨_, rfl⟩
  have ek62 : k62.toInt = 62 := by rw [qk62]; rfl
  have htz_waits : (0 : Int) ≤ (s.1 71 47).toInt ∧ (s.1 71 47).toInt ≤ 1700 := hT.1 71 47
  have htz_coded : (0 : Int) ≤ (s.1 71 45).toInt ∧ (s.1 71 45).toInt ≤ 1600 := hT.1 71 45
  have htz_at : (0 : Int) ≤ (s.1 71 2).toInt ∧ (s.1 71 2).toInt ≤ 1600 := hT.1 71 2
  refine r_aload_n C (j := 0) (oDec_at oX12_fact 0 rfl) rfl rfl ?_
  refine r_aload_n C (j := 0) (oDec_at oX12_fact 1 rfl) rfl rfl ?_
  refine r_getF (k := 20) (b := 83) C oCl12 rfl (by decide) flX12_48 rfl rfl rfl (oDec_at oX12_fact 2 rfl) ?_
  refine r_callVi C oCl12 rfl miX12_takes mlX12_200 (ct6_X12_takes l E (s) 83 59 3 rfl (by decide) (by decide) rfl rfl (g) ((s.1 71 2).toInt) ((s.1 71 4).toInt) (10) (by omega) (by omega) hp6 (by omega) (by omega) rfl (oqWd_at hp7 10 (by decide)) (by omega)) (by decide) rfl rfl rfl (Nat.le_of_ble_eq_true rfl) (oDec_at oX12_fact 3 rfl) (fun r2 u1 pu1 fu1 => ?_)
  try dsimp only at pu1
  obtain ⟨pu1_0, pu1_1, pu1_2, pu1_3, pu1_4⟩ := pu1
  have rr2 := n_rng r2
  refine r_if_eq C 18 (oDec_at oX12_fact 4 rfl) (by decide) (fun cd3 => ?_) (fun cd3 => ?_)
  · skip
    clear pu1_1
    replace pu1_2 := pu1_2 (by omega)
    have lk4 : ((u1).1 71 5).toInt = (s.1 71 5).toInt := congrArg Int32.toInt ((fu1 71 5 rfl).1)
    have lk5 : ((u1).1 71 48).toInt = (s.1 71 48).toInt := congrArg Int32.toInt ((fu1 71 48 rfl).1)
    have lk6 : ((u1).1 71 47).toInt = (s.1 71 47).toInt := congrArg Int32.toInt ((fu1 71 47 rfl).1)
    have hw10 := oqWi_w (g := g) (A := (s.1 71 2).toInt) (E := (s.1 71 4).toInt) (i := 10) (by decide) (by omega)
    obtain ⟨B, hB⟩ : ∃ B : Nat, B = ((u1).1 71 47).toNatClampNeg := ⟨_, rfl⟩
    have hBn := n_nat ((u1).1 71 47)
    have eA : ((u1).1 71 2).toInt = (s.1 71 2).toInt := by omega
    have eK : oqSk g (s.1 71 2).toInt = (s.1 71 2).toInt := by omega
    have eG : g (oqSk g ((u1).1 71 2).toInt) = g (s.1 71 2).toInt := by rw [eA, eK]
    have eW : oqWi g (oqSk g ((u1).1 71 2).toInt) ((u1).1 71 4).toInt = oqWi g (s.1 71 2).toInt (s.1 71 4).toInt := by rw [eA, eK, show ((u1).1 71 4).toInt = (s.1 71 4).toInt by omega]
    have hq7 : oqTt g fp fq cz 0 (u1) := oqI_id hp4 (oFr_row fu1 (c := 103) rfl rfl) (congrArg Int32.toInt (fu1 71 5 rfl).1) (congrArg Int32.toInt (fu1 71 47 rfl).1) (by rw [show ((u1).1 71 2).toInt = (s.1 71 2).toInt by omega]) (by omega) (congrArg Int32.toInt (fu1 71 48 rfl).1) (congrArg Int32.toInt (fu1 71 6 rfl).1)
    have hq8 : oqJ g fp fq cz 5 B 1 (u1) := oqI_J hq7 (by omega) (by omega) (by omega) (by omega) hB
    refine r_aload_n C (j := 0) (oDec_at oX12_fact 9 rfl) rfl rfl ?_
    have lk9 : ((u1).1 71 5).toInt = (s.1 71 5).toInt := congrArg Int32.toInt ((fu1 71 5 rfl).1)
    have lk10 : ((u1).1 71 48).toInt = (s.1 71 48).toInt := congrArg Int32.toInt ((fu1 71 48 rfl).1)
    have lk11 : ((u1).1 71 45).toInt = (s.1 71 45).toInt := congrArg Int32.toInt ((fu1 71 45 rfl).1)
    have lk12 : ((u1).1 71 47).toInt = (s.1 71 47).toInt := congrArg Int32.toInt ((fu1 71 47 rfl).1)
    have lk13 : ((u1).1 71 47).toInt = (s.1 71 47).toInt := congrArg Int32.toInt ((fu1 71 47 rfl).1)
    have lk14 : ((u1).1 71 45).toInt = (s.1 71 45).toInt := congrArg Int32.toInt ((fu1 71 45 rfl).1)
    have lk15 : ((u1).1 71 47).toInt = (s.1 71 47).toInt := congrArg Int32.toInt ((fu1 71 47 rfl).1)
    have lk16 : ((u1).1 71 45).toInt = (s.1 71 45).toInt := congrArg Int32.toInt ((fu1 71 45 rfl).1)
    have lk17 : ((u1).1 71 47).toInt = (s.1 71 47).toInt := congrArg Int32.toInt ((fu1 71 47 rfl).1)
    refine r_callVv C oCl12 rfl miX12_sums mlX12_319 (ct7_X12_sums l E (u1)  (0) (B) (g) (fp) (fq) (cz) (5) (oQ_fr fu1 rfl hp0) (by omega) (by omega) (by omega) (by omega) hq8 (oqZ_fr fu1 rfl hp6) (oqWd_fr fu1 rfl hp7) (oqMo_fr fu1 rfl hp8) (oqBP_fr fu1 rfl hp9)) (by decide) rfl rfl rfl (Nat.le_of_ble_eq_true rfl) (oDec_at oX12_fact 10 rfl) (fun u18 pu18 fu18 => ?_)
    try dsimp only at pu18
    try simp only [lk9, lk10, lk11, lk12, lk13, lk14, lk15, lk16, lk17] at pu18
    obtain ⟨pu18_0, pu18_1, pu18_2, pu18_3, pu18_4, pu18_5, pu18_6, pu18_7⟩ := pu18
    refine r_aload_n C (j := 0) (oDec_at oX12_fact 11 rfl) rfl rfl ?_
    obtain ⟨v20, ev20⟩ : ∃ z : Int32, (u18).1 71 5 = z := ⟨_, rfl⟩
    have gv20 : (u18.1 71 5).toInt = v20.toInt := congrArg Int32.toInt (ev20)
    have rv20 := n_rng v20
    refine r_geti (k := 5) (lo := (-2147483648)) (hi := 2147483647) C v20 oCl12 rfl (by decide) flX12_173 rfl rfl (ev20) rfl rfl (oDec_at oX12_fact 12 rfl) (fun _ _ => ?_)
    refine r_if_eq C 30 (oDec_at oX12_fact 13 rfl) (by decide) (fun cd21 => ?_) (fun cd21 => ?_)
    · skip
      have lk22 : ((u18).1 71 5).toInt = v20.toInt := congrArg Int32.toInt (ev20)
      refine r_ty C (fun hty => ?_)
      have hty_coded : (0 : Int) ≤ ((u18).1 71 45).toInt ∧ ((u18).1 71 45).toInt ≤ 1600 := hty.1 71 45
      have hty_waits : (0 : Int) ≤ ((u18).1 71 47).toInt ∧ ((u18).1 71 47).toInt ≤ 1700 := hty.1 71 47
      clear hty
      obtain ⟨hW5, hN5, hS5⟩ := pu18_6 (by omega)
      have hq23 : oQ 9999 1 (u18) := pu18_0
      refine r_aload_n C (j := 0) (oDec_at oX12_fact 15 rfl) rfl rfl ?_
      have lk24 : ((u18).1 71 5).toInt = v20.toInt := congrArg Int32.toInt (ev20)
      obtain ⟨A, hA⟩ : ∃ z : Int, z = ((u18).1 71 2).toInt := ⟨_, rfl⟩
      have hSA : oqSk g A = A := by rw [hA]; exact hS5
      have lk25 : ((u18).1 71 3).toInt = (s.1 71 3).toInt := congrArg Int32.toInt (((fu18 71 3 rfl).1).trans ((fu1 71 3 rfl).1))
      refine r_callVi C oCl12 rfl miX12_look mlX12_185 (ct4_X12_look l E (u18)  (g) (A) (by omega) (oqZ_fr fu18 rfl (oqZ_fr fu1 rfl hp6))) (by decide) rfl rfl rfl (Nat.le_of_ble_eq_true rfl) (oDec_at oX12_fact 16 rfl) (fun r27 u26 pu26 fu26 => ?_)
      try dsimp only at pu26
      try simp only [lk25] at pu26
      obtain ⟨pu26_0, pu26_1, pu26_2, pu26_3, pu26_4, pu26_5⟩ := pu26
      have rr27 := n_rng r27
      have lk28 : ((u26).1 71 4).toInt = (u18.1 71 4).toInt := congrArg Int32.toInt ((fu26 71 4 rfl).1)
      have lk29 : ((u26).1 71 5).toInt = v20.toInt := congrArg Int32.toInt (((fu26 71 5 rfl).1).trans (ev20))
      have lk30 : ((u26).1 71 48).toInt = (u18.1 71 48).toInt := congrArg Int32.toInt ((fu26 71 48 rfl).1)
      have lk31 : ((u26).1 71 47).toInt = (u18.1 71 47).toInt := congrArg Int32.toInt ((fu26 71 47 rfl).1)
      have hgB : g (oqSk g A) = g A := by rw [show oqSk g A = A by omega]
      have eA2 : ((u26).1 71 2).toInt = A := by omega
      have hsk2 : oqSk g ((u26).1 71 2).toInt = ((u26).1 71 2).toInt := by rw [eA2]; omega
      have hgA2 : g (oqSk g ((u26).1 71 2).toInt) = g A := by rw [hsk2, eA2]
      have hno2 : ¬ oqOp g (oqSk g ((u26).1 71 2).toInt) := by rw [hsk2, eA2, hA]; exact oqNp4_n hN5
      have hWB : ((u26).1 71 47).toNatClampNeg = B := by have h7 := n_nat ((u26).1 71 47); omega
      have hq32 : oqJ g fp fq cz 5 B 3 (u26) := oqJ_id pu18_5 (oFr_row fu26 (c := 103) rfl rfl) (congrArg Int32.toInt (fu26 71 5 rfl).1) (congrArg Int32.toInt (fu26 71 47 rfl).1) (by rw [eA2, ← hA]) (congrArg Int32.toInt (fu26 71 4 rfl).1) (congrArg Int32.toInt (fu26 71 48 rfl).1) (congrArg Int32.toInt (fu26 71 6 rfl).1)
      refine r_istore_n C (lv' := [(0, .ref (oad E 71)), (1, .int r27)]) [1, 0] (oDec_at oX12_fact 17 rfl) rfl (by decide) rfl ?_
      refine r_iload_n C (j := 1) (oDec_at oX12_fact 18 rfl) rfl rfl ?_
      refine r_bipush C (oDec_at oX12_fact 19 rfl) (v := k60) (by rw [qk60]; rfl) ?_
      refine r_icmp_eq C 63 (oDec_at oX12_fact 20 rfl) (by decide) (fun cd33 => ?_) (fun cd33 => ?_)
      · skip
        refine r_aload_n C (j := 0) (oDec_at oX12_fact 33 rfl) rfl rfl ?_
        refine r_dup C (oDec_at oX12_fact 34 rfl) rfl ?_
        obtain ⟨v34, ev34⟩ : ∃ z : Int32, (u26).1 71 2 = z := ⟨_, rfl⟩
        have gv34 : (u26.1 71 2).toInt = v34.toInt := congrArg Int32.toInt (ev34)
        refine r_geti (k := 2) (lo := 0) (hi := 1600) C v34 oCl12 rfl (by decide) flX12_179 rfl rfl (ev34) rfl rfl (oDec_at oX12_fact 35 rfl) (fun b35 b35h => ?_)
        refine r_iconst C (oDec_at oX12_fact 36 rfl) (v := k1) (by rw [qk1]; rfl) ?_
        obtain ⟨v36, ev36⟩ : ∃ z : Int32, z = v34 + k1 := ⟨_, rfl⟩
        have hv36 : v36.toInt = v34.toInt + k1.toInt := n_add ev36 (by omega) (by omega)
        refine r_iadd C v36 (oDec_at oX12_fact 37 rfl) ev36 ?_
        refine r_puti (k := 2) (lo := 0) (hi := 1600) C oCl12 rfl (by decide) flX12_179 rfl rfl rfl rfl rfl rfl rfl rfl ⟨by omega, by omega⟩ (oDec_at oX12_fact 38 rfl) ?_
        refine r_pc C 73 rfl ?_
        have hq37 : oqJ g fp fq cz 6 B 1 ((pI u26 71 2 v36)) := oqJ_sg hq32 (by omega) hWB hno2 (by omega) (by omega)
        refine r_aload_n C (j := 0) (oDec_at oX12_fact 39 rfl) rfl rfl ?_
        have lk38 : (((pI u26 71 2 v36)).1 71 5).toInt = v20.toInt := congrArg Int32.toInt (((pI_ne (a := 71) (b := 5) (c := 71) (k := 2) _ _ (Or.inr (by decide)))).trans (((fu26 71 5 rfl).1).trans (ev20)))
        have lk39 : (((pI u26 71 2 v36)).1 71 48).toInt = (u18.1 71 48).toInt := congrArg Int32.toInt (((pI_ne (a := 71) (b := 48) (c := 71) (k := 2) _ _ (Or.inr (by decide)))).trans ((fu26 71 48 rfl).1))
        have lk40 : (((pI u26 71 2 v36)).1 71 45).toInt = (u18.1 71 45).toInt := congrArg Int32.toInt (((pI_ne (a := 71) (b := 45) (c := 71) (k := 2) _ _ (Or.inr (by decide)))).trans ((fu26 71 45 rfl).1))
        have lk41 : (((pI u26 71 2 v36)).1 71 47).toInt = (u18.1 71 47).toInt := congrArg Int32.toInt (((pI_ne (a := 71) (b := 47) (c := 71) (k := 2) _ _ (Or.inr (by decide)))).trans ((fu26 71 47 rfl).1))
        have lk42 : (((pI u26 71 2 v36)).1 71 2).toInt = v36.toInt := congrArg Int32.toInt ((pI_self _ _ _ _))
        have lk43 : (((pI u26 71 2 v36)).1 71 47).toInt = (u18.1 71 47).toInt := congrArg Int32.toInt (((pI_ne (a := 71) (b := 47) (c := 71) (k := 2) _ _ (Or.inr (by decide)))).trans ((fu26 71 47 rfl).1))
        have lk44 : (((pI u26 71 2 v36)).1 71 2).toInt = v36.toInt := congrArg Int32.toInt ((pI_self _ _ _ _))
        have lk45 : (((pI u26 71 2 v36)).1 71 45).toInt = (u18.1 71 45).toInt := congrArg Int32.toInt (((pI_ne (a := 71) (b := 45) (c := 71) (k := 2) _ _ (Or.inr (by decide)))).trans ((fu26 71 45 rfl).1))
        have lk46 : (((pI u26 71 2 v36)).1 71 47).toInt = (u18.1 71 47).toInt := congrArg Int32.toInt (((pI_ne (a := 71) (b := 47) (c := 71) (k := 2) _ _ (Or.inr (by decide)))).trans ((fu26 71 47 rfl).1))
        have lk47 : (((pI u26 71 2 v36)).1 71 2).toInt = v36.toInt := congrArg Int32.toInt ((pI_self _ _ _ _))
        have lk48 : (((pI u26 71 2 v36)).1 71 45).toInt = (u18.1 71 45).toInt := congrArg Int32.toInt (((pI_ne (a := 71) (b := 45) (c := 71) (k := 2) _ _ (Or.inr (by decide)))).trans ((fu26 71 45 rfl).1))
        have lk49 : (((pI u26 71 2 v36)).1 71 47).toInt = (u18.1 71 47).toInt := congrArg Int32.toInt (((pI_ne (a := 71) (b := 47) (c := 71) (k := 2) _ _ (Or.inr (by decide)))).trans ((fu26 71 47 rfl).1))
        have lk50 : (((pI u26 71 2 v36)).1 71 2).toInt = v36.toInt := congrArg Int32.toInt ((pI_self _ _ _ _))
        refine r_callVv C oCl12 rfl miX12_sums mlX12_319 (ct7_X12_sums l E ((pI u26 71 2 v36))  (1) (B) (g) (fp) (fq) (cz) (6) (oQ_fr (oFr_oneI (q := 12) (m := 2) rfl (by rfl)) rfl (oQ_fr fu26 rfl hq23)) (by omega) (by omega) (by omega) (by omega) hq37 (oqZ_fr (oFr_oneI (q := 12) (m := 2) rfl (by rfl)) rfl (oqZ_fr fu26 rfl (oqZ_fr fu18 rfl (oqZ_fr fu1 rfl hp6)))) (oqWd_fr (oFr_oneI (q := 12) (m := 2) rfl (by rfl)) rfl (oqWd_fr fu26 rfl (oqWd_fr fu18 rfl (oqWd_fr fu1 rfl hp7)))) (oqMo_fr (oFr_oneI (q := 12) (m := 2) rfl (by rfl)) rfl (oqMo_fr fu26 rfl (oqMo_fr fu18 rfl (oqMo_fr fu1 rfl hp8)))) (oqBP_fr (oFr_oneI (q := 12) (m := 2) rfl (by rfl)) rfl (oqBP_fr fu26 rfl pu18_7))) (by decide) rfl rfl rfl (Nat.le_of_ble_eq_true rfl) (oDec_at oX12_fact 40 rfl) (fun u51 pu51 fu51 => ?_)
        try dsimp only at pu51
        try simp only [lk38, lk39, lk40, lk41, lk42, lk43, lk44, lk45, lk46, lk47, lk48, lk49, lk50] at pu51
        obtain ⟨pu51_0, pu51_1, pu51_2, pu51_3, pu51_4, pu51_5, pu51_6, pu51_7⟩ := pu51
        refine r_ty C (fun hty => ?_)
        have hty_coded : (0 : Int) ≤ ((u51).1 71 45).toInt ∧ ((u51).1 71 45).toInt ≤ 1600 := hty.1 71 45
        have hty_waits : (0 : Int) ≤ ((u51).1 71 47).toInt ∧ ((u51).1 71 47).toInt ≤ 1700 := hty.1 71 47
        have hty_at : (0 : Int) ≤ ((u51).1 71 2).toInt ∧ ((u51).1 71 2).toInt ≤ 1600 := hty.1 71 2
        clear hty
        have hq53 : oqTt g fp fq cz 2 (u51) := oqJ_6 pu51_5 (fun h9 => by have h8 := (pu51_6 h9).1; have h7 := n_nat ((u51).1 71 47); omega) (fun h9 => by have h8 := pu51_6 h9; rw [h8.2.2]; exact oqNp4_n h8.2.1)
        refine r_aload_n C (j := 0) (oDec_at oX12_fact 41 rfl) rfl rfl ?_
        refine r_iload_n C (j := 1) (oDec_at oX12_fact 42 rfl) rfl rfl ?_
        refine r_bipush C (oDec_at oX12_fact 43 rfl) (v := k60) (by rw [qk60]; rfl) ?_
        refine r_icmp_ne C 89 (oDec_at oX12_fact 44 rfl) (by decide) (fun cd54 => ?_) (fun cd54 => ?_)
        · omega
        · skip
          refine r_bipush C (oDec_at oX12_fact 45 rfl) (v := k11) (by rw [qk11]; rfl) ?_
          refine r_goto C (tgt := 102) (oDec_at oX12_fact 46 rfl) (by decide) ?_
          refine r_callVv C oCl12 rfl miX12_lay mlX12_280 (ct_X12_lay l E (u51) k11 (by omega)) (by decide) rfl rfl rfl (Nat.le_of_ble_eq_true rfl) (oDec_at oX12_fact 53 rfl) (fun u55 pu55 fu55 => ?_)
          try dsimp only at pu55
          obtain ⟨pu55_0, pu55_1⟩ := pu55
          have hq57 : oQ 9999 1 (u55) := oQ_jn (x := 1) pu51_0 pu55_0 (by omega) (by omega) (by omega)
          have lk58 : ((u55).1 71 48).toInt = (u51.1 71 48).toInt := congrArg Int32.toInt ((fu55 71 48 rfl).1)
          have lk59 : ((u55).1 71 2).toInt = (u51.1 71 2).toInt := congrArg Int32.toInt ((fu55 71 2 rfl).1)
          have lk60 : ((u55).1 71 47).toInt = (u51.1 71 47).toInt := congrArg Int32.toInt ((fu55 71 47 rfl).1)
          have lk61 : ((u55).1 71 5).toInt = (u51.1 71 5).toInt := congrArg Int32.toInt ((fu55 71 5 rfl).1)
          have lk62 : ((u55).1 71 2).toInt = (u51.1 71 2).toInt := congrArg Int32.toInt ((fu55 71 2 rfl).1)
          have lk63 : ((u55).1 71 47).toInt = (u51.1 71 47).toInt := congrArg Int32.toInt ((fu55 71 47 rfl).1)
          have lk64 : ((u55).1 71 2).toInt = (u51.1 71 2).toInt := congrArg Int32.toInt ((fu55 71 2 rfl).1)
          exact r_vret C (oDec_at oX12_fact 54 rfl) ⟨rfl, ⟨hq57, by omega, by omega, by omega, by omega, (oqTt_fr fu55 rfl hq53), (oqBP_fr fu55 rfl pu51_7)⟩⟩
      · skip
        refine r_iload_n C (j := 1) (oDec_at oX12_fact 21 rfl) rfl rfl ?_
        refine r_bipush C (oDec_at oX12_fact 22 rfl) (v := k62) (by rw [qk62]; rfl) ?_
        refine r_icmp_eq C 63 (oDec_at oX12_fact 23 rfl) (by decide) (fun cd65 => ?_) (fun cd65 => ?_)
        · skip
          refine r_aload_n C (j := 0) (oDec_at oX12_fact 33 rfl) rfl rfl ?_
          refine r_dup C (oDec_at oX12_fact 34 rfl) rfl ?_
          obtain ⟨v66, ev66⟩ : ∃ z : Int32, (u26).1 71 2 = z := ⟨_, rfl⟩
          have gv66 : (u26.1 71 2).toInt = v66.toInt := congrArg Int32.toInt (ev66)
          refine r_geti (k := 2) (lo := 0) (hi := 1600) C v66 oCl12 rfl (by decide) flX12_179 rfl rfl (ev66) rfl rfl (oDec_at oX12_fact 35 rfl) (fun b67 b67h => ?_)
          refine r_iconst C (oDec_at oX12_fact 36 rfl) (v := k1) (by rw [qk1]; rfl) ?_
          obtain ⟨v68, ev68⟩ : ∃ z : Int32, z = v66 + k1 := ⟨_, rfl⟩
          have hv68 : v68.toInt = v66.toInt + k1.toInt := n_add ev68 (by omega) (by omega)
          refine r_iadd C v68 (oDec_at oX12_fact 37 rfl) ev68 ?_
          refine r_puti (k := 2) (lo := 0) (hi := 1600) C oCl12 rfl (by decide) flX12_179 rfl rfl rfl rfl rfl rfl rfl rfl ⟨by omega, by omega⟩ (oDec_at oX12_fact 38 rfl) ?_
          refine r_pc C 73 rfl ?_
          have hq69 : oqJ g fp fq cz 6 B 1 ((pI u26 71 2 v68)) := oqJ_sg hq32 (by omega) hWB hno2 (by omega) (by omega)
          refine r_aload_n C (j := 0) (oDec_at oX12_fact 39 rfl) rfl rfl ?_
          have lk70 : (((pI u26 71 2 v68)).1 71 5).toInt = v20.toInt := congrArg Int32.toInt (((pI_ne (a := 71) (b := 5) (c := 71) (k := 2) _ _ (Or.inr (by decide)))).trans (((fu26 71 5 rfl).1).trans (ev20)))
          have lk71 : (((pI u26 71 2 v68)).1 71 48).toInt = (u18.1 71 48).toInt := congrArg Int32.toInt (((pI_ne (a := 71) (b := 48) (c := 71) (k := 2) _ _ (Or.inr (by decide)))).trans ((fu26 71 48 rfl).1))
          have lk72 : (((pI u26 71 2 v68)).1 71 45).toInt = (u18.1 71 45).toInt := congrArg Int32.toInt (((pI_ne (a := 71) (b := 45) (c := 71) (k := 2) _ _ (Or.inr (by decide)))).trans ((fu26 71 45 rfl).1))
          have lk73 : (((pI u26 71 2 v68)).1 71 47).toInt = (u18.1 71 47).toInt := congrArg Int32.toInt (((pI_ne (a := 71) (b := 47) (c := 71) (k := 2) _ _ (Or.inr (by decide)))).trans ((fu26 71 47 rfl).1))
          have lk74 : (((pI u26 71 2 v68)).1 71 2).toInt = v68.toInt := congrArg Int32.toInt ((pI_self _ _ _ _))
          have lk75 : (((pI u26 71 2 v68)).1 71 47).toInt = (u18.1 71 47).toInt := congrArg Int32.toInt (((pI_ne (a := 71) (b := 47) (c := 71) (k := 2) _ _ (Or.inr (by decide)))).trans ((fu26 71 47 rfl).1))
          have lk76 : (((pI u26 71 2 v68)).1 71 2).toInt = v68.toInt := congrArg Int32.toInt ((pI_self _ _ _ _))
          have lk77 : (((pI u26 71 2 v68)).1 71 45).toInt = (u18.1 71 45).toInt := congrArg Int32.toInt (((pI_ne (a := 71) (b := 45) (c := 71) (k := 2) _ _ (Or.inr (by decide)))).trans ((fu26 71 45 rfl).1))
          have lk78 : (((pI u26 71 2 v68)).1 71 47).toInt = (u18.1 71 47).toInt := congrArg Int32.toInt (((pI_ne (a := 71) (b := 47) (c := 71) (k := 2) _ _ (Or.inr (by decide)))).trans ((fu26 71 47 rfl).1))
          have lk79 : (((pI u26 71 2 v68)).1 71 2).toInt = v68.toInt := congrArg Int32.toInt ((pI_self _ _ _ _))
          have lk80 : (((pI u26 71 2 v68)).1 71 45).toInt = (u18.1 71 45).toInt := congrArg Int32.toInt (((pI_ne (a := 71) (b := 45) (c := 71) (k := 2) _ _ (Or.inr (by decide)))).trans ((fu26 71 45 rfl).1))
          have lk81 : (((pI u26 71 2 v68)).1 71 47).toInt = (u18.1 71 47).toInt := congrArg Int32.toInt (((pI_ne (a := 71) (b := 47) (c := 71) (k := 2) _ _ (Or.inr (by decide)))).trans ((fu26 71 47 rfl).1))
          have lk82 : (((pI u26 71 2 v68)).1 71 2).toInt = v68.toInt := congrArg Int32.toInt ((pI_self _ _ _ _))
          refine r_callVv C oCl12 rfl miX12_sums mlX12_319 (ct7_X12_sums l E ((pI u26 71 2 v68))  (1) (B) (g) (fp) (fq) (cz) (6) (oQ_fr (oFr_oneI (q := 12) (m := 2) rfl (by rfl)) rfl (oQ_fr fu26 rfl hq23)) (by omega) (by omega) (by omega) (by omega) hq69 (oqZ_fr (oFr_oneI (q := 12) (m := 2) rfl (by rfl)) rfl (oqZ_fr fu26 rfl (oqZ_fr fu18 rfl (oqZ_fr fu1 rfl hp6)))) (oqWd_fr (oFr_oneI (q := 12) (m := 2) rfl (by rfl)) rfl (oqWd_fr fu26 rfl (oqWd_fr fu18 rfl (oqWd_fr fu1 rfl hp7)))) (oqMo_fr (oFr_oneI (q := 12) (m := 2) rfl (by rfl)) rfl (oqMo_fr fu26 rfl (oqMo_fr fu18 rfl (oqMo_fr fu1 rfl hp8)))) (oqBP_fr (oFr_oneI (q := 12) (m := 2) rfl (by rfl)) rfl (oqBP_fr fu26 rfl pu18_7))) (by decide) rfl rfl rfl (Nat.le_of_ble_eq_true rfl) (oDec_at oX12_fact 40 rfl) (fun u83 pu83 fu83 => ?_)
          try dsimp only at pu83
          try simp only [lk70, lk71, lk72, lk73, lk74, lk75, lk76, lk77, lk78, lk79, lk80, lk81, lk82] at pu83
          obtain ⟨pu83_0, pu83_1, pu83_2, pu83_3, pu83_4, pu83_5, pu83_6, pu83_7⟩ := pu83
          refine r_ty C (fun hty => ?_)
          have hty_coded : (0 : Int) ≤ ((u83).1 71 45).toInt ∧ ((u83).1 71 45).toInt ≤ 1600 := hty.1 71 45
          have hty_waits : (0 : Int) ≤ ((u83).1 71 47).toInt ∧ ((u83).1 71 47).toInt ≤ 1700 := hty.1 71 47
          have hty_at : (0 : Int) ≤ ((u83).1 71 2).toInt ∧ ((u83).1 71 2).toInt ≤ 1600 := hty.1 71 2
          clear hty
          have hq85 : oqTt g fp fq cz 2 (u83) := oqJ_6 pu83_5 (fun h9 => by have h8 := (pu83_6 h9).1; have h7 := n_nat ((u83).1 71 47); omega) (fun h9 => by have h8 := pu83_6 h9; rw [h8.2.2]; exact oqNp4_n h8.2.1)
          refine r_aload_n C (j := 0) (oDec_at oX12_fact 41 rfl) rfl rfl ?_
          refine r_iload_n C (j := 1) (oDec_at oX12_fact 42 rfl) rfl rfl ?_
          refine r_bipush C (oDec_at oX12_fact 43 rfl) (v := k60) (by rw [qk60]; rfl) ?_
          refine r_icmp_ne C 89 (oDec_at oX12_fact 44 rfl) (by decide) (fun cd86 => ?_) (fun cd86 => ?_)
          · skip
            refine r_iload_n C (j := 1) (oDec_at oX12_fact 47 rfl) rfl rfl ?_
            refine r_bipush C (oDec_at oX12_fact 48 rfl) (v := k62) (by rw [qk62]; rfl) ?_
            refine r_icmp_ne C 100 (oDec_at oX12_fact 49 rfl) (by decide) (fun cd87 => ?_) (fun cd87 => ?_)
            · omega
            · skip
              refine r_bipush C (oDec_at oX12_fact 50 rfl) (v := k12) (by rw [qk12]; rfl) ?_
              refine r_goto C (tgt := 102) (oDec_at oX12_fact 51 rfl) (by decide) ?_
              refine r_callVv C oCl12 rfl miX12_lay mlX12_280 (ct_X12_lay l E (u83) k12 (by omega)) (by decide) rfl rfl rfl (Nat.le_of_ble_eq_true rfl) (oDec_at oX12_fact 53 rfl) (fun u88 pu88 fu88 => ?_)
              try dsimp only at pu88
              obtain ⟨pu88_0, pu88_1⟩ := pu88
              have hq90 : oQ 9999 1 (u88) := oQ_jn (x := 1) pu83_0 pu88_0 (by omega) (by omega) (by omega)
              have lk91 : ((u88).1 71 48).toInt = (u83.1 71 48).toInt := congrArg Int32.toInt ((fu88 71 48 rfl).1)
              have lk92 : ((u88).1 71 2).toInt = (u83.1 71 2).toInt := congrArg Int32.toInt ((fu88 71 2 rfl).1)
              have lk93 : ((u88).1 71 47).toInt = (u83.1 71 47).toInt := congrArg Int32.toInt ((fu88 71 47 rfl).1)
              have lk94 : ((u88).1 71 5).toInt = (u83.1 71 5).toInt := congrArg Int32.toInt ((fu88 71 5 rfl).1)
              have lk95 : ((u88).1 71 2).toInt = (u83.1 71 2).toInt := congrArg Int32.toInt ((fu88 71 2 rfl).1)
              have lk96 : ((u88).1 71 47).toInt = (u83.1 71 47).toInt := congrArg Int32.toInt ((fu88 71 47 rfl).1)
              have lk97 : ((u88).1 71 2).toInt = (u83.1 71 2).toInt := congrArg Int32.toInt ((fu88 71 2 rfl).1)
              exact r_vret C (oDec_at oX12_fact 54 rfl) ⟨rfl, ⟨hq90, by omega, by omega, by omega, by omega, (oqTt_fr fu88 rfl hq85), (oqBP_fr fu88 rfl pu83_7)⟩⟩
          · omega
        · skip
          refine r_iload_n C (j := 1) (oDec_at oX12_fact 24 rfl) rfl rfl ?_
          refine r_bipush C (oDec_at oX12_fact 25 rfl) (v := k61) (by rw [qk61]; rfl) ?_
          refine r_icmp_eq C 63 (oDec_at oX12_fact 26 rfl) (by decide) (fun cd98 => ?_) (fun cd98 => ?_)
          · skip
            refine r_aload_n C (j := 0) (oDec_at oX12_fact 33 rfl) rfl rfl ?_
            refine r_dup C (oDec_at oX12_fact 34 rfl) rfl ?_
            obtain ⟨v99, ev99⟩ : ∃ z : Int32, (u26).1 71 2 = z := ⟨_, rfl⟩
            have gv99 : (u26.1 71 2).toInt = v99.toInt := congrArg Int32.toInt (ev99)
            refine r_geti (k := 2) (lo := 0) (hi := 1600) C v99 oCl12 rfl (by decide) flX12_179 rfl rfl (ev99) rfl rfl (oDec_at oX12_fact 35 rfl) (fun b100 b100h => ?_)
            refine r_iconst C (oDec_at oX12_fact 36 rfl) (v := k1) (by rw [qk1]; rfl) ?_
            obtain ⟨v101, ev101⟩ : ∃ z : Int32, z = v99 + k1 := ⟨_, rfl⟩
            have hv101 : v101.toInt = v99.toInt + k1.toInt := n_add ev101 (by omega) (by omega)
            refine r_iadd C v101 (oDec_at oX12_fact 37 rfl) ev101 ?_
            refine r_puti (k := 2) (lo := 0) (hi := 1600) C oCl12 rfl (by decide) flX12_179 rfl rfl rfl rfl rfl rfl rfl rfl ⟨by omega, by omega⟩ (oDec_at oX12_fact 38 rfl) ?_
            refine r_pc C 73 rfl ?_
            have hq102 : oqJ g fp fq cz 6 B 1 ((pI u26 71 2 v101)) := oqJ_sg hq32 (by omega) hWB hno2 (by omega) (by omega)
            refine r_aload_n C (j := 0) (oDec_at oX12_fact 39 rfl) rfl rfl ?_
            have lk103 : (((pI u26 71 2 v101)).1 71 5).toInt = v20.toInt := congrArg Int32.toInt (((pI_ne (a := 71) (b := 5) (c := 71) (k := 2) _ _ (Or.inr (by decide)))).trans (((fu26 71 5 rfl).1).trans (ev20)))
            have lk104 : (((pI u26 71 2 v101)).1 71 48).toInt = (u18.1 71 48).toInt := congrArg Int32.toInt (((pI_ne (a := 71) (b := 48) (c := 71) (k := 2) _ _ (Or.inr (by decide)))).trans ((fu26 71 48 rfl).1))
            have lk105 : (((pI u26 71 2 v101)).1 71 45).toInt = (u18.1 71 45).toInt := congrArg Int32.toInt (((pI_ne (a := 71) (b := 45) (c := 71) (k := 2) _ _ (Or.inr (by decide)))).trans ((fu26 71 45 rfl).1))
            have lk106 : (((pI u26 71 2 v101)).1 71 47).toInt = (u18.1 71 47).toInt := congrArg Int32.toInt (((pI_ne (a := 71) (b := 47) (c := 71) (k := 2) _ _ (Or.inr (by decide)))).trans ((fu26 71 47 rfl).1))
            have lk107 : (((pI u26 71 2 v101)).1 71 2).toInt = v101.toInt := congrArg Int32.toInt ((pI_self _ _ _ _))
            have lk108 : (((pI u26 71 2 v101)).1 71 47).toInt = (u18.1 71 47).toInt := congrArg Int32.toInt (((pI_ne (a := 71) (b := 47) (c := 71) (k := 2) _ _ (Or.inr (by decide)))).trans ((fu26 71 47 rfl).1))
            have lk109 : (((pI u26 71 2 v101)).1 71 2).toInt = v101.toInt := congrArg Int32.toInt ((pI_self _ _ _ _))
            have lk110 : (((pI u26 71 2 v101)).1 71 45).toInt = (u18.1 71 45).toInt := congrArg Int32.toInt (((pI_ne (a := 71) (b := 45) (c := 71) (k := 2) _ _ (Or.inr (by decide)))).trans ((fu26 71 45 rfl).1))
            have lk111 : (((pI u26 71 2 v101)).1 71 47).toInt = (u18.1 71 47).toInt := congrArg Int32.toInt (((pI_ne (a := 71) (b := 47) (c := 71) (k := 2) _ _ (Or.inr (by decide)))).trans ((fu26 71 47 rfl).1))
            have lk112 : (((pI u26 71 2 v101)).1 71 2).toInt = v101.toInt := congrArg Int32.toInt ((pI_self _ _ _ _))
            have lk113 : (((pI u26 71 2 v101)).1 71 45).toInt = (u18.1 71 45).toInt := congrArg Int32.toInt (((pI_ne (a := 71) (b := 45) (c := 71) (k := 2) _ _ (Or.inr (by decide)))).trans ((fu26 71 45 rfl).1))
            have lk114 : (((pI u26 71 2 v101)).1 71 47).toInt = (u18.1 71 47).toInt := congrArg Int32.toInt (((pI_ne (a := 71) (b := 47) (c := 71) (k := 2) _ _ (Or.inr (by decide)))).trans ((fu26 71 47 rfl).1))
            have lk115 : (((pI u26 71 2 v101)).1 71 2).toInt = v101.toInt := congrArg Int32.toInt ((pI_self _ _ _ _))
            refine r_callVv C oCl12 rfl miX12_sums mlX12_319 (ct7_X12_sums l E ((pI u26 71 2 v101))  (1) (B) (g) (fp) (fq) (cz) (6) (oQ_fr (oFr_oneI (q := 12) (m := 2) rfl (by rfl)) rfl (oQ_fr fu26 rfl hq23)) (by omega) (by omega) (by omega) (by omega) hq102 (oqZ_fr (oFr_oneI (q := 12) (m := 2) rfl (by rfl)) rfl (oqZ_fr fu26 rfl (oqZ_fr fu18 rfl (oqZ_fr fu1 rfl hp6)))) (oqWd_fr (oFr_oneI (q := 12) (m := 2) rfl (by rfl)) rfl (oqWd_fr fu26 rfl (oqWd_fr fu18 rfl (oqWd_fr fu1 rfl hp7)))) (oqMo_fr (oFr_oneI (q := 12) (m := 2) rfl (by rfl)) rfl (oqMo_fr fu26 rfl (oqMo_fr fu18 rfl (oqMo_fr fu1 rfl hp8)))) (oqBP_fr (oFr_oneI (q := 12) (m := 2) rfl (by rfl)) rfl (oqBP_fr fu26 rfl pu18_7))) (by decide) rfl rfl rfl (Nat.le_of_ble_eq_true rfl) (oDec_at oX12_fact 40 rfl) (fun u116 pu116 fu116 => ?_)
            try dsimp only at pu116
            try simp only [lk103, lk104, lk105, lk106, lk107, lk108, lk109, lk110, lk111, lk112, lk113, lk114, lk115] at pu116
            obtain ⟨pu116_0, pu116_1, pu116_2, pu116_3, pu116_4, pu116_5, pu116_6, pu116_7⟩ := pu116
            refine r_ty C (fun hty => ?_)
            have hty_coded : (0 : Int) ≤ ((u116).1 71 45).toInt ∧ ((u116).1 71 45).toInt ≤ 1600 := hty.1 71 45
            have hty_waits : (0 : Int) ≤ ((u116).1 71 47).toInt ∧ ((u116).1 71 47).toInt ≤ 1700 := hty.1 71 47
            have hty_at : (0 : Int) ≤ ((u116).1 71 2).toInt ∧ ((u116).1 71 2).toInt ≤ 1600 := hty.1 71 2
            clear hty
            have hq118 : oqTt g fp fq cz 2 (u116) := oqJ_6 pu116_5 (fun h9 => by have h8 := (pu116_6 h9).1; have h7 := n_nat ((u116).1 71 47); omega) (fun h9 => by have h8 := pu116_6 h9; rw [h8.2.2]; exact oqNp4_n h8.2.1)
            refine r_aload_n C (j := 0) (oDec_at oX12_fact 41 rfl) rfl rfl ?_
            refine r_iload_n C (j := 1) (oDec_at oX12_fact 42 rfl) rfl rfl ?_
            refine r_bipush C (oDec_at oX12_fact 43 rfl) (v := k60) (by rw [qk60]; rfl) ?_
            refine r_icmp_ne C 89 (oDec_at oX12_fact 44 rfl) (by decide) (fun cd119 => ?_) (fun cd119 => ?_)
            · skip
              refine r_iload_n C (j := 1) (oDec_at oX12_fact 47 rfl) rfl rfl ?_
              refine r_bipush C (oDec_at oX12_fact 48 rfl) (v := k62) (by rw [qk62]; rfl) ?_
              refine r_icmp_ne C 100 (oDec_at oX12_fact 49 rfl) (by decide) (fun cd120 => ?_) (fun cd120 => ?_)
              · skip
                refine r_bipush C (oDec_at oX12_fact 52 rfl) (v := k13) (by rw [qk13]; rfl) ?_
                refine r_callVv C oCl12 rfl miX12_lay mlX12_280 (ct_X12_lay l E (u116) k13 (by omega)) (by decide) rfl rfl rfl (Nat.le_of_ble_eq_true rfl) (oDec_at oX12_fact 53 rfl) (fun u121 pu121 fu121 => ?_)
                try dsimp only at pu121
                obtain ⟨pu121_0, pu121_1⟩ := pu121
                have hq123 : oQ 9999 1 (u121) := oQ_jn (x := 1) pu116_0 pu121_0 (by omega) (by omega) (by omega)
                have lk124 : ((u121).1 71 48).toInt = (u116.1 71 48).toInt := congrArg Int32.toInt ((fu121 71 48 rfl).1)
                have lk125 : ((u121).1 71 2).toInt = (u116.1 71 2).toInt := congrArg Int32.toInt ((fu121 71 2 rfl).1)
                have lk126 : ((u121).1 71 47).toInt = (u116.1 71 47).toInt := congrArg Int32.toInt ((fu121 71 47 rfl).1)
                have lk127 : ((u121).1 71 5).toInt = (u116.1 71 5).toInt := congrArg Int32.toInt ((fu121 71 5 rfl).1)
                have lk128 : ((u121).1 71 2).toInt = (u116.1 71 2).toInt := congrArg Int32.toInt ((fu121 71 2 rfl).1)
                have lk129 : ((u121).1 71 47).toInt = (u116.1 71 47).toInt := congrArg Int32.toInt ((fu121 71 47 rfl).1)
                have lk130 : ((u121).1 71 2).toInt = (u116.1 71 2).toInt := congrArg Int32.toInt ((fu121 71 2 rfl).1)
                exact r_vret C (oDec_at oX12_fact 54 rfl) ⟨rfl, ⟨hq123, by omega, by omega, by omega, by omega, (oqTt_fr fu121 rfl hq118), (oqBP_fr fu121 rfl pu116_7)⟩⟩
              · omega
            · omega
          · skip
            refine r_aload_n C (j := 0) (oDec_at oX12_fact 27 rfl) rfl rfl ?_
            refine r_iconst C (oDec_at oX12_fact 28 rfl) (v := k1) (by rw [qk1]; rfl) ?_
            refine r_aload_n C (j := 0) (oDec_at oX12_fact 29 rfl) rfl rfl ?_
            obtain ⟨v131, ev131⟩ : ∃ z : Int32, (u26).1 71 2 = z := ⟨_, rfl⟩
            have gv131 : (u26.1 71 2).toInt = v131.toInt := congrArg Int32.toInt (ev131)
            refine r_geti (k := 2) (lo := 0) (hi := 1600) C v131 oCl12 rfl (by decide) flX12_179 rfl rfl (ev131) rfl rfl (oDec_at oX12_fact 30 rfl) (fun b132 b132h => ?_)
            have lk133 : ((u26).1 71 5).toInt = v20.toInt := congrArg Int32.toInt (((fu26 71 5 rfl).1).trans (ev20))
            have lk134 : ((u26).1 71 5).toInt = v20.toInt := congrArg Int32.toInt (((fu26 71 5 rfl).1).trans (ev20))
            have lk135 : ((u26).1 71 6).toInt = (u18.1 71 6).toInt := congrArg Int32.toInt ((fu26 71 6 rfl).1)
            refine r_callVv C oCl12 rfl miX12_fail mlX12_203 (ct7_X12_fail l E (u26) k1 v131 (by omega) (oqBP_fr fu26 rfl pu18_7)) (by decide) rfl rfl rfl (Nat.le_of_ble_eq_true rfl) (oDec_at oX12_fact 31 rfl) (fun u136 pu136 fu136 => ?_)
            try dsimp only at pu136
            try simp only [lk133, lk134, lk135] at pu136
            obtain ⟨pu136_0, pu136_1, pu136_2⟩ := pu136
            have lk138 : ((u136).1 71 2).toInt = v131.toInt := congrArg Int32.toInt (((fu136 71 2 rfl).1).trans (ev131))
            have hq139 : oqTt g fp fq cz 2 (u136) := oqJ_sgF hq32 (by omega) hWB hno2 (by omega) (by omega) (by omega)
            have lk140 : ((u136).1 71 48).toInt = (u18.1 71 48).toInt := congrArg Int32.toInt (((fu136 71 48 rfl).1).trans ((fu26 71 48 rfl).1))
            have lk141 : ((u136).1 71 2).toInt = v131.toInt := congrArg Int32.toInt (((fu136 71 2 rfl).1).trans (ev131))
            have lk142 : ((u136).1 71 45).toInt = (u18.1 71 45).toInt := congrArg Int32.toInt (((fu136 71 45 rfl).1).trans ((fu26 71 45 rfl).1))
            have lk143 : ((u136).1 71 47).toInt = (u18.1 71 47).toInt := congrArg Int32.toInt (((fu136 71 47 rfl).1).trans ((fu26 71 47 rfl).1))
            have lk144 : ((u136).1 71 2).toInt = v131.toInt := congrArg Int32.toInt (((fu136 71 2 rfl).1).trans (ev131))
            have lk145 : ((u136).1 71 45).toInt = (u18.1 71 45).toInt := congrArg Int32.toInt (((fu136 71 45 rfl).1).trans ((fu26 71 45 rfl).1))
            have lk146 : ((u136).1 71 47).toInt = (u18.1 71 47).toInt := congrArg Int32.toInt (((fu136 71 47 rfl).1).trans ((fu26 71 47 rfl).1))
            have lk147 : ((u136).1 71 2).toInt = v131.toInt := congrArg Int32.toInt (((fu136 71 2 rfl).1).trans (ev131))
            exact r_vret C (oDec_at oX12_fact 32 rfl) ⟨rfl, ⟨(oQ_frb fu136 rfl (by omega) (oQ_fr fu26 rfl hq23)), by omega, by omega, by omega, by omega, hq139, pu136_2⟩⟩
    · skip
      have hq148 : oQ 9999 1 (u18) := oQ_bad pu18_0 (by omega)
      have hq149 : oqTt g fp fq cz 2 (u18) := oqJ_Ib pu18_5 (by omega) rfl rfl
      have lk150 : ((u18).1 71 5).toInt = v20.toInt := congrArg Int32.toInt (ev20)
      exact r_vret C (oDec_at oX12_fact 14 rfl) ⟨rfl, ⟨hq148, by omega, by omega, by omega, by omega, hq149, pu18_7⟩⟩
  · skip
    replace pu1_1 := pu1_1 (by omega)
    clear pu1_2
    have lk151 : ((u1).1 71 5).toInt = (s.1 71 5).toInt := congrArg Int32.toInt ((fu1 71 5 rfl).1)
    have lk152 : ((u1).1 71 48).toInt = (s.1 71 48).toInt := congrArg Int32.toInt ((fu1 71 48 rfl).1)
    have lk153 : ((u1).1 71 47).toInt = (s.1 71 47).toInt := congrArg Int32.toInt ((fu1 71 47 rfl).1)
    have hw10 := oqWi_y (g := g) (A := (s.1 71 2).toInt) (E := (s.1 71 4).toInt) (i := 10) (by decide) (by omega)
    have hHa10 : oqHa g (s.1 71 2).toInt 10 = oqSk g (s.1 71 2).toInt + (oqWl 10 : Int) := rfl
    have hl10 : oqWl 10 = 3 := rfl
    have hq154 : oqTt g fp fq cz 2 (u1) := oqI_go hp4 (by omega) (by omega) (oFr_row fu1 (c := 103) rfl rfl) (congrArg Int32.toInt (fu1 71 47 rfl).1) (oqf_all (g := g) (p := fp) (q := fq) (a := (s.1 71 2).toInt) (b := (s.1 71 4).toInt) (o := (s.1 71 48).toInt) (by omega) (by omega) _) (by first | omega | (congr 1; omega)) rfl rfl (by first | omega | (congr 1; omega)) (by first | omega | (congr 1; omega)) ((congrArg Int32.toInt (fu1 71 48 rfl).1)).symm
    refine r_aload_n C (j := 0) (oDec_at oX12_fact 5 rfl) rfl rfl ?_
    refine r_bipush C (oDec_at oX12_fact 6 rfl) (v := k17) (by rw [qk17]; rfl) ?_
    have lk155 : ((u1).1 71 45).toInt = (s.1 71 45).toInt := congrArg Int32.toInt ((fu1 71 45 rfl).1)
    have lk156 : ((u1).1 71 45).toInt = (s.1 71 45).toInt := congrArg Int32.toInt ((fu1 71 45 rfl).1)
    have lk157 : ((u1).1 71 45).toInt = (s.1 71 45).toInt := congrArg Int32.toInt ((fu1 71 45 rfl).1)
    refine r_callVv C oCl12 rfl miX12_lay mlX12_280 (ct_X12_lay l E (u1) k17 (by omega)) (by decide) rfl rfl rfl (Nat.le_of_ble_eq_true rfl) (oDec_at oX12_fact 7 rfl) (fun u158 pu158 fu158 => ?_)
    try dsimp only at pu158
    try simp only [lk156, lk157] at pu158
    obtain ⟨pu158_0, pu158_1⟩ := pu158
    have hq160 : oQ 9999 1 (u158) := oQ_opnd (oQ_fr fu1 rfl hp0) pu158_0 (by omega) (by omega)
    have lk161 : ((u158).1 71 48).toInt = (s.1 71 48).toInt := congrArg Int32.toInt (((fu158 71 48 rfl).1).trans ((fu1 71 48 rfl).1))
    have lk162 : ((u158).1 71 2).toInt = (u1.1 71 2).toInt := congrArg Int32.toInt ((fu158 71 2 rfl).1)
    have lk163 : ((u158).1 71 47).toInt = (s.1 71 47).toInt := congrArg Int32.toInt (((fu158 71 47 rfl).1).trans ((fu1 71 47 rfl).1))
    have lk164 : ((u158).1 71 5).toInt = (s.1 71 5).toInt := congrArg Int32.toInt (((fu158 71 5 rfl).1).trans ((fu1 71 5 rfl).1))
    have lk165 : ((u158).1 71 2).toInt = (u1.1 71 2).toInt := congrArg Int32.toInt ((fu158 71 2 rfl).1)
    have lk166 : ((u158).1 71 47).toInt = (s.1 71 47).toInt := congrArg Int32.toInt (((fu158 71 47 rfl).1).trans ((fu1 71 47 rfl).1))
    have lk167 : ((u158).1 71 2).toInt = (u1.1 71 2).toInt := congrArg Int32.toInt ((fu158 71 2 rfl).1)
    exact r_vret C (oDec_at oX12_fact 8 rfl) ⟨rfl, ⟨hq160, by omega, by omega, by omega, by omega, (oqTt_fr fu158 rfl hq154), (oqBP_fr fu158 rfl (oqBP_fr fu1 rfl hp9))⟩⟩
