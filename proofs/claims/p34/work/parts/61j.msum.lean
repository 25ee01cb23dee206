set_option maxHeartbeats 4000000 in
set_option maxRecDepth 100000 in
theorem ct9_X12_sums (l : Launch) (E : oE) (s : oS)  (x : Nat) (B : Nat) (g : Int → Int) (fp : Int) (fq : Int) (cz : oqCf) (kx : Nat) (cw : oqCw) (xw : Int) (cs : Nat) (Cq : Nat → Int32) (hp0 : oQ 9999 x s) (hp1 : (s.1 71 5).toInt = 0) (hp2 : 0 ≤ (s.1 71 48).toInt ∧ (s.1 71 48).toInt ≤ 6) (hp3 : (s.1 71 45).toInt + (s.1 71 47).toInt + 5 ≤ (s.1 71 2).toInt) (hp4 : (s.1 71 47).toInt = (B : Int)) (hp5 : oqJ g fp fq cz kx B 1 s) (hp6 : oqZ g s) (hp7 : oqWd s) (hp8 : oqMo fp fq s) (hp9 : oqBP s) (hp10 : oqJw g fp fq cw xw B cs 1 s) (hp11 : 30 ≤ xw ∧ xw ≤ 33) (hp12 : owC0 Cq s) : oMet l 6 yX12_sums cX12_sums 3 none [(12, 2), (12, 4), (12, 5), (12, 6), (12, 9), (12, 45), (12, 47), (12, 48), (12, 55), (78, 9999), (79, 9999)] E s [.ref (oad E 71)] (oPv (fun u => (oQ 9999 (x + 1) u) ∧ (0 ≤ (u.1 71 48).toInt ∧ (u.1 71 48).toInt ≤ 6) ∧ ((s.1 71 2).toInt - (s.1 71 45).toInt - (s.1 71 47).toInt ≤ (u.1 71 2).toInt - (u.1 71 45).toInt - (u.1 71 47).toInt + 1) ∧ ((u.1 71 5).toInt = 0 → ((s.1 71 2).toInt - (s.1 71 45).toInt - (s.1 71 47).toInt ≤ (u.1 71 2).toInt - (u.1 71 45).toInt - (u.1 71 47).toInt ∧ (s.1 71 2).toInt + 1 ≤ (u.1 71 2).toInt)) ∧ ((s.1 71 2).toInt ≤ (u.1 71 2).toInt) ∧ (oqJ g fp fq cz kx B 3 u) ∧ (oqSe g B u) ∧ (oqBP u) ∧ (oqJw g fp fq cw xw B cs 3 u) ∧ (owC0 Cq u))) := by
  refine oMet.of (lv := [(0, .ref (oad E 71))]) (by decide +kernel) (Nat.le_of_ble_eq_true rfl) rfl (fun J C hT => ?_)
  have C : oC l 6 cX12_sums RX12 3 none [(12, 2), (12, 4), (12, 5), (12, 6), (12, 9), (12, 45), (12, 47), (12, 48), (12, 55), (78, 9999), (79, 9999)] E s (oPv (fun u => (oQ 9999 (x + 1) u) ∧ (0 ≤ (u.1 71 48).toInt ∧ (u.1 71 48).toInt ≤ 6) ∧ ((s.1 71 2).toInt - (s.1 71 45).toInt - (s.1 71 47).toInt ≤ (u.1 71 2).toInt - (u.1 71 45).toInt - (u.1 71 47).toInt + 1) ∧ ((u.1 71 5).toInt = 0 → ((s.1 71 2).toInt - (s.1 71 45).toInt - (s.1 71 47).toInt ≤ (u.1 71 2).toInt - (u.1 71 45).toInt - (u.1 71 47).toInt ∧ (s.1 71 2).toInt + 1 ≤ (u.1 71 2).toInt)) ∧ ((s.1 71 2).toInt ≤ (u.1 71 2).toInt) ∧ (oqJ g fp fq cz kx B 3 u) ∧ (oqSe g B u) ∧ (oqBP u) ∧ (oqJw g fp fq cw xw B cs 3 u) ∧ (owC0 Cq u))) J := C
  obtain ⟨k0, qk0⟩ : ∃ z : Int32, z = 0 := ⟨_, rfl⟩
  have ek0 : k0.toInt = 0 := by rw [qk0]; rfl
  obtain ⟨k1, qk1⟩ : ∃ z : Int32, z = 1 := ⟨_, rfl⟩
  have ek1 : k1.toInt = 1 := by rw [qk1]; rfl
  have hBn := n_nat (s.1 71 47)
  have hB : B = (s.1 71 47).toNatClampNeg := by omega
  have htz_waits : (0 : Int) ≤ (s.1 71 47).toInt ∧ (s.1 71 47).toInt ≤ 1700 := hT.1 71 47
  have htz_coded : (0 : Int) ≤ (s.1 71 45).toInt ∧ (s.1 71 45).toInt ≤ 1600 := hT.1 71 45
  have htz_at : (0 : Int) ≤ (s.1 71 2).toInt ∧ (s.1 71 2).toInt ≤ 1600 := hT.1 71 2
  have htz_base : (0 : Int) ≤ (s.1 71 55).toInt ∧ (s.1 71 55).toInt ≤ 1700 := hT.1 71 55
  have key : ∀ n : Nat, (∀ (t : oS) (x1 : Int32) (x2 : Int32), (x2.toInt = 1 → oQ B x t) → (x2.toInt = 0 → (oQ B (x + 1) t ∧ oMn t)) → ((t.1 71 55).toInt = (B : Int)) → (0 ≤ (t.1 71 48).toInt ∧ (t.1 71 48).toInt ≤ 6) → ((s.1 71 2).toInt - (s.1 71 45).toInt - (s.1 71 47).toInt ≤ (t.1 71 2).toInt - (t.1 71 45).toInt - (t.1 71 47).toInt + 1) → ((t.1 71 5).toInt = 0 → (s.1 71 2).toInt - (s.1 71 45).toInt - (s.1 71 47).toInt ≤ (t.1 71 2).toInt - (t.1 71 45).toInt - (t.1 71 47).toInt) → ((s.1 71 2).toInt ≤ (t.1 71 2).toInt) → (0 ≤ x2.toInt ∧ x2.toInt ≤ 1) → ((x2.toInt = 0 ∧ (t.1 71 5).toInt = 0) → (s.1 71 2).toInt + 1 ≤ (t.1 71 2).toInt) → (0 ≤ x1.toInt ∧ x1.toInt ≤ 1700) → (x2.toInt = 1 → oqJ g fp fq cz kx B 1 t) → (x2.toInt = 0 → (oqJ g fp fq cz kx B 3 t ∧ oqGe g t)) → ((s.1 71 47).toInt = (B : Int)) → (oqZ g t) → (oqWd t) → (oqMo fp fq t) → (oqBP t) → (x2.toInt = 1 → oqJw g fp fq cw xw B cs 1 t) → (x2.toInt = 0 → oqJw g fp fq cw xw B cs 3 t) → (owC0 Cq t) → 4000 * (1602 - (t.1 71 2).toInt) + x2.toInt ≤ (n : Int) → J t 15 [(0, .ref (oad E 71)), (1, .int x1), (2, .int x2)] []) ∧ (∀ (t : oS) (x1 : Int32), (oQ B (x + 1) t) → (oMn t) → ((t.1 71 55).toInt = (B : Int)) → (0 ≤ (t.1 71 48).toInt ∧ (t.1 71 48).toInt ≤ 6) → ((s.1 71 2).toInt - (s.1 71 45).toInt - (s.1 71 47).toInt ≤ (t.1 71 2).toInt - (t.1 71 45).toInt - (t.1 71 47).toInt + 1) → ((t.1 71 5).toInt = 0 → ((s.1 71 2).toInt - (s.1 71 45).toInt - (s.1 71 47).toInt ≤ (t.1 71 2).toInt - (t.1 71 45).toInt - (t.1 71 47).toInt ∧ (s.1 71 2).toInt + 1 ≤ (t.1 71 2).toInt)) → ((s.1 71 2).toInt ≤ (t.1 71 2).toInt) → (0 ≤ x1.toInt ∧ x1.toInt ≤ 1700) → (oqJ g fp fq cz kx B 3 t) → (oqGe g t) → ((s.1 71 47).toInt = (B : Int) ∧ (t.1 71 2).toInt = (t.1 71 2).toInt) → (oqZ g t) → (oqWd t) → (oqMo fp fq t) → (oqBP t) → (oqJw g fp fq cw xw B cs 3 t) → (owC0 Cq t) → (t.1 71 47).toInt + 1 ≤ (n : Int) → J t 53 [(0, .ref (oad E 71)), (1, .int x1)] []) := by
    intro n
    induction n using Nat.strongRecOn with
    | _ n ih =>
      refine ⟨?_, ?_⟩
      · intro t x1 x2  iv0 iv1 iv2 iv3 iv4 iv5 iv6 iv7 iv8 iv9 iv10 iv11 iv12 iv13 iv14 iv15 iv16 iv17 iv18 iv19 hmu
        have rx1 := n_rng x1
        have rx2 := n_rng x2
        refine r_ty C (fun hty => ?_)
        have hty_coded : (0 : Int) ≤ ((t).1 71 45).toInt ∧ ((t).1 71 45).toInt ≤ 1600 := hty.1 71 45
        have hty_waits : (0 : Int) ≤ ((t).1 71 47).toInt ∧ ((t).1 71 47).toInt ≤ 1700 := hty.1 71 47
        have hty_at : (0 : Int) ≤ ((t).1 71 2).toInt ∧ ((t).1 71 2).toInt ≤ 1600 := hty.1 71 2
        clear hty
        refine r_iload_n C (j := 2) (oDec_at oX12_sums 9 rfl) rfl rfl ?_
        refine r_if_eq C 53 (oDec_at oX12_sums 10 rfl) (by decide) (fun cd1 => ?_) (fun cd1 => ?_)
        · skip
          refine r_pick C [0, 1] rfl ?_
          exact (ih (n - 1) (by omega)).2 (t) x1  (by first | exact (by assumption) | exact (iv1 (by omega)).1 | exact oQ_bad (iv0 (by omega)) (by omega)) (by first | exact (by assumption) | exact (iv1 (by omega)).2 | exact fun hb => by exfalso; omega) (by omega) (by omega) (by omega) (by omega) (by omega) (by omega) (by first | exact (by assumption) | exact (iv11 (by omega)).1 | exact oqJ_kp (iv10 (by omega)) (by omega) rfl rfl) (by first | exact (by assumption) | exact (iv11 (by omega)).2 | exact oqGe_mv iv9 (by omega) (by omega) | exact oqGe_b (by omega)) (by omega) iv13 iv14 iv15 iv16 (by first | exact (by assumption) | exact iv18 (by omega) | exact oqJw_bd (by omega)) iv19 (by omega)
        · skip
          refine r_aload_n C (j := 0) (oDec_at oX12_sums 11 rfl) rfl rfl ?_
          obtain ⟨v2, ev2⟩ : ∃ z : Int32, (t).1 71 5 = z := ⟨_, rfl⟩
          have gv2 : (t.1 71 5).toInt = v2.toInt := congrArg Int32.toInt (ev2)
          have rv2 := n_rng v2
          refine r_geti (k := 5) (lo := (-2147483648)) (hi := 2147483647) C v2 oCl12 rfl (by decide) flX12_173 rfl rfl (ev2) rfl rfl (oDec_at oX12_sums 12 rfl) (fun _ _ => ?_)
          refine r_if_ne C 53 (oDec_at oX12_sums 13 rfl) (by decide) (fun cd3 => ?_) (fun cd3 => ?_)
          · skip
            have lk4 : ((t).1 71 5).toInt = v2.toInt := congrArg Int32.toInt (ev2)
            refine r_pick C [0, 1] rfl ?_
            exact (ih (n - 1) (by omega)).2 (t) x1  (by first | exact (by assumption) | exact (iv1 (by omega)).1 | exact oQ_bad (iv0 (by omega)) (by omega)) (by first | exact (by assumption) | exact (iv1 (by omega)).2 | exact fun hb => by exfalso; omega) (by omega) (by omega) (by omega) (by omega) (by omega) (by omega) (by first | exact (by assumption) | exact (iv11 (by omega)).1 | exact oqJ_kp (iv10 (by omega)) (by omega) rfl rfl) (by first | exact (by assumption) | exact (iv11 (by omega)).2 | exact oqGe_mv iv9 (by omega) (by omega) | exact oqGe_b (by omega)) (by omega) iv13 iv14 iv15 iv16 (by first | exact (by assumption) | exact iv18 (by omega) | exact oqJw_bd (by omega)) iv19 (by omega)
          · skip
            have hq5 : oQ B x (t) := iv0 (by omega)
            have hq6 : oqJ g fp fq cz kx B 1 (t) := iv10 (by omega)
            have hq7 : oqJw g fp fq cw xw B cs 1 (t) := iv17 (by omega)
            refine r_aload_n C (j := 0) (oDec_at oX12_sums 14 rfl) rfl rfl ?_
            have lk8 : ((t).1 71 5).toInt = v2.toInt := congrArg Int32.toInt (ev2)
            refine r_callVv C oCl12 rfl miX12_onePart mlX12_313 (ct9_X12_onePart l E (t)  (B) (x) (g) (fp) (fq) (cz) (kx) (cw) (xw) (cs) (Cq) hq5 (by omega) (by omega) (by omega) (by omega) hq6 iv13 iv14 iv15 iv16 hq7 iv19) (by decide) rfl rfl rfl (Nat.le_of_ble_eq_true rfl) (oDec_at oX12_sums 15 rfl) (fun u9 pu9 fu9 => ?_)
            try dsimp only at pu9
            try simp only [lk8] at pu9
            obtain ⟨pu9_0, pu9_1, pu9_2, pu9_3, pu9_4, pu9_5, pu9_6, pu9_7, pu9_8⟩ := pu9
            refine r_aload_n C (j := 0) (oDec_at oX12_sums 16 rfl) rfl rfl ?_
            obtain ⟨v11, ev11⟩ : ∃ z : Int32, (u9).1 71 5 = z := ⟨_, rfl⟩
            have gv11 : (u9.1 71 5).toInt = v11.toInt := congrArg Int32.toInt (ev11)
            have rv11 := n_rng v11
            refine r_geti (k := 5) (lo := (-2147483648)) (hi := 2147483647) C v11 oCl12 rfl (by decide) flX12_173 rfl rfl (ev11) rfl rfl (oDec_at oX12_sums 17 rfl) (fun _ _ => ?_)
            refine r_if_ne C 48 (oDec_at oX12_sums 18 rfl) (by decide) (fun cd12 => ?_) (fun cd12 => ?_)
            · skip
              have lk13 : ((u9).1 71 5).toInt = v11.toInt := congrArg Int32.toInt (ev11)
              have hq14 : oqJ g fp fq cz kx B 3 (u9) := pu9_5
              have hq15 : oqGe g (u9) := (by first | exact (by assumption) | exact oqGe_b (by omega))
              have hq16 : oqJw g fp fq cw xw B cs 3 (u9) := pu9_7
              refine r_iconst C (oDec_at oX12_sums 24 rfl) (v := k0) (by rw [qk0]; rfl) ?_
              refine r_istore_n C (lv' := [(0, .ref (oad E 71)), (1, .int x1), (2, .int k0)]) [1, 2, 0] (oDec_at oX12_sums 25 rfl) rfl (by decide) rfl ?_
              refine r_goto C (tgt := 15) (oDec_at oX12_sums 26 rfl) (by decide) ?_
              have lk17 : ((u9).1 71 55).toInt = (t.1 71 55).toInt := congrArg Int32.toInt ((fu9 71 55 rfl).1)
              have lk18 : ((u9).1 71 5).toInt = v11.toInt := congrArg Int32.toInt (ev11)
              have lk19 : ((u9).1 71 5).toInt = v11.toInt := congrArg Int32.toInt (ev11)
              exact (ih (n - 1) (by omega)).1 (u9) x1 k0  (by first | exact fun _ => (by assumption) | (intro h; exfalso; omega)) (by first | (intro h; exfalso; omega) | exact fun _ => pu9_2 (by omega) | exact fun _ => ⟨pu9_0, fun hb => by exfalso; omega⟩) (by omega) (by omega) (by omega) (by omega) (by omega) (by omega) (by omega) (by omega) (by first | (intro h; exfalso; omega) | exact fun _ => (by assumption)) (by first | (intro h; exfalso; omega) | exact fun _ => ⟨hq14, hq15⟩) (by omega) (oqZ_fr fu9 rfl iv13) (oqWd_fr fu9 rfl iv14) (oqMo_fr fu9 rfl iv15) pu9_6 (by first | (intro h; exfalso; omega) | exact fun _ => (by assumption)) (by first | (intro h; exfalso; omega) | exact fun _ => hq16) pu9_8 (by omega)
            · skip
              refine r_aload_n C (j := 0) (oDec_at oX12_sums 19 rfl) rfl rfl ?_
              have lk20 : ((u9).1 71 55).toInt = (t.1 71 55).toInt := congrArg Int32.toInt ((fu9 71 55 rfl).1)
              have lk21 : ((u9).1 71 5).toInt = v11.toInt := congrArg Int32.toInt (ev11)
              refine r_callVi C oCl12 rfl miX12_goesOn mlX12_316 (ct9_X12_goesOn l E (u9)  (B) (x) (g) (fp) (fq) (cz) (kx) (cw) (xw) (cs) (Cq) pu9_0 (by omega) (by omega) (by omega) (by omega) (by omega) pu9_5 (oqZ_fr fu9 rfl iv13) pu9_6 pu9_7 (by omega) pu9_8) (by decide) rfl rfl rfl (Nat.le_of_ble_eq_true rfl) (oDec_at oX12_sums 20 rfl) (fun r23 u22 pu22 fu22 => ?_)
              try dsimp only at pu22
              try simp only [lk20, lk21] at pu22
              obtain ⟨pu22_0, pu22_1, pu22_2, pu22_3, pu22_4, pu22_5, pu22_6, pu22_7, pu22_8, pu22_9, pu22_10, pu22_11, pu22_12⟩ := pu22
              have rr23 := n_rng r23
              refine r_if_eq C 48 (oDec_at oX12_sums 21 rfl) (by decide) (fun cd24 => ?_) (fun cd24 => ?_)
              · skip
                clear pu22_6
                replace pu22_7 := pu22_7 (by omega)
                replace pu22_8 := pu22_8 (by omega)
                clear pu22_10
                replace pu22_11 := pu22_11 (by omega)
                have hq25 : oqJ g fp fq cz kx B 3 (u22) := (by assumption)
                have hq26 : oqGe g (u22) := (by first | exact (by assumption) | exact oqGe_b (by omega))
                have hq27 : oqJw g fp fq cw xw B cs 3 (u22) := (by assumption)
                refine r_iconst C (oDec_at oX12_sums 24 rfl) (v := k0) (by rw [qk0]; rfl) ?_
                refine r_istore_n C (lv' := [(0, .ref (oad E 71)), (1, .int x1), (2, .int k0)]) [1, 2, 0] (oDec_at oX12_sums 25 rfl) rfl (by decide) rfl ?_
                refine r_goto C (tgt := 15) (oDec_at oX12_sums 26 rfl) (by decide) ?_
                have lk28 : ((u22).1 71 55).toInt = (t.1 71 55).toInt := congrArg Int32.toInt (((fu22 71 55 rfl).1).trans ((fu9 71 55 rfl).1))
                exact (ih (n - 1) (by omega)).1 (u22) x1 k0  (by first | exact fun _ => (by assumption) | (intro h; exfalso; omega)) (by first | (intro h; exfalso; omega) | exact fun _ => pu22_2 (by omega) | exact fun _ => ⟨(by assumption), fun hb => by exfalso; omega⟩) (by omega) (by omega) (by omega) (by omega) (by omega) (by omega) (by omega) (by omega) (by first | (intro h; exfalso; omega) | exact fun _ => (by assumption)) (by first | (intro h; exfalso; omega) | exact fun _ => ⟨hq25, hq26⟩) (by omega) (oqZ_fr fu22 rfl (oqZ_fr fu9 rfl iv13)) (oqWd_fr fu22 rfl (oqWd_fr fu9 rfl iv14)) (oqMo_fr fu22 rfl (oqMo_fr fu9 rfl iv15)) pu22_9 (by first | (intro h; exfalso; omega) | exact fun _ => (by assumption)) (by first | (intro h; exfalso; omega) | exact fun _ => hq27) pu22_12 (by omega)
              · skip
                replace pu22_6 := pu22_6 (by omega)
                clear pu22_7
                clear pu22_8
                replace pu22_10 := pu22_10 (by omega)
                clear pu22_11
                have hq29 : oQ B x (u22) := pu22_1 (by omega)
                have hq30 : oqJ g fp fq cz kx B 1 (u22) := pu22_6
                have hq31 : oqJw g fp fq cw xw B cs 1 (u22) := pu22_10
                refine r_iconst C (oDec_at oX12_sums 22 rfl) (v := k1) (by rw [qk1]; rfl) ?_
                refine r_goto C (tgt := 49) (oDec_at oX12_sums 23 rfl) (by decide) ?_
                refine r_istore_n C (lv' := [(0, .ref (oad E 71)), (1, .int x1), (2, .int k1)]) [1, 2, 0] (oDec_at oX12_sums 25 rfl) rfl (by decide) rfl ?_
                refine r_goto C (tgt := 15) (oDec_at oX12_sums 26 rfl) (by decide) ?_
                have lk32 : ((u22).1 71 55).toInt = (t.1 71 55).toInt := congrArg Int32.toInt (((fu22 71 55 rfl).1).trans ((fu9 71 55 rfl).1))
                exact (ih (n - 1) (by omega)).1 (u22) x1 k1  (by first | exact fun _ => hq29 | (intro h; exfalso; omega)) (by first | (intro h; exfalso; omega) | exact fun _ => pu22_2 (by omega) | exact fun _ => ⟨(by assumption), fun hb => by exfalso; omega⟩) (by omega) (by omega) (by omega) (by omega) (by omega) (by omega) (by omega) (by omega) (by first | (intro h; exfalso; omega) | exact fun _ => hq30) (by first | (intro h; exfalso; omega) | exact fun _ => ⟨(by assumption), (by assumption)⟩) (by omega) (oqZ_fr fu22 rfl (oqZ_fr fu9 rfl iv13)) (oqWd_fr fu22 rfl (oqWd_fr fu9 rfl iv14)) (oqMo_fr fu22 rfl (oqMo_fr fu9 rfl iv15)) pu22_9 (by first | (intro h; exfalso; omega) | exact fun _ => hq31) (by first | (intro h; exfalso; omega) | exact fun _ => (by assumption)) pu22_12 (by omega)
      · intro t x1  iv0 iv1 iv2 iv3 iv4 iv5 iv6 iv7 iv8 iv9 iv10 iv11 iv12 iv13 iv14 iv15 iv16 hmu
        have rx1 := n_rng x1
        refine r_ty C (fun hty => ?_)
        have hty_coded : (0 : Int) ≤ ((t).1 71 45).toInt ∧ ((t).1 71 45).toInt ≤ 1600 := hty.1 71 45
        have hty_waits : (0 : Int) ≤ ((t).1 71 47).toInt ∧ ((t).1 71 47).toInt ≤ 1700 := hty.1 71 47
        have hty_at : (0 : Int) ≤ ((t).1 71 2).toInt ∧ ((t).1 71 2).toInt ≤ 1600 := hty.1 71 2
        clear hty
        refine r_aload_n C (j := 0) (oDec_at oX12_sums 27 rfl) rfl rfl ?_
        obtain ⟨v33, ev33⟩ : ∃ z : Int32, (t).1 71 5 = z := ⟨_, rfl⟩
        have gv33 : (t.1 71 5).toInt = v33.toInt := congrArg Int32.toInt (ev33)
        have rv33 := n_rng v33
        refine r_geti (k := 5) (lo := (-2147483648)) (hi := 2147483647) C v33 oCl12 rfl (by decide) flX12_173 rfl rfl (ev33) rfl rfl (oDec_at oX12_sums 28 rfl) (fun _ _ => ?_)
        refine r_if_ne C 78 (oDec_at oX12_sums 29 rfl) (by decide) (fun cd34 => ?_) (fun cd34 => ?_)
        · skip
          have lk35 : ((t).1 71 5).toInt = v33.toInt := congrArg Int32.toInt (ev33)
          have hbw : ((t).1 71 5).toInt = 0 → (B : Int) ≤ ((t).1 71 47).toInt := fun h9 => by have h8 := ((iv8).1 h9).2.2; have h7 := n_nat ((t).1 71 47); omega
          have hq36 : oQ 9999 (x + 1) (t) := oQ_ST iv0 (by omega)
          refine r_aload_n C (j := 0) (oDec_at oX12_sums 38 rfl) rfl rfl ?_
          refine r_iload_n C (j := 1) (oDec_at oX12_sums 39 rfl) rfl rfl ?_
          refine r_puti (k := 55) (lo := 0) (hi := 1700) C oCl12 rfl (by decide) flX12_283 rfl rfl rfl rfl rfl rfl rfl rfl ⟨by omega, by omega⟩ (oDec_at oX12_sums 40 rfl) ?_
          have lk37 : (((pI t 71 55 x1)).1 71 47).toInt = (t.1 71 47).toInt := congrArg Int32.toInt ((pI_ne (a := 71) (b := 47) (c := 71) (k := 55) _ _ (Or.inr (by decide))))
          have lk38 : (((pI t 71 55 x1)).1 71 5).toInt = v33.toInt := congrArg Int32.toInt (((pI_ne (a := 71) (b := 5) (c := 71) (k := 55) _ _ (Or.inr (by decide)))).trans (ev33))
          have hq39 : oqSe g B ((pI t 71 55 x1)) := oqSe_of (oqGe_fr (oFr_oneI (q := 12) (m := 55) rfl (by rfl)) rfl iv9) (fun h9 => by omega)
          have lk40 : (((pI t 71 55 x1)).1 71 48).toInt = (t.1 71 48).toInt := congrArg Int32.toInt ((pI_ne (a := 71) (b := 48) (c := 71) (k := 55) _ _ (Or.inr (by decide))))
          have lk41 : (((pI t 71 55 x1)).1 71 2).toInt = (t.1 71 2).toInt := congrArg Int32.toInt ((pI_ne (a := 71) (b := 2) (c := 71) (k := 55) _ _ (Or.inr (by decide))))
          have lk42 : (((pI t 71 55 x1)).1 71 45).toInt = (t.1 71 45).toInt := congrArg Int32.toInt ((pI_ne (a := 71) (b := 45) (c := 71) (k := 55) _ _ (Or.inr (by decide))))
          have lk43 : (((pI t 71 55 x1)).1 71 47).toInt = (t.1 71 47).toInt := congrArg Int32.toInt ((pI_ne (a := 71) (b := 47) (c := 71) (k := 55) _ _ (Or.inr (by decide))))
          have lk44 : (((pI t 71 55 x1)).1 71 5).toInt = v33.toInt := congrArg Int32.toInt (((pI_ne (a := 71) (b := 5) (c := 71) (k := 55) _ _ (Or.inr (by decide)))).trans (ev33))
          have lk45 : (((pI t 71 55 x1)).1 71 2).toInt = (t.1 71 2).toInt := congrArg Int32.toInt ((pI_ne (a := 71) (b := 2) (c := 71) (k := 55) _ _ (Or.inr (by decide))))
          have lk46 : (((pI t 71 55 x1)).1 71 45).toInt = (t.1 71 45).toInt := congrArg Int32.toInt ((pI_ne (a := 71) (b := 45) (c := 71) (k := 55) _ _ (Or.inr (by decide))))
          have lk47 : (((pI t 71 55 x1)).1 71 47).toInt = (t.1 71 47).toInt := congrArg Int32.toInt ((pI_ne (a := 71) (b := 47) (c := 71) (k := 55) _ _ (Or.inr (by decide))))
          have lk48 : (((pI t 71 55 x1)).1 71 2).toInt = (t.1 71 2).toInt := congrArg Int32.toInt ((pI_ne (a := 71) (b := 2) (c := 71) (k := 55) _ _ (Or.inr (by decide))))
          exact r_vret C (oDec_at oX12_sums 41 rfl) ⟨rfl, ⟨(oQ_fr (oFr_oneI (q := 12) (m := 55) rfl (by rfl)) rfl hq36), by omega, by omega, by omega, by omega, (oqJ_fr (oFr_oneI (q := 12) (m := 55) rfl (by rfl)) rfl iv8), hq39, (oqBP_fr (oFr_oneI (q := 12) (m := 55) rfl (by rfl)) rfl iv14), (oqJw_fr (oFr_oneI (q := 12) (m := 55) rfl (by rfl)) rfl iv15), (owC0_fr (oFr_oneI (q := 12) (m := 55) rfl (by rfl)) rfl iv16)⟩⟩
        · skip
          refine r_aload_n C (j := 0) (oDec_at oX12_sums 30 rfl) rfl rfl ?_
          obtain ⟨v49, ev49⟩ : ∃ z : Int32, (t).1 71 47 = z := ⟨_, rfl⟩
          have gv49 : (t.1 71 47).toInt = v49.toInt := congrArg Int32.toInt (ev49)
          refine r_geti (k := 47) (lo := 0) (hi := 1700) C v49 oCl12 rfl (by decide) flX12_277 rfl rfl (ev49) rfl rfl (oDec_at oX12_sums 31 rfl) (fun b50 b50h => ?_)
          refine r_aload_n C (j := 0) (oDec_at oX12_sums 32 rfl) rfl rfl ?_
          obtain ⟨v51, ev51⟩ : ∃ z : Int32, (t).1 71 55 = z := ⟨_, rfl⟩
          have gv51 : (t.1 71 55).toInt = v51.toInt := congrArg Int32.toInt (ev51)
          refine r_geti (k := 55) (lo := 0) (hi := 1700) C v51 oCl12 rfl (by decide) flX12_283 rfl rfl (ev51) rfl rfl (oDec_at oX12_sums 33 rfl) (fun b52 b52h => ?_)
          refine r_icmp_le C 78 (oDec_at oX12_sums 34 rfl) (by decide) (fun cd53 => ?_) (fun cd53 => ?_)
          · skip
            have lk54 : ((t).1 71 5).toInt = v33.toInt := congrArg Int32.toInt (ev33)
            have lk55 : ((t).1 71 47).toInt = v49.toInt := congrArg Int32.toInt (ev49)
            have lk56 : ((t).1 71 55).toInt = v51.toInt := congrArg Int32.toInt (ev51)
            have hbw : ((t).1 71 5).toInt = 0 → (B : Int) ≤ ((t).1 71 47).toInt := fun h9 => by have h8 := ((iv8).1 h9).2.2; have h7 := n_nat ((t).1 71 47); omega
            have hq57 : oQ 9999 (x + 1) (t) := oQ_ST iv0 (by omega)
            refine r_aload_n C (j := 0) (oDec_at oX12_sums 38 rfl) rfl rfl ?_
            refine r_iload_n C (j := 1) (oDec_at oX12_sums 39 rfl) rfl rfl ?_
            refine r_puti (k := 55) (lo := 0) (hi := 1700) C oCl12 rfl (by decide) flX12_283 rfl rfl rfl rfl rfl rfl rfl rfl ⟨by omega, by omega⟩ (oDec_at oX12_sums 40 rfl) ?_
            have lk58 : (((pI t 71 55 x1)).1 71 47).toInt = v49.toInt := congrArg Int32.toInt (((pI_ne (a := 71) (b := 47) (c := 71) (k := 55) _ _ (Or.inr (by decide)))).trans (ev49))
            have lk59 : (((pI t 71 55 x1)).1 71 5).toInt = v33.toInt := congrArg Int32.toInt (((pI_ne (a := 71) (b := 5) (c := 71) (k := 55) _ _ (Or.inr (by decide)))).trans (ev33))
            have hq60 : oqSe g B ((pI t 71 55 x1)) := oqSe_of (oqGe_fr (oFr_oneI (q := 12) (m := 55) rfl (by rfl)) rfl iv9) (fun h9 => by omega)
            have lk61 : (((pI t 71 55 x1)).1 71 48).toInt = (t.1 71 48).toInt := congrArg Int32.toInt ((pI_ne (a := 71) (b := 48) (c := 71) (k := 55) _ _ (Or.inr (by decide))))
            have lk62 : (((pI t 71 55 x1)).1 71 2).toInt = (t.1 71 2).toInt := congrArg Int32.toInt ((pI_ne (a := 71) (b := 2) (c := 71) (k := 55) _ _ (Or.inr (by decide))))
            have lk63 : (((pI t 71 55 x1)).1 71 45).toInt = (t.1 71 45).toInt := congrArg Int32.toInt ((pI_ne (a := 71) (b := 45) (c := 71) (k := 55) _ _ (Or.inr (by decide))))
            have lk64 : (((pI t 71 55 x1)).1 71 47).toInt = v49.toInt := congrArg Int32.toInt (((pI_ne (a := 71) (b := 47) (c := 71) (k := 55) _ _ (Or.inr (by decide)))).trans (ev49))
            have lk65 : (((pI t 71 55 x1)).1 71 5).toInt = v33.toInt := congrArg Int32.toInt (((pI_ne (a := 71) (b := 5) (c := 71) (k := 55) _ _ (Or.inr (by decide)))).trans (ev33))
            have lk66 : (((pI t 71 55 x1)).1 71 2).toInt = (t.1 71 2).toInt := congrArg Int32.toInt ((pI_ne (a := 71) (b := 2) (c := 71) (k := 55) _ _ (Or.inr (by decide))))
            have lk67 : (((pI t 71 55 x1)).1 71 45).toInt = (t.1 71 45).toInt := congrArg Int32.toInt ((pI_ne (a := 71) (b := 45) (c := 71) (k := 55) _ _ (Or.inr (by decide))))
            have lk68 : (((pI t 71 55 x1)).1 71 47).toInt = v49.toInt := congrArg Int32.toInt (((pI_ne (a := 71) (b := 47) (c := 71) (k := 55) _ _ (Or.inr (by decide)))).trans (ev49))
            have lk69 : (((pI t 71 55 x1)).1 71 2).toInt = (t.1 71 2).toInt := congrArg Int32.toInt ((pI_ne (a := 71) (b := 2) (c := 71) (k := 55) _ _ (Or.inr (by decide))))
            exact r_vret C (oDec_at oX12_sums 41 rfl) ⟨rfl, ⟨(oQ_fr (oFr_oneI (q := 12) (m := 55) rfl (by rfl)) rfl hq57), by omega, by omega, by omega, by omega, (oqJ_fr (oFr_oneI (q := 12) (m := 55) rfl (by rfl)) rfl iv8), hq60, (oqBP_fr (oFr_oneI (q := 12) (m := 55) rfl (by rfl)) rfl iv14), (oqJw_fr (oFr_oneI (q := 12) (m := 55) rfl (by rfl)) rfl iv15), (owC0_fr (oFr_oneI (q := 12) (m := 55) rfl (by rfl)) rfl iv16)⟩⟩
          · skip
            have hnt := oMk_nt (iv1 (by omega)) (by omega) (by omega)
            have h14 := oQ_topS iv0 (by omega) (by omega) (by omega)
            refine r_aload_n C (j := 0) (oDec_at oX12_sums 35 rfl) rfl rfl ?_
            have lk70 : ((t).1 71 47).toInt = v49.toInt := congrArg Int32.toInt (ev49)
            have lk71 : ((t).1 71 47).toInt = v49.toInt := congrArg Int32.toInt (ev49)
            refine r_callVv C oCl12 rfl miX12_drops mlX12_289 (ct9_X12_drops l E (t)  (Cq) (by omega) (by omega) iv16) (by decide) rfl rfl rfl (Nat.le_of_ble_eq_true rfl) (oDec_at oX12_sums 36 rfl) (fun u72 pu72 fu72 => ?_)
            try dsimp only at pu72
            try simp only [lk70, lk71] at pu72
            obtain ⟨pu72_0, pu72_1, pu72_2, pu72_3⟩ := pu72
            have lk74 : ((u72).1 71 2).toInt = (t.1 71 2).toInt := congrArg Int32.toInt ((fu72 71 2 rfl).1)
            have lk75 : ((u72).1 71 6).toInt = (t.1 71 6).toInt := congrArg Int32.toInt ((fu72 71 6 rfl).1)
            have lk76 : ((u72).1 71 5).toInt = v33.toInt := congrArg Int32.toInt (((fu72 71 5 rfl).1).trans (ev33))
            have hq77 : oQ B (x + 1) (u72) := oQ_drop iv0 pu72_0 (by omega) (by omega) (by omega) (by omega)
            have hq78 : oMn (u72) := oMn_drop iv1 pu72_0 (by omega) (by omega)
            have hq79 : oqJ g fp fq cz kx B 3 (u72) := oqJ_drop iv8 pu72_0 (by omega) (fun _ => by omega) (fun _ => oqCd_no (by omega))
            have hq80 : oqJw g fp fq cw xw B cs 3 (u72) := oqJw_drop iv15 pu72_0 (by omega) (by omega) (by omega) (by omega) (oqGe_mu iv9)
            refine r_goto C (tgt := 53) (oDec_at oX12_sums 37 rfl) (by decide) ?_
            have lk81 : ((u72).1 71 55).toInt = v51.toInt := congrArg Int32.toInt (((fu72 71 55 rfl).1).trans (ev51))
            have lk82 : ((u72).1 71 48).toInt = (t.1 71 48).toInt := congrArg Int32.toInt ((fu72 71 48 rfl).1)
            have lk83 : ((u72).1 71 2).toInt = (t.1 71 2).toInt := congrArg Int32.toInt ((fu72 71 2 rfl).1)
            have lk84 : ((u72).1 71 5).toInt = v33.toInt := congrArg Int32.toInt (((fu72 71 5 rfl).1).trans (ev33))
            have lk85 : ((u72).1 71 2).toInt = (t.1 71 2).toInt := congrArg Int32.toInt ((fu72 71 2 rfl).1)
            have lk86 : ((u72).1 71 2).toInt = (t.1 71 2).toInt := congrArg Int32.toInt ((fu72 71 2 rfl).1)
            have lk87 : ((u72).1 71 2).toInt = (t.1 71 2).toInt := congrArg Int32.toInt ((fu72 71 2 rfl).1)
            exact (ih (n - 1) (by omega)).2 (u72) x1  (by first | exact hq77 | exact (iv1 (by omega)).1 | exact oQ_bad (iv0 (by omega)) (by omega)) (by first | exact hq78 | exact (iv1 (by omega)).2 | exact fun hb => by exfalso; omega) (by omega) (by omega) (by omega) (by omega) (by omega) (by omega) (by first | exact hq79 | exact (iv11 (by omega)).1 | exact oqJ_kp (iv10 (by omega)) (by omega) rfl rfl) (by first | exact (oqGe_fr fu72 rfl iv9) | exact (iv11 (by omega)).2 | exact oqGe_mv iv9 (by omega) (by omega) | exact oqGe_b (by omega)) (by omega) (oqZ_fr fu72 rfl iv11) (oqWd_fr fu72 rfl iv12) (oqMo_fr fu72 rfl iv13) (oqBP_fr fu72 rfl iv14) (by first | exact hq80 | exact oqJw_bd (by omega)) pu72_3 (by omega)
  refine r_aload_n C (j := 0) (oDec_at oX12_sums 0 rfl) rfl rfl ?_
  obtain ⟨v88, ev88⟩ : ∃ z : Int32, (s).1 71 55 = z := ⟨_, rfl⟩
  have gv88 : (s.1 71 55).toInt = v88.toInt := congrArg Int32.toInt (ev88)
  refine r_geti (k := 55) (lo := 0) (hi := 1700) C v88 oCl12 rfl (by decide) flX12_283 rfl rfl (ev88) rfl rfl (oDec_at oX12_sums 1 rfl) (fun b89 b89h => ?_)
  refine r_istore_n C (lv' := [(0, .ref (oad E 71)), (1, .int v88)]) [1, 0] (oDec_at oX12_sums 2 rfl) rfl (by decide) rfl ?_
  refine r_aload_n C (j := 0) (oDec_at oX12_sums 3 rfl) rfl rfl ?_
  refine r_aload_n C (j := 0) (oDec_at oX12_sums 4 rfl) rfl rfl ?_
  obtain ⟨v90, ev90⟩ : ∃ z : Int32, (s).1 71 47 = z := ⟨_, rfl⟩
  have gv90 : (s.1 71 47).toInt = v90.toInt := congrArg Int32.toInt (ev90)
  refine r_geti (k := 47) (lo := 0) (hi := 1700) C v90 oCl12 rfl (by decide) flX12_277 rfl rfl (ev90) rfl rfl (oDec_at oX12_sums 5 rfl) (fun b91 b91h => ?_)
  refine r_pc C 10 rfl ?_
  refine r_puti (k := 55) (lo := 0) (hi := 1700) C oCl12 rfl (by decide) flX12_283 rfl rfl rfl rfl rfl rfl rfl rfl ⟨by omega, by omega⟩ (oDec_at oX12_sums 6 rfl) ?_
  have hq92 : oQ B x ((pI s 71 55 v90)) := oQ_TS (oQ_fr (oFr_oneI (q := 12) (m := 55) rfl (by rfl)) rfl hp0) hB
  refine r_iconst C (oDec_at oX12_sums 7 rfl) (v := k1) (by rw [qk1]; rfl) ?_
  refine r_istore_n C (lv' := [(0, .ref (oad E 71)), (1, .int v88), (2, .int k1)]) [1, 2, 0] (oDec_at oX12_sums 8 rfl) rfl (by decide) rfl ?_
  have lk93 : (((pI s 71 55 v90)).1 71 55).toInt = v90.toInt := congrArg Int32.toInt ((pI_self _ _ _ _))
  have lk94 : (((pI s 71 55 v90)).1 71 48).toInt = (s.1 71 48).toInt := congrArg Int32.toInt ((pI_ne (a := 71) (b := 48) (c := 71) (k := 55) _ _ (Or.inr (by decide))))
  have lk95 : (((pI s 71 55 v90)).1 71 2).toInt = (s.1 71 2).toInt := congrArg Int32.toInt ((pI_ne (a := 71) (b := 2) (c := 71) (k := 55) _ _ (Or.inr (by decide))))
  have lk96 : (((pI s 71 55 v90)).1 71 45).toInt = (s.1 71 45).toInt := congrArg Int32.toInt ((pI_ne (a := 71) (b := 45) (c := 71) (k := 55) _ _ (Or.inr (by decide))))
  have lk97 : (((pI s 71 55 v90)).1 71 47).toInt = v90.toInt := congrArg Int32.toInt (((pI_ne (a := 71) (b := 47) (c := 71) (k := 55) _ _ (Or.inr (by decide)))).trans (ev90))
  have lk98 : (((pI s 71 55 v90)).1 71 5).toInt = (s.1 71 5).toInt := congrArg Int32.toInt ((pI_ne (a := 71) (b := 5) (c := 71) (k := 55) _ _ (Or.inr (by decide))))
  have lk99 : (((pI s 71 55 v90)).1 71 2).toInt = (s.1 71 2).toInt := congrArg Int32.toInt ((pI_ne (a := 71) (b := 2) (c := 71) (k := 55) _ _ (Or.inr (by decide))))
  have lk100 : (((pI s 71 55 v90)).1 71 45).toInt = (s.1 71 45).toInt := congrArg Int32.toInt ((pI_ne (a := 71) (b := 45) (c := 71) (k := 55) _ _ (Or.inr (by decide))))
  have lk101 : (((pI s 71 55 v90)).1 71 47).toInt = v90.toInt := congrArg Int32.toInt (((pI_ne (a := 71) (b := 47) (c := 71) (k := 55) _ _ (Or.inr (by decide)))).trans (ev90))
  have lk102 : (((pI s 71 55 v90)).1 71 2).toInt = (s.1 71 2).toInt := congrArg Int32.toInt ((pI_ne (a := 71) (b := 2) (c := 71) (k := 55) _ _ (Or.inr (by decide))))
  have lk103 : (((pI s 71 55 v90)).1 71 5).toInt = (s.1 71 5).toInt := congrArg Int32.toInt ((pI_ne (a := 71) (b := 5) (c := 71) (k := 55) _ _ (Or.inr (by decide))))
  have lk104 : (((pI s 71 55 v90)).1 71 2).toInt = (s.1 71 2).toInt := congrArg Int32.toInt ((pI_ne (a := 71) (b := 2) (c := 71) (k := 55) _ _ (Or.inr (by decide))))
  have lk105 : (((pI s 71 55 v90)).1 71 2).toInt = (s.1 71 2).toInt := congrArg Int32.toInt ((pI_ne (a := 71) (b := 2) (c := 71) (k := 55) _ _ (Or.inr (by decide))))
  exact (key (4000 * (1602 - (((pI s 71 55 v90)).1 71 2).toInt) + k1.toInt).toNat).1 ((pI s 71 55 v90)) v88 k1  (by first | exact fun _ => hq92 | (intro h; exfalso; omega)) (by first | (intro h; exfalso; omega) | exact fun _ => ⟨(by assumption), fun hb => by exfalso; omega⟩) (by omega) (by omega) (by omega) (by omega) (by omega) (by omega) (by omega) (by omega) (by first | (intro h; exfalso; omega) | exact fun _ => (oqJ_fr (oFr_oneI (q := 12) (m := 55) rfl (by rfl)) rfl hp5)) (by first | (intro h; exfalso; omega) | exact fun _ => ⟨(by assumption), (by assumption)⟩) (by omega) (oqZ_fr (oFr_oneI (q := 12) (m := 55) rfl (by rfl)) rfl hp6) (oqWd_fr (oFr_oneI (q := 12) (m := 55) rfl (by rfl)) rfl hp7) (oqMo_fr (oFr_oneI (q := 12) (m := 55) rfl (by rfl)) rfl hp8) (oqBP_fr (oFr_oneI (q := 12) (m := 55) rfl (by rfl)) rfl hp9) (by first | (intro h; exfalso; omega) | exact fun _ => (oqJw_fr (oFr_oneI (q := 12) (m := 55) rfl (by rfl)) rfl hp10)) (by first | (intro h; exfalso; omega) | exact fun _ => (by assumption)) (owC0_fr (oFr_oneI (q := 12) (m := 55) rfl (by rfl)) rfl hp12) (by omega)
set_option maxHeartbeats 4000000 in
set_option maxRecDepth 100000 in
theorem ct9_X12_fact (l : Launch) (E : oE) (s : oS)  (g : Int → Int) (fp : Int) (fq : Int) (cz : oqCf) (cw : oqCw) (cs : Nat) (Cq : Nat → Int32) (hp0 : oQ 9999 0 s) (hp1 : (s.1 71 5).toInt = 0) (hp2 : 0 ≤ (s.1 71 48).toInt ∧ (s.1 71 48).toInt ≤ 6) (hp3 : (s.1 71 45).toInt + (s.1 71 47).toInt + 5 ≤ (s.1 71 2).toInt) (hp4 : oqTt g fp fq cz 0 s) (hp5 : oqSk g (s.1 71 2).toInt = (s.1 71 2).toInt ∧ g (s.1 71 2).toInt ≠ 91 ∧ oqWi g (s.1 71 2).toInt (s.1 71 4).toInt ≠ 9) (hp6 : oqZ g s) (hp7 : oqWd s) (hp8 : oqMo fp fq s) (hp9 : oqBP s) (hp10 : oqTx g fp fq cw cs 0 s) (hp11 : owC0 Cq s) : oMet l 7 yX12_fact cX12_fact 2 none [(12, 2), (12, 4), (12, 5), (12, 6), (12, 9), (12, 45), (12, 47), (12, 48), (12, 55), (78, 9999), (79, 9999)] E s [.ref (oad E 71)] (oPv (fun u => (oQ 9999 1 u) ∧ (0 ≤ (u.1 71 48).toInt ∧ (u.1 71 48).toInt ≤ 6) ∧ ((s.1 71 2).toInt - (s.1 71 45).toInt - (s.1 71 47).toInt ≤ (u.1 71 2).toInt - (u.1 71 45).toInt - (u.1 71 47).toInt + 2) ∧ ((u.1 71 5).toInt = 0 → ((s.1 71 2).toInt - (s.1 71 45).toInt - (s.1 71 47).toInt ≤ (u.1 71 2).toInt - (u.1 71 45).toInt - (u.1 71 47).toInt ∧ (s.1 71 2).toInt + 1 ≤ (u.1 71 2).toInt)) ∧ ((s.1 71 2).toInt ≤ (u.1 71 2).toInt) ∧ (oqTt g fp fq cz 2 u) ∧ (oqBP u) ∧ (oqTx g fp fq cw cs 2 u) ∧ (owC0 Cq u))) := by
  refine oMet.of (lv := [(0, .ref (oad E 71))]) (by decide +kernel) (Nat.le_of_ble_eq_true rfl) rfl (fun J C hT => ?_)
  have C : oC l 7 cX12_fact RX12 2 none [(12, 2), (12, 4), (12, 5), (12, 6), (12, 9), (12, 45), (12, 47), (12, 48), (12, 55), (78, 9999), (79, 9999)] E s (oPv (fun u => (oQ 9999 1 u) ∧ (0 ≤ (u.1 71 48).toInt ∧ (u.1 71 48).toInt ≤ 6) ∧ ((s.1 71 2).toInt - (s.1 71 45).toInt - (s.1 71 47).toInt ≤ (u.1 71 2).toInt - (u.1 71 45).toInt - (u.1 71 47).toInt + 2) ∧ ((u.1 71 5).toInt = 0 → ((s.1 71 2).toInt - (s.1 71 45).toInt - (s.1 71 47).toInt ≤ (u.1 71 2).toInt - (u.1 71 45).toInt - (u.1 71 47).toInt ∧ (s.1 71 2).toInt + 1 ≤ (u.1 71 2).toInt)) ∧ ((s.1 71 2).toInt ≤ (u.1 71 2).toInt) ∧ (oqTt g fp fq cz 2 u) ∧ (oqBP u) ∧ (oqTx g fp fq cw cs 2 u) ∧ (owC0 Cq u))) J := C
  obtain ⟨k1, qk1⟩ : ∃ z : Int32, z = 1 := ⟨_, rfl⟩
  have ek1 : k1.toInt = 1 := by rw [qk1]; rfl
  obtain ⟨k11, qk11⟩ : ∃ z : Int32, z = 11 := ⟨_, rfl⟩
  have ek11 : k11.toInt = 11 := by rw [qk11]; rfl
  obtain ⟨k12, qk12⟩ : ∃ z : Int32, z = 12 := ⟨_, rfl⟩
  have ek12 : k12.toInt = 12 := by rw [qk12]; rfl
  obtain ⟨k13, qk13⟩ : ∃ z : Int32, z = 13 := ⟨_, rfl⟩
  have ek13 : k13.toInt = 13 := by rw [qk13]; rfl
  obtain ⟨k17, qk17⟩ : ∃ z : Int32, z = 17 := ⟨_, rfl⟩
  have ek17 : k17.toInt = 17 := by rw [qk17]; rfl
  obtain ⟨k60, qk60⟩ : ∃ z : Int32, z = 60 := ⟨_, rfl⟩
  have ek60 : k60.toInt = 60 := by rw [qk60]; rfl
  obtain ⟨k61, qk61⟩ : ∃ z : Int32, z = 61 := ⟨_, rfl⟩
  have ek61 : k61.toInt = 61 := by rw [qk61]; rfl
  obtain ⟨k62, qk62⟩ : ∃ z : Int32, z = 62 := ⟨_, rfl⟩
  have ek62 : k62.toInt = 62 := by rw [qk62]; rfl
  have htz_waits : (0 : Int) ≤ (s.1 71 47).toInt ∧ (s.1 71 47).toInt ≤ 1700 := hT.1 71 47
  have htz_coded : (0 : Int) ≤ (s.1 71 45).toInt ∧ (s.1 71 45).toInt ≤ 1600 := hT.1 71 45
  have htz_at : (0 : Int) ≤ (s.1 71 2).toInt ∧ (s.1 71 2).toInt ≤ 1600 := hT.1 71 2
  refine r_aload_n C (j := 0) (oDec_at oX12_fact 0 rfl) rfl rfl ?_
  refine r_aload_n C (j := 0) (oDec_at oX12_fact 1 rfl) rfl rfl ?_
  refine r_getF (k := 20) (b := 83) C oCl12 rfl (by decide) flX12_48 rfl rfl rfl (oDec_at oX12_fact 2 rfl) ?_
  refine r_callVi C oCl12 rfl miX12_takes mlX12_200 (ct6_X12_takes l E (s) 83 59 3 rfl (by decide) (by decide) rfl rfl (g) ((s.1 71 2).toInt) ((s.1 71 4).toInt) (10) (by omega) (by omega) hp6 (by omega) (by omega) rfl (oqWd_at hp7 10 (by decide)) (by omega)) (by decide) rfl rfl rfl (Nat.le_of_ble_eq_true rfl) (oDec_at oX12_fact 3 rfl) (fun r2 u1 pu1 fu1 => ?_)
  try dsimp only at pu1
  obtain ⟨pu1_0, pu1_1, pu1_2, pu1_3, pu1_4⟩ := pu1
  have rr2 := n_rng r2
  refine r_if_eq C 18 (oDec_at oX12_fact 4 rfl) (by decide) (fun cd3 => ?_) (fun cd3 => ?_)
  · skip
    clear pu1_1
    replace pu1_2 := pu1_2 (by omega)
    have lk4 : ((u1).1 71 5).toInt = (s.1 71 5).toInt := congrArg Int32.toInt ((fu1 71 5 rfl).1)
    have lk5 : ((u1).1 71 48).toInt = (s.1 71 48).toInt := congrArg Int32.toInt ((fu1 71 48 rfl).1)
    have lk6 : ((u1).1 71 47).toInt = (s.1 71 47).toInt := congrArg Int32.toInt ((fu1 71 47 rfl).1)
    have hw10 := oqWi_w (g := g) (A := (s.1 71 2).toInt) (E := (s.1 71 4).toInt) (i := 10) (by decide) (by omega)
    obtain ⟨B, hB⟩ : ∃ B : Nat, B = ((u1).1 71 47).toNatClampNeg := ⟨_, rfl⟩
    have hBn := n_nat ((u1).1 71 47)
    have eA : ((u1).1 71 2).toInt = (s.1 71 2).toInt := by omega
    have eK : oqSk g (s.1 71 2).toInt = (s.1 71 2).toInt := by omega
    have eG : g (oqSk g ((u1).1 71 2).toInt) = g (s.1 71 2).toInt := by rw [eA, eK]
    have eW : oqWi g (oqSk g ((u1).1 71 2).toInt) ((u1).1 71 4).toInt = oqWi g (s.1 71 2).toInt (s.1 71 4).toInt := by rw [eA, eK, show ((u1).1 71 4).toInt = (s.1 71 4).toInt by omega]
    have hq7 : oqTt g fp fq cz 0 (u1) := oqI_id hp4 (oFr_row fu1 (c := 103) rfl rfl) (congrArg Int32.toInt (fu1 71 5 rfl).1) (congrArg Int32.toInt (fu1 71 47 rfl).1) (by rw [show ((u1).1 71 2).toInt = (s.1 71 2).toInt by omega]) (by omega) (congrArg Int32.toInt (fu1 71 48 rfl).1) (congrArg Int32.toInt (fu1 71 6 rfl).1)
    have hq8 : oqJ g fp fq cz 5 B 1 (u1) := oqI_J hq7 (by omega) (by omega) (by omega) (by omega) hB
    have hq9 : oqTx g fp fq cw cs 0 (u1) := oqTx_id hp10 (oqSq_of fu1 rfl) (fun h9 => (congrArg Int32.toInt (fu1 71 5 rfl).1).symm.trans h9) (by rw [show ((u1).1 71 2).toInt = (s.1 71 2).toInt by omega]) (by omega)
    have hq10 : oqJw g fp fq cw 30 B cs 1 (u1) := oqTx_J hq9 (by omega) (by omega) (by omega) (by omega) hB
    refine r_aload_n C (j := 0) (oDec_at oX12_fact 9 rfl) rfl rfl ?_
    have lk11 : ((u1).1 71 5).toInt = (s.1 71 5).toInt := congrArg Int32.toInt ((fu1 71 5 rfl).1)
    have lk12 : ((u1).1 71 48).toInt = (s.1 71 48).toInt := congrArg Int32.toInt ((fu1 71 48 rfl).1)
    have lk13 : ((u1).1 71 45).toInt = (s.1 71 45).toInt := congrArg Int32.toInt ((fu1 71 45 rfl).1)
    have lk14 : ((u1).1 71 47).toInt = (s.1 71 47).toInt := congrArg Int32.toInt ((fu1 71 47 rfl).1)
    have lk15 : ((u1).1 71 47).toInt = (s.1 71 47).toInt := congrArg Int32.toInt ((fu1 71 47 rfl).1)
    have lk16 : ((u1).1 71 45).toInt = (s.1 71 45).toInt := congrArg Int32.toInt ((fu1 71 45 rfl).1)
    have lk17 : ((u1).1 71 47).toInt = (s.1 71 47).toInt := congrArg Int32.toInt ((fu1 71 47 rfl).1)
    have lk18 : ((u1).1 71 45).toInt = (s.1 71 45).toInt := congrArg Int32.toInt ((fu1 71 45 rfl).1)
    have lk19 : ((u1).1 71 47).toInt = (s.1 71 47).toInt := congrArg Int32.toInt ((fu1 71 47 rfl).1)
    refine r_callVv C oCl12 rfl miX12_sums mlX12_319 (ct9_X12_sums l E (u1)  (0) (B) (g) (fp) (fq) (cz) (5) (cw) (30) (cs) (Cq) (oQ_fr fu1 rfl hp0) (by omega) (by omega) (by omega) (by omega) hq8 (oqZ_fr fu1 rfl hp6) (oqWd_fr fu1 rfl hp7) (oqMo_fr fu1 rfl hp8) (oqBP_fr fu1 rfl hp9) hq10 (by omega) (owC0_fr fu1 rfl hp11)) (by decide) rfl rfl rfl (Nat.le_of_ble_eq_true rfl) (oDec_at oX12_fact 10 rfl) (fun u20 pu20 fu20 => ?_)
    try dsimp only at pu20
    try simp only [lk11, lk12, lk13, lk14, lk15, lk16, lk17, lk18, lk19] at pu20
    obtain ⟨pu20_0, pu20_1, pu20_2, pu20_3, pu20_4, pu20_5, pu20_6, pu20_7, pu20_8, pu20_9⟩ := pu20
    refine r_aload_n C (j := 0) (oDec_at oX12_fact 11 rfl) rfl rfl ?_
    obtain ⟨v22, ev22⟩ : ∃ z : Int32, (u20).1 71 5 = z := ⟨_, rfl⟩
    have gv22 : (u20.1 71 5).toInt = v22.toInt := congrArg Int32.toInt (ev22)
    have rv22 := n_rng v22
    refine r_geti (k := 5) (lo := (-2147483648)) (hi := 2147483647) C v22 oCl12 rfl (by decide) flX12_173 rfl rfl (ev22) rfl rfl (oDec_at oX12_fact 12 rfl) (fun _ _ => ?_)
    refine r_if_eq C 30 (oDec_at oX12_fact 13 rfl) (by decide) (fun cd23 => ?_) (fun cd23 => ?_)
    · skip
      have lk24 : ((u20).1 71 5).toInt = v22.toInt := congrArg Int32.toInt (ev22)
      refine r_ty C (fun hty => ?_)
      have hty_coded : (0 : Int) ≤ ((u20).1 71 45).toInt ∧ ((u20).1 71 45).toInt ≤ 1600 := hty.1 71 45
      have hty_waits : (0 : Int) ≤ ((u20).1 71 47).toInt ∧ ((u20).1 71 47).toInt ≤ 1700 := hty.1 71 47
      clear hty
      obtain ⟨hW5, hN5, hS5⟩ := pu20_6 (by omega)
      have hq25 : oQ 9999 1 (u20) := pu20_0
      refine r_aload_n C (j := 0) (oDec_at oX12_fact 15 rfl) rfl rfl ?_
      have lk26 : ((u20).1 71 5).toInt = v22.toInt := congrArg Int32.toInt (ev22)
      obtain ⟨A, hA⟩ : ∃ z : Int, z = ((u20).1 71 2).toInt := ⟨_, rfl⟩
      have hSA : oqSk g A = A := by rw [hA]; exact hS5
      have lk27 : ((u20).1 71 3).toInt = (s.1 71 3).toInt := congrArg Int32.toInt (((fu20 71 3 rfl).1).trans ((fu1 71 3 rfl).1))
      refine r_callVi C oCl12 rfl miX12_look mlX12_185 (ct4_X12_look l E (u20)  (g) (A) (by omega) (oqZ_fr fu20 rfl (oqZ_fr fu1 rfl hp6))) (by decide) rfl rfl rfl (Nat.le_of_ble_eq_true rfl) (oDec_at oX12_fact 16 rfl) (fun r29 u28 pu28 fu28 => ?_)
      try dsimp only at pu28
      try simp only [lk27] at pu28
      obtain ⟨pu28_0, pu28_1, pu28_2, pu28_3, pu28_4, pu28_5⟩ := pu28
      have rr29 := n_rng r29
      have lk30 : ((u28).1 71 4).toInt = (u20.1 71 4).toInt := congrArg Int32.toInt ((fu28 71 4 rfl).1)
      have lk31 : ((u28).1 71 5).toInt = v22.toInt := congrArg Int32.toInt (((fu28 71 5 rfl).1).trans (ev22))
      have lk32 : ((u28).1 71 48).toInt = (u20.1 71 48).toInt := congrArg Int32.toInt ((fu28 71 48 rfl).1)
      have lk33 : ((u28).1 71 47).toInt = (u20.1 71 47).toInt := congrArg Int32.toInt ((fu28 71 47 rfl).1)
      have hgB : g (oqSk g A) = g A := by rw [show oqSk g A = A by omega]
      have eA2 : ((u28).1 71 2).toInt = A := by omega
      have hsk2 : oqSk g ((u28).1 71 2).toInt = ((u28).1 71 2).toInt := by rw [eA2]; omega
      have hgA2 : g (oqSk g ((u28).1 71 2).toInt) = g A := by rw [hsk2, eA2]
      have hno2 : ¬ oqOp g (oqSk g ((u28).1 71 2).toInt) := by rw [hsk2, eA2, hA]; exact oqNp4_n hN5
      have hWB : ((u28).1 71 47).toNatClampNeg = B := by have h7 := n_nat ((u28).1 71 47); omega
      have hq34 : oqJ g fp fq cz 5 B 3 (u28) := oqJ_id pu20_5 (oFr_row fu28 (c := 103) rfl rfl) (congrArg Int32.toInt (fu28 71 5 rfl).1) (congrArg Int32.toInt (fu28 71 47 rfl).1) (by rw [eA2, ← hA]) (congrArg Int32.toInt (fu28 71 4 rfl).1) (congrArg Int32.toInt (fu28 71 48 rfl).1) (congrArg Int32.toInt (fu28 71 6 rfl).1)
      have hq35 : oqJw g fp fq cw 30 B cs 3 (u28) := oqJw_id pu20_8 (oqSq_of fu28 rfl) (fun h9 => (congrArg Int32.toInt (fu28 71 5 rfl).1).symm.trans h9) (by rw [eA2, ← hA]) (congrArg Int32.toInt (fu28 71 4 rfl).1)
      refine r_istore_n C (lv' := [(0, .ref (oad E 71)), (1, .int r29)]) [1, 0] (oDec_at oX12_fact 17 rfl) rfl (by decide) rfl ?_
      refine r_iload_n C (j := 1) (oDec_at oX12_fact 18 rfl) rfl rfl ?_
      refine r_bipush C (oDec_at oX12_fact 19 rfl) (v := k60) (by rw [qk60]; rfl) ?_
      refine r_icmp_eq C 63 (oDec_at oX12_fact 20 rfl) (by decide) (fun cd36 => ?_) (fun cd36 => ?_)
      · skip
        have hsc := oqSc_v (g := g) (a := A)
        refine r_aload_n C (j := 0) (oDec_at oX12_fact 33 rfl) rfl rfl ?_
        refine r_dup C (oDec_at oX12_fact 34 rfl) rfl ?_
        obtain ⟨v37, ev37⟩ : ∃ z : Int32, (u28).1 71 2 = z := ⟨_, rfl⟩
        have gv37 : (u28.1 71 2).toInt = v37.toInt := congrArg Int32.toInt (ev37)
        refine r_geti (k := 2) (lo := 0) (hi := 1600) C v37 oCl12 rfl (by decide) flX12_179 rfl rfl (ev37) rfl rfl (oDec_at oX12_fact 35 rfl) (fun b38 b38h => ?_)
        refine r_iconst C (oDec_at oX12_fact 36 rfl) (v := k1) (by rw [qk1]; rfl) ?_
        obtain ⟨v39, ev39⟩ : ∃ z : Int32, z = v37 + k1 := ⟨_, rfl⟩
        have hv39 : v39.toInt = v37.toInt + k1.toInt := n_add ev39 (by omega) (by omega)
        refine r_iadd C v39 (oDec_at oX12_fact 37 rfl) ev39 ?_
        refine r_puti (k := 2) (lo := 0) (hi := 1600) C oCl12 rfl (by decide) flX12_179 rfl rfl rfl rfl rfl rfl rfl rfl ⟨by omega, by omega⟩ (oDec_at oX12_fact 38 rfl) ?_
        refine r_pc C 73 rfl ?_
        have hq40 : oqJ g fp fq cz 6 B 1 ((pI u28 71 2 v39)) := oqJ_sg hq34 (by omega) hWB hno2 (by omega) (by omega)
        have hq41 : oqJw g fp fq cw (oqSc g A) B cs 1 ((pI u28 71 2 v39)) := (by have h9 := fun (z : Int32) hz => oqJw_sg (z := z) hq35 (by omega) hWB hno2 hz; rw [hsk2, eA2] at h9; exact h9 _ (by omega))
        refine r_aload_n C (j := 0) (oDec_at oX12_fact 39 rfl) rfl rfl ?_
        have lk42 : (((pI u28 71 2 v39)).1 71 5).toInt = v22.toInt := congrArg Int32.toInt (((pI_ne (a := 71) (b := 5) (c := 71) (k := 2) _ _ (Or.inr (by decide)))).trans (((fu28 71 5 rfl).1).trans (ev22)))
        have lk43 : (((pI u28 71 2 v39)).1 71 48).toInt = (u20.1 71 48).toInt := congrArg Int32.toInt (((pI_ne (a := 71) (b := 48) (c := 71) (k := 2) _ _ (Or.inr (by decide)))).trans ((fu28 71 48 rfl).1))
        have lk44 : (((pI u28 71 2 v39)).1 71 45).toInt = (u20.1 71 45).toInt := congrArg Int32.toInt (((pI_ne (a := 71) (b := 45) (c := 71) (k := 2) _ _ (Or.inr (by decide)))).trans ((fu28 71 45 rfl).1))
        have lk45 : (((pI u28 71 2 v39)).1 71 47).toInt = (u20.1 71 47).toInt := congrArg Int32.toInt (((pI_ne (a := 71) (b := 47) (c := 71) (k := 2) _ _ (Or.inr (by decide)))).trans ((fu28 71 47 rfl).1))
        have lk46 : (((pI u28 71 2 v39)).1 71 2).toInt = v39.toInt := congrArg Int32.toInt ((pI_self _ _ _ _))
        have lk47 : (((pI u28 71 2 v39)).1 71 47).toInt = (u20.1 71 47).toInt := congrArg Int32.toInt (((pI_ne (a := 71) (b := 47) (c := 71) (k := 2) _ _ (Or.inr (by decide)))).trans ((fu28 71 47 rfl).1))
        have lk48 : (((pI u28 71 2 v39)).1 71 2).toInt = v39.toInt := congrArg Int32.toInt ((pI_self _ _ _ _))
        have lk49 : (((pI u28 71 2 v39)).1 71 45).toInt = (u20.1 71 45).toInt := congrArg Int32.toInt (((pI_ne (a := 71) (b := 45) (c := 71) (k := 2) _ _ (Or.inr (by decide)))).trans ((fu28 71 45 rfl).1))
        have lk50 : (((pI u28 71 2 v39)).1 71 47).toInt = (u20.1 71 47).toInt := congrArg Int32.toInt (((pI_ne (a := 71) (b := 47) (c := 71) (k := 2) _ _ (Or.inr (by decide)))).trans ((fu28 71 47 rfl).1))
        have lk51 : (((pI u28 71 2 v39)).1 71 2).toInt = v39.toInt := congrArg Int32.toInt ((pI_self _ _ _ _))
        have lk52 : (((pI u28 71 2 v39)).1 71 45).toInt = (u20.1 71 45).toInt := congrArg Int32.toInt (((pI_ne (a := 71) (b := 45) (c := 71) (k := 2) _ _ (Or.inr (by decide)))).trans ((fu28 71 45 rfl).1))
        have lk53 : (((pI u28 71 2 v39)).1 71 47).toInt = (u20.1 71 47).toInt := congrArg Int32.toInt (((pI_ne (a := 71) (b := 47) (c := 71) (k := 2) _ _ (Or.inr (by decide)))).trans ((fu28 71 47 rfl).1))
        have lk54 : (((pI u28 71 2 v39)).1 71 2).toInt = v39.toInt := congrArg Int32.toInt ((pI_self _ _ _ _))
        refine r_callVv C oCl12 rfl miX12_sums mlX12_319 (ct9_X12_sums l E ((pI u28 71 2 v39))  (1) (B) (g) (fp) (fq) (cz) (6) (cw) (oqSc g A) (cs) (Cq) (oQ_fr (oFr_oneI (q := 12) (m := 2) rfl (by rfl)) rfl (oQ_fr fu28 rfl hq25)) (by omega) (by omega) (by omega) (by omega) hq40 (oqZ_fr (oFr_oneI (q := 12) (m := 2) rfl (by rfl)) rfl (oqZ_fr fu28 rfl (oqZ_fr fu20 rfl (oqZ_fr fu1 rfl hp6)))) (oqWd_fr (oFr_oneI (q := 12) (m := 2) rfl (by rfl)) rfl (oqWd_fr fu28 rfl (oqWd_fr fu20 rfl (oqWd_fr fu1 rfl hp7)))) (oqMo_fr (oFr_oneI (q := 12) (m := 2) rfl (by rfl)) rfl (oqMo_fr fu28 rfl (oqMo_fr fu20 rfl (oqMo_fr fu1 rfl hp8)))) (oqBP_fr (oFr_oneI (q := 12) (m := 2) rfl (by rfl)) rfl (oqBP_fr fu28 rfl pu20_7)) hq41 (by omega) (owC0_fr (oFr_oneI (q := 12) (m := 2) rfl (by rfl)) rfl (owC0_fr fu28 rfl pu20_9))) (by decide) rfl rfl rfl (Nat.le_of_ble_eq_true rfl) (oDec_at oX12_fact 40 rfl) (fun u55 pu55 fu55 => ?_)
        try dsimp only at pu55
        try simp only [lk42, lk43, lk44, lk45, lk46, lk47, lk48, lk49, lk50, lk51, lk52, lk53, lk54] at pu55
        obtain ⟨pu55_0, pu55_1, pu55_2, pu55_3, pu55_4, pu55_5, pu55_6, pu55_7, pu55_8, pu55_9⟩ := pu55
        refine r_ty C (fun hty => ?_)
        have hty_coded : (0 : Int) ≤ ((u55).1 71 45).toInt ∧ ((u55).1 71 45).toInt ≤ 1600 := hty.1 71 45
        have hty_waits : (0 : Int) ≤ ((u55).1 71 47).toInt ∧ ((u55).1 71 47).toInt ≤ 1700 := hty.1 71 47
        have hty_at : (0 : Int) ≤ ((u55).1 71 2).toInt ∧ ((u55).1 71 2).toInt ≤ 1600 := hty.1 71 2
        clear hty
        have hq57 : oqTt g fp fq cz 2 (u55) := oqJ_6 pu55_5 (fun h9 => by have h8 := (pu55_6 h9).1; have h7 := n_nat ((u55).1 71 47); omega) (fun h9 => by have h8 := pu55_6 h9; rw [h8.2.2]; exact oqNp4_n h8.2.1)
        have hq58 : oqTvw g fp fq cw cs 2 (oqSc g A - 20) (u55) := oqJw_6 pu55_8 (by omega) (fun h9 => by have h8 := (pu55_6 h9).1; have h7 := n_nat ((u55).1 71 47); omega) (fun h9 => by have h8 := pu55_6 h9; rw [h8.2.2]; exact oqNp4_n h8.2.1)
        refine r_aload_n C (j := 0) (oDec_at oX12_fact 41 rfl) rfl rfl ?_
        refine r_iload_n C (j := 1) (oDec_at oX12_fact 42 rfl) rfl rfl ?_
        refine r_bipush C (oDec_at oX12_fact 43 rfl) (v := k60) (by rw [qk60]; rfl) ?_
        refine r_icmp_ne C 89 (oDec_at oX12_fact 44 rfl) (by decide) (fun cd59 => ?_) (fun cd59 => ?_)
        · omega
        · skip
          refine r_bipush C (oDec_at oX12_fact 45 rfl) (v := k11) (by rw [qk11]; rfl) ?_
          refine r_goto C (tgt := 102) (oDec_at oX12_fact 46 rfl) (by decide) ?_
          refine r_callVv C oCl12 rfl miX12_lay mlX12_280 (ct9_X12_lay l E (u55) k11 (Cq) (by omega) pu55_9) (by decide) rfl rfl rfl (Nat.le_of_ble_eq_true rfl) (oDec_at oX12_fact 53 rfl) (fun u60 pu60 fu60 => ?_)
          try dsimp only at pu60
          obtain ⟨pu60_0, pu60_1, pu60_2⟩ := pu60
          have hq62 : oQ 9999 1 (u60) := oQ_jn (x := 1) pu55_0 pu60_0 (by omega) (by omega) (by omega)
          have hq63 : oqTx g fp fq cw cs 2 (u60) := oqTvw_lay hq58 pu60_0 (by omega) (by omega)
          have lk64 : ((u60).1 71 48).toInt = (u55.1 71 48).toInt := congrArg Int32.toInt ((fu60 71 48 rfl).1)
          have lk65 : ((u60).1 71 2).toInt = (u55.1 71 2).toInt := congrArg Int32.toInt ((fu60 71 2 rfl).1)
          have lk66 : ((u60).1 71 47).toInt = (u55.1 71 47).toInt := congrArg Int32.toInt ((fu60 71 47 rfl).1)
          have lk67 : ((u60).1 71 5).toInt = (u55.1 71 5).toInt := congrArg Int32.toInt ((fu60 71 5 rfl).1)
          have lk68 : ((u60).1 71 2).toInt = (u55.1 71 2).toInt := congrArg Int32.toInt ((fu60 71 2 rfl).1)
          have lk69 : ((u60).1 71 47).toInt = (u55.1 71 47).toInt := congrArg Int32.toInt ((fu60 71 47 rfl).1)
          have lk70 : ((u60).1 71 2).toInt = (u55.1 71 2).toInt := congrArg Int32.toInt ((fu60 71 2 rfl).1)
          exact r_vret C (oDec_at oX12_fact 54 rfl) ⟨rfl, ⟨hq62, by omega, by omega, by omega, by omega, (oqTt_fr fu60 rfl hq57), (oqBP_fr fu60 rfl pu55_7), hq63, pu60_2⟩⟩
      · skip
        refine r_iload_n C (j := 1) (oDec_at oX12_fact 21 rfl) rfl rfl ?_
        refine r_bipush C (oDec_at oX12_fact 22 rfl) (v := k62) (by rw [qk62]; rfl) ?_
        refine r_icmp_eq C 63 (oDec_at oX12_fact 23 rfl) (by decide) (fun cd71 => ?_) (fun cd71 => ?_)
        · skip
          have hsc := oqSc_v (g := g) (a := A)
          refine r_aload_n C (j := 0) (oDec_at oX12_fact 33 rfl) rfl rfl ?_
          refine r_dup C (oDec_at oX12_fact 34 rfl) rfl ?_
          obtain ⟨v72, ev72⟩ : ∃ z : Int32, (u28).1 71 2 = z := ⟨_, rfl⟩
          have gv72 : (u28.1 71 2).toInt = v72.toInt := congrArg Int32.toInt (ev72)
          refine r_geti (k := 2) (lo := 0) (hi := 1600) C v72 oCl12 rfl (by decide) flX12_179 rfl rfl (ev72) rfl rfl (oDec_at oX12_fact 35 rfl) (fun b73 b73h => ?_)
          refine r_iconst C (oDec_at oX12_fact 36 rfl) (v := k1) (by rw [qk1]; rfl) ?_
          obtain ⟨v74, ev74⟩ : ∃ z : Int32, z = v72 + k1 := ⟨_, rfl⟩
          have hv74 : v74.toInt = v72.toInt + k1.toInt := n_add ev74 (by omega) (by omega)
          refine r_iadd C v74 (oDec_at oX12_fact 37 rfl) ev74 ?_
          refine r_puti (k := 2) (lo := 0) (hi := 1600) C oCl12 rfl (by decide) flX12_179 rfl rfl rfl rfl rfl rfl rfl rfl ⟨by omega, by omega⟩ (oDec_at oX12_fact 38 rfl) ?_
          refine r_pc C 73 rfl ?_
          have hq75 : oqJ g fp fq cz 6 B 1 ((pI u28 71 2 v74)) := oqJ_sg hq34 (by omega) hWB hno2 (by omega) (by omega)
          have hq76 : oqJw g fp fq cw (oqSc g A) B cs 1 ((pI u28 71 2 v74)) := (by have h9 := fun (z : Int32) hz => oqJw_sg (z := z) hq35 (by omega) hWB hno2 hz; rw [hsk2, eA2] at h9; exact h9 _ (by omega))
          refine r_aload_n C (j := 0) (oDec_at oX12_fact 39 rfl) rfl rfl ?_
          have lk77 : (((pI u28 71 2 v74)).1 71 5).toInt = v22.toInt := congrArg Int32.toInt (((pI_ne (a := 71) (b := 5) (c := 71) (k := 2) _ _ (Or.inr (by decide)))).trans (((fu28 71 5 rfl).1).trans (ev22)))
          have lk78 : (((pI u28 71 2 v74)).1 71 48).toInt = (u20.1 71 48).toInt := congrArg Int32.toInt (((pI_ne (a := 71) (b := 48) (c := 71) (k := 2) _ _ (Or.inr (by decide)))).trans ((fu28 71 48 rfl).1))
          have lk79 : (((pI u28 71 2 v74)).1 71 45).toInt = (u20.1 71 45).toInt := congrArg Int32.toInt (((pI_ne (a := 71) (b := 45) (c := 71) (k := 2) _ _ (Or.inr (by decide)))).trans ((fu28 71 45 rfl).1))
          have lk80 : (((pI u28 71 2 v74)).1 71 47).toInt = (u20.1 71 47).toInt := congrArg Int32.toInt (((pI_ne (a := 71) (b := 47) (c := 71) (k := 2) _ _ (Or.inr (by decide)))).trans ((fu28 71 47 rfl).1))
          have lk81 : (((pI u28 71 2 v74)).1 71 2).toInt = v74.toInt := congrArg Int32.toInt ((pI_self _ _ _ _))
          have lk82 : (((pI u28 71 2 v74)).1 71 47).toInt = (u20.1 71 47).toInt := congrArg Int32.toInt (((pI_ne (a := 71) (b := 47) (c := 71) (k := 2) _ _ (Or.inr (by decide)))).trans ((fu28 71 47 rfl).1))
          have lk83 : (((pI u28 71 2 v74)).1 71 2).toInt = v74.toInt := congrArg Int32.toInt ((pI_self _ _ _ _))
          have lk84 : (((pI u28 71 2 v74)).1 71 45).toInt = (u20.1 71 45).toInt := congrArg Int32.toInt (((pI_ne (a := 71) (b := 45) (c := 71) (k := 2) _ _ (Or.inr (by decide)))).trans ((fu28 71 45 rfl).1))
          have lk85 : (((pI u28 71 2 v74)).1 71 47).toInt = (u20.1 71 47).toInt := congrArg Int32.toInt (((pI_ne (a := 71) (b := 47) (c := 71) (k := 2) _ _ (Or.inr (by decide)))).trans ((fu28 71 47 rfl).1))
          have lk86 : (((pI u28 71 2 v74)).1 71 2).toInt = v74.toInt := congrArg Int32.toInt ((pI_self _ _ _ _))
          have lk87 : (((pI u28 71 2 v74)).1 71 45).toInt = (u20.1 71 45).toInt := congrArg Int32.toInt (((pI_ne (a := 71) (b := 45) (c := 71) (k := 2) _ _ (Or.inr (by decide)))).trans ((fu28 71 45 rfl).1))
          have lk88 : (((pI u28 71 2 v74)).1 71 47).toInt = (u20.1 71 47).toInt := congrArg Int32.toInt (((pI_ne (a := 71) (b := 47) (c := 71) (k := 2) _ _ (Or.inr (by decide)))).trans ((fu28 71 47 rfl).1))
          have lk89 : (((pI u28 71 2 v74)).1 71 2).toInt = v74.toInt := congrArg Int32.toInt ((pI_self _ _ _ _))
          refine r_callVv C oCl12 rfl miX12_sums mlX12_319 (ct9_X12_sums l E ((pI u28 71 2 v74))  (1) (B) (g) (fp) (fq) (cz) (6) (cw) (oqSc g A) (cs) (Cq) (oQ_fr (oFr_oneI (q := 12) (m := 2) rfl (by rfl)) rfl (oQ_fr fu28 rfl hq25)) (by omega) (by omega) (by omega) (by omega) hq75 (oqZ_fr (oFr_oneI (q := 12) (m := 2) rfl (by rfl)) rfl (oqZ_fr fu28 rfl (oqZ_fr fu20 rfl (oqZ_fr fu1 rfl hp6)))) (oqWd_fr (oFr_oneI (q := 12) (m := 2) rfl (by rfl)) rfl (oqWd_fr fu28 rfl (oqWd_fr fu20 rfl (oqWd_fr fu1 rfl hp7)))) (oqMo_fr (oFr_oneI (q := 12) (m := 2) rfl (by rfl)) rfl (oqMo_fr fu28 rfl (oqMo_fr fu20 rfl (oqMo_fr fu1 rfl hp8)))) (oqBP_fr (oFr_oneI (q := 12) (m := 2) rfl (by rfl)) rfl (oqBP_fr fu28 rfl pu20_7)) hq76 (by omega) (owC0_fr (oFr_oneI (q := 12) (m := 2) rfl (by rfl)) rfl (owC0_fr fu28 rfl pu20_9))) (by decide) rfl rfl rfl (Nat.le_of_ble_eq_true rfl) (oDec_at oX12_fact 40 rfl) (fun u90 pu90 fu90 => ?_)
          try dsimp only at pu90
          try simp only [lk77, lk78, lk79, lk80, lk81, lk82, lk83, lk84, lk85, lk86, lk87, lk88, lk89] at pu90
          obtain ⟨pu90_0, pu90_1, pu90_2, pu90_3, pu90_4, pu90_5, pu90_6, pu90_7, pu90_8, pu90_9⟩ := pu90
          refine r_ty C (fun hty => ?_)
          have hty_coded : (0 : Int) ≤ ((u90).1 71 45).toInt ∧ ((u90).1 71 45).toInt ≤ 1600 := hty.1 71 45
          have hty_waits : (0 : Int) ≤ ((u90).1 71 47).toInt ∧ ((u90).1 71 47).toInt ≤ 1700 := hty.1 71 47
          have hty_at : (0 : Int) ≤ ((u90).1 71 2).toInt ∧ ((u90).1 71 2).toInt ≤ 1600 := hty.1 71 2
          clear hty
          have hq92 : oqTt g fp fq cz 2 (u90) := oqJ_6 pu90_5 (fun h9 => by have h8 := (pu90_6 h9).1; have h7 := n_nat ((u90).1 71 47); omega) (fun h9 => by have h8 := pu90_6 h9; rw [h8.2.2]; exact oqNp4_n h8.2.1)
          have hq93 : oqTvw g fp fq cw cs 2 (oqSc g A - 20) (u90) := oqJw_6 pu90_8 (by omega) (fun h9 => by have h8 := (pu90_6 h9).1; have h7 := n_nat ((u90).1 71 47); omega) (fun h9 => by have h8 := pu90_6 h9; rw [h8.2.2]; exact oqNp4_n h8.2.1)
          refine r_aload_n C (j := 0) (oDec_at oX12_fact 41 rfl) rfl rfl ?_
          refine r_iload_n C (j := 1) (oDec_at oX12_fact 42 rfl) rfl rfl ?_
          refine r_bipush C (oDec_at oX12_fact 43 rfl) (v := k60) (by rw [qk60]; rfl) ?_
          refine r_icmp_ne C 89 (oDec_at oX12_fact 44 rfl) (by decide) (fun cd94 => ?_) (fun cd94 => ?_)
          · skip
            refine r_iload_n C (j := 1) (oDec_at oX12_fact 47 rfl) rfl rfl ?_
            refine r_bipush C (oDec_at oX12_fact 48 rfl) (v := k62) (by rw [qk62]; rfl) ?_
            refine r_icmp_ne C 100 (oDec_at oX12_fact 49 rfl) (by decide) (fun cd95 => ?_) (fun cd95 => ?_)
            · omega
            · skip
              refine r_bipush C (oDec_at oX12_fact 50 rfl) (v := k12) (by rw [qk12]; rfl) ?_
              refine r_goto C (tgt := 102) (oDec_at oX12_fact 51 rfl) (by decide) ?_
              refine r_callVv C oCl12 rfl miX12_lay mlX12_280 (ct9_X12_lay l E (u90) k12 (Cq) (by omega) pu90_9) (by decide) rfl rfl rfl (Nat.le_of_ble_eq_true rfl) (oDec_at oX12_fact 53 rfl) (fun u96 pu96 fu96 => ?_)
              try dsimp only at pu96
              obtain ⟨pu96_0, pu96_1, pu96_2⟩ := pu96
              have hq98 : oQ 9999 1 (u96) := oQ_jn (x := 1) pu90_0 pu96_0 (by omega) (by omega) (by omega)
              have hq99 : oqTx g fp fq cw cs 2 (u96) := oqTvw_lay hq93 pu96_0 (by omega) (by omega)
              have lk100 : ((u96).1 71 48).toInt = (u90.1 71 48).toInt := congrArg Int32.toInt ((fu96 71 48 rfl).1)
              have lk101 : ((u96).1 71 2).toInt = (u90.1 71 2).toInt := congrArg Int32.toInt ((fu96 71 2 rfl).1)
              have lk102 : ((u96).1 71 47).toInt = (u90.1 71 47).toInt := congrArg Int32.toInt ((fu96 71 47 rfl).1)
              have lk103 : ((u96).1 71 5).toInt = (u90.1 71 5).toInt := congrArg Int32.toInt ((fu96 71 5 rfl).1)
              have lk104 : ((u96).1 71 2).toInt = (u90.1 71 2).toInt := congrArg Int32.toInt ((fu96 71 2 rfl).1)
              have lk105 : ((u96).1 71 47).toInt = (u90.1 71 47).toInt := congrArg Int32.toInt ((fu96 71 47 rfl).1)
              have lk106 : ((u96).1 71 2).toInt = (u90.1 71 2).toInt := congrArg Int32.toInt ((fu96 71 2 rfl).1)
              exact r_vret C (oDec_at oX12_fact 54 rfl) ⟨rfl, ⟨hq98, by omega, by omega, by omega, by omega, (oqTt_fr fu96 rfl hq92), (oqBP_fr fu96 rfl pu90_7), hq99, pu96_2⟩⟩
          · omega
        · skip
          refine r_iload_n C (j := 1) (oDec_at oX12_fact 24 rfl) rfl rfl ?_
          refine r_bipush C (oDec_at oX12_fact 25 rfl) (v := k61) (by rw [qk61]; rfl) ?_
          refine r_icmp_eq C 63 (oDec_at oX12_fact 26 rfl) (by decide) (fun cd107 => ?_) (fun cd107 => ?_)
          · skip
            have hsc := oqSc_v (g := g) (a := A)
            refine r_aload_n C (j := 0) (oDec_at oX12_fact 33 rfl) rfl rfl ?_
            refine r_dup C (oDec_at oX12_fact 34 rfl) rfl ?_
            obtain ⟨v108, ev108⟩ : ∃ z : Int32, (u28).1 71 2 = z := ⟨_, rfl⟩
            have gv108 : (u28.1 71 2).toInt = v108.toInt := congrArg Int32.toInt (ev108)
            refine r_geti (k := 2) (lo := 0) (hi := 1600) C v108 oCl12 rfl (by decide) flX12_179 rfl rfl (ev108) rfl rfl (oDec_at oX12_fact 35 rfl) (fun b109 b109h => ?_)
            refine r_iconst C (oDec_at oX12_fact 36 rfl) (v := k1) (by rw [qk1]; rfl) ?_
            obtain ⟨v110, ev110⟩ : ∃ z : Int32, z = v108 + k1 := ⟨_, rfl⟩
            have hv110 : v110.toInt = v108.toInt + k1.toInt := n_add ev110 (by omega) (by omega)
            refine r_iadd C v110 (oDec_at oX12_fact 37 rfl) ev110 ?_
            refine r_puti (k := 2) (lo := 0) (hi := 1600) C oCl12 rfl (by decide) flX12_179 rfl rfl rfl rfl rfl rfl rfl rfl ⟨by omega, by omega⟩ (oDec_at oX12_fact 38 rfl) ?_
            refine r_pc C 73 rfl ?_
            have hq111 : oqJ g fp fq cz 6 B 1 ((pI u28 71 2 v110)) := oqJ_sg hq34 (by omega) hWB hno2 (by omega) (by omega)
            have hq112 : oqJw g fp fq cw (oqSc g A) B cs 1 ((pI u28 71 2 v110)) := (by have h9 := fun (z : Int32) hz => oqJw_sg (z := z) hq35 (by omega) hWB hno2 hz; rw [hsk2, eA2] at h9; exact h9 _ (by omega))
            refine r_aload_n C (j := 0) (oDec_at oX12_fact 39 rfl) rfl rfl ?_
            have lk113 : (((pI u28 71 2 v110)).1 71 5).toInt = v22.toInt := congrArg Int32.toInt (((pI_ne (a := 71) (b := 5) (c := 71) (k := 2) _ _ (Or.inr (by decide)))).trans (((fu28 71 5 rfl).1).trans (ev22)))
            have lk114 : (((pI u28 71 2 v110)).1 71 48).toInt = (u20.1 71 48).toInt := congrArg Int32.toInt (((pI_ne (a := 71) (b := 48) (c := 71) (k := 2) _ _ (Or.inr (by decide)))).trans ((fu28 71 48 rfl).1))
            have lk115 : (((pI u28 71 2 v110)).1 71 45).toInt = (u20.1 71 45).toInt := congrArg Int32.toInt (((pI_ne (a := 71) (b := 45) (c := 71) (k := 2) _ _ (Or.inr (by decide)))).trans ((fu28 71 45 rfl).1))
            have lk116 : (((pI u28 71 2 v110)).1 71 47).toInt = (u20.1 71 47).toInt := congrArg Int32.toInt (((pI_ne (a := 71) (b := 47) (c := 71) (k := 2) _ _ (Or.inr (by decide)))).trans ((fu28 71 47 rfl).1))
            have lk117 : (((pI u28 71 2 v110)).1 71 2).toInt = v110.toInt := congrArg Int32.toInt ((pI_self _ _ _ _))
            have lk118 : (((pI u28 71 2 v110)).1 71 47).toInt = (u20.1 71 47).toInt := congrArg Int32.toInt (((pI_ne (a := 71) (b := 47) (c := 71) (k := 2) _ _ (Or.inr (by decide)))).trans ((fu28 71 47 rfl).1))
            have lk119 : (((pI u28 71 2 v110)).1 71 2).toInt = v110.toInt := congrArg Int32.toInt ((pI_self _ _ _ _))
            have lk120 : (((pI u28 71 2 v110)).1 71 45).toInt = (u20.1 71 45).toInt := congrArg Int32.toInt (((pI_ne (a := 71) (b := 45) (c := 71) (k := 2) _ _ (Or.inr (by decide)))).trans ((fu28 71 45 rfl).1))
            have lk121 : (((pI u28 71 2 v110)).1 71 47).toInt = (u20.1 71 47).toInt := congrArg Int32.toInt (((pI_ne (a := 71) (b := 47) (c := 71) (k := 2) _ _ (Or.inr (by decide)))).trans ((fu28 71 47 rfl).1))
            have lk122 : (((pI u28 71 2 v110)).1 71 2).toInt = v110.toInt := congrArg Int32.toInt ((pI_self _ _ _ _))
            have lk123 : (((pI u28 71 2 v110)).1 71 45).toInt = (u20.1 71 45).toInt := congrArg Int32.toInt (((pI_ne (a := 71) (b := 45) (c := 71) (k := 2) _ _ (Or.inr (by decide)))).trans ((fu28 71 45 rfl).1))
            have lk124 : (((pI u28 71 2 v110)).1 71 47).toInt = (u20.1 71 47).toInt := congrArg Int32.toInt (((pI_ne (a := 71) (b := 47) (c := 71) (k := 2) _ _ (Or.inr (by decide)))).trans ((fu28 71 47 rfl).1))
            have lk125 : (((pI u28 71 2 v110)).1 71 2).toInt = v110.toInt := congrArg Int32.toInt ((pI_self _ _ _ _))
            refine r_callVv C oCl12 rfl miX12_sums mlX12_319 (ct9_X12_sums l E ((pI u28 71 2 v110))  (1) (B) (g) (fp) (fq) (cz) (6) (cw) (oqSc g A) (cs) (Cq) (oQ_fr (oFr_oneI (q := 12) (m := 2) rfl (by rfl)) rfl (oQ_fr fu28 rfl hq25)) (by omega) (by omega) (by omega) (by omega) hq111 (oqZ_fr (oFr_oneI (q := 12) (m := 2) rfl (by rfl)) rfl (oqZ_fr fu28 rfl (oqZ_fr fu20 rfl (oqZ_fr fu1 rfl hp6)))) (oqWd_fr (oFr_oneI (q := 12) (m := 2) rfl (by rfl)) rfl (oqWd_fr fu28 rfl (oqWd_fr fu20 rfl (oqWd_fr fu1 rfl hp7)))) (oqMo_fr (oFr_oneI (q := 12) (m := 2) rfl (by rfl)) rfl (oqMo_fr fu28 rfl (oqMo_fr fu20 rfl (oqMo_fr fu1 rfl hp8)))) (oqBP_fr (oFr_oneI (q := 12) (m := 2) rfl (by rfl)) rfl (oqBP_fr fu28 rfl pu20_7)) hq112 (by omega) (owC0_fr (oFr_oneI (q := 12) (m := 2) rfl (by rfl)) rfl (owC0_fr fu28 rfl pu20_9))) (by decide) rfl rfl rfl (Nat.le_of_ble_eq_true rfl) (oDec_at oX12_fact 40 rfl) (fun u126 pu126 fu126 => ?_)
            try dsimp only at pu126
            try simp only [lk113, lk114, lk115, lk116, lk117, lk118, lk119, lk120, lk121, lk122, lk123, lk124, lk125] at pu126
            obtain ⟨pu126_0, pu126_1, pu126_2, pu126_3, pu126_4, pu126_5, pu126_6, pu126_7, pu126_8, pu126_9⟩ := pu126
            refine r_ty C (fun hty => ?_)
            have hty_coded : (0 : Int) ≤ ((u126).1 71 45).toInt ∧ ((u126).1 71 45).toInt ≤ 1600 := hty.1 71 45
            have hty_waits : (0 : Int) ≤ ((u126).1 71 47).toInt ∧ ((u126).1 71 47).toInt ≤ 1700 := hty.1 71 47
            have hty_at : (0 : Int) ≤ ((u126).1 71 2).toInt ∧ ((u126).1 71 2).toInt ≤ 1600 := hty.1 71 2
            clear hty
            have hq128 : oqTt g fp fq cz 2 (u126) := oqJ_6 pu126_5 (fun h9 => by have h8 := (pu126_6 h9).1; have h7 := n_nat ((u126).1 71 47); omega) (fun h9 => by have h8 := pu126_6 h9; rw [h8.2.2]; exact oqNp4_n h8.2.1)
            have hq129 : oqTvw g fp fq cw cs 2 (oqSc g A - 20) (u126) := oqJw_6 pu126_8 (by omega) (fun h9 => by have h8 := (pu126_6 h9).1; have h7 := n_nat ((u126).1 71 47); omega) (fun h9 => by have h8 := pu126_6 h9; rw [h8.2.2]; exact oqNp4_n h8.2.1)
            refine r_aload_n C (j := 0) (oDec_at oX12_fact 41 rfl) rfl rfl ?_
            refine r_iload_n C (j := 1) (oDec_at oX12_fact 42 rfl) rfl rfl ?_
            refine r_bipush C (oDec_at oX12_fact 43 rfl) (v := k60) (by rw [qk60]; rfl) ?_
            refine r_icmp_ne C 89 (oDec_at oX12_fact 44 rfl) (by decide) (fun cd130 => ?_) (fun cd130 => ?_)
            · skip
              refine r_iload_n C (j := 1) (oDec_at oX12_fact 47 rfl) rfl rfl ?_
              refine r_bipush C (oDec_at oX12_fact 48 rfl) (v := k62) (by rw [qk62]; rfl) ?_
              refine r_icmp_ne C 100 (oDec_at oX12_fact 49 rfl) (by decide) (fun cd131 => ?_) (fun cd131 => ?_)
              · skip
                refine r_bipush C (oDec_at oX12_fact 52 rfl) (v := k13) (by rw [qk13]; rfl) ?_
                refine r_callVv C oCl12 rfl miX12_lay mlX12_280 (ct9_X12_lay l E (u126) k13 (Cq) (by omega) pu126_9) (by decide) rfl rfl rfl (Nat.le_of_ble_eq_true rfl) (oDec_at oX12_fact 53 rfl) (fun u132 pu132 fu132 => ?_)
                try dsimp only at pu132
                obtain ⟨pu132_0, pu132_1, pu132_2⟩ := pu132
                have hq134 : oQ 9999 1 (u132) := oQ_jn (x := 1) pu126_0 pu132_0 (by omega) (by omega) (by omega)
                have hq135 : oqTx g fp fq cw cs 2 (u132) := oqTvw_lay hq129 pu132_0 (by omega) (by omega)
                have lk136 : ((u132).1 71 48).toInt = (u126.1 71 48).toInt := congrArg Int32.toInt ((fu132 71 48 rfl).1)
                have lk137 : ((u132).1 71 2).toInt = (u126.1 71 2).toInt := congrArg Int32.toInt ((fu132 71 2 rfl).1)
                have lk138 : ((u132).1 71 47).toInt = (u126.1 71 47).toInt := congrArg Int32.toInt ((fu132 71 47 rfl).1)
                have lk139 : ((u132).1 71 5).toInt = (u126.1 71 5).toInt := congrArg Int32.toInt ((fu132 71 5 rfl).1)
                have lk140 : ((u132).1 71 2).toInt = (u126.1 71 2).toInt := congrArg Int32.toInt ((fu132 71 2 rfl).1)
                have lk141 : ((u132).1 71 47).toInt = (u126.1 71 47).toInt := congrArg Int32.toInt ((fu132 71 47 rfl).1)
                have lk142 : ((u132).1 71 2).toInt = (u126.1 71 2).toInt := congrArg Int32.toInt ((fu132 71 2 rfl).1)
                exact r_vret C (oDec_at oX12_fact 54 rfl) ⟨rfl, ⟨hq134, by omega, by omega, by omega, by omega, (oqTt_fr fu132 rfl hq128), (oqBP_fr fu132 rfl pu126_7), hq135, pu132_2⟩⟩
              · omega
            · omega
          · skip
            refine r_aload_n C (j := 0) (oDec_at oX12_fact 27 rfl) rfl rfl ?_
            refine r_iconst C (oDec_at oX12_fact 28 rfl) (v := k1) (by rw [qk1]; rfl) ?_
            refine r_aload_n C (j := 0) (oDec_at oX12_fact 29 rfl) rfl rfl ?_
            obtain ⟨v143, ev143⟩ : ∃ z : Int32, (u28).1 71 2 = z := ⟨_, rfl⟩
            have gv143 : (u28.1 71 2).toInt = v143.toInt := congrArg Int32.toInt (ev143)
            refine r_geti (k := 2) (lo := 0) (hi := 1600) C v143 oCl12 rfl (by decide) flX12_179 rfl rfl (ev143) rfl rfl (oDec_at oX12_fact 30 rfl) (fun b144 b144h => ?_)
            have lk145 : ((u28).1 71 5).toInt = v22.toInt := congrArg Int32.toInt (((fu28 71 5 rfl).1).trans (ev22))
            have lk146 : ((u28).1 71 5).toInt = v22.toInt := congrArg Int32.toInt (((fu28 71 5 rfl).1).trans (ev22))
            have lk147 : ((u28).1 71 6).toInt = (u20.1 71 6).toInt := congrArg Int32.toInt ((fu28 71 6 rfl).1)
            refine r_callVv C oCl12 rfl miX12_fail mlX12_203 (ct7_X12_fail l E (u28) k1 v143 (by omega) (oqBP_fr fu28 rfl pu20_7)) (by decide) rfl rfl rfl (Nat.le_of_ble_eq_true rfl) (oDec_at oX12_fact 31 rfl) (fun u148 pu148 fu148 => ?_)
            try dsimp only at pu148
            try simp only [lk145, lk146, lk147] at pu148
            obtain ⟨pu148_0, pu148_1, pu148_2⟩ := pu148
            have lk150 : ((u148).1 71 2).toInt = v143.toInt := congrArg Int32.toInt (((fu148 71 2 rfl).1).trans (ev143))
            have hq151 : oqTt g fp fq cz 2 (u148) := oqJ_sgF hq34 (by omega) hWB hno2 (by omega) (by omega) (by omega)
            have hq152 : oqTx g fp fq cw cs 2 (u148) := oqTx_bd (by omega)
            have lk153 : ((u148).1 71 48).toInt = (u20.1 71 48).toInt := congrArg Int32.toInt (((fu148 71 48 rfl).1).trans ((fu28 71 48 rfl).1))
            have lk154 : ((u148).1 71 2).toInt = v143.toInt := congrArg Int32.toInt (((fu148 71 2 rfl).1).trans (ev143))
            have lk155 : ((u148).1 71 45).toInt = (u20.1 71 45).toInt := congrArg Int32.toInt (((fu148 71 45 rfl).1).trans ((fu28 71 45 rfl).1))
            have lk156 : ((u148).1 71 47).toInt = (u20.1 71 47).toInt := congrArg Int32.toInt (((fu148 71 47 rfl).1).trans ((fu28 71 47 rfl).1))
            have lk157 : ((u148).1 71 2).toInt = v143.toInt := congrArg Int32.toInt (((fu148 71 2 rfl).1).trans (ev143))
            have lk158 : ((u148).1 71 45).toInt = (u20.1 71 45).toInt := congrArg Int32.toInt (((fu148 71 45 rfl).1).trans ((fu28 71 45 rfl).1))
            have lk159 : ((u148).1 71 47).toInt = (u20.1 71 47).toInt := congrArg Int32.toInt (((fu148 71 47 rfl).1).trans ((fu28 71 47 rfl).1))
            have lk160 : ((u148).1 71 2).toInt = v143.toInt := congrArg Int32.toInt (((fu148 71 2 rfl).1).trans (ev143))
            exact r_vret C (oDec_at oX12_fact 32 rfl) ⟨rfl, ⟨(oQ_frb fu148 rfl (by omega) (oQ_fr fu28 rfl hq25)), by omega, by omega, by omega, by omega, hq151, pu148_2, hq152, (owC0_fr fu148 rfl (owC0_fr fu28 rfl pu20_9))⟩⟩
    · skip
      have hq161 : oQ 9999 1 (u20) := oQ_bad pu20_0 (by omega)
      have hq162 : oqTt g fp fq cz 2 (u20) := oqJ_Ib pu20_5 (by omega) rfl rfl
      have hq163 : oqTx g fp fq cw cs 2 (u20) := oqTx_bd (by omega)
      have lk164 : ((u20).1 71 5).toInt = v22.toInt := congrArg Int32.toInt (ev22)
      exact r_vret C (oDec_at oX12_fact 14 rfl) ⟨rfl, ⟨hq161, by omega, by omega, by omega, by omega, hq162, pu20_7, hq163, pu20_9⟩⟩
  · skip
    replace pu1_1 := pu1_1 (by omega)
    clear pu1_2
    have lk165 : ((u1).1 71 5).toInt = (s.1 71 5).toInt := congrArg Int32.toInt ((fu1 71 5 rfl).1)
    have lk166 : ((u1).1 71 48).toInt = (s.1 71 48).toInt := congrArg Int32.toInt ((fu1 71 48 rfl).1)
    have lk167 : ((u1).1 71 47).toInt = (s.1 71 47).toInt := congrArg Int32.toInt ((fu1 71 47 rfl).1)
    have hw10 := oqWi_y (g := g) (A := (s.1 71 2).toInt) (E := (s.1 71 4).toInt) (i := 10) (by decide) (by omega)
    have hHa10 : oqHa g (s.1 71 2).toInt 10 = oqSk g (s.1 71 2).toInt + (oqWl 10 : Int) := rfl
    have hl10 : oqWl 10 = 3 := rfl
    have hq168 : oqTt g fp fq cz 2 (u1) := oqI_go hp4 (by omega) (by omega) (oFr_row fu1 (c := 103) rfl rfl) (congrArg Int32.toInt (fu1 71 47 rfl).1) (oqf_all (g := g) (p := fp) (q := fq) (a := (s.1 71 2).toInt) (b := (s.1 71 4).toInt) (o := (s.1 71 48).toInt) (by omega) (by omega) _) (by first | omega | (congr 1; omega)) rfl rfl (by first | omega | (congr 1; omega)) (by first | omega | (congr 1; omega)) ((congrArg Int32.toInt (fu1 71 48 rfl).1)).symm
    have hq169 : oqTvw g fp fq cw cs 2 17 (u1) := oqTvw_all (A := (s.1 71 2).toInt) (b := (s.1 71 4).toInt) hp10 (by omega) (oqSq_of fu1 rfl) (by omega) (by omega) (by omega) (by omega) (by omega) (by omega)
    refine r_aload_n C (j := 0) (oDec_at oX12_fact 5 rfl) rfl rfl ?_
    refine r_bipush C (oDec_at oX12_fact 6 rfl) (v := k17) (by rw [qk17]; rfl) ?_
    have lk170 : ((u1).1 71 45).toInt = (s.1 71 45).toInt := congrArg Int32.toInt ((fu1 71 45 rfl).1)
    have lk171 : ((u1).1 71 45).toInt = (s.1 71 45).toInt := congrArg Int32.toInt ((fu1 71 45 rfl).1)
    have lk172 : ((u1).1 71 45).toInt = (s.1 71 45).toInt := congrArg Int32.toInt ((fu1 71 45 rfl).1)
    refine r_callVv C oCl12 rfl miX12_lay mlX12_280 (ct9_X12_lay l E (u1) k17 (Cq) (by omega) (owC0_fr fu1 rfl hp11)) (by decide) rfl rfl rfl (Nat.le_of_ble_eq_true rfl) (oDec_at oX12_fact 7 rfl) (fun u173 pu173 fu173 => ?_)
    try dsimp only at pu173
    try simp only [lk171, lk172] at pu173
    obtain ⟨pu173_0, pu173_1, pu173_2⟩ := pu173
    have hq175 : oQ 9999 1 (u173) := oQ_opnd (oQ_fr fu1 rfl hp0) pu173_0 (by omega) (by omega)
    have hq176 : oqTx g fp fq cw cs 2 (u173) := oqTvw_lay hq169 pu173_0 (by omega) (by omega)
    have lk177 : ((u173).1 71 48).toInt = (s.1 71 48).toInt := congrArg Int32.toInt (((fu173 71 48 rfl).1).trans ((fu1 71 48 rfl).1))
    have lk178 : ((u173).1 71 2).toInt = (u1.1 71 2).toInt := congrArg Int32.toInt ((fu173 71 2 rfl).1)
    have lk179 : ((u173).1 71 47).toInt = (s.1 71 47).toInt := congrArg Int32.toInt (((fu173 71 47 rfl).1).trans ((fu1 71 47 rfl).1))
    have lk180 : ((u173).1 71 5).toInt = (s.1 71 5).toInt := congrArg Int32.toInt (((fu173 71 5 rfl).1).trans ((fu1 71 5 rfl).1))
    have lk181 : ((u173).1 71 2).toInt = (u1.1 71 2).toInt := congrArg Int32.toInt ((fu173 71 2 rfl).1)
    have lk182 : ((u173).1 71 47).toInt = (s.1 71 47).toInt := congrArg Int32.toInt (((fu173 71 47 rfl).1).trans ((fu1 71 47 rfl).1))
    have lk183 : ((u173).1 71 2).toInt = (u1.1 71 2).toInt := congrArg Int32.toInt ((fu173 71 2 rfl).1)
    exact r_vret C (oDec_at oX12_fact 8 rfl) ⟨rfl, ⟨hq175, by omega, by omega, by omega, by omega, (oqTt_fr fu173 rfl hq168), (oqBP_fr fu173 rfl (oqBP_fr fu1 rfl hp9)), hq176, pu173_2⟩⟩
