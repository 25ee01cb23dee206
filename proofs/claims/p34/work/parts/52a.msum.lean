set_option maxHeartbeats 4000000 in
set_option maxRecDepth 100000 in
theorem ct_X12_sums (l : Launch) (E : oE) (s : oS)  (x : Nat) (hp0 : oQ 9999 x s) (hp1 : (s.1 71 5).toInt = 0) (hp2 : 0 ≤ (s.1 71 48).toInt ∧ (s.1 71 48).toInt ≤ 6) (hp3 : (s.1 71 45).toInt + (s.1 71 47).toInt + 5 ≤ (s.1 71 2).toInt) : oMet l 6 yX12_sums cX12_sums 3 none [(12, 2), (12, 4), (12, 5), (12, 6), (12, 9), (12, 45), (12, 47), (12, 48), (12, 55), (78, 9999), (79, 9999)] E s [.ref (oad E 71)] (oPv (fun u => (oQ 9999 (x + 1) u) ∧ (0 ≤ (u.1 71 48).toInt ∧ (u.1 71 48).toInt ≤ 6) ∧ ((s.1 71 2).toInt - (s.1 71 45).toInt - (s.1 71 47).toInt ≤ (u.1 71 2).toInt - (u.1 71 45).toInt - (u.1 71 47).toInt + 1) ∧ ((u.1 71 5).toInt = 0 → ((s.1 71 2).toInt - (s.1 71 45).toInt - (s.1 71 47).toInt ≤ (u.1 71 2).toInt - (u.1 71 45).toInt - (u.1 71 47).toInt ∧ (s.1 71 2).toInt + 1 ≤ (u.1 71 2).toInt)) ∧ ((s.1 71 2).toInt ≤ (u.1 71 2).toInt))) := by
  refine oMet.of (lv := [(0, .ref (oad E 71))]) (by decide +kernel) (Nat.le_of_ble_eq_true rfl) rfl (fun J C hT => ?_)
  have C : oC l 6 cX12_sums RX12 3 none [(12, 2), (12, 4), (12, 5), (12, 6), (12, 9), (12, 45), (12, 47), (12, 48), (12, 55), (78, 9999), (79, 9999)] E s (oPv (fun u => (oQ 9999 (x + 1) u) ∧ (0 ≤ (u.1 71 48).toInt ∧ (u.1 71 48).toInt ≤ 6) ∧ ((s.1 71 2).toInt - (s.1 71 45).toInt - (s.1 71 47).toInt ≤ (u.1 71 2).toInt - (u.1 71 45).toInt - (u.1 71 47).toInt + 1) ∧ ((u.1 71 5).toInt = 0 → ((s.1 71 2).toInt - (s.1 71 45).toInt - (s.1 71 47).toInt ≤ (u.1 71 2).toInt - (u.1 71 45).toInt - (u.1 71 47).toInt ∧ (s.1 71 2).toInt + 1 ≤ (u.1 71 2).toInt)) ∧ ((s.1 71 2).toInt ≤ (u.1 71 2).toInt))) J := C
  obtain ⟨k0, qk0⟩ : ∃ z : Int32, z = 0 := ⟨_, rfl⟩
  have ek0 : k0.toInt = 0 := by rw [qk0]; rfl
  obtain ⟨k1, qk1⟩ : ∃ z : Int32, z = 1 := ⟨_, rfl⟩
  have ek1 : k1.toInt = 1 := by rw [qk1]; rfl
  obtain ⟨B, hB⟩ : ∃ B : Nat, B = (s.1 71 47).toNatClampNeg := ⟨_, rfl⟩
  have hBn := n_nat (s.1 71 47)
  have htz_waits : (0 : Int) ≤ (s.1 71 47).toInt ∧ (s.1 71 47).toInt ≤ 1700 := hT.1 71 47
  have htz_coded : (0 : Int) ≤ (s.1 71 45).toInt ∧ (s.1 71 45).toInt ≤ 1600 := hT.1 71 45
  have htz_at : (0 : Int) ≤ (s.1 71 2).toInt ∧ (s.1 71 2).toInt ≤ 1600 := hT.1 71 2
  have htz_base : (0 : Int) ≤ (s.1 71 55).toInt ∧ (s.1 71 55).toInt ≤ 1700 := hT.1 71 55
  have key : ∀ n : Nat, (∀ (t : oS) (x1 : Int32) (x2 : Int32), (x2.toInt = 1 → oQ B x t) → (x2.toInt = 0 → (oQ B (x + 1) t ∧ oMn t)) → ((t.1 71 55).toInt = (B : Int)) → (0 ≤ (t.1 71 48).toInt ∧ (t.1 71 48).toInt ≤ 6) → ((s.1 71 2).toInt - (s.1 71 45).toInt - (s.1 71 47).toInt ≤ (t.1 71 2).toInt - (t.1 71 45).toInt - (t.1 71 47).toInt + 1) → ((t.1 71 5).toInt = 0 → (s.1 71 2).toInt - (s.1 71 45).toInt - (s.1 71 47).toInt ≤ (t.1 71 2).toInt - (t.1 71 45).toInt - (t.1 71 47).toInt) → ((s.1 71 2).toInt ≤ (t.1 71 2).toInt) → (0 ≤ x2.toInt ∧ x2.toInt ≤ 1) → ((x2.toInt = 0 ∧ (t.1 71 5).toInt = 0) → (s.1 71 2).toInt + 1 ≤ (t.1 71 2).toInt) → (0 ≤ x1.toInt ∧ x1.toInt ≤ 1700) → 4000 * (1602 - (t.1 71 2).toInt) + x2.toInt ≤ (n : Int) → J t 15 [(0, .ref (oad E 71)), (1, .int x1), (2, .int x2)] []) ∧ (∀ (t : oS) (x1 : Int32), (oQ B (x + 1) t) → (oMn t) → ((t.1 71 55).toInt = (B : Int)) → (0 ≤ (t.1 71 48).toInt ∧ (t.1 71 48).toInt ≤ 6) → ((s.1 71 2).toInt - (s.1 71 45).toInt - (s.1 71 47).toInt ≤ (t.1 71 2).toInt - (t.1 71 45).toInt - (t.1 71 47).toInt + 1) → ((t.1 71 5).toInt = 0 → ((s.1 71 2).toInt - (s.1 71 45).toInt - (s.1 71 47).toInt ≤ (t.1 71 2).toInt - (t.1 71 45).toInt - (t.1 71 47).toInt ∧ (s.1 71 2).toInt + 1 ≤ (t.1 71 2).toInt)) → ((s.1 71 2).toInt ≤ (t.1 71 2).toInt) → (0 ≤ x1.toInt ∧ x1.toInt ≤ 1700) → (t.1 71 47).toInt + 1 ≤ (n : Int) → J t 53 [(0, .ref (oad E 71)), (1, .int x1)] []) := by
    intro n
    induction n using Nat.strongRecOn with
    | _ n ih =>
      refine ⟨?_, ?_⟩
      · intro t x1 x2  iv0 iv1 iv2 iv3 iv4 iv5 iv6 iv7 iv8 iv9 hmu
        have rx1 := n_rng x1
        have rx2 := n_rng x2
        refine r_ty C (fun hty => ?_)
        have hty_coded : (0 : Int) ≤ ((t).1 71 45).toInt ∧ ((t).1 71 45).toInt ≤ 1600 := hty.1 71 45
        have hty_waits : (0 : Int) ≤ ((t).1 71 47).toInt ∧ ((t).1 71 47).toInt ≤ 1700 := hty.1 71 47
        have hty_at : (0 : Int) ≤ ((t).1 71 2).toInt ∧ ((t).1 71 2).toInt ≤ 1600 := hty.1 71 2
        clear hty
        refine r_iload_n C (j := 2) (oDec_at oX12_sums 9 rfl) rfl rfl ?_
        refine r_if_eq C 53 (oDec_at oX12_sums 10 rfl) (by decide) (fun cd1 => ?_) (fun cd1 => ?_)
        · skip
          refine r_pick C [0, 1] rfl ?_
          exact (ih (n - 1) (by omega)).2 (t) x1  (by first | exact (by assumption) | exact (iv1 (by omega)).1 | exact oQ_bad (iv0 (by omega)) (by omega)) (by first | exact (by assumption) | exact (iv1 (by omega)).2 | exact fun hb => by exfalso; omega) (by omega) (by omega) (by omega) (by omega) (by omega) (by omega) (by omega)
        · skip
          refine r_aload_n C (j := 0) (oDec_at oX12_sums 11 rfl) rfl rfl ?_
          obtain ⟨v2, ev2⟩ : ∃ z : Int32, (t).1 71 5 = z := ⟨_, rfl⟩
          have gv2 : (t.1 71 5).toInt = v2.toInt := congrArg Int32.toInt (ev2)
          have rv2 := n_rng v2
          refine r_geti (k := 5) (lo := (-2147483648)) (hi := 2147483647) C v2 oCl12 rfl (by decide) flX12_173 rfl rfl (ev2) rfl rfl (oDec_at oX12_sums 12 rfl) (fun _ _ => ?_)
          refine r_if_ne C 53 (oDec_at oX12_sums 13 rfl) (by decide) (fun cd3 => ?_) (fun cd3 => ?_)
          · skip
            have lk4 : ((t).1 71 5).toInt = v2.toInt := congrArg Int32.toInt (ev2)
            refine r_pick C [0, 1] rfl ?_
            exact (ih (n - 1) (by omega)).2 (t) x1  (by first | exact (by assumption) | exact (iv1 (by omega)).1 | exact oQ_bad (iv0 (by omega)) (by omega)) (by first | exact (by assumption) | exact (iv1 (by omega)).2 | exact fun hb => by exfalso; omega) (by omega) (by omega) (by omega) (by omega) (by omega) (by omega) (by omega)
          · skip
            have hq5 : oQ B x (t) := iv0 (by omega)
            refine r_aload_n C (j := 0) (oDec_at oX12_sums 14 rfl) rfl rfl ?_
            have lk6 : ((t).1 71 5).toInt = v2.toInt := congrArg Int32.toInt (ev2)
            refine r_callVv C oCl12 rfl miX12_onePart mlX12_313 (ct_X12_onePart l E (t)  (B) (x) hq5 (by omega) (by omega) (by omega) (by omega)) (by decide) rfl rfl rfl (Nat.le_of_ble_eq_true rfl) (oDec_at oX12_sums 15 rfl) (fun u7 pu7 fu7 => ?_)
            try dsimp only at pu7
            try simp only [lk6] at pu7
            obtain ⟨pu7_0, pu7_1, pu7_2, pu7_3, pu7_4⟩ := pu7
            refine r_aload_n C (j := 0) (oDec_at oX12_sums 16 rfl) rfl rfl ?_
            obtain ⟨v9, ev9⟩ : ∃ z : Int32, (u7).1 71 5 = z := ⟨_, rfl⟩
            have gv9 : (u7.1 71 5).toInt = v9.toInt := congrArg Int32.toInt (ev9)
            have rv9 := n_rng v9
            refine r_geti (k := 5) (lo := (-2147483648)) (hi := 2147483647) C v9 oCl12 rfl (by decide) flX12_173 rfl rfl (ev9) rfl rfl (oDec_at oX12_sums 17 rfl) (fun _ _ => ?_)
            refine r_if_ne C 48 (oDec_at oX12_sums 18 rfl) (by decide) (fun cd10 => ?_) (fun cd10 => ?_)
            · skip
              refine r_iconst C (oDec_at oX12_sums 24 rfl) (v := k0) (by rw [qk0]; rfl) ?_
              refine r_istore_n C (lv' := [(0, .ref (oad E 71)), (1, .int x1), (2, .int k0)]) [1, 2, 0] (oDec_at oX12_sums 25 rfl) rfl (by decide) rfl ?_
              refine r_goto C (tgt := 15) (oDec_at oX12_sums 26 rfl) (by decide) ?_
              have lk11 : ((u7).1 71 55).toInt = (t.1 71 55).toInt := congrArg Int32.toInt ((fu7 71 55 rfl).1)
              have lk12 : ((u7).1 71 5).toInt = v9.toInt := congrArg Int32.toInt (ev9)
              have lk13 : ((u7).1 71 5).toInt = v9.toInt := congrArg Int32.toInt (ev9)
              exact (ih (n - 1) (by omega)).1 (u7) x1 k0  (by first | exact fun _ => (by assumption) | (intro h; exfalso; omega)) (by first | (intro h; exfalso; omega) | exact fun _ => pu7_2 (by omega) | exact fun _ => ⟨pu7_0, fun hb => by exfalso; omega⟩) (by omega) (by omega) (by omega) (by omega) (by omega) (by omega) (by omega) (by omega) (by omega)
            · skip
              refine r_aload_n C (j := 0) (oDec_at oX12_sums 19 rfl) rfl rfl ?_
              have lk14 : ((u7).1 71 55).toInt = (t.1 71 55).toInt := congrArg Int32.toInt ((fu7 71 55 rfl).1)
              have lk15 : ((u7).1 71 5).toInt = v9.toInt := congrArg Int32.toInt (ev9)
              refine r_callVi C oCl12 rfl miX12_goesOn mlX12_316 (ct_X12_goesOn l E (u7)  (B) (x) pu7_0 (by omega) (by omega) (by omega) (by omega) (by omega)) (by decide) rfl rfl rfl (Nat.le_of_ble_eq_true rfl) (oDec_at oX12_sums 20 rfl) (fun r17 u16 pu16 fu16 => ?_)
              try dsimp only at pu16
              try simp only [lk14, lk15] at pu16
              obtain ⟨pu16_0, pu16_1, pu16_2, pu16_3, pu16_4, pu16_5⟩ := pu16
              have rr17 := n_rng r17
              refine r_if_eq C 48 (oDec_at oX12_sums 21 rfl) (by decide) (fun cd18 => ?_) (fun cd18 => ?_)
              · skip
                refine r_iconst C (oDec_at oX12_sums 24 rfl) (v := k0) (by rw [qk0]; rfl) ?_
                refine r_istore_n C (lv' := [(0, .ref (oad E 71)), (1, .int x1), (2, .int k0)]) [1, 2, 0] (oDec_at oX12_sums 25 rfl) rfl (by decide) rfl ?_
                refine r_goto C (tgt := 15) (oDec_at oX12_sums 26 rfl) (by decide) ?_
                have lk19 : ((u16).1 71 55).toInt = (t.1 71 55).toInt := congrArg Int32.toInt (((fu16 71 55 rfl).1).trans ((fu7 71 55 rfl).1))
                exact (ih (n - 1) (by omega)).1 (u16) x1 k0  (by first | exact fun _ => (by assumption) | (intro h; exfalso; omega)) (by first | (intro h; exfalso; omega) | exact fun _ => pu16_2 (by omega) | exact fun _ => ⟨(by assumption), fun hb => by exfalso; omega⟩) (by omega) (by omega) (by omega) (by omega) (by omega) (by omega) (by omega) (by omega) (by omega)
              · skip
                have hq20 : oQ B x (u16) := pu16_1 (by omega)
                refine r_iconst C (oDec_at oX12_sums 22 rfl) (v := k1) (by rw [qk1]; rfl) ?_
                refine r_goto C (tgt := 49) (oDec_at oX12_sums 23 rfl) (by decide) ?_
                refine r_istore_n C (lv' := [(0, .ref (oad E 71)), (1, .int x1), (2, .int k1)]) [1, 2, 0] (oDec_at oX12_sums 25 rfl) rfl (by decide) rfl ?_
                refine r_goto C (tgt := 15) (oDec_at oX12_sums 26 rfl) (by decide) ?_
                have lk21 : ((u16).1 71 55).toInt = (t.1 71 55).toInt := congrArg Int32.toInt (((fu16 71 55 rfl).1).trans ((fu7 71 55 rfl).1))
                exact (ih (n - 1) (by omega)).1 (u16) x1 k1  (by first | exact fun _ => hq20 | (intro h; exfalso; omega)) (by first | (intro h; exfalso; omega) | exact fun _ => pu16_2 (by omega) | exact fun _ => ⟨(by assumption), fun hb => by exfalso; omega⟩) (by omega) (by omega) (by omega) (by omega) (by omega) (by omega) (by omega) (by omega) (by omega)
      · intro t x1  iv0 iv1 iv2 iv3 iv4 iv5 iv6 iv7 hmu
        have rx1 := n_rng x1
        refine r_ty C (fun hty => ?_)
        have hty_coded : (0 : Int) ≤ ((t).1 71 45).toInt ∧ ((t).1 71 45).toInt ≤ 1600 := hty.1 71 45
        have hty_waits : (0 : Int) ≤ ((t).1 71 47).toInt ∧ ((t).1 71 47).toInt ≤ 1700 := hty.1 71 47
        have hty_at : (0 : Int) ≤ ((t).1 71 2).toInt ∧ ((t).1 71 2).toInt ≤ 1600 := hty.1 71 2
        clear hty
        refine r_aload_n C (j := 0) (oDec_at oX12_sums 27 rfl) rfl rfl ?_
        obtain ⟨v22, ev22⟩ : ∃ z : Int32, (t).1 71 5 = z := ⟨_, rfl⟩
        have gv22 : (t.1 71 5).toInt = v22.toInt := congrArg Int32.toInt (ev22)
        have rv22 := n_rng v22
        refine r_geti (k := 5) (lo := (-2147483648)) (hi := 2147483647) C v22 oCl12 rfl (by decide) flX12_173 rfl rfl (ev22) rfl rfl (oDec_at oX12_sums 28 rfl) (fun _ _ => ?_)
        refine r_if_ne C 78 (oDec_at oX12_sums 29 rfl) (by decide) (fun cd23 => ?_) (fun cd23 => ?_)
        · skip
          have lk24 : ((t).1 71 5).toInt = v22.toInt := congrArg Int32.toInt (ev22)
          have hq25 : oQ 9999 (x + 1) (t) := oQ_ST iv0 (by omega)
          refine r_aload_n C (j := 0) (oDec_at oX12_sums 38 rfl) rfl rfl ?_
          refine r_iload_n C (j := 1) (oDec_at oX12_sums 39 rfl) rfl rfl ?_
          refine r_puti (k := 55) (lo := 0) (hi := 1700) C oCl12 rfl (by decide) flX12_283 rfl rfl rfl rfl rfl rfl rfl rfl ⟨by omega, by omega⟩ (oDec_at oX12_sums 40 rfl) ?_
          have lk26 : (((pI t 71 55 x1)).1 71 48).toInt = (t.1 71 48).toInt := congrArg Int32.toInt ((pI_ne (a := 71) (b := 48) (c := 71) (k := 55) _ _ (Or.inr (by decide))))
          have lk27 : (((pI t 71 55 x1)).1 71 2).toInt = (t.1 71 2).toInt := congrArg Int32.toInt ((pI_ne (a := 71) (b := 2) (c := 71) (k := 55) _ _ (Or.inr (by decide))))
          have lk28 : (((pI t 71 55 x1)).1 71 45).toInt = (t.1 71 45).toInt := congrArg Int32.toInt ((pI_ne (a := 71) (b := 45) (c := 71) (k := 55) _ _ (Or.inr (by decide))))
          have lk29 : (((pI t 71 55 x1)).1 71 47).toInt = (t.1 71 47).toInt := congrArg Int32.toInt ((pI_ne (a := 71) (b := 47) (c := 71) (k := 55) _ _ (Or.inr (by decide))))
          have lk30 : (((pI t 71 55 x1)).1 71 5).toInt = v22.toInt := congrArg Int32.toInt (((pI_ne (a := 71) (b := 5) (c := 71) (k := 55) _ _ (Or.inr (by decide)))).trans (ev22))
          have lk31 : (((pI t 71 55 x1)).1 71 2).toInt = (t.1 71 2).toInt := congrArg Int32.toInt ((pI_ne (a := 71) (b := 2) (c := 71) (k := 55) _ _ (Or.inr (by decide))))
          have lk32 : (((pI t 71 55 x1)).1 71 45).toInt = (t.1 71 45).toInt := congrArg Int32.toInt ((pI_ne (a := 71) (b := 45) (c := 71) (k := 55) _ _ (Or.inr (by decide))))
          have lk33 : (((pI t 71 55 x1)).1 71 47).toInt = (t.1 71 47).toInt := congrArg Int32.toInt ((pI_ne (a := 71) (b := 47) (c := 71) (k := 55) _ _ (Or.inr (by decide))))
          have lk34 : (((pI t 71 55 x1)).1 71 2).toInt = (t.1 71 2).toInt := congrArg Int32.toInt ((pI_ne (a := 71) (b := 2) (c := 71) (k := 55) _ _ (Or.inr (by decide))))
          exact r_vret C (oDec_at oX12_sums 41 rfl) ⟨rfl, ⟨(oQ_fr (oFr_oneI (q := 12) (m := 55) rfl (by rfl)) rfl hq25), by omega, by omega, by omega, by omega⟩⟩
        · skip
          refine r_aload_n C (j := 0) (oDec_at oX12_sums 30 rfl) rfl rfl ?_
          obtain ⟨v35, ev35⟩ : ∃ z : Int32, (t).1 71 47 = z := ⟨_, rfl⟩
          have gv35 : (t.1 71 47).toInt = v35.toInt := congrArg Int32.toInt (ev35)
          refine r_geti (k := 47) (lo := 0) (hi := 1700) C v35 oCl12 rfl (by decide) flX12_277 rfl rfl (ev35) rfl rfl (oDec_at oX12_sums 31 rfl) (fun b36 b36h => ?_)
          refine r_aload_n C (j := 0) (oDec_at oX12_sums 32 rfl) rfl rfl ?_
          obtain ⟨v37, ev37⟩ : ∃ z : Int32, (t).1 71 55 = z := ⟨_, rfl⟩
          have gv37 : (t.1 71 55).toInt = v37.toInt := congrArg Int32.toInt (ev37)
          refine r_geti (k := 55) (lo := 0) (hi := 1700) C v37 oCl12 rfl (by decide) flX12_283 rfl rfl (ev37) rfl rfl (oDec_at oX12_sums 33 rfl) (fun b38 b38h => ?_)
          refine r_icmp_le C 78 (oDec_at oX12_sums 34 rfl) (by decide) (fun cd39 => ?_) (fun cd39 => ?_)
          · skip
            have lk40 : ((t).1 71 5).toInt = v22.toInt := congrArg Int32.toInt (ev22)
            have lk41 : ((t).1 71 47).toInt = v35.toInt := congrArg Int32.toInt (ev35)
            have lk42 : ((t).1 71 55).toInt = v37.toInt := congrArg Int32.toInt (ev37)
            have hq43 : oQ 9999 (x + 1) (t) := oQ_ST iv0 (by omega)
            refine r_aload_n C (j := 0) (oDec_at oX12_sums 38 rfl) rfl rfl ?_
            refine r_iload_n C (j := 1) (oDec_at oX12_sums 39 rfl) rfl rfl ?_
            refine r_puti (k := 55) (lo := 0) (hi := 1700) C oCl12 rfl (by decide) flX12_283 rfl rfl rfl rfl rfl rfl rfl rfl ⟨by omega, by omega⟩ (oDec_at oX12_sums 40 rfl) ?_
            have lk44 : (((pI t 71 55 x1)).1 71 48).toInt = (t.1 71 48).toInt := congrArg Int32.toInt ((pI_ne (a := 71) (b := 48) (c := 71) (k := 55) _ _ (Or.inr (by decide))))
            have lk45 : (((pI t 71 55 x1)).1 71 2).toInt = (t.1 71 2).toInt := congrArg Int32.toInt ((pI_ne (a := 71) (b := 2) (c := 71) (k := 55) _ _ (Or.inr (by decide))))
            have lk46 : (((pI t 71 55 x1)).1 71 45).toInt = (t.1 71 45).toInt := congrArg Int32.toInt ((pI_ne (a := 71) (b := 45) (c := 71) (k := 55) _ _ (Or.inr (by decide))))
            have lk47 : (((pI t 71 55 x1)).1 71 47).toInt = v35.toInt := congrArg Int32.toInt (((pI_ne (a := 71) (b := 47) (c := 71) (k := 55) _ _ (Or.inr (by decide)))).trans (ev35))
            have lk48 : (((pI t 71 55 x1)).1 71 5).toInt = v22.toInt := congrArg Int32.toInt (((pI_ne (a := 71) (b := 5) (c := 71) (k := 55) _ _ (Or.inr (by decide)))).trans (ev22))
            have lk49 : (((pI t 71 55 x1)).1 71 2).toInt = (t.1 71 2).toInt := congrArg Int32.toInt ((pI_ne (a := 71) (b := 2) (c := 71) (k := 55) _ _ (Or.inr (by decide))))
            have lk50 : (((pI t 71 55 x1)).1 71 45).toInt = (t.1 71 45).toInt := congrArg Int32.toInt ((pI_ne (a := 71) (b := 45) (c := 71) (k := 55) _ _ (Or.inr (by decide))))
            have lk51 : (((pI t 71 55 x1)).1 71 47).toInt = v35.toInt := congrArg Int32.toInt (((pI_ne (a := 71) (b := 47) (c := 71) (k := 55) _ _ (Or.inr (by decide)))).trans (ev35))
            have lk52 : (((pI t 71 55 x1)).1 71 2).toInt = (t.1 71 2).toInt := congrArg Int32.toInt ((pI_ne (a := 71) (b := 2) (c := 71) (k := 55) _ _ (Or.inr (by decide))))
            exact r_vret C (oDec_at oX12_sums 41 rfl) ⟨rfl, ⟨(oQ_fr (oFr_oneI (q := 12) (m := 55) rfl (by rfl)) rfl hq43), by omega, by omega, by omega, by omega⟩⟩
          · skip
            have hnt := oMk_nt (iv1 (by omega)) (by omega) (by omega)
            have h14 := oQ_topS iv0 (by omega) (by omega) (by omega)
            refine r_aload_n C (j := 0) (oDec_at oX12_sums 35 rfl) rfl rfl ?_
            have lk53 : ((t).1 71 47).toInt = v35.toInt := congrArg Int32.toInt (ev35)
            have lk54 : ((t).1 71 47).toInt = v35.toInt := congrArg Int32.toInt (ev35)
            refine r_callVv C oCl12 rfl miX12_drops mlX12_289 (ct_X12_drops l E (t)  (by omega) (by omega)) (by decide) rfl rfl rfl (Nat.le_of_ble_eq_true rfl) (oDec_at oX12_sums 36 rfl) (fun u55 pu55 fu55 => ?_)
            try dsimp only at pu55
            try simp only [lk53, lk54] at pu55
            obtain ⟨pu55_0, pu55_1, pu55_2⟩ := pu55
            have hq57 : oQ B (x + 1) (u55) := oQ_drop iv0 pu55_0 (by omega) (by omega) (by omega) (by omega)
            have hq58 : oMn (u55) := oMn_drop iv1 pu55_0 (by omega) (by omega)
            refine r_goto C (tgt := 53) (oDec_at oX12_sums 37 rfl) (by decide) ?_
            have lk59 : ((u55).1 71 55).toInt = v37.toInt := congrArg Int32.toInt (((fu55 71 55 rfl).1).trans (ev37))
            have lk60 : ((u55).1 71 48).toInt = (t.1 71 48).toInt := congrArg Int32.toInt ((fu55 71 48 rfl).1)
            have lk61 : ((u55).1 71 2).toInt = (t.1 71 2).toInt := congrArg Int32.toInt ((fu55 71 2 rfl).1)
            have lk62 : ((u55).1 71 5).toInt = v22.toInt := congrArg Int32.toInt (((fu55 71 5 rfl).1).trans (ev22))
            have lk63 : ((u55).1 71 2).toInt = (t.1 71 2).toInt := congrArg Int32.toInt ((fu55 71 2 rfl).1)
            have lk64 : ((u55).1 71 2).toInt = (t.1 71 2).toInt := congrArg Int32.toInt ((fu55 71 2 rfl).1)
            exact (ih (n - 1) (by omega)).2 (u55) x1  (by first | exact hq57 | exact (iv1 (by omega)).1 | exact oQ_bad (iv0 (by omega)) (by omega)) (by first | exact hq58 | exact (iv1 (by omega)).2 | exact fun hb => by exfalso; omega) (by omega) (by omega) (by omega) (by omega) (by omega) (by omega) (by omega)
  refine r_aload_n C (j := 0) (oDec_at oX12_sums 0 rfl) rfl rfl ?_
  obtain ⟨v65, ev65⟩ : ∃ z : Int32, (s).1 71 55 = z := ⟨_, rfl⟩
  have gv65 : (s.1 71 55).toInt = v65.toInt := congrArg Int32.toInt (ev65)
  refine r_geti (k := 55) (lo := 0) (hi := 1700) C v65 oCl12 rfl (by decide) flX12_283 rfl rfl (ev65) rfl rfl (oDec_at oX12_sums 1 rfl) (fun b66 b66h => ?_)
  refine r_istore_n C (lv' := [(0, .ref (oad E 71)), (1, .int v65)]) [1, 0] (oDec_at oX12_sums 2 rfl) rfl (by decide) rfl ?_
  refine r_aload_n C (j := 0) (oDec_at oX12_sums 3 rfl) rfl rfl ?_
  refine r_aload_n C (j := 0) (oDec_at oX12_sums 4 rfl) rfl rfl ?_
  obtain ⟨v67, ev67⟩ : ∃ z : Int32, (s).1 71 47 = z := ⟨_, rfl⟩
  have gv67 : (s.1 71 47).toInt = v67.toInt := congrArg Int32.toInt (ev67)
  refine r_geti (k := 47) (lo := 0) (hi := 1700) C v67 oCl12 rfl (by decide) flX12_277 rfl rfl (ev67) rfl rfl (oDec_at oX12_sums 5 rfl) (fun b68 b68h => ?_)
  refine r_pc C 10 rfl ?_
  refine r_puti (k := 55) (lo := 0) (hi := 1700) C oCl12 rfl (by decide) flX12_283 rfl rfl rfl rfl rfl rfl rfl rfl ⟨by omega, by omega⟩ (oDec_at oX12_sums 6 rfl) ?_
  have hq69 : oQ B x ((pI s 71 55 v67)) := oQ_TS (oQ_fr (oFr_oneI (q := 12) (m := 55) rfl (by rfl)) rfl hp0) hB
  refine r_iconst C (oDec_at oX12_sums 7 rfl) (v := k1) (by rw [qk1]; rfl) ?_
  refine r_istore_n C (lv' := [(0, .ref (oad E 71)), (1, .int v65), (2, .int k1)]) [1, 2, 0] (oDec_at oX12_sums 8 rfl) rfl (by decide) rfl ?_
  have lk70 : (((pI s 71 55 v67)).1 71 55).toInt = v67.toInt := congrArg Int32.toInt ((pI_self _ _ _ _))
  have lk71 : (((pI s 71 55 v67)).1 71 48).toInt = (s.1 71 48).toInt := congrArg Int32.toInt ((pI_ne (a := 71) (b := 48) (c := 71) (k := 55) _ _ (Or.inr (by decide))))
  have lk72 : (((pI s 71 55 v67)).1 71 2).toInt = (s.1 71 2).toInt := congrArg Int32.toInt ((pI_ne (a := 71) (b := 2) (c := 71) (k := 55) _ _ (Or.inr (by decide))))
  have lk73 : (((pI s 71 55 v67)).1 71 45).toInt = (s.1 71 45).toInt := congrArg Int32.toInt ((pI_ne (a := 71) (b := 45) (c := 71) (k := 55) _ _ (Or.inr (by decide))))
  have lk74 : (((pI s 71 55 v67)).1 71 47).toInt = v67.toInt := congrArg Int32.toInt (((pI_ne (a := 71) (b := 47) (c := 71) (k := 55) _ _ (Or.inr (by decide)))).trans (ev67))
  have lk75 : (((pI s 71 55 v67)).1 71 5).toInt = (s.1 71 5).toInt := congrArg Int32.toInt ((pI_ne (a := 71) (b := 5) (c := 71) (k := 55) _ _ (Or.inr (by decide))))
  have lk76 : (((pI s 71 55 v67)).1 71 2).toInt = (s.1 71 2).toInt := congrArg Int32.toInt ((pI_ne (a := 71) (b := 2) (c := 71) (k := 55) _ _ (Or.inr (by decide))))
  have lk77 : (((pI s 71 55 v67)).1 71 45).toInt = (s.1 71 45).toInt := congrArg Int32.toInt ((pI_ne (a := 71) (b := 45) (c := 71) (k := 55) _ _ (Or.inr (by decide))))
  have lk78 : (((pI s 71 55 v67)).1 71 47).toInt = v67.toInt := congrArg Int32.toInt (((pI_ne (a := 71) (b := 47) (c := 71) (k := 55) _ _ (Or.inr (by decide)))).trans (ev67))
  have lk79 : (((pI s 71 55 v67)).1 71 2).toInt = (s.1 71 2).toInt := congrArg Int32.toInt ((pI_ne (a := 71) (b := 2) (c := 71) (k := 55) _ _ (Or.inr (by decide))))
  have lk80 : (((pI s 71 55 v67)).1 71 5).toInt = (s.1 71 5).toInt := congrArg Int32.toInt ((pI_ne (a := 71) (b := 5) (c := 71) (k := 55) _ _ (Or.inr (by decide))))
  have lk81 : (((pI s 71 55 v67)).1 71 2).toInt = (s.1 71 2).toInt := congrArg Int32.toInt ((pI_ne (a := 71) (b := 2) (c := 71) (k := 55) _ _ (Or.inr (by decide))))
  have lk82 : (((pI s 71 55 v67)).1 71 2).toInt = (s.1 71 2).toInt := congrArg Int32.toInt ((pI_ne (a := 71) (b := 2) (c := 71) (k := 55) _ _ (Or.inr (by decide))))
  exact (key (4000 * (1602 - (((pI s 71 55 v67)).1 71 2).toInt) + k1.toInt).toNat).1 ((pI s 71 55 v67)) v65 k1  (by first | exact fun _ => hq69 | (intro h; exfalso; omega)) (by first | (intro h; exfalso; omega) | exact fun _ => ⟨(by assumption), fun hb => by exfalso; omega⟩) (by omega) (by omega) (by omega) (by omega) (by omega) (by omega) (by omega) (by omega) (by omega)
set_option maxHeartbeats 4000000 in
set_option maxRecDepth 100000 in
theorem ct_X12_fact (l : Launch) (E : oE) (s : oS)   (hp0 : oQ 9999 0 s) (hp1 : (s.1 71 5).toInt = 0) (hp2 : 0 ≤ (s.1 71 48).toInt ∧ (s.1 71 48).toInt ≤ 6) (hp3 : (s.1 71 45).toInt + (s.1 71 47).toInt + 5 ≤ (s.1 71 2).toInt) : oMet l 7 yX12_fact cX12_fact 2 none [(12, 2), (12, 4), (12, 5), (12, 6), (12, 9), (12, 45), (12, 47), (12, 48), (12, 55), (78, 9999), (79, 9999)] E s [.ref (oad E 71)] (oPv (fun u => (oQ 9999 1 u) ∧ (0 ≤ (u.1 71 48).toInt ∧ (u.1 71 48).toInt ≤ 6) ∧ ((s.1 71 2).toInt - (s.1 71 45).toInt - (s.1 71 47).toInt ≤ (u.1 71 2).toInt - (u.1 71 45).toInt - (u.1 71 47).toInt + 2) ∧ ((u.1 71 5).toInt = 0 → ((s.1 71 2).toInt - (s.1 71 45).toInt - (s.1 71 47).toInt ≤ (u.1 71 2).toInt - (u.1 71 45).toInt - (u.1 71 47).toInt ∧ (s.1 71 2).toInt + 1 ≤ (u.1 71 2).toInt)) ∧ ((s.1 71 2).toInt ≤ (u.1 71 2).toInt))) := by
  refine oMet.of (lv := [(0, .ref (oad E 71))]) (by decide +kernel) (Nat.le_of_ble_eq_true rfl) rfl (fun J C hT => ?_)
  have C : oC l 7 cX12_fact RX12 2 none [(12, 2), (12, 4), (12, 5), (12, 6), (12, 9), (12, 45), (12, 47), (12, 48), (12, 55), (78, 9999), (79, 9999)] E s (oPv (fun u => (oQ 9999 1 u) ∧ (0 ≤ (u.1 71 48).toInt ∧ (u.1 71 48).toInt ≤ 6) ∧ ((s.1 71 2).toInt - (s.1 71 45).toInt - (s.1 71 47).toInt ≤ (u.1 71 2).toInt - (u.1 71 45).toInt - (u.1 71 47).toInt + 2) ∧ ((u.1 71 5).toInt = 0 → ((s.1 71 2).toInt - (s.1 71 45).toInt - (s.1 71 47).toInt ≤ (u.1 71 2).toInt - (u.1 71 45).toInt - (u.1 71 47).toInt ∧ (s.1 71 2).toInt + 1 ≤ (u.1 71 2).toInt)) ∧ ((s.1 71 2).toInt ≤ (u.1 71 2).toInt))) J := C
  obtain ⟨k1, qk1⟩ : ∃ z : Int32, z = 1 := ⟨_, rfl⟩
  have ek1 : k1.toInt = 1 := by rw [qk1]; rfl
  obtain ⟨k11, qk11⟩ : ∃ z : Int32, z = 11 := ⟨_, rfl⟩
  have ek11 : k11.toInt = 11 := by rw [qk11]; rfl
  obtain ⟨k12, qk12⟩ : ∃ z : Int32, z = 12 := ⟨_, rfl⟩
  have ek12 : k12.toInt = 12 := by rw [qk12]; rfl
  obtain ⟨k13, qk13⟩ : ∃ z : Int32, z = 13 := ⟨_, rfl⟩
  have ek13 : k13.toInt = 13 := by rw [qk13]; rfl
  obtain ⟨k17, qk17⟩ : ∃ z : Int32, z = 17 := ⟨_, rfl⟩
  have ek17 : k17.toInt = 17 := by rw [qk17]; rfl
  obtain ⟨k60, qk60⟩ : ∃ z : Int32, z = 60 := ⟨_, rfl⟩
  have ek60 : k60.toInt = 60 := by rw [qk60]; rfl
  obtain ⟨k61, qk61⟩ : ∃ z : Int32, z = 61 := ⟨_, rfl⟩
  have ek61 : k61.toInt = 61 := by rw [qk61]; rfl
  obtain ⟨k62, qk62⟩ : ∃ z : Int32, z = 62 := ⟨_, rfl⟩
  have ek62 : k62.toInt = 62 := by rw [qk62]; rfl
  have htz_waits : (0 : Int) ≤ (s.1 71 47).toInt ∧ (s.1 71 47).toInt ≤ 1700 := hT.1 71 47
  have htz_coded : (0 : Int) ≤ (s.1 71 45).toInt ∧ (s.1 71 45).toInt ≤ 1600 := hT.1 71 45
  have htz_at : (0 : Int) ≤ (s.1 71 2).toInt ∧ (s.1 71 2).toInt ≤ 1600 := hT.1 71 2
  refine r_aload_n C (j := 0) (oDec_at oX12_fact 0 rfl) rfl rfl ?_
  refine r_aload_n C (j := 0) (oDec_at oX12_fact 1 rfl) rfl rfl ?_
  refine r_getF (k := 20) (b := 83) C oCl12 rfl (by decide) flX12_48 rfl rfl rfl (oDec_at oX12_fact 2 rfl) ?_
  refine r_callVi C oCl12 rfl miX12_takes mlX12_200 (ct_X12_takes l E (s) 83 59 3 rfl (by decide) (by decide) rfl rfl (by omega)) (by decide) rfl rfl rfl (Nat.le_of_ble_eq_true rfl) (oDec_at oX12_fact 3 rfl) (fun r2 u1 pu1 fu1 => ?_)
  try dsimp only at pu1
  obtain ⟨pu1_0, pu1_1, pu1_2⟩ := pu1
  have rr2 := n_rng r2
  refine r_if_eq C 18 (oDec_at oX12_fact 4 rfl) (by decide) (fun cd3 => ?_) (fun cd3 => ?_)
  · skip
    clear pu1_2
    refine r_aload_n C (j := 0) (oDec_at oX12_fact 9 rfl) rfl rfl ?_
    have lk4 : ((u1).1 71 5).toInt = (s.1 71 5).toInt := congrArg Int32.toInt ((fu1 71 5 rfl).1)
    have lk5 : ((u1).1 71 48).toInt = (s.1 71 48).toInt := congrArg Int32.toInt ((fu1 71 48 rfl).1)
    have lk6 : ((u1).1 71 45).toInt = (s.1 71 45).toInt := congrArg Int32.toInt ((fu1 71 45 rfl).1)
    have lk7 : ((u1).1 71 47).toInt = (s.1 71 47).toInt := congrArg Int32.toInt ((fu1 71 47 rfl).1)
    have lk8 : ((u1).1 71 45).toInt = (s.1 71 45).toInt := congrArg Int32.toInt ((fu1 71 45 rfl).1)
    have lk9 : ((u1).1 71 47).toInt = (s.1 71 47).toInt := congrArg Int32.toInt ((fu1 71 47 rfl).1)
    have lk10 : ((u1).1 71 45).toInt = (s.1 71 45).toInt := congrArg Int32.toInt ((fu1 71 45 rfl).1)
    have lk11 : ((u1).1 71 47).toInt = (s.1 71 47).toInt := congrArg Int32.toInt ((fu1 71 47 rfl).1)
    refine r_callVv C oCl12 rfl miX12_sums mlX12_319 (ct_X12_sums l E (u1)  (0) (oQ_fr fu1 rfl hp0) (by omega) (by omega) (by omega)) (by decide) rfl rfl rfl (Nat.le_of_ble_eq_true rfl) (oDec_at oX12_fact 10 rfl) (fun u12 pu12 fu12 => ?_)
    try dsimp only at pu12
    try simp only [lk4, lk5, lk6, lk7, lk8, lk9, lk10, lk11] at pu12
    obtain ⟨pu12_0, pu12_1, pu12_2, pu12_3, pu12_4⟩ := pu12
    refine r_aload_n C (j := 0) (oDec_at oX12_fact 11 rfl) rfl rfl ?_
    obtain ⟨v14, ev14⟩ : ∃ z : Int32, (u12).1 71 5 = z := ⟨_, rfl⟩
    have gv14 : (u12.1 71 5).toInt = v14.toInt := congrArg Int32.toInt (ev14)
    have rv14 := n_rng v14
    refine r_geti (k := 5) (lo := (-2147483648)) (hi := 2147483647) C v14 oCl12 rfl (by decide) flX12_173 rfl rfl (ev14) rfl rfl (oDec_at oX12_fact 12 rfl) (fun _ _ => ?_)
    refine r_if_eq C 30 (oDec_at oX12_fact 13 rfl) (by decide) (fun cd15 => ?_) (fun cd15 => ?_)
    · skip
      refine r_ty C (fun hty => ?_)
      have hty_coded : (0 : Int) ≤ ((u12).1 71 45).toInt ∧ ((u12).1 71 45).toInt ≤ 1600 := hty.1 71 45
      have hty_waits : (0 : Int) ≤ ((u12).1 71 47).toInt ∧ ((u12).1 71 47).toInt ≤ 1700 := hty.1 71 47
      clear hty
      have hq16 : oQ 9999 1 (u12) := pu12_0
      refine r_aload_n C (j := 0) (oDec_at oX12_fact 15 rfl) rfl rfl ?_
      refine r_callVi C oCl12 rfl miX12_look mlX12_185 (ct_X12_look l E (u12)  ) (by decide) rfl rfl rfl (Nat.le_of_ble_eq_true rfl) (oDec_at oX12_fact 16 rfl) (fun r18 u17 pu17 fu17 => ?_)
      try dsimp only at pu17
      obtain ⟨pu17_0, pu17_1⟩ := pu17
      obtain ⟨v19, ev19⟩ : ∃ z : Int32, (u17).1 71 2 = z := ⟨_, rfl⟩
      have gv19 : (u17.1 71 2).toInt = v19.toInt := congrArg Int32.toInt ev19
      have lt20 : ((u17).1 72 ((u17).1 71 2).toNatClampNeg).toInt = (s.1 72 v19.toNatClampNeg).toInt := by rw [ev19, show (u17).1 72 v19.toNatClampNeg = s.1 72 v19.toNatClampNeg from ((fu17 72 v19.toNatClampNeg rfl).1).trans (((fu12 72 v19.toNatClampNeg rfl).1).trans ((fu1 72 v19.toNatClampNeg rfl).1))]
      have lu21 : ((u17).1 71 2).toInt = v19.toInt := congrArg Int32.toInt (ev19)
      have lu22 : ((u17).1 71 2).toInt = v19.toInt := congrArg Int32.toInt (ev19)
      have lu23 : ((u17).1 71 3).toInt = (s.1 71 3).toInt := congrArg Int32.toInt (((fu17 71 3 rfl).1).trans (((fu12 71 3 rfl).1).trans ((fu1 71 3 rfl).1)))
      have rr18 := n_rng r18
      refine r_istore_n C (lv' := [(0, .ref (oad E 71)), (1, .int r18)]) [1, 0] (oDec_at oX12_fact 17 rfl) rfl (by decide) rfl ?_
      refine r_iload_n C (j := 1) (oDec_at oX12_fact 18 rfl) rfl rfl ?_
      refine r_bipush C (oDec_at oX12_fact 19 rfl) (v := k60) (by rw [qk60]; rfl) ?_
      refine r_icmp_eq C 63 (oDec_at oX12_fact 20 rfl) (by decide) (fun cd24 => ?_) (fun cd24 => ?_)
      · skip
        replace pu17_1 := pu17_1.resolve_left (by omega)
        refine r_aload_n C (j := 0) (oDec_at oX12_fact 33 rfl) rfl rfl ?_
        refine r_dup C (oDec_at oX12_fact 34 rfl) rfl ?_
        refine r_geti (k := 2) (lo := 0) (hi := 1600) C v19 oCl12 rfl (by decide) flX12_179 rfl rfl (ev19) rfl rfl (oDec_at oX12_fact 35 rfl) (fun b25 b25h => ?_)
        refine r_iconst C (oDec_at oX12_fact 36 rfl) (v := k1) (by rw [qk1]; rfl) ?_
        obtain ⟨v26, ev26⟩ : ∃ z : Int32, z = v19 + k1 := ⟨_, rfl⟩
        have hv26 : v26.toInt = v19.toInt + k1.toInt := n_add ev26 (by omega) (by omega)
        refine r_iadd C v26 (oDec_at oX12_fact 37 rfl) ev26 ?_
        refine r_puti (k := 2) (lo := 0) (hi := 1600) C oCl12 rfl (by decide) flX12_179 rfl rfl rfl rfl rfl rfl rfl rfl ⟨by omega, by omega⟩ (oDec_at oX12_fact 38 rfl) ?_
        refine r_pc C 73 rfl ?_
        refine r_aload_n C (j := 0) (oDec_at oX12_fact 39 rfl) rfl rfl ?_
        have lk27 : (((pI u17 71 2 v26)).1 71 5).toInt = v14.toInt := congrArg Int32.toInt (((pI_ne (a := 71) (b := 5) (c := 71) (k := 2) _ _ (Or.inr (by decide)))).trans (((fu17 71 5 rfl).1).trans (ev14)))
        have lk28 : (((pI u17 71 2 v26)).1 71 48).toInt = (u12.1 71 48).toInt := congrArg Int32.toInt (((pI_ne (a := 71) (b := 48) (c := 71) (k := 2) _ _ (Or.inr (by decide)))).trans ((fu17 71 48 rfl).1))
        have lk29 : (((pI u17 71 2 v26)).1 71 45).toInt = (u12.1 71 45).toInt := congrArg Int32.toInt (((pI_ne (a := 71) (b := 45) (c := 71) (k := 2) _ _ (Or.inr (by decide)))).trans ((fu17 71 45 rfl).1))
        have lk30 : (((pI u17 71 2 v26)).1 71 47).toInt = (u12.1 71 47).toInt := congrArg Int32.toInt (((pI_ne (a := 71) (b := 47) (c := 71) (k := 2) _ _ (Or.inr (by decide)))).trans ((fu17 71 47 rfl).1))
        have lk31 : (((pI u17 71 2 v26)).1 71 2).toInt = v26.toInt := congrArg Int32.toInt ((pI_self _ _ _ _))
        have lk32 : (((pI u17 71 2 v26)).1 71 2).toInt = v26.toInt := congrArg Int32.toInt ((pI_self _ _ _ _))
        have lk33 : (((pI u17 71 2 v26)).1 71 45).toInt = (u12.1 71 45).toInt := congrArg Int32.toInt (((pI_ne (a := 71) (b := 45) (c := 71) (k := 2) _ _ (Or.inr (by decide)))).trans ((fu17 71 45 rfl).1))
        have lk34 : (((pI u17 71 2 v26)).1 71 47).toInt = (u12.1 71 47).toInt := congrArg Int32.toInt (((pI_ne (a := 71) (b := 47) (c := 71) (k := 2) _ _ (Or.inr (by decide)))).trans ((fu17 71 47 rfl).1))
        have lk35 : (((pI u17 71 2 v26)).1 71 2).toInt = v26.toInt := congrArg Int32.toInt ((pI_self _ _ _ _))
        have lk36 : (((pI u17 71 2 v26)).1 71 45).toInt = (u12.1 71 45).toInt := congrArg Int32.toInt (((pI_ne (a := 71) (b := 45) (c := 71) (k := 2) _ _ (Or.inr (by decide)))).trans ((fu17 71 45 rfl).1))
        have lk37 : (((pI u17 71 2 v26)).1 71 47).toInt = (u12.1 71 47).toInt := congrArg Int32.toInt (((pI_ne (a := 71) (b := 47) (c := 71) (k := 2) _ _ (Or.inr (by decide)))).trans ((fu17 71 47 rfl).1))
        have lk38 : (((pI u17 71 2 v26)).1 71 2).toInt = v26.toInt := congrArg Int32.toInt ((pI_self _ _ _ _))
        refine r_callVv C oCl12 rfl miX12_sums mlX12_319 (ct_X12_sums l E ((pI u17 71 2 v26))  (1) (oQ_fr (oFr_oneI (q := 12) (m := 2) rfl (by rfl)) rfl (oQ_fr fu17 rfl hq16)) (by omega) (by omega) (by omega)) (by decide) rfl rfl rfl (Nat.le_of_ble_eq_true rfl) (oDec_at oX12_fact 40 rfl) (fun u39 pu39 fu39 => ?_)
        try dsimp only at pu39
        try simp only [lk27, lk28, lk29, lk30, lk31, lk32, lk33, lk34, lk35, lk36, lk37, lk38] at pu39
        obtain ⟨pu39_0, pu39_1, pu39_2, pu39_3, pu39_4⟩ := pu39
        refine r_ty C (fun hty => ?_)
        have hty_coded : (0 : Int) ≤ ((u39).1 71 45).toInt ∧ ((u39).1 71 45).toInt ≤ 1600 := hty.1 71 45
        have hty_waits : (0 : Int) ≤ ((u39).1 71 47).toInt ∧ ((u39).1 71 47).toInt ≤ 1700 := hty.1 71 47
        have hty_at : (0 : Int) ≤ ((u39).1 71 2).toInt ∧ ((u39).1 71 2).toInt ≤ 1600 := hty.1 71 2
        clear hty
        refine r_aload_n C (j := 0) (oDec_at oX12_fact 41 rfl) rfl rfl ?_
        refine r_iload_n C (j := 1) (oDec_at oX12_fact 42 rfl) rfl rfl ?_
        refine r_bipush C (oDec_at oX12_fact 43 rfl) (v := k60) (by rw [qk60]; rfl) ?_
        refine r_icmp_ne C 89 (oDec_at oX12_fact 44 rfl) (by decide) (fun cd41 => ?_) (fun cd41 => ?_)
        · omega
        · skip
          refine r_bipush C (oDec_at oX12_fact 45 rfl) (v := k11) (by rw [qk11]; rfl) ?_
          refine r_goto C (tgt := 102) (oDec_at oX12_fact 46 rfl) (by decide) ?_
          refine r_callVv C oCl12 rfl miX12_lay mlX12_280 (ct_X12_lay l E (u39) k11 (by omega)) (by decide) rfl rfl rfl (Nat.le_of_ble_eq_true rfl) (oDec_at oX12_fact 53 rfl) (fun u42 pu42 fu42 => ?_)
          try dsimp only at pu42
          obtain ⟨pu42_0, pu42_1⟩ := pu42
          have hq44 : oQ 9999 1 (u42) := oQ_jn (x := 1) pu39_0 pu42_0 (by omega) (by omega) (by omega)
          have lk45 : ((u42).1 71 48).toInt = (u39.1 71 48).toInt := congrArg Int32.toInt ((fu42 71 48 rfl).1)
          have lk46 : ((u42).1 71 2).toInt = (u39.1 71 2).toInt := congrArg Int32.toInt ((fu42 71 2 rfl).1)
          have lk47 : ((u42).1 71 47).toInt = (u39.1 71 47).toInt := congrArg Int32.toInt ((fu42 71 47 rfl).1)
          have lk48 : ((u42).1 71 5).toInt = (u39.1 71 5).toInt := congrArg Int32.toInt ((fu42 71 5 rfl).1)
          have lk49 : ((u42).1 71 2).toInt = (u39.1 71 2).toInt := congrArg Int32.toInt ((fu42 71 2 rfl).1)
          have lk50 : ((u42).1 71 47).toInt = (u39.1 71 47).toInt := congrArg Int32.toInt ((fu42 71 47 rfl).1)
          have lk51 : ((u42).1 71 2).toInt = (u39.1 71 2).toInt := congrArg Int32.toInt ((fu42 71 2 rfl).1)
          exact r_vret C (oDec_at oX12_fact 54 rfl) ⟨rfl, ⟨hq44, by omega, by omega, by omega, by omega⟩⟩
      · skip
        refine r_iload_n C (j := 1) (oDec_at oX12_fact 21 rfl) rfl rfl ?_
        refine r_bipush C (oDec_at oX12_fact 22 rfl) (v := k62) (by rw [qk62]; rfl) ?_
        refine r_icmp_eq C 63 (oDec_at oX12_fact 23 rfl) (by decide) (fun cd52 => ?_) (fun cd52 => ?_)
        · skip
          replace pu17_1 := pu17_1.resolve_left (by omega)
          refine r_aload_n C (j := 0) (oDec_at oX12_fact 33 rfl) rfl rfl ?_
          refine r_dup C (oDec_at oX12_fact 34 rfl) rfl ?_
          refine r_geti (k := 2) (lo := 0) (hi := 1600) C v19 oCl12 rfl (by decide) flX12_179 rfl rfl (ev19) rfl rfl (oDec_at oX12_fact 35 rfl) (fun b53 b53h => ?_)
          refine r_iconst C (oDec_at oX12_fact 36 rfl) (v := k1) (by rw [qk1]; rfl) ?_
          obtain ⟨v54, ev54⟩ : ∃ z : Int32, z = v19 + k1 := ⟨_, rfl⟩
          have hv54 : v54.toInt = v19.toInt + k1.toInt := n_add ev54 (by omega) (by omega)
          refine r_iadd C v54 (oDec_at oX12_fact 37 rfl) ev54 ?_
          refine r_puti (k := 2) (lo := 0) (hi := 1600) C oCl12 rfl (by decide) flX12_179 rfl rfl rfl rfl rfl rfl rfl rfl ⟨by omega, by omega⟩ (oDec_at oX12_fact 38 rfl) ?_
          refine r_pc C 73 rfl ?_
          refine r_aload_n C (j := 0) (oDec_at oX12_fact 39 rfl) rfl rfl ?_
          have lk55 : (((pI u17 71 2 v54)).1 71 5).toInt = v14.toInt := congrArg Int32.toInt (((pI_ne (a := 71) (b := 5) (c := 71) (k := 2) _ _ (Or.inr (by decide)))).trans (((fu17 71 5 rfl).1).trans (ev14)))
          have lk56 : (((pI u17 71 2 v54)).1 71 48).toInt = (u12.1 71 48).toInt := congrArg Int32.toInt (((pI_ne (a := 71) (b := 48) (c := 71) (k := 2) _ _ (Or.inr (by decide)))).trans ((fu17 71 48 rfl).1))
          have lk57 : (((pI u17 71 2 v54)).1 71 45).toInt = (u12.1 71 45).toInt := congrArg Int32.toInt (((pI_ne (a := 71) (b := 45) (c := 71) (k := 2) _ _ (Or.inr (by decide)))).trans ((fu17 71 45 rfl).1))
          have lk58 : (((pI u17 71 2 v54)).1 71 47).toInt = (u12.1 71 47).toInt := congrArg Int32.toInt (((pI_ne (a := 71) (b := 47) (c := 71) (k := 2) _ _ (Or.inr (by decide)))).trans ((fu17 71 47 rfl).1))
          have lk59 : (((pI u17 71 2 v54)).1 71 2).toInt = v54.toInt := congrArg Int32.toInt ((pI_self _ _ _ _))
          have lk60 : (((pI u17 71 2 v54)).1 71 2).toInt = v54.toInt := congrArg Int32.toInt ((pI_self _ _ _ _))
          have lk61 : (((pI u17 71 2 v54)).1 71 45).toInt = (u12.1 71 45).toInt := congrArg Int32.toInt (((pI_ne (a := 71) (b := 45) (c := 71) (k := 2) _ _ (Or.inr (by decide)))).trans ((fu17 71 45 rfl).1))
          have lk62 : (((pI u17 71 2 v54)).1 71 47).toInt = (u12.1 71 47).toInt := congrArg Int32.toInt (((pI_ne (a := 71) (b := 47) (c := 71) (k := 2) _ _ (Or.inr (by decide)))).trans ((fu17 71 47 rfl).1))
          have lk63 : (((pI u17 71 2 v54)).1 71 2).toInt = v54.toInt := congrArg Int32.toInt ((pI_self _ _ _ _))
          have lk64 : (((pI u17 71 2 v54)).1 71 45).toInt = (u12.1 71 45).toInt := congrArg Int32.toInt (((pI_ne (a := 71) (b := 45) (c := 71) (k := 2) _ _ (Or.inr (by decide)))).trans ((fu17 71 45 rfl).1))
          have lk65 : (((pI u17 71 2 v54)).1 71 47).toInt = (u12.1 71 47).toInt := congrArg Int32.toInt (((pI_ne (a := 71) (b := 47) (c := 71) (k := 2) _ _ (Or.inr (by decide)))).trans ((fu17 71 47 rfl).1))
          have lk66 : (((pI u17 71 2 v54)).1 71 2).toInt = v54.toInt := congrArg Int32.toInt ((pI_self _ _ _ _))
          refine r_callVv C oCl12 rfl miX12_sums mlX12_319 (ct_X12_sums l E ((pI u17 71 2 v54))  (1) (oQ_fr (oFr_oneI (q := 12) (m := 2) rfl (by rfl)) rfl (oQ_fr fu17 rfl hq16)) (by omega) (by omega) (by omega)) (by decide) rfl rfl rfl (Nat.le_of_ble_eq_true rfl) (oDec_at oX12_fact 40 rfl) (fun u67 pu67 fu67 => ?_)
          try dsimp only at pu67
          try simp only [lk55, lk56, lk57, lk58, lk59, lk60, lk61, lk62, lk63, lk64, lk65, lk66] at pu67
          obtain ⟨pu67_0, pu67_1, pu67_2, pu67_3, pu67_4⟩ := pu67
          refine r_ty C (fun hty => ?_)
          have hty_coded : (0 : Int) ≤ ((u67).1 71 45).toInt ∧ ((u67).1 71 45).toInt ≤ 1600 := hty.1 71 45
          have hty_waits : (0 : Int) ≤ ((u67).1 71 47).toInt ∧ ((u67).1 71 47).toInt ≤ 1700 := hty.1 71 47
          have hty_at : (0 : Int) ≤ ((u67).1 71 2).toInt ∧ ((u67).1 71 2).toInt ≤ 1600 := hty.1 71 2
          clear hty
          refine r_aload_n C (j := 0) (oDec_at oX12_fact 41 rfl) rfl rfl ?_
          refine r_iload_n C (j := 1) (oDec_at oX12_fact 42 rfl) rfl rfl ?_
          refine r_bipush C (oDec_at oX12_fact 43 rfl) (v := k60) (by rw [qk60]; rfl) ?_
          refine r_icmp_ne C 89 (oDec_at oX12_fact 44 rfl) (by decide) (fun cd69 => ?_) (fun cd69 => ?_)
          · skip
            refine r_iload_n C (j := 1) (oDec_at oX12_fact 47 rfl) rfl rfl ?_
            refine r_bipush C (oDec_at oX12_fact 48 rfl) (v := k62) (by rw [qk62]; rfl) ?_
            refine r_icmp_ne C 100 (oDec_at oX12_fact 49 rfl) (by decide) (fun cd70 => ?_) (fun cd70 => ?_)
            · omega
            · skip
              refine r_bipush C (oDec_at oX12_fact 50 rfl) (v := k12) (by rw [qk12]; rfl) ?_
              refine r_goto C (tgt := 102) (oDec_at oX12_fact 51 rfl) (by decide) ?_
              refine r_callVv C oCl12 rfl miX12_lay mlX12_280 (ct_X12_lay l E (u67) k12 (by omega)) (by decide) rfl rfl rfl (Nat.le_of_ble_eq_true rfl) (oDec_at oX12_fact 53 rfl) (fun u71 pu71 fu71 => ?_)
              try dsimp only at pu71
              obtain ⟨pu71_0, pu71_1⟩ := pu71
              have hq73 : oQ 9999 1 (u71) := oQ_jn (x := 1) pu67_0 pu71_0 (by omega) (by omega) (by omega)
              have lk74 : ((u71).1 71 48).toInt = (u67.1 71 48).toInt := congrArg Int32.toInt ((fu71 71 48 rfl).1)
              have lk75 : ((u71).1 71 2).toInt = (u67.1 71 2).toInt := congrArg Int32.toInt ((fu71 71 2 rfl).1)
              have lk76 : ((u71).1 71 47).toInt = (u67.1 71 47).toInt := congrArg Int32.toInt ((fu71 71 47 rfl).1)
              have lk77 : ((u71).1 71 5).toInt = (u67.1 71 5).toInt := congrArg Int32.toInt ((fu71 71 5 rfl).1)
              have lk78 : ((u71).1 71 2).toInt = (u67.1 71 2).toInt := congrArg Int32.toInt ((fu71 71 2 rfl).1)
              have lk79 : ((u71).1 71 47).toInt = (u67.1 71 47).toInt := congrArg Int32.toInt ((fu71 71 47 rfl).1)
              have lk80 : ((u71).1 71 2).toInt = (u67.1 71 2).toInt := congrArg Int32.toInt ((fu71 71 2 rfl).1)
              exact r_vret C (oDec_at oX12_fact 54 rfl) ⟨rfl, ⟨hq73, by omega, by omega, by omega, by omega⟩⟩
          · omega
        · skip
          refine r_iload_n C (j := 1) (oDec_at oX12_fact 24 rfl) rfl rfl ?_
          refine r_bipush C (oDec_at oX12_fact 25 rfl) (v := k61) (by rw [qk61]; rfl) ?_
          refine r_icmp_eq C 63 (oDec_at oX12_fact 26 rfl) (by decide) (fun cd81 => ?_) (fun cd81 => ?_)
          · skip
            replace pu17_1 := pu17_1.resolve_left (by omega)
            refine r_aload_n C (j := 0) (oDec_at oX12_fact 33 rfl) rfl rfl ?_
            refine r_dup C (oDec_at oX12_fact 34 rfl) rfl ?_
            refine r_geti (k := 2) (lo := 0) (hi := 1600) C v19 oCl12 rfl (by decide) flX12_179 rfl rfl (ev19) rfl rfl (oDec_at oX12_fact 35 rfl) (fun b82 b82h => ?_)
            refine r_iconst C (oDec_at oX12_fact 36 rfl) (v := k1) (by rw [qk1]; rfl) ?_
            obtain ⟨v83, ev83⟩ : ∃ z : Int32, z = v19 + k1 := ⟨_, rfl⟩
            have hv83 : v83.toInt = v19.toInt + k1.toInt := n_add ev83 (by omega) (by omega)
            refine r_iadd C v83 (oDec_at oX12_fact 37 rfl) ev83 ?_
            refine r_puti (k := 2) (lo := 0) (hi := 1600) C oCl12 rfl (by decide) flX12_179 rfl rfl rfl rfl rfl rfl rfl rfl ⟨by omega, by omega⟩ (oDec_at oX12_fact 38 rfl) ?_
            refine r_pc C 73 rfl ?_
            refine r_aload_n C (j := 0) (oDec_at oX12_fact 39 rfl) rfl rfl ?_
            have lk84 : (((pI u17 71 2 v83)).1 71 5).toInt = v14.toInt := congrArg Int32.toInt (((pI_ne (a := 71) (b := 5) (c := 71) (k := 2) _ _ (Or.inr (by decide)))).trans (((fu17 71 5 rfl).1).trans (ev14)))
            have lk85 : (((pI u17 71 2 v83)).1 71 48).toInt = (u12.1 71 48).toInt := congrArg Int32.toInt (((pI_ne (a := 71) (b := 48) (c := 71) (k := 2) _ _ (Or.inr (by decide)))).trans ((fu17 71 48 rfl).1))
            have lk86 : (((pI u17 71 2 v83)).1 71 45).toInt = (u12.1 71 45).toInt := congrArg Int32.toInt (((pI_ne (a := 71) (b := 45) (c := 71) (k := 2) _ _ (Or.inr (by decide)))).trans ((fu17 71 45 rfl).1))
            have lk87 : (((pI u17 71 2 v83)).1 71 47).toInt = (u12.1 71 47).toInt := congrArg Int32.toInt (((pI_ne (a := 71) (b := 47) (c := 71) (k := 2) _ _ (Or.inr (by decide)))).trans ((fu17 71 47 rfl).1))
            have lk88 : (((pI u17 71 2 v83)).1 71 2).toInt = v83.toInt := congrArg Int32.toInt ((pI_self _ _ _ _))
            have lk89 : (((pI u17 71 2 v83)).1 71 2).toInt = v83.toInt := congrArg Int32.toInt ((pI_self _ _ _ _))
            have lk90 : (((pI u17 71 2 v83)).1 71 45).toInt = (u12.1 71 45).toInt := congrArg Int32.toInt (((pI_ne (a := 71) (b := 45) (c := 71) (k := 2) _ _ (Or.inr (by decide)))).trans ((fu17 71 45 rfl).1))
            have lk91 : (((pI u17 71 2 v83)).1 71 47).toInt = (u12.1 71 47).toInt := congrArg Int32.toInt (((pI_ne (a := 71) (b := 47) (c := 71) (k := 2) _ _ (Or.inr (by decide)))).trans ((fu17 71 47 rfl).1))
            have lk92 : (((pI u17 71 2 v83)).1 71 2).toInt = v83.toInt := congrArg Int32.toInt ((pI_self _ _ _ _))
            have lk93 : (((pI u17 71 2 v83)).1 71 45).toInt = (u12.1 71 45).toInt := congrArg Int32.toInt (((pI_ne (a := 71) (b := 45) (c := 71) (k := 2) _ _ (Or.inr (by decide)))).trans ((fu17 71 45 rfl).1))
            have lk94 : (((pI u17 71 2 v83)).1 71 47).toInt = (u12.1 71 47).toInt := congrArg Int32.toInt (((pI_ne (a := 71) (b := 47) (c := 71) (k := 2) _ _ (Or.inr (by decide)))).trans ((fu17 71 47 rfl).1))
            have lk95 : (((pI u17 71 2 v83)).1 71 2).toInt = v83.toInt := congrArg Int32.toInt ((pI_self _ _ _ _))
            refine r_callVv C oCl12 rfl miX12_sums mlX12_319 (ct_X12_sums l E ((pI u17 71 2 v83))  (1) (oQ_fr (oFr_oneI (q := 12) (m := 2) rfl (by rfl)) rfl (oQ_fr fu17 rfl hq16)) (by omega) (by omega) (by omega)) (by decide) rfl rfl rfl (Nat.le_of_ble_eq_true rfl) (oDec_at oX12_fact 40 rfl) (fun u96 pu96 fu96 => ?_)
            try dsimp only at pu96
            try simp only [lk84, lk85, lk86, lk87, lk88, lk89, lk90, lk91, lk92, lk93, lk94, lk95] at pu96
            obtain ⟨pu96_0, pu96_1, pu96_2, pu96_3, pu96_4⟩ := pu96
            refine r_ty C (fun hty => ?_)
            have hty_coded : (0 : Int) ≤ ((u96).1 71 45).toInt ∧ ((u96).1 71 45).toInt ≤ 1600 := hty.1 71 45
            have hty_waits : (0 : Int) ≤ ((u96).1 71 47).toInt ∧ ((u96).1 71 47).toInt ≤ 1700 := hty.1 71 47
            have hty_at : (0 : Int) ≤ ((u96).1 71 2).toInt ∧ ((u96).1 71 2).toInt ≤ 1600 := hty.1 71 2
            clear hty
            refine r_aload_n C (j := 0) (oDec_at oX12_fact 41 rfl) rfl rfl ?_
            refine r_iload_n C (j := 1) (oDec_at oX12_fact 42 rfl) rfl rfl ?_
            refine r_bipush C (oDec_at oX12_fact 43 rfl) (v := k60) (by rw [qk60]; rfl) ?_
            refine r_icmp_ne C 89 (oDec_at oX12_fact 44 rfl) (by decide) (fun cd98 => ?_) (fun cd98 => ?_)
            · skip
              refine r_iload_n C (j := 1) (oDec_at oX12_fact 47 rfl) rfl rfl ?_
              refine r_bipush C (oDec_at oX12_fact 48 rfl) (v := k62) (by rw [qk62]; rfl) ?_
              refine r_icmp_ne C 100 (oDec_at oX12_fact 49 rfl) (by decide) (fun cd99 => ?_) (fun cd99 => ?_)
              · skip
                refine r_bipush C (oDec_at oX12_fact 52 rfl) (v := k13) (by rw [qk13]; rfl) ?_
                refine r_callVv C oCl12 rfl miX12_lay mlX12_280 (ct_X12_lay l E (u96) k13 (by omega)) (by decide) rfl rfl rfl (Nat.le_of_ble_eq_true rfl) (oDec_at oX12_fact 53 rfl) (fun u100 pu100 fu100 => ?_)
                try dsimp only at pu100
                obtain ⟨pu100_0, pu100_1⟩ := pu100
                have hq102 : oQ 9999 1 (u100) := oQ_jn (x := 1) pu96_0 pu100_0 (by omega) (by omega) (by omega)
                have lk103 : ((u100).1 71 48).toInt = (u96.1 71 48).toInt := congrArg Int32.toInt ((fu100 71 48 rfl).1)
                have lk104 : ((u100).1 71 2).toInt = (u96.1 71 2).toInt := congrArg Int32.toInt ((fu100 71 2 rfl).1)
                have lk105 : ((u100).1 71 47).toInt = (u96.1 71 47).toInt := congrArg Int32.toInt ((fu100 71 47 rfl).1)
                have lk106 : ((u100).1 71 5).toInt = (u96.1 71 5).toInt := congrArg Int32.toInt ((fu100 71 5 rfl).1)
                have lk107 : ((u100).1 71 2).toInt = (u96.1 71 2).toInt := congrArg Int32.toInt ((fu100 71 2 rfl).1)
                have lk108 : ((u100).1 71 47).toInt = (u96.1 71 47).toInt := congrArg Int32.toInt ((fu100 71 47 rfl).1)
                have lk109 : ((u100).1 71 2).toInt = (u96.1 71 2).toInt := congrArg Int32.toInt ((fu100 71 2 rfl).1)
                exact r_vret C (oDec_at oX12_fact 54 rfl) ⟨rfl, ⟨hq102, by omega, by omega, by omega, by omega⟩⟩
              · omega
            · omega
          · skip
            refine r_aload_n C (j := 0) (oDec_at oX12_fact 27 rfl) rfl rfl ?_
            refine r_iconst C (oDec_at oX12_fact 28 rfl) (v := k1) (by rw [qk1]; rfl) ?_
            refine r_aload_n C (j := 0) (oDec_at oX12_fact 29 rfl) rfl rfl ?_
            refine r_geti (k := 2) (lo := 0) (hi := 1600) C v19 oCl12 rfl (by decide) flX12_179 rfl rfl (ev19) rfl rfl (oDec_at oX12_fact 30 rfl) (fun b110 b110h => ?_)
            have lk111 : ((u17).1 71 5).toInt = v14.toInt := congrArg Int32.toInt (((fu17 71 5 rfl).1).trans (ev14))
            have lk112 : ((u17).1 71 5).toInt = v14.toInt := congrArg Int32.toInt (((fu17 71 5 rfl).1).trans (ev14))
            refine r_callVv C oCl12 rfl miX12_fail mlX12_203 (ct_X12_fail l E (u17) k1 v19 ) (by decide) rfl rfl rfl (Nat.le_of_ble_eq_true rfl) (oDec_at oX12_fact 31 rfl) (fun u113 pu113 fu113 => ?_)
            try dsimp only at pu113
            try simp only [lk111, lk112] at pu113
            obtain ⟨pu113_0, pu113_1⟩ := pu113
            have lk115 : ((u113).1 71 48).toInt = (u12.1 71 48).toInt := congrArg Int32.toInt (((fu113 71 48 rfl).1).trans ((fu17 71 48 rfl).1))
            have lk116 : ((u113).1 71 2).toInt = v19.toInt := congrArg Int32.toInt (((fu113 71 2 rfl).1).trans (ev19))
            have lk117 : ((u113).1 71 45).toInt = (u12.1 71 45).toInt := congrArg Int32.toInt (((fu113 71 45 rfl).1).trans ((fu17 71 45 rfl).1))
            have lk118 : ((u113).1 71 47).toInt = (u12.1 71 47).toInt := congrArg Int32.toInt (((fu113 71 47 rfl).1).trans ((fu17 71 47 rfl).1))
            have lk119 : ((u113).1 71 2).toInt = v19.toInt := congrArg Int32.toInt (((fu113 71 2 rfl).1).trans (ev19))
            have lk120 : ((u113).1 71 45).toInt = (u12.1 71 45).toInt := congrArg Int32.toInt (((fu113 71 45 rfl).1).trans ((fu17 71 45 rfl).1))
            have lk121 : ((u113).1 71 47).toInt = (u12.1 71 47).toInt := congrArg Int32.toInt (((fu113 71 47 rfl).1).trans ((fu17 71 47 rfl).1))
            have lk122 : ((u113).1 71 2).toInt = v19.toInt := congrArg Int32.toInt (((fu113 71 2 rfl).1).trans (ev19))
            exact r_vret C (oDec_at oX12_fact 32 rfl) ⟨rfl, ⟨(oQ_frb fu113 rfl (by omega) (oQ_fr fu17 rfl hq16)), by omega, by omega, by omega, by omega⟩⟩
    · skip
      have hq123 : oQ 9999 1 (u12) := oQ_bad pu12_0 (by omega)
      have lk124 : ((u12).1 71 5).toInt = v14.toInt := congrArg Int32.toInt (ev14)
      exact r_vret C (oDec_at oX12_fact 14 rfl) ⟨rfl, ⟨hq123, by omega, by omega, by omega, by omega⟩⟩
  · skip
    replace pu1_2 := pu1_2 (by omega)
    refine r_aload_n C (j := 0) (oDec_at oX12_fact 5 rfl) rfl rfl ?_
    refine r_bipush C (oDec_at oX12_fact 6 rfl) (v := k17) (by rw [qk17]; rfl) ?_
    have lk125 : ((u1).1 71 45).toInt = (s.1 71 45).toInt := congrArg Int32.toInt ((fu1 71 45 rfl).1)
    have lk126 : ((u1).1 71 45).toInt = (s.1 71 45).toInt := congrArg Int32.toInt ((fu1 71 45 rfl).1)
    have lk127 : ((u1).1 71 45).toInt = (s.1 71 45).toInt := congrArg Int32.toInt ((fu1 71 45 rfl).1)
    refine r_callVv C oCl12 rfl miX12_lay mlX12_280 (ct_X12_lay l E (u1) k17 (by omega)) (by decide) rfl rfl rfl (Nat.le_of_ble_eq_true rfl) (oDec_at oX12_fact 7 rfl) (fun u128 pu128 fu128 => ?_)
    try dsimp only at pu128
    try simp only [lk126, lk127] at pu128
    obtain ⟨pu128_0, pu128_1⟩ := pu128
    have hq130 : oQ 9999 1 (u128) := oQ_opnd (oQ_fr fu1 rfl hp0) pu128_0 (by omega) (by omega)
    have lk131 : ((u128).1 71 48).toInt = (s.1 71 48).toInt := congrArg Int32.toInt (((fu128 71 48 rfl).1).trans ((fu1 71 48 rfl).1))
    have lk132 : ((u128).1 71 2).toInt = (u1.1 71 2).toInt := congrArg Int32.toInt ((fu128 71 2 rfl).1)
    have lk133 : ((u128).1 71 47).toInt = (s.1 71 47).toInt := congrArg Int32.toInt (((fu128 71 47 rfl).1).trans ((fu1 71 47 rfl).1))
    have lk134 : ((u128).1 71 5).toInt = (s.1 71 5).toInt := congrArg Int32.toInt (((fu128 71 5 rfl).1).trans ((fu1 71 5 rfl).1))
    have lk135 : ((u128).1 71 2).toInt = (u1.1 71 2).toInt := congrArg Int32.toInt ((fu128 71 2 rfl).1)
    have lk136 : ((u128).1 71 47).toInt = (s.1 71 47).toInt := congrArg Int32.toInt (((fu128 71 47 rfl).1).trans ((fu1 71 47 rfl).1))
    have lk137 : ((u128).1 71 2).toInt = (u1.1 71 2).toInt := congrArg Int32.toInt ((fu128 71 2 rfl).1)
    exact r_vret C (oDec_at oX12_fact 8 rfl) ⟨rfl, ⟨hq130, by omega, by omega, by omega, by omega⟩⟩
