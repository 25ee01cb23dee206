set_option maxHeartbeats 4000000 in
set_option maxRecDepth 100000 in
theorem ct9_X12_nextLine (l : Launch) (E : oE) (s : oS) (a1 : Int32) (v : Int) (nn : Int) (st : Nat → Int) (hp0 : 0 ≤ a1.toInt ∧ a1.toInt ≤ 4) (hp1 : oLT s) (hp2 : 1 ≤ (s.1 71 38).toInt → 1 ≤ (s.1 71 42).toInt) (hp3 : oDg s) (hp4 : oVe v s) (hp5 : owRA nn s) (hp6 : owRL nn st s) (hp7 : owDg nn st) (hp8 : 1 ≤ nn ∧ nn ≤ 6) : oMet l 2 yX12_nextLine cX12_nextLine 4 (some .boolean) [(12, 42), (12, 43), (12, 69), (75, 9999), (77, 9999)] E s [.ref (oad E 71), .int a1] (oPi (fun r u => (0 ≤ r.toInt ∧ r.toInt ≤ 1) ∧ (oLT u) ∧ (1 ≤ (u.1 71 38).toInt → 1 ≤ (u.1 71 42).toInt) ∧ ((u.1 71 38).toInt = (s.1 71 38).toInt) ∧ (r.toInt = 1 → (oDg u ∧ oVg v u)) ∧ (owRA nn u) ∧ (r.toInt = 1 → owRz nn a1.toInt st u) ∧ (r.toInt = 0 → owLs nn a1.toInt st))) := by
  refine oMet.of (lv := [(0, .ref (oad E 71)), (1, .int a1)]) (by decide +kernel) (Nat.le_of_ble_eq_true rfl) rfl (fun J C hT => ?_)
  have C : oC l 2 cX12_nextLine RX12 4 (some .boolean) [(12, 42), (12, 43), (12, 69), (75, 9999), (77, 9999)] E s (oPi (fun r u => (0 ≤ r.toInt ∧ r.toInt ≤ 1) ∧ (oLT u) ∧ (1 ≤ (u.1 71 38).toInt → 1 ≤ (u.1 71 42).toInt) ∧ ((u.1 71 38).toInt = (s.1 71 38).toInt) ∧ (r.toInt = 1 → (oDg u ∧ oVg v u)) ∧ (owRA nn u) ∧ (r.toInt = 1 → owRz nn a1.toInt st u) ∧ (r.toInt = 0 → owLs nn a1.toInt st))) J := C
  obtain ⟨k0, qk0⟩ : ∃ z : Int32, z = 0 := ⟨_, rfl⟩
  have ek0 : k0.toInt = 0 := by rw [qk0]; rfl
  obtain ⟨k1, qk1⟩ : ∃ z : Int32, z = 1 := ⟨_, rfl⟩
  have ek1 : k1.toInt = 1 := by rw [qk1]; rfl
  have rg1 := n_rng a1
  have htn : (0 : Int) ≤ (s.1 71 38).toInt ∧ (s.1 71 38).toInt ≤ 24 := hT.1 71 38
  have hta : (0 : Int) ≤ (s.1 71 77).toInt ∧ (s.1 71 77).toInt ≤ 24 := hT.1 71 77
  have hrt9 := (hp6).2.2.2
  have hnt0 := (hp5).1
  have key : ∀ n : Nat, (∀ (t : oS) (x2 : Int32), (oLT t) → (1 ≤ (t.1 71 38).toInt → 1 ≤ (t.1 71 42).toInt) → ((t.1 71 38).toInt = (s.1 71 38).toInt) → (-1 ≤ x2.toInt ∧ x2.toInt < (s.1 71 38).toInt) → (oNj s x2 t) → (owRA nn t) → (∀ j : Nat, x2.toInt < (j : Int) → (j : Int) < nn → a1.toInt < owBp st j) → x2.toInt + 100 ≤ (n : Int) → J t 7 [(0, .ref (oad E 71)), (1, .int a1), (2, .int x2)] []) ∧ (∀ (t : oS) (x3 : Int32), (oLT t) → (1 ≤ (t.1 71 38).toInt → 1 ≤ (t.1 71 42).toInt) → ((t.1 71 38).toInt = (s.1 71 38).toInt) → (1 ≤ x3.toInt ∧ x3.toInt ≤ (s.1 71 38).toInt) → (oNm s x3 t) → (owRA nn t) → (owRG nn a1.toInt st x3.toInt t) → 30 - x3.toInt ≤ (n : Int) → J t 81 [(0, .ref (oad E 71)), (3, .int x3)] []) := by
    intro n
    induction n using Nat.strongRecOn with
    | _ n ih =>
      refine ⟨?_, ?_⟩
      · intro t x2  iv0 iv1 iv2 iv3 iv4 iv5 iv6 hmu
        have rx2 := n_rng x2
        have hn29 := n_nat x2
        have hdx9 := (hp7).1 x2.toNatClampNeg
        have hdy9 := (hp7).1 (x2.toNatClampNeg - 1)
        refine r_iload_n C (j := 2) (oDec_at oX12_nextLine 5 rfl) rfl rfl ?_
        refine r_if_lt C 71 (oDec_at oX12_nextLine 6 rfl) (by decide) (fun cd1 => ?_) (fun cd1 => ?_)
        · skip
          refine r_iload_n C (j := 2) (oDec_at oX12_nextLine 45 rfl) rfl rfl ?_
          refine r_if_ge C 77 (oDec_at oX12_nextLine 46 rfl) (by decide) (fun cd2 => ?_) (fun cd2 => ?_)
          · skip
            refine r_iload_n C (j := 2) (oDec_at oX12_nextLine 49 rfl) rfl rfl ?_
            refine r_iconst C (oDec_at oX12_nextLine 50 rfl) (v := k1) (by rw [qk1]; rfl) ?_
            obtain ⟨v3, ev3⟩ : ∃ z : Int32, z = x2 + k1 := ⟨_, rfl⟩
            have hv3 : v3.toInt = x2.toInt + k1.toInt := n_add ev3 (by omega) (by omega)
            refine r_iadd C v3 (oDec_at oX12_nextLine 51 rfl) ev3 ?_
            refine r_istore_n C (lv' := [(0, .ref (oad E 71)), (1, .int a1), (2, .int x2), (3, .int v3)]) [1, 2, 3, 0] (oDec_at oX12_nextLine 52 rfl) rfl (by decide) rfl ?_
            refine r_pick C [0, 3] rfl ?_
            exact (ih (n - 1) (by omega)).2 (t) v3  iv0 (by omega) (by omega) (by omega) (by first | (exfalso; omega) | exact oNm_of1 (x := x2) (y := v3) iv4 hp3 (by omega) (by omega) (by omega) (by omega) (by omega) | exact oNm_of2 (x := x2) (y := v3) iv4 hp3 (by omega) (by omega) (by omega) (by omega) (by omega)) iv5 (by first | exact owRG_nx iv6 rfl (by omega) hpv9 (by first | (rw [if_pos (by omega)] <;> omega) | (rw [if_neg (by omega)] <;> omega)) | exact owRG_0 (k := x2.toNatClampNeg) (by omega) (by omega) hbp9 (by omega) iv6 (by omega) (fun j hj => owRow9 iv4 hrt9 hj (by omega) (by omega) (by first | exact pI_ne _ _ (Or.inr (by omega)) | exact (pI_ne _ _ (Or.inr (by omega))).trans (pI_ne _ _ (Or.inr (by omega))))) (congrArg Int32.toInt (pI_self _ _ _ _)) | (exfalso; omega)) (by omega)
          · skip
            refine r_iconst C (oDec_at oX12_nextLine 47 rfl) (v := k0) (by rw [qk0]; rfl) ?_
            exact r_zret C (n_bool (by omega)) (oDec_at oX12_nextLine 48 rfl) ⟨_, rfl, ⟨by omega, iv0, by omega, by omega, by intro h; omega, iv5, by intro h; exfalso; omega, fun _ k hk => iv6 k (by omega) hk⟩⟩
        · skip
          refine r_aload_n C (j := 0) (oDec_at oX12_nextLine 7 rfl) rfl rfl ?_
          refine r_getF (k := 39) (b := 99) C oCl12 rfl (by decide) flX12_96 rfl rfl rfl (oDec_at oX12_nextLine 8 rfl) ?_
          refine r_iload_n C (j := 2) (oDec_at oX12_nextLine 9 rfl) rfl rfl ?_
          refine r_dup2 C (oDec_at oX12_nextLine 10 rfl) rfl rfl ?_
          obtain ⟨v5, ev5⟩ : ∃ z : Int32, (t).1 99 x2.toNatClampNeg = z := ⟨_, rfl⟩
          have gv5 : (t.1 99 x2.toNatClampNeg).toInt = v5.toInt := congrArg Int32.toInt (ev5)
          have rv5 := n_rng v5
          refine r_iald (n := 48) (lo := (-2147483648)) (hi := 2147483647) C v5 rfl (by decide) rfl rfl ⟨by omega, by omega⟩ (by decide) ev5 rfl rfl (oDec_at oX12_nextLine 11 rfl) (fun _ _ => ?_)
          have hd := oNj_at iv4 hp3 (x := x2) (by omega) (by omega)
          have hs9 : v5.toInt = st x2.toNatClampNeg := by rw [← ev5, iv4 _ (by omega)]; exact hrt9.1 _ (by omega)
          refine r_iconst C (oDec_at oX12_nextLine 12 rfl) (v := k1) (by rw [qk1]; rfl) ?_
          refine r_pc C 19 rfl ?_
          obtain ⟨v6, ev6⟩ : ∃ z : Int32, z = v5 + k1 := ⟨_, rfl⟩
          have hv6 : v6.toInt = v5.toInt + k1.toInt := n_add ev6 (by omega) (by omega)
          refine r_iadd C v6 (oDec_at oX12_nextLine 13 rfl) ev6 ?_
          refine r_iast (n := 48) (lo := (-2147483648)) (hi := 2147483647) C rfl (by decide) rfl rfl ⟨by omega, by omega⟩ (by decide) rfl rfl rfl rfl (n_rng _) (oDec_at oX12_nextLine 14 rfl) ?_
          refine r_iload_n C (j := 2) (oDec_at oX12_nextLine 15 rfl) rfl rfl ?_
          refine r_if_le C 52 (oDec_at oX12_nextLine 16 rfl) (by decide) (fun cd7 => ?_) (fun cd7 => ?_)
          · skip
            refine r_aload_n C (j := 0) (oDec_at oX12_nextLine 36 rfl) rfl rfl ?_
            refine r_getF (k := 39) (b := 99) C oCl12 rfl (by decide) flX12_96 rfl rfl rfl (oDec_at oX12_nextLine 37 rfl) ?_
            refine r_iload_n C (j := 2) (oDec_at oX12_nextLine 38 rfl) rfl rfl ?_
            refine r_iald (n := 48) (lo := (-2147483648)) (hi := 2147483647) C v6 rfl (by decide) rfl rfl ⟨by omega, by omega⟩ (by decide) ((pI_self _ _ _ _)) rfl rfl (oDec_at oX12_nextLine 39 rfl) (fun _ _ => ?_)
            have hbp9 : v6.toInt = owBp st x2.toNatClampNeg := by unfold owBp; first | (rw [if_pos (by omega)] <;> omega) | (rw [if_neg (by omega)] <;> omega)
            have hbq9 := ev6
            refine r_iload_n C (j := 1) (oDec_at oX12_nextLine 40 rfl) rfl rfl ?_
            refine r_icmp_gt C 65 (oDec_at oX12_nextLine 41 rfl) (by decide) (fun cd9 => ?_) (fun cd9 => ?_)
            · skip
              obtain ⟨v10, ev10⟩ : ∃ z : Int32, x2 + Int32.ofInt (-1) = z := ⟨_, rfl⟩
              have hv10 : v10.toInt = x2.toInt + (-1) := n_inc ev10 (by decide) (by omega) (by omega)
              refine r_iinc C (j := 2) (lv' := [(0, .ref (oad E 71)), (1, .int a1), (2, .int v10)]) v10 [1, 2, 0] (oDec_at oX12_nextLine 43 rfl) rfl ev10 (by decide) rfl ?_
              refine r_goto C (tgt := 7) (oDec_at oX12_nextLine 44 rfl) (by decide) ?_
              have lk11 : (((pI t 99 x2.toNatClampNeg v6)).1 71 38).toInt = (t.1 71 38).toInt := congrArg Int32.toInt ((pI_ne (a := 71) (b := 38) (c := 99) _ _ (Or.inl (by decide))))
              have lk12 : (((pI t 99 x2.toNatClampNeg v6)).1 71 42).toInt = (t.1 71 42).toInt := congrArg Int32.toInt ((pI_ne (a := 71) (b := 42) (c := 99) _ _ (Or.inl (by decide))))
              have lk13 : (((pI t 99 x2.toNatClampNeg v6)).1 71 38).toInt = (t.1 71 38).toInt := congrArg Int32.toInt ((pI_ne (a := 71) (b := 38) (c := 99) _ _ (Or.inl (by decide))))
              exact (ih (n - 1) (by omega)).1 ((pI t 99 x2.toNatClampNeg v6)) v10  (oLT_fr (oFr_oneI (q := 75) (m := 9999) rfl (by rfl)) rfl iv0) (by omega) (by omega) (by omega) (by first | exact oNj_1 (x := x2) (y := v10) iv4 (by omega) (by omega) | exact oNj_2 (x := x2) (y := v10) iv4 (by omega) (by omega) | exact (fun j hj => rfl)) (owRA_fr (oFr_oneI (q := 75) (m := 9999) rfl (by rfl)) rfl iv5) (by first | exact owLs_nx iv6 hbp9 (by omega) (by omega) (by omega) | (intro j h1 h2; exfalso; omega)) (by omega)
            · skip
              refine r_goto C (tgt := 71) (oDec_at oX12_nextLine 42 rfl) (by decide) ?_
              refine r_iload_n C (j := 2) (oDec_at oX12_nextLine 45 rfl) rfl rfl ?_
              refine r_if_ge C 77 (oDec_at oX12_nextLine 46 rfl) (by decide) (fun cd14 => ?_) (fun cd14 => ?_)
              · skip
                refine r_iload_n C (j := 2) (oDec_at oX12_nextLine 49 rfl) rfl rfl ?_
                refine r_iconst C (oDec_at oX12_nextLine 50 rfl) (v := k1) (by rw [qk1]; rfl) ?_
                obtain ⟨v15, ev15⟩ : ∃ z : Int32, z = x2 + k1 := ⟨_, rfl⟩
                have hv15 : v15.toInt = x2.toInt + k1.toInt := n_add ev15 (by omega) (by omega)
                refine r_iadd C v15 (oDec_at oX12_nextLine 51 rfl) ev15 ?_
                refine r_istore_n C (lv' := [(0, .ref (oad E 71)), (1, .int a1), (2, .int x2), (3, .int v15)]) [1, 2, 3, 0] (oDec_at oX12_nextLine 52 rfl) rfl (by decide) rfl ?_
                have lk16 : (((pI t 99 x2.toNatClampNeg v6)).1 71 38).toInt = (t.1 71 38).toInt := congrArg Int32.toInt ((pI_ne (a := 71) (b := 38) (c := 99) _ _ (Or.inl (by decide))))
                have lk17 : (((pI t 99 x2.toNatClampNeg v6)).1 71 42).toInt = (t.1 71 42).toInt := congrArg Int32.toInt ((pI_ne (a := 71) (b := 42) (c := 99) _ _ (Or.inl (by decide))))
                have lk18 : (((pI t 99 x2.toNatClampNeg v6)).1 71 38).toInt = (t.1 71 38).toInt := congrArg Int32.toInt ((pI_ne (a := 71) (b := 38) (c := 99) _ _ (Or.inl (by decide))))
                refine r_pick C [0, 3] rfl ?_
                exact (ih (n - 1) (by omega)).2 ((pI t 99 x2.toNatClampNeg v6)) v15  (oLT_fr (oFr_oneI (q := 75) (m := 9999) rfl (by rfl)) rfl iv0) (by omega) (by omega) (by omega) (by first | (exfalso; omega) | exact oNm_of1 (x := x2) (y := v15) iv4 hp3 (by omega) (by omega) (by omega) (by omega) (by omega) | exact oNm_of2 (x := x2) (y := v15) iv4 hp3 (by omega) (by omega) (by omega) (by omega) (by omega)) (owRA_fr (oFr_oneI (q := 75) (m := 9999) rfl (by rfl)) rfl iv5) (by first | exact owRG_nx iv6 rfl (by omega) hpv9 (by first | (rw [if_pos (by omega)] <;> omega) | (rw [if_neg (by omega)] <;> omega)) | exact owRG_0 (k := x2.toNatClampNeg) (by omega) (by omega) hbp9 (by omega) iv6 (by omega) (fun j hj => owRow9 iv4 hrt9 hj (by omega) (by omega) (by first | exact pI_ne _ _ (Or.inr (by omega)) | exact (pI_ne _ _ (Or.inr (by omega))).trans (pI_ne _ _ (Or.inr (by omega))))) (congrArg Int32.toInt (pI_self _ _ _ _)) | (exfalso; omega)) (by omega)
              · skip
                refine r_iconst C (oDec_at oX12_nextLine 47 rfl) (v := k0) (by rw [qk0]; rfl) ?_
                have lk19 : (((pI t 99 x2.toNatClampNeg v6)).1 71 38).toInt = (t.1 71 38).toInt := congrArg Int32.toInt ((pI_ne (a := 71) (b := 38) (c := 99) _ _ (Or.inl (by decide))))
                have lk20 : (((pI t 99 x2.toNatClampNeg v6)).1 71 42).toInt = (t.1 71 42).toInt := congrArg Int32.toInt ((pI_ne (a := 71) (b := 42) (c := 99) _ _ (Or.inl (by decide))))
                have lk21 : (((pI t 99 x2.toNatClampNeg v6)).1 71 38).toInt = (t.1 71 38).toInt := congrArg Int32.toInt ((pI_ne (a := 71) (b := 38) (c := 99) _ _ (Or.inl (by decide))))
                exact r_zret C (n_bool (by omega)) (oDec_at oX12_nextLine 48 rfl) ⟨_, rfl, ⟨by omega, (oLT_fr (oFr_oneI (q := 75) (m := 9999) rfl (by rfl)) rfl iv0), by omega, by omega, by intro h; omega, (owRA_fr (oFr_oneI (q := 75) (m := 9999) rfl (by rfl)) rfl iv5), by intro h; exfalso; omega, fun _ k hk => iv6 k (by omega) hk⟩⟩
          · skip
            refine r_aload_n C (j := 0) (oDec_at oX12_nextLine 17 rfl) rfl rfl ?_
            refine r_getF (k := 39) (b := 99) C oCl12 rfl (by decide) flX12_96 rfl rfl rfl (oDec_at oX12_nextLine 18 rfl) ?_
            refine r_iload_n C (j := 2) (oDec_at oX12_nextLine 19 rfl) rfl rfl ?_
            refine r_iald (n := 48) (lo := (-2147483648)) (hi := 2147483647) C v6 rfl (by decide) rfl rfl ⟨by omega, by omega⟩ (by decide) ((pI_self _ _ _ _)) rfl rfl (oDec_at oX12_nextLine 20 rfl) (fun _ _ => ?_)
            refine r_aload_n C (j := 0) (oDec_at oX12_nextLine 21 rfl) rfl rfl ?_
            refine r_getF (k := 39) (b := 99) C oCl12 rfl (by decide) flX12_96 rfl rfl rfl (oDec_at oX12_nextLine 22 rfl) ?_
            refine r_pc C 35 rfl ?_
            refine r_iload_n C (j := 2) (oDec_at oX12_nextLine 23 rfl) rfl rfl ?_
            refine r_iconst C (oDec_at oX12_nextLine 24 rfl) (v := k1) (by rw [qk1]; rfl) ?_
            obtain ⟨v23, ev23⟩ : ∃ z : Int32, z = x2 - k1 := ⟨_, rfl⟩
            have hv23 : v23.toInt = x2.toInt - k1.toInt := n_sub ev23 (by omega) (by omega)
            refine r_isub C v23 (oDec_at oX12_nextLine 25 rfl) ev23 ?_
            obtain ⟨v25, ev25⟩ : ∃ z : Int32, ((pI t 99 x2.toNatClampNeg v6)).1 99 v23.toNatClampNeg = z := ⟨_, rfl⟩
            have gv25 : (((pI t 99 x2.toNatClampNeg v6)).1 99 v23.toNatClampNeg).toInt = v25.toInt := congrArg Int32.toInt (ev25)
            have rv25 := n_rng v25
            refine r_iald (n := 48) (lo := (-2147483648)) (hi := 2147483647) C v25 rfl (by decide) rfl rfl ⟨by omega, by omega⟩ (by decide) ev25 rfl rfl (oDec_at oX12_nextLine 26 rfl) (fun _ _ => ?_)
            have hz9 : v25.toInt = st (x2.toNatClampNeg - 1) := by rw [← ev25, pI_ne _ _ (Or.inr (by have h8 := n_nat v23; omega)), show v23.toNatClampNeg = x2.toNatClampNeg - 1 by (have h8 := n_nat v23; omega), iv4 _ (by omega)]; exact hrt9.1 _ (by omega)
            refine r_icmp_ne C 52 (oDec_at oX12_nextLine 27 rfl) (by decide) (fun cd26 => ?_) (fun cd26 => ?_)
            · skip
              refine r_aload_n C (j := 0) (oDec_at oX12_nextLine 36 rfl) rfl rfl ?_
              refine r_getF (k := 39) (b := 99) C oCl12 rfl (by decide) flX12_96 rfl rfl rfl (oDec_at oX12_nextLine 37 rfl) ?_
              refine r_iload_n C (j := 2) (oDec_at oX12_nextLine 38 rfl) rfl rfl ?_
              refine r_iald (n := 48) (lo := (-2147483648)) (hi := 2147483647) C v6 rfl (by decide) rfl rfl ⟨by omega, by omega⟩ (by decide) ((pI_self _ _ _ _)) rfl rfl (oDec_at oX12_nextLine 39 rfl) (fun _ _ => ?_)
              have hbp9 : v6.toInt = owBp st x2.toNatClampNeg := by unfold owBp; first | (rw [if_pos (by omega)] <;> omega) | (rw [if_neg (by omega)] <;> omega)
              have hbq9 := ev6
              refine r_iload_n C (j := 1) (oDec_at oX12_nextLine 40 rfl) rfl rfl ?_
              refine r_icmp_gt C 65 (oDec_at oX12_nextLine 41 rfl) (by decide) (fun cd28 => ?_) (fun cd28 => ?_)
              · skip
                obtain ⟨v29, ev29⟩ : ∃ z : Int32, x2 + Int32.ofInt (-1) = z := ⟨_, rfl⟩
                have hv29 : v29.toInt = x2.toInt + (-1) := n_inc ev29 (by decide) (by omega) (by omega)
                refine r_iinc C (j := 2) (lv' := [(0, .ref (oad E 71)), (1, .int a1), (2, .int v29)]) v29 [1, 2, 0] (oDec_at oX12_nextLine 43 rfl) rfl ev29 (by decide) rfl ?_
                refine r_goto C (tgt := 7) (oDec_at oX12_nextLine 44 rfl) (by decide) ?_
                have lk30 : (((pI t 99 x2.toNatClampNeg v6)).1 71 38).toInt = (t.1 71 38).toInt := congrArg Int32.toInt ((pI_ne (a := 71) (b := 38) (c := 99) _ _ (Or.inl (by decide))))
                have lk31 : (((pI t 99 x2.toNatClampNeg v6)).1 71 42).toInt = (t.1 71 42).toInt := congrArg Int32.toInt ((pI_ne (a := 71) (b := 42) (c := 99) _ _ (Or.inl (by decide))))
                have lk32 : (((pI t 99 x2.toNatClampNeg v6)).1 71 38).toInt = (t.1 71 38).toInt := congrArg Int32.toInt ((pI_ne (a := 71) (b := 38) (c := 99) _ _ (Or.inl (by decide))))
                exact (ih (n - 1) (by omega)).1 ((pI t 99 x2.toNatClampNeg v6)) v29  (oLT_fr (oFr_oneI (q := 75) (m := 9999) rfl (by rfl)) rfl iv0) (by omega) (by omega) (by omega) (by first | exact oNj_1 (x := x2) (y := v29) iv4 (by omega) (by omega) | exact oNj_2 (x := x2) (y := v29) iv4 (by omega) (by omega) | exact (fun j hj => rfl)) (owRA_fr (oFr_oneI (q := 75) (m := 9999) rfl (by rfl)) rfl iv5) (by first | exact owLs_nx iv6 hbp9 (by omega) (by omega) (by omega) | (intro j h1 h2; exfalso; omega)) (by omega)
              · skip
                refine r_goto C (tgt := 71) (oDec_at oX12_nextLine 42 rfl) (by decide) ?_
                refine r_iload_n C (j := 2) (oDec_at oX12_nextLine 45 rfl) rfl rfl ?_
                refine r_if_ge C 77 (oDec_at oX12_nextLine 46 rfl) (by decide) (fun cd33 => ?_) (fun cd33 => ?_)
                · skip
                  refine r_iload_n C (j := 2) (oDec_at oX12_nextLine 49 rfl) rfl rfl ?_
                  refine r_iconst C (oDec_at oX12_nextLine 50 rfl) (v := k1) (by rw [qk1]; rfl) ?_
                  obtain ⟨v34, ev34⟩ : ∃ z : Int32, z = x2 + k1 := ⟨_, rfl⟩
                  have hv34 : v34.toInt = x2.toInt + k1.toInt := n_add ev34 (by omega) (by omega)
                  refine r_iadd C v34 (oDec_at oX12_nextLine 51 rfl) ev34 ?_
                  refine r_istore_n C (lv' := [(0, .ref (oad E 71)), (1, .int a1), (2, .int x2), (3, .int v34)]) [1, 2, 3, 0] (oDec_at oX12_nextLine 52 rfl) rfl (by decide) rfl ?_
                  have lk35 : (((pI t 99 x2.toNatClampNeg v6)).1 71 38).toInt = (t.1 71 38).toInt := congrArg Int32.toInt ((pI_ne (a := 71) (b := 38) (c := 99) _ _ (Or.inl (by decide))))
                  have lk36 : (((pI t 99 x2.toNatClampNeg v6)).1 71 42).toInt = (t.1 71 42).toInt := congrArg Int32.toInt ((pI_ne (a := 71) (b := 42) (c := 99) _ _ (Or.inl (by decide))))
                  have lk37 : (((pI t 99 x2.toNatClampNeg v6)).1 71 38).toInt = (t.1 71 38).toInt := congrArg Int32.toInt ((pI_ne (a := 71) (b := 38) (c := 99) _ _ (Or.inl (by decide))))
                  refine r_pick C [0, 3] rfl ?_
                  exact (ih (n - 1) (by omega)).2 ((pI t 99 x2.toNatClampNeg v6)) v34  (oLT_fr (oFr_oneI (q := 75) (m := 9999) rfl (by rfl)) rfl iv0) (by omega) (by omega) (by omega) (by first | (exfalso; omega) | exact oNm_of1 (x := x2) (y := v34) iv4 hp3 (by omega) (by omega) (by omega) (by omega) (by omega) | exact oNm_of2 (x := x2) (y := v34) iv4 hp3 (by omega) (by omega) (by omega) (by omega) (by omega)) (owRA_fr (oFr_oneI (q := 75) (m := 9999) rfl (by rfl)) rfl iv5) (by first | exact owRG_nx iv6 rfl (by omega) hpv9 (by first | (rw [if_pos (by omega)] <;> omega) | (rw [if_neg (by omega)] <;> omega)) | exact owRG_0 (k := x2.toNatClampNeg) (by omega) (by omega) hbp9 (by omega) iv6 (by omega) (fun j hj => owRow9 iv4 hrt9 hj (by omega) (by omega) (by first | exact pI_ne _ _ (Or.inr (by omega)) | exact (pI_ne _ _ (Or.inr (by omega))).trans (pI_ne _ _ (Or.inr (by omega))))) (congrArg Int32.toInt (pI_self _ _ _ _)) | (exfalso; omega)) (by omega)
                · skip
                  refine r_iconst C (oDec_at oX12_nextLine 47 rfl) (v := k0) (by rw [qk0]; rfl) ?_
                  have lk38 : (((pI t 99 x2.toNatClampNeg v6)).1 71 38).toInt = (t.1 71 38).toInt := congrArg Int32.toInt ((pI_ne (a := 71) (b := 38) (c := 99) _ _ (Or.inl (by decide))))
                  have lk39 : (((pI t 99 x2.toNatClampNeg v6)).1 71 42).toInt = (t.1 71 42).toInt := congrArg Int32.toInt ((pI_ne (a := 71) (b := 42) (c := 99) _ _ (Or.inl (by decide))))
                  have lk40 : (((pI t 99 x2.toNatClampNeg v6)).1 71 38).toInt = (t.1 71 38).toInt := congrArg Int32.toInt ((pI_ne (a := 71) (b := 38) (c := 99) _ _ (Or.inl (by decide))))
                  exact r_zret C (n_bool (by omega)) (oDec_at oX12_nextLine 48 rfl) ⟨_, rfl, ⟨by omega, (oLT_fr (oFr_oneI (q := 75) (m := 9999) rfl (by rfl)) rfl iv0), by omega, by omega, by intro h; omega, (owRA_fr (oFr_oneI (q := 75) (m := 9999) rfl (by rfl)) rfl iv5), by intro h; exfalso; omega, fun _ k hk => iv6 k (by omega) hk⟩⟩
            · skip
              refine r_aload_n C (j := 0) (oDec_at oX12_nextLine 28 rfl) rfl rfl ?_
              refine r_getF (k := 39) (b := 99) C oCl12 rfl (by decide) flX12_96 rfl rfl rfl (oDec_at oX12_nextLine 29 rfl) ?_
              refine r_iload_n C (j := 2) (oDec_at oX12_nextLine 30 rfl) rfl rfl ?_
              refine r_dup2 C (oDec_at oX12_nextLine 31 rfl) rfl rfl ?_
              refine r_iald (n := 48) (lo := (-2147483648)) (hi := 2147483647) C v6 rfl (by decide) rfl rfl ⟨by omega, by omega⟩ (by decide) ((pI_self _ _ _ _)) rfl rfl (oDec_at oX12_nextLine 32 rfl) (fun _ _ => ?_)
              refine r_iconst C (oDec_at oX12_nextLine 33 rfl) (v := k1) (by rw [qk1]; rfl) ?_
              refine r_pc C 50 rfl ?_
              obtain ⟨v42, ev42⟩ : ∃ z : Int32, z = v6 + k1 := ⟨_, rfl⟩
              have hv42 : v42.toInt = v6.toInt + k1.toInt := n_add ev42 (by omega) (by omega)
              refine r_iadd C v42 (oDec_at oX12_nextLine 34 rfl) ev42 ?_
              refine r_iast (n := 48) (lo := (-2147483648)) (hi := 2147483647) C rfl (by decide) rfl rfl ⟨by omega, by omega⟩ (by decide) rfl rfl rfl rfl (n_rng _) (oDec_at oX12_nextLine 35 rfl) ?_
              refine r_aload_n C (j := 0) (oDec_at oX12_nextLine 36 rfl) rfl rfl ?_
              refine r_getF (k := 39) (b := 99) C oCl12 rfl (by decide) flX12_96 rfl rfl rfl (oDec_at oX12_nextLine 37 rfl) ?_
              refine r_iload_n C (j := 2) (oDec_at oX12_nextLine 38 rfl) rfl rfl ?_
              refine r_iald (n := 48) (lo := (-2147483648)) (hi := 2147483647) C v42 rfl (by decide) rfl rfl ⟨by omega, by omega⟩ (by decide) ((pI_self _ _ _ _)) rfl rfl (oDec_at oX12_nextLine 39 rfl) (fun _ _ => ?_)
              refine r_pc C 58 rfl ?_
              have hbp9 : v42.toInt = owBp st x2.toNatClampNeg := by unfold owBp; first | (rw [if_pos (by omega)] <;> omega) | (rw [if_neg (by omega)] <;> omega)
              have hbq9 := ev42
              refine r_iload_n C (j := 1) (oDec_at oX12_nextLine 40 rfl) rfl rfl ?_
              refine r_icmp_gt C 65 (oDec_at oX12_nextLine 41 rfl) (by decide) (fun cd44 => ?_) (fun cd44 => ?_)
              · skip
                obtain ⟨v45, ev45⟩ : ∃ z : Int32, x2 + Int32.ofInt (-1) = z := ⟨_, rfl⟩
                have hv45 : v45.toInt = x2.toInt + (-1) := n_inc ev45 (by decide) (by omega) (by omega)
                refine r_iinc C (j := 2) (lv' := [(0, .ref (oad E 71)), (1, .int a1), (2, .int v45)]) v45 [1, 2, 0] (oDec_at oX12_nextLine 43 rfl) rfl ev45 (by decide) rfl ?_
                refine r_goto C (tgt := 7) (oDec_at oX12_nextLine 44 rfl) (by decide) ?_
                have lk46 : (((pI (pI t 99 x2.toNatClampNeg v6) 99 x2.toNatClampNeg v42)).1 71 38).toInt = (t.1 71 38).toInt := congrArg Int32.toInt (((pI_ne (a := 71) (b := 38) (c := 99) _ _ (Or.inl (by decide)))).trans ((pI_ne (a := 71) (b := 38) (c := 99) _ _ (Or.inl (by decide)))))
                have lk47 : (((pI (pI t 99 x2.toNatClampNeg v6) 99 x2.toNatClampNeg v42)).1 71 42).toInt = (t.1 71 42).toInt := congrArg Int32.toInt (((pI_ne (a := 71) (b := 42) (c := 99) _ _ (Or.inl (by decide)))).trans ((pI_ne (a := 71) (b := 42) (c := 99) _ _ (Or.inl (by decide)))))
                have lk48 : (((pI (pI t 99 x2.toNatClampNeg v6) 99 x2.toNatClampNeg v42)).1 71 38).toInt = (t.1 71 38).toInt := congrArg Int32.toInt (((pI_ne (a := 71) (b := 38) (c := 99) _ _ (Or.inl (by decide)))).trans ((pI_ne (a := 71) (b := 38) (c := 99) _ _ (Or.inl (by decide)))))
                exact (ih (n - 1) (by omega)).1 ((pI (pI t 99 x2.toNatClampNeg v6) 99 x2.toNatClampNeg v42)) v45  (oLT_fr (oFr_oneI (q := 75) (m := 9999) rfl (by rfl)) rfl (oLT_fr (oFr_oneI (q := 75) (m := 9999) rfl (by rfl)) rfl iv0)) (by omega) (by omega) (by omega) (by first | exact oNj_1 (x := x2) (y := v45) iv4 (by omega) (by omega) | exact oNj_2 (x := x2) (y := v45) iv4 (by omega) (by omega) | exact (fun j hj => rfl)) (owRA_fr (oFr_oneI (q := 75) (m := 9999) rfl (by rfl)) rfl (owRA_fr (oFr_oneI (q := 75) (m := 9999) rfl (by rfl)) rfl iv5)) (by first | exact owLs_nx iv6 hbp9 (by omega) (by omega) (by omega) | (intro j h1 h2; exfalso; omega)) (by omega)
              · skip
                refine r_goto C (tgt := 71) (oDec_at oX12_nextLine 42 rfl) (by decide) ?_
                refine r_iload_n C (j := 2) (oDec_at oX12_nextLine 45 rfl) rfl rfl ?_
                refine r_if_ge C 77 (oDec_at oX12_nextLine 46 rfl) (by decide) (fun cd49 => ?_) (fun cd49 => ?_)
                · skip
                  refine r_iload_n C (j := 2) (oDec_at oX12_nextLine 49 rfl) rfl rfl ?_
                  refine r_iconst C (oDec_at oX12_nextLine 50 rfl) (v := k1) (by rw [qk1]; rfl) ?_
                  obtain ⟨v50, ev50⟩ : ∃ z : Int32, z = x2 + k1 := ⟨_, rfl⟩
                  have hv50 : v50.toInt = x2.toInt + k1.toInt := n_add ev50 (by omega) (by omega)
                  refine r_iadd C v50 (oDec_at oX12_nextLine 51 rfl) ev50 ?_
                  refine r_istore_n C (lv' := [(0, .ref (oad E 71)), (1, .int a1), (2, .int x2), (3, .int v50)]) [1, 2, 3, 0] (oDec_at oX12_nextLine 52 rfl) rfl (by decide) rfl ?_
                  have lk51 : (((pI (pI t 99 x2.toNatClampNeg v6) 99 x2.toNatClampNeg v42)).1 71 38).toInt = (t.1 71 38).toInt := congrArg Int32.toInt (((pI_ne (a := 71) (b := 38) (c := 99) _ _ (Or.inl (by decide)))).trans ((pI_ne (a := 71) (b := 38) (c := 99) _ _ (Or.inl (by decide)))))
                  have lk52 : (((pI (pI t 99 x2.toNatClampNeg v6) 99 x2.toNatClampNeg v42)).1 71 42).toInt = (t.1 71 42).toInt := congrArg Int32.toInt (((pI_ne (a := 71) (b := 42) (c := 99) _ _ (Or.inl (by decide)))).trans ((pI_ne (a := 71) (b := 42) (c := 99) _ _ (Or.inl (by decide)))))
                  have lk53 : (((pI (pI t 99 x2.toNatClampNeg v6) 99 x2.toNatClampNeg v42)).1 71 38).toInt = (t.1 71 38).toInt := congrArg Int32.toInt (((pI_ne (a := 71) (b := 38) (c := 99) _ _ (Or.inl (by decide)))).trans ((pI_ne (a := 71) (b := 38) (c := 99) _ _ (Or.inl (by decide)))))
                  refine r_pick C [0, 3] rfl ?_
                  exact (ih (n - 1) (by omega)).2 ((pI (pI t 99 x2.toNatClampNeg v6) 99 x2.toNatClampNeg v42)) v50  (oLT_fr (oFr_oneI (q := 75) (m := 9999) rfl (by rfl)) rfl (oLT_fr (oFr_oneI (q := 75) (m := 9999) rfl (by rfl)) rfl iv0)) (by omega) (by omega) (by omega) (by first | (exfalso; omega) | exact oNm_of1 (x := x2) (y := v50) iv4 hp3 (by omega) (by omega) (by omega) (by omega) (by omega) | exact oNm_of2 (x := x2) (y := v50) iv4 hp3 (by omega) (by omega) (by omega) (by omega) (by omega)) (owRA_fr (oFr_oneI (q := 75) (m := 9999) rfl (by rfl)) rfl (owRA_fr (oFr_oneI (q := 75) (m := 9999) rfl (by rfl)) rfl iv5)) (by first | exact owRG_nx iv6 rfl (by omega) hpv9 (by first | (rw [if_pos (by omega)] <;> omega) | (rw [if_neg (by omega)] <;> omega)) | exact owRG_0 (k := x2.toNatClampNeg) (by omega) (by omega) hbp9 (by omega) iv6 (by omega) (fun j hj => owRow9 iv4 hrt9 hj (by omega) (by omega) (by first | exact pI_ne _ _ (Or.inr (by omega)) | exact (pI_ne _ _ (Or.inr (by omega))).trans (pI_ne _ _ (Or.inr (by omega))))) (congrArg Int32.toInt (pI_self _ _ _ _)) | (exfalso; omega)) (by omega)
                · skip
                  refine r_iconst C (oDec_at oX12_nextLine 47 rfl) (v := k0) (by rw [qk0]; rfl) ?_
                  have lk54 : (((pI (pI t 99 x2.toNatClampNeg v6) 99 x2.toNatClampNeg v42)).1 71 38).toInt = (t.1 71 38).toInt := congrArg Int32.toInt (((pI_ne (a := 71) (b := 38) (c := 99) _ _ (Or.inl (by decide)))).trans ((pI_ne (a := 71) (b := 38) (c := 99) _ _ (Or.inl (by decide)))))
                  have lk55 : (((pI (pI t 99 x2.toNatClampNeg v6) 99 x2.toNatClampNeg v42)).1 71 42).toInt = (t.1 71 42).toInt := congrArg Int32.toInt (((pI_ne (a := 71) (b := 42) (c := 99) _ _ (Or.inl (by decide)))).trans ((pI_ne (a := 71) (b := 42) (c := 99) _ _ (Or.inl (by decide)))))
                  have lk56 : (((pI (pI t 99 x2.toNatClampNeg v6) 99 x2.toNatClampNeg v42)).1 71 38).toInt = (t.1 71 38).toInt := congrArg Int32.toInt (((pI_ne (a := 71) (b := 38) (c := 99) _ _ (Or.inl (by decide)))).trans ((pI_ne (a := 71) (b := 38) (c := 99) _ _ (Or.inl (by decide)))))
                  exact r_zret C (n_bool (by omega)) (oDec_at oX12_nextLine 48 rfl) ⟨_, rfl, ⟨by omega, (oLT_fr (oFr_oneI (q := 75) (m := 9999) rfl (by rfl)) rfl (oLT_fr (oFr_oneI (q := 75) (m := 9999) rfl (by rfl)) rfl iv0)), by omega, by omega, by intro h; omega, (owRA_fr (oFr_oneI (q := 75) (m := 9999) rfl (by rfl)) rfl (owRA_fr (oFr_oneI (q := 75) (m := 9999) rfl (by rfl)) rfl iv5)), by intro h; exfalso; omega, fun _ k hk => iv6 k (by omega) hk⟩⟩
      · intro t x3  iv0 iv1 iv2 iv3 iv4 iv5 iv6 hmu
        have rx3 := n_rng x3
        have hnt9 := (show owRA nn (t) from iv5).1
        have hn39 := n_nat x3
        refine r_iload_n C (j := 1) (oDec_at oX12_nextLine 53 rfl) rfl rfl ?_
        refine r_aload_n C (j := 0) (oDec_at oX12_nextLine 54 rfl) rfl rfl ?_
        obtain ⟨v57, ev57⟩ : ∃ z : Int32, (t).1 71 38 = z := ⟨_, rfl⟩
        have gv57 : (t.1 71 38).toInt = v57.toInt := congrArg Int32.toInt (ev57)
        refine r_geti (k := 38) (lo := 0) (hi := 24) C v57 oCl12 rfl (by decide) flX12_261 rfl rfl (ev57) rfl rfl (oDec_at oX12_nextLine 55 rfl) (fun b58 b58h => ?_)
        refine r_icmp_ge C 117 (oDec_at oX12_nextLine 56 rfl) (by decide) (fun cd59 => ?_) (fun cd59 => ?_)
        · skip
          obtain ⟨st9, hst9, hnx9⟩ := owRG_end iv6 (by omega)
          have hq60 : oDg (t) := oNm_dg iv4 (by omega)
          have hq61 : oVg v (t) := oNm_vg iv4 (by omega) (by omega) hp3 hp4
          have hq62 : owRT nn st9 (t) := hst9
          refine r_aload_n C (j := 0) (oDec_at oX12_nextLine 73 rfl) rfl rfl ?_
          refine r_callVv C oCl12 rfl miX12_lies mlX12_264 (ct9_X12_lies l E (t)  (nn) (st9) iv0 iv5 hq62 (owNx_dg (by omega) (by omega) hp7 hnx9).1 (by omega)) (by decide) rfl rfl rfl (Nat.le_of_ble_eq_true rfl) (oDec_at oX12_nextLine 74 rfl) (fun u63 pu63 fu63 => ?_)
          try dsimp only at pu63
          obtain ⟨pu63_0, pu63_1, pu63_2⟩ := pu63
          have lu65 : ((u63).1 71 38).toInt = v57.toInt := congrArg Int32.toInt (((fu63 71 38 rfl).1).trans (ev57))
          have hrl9 := pu63_2
          refine r_iconst C (oDec_at oX12_nextLine 75 rfl) (v := k1) (by rw [qk1]; rfl) ?_
          have lk66 : ((u63).1 71 38).toInt = v57.toInt := congrArg Int32.toInt (((fu63 71 38 rfl).1).trans (ev57))
          have lk67 : ((u63).1 71 38).toInt = v57.toInt := congrArg Int32.toInt (((fu63 71 38 rfl).1).trans (ev57))
          exact r_zret C (n_bool (by omega)) (oDec_at oX12_nextLine 76 rfl) ⟨_, rfl, ⟨by omega, pu63_0, by omega, by omega, fun _ => ⟨(oDg_fr fu63 rfl hq60), (oVg_fr fu63 rfl hq61)⟩, (owRA_fr fu63 rfl iv5), fun _ => ⟨st9, hrl9, hnx9⟩, by intro h; exfalso; omega⟩⟩
        · skip
          refine r_aload_n C (j := 0) (oDec_at oX12_nextLine 57 rfl) rfl rfl ?_
          refine r_getF (k := 39) (b := 99) C oCl12 rfl (by decide) flX12_96 rfl rfl rfl (oDec_at oX12_nextLine 58 rfl) ?_
          refine r_iload_n C (j := 1) (oDec_at oX12_nextLine 59 rfl) rfl rfl ?_
          refine r_aload_n C (j := 0) (oDec_at oX12_nextLine 60 rfl) rfl rfl ?_
          refine r_getF (k := 39) (b := 99) C oCl12 rfl (by decide) flX12_96 rfl rfl rfl (oDec_at oX12_nextLine 61 rfl) ?_
          refine r_iload_n C (j := 1) (oDec_at oX12_nextLine 62 rfl) rfl rfl ?_
          refine r_pc C 99 rfl ?_
          refine r_iconst C (oDec_at oX12_nextLine 63 rfl) (v := k1) (by rw [qk1]; rfl) ?_
          obtain ⟨v68, ev68⟩ : ∃ z : Int32, z = x3 - k1 := ⟨_, rfl⟩
          have hv68 : v68.toInt = x3.toInt - k1.toInt := n_sub ev68 (by omega) (by omega)
          refine r_isub C v68 (oDec_at oX12_nextLine 64 rfl) ev68 ?_
          obtain ⟨v70, ev70⟩ : ∃ z : Int32, (t).1 99 v68.toNatClampNeg = z := ⟨_, rfl⟩
          have gv70 : (t.1 99 v68.toNatClampNeg).toInt = v70.toInt := congrArg Int32.toInt (ev70)
          have rv70 := n_rng v70
          refine r_iald (n := 48) (lo := (-2147483648)) (hi := 2147483647) C v70 rfl (by decide) rfl rfl ⟨by omega, by omega⟩ (by decide) ev70 rfl rfl (oDec_at oX12_nextLine 65 rfl) (fun _ _ => ?_)
          have hpv9 : ∀ j : Nat, (j : Int) = x3.toInt - 1 → v70.toInt = (t.1 99 j).toInt := fun j hj => by rw [← ev70, show v68.toNatClampNeg = j by (have h8 := n_nat v68; omega)]
          refine r_if_ne C 109 (oDec_at oX12_nextLine 66 rfl) (by decide) (fun cd71 => ?_) (fun cd71 => ?_)
          · skip
            refine r_iconst C (oDec_at oX12_nextLine 69 rfl) (v := k0) (by rw [qk0]; rfl) ?_
            refine r_iast (n := 48) (lo := (-2147483648)) (hi := 2147483647) C rfl (by decide) rfl rfl ⟨by omega, by omega⟩ (by decide) rfl rfl rfl rfl (n_rng _) (oDec_at oX12_nextLine 70 rfl) ?_
            obtain ⟨v72, ev72⟩ : ∃ z : Int32, x3 + Int32.ofInt 1 = z := ⟨_, rfl⟩
            have hv72 : v72.toInt = x3.toInt + 1 := n_inc ev72 (by decide) (by omega) (by omega)
            refine r_iinc C (j := 1) (lv' := [(0, .ref (oad E 71)), (3, .int v72)]) v72 [1, 0] (oDec_at oX12_nextLine 71 rfl) rfl ev72 (by decide) rfl ?_
            refine r_goto C (tgt := 81) (oDec_at oX12_nextLine 72 rfl) (by decide) ?_
            have lk73 : (((pI t 99 x3.toNatClampNeg k0)).1 71 38).toInt = v57.toInt := congrArg Int32.toInt (((pI_ne (a := 71) (b := 38) (c := 99) _ _ (Or.inl (by decide)))).trans (ev57))
            have lk74 : (((pI t 99 x3.toNatClampNeg k0)).1 71 42).toInt = (t.1 71 42).toInt := congrArg Int32.toInt ((pI_ne (a := 71) (b := 42) (c := 99) _ _ (Or.inl (by decide))))
            have lk75 : (((pI t 99 x3.toNatClampNeg k0)).1 71 38).toInt = v57.toInt := congrArg Int32.toInt (((pI_ne (a := 71) (b := 38) (c := 99) _ _ (Or.inl (by decide)))).trans (ev57))
            exact (ih (n - 1) (by omega)).2 ((pI t 99 x3.toNatClampNeg k0)) v72  (oLT_fr (oFr_oneI (q := 75) (m := 9999) rfl (by rfl)) rfl iv0) (by omega) (by omega) (by omega) (by first | (exfalso; omega) | exact oNm_step (x := x3) (y := v72) iv4 (by omega) (by omega) (by omega)) (owRA_fr (oFr_oneI (q := 75) (m := 9999) rfl (by rfl)) rfl iv5) (by first | exact owRG_nx iv6 rfl (by omega) hpv9 (by first | (rw [if_pos (by omega)] <;> omega) | (rw [if_neg (by omega)] <;> omega)) | (exfalso; omega)) (by omega)
          · skip
            refine r_iconst C (oDec_at oX12_nextLine 67 rfl) (v := k1) (by rw [qk1]; rfl) ?_
            refine r_goto C (tgt := 110) (oDec_at oX12_nextLine 68 rfl) (by decide) ?_
            refine r_iast (n := 48) (lo := (-2147483648)) (hi := 2147483647) C rfl (by decide) rfl rfl ⟨by omega, by omega⟩ (by decide) rfl rfl rfl rfl (n_rng _) (oDec_at oX12_nextLine 70 rfl) ?_
            obtain ⟨v76, ev76⟩ : ∃ z : Int32, x3 + Int32.ofInt 1 = z := ⟨_, rfl⟩
            have hv76 : v76.toInt = x3.toInt + 1 := n_inc ev76 (by decide) (by omega) (by omega)
            refine r_iinc C (j := 1) (lv' := [(0, .ref (oad E 71)), (3, .int v76)]) v76 [1, 0] (oDec_at oX12_nextLine 71 rfl) rfl ev76 (by decide) rfl ?_
            refine r_goto C (tgt := 81) (oDec_at oX12_nextLine 72 rfl) (by decide) ?_
            have lk77 : (((pI t 99 x3.toNatClampNeg k1)).1 71 38).toInt = v57.toInt := congrArg Int32.toInt (((pI_ne (a := 71) (b := 38) (c := 99) _ _ (Or.inl (by decide)))).trans (ev57))
            have lk78 : (((pI t 99 x3.toNatClampNeg k1)).1 71 42).toInt = (t.1 71 42).toInt := congrArg Int32.toInt ((pI_ne (a := 71) (b := 42) (c := 99) _ _ (Or.inl (by decide))))
            have lk79 : (((pI t 99 x3.toNatClampNeg k1)).1 71 38).toInt = v57.toInt := congrArg Int32.toInt (((pI_ne (a := 71) (b := 38) (c := 99) _ _ (Or.inl (by decide)))).trans (ev57))
            exact (ih (n - 1) (by omega)).2 ((pI t 99 x3.toNatClampNeg k1)) v76  (oLT_fr (oFr_oneI (q := 75) (m := 9999) rfl (by rfl)) rfl iv0) (by omega) (by omega) (by omega) (by first | (exfalso; omega) | exact oNm_step (x := x3) (y := v76) iv4 (by omega) (by omega) (by omega)) (owRA_fr (oFr_oneI (q := 75) (m := 9999) rfl (by rfl)) rfl iv5) (by first | exact owRG_nx iv6 rfl (by omega) hpv9 (by first | (rw [if_pos (by omega)] <;> omega) | (rw [if_neg (by omega)] <;> omega)) | (exfalso; omega)) (by omega)
  refine r_aload_n C (j := 0) (oDec_at oX12_nextLine 0 rfl) rfl rfl ?_
  obtain ⟨v80, ev80⟩ : ∃ z : Int32, (s).1 71 38 = z := ⟨_, rfl⟩
  have gv80 : (s.1 71 38).toInt = v80.toInt := congrArg Int32.toInt (ev80)
  refine r_geti (k := 38) (lo := 0) (hi := 24) C v80 oCl12 rfl (by decide) flX12_261 rfl rfl (ev80) rfl rfl (oDec_at oX12_nextLine 1 rfl) (fun b81 b81h => ?_)
  refine r_iconst C (oDec_at oX12_nextLine 2 rfl) (v := k1) (by rw [qk1]; rfl) ?_
  obtain ⟨v82, ev82⟩ : ∃ z : Int32, z = v80 - k1 := ⟨_, rfl⟩
  have hv82 : v82.toInt = v80.toInt - k1.toInt := n_sub ev82 (by omega) (by omega)
  refine r_isub C v82 (oDec_at oX12_nextLine 3 rfl) ev82 ?_
  refine r_istore_n C (lv' := [(0, .ref (oad E 71)), (1, .int a1), (2, .int v82)]) [1, 2, 0] (oDec_at oX12_nextLine 4 rfl) rfl (by decide) rfl ?_
  have lk83 : ((s).1 71 38).toInt = v80.toInt := congrArg Int32.toInt (ev80)
  have lk84 : ((s).1 71 38).toInt = v80.toInt := congrArg Int32.toInt (ev80)
  exact (key (v82.toInt + 100).toNat).1 (s) v82  hp1 (by omega) (by omega) (by omega) (by first | exact (fun j hj => rfl)) hp5 (by first | (intro j h1 h2; exfalso; omega)) (by omega)
