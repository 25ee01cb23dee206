set_option maxHeartbeats 4000000 in
set_option maxRecDepth 100000 in
theorem ct7_X12_name (l : Launch) (E : oE) (s : oS)  (g : Int → Int) (a : Int) (hp0 : (s.1 71 2).toInt = a) (hp1 : (s.1 71 4).toInt = a) (hp2 : oqZ g s) (hp3 : (s.1 71 5).toInt = 0) (hp4 : oqWd s) (hp5 : ¬ (97 ≤ g a ∧ g a ≤ 122)) (hp6 : oqBP s) : oMet l 4 yX12_name cX12_name 3 (some .long) [(12, 2), (12, 4), (12, 5), (12, 6), (12, 36)] E s [.ref (oad E 71)] (oPl (fun r u => ((s.1 71 2).toInt ≤ (u.1 71 2).toInt) ∧ ((u.1 71 5).toInt = 0 → (97 ≤ g (oqSk g a) ∧ g (oqSk g a) ≤ 122 ∧ oqWi g a a = -1 ∧ oqWe g (oqSk g a) - oqSk g a ≤ 6 ∧ r.toInt = oqVf (oqN6 g (oqSk g a)) 6 ∧ (u.1 71 2).toInt = oqWe g (oqSk g a) ∧ (u.1 71 4).toInt = oqWe g (oqSk g a) ∧ (u.1 71 36).toInt = oqSk g a)) ∧ ((u.1 71 5).toInt ≠ 0 → ((u.1 71 5).toInt = 1 ∧ ((¬ (97 ≤ g (oqSk g a) ∧ g (oqSk g a) ≤ 122) ∧ (u.1 71 6).toInt = oqSk g a) ∨ (97 ≤ g (oqSk g a) ∧ g (oqSk g a) ≤ 122 ∧ oqWi g a a ≠ -1 ∧ (u.1 71 6).toInt = oqSk g a) ∨ (97 ≤ g (oqSk g a) ∧ g (oqSk g a) ≤ 122 ∧ oqWi g a a = -1 ∧ 6 < oqWe g (oqSk g a) - oqSk g a ∧ (u.1 71 6).toInt = oqSk g a + 6)))) ∧ (oqBP u))) := by
  refine oMet.of (lv := [(0, .ref (oad E 71))]) (by decide +kernel) (Nat.le_of_ble_eq_true rfl) rfl (fun J C hT => ?_)
  have C : oC l 4 cX12_name RX12 3 (some .long) [(12, 2), (12, 4), (12, 5), (12, 6), (12, 36)] E s (oPl (fun r u => ((s.1 71 2).toInt ≤ (u.1 71 2).toInt) ∧ ((u.1 71 5).toInt = 0 → (97 ≤ g (oqSk g a) ∧ g (oqSk g a) ≤ 122 ∧ oqWi g a a = -1 ∧ oqWe g (oqSk g a) - oqSk g a ≤ 6 ∧ r.toInt = oqVf (oqN6 g (oqSk g a)) 6 ∧ (u.1 71 2).toInt = oqWe g (oqSk g a) ∧ (u.1 71 4).toInt = oqWe g (oqSk g a) ∧ (u.1 71 36).toInt = oqSk g a)) ∧ ((u.1 71 5).toInt ≠ 0 → ((u.1 71 5).toInt = 1 ∧ ((¬ (97 ≤ g (oqSk g a) ∧ g (oqSk g a) ≤ 122) ∧ (u.1 71 6).toInt = oqSk g a) ∨ (97 ≤ g (oqSk g a) ∧ g (oqSk g a) ≤ 122 ∧ oqWi g a a ≠ -1 ∧ (u.1 71 6).toInt = oqSk g a) ∨ (97 ≤ g (oqSk g a) ∧ g (oqSk g a) ≤ 122 ∧ oqWi g a a = -1 ∧ 6 < oqWe g (oqSk g a) - oqSk g a ∧ (u.1 71 6).toInt = oqSk g a + 6)))) ∧ (oqBP u))) J := C
  obtain ⟨k1, qk1⟩ : ∃ z : Int32, z = 1 := ⟨_, rfl⟩
  have ek1 : k1.toInt = 1 := by rw [qk1]; rfl
  obtain ⟨k6, qk6⟩ : ∃ z : Int32, z = 6 := ⟨_, rfl⟩
  have ek6 : k6.toInt = 6 := by rw [qk6]; rfl
  obtain ⟨j0, qj0⟩ : ∃ z : Int64, z = 0 := ⟨_, rfl⟩
  have ej0 : j0.toInt = 0 := by rw [qj0]; rfl
  obtain ⟨j1, qj1⟩ : ∃ z : Int64, z = 1 := ⟨_, rfl⟩
  have ej1 : j1.toInt = 1 := by rw [qj1]; rfl
  obtain ⟨j27, qj27⟩ : ∃ z : Int64, z = 27 := ⟨_, rfl⟩
  have ej27 : j27.toInt = 27 := by rw [qj27]; rfl
  obtain ⟨j97, qj97⟩ : ∃ z : Int64, z = 97 := ⟨_, rfl⟩
  have ej97 : j97.toInt = 97 := by rw [qj97]; rfl
  have htE : (0 : Int) ≤ (s.1 71 3).toInt ∧ (s.1 71 3).toInt ≤ 1600 := hT.1 71 3
  have hgE := oqSk_ge g a
  have key : ∀ n : Nat, (∀ (t : oS) (x1 : Int64), (oqZ g t) → ((t.1 71 36).toInt = oqSk g a ∧ oqSk g a ≤ (t.1 71 2).toInt ∧ 0 ≤ oqSk g a ∧ a ≤ oqSk g a) → ((t.1 71 5).toInt = 0) → (oqBP t) → (97 ≤ g (oqSk g a) ∧ g (oqSk g a) ≤ 122 ∧ oqWi g a a = -1) → (oqRun g (oqSk g a) (t.1 71 2).toInt) → (x1.toInt = oqVa6 g (oqSk g a) ((t.1 71 2).toInt - oqSk g a)) → ((t.1 71 2).toInt ≤ oqSk g a + 6) → ((t.1 71 3).toInt = (s.1 71 3).toInt) → 1601 - (t.1 71 2).toInt ≤ (n : Int) → J t 58 [(0, .ref (oad E 71)), (1, .long x1)] []) := by
    intro n
    induction n using Nat.strongRecOn with
    | _ n ih =>
      skip
      · intro t x1  iv0 iv1 iv2 iv3 iv4 iv5 iv6 iv7 iv8 hmu
        refine r_aload_n C (j := 0) (oDec_at oX12_name 30 rfl) rfl rfl ?_
        obtain ⟨v1, ev1⟩ : ∃ z : Int32, (t).1 71 2 = z := ⟨_, rfl⟩
        have gv1 : (t.1 71 2).toInt = v1.toInt := congrArg Int32.toInt (ev1)
        refine r_geti (k := 2) (lo := 0) (hi := 1600) C v1 oCl12 rfl (by decide) flX12_179 rfl rfl (ev1) rfl rfl (oDec_at oX12_name 31 rfl) (fun b2 b2h => ?_)
        refine r_aload_n C (j := 0) (oDec_at oX12_name 32 rfl) rfl rfl ?_
        obtain ⟨v3, ev3⟩ : ∃ z : Int32, (t).1 71 3 = z := ⟨_, rfl⟩
        have gv3 : (t.1 71 3).toInt = v3.toInt := congrArg Int32.toInt (ev3)
        refine r_geti (k := 3) (lo := 0) (hi := 1600) C v3 oCl12 rfl (by decide) flX12_182 rfl rfl (ev3) rfl rfl (oDec_at oX12_name 33 rfl) (fun b4 b4h => ?_)
        refine r_icmp_ge C 145 (oDec_at oX12_name 34 rfl) (by decide) (fun cd5 => ?_) (fun cd5 => ?_)
        · skip
          have hnl : ¬ (97 ≤ g (t.1 71 2).toInt ∧ g (t.1 71 2).toInt ≤ 122) := by first | omega | (have h9 := oqZ_no iv0 (a := (t.1 71 2).toInt) (by omega); omega)
          have hwe := oqWe_of (g := g) (a := oqSk g a) (b := (t.1 71 2).toInt) (by omega) iv5 hnl (by omega)
          have hve := oqVa6_end (g := g) (A := oqSk g a) (n := (t.1 71 2).toInt - oqSk g a) (by omega) (by omega) (by omega)
          refine r_aload_n C (j := 0) (oDec_at oX12_name 78 rfl) rfl rfl ?_
          refine r_aload_n C (j := 0) (oDec_at oX12_name 79 rfl) rfl rfl ?_
          refine r_geti (k := 2) (lo := 0) (hi := 1600) C v1 oCl12 rfl (by decide) flX12_179 rfl rfl (ev1) rfl rfl (oDec_at oX12_name 80 rfl) (fun _ _ => ?_)
          refine r_puti (k := 4) (lo := (-1)) (hi := 1600) C oCl12 rfl (by decide) flX12_193 rfl rfl rfl rfl rfl rfl rfl rfl ⟨by omega, by omega⟩ (oDec_at oX12_name 81 rfl) ?_
          refine r_lload_n C (j := 1) (oDec_at oX12_name 82 rfl) rfl rfl ?_
          have lk6 : (((pI t 71 4 v1)).1 71 2).toInt = v1.toInt := congrArg Int32.toInt (((pI_ne (a := 71) (b := 2) (c := 71) (k := 4) _ _ (Or.inr (by decide)))).trans (ev1))
          have lk7 : (((pI t 71 4 v1)).1 71 5).toInt = (t.1 71 5).toInt := congrArg Int32.toInt ((pI_ne (a := 71) (b := 5) (c := 71) (k := 4) _ _ (Or.inr (by decide))))
          have lk8 : (((pI t 71 4 v1)).1 71 2).toInt = v1.toInt := congrArg Int32.toInt (((pI_ne (a := 71) (b := 2) (c := 71) (k := 4) _ _ (Or.inr (by decide)))).trans (ev1))
          have lk9 : (((pI t 71 4 v1)).1 71 4).toInt = v1.toInt := congrArg Int32.toInt ((pI_self _ _ _ _))
          have lk10 : (((pI t 71 4 v1)).1 71 36).toInt = (t.1 71 36).toInt := congrArg Int32.toInt ((pI_ne (a := 71) (b := 36) (c := 71) (k := 4) _ _ (Or.inr (by decide))))
          have lk11 : (((pI t 71 4 v1)).1 71 5).toInt = (t.1 71 5).toInt := congrArg Int32.toInt ((pI_ne (a := 71) (b := 5) (c := 71) (k := 4) _ _ (Or.inr (by decide))))
          have lk12 : (((pI t 71 4 v1)).1 71 6).toInt = (t.1 71 6).toInt := congrArg Int32.toInt ((pI_ne (a := 71) (b := 6) (c := 71) (k := 4) _ _ (Or.inr (by decide))))
          exact r_lret C (oDec_at oX12_name 83 rfl) ⟨_, rfl, by omega, by omega, by omega, (oqBP_fr (oFr_oneI (q := 12) (m := 4) rfl (by rfl)) rfl iv3)⟩
        · skip
          refine r_aload_n C (j := 0) (oDec_at oX12_name 35 rfl) rfl rfl ?_
          refine r_getF (k := 0) (b := 72) C oCl12 rfl (by decide) flX12_7 rfl rfl rfl (oDec_at oX12_name 36 rfl) ?_
          refine r_aload_n C (j := 0) (oDec_at oX12_name 37 rfl) rfl rfl ?_
          refine r_geti (k := 2) (lo := 0) (hi := 1600) C v1 oCl12 rfl (by decide) flX12_179 rfl rfl (ev1) rfl rfl (oDec_at oX12_name 38 rfl) (fun _ _ => ?_)
          obtain ⟨v14, ev14⟩ : ∃ z : Int32, (t).1 72 v1.toNatClampNeg = z := ⟨_, rfl⟩
          have gv14 : (t.1 72 v1.toNatClampNeg).toInt = v14.toInt := congrArg Int32.toInt (ev14)
          refine r_iald (n := 1600) (lo := 0) (hi := 255) C v14 rfl (by decide) rfl rfl ⟨by omega, by omega⟩ (by decide) ev14 rfl rfl (oDec_at oX12_name 39 rfl) (fun b13 b13h => ?_)
          have la15 : ((t).1 72 ((t).1 71 2).toNatClampNeg).toInt = v14.toInt := by rw [ev1, ev14]
          have hg77 := oqZ_at iv0 ev14 (a := (t.1 71 2).toInt) (by omega) (by omega) (by omega)
          refine r_callSi C miX12_isLetter mlX12_189 (ct_X12_isLetter l E (t) v14 ) (by decide) rfl rfl rfl (Nat.le_of_ble_eq_true rfl) (oDec_at oX12_name 40 rfl) (fun r17 u16 pu16 fu16 => ?_)
          try dsimp only at pu16
          obtain ⟨pu16_0, pu16_1⟩ := pu16
          have hxu16 := oFr_nil fu16; subst hxu16
          have rr17 := n_rng r17
          refine r_pc C 81 rfl ?_
          refine r_if_eq C 145 (oDec_at oX12_name 41 rfl) (by decide) (fun cd18 => ?_) (fun cd18 => ?_)
          · skip
            have hnl : ¬ (97 ≤ g (t.1 71 2).toInt ∧ g (t.1 71 2).toInt ≤ 122) := by first | omega | (have h9 := oqZ_no iv0 (a := (t.1 71 2).toInt) (by omega); omega)
            have hwe := oqWe_of (g := g) (a := oqSk g a) (b := (t.1 71 2).toInt) (by omega) iv5 hnl (by omega)
            have hve := oqVa6_end (g := g) (A := oqSk g a) (n := (t.1 71 2).toInt - oqSk g a) (by omega) (by omega) (by omega)
            refine r_aload_n C (j := 0) (oDec_at oX12_name 78 rfl) rfl rfl ?_
            refine r_aload_n C (j := 0) (oDec_at oX12_name 79 rfl) rfl rfl ?_
            refine r_geti (k := 2) (lo := 0) (hi := 1600) C v1 oCl12 rfl (by decide) flX12_179 rfl rfl (ev1) rfl rfl (oDec_at oX12_name 80 rfl) (fun _ _ => ?_)
            refine r_puti (k := 4) (lo := (-1)) (hi := 1600) C oCl12 rfl (by decide) flX12_193 rfl rfl rfl rfl rfl rfl rfl rfl ⟨by omega, by omega⟩ (oDec_at oX12_name 81 rfl) ?_
            refine r_lload_n C (j := 1) (oDec_at oX12_name 82 rfl) rfl rfl ?_
            have lk19 : (((pI t 71 4 v1)).1 71 2).toInt = v1.toInt := congrArg Int32.toInt (((pI_ne (a := 71) (b := 2) (c := 71) (k := 4) _ _ (Or.inr (by decide)))).trans (ev1))
            have lk20 : (((pI t 71 4 v1)).1 71 5).toInt = (t.1 71 5).toInt := congrArg Int32.toInt ((pI_ne (a := 71) (b := 5) (c := 71) (k := 4) _ _ (Or.inr (by decide))))
            have lk21 : (((pI t 71 4 v1)).1 71 2).toInt = v1.toInt := congrArg Int32.toInt (((pI_ne (a := 71) (b := 2) (c := 71) (k := 4) _ _ (Or.inr (by decide)))).trans (ev1))
            have lk22 : (((pI t 71 4 v1)).1 71 4).toInt = v1.toInt := congrArg Int32.toInt ((pI_self _ _ _ _))
            have lk23 : (((pI t 71 4 v1)).1 71 36).toInt = (t.1 71 36).toInt := congrArg Int32.toInt ((pI_ne (a := 71) (b := 36) (c := 71) (k := 4) _ _ (Or.inr (by decide))))
            have lk24 : (((pI t 71 4 v1)).1 71 5).toInt = (t.1 71 5).toInt := congrArg Int32.toInt ((pI_ne (a := 71) (b := 5) (c := 71) (k := 4) _ _ (Or.inr (by decide))))
            have lk25 : (((pI t 71 4 v1)).1 71 6).toInt = (t.1 71 6).toInt := congrArg Int32.toInt ((pI_ne (a := 71) (b := 6) (c := 71) (k := 4) _ _ (Or.inr (by decide))))
            exact r_lret C (oDec_at oX12_name 83 rfl) ⟨_, rfl, by omega, by omega, by omega, (oqBP_fr (oFr_oneI (q := 12) (m := 4) rfl (by rfl)) rfl iv3)⟩
          · skip
            refine r_aload_n C (j := 0) (oDec_at oX12_name 42 rfl) rfl rfl ?_
            refine r_geti (k := 2) (lo := 0) (hi := 1600) C v1 oCl12 rfl (by decide) flX12_179 rfl rfl (ev1) rfl rfl (oDec_at oX12_name 43 rfl) (fun _ _ => ?_)
            refine r_aload_n C (j := 0) (oDec_at oX12_name 44 rfl) rfl rfl ?_
            obtain ⟨v26, ev26⟩ : ∃ z : Int32, (t).1 71 36 = z := ⟨_, rfl⟩
            have gv26 : (t.1 71 36).toInt = v26.toInt := congrArg Int32.toInt (ev26)
            have rv26 := n_rng v26
            refine r_geti (k := 36) (lo := (-2147483648)) (hi := 2147483647) C v26 oCl12 rfl (by decide) flX12_224 rfl rfl (ev26) rfl rfl (oDec_at oX12_name 45 rfl) (fun _ _ => ?_)
            obtain ⟨v27, ev27⟩ : ∃ z : Int32, z = v1 - v26 := ⟨_, rfl⟩
            have hv27 : v27.toInt = v1.toInt - v26.toInt := n_sub ev27 (by omega) (by omega)
            refine r_isub C v27 (oDec_at oX12_name 46 rfl) ev27 ?_
            refine r_bipush C (oDec_at oX12_name 47 rfl) (v := k6) (by rw [qk6]; rfl) ?_
            refine r_pc C 95 rfl ?_
            refine r_icmp_ne C 109 (oDec_at oX12_name 48 rfl) (by decide) (fun cd28 => ?_) (fun cd28 => ?_)
            · skip
              have hvb := oqVa6_b (g := g) (A := oqSk g a) (n := (t.1 71 2).toInt - oqSk g a) iv5 (by omega) (by omega) (by omega)
              refine r_ldc2 C (v := j27) (by rw [qj27]; exact klX12_227) (oDec_at oX12_name 56 rfl) ?_
              refine r_lload_n C (j := 1) (oDec_at oX12_name 57 rfl) rfl rfl ?_
              obtain ⟨v29, ev29⟩ : ∃ z : Int64, z = j27 * x1 := ⟨_, rfl⟩
              have hv29 := n_lmulK (k := 27) ev29 ej27 (by omega) (by omega)
              refine r_lmul C v29 (oDec_at oX12_name 58 rfl) ev29 ?_
              refine r_aload_n C (j := 0) (oDec_at oX12_name 59 rfl) rfl rfl ?_
              refine r_getF (k := 0) (b := 72) C oCl12 rfl (by decide) flX12_7 rfl rfl rfl (oDec_at oX12_name 60 rfl) ?_
              refine r_aload_n C (j := 0) (oDec_at oX12_name 61 rfl) rfl rfl ?_
              refine r_pc C 119 rfl ?_
              refine r_geti (k := 2) (lo := 0) (hi := 1600) C v1 oCl12 rfl (by decide) flX12_179 rfl rfl (ev1) rfl rfl (oDec_at oX12_name 62 rfl) (fun _ _ => ?_)
              refine r_iald (n := 1600) (lo := 0) (hi := 255) C v14 rfl (by decide) rfl rfl ⟨by omega, by omega⟩ (by decide) (ev14) rfl rfl (oDec_at oX12_name 63 rfl) (fun b30 b30h => ?_)
              have la31 : ((t).1 72 ((t).1 71 2).toNatClampNeg).toInt = v14.toInt := by rw [ev1, (ev14)]
              have hg122 := oqZ_at iv0 ev14 (a := (t.1 71 2).toInt) (by omega) (by omega) (by omega)
              obtain ⟨v32, ev32⟩ : ∃ z : Int64, v14.toInt64 = z := ⟨_, rfl⟩
              have hv32 : v32.toInt = v14.toInt := n_i2l ev32
              refine r_i2l C v32 (oDec_at oX12_name 64 rfl) ev32 ?_
              obtain ⟨v33, ev33⟩ : ∃ z : Int64, z = v29 + v32 := ⟨_, rfl⟩
              have hv33 := n_ladd ev33 (by omega) (by omega)
              refine r_ladd C v33 (oDec_at oX12_name 65 rfl) ev33 ?_
              refine r_ldc2 C (v := j97) (by rw [qj97]; exact klX12_229) (oDec_at oX12_name 66 rfl) ?_
              obtain ⟨v34, ev34⟩ : ∃ z : Int64, z = v33 - j97 := ⟨_, rfl⟩
              have hv34 := n_lsub ev34 (by omega) (by omega)
              refine r_lsub C v34 (oDec_at oX12_name 67 rfl) ev34 ?_
              refine r_pc C 129 rfl ?_
              refine r_lconst C (oDec_at oX12_name 68 rfl) (v := j1) (by rw [qj1]; rfl) ?_
              obtain ⟨v35, ev35⟩ : ∃ z : Int64, z = v34 + j1 := ⟨_, rfl⟩
              have hv35 := n_ladd ev35 (by omega) (by omega)
              refine r_ladd C v35 (oDec_at oX12_name 69 rfl) ev35 ?_
              refine r_lstore_n C (lv' := [(0, .ref (oad E 71)), (1, .long v35)]) [1, 0] (oDec_at oX12_name 70 rfl) rfl (by decide) rfl ?_
              refine r_aload_n C (j := 0) (oDec_at oX12_name 71 rfl) rfl rfl ?_
              refine r_dup C (oDec_at oX12_name 72 rfl) rfl ?_
              refine r_geti (k := 2) (lo := 0) (hi := 1600) C v1 oCl12 rfl (by decide) flX12_179 rfl rfl (ev1) rfl rfl (oDec_at oX12_name 73 rfl) (fun _ _ => ?_)
              refine r_pc C 137 rfl ?_
              refine r_iconst C (oDec_at oX12_name 74 rfl) (v := k1) (by rw [qk1]; rfl) ?_
              obtain ⟨v36, ev36⟩ : ∃ z : Int32, z = v1 + k1 := ⟨_, rfl⟩
              have hv36 : v36.toInt = v1.toInt + k1.toInt := n_add ev36 (by omega) (by omega)
              refine r_iadd C v36 (oDec_at oX12_name 75 rfl) ev36 ?_
              refine r_puti (k := 2) (lo := 0) (hi := 1600) C oCl12 rfl (by decide) flX12_179 rfl rfl rfl rfl rfl rfl rfl rfl ⟨by omega, by omega⟩ (oDec_at oX12_name 76 rfl) ?_
              refine r_goto C (tgt := 58) (oDec_at oX12_name 77 rfl) (by decide) ?_
              have lk37 : (((pI t 71 2 v36)).1 71 36).toInt = v26.toInt := congrArg Int32.toInt (((pI_ne (a := 71) (b := 36) (c := 71) (k := 2) _ _ (Or.inr (by decide)))).trans (ev26))
              have lk38 : (((pI t 71 2 v36)).1 71 2).toInt = v36.toInt := congrArg Int32.toInt ((pI_self _ _ _ _))
              have lk39 : (((pI t 71 2 v36)).1 71 5).toInt = (t.1 71 5).toInt := congrArg Int32.toInt ((pI_ne (a := 71) (b := 5) (c := 71) (k := 2) _ _ (Or.inr (by decide))))
              have lk40 : (((pI t 71 2 v36)).1 71 2).toInt = v36.toInt := congrArg Int32.toInt ((pI_self _ _ _ _))
              have lk41 : (((pI t 71 2 v36)).1 71 2).toInt = v36.toInt := congrArg Int32.toInt ((pI_self _ _ _ _))
              have lk42 : (((pI t 71 2 v36)).1 71 2).toInt = v36.toInt := congrArg Int32.toInt ((pI_self _ _ _ _))
              have lk43 : (((pI t 71 2 v36)).1 71 3).toInt = v3.toInt := congrArg Int32.toInt (((pI_ne (a := 71) (b := 3) (c := 71) (k := 2) _ _ (Or.inr (by decide)))).trans (ev3))
              have lk44 : (((pI t 71 2 v36)).1 71 2).toInt = v36.toInt := congrArg Int32.toInt ((pI_self _ _ _ _))
              exact (ih (n - 1) (by omega)) ((pI t 71 2 v36)) v35  (oqZ_fr (oFr_oneI (q := 12) (m := 2) rfl (by rfl)) rfl iv0) (by omega) (by omega) (oqBP_fr (oFr_oneI (q := 12) (m := 2) rfl (by rfl)) rfl iv3) (by omega) (by first | exact oqRun_nx iv5 (by omega) (by omega) | (rw [show (((pI t 71 2 v36)).1 71 2).toInt = oqSk g a by omega]; exact oqRun_0)) (by first | (rw [oqVa6_nx (g := g) (A := oqSk g a) (n := (t.1 71 2).toInt - oqSk g a) (b := (t.1 71 2).toInt) (by omega) (by omega) (by omega) (by omega)]; omega) | (rw [oqVa6_0 (by omega)]; omega)) (by omega) (by omega) (by omega)
            · skip
              refine r_aload_n C (j := 0) (oDec_at oX12_name 49 rfl) rfl rfl ?_
              refine r_iconst C (oDec_at oX12_name 50 rfl) (v := k1) (by rw [qk1]; rfl) ?_
              refine r_aload_n C (j := 0) (oDec_at oX12_name 51 rfl) rfl rfl ?_
              have hlong := oqWe_gt iv5 (by omega) (by omega) (by omega)
              refine r_geti (k := 2) (lo := 0) (hi := 1600) C v1 oCl12 rfl (by decide) flX12_179 rfl rfl (ev1) rfl rfl (oDec_at oX12_name 52 rfl) (fun _ _ => ?_)
              refine r_callVv C oCl12 rfl miX12_fail mlX12_203 (ct7_X12_fail l E (t) k1 v1 (by omega) iv3) (by decide) rfl rfl rfl (Nat.le_of_ble_eq_true rfl) (oDec_at oX12_name 53 rfl) (fun u45 pu45 fu45 => ?_)
              try dsimp only at pu45
              obtain ⟨pu45_0, pu45_1, pu45_2⟩ := pu45
              refine r_lconst C (oDec_at oX12_name 54 rfl) (v := j0) (by rw [qj0]; rfl) ?_
              refine r_pc C 108 rfl ?_
              have lk47 : ((u45).1 71 2).toInt = v1.toInt := congrArg Int32.toInt (((fu45 71 2 rfl).1).trans (ev1))
              have lk48 : ((u45).1 71 2).toInt = v1.toInt := congrArg Int32.toInt (((fu45 71 2 rfl).1).trans (ev1))
              have lk49 : ((u45).1 71 4).toInt = (t.1 71 4).toInt := congrArg Int32.toInt ((fu45 71 4 rfl).1)
              have lk50 : ((u45).1 71 36).toInt = v26.toInt := congrArg Int32.toInt (((fu45 71 36 rfl).1).trans (ev26))
              exact r_lret C (oDec_at oX12_name 55 rfl) ⟨_, rfl, by omega, by omega, by omega, pu45_2⟩
  refine r_aload_n C (j := 0) (oDec_at oX12_name 0 rfl) rfl rfl ?_
  obtain ⟨v51, ev51⟩ : ∃ z : Int32, (s).1 71 5 = z := ⟨_, rfl⟩
  have gv51 : (s.1 71 5).toInt = v51.toInt := congrArg Int32.toInt (ev51)
  have rv51 := n_rng v51
  refine r_geti (k := 5) (lo := (-2147483648)) (hi := 2147483647) C v51 oCl12 rfl (by decide) flX12_173 rfl rfl (ev51) rfl rfl (oDec_at oX12_name 1 rfl) (fun _ _ => ?_)
  refine r_if_eq C 9 (oDec_at oX12_name 2 rfl) (by decide) (fun cd52 => ?_) (fun cd52 => ?_)
  · skip
    refine r_aload_n C (j := 0) (oDec_at oX12_name 5 rfl) rfl rfl ?_
    refine r_callVi C oCl12 rfl miX12_look mlX12_185 (ct4_X12_look l E (s)  (g) (a) (by omega) hp2) (by decide) rfl rfl rfl (Nat.le_of_ble_eq_true rfl) (oDec_at oX12_name 6 rfl) (fun r54 u53 pu53 fu53 => ?_)
    try dsimp only at pu53
    obtain ⟨pu53_0, pu53_1, pu53_2, pu53_3, pu53_4, pu53_5⟩ := pu53
    have rr54 := n_rng r54
    have hss := oqSk_sk (g := g) (a := a) pu53_3
    refine r_callSi C miX12_isLetter mlX12_189 (ct_X12_isLetter l E (u53) r54 ) (by decide) rfl rfl rfl (Nat.le_of_ble_eq_true rfl) (oDec_at oX12_name 7 rfl) (fun r56 u55 pu55 fu55 => ?_)
    try dsimp only at pu55
    obtain ⟨pu55_0, pu55_1⟩ := pu55
    have hxu55 := oFr_nil fu55; subst hxu55
    have rr56 := n_rng r56
    refine r_if_eq C 37 (oDec_at oX12_name 8 rfl) (by decide) (fun cd57 => ?_) (fun cd57 => ?_)
    · skip
      refine r_aload_n C (j := 0) (oDec_at oX12_name 17 rfl) rfl rfl ?_
      refine r_iconst C (oDec_at oX12_name 18 rfl) (v := k1) (by rw [qk1]; rfl) ?_
      refine r_aload_n C (j := 0) (oDec_at oX12_name 19 rfl) rfl rfl ?_
      obtain ⟨v58, ev58⟩ : ∃ z : Int32, (u53).1 71 2 = z := ⟨_, rfl⟩
      have gv58 : (u53.1 71 2).toInt = v58.toInt := congrArg Int32.toInt (ev58)
      refine r_geti (k := 2) (lo := 0) (hi := 1600) C v58 oCl12 rfl (by decide) flX12_179 rfl rfl (ev58) rfl rfl (oDec_at oX12_name 20 rfl) (fun b59 b59h => ?_)
      have lk60 : ((u53).1 71 5).toInt = v51.toInt := congrArg Int32.toInt (((fu53 71 5 rfl).1).trans (ev51))
      have lk61 : ((u53).1 71 5).toInt = v51.toInt := congrArg Int32.toInt (((fu53 71 5 rfl).1).trans (ev51))
      have lk62 : ((u53).1 71 6).toInt = (s.1 71 6).toInt := congrArg Int32.toInt ((fu53 71 6 rfl).1)
      refine r_callVv C oCl12 rfl miX12_fail mlX12_203 (ct7_X12_fail l E (u53) k1 v58 (by omega) (oqBP_fr fu53 rfl hp6)) (by decide) rfl rfl rfl (Nat.le_of_ble_eq_true rfl) (oDec_at oX12_name 21 rfl) (fun u63 pu63 fu63 => ?_)
      try dsimp only at pu63
      try simp only [lk60, lk61, lk62] at pu63
      obtain ⟨pu63_0, pu63_1, pu63_2⟩ := pu63
      refine r_lconst C (oDec_at oX12_name 22 rfl) (v := j0) (by rw [qj0]; rfl) ?_
      refine r_pc C 47 rfl ?_
      have lk65 : ((u63).1 71 2).toInt = v58.toInt := congrArg Int32.toInt (((fu63 71 2 rfl).1).trans (ev58))
      have lk66 : ((u63).1 71 2).toInt = v58.toInt := congrArg Int32.toInt (((fu63 71 2 rfl).1).trans (ev58))
      have lk67 : ((u63).1 71 4).toInt = (s.1 71 4).toInt := congrArg Int32.toInt (((fu63 71 4 rfl).1).trans ((fu53 71 4 rfl).1))
      have lk68 : ((u63).1 71 36).toInt = (s.1 71 36).toInt := congrArg Int32.toInt (((fu63 71 36 rfl).1).trans ((fu53 71 36 rfl).1))
      exact r_lret C (oDec_at oX12_name 23 rfl) ⟨_, rfl, by omega, by omega, by omega, pu63_2⟩
    · skip
      have hna : oqSk g a ≠ a := fun h9 => by have h8 := congrArg g h9; omega
      refine r_aload_n C (j := 0) (oDec_at oX12_name 9 rfl) rfl rfl ?_
      obtain ⟨v69, ev69⟩ : ∃ z : Int32, (u53).1 71 2 = z := ⟨_, rfl⟩
      have gv69 : (u53.1 71 2).toInt = v69.toInt := congrArg Int32.toInt (ev69)
      refine r_geti (k := 2) (lo := 0) (hi := 1600) C v69 oCl12 rfl (by decide) flX12_179 rfl rfl (ev69) rfl rfl (oDec_at oX12_name 10 rfl) (fun b70 b70h => ?_)
      refine r_aload_n C (j := 0) (oDec_at oX12_name 11 rfl) rfl rfl ?_
      obtain ⟨v71, ev71⟩ : ∃ z : Int32, (u53).1 71 4 = z := ⟨_, rfl⟩
      have gv71 : (s.1 71 4).toInt = v71.toInt := congrArg Int32.toInt (((fu53 71 4 rfl).1).symm.trans ev71)
      have ggv71 : ((u53).1 71 4).toInt = v71.toInt := congrArg Int32.toInt ev71
      refine r_geti (k := 4) (lo := (-1)) (hi := 1600) C v71 oCl12 rfl (by decide) flX12_193 rfl rfl (ev71) rfl rfl (oDec_at oX12_name 12 rfl) (fun b72 b72h => ?_)
      refine r_icmp_eq C 37 (oDec_at oX12_name 13 rfl) (by decide) (fun cd73 => ?_) (fun cd73 => ?_)
      · skip
        refine r_aload_n C (j := 0) (oDec_at oX12_name 17 rfl) rfl rfl ?_
        refine r_iconst C (oDec_at oX12_name 18 rfl) (v := k1) (by rw [qk1]; rfl) ?_
        refine r_aload_n C (j := 0) (oDec_at oX12_name 19 rfl) rfl rfl ?_
        refine r_geti (k := 2) (lo := 0) (hi := 1600) C v69 oCl12 rfl (by decide) flX12_179 rfl rfl (ev69) rfl rfl (oDec_at oX12_name 20 rfl) (fun _ _ => ?_)
        have lk74 : ((u53).1 71 5).toInt = v51.toInt := congrArg Int32.toInt (((fu53 71 5 rfl).1).trans (ev51))
        have lk75 : ((u53).1 71 5).toInt = v51.toInt := congrArg Int32.toInt (((fu53 71 5 rfl).1).trans (ev51))
        have lk76 : ((u53).1 71 6).toInt = (s.1 71 6).toInt := congrArg Int32.toInt ((fu53 71 6 rfl).1)
        refine r_callVv C oCl12 rfl miX12_fail mlX12_203 (ct7_X12_fail l E (u53) k1 v69 (by omega) (oqBP_fr fu53 rfl hp6)) (by decide) rfl rfl rfl (Nat.le_of_ble_eq_true rfl) (oDec_at oX12_name 21 rfl) (fun u77 pu77 fu77 => ?_)
        try dsimp only at pu77
        try simp only [lk74, lk75, lk76] at pu77
        obtain ⟨pu77_0, pu77_1, pu77_2⟩ := pu77
        refine r_lconst C (oDec_at oX12_name 22 rfl) (v := j0) (by rw [qj0]; rfl) ?_
        refine r_pc C 47 rfl ?_
        have lk79 : ((u77).1 71 2).toInt = v69.toInt := congrArg Int32.toInt (((fu77 71 2 rfl).1).trans (ev69))
        have lk80 : ((u77).1 71 2).toInt = v69.toInt := congrArg Int32.toInt (((fu77 71 2 rfl).1).trans (ev69))
        have lk81 : ((u77).1 71 4).toInt = v71.toInt := congrArg Int32.toInt (((fu77 71 4 rfl).1).trans (ev71))
        have lk82 : ((u77).1 71 36).toInt = (s.1 71 36).toInt := congrArg Int32.toInt (((fu77 71 36 rfl).1).trans ((fu53 71 36 rfl).1))
        exact r_lret C (oDec_at oX12_name 23 rfl) ⟨_, rfl, by omega, by omega, by omega, pu77_2⟩
      · skip
        refine r_aload_n C (j := 0) (oDec_at oX12_name 14 rfl) rfl rfl ?_
        have lk83 : ((u53).1 71 2).toInt = v69.toInt := congrArg Int32.toInt (ev69)
        have lk84 : ((u53).1 71 4).toInt = v71.toInt := congrArg Int32.toInt (ev71)
        have lk85 : ((u53).1 71 5).toInt = v51.toInt := congrArg Int32.toInt (((fu53 71 5 rfl).1).trans (ev51))
        have lk86 : ((u53).1 71 2).toInt = v69.toInt := congrArg Int32.toInt (ev69)
        refine r_callVi C oCl12 rfl miX12_isOwnHere mlX12_220 (ct5_X12_isOwnHere l E (u53)  (g) (oqSk g a) (a) (by omega) (by omega) (oqZ_fr fu53 rfl hp2) (by omega) (oqWd_fr fu53 rfl hp4) (by omega)) (by decide) rfl rfl rfl (Nat.le_of_ble_eq_true rfl) (oDec_at oX12_name 15 rfl) (fun r88 u87 pu87 fu87 => ?_)
        try dsimp only at pu87
        try simp only [lk83, lk84, lk85, lk86] at pu87
        obtain ⟨pu87_0, pu87_1, pu87_2, pu87_3, pu87_4⟩ := pu87
        have rr88 := n_rng r88
        have hws := oqWi_sk (b := a) hss
        refine r_if_eq C 48 (oDec_at oX12_name 16 rfl) (by decide) (fun cd89 => ?_) (fun cd89 => ?_)
        · skip
          clear pu87_2
          replace pu87_3 := pu87_3 (by omega)
          refine r_aload_n C (j := 0) (oDec_at oX12_name 24 rfl) rfl rfl ?_
          refine r_aload_n C (j := 0) (oDec_at oX12_name 25 rfl) rfl rfl ?_
          obtain ⟨v90, ev90⟩ : ∃ z : Int32, (u87).1 71 2 = z := ⟨_, rfl⟩
          have gv90 : (u87.1 71 2).toInt = v90.toInt := congrArg Int32.toInt (ev90)
          refine r_geti (k := 2) (lo := 0) (hi := 1600) C v90 oCl12 rfl (by decide) flX12_179 rfl rfl (ev90) rfl rfl (oDec_at oX12_name 26 rfl) (fun b91 b91h => ?_)
          refine r_puti (k := 36) (lo := (-2147483648)) (hi := 2147483647) C oCl12 rfl (by decide) flX12_224 rfl rfl rfl rfl rfl rfl rfl rfl (n_rng _) (oDec_at oX12_name 27 rfl) ?_
          refine r_lconst C (oDec_at oX12_name 28 rfl) (v := j0) (by rw [qj0]; rfl) ?_
          refine r_lstore_n C (lv' := [(0, .ref (oad E 71)), (1, .long j0)]) [1, 0] (oDec_at oX12_name 29 rfl) rfl (by decide) rfl ?_
          have lk92 : (((pI u87 71 36 v90)).1 71 36).toInt = v90.toInt := congrArg Int32.toInt ((pI_self _ _ _ _))
          have lk93 : (((pI u87 71 36 v90)).1 71 2).toInt = v90.toInt := congrArg Int32.toInt (((pI_ne (a := 71) (b := 2) (c := 71) (k := 36) _ _ (Or.inr (by decide)))).trans (ev90))
          have lk94 : (((pI u87 71 36 v90)).1 71 5).toInt = v51.toInt := congrArg Int32.toInt (((pI_ne (a := 71) (b := 5) (c := 71) (k := 36) _ _ (Or.inr (by decide)))).trans (((fu87 71 5 rfl).1).trans (((fu53 71 5 rfl).1).trans (ev51))))
          have lk95 : (((pI u87 71 36 v90)).1 71 2).toInt = v90.toInt := congrArg Int32.toInt (((pI_ne (a := 71) (b := 2) (c := 71) (k := 36) _ _ (Or.inr (by decide)))).trans (ev90))
          have lk96 : (((pI u87 71 36 v90)).1 71 2).toInt = v90.toInt := congrArg Int32.toInt (((pI_ne (a := 71) (b := 2) (c := 71) (k := 36) _ _ (Or.inr (by decide)))).trans (ev90))
          have lk97 : (((pI u87 71 36 v90)).1 71 2).toInt = v90.toInt := congrArg Int32.toInt (((pI_ne (a := 71) (b := 2) (c := 71) (k := 36) _ _ (Or.inr (by decide)))).trans (ev90))
          have lk98 : (((pI u87 71 36 v90)).1 71 3).toInt = (s.1 71 3).toInt := congrArg Int32.toInt (((pI_ne (a := 71) (b := 3) (c := 71) (k := 36) _ _ (Or.inr (by decide)))).trans (((fu87 71 3 rfl).1).trans ((fu53 71 3 rfl).1)))
          have lk99 : (((pI u87 71 36 v90)).1 71 2).toInt = v90.toInt := congrArg Int32.toInt (((pI_ne (a := 71) (b := 2) (c := 71) (k := 36) _ _ (Or.inr (by decide)))).trans (ev90))
          exact (key (1601 - (((pI u87 71 36 v90)).1 71 2).toInt).toNat) ((pI u87 71 36 v90)) j0  (oqZ_fr (oFr_oneI (q := 12) (m := 36) rfl (by rfl)) rfl (oqZ_fr fu87 rfl (oqZ_fr fu53 rfl hp2))) (by omega) (by omega) (oqBP_fr (oFr_oneI (q := 12) (m := 36) rfl (by rfl)) rfl (oqBP_fr fu87 rfl (oqBP_fr fu53 rfl hp6))) (by omega) (by first | (rw [show (((pI u87 71 36 v90)).1 71 2).toInt = oqSk g a by omega]; exact oqRun_0)) (by first | (rw [oqVa6_nx (g := g) (A := oqSk g a) (n := (t.1 71 2).toInt - oqSk g a) (b := (t.1 71 2).toInt) (by omega) (by omega) (by omega) (by omega)]; omega) | (rw [oqVa6_0 (by omega)]; omega)) (by omega) (by omega) (by omega)
        · skip
          replace pu87_2 := pu87_2 (by omega)
          clear pu87_3
          refine r_aload_n C (j := 0) (oDec_at oX12_name 17 rfl) rfl rfl ?_
          refine r_iconst C (oDec_at oX12_name 18 rfl) (v := k1) (by rw [qk1]; rfl) ?_
          refine r_aload_n C (j := 0) (oDec_at oX12_name 19 rfl) rfl rfl ?_
          obtain ⟨v100, ev100⟩ : ∃ z : Int32, (u87).1 71 2 = z := ⟨_, rfl⟩
          have gv100 : (u87.1 71 2).toInt = v100.toInt := congrArg Int32.toInt (ev100)
          refine r_geti (k := 2) (lo := 0) (hi := 1600) C v100 oCl12 rfl (by decide) flX12_179 rfl rfl (ev100) rfl rfl (oDec_at oX12_name 20 rfl) (fun b101 b101h => ?_)
          have lk102 : ((u87).1 71 5).toInt = v51.toInt := congrArg Int32.toInt (((fu87 71 5 rfl).1).trans (((fu53 71 5 rfl).1).trans (ev51)))
          have lk103 : ((u87).1 71 5).toInt = v51.toInt := congrArg Int32.toInt (((fu87 71 5 rfl).1).trans (((fu53 71 5 rfl).1).trans (ev51)))
          have lk104 : ((u87).1 71 6).toInt = (s.1 71 6).toInt := congrArg Int32.toInt (((fu87 71 6 rfl).1).trans ((fu53 71 6 rfl).1))
          refine r_callVv C oCl12 rfl miX12_fail mlX12_203 (ct7_X12_fail l E (u87) k1 v100 (by omega) (oqBP_fr fu87 rfl (oqBP_fr fu53 rfl hp6))) (by decide) rfl rfl rfl (Nat.le_of_ble_eq_true rfl) (oDec_at oX12_name 21 rfl) (fun u105 pu105 fu105 => ?_)
          try dsimp only at pu105
          try simp only [lk102, lk103, lk104] at pu105
          obtain ⟨pu105_0, pu105_1, pu105_2⟩ := pu105
          refine r_lconst C (oDec_at oX12_name 22 rfl) (v := j0) (by rw [qj0]; rfl) ?_
          refine r_pc C 47 rfl ?_
          have lk107 : ((u105).1 71 2).toInt = v100.toInt := congrArg Int32.toInt (((fu105 71 2 rfl).1).trans (ev100))
          have lk108 : ((u105).1 71 2).toInt = v100.toInt := congrArg Int32.toInt (((fu105 71 2 rfl).1).trans (ev100))
          have lk109 : ((u105).1 71 4).toInt = v71.toInt := congrArg Int32.toInt (((fu105 71 4 rfl).1).trans (((fu87 71 4 rfl).1).trans (ev71)))
          have lk110 : ((u105).1 71 36).toInt = (s.1 71 36).toInt := congrArg Int32.toInt (((fu105 71 36 rfl).1).trans (((fu87 71 36 rfl).1).trans ((fu53 71 36 rfl).1)))
          exact r_lret C (oDec_at oX12_name 23 rfl) ⟨_, rfl, by omega, by omega, by omega, pu105_2⟩
  · skip
    refine r_lconst C (oDec_at oX12_name 3 rfl) (v := j0) (by rw [qj0]; rfl) ?_
    have lk111 : ((s).1 71 5).toInt = v51.toInt := congrArg Int32.toInt (ev51)
    have lk112 : ((s).1 71 5).toInt = v51.toInt := congrArg Int32.toInt (ev51)
    exact r_lret C (oDec_at oX12_name 4 rfl) ⟨_, rfl, by omega, by omega, by omega, hp6⟩
