set_option maxHeartbeats 4000000 in
set_option maxRecDepth 100000 in
theorem ct4_X12_noteTold (l : Launch) (E : oE) (s : oS)  (g : Int → Int) (a : Int) (b : Int) (T : Int) (hp0 : oLT s) (hp1 : (s.1 71 37).toInt ≤ 24) (hp2 : oDT s) (hp3 : (s.1 71 2).toInt = a) (hp4 : (s.1 71 4).toInt = b) (hp5 : oqZ g s) (hp6 : oqWd s) (hp7 : oqTS T s) (hp8 : (s.1 71 5).toInt = 0 ∧ (s.1 71 6).toInt = -1) (hp9 : g (oqSk g a) ≠ 32 ∧ g (oqSk g a) ≠ 10) : oMet l 5 yX12_noteTold cX12_noteTold 6 none [(12, 2), (12, 4), (12, 5), (12, 6), (12, 9), (12, 37), (75, 9999), (76, 9999)] E s [.ref (oad E 71)] (oPv (fun u => (oLT u) ∧ ((u.1 71 37).toInt ≤ 24) ∧ (oDT u) ∧ ((u.1 71 5).toInt = 0 → ((s.1 71 5).toInt = 0 ∧ (u.1 71 37).toInt = (s.1 71 37).toInt + 1)) ∧ ((s.1 71 37).toInt ≤ (u.1 71 37).toInt) ∧ ((s.1 71 37).toInt = 24 → ((u.1 71 5).toInt = 5 ∧ (u.1 71 6).toInt = a)) ∧ ((s.1 71 37).toInt < 24 → (u.1 71 5).toInt = 0 → (oqTk g a b T = 0 ∧ (u.1 71 2).toInt = oqTa g a b ∧ (u.1 71 4).toInt = oqTb g a b ∧ (u.1 71 6).toInt = -1)) ∧ ((s.1 71 37).toInt < 24 → (u.1 71 5).toInt ≠ 0 → ((u.1 71 5).toInt = oqTk g a b T ∧ (u.1 71 6).toInt = oqTp g a b T)) ∧ ((u.1 71 5).toInt = 0 → oqTS (T + oqTv g a b) u))) := by
  refine oMet.of (lv := [(0, .ref (oad E 71))]) (by decide +kernel) (Nat.le_of_ble_eq_true rfl) rfl (fun J C hT => ?_)
  have C : oC l 5 cX12_noteTold RX12 6 none [(12, 2), (12, 4), (12, 5), (12, 6), (12, 9), (12, 37), (75, 9999), (76, 9999)] E s (oPv (fun u => (oLT u) ∧ ((u.1 71 37).toInt ≤ 24) ∧ (oDT u) ∧ ((u.1 71 5).toInt = 0 → ((s.1 71 5).toInt = 0 ∧ (u.1 71 37).toInt = (s.1 71 37).toInt + 1)) ∧ ((s.1 71 37).toInt ≤ (u.1 71 37).toInt) ∧ ((s.1 71 37).toInt = 24 → ((u.1 71 5).toInt = 5 ∧ (u.1 71 6).toInt = a)) ∧ ((s.1 71 37).toInt < 24 → (u.1 71 5).toInt = 0 → (oqTk g a b T = 0 ∧ (u.1 71 2).toInt = oqTa g a b ∧ (u.1 71 4).toInt = oqTb g a b ∧ (u.1 71 6).toInt = -1)) ∧ ((s.1 71 37).toInt < 24 → (u.1 71 5).toInt ≠ 0 → ((u.1 71 5).toInt = oqTk g a b T ∧ (u.1 71 6).toInt = oqTp g a b T)) ∧ ((u.1 71 5).toInt = 0 → oqTS (T + oqTv g a b) u))) J := C
  obtain ⟨km1, qkm1⟩ : ∃ z : Int32, z = (-1) := ⟨_, rfl⟩
  have ekm1 : km1.toInt = (-1) := by rw [qkm1]; rfl
  obtain ⟨k0, qk0⟩ : ∃ z : Int32, z = 0 := ⟨_, rfl⟩
  have ek0 : k0.toInt = 0 := by rw [qk0]; rfl
  obtain ⟨k1, qk1⟩ : ∃ z : Int32, z = 1 := ⟨_, rfl⟩
  have ek1 : k1.toInt = 1 := by rw [qk1]; rfl
  obtain ⟨k2, qk2⟩ : ∃ z : Int32, z = 2 := ⟨_, rfl⟩
  have ek2 : k2.toInt = 2 := by rw [qk2]; rfl
  obtain ⟨k5, qk5⟩ : ∃ z : Int32, z = 5 := ⟨_, rfl⟩
  have ek5 : k5.toInt = 5 := by rw [qk5]; rfl
  obtain ⟨k16, qk16⟩ : ∃ z : Int32, z = 16 := ⟨_, rfl⟩
  have ek16 : k16.toInt = 16 := by rw [qk16]; rfl
  obtain ⟨k24, qk24⟩ : ∃ z : Int32, z = 24 := ⟨_, rfl⟩
  have ek24 : k24.toInt = 24 := by rw [qk24]; rfl
  obtain ⟨k28, qk28⟩ : ∃ z : Int32, z = 28 := ⟨_, rfl⟩
  have ek28 : k28.toInt = 28 := by rw [qk28]; rfl
  obtain ⟨k59, qk59⟩ : ∃ z : Int32, z = 59 := ⟨_, rfl⟩
  have ek59 : k59.toInt = 59 := by rw [qk59]; rfl
  obtain ⟨k96, qk96⟩ : ∃ z : Int32, z = 96 := ⟨_, rfl⟩
  have ek96 : k96.toInt = 96 := by rw [qk96]; rfl
  have htn : (0 : Int) ≤ (s.1 71 38).toInt ∧ (s.1 71 38).toInt ≤ 24 := hT.1 71 38
  have hta : (0 : Int) ≤ (s.1 71 77).toInt ∧ (s.1 71 77).toInt ≤ 24 := hT.1 71 77
  have hss := oqSk_sk (g := g) (a := a) ⟨by omega, by omega⟩
  have hs0 := oqH_sk (b := b) (i := 0) hss
  have hsa := oqHa_sk (i := 0) hss
  have hKa : oqK1 g a = oqNk g (oqHa g a 0) (oqHa g a 0) 0 28 := rfl
  have hKb : oqK2 g a b T = oqNk g (oqA2 g a b) (oqA2 g a b) 1 (min 16 (96 - T)) := rfl
  have hA2 : oqA2 g a b = oqHa g (oqA1 g a b) 1 := rfl
  have hTb : oqTb g a b = oqNa g (oqA2 g a b) := rfl
  have hTa : oqTa g a b = oqSk g (oqTb g a b) + 1 := rfl
  have hTv : oqTv g a b = oqNv g (oqA2 g a b) := rfl
  have key : ∀ n : Nat, (∀ (t : oS) (x1 : Int32) (x3 : Int32) (x4 : Int32) (x5 : Int32), (oLT t) → (oDT t) → (24 ≤ x5.toInt ∧ x5.toInt ≤ x1.toInt) → (x1.toInt = 24 + (t.1 71 37).toInt) → (x1.toInt ≤ 47) → (0 ≤ x3.toInt ∧ x3.toInt ≤ 9999) → (oqZ g t) → (x4.toInt = x3.toInt + oSm (fun j => t.1 100 (24 + j)) (x5.toInt - 24).toNat) → (0 ≤ x4.toInt ∧ x4.toInt ≤ 10000 * (x5.toInt - 23)) → ((t.1 71 37).toInt = (s.1 71 37).toInt ∧ 0 ≤ (t.1 71 38).toInt ∧ (t.1 71 38).toInt ≤ 24 ∧ (s.1 71 37).toInt < 24) → (oqWd t) → (oqTS T t) → (((t.1 71 5).toInt = 0 ∧ (t.1 71 6).toInt = -1 ∧ oqHk g a b = 0 ∧ oqH g (oqA1 g a b) (oqA1 g a b) 1 = 1 ∧ oqNk g (oqA2 g a b) (oqA2 g a b) 1 16 = 0 ∧ x3.toInt = oqNv g (oqA2 g a b) ∧ 1 ≤ x3.toInt ∧ x3.toInt ≤ 16 ∧ (t.1 71 2).toInt = oqTb g a b ∧ (t.1 71 4).toInt = oqTb g a b ∧ (t.1 71 9).toInt = oqSk g (oqA2 g a b)) ∨ ((t.1 71 5).toInt ≠ 0 ∧ (t.1 71 5).toInt = oqTk g a b T ∧ (t.1 71 6).toInt = oqTp g a b T)) → 50 - x5.toInt ≤ (n : Int) → J t 92 [(0, .ref (oad E 71)), (1, .int x1), (3, .int x3), (4, .int x4), (5, .int x5)] []) := by
    intro n
    induction n using Nat.strongRecOn with
    | _ n ih =>
      skip
      · intro t x1 x3 x4 x5  iv0 iv1 iv2 iv3 iv4 iv5 iv6 iv7 iv8 iv9 iv10 iv11 iv12 hmu
        have rx1 := n_rng x1
        have rx3 := n_rng x3
        have rx4 := n_rng x4
        have rx5 := n_rng x5
        refine r_iload C (j := 4) (oDec_at oX12_noteTold 51 rfl) rfl ?_
        refine r_iload_n C (j := 1) (oDec_at oX12_noteTold 52 rfl) rfl rfl ?_
        refine r_icmp_ge C 116 (oDec_at oX12_noteTold 53 rfl) (by decide) (fun cd1 => ?_) (fun cd1 => ?_)
        · skip
          have hs5 : oSm (fun j => t.1 100 (24 + j)) (x5.toInt - 24).toNat = oSm (fun j => t.1 100 (24 + j)) (t.1 71 37).toNatClampNeg := by rw [show (x5.toInt - 24).toNat = (t.1 71 37).toNatClampNeg from by have := n_nat (t.1 71 37); omega]
          have hTS := iv11
          unfold oqTS at hTS
          refine r_aload_n C (j := 0) (oDec_at oX12_noteTold 63 rfl) rfl rfl ?_
          obtain ⟨v2, ev2⟩ : ∃ z : Int32, (t).1 71 5 = z := ⟨_, rfl⟩
          have gv2 : (t.1 71 5).toInt = v2.toInt := congrArg Int32.toInt (ev2)
          have rv2 := n_rng v2
          refine r_geti (k := 5) (lo := (-2147483648)) (hi := 2147483647) C v2 oCl12 rfl (by decide) flX12_173 rfl rfl (ev2) rfl rfl (oDec_at oX12_noteTold 64 rfl) (fun _ _ => ?_)
          refine r_if_ne C 139 (oDec_at oX12_noteTold 65 rfl) (by decide) (fun cd3 => ?_) (fun cd3 => ?_)
          · skip
            have lk4 : ((t).1 71 5).toInt = v2.toInt := congrArg Int32.toInt (ev2)
            have hS5 : ((((t).1 71 5).toInt = 0 ∧ ((t).1 71 6).toInt = -1 ∧ oqHk g a b = 0 ∧ oqH g (oqA1 g a b) (oqA1 g a b) 1 = 1 ∧ oqK2 g a b T = 0 ∧ 1 ≤ x3.toInt ∧ x3.toInt = oqTv g a b ∧ ((t).1 71 2).toInt = oqTb g a b ∧ ((t).1 71 4).toInt = oqTb g a b) ∨ (((t).1 71 5).toInt ≠ 0 ∧ ((t).1 71 5).toInt = oqTk g a b T ∧ ((t).1 71 6).toInt = oqTp g a b T)) := by first | (right; omega) | (rcases iv12 with h7 | h7; (have hcp := (oqNk_cap (g := g) (a := oqA2 g a b) (b := oqA2 g a b) (lo := 1) (h1 := 16) (h2 := min 16 (96 - T)) (by omega)).2.1 (by omega) (by omega); left; omega); (exfalso; omega)) | (rcases iv12 with h7 | h7; (have hcp := (oqNk_cap (g := g) (a := oqA2 g a b) (b := oqA2 g a b) (lo := 1) (h1 := 16) (h2 := min 16 (96 - T)) (by omega)).2.2.2 (by omega) (by omega); have hT2 := oqT_4 (g := g) (a := a) (b := b) (T := T) (oqHk_d (by omega)) (by omega) (by omega); right; omega); (exfalso; omega))
            clear iv12
            refine r_aload_n C (j := 0) (oDec_at oX12_noteTold 74 rfl) rfl rfl ?_
            refine r_getF (k := 40) (b := 100) C oCl12 rfl (by decide) flX12_99 rfl rfl rfl (oDec_at oX12_noteTold 75 rfl) ?_
            refine r_iload_n C (j := 1) (oDec_at oX12_noteTold 76 rfl) rfl rfl ?_
            refine r_iload_n C (j := 2) (oDec_at oX12_noteTold 77 rfl) rfl rfl ?_
            refine r_iast (n := 48) (lo := 0) (hi := 9999) C rfl (by decide) rfl rfl ⟨by omega, by omega⟩ (by decide) rfl rfl rfl rfl ⟨by omega, by omega⟩ (oDec_at oX12_noteTold 78 rfl) ?_
            have hq5 : oLT ((pI t 100 x1.toNatClampNeg x3)) := oLT_hi (x := x1) iv0 (by omega) (by omega)
            have hq6 : oDU ((pI t 100 x1.toNatClampNeg x3)) := oDU_of (x := x1) (n := x3) iv1 (by omega) (by omega) (by omega)
            refine r_aload_n C (j := 0) (oDec_at oX12_noteTold 79 rfl) rfl rfl ?_
            refine r_pc C 147 rfl ?_
            refine r_bipush C (oDec_at oX12_noteTold 80 rfl) (v := k59) (by rw [qk59]; rfl) ?_
            have lk7 : (((pI t 100 x1.toNatClampNeg x3)).1 71 5).toInt = v2.toInt := congrArg Int32.toInt (((pI_ne (a := 71) (b := 5) (c := 100) _ _ (Or.inl (by decide)))).trans (ev2))
            have lk8 : (((pI t 100 x1.toNatClampNeg x3)).1 71 2).toInt = (t.1 71 2).toInt := congrArg Int32.toInt ((pI_ne (a := 71) (b := 2) (c := 100) _ _ (Or.inl (by decide))))
            have lk9 : (((pI t 100 x1.toNatClampNeg x3)).1 71 5).toInt = v2.toInt := congrArg Int32.toInt (((pI_ne (a := 71) (b := 5) (c := 100) _ _ (Or.inl (by decide)))).trans (ev2))
            have lk10 : (((pI t 100 x1.toNatClampNeg x3)).1 71 6).toInt = (t.1 71 6).toInt := congrArg Int32.toInt ((pI_ne (a := 71) (b := 6) (c := 100) _ _ (Or.inl (by decide))))
            have lk11 : (((pI t 100 x1.toNatClampNeg x3)).1 71 5).toInt = v2.toInt := congrArg Int32.toInt (((pI_ne (a := 71) (b := 5) (c := 100) _ _ (Or.inl (by decide)))).trans (ev2))
            have lk12 : (((pI t 100 x1.toNatClampNeg x3)).1 71 6).toInt = (t.1 71 6).toInt := congrArg Int32.toInt ((pI_ne (a := 71) (b := 6) (c := 100) _ _ (Or.inl (by decide))))
            refine r_callVv C oCl12 rfl miX12_asksSign mlX12_248 (ct4_X12_asksSign l E ((pI t 100 x1.toNatClampNeg x3)) k59 (g) (oqTb g a b) (59) (by omega) (oqZ_fr (oFr_oneI (q := 76) (m := 9999) rfl (by rfl)) rfl iv6) (by omega) (by omega)) (by decide) rfl rfl rfl (Nat.le_of_ble_eq_true rfl) (oDec_at oX12_noteTold 81 rfl) (fun u13 pu13 fu13 => ?_)
            try dsimp only at pu13
            try simp only [lk7, lk8, lk9, lk10, lk11, lk12] at pu13
            obtain ⟨pu13_0, pu13_1⟩ := pu13
            have lk15 : ((u13).1 71 4).toInt = (t.1 71 4).toInt := congrArg Int32.toInt (((fu13 71 4 rfl).1).trans ((pI_ne (a := 71) (b := 4) (c := 100) _ _ (Or.inl (by decide)))))
            have lk16 : ((u13).1 71 37).toInt = (t.1 71 37).toInt := congrArg Int32.toInt (((fu13 71 37 rfl).1).trans ((pI_ne (a := 71) (b := 37) (c := 100) _ _ (Or.inl (by decide)))))
            have hS6 : ((((u13).1 71 5).toInt = 0 ∧ ((u13).1 71 6).toInt = -1 ∧ oqTk g a b T = 0 ∧ x3.toInt = oqTv g a b ∧ ((u13).1 71 2).toInt = oqTa g a b ∧ ((u13).1 71 4).toInt = oqTb g a b) ∨ (((u13).1 71 5).toInt ≠ 0 ∧ ((u13).1 71 5).toInt = oqTk g a b T ∧ ((u13).1 71 6).toInt = oqTp g a b T)) := by (rcases hS5 with h7 | h7 <;> by_cases h9 : ((u13).1 71 5).toInt = 0; (have h8 := pu13_0 h9; have hT2 := oqT_0 (g := g) (a := a) (b := b) (T := T) (oqHk_d (by omega)) (by omega) (by omega) (by omega); left; omega); (have h8 := pu13_1 h9; have hT2 := oqT_5 (g := g) (a := a) (b := b) (T := T) (oqHk_d (by omega)) (by omega) (by omega) (by omega); right; omega); (have h8 := pu13_0 h9; exfalso; omega); (have h8 := pu13_1 h9; right; omega))
            have hmono : ((u13).1 71 5).toInt = 0 → (((pI t 100 x1.toNatClampNeg x3)).1 71 5).toInt = 0 := by intro h9; have h8 := pu13_0 h9; omega
            clear hS5 pu13_0 pu13_1
            refine r_aload_n C (j := 0) (oDec_at oX12_noteTold 82 rfl) rfl rfl ?_
            refine r_dup C (oDec_at oX12_noteTold 83 rfl) rfl ?_
            obtain ⟨v17, ev17⟩ : ∃ z : Int32, (u13).1 71 37 = z := ⟨_, rfl⟩
            have gv17 : (t.1 71 37).toInt = v17.toInt := congrArg Int32.toInt ((((fu13 71 37 rfl).1).trans ((pI_ne (a := 71) (b := 37) (c := 100) _ _ (Or.inl (by decide))))).symm.trans ev17)
            have ggv17 : ((u13).1 71 37).toInt = v17.toInt := congrArg Int32.toInt ev17
            refine r_geti (k := 37) (lo := 0) (hi := 60) C v17 oCl12 rfl (by decide) flX12_231 rfl rfl (ev17) rfl rfl (oDec_at oX12_noteTold 84 rfl) (fun b18 b18h => ?_)
            refine r_iconst C (oDec_at oX12_noteTold 85 rfl) (v := k1) (by rw [qk1]; rfl) ?_
            refine r_pc C 158 rfl ?_
            obtain ⟨v19, ev19⟩ : ∃ z : Int32, z = v17 + k1 := ⟨_, rfl⟩
            have hv19 : v19.toInt = v17.toInt + k1.toInt := n_add ev19 (by omega) (by omega)
            refine r_iadd C v19 (oDec_at oX12_noteTold 86 rfl) ev19 ?_
            have lk20 : ((u13).1 71 37).toInt = v17.toInt := congrArg Int32.toInt (ev17)
            refine r_puti (k := 37) (lo := 0) (hi := 60) C oCl12 rfl (by decide) flX12_231 rfl rfl rfl rfl rfl rfl rfl rfl ⟨by omega, by omega⟩ (oDec_at oX12_noteTold 87 rfl) ?_
            have hq21 : oDT ((pI u13 71 37 v19)) := oDT_of (z := v19) (oDU_frb fu13 rfl (by omega) hq6) (by omega) (by omega)
            have lk22 : (((pI u13 71 37 v19)).1 71 37).toInt = v19.toInt := congrArg Int32.toInt ((pI_self _ _ _ _))
            have lk23 : (((pI u13 71 37 v19)).1 71 5).toInt = (u13.1 71 5).toInt := congrArg Int32.toInt ((pI_ne (a := 71) (b := 5) (c := 71) (k := 37) _ _ (Or.inr (by decide))))
            have lk24 : (((pI u13 71 37 v19)).1 71 37).toInt = v19.toInt := congrArg Int32.toInt ((pI_self _ _ _ _))
            have lk25 : (((pI u13 71 37 v19)).1 71 37).toInt = v19.toInt := congrArg Int32.toInt ((pI_self _ _ _ _))
            have lk26 : (((pI u13 71 37 v19)).1 71 5).toInt = (u13.1 71 5).toInt := congrArg Int32.toInt ((pI_ne (a := 71) (b := 5) (c := 71) (k := 37) _ _ (Or.inr (by decide))))
            have lk27 : (((pI u13 71 37 v19)).1 71 6).toInt = (u13.1 71 6).toInt := congrArg Int32.toInt ((pI_ne (a := 71) (b := 6) (c := 71) (k := 37) _ _ (Or.inr (by decide))))
            have lk28 : (((pI u13 71 37 v19)).1 71 5).toInt = (u13.1 71 5).toInt := congrArg Int32.toInt ((pI_ne (a := 71) (b := 5) (c := 71) (k := 37) _ _ (Or.inr (by decide))))
            have lk29 : (((pI u13 71 37 v19)).1 71 2).toInt = (u13.1 71 2).toInt := congrArg Int32.toInt ((pI_ne (a := 71) (b := 2) (c := 71) (k := 37) _ _ (Or.inr (by decide))))
            have lk30 : (((pI u13 71 37 v19)).1 71 4).toInt = (t.1 71 4).toInt := congrArg Int32.toInt (((pI_ne (a := 71) (b := 4) (c := 71) (k := 37) _ _ (Or.inr (by decide)))).trans (((fu13 71 4 rfl).1).trans ((pI_ne (a := 71) (b := 4) (c := 100) _ _ (Or.inl (by decide))))))
            have lk31 : (((pI u13 71 37 v19)).1 71 6).toInt = (u13.1 71 6).toInt := congrArg Int32.toInt ((pI_ne (a := 71) (b := 6) (c := 71) (k := 37) _ _ (Or.inr (by decide))))
            have lk32 : (((pI u13 71 37 v19)).1 71 5).toInt = (u13.1 71 5).toInt := congrArg Int32.toInt ((pI_ne (a := 71) (b := 5) (c := 71) (k := 37) _ _ (Or.inr (by decide))))
            have lk33 : (((pI u13 71 37 v19)).1 71 6).toInt = (u13.1 71 6).toInt := congrArg Int32.toInt ((pI_ne (a := 71) (b := 6) (c := 71) (k := 37) _ _ (Or.inr (by decide))))
            exact r_vret C (oDec_at oX12_noteTold 88 rfl) ⟨rfl, ⟨(oLT_fr (oFr_oneI (q := 12) (m := 37) rfl (by rfl)) rfl (oLT_fr fu13 rfl hq5)), by omega, hq21, by omega, by omega, by omega, by omega, by omega, fun h9 => oqTS_nx iv11 (by omega) (by omega) fu13 rfl (by omega) (by omega)⟩⟩
          · skip
            refine r_iload C (j := 3) (oDec_at oX12_noteTold 66 rfl) rfl ?_
            refine r_bipush C (oDec_at oX12_noteTold 67 rfl) (v := k96) (by rw [qk96]; rfl) ?_
            refine r_icmp_le C 139 (oDec_at oX12_noteTold 68 rfl) (by decide) (fun cd34 => ?_) (fun cd34 => ?_)
            · skip
              have lk35 : ((t).1 71 5).toInt = v2.toInt := congrArg Int32.toInt (ev2)
              have hS5 : ((((t).1 71 5).toInt = 0 ∧ ((t).1 71 6).toInt = -1 ∧ oqHk g a b = 0 ∧ oqH g (oqA1 g a b) (oqA1 g a b) 1 = 1 ∧ oqK2 g a b T = 0 ∧ 1 ≤ x3.toInt ∧ x3.toInt = oqTv g a b ∧ ((t).1 71 2).toInt = oqTb g a b ∧ ((t).1 71 4).toInt = oqTb g a b) ∨ (((t).1 71 5).toInt ≠ 0 ∧ ((t).1 71 5).toInt = oqTk g a b T ∧ ((t).1 71 6).toInt = oqTp g a b T)) := by first | (right; omega) | (rcases iv12 with h7 | h7; (have hcp := (oqNk_cap (g := g) (a := oqA2 g a b) (b := oqA2 g a b) (lo := 1) (h1 := 16) (h2 := min 16 (96 - T)) (by omega)).2.1 (by omega) (by omega); left; omega); (exfalso; omega)) | (rcases iv12 with h7 | h7; (have hcp := (oqNk_cap (g := g) (a := oqA2 g a b) (b := oqA2 g a b) (lo := 1) (h1 := 16) (h2 := min 16 (96 - T)) (by omega)).2.2.2 (by omega) (by omega); have hT2 := oqT_4 (g := g) (a := a) (b := b) (T := T) (oqHk_d (by omega)) (by omega) (by omega); right; omega); (exfalso; omega))
              clear iv12
              refine r_aload_n C (j := 0) (oDec_at oX12_noteTold 74 rfl) rfl rfl ?_
              refine r_getF (k := 40) (b := 100) C oCl12 rfl (by decide) flX12_99 rfl rfl rfl (oDec_at oX12_noteTold 75 rfl) ?_
              refine r_iload_n C (j := 1) (oDec_at oX12_noteTold 76 rfl) rfl rfl ?_
              refine r_iload_n C (j := 2) (oDec_at oX12_noteTold 77 rfl) rfl rfl ?_
              refine r_iast (n := 48) (lo := 0) (hi := 9999) C rfl (by decide) rfl rfl ⟨by omega, by omega⟩ (by decide) rfl rfl rfl rfl ⟨by omega, by omega⟩ (oDec_at oX12_noteTold 78 rfl) ?_
              have hq36 : oLT ((pI t 100 x1.toNatClampNeg x3)) := oLT_hi (x := x1) iv0 (by omega) (by omega)
              have hq37 : oDU ((pI t 100 x1.toNatClampNeg x3)) := oDU_of (x := x1) (n := x3) iv1 (by omega) (by omega) (by omega)
              refine r_aload_n C (j := 0) (oDec_at oX12_noteTold 79 rfl) rfl rfl ?_
              refine r_pc C 147 rfl ?_
              refine r_bipush C (oDec_at oX12_noteTold 80 rfl) (v := k59) (by rw [qk59]; rfl) ?_
              have lk38 : (((pI t 100 x1.toNatClampNeg x3)).1 71 5).toInt = v2.toInt := congrArg Int32.toInt (((pI_ne (a := 71) (b := 5) (c := 100) _ _ (Or.inl (by decide)))).trans (ev2))
              have lk39 : (((pI t 100 x1.toNatClampNeg x3)).1 71 2).toInt = (t.1 71 2).toInt := congrArg Int32.toInt ((pI_ne (a := 71) (b := 2) (c := 100) _ _ (Or.inl (by decide))))
              have lk40 : (((pI t 100 x1.toNatClampNeg x3)).1 71 5).toInt = v2.toInt := congrArg Int32.toInt (((pI_ne (a := 71) (b := 5) (c := 100) _ _ (Or.inl (by decide)))).trans (ev2))
              have lk41 : (((pI t 100 x1.toNatClampNeg x3)).1 71 6).toInt = (t.1 71 6).toInt := congrArg Int32.toInt ((pI_ne (a := 71) (b := 6) (c := 100) _ _ (Or.inl (by decide))))
              have lk42 : (((pI t 100 x1.toNatClampNeg x3)).1 71 5).toInt = v2.toInt := congrArg Int32.toInt (((pI_ne (a := 71) (b := 5) (c := 100) _ _ (Or.inl (by decide)))).trans (ev2))
              have lk43 : (((pI t 100 x1.toNatClampNeg x3)).1 71 6).toInt = (t.1 71 6).toInt := congrArg Int32.toInt ((pI_ne (a := 71) (b := 6) (c := 100) _ _ (Or.inl (by decide))))
              refine r_callVv C oCl12 rfl miX12_asksSign mlX12_248 (ct4_X12_asksSign l E ((pI t 100 x1.toNatClampNeg x3)) k59 (g) (oqTb g a b) (59) (by omega) (oqZ_fr (oFr_oneI (q := 76) (m := 9999) rfl (by rfl)) rfl iv6) (by omega) (by omega)) (by decide) rfl rfl rfl (Nat.le_of_ble_eq_true rfl) (oDec_at oX12_noteTold 81 rfl) (fun u44 pu44 fu44 => ?_)
              try dsimp only at pu44
              try simp only [lk38, lk39, lk40, lk41, lk42, lk43] at pu44
              obtain ⟨pu44_0, pu44_1⟩ := pu44
              have lk46 : ((u44).1 71 4).toInt = (t.1 71 4).toInt := congrArg Int32.toInt (((fu44 71 4 rfl).1).trans ((pI_ne (a := 71) (b := 4) (c := 100) _ _ (Or.inl (by decide)))))
              have lk47 : ((u44).1 71 37).toInt = (t.1 71 37).toInt := congrArg Int32.toInt (((fu44 71 37 rfl).1).trans ((pI_ne (a := 71) (b := 37) (c := 100) _ _ (Or.inl (by decide)))))
              have hS6 : ((((u44).1 71 5).toInt = 0 ∧ ((u44).1 71 6).toInt = -1 ∧ oqTk g a b T = 0 ∧ x3.toInt = oqTv g a b ∧ ((u44).1 71 2).toInt = oqTa g a b ∧ ((u44).1 71 4).toInt = oqTb g a b) ∨ (((u44).1 71 5).toInt ≠ 0 ∧ ((u44).1 71 5).toInt = oqTk g a b T ∧ ((u44).1 71 6).toInt = oqTp g a b T)) := by (rcases hS5 with h7 | h7 <;> by_cases h9 : ((u44).1 71 5).toInt = 0; (have h8 := pu44_0 h9; have hT2 := oqT_0 (g := g) (a := a) (b := b) (T := T) (oqHk_d (by omega)) (by omega) (by omega) (by omega); left; omega); (have h8 := pu44_1 h9; have hT2 := oqT_5 (g := g) (a := a) (b := b) (T := T) (oqHk_d (by omega)) (by omega) (by omega) (by omega); right; omega); (have h8 := pu44_0 h9; exfalso; omega); (have h8 := pu44_1 h9; right; omega))
              have hmono : ((u44).1 71 5).toInt = 0 → (((pI t 100 x1.toNatClampNeg x3)).1 71 5).toInt = 0 := by intro h9; have h8 := pu44_0 h9; omega
              clear hS5 pu44_0 pu44_1
              refine r_aload_n C (j := 0) (oDec_at oX12_noteTold 82 rfl) rfl rfl ?_
              refine r_dup C (oDec_at oX12_noteTold 83 rfl) rfl ?_
              obtain ⟨v48, ev48⟩ : ∃ z : Int32, (u44).1 71 37 = z := ⟨_, rfl⟩
              have gv48 : (t.1 71 37).toInt = v48.toInt := congrArg Int32.toInt ((((fu44 71 37 rfl).1).trans ((pI_ne (a := 71) (b := 37) (c := 100) _ _ (Or.inl (by decide))))).symm.trans ev48)
              have ggv48 : ((u44).1 71 37).toInt = v48.toInt := congrArg Int32.toInt ev48
              refine r_geti (k := 37) (lo := 0) (hi := 60) C v48 oCl12 rfl (by decide) flX12_231 rfl rfl (ev48) rfl rfl (oDec_at oX12_noteTold 84 rfl) (fun b49 b49h => ?_)
              refine r_iconst C (oDec_at oX12_noteTold 85 rfl) (v := k1) (by rw [qk1]; rfl) ?_
              refine r_pc C 158 rfl ?_
              obtain ⟨v50, ev50⟩ : ∃ z : Int32, z = v48 + k1 := ⟨_, rfl⟩
              have hv50 : v50.toInt = v48.toInt + k1.toInt := n_add ev50 (by omega) (by omega)
              refine r_iadd C v50 (oDec_at oX12_noteTold 86 rfl) ev50 ?_
              have lk51 : ((u44).1 71 37).toInt = v48.toInt := congrArg Int32.toInt (ev48)
              refine r_puti (k := 37) (lo := 0) (hi := 60) C oCl12 rfl (by decide) flX12_231 rfl rfl rfl rfl rfl rfl rfl rfl ⟨by omega, by omega⟩ (oDec_at oX12_noteTold 87 rfl) ?_
              have hq52 : oDT ((pI u44 71 37 v50)) := oDT_of (z := v50) (oDU_frb fu44 rfl (by omega) hq37) (by omega) (by omega)
              have lk53 : (((pI u44 71 37 v50)).1 71 37).toInt = v50.toInt := congrArg Int32.toInt ((pI_self _ _ _ _))
              have lk54 : (((pI u44 71 37 v50)).1 71 5).toInt = (u44.1 71 5).toInt := congrArg Int32.toInt ((pI_ne (a := 71) (b := 5) (c := 71) (k := 37) _ _ (Or.inr (by decide))))
              have lk55 : (((pI u44 71 37 v50)).1 71 37).toInt = v50.toInt := congrArg Int32.toInt ((pI_self _ _ _ _))
              have lk56 : (((pI u44 71 37 v50)).1 71 37).toInt = v50.toInt := congrArg Int32.toInt ((pI_self _ _ _ _))
              have lk57 : (((pI u44 71 37 v50)).1 71 5).toInt = (u44.1 71 5).toInt := congrArg Int32.toInt ((pI_ne (a := 71) (b := 5) (c := 71) (k := 37) _ _ (Or.inr (by decide))))
              have lk58 : (((pI u44 71 37 v50)).1 71 6).toInt = (u44.1 71 6).toInt := congrArg Int32.toInt ((pI_ne (a := 71) (b := 6) (c := 71) (k := 37) _ _ (Or.inr (by decide))))
              have lk59 : (((pI u44 71 37 v50)).1 71 5).toInt = (u44.1 71 5).toInt := congrArg Int32.toInt ((pI_ne (a := 71) (b := 5) (c := 71) (k := 37) _ _ (Or.inr (by decide))))
              have lk60 : (((pI u44 71 37 v50)).1 71 2).toInt = (u44.1 71 2).toInt := congrArg Int32.toInt ((pI_ne (a := 71) (b := 2) (c := 71) (k := 37) _ _ (Or.inr (by decide))))
              have lk61 : (((pI u44 71 37 v50)).1 71 4).toInt = (t.1 71 4).toInt := congrArg Int32.toInt (((pI_ne (a := 71) (b := 4) (c := 71) (k := 37) _ _ (Or.inr (by decide)))).trans (((fu44 71 4 rfl).1).trans ((pI_ne (a := 71) (b := 4) (c := 100) _ _ (Or.inl (by decide))))))
              have lk62 : (((pI u44 71 37 v50)).1 71 6).toInt = (u44.1 71 6).toInt := congrArg Int32.toInt ((pI_ne (a := 71) (b := 6) (c := 71) (k := 37) _ _ (Or.inr (by decide))))
              have lk63 : (((pI u44 71 37 v50)).1 71 5).toInt = (u44.1 71 5).toInt := congrArg Int32.toInt ((pI_ne (a := 71) (b := 5) (c := 71) (k := 37) _ _ (Or.inr (by decide))))
              have lk64 : (((pI u44 71 37 v50)).1 71 6).toInt = (u44.1 71 6).toInt := congrArg Int32.toInt ((pI_ne (a := 71) (b := 6) (c := 71) (k := 37) _ _ (Or.inr (by decide))))
              exact r_vret C (oDec_at oX12_noteTold 88 rfl) ⟨rfl, ⟨(oLT_fr (oFr_oneI (q := 12) (m := 37) rfl (by rfl)) rfl (oLT_fr fu44 rfl hq36)), by omega, hq52, by omega, by omega, by omega, by omega, by omega, fun h9 => oqTS_nx iv11 (by omega) (by omega) fu44 rfl (by omega) (by omega)⟩⟩
            · skip
              refine r_aload_n C (j := 0) (oDec_at oX12_noteTold 69 rfl) rfl rfl ?_
              refine r_iconst C (oDec_at oX12_noteTold 70 rfl) (v := k2) (by rw [qk2]; rfl) ?_
              refine r_aload_n C (j := 0) (oDec_at oX12_noteTold 71 rfl) rfl rfl ?_
              obtain ⟨v65, ev65⟩ : ∃ z : Int32, (t).1 71 9 = z := ⟨_, rfl⟩
              have gv65 : (t.1 71 9).toInt = v65.toInt := congrArg Int32.toInt (ev65)
              have rv65 := n_rng v65
              refine r_geti (k := 9) (lo := (-2147483648)) (hi := 2147483647) C v65 oCl12 rfl (by decide) flX12_213 rfl rfl (ev65) rfl rfl (oDec_at oX12_noteTold 72 rfl) (fun _ _ => ?_)
              have lk66 : ((t).1 71 5).toInt = v2.toInt := congrArg Int32.toInt (ev2)
              have lk67 : ((t).1 71 5).toInt = v2.toInt := congrArg Int32.toInt (ev2)
              refine r_callVv C oCl12 rfl miX12_fail mlX12_203 (ct4_X12_fail l E (t) k2 v65 ) (by decide) rfl rfl rfl (Nat.le_of_ble_eq_true rfl) (oDec_at oX12_noteTold 73 rfl) (fun u68 pu68 fu68 => ?_)
              try dsimp only at pu68
              try simp only [lk66, lk67] at pu68
              obtain ⟨pu68_0, pu68_1⟩ := pu68
              have lk70 : ((u68).1 71 2).toInt = (t.1 71 2).toInt := congrArg Int32.toInt ((fu68 71 2 rfl).1)
              have lk71 : ((u68).1 71 4).toInt = (t.1 71 4).toInt := congrArg Int32.toInt ((fu68 71 4 rfl).1)
              have lk72 : ((u68).1 71 37).toInt = (t.1 71 37).toInt := congrArg Int32.toInt ((fu68 71 37 rfl).1)
              have hS5 : ((((u68).1 71 5).toInt = 0 ∧ ((u68).1 71 6).toInt = -1 ∧ oqHk g a b = 0 ∧ oqH g (oqA1 g a b) (oqA1 g a b) 1 = 1 ∧ oqK2 g a b T = 0 ∧ 1 ≤ x3.toInt ∧ x3.toInt = oqTv g a b ∧ ((u68).1 71 2).toInt = oqTb g a b ∧ ((u68).1 71 4).toInt = oqTb g a b) ∨ (((u68).1 71 5).toInt ≠ 0 ∧ ((u68).1 71 5).toInt = oqTk g a b T ∧ ((u68).1 71 6).toInt = oqTp g a b T)) := by first | (right; omega) | (rcases iv12 with h7 | h7; (have hcp := (oqNk_cap (g := g) (a := oqA2 g a b) (b := oqA2 g a b) (lo := 1) (h1 := 16) (h2 := min 16 (96 - T)) (by omega)).2.1 (by omega) (by omega); left; omega); (exfalso; omega)) | (rcases iv12 with h7 | h7; (have hcp := (oqNk_cap (g := g) (a := oqA2 g a b) (b := oqA2 g a b) (lo := 1) (h1 := 16) (h2 := min 16 (96 - T)) (by omega)).2.2.2 (by omega) (by omega); have hT2 := oqT_4 (g := g) (a := a) (b := b) (T := T) (oqHk_d (by omega)) (by omega) (by omega); right; omega); (exfalso; omega))
              clear iv12
              refine r_aload_n C (j := 0) (oDec_at oX12_noteTold 74 rfl) rfl rfl ?_
              refine r_pc C 140 rfl ?_
              refine r_getF (k := 40) (b := 100) C oCl12 rfl (by decide) flX12_99 rfl rfl rfl (oDec_at oX12_noteTold 75 rfl) ?_
              refine r_iload_n C (j := 1) (oDec_at oX12_noteTold 76 rfl) rfl rfl ?_
              refine r_iload_n C (j := 2) (oDec_at oX12_noteTold 77 rfl) rfl rfl ?_
              have lk73 : ((u68).1 71 37).toInt = (t.1 71 37).toInt := congrArg Int32.toInt ((fu68 71 37 rfl).1)
              have lk74 : ((u68).1 71 38).toInt = (t.1 71 38).toInt := congrArg Int32.toInt ((fu68 71 38 rfl).1)
              refine r_iast (n := 48) (lo := 0) (hi := 9999) C rfl (by decide) rfl rfl ⟨by omega, by omega⟩ (by decide) rfl rfl rfl rfl ⟨by omega, by omega⟩ (oDec_at oX12_noteTold 78 rfl) ?_
              have hq75 : oLT ((pI u68 100 x1.toNatClampNeg x3)) := oLT_hi (x := x1) (oLT_fr fu68 rfl iv0) (by omega) (by omega)
              have hq76 : oDU ((pI u68 100 x1.toNatClampNeg x3)) := oDU_of (x := x1) (n := x3) (oDT_frb fu68 rfl (by omega) iv1) (by omega) (by omega) (by omega)
              refine r_aload_n C (j := 0) (oDec_at oX12_noteTold 79 rfl) rfl rfl ?_
              refine r_bipush C (oDec_at oX12_noteTold 80 rfl) (v := k59) (by rw [qk59]; rfl) ?_
              refine r_pc C 149 rfl ?_
              have lk77 : (((pI u68 100 x1.toNatClampNeg x3)).1 71 5).toInt = (u68.1 71 5).toInt := congrArg Int32.toInt ((pI_ne (a := 71) (b := 5) (c := 100) _ _ (Or.inl (by decide))))
              have lk78 : (((pI u68 100 x1.toNatClampNeg x3)).1 71 2).toInt = (t.1 71 2).toInt := congrArg Int32.toInt (((pI_ne (a := 71) (b := 2) (c := 100) _ _ (Or.inl (by decide)))).trans ((fu68 71 2 rfl).1))
              have lk79 : (((pI u68 100 x1.toNatClampNeg x3)).1 71 5).toInt = (u68.1 71 5).toInt := congrArg Int32.toInt ((pI_ne (a := 71) (b := 5) (c := 100) _ _ (Or.inl (by decide))))
              have lk80 : (((pI u68 100 x1.toNatClampNeg x3)).1 71 6).toInt = (u68.1 71 6).toInt := congrArg Int32.toInt ((pI_ne (a := 71) (b := 6) (c := 100) _ _ (Or.inl (by decide))))
              have lk81 : (((pI u68 100 x1.toNatClampNeg x3)).1 71 5).toInt = (u68.1 71 5).toInt := congrArg Int32.toInt ((pI_ne (a := 71) (b := 5) (c := 100) _ _ (Or.inl (by decide))))
              have lk82 : (((pI u68 100 x1.toNatClampNeg x3)).1 71 6).toInt = (u68.1 71 6).toInt := congrArg Int32.toInt ((pI_ne (a := 71) (b := 6) (c := 100) _ _ (Or.inl (by decide))))
              refine r_callVv C oCl12 rfl miX12_asksSign mlX12_248 (ct4_X12_asksSign l E ((pI u68 100 x1.toNatClampNeg x3)) k59 (g) (oqTb g a b) (59) (by omega) (oqZ_fr (oFr_oneI (q := 76) (m := 9999) rfl (by rfl)) rfl (oqZ_fr fu68 rfl iv6)) (by omega) (by omega)) (by decide) rfl rfl rfl (Nat.le_of_ble_eq_true rfl) (oDec_at oX12_noteTold 81 rfl) (fun u83 pu83 fu83 => ?_)
              try dsimp only at pu83
              try simp only [lk77, lk78, lk79, lk80, lk81, lk82] at pu83
              obtain ⟨pu83_0, pu83_1⟩ := pu83
              have lk85 : ((u83).1 71 4).toInt = (t.1 71 4).toInt := congrArg Int32.toInt (((fu83 71 4 rfl).1).trans (((pI_ne (a := 71) (b := 4) (c := 100) _ _ (Or.inl (by decide)))).trans ((fu68 71 4 rfl).1)))
              have lk86 : ((u83).1 71 37).toInt = (t.1 71 37).toInt := congrArg Int32.toInt (((fu83 71 37 rfl).1).trans (((pI_ne (a := 71) (b := 37) (c := 100) _ _ (Or.inl (by decide)))).trans ((fu68 71 37 rfl).1)))
              have hS6 : ((((u83).1 71 5).toInt = 0 ∧ ((u83).1 71 6).toInt = -1 ∧ oqTk g a b T = 0 ∧ x3.toInt = oqTv g a b ∧ ((u83).1 71 2).toInt = oqTa g a b ∧ ((u83).1 71 4).toInt = oqTb g a b) ∨ (((u83).1 71 5).toInt ≠ 0 ∧ ((u83).1 71 5).toInt = oqTk g a b T ∧ ((u83).1 71 6).toInt = oqTp g a b T)) := by (rcases hS5 with h7 | h7 <;> by_cases h9 : ((u83).1 71 5).toInt = 0; (have h8 := pu83_0 h9; have hT2 := oqT_0 (g := g) (a := a) (b := b) (T := T) (oqHk_d (by omega)) (by omega) (by omega) (by omega); left; omega); (have h8 := pu83_1 h9; have hT2 := oqT_5 (g := g) (a := a) (b := b) (T := T) (oqHk_d (by omega)) (by omega) (by omega) (by omega); right; omega); (have h8 := pu83_0 h9; exfalso; omega); (have h8 := pu83_1 h9; right; omega))
              have hmono : ((u83).1 71 5).toInt = 0 → (((pI u68 100 x1.toNatClampNeg x3)).1 71 5).toInt = 0 := by intro h9; have h8 := pu83_0 h9; omega
              clear hS5 pu83_0 pu83_1
              refine r_aload_n C (j := 0) (oDec_at oX12_noteTold 82 rfl) rfl rfl ?_
              refine r_dup C (oDec_at oX12_noteTold 83 rfl) rfl ?_
              obtain ⟨v87, ev87⟩ : ∃ z : Int32, (u83).1 71 37 = z := ⟨_, rfl⟩
              have gv87 : (t.1 71 37).toInt = v87.toInt := congrArg Int32.toInt ((((fu83 71 37 rfl).1).trans (((pI_ne (a := 71) (b := 37) (c := 100) _ _ (Or.inl (by decide)))).trans ((fu68 71 37 rfl).1))).symm.trans ev87)
              have ggv87 : ((u83).1 71 37).toInt = v87.toInt := congrArg Int32.toInt ev87
              refine r_geti (k := 37) (lo := 0) (hi := 60) C v87 oCl12 rfl (by decide) flX12_231 rfl rfl (ev87) rfl rfl (oDec_at oX12_noteTold 84 rfl) (fun b88 b88h => ?_)
              refine r_iconst C (oDec_at oX12_noteTold 85 rfl) (v := k1) (by rw [qk1]; rfl) ?_
              obtain ⟨v89, ev89⟩ : ∃ z : Int32, z = v87 + k1 := ⟨_, rfl⟩
              have hv89 : v89.toInt = v87.toInt + k1.toInt := n_add ev89 (by omega) (by omega)
              refine r_iadd C v89 (oDec_at oX12_noteTold 86 rfl) ev89 ?_
              refine r_pc C 159 rfl ?_
              have lk90 : ((u83).1 71 37).toInt = v87.toInt := congrArg Int32.toInt (ev87)
              refine r_puti (k := 37) (lo := 0) (hi := 60) C oCl12 rfl (by decide) flX12_231 rfl rfl rfl rfl rfl rfl rfl rfl ⟨by omega, by omega⟩ (oDec_at oX12_noteTold 87 rfl) ?_
              have hq91 : oDT ((pI u83 71 37 v89)) := oDT_of (z := v89) (oDU_frb fu83 rfl (by omega) hq76) (by omega) (by omega)
              have lk92 : (((pI u83 71 37 v89)).1 71 37).toInt = v89.toInt := congrArg Int32.toInt ((pI_self _ _ _ _))
              have lk93 : (((pI u83 71 37 v89)).1 71 5).toInt = (u83.1 71 5).toInt := congrArg Int32.toInt ((pI_ne (a := 71) (b := 5) (c := 71) (k := 37) _ _ (Or.inr (by decide))))
              have lk94 : (((pI u83 71 37 v89)).1 71 37).toInt = v89.toInt := congrArg Int32.toInt ((pI_self _ _ _ _))
              have lk95 : (((pI u83 71 37 v89)).1 71 37).toInt = v89.toInt := congrArg Int32.toInt ((pI_self _ _ _ _))
              have lk96 : (((pI u83 71 37 v89)).1 71 5).toInt = (u83.1 71 5).toInt := congrArg Int32.toInt ((pI_ne (a := 71) (b := 5) (c := 71) (k := 37) _ _ (Or.inr (by decide))))
              have lk97 : (((pI u83 71 37 v89)).1 71 6).toInt = (u83.1 71 6).toInt := congrArg Int32.toInt ((pI_ne (a := 71) (b := 6) (c := 71) (k := 37) _ _ (Or.inr (by decide))))
              have lk98 : (((pI u83 71 37 v89)).1 71 5).toInt = (u83.1 71 5).toInt := congrArg Int32.toInt ((pI_ne (a := 71) (b := 5) (c := 71) (k := 37) _ _ (Or.inr (by decide))))
              have lk99 : (((pI u83 71 37 v89)).1 71 2).toInt = (u83.1 71 2).toInt := congrArg Int32.toInt ((pI_ne (a := 71) (b := 2) (c := 71) (k := 37) _ _ (Or.inr (by decide))))
              have lk100 : (((pI u83 71 37 v89)).1 71 4).toInt = (t.1 71 4).toInt := congrArg Int32.toInt (((pI_ne (a := 71) (b := 4) (c := 71) (k := 37) _ _ (Or.inr (by decide)))).trans (((fu83 71 4 rfl).1).trans (((pI_ne (a := 71) (b := 4) (c := 100) _ _ (Or.inl (by decide)))).trans ((fu68 71 4 rfl).1))))
              have lk101 : (((pI u83 71 37 v89)).1 71 6).toInt = (u83.1 71 6).toInt := congrArg Int32.toInt ((pI_ne (a := 71) (b := 6) (c := 71) (k := 37) _ _ (Or.inr (by decide))))
              have lk102 : (((pI u83 71 37 v89)).1 71 5).toInt = (u83.1 71 5).toInt := congrArg Int32.toInt ((pI_ne (a := 71) (b := 5) (c := 71) (k := 37) _ _ (Or.inr (by decide))))
              have lk103 : (((pI u83 71 37 v89)).1 71 6).toInt = (u83.1 71 6).toInt := congrArg Int32.toInt ((pI_ne (a := 71) (b := 6) (c := 71) (k := 37) _ _ (Or.inr (by decide))))
              exact r_vret C (oDec_at oX12_noteTold 88 rfl) ⟨rfl, ⟨(oLT_fr (oFr_oneI (q := 12) (m := 37) rfl (by rfl)) rfl (oLT_fr fu83 rfl hq75)), by omega, hq91, by omega, by omega, by omega, by omega, by omega, fun h9 => oqTS_nx (oqTS_fr fu68 rfl iv11) (by omega) (by omega) fu83 rfl (by omega) (by omega)⟩⟩
        · skip
          refine r_iload C (j := 3) (oDec_at oX12_noteTold 54 rfl) rfl ?_
          refine r_aload_n C (j := 0) (oDec_at oX12_noteTold 55 rfl) rfl rfl ?_
          refine r_getF (k := 40) (b := 100) C oCl12 rfl (by decide) flX12_99 rfl rfl rfl (oDec_at oX12_noteTold 56 rfl) ?_
          refine r_iload C (j := 4) (oDec_at oX12_noteTold 57 rfl) rfl ?_
          obtain ⟨v105, ev105⟩ : ∃ z : Int32, (t).1 100 x5.toNatClampNeg = z := ⟨_, rfl⟩
          have gv105 : (t.1 100 x5.toNatClampNeg).toInt = v105.toInt := congrArg Int32.toInt (ev105)
          refine r_iald (n := 48) (lo := 0) (hi := 9999) C v105 rfl (by decide) rfl rfl ⟨by omega, by omega⟩ (by decide) ev105 rfl rfl (oDec_at oX12_noteTold 58 rfl) (fun b104 b104h => ?_)
          obtain ⟨v106, ev106⟩ : ∃ z : Int32, z = x4 + v105 := ⟨_, rfl⟩
          have hv106 : v106.toInt = x4.toInt + v105.toInt := n_add ev106 (by omega) (by omega)
          refine r_iadd C v106 (oDec_at oX12_noteTold 59 rfl) ev106 ?_
          refine r_pc C 108 rfl ?_
          refine r_istore C (lv' := [(0, .ref (oad E 71)), (1, .int x1), (3, .int x3), (4, .int v106), (5, .int x5)]) [1, 2, 3, 0, 4] (oDec_at oX12_noteTold 60 rfl) (by decide) rfl ?_
          obtain ⟨v107, ev107⟩ : ∃ z : Int32, x5 + Int32.ofInt 1 = z := ⟨_, rfl⟩
          have hv107 : v107.toInt = x5.toInt + 1 := n_inc ev107 (by decide) (by omega) (by omega)
          refine r_iinc C (j := 4) (lv' := [(0, .ref (oad E 71)), (1, .int x1), (3, .int x3), (4, .int v106), (5, .int v107)]) v107 [1, 2, 3, 4, 0] (oDec_at oX12_noteTold 61 rfl) rfl ev107 (by decide) rfl ?_
          refine r_goto C (tgt := 92) (oDec_at oX12_noteTold 62 rfl) (by decide) ?_
          exact (ih (n - 1) (by omega)) (t) x1 x3 v106 v107  iv0 iv1 (by omega) (by omega) (by omega) (by omega) iv6 (by first | (have e2 := oSd_succ (f := t.1 100) (x := x5) (y := v107) (by omega) (by omega); rw [e2]; omega) | (have e0 := oSd_at0 (f := fun j => (t).1 100 (24 + j)) (x := v107) (by omega); rw [e0]; omega)) (by omega) (by omega) iv10 iv11 (by first | exact iv12 | omega) (by omega)
  refine r_aload_n C (j := 0) (oDec_at oX12_noteTold 0 rfl) rfl rfl ?_
  obtain ⟨v108, ev108⟩ : ∃ z : Int32, (s).1 71 37 = z := ⟨_, rfl⟩
  have gv108 : (s.1 71 37).toInt = v108.toInt := congrArg Int32.toInt (ev108)
  refine r_geti (k := 37) (lo := 0) (hi := 60) C v108 oCl12 rfl (by decide) flX12_231 rfl rfl (ev108) rfl rfl (oDec_at oX12_noteTold 1 rfl) (fun b109 b109h => ?_)
  refine r_bipush C (oDec_at oX12_noteTold 2 rfl) (v := k24) (by rw [qk24]; rfl) ?_
  refine r_icmp_ne C 19 (oDec_at oX12_noteTold 3 rfl) (by decide) (fun cd110 => ?_) (fun cd110 => ?_)
  · skip
    refine r_bipush C (oDec_at oX12_noteTold 10 rfl) (v := k24) (by rw [qk24]; rfl) ?_
    refine r_aload_n C (j := 0) (oDec_at oX12_noteTold 11 rfl) rfl rfl ?_
    refine r_geti (k := 37) (lo := 0) (hi := 60) C v108 oCl12 rfl (by decide) flX12_231 rfl rfl (ev108) rfl rfl (oDec_at oX12_noteTold 12 rfl) (fun _ _ => ?_)
    obtain ⟨v111, ev111⟩ : ∃ z : Int32, z = k24 + v108 := ⟨_, rfl⟩
    have hv111 : v111.toInt = k24.toInt + v108.toInt := n_add ev111 (by omega) (by omega)
    refine r_iadd C v111 (oDec_at oX12_noteTold 13 rfl) ev111 ?_
    refine r_istore_n C (lv' := [(0, .ref (oad E 71)), (1, .int v111)]) [1, 0] (oDec_at oX12_noteTold 14 rfl) rfl (by decide) rfl ?_
    refine r_aload_n C (j := 0) (oDec_at oX12_noteTold 15 rfl) rfl rfl ?_
    refine r_pc C 28 rfl ?_
    refine r_aload_n C (j := 0) (oDec_at oX12_noteTold 16 rfl) rfl rfl ?_
    refine r_getF (k := 12) (b := 75) C oCl12 rfl (by decide) flX12_24 rfl rfl rfl (oDec_at oX12_noteTold 17 rfl) ?_
    refine r_callVi C oCl12 rfl miX12_takes mlX12_200 (ct4_X12_takes l E (s) 75 51 4 rfl (by decide) (by decide) rfl rfl (g) (a) (b) (2) (by omega) (by omega) hp5 (by omega) (by omega) rfl (oqWd_at hp6 2 (by decide)) (by omega)) (by decide) rfl rfl rfl (Nat.le_of_ble_eq_true rfl) (oDec_at oX12_noteTold 18 rfl) (fun r113 u112 pu112 fu112 => ?_)
    try dsimp only at pu112
    obtain ⟨pu112_0, pu112_1, pu112_2, pu112_3⟩ := pu112
    have rr113 := n_rng r113
    refine r_istore_n C (lv' := [(0, .ref (oad E 71)), (1, .int v111), (2, .int r113)]) [1, 2, 0] (oDec_at oX12_noteTold 19 rfl) rfl (by decide) rfl ?_
    refine r_iload_n C (j := 2) (oDec_at oX12_noteTold 20 rfl) rfl rfl ?_
    refine r_if_ne C 48 (oDec_at oX12_noteTold 21 rfl) (by decide) (fun cd114 => ?_) (fun cd114 => ?_)
    · skip
      replace pu112_1 := pu112_1 (by omega)
      clear pu112_2
      refine r_aload_n C (j := 0) (oDec_at oX12_noteTold 26 rfl) rfl rfl ?_
      refine r_getF (k := 39) (b := 99) C oCl12 rfl (by decide) flX12_96 rfl rfl rfl (oDec_at oX12_noteTold 27 rfl) ?_
      refine r_iload_n C (j := 1) (oDec_at oX12_noteTold 28 rfl) rfl rfl ?_
      refine r_iload_n C (j := 2) (oDec_at oX12_noteTold 29 rfl) rfl rfl ?_
      refine r_if_eq C 61 (oDec_at oX12_noteTold 30 rfl) (by decide) (fun cd115 => ?_) (fun cd115 => ?_)
      · omega
      · skip
        have lk116 : ((u112).1 71 5).toInt = (s.1 71 5).toInt := congrArg Int32.toInt ((fu112 71 5 rfl).1)
        have lk117 : ((u112).1 71 6).toInt = (s.1 71 6).toInt := congrArg Int32.toInt ((fu112 71 6 rfl).1)
        have lk118 : ((u112).1 71 37).toInt = v108.toInt := congrArg Int32.toInt (((fu112 71 37 rfl).1).trans (ev108))
        have hx0 := oqH_ex (g := g) (a := a) (b := b) (i := 2) (k := 0) (by decide) (by decide) (by decide) (by omega)
        have hR0 := oqHk_r hx0 (by omega)
        have hR1 := oqA1_r hx0
        have hS2 : ((((u112).1 71 5).toInt = 0 ∧ ((u112).1 71 6).toInt = -1 ∧ oqHk g a b = 0 ∧ ((u112).1 71 2).toInt = oqA1 g a b ∧ ((u112).1 71 4).toInt = oqA1 g a b) ∨ (((u112).1 71 5).toInt ≠ 0 ∧ ((u112).1 71 5).toInt = oqTk g a b T ∧ ((u112).1 71 6).toInt = oqTp g a b T)) := by left; omega
        refine r_iconst C (oDec_at oX12_noteTold 31 rfl) (v := km1) (by rw [qkm1]; rfl) ?_
        refine r_goto C (tgt := 68) (oDec_at oX12_noteTold 32 rfl) (by decide) ?_
        have lk119 : ((u112).1 71 5).toInt = (s.1 71 5).toInt := congrArg Int32.toInt ((fu112 71 5 rfl).1)
        have lk120 : ((u112).1 71 6).toInt = (s.1 71 6).toInt := congrArg Int32.toInt ((fu112 71 6 rfl).1)
        have lk121 : ((u112).1 71 37).toInt = v108.toInt := congrArg Int32.toInt (((fu112 71 37 rfl).1).trans (ev108))
        have hS2b : ((((u112).1 71 5).toInt = 0 ∧ ((u112).1 71 6).toInt = -1 ∧ oqHk g a b = 0 ∧ ((u112).1 71 2).toInt = oqA1 g a b ∧ ((u112).1 71 4).toInt = oqA1 g a b) ∨ (((u112).1 71 5).toInt ≠ 0 ∧ ((u112).1 71 5).toInt = oqTk g a b T ∧ ((u112).1 71 6).toInt = oqTp g a b T)) := by first | exact hS2 | (rcases hS1 with h7 | h7 <;> by_cases h9 : ((u112).1 71 5).toInt = 0; (have h8 := pu112_1 h9; have h6 := oqHk_s (g := g) (a := a) (b := b) (by omega); have h5 := oqA1_s (g := g) (a := a) (b := b) (by omega); left; omega); (have h8 := pu112_2 h9; have hT2 := oqT_1 (g := g) (a := a) (b := b) (T := T) (by omega) (by omega); right; omega); (have h8 := pu112_1 h9; exfalso; omega); (have h8 := pu112_2 h9; right; omega))
        try (have hm68 : ((u112).1 71 5).toInt = 0 → ((s).1 71 5).toInt = 0 := by intro h9; have h8 := pu112_1 h9; omega)
        try clear hS1
        try clear hS2
        try clear pu112_1
        try clear pu112_2
        refine r_iast (n := 48) (lo := (-2147483648)) (hi := 2147483647) C rfl (by decide) rfl rfl ⟨by omega, by omega⟩ (by decide) rfl rfl rfl rfl (n_rng _) (oDec_at oX12_noteTold 37 rfl) ?_
        refine r_aload_n C (j := 0) (oDec_at oX12_noteTold 38 rfl) rfl rfl ?_
        refine r_aload_n C (j := 0) (oDec_at oX12_noteTold 39 rfl) rfl rfl ?_
        refine r_getF (k := 11) (b := 74) C oCl12 rfl (by decide) flX12_21 rfl rfl rfl (oDec_at oX12_noteTold 40 rfl) ?_
        have lk122 : (((pI u112 99 v111.toNatClampNeg km1)).1 71 5).toInt = (s.1 71 5).toInt := congrArg Int32.toInt (((pI_ne (a := 71) (b := 5) (c := 99) _ _ (Or.inl (by decide)))).trans ((fu112 71 5 rfl).1))
        have lk123 : (((pI u112 99 v111.toNatClampNeg km1)).1 71 2).toInt = (u112.1 71 2).toInt := congrArg Int32.toInt ((pI_ne (a := 71) (b := 2) (c := 99) _ _ (Or.inl (by decide))))
        have lk124 : (((pI u112 99 v111.toNatClampNeg km1)).1 71 4).toInt = (u112.1 71 4).toInt := congrArg Int32.toInt ((pI_ne (a := 71) (b := 4) (c := 99) _ _ (Or.inl (by decide))))
        have lk125 : (((pI u112 99 v111.toNatClampNeg km1)).1 71 5).toInt = (s.1 71 5).toInt := congrArg Int32.toInt (((pI_ne (a := 71) (b := 5) (c := 99) _ _ (Or.inl (by decide)))).trans ((fu112 71 5 rfl).1))
        have lk126 : (((pI u112 99 v111.toNatClampNeg km1)).1 71 6).toInt = (s.1 71 6).toInt := congrArg Int32.toInt (((pI_ne (a := 71) (b := 6) (c := 99) _ _ (Or.inl (by decide)))).trans ((fu112 71 6 rfl).1))
        have lk127 : (((pI u112 99 v111.toNatClampNeg km1)).1 71 5).toInt = (s.1 71 5).toInt := congrArg Int32.toInt (((pI_ne (a := 71) (b := 5) (c := 99) _ _ (Or.inl (by decide)))).trans ((fu112 71 5 rfl).1))
        have lk128 : (((pI u112 99 v111.toNatClampNeg km1)).1 71 6).toInt = (s.1 71 6).toInt := congrArg Int32.toInt (((pI_ne (a := 71) (b := 6) (c := 99) _ _ (Or.inl (by decide)))).trans ((fu112 71 6 rfl).1))
        refine r_callVv C oCl12 rfl miX12_asks mlX12_240 (ct4_X12_asks l E ((pI u112 99 v111.toNatClampNeg km1)) 74 50 3 rfl (by decide) (by decide) rfl rfl (g) (oqA1 g a b) (oqA1 g a b) (1) (by omega) (oqZ_fr (oFr_oneI (q := 75) (m := 9999) rfl (by rfl)) rfl (oqZ_fr fu112 rfl hp5)) (by omega) rfl (oqWd_at (oqWd_fr (oFr_oneI (q := 75) (m := 9999) rfl (by rfl)) rfl (oqWd_fr fu112 rfl hp6)) 1 (by decide)) (by omega)) (by decide) rfl rfl rfl (Nat.le_of_ble_eq_true rfl) (oDec_at oX12_noteTold 41 rfl) (fun u129 pu129 fu129 => ?_)
        try dsimp only at pu129
        try simp only [lk122, lk123, lk124, lk125, lk126, lk127, lk128] at pu129
        obtain ⟨pu129_0, pu129_1⟩ := pu129
        refine r_pc C 77 rfl ?_
        have lk131 : ((u129).1 71 37).toInt = v108.toInt := congrArg Int32.toInt (((fu129 71 37 rfl).1).trans (((pI_ne (a := 71) (b := 37) (c := 99) _ _ (Or.inl (by decide)))).trans (((fu112 71 37 rfl).1).trans (ev108))))
        have hS3 : ((((u129).1 71 5).toInt = 0 ∧ ((u129).1 71 6).toInt = -1 ∧ oqHk g a b = 0 ∧ oqH g (oqA1 g a b) (oqA1 g a b) 1 = 1 ∧ ((u129).1 71 2).toInt = oqA2 g a b ∧ ((u129).1 71 4).toInt = oqA2 g a b) ∨ (((u129).1 71 5).toInt ≠ 0 ∧ ((u129).1 71 5).toInt = oqTk g a b T ∧ ((u129).1 71 6).toInt = oqTp g a b T)) := by (rcases hS2b with h7 | h7 <;> by_cases h9 : ((u129).1 71 5).toInt = 0; (have h8 := pu129_0 h9; have h6 := 0; left; omega); (have h8 := pu129_1 h9; have hT2 := oqT_3 (g := g) (a := a) (b := b) (T := T) (oqHk_d (by omega)) (by omega); right; omega); (have h8 := pu129_0 h9; exfalso; omega); (have h8 := pu129_1 h9; right; omega))
        have hm77 : ((u129).1 71 5).toInt = 0 → (((pI u112 99 v111.toNatClampNeg km1)).1 71 5).toInt = 0 := by intro h9; have h8 := pu129_0 h9; omega
        clear hS2b pu129_0 pu129_1
        refine r_aload_n C (j := 0) (oDec_at oX12_noteTold 42 rfl) rfl rfl ?_
        refine r_iconst C (oDec_at oX12_noteTold 43 rfl) (v := k1) (by rw [qk1]; rfl) ?_
        refine r_bipush C (oDec_at oX12_noteTold 44 rfl) (v := k16) (by rw [qk16]; rfl) ?_
        refine r_callVi C oCl12 rfl miX12_number mlX12_244 (ct4_X12_number l E (u129) k1 k16 (g) (oqA2 g a b) (oqA2 g a b) (1) (16) (by omega) (oqZ_fr fu129 rfl (oqZ_fr (oFr_oneI (q := 75) (m := 9999) rfl (by rfl)) rfl (oqZ_fr fu112 rfl hp5))) (by omega) (by omega)) (by decide) rfl rfl rfl (Nat.le_of_ble_eq_true rfl) (oDec_at oX12_noteTold 45 rfl) (fun r133 u132 pu132 fu132 => ?_)
        try dsimp only at pu132
        obtain ⟨pu132_0, pu132_1, pu132_2⟩ := pu132
        have rr133 := n_rng r133
        have lk134 : ((u132).1 71 37).toInt = v108.toInt := congrArg Int32.toInt (((fu132 71 37 rfl).1).trans (((fu129 71 37 rfl).1).trans (((pI_ne (a := 71) (b := 37) (c := 99) _ _ (Or.inl (by decide)))).trans (((fu112 71 37 rfl).1).trans (ev108)))))
        have hS4 : ((((u132).1 71 5).toInt = 0 ∧ ((u132).1 71 6).toInt = -1 ∧ oqHk g a b = 0 ∧ oqH g (oqA1 g a b) (oqA1 g a b) 1 = 1 ∧ oqNk g (oqA2 g a b) (oqA2 g a b) 1 16 = 0 ∧ r133.toInt = oqNv g (oqA2 g a b) ∧ 1 ≤ r133.toInt ∧ r133.toInt ≤ 16 ∧ ((u132).1 71 2).toInt = oqTb g a b ∧ ((u132).1 71 4).toInt = oqTb g a b ∧ ((u132).1 71 9).toInt = oqSk g (oqA2 g a b)) ∨ (((u132).1 71 5).toInt ≠ 0 ∧ ((u132).1 71 5).toInt = oqTk g a b T ∧ ((u132).1 71 6).toInt = oqTp g a b T)) := by (rcases hS3 with h7 | h7 <;> by_cases h9 : ((u132).1 71 5).toInt = 0; (have h8 := pu132_1 h9; have h6 := 0; left; omega); (have h8 := pu132_2 h9; have hcp := (oqNk_cap (g := g) (a := oqA2 g a b) (b := oqA2 g a b) (lo := 1) (h1 := 16) (h2 := min 16 (96 - T)) (by omega)).2.2.1 (by omega); have hT2 := oqT_4 (g := g) (a := a) (b := b) (T := T) (oqHk_d (by omega)) (by omega) (by omega); right; omega); (have h8 := pu132_1 h9; exfalso; omega); (have h8 := pu132_2 h9; right; omega))
        have hm84 : ((u132).1 71 5).toInt = 0 → ((u129).1 71 5).toInt = 0 := by intro h9; have h8 := pu132_1 h9; omega
        clear hS3 pu132_1 pu132_2
        refine r_istore_n C (lv' := [(0, .ref (oad E 71)), (1, .int v111), (2, .int r113), (3, .int r133)]) [1, 2, 3, 0] (oDec_at oX12_noteTold 46 rfl) rfl (by decide) rfl ?_
        refine r_iload_n C (j := 3) (oDec_at oX12_noteTold 47 rfl) rfl rfl ?_
        refine r_pc C 86 rfl ?_
        refine r_istore C (lv' := [(0, .ref (oad E 71)), (1, .int v111), (2, .int r113), (3, .int r133), (4, .int r133)]) [1, 2, 3, 4, 0] (oDec_at oX12_noteTold 48 rfl) (by decide) rfl ?_
        refine r_bipush C (oDec_at oX12_noteTold 49 rfl) (v := k24) (by rw [qk24]; rfl) ?_
        refine r_istore C (lv' := [(0, .ref (oad E 71)), (1, .int v111), (2, .int r113), (3, .int r133), (4, .int r133), (5, .int k24)]) [1, 2, 3, 4, 5, 0] (oDec_at oX12_noteTold 50 rfl) (by decide) rfl ?_
        have lk135 : ((u132).1 71 37).toInt = v108.toInt := congrArg Int32.toInt (((fu132 71 37 rfl).1).trans (((fu129 71 37 rfl).1).trans (((pI_ne (a := 71) (b := 37) (c := 99) _ _ (Or.inl (by decide)))).trans (((fu112 71 37 rfl).1).trans (ev108)))))
        have lk136 : ((u132).1 71 37).toInt = v108.toInt := congrArg Int32.toInt (((fu132 71 37 rfl).1).trans (((fu129 71 37 rfl).1).trans (((pI_ne (a := 71) (b := 37) (c := 99) _ _ (Or.inl (by decide)))).trans (((fu112 71 37 rfl).1).trans (ev108)))))
        have lk137 : ((u132).1 71 38).toInt = (s.1 71 38).toInt := congrArg Int32.toInt (((fu132 71 38 rfl).1).trans (((fu129 71 38 rfl).1).trans (((pI_ne (a := 71) (b := 38) (c := 99) _ _ (Or.inl (by decide)))).trans ((fu112 71 38 rfl).1))))
        refine r_pick C [0, 1, 3, 4, 5] rfl ?_
        exact (key (50 - k24.toInt).toNat) (u132) v111 r133 r133 k24  (oLT_fr fu132 rfl (oLT_fr fu129 rfl (oLT_fr (oFr_oneI (q := 75) (m := 9999) rfl (by rfl)) rfl (oLT_fr fu112 rfl hp0)))) (oDT_frb fu132 rfl (by omega) (oDT_frb fu129 rfl (by omega) (oDT_fr (oFr_oneI (q := 75) (m := 9999) rfl (by rfl)) rfl (oDT_fr fu112 rfl hp2)))) (by omega) (by omega) (by omega) (by omega) (oqZ_fr fu132 rfl (oqZ_fr fu129 rfl (oqZ_fr (oFr_oneI (q := 75) (m := 9999) rfl (by rfl)) rfl (oqZ_fr fu112 rfl hp5)))) (by first | (have e0 := oSd_at0 (f := fun j => (u132).1 100 (24 + j)) (x := k24) (by omega); rw [e0]; omega)) (by omega) (by omega) (oqWd_fr fu132 rfl (oqWd_fr fu129 rfl (oqWd_fr (oFr_oneI (q := 75) (m := 9999) rfl (by rfl)) rfl (oqWd_fr fu112 rfl hp6)))) (oqTS_fr fu132 rfl (oqTS_fr fu129 rfl (oqTS_fr (oFr_oneI (q := 75) (m := 9999) rfl (by rfl)) rfl (oqTS_fr fu112 rfl hp7)))) (by first | omega) (by omega)
    · skip
      clear pu112_1
      replace pu112_2 := pu112_2 (by omega)
      refine r_aload_n C (j := 0) (oDec_at oX12_noteTold 22 rfl) rfl rfl ?_
      refine r_aload_n C (j := 0) (oDec_at oX12_noteTold 23 rfl) rfl rfl ?_
      refine r_getF (k := 10) (b := 73) C oCl12 rfl (by decide) flX12_17 rfl rfl rfl (oDec_at oX12_noteTold 24 rfl) ?_
      have lk138 : ((u112).1 71 5).toInt = (s.1 71 5).toInt := congrArg Int32.toInt ((fu112 71 5 rfl).1)
      have lk139 : ((u112).1 71 5).toInt = (s.1 71 5).toInt := congrArg Int32.toInt ((fu112 71 5 rfl).1)
      have lk140 : ((u112).1 71 6).toInt = (s.1 71 6).toInt := congrArg Int32.toInt ((fu112 71 6 rfl).1)
      have lk141 : ((u112).1 71 5).toInt = (s.1 71 5).toInt := congrArg Int32.toInt ((fu112 71 5 rfl).1)
      have lk142 : ((u112).1 71 6).toInt = (s.1 71 6).toInt := congrArg Int32.toInt ((fu112 71 6 rfl).1)
      refine r_callVv C oCl12 rfl miX12_asks mlX12_240 (ct4_X12_asks l E (u112) 73 49 4 rfl (by decide) (by decide) rfl rfl (g) (oqSk g a) (b) (0) (by omega) (oqZ_fr fu112 rfl hp5) (by omega) rfl (oqWd_at (oqWd_fr fu112 rfl hp6) 0 (by decide)) (by omega)) (by decide) rfl rfl rfl (Nat.le_of_ble_eq_true rfl) (oDec_at oX12_noteTold 25 rfl) (fun u143 pu143 fu143 => ?_)
      try dsimp only at pu143
      try simp only [lk138, lk139, lk140, lk141, lk142] at pu143
      obtain ⟨pu143_0, pu143_1⟩ := pu143
      refine r_aload_n C (j := 0) (oDec_at oX12_noteTold 26 rfl) rfl rfl ?_
      refine r_getF (k := 39) (b := 99) C oCl12 rfl (by decide) flX12_96 rfl rfl rfl (oDec_at oX12_noteTold 27 rfl) ?_
      refine r_pc C 52 rfl ?_
      refine r_iload_n C (j := 1) (oDec_at oX12_noteTold 28 rfl) rfl rfl ?_
      refine r_iload_n C (j := 2) (oDec_at oX12_noteTold 29 rfl) rfl rfl ?_
      refine r_if_eq C 61 (oDec_at oX12_noteTold 30 rfl) (by decide) (fun cd145 => ?_) (fun cd145 => ?_)
      · skip
        have lk146 : ((u143).1 71 37).toInt = v108.toInt := congrArg Int32.toInt (((fu143 71 37 rfl).1).trans (((fu112 71 37 rfl).1).trans (ev108)))
        have hS1 : ((((u143).1 71 5).toInt = 0 ∧ ((u143).1 71 6).toInt = -1 ∧ oqH g a b 0 = 1 ∧ ((u143).1 71 2).toInt = oqHa g a 0 ∧ ((u143).1 71 4).toInt = oqHa g a 0) ∨ (((u143).1 71 5).toInt ≠ 0 ∧ ((u143).1 71 5).toInt = oqTk g a b T ∧ ((u143).1 71 6).toInt = oqTp g a b T)) := by (by_cases h9 : ((u143).1 71 5).toInt = 0; (have h8 := pu143_0 h9; left; omega); (have h8 := pu143_1 h9; have hT2 := oqT_2 (g := g) (a := a) (b := b) (T := T) (by omega) (by omega); right; omega))
        have hm61 : ((u143).1 71 5).toInt = 0 → ((u112).1 71 5).toInt = 0 := by intro h9; have h8 := pu143_0 h9; omega
        clear pu143_0 pu143_1
        refine r_aload_n C (j := 0) (oDec_at oX12_noteTold 33 rfl) rfl rfl ?_
        refine r_iconst C (oDec_at oX12_noteTold 34 rfl) (v := k0) (by rw [qk0]; rfl) ?_
        refine r_bipush C (oDec_at oX12_noteTold 35 rfl) (v := k28) (by rw [qk28]; rfl) ?_
        refine r_callVi C oCl12 rfl miX12_number mlX12_244 (ct4_X12_number l E (u143) k0 k28 (g) (oqHa g a 0) (oqHa g a 0) (0) (28) (by omega) (oqZ_fr fu143 rfl (oqZ_fr fu112 rfl hp5)) (by omega) (by omega)) (by decide) rfl rfl rfl (Nat.le_of_ble_eq_true rfl) (oDec_at oX12_noteTold 36 rfl) (fun r148 u147 pu147 fu147 => ?_)
        try dsimp only at pu147
        obtain ⟨pu147_0, pu147_1, pu147_2⟩ := pu147
        have rr148 := n_rng r148
        have lk149 : ((u147).1 71 37).toInt = v108.toInt := congrArg Int32.toInt (((fu147 71 37 rfl).1).trans (((fu143 71 37 rfl).1).trans (((fu112 71 37 rfl).1).trans (ev108))))
        have hS2b : ((((u147).1 71 5).toInt = 0 ∧ ((u147).1 71 6).toInt = -1 ∧ oqHk g a b = 0 ∧ ((u147).1 71 2).toInt = oqA1 g a b ∧ ((u147).1 71 4).toInt = oqA1 g a b) ∨ (((u147).1 71 5).toInt ≠ 0 ∧ ((u147).1 71 5).toInt = oqTk g a b T ∧ ((u147).1 71 6).toInt = oqTp g a b T)) := by first | exact hS2 | (rcases hS1 with h7 | h7 <;> by_cases h9 : ((u147).1 71 5).toInt = 0; (have h8 := pu147_1 h9; have h6 := oqHk_s (g := g) (a := a) (b := b) (by omega); have h5 := oqA1_s (g := g) (a := a) (b := b) (by omega); left; omega); (have h8 := pu147_2 h9; have hT2 := oqT_1 (g := g) (a := a) (b := b) (T := T) (by omega) (by omega); right; omega); (have h8 := pu147_1 h9; exfalso; omega); (have h8 := pu147_2 h9; right; omega))
        try (have hm68 : ((u147).1 71 5).toInt = 0 → ((u143).1 71 5).toInt = 0 := by intro h9; have h8 := pu147_1 h9; omega)
        try clear hS1
        try clear hS2
        try clear pu147_1
        try clear pu147_2
        refine r_iast (n := 48) (lo := (-2147483648)) (hi := 2147483647) C rfl (by decide) rfl rfl ⟨by omega, by omega⟩ (by decide) rfl rfl rfl rfl (n_rng _) (oDec_at oX12_noteTold 37 rfl) ?_
        refine r_aload_n C (j := 0) (oDec_at oX12_noteTold 38 rfl) rfl rfl ?_
        refine r_pc C 70 rfl ?_
        refine r_aload_n C (j := 0) (oDec_at oX12_noteTold 39 rfl) rfl rfl ?_
        refine r_getF (k := 11) (b := 74) C oCl12 rfl (by decide) flX12_21 rfl rfl rfl (oDec_at oX12_noteTold 40 rfl) ?_
        have lk150 : (((pI u147 99 v111.toNatClampNeg r148)).1 71 5).toInt = (u147.1 71 5).toInt := congrArg Int32.toInt ((pI_ne (a := 71) (b := 5) (c := 99) _ _ (Or.inl (by decide))))
        have lk151 : (((pI u147 99 v111.toNatClampNeg r148)).1 71 2).toInt = (u147.1 71 2).toInt := congrArg Int32.toInt ((pI_ne (a := 71) (b := 2) (c := 99) _ _ (Or.inl (by decide))))
        have lk152 : (((pI u147 99 v111.toNatClampNeg r148)).1 71 4).toInt = (u147.1 71 4).toInt := congrArg Int32.toInt ((pI_ne (a := 71) (b := 4) (c := 99) _ _ (Or.inl (by decide))))
        have lk153 : (((pI u147 99 v111.toNatClampNeg r148)).1 71 5).toInt = (u147.1 71 5).toInt := congrArg Int32.toInt ((pI_ne (a := 71) (b := 5) (c := 99) _ _ (Or.inl (by decide))))
        have lk154 : (((pI u147 99 v111.toNatClampNeg r148)).1 71 6).toInt = (u147.1 71 6).toInt := congrArg Int32.toInt ((pI_ne (a := 71) (b := 6) (c := 99) _ _ (Or.inl (by decide))))
        have lk155 : (((pI u147 99 v111.toNatClampNeg r148)).1 71 5).toInt = (u147.1 71 5).toInt := congrArg Int32.toInt ((pI_ne (a := 71) (b := 5) (c := 99) _ _ (Or.inl (by decide))))
        have lk156 : (((pI u147 99 v111.toNatClampNeg r148)).1 71 6).toInt = (u147.1 71 6).toInt := congrArg Int32.toInt ((pI_ne (a := 71) (b := 6) (c := 99) _ _ (Or.inl (by decide))))
        refine r_callVv C oCl12 rfl miX12_asks mlX12_240 (ct4_X12_asks l E ((pI u147 99 v111.toNatClampNeg r148)) 74 50 3 rfl (by decide) (by decide) rfl rfl (g) (oqA1 g a b) (oqA1 g a b) (1) (by omega) (oqZ_fr (oFr_oneI (q := 75) (m := 9999) rfl (by rfl)) rfl (oqZ_fr fu147 rfl (oqZ_fr fu143 rfl (oqZ_fr fu112 rfl hp5)))) (by omega) rfl (oqWd_at (oqWd_fr (oFr_oneI (q := 75) (m := 9999) rfl (by rfl)) rfl (oqWd_fr fu147 rfl (oqWd_fr fu143 rfl (oqWd_fr fu112 rfl hp6)))) 1 (by decide)) (by omega)) (by decide) rfl rfl rfl (Nat.le_of_ble_eq_true rfl) (oDec_at oX12_noteTold 41 rfl) (fun u157 pu157 fu157 => ?_)
        try dsimp only at pu157
        try simp only [lk150, lk151, lk152, lk153, lk154, lk155, lk156] at pu157
        obtain ⟨pu157_0, pu157_1⟩ := pu157
        have lk159 : ((u157).1 71 37).toInt = v108.toInt := congrArg Int32.toInt (((fu157 71 37 rfl).1).trans (((pI_ne (a := 71) (b := 37) (c := 99) _ _ (Or.inl (by decide)))).trans (((fu147 71 37 rfl).1).trans (((fu143 71 37 rfl).1).trans (((fu112 71 37 rfl).1).trans (ev108))))))
        have hS3 : ((((u157).1 71 5).toInt = 0 ∧ ((u157).1 71 6).toInt = -1 ∧ oqHk g a b = 0 ∧ oqH g (oqA1 g a b) (oqA1 g a b) 1 = 1 ∧ ((u157).1 71 2).toInt = oqA2 g a b ∧ ((u157).1 71 4).toInt = oqA2 g a b) ∨ (((u157).1 71 5).toInt ≠ 0 ∧ ((u157).1 71 5).toInt = oqTk g a b T ∧ ((u157).1 71 6).toInt = oqTp g a b T)) := by (rcases hS2b with h7 | h7 <;> by_cases h9 : ((u157).1 71 5).toInt = 0; (have h8 := pu157_0 h9; have h6 := 0; left; omega); (have h8 := pu157_1 h9; have hT2 := oqT_3 (g := g) (a := a) (b := b) (T := T) (oqHk_d (by omega)) (by omega); right; omega); (have h8 := pu157_0 h9; exfalso; omega); (have h8 := pu157_1 h9; right; omega))
        have hm77 : ((u157).1 71 5).toInt = 0 → (((pI u147 99 v111.toNatClampNeg r148)).1 71 5).toInt = 0 := by intro h9; have h8 := pu157_0 h9; omega
        clear hS2b pu157_0 pu157_1
        refine r_aload_n C (j := 0) (oDec_at oX12_noteTold 42 rfl) rfl rfl ?_
        refine r_iconst C (oDec_at oX12_noteTold 43 rfl) (v := k1) (by rw [qk1]; rfl) ?_
        refine r_bipush C (oDec_at oX12_noteTold 44 rfl) (v := k16) (by rw [qk16]; rfl) ?_
        refine r_pc C 81 rfl ?_
        refine r_callVi C oCl12 rfl miX12_number mlX12_244 (ct4_X12_number l E (u157) k1 k16 (g) (oqA2 g a b) (oqA2 g a b) (1) (16) (by omega) (oqZ_fr fu157 rfl (oqZ_fr (oFr_oneI (q := 75) (m := 9999) rfl (by rfl)) rfl (oqZ_fr fu147 rfl (oqZ_fr fu143 rfl (oqZ_fr fu112 rfl hp5))))) (by omega) (by omega)) (by decide) rfl rfl rfl (Nat.le_of_ble_eq_true rfl) (oDec_at oX12_noteTold 45 rfl) (fun r161 u160 pu160 fu160 => ?_)
        try dsimp only at pu160
        obtain ⟨pu160_0, pu160_1, pu160_2⟩ := pu160
        have rr161 := n_rng r161
        have lk162 : ((u160).1 71 37).toInt = v108.toInt := congrArg Int32.toInt (((fu160 71 37 rfl).1).trans (((fu157 71 37 rfl).1).trans (((pI_ne (a := 71) (b := 37) (c := 99) _ _ (Or.inl (by decide)))).trans (((fu147 71 37 rfl).1).trans (((fu143 71 37 rfl).1).trans (((fu112 71 37 rfl).1).trans (ev108)))))))
        have hS4 : ((((u160).1 71 5).toInt = 0 ∧ ((u160).1 71 6).toInt = -1 ∧ oqHk g a b = 0 ∧ oqH g (oqA1 g a b) (oqA1 g a b) 1 = 1 ∧ oqNk g (oqA2 g a b) (oqA2 g a b) 1 16 = 0 ∧ r161.toInt = oqNv g (oqA2 g a b) ∧ 1 ≤ r161.toInt ∧ r161.toInt ≤ 16 ∧ ((u160).1 71 2).toInt = oqTb g a b ∧ ((u160).1 71 4).toInt = oqTb g a b ∧ ((u160).1 71 9).toInt = oqSk g (oqA2 g a b)) ∨ (((u160).1 71 5).toInt ≠ 0 ∧ ((u160).1 71 5).toInt = oqTk g a b T ∧ ((u160).1 71 6).toInt = oqTp g a b T)) := by (rcases hS3 with h7 | h7 <;> by_cases h9 : ((u160).1 71 5).toInt = 0; (have h8 := pu160_1 h9; have h6 := 0; left; omega); (have h8 := pu160_2 h9; have hcp := (oqNk_cap (g := g) (a := oqA2 g a b) (b := oqA2 g a b) (lo := 1) (h1 := 16) (h2 := min 16 (96 - T)) (by omega)).2.2.1 (by omega); have hT2 := oqT_4 (g := g) (a := a) (b := b) (T := T) (oqHk_d (by omega)) (by omega) (by omega); right; omega); (have h8 := pu160_1 h9; exfalso; omega); (have h8 := pu160_2 h9; right; omega))
        have hm84 : ((u160).1 71 5).toInt = 0 → ((u157).1 71 5).toInt = 0 := by intro h9; have h8 := pu160_1 h9; omega
        clear hS3 pu160_1 pu160_2
        refine r_istore_n C (lv' := [(0, .ref (oad E 71)), (1, .int v111), (2, .int r113), (3, .int r161)]) [1, 2, 3, 0] (oDec_at oX12_noteTold 46 rfl) rfl (by decide) rfl ?_
        refine r_iload_n C (j := 3) (oDec_at oX12_noteTold 47 rfl) rfl rfl ?_
        refine r_istore C (lv' := [(0, .ref (oad E 71)), (1, .int v111), (2, .int r113), (3, .int r161), (4, .int r161)]) [1, 2, 3, 4, 0] (oDec_at oX12_noteTold 48 rfl) (by decide) rfl ?_
        refine r_bipush C (oDec_at oX12_noteTold 49 rfl) (v := k24) (by rw [qk24]; rfl) ?_
        refine r_istore C (lv' := [(0, .ref (oad E 71)), (1, .int v111), (2, .int r113), (3, .int r161), (4, .int r161), (5, .int k24)]) [1, 2, 3, 4, 5, 0] (oDec_at oX12_noteTold 50 rfl) (by decide) rfl ?_
        have lk163 : ((u160).1 71 37).toInt = v108.toInt := congrArg Int32.toInt (((fu160 71 37 rfl).1).trans (((fu157 71 37 rfl).1).trans (((pI_ne (a := 71) (b := 37) (c := 99) _ _ (Or.inl (by decide)))).trans (((fu147 71 37 rfl).1).trans (((fu143 71 37 rfl).1).trans (((fu112 71 37 rfl).1).trans (ev108)))))))
        have lk164 : ((u160).1 71 37).toInt = v108.toInt := congrArg Int32.toInt (((fu160 71 37 rfl).1).trans (((fu157 71 37 rfl).1).trans (((pI_ne (a := 71) (b := 37) (c := 99) _ _ (Or.inl (by decide)))).trans (((fu147 71 37 rfl).1).trans (((fu143 71 37 rfl).1).trans (((fu112 71 37 rfl).1).trans (ev108)))))))
        have lk165 : ((u160).1 71 38).toInt = (s.1 71 38).toInt := congrArg Int32.toInt (((fu160 71 38 rfl).1).trans (((fu157 71 38 rfl).1).trans (((pI_ne (a := 71) (b := 38) (c := 99) _ _ (Or.inl (by decide)))).trans (((fu147 71 38 rfl).1).trans (((fu143 71 38 rfl).1).trans ((fu112 71 38 rfl).1))))))
        refine r_pick C [0, 1, 3, 4, 5] rfl ?_
        exact (key (50 - k24.toInt).toNat) (u160) v111 r161 r161 k24  (oLT_fr fu160 rfl (oLT_fr fu157 rfl (oLT_fr (oFr_oneI (q := 75) (m := 9999) rfl (by rfl)) rfl (oLT_fr fu147 rfl (oLT_fr fu143 rfl (oLT_fr fu112 rfl hp0)))))) (oDT_frb fu160 rfl (by omega) (oDT_frb fu157 rfl (by omega) (oDT_fr (oFr_oneI (q := 75) (m := 9999) rfl (by rfl)) rfl (oDT_frb fu147 rfl (by omega) (oDT_frb fu143 rfl (by omega) (oDT_fr fu112 rfl hp2)))))) (by omega) (by omega) (by omega) (by omega) (oqZ_fr fu160 rfl (oqZ_fr fu157 rfl (oqZ_fr (oFr_oneI (q := 75) (m := 9999) rfl (by rfl)) rfl (oqZ_fr fu147 rfl (oqZ_fr fu143 rfl (oqZ_fr fu112 rfl hp5)))))) (by first | (have e0 := oSd_at0 (f := fun j => (u160).1 100 (24 + j)) (x := k24) (by omega); rw [e0]; omega)) (by omega) (by omega) (oqWd_fr fu160 rfl (oqWd_fr fu157 rfl (oqWd_fr (oFr_oneI (q := 75) (m := 9999) rfl (by rfl)) rfl (oqWd_fr fu147 rfl (oqWd_fr fu143 rfl (oqWd_fr fu112 rfl hp6)))))) (oqTS_fr fu160 rfl (oqTS_fr fu157 rfl (oqTS_fr (oFr_oneI (q := 75) (m := 9999) rfl (by rfl)) rfl (oqTS_fr fu147 rfl (oqTS_fr fu143 rfl (oqTS_fr fu112 rfl hp7)))))) (by first | omega) (by omega)
      · omega
  · skip
    refine r_aload_n C (j := 0) (oDec_at oX12_noteTold 4 rfl) rfl rfl ?_
    refine r_iconst C (oDec_at oX12_noteTold 5 rfl) (v := k5) (by rw [qk5]; rfl) ?_
    refine r_aload_n C (j := 0) (oDec_at oX12_noteTold 6 rfl) rfl rfl ?_
    obtain ⟨v166, ev166⟩ : ∃ z : Int32, (s).1 71 2 = z := ⟨_, rfl⟩
    have gv166 : (s.1 71 2).toInt = v166.toInt := congrArg Int32.toInt (ev166)
    refine r_geti (k := 2) (lo := 0) (hi := 1600) C v166 oCl12 rfl (by decide) flX12_179 rfl rfl (ev166) rfl rfl (oDec_at oX12_noteTold 7 rfl) (fun b167 b167h => ?_)
    refine r_callVv C oCl12 rfl miX12_fail mlX12_203 (ct4_X12_fail l E (s) k5 v166 ) (by decide) rfl rfl rfl (Nat.le_of_ble_eq_true rfl) (oDec_at oX12_noteTold 8 rfl) (fun u168 pu168 fu168 => ?_)
    try dsimp only at pu168
    obtain ⟨pu168_0, pu168_1⟩ := pu168
    have lk170 : ((u168).1 71 37).toInt = v108.toInt := congrArg Int32.toInt (((fu168 71 37 rfl).1).trans (ev108))
    have lk171 : ((u168).1 71 37).toInt = v108.toInt := congrArg Int32.toInt (((fu168 71 37 rfl).1).trans (ev108))
    have lk172 : ((u168).1 71 37).toInt = v108.toInt := congrArg Int32.toInt (((fu168 71 37 rfl).1).trans (ev108))
    have lk173 : ((u168).1 71 2).toInt = v166.toInt := congrArg Int32.toInt (((fu168 71 2 rfl).1).trans (ev166))
    have lk174 : ((u168).1 71 4).toInt = (s.1 71 4).toInt := congrArg Int32.toInt ((fu168 71 4 rfl).1)
    exact r_vret C (oDec_at oX12_noteTold 9 rfl) ⟨rfl, ⟨(oLT_fr fu168 rfl hp0), by omega, (oDT_frb fu168 rfl (by omega) hp2), by omega, by omega, by omega, by omega, by omega, fun h9 => by exfalso; omega⟩⟩
