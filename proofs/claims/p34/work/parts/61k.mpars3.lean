set_option maxHeartbeats 4000000 in
set_option maxRecDepth 100000 in
theorem ct9_X12_dropsNots (l : Launch) (E : oE) (s : oS)  (g : Int → Int) (fp : Int) (fq : Int) (cz : oqCf) (cw : oqCw) (cs : Nat) (Cq : Nat → Int32) (hp0 : oQ 9999 1 s) (hp1 : 0 ≤ (s.1 71 48).toInt ∧ (s.1 71 48).toInt ≤ 6) (hp2 : (s.1 71 45).toInt + (s.1 71 47).toInt ≤ 1599) (hp3 : oqTt g fp fq cz 2 s) (hp4 : oqTx g fp fq cw cs 2 s) (hp5 : owC0 Cq s) : oMet l 3 yX12_dropsNots cX12_dropsNots 1 none [(12, 45), (12, 47), (12, 48), (78, 9999)] E s [.ref (oad E 71)] (oPv (fun u => (oQ 9999 1 u) ∧ (0 ≤ (u.1 71 48).toInt ∧ (u.1 71 48).toInt ≤ 6) ∧ ((u.1 71 45).toInt + (u.1 71 47).toInt = (s.1 71 45).toInt + (s.1 71 47).toInt) ∧ (oqTt g fp fq cz 2 u) ∧ (oqTN u) ∧ (oqTx g fp fq cw cs 2 u) ∧ (owC0 Cq u))) := by
  refine oMet.of (lv := [(0, .ref (oad E 71))]) (by decide +kernel) (Nat.le_of_ble_eq_true rfl) rfl (fun J C hT => ?_)
  have C : oC l 3 cX12_dropsNots RX12 1 none [(12, 45), (12, 47), (12, 48), (78, 9999)] E s (oPv (fun u => (oQ 9999 1 u) ∧ (0 ≤ (u.1 71 48).toInt ∧ (u.1 71 48).toInt ≤ 6) ∧ ((u.1 71 45).toInt + (u.1 71 47).toInt = (s.1 71 45).toInt + (s.1 71 47).toInt) ∧ (oqTt g fp fq cz 2 u) ∧ (oqTN u) ∧ (oqTx g fp fq cw cs 2 u) ∧ (owC0 Cq u))) J := C
  obtain ⟨k1, qk1⟩ : ∃ z : Int32, z = 1 := ⟨_, rfl⟩
  have ek1 : k1.toInt = 1 := by rw [qk1]; rfl
  obtain ⟨k16, qk16⟩ : ∃ z : Int32, z = 16 := ⟨_, rfl⟩
  have ek16 : k16.toInt = 16 := by rw [qk16]; rfl
  have key : ∀ n : Nat, (∀ (t : oS), (oQ 9999 1 t) → (0 ≤ (t.1 71 48).toInt ∧ (t.1 71 48).toInt ≤ 6) → ((t.1 71 45).toInt + (t.1 71 47).toInt = (s.1 71 45).toInt + (s.1 71 47).toInt) → (oqTt g fp fq cz 2 t) → (oqTx g fp fq cw cs 2 t) → (owC0 Cq t) → (t.1 71 47).toInt + 1 ≤ (n : Int) → J t 0 [(0, .ref (oad E 71))] []) := by
    intro n
    induction n using Nat.strongRecOn with
    | _ n ih =>
      skip
      · intro t   iv0 iv1 iv2 iv3 iv4 iv5 hmu
        refine r_ty C (fun hty => ?_)
        have hty_coded : (0 : Int) ≤ ((t).1 71 45).toInt ∧ ((t).1 71 45).toInt ≤ 1600 := hty.1 71 45
        have hty_waits : (0 : Int) ≤ ((t).1 71 47).toInt ∧ ((t).1 71 47).toInt ≤ 1700 := hty.1 71 47
        clear hty
        refine r_aload_n C (j := 0) (oDec_at oX12_dropsNots 0 rfl) rfl rfl ?_
        obtain ⟨v1, ev1⟩ : ∃ z : Int32, (t).1 71 5 = z := ⟨_, rfl⟩
        have gv1 : (t.1 71 5).toInt = v1.toInt := congrArg Int32.toInt (ev1)
        have rv1 := n_rng v1
        refine r_geti (k := 5) (lo := (-2147483648)) (hi := 2147483647) C v1 oCl12 rfl (by decide) flX12_173 rfl rfl (ev1) rfl rfl (oDec_at oX12_dropsNots 1 rfl) (fun _ _ => ?_)
        refine r_if_ne C 33 (oDec_at oX12_dropsNots 2 rfl) (by decide) (fun cd2 => ?_) (fun cd2 => ?_)
        · skip
          have hq3 : oqTN (t) := fun h9 => by omega
          exact r_vret C (oDec_at oX12_dropsNots 16 rfl) ⟨rfl, ⟨iv0, by omega, by omega, iv3, hq3, iv4, iv5⟩⟩
        · skip
          refine r_aload_n C (j := 0) (oDec_at oX12_dropsNots 3 rfl) rfl rfl ?_
          refine r_bipush C (oDec_at oX12_dropsNots 4 rfl) (v := k16) (by rw [qk16]; rfl) ?_
          refine r_callVi C oCl12 rfl miX12_isOn mlX12_310 (ct_X12_isOn l E (t) k16 ) (by decide) rfl rfl rfl (Nat.le_of_ble_eq_true rfl) (oDec_at oX12_dropsNots 5 rfl) (fun r5 u4 pu4 fu4 => ?_)
          try dsimp only at pu4
          obtain ⟨pu4_0, pu4_1, pu4_2⟩ := pu4
          have hxu4 := oFr_nil fu4; subst hxu4
          have rr5 := n_rng r5
          refine r_if_eq C 33 (oDec_at oX12_dropsNots 6 rfl) (by decide) (fun cd6 => ?_) (fun cd6 => ?_)
          · skip
            clear pu4_1
            replace pu4_2 := pu4_2 (by omega)
            have hq7 : oqTN (t) := fun h9 => by omega
            exact r_vret C (oDec_at oX12_dropsNots 16 rfl) ⟨rfl, ⟨iv0, by omega, by omega, iv3, hq7, iv4, iv5⟩⟩
          · skip
            replace pu4_1 := pu4_1 (by omega)
            clear pu4_2
            have ho1 := oQ_opn1 iv0 (by omega) (by omega) (by omega)
            refine r_aload_n C (j := 0) (oDec_at oX12_dropsNots 7 rfl) rfl rfl ?_
            refine r_dup C (oDec_at oX12_dropsNots 8 rfl) rfl ?_
            obtain ⟨v8, ev8⟩ : ∃ z : Int32, (t).1 71 48 = z := ⟨_, rfl⟩
            have gv8 : (t.1 71 48).toInt = v8.toInt := congrArg Int32.toInt (ev8)
            refine r_geti (k := 48) (lo := (-1)) (hi := 7) C v8 oCl12 rfl (by decide) flX12_274 rfl rfl (ev8) rfl rfl (oDec_at oX12_dropsNots 9 rfl) (fun b9 b9h => ?_)
            refine r_iconst C (oDec_at oX12_dropsNots 10 rfl) (v := k1) (by rw [qk1]; rfl) ?_
            obtain ⟨v10, ev10⟩ : ∃ z : Int32, z = v8 - k1 := ⟨_, rfl⟩
            have hv10 : v10.toInt = v8.toInt - k1.toInt := n_sub ev10 (by omega) (by omega)
            refine r_isub C v10 (oDec_at oX12_dropsNots 11 rfl) ev10 ?_
            refine r_puti (k := 48) (lo := (-1)) (hi := 7) C oCl12 rfl (by decide) flX12_274 rfl rfl rfl rfl rfl rfl rfl rfl ⟨by omega, by omega⟩ (oDec_at oX12_dropsNots 12 rfl) ?_
            refine r_pc C 26 rfl ?_
            refine r_aload_n C (j := 0) (oDec_at oX12_dropsNots 13 rfl) rfl rfl ?_
            have lk11 : (((pI t 71 48 v10)).1 71 47).toInt = (t.1 71 47).toInt := congrArg Int32.toInt ((pI_ne (a := 71) (b := 47) (c := 71) (k := 48) _ _ (Or.inr (by decide))))
            have lk12 : (((pI t 71 48 v10)).1 71 45).toInt = (t.1 71 45).toInt := congrArg Int32.toInt ((pI_ne (a := 71) (b := 45) (c := 71) (k := 48) _ _ (Or.inr (by decide))))
            have lk13 : (((pI t 71 48 v10)).1 71 47).toInt = (t.1 71 47).toInt := congrArg Int32.toInt ((pI_ne (a := 71) (b := 47) (c := 71) (k := 48) _ _ (Or.inr (by decide))))
            have lk14 : (((pI t 71 48 v10)).1 71 45).toInt = (t.1 71 45).toInt := congrArg Int32.toInt ((pI_ne (a := 71) (b := 45) (c := 71) (k := 48) _ _ (Or.inr (by decide))))
            refine r_callVv C oCl12 rfl miX12_drops mlX12_289 (ct9_X12_drops l E ((pI t 71 48 v10))  (Cq) (by omega) (by omega) (owC0_fr (oFr_oneI (q := 12) (m := 48) rfl (by rfl)) rfl iv5)) (by decide) rfl rfl rfl (Nat.le_of_ble_eq_true rfl) (oDec_at oX12_dropsNots 14 rfl) (fun u15 pu15 fu15 => ?_)
            try dsimp only at pu15
            try simp only [lk11, lk12, lk13, lk14] at pu15
            obtain ⟨pu15_0, pu15_1, pu15_2, pu15_3⟩ := pu15
            have hq17 : oQ 9999 1 (u15) := oQ_dropN iv0 (by omega) pu15_0 (by omega) (by omega) (by omega) (by omega)
            have hq18 : oqTt g fp fq cz 2 (u15) := oqI_nt iv3 (by omega) (by omega) pu15_0 (by omega) (by omega)
            have hq19 : oqTx g fp fq cw cs 2 (u15) := oqTx_nt iv4 (by omega) (by omega) pu15_0 (by omega) (by omega) (by omega)
            refine r_goto C (tgt := 0) (oDec_at oX12_dropsNots 15 rfl) (by decide) ?_
            have lk20 : ((u15).1 71 48).toInt = v10.toInt := congrArg Int32.toInt (((fu15 71 48 rfl).1).trans ((pI_self _ _ _ _)))
            exact (ih (n - 1) (by omega)) (u15)   hq17 (by omega) (by omega) hq18 hq19 pu15_3 (by omega)
  exact (key (((s).1 71 47).toInt + 1).toNat) (s)   hp0 (by omega) (by omega) hp3 hp4 hp5 (by omega)
set_option maxHeartbeats 4000000 in
set_option maxRecDepth 100000 in
theorem ct9_X12_goesOnTest (l : Launch) (E : oE) (s : oS)  (g : Int → Int) (fp : Int) (fq : Int) (cz : oqCf) (cw : oqCw) (cs : Nat) (Cq : Nat → Int32) (hp0 : oQ 9999 1 s) (hp1 : (s.1 71 5).toInt = 0) (hp2 : 0 ≤ (s.1 71 48).toInt ∧ (s.1 71 48).toInt ≤ 6) (hp3 : (s.1 71 45).toInt + (s.1 71 47).toInt + 5 ≤ (s.1 71 2).toInt) (hp4 : oqTt g fp fq cz 2 s) (hp5 : oqTN s) (hp6 : oqZ g s) (hp7 : oqWd s) (hp8 : oqBP s) (hp9 : oqTx g fp fq cw cs 2 s) (hp10 : owC0 Cq s) : oMet l 4 yX12_goesOnTest cX12_goesOnTest 1 (some .boolean) [(12, 2), (12, 4), (12, 5), (12, 6), (12, 45), (12, 47), (12, 48), (78, 9999), (79, 9999)] E s [.ref (oad E 71)] (oPi (fun r u => (0 ≤ r.toInt ∧ r.toInt ≤ 1) ∧ (r.toInt = 1 → oQ 9999 0 u) ∧ (r.toInt = 0 → (oQ 9999 1 u ∧ oNQ u)) ∧ (0 ≤ (u.1 71 48).toInt ∧ (u.1 71 48).toInt ≤ 6) ∧ ((s.1 71 2).toInt - (s.1 71 45).toInt - (s.1 71 47).toInt ≤ (u.1 71 2).toInt - (u.1 71 45).toInt - (u.1 71 47).toInt) ∧ ((s.1 71 2).toInt ≤ (u.1 71 2).toInt) ∧ (r.toInt = 1 → oqTt g fp fq cz 0 u) ∧ (r.toInt = 0 → (oqTt g fp fq cz 2 u ∧ oqTN u)) ∧ (r.toInt = 0 → oqGw g u) ∧ (oqBP u) ∧ (r.toInt = 1 → oqTx g fp fq cw cs 0 u) ∧ (r.toInt = 0 → oqTx g fp fq cw cs 2 u) ∧ (owC0 Cq u))) := by
  refine oMet.of (lv := [(0, .ref (oad E 71))]) (by decide +kernel) (Nat.le_of_ble_eq_true rfl) rfl (fun J C hT => ?_)
  have C : oC l 4 cX12_goesOnTest RX12 1 (some .boolean) [(12, 2), (12, 4), (12, 5), (12, 6), (12, 45), (12, 47), (12, 48), (78, 9999), (79, 9999)] E s (oPi (fun r u => (0 ≤ r.toInt ∧ r.toInt ≤ 1) ∧ (r.toInt = 1 → oQ 9999 0 u) ∧ (r.toInt = 0 → (oQ 9999 1 u ∧ oNQ u)) ∧ (0 ≤ (u.1 71 48).toInt ∧ (u.1 71 48).toInt ≤ 6) ∧ ((s.1 71 2).toInt - (s.1 71 45).toInt - (s.1 71 47).toInt ≤ (u.1 71 2).toInt - (u.1 71 45).toInt - (u.1 71 47).toInt) ∧ ((s.1 71 2).toInt ≤ (u.1 71 2).toInt) ∧ (r.toInt = 1 → oqTt g fp fq cz 0 u) ∧ (r.toInt = 0 → (oqTt g fp fq cz 2 u ∧ oqTN u)) ∧ (r.toInt = 0 → oqGw g u) ∧ (oqBP u) ∧ (r.toInt = 1 → oqTx g fp fq cw cs 0 u) ∧ (r.toInt = 0 → oqTx g fp fq cw cs 2 u) ∧ (owC0 Cq u))) J := C
  obtain ⟨k0, qk0⟩ : ∃ z : Int32, z = 0 := ⟨_, rfl⟩
  have ek0 : k0.toInt = 0 := by rw [qk0]; rfl
  obtain ⟨k1, qk1⟩ : ∃ z : Int32, z = 1 := ⟨_, rfl⟩
  have ek1 : k1.toInt = 1 := by rw [qk1]; rfl
  obtain ⟨k14, qk14⟩ : ∃ z : Int32, z = 14 := ⟨_, rfl⟩
  have ek14 : k14.toInt = 14 := by rw [qk14]; rfl
  obtain ⟨k15, qk15⟩ : ∃ z : Int32, z = 15 := ⟨_, rfl⟩
  have ek15 : k15.toInt = 15 := by rw [qk15]; rfl
  obtain ⟨k25, qk25⟩ : ∃ z : Int32, z = 25 := ⟨_, rfl⟩
  have ek25 : k25.toInt = 25 := by rw [qk25]; rfl
  obtain ⟨k93, qk93⟩ : ∃ z : Int32, z = 93 := ⟨_, rfl⟩
  have ek93 : k93.toInt = 93 := by rw [qk93]; rfl
  have key : ∀ n : Nat, (∀ (t : oS), (oQ 9999 1 t) → ((t.1 71 5).toInt = 0) → (0 ≤ (t.1 71 48).toInt ∧ (t.1 71 48).toInt ≤ 6) → ((s.1 71 2).toInt - (s.1 71 45).toInt - (s.1 71 47).toInt ≤ (t.1 71 2).toInt - (t.1 71 45).toInt - (t.1 71 47).toInt) → ((s.1 71 2).toInt ≤ (t.1 71 2).toInt) → (oqTt g fp fq cz 2 t) → (oqTN t) → (oqZ g t) → (oqWd t) → (oqBP t) → (oqTx g fp fq cw cs 2 t) → (owC0 Cq t) → 4000 * (1601 - (t.1 71 2).toInt) ≤ (n : Int) → J t 0 [(0, .ref (oad E 71))] []) ∧ (∀ (t : oS), (oQ 9999 1 t) → (oHS t) → ((t.1 71 5).toInt = 0) → (0 ≤ (t.1 71 48).toInt ∧ (t.1 71 48).toInt ≤ 6) → ((s.1 71 2).toInt - (s.1 71 45).toInt - (s.1 71 47).toInt + 1 ≤ (t.1 71 2).toInt - (t.1 71 45).toInt - (t.1 71 47).toInt) → ((s.1 71 2).toInt ≤ (t.1 71 2).toInt) → (oqI3 g fp fq cz t) → (oqTN t) → (oqSk g ((t.1 71 2).toInt - 1) = (t.1 71 2).toInt - 1 ∧ g ((t.1 71 2).toInt - 1) = 93) → ((t.1 71 2).toInt = (t.1 71 2).toInt) → (oqZ g t) → (oqWd t) → (oqBP t) → (oqI3w g fp fq cw cs t) → (owC0 Cq t) → 4000 * (1601 - (t.1 71 2).toInt) + 2000 + (t.1 71 47).toInt ≤ (n : Int) → J t 33 [(0, .ref (oad E 71))] []) ∧ (∀ (t : oS), (oQ 9999 1 t) → ((t.1 71 5).toInt = 0) → (0 ≤ (t.1 71 48).toInt ∧ (t.1 71 48).toInt ≤ 6) → ((s.1 71 2).toInt - (s.1 71 45).toInt - (s.1 71 47).toInt ≤ (t.1 71 2).toInt - (t.1 71 45).toInt - (t.1 71 47).toInt) → ((s.1 71 2).toInt ≤ (t.1 71 2).toInt) → (oqTt g fp fq cz 2 t) → (oqTN t) → (oqSk g (t.1 71 2).toInt = (t.1 71 2).toInt) → (g (t.1 71 2).toInt ≠ 93 ∨ oNS t) → (oqZ g t) → (oqWd t) → (oqBP t) → (oqTx g fp fq cw cs 2 t) → (owC0 Cq t) → 3500 ≤ (n : Int) → J t 76 [(0, .ref (oad E 71))] []) ∧ (∀ (t : oS), (oQ 9999 1 t) → ((t.1 71 5).toInt = 0) → (0 ≤ (t.1 71 48).toInt ∧ (t.1 71 48).toInt ≤ 6) → ((s.1 71 2).toInt - (s.1 71 45).toInt - (s.1 71 47).toInt + 1 ≤ (t.1 71 2).toInt - (t.1 71 45).toInt - (t.1 71 47).toInt) → ((s.1 71 2).toInt ≤ (t.1 71 2).toInt) → (oqTt g fp fq cz 0 t) → (oqTN t) → (oqBP t) → (oqAw g fp fq cw cs 8 t) → (owC0 Cq t) → (t.1 71 47).toInt + 1 ≤ (n : Int) → J t 87 [(0, .ref (oad E 71))] []) ∧ (∀ (t : oS), (oQ 9999 1 t) → ((t.1 71 5).toInt = 0) → (0 ≤ (t.1 71 48).toInt ∧ (t.1 71 48).toInt ≤ 6) → ((s.1 71 2).toInt - (s.1 71 45).toInt - (s.1 71 47).toInt + 1 ≤ (t.1 71 2).toInt - (t.1 71 45).toInt - (t.1 71 47).toInt) → ((s.1 71 2).toInt ≤ (t.1 71 2).toInt) → (oqTt g fp fq cz 0 t) → (oqTN t) → (oqBP t) → (oqAw g fp fq cw cs 7 t) → (owC0 Cq t) → (t.1 71 47).toInt + 1 ≤ (n : Int) → J t 137 [(0, .ref (oad E 71))] []) := by
    intro n
    induction n using Nat.strongRecOn with
    | _ n ih =>
      refine ⟨?_, ?_, ?_, ?_, ?_⟩
      · intro t   iv0 iv1 iv2 iv3 iv4 iv5 iv6 iv7 iv8 iv9 iv10 iv11 hmu
        refine r_ty C (fun hty => ?_)
        have hty_coded : (0 : Int) ≤ ((t).1 71 45).toInt ∧ ((t).1 71 45).toInt ≤ 1600 := hty.1 71 45
        have hty_waits : (0 : Int) ≤ ((t).1 71 47).toInt ∧ ((t).1 71 47).toInt ≤ 1700 := hty.1 71 47
        have hty_at : (0 : Int) ≤ ((t).1 71 2).toInt ∧ ((t).1 71 2).toInt ≤ 1600 := hty.1 71 2
        clear hty
        refine r_aload_n C (j := 0) (oDec_at oX12_goesOnTest 0 rfl) rfl rfl ?_
        obtain ⟨v1, ev1⟩ : ∃ z : Int32, (t).1 71 5 = z := ⟨_, rfl⟩
        have gv1 : (t.1 71 5).toInt = v1.toInt := congrArg Int32.toInt (ev1)
        have rv1 := n_rng v1
        refine r_geti (k := 5) (lo := (-2147483648)) (hi := 2147483647) C v1 oCl12 rfl (by decide) flX12_173 rfl rfl (ev1) rfl rfl (oDec_at oX12_goesOnTest 1 rfl) (fun _ _ => ?_)
        refine r_if_ne C 76 (oDec_at oX12_goesOnTest 2 rfl) (by decide) (fun cd2 => ?_) (fun cd2 => ?_)
        · skip
          have lk3 : ((t).1 71 5).toInt = v1.toInt := congrArg Int32.toInt (ev1)
          exact (ih (n - 1) (by omega)).2.2.1 (t)   iv0 (by omega) (by omega) (by omega) (by omega) iv5 iv6 (by omega) (by first | exact Or.inl (by omega) | (exfalso; omega)) iv7 iv8 iv9 iv10 iv11 (by omega)
        · skip
          refine r_aload_n C (j := 0) (oDec_at oX12_goesOnTest 3 rfl) rfl rfl ?_
          refine r_callVi C oCl12 rfl miX12_look mlX12_185 (ct4_X12_look l E (t)  (g) ((t.1 71 2).toInt) (by omega) iv7) (by decide) rfl rfl rfl (Nat.le_of_ble_eq_true rfl) (oDec_at oX12_goesOnTest 4 rfl) (fun r5 u4 pu4 fu4 => ?_)
          try dsimp only at pu4
          obtain ⟨pu4_0, pu4_1, pu4_2, pu4_3, pu4_4, pu4_5⟩ := pu4
          have rr5 := n_rng r5
          have hsk : oqSk g ((u4).1 71 2).toInt = ((u4).1 71 2).toInt := by rw [show ((u4).1 71 2).toInt = oqSk g (t.1 71 2).toInt by omega]; exact oqSk_sk pu4_3
          have hgA : g ((u4).1 71 2).toInt = r5.toInt := by rw [show ((u4).1 71 2).toInt = oqSk g (t.1 71 2).toInt by omega]; omega
          have hq6 : oqTt g fp fq cz 2 (u4) := oqI_id iv5 (oFr_row fu4 (c := 103) rfl rfl) (congrArg Int32.toInt (fu4 71 5 rfl).1) (congrArg Int32.toInt (fu4 71 47 rfl).1) (by rw [show ((u4).1 71 2).toInt = oqSk g (t.1 71 2).toInt by omega]; exact oqSk_sk pu4_3) (congrArg Int32.toInt (fu4 71 4 rfl).1) (congrArg Int32.toInt (fu4 71 48 rfl).1) (congrArg Int32.toInt (fu4 71 6 rfl).1)
          have hq7 : oqTx g fp fq cw cs 2 (u4) := oqTx_id iv10 (oqSq_of fu4 rfl) (fun h9 => (congrArg Int32.toInt (fu4 71 5 rfl).1).symm.trans h9) (by rw [show ((u4).1 71 2).toInt = oqSk g (t.1 71 2).toInt by omega]; exact oqSk_sk pu4_3) (congrArg Int32.toInt (fu4 71 4 rfl).1)
          refine r_bipush C (oDec_at oX12_goesOnTest 5 rfl) (v := k93) (by rw [qk93]; rfl) ?_
          refine r_icmp_ne C 76 (oDec_at oX12_goesOnTest 6 rfl) (by decide) (fun cd8 => ?_) (fun cd8 => ?_)
          · skip
            have lk9 : ((u4).1 71 5).toInt = v1.toInt := congrArg Int32.toInt (((fu4 71 5 rfl).1).trans (ev1))
            have lk10 : ((u4).1 71 48).toInt = (t.1 71 48).toInt := congrArg Int32.toInt ((fu4 71 48 rfl).1)
            have lk11 : ((u4).1 71 45).toInt = (t.1 71 45).toInt := congrArg Int32.toInt ((fu4 71 45 rfl).1)
            have lk12 : ((u4).1 71 47).toInt = (t.1 71 47).toInt := congrArg Int32.toInt ((fu4 71 47 rfl).1)
            exact (ih (n - 1) (by omega)).2.2.1 (u4)   (oQ_fr fu4 rfl iv0) (by omega) (by omega) (by omega) (by omega) hq6 (oqTN_fr fu4 rfl iv6) (by omega) (by first | exact Or.inl (by omega) | exact Or.inr (pu4_2 (by omega)) | (exfalso; omega)) (oqZ_fr fu4 rfl iv7) (oqWd_fr fu4 rfl iv8) (oqBP_fr fu4 rfl iv9) hq7 (owC0_fr fu4 rfl iv11) (by omega)
          · skip
            refine r_aload_n C (j := 0) (oDec_at oX12_goesOnTest 7 rfl) rfl rfl ?_
            refine r_callVi C oCl12 rfl miX12_hasSquare mlX12_331 (ct_X12_hasSquare l E (u4)  ) (by decide) rfl rfl rfl (Nat.le_of_ble_eq_true rfl) (oDec_at oX12_goesOnTest 8 rfl) (fun r14 u13 pu13 fu13 => ?_)
            try dsimp only at pu13
            obtain ⟨pu13_0, pu13_1, pu13_2⟩ := pu13
            have hxu13 := oFr_nil fu13; subst hxu13
            have rr14 := n_rng r14
            refine r_if_eq C 76 (oDec_at oX12_goesOnTest 9 rfl) (by decide) (fun cd15 => ?_) (fun cd15 => ?_)
            · skip
              have lk16 : ((u4).1 71 5).toInt = v1.toInt := congrArg Int32.toInt (((fu4 71 5 rfl).1).trans (ev1))
              have lk17 : ((u4).1 71 48).toInt = (t.1 71 48).toInt := congrArg Int32.toInt ((fu4 71 48 rfl).1)
              have lk18 : ((u4).1 71 45).toInt = (t.1 71 45).toInt := congrArg Int32.toInt ((fu4 71 45 rfl).1)
              have lk19 : ((u4).1 71 47).toInt = (t.1 71 47).toInt := congrArg Int32.toInt ((fu4 71 47 rfl).1)
              exact (ih (n - 1) (by omega)).2.2.1 (u4)   (oQ_fr fu4 rfl iv0) (by omega) (by omega) (by omega) (by omega) hq6 (oqTN_fr fu4 rfl iv6) (by omega) (by first | exact Or.inl (by omega) | exact Or.inr (pu13_2 (by omega)) | (exfalso; omega)) (oqZ_fr fu4 rfl iv7) (oqWd_fr fu4 rfl iv8) (oqBP_fr fu4 rfl iv9) hq7 (owC0_fr fu4 rfl iv11) (by omega)
            · skip
              have hq20 : oHS (u4) := pu13_1 (by omega)
              refine r_aload_n C (j := 0) (oDec_at oX12_goesOnTest 10 rfl) rfl rfl ?_
              refine r_dup C (oDec_at oX12_goesOnTest 11 rfl) rfl ?_
              obtain ⟨v21, ev21⟩ : ∃ z : Int32, (u4).1 71 2 = z := ⟨_, rfl⟩
              have gv21 : (u4.1 71 2).toInt = v21.toInt := congrArg Int32.toInt (ev21)
              refine r_geti (k := 2) (lo := 0) (hi := 1600) C v21 oCl12 rfl (by decide) flX12_179 rfl rfl (ev21) rfl rfl (oDec_at oX12_goesOnTest 12 rfl) (fun b22 b22h => ?_)
              refine r_iconst C (oDec_at oX12_goesOnTest 13 rfl) (v := k1) (by rw [qk1]; rfl) ?_
              obtain ⟨v23, ev23⟩ : ∃ z : Int32, z = v21 + k1 := ⟨_, rfl⟩
              have hv23 : v23.toInt = v21.toInt + k1.toInt := n_add ev23 (by omega) (by omega)
              refine r_iadd C v23 (oDec_at oX12_goesOnTest 14 rfl) ev23 ?_
              refine r_puti (k := 2) (lo := 0) (hi := 1600) C oCl12 rfl (by decide) flX12_179 rfl rfl rfl rfl rfl rfl rfl rfl ⟨by omega, by omega⟩ (oDec_at oX12_goesOnTest 15 rfl) ?_
              have lk24 : (((pI u4 71 2 v23)).1 71 5).toInt = v1.toInt := congrArg Int32.toInt (((pI_ne (a := 71) (b := 5) (c := 71) (k := 2) _ _ (Or.inr (by decide)))).trans (((fu4 71 5 rfl).1).trans (ev1)))
              have lk25 : (((pI u4 71 2 v23)).1 71 48).toInt = (t.1 71 48).toInt := congrArg Int32.toInt (((pI_ne (a := 71) (b := 48) (c := 71) (k := 2) _ _ (Or.inr (by decide)))).trans ((fu4 71 48 rfl).1))
              have lk26 : (((pI u4 71 2 v23)).1 71 2).toInt = v23.toInt := congrArg Int32.toInt ((pI_self _ _ _ _))
              have lk27 : (((pI u4 71 2 v23)).1 71 45).toInt = (t.1 71 45).toInt := congrArg Int32.toInt (((pI_ne (a := 71) (b := 45) (c := 71) (k := 2) _ _ (Or.inr (by decide)))).trans ((fu4 71 45 rfl).1))
              have lk28 : (((pI u4 71 2 v23)).1 71 47).toInt = (t.1 71 47).toInt := congrArg Int32.toInt (((pI_ne (a := 71) (b := 47) (c := 71) (k := 2) _ _ (Or.inr (by decide)))).trans ((fu4 71 47 rfl).1))
              have lk29 : (((pI u4 71 2 v23)).1 71 2).toInt = v23.toInt := congrArg Int32.toInt ((pI_self _ _ _ _))
              have lk30 : (((pI u4 71 2 v23)).1 71 2).toInt = v23.toInt := congrArg Int32.toInt ((pI_self _ _ _ _))
              have lk31 : (((pI u4 71 2 v23)).1 71 2).toInt = v23.toInt := congrArg Int32.toInt ((pI_self _ _ _ _))
              have lk32 : (((pI u4 71 2 v23)).1 71 47).toInt = (t.1 71 47).toInt := congrArg Int32.toInt (((pI_ne (a := 71) (b := 47) (c := 71) (k := 2) _ _ (Or.inr (by decide)))).trans ((fu4 71 47 rfl).1))
              exact (ih (n - 1) (by omega)).2.1 ((pI u4 71 2 v23))   (oQ_fr (oFr_oneI (q := 12) (m := 2) rfl (by rfl)) rfl (oQ_fr fu4 rfl iv0)) (oHS_fr (oFr_oneI (q := 12) (m := 2) rfl (by rfl)) rfl hq20) (by omega) (by omega) (by omega) (by omega) (by first | exact (by assumption) | exact oqI3_of hq6 hsk (by omega)) (oqTN_fr (oFr_oneI (q := 12) (m := 2) rfl (by rfl)) rfl (oqTN_fr fu4 rfl iv6)) (by first | (rw [show (((pI u4 71 2 v23)).1 71 2).toInt - 1 = ((u4).1 71 2).toInt by omega]; exact ⟨hsk, by omega⟩) | (rw [show (((pI u4 71 2 v23)).1 71 2).toInt = (t.1 71 2).toInt by omega]; omega)) (by omega) (oqZ_fr (oFr_oneI (q := 12) (m := 2) rfl (by rfl)) rfl (oqZ_fr fu4 rfl iv7)) (oqWd_fr (oFr_oneI (q := 12) (m := 2) rfl (by rfl)) rfl (oqWd_fr fu4 rfl iv8)) (oqBP_fr (oFr_oneI (q := 12) (m := 2) rfl (by rfl)) rfl (oqBP_fr fu4 rfl iv9)) (by first | exact (by assumption) | exact oqI3w_of hq7 hsk (by omega)) (owC0_fr (oFr_oneI (q := 12) (m := 2) rfl (by rfl)) rfl (owC0_fr fu4 rfl iv11)) (by omega)
      · intro t   iv0 iv1 iv2 iv3 iv4 iv5 iv6 iv7 iv8 iv9 iv10 iv11 iv12 iv13 iv14 hmu
        refine r_ty C (fun hty => ?_)
        have hty_coded : (0 : Int) ≤ ((t).1 71 45).toInt ∧ ((t).1 71 45).toInt ≤ 1600 := hty.1 71 45
        have hty_waits : (0 : Int) ≤ ((t).1 71 47).toInt ∧ ((t).1 71 47).toInt ≤ 1700 := hty.1 71 47
        have hty_at : (0 : Int) ≤ ((t).1 71 2).toInt ∧ ((t).1 71 2).toInt ≤ 1600 := hty.1 71 2
        clear hty
        have h93w := oqWi_93 (g := g) (a := (t.1 71 2).toInt - 1) (b := (t.1 71 4).toInt) (iv8).1 (by omega)
        refine r_aload_n C (j := 0) (oDec_at oX12_goesOnTest 16 rfl) rfl rfl ?_
        refine r_bipush C (oDec_at oX12_goesOnTest 17 rfl) (v := k25) (by rw [qk25]; rfl) ?_
        refine r_callVi C oCl12 rfl miX12_isOn mlX12_310 (ct_X12_isOn l E (t) k25 ) (by decide) rfl rfl rfl (Nat.le_of_ble_eq_true rfl) (oDec_at oX12_goesOnTest 18 rfl) (fun r34 u33 pu33 fu33 => ?_)
        try dsimp only at pu33
        obtain ⟨pu33_0, pu33_1, pu33_2⟩ := pu33
        have hxu33 := oFr_nil fu33; subst hxu33
        have rr34 := n_rng r34
        refine r_if_ne C 49 (oDec_at oX12_goesOnTest 19 rfl) (by decide) (fun cd35 => ?_) (fun cd35 => ?_)
        · skip
          replace pu33_1 := pu33_1 (by omega)
          clear pu33_2
          have ho1 := oQ_opn1 iv0 (by omega) (by omega) (by omega)
          refine r_aload_n C (j := 0) (oDec_at oX12_goesOnTest 23 rfl) rfl rfl ?_
          refine r_dup C (oDec_at oX12_goesOnTest 24 rfl) rfl ?_
          obtain ⟨v36, ev36⟩ : ∃ z : Int32, (t).1 71 47 = z := ⟨_, rfl⟩
          have gv36 : (t.1 71 47).toInt = v36.toInt := congrArg Int32.toInt (ev36)
          refine r_geti (k := 47) (lo := 0) (hi := 1700) C v36 oCl12 rfl (by decide) flX12_277 rfl rfl (ev36) rfl rfl (oDec_at oX12_goesOnTest 25 rfl) (fun b37 b37h => ?_)
          refine r_iconst C (oDec_at oX12_goesOnTest 26 rfl) (v := k1) (by rw [qk1]; rfl) ?_
          obtain ⟨v38, ev38⟩ : ∃ z : Int32, z = v36 - k1 := ⟨_, rfl⟩
          have hv38 : v38.toInt = v36.toInt - k1.toInt := n_sub ev38 (by omega) (by omega)
          refine r_isub C v38 (oDec_at oX12_goesOnTest 27 rfl) ev38 ?_
          refine r_puti (k := 47) (lo := 0) (hi := 1700) C oCl12 rfl (by decide) flX12_277 rfl rfl rfl rfl rfl rfl rfl rfl ⟨by omega, by omega⟩ (oDec_at oX12_goesOnTest 28 rfl) ?_
          refine r_pc C 59 rfl ?_
          refine r_aload_n C (j := 0) (oDec_at oX12_goesOnTest 29 rfl) rfl rfl ?_
          refine r_dup C (oDec_at oX12_goesOnTest 30 rfl) rfl ?_
          obtain ⟨v39, ev39⟩ : ∃ z : Int32, ((pI t 71 47 v38)).1 71 48 = z := ⟨_, rfl⟩
          have gv39 : (t.1 71 48).toInt = v39.toInt := congrArg Int32.toInt (((pI_ne (a := 71) (b := 48) (c := 71) (k := 47) _ _ (Or.inr (by decide)))).symm.trans ev39)
          have ggv39 : (((pI t 71 47 v38)).1 71 48).toInt = v39.toInt := congrArg Int32.toInt ev39
          refine r_geti (k := 48) (lo := (-1)) (hi := 7) C v39 oCl12 rfl (by decide) flX12_274 rfl rfl (ev39) rfl rfl (oDec_at oX12_goesOnTest 31 rfl) (fun b40 b40h => ?_)
          refine r_iconst C (oDec_at oX12_goesOnTest 32 rfl) (v := k1) (by rw [qk1]; rfl) ?_
          obtain ⟨v41, ev41⟩ : ∃ z : Int32, z = v39 - k1 := ⟨_, rfl⟩
          have hv41 : v41.toInt = v39.toInt - k1.toInt := n_sub ev41 (by omega) (by omega)
          refine r_isub C v41 (oDec_at oX12_goesOnTest 33 rfl) ev41 ?_
          refine r_puti (k := 48) (lo := (-1)) (hi := 7) C oCl12 rfl (by decide) flX12_274 rfl rfl rfl rfl rfl rfl rfl rfl ⟨by omega, by omega⟩ (oDec_at oX12_goesOnTest 34 rfl) ?_
          refine r_pc C 69 rfl ?_
          have lk42 : (((pI (pI t 71 47 v38) 71 48 v41)).1 71 5).toInt = (t.1 71 5).toInt := congrArg Int32.toInt (((pI_ne (a := 71) (b := 5) (c := 71) (k := 48) _ _ (Or.inr (by decide)))).trans ((pI_ne (a := 71) (b := 5) (c := 71) (k := 47) _ _ (Or.inr (by decide)))))
          have lk43 : (((pI (pI t 71 47 v38) 71 48 v41)).1 71 47).toInt = v38.toInt := congrArg Int32.toInt (((pI_ne (a := 71) (b := 47) (c := 71) (k := 48) _ _ (Or.inr (by decide)))).trans ((pI_self _ _ _ _)))
          have lk44 : (((pI (pI t 71 47 v38) 71 48 v41)).1 71 48).toInt = v41.toInt := congrArg Int32.toInt ((pI_self _ _ _ _))
          have lk45 : (((pI (pI t 71 47 v38) 71 48 v41)).1 71 45).toInt = (t.1 71 45).toInt := congrArg Int32.toInt (((pI_ne (a := 71) (b := 45) (c := 71) (k := 48) _ _ (Or.inr (by decide)))).trans ((pI_ne (a := 71) (b := 45) (c := 71) (k := 47) _ _ (Or.inr (by decide)))))
          have hq46 : oQ 9999 1 ((pI (pI t 71 47 v38) 71 48 v41)) := oQ_pop iv0 (by omega) (by omega) (by omega) (by omega)
          have hq47 : oqTt g fp fq cz 2 ((pI (pI t 71 47 v38) 71 48 v41)) := oqI_cl iv6 (by omega) (by omega) (by omega) (by omega) (by omega) (by omega) (by omega)
          have hq48 : oqTx g fp fq cw cs 2 ((pI (pI t 71 47 v38) 71 48 v41)) := oqI3w_cl iv13 (by omega) h93w (by omega) (by omega) (by omega) (by omega)
          refine r_aload_n C (j := 0) (oDec_at oX12_goesOnTest 35 rfl) rfl rfl ?_
          have lk49 : (((pI (pI t 71 47 v38) 71 48 v41)).1 71 48).toInt = v41.toInt := congrArg Int32.toInt ((pI_self _ _ _ _))
          have lk50 : (((pI (pI t 71 47 v38) 71 48 v41)).1 71 45).toInt = (t.1 71 45).toInt := congrArg Int32.toInt (((pI_ne (a := 71) (b := 45) (c := 71) (k := 48) _ _ (Or.inr (by decide)))).trans ((pI_ne (a := 71) (b := 45) (c := 71) (k := 47) _ _ (Or.inr (by decide)))))
          have lk51 : (((pI (pI t 71 47 v38) 71 48 v41)).1 71 47).toInt = v38.toInt := congrArg Int32.toInt (((pI_ne (a := 71) (b := 47) (c := 71) (k := 48) _ _ (Or.inr (by decide)))).trans ((pI_self _ _ _ _)))
          have lk52 : (((pI (pI t 71 47 v38) 71 48 v41)).1 71 45).toInt = (t.1 71 45).toInt := congrArg Int32.toInt (((pI_ne (a := 71) (b := 45) (c := 71) (k := 48) _ _ (Or.inr (by decide)))).trans ((pI_ne (a := 71) (b := 45) (c := 71) (k := 47) _ _ (Or.inr (by decide)))))
          have lk53 : (((pI (pI t 71 47 v38) 71 48 v41)).1 71 47).toInt = v38.toInt := congrArg Int32.toInt (((pI_ne (a := 71) (b := 47) (c := 71) (k := 48) _ _ (Or.inr (by decide)))).trans ((pI_self _ _ _ _)))
          refine r_callVv C oCl12 rfl miX12_dropsNots mlX12_325 (ct9_X12_dropsNots l E ((pI (pI t 71 47 v38) 71 48 v41))  (g) (fp) (fq) (cz) (cw) (cs) (Cq) hq46 (by omega) (by omega) hq47 hq48 (owC0_fr (oFr_oneI (q := 12) (m := 48) rfl (by rfl)) rfl (owC0_fr (oFr_oneI (q := 12) (m := 47) rfl (by rfl)) rfl iv14))) (by decide) rfl rfl rfl (Nat.le_of_ble_eq_true rfl) (oDec_at oX12_goesOnTest 36 rfl) (fun u54 pu54 fu54 => ?_)
          try dsimp only at pu54
          try simp only [lk49, lk50, lk51, lk52, lk53] at pu54
          obtain ⟨pu54_0, pu54_1, pu54_2, pu54_3, pu54_4, pu54_5, pu54_6⟩ := pu54
          refine r_goto C (tgt := 0) (oDec_at oX12_goesOnTest 37 rfl) (by decide) ?_
          have lk56 : ((u54).1 71 5).toInt = (t.1 71 5).toInt := congrArg Int32.toInt (((fu54 71 5 rfl).1).trans (((pI_ne (a := 71) (b := 5) (c := 71) (k := 48) _ _ (Or.inr (by decide)))).trans ((pI_ne (a := 71) (b := 5) (c := 71) (k := 47) _ _ (Or.inr (by decide))))))
          have lk57 : ((u54).1 71 2).toInt = (t.1 71 2).toInt := congrArg Int32.toInt (((fu54 71 2 rfl).1).trans (((pI_ne (a := 71) (b := 2) (c := 71) (k := 48) _ _ (Or.inr (by decide)))).trans ((pI_ne (a := 71) (b := 2) (c := 71) (k := 47) _ _ (Or.inr (by decide))))))
          have lk58 : ((u54).1 71 2).toInt = (t.1 71 2).toInt := congrArg Int32.toInt (((fu54 71 2 rfl).1).trans (((pI_ne (a := 71) (b := 2) (c := 71) (k := 48) _ _ (Or.inr (by decide)))).trans ((pI_ne (a := 71) (b := 2) (c := 71) (k := 47) _ _ (Or.inr (by decide))))))
          have lk59 : ((u54).1 71 2).toInt = (t.1 71 2).toInt := congrArg Int32.toInt (((fu54 71 2 rfl).1).trans (((pI_ne (a := 71) (b := 2) (c := 71) (k := 48) _ _ (Or.inr (by decide)))).trans ((pI_ne (a := 71) (b := 2) (c := 71) (k := 47) _ _ (Or.inr (by decide))))))
          exact (ih (n - 1) (by omega)).1 (u54)   pu54_0 (by omega) (by omega) (by omega) (by omega) pu54_3 pu54_4 (oqZ_fr fu54 rfl (oqZ_fr (oFr_oneI (q := 12) (m := 48) rfl (by rfl)) rfl (oqZ_fr (oFr_oneI (q := 12) (m := 47) rfl (by rfl)) rfl iv10))) (oqWd_fr fu54 rfl (oqWd_fr (oFr_oneI (q := 12) (m := 48) rfl (by rfl)) rfl (oqWd_fr (oFr_oneI (q := 12) (m := 47) rfl (by rfl)) rfl iv11))) (oqBP_fr fu54 rfl (oqBP_fr (oFr_oneI (q := 12) (m := 48) rfl (by rfl)) rfl (oqBP_fr (oFr_oneI (q := 12) (m := 47) rfl (by rfl)) rfl iv12))) pu54_5 pu54_6 (by omega)
        · skip
          clear pu33_1
          replace pu33_2 := pu33_2 (by omega)
          have hs1 := oHS_1 iv1
          have htp := oqI_tp iv0 (by omega) (by omega)
          have htn := iv7 (by omega)
          refine r_aload_n C (j := 0) (oDec_at oX12_goesOnTest 20 rfl) rfl rfl ?_
          refine r_callVv C oCl12 rfl miX12_drops mlX12_289 (ct9_X12_drops l E (t)  (Cq) (by omega) (by omega) iv14) (by decide) rfl rfl rfl (Nat.le_of_ble_eq_true rfl) (oDec_at oX12_goesOnTest 21 rfl) (fun u60 pu60 fu60 => ?_)
          try dsimp only at pu60
          obtain ⟨pu60_0, pu60_1, pu60_2, pu60_3⟩ := pu60
          have lk62 : ((u60).1 71 5).toInt = (t.1 71 5).toInt := congrArg Int32.toInt ((fu60 71 5 rfl).1)
          have lk63 : ((u60).1 71 48).toInt = (t.1 71 48).toInt := congrArg Int32.toInt ((fu60 71 48 rfl).1)
          have lk64 : ((u60).1 71 2).toInt = (t.1 71 2).toInt := congrArg Int32.toInt ((fu60 71 2 rfl).1)
          have lk65 : ((u60).1 71 4).toInt = (t.1 71 4).toInt := congrArg Int32.toInt ((fu60 71 4 rfl).1)
          have hd3 := oqI3_drop iv6 (by omega) pu60_0 (by omega) (by omega)
          have hq66 : oQ 9999 1 (u60) := oQ_drop iv0 pu60_0 (by omega) (by omega) (by omega) (by omega)
          have hq67 : oHS (u60) := oHS_drop iv1 pu60_0 (by omega)
          have hq68 : oqI3 g fp fq cz (u60) := hd3.1
          have hq69 : oqTN (u60) := hd3.2
          have hq70 : oqI3w g fp fq cw cs (u60) := oqI3w_drop iv13 (by omega) pu60_0 (by omega) (by omega) (by omega) h93w.2
          refine r_goto C (tgt := 33) (oDec_at oX12_goesOnTest 22 rfl) (by decide) ?_
          have lk71 : ((u60).1 71 5).toInt = (t.1 71 5).toInt := congrArg Int32.toInt ((fu60 71 5 rfl).1)
          have lk72 : ((u60).1 71 48).toInt = (t.1 71 48).toInt := congrArg Int32.toInt ((fu60 71 48 rfl).1)
          have lk73 : ((u60).1 71 2).toInt = (t.1 71 2).toInt := congrArg Int32.toInt ((fu60 71 2 rfl).1)
          have lk74 : ((u60).1 71 2).toInt = (t.1 71 2).toInt := congrArg Int32.toInt ((fu60 71 2 rfl).1)
          have lk75 : ((u60).1 71 2).toInt = (t.1 71 2).toInt := congrArg Int32.toInt ((fu60 71 2 rfl).1)
          have lk76 : ((u60).1 71 2).toInt = (t.1 71 2).toInt := congrArg Int32.toInt ((fu60 71 2 rfl).1)
          exact (ih (n - 1) (by omega)).2.1 (u60)   hq66 hq67 (by omega) (by omega) (by omega) (by omega) (by first | exact hq68 | exact oqI3_of (by assumption) hsk (by omega)) hq69 (by first | (rw [show ((u60).1 71 2).toInt - 1 = ((t).1 71 2).toInt by omega]; exact ⟨hsk, by omega⟩) | (rw [show ((u60).1 71 2).toInt = (t.1 71 2).toInt by omega]; omega)) (by omega) (oqZ_fr fu60 rfl iv10) (oqWd_fr fu60 rfl iv11) (oqBP_fr fu60 rfl iv12) (by first | exact hq70 | exact oqI3w_of (by assumption) hsk (by omega)) pu60_3 (by omega)
      · intro t   iv0 iv1 iv2 iv3 iv4 iv5 iv6 iv7 iv8 iv9 iv10 iv11 iv12 iv13 hmu
        refine r_ty C (fun hty => ?_)
        have hty_coded : (0 : Int) ≤ ((t).1 71 45).toInt ∧ ((t).1 71 45).toInt ≤ 1600 := hty.1 71 45
        have hty_waits : (0 : Int) ≤ ((t).1 71 47).toInt ∧ ((t).1 71 47).toInt ≤ 1700 := hty.1 71 47
        have hty_at : (0 : Int) ≤ ((t).1 71 2).toInt ∧ ((t).1 71 2).toInt ≤ 1600 := hty.1 71 2
        clear hty
        have hHa8 : oqHa g (t.1 71 2).toInt 8 = oqSk g (t.1 71 2).toInt + (oqWl 8 : Int) := rfl
        have hl8 : oqWl 8 = 3 := rfl
        have hHa7 : oqHa g (t.1 71 2).toInt 7 = oqSk g (t.1 71 2).toInt + (oqWl 7 : Int) := rfl
        have hl7 : oqWl 7 = 2 := rfl
        refine r_aload_n C (j := 0) (oDec_at oX12_goesOnTest 38 rfl) rfl rfl ?_
        refine r_aload_n C (j := 0) (oDec_at oX12_goesOnTest 39 rfl) rfl rfl ?_
        refine r_getF (k := 18) (b := 81) C oCl12 rfl (by decide) flX12_42 rfl rfl rfl (oDec_at oX12_goesOnTest 40 rfl) ?_
        refine r_callVi C oCl12 rfl miX12_takes mlX12_200 (ct6_X12_takes l E (t) 81 57 3 rfl (by decide) (by decide) rfl rfl (g) ((t.1 71 2).toInt) ((t.1 71 4).toInt) (8) (by omega) (by omega) iv9 (by omega) (by omega) rfl (oqWd_at iv10 8 (by decide)) (by omega)) (by decide) rfl rfl rfl (Nat.le_of_ble_eq_true rfl) (oDec_at oX12_goesOnTest 41 rfl) (fun r78 u77 pu77 fu77 => ?_)
        try dsimp only at pu77
        obtain ⟨pu77_0, pu77_1, pu77_2, pu77_3, pu77_4⟩ := pu77
        have rr78 := n_rng r78
        have lk79 : ((u77).1 71 5).toInt = (t.1 71 5).toInt := congrArg Int32.toInt ((fu77 71 5 rfl).1)
        have lk80 : ((u77).1 71 48).toInt = (t.1 71 48).toInt := congrArg Int32.toInt ((fu77 71 48 rfl).1)
        have lk81 : ((u77).1 71 47).toInt = (t.1 71 47).toInt := congrArg Int32.toInt ((fu77 71 47 rfl).1)
        refine r_if_eq C 126 (oDec_at oX12_goesOnTest 42 rfl) (by decide) (fun cd82 => ?_) (fun cd82 => ?_)
        · skip
          clear pu77_1
          replace pu77_2 := pu77_2 (by omega)
          have lk83 : ((u77).1 71 5).toInt = (t.1 71 5).toInt := congrArg Int32.toInt ((fu77 71 5 rfl).1)
          have lk84 : ((u77).1 71 48).toInt = (t.1 71 48).toInt := congrArg Int32.toInt ((fu77 71 48 rfl).1)
          have lk85 : ((u77).1 71 47).toInt = (t.1 71 47).toInt := congrArg Int32.toInt ((fu77 71 47 rfl).1)
          have hq86 : oqTt g fp fq cz 2 (u77) := oqI_id iv5 (oFr_row fu77 (c := 103) rfl rfl) (congrArg Int32.toInt (fu77 71 5 rfl).1) (congrArg Int32.toInt (fu77 71 47 rfl).1) (by rw [show ((u77).1 71 2).toInt = ((t).1 71 2).toInt by omega]) (by omega) (congrArg Int32.toInt (fu77 71 48 rfl).1) (congrArg Int32.toInt (fu77 71 6 rfl).1)
          have hq87 : oqTx g fp fq cw cs 2 (u77) := oqTx_id iv12 (oqSq_of fu77 rfl) (fun h9 => (congrArg Int32.toInt (fu77 71 5 rfl).1).symm.trans h9) (by rw [show ((u77).1 71 2).toInt = ((t).1 71 2).toInt by omega]) (by omega)
          refine r_aload_n C (j := 0) (oDec_at oX12_goesOnTest 64 rfl) rfl rfl ?_
          refine r_aload_n C (j := 0) (oDec_at oX12_goesOnTest 65 rfl) rfl rfl ?_
          refine r_getF (k := 17) (b := 80) C oCl12 rfl (by decide) flX12_39 rfl rfl rfl (oDec_at oX12_goesOnTest 66 rfl) ?_
          have lk88 : ((u77).1 71 5).toInt = (t.1 71 5).toInt := congrArg Int32.toInt ((fu77 71 5 rfl).1)
          refine r_callVi C oCl12 rfl miX12_takes mlX12_200 (ct6_X12_takes l E (u77) 80 56 2 rfl (by decide) (by decide) rfl rfl (g) ((t.1 71 2).toInt) ((t.1 71 4).toInt) (7) (by omega) (by omega) (oqZ_fr fu77 rfl iv9) (by omega) (by omega) rfl (oqWd_at (oqWd_fr fu77 rfl iv10) 7 (by decide)) (by omega)) (by decide) rfl rfl rfl (Nat.le_of_ble_eq_true rfl) (oDec_at oX12_goesOnTest 67 rfl) (fun r90 u89 pu89 fu89 => ?_)
          try dsimp only at pu89
          try simp only [lk88] at pu89
          obtain ⟨pu89_0, pu89_1, pu89_2, pu89_3, pu89_4⟩ := pu89
          have rr90 := n_rng r90
          have lk91 : ((u89).1 71 5).toInt = (t.1 71 5).toInt := congrArg Int32.toInt (((fu89 71 5 rfl).1).trans ((fu77 71 5 rfl).1))
          have lk92 : ((u89).1 71 48).toInt = (t.1 71 48).toInt := congrArg Int32.toInt (((fu89 71 48 rfl).1).trans ((fu77 71 48 rfl).1))
          have lk93 : ((u89).1 71 47).toInt = (t.1 71 47).toInt := congrArg Int32.toInt (((fu89 71 47 rfl).1).trans ((fu77 71 47 rfl).1))
          refine r_if_eq C 185 (oDec_at oX12_goesOnTest 68 rfl) (by decide) (fun cd94 => ?_) (fun cd94 => ?_)
          · skip
            clear pu89_1
            replace pu89_2 := pu89_2 (by omega)
            have lk95 : ((u89).1 71 5).toInt = (t.1 71 5).toInt := congrArg Int32.toInt (((fu89 71 5 rfl).1).trans ((fu77 71 5 rfl).1))
            have lk96 : ((u89).1 71 48).toInt = (t.1 71 48).toInt := congrArg Int32.toInt (((fu89 71 48 rfl).1).trans ((fu77 71 48 rfl).1))
            have lk97 : ((u89).1 71 47).toInt = (t.1 71 47).toInt := congrArg Int32.toInt (((fu89 71 47 rfl).1).trans ((fu77 71 47 rfl).1))
            have eA : ((u89).1 71 2).toInt = (t.1 71 2).toInt := by omega
            have eE : ((u89).1 71 4).toInt = (t.1 71 4).toInt := by omega
            have eK : oqSk g (t.1 71 2).toInt = (t.1 71 2).toInt := by omega
            have eS : oqSk g ((u89).1 71 2).toInt = (t.1 71 2).toInt := by rw [eA]; exact eK
            have eG : g (oqSk g ((u89).1 71 2).toInt) = g (t.1 71 2).toInt := by rw [eS]
            have hq98 : oqTt g fp fq cz 2 (u89) := oqI_id hq86 (oFr_row fu89 (c := 103) rfl rfl) (congrArg Int32.toInt (fu89 71 5 rfl).1) (congrArg Int32.toInt (fu89 71 47 rfl).1) (by rw [show ((u89).1 71 2).toInt = ((u77).1 71 2).toInt by omega]) (by omega) (congrArg Int32.toInt (fu89 71 48 rfl).1) (congrArg Int32.toInt (fu89 71 6 rfl).1)
            have hq99 : oqTx g fp fq cw cs 2 (u89) := oqTx_id hq87 (oqSq_of fu89 rfl) (fun h9 => (congrArg Int32.toInt (fu89 71 5 rfl).1).symm.trans h9) (by rw [show ((u89).1 71 2).toInt = ((u77).1 71 2).toInt by omega]) (by omega)
            refine r_aload_n C (j := 0) (oDec_at oX12_goesOnTest 94 rfl) rfl rfl ?_
            obtain ⟨v100, ev100⟩ : ∃ z : Int32, (u89).1 71 5 = z := ⟨_, rfl⟩
            have gv100 : (t.1 71 5).toInt = v100.toInt := congrArg Int32.toInt ((((fu89 71 5 rfl).1).trans ((fu77 71 5 rfl).1)).symm.trans ev100)
            have ggv100 : ((u89).1 71 5).toInt = v100.toInt := congrArg Int32.toInt ev100
            have rv100 := n_rng v100
            refine r_geti (k := 5) (lo := (-2147483648)) (hi := 2147483647) C v100 oCl12 rfl (by decide) flX12_173 rfl rfl (ev100) rfl rfl (oDec_at oX12_goesOnTest 95 rfl) (fun _ _ => ?_)
            refine r_if_ne C 208 (oDec_at oX12_goesOnTest 96 rfl) (by decide) (fun cd101 => ?_) (fun cd101 => ?_)
            · skip
              have lk102 : ((u89).1 71 6).toInt = (t.1 71 6).toInt := congrArg Int32.toInt (((fu89 71 6 rfl).1).trans ((fu77 71 6 rfl).1))
              have lk103 : ((u89).1 71 5).toInt = v100.toInt := congrArg Int32.toInt (ev100)
              skip
              refine r_iconst C (oDec_at oX12_goesOnTest 105 rfl) (v := k0) (by rw [qk0]; rfl) ?_
              have lk104 : ((u89).1 71 48).toInt = (t.1 71 48).toInt := congrArg Int32.toInt (((fu89 71 48 rfl).1).trans ((fu77 71 48 rfl).1))
              have lk105 : ((u89).1 71 45).toInt = (t.1 71 45).toInt := congrArg Int32.toInt (((fu89 71 45 rfl).1).trans ((fu77 71 45 rfl).1))
              have lk106 : ((u89).1 71 47).toInt = (t.1 71 47).toInt := congrArg Int32.toInt (((fu89 71 47 rfl).1).trans ((fu77 71 47 rfl).1))
              exact r_zret C (n_bool (by omega)) (oDec_at oX12_goesOnTest 106 rfl) ⟨_, rfl, ⟨by omega, by first | (intro h; exfalso; omega) | exact fun _ => (by assumption), by first | (intro h; exfalso; omega) | exact fun _ => ⟨(oQ_fr fu89 rfl (oQ_fr fu77 rfl iv0)), by first | (intro hb; exfalso; omega) | exact fun _ => pu89_2 (by omega)⟩, by omega, by omega, by omega, by first | (intro h; exfalso; omega) | exact fun _ => (by assumption), by first | (intro h; exfalso; omega) | exact fun _ => ⟨hq98, by first | exact (oqTN_fr fu89 rfl (oqTN_fr fu77 rfl iv6)) | (intro h9; exfalso; omega)⟩, by first | (intro h; exfalso; omega) | exact fun _ => oqGw_b (by omega) | exact fun _ => oqGw_of (A := (t.1 71 2).toInt) (E := (t.1 71 4).toInt) (by omega) (by omega) (by omega) (by omega) (by omega), (oqBP_fr fu89 rfl (oqBP_fr fu77 rfl iv11)), by first | (intro h; exfalso; omega) | exact fun _ => (by assumption), by first | (intro h; exfalso; omega) | exact fun _ => hq99, (owC0_fr fu89 rfl (owC0_fr fu77 rfl iv13))⟩⟩
            · skip
              refine r_aload_n C (j := 0) (oDec_at oX12_goesOnTest 97 rfl) rfl rfl ?_
              refine r_callVi C oCl12 rfl miX12_hasSquare mlX12_331 (ct_X12_hasSquare l E (u89)  ) (by decide) rfl rfl rfl (Nat.le_of_ble_eq_true rfl) (oDec_at oX12_goesOnTest 98 rfl) (fun r108 u107 pu107 fu107 => ?_)
              try dsimp only at pu107
              obtain ⟨pu107_0, pu107_1, pu107_2⟩ := pu107
              have hxu107 := oFr_nil fu107; subst hxu107
              have rr108 := n_rng r108
              refine r_if_eq C 208 (oDec_at oX12_goesOnTest 99 rfl) (by decide) (fun cd109 => ?_) (fun cd109 => ?_)
              · skip
                have lk110 : ((u89).1 71 6).toInt = (t.1 71 6).toInt := congrArg Int32.toInt (((fu89 71 6 rfl).1).trans ((fu77 71 6 rfl).1))
                have lk111 : ((u89).1 71 5).toInt = v100.toInt := congrArg Int32.toInt (ev100)
                skip
                refine r_iconst C (oDec_at oX12_goesOnTest 105 rfl) (v := k0) (by rw [qk0]; rfl) ?_
                have lk112 : ((u89).1 71 48).toInt = (t.1 71 48).toInt := congrArg Int32.toInt (((fu89 71 48 rfl).1).trans ((fu77 71 48 rfl).1))
                have lk113 : ((u89).1 71 45).toInt = (t.1 71 45).toInt := congrArg Int32.toInt (((fu89 71 45 rfl).1).trans ((fu77 71 45 rfl).1))
                have lk114 : ((u89).1 71 47).toInt = (t.1 71 47).toInt := congrArg Int32.toInt (((fu89 71 47 rfl).1).trans ((fu77 71 47 rfl).1))
                exact r_zret C (n_bool (by omega)) (oDec_at oX12_goesOnTest 106 rfl) ⟨_, rfl, ⟨by omega, by first | (intro h; exfalso; omega) | exact fun _ => (by assumption), by first | (intro h; exfalso; omega) | exact fun _ => ⟨(oQ_fr fu89 rfl (oQ_fr fu77 rfl iv0)), by first | (intro hb; exfalso; omega) | exact fun _ => pu107_2 (by omega)⟩, by omega, by omega, by omega, by first | (intro h; exfalso; omega) | exact fun _ => (by assumption), by first | (intro h; exfalso; omega) | exact fun _ => ⟨hq98, by first | exact (oqTN_fr fu89 rfl (oqTN_fr fu77 rfl iv6)) | (intro h9; exfalso; omega)⟩, by first | (intro h; exfalso; omega) | exact fun _ => oqGw_b (by omega) | exact fun _ => oqGw_of (A := (t.1 71 2).toInt) (E := (t.1 71 4).toInt) (by omega) (by omega) (by omega) (by omega) (by omega), (oqBP_fr fu89 rfl (oqBP_fr fu77 rfl iv11)), by first | (intro h; exfalso; omega) | exact fun _ => (by assumption), by first | (intro h; exfalso; omega) | exact fun _ => hq99, (owC0_fr fu89 rfl (owC0_fr fu77 rfl iv13))⟩⟩
              · skip
                have lk115 : ((u89).1 71 5).toInt = v100.toInt := congrArg Int32.toInt (ev100)
                have lk116 : ((u89).1 71 48).toInt = (t.1 71 48).toInt := congrArg Int32.toInt (((fu89 71 48 rfl).1).trans ((fu77 71 48 rfl).1))
                have lk117 : ((u89).1 71 47).toInt = (t.1 71 47).toInt := congrArg Int32.toInt (((fu89 71 47 rfl).1).trans ((fu77 71 47 rfl).1))
                have hHS := pu107_1 (by omega)
                have hn93 : g (t.1 71 2).toInt ≠ 93 := by (rcases iv8 with h9 | h9; exact h9; exact (oHS_NS hHS ((oFr_row fu89 (c := 103) rfl rfl).trans (oFr_row fu77 (c := 103) rfl rfl)) (by omega) h9).elim)
                have eW7 := oqWi_w (g := g) (A := (t.1 71 2).toInt) (E := (t.1 71 4).toInt) (i := 7) (by decide) (by omega)
                have eW8 := oqWi_w (g := g) (A := (t.1 71 2).toInt) (E := (t.1 71 4).toInt) (i := 8) (by decide) (by omega)
                have eW : oqWi g (oqSk g ((u89).1 71 2).toInt) ((u89).1 71 4).toInt = oqWi g (t.1 71 2).toInt (t.1 71 4).toInt := by rw [eS, eE]
                refine r_aload_n C (j := 0) (oDec_at oX12_goesOnTest 100 rfl) rfl rfl ?_
                refine r_iconst C (oDec_at oX12_goesOnTest 101 rfl) (v := k1) (by rw [qk1]; rfl) ?_
                refine r_aload_n C (j := 0) (oDec_at oX12_goesOnTest 102 rfl) rfl rfl ?_
                obtain ⟨v118, ev118⟩ : ∃ z : Int32, (u89).1 71 2 = z := ⟨_, rfl⟩
                have gv118 : (u89.1 71 2).toInt = v118.toInt := congrArg Int32.toInt (ev118)
                refine r_geti (k := 2) (lo := 0) (hi := 1600) C v118 oCl12 rfl (by decide) flX12_179 rfl rfl (ev118) rfl rfl (oDec_at oX12_goesOnTest 103 rfl) (fun b119 b119h => ?_)
                have lk120 : ((u89).1 71 5).toInt = v100.toInt := congrArg Int32.toInt (ev100)
                have lk121 : ((u89).1 71 5).toInt = v100.toInt := congrArg Int32.toInt (ev100)
                have lk122 : ((u89).1 71 6).toInt = (t.1 71 6).toInt := congrArg Int32.toInt (((fu89 71 6 rfl).1).trans ((fu77 71 6 rfl).1))
                refine r_callVv C oCl12 rfl miX12_fail mlX12_203 (ct7_X12_fail l E (u89) k1 v118 (by omega) (oqBP_fr fu89 rfl (oqBP_fr fu77 rfl iv11))) (by decide) rfl rfl rfl (Nat.le_of_ble_eq_true rfl) (oDec_at oX12_goesOnTest 104 rfl) (fun u123 pu123 fu123 => ?_)
                try dsimp only at pu123
                try simp only [lk120, lk121, lk122] at pu123
                obtain ⟨pu123_0, pu123_1, pu123_2⟩ := pu123
                have lk125 : ((u123).1 71 2).toInt = v118.toInt := congrArg Int32.toInt (((fu123 71 2 rfl).1).trans (ev118))
                skip
                have hq126 : oqTt g fp fq cz 2 (u123) := oqI_sqF hq98 (by omega) (oqTN_fr fu89 rfl (oqTN_fr fu77 rfl iv6)) (oQ_fr fu89 rfl (oQ_fr fu77 rfl iv0)) hHS (by omega) (by omega) ⟨by omega, by omega⟩ (by omega) (by omega)
                have hq127 : oqTx g fp fq cw cs 2 (u123) := oqTx_bd (by omega)
                refine r_iconst C (oDec_at oX12_goesOnTest 105 rfl) (v := k0) (by rw [qk0]; rfl) ?_
                refine r_pc C 209 rfl ?_
                have lk128 : ((u123).1 71 48).toInt = (t.1 71 48).toInt := congrArg Int32.toInt (((fu123 71 48 rfl).1).trans (((fu89 71 48 rfl).1).trans ((fu77 71 48 rfl).1)))
                have lk129 : ((u123).1 71 2).toInt = v118.toInt := congrArg Int32.toInt (((fu123 71 2 rfl).1).trans (ev118))
                have lk130 : ((u123).1 71 45).toInt = (t.1 71 45).toInt := congrArg Int32.toInt (((fu123 71 45 rfl).1).trans (((fu89 71 45 rfl).1).trans ((fu77 71 45 rfl).1)))
                have lk131 : ((u123).1 71 47).toInt = (t.1 71 47).toInt := congrArg Int32.toInt (((fu123 71 47 rfl).1).trans (((fu89 71 47 rfl).1).trans ((fu77 71 47 rfl).1)))
                have lk132 : ((u123).1 71 2).toInt = v118.toInt := congrArg Int32.toInt (((fu123 71 2 rfl).1).trans (ev118))
                exact r_zret C (n_bool (by omega)) (oDec_at oX12_goesOnTest 106 rfl) ⟨_, rfl, ⟨by omega, by first | (intro h; exfalso; omega) | exact fun _ => (by assumption), by first | (intro h; exfalso; omega) | exact fun _ => ⟨(oQ_frb fu123 rfl (by omega) (oQ_fr fu89 rfl (oQ_fr fu77 rfl iv0))), by first | (intro hb; exfalso; omega) | exact fun _ => pu123_2 (by omega)⟩, by omega, by omega, by omega, by first | (intro h; exfalso; omega) | exact fun _ => (by assumption), by first | (intro h; exfalso; omega) | exact fun _ => ⟨hq126, by first | exact (by assumption) | (intro h9; exfalso; omega)⟩, by first | (intro h; exfalso; omega) | exact fun _ => oqGw_b (by omega) | exact fun _ => oqGw_of (A := (t.1 71 2).toInt) (E := (t.1 71 4).toInt) (by omega) (by omega) (by omega) (by omega) (by omega), pu123_2, by first | (intro h; exfalso; omega) | exact fun _ => (by assumption), by first | (intro h; exfalso; omega) | exact fun _ => hq127, (owC0_fr fu123 rfl (owC0_fr fu89 rfl (owC0_fr fu77 rfl iv13)))⟩⟩
          · skip
            replace pu89_1 := pu89_1 (by omega)
            clear pu89_2
            have lk133 : ((u89).1 71 5).toInt = (t.1 71 5).toInt := congrArg Int32.toInt (((fu89 71 5 rfl).1).trans ((fu77 71 5 rfl).1))
            have lk134 : ((u89).1 71 48).toInt = (t.1 71 48).toInt := congrArg Int32.toInt (((fu89 71 48 rfl).1).trans ((fu77 71 48 rfl).1))
            have lk135 : ((u89).1 71 45).toInt = (t.1 71 45).toInt := congrArg Int32.toInt (((fu89 71 45 rfl).1).trans ((fu77 71 45 rfl).1))
            have lk136 : ((u89).1 71 47).toInt = (t.1 71 47).toInt := congrArg Int32.toInt (((fu89 71 47 rfl).1).trans ((fu77 71 47 rfl).1))
            have lk137 : ((u89).1 71 47).toInt = (t.1 71 47).toInt := congrArg Int32.toInt (((fu89 71 47 rfl).1).trans ((fu77 71 47 rfl).1))
            exact (ih (n - 1) (by omega)).2.2.2.2 (u89)   (oQ_fr fu89 rfl (oQ_fr fu77 rfl iv0)) (by omega) (by omega) (by omega) (by omega) (by first | exact (by assumption) | exact oqI_go hq86 (by omega) (by omega) (oFr_row fu89 (c := 103) rfl rfl) (congrArg Int32.toInt (fu89 71 47 rfl).1) (oqs_or (g := g) (p := fp) (q := fq) (a := (t.1 71 2).toInt) (b := (t.1 71 4).toInt) (o := (t.1 71 48).toInt) (oqI_nn hq86 (by omega) (oqTN_fr fu77 rfl iv6) (by omega)) (oqWi_y (i := 7) (by decide) (by omega))) (by first | omega | (rw [show ((u77).1 71 2).toInt = (t.1 71 2).toInt by omega]; omega)) (by first | omega | (congr 1; omega)) (by first | omega | (congr 1; omega)) (by first | omega | (congr 1; omega)) (by first | omega | (congr 1; omega)) (by first | omega | (congr 1; omega))) (oqTN_fr fu89 rfl (oqTN_fr fu77 rfl iv6)) (oqBP_fr fu89 rfl (oqBP_fr fu77 rfl iv11)) (by first | exact (by assumption) | exact oqAw_of (A := (t.1 71 2).toInt) (b := (t.1 71 4).toInt) hq87 (by omega) (oqSq_of fu89 rfl) (by first | omega | (rw [show ((u77).1 71 2).toInt = (t.1 71 2).toInt by omega]; omega)) (by omega) (oqWi_y (i := 7) (by decide) (by omega)) (by omega) (by omega)) (owC0_fr fu89 rfl (owC0_fr fu77 rfl iv13)) (by omega)
        · skip
          replace pu77_1 := pu77_1 (by omega)
          clear pu77_2
          have lk138 : ((u77).1 71 5).toInt = (t.1 71 5).toInt := congrArg Int32.toInt ((fu77 71 5 rfl).1)
          have lk139 : ((u77).1 71 48).toInt = (t.1 71 48).toInt := congrArg Int32.toInt ((fu77 71 48 rfl).1)
          have lk140 : ((u77).1 71 45).toInt = (t.1 71 45).toInt := congrArg Int32.toInt ((fu77 71 45 rfl).1)
          have lk141 : ((u77).1 71 47).toInt = (t.1 71 47).toInt := congrArg Int32.toInt ((fu77 71 47 rfl).1)
          have lk142 : ((u77).1 71 47).toInt = (t.1 71 47).toInt := congrArg Int32.toInt ((fu77 71 47 rfl).1)
          exact (ih (n - 1) (by omega)).2.2.2.1 (u77)   (oQ_fr fu77 rfl iv0) (by omega) (by omega) (by omega) (by omega) (by first | exact (by assumption) | exact oqI_go iv5 (by omega) (by omega) (oFr_row fu77 (c := 103) rfl rfl) (congrArg Int32.toInt (fu77 71 47 rfl).1) (oqs_and (g := g) (p := fp) (q := fq) (a := (t.1 71 2).toInt) (b := (t.1 71 4).toInt) (o := (t.1 71 48).toInt) (oqI_nn iv5 (by omega) iv6 (by omega)) (oqWi_y (i := 8) (by decide) (by omega))) (by first | omega | (rw [show ((t).1 71 2).toInt = (t.1 71 2).toInt by omega]; omega)) (by first | omega | (congr 1; omega)) (by first | omega | (congr 1; omega)) (by first | omega | (congr 1; omega)) (by first | omega | (congr 1; omega)) (by first | omega | (congr 1; omega))) (oqTN_fr fu77 rfl iv6) (oqBP_fr fu77 rfl iv11) (by first | exact (by assumption) | exact oqAw_of (A := (t.1 71 2).toInt) (b := (t.1 71 4).toInt) iv12 (by omega) (oqSq_of fu77 rfl) (by first | omega | (rw [show ((t).1 71 2).toInt = (t.1 71 2).toInt by omega]; omega)) (by omega) (oqWi_y (i := 8) (by decide) (by omega)) (by omega) (by omega)) (owC0_fr fu77 rfl iv13) (by omega)
      · intro t   iv0 iv1 iv2 iv3 iv4 iv5 iv6 iv7 iv8 iv9 hmu
        refine r_ty C (fun hty => ?_)
        have hty_coded : (0 : Int) ≤ ((t).1 71 45).toInt ∧ ((t).1 71 45).toInt ≤ 1600 := hty.1 71 45
        have hty_waits : (0 : Int) ≤ ((t).1 71 47).toInt ∧ ((t).1 71 47).toInt ≤ 1700 := hty.1 71 47
        have hty_at : (0 : Int) ≤ ((t).1 71 2).toInt ∧ ((t).1 71 2).toInt ≤ 1600 := hty.1 71 2
        clear hty
        refine r_aload_n C (j := 0) (oDec_at oX12_goesOnTest 43 rfl) rfl rfl ?_
        refine r_bipush C (oDec_at oX12_goesOnTest 44 rfl) (v := k14) (by rw [qk14]; rfl) ?_
        refine r_callVi C oCl12 rfl miX12_isOn mlX12_310 (ct_X12_isOn l E (t) k14 ) (by decide) rfl rfl rfl (Nat.le_of_ble_eq_true rfl) (oDec_at oX12_goesOnTest 45 rfl) (fun r144 u143 pu143 fu143 => ?_)
        try dsimp only at pu143
        obtain ⟨pu143_0, pu143_1, pu143_2⟩ := pu143
        have hxu143 := oFr_nil fu143; subst hxu143
        have rr144 := n_rng r144
        refine r_if_eq C 103 (oDec_at oX12_goesOnTest 46 rfl) (by decide) (fun cd145 => ?_) (fun cd145 => ?_)
        · skip
          clear pu143_1
          replace pu143_2 := pu143_2 (by omega)
          have htn9 := iv6 (by omega)
          refine r_aload_n C (j := 0) (oDec_at oX12_goesOnTest 50 rfl) rfl rfl ?_
          refine r_getF (k := 46) (b := 103) C oCl12 rfl (by decide) flX12_111 rfl rfl rfl (oDec_at oX12_goesOnTest 51 rfl) ?_
          refine r_aload_n C (j := 0) (oDec_at oX12_goesOnTest 52 rfl) rfl rfl ?_
          obtain ⟨v146, ev146⟩ : ∃ z : Int32, (t).1 71 47 = z := ⟨_, rfl⟩
          have gv146 : (t.1 71 47).toInt = v146.toInt := congrArg Int32.toInt (ev146)
          refine r_geti (k := 47) (lo := 0) (hi := 1700) C v146 oCl12 rfl (by decide) flX12_277 rfl rfl (ev146) rfl rfl (oDec_at oX12_goesOnTest 53 rfl) (fun b147 b147h => ?_)
          refine r_bipush C (oDec_at oX12_goesOnTest 54 rfl) (v := k14) (by rw [qk14]; rfl) ?_
          refine r_iast (n := 1700) (lo := (-2147483648)) (hi := 2147483647) C rfl (by decide) rfl rfl ⟨by omega, by omega⟩ (by decide) rfl rfl rfl rfl (n_rng _) (oDec_at oX12_goesOnTest 55 rfl) ?_
          refine r_pc C 114 rfl ?_
          refine r_aload_n C (j := 0) (oDec_at oX12_goesOnTest 56 rfl) rfl rfl ?_
          refine r_dup C (oDec_at oX12_goesOnTest 57 rfl) rfl ?_
          refine r_geti (k := 47) (lo := 0) (hi := 1700) C v146 oCl12 rfl (by decide) flX12_277 rfl rfl (((pI_ne (a := 71) (b := 47) (c := 103) _ _ (Or.inl (by decide)))).trans (ev146)) rfl rfl (oDec_at oX12_goesOnTest 58 rfl) (fun _ _ => ?_)
          refine r_iconst C (oDec_at oX12_goesOnTest 59 rfl) (v := k1) (by rw [qk1]; rfl) ?_
          obtain ⟨v148, ev148⟩ : ∃ z : Int32, z = v146 + k1 := ⟨_, rfl⟩
          have hv148 : v148.toInt = v146.toInt + k1.toInt := n_add ev148 (by omega) (by omega)
          refine r_iadd C v148 (oDec_at oX12_goesOnTest 60 rfl) ev148 ?_
          refine r_puti (k := 47) (lo := 0) (hi := 1700) C oCl12 rfl (by decide) flX12_277 rfl rfl rfl rfl rfl rfl rfl rfl ⟨by omega, by omega⟩ (oDec_at oX12_goesOnTest 61 rfl) ?_
          refine r_pc C 124 rfl ?_
          have hq149 : oQ 9999 0 ((pI (pI t 103 v146.toNatClampNeg k14) 71 47 v148)) := oQ_push (x := 0) iv0 (by assumption) (by omega) (by omega) (by omega)
          have hq150 : oqTt g fp fq cz 0 ((pI (pI t 103 v146.toNatClampNeg k14) 71 47 v148)) := oqI_push iv5 iv6 (by assumption) (by omega) (by omega) (by omega)
          have hq151 : oqTx g fp fq cw cs 0 ((pI (pI t 103 v146.toNatClampNeg k14) 71 47 v148)) := oqAw_push iv8 (by assumption) (by omega) (by omega) (Or.inl ⟨rfl, by omega⟩) (fun h9 => ⟨by omega, by omega, fun h8 => by omega⟩)
          refine r_iconst C (oDec_at oX12_goesOnTest 62 rfl) (v := k1) (by rw [qk1]; rfl) ?_
          have lk152 : (((pI (pI t 103 v146.toNatClampNeg k14) 71 47 v148)).1 71 48).toInt = (t.1 71 48).toInt := congrArg Int32.toInt (((pI_ne (a := 71) (b := 48) (c := 71) (k := 47) _ _ (Or.inr (by decide)))).trans ((pI_ne (a := 71) (b := 48) (c := 103) _ _ (Or.inl (by decide)))))
          have lk153 : (((pI (pI t 103 v146.toNatClampNeg k14) 71 47 v148)).1 71 2).toInt = (t.1 71 2).toInt := congrArg Int32.toInt (((pI_ne (a := 71) (b := 2) (c := 71) (k := 47) _ _ (Or.inr (by decide)))).trans ((pI_ne (a := 71) (b := 2) (c := 103) _ _ (Or.inl (by decide)))))
          have lk154 : (((pI (pI t 103 v146.toNatClampNeg k14) 71 47 v148)).1 71 45).toInt = (t.1 71 45).toInt := congrArg Int32.toInt (((pI_ne (a := 71) (b := 45) (c := 71) (k := 47) _ _ (Or.inr (by decide)))).trans ((pI_ne (a := 71) (b := 45) (c := 103) _ _ (Or.inl (by decide)))))
          have lk155 : (((pI (pI t 103 v146.toNatClampNeg k14) 71 47 v148)).1 71 47).toInt = v148.toInt := congrArg Int32.toInt ((pI_self _ _ _ _))
          have lk156 : (((pI (pI t 103 v146.toNatClampNeg k14) 71 47 v148)).1 71 2).toInt = (t.1 71 2).toInt := congrArg Int32.toInt (((pI_ne (a := 71) (b := 2) (c := 71) (k := 47) _ _ (Or.inr (by decide)))).trans ((pI_ne (a := 71) (b := 2) (c := 103) _ _ (Or.inl (by decide)))))
          exact r_zret C (n_bool (by omega)) (oDec_at oX12_goesOnTest 63 rfl) ⟨_, rfl, ⟨by omega, by first | (intro h; exfalso; omega) | exact fun _ => hq149, by first | (intro h; exfalso; omega) | exact fun _ => ⟨(by assumption), by first | (intro hb; exfalso; omega) | exact fun _ => pu143_2 (by omega)⟩, by omega, by omega, by omega, by first | (intro h; exfalso; omega) | exact fun _ => hq150, by first | (intro h; exfalso; omega) | exact fun _ => ⟨(by assumption), by first | exact (by assumption) | (intro h9; exfalso; omega)⟩, by first | (intro h; exfalso; omega) | exact fun _ => oqGw_b (by omega) | exact fun _ => oqGw_of (A := (t.1 71 2).toInt) (E := (t.1 71 4).toInt) (by omega) (by omega) (by omega) (by omega) (by omega), (oqBP_fr (oFr_oneI (q := 12) (m := 47) rfl (by rfl)) rfl (oqBP_fr (oFr_oneI (q := 79) (m := 9999) rfl (by rfl)) rfl iv7)), by first | (intro h; exfalso; omega) | exact fun _ => hq151, by first | (intro h; exfalso; omega) | exact fun _ => (by assumption), (owC0_fr (oFr_oneI (q := 12) (m := 47) rfl (by rfl)) rfl (owC0_fr (oFr_oneI (q := 79) (m := 9999) rfl (by rfl)) rfl iv9))⟩⟩
        · skip
          replace pu143_1 := pu143_1 (by omega)
          clear pu143_2
          refine r_aload_n C (j := 0) (oDec_at oX12_goesOnTest 47 rfl) rfl rfl ?_
          refine r_callVv C oCl12 rfl miX12_drops mlX12_289 (ct9_X12_drops l E (t)  (Cq) (by omega) (by omega) iv9) (by decide) rfl rfl rfl (Nat.le_of_ble_eq_true rfl) (oDec_at oX12_goesOnTest 48 rfl) (fun u157 pu157 fu157 => ?_)
          try dsimp only at pu157
          obtain ⟨pu157_0, pu157_1, pu157_2, pu157_3⟩ := pu157
          have hq159 : oQ 9999 1 (u157) := oQ_drop iv0 pu157_0 (by omega) (by omega) (by omega) (by omega)
          have hq160 : oqTt g fp fq cz 0 (u157) := oqI_drop iv5 pu157_0 (by omega) (fun _ => by omega)
          have hq161 : oqTN (u157) := oqTN_drop iv5 (by omega) pu157_0 (by omega) (by omega)
          have hq162 : oqAw g fp fq cw cs 8 (u157) := oqAw_drop iv8 (by omega) pu157_0 (by omega) (by omega) (Or.inl (by omega))
          refine r_goto C (tgt := 87) (oDec_at oX12_goesOnTest 49 rfl) (by decide) ?_
          have lk163 : ((u157).1 71 5).toInt = (t.1 71 5).toInt := congrArg Int32.toInt ((fu157 71 5 rfl).1)
          have lk164 : ((u157).1 71 48).toInt = (t.1 71 48).toInt := congrArg Int32.toInt ((fu157 71 48 rfl).1)
          have lk165 : ((u157).1 71 2).toInt = (t.1 71 2).toInt := congrArg Int32.toInt ((fu157 71 2 rfl).1)
          have lk166 : ((u157).1 71 2).toInt = (t.1 71 2).toInt := congrArg Int32.toInt ((fu157 71 2 rfl).1)
          exact (ih (n - 1) (by omega)).2.2.2.1 (u157)   hq159 (by omega) (by omega) (by omega) (by omega) (by first | exact hq160 | exact oqI_go (by assumption) (by omega) (by omega) (oFr_row fu157 (c := 103) rfl rfl) (congrArg Int32.toInt (fu157 71 47 rfl).1) (oqs_and (g := g) (p := fp) (q := fq) (a := (t.1 71 2).toInt) (b := (t.1 71 4).toInt) (o := (t.1 71 48).toInt) (oqI_nn (by assumption) (by omega) iv6 (by omega)) (oqWi_y (i := 8) (by decide) (by omega))) (by first | omega | (rw [show ((t).1 71 2).toInt = (t.1 71 2).toInt by omega]; omega)) (by first | omega | (congr 1; omega)) (by first | omega | (congr 1; omega)) (by first | omega | (congr 1; omega)) (by first | omega | (congr 1; omega)) (by first | omega | (congr 1; omega))) hq161 (oqBP_fr fu157 rfl iv7) (by first | exact hq162 | exact oqAw_of (A := (t.1 71 2).toInt) (b := (t.1 71 4).toInt) (by assumption) (by omega) (oqSq_of fu157 rfl) (by first | omega | (rw [show ((t).1 71 2).toInt = (t.1 71 2).toInt by omega]; omega)) (by omega) (oqWi_y (i := 8) (by decide) (by omega)) (by omega) (by omega)) pu157_3 (by omega)
      · intro t   iv0 iv1 iv2 iv3 iv4 iv5 iv6 iv7 iv8 iv9 hmu
        refine r_ty C (fun hty => ?_)
        have hty_coded : (0 : Int) ≤ ((t).1 71 45).toInt ∧ ((t).1 71 45).toInt ≤ 1600 := hty.1 71 45
        have hty_waits : (0 : Int) ≤ ((t).1 71 47).toInt ∧ ((t).1 71 47).toInt ≤ 1700 := hty.1 71 47
        have hty_at : (0 : Int) ≤ ((t).1 71 2).toInt ∧ ((t).1 71 2).toInt ≤ 1600 := hty.1 71 2
        clear hty
        refine r_aload_n C (j := 0) (oDec_at oX12_goesOnTest 69 rfl) rfl rfl ?_
        refine r_bipush C (oDec_at oX12_goesOnTest 70 rfl) (v := k14) (by rw [qk14]; rfl) ?_
        refine r_callVi C oCl12 rfl miX12_isOn mlX12_310 (ct_X12_isOn l E (t) k14 ) (by decide) rfl rfl rfl (Nat.le_of_ble_eq_true rfl) (oDec_at oX12_goesOnTest 71 rfl) (fun r168 u167 pu167 fu167 => ?_)
        try dsimp only at pu167
        obtain ⟨pu167_0, pu167_1, pu167_2⟩ := pu167
        have hxu167 := oFr_nil fu167; subst hxu167
        have rr168 := n_rng r168
        refine r_if_ne C 155 (oDec_at oX12_goesOnTest 72 rfl) (by decide) (fun cd169 => ?_) (fun cd169 => ?_)
        · skip
          replace pu167_1 := pu167_1 (by omega)
          clear pu167_2
          refine r_aload_n C (j := 0) (oDec_at oX12_goesOnTest 77 rfl) rfl rfl ?_
          refine r_callVv C oCl12 rfl miX12_drops mlX12_289 (ct9_X12_drops l E (t)  (Cq) (by omega) (by omega) iv9) (by decide) rfl rfl rfl (Nat.le_of_ble_eq_true rfl) (oDec_at oX12_goesOnTest 78 rfl) (fun u170 pu170 fu170 => ?_)
          try dsimp only at pu170
          obtain ⟨pu170_0, pu170_1, pu170_2, pu170_3⟩ := pu170
          have hq172 : oQ 9999 1 (u170) := oQ_drop iv0 pu170_0 (by omega) (by omega) (by omega) (by omega)
          have hq173 : oqTt g fp fq cz 0 (u170) := oqI_drop iv5 pu170_0 (by omega) (fun _ => by omega)
          have hq174 : oqTN (u170) := oqTN_drop iv5 (by omega) pu170_0 (by omega) (by omega)
          have hq175 : oqAw g fp fq cw cs 7 (u170) := oqAw_drop iv8 (by omega) pu170_0 (by omega) (by omega) (by first | exact Or.inl (by omega) | exact Or.inr ⟨by omega, rfl⟩)
          refine r_goto C (tgt := 137) (oDec_at oX12_goesOnTest 79 rfl) (by decide) ?_
          have lk176 : ((u170).1 71 5).toInt = (t.1 71 5).toInt := congrArg Int32.toInt ((fu170 71 5 rfl).1)
          have lk177 : ((u170).1 71 48).toInt = (t.1 71 48).toInt := congrArg Int32.toInt ((fu170 71 48 rfl).1)
          have lk178 : ((u170).1 71 2).toInt = (t.1 71 2).toInt := congrArg Int32.toInt ((fu170 71 2 rfl).1)
          have lk179 : ((u170).1 71 2).toInt = (t.1 71 2).toInt := congrArg Int32.toInt ((fu170 71 2 rfl).1)
          exact (ih (n - 1) (by omega)).2.2.2.2 (u170)   hq172 (by omega) (by omega) (by omega) (by omega) (by first | exact hq173 | exact oqI_go (by assumption) (by omega) (by omega) (oFr_row fu170 (c := 103) rfl rfl) (congrArg Int32.toInt (fu170 71 47 rfl).1) (oqs_or (g := g) (p := fp) (q := fq) (a := (t.1 71 2).toInt) (b := (t.1 71 4).toInt) (o := (t.1 71 48).toInt) (oqI_nn (by assumption) (by omega) iv6 (by omega)) (oqWi_y (i := 7) (by decide) (by omega))) (by first | omega | (rw [show ((t).1 71 2).toInt = (t.1 71 2).toInt by omega]; omega)) (by first | omega | (congr 1; omega)) (by first | omega | (congr 1; omega)) (by first | omega | (congr 1; omega)) (by first | omega | (congr 1; omega)) (by first | omega | (congr 1; omega))) hq174 (oqBP_fr fu170 rfl iv7) (by first | exact hq175 | exact oqAw_of (A := (t.1 71 2).toInt) (b := (t.1 71 4).toInt) (by assumption) (by omega) (oqSq_of fu170 rfl) (by first | omega | (rw [show ((t).1 71 2).toInt = (t.1 71 2).toInt by omega]; omega)) (by omega) (oqWi_y (i := 7) (by decide) (by omega)) (by omega) (by omega)) pu170_3 (by omega)
        · skip
          clear pu167_1
          replace pu167_2 := pu167_2 (by omega)
          refine r_aload_n C (j := 0) (oDec_at oX12_goesOnTest 73 rfl) rfl rfl ?_
          refine r_bipush C (oDec_at oX12_goesOnTest 74 rfl) (v := k15) (by rw [qk15]; rfl) ?_
          refine r_callVi C oCl12 rfl miX12_isOn mlX12_310 (ct_X12_isOn l E (t) k15 ) (by decide) rfl rfl rfl (Nat.le_of_ble_eq_true rfl) (oDec_at oX12_goesOnTest 75 rfl) (fun r181 u180 pu180 fu180 => ?_)
          try dsimp only at pu180
          obtain ⟨pu180_0, pu180_1, pu180_2⟩ := pu180
          have hxu180 := oFr_nil fu180; subst hxu180
          have rr181 := n_rng r181
          refine r_if_eq C 162 (oDec_at oX12_goesOnTest 76 rfl) (by decide) (fun cd182 => ?_) (fun cd182 => ?_)
          · skip
            clear pu180_1
            replace pu180_2 := pu180_2 (by omega)
            have htn9 := iv6 (by omega)
            refine r_aload_n C (j := 0) (oDec_at oX12_goesOnTest 80 rfl) rfl rfl ?_
            refine r_getF (k := 46) (b := 103) C oCl12 rfl (by decide) flX12_111 rfl rfl rfl (oDec_at oX12_goesOnTest 81 rfl) ?_
            refine r_aload_n C (j := 0) (oDec_at oX12_goesOnTest 82 rfl) rfl rfl ?_
            obtain ⟨v183, ev183⟩ : ∃ z : Int32, (t).1 71 47 = z := ⟨_, rfl⟩
            have gv183 : (t.1 71 47).toInt = v183.toInt := congrArg Int32.toInt (ev183)
            refine r_geti (k := 47) (lo := 0) (hi := 1700) C v183 oCl12 rfl (by decide) flX12_277 rfl rfl (ev183) rfl rfl (oDec_at oX12_goesOnTest 83 rfl) (fun b184 b184h => ?_)
            refine r_bipush C (oDec_at oX12_goesOnTest 84 rfl) (v := k15) (by rw [qk15]; rfl) ?_
            refine r_iast (n := 1700) (lo := (-2147483648)) (hi := 2147483647) C rfl (by decide) rfl rfl ⟨by omega, by omega⟩ (by decide) rfl rfl rfl rfl (n_rng _) (oDec_at oX12_goesOnTest 85 rfl) ?_
            refine r_pc C 173 rfl ?_
            refine r_aload_n C (j := 0) (oDec_at oX12_goesOnTest 86 rfl) rfl rfl ?_
            refine r_dup C (oDec_at oX12_goesOnTest 87 rfl) rfl ?_
            refine r_geti (k := 47) (lo := 0) (hi := 1700) C v183 oCl12 rfl (by decide) flX12_277 rfl rfl (((pI_ne (a := 71) (b := 47) (c := 103) _ _ (Or.inl (by decide)))).trans (ev183)) rfl rfl (oDec_at oX12_goesOnTest 88 rfl) (fun _ _ => ?_)
            refine r_iconst C (oDec_at oX12_goesOnTest 89 rfl) (v := k1) (by rw [qk1]; rfl) ?_
            obtain ⟨v185, ev185⟩ : ∃ z : Int32, z = v183 + k1 := ⟨_, rfl⟩
            have hv185 : v185.toInt = v183.toInt + k1.toInt := n_add ev185 (by omega) (by omega)
            refine r_iadd C v185 (oDec_at oX12_goesOnTest 90 rfl) ev185 ?_
            refine r_puti (k := 47) (lo := 0) (hi := 1700) C oCl12 rfl (by decide) flX12_277 rfl rfl rfl rfl rfl rfl rfl rfl ⟨by omega, by omega⟩ (oDec_at oX12_goesOnTest 91 rfl) ?_
            refine r_pc C 183 rfl ?_
            have hq186 : oQ 9999 0 ((pI (pI t 103 v183.toNatClampNeg k15) 71 47 v185)) := oQ_push (x := 0) iv0 (by assumption) (by omega) (by omega) (by omega)
            have hq187 : oqTt g fp fq cz 0 ((pI (pI t 103 v183.toNatClampNeg k15) 71 47 v185)) := oqI_push iv5 iv6 (by assumption) (by omega) (by omega) (by omega)
            have hq188 : oqTx g fp fq cw cs 0 ((pI (pI t 103 v183.toNatClampNeg k15) 71 47 v185)) := oqAw_push iv8 (by assumption) (by omega) (by omega) (Or.inr ⟨rfl, by omega⟩) (fun h9 => ⟨by omega, by omega, fun h8 => by omega⟩)
            refine r_iconst C (oDec_at oX12_goesOnTest 92 rfl) (v := k1) (by rw [qk1]; rfl) ?_
            have lk189 : (((pI (pI t 103 v183.toNatClampNeg k15) 71 47 v185)).1 71 48).toInt = (t.1 71 48).toInt := congrArg Int32.toInt (((pI_ne (a := 71) (b := 48) (c := 71) (k := 47) _ _ (Or.inr (by decide)))).trans ((pI_ne (a := 71) (b := 48) (c := 103) _ _ (Or.inl (by decide)))))
            have lk190 : (((pI (pI t 103 v183.toNatClampNeg k15) 71 47 v185)).1 71 2).toInt = (t.1 71 2).toInt := congrArg Int32.toInt (((pI_ne (a := 71) (b := 2) (c := 71) (k := 47) _ _ (Or.inr (by decide)))).trans ((pI_ne (a := 71) (b := 2) (c := 103) _ _ (Or.inl (by decide)))))
            have lk191 : (((pI (pI t 103 v183.toNatClampNeg k15) 71 47 v185)).1 71 45).toInt = (t.1 71 45).toInt := congrArg Int32.toInt (((pI_ne (a := 71) (b := 45) (c := 71) (k := 47) _ _ (Or.inr (by decide)))).trans ((pI_ne (a := 71) (b := 45) (c := 103) _ _ (Or.inl (by decide)))))
            have lk192 : (((pI (pI t 103 v183.toNatClampNeg k15) 71 47 v185)).1 71 47).toInt = v185.toInt := congrArg Int32.toInt ((pI_self _ _ _ _))
            have lk193 : (((pI (pI t 103 v183.toNatClampNeg k15) 71 47 v185)).1 71 2).toInt = (t.1 71 2).toInt := congrArg Int32.toInt (((pI_ne (a := 71) (b := 2) (c := 71) (k := 47) _ _ (Or.inr (by decide)))).trans ((pI_ne (a := 71) (b := 2) (c := 103) _ _ (Or.inl (by decide)))))
            exact r_zret C (n_bool (by omega)) (oDec_at oX12_goesOnTest 93 rfl) ⟨_, rfl, ⟨by omega, by first | (intro h; exfalso; omega) | exact fun _ => hq186, by first | (intro h; exfalso; omega) | exact fun _ => ⟨(by assumption), by first | (intro hb; exfalso; omega) | exact fun _ => pu180_2 (by omega)⟩, by omega, by omega, by omega, by first | (intro h; exfalso; omega) | exact fun _ => hq187, by first | (intro h; exfalso; omega) | exact fun _ => ⟨(by assumption), by first | exact (by assumption) | (intro h9; exfalso; omega)⟩, by first | (intro h; exfalso; omega) | exact fun _ => oqGw_b (by omega) | exact fun _ => oqGw_of (A := (t.1 71 2).toInt) (E := (t.1 71 4).toInt) (by omega) (by omega) (by omega) (by omega) (by omega), (oqBP_fr (oFr_oneI (q := 12) (m := 47) rfl (by rfl)) rfl (oqBP_fr (oFr_oneI (q := 79) (m := 9999) rfl (by rfl)) rfl iv7)), by first | (intro h; exfalso; omega) | exact fun _ => hq188, by first | (intro h; exfalso; omega) | exact fun _ => (by assumption), (owC0_fr (oFr_oneI (q := 12) (m := 47) rfl (by rfl)) rfl (owC0_fr (oFr_oneI (q := 79) (m := 9999) rfl (by rfl)) rfl iv9))⟩⟩
          · skip
            replace pu180_1 := pu180_1 (by omega)
            clear pu180_2
            refine r_aload_n C (j := 0) (oDec_at oX12_goesOnTest 77 rfl) rfl rfl ?_
            refine r_callVv C oCl12 rfl miX12_drops mlX12_289 (ct9_X12_drops l E (t)  (Cq) (by omega) (by omega) iv9) (by decide) rfl rfl rfl (Nat.le_of_ble_eq_true rfl) (oDec_at oX12_goesOnTest 78 rfl) (fun u194 pu194 fu194 => ?_)
            try dsimp only at pu194
            obtain ⟨pu194_0, pu194_1, pu194_2, pu194_3⟩ := pu194
            have hq196 : oQ 9999 1 (u194) := oQ_drop iv0 pu194_0 (by omega) (by omega) (by omega) (by omega)
            have hq197 : oqTt g fp fq cz 0 (u194) := oqI_drop iv5 pu194_0 (by omega) (fun _ => by omega)
            have hq198 : oqTN (u194) := oqTN_drop iv5 (by omega) pu194_0 (by omega) (by omega)
            have hq199 : oqAw g fp fq cw cs 7 (u194) := oqAw_drop iv8 (by omega) pu194_0 (by omega) (by omega) (by first | exact Or.inl (by omega) | exact Or.inr ⟨by omega, rfl⟩)
            refine r_goto C (tgt := 137) (oDec_at oX12_goesOnTest 79 rfl) (by decide) ?_
            have lk200 : ((u194).1 71 5).toInt = (t.1 71 5).toInt := congrArg Int32.toInt ((fu194 71 5 rfl).1)
            have lk201 : ((u194).1 71 48).toInt = (t.1 71 48).toInt := congrArg Int32.toInt ((fu194 71 48 rfl).1)
            have lk202 : ((u194).1 71 2).toInt = (t.1 71 2).toInt := congrArg Int32.toInt ((fu194 71 2 rfl).1)
            have lk203 : ((u194).1 71 2).toInt = (t.1 71 2).toInt := congrArg Int32.toInt ((fu194 71 2 rfl).1)
            exact (ih (n - 1) (by omega)).2.2.2.2 (u194)   hq196 (by omega) (by omega) (by omega) (by omega) (by first | exact hq197 | exact oqI_go (by assumption) (by omega) (by omega) (oFr_row fu194 (c := 103) rfl rfl) (congrArg Int32.toInt (fu194 71 47 rfl).1) (oqs_or (g := g) (p := fp) (q := fq) (a := (t.1 71 2).toInt) (b := (t.1 71 4).toInt) (o := (t.1 71 48).toInt) (oqI_nn (by assumption) (by omega) iv6 (by omega)) (oqWi_y (i := 7) (by decide) (by omega))) (by first | omega | (rw [show ((t).1 71 2).toInt = (t.1 71 2).toInt by omega]; omega)) (by first | omega | (congr 1; omega)) (by first | omega | (congr 1; omega)) (by first | omega | (congr 1; omega)) (by first | omega | (congr 1; omega)) (by first | omega | (congr 1; omega))) hq198 (oqBP_fr fu194 rfl iv7) (by first | exact hq199 | exact oqAw_of (A := (t.1 71 2).toInt) (b := (t.1 71 4).toInt) (by assumption) (by omega) (oqSq_of fu194 rfl) (by first | omega | (rw [show ((t).1 71 2).toInt = (t.1 71 2).toInt by omega]; omega)) (by omega) (oqWi_y (i := 7) (by decide) (by omega)) (by omega) (by omega)) pu194_3 (by omega)
  exact (key (4000 * (1601 - ((s).1 71 2).toInt)).toNat).1 (s)   hp0 (by omega) (by omega) (by omega) (by omega) hp4 hp5 hp6 hp7 hp8 hp9 hp10 (by omega)
set_option maxHeartbeats 4000000 in
set_option maxRecDepth 100000 in
theorem ct9_X12_test (l : Launch) (E : oE) (s : oS)  (g : Int → Int) (fp : Int) (fq : Int) (cz : oqCf) (cw : oqCw) (cs : Nat) (Cq : Nat → Int32) (hp0 : oQ 9999 0 s) (hp1 : (s.1 71 5).toInt = 0) (hp2 : 0 ≤ (s.1 71 48).toInt ∧ (s.1 71 48).toInt ≤ 6) (hp3 : (s.1 71 45).toInt + (s.1 71 47).toInt + 5 ≤ (s.1 71 2).toInt) (hp4 : oqTt g fp fq cz 0 s) (hp5 : oqZ g s) (hp6 : oqWd s) (hp7 : oqMo fp fq s) (hp8 : oqBP s) (hp9 : oqTx g fp fq cw cs 0 s) (hp10 : owC0 Cq s) : oMet l 8 yX12_test cX12_test 3 none [(12, 2), (12, 4), (12, 5), (12, 6), (12, 9), (12, 45), (12, 47), (12, 48), (12, 55), (78, 9999), (79, 9999)] E s [.ref (oad E 71)] (oPv (fun u => (oQ 9999 1 u) ∧ ((s.1 71 2).toInt - (s.1 71 45).toInt - (s.1 71 47).toInt ≤ (u.1 71 2).toInt - (u.1 71 45).toInt - (u.1 71 47).toInt + 2) ∧ ((u.1 71 5).toInt = 0 → (s.1 71 2).toInt - (s.1 71 45).toInt - (s.1 71 47).toInt ≤ (u.1 71 2).toInt - (u.1 71 45).toInt - (u.1 71 47).toInt) ∧ ((s.1 71 2).toInt ≤ (u.1 71 2).toInt) ∧ (oqE8 g fp fq cz u) ∧ (oqBP u) ∧ (oqE8w g fp fq cw cs u) ∧ (owC0 Cq u))) := by
  refine oMet.of (lv := [(0, .ref (oad E 71))]) (by decide +kernel) (Nat.le_of_ble_eq_true rfl) rfl (fun J C hT => ?_)
  have C : oC l 8 cX12_test RX12 3 none [(12, 2), (12, 4), (12, 5), (12, 6), (12, 9), (12, 45), (12, 47), (12, 48), (12, 55), (78, 9999), (79, 9999)] E s (oPv (fun u => (oQ 9999 1 u) ∧ ((s.1 71 2).toInt - (s.1 71 45).toInt - (s.1 71 47).toInt ≤ (u.1 71 2).toInt - (u.1 71 45).toInt - (u.1 71 47).toInt + 2) ∧ ((u.1 71 5).toInt = 0 → (s.1 71 2).toInt - (s.1 71 45).toInt - (s.1 71 47).toInt ≤ (u.1 71 2).toInt - (u.1 71 45).toInt - (u.1 71 47).toInt) ∧ ((s.1 71 2).toInt ≤ (u.1 71 2).toInt) ∧ (oqE8 g fp fq cz u) ∧ (oqBP u) ∧ (oqE8w g fp fq cw cs u) ∧ (owC0 Cq u))) J := C
  obtain ⟨k0, qk0⟩ : ∃ z : Int32, z = 0 := ⟨_, rfl⟩
  have ek0 : k0.toInt = 0 := by rw [qk0]; rfl
  obtain ⟨k1, qk1⟩ : ∃ z : Int32, z = 1 := ⟨_, rfl⟩
  have ek1 : k1.toInt = 1 := by rw [qk1]; rfl
  obtain ⟨k16, qk16⟩ : ∃ z : Int32, z = 16 := ⟨_, rfl⟩
  have ek16 : k16.toInt = 16 := by rw [qk16]; rfl
  obtain ⟨k25, qk25⟩ : ∃ z : Int32, z = 25 := ⟨_, rfl⟩
  have ek25 : k25.toInt = 25 := by rw [qk25]; rfl
  obtain ⟨k91, qk91⟩ : ∃ z : Int32, z = 91 := ⟨_, rfl⟩
  have ek91 : k91.toInt = 91 := by rw [qk91]; rfl
  have key : ∀ n : Nat, (∀ (t : oS) (x1 : Int32), (x1.toInt = 1 → oQ 9999 0 t) → (x1.toInt = 0 → (oQ 9999 1 t ∧ oNQ t)) → (0 ≤ x1.toInt ∧ x1.toInt ≤ 1) → (0 ≤ (t.1 71 48).toInt ∧ (t.1 71 48).toInt ≤ 6) → ((s.1 71 2).toInt - (s.1 71 45).toInt - (s.1 71 47).toInt ≤ (t.1 71 2).toInt - (t.1 71 45).toInt - (t.1 71 47).toInt + 2) → ((t.1 71 5).toInt = 0 → (s.1 71 2).toInt - (s.1 71 45).toInt - (s.1 71 47).toInt ≤ (t.1 71 2).toInt - (t.1 71 45).toInt - (t.1 71 47).toInt) → ((s.1 71 2).toInt ≤ (t.1 71 2).toInt) → (x1.toInt = 1 → oqTt g fp fq cz 0 t) → (x1.toInt = 0 → (oqTt g fp fq cz 2 t ∧ oqTN t)) → (x1.toInt = 0 → oqGw g t) → (oqZ g t) → (oqWd t) → (oqMo fp fq t) → (oqBP t) → (x1.toInt = 1 → oqTx g fp fq cw cs 0 t) → (x1.toInt = 0 → oqTx g fp fq cw cs 2 t) → (owC0 Cq t) → 4000 * (1602 - (t.1 71 2).toInt) + 10 * x1.toInt + 100 * oB1 (t.1 71 5) ≤ (n : Int) → J t 2 [(0, .ref (oad E 71)), (1, .int x1)] []) ∧ (∀ (t : oS), (oQ 9999 0 t) → ((t.1 71 5).toInt = 0) → (0 ≤ (t.1 71 48).toInt ∧ (t.1 71 48).toInt ≤ 6) → ((t.1 71 45).toInt + (t.1 71 47).toInt + 5 ≤ (t.1 71 2).toInt) → ((s.1 71 2).toInt - (s.1 71 45).toInt - (s.1 71 47).toInt ≤ (t.1 71 2).toInt - (t.1 71 45).toInt - (t.1 71 47).toInt) → ((s.1 71 2).toInt ≤ (t.1 71 2).toInt) → (oqTt g fp fq cz 0 t) → (oqSk g (t.1 71 2).toInt = (t.1 71 2).toInt ∧ g (t.1 71 2).toInt ≠ 91 ∧ oqWi g (t.1 71 2).toInt (t.1 71 4).toInt ≠ 9) → (oqZ g t) → (oqWd t) → (oqMo fp fq t) → (oqBP t) → (oqTx g fp fq cw cs 0 t) → (owC0 Cq t) → 4000 * (1602 - (t.1 71 2).toInt) + 5 + 100 * oB1 (t.1 71 5) ≤ (n : Int) → J t 79 [(0, .ref (oad E 71))] []) ∧ (∀ (t : oS), (oQ 9999 1 t) → (oNQ t) → ((s.1 71 2).toInt - (s.1 71 45).toInt - (s.1 71 47).toInt ≤ (t.1 71 2).toInt - (t.1 71 45).toInt - (t.1 71 47).toInt + 2) → ((t.1 71 5).toInt = 0 → (s.1 71 2).toInt - (s.1 71 45).toInt - (s.1 71 47).toInt ≤ (t.1 71 2).toInt - (t.1 71 45).toInt - (t.1 71 47).toInt) → ((s.1 71 2).toInt ≤ (t.1 71 2).toInt) → (oqTt g fp fq cz 2 t) → (oqTN t) → (oqGw g t) → (oqBP t) → (oqTx g fp fq cw cs 2 t) → (owC0 Cq t) → (t.1 71 47).toInt + 1 ≤ (n : Int) → J t 110 [(0, .ref (oad E 71))] []) := by
    intro n
    induction n using Nat.strongRecOn with
    | _ n ih =>
      refine ⟨?_, ?_, ?_⟩
      · intro t x1  iv0 iv1 iv2 iv3 iv4 iv5 iv6 iv7 iv8 iv9 iv10 iv11 iv12 iv13 iv14 iv15 iv16 hmu
        have rx1 := n_rng x1
        have hjn := oB1_nn (t.1 71 5)
        refine r_ty C (fun hty => ?_)
        have hty_coded : (0 : Int) ≤ ((t).1 71 45).toInt ∧ ((t).1 71 45).toInt ≤ 1600 := hty.1 71 45
        have hty_waits : (0 : Int) ≤ ((t).1 71 47).toInt ∧ ((t).1 71 47).toInt ≤ 1700 := hty.1 71 47
        have hty_at : (0 : Int) ≤ ((t).1 71 2).toInt ∧ ((t).1 71 2).toInt ≤ 1600 := hty.1 71 2
        clear hty
        refine r_iload_n C (j := 1) (oDec_at oX12_test 2 rfl) rfl rfl ?_
        refine r_if_eq C 110 (oDec_at oX12_test 3 rfl) (by decide) (fun cd1 => ?_) (fun cd1 => ?_)
        · skip
          refine r_pick C [0] rfl ?_
          exact (ih (n - 1) (by omega)).2.2 (t)   (by first | exact (by assumption) | exact (iv1 (by omega)).1 | exact oQ_bad (iv0 (by omega)) (by omega)) (by first | exact (by assumption) | exact (iv1 (by omega)).2 | exact fun hb => by exfalso; omega) (by omega) (by omega) (by omega) (by first | exact (by assumption) | exact (iv8 (by omega)).1 | exact oqI_kp (iv7 (by omega)) (by omega) rfl rfl) (by first | exact (by assumption) | exact (iv8 (by omega)).2 | (intro h9; exfalso; omega)) (by first | exact (by assumption) | exact iv9 (by omega) | exact oqGw_b (by omega)) iv13 (by first | exact (by assumption) | exact iv15 (by omega) | exact oqTx_bd (by omega)) iv16 (by omega)
        · skip
          refine r_aload_n C (j := 0) (oDec_at oX12_test 4 rfl) rfl rfl ?_
          obtain ⟨v2, ev2⟩ : ∃ z : Int32, (t).1 71 5 = z := ⟨_, rfl⟩
          have gv2 : (t.1 71 5).toInt = v2.toInt := congrArg Int32.toInt (ev2)
          have rv2 := n_rng v2
          refine r_geti (k := 5) (lo := (-2147483648)) (hi := 2147483647) C v2 oCl12 rfl (by decide) flX12_173 rfl rfl (ev2) rfl rfl (oDec_at oX12_test 5 rfl) (fun _ _ => ?_)
          refine r_if_ne C 110 (oDec_at oX12_test 6 rfl) (by decide) (fun cd3 => ?_) (fun cd3 => ?_)
          · skip
            have lk4 : ((t).1 71 5).toInt = v2.toInt := congrArg Int32.toInt (ev2)
            refine r_pick C [0] rfl ?_
            exact (ih (n - 1) (by omega)).2.2 (t)   (by first | exact (by assumption) | exact (iv1 (by omega)).1 | exact oQ_bad (iv0 (by omega)) (by omega)) (by first | exact (by assumption) | exact (iv1 (by omega)).2 | exact fun hb => by exfalso; omega) (by omega) (by omega) (by omega) (by first | exact (by assumption) | exact (iv8 (by omega)).1 | exact oqI_kp (iv7 (by omega)) (by omega) rfl rfl) (by first | exact (by assumption) | exact (iv8 (by omega)).2 | (intro h9; exfalso; omega)) (by first | exact (by assumption) | exact iv9 (by omega) | exact oqGw_b (by omega)) iv13 (by first | exact (by assumption) | exact iv15 (by omega) | exact oqTx_bd (by omega)) iv16 (by omega)
          · skip
            have hj0 := oB1_0 (x := t.1 71 5) (by omega)
            have hq5 : oQ 9999 0 (t) := iv0 (by omega)
            have hq6 : oqTt g fp fq cz 0 (t) := iv7 (by omega)
            have hq7 : oqTx g fp fq cw cs 0 (t) := iv14 (by omega)
            refine r_aload_n C (j := 0) (oDec_at oX12_test 7 rfl) rfl rfl ?_
            refine r_callVi C oCl12 rfl miX12_look mlX12_185 (ct4_X12_look l E (t)  (g) ((t.1 71 2).toInt) (by omega) iv10) (by decide) rfl rfl rfl (Nat.le_of_ble_eq_true rfl) (oDec_at oX12_test 8 rfl) (fun r9 u8 pu8 fu8 => ?_)
            try dsimp only at pu8
            obtain ⟨pu8_0, pu8_1, pu8_2, pu8_3, pu8_4, pu8_5⟩ := pu8
            have rr9 := n_rng r9
            have hsk : oqSk g ((u8).1 71 2).toInt = ((u8).1 71 2).toInt := by rw [show ((u8).1 71 2).toInt = oqSk g (t.1 71 2).toInt by omega]; exact oqSk_sk pu8_3
            have hgA : g ((u8).1 71 2).toInt = r9.toInt := by rw [show ((u8).1 71 2).toInt = oqSk g (t.1 71 2).toInt by omega]; omega
            have hq10 : oqTt g fp fq cz 0 (u8) := oqI_id hq6 (oFr_row fu8 (c := 103) rfl rfl) (congrArg Int32.toInt (fu8 71 5 rfl).1) (congrArg Int32.toInt (fu8 71 47 rfl).1) (by rw [show ((u8).1 71 2).toInt = oqSk g (t.1 71 2).toInt by omega]; exact oqSk_sk pu8_3) (congrArg Int32.toInt (fu8 71 4 rfl).1) (congrArg Int32.toInt (fu8 71 48 rfl).1) (congrArg Int32.toInt (fu8 71 6 rfl).1)
            have hq11 : oqTx g fp fq cw cs 0 (u8) := oqTx_id hq7 (oqSq_of fu8 rfl) (fun h9 => (congrArg Int32.toInt (fu8 71 5 rfl).1).symm.trans h9) (by rw [show ((u8).1 71 2).toInt = oqSk g (t.1 71 2).toInt by omega]; exact oqSk_sk pu8_3) (congrArg Int32.toInt (fu8 71 4 rfl).1)
            refine r_istore_n C (lv' := [(0, .ref (oad E 71)), (1, .int x1), (2, .int r9)]) [1, 2, 0] (oDec_at oX12_test 9 rfl) rfl (by decide) rfl ?_
            refine r_iload_n C (j := 2) (oDec_at oX12_test 10 rfl) rfl rfl ?_
            refine r_bipush C (oDec_at oX12_test 11 rfl) (v := k91) (by rw [qk91]; rfl) ?_
            refine r_icmp_ne C 47 (oDec_at oX12_test 12 rfl) (by decide) (fun cd12 => ?_) (fun cd12 => ?_)
            · skip
              have lk13 : ((u8).1 71 4).toInt = (t.1 71 4).toInt := congrArg Int32.toInt ((fu8 71 4 rfl).1)
              have lk14 : ((u8).1 71 5).toInt = v2.toInt := congrArg Int32.toInt (((fu8 71 5 rfl).1).trans (ev2))
              have lk15 : ((u8).1 71 48).toInt = (t.1 71 48).toInt := congrArg Int32.toInt ((fu8 71 48 rfl).1)
              have lk16 : ((u8).1 71 47).toInt = (t.1 71 47).toInt := congrArg Int32.toInt ((fu8 71 47 rfl).1)
              obtain ⟨A1, hA1⟩ : ∃ z : Int, z = ((u8).1 71 2).toInt := ⟨_, rfl⟩
              obtain ⟨E1, hE1⟩ : ∃ z : Int, z = ((u8).1 71 4).toInt := ⟨_, rfl⟩
              have hskA : oqSk g A1 = A1 := by rw [hA1]; exact hsk
              have hgA1 : g A1 = g ((u8).1 71 2).toInt := by rw [hA1]
              have hHa9 : oqHa g A1 9 = oqSk g A1 + (oqWl 9 : Int) := rfl
              have hl9 : oqWl 9 = 3 := rfl
              refine r_aload_n C (j := 0) (oDec_at oX12_test 25 rfl) rfl rfl ?_
              refine r_aload_n C (j := 0) (oDec_at oX12_test 26 rfl) rfl rfl ?_
              refine r_getF (k := 19) (b := 82) C oCl12 rfl (by decide) flX12_45 rfl rfl rfl (oDec_at oX12_test 27 rfl) ?_
              have lk17 : ((u8).1 71 4).toInt = (t.1 71 4).toInt := congrArg Int32.toInt ((fu8 71 4 rfl).1)
              have lk18 : ((u8).1 71 5).toInt = v2.toInt := congrArg Int32.toInt (((fu8 71 5 rfl).1).trans (ev2))
              refine r_callVi C oCl12 rfl miX12_isHere mlX12_196 (ct4_X12_isHere l E (u8) 82 58 3 rfl (by decide) (by decide) rfl rfl (g) (A1) (E1) (9) (by omega) (by omega) (oqZ_fr fu8 rfl iv10) (by omega) (by omega) rfl (oqWd_at (oqWd_fr fu8 rfl iv11) 9 (by decide)) (by omega)) (by decide) rfl rfl rfl (Nat.le_of_ble_eq_true rfl) (oDec_at oX12_test 28 rfl) (fun r20 u19 pu19 fu19 => ?_)
              try dsimp only at pu19
              try simp only [lk17, lk18] at pu19
              obtain ⟨pu19_0, pu19_1, pu19_2, pu19_3, pu19_4, pu19_5, pu19_6⟩ := pu19
              have rr20 := n_rng r20
              have lk21 : ((u19).1 71 4).toInt = (t.1 71 4).toInt := congrArg Int32.toInt (((fu19 71 4 rfl).1).trans ((fu8 71 4 rfl).1))
              have lk22 : ((u19).1 71 5).toInt = v2.toInt := congrArg Int32.toInt (((fu19 71 5 rfl).1).trans (((fu8 71 5 rfl).1).trans (ev2)))
              have lk23 : ((u19).1 71 48).toInt = (t.1 71 48).toInt := congrArg Int32.toInt (((fu19 71 48 rfl).1).trans ((fu8 71 48 rfl).1))
              have lk24 : ((u19).1 71 47).toInt = (t.1 71 47).toInt := congrArg Int32.toInt (((fu19 71 47 rfl).1).trans ((fu8 71 47 rfl).1))
              have ea1 : ((u19).1 71 2).toInt = A1 := by omega
              have ee1 : ((u19).1 71 4).toInt = E1 := by omega
              have hsk1 : oqSk g ((u19).1 71 2).toInt = ((u19).1 71 2).toInt := by rw [ea1]; exact hskA
              have hg1 : g ((u19).1 71 2).toInt = g A1 := by rw [ea1]
              have hw1 : oqWi g ((u19).1 71 2).toInt ((u19).1 71 4).toInt = oqWi g A1 E1 := by rw [ea1, ee1]
              have hq25 : oqTt g fp fq cz 0 (u19) := oqI_id hq10 (oFr_row fu19 (c := 103) rfl rfl) (congrArg Int32.toInt (fu19 71 5 rfl).1) (congrArg Int32.toInt (fu19 71 47 rfl).1) (by rw [ea1, ← hA1]) (congrArg Int32.toInt (fu19 71 4 rfl).1) (congrArg Int32.toInt (fu19 71 48 rfl).1) (congrArg Int32.toInt (fu19 71 6 rfl).1)
              have hq26 : oqTx g fp fq cw cs 0 (u19) := oqTx_id hq11 (oqSq_of fu19 rfl) (fun h9 => (congrArg Int32.toInt (fu19 71 5 rfl).1).symm.trans h9) (by rw [ea1, ← hA1]) (congrArg Int32.toInt (fu19 71 4 rfl).1)
              refine r_if_eq C 79 (oDec_at oX12_test 29 rfl) (by decide) (fun cd27 => ?_) (fun cd27 => ?_)
              · skip
                clear pu19_4
                replace pu19_5 := pu19_5 (by omega)
                clear pu19_6
                have lk28 : ((u19).1 71 5).toInt = v2.toInt := congrArg Int32.toInt (((fu19 71 5 rfl).1).trans (((fu8 71 5 rfl).1).trans (ev2)))
                have lk29 : ((u19).1 71 48).toInt = (t.1 71 48).toInt := congrArg Int32.toInt (((fu19 71 48 rfl).1).trans ((fu8 71 48 rfl).1))
                have lk30 : ((u19).1 71 45).toInt = (t.1 71 45).toInt := congrArg Int32.toInt (((fu19 71 45 rfl).1).trans ((fu8 71 45 rfl).1))
                have lk31 : ((u19).1 71 47).toInt = (t.1 71 47).toInt := congrArg Int32.toInt (((fu19 71 47 rfl).1).trans ((fu8 71 47 rfl).1))
                have lk32 : ((u19).1 71 45).toInt = (t.1 71 45).toInt := congrArg Int32.toInt (((fu19 71 45 rfl).1).trans ((fu8 71 45 rfl).1))
                have lk33 : ((u19).1 71 47).toInt = (t.1 71 47).toInt := congrArg Int32.toInt (((fu19 71 47 rfl).1).trans ((fu8 71 47 rfl).1))
                have lk34 : ((u19).1 71 4).toInt = (t.1 71 4).toInt := congrArg Int32.toInt (((fu19 71 4 rfl).1).trans ((fu8 71 4 rfl).1))
                have hw9 := oqWi_w (g := g) (A := A1) (E := E1) (i := 9) (by decide) (by omega)
                have hj := oB1_f ((u19).1 71 5)
                refine r_pick C [0] rfl ?_
                exact (ih (n - 1) (by omega)).2.1 (u19)   (oQ_fr fu19 rfl (oQ_fr fu8 rfl hq5)) (by omega) (by omega) (by omega) (by omega) (by omega) hq25 (by omega) (oqZ_fr fu19 rfl (oqZ_fr fu8 rfl iv10)) (oqWd_fr fu19 rfl (oqWd_fr fu8 rfl iv11)) (oqMo_fr fu19 rfl (oqMo_fr fu8 rfl iv12)) (oqBP_fr fu19 rfl (oqBP_fr fu8 rfl iv13)) hq26 (owC0_fr fu19 rfl (owC0_fr fu8 rfl iv16)) (by omega)
              · skip
                replace pu19_4 := pu19_4 (by omega)
                clear pu19_5
                replace pu19_6 := pu19_6 (by omega)
                have lk35 : ((u19).1 71 4).toInt = (t.1 71 4).toInt := congrArg Int32.toInt (((fu19 71 4 rfl).1).trans ((fu8 71 4 rfl).1))
                have lk36 : ((u19).1 71 5).toInt = v2.toInt := congrArg Int32.toInt (((fu19 71 5 rfl).1).trans (((fu8 71 5 rfl).1).trans (ev2)))
                have lk37 : ((u19).1 71 48).toInt = (t.1 71 48).toInt := congrArg Int32.toInt (((fu19 71 48 rfl).1).trans ((fu8 71 48 rfl).1))
                have lk38 : ((u19).1 71 47).toInt = (t.1 71 47).toInt := congrArg Int32.toInt (((fu19 71 47 rfl).1).trans ((fu8 71 47 rfl).1))
                have hw9 := oqWi_y (g := g) (A := A1) (E := E1) (i := 9) (by decide) (by omega)
                refine r_aload_n C (j := 0) (oDec_at oX12_test 30 rfl) rfl rfl ?_
                refine r_bipush C (oDec_at oX12_test 31 rfl) (v := k16) (by rw [qk16]; rfl) ?_
                refine r_aload_n C (j := 0) (oDec_at oX12_test 32 rfl) rfl rfl ?_
                obtain ⟨v39, ev39⟩ : ∃ z : Int32, (u19).1 71 2 = z := ⟨_, rfl⟩
                have gv39 : (u19.1 71 2).toInt = v39.toInt := congrArg Int32.toInt (ev39)
                refine r_geti (k := 2) (lo := 0) (hi := 1600) C v39 oCl12 rfl (by decide) flX12_179 rfl rfl (ev39) rfl rfl (oDec_at oX12_test 33 rfl) (fun b40 b40h => ?_)
                have lk41 : ((u19).1 71 47).toInt = (t.1 71 47).toInt := congrArg Int32.toInt (((fu19 71 47 rfl).1).trans ((fu8 71 47 rfl).1))
                have lk42 : ((u19).1 71 2).toInt = v39.toInt := congrArg Int32.toInt (ev39)
                have lk43 : ((u19).1 71 4).toInt = (t.1 71 4).toInt := congrArg Int32.toInt (((fu19 71 4 rfl).1).trans ((fu8 71 4 rfl).1))
                have lk44 : ((u19).1 71 5).toInt = v2.toInt := congrArg Int32.toInt (((fu19 71 5 rfl).1).trans (((fu8 71 5 rfl).1).trans (ev2)))
                have lk45 : ((u19).1 71 48).toInt = (t.1 71 48).toInt := congrArg Int32.toInt (((fu19 71 48 rfl).1).trans ((fu8 71 48 rfl).1))
                have lk46 : ((u19).1 71 47).toInt = (t.1 71 47).toInt := congrArg Int32.toInt (((fu19 71 47 rfl).1).trans ((fu8 71 47 rfl).1))
                have lk47 : ((u19).1 71 48).toInt = (t.1 71 48).toInt := congrArg Int32.toInt (((fu19 71 48 rfl).1).trans ((fu8 71 48 rfl).1))
                have lk48 : ((u19).1 71 5).toInt = v2.toInt := congrArg Int32.toInt (((fu19 71 5 rfl).1).trans (((fu8 71 5 rfl).1).trans (ev2)))
                have lk49 : ((u19).1 71 48).toInt = (t.1 71 48).toInt := congrArg Int32.toInt (((fu19 71 48 rfl).1).trans ((fu8 71 48 rfl).1))
                have lk50 : ((u19).1 71 47).toInt = (t.1 71 47).toInt := congrArg Int32.toInt (((fu19 71 47 rfl).1).trans ((fu8 71 47 rfl).1))
                refine r_callVv C oCl12 rfl miX12_opens mlX12_292 (ct7_X12_opens l E (u19) k16 v39 (by omega) (by omega) (by omega) (oqBP_fr fu19 rfl (oqBP_fr fu8 rfl iv13))) (by decide) rfl rfl rfl (Nat.le_of_ble_eq_true rfl) (oDec_at oX12_test 34 rfl) (fun u51 pu51 fu51 => ?_)
                try dsimp only at pu51
                try simp only [lk46, lk47, lk48, lk49, lk50] at pu51
                obtain ⟨pu51_0, pu51_1, pu51_2⟩ := pu51
                have lk53 : ((u51).1 71 2).toInt = v39.toInt := congrArg Int32.toInt (((fu51 71 2 rfl).1).trans (ev39))
                have lk54 : ((u51).1 71 4).toInt = (t.1 71 4).toInt := congrArg Int32.toInt (((fu51 71 4 rfl).1).trans (((fu19 71 4 rfl).1).trans ((fu8 71 4 rfl).1)))
                have hq55 : oQ 9999 0 (u51) := oQ_opens fu51 rfl (oQ_fr fu19 rfl (oQ_fr fu8 rfl hq5)) pu51_1 (by omega) (by omega) (by omega)
                have hq56 : oqN1 g fp fq cz (u51) := oqN1_of hq25 (by omega) pu51_1 (by omega) hsk1 (by omega) (by omega) (by omega) (by omega) (by omega)
                have hq57 : oqN1w g fp fq cw cs (u51) := oqN1w_of hq26 (by omega) pu51_1 (by omega) hsk1 (by omega) (by omega) (by omega) (by omega)
                refine r_aload_n C (j := 0) (oDec_at oX12_test 35 rfl) rfl rfl ?_
                refine r_pc C 69 rfl ?_
                refine r_aload_n C (j := 0) (oDec_at oX12_test 36 rfl) rfl rfl ?_
                refine r_getF (k := 19) (b := 82) C oCl12 rfl (by decide) flX12_45 rfl rfl rfl (oDec_at oX12_test 37 rfl) ?_
                have lk58 : ((u51).1 71 2).toInt = v39.toInt := congrArg Int32.toInt (((fu51 71 2 rfl).1).trans (ev39))
                have lk59 : ((u51).1 71 4).toInt = (t.1 71 4).toInt := congrArg Int32.toInt (((fu51 71 4 rfl).1).trans (((fu19 71 4 rfl).1).trans ((fu8 71 4 rfl).1)))
                have lk60 : ((u51).1 71 2).toInt = v39.toInt := congrArg Int32.toInt (((fu51 71 2 rfl).1).trans (ev39))
                refine r_callVv C oCl12 rfl miX12_asks mlX12_240 (ct7_X12_asks l E (u51) 82 58 3 rfl (by decide) (by decide) rfl rfl (g) (A1) (E1) (9) (by omega) (oqZ_fr fu51 rfl (oqZ_fr fu19 rfl (oqZ_fr fu8 rfl iv10))) (by omega) rfl (oqWd_at (oqWd_fr fu51 rfl (oqWd_fr fu19 rfl (oqWd_fr fu8 rfl iv11))) 9 (by decide)) (by omega) pu51_2) (by decide) rfl rfl rfl (Nat.le_of_ble_eq_true rfl) (oDec_at oX12_test 38 rfl) (fun u61 pu61 fu61 => ?_)
                try dsimp only at pu61
                try simp only [lk58, lk59, lk60] at pu61
                obtain ⟨pu61_0, pu61_1, pu61_2, pu61_3⟩ := pu61
                have lk63 : ((u61).1 71 48).toInt = (u51.1 71 48).toInt := congrArg Int32.toInt ((fu61 71 48 rfl).1)
                have lk64 : ((u61).1 71 47).toInt = (u51.1 71 47).toInt := congrArg Int32.toInt ((fu61 71 47 rfl).1)
                have eb : ((u51).1 71 2).toInt = A1 := by omega
                have ebe : ((u51).1 71 4).toInt = E1 := by omega
                have eH : oqHa g ((u51).1 71 2).toInt 9 = oqHa g A1 9 := by rw [eb]
                have eHH : oqH g ((u51).1 71 2).toInt ((u51).1 71 4).toInt 9 = oqH g A1 E1 9 := by rw [eb, ebe]
                have hq65 : oqTt g fp fq cz 0 (u61) := oqN1_I hq56 (oFr_row fu61 (c := 103) rfl rfl) (congrArg Int32.toInt (fu61 71 47 rfl).1) (congrArg Int32.toInt (fu61 71 48 rfl).1) (fun h9 => by have h8 := pu61_0 h9; omega) (fun h9 => by have h8 := pu61_1 h9; omega)
                have hq66 : oqTx g fp fq cw cs 0 (u61) := oqN1w_T hq57 (oqSq_of fu61 rfl) (fun h9 => by have h8 := pu61_0 h9; omega)
                refine r_goto C (tgt := 2) (oDec_at oX12_test 39 rfl) (by decide) ?_
                have lk67 : ((u61).1 71 48).toInt = (u51.1 71 48).toInt := congrArg Int32.toInt ((fu61 71 48 rfl).1)
                have lk68 : ((u61).1 71 45).toInt = (t.1 71 45).toInt := congrArg Int32.toInt (((fu61 71 45 rfl).1).trans (((fu51 71 45 rfl).1).trans (((fu19 71 45 rfl).1).trans ((fu8 71 45 rfl).1))))
                have lk69 : ((u61).1 71 47).toInt = (u51.1 71 47).toInt := congrArg Int32.toInt ((fu61 71 47 rfl).1)
                have lk70 : ((u61).1 71 45).toInt = (t.1 71 45).toInt := congrArg Int32.toInt (((fu61 71 45 rfl).1).trans (((fu51 71 45 rfl).1).trans (((fu19 71 45 rfl).1).trans ((fu8 71 45 rfl).1))))
                have lk71 : ((u61).1 71 47).toInt = (u51.1 71 47).toInt := congrArg Int32.toInt ((fu61 71 47 rfl).1)
                have hj := oB1_f ((u61).1 71 5)
                refine r_pick C [0, 1] rfl ?_
                exact (ih (n - 1) (by omega)).1 (u61) x1  (by first | exact fun _ => (oQ_frb fu61 rfl (by omega) hq55) | (intro h; exfalso; omega)) (by first | (intro h; exfalso; omega) | exact fun _ => pu61_2 (by omega) | exact fun _ => ⟨(by assumption), fun hb => by exfalso; omega⟩) (by omega) (by omega) (by omega) (by omega) (by omega) (by first | (intro h; exfalso; omega) | exact fun _ => hq65) (by first | (intro h; exfalso; omega) | exact fun _ => pu61_7 | exact fun _ => ⟨(by assumption), (by assumption)⟩) (by first | (intro h; exfalso; omega) | exact fun _ => (by assumption) | exact fun _ => oqGw_b (by omega)) (oqZ_fr fu61 rfl (oqZ_fr fu51 rfl (oqZ_fr fu19 rfl (oqZ_fr fu8 rfl iv10)))) (oqWd_fr fu61 rfl (oqWd_fr fu51 rfl (oqWd_fr fu19 rfl (oqWd_fr fu8 rfl iv11)))) (oqMo_fr fu61 rfl (oqMo_fr fu51 rfl (oqMo_fr fu19 rfl (oqMo_fr fu8 rfl iv12)))) pu61_3 (by first | (intro h; exfalso; omega) | exact fun _ => hq66) (by first | (intro h; exfalso; omega) | exact fun _ => pu61_11 | exact fun _ => (by assumption)) (owC0_fr fu61 rfl (owC0_fr fu51 rfl (owC0_fr fu19 rfl (owC0_fr fu8 rfl iv16)))) (by omega)
            · skip
              refine r_aload_n C (j := 0) (oDec_at oX12_test 13 rfl) rfl rfl ?_
              refine r_bipush C (oDec_at oX12_test 14 rfl) (v := k25) (by rw [qk25]; rfl) ?_
              refine r_aload_n C (j := 0) (oDec_at oX12_test 15 rfl) rfl rfl ?_
              obtain ⟨v72, ev72⟩ : ∃ z : Int32, (u8).1 71 2 = z := ⟨_, rfl⟩
              have gv72 : (u8.1 71 2).toInt = v72.toInt := congrArg Int32.toInt (ev72)
              refine r_geti (k := 2) (lo := 0) (hi := 1600) C v72 oCl12 rfl (by decide) flX12_179 rfl rfl (ev72) rfl rfl (oDec_at oX12_test 16 rfl) (fun b73 b73h => ?_)
              have lk74 : ((u8).1 71 47).toInt = (t.1 71 47).toInt := congrArg Int32.toInt ((fu8 71 47 rfl).1)
              have lk75 : ((u8).1 71 2).toInt = v72.toInt := congrArg Int32.toInt (ev72)
              have lk76 : ((u8).1 71 4).toInt = (t.1 71 4).toInt := congrArg Int32.toInt ((fu8 71 4 rfl).1)
              have lk77 : ((u8).1 71 5).toInt = v2.toInt := congrArg Int32.toInt (((fu8 71 5 rfl).1).trans (ev2))
              have lk78 : ((u8).1 71 48).toInt = (t.1 71 48).toInt := congrArg Int32.toInt ((fu8 71 48 rfl).1)
              have lk79 : ((u8).1 71 47).toInt = (t.1 71 47).toInt := congrArg Int32.toInt ((fu8 71 47 rfl).1)
              have lk80 : ((u8).1 71 48).toInt = (t.1 71 48).toInt := congrArg Int32.toInt ((fu8 71 48 rfl).1)
              have lk81 : ((u8).1 71 5).toInt = v2.toInt := congrArg Int32.toInt (((fu8 71 5 rfl).1).trans (ev2))
              have lk82 : ((u8).1 71 48).toInt = (t.1 71 48).toInt := congrArg Int32.toInt ((fu8 71 48 rfl).1)
              have lk83 : ((u8).1 71 47).toInt = (t.1 71 47).toInt := congrArg Int32.toInt ((fu8 71 47 rfl).1)
              refine r_callVv C oCl12 rfl miX12_opens mlX12_292 (ct7_X12_opens l E (u8) k25 v72 (by omega) (by omega) (by omega) (oqBP_fr fu8 rfl iv13)) (by decide) rfl rfl rfl (Nat.le_of_ble_eq_true rfl) (oDec_at oX12_test 17 rfl) (fun u84 pu84 fu84 => ?_)
              try dsimp only at pu84
              try simp only [lk79, lk80, lk81, lk82, lk83] at pu84
              obtain ⟨pu84_0, pu84_1, pu84_2⟩ := pu84
              have lk86 : ((u84).1 71 2).toInt = v72.toInt := congrArg Int32.toInt (((fu84 71 2 rfl).1).trans (ev72))
              have lk87 : ((u84).1 71 4).toInt = (t.1 71 4).toInt := congrArg Int32.toInt (((fu84 71 4 rfl).1).trans ((fu8 71 4 rfl).1))
              have hq88 : oQ 9999 0 (u84) := oQ_opens fu84 rfl (oQ_fr fu8 rfl hq5) pu84_1 (by omega) (by omega) (by omega)
              refine r_aload_n C (j := 0) (oDec_at oX12_test 18 rfl) rfl rfl ?_
              refine r_pc C 35 rfl ?_
              refine r_dup C (oDec_at oX12_test 19 rfl) rfl ?_
              refine r_geti (k := 2) (lo := 0) (hi := 1600) C v72 oCl12 rfl (by decide) flX12_179 rfl rfl (((fu84 71 2 rfl).1).trans (ev72)) rfl rfl (oDec_at oX12_test 20 rfl) (fun _ _ => ?_)
              refine r_iconst C (oDec_at oX12_test 21 rfl) (v := k1) (by rw [qk1]; rfl) ?_
              obtain ⟨v89, ev89⟩ : ∃ z : Int32, z = v72 + k1 := ⟨_, rfl⟩
              have hv89 : v89.toInt = v72.toInt + k1.toInt := n_add ev89 (by omega) (by omega)
              refine r_iadd C v89 (oDec_at oX12_test 22 rfl) ev89 ?_
              refine r_puti (k := 2) (lo := 0) (hi := 1600) C oCl12 rfl (by decide) flX12_179 rfl rfl rfl rfl rfl rfl rfl rfl ⟨by omega, by omega⟩ (oDec_at oX12_test 23 rfl) ?_
              have hq90 : oqTt g fp fq cz 0 ((pI u84 71 2 v89)) := oqI_sq hq10 (by omega) pu84_1 (by omega) hsk (by omega) (by omega) (by omega) (by omega) (by omega)
              have hq91 : oqTx g fp fq cw cs 0 ((pI u84 71 2 v89)) := oqTx_sq hq11 (by omega) pu84_1 (by omega) hsk (by omega) (by omega) (by omega) (by omega)
              refine r_goto C (tgt := 2) (oDec_at oX12_test 24 rfl) (by decide) ?_
              have lk92 : (((pI u84 71 2 v89)).1 71 48).toInt = (u84.1 71 48).toInt := congrArg Int32.toInt ((pI_ne (a := 71) (b := 48) (c := 71) (k := 2) _ _ (Or.inr (by decide))))
              have lk93 : (((pI u84 71 2 v89)).1 71 2).toInt = v89.toInt := congrArg Int32.toInt ((pI_self _ _ _ _))
              have lk94 : (((pI u84 71 2 v89)).1 71 45).toInt = (t.1 71 45).toInt := congrArg Int32.toInt (((pI_ne (a := 71) (b := 45) (c := 71) (k := 2) _ _ (Or.inr (by decide)))).trans (((fu84 71 45 rfl).1).trans ((fu8 71 45 rfl).1)))
              have lk95 : (((pI u84 71 2 v89)).1 71 47).toInt = (u84.1 71 47).toInt := congrArg Int32.toInt ((pI_ne (a := 71) (b := 47) (c := 71) (k := 2) _ _ (Or.inr (by decide))))
              have lk96 : (((pI u84 71 2 v89)).1 71 5).toInt = (u84.1 71 5).toInt := congrArg Int32.toInt ((pI_ne (a := 71) (b := 5) (c := 71) (k := 2) _ _ (Or.inr (by decide))))
              have lk97 : (((pI u84 71 2 v89)).1 71 2).toInt = v89.toInt := congrArg Int32.toInt ((pI_self _ _ _ _))
              have lk98 : (((pI u84 71 2 v89)).1 71 45).toInt = (t.1 71 45).toInt := congrArg Int32.toInt (((pI_ne (a := 71) (b := 45) (c := 71) (k := 2) _ _ (Or.inr (by decide)))).trans (((fu84 71 45 rfl).1).trans ((fu8 71 45 rfl).1)))
              have lk99 : (((pI u84 71 2 v89)).1 71 47).toInt = (u84.1 71 47).toInt := congrArg Int32.toInt ((pI_ne (a := 71) (b := 47) (c := 71) (k := 2) _ _ (Or.inr (by decide))))
              have lk100 : (((pI u84 71 2 v89)).1 71 2).toInt = v89.toInt := congrArg Int32.toInt ((pI_self _ _ _ _))
              have lk101 : (((pI u84 71 2 v89)).1 71 2).toInt = v89.toInt := congrArg Int32.toInt ((pI_self _ _ _ _))
              have hj := oB1_f (((pI u84 71 2 v89)).1 71 5)
              refine r_pick C [0, 1] rfl ?_
              exact (ih (n - 1) (by omega)).1 ((pI u84 71 2 v89)) x1  (by first | exact fun _ => (oQ_fr (oFr_oneI (q := 12) (m := 2) rfl (by rfl)) rfl hq88) | (intro h; exfalso; omega)) (by first | (intro h; exfalso; omega) | exact fun _ => pu84_2 (by omega) | exact fun _ => ⟨(by assumption), fun hb => by exfalso; omega⟩) (by omega) (by omega) (by omega) (by omega) (by omega) (by first | (intro h; exfalso; omega) | exact fun _ => hq90) (by first | (intro h; exfalso; omega) | exact fun _ => pu84_7 | exact fun _ => ⟨(by assumption), (by assumption)⟩) (by first | (intro h; exfalso; omega) | exact fun _ => (by assumption) | exact fun _ => oqGw_b (by omega)) (oqZ_fr (oFr_oneI (q := 12) (m := 2) rfl (by rfl)) rfl (oqZ_fr fu84 rfl (oqZ_fr fu8 rfl iv10))) (oqWd_fr (oFr_oneI (q := 12) (m := 2) rfl (by rfl)) rfl (oqWd_fr fu84 rfl (oqWd_fr fu8 rfl iv11))) (oqMo_fr (oFr_oneI (q := 12) (m := 2) rfl (by rfl)) rfl (oqMo_fr fu84 rfl (oqMo_fr fu8 rfl iv12))) (oqBP_fr (oFr_oneI (q := 12) (m := 2) rfl (by rfl)) rfl pu84_2) (by first | (intro h; exfalso; omega) | exact fun _ => hq91) (by first | (intro h; exfalso; omega) | exact fun _ => pu84_11 | exact fun _ => (by assumption)) (owC0_fr (oFr_oneI (q := 12) (m := 2) rfl (by rfl)) rfl (owC0_fr fu84 rfl (owC0_fr fu8 rfl iv16))) (by omega)
      · intro t   iv0 iv1 iv2 iv3 iv4 iv5 iv6 iv7 iv8 iv9 iv10 iv11 iv12 iv13 hmu
        have hjt := oB1_f (t.1 71 5)
        refine r_aload_n C (j := 0) (oDec_at oX12_test 40 rfl) rfl rfl ?_
        refine r_callVv C oCl12 rfl miX12_fact mlX12_322 (ct9_X12_fact l E (t)  (g) (fp) (fq) (cz) (cw) (cs) (Cq) iv0 (by omega) (by omega) (by omega) iv6 (by omega) iv8 iv9 iv10 iv11 iv12 iv13) (by decide) rfl rfl rfl (Nat.le_of_ble_eq_true rfl) (oDec_at oX12_test 41 rfl) (fun u102 pu102 fu102 => ?_)
        try dsimp only at pu102
        obtain ⟨pu102_0, pu102_1, pu102_2, pu102_3, pu102_4, pu102_5, pu102_6, pu102_7, pu102_8⟩ := pu102
        refine r_ty C (fun hty => ?_)
        have hty_at : (0 : Int) ≤ ((u102).1 71 2).toInt ∧ ((u102).1 71 2).toInt ≤ 1600 := hty.1 71 2
        clear hty
        refine r_aload_n C (j := 0) (oDec_at oX12_test 42 rfl) rfl rfl ?_
        refine r_callVv C oCl12 rfl miX12_dropsNots mlX12_325 (ct9_X12_dropsNots l E (u102)  (g) (fp) (fq) (cz) (cw) (cs) (Cq) pu102_0 (by omega) (by omega) pu102_5 pu102_7 pu102_8) (by decide) rfl rfl rfl (Nat.le_of_ble_eq_true rfl) (oDec_at oX12_test 43 rfl) (fun u104 pu104 fu104 => ?_)
        try dsimp only at pu104
        obtain ⟨pu104_0, pu104_1, pu104_2, pu104_3, pu104_4, pu104_5, pu104_6⟩ := pu104
        have lk106 : ((u104).1 71 6).toInt = (u102.1 71 6).toInt := congrArg Int32.toInt ((fu104 71 6 rfl).1)
        refine r_aload_n C (j := 0) (oDec_at oX12_test 44 rfl) rfl rfl ?_
        obtain ⟨v107, ev107⟩ : ∃ z : Int32, (u104).1 71 5 = z := ⟨_, rfl⟩
        have gv107 : (u102.1 71 5).toInt = v107.toInt := congrArg Int32.toInt (((fu104 71 5 rfl).1).symm.trans ev107)
        have ggv107 : ((u104).1 71 5).toInt = v107.toInt := congrArg Int32.toInt ev107
        have rv107 := n_rng v107
        refine r_geti (k := 5) (lo := (-2147483648)) (hi := 2147483647) C v107 oCl12 rfl (by decide) flX12_173 rfl rfl (ev107) rfl rfl (oDec_at oX12_test 45 rfl) (fun _ _ => ?_)
        refine r_pc C 91 rfl ?_
        refine r_if_ne C 105 (oDec_at oX12_test 46 rfl) (by decide) (fun cd108 => ?_) (fun cd108 => ?_)
        · skip
          have lk109 : ((u104).1 71 6).toInt = (u102.1 71 6).toInt := congrArg Int32.toInt ((fu104 71 6 rfl).1)
          have lk110 : ((u104).1 71 5).toInt = v107.toInt := congrArg Int32.toInt (ev107)
          refine r_iconst C (oDec_at oX12_test 52 rfl) (v := k0) (by rw [qk0]; rfl) ?_
          refine r_istore_n C (lv' := [(0, .ref (oad E 71)), (1, .int k0)]) [1, 0] (oDec_at oX12_test 53 rfl) rfl (by decide) rfl ?_
          refine r_goto C (tgt := 2) (oDec_at oX12_test 54 rfl) (by decide) ?_
          have lk111 : ((u104).1 71 2).toInt = (u102.1 71 2).toInt := congrArg Int32.toInt ((fu104 71 2 rfl).1)
          have lk112 : ((u104).1 71 5).toInt = v107.toInt := congrArg Int32.toInt (ev107)
          have lk113 : ((u104).1 71 2).toInt = (u102.1 71 2).toInt := congrArg Int32.toInt ((fu104 71 2 rfl).1)
          have lk114 : ((u104).1 71 2).toInt = (u102.1 71 2).toInt := congrArg Int32.toInt ((fu104 71 2 rfl).1)
          have lk115 : ((u104).1 71 2).toInt = (u102.1 71 2).toInt := congrArg Int32.toInt ((fu104 71 2 rfl).1)
          have hj := oB1_f ((u104).1 71 5)
          exact (ih (n - 1) (by omega)).1 (u104) k0  (by first | exact fun _ => (by assumption) | (intro h; exfalso; omega)) (by first | (intro h; exfalso; omega) | exact fun _ => pu104_2 (by omega) | exact fun _ => ⟨pu104_0, fun hb => by exfalso; omega⟩) (by omega) (by omega) (by omega) (by omega) (by omega) (by first | (intro h; exfalso; omega) | exact fun _ => (by assumption)) (by first | (intro h; exfalso; omega) | exact fun _ => pu104_7 | exact fun _ => ⟨pu104_3, pu104_4⟩) (by first | (intro h; exfalso; omega) | exact fun _ => (by assumption) | exact fun _ => oqGw_b (by omega)) (oqZ_fr fu104 rfl (oqZ_fr fu102 rfl iv8)) (oqWd_fr fu104 rfl (oqWd_fr fu102 rfl iv9)) (oqMo_fr fu104 rfl (oqMo_fr fu102 rfl iv10)) (oqBP_fr fu104 rfl pu102_6) (by first | (intro h; exfalso; omega) | exact fun _ => (by assumption)) (by first | (intro h; exfalso; omega) | exact fun _ => pu104_11 | exact fun _ => pu104_5) pu104_6 (by omega)
        · skip
          refine r_aload_n C (j := 0) (oDec_at oX12_test 47 rfl) rfl rfl ?_
          have lk116 : ((u104).1 71 5).toInt = v107.toInt := congrArg Int32.toInt (ev107)
          have lk117 : ((u104).1 71 2).toInt = (u102.1 71 2).toInt := congrArg Int32.toInt ((fu104 71 2 rfl).1)
          have lk118 : ((u104).1 71 2).toInt = (u102.1 71 2).toInt := congrArg Int32.toInt ((fu104 71 2 rfl).1)
          have lk119 : ((u104).1 71 2).toInt = (u102.1 71 2).toInt := congrArg Int32.toInt ((fu104 71 2 rfl).1)
          refine r_callVi C oCl12 rfl miX12_goesOnTest mlX12_328 (ct9_X12_goesOnTest l E (u104)  (g) (fp) (fq) (cz) (cw) (cs) (Cq) pu104_0 (by omega) (by omega) (by omega) pu104_3 pu104_4 (oqZ_fr fu104 rfl (oqZ_fr fu102 rfl iv8)) (oqWd_fr fu104 rfl (oqWd_fr fu102 rfl iv9)) (oqBP_fr fu104 rfl pu102_6) pu104_5 pu104_6) (by decide) rfl rfl rfl (Nat.le_of_ble_eq_true rfl) (oDec_at oX12_test 48 rfl) (fun r121 u120 pu120 fu120 => ?_)
          try dsimp only at pu120
          try simp only [lk116, lk117, lk118, lk119] at pu120
          obtain ⟨pu120_0, pu120_1, pu120_2, pu120_3, pu120_4, pu120_5, pu120_6, pu120_7, pu120_8, pu120_9, pu120_10, pu120_11, pu120_12⟩ := pu120
          have rr121 := n_rng r121
          refine r_if_eq C 105 (oDec_at oX12_test 49 rfl) (by decide) (fun cd122 => ?_) (fun cd122 => ?_)
          · skip
            clear pu120_6
            replace pu120_7 := pu120_7 (by omega)
            replace pu120_8 := pu120_8 (by omega)
            clear pu120_10
            replace pu120_11 := pu120_11 (by omega)
            have hq123 : oqGw g (u120) := pu120_8
            refine r_iconst C (oDec_at oX12_test 52 rfl) (v := k0) (by rw [qk0]; rfl) ?_
            refine r_istore_n C (lv' := [(0, .ref (oad E 71)), (1, .int k0)]) [1, 0] (oDec_at oX12_test 53 rfl) rfl (by decide) rfl ?_
            refine r_goto C (tgt := 2) (oDec_at oX12_test 54 rfl) (by decide) ?_
            have hj := oB1_f ((u120).1 71 5)
            exact (ih (n - 1) (by omega)).1 (u120) k0  (by first | exact fun _ => (by assumption) | (intro h; exfalso; omega)) (by first | (intro h; exfalso; omega) | exact fun _ => pu120_2 (by omega) | exact fun _ => ⟨(by assumption), fun hb => by exfalso; omega⟩) (by omega) (by omega) (by omega) (by omega) (by omega) (by first | (intro h; exfalso; omega) | exact fun _ => (by assumption)) (by first | (intro h; exfalso; omega) | exact fun _ => pu120_7 | exact fun _ => ⟨(by assumption), (by assumption)⟩) (by first | (intro h; exfalso; omega) | exact fun _ => hq123 | exact fun _ => oqGw_b (by omega)) (oqZ_fr fu120 rfl (oqZ_fr fu104 rfl (oqZ_fr fu102 rfl iv8))) (oqWd_fr fu120 rfl (oqWd_fr fu104 rfl (oqWd_fr fu102 rfl iv9))) (oqMo_fr fu120 rfl (oqMo_fr fu104 rfl (oqMo_fr fu102 rfl iv10))) pu120_9 (by first | (intro h; exfalso; omega) | exact fun _ => (by assumption)) (by first | (intro h; exfalso; omega) | exact fun _ => pu120_11 | exact fun _ => (by assumption)) pu120_12 (by omega)
          · skip
            replace pu120_6 := pu120_6 (by omega)
            clear pu120_7
            clear pu120_8
            replace pu120_10 := pu120_10 (by omega)
            clear pu120_11
            have hq124 : oQ 9999 0 (u120) := pu120_1 (by omega)
            have hq125 : oqTt g fp fq cz 0 (u120) := pu120_6
            have hq126 : oqTx g fp fq cw cs 0 (u120) := pu120_10
            refine r_iconst C (oDec_at oX12_test 50 rfl) (v := k1) (by rw [qk1]; rfl) ?_
            refine r_goto C (tgt := 106) (oDec_at oX12_test 51 rfl) (by decide) ?_
            refine r_istore_n C (lv' := [(0, .ref (oad E 71)), (1, .int k1)]) [1, 0] (oDec_at oX12_test 53 rfl) rfl (by decide) rfl ?_
            refine r_goto C (tgt := 2) (oDec_at oX12_test 54 rfl) (by decide) ?_
            have hj := oB1_f ((u120).1 71 5)
            exact (ih (n - 1) (by omega)).1 (u120) k1  (by first | exact fun _ => hq124 | (intro h; exfalso; omega)) (by first | (intro h; exfalso; omega) | exact fun _ => pu120_2 (by omega) | exact fun _ => ⟨(by assumption), fun hb => by exfalso; omega⟩) (by omega) (by omega) (by omega) (by omega) (by omega) (by first | (intro h; exfalso; omega) | exact fun _ => hq125) (by first | (intro h; exfalso; omega) | exact fun _ => pu120_7 | exact fun _ => ⟨(by assumption), (by assumption)⟩) (by first | (intro h; exfalso; omega) | exact fun _ => (by assumption) | exact fun _ => oqGw_b (by omega)) (oqZ_fr fu120 rfl (oqZ_fr fu104 rfl (oqZ_fr fu102 rfl iv8))) (oqWd_fr fu120 rfl (oqWd_fr fu104 rfl (oqWd_fr fu102 rfl iv9))) (oqMo_fr fu120 rfl (oqMo_fr fu104 rfl (oqMo_fr fu102 rfl iv10))) pu120_9 (by first | (intro h; exfalso; omega) | exact fun _ => hq126) (by first | (intro h; exfalso; omega) | exact fun _ => pu120_11 | exact fun _ => (by assumption)) pu120_12 (by omega)
      · intro t   iv0 iv1 iv2 iv3 iv4 iv5 iv6 iv7 iv8 iv9 iv10 hmu
        refine r_ty C (fun hty => ?_)
        have hty_coded : (0 : Int) ≤ ((t).1 71 45).toInt ∧ ((t).1 71 45).toInt ≤ 1600 := hty.1 71 45
        have hty_waits : (0 : Int) ≤ ((t).1 71 47).toInt ∧ ((t).1 71 47).toInt ≤ 1700 := hty.1 71 47
        have hty_at : (0 : Int) ≤ ((t).1 71 2).toInt ∧ ((t).1 71 2).toInt ≤ 1600 := hty.1 71 2
        clear hty
        refine r_aload_n C (j := 0) (oDec_at oX12_test 55 rfl) rfl rfl ?_
        obtain ⟨v127, ev127⟩ : ∃ z : Int32, (t).1 71 5 = z := ⟨_, rfl⟩
        have gv127 : (t.1 71 5).toInt = v127.toInt := congrArg Int32.toInt (ev127)
        have rv127 := n_rng v127
        refine r_geti (k := 5) (lo := (-2147483648)) (hi := 2147483647) C v127 oCl12 rfl (by decide) flX12_173 rfl rfl (ev127) rfl rfl (oDec_at oX12_test 56 rfl) (fun _ _ => ?_)
        refine r_if_ne C 131 (oDec_at oX12_test 57 rfl) (by decide) (fun cd128 => ?_) (fun cd128 => ?_)
        · skip
          have lk129 : ((t).1 71 5).toInt = v127.toInt := congrArg Int32.toInt (ev127)
          have hq130 : oqE8 g fp fq cz (t) := oqE8_of iv5 (fun h9 => by omega) (iv7)
          have hq131 : oqE8w g fp fq cw cs (t) := oqE8w_of iv9 (fun h9 => by omega) (iv7)
          have lk132 : ((t).1 71 5).toInt = v127.toInt := congrArg Int32.toInt (ev127)
          exact r_vret C (oDec_at oX12_test 64 rfl) ⟨rfl, ⟨iv0, by omega, by omega, by omega, hq130, iv8, hq131, iv10⟩⟩
        · skip
          refine r_aload_n C (j := 0) (oDec_at oX12_test 58 rfl) rfl rfl ?_
          obtain ⟨v133, ev133⟩ : ∃ z : Int32, (t).1 71 47 = z := ⟨_, rfl⟩
          have gv133 : (t.1 71 47).toInt = v133.toInt := congrArg Int32.toInt (ev133)
          refine r_geti (k := 47) (lo := 0) (hi := 1700) C v133 oCl12 rfl (by decide) flX12_277 rfl rfl (ev133) rfl rfl (oDec_at oX12_test 59 rfl) (fun b134 b134h => ?_)
          refine r_if_le C 131 (oDec_at oX12_test 60 rfl) (by decide) (fun cd135 => ?_) (fun cd135 => ?_)
          · skip
            have lk136 : ((t).1 71 47).toInt = v133.toInt := congrArg Int32.toInt (ev133)
            have lk137 : ((t).1 71 5).toInt = v127.toInt := congrArg Int32.toInt (ev127)
            have hq138 : oqE8 g fp fq cz (t) := oqE8_of iv5 (fun h9 => by omega) (iv7)
            have hq139 : oqE8w g fp fq cw cs (t) := oqE8w_of iv9 (fun h9 => by omega) (iv7)
            have lk140 : ((t).1 71 47).toInt = v133.toInt := congrArg Int32.toInt (ev133)
            have lk141 : ((t).1 71 5).toInt = v127.toInt := congrArg Int32.toInt (ev127)
            have lk142 : ((t).1 71 47).toInt = v133.toInt := congrArg Int32.toInt (ev133)
            exact r_vret C (oDec_at oX12_test 64 rfl) ⟨rfl, ⟨iv0, by omega, by omega, by omega, hq138, iv8, hq139, iv10⟩⟩
          · skip
            have lk143 : ((t).1 71 47).toInt = v133.toInt := congrArg Int32.toInt (ev133)
            have lk144 : ((t).1 71 5).toInt = v127.toInt := congrArg Int32.toInt (ev127)
            have hnt := oNS_top (iv1 (by omega)) (by omega)
            have htp := oqI_tp iv0 (by omega) (by omega)
            have htn := iv6 (by omega)
            refine r_aload_n C (j := 0) (oDec_at oX12_test 61 rfl) rfl rfl ?_
            have lk145 : ((t).1 71 47).toInt = v133.toInt := congrArg Int32.toInt (ev133)
            have lk146 : ((t).1 71 47).toInt = v133.toInt := congrArg Int32.toInt (ev133)
            refine r_callVv C oCl12 rfl miX12_drops mlX12_289 (ct9_X12_drops l E (t)  (Cq) (by omega) (by omega) iv10) (by decide) rfl rfl rfl (Nat.le_of_ble_eq_true rfl) (oDec_at oX12_test 62 rfl) (fun u147 pu147 fu147 => ?_)
            try dsimp only at pu147
            try simp only [lk145, lk146] at pu147
            obtain ⟨pu147_0, pu147_1, pu147_2, pu147_3⟩ := pu147
            have lk149 : ((u147).1 71 2).toInt = (t.1 71 2).toInt := congrArg Int32.toInt ((fu147 71 2 rfl).1)
            have lk150 : ((u147).1 71 4).toInt = (t.1 71 4).toInt := congrArg Int32.toInt ((fu147 71 4 rfl).1)
            have lk151 : ((u147).1 71 5).toInt = v127.toInt := congrArg Int32.toInt (((fu147 71 5 rfl).1).trans (ev127))
            have lk152 : ((u147).1 71 48).toInt = (t.1 71 48).toInt := congrArg Int32.toInt ((fu147 71 48 rfl).1)
            have hq153 : oQ 9999 1 (u147) := oQ_drop iv0 pu147_0 (by omega) (by omega) (by omega) (by omega)
            have hq154 : oNQ (u147) := oNQ_drop iv1 pu147_0
            have hq155 : oqTt g fp fq cz 2 (u147) := oqI_drop iv5 pu147_0 (by omega) (fun _ => by omega)
            have hq156 : oqTN (u147) := oqTN_drop iv5 (by omega) pu147_0 (by omega) (by omega)
            have hq157 : oqTx g fp fq cw cs 2 (u147) := oqTx_drop iv9 (by omega) pu147_0 (by omega) (by omega) (by omega) ((iv7) (by omega)).2
            refine r_goto C (tgt := 110) (oDec_at oX12_test 63 rfl) (by decide) ?_
            have lk158 : ((u147).1 71 2).toInt = (t.1 71 2).toInt := congrArg Int32.toInt ((fu147 71 2 rfl).1)
            have lk159 : ((u147).1 71 5).toInt = v127.toInt := congrArg Int32.toInt (((fu147 71 5 rfl).1).trans (ev127))
            have lk160 : ((u147).1 71 2).toInt = (t.1 71 2).toInt := congrArg Int32.toInt ((fu147 71 2 rfl).1)
            have lk161 : ((u147).1 71 2).toInt = (t.1 71 2).toInt := congrArg Int32.toInt ((fu147 71 2 rfl).1)
            exact (ih (n - 1) (by omega)).2.2 (u147)   (by first | exact hq153 | exact (iv1 (by omega)).1 | exact oQ_bad (iv0 (by omega)) (by omega)) (by first | exact hq154 | exact (iv1 (by omega)).2 | exact fun hb => by exfalso; omega) (by omega) (by omega) (by omega) (by first | exact hq155 | exact (iv8 (by omega)).1 | exact oqI_kp (iv7 (by omega)) (by omega) rfl rfl) (by first | exact hq156 | exact (iv8 (by omega)).2 | (intro h9; exfalso; omega)) (by first | exact (oqGw_fr fu147 rfl iv7) | exact iv9 (by omega) | exact oqGw_b (by omega)) (oqBP_fr fu147 rfl iv8) (by first | exact hq157 | exact oqTx_bd (by omega)) pu147_3 (by omega)
  refine r_iconst C (oDec_at oX12_test 0 rfl) (v := k1) (by rw [qk1]; rfl) ?_
  refine r_istore_n C (lv' := [(0, .ref (oad E 71)), (1, .int k1)]) [1, 0] (oDec_at oX12_test 1 rfl) rfl (by decide) rfl ?_
  have hj := oB1_f ((s).1 71 5)
  exact (key (4000 * (1602 - ((s).1 71 2).toInt) + 10 * k1.toInt + 100 * oB1 ((s).1 71 5)).toNat).1 (s) k1  (by first | exact fun _ => hp0 | (intro h; exfalso; omega)) (by first | (intro h; exfalso; omega) | exact fun _ => ⟨(by assumption), fun hb => by exfalso; omega⟩) (by omega) (by omega) (by omega) (by omega) (by omega) (by first | (intro h; exfalso; omega) | exact fun _ => hp4) (by first | (intro h; exfalso; omega) | exact fun _ => ⟨(by assumption), (by assumption)⟩) (by first | (intro h; exfalso; omega) | exact fun _ => (by assumption) | exact fun _ => oqGw_b (by omega)) hp5 hp6 hp7 hp8 (by first | (intro h; exfalso; omega) | exact fun _ => hp9) (by first | (intro h; exfalso; omega) | exact fun _ => p_11 | exact fun _ => (by assumption)) hp10 (by omega)
