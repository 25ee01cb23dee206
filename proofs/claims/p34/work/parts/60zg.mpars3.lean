set_option maxHeartbeats 4000000 in
set_option maxRecDepth 100000 in
theorem ct7_X12_dropsNots (l : Launch) (E : oE) (s : oS)  (g : Int → Int) (fp : Int) (fq : Int) (cz : oqCf) (hp0 : oQ 9999 1 s) (hp1 : 0 ≤ (s.1 71 48).toInt ∧ (s.1 71 48).toInt ≤ 6) (hp2 : (s.1 71 45).toInt + (s.1 71 47).toInt ≤ 1599) (hp3 : oqTt g fp fq cz 2 s) : oMet l 3 yX12_dropsNots cX12_dropsNots 1 none [(12, 45), (12, 47), (12, 48), (78, 9999)] E s [.ref (oad E 71)] (oPv (fun u => (oQ 9999 1 u) ∧ (0 ≤ (u.1 71 48).toInt ∧ (u.1 71 48).toInt ≤ 6) ∧ ((u.1 71 45).toInt + (u.1 71 47).toInt = (s.1 71 45).toInt + (s.1 71 47).toInt) ∧ (oqTt g fp fq cz 2 u) ∧ (oqTN u))) := by
  refine oMet.of (lv := [(0, .ref (oad E 71))]) (by decide +kernel) (Nat.le_of_ble_eq_true rfl) rfl (fun J C hT => ?_)
  have C : oC l 3 cX12_dropsNots RX12 1 none [(12, 45), (12, 47), (12, 48), (78, 9999)] E s (oPv (fun u => (oQ 9999 1 u) ∧ (0 ≤ (u.1 71 48).toInt ∧ (u.1 71 48).toInt ≤ 6) ∧ ((u.1 71 45).toInt + (u.1 71 47).toInt = (s.1 71 45).toInt + (s.1 71 47).toInt) ∧ (oqTt g fp fq cz 2 u) ∧ (oqTN u))) J := C
  obtain ⟨k1, qk1⟩ : ∃ z : Int32, z = 1 := ⟨_, rfl⟩
  have ek1 : k1.toInt = 1 := by rw [qk1]; rfl
  obtain ⟨k16, qk16⟩ : ∃ z : Int32, z = 16 := ⟨_, rfl⟩
  have ek16 : k16.toInt = 16 := by rw [qk16]; rfl
  have key : ∀ n : Nat, (∀ (t : oS), (oQ 9999 1 t) → (0 ≤ (t.1 71 48).toInt ∧ (t.1 71 48).toInt ≤ 6) → ((t.1 71 45).toInt + (t.1 71 47).toInt = (s.1 71 45).toInt + (s.1 71 47).toInt) → (oqTt g fp fq cz 2 t) → (t.1 71 47).toInt + 1 ≤ (n : Int) → J t 0 [(0, .ref (oad E 71))] []) := by
    intro n
    induction n using Nat.strongRecOn with
    | _ n ih =>
      skip
      · intro t   iv0 iv1 iv2 iv3 hmu
        refine r_ty C (fun hty => ?_)
        have hty_coded : (0 : Int) ≤ ((t).1 71 45).toInt ∧ ((t).1 71 45).toInt ≤ 1600 := hty.1 71 45
        have hty_waits : (0 : Int) ≤ ((t).1 71 47).toInt ∧ ((t).1 71 47).toInt ≤ 1700 := hty.1 71 47
        clear hty
        refine r_aload_n C (j := 0) (oDec_at oX12_dropsNots 0 rfl) rfl rfl ?_
        obtain ⟨v1, ev1⟩ : ∃ z : Int32, (t).1 71 5 = z := ⟨_, rfl⟩
        have gv1 : (t.1 71 5).toInt = v1.toInt := congrArg Int32.toInt (ev1)
        have rv1 := n_rng v1
        refine r_geti (k := 5) (lo := (-2147483648)) (hi := 2147483647) C v1 oCl12 rfl (by decide) flX12_173 rfl rfl (ev1) rfl rfl (oDec_at oX12_dropsNots 1 rfl) (fun _ _ => ?_)
        refine r_if_ne C 33 (oDec_at oX12_dropsNots 2 rfl) (by decide) (fun cd2 => ?_) (fun cd2 => ?_)
        · skip
          have hq3 : oqTN (t) := fun h9 => by omega
          exact r_vret C (oDec_at oX12_dropsNots 16 rfl) ⟨rfl, ⟨iv0, by omega, by omega, iv3, hq3⟩⟩
        · skip
          refine r_aload_n C (j := 0) (oDec_at oX12_dropsNots 3 rfl) rfl rfl ?_
          refine r_bipush C (oDec_at oX12_dropsNots 4 rfl) (v := k16) (by rw [qk16]; rfl) ?_
          refine r_callVi C oCl12 rfl miX12_isOn mlX12_310 (ct_X12_isOn l E (t) k16 ) (by decide) rfl rfl rfl (Nat.le_of_ble_eq_true rfl) (oDec_at oX12_dropsNots 5 rfl) (fun r5 u4 pu4 fu4 => ?_)
          try dsimp only at pu4
          obtain ⟨pu4_0, pu4_1, pu4_2⟩ := pu4
          have hxu4 := oFr_nil fu4; subst hxu4
          have rr5 := n_rng r5
          refine r_if_eq C 33 (oDec_at oX12_dropsNots 6 rfl) (by decide) (fun cd6 => ?_) (fun cd6 => ?_)
          · skip
            clear pu4_1
            replace pu4_2 := pu4_2 (by omega)
            have hq7 : oqTN (t) := fun h9 => by omega
            exact r_vret C (oDec_at oX12_dropsNots 16 rfl) ⟨rfl, ⟨iv0, by omega, by omega, iv3, hq7⟩⟩
          · skip
            replace pu4_1 := pu4_1 (by omega)
            clear pu4_2
            have ho1 := oQ_opn1 iv0 (by omega) (by omega) (by omega)
            refine r_aload_n C (j := 0) (oDec_at oX12_dropsNots 7 rfl) rfl rfl ?_
            refine r_dup C (oDec_at oX12_dropsNots 8 rfl) rfl ?_
            obtain ⟨v8, ev8⟩ : ∃ z : Int32, (t).1 71 48 = z := ⟨_, rfl⟩
            have gv8 : (t.1 71 48).toInt = v8.toInt := congrArg Int32.toInt (ev8)
            refine r_geti (k := 48) (lo := (-1)) (hi := 7) C v8 oCl12 rfl (by decide) flX12_274 rfl rfl (ev8) rfl rfl (oDec_at oX12_dropsNots 9 rfl) (fun b9 b9h => ?_)
            refine r_iconst C (oDec_at oX12_dropsNots 10 rfl) (v := k1) (by rw [qk1]; rfl) ?_
            obtain ⟨v10, ev10⟩ : ∃ z : Int32, z = v8 - k1 := ⟨_, rfl⟩
            have hv10 : v10.toInt = v8.toInt - k1.toInt := n_sub ev10 (by omega) (by omega)
            refine r_isub C v10 (oDec_at oX12_dropsNots 11 rfl) ev10 ?_
            refine r_puti (k := 48) (lo := (-1)) (hi := 7) C oCl12 rfl (by decide) flX12_274 rfl rfl rfl rfl rfl rfl rfl rfl ⟨by omega, by omega⟩ (oDec_at oX12_dropsNots 12 rfl) ?_
            refine r_pc C 26 rfl ?_
            refine r_aload_n C (j := 0) (oDec_at oX12_dropsNots 13 rfl) rfl rfl ?_
            have lk11 : (((pI t 71 48 v10)).1 71 47).toInt = (t.1 71 47).toInt := congrArg Int32.toInt ((pI_ne (a := 71) (b := 47) (c := 71) (k := 48) _ _ (Or.inr (by decide))))
            have lk12 : (((pI t 71 48 v10)).1 71 45).toInt = (t.1 71 45).toInt := congrArg Int32.toInt ((pI_ne (a := 71) (b := 45) (c := 71) (k := 48) _ _ (Or.inr (by decide))))
            have lk13 : (((pI t 71 48 v10)).1 71 47).toInt = (t.1 71 47).toInt := congrArg Int32.toInt ((pI_ne (a := 71) (b := 47) (c := 71) (k := 48) _ _ (Or.inr (by decide))))
            have lk14 : (((pI t 71 48 v10)).1 71 45).toInt = (t.1 71 45).toInt := congrArg Int32.toInt ((pI_ne (a := 71) (b := 45) (c := 71) (k := 48) _ _ (Or.inr (by decide))))
            refine r_callVv C oCl12 rfl miX12_drops mlX12_289 (ct_X12_drops l E ((pI t 71 48 v10))  (by omega) (by omega)) (by decide) rfl rfl rfl (Nat.le_of_ble_eq_true rfl) (oDec_at oX12_dropsNots 14 rfl) (fun u15 pu15 fu15 => ?_)
            try dsimp only at pu15
            try simp only [lk11, lk12, lk13, lk14] at pu15
            obtain ⟨pu15_0, pu15_1, pu15_2⟩ := pu15
            have hq17 : oQ 9999 1 (u15) := oQ_dropN iv0 (by omega) pu15_0 (by omega) (by omega) (by omega) (by omega)
            have hq18 : oqTt g fp fq cz 2 (u15) := oqI_nt iv3 (by omega) (by omega) pu15_0 (by omega) (by omega)
            refine r_goto C (tgt := 0) (oDec_at oX12_dropsNots 15 rfl) (by decide) ?_
            have lk19 : ((u15).1 71 48).toInt = v10.toInt := congrArg Int32.toInt (((fu15 71 48 rfl).1).trans ((pI_self _ _ _ _)))
            exact (ih (n - 1) (by omega)) (u15)   hq17 (by omega) (by omega) hq18 (by omega)
  exact (key (((s).1 71 47).toInt + 1).toNat) (s)   hp0 (by omega) (by omega) hp3 (by omega)
set_option maxHeartbeats 4000000 in
set_option maxRecDepth 100000 in
theorem ct7_X12_goesOnTest (l : Launch) (E : oE) (s : oS)  (g : Int → Int) (fp : Int) (fq : Int) (cz : oqCf) (hp0 : oQ 9999 1 s) (hp1 : (s.1 71 5).toInt = 0) (hp2 : 0 ≤ (s.1 71 48).toInt ∧ (s.1 71 48).toInt ≤ 6) (hp3 : (s.1 71 45).toInt + (s.1 71 47).toInt + 5 ≤ (s.1 71 2).toInt) (hp4 : oqTt g fp fq cz 2 s) (hp5 : oqTN s) (hp6 : oqZ g s) (hp7 : oqWd s) (hp8 : oqBP s) : oMet l 4 yX12_goesOnTest cX12_goesOnTest 1 (some .boolean) [(12, 2), (12, 4), (12, 5), (12, 6), (12, 45), (12, 47), (12, 48), (78, 9999), (79, 9999)] E s [.ref (oad E 71)] (oPi (fun r u => (0 ≤ r.toInt ∧ r.toInt ≤ 1) ∧ (r.toInt = 1 → oQ 9999 0 u) ∧ (r.toInt = 0 → (oQ 9999 1 u ∧ oNQ u)) ∧ (0 ≤ (u.1 71 48).toInt ∧ (u.1 71 48).toInt ≤ 6) ∧ ((s.1 71 2).toInt - (s.1 71 45).toInt - (s.1 71 47).toInt ≤ (u.1 71 2).toInt - (u.1 71 45).toInt - (u.1 71 47).toInt) ∧ ((s.1 71 2).toInt ≤ (u.1 71 2).toInt) ∧ (r.toInt = 1 → oqTt g fp fq cz 0 u) ∧ (r.toInt = 0 → (oqTt g fp fq cz 2 u ∧ oqTN u)) ∧ (r.toInt = 0 → oqGw g u) ∧ (oqBP u))) := by
  refine oMet.of (lv := [(0, .ref (oad E 71))]) (by decide +kernel) (Nat.le_of_ble_eq_true rfl) rfl (fun J C hT => ?_)
  have C : oC l 4 cX12_goesOnTest RX12 1 (some .boolean) [(12, 2), (12, 4), (12, 5), (12, 6), (12, 45), (12, 47), (12, 48), (78, 9999), (79, 9999)] E s (oPi (fun r u => (0 ≤ r.toInt ∧ r.toInt ≤ 1) ∧ (r.toInt = 1 → oQ 9999 0 u) ∧ (r.toInt = 0 → (oQ 9999 1 u ∧ oNQ u)) ∧ (0 ≤ (u.1 71 48).toInt ∧ (u.1 71 48).toInt ≤ 6) ∧ ((s.1 71 2).toInt - (s.1 71 45).toInt - (s.1 71 47).toInt ≤ (u.1 71 2).toInt - (u.1 71 45).toInt - (u.1 71 47).toInt) ∧ ((s.1 71 2).toInt ≤ (u.1 71 2).toInt) ∧ (r.toInt = 1 → oqTt g fp fq cz 0 u) ∧ (r.toInt = 0 → (oqTt g fp fq cz 2 u ∧ oqTN u)) ∧ (r.toInt = 0 → oqGw g u) ∧ (oqBP u))) J := C
  obtain ⟨k0, qk0⟩ : ∃ z : Int32, z = 0 := ⟨_, rfl⟩
  have ek0 : k0.toInt = 0 := by rw [qk0]; rfl
  obtain ⟨k1, qk1⟩ : ∃ z : Int32, z = 1 := ⟨_, rfl⟩
  have ek1 : k1.toInt = 1 := by rw [qk1]; rfl
  obtain ⟨k14, qk14⟩ : ∃ z : Int32, z = 14 := ⟨_, rfl⟩
  have ek14 : k14.toInt = 14 := by rw [qk14]; rfl
  obtain ⟨k15, qk15⟩ : ∃ z : Int32, z = 15 := ⟨_, rfl⟩
  have ek15 : k15.toInt = 15 := by rw [qk15]; rfl
  obtain ⟨k25, qk25⟩ : ∃ z : Int32, z = 25 := ⟨_, rfl⟩
  have ek25 : k25.toInt = 25 := by rw [qk25]; rfl
  obtain ⟨k93, qk93⟩ : ∃ z : Int32, z = 93 := ⟨_, rfl⟩
  have ek93 : k93.toInt = 93 := by rw [qk93]; rfl
  have key : ∀ n : Nat, (∀ (t : oS), (oQ 9999 1 t) → ((t.1 71 5).toInt = 0) → (0 ≤ (t.1 71 48).toInt ∧ (t.1 71 48).toInt ≤ 6) → ((s.1 71 2).toInt - (s.1 71 45).toInt - (s.1 71 47).toInt ≤ (t.1 71 2).toInt - (t.1 71 45).toInt - (t.1 71 47).toInt) → ((s.1 71 2).toInt ≤ (t.1 71 2).toInt) → (oqTt g fp fq cz 2 t) → (oqTN t) → (oqZ g t) → (oqWd t) → (oqBP t) → 4000 * (1601 - (t.1 71 2).toInt) ≤ (n : Int) → J t 0 [(0, .ref (oad E 71))] []) ∧ (∀ (t : oS), (oQ 9999 1 t) → (oHS t) → ((t.1 71 5).toInt = 0) → (0 ≤ (t.1 71 48).toInt ∧ (t.1 71 48).toInt ≤ 6) → ((s.1 71 2).toInt - (s.1 71 45).toInt - (s.1 71 47).toInt + 1 ≤ (t.1 71 2).toInt - (t.1 71 45).toInt - (t.1 71 47).toInt) → ((s.1 71 2).toInt ≤ (t.1 71 2).toInt) → (oqI3 g fp fq cz t) → (oqTN t) → (oqSk g ((t.1 71 2).toInt - 1) = (t.1 71 2).toInt - 1 ∧ g ((t.1 71 2).toInt - 1) = 93) → ((t.1 71 2).toInt = (t.1 71 2).toInt) → (oqZ g t) → (oqWd t) → (oqBP t) → 4000 * (1601 - (t.1 71 2).toInt) + 2000 + (t.1 71 47).toInt ≤ (n : Int) → J t 33 [(0, .ref (oad E 71))] []) ∧ (∀ (t : oS), (oQ 9999 1 t) → ((t.1 71 5).toInt = 0) → (0 ≤ (t.1 71 48).toInt ∧ (t.1 71 48).toInt ≤ 6) → ((s.1 71 2).toInt - (s.1 71 45).toInt - (s.1 71 47).toInt ≤ (t.1 71 2).toInt - (t.1 71 45).toInt - (t.1 71 47).toInt) → ((s.1 71 2).toInt ≤ (t.1 71 2).toInt) → (oqTt g fp fq cz 2 t) → (oqTN t) → (oqSk g (t.1 71 2).toInt = (t.1 71 2).toInt) → (g (t.1 71 2).toInt ≠ 93 ∨ oNS t) → (oqZ g t) → (oqWd t) → (oqBP t) → 3500 ≤ (n : Int) → J t 76 [(0, .ref (oad E 71))] []) ∧ (∀ (t : oS), (oQ 9999 1 t) → ((t.1 71 5).toInt = 0) → (0 ≤ (t.1 71 48).toInt ∧ (t.1 71 48).toInt ≤ 6) → ((s.1 71 2).toInt - (s.1 71 45).toInt - (s.1 71 47).toInt + 1 ≤ (t.1 71 2).toInt - (t.1 71 45).toInt - (t.1 71 47).toInt) → ((s.1 71 2).toInt ≤ (t.1 71 2).toInt) → (oqTt g fp fq cz 0 t) → (oqTN t) → (oqBP t) → (t.1 71 47).toInt + 1 ≤ (n : Int) → J t 87 [(0, .ref (oad E 71))] []) ∧ (∀ (t : oS), (oQ 9999 1 t) → ((t.1 71 5).toInt = 0) → (0 ≤ (t.1 71 48).toInt ∧ (t.1 71 48).toInt ≤ 6) → ((s.1 71 2).toInt - (s.1 71 45).toInt - (s.1 71 47).toInt + 1 ≤ (t.1 71 2).toInt - (t.1 71 45).toInt - (t.1 71 47).toInt) → ((s.1 71 2).toInt ≤ (t.1 71 2).toInt) → (oqTt g fp fq cz 0 t) → (oqTN t) → (oqBP t) → (t.1 71 47).toInt + 1 ≤ (n : Int) → J t 137 [(0, .ref (oad E 71))] []) := by
    intro n
    induction n using Nat.strongRecOn with
    | _ n ih =>
      refine ⟨?_, ?_, ?_, ?_, ?_⟩
      · intro t   iv0 iv1 iv2 iv3 iv4 iv5 iv6 iv7 iv8 iv9 hmu
        refine r_ty C (fun hty => ?_)
        have hty_coded : (0 : Int) ≤ ((t).1 71 45).toInt ∧ ((t).1 71 45).toInt ≤ 1600 := hty.1 71 45
        have hty_waits : (0 : Int) ≤ ((t).1 71 47).toInt ∧ ((t).1 71 47).toInt ≤ 1700 := hty.1 71 47
        have hty_at : (0 : Int) ≤ ((t).1 71 2).toInt ∧ ((t).1 71 2).toInt ≤ 1600 := hty.1 71 2
        clear hty
        refine r_aload_n C (j := 0) (oDec_at oX12_goesOnTest 0 rfl) rfl rfl ?_
        obtain ⟨v1, ev1⟩ : ∃ z : Int32, (t).1 71 5 = z := ⟨_, rfl⟩
        have gv1 : (t.1 71 5).toInt = v1.toInt := congrArg Int32.toInt (ev1)
        have rv1 := n_rng v1
        refine r_geti (k := 5) (lo := (-2147483648)) (hi := 2147483647) C v1 oCl12 rfl (by decide) flX12_173 rfl rfl (ev1) rfl rfl (oDec_at oX12_goesOnTest 1 rfl) (fun _ _ => ?_)
        refine r_if_ne C 76 (oDec_at oX12_goesOnTest 2 rfl) (by decide) (fun cd2 => ?_) (fun cd2 => ?_)
        · skip
          have lk3 : ((t).1 71 5).toInt = v1.toInt := congrArg Int32.toInt (ev1)
          exact (ih (n - 1) (by omega)).2.2.1 (t)   iv0 (by omega) (by omega) (by omega) (by omega) iv5 iv6 (by omega) (by first | exact Or.inl (by omega) | (exfalso; omega)) iv7 iv8 iv9 (by omega)
        · skip
          refine r_aload_n C (j := 0) (oDec_at oX12_goesOnTest 3 rfl) rfl rfl ?_
          refine r_callVi C oCl12 rfl miX12_look mlX12_185 (ct4_X12_look l E (t)  (g) ((t.1 71 2).toInt) (by omega) iv7) (by decide) rfl rfl rfl (Nat.le_of_ble_eq_true rfl) (oDec_at oX12_goesOnTest 4 rfl) (fun r5 u4 pu4 fu4 => ?_)
          try dsimp only at pu4
          obtain ⟨pu4_0, pu4_1, pu4_2, pu4_3, pu4_4, pu4_5⟩ := pu4
          have rr5 := n_rng r5
          have hsk : oqSk g ((u4).1 71 2).toInt = ((u4).1 71 2).toInt := by rw [show ((u4).1 71 2).toInt = oqSk g (t.1 71 2).toInt by omega]; exact oqSk_sk pu4_3
          have hgA : g ((u4).1 71 2).toInt = r5.toInt := by rw [show ((u4).1 71 2).toInt = oqSk g (t.1 71 2).toInt by omega]; omega
          have hq6 : oqTt g fp fq cz 2 (u4) := oqI_id iv5 (oFr_row fu4 (c := 103) rfl rfl) (congrArg Int32.toInt (fu4 71 5 rfl).1) (congrArg Int32.toInt (fu4 71 47 rfl).1) (by rw [show ((u4).1 71 2).toInt = oqSk g (t.1 71 2).toInt by omega]; exact oqSk_sk pu4_3) (congrArg Int32.toInt (fu4 71 4 rfl).1) (congrArg Int32.toInt (fu4 71 48 rfl).1) (congrArg Int32.toInt (fu4 71 6 rfl).1)
          refine r_bipush C (oDec_at oX12_goesOnTest 5 rfl) (v := k93) (by rw [qk93]; rfl) ?_
          refine r_icmp_ne C 76 (oDec_at oX12_goesOnTest 6 rfl) (by decide) (fun cd7 => ?_) (fun cd7 => ?_)
          · skip
            have lk8 : ((u4).1 71 5).toInt = v1.toInt := congrArg Int32.toInt (((fu4 71 5 rfl).1).trans (ev1))
            have lk9 : ((u4).1 71 48).toInt = (t.1 71 48).toInt := congrArg Int32.toInt ((fu4 71 48 rfl).1)
            have lk10 : ((u4).1 71 45).toInt = (t.1 71 45).toInt := congrArg Int32.toInt ((fu4 71 45 rfl).1)
            have lk11 : ((u4).1 71 47).toInt = (t.1 71 47).toInt := congrArg Int32.toInt ((fu4 71 47 rfl).1)
            exact (ih (n - 1) (by omega)).2.2.1 (u4)   (oQ_fr fu4 rfl iv0) (by omega) (by omega) (by omega) (by omega) hq6 (oqTN_fr fu4 rfl iv6) (by omega) (by first | exact Or.inl (by omega) | exact Or.inr (pu4_2 (by omega)) | (exfalso; omega)) (oqZ_fr fu4 rfl iv7) (oqWd_fr fu4 rfl iv8) (oqBP_fr fu4 rfl iv9) (by omega)
          · skip
            refine r_aload_n C (j := 0) (oDec_at oX12_goesOnTest 7 rfl) rfl rfl ?_
            refine r_callVi C oCl12 rfl miX12_hasSquare mlX12_331 (ct_X12_hasSquare l E (u4)  ) (by decide) rfl rfl rfl (Nat.le_of_ble_eq_true rfl) (oDec_at oX12_goesOnTest 8 rfl) (fun r13 u12 pu12 fu12 => ?_)
            try dsimp only at pu12
            obtain ⟨pu12_0, pu12_1, pu12_2⟩ := pu12
            have hxu12 := oFr_nil fu12; subst hxu12
            have rr13 := n_rng r13
            refine r_if_eq C 76 (oDec_at oX12_goesOnTest 9 rfl) (by decide) (fun cd14 => ?_) (fun cd14 => ?_)
            · skip
              have lk15 : ((u4).1 71 5).toInt = v1.toInt := congrArg Int32.toInt (((fu4 71 5 rfl).1).trans (ev1))
              have lk16 : ((u4).1 71 48).toInt = (t.1 71 48).toInt := congrArg Int32.toInt ((fu4 71 48 rfl).1)
              have lk17 : ((u4).1 71 45).toInt = (t.1 71 45).toInt := congrArg Int32.toInt ((fu4 71 45 rfl).1)
              have lk18 : ((u4).1 71 47).toInt = (t.1 71 47).toInt := congrArg Int32.toInt ((fu4 71 47 rfl).1)
              exact (ih (n - 1) (by omega)).2.2.1 (u4)   (oQ_fr fu4 rfl iv0) (by omega) (by omega) (by omega) (by omega) hq6 (oqTN_fr fu4 rfl iv6) (by omega) (by first | exact Or.inl (by omega) | exact Or.inr (pu12_2 (by omega)) | (exfalso; omega)) (oqZ_fr fu4 rfl iv7) (oqWd_fr fu4 rfl iv8) (oqBP_fr fu4 rfl iv9) (by omega)
            · skip
              have hq19 : oHS (u4) := pu12_1 (by omega)
              refine r_aload_n C (j := 0) (oDec_at oX12_goesOnTest 10 rfl) rfl rfl ?_
              refine r_dup C (oDec_at oX12_goesOnTest 11 rfl) rfl ?_
              obtain ⟨v20, ev20⟩ : ∃ z : Int32, (u4).1 71 2 = z := ⟨_, rfl⟩
              have gv20 : (u4.1 71 2).toInt = v20.toInt := congrArg Int32.toInt (ev20)
              refine r_geti (k := 2) (lo := 0) (hi := 1600) C v20 oCl12 rfl (by decide) flX12_179 rfl rfl (ev20) rfl rfl (oDec_at oX12_goesOnTest 12 rfl) (fun b21 b21h => ?_)
              refine r_iconst C (oDec_at oX12_goesOnTest 13 rfl) (v := k1) (by rw [qk1]; rfl) ?_
              obtain ⟨v22, ev22⟩ : ∃ z : Int32, z = v20 + k1 := ⟨_, rfl⟩
              have hv22 : v22.toInt = v20.toInt + k1.toInt := n_add ev22 (by omega) (by omega)
              refine r_iadd C v22 (oDec_at oX12_goesOnTest 14 rfl) ev22 ?_
              refine r_puti (k := 2) (lo := 0) (hi := 1600) C oCl12 rfl (by decide) flX12_179 rfl rfl rfl rfl rfl rfl rfl rfl ⟨by omega, by omega⟩ (oDec_at oX12_goesOnTest 15 rfl) ?_
              have lk23 : (((pI u4 71 2 v22)).1 71 5).toInt = v1.toInt := congrArg Int32.toInt (((pI_ne (a := 71) (b := 5) (c := 71) (k := 2) _ _ (Or.inr (by decide)))).trans (((fu4 71 5 rfl).1).trans (ev1)))
              have lk24 : (((pI u4 71 2 v22)).1 71 48).toInt = (t.1 71 48).toInt := congrArg Int32.toInt (((pI_ne (a := 71) (b := 48) (c := 71) (k := 2) _ _ (Or.inr (by decide)))).trans ((fu4 71 48 rfl).1))
              have lk25 : (((pI u4 71 2 v22)).1 71 2).toInt = v22.toInt := congrArg Int32.toInt ((pI_self _ _ _ _))
              have lk26 : (((pI u4 71 2 v22)).1 71 45).toInt = (t.1 71 45).toInt := congrArg Int32.toInt (((pI_ne (a := 71) (b := 45) (c := 71) (k := 2) _ _ (Or.inr (by decide)))).trans ((fu4 71 45 rfl).1))
              have lk27 : (((pI u4 71 2 v22)).1 71 47).toInt = (t.1 71 47).toInt := congrArg Int32.toInt (((pI_ne (a := 71) (b := 47) (c := 71) (k := 2) _ _ (Or.inr (by decide)))).trans ((fu4 71 47 rfl).1))
              have lk28 : (((pI u4 71 2 v22)).1 71 2).toInt = v22.toInt := congrArg Int32.toInt ((pI_self _ _ _ _))
              have lk29 : (((pI u4 71 2 v22)).1 71 2).toInt = v22.toInt := congrArg Int32.toInt ((pI_self _ _ _ _))
              have lk30 : (((pI u4 71 2 v22)).1 71 2).toInt = v22.toInt := congrArg Int32.toInt ((pI_self _ _ _ _))
              have lk31 : (((pI u4 71 2 v22)).1 71 47).toInt = (t.1 71 47).toInt := congrArg Int32.toInt (((pI_ne (a := 71) (b := 47) (c := 71) (k := 2) _ _ (Or.inr (by decide)))).trans ((fu4 71 47 rfl).1))
              exact (ih (n - 1) (by omega)).2.1 ((pI u4 71 2 v22))   (oQ_fr (oFr_oneI (q := 12) (m := 2) rfl (by rfl)) rfl (oQ_fr fu4 rfl iv0)) (oHS_fr (oFr_oneI (q := 12) (m := 2) rfl (by rfl)) rfl hq19) (by omega) (by omega) (by omega) (by omega) (by first | exact (by assumption) | exact oqI3_of hq6 hsk (by omega)) (oqTN_fr (oFr_oneI (q := 12) (m := 2) rfl (by rfl)) rfl (oqTN_fr fu4 rfl iv6)) (by first | (rw [show (((pI u4 71 2 v22)).1 71 2).toInt - 1 = ((u4).1 71 2).toInt by omega]; exact ⟨hsk, by omega⟩) | (rw [show (((pI u4 71 2 v22)).1 71 2).toInt = (t.1 71 2).toInt by omega]; omega)) (by omega) (oqZ_fr (oFr_oneI (q := 12) (m := 2) rfl (by rfl)) rfl (oqZ_fr fu4 rfl iv7)) (oqWd_fr (oFr_oneI (q := 12) (m := 2) rfl (by rfl)) rfl (oqWd_fr fu4 rfl iv8)) (oqBP_fr (oFr_oneI (q := 12) (m := 2) rfl (by rfl)) rfl (oqBP_fr fu4 rfl iv9)) (by omega)
      · intro t   iv0 iv1 iv2 iv3 iv4 iv5 iv6 iv7 iv8 iv9 iv10 iv11 iv12 hmu
        refine r_ty C (fun hty => ?_)
        have hty_coded : (0 : Int) ≤ ((t).1 71 45).toInt ∧ ((t).1 71 45).toInt ≤ 1600 := hty.1 71 45
        have hty_waits : (0 : Int) ≤ ((t).1 71 47).toInt ∧ ((t).1 71 47).toInt ≤ 1700 := hty.1 71 47
        have hty_at : (0 : Int) ≤ ((t).1 71 2).toInt ∧ ((t).1 71 2).toInt ≤ 1600 := hty.1 71 2
        clear hty
        refine r_aload_n C (j := 0) (oDec_at oX12_goesOnTest 16 rfl) rfl rfl ?_
        refine r_bipush C (oDec_at oX12_goesOnTest 17 rfl) (v := k25) (by rw [qk25]; rfl) ?_
        refine r_callVi C oCl12 rfl miX12_isOn mlX12_310 (ct_X12_isOn l E (t) k25 ) (by decide) rfl rfl rfl (Nat.le_of_ble_eq_true rfl) (oDec_at oX12_goesOnTest 18 rfl) (fun r33 u32 pu32 fu32 => ?_)
        try dsimp only at pu32
        obtain ⟨pu32_0, pu32_1, pu32_2⟩ := pu32
        have hxu32 := oFr_nil fu32; subst hxu32
        have rr33 := n_rng r33
        refine r_if_ne C 49 (oDec_at oX12_goesOnTest 19 rfl) (by decide) (fun cd34 => ?_) (fun cd34 => ?_)
        · skip
          replace pu32_1 := pu32_1 (by omega)
          clear pu32_2
          have ho1 := oQ_opn1 iv0 (by omega) (by omega) (by omega)
          refine r_aload_n C (j := 0) (oDec_at oX12_goesOnTest 23 rfl) rfl rfl ?_
          refine r_dup C (oDec_at oX12_goesOnTest 24 rfl) rfl ?_
          obtain ⟨v35, ev35⟩ : ∃ z : Int32, (t).1 71 47 = z := ⟨_, rfl⟩
          have gv35 : (t.1 71 47).toInt = v35.toInt := congrArg Int32.toInt (ev35)
          refine r_geti (k := 47) (lo := 0) (hi := 1700) C v35 oCl12 rfl (by decide) flX12_277 rfl rfl (ev35) rfl rfl (oDec_at oX12_goesOnTest 25 rfl) (fun b36 b36h => ?_)
          refine r_iconst C (oDec_at oX12_goesOnTest 26 rfl) (v := k1) (by rw [qk1]; rfl) ?_
          obtain ⟨v37, ev37⟩ : ∃ z : Int32, z = v35 - k1 := ⟨_, rfl⟩
          have hv37 : v37.toInt = v35.toInt - k1.toInt := n_sub ev37 (by omega) (by omega)
          refine r_isub C v37 (oDec_at oX12_goesOnTest 27 rfl) ev37 ?_
          refine r_puti (k := 47) (lo := 0) (hi := 1700) C oCl12 rfl (by decide) flX12_277 rfl rfl rfl rfl rfl rfl rfl rfl ⟨by omega, by omega⟩ (oDec_at oX12_goesOnTest 28 rfl) ?_
          refine r_pc C 59 rfl ?_
          refine r_aload_n C (j := 0) (oDec_at oX12_goesOnTest 29 rfl) rfl rfl ?_
          refine r_dup C (oDec_at oX12_goesOnTest 30 rfl) rfl ?_
          obtain ⟨v38, ev38⟩ : ∃ z : Int32, ((pI t 71 47 v37)).1 71 48 = z := ⟨_, rfl⟩
          have gv38 : (t.1 71 48).toInt = v38.toInt := congrArg Int32.toInt (((pI_ne (a := 71) (b := 48) (c := 71) (k := 47) _ _ (Or.inr (by decide)))).symm.trans ev38)
          have ggv38 : (((pI t 71 47 v37)).1 71 48).toInt = v38.toInt := congrArg Int32.toInt ev38
          refine r_geti (k := 48) (lo := (-1)) (hi := 7) C v38 oCl12 rfl (by decide) flX12_274 rfl rfl (ev38) rfl rfl (oDec_at oX12_goesOnTest 31 rfl) (fun b39 b39h => ?_)
          refine r_iconst C (oDec_at oX12_goesOnTest 32 rfl) (v := k1) (by rw [qk1]; rfl) ?_
          obtain ⟨v40, ev40⟩ : ∃ z : Int32, z = v38 - k1 := ⟨_, rfl⟩
          have hv40 : v40.toInt = v38.toInt - k1.toInt := n_sub ev40 (by omega) (by omega)
          refine r_isub C v40 (oDec_at oX12_goesOnTest 33 rfl) ev40 ?_
          refine r_puti (k := 48) (lo := (-1)) (hi := 7) C oCl12 rfl (by decide) flX12_274 rfl rfl rfl rfl rfl rfl rfl rfl ⟨by omega, by omega⟩ (oDec_at oX12_goesOnTest 34 rfl) ?_
          refine r_pc C 69 rfl ?_
          have lk41 : (((pI (pI t 71 47 v37) 71 48 v40)).1 71 5).toInt = (t.1 71 5).toInt := congrArg Int32.toInt (((pI_ne (a := 71) (b := 5) (c := 71) (k := 48) _ _ (Or.inr (by decide)))).trans ((pI_ne (a := 71) (b := 5) (c := 71) (k := 47) _ _ (Or.inr (by decide)))))
          have lk42 : (((pI (pI t 71 47 v37) 71 48 v40)).1 71 47).toInt = v37.toInt := congrArg Int32.toInt (((pI_ne (a := 71) (b := 47) (c := 71) (k := 48) _ _ (Or.inr (by decide)))).trans ((pI_self _ _ _ _)))
          have lk43 : (((pI (pI t 71 47 v37) 71 48 v40)).1 71 48).toInt = v40.toInt := congrArg Int32.toInt ((pI_self _ _ _ _))
          have lk44 : (((pI (pI t 71 47 v37) 71 48 v40)).1 71 45).toInt = (t.1 71 45).toInt := congrArg Int32.toInt (((pI_ne (a := 71) (b := 45) (c := 71) (k := 48) _ _ (Or.inr (by decide)))).trans ((pI_ne (a := 71) (b := 45) (c := 71) (k := 47) _ _ (Or.inr (by decide)))))
          have hq45 : oQ 9999 1 ((pI (pI t 71 47 v37) 71 48 v40)) := oQ_pop iv0 (by omega) (by omega) (by omega) (by omega)
          have hq46 : oqTt g fp fq cz 2 ((pI (pI t 71 47 v37) 71 48 v40)) := oqI_cl iv6 (by omega) (by omega) (by omega) (by omega) (by omega) (by omega) (by omega)
          refine r_aload_n C (j := 0) (oDec_at oX12_goesOnTest 35 rfl) rfl rfl ?_
          have lk47 : (((pI (pI t 71 47 v37) 71 48 v40)).1 71 48).toInt = v40.toInt := congrArg Int32.toInt ((pI_self _ _ _ _))
          have lk48 : (((pI (pI t 71 47 v37) 71 48 v40)).1 71 45).toInt = (t.1 71 45).toInt := congrArg Int32.toInt (((pI_ne (a := 71) (b := 45) (c := 71) (k := 48) _ _ (Or.inr (by decide)))).trans ((pI_ne (a := 71) (b := 45) (c := 71) (k := 47) _ _ (Or.inr (by decide)))))
          have lk49 : (((pI (pI t 71 47 v37) 71 48 v40)).1 71 47).toInt = v37.toInt := congrArg Int32.toInt (((pI_ne (a := 71) (b := 47) (c := 71) (k := 48) _ _ (Or.inr (by decide)))).trans ((pI_self _ _ _ _)))
          have lk50 : (((pI (pI t 71 47 v37) 71 48 v40)).1 71 45).toInt = (t.1 71 45).toInt := congrArg Int32.toInt (((pI_ne (a := 71) (b := 45) (c := 71) (k := 48) _ _ (Or.inr (by decide)))).trans ((pI_ne (a := 71) (b := 45) (c := 71) (k := 47) _ _ (Or.inr (by decide)))))
          have lk51 : (((pI (pI t 71 47 v37) 71 48 v40)).1 71 47).toInt = v37.toInt := congrArg Int32.toInt (((pI_ne (a := 71) (b := 47) (c := 71) (k := 48) _ _ (Or.inr (by decide)))).trans ((pI_self _ _ _ _)))
          refine r_callVv C oCl12 rfl miX12_dropsNots mlX12_325 (ct7_X12_dropsNots l E ((pI (pI t 71 47 v37) 71 48 v40))  (g) (fp) (fq) (cz) hq45 (by omega) (by omega) hq46) (by decide) rfl rfl rfl (Nat.le_of_ble_eq_true rfl) (oDec_at oX12_goesOnTest 36 rfl) (fun u52 pu52 fu52 => ?_)
          try dsimp only at pu52
          try simp only [lk47, lk48, lk49, lk50, lk51] at pu52
          obtain ⟨pu52_0, pu52_1, pu52_2, pu52_3, pu52_4⟩ := pu52
          refine r_goto C (tgt := 0) (oDec_at oX12_goesOnTest 37 rfl) (by decide) ?_
          have lk54 : ((u52).1 71 5).toInt = (t.1 71 5).toInt := congrArg Int32.toInt (((fu52 71 5 rfl).1).trans (((pI_ne (a := 71) (b := 5) (c := 71) (k := 48) _ _ (Or.inr (by decide)))).trans ((pI_ne (a := 71) (b := 5) (c := 71) (k := 47) _ _ (Or.inr (by decide))))))
          have lk55 : ((u52).1 71 2).toInt = (t.1 71 2).toInt := congrArg Int32.toInt (((fu52 71 2 rfl).1).trans (((pI_ne (a := 71) (b := 2) (c := 71) (k := 48) _ _ (Or.inr (by decide)))).trans ((pI_ne (a := 71) (b := 2) (c := 71) (k := 47) _ _ (Or.inr (by decide))))))
          have lk56 : ((u52).1 71 2).toInt = (t.1 71 2).toInt := congrArg Int32.toInt (((fu52 71 2 rfl).1).trans (((pI_ne (a := 71) (b := 2) (c := 71) (k := 48) _ _ (Or.inr (by decide)))).trans ((pI_ne (a := 71) (b := 2) (c := 71) (k := 47) _ _ (Or.inr (by decide))))))
          have lk57 : ((u52).1 71 2).toInt = (t.1 71 2).toInt := congrArg Int32.toInt (((fu52 71 2 rfl).1).trans (((pI_ne (a := 71) (b := 2) (c := 71) (k := 48) _ _ (Or.inr (by decide)))).trans ((pI_ne (a := 71) (b := 2) (c := 71) (k := 47) _ _ (Or.inr (by decide))))))
          exact (ih (n - 1) (by omega)).1 (u52)   pu52_0 (by omega) (by omega) (by omega) (by omega) pu52_3 pu52_4 (oqZ_fr fu52 rfl (oqZ_fr (oFr_oneI (q := 12) (m := 48) rfl (by rfl)) rfl (oqZ_fr (oFr_oneI (q := 12) (m := 47) rfl (by rfl)) rfl iv10))) (oqWd_fr fu52 rfl (oqWd_fr (oFr_oneI (q := 12) (m := 48) rfl (by rfl)) rfl (oqWd_fr (oFr_oneI (q := 12) (m := 47) rfl (by rfl)) rfl iv11))) (oqBP_fr fu52 rfl (oqBP_fr (oFr_oneI (q := 12) (m := 48) rfl (by rfl)) rfl (oqBP_fr (oFr_oneI (q := 12) (m := 47) rfl (by rfl)) rfl iv12))) (by omega)
        · skip
          clear pu32_1
          replace pu32_2 := pu32_2 (by omega)
          have hs1 := oHS_1 iv1
          have htp := oqI_tp iv0 (by omega) (by omega)
          have htn := iv7 (by omega)
          refine r_aload_n C (j := 0) (oDec_at oX12_goesOnTest 20 rfl) rfl rfl ?_
          refine r_callVv C oCl12 rfl miX12_drops mlX12_289 (ct_X12_drops l E (t)  (by omega) (by omega)) (by decide) rfl rfl rfl (Nat.le_of_ble_eq_true rfl) (oDec_at oX12_goesOnTest 21 rfl) (fun u58 pu58 fu58 => ?_)
          try dsimp only at pu58
          obtain ⟨pu58_0, pu58_1, pu58_2⟩ := pu58
          have lk60 : ((u58).1 71 5).toInt = (t.1 71 5).toInt := congrArg Int32.toInt ((fu58 71 5 rfl).1)
          have lk61 : ((u58).1 71 48).toInt = (t.1 71 48).toInt := congrArg Int32.toInt ((fu58 71 48 rfl).1)
          have lk62 : ((u58).1 71 2).toInt = (t.1 71 2).toInt := congrArg Int32.toInt ((fu58 71 2 rfl).1)
          have lk63 : ((u58).1 71 4).toInt = (t.1 71 4).toInt := congrArg Int32.toInt ((fu58 71 4 rfl).1)
          have hd3 := oqI3_drop iv6 (by omega) pu58_0 (by omega) (by omega)
          have hq64 : oQ 9999 1 (u58) := oQ_drop iv0 pu58_0 (by omega) (by omega) (by omega) (by omega)
          have hq65 : oHS (u58) := oHS_drop iv1 pu58_0 (by omega)
          have hq66 : oqI3 g fp fq cz (u58) := hd3.1
          have hq67 : oqTN (u58) := hd3.2
          refine r_goto C (tgt := 33) (oDec_at oX12_goesOnTest 22 rfl) (by decide) ?_
          have lk68 : ((u58).1 71 5).toInt = (t.1 71 5).toInt := congrArg Int32.toInt ((fu58 71 5 rfl).1)
          have lk69 : ((u58).1 71 48).toInt = (t.1 71 48).toInt := congrArg Int32.toInt ((fu58 71 48 rfl).1)
          have lk70 : ((u58).1 71 2).toInt = (t.1 71 2).toInt := congrArg Int32.toInt ((fu58 71 2 rfl).1)
          have lk71 : ((u58).1 71 2).toInt = (t.1 71 2).toInt := congrArg Int32.toInt ((fu58 71 2 rfl).1)
          have lk72 : ((u58).1 71 2).toInt = (t.1 71 2).toInt := congrArg Int32.toInt ((fu58 71 2 rfl).1)
          have lk73 : ((u58).1 71 2).toInt = (t.1 71 2).toInt := congrArg Int32.toInt ((fu58 71 2 rfl).1)
          exact (ih (n - 1) (by omega)).2.1 (u58)   hq64 hq65 (by omega) (by omega) (by omega) (by omega) (by first | exact hq66 | exact oqI3_of (by assumption) hsk (by omega)) hq67 (by first | (rw [show ((u58).1 71 2).toInt - 1 = ((t).1 71 2).toInt by omega]; exact ⟨hsk, by omega⟩) | (rw [show ((u58).1 71 2).toInt = (t.1 71 2).toInt by omega]; omega)) (by omega) (oqZ_fr fu58 rfl iv10) (oqWd_fr fu58 rfl iv11) (oqBP_fr fu58 rfl iv12) (by omega)
      · intro t   iv0 iv1 iv2 iv3 iv4 iv5 iv6 iv7 iv8 iv9 iv10 iv11 hmu
        refine r_ty C (fun hty => ?_)
        have hty_coded : (0 : Int) ≤ ((t).1 71 45).toInt ∧ ((t).1 71 45).toInt ≤ 1600 := hty.1 71 45
        have hty_waits : (0 : Int) ≤ ((t).1 71 47).toInt ∧ ((t).1 71 47).toInt ≤ 1700 := hty.1 71 47
        have hty_at : (0 : Int) ≤ ((t).1 71 2).toInt ∧ ((t).1 71 2).toInt ≤ 1600 := hty.1 71 2
        clear hty
        have hHa8 : oqHa g (t.1 71 2).toInt 8 = oqSk g (t.1 71 2).toInt + (oqWl 8 : Int) := rfl
        have hl8 : oqWl 8 = 3 := rfl
        have hHa7 : oqHa g (t.1 71 2).toInt 7 = oqSk g (t.1 71 2).toInt + (oqWl 7 : Int) := rfl
        have hl7 : oqWl 7 = 2 := rfl
        refine r_aload_n C (j := 0) (oDec_at oX12_goesOnTest 38 rfl) rfl rfl ?_
        refine r_aload_n C (j := 0) (oDec_at oX12_goesOnTest 39 rfl) rfl rfl ?_
        refine r_getF (k := 18) (b := 81) C oCl12 rfl (by decide) flX12_42 rfl rfl rfl (oDec_at oX12_goesOnTest 40 rfl) ?_
        refine r_callVi C oCl12 rfl miX12_takes mlX12_200 (ct6_X12_takes l E (t) 81 57 3 rfl (by decide) (by decide) rfl rfl (g) ((t.1 71 2).toInt) ((t.1 71 4).toInt) (8) (by omega) (by omega) iv9 (by omega) (by omega) rfl (oqWd_at iv10 8 (by decide)) (by omega)) (by decide) rfl rfl rfl (Nat.le_of_ble_eq_true rfl) (oDec_at oX12_goesOnTest 41 rfl) (fun r75 u74 pu74 fu74 => ?_)
        try dsimp only at pu74
        obtain ⟨pu74_0, pu74_1, pu74_2, pu74_3, pu74_4⟩ := pu74
        have rr75 := n_rng r75
        have lk76 : ((u74).1 71 5).toInt = (t.1 71 5).toInt := congrArg Int32.toInt ((fu74 71 5 rfl).1)
        have lk77 : ((u74).1 71 48).toInt = (t.1 71 48).toInt := congrArg Int32.toInt ((fu74 71 48 rfl).1)
        have lk78 : ((u74).1 71 47).toInt = (t.1 71 47).toInt := congrArg Int32.toInt ((fu74 71 47 rfl).1)
        refine r_if_eq C 126 (oDec_at oX12_goesOnTest 42 rfl) (by decide) (fun cd79 => ?_) (fun cd79 => ?_)
        · skip
          clear pu74_1
          replace pu74_2 := pu74_2 (by omega)
          have lk80 : ((u74).1 71 5).toInt = (t.1 71 5).toInt := congrArg Int32.toInt ((fu74 71 5 rfl).1)
          have lk81 : ((u74).1 71 48).toInt = (t.1 71 48).toInt := congrArg Int32.toInt ((fu74 71 48 rfl).1)
          have lk82 : ((u74).1 71 47).toInt = (t.1 71 47).toInt := congrArg Int32.toInt ((fu74 71 47 rfl).1)
          have hq83 : oqTt g fp fq cz 2 (u74) := oqI_id iv5 (oFr_row fu74 (c := 103) rfl rfl) (congrArg Int32.toInt (fu74 71 5 rfl).1) (congrArg Int32.toInt (fu74 71 47 rfl).1) (by rw [show ((u74).1 71 2).toInt = ((t).1 71 2).toInt by omega]) (by omega) (congrArg Int32.toInt (fu74 71 48 rfl).1) (congrArg Int32.toInt (fu74 71 6 rfl).1)
          refine r_aload_n C (j := 0) (oDec_at oX12_goesOnTest 64 rfl) rfl rfl ?_
          refine r_aload_n C (j := 0) (oDec_at oX12_goesOnTest 65 rfl) rfl rfl ?_
          refine r_getF (k := 17) (b := 80) C oCl12 rfl (by decide) flX12_39 rfl rfl rfl (oDec_at oX12_goesOnTest 66 rfl) ?_
          have lk84 : ((u74).1 71 5).toInt = (t.1 71 5).toInt := congrArg Int32.toInt ((fu74 71 5 rfl).1)
          refine r_callVi C oCl12 rfl miX12_takes mlX12_200 (ct6_X12_takes l E (u74) 80 56 2 rfl (by decide) (by decide) rfl rfl (g) ((t.1 71 2).toInt) ((t.1 71 4).toInt) (7) (by omega) (by omega) (oqZ_fr fu74 rfl iv9) (by omega) (by omega) rfl (oqWd_at (oqWd_fr fu74 rfl iv10) 7 (by decide)) (by omega)) (by decide) rfl rfl rfl (Nat.le_of_ble_eq_true rfl) (oDec_at oX12_goesOnTest 67 rfl) (fun r86 u85 pu85 fu85 => ?_)
          try dsimp only at pu85
          try simp only [lk84] at pu85
          obtain ⟨pu85_0, pu85_1, pu85_2, pu85_3, pu85_4⟩ := pu85
          have rr86 := n_rng r86
          have lk87 : ((u85).1 71 5).toInt = (t.1 71 5).toInt := congrArg Int32.toInt (((fu85 71 5 rfl).1).trans ((fu74 71 5 rfl).1))
          have lk88 : ((u85).1 71 48).toInt = (t.1 71 48).toInt := congrArg Int32.toInt (((fu85 71 48 rfl).1).trans ((fu74 71 48 rfl).1))
          have lk89 : ((u85).1 71 47).toInt = (t.1 71 47).toInt := congrArg Int32.toInt (((fu85 71 47 rfl).1).trans ((fu74 71 47 rfl).1))
          refine r_if_eq C 185 (oDec_at oX12_goesOnTest 68 rfl) (by decide) (fun cd90 => ?_) (fun cd90 => ?_)
          · skip
            clear pu85_1
            replace pu85_2 := pu85_2 (by omega)
            have lk91 : ((u85).1 71 5).toInt = (t.1 71 5).toInt := congrArg Int32.toInt (((fu85 71 5 rfl).1).trans ((fu74 71 5 rfl).1))
            have lk92 : ((u85).1 71 48).toInt = (t.1 71 48).toInt := congrArg Int32.toInt (((fu85 71 48 rfl).1).trans ((fu74 71 48 rfl).1))
            have lk93 : ((u85).1 71 47).toInt = (t.1 71 47).toInt := congrArg Int32.toInt (((fu85 71 47 rfl).1).trans ((fu74 71 47 rfl).1))
            have eA : ((u85).1 71 2).toInt = (t.1 71 2).toInt := by omega
            have eE : ((u85).1 71 4).toInt = (t.1 71 4).toInt := by omega
            have eK : oqSk g (t.1 71 2).toInt = (t.1 71 2).toInt := by omega
            have eS : oqSk g ((u85).1 71 2).toInt = (t.1 71 2).toInt := by rw [eA]; exact eK
            have eG : g (oqSk g ((u85).1 71 2).toInt) = g (t.1 71 2).toInt := by rw [eS]
            have hq94 : oqTt g fp fq cz 2 (u85) := oqI_id hq83 (oFr_row fu85 (c := 103) rfl rfl) (congrArg Int32.toInt (fu85 71 5 rfl).1) (congrArg Int32.toInt (fu85 71 47 rfl).1) (by rw [show ((u85).1 71 2).toInt = ((u74).1 71 2).toInt by omega]) (by omega) (congrArg Int32.toInt (fu85 71 48 rfl).1) (congrArg Int32.toInt (fu85 71 6 rfl).1)
            refine r_aload_n C (j := 0) (oDec_at oX12_goesOnTest 94 rfl) rfl rfl ?_
            obtain ⟨v95, ev95⟩ : ∃ z : Int32, (u85).1 71 5 = z := ⟨_, rfl⟩
            have gv95 : (t.1 71 5).toInt = v95.toInt := congrArg Int32.toInt ((((fu85 71 5 rfl).1).trans ((fu74 71 5 rfl).1)).symm.trans ev95)
            have ggv95 : ((u85).1 71 5).toInt = v95.toInt := congrArg Int32.toInt ev95
            have rv95 := n_rng v95
            refine r_geti (k := 5) (lo := (-2147483648)) (hi := 2147483647) C v95 oCl12 rfl (by decide) flX12_173 rfl rfl (ev95) rfl rfl (oDec_at oX12_goesOnTest 95 rfl) (fun _ _ => ?_)
            refine r_if_ne C 208 (oDec_at oX12_goesOnTest 96 rfl) (by decide) (fun cd96 => ?_) (fun cd96 => ?_)
            · skip
              have lk97 : ((u85).1 71 6).toInt = (t.1 71 6).toInt := congrArg Int32.toInt (((fu85 71 6 rfl).1).trans ((fu74 71 6 rfl).1))
              have lk98 : ((u85).1 71 5).toInt = v95.toInt := congrArg Int32.toInt (ev95)
              skip
              refine r_iconst C (oDec_at oX12_goesOnTest 105 rfl) (v := k0) (by rw [qk0]; rfl) ?_
              have lk99 : ((u85).1 71 48).toInt = (t.1 71 48).toInt := congrArg Int32.toInt (((fu85 71 48 rfl).1).trans ((fu74 71 48 rfl).1))
              have lk100 : ((u85).1 71 45).toInt = (t.1 71 45).toInt := congrArg Int32.toInt (((fu85 71 45 rfl).1).trans ((fu74 71 45 rfl).1))
              have lk101 : ((u85).1 71 47).toInt = (t.1 71 47).toInt := congrArg Int32.toInt (((fu85 71 47 rfl).1).trans ((fu74 71 47 rfl).1))
              exact r_zret C (n_bool (by omega)) (oDec_at oX12_goesOnTest 106 rfl) ⟨_, rfl, ⟨by omega, by first | (intro h; exfalso; omega) | exact fun _ => (by assumption), by first | (intro h; exfalso; omega) | exact fun _ => ⟨(oQ_fr fu85 rfl (oQ_fr fu74 rfl iv0)), by first | (intro hb; exfalso; omega) | exact fun _ => pu85_2 (by omega)⟩, by omega, by omega, by omega, by first | (intro h; exfalso; omega) | exact fun _ => (by assumption), by first | (intro h; exfalso; omega) | exact fun _ => ⟨hq94, by first | exact (oqTN_fr fu85 rfl (oqTN_fr fu74 rfl iv6)) | (intro h9; exfalso; omega)⟩, by first | (intro h; exfalso; omega) | exact fun _ => oqGw_b (by omega) | exact fun _ => oqGw_of (A := (t.1 71 2).toInt) (E := (t.1 71 4).toInt) (by omega) (by omega) (by omega) (by omega) (by omega), (oqBP_fr fu85 rfl (oqBP_fr fu74 rfl iv11))⟩⟩
            · skip
              refine r_aload_n C (j := 0) (oDec_at oX12_goesOnTest 97 rfl) rfl rfl ?_
              refine r_callVi C oCl12 rfl miX12_hasSquare mlX12_331 (ct_X12_hasSquare l E (u85)  ) (by decide) rfl rfl rfl (Nat.le_of_ble_eq_true rfl) (oDec_at oX12_goesOnTest 98 rfl) (fun r103 u102 pu102 fu102 => ?_)
              try dsimp only at pu102
              obtain ⟨pu102_0, pu102_1, pu102_2⟩ := pu102
              have hxu102 := oFr_nil fu102; subst hxu102
              have rr103 := n_rng r103
              refine r_if_eq C 208 (oDec_at oX12_goesOnTest 99 rfl) (by decide) (fun cd104 => ?_) (fun cd104 => ?_)
              · skip
                have lk105 : ((u85).1 71 6).toInt = (t.1 71 6).toInt := congrArg Int32.toInt (((fu85 71 6 rfl).1).trans ((fu74 71 6 rfl).1))
                have lk106 : ((u85).1 71 5).toInt = v95.toInt := congrArg Int32.toInt (ev95)
                skip
                refine r_iconst C (oDec_at oX12_goesOnTest 105 rfl) (v := k0) (by rw [qk0]; rfl) ?_
                have lk107 : ((u85).1 71 48).toInt = (t.1 71 48).toInt := congrArg Int32.toInt (((fu85 71 48 rfl).1).trans ((fu74 71 48 rfl).1))
                have lk108 : ((u85).1 71 45).toInt = (t.1 71 45).toInt := congrArg Int32.toInt (((fu85 71 45 rfl).1).trans ((fu74 71 45 rfl).1))
                have lk109 : ((u85).1 71 47).toInt = (t.1 71 47).toInt := congrArg Int32.toInt (((fu85 71 47 rfl).1).trans ((fu74 71 47 rfl).1))
                exact r_zret C (n_bool (by omega)) (oDec_at oX12_goesOnTest 106 rfl) ⟨_, rfl, ⟨by omega, by first | (intro h; exfalso; omega) | exact fun _ => (by assumption), by first | (intro h; exfalso; omega) | exact fun _ => ⟨(oQ_fr fu85 rfl (oQ_fr fu74 rfl iv0)), by first | (intro hb; exfalso; omega) | exact fun _ => pu102_2 (by omega)⟩, by omega, by omega, by omega, by first | (intro h; exfalso; omega) | exact fun _ => (by assumption), by first | (intro h; exfalso; omega) | exact fun _ => ⟨hq94, by first | exact (oqTN_fr fu85 rfl (oqTN_fr fu74 rfl iv6)) | (intro h9; exfalso; omega)⟩, by first | (intro h; exfalso; omega) | exact fun _ => oqGw_b (by omega) | exact fun _ => oqGw_of (A := (t.1 71 2).toInt) (E := (t.1 71 4).toInt) (by omega) (by omega) (by omega) (by omega) (by omega), (oqBP_fr fu85 rfl (oqBP_fr fu74 rfl iv11))⟩⟩
              · skip
                have lk110 : ((u85).1 71 5).toInt = v95.toInt := congrArg Int32.toInt (ev95)
                have lk111 : ((u85).1 71 48).toInt = (t.1 71 48).toInt := congrArg Int32.toInt (((fu85 71 48 rfl).1).trans ((fu74 71 48 rfl).1))
                have lk112 : ((u85).1 71 47).toInt = (t.1 71 47).toInt := congrArg Int32.toInt (((fu85 71 47 rfl).1).trans ((fu74 71 47 rfl).1))
                have hHS := pu102_1 (by omega)
                have hn93 : g (t.1 71 2).toInt ≠ 93 := by (rcases iv8 with h9 | h9; exact h9; exact (oHS_NS hHS ((oFr_row fu85 (c := 103) rfl rfl).trans (oFr_row fu74 (c := 103) rfl rfl)) (by omega) h9).elim)
                have eW7 := oqWi_w (g := g) (A := (t.1 71 2).toInt) (E := (t.1 71 4).toInt) (i := 7) (by decide) (by omega)
                have eW8 := oqWi_w (g := g) (A := (t.1 71 2).toInt) (E := (t.1 71 4).toInt) (i := 8) (by decide) (by omega)
                have eW : oqWi g (oqSk g ((u85).1 71 2).toInt) ((u85).1 71 4).toInt = oqWi g (t.1 71 2).toInt (t.1 71 4).toInt := by rw [eS, eE]
                refine r_aload_n C (j := 0) (oDec_at oX12_goesOnTest 100 rfl) rfl rfl ?_
                refine r_iconst C (oDec_at oX12_goesOnTest 101 rfl) (v := k1) (by rw [qk1]; rfl) ?_
                refine r_aload_n C (j := 0) (oDec_at oX12_goesOnTest 102 rfl) rfl rfl ?_
                obtain ⟨v113, ev113⟩ : ∃ z : Int32, (u85).1 71 2 = z := ⟨_, rfl⟩
                have gv113 : (u85.1 71 2).toInt = v113.toInt := congrArg Int32.toInt (ev113)
                refine r_geti (k := 2) (lo := 0) (hi := 1600) C v113 oCl12 rfl (by decide) flX12_179 rfl rfl (ev113) rfl rfl (oDec_at oX12_goesOnTest 103 rfl) (fun b114 b114h => ?_)
                have lk115 : ((u85).1 71 5).toInt = v95.toInt := congrArg Int32.toInt (ev95)
                have lk116 : ((u85).1 71 5).toInt = v95.toInt := congrArg Int32.toInt (ev95)
                have lk117 : ((u85).1 71 6).toInt = (t.1 71 6).toInt := congrArg Int32.toInt (((fu85 71 6 rfl).1).trans ((fu74 71 6 rfl).1))
                refine r_callVv C oCl12 rfl miX12_fail mlX12_203 (ct7_X12_fail l E (u85) k1 v113 (by omega) (oqBP_fr fu85 rfl (oqBP_fr fu74 rfl iv11))) (by decide) rfl rfl rfl (Nat.le_of_ble_eq_true rfl) (oDec_at oX12_goesOnTest 104 rfl) (fun u118 pu118 fu118 => ?_)
                try dsimp only at pu118
                try simp only [lk115, lk116, lk117] at pu118
                obtain ⟨pu118_0, pu118_1, pu118_2⟩ := pu118
                have lk120 : ((u118).1 71 2).toInt = v113.toInt := congrArg Int32.toInt (((fu118 71 2 rfl).1).trans (ev113))
                skip
                have hq121 : oqTt g fp fq cz 2 (u118) := oqI_sqF hq94 (by omega) (oqTN_fr fu85 rfl (oqTN_fr fu74 rfl iv6)) (oQ_fr fu85 rfl (oQ_fr fu74 rfl iv0)) hHS (by omega) (by omega) ⟨by omega, by omega⟩ (by omega) (by omega)
                refine r_iconst C (oDec_at oX12_goesOnTest 105 rfl) (v := k0) (by rw [qk0]; rfl) ?_
                refine r_pc C 209 rfl ?_
                have lk122 : ((u118).1 71 48).toInt = (t.1 71 48).toInt := congrArg Int32.toInt (((fu118 71 48 rfl).1).trans (((fu85 71 48 rfl).1).trans ((fu74 71 48 rfl).1)))
                have lk123 : ((u118).1 71 2).toInt = v113.toInt := congrArg Int32.toInt (((fu118 71 2 rfl).1).trans (ev113))
                have lk124 : ((u118).1 71 45).toInt = (t.1 71 45).toInt := congrArg Int32.toInt (((fu118 71 45 rfl).1).trans (((fu85 71 45 rfl).1).trans ((fu74 71 45 rfl).1)))
                have lk125 : ((u118).1 71 47).toInt = (t.1 71 47).toInt := congrArg Int32.toInt (((fu118 71 47 rfl).1).trans (((fu85 71 47 rfl).1).trans ((fu74 71 47 rfl).1)))
                have lk126 : ((u118).1 71 2).toInt = v113.toInt := congrArg Int32.toInt (((fu118 71 2 rfl).1).trans (ev113))
                exact r_zret C (n_bool (by omega)) (oDec_at oX12_goesOnTest 106 rfl) ⟨_, rfl, ⟨by omega, by first | (intro h; exfalso; omega) | exact fun _ => (by assumption), by first | (intro h; exfalso; omega) | exact fun _ => ⟨(oQ_frb fu118 rfl (by omega) (oQ_fr fu85 rfl (oQ_fr fu74 rfl iv0))), by first | (intro hb; exfalso; omega) | exact fun _ => pu118_2 (by omega)⟩, by omega, by omega, by omega, by first | (intro h; exfalso; omega) | exact fun _ => (by assumption), by first | (intro h; exfalso; omega) | exact fun _ => ⟨hq121, by first | exact (by assumption) | (intro h9; exfalso; omega)⟩, by first | (intro h; exfalso; omega) | exact fun _ => oqGw_b (by omega) | exact fun _ => oqGw_of (A := (t.1 71 2).toInt) (E := (t.1 71 4).toInt) (by omega) (by omega) (by omega) (by omega) (by omega), pu118_2⟩⟩
          · skip
            replace pu85_1 := pu85_1 (by omega)
            clear pu85_2
            have lk127 : ((u85).1 71 5).toInt = (t.1 71 5).toInt := congrArg Int32.toInt (((fu85 71 5 rfl).1).trans ((fu74 71 5 rfl).1))
            have lk128 : ((u85).1 71 48).toInt = (t.1 71 48).toInt := congrArg Int32.toInt (((fu85 71 48 rfl).1).trans ((fu74 71 48 rfl).1))
            have lk129 : ((u85).1 71 45).toInt = (t.1 71 45).toInt := congrArg Int32.toInt (((fu85 71 45 rfl).1).trans ((fu74 71 45 rfl).1))
            have lk130 : ((u85).1 71 47).toInt = (t.1 71 47).toInt := congrArg Int32.toInt (((fu85 71 47 rfl).1).trans ((fu74 71 47 rfl).1))
            have lk131 : ((u85).1 71 47).toInt = (t.1 71 47).toInt := congrArg Int32.toInt (((fu85 71 47 rfl).1).trans ((fu74 71 47 rfl).1))
            exact (ih (n - 1) (by omega)).2.2.2.2 (u85)   (oQ_fr fu85 rfl (oQ_fr fu74 rfl iv0)) (by omega) (by omega) (by omega) (by omega) (by first | exact (by assumption) | exact oqI_go hq83 (by omega) (by omega) (oFr_row fu85 (c := 103) rfl rfl) (congrArg Int32.toInt (fu85 71 47 rfl).1) (oqs_or (g := g) (p := fp) (q := fq) (a := (t.1 71 2).toInt) (b := (t.1 71 4).toInt) (o := (t.1 71 48).toInt) (oqI_nn hq83 (by omega) (oqTN_fr fu74 rfl iv6) (by omega)) (oqWi_y (i := 7) (by decide) (by omega))) (by first | omega | (rw [show ((u74).1 71 2).toInt = (t.1 71 2).toInt by omega]; omega)) (by first | omega | (congr 1; omega)) (by first | omega | (congr 1; omega)) (by first | omega | (congr 1; omega)) (by first | omega | (congr 1; omega)) (by first | omega | (congr 1; omega))) (oqTN_fr fu85 rfl (oqTN_fr fu74 rfl iv6)) (oqBP_fr fu85 rfl (oqBP_fr fu74 rfl iv11)) (by omega)
        · skip
          replace pu74_1 := pu74_1 (by omega)
          clear pu74_2
          have lk132 : ((u74).1 71 5).toInt = (t.1 71 5).toInt := congrArg Int32.toInt ((fu74 71 5 rfl).1)
          have lk133 : ((u74).1 71 48).toInt = (t.1 71 48).toInt := congrArg Int32.toInt ((fu74 71 48 rfl).1)
          have lk134 : ((u74).1 71 45).toInt = (t.1 71 45).toInt := congrArg Int32.toInt ((fu74 71 45 rfl).1)
          have lk135 : ((u74).1 71 47).toInt = (t.1 71 47).toInt := congrArg Int32.toInt ((fu74 71 47 rfl).1)
          have lk136 : ((u74).1 71 47).toInt = (t.1 71 47).toInt := congrArg Int32.toInt ((fu74 71 47 rfl).1)
          exact (ih (n - 1) (by omega)).2.2.2.1 (u74)   (oQ_fr fu74 rfl iv0) (by omega) (by omega) (by omega) (by omega) (by first | exact (by assumption) | exact oqI_go iv5 (by omega) (by omega) (oFr_row fu74 (c := 103) rfl rfl) (congrArg Int32.toInt (fu74 71 47 rfl).1) (oqs_and (g := g) (p := fp) (q := fq) (a := (t.1 71 2).toInt) (b := (t.1 71 4).toInt) (o := (t.1 71 48).toInt) (oqI_nn iv5 (by omega) iv6 (by omega)) (oqWi_y (i := 8) (by decide) (by omega))) (by first | omega | (rw [show ((t).1 71 2).toInt = (t.1 71 2).toInt by omega]; omega)) (by first | omega | (congr 1; omega)) (by first | omega | (congr 1; omega)) (by first | omega | (congr 1; omega)) (by first | omega | (congr 1; omega)) (by first | omega | (congr 1; omega))) (oqTN_fr fu74 rfl iv6) (oqBP_fr fu74 rfl iv11) (by omega)
      · intro t   iv0 iv1 iv2 iv3 iv4 iv5 iv6 iv7 hmu
        refine r_ty C (fun hty => ?_)
        have hty_coded : (0 : Int) ≤ ((t).1 71 45).toInt ∧ ((t).1 71 45).toInt ≤ 1600 := hty.1 71 45
        have hty_waits : (0 : Int) ≤ ((t).1 71 47).toInt ∧ ((t).1 71 47).toInt ≤ 1700 := hty.1 71 47
        have hty_at : (0 : Int) ≤ ((t).1 71 2).toInt ∧ ((t).1 71 2).toInt ≤ 1600 := hty.1 71 2
        clear hty
        refine r_aload_n C (j := 0) (oDec_at oX12_goesOnTest 43 rfl) rfl rfl ?_
        refine r_bipush C (oDec_at oX12_goesOnTest 44 rfl) (v := k14) (by rw [qk14]; rfl) ?_
        refine r_callVi C oCl12 rfl miX12_isOn mlX12_310 (ct_X12_isOn l E (t) k14 ) (by decide) rfl rfl rfl (Nat.le_of_ble_eq_true rfl) (oDec_at oX12_goesOnTest 45 rfl) (fun r138 u137 pu137 fu137 => ?_)
        try dsimp only at pu137
        obtain ⟨pu137_0, pu137_1, pu137_2⟩ := pu137
        have hxu137 := oFr_nil fu137; subst hxu137
        have rr138 := n_rng r138
        refine r_if_eq C 103 (oDec_at oX12_goesOnTest 46 rfl) (by decide) (fun cd139 => ?_) (fun cd139 => ?_)
        · skip
          clear pu137_1
          replace pu137_2 := pu137_2 (by omega)
          refine r_aload_n C (j := 0) (oDec_at oX12_goesOnTest 50 rfl) rfl rfl ?_
          refine r_getF (k := 46) (b := 103) C oCl12 rfl (by decide) flX12_111 rfl rfl rfl (oDec_at oX12_goesOnTest 51 rfl) ?_
          refine r_aload_n C (j := 0) (oDec_at oX12_goesOnTest 52 rfl) rfl rfl ?_
          obtain ⟨v140, ev140⟩ : ∃ z : Int32, (t).1 71 47 = z := ⟨_, rfl⟩
          have gv140 : (t.1 71 47).toInt = v140.toInt := congrArg Int32.toInt (ev140)
          refine r_geti (k := 47) (lo := 0) (hi := 1700) C v140 oCl12 rfl (by decide) flX12_277 rfl rfl (ev140) rfl rfl (oDec_at oX12_goesOnTest 53 rfl) (fun b141 b141h => ?_)
          refine r_bipush C (oDec_at oX12_goesOnTest 54 rfl) (v := k14) (by rw [qk14]; rfl) ?_
          refine r_iast (n := 1700) (lo := (-2147483648)) (hi := 2147483647) C rfl (by decide) rfl rfl ⟨by omega, by omega⟩ (by decide) rfl rfl rfl rfl (n_rng _) (oDec_at oX12_goesOnTest 55 rfl) ?_
          refine r_pc C 114 rfl ?_
          refine r_aload_n C (j := 0) (oDec_at oX12_goesOnTest 56 rfl) rfl rfl ?_
          refine r_dup C (oDec_at oX12_goesOnTest 57 rfl) rfl ?_
          refine r_geti (k := 47) (lo := 0) (hi := 1700) C v140 oCl12 rfl (by decide) flX12_277 rfl rfl (((pI_ne (a := 71) (b := 47) (c := 103) _ _ (Or.inl (by decide)))).trans (ev140)) rfl rfl (oDec_at oX12_goesOnTest 58 rfl) (fun _ _ => ?_)
          refine r_iconst C (oDec_at oX12_goesOnTest 59 rfl) (v := k1) (by rw [qk1]; rfl) ?_
          obtain ⟨v142, ev142⟩ : ∃ z : Int32, z = v140 + k1 := ⟨_, rfl⟩
          have hv142 : v142.toInt = v140.toInt + k1.toInt := n_add ev142 (by omega) (by omega)
          refine r_iadd C v142 (oDec_at oX12_goesOnTest 60 rfl) ev142 ?_
          refine r_puti (k := 47) (lo := 0) (hi := 1700) C oCl12 rfl (by decide) flX12_277 rfl rfl rfl rfl rfl rfl rfl rfl ⟨by omega, by omega⟩ (oDec_at oX12_goesOnTest 61 rfl) ?_
          refine r_pc C 124 rfl ?_
          have hq143 : oQ 9999 0 ((pI (pI t 103 v140.toNatClampNeg k14) 71 47 v142)) := oQ_push (x := 0) iv0 (by assumption) (by omega) (by omega) (by omega)
          have hq144 : oqTt g fp fq cz 0 ((pI (pI t 103 v140.toNatClampNeg k14) 71 47 v142)) := oqI_push iv5 iv6 (by assumption) (by omega) (by omega) (by omega)
          refine r_iconst C (oDec_at oX12_goesOnTest 62 rfl) (v := k1) (by rw [qk1]; rfl) ?_
          have lk145 : (((pI (pI t 103 v140.toNatClampNeg k14) 71 47 v142)).1 71 48).toInt = (t.1 71 48).toInt := congrArg Int32.toInt (((pI_ne (a := 71) (b := 48) (c := 71) (k := 47) _ _ (Or.inr (by decide)))).trans ((pI_ne (a := 71) (b := 48) (c := 103) _ _ (Or.inl (by decide)))))
          have lk146 : (((pI (pI t 103 v140.toNatClampNeg k14) 71 47 v142)).1 71 2).toInt = (t.1 71 2).toInt := congrArg Int32.toInt (((pI_ne (a := 71) (b := 2) (c := 71) (k := 47) _ _ (Or.inr (by decide)))).trans ((pI_ne (a := 71) (b := 2) (c := 103) _ _ (Or.inl (by decide)))))
          have lk147 : (((pI (pI t 103 v140.toNatClampNeg k14) 71 47 v142)).1 71 45).toInt = (t.1 71 45).toInt := congrArg Int32.toInt (((pI_ne (a := 71) (b := 45) (c := 71) (k := 47) _ _ (Or.inr (by decide)))).trans ((pI_ne (a := 71) (b := 45) (c := 103) _ _ (Or.inl (by decide)))))
          have lk148 : (((pI (pI t 103 v140.toNatClampNeg k14) 71 47 v142)).1 71 47).toInt = v142.toInt := congrArg Int32.toInt ((pI_self _ _ _ _))
          have lk149 : (((pI (pI t 103 v140.toNatClampNeg k14) 71 47 v142)).1 71 2).toInt = (t.1 71 2).toInt := congrArg Int32.toInt (((pI_ne (a := 71) (b := 2) (c := 71) (k := 47) _ _ (Or.inr (by decide)))).trans ((pI_ne (a := 71) (b := 2) (c := 103) _ _ (Or.inl (by decide)))))
          exact r_zret C (n_bool (by omega)) (oDec_at oX12_goesOnTest 63 rfl) ⟨_, rfl, ⟨by omega, by first | (intro h; exfalso; omega) | exact fun _ => hq143, by first | (intro h; exfalso; omega) | exact fun _ => ⟨(by assumption), by first | (intro hb; exfalso; omega) | exact fun _ => pu137_2 (by omega)⟩, by omega, by omega, by omega, by first | (intro h; exfalso; omega) | exact fun _ => hq144, by first | (intro h; exfalso; omega) | exact fun _ => ⟨(by assumption), by first | exact (by assumption) | (intro h9; exfalso; omega)⟩, by first | (intro h; exfalso; omega) | exact fun _ => oqGw_b (by omega) | exact fun _ => oqGw_of (A := (t.1 71 2).toInt) (E := (t.1 71 4).toInt) (by omega) (by omega) (by omega) (by omega) (by omega), (oqBP_fr (oFr_oneI (q := 12) (m := 47) rfl (by rfl)) rfl (oqBP_fr (oFr_oneI (q := 79) (m := 9999) rfl (by rfl)) rfl iv7))⟩⟩
        · skip
          replace pu137_1 := pu137_1 (by omega)
          clear pu137_2
          refine r_aload_n C (j := 0) (oDec_at oX12_goesOnTest 47 rfl) rfl rfl ?_
          refine r_callVv C oCl12 rfl miX12_drops mlX12_289 (ct_X12_drops l E (t)  (by omega) (by omega)) (by decide) rfl rfl rfl (Nat.le_of_ble_eq_true rfl) (oDec_at oX12_goesOnTest 48 rfl) (fun u150 pu150 fu150 => ?_)
          try dsimp only at pu150
          obtain ⟨pu150_0, pu150_1, pu150_2⟩ := pu150
          have hq152 : oQ 9999 1 (u150) := oQ_drop iv0 pu150_0 (by omega) (by omega) (by omega) (by omega)
          have hq153 : oqTt g fp fq cz 0 (u150) := oqI_drop iv5 pu150_0 (by omega) (fun _ => by omega)
          have hq154 : oqTN (u150) := oqTN_drop iv5 (by omega) pu150_0 (by omega) (by omega)
          refine r_goto C (tgt := 87) (oDec_at oX12_goesOnTest 49 rfl) (by decide) ?_
          have lk155 : ((u150).1 71 5).toInt = (t.1 71 5).toInt := congrArg Int32.toInt ((fu150 71 5 rfl).1)
          have lk156 : ((u150).1 71 48).toInt = (t.1 71 48).toInt := congrArg Int32.toInt ((fu150 71 48 rfl).1)
          have lk157 : ((u150).1 71 2).toInt = (t.1 71 2).toInt := congrArg Int32.toInt ((fu150 71 2 rfl).1)
          have lk158 : ((u150).1 71 2).toInt = (t.1 71 2).toInt := congrArg Int32.toInt ((fu150 71 2 rfl).1)
          exact (ih (n - 1) (by omega)).2.2.2.1 (u150)   hq152 (by omega) (by omega) (by omega) (by omega) (by first | exact hq153 | exact oqI_go (by assumption) (by omega) (by omega) (oFr_row fu150 (c := 103) rfl rfl) (congrArg Int32.toInt (fu150 71 47 rfl).1) (oqs_and (g := g) (p := fp) (q := fq) (a := (t.1 71 2).toInt) (b := (t.1 71 4).toInt) (o := (t.1 71 48).toInt) (oqI_nn (by assumption) (by omega) iv6 (by omega)) (oqWi_y (i := 8) (by decide) (by omega))) (by first | omega | (rw [show ((t).1 71 2).toInt = (t.1 71 2).toInt by omega]; omega)) (by first | omega | (congr 1; omega)) (by first | omega | (congr 1; omega)) (by first | omega | (congr 1; omega)) (by first | omega | (congr 1; omega)) (by first | omega | (congr 1; omega))) hq154 (oqBP_fr fu150 rfl iv7) (by omega)
      · intro t   iv0 iv1 iv2 iv3 iv4 iv5 iv6 iv7 hmu
        refine r_ty C (fun hty => ?_)
        have hty_coded : (0 : Int) ≤ ((t).1 71 45).toInt ∧ ((t).1 71 45).toInt ≤ 1600 := hty.1 71 45
        have hty_waits : (0 : Int) ≤ ((t).1 71 47).toInt ∧ ((t).1 71 47).toInt ≤ 1700 := hty.1 71 47
        have hty_at : (0 : Int) ≤ ((t).1 71 2).toInt ∧ ((t).1 71 2).toInt ≤ 1600 := hty.1 71 2
        clear hty
        refine r_aload_n C (j := 0) (oDec_at oX12_goesOnTest 69 rfl) rfl rfl ?_
        refine r_bipush C (oDec_at oX12_goesOnTest 70 rfl) (v := k14) (by rw [qk14]; rfl) ?_
        refine r_callVi C oCl12 rfl miX12_isOn mlX12_310 (ct_X12_isOn l E (t) k14 ) (by decide) rfl rfl rfl (Nat.le_of_ble_eq_true rfl) (oDec_at oX12_goesOnTest 71 rfl) (fun r160 u159 pu159 fu159 => ?_)
        try dsimp only at pu159
        obtain ⟨pu159_0, pu159_1, pu159_2⟩ := pu159
        have hxu159 := oFr_nil fu159; subst hxu159
        have rr160 := n_rng r160
        refine r_if_ne C 155 (oDec_at oX12_goesOnTest 72 rfl) (by decide) (fun cd161 => ?_) (fun cd161 => ?_)
        · skip
          replace pu159_1 := pu159_1 (by omega)
          clear pu159_2
          refine r_aload_n C (j := 0) (oDec_at oX12_goesOnTest 77 rfl) rfl rfl ?_
          refine r_callVv C oCl12 rfl miX12_drops mlX12_289 (ct_X12_drops l E (t)  (by omega) (by omega)) (by decide) rfl rfl rfl (Nat.le_of_ble_eq_true rfl) (oDec_at oX12_goesOnTest 78 rfl) (fun u162 pu162 fu162 => ?_)
          try dsimp only at pu162
          obtain ⟨pu162_0, pu162_1, pu162_2⟩ := pu162
          have hq164 : oQ 9999 1 (u162) := oQ_drop iv0 pu162_0 (by omega) (by omega) (by omega) (by omega)
          have hq165 : oqTt g fp fq cz 0 (u162) := oqI_drop iv5 pu162_0 (by omega) (fun _ => by omega)
          have hq166 : oqTN (u162) := oqTN_drop iv5 (by omega) pu162_0 (by omega) (by omega)
          refine r_goto C (tgt := 137) (oDec_at oX12_goesOnTest 79 rfl) (by decide) ?_
          have lk167 : ((u162).1 71 5).toInt = (t.1 71 5).toInt := congrArg Int32.toInt ((fu162 71 5 rfl).1)
          have lk168 : ((u162).1 71 48).toInt = (t.1 71 48).toInt := congrArg Int32.toInt ((fu162 71 48 rfl).1)
          have lk169 : ((u162).1 71 2).toInt = (t.1 71 2).toInt := congrArg Int32.toInt ((fu162 71 2 rfl).1)
          have lk170 : ((u162).1 71 2).toInt = (t.1 71 2).toInt := congrArg Int32.toInt ((fu162 71 2 rfl).1)
          exact (ih (n - 1) (by omega)).2.2.2.2 (u162)   hq164 (by omega) (by omega) (by omega) (by omega) (by first | exact hq165 | exact oqI_go (by assumption) (by omega) (by omega) (oFr_row fu162 (c := 103) rfl rfl) (congrArg Int32.toInt (fu162 71 47 rfl).1) (oqs_or (g := g) (p := fp) (q := fq) (a := (t.1 71 2).toInt) (b := (t.1 71 4).toInt) (o := (t.1 71 48).toInt) (oqI_nn (by assumption) (by omega) iv6 (by omega)) (oqWi_y (i := 7) (by decide) (by omega))) (by first | omega | (rw [show ((t).1 71 2).toInt = (t.1 71 2).toInt by omega]; omega)) (by first | omega | (congr 1; omega)) (by first | omega | (congr 1; omega)) (by first | omega | (congr 1; omega)) (by first | omega | (congr 1; omega)) (by first | omega | (congr 1; omega))) hq166 (oqBP_fr fu162 rfl iv7) (by omega)
        · skip
          clear pu159_1
          replace pu159_2 := pu159_2 (by omega)
          refine r_aload_n C (j := 0) (oDec_at oX12_goesOnTest 73 rfl) rfl rfl ?_
          refine r_bipush C (oDec_at oX12_goesOnTest 74 rfl) (v := k15) (by rw [qk15]; rfl) ?_
          refine r_callVi C oCl12 rfl miX12_isOn mlX12_310 (ct_X12_isOn l E (t) k15 ) (by decide) rfl rfl rfl (Nat.le_of_ble_eq_true rfl) (oDec_at oX12_goesOnTest 75 rfl) (fun r172 u171 pu171 fu171 => ?_)
          try dsimp only at pu171
          obtain ⟨pu171_0, pu171_1, pu171_2⟩ := pu171
          have hxu171 := oFr_nil fu171; subst hxu171
          have rr172 := n_rng r172
          refine r_if_eq C 162 (oDec_at oX12_goesOnTest 76 rfl) (by decide) (fun cd173 => ?_) (fun cd173 => ?_)
          · skip
            clear pu171_1
            replace pu171_2 := pu171_2 (by omega)
            refine r_aload_n C (j := 0) (oDec_at oX12_goesOnTest 80 rfl) rfl rfl ?_
            refine r_getF (k := 46) (b := 103) C oCl12 rfl (by decide) flX12_111 rfl rfl rfl (oDec_at oX12_goesOnTest 81 rfl) ?_
            refine r_aload_n C (j := 0) (oDec_at oX12_goesOnTest 82 rfl) rfl rfl ?_
            obtain ⟨v174, ev174⟩ : ∃ z : Int32, (t).1 71 47 = z := ⟨_, rfl⟩
            have gv174 : (t.1 71 47).toInt = v174.toInt := congrArg Int32.toInt (ev174)
            refine r_geti (k := 47) (lo := 0) (hi := 1700) C v174 oCl12 rfl (by decide) flX12_277 rfl rfl (ev174) rfl rfl (oDec_at oX12_goesOnTest 83 rfl) (fun b175 b175h => ?_)
            refine r_bipush C (oDec_at oX12_goesOnTest 84 rfl) (v := k15) (by rw [qk15]; rfl) ?_
            refine r_iast (n := 1700) (lo := (-2147483648)) (hi := 2147483647) C rfl (by decide) rfl rfl ⟨by omega, by omega⟩ (by decide) rfl rfl rfl rfl (n_rng _) (oDec_at oX12_goesOnTest 85 rfl) ?_
            refine r_pc C 173 rfl ?_
            refine r_aload_n C (j := 0) (oDec_at oX12_goesOnTest 86 rfl) rfl rfl ?_
            refine r_dup C (oDec_at oX12_goesOnTest 87 rfl) rfl ?_
            refine r_geti (k := 47) (lo := 0) (hi := 1700) C v174 oCl12 rfl (by decide) flX12_277 rfl rfl (((pI_ne (a := 71) (b := 47) (c := 103) _ _ (Or.inl (by decide)))).trans (ev174)) rfl rfl (oDec_at oX12_goesOnTest 88 rfl) (fun _ _ => ?_)
            refine r_iconst C (oDec_at oX12_goesOnTest 89 rfl) (v := k1) (by rw [qk1]; rfl) ?_
            obtain ⟨v176, ev176⟩ : ∃ z : Int32, z = v174 + k1 := ⟨_, rfl⟩
            have hv176 : v176.toInt = v174.toInt + k1.toInt := n_add ev176 (by omega) (by omega)
            refine r_iadd C v176 (oDec_at oX12_goesOnTest 90 rfl) ev176 ?_
            refine r_puti (k := 47) (lo := 0) (hi := 1700) C oCl12 rfl (by decide) flX12_277 rfl rfl rfl rfl rfl rfl rfl rfl ⟨by omega, by omega⟩ (oDec_at oX12_goesOnTest 91 rfl) ?_
            refine r_pc C 183 rfl ?_
            have hq177 : oQ 9999 0 ((pI (pI t 103 v174.toNatClampNeg k15) 71 47 v176)) := oQ_push (x := 0) iv0 (by assumption) (by omega) (by omega) (by omega)
            have hq178 : oqTt g fp fq cz 0 ((pI (pI t 103 v174.toNatClampNeg k15) 71 47 v176)) := oqI_push iv5 iv6 (by assumption) (by omega) (by omega) (by omega)
            refine r_iconst C (oDec_at oX12_goesOnTest 92 rfl) (v := k1) (by rw [qk1]; rfl) ?_
            have lk179 : (((pI (pI t 103 v174.toNatClampNeg k15) 71 47 v176)).1 71 48).toInt = (t.1 71 48).toInt := congrArg Int32.toInt (((pI_ne (a := 71) (b := 48) (c := 71) (k := 47) _ _ (Or.inr (by decide)))).trans ((pI_ne (a := 71) (b := 48) (c := 103) _ _ (Or.inl (by decide)))))
            have lk180 : (((pI (pI t 103 v174.toNatClampNeg k15) 71 47 v176)).1 71 2).toInt = (t.1 71 2).toInt := congrArg Int32.toInt (((pI_ne (a := 71) (b := 2) (c := 71) (k := 47) _ _ (Or.inr (by decide)))).trans ((pI_ne (a := 71) (b := 2) (c := 103) _ _ (Or.inl (by decide)))))
            have lk181 : (((pI (pI t 103 v174.toNatClampNeg k15) 71 47 v176)).1 71 45).toInt = (t.1 71 45).toInt := congrArg Int32.toInt (((pI_ne (a := 71) (b := 45) (c := 71) (k := 47) _ _ (Or.inr (by decide)))).trans ((pI_ne (a := 71) (b := 45) (c := 103) _ _ (Or.inl (by decide)))))
            have lk182 : (((pI (pI t 103 v174.toNatClampNeg k15) 71 47 v176)).1 71 47).toInt = v176.toInt := congrArg Int32.toInt ((pI_self _ _ _ _))
            have lk183 : (((pI (pI t 103 v174.toNatClampNeg k15) 71 47 v176)).1 71 2).toInt = (t.1 71 2).toInt := congrArg Int32.toInt (((pI_ne (a := 71) (b := 2) (c := 71) (k := 47) _ _ (Or.inr (by decide)))).trans ((pI_ne (a := 71) (b := 2) (c := 103) _ _ (Or.inl (by decide)))))
            exact r_zret C (n_bool (by omega)) (oDec_at oX12_goesOnTest 93 rfl) ⟨_, rfl, ⟨by omega, by first | (intro h; exfalso; omega) | exact fun _ => hq177, by first | (intro h; exfalso; omega) | exact fun _ => ⟨(by assumption), by first | (intro hb; exfalso; omega) | exact fun _ => pu171_2 (by omega)⟩, by omega, by omega, by omega, by first | (intro h; exfalso; omega) | exact fun _ => hq178, by first | (intro h; exfalso; omega) | exact fun _ => ⟨(by assumption), by first | exact (by assumption) | (intro h9; exfalso; omega)⟩, by first | (intro h; exfalso; omega) | exact fun _ => oqGw_b (by omega) | exact fun _ => oqGw_of (A := (t.1 71 2).toInt) (E := (t.1 71 4).toInt) (by omega) (by omega) (by omega) (by omega) (by omega), (oqBP_fr (oFr_oneI (q := 12) (m := 47) rfl (by rfl)) rfl (oqBP_fr (oFr_oneI (q := 79) (m := 9999) rfl (by rfl)) rfl iv7))⟩⟩
          · skip
            replace pu171_1 := pu171_1 (by omega)
            clear pu171_2
            refine r_aload_n C (j := 0) (oDec_at oX12_goesOnTest 77 rfl) rfl rfl ?_
            refine r_callVv C oCl12 rfl miX12_drops mlX12_289 (ct_X12_drops l E (t)  (by omega) (by omega)) (by decide) rfl rfl rfl (Nat.le_of_ble_eq_true rfl) (oDec_at oX12_goesOnTest 78 rfl) (fun u184 pu184 fu184 => ?_)
            try dsimp only at pu184
            obtain ⟨pu184_0, pu184_1, pu184_2⟩ := pu184
            have hq186 : oQ 9999 1 (u184) := oQ_drop iv0 pu184_0 (by omega) (by omega) (by omega) (by omega)
            have hq187 : oqTt g fp fq cz 0 (u184) := oqI_drop iv5 pu184_0 (by omega) (fun _ => by omega)
            have hq188 : oqTN (u184) := oqTN_drop iv5 (by omega) pu184_0 (by omega) (by omega)
            refine r_goto C (tgt := 137) (oDec_at oX12_goesOnTest 79 rfl) (by decide) ?_
            have lk189 : ((u184).1 71 5).toInt = (t.1 71 5).toInt := congrArg Int32.toInt ((fu184 71 5 rfl).1)
            have lk190 : ((u184).1 71 48).toInt = (t.1 71 48).toInt := congrArg Int32.toInt ((fu184 71 48 rfl).1)
            have lk191 : ((u184).1 71 2).toInt = (t.1 71 2).toInt := congrArg Int32.toInt ((fu184 71 2 rfl).1)
            have lk192 : ((u184).1 71 2).toInt = (t.1 71 2).toInt := congrArg Int32.toInt ((fu184 71 2 rfl).1)
            exact (ih (n - 1) (by omega)).2.2.2.2 (u184)   hq186 (by omega) (by omega) (by omega) (by omega) (by first | exact hq187 | exact oqI_go (by assumption) (by omega) (by omega) (oFr_row fu184 (c := 103) rfl rfl) (congrArg Int32.toInt (fu184 71 47 rfl).1) (oqs_or (g := g) (p := fp) (q := fq) (a := (t.1 71 2).toInt) (b := (t.1 71 4).toInt) (o := (t.1 71 48).toInt) (oqI_nn (by assumption) (by omega) iv6 (by omega)) (oqWi_y (i := 7) (by decide) (by omega))) (by first | omega | (rw [show ((t).1 71 2).toInt = (t.1 71 2).toInt by omega]; omega)) (by first | omega | (congr 1; omega)) (by first | omega | (congr 1; omega)) (by first | omega | (congr 1; omega)) (by first | omega | (congr 1; omega)) (by first | omega | (congr 1; omega))) hq188 (oqBP_fr fu184 rfl iv7) (by omega)
  exact (key (4000 * (1601 - ((s).1 71 2).toInt)).toNat).1 (s)   hp0 (by omega) (by omega) (by omega) (by omega) hp4 hp5 hp6 hp7 hp8 (by omega)
set_option maxHeartbeats 4000000 in
set_option maxRecDepth 100000 in
theorem ct7_X12_test (l : Launch) (E : oE) (s : oS)  (g : Int → Int) (fp : Int) (fq : Int) (cz : oqCf) (hp0 : oQ 9999 0 s) (hp1 : (s.1 71 5).toInt = 0) (hp2 : 0 ≤ (s.1 71 48).toInt ∧ (s.1 71 48).toInt ≤ 6) (hp3 : (s.1 71 45).toInt + (s.1 71 47).toInt + 5 ≤ (s.1 71 2).toInt) (hp4 : oqTt g fp fq cz 0 s) (hp5 : oqZ g s) (hp6 : oqWd s) (hp7 : oqMo fp fq s) (hp8 : oqBP s) : oMet l 8 yX12_test cX12_test 3 none [(12, 2), (12, 4), (12, 5), (12, 6), (12, 9), (12, 45), (12, 47), (12, 48), (12, 55), (78, 9999), (79, 9999)] E s [.ref (oad E 71)] (oPv (fun u => (oQ 9999 1 u) ∧ ((s.1 71 2).toInt - (s.1 71 45).toInt - (s.1 71 47).toInt ≤ (u.1 71 2).toInt - (u.1 71 45).toInt - (u.1 71 47).toInt + 2) ∧ ((u.1 71 5).toInt = 0 → (s.1 71 2).toInt - (s.1 71 45).toInt - (s.1 71 47).toInt ≤ (u.1 71 2).toInt - (u.1 71 45).toInt - (u.1 71 47).toInt) ∧ ((s.1 71 2).toInt ≤ (u.1 71 2).toInt) ∧ (oqE8 g fp fq cz u) ∧ (oqBP u))) := by
  refine oMet.of (lv := [(0, .ref (oad E 71))]) (by decide +kernel) (Nat.le_of_ble_eq_true rfl) rfl (fun J C hT => ?_)
  have C : oC l 8 cX12_test RX12 3 none [(12, 2), (12, 4), (12, 5), (12, 6), (12, 9), (12, 45), (12, 47), (12, 48), (12, 55), (78, 9999), (79, 9999)] E s (oPv (fun u => (oQ 9999 1 u) ∧ ((s.1 71 2).toInt - (s.1 71 45).toInt - (s.1 71 47).toInt ≤ (u.1 71 2).toInt - (u.1 71 45).toInt - (u.1 71 47).toInt + 2) ∧ ((u.1 71 5).toInt = 0 → (s.1 71 2).toInt - (s.1 71 45).toInt - (s.1 71 47).toInt ≤ (u.1 71 2).toInt - (u.1 71 45).toInt - (u.1 71 47).toInt) ∧ ((s.1 71 2).toInt ≤ (u.1 71 2).toInt) ∧ (oqE8 g fp fq cz u) ∧ (oqBP u))) J := C
  obtain ⟨k0, qk0⟩ : ∃ z : Int32, z = 0 := ⟨_, rfl⟩
  have ek0 : k0.toInt = 0 := by rw [qk0]; rfl
  obtain ⟨k1, qk1⟩ : ∃ z : Int32, z = 1 := ⟨_, rfl⟩
  have ek1 : k1.toInt = 1 := by rw [qk1]; rfl
  obtain ⟨k16, qk16⟩ : ∃ z : Int32, z = 16 := ⟨_, rfl⟩
  have ek16 : k16.toInt = 16 := by rw [qk16]; rfl
  obtain ⟨k25, qk25⟩ : ∃ z : Int32, z = 25 := ⟨_, rfl⟩
  have ek25 : k25.toInt = 25 := by rw [qk25]; rfl
  obtain ⟨k91, qk91⟩ : ∃ z : Int32, z = 91 := ⟨_, rfl⟩
  have ek91 : k91.toInt = 91 := by rw [qk91]; rfl
  have key : ∀ n : Nat, (∀ (t : oS) (x1 : Int32), (x1.toInt = 1 → oQ 9999 0 t) → (x1.toInt = 0 → (oQ 9999 1 t ∧ oNQ t)) → (0 ≤ x1.toInt ∧ x1.toInt ≤ 1) → (0 ≤ (t.1 71 48).toInt ∧ (t.1 71 48).toInt ≤ 6) → ((s.1 71 2).toInt - (s.1 71 45).toInt - (s.1 71 47).toInt ≤ (t.1 71 2).toInt - (t.1 71 45).toInt - (t.1 71 47).toInt + 2) → ((t.1 71 5).toInt = 0 → (s.1 71 2).toInt - (s.1 71 45).toInt - (s.1 71 47).toInt ≤ (t.1 71 2).toInt - (t.1 71 45).toInt - (t.1 71 47).toInt) → ((s.1 71 2).toInt ≤ (t.1 71 2).toInt) → (x1.toInt = 1 → oqTt g fp fq cz 0 t) → (x1.toInt = 0 → (oqTt g fp fq cz 2 t ∧ oqTN t)) → (x1.toInt = 0 → oqGw g t) → (oqZ g t) → (oqWd t) → (oqMo fp fq t) → (oqBP t) → 4000 * (1602 - (t.1 71 2).toInt) + 10 * x1.toInt + 100 * oB1 (t.1 71 5) ≤ (n : Int) → J t 2 [(0, .ref (oad E 71)), (1, .int x1)] []) ∧ (∀ (t : oS), (oQ 9999 1 t) → (oNQ t) → ((s.1 71 2).toInt - (s.1 71 45).toInt - (s.1 71 47).toInt ≤ (t.1 71 2).toInt - (t.1 71 45).toInt - (t.1 71 47).toInt + 2) → ((t.1 71 5).toInt = 0 → (s.1 71 2).toInt - (s.1 71 45).toInt - (s.1 71 47).toInt ≤ (t.1 71 2).toInt - (t.1 71 45).toInt - (t.1 71 47).toInt) → ((s.1 71 2).toInt ≤ (t.1 71 2).toInt) → (oqTt g fp fq cz 2 t) → (oqTN t) → (oqGw g t) → (oqBP t) → (t.1 71 47).toInt + 1 ≤ (n : Int) → J t 110 [(0, .ref (oad E 71))] []) := by
    intro n
    induction n using Nat.strongRecOn with
    | _ n ih =>
      refine ⟨?_, ?_⟩
      · intro t x1  iv0 iv1 iv2 iv3 iv4 iv5 iv6 iv7 iv8 iv9 iv10 iv11 iv12 iv13 hmu
        have rx1 := n_rng x1
        have hjn := oB1_nn (t.1 71 5)
        refine r_ty C (fun hty => ?_)
        have hty_coded : (0 : Int) ≤ ((t).1 71 45).toInt ∧ ((t).1 71 45).toInt ≤ 1600 := hty.1 71 45
        have hty_waits : (0 : Int) ≤ ((t).1 71 47).toInt ∧ ((t).1 71 47).toInt ≤ 1700 := hty.1 71 47
        have hty_at : (0 : Int) ≤ ((t).1 71 2).toInt ∧ ((t).1 71 2).toInt ≤ 1600 := hty.1 71 2
        clear hty
        refine r_iload_n C (j := 1) (oDec_at oX12_test 2 rfl) rfl rfl ?_
        refine r_if_eq C 110 (oDec_at oX12_test 3 rfl) (by decide) (fun cd1 => ?_) (fun cd1 => ?_)
        · skip
          refine r_pick C [0] rfl ?_
          exact (ih (n - 1) (by omega)).2 (t)   (by first | exact (by assumption) | exact (iv1 (by omega)).1 | exact oQ_bad (iv0 (by omega)) (by omega)) (by first | exact (by assumption) | exact (iv1 (by omega)).2 | exact fun hb => by exfalso; omega) (by omega) (by omega) (by omega) (by first | exact (by assumption) | exact (iv8 (by omega)).1 | exact oqI_kp (iv7 (by omega)) (by omega) rfl rfl) (by first | exact (by assumption) | exact (iv8 (by omega)).2 | (intro h9; exfalso; omega)) (by first | exact (by assumption) | exact iv9 (by omega) | exact oqGw_b (by omega)) iv13 (by omega)
        · skip
          refine r_aload_n C (j := 0) (oDec_at oX12_test 4 rfl) rfl rfl ?_
          obtain ⟨v2, ev2⟩ : ∃ z : Int32, (t).1 71 5 = z := ⟨_, rfl⟩
          have gv2 : (t.1 71 5).toInt = v2.toInt := congrArg Int32.toInt (ev2)
          have rv2 := n_rng v2
          refine r_geti (k := 5) (lo := (-2147483648)) (hi := 2147483647) C v2 oCl12 rfl (by decide) flX12_173 rfl rfl (ev2) rfl rfl (oDec_at oX12_test 5 rfl) (fun _ _ => ?_)
          refine r_if_ne C 110 (oDec_at oX12_test 6 rfl) (by decide) (fun cd3 => ?_) (fun cd3 => ?_)
          · skip
            have lk4 : ((t).1 71 5).toInt = v2.toInt := congrArg Int32.toInt (ev2)
            refine r_pick C [0] rfl ?_
            exact (ih (n - 1) (by omega)).2 (t)   (by first | exact (by assumption) | exact (iv1 (by omega)).1 | exact oQ_bad (iv0 (by omega)) (by omega)) (by first | exact (by assumption) | exact (iv1 (by omega)).2 | exact fun hb => by exfalso; omega) (by omega) (by omega) (by omega) (by first | exact (by assumption) | exact (iv8 (by omega)).1 | exact oqI_kp (iv7 (by omega)) (by omega) rfl rfl) (by first | exact (by assumption) | exact (iv8 (by omega)).2 | (intro h9; exfalso; omega)) (by first | exact (by assumption) | exact iv9 (by omega) | exact oqGw_b (by omega)) iv13 (by omega)
          · skip
            have hj0 := oB1_0 (x := t.1 71 5) (by omega)
            have hq5 : oQ 9999 0 (t) := iv0 (by omega)
            have hq6 : oqTt g fp fq cz 0 (t) := iv7 (by omega)
            refine r_aload_n C (j := 0) (oDec_at oX12_test 7 rfl) rfl rfl ?_
            refine r_callVi C oCl12 rfl miX12_look mlX12_185 (ct4_X12_look l E (t)  (g) ((t.1 71 2).toInt) (by omega) iv10) (by decide) rfl rfl rfl (Nat.le_of_ble_eq_true rfl) (oDec_at oX12_test 8 rfl) (fun r8 u7 pu7 fu7 => ?_)
            try dsimp only at pu7
            obtain ⟨pu7_0, pu7_1, pu7_2, pu7_3, pu7_4, pu7_5⟩ := pu7
            have rr8 := n_rng r8
            have hsk : oqSk g ((u7).1 71 2).toInt = ((u7).1 71 2).toInt := by rw [show ((u7).1 71 2).toInt = oqSk g (t.1 71 2).toInt by omega]; exact oqSk_sk pu7_3
            have hgA : g ((u7).1 71 2).toInt = r8.toInt := by rw [show ((u7).1 71 2).toInt = oqSk g (t.1 71 2).toInt by omega]; omega
            have hq9 : oqTt g fp fq cz 0 (u7) := oqI_id hq6 (oFr_row fu7 (c := 103) rfl rfl) (congrArg Int32.toInt (fu7 71 5 rfl).1) (congrArg Int32.toInt (fu7 71 47 rfl).1) (by rw [show ((u7).1 71 2).toInt = oqSk g (t.1 71 2).toInt by omega]; exact oqSk_sk pu7_3) (congrArg Int32.toInt (fu7 71 4 rfl).1) (congrArg Int32.toInt (fu7 71 48 rfl).1) (congrArg Int32.toInt (fu7 71 6 rfl).1)
            refine r_istore_n C (lv' := [(0, .ref (oad E 71)), (1, .int x1), (2, .int r8)]) [1, 2, 0] (oDec_at oX12_test 9 rfl) rfl (by decide) rfl ?_
            refine r_iload_n C (j := 2) (oDec_at oX12_test 10 rfl) rfl rfl ?_
            refine r_bipush C (oDec_at oX12_test 11 rfl) (v := k91) (by rw [qk91]; rfl) ?_
            refine r_icmp_ne C 47 (oDec_at oX12_test 12 rfl) (by decide) (fun cd10 => ?_) (fun cd10 => ?_)
            · skip
              have lk11 : ((u7).1 71 4).toInt = (t.1 71 4).toInt := congrArg Int32.toInt ((fu7 71 4 rfl).1)
              have lk12 : ((u7).1 71 5).toInt = v2.toInt := congrArg Int32.toInt (((fu7 71 5 rfl).1).trans (ev2))
              have lk13 : ((u7).1 71 48).toInt = (t.1 71 48).toInt := congrArg Int32.toInt ((fu7 71 48 rfl).1)
              have lk14 : ((u7).1 71 47).toInt = (t.1 71 47).toInt := congrArg Int32.toInt ((fu7 71 47 rfl).1)
              obtain ⟨A1, hA1⟩ : ∃ z : Int, z = ((u7).1 71 2).toInt := ⟨_, rfl⟩
              obtain ⟨E1, hE1⟩ : ∃ z : Int, z = ((u7).1 71 4).toInt := ⟨_, rfl⟩
              have hskA : oqSk g A1 = A1 := by rw [hA1]; exact hsk
              have hgA1 : g A1 = g ((u7).1 71 2).toInt := by rw [hA1]
              have hHa9 : oqHa g A1 9 = oqSk g A1 + (oqWl 9 : Int) := rfl
              have hl9 : oqWl 9 = 3 := rfl
              refine r_aload_n C (j := 0) (oDec_at oX12_test 25 rfl) rfl rfl ?_
              refine r_aload_n C (j := 0) (oDec_at oX12_test 26 rfl) rfl rfl ?_
              refine r_getF (k := 19) (b := 82) C oCl12 rfl (by decide) flX12_45 rfl rfl rfl (oDec_at oX12_test 27 rfl) ?_
              have lk15 : ((u7).1 71 4).toInt = (t.1 71 4).toInt := congrArg Int32.toInt ((fu7 71 4 rfl).1)
              have lk16 : ((u7).1 71 5).toInt = v2.toInt := congrArg Int32.toInt (((fu7 71 5 rfl).1).trans (ev2))
              refine r_callVi C oCl12 rfl miX12_isHere mlX12_196 (ct4_X12_isHere l E (u7) 82 58 3 rfl (by decide) (by decide) rfl rfl (g) (A1) (E1) (9) (by omega) (by omega) (oqZ_fr fu7 rfl iv10) (by omega) (by omega) rfl (oqWd_at (oqWd_fr fu7 rfl iv11) 9 (by decide)) (by omega)) (by decide) rfl rfl rfl (Nat.le_of_ble_eq_true rfl) (oDec_at oX12_test 28 rfl) (fun r18 u17 pu17 fu17 => ?_)
              try dsimp only at pu17
              try simp only [lk15, lk16] at pu17
              obtain ⟨pu17_0, pu17_1, pu17_2, pu17_3, pu17_4, pu17_5, pu17_6⟩ := pu17
              have rr18 := n_rng r18
              have lk19 : ((u17).1 71 4).toInt = (t.1 71 4).toInt := congrArg Int32.toInt (((fu17 71 4 rfl).1).trans ((fu7 71 4 rfl).1))
              have lk20 : ((u17).1 71 5).toInt = v2.toInt := congrArg Int32.toInt (((fu17 71 5 rfl).1).trans (((fu7 71 5 rfl).1).trans (ev2)))
              have lk21 : ((u17).1 71 48).toInt = (t.1 71 48).toInt := congrArg Int32.toInt (((fu17 71 48 rfl).1).trans ((fu7 71 48 rfl).1))
              have lk22 : ((u17).1 71 47).toInt = (t.1 71 47).toInt := congrArg Int32.toInt (((fu17 71 47 rfl).1).trans ((fu7 71 47 rfl).1))
              have ea1 : ((u17).1 71 2).toInt = A1 := by omega
              have ee1 : ((u17).1 71 4).toInt = E1 := by omega
              have hsk1 : oqSk g ((u17).1 71 2).toInt = ((u17).1 71 2).toInt := by rw [ea1]; exact hskA
              have hg1 : g ((u17).1 71 2).toInt = g A1 := by rw [ea1]
              have hw1 : oqWi g ((u17).1 71 2).toInt ((u17).1 71 4).toInt = oqWi g A1 E1 := by rw [ea1, ee1]
              have hq23 : oqTt g fp fq cz 0 (u17) := oqI_id hq9 (oFr_row fu17 (c := 103) rfl rfl) (congrArg Int32.toInt (fu17 71 5 rfl).1) (congrArg Int32.toInt (fu17 71 47 rfl).1) (by rw [ea1, ← hA1]) (congrArg Int32.toInt (fu17 71 4 rfl).1) (congrArg Int32.toInt (fu17 71 48 rfl).1) (congrArg Int32.toInt (fu17 71 6 rfl).1)
              refine r_if_eq C 79 (oDec_at oX12_test 29 rfl) (by decide) (fun cd24 => ?_) (fun cd24 => ?_)
              · skip
                clear pu17_4
                replace pu17_5 := pu17_5 (by omega)
                clear pu17_6
                have lk25 : ((u17).1 71 4).toInt = (t.1 71 4).toInt := congrArg Int32.toInt (((fu17 71 4 rfl).1).trans ((fu7 71 4 rfl).1))
                have lk26 : ((u17).1 71 5).toInt = v2.toInt := congrArg Int32.toInt (((fu17 71 5 rfl).1).trans (((fu7 71 5 rfl).1).trans (ev2)))
                have lk27 : ((u17).1 71 48).toInt = (t.1 71 48).toInt := congrArg Int32.toInt (((fu17 71 48 rfl).1).trans ((fu7 71 48 rfl).1))
                have lk28 : ((u17).1 71 47).toInt = (t.1 71 47).toInt := congrArg Int32.toInt (((fu17 71 47 rfl).1).trans ((fu7 71 47 rfl).1))
                have hw9 := oqWi_w (g := g) (A := A1) (E := E1) (i := 9) (by decide) (by omega)
                refine r_aload_n C (j := 0) (oDec_at oX12_test 40 rfl) rfl rfl ?_
                have lk29 : ((u17).1 71 5).toInt = v2.toInt := congrArg Int32.toInt (((fu17 71 5 rfl).1).trans (((fu7 71 5 rfl).1).trans (ev2)))
                have lk30 : ((u17).1 71 48).toInt = (t.1 71 48).toInt := congrArg Int32.toInt (((fu17 71 48 rfl).1).trans ((fu7 71 48 rfl).1))
                have lk31 : ((u17).1 71 45).toInt = (t.1 71 45).toInt := congrArg Int32.toInt (((fu17 71 45 rfl).1).trans ((fu7 71 45 rfl).1))
                have lk32 : ((u17).1 71 47).toInt = (t.1 71 47).toInt := congrArg Int32.toInt (((fu17 71 47 rfl).1).trans ((fu7 71 47 rfl).1))
                have lk33 : ((u17).1 71 4).toInt = (t.1 71 4).toInt := congrArg Int32.toInt (((fu17 71 4 rfl).1).trans ((fu7 71 4 rfl).1))
                have lk34 : ((u17).1 71 45).toInt = (t.1 71 45).toInt := congrArg Int32.toInt (((fu17 71 45 rfl).1).trans ((fu7 71 45 rfl).1))
                have lk35 : ((u17).1 71 47).toInt = (t.1 71 47).toInt := congrArg Int32.toInt (((fu17 71 47 rfl).1).trans ((fu7 71 47 rfl).1))
                have lk36 : ((u17).1 71 45).toInt = (t.1 71 45).toInt := congrArg Int32.toInt (((fu17 71 45 rfl).1).trans ((fu7 71 45 rfl).1))
                have lk37 : ((u17).1 71 47).toInt = (t.1 71 47).toInt := congrArg Int32.toInt (((fu17 71 47 rfl).1).trans ((fu7 71 47 rfl).1))
                refine r_callVv C oCl12 rfl miX12_fact mlX12_322 (ct7_X12_fact l E (u17)  (g) (fp) (fq) (cz) (oQ_fr fu17 rfl (oQ_fr fu7 rfl hq5)) (by omega) (by omega) (by omega) hq23 (by omega) (oqZ_fr fu17 rfl (oqZ_fr fu7 rfl iv10)) (oqWd_fr fu17 rfl (oqWd_fr fu7 rfl iv11)) (oqMo_fr fu17 rfl (oqMo_fr fu7 rfl iv12)) (oqBP_fr fu17 rfl (oqBP_fr fu7 rfl iv13))) (by decide) rfl rfl rfl (Nat.le_of_ble_eq_true rfl) (oDec_at oX12_test 41 rfl) (fun u38 pu38 fu38 => ?_)
                try dsimp only at pu38
                try simp only [lk29, lk30, lk31, lk32, lk33, lk34, lk35, lk36, lk37] at pu38
                obtain ⟨pu38_0, pu38_1, pu38_2, pu38_3, pu38_4, pu38_5, pu38_6⟩ := pu38
                refine r_ty C (fun hty => ?_)
                have hty_at : (0 : Int) ≤ ((u38).1 71 2).toInt ∧ ((u38).1 71 2).toInt ≤ 1600 := hty.1 71 2
                clear hty
                refine r_aload_n C (j := 0) (oDec_at oX12_test 42 rfl) rfl rfl ?_
                refine r_callVv C oCl12 rfl miX12_dropsNots mlX12_325 (ct7_X12_dropsNots l E (u38)  (g) (fp) (fq) (cz) pu38_0 (by omega) (by omega) pu38_5) (by decide) rfl rfl rfl (Nat.le_of_ble_eq_true rfl) (oDec_at oX12_test 43 rfl) (fun u40 pu40 fu40 => ?_)
                try dsimp only at pu40
                obtain ⟨pu40_0, pu40_1, pu40_2, pu40_3, pu40_4⟩ := pu40
                have lk42 : ((u40).1 71 6).toInt = (u38.1 71 6).toInt := congrArg Int32.toInt ((fu40 71 6 rfl).1)
                refine r_aload_n C (j := 0) (oDec_at oX12_test 44 rfl) rfl rfl ?_
                obtain ⟨v43, ev43⟩ : ∃ z : Int32, (u40).1 71 5 = z := ⟨_, rfl⟩
                have gv43 : (u38.1 71 5).toInt = v43.toInt := congrArg Int32.toInt (((fu40 71 5 rfl).1).symm.trans ev43)
                have ggv43 : ((u40).1 71 5).toInt = v43.toInt := congrArg Int32.toInt ev43
                have rv43 := n_rng v43
                refine r_geti (k := 5) (lo := (-2147483648)) (hi := 2147483647) C v43 oCl12 rfl (by decide) flX12_173 rfl rfl (ev43) rfl rfl (oDec_at oX12_test 45 rfl) (fun _ _ => ?_)
                refine r_pc C 91 rfl ?_
                refine r_if_ne C 105 (oDec_at oX12_test 46 rfl) (by decide) (fun cd44 => ?_) (fun cd44 => ?_)
                · skip
                  have lk45 : ((u40).1 71 6).toInt = (u38.1 71 6).toInt := congrArg Int32.toInt ((fu40 71 6 rfl).1)
                  have lk46 : ((u40).1 71 5).toInt = v43.toInt := congrArg Int32.toInt (ev43)
                  refine r_iconst C (oDec_at oX12_test 52 rfl) (v := k0) (by rw [qk0]; rfl) ?_
                  refine r_istore_n C (lv' := [(0, .ref (oad E 71)), (1, .int k0), (2, .int r8)]) [1, 0, 2] (oDec_at oX12_test 53 rfl) rfl (by decide) rfl ?_
                  refine r_goto C (tgt := 2) (oDec_at oX12_test 54 rfl) (by decide) ?_
                  have lk47 : ((u40).1 71 2).toInt = (u38.1 71 2).toInt := congrArg Int32.toInt ((fu40 71 2 rfl).1)
                  have lk48 : ((u40).1 71 5).toInt = v43.toInt := congrArg Int32.toInt (ev43)
                  have lk49 : ((u40).1 71 2).toInt = (u38.1 71 2).toInt := congrArg Int32.toInt ((fu40 71 2 rfl).1)
                  have lk50 : ((u40).1 71 2).toInt = (u38.1 71 2).toInt := congrArg Int32.toInt ((fu40 71 2 rfl).1)
                  have lk51 : ((u40).1 71 2).toInt = (u38.1 71 2).toInt := congrArg Int32.toInt ((fu40 71 2 rfl).1)
                  have hj := oB1_f ((u40).1 71 5)
                  refine r_pick C [0, 1] rfl ?_
                  exact (ih (n - 1) (by omega)).1 (u40) k0  (by first | exact fun _ => (by assumption) | (intro h; exfalso; omega)) (by first | (intro h; exfalso; omega) | exact fun _ => pu40_2 (by omega) | exact fun _ => ⟨pu40_0, fun hb => by exfalso; omega⟩) (by omega) (by omega) (by omega) (by omega) (by omega) (by first | (intro h; exfalso; omega) | exact fun _ => (by assumption)) (by first | (intro h; exfalso; omega) | exact fun _ => pu40_7 | exact fun _ => ⟨pu40_3, pu40_4⟩) (by first | (intro h; exfalso; omega) | exact fun _ => (by assumption) | exact fun _ => oqGw_b (by omega)) (oqZ_fr fu40 rfl (oqZ_fr fu38 rfl (oqZ_fr fu17 rfl (oqZ_fr fu7 rfl iv10)))) (oqWd_fr fu40 rfl (oqWd_fr fu38 rfl (oqWd_fr fu17 rfl (oqWd_fr fu7 rfl iv11)))) (oqMo_fr fu40 rfl (oqMo_fr fu38 rfl (oqMo_fr fu17 rfl (oqMo_fr fu7 rfl iv12)))) (oqBP_fr fu40 rfl pu38_6) (by omega)
                · skip
                  refine r_aload_n C (j := 0) (oDec_at oX12_test 47 rfl) rfl rfl ?_
                  have lk52 : ((u40).1 71 5).toInt = v43.toInt := congrArg Int32.toInt (ev43)
                  have lk53 : ((u40).1 71 2).toInt = (u38.1 71 2).toInt := congrArg Int32.toInt ((fu40 71 2 rfl).1)
                  have lk54 : ((u40).1 71 2).toInt = (u38.1 71 2).toInt := congrArg Int32.toInt ((fu40 71 2 rfl).1)
                  have lk55 : ((u40).1 71 2).toInt = (u38.1 71 2).toInt := congrArg Int32.toInt ((fu40 71 2 rfl).1)
                  refine r_callVi C oCl12 rfl miX12_goesOnTest mlX12_328 (ct7_X12_goesOnTest l E (u40)  (g) (fp) (fq) (cz) pu40_0 (by omega) (by omega) (by omega) pu40_3 pu40_4 (oqZ_fr fu40 rfl (oqZ_fr fu38 rfl (oqZ_fr fu17 rfl (oqZ_fr fu7 rfl iv10)))) (oqWd_fr fu40 rfl (oqWd_fr fu38 rfl (oqWd_fr fu17 rfl (oqWd_fr fu7 rfl iv11)))) (oqBP_fr fu40 rfl pu38_6)) (by decide) rfl rfl rfl (Nat.le_of_ble_eq_true rfl) (oDec_at oX12_test 48 rfl) (fun r57 u56 pu56 fu56 => ?_)
                  try dsimp only at pu56
                  try simp only [lk52, lk53, lk54, lk55] at pu56
                  obtain ⟨pu56_0, pu56_1, pu56_2, pu56_3, pu56_4, pu56_5, pu56_6, pu56_7, pu56_8, pu56_9⟩ := pu56
                  have rr57 := n_rng r57
                  refine r_if_eq C 105 (oDec_at oX12_test 49 rfl) (by decide) (fun cd58 => ?_) (fun cd58 => ?_)
                  · skip
                    clear pu56_6
                    replace pu56_7 := pu56_7 (by omega)
                    replace pu56_8 := pu56_8 (by omega)
                    have hq59 : oqGw g (u56) := pu56_8
                    refine r_iconst C (oDec_at oX12_test 52 rfl) (v := k0) (by rw [qk0]; rfl) ?_
                    refine r_istore_n C (lv' := [(0, .ref (oad E 71)), (1, .int k0), (2, .int r8)]) [1, 0, 2] (oDec_at oX12_test 53 rfl) rfl (by decide) rfl ?_
                    refine r_goto C (tgt := 2) (oDec_at oX12_test 54 rfl) (by decide) ?_
                    have hj := oB1_f ((u56).1 71 5)
                    refine r_pick C [0, 1] rfl ?_
                    exact (ih (n - 1) (by omega)).1 (u56) k0  (by first | exact fun _ => (by assumption) | (intro h; exfalso; omega)) (by first | (intro h; exfalso; omega) | exact fun _ => pu56_2 (by omega) | exact fun _ => ⟨(by assumption), fun hb => by exfalso; omega⟩) (by omega) (by omega) (by omega) (by omega) (by omega) (by first | (intro h; exfalso; omega) | exact fun _ => (by assumption)) (by first | (intro h; exfalso; omega) | exact fun _ => pu56_7 | exact fun _ => ⟨(by assumption), (by assumption)⟩) (by first | (intro h; exfalso; omega) | exact fun _ => hq59 | exact fun _ => oqGw_b (by omega)) (oqZ_fr fu56 rfl (oqZ_fr fu40 rfl (oqZ_fr fu38 rfl (oqZ_fr fu17 rfl (oqZ_fr fu7 rfl iv10))))) (oqWd_fr fu56 rfl (oqWd_fr fu40 rfl (oqWd_fr fu38 rfl (oqWd_fr fu17 rfl (oqWd_fr fu7 rfl iv11))))) (oqMo_fr fu56 rfl (oqMo_fr fu40 rfl (oqMo_fr fu38 rfl (oqMo_fr fu17 rfl (oqMo_fr fu7 rfl iv12))))) pu56_9 (by omega)
                  · skip
                    replace pu56_6 := pu56_6 (by omega)
                    clear pu56_7
                    clear pu56_8
                    have hq60 : oQ 9999 0 (u56) := pu56_1 (by omega)
                    have hq61 : oqTt g fp fq cz 0 (u56) := pu56_6
                    refine r_iconst C (oDec_at oX12_test 50 rfl) (v := k1) (by rw [qk1]; rfl) ?_
                    refine r_goto C (tgt := 106) (oDec_at oX12_test 51 rfl) (by decide) ?_
                    refine r_istore_n C (lv' := [(0, .ref (oad E 71)), (1, .int k1), (2, .int r8)]) [1, 0, 2] (oDec_at oX12_test 53 rfl) rfl (by decide) rfl ?_
                    refine r_goto C (tgt := 2) (oDec_at oX12_test 54 rfl) (by decide) ?_
                    have hj := oB1_f ((u56).1 71 5)
                    refine r_pick C [0, 1] rfl ?_
                    exact (ih (n - 1) (by omega)).1 (u56) k1  (by first | exact fun _ => hq60 | (intro h; exfalso; omega)) (by first | (intro h; exfalso; omega) | exact fun _ => pu56_2 (by omega) | exact fun _ => ⟨(by assumption), fun hb => by exfalso; omega⟩) (by omega) (by omega) (by omega) (by omega) (by omega) (by first | (intro h; exfalso; omega) | exact fun _ => hq61) (by first | (intro h; exfalso; omega) | exact fun _ => pu56_7 | exact fun _ => ⟨(by assumption), (by assumption)⟩) (by first | (intro h; exfalso; omega) | exact fun _ => (by assumption) | exact fun _ => oqGw_b (by omega)) (oqZ_fr fu56 rfl (oqZ_fr fu40 rfl (oqZ_fr fu38 rfl (oqZ_fr fu17 rfl (oqZ_fr fu7 rfl iv10))))) (oqWd_fr fu56 rfl (oqWd_fr fu40 rfl (oqWd_fr fu38 rfl (oqWd_fr fu17 rfl (oqWd_fr fu7 rfl iv11))))) (oqMo_fr fu56 rfl (oqMo_fr fu40 rfl (oqMo_fr fu38 rfl (oqMo_fr fu17 rfl (oqMo_fr fu7 rfl iv12))))) pu56_9 (by omega)
              · skip
                replace pu17_4 := pu17_4 (by omega)
                clear pu17_5
                replace pu17_6 := pu17_6 (by omega)
                have lk62 : ((u17).1 71 4).toInt = (t.1 71 4).toInt := congrArg Int32.toInt (((fu17 71 4 rfl).1).trans ((fu7 71 4 rfl).1))
                have lk63 : ((u17).1 71 5).toInt = v2.toInt := congrArg Int32.toInt (((fu17 71 5 rfl).1).trans (((fu7 71 5 rfl).1).trans (ev2)))
                have lk64 : ((u17).1 71 48).toInt = (t.1 71 48).toInt := congrArg Int32.toInt (((fu17 71 48 rfl).1).trans ((fu7 71 48 rfl).1))
                have lk65 : ((u17).1 71 47).toInt = (t.1 71 47).toInt := congrArg Int32.toInt (((fu17 71 47 rfl).1).trans ((fu7 71 47 rfl).1))
                have hw9 := oqWi_y (g := g) (A := A1) (E := E1) (i := 9) (by decide) (by omega)
                refine r_aload_n C (j := 0) (oDec_at oX12_test 30 rfl) rfl rfl ?_
                refine r_bipush C (oDec_at oX12_test 31 rfl) (v := k16) (by rw [qk16]; rfl) ?_
                refine r_aload_n C (j := 0) (oDec_at oX12_test 32 rfl) rfl rfl ?_
                obtain ⟨v66, ev66⟩ : ∃ z : Int32, (u17).1 71 2 = z := ⟨_, rfl⟩
                have gv66 : (u17.1 71 2).toInt = v66.toInt := congrArg Int32.toInt (ev66)
                refine r_geti (k := 2) (lo := 0) (hi := 1600) C v66 oCl12 rfl (by decide) flX12_179 rfl rfl (ev66) rfl rfl (oDec_at oX12_test 33 rfl) (fun b67 b67h => ?_)
                have lk68 : ((u17).1 71 47).toInt = (t.1 71 47).toInt := congrArg Int32.toInt (((fu17 71 47 rfl).1).trans ((fu7 71 47 rfl).1))
                have lk69 : ((u17).1 71 2).toInt = v66.toInt := congrArg Int32.toInt (ev66)
                have lk70 : ((u17).1 71 4).toInt = (t.1 71 4).toInt := congrArg Int32.toInt (((fu17 71 4 rfl).1).trans ((fu7 71 4 rfl).1))
                have lk71 : ((u17).1 71 5).toInt = v2.toInt := congrArg Int32.toInt (((fu17 71 5 rfl).1).trans (((fu7 71 5 rfl).1).trans (ev2)))
                have lk72 : ((u17).1 71 48).toInt = (t.1 71 48).toInt := congrArg Int32.toInt (((fu17 71 48 rfl).1).trans ((fu7 71 48 rfl).1))
                have lk73 : ((u17).1 71 47).toInt = (t.1 71 47).toInt := congrArg Int32.toInt (((fu17 71 47 rfl).1).trans ((fu7 71 47 rfl).1))
                have lk74 : ((u17).1 71 48).toInt = (t.1 71 48).toInt := congrArg Int32.toInt (((fu17 71 48 rfl).1).trans ((fu7 71 48 rfl).1))
                have lk75 : ((u17).1 71 5).toInt = v2.toInt := congrArg Int32.toInt (((fu17 71 5 rfl).1).trans (((fu7 71 5 rfl).1).trans (ev2)))
                have lk76 : ((u17).1 71 48).toInt = (t.1 71 48).toInt := congrArg Int32.toInt (((fu17 71 48 rfl).1).trans ((fu7 71 48 rfl).1))
                have lk77 : ((u17).1 71 47).toInt = (t.1 71 47).toInt := congrArg Int32.toInt (((fu17 71 47 rfl).1).trans ((fu7 71 47 rfl).1))
                refine r_callVv C oCl12 rfl miX12_opens mlX12_292 (ct7_X12_opens l E (u17) k16 v66 (by omega) (by omega) (by omega) (oqBP_fr fu17 rfl (oqBP_fr fu7 rfl iv13))) (by decide) rfl rfl rfl (Nat.le_of_ble_eq_true rfl) (oDec_at oX12_test 34 rfl) (fun u78 pu78 fu78 => ?_)
                try dsimp only at pu78
                try simp only [lk73, lk74, lk75, lk76, lk77] at pu78
                obtain ⟨pu78_0, pu78_1, pu78_2⟩ := pu78
                have lk80 : ((u78).1 71 2).toInt = v66.toInt := congrArg Int32.toInt (((fu78 71 2 rfl).1).trans (ev66))
                have lk81 : ((u78).1 71 4).toInt = (t.1 71 4).toInt := congrArg Int32.toInt (((fu78 71 4 rfl).1).trans (((fu17 71 4 rfl).1).trans ((fu7 71 4 rfl).1)))
                have hq82 : oQ 9999 0 (u78) := oQ_opens fu78 rfl (oQ_fr fu17 rfl (oQ_fr fu7 rfl hq5)) pu78_1 (by omega) (by omega) (by omega)
                have hq83 : oqN1 g fp fq cz (u78) := oqN1_of hq23 (by omega) pu78_1 (by omega) hsk1 (by omega) (by omega) (by omega) (by omega) (by omega)
                refine r_aload_n C (j := 0) (oDec_at oX12_test 35 rfl) rfl rfl ?_
                refine r_pc C 69 rfl ?_
                refine r_aload_n C (j := 0) (oDec_at oX12_test 36 rfl) rfl rfl ?_
                refine r_getF (k := 19) (b := 82) C oCl12 rfl (by decide) flX12_45 rfl rfl rfl (oDec_at oX12_test 37 rfl) ?_
                have lk84 : ((u78).1 71 2).toInt = v66.toInt := congrArg Int32.toInt (((fu78 71 2 rfl).1).trans (ev66))
                have lk85 : ((u78).1 71 4).toInt = (t.1 71 4).toInt := congrArg Int32.toInt (((fu78 71 4 rfl).1).trans (((fu17 71 4 rfl).1).trans ((fu7 71 4 rfl).1)))
                have lk86 : ((u78).1 71 2).toInt = v66.toInt := congrArg Int32.toInt (((fu78 71 2 rfl).1).trans (ev66))
                refine r_callVv C oCl12 rfl miX12_asks mlX12_240 (ct7_X12_asks l E (u78) 82 58 3 rfl (by decide) (by decide) rfl rfl (g) (A1) (E1) (9) (by omega) (oqZ_fr fu78 rfl (oqZ_fr fu17 rfl (oqZ_fr fu7 rfl iv10))) (by omega) rfl (oqWd_at (oqWd_fr fu78 rfl (oqWd_fr fu17 rfl (oqWd_fr fu7 rfl iv11))) 9 (by decide)) (by omega) pu78_2) (by decide) rfl rfl rfl (Nat.le_of_ble_eq_true rfl) (oDec_at oX12_test 38 rfl) (fun u87 pu87 fu87 => ?_)
                try dsimp only at pu87
                try simp only [lk84, lk85, lk86] at pu87
                obtain ⟨pu87_0, pu87_1, pu87_2, pu87_3⟩ := pu87
                have lk89 : ((u87).1 71 48).toInt = (u78.1 71 48).toInt := congrArg Int32.toInt ((fu87 71 48 rfl).1)
                have lk90 : ((u87).1 71 47).toInt = (u78.1 71 47).toInt := congrArg Int32.toInt ((fu87 71 47 rfl).1)
                have eb : ((u78).1 71 2).toInt = A1 := by omega
                have ebe : ((u78).1 71 4).toInt = E1 := by omega
                have eH : oqHa g ((u78).1 71 2).toInt 9 = oqHa g A1 9 := by rw [eb]
                have eHH : oqH g ((u78).1 71 2).toInt ((u78).1 71 4).toInt 9 = oqH g A1 E1 9 := by rw [eb, ebe]
                have hq91 : oqTt g fp fq cz 0 (u87) := oqN1_I hq83 (oFr_row fu87 (c := 103) rfl rfl) (congrArg Int32.toInt (fu87 71 47 rfl).1) (congrArg Int32.toInt (fu87 71 48 rfl).1) (fun h9 => by have h8 := pu87_0 h9; omega) (fun h9 => by have h8 := pu87_1 h9; omega)
                refine r_goto C (tgt := 2) (oDec_at oX12_test 39 rfl) (by decide) ?_
                have lk92 : ((u87).1 71 48).toInt = (u78.1 71 48).toInt := congrArg Int32.toInt ((fu87 71 48 rfl).1)
                have lk93 : ((u87).1 71 45).toInt = (t.1 71 45).toInt := congrArg Int32.toInt (((fu87 71 45 rfl).1).trans (((fu78 71 45 rfl).1).trans (((fu17 71 45 rfl).1).trans ((fu7 71 45 rfl).1))))
                have lk94 : ((u87).1 71 47).toInt = (u78.1 71 47).toInt := congrArg Int32.toInt ((fu87 71 47 rfl).1)
                have lk95 : ((u87).1 71 45).toInt = (t.1 71 45).toInt := congrArg Int32.toInt (((fu87 71 45 rfl).1).trans (((fu78 71 45 rfl).1).trans (((fu17 71 45 rfl).1).trans ((fu7 71 45 rfl).1))))
                have lk96 : ((u87).1 71 47).toInt = (u78.1 71 47).toInt := congrArg Int32.toInt ((fu87 71 47 rfl).1)
                have hj := oB1_f ((u87).1 71 5)
                refine r_pick C [0, 1] rfl ?_
                exact (ih (n - 1) (by omega)).1 (u87) x1  (by first | exact fun _ => (oQ_frb fu87 rfl (by omega) hq82) | (intro h; exfalso; omega)) (by first | (intro h; exfalso; omega) | exact fun _ => pu87_2 (by omega) | exact fun _ => ⟨(by assumption), fun hb => by exfalso; omega⟩) (by omega) (by omega) (by omega) (by omega) (by omega) (by first | (intro h; exfalso; omega) | exact fun _ => hq91) (by first | (intro h; exfalso; omega) | exact fun _ => pu87_7 | exact fun _ => ⟨(by assumption), (by assumption)⟩) (by first | (intro h; exfalso; omega) | exact fun _ => (by assumption) | exact fun _ => oqGw_b (by omega)) (oqZ_fr fu87 rfl (oqZ_fr fu78 rfl (oqZ_fr fu17 rfl (oqZ_fr fu7 rfl iv10)))) (oqWd_fr fu87 rfl (oqWd_fr fu78 rfl (oqWd_fr fu17 rfl (oqWd_fr fu7 rfl iv11)))) (oqMo_fr fu87 rfl (oqMo_fr fu78 rfl (oqMo_fr fu17 rfl (oqMo_fr fu7 rfl iv12)))) pu87_3 (by omega)
            · skip
              refine r_aload_n C (j := 0) (oDec_at oX12_test 13 rfl) rfl rfl ?_
              refine r_bipush C (oDec_at oX12_test 14 rfl) (v := k25) (by rw [qk25]; rfl) ?_
              refine r_aload_n C (j := 0) (oDec_at oX12_test 15 rfl) rfl rfl ?_
              obtain ⟨v97, ev97⟩ : ∃ z : Int32, (u7).1 71 2 = z := ⟨_, rfl⟩
              have gv97 : (u7.1 71 2).toInt = v97.toInt := congrArg Int32.toInt (ev97)
              refine r_geti (k := 2) (lo := 0) (hi := 1600) C v97 oCl12 rfl (by decide) flX12_179 rfl rfl (ev97) rfl rfl (oDec_at oX12_test 16 rfl) (fun b98 b98h => ?_)
              have lk99 : ((u7).1 71 47).toInt = (t.1 71 47).toInt := congrArg Int32.toInt ((fu7 71 47 rfl).1)
              have lk100 : ((u7).1 71 2).toInt = v97.toInt := congrArg Int32.toInt (ev97)
              have lk101 : ((u7).1 71 4).toInt = (t.1 71 4).toInt := congrArg Int32.toInt ((fu7 71 4 rfl).1)
              have lk102 : ((u7).1 71 5).toInt = v2.toInt := congrArg Int32.toInt (((fu7 71 5 rfl).1).trans (ev2))
              have lk103 : ((u7).1 71 48).toInt = (t.1 71 48).toInt := congrArg Int32.toInt ((fu7 71 48 rfl).1)
              have lk104 : ((u7).1 71 47).toInt = (t.1 71 47).toInt := congrArg Int32.toInt ((fu7 71 47 rfl).1)
              have lk105 : ((u7).1 71 48).toInt = (t.1 71 48).toInt := congrArg Int32.toInt ((fu7 71 48 rfl).1)
              have lk106 : ((u7).1 71 5).toInt = v2.toInt := congrArg Int32.toInt (((fu7 71 5 rfl).1).trans (ev2))
              have lk107 : ((u7).1 71 48).toInt = (t.1 71 48).toInt := congrArg Int32.toInt ((fu7 71 48 rfl).1)
              have lk108 : ((u7).1 71 47).toInt = (t.1 71 47).toInt := congrArg Int32.toInt ((fu7 71 47 rfl).1)
              refine r_callVv C oCl12 rfl miX12_opens mlX12_292 (ct7_X12_opens l E (u7) k25 v97 (by omega) (by omega) (by omega) (oqBP_fr fu7 rfl iv13)) (by decide) rfl rfl rfl (Nat.le_of_ble_eq_true rfl) (oDec_at oX12_test 17 rfl) (fun u109 pu109 fu109 => ?_)
              try dsimp only at pu109
              try simp only [lk104, lk105, lk106, lk107, lk108] at pu109
              obtain ⟨pu109_0, pu109_1, pu109_2⟩ := pu109
              have lk111 : ((u109).1 71 2).toInt = v97.toInt := congrArg Int32.toInt (((fu109 71 2 rfl).1).trans (ev97))
              have lk112 : ((u109).1 71 4).toInt = (t.1 71 4).toInt := congrArg Int32.toInt (((fu109 71 4 rfl).1).trans ((fu7 71 4 rfl).1))
              have hq113 : oQ 9999 0 (u109) := oQ_opens fu109 rfl (oQ_fr fu7 rfl hq5) pu109_1 (by omega) (by omega) (by omega)
              refine r_aload_n C (j := 0) (oDec_at oX12_test 18 rfl) rfl rfl ?_
              refine r_pc C 35 rfl ?_
              refine r_dup C (oDec_at oX12_test 19 rfl) rfl ?_
              refine r_geti (k := 2) (lo := 0) (hi := 1600) C v97 oCl12 rfl (by decide) flX12_179 rfl rfl (((fu109 71 2 rfl).1).trans (ev97)) rfl rfl (oDec_at oX12_test 20 rfl) (fun _ _ => ?_)
              refine r_iconst C (oDec_at oX12_test 21 rfl) (v := k1) (by rw [qk1]; rfl) ?_
              obtain ⟨v114, ev114⟩ : ∃ z : Int32, z = v97 + k1 := ⟨_, rfl⟩
              have hv114 : v114.toInt = v97.toInt + k1.toInt := n_add ev114 (by omega) (by omega)
              refine r_iadd C v114 (oDec_at oX12_test 22 rfl) ev114 ?_
              refine r_puti (k := 2) (lo := 0) (hi := 1600) C oCl12 rfl (by decide) flX12_179 rfl rfl rfl rfl rfl rfl rfl rfl ⟨by omega, by omega⟩ (oDec_at oX12_test 23 rfl) ?_
              have hq115 : oqTt g fp fq cz 0 ((pI u109 71 2 v114)) := oqI_sq hq9 (by omega) pu109_1 (by omega) hsk (by omega) (by omega) (by omega) (by omega) (by omega)
              refine r_goto C (tgt := 2) (oDec_at oX12_test 24 rfl) (by decide) ?_
              have lk116 : (((pI u109 71 2 v114)).1 71 48).toInt = (u109.1 71 48).toInt := congrArg Int32.toInt ((pI_ne (a := 71) (b := 48) (c := 71) (k := 2) _ _ (Or.inr (by decide))))
              have lk117 : (((pI u109 71 2 v114)).1 71 2).toInt = v114.toInt := congrArg Int32.toInt ((pI_self _ _ _ _))
              have lk118 : (((pI u109 71 2 v114)).1 71 45).toInt = (t.1 71 45).toInt := congrArg Int32.toInt (((pI_ne (a := 71) (b := 45) (c := 71) (k := 2) _ _ (Or.inr (by decide)))).trans (((fu109 71 45 rfl).1).trans ((fu7 71 45 rfl).1)))
              have lk119 : (((pI u109 71 2 v114)).1 71 47).toInt = (u109.1 71 47).toInt := congrArg Int32.toInt ((pI_ne (a := 71) (b := 47) (c := 71) (k := 2) _ _ (Or.inr (by decide))))
              have lk120 : (((pI u109 71 2 v114)).1 71 5).toInt = (u109.1 71 5).toInt := congrArg Int32.toInt ((pI_ne (a := 71) (b := 5) (c := 71) (k := 2) _ _ (Or.inr (by decide))))
              have lk121 : (((pI u109 71 2 v114)).1 71 2).toInt = v114.toInt := congrArg Int32.toInt ((pI_self _ _ _ _))
              have lk122 : (((pI u109 71 2 v114)).1 71 45).toInt = (t.1 71 45).toInt := congrArg Int32.toInt (((pI_ne (a := 71) (b := 45) (c := 71) (k := 2) _ _ (Or.inr (by decide)))).trans (((fu109 71 45 rfl).1).trans ((fu7 71 45 rfl).1)))
              have lk123 : (((pI u109 71 2 v114)).1 71 47).toInt = (u109.1 71 47).toInt := congrArg Int32.toInt ((pI_ne (a := 71) (b := 47) (c := 71) (k := 2) _ _ (Or.inr (by decide))))
              have lk124 : (((pI u109 71 2 v114)).1 71 2).toInt = v114.toInt := congrArg Int32.toInt ((pI_self _ _ _ _))
              have lk125 : (((pI u109 71 2 v114)).1 71 2).toInt = v114.toInt := congrArg Int32.toInt ((pI_self _ _ _ _))
              have hj := oB1_f (((pI u109 71 2 v114)).1 71 5)
              refine r_pick C [0, 1] rfl ?_
              exact (ih (n - 1) (by omega)).1 ((pI u109 71 2 v114)) x1  (by first | exact fun _ => (oQ_fr (oFr_oneI (q := 12) (m := 2) rfl (by rfl)) rfl hq113) | (intro h; exfalso; omega)) (by first | (intro h; exfalso; omega) | exact fun _ => pu109_2 (by omega) | exact fun _ => ⟨(by assumption), fun hb => by exfalso; omega⟩) (by omega) (by omega) (by omega) (by omega) (by omega) (by first | (intro h; exfalso; omega) | exact fun _ => hq115) (by first | (intro h; exfalso; omega) | exact fun _ => pu109_7 | exact fun _ => ⟨(by assumption), (by assumption)⟩) (by first | (intro h; exfalso; omega) | exact fun _ => (by assumption) | exact fun _ => oqGw_b (by omega)) (oqZ_fr (oFr_oneI (q := 12) (m := 2) rfl (by rfl)) rfl (oqZ_fr fu109 rfl (oqZ_fr fu7 rfl iv10))) (oqWd_fr (oFr_oneI (q := 12) (m := 2) rfl (by rfl)) rfl (oqWd_fr fu109 rfl (oqWd_fr fu7 rfl iv11))) (oqMo_fr (oFr_oneI (q := 12) (m := 2) rfl (by rfl)) rfl (oqMo_fr fu109 rfl (oqMo_fr fu7 rfl iv12))) (oqBP_fr (oFr_oneI (q := 12) (m := 2) rfl (by rfl)) rfl pu109_2) (by omega)
      · intro t   iv0 iv1 iv2 iv3 iv4 iv5 iv6 iv7 iv8 hmu
        refine r_ty C (fun hty => ?_)
        have hty_coded : (0 : Int) ≤ ((t).1 71 45).toInt ∧ ((t).1 71 45).toInt ≤ 1600 := hty.1 71 45
        have hty_waits : (0 : Int) ≤ ((t).1 71 47).toInt ∧ ((t).1 71 47).toInt ≤ 1700 := hty.1 71 47
        have hty_at : (0 : Int) ≤ ((t).1 71 2).toInt ∧ ((t).1 71 2).toInt ≤ 1600 := hty.1 71 2
        clear hty
        refine r_aload_n C (j := 0) (oDec_at oX12_test 55 rfl) rfl rfl ?_
        obtain ⟨v126, ev126⟩ : ∃ z : Int32, (t).1 71 5 = z := ⟨_, rfl⟩
        have gv126 : (t.1 71 5).toInt = v126.toInt := congrArg Int32.toInt (ev126)
        have rv126 := n_rng v126
        refine r_geti (k := 5) (lo := (-2147483648)) (hi := 2147483647) C v126 oCl12 rfl (by decide) flX12_173 rfl rfl (ev126) rfl rfl (oDec_at oX12_test 56 rfl) (fun _ _ => ?_)
        refine r_if_ne C 131 (oDec_at oX12_test 57 rfl) (by decide) (fun cd127 => ?_) (fun cd127 => ?_)
        · skip
          have lk128 : ((t).1 71 5).toInt = v126.toInt := congrArg Int32.toInt (ev126)
          have hq129 : oqE8 g fp fq cz (t) := oqE8_of iv5 (fun h9 => by omega) (iv7)
          have lk130 : ((t).1 71 5).toInt = v126.toInt := congrArg Int32.toInt (ev126)
          exact r_vret C (oDec_at oX12_test 64 rfl) ⟨rfl, ⟨iv0, by omega, by omega, by omega, hq129, iv8⟩⟩
        · skip
          refine r_aload_n C (j := 0) (oDec_at oX12_test 58 rfl) rfl rfl ?_
          obtain ⟨v131, ev131⟩ : ∃ z : Int32, (t).1 71 47 = z := ⟨_, rfl⟩
          have gv131 : (t.1 71 47).toInt = v131.toInt := congrArg Int32.toInt (ev131)
          refine r_geti (k := 47) (lo := 0) (hi := 1700) C v131 oCl12 rfl (by decide) flX12_277 rfl rfl (ev131) rfl rfl (oDec_at oX12_test 59 rfl) (fun b132 b132h => ?_)
          refine r_if_le C 131 (oDec_at oX12_test 60 rfl) (by decide) (fun cd133 => ?_) (fun cd133 => ?_)
          · skip
            have lk134 : ((t).1 71 47).toInt = v131.toInt := congrArg Int32.toInt (ev131)
            have lk135 : ((t).1 71 5).toInt = v126.toInt := congrArg Int32.toInt (ev126)
            have hq136 : oqE8 g fp fq cz (t) := oqE8_of iv5 (fun h9 => by omega) (iv7)
            have lk137 : ((t).1 71 47).toInt = v131.toInt := congrArg Int32.toInt (ev131)
            have lk138 : ((t).1 71 5).toInt = v126.toInt := congrArg Int32.toInt (ev126)
            have lk139 : ((t).1 71 47).toInt = v131.toInt := congrArg Int32.toInt (ev131)
            exact r_vret C (oDec_at oX12_test 64 rfl) ⟨rfl, ⟨iv0, by omega, by omega, by omega, hq136, iv8⟩⟩
          · skip
            have lk140 : ((t).1 71 47).toInt = v131.toInt := congrArg Int32.toInt (ev131)
            have lk141 : ((t).1 71 5).toInt = v126.toInt := congrArg Int32.toInt (ev126)
            have hnt := oNS_top (iv1 (by omega)) (by omega)
            have htp := oqI_tp iv0 (by omega) (by omega)
            have htn := iv6 (by omega)
            refine r_aload_n C (j := 0) (oDec_at oX12_test 61 rfl) rfl rfl ?_
            have lk142 : ((t).1 71 47).toInt = v131.toInt := congrArg Int32.toInt (ev131)
            have lk143 : ((t).1 71 47).toInt = v131.toInt := congrArg Int32.toInt (ev131)
            refine r_callVv C oCl12 rfl miX12_drops mlX12_289 (ct_X12_drops l E (t)  (by omega) (by omega)) (by decide) rfl rfl rfl (Nat.le_of_ble_eq_true rfl) (oDec_at oX12_test 62 rfl) (fun u144 pu144 fu144 => ?_)
            try dsimp only at pu144
            try simp only [lk142, lk143] at pu144
            obtain ⟨pu144_0, pu144_1, pu144_2⟩ := pu144
            have lk146 : ((u144).1 71 2).toInt = (t.1 71 2).toInt := congrArg Int32.toInt ((fu144 71 2 rfl).1)
            have lk147 : ((u144).1 71 4).toInt = (t.1 71 4).toInt := congrArg Int32.toInt ((fu144 71 4 rfl).1)
            have lk148 : ((u144).1 71 5).toInt = v126.toInt := congrArg Int32.toInt (((fu144 71 5 rfl).1).trans (ev126))
            have lk149 : ((u144).1 71 48).toInt = (t.1 71 48).toInt := congrArg Int32.toInt ((fu144 71 48 rfl).1)
            have hq150 : oQ 9999 1 (u144) := oQ_drop iv0 pu144_0 (by omega) (by omega) (by omega) (by omega)
            have hq151 : oNQ (u144) := oNQ_drop iv1 pu144_0
            have hq152 : oqTt g fp fq cz 2 (u144) := oqI_drop iv5 pu144_0 (by omega) (fun _ => by omega)
            have hq153 : oqTN (u144) := oqTN_drop iv5 (by omega) pu144_0 (by omega) (by omega)
            refine r_goto C (tgt := 110) (oDec_at oX12_test 63 rfl) (by decide) ?_
            have lk154 : ((u144).1 71 2).toInt = (t.1 71 2).toInt := congrArg Int32.toInt ((fu144 71 2 rfl).1)
            have lk155 : ((u144).1 71 5).toInt = v126.toInt := congrArg Int32.toInt (((fu144 71 5 rfl).1).trans (ev126))
            have lk156 : ((u144).1 71 2).toInt = (t.1 71 2).toInt := congrArg Int32.toInt ((fu144 71 2 rfl).1)
            have lk157 : ((u144).1 71 2).toInt = (t.1 71 2).toInt := congrArg Int32.toInt ((fu144 71 2 rfl).1)
            exact (ih (n - 1) (by omega)).2 (u144)   (by first | exact hq150 | exact (iv1 (by omega)).1 | exact oQ_bad (iv0 (by omega)) (by omega)) (by first | exact hq151 | exact (iv1 (by omega)).2 | exact fun hb => by exfalso; omega) (by omega) (by omega) (by omega) (by first | exact hq152 | exact (iv8 (by omega)).1 | exact oqI_kp (iv7 (by omega)) (by omega) rfl rfl) (by first | exact hq153 | exact (iv8 (by omega)).2 | (intro h9; exfalso; omega)) (by first | exact (oqGw_fr fu144 rfl iv7) | exact oqGw_b (by omega)) (oqBP_fr fu144 rfl iv8) (by omega)
  refine r_iconst C (oDec_at oX12_test 0 rfl) (v := k1) (by rw [qk1]; rfl) ?_
  refine r_istore_n C (lv' := [(0, .ref (oad E 71)), (1, .int k1)]) [1, 0] (oDec_at oX12_test 1 rfl) rfl (by decide) rfl ?_
  have hj := oB1_f ((s).1 71 5)
  exact (key (4000 * (1602 - ((s).1 71 2).toInt) + 10 * k1.toInt + 100 * oB1 ((s).1 71 5)).toNat).1 (s) k1  (by first | exact fun _ => hp0 | (intro h; exfalso; omega)) (by first | (intro h; exfalso; omega) | exact fun _ => ⟨(by assumption), fun hb => by exfalso; omega⟩) (by omega) (by omega) (by omega) (by omega) (by omega) (by first | (intro h; exfalso; omega) | exact fun _ => hp4) (by first | (intro h; exfalso; omega) | exact fun _ => ⟨(by assumption), (by assumption)⟩) (by first | (intro h; exfalso; omega) | exact fun _ => (by assumption) | exact fun _ => oqGw_b (by omega)) hp5 hp6 hp7 hp8 (by omega)
