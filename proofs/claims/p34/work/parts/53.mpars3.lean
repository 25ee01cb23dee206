set_option maxHeartbeats 4000000 in
set_option maxRecDepth 100000 in
theorem ct_X12_hasSquare (l : Launch) (E : oE) (s : oS)    : oMet l 1 yX12_hasSquare cX12_hasSquare 2 (some .boolean) [] E s [.ref (oad E 71)] (oPi (fun r u => (0 ≤ r.toInt ∧ r.toInt ≤ 1) ∧ (r.toInt = 1 → oHS u) ∧ (r.toInt = 0 → oNS u))) := by
  refine oMet.of (lv := [(0, .ref (oad E 71))]) (by decide +kernel) (Nat.le_of_ble_eq_true rfl) rfl (fun J C hT => ?_)
  have C : oC l 1 cX12_hasSquare RX12 2 (some .boolean) [] E s (oPi (fun r u => (0 ≤ r.toInt ∧ r.toInt ≤ 1) ∧ (r.toInt = 1 → oHS u) ∧ (r.toInt = 0 → oNS u))) J := C
  obtain ⟨k0, qk0⟩ : ∃ z : Int32, z = 0 := ⟨_, rfl⟩
  have ek0 : k0.toInt = 0 := by rw [qk0]; rfl
  obtain ⟨k1, qk1⟩ : ∃ z : Int32, z = 1 := ⟨_, rfl⟩
  have ek1 : k1.toInt = 1 := by rw [qk1]; rfl
  obtain ⟨k25, qk25⟩ : ∃ z : Int32, z = 25 := ⟨_, rfl⟩
  have ek25 : k25.toInt = 25 := by rw [qk25]; rfl
  have htz_waits : (0 : Int) ≤ (s.1 71 47).toInt ∧ (s.1 71 47).toInt ≤ 1700 := hT.1 71 47
  have key : ∀ n : Nat, (∀ (t : oS) (x1 : Int32), (0 ≤ x1.toInt ∧ x1.toInt ≤ (t.1 71 47).toInt) → (oNx x1 t) → 2000 - x1.toInt ≤ (n : Int) → J t 2 [(0, .ref (oad E 71)), (1, .int x1)] []) := by
    intro n
    induction n using Nat.strongRecOn with
    | _ n ih =>
      skip
      · intro t x1  iv0 iv1 hmu
        have rx1 := n_rng x1
        refine r_iload_n C (j := 1) (oDec_at oX12_hasSquare 2 rfl) rfl rfl ?_
        refine r_aload_n C (j := 0) (oDec_at oX12_hasSquare 3 rfl) rfl rfl ?_
        obtain ⟨v1, ev1⟩ : ∃ z : Int32, (t).1 71 47 = z := ⟨_, rfl⟩
        have gv1 : (t.1 71 47).toInt = v1.toInt := congrArg Int32.toInt (ev1)
        refine r_geti (k := 47) (lo := 0) (hi := 1700) C v1 oCl12 rfl (by decide) flX12_277 rfl rfl (ev1) rfl rfl (oDec_at oX12_hasSquare 4 rfl) (fun b2 b2h => ?_)
        refine r_icmp_ge C 29 (oDec_at oX12_hasSquare 5 rfl) (by decide) (fun cd3 => ?_) (fun cd3 => ?_)
        · skip
          refine r_iconst C (oDec_at oX12_hasSquare 16 rfl) (v := k0) (by rw [qk0]; rfl) ?_
          exact r_zret C (n_bool (by omega)) (oDec_at oX12_hasSquare 17 rfl) ⟨_, rfl, ⟨by omega, by first | (intro h; exfalso; omega) | exact fun _ => oHS_of (by assumption) (by omega) (by omega) (by omega), by first | (intro h; exfalso; omega) | exact fun _ => oNS_of iv1 (by omega)⟩⟩
        · skip
          refine r_aload_n C (j := 0) (oDec_at oX12_hasSquare 6 rfl) rfl rfl ?_
          refine r_getF (k := 46) (b := 103) C oCl12 rfl (by decide) flX12_111 rfl rfl rfl (oDec_at oX12_hasSquare 7 rfl) ?_
          refine r_iload_n C (j := 1) (oDec_at oX12_hasSquare 8 rfl) rfl rfl ?_
          obtain ⟨v5, ev5⟩ : ∃ z : Int32, (t).1 103 x1.toNatClampNeg = z := ⟨_, rfl⟩
          have gv5 : (t.1 103 x1.toNatClampNeg).toInt = v5.toInt := congrArg Int32.toInt (ev5)
          have rv5 := n_rng v5
          refine r_iald (n := 1700) (lo := (-2147483648)) (hi := 2147483647) C v5 rfl (by decide) rfl rfl ⟨by omega, by omega⟩ (by decide) ev5 rfl rfl (oDec_at oX12_hasSquare 9 rfl) (fun _ _ => ?_)
          refine r_bipush C (oDec_at oX12_hasSquare 10 rfl) (v := k25) (by rw [qk25]; rfl) ?_
          refine r_icmp_ne C 23 (oDec_at oX12_hasSquare 11 rfl) (by decide) (fun cd6 => ?_) (fun cd6 => ?_)
          · skip
            obtain ⟨v7, ev7⟩ : ∃ z : Int32, x1 + Int32.ofInt 1 = z := ⟨_, rfl⟩
            have hv7 : v7.toInt = x1.toInt + 1 := n_inc ev7 (by decide) (by omega) (by omega)
            refine r_iinc C (j := 1) (lv' := [(0, .ref (oad E 71)), (1, .int v7)]) v7 [1, 0] (oDec_at oX12_hasSquare 14 rfl) rfl ev7 (by decide) rfl ?_
            refine r_goto C (tgt := 2) (oDec_at oX12_hasSquare 15 rfl) (by decide) ?_
            have lk8 : ((t).1 71 47).toInt = v1.toInt := congrArg Int32.toInt (ev1)
            exact (ih (n - 1) (by omega)) (t) v7  (by omega) (by first | exact oNx_step (x := x1) (y := v7) iv1 (by omega) (by omega) (by omega) | exact oNx_0 (by omega)) (by omega)
          · skip
            refine r_iconst C (oDec_at oX12_hasSquare 12 rfl) (v := k1) (by rw [qk1]; rfl) ?_
            exact r_zret C (n_bool (by omega)) (oDec_at oX12_hasSquare 13 rfl) ⟨_, rfl, ⟨by omega, by first | (intro h; exfalso; omega) | exact fun _ => oHS_of (by assumption) (by omega) (by omega) (by omega), by first | (intro h; exfalso; omega) | exact fun _ => oNS_of iv1 (by omega)⟩⟩
  refine r_iconst C (oDec_at oX12_hasSquare 0 rfl) (v := k0) (by rw [qk0]; rfl) ?_
  refine r_istore_n C (lv' := [(0, .ref (oad E 71)), (1, .int k0)]) [1, 0] (oDec_at oX12_hasSquare 1 rfl) rfl (by decide) rfl ?_
  exact (key (2000 - k0.toInt).toNat) (s) k0  (by omega) (by first | exact oNx_0 (by omega)) (by omega)
set_option maxHeartbeats 4000000 in
set_option maxRecDepth 100000 in
theorem ct_X12_dropsNots (l : Launch) (E : oE) (s : oS)   (hp0 : oQ 9999 1 s) (hp1 : 0 ≤ (s.1 71 48).toInt ∧ (s.1 71 48).toInt ≤ 6) (hp2 : (s.1 71 45).toInt + (s.1 71 47).toInt ≤ 1599) : oMet l 3 yX12_dropsNots cX12_dropsNots 1 none [(12, 45), (12, 47), (12, 48), (78, 9999)] E s [.ref (oad E 71)] (oPv (fun u => (oQ 9999 1 u) ∧ (0 ≤ (u.1 71 48).toInt ∧ (u.1 71 48).toInt ≤ 6) ∧ ((u.1 71 45).toInt + (u.1 71 47).toInt = (s.1 71 45).toInt + (s.1 71 47).toInt))) := by
  refine oMet.of (lv := [(0, .ref (oad E 71))]) (by decide +kernel) (Nat.le_of_ble_eq_true rfl) rfl (fun J C hT => ?_)
  have C : oC l 3 cX12_dropsNots RX12 1 none [(12, 45), (12, 47), (12, 48), (78, 9999)] E s (oPv (fun u => (oQ 9999 1 u) ∧ (0 ≤ (u.1 71 48).toInt ∧ (u.1 71 48).toInt ≤ 6) ∧ ((u.1 71 45).toInt + (u.1 71 47).toInt = (s.1 71 45).toInt + (s.1 71 47).toInt))) J := C
  obtain ⟨k1, qk1⟩ : ∃ z : Int32, z = 1 := ⟨_, rfl⟩
  have ek1 : k1.toInt = 1 := by rw [qk1]; rfl
  obtain ⟨k16, qk16⟩ : ∃ z : Int32, z = 16 := ⟨_, rfl⟩
  have ek16 : k16.toInt = 16 := by rw [qk16]; rfl
  have key : ∀ n : Nat, (∀ (t : oS), (oQ 9999 1 t) → (0 ≤ (t.1 71 48).toInt ∧ (t.1 71 48).toInt ≤ 6) → ((t.1 71 45).toInt + (t.1 71 47).toInt = (s.1 71 45).toInt + (s.1 71 47).toInt) → (t.1 71 47).toInt + 1 ≤ (n : Int) → J t 0 [(0, .ref (oad E 71))] []) := by
    intro n
    induction n using Nat.strongRecOn with
    | _ n ih =>
      skip
      · intro t   iv0 iv1 iv2 hmu
        refine r_ty C (fun hty => ?_)
        have hty_coded : (0 : Int) ≤ ((t).1 71 45).toInt ∧ ((t).1 71 45).toInt ≤ 1600 := hty.1 71 45
        have hty_waits : (0 : Int) ≤ ((t).1 71 47).toInt ∧ ((t).1 71 47).toInt ≤ 1700 := hty.1 71 47
        clear hty
        refine r_aload_n C (j := 0) (oDec_at oX12_dropsNots 0 rfl) rfl rfl ?_
        obtain ⟨v1, ev1⟩ : ∃ z : Int32, (t).1 71 5 = z := ⟨_, rfl⟩
        have gv1 : (t.1 71 5).toInt = v1.toInt := congrArg Int32.toInt (ev1)
        have rv1 := n_rng v1
        refine r_geti (k := 5) (lo := (-2147483648)) (hi := 2147483647) C v1 oCl12 rfl (by decide) flX12_173 rfl rfl (ev1) rfl rfl (oDec_at oX12_dropsNots 1 rfl) (fun _ _ => ?_)
        refine r_if_ne C 33 (oDec_at oX12_dropsNots 2 rfl) (by decide) (fun cd2 => ?_) (fun cd2 => ?_)
        · skip
          exact r_vret C (oDec_at oX12_dropsNots 16 rfl) ⟨rfl, ⟨iv0, by omega, by omega⟩⟩
        · skip
          refine r_aload_n C (j := 0) (oDec_at oX12_dropsNots 3 rfl) rfl rfl ?_
          refine r_bipush C (oDec_at oX12_dropsNots 4 rfl) (v := k16) (by rw [qk16]; rfl) ?_
          refine r_callVi C oCl12 rfl miX12_isOn mlX12_310 (ct_X12_isOn l E (t) k16 ) (by decide) rfl rfl rfl (Nat.le_of_ble_eq_true rfl) (oDec_at oX12_dropsNots 5 rfl) (fun r4 u3 pu3 fu3 => ?_)
          try dsimp only at pu3
          obtain ⟨pu3_0, pu3_1, pu3_2⟩ := pu3
          have hxu3 := oFr_nil fu3; subst hxu3
          have rr4 := n_rng r4
          refine r_if_eq C 33 (oDec_at oX12_dropsNots 6 rfl) (by decide) (fun cd5 => ?_) (fun cd5 => ?_)
          · skip
            clear pu3_1
            replace pu3_2 := pu3_2 (by omega)
            exact r_vret C (oDec_at oX12_dropsNots 16 rfl) ⟨rfl, ⟨iv0, by omega, by omega⟩⟩
          · skip
            replace pu3_1 := pu3_1 (by omega)
            clear pu3_2
            have ho1 := oQ_opn1 iv0 (by omega) (by omega) (by omega)
            refine r_aload_n C (j := 0) (oDec_at oX12_dropsNots 7 rfl) rfl rfl ?_
            refine r_dup C (oDec_at oX12_dropsNots 8 rfl) rfl ?_
            obtain ⟨v6, ev6⟩ : ∃ z : Int32, (t).1 71 48 = z := ⟨_, rfl⟩
            have gv6 : (t.1 71 48).toInt = v6.toInt := congrArg Int32.toInt (ev6)
            refine r_geti (k := 48) (lo := (-1)) (hi := 7) C v6 oCl12 rfl (by decide) flX12_274 rfl rfl (ev6) rfl rfl (oDec_at oX12_dropsNots 9 rfl) (fun b7 b7h => ?_)
            refine r_iconst C (oDec_at oX12_dropsNots 10 rfl) (v := k1) (by rw [qk1]; rfl) ?_
            obtain ⟨v8, ev8⟩ : ∃ z : Int32, z = v6 - k1 := ⟨_, rfl⟩
            have hv8 : v8.toInt = v6.toInt - k1.toInt := n_sub ev8 (by omega) (by omega)
            refine r_isub C v8 (oDec_at oX12_dropsNots 11 rfl) ev8 ?_
            refine r_puti (k := 48) (lo := (-1)) (hi := 7) C oCl12 rfl (by decide) flX12_274 rfl rfl rfl rfl rfl rfl rfl rfl ⟨by omega, by omega⟩ (oDec_at oX12_dropsNots 12 rfl) ?_
            refine r_pc C 26 rfl ?_
            refine r_aload_n C (j := 0) (oDec_at oX12_dropsNots 13 rfl) rfl rfl ?_
            have lk9 : (((pI t 71 48 v8)).1 71 47).toInt = (t.1 71 47).toInt := congrArg Int32.toInt ((pI_ne (a := 71) (b := 47) (c := 71) (k := 48) _ _ (Or.inr (by decide))))
            have lk10 : (((pI t 71 48 v8)).1 71 45).toInt = (t.1 71 45).toInt := congrArg Int32.toInt ((pI_ne (a := 71) (b := 45) (c := 71) (k := 48) _ _ (Or.inr (by decide))))
            have lk11 : (((pI t 71 48 v8)).1 71 47).toInt = (t.1 71 47).toInt := congrArg Int32.toInt ((pI_ne (a := 71) (b := 47) (c := 71) (k := 48) _ _ (Or.inr (by decide))))
            have lk12 : (((pI t 71 48 v8)).1 71 45).toInt = (t.1 71 45).toInt := congrArg Int32.toInt ((pI_ne (a := 71) (b := 45) (c := 71) (k := 48) _ _ (Or.inr (by decide))))
            refine r_callVv C oCl12 rfl miX12_drops mlX12_289 (ct_X12_drops l E ((pI t 71 48 v8))  (by omega) (by omega)) (by decide) rfl rfl rfl (Nat.le_of_ble_eq_true rfl) (oDec_at oX12_dropsNots 14 rfl) (fun u13 pu13 fu13 => ?_)
            try dsimp only at pu13
            try simp only [lk9, lk10, lk11, lk12] at pu13
            obtain ⟨pu13_0, pu13_1, pu13_2⟩ := pu13
            have hq15 : oQ 9999 1 (u13) := oQ_dropN iv0 (by omega) pu13_0 (by omega) (by omega) (by omega) (by omega)
            refine r_goto C (tgt := 0) (oDec_at oX12_dropsNots 15 rfl) (by decide) ?_
            have lk16 : ((u13).1 71 48).toInt = v8.toInt := congrArg Int32.toInt (((fu13 71 48 rfl).1).trans ((pI_self _ _ _ _)))
            exact (ih (n - 1) (by omega)) (u13)   hq15 (by omega) (by omega) (by omega)
  exact (key (((s).1 71 47).toInt + 1).toNat) (s)   hp0 (by omega) (by omega) (by omega)
set_option maxHeartbeats 4000000 in
set_option maxRecDepth 100000 in
theorem ct_X12_goesOnTest (l : Launch) (E : oE) (s : oS)   (hp0 : oQ 9999 1 s) (hp1 : (s.1 71 5).toInt = 0) (hp2 : 0 ≤ (s.1 71 48).toInt ∧ (s.1 71 48).toInt ≤ 6) (hp3 : (s.1 71 45).toInt + (s.1 71 47).toInt + 5 ≤ (s.1 71 2).toInt) : oMet l 4 yX12_goesOnTest cX12_goesOnTest 1 (some .boolean) [(12, 2), (12, 4), (12, 5), (12, 6), (12, 45), (12, 47), (12, 48), (78, 9999), (79, 9999)] E s [.ref (oad E 71)] (oPi (fun r u => (0 ≤ r.toInt ∧ r.toInt ≤ 1) ∧ (r.toInt = 1 → oQ 9999 0 u) ∧ (r.toInt = 0 → (oQ 9999 1 u ∧ oNQ u)) ∧ (0 ≤ (u.1 71 48).toInt ∧ (u.1 71 48).toInt ≤ 6) ∧ ((s.1 71 2).toInt - (s.1 71 45).toInt - (s.1 71 47).toInt ≤ (u.1 71 2).toInt - (u.1 71 45).toInt - (u.1 71 47).toInt) ∧ ((s.1 71 2).toInt ≤ (u.1 71 2).toInt))) := by
  refine oMet.of (lv := [(0, .ref (oad E 71))]) (by decide +kernel) (Nat.le_of_ble_eq_true rfl) rfl (fun J C hT => ?_)
  have C : oC l 4 cX12_goesOnTest RX12 1 (some .boolean) [(12, 2), (12, 4), (12, 5), (12, 6), (12, 45), (12, 47), (12, 48), (78, 9999), (79, 9999)] E s (oPi (fun r u => (0 ≤ r.toInt ∧ r.toInt ≤ 1) ∧ (r.toInt = 1 → oQ 9999 0 u) ∧ (r.toInt = 0 → (oQ 9999 1 u ∧ oNQ u)) ∧ (0 ≤ (u.1 71 48).toInt ∧ (u.1 71 48).toInt ≤ 6) ∧ ((s.1 71 2).toInt - (s.1 71 45).toInt - (s.1 71 47).toInt ≤ (u.1 71 2).toInt - (u.1 71 45).toInt - (u.1 71 47).toInt) ∧ ((s.1 71 2).toInt ≤ (u.1 71 2).toInt))) J := C
  obtain ⟨k0, qk0⟩ : ∃ z : Int32, z = 0 := ⟨_, rfl⟩
  have ek0 : k0.toInt = 0 := by rw [qk0]; rfl
  obtain ⟨k1, qk1⟩ : ∃ z : Int32, z = 1 := ⟨_, rfl⟩
  have ek1 : k1.toInt = 1 := by rw [qk1]; rfl
  obtain ⟨k14, qk14⟩ : ∃ z : Int32, z = 14 := ⟨_, rfl⟩
  have ek14 : k14.toInt = 14 := by rw [qk14]; rfl
  obtain ⟨k15, qk15⟩ : ∃ z : Int32, z = 15 := ⟨_, rfl⟩
  have ek15 : k15.toInt = 15 := by rw [qk15]; rfl
  obtain ⟨k25, qk25⟩ : ∃ z : Int32, z = 25 := ⟨_, rfl⟩
  have ek25 : k25.toInt = 25 := by rw [qk25]; rfl
  obtain ⟨k93, qk93⟩ : ∃ z : Int32, z = 93 := ⟨_, rfl⟩
  have ek93 : k93.toInt = 93 := by rw [qk93]; rfl
  have key : ∀ n : Nat, (∀ (t : oS), (oQ 9999 1 t) → ((t.1 71 5).toInt = 0) → (0 ≤ (t.1 71 48).toInt ∧ (t.1 71 48).toInt ≤ 6) → ((s.1 71 2).toInt - (s.1 71 45).toInt - (s.1 71 47).toInt ≤ (t.1 71 2).toInt - (t.1 71 45).toInt - (t.1 71 47).toInt) → ((s.1 71 2).toInt ≤ (t.1 71 2).toInt) → 4000 * (1601 - (t.1 71 2).toInt) ≤ (n : Int) → J t 0 [(0, .ref (oad E 71))] []) ∧ (∀ (t : oS), (oQ 9999 1 t) → (oHS t) → ((t.1 71 5).toInt = 0) → (0 ≤ (t.1 71 48).toInt ∧ (t.1 71 48).toInt ≤ 6) → ((s.1 71 2).toInt - (s.1 71 45).toInt - (s.1 71 47).toInt + 1 ≤ (t.1 71 2).toInt - (t.1 71 45).toInt - (t.1 71 47).toInt) → ((s.1 71 2).toInt ≤ (t.1 71 2).toInt) → 4000 * (1601 - (t.1 71 2).toInt) + 2000 + (t.1 71 47).toInt ≤ (n : Int) → J t 33 [(0, .ref (oad E 71))] []) ∧ (∀ (t : oS), (oQ 9999 1 t) → ((t.1 71 5).toInt = 0) → (0 ≤ (t.1 71 48).toInt ∧ (t.1 71 48).toInt ≤ 6) → ((s.1 71 2).toInt - (s.1 71 45).toInt - (s.1 71 47).toInt + 1 ≤ (t.1 71 2).toInt - (t.1 71 45).toInt - (t.1 71 47).toInt) → ((s.1 71 2).toInt ≤ (t.1 71 2).toInt) → (t.1 71 47).toInt + 1 ≤ (n : Int) → J t 87 [(0, .ref (oad E 71))] []) ∧ (∀ (t : oS), (oQ 9999 1 t) → ((t.1 71 5).toInt = 0) → (0 ≤ (t.1 71 48).toInt ∧ (t.1 71 48).toInt ≤ 6) → ((s.1 71 2).toInt - (s.1 71 45).toInt - (s.1 71 47).toInt + 1 ≤ (t.1 71 2).toInt - (t.1 71 45).toInt - (t.1 71 47).toInt) → ((s.1 71 2).toInt ≤ (t.1 71 2).toInt) → (t.1 71 47).toInt + 1 ≤ (n : Int) → J t 137 [(0, .ref (oad E 71))] []) := by
    intro n
    induction n using Nat.strongRecOn with
    | _ n ih =>
      refine ⟨?_, ?_, ?_, ?_⟩
      · intro t   iv0 iv1 iv2 iv3 iv4 hmu
        refine r_ty C (fun hty => ?_)
        have hty_coded : (0 : Int) ≤ ((t).1 71 45).toInt ∧ ((t).1 71 45).toInt ≤ 1600 := hty.1 71 45
        have hty_waits : (0 : Int) ≤ ((t).1 71 47).toInt ∧ ((t).1 71 47).toInt ≤ 1700 := hty.1 71 47
        have hty_at : (0 : Int) ≤ ((t).1 71 2).toInt ∧ ((t).1 71 2).toInt ≤ 1600 := hty.1 71 2
        clear hty
        refine r_aload_n C (j := 0) (oDec_at oX12_goesOnTest 0 rfl) rfl rfl ?_
        obtain ⟨v1, ev1⟩ : ∃ z : Int32, (t).1 71 5 = z := ⟨_, rfl⟩
        have gv1 : (t.1 71 5).toInt = v1.toInt := congrArg Int32.toInt (ev1)
        have rv1 := n_rng v1
        refine r_geti (k := 5) (lo := (-2147483648)) (hi := 2147483647) C v1 oCl12 rfl (by decide) flX12_173 rfl rfl (ev1) rfl rfl (oDec_at oX12_goesOnTest 1 rfl) (fun _ _ => ?_)
        refine r_if_ne C 76 (oDec_at oX12_goesOnTest 2 rfl) (by decide) (fun cd2 => ?_) (fun cd2 => ?_)
        · skip
          refine r_aload_n C (j := 0) (oDec_at oX12_goesOnTest 38 rfl) rfl rfl ?_
          refine r_aload_n C (j := 0) (oDec_at oX12_goesOnTest 39 rfl) rfl rfl ?_
          refine r_getF (k := 18) (b := 81) C oCl12 rfl (by decide) flX12_42 rfl rfl rfl (oDec_at oX12_goesOnTest 40 rfl) ?_
          have lk3 : ((t).1 71 5).toInt = v1.toInt := congrArg Int32.toInt (ev1)
          refine r_callVi C oCl12 rfl miX12_takes mlX12_200 (ct_X12_takes l E (t) 81 57 3 rfl (by decide) (by decide) rfl rfl (by omega)) (by decide) rfl rfl rfl (Nat.le_of_ble_eq_true rfl) (oDec_at oX12_goesOnTest 41 rfl) (fun r5 u4 pu4 fu4 => ?_)
          try dsimp only at pu4
          try simp only [lk3] at pu4
          obtain ⟨pu4_0, pu4_1, pu4_2⟩ := pu4
          have rr5 := n_rng r5
          refine r_if_eq C 126 (oDec_at oX12_goesOnTest 42 rfl) (by decide) (fun cd6 => ?_) (fun cd6 => ?_)
          · skip
            clear pu4_2
            refine r_aload_n C (j := 0) (oDec_at oX12_goesOnTest 64 rfl) rfl rfl ?_
            refine r_aload_n C (j := 0) (oDec_at oX12_goesOnTest 65 rfl) rfl rfl ?_
            refine r_getF (k := 17) (b := 80) C oCl12 rfl (by decide) flX12_39 rfl rfl rfl (oDec_at oX12_goesOnTest 66 rfl) ?_
            have lk7 : ((u4).1 71 5).toInt = v1.toInt := congrArg Int32.toInt (((fu4 71 5 rfl).1).trans (ev1))
            refine r_callVi C oCl12 rfl miX12_takes mlX12_200 (ct_X12_takes l E (u4) 80 56 2 rfl (by decide) (by decide) rfl rfl (by omega)) (by decide) rfl rfl rfl (Nat.le_of_ble_eq_true rfl) (oDec_at oX12_goesOnTest 67 rfl) (fun r9 u8 pu8 fu8 => ?_)
            try dsimp only at pu8
            try simp only [lk7] at pu8
            obtain ⟨pu8_0, pu8_1, pu8_2⟩ := pu8
            have rr9 := n_rng r9
            refine r_if_eq C 185 (oDec_at oX12_goesOnTest 68 rfl) (by decide) (fun cd10 => ?_) (fun cd10 => ?_)
            · skip
              clear pu8_2
              refine r_aload_n C (j := 0) (oDec_at oX12_goesOnTest 94 rfl) rfl rfl ?_
              refine r_geti (k := 5) (lo := (-2147483648)) (hi := 2147483647) C v1 oCl12 rfl (by decide) flX12_173 rfl rfl (((fu8 71 5 rfl).1).trans (((fu4 71 5 rfl).1).trans (ev1))) rfl rfl (oDec_at oX12_goesOnTest 95 rfl) (fun _ _ => ?_)
              refine r_if_ne C 208 (oDec_at oX12_goesOnTest 96 rfl) (by decide) (fun cd11 => ?_) (fun cd11 => ?_)
              · skip
                skip
                refine r_iconst C (oDec_at oX12_goesOnTest 105 rfl) (v := k0) (by rw [qk0]; rfl) ?_
                have lk12 : ((u8).1 71 48).toInt = (t.1 71 48).toInt := congrArg Int32.toInt (((fu8 71 48 rfl).1).trans ((fu4 71 48 rfl).1))
                have lk13 : ((u8).1 71 45).toInt = (t.1 71 45).toInt := congrArg Int32.toInt (((fu8 71 45 rfl).1).trans ((fu4 71 45 rfl).1))
                have lk14 : ((u8).1 71 47).toInt = (t.1 71 47).toInt := congrArg Int32.toInt (((fu8 71 47 rfl).1).trans ((fu4 71 47 rfl).1))
                exact r_zret C (n_bool (by omega)) (oDec_at oX12_goesOnTest 106 rfl) ⟨_, rfl, ⟨by omega, by first | (intro h; exfalso; omega) | exact fun _ => (by assumption), by first | (intro h; exfalso; omega) | exact fun _ => ⟨(oQ_fr fu8 rfl (oQ_fr fu4 rfl iv0)), by first | (intro hb; exfalso; omega) | exact fun _ => pu8_2 (by omega)⟩, by omega, by omega, by omega⟩⟩
              · omega
            · skip
              replace pu8_2 := pu8_2 (by omega)
              have lk15 : ((u8).1 71 5).toInt = v1.toInt := congrArg Int32.toInt (((fu8 71 5 rfl).1).trans (((fu4 71 5 rfl).1).trans (ev1)))
              have lk16 : ((u8).1 71 48).toInt = (t.1 71 48).toInt := congrArg Int32.toInt (((fu8 71 48 rfl).1).trans ((fu4 71 48 rfl).1))
              have lk17 : ((u8).1 71 45).toInt = (t.1 71 45).toInt := congrArg Int32.toInt (((fu8 71 45 rfl).1).trans ((fu4 71 45 rfl).1))
              have lk18 : ((u8).1 71 47).toInt = (t.1 71 47).toInt := congrArg Int32.toInt (((fu8 71 47 rfl).1).trans ((fu4 71 47 rfl).1))
              have lk19 : ((u8).1 71 47).toInt = (t.1 71 47).toInt := congrArg Int32.toInt (((fu8 71 47 rfl).1).trans ((fu4 71 47 rfl).1))
              exact (ih (n - 1) (by omega)).2.2.2 (u8)   (oQ_fr fu8 rfl (oQ_fr fu4 rfl iv0)) (by omega) (by omega) (by omega) (by omega) (by omega)
          · skip
            replace pu4_2 := pu4_2 (by omega)
            have lk20 : ((u4).1 71 5).toInt = v1.toInt := congrArg Int32.toInt (((fu4 71 5 rfl).1).trans (ev1))
            have lk21 : ((u4).1 71 48).toInt = (t.1 71 48).toInt := congrArg Int32.toInt ((fu4 71 48 rfl).1)
            have lk22 : ((u4).1 71 45).toInt = (t.1 71 45).toInt := congrArg Int32.toInt ((fu4 71 45 rfl).1)
            have lk23 : ((u4).1 71 47).toInt = (t.1 71 47).toInt := congrArg Int32.toInt ((fu4 71 47 rfl).1)
            have lk24 : ((u4).1 71 47).toInt = (t.1 71 47).toInt := congrArg Int32.toInt ((fu4 71 47 rfl).1)
            exact (ih (n - 1) (by omega)).2.2.1 (u4)   (oQ_fr fu4 rfl iv0) (by omega) (by omega) (by omega) (by omega) (by omega)
        · skip
          refine r_aload_n C (j := 0) (oDec_at oX12_goesOnTest 3 rfl) rfl rfl ?_
          refine r_callVi C oCl12 rfl miX12_look mlX12_185 (ct_X12_look l E (t)  ) (by decide) rfl rfl rfl (Nat.le_of_ble_eq_true rfl) (oDec_at oX12_goesOnTest 4 rfl) (fun r26 u25 pu25 fu25 => ?_)
          try dsimp only at pu25
          obtain ⟨pu25_0, pu25_1⟩ := pu25
          obtain ⟨v27, ev27⟩ : ∃ z : Int32, (u25).1 71 2 = z := ⟨_, rfl⟩
          have gv27 : (u25.1 71 2).toInt = v27.toInt := congrArg Int32.toInt ev27
          have lt28 : ((u25).1 72 ((u25).1 71 2).toNatClampNeg).toInt = (t.1 72 v27.toNatClampNeg).toInt := by rw [ev27, show (u25).1 72 v27.toNatClampNeg = t.1 72 v27.toNatClampNeg from (fu25 72 v27.toNatClampNeg rfl).1]
          have lu29 : ((u25).1 71 2).toInt = v27.toInt := congrArg Int32.toInt (ev27)
          have lu30 : ((u25).1 71 2).toInt = v27.toInt := congrArg Int32.toInt (ev27)
          have lu31 : ((u25).1 71 3).toInt = (t.1 71 3).toInt := congrArg Int32.toInt ((fu25 71 3 rfl).1)
          have rr26 := n_rng r26
          refine r_bipush C (oDec_at oX12_goesOnTest 5 rfl) (v := k93) (by rw [qk93]; rfl) ?_
          refine r_icmp_ne C 76 (oDec_at oX12_goesOnTest 6 rfl) (by decide) (fun cd32 => ?_) (fun cd32 => ?_)
          · skip
            refine r_aload_n C (j := 0) (oDec_at oX12_goesOnTest 38 rfl) rfl rfl ?_
            refine r_aload_n C (j := 0) (oDec_at oX12_goesOnTest 39 rfl) rfl rfl ?_
            refine r_getF (k := 18) (b := 81) C oCl12 rfl (by decide) flX12_42 rfl rfl rfl (oDec_at oX12_goesOnTest 40 rfl) ?_
            have lk33 : ((u25).1 71 2).toInt = v27.toInt := congrArg Int32.toInt (ev27)
            have lk34 : ((u25).1 71 2).toInt = v27.toInt := congrArg Int32.toInt (ev27)
            have lk35 : ((u25).1 71 5).toInt = v1.toInt := congrArg Int32.toInt (((fu25 71 5 rfl).1).trans (ev1))
            refine r_callVi C oCl12 rfl miX12_takes mlX12_200 (ct_X12_takes l E (u25) 81 57 3 rfl (by decide) (by decide) rfl rfl (by omega)) (by decide) rfl rfl rfl (Nat.le_of_ble_eq_true rfl) (oDec_at oX12_goesOnTest 41 rfl) (fun r37 u36 pu36 fu36 => ?_)
            try dsimp only at pu36
            try simp only [lk33, lk34, lk35] at pu36
            obtain ⟨pu36_0, pu36_1, pu36_2⟩ := pu36
            have rr37 := n_rng r37
            refine r_if_eq C 126 (oDec_at oX12_goesOnTest 42 rfl) (by decide) (fun cd38 => ?_) (fun cd38 => ?_)
            · skip
              clear pu36_2
              refine r_aload_n C (j := 0) (oDec_at oX12_goesOnTest 64 rfl) rfl rfl ?_
              refine r_aload_n C (j := 0) (oDec_at oX12_goesOnTest 65 rfl) rfl rfl ?_
              refine r_getF (k := 17) (b := 80) C oCl12 rfl (by decide) flX12_39 rfl rfl rfl (oDec_at oX12_goesOnTest 66 rfl) ?_
              have lk39 : ((u36).1 71 5).toInt = v1.toInt := congrArg Int32.toInt (((fu36 71 5 rfl).1).trans (((fu25 71 5 rfl).1).trans (ev1)))
              refine r_callVi C oCl12 rfl miX12_takes mlX12_200 (ct_X12_takes l E (u36) 80 56 2 rfl (by decide) (by decide) rfl rfl (by omega)) (by decide) rfl rfl rfl (Nat.le_of_ble_eq_true rfl) (oDec_at oX12_goesOnTest 67 rfl) (fun r41 u40 pu40 fu40 => ?_)
              try dsimp only at pu40
              try simp only [lk39] at pu40
              obtain ⟨pu40_0, pu40_1, pu40_2⟩ := pu40
              have rr41 := n_rng r41
              refine r_if_eq C 185 (oDec_at oX12_goesOnTest 68 rfl) (by decide) (fun cd42 => ?_) (fun cd42 => ?_)
              · skip
                clear pu40_2
                refine r_aload_n C (j := 0) (oDec_at oX12_goesOnTest 94 rfl) rfl rfl ?_
                refine r_geti (k := 5) (lo := (-2147483648)) (hi := 2147483647) C v1 oCl12 rfl (by decide) flX12_173 rfl rfl (((fu40 71 5 rfl).1).trans (((fu36 71 5 rfl).1).trans (((fu25 71 5 rfl).1).trans (ev1)))) rfl rfl (oDec_at oX12_goesOnTest 95 rfl) (fun _ _ => ?_)
                refine r_if_ne C 208 (oDec_at oX12_goesOnTest 96 rfl) (by decide) (fun cd43 => ?_) (fun cd43 => ?_)
                · omega
                · skip
                  refine r_aload_n C (j := 0) (oDec_at oX12_goesOnTest 97 rfl) rfl rfl ?_
                  refine r_callVi C oCl12 rfl miX12_hasSquare mlX12_331 (ct_X12_hasSquare l E (u40)  ) (by decide) rfl rfl rfl (Nat.le_of_ble_eq_true rfl) (oDec_at oX12_goesOnTest 98 rfl) (fun r45 u44 pu44 fu44 => ?_)
                  try dsimp only at pu44
                  obtain ⟨pu44_0, pu44_1, pu44_2⟩ := pu44
                  have hxu44 := oFr_nil fu44; subst hxu44
                  have rr45 := n_rng r45
                  refine r_if_eq C 208 (oDec_at oX12_goesOnTest 99 rfl) (by decide) (fun cd46 => ?_) (fun cd46 => ?_)
                  · skip
                    skip
                    refine r_iconst C (oDec_at oX12_goesOnTest 105 rfl) (v := k0) (by rw [qk0]; rfl) ?_
                    have lk47 : ((u40).1 71 48).toInt = (t.1 71 48).toInt := congrArg Int32.toInt (((fu40 71 48 rfl).1).trans (((fu36 71 48 rfl).1).trans ((fu25 71 48 rfl).1)))
                    have lk48 : ((u40).1 71 45).toInt = (t.1 71 45).toInt := congrArg Int32.toInt (((fu40 71 45 rfl).1).trans (((fu36 71 45 rfl).1).trans ((fu25 71 45 rfl).1)))
                    have lk49 : ((u40).1 71 47).toInt = (t.1 71 47).toInt := congrArg Int32.toInt (((fu40 71 47 rfl).1).trans (((fu36 71 47 rfl).1).trans ((fu25 71 47 rfl).1)))
                    exact r_zret C (n_bool (by omega)) (oDec_at oX12_goesOnTest 106 rfl) ⟨_, rfl, ⟨by omega, by first | (intro h; exfalso; omega) | exact fun _ => (by assumption), by first | (intro h; exfalso; omega) | exact fun _ => ⟨(oQ_fr fu40 rfl (oQ_fr fu36 rfl (oQ_fr fu25 rfl iv0))), by first | (intro hb; exfalso; omega) | exact fun _ => pu44_2 (by omega)⟩, by omega, by omega, by omega⟩⟩
                  · skip
                    refine r_aload_n C (j := 0) (oDec_at oX12_goesOnTest 100 rfl) rfl rfl ?_
                    refine r_iconst C (oDec_at oX12_goesOnTest 101 rfl) (v := k1) (by rw [qk1]; rfl) ?_
                    refine r_aload_n C (j := 0) (oDec_at oX12_goesOnTest 102 rfl) rfl rfl ?_
                    obtain ⟨v50, ev50⟩ : ∃ z : Int32, (u40).1 71 2 = z := ⟨_, rfl⟩
                    have gv50 : (u40.1 71 2).toInt = v50.toInt := congrArg Int32.toInt (ev50)
                    refine r_geti (k := 2) (lo := 0) (hi := 1600) C v50 oCl12 rfl (by decide) flX12_179 rfl rfl (ev50) rfl rfl (oDec_at oX12_goesOnTest 103 rfl) (fun b51 b51h => ?_)
                    have lk52 : ((u40).1 71 5).toInt = v1.toInt := congrArg Int32.toInt (((fu40 71 5 rfl).1).trans (((fu36 71 5 rfl).1).trans (((fu25 71 5 rfl).1).trans (ev1))))
                    have lk53 : ((u40).1 71 5).toInt = v1.toInt := congrArg Int32.toInt (((fu40 71 5 rfl).1).trans (((fu36 71 5 rfl).1).trans (((fu25 71 5 rfl).1).trans (ev1))))
                    refine r_callVv C oCl12 rfl miX12_fail mlX12_203 (ct_X12_fail l E (u40) k1 v50 ) (by decide) rfl rfl rfl (Nat.le_of_ble_eq_true rfl) (oDec_at oX12_goesOnTest 104 rfl) (fun u54 pu54 fu54 => ?_)
                    try dsimp only at pu54
                    try simp only [lk52, lk53] at pu54
                    obtain ⟨pu54_0, pu54_1⟩ := pu54
                    skip
                    refine r_iconst C (oDec_at oX12_goesOnTest 105 rfl) (v := k0) (by rw [qk0]; rfl) ?_
                    refine r_pc C 209 rfl ?_
                    have lk56 : ((u54).1 71 48).toInt = (t.1 71 48).toInt := congrArg Int32.toInt (((fu54 71 48 rfl).1).trans (((fu40 71 48 rfl).1).trans (((fu36 71 48 rfl).1).trans ((fu25 71 48 rfl).1))))
                    have lk57 : ((u54).1 71 2).toInt = v50.toInt := congrArg Int32.toInt (((fu54 71 2 rfl).1).trans (ev50))
                    have lk58 : ((u54).1 71 45).toInt = (t.1 71 45).toInt := congrArg Int32.toInt (((fu54 71 45 rfl).1).trans (((fu40 71 45 rfl).1).trans (((fu36 71 45 rfl).1).trans ((fu25 71 45 rfl).1))))
                    have lk59 : ((u54).1 71 47).toInt = (t.1 71 47).toInt := congrArg Int32.toInt (((fu54 71 47 rfl).1).trans (((fu40 71 47 rfl).1).trans (((fu36 71 47 rfl).1).trans ((fu25 71 47 rfl).1))))
                    have lk60 : ((u54).1 71 2).toInt = v50.toInt := congrArg Int32.toInt (((fu54 71 2 rfl).1).trans (ev50))
                    exact r_zret C (n_bool (by omega)) (oDec_at oX12_goesOnTest 106 rfl) ⟨_, rfl, ⟨by omega, by first | (intro h; exfalso; omega) | exact fun _ => (by assumption), by first | (intro h; exfalso; omega) | exact fun _ => ⟨(oQ_frb fu54 rfl (by omega) (oQ_fr fu40 rfl (oQ_fr fu36 rfl (oQ_fr fu25 rfl iv0)))), by first | (intro hb; exfalso; omega) | exact fun _ => pu54_2 (by omega)⟩, by omega, by omega, by omega⟩⟩
              · skip
                replace pu40_2 := pu40_2 (by omega)
                have lk61 : ((u40).1 71 5).toInt = v1.toInt := congrArg Int32.toInt (((fu40 71 5 rfl).1).trans (((fu36 71 5 rfl).1).trans (((fu25 71 5 rfl).1).trans (ev1))))
                have lk62 : ((u40).1 71 48).toInt = (t.1 71 48).toInt := congrArg Int32.toInt (((fu40 71 48 rfl).1).trans (((fu36 71 48 rfl).1).trans ((fu25 71 48 rfl).1)))
                have lk63 : ((u40).1 71 45).toInt = (t.1 71 45).toInt := congrArg Int32.toInt (((fu40 71 45 rfl).1).trans (((fu36 71 45 rfl).1).trans ((fu25 71 45 rfl).1)))
                have lk64 : ((u40).1 71 47).toInt = (t.1 71 47).toInt := congrArg Int32.toInt (((fu40 71 47 rfl).1).trans (((fu36 71 47 rfl).1).trans ((fu25 71 47 rfl).1)))
                have lk65 : ((u40).1 71 47).toInt = (t.1 71 47).toInt := congrArg Int32.toInt (((fu40 71 47 rfl).1).trans (((fu36 71 47 rfl).1).trans ((fu25 71 47 rfl).1)))
                exact (ih (n - 1) (by omega)).2.2.2 (u40)   (oQ_fr fu40 rfl (oQ_fr fu36 rfl (oQ_fr fu25 rfl iv0))) (by omega) (by omega) (by omega) (by omega) (by omega)
            · skip
              replace pu36_2 := pu36_2 (by omega)
              have lk66 : ((u36).1 71 5).toInt = v1.toInt := congrArg Int32.toInt (((fu36 71 5 rfl).1).trans (((fu25 71 5 rfl).1).trans (ev1)))
              have lk67 : ((u36).1 71 48).toInt = (t.1 71 48).toInt := congrArg Int32.toInt (((fu36 71 48 rfl).1).trans ((fu25 71 48 rfl).1))
              have lk68 : ((u36).1 71 45).toInt = (t.1 71 45).toInt := congrArg Int32.toInt (((fu36 71 45 rfl).1).trans ((fu25 71 45 rfl).1))
              have lk69 : ((u36).1 71 47).toInt = (t.1 71 47).toInt := congrArg Int32.toInt (((fu36 71 47 rfl).1).trans ((fu25 71 47 rfl).1))
              have lk70 : ((u36).1 71 47).toInt = (t.1 71 47).toInt := congrArg Int32.toInt (((fu36 71 47 rfl).1).trans ((fu25 71 47 rfl).1))
              exact (ih (n - 1) (by omega)).2.2.1 (u36)   (oQ_fr fu36 rfl (oQ_fr fu25 rfl iv0)) (by omega) (by omega) (by omega) (by omega) (by omega)
          · skip
            replace pu25_1 := pu25_1.resolve_left (by omega)
            refine r_aload_n C (j := 0) (oDec_at oX12_goesOnTest 7 rfl) rfl rfl ?_
            refine r_callVi C oCl12 rfl miX12_hasSquare mlX12_331 (ct_X12_hasSquare l E (u25)  ) (by decide) rfl rfl rfl (Nat.le_of_ble_eq_true rfl) (oDec_at oX12_goesOnTest 8 rfl) (fun r72 u71 pu71 fu71 => ?_)
            try dsimp only at pu71
            obtain ⟨pu71_0, pu71_1, pu71_2⟩ := pu71
            have hxu71 := oFr_nil fu71; subst hxu71
            have rr72 := n_rng r72
            refine r_if_eq C 76 (oDec_at oX12_goesOnTest 9 rfl) (by decide) (fun cd73 => ?_) (fun cd73 => ?_)
            · skip
              refine r_aload_n C (j := 0) (oDec_at oX12_goesOnTest 38 rfl) rfl rfl ?_
              refine r_aload_n C (j := 0) (oDec_at oX12_goesOnTest 39 rfl) rfl rfl ?_
              refine r_getF (k := 18) (b := 81) C oCl12 rfl (by decide) flX12_42 rfl rfl rfl (oDec_at oX12_goesOnTest 40 rfl) ?_
              have lk74 : ((u25).1 71 2).toInt = v27.toInt := congrArg Int32.toInt (ev27)
              have lk75 : ((u25).1 71 2).toInt = v27.toInt := congrArg Int32.toInt (ev27)
              have lk76 : ((u25).1 71 5).toInt = v1.toInt := congrArg Int32.toInt (((fu25 71 5 rfl).1).trans (ev1))
              refine r_callVi C oCl12 rfl miX12_takes mlX12_200 (ct_X12_takes l E (u25) 81 57 3 rfl (by decide) (by decide) rfl rfl (by omega)) (by decide) rfl rfl rfl (Nat.le_of_ble_eq_true rfl) (oDec_at oX12_goesOnTest 41 rfl) (fun r78 u77 pu77 fu77 => ?_)
              try dsimp only at pu77
              try simp only [lk74, lk75, lk76] at pu77
              obtain ⟨pu77_0, pu77_1, pu77_2⟩ := pu77
              have rr78 := n_rng r78
              refine r_if_eq C 126 (oDec_at oX12_goesOnTest 42 rfl) (by decide) (fun cd79 => ?_) (fun cd79 => ?_)
              · skip
                clear pu77_2
                refine r_aload_n C (j := 0) (oDec_at oX12_goesOnTest 64 rfl) rfl rfl ?_
                refine r_aload_n C (j := 0) (oDec_at oX12_goesOnTest 65 rfl) rfl rfl ?_
                refine r_getF (k := 17) (b := 80) C oCl12 rfl (by decide) flX12_39 rfl rfl rfl (oDec_at oX12_goesOnTest 66 rfl) ?_
                have lk80 : ((u77).1 71 5).toInt = v1.toInt := congrArg Int32.toInt (((fu77 71 5 rfl).1).trans (((fu25 71 5 rfl).1).trans (ev1)))
                refine r_callVi C oCl12 rfl miX12_takes mlX12_200 (ct_X12_takes l E (u77) 80 56 2 rfl (by decide) (by decide) rfl rfl (by omega)) (by decide) rfl rfl rfl (Nat.le_of_ble_eq_true rfl) (oDec_at oX12_goesOnTest 67 rfl) (fun r82 u81 pu81 fu81 => ?_)
                try dsimp only at pu81
                try simp only [lk80] at pu81
                obtain ⟨pu81_0, pu81_1, pu81_2⟩ := pu81
                have rr82 := n_rng r82
                refine r_if_eq C 185 (oDec_at oX12_goesOnTest 68 rfl) (by decide) (fun cd83 => ?_) (fun cd83 => ?_)
                · skip
                  clear pu81_2
                  refine r_aload_n C (j := 0) (oDec_at oX12_goesOnTest 94 rfl) rfl rfl ?_
                  refine r_geti (k := 5) (lo := (-2147483648)) (hi := 2147483647) C v1 oCl12 rfl (by decide) flX12_173 rfl rfl (((fu81 71 5 rfl).1).trans (((fu77 71 5 rfl).1).trans (((fu25 71 5 rfl).1).trans (ev1)))) rfl rfl (oDec_at oX12_goesOnTest 95 rfl) (fun _ _ => ?_)
                  refine r_if_ne C 208 (oDec_at oX12_goesOnTest 96 rfl) (by decide) (fun cd84 => ?_) (fun cd84 => ?_)
                  · omega
                  · skip
                    refine r_aload_n C (j := 0) (oDec_at oX12_goesOnTest 97 rfl) rfl rfl ?_
                    refine r_callVi C oCl12 rfl miX12_hasSquare mlX12_331 (ct_X12_hasSquare l E (u81)  ) (by decide) rfl rfl rfl (Nat.le_of_ble_eq_true rfl) (oDec_at oX12_goesOnTest 98 rfl) (fun r86 u85 pu85 fu85 => ?_)
                    try dsimp only at pu85
                    obtain ⟨pu85_0, pu85_1, pu85_2⟩ := pu85
                    have hxu85 := oFr_nil fu85; subst hxu85
                    have rr86 := n_rng r86
                    refine r_if_eq C 208 (oDec_at oX12_goesOnTest 99 rfl) (by decide) (fun cd87 => ?_) (fun cd87 => ?_)
                    · skip
                      skip
                      refine r_iconst C (oDec_at oX12_goesOnTest 105 rfl) (v := k0) (by rw [qk0]; rfl) ?_
                      have lk88 : ((u81).1 71 48).toInt = (t.1 71 48).toInt := congrArg Int32.toInt (((fu81 71 48 rfl).1).trans (((fu77 71 48 rfl).1).trans ((fu25 71 48 rfl).1)))
                      have lk89 : ((u81).1 71 45).toInt = (t.1 71 45).toInt := congrArg Int32.toInt (((fu81 71 45 rfl).1).trans (((fu77 71 45 rfl).1).trans ((fu25 71 45 rfl).1)))
                      have lk90 : ((u81).1 71 47).toInt = (t.1 71 47).toInt := congrArg Int32.toInt (((fu81 71 47 rfl).1).trans (((fu77 71 47 rfl).1).trans ((fu25 71 47 rfl).1)))
                      exact r_zret C (n_bool (by omega)) (oDec_at oX12_goesOnTest 106 rfl) ⟨_, rfl, ⟨by omega, by first | (intro h; exfalso; omega) | exact fun _ => (by assumption), by first | (intro h; exfalso; omega) | exact fun _ => ⟨(oQ_fr fu81 rfl (oQ_fr fu77 rfl (oQ_fr fu25 rfl iv0))), by first | (intro hb; exfalso; omega) | exact fun _ => pu85_2 (by omega)⟩, by omega, by omega, by omega⟩⟩
                    · skip
                      refine r_aload_n C (j := 0) (oDec_at oX12_goesOnTest 100 rfl) rfl rfl ?_
                      refine r_iconst C (oDec_at oX12_goesOnTest 101 rfl) (v := k1) (by rw [qk1]; rfl) ?_
                      refine r_aload_n C (j := 0) (oDec_at oX12_goesOnTest 102 rfl) rfl rfl ?_
                      obtain ⟨v91, ev91⟩ : ∃ z : Int32, (u81).1 71 2 = z := ⟨_, rfl⟩
                      have gv91 : (u81.1 71 2).toInt = v91.toInt := congrArg Int32.toInt (ev91)
                      refine r_geti (k := 2) (lo := 0) (hi := 1600) C v91 oCl12 rfl (by decide) flX12_179 rfl rfl (ev91) rfl rfl (oDec_at oX12_goesOnTest 103 rfl) (fun b92 b92h => ?_)
                      have lk93 : ((u81).1 71 5).toInt = v1.toInt := congrArg Int32.toInt (((fu81 71 5 rfl).1).trans (((fu77 71 5 rfl).1).trans (((fu25 71 5 rfl).1).trans (ev1))))
                      have lk94 : ((u81).1 71 5).toInt = v1.toInt := congrArg Int32.toInt (((fu81 71 5 rfl).1).trans (((fu77 71 5 rfl).1).trans (((fu25 71 5 rfl).1).trans (ev1))))
                      refine r_callVv C oCl12 rfl miX12_fail mlX12_203 (ct_X12_fail l E (u81) k1 v91 ) (by decide) rfl rfl rfl (Nat.le_of_ble_eq_true rfl) (oDec_at oX12_goesOnTest 104 rfl) (fun u95 pu95 fu95 => ?_)
                      try dsimp only at pu95
                      try simp only [lk93, lk94] at pu95
                      obtain ⟨pu95_0, pu95_1⟩ := pu95
                      skip
                      refine r_iconst C (oDec_at oX12_goesOnTest 105 rfl) (v := k0) (by rw [qk0]; rfl) ?_
                      refine r_pc C 209 rfl ?_
                      have lk97 : ((u95).1 71 48).toInt = (t.1 71 48).toInt := congrArg Int32.toInt (((fu95 71 48 rfl).1).trans (((fu81 71 48 rfl).1).trans (((fu77 71 48 rfl).1).trans ((fu25 71 48 rfl).1))))
                      have lk98 : ((u95).1 71 2).toInt = v91.toInt := congrArg Int32.toInt (((fu95 71 2 rfl).1).trans (ev91))
                      have lk99 : ((u95).1 71 45).toInt = (t.1 71 45).toInt := congrArg Int32.toInt (((fu95 71 45 rfl).1).trans (((fu81 71 45 rfl).1).trans (((fu77 71 45 rfl).1).trans ((fu25 71 45 rfl).1))))
                      have lk100 : ((u95).1 71 47).toInt = (t.1 71 47).toInt := congrArg Int32.toInt (((fu95 71 47 rfl).1).trans (((fu81 71 47 rfl).1).trans (((fu77 71 47 rfl).1).trans ((fu25 71 47 rfl).1))))
                      have lk101 : ((u95).1 71 2).toInt = v91.toInt := congrArg Int32.toInt (((fu95 71 2 rfl).1).trans (ev91))
                      exact r_zret C (n_bool (by omega)) (oDec_at oX12_goesOnTest 106 rfl) ⟨_, rfl, ⟨by omega, by first | (intro h; exfalso; omega) | exact fun _ => (by assumption), by first | (intro h; exfalso; omega) | exact fun _ => ⟨(oQ_frb fu95 rfl (by omega) (oQ_fr fu81 rfl (oQ_fr fu77 rfl (oQ_fr fu25 rfl iv0)))), by first | (intro hb; exfalso; omega) | exact fun _ => pu95_2 (by omega)⟩, by omega, by omega, by omega⟩⟩
                · skip
                  replace pu81_2 := pu81_2 (by omega)
                  have lk102 : ((u81).1 71 5).toInt = v1.toInt := congrArg Int32.toInt (((fu81 71 5 rfl).1).trans (((fu77 71 5 rfl).1).trans (((fu25 71 5 rfl).1).trans (ev1))))
                  have lk103 : ((u81).1 71 48).toInt = (t.1 71 48).toInt := congrArg Int32.toInt (((fu81 71 48 rfl).1).trans (((fu77 71 48 rfl).1).trans ((fu25 71 48 rfl).1)))
                  have lk104 : ((u81).1 71 45).toInt = (t.1 71 45).toInt := congrArg Int32.toInt (((fu81 71 45 rfl).1).trans (((fu77 71 45 rfl).1).trans ((fu25 71 45 rfl).1)))
                  have lk105 : ((u81).1 71 47).toInt = (t.1 71 47).toInt := congrArg Int32.toInt (((fu81 71 47 rfl).1).trans (((fu77 71 47 rfl).1).trans ((fu25 71 47 rfl).1)))
                  have lk106 : ((u81).1 71 47).toInt = (t.1 71 47).toInt := congrArg Int32.toInt (((fu81 71 47 rfl).1).trans (((fu77 71 47 rfl).1).trans ((fu25 71 47 rfl).1)))
                  exact (ih (n - 1) (by omega)).2.2.2 (u81)   (oQ_fr fu81 rfl (oQ_fr fu77 rfl (oQ_fr fu25 rfl iv0))) (by omega) (by omega) (by omega) (by omega) (by omega)
              · skip
                replace pu77_2 := pu77_2 (by omega)
                have lk107 : ((u77).1 71 5).toInt = v1.toInt := congrArg Int32.toInt (((fu77 71 5 rfl).1).trans (((fu25 71 5 rfl).1).trans (ev1)))
                have lk108 : ((u77).1 71 48).toInt = (t.1 71 48).toInt := congrArg Int32.toInt (((fu77 71 48 rfl).1).trans ((fu25 71 48 rfl).1))
                have lk109 : ((u77).1 71 45).toInt = (t.1 71 45).toInt := congrArg Int32.toInt (((fu77 71 45 rfl).1).trans ((fu25 71 45 rfl).1))
                have lk110 : ((u77).1 71 47).toInt = (t.1 71 47).toInt := congrArg Int32.toInt (((fu77 71 47 rfl).1).trans ((fu25 71 47 rfl).1))
                have lk111 : ((u77).1 71 47).toInt = (t.1 71 47).toInt := congrArg Int32.toInt (((fu77 71 47 rfl).1).trans ((fu25 71 47 rfl).1))
                exact (ih (n - 1) (by omega)).2.2.1 (u77)   (oQ_fr fu77 rfl (oQ_fr fu25 rfl iv0)) (by omega) (by omega) (by omega) (by omega) (by omega)
            · skip
              have hq112 : oHS (u25) := pu71_1 (by omega)
              refine r_aload_n C (j := 0) (oDec_at oX12_goesOnTest 10 rfl) rfl rfl ?_
              refine r_dup C (oDec_at oX12_goesOnTest 11 rfl) rfl ?_
              refine r_geti (k := 2) (lo := 0) (hi := 1600) C v27 oCl12 rfl (by decide) flX12_179 rfl rfl (ev27) rfl rfl (oDec_at oX12_goesOnTest 12 rfl) (fun b113 b113h => ?_)
              refine r_iconst C (oDec_at oX12_goesOnTest 13 rfl) (v := k1) (by rw [qk1]; rfl) ?_
              obtain ⟨v114, ev114⟩ : ∃ z : Int32, z = v27 + k1 := ⟨_, rfl⟩
              have hv114 : v114.toInt = v27.toInt + k1.toInt := n_add ev114 (by omega) (by omega)
              refine r_iadd C v114 (oDec_at oX12_goesOnTest 14 rfl) ev114 ?_
              refine r_puti (k := 2) (lo := 0) (hi := 1600) C oCl12 rfl (by decide) flX12_179 rfl rfl rfl rfl rfl rfl rfl rfl ⟨by omega, by omega⟩ (oDec_at oX12_goesOnTest 15 rfl) ?_
              have lk115 : (((pI u25 71 2 v114)).1 71 5).toInt = v1.toInt := congrArg Int32.toInt (((pI_ne (a := 71) (b := 5) (c := 71) (k := 2) _ _ (Or.inr (by decide)))).trans (((fu25 71 5 rfl).1).trans (ev1)))
              have lk116 : (((pI u25 71 2 v114)).1 71 48).toInt = (t.1 71 48).toInt := congrArg Int32.toInt (((pI_ne (a := 71) (b := 48) (c := 71) (k := 2) _ _ (Or.inr (by decide)))).trans ((fu25 71 48 rfl).1))
              have lk117 : (((pI u25 71 2 v114)).1 71 2).toInt = v114.toInt := congrArg Int32.toInt ((pI_self _ _ _ _))
              have lk118 : (((pI u25 71 2 v114)).1 71 45).toInt = (t.1 71 45).toInt := congrArg Int32.toInt (((pI_ne (a := 71) (b := 45) (c := 71) (k := 2) _ _ (Or.inr (by decide)))).trans ((fu25 71 45 rfl).1))
              have lk119 : (((pI u25 71 2 v114)).1 71 47).toInt = (t.1 71 47).toInt := congrArg Int32.toInt (((pI_ne (a := 71) (b := 47) (c := 71) (k := 2) _ _ (Or.inr (by decide)))).trans ((fu25 71 47 rfl).1))
              have lk120 : (((pI u25 71 2 v114)).1 71 2).toInt = v114.toInt := congrArg Int32.toInt ((pI_self _ _ _ _))
              have lk121 : (((pI u25 71 2 v114)).1 71 2).toInt = v114.toInt := congrArg Int32.toInt ((pI_self _ _ _ _))
              have lk122 : (((pI u25 71 2 v114)).1 71 47).toInt = (t.1 71 47).toInt := congrArg Int32.toInt (((pI_ne (a := 71) (b := 47) (c := 71) (k := 2) _ _ (Or.inr (by decide)))).trans ((fu25 71 47 rfl).1))
              exact (ih (n - 1) (by omega)).2.1 ((pI u25 71 2 v114))   (oQ_fr (oFr_oneI (q := 12) (m := 2) rfl (by rfl)) rfl (oQ_fr fu25 rfl iv0)) (oHS_fr (oFr_oneI (q := 12) (m := 2) rfl (by rfl)) rfl hq112) (by omega) (by omega) (by omega) (by omega) (by omega)
      · intro t   iv0 iv1 iv2 iv3 iv4 iv5 hmu
        refine r_ty C (fun hty => ?_)
        have hty_coded : (0 : Int) ≤ ((t).1 71 45).toInt ∧ ((t).1 71 45).toInt ≤ 1600 := hty.1 71 45
        have hty_waits : (0 : Int) ≤ ((t).1 71 47).toInt ∧ ((t).1 71 47).toInt ≤ 1700 := hty.1 71 47
        have hty_at : (0 : Int) ≤ ((t).1 71 2).toInt ∧ ((t).1 71 2).toInt ≤ 1600 := hty.1 71 2
        clear hty
        refine r_aload_n C (j := 0) (oDec_at oX12_goesOnTest 16 rfl) rfl rfl ?_
        refine r_bipush C (oDec_at oX12_goesOnTest 17 rfl) (v := k25) (by rw [qk25]; rfl) ?_
        refine r_callVi C oCl12 rfl miX12_isOn mlX12_310 (ct_X12_isOn l E (t) k25 ) (by decide) rfl rfl rfl (Nat.le_of_ble_eq_true rfl) (oDec_at oX12_goesOnTest 18 rfl) (fun r124 u123 pu123 fu123 => ?_)
        try dsimp only at pu123
        obtain ⟨pu123_0, pu123_1, pu123_2⟩ := pu123
        have hxu123 := oFr_nil fu123; subst hxu123
        have rr124 := n_rng r124
        refine r_if_ne C 49 (oDec_at oX12_goesOnTest 19 rfl) (by decide) (fun cd125 => ?_) (fun cd125 => ?_)
        · skip
          replace pu123_1 := pu123_1 (by omega)
          clear pu123_2
          have ho1 := oQ_opn1 iv0 (by omega) (by omega) (by omega)
          refine r_aload_n C (j := 0) (oDec_at oX12_goesOnTest 23 rfl) rfl rfl ?_
          refine r_dup C (oDec_at oX12_goesOnTest 24 rfl) rfl ?_
          obtain ⟨v126, ev126⟩ : ∃ z : Int32, (t).1 71 47 = z := ⟨_, rfl⟩
          have gv126 : (t.1 71 47).toInt = v126.toInt := congrArg Int32.toInt (ev126)
          refine r_geti (k := 47) (lo := 0) (hi := 1700) C v126 oCl12 rfl (by decide) flX12_277 rfl rfl (ev126) rfl rfl (oDec_at oX12_goesOnTest 25 rfl) (fun b127 b127h => ?_)
          refine r_iconst C (oDec_at oX12_goesOnTest 26 rfl) (v := k1) (by rw [qk1]; rfl) ?_
          obtain ⟨v128, ev128⟩ : ∃ z : Int32, z = v126 - k1 := ⟨_, rfl⟩
          have hv128 : v128.toInt = v126.toInt - k1.toInt := n_sub ev128 (by omega) (by omega)
          refine r_isub C v128 (oDec_at oX12_goesOnTest 27 rfl) ev128 ?_
          refine r_puti (k := 47) (lo := 0) (hi := 1700) C oCl12 rfl (by decide) flX12_277 rfl rfl rfl rfl rfl rfl rfl rfl ⟨by omega, by omega⟩ (oDec_at oX12_goesOnTest 28 rfl) ?_
          refine r_pc C 59 rfl ?_
          refine r_aload_n C (j := 0) (oDec_at oX12_goesOnTest 29 rfl) rfl rfl ?_
          refine r_dup C (oDec_at oX12_goesOnTest 30 rfl) rfl ?_
          obtain ⟨v129, ev129⟩ : ∃ z : Int32, ((pI t 71 47 v128)).1 71 48 = z := ⟨_, rfl⟩
          have gv129 : (t.1 71 48).toInt = v129.toInt := congrArg Int32.toInt (((pI_ne (a := 71) (b := 48) (c := 71) (k := 47) _ _ (Or.inr (by decide)))).symm.trans ev129)
          have ggv129 : (((pI t 71 47 v128)).1 71 48).toInt = v129.toInt := congrArg Int32.toInt ev129
          refine r_geti (k := 48) (lo := (-1)) (hi := 7) C v129 oCl12 rfl (by decide) flX12_274 rfl rfl (ev129) rfl rfl (oDec_at oX12_goesOnTest 31 rfl) (fun b130 b130h => ?_)
          refine r_iconst C (oDec_at oX12_goesOnTest 32 rfl) (v := k1) (by rw [qk1]; rfl) ?_
          obtain ⟨v131, ev131⟩ : ∃ z : Int32, z = v129 - k1 := ⟨_, rfl⟩
          have hv131 : v131.toInt = v129.toInt - k1.toInt := n_sub ev131 (by omega) (by omega)
          refine r_isub C v131 (oDec_at oX12_goesOnTest 33 rfl) ev131 ?_
          refine r_puti (k := 48) (lo := (-1)) (hi := 7) C oCl12 rfl (by decide) flX12_274 rfl rfl rfl rfl rfl rfl rfl rfl ⟨by omega, by omega⟩ (oDec_at oX12_goesOnTest 34 rfl) ?_
          refine r_pc C 69 rfl ?_
          have lk132 : (((pI (pI t 71 47 v128) 71 48 v131)).1 71 5).toInt = (t.1 71 5).toInt := congrArg Int32.toInt (((pI_ne (a := 71) (b := 5) (c := 71) (k := 48) _ _ (Or.inr (by decide)))).trans ((pI_ne (a := 71) (b := 5) (c := 71) (k := 47) _ _ (Or.inr (by decide)))))
          have lk133 : (((pI (pI t 71 47 v128) 71 48 v131)).1 71 47).toInt = v128.toInt := congrArg Int32.toInt (((pI_ne (a := 71) (b := 47) (c := 71) (k := 48) _ _ (Or.inr (by decide)))).trans ((pI_self _ _ _ _)))
          have lk134 : (((pI (pI t 71 47 v128) 71 48 v131)).1 71 48).toInt = v131.toInt := congrArg Int32.toInt ((pI_self _ _ _ _))
          have lk135 : (((pI (pI t 71 47 v128) 71 48 v131)).1 71 45).toInt = (t.1 71 45).toInt := congrArg Int32.toInt (((pI_ne (a := 71) (b := 45) (c := 71) (k := 48) _ _ (Or.inr (by decide)))).trans ((pI_ne (a := 71) (b := 45) (c := 71) (k := 47) _ _ (Or.inr (by decide)))))
          have hq136 : oQ 9999 1 ((pI (pI t 71 47 v128) 71 48 v131)) := oQ_pop iv0 (by omega) (by omega) (by omega) (by omega)
          refine r_aload_n C (j := 0) (oDec_at oX12_goesOnTest 35 rfl) rfl rfl ?_
          have lk137 : (((pI (pI t 71 47 v128) 71 48 v131)).1 71 48).toInt = v131.toInt := congrArg Int32.toInt ((pI_self _ _ _ _))
          have lk138 : (((pI (pI t 71 47 v128) 71 48 v131)).1 71 45).toInt = (t.1 71 45).toInt := congrArg Int32.toInt (((pI_ne (a := 71) (b := 45) (c := 71) (k := 48) _ _ (Or.inr (by decide)))).trans ((pI_ne (a := 71) (b := 45) (c := 71) (k := 47) _ _ (Or.inr (by decide)))))
          have lk139 : (((pI (pI t 71 47 v128) 71 48 v131)).1 71 47).toInt = v128.toInt := congrArg Int32.toInt (((pI_ne (a := 71) (b := 47) (c := 71) (k := 48) _ _ (Or.inr (by decide)))).trans ((pI_self _ _ _ _)))
          have lk140 : (((pI (pI t 71 47 v128) 71 48 v131)).1 71 45).toInt = (t.1 71 45).toInt := congrArg Int32.toInt (((pI_ne (a := 71) (b := 45) (c := 71) (k := 48) _ _ (Or.inr (by decide)))).trans ((pI_ne (a := 71) (b := 45) (c := 71) (k := 47) _ _ (Or.inr (by decide)))))
          have lk141 : (((pI (pI t 71 47 v128) 71 48 v131)).1 71 47).toInt = v128.toInt := congrArg Int32.toInt (((pI_ne (a := 71) (b := 47) (c := 71) (k := 48) _ _ (Or.inr (by decide)))).trans ((pI_self _ _ _ _)))
          refine r_callVv C oCl12 rfl miX12_dropsNots mlX12_325 (ct_X12_dropsNots l E ((pI (pI t 71 47 v128) 71 48 v131))  hq136 (by omega) (by omega)) (by decide) rfl rfl rfl (Nat.le_of_ble_eq_true rfl) (oDec_at oX12_goesOnTest 36 rfl) (fun u142 pu142 fu142 => ?_)
          try dsimp only at pu142
          try simp only [lk137, lk138, lk139, lk140, lk141] at pu142
          obtain ⟨pu142_0, pu142_1, pu142_2⟩ := pu142
          refine r_goto C (tgt := 0) (oDec_at oX12_goesOnTest 37 rfl) (by decide) ?_
          have lk144 : ((u142).1 71 5).toInt = (t.1 71 5).toInt := congrArg Int32.toInt (((fu142 71 5 rfl).1).trans (((pI_ne (a := 71) (b := 5) (c := 71) (k := 48) _ _ (Or.inr (by decide)))).trans ((pI_ne (a := 71) (b := 5) (c := 71) (k := 47) _ _ (Or.inr (by decide))))))
          have lk145 : ((u142).1 71 2).toInt = (t.1 71 2).toInt := congrArg Int32.toInt (((fu142 71 2 rfl).1).trans (((pI_ne (a := 71) (b := 2) (c := 71) (k := 48) _ _ (Or.inr (by decide)))).trans ((pI_ne (a := 71) (b := 2) (c := 71) (k := 47) _ _ (Or.inr (by decide))))))
          have lk146 : ((u142).1 71 2).toInt = (t.1 71 2).toInt := congrArg Int32.toInt (((fu142 71 2 rfl).1).trans (((pI_ne (a := 71) (b := 2) (c := 71) (k := 48) _ _ (Or.inr (by decide)))).trans ((pI_ne (a := 71) (b := 2) (c := 71) (k := 47) _ _ (Or.inr (by decide))))))
          have lk147 : ((u142).1 71 2).toInt = (t.1 71 2).toInt := congrArg Int32.toInt (((fu142 71 2 rfl).1).trans (((pI_ne (a := 71) (b := 2) (c := 71) (k := 48) _ _ (Or.inr (by decide)))).trans ((pI_ne (a := 71) (b := 2) (c := 71) (k := 47) _ _ (Or.inr (by decide))))))
          exact (ih (n - 1) (by omega)).1 (u142)   pu142_0 (by omega) (by omega) (by omega) (by omega) (by omega)
        · skip
          clear pu123_1
          replace pu123_2 := pu123_2 (by omega)
          have hs1 := oHS_1 iv1
          refine r_aload_n C (j := 0) (oDec_at oX12_goesOnTest 20 rfl) rfl rfl ?_
          refine r_callVv C oCl12 rfl miX12_drops mlX12_289 (ct_X12_drops l E (t)  (by omega) (by omega)) (by decide) rfl rfl rfl (Nat.le_of_ble_eq_true rfl) (oDec_at oX12_goesOnTest 21 rfl) (fun u148 pu148 fu148 => ?_)
          try dsimp only at pu148
          obtain ⟨pu148_0, pu148_1, pu148_2⟩ := pu148
          have lk150 : ((u148).1 71 5).toInt = (t.1 71 5).toInt := congrArg Int32.toInt ((fu148 71 5 rfl).1)
          have lk151 : ((u148).1 71 48).toInt = (t.1 71 48).toInt := congrArg Int32.toInt ((fu148 71 48 rfl).1)
          have hq152 : oQ 9999 1 (u148) := oQ_drop iv0 pu148_0 (by omega) (by omega) (by omega) (by omega)
          have hq153 : oHS (u148) := oHS_drop iv1 pu148_0 (by omega)
          refine r_goto C (tgt := 33) (oDec_at oX12_goesOnTest 22 rfl) (by decide) ?_
          have lk154 : ((u148).1 71 5).toInt = (t.1 71 5).toInt := congrArg Int32.toInt ((fu148 71 5 rfl).1)
          have lk155 : ((u148).1 71 48).toInt = (t.1 71 48).toInt := congrArg Int32.toInt ((fu148 71 48 rfl).1)
          have lk156 : ((u148).1 71 2).toInt = (t.1 71 2).toInt := congrArg Int32.toInt ((fu148 71 2 rfl).1)
          have lk157 : ((u148).1 71 2).toInt = (t.1 71 2).toInt := congrArg Int32.toInt ((fu148 71 2 rfl).1)
          have lk158 : ((u148).1 71 2).toInt = (t.1 71 2).toInt := congrArg Int32.toInt ((fu148 71 2 rfl).1)
          exact (ih (n - 1) (by omega)).2.1 (u148)   hq152 hq153 (by omega) (by omega) (by omega) (by omega) (by omega)
      · intro t   iv0 iv1 iv2 iv3 iv4 hmu
        refine r_ty C (fun hty => ?_)
        have hty_coded : (0 : Int) ≤ ((t).1 71 45).toInt ∧ ((t).1 71 45).toInt ≤ 1600 := hty.1 71 45
        have hty_waits : (0 : Int) ≤ ((t).1 71 47).toInt ∧ ((t).1 71 47).toInt ≤ 1700 := hty.1 71 47
        have hty_at : (0 : Int) ≤ ((t).1 71 2).toInt ∧ ((t).1 71 2).toInt ≤ 1600 := hty.1 71 2
        clear hty
        refine r_aload_n C (j := 0) (oDec_at oX12_goesOnTest 43 rfl) rfl rfl ?_
        refine r_bipush C (oDec_at oX12_goesOnTest 44 rfl) (v := k14) (by rw [qk14]; rfl) ?_
        refine r_callVi C oCl12 rfl miX12_isOn mlX12_310 (ct_X12_isOn l E (t) k14 ) (by decide) rfl rfl rfl (Nat.le_of_ble_eq_true rfl) (oDec_at oX12_goesOnTest 45 rfl) (fun r160 u159 pu159 fu159 => ?_)
        try dsimp only at pu159
        obtain ⟨pu159_0, pu159_1, pu159_2⟩ := pu159
        have hxu159 := oFr_nil fu159; subst hxu159
        have rr160 := n_rng r160
        refine r_if_eq C 103 (oDec_at oX12_goesOnTest 46 rfl) (by decide) (fun cd161 => ?_) (fun cd161 => ?_)
        · skip
          clear pu159_1
          replace pu159_2 := pu159_2 (by omega)
          refine r_aload_n C (j := 0) (oDec_at oX12_goesOnTest 50 rfl) rfl rfl ?_
          refine r_getF (k := 46) (b := 103) C oCl12 rfl (by decide) flX12_111 rfl rfl rfl (oDec_at oX12_goesOnTest 51 rfl) ?_
          refine r_aload_n C (j := 0) (oDec_at oX12_goesOnTest 52 rfl) rfl rfl ?_
          obtain ⟨v162, ev162⟩ : ∃ z : Int32, (t).1 71 47 = z := ⟨_, rfl⟩
          have gv162 : (t.1 71 47).toInt = v162.toInt := congrArg Int32.toInt (ev162)
          refine r_geti (k := 47) (lo := 0) (hi := 1700) C v162 oCl12 rfl (by decide) flX12_277 rfl rfl (ev162) rfl rfl (oDec_at oX12_goesOnTest 53 rfl) (fun b163 b163h => ?_)
          refine r_bipush C (oDec_at oX12_goesOnTest 54 rfl) (v := k14) (by rw [qk14]; rfl) ?_
          refine r_iast (n := 1700) (lo := (-2147483648)) (hi := 2147483647) C rfl (by decide) rfl rfl ⟨by omega, by omega⟩ (by decide) rfl rfl rfl rfl (n_rng _) (oDec_at oX12_goesOnTest 55 rfl) ?_
          refine r_pc C 114 rfl ?_
          refine r_aload_n C (j := 0) (oDec_at oX12_goesOnTest 56 rfl) rfl rfl ?_
          refine r_dup C (oDec_at oX12_goesOnTest 57 rfl) rfl ?_
          refine r_geti (k := 47) (lo := 0) (hi := 1700) C v162 oCl12 rfl (by decide) flX12_277 rfl rfl (((pI_ne (a := 71) (b := 47) (c := 103) _ _ (Or.inl (by decide)))).trans (ev162)) rfl rfl (oDec_at oX12_goesOnTest 58 rfl) (fun _ _ => ?_)
          refine r_iconst C (oDec_at oX12_goesOnTest 59 rfl) (v := k1) (by rw [qk1]; rfl) ?_
          obtain ⟨v164, ev164⟩ : ∃ z : Int32, z = v162 + k1 := ⟨_, rfl⟩
          have hv164 : v164.toInt = v162.toInt + k1.toInt := n_add ev164 (by omega) (by omega)
          refine r_iadd C v164 (oDec_at oX12_goesOnTest 60 rfl) ev164 ?_
          refine r_puti (k := 47) (lo := 0) (hi := 1700) C oCl12 rfl (by decide) flX12_277 rfl rfl rfl rfl rfl rfl rfl rfl ⟨by omega, by omega⟩ (oDec_at oX12_goesOnTest 61 rfl) ?_
          refine r_pc C 124 rfl ?_
          have hq165 : oQ 9999 0 ((pI (pI t 103 v162.toNatClampNeg k14) 71 47 v164)) := oQ_push (x := 0) iv0 (by assumption) (by omega) (by omega) (by omega)
          refine r_iconst C (oDec_at oX12_goesOnTest 62 rfl) (v := k1) (by rw [qk1]; rfl) ?_
          have lk166 : (((pI (pI t 103 v162.toNatClampNeg k14) 71 47 v164)).1 71 48).toInt = (t.1 71 48).toInt := congrArg Int32.toInt (((pI_ne (a := 71) (b := 48) (c := 71) (k := 47) _ _ (Or.inr (by decide)))).trans ((pI_ne (a := 71) (b := 48) (c := 103) _ _ (Or.inl (by decide)))))
          have lk167 : (((pI (pI t 103 v162.toNatClampNeg k14) 71 47 v164)).1 71 2).toInt = (t.1 71 2).toInt := congrArg Int32.toInt (((pI_ne (a := 71) (b := 2) (c := 71) (k := 47) _ _ (Or.inr (by decide)))).trans ((pI_ne (a := 71) (b := 2) (c := 103) _ _ (Or.inl (by decide)))))
          have lk168 : (((pI (pI t 103 v162.toNatClampNeg k14) 71 47 v164)).1 71 45).toInt = (t.1 71 45).toInt := congrArg Int32.toInt (((pI_ne (a := 71) (b := 45) (c := 71) (k := 47) _ _ (Or.inr (by decide)))).trans ((pI_ne (a := 71) (b := 45) (c := 103) _ _ (Or.inl (by decide)))))
          have lk169 : (((pI (pI t 103 v162.toNatClampNeg k14) 71 47 v164)).1 71 47).toInt = v164.toInt := congrArg Int32.toInt ((pI_self _ _ _ _))
          have lk170 : (((pI (pI t 103 v162.toNatClampNeg k14) 71 47 v164)).1 71 2).toInt = (t.1 71 2).toInt := congrArg Int32.toInt (((pI_ne (a := 71) (b := 2) (c := 71) (k := 47) _ _ (Or.inr (by decide)))).trans ((pI_ne (a := 71) (b := 2) (c := 103) _ _ (Or.inl (by decide)))))
          exact r_zret C (n_bool (by omega)) (oDec_at oX12_goesOnTest 63 rfl) ⟨_, rfl, ⟨by omega, by first | (intro h; exfalso; omega) | exact fun _ => hq165, by first | (intro h; exfalso; omega) | exact fun _ => ⟨(by assumption), by first | (intro hb; exfalso; omega) | exact fun _ => pu159_2 (by omega)⟩, by omega, by omega, by omega⟩⟩
        · skip
          replace pu159_1 := pu159_1 (by omega)
          clear pu159_2
          refine r_aload_n C (j := 0) (oDec_at oX12_goesOnTest 47 rfl) rfl rfl ?_
          refine r_callVv C oCl12 rfl miX12_drops mlX12_289 (ct_X12_drops l E (t)  (by omega) (by omega)) (by decide) rfl rfl rfl (Nat.le_of_ble_eq_true rfl) (oDec_at oX12_goesOnTest 48 rfl) (fun u171 pu171 fu171 => ?_)
          try dsimp only at pu171
          obtain ⟨pu171_0, pu171_1, pu171_2⟩ := pu171
          have hq173 : oQ 9999 1 (u171) := oQ_drop iv0 pu171_0 (by omega) (by omega) (by omega) (by omega)
          refine r_goto C (tgt := 87) (oDec_at oX12_goesOnTest 49 rfl) (by decide) ?_
          have lk174 : ((u171).1 71 5).toInt = (t.1 71 5).toInt := congrArg Int32.toInt ((fu171 71 5 rfl).1)
          have lk175 : ((u171).1 71 48).toInt = (t.1 71 48).toInt := congrArg Int32.toInt ((fu171 71 48 rfl).1)
          have lk176 : ((u171).1 71 2).toInt = (t.1 71 2).toInt := congrArg Int32.toInt ((fu171 71 2 rfl).1)
          have lk177 : ((u171).1 71 2).toInt = (t.1 71 2).toInt := congrArg Int32.toInt ((fu171 71 2 rfl).1)
          exact (ih (n - 1) (by omega)).2.2.1 (u171)   hq173 (by omega) (by omega) (by omega) (by omega) (by omega)
      · intro t   iv0 iv1 iv2 iv3 iv4 hmu
        refine r_ty C (fun hty => ?_)
        have hty_coded : (0 : Int) ≤ ((t).1 71 45).toInt ∧ ((t).1 71 45).toInt ≤ 1600 := hty.1 71 45
        have hty_waits : (0 : Int) ≤ ((t).1 71 47).toInt ∧ ((t).1 71 47).toInt ≤ 1700 := hty.1 71 47
        have hty_at : (0 : Int) ≤ ((t).1 71 2).toInt ∧ ((t).1 71 2).toInt ≤ 1600 := hty.1 71 2
        clear hty
        refine r_aload_n C (j := 0) (oDec_at oX12_goesOnTest 69 rfl) rfl rfl ?_
        refine r_bipush C (oDec_at oX12_goesOnTest 70 rfl) (v := k14) (by rw [qk14]; rfl) ?_
        refine r_callVi C oCl12 rfl miX12_isOn mlX12_310 (ct_X12_isOn l E (t) k14 ) (by decide) rfl rfl rfl (Nat.le_of_ble_eq_true rfl) (oDec_at oX12_goesOnTest 71 rfl) (fun r179 u178 pu178 fu178 => ?_)
        try dsimp only at pu178
        obtain ⟨pu178_0, pu178_1, pu178_2⟩ := pu178
        have hxu178 := oFr_nil fu178; subst hxu178
        have rr179 := n_rng r179
        refine r_if_ne C 155 (oDec_at oX12_goesOnTest 72 rfl) (by decide) (fun cd180 => ?_) (fun cd180 => ?_)
        · skip
          replace pu178_1 := pu178_1 (by omega)
          clear pu178_2
          refine r_aload_n C (j := 0) (oDec_at oX12_goesOnTest 77 rfl) rfl rfl ?_
          refine r_callVv C oCl12 rfl miX12_drops mlX12_289 (ct_X12_drops l E (t)  (by omega) (by omega)) (by decide) rfl rfl rfl (Nat.le_of_ble_eq_true rfl) (oDec_at oX12_goesOnTest 78 rfl) (fun u181 pu181 fu181 => ?_)
          try dsimp only at pu181
          obtain ⟨pu181_0, pu181_1, pu181_2⟩ := pu181
          have hq183 : oQ 9999 1 (u181) := oQ_drop iv0 pu181_0 (by omega) (by omega) (by omega) (by omega)
          refine r_goto C (tgt := 137) (oDec_at oX12_goesOnTest 79 rfl) (by decide) ?_
          have lk184 : ((u181).1 71 5).toInt = (t.1 71 5).toInt := congrArg Int32.toInt ((fu181 71 5 rfl).1)
          have lk185 : ((u181).1 71 48).toInt = (t.1 71 48).toInt := congrArg Int32.toInt ((fu181 71 48 rfl).1)
          have lk186 : ((u181).1 71 2).toInt = (t.1 71 2).toInt := congrArg Int32.toInt ((fu181 71 2 rfl).1)
          have lk187 : ((u181).1 71 2).toInt = (t.1 71 2).toInt := congrArg Int32.toInt ((fu181 71 2 rfl).1)
          exact (ih (n - 1) (by omega)).2.2.2 (u181)   hq183 (by omega) (by omega) (by omega) (by omega) (by omega)
        · skip
          clear pu178_1
          replace pu178_2 := pu178_2 (by omega)
          refine r_aload_n C (j := 0) (oDec_at oX12_goesOnTest 73 rfl) rfl rfl ?_
          refine r_bipush C (oDec_at oX12_goesOnTest 74 rfl) (v := k15) (by rw [qk15]; rfl) ?_
          refine r_callVi C oCl12 rfl miX12_isOn mlX12_310 (ct_X12_isOn l E (t) k15 ) (by decide) rfl rfl rfl (Nat.le_of_ble_eq_true rfl) (oDec_at oX12_goesOnTest 75 rfl) (fun r189 u188 pu188 fu188 => ?_)
          try dsimp only at pu188
          obtain ⟨pu188_0, pu188_1, pu188_2⟩ := pu188
          have hxu188 := oFr_nil fu188; subst hxu188
          have rr189 := n_rng r189
          refine r_if_eq C 162 (oDec_at oX12_goesOnTest 76 rfl) (by decide) (fun cd190 => ?_) (fun cd190 => ?_)
          · skip
            clear pu188_1
            replace pu188_2 := pu188_2 (by omega)
            refine r_aload_n C (j := 0) (oDec_at oX12_goesOnTest 80 rfl) rfl rfl ?_
            refine r_getF (k := 46) (b := 103) C oCl12 rfl (by decide) flX12_111 rfl rfl rfl (oDec_at oX12_goesOnTest 81 rfl) ?_
            refine r_aload_n C (j := 0) (oDec_at oX12_goesOnTest 82 rfl) rfl rfl ?_
            obtain ⟨v191, ev191⟩ : ∃ z : Int32, (t).1 71 47 = z := ⟨_, rfl⟩
            have gv191 : (t.1 71 47).toInt = v191.toInt := congrArg Int32.toInt (ev191)
            refine r_geti (k := 47) (lo := 0) (hi := 1700) C v191 oCl12 rfl (by decide) flX12_277 rfl rfl (ev191) rfl rfl (oDec_at oX12_goesOnTest 83 rfl) (fun b192 b192h => ?_)
            refine r_bipush C (oDec_at oX12_goesOnTest 84 rfl) (v := k15) (by rw [qk15]; rfl) ?_
            refine r_iast (n := 1700) (lo := (-2147483648)) (hi := 2147483647) C rfl (by decide) rfl rfl ⟨by omega, by omega⟩ (by decide) rfl rfl rfl rfl (n_rng _) (oDec_at oX12_goesOnTest 85 rfl) ?_
            refine r_pc C 173 rfl ?_
            refine r_aload_n C (j := 0) (oDec_at oX12_goesOnTest 86 rfl) rfl rfl ?_
            refine r_dup C (oDec_at oX12_goesOnTest 87 rfl) rfl ?_
            refine r_geti (k := 47) (lo := 0) (hi := 1700) C v191 oCl12 rfl (by decide) flX12_277 rfl rfl (((pI_ne (a := 71) (b := 47) (c := 103) _ _ (Or.inl (by decide)))).trans (ev191)) rfl rfl (oDec_at oX12_goesOnTest 88 rfl) (fun _ _ => ?_)
            refine r_iconst C (oDec_at oX12_goesOnTest 89 rfl) (v := k1) (by rw [qk1]; rfl) ?_
            obtain ⟨v193, ev193⟩ : ∃ z : Int32, z = v191 + k1 := ⟨_, rfl⟩
            have hv193 : v193.toInt = v191.toInt + k1.toInt := n_add ev193 (by omega) (by omega)
            refine r_iadd C v193 (oDec_at oX12_goesOnTest 90 rfl) ev193 ?_
            refine r_puti (k := 47) (lo := 0) (hi := 1700) C oCl12 rfl (by decide) flX12_277 rfl rfl rfl rfl rfl rfl rfl rfl ⟨by omega, by omega⟩ (oDec_at oX12_goesOnTest 91 rfl) ?_
            refine r_pc C 183 rfl ?_
            have hq194 : oQ 9999 0 ((pI (pI t 103 v191.toNatClampNeg k15) 71 47 v193)) := oQ_push (x := 0) iv0 (by assumption) (by omega) (by omega) (by omega)
            refine r_iconst C (oDec_at oX12_goesOnTest 92 rfl) (v := k1) (by rw [qk1]; rfl) ?_
            have lk195 : (((pI (pI t 103 v191.toNatClampNeg k15) 71 47 v193)).1 71 48).toInt = (t.1 71 48).toInt := congrArg Int32.toInt (((pI_ne (a := 71) (b := 48) (c := 71) (k := 47) _ _ (Or.inr (by decide)))).trans ((pI_ne (a := 71) (b := 48) (c := 103) _ _ (Or.inl (by decide)))))
            have lk196 : (((pI (pI t 103 v191.toNatClampNeg k15) 71 47 v193)).1 71 2).toInt = (t.1 71 2).toInt := congrArg Int32.toInt (((pI_ne (a := 71) (b := 2) (c := 71) (k := 47) _ _ (Or.inr (by decide)))).trans ((pI_ne (a := 71) (b := 2) (c := 103) _ _ (Or.inl (by decide)))))
            have lk197 : (((pI (pI t 103 v191.toNatClampNeg k15) 71 47 v193)).1 71 45).toInt = (t.1 71 45).toInt := congrArg Int32.toInt (((pI_ne (a := 71) (b := 45) (c := 71) (k := 47) _ _ (Or.inr (by decide)))).trans ((pI_ne (a := 71) (b := 45) (c := 103) _ _ (Or.inl (by decide)))))
            have lk198 : (((pI (pI t 103 v191.toNatClampNeg k15) 71 47 v193)).1 71 47).toInt = v193.toInt := congrArg Int32.toInt ((pI_self _ _ _ _))
            have lk199 : (((pI (pI t 103 v191.toNatClampNeg k15) 71 47 v193)).1 71 2).toInt = (t.1 71 2).toInt := congrArg Int32.toInt (((pI_ne (a := 71) (b := 2) (c := 71) (k := 47) _ _ (Or.inr (by decide)))).trans ((pI_ne (a := 71) (b := 2) (c := 103) _ _ (Or.inl (by decide)))))
            exact r_zret C (n_bool (by omega)) (oDec_at oX12_goesOnTest 93 rfl) ⟨_, rfl, ⟨by omega, by first | (intro h; exfalso; omega) | exact fun _ => hq194, by first | (intro h; exfalso; omega) | exact fun _ => ⟨(by assumption), by first | (intro hb; exfalso; omega) | exact fun _ => pu188_2 (by omega)⟩, by omega, by omega, by omega⟩⟩
          · skip
            replace pu188_1 := pu188_1 (by omega)
            clear pu188_2
            refine r_aload_n C (j := 0) (oDec_at oX12_goesOnTest 77 rfl) rfl rfl ?_
            refine r_callVv C oCl12 rfl miX12_drops mlX12_289 (ct_X12_drops l E (t)  (by omega) (by omega)) (by decide) rfl rfl rfl (Nat.le_of_ble_eq_true rfl) (oDec_at oX12_goesOnTest 78 rfl) (fun u200 pu200 fu200 => ?_)
            try dsimp only at pu200
            obtain ⟨pu200_0, pu200_1, pu200_2⟩ := pu200
            have hq202 : oQ 9999 1 (u200) := oQ_drop iv0 pu200_0 (by omega) (by omega) (by omega) (by omega)
            refine r_goto C (tgt := 137) (oDec_at oX12_goesOnTest 79 rfl) (by decide) ?_
            have lk203 : ((u200).1 71 5).toInt = (t.1 71 5).toInt := congrArg Int32.toInt ((fu200 71 5 rfl).1)
            have lk204 : ((u200).1 71 48).toInt = (t.1 71 48).toInt := congrArg Int32.toInt ((fu200 71 48 rfl).1)
            have lk205 : ((u200).1 71 2).toInt = (t.1 71 2).toInt := congrArg Int32.toInt ((fu200 71 2 rfl).1)
            have lk206 : ((u200).1 71 2).toInt = (t.1 71 2).toInt := congrArg Int32.toInt ((fu200 71 2 rfl).1)
            exact (ih (n - 1) (by omega)).2.2.2 (u200)   hq202 (by omega) (by omega) (by omega) (by omega) (by omega)
  exact (key (4000 * (1601 - ((s).1 71 2).toInt)).toNat).1 (s)   hp0 (by omega) (by omega) (by omega) (by omega) (by omega)
set_option maxHeartbeats 4000000 in
set_option maxRecDepth 100000 in
theorem ct_X12_test (l : Launch) (E : oE) (s : oS)   (hp0 : oQ 9999 0 s) (hp1 : (s.1 71 5).toInt = 0) (hp2 : 0 ≤ (s.1 71 48).toInt ∧ (s.1 71 48).toInt ≤ 6) (hp3 : (s.1 71 45).toInt + (s.1 71 47).toInt + 5 ≤ (s.1 71 2).toInt) : oMet l 8 yX12_test cX12_test 3 none [(12, 2), (12, 4), (12, 5), (12, 6), (12, 9), (12, 45), (12, 47), (12, 48), (12, 55), (78, 9999), (79, 9999)] E s [.ref (oad E 71)] (oPv (fun u => (oQ 9999 1 u) ∧ ((s.1 71 2).toInt - (s.1 71 45).toInt - (s.1 71 47).toInt ≤ (u.1 71 2).toInt - (u.1 71 45).toInt - (u.1 71 47).toInt + 2) ∧ ((u.1 71 5).toInt = 0 → (s.1 71 2).toInt - (s.1 71 45).toInt - (s.1 71 47).toInt ≤ (u.1 71 2).toInt - (u.1 71 45).toInt - (u.1 71 47).toInt) ∧ ((s.1 71 2).toInt ≤ (u.1 71 2).toInt))) := by
  refine oMet.of (lv := [(0, .ref (oad E 71))]) (by decide +kernel) (Nat.le_of_ble_eq_true rfl) rfl (fun J C hT => ?_)
  have C : oC l 8 cX12_test RX12 3 none [(12, 2), (12, 4), (12, 5), (12, 6), (12, 9), (12, 45), (12, 47), (12, 48), (12, 55), (78, 9999), (79, 9999)] E s (oPv (fun u => (oQ 9999 1 u) ∧ ((s.1 71 2).toInt - (s.1 71 45).toInt - (s.1 71 47).toInt ≤ (u.1 71 2).toInt - (u.1 71 45).toInt - (u.1 71 47).toInt + 2) ∧ ((u.1 71 5).toInt = 0 → (s.1 71 2).toInt - (s.1 71 45).toInt - (s.1 71 47).toInt ≤ (u.1 71 2).toInt - (u.1 71 45).toInt - (u.1 71 47).toInt) ∧ ((s.1 71 2).toInt ≤ (u.1 71 2).toInt))) J := C
  obtain ⟨k0, qk0⟩ : ∃ z : Int32, z = 0 := ⟨_, rfl⟩
  have ek0 : k0.toInt = 0 := by rw [qk0]; rfl
  obtain ⟨k1, qk1⟩ : ∃ z : Int32, z = 1 := ⟨_, rfl⟩
  have ek1 : k1.toInt = 1 := by rw [qk1]; rfl
  obtain ⟨k16, qk16⟩ : ∃ z : Int32, z = 16 := ⟨_, rfl⟩
  have ek16 : k16.toInt = 16 := by rw [qk16]; rfl
  obtain ⟨k25, qk25⟩ : ∃ z : Int32, z = 25 := ⟨_, rfl⟩
  have ek25 : k25.toInt = 25 := by rw [qk25]; rfl
  obtain ⟨k91, qk91⟩ : ∃ z : Int32, z = 91 := ⟨_, rfl⟩
  have ek91 : k91.toInt = 91 := by rw [qk91]; rfl
  have key : ∀ n : Nat, (∀ (t : oS) (x1 : Int32), (x1.toInt = 1 → oQ 9999 0 t) → (x1.toInt = 0 → (oQ 9999 1 t ∧ oNQ t)) → (0 ≤ x1.toInt ∧ x1.toInt ≤ 1) → (0 ≤ (t.1 71 48).toInt ∧ (t.1 71 48).toInt ≤ 6) → ((s.1 71 2).toInt - (s.1 71 45).toInt - (s.1 71 47).toInt ≤ (t.1 71 2).toInt - (t.1 71 45).toInt - (t.1 71 47).toInt + 2) → ((t.1 71 5).toInt = 0 → (s.1 71 2).toInt - (s.1 71 45).toInt - (s.1 71 47).toInt ≤ (t.1 71 2).toInt - (t.1 71 45).toInt - (t.1 71 47).toInt) → ((s.1 71 2).toInt ≤ (t.1 71 2).toInt) → 4000 * (1602 - (t.1 71 2).toInt) + 10 * x1.toInt + 100 * oB1 (t.1 71 5) ≤ (n : Int) → J t 2 [(0, .ref (oad E 71)), (1, .int x1)] []) ∧ (∀ (t : oS), (oQ 9999 1 t) → (oNQ t) → ((s.1 71 2).toInt - (s.1 71 45).toInt - (s.1 71 47).toInt ≤ (t.1 71 2).toInt - (t.1 71 45).toInt - (t.1 71 47).toInt + 2) → ((t.1 71 5).toInt = 0 → (s.1 71 2).toInt - (s.1 71 45).toInt - (s.1 71 47).toInt ≤ (t.1 71 2).toInt - (t.1 71 45).toInt - (t.1 71 47).toInt) → ((s.1 71 2).toInt ≤ (t.1 71 2).toInt) → (t.1 71 47).toInt + 1 ≤ (n : Int) → J t 110 [(0, .ref (oad E 71))] []) := by
    intro n
    induction n using Nat.strongRecOn with
    | _ n ih =>
      refine ⟨?_, ?_⟩
      · intro t x1  iv0 iv1 iv2 iv3 iv4 iv5 iv6 hmu
        have rx1 := n_rng x1
        have hjn := oB1_nn (t.1 71 5)
        refine r_ty C (fun hty => ?_)
        have hty_coded : (0 : Int) ≤ ((t).1 71 45).toInt ∧ ((t).1 71 45).toInt ≤ 1600 := hty.1 71 45
        have hty_waits : (0 : Int) ≤ ((t).1 71 47).toInt ∧ ((t).1 71 47).toInt ≤ 1700 := hty.1 71 47
        have hty_at : (0 : Int) ≤ ((t).1 71 2).toInt ∧ ((t).1 71 2).toInt ≤ 1600 := hty.1 71 2
        clear hty
        refine r_iload_n C (j := 1) (oDec_at oX12_test 2 rfl) rfl rfl ?_
        refine r_if_eq C 110 (oDec_at oX12_test 3 rfl) (by decide) (fun cd1 => ?_) (fun cd1 => ?_)
        · skip
          refine r_pick C [0] rfl ?_
          exact (ih (n - 1) (by omega)).2 (t)   (by first | exact (by assumption) | exact (iv1 (by omega)).1 | exact oQ_bad (iv0 (by omega)) (by omega)) (by first | exact (by assumption) | exact (iv1 (by omega)).2 | exact fun hb => by exfalso; omega) (by omega) (by omega) (by omega) (by omega)
        · skip
          refine r_aload_n C (j := 0) (oDec_at oX12_test 4 rfl) rfl rfl ?_
          obtain ⟨v2, ev2⟩ : ∃ z : Int32, (t).1 71 5 = z := ⟨_, rfl⟩
          have gv2 : (t.1 71 5).toInt = v2.toInt := congrArg Int32.toInt (ev2)
          have rv2 := n_rng v2
          refine r_geti (k := 5) (lo := (-2147483648)) (hi := 2147483647) C v2 oCl12 rfl (by decide) flX12_173 rfl rfl (ev2) rfl rfl (oDec_at oX12_test 5 rfl) (fun _ _ => ?_)
          refine r_if_ne C 110 (oDec_at oX12_test 6 rfl) (by decide) (fun cd3 => ?_) (fun cd3 => ?_)
          · skip
            have lk4 : ((t).1 71 5).toInt = v2.toInt := congrArg Int32.toInt (ev2)
            refine r_pick C [0] rfl ?_
            exact (ih (n - 1) (by omega)).2 (t)   (by first | exact (by assumption) | exact (iv1 (by omega)).1 | exact oQ_bad (iv0 (by omega)) (by omega)) (by first | exact (by assumption) | exact (iv1 (by omega)).2 | exact fun hb => by exfalso; omega) (by omega) (by omega) (by omega) (by omega)
          · skip
            have hj0 := oB1_0 (x := t.1 71 5) (by omega)
            have hq5 : oQ 9999 0 (t) := iv0 (by omega)
            refine r_aload_n C (j := 0) (oDec_at oX12_test 7 rfl) rfl rfl ?_
            refine r_callVi C oCl12 rfl miX12_look mlX12_185 (ct_X12_look l E (t)  ) (by decide) rfl rfl rfl (Nat.le_of_ble_eq_true rfl) (oDec_at oX12_test 8 rfl) (fun r7 u6 pu6 fu6 => ?_)
            try dsimp only at pu6
            obtain ⟨pu6_0, pu6_1⟩ := pu6
            obtain ⟨v8, ev8⟩ : ∃ z : Int32, (u6).1 71 2 = z := ⟨_, rfl⟩
            have gv8 : (u6.1 71 2).toInt = v8.toInt := congrArg Int32.toInt ev8
            have lt9 : ((u6).1 72 ((u6).1 71 2).toNatClampNeg).toInt = (t.1 72 v8.toNatClampNeg).toInt := by rw [ev8, show (u6).1 72 v8.toNatClampNeg = t.1 72 v8.toNatClampNeg from (fu6 72 v8.toNatClampNeg rfl).1]
            have lu10 : ((u6).1 71 2).toInt = v8.toInt := congrArg Int32.toInt (ev8)
            have lu11 : ((u6).1 71 2).toInt = v8.toInt := congrArg Int32.toInt (ev8)
            have lu12 : ((u6).1 71 3).toInt = (t.1 71 3).toInt := congrArg Int32.toInt ((fu6 71 3 rfl).1)
            have rr7 := n_rng r7
            refine r_istore_n C (lv' := [(0, .ref (oad E 71)), (1, .int x1), (2, .int r7)]) [1, 2, 0] (oDec_at oX12_test 9 rfl) rfl (by decide) rfl ?_
            refine r_iload_n C (j := 2) (oDec_at oX12_test 10 rfl) rfl rfl ?_
            refine r_bipush C (oDec_at oX12_test 11 rfl) (v := k91) (by rw [qk91]; rfl) ?_
            refine r_icmp_ne C 47 (oDec_at oX12_test 12 rfl) (by decide) (fun cd13 => ?_) (fun cd13 => ?_)
            · skip
              refine r_aload_n C (j := 0) (oDec_at oX12_test 25 rfl) rfl rfl ?_
              refine r_aload_n C (j := 0) (oDec_at oX12_test 26 rfl) rfl rfl ?_
              refine r_getF (k := 19) (b := 82) C oCl12 rfl (by decide) flX12_45 rfl rfl rfl (oDec_at oX12_test 27 rfl) ?_
              have lk14 : ((u6).1 71 2).toInt = v8.toInt := congrArg Int32.toInt (ev8)
              have lk15 : ((u6).1 71 5).toInt = v2.toInt := congrArg Int32.toInt (((fu6 71 5 rfl).1).trans (ev2))
              refine r_callVi C oCl12 rfl miX12_isHere mlX12_196 (ct_X12_isHere l E (u6) 82 58 3 rfl (by decide) (by decide) rfl rfl (by omega)) (by decide) rfl rfl rfl (Nat.le_of_ble_eq_true rfl) (oDec_at oX12_test 28 rfl) (fun r17 u16 pu16 fu16 => ?_)
              try dsimp only at pu16
              try simp only [lk14, lk15] at pu16
              obtain ⟨pu16_0, pu16_1, pu16_2⟩ := pu16
              have rr17 := n_rng r17
              refine r_if_eq C 79 (oDec_at oX12_test 29 rfl) (by decide) (fun cd18 => ?_) (fun cd18 => ?_)
              · skip
                clear pu16_2
                refine r_aload_n C (j := 0) (oDec_at oX12_test 40 rfl) rfl rfl ?_
                have lk19 : ((u16).1 71 5).toInt = v2.toInt := congrArg Int32.toInt (((fu16 71 5 rfl).1).trans (((fu6 71 5 rfl).1).trans (ev2)))
                have lk20 : ((u16).1 71 48).toInt = (t.1 71 48).toInt := congrArg Int32.toInt (((fu16 71 48 rfl).1).trans ((fu6 71 48 rfl).1))
                have lk21 : ((u16).1 71 45).toInt = (t.1 71 45).toInt := congrArg Int32.toInt (((fu16 71 45 rfl).1).trans ((fu6 71 45 rfl).1))
                have lk22 : ((u16).1 71 47).toInt = (t.1 71 47).toInt := congrArg Int32.toInt (((fu16 71 47 rfl).1).trans ((fu6 71 47 rfl).1))
                have lk23 : ((u16).1 71 45).toInt = (t.1 71 45).toInt := congrArg Int32.toInt (((fu16 71 45 rfl).1).trans ((fu6 71 45 rfl).1))
                have lk24 : ((u16).1 71 47).toInt = (t.1 71 47).toInt := congrArg Int32.toInt (((fu16 71 47 rfl).1).trans ((fu6 71 47 rfl).1))
                have lk25 : ((u16).1 71 45).toInt = (t.1 71 45).toInt := congrArg Int32.toInt (((fu16 71 45 rfl).1).trans ((fu6 71 45 rfl).1))
                have lk26 : ((u16).1 71 47).toInt = (t.1 71 47).toInt := congrArg Int32.toInt (((fu16 71 47 rfl).1).trans ((fu6 71 47 rfl).1))
                refine r_callVv C oCl12 rfl miX12_fact mlX12_322 (ct_X12_fact l E (u16)  (oQ_fr fu16 rfl (oQ_fr fu6 rfl hq5)) (by omega) (by omega) (by omega)) (by decide) rfl rfl rfl (Nat.le_of_ble_eq_true rfl) (oDec_at oX12_test 41 rfl) (fun u27 pu27 fu27 => ?_)
                try dsimp only at pu27
                try simp only [lk19, lk20, lk21, lk22, lk23, lk24, lk25, lk26] at pu27
                obtain ⟨pu27_0, pu27_1, pu27_2, pu27_3, pu27_4⟩ := pu27
                refine r_ty C (fun hty => ?_)
                have hty_at : (0 : Int) ≤ ((u27).1 71 2).toInt ∧ ((u27).1 71 2).toInt ≤ 1600 := hty.1 71 2
                clear hty
                refine r_aload_n C (j := 0) (oDec_at oX12_test 42 rfl) rfl rfl ?_
                refine r_callVv C oCl12 rfl miX12_dropsNots mlX12_325 (ct_X12_dropsNots l E (u27)  pu27_0 (by omega) (by omega)) (by decide) rfl rfl rfl (Nat.le_of_ble_eq_true rfl) (oDec_at oX12_test 43 rfl) (fun u29 pu29 fu29 => ?_)
                try dsimp only at pu29
                obtain ⟨pu29_0, pu29_1, pu29_2⟩ := pu29
                refine r_aload_n C (j := 0) (oDec_at oX12_test 44 rfl) rfl rfl ?_
                obtain ⟨v31, ev31⟩ : ∃ z : Int32, (u29).1 71 5 = z := ⟨_, rfl⟩
                have gv31 : (u27.1 71 5).toInt = v31.toInt := congrArg Int32.toInt (((fu29 71 5 rfl).1).symm.trans ev31)
                have ggv31 : ((u29).1 71 5).toInt = v31.toInt := congrArg Int32.toInt ev31
                have rv31 := n_rng v31
                refine r_geti (k := 5) (lo := (-2147483648)) (hi := 2147483647) C v31 oCl12 rfl (by decide) flX12_173 rfl rfl (ev31) rfl rfl (oDec_at oX12_test 45 rfl) (fun _ _ => ?_)
                refine r_pc C 91 rfl ?_
                refine r_if_ne C 105 (oDec_at oX12_test 46 rfl) (by decide) (fun cd32 => ?_) (fun cd32 => ?_)
                · skip
                  refine r_iconst C (oDec_at oX12_test 52 rfl) (v := k0) (by rw [qk0]; rfl) ?_
                  refine r_istore_n C (lv' := [(0, .ref (oad E 71)), (1, .int k0), (2, .int r7)]) [1, 0, 2] (oDec_at oX12_test 53 rfl) rfl (by decide) rfl ?_
                  refine r_goto C (tgt := 2) (oDec_at oX12_test 54 rfl) (by decide) ?_
                  have lk33 : ((u29).1 71 2).toInt = (u27.1 71 2).toInt := congrArg Int32.toInt ((fu29 71 2 rfl).1)
                  have lk34 : ((u29).1 71 5).toInt = v31.toInt := congrArg Int32.toInt (ev31)
                  have lk35 : ((u29).1 71 2).toInt = (u27.1 71 2).toInt := congrArg Int32.toInt ((fu29 71 2 rfl).1)
                  have lk36 : ((u29).1 71 2).toInt = (u27.1 71 2).toInt := congrArg Int32.toInt ((fu29 71 2 rfl).1)
                  have lk37 : ((u29).1 71 2).toInt = (u27.1 71 2).toInt := congrArg Int32.toInt ((fu29 71 2 rfl).1)
                  have hj := oB1_f ((u29).1 71 5)
                  refine r_pick C [0, 1] rfl ?_
                  exact (ih (n - 1) (by omega)).1 (u29) k0  (by first | exact fun _ => (by assumption) | (intro h; exfalso; omega)) (by first | (intro h; exfalso; omega) | exact fun _ => pu29_2 (by omega) | exact fun _ => ⟨pu29_0, fun hb => by exfalso; omega⟩) (by omega) (by omega) (by omega) (by omega) (by omega) (by omega)
                · skip
                  refine r_aload_n C (j := 0) (oDec_at oX12_test 47 rfl) rfl rfl ?_
                  have lk38 : ((u29).1 71 5).toInt = v31.toInt := congrArg Int32.toInt (ev31)
                  have lk39 : ((u29).1 71 2).toInt = (u27.1 71 2).toInt := congrArg Int32.toInt ((fu29 71 2 rfl).1)
                  have lk40 : ((u29).1 71 2).toInt = (u27.1 71 2).toInt := congrArg Int32.toInt ((fu29 71 2 rfl).1)
                  have lk41 : ((u29).1 71 2).toInt = (u27.1 71 2).toInt := congrArg Int32.toInt ((fu29 71 2 rfl).1)
                  refine r_callVi C oCl12 rfl miX12_goesOnTest mlX12_328 (ct_X12_goesOnTest l E (u29)  pu29_0 (by omega) (by omega) (by omega)) (by decide) rfl rfl rfl (Nat.le_of_ble_eq_true rfl) (oDec_at oX12_test 48 rfl) (fun r43 u42 pu42 fu42 => ?_)
                  try dsimp only at pu42
                  try simp only [lk38, lk39, lk40, lk41] at pu42
                  obtain ⟨pu42_0, pu42_1, pu42_2, pu42_3, pu42_4, pu42_5⟩ := pu42
                  have rr43 := n_rng r43
                  refine r_if_eq C 105 (oDec_at oX12_test 49 rfl) (by decide) (fun cd44 => ?_) (fun cd44 => ?_)
                  · skip
                    refine r_iconst C (oDec_at oX12_test 52 rfl) (v := k0) (by rw [qk0]; rfl) ?_
                    refine r_istore_n C (lv' := [(0, .ref (oad E 71)), (1, .int k0), (2, .int r7)]) [1, 0, 2] (oDec_at oX12_test 53 rfl) rfl (by decide) rfl ?_
                    refine r_goto C (tgt := 2) (oDec_at oX12_test 54 rfl) (by decide) ?_
                    have hj := oB1_f ((u42).1 71 5)
                    refine r_pick C [0, 1] rfl ?_
                    exact (ih (n - 1) (by omega)).1 (u42) k0  (by first | exact fun _ => (by assumption) | (intro h; exfalso; omega)) (by first | (intro h; exfalso; omega) | exact fun _ => pu42_2 (by omega) | exact fun _ => ⟨(by assumption), fun hb => by exfalso; omega⟩) (by omega) (by omega) (by omega) (by omega) (by omega) (by omega)
                  · skip
                    have hq45 : oQ 9999 0 (u42) := pu42_1 (by omega)
                    refine r_iconst C (oDec_at oX12_test 50 rfl) (v := k1) (by rw [qk1]; rfl) ?_
                    refine r_goto C (tgt := 106) (oDec_at oX12_test 51 rfl) (by decide) ?_
                    refine r_istore_n C (lv' := [(0, .ref (oad E 71)), (1, .int k1), (2, .int r7)]) [1, 0, 2] (oDec_at oX12_test 53 rfl) rfl (by decide) rfl ?_
                    refine r_goto C (tgt := 2) (oDec_at oX12_test 54 rfl) (by decide) ?_
                    have hj := oB1_f ((u42).1 71 5)
                    refine r_pick C [0, 1] rfl ?_
                    exact (ih (n - 1) (by omega)).1 (u42) k1  (by first | exact fun _ => hq45 | (intro h; exfalso; omega)) (by first | (intro h; exfalso; omega) | exact fun _ => pu42_2 (by omega) | exact fun _ => ⟨(by assumption), fun hb => by exfalso; omega⟩) (by omega) (by omega) (by omega) (by omega) (by omega) (by omega)
              · skip
                replace pu16_2 := pu16_2 (by omega)
                refine r_aload_n C (j := 0) (oDec_at oX12_test 30 rfl) rfl rfl ?_
                refine r_bipush C (oDec_at oX12_test 31 rfl) (v := k16) (by rw [qk16]; rfl) ?_
                refine r_aload_n C (j := 0) (oDec_at oX12_test 32 rfl) rfl rfl ?_
                obtain ⟨v46, ev46⟩ : ∃ z : Int32, (u16).1 71 2 = z := ⟨_, rfl⟩
                have gv46 : (u16.1 71 2).toInt = v46.toInt := congrArg Int32.toInt (ev46)
                refine r_geti (k := 2) (lo := 0) (hi := 1600) C v46 oCl12 rfl (by decide) flX12_179 rfl rfl (ev46) rfl rfl (oDec_at oX12_test 33 rfl) (fun b47 b47h => ?_)
                have lk48 : ((u16).1 71 47).toInt = (t.1 71 47).toInt := congrArg Int32.toInt (((fu16 71 47 rfl).1).trans ((fu6 71 47 rfl).1))
                have lk49 : ((u16).1 71 47).toInt = (t.1 71 47).toInt := congrArg Int32.toInt (((fu16 71 47 rfl).1).trans ((fu6 71 47 rfl).1))
                have lk50 : ((u16).1 71 48).toInt = (t.1 71 48).toInt := congrArg Int32.toInt (((fu16 71 48 rfl).1).trans ((fu6 71 48 rfl).1))
                have lk51 : ((u16).1 71 48).toInt = (t.1 71 48).toInt := congrArg Int32.toInt (((fu16 71 48 rfl).1).trans ((fu6 71 48 rfl).1))
                have lk52 : ((u16).1 71 47).toInt = (t.1 71 47).toInt := congrArg Int32.toInt (((fu16 71 47 rfl).1).trans ((fu6 71 47 rfl).1))
                have lk53 : ((u16).1 71 5).toInt = v2.toInt := congrArg Int32.toInt (((fu16 71 5 rfl).1).trans (((fu6 71 5 rfl).1).trans (ev2)))
                have lk54 : ((u16).1 71 5).toInt = v2.toInt := congrArg Int32.toInt (((fu16 71 5 rfl).1).trans (((fu6 71 5 rfl).1).trans (ev2)))
                refine r_callVv C oCl12 rfl miX12_opens mlX12_292 (ct_X12_opens l E (u16) k16 v46 (by omega) (by omega)) (by decide) rfl rfl rfl (Nat.le_of_ble_eq_true rfl) (oDec_at oX12_test 34 rfl) (fun u55 pu55 fu55 => ?_)
                try dsimp only at pu55
                try simp only [lk49, lk50, lk51, lk52, lk53, lk54] at pu55
                obtain ⟨pu55_0, pu55_1, pu55_2⟩ := pu55
                have hq57 : oQ 9999 0 (u55) := oQ_opens fu55 rfl (oQ_fr fu16 rfl (oQ_fr fu6 rfl hq5)) pu55_1 (by omega) (by omega) (by omega)
                refine r_aload_n C (j := 0) (oDec_at oX12_test 35 rfl) rfl rfl ?_
                refine r_pc C 69 rfl ?_
                refine r_aload_n C (j := 0) (oDec_at oX12_test 36 rfl) rfl rfl ?_
                refine r_getF (k := 19) (b := 82) C oCl12 rfl (by decide) flX12_45 rfl rfl rfl (oDec_at oX12_test 37 rfl) ?_
                have lk58 : ((u55).1 71 2).toInt = v46.toInt := congrArg Int32.toInt (((fu55 71 2 rfl).1).trans (ev46))
                have lk59 : ((u55).1 71 2).toInt = v46.toInt := congrArg Int32.toInt (((fu55 71 2 rfl).1).trans (ev46))
                refine r_callVv C oCl12 rfl miX12_asks mlX12_240 (ct_X12_asks l E (u55) 82 58 3 rfl (by decide) (by decide) rfl rfl (by omega)) (by decide) rfl rfl rfl (Nat.le_of_ble_eq_true rfl) (oDec_at oX12_test 38 rfl) (fun u60 pu60 fu60 => ?_)
                try dsimp only at pu60
                try simp only [lk58, lk59] at pu60
                obtain ⟨pu60_0, pu60_1⟩ := pu60
                refine r_goto C (tgt := 2) (oDec_at oX12_test 39 rfl) (by decide) ?_
                have lk62 : ((u60).1 71 48).toInt = (u55.1 71 48).toInt := congrArg Int32.toInt ((fu60 71 48 rfl).1)
                have lk63 : ((u60).1 71 45).toInt = (t.1 71 45).toInt := congrArg Int32.toInt (((fu60 71 45 rfl).1).trans (((fu55 71 45 rfl).1).trans (((fu16 71 45 rfl).1).trans ((fu6 71 45 rfl).1))))
                have lk64 : ((u60).1 71 47).toInt = (u55.1 71 47).toInt := congrArg Int32.toInt ((fu60 71 47 rfl).1)
                have lk65 : ((u60).1 71 45).toInt = (t.1 71 45).toInt := congrArg Int32.toInt (((fu60 71 45 rfl).1).trans (((fu55 71 45 rfl).1).trans (((fu16 71 45 rfl).1).trans ((fu6 71 45 rfl).1))))
                have lk66 : ((u60).1 71 47).toInt = (u55.1 71 47).toInt := congrArg Int32.toInt ((fu60 71 47 rfl).1)
                have hj := oB1_f ((u60).1 71 5)
                refine r_pick C [0, 1] rfl ?_
                exact (ih (n - 1) (by omega)).1 (u60) x1  (by first | exact fun _ => (oQ_frb fu60 rfl (by omega) hq57) | (intro h; exfalso; omega)) (by first | (intro h; exfalso; omega) | exact fun _ => pu60_2 (by omega) | exact fun _ => ⟨(by assumption), fun hb => by exfalso; omega⟩) (by omega) (by omega) (by omega) (by omega) (by omega) (by omega)
            · skip
              replace pu6_1 := pu6_1.resolve_left (by omega)
              refine r_aload_n C (j := 0) (oDec_at oX12_test 13 rfl) rfl rfl ?_
              refine r_bipush C (oDec_at oX12_test 14 rfl) (v := k25) (by rw [qk25]; rfl) ?_
              refine r_aload_n C (j := 0) (oDec_at oX12_test 15 rfl) rfl rfl ?_
              refine r_geti (k := 2) (lo := 0) (hi := 1600) C v8 oCl12 rfl (by decide) flX12_179 rfl rfl (ev8) rfl rfl (oDec_at oX12_test 16 rfl) (fun b67 b67h => ?_)
              have lk68 : ((u6).1 71 47).toInt = (t.1 71 47).toInt := congrArg Int32.toInt ((fu6 71 47 rfl).1)
              have lk69 : ((u6).1 71 47).toInt = (t.1 71 47).toInt := congrArg Int32.toInt ((fu6 71 47 rfl).1)
              have lk70 : ((u6).1 71 48).toInt = (t.1 71 48).toInt := congrArg Int32.toInt ((fu6 71 48 rfl).1)
              have lk71 : ((u6).1 71 48).toInt = (t.1 71 48).toInt := congrArg Int32.toInt ((fu6 71 48 rfl).1)
              have lk72 : ((u6).1 71 47).toInt = (t.1 71 47).toInt := congrArg Int32.toInt ((fu6 71 47 rfl).1)
              have lk73 : ((u6).1 71 5).toInt = v2.toInt := congrArg Int32.toInt (((fu6 71 5 rfl).1).trans (ev2))
              have lk74 : ((u6).1 71 5).toInt = v2.toInt := congrArg Int32.toInt (((fu6 71 5 rfl).1).trans (ev2))
              refine r_callVv C oCl12 rfl miX12_opens mlX12_292 (ct_X12_opens l E (u6) k25 v8 (by omega) (by omega)) (by decide) rfl rfl rfl (Nat.le_of_ble_eq_true rfl) (oDec_at oX12_test 17 rfl) (fun u75 pu75 fu75 => ?_)
              try dsimp only at pu75
              try simp only [lk69, lk70, lk71, lk72, lk73, lk74] at pu75
              obtain ⟨pu75_0, pu75_1, pu75_2⟩ := pu75
              have hq77 : oQ 9999 0 (u75) := oQ_opens fu75 rfl (oQ_fr fu6 rfl hq5) pu75_1 (by omega) (by omega) (by omega)
              refine r_aload_n C (j := 0) (oDec_at oX12_test 18 rfl) rfl rfl ?_
              refine r_pc C 35 rfl ?_
              refine r_dup C (oDec_at oX12_test 19 rfl) rfl ?_
              refine r_geti (k := 2) (lo := 0) (hi := 1600) C v8 oCl12 rfl (by decide) flX12_179 rfl rfl (((fu75 71 2 rfl).1).trans (ev8)) rfl rfl (oDec_at oX12_test 20 rfl) (fun b78 b78h => ?_)
              refine r_iconst C (oDec_at oX12_test 21 rfl) (v := k1) (by rw [qk1]; rfl) ?_
              obtain ⟨v79, ev79⟩ : ∃ z : Int32, z = v8 + k1 := ⟨_, rfl⟩
              have hv79 : v79.toInt = v8.toInt + k1.toInt := n_add ev79 (by omega) (by omega)
              refine r_iadd C v79 (oDec_at oX12_test 22 rfl) ev79 ?_
              refine r_puti (k := 2) (lo := 0) (hi := 1600) C oCl12 rfl (by decide) flX12_179 rfl rfl rfl rfl rfl rfl rfl rfl ⟨by omega, by omega⟩ (oDec_at oX12_test 23 rfl) ?_
              refine r_goto C (tgt := 2) (oDec_at oX12_test 24 rfl) (by decide) ?_
              have lk80 : (((pI u75 71 2 v79)).1 71 48).toInt = (u75.1 71 48).toInt := congrArg Int32.toInt ((pI_ne (a := 71) (b := 48) (c := 71) (k := 2) _ _ (Or.inr (by decide))))
              have lk81 : (((pI u75 71 2 v79)).1 71 2).toInt = v79.toInt := congrArg Int32.toInt ((pI_self _ _ _ _))
              have lk82 : (((pI u75 71 2 v79)).1 71 45).toInt = (t.1 71 45).toInt := congrArg Int32.toInt (((pI_ne (a := 71) (b := 45) (c := 71) (k := 2) _ _ (Or.inr (by decide)))).trans (((fu75 71 45 rfl).1).trans ((fu6 71 45 rfl).1)))
              have lk83 : (((pI u75 71 2 v79)).1 71 47).toInt = (u75.1 71 47).toInt := congrArg Int32.toInt ((pI_ne (a := 71) (b := 47) (c := 71) (k := 2) _ _ (Or.inr (by decide))))
              have lk84 : (((pI u75 71 2 v79)).1 71 5).toInt = (u75.1 71 5).toInt := congrArg Int32.toInt ((pI_ne (a := 71) (b := 5) (c := 71) (k := 2) _ _ (Or.inr (by decide))))
              have lk85 : (((pI u75 71 2 v79)).1 71 2).toInt = v79.toInt := congrArg Int32.toInt ((pI_self _ _ _ _))
              have lk86 : (((pI u75 71 2 v79)).1 71 45).toInt = (t.1 71 45).toInt := congrArg Int32.toInt (((pI_ne (a := 71) (b := 45) (c := 71) (k := 2) _ _ (Or.inr (by decide)))).trans (((fu75 71 45 rfl).1).trans ((fu6 71 45 rfl).1)))
              have lk87 : (((pI u75 71 2 v79)).1 71 47).toInt = (u75.1 71 47).toInt := congrArg Int32.toInt ((pI_ne (a := 71) (b := 47) (c := 71) (k := 2) _ _ (Or.inr (by decide))))
              have lk88 : (((pI u75 71 2 v79)).1 71 2).toInt = v79.toInt := congrArg Int32.toInt ((pI_self _ _ _ _))
              have lk89 : (((pI u75 71 2 v79)).1 71 2).toInt = v79.toInt := congrArg Int32.toInt ((pI_self _ _ _ _))
              have hj := oB1_f (((pI u75 71 2 v79)).1 71 5)
              refine r_pick C [0, 1] rfl ?_
              exact (ih (n - 1) (by omega)).1 ((pI u75 71 2 v79)) x1  (by first | exact fun _ => (oQ_fr (oFr_oneI (q := 12) (m := 2) rfl (by rfl)) rfl hq77) | (intro h; exfalso; omega)) (by first | (intro h; exfalso; omega) | exact fun _ => pu75_2 (by omega) | exact fun _ => ⟨(by assumption), fun hb => by exfalso; omega⟩) (by omega) (by omega) (by omega) (by omega) (by omega) (by omega)
      · intro t   iv0 iv1 iv2 iv3 iv4 hmu
        refine r_ty C (fun hty => ?_)
        have hty_coded : (0 : Int) ≤ ((t).1 71 45).toInt ∧ ((t).1 71 45).toInt ≤ 1600 := hty.1 71 45
        have hty_waits : (0 : Int) ≤ ((t).1 71 47).toInt ∧ ((t).1 71 47).toInt ≤ 1700 := hty.1 71 47
        have hty_at : (0 : Int) ≤ ((t).1 71 2).toInt ∧ ((t).1 71 2).toInt ≤ 1600 := hty.1 71 2
        clear hty
        refine r_aload_n C (j := 0) (oDec_at oX12_test 55 rfl) rfl rfl ?_
        obtain ⟨v90, ev90⟩ : ∃ z : Int32, (t).1 71 5 = z := ⟨_, rfl⟩
        have gv90 : (t.1 71 5).toInt = v90.toInt := congrArg Int32.toInt (ev90)
        have rv90 := n_rng v90
        refine r_geti (k := 5) (lo := (-2147483648)) (hi := 2147483647) C v90 oCl12 rfl (by decide) flX12_173 rfl rfl (ev90) rfl rfl (oDec_at oX12_test 56 rfl) (fun _ _ => ?_)
        refine r_if_ne C 131 (oDec_at oX12_test 57 rfl) (by decide) (fun cd91 => ?_) (fun cd91 => ?_)
        · skip
          have lk92 : ((t).1 71 5).toInt = v90.toInt := congrArg Int32.toInt (ev90)
          exact r_vret C (oDec_at oX12_test 64 rfl) ⟨rfl, ⟨iv0, by omega, by omega, by omega⟩⟩
        · skip
          refine r_aload_n C (j := 0) (oDec_at oX12_test 58 rfl) rfl rfl ?_
          obtain ⟨v93, ev93⟩ : ∃ z : Int32, (t).1 71 47 = z := ⟨_, rfl⟩
          have gv93 : (t.1 71 47).toInt = v93.toInt := congrArg Int32.toInt (ev93)
          refine r_geti (k := 47) (lo := 0) (hi := 1700) C v93 oCl12 rfl (by decide) flX12_277 rfl rfl (ev93) rfl rfl (oDec_at oX12_test 59 rfl) (fun b94 b94h => ?_)
          refine r_if_le C 131 (oDec_at oX12_test 60 rfl) (by decide) (fun cd95 => ?_) (fun cd95 => ?_)
          · skip
            have lk96 : ((t).1 71 47).toInt = v93.toInt := congrArg Int32.toInt (ev93)
            have lk97 : ((t).1 71 5).toInt = v90.toInt := congrArg Int32.toInt (ev90)
            have lk98 : ((t).1 71 47).toInt = v93.toInt := congrArg Int32.toInt (ev93)
            exact r_vret C (oDec_at oX12_test 64 rfl) ⟨rfl, ⟨iv0, by omega, by omega, by omega⟩⟩
          · skip
            have hnt := oNS_top (iv1 (by omega)) (by omega)
            refine r_aload_n C (j := 0) (oDec_at oX12_test 61 rfl) rfl rfl ?_
            have lk99 : ((t).1 71 47).toInt = v93.toInt := congrArg Int32.toInt (ev93)
            have lk100 : ((t).1 71 47).toInt = v93.toInt := congrArg Int32.toInt (ev93)
            refine r_callVv C oCl12 rfl miX12_drops mlX12_289 (ct_X12_drops l E (t)  (by omega) (by omega)) (by decide) rfl rfl rfl (Nat.le_of_ble_eq_true rfl) (oDec_at oX12_test 62 rfl) (fun u101 pu101 fu101 => ?_)
            try dsimp only at pu101
            try simp only [lk99, lk100] at pu101
            obtain ⟨pu101_0, pu101_1, pu101_2⟩ := pu101
            have hq103 : oQ 9999 1 (u101) := oQ_drop iv0 pu101_0 (by omega) (by omega) (by omega) (by omega)
            have hq104 : oNQ (u101) := oNQ_drop iv1 pu101_0
            refine r_goto C (tgt := 110) (oDec_at oX12_test 63 rfl) (by decide) ?_
            have lk105 : ((u101).1 71 2).toInt = (t.1 71 2).toInt := congrArg Int32.toInt ((fu101 71 2 rfl).1)
            have lk106 : ((u101).1 71 5).toInt = v90.toInt := congrArg Int32.toInt (((fu101 71 5 rfl).1).trans (ev90))
            have lk107 : ((u101).1 71 2).toInt = (t.1 71 2).toInt := congrArg Int32.toInt ((fu101 71 2 rfl).1)
            have lk108 : ((u101).1 71 2).toInt = (t.1 71 2).toInt := congrArg Int32.toInt ((fu101 71 2 rfl).1)
            exact (ih (n - 1) (by omega)).2 (u101)   (by first | exact hq103 | exact (iv1 (by omega)).1 | exact oQ_bad (iv0 (by omega)) (by omega)) (by first | exact hq104 | exact (iv1 (by omega)).2 | exact fun hb => by exfalso; omega) (by omega) (by omega) (by omega) (by omega)
  refine r_iconst C (oDec_at oX12_test 0 rfl) (v := k1) (by rw [qk1]; rfl) ?_
  refine r_istore_n C (lv' := [(0, .ref (oad E 71)), (1, .int k1)]) [1, 0] (oDec_at oX12_test 1 rfl) rfl (by decide) rfl ?_
  have hj := oB1_f ((s).1 71 5)
  exact (key (4000 * (1602 - ((s).1 71 2).toInt) + 10 * k1.toInt + 100 * oB1 ((s).1 71 5)).toNat).1 (s) k1  (by first | exact fun _ => hp0 | (intro h; exfalso; omega)) (by first | (intro h; exfalso; omega) | exact fun _ => ⟨(by assumption), fun hb => by exfalso; omega⟩) (by omega) (by omega) (by omega) (by omega) (by omega) (by omega)
