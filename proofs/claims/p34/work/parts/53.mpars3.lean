set_option maxHeartbeats 4000000 in
set_option maxRecDepth 100000 in
theorem ct_X12_hasSquare (l : Launch) (E : oE) (s : oS)    : oMet l 1 yX12_hasSquare cX12_hasSquare 2 (some .boolean) [] E s [.ref (oad E 71)] (oPi (fun r u => (0 ≤ r.toInt ∧ r.toInt ≤ 1) ∧ (r.toInt = 1 → oHS u) ∧ (r.toInt = 0 → oNS u))) := by
  refine oMet.of (lv := [(0, .ref (oad E 71))]) (by decide +kernel) (Nat.le_of_ble_eq_true rfl) rfl (fun J C hT => ?_)
  have C : oC l 1 cX12_hasSquare RX12 2 (some .boolean) [] E s (oPi (fun r u => (0 ≤ r.toInt ∧ r.toInt ≤ 1) ∧ (r.toInt = 1 → oHS u) ∧ (r.toInt = 0 → oNS u))) J := C
  obtain ⟨k0, qk0⟩ : ∃ z : Int32, z = 0 := ⟨_, rfl⟩
  have ek0 : k0.toInt = 0 := by rw [qk0]; rfl
  obtain ⟨k1, qk1⟩ : ∃ z : Int32, z = 1 := ⟨_, rfl⟩
  have ek1 : k1.toInt = 1 := by rw [qk1]; rfl
  obtain ⟨k25, qk25⟩ : ∃ z : Int32, z = 25 := ⟨_, rfl⟩
  have ek25 : k25.toInt = 25 := by rw [qk25]; rfl
  have htz_waits : (0 : Int) ≤ (s.1 71 47).toInt ∧ (s.1 71 47).toInt ≤ 1700 := hT.1 71 47
  have key : ∀ n : Nat, (∀ (t : oS) (x1 : Int32), (0 ≤ x1.toInt ∧ x1.toInt ≤ (t.1 71 47).toInt) → (oNx x1 t) → 2000 - x1.toInt ≤ (n : Int) → J t 2 [(0, .ref (oad E 71)), (1, .int x1)] []) := by
    intro n
    induction n using Nat.strongRecOn with
    | _ n ih =>
      skip
      · intro t x1  iv0 iv1 hmu
        have rx1 := n_rng x1
        refine r_iload_n C (j := 1) (oDec_at oX12_hasSquare 2 rfl) rfl rfl ?_
        refine r_aload_n C (j := 0) (oDec_at oX12_hasSquare 3 rfl) rfl rfl ?_
        obtain ⟨v1, ev1⟩ : ∃ z : Int32, (t).1 71 47 = z := ⟨_, rfl⟩
        have gv1 : (t.1 71 47).toInt = v1.toInt := congrArg Int32.toInt (ev1)
        refine r_geti (k := 47) (lo := 0) (hi := 1700) C v1 oCl12 rfl (by decide) flX12_277 rfl rfl (ev1) rfl rfl (oDec_at oX12_hasSquare 4 rfl) (fun b2 b2h => ?_)
        refine r_icmp_ge C 29 (oDec_at oX12_hasSquare 5 rfl) (by decide) (fun cd3 => ?_) (fun cd3 => ?_)
        · skip
          refine r_iconst C (oDec_at oX12_hasSquare 16 rfl) (v := k0) (by rw [qk0]; rfl) ?_
          exact r_zret C (n_bool (by omega)) (oDec_at oX12_hasSquare 17 rfl) ⟨_, rfl, ⟨by omega, by first | (intro h; exfalso; omega) | exact fun _ => oHS_of (by assumption) (by omega) (by omega) (by omega), by first | (intro h; exfalso; omega) | exact fun _ => oNS_of iv1 (by omega)⟩⟩
        · skip
          refine r_aload_n C (j := 0) (oDec_at oX12_hasSquare 6 rfl) rfl rfl ?_
          refine r_getF (k := 46) (b := 103) C oCl12 rfl (by decide) flX12_111 rfl rfl rfl (oDec_at oX12_hasSquare 7 rfl) ?_
          refine r_iload_n C (j := 1) (oDec_at oX12_hasSquare 8 rfl) rfl rfl ?_
          obtain ⟨v5, ev5⟩ : ∃ z : Int32, (t).1 103 x1.toNatClampNeg = z := ⟨_, rfl⟩
          have gv5 : (t.1 103 x1.toNatClampNeg).toInt = v5.toInt := congrArg Int32.toInt (ev5)
          have rv5 := n_rng v5
          refine r_iald (n := 1700) (lo := (-2147483648)) (hi := 2147483647) C v5 rfl (by decide) rfl rfl ⟨by omega, by omega⟩ (by decide) ev5 rfl rfl (oDec_at oX12_hasSquare 9 rfl) (fun _ _ => ?_)
          refine r_bipush C (oDec_at oX12_hasSquare 10 rfl) (v := k25) (by rw [qk25]; rfl) ?_
          refine r_icmp_ne C 23 (oDec_at oX12_hasSquare 11 rfl) (by decide) (fun cd6 => ?_) (fun cd6 => ?_)
          · skip
            obtain ⟨v7, ev7⟩ : ∃ z : Int32, x1 + Int32.ofInt 1 = z := ⟨_, rfl⟩
            have hv7 : v7.toInt = x1.toInt + 1 := n_inc ev7 (by decide) (by omega) (by omega)
            refine r_iinc C (j := 1) (lv' := [(0, .ref (oad E 71)), (1, .int v7)]) v7 [1, 0] (oDec_at oX12_hasSquare 14 rfl) rfl ev7 (by decide) rfl ?_
            refine r_goto C (tgt := 2) (oDec_at oX12_hasSquare 15 rfl) (by decide) ?_
            have lk8 : ((t).1 71 47).toInt = v1.toInt := congrArg Int32.toInt (ev1)
            exact (ih (n - 1) (by omega)) (t) v7  (by omega) (by first | exact oNx_step (x := x1) (y := v7) iv1 (by omega) (by omega) (by omega) | exact oNx_0 (by omega)) (by omega)
          · skip
            refine r_iconst C (oDec_at oX12_hasSquare 12 rfl) (v := k1) (by rw [qk1]; rfl) ?_
            exact r_zret C (n_bool (by omega)) (oDec_at oX12_hasSquare 13 rfl) ⟨_, rfl, ⟨by omega, by first | (intro h; exfalso; omega) | exact fun _ => oHS_of (by assumption) (by omega) (by omega) (by omega), by first | (intro h; exfalso; omega) | exact fun _ => oNS_of iv1 (by omega)⟩⟩
  refine r_iconst C (oDec_at oX12_hasSquare 0 rfl) (v := k0) (by rw [qk0]; rfl) ?_
  refine r_istore_n C (lv' := [(0, .ref (oad E 71)), (1, .int k0)]) [1, 0] (oDec_at oX12_hasSquare 1 rfl) rfl (by decide) rfl ?_
  exact (key (2000 - k0.toInt).toNat) (s) k0  (by omega) (by first | exact oNx_0 (by omega)) (by omega)
