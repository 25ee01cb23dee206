set_option maxHeartbeats 4000000 in
set_option maxRecDepth 100000 in
theorem ct9_X12_firstLine (l : Launch) (E : oE) (s : oS) (a1 : Int32) (a2 : Int32)  (hp0 : 1 ≤ a1.toInt ∧ a1.toInt ≤ 6) (hp1 : 0 ≤ a2.toInt ∧ a2.toInt ≤ 4) : oMet l 2 yX12_firstLine cX12_firstLine 4 (some .boolean) [(12, 38), (12, 42), (12, 43), (12, 69), (75, 9999), (76, 9999), (77, 9999)] E s [.ref (oad E 71), .int a1, .int a2] (oPi (fun r u => (0 ≤ r.toInt ∧ r.toInt ≤ 1) ∧ (oLT u) ∧ (1 ≤ (u.1 71 38).toInt → 1 ≤ (u.1 71 42).toInt) ∧ ((u.1 71 38).toInt = a1.toInt) ∧ (oDg u) ∧ (owRA a1.toInt u) ∧ (owRL a1.toInt (owF0 a1.toInt) u) ∧ (r.toInt = 1 ↔ (a1.toInt = 1 ∨ 0 < a2.toInt)))) := by
  refine oMet.of (lv := [(0, .ref (oad E 71)), (1, .int a1), (2, .int a2)]) (by decide +kernel) (Nat.le_of_ble_eq_true rfl) rfl (fun J C hT => ?_)
  have C : oC l 2 cX12_firstLine RX12 4 (some .boolean) [(12, 38), (12, 42), (12, 43), (12, 69), (75, 9999), (76, 9999), (77, 9999)] E s (oPi (fun r u => (0 ≤ r.toInt ∧ r.toInt ≤ 1) ∧ (oLT u) ∧ (1 ≤ (u.1 71 38).toInt → 1 ≤ (u.1 71 42).toInt) ∧ ((u.1 71 38).toInt = a1.toInt) ∧ (oDg u) ∧ (owRA a1.toInt u) ∧ (owRL a1.toInt (owF0 a1.toInt) u) ∧ (r.toInt = 1 ↔ (a1.toInt = 1 ∨ 0 < a2.toInt)))) J := C
  obtain ⟨k0, qk0⟩ : ∃ z : Int32, z = 0 := ⟨_, rfl⟩
  have ek0 : k0.toInt = 0 := by rw [qk0]; rfl
  obtain ⟨k1, qk1⟩ : ∃ z : Int32, z = 1 := ⟨_, rfl⟩
  have ek1 : k1.toInt = 1 := by rw [qk1]; rfl
  obtain ⟨k2, qk2⟩ : ∃ z : Int32, z = 2 := ⟨_, rfl⟩
  have ek2 : k2.toInt = 2 := by rw [qk2]; rfl
  have rg1 := n_rng a1
  have rg2 := n_rng a2
  have key : ∀ n : Nat, (∀ (t : oS) (x3 : Int32), (0 ≤ x3.toInt ∧ x3.toInt ≤ a1.toInt) → ((t.1 71 38).toInt = a1.toInt) → (oT4 x3 t) → (oD4 x3 t) → (∀ j : Nat, (j : Int) < x3.toInt → (t.1 99 j).toInt = (j : Int) % 2) → (∀ j : Nat, (j : Int) < x3.toInt → (t.1 100 j).toInt = 2) → 25 - x3.toInt ≤ (n : Int) → J t 7 [(0, .ref (oad E 71)), (1, .int a1), (2, .int a2), (3, .int x3)] []) := by
    intro n
    induction n using Nat.strongRecOn with
    | _ n ih =>
      skip
      · intro t x3  iv0 iv1 iv2 iv3 iv4 iv5 hmu
        have rx3 := n_rng x3
        refine r_iload_n C (j := 3) (oDec_at oX12_firstLine 5 rfl) rfl rfl ?_
        refine r_iload_n C (j := 1) (oDec_at oX12_firstLine 6 rfl) rfl rfl ?_
        refine r_icmp_ge C 34 (oDec_at oX12_firstLine 7 rfl) (by decide) (fun cd1 => ?_) (fun cd1 => ?_)
        · skip
          have hq2 : oLT (t) := oLT_of4 (x := x3) iv2 (by omega) (by omega)
          have hq3 : oDg (t) := oD4_dg (x := x3) iv3 (by omega)
          have hq4 : owRA (a1.toInt) (t) := ⟨by omega, fun j hj => iv5 j (by omega)⟩
          have hq5 : owRT (a1.toInt) (owF0 a1.toInt) (t) := owRT_f0 iv4 (by omega)
          refine r_aload_n C (j := 0) (oDec_at oX12_firstLine 22 rfl) rfl rfl ?_
          refine r_callVv C oCl12 rfl miX12_lies mlX12_264 (ct9_X12_lies l E (t)  (a1.toInt) (owF0 a1.toInt) hq2 hq4 hq5 owF0_dg (by omega)) (by decide) rfl rfl rfl (Nat.le_of_ble_eq_true rfl) (oDec_at oX12_firstLine 23 rfl) (fun u6 pu6 fu6 => ?_)
          try dsimp only at pu6
          obtain ⟨pu6_0, pu6_1, pu6_2⟩ := pu6
          have lu8 : ((u6).1 71 38).toInt = (t.1 71 38).toInt := congrArg Int32.toInt ((fu6 71 38 rfl).1)
          have hrl9 := pu6_2
          refine r_iload_n C (j := 1) (oDec_at oX12_firstLine 24 rfl) rfl rfl ?_
          refine r_iconst C (oDec_at oX12_firstLine 25 rfl) (v := k1) (by rw [qk1]; rfl) ?_
          refine r_icmp_eq C 47 (oDec_at oX12_firstLine 26 rfl) (by decide) (fun cd9 => ?_) (fun cd9 => ?_)
          · skip
            refine r_iconst C (oDec_at oX12_firstLine 29 rfl) (v := k1) (by rw [qk1]; rfl) ?_
            refine r_goto C (tgt := 52) (oDec_at oX12_firstLine 30 rfl) (by decide) ?_
            have lk10 : ((u6).1 71 38).toInt = (t.1 71 38).toInt := congrArg Int32.toInt ((fu6 71 38 rfl).1)
            have lk11 : ((u6).1 71 38).toInt = (t.1 71 38).toInt := congrArg Int32.toInt ((fu6 71 38 rfl).1)
            exact r_zret C (n_bool (by omega)) (oDec_at oX12_firstLine 32 rfl) ⟨_, rfl, ⟨by omega, pu6_0, by omega, by omega, (oDg_fr fu6 rfl hq3), (owRA_fr fu6 rfl hq4), hrl9, by omega⟩⟩
          · skip
            refine r_iload_n C (j := 2) (oDec_at oX12_firstLine 27 rfl) rfl rfl ?_
            refine r_if_le C 51 (oDec_at oX12_firstLine 28 rfl) (by decide) (fun cd12 => ?_) (fun cd12 => ?_)
            · skip
              refine r_iconst C (oDec_at oX12_firstLine 31 rfl) (v := k0) (by rw [qk0]; rfl) ?_
              have lk13 : ((u6).1 71 38).toInt = (t.1 71 38).toInt := congrArg Int32.toInt ((fu6 71 38 rfl).1)
              have lk14 : ((u6).1 71 38).toInt = (t.1 71 38).toInt := congrArg Int32.toInt ((fu6 71 38 rfl).1)
              exact r_zret C (n_bool (by omega)) (oDec_at oX12_firstLine 32 rfl) ⟨_, rfl, ⟨by omega, pu6_0, by omega, by omega, (oDg_fr fu6 rfl hq3), (owRA_fr fu6 rfl hq4), hrl9, by omega⟩⟩
            · skip
              refine r_iconst C (oDec_at oX12_firstLine 29 rfl) (v := k1) (by rw [qk1]; rfl) ?_
              refine r_goto C (tgt := 52) (oDec_at oX12_firstLine 30 rfl) (by decide) ?_
              have lk15 : ((u6).1 71 38).toInt = (t.1 71 38).toInt := congrArg Int32.toInt ((fu6 71 38 rfl).1)
              have lk16 : ((u6).1 71 38).toInt = (t.1 71 38).toInt := congrArg Int32.toInt ((fu6 71 38 rfl).1)
              exact r_zret C (n_bool (by omega)) (oDec_at oX12_firstLine 32 rfl) ⟨_, rfl, ⟨by omega, pu6_0, by omega, by omega, (oDg_fr fu6 rfl hq3), (owRA_fr fu6 rfl hq4), hrl9, by omega⟩⟩
        · skip
          refine r_aload_n C (j := 0) (oDec_at oX12_firstLine 8 rfl) rfl rfl ?_
          refine r_getF (k := 39) (b := 99) C oCl12 rfl (by decide) flX12_96 rfl rfl rfl (oDec_at oX12_firstLine 9 rfl) ?_
          refine r_iload_n C (j := 3) (oDec_at oX12_firstLine 10 rfl) rfl rfl ?_
          refine r_iload_n C (j := 3) (oDec_at oX12_firstLine 11 rfl) rfl rfl ?_
          refine r_iconst C (oDec_at oX12_firstLine 12 rfl) (v := k2) (by rw [qk2]; rfl) ?_
          obtain ⟨v17, ev17⟩ : ∃ z : Int32, z = x3 - x3 / k2 * k2 := ⟨_, rfl⟩
          have hv17 := n_rem (k := 2) ev17 ek2 (by decide)
          have rv17 := n_rng v17
          refine r_irem C v17 (oDec_at oX12_firstLine 13 rfl) (n_ne0 (by omega)) ev17 ?_
          refine r_pc C 20 rfl ?_
          refine r_iast (n := 48) (lo := (-2147483648)) (hi := 2147483647) C rfl (by decide) rfl rfl ⟨by omega, by omega⟩ (by decide) rfl rfl rfl rfl (n_rng _) (oDec_at oX12_firstLine 14 rfl) ?_
          refine r_aload_n C (j := 0) (oDec_at oX12_firstLine 15 rfl) rfl rfl ?_
          refine r_getF (k := 40) (b := 100) C oCl12 rfl (by decide) flX12_99 rfl rfl rfl (oDec_at oX12_firstLine 16 rfl) ?_
          refine r_iload_n C (j := 3) (oDec_at oX12_firstLine 17 rfl) rfl rfl ?_
          refine r_iconst C (oDec_at oX12_firstLine 18 rfl) (v := k2) (by rw [qk2]; rfl) ?_
          refine r_iast (n := 48) (lo := 0) (hi := 9999) C rfl (by decide) rfl rfl ⟨by omega, by omega⟩ (by decide) rfl rfl rfl rfl ⟨by omega, by omega⟩ (oDec_at oX12_firstLine 19 rfl) ?_
          refine r_pc C 28 rfl ?_
          obtain ⟨v18, ev18⟩ : ∃ z : Int32, x3 + Int32.ofInt 1 = z := ⟨_, rfl⟩
          have hv18 : v18.toInt = x3.toInt + 1 := n_inc ev18 (by decide) (by omega) (by omega)
          refine r_iinc C (j := 3) (lv' := [(0, .ref (oad E 71)), (1, .int a1), (2, .int a2), (3, .int v18)]) v18 [1, 2, 3, 0] (oDec_at oX12_firstLine 20 rfl) rfl ev18 (by decide) rfl ?_
          refine r_goto C (tgt := 7) (oDec_at oX12_firstLine 21 rfl) (by decide) ?_
          have lk19 : (((pI (pI t 99 x3.toNatClampNeg v17) 100 x3.toNatClampNeg k2)).1 71 38).toInt = (t.1 71 38).toInt := congrArg Int32.toInt (((pI_ne (a := 71) (b := 38) (c := 100) _ _ (Or.inl (by decide)))).trans ((pI_ne (a := 71) (b := 38) (c := 99) _ _ (Or.inl (by decide)))))
          exact (ih (n - 1) (by omega)) ((pI (pI t 99 x3.toNatClampNeg v17) 100 x3.toNatClampNeg k2)) v18  (by omega) (by omega) (by first | exact oT4_step (x := x3) (y := v18) (oT4_fr (oFr_oneI (q := 75) (m := 9999) rfl (by rfl)) rfl iv2) (by omega) (by omega) (by omega) | exact oT4_0 (by omega)) (by first | exact oD4_step (x := x3) (y := v18) iv3 (by omega) (by omega) (by omega) | exact oD4_0 (by omega)) (by first | exact owF0_pu iv4 rfl (by omega) (by omega) (by omega) | (intro j hj; exfalso; omega)) (by first | exact owF2_pu iv5 rfl (by omega) (by omega) (by omega) | (intro j hj; exfalso; omega)) (by omega)
  refine r_aload_n C (j := 0) (oDec_at oX12_firstLine 0 rfl) rfl rfl ?_
  refine r_iload_n C (j := 1) (oDec_at oX12_firstLine 1 rfl) rfl rfl ?_
  refine r_puti (k := 38) (lo := 0) (hi := 24) C oCl12 rfl (by decide) flX12_261 rfl rfl rfl rfl rfl rfl rfl rfl ⟨by omega, by omega⟩ (oDec_at oX12_firstLine 2 rfl) ?_
  refine r_iconst C (oDec_at oX12_firstLine 3 rfl) (v := k0) (by rw [qk0]; rfl) ?_
  refine r_istore_n C (lv' := [(0, .ref (oad E 71)), (1, .int a1), (2, .int a2), (3, .int k0)]) [1, 2, 3, 0] (oDec_at oX12_firstLine 4 rfl) rfl (by decide) rfl ?_
  have lk20 : (((pI s 71 38 a1)).1 71 38).toInt = a1.toInt := congrArg Int32.toInt ((pI_self _ _ _ _))
  exact (key (25 - k0.toInt).toNat) ((pI s 71 38 a1)) k0  (by omega) (by omega) (by first | exact oT4_0 (by omega)) (by first | exact oD4_0 (by omega)) (by first | (intro j hj; exfalso; omega)) (by first | (intro j hj; exfalso; omega)) (by omega)
