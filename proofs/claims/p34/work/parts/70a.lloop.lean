set_option maxHeartbeats 8000000 in
set_option maxRecDepth 100000 in
theorem lw_loop {l : Launch} {b L kc sl : Nat} {xs : Nat → Int32} {E : oE} {J : oS → Nat → List (Nat × Value) → List Value → Prop} (C : oLC l b L xs E kc sl J) (hL : L ≤ 3072) : ∀ n : Nat, ∀ (t : oS) (x3 : Int32), (oLT t) → (1 ≤ (t.1 71 38).toInt → 1 ≤ (t.1 71 42).toInt) → (oBI t) → (oqET t) → (0 ≤ x3.toInt ∧ x3.toInt ≤ 3072) → 5000 - x3.toInt ≤ (n : Int) → J t 18 [(0, .ref b), (1, .ref (oad E 0)), (2, .ref (oad E 71)), (3, .int x3)] [] := by
  obtain ⟨k0, qk0⟩ : ∃ z : Int32, z = 0 := ⟨_, rfl⟩
  have ek0 : k0.toInt = 0 := by rw [qk0]; rfl
  obtain ⟨k1, qk1⟩ : ∃ z : Int32, z = 1 := ⟨_, rfl⟩
  have ek1 : k1.toInt = 1 := by rw [qk1]; rfl
  obtain ⟨k2, qk2⟩ : ∃ z : Int32, z = 2 := ⟨_, rfl⟩
  have ek2 : k2.toInt = 2 := by rw [qk2]; rfl
  obtain ⟨k3, qk3⟩ : ∃ z : Int32, z = 3 := ⟨_, rfl⟩
  have ek3 : k3.toInt = 3 := by rw [qk3]; rfl
  obtain ⟨k4, qk4⟩ : ∃ z : Int32, z = 4 := ⟨_, rfl⟩
  have ek4 : k4.toInt = 4 := by rw [qk4]; rfl
  obtain ⟨k5, qk5⟩ : ∃ z : Int32, z = 5 := ⟨_, rfl⟩
  have ek5 : k5.toInt = 5 := by rw [qk5]; rfl
  obtain ⟨k6, qk6⟩ : ∃ z : Int32, z = 6 := ⟨_, rfl⟩
  have ek6 : k6.toInt = 6 := by rw [qk6]; rfl
  obtain ⟨k63, qk63⟩ : ∃ z : Int32, z = 63 := ⟨_, rfl⟩
  have ek63 : k63.toInt = 63 := by rw [qk63]; rfl
  intro n
  induction n using Nat.strongRecOn with
  | _ n ih =>
    intro t x3 iv0 iv1 iv2 iv3 iv4 hmu
    have rx3 := n_rng x3
    refine L_iload_n C (j := 3) (oDec_at oLw_0 10 rfl) rfl rfl ?_
    refine L_aload_n C (j := 0) (oDec_at oLw_0 11 rfl) rfl rfl ?_
    refine L_slen C (oDec_at oLw_0 12 rfl) ?_
    obtain ⟨v1, ev1⟩ : ∃ z : Int32, Int32.ofNat L = z := ⟨_, rfl⟩
    rw [ev1]
    have hv1 : v1.toInt = (L : Int) := n_ofNat ev1 (by omega)
    refine L_bipush C (oDec_at oLw_0 13 rfl) (v := k6) (by rw [qk6]; rfl) ?_
    obtain ⟨v2, ev2⟩ : ∃ z : Int32, z = v1 - k6 := ⟨_, rfl⟩
    have hv2 : v2.toInt = v1.toInt - k6.toInt := n_sub ev2 (by omega) (by omega)
    refine L_isub C v2 (oDec_at oLw_0 14 rfl) ev2 ?_
    refine L_icmp_gt C 1459 (oDec_at oLw_0 15 rfl) (by decide) (fun cd3 => ?_) (fun cd3 => ?_)
    · skip
      refine L_iconst C (oDec_at oLw_20 23 rfl) (v := k1) (by rw [qk1]; rfl) ?_
      exact L_ret1 C qk1 (oDec_at oLw_20 24 rfl)
    · skip
      refine L_aload_n C (j := 0) (oDec_at oLw_0 16 rfl) rfl rfl ?_
      refine L_iload_n C (j := 3) (oDec_at oLw_0 17 rfl) rfl rfl ?_
      refine L_sld C ⟨by omega, by omega⟩ (oDec_at oLw_0 18 rfl) ?_
      obtain ⟨v4, ev4⟩ : ∃ z : Int32, xs x3.toNatClampNeg = z := ⟨_, rfl⟩
      rw [ev4]
      have rv4 := n_rng v4
      refine L_bipush C (oDec_at oLw_0 19 rfl) (v := k63) (by rw [qk63]; rfl) ?_
      obtain ⟨v5, ev5⟩ : ∃ z : Int32, z = v4 &&& k63 := ⟨_, rfl⟩
      have rv5 := n_rng v5
      refine L_iand C v5 (oDec_at oLw_0 20 rfl) ev5 ?_
      have hgo : ∀ (t2 : oS) (y3 : Int32), oLT t2 → (1 ≤ (t2.1 71 38).toInt → 1 ≤ (t2.1 71 42).toInt) → oBI t2 → (oqET t2) → y3.toInt = x3.toInt + 6 → J t2 18 [(0, .ref b), (1, .ref (oad E 0)), (2, .ref (oad E 71)), (3, .int y3)] [] := fun t2 y3 a0 a1 a2 a4 a3 => ih (n - 1) (by omega) t2 y3 a0 a1 a2 a4 (by omega) (by omega)
      by_cases hin : 0 ≤ v5.toInt ∧ v5.toInt ≤ 38
      · rcases o_tab hin with cd6_0 | cd6_1 | cd6_2 | cd6_3 | cd6_4 | cd6_5 | cd6_6 | cd6_7 | cd6_8 | cd6_9 | cd6_10 | cd6_11 | cd6_12 | cd6_13 | cd6_14 | cd6_15 | cd6_16 | cd6_17 | cd6_18 | cd6_19 | cd6_20 | cd6_21 | cd6_22 | cd6_23 | cd6_24 | cd6_25 | cd6_26 | cd6_27 | cd6_28 | cd6_29 | cd6_30 | cd6_31 | cd6_32 | cd6_33 | cd6_34 | cd6_35 | cd6_36 | cd6_37 | cd6_38
        · exact L_tableIn C 204 (oDec_at oLw_0 21 rfl) (by omega) (by omega) (by rw [cd6_0]; rfl) (by decide) (lw_c0 C hL iv0 iv1 iv2 iv3 ⟨iv4.1, by omega⟩ hgo)
        · exact L_tableIn C 267 (oDec_at oLw_0 21 rfl) (by omega) (by omega) (by rw [cd6_1]; rfl) (by decide) (lw_c1 C hL iv0 iv1 iv2 iv3 ⟨iv4.1, by omega⟩ hgo)
        · exact L_tableIn C 290 (oDec_at oLw_0 21 rfl) (by omega) (by omega) (by rw [cd6_2]; rfl) (by decide) (lw_c2 C hL iv0 iv1 iv2 iv3 ⟨iv4.1, by omega⟩ hgo)
        · exact L_tableIn C 303 (oDec_at oLw_0 21 rfl) (by omega) (by omega) (by rw [cd6_3]; rfl) (by decide) (lw_c3 C hL iv0 iv1 iv2 iv3 ⟨iv4.1, by omega⟩ hgo)
        · exact L_tableIn C 316 (oDec_at oLw_0 21 rfl) (by omega) (by omega) (by rw [cd6_4]; rfl) (by decide) (lw_c4 C hL iv0 iv1 iv2 iv3 ⟨iv4.1, by omega⟩ hgo)
        · exact L_tableIn C 339 (oDec_at oLw_0 21 rfl) (by omega) (by omega) (by rw [cd6_5]; rfl) (by decide) (lw_c5 C hL iv0 iv1 iv2 iv3 ⟨iv4.1, by omega⟩ hgo)
        · exact L_tableIn C 362 (oDec_at oLw_0 21 rfl) (by omega) (by omega) (by rw [cd6_6]; rfl) (by decide) (lw_c6 C hL iv0 iv1 iv2 iv3 ⟨iv4.1, by omega⟩ hgo)
        · exact L_tableIn C 395 (oDec_at oLw_0 21 rfl) (by omega) (by omega) (by rw [cd6_7]; rfl) (by decide) (lw_c7 C hL iv0 iv1 iv2 iv3 ⟨iv4.1, by omega⟩ hgo)
        · exact L_tableIn C 428 (oDec_at oLw_0 21 rfl) (by omega) (by omega) (by rw [cd6_8]; rfl) (by decide) (lw_c8 C hL iv0 iv1 iv2 iv3 ⟨iv4.1, by omega⟩ hgo)
        · exact L_tableIn C 471 (oDec_at oLw_0 21 rfl) (by omega) (by omega) (by rw [cd6_9]; rfl) (by decide) (lw_c9 C hL iv0 iv1 iv2 iv3 ⟨iv4.1, by omega⟩ hgo)
        · exact L_tableIn C 534 (oDec_at oLw_0 21 rfl) (by omega) (by omega) (by rw [cd6_10]; rfl) (by decide) (lw_c10 C hL iv0 iv1 iv2 iv3 ⟨iv4.1, by omega⟩ hgo)
        · exact L_tableIn C 567 (oDec_at oLw_0 21 rfl) (by omega) (by omega) (by rw [cd6_11]; rfl) (by decide) (lw_c11 C hL iv0 iv1 iv2 iv3 ⟨iv4.1, by omega⟩ hgo)
        · exact L_tableIn C 600 (oDec_at oLw_0 21 rfl) (by omega) (by omega) (by rw [cd6_12]; rfl) (by decide) (lw_c12 C hL iv0 iv1 iv2 iv3 ⟨iv4.1, by omega⟩ hgo)
        · exact L_tableIn C 643 (oDec_at oLw_0 21 rfl) (by omega) (by omega) (by rw [cd6_13]; rfl) (by decide) (lw_c13 C hL iv0 iv1 iv2 iv3 ⟨iv4.1, by omega⟩ hgo)
        · exact L_tableIn C 686 (oDec_at oLw_0 21 rfl) (by omega) (by omega) (by rw [cd6_14]; rfl) (by decide) (lw_c14 C hL iv0 iv1 iv2 iv3 ⟨iv4.1, by omega⟩ hgo)
        · exact L_tableIn C 729 (oDec_at oLw_0 21 rfl) (by omega) (by omega) (by rw [cd6_15]; rfl) (by decide) (lw_c15 C hL iv0 iv1 iv2 iv3 ⟨iv4.1, by omega⟩ hgo)
        · exact L_tableIn C 778 (oDec_at oLw_0 21 rfl) (by omega) (by omega) (by rw [cd6_16]; rfl) (by decide) (lw_c16 C hL iv0 iv1 iv2 iv3 ⟨iv4.1, by omega⟩ hgo)
        · exact L_tableIn C 801 (oDec_at oLw_0 21 rfl) (by omega) (by omega) (by rw [cd6_17]; rfl) (by decide) (lw_c17 C hL iv0 iv1 iv2 iv3 ⟨iv4.1, by omega⟩ hgo)
        · exact L_tableIn C 844 (oDec_at oLw_0 21 rfl) (by omega) (by omega) (by rw [cd6_18]; rfl) (by decide) (lw_c18 C hL iv0 iv1 iv2 iv3 ⟨iv4.1, by omega⟩ hgo)
        · exact L_tableIn C 867 (oDec_at oLw_0 21 rfl) (by omega) (by omega) (by rw [cd6_19]; rfl) (by decide) (lw_c19 C hL iv0 iv1 iv2 iv3 ⟨iv4.1, by omega⟩ hgo)
        · exact L_tableIn C 900 (oDec_at oLw_0 21 rfl) (by omega) (by omega) (by rw [cd6_20]; rfl) (by decide) (lw_c20 C hL iv0 iv1 iv2 iv3 ⟨iv4.1, by omega⟩ hgo)
        · exact L_tableIn C 933 (oDec_at oLw_0 21 rfl) (by omega) (by omega) (by rw [cd6_21]; rfl) (by decide) (lw_c21 C hL iv0 iv1 iv2 iv3 ⟨iv4.1, by omega⟩ hgo)
        · exact L_tableIn C 956 (oDec_at oLw_0 21 rfl) (by omega) (by omega) (by rw [cd6_22]; rfl) (by decide) (lw_c22 C hL iv0 iv1 iv2 iv3 ⟨iv4.1, by omega⟩ hgo)
        · exact L_tableIn C 979 (oDec_at oLw_0 21 rfl) (by omega) (by omega) (by rw [cd6_23]; rfl) (by decide) (lw_c23 C hL iv0 iv1 iv2 iv3 ⟨iv4.1, by omega⟩ hgo)
        · exact L_tableIn C 1002 (oDec_at oLw_0 21 rfl) (by omega) (by omega) (by rw [cd6_24]; rfl) (by decide) (lw_c24 C hL iv0 iv1 iv2 iv3 ⟨iv4.1, by omega⟩ hgo)
        · exact L_tableIn C 1035 (oDec_at oLw_0 21 rfl) (by omega) (by omega) (by rw [cd6_25]; rfl) (by decide) (lw_c25 C hL iv0 iv1 iv2 iv3 ⟨iv4.1, by omega⟩ hgo)
        · exact L_tableIn C 1058 (oDec_at oLw_0 21 rfl) (by omega) (by omega) (by rw [cd6_26]; rfl) (by decide) (lw_c26 C hL iv0 iv1 iv2 iv3 ⟨iv4.1, by omega⟩ hgo)
        · exact L_tableIn C 1071 (oDec_at oLw_0 21 rfl) (by omega) (by omega) (by rw [cd6_27]; rfl) (by decide) (lw_c27 C hL iv0 iv1 iv2 iv3 ⟨iv4.1, by omega⟩ hgo)
        · exact L_tableIn C 1120 (oDec_at oLw_0 21 rfl) (by omega) (by omega) (by rw [cd6_28]; rfl) (by decide) (lw_c28 C hL iv0 iv1 iv2 iv3 ⟨iv4.1, by omega⟩ hgo)
        · exact L_tableIn C 1153 (oDec_at oLw_0 21 rfl) (by omega) (by omega) (by rw [cd6_29]; rfl) (by decide) (lw_c29 C hL iv0 iv1 iv2 iv3 ⟨iv4.1, by omega⟩ hgo)
        · exact L_tableIn C 1176 (oDec_at oLw_0 21 rfl) (by omega) (by omega) (by rw [cd6_30]; rfl) (by decide) (lw_c30 C hL iv0 iv1 iv2 iv3 ⟨iv4.1, by omega⟩ hgo)
        · exact L_tableIn C 1219 (oDec_at oLw_0 21 rfl) (by omega) (by omega) (by rw [cd6_31]; rfl) (by decide) (lw_c31 C hL iv0 iv1 iv2 iv3 ⟨iv4.1, by omega⟩ hgo)
        · exact L_tableIn C 1252 (oDec_at oLw_0 21 rfl) (by omega) (by omega) (by rw [cd6_32]; rfl) (by decide) (lw_c32 C hL iv0 iv1 iv2 iv3 ⟨iv4.1, by omega⟩ hgo)
        · exact L_tableIn C 1295 (oDec_at oLw_0 21 rfl) (by omega) (by omega) (by rw [cd6_33]; rfl) (by decide) (lw_c33 C hL iv0 iv1 iv2 iv3 ⟨iv4.1, by omega⟩ hgo)
        · exact L_tableIn C 1328 (oDec_at oLw_0 21 rfl) (by omega) (by omega) (by rw [cd6_34]; rfl) (by decide) (lw_c34 C hL iv0 iv1 iv2 iv3 ⟨iv4.1, by omega⟩ hgo)
        · exact L_tableIn C 1361 (oDec_at oLw_0 21 rfl) (by omega) (by omega) (by rw [cd6_35]; rfl) (by decide) (lw_c35 C hL iv0 iv1 iv2 iv3 ⟨iv4.1, by omega⟩ hgo)
        · exact L_tableIn C 1404 (oDec_at oLw_0 21 rfl) (by omega) (by omega) (by rw [cd6_36]; rfl) (by decide) (lw_c36 C hL iv0 iv1 iv2 iv3 ⟨iv4.1, by omega⟩ hgo)
        · exact L_tableIn C 1417 (oDec_at oLw_0 21 rfl) (by omega) (by omega) (by rw [cd6_37]; rfl) (by decide) (lw_c37 C hL iv0 iv1 iv2 iv3 ⟨iv4.1, by omega⟩ hgo)
        · exact L_tableIn C 1440 (oDec_at oLw_0 21 rfl) (by omega) (by omega) (by rw [cd6_38]; rfl) (by decide) (lw_c38 C hL iv0 iv1 iv2 iv3 ⟨iv4.1, by omega⟩ hgo)
      · refine L_tableOut C 1453 (oDec_at oLw_0 21 rfl) (by omega) (by decide) ?_
        obtain ⟨v7, ev7⟩ : ∃ z : Int32, x3 + Int32.ofInt 6 = z := ⟨_, rfl⟩
        have hv7 : v7.toInt = x3.toInt + 6 := n_inc ev7 (by decide) (by omega) (by omega)
        refine L_iinc C (j := 3) (lv' := [(0, .ref b), (1, .ref (oad E 0)), (2, .ref (oad E 71)), (3, .int v7)]) v7 [1, 2, 3, 0] (oDec_at oLw_20 21 rfl) rfl ev7 (by decide) rfl ?_
        refine L_goto C (tgt := 18) (oDec_at oLw_20 22 rfl) (by decide) ?_
        exact ih (n - 1) (by omega) (t) v7 iv0 (by omega) iv2 iv3 (by omega) (by omega)
