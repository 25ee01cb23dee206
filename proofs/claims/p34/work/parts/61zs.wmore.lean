/-! what is written behind what was written -/
/-- what omega need not see -/
def owHid (p : Prop) : Prop := p
def oqCa (S : List Int) (c : oqCw) : oqCw := (c.1, c.2.1, c.2.2.1, c.2.2.2.1, c.2.2.2.2.1, c.2.2.2.2.2 ++ S)
section CA
variable {g : Int → Int} {p q a b o : Int} {K R S : List Int}
theorem oqCa_0 : ((oqW0 g a b o K (R ++ S)).1 = 9 ∧ (oqW0 g a b o K R).1 = 9) ∨ oqW0 g a b o K (R ++ S) = oqCa S (oqW0 g a b o K R) := by
  unfold oqW0
  by_cases h1 : g a = 91
  · simp only [if_pos h1]
    by_cases h2 : 6 ≤ o
    · simp only [if_pos h2]; left; simp
    · simp only [if_neg h2]; right; rfl
  · simp only [if_neg h1]
    by_cases h3 : oqWi g a b = 9
    · simp only [if_pos h3]
      by_cases h2 : 6 ≤ o
      · simp only [if_pos h2]; left; simp
      · simp only [if_neg h2]; right; rfl
    · simp only [if_neg h3]
      by_cases h4 : oqWi g a b = 10
      · simp only [if_pos h4]; right; rfl
      · simp only [if_neg h4]; right; rfl
theorem oqCa_1 : ((oqW1 g p q a b o K (R ++ S)).1 = 9 ∧ (oqW1 g p q a b o K R).1 = 9) ∨ oqW1 g p q a b o K (R ++ S) = oqCa S (oqW1 g p q a b o K R) := by
  unfold oqW1
  by_cases h1 : g a = 40
  · simp only [if_pos h1]
    by_cases h2 : 6 ≤ o
    · simp only [if_pos h2]; left; simp
    · simp only [if_neg h2]; right; rfl
  · simp only [if_neg h1]
    by_cases h3 : oqWi g a b = 24 ∨ oqWi g a b = 25
    · simp only [if_pos h3]
      by_cases h2 : 6 ≤ o
      · simp only [if_pos h2]; left; simp
      · simp only [if_neg h2]; right; rfl
    · simp only [if_neg h3]
      by_cases h4 : p ≤ oqWi g a b ∧ oqWi g a b < q
      · simp only [if_pos h4]; right; rfl
      · simp only [if_neg h4]
        by_cases h5 : oqNk g a b 0 9999 ≠ 0
        · simp only [if_pos h5]; left; simp
        · simp only [if_neg h5]; right; rfl
theorem oqCa_2 : oqW2 g a b o (R ++ S) K = oqCa S (oqW2 g a b o R K) := by
  cases K with
  | nil =>
    rw [oqW2_n, oqW2_n]
    by_cases h1 : oqWi g a b = 8
    · simp only [if_pos h1]; rfl
    · simp only [if_neg h1]
      by_cases h2 : oqWi g a b = 7
      · simp only [if_pos h2]; rfl
      · simp only [if_neg h2]; rfl
  | cons k L =>
    rw [oqW2_c, oqW2_c]
    by_cases h1 : k = 16
    · simp only [if_pos h1]; rfl
    · simp only [if_neg h1]
      by_cases h2 : k = 14
      · simp only [if_pos h2]; rfl
      · simp only [if_neg h2]
        by_cases h3 : oqWi g a b = 8
        · simp only [if_pos h3]; rfl
        · simp only [if_neg h3]
          by_cases h4 : k = 15
          · simp only [if_pos h4]; rfl
          · simp only [if_neg h4]
            by_cases h5 : oqWi g a b = 7
            · simp only [if_pos h5]; rfl
            · simp only [if_neg h5]; rfl
theorem oqCa_3 : oqW3 g a b o (R ++ S) K = oqCa S (oqW3 g a b o R K) := by
  cases K with
  | nil => rfl
  | cons k L =>
    rw [oqW3_c, oqW3_c]
    by_cases h1 : k = 3 ∨ k = 4
    · simp only [if_pos h1]; rfl
    · simp only [if_neg h1]
      by_cases h2 : (k = 1 ∨ k = 2) ∧ ¬ oqMu g a
      · simp only [if_pos h2]; rfl
      · simp only [if_neg h2]
        by_cases h3 : oqOp g a
        · simp only [if_pos h3]; rfl
        · simp only [if_neg h3]
          by_cases h4 : k = 20
          · simp only [if_pos h4]; rfl
          · simp only [if_neg h4]
            by_cases h5 : k = 21 ∨ k = 22
            · simp only [if_pos h5]; rfl
            · simp only [if_neg h5]
              by_cases h6 : k = 23 ∨ k = 24
              · simp only [if_pos h6]; rfl
              · simp only [if_neg h6]
                by_cases h7 : k = 30
                · simp only [if_pos h7]; rfl
                · simp only [if_neg h7]; rfl
theorem oqCa_s {c : oqCw} : ((oqWs g p q (oqCa S c)).1 = 9 ∧ (oqWs g p q c).1 = 9) ∨ oqWs g p q (oqCa S c) = oqCa S (oqWs g p q c) := by
  obtain ⟨m, a, b, o, K, R⟩ := c
  by_cases h0 : m = 0
  · subst h0; exact oqCa_0
  · by_cases h1 : m = 1
    · subst h1; exact oqCa_1
    · by_cases h2 : m = 2
      · subst h2; right; exact oqCa_2
      · by_cases h3 : m = 3
        · subst h3; right; exact oqCa_3
        · right
          unfold oqWs oqCa
          simp only [if_neg h0, if_neg h1, if_neg h2, if_neg h3]
theorem oqCa_t : ∀ (n : Nat) {c : oqCw}, ((oqWit g p q n (oqCa S c)).1 = 9 ∧ (oqWit g p q n c).1 = 9) ∨ oqWit g p q n (oqCa S c) = oqCa S (oqWit g p q n c)
  | 0, c => Or.inr rfl
  | n + 1, c => by
    show ((oqWit g p q n (oqWs g p q (oqCa S c))).1 = 9 ∧ (oqWit g p q n (oqWs g p q c)).1 = 9) ∨ oqWit g p q n (oqWs g p q (oqCa S c)) = oqCa S (oqWit g p q n (oqWs g p q c))
    rcases oqCa_s (g := g) (p := p) (q := q) (S := S) (c := c) with ⟨h1, h2⟩ | h
    · left
      rw [oqWit_fix (by rw [h1]; decide), oqWit_fix (by rw [h2]; decide)]
      exact ⟨h1, h2⟩
    · rw [h]
      exact oqCa_t n
theorem owEn_ap {t x y : Int} {Z Z' : List Int} (h : oqTw g p q (0, oqSk g t, t, 0, [], Z) (8, x, y, o, [], Z')) : ∃ w, owEn g p q t w ∧ Z' = w ++ Z := by
  obtain ⟨n, e⟩ := h
  have h1 := oqCa_t (g := g) (p := p) (q := q) (S := Z) n (c := (0, oqSk g t, t, 0, [], []))
  have ec : oqCa Z (0, oqSk g t, t, 0, [], []) = (0, oqSk g t, t, 0, [], Z) := rfl
  rw [ec, e] at h1
  rcases h1 with ⟨h1, -⟩ | h1
  · exact absurd h1 (by show ¬ (8 = 9); decide)
  · obtain ⟨m', x', y', o', K', R', hd⟩ : ∃ m' x' y' o' K' R', oqWit g p q n (0, oqSk g t, t, 0, [], []) = (m', x', y', o', K', R') := ⟨_, _, _, _, _, _, rfl⟩
    rw [hd] at h1
    injection h1 with e1 e2
    injection e2 with e3 e4
    injection e4 with e5 e6
    injection e6 with e7 e8
    injection e8 with e9 e10
    refine ⟨R', ⟨x', y', o', n, ?_⟩, e10⟩
    have f1 : m' = 8 := e1.symm
    have f9 : K' = [] := e9.symm
    rw [hd, f1, f9]
end CA
theorem oqCl_len {w : Nat → Int32} {cs : Nat} : ∀ {n : Nat}, (oqCl w cs n).length = n
  | 0 => rfl
  | n + 1 => by
    show (oqCl w cs n).length + 1 = n + 1
    rw [oqCl_len]
theorem oqRy_len {t : oS} : ((oqRy 0 t).length : Int) = ((t.1 71 45).toNatClampNeg : Int) := by
  unfold oqRy
  rw [oqCl_len]
  omega
theorem oqRy_e {s u : oS} (h1 : u.1 102 = s.1 102) (h2 : u.1 71 45 = s.1 71 45) : oqRy 0 u = oqRy 0 s := by
  unfold oqRy
  rw [h1, h2]
/-- a piece of what is laid stands where it was laid -/
theorem oqCl_at {w f : Nat → Int32} : ∀ {n : Nat} {U V D : List Int}, oqCl w 0 n = U ++ (V ++ D) → (∀ j : Nat, j < n → f j = w (1600 + j)) → oqOu (fun j => (f j).toInt) (D.length + V.length) V
  | n, U, [], D, _, _ => trivial
  | 0, U, v :: V, D, h, _ => by
    exfalso
    have e := congrArg List.length h
    rw [List.length_append, List.length_append, List.length_cons] at e
    have e0 : (oqCl w 0 0).length = 0 := rfl
    omega
  | n + 1, [], v :: V, D, h, hf => by
    have h' : (w (1600 + 0 + n)).toInt :: oqCl w 0 n = v :: (V ++ D) := h
    injection h' with h1 h2
    have e := congrArg List.length h2
    rw [oqCl_len, List.length_append] at e
    refine ⟨n, by rw [List.length_cons]; omega, ?_, ?_⟩
    · show (f n).toInt = v
      rw [hf n (by omega), ← h1, show 1600 + 0 + n = 1600 + n by omega]
    · rw [show n = D.length + V.length by omega]
      exact oqCl_at (n := n) (U := []) h2 (fun j hj => hf j (by omega))
  | n + 1, x :: U, v :: V, D, h, hf => by
    have h' : (w (1600 + 0 + n)).toInt :: oqCl w 0 n = x :: (U ++ (v :: V ++ D)) := h
    injection h' with h1 h2
    exact oqCl_at (n := n) (U := U) h2 (fun j hj => hf j (by omega))
/-! the reference's book while it is read -/
def owYl (Z : List Int) (t : oS) : Prop := (t.1 71 5).toInt = 0 → oqRy 0 t = Z
theorem owYl_fr {M : List (Nat × Nat)} {s u : oS} {Z : List Int} (hf : oFr M s u) (hm : (oin M 12 5 || (oin M 12 45 || oinK M 78)) = false) (h : owYl Z s) : owYl Z u := fun hb => by
  simp only [Bool.or_eq_false_iff] at hm
  rw [(hf 71 5 hm.1).1] at hb
  rw [oqRy_e (oFr_row hf (c := 102) rfl hm.2.2) (hf 71 45 hm.2.1).1]
  exact h hb
theorem owYl_frb {M : List (Nat × Nat)} {s u : oS} {Z : List Int} (hf : oFr M s u) (hm : (oin M 12 45 || oinK M 78) = false) (hb : (u.1 71 5).toInt = 0 → (s.1 71 5).toInt = 0) (h : owYl Z s) : owYl Z u := fun h9 => by
  simp only [Bool.or_eq_false_iff] at hm
  rw [oqRy_e (oFr_row hf (c := 102) rfl hm.2) (hf 71 45 hm.1).1]
  exact h (hb h9)
def owRB (R : Int) (W : Nat → List Int) (Z : List Int) (t : oS) : Prop := ∀ k : Nat, (k : Int) < R → (oqTs 24 (W k) = some [true] ∧ oqOkR (W k)) ∧ ∃ U D, Z = U ++ (W k ++ D) ∧ (t.1 105 (24 + k)).toInt = (D.length : Int) ∧ (t.1 106 (24 + k)).toInt = (D.length : Int) + ((W k).length : Int)
theorem owRB_fr {M : List (Nat × Nat)} {s u : oS} {R : Int} {W : Nat → List Int} {Z : List Int} (hf : oFr M s u) (hm : (oinK M 81 || oinK M 82) = false) (h : owRB R W Z s) : owRB R W Z u := fun k hk => by
  simp only [Bool.or_eq_false_iff] at hm
  obtain ⟨h1, U, D, h2, h3, h4⟩ := h k hk
  exact ⟨h1, U, D, h2, by rw [oFr_row hf (c := 105) rfl hm.1]; exact h3, by rw [oFr_row hf (c := 106) rfl hm.2]; exact h4⟩
/-- a test is told -/
def owTd (g : Int → Int) (p q w i0 : Int) (Z : List Int) (s u : oS) : Prop := ∃ w1, owEn g p q (oqHa g w 6) w1 ∧ oqRy 0 u = w1 ++ Z ∧ ∃ i : Nat, (i : Int) = i0 ∧ (u.1 105 i).toInt = (Z.length : Int) ∧ (u.1 106 i).toInt = (Z.length : Int) + (w1.length : Int) ∧ ∀ j : Nat, j ≠ i → u.1 105 j = s.1 105 j ∧ u.1 106 j = s.1 106 j
theorem owRB_r {g : Int → Int} {h i0 R : Int} {Z : List Int} {W : Nat → List Int} {s u : oS} (hb : owRB R W Z s) (ht : owTd g 11 19 h i0 Z s u) (hi : i0 = 24 + R) : owRB (R + 1) (owUw W R (owWt g h)) (oqRy 0 u) u := by
  obtain ⟨w1, h1, h2, i, h3, h4, h5, h6⟩ := ht
  intro k hk
  by_cases e : (k : Int) = R
  · rw [owUw_y e, owWt_e h1]
    have ei : 24 + k = i := by omega
    refine ⟨owEn_ty (by omega) h1, [], Z, by rw [h2]; rfl, ?_, ?_⟩
    · rw [ei]; exact h4
    · rw [ei]; exact h5
  · rw [owUw_n e]
    obtain ⟨q1, U, D, q2, q3, q4⟩ := hb k (by omega)
    have e6 := h6 (24 + k) (by omega)
    refine ⟨q1, w1 ++ U, D, by rw [h2, q2, List.append_assoc], ?_, ?_⟩
    · rw [e6.1]; exact q3
    · rw [e6.2]; exact q4
theorem owRB_m {g : Int → Int} {p q h i0 R : Int} {Z : List Int} {W : Nat → List Int} {s u : oS} (hb : owRB R W Z s) (ht : owTd g p q h i0 Z s u) (hi : 36 ≤ i0) (hR : R ≤ 12) : owRB R W (oqRy 0 u) u := by
  obtain ⟨w1, h1, h2, i, h3, h4, h5, h6⟩ := ht
  intro k hk
  obtain ⟨q1, U, D, q2, q3, q4⟩ := hb k hk
  have e6 := h6 (24 + k) (by omega)
  refine ⟨q1, w1 ++ U, D, by rw [h2, q2, List.append_assoc], ?_, ?_⟩
  · rw [e6.1]; exact q3
  · rw [e6.2]; exact q4
def owLw (Fq Tq : Nat → Int32) (nq : Int32) (t : oS) : Prop := (∀ j : Nat, j < 24 → t.1 105 j = Fq j ∧ t.1 106 j = Tq j) ∧ t.1 104 0 = nq
theorem owLw_fr {M : List (Nat × Nat)} {s u : oS} {Fq Tq : Nat → Int32} {nq : Int32} (hf : oFr M s u) (hm : (oinK M 80 || (oinK M 81 || oinK M 82)) = false) (h : owLw Fq Tq nq s) : owLw Fq Tq nq u := by
  simp only [Bool.or_eq_false_iff] at hm
  refine ⟨fun j hj => ?_, ?_⟩
  · rw [oFr_row hf (c := 105) rfl hm.2.1, oFr_row hf (c := 106) rfl hm.2.2]
    exact h.1 j hj
  · rw [oFr_row hf (c := 104) rfl hm.1]
    exact h.2
theorem owLw_5 {s : oS} {Fq Tq : Nat → Int32} {nq i v : Int32} (h : owLw Fq Tq nq s) (hi : 24 ≤ i.toInt) : owLw Fq Tq nq (pI s 105 i.toNatClampNeg v) := by
  have hn := n_nat i
  refine ⟨fun j hj => ?_, ?_⟩
  · rw [pI_ne _ _ (Or.inr (by omega)), pI_ne _ _ (Or.inl (by decide))]
    exact h.1 j hj
  · rw [pI_ne _ _ (Or.inl (by decide))]
    exact h.2
theorem owLw_6 {s : oS} {Fq Tq : Nat → Int32} {nq i v : Int32} (h : owLw Fq Tq nq s) (hi : 24 ≤ i.toInt) : owLw Fq Tq nq (pI s 106 i.toNatClampNeg v) := by
  have hn := n_nat i
  refine ⟨fun j hj => ?_, ?_⟩
  · rw [pI_ne _ _ (Or.inl (by decide)), pI_ne _ _ (Or.inr (by omega))]
    exact h.1 j hj
  · rw [pI_ne _ _ (Or.inl (by decide))]
    exact h.2
theorem owLw_4 {s : oS} {Fq Tq : Nat → Int32} {nq i v : Int32} (h : owLw Fq Tq nq s) (hi : 1 ≤ i.toInt) : owLw Fq Tq nq (pI s 104 i.toNatClampNeg v) := by
  have hn := n_nat i
  refine ⟨fun j hj => ?_, ?_⟩
  · rw [pI_ne _ _ (Or.inl (by decide)), pI_ne _ _ (Or.inl (by decide))]
    exact h.1 j hj
  · rw [pI_ne _ _ (Or.inr (by omega))]
    exact h.2
theorem owTx_0 {s : oS} {g : Int → Int} {p q A : Int} {Z : List Int} (ha : (s.1 71 2).toInt = A) (he : (s.1 71 4).toInt = A) (ho : (s.1 71 48).toInt = 0) (hw : (s.1 71 47).toInt = 0) (hY : owYl Z s) : oqTx g p q (0, oqSk g A, A, 0, [], Z) 0 0 s := fun hb => by
  have hn := n_nat (s.1 71 47)
  have hk : oqKt s = [] := by
    unfold oqKt
    rw [show (s.1 71 47).toNatClampNeg = 0 by omega]
    rfl
  rw [ha, he, ho, hk, hY hb]
  exact ⟨oqTw.rf, Nat.zero_le _⟩
def owR5 (F : Nat → Int32) (t : oS) : Prop := t.1 105 = F
theorem owR5_fr {M : List (Nat × Nat)} {s u : oS} {F : Nat → Int32} (hf : oFr M s u) (hm : (oinK M 81) = false) (h : owR5 F s) : owR5 F u := (oFr_row hf (c := 105) rfl hm).trans h
theorem owR5_pu {s : oS} {F : Nat → Int32} {k : Nat} {v : Int32} (h : owR5 F s) : owR5 (oU F k v) (pI s 105 k v) := oqRow_pu.trans (by rw [h])
def owR6 (F : Nat → Int32) (t : oS) : Prop := t.1 106 = F
theorem owR6_fr {M : List (Nat × Nat)} {s u : oS} {F : Nat → Int32} (hf : oFr M s u) (hm : (oinK M 82) = false) (h : owR6 F s) : owR6 F u := (oFr_row hf (c := 106) rfl hm).trans h
theorem owR6_pu {s : oS} {F : Nat → Int32} {k : Nat} {v : Int32} (h : owR6 F s) : owR6 (oU F k v) (pI s 106 k v) := oqRow_pu.trans (by rw [h])
theorem owTd_of {g : Int → Int} {p q w i0 : Int} {Z : List Int} {s u : oS} {i : Nat} {v v' : Int32} (hE : oqE8w g p q (0, oqSk g (oqHa g w 6), oqHa g w 6, 0, [], Z) 0 u) (hb : (u.1 71 5).toInt = 0) (h5 : owR5 (oU (s.1 105) i v) u) (h6 : owR6 (oU (s.1 106) i v') u) (hv : v.toInt = (Z.length : Int)) (hv' : v'.toInt = (u.1 71 45).toInt) (h45 : 0 ≤ (u.1 71 45).toInt) (hi : (i : Int) = i0) : owTd g p q w i0 Z s u := by
  obtain ⟨h1, -⟩ := hE hb
  obtain ⟨w1, h2, h3⟩ := owEn_ap h1
  have hl := oqRy_len (t := u)
  have hn := n_nat (u.1 71 45)
  rw [h3, List.length_append] at hl
  refine ⟨w1, h2, h3, i, hi, ?_, ?_, fun j hj => ⟨?_, ?_⟩⟩
  · rw [h5]; exact (congrArg Int32.toInt (if_pos rfl)).trans hv
  · rw [h6]; refine (congrArg Int32.toInt (if_pos rfl)).trans ?_; omega
  · rw [h5]; exact if_neg hj
  · rw [h6]; exact if_neg hj
