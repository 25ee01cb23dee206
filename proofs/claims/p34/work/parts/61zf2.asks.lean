/-! what the reference asks -/
def owBE (R : Int) (W : Nat → List Int) (t : oS) : Prop := (t.1 104 0).toInt = R ∧ ∀ k : Nat, (k : Int) < R → oqRst k (W k) t
theorem owBE_fr {M : List (Nat × Nat)} {s u : oS} {R : Int} {W : Nat → List Int} (hf : oFr M s u) (hm : (oinK M 80 || (oinK M 78 || (oinK M 81 || oinK M 82))) = false) (h : owBE R W s) : owBE R W u := by
  rw [Bool.or_eq_false_iff] at hm
  refine ⟨?_, fun k hk => oqRst_fr hf hm.2 (h.2 k hk)⟩
  rw [(hf 104 0 (oinK_in hm.1 _)).1]
  exact h.1
def owMM (me : Int) (t : oS) : Prop := (t.1 71 53).toInt = me
theorem owMM_fr {M : List (Nat × Nat)} {s u : oS} {me : Int} (hf : oFr M s u) (hm : oin M 12 53 = false) (h : owMM me s) : owMM me u := by
  unfold owMM
  rw [(hf 71 53 hm).1]
  exact h
def owLO (t : oS) : Prop := (t.1 71 64).toInt = -1
theorem owLO_fr {M : List (Nat × Nat)} {s u : oS} (hf : oFr M s u) (hm : oin M 12 64 = false) (h : owLO s) : owLO u := by
  unfold owLO
  rw [(hf 71 64 hm).1]
  exact h
def owQA (fa : Nat → Int) (t : oS) : Prop := ∀ i : Nat, i < 8 → (t.1 109 i).toInt = fa i
theorem owQA_fr {M : List (Nat × Nat)} {s u : oS} {fa : Nat → Int} (hf : oFr M s u) (hm : oinK M 85 = false) (h : owQA fa s) : owQA fa u := fun i hi => by
  rw [(hf 109 i (oinK_in hm _)).1]
  exact h i hi
theorem owAb_n {a : Int} : owAb (-a) = owAb a := by
  unfold owAb
  split <;> split <;> omega
/-- packed, and taken apart -/
def owPk (T ra rb l : Int) : Int := ((T * 64 + ra + 32) * 64 + rb + 32) * 2 + l
theorem owQA_8 {s : oS} {D w T ra rb l : Int} {i0 i1 i2 i3 i4 i5 i6 i7 v0 v1 v2 v3 v4 v5 v6 v7 : Int32} (h0 : i0.toInt = 0) (h1 : i1.toInt = 1) (h2 : i2.toInt = 2) (h3 : i3.toInt = 3) (h4 : i4.toInt = 4) (h5 : i5.toInt = 5) (h6 : i6.toInt = 6) (h7 : i7.toInt = 7) (hT : 0 ≤ T ∧ T ≤ 11) (ha : -28 ≤ ra ∧ ra ≤ 28) (hb : -28 ≤ rb ∧ rb ≤ 28) (hl : 0 ≤ l ∧ l ≤ 1) (e0 : v0.toInt = owAb D) (e1 : v1.toInt = owAb D % 7) (e2 : v2.toInt = if D < 0 then 1 else 0) (e3 : v3.toInt = T) (e4 : v4.toInt = ra) (e5 : v5.toInt = rb) (e6 : v6.toInt = w) (e7 : v7.toInt = l) : owQA (owFm D w (owPk T ra rb l)) (pI (pI (pI (pI (pI (pI (pI (pI s 109 i0.toNatClampNeg v0) 109 i1.toNatClampNeg v1) 109 i2.toNatClampNeg v2) 109 i3.toNatClampNeg v3) 109 i4.toNatClampNeg v4) 109 i5.toNatClampNeg v5) 109 i6.toNatClampNeg v6) 109 i7.toNatClampNeg v7) := by
  have n0 : i0.toNatClampNeg = 0 := by have := n_nat i0; omega
  have n1 : i1.toNatClampNeg = 1 := by have := n_nat i1; omega
  have n2 : i2.toNatClampNeg = 2 := by have := n_nat i2; omega
  have n3 : i3.toNatClampNeg = 3 := by have := n_nat i3; omega
  have n4 : i4.toNatClampNeg = 4 := by have := n_nat i4; omega
  have n5 : i5.toNatClampNeg = 5 := by have := n_nat i5; omega
  have n6 : i6.toNatClampNeg = 6 := by have := n_nat i6; omega
  have n7 : i7.toNatClampNeg = 7 := by have := n_nat i7; omega
  have f0 : v0.toInt = owFm D w (owPk T ra rb l) 0 := e0
  have f1 : v1.toInt = owFm D w (owPk T ra rb l) 1 := e1
  have f2 : v2.toInt = owFm D w (owPk T ra rb l) 2 := e2
  have f3 : v3.toInt = owFm D w (owPk T ra rb l) 3 := by show _ = owPk T ra rb l / 8192; unfold owPk; omega
  have f4 : v4.toInt = owFm D w (owPk T ra rb l) 4 := by show _ = owPk T ra rb l / 128 % 64 - 32; unfold owPk; omega
  have f5 : v5.toInt = owFm D w (owPk T ra rb l) 5 := by show _ = owPk T ra rb l / 2 % 64 - 32; unfold owPk; omega
  have f6 : v6.toInt = owFm D w (owPk T ra rb l) 6 := e6
  have f7 : v7.toInt = owFm D w (owPk T ra rb l) 7 := by show _ = owPk T ra rb l % 2; unfold owPk; omega
  rw [n0, n1, n2, n3, n4, n5, n6, n7]
  intro i hi
  have h8 : i = 0 ∨ i = 1 ∨ i = 2 ∨ i = 3 ∨ i = 4 ∨ i = 5 ∨ i = 6 ∨ i = 7 := by omega
  rcases h8 with rfl | rfl | rfl | rfl | rfl | rfl | rfl | rfl
  all_goals
    first
      | (rw [pI_self]; assumption)
      | (rw [pI_ne _ _ (Or.inr (by decide)), pI_self]; assumption)
      | (rw [pI_ne _ _ (Or.inr (by decide)), pI_ne _ _ (Or.inr (by decide)), pI_self]; assumption)
      | (rw [pI_ne _ _ (Or.inr (by decide)), pI_ne _ _ (Or.inr (by decide)), pI_ne _ _ (Or.inr (by decide)), pI_self]; assumption)
      | (rw [pI_ne _ _ (Or.inr (by decide)), pI_ne _ _ (Or.inr (by decide)), pI_ne _ _ (Or.inr (by decide)), pI_ne _ _ (Or.inr (by decide)), pI_self]; assumption)
      | (rw [pI_ne _ _ (Or.inr (by decide)), pI_ne _ _ (Or.inr (by decide)), pI_ne _ _ (Or.inr (by decide)), pI_ne _ _ (Or.inr (by decide)), pI_ne _ _ (Or.inr (by decide)), pI_self]; assumption)
      | (rw [pI_ne _ _ (Or.inr (by decide)), pI_ne _ _ (Or.inr (by decide)), pI_ne _ _ (Or.inr (by decide)), pI_ne _ _ (Or.inr (by decide)), pI_ne _ _ (Or.inr (by decide)), pI_ne _ _ (Or.inr (by decide)), pI_self]; assumption)
      | (rw [pI_ne _ _ (Or.inr (by decide)), pI_ne _ _ (Or.inr (by decide)), pI_ne _ _ (Or.inr (by decide)), pI_ne _ _ (Or.inr (by decide)), pI_ne _ _ (Or.inr (by decide)), pI_ne _ _ (Or.inr (by decide)), pI_ne _ _ (Or.inr (by decide)), pI_self]; assumption)
/-- what a moment has: the same by the steps of both -/
def owRw (A a : Int) : Int := if a = -1000000000 then 0 else A - a
def owBf (a b : Int) : Int := if a = -1000000000 ∨ b = -1000000000 then -1000000000 else b - a
theorem owXf_e {me c n t : Int} {st : Nat → Int} {A B a b l : Int} (hA : A = owTt 84 n st (owNb 84 n t)) (hB : B = owTt c n st (owNb c n t)) (ha : a = owTt 84 n st (owNb 84 n (t - 1))) (hb : b = owTt c n st (owNb c n (t - 1))) (hAn : A ≠ -1000000000) (hBn : B ≠ -1000000000) (hl : l = owXl c n st t) : owFm (B - A) (owWa (owBf a b) 0) (owPk (t % me) (owRw A a) (owRw B b) l) = owXf me c n st t := by
  unfold owXf owXm owXa owAq owRq
  rw [← hA, ← hB, ← ha, ← hb, ← hl, if_neg (by omega)]
  rfl
theorem owXk_e {c n t : Int} {st : Nat → Int} {A B : Int} (hd : owDg n st) (hA : A = owTt 84 n st (owNb 84 n t)) (hB : B = owTt c n st (owNb c n t)) (hc : 0 ≤ c ∧ c ≤ 4499) : owXk c n st t ↔ (A ≠ -1000000000 ∧ B ≠ -1000000000 ∧ (owNb 84 n t ≠ owNb 84 n (t - 1) ∨ owNb c n t ≠ owNb c n (t - 1))) := by
  have b1 := owTt_b (c := 84) (k := owNb 84 n t) hd (by omega)
  have b2 := owTt_b (c := c) (k := owNb c n t) hd hc
  unfold owXk owAq
  rw [← hA, ← hB]
  rw [← hA] at b1
  rw [← hB] at b2
  by_cases h : A = -1000000000 ∨ B = -1000000000
  · rw [if_pos h]
    constructor
    · exact fun h9 => absurd rfl h9.1
    · exact fun h9 => by omega
  · rw [if_neg h]
    constructor
    · exact fun h9 => ⟨by omega, by omega, h9.2⟩
    · exact fun h9 => ⟨by omega, h9.2.2⟩
theorem owWa_n {a b : Int} (h : a = -1000000000 ∨ b = -1000000000) : owWa (owBf a b) 0 = 7 := by
  unfold owWa owBf
  rw [if_pos h, if_pos rfl]
theorem owWa_y {a b : Int} (ha : a ≠ -1000000000) (hb : b ≠ -1000000000) (hr : -1000 ≤ b - a ∧ b - a ≤ 1000) : owWa (owBf a b) 0 = owAb (b - a) % 7 := by
  have e : owBf a b = b - a := if_neg (by omega)
  rw [e]
  unfold owWa
  rw [if_neg (by omega), Int.add_zero]
theorem owTt_dd {n c j k : Int} {st : Nat → Int} (hd : owDg n st) (hk : owTt c n st k ≠ -1000000000) : owTt c n st j = -1000000000 ∨ (-28 ≤ owTt c n st k - owTt c n st j ∧ owTt c n st k - owTt c n st j ≤ 28) := by
  by_cases h : owTt c n st j = -1000000000
  · left; exact h
  · right; exact owTt_d hd h hk
theorem owXl_y {c n t : Int} {st : Nat → Int} (h : owTt 84 n st (owNb 84 n (t + 1)) = -1000000000 ∨ owTt c n st (owNb c n (t + 1)) = -1000000000) : owXl c n st t = 1 := by
  unfold owXl owAq
  rw [if_pos h, if_pos rfl]
theorem owXl_n {c n t : Int} {st : Nat → Int} (hd : owDg n st) (hc : 0 ≤ c ∧ c ≤ 4499) (h1 : owTt 84 n st (owNb 84 n (t + 1)) ≠ -1000000000) (h2 : owTt c n st (owNb c n (t + 1)) ≠ -1000000000) : owXl c n st t = 0 := by
  have b1 := owTt_b (c := 84) (k := owNb 84 n (t + 1)) hd (by omega)
  have b2 := owTt_b (c := c) (k := owNb c n (t + 1)) hd hc
  unfold owXl owAq
  rw [if_neg (by omega)]
theorem owBk_n1 {x y : Int} {W : Nat → List Int} {fa : Nat → Int} {k : Nat} (h : ¬ owBk x W fa) (hk : (k : Int) = x) (hy : y = x + 1) (hl : oqHl fa (W k) ≠ 1) : ¬ owBk y W fa := fun ⟨j, h1, h2⟩ => by
  by_cases e : j = k
  · rw [e] at h2; exact hl h2
  · exact h ⟨j, by omega, h2⟩
theorem owAg_nx {R : Int} {W : Nat → List Int} {me c n x y r : Int} {st : Nat → Int} (h : ∀ k : Int, c / 180 ≤ k → k < x → owXk c n st k → ¬ owBk R W (owXf me c n st k)) (hb : r = -1 ↔ ¬ (owXk c n st x ∧ owBk R W (owXf me c n st x))) (hr : r = -1) (hy : y = x + 1) : ∀ k : Int, c / 180 ≤ k → k < y → owXk c n st k → ¬ owBk R W (owXf me c n st k) := fun k h1 h2 h3 h4 => by
  by_cases e : k = x
  · subst e
    exact hb.mp hr ⟨h3, h4⟩
  · exact h k h1 (by omega) h3 h4
def owLr (n r : Int) (A : (Nat → Int) → Prop) (t : oS) : Prop := ∃ st, owRL n st t ∧ owDg n st ∧ ∀ v, owRn n r A st v → owMd n r A v
theorem owLr_0 {n r : Int} {A : (Nat → Int) → Prop} {t : oS} (h : owRL n (owF0 n) t) (hn : ¬ (2 ≤ n ∧ r < 1)) : owLr n r A t := ⟨_, h, owF0_dg, fun v hv => by
  unfold owMd
  rw [if_neg hn]
  exact hv⟩
theorem owLr_nx {n r : Int} {A : (Nat → Int) → Prop} {st : Nat → Int} {t : oS} (hq : owRz n r st t) (hA : ¬ A st) (hd : owDg n st) (hr : ∀ v, owRn n r A st v → owMd n r A v) (hn : n ≤ 6) (hr4 : r ≤ 4) : owLr n r A t := by
  obtain ⟨st', h1, h2⟩ := hq
  exact ⟨st', h1, (owNx_dg hn hr4 hd h2).1, fun v hv => hr v (owRn_x hA h2 hv)⟩
theorem owXf_b {me c n t : Int} {st : Nat → Int} (hd : owDg n st) (hc : 0 ≤ c ∧ c ≤ 4499) (hk : owXk c n st t) (hm : 2 ≤ me ∧ me ≤ 12) (ht : 0 ≤ t) (i : Nat) (hi : i < 8) : -1000000 ≤ owXf me c n st t i ∧ owXf me c n st t i ≤ 1000000 := by
  have k1 : owTt 84 n st (owNb 84 n t) ≠ -1000000000 ∧ owTt c n st (owNb c n t) ≠ -1000000000 := ⟨fun e => hk.1 (by unfold owAq; rw [if_pos (Or.inl e)]), fun e => hk.1 (by unfold owAq; rw [if_pos (Or.inr e)])⟩
  have b1 := owTt_b (c := 84) (k := owNb 84 n t) hd (by omega)
  have b2 := owTt_b (c := c) (k := owNb c n t) hd hc
  have d1 := owTt_dd (c := 84) (j := owNb 84 n (t - 1)) (k := owNb 84 n t) hd k1.1
  have d2 := owTt_dd (c := c) (j := owNb c n (t - 1)) (k := owNb c n t) hd k1.2
  have hT1 := Int.emod_nonneg t (b := me) (by omega)
  have hT2 := Int.emod_lt_of_pos t (b := me) (by omega)
  have hxa : owXa c n st t = owTt c n st (owNb c n t) - owTt 84 n st (owNb 84 n t) := by
    unfold owXa owAq
    rw [if_neg (by omega)]
  have hr1 : -28 ≤ owRq 84 n st (owNb 84 n (t - 1)) (owNb 84 n t) ∧ owRq 84 n st (owNb 84 n (t - 1)) (owNb 84 n t) ≤ 28 := by
    unfold owRq
    split <;> omega
  have hr2 : -28 ≤ owRq c n st (owNb c n (t - 1)) (owNb c n t) ∧ owRq c n st (owNb c n (t - 1)) (owNb c n t) ≤ 28 := by
    unfold owRq
    split <;> omega
  have hl : 0 ≤ owXl c n st t ∧ owXl c n st t ≤ 1 := by
    unfold owXl
    split <;> omega
  refine owFm_b ⟨by omega, by omega, owWa_b.1, owWa_b.2, ?_, ?_⟩ i hi
  · unfold owXm; omega
  · unfold owXm; omega
