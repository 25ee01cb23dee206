/-! what a moment of two voices is asked, and what the judge keeps -/
def owAb (a : Int) : Int := if a < 0 then -a else a
def owKy (a w m : Int) : Int := ((a + 128) * 8 + w) * 131072 + m
def owKr (a w m : Int) : Prop := -128 ≤ a ∧ a ≤ 127 ∧ 0 ≤ w ∧ w ≤ 7 ∧ 0 ≤ m ∧ m < 131072
theorem owKy_inj {a w m a' w' m' : Int} (h : owKr a w m) (h' : owKr a' w' m') (e : owKy a w m = owKy a' w' m') : a = a' ∧ w = w' ∧ m = m' := by
  unfold owKr at h h'
  unfold owKy at e
  omega
theorem owKy_b {a w m : Int} (h : owKr a w m) : 0 ≤ owKy a w m ∧ owKy a w m < 268435456 := by
  unfold owKr at h
  unfold owKy
  omega
/-- what is asked, by number -/
def owFm (a w m : Int) (i : Nat) : Int := if i = 0 then owAb a else if i = 1 then owAb a % 7 else if i = 2 then (if a < 0 then 1 else 0) else if i = 3 then m / 8192 else if i = 4 then m / 128 % 64 - 32 else if i = 5 then m / 2 % 64 - 32 else if i = 6 then w else if i = 7 then m % 2 else 0
theorem owAb_b {a b : Int} (h : -b ≤ a ∧ a ≤ b) : 0 ≤ owAb a ∧ owAb a ≤ b := by
  unfold owAb
  split <;> omega
theorem owFm_b {a w m : Int} (h : owKr a w m) (i : Nat) (hi : i < 8) : -1000000 ≤ owFm a w m i ∧ owFm a w m i ≤ 1000000 := by
  unfold owKr at h
  have := owAb_b (a := a) (b := 128) (by omega)
  unfold owFm
  repeat' split
  all_goals omega
def owWa (b h : Int) : Int := if b = -1000000000 then 7 else owAb (b + h) % 7
theorem owWa_b {b h : Int} : 0 ≤ owWa b h ∧ owWa b h ≤ 7 := by
  unfold owWa
  split <;> omega
/-- a rule holds -/
def owBk (R : Int) (W : Nat → List Int) (fa : Nat → Int) : Prop := ∃ k : Nat, (k : Int) < R ∧ oqHl fa (W k) = 1
theorem owBk_0 {R : Int} {W : Nat → List Int} {fa : Nat → Int} (h : R ≤ 0) : ¬ owBk R W fa := fun ⟨k, hk, _⟩ => by omega
/-- the verdicts that are kept are the rules' -/
def owKV (R : Int) (W : Nat → List Int) (t : oS) : Prop := ∀ j : Nat, j < 4096 → ∀ a w m : Int, owKr a w m → (t.1 32 j).toInt = owKy a w m → ((t.1 33 j).toInt = 0 ↔ ¬ owBk R W (owFm a w m))
theorem owKV_fr {M : List (Nat × Nat)} {s u : oS} {R : Int} {W : Nat → List Int} (hf : oFr M s u) (hm : (oinK M 25 || oinK M 26) = false) (h : owKV R W s) : owKV R W u := by
  simp only [Bool.or_eq_false_iff] at hm
  intro j hj a w m hr hk
  rw [(hf 32 j (oinK_in hm.1 _)).1] at hk
  rw [(hf 33 j (oinK_in hm.2 _)).1]
  exact h j hj a w m hr hk
theorem owKV_st {s : oS} {R : Int} {W : Nat → List Int} {i : Nat} {k v : Int32} {a w m : Int} (h : owKV R W s) (hr : owKr a w m) (hk : k.toInt = owKy a w m) (hv : v.toInt = 0 ↔ ¬ owBk R W (owFm a w m)) : owKV R W (pI (pI s 32 i k) 33 i v) := by
  intro j hj a' w' m' hr' hk'
  by_cases hji : j = i
  · subst hji
    rw [pI_ne _ _ (Or.inl (by decide)), pI_self] at hk'
    obtain ⟨rfl, rfl, rfl⟩ := owKy_inj hr' hr (hk'.symm.trans hk)
    rw [pI_self]
    exact hv
  · rw [pI_ne _ _ (Or.inr hji)]
    rw [pI_ne _ _ (Or.inl (by decide)), pI_ne _ _ (Or.inr hji)] at hk'
    rw [pI_ne _ _ (Or.inl (by decide))]
    exact h j hj a' w' m' hr' hk'
theorem owKV_cl {t : oS} {R : Int} {W : Nat → List Int} (h : ∀ i : Nat, (i : Int) < 4096 → (t.1 32 i).toInt = -1) : owKV R W t := by
  intro j hj a w m hr hk
  have := owKy_b hr
  rw [h j (by omega)] at hk
  omega
/-- the judge's book and its rules -/
def owBC (b : Nat) (R : Int) (W : Nat → List Int) (t : oS) : Prop := okd b = 0 ∧ t.2.2 31 3 = b + 1 ∧ (t.1 b 7).toInt = R ∧ ∀ k : Nat, (k : Int) < R → oqTst b k (W k) t
theorem owBC_fr {M : List (Nat × Nat)} {s u : oS} {b : Nat} {R : Int} {W : Nat → List Int} (hf : oFr M s u) (hm : ((oin M 2 3 || oin M 0 7) || (oinK M 20 || (oinK M 21 || oinK M 22))) = false) (h : owBC b R W s) : owBC b R W u := by
  rw [Bool.or_eq_false_iff] at hm
  obtain ⟨hm1, hm2⟩ := hm
  rw [Bool.or_eq_false_iff] at hm1
  obtain ⟨h1, h2, h3, h4⟩ := h
  refine ⟨h1, ((hf 31 3 hm1.1).2.2).trans h2, ?_, fun k hk => oqTst_fr hf hm2 (h4 k hk)⟩
  rw [(hf b 7 (by rw [h1]; exact hm1.2)).1]
  exact h3
theorem owBC_b {b c : Nat} {R : Int} {W : Nat → List Int} {t : oS} (h : owBC b R W t) (hc : t.2.2 31 3 = c + 1) : c = b := by
  have := h.2.1
  omega
/-- what is asked now -/
def owFA (fa : Nat → Int) (t : oS) : Prop := ∀ i : Nat, i < 8 → (t.1 34 i).toInt = fa i
theorem owFA_fr {M : List (Nat × Nat)} {s u : oS} {fa : Nat → Int} (hf : oFr M s u) (hm : oinK M 27 = false) (h : owFA fa s) : owFA fa u := fun i hi => by
  rw [(hf 34 i (oinK_in hm _)).1]
  exact h i hi
theorem owFA_8 {s : oS} {fa : Nat → Int} {i0 i1 i2 i3 i4 i5 i6 i7 v0 v1 v2 v3 v4 v5 v6 v7 : Int32} (h0 : i0.toInt = 0) (h1 : i1.toInt = 1) (h2 : i2.toInt = 2) (h3 : i3.toInt = 3) (h4 : i4.toInt = 4) (h5 : i5.toInt = 5) (h6 : i6.toInt = 6) (h7 : i7.toInt = 7) (e0 : v0.toInt = fa 0) (e1 : v1.toInt = fa 1) (e2 : v2.toInt = fa 2) (e3 : v3.toInt = fa 3) (e4 : v4.toInt = fa 4) (e5 : v5.toInt = fa 5) (e6 : v6.toInt = fa 6) (e7 : v7.toInt = fa 7) : owFA fa (pI (pI (pI (pI (pI (pI (pI (pI s 34 i0.toNatClampNeg v0) 34 i1.toNatClampNeg v1) 34 i2.toNatClampNeg v2) 34 i3.toNatClampNeg v3) 34 i4.toNatClampNeg v4) 34 i5.toNatClampNeg v5) 34 i6.toNatClampNeg v6) 34 i7.toNatClampNeg v7) := by
  have n0 : i0.toNatClampNeg = 0 := by have := n_nat i0; omega
  have n1 : i1.toNatClampNeg = 1 := by have := n_nat i1; omega
  have n2 : i2.toNatClampNeg = 2 := by have := n_nat i2; omega
  have n3 : i3.toNatClampNeg = 3 := by have := n_nat i3; omega
  have n4 : i4.toNatClampNeg = 4 := by have := n_nat i4; omega
  have n5 : i5.toNatClampNeg = 5 := by have := n_nat i5; omega
  have n6 : i6.toNatClampNeg = 6 := by have := n_nat i6; omega
  have n7 : i7.toNatClampNeg = 7 := by have := n_nat i7; omega
  rw [n0, n1, n2, n3, n4, n5, n6, n7]
  intro i hi
  have h8 : i = 0 ∨ i = 1 ∨ i = 2 ∨ i = 3 ∨ i = 4 ∨ i = 5 ∨ i = 6 ∨ i = 7 := by omega
  rcases h8 with rfl | rfl | rfl | rfl | rfl | rfl | rfl | rfl
  all_goals
    first
      | (rw [pI_self]; assumption)
      | (rw [pI_ne _ _ (Or.inr (by decide)), pI_self]; assumption)
      | (rw [pI_ne _ _ (Or.inr (by decide)), pI_ne _ _ (Or.inr (by decide)), pI_self]; assumption)
      | (rw [pI_ne _ _ (Or.inr (by decide)), pI_ne _ _ (Or.inr (by decide)), pI_ne _ _ (Or.inr (by decide)), pI_self]; assumption)
      | (rw [pI_ne _ _ (Or.inr (by decide)), pI_ne _ _ (Or.inr (by decide)), pI_ne _ _ (Or.inr (by decide)), pI_ne _ _ (Or.inr (by decide)), pI_self]; assumption)
      | (rw [pI_ne _ _ (Or.inr (by decide)), pI_ne _ _ (Or.inr (by decide)), pI_ne _ _ (Or.inr (by decide)), pI_ne _ _ (Or.inr (by decide)), pI_ne _ _ (Or.inr (by decide)), pI_self]; assumption)
      | (rw [pI_ne _ _ (Or.inr (by decide)), pI_ne _ _ (Or.inr (by decide)), pI_ne _ _ (Or.inr (by decide)), pI_ne _ _ (Or.inr (by decide)), pI_ne _ _ (Or.inr (by decide)), pI_ne _ _ (Or.inr (by decide)), pI_self]; assumption)
      | (rw [pI_ne _ _ (Or.inr (by decide)), pI_ne _ _ (Or.inr (by decide)), pI_ne _ _ (Or.inr (by decide)), pI_ne _ _ (Or.inr (by decide)), pI_ne _ _ (Or.inr (by decide)), pI_ne _ _ (Or.inr (by decide)), pI_ne _ _ (Or.inr (by decide)), pI_self]; assumption)
/-- the moments that are heard -/
def owDN (t : oS) : Prop := ∀ i : Nat, (-114 ≤ (t.1 37 i).toInt ∧ (t.1 37 i).toInt ≤ 114) ∧ (-1000000000 ≤ (t.1 38 i).toInt ∧ (t.1 38 i).toInt ≤ 114) ∧ (0 ≤ (t.1 39 i).toInt ∧ (t.1 39 i).toInt < 131072)
theorem owDN_fr {M : List (Nat × Nat)} {s u : oS} (hf : oFr M s u) (hm : (oinK M 29 || (oinK M 30 || oinK M 31)) = false) (h : owDN s) : owDN u := by
  simp only [Bool.or_eq_false_iff] at hm
  intro i
  rw [(hf 37 i (oinK_in hm.1 _)).1, (hf 38 i (oinK_in hm.2.1 _)).1, (hf 39 i (oinK_in hm.2.2 _)).1]
  exact h i
theorem owDN_a {s : oS} {k : Nat} {v : Int32} (h : owDN s) (hv : -114 ≤ v.toInt ∧ v.toInt ≤ 114) : owDN (pI s 37 k v) := fun i => by
  rw [pI_ne (a := 38) _ _ (Or.inl (by decide)), pI_ne (a := 39) _ _ (Or.inl (by decide))]
  by_cases hi : i = k
  · rw [hi, pI_self]
    exact ⟨hv, (h k).2⟩
  · rw [pI_ne _ _ (Or.inr hi)]
    exact h i
theorem owDN_b {s : oS} {k : Nat} {v : Int32} (h : owDN s) (hv : -1000000000 ≤ v.toInt ∧ v.toInt ≤ 114) : owDN (pI s 38 k v) := fun i => by
  rw [pI_ne (a := 37) _ _ (Or.inl (by decide)), pI_ne (a := 39) _ _ (Or.inl (by decide))]
  by_cases hi : i = k
  · rw [hi, pI_self]
    exact ⟨(h k).1, hv, (h k).2.2⟩
  · rw [pI_ne _ _ (Or.inr hi)]
    exact h i
theorem owDN_m {s : oS} {k : Nat} {v : Int32} (h : owDN s) (hv : 0 ≤ v.toInt ∧ v.toInt < 131072) : owDN (pI s 39 k v) := fun i => by
  rw [pI_ne (a := 37) _ _ (Or.inl (by decide)), pI_ne (a := 38) _ _ (Or.inl (by decide))]
  by_cases hi : i = k
  · rw [hi, pI_self]
    exact ⟨(h k).1, (h k).2.1, hv⟩
  · rw [pI_ne _ _ (Or.inr hi)]
    exact h i
/-- the steps of the class's lines -/
def owLN (t : oS) : Prop := ∀ c : Nat, okd c = 4 → (-1 ≤ (t.1 c 6).toInt ∧ (t.1 c 6).toInt ≤ 28) ∧ ∀ i : Nat, -1 ≤ (t.1 (c + 1) i).toInt ∧ (t.1 (c + 1) i).toInt ≤ 28
theorem owLN_fr {M : List (Nat × Nat)} {s u : oS} (hf : oFr M s u) (hm : (oin M 4 6 || oinK M 16) = false) (h : owLN s) : owLN u := by
  rw [Bool.or_eq_false_iff] at hm
  intro c hc
  refine ⟨?_, fun i => ?_⟩
  · rw [(hf c 6 (by rw [hc]; exact hm.1)).1]
    exact (h c hc).1
  · rw [(hf (c + 1) i (by rw [kr4_1 hc]; exact oinK_in hm.2 _)).1]
    exact (h c hc).2 i
theorem owLN_st {s : oS} {c k : Nat} {v : Int32} (h : owLN s) (hc : okd c = 4) (hv : -1 ≤ v.toInt ∧ v.toInt ≤ 28) : owLN (pI s (c + 1) k v) := fun d hd => by
  refine ⟨?_, fun i => ?_⟩
  · rw [pI_ne _ _ (Or.inl (okd_ne hd (kr4_1 hc) (by decide)))]
    exact (h d hd).1
  · by_cases hi : d + 1 = c + 1 ∧ i = k
    · rw [hi.1, hi.2, pI_self]
      exact hv
    · rw [pI_ne _ _ (by omega)]
      exact (h d hd).2 i
theorem owLN_op {s : oS} {c : Nat} {v : Int32} (h : owLN s) (hc : okd c = 4) (hv : -1 ≤ v.toInt ∧ v.toInt ≤ 28) : owLN (pI s c 6 v) := fun d hd => by
  refine ⟨?_, fun i => ?_⟩
  · by_cases hi : d = c
    · rw [hi, pI_self]
      exact hv
    · rw [pI_ne _ _ (Or.inl hi)]
      exact (h d hd).1
  · rw [pI_ne _ _ (Or.inl (okd_ne (kr4_1 hd) hc (by decide)))]
    exact (h d hd).2 i
theorem owFl_pu {s : oS} {c : Nat} {i j v : Int32} {w : Int} (h : ∀ k : Nat, (k : Int) < i.toInt → (s.1 c k).toInt = w) (hj : j.toInt = i.toInt + 1) (hv : v.toInt = w) : ∀ k : Nat, (k : Int) < j.toInt → ((pI s c i.toNatClampNeg v).1 c k).toInt = w := fun k hk => by
  have := n_nat i
  by_cases e : k = i.toNatClampNeg
  · rw [e, pI_self]
    exact hv
  · rw [pI_ne _ _ (Or.inr e)]
    exact h k (by omega)
theorem hb01_of {x : Int32} (h : 0 ≤ x.toInt ∧ x.toInt ≤ 1) : x.toInt = 0 ∨ x.toInt = 1 := by omega
theorem owBk_nx {W : Nat → List Int} {fa : Nat → Int} {x9 x10 y z q r : Int32} (h : x9.toInt = 0 ↔ ¬ owBk x10.toInt W fa) (hz : z.toInt = 0 ↔ x9.toInt = 0 ∧ y.toInt = 0) (hr : r.toInt = oqHl fa (W x10.toNatClampNeg)) (hy : y.toInt = 0 ↔ r.toInt ≠ 1) (h0 : 0 ≤ x10.toInt) (hq : q.toInt = x10.toInt + 1) : z.toInt = 0 ↔ ¬ owBk q.toInt W fa := by
  have hn := n_nat x10
  rw [hz, h, hy, hr]
  constructor
  · rintro ⟨h1, h2⟩ ⟨k, hk, hk2⟩
    by_cases e : k = x10.toNatClampNeg
    · rw [e] at hk2
      exact h2 hk2
    · exact h1 ⟨k, by omega, hk2⟩
  · intro h1
    exact ⟨fun ⟨k, hk, hk2⟩ => h1 ⟨k, by omega, hk2⟩, fun h2 => h1 ⟨x10.toNatClampNeg, by omega, h2⟩⟩
theorem owNz_nx {P : Nat → Prop} {x y : Int32} (h : ∀ i : Nat, (i : Int) < x.toInt → P i) (hp : P x.toNatClampNeg) (h0 : 0 ≤ x.toInt) (hy : y.toInt = x.toInt + 1) : ∀ i : Nat, (i : Int) < y.toInt → P i := fun i hi => by
  have hn := n_nat x
  by_cases e : i = x.toNatClampNeg
  · rw [e]
    exact hp
  · exact h i (by omega)
