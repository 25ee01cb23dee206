/-- how many of the first n are G's -/
def owCt (G : Nat → Prop) (n : Nat) (v : Int) : Prop := ∃ f : Nat → Int, (∀ c : Nat, c < n → (G c ∧ f c = 1) ∨ (¬ G c ∧ f c = 0)) ∧ v = oC1 f n
theorem owCt_det {G : Nat → Prop} {n : Nat} {v w : Int} (h : owCt G n v) (h' : owCt G n w) : v = w := by
  obtain ⟨f, h1, rfl⟩ := h
  obtain ⟨g, h2, rfl⟩ := h'
  refine oC1_congr (fun j hj => ?_)
  rcases h1 j hj with ⟨a, e⟩ | ⟨a, e⟩ <;> rcases h2 j hj with ⟨b, e'⟩ | ⟨b, e'⟩
  · rw [e, e']
  · exact absurd a b
  · exact absurd b a
  · rw [e, e']
theorem owCt_0 {G : Nat → Prop} {n : Nat} {v : Int} (hn : n = 0) (h : v = 0) : owCt G n v := by
  subst hn
  exact ⟨fun _ => 0, fun c hc => absurd hc (Nat.not_lt_zero _), h⟩
/-- by blocks -/
theorem owCt_b {G : Nat → Prop} {a B n : Nat} {v w : Int} {f : Nat → Int} (h : owCt G a v) (hf : ∀ i : Nat, i < B → (G (a + i) ∧ f i = 1) ∨ (¬ G (a + i) ∧ f i = 0)) (hn : n = a + B) (hw : w = v + oC1 f B) : owCt G n w := by
  obtain ⟨f0, h1, rfl⟩ := h
  subst hn
  refine ⟨fun c => if c < a then f0 c else f (c - a), fun c hc => ?_, ?_⟩
  · by_cases q : c < a
    · simp only [if_pos q]
      exact h1 c q
    · simp only [if_neg q]
      have := hf (c - a) (by omega)
      rw [show a + (c - a) = c by omega] at this
      exact this
  · rw [hw, oC1_add]
    congr 1
    · exact oC1_congr (fun j hj => by simp only [if_pos hj])
    · exact oC1_congr (fun j hj => by simp only [if_neg (show ¬ a + j < a by omega), show a + j - a = j by omega])
theorem owCt_1 {G : Nat → Prop} {a n : Nat} {v w : Int} (h : owCt G a v) (hg : G a) (hn : n = a + 1) (hw : w = v + 1) : owCt G n w := by
  refine owCt_b (B := 1) (f := fun _ => 1) h (fun i hi => Or.inl ⟨by rw [show a + i = a by omega]; exact hg, rfl⟩) hn ?_
  rw [hw]
  rfl
theorem owCt_n {G : Nat → Prop} {a n : Nat} {v w : Int} (h : owCt G a v) (hg : ¬ G a) (hn : n = a + 1) (hw : w = v) : owCt G n w := by
  refine owCt_b (B := 1) (f := fun _ => 0) h (fun i hi => Or.inr ⟨by rw [show a + i = a by omega]; exact hg, rfl⟩) hn ?_
  rw [hw]
  show v = v + (0 + 0)
  omega
theorem oC1_z {f : Nat → Int} : ∀ {n : Nat}, (∀ i, i < n → f i = 0) → oC1 f n = 0
  | 0, _ => rfl
  | n + 1, h => by
    show oC1 f n + f n = 0
    rw [oC1_z (n := n) (fun i hi => h i (by omega)), h n (by omega)]
    rfl
theorem owCt_e {G : Nat → Prop} {a n : Nat} {v : Int} (h : owCt G a v) (ha : a ≤ n) (hg : ∀ c : Nat, a ≤ c → c < n → ¬ G c) : owCt G n v := by
  refine owCt_b (B := n - a) (f := fun _ => 0) h (fun i hi => Or.inr ⟨hg _ (by omega) (by omega), rfl⟩) (by omega) ?_
  rw [oC1_z (fun _ _ => rfl)]
  omega
/-- a way, by its code behind a delay -/
def owWe (R : Int) (W : Nat → List Int) (me D S K n : Int) (st : Nat → Int) (d : Int) (i : Nat) : Prop := oBd D S K (180 * d + (i : Int)) = 1 ∧ owAg R W me (180 * d + (i : Int)) n st
theorem owWe_d {R : Int} {W : Nat → List Int} {me D S K n d : Int} {st : Nat → Int} {i j : Nat} (h : (j : Int) = 180 * d + (i : Int)) : owWe R W me D S K n st 0 j ↔ owWe R W me D S K n st d i := by
  unfold owWe
  rw [show 180 * (0 : Int) + (j : Int) = 180 * d + (i : Int) by omega]
theorem oBd_y {D S K c : Int} (h : oBd D S K c = 1) : c ≠ 84 ∧ c / 180 ≤ D ∧ -S ≤ c / 12 % 15 - 7 ∧ c / 12 % 15 - 7 ≤ S ∧ oAl K (c % 12) = 1 := by
  unfold oBd at h
  by_cases q : c ≠ 84 ∧ c / 180 ≤ D ∧ -S ≤ c / 12 % 15 - 7 ∧ c / 12 % 15 - 7 ≤ S ∧ oAl K (c % 12) = 1
  · exact q
  · rw [if_neg q] at h; exact absurd h (by decide)
theorem oBd_i {D S K c : Int} (h : c ≠ 84 ∧ c / 180 ≤ D ∧ -S ≤ c / 12 % 15 - 7 ∧ c / 12 % 15 - 7 ≤ S ∧ oAl K (c % 12) = 1) : oBd D S K c = 1 := by
  unfold oBd
  rw [if_pos h]
/-- up to the kind k, and of k up to the height h: the ways have a 1 -/
def owFe (k h : Int) (G : Nat → Prop) (t : oS) : Prop := ∀ i : Nat, i < 180 → ((t.1 48 i).toInt = 1 ∧ G i ∧ ((i : Int) % 12 < k ∨ ((i : Int) % 12 = k ∧ (i : Int) / 12 - 7 < h))) ∨ ((t.1 48 i).toInt = 0 ∧ ¬ (G i ∧ ((i : Int) % 12 < k ∨ ((i : Int) % 12 = k ∧ (i : Int) / 12 - 7 < h))))
theorem owFe_e {k h k' h' : Int} {G : Nat → Prop} {s u : oS} (hf : owFe k h G s) (e : u.1 48 = s.1 48) (hd : ∀ i : Nat, i < 180 → G i → (((i : Int) % 12 < k ∨ ((i : Int) % 12 = k ∧ (i : Int) / 12 - 7 < h)) ↔ ((i : Int) % 12 < k' ∨ ((i : Int) % 12 = k' ∧ (i : Int) / 12 - 7 < h')))) : owFe k' h' G u := by
  intro i hi
  rw [e]
  rcases hf i hi with ⟨a, b, c⟩ | ⟨a, b⟩
  · exact Or.inl ⟨a, b, (hd i hi b).mp c⟩
  · exact Or.inr ⟨a, fun q => b ⟨q.1, (hd i hi q.1).mpr q.2⟩⟩
theorem owFe_fr {M : List (Nat × Nat)} {s u : oS} {k h : Int} {G : Nat → Prop} (hf : oFr M s u) (hm : oinK M 36 = false) (h1 : owFe k h G s) : owFe k h G u :=
  owFe_e h1 (oFr_row hf (c := 48) rfl hm) (fun _ _ _ => Iff.rfl)
theorem owFe_0 {k h : Int} {G : Nat → Prop} {t : oS} (hz : ∀ i : Nat, (i : Int) < 180 → (t.1 48 i).toInt = 0) (hk : k = 0) (hh : h ≤ -7) : owFe k h G t := by
  intro i hi
  refine Or.inr ⟨hz i (by omega), fun q => ?_⟩
  have := q.2
  omega
/-- a way is tried -/
def owGd (R : Int) (W : Nat → List Int) (h : Int) (s : oS) : Prop := ∀ i : Nat, (i : Int) < (s.1 35 6).toInt → ¬ owBk R W (owDf s i h)
def owTy (R : Int) (W : Nat → List Int) (h c : Int) (s u : oS) : Prop := ((c ≠ 84 ∧ owGd R W h s) ∧ ∃ (j : Nat) (v : Int32), (j : Int) = c % 180 ∧ v.toInt = 1 ∧ u.1 48 = oU (s.1 48) j v) ∨ (¬ (c ≠ 84 ∧ owGd R W h s) ∧ u.1 48 = s.1 48)
def owF8 (s t : oS) : Prop := t.1 48 = s.1 48
theorem owF8_fr {M : List (Nat × Nat)} {s t u : oS} (hf : oFr M t u) (hm : oinK M 36 = false) (h : owF8 s t) : owF8 s u := (oFr_row hf (c := 48) rfl hm).trans h
theorem owAll_nx {R : Int} {W : Nat → List Int} {h m m' : Int} {k : Nat} {s : oS} {a a' v : Int32} (hi : a.toInt = 0 ↔ ∀ i : Nat, (i : Int) < m → ¬ owBk R W (owDf s i h)) (ho : a'.toInt = 0 ↔ a.toInt = 0 ∧ v.toInt = 0) (hv : v.toInt = 0 ↔ ¬ owBk R W (owDf s k h)) (hk : (k : Int) = m) (hm : m' = m + 1) : a'.toInt = 0 ↔ ∀ i : Nat, (i : Int) < m' → ¬ owBk R W (owDf s i h) := by
  rw [ho, hi, hv]
  constructor
  · intro q i hi'
    by_cases e : i = k
    · rw [e]; exact q.2
    · exact q.1 i (by omega)
  · intro q
    exact ⟨fun i hi' => q i (by omega), q k (by omega)⟩
theorem owGd_n {R : Int} {W : Nat → List Int} {h m : Int} {s : oS} {a : Int32} (hi : a.toInt = 0 ↔ ∀ i : Nat, (i : Int) < m → ¬ owBk R W (owDf s i h)) (ha : a.toInt ≠ 0) (hm : m ≤ (s.1 35 6).toInt) : ¬ owGd R W h s := fun q => ha (hi.mpr (fun i hi' => q i (by omega)))
theorem owGd_y {R : Int} {W : Nat → List Int} {h m : Int} {s : oS} {a : Int32} (hi : a.toInt = 0 ↔ ∀ i : Nat, (i : Int) < m → ¬ owBk R W (owDf s i h)) (ha : a.toInt = 0) (hm : (s.1 35 6).toInt ≤ m) : owGd R W h s := fun i hi' => hi.mp ha i (by omega)
/-- the tries of a height -/
theorem owFe_t {R : Int} {W : Nat → List Int} {k h h' c : Int} {G : Nat → Prop} {s u : oS} (hf : owFe k h G s) (ht : owTy R W h c s u) (hk : 0 ≤ k ∧ k ≤ 11) (hh : -7 ≤ h ∧ h ≤ 7) (hh' : h' = h + 1) (hc : c % 180 = (h + 7) * 12 + k) (hG : ∀ i : Nat, (i : Int) = (h + 7) * 12 + k → (G i ↔ (c ≠ 84 ∧ owGd R W h s))) : owFe k h' G u := by
  subst hh'
  obtain ⟨i0, hi0⟩ : ∃ i : Nat, (i : Int) = (h + 7) * 12 + k := ⟨((h + 7) * 12 + k).toNat, by omega⟩
  have hg := hG i0 hi0
  have ed : ∀ i : Nat, i < 180 → i ≠ i0 → (((i : Int) % 12 < k ∨ ((i : Int) % 12 = k ∧ (i : Int) / 12 - 7 < h)) ↔ ((i : Int) % 12 < k ∨ ((i : Int) % 12 = k ∧ (i : Int) / 12 - 7 < h + 1))) := fun i hi hne => by omega
  have e0 : ((i0 : Int) % 12 < k ∨ ((i0 : Int) % 12 = k ∧ (i0 : Int) / 12 - 7 < h + 1)) := by omega
  have e1 : ¬ ((i0 : Int) % 12 < k ∨ ((i0 : Int) % 12 = k ∧ (i0 : Int) / 12 - 7 < h)) := by omega
  intro i hi
  rcases ht with ⟨a, j, v, hj, hv, eu⟩ | ⟨a, eu⟩
  · have hji : j = i0 := by omega
    subst hji
    by_cases q : i = j
    · subst q
      refine Or.inl ⟨?_, hg.mpr a, e0⟩
      rw [eu, show oU (s.1 48) i v i = v from if_pos rfl]
      exact hv
    · rw [eu, show oU (s.1 48) j v i = s.1 48 i from if_neg q, ← ed i hi q]
      exact hf i hi
  · rw [eu]
    by_cases q : i = i0
    · subst q
      rcases hf i hi with ⟨_, _, b⟩ | ⟨b, _⟩
      · exact absurd b e1
      · exact Or.inr ⟨b, fun q => a (hg.mp q.1)⟩
    · rw [← ed i hi q]
      exact hf i hi
/-- what is gathered -/
def owFf (s : oS) (i : Nat) : Int := if (s.1 48 i).toInt = 1 then 1 else 0
theorem owFe_g {h : Int} {G : Nat → Prop} {s : oS} (hf : owFe 12 h G s) (i : Nat) (hi : i < 180) : (G i ∧ owFf s i = 1) ∨ (¬ G i ∧ owFf s i = 0) := by
  have e : ((i : Int) % 12 < 12 ∨ ((i : Int) % 12 = 12 ∧ (i : Int) / 12 - 7 < h)) := by omega
  unfold owFf
  rcases hf i hi with ⟨a, b, _⟩ | ⟨a, b⟩
  · rw [if_pos a]; exact Or.inl ⟨b, rfl⟩
  · rw [if_neg (by omega)]; exact Or.inr ⟨fun q => b ⟨q, e⟩, rfl⟩
def owWc (G : Nat → Prop) (n : Nat) (t : oS) : Prop := owCt G n (t.1 43 4).toInt
theorem owWc_fr {M : List (Nat × Nat)} {s u : oS} {G : Nat → Prop} {n : Nat} (hf : oFr M s u) (hm : oin M 10 4 = false) (h : owWc G n s) : owWc G n u := by
  unfold owWc
  rw [(hf 43 4 hm).1]
  exact h
/-- the bounds -/
def owBW (D S K : Int) (t : oS) : Prop := (t.1 43 0).toInt = D ∧ (t.1 43 1).toInt = S ∧ (t.1 43 2).toInt = K
theorem owBW_fr {M : List (Nat × Nat)} {s u : oS} {D S K : Int} (hf : oFr M s u) (hm : (oin M 10 0 || (oin M 10 1 || oin M 10 2)) = false) (h : owBW D S K s) : owBW D S K u := by
  simp only [Bool.or_eq_false_iff] at hm
  unfold owBW
  rw [(hf 43 0 hm.1).1, (hf 43 1 hm.2.1).1, (hf 43 2 hm.2.2).1]
  exact h
def owBY (D S K : Int) (t : oS) : Prop := (t.1 71 66).toInt = D ∧ (t.1 71 67).toInt = S ∧ (t.1 71 68).toInt = K
theorem owBY_fr {M : List (Nat × Nat)} {s u : oS} {D S K : Int} (hf : oFr M s u) (hm : (oin M 12 66 || (oin M 12 67 || oin M 12 68)) = false) (h : owBY D S K s) : owBY D S K u := by
  simp only [Bool.or_eq_false_iff] at hm
  unfold owBY
  rw [(hf 71 66 hm.1).1, (hf 71 67 hm.2.1).1, (hf 71 68 hm.2.2).1]
  exact h
