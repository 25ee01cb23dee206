/-! the reference's words; a statement's head; sums -/
def oqWd (t : oS) : Prop := ∀ i : Nat, i < 26 → ∀ j : Nat, j < oqWl i → (t.1 (73 + i) j).toInt = oqWc i j
theorem oq_k73 : ∀ i : Nat, i < 26 → okd (73 + i) = 49 + i := by decide +kernel
theorem oqWd_fr {M : List (Nat × Nat)} {s u : oS} (hf : oFr M s u) (hm : ((List.range 26).any fun i => oinK M (49 + i)) = false) (h : oqWd s) : oqWd u := fun i hi j hj => by
  have h1 : oinK M (49 + i) = false := by
    have h2 := List.any_eq_false.mp hm i (List.mem_range.mpr hi)
    simpa using h2
  rw [oFr_row hf (c := 73 + i) (oq_k73 i hi) h1]
  exact h i hi j hj
theorem oqWd_at {t : oS} (h : oqWd t) (i : Nat) (hi : i < 26) : ∀ j : Nat, j < oqWl i → (t.1 (73 + i) j).toInt = oqWc i j := h i hi
theorem oqW_fr {s u : oS} {c q : Nat} (hf : oFr [(12, 2)] s u) (hk : okd c = q) (h13 : 13 ≤ q) (j : Nat) : u.1 c j = s.1 c j := (hf c j (by
  rw [hk]
  unfold oin
  simp
  omega)).1
theorem oqH_ex {g : Int → Int} {a b : Int} {i k : Nat} (hi : i < 26) (hk : k < 26) (hik : i ≠ k) (h : oqH g a b i = 1) : oqH g a b k = 0 := by
  rcases oqH_01 g a b k with h1 | h1
  · exact h1
  · exact absurd (oqIs_one hi hk (oqH_is h).1 (oqH_is h1).1) hik
/-- so many letters as the word has -/
def oqEq (g : Int → Int) (A : Int) (i : Nat) (m : Int) : Prop := ∀ j : Nat, (j : Int) < m → g (A + j) = oqWc i j
theorem oqEq_0 {g : Int → Int} {A m : Int} {i : Nat} (h : m = 0) : oqEq g A i m := fun j hj => by omega
theorem oqEq_nx {g : Int → Int} {A m m' : Int} {i k : Nat} (h : oqEq g A i m) (hk : m = (k : Int)) (hm : m' = m + 1) (he : g (A + k) = oqWc i k) : oqEq g A i m' := fun j hj => by
  by_cases hj2 : j = k
  · rw [hj2]; exact he
  · exact h j (by omega)
theorem oqEq_is {g : Int → Int} {A m : Int} {i n : Nat} (h : oqEq g A i m) (hm : (n : Int) ≤ m) (hn : n = oqWl i) (hl : ¬ (97 ≤ g (A + (n : Int)) ∧ g (A + (n : Int)) ≤ 122)) : oqIs g A i := by
  subst hn
  exact ⟨fun j hj => h j (by omega), hl⟩
theorem oqDv_ni {g : Int → Int} {a n m : Int} (h0 : 0 ≤ n) (hm : m = n + 1) : oqDv g a m.toNat = 10 * oqDv g a n.toNat + g (a + n) - 48 := by
  rw [show m.toNat = n.toNat + 1 by omega]
  show 10 * oqDv g a n.toNat + g (a + (n.toNat : Int)) - 48 = _
  rw [show ((n.toNat : Nat) : Int) = n by omega]
theorem oqDv_zi {g : Int → Int} {a n : Int} (h : n = 0) : oqDv g a n.toNat = 0 := by
  rw [h]
  rfl
theorem oqNv_oi {g : Int → Int} {a A n v : Int} (hA : A = oqSk g a) (h : oqDn g A = n) (hv : v = oqDv g A n.toNat) : oqNv g a = v := by
  unfold oqNv
  rw [← hA, h, hv]
/-- the head of a statement: its fault, 0 without -/
noncomputable def oqHk (g : Int → Int) (a b : Int) : Int := if oqH g a b 0 = 1 then oqK1 g a else if oqH g a b 2 = 1 then 0 else 1
theorem oqHk_s {g : Int → Int} {a b : Int} (h : oqH g a b 0 = 1) : oqHk g a b = oqK1 g a := if_pos h
theorem oqHk_r {g : Int → Int} {a b : Int} (h : oqH g a b 0 = 0) (h2 : oqH g a b 2 = 1) : oqHk g a b = 0 := (if_neg (by omega)).trans (if_pos h2)
theorem oqHk_d {g : Int → Int} {a b : Int} (h : oqHk g a b = 0) : oqHD g a b := by
  unfold oqHk at h
  have h1 := oqH_01 g a b 0
  have h2 := oqH_01 g a b 2
  unfold oqHD
  by_cases q1 : oqH g a b 0 = 1
  · rw [if_pos q1] at h
    exact Or.inl ⟨q1, h⟩
  · rw [if_neg q1] at h
    by_cases q2 : oqH g a b 2 = 1
    · exact Or.inr ⟨by omega, q2⟩
    · rw [if_neg q2] at h
      omega
def oqTS (T : Int) (t : oS) : Prop := T = oSm (fun j => t.1 100 (24 + j)) (t.1 71 37).toNatClampNeg
theorem oqTS_fr {M : List (Nat × Nat)} {s u : oS} {T : Int} (hf : oFr M s u) (hm : (oin M 12 37 || oinK M 76) = false) (h : oqTS T s) : oqTS T u := by
  simp only [Bool.or_eq_false_iff] at hm
  have e1 : u.1 71 37 = s.1 71 37 := (hf 71 37 hm.1).1
  unfold oqTS
  rw [e1, oFr_row hf (c := 100) rfl hm.2]
  exact h
theorem oqTS_0 {t : oS} {T : Int} (hT : T = 0) (h : (t.1 71 37).toInt = 0) : oqTS T t := by
  unfold oqTS
  rw [hT, oSm_at0 h]
/-- after a statement: its ticks are laid, and there is one statement more -/
theorem oqTS_nx {t u : oS} {T T' : Int} {x v w : Int32} {M : List (Nat × Nat)} (H : oqTS T t) (hx : x.toInt = 24 + (t.1 71 37).toInt) (h0 : 0 ≤ (t.1 71 37).toInt) (hf : oFr M (pI t 100 x.toNatClampNeg v) u) (hm : (oin M 12 37 || oinK M 76) = false) (hw : w.toInt = (t.1 71 37).toInt + 1) (hT : T' = T + v.toInt) : oqTS T' (pI u 71 37 w) := by
  simp only [Bool.or_eq_false_iff] at hm
  have e1 : u.1 71 37 = t.1 71 37 := ((hf 71 37 hm.1).1).trans (pI_ne t v (Or.inl (by decide)))
  have e2 : u.1 100 = (pI t 100 x.toNatClampNeg v).1 100 := oFr_row hf (c := 100) rfl hm.2
  have n1 := n_nat x
  have n2 := n_nat (t.1 71 37)
  have n3 := n_nat w
  unfold oqTS
  unfold oqTS at H
  rw [pI_self, show w.toNatClampNeg = (t.1 71 37).toNatClampNeg + 1 by omega]
  have e3 : (pI u 71 37 w).1 100 = u.1 100 := by
    funext k
    exact pI_ne u w (Or.inl (by decide))
  rw [e3, e2]
  show T' = oSm (fun j => (pI t 100 x.toNatClampNeg v).1 100 (24 + j)) (t.1 71 37).toNatClampNeg + ((pI t 100 x.toNatClampNeg v).1 100 (24 + (t.1 71 37).toNatClampNeg)).toInt
  rw [show 24 + (t.1 71 37).toNatClampNeg = x.toNatClampNeg by omega, pI_self, hT, H]
  congr 1
  have key : ∀ m : Nat, m ≤ (t.1 71 37).toNatClampNeg → oSm (fun j => t.1 100 (24 + j)) m = oSm (fun j => (pI t 100 x.toNatClampNeg v).1 100 (24 + j)) m := fun m => by
    induction m with
    | zero => exact fun _ => rfl
    | succ m ihm =>
      intro hm2
      show oSm (fun j => t.1 100 (24 + j)) m + (t.1 100 (24 + m)).toInt = oSm (fun j => (pI t 100 x.toNatClampNeg v).1 100 (24 + j)) m + ((pI t 100 x.toNatClampNeg v).1 100 (24 + m)).toInt
      rw [ihm (by omega), pI_ne t v (Or.inr (by omega))]
  exact key _ (Nat.le_refl _)
