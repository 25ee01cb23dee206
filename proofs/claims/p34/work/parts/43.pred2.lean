theorem n_ne0L {y : Int64} (h : y.toInt ≠ 0) : ¬ y = 0 := fun z => h (by rw [z]; rfl)
/-- the notes ahead of x have 1 to 4 ticks -/
def oT4 (x : Int32) (s : oS) : Prop := ∀ j : Nat, j < x.toNatClampNeg → 1 ≤ (s.1 100 j).toInt ∧ (s.1 100 j).toInt ≤ 4
theorem oT4_fr {M : List (Nat × Nat)} {x : Int32} {s u : oS} (hf : oFr M s u) (hm : oinK M 76 = false) (h : oT4 x s) : oT4 x u := fun j hj => by
  rw [(hf 100 j (oinK_in hm j)).1]
  exact h j hj
theorem oT4_0 {x : Int32} {s : oS} (h : x.toInt = 0) : oT4 x s := fun j hj => by
  have e : x.toInt.toNat = x.toNatClampNeg := rfl
  omega
theorem oT4_step {x y w : Int32} {s : oS} (h : oT4 x s) (h0 : 0 ≤ x.toInt) (hy : y.toInt = x.toInt + 1) (hw : 1 ≤ w.toInt ∧ w.toInt ≤ 4) : oT4 y (pI s 100 x.toNatClampNeg w) := fun j hj => by
  have e1 : x.toInt.toNat = x.toNatClampNeg := rfl
  have e2 : y.toInt.toNat = y.toNatClampNeg := rfl
  by_cases hjx : j = x.toNatClampNeg
  · rw [hjx, pI_self]
    exact hw
  · rw [pI_ne s w (Or.inr hjx)]
    exact h j (by omega)
theorem oSm_le4 {f : Nat → Int32} : ∀ {n : Nat}, (∀ j, j < n → 1 ≤ (f j).toInt ∧ (f j).toInt ≤ 4) → oSm f n ≤ 4 * (n : Int)
  | 0, _ => by simp [oSm]
  | n + 1, h => by
    have := oSm_le4 (f := f) (n := n) (fun j hj => h j (by omega))
    have h1 := h n (by omega)
    show oSm f n + (f n).toInt ≤ _
    omega
theorem oLT_of4 {x : Int32} {s : oS} (h : oT4 x s) (hx : x.toInt = (s.1 71 38).toInt) (hn : (s.1 71 38).toInt ≤ 24) : oLT s := by
  have e1 : x.toInt.toNat = x.toNatClampNeg := rfl
  have e2 : (s.1 71 38).toInt.toNat = (s.1 71 38).toNatClampNeg := rfl
  have e3 : x.toNatClampNeg = (s.1 71 38).toNatClampNeg := by omega
  unfold oT4 at h
  rw [e3] at h
  refine ⟨?_, fun k hk => (h k hk).1⟩
  have := oSm_le4 h
  omega
/-- the ticks that were put aside -/
def oAT (s : oS) : Prop := oSm (s.1 115) (s.1 71 77).toNatClampNeg ≤ 96 ∧ ∀ k, k < (s.1 71 77).toNatClampNeg → 1 ≤ (s.1 115 k).toInt
theorem oAT_fr {M : List (Nat × Nat)} {s u : oS} (hf : oFr M s u) (hm : (oin M 12 77 || oinK M 91) = false) (h : oAT s) : oAT u := by
  simp only [Bool.or_eq_false_iff] at hm
  have e1 : u.1 71 77 = s.1 71 77 := (hf 71 77 hm.1).1
  have e2 : u.1 115 = s.1 115 := by funext k; exact (hf 115 k (oinK_in hm.2 k)).1
  unfold oAT
  rw [e1, e2]
  exact h
/-- the first x ticks are aside as they are in the line -/
def oCq (x : Int32) (s : oS) : Prop := ∀ j : Nat, j < x.toNatClampNeg → s.1 115 j = s.1 100 j
theorem oCq_fr {M : List (Nat × Nat)} {x : Int32} {s u : oS} (hf : oFr M s u) (hm : (oinK M 76 || oinK M 91) = false) (h : oCq x s) : oCq x u := fun j hj => by
  simp only [Bool.or_eq_false_iff] at hm
  rw [(hf 100 j (oinK_in hm.1 j)).1, (hf 115 j (oinK_in hm.2 j)).1]
  exact h j hj
theorem oCq_0 {x : Int32} {s : oS} (h : x.toInt = 0) : oCq x s := fun j hj => by
  have e : x.toInt.toNat = x.toNatClampNeg := rfl
  omega
theorem oCq_step {x y w : Int32} {s : oS} (h : oCq x s) (h0 : 0 ≤ x.toInt) (hy : y.toInt = x.toInt + 1) (hw : s.1 100 x.toNatClampNeg = w) : oCq y (pI s 115 x.toNatClampNeg w) := fun j hj => by
  have e1 : x.toInt.toNat = x.toNatClampNeg := rfl
  have e2 : y.toInt.toNat = y.toNatClampNeg := rfl
  by_cases hjx : j = x.toNatClampNeg
  · rw [hjx, pI_self, pI_ne s w (Or.inl (by decide)), hw]
  · rw [pI_ne s w (Or.inr hjx), pI_ne s w (Or.inl (by decide))]
    exact h j (by omega)
theorem oCq_back {x y w : Int32} {s : oS} (h : oCq x s) (h0 : 0 ≤ x.toInt) (hy : y.toInt = x.toInt + 1) (hw : s.1 115 x.toNatClampNeg = w) : oCq y (pI s 100 x.toNatClampNeg w) := fun j hj => by
  have e1 : x.toInt.toNat = x.toNatClampNeg := rfl
  have e2 : y.toInt.toNat = y.toNatClampNeg := rfl
  by_cases hjx : j = x.toNatClampNeg
  · rw [hjx, pI_self, pI_ne s w (Or.inl (by decide)), hw]
  · rw [pI_ne s w (a := 115) (Or.inl (by decide)), pI_ne s w (a := 100) (b := j) (Or.inr hjx)]
    exact h j (by omega)
theorem oAT_of {x : Int32} {s : oS} (h : oCq x s) (hl : oLT s) (hx : x.toInt = (s.1 71 38).toInt) (hn : (s.1 71 77).toInt = (s.1 71 38).toInt) : oAT s := by
  have e1 : x.toInt.toNat = x.toNatClampNeg := rfl
  have e2 : (s.1 71 38).toInt.toNat = (s.1 71 38).toNatClampNeg := rfl
  have e3 : (s.1 71 77).toInt.toNat = (s.1 71 77).toNatClampNeg := rfl
  have e4 : (s.1 71 77).toNatClampNeg = (s.1 71 38).toNatClampNeg := by omega
  have e5 : x.toNatClampNeg = (s.1 71 38).toNatClampNeg := by omega
  unfold oAT
  unfold oCq at h
  rw [e5] at h
  rw [e4]
  exact ⟨by rw [oSm_congr h]; exact hl.1, fun k hk => by rw [h k hk]; exact hl.2 k hk⟩
theorem oLT_of {x : Int32} {s : oS} (h : oCq x s) (hl : oAT s) (hx : x.toInt = (s.1 71 38).toInt) (hn : (s.1 71 38).toInt = (s.1 71 77).toInt) : oLT s := by
  have e1 : x.toInt.toNat = x.toNatClampNeg := rfl
  have e2 : (s.1 71 38).toInt.toNat = (s.1 71 38).toNatClampNeg := rfl
  have e3 : (s.1 71 77).toInt.toNat = (s.1 71 77).toNatClampNeg := rfl
  have e4 : (s.1 71 77).toNatClampNeg = (s.1 71 38).toNatClampNeg := by omega
  have e5 : x.toNatClampNeg = (s.1 71 38).toNatClampNeg := by omega
  unfold oAT at hl
  unfold oCq at h
  rw [e5] at h
  rw [e4] at hl
  exact ⟨by rw [← oSm_congr h]; exact hl.1, fun k hk => by rw [← h k hk]; exact hl.2 k hk⟩
