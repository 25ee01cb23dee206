/-! the codes of the book that stands -/
def owC0 (Cq : Nat → Int32) (t : oS) : Prop := ∀ j : Nat, j < 1600 → t.1 102 j = Cq j
theorem owC0_fr {M : List (Nat × Nat)} {s u : oS} {Cq : Nat → Int32} (hf : oFr M s u) (hm : (oinK M 78) = false) (h : owC0 Cq s) : owC0 Cq u := fun j hj => by
  rw [oFr_row hf (c := 102) rfl hm]
  exact h j hj
theorem owC0_pu {s : oS} {Cq : Nat → Int32} {i v : Int32} (h : owC0 Cq s) (hi : 1600 ≤ i.toInt) : owC0 Cq (pI s 102 i.toNatClampNeg v) := fun j hj => by
  have hn := n_nat i
  rw [pI_ne _ _ (Or.inr (by omega))]
  exact h j hj
