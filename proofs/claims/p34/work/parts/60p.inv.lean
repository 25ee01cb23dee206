/-- the tapes are alike, the words are there -/
def oqEW (t : oS) : Prop := oqE t ∧ oqWd t
theorem oqEW_fr {M : List (Nat × Nat)} {s u : oS} (hf : oFr M s u) (hm : ((oin M 8 1 || (oinK M 15 || (oin M 12 1 || oinK M 48))) || ((List.range 26).any fun i => oinK M (49 + i))) = false) (h : oqEW s) : oqEW u := by
  rw [Bool.or_eq_false_iff] at hm
  exact ⟨oqE_fr hf hm.1 h.1, oqWd_fr hf hm.2 h.2⟩
