/-- the tapes are alike, the words are there, the books have the same names -/
def oqEN (t : oS) : Prop := oqE t ∧ oqWd t ∧ ∃ (M : Int) (N : Nat → Nat → Int), oqNC M N t ∧ oqNE M N t
theorem oqEN_fr {M : List (Nat × Nat)} {s u : oS} (hf : oFr M s u) (hm : (((oin M 8 1 || (oinK M 15 || (oin M 12 1 || oinK M 48))) || ((List.range 26).any fun i => oinK M (49 + i))) || (((oin M 11 4 || oin M 11 5) || (oin M 0 8 || oinK M 23)) || (oinK M 80 || oinK M 83))) = false) (h : oqEN s) : oqEN u := by
  rw [Bool.or_eq_false_iff] at hm
  obtain ⟨hm1, hm2⟩ := hm
  rw [Bool.or_eq_false_iff] at hm1 hm2
  obtain ⟨h1, h2, M0, N0, h3, h4⟩ := h
  exact ⟨oqE_fr hf hm1.1 h1, oqWd_fr hf hm1.2 h2, M0, N0, oqNC_fr hf hm2.1 h3, oqNE_fr hf hm2.2 h4⟩
