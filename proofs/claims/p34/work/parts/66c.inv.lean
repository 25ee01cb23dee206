/-- the tapes are alike, the words are there, the books mean the same -/
def oqER (t : oS) : Prop := oqE t ∧ oqWd t ∧ ∃ (R : Int) (W : Nat → List Int) (me : Int), owBX R W me t ∧ owLN t ∧ owDN t ∧ owBE R W t ∧ owMM me t ∧ owLO t
theorem oqER_fr {M : List (Nat × Nat)} {s u : oS} (hf : oFr M s u) (hm : ((((oin M 8 1 || (oinK M 15 || (oin M 12 1 || oinK M 48))) || ((List.range 26).any fun i => oinK M (49 + i))) || ((((oin M 11 4 || oin M 11 5) || oin M 0 6) || (((oin M 2 3 || oin M 0 7) || (oinK M 20 || (oinK M 21 || oinK M 22))) || (oinK M 25 || oinK M 26))) || (oin M 4 6 || oinK M 16))) || (((oinK M 29 || (oinK M 30 || oinK M 31)) || (oinK M 80 || (oinK M 78 || (oinK M 81 || oinK M 82)))) || (oin M 12 53 || oin M 12 64))) = false) (h : oqER s) : oqER u := by
  rw [Bool.or_eq_false_iff] at hm
  obtain ⟨hm1, hm2⟩ := hm
  rw [Bool.or_eq_false_iff] at hm1 hm2
  obtain ⟨hm1, hm3⟩ := hm1
  obtain ⟨hm2, hm4⟩ := hm2
  rw [Bool.or_eq_false_iff] at hm1 hm2 hm3 hm4
  obtain ⟨h1, h2, R, W, me, h3, h4, h5, h6, h7, h8⟩ := h
  exact ⟨oqE_fr hf hm1.1 h1, oqWd_fr hf hm1.2 h2, R, W, me, owBX_fr hf hm3.1 h3, owLN_fr hf hm3.2 h4, owDN_fr hf hm2.1 h5, owBE_fr hf hm2.2 h6, owMM_fr hf hm4.1 h7, owLO_fr hf hm4.2 h8⟩
