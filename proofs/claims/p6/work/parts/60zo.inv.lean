/-- both tell the same fault -/
def oqFE (t : oS) : Prop := (t.1 30 8).toInt = (t.1 71 7).toInt ∧ (t.1 30 9).toInt = (t.1 71 8).toInt
theorem oqFE_fr {M : List (Nat × Nat)} {s u : oS} (hf : oFr M s u) (hm : (oin M 5 8 || (oin M 5 9 || (oin M 12 7 || oin M 12 8))) = false) (h : oqFE s) : oqFE u := by
  simp only [Bool.or_eq_false_iff] at hm
  unfold oqFE
  rw [(hf 30 8 hm.1).1, (hf 30 9 hm.2.1).1, (hf 71 7 hm.2.2.1).1, (hf 71 8 hm.2.2.2).1]
  exact h
theorem oqFE_of {t : oS} (h1 : (t.1 30 8).toInt = (t.1 71 7).toInt) (h2 : (t.1 30 9).toInt = (t.1 71 8).toInt) : oqFE t := ⟨h1, h2⟩
/-- the tapes are alike, the words are there, the faults are alike -/
def oqEF (t : oS) : Prop := oqE t ∧ oqWd t ∧ oqFE t
theorem oqEF_fr {M : List (Nat × Nat)} {s u : oS} (hf : oFr M s u) (hm : ((oin M 8 1 || (oinK M 15 || (oin M 12 1 || oinK M 48))) || (((List.range 26).any fun i => oinK M (49 + i)) || (oin M 5 8 || (oin M 5 9 || (oin M 12 7 || oin M 12 8))))) = false) (h : oqEF s) : oqEF u := by
  rw [Bool.or_eq_false_iff] at hm
  obtain ⟨hm1, hm2⟩ := hm
  rw [Bool.or_eq_false_iff] at hm2
  exact ⟨oqE_fr hf hm1 h.1, oqWd_fr hf hm2.1 h.2.1, oqFE_fr hf hm2.2 h.2.2⟩
