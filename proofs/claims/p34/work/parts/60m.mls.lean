/-- the reference on its way along the line -/
def oqLS (g : Int → Int) (t : oS) : Prop := ((t.1 71 5).toInt = 0 ∧ (t.1 71 6).toInt = -1 ∧ ∃ T, oqTS T t ∧ oqRn g (t.1 71 2).toInt (t.1 71 4).toInt T (t.1 71 37).toInt) ∨ ((t.1 71 5).toInt ≠ 0 ∧ oqR1 g = -1 ∧ oqR2 g = (t.1 71 5).toInt ∧ oqR3 g = (t.1 71 6).toInt)
theorem oqLS_ok {g : Int → Int} {t : oS} (h : oqLS g t) (hb : (t.1 71 5).toInt = 0) : (t.1 71 6).toInt = -1 ∧ ∃ T, oqTS T t ∧ oqRn g (t.1 71 2).toInt (t.1 71 4).toInt T (t.1 71 37).toInt := by
  rcases h with h | h
  · exact h.2
  · exact absurd hb h.1
theorem oqLS_bad {g : Int → Int} {t : oS} (h : oqLS g t) (hb : (t.1 71 5).toInt ≠ 0) : oqR1 g = -1 ∧ oqR2 g = (t.1 71 5).toInt ∧ oqR3 g = (t.1 71 6).toInt := by
  rcases h with h | h
  · exact absurd h.1 hb
  · exact h.2
theorem oqLS_0 {g : Int → Int} {t : oS} (h1 : (t.1 71 5).toInt = 0) (h2 : (t.1 71 6).toInt = -1) (h3 : (t.1 71 2).toInt = 0) (h4 : (t.1 71 4).toInt = -1) (h5 : (t.1 71 37).toInt = 0) : oqLS g t := Or.inl ⟨h1, h2, 0, oqTS_0 rfl h5, oqRn_0 h3 h4 rfl h5⟩
theorem oqLS_nx {g : Int → Int} {u : oS} {a b T n : Int} (hRn : oqRn g a b T n) (hne : g (oqSk g a) ≠ -1) (p24 : n = 24 → (u.1 71 5).toInt = 5 ∧ (u.1 71 6).toInt = oqSk g a) (p1 : n < 24 → (u.1 71 5).toInt = 0 → (oqTk g (oqSk g a) b T = 0 ∧ (u.1 71 2).toInt = oqTa g (oqSk g a) b ∧ (u.1 71 4).toInt = oqTb g (oqSk g a) b ∧ (u.1 71 6).toInt = -1)) (p0 : n < 24 → (u.1 71 5).toInt ≠ 0 → ((u.1 71 5).toInt = oqTk g (oqSk g a) b T ∧ (u.1 71 6).toInt = oqTp g (oqSk g a) b T)) (pT : (u.1 71 5).toInt = 0 → oqTS (T + oqTv g (oqSk g a) b) u) (ps : (u.1 71 5).toInt = 0 → (u.1 71 37).toInt = n + 1) : oqLS g u := by
  have hn := hRn.2.1
  by_cases h24 : n = 24
  · obtain ⟨h1, h2⟩ := p24 h24
    have h := oqRn_5 hRn hne h24
    exact Or.inr ⟨by omega, by omega, by omega, by omega⟩
  · by_cases hb : (u.1 71 5).toInt = 0
    · obtain ⟨h1, h2, h3, h4⟩ := p1 (by omega) hb
      exact Or.inl ⟨hb, h4, _, pT hb, oqRn_nx hRn hne (by omega) h1 h2 h3 rfl (ps hb)⟩
    · obtain ⟨h1, h2⟩ := p0 (by omega) hb
      have h := oqRn_bad hRn hne (by omega) (by omega)
      exact Or.inr ⟨hb, h.1, by omega, by omega⟩
