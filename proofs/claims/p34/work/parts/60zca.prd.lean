/-! facts about the reference that stay closed till they are needed -/
def oqMo (fp fq : Int) (t : oS) : Prop := ((t.1 71 56).toInt = 1 ∧ fp = 19 ∧ fq = 24) ∨ ((t.1 71 56).toInt = 0 ∧ fp = 11 ∧ fq = 19)
def oqBP (t : oS) : Prop := (t.1 71 5).toInt = 0 → (t.1 71 6).toInt = -1
def oqN0 (g : Int → Int) (t : oS) : Prop := oqSk g (t.1 71 2).toInt = (t.1 71 2).toInt ∧ g (t.1 71 2).toInt ≠ 40 ∧ oqWi g (t.1 71 2).toInt (t.1 71 4).toInt ≠ 24 ∧ oqWi g (t.1 71 2).toInt (t.1 71 4).toInt ≠ 25
def oqN2 (g : Int → Int) (t : oS) : Prop := oqSk g (t.1 71 2).toInt = (t.1 71 2).toInt ∧ g (t.1 71 2).toInt ≠ 40 ∧ (oqWi g (t.1 71 2).toInt (t.1 71 4).toInt = 24 ∨ oqWi g (t.1 71 2).toInt (t.1 71 4).toInt = 25)
def oqNc (g : Int → Int) (b : Nat) (t : oS) : Prop := g (t.1 71 2).toInt ≠ 41 ∨ (oqHs b t ≠ 0 ∧ oqHs b t ≠ 2)
def oqNp4 (g : Int → Int) (a : Int) : Prop := g a ≠ 42 ∧ g a ≠ 47 ∧ g a ≠ 43 ∧ g a ≠ 45
def oqGe (g : Int → Int) (t : oS) : Prop := (t.1 71 5).toInt = 0 → oqNp4 g (t.1 71 2).toInt ∧ oqSk g (t.1 71 2).toInt = (t.1 71 2).toInt
def oqSe (g : Int → Int) (B : Nat) (t : oS) : Prop := (t.1 71 5).toInt = 0 → (t.1 71 47).toInt = (B : Int) ∧ oqNp4 g (t.1 71 2).toInt ∧ oqSk g (t.1 71 2).toInt = (t.1 71 2).toInt
def oqGw (g : Int → Int) (t : oS) : Prop := (t.1 71 5).toInt = 0 → oqWi g (oqSk g (t.1 71 2).toInt) (t.1 71 4).toInt ≠ 7 ∧ oqWi g (oqSk g (t.1 71 2).toInt) (t.1 71 4).toInt ≠ 8
section PRD
variable {g : Int → Int} {fp fq : Int} {b B : Nat} {s u : oS} {M : List (Nat × Nat)}
theorem oqMo_fr (hf : oFr M s u) (hm : oin M 12 56 = false) (h : oqMo fp fq s) : oqMo fp fq u := by
  unfold oqMo
  rw [(hf 71 56 hm).1]
  exact h
theorem oqMo_1 (h : oqMo fp fq s) (h1 : (s.1 71 56).toInt ≠ 0) : fp = 19 ∧ fq = 24 := by
  rcases h with h | h
  · exact h.2
  · exact absurd h.1 h1
theorem oqMo_0 (h : oqMo fp fq s) (h1 : (s.1 71 56).toInt = 0) : fp = 11 ∧ fq = 19 := by
  rcases h with h | h
  · exfalso
    have := h.1
    omega
  · exact h.2
theorem oqBP_fr (hf : oFr M s u) (hm : (oin M 12 5 || oin M 12 6) = false) (h : oqBP s) : oqBP u := by
  simp only [Bool.or_eq_false_iff] at hm
  unfold oqBP
  rw [(hf 71 5 hm.1).1, (hf 71 6 hm.2).1]
  exact h
theorem oqGe_fr (hf : oFr M s u) (hm : (oin M 12 2 || oin M 12 5) = false) (h : oqGe g s) : oqGe g u := by
  simp only [Bool.or_eq_false_iff] at hm
  unfold oqGe
  rw [(hf 71 2 hm.1).1, (hf 71 5 hm.2).1]
  exact h
theorem oqGw_fr (hf : oFr M s u) (hm : (oin M 12 2 || (oin M 12 4 || oin M 12 5)) = false) (h : oqGw g s) : oqGw g u := by
  simp only [Bool.or_eq_false_iff] at hm
  unfold oqGw
  rw [(hf 71 2 hm.1).1, (hf 71 4 hm.2.1).1, (hf 71 5 hm.2.2).1]
  exact h
theorem oqN0_of {A E : Int} (ha : (s.1 71 2).toInt = A) (he : (s.1 71 4).toInt = E) (h1 : oqSk g A = A) (h2 : g A ≠ 40) (h3 : oqWi g A E ≠ 24) (h4 : oqWi g A E ≠ 25) : oqN0 g s := by
  unfold oqN0
  rw [ha, he]
  exact ⟨h1, h2, h3, h4⟩
theorem oqN2_of {A E : Int} (ha : (s.1 71 2).toInt = A) (he : (s.1 71 4).toInt = E) (h1 : oqSk g A = A) (h2 : g A ≠ 40) (h3 : oqH g A E 24 = 1 ∨ oqH g A E 25 = 1) : oqN2 g s := by
  unfold oqN2
  rw [ha, he]
  refine ⟨h1, h2, ?_⟩
  rcases h3 with h3 | h3
  · exact Or.inl ((oqWi_is (i := 24) (by decide)).mpr h3)
  · exact Or.inr ((oqWi_is (i := 25) (by decide)).mpr h3)
theorem oqWi_w {A E : Int} {i : Nat} (hi : i < 26) (h : oqH g A E i = 0) : oqWi g A E ≠ (i : Int) := fun h9 => by
  have h8 := (oqWi_is hi).mp h9
  omega
theorem oqWi_y {A E : Int} {i : Nat} (hi : i < 26) (h : oqH g A E i = 1) : oqWi g A E = (i : Int) := (oqWi_is hi).mpr h
theorem oqNc_41 (h : g (s.1 71 2).toInt ≠ 41) : oqNc g b s := Or.inl h
theorem oqNc_mk {x : Nat} {r1 r2 r3 : Int} (hQ : oQ b x s) (hb : (s.1 71 5).toInt = 0) (m1 : oMk r1 s) (m2 : oMk r2 s) (m3 : oMk r3 s) (hB : (s.1 71 55).toInt = (b : Int)) (h9 : b < 9999) (h0 : 0 ≤ (s.1 71 47).toInt) (h1 : r1 ≠ 20) (h2 : r2 ≠ 23) (h3 : r3 ≠ 24) : oqNc g b s := by
  have e1 := oMk_u m1 m2
  have e2 := oMk_u m1 m3
  have e := oqHs_mk hQ hb m1 hB h9 h0
  exact Or.inr (by omega)
theorem oqHs_1 {x : Nat} {r : Int} (hQ : oQ b x s) (hb : (s.1 71 5).toInt = 0) (m : oMk r s) (hB : (s.1 71 55).toInt = (b : Int)) (h9 : b < 9999) (h0 : 0 ≤ (s.1 71 47).toInt) (hr : r = 21 ∨ r = 22) : oqHs b s = 1 := by
  have e := oqHs_mk hQ hb m hB h9 h0
  omega
theorem oqHs_02 {x : Nat} {r5 r6 r : Int} (hQ : oQ b x s) (hb : (s.1 71 5).toInt = 0) (m5 : oMk r5 s) (m6 : oMk r6 s) (m : oMk r s) (hB : (s.1 71 55).toInt = (b : Int)) (h9 : b < 9999) (h0 : 0 ≤ (s.1 71 47).toInt) (h5 : r5 ≠ 21) (h6 : r6 ≠ 22) (h1 : r ≠ -1) : oqHs b s = 0 ∨ oqHs b s = 2 := by
  have e1 := oMk_u m5 m
  have e2 := oMk_u m6 m
  have e := oqHs_mk hQ hb m hB h9 h0
  omega
theorem oqNc_g {k : Int} (h : oqNc g b s) (hk : oqHs b s = k) (h1 : k = 0 ∨ k = 2) : g (s.1 71 2).toInt ≠ 41 := by
  rcases h with h | h
  · exact h
  · exfalso
    omega
theorem oqNp4_n {a : Int} (h : oqNp4 g a) : ¬ oqOp g a := oqOp_no h
theorem oqGe_of {A : Int} (ha : (s.1 71 2).toInt = A) (h1 : oqSk g A = A) (h2 : g A ≠ 42) (h3 : g A ≠ 47) (h4 : g A ≠ 43) (h5 : g A ≠ 45) : oqGe g s := fun _ => by
  rw [ha]
  exact ⟨⟨h2, h3, h4, h5⟩, h1⟩
theorem oqGe_b (h : (s.1 71 5).toInt ≠ 0) : oqGe g s := fun h9 => absurd h9 h
theorem oqGe_mv (h : oqGe g s) (hb : (u.1 71 5).toInt = 0 → (s.1 71 5).toInt = 0) (ha : (u.1 71 2).toInt = (s.1 71 2).toInt) : oqGe g u := fun h9 => by
  rw [ha]
  exact h (hb h9)
theorem oqSe_of (h : oqGe g s) (hW : (s.1 71 5).toInt = 0 → (s.1 71 47).toInt = (B : Int)) : oqSe g B s := fun h9 => ⟨hW h9, h h9⟩
theorem oqGw_b (h : (s.1 71 5).toInt ≠ 0) : oqGw g s := fun h9 => absurd h9 h
theorem oqGw_of {A E : Int} (ha : (s.1 71 2).toInt = A) (he : (s.1 71 4).toInt = E) (h1 : oqSk g A = A) (h7 : oqH g A E 7 = 0) (h8 : oqH g A E 8 = 0) : oqGw g s := fun _ => by
  rw [ha, he, h1]
  exact ⟨oqWi_w (i := 7) (by decide) h7, oqWi_w (i := 8) (by decide) h8⟩
end PRD
