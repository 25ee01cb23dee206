/-! names, and one statement of the book -/
def oqWeF (g : Int → Int) : Nat → Int → Int
  | 0, a => a
  | k + 1, a => if 97 ≤ g a ∧ g a ≤ 122 then oqWeF g k (a + 1) else a
/-- where a run of letters is over -/
def oqWe (g : Int → Int) (a : Int) : Int := oqWeF g 1601 a
theorem oqWeF_of {g : Int → Int} {b : Int} (h3 : ¬ (97 ≤ g b ∧ g b ≤ 122)) : ∀ (k : Nat) (a : Int), a ≤ b → b - a < k → oqRun g a b → oqWeF g k a = b
  | 0, a, h1, h4, _ => by omega
  | k + 1, a, h1, h4, h2 => by
    show (if 97 ≤ g a ∧ g a ≤ 122 then oqWeF g k (a + 1) else a) = b
    by_cases hab : a = b
    · rw [hab, if_neg h3]
    · rw [if_pos (h2 a (Int.le_refl _) (by omega))]
      exact oqWeF_of h3 k (a + 1) (by omega) (by omega) (fun j q1 q2 => h2 j (by omega) q2)
theorem oqWe_of {g : Int → Int} {a b : Int} (h1 : a ≤ b) (h2 : oqRun g a b) (h3 : ¬ (97 ≤ g b ∧ g b ≤ 122)) (h4 : b - a ≤ 1600) : oqWe g a = b := oqWeF_of h3 1601 a h1 (by omega) h2
/-- the letters of a name: 1 .. 26, 0 behind it -/
def oqN6 (g : Int → Int) (A : Int) (k : Nat) : Int := if A + k < oqWe g A then g (A + k) - 96 else 0
/-- it is one of the first M of those -/
def oqTkn (g : Int → Int) (A : Int) (N : Nat → Nat → Int) (M : Int) : Prop := ∃ m : Nat, (m : Int) < M ∧ ∀ k : Nat, k < 6 → N m k = oqN6 g A k
/-- a name behind h: its fault, 0 without; the place -/
noncomputable def oqMk (g : Int → Int) (h : Int) (N : Nat → Nat → Int) (M : Int) : Int := if ¬ (97 ≤ g (oqSk g h) ∧ g (oqSk g h) ≤ 122) ∨ oqWi g h h ≠ -1 then 1 else if 6 < oqWe g (oqSk g h) - oqSk g h then 1 else @ite Int (oqTkn g (oqSk g h) N M) (Classical.propDecidable _) 3 0
noncomputable def oqMp (g : Int → Int) (h : Int) : Int := if ¬ (97 ≤ g (oqSk g h) ∧ g (oqSk g h) ≤ 122) ∨ oqWi g h h ≠ -1 then oqSk g h else if 6 < oqWe g (oqSk g h) - oqSk g h then oqSk g h + 6 else oqSk g h
/-- where a test ends -/
noncomputable def oqTf (g : Int → Int) (p q a b : Int) : oqCf := @dite oqCf (∃ c : oqCf, 4 ≤ c.1 ∧ oqTo g p q (0, a, b, 0, []) c) (Classical.propDecidable _) (fun h => Classical.choose h) (fun _ => (9, 0, 0, 0, []))
theorem oqTf_of {g : Int → Int} {p q a b : Int} {c : oqCf} (h : oqTo g p q (0, a, b, 0, []) c) (hc : 4 ≤ c.1) : oqTf g p q a b = c := by
  have hx : ∃ c : oqCf, 4 ≤ c.1 ∧ oqTo g p q (0, a, b, 0, []) c := ⟨c, hc, h⟩
  unfold oqTf
  rw [dif_pos hx]
  exact oqTo.det (Classical.choose_spec hx).2 h (Classical.choose_spec hx).1 hc
/-- when TEST ; behind w: its fault, 0 without; the place; where it ends; the glue there -/
noncomputable def oqVc (g : Int → Int) (p q w : Int) : oqCf := oqTf g p q (oqSk g (oqHa g w 6)) (oqHa g w 6)
noncomputable def oqVk (g : Int → Int) (p q w : Int) : Int := if oqH g w w 6 ≠ 1 then 1 else if (oqVc g p q w).1 ≠ 8 then (oqVc g p q w).2.2.1 else if g (oqSk g (oqVc g p q w).2.1) ≠ 59 then 1 else 0
noncomputable def oqVp (g : Int → Int) (p q w : Int) : Int := if oqH g w w 6 ≠ 1 then oqSk g w else if (oqVc g p q w).1 ≠ 8 then (oqVc g p q w).2.1 else oqSk g (oqVc g p q w).2.1
noncomputable def oqVa (g : Int → Int) (p q w : Int) : Int := oqSk g (oqVc g p q w).2.1 + 1
noncomputable def oqVb (g : Int → Int) (p q w : Int) : Int := (oqVc g p q w).2.2.1
theorem oqV_1 {g : Int → Int} {p q w : Int} (h : oqH g w w 6 = 0) : oqVk g p q w = 1 ∧ oqVp g p q w = oqSk g w := by
  have c1 : oqH g w w 6 ≠ 1 := by omega
  exact ⟨if_pos c1, if_pos c1⟩
theorem oqV_2 {g : Int → Int} {p q w k pl : Int} (h : oqH g w w 6 = 1) (ht : oqFn g p q (oqSk g (oqHa g w 6)) (oqHa g w 6) 0 k pl) : oqVk g p q w = k ∧ oqVp g p q w = pl := by
  have c1 : ¬ (oqH g w w 6 ≠ 1) := by omega
  have e : oqVc g p q w = (9, pl, k, 0, []) := oqTf_of (ht [] oqNN_0) (by show 4 ≤ 9; omega)
  have c2 : (oqVc g p q w).1 ≠ 8 := by rw [e]; show (9 : Nat) ≠ 8; decide
  refine ⟨(if_neg c1).trans ((if_pos c2).trans (by rw [e])), (if_neg c1).trans ((if_pos c2).trans (by rw [e]))⟩
theorem oqV_c {g : Int → Int} {p q w x y : Int} (ht : oqGn g p q (oqSk g (oqHa g w 6)) (oqHa g w 6) 0 x y) (hw : oqWi g x y ≠ 7 ∧ oqWi g x y ≠ 8) : oqVc g p q w = (8, x, y, 0, []) := oqTf_of (oqt_Y ht hw) (by show 4 ≤ 8; omega)
theorem oqV_3 {g : Int → Int} {p q w x y : Int} (h : oqH g w w 6 = 1) (ht : oqGn g p q (oqSk g (oqHa g w 6)) (oqHa g w 6) 0 x y) (hw : oqWi g x y ≠ 7 ∧ oqWi g x y ≠ 8) (hs : g (oqSk g x) ≠ 59) : oqVk g p q w = 1 ∧ oqVp g p q w = oqSk g x := by
  have c1 : ¬ (oqH g w w 6 ≠ 1) := by omega
  have e := oqV_c ht hw
  have c2 : ¬ ((oqVc g p q w).1 ≠ 8) := by rw [e]; exact fun h => h rfl
  have c3 : g (oqSk g (oqVc g p q w).2.1) ≠ 59 := by rw [e]; exact hs
  refine ⟨(if_neg c1).trans ((if_neg c2).trans (if_pos c3)), (if_neg c1).trans ((if_neg c2).trans (by rw [e]))⟩
theorem oqV_0 {g : Int → Int} {p q w x y : Int} (h : oqH g w w 6 = 1) (ht : oqGn g p q (oqSk g (oqHa g w 6)) (oqHa g w 6) 0 x y) (hw : oqWi g x y ≠ 7 ∧ oqWi g x y ≠ 8) (hs : g (oqSk g x) = 59) : oqVk g p q w = 0 ∧ oqVa g p q w = oqSk g x + 1 ∧ oqVb g p q w = y := by
  have c1 : ¬ (oqH g w w 6 ≠ 1) := by omega
  have e := oqV_c ht hw
  have c2 : ¬ ((oqVc g p q w).1 ≠ 8) := by rw [e]; exact fun h => h rfl
  have c3 : ¬ (g (oqSk g (oqVc g p q w).2.1) ≠ 59) := by rw [e]; exact fun h => h hs
  refine ⟨(if_neg c1).trans ((if_neg c2).trans (if_neg c3)), ?_, ?_⟩
  · unfold oqVa; rw [e]
  · unfold oqVb; rw [e]
/-- one statement from a on, glue b, behind R rules and M mottos (their names N): its fault, 0 without; the place; where it ends; the glue there -/
noncomputable def oqBh (g : Int → Int) (a b : Int) : Int := oqHa g a (oqWi g a b).toNat
noncomputable def oqBn (g : Int → Int) (a b : Int) : Int := oqWe g (oqSk g (oqBh g a b))
noncomputable def oqBk (g : Int → Int) (a b R M : Int) (N : Nat → Nat → Int) : Int := if oqWi g a b = 3 then (if oqNk g (oqBh g a b) (oqBh g a b) 2 12 ≠ 0 then oqNk g (oqBh g a b) (oqBh g a b) 2 12 else if g (oqSk g (oqNa g (oqBh g a b))) ≠ 59 then 1 else 0) else if oqWi g a b = 4 then (if 12 ≤ R then 5 else oqVk g 11 19 (oqBh g a b)) else if oqWi g a b = 5 then (if 6 ≤ M then 5 else if oqMk g (oqBh g a b) N M ≠ 0 then oqMk g (oqBh g a b) N M else oqVk g 19 24 (oqBn g a b)) else 1
noncomputable def oqBp (g : Int → Int) (a b R M : Int) (N : Nat → Nat → Int) : Int := if oqWi g a b = 3 then (if oqNk g (oqBh g a b) (oqBh g a b) 2 12 ≠ 0 then oqNp g (oqBh g a b) (oqBh g a b) else oqSk g (oqNa g (oqBh g a b))) else if oqWi g a b = 4 then (if 12 ≤ R then oqSk g a else oqVp g 11 19 (oqBh g a b)) else if oqWi g a b = 5 then (if 6 ≤ M then oqSk g a else if oqMk g (oqBh g a b) N M ≠ 0 then oqMp g (oqBh g a b) else oqVp g 19 24 (oqBn g a b)) else oqSk g a
noncomputable def oqBa (g : Int → Int) (a b : Int) : Int := if oqWi g a b = 3 then oqSk g (oqNa g (oqBh g a b)) + 1 else if oqWi g a b = 4 then oqVa g 11 19 (oqBh g a b) else oqVa g 19 24 (oqBn g a b)
noncomputable def oqBb (g : Int → Int) (a b : Int) : Int := if oqWi g a b = 3 then oqNa g (oqBh g a b) else if oqWi g a b = 4 then oqVb g 11 19 (oqBh g a b) else oqVb g 19 24 (oqBn g a b)
section BST
variable {g : Int → Int} {a b R M : Int} {N : Nat → Nat → Int}
theorem oqB_w (h : oqWi g a b ≠ 3 ∧ oqWi g a b ≠ 4 ∧ oqWi g a b ≠ 5) : oqBk g a b R M N = 1 ∧ oqBp g a b R M N = oqSk g a := ⟨(if_neg h.1).trans ((if_neg h.2.1).trans (if_neg h.2.2)), (if_neg h.1).trans ((if_neg h.2.1).trans (if_neg h.2.2))⟩
theorem oqB_m1 (h : oqWi g a b = 3) (hk : oqNk g (oqBh g a b) (oqBh g a b) 2 12 ≠ 0) : oqBk g a b R M N = oqNk g (oqBh g a b) (oqBh g a b) 2 12 ∧ oqBp g a b R M N = oqNp g (oqBh g a b) (oqBh g a b) := ⟨(if_pos h).trans (if_pos hk), (if_pos h).trans (if_pos hk)⟩
theorem oqB_m2 (h : oqWi g a b = 3) (hk : oqNk g (oqBh g a b) (oqBh g a b) 2 12 = 0) (hs : g (oqSk g (oqNa g (oqBh g a b))) ≠ 59) : oqBk g a b R M N = 1 ∧ oqBp g a b R M N = oqSk g (oqNa g (oqBh g a b)) := by
  have c1 : ¬ (oqNk g (oqBh g a b) (oqBh g a b) 2 12 ≠ 0) := by omega
  exact ⟨(if_pos h).trans ((if_neg c1).trans (if_pos hs)), (if_pos h).trans (if_neg c1)⟩
theorem oqB_m0 (h : oqWi g a b = 3) (hk : oqNk g (oqBh g a b) (oqBh g a b) 2 12 = 0) (hs : g (oqSk g (oqNa g (oqBh g a b))) = 59) : oqBk g a b R M N = 0 ∧ oqBa g a b = oqSk g (oqNa g (oqBh g a b)) + 1 ∧ oqBb g a b = oqNa g (oqBh g a b) := by
  have c1 : ¬ (oqNk g (oqBh g a b) (oqBh g a b) 2 12 ≠ 0) := by omega
  have c2 : ¬ (g (oqSk g (oqNa g (oqBh g a b))) ≠ 59) := by omega
  exact ⟨(if_pos h).trans ((if_neg c1).trans (if_neg c2)), if_pos h, if_pos h⟩
theorem oqB_r5 (h : oqWi g a b = 4) (hR : 12 ≤ R) : oqBk g a b R M N = 5 ∧ oqBp g a b R M N = oqSk g a := by
  have c1 : ¬ oqWi g a b = 3 := by omega
  exact ⟨(if_neg c1).trans ((if_pos h).trans (if_pos hR)), (if_neg c1).trans ((if_pos h).trans (if_pos hR))⟩
theorem oqB_r (h : oqWi g a b = 4) (hR : R < 12) : oqBk g a b R M N = oqVk g 11 19 (oqBh g a b) ∧ oqBp g a b R M N = oqVp g 11 19 (oqBh g a b) ∧ oqBa g a b = oqVa g 11 19 (oqBh g a b) ∧ oqBb g a b = oqVb g 11 19 (oqBh g a b) := by
  have c1 : ¬ oqWi g a b = 3 := by omega
  have c2 : ¬ 12 ≤ R := by omega
  exact ⟨(if_neg c1).trans ((if_pos h).trans (if_neg c2)), (if_neg c1).trans ((if_pos h).trans (if_neg c2)), (if_neg c1).trans (if_pos h), (if_neg c1).trans (if_pos h)⟩
theorem oqB_o5 (h : oqWi g a b = 5) (hM : 6 ≤ M) : oqBk g a b R M N = 5 ∧ oqBp g a b R M N = oqSk g a := by
  have c1 : ¬ oqWi g a b = 3 := by omega
  have c2 : ¬ oqWi g a b = 4 := by omega
  exact ⟨(if_neg c1).trans ((if_neg c2).trans ((if_pos h).trans (if_pos hM))), (if_neg c1).trans ((if_neg c2).trans ((if_pos h).trans (if_pos hM)))⟩
theorem oqB_on (h : oqWi g a b = 5) (hM : M < 6) (hn : oqMk g (oqBh g a b) N M ≠ 0) : oqBk g a b R M N = oqMk g (oqBh g a b) N M ∧ oqBp g a b R M N = oqMp g (oqBh g a b) := by
  have c1 : ¬ oqWi g a b = 3 := by omega
  have c2 : ¬ oqWi g a b = 4 := by omega
  have c3 : ¬ 6 ≤ M := by omega
  exact ⟨(if_neg c1).trans ((if_neg c2).trans ((if_pos h).trans ((if_neg c3).trans (if_pos hn)))), (if_neg c1).trans ((if_neg c2).trans ((if_pos h).trans ((if_neg c3).trans (if_pos hn))))⟩
theorem oqB_o (h : oqWi g a b = 5) (hM : M < 6) (hn : oqMk g (oqBh g a b) N M = 0) : oqBk g a b R M N = oqVk g 19 24 (oqBn g a b) ∧ oqBp g a b R M N = oqVp g 19 24 (oqBn g a b) ∧ oqBa g a b = oqVa g 19 24 (oqBn g a b) ∧ oqBb g a b = oqVb g 19 24 (oqBn g a b) := by
  have c1 : ¬ oqWi g a b = 3 := by omega
  have c2 : ¬ oqWi g a b = 4 := by omega
  have c3 : ¬ 6 ≤ M := by omega
  have c4 : ¬ (oqMk g (oqBh g a b) N M ≠ 0) := by omega
  exact ⟨(if_neg c1).trans ((if_neg c2).trans ((if_pos h).trans ((if_neg c3).trans (if_neg c4)))), (if_neg c1).trans ((if_neg c2).trans ((if_pos h).trans ((if_neg c3).trans (if_neg c4)))), (if_neg c1).trans (if_neg c2), (if_neg c1).trans (if_neg c2)⟩
end BST
