/-! the language of tests as a machine with a stack: 0 a fact is asked, 1 a part, 2 behind a fact, 3 behind a part, 8 at the end, 9 a fault (its place, its kind);
    on the stack: 0 ( , 1 min ( , 2 min ( .. , 3 [ , 4 not, 5 a sum ahead of a sign, 6 one behind it. Places are behind blanks. -/
noncomputable def oqWf (g : Int → Int) (a b : Int) : Nat → Int
  | 0 => -1
  | n + 1 => if oqH g a b n = 1 then (n : Int) else oqWf g a b n
noncomputable def oqWi (g : Int → Int) (a b : Int) : Int := oqWf g a b 26
theorem oqWf_eq {g : Int → Int} {a b r : Int} (h : ∀ i : Nat, i < 26 → (r = (i : Int) ↔ oqH g a b i = 1)) : ∀ n : Nat, n ≤ 26 → oqWf g a b n = if 0 ≤ r ∧ r < n then r else -1
  | 0, _ => by
    show (-1 : Int) = _
    rw [if_neg (by omega)]
  | n + 1, hn => by
    show (if oqH g a b n = 1 then (n : Int) else oqWf g a b n) = _
    have h1 := h n (by omega)
    by_cases h2 : oqH g a b n = 1
    · have h3 := h1.mpr h2
      rw [if_pos h2, if_pos (by omega), h3]
    · have h3 : r ≠ (n : Int) := fun h4 => h2 (h1.mp h4)
      rw [if_neg h2, oqWf_eq h n (by omega)]
      by_cases h4 : 0 ≤ r ∧ r < n
      · rw [if_pos h4, if_pos (by omega)]
      · rw [if_neg h4, if_neg (by omega)]
theorem oqWi_eq {g : Int → Int} {a b r : Int} (h : ∀ i : Nat, i < 26 → (r = (i : Int) ↔ oqH g a b i = 1)) (hr : -1 ≤ r ∧ r ≤ 25) : oqWi g a b = r := by
  unfold oqWi
  rw [oqWf_eq h 26 (Nat.le_refl _)]
  by_cases h1 : 0 ≤ r
  · rw [if_pos (by omega)]
  · rw [if_neg (by omega)]
    omega
theorem oqWi_H {g : Int → Int} {a b : Int} {i : Nat} (hi : i < 26) (h : oqH g a b i = 1) : oqWi g a b = (i : Int) := oqWi_eq (fun k hk => by
  constructor
  · intro h1
    rw [show k = i by omega]
    exact h
  · intro h1
    have h2 := oqIs_one hi hk (oqH_is h).1 (oqH_is h1).1
    rw [h2]) (by omega)
theorem oqWi_no {g : Int → Int} {a b : Int} (h : ∀ i : Nat, i < 26 → oqH g a b i = 0) : oqWi g a b = -1 := oqWi_eq (fun k hk => by
  have := h k hk
  omega) (by omega)
theorem oqWi_rg (g : Int → Int) (a b : Int) : -1 ≤ oqWi g a b ∧ oqWi g a b ≤ 25 := by
  have key : ∀ n : Nat, n ≤ 26 → -1 ≤ oqWf g a b n ∧ oqWf g a b n ≤ 25 := fun n => by
    induction n with
    | zero => exact fun _ => ⟨by show (-1 : Int) ≤ -1; omega, by show (-1 : Int) ≤ 25; omega⟩
    | succ n ihn =>
      intro hn
      show -1 ≤ (if oqH g a b n = 1 then (n : Int) else oqWf g a b n) ∧ (if oqH g a b n = 1 then (n : Int) else oqWf g a b n) ≤ 25
      split
      · omega
      · exact ihn (by omega)
  exact key 26 (Nat.le_refl _)
theorem oqWi_is {g : Int → Int} {a b : Int} {i : Nat} (hi : i < 26) : oqWi g a b = (i : Int) ↔ oqH g a b i = 1 := by
  constructor
  · intro h
    have key : ∀ n : Nat, n ≤ 26 → oqWf g a b n = (i : Int) → oqH g a b i = 1 := fun n => by
      induction n with
      | zero =>
        intro _ h2
        have h3 : (-1 : Int) = (i : Int) := h2
        omega
      | succ n ihn =>
        intro hn h2
        have h3 : (if oqH g a b n = 1 then (n : Int) else oqWf g a b n) = (i : Int) := h2
        by_cases h4 : oqH g a b n = 1
        · rw [if_pos h4] at h3
          rw [show i = n by omega]
          exact h4
        · rw [if_neg h4] at h3
          exact ihn (by omega) h3
    exact key 26 (Nat.le_refl _) h
  · exact oqWi_H hi
theorem oqWi_let {g : Int → Int} {a b : Int} (h : ¬ (97 ≤ g (oqSk g a) ∧ g (oqSk g a) ≤ 122)) : oqWi g a b = -1 := oqWi_no (fun i hi => oqH_0 (fun h1 => h (oqIs_let hi h1.1)))
abbrev oqCf : Type := Nat × Int × Int × Int × List Nat
noncomputable def oqP0 (g : Int → Int) (a b o : Int) (K : List Nat) : oqCf := if g a = 91 then (if 6 ≤ o then (9, a, 4, 0, []) else (0, oqSk g (a + 1), b, o + 1, 3 :: K)) else if oqWi g a b = 9 then (if 6 ≤ o then (9, a, 4, 0, []) else (0, oqSk g (oqHa g a 9), oqHa g a 9, o + 1, 4 :: K)) else if oqWi g a b = 10 then (2, oqSk g (oqHa g a 10), oqHa g a 10, o, K) else (1, a, b, o, 5 :: K)
noncomputable def oqP1 (g : Int → Int) (p q a b o : Int) (K : List Nat) : oqCf := if g a = 40 then (if 6 ≤ o then (9, a, 4, 0, []) else (1, oqSk g (a + 1), b, o + 1, 0 :: K)) else if oqWi g a b = 24 ∨ oqWi g a b = 25 then (if g (oqSk g (oqHa g a (oqWi g a b).toNat)) ≠ 40 then (9, oqSk g (oqHa g a (oqWi g a b).toNat), 1, 0, []) else if 6 ≤ o then (9, oqSk g (oqHa g a (oqWi g a b).toNat), 4, 0, []) else (1, oqSk g (oqSk g (oqHa g a (oqWi g a b).toNat) + 1), oqHa g a (oqWi g a b).toNat, o + 1, 1 :: K)) else if p ≤ oqWi g a b ∧ oqWi g a b < q then (3, oqSk g (oqHa g a (oqWi g a b).toNat), oqHa g a (oqWi g a b).toNat, o, K) else if oqNk g a b 0 9999 ≠ 0 then (9, oqNp g a b, oqNk g a b 0 9999, 0, []) else (3, oqSk g (oqNa g a), oqNa g a, o, K)
def oqOp (g : Int → Int) (a : Int) : Prop := g a = 42 ∨ g a = 47 ∨ g a = 43 ∨ g a = 45
/-- where a sum is over -/
def oqP3 (g : Int → Int) (a b o : Int) : List Nat → oqCf
  | 0 :: L => if g a = 41 then (3, oqSk g (a + 1), b, o - 1, L) else (9, a, 1, 0, [])
  | 1 :: L => if g a = 44 then (1, oqSk g (a + 1), b, o, 2 :: L) else (9, a, 1, 0, [])
  | 2 :: L => if g a = 41 then (3, oqSk g (a + 1), b, o - 1, L) else (9, a, 1, 0, [])
  | 5 :: L => if g a = 60 ∨ g a = 62 ∨ g a = 61 then (1, oqSk g (a + 1), b, o, 6 :: L) else (9, a, 1, 0, [])
  | 6 :: L => (2, a, b, o, L)
  | _ => (9, a, 1, 0, [])
/-- where a test is over -/
def oqP2e (g : Int → Int) (a b o : Int) : List Nat → oqCf
  | [] => (8, a, b, o, [])
  | 3 :: L => if g a = 93 then (2, oqSk g (a + 1), b, o - 1, L) else (9, a, 1, 0, [])
  | _ => (9, a, 1, 0, [])
noncomputable def oqP2m (g : Int → Int) (a b o : Int) (K : List Nat) : oqCf := if oqWi g a b = 8 then (0, oqSk g (oqHa g a 8), oqHa g a 8, o, K) else if oqWi g a b = 7 then (0, oqSk g (oqHa g a 7), oqHa g a 7, o, K) else oqP2e g a b o K
noncomputable def oqP2 (g : Int → Int) (a b o : Int) : List Nat → oqCf
  | 4 :: L => (2, a, b, o - 1, L)
  | [] => oqP2m g a b o []
  | k :: L => oqP2m g a b o (k :: L)
noncomputable def oqPs (g : Int → Int) (p q : Int) (c : oqCf) : oqCf :=
  if c.1 = 0 then oqP0 g c.2.1 c.2.2.1 c.2.2.2.1 c.2.2.2.2 else if c.1 = 1 then oqP1 g p q c.2.1 c.2.2.1 c.2.2.2.1 c.2.2.2.2 else if c.1 = 2 then oqP2 g c.2.1 c.2.2.1 c.2.2.2.1 c.2.2.2.2 else if c.1 = 3 then @ite oqCf (oqOp g c.2.1) (Classical.propDecidable _) (1, oqSk g (c.2.1 + 1), c.2.2.1, c.2.2.2.1, c.2.2.2.2) (oqP3 g c.2.1 c.2.2.1 c.2.2.2.1 c.2.2.2.2) else c
noncomputable def oqIt (g : Int → Int) (p q : Int) : Nat → oqCf → oqCf
  | 0, c => c
  | n + 1, c => oqIt g p q n (oqPs g p q c)
def oqTo (g : Int → Int) (p q : Int) (c d : oqCf) : Prop := ∃ n : Nat, oqIt g p q n c = d
theorem oqIt_add {g : Int → Int} {p q : Int} : ∀ (n m : Nat) (c : oqCf), oqIt g p q (n + m) c = oqIt g p q m (oqIt g p q n c)
  | 0, m, c => by rw [Nat.zero_add]; rfl
  | n + 1, m, c => by
    rw [show n + 1 + m = (n + m) + 1 by omega]
    exact oqIt_add n m (oqPs g p q c)
theorem oqTo.rf {g : Int → Int} {p q : Int} {c : oqCf} : oqTo g p q c c := ⟨0, rfl⟩
theorem oqTo.tr {g : Int → Int} {p q : Int} {c d e : oqCf} (h1 : oqTo g p q c d) (h2 : oqTo g p q d e) : oqTo g p q c e := by
  obtain ⟨n, h1⟩ := h1
  obtain ⟨m, h2⟩ := h2
  exact ⟨n + m, by rw [oqIt_add, h1, h2]⟩
theorem oqTo.one {g : Int → Int} {p q : Int} {c d : oqCf} (h : oqPs g p q c = d) : oqTo g p q c d := ⟨1, h⟩
theorem oqIt_fix {g : Int → Int} {p q : Int} {c : oqCf} (h : 4 ≤ c.1) : ∀ n : Nat, oqIt g p q n c = c
  | 0 => rfl
  | n + 1 => by
    have e : oqPs g p q c = c := by
      unfold oqPs
      rw [if_neg (by omega), if_neg (by omega), if_neg (by omega), if_neg (by omega)]
    show oqIt g p q n (oqPs g p q c) = c
    rw [e]
    exact oqIt_fix h n
/-- it ends in one way alone -/
theorem oqTo.det {g : Int → Int} {p q : Int} {c d e : oqCf} (h1 : oqTo g p q c d) (h2 : oqTo g p q c e) (hd : 4 ≤ d.1) (he : 4 ≤ e.1) : d = e := by
  obtain ⟨n, h1⟩ := h1
  obtain ⟨m, h2⟩ := h2
  by_cases hnm : n ≤ m
  · have h3 : oqIt g p q m c = oqIt g p q (m - n) (oqIt g p q n c) := by rw [← oqIt_add]; congr 1; omega
    rw [h1, oqIt_fix hd, h2] at h3
    exact h3.symm
  · have h3 : oqIt g p q n c = oqIt g p q (n - m) (oqIt g p q m c) := by rw [← oqIt_add]; congr 1; omega
    rw [h2, oqIt_fix he, h1] at h3
    exact h3
theorem oqPs_0 {g : Int → Int} {p q a b o : Int} {K : List Nat} : oqPs g p q (0, a, b, o, K) = oqP0 g a b o K := rfl
theorem oqPs_1 {g : Int → Int} {p q a b o : Int} {K : List Nat} : oqPs g p q (1, a, b, o, K) = oqP1 g p q a b o K := rfl
theorem oqPs_2 {g : Int → Int} {p q a b o : Int} {K : List Nat} : oqPs g p q (2, a, b, o, K) = oqP2 g a b o K := rfl
theorem oqPs_3n {g : Int → Int} {p q a b o : Int} {K : List Nat} (h : ¬ oqOp g a) : oqPs g p q (3, a, b, o, K) = oqP3 g a b o K := if_neg h
theorem oqPs_3y {g : Int → Int} {p q a b o : Int} {K : List Nat} (h : oqOp g a) : oqPs g p q (3, a, b, o, K) = (1, oqSk g (a + 1), b, o, K) := if_pos h
