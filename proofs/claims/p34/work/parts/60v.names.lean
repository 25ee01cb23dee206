/-! the book that is read: how many rules and mottos, the names of the first L -/
def oqNl (N : Nat → Nat → Int) (R M L : Int) (t : oS) : Prop := ∃ c, t.2.2 30 1 = c + 1 ∧ okd c = 0 ∧ (t.1 c 7).toInt = R ∧ (t.1 c 8).toInt = M ∧ ∀ m : Nat, (m : Int) < L → ∀ k : Nat, k < 6 → (t.1 (c + 4) (6 * m + k)).toInt = N m k
theorem oqNl_fr {M' : List (Nat × Nat)} {s u : oS} {N : Nat → Nat → Int} {R M L : Int} (hf : oFr M' s u) (hm : (oin M' 5 1 || (oin M' 0 7 || (oin M' 0 8 || oinK M' 23))) = false) (h : oqNl N R M L s) : oqNl N R M L u := by
  simp only [Bool.or_eq_false_iff] at hm
  obtain ⟨c, h1, h2, h3, h4, h5⟩ := h
  refine ⟨c, ((hf 30 1 hm.1).2.2).trans h1, h2, ?_, ?_, fun m hm2 k hk => ?_⟩
  · rw [(hf c 7 (by rw [h2]; exact hm.2.1)).1]; exact h3
  · rw [(hf c 8 (by rw [h2]; exact hm.2.2.1)).1]; exact h4
  · rw [oFr_row hf (c := c + 4) (kr0_4 h2) hm.2.2.2]; exact h5 m hm2 k hk
theorem oqNl_at {s : oS} {N : Nat → Nat → Int} {R M L : Int} (h : oqNl N R M L s) {b : Nat} (hb : s.2.2 30 1 = b + 1) : (s.1 b 7).toInt = R ∧ (s.1 b 8).toInt = M ∧ ∀ m : Nat, (m : Int) < L → ∀ k : Nat, k < 6 → (s.1 (b + 4) (6 * m + k)).toInt = N m k := by
  obtain ⟨c, h1, h2, h3, h4, h5⟩ := h
  have e : c = b := by omega
  rw [← e]
  exact ⟨h3, h4, h5⟩
theorem oqNl_mk {s : oS} {N : Nat → Nat → Int} {R M L : Int} {b : Nat} (hb : s.2.2 30 1 = b + 1) (hk : okd b = 0) (h3 : (s.1 b 7).toInt = R) (h4 : (s.1 b 8).toInt = M) (h5 : ∀ m : Nat, (m : Int) < L → ∀ k : Nat, k < 6 → (s.1 (b + 4) (6 * m + k)).toInt = N m k) : oqNl N R M L s := ⟨b, hb, hk, h3, h4, h5⟩
/-- one name more -/
def oqNx (N : Nat → Nat → Int) (M : Int) (v : Nat → Int) (m k : Nat) : Int := if (m : Int) = M then v k else N m k
/-- the first x letters of name M are there -/
def oqSp6 (f : Nat → Int32) (N : Nat → Nat → Int) (M : Int) (v : Nat → Int) (x : Int) : Prop := (∀ m : Nat, (m : Int) < M → ∀ k : Nat, k < 6 → (f (6 * m + k)).toInt = N m k) ∧ ∀ k : Nat, (k : Int) < x → (f (6 * M.toNat + k)).toInt = v k
def oqPut (f f' : Nat → Int32) (n v : Int) : Prop := ∀ j : Nat, (f' j).toInt = if (j : Int) = n then v else (f j).toInt
theorem oqPut_of {s : oS} {c : Nat} {i w : Int32} {n v : Int} (h0 : 0 ≤ i.toInt) (hn : i.toInt = n) (hv : w.toInt = v) : oqPut (s.1 c) ((pI s c i.toNatClampNeg w).1 c) n v := fun j => by
  have e := n_nat i
  by_cases hj : (j : Int) = n
  · rw [if_pos hj, show j = i.toNatClampNeg by omega, pI_self]; exact hv
  · rw [if_neg hj, pI_ne s w (Or.inr (by omega))]
theorem oqSp6_nx {f f' : Nat → Int32} {N : Nat → Nat → Int} {M x y : Int} {v : Nat → Int} {n w : Int} {k : Nat} (h : oqSp6 f N M v x) (hp : oqPut f f' n w) (hM : 0 ≤ M) (hk : x = (k : Int)) (hk6 : k < 6) (hn : n = 6 * M + x) (hw : w = v k) (hy : y = x + 1) : oqSp6 f' N M v y := by
  refine ⟨fun m hm j hj => ?_, fun j hj => ?_⟩
  · rw [hp, if_neg (by omega)]; exact h.1 m hm j hj
  · by_cases hjk : j = k
    · rw [hjk, hp, if_pos (by omega)]; exact hw
    · rw [hp, if_neg (by omega)]; exact h.2 j (by omega)
theorem oqSp6_0 {f : Nat → Int32} {N : Nat → Nat → Int} {M x : Int} {v : Nat → Int} (h : ∀ m : Nat, (m : Int) < M → ∀ k : Nat, k < 6 → (f (6 * m + k)).toInt = N m k) (hx : x = 0) : oqSp6 f N M v x := ⟨h, fun k hk => by omega⟩
/-- name m is like that of M, so far -/
def oqLk (f : Nat → Int32) (m M : Nat) (x : Int) : Prop := ∀ k : Nat, (k : Int) < x → (f (6 * m + k)).toInt = (f (6 * M + k)).toInt
theorem oqLk_0 {f : Nat → Int32} {m M : Nat} {x : Int} (h : x = 0) : oqLk f m M x := fun k hk => by omega
theorem oqLk_nx {f : Nat → Int32} {m M j : Nat} {x y : Int} (h : oqLk f m M x) (hj : x = (j : Int)) (hy : y = x + 1) (he : (f (6 * m + j)).toInt = (f (6 * M + j)).toInt) : oqLk f m M y := fun k hk => by
  by_cases hkj : k = j
  · rw [hkj]; exact he
  · exact h k (by omega)
def oqNt (f : Nat → Int32) (M : Nat) (x : Int) : Prop := ∀ m : Nat, (m : Int) < x → ¬ oqLk f m M 6
theorem oqNt_0 {f : Nat → Int32} {M : Nat} {x : Int} (h : x = 0) : oqNt f M x := fun m hm => by omega
theorem oqNt_nx {f : Nat → Int32} {M j : Nat} {x y : Int} (h : oqNt f M x) (hj : x = (j : Int)) (hy : y = x + 1) (hn : ¬ oqLk f j M 6) : oqNt f M y := fun m hm => by
  by_cases hmj : m = j
  · rw [hmj]; exact hn
  · exact h m (by omega)
/-- the name at hand is one of those ahead -/
def oqTaken (f : Nat → Int32) (M : Nat) : Prop := ∃ m : Nat, m < M ∧ oqLk f m M 6
theorem oqTaken_tk {f : Nat → Int32} {N : Nat → Nat → Int} {M : Int} {g : Int → Int} {A x : Int} (h : oqSp6 f N M (oqN6 g A) x) (hx : x = 6) (hM : 0 ≤ M) : oqTaken f M.toNat ↔ oqTkn g A N M := by
  constructor
  · rintro ⟨m, h1, h2⟩
    refine ⟨m, by omega, fun k hk => ?_⟩
    rw [← h.1 m (by omega) k hk, h2 k (by omega), h.2 k (by omega)]
  · rintro ⟨m, h1, h2⟩
    refine ⟨m, by omega, fun k hk => ?_⟩
    rw [h.1 m h1 k (by omega), h.2 k (by omega)]
    exact h2 k (by omega)
section NAME
variable {g : Int → Int} {h M : Int} {N : Nat → Nat → Int}
theorem oqM_1 (hc : ¬ (97 ≤ g (oqSk g h) ∧ g (oqSk g h) ≤ 122) ∨ oqWi g h h ≠ -1) : oqMk g h N M = 1 ∧ oqMp g h = oqSk g h := ⟨if_pos hc, if_pos hc⟩
theorem oqM_2 (h1 : 97 ≤ g (oqSk g h) ∧ g (oqSk g h) ≤ 122) (h2 : oqWi g h h = -1) (h3 : 6 < oqWe g (oqSk g h) - oqSk g h) : oqMk g h N M = 1 ∧ oqMp g h = oqSk g h + 6 := by
  have c1 : ¬ (¬ (97 ≤ g (oqSk g h) ∧ g (oqSk g h) ≤ 122) ∨ oqWi g h h ≠ -1) := by omega
  exact ⟨(if_neg c1).trans (if_pos h3), (if_neg c1).trans (if_pos h3)⟩
theorem oqM_3 (h1 : 97 ≤ g (oqSk g h) ∧ g (oqSk g h) ≤ 122) (h2 : oqWi g h h = -1) (h3 : oqWe g (oqSk g h) - oqSk g h ≤ 6) (h4 : oqTkn g (oqSk g h) N M) : oqMk g h N M = 3 ∧ oqMp g h = oqSk g h := by
  have c1 : ¬ (¬ (97 ≤ g (oqSk g h) ∧ g (oqSk g h) ≤ 122) ∨ oqWi g h h ≠ -1) := by omega
  have c2 : ¬ 6 < oqWe g (oqSk g h) - oqSk g h := by omega
  exact ⟨(if_neg c1).trans ((if_neg c2).trans (if_pos h4)), (if_neg c1).trans (if_neg c2)⟩
theorem oqM_0 (h1 : 97 ≤ g (oqSk g h) ∧ g (oqSk g h) ≤ 122) (h2 : oqWi g h h = -1) (h3 : oqWe g (oqSk g h) - oqSk g h ≤ 6) (h4 : ¬ oqTkn g (oqSk g h) N M) : oqMk g h N M = 0 := by
  have c1 : ¬ (¬ (97 ≤ g (oqSk g h) ∧ g (oqSk g h) ≤ 122) ∨ oqWi g h h ≠ -1) := by omega
  have c2 : ¬ 6 < oqWe g (oqSk g h) - oqSk g h := by omega
  exact (if_neg c1).trans ((if_neg c2).trans (if_neg h4))
end NAME
/-- the book at hand while a name is spelt: x of its letters are there -/
def oqNq (N : Nat → Nat → Int) (R M : Int) (v : Nat → Int) (x : Int) (t : oS) : Prop := ∃ c, t.2.2 30 1 = c + 1 ∧ okd c = 0 ∧ (t.1 c 7).toInt = R ∧ (t.1 c 8).toInt = M ∧ oqSp6 (t.1 (c + 4)) N M v x
theorem oqNq_0 {N : Nat → Nat → Int} {R M : Int} {v : Nat → Int} {x : Int} {t : oS} (h : oqNl N R M M t) (hx : x = 0) : oqNq N R M v x t := by
  obtain ⟨c, h1, h2, h3, h4, h5⟩ := h
  exact ⟨c, h1, h2, h3, h4, oqSp6_0 h5 hx⟩
theorem oqNq_at {N : Nat → Nat → Int} {R M : Int} {v : Nat → Int} {x : Int} {t : oS} (h : oqNq N R M v x t) {b : Nat} (hb : t.2.2 30 1 = b + 1) : (t.1 b 7).toInt = R ∧ (t.1 b 8).toInt = M ∧ oqSp6 (t.1 (b + 4)) N M v x := by
  obtain ⟨c, h1, h2, h3, h4, h5⟩ := h
  have e : c = b := by omega
  rw [← e]
  exact ⟨h3, h4, h5⟩
theorem oqNq_nx {M' : List (Nat × Nat)} {N : Nat → Nat → Int} {R M : Int} {v : Nat → Int} {x y n w : Int} {t u : oS} {b k : Nat} (h : oqNq N R M v x t) (hb : u.2.2 30 1 = b + 1) (hf : oFr M' t u) (hm : (oin M' 5 1 || (oin M' 0 7 || oin M' 0 8)) = false) (hp : oqPut (t.1 (b + 4)) (u.1 (b + 4)) n w) (hM : 0 ≤ M) (hk : x = (k : Int)) (hk6 : k < 6) (hn : n = 6 * M + x) (hw : w = v k) (hy : y = x + 1) : oqNq N R M v y u := by
  simp only [Bool.or_eq_false_iff] at hm
  obtain ⟨c, h1, h2, h3, h4, h5⟩ := h
  have e0 := (hf 30 1 hm.1).2.2
  have e : c = b := by omega
  subst e
  refine ⟨c, e0.trans h1, h2, ?_, ?_, oqSp6_nx h5 hp hM hk hk6 hn hw hy⟩
  · rw [(hf c 7 (by rw [h2]; exact hm.2.1)).1]; exact h3
  · rw [(hf c 8 (by rw [h2]; exact hm.2.2)).1]; exact h4
theorem oqNq_l {N : Nat → Nat → Int} {R M : Int} {v : Nat → Int} {x : Int} {t : oS} (h : oqNq N R M v x t) (hx : x = 6) (hM : 0 ≤ M) : oqNl (oqNx N M v) R M (M + 1) t := by
  obtain ⟨c, h1, h2, h3, h4, h5⟩ := h
  refine ⟨c, h1, h2, h3, h4, fun m hm k hk => ?_⟩
  unfold oqNx
  by_cases e : (m : Int) = M
  · rw [if_pos e, show m = M.toNat by omega]; exact h5.2 k (by omega)
  · rw [if_neg e]; exact h5.1 m (by omega) k hk
theorem oqN6_in {g : Int → Int} {A : Int} {k : Nat} (h : A + k < oqWe g A) : oqN6 g A k = g (A + k) - 96 := if_pos h
theorem oqN6_out {g : Int → Int} {A : Int} {k : Nat} (h : ¬ A + k < oqWe g A) : oqN6 g A k = 0 := if_neg h
