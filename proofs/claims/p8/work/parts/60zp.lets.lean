/-! the names of the book: what letter() answers -/
noncomputable def oqLt (M : Int) (N : Nat → Nat → Int) (m k : Int) : Int := if 0 ≤ m ∧ m < M ∧ 0 ≤ k ∧ k ≤ 5 then N m.toNat k.toNat else -1
theorem oqLt_y {M : Int} {N : Nat → Nat → Int} {m k : Int} (h : 0 ≤ m ∧ m < M ∧ 0 ≤ k ∧ k ≤ 5) : oqLt M N m k = N m.toNat k.toNat := if_pos h
theorem oqLt_n {M : Int} {N : Nat → Nat → Int} {m k : Int} (h : ¬ (0 ≤ m ∧ m < M ∧ 0 ≤ k ∧ k ≤ 5)) : oqLt M N m k = -1 := if_neg h
/-- after book() -/
noncomputable def oqMb (g : Int → Int) (M : Int) : Int := if oqB1 g = -1 then M else oqB5 g
noncomputable def oqNb (g : Int → Int) (N : Nat → Nat → Int) : Nat → Nat → Int := if oqB1 g = -1 then N else oqB6 g
theorem oqMb_y {g : Int → Int} {M : Int} (h : oqB1 g ≠ -1) : oqMb g M = oqB5 g := if_neg h
theorem oqNb_y {g : Int → Int} {N : Nat → Nat → Int} (h : oqB1 g ≠ -1) : oqNb g N = oqB6 g := if_neg h
theorem oqMb_n {g : Int → Int} {M : Int} (h : oqB1 g = -1) : oqMb g M = M := if_pos h
theorem oqNb_n {g : Int → Int} {N : Nat → Nat → Int} (h : oqB1 g = -1) : oqNb g N = N := if_pos h
theorem oqPL_ne (s : oS) {c k a b : Nat} (v : Int64) (h : a ≠ c ∨ b ≠ k) : (pL s c k v).2.1 a b = s.2.1 a b := by
  unfold pL
  by_cases h1 : a = c
  · have h2 : b ≠ k := h.resolve_left (fun z => z h1)
    simp [h1, h2]
  · simp [h1]
/-! the class: a book that is not read just now -/
def oqKd (d : Nat) (V : Int) (L : Nat → Int32) (t : oS) : Prop := okd d = 0 ∧ t.2.2 30 1 ≠ d + 1 ∧ (t.1 d 8).toInt = V ∧ t.1 (d + 4) = L
def oqK0 (d : Nat) (V : Int) (L : Nat → Int32) (t : oS) : Prop := okd d = 0 ∧ (t.1 d 8).toInt = V ∧ t.1 (d + 4) = L
theorem oqKd_fr {M : List (Nat × Nat)} {s u : oS} {d : Nat} {V : Int} {L : Nat → Int32} (hf : oFr M s u) (hm : (oin M 5 1 || (oin M 0 8 || oinK M 23)) = false) (h : oqKd d V L s) : oqKd d V L u := by
  simp only [Bool.or_eq_false_iff] at hm
  obtain ⟨h1, h2, h3, h4⟩ := h
  refine ⟨h1, ?_, ?_, ?_⟩
  · rw [(hf 30 1 hm.1).2.2]; exact h2
  · rw [(hf d 8 (by rw [h1]; exact hm.2.1)).1]; exact h3
  · rw [oFr_row hf (c := d + 4) (kr0_4 h1) hm.2.2]; exact h4
theorem oqK0_fr {M : List (Nat × Nat)} {s u : oS} {d : Nat} {V : Int} {L : Nat → Int32} (hf : oFr M s u) (hm : (oin M 0 8 || oinK M 23) = false) (h : oqK0 d V L s) : oqK0 d V L u := by
  simp only [Bool.or_eq_false_iff] at hm
  obtain ⟨h1, h3, h4⟩ := h
  refine ⟨h1, ?_, ?_⟩
  · rw [(hf d 8 (by rw [h1]; exact hm.1)).1]; exact h3
  · rw [oFr_row hf (c := d + 4) (kr0_4 h1) hm.2]; exact h4
theorem oqKd_ne {s : oS} {d b : Nat} {V : Int} {L : Nat → Int32} (h : oqKd d V L s) (hb : s.2.2 30 1 = b + 1) : b ≠ d := fun e => h.2.1 (by rw [hb, e])
theorem oqKd_mk {s : oS} {c d : Nat} {V : Int} {L : Nat → Int32} (h : oqK0 d V L s) (hne : c ≠ d) : oqKd d V L (pR s 30 1 (c + 1)) := by
  obtain ⟨h1, h3, h4⟩ := h
  refine ⟨h1, ?_, h3, h4⟩
  rw [pR_self]
  omega
theorem oqKd_k0 {s : oS} {d : Nat} {V : Int} {L : Nat → Int32} (h : oqKd d V L s) : oqK0 d V L s := ⟨h.1, h.2.2.1, h.2.2.2⟩
theorem oqKd_sp {s : oS} {c d i : Nat} {v : Int32} {V : Int} {L : Nat → Int32} (h : oqKd d V L s) (hk : okd c = 0) (hne : c ≠ d) : oqKd d V L (pI s (c + 4) i v) := by
  obtain ⟨h1, h2, h3, h4⟩ := h
  refine ⟨h1, h2, ?_, ?_⟩
  · rw [pI_ne s v (Or.inl (okd_ne h1 (kr0_4 hk) (by decide)))]; exact h3
  · rw [← h4]
    funext k
    exact pI_ne s v (Or.inl (by omega))
theorem oqKd_p8 {s : oS} {c d : Nat} {v : Int32} {V : Int} {L : Nat → Int32} (h : oqKd d V L s) (hk : okd c = 0) (hne : c ≠ d) : oqKd d V L (pI s c 8 v) := by
  obtain ⟨h1, h2, h3, h4⟩ := h
  refine ⟨h1, h2, ?_, ?_⟩
  · rw [pI_ne s v (Or.inl (by omega))]; exact h3
  · rw [← h4]
    funext k
    exact pI_ne s v (Or.inl (fun e => okd_ne (kr0_4 h1) hk (by decide) e))
/-- the reader's book -/
def oqRB (c : Nat) (t : oS) : Prop := t.2.2 30 1 = c + 1
theorem oqRB_fr {M : List (Nat × Nat)} {s u : oS} {c : Nat} (hf : oFr M s u) (hm : oin M 5 1 = false) (h : oqRB c s) : oqRB c u := ((hf 30 1 hm).2.2).trans h
/-- book and draft -/
def oqBD (c d : Nat) (t : oS) : Prop := t.2.2 0 4 = c + 1 ∧ t.2.2 0 5 = d + 1 ∧ okd c = 0 ∧ okd d = 0 ∧ c ≠ d
theorem oqBD_fr {M : List (Nat × Nat)} {s u : oS} {c d : Nat} (hf : oFr M s u) (hm : (oin M 11 4 || oin M 11 5) = false) (h : oqBD c d s) : oqBD c d u := by
  simp only [Bool.or_eq_false_iff] at hm
  exact ⟨((hf 0 4 hm.1).2.2).trans h.1, ((hf 0 5 hm.2).2.2).trans h.2.1, h.2.2⟩
/-- the book's names -/
def oqNC (M : Int) (N : Nat → Nat → Int) (t : oS) : Prop := ∃ c d, oqBD c d t ∧ (t.1 c 8).toInt = M ∧ ∀ m : Nat, (m : Int) < M → ∀ k : Nat, k < 6 → (t.1 (c + 4) (6 * m + k)).toInt = N m k
theorem oqNC_fr {MM : List (Nat × Nat)} {s u : oS} {M : Int} {N : Nat → Nat → Int} (hf : oFr MM s u) (hm : ((oin MM 11 4 || oin MM 11 5) || (oin MM 0 8 || oinK MM 23)) = false) (h : oqNC M N s) : oqNC M N u := by
  rw [Bool.or_eq_false_iff] at hm
  obtain ⟨hm1, hm2⟩ := hm
  rw [Bool.or_eq_false_iff] at hm2
  obtain ⟨c, d, h1, h2, h3⟩ := h
  refine ⟨c, d, oqBD_fr hf hm1 h1, ?_, fun m hm3 k hk => ?_⟩
  · rw [(hf c 8 (by rw [h1.2.2.1]; exact hm2.1)).1]; exact h2
  · rw [oFr_row hf (c := c + 4) (kr0_4 h1.2.2.1) hm2.2]; exact h3 m hm3 k hk
theorem oqNC_no {g : Int → Int} {t : oS} {c d : Nat} {M : Int} {L : Nat → Int32} {N : Nat → Nat → Int} (h1 : oqBD c d t) (h2 : oqKd c M L t) (h3 : ∀ m : Nat, (m : Int) < M → ∀ k : Nat, k < 6 → (L (6 * m + k)).toInt = N m k) (he : oqB1 g = -1) : oqNC (oqMb g M) (oqNb g N) t := by
  rw [oqMb_n he, oqNb_n he]
  exact ⟨c, d, h1, h2.2.2.1, fun m hm k hk => by rw [h2.2.2.2]; exact h3 m hm k hk⟩
theorem oqNC_sw {g : Int → Int} {U : oS} {b c x y : Nat} {M R : Int} {N : Nat → Nat → Int} (h1 : oqBD x y U) (hc : U.2.2 0 4 = b + 1) (hd : U.2.2 0 5 = c + 1) (hl : oqNl (oqB6 g) R (oqB5 g) (oqB5 g) U) (hr : oqRB c U) (he : oqB1 g ≠ -1) : oqNC (oqMb g M) (oqNb g N) (pR (pR U 0 4 (c + 1)) 0 5 (b + 1)) := by
  rw [oqMb_y he, oqNb_y he]
  obtain ⟨q1, q2, q3, q4, q5⟩ := h1
  obtain ⟨z7, z8, z9⟩ := oqNl_at hl hr
  have e1 : b = x := by omega
  have e2 : c = y := by omega
  subst e1 e2
  refine ⟨c, b, ⟨?_, pR_self _ _ _ _, q4, q3, fun e => q5 e.symm⟩, z8, z9⟩
  rw [pR_ne _ _ (Or.inr (by decide)), pR_self]
/-! the reference's names -/
def oqNE (M : Int) (N : Nat → Nat → Int) (t : oS) : Prop := M ≤ 6 ∧ (t.1 104 1).toInt = M ∧ ∀ m : Nat, (m : Int) < M → oqNmL (N m) ∧ (t.2.1 107 m).toInt = oqVf (N m) 6
theorem oqNE_fr {MM : List (Nat × Nat)} {s u : oS} {M : Int} {N : Nat → Nat → Int} (hf : oFr MM s u) (hm : (oinK MM 80 || oinK MM 83) = false) (h : oqNE M N s) : oqNE M N u := by
  simp only [Bool.or_eq_false_iff] at hm
  refine ⟨h.1, ?_, fun m hm2 => ⟨(h.2.2 m hm2).1, ?_⟩⟩
  · rw [(hf 104 1 (oinK_in hm.1 _)).1]; exact h.2.1
  · rw [(hf 107 m (oinK_in hm.2 _)).2.1]; exact (h.2.2 m hm2).2
theorem oqNE_many {s : oS} {i v : Int32} {M : Int} {N : Nat → Nat → Int} (h : oqNE M N s) (hi : 2 ≤ i.toInt) : oqNE M N (pI s 104 i.toNatClampNeg v) := by
  have e := n_nat i
  refine ⟨h.1, ?_, h.2.2⟩
  rw [pI_ne s v (Or.inr (by omega))]
  exact h.2.1
theorem oqNE_names {s : oS} {i : Int32} {v : Int64} {M : Int} {N : Nat → Nat → Int} (h : oqNE M N s) (hi : 6 ≤ i.toInt) : oqNE M N (pL s 107 i.toNatClampNeg v) := by
  have e := n_nat i
  have h6 := h.1
  refine ⟨h.1, h.2.1, fun m hm => ⟨(h.2.2 m hm).1, ?_⟩⟩
  rw [oqPL_ne s v (Or.inr (by omega))]
  exact (h.2.2 m hm).2
theorem oqNE_no {g : Int → Int} {s : oS} {M : Int} {N : Nat → Nat → Int} (h : oqNE M N s) (he : oqB1 g = -1) : oqNE (oqMb g M) (oqNb g N) s := by
  rw [oqMb_n he, oqNb_n he]
  exact h
theorem oqNE_m {s : oS} {i v : Int32} {M : Int} {N : Nat → Nat → Int} (h : oqNE M N s) (e : s.1 104 i.toNatClampNeg = v) (hi : i.toInt = 1) : v.toInt = M := by
  have e1 := n_nat i
  rw [← e, show i.toNatClampNeg = 1 by omega]
  exact h.2.1
theorem oqNE_v {s : oS} {i : Int32} {v : Int64} {M : Int} {N : Nat → Nat → Int} (h : oqNE M N s) (e : s.2.1 107 i.toNatClampNeg = v) (h0 : 0 ≤ i.toInt) (h1 : i.toInt < M) : v.toInt = oqVf (N i.toNatClampNeg) 6 := by
  have e1 := n_nat i
  rw [← e]
  exact (h.2.2 i.toNatClampNeg (by omega)).2
def oqM1 (B : Int) (t : oS) : Prop := (t.1 104 1).toInt = B
theorem oqM1_fr {MM : List (Nat × Nat)} {s u : oS} {B : Int} (hf : oFr MM s u) (hm : oinK MM 80 = false) (h : oqM1 B s) : oqM1 B u := by
  unfold oqM1
  rw [(hf 104 1 (oinK_in hm _)).1]
  exact h
theorem oqM1_of {s : oS} {i w : Int32} {B : Int} (hi : i.toInt = 1) (hw : w.toInt = B) : oqM1 B (pI s 104 i.toNatClampNeg w) := by
  have e1 := n_nat i
  unfold oqM1
  rw [show i.toNatClampNeg = 1 by omega, pI_self]
  exact hw
theorem oqWm3 {U : oS} {i j v w : Int32} {B : Int} (e : (pI U 104 i.toNatClampNeg v).1 104 j.toNatClampNeg = w) (hi : i.toInt = 0) (hj : j.toInt = 3) (h : (U.1 104 3).toInt = B) : w.toInt = B := by
  have e1 := n_nat i
  have e2 := n_nat j
  rw [← e, show j.toNatClampNeg = 3 by omega, pI_ne U v (Or.inr (by omega))]
  exact h
theorem oqNR_lo {s : oS} {i : Int32} {v : Int64} {M : Int} {N : Nat → Nat → Int} (h : oqNR N M s) (h0 : 0 ≤ i.toInt) (h5 : i.toInt ≤ 5) : oqNR N M (pL s 107 i.toNatClampNeg v) := fun m hm => by
  have e := n_nat i
  refine ⟨(h m hm).1, ?_⟩
  rw [oqPL_ne s v (Or.inr (by omega))]
  exact (h m hm).2
/-- the first x names are taken over -/
def oqCp (x : Int) (t : oS) : Prop := ∀ m : Nat, (m : Int) < x → t.2.1 107 m = t.2.1 107 (6 + m)
theorem oqCp_fr {MM : List (Nat × Nat)} {s u : oS} {x : Int} (hf : oFr MM s u) (hm : oinK MM 83 = false) (h : oqCp x s) : oqCp x u := fun m hm2 => by
  rw [(hf 107 m (oinK_in hm _)).2.1, (hf 107 (6 + m) (oinK_in hm _)).2.1]
  exact h m hm2
theorem oqCp_0 {x : Int} {t : oS} (h : x = 0) : oqCp x t := fun m hm => by omega
theorem oqCp_nx {t : oS} {x y : Int} {i j : Int32} {v : Int64} (h : oqCp x t) (hv : t.2.1 107 j.toNatClampNeg = v) (hi : i.toInt = x) (hj : j.toInt = 6 + x) (h0 : 0 ≤ x) (h5 : x ≤ 5) (hy : y = x + 1) : oqCp y (pL t 107 i.toNatClampNeg v) := fun m hm => by
  have e1 := n_nat i
  have e2 := n_nat j
  by_cases hx : (m : Int) = x
  · rw [show m = i.toNatClampNeg by omega, pL_self, oqPL_ne t v (Or.inr (by omega)), show 6 + i.toNatClampNeg = j.toNatClampNeg by omega]
    exact hv.symm
  · rw [oqPL_ne t v (Or.inr (by omega)), oqPL_ne t v (Or.inr (by omega))]
    exact h m (by omega)
theorem oqNE_new {g : Int → Int} {t : oS} {x : Int} {M : Int} {N : Nat → Nat → Int} (h1 : oqM1 (oqB5 g) t) (h2 : oqNR (oqB6 g) (oqB5 g) t) (h3 : oqCp x t) (hx : 6 ≤ x) (h6 : oqB5 g ≤ 6) (he : oqB1 g ≠ -1) : oqNE (oqMb g M) (oqNb g N) t := by
  rw [oqMb_y he, oqNb_y he]
  refine ⟨h6, h1, fun m hm => ⟨(h2 m hm).1, ?_⟩⟩
  rw [h3 m (by omega)]
  exact (h2 m hm).2
/-! a name's value, letter by letter -/
def oqLn (f : Nat → Int) (L : Nat) : Prop := oqNmL f ∧ L ≤ 6 ∧ (∀ k, k < L → f k ≠ 0) ∧ (∀ k, L ≤ k → k < 6 → f k = 0) ∧ oqVf f 6 = oqVf f L
theorem oqLn_ex {s : oS} {M m : Int} {N : Nat → Nat → Int} (h : oqNE M N s) : ∃ L : Nat, 0 ≤ m → m < M → oqLn (N m.toNat) L := by
  by_cases hm : 0 ≤ m ∧ m < M
  · have h1 := (h.2.2 m.toNat (by omega)).1
    obtain ⟨L, l1, l2, l3, l4⟩ := oqVf_L h1 (n := 6) (Nat.le_refl _)
    exact ⟨L, fun _ _ => ⟨h1, l1, l2, l3, l4⟩⟩
  · exact ⟨0, fun h1 h2 => absurd ⟨h1, h2⟩ hm⟩
theorem oqLn_y {f : Nat → Int} {L j : Nat} (h : oqLn f L) (hj : j < L) : oqVf f (j + 1) = 27 * oqVf f j + f j ∧ 0 ≤ oqVf f j ∧ 1 ≤ f j ∧ f j ≤ 26 := by
  obtain ⟨h1, h2, h3, h4, h5⟩ := h
  have q1 := h1.1 j (by omega)
  have q2 := h3 j hj
  exact ⟨oqVf_y q2, oqVf_ge h1 (by omega), by omega, q1.2⟩
def oqZq (f : Nat → Int) (L : Nat) (n z : Int) : Prop := 0 ≤ n ∧ n ≤ L ∧ z = oqVf f (L - n.toNat)
theorem oqZq_0 {f : Nat → Int} {L : Nat} {n z : Int} (h : oqLn f L) (hz : z = oqVf f 6) (hn : n = 0) : oqZq f L n z := by
  subst hn
  exact ⟨Int.le_refl 0, by omega, by rw [hz, h.2.2.2.2]; rfl⟩
theorem oqZq_lt {f : Nat → Int} {L : Nat} {n z : Int} (h : oqLn f L) (q : oqZq f L n z) (hz : 0 < z) : n < L := by
  obtain ⟨q1, q2, q3⟩ := q
  by_cases e : n = L
  · exfalso
    rw [show L - n.toNat = 0 by omega] at q3
    have q4 : z = 0 := q3
    omega
  · omega
theorem oqZq_nx {f : Nat → Int} {L : Nat} {n z n' z' : Int} (h : oqLn f L) (q : oqZq f L n z) (hz : 0 < z) (hn : n' = n + 1) (hz' : z' = z / 27) : oqZq f L n' z' := by
  have hl := oqZq_lt h q hz
  obtain ⟨q1, q2, q3⟩ := q
  obtain ⟨r1, r2, r3, r4⟩ := oqLn_y h (j := L - n'.toNat) (by omega)
  rw [show L - n.toNat = L - n'.toNat + 1 by omega, r1] at q3
  exact ⟨by omega, by omega, by omega⟩
theorem oqZq_end {f : Nat → Int} {L : Nat} {n z : Int} (h : oqLn f L) (q : oqZq f L n z) (hz : z ≤ 0) : n = L := by
  obtain ⟨q1, q2, q3⟩ := q
  by_cases e : n = L
  · exact e
  · exfalso
    obtain ⟨r1, r2, r3, r4⟩ := oqLn_y h (j := L - n.toNat - 1) (by omega)
    rw [show L - n.toNat - 1 + 1 = L - n.toNat by omega] at r1
    omega
def oqVq (f : Nat → Int) (L : Nat) (q v : Int) : Prop := 0 ≤ q ∧ q < L ∧ v = oqVf f (q.toNat + 1)
theorem oqVq_0 {f : Nat → Int} {L : Nat} {q v : Int} (h : oqLn f L) (hv : v = oqVf f 6) (hq : q = L - 1) (hl : 0 < L) : oqVq f L q v := by
  refine ⟨by omega, by omega, ?_⟩
  rw [hv, h.2.2.2.2, show q.toNat + 1 = L by omega]
theorem oqVq_nx {f : Nat → Int} {L : Nat} {q v q' v' : Int} (h : oqLn f L) (z : oqVq f L q v) (hq : 1 ≤ q) (hq' : q' = q - 1) (hv : v' = v / 27) : oqVq f L q' v' := by
  obtain ⟨z1, z2, z3⟩ := z
  obtain ⟨r1, r2, r3, r4⟩ := oqLn_y h (j := q.toNat) (by omega)
  refine ⟨by omega, by omega, ?_⟩
  rw [show q'.toNat + 1 = q.toNat by omega]
  omega
theorem oqVq_end {f : Nat → Int} {L : Nat} {q v : Int} (h : oqLn f L) (z : oqVq f L q v) : 0 ≤ v ∧ v % 27 = f q.toNat ∧ 1 ≤ f q.toNat ∧ f q.toNat ≤ 26 := by
  obtain ⟨z1, z2, z3⟩ := z
  obtain ⟨r1, r2, r3, r4⟩ := oqLn_y h (j := q.toNat) (by omega)
  omega
theorem n_ldivK {x y z : Int64} {k : Int} (h : z = x / y) (hy : y.toInt = k) (hk : 2 ≤ k) (h0 : 0 ≤ x.toInt) : z.toInt = x.toInt / k := by
  have h2 := Int64.toInt_lt x
  rw [h, Int64.toInt_div, hy, Int.tdiv_eq_ediv_of_nonneg h0]
  have a : x.toInt / k ≤ x.toInt := Int.ediv_le_self _ h0
  have b : 0 ≤ x.toInt / k := Int.ediv_nonneg h0 (by omega)
  exact n_bm64 (by omega) (by omega)
theorem n_lrem27 {x y z : Int64} (h : z = x - x / y * y) (hy : y.toInt = 27) (h0 : 0 ≤ x.toInt) : z.toInt = x.toInt % 27 := by
  have h2 := Int64.toInt_lt x
  have q := n_ldivK (z := x / y) rfl hy (by decide) h0
  have m : (x / y * y).toInt = (x / y).toInt * 27 := by
    have := n_lmul (x := x / y) (y := y) (z := x / y * y) rfl (by rw [hy]; omega) (by rw [hy]; omega)
    rw [this, hy]
  have r := n_lsub (x := x) (y := x / y * y) h (by rw [m]; omega) (by rw [m]; omega)
  rw [r, m]
  omega
theorem n_l2i {x : Int64} {z : Int32} (h : x.toInt32 = z) (h1 : -2147483648 ≤ x.toInt) (h2 : x.toInt ≤ 2147483647) : z.toInt = x.toInt := by
  rw [← h, Int64.toInt_toInt32, Int.bmod_def]
  split <;> omega
theorem oqLt_c {M : Int} {N : Nat → Nat → Int} {a1 a2 r : Int32} {f : Nat → Int32} (hM : M ≤ 6) (h1 : 0 ≤ a1.toInt ∧ a1.toInt < M ∧ a1.toInt ≤ 5 ∧ 0 ≤ a2.toInt ∧ a2.toInt ≤ 5 → r.toInt = (f (6 * a1.toNatClampNeg + a2.toNatClampNeg)).toInt) (h0 : ¬ (0 ≤ a1.toInt ∧ a1.toInt < M ∧ a1.toInt ≤ 5 ∧ 0 ≤ a2.toInt ∧ a2.toInt ≤ 5) → r.toInt = -1) (hN : ∀ m : Nat, (m : Int) < M → ∀ k : Nat, k < 6 → (f (6 * m + k)).toInt = N m k) : r.toInt = oqLt M N a1.toInt a2.toInt := by
  have e1 := n_nat a1
  have e2 := n_nat a2
  by_cases h : 0 ≤ a1.toInt ∧ a1.toInt < M ∧ 0 ≤ a2.toInt ∧ a2.toInt ≤ 5
  · rw [oqLt_y h, h1 (by omega), hN _ (by omega) _ (by omega)]
    rfl
  · rw [oqLt_n h]
    exact h0 (by omega)
