/-! the reference writes what the machine writes -/
def oqKl (w : Nat → Int32) (a : Nat) : Nat → List Int
  | 0 => []
  | n + 1 => (w (a + n)).toInt :: oqKl w a n
theorem oqKl_cg {w w' : Nat → Int32} {a : Nat} : ∀ {n : Nat}, (∀ j, j < a + n → w j = w' j) → oqKl w a n = oqKl w' a n
  | 0, _ => rfl
  | n + 1, h => by
    show (w (a + n)).toInt :: oqKl w a n = (w' (a + n)).toInt :: oqKl w' a n
    rw [oqKl_cg (n := n) (fun j hj => h j (by omega)), h (a + n) (by omega)]
theorem oqKl_up {w : Nat → Int32} {W : Nat} : oqKl w 0 (W + 1) = (w W).toInt :: oqKl w 0 W := by
  show (w (0 + W)).toInt :: oqKl w 0 W = _
  rw [Nat.zero_add]
/-- a sum that began at B, x ahead of it -/
def oqSl (w : Nat → Int32) (x : Int) (B W : Nat) : List Int := oqKl w B (W - B) ++ x :: oqKl w 0 B
theorem oqSl_up {w : Nat → Int32} {x : Int} {B W : Nat} (h : B ≤ W) : oqSl w x B (W + 1) = (w W).toInt :: oqSl w x B W := by
  unfold oqSl
  rw [show W + 1 - B = (W - B) + 1 by omega]
  show (w (B + (W - B))).toInt :: oqKl w B (W - B) ++ _ = _
  rw [show B + (W - B) = W by omega]
  rfl
theorem oqSl_cg {w w' : Nat → Int32} {x : Int} {B W : Nat} (h : ∀ j, j < W → w j = w' j) (hB : B ≤ W) : oqSl w x B W = oqSl w' x B W := by
  unfold oqSl
  rw [oqKl_cg (w := w) (w' := w') (a := B) (n := W - B) (fun j hj => h j (by omega)), oqKl_cg (w := w) (w' := w') (a := 0) (n := B) (fun j hj => h j (by omega))]
theorem oqSl_pu {w : Nat → Int32} {x : Int} {B W : Nat} {v : Int32} (h : B ≤ W) : oqSl (oU w W v) x B (W + 1) = v.toInt :: oqSl w x B W := by
  rw [oqSl_up h, oU_self, oqSl_cg (w := oU w W v) (w' := w) (fun j hj => oU_ne (by omega)) h]
theorem oqSl_BB {w : Nat → Int32} {x : Int} {B W : Nat} (h : W = B) : oqSl w x B W = x :: oqKl w 0 B := by
  unfold oqSl
  rw [h, Nat.sub_self]
  rfl
theorem oqKl_pu {w : Nat → Int32} {W : Nat} {v : Int32} : oqKl (oU w W v) 0 (W + 1) = v.toInt :: oqKl w 0 W := by
  rw [oqKl_up, oU_self, oqKl_cg (w := oU w W v) (w' := w) (fun j hj => oU_ne (by omega))]
/-- what is laid from cs on -/
def oqCl (w : Nat → Int32) (cs : Nat) : Nat → List Int
  | 0 => []
  | n + 1 => (w (1600 + cs + n)).toInt :: oqCl w cs n
theorem oqCl_cg {w w' : Nat → Int32} {cs : Nat} : ∀ {n : Nat}, (∀ j, j < 1600 + cs + n → w j = w' j) → oqCl w cs n = oqCl w' cs n
  | 0, _ => rfl
  | n + 1, h => by
    show (w (1600 + cs + n)).toInt :: oqCl w cs n = (w' (1600 + cs + n)).toInt :: oqCl w' cs n
    rw [oqCl_cg (n := n) (fun j hj => h j (by omega)), h (1600 + cs + n) (by omega)]
theorem oqCl_lay {w : Nat → Int32} {cs c : Nat} {v : Int32} (h : cs ≤ c) : oqCl (oU w (1600 + c) v) cs (c + 1 - cs) = v.toInt :: oqCl w cs (c - cs) := by
  rw [show c + 1 - cs = (c - cs) + 1 by omega]
  show (oU w (1600 + c) v (1600 + cs + (c - cs))).toInt :: oqCl (oU w (1600 + c) v) cs (c - cs) = _
  rw [show 1600 + cs + (c - cs) = 1600 + c by omega, oU_self, oqCl_cg (w := oU w (1600 + c) v) (w' := w) (fun j hj => oU_ne (by omega))]
def oqKs (x : Int) (B : Nat) (t : oS) : List Int := oqSl (t.1 103) x B (t.1 71 47).toNatClampNeg
def oqKt (t : oS) : List Int := oqKl (t.1 103) 0 (t.1 71 47).toNatClampNeg
def oqRy (cs : Nat) (t : oS) : List Int := oqCl (t.1 102) cs ((t.1 71 45).toNatClampNeg - cs)
/-- what waits, what is laid, how many are open: as before -/
def oqSq (s u : oS) : Prop := u.1 103 = s.1 103 ∧ u.1 102 = s.1 102 ∧ u.1 71 45 = s.1 71 45 ∧ u.1 71 47 = s.1 71 47 ∧ u.1 71 48 = s.1 71 48
theorem oqSq.rf {s : oS} : oqSq s s := ⟨rfl, rfl, rfl, rfl, rfl⟩
theorem oqSq.tr {s t u : oS} (h : oqSq s t) (h2 : oqSq t u) : oqSq s u := ⟨h2.1.trans h.1, h2.2.1.trans h.2.1, h2.2.2.1.trans h.2.2.1, h2.2.2.2.1.trans h.2.2.2.1, h2.2.2.2.2.trans h.2.2.2.2⟩
theorem oqSq_of {M : List (Nat × Nat)} {s u : oS} (hf : oFr M s u) (hm : (oinK M 79 || (oinK M 78 || (oin M 12 45 || (oin M 12 47 || oin M 12 48)))) = false) : oqSq s u := by
  simp only [Bool.or_eq_false_iff] at hm
  exact ⟨oFr_row hf (c := 103) rfl hm.1, oFr_row hf (c := 102) rfl hm.2.1, (hf 71 45 hm.2.2.1).1, (hf 71 47 hm.2.2.2.1).1, (hf 71 48 hm.2.2.2.2).1⟩
theorem oqKs_q {s u : oS} {x : Int} {B : Nat} (h : oqSq s u) : oqKs x B u = oqKs x B s := by
  unfold oqKs
  rw [h.1, h.2.2.2.1]
theorem oqKt_q {s u : oS} (h : oqSq s u) : oqKt u = oqKt s := by
  unfold oqKt
  rw [h.1, h.2.2.2.1]
theorem oqRy_q {s u : oS} {cs : Nat} (h : oqSq s u) : oqRy cs u = oqRy cs s := by
  unfold oqRy
  rw [h.2.1, h.2.2.1]
/-! one is dropped, one is laid, one is opened -/
theorem oqLay_x {s u : oS} {v : Int32} {cs : Nat} (h : oLay s v u) (h0 : 0 ≤ (s.1 71 45).toInt) (hc : cs ≤ (s.1 71 45).toNatClampNeg) : oqRy cs u = v.toInt :: oqRy cs s ∧ cs ≤ (u.1 71 45).toNatClampNeg ∧ u.1 103 = s.1 103 ∧ u.1 71 47 = s.1 71 47 ∧ u.1 71 48 = s.1 71 48 ∧ u.1 71 2 = s.1 71 2 ∧ u.1 71 4 = s.1 71 4 ∧ u.1 71 5 = s.1 71 5 := by
  obtain ⟨z, hz, rfl⟩ := h
  have e1 := n_nat z
  have e2 := n_nat (s.1 71 45)
  refine ⟨?_, by show cs ≤ z.toNatClampNeg; omega, rfl, rfl, rfl, rfl, rfl, rfl⟩
  show oqCl (oU (s.1 102) (1600 + (s.1 71 45).toNatClampNeg) v) cs (z.toNatClampNeg - cs) = _
  rw [show z.toNatClampNeg = (s.1 71 45).toNatClampNeg + 1 by omega, oqCl_lay hc]
  rfl
theorem oqDrop_x {s u : oS} {cs : Nat} (h : oDrop s u) (h0 : 0 ≤ (s.1 71 45).toInt) (h1 : 1 ≤ (s.1 71 47).toInt) (hc : cs ≤ (s.1 71 45).toNatClampNeg) : oqRy cs u = oTop s :: oqRy cs s ∧ cs ≤ (u.1 71 45).toNatClampNeg ∧ u.1 103 = s.1 103 ∧ (u.1 71 47).toNatClampNeg + 1 = (s.1 71 47).toNatClampNeg ∧ u.1 71 48 = s.1 71 48 ∧ u.1 71 2 = s.1 71 2 ∧ u.1 71 4 = s.1 71 4 ∧ u.1 71 5 = s.1 71 5 := by
  obtain ⟨z, z', hz, hz', rfl⟩ := h
  have e1 := n_nat z
  have e2 := n_nat (s.1 71 45)
  have e3 := n_nat z'
  have e4 := n_nat (s.1 71 47)
  have et : oTop s = (s.1 103 z.toNatClampNeg).toInt := by unfold oTop; rw [← hz, e1]
  refine ⟨?_, by show cs ≤ z'.toNatClampNeg; omega, rfl, by show z.toNatClampNeg + 1 = _; omega, rfl, rfl, rfl, rfl⟩
  show oqCl (oU (s.1 102) (1600 + (s.1 71 45).toNatClampNeg) (s.1 103 z.toNatClampNeg)) cs (z'.toNatClampNeg - cs) = _
  rw [show z'.toNatClampNeg = (s.1 71 45).toNatClampNeg + 1 by omega, oqCl_lay hc, et]
  rfl
theorem oTop_at {s : oS} {W : Nat} (h : (s.1 71 47).toNatClampNeg = W + 1) : oTop s = (s.1 103 W).toInt := by
  have e := n_nat (s.1 71 47)
  unfold oTop
  rw [show ((s.1 71 47).toInt - 1).toNat = W by omega]
theorem oqKs_dr {s u : oS} {x : Int} {B : Nat} (hr : u.1 103 = s.1 103) (hw : (u.1 71 47).toNatClampNeg + 1 = (s.1 71 47).toNatClampNeg) (hB : B < (s.1 71 47).toNatClampNeg) : oqKs x B s = oTop s :: oqKs x B u := by
  unfold oqKs
  rw [hr, ← hw, oqSl_up (by omega), oTop_at hw.symm]
theorem oqKt_dr {s u : oS} (hr : u.1 103 = s.1 103) (hw : (u.1 71 47).toNatClampNeg + 1 = (s.1 71 47).toNatClampNeg) : oqKt s = oTop s :: oqKt u := by
  unfold oqKt
  rw [hr, ← hw, oqKl_up, oTop_at hw.symm]
theorem oqOpn_x {s u : oS} {v : Int32} (h : oOpn s v u) (h0 : 0 ≤ (s.1 71 47).toInt) : (u.1 71 47).toNatClampNeg = (s.1 71 47).toNatClampNeg + 1 ∧ u.1 103 = oU (s.1 103) (s.1 71 47).toNatClampNeg v ∧ (u.1 71 48).toInt = (s.1 71 48).toInt + 1 ∧ u.1 102 = s.1 102 ∧ u.1 71 45 = s.1 71 45 ∧ u.1 71 2 = s.1 71 2 ∧ u.1 71 4 = s.1 71 4 ∧ u.1 71 5 = s.1 71 5 := by
  obtain ⟨z, z', hz, hz', rfl⟩ := h
  have e1 := n_nat z'
  have e4 := n_nat (s.1 71 47)
  exact ⟨by show z'.toNatClampNeg = _; omega, rfl, hz, rfl, rfl, rfl, rfl, rfl⟩
/-! in a sum: the machine stands where the reference stands; it stands ahead of a sign that is taken; a word is still to be laid -/
def oqJw (g : Int → Int) (p q : Int) (c0 : oqCw) (x : Int) (B cs m : Nat) (t : oS) : Prop := (t.1 71 5).toInt = 0 → oqTw g p q c0 (m, oqSk g (t.1 71 2).toInt, (t.1 71 4).toInt, (t.1 71 48).toInt, oqKs x B t, oqRy cs t) ∧ B ≤ (t.1 71 47).toNatClampNeg ∧ cs ≤ (t.1 71 45).toNatClampNeg
def oqOw (g : Int → Int) (p q : Int) (c0 : oqCw) (x : Int) (B cs : Nat) (t : oS) : Prop := (t.1 71 5).toInt = 0 → oqTw g p q c0 (3, (t.1 71 2).toInt - 1, (t.1 71 4).toInt, (t.1 71 48).toInt, oqKs x B t, oqRy cs t) ∧ B ≤ (t.1 71 47).toNatClampNeg ∧ cs ≤ (t.1 71 45).toNatClampNeg
def oqVw (g : Int → Int) (p q : Int) (c0 : oqCw) (x : Int) (B cs m : Nat) (v : Int) (t : oS) : Prop := (t.1 71 5).toInt = 0 → oqTw g p q c0 (m, oqSk g (t.1 71 2).toInt, (t.1 71 4).toInt, (t.1 71 48).toInt, oqKs x B t, v :: oqRy cs t) ∧ B ≤ (t.1 71 47).toNatClampNeg ∧ cs ≤ (t.1 71 45).toNatClampNeg
section WSIM
variable {g : Int → Int} {p q : Int} {c0 : oqCw} {x : Int} {B cs m m' : Nat} {s u : oS}
theorem oqSq_frm {M : List (Nat × Nat)} (hf : oFr M s u) (hm : (oinK M 79 || (oinK M 78 || (oin M 12 45 || (oin M 12 47 || (oin M 12 48 || (oin M 12 2 || (oin M 12 4 || oin M 12 5))))))) = false) : oqSq s u ∧ u.1 71 2 = s.1 71 2 ∧ u.1 71 4 = s.1 71 4 ∧ u.1 71 5 = s.1 71 5 := by
  simp only [Bool.or_eq_false_iff] at hm
  exact ⟨⟨oFr_row hf (c := 103) rfl hm.1, oFr_row hf (c := 102) rfl hm.2.1, (hf 71 45 hm.2.2.1).1, (hf 71 47 hm.2.2.2.1).1, (hf 71 48 hm.2.2.2.2.1).1⟩, (hf 71 2 hm.2.2.2.2.2.1).1, (hf 71 4 hm.2.2.2.2.2.2.1).1, (hf 71 5 hm.2.2.2.2.2.2.2).1⟩
theorem oqJw_id (h : oqJw g p q c0 x B cs m s) (hq : oqSq s u) (hb : (u.1 71 5).toInt = 0 → (s.1 71 5).toInt = 0) (ha : oqSk g (u.1 71 2).toInt = oqSk g (s.1 71 2).toInt) (he : (u.1 71 4).toInt = (s.1 71 4).toInt) : oqJw g p q c0 x B cs m u := fun h9 => by
  obtain ⟨h1, h2, h3⟩ := h (hb h9)
  rw [oqKs_q hq, oqRy_q hq, ha, he, hq.2.2.1, hq.2.2.2.1, hq.2.2.2.2]
  exact ⟨h1, h2, h3⟩
theorem oqJw_fr {M : List (Nat × Nat)} (hf : oFr M s u) (hm : (oinK M 79 || (oinK M 78 || (oin M 12 45 || (oin M 12 47 || (oin M 12 48 || (oin M 12 2 || (oin M 12 4 || oin M 12 5))))))) = false) (h : oqJw g p q c0 x B cs m s) : oqJw g p q c0 x B cs m u := by
  obtain ⟨h1, h2, h3, h4⟩ := oqSq_frm hf hm
  exact oqJw_id h h1 (fun h9 => by rw [h4] at h9; exact h9) (by rw [h2]) (by rw [h3])
theorem oqJw_bd (h : (u.1 71 5).toInt ≠ 0) : oqJw g p q c0 x B cs m u := fun h9 => absurd h9 h
theorem oqVw_bd {v : Int} (h : (u.1 71 5).toInt ≠ 0) : oqVw g p q c0 x B cs m v u := fun h9 => absurd h9 h
/-- a word is laid -/
theorem oqVw_lay {v : Int} {w : Int32} (h : oqVw g p q c0 x B cs m v s) (hl : oLay s w u) (hv : w.toInt = v) (h0 : 0 ≤ (s.1 71 45).toInt) : oqJw g p q c0 x B cs m u := fun h9 => by
  by_cases hb : (s.1 71 5).toInt = 0
  · obtain ⟨h1, h2, h3⟩ := h hb
    obtain ⟨l1, l2, l3, l4, l5, l6, l7, l8⟩ := oqLay_x hl h0 h3
    have ek : oqKs x B u = oqKs x B s := by unfold oqKs; rw [l3, l4]
    rw [ek, l1, l4, l5, l6, l7, hv]
    exact ⟨h1, h2, l2⟩
  · obtain ⟨z, hz, rfl⟩ := hl
    exact absurd h9 hb
/-- ( is open -/
theorem oqJw_par {v z : Int32} (h : oqJw g p q c0 x B cs 1 s) (hs : (s.1 71 5).toInt = 0) (hO : (u.1 71 5).toInt = 0 → oOpn s v u) (hv : v.toInt = 20) (hA : oqSk g (s.1 71 2).toInt = (s.1 71 2).toInt) (hg : g (s.1 71 2).toInt = 40) (h0 : 0 ≤ (s.1 71 47).toInt) (hz : z.toInt = (s.1 71 2).toInt + 1) (ho : (u.1 71 5).toInt = 0 → (s.1 71 48).toInt ≤ 5) : oqJw g p q c0 x B cs 1 (pI u 71 2 z) := fun h9 => by
  have hb : (u.1 71 5).toInt = 0 := h9
  obtain ⟨q1, q2, q3⟩ := h hs
  rw [hA] at q1
  have ho' := ho hb
  obtain ⟨e1, e2, e3, e4, e5, e6, e7, e8⟩ := oqOpn_x (hO hb) h0
  have ek : oqKs x B (pI u 71 2 z) = 20 :: oqKs x B s := by
    show oqSl (u.1 103) x B (u.1 71 47).toNatClampNeg = _
    rw [e1, e2, oqSl_pu q2, hv]
    rfl
  have er : oqRy cs (pI u 71 2 z) = oqRy cs s := by
    show oqCl (u.1 102) cs ((u.1 71 45).toNatClampNeg - cs) = _
    rw [e4, e5]
    rfl
  refine ⟨?_, by show B ≤ (u.1 71 47).toNatClampNeg; omega, by show cs ≤ (u.1 71 45).toNatClampNeg; rw [e5]; exact q3⟩
  rw [ek, er]
  show oqTw g p q c0 (1, oqSk g z.toInt, (u.1 71 4).toInt, (u.1 71 48).toInt, _, _)
  rw [hz, e7, e3]
  refine q1.tr (oqTw.one ?_)
  rw [oqWs_1]
  exact (if_pos hg).trans (if_neg (by omega))
/-! behind min, max -/
def oqMw (g : Int → Int) (p q : Int) (c0 : oqCw) (x : Int) (B cs j : Nat) (t : oS) : Prop := (t.1 71 5).toInt = 0 → ∃ A b' : Int, g A ≠ 40 ∧ oqWi g A b' = (j : Int) ∧ oqSk g (t.1 71 2).toInt = oqSk g (oqHa g A j) ∧ (t.1 71 4).toInt = oqHa g A j ∧ oqTw g p q c0 (1, A, b', (t.1 71 48).toInt, oqKs x B t, oqRy cs t) ∧ B ≤ (t.1 71 47).toNatClampNeg ∧ cs ≤ (t.1 71 45).toNatClampNeg
theorem oqMw_of {j : Nat} (h : oqJw g p q c0 x B cs 1 s) (hs : (s.1 71 5).toInt = 0) (hq : oqSq s u) (hA : oqSk g (s.1 71 2).toInt = (s.1 71 2).toInt) (hg : g (s.1 71 2).toInt ≠ 40) (hj : oqWi g (s.1 71 2).toInt (s.1 71 4).toInt = (j : Int)) (ha : (u.1 71 2).toInt = oqHa g (s.1 71 2).toInt j) (he : (u.1 71 4).toInt = oqHa g (s.1 71 2).toInt j) : oqMw g p q c0 x B cs j u := fun _ => by
  obtain ⟨q1, q2, q3⟩ := h hs
  rw [hA] at q1
  refine ⟨(s.1 71 2).toInt, (s.1 71 4).toInt, hg, hj, by rw [ha], he, ?_⟩
  rw [oqKs_q hq, oqRy_q hq, hq.2.2.1, hq.2.2.2.1, hq.2.2.2.2]
  exact ⟨q1, q2, q3⟩
theorem oqMw_lk {j : Nat} (h : oqMw g p q c0 x B cs j s) (hs : (s.1 71 5).toInt = 0) (hq : oqSq s u) (he : (u.1 71 4).toInt = (s.1 71 4).toInt) (ha : oqSk g (u.1 71 2).toInt = oqSk g (s.1 71 2).toInt) : oqMw g p q c0 x B cs j u := fun _ => by
  obtain ⟨A, b', h1, h2, h3, h4, h5⟩ := h hs
  refine ⟨A, b', h1, h2, ha.trans h3, he.trans h4, ?_⟩
  rw [oqKs_q hq, oqRy_q hq, hq.2.2.1, hq.2.2.2.1, hq.2.2.2.2]
  exact h5
def oqM2w (g : Int → Int) (p q : Int) (c0 : oqCw) (x : Int) (B cs : Nat) (t : oS) : Prop := (t.1 71 5).toInt = 0 → g (t.1 71 2).toInt = 40 → oqSk g (t.1 71 2).toInt = (t.1 71 2).toInt → oqTw g p q c0 (1, oqSk g ((t.1 71 2).toInt + 1), (t.1 71 4).toInt, (t.1 71 48).toInt, oqKs x B t, oqRy cs t) ∧ B ≤ (t.1 71 47).toNatClampNeg ∧ cs ≤ (t.1 71 45).toNatClampNeg
theorem oqM2w_no (hg : g (u.1 71 2).toInt ≠ 40) : oqM2w g p q c0 x B cs u := fun _ h8 => absurd h8 hg
theorem oqM2w_op {j : Nat} {v : Int32} (h : oqMw g p q c0 x B cs j s) (hs : (s.1 71 5).toInt = 0) (hO : (u.1 71 5).toInt = 0 → oOpn s v u) (hv : (j = 24 ∧ v.toInt = 21) ∨ (j = 25 ∧ v.toInt = 22)) (hA : oqSk g (s.1 71 2).toInt = (s.1 71 2).toInt) (h0 : 0 ≤ (s.1 71 47).toInt) (ho : (u.1 71 5).toInt = 0 → (s.1 71 48).toInt ≤ 5) : oqM2w g p q c0 x B cs u := fun hb _ _ => by
  obtain ⟨A, b', h1, h2, h3, h4, h5, h6, h7⟩ := h hs
  rw [hA] at h3
  have ho' := ho hb
  obtain ⟨e1, e2, e3, e4, e5, e6, e7, e8⟩ := oqOpn_x (hO hb) h0
  have ek : oqKs x B u = v.toInt :: oqKs x B s := by
    show oqSl (u.1 103) x B (u.1 71 47).toNatClampNeg = _
    rw [e1, e2, oqSl_pu h6]
    rfl
  have er : oqRy cs u = oqRy cs s := by
    show oqCl (u.1 102) cs ((u.1 71 45).toNatClampNeg - cs) = _
    rw [e4, e5]
    rfl
  refine ⟨?_, by omega, by rw [e5]; exact h7⟩
  rw [ek, er, e6, e7, e3]
  refine h5.tr (oqTw.one ?_)
  rw [oqWs_1]
  unfold oqW1
  rw [if_neg h1, if_pos (by omega), if_neg (by omega), h2, Int.toNat_natCast, h3, h4, show v.toInt = (j : Int) - 3 by omega]
theorem oqM2w_J (h : oqM2w g p q c0 x B cs s) (hq : oqSq s u) (hA' : (s.1 71 5).toInt = 0 → oqSk g (s.1 71 2).toInt = (s.1 71 2).toInt) (he : (u.1 71 4).toInt = (s.1 71 4).toInt) (h1 : (u.1 71 5).toInt = 0 → (s.1 71 5).toInt = 0 ∧ g (oqSk g (s.1 71 2).toInt) = 40 ∧ (u.1 71 2).toInt = oqSk g (s.1 71 2).toInt + 1) : oqJw g p q c0 x B cs 1 u := fun hb => by
  obtain ⟨q1, q2, q3⟩ := h1 hb
  have hA := hA' q1
  rw [hA] at q2 q3
  rw [oqKs_q hq, oqRy_q hq, he, q3, hq.2.2.1, hq.2.2.2.1, hq.2.2.2.2]
  exact h q1 q2 hA
/-! parts -/
theorem oqVw_wd {A b : Int} {j : Nat} (h : oqJw g p q c0 x B cs 1 s) (hs : (s.1 71 5).toInt = 0) (hq : oqSq s u) (e1 : A = oqSk g (s.1 71 2).toInt) (e2 : b = (s.1 71 4).toInt) (hg : g A ≠ 40) (hj : oqWi g A b = (j : Int)) (h24 : j < 24) (hr : p ≤ (j : Int) ∧ (j : Int) < q) (ha : (u.1 71 2).toInt = oqHa g A j) (he : (u.1 71 4).toInt = oqHa g A j) : oqVw g p q c0 x B cs 3 (40 + (j : Int) - p) u := fun _ => by
  obtain ⟨q1, q2, q3⟩ := h hs
  rw [oqKs_q hq, oqRy_q hq, ha, he, hq.2.2.1, hq.2.2.2.1, hq.2.2.2.2]
  rw [← e1, ← e2] at q1
  exact ⟨q1.tr (oqw_wd hg hj h24 hr _ _ trivial), q2, q3⟩
theorem oqVw_nm {A b : Int} (h : oqJw g p q c0 x B cs 1 s) (hs : (s.1 71 5).toInt = 0) (hq : oqSq s u) (e1 : A = oqSk g (s.1 71 2).toInt) (e2 : b = (s.1 71 4).toInt) (hg : g A ≠ 40) (hj : ¬ (oqWi g A b = 24 ∨ oqWi g A b = 25)) (hr : ¬ (p ≤ oqWi g A b ∧ oqWi g A b < q)) (hk : oqNk g A b 0 9999 = 0) (ha : (u.1 71 2).toInt = oqNa g A) (he : (u.1 71 4).toInt = oqNa g A) : oqVw g p q c0 x B cs 3 (1000 + oqNv g A) u := fun _ => by
  obtain ⟨q1, q2, q3⟩ := h hs
  rw [oqKs_q hq, oqRy_q hq, ha, he, hq.2.2.1, hq.2.2.2.1, hq.2.2.2.2]
  rw [← e1, ← e2] at q1
  exact ⟨q1.tr (oqw_num hg hj hr hk _ _ trivial), q2, q3⟩
/-! a sign behind a part -/
theorem oqOw_of (h : oqJw g p q c0 x B cs 3 s) (hq : oqSq s u) (hb : (u.1 71 5).toInt = 0 → (s.1 71 5).toInt = 0 ∧ (u.1 71 2).toInt = oqSk g (s.1 71 2).toInt + 1) (he : (u.1 71 4).toInt = (s.1 71 4).toInt) : oqOw g p q c0 x B cs u := fun h9 => by
  obtain ⟨r1, r2⟩ := hb h9
  obtain ⟨q1, q2, q3⟩ := h r1
  rw [oqKs_q hq, oqRy_q hq, he, hq.2.2.1, hq.2.2.2.1, hq.2.2.2.2, r2, show oqSk g (s.1 71 2).toInt + 1 - 1 = oqSk g (s.1 71 2).toInt by omega]
  exact ⟨q1, q2, q3⟩
theorem oqOw_drop (h : oqOw g p q c0 x B cs s) (hd : oDrop s u) (h0 : 0 ≤ (s.1 71 45).toInt) (h1 : 1 ≤ (s.1 71 47).toInt) (hB : (B : Int) < (s.1 71 47).toInt) (ht : oTop s = 3 ∨ oTop s = 4 ∨ ((oTop s = 1 ∨ oTop s = 2) ∧ ¬ oqMu g ((s.1 71 2).toInt - 1))) : oqOw g p q c0 x B cs u := fun h9 => by
  have e4 := n_nat (s.1 71 47)
  have hb : (s.1 71 5).toInt = 0 := by
    obtain ⟨z, z', hz, hz', rfl⟩ := hd
    exact h9
  obtain ⟨q1, q2, q3⟩ := h hb
  obtain ⟨d1, d2, d3, d4, d5, d6, d7, d8⟩ := oqDrop_x hd h0 h1 q3
  rw [oqKs_dr d3 d4 (by omega)] at q1
  rw [d1, d5, d6, d7]
  refine ⟨q1.tr ?_, by omega, d2⟩
  rcases ht with ht | ht | ⟨ht, hm⟩
  · exact oqW3_mul (Or.inl ht)
  · exact oqW3_mul (Or.inr ht)
  · exact oqW3_add ht hm
theorem oqKs_hd (hx : 30 ≤ x ∧ x ≤ 33) (hB : B ≤ (s.1 71 47).toNatClampNeg) (P : Int → Prop) (hPx : ∀ k, 30 ≤ k → k ≤ 33 → P k) (hPt : B < (s.1 71 47).toNatClampNeg → P (oTop s)) : ∃ k L, oqKs x B s = k :: L ∧ P k := by
  by_cases e : (s.1 71 47).toNatClampNeg = B
  · exact ⟨x, _, oqSl_BB e, hPx x hx.1 hx.2⟩
  · refine ⟨oTop s, oqSl (s.1 103) x B ((s.1 71 47).toNatClampNeg - 1), ?_, hPt (by omega)⟩
    have e2 : (s.1 71 47).toNatClampNeg = (s.1 71 47).toNatClampNeg - 1 + 1 := by omega
    unfold oqKs
    rw [e2, oqSl_up (by omega), oTop_at e2]
    rfl
theorem oqOw_mu {v w z : Int32} (h : oqOw g p q c0 x B cs s) (hx : 30 ≤ x ∧ x ≤ 33) (e : s.1 71 47 = w) (h0 : 0 ≤ w.toInt) (hz : z.toInt = w.toInt + 1) (hm : oqMu g ((s.1 71 2).toInt - 1)) (hv : v.toInt = oqOc g ((s.1 71 2).toInt - 1)) (ht : w.toInt ≤ 0 ∨ (oTop s ≠ 3 ∧ oTop s ≠ 4)) : oqJw g p q c0 x B cs 1 (pI (pI s 103 w.toNatClampNeg v) 71 47 z) := fun h9 => by
  subst e
  have e2 := n_nat z
  have e3 := n_nat (s.1 71 47)
  have hb : (s.1 71 5).toInt = 0 := h9
  obtain ⟨q1, q2, q3⟩ := h hb
  obtain ⟨k, L, hk, hP⟩ := oqKs_hd (s := s) hx q2 (fun k => k ≠ 3 ∧ k ≠ 4) (fun k _ _ => (by show k ≠ 3 ∧ k ≠ 4; omega)) (fun hB9 => (by show oTop s ≠ 3 ∧ oTop s ≠ 4; omega))
  have ek : oqKs x B (pI (pI s 103 (s.1 71 47).toNatClampNeg v) 71 47 z) = v.toInt :: oqKs x B s := by
    show oqSl (oU (s.1 103) (s.1 71 47).toNatClampNeg v) x B z.toNatClampNeg = _
    rw [show z.toNatClampNeg = (s.1 71 47).toNatClampNeg + 1 by omega, oqSl_pu q2]
    rfl
  refine ⟨?_, by show B ≤ z.toNatClampNeg; omega, q3⟩
  rw [ek, hv]
  show oqTw g p q c0 (1, oqSk g (s.1 71 2).toInt, (s.1 71 4).toInt, (s.1 71 48).toInt, _, oqRy cs s)
  have st := oqW3_mu (g := g) (p := p) (q := q) (a := (s.1 71 2).toInt - 1) (b := (s.1 71 4).toInt) (o := (s.1 71 48).toInt) (K := oqKs x B s) (R := oqRy cs s) ⟨k, L, hk, hP.1, hP.2⟩ hm
  rw [show (s.1 71 2).toInt - 1 + 1 = (s.1 71 2).toInt by omega] at st
  exact q1.tr st
theorem oqOw_ad {v w z : Int32} (h : oqOw g p q c0 x B cs s) (hx : 30 ≤ x ∧ x ≤ 33) (e : s.1 71 47 = w) (h0 : 0 ≤ w.toInt) (hz : z.toInt = w.toInt + 1) (hm : oqOp g ((s.1 71 2).toInt - 1)) (hv : v.toInt = oqOc g ((s.1 71 2).toInt - 1)) (ht : w.toInt ≤ 0 ∨ (oTop s ≠ 3 ∧ oTop s ≠ 4 ∧ oTop s ≠ 1 ∧ oTop s ≠ 2)) : oqJw g p q c0 x B cs 1 (pI (pI s 103 w.toNatClampNeg v) 71 47 z) := fun h9 => by
  subst e
  have e2 := n_nat z
  have e3 := n_nat (s.1 71 47)
  have hb : (s.1 71 5).toInt = 0 := h9
  obtain ⟨q1, q2, q3⟩ := h hb
  obtain ⟨k, L, hk, hP⟩ := oqKs_hd (s := s) hx q2 (fun k => k ≠ 3 ∧ k ≠ 4 ∧ k ≠ 1 ∧ k ≠ 2) (fun k _ _ => (by show k ≠ 3 ∧ k ≠ 4 ∧ k ≠ 1 ∧ k ≠ 2; omega)) (fun hB9 => (by show oTop s ≠ 3 ∧ oTop s ≠ 4 ∧ oTop s ≠ 1 ∧ oTop s ≠ 2; omega))
  have ek : oqKs x B (pI (pI s 103 (s.1 71 47).toNatClampNeg v) 71 47 z) = v.toInt :: oqKs x B s := by
    show oqSl (oU (s.1 103) (s.1 71 47).toNatClampNeg v) x B z.toNatClampNeg = _
    rw [show z.toNatClampNeg = (s.1 71 47).toNatClampNeg + 1 by omega, oqSl_pu q2]
    rfl
  refine ⟨?_, by show B ≤ z.toNatClampNeg; omega, q3⟩
  rw [ek, hv]
  show oqTw g p q c0 (1, oqSk g (s.1 71 2).toInt, (s.1 71 4).toInt, (s.1 71 48).toInt, _, oqRy cs s)
  have st := oqW3_op (g := g) (p := p) (q := q) (a := (s.1 71 2).toInt - 1) (b := (s.1 71 4).toInt) (o := (s.1 71 48).toInt) (K := oqKs x B s) (R := oqRy cs s) ⟨k, L, hk, hP⟩ hm
  rw [show (s.1 71 2).toInt - 1 + 1 = (s.1 71 2).toInt by omega] at st
  exact q1.tr st
/-- ) closes -/
theorem oqOw_cl {z2 z3 : Int32} (h : oqOw g p q c0 x B cs s) (hs : (s.1 71 5).toInt = 0) (hg : ¬ oqOp g ((s.1 71 2).toInt - 1)) (hW : (B : Int) < (s.1 71 47).toInt) (hz2 : z2.toInt = (s.1 71 47).toInt - 1) (hz3 : z3.toInt = (s.1 71 48).toInt - 1) : (oTop s = 20 → oqJw g p q c0 x B cs 3 (pI (pI s 71 47 z2) 71 48 z3)) ∧ (oTop s = 23 ∨ oTop s = 24 → oqVw g p q c0 x B cs 3 (oTop s - 18) (pI (pI s 71 47 z2) 71 48 z3)) := by
  have e2 := n_nat z2
  have e3 := n_nat (s.1 71 47)
  obtain ⟨q1, q2, q3⟩ := h hs
  have ek : oqKs x B s = oTop s :: oqKs x B (pI (pI s 71 47 z2) 71 48 z3) := oqKs_dr rfl (by show z2.toNatClampNeg + 1 = _; omega) (by omega)
  rw [ek] at q1
  have hB : B ≤ z2.toNatClampNeg := by omega
  refine ⟨fun ht => fun _ => ⟨?_, hB, q3⟩, fun ht => fun _ => ⟨?_, hB, q3⟩⟩
  · refine q1.tr (oqTw.one ?_)
    rw [oqW3_n hg (by omega), if_pos ht]
    show _ = (3, oqSk g (s.1 71 2).toInt, (s.1 71 4).toInt, z3.toInt, _, oqRy cs s)
    rw [hz3, show (s.1 71 2).toInt - 1 + 1 = (s.1 71 2).toInt by omega]
  · refine q1.tr (oqTw.one ?_)
    rw [oqW3_n hg (by omega), if_neg (by omega), if_neg (by omega), if_pos ht]
    show _ = (3, oqSk g (s.1 71 2).toInt, (s.1 71 4).toInt, z3.toInt, _, (oTop s - 18) :: oqRy cs s)
    rw [hz3, show (s.1 71 2).toInt - 1 + 1 = (s.1 71 2).toInt by omega]
/-- , -/
theorem oqOw_cm {i z : Int32} (h : oqOw g p q c0 x B cs s) (hs : (s.1 71 5).toInt = 0) (hg : ¬ oqOp g ((s.1 71 2).toInt - 1)) (hW : (B : Int) < (s.1 71 47).toInt) (hT : oTop s = 21 ∨ oTop s = 22) (hi : i.toInt = (s.1 71 47).toInt - 1) (hz : z.toInt = oTop s + 2) : oqJw g p q c0 x B cs 1 (pI s 103 i.toNatClampNeg z) := fun _ => by
  have e2 := n_nat i
  have e3 := n_nat (s.1 71 47)
  obtain ⟨q1, q2, q3⟩ := h hs
  have ew : (s.1 71 47).toNatClampNeg = i.toNatClampNeg + 1 := by omega
  have ek : oqKs x B s = oTop s :: oqSl (s.1 103) x B i.toNatClampNeg := by
    unfold oqKs
    rw [ew, oqSl_up (by omega), oTop_at ew]
  have ek2 : oqKs x B (pI s 103 i.toNatClampNeg z) = z.toInt :: oqSl (s.1 103) x B i.toNatClampNeg := by
    show oqSl (oU (s.1 103) i.toNatClampNeg z) x B (s.1 71 47).toNatClampNeg = _
    rw [ew, oqSl_pu (by omega)]
  rw [ek] at q1
  refine ⟨?_, q2, q3⟩
  rw [ek2]
  refine q1.tr (oqTw.one ?_)
  rw [oqW3_n hg (by omega), if_neg (by omega), if_pos hT]
  show _ = (1, oqSk g (s.1 71 2).toInt, (s.1 71 4).toInt, (s.1 71 48).toInt, _, oqRy cs s)
  rw [hz, show (s.1 71 2).toInt - 1 + 1 = (s.1 71 2).toInt by omega]
/-- a sum is over: what waits in it is laid -/
theorem oqJw_drop (h : oqJw g p q c0 x B cs 3 s) (hd : oDrop s u) (h0 : 0 ≤ (s.1 71 45).toInt) (h1 : 1 ≤ (s.1 71 47).toInt) (hB : (B : Int) < (s.1 71 47).toInt) (ht : 1 ≤ oTop s ∧ oTop s ≤ 4) (hm : (s.1 71 5).toInt = 0 → ¬ oqMu g (oqSk g (s.1 71 2).toInt)) : oqJw g p q c0 x B cs 3 u := fun h9 => by
  have e4 := n_nat (s.1 71 47)
  have hb : (s.1 71 5).toInt = 0 := by
    obtain ⟨z, z', hz, hz', rfl⟩ := hd
    exact h9
  obtain ⟨q1, q2, q3⟩ := h hb
  obtain ⟨d1, d2, d3, d4, d5, d6, d7, d8⟩ := oqDrop_x hd h0 h1 q3
  rw [oqKs_dr d3 d4 (by omega)] at q1
  rw [d1, d5, d6, d7]
  refine ⟨q1.tr ?_, by omega, d2⟩
  by_cases hk : oTop s = 3 ∨ oTop s = 4
  · exact oqW3_mul hk
  · exact oqW3_add (by omega) (hm hb)
/-! between facts -/
def oqTx (g : Int → Int) (p q : Int) (c0 : oqCw) (cs m : Nat) (t : oS) : Prop := (t.1 71 5).toInt = 0 → oqTw g p q c0 (m, oqSk g (t.1 71 2).toInt, (t.1 71 4).toInt, (t.1 71 48).toInt, oqKt t, oqRy cs t) ∧ cs ≤ (t.1 71 45).toNatClampNeg
def oqTvw (g : Int → Int) (p q : Int) (c0 : oqCw) (cs m : Nat) (v : Int) (t : oS) : Prop := (t.1 71 5).toInt = 0 → oqTw g p q c0 (m, oqSk g (t.1 71 2).toInt, (t.1 71 4).toInt, (t.1 71 48).toInt, oqKt t, v :: oqRy cs t) ∧ cs ≤ (t.1 71 45).toNatClampNeg
theorem oqTx_id (h : oqTx g p q c0 cs m s) (hq : oqSq s u) (hb : (u.1 71 5).toInt = 0 → (s.1 71 5).toInt = 0) (ha : oqSk g (u.1 71 2).toInt = oqSk g (s.1 71 2).toInt) (he : (u.1 71 4).toInt = (s.1 71 4).toInt) : oqTx g p q c0 cs m u := fun h9 => by
  obtain ⟨h1, h3⟩ := h (hb h9)
  rw [oqKt_q hq, oqRy_q hq, ha, he, hq.2.2.1, hq.2.2.2.2]
  exact ⟨h1, h3⟩
theorem oqTx_bd (h : (u.1 71 5).toInt ≠ 0) : oqTx g p q c0 cs m u := fun h9 => absurd h9 h
theorem oqTvw_lay {v : Int} {w : Int32} (h : oqTvw g p q c0 cs m v s) (hl : oLay s w u) (hv : w.toInt = v) (h0 : 0 ≤ (s.1 71 45).toInt) : oqTx g p q c0 cs m u := fun h9 => by
  by_cases hb : (s.1 71 5).toInt = 0
  · obtain ⟨h1, h3⟩ := h hb
    obtain ⟨l1, l2, l3, l4, l5, l6, l7, l8⟩ := oqLay_x hl h0 h3
    have ek : oqKt u = oqKt s := by unfold oqKt; rw [l3, l4]
    rw [ek, l1, l5, l6, l7, hv]
    exact ⟨h1, l2⟩
  · obtain ⟨z, hz, rfl⟩ := hl
    exact absurd h9 hb
/-- a fact that begins with a sum -/
theorem oqTx_J (h : oqTx g p q c0 cs 0 s) (hs : (s.1 71 5).toInt = 0) (hg : g (oqSk g (s.1 71 2).toInt) ≠ 91) (h9 : oqWi g (oqSk g (s.1 71 2).toInt) (s.1 71 4).toInt ≠ 9) (h10 : oqWi g (oqSk g (s.1 71 2).toInt) (s.1 71 4).toInt ≠ 10) (hB : B = (s.1 71 47).toNatClampNeg) : oqJw g p q c0 30 B cs 1 s := fun _ => by
  obtain ⟨q1, q3⟩ := h hs
  refine ⟨?_, by omega, q3⟩
  have ek : oqKs 30 B s = 30 :: oqKt s := by
    unfold oqKs oqKt
    rw [oqSl_BB hB.symm, hB]
  rw [ek]
  refine q1.tr (oqTw.one ?_)
  rw [oqWs_0]
  exact (if_neg hg).trans ((if_neg h9).trans (if_neg h10))
theorem oqTvw_all {A b : Int} (h : oqTx g p q c0 cs 0 s) (hs : (s.1 71 5).toInt = 0) (hq : oqSq s u) (e1 : A = oqSk g (s.1 71 2).toInt) (e2 : b = (s.1 71 4).toInt) (hg : g A ≠ 91) (hj : oqWi g A b = 10) (ha : (u.1 71 2).toInt = oqHa g A 10) (he : (u.1 71 4).toInt = oqHa g A 10) : oqTvw g p q c0 cs 2 17 u := fun _ => by
  obtain ⟨q1, q3⟩ := h hs
  rw [oqKt_q hq, oqRy_q hq, ha, he, hq.2.2.1, hq.2.2.2.2]
  rw [← e1, ← e2] at q1
  exact ⟨q1.tr (oqw_all hg hj _ _ trivial), q3⟩
/-- the sign of a fact -/
theorem oqJw_sg {z : Int32} (h : oqJw g p q c0 30 B cs 3 s) (hs : (s.1 71 5).toInt = 0) (hW : (s.1 71 47).toNatClampNeg = B) (hno : ¬ oqOp g (oqSk g (s.1 71 2).toInt)) (hz : z.toInt = oqSk g (s.1 71 2).toInt + 1) : oqJw g p q c0 (oqSc g (oqSk g (s.1 71 2).toInt)) B cs 1 (pI s 71 2 z) := fun _ => by
  obtain ⟨q1, q2, q3⟩ := h hs
  have ek : oqKs 30 B s = 30 :: oqKl (s.1 103) 0 B := oqSl_BB hW
  have ek2 : oqKs (oqSc g (oqSk g (s.1 71 2).toInt)) B (pI s 71 2 z) = oqSc g (oqSk g (s.1 71 2).toInt) :: oqKl (s.1 103) 0 B := oqSl_BB hW
  rw [ek] at q1
  refine ⟨?_, q2, q3⟩
  rw [ek2]
  refine q1.tr (oqTw.one ?_)
  rw [oqW3_n hno (by decide), if_neg (by decide), if_neg (by decide), if_neg (by decide), if_pos rfl]
  show _ = (1, oqSk g z.toInt, (s.1 71 4).toInt, (s.1 71 48).toInt, _, oqRy cs s)
  rw [hz]
theorem oqJw_6 (h : oqJw g p q c0 x B cs 3 s) (hx : 31 ≤ x ∧ x ≤ 33) (hW : (s.1 71 5).toInt = 0 → (s.1 71 47).toNatClampNeg = B) (hno : (s.1 71 5).toInt = 0 → ¬ oqOp g (oqSk g (s.1 71 2).toInt)) : oqTvw g p q c0 cs 2 (x - 20) s := fun hb => by
  obtain ⟨q1, q2, q3⟩ := h hb
  have hW' := hW hb
  have ek : oqKs x B s = x :: oqKt s := by
    unfold oqKs oqKt
    rw [oqSl_BB hW', hW']
  rw [ek] at q1
  refine ⟨q1.tr (oqTw.one ?_), q3⟩
  rw [oqW3_n (hno hb) (by omega), if_neg (by omega), if_neg (by omega), if_neg (by omega), if_neg (by omega)]
/-- not is over -/
theorem oqTx_nt {z0 : Int32} (h : oqTx g p q c0 cs 2 s) (hs : (s.1 71 5).toInt = 0) (hz0 : z0.toInt = (s.1 71 48).toInt - 1) (hd : oDrop (pI s 71 48 z0) u) (h0 : 0 ≤ (s.1 71 45).toInt) (h1 : 1 ≤ (s.1 71 47).toInt) (ht : oTop s = 16) : oqTx g p q c0 cs 2 u := fun _ => by
  obtain ⟨q1, q3⟩ := h hs
  obtain ⟨d1, d2, d3, d4, d5, d6, d7, d8⟩ := oqDrop_x (cs := cs) hd h0 h1 q3
  have d3' : u.1 103 = s.1 103 := d3
  have d4' : (u.1 71 47).toNatClampNeg + 1 = (s.1 71 47).toNatClampNeg := d4
  have d1' : oqRy cs u = 16 :: oqRy cs s := by
    rw [← ht]
    exact d1
  rw [oqKt_dr d3' d4', ht] at q1
  rw [d1', d6, d7, show (u.1 71 48).toInt = (s.1 71 48).toInt - 1 by rw [d5]; exact hz0]
  exact ⟨q1.tr oqW2_16, d2⟩
/-- [ is open, not is open -/
theorem oqTx_op {v : Int32} (h : oqTx g p q c0 cs 0 s) (hs : (s.1 71 5).toInt = 0) (hO : oOpn s v u) (h0 : 0 ≤ (s.1 71 47).toInt) : oqTw g p q c0 (0, oqSk g (s.1 71 2).toInt, (s.1 71 4).toInt, (s.1 71 48).toInt, oqKt s, oqRy cs s) ∧ cs ≤ (u.1 71 45).toNatClampNeg ∧ oqKt u = v.toInt :: oqKt s ∧ oqRy cs u = oqRy cs s ∧ (u.1 71 48).toInt = (s.1 71 48).toInt + 1 ∧ (u.1 71 2).toInt = (s.1 71 2).toInt ∧ (u.1 71 4).toInt = (s.1 71 4).toInt := by
  obtain ⟨q1, q3⟩ := h hs
  obtain ⟨e1, e2, e3, e4, e5, e6, e7, e8⟩ := oqOpn_x hO h0
  have ek : oqKt u = v.toInt :: oqKt s := by
    show oqKl (u.1 103) 0 (u.1 71 47).toNatClampNeg = _
    rw [e1, e2, oqKl_pu]
    rfl
  have er : oqRy cs u = oqRy cs s := by
    show oqCl (u.1 102) cs ((u.1 71 45).toNatClampNeg - cs) = _
    rw [e4, e5]
    rfl
  exact ⟨q1, by rw [e5]; exact q3, ek, er, e3, by rw [e6], by rw [e7]⟩
theorem oqTx_sq {v z : Int32} (h : oqTx g p q c0 cs 0 s) (hs : (s.1 71 5).toInt = 0) (hO : (u.1 71 5).toInt = 0 → oOpn s v u) (hv : v.toInt = 25) (hA : oqSk g (s.1 71 2).toInt = (s.1 71 2).toInt) (hg : g (s.1 71 2).toInt = 91) (h0 : 0 ≤ (s.1 71 47).toInt) (hz : z.toInt = (s.1 71 2).toInt + 1) (ho : (u.1 71 5).toInt = 0 → (s.1 71 48).toInt ≤ 5) : oqTx g p q c0 cs 0 (pI u 71 2 z) := fun h9 => by
  have hb : (u.1 71 5).toInt = 0 := h9
  have ho' := ho hb
  obtain ⟨q1, q3, ek, er, e3, e6, e7⟩ := oqTx_op h hs (hO hb) h0
  rw [hA] at q1
  refine ⟨?_, q3⟩
  show oqTw g p q c0 (0, oqSk g z.toInt, (u.1 71 4).toInt, (u.1 71 48).toInt, oqKt u, oqRy cs u)
  rw [ek, er, hv, hz, e7, e3]
  refine q1.tr (oqTw.one ?_)
  rw [oqWs_0]
  exact (if_pos hg).trans (if_neg (by omega))
/-- not is open, its word is still to be taken -/
def oqN1w (g : Int → Int) (p q : Int) (c0 : oqCw) (cs : Nat) (t : oS) : Prop := (t.1 71 5).toInt = 0 → oqTw g p q c0 (0, oqSk g (oqHa g (t.1 71 2).toInt 9), oqHa g (t.1 71 2).toInt 9, (t.1 71 48).toInt, oqKt t, oqRy cs t) ∧ cs ≤ (t.1 71 45).toNatClampNeg
theorem oqN1w_of {v : Int32} (h : oqTx g p q c0 cs 0 s) (hs : (s.1 71 5).toInt = 0) (hO : (u.1 71 5).toInt = 0 → oOpn s v u) (hv : v.toInt = 16) (hA : oqSk g (s.1 71 2).toInt = (s.1 71 2).toInt) (hg : g (s.1 71 2).toInt ≠ 91) (hj : oqWi g (s.1 71 2).toInt (s.1 71 4).toInt = 9) (h0 : 0 ≤ (s.1 71 47).toInt) (ho : (u.1 71 5).toInt = 0 → (s.1 71 48).toInt ≤ 5) : oqN1w g p q c0 cs u := fun hb => by
  have ho' := ho hb
  obtain ⟨q1, q3, ek, er, e3, e6, e7⟩ := oqTx_op h hs (hO hb) h0
  rw [hA] at q1
  refine ⟨?_, q3⟩
  rw [ek, er, hv, e6, e3]
  refine q1.tr (oqTw.one ?_)
  rw [oqWs_0]
  exact (if_neg hg).trans ((if_pos hj).trans (if_neg (by omega)))
theorem oqN1w_T (h : oqN1w g p q c0 cs s) (hq : oqSq s u) (h1 : (u.1 71 5).toInt = 0 → (s.1 71 5).toInt = 0 ∧ (u.1 71 2).toInt = oqHa g (s.1 71 2).toInt 9 ∧ (u.1 71 4).toInt = oqHa g (s.1 71 2).toInt 9) : oqTx g p q c0 cs 0 u := fun hb => by
  obtain ⟨r1, r2, r3⟩ := h1 hb
  obtain ⟨q1, q3⟩ := h r1
  rw [oqKt_q hq, oqRy_q hq, r2, r3, hq.2.2.1, hq.2.2.2.2]
  exact ⟨q1, q3⟩
/-- ] is taken: what waits in it is laid, it is closed -/
def oqI3w (g : Int → Int) (p q : Int) (c0 : oqCw) (cs : Nat) (t : oS) : Prop := (t.1 71 5).toInt = 0 → oqTw g p q c0 (2, (t.1 71 2).toInt - 1, (t.1 71 4).toInt, (t.1 71 48).toInt, oqKt t, oqRy cs t) ∧ cs ≤ (t.1 71 45).toNatClampNeg
theorem oqI3w_of {z : Int32} (h : oqTx g p q c0 cs 2 s) (hA : oqSk g (s.1 71 2).toInt = (s.1 71 2).toInt) (hz : z.toInt = (s.1 71 2).toInt + 1) : oqI3w g p q c0 cs (pI s 71 2 z) := fun hb => by
  have hb' : (s.1 71 5).toInt = 0 := hb
  obtain ⟨q1, q3⟩ := h hb'
  rw [hA] at q1
  refine ⟨?_, q3⟩
  show oqTw g p q c0 (2, z.toInt - 1, (s.1 71 4).toInt, (s.1 71 48).toInt, oqKt s, oqRy cs s)
  rw [hz, show (s.1 71 2).toInt + 1 - 1 = (s.1 71 2).toInt by omega]
  exact q1
theorem oqI3w_drop (h : oqI3w g p q c0 cs s) (hs : (s.1 71 5).toInt = 0) (hd : oDrop s u) (h0 : 0 ≤ (s.1 71 45).toInt) (h1 : 1 ≤ (s.1 71 47).toInt) (ht : oTop s = 14 ∨ oTop s = 15) (hw : oqWi g ((s.1 71 2).toInt - 1) (s.1 71 4).toInt ≠ 8) : oqI3w g p q c0 cs u := fun _ => by
  obtain ⟨q1, q3⟩ := h hs
  obtain ⟨d1, d2, d3, d4, d5, d6, d7, d8⟩ := oqDrop_x hd h0 h1 q3
  rw [oqKt_dr d3 d4] at q1
  rw [d1, d5, d6, d7]
  refine ⟨q1.tr ?_, d2⟩
  rcases ht with ht | ht
  · rw [ht]; exact oqW2_14
  · rw [ht]; exact oqW2_15 hw
theorem oqI3w_cl {z z2 : Int32} (h : oqI3w g p q c0 cs s) (hs : (s.1 71 5).toInt = 0) (hw : oqWi g ((s.1 71 2).toInt - 1) (s.1 71 4).toInt ≠ 7 ∧ oqWi g ((s.1 71 2).toInt - 1) (s.1 71 4).toInt ≠ 8) (h1 : 1 ≤ (s.1 71 47).toInt) (hz : z.toInt = (s.1 71 47).toInt - 1) (hz2 : z2.toInt = (s.1 71 48).toInt - 1) (ht : oTop s = 25) : oqTx g p q c0 cs 2 (pI (pI s 71 47 z) 71 48 z2) := fun _ => by
  have e2 := n_nat z
  have e3 := n_nat (s.1 71 47)
  obtain ⟨q1, q3⟩ := h hs
  have ek : oqKt s = oTop s :: oqKt (pI (pI s 71 47 z) 71 48 z2) := oqKt_dr rfl (by show z.toNatClampNeg + 1 = _; omega)
  rw [ek, ht] at q1
  refine ⟨q1.tr (oqTw.one ?_), q3⟩
  rw [oqWs_2, oqW2_c, if_neg (by decide), if_neg (by decide), if_neg hw.2, if_neg (by decide), if_neg hw.1]
  show ((2, oqSk g ((s.1 71 2).toInt - 1 + 1), (s.1 71 4).toInt, (s.1 71 48).toInt - 1, oqKt (pI (pI s 71 47 z) 71 48 z2), oqRy cs s) : oqCw) = (2, oqSk g (s.1 71 2).toInt, (s.1 71 4).toInt, z2.toInt, oqKt (pI (pI s 71 47 z) 71 48 z2), oqRy cs s)
  rw [hz2, show (s.1 71 2).toInt - 1 + 1 = (s.1 71 2).toInt by omega]
/-- and, or is taken -/
def oqAw (g : Int → Int) (p q : Int) (c0 : oqCw) (cs i : Nat) (t : oS) : Prop := (t.1 71 5).toInt = 0 → ∃ A b' : Int, oqWi g A b' = (i : Int) ∧ oqSk g (t.1 71 2).toInt = oqSk g (oqHa g A i) ∧ (t.1 71 4).toInt = oqHa g A i ∧ oqTw g p q c0 (2, A, b', (t.1 71 48).toInt, oqKt t, oqRy cs t) ∧ cs ≤ (t.1 71 45).toNatClampNeg
theorem oqAw_of {i : Nat} {A b : Int} (h : oqTx g p q c0 cs 2 s) (hs : (s.1 71 5).toInt = 0) (hq : oqSq s u) (e1 : A = oqSk g (s.1 71 2).toInt) (e2 : b = (s.1 71 4).toInt) (hj : oqWi g A b = (i : Int)) (ha : (u.1 71 2).toInt = oqHa g A i) (he : (u.1 71 4).toInt = oqHa g A i) : oqAw g p q c0 cs i u := fun _ => by
  obtain ⟨q1, q3⟩ := h hs
  rw [← e1, ← e2] at q1
  refine ⟨A, b, hj, by rw [ha], he, ?_⟩
  rw [oqKt_q hq, oqRy_q hq, hq.2.2.1, hq.2.2.2.2]
  exact ⟨q1, q3⟩
theorem oqAw_drop {i : Nat} (h : oqAw g p q c0 cs i s) (hs : (s.1 71 5).toInt = 0) (hd : oDrop s u) (h0 : 0 ≤ (s.1 71 45).toInt) (h1 : 1 ≤ (s.1 71 47).toInt) (ht : oTop s = 14 ∨ (oTop s = 15 ∧ i = 7)) : oqAw g p q c0 cs i u := fun _ => by
  obtain ⟨A, b', a1, a2, a3, a4, a5⟩ := h hs
  obtain ⟨d1, d2, d3, d4, d5, d6, d7, d8⟩ := oqDrop_x hd h0 h1 a5
  refine ⟨A, b', a1, by rw [d6]; exact a2, by rw [d7]; exact a3, ?_⟩
  rw [oqKt_dr d3 d4] at a4
  rw [d1, d5]
  refine ⟨a4.tr ?_, d2⟩
  rcases ht with ht | ⟨ht, hi⟩
  · rw [ht]; exact oqW2_14
  · rw [ht]; exact oqW2_15 (by omega)
theorem oqKt_hd (P : Int → Prop) (hP : 1 ≤ (s.1 71 47).toInt → P (oTop s)) : ∀ k L, oqKt s = k :: L → P k := fun k L e => by
  have e3 := n_nat (s.1 71 47)
  by_cases hw : (s.1 71 47).toNatClampNeg = 0
  · unfold oqKt at e
    rw [hw] at e
    cases e
  · have e2 : (s.1 71 47).toNatClampNeg = (s.1 71 47).toNatClampNeg - 1 + 1 := by omega
    unfold oqKt at e
    rw [e2, oqKl_up] at e
    injection e with e4 e5
    rw [← e4, ← oTop_at e2]
    exact hP (by omega)
theorem oqAw_push {i : Nat} {v w z : Int32} (h : oqAw g p q c0 cs i s) (e : s.1 71 47 = w) (h0 : 0 ≤ w.toInt) (hz : z.toInt = w.toInt + 1) (hv : (i = 8 ∧ v.toInt = 14) ∨ (i = 7 ∧ v.toInt = 15)) (ht : 1 ≤ w.toInt → oTop s ≠ 16 ∧ oTop s ≠ 14 ∧ (i = 7 → oTop s ≠ 15)) : oqTx g p q c0 cs 0 (pI (pI s 103 w.toNatClampNeg v) 71 47 z) := fun h9 => by
  subst e
  have e2 := n_nat z
  have e3 := n_nat (s.1 71 47)
  have hb : (s.1 71 5).toInt = 0 := h9
  obtain ⟨A, b', a1, a2, a3, a4, a5⟩ := h hb
  have ek : oqKt (pI (pI s 103 (s.1 71 47).toNatClampNeg v) 71 47 z) = v.toInt :: oqKt s := by
    show oqKl (oU (s.1 103) (s.1 71 47).toNatClampNeg v) 0 z.toNatClampNeg = _
    rw [show z.toNatClampNeg = (s.1 71 47).toNatClampNeg + 1 by omega, oqKl_pu]
    rfl
  refine ⟨?_, a5⟩
  rw [ek]
  show oqTw g p q c0 (0, oqSk g (s.1 71 2).toInt, (s.1 71 4).toInt, (s.1 71 48).toInt, _, oqRy cs s)
  rw [a2, a3]
  rcases hv with ⟨hi, hv⟩ | ⟨hi, hv⟩
  · subst hi
    rw [hv]
    exact a4.tr (oqW2_and (oqKt_hd (fun k => k ≠ 14 ∧ k ≠ 16) (fun h1 => (by show oTop s ≠ 14 ∧ oTop s ≠ 16; have := ht h1; omega))) a1)
  · subst hi
    rw [hv]
    exact a4.tr (oqW2_or (oqKt_hd (fun k => k ≠ 14 ∧ k ≠ 16 ∧ k ≠ 15) (fun h1 => (by show oTop s ≠ 14 ∧ oTop s ≠ 16 ∧ oTop s ≠ 15; have := ht h1; omega))) a1)
/-- the end: all that waits is laid -/
theorem oqTx_drop (h : oqTx g p q c0 cs 2 s) (hs : (s.1 71 5).toInt = 0) (hd : oDrop s u) (h0 : 0 ≤ (s.1 71 45).toInt) (h1 : 1 ≤ (s.1 71 47).toInt) (ht : oTop s = 14 ∨ oTop s = 15) (hw : oqWi g (oqSk g (s.1 71 2).toInt) (s.1 71 4).toInt ≠ 8) : oqTx g p q c0 cs 2 u := fun _ => by
  obtain ⟨q1, q3⟩ := h hs
  obtain ⟨d1, d2, d3, d4, d5, d6, d7, d8⟩ := oqDrop_x hd h0 h1 q3
  rw [oqKt_dr d3 d4] at q1
  rw [d1, d5, d6, d7]
  refine ⟨q1.tr ?_, d2⟩
  rcases ht with ht | ht
  · rw [ht]; exact oqW2_14
  · rw [ht]; exact oqW2_15 hw
def oqE8w (g : Int → Int) (p q : Int) (c0 : oqCw) (cs : Nat) (t : oS) : Prop := (t.1 71 5).toInt = 0 → oqTw g p q c0 (8, oqSk g (t.1 71 2).toInt, (t.1 71 4).toInt, (t.1 71 48).toInt, [], oqRy cs t) ∧ cs ≤ (t.1 71 45).toNatClampNeg
theorem oqE8w_fr {M : List (Nat × Nat)} (hf : oFr M s u) (hm : (oinK M 78 || (oin M 12 45 || (oin M 12 48 || (oin M 12 2 || (oin M 12 4 || oin M 12 5))))) = false) (h : oqE8w g p q c0 cs s) : oqE8w g p q c0 cs u := by
  simp only [Bool.or_eq_false_iff] at hm
  have er : oqRy cs u = oqRy cs s := by
    unfold oqRy
    rw [oFr_row hf (c := 102) rfl hm.1, (hf 71 45 hm.2.1).1]
  intro h9
  rw [(hf 71 5 hm.2.2.2.2.2).1] at h9
  rw [er, (hf 71 45 hm.2.1).1, (hf 71 48 hm.2.2.1).1, (hf 71 2 hm.2.2.2.1).1, (hf 71 4 hm.2.2.2.2.1).1]
  exact h h9
theorem oqE8w_of (h : oqTx g p q c0 cs 2 s) (hW : (s.1 71 5).toInt = 0 → (s.1 71 47).toInt ≤ 0) (hw : (s.1 71 5).toInt = 0 → oqWi g (oqSk g (s.1 71 2).toInt) (s.1 71 4).toInt ≠ 7 ∧ oqWi g (oqSk g (s.1 71 2).toInt) (s.1 71 4).toInt ≠ 8) : oqE8w g p q c0 cs s := fun hb => by
  have e3 := n_nat (s.1 71 47)
  obtain ⟨q1, q3⟩ := h hb
  have hW' := hW hb
  have hw' := hw hb
  have ek : oqKt s = [] := by
    unfold oqKt
    rw [show (s.1 71 47).toNatClampNeg = 0 by omega]
    rfl
  rw [ek] at q1
  refine ⟨q1.tr (oqTw.one ?_), q3⟩
  rw [oqWs_2]
  exact (if_neg hw'.2).trans (if_neg hw'.1)
end WSIM
theorem oqSq_at {s : oS} {v : Int32} : oqSq s (pI s 71 2 v) := ⟨rfl, rfl, rfl, rfl, rfl⟩
theorem oqZ_rd {g : Int → Int} {t : oS} {i v : Int32} {a : Int} (h : oqZ g t) (e : t.1 72 i.toNatClampNeg = v) (hi : i.toInt = a) (h0 : 0 ≤ a) (hn : g a ≠ -1) : g a = v.toInt := by
  by_cases h1 : a < (t.1 71 3).toInt
  · exact oqZ_at h e a hi h0 h1
  · exact absurd (oqZ_no h (a := a) (by omega)) hn
theorem oqOc_v {g : Int → Int} {a : Int} : (g a = 42 → oqOc g a = 3) ∧ (g a = 47 → oqOc g a = 4) ∧ (g a = 43 → oqOc g a = 1) ∧ (g a = 45 → oqOc g a = 2) := by
  unfold oqOc
  refine ⟨fun h => ?_, fun h => ?_, fun h => ?_, fun h => ?_⟩
  · rw [if_neg (by omega), if_neg (by omega), if_pos h]
  · rw [if_neg (by omega), if_neg (by omega), if_neg (by omega)]
  · rw [if_pos h]
  · rw [if_neg (by omega), if_pos h]
theorem oqSc_v {g : Int → Int} {a : Int} : (g a = 60 → oqSc g a = 31) ∧ (g a = 62 → oqSc g a = 32) ∧ (g a = 61 → oqSc g a = 33) ∧ 31 ≤ oqSc g a ∧ oqSc g a ≤ 33 := by
  have h9 : 31 ≤ oqSc g a ∧ oqSc g a ≤ 33 := by
    unfold oqSc
    repeat' split
    all_goals omega
  refine ⟨fun h => ?_, fun h => ?_, fun h => ?_, h9⟩
  · unfold oqSc
    rw [if_pos h]
  · unfold oqSc
    rw [if_neg (by omega), if_pos h]
  · unfold oqSc
    rw [if_neg (by omega), if_neg (by omega)]
theorem oqGe_mu {g : Int → Int} {s : oS} (h : oqGe g s) : (s.1 71 5).toInt = 0 → ¬ oqMu g (oqSk g (s.1 71 2).toInt) := fun h9 => by
  obtain ⟨h1, h2⟩ := h h9
  rw [h2]
  exact oqMu_no ⟨h1.1, h1.2.1⟩
