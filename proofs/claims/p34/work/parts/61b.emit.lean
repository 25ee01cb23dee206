/-! what the class writes: its words for those of the machine -/
def oqTau (t : Int) : Int := if 1000 ≤ t then t - 1000 else if 40 ≤ t then t + 9960 else if t = 17 then 1 else if t = 16 then 10020 else if t = 15 then 10021 else if t = 14 then 10022 else if 11 ≤ t then t + 10012 else t + 10025
/-- the last ones ahead of n, the newest first -/
def oqOu (f : Nat → Int) : Nat → List Int → Prop
  | _, [] => True
  | n, t :: R => ∃ m, n = m + 1 ∧ f m = t ∧ oqOu f m R
theorem oqOu_cg {f h : Nat → Int} : ∀ {R : List Int} {n : Nat}, (∀ j, j < n → f j = h j) → oqOu f n R → oqOu h n R
  | [], _, _, _ => trivial
  | t :: R, n, e, ⟨m, h1, h2, h3⟩ => ⟨m, h1, by rw [← e m (by omega)]; exact h2, oqOu_cg (fun j hj => e j (by omega)) h3⟩
theorem oqOu_app {f : Nat → Int} : ∀ {R S : List Int} {n k : Nat}, oqOu f n R → n = k + R.length → oqOu f k S → oqOu f n (R ++ S)
  | [], S, n, k, _, e, h => by
    rw [show n = k from e]
    exact h
  | t :: R, S, n, k, ⟨m, h1, h2, h3⟩, e, h => ⟨m, h1, h2, oqOu_app (k := k) h3 (by rw [List.length_cons] at e; omega) h⟩
/-- a row L long becomes one L' long: w is written behind -/
def oqRl (L : Int) (F : Nat → Int32) (L' : Int) (F' : Nat → Int32) (w : List Int) : Prop := 0 ≤ L ∧ L' = L + (w.length : Int) ∧ oqOu (fun j => (F' j).toInt) L'.toNat (w.map oqTau) ∧ ∀ j : Nat, (j : Int) < L → F' j = F j
theorem oqRl_1 {L L' t : Int} {F F' : Nat → Int32} {v : Int32} (h : 0 ≤ L) (hv : v.toInt = oqTau t) (hL : L' = L + 1) (hF : F' = oU F L.toNat v) : oqRl L F L' F' [t] := by
  subst hF
  refine ⟨h, by show L' = L + (1 : Int); exact hL, ⟨L.toNat, by omega, ?_, trivial⟩, fun j hj => oU_ne (by omega)⟩
  show (oU F L.toNat v L.toNat).toInt = oqTau t
  rw [oU_self]
  exact hv
theorem oqRl_tr {L L1 L2 : Int} {F F1 F2 : Nat → Int32} {w w2 : List Int} (h1 : oqRl L F L1 F1 w) (h2 : oqRl L1 F1 L2 F2 w2) : oqRl L F L2 F2 (w2 ++ w) := by
  obtain ⟨a1, a2, a3, a4⟩ := h1
  obtain ⟨b1, b2, b3, b4⟩ := h2
  refine ⟨a1, by rw [List.length_append]; omega, ?_, fun j hj => ?_⟩
  · rw [List.map_append]
    refine oqOu_app b3 (k := L1.toNat) (by rw [List.length_map]; omega) (oqOu_cg (fun j hj => ?_) a3)
    show (F1 j).toInt = (F2 j).toInt
    rw [b4 j (by omega)]
  · rw [b4 j (by omega), a4 j hj]
/-- from here to there over what waits, and the row of the words -/
def oqEc (C : List Int → Prop) (g : Int → Int) (p q : Int) (m : Nat) (a b o : Int) (m' : Nat) (a' b' o' L : Int) (F : Nat → Int32) (L' : Int) (F' : Nat → Int32) : Prop := ∃ w, oqGww C g p q m a b o m' a' b' o' w ∧ oqRl L F L' F' w
/-- the row of the book at hand -/
def oqAn (c : Nat) (L : Int) (F : Nat → Int32) (t : oS) : Prop := okd c = 0 ∧ (t.1 c 1).toInt = L ∧ t.1 (c + 1) = F
theorem oqAn_fr {M : List (Nat × Nat)} {s u : oS} {c : Nat} {L : Int} {F : Nat → Int32} (hf : oFr M s u) (hm : (oin M 0 1 || oinK M 20) = false) (h : oqAn c L F s) : oqAn c L F u := by
  simp only [Bool.or_eq_false_iff] at hm
  obtain ⟨h1, h2, h3⟩ := h
  refine ⟨h1, ?_, ?_⟩
  · rw [(hf c 1 (by rw [h1]; exact hm.1)).1]; exact h2
  · rw [oFr_row hf (c := c + 1) (kr0_1 h1) hm.2]; exact h3
/-- the reader's book -/
def oqRw (c : Nat) (t : oS) : Prop := t.2.2 30 1 = c + 1
theorem oqRw_fr {M : List (Nat × Nat)} {s u : oS} {c : Nat} (hf : oFr M s u) (hm : oin M 5 1 = false) (h : oqRw c s) : oqRw c u := ((hf 30 1 hm).2.2).trans h
theorem oqRw_eq {c b : Nat} {t : oS} (h : oqRw c t) (hb : t.2.2 30 1 = b + 1) : b = c := by
  unfold oqRw at h
  omega
section EC
variable {g : Int → Int} {p q a b o : Int} {x y x2 y2 : Int} {L L1 L2 L3 : Int} {F F1 F2 F3 : Nat → Int32} {v : Int32}
theorem oqEc.cast {C : List Int → Prop} {m m' : Nat} {o' x' y' : Int} (h : oqEc C g p q m a b o m' x y o' L F L1 F1) (hx : x' = x) (hy : y' = y) : oqEc C g p q m a b o m' x' y' o' L F L1 F1 := by
  rw [hx, hy]; exact h
theorem oqEc.castS {C : List Int → Prop} {m m' : Nat} {o' x' y' : Int} (h : oqEc C g p q m a b o m' (oqSk g x) y o' L F L1 F1) (hx : x' = x) (hy : y' = y) : oqEc C g p q m a b o m' (oqSk g x') y' o' L F L1 F1 := by
  rw [hx, hy]; exact h
theorem oqe_par (h : g a = 40) (ho : o < 6) (hs : oqEc oqT1 g p q 1 (oqSk g (a + 1)) b (o + 1) 3 x y (o + 1) L F L1 F1) (hx : ¬ oqOp g x) : oqEc oqT0 g p q 1 a b o 3 (oqSk g (x + 1)) y o L F L1 F1 := by
  obtain ⟨w, h1, h2⟩ := hs
  exact ⟨w, oqw_par h ho h1 hx, h2⟩
theorem oqe_num (h : g a ≠ 40) (hj : ¬ (oqWi g a b = 24 ∨ oqWi g a b = 25)) (hr : ¬ (p ≤ oqWi g a b ∧ oqWi g a b < q)) (hk : oqNk g a b 0 9999 = 0) (h0 : 0 ≤ L) (hv : v.toInt = oqNv g a) (hv0 : 0 ≤ v.toInt) (hL : L1 = L + 1) (hF : F1 = oU F L.toNat v) : oqEc oqT0 g p q 1 a b o 3 (oqSk g (oqNa g a)) (oqNa g a) o L F L1 F1 := by
  refine ⟨_, oqw_num h hj hr hk, oqRl_1 h0 ?_ hL hF⟩
  unfold oqTau
  rw [if_pos (by omega)]
  omega
theorem oqe_wd {j : Nat} (h : g a ≠ 40) (hj : oqWi g a b = (j : Int)) (h24 : j < 24) (hr : p ≤ (j : Int) ∧ (j : Int) < q) (h0 : 0 ≤ L) (hv : v.toInt = 10000 + (j : Int) - p) (hp : 0 ≤ p) (hL : L1 = L + 1) (hF : F1 = oU F L.toNat v) : oqEc oqT0 g p q 1 a b o 3 (oqSk g (oqHa g a j)) (oqHa g a j) o L F L1 F1 := by
  refine ⟨_, oqw_wd h hj h24 hr, oqRl_1 h0 ?_ hL hF⟩
  unfold oqTau
  rw [if_neg (by omega), if_pos (by omega)]
  omega
/-- behind min or max, kd its word -/
def oqEcq (g : Int → Int) (p q a b o a' b' L : Int) (F : Nat → Int32) (L' : Int) (F' : Nat → Int32) (kd : Int) : Prop := o < 6 ∧ ∃ (x y x2 : Int) (w w2 : List Int), oqGww oqT1 g p q 1 (oqSk g (oqSk g a + 1)) b (o + 1) 3 x y (o + 1) w ∧ ¬ oqOp g x ∧ oqGww oqT1 g p q 1 (oqSk g (x + 1)) y (o + 1) 3 x2 b' (o + 1) w2 ∧ ¬ oqOp g x2 ∧ a' = oqSk g (x2 + 1) ∧ oqRl L F L' F' ((kd - 10025) :: (w2 ++ w))
theorem oqEcq.castS {kd x' y' : Int} (h : oqEcq g p q a b o (oqSk g x) y L F L1 F1 kd) (hx : x' = x) (hy : y' = y) : oqEcq g p q a b o (oqSk g x') y' L F L1 F1 kd := by
  rw [hx, hy]; exact h
theorem oqe_C (ho : o < 6) (hs : oqEc oqT1 g p q 1 (oqSk g (oqSk g a + 1)) b (o + 1) 3 x y (o + 1) L F L1 F1) (hx : ¬ oqOp g x) (h2 : oqEc oqT1 g p q 1 (oqSk g (x + 1)) y (o + 1) 3 x2 y2 (o + 1) L1 F1 L2 F2) (hx2 : ¬ oqOp g x2) (hk : v.toInt = 10030 ∨ v.toInt = 10031) (hL : L3 = L2 + 1) (hF : F3 = oU F2 L2.toNat v) : oqEcq g p q a b o (oqSk g (x2 + 1)) y2 L F L3 F3 v.toInt := by
  obtain ⟨w, h1, r1⟩ := hs
  obtain ⟨w2, z1, r2⟩ := h2
  have r3 := oqRl_tr r1 r2
  refine ⟨ho, x, y, x2, w, w2, h1, hx, z1, hx2, rfl, oqRl_tr r3 (oqRl_1 (t := v.toInt - 10025) (by have := r3.1; have := r3.2.1; omega) ?_ hL hF)⟩
  unfold oqTau
  rw [if_neg (by omega), if_neg (by omega), if_neg (by omega), if_neg (by omega), if_neg (by omega), if_neg (by omega), if_neg (by omega)]
  omega
theorem oqe_min {j : Nat} {kd : Int} (h : g a ≠ 40) (hj : oqWi g a b = (j : Int)) (hm : j = 24 ∨ j = 25) (hk : kd = 10006 + (j : Int)) (hc : oqEcq g p q (oqHa g a j) (oqHa g a j) o x y L F L1 F1 kd) : oqEc oqT0 g p q 1 a b o 3 x y o L F L1 F1 := by
  obtain ⟨ho, x1, y1, x3, w, w2, h1, h2, h3, h4, h5, h6⟩ := hc
  rw [show kd - 10025 = (j : Int) - 19 by omega] at h6
  rw [h5]
  exact ⟨_, oqw_min h hj hm ho h1 h2 h3 h4, h6⟩
theorem oqe_1 {C : List Int → Prop} {m m' : Nat} (h : oqEc oqT0 g p q m a b o m' x y o L F L1 F1) : oqEc C g p q m a b o m' x y o L F L1 F1 := by
  obtain ⟨w, h1, h2⟩ := h
  exact ⟨w, oqw_1 h1, h2⟩
theorem oqe_p (h : oqEc oqT3 g p q 1 a b o 3 x y o L F L1 F1) : oqEc oqT1 g p q 1 a b o 3 x y o L F L1 F1 := by
  obtain ⟨w, h1, h2⟩ := h
  exact ⟨w, oqw_p h1, h2⟩
theorem oqe_b (h : oqEc oqT4 g p q 0 a b o 2 x y o L F L1 F1) : oqEc oqT5 g p q 0 a b o 2 x y o L F L1 F1 := by
  obtain ⟨w, h1, h2⟩ := h
  exact ⟨w, oqw_b h1, h2⟩
theorem oqTau_o {a : Int} (h : oqOp g a) (hv : (g a = 43 ∧ v.toInt = 10026) ∨ (g a = 45 ∧ v.toInt = 10027) ∨ (g a = 42 ∧ v.toInt = 10028) ∨ (g a = 47 ∧ v.toInt = 10029)) : v.toInt = oqTau (oqOc g a) := by
  unfold oqOc
  rcases hv with ⟨e1, e2⟩ | ⟨e1, e2⟩ | ⟨e1, e2⟩ | ⟨e1, e2⟩
  · rw [if_pos e1, e2]; decide
  · rw [if_neg (by omega), if_pos e1, e2]; decide
  · rw [if_neg (by omega), if_neg (by omega), if_pos e1, e2]; decide
  · rw [if_neg (by omega), if_neg (by omega), if_neg (by omega), e2]; decide
theorem oqRl_e {t : Int} {w w2 : List Int} (r1 : oqRl L F L1 F1 w) (r2 : oqRl L1 F1 L2 F2 w2) (hv : v.toInt = oqTau t) (hL : L3 = L2 + 1) (hF : F3 = oU F2 L2.toNat v) : oqRl L F L3 F3 (t :: (w2 ++ w)) := by
  have r3 := oqRl_tr r1 r2
  exact oqRl_tr r3 (oqRl_1 (t := t) (by have := r3.1; have := r3.2.1; omega) hv hL hF)
theorem oqe_mu (H : oqEc oqT3 g p q 1 a b o 3 x y o L F L1 F1) (h : oqMu g x) (h2 : oqEc oqT0 g p q 1 (oqSk g (x + 1)) y o 3 x2 y2 o L1 F1 L2 F2) (hv : (g x = 42 ∧ v.toInt = 10028) ∨ (g x = 47 ∧ v.toInt = 10029)) (hL : L3 = L2 + 1) (hF : F3 = oU F2 L2.toNat v) : oqEc oqT3 g p q 1 a b o 3 x2 y2 o L F L3 F3 := by
  obtain ⟨w, h1, r1⟩ := H
  obtain ⟨w2, z1, r2⟩ := h2
  have hop : oqOp g x := by
    unfold oqMu at h
    unfold oqOp
    omega
  exact ⟨_, oqw_mu h1 h z1, oqRl_e r1 r2 (oqTau_o hop (by omega)) hL hF⟩
theorem oqe_ad (H : oqEc oqT1 g p q 1 a b o 3 x y o L F L1 F1) (h2 : oqEc oqT3 g p q 1 (oqSk g (x + 1)) y o 3 x2 y2 o L1 F1 L2 F2) (hx2 : g x2 ≠ 42 ∧ g x2 ≠ 47) (hv : (g x = 43 ∧ v.toInt = 10026) ∨ (g x = 45 ∧ v.toInt = 10027)) (hL : L3 = L2 + 1) (hF : F3 = oU F2 L2.toNat v) : oqEc oqT1 g p q 1 a b o 3 x2 y2 o L F L3 F3 := by
  obtain ⟨w, h1, r1⟩ := H
  obtain ⟨w2, z1, r2⟩ := h2
  have hop : oqOp g x := by
    unfold oqOp
    omega
  exact ⟨_, oqw_ad h1 hop (oqMu_no (by omega)) z1 (oqMu_no hx2), oqRl_e r1 r2 (oqTau_o hop (by omega)) hL hF⟩
theorem oqe_all (h : g a ≠ 91) (hj : oqWi g a b = 10) (h0 : 0 ≤ L) (hv : v.toInt = 1) (hL : L1 = L + 1) (hF : F1 = oU F L.toNat v) : oqEc oqT0 g p q 0 a b o 2 (oqSk g (oqHa g a 10)) (oqHa g a 10) o L F L1 F1 := ⟨_, oqw_all h hj, oqRl_1 h0 (by rw [hv]; decide) hL hF⟩
theorem oqe_not (h : g a ≠ 91) (hj : oqWi g a b = 9) (ho : o < 6) (hs : oqEc oqT0 g p q 0 (oqSk g (oqHa g a 9)) (oqHa g a 9) (o + 1) 2 x y (o + 1) L F L1 F1) (hv : v.toInt = 10020) (hL : L2 = L1 + 1) (hF : F2 = oU F1 L1.toNat v) : oqEc oqT0 g p q 0 a b o 2 x y o L F L2 F2 := by
  obtain ⟨w, h1, r1⟩ := hs
  exact ⟨_, oqw_not h hj ho h1, oqRl_tr r1 (oqRl_1 (t := 16) (by have := r1.1; have := r1.2.1; omega) (by rw [hv]; decide) hL hF)⟩
theorem oqe_sq (h : g a = 91) (ho : o < 6) (hs : oqEc oqT5 g p q 0 (oqSk g (a + 1)) b (o + 1) 2 x y (o + 1) L F L1 F1) (hw : oqWi g x y ≠ 7 ∧ oqWi g x y ≠ 8) : oqEc oqT0 g p q 0 a b o 2 (oqSk g (x + 1)) y o L F L1 F1 := by
  obtain ⟨w, h1, r1⟩ := hs
  exact ⟨w, oqw_sq h ho h1 hw, r1⟩
theorem oqe_sgn (h : g a ≠ 91) (h9 : oqWi g a b ≠ 9) (h10 : oqWi g a b ≠ 10) (hs : oqEc oqT1 g p q 1 a b o 3 x y o L F L1 F1) (hx : ¬ oqOp g x) (h2 : oqEc oqT1 g p q 1 (oqSk g (x + 1)) y o 3 x2 y2 o L1 F1 L2 F2) (hx2 : ¬ oqOp g x2) (hv : (g x = 60 ∧ v.toInt = 10023) ∨ (g x = 62 ∧ v.toInt = 10024) ∨ (g x = 61 ∧ v.toInt = 10025)) (hL : L3 = L2 + 1) (hF : F3 = oU F2 L2.toNat v) : oqEc oqT0 g p q 0 a b o 2 x2 y2 o L F L3 F3 := by
  obtain ⟨w, h1, r1⟩ := hs
  obtain ⟨w2, z1, r2⟩ := h2
  refine ⟨_, oqw_sgn h h9 h10 h1 hx z1 hx2, oqRl_e r1 r2 ?_ hL hF⟩
  unfold oqSc
  rcases hv with ⟨e1, e2⟩ | ⟨e1, e2⟩ | ⟨e1, e2⟩
  · rw [if_pos e1, e2]; decide
  · rw [if_neg (by omega), if_pos e1, e2]; decide
  · rw [if_neg (by omega), if_neg (by omega), e2]; decide
theorem oqe_and (H : oqEc oqT4 g p q 0 a b o 2 x y o L F L1 F1) (h : oqWi g x y = 8) (h2 : oqEc oqT0 g p q 0 (oqSk g (oqHa g x 8)) (oqHa g x 8) o 2 x2 y2 o L1 F1 L2 F2) (hv : v.toInt = 10022) (hL : L3 = L2 + 1) (hF : F3 = oU F2 L2.toNat v) : oqEc oqT4 g p q 0 a b o 2 x2 y2 o L F L3 F3 := by
  obtain ⟨w, h1, r1⟩ := H
  obtain ⟨w2, z1, r2⟩ := h2
  exact ⟨_, oqw_and h1 h z1, oqRl_e r1 r2 (by rw [hv]; decide) hL hF⟩
theorem oqe_or (H : oqEc oqT5 g p q 0 a b o 2 x y o L F L1 F1) (h : oqWi g x y = 7) (h2 : oqEc oqT4 g p q 0 (oqSk g (oqHa g x 7)) (oqHa g x 7) o 2 x2 y2 o L1 F1 L2 F2) (hx2 : oqWi g x2 y2 ≠ 8) (hv : v.toInt = 10021) (hL : L3 = L2 + 1) (hF : F3 = oU F2 L2.toNat v) : oqEc oqT5 g p q 0 a b o 2 x2 y2 o L F L3 F3 := by
  obtain ⟨w, h1, r1⟩ := H
  obtain ⟨w2, z1, r2⟩ := h2
  exact ⟨_, oqw_or h1 h z1 hx2, oqRl_e r1 r2 (by rw [hv]; decide) hL hF⟩
end EC
theorem oqEc.an {C : List Int → Prop} {g : Int → Int} {p q a b o a' b' o' L L1 : Int} {F F1 : Nat → Int32} {m m' c : Nat} {u : oS} (h : oqEc C g p q m a b o m' a' b' o' L F L1 F1) (hA : oqAn c L1 F1 u) : oqEc C g p q m a b o m' a' b' o' L F (u.1 c 1).toInt (u.1 (c + 1)) := by
  rw [hA.2.1, hA.2.2]
  exact h
theorem oqEcq.an {g : Int → Int} {p q a b o a' b' L L1 kd : Int} {F F1 : Nat → Int32} {c : Nat} {u : oS} (h : oqEcq g p q a b o a' b' L F L1 F1 kd) (hA : oqAn c L1 F1 u) : oqEcq g p q a b o a' b' L F (u.1 c 1).toInt (u.1 (c + 1)) kd := by
  rw [hA.2.1, hA.2.2]
  exact h
theorem oqEc.nw {C : List Int → Prop} {g : Int → Int} {p q a b o a' b' o' L L1 L2 : Int} {F F1 F2 : Nat → Int32} {m m' : Nat} (h : oqEc C g p q m a b o m' a' b' o' L F L1 F1) (hL : L2 = L1) (hF : F2 = F1) : oqEc C g p q m a b o m' a' b' o' L F L2 F2 := by
  rw [hL, hF]
  exact h
theorem oqEm_of {s : oS} {c : Nat} {i v2 a1 : Int32} {L : Int} {F : Nat → Int32} (h : oqAn c L F s) (hi : i.toInt = L) (hv : v2.toInt = L + 1) : ((pI (pI s (c + 1) i.toNatClampNeg a1) c 1 v2).1 c 1).toInt = L + 1 ∧ (pI (pI s (c + 1) i.toNatClampNeg a1) c 1 v2).1 (c + 1) = oU F L.toNat a1 := by
  have e := n_nat i
  refine ⟨by rw [pI_self]; exact hv, ?_⟩
  funext j
  rw [pI_ne _ v2 (Or.inl (by omega))]
  unfold oU
  by_cases hj : j = i.toNatClampNeg
  · rw [hj, pI_self, if_pos (by omega)]
  · rw [pI_ne s a1 (Or.inr hj), if_neg (by omega), h.2.2]
/-! a book that is not read just now: all that it holds -/
def oqKx (d : Nat) (G : Nat → Nat → Int32) (t : oS) : Prop := okd d = 0 ∧ t.2.2 30 1 ≠ d + 1 ∧ ∀ o : Nat, o < 5 → t.1 (d + o) = G o
theorem oqKx_kd {d o : Nat} (h : okd d = 0) (ho : o < 5) : okd (d + o) = 0 ∨ okd (d + o) = 20 ∨ okd (d + o) = 21 ∨ okd (d + o) = 22 ∨ okd (d + o) = 23 := by
  match o, ho with
  | 0, _ => exact Or.inl h
  | 1, _ => exact Or.inr (Or.inl (kr0_1 h))
  | 2, _ => exact Or.inr (Or.inr (Or.inl (kr0_2 h)))
  | 3, _ => exact Or.inr (Or.inr (Or.inr (Or.inl (kr0_3 h))))
  | 4, _ => exact Or.inr (Or.inr (Or.inr (Or.inr (kr0_4 h))))
  | o + 5, ho => exact absurd ho (by omega)
theorem oqKx_fr {M : List (Nat × Nat)} {s u : oS} {d : Nat} {G : Nat → Nat → Int32} (hf : oFr M s u) (hm : (oin M 5 1 || (oinK M 0 || (oinK M 20 || (oinK M 21 || (oinK M 22 || oinK M 23))))) = false) (h : oqKx d G s) : oqKx d G u := by
  simp only [Bool.or_eq_false_iff] at hm
  obtain ⟨h1, h2, h3⟩ := h
  refine ⟨h1, by rw [(hf 30 1 hm.1).2.2]; exact h2, fun o ho => ?_⟩
  rw [← h3 o ho]
  rcases oqKx_kd h1 ho with e | e | e | e | e
  · exact oFr_row hf e hm.2.1
  · exact oFr_row hf e hm.2.2.1
  · exact oFr_row hf e hm.2.2.2.1
  · exact oFr_row hf e hm.2.2.2.2.1
  · exact oFr_row hf e hm.2.2.2.2.2
theorem oqKx_ne {s : oS} {d b : Nat} {G : Nat → Nat → Int32} (h : oqKx d G s) (hb : s.2.2 30 1 = b + 1) : b ≠ d := fun e => h.2.1 (by rw [hb, e])
/-- another book's slot, another book's row -/
theorem oqKx_p0 {s : oS} {c d k : Nat} {v : Int32} {G : Nat → Nat → Int32} (h : oqKx d G s) (hk : okd c = 0) (hne : c ≠ d) : oqKx d G (pI s c k v) := by
  obtain ⟨h1, h2, h3⟩ := h
  refine ⟨h1, h2, fun o ho => ?_⟩
  rw [← h3 o ho]
  funext j
  refine pI_ne s v (Or.inl (fun e => ?_))
  match o, ho with
  | 0, _ => exact hne (by omega)
  | 1, _ => exact okd_ne (kr0_1 h1) hk (by decide) e
  | 2, _ => exact okd_ne (kr0_2 h1) hk (by decide) e
  | 3, _ => exact okd_ne (kr0_3 h1) hk (by decide) e
  | 4, _ => exact okd_ne (kr0_4 h1) hk (by decide) e
  | o + 5, ho => exact absurd ho (by omega)
theorem oqKx_pr {s : oS} {c d i k : Nat} {v : Int32} {G : Nat → Nat → Int32} (h : oqKx d G s) (hk : okd c = 0) (hne : c ≠ d) (hi : 1 ≤ i ∧ i ≤ 4) : oqKx d G (pI s (c + i) k v) := by
  obtain ⟨h1, h2, h3⟩ := h
  have hci : okd (c + i) = 19 + i := by
    match i, hi with
    | 1, _ => exact kr0_1 hk
    | 2, _ => exact kr0_2 hk
    | 3, _ => exact kr0_3 hk
    | 4, _ => exact kr0_4 hk
    | 0, hi => exact absurd hi.1 (by omega)
    | i + 5, hi => exact absurd hi.2 (by omega)
  refine ⟨h1, h2, fun o ho => ?_⟩
  rw [← h3 o ho]
  funext j
  refine pI_ne s v (Or.inl (fun e => ?_))
  match o, ho with
  | 0, _ => exact okd_ne h1 hci (by omega) e
  | 1, _ => exact (fun q : okd (d + 1) = 20 => by have e2 : okd (d + 1) = 19 + i := by rw [e]; exact hci
                                                  have : i = 1 := by omega
                                                  exact hne (by omega)) (kr0_1 h1)
  | 2, _ => exact (fun q : okd (d + 2) = 21 => by have e2 : okd (d + 2) = 19 + i := by rw [e]; exact hci
                                                  have : i = 2 := by omega
                                                  exact hne (by omega)) (kr0_2 h1)
  | 3, _ => exact (fun q : okd (d + 3) = 22 => by have e2 : okd (d + 3) = 19 + i := by rw [e]; exact hci
                                                  have : i = 3 := by omega
                                                  exact hne (by omega)) (kr0_3 h1)
  | 4, _ => exact (fun q : okd (d + 4) = 23 => by have e2 : okd (d + 4) = 19 + i := by rw [e]; exact hci
                                                  have : i = 4 := by omega
                                                  exact hne (by omega)) (kr0_4 h1)
  | o + 5, ho => exact absurd ho (by omega)
theorem oqKx_em {s : oS} {c d k : Nat} {v w : Int32} {G : Nat → Nat → Int32} (h : oqKx d G s) (hk : okd c = 0) (hne : c ≠ d) : oqKx d G (pI (pI s (c + 1) k v) c 1 w) := oqKx_p0 (oqKx_pr h hk hne (by decide)) hk hne
theorem oqEc.le {C : List Int → Prop} {g : Int → Int} {p q : Int} {m : Nat} {a b o : Int} {m' : Nat} {a' b' o' L : Int} {F : Nat → Int32} {L' : Int} {F' : Nat → Int32} (h : oqEc C g p q m a b o m' a' b' o' L F L' F') : 0 ≤ L ∧ L ≤ L' := by
  obtain ⟨w, h1, h2, h3, h4⟩ := h
  exact ⟨h2, by omega⟩
theorem oqEcq.le {g : Int → Int} {p q a b o a' b' L : Int} {F : Nat → Int32} {L' : Int} {F' : Nat → Int32} {kd : Int} (h : oqEcq g p q a b o a' b' L F L' F' kd) : 0 ≤ L ∧ L ≤ L' := by
  obtain ⟨h1, x, y, x2, w, w2, z1, z2, z3, z4, z5, z6, z7, z8⟩ := h
  exact ⟨z6, by omega⟩
