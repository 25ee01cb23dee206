/-! the words of a rule, the measure: by the text -/
def owEn (g : Int → Int) (p q t : Int) (w : List Int) : Prop := ∃ x y o, oqTw g p q (0, oqSk g t, t, 0, [], []) (8, x, y, o, [], w)
theorem owEn_det {g : Int → Int} {p q t : Int} {w w' : List Int} (h : owEn g p q t w) (h' : owEn g p q t w') : w = w' := by
  obtain ⟨x, y, o, h⟩ := h
  obtain ⟨x', y', o', h'⟩ := h'
  have e := h.det h' (by show 4 ≤ 8; decide) (by show 4 ≤ 8; decide)
  injection e with e1 e2
  injection e2 with e3 e4
  injection e4 with e5 e6
  injection e6 with e7 e8
  injection e8 with e9 e10
theorem owEn_ty {g : Int → Int} {p q t : Int} {w : List Int} (hq : q ≤ p + 8) (h : owEn g p q t w) : oqTs 24 w = some [true] ∧ oqOkR w := by
  obtain ⟨x, y, o, n, e⟩ := h
  have h9 := oqIw_t (g := g) hq n (c := (0, oqSk g t, t, 0, [], [])) (oqIw_mk (S := []) (by decide) (fun _ => trivial) (fun z => by omega) rfl (by decide) rfl rfl (fun t ht => by cases ht))
  rw [e] at h9
  rcases h9 with h9 | ⟨h9, -⟩ | ⟨-, h9, h8⟩
  · exact absurd h9 (by show ¬ (9 ≤ 8); decide)
  · exact absurd h9 (by show ¬ (8 ≤ 3); decide)
  · exact ⟨h9, h8⟩
noncomputable def owWt (g : Int → Int) (v : Int) : List Int := @dite _ (∃ w, owEn g 11 19 (oqHa g v 6) w) (Classical.propDecidable _) (fun h => Classical.choose h) (fun _ => [])
theorem owWt_e {g : Int → Int} {v : Int} {w : List Int} (h : owEn g 11 19 (oqHa g v 6) w) : owWt g v = w := by
  have hx : ∃ w, owEn g 11 19 (oqHa g v 6) w := ⟨w, h⟩
  unfold owWt
  rw [dif_pos hx]
  exact owEn_det (Classical.choose_spec hx) h
def owUw (W : Nat → List Int) (R : Int) (w : List Int) (k : Nat) : List Int := if (k : Int) = R then w else W k
theorem owUw_y {W : Nat → List Int} {R : Int} {w : List Int} {k : Nat} (h : (k : Int) = R) : owUw W R w k = w := if_pos h
theorem owUw_n {W : Nat → List Int} {R : Int} {w : List Int} {k : Nat} (h : (k : Int) ≠ R) : owUw W R w k = W k := if_neg h
noncomputable def owWk (g : Int → Int) (a b R : Int) (W : Nat → List Int) : Nat → List Int := if oqWi g a b = 4 then owUw W R (owWt g (oqBh g a b)) else W
noncomputable def owMf (g : Int → Int) (a b me : Int) : Int := if oqWi g a b = 3 then oqNv g (oqBh g a b) else me
theorem owWk_4 {g : Int → Int} {a b R : Int} {W : Nat → List Int} (h : oqWi g a b = 4) : owWk g a b R W = owUw W R (owWt g (oqBh g a b)) := if_pos h
theorem owWk_n {g : Int → Int} {a b R : Int} {W : Nat → List Int} (h : oqWi g a b ≠ 4) : owWk g a b R W = W := if_neg h
theorem owMf_3 {g : Int → Int} {a b me : Int} (h : oqWi g a b = 3) : owMf g a b me = oqNv g (oqBh g a b) := if_pos h
theorem owMf_n {g : Int → Int} {a b me : Int} (h : oqWi g a b ≠ 3) : owMf g a b me = me := if_neg h
/-- along the book -/
noncomputable def owBs (g : Int → Int) : Nat → Int → Int → Int → Int → (Nat → Nat → Int) → Int → Int → (Nat → List Int) → Int × (Nat → List Int)
  | 0, _, _, _, _, _, _, me, W => (me, W)
  | k + 1, a, b, R, M, N, n, me, W => if g (oqSk g a) = -1 then (me, W) else owBs g k (oqBa g (oqSk g a) b) (oqBb g (oqSk g a) b) (oqBR g (oqSk g a) b R) (oqBM g (oqSk g a) b M) (oqBN g (oqSk g a) b N M) (n + 1) (owMf g (oqSk g a) b me) (owWk g (oqSk g a) b R W)
noncomputable def owBz (g : Int → Int) : Int × (Nat → List Int) := owBs g 61 0 (-1) 0 0 (fun _ _ => 0) 0 4 (fun _ => [])
noncomputable def owB6 (g : Int → Int) : Int := (owBz g).1
noncomputable def owB7 (g : Int → Int) : Nat → List Int := (owBz g).2
def owBu (g : Int → Int) (a b R M : Int) (N : Nat → Nat → Int) (n me : Int) (W : Nat → List Int) : Prop := 0 ≤ n ∧ n ≤ 60 ∧ owBz g = owBs g (61 - n).toNat a b R M N n me W
section OWB
variable {g : Int → Int} {a b R M n me : Int} {N : Nat → Nat → Int} {W : Nat → List Int}
theorem owBu_0 (ha : a = 0) (hb : b = -1) (hn : n = 0) : owBu g a b 0 0 (fun _ _ => 0) n 4 (fun _ => []) := by
  subst ha hb hn
  exact ⟨by omega, by omega, rfl⟩
theorem owBu_nx {a' b' n' : Int} (H : owBu g a b R M N n me W) (h1 : g (oqSk g a) ≠ -1) (h2 : n < 60) (ha : a' = oqBa g (oqSk g a) b) (hb : b' = oqBb g (oqSk g a) b) (hn : n' = n + 1) : owBu g a' b' (oqBR g (oqSk g a) b R) (oqBM g (oqSk g a) b M) (oqBN g (oqSk g a) b N M) n' (owMf g (oqSk g a) b me) (owWk g (oqSk g a) b R W) := by
  obtain ⟨h0, h3, h⟩ := H
  subst ha hb hn
  refine ⟨by omega, by omega, ?_⟩
  rw [h, show (61 - n).toNat = (60 - n).toNat + 1 by omega, show (61 - (n + 1)).toNat = (60 - n).toNat by omega]
  exact if_neg h1
theorem owBu_end (H : owBu g a b R M N n me W) (h1 : g (oqSk g a) = -1) : owB6 g = me ∧ owB7 g = W := by
  obtain ⟨h0, h3, h⟩ := H
  rw [show (61 - n).toNat = (60 - n).toNat + 1 by omega] at h
  have e : owBz g = (me, W) := h.trans (if_pos h1)
  unfold owB6 owB7
  rw [e]
  exact ⟨rfl, rfl⟩
theorem oqWe_ge : a ≤ oqWe g a := oqWeF_ge 1601 a
end OWB
/-! the class's book while it is read -/
def owCB (bc : Nat) (R : Int) (W : Nat → List Int) (t : oS) : Prop := okd bc = 0 ∧ t.2.2 30 1 = bc + 1 ∧ (t.1 bc 7).toInt = R ∧ ∀ k : Nat, (k : Int) < R → oqTst bc k (W k) t ∧ (t.1 (bc + 3) k).toInt ≤ (t.1 bc 1).toInt
theorem owCB_fr {M : List (Nat × Nat)} {s u : oS} {b : Nat} {R : Int} {W : Nat → List Int} (hf : oFr M s u) (hm : ((oin M 5 1 || (oin M 0 7 || oin M 0 1)) || (oinK M 20 || (oinK M 21 || oinK M 22))) = false) (h : owCB b R W s) : owCB b R W u := by
  rw [Bool.or_eq_false_iff] at hm
  obtain ⟨hm1, hm2⟩ := hm
  have hm3 := hm2
  simp only [Bool.or_eq_false_iff] at hm1 hm3
  obtain ⟨h1, h2, h3, h4⟩ := h
  refine ⟨h1, ((hf 30 1 hm1.1).2.2).trans h2, ?_, fun k hk => ⟨oqTst_fr hf hm2 (h4 k hk).1, ?_⟩⟩
  · rw [(hf b 7 (by rw [h1]; exact hm1.2.1)).1]; exact h3
  · rw [oFr_row hf (kr0_3 h1) hm3.2.2, (hf b 1 (by rw [h1]; exact hm1.2.2)).1]; exact (h4 k hk).2
/-- behind a test: words more -/
theorem owCB_ts {M : List (Nat × Nat)} {s u : oS} {b : Nat} {R L L' : Int} {W : Nat → List Int} {F F' : Nat → Int32} {w : List Int} (h : owCB b R W s) (hf : oFr M s u) (hm : ((oin M 5 1 || oin M 0 7) || (oinK M 21 || oinK M 22)) = false) (hs : oqAn b L F s) (hu : oqAn b L' F' u) (hr : oqRl L F L' F' w) : owCB b R W u := by
  simp only [Bool.or_eq_false_iff] at hm
  obtain ⟨⟨m1, m2⟩, m3, m4⟩ := hm
  obtain ⟨h1, h2, h3, h4⟩ := h
  obtain ⟨r1, r2, r3, r4⟩ := hr
  obtain ⟨-, s1, s2⟩ := hs
  obtain ⟨-, u1, u2⟩ := hu
  have e2 := oFr_row hf (kr0_2 h1) m3
  have e3 := oFr_row hf (kr0_3 h1) m4
  refine ⟨h1, ((hf 30 1 m1).2.2).trans h2, ?_, fun k hk => ?_⟩
  · rw [(hf b 7 (by rw [h1]; exact m2)).1]; exact h3
  · obtain ⟨⟨q1, q2, q3, st, q4, q5, q6, q7⟩, q8⟩ := h4 k hk
    rw [e3]
    refine ⟨⟨q1, q2, q3, st, by rw [e2]; exact q4, by rw [e3]; exact q5, q6, oqOu_cg (fun j hj => ?_) q7⟩, by omega⟩
    show (s.1 (b + 1) j).toInt = (u.1 (b + 1) j).toInt
    rw [s2, u2, r4 j (by omega)]
/-- closed: one rule more -/
def owCl (c : Nat) (a1 a2 : Int32) (s u : oS) : Prop := ∃ i : Nat, (i : Int) = (if a1.toInt = 0 then (s.1 c 7).toInt else 12 + (s.1 c 8).toInt) ∧ u.1 (c + 2) = oU (s.1 (c + 2)) i a2 ∧ u.1 (c + 3) = oU (s.1 (c + 3)) i (s.1 c 1)
theorem owCB_c0 {M : List (Nat × Nat)} {s u : oS} {b : Nat} {R L L' : Int} {W : Nat → List Int} {F F' : Nat → Int32} {w : List Int} {a1 a2 : Int32} (h : owCB b R W s) (hf : oFr M s u) (hm : ((oin M 5 1 || oin M 0 1) || oinK M 20) = false) (hc : owCl b a1 a2 s u) (ha : a1.toInt = 0) (h7 : (u.1 b 7).toInt = R + 1) (ht : oqTs 24 w = some [true] ∧ oqOkR w) (hs : oqAn b L' F' s) (hr : oqRl L F L' F' w) (h2 : a2.toInt = L) (h16 : L' ≤ 1600) : owCB b (R + 1) (owUw W R w) u := by
  simp only [Bool.or_eq_false_iff] at hm
  obtain ⟨⟨m1, m2⟩, m3⟩ := hm
  obtain ⟨h1, h2', h3, h4⟩ := h
  obtain ⟨i, c1, c2, c3⟩ := hc
  rw [if_pos ha, h3] at c1
  obtain ⟨r1, r2, r3, r4⟩ := hr
  obtain ⟨-, s1, s2⟩ := hs
  have e1 := oFr_row hf (kr0_1 h1) m3
  have el : u.1 b 1 = s.1 b 1 := (hf b 1 (by rw [h1]; exact m2)).1
  refine ⟨h1, ((hf 30 1 m1).2.2).trans h2', h7, fun k hk => ?_⟩
  by_cases e : (k : Int) = R
  · rw [owUw_y e]
    have ek : k = i := by omega
    have x2 : u.1 (b + 2) k = a2 := by rw [c2, ek]; exact if_pos rfl
    have x3 : u.1 (b + 3) k = s.1 b 1 := by rw [c3, ek]; exact if_pos rfl
    rw [x3, el]
    refine ⟨⟨h1, ht.1, ht.2, L.toNat, by rw [x2]; omega, by rw [x3]; omega, by omega, ?_⟩, Int.le_refl _⟩
    rw [e1, s2, show L.toNat + w.length = L'.toNat by omega]
    exact r3
  · rw [owUw_n e]
    obtain ⟨⟨q1, q2, q3, st, q4, q5, q6, q7⟩, q8⟩ := h4 k (by omega)
    have x2 : u.1 (b + 2) k = s.1 (b + 2) k := by rw [c2]; exact if_neg (by omega)
    have x3 : u.1 (b + 3) k = s.1 (b + 3) k := by rw [c3]; exact if_neg (by omega)
    rw [x3, el]
    exact ⟨⟨q1, q2, q3, st, by rw [x2]; exact q4, by rw [x3]; exact q5, q6, by rw [e1]; exact q7⟩, q8⟩
theorem owCB_c1 {M : List (Nat × Nat)} {s u : oS} {b : Nat} {R : Int} {W : Nat → List Int} {a1 a2 : Int32} (h : owCB b R W s) (hf : oFr M s u) (hm : ((oin M 5 1 || oin M 0 1) || oinK M 20) = false) (hc : owCl b a1 a2 s u) (ha : a1.toInt ≠ 0) (h7 : (u.1 b 7).toInt = R) (h12 : R ≤ 12) (h8 : 0 ≤ (s.1 b 8).toInt) : owCB b R W u := by
  simp only [Bool.or_eq_false_iff] at hm
  obtain ⟨⟨m1, m2⟩, m3⟩ := hm
  obtain ⟨h1, h2', h3, h4⟩ := h
  obtain ⟨i, c1, c2, c3⟩ := hc
  rw [if_neg ha] at c1
  have e1 := oFr_row hf (kr0_1 h1) m3
  have el : u.1 b 1 = s.1 b 1 := (hf b 1 (by rw [h1]; exact m2)).1
  refine ⟨h1, ((hf 30 1 m1).2.2).trans h2', h7, fun k hk => ?_⟩
  obtain ⟨⟨q1, q2, q3, st, q4, q5, q6, q7⟩, q8⟩ := h4 k hk
  have x2 : u.1 (b + 2) k = s.1 (b + 2) k := by rw [c2]; exact if_neg (by omega)
  have x3 : u.1 (b + 3) k = s.1 (b + 3) k := by rw [c3]; exact if_neg (by omega)
  rw [x3, el]
  exact ⟨⟨q1, q2, q3, st, by rw [x2]; exact q4, by rw [x3]; exact q5, q6, by rw [e1]; exact q7⟩, q8⟩
theorem owCl_of {s : oS} {c : Nat} {i a1 a2 l v w : Int32} (hi : i.toInt = if a1.toInt = 0 then (s.1 c 7).toInt else 12 + (s.1 c 8).toInt) (h0 : 0 ≤ i.toInt) (hl : s.1 c 1 = l) (hc : okd c = 0) : owCl c a1 a2 s (pI (pI (pI (pI s (c + 2) i.toNatClampNeg a2) (c + 3) i.toNatClampNeg l) c 8 v) c 7 w) := by
  have hn := n_nat i
  refine ⟨i.toNatClampNeg, by omega, ?_, ?_⟩
  · rw [oqRow_ne (by omega), oqRow_ne (by omega), oqRow_ne (by omega)]
    exact oqRow_pu
  · rw [oqRow_ne (by omega), oqRow_ne (by omega), oqRow_pu, oqRow_ne (by omega), hl]
/-- the step to the end -/
theorem owEn_of {g : Int → Int} {p q t x y : Int} {w : List Int} (h : oqGww oqT5 g p q 0 (oqSk g t) t 0 2 x y 0 w) (hw : oqWi g x y ≠ 7 ∧ oqWi g x y ≠ 8) : owEn g p q t w := by
  have h1 := h [] [] oqT5_0
  rw [List.append_nil] at h1
  refine ⟨x, y, 0, h1.tr (oqTw.one ?_)⟩
  rw [oqWs_2]
  exact (if_neg hw.2).trans (if_neg hw.1)
/-- the measure of the book at hand -/
def owBM (b : Nat) (me : Int) (t : oS) : Prop := okd b = 0 ∧ t.2.2 30 1 = b + 1 ∧ (t.1 b 6).toInt = me
theorem owBM_fr {M : List (Nat × Nat)} {s u : oS} {b : Nat} {me : Int} (hf : oFr M s u) (hm : (oin M 5 1 || oin M 0 6) = false) (h : owBM b me s) : owBM b me u := by
  simp only [Bool.or_eq_false_iff] at hm
  exact ⟨h.1, ((hf 30 1 hm.1).2.2).trans h.2.1, by rw [(hf b 6 (by rw [h.1]; exact hm.2)).1]; exact h.2.2⟩
theorem owBM_of {s : oS} {b c : Nat} {v : Int32} {me : Int} (hb : c = b) (hk : okd c = 0) (hr : s.2.2 30 1 = c + 1) (hv : v.toInt = me) : owBM b me (pI s c 6 v) := by
  subst hb
  exact ⟨hk, hr, by rw [pI_self]; exact hv⟩
/-- a book that is kept: its rows -/
def owK5 (d : Nat) (G : Nat → Nat → Int32) (t : oS) : Prop := okd d = 0 ∧ ∀ o : Nat, o < 5 → t.1 (d + o) = G o
theorem owK5_fr {M : List (Nat × Nat)} {s u : oS} {d : Nat} {G : Nat → Nat → Int32} (hf : oFr M s u) (hm : (oinK M 0 || (oinK M 20 || (oinK M 21 || (oinK M 22 || oinK M 23)))) = false) (h : owK5 d G s) : owK5 d G u := by
  simp only [Bool.or_eq_false_iff] at hm
  obtain ⟨h1, h3⟩ := h
  refine ⟨h1, fun o ho => ?_⟩
  rw [← h3 o ho]
  rcases oqKx_kd h1 ho with e | e | e | e | e
  · exact oFr_row hf e hm.1
  · exact oFr_row hf e hm.2.1
  · exact oFr_row hf e hm.2.2.1
  · exact oFr_row hf e hm.2.2.2.1
  · exact oFr_row hf e hm.2.2.2.2
theorem owK5_mk {s u : oS} {c d : Nat} {G : Nat → Nat → Int32} (h : owK5 d G s) (hu : u = pR s 30 1 (c + 1)) (hc : c ≠ d) : oqKx d G u := by
  subst hu
  refine ⟨h.1, ?_, h.2⟩
  rw [pR_self]
  omega
/-- so far along the book -/
def owCS (g : Int → Int) (bc : Nat) (n : Int) (t : oS) : Prop := ∃ R M N me W, oqNl N R M M t ∧ oqBu g (t.1 30 2).toInt (t.1 30 3).toInt R M N n ∧ (0 ≤ R ∧ R ≤ 12 ∧ 0 ≤ M ∧ M ≤ 6) ∧ owBu g (t.1 30 2).toInt (t.1 30 3).toInt R M N n me W ∧ owCB bc R W t ∧ owBM bc me t
theorem owCB_0 {t : oS} {bc : Nat} {R : Int} {W : Nat → List Int} (hk : okd bc = 0) (hr : t.2.2 30 1 = bc + 1) (h7 : (t.1 bc 7).toInt = 0) (hR : R = 0) : owCB bc R W t := ⟨hk, hr, by omega, fun k hk => by omega⟩
/-- the book of the calls -/
def owBD (b d : Nat) (t : oS) : Prop := t.2.2 0 4 = b + 1 ∧ t.2.2 0 5 = d + 1 ∧ okd b = 0 ∧ okd d = 0 ∧ b ≠ d
theorem owBD_fr {M : List (Nat × Nat)} {s u : oS} {b d : Nat} (hf : oFr M s u) (hm : (oin M 11 4 || oin M 11 5) = false) (h : owBD b d s) : owBD b d u := by
  simp only [Bool.or_eq_false_iff] at hm
  exact ⟨((hf 0 4 hm.1).2.2).trans h.1, ((hf 0 5 hm.2).2.2).trans h.2.1, h.2.2⟩
/-- all that is known of the class's book -/
def owBX (R : Int) (W : Nat → List Int) (me : Int) (t : oS) : Prop := ∃ b d, owBD b d t ∧ owBC b R W t ∧ owME b me t ∧ owKV R W t
theorem owBX_fr {M : List (Nat × Nat)} {s u : oS} {R me : Int} {W : Nat → List Int} (hf : oFr M s u) (hm : (((oin M 11 4 || oin M 11 5) || oin M 0 6) || (((oin M 2 3 || oin M 0 7) || (oinK M 20 || (oinK M 21 || oinK M 22))) || (oinK M 25 || oinK M 26))) = false) (h : owBX R W me s) : owBX R W me u := by
  rw [Bool.or_eq_false_iff] at hm
  obtain ⟨hm1, hm2⟩ := hm
  rw [Bool.or_eq_false_iff] at hm1 hm2
  obtain ⟨b, d, h1, h2, h3, h4⟩ := h
  exact ⟨b, d, owBD_fr hf hm1.1 h1, owBC_fr hf hm2.1 h2, owME_fr hf hm1.2 h3, owKV_fr hf hm2.2 h4⟩
noncomputable def owRb (g : Int → Int) (R : Int) : Int := if oqB1 g = -1 then R else oqB4 g
noncomputable def owWb (g : Int → Int) (W : Nat → List Int) : Nat → List Int := if oqB1 g = -1 then W else owB7 g
noncomputable def owMb (g : Int → Int) (me : Int) : Int := if oqB1 g = -1 then me else owB6 g
/-- no new book: the old one stands -/
theorem owBX_no {t : oS} {g : Int → Int} {b d : Nat} {R me : Int} {W : Nat → List Int} {G : Nat → Nat → Int32} {s : oS} (hd : owBD b d t) (hk : oqKx b G t) (hG : ∀ o : Nat, o < 5 → s.1 (b + o) = G o) (hb : owBC b R W s) (hj : t.2.2 31 3 = s.2.2 31 3) (hme : (s.1 b 6).toInt = me) (hv : owKV R W t) (h1 : oqB1 g = -1) : owBX (owRb g R) (owWb g W) (owMb g me) t := by
  have e1 : owRb g R = R := if_pos h1
  have e2 : owWb g W = W := if_pos h1
  have e3 : owMb g me = me := if_pos h1
  rw [e1, e2, e3]
  have r0 : t.1 b = s.1 b := (hk.2.2 0 (by decide)).trans (hG 0 (by decide)).symm
  have r1 : t.1 (b + 1) = s.1 (b + 1) := (hk.2.2 1 (by decide)).trans (hG 1 (by decide)).symm
  have r2 : t.1 (b + 2) = s.1 (b + 2) := (hk.2.2 2 (by decide)).trans (hG 2 (by decide)).symm
  have r3 : t.1 (b + 3) = s.1 (b + 3) := (hk.2.2 3 (by decide)).trans (hG 3 (by decide)).symm
  refine ⟨b, d, hd, ⟨hb.1, hj.trans hb.2.1, by rw [r0]; exact hb.2.2.1, fun k hk2 => ?_⟩, ⟨hk.1, by rw [r0]; exact hme⟩, hv⟩
  obtain ⟨q0, q1, q2, st, q3, q4, q5, q6⟩ := hb.2.2.2 k hk2
  exact ⟨q0, q1, q2, st, by rw [r2]; exact q3, by rw [r3]; exact q4, q5, by rw [r1]; exact q6⟩
/-- the draft is the new one -/
theorem owBX_new {t : oS} {g : Int → Int} {b d : Nat} {R R' me me' : Int} {W W' : Nat → List Int} (hd : owBD d b t) (hc : owCB d R' W' t) (hm : owBM d me' t) (hj : t.2.2 31 3 = d + 1) (h0 : owK0 t) (h1 : oqB1 g ≠ -1) (eR : R' = oqB4 g) (eW : W' = owB7 g) (em : me' = owB6 g) : owBX (owRb g R) (owWb g W) (owMb g me) t := by
  have e1 : owRb g R = oqB4 g := if_neg h1
  have e2 : owWb g W = owB7 g := if_neg h1
  have e3 : owMb g me = owB6 g := if_neg h1
  rw [e1, e2, e3, ← eR, ← eW, ← em]
  exact ⟨d, b, hd, ⟨hc.1, hj, hc.2.2.1, fun k hk => (hc.2.2.2 k hk).1⟩, ⟨hm.1, hm.2.2⟩, owKV_cl h0⟩
theorem owCS_0 {g : Int → Int} {t : oS} {bc : Nat} {n : Int} (hr : t.2.2 30 1 = bc + 1) (hk : okd bc = 0) (h7 : (t.1 bc 7).toInt = 0) (h8 : (t.1 bc 8).toInt = 0) (ha : (t.1 30 2).toInt = 0) (hb : (t.1 30 3).toInt = -1) (hn : n = 0) (h6 : (t.1 bc 6).toInt = 4) : owCS g bc n t :=
  ⟨0, 0, fun _ _ => 0, 4, fun _ => [], ⟨bc, hr, hk, h7, h8, fun m hm => by omega⟩, oqBu_0 ha hb hn, by omega, owBu_0 ha hb hn, owCB_0 hk hr h7 rfl, hk, hr, h6⟩
theorem owCS_nx {g : Int → Int} {u : oS} {bc : Nat} {a b R M n n' me : Int} {N : Nat → Nat → Int} {W : Nat → List Int} (hBu : oqBu g a b R M N n) (hBv : owBu g a b R M N n me W) (h1 : g (oqSk g a) ≠ -1) (h2 : n < 60) (hk : oqBk g (oqSk g a) b R M N = 0) (hRM : 0 ≤ R ∧ R ≤ 12 ∧ 0 ≤ M ∧ M ≤ 6) (hNl : oqNl (oqBN g (oqSk g a) b N M) (oqBR g (oqSk g a) b R) (oqBM g (oqSk g a) b M) (oqBM g (oqSk g a) b M) u) (hCB : owCB bc (oqBR g (oqSk g a) b R) (owWk g (oqSk g a) b R W) u) (hBM : owBM bc (owMf g (oqSk g a) b me) u) (ha : (u.1 30 2).toInt = oqBa g (oqSk g a) b) (hb : (u.1 30 3).toInt = oqBb g (oqSk g a) b) (hn : n' = n + 1) : owCS g bc n' u :=
  ⟨_, _, _, _, _, hNl, oqBu_nx hBu h1 h2 hk ha hb hn, oqBk_rg hk hRM, owBu_nx hBv h1 h2 ha hb hn, hCB, hBM⟩
theorem owBD_sw {s : oS} {b d x y : Nat} (h : owBD b d s) (h4 : s.2.2 0 4 = x + 1) (h5 : s.2.2 0 5 = y + 1) : owBD d b (pR (pR s 0 4 (y + 1)) 0 5 (x + 1)) := by
  obtain ⟨h1, h2, h3, h6, h7⟩ := h
  refine ⟨?_, ?_, h6, h3, fun e => h7 e.symm⟩
  · rw [pR_ne _ _ (Or.inr (by decide)), pR_self]
    omega
  · rw [pR_self]
    omega
theorem owK0_fr {M : List (Nat × Nat)} {s u : oS} (hf : oFr M s u) (hm : oinK M 25 = false) (h : owK0 s) : owK0 u := fun i hi => by
  rw [(hf 32 i (oinK_in hm _)).1]
  exact h i hi
