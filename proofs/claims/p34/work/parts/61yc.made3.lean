/-! the class hears a made line -/
section ML
variable {s u u1 u2 : oS} {lc vc : Nat} {n c me : Int} {st : Nat → Int}
theorem owSt_m (hA : owMA lc n s) (hS : owMS lc n st s) (k : Int) : owSt s lc k = if 0 ≤ k ∧ k < n then st k.toNat else -1 := by
  unfold owSt
  rw [hA.2.1]
  by_cases h : 0 ≤ k ∧ k < n
  · rw [if_pos h, if_pos h]; exact hS.2.2.1 _ (by omega)
  · rw [if_neg h, if_neg h]
theorem owTn_m (hA : owMA lc n s) (hS : owMS lc n st s) (hV : owVo vc c s) (hd : owDg n st) (k : Int) : owTn s vc lc k = owTt c n st k := by
  have e := owSt_m hA hS k
  have hz := hd.1 k.toNat
  unfold owTt
  by_cases h : 0 ≤ k ∧ k < n
  · rw [if_pos h] at e ⊢
    rw [owTn_y (by omega), e, hV.2.1, hV.2.2.1, hS.2.1, if_neg (show ¬ n < 1 by omega)]
  · rw [if_neg h] at e ⊢
    exact owTn_n e
theorem owAp_m (hA : owMA lc n s) (hS : owMS lc n st s) (hV0 : owVo 40 84 s) (hV1 : owVo 41 c s) (hd : owDg n st) (a b : Int) : owAp s lc a b = owAq c n st a b := by
  unfold owAp owAq
  rw [owTn_m hA hS hV0 hd, owTn_m hA hS hV1 hd]
theorem owRi_m (hA : owMA lc n s) (hS : owMS lc n st s) (hV : owVo vc c s) (hd : owDg n st) (j k : Int) : owRi s vc lc j k = owRq c n st j k := by
  unfold owRi owRq
  rw [owTn_m hA hS hV hd, owTn_m hA hS hV hd]
theorem owVo_fr {M : List (Nat × Nat)} (hf : oFr M s u) (hm : (oinK M 9) = false) (h : owVo vc c s) (hc : okd vc = 9) : owVo vc c u := owVo_tr (fun j => (hf vc j (by rw [hc]; exact oinK_in hm _)).1) h
/-- a voice's signs, its place known -/
def owVc (vc : Nat) (c : Int) (t : oS) : Prop := okd vc = 9 ∧ owVo vc c t
theorem owVc_fr {M : List (Nat × Nat)} (hf : oFr M s u) (hm : (oinK M 9) = false) (h : owVc vc c s) : owVc vc c u := ⟨h.1, owVo_fr hf hm h.2 h.1⟩
def owVals (me c n : Int) (st : Nat → Int) (k : Int) (i : Nat) (t : oS) : Prop := (t.1 37 i).toInt = owXa c n st k ∧ (t.1 38 i).toInt = owXa c n st (k - 1) ∧ (t.1 39 i).toInt = owXm me c n st k
def owHi (me c n : Int) (st : Nat → Int) (x : Int) (t : oS) : Prop := (∀ i : Nat, (i : Int) < (t.1 35 6).toInt → ∃ k : Int, c / 180 ≤ k ∧ k < x ∧ owXk c n st k ∧ owVals me c n st k i t) ∧ (∀ k : Int, c / 180 ≤ k → k < x → owXk c n st k → ∃ i : Nat, (i : Int) < (t.1 35 6).toInt ∧ owVals me c n st k i t) ∧ 0 ≤ (t.1 35 6).toInt ∧ (t.1 35 6).toInt ≤ x - c / 180
theorem owVals_e {k : Int} {i : Nat} (e1 : u.1 37 i = s.1 37 i) (e2 : u.1 38 i = s.1 38 i) (e3 : u.1 39 i = s.1 39 i) (h : owVals me c n st k i s) : owVals me c n st k i u := by
  unfold owVals
  rw [e1, e2, e3]
  exact h
theorem owHi_fr {M : List (Nat × Nat)} {x : Int} (hf : oFr M s u) (hm : (oin M 1 6 || (oinK M 29 || (oinK M 30 || oinK M 31))) = false) (h : owHi me c n st x s) : owHi me c n st x u := by
  simp only [Bool.or_eq_false_iff] at hm
  have e : u.1 35 6 = s.1 35 6 := (hf 35 6 hm.1).1
  have ev : ∀ k i, owVals me c n st k i s → owVals me c n st k i u := fun k i => owVals_e (hf 37 i (oinK_in hm.2.1 _)).1 (hf 38 i (oinK_in hm.2.2.1 _)).1 (hf 39 i (oinK_in hm.2.2.2 _)).1
  obtain ⟨h1, h2, h3⟩ := h
  unfold owHi
  rw [e]
  refine ⟨fun i hi => ?_, fun k a b d => ?_, h3⟩
  · obtain ⟨k, q1, q2, q3, q4⟩ := h1 i hi
    exact ⟨k, q1, q2, q3, ev k i q4⟩
  · obtain ⟨i, q1, q2⟩ := h2 k a b d
    exact ⟨i, q1, ev k i q2⟩
theorem owHi_0 {x : Int} (hc : (s.1 35 6).toInt = 0) (hx : x = c / 180) : owHi me c n st x s := ⟨fun i hi => by omega, fun k a b => by omega, by omega, by omega⟩
theorem owHi_sk {x y : Int} (h : owHi me c n st x s) (hn : ¬ owXk c n st x) (hy : y = x + 1) : owHi me c n st y s := by
  obtain ⟨h1, h2, h3, h4⟩ := h
  refine ⟨fun i hi => ?_, fun k a b d => ?_, h3, by omega⟩
  · obtain ⟨k, q1, q2, q3⟩ := h1 i hi
    exact ⟨k, q1, by omega, q3⟩
  · by_cases e : k = x
    · rw [e] at d; exact absurd d hn
    · exact h2 k a (by omega) d
theorem owHi_mk {x y : Int} {t a b : Int32} {v1 v2 v3 v4 : Int} (h : owHi me c n st x s) (hk : owXk c n st x) (hx : c / 180 ≤ x) (hy : y = x + 1) (hm : owMk s u1 t a b) (e6 : u1.1 35 6 = s.1 35 6) (e39 : u1.1 39 = s.1 39) (hv : owMv u1 u2 v1 v2 v3 v4) (e37 : u2.1 37 = u1.1 37) (e38 : u2.1 38 = u1.1 38) (ha : a.toInt = owXa c n st x) (hb : b.toInt = owXa c n st (x - 1)) (hp : ((v1 * 64 + v2 + 32) * 64 + v3 + 32) * 2 + v4 = owXm me c n st x) : owHi me c n st y u2 := by
  obtain ⟨h1, h2, h3, h4⟩ := h
  obtain ⟨-, m2, m3⟩ := hm
  obtain ⟨c1, v, c2, c3⟩ := hv
  rw [e6] at c1 c3
  have hn := n_nat (s.1 35 6)
  have ev : ∀ k i, i ≠ (s.1 35 6).toNatClampNeg → owVals me c n st k i s → owVals me c n st k i u2 := fun k i hi q => owVals_e (by rw [e37, m2]; exact if_neg hi) (by rw [e38, m3]; exact if_neg hi) (by rw [c3]; exact (if_neg hi).trans (by rw [e39])) q
  have new : owVals me c n st x (s.1 35 6).toNatClampNeg u2 := by
    refine ⟨?_, ?_, ?_⟩
    · rw [e37, m2, ← ha]; exact congrArg Int32.toInt (if_pos rfl)
    · rw [e38, m3, ← hb]; exact congrArg Int32.toInt (if_pos rfl)
    · rw [c3, ← hp, ← c2]; exact congrArg Int32.toInt (if_pos rfl)
  refine ⟨fun i hi => ?_, fun k a b d => ?_, by omega, by omega⟩
  · by_cases e : i = (s.1 35 6).toNatClampNeg
    · rw [e]
      exact ⟨x, hx, by omega, hk, new⟩
    · obtain ⟨k, q1, q2, q3, q4⟩ := h1 i (by omega)
      exact ⟨k, q1, by omega, q3, ev k i e q4⟩
  · by_cases e : k = x
    · rw [e]
      exact ⟨(s.1 35 6).toNatClampNeg, by omega, new⟩
    · obtain ⟨i, q1, q2⟩ := h2 k a (by omega) d
      exact ⟨i, by omega, ev k i (by omega) q2⟩
/-- all is heard -/
def owHq (me c n : Int) (st : Nat → Int) (t : oS) : Prop := (∀ i : Nat, (i : Int) < (t.1 35 6).toInt → ∃ k : Int, c / 180 ≤ k ∧ k < 2 * n ∧ k < owSp c n ∧ owXk c n st k ∧ owVals me c n st k i t) ∧ (∀ k : Int, c / 180 ≤ k → k < 2 * n → k < owSp c n → owXk c n st k → ∃ i : Nat, (i : Int) < (t.1 35 6).toInt ∧ owVals me c n st k i t)
theorem owHi_q {x to : Int} (h : owHi me c n st x s) (hx : to ≤ x) (hx2 : x ≤ to ∨ x = c / 180) (h1 : to ≤ 2 * n) (h2 : to ≤ owSp c n) (h3 : to = 2 * n ∨ to = owSp c n) : owHq me c n st s := by
  obtain ⟨a1, a2, a3, a4⟩ := h
  refine ⟨fun i hi => ?_, fun k a b d => a2 k a (by omega)⟩
  obtain ⟨k, q1, q2, q3⟩ := a1 i hi
  exact ⟨k, q1, by omega, by omega, q3⟩
theorem owHq_fr {M : List (Nat × Nat)} (hf : oFr M s u) (hm : (oin M 1 6 || (oinK M 29 || (oinK M 30 || oinK M 31))) = false) (h : owHq me c n st s) : owHq me c n st u := by
  simp only [Bool.or_eq_false_iff] at hm
  have e : u.1 35 6 = s.1 35 6 := (hf 35 6 hm.1).1
  have ev : ∀ k i, owVals me c n st k i s → owVals me c n st k i u := fun k i => owVals_e (hf 37 i (oinK_in hm.2.1 _)).1 (hf 38 i (oinK_in hm.2.2.1 _)).1 (hf 39 i (oinK_in hm.2.2.2 _)).1
  obtain ⟨h1, h2⟩ := h
  unfold owHq
  rw [e]
  refine ⟨fun i hi => ?_, fun k a b d f => ?_⟩
  · obtain ⟨k, q1, q2, q3, q4, q5⟩ := h1 i hi
    exact ⟨k, q1, q2, q3, q4, ev k i q5⟩
  · obtain ⟨i, q1, q2⟩ := h2 k a b d f
    exact ⟨i, q1, ev k i q2⟩
/-- no moment is broken: the same by the moments that were heard -/
theorem owAg_h {R : Int} {W : Nat → List Int} (h : owHq me c n st s) : (∀ i : Nat, (i : Int) < (s.1 35 6).toInt → ¬ owBk R W (owDf s i 0)) ↔ owAg R W me c n st := by
  have ed : ∀ k i, owVals me c n st k i s → owDf s i 0 = owXf me c n st k := fun k i q => by
    unfold owDf owXf
    rw [q.1, q.2.1, q.2.2, Int.add_zero]
  constructor
  · intro h1 k a b d f
    obtain ⟨i, q1, q2⟩ := h.2 k a b d f
    rw [← ed k i q2]
    exact h1 i q1
  · intro h1 i hi
    obtain ⟨k, q1, q2, q3, q4, q5⟩ := h.1 i hi
    rw [ed k i q5]
    exact h1 k q1 q2 q3 q4
theorem owOn_m (hA : owMA lc n s) {k : Int} : owOn n k = if 0 ≤ k ∧ k < (s.1 lc 5).toInt then (s.1 (lc + 4) k.toNat).toInt else -1 := by
  unfold owOn
  rw [hA.2.2.1]
  by_cases h : 0 ≤ k ∧ k < 2 * n
  · rw [if_pos h, if_pos h, hA.2.2.2.2 _ (by omega)]; omega
  · rw [if_neg h, if_neg h]
end ML
