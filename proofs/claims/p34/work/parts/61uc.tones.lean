/-! what is asked of a moment, by the judge's rows -/
def owDf (s : oS) (i : Nat) (h : Int) : Nat → Int := owFm ((s.1 37 i).toInt + h) (owWa (s.1 38 i).toInt h) (s.1 39 i).toInt
def owDR (s t : oS) : Prop := t.1 37 = s.1 37 ∧ t.1 38 = s.1 38 ∧ t.1 39 = s.1 39
theorem owDR_fr {M : List (Nat × Nat)} {s t u : oS} (hf : oFr M t u) (hm : (oinK M 29 || (oinK M 30 || oinK M 31)) = false) (h : owDR s t) : owDR s u := by
  simp only [Bool.or_eq_false_iff] at hm
  exact ⟨(oFr_row hf (c := 37) rfl hm.1).trans h.1, (oFr_row hf (c := 38) rfl hm.2.1).trans h.2.1, (oFr_row hf (c := 39) rfl hm.2.2).trans h.2.2⟩
theorem owDf_eq {s t : oS} {i : Nat} {h : Int} (hr : owDR s t) : owDf t i h = owDf s i h := by
  unfold owDf
  rw [hr.1, hr.2.1, hr.2.2]
def owK0 (t : oS) : Prop := ∀ i : Nat, (i : Int) < 4096 → (t.1 32 i).toInt = -1
/-! tones -/
def owSt (s : oS) (lc : Nat) (k : Int) : Int := if 0 ≤ k ∧ k < (s.1 lc 4).toInt then (s.1 (lc + 1) k.toNat).toInt else -1
def owTn (s : oS) (vc lc : Nat) (k : Int) : Int := if owSt s lc k = -1 then -1000000000 else (s.1 vc 1).toInt + (if (s.1 vc 2).toInt = 1 then 2 * (s.1 lc 6).toInt - owSt s lc k else owSt s lc k)
theorem owSt_y {s : oS} {lc : Nat} {k : Int} (h : 0 ≤ k ∧ k < (s.1 lc 4).toInt) : owSt s lc k = (s.1 (lc + 1) k.toNat).toInt := if_pos h
theorem owSt_n {s : oS} {lc : Nat} {k : Int} (h : ¬ (0 ≤ k ∧ k < (s.1 lc 4).toInt)) : owSt s lc k = -1 := if_neg h
theorem owSt_b {s : oS} {lc : Nat} {k : Int} (h : owLN s) (hc : okd lc = 4) : -1 ≤ owSt s lc k ∧ owSt s lc k ≤ 28 := by
  unfold owSt
  split
  · exact (h lc hc).2 _
  · omega
theorem owTn_y {s : oS} {vc lc : Nat} {k : Int} (h : owSt s lc k ≠ -1) : owTn s vc lc k = (s.1 vc 1).toInt + (if (s.1 vc 2).toInt = 1 then 2 * (s.1 lc 6).toInt - owSt s lc k else owSt s lc k) := if_neg h
theorem owTn_n {s : oS} {vc lc : Nat} {k : Int} (h : owSt s lc k = -1) : owTn s vc lc k = -1000000000 := if_pos h
theorem owTn_b {s : oS} {vc lc : Nat} {k : Int} (h : owLN s) (hc : okd lc = 4) (hv : -21 ≤ (s.1 vc 1).toInt ∧ (s.1 vc 1).toInt ≤ 7) : owTn s vc lc k = -1000000000 ∨ (-51 ≤ owTn s vc lc k ∧ owTn s vc lc k ≤ 63) := by
  have h1 := owSt_b (k := k) h hc
  have h2 := (h lc hc).1
  by_cases hs : owSt s lc k = -1
  · left
    exact owTn_n hs
  · right
    rw [owTn_y hs]
    split <;> omega
theorem owTn_d {s : oS} {vc lc : Nat} {j k : Int} (h : owLN s) (hc : okd lc = 4) (hv : -21 ≤ (s.1 vc 1).toInt ∧ (s.1 vc 1).toInt ≤ 7) (hj : owTn s vc lc j ≠ -1000000000) (hk : owTn s vc lc k ≠ -1000000000) : -28 ≤ owTn s vc lc k - owTn s vc lc j ∧ owTn s vc lc k - owTn s vc lc j ≤ 28 := by
  have h1 := owSt_b (k := k) h hc
  have h2 := owSt_b (k := j) h hc
  have hs : owSt s lc k ≠ -1 := fun e => hk (owTn_n e)
  have hs2 : owSt s lc j ≠ -1 := fun e => hj (owTn_n e)
  rw [owTn_y hs, owTn_y hs2]
  split <;> omega
/-- the tones of a voice over a line -/
def owVL (vc lc : Nat) (F : Int → Int) (t : oS) : Prop := okd vc = 9 ∧ okd lc = 4 ∧ ∀ k : Int, owTn t vc lc k = F k
theorem owVL_fr {M : List (Nat × Nat)} {s u : oS} {vc lc : Nat} {F : Int → Int} (hf : oFr M s u) (hm : ((oin M 9 1 || oin M 9 2) || ((oin M 4 4 || oin M 4 6) || oinK M 16)) = false) (h : owVL vc lc F s) : owVL vc lc F u := by
  simp only [Bool.or_eq_false_iff] at hm
  obtain ⟨⟨m1, m2⟩, ⟨m3, m4⟩, m5⟩ := hm
  obtain ⟨h1, h2, h3⟩ := h
  refine ⟨h1, h2, fun k => ?_⟩
  have e : owSt u lc k = owSt s lc k := by
    unfold owSt
    rw [(hf lc 4 (by rw [h2]; exact m3)).1, oFr_row hf (kr4_1 h2) m5]
  rw [← h3 k]
  unfold owTn
  rw [e, (hf lc 6 (by rw [h2]; exact m4)).1, (hf vc 1 (by rw [h1]; exact m1)).1, (hf vc 2 (by rw [h1]; exact m2)).1]
def owAp (s : oS) (lc : Nat) (a b : Int) : Int := if owTn s 40 lc a = -1000000000 ∨ owTn s 41 lc b = -1000000000 then -1000000000 else owTn s 41 lc b - owTn s 40 lc a
/-- the two voices' signs -/
def owVR (t : oS) : Prop := ((-21 ≤ (t.1 40 1).toInt ∧ (t.1 40 1).toInt ≤ 7) ∧ (0 ≤ (t.1 40 0).toInt ∧ (t.1 40 0).toInt ≤ 24)) ∧ ((-21 ≤ (t.1 41 1).toInt ∧ (t.1 41 1).toInt ≤ 7) ∧ (0 ≤ (t.1 41 0).toInt ∧ (t.1 41 0).toInt ≤ 24))
theorem owVR_fr {M : List (Nat × Nat)} {s u : oS} (hf : oFr M s u) (hm : (oin M 9 0 || oin M 9 1) = false) (h : owVR s) : owVR u := by
  rw [Bool.or_eq_false_iff] at hm
  unfold owVR
  rw [(hf 40 1 hm.2).1, (hf 40 0 hm.1).1, (hf 41 1 hm.2).1, (hf 41 0 hm.1).1]
  exact h
theorem owAp_ne {s : oS} {lc : Nat} {a b : Int} (h : owAp s lc a b ≠ -1000000000) : owTn s 40 lc a ≠ -1000000000 ∧ owTn s 41 lc b ≠ -1000000000 := by
  unfold owAp at h
  by_cases hc : owTn s 40 lc a = -1000000000 ∨ owTn s 41 lc b = -1000000000
  · rw [if_pos hc] at h
    exact absurd rfl h
  · omega
theorem owAp_b {s : oS} {lc : Nat} {a b : Int} (h : owLN s) (hc : okd lc = 4) (hv : owVR s) : owAp s lc a b = -1000000000 ∨ (-114 ≤ owAp s lc a b ∧ owAp s lc a b ≤ 114) := by
  have h1 := owTn_b (vc := 40) (k := a) h hc hv.1.1
  have h2 := owTn_b (vc := 41) (k := b) h hc hv.2.1
  unfold owAp
  split
  · left; rfl
  · right; omega
def owRi (s : oS) (vc lc : Nat) (j k : Int) : Int := if owTn s vc lc j = -1000000000 then 0 else owTn s vc lc k - owTn s vc lc j
theorem owRi_b {s : oS} {vc lc : Nat} {j k : Int} (h : owLN s) (hc : okd lc = 4) (hv : -21 ≤ (s.1 vc 1).toInt ∧ (s.1 vc 1).toInt ≤ 7) (hk : owTn s vc lc k ≠ -1000000000) : -28 ≤ owRi s vc lc j k ∧ owRi s vc lc j k ≤ 28 := by
  unfold owRi
  split
  · omega
  · rename_i hj
    exact owTn_d h hc hv hj hk
def owVo (c : Nat) (k : Int) (t : oS) : Prop := (t.1 c 0).toInt = k / 180 ∧ (t.1 c 1).toInt = k / 12 % 15 - 7 ∧ (t.1 c 2).toInt = k / 6 % 2 ∧ (t.1 c 3).toInt = k / 3 % 2 ∧ (t.1 c 4).toInt = k % 3
theorem owVo_of {s : oS} {c : Nat} {k : Int} {v0 v1 v2 v3 v4 : Int32} (h0 : v0.toInt = k / 180) (h1 : v1.toInt = k / 12 % 15 - 7) (h2 : v2.toInt = k / 6 % 2) (h3 : v3.toInt = k / 3 % 2) (h4 : v4.toInt = k % 3) (hc : okd c = 9) : owVo c k (pI (pI (pI (pI (pI s c 0 v0) c 1 v1) c 2 v2) c 3 v3) c 4 v4) := by
  refine ⟨?_, ?_, ?_, ?_, ?_⟩
  · rw [pI_ne _ _ (Or.inr (by decide)), pI_ne _ _ (Or.inr (by decide)), pI_ne _ _ (Or.inr (by decide)), pI_ne _ _ (Or.inr (by decide)), pI_self]; exact h0
  · rw [pI_ne _ _ (Or.inr (by decide)), pI_ne _ _ (Or.inr (by decide)), pI_ne _ _ (Or.inr (by decide)), pI_self]; exact h1
  · rw [pI_ne _ _ (Or.inr (by decide)), pI_ne _ _ (Or.inr (by decide)), pI_self]; exact h2
  · rw [pI_ne _ _ (Or.inr (by decide)), pI_self]; exact h3
  · rw [pI_self]; exact h4
theorem owPut5 {s : oS} {c c0 k : Nat} {v0 v1 v2 v3 v4 : Int32} (h : c ≠ c0) : (pI (pI (pI (pI (pI s c0 0 v0) c0 1 v1) c0 2 v2) c0 3 v3) c0 4 v4).1 c k = s.1 c k := by
  rw [pI_ne _ _ (Or.inl h), pI_ne _ _ (Or.inl h), pI_ne _ _ (Or.inl h), pI_ne _ _ (Or.inl h), pI_ne _ _ (Or.inl h)]
theorem owVo_tr {s u : oS} {c : Nat} {k : Int} (h : ∀ j : Nat, u.1 c j = s.1 c j) (hv : owVo c k s) : owVo c k u := by
  unfold owVo
  rw [h 0, h 1, h 2, h 3, h 4]
  exact hv
/-- a moment is marked -/
def owMk (s u : oS) (t a b : Int32) : Prop := u.1 36 = oU (s.1 36) (s.1 35 6).toNatClampNeg t ∧ u.1 37 = oU (s.1 37) (s.1 35 6).toNatClampNeg a ∧ u.1 38 = oU (s.1 38) (s.1 35 6).toNatClampNeg b
def owMv (s u : oS) (bt r c l : Int) : Prop := (u.1 35 6).toInt = (s.1 35 6).toInt + 1 ∧ ∃ v : Int32, v.toInt = ((bt * 64 + r + 32) * 64 + c + 32) * 2 + l ∧ u.1 39 = oU (s.1 39) (s.1 35 6).toNatClampNeg v
theorem owMk_of {s : oS} {i t a b : Int32} (h : s.1 35 6 = i) : owMk s (pI (pI (pI s 36 i.toNatClampNeg t) 37 i.toNatClampNeg a) 38 i.toNatClampNeg b) t a b := by
  rw [← h]
  refine ⟨?_, ?_, ?_⟩
  · rw [oqRow_ne (a := 36) (c := 38) (by decide), oqRow_ne (a := 36) (c := 37) (by decide)]
    exact oqRow_pu
  · rw [oqRow_ne (a := 37) (c := 38) (by decide), oqRow_pu, oqRow_ne (a := 37) (c := 36) (by decide)]
  · rw [oqRow_pu, oqRow_ne (a := 38) (c := 37) (by decide), oqRow_ne (a := 38) (c := 36) (by decide)]
theorem owMv_of {s : oS} {i v w : Int32} {bt r c l : Int} (h : s.1 35 6 = i) (hv : v.toInt = ((bt * 64 + r + 32) * 64 + c + 32) * 2 + l) (hw : w.toInt = i.toInt + 1) : owMv s (pI (pI s 39 i.toNatClampNeg v) 35 6 w) bt r c l := by
  rw [← h] at hw ⊢
  refine ⟨?_, v, hv, ?_⟩
  · rw [pI_self]; exact hw
  · rw [oqRow_ne (a := 39) (c := 35) (by decide)]
    exact oqRow_pu
theorem owTake {a k180 k12 k15 k7 k6 k2 k3 v1 v2 v3 v4 v5 v6 v7 v8 v9 : Int32} (e1 : v1 = a / k180) (e2 : v2 = a / k12) (e3 : v3 = v2 - v2 / k15 * k15) (e4 : v4 = v3 - k7) (e5 : v5 = a / k6) (e6 : v6 = v5 - v5 / k2 * k2) (e7 : v7 = a / k3) (e8 : v8 = v7 - v7 / k2 * k2) (e9 : v9 = a - a / k3 * k3) (q180 : k180.toInt = 180) (q12 : k12.toInt = 12) (q15 : k15.toInt = 15) (q7 : k7.toInt = 7) (q6 : k6.toInt = 6) (q2 : k2.toInt = 2) (q3 : k3.toInt = 3) (h : -1 ≤ a.toInt ∧ a.toInt ≤ 4499) : (-21 ≤ v4.toInt ∧ v4.toInt ≤ 7) ∧ (0 ≤ v1.toInt ∧ v1.toInt ≤ 24) ∧ (0 ≤ a.toInt → v1.toInt = a.toInt / 180 ∧ v4.toInt = a.toInt / 12 % 15 - 7 ∧ v6.toInt = a.toInt / 6 % 2 ∧ v8.toInt = a.toInt / 3 % 2 ∧ v9.toInt = a.toInt % 3) := by
  by_cases ha : 0 ≤ a.toInt
  · have f1 := (n_divP e1 q180 (by decide)).1 ha
    have f2 := (n_divP e2 q12 (by decide)).1 ha
    have f3 := (n_rem e3 q15 (by decide)).1 (by omega)
    have f4 := n_sub e4 (by omega) (by omega)
    have f5 := (n_divP e5 q6 (by decide)).1 ha
    have f6 := (n_rem e6 q2 (by decide)).1 (by omega)
    have f7 := (n_divP e7 q3 (by decide)).1 ha
    have f8 := (n_rem e8 q2 (by decide)).1 (by omega)
    have f9 := (n_rem e9 q3 (by decide)).1 ha
    refine ⟨by omega, by omega, fun _ => ⟨f1, by omega, by omega, by omega, f9⟩⟩
  · have f1 := (n_divP e1 q180 (by decide)).2 (by omega)
    have f2 := (n_divP e2 q12 (by decide)).2 (by omega)
    have f3 := (n_rem e3 q15 (by decide)).1 (by omega)
    have f4 := n_sub e4 (by omega) (by omega)
    exact ⟨by omega, by omega, fun h9 => absurd h9 ha⟩
