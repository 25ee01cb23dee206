theorem oIxM {s : oS} {i v : Int32} (e : s.1 104 i.toNatClampNeg = v) : (i.toInt = 2 → (s.1 104 2).toInt = v.toInt) ∧ (i.toInt = 3 → (s.1 104 3).toInt = v.toInt) := by
  have e1 := n_nat i
  refine ⟨fun h => ?_, fun h => ?_⟩
  · rw [← e, show i.toNatClampNeg = 2 by omega]
  · rw [← e, show i.toNatClampNeg = 3 by omega]
theorem oMny3 {s : oS} {i z : Int32} : (i.toInt = 3 → ((pI s 104 i.toNatClampNeg z).1 104 3).toInt = z.toInt) ∧ (i.toInt = 2 → ((pI s 104 i.toNatClampNeg z).1 104 3).toInt = (s.1 104 3).toInt) := by
  have e1 := n_nat i
  refine ⟨fun h => ?_, fun h => ?_⟩
  · rw [show i.toNatClampNeg = 3 by omega, pI_self]
  · rw [pI_ne s z (Or.inr (by omega))]
theorem oIxA {s : oS} {a : Nat} (n : Nat) {i x w : Int32} (h : s.1 a i.toNatClampNeg = w) (h0 : 0 ≤ x.toInt) (hi : i.toInt = (n : Int) + x.toInt) : s.1 a (n + x.toNatClampNeg) = w := by
  have e1 := n_nat x
  have e3 := n_nat i
  rw [← h, show n + x.toNatClampNeg = i.toNatClampNeg by omega]
theorem oBB_from {s : oS} {k c : Int32} (h : oBB s) (hm : ∀ i : Nat, 0 ≤ (s.1 104 i).toInt ∧ (s.1 104 i).toInt ≤ 12) (hk : (k.toInt = 24 + (s.1 104 2).toInt ∧ (s.1 104 2).toInt ≤ 11) ∨ k.toInt = 36 + (s.1 104 3).toInt) : oBB (pI s 105 k.toNatClampNeg c) := by
  have e1 := n_nat k
  have e2 := n_nat (s.1 104 2)
  have e3 := n_nat (s.1 104 3)
  have h2 := hm 2
  have h3 := hm 3
  refine ⟨?_, fun hb => ?_⟩
  · show oBId (s.1 102) (s.1 104) (oU (s.1 105) k.toNatClampNeg c) (s.1 106)
    intro m hm2 j hj
    have h4 := hm m
    have e4 := n_nat (s.1 104 m)
    rw [oU_ne (by omega)]
    exact h.1 m hm2 j hj
  · show oBDd (s.1 102) (s.1 104) (oU (s.1 105) k.toNatClampNeg c) (s.1 106) (s.1 71 45).toNatClampNeg
    intro m hm2 j hj
    have h0 := h.2 hb m hm2 j hj
    have h01 : m = 0 ∨ m = 1 := by omega
    rcases h01 with rfl | rfl
    · have hj' : j < (s.1 104 2).toNatClampNeg := hj
      rw [oU_ne (by omega)]
      exact h0
    · have hj' : j < (s.1 104 3).toNatClampNeg := hj
      rw [oU_ne (by omega)]
      exact h0
theorem oFd_at {mn fr : Nat → Int32} {K m : Nat} {c : Int32} (hK : K = 24 + 12 * m + (mn (2 + m)).toNatClampNeg) : oFd mn (oU fr K c) m = c.toNatClampNeg := by
  unfold oFd
  rw [← hK, oU_self]
theorem oQ_init {u : oS} {z c k z1 z2 z3 : Int32} (h : oBB (pI (pI (pI (pI (pI u 71 56 z) 105 k.toNatClampNeg c) 71 47 z1) 71 48 z2) 71 55 z3)) (h1 : z1.toInt = 0) (h2 : z2.toInt = 0) (hc : (pI u 71 56 z).1 71 45 = c) (hk : (z.toInt = 0 ∧ k.toInt = 24 + (u.1 104 2).toInt ∧ 0 ≤ (u.1 104 2).toInt) ∨ (z.toInt = 1 ∧ k.toInt = 36 + (u.1 104 3).toInt ∧ 0 ≤ (u.1 104 3).toInt)) : oQ 9999 0 (pI (pI (pI (pI (pI u 71 56 z) 105 k.toNatClampNeg c) 71 47 z1) 71 48 z2) 71 55 z3) := by
  have e1 := n_nat k
  have e2 := n_nat (u.1 104 2)
  have e3 := n_nat (u.1 104 3)
  have e4 := n_nat z
  have e5 := n_nat z1
  refine ⟨h.1, fun hb => ⟨h.2 hb, ?_⟩⟩
  show oGd (u.1 102) (u.1 103) (u.1 71 45).toNatClampNeg (oFd (u.1 104) (oU (u.1 105) k.toNatClampNeg c) z.toNatClampNeg) z1.toNatClampNeg 9999 0 z2.toInt
  have hc' : u.1 71 45 = c := hc
  have hF : oFd (u.1 104) (oU (u.1 105) k.toNatClampNeg c) z.toNatClampNeg = c.toNatClampNeg := by
    rcases hk with hk | hk
    · rw [show z.toNatClampNeg = 0 by omega]
      exact oFd_at (by show k.toNatClampNeg = 24 + 0 + (u.1 104 2).toNatClampNeg; omega)
    · rw [show z.toNatClampNeg = 1 by omega]
      exact oFd_at (by show k.toNatClampNeg = 24 + 12 + (u.1 104 3).toNatClampNeg; omega)
  rw [hc', hF, show z1.toNatClampNeg = 0 by omega, h2]
  exact ⟨Nat.le_refl _, by rw [Nat.sub_self]; rfl, fun j hj => absurd hj (by omega), Or.inl rfl, Int.le_refl 0, by decide, by decide⟩
theorem oBB_told {x : Nat} {s : oS} {k c i z : Int32} (h : oQ 9999 x s) (hm : ∀ i : Nat, 0 ≤ (s.1 104 i).toInt ∧ (s.1 104 i).toInt ≤ 12) (hc : s.1 71 45 = c) (hk : ((s.1 71 56).toInt = 0 ∧ k.toInt = 24 + (s.1 104 2).toInt ∧ i.toInt = 2 ∧ z.toInt = (s.1 104 2).toInt + 1 ∧ (s.1 104 2).toInt ≤ 11) ∨ ((s.1 71 56).toInt = 1 ∧ k.toInt = 36 + (s.1 104 3).toInt ∧ i.toInt = 3 ∧ z.toInt = (s.1 104 3).toInt + 1 ∧ (s.1 104 3).toInt ≤ 11)) : oBB (pI (pI s 106 k.toNatClampNeg c) 104 i.toNatClampNeg z) := by
  have e1 := n_nat k
  have e2 := n_nat (s.1 104 2)
  have e3 := n_nat (s.1 104 3)
  have e4 := n_nat z
  have e5 := n_nat i
  have e6 := n_nat (s.1 71 56)
  have m2 := hm 2
  have m3 := hm 3
  obtain ⟨M, hM, hM2, hkM, hiM, hzM, hlM⟩ : ∃ M : Nat, (s.1 71 56).toNatClampNeg = M ∧ M < 2 ∧ k.toNatClampNeg = 24 + 12 * M + (s.1 104 (2 + M)).toNatClampNeg ∧ i.toNatClampNeg = 2 + M ∧ z.toNatClampNeg = (s.1 104 (2 + M)).toNatClampNeg + 1 ∧ (s.1 104 (2 + M)).toNatClampNeg ≤ 11 := by
    rcases hk with hk | hk
    · exact ⟨0, by omega, by omega, by show k.toNatClampNeg = 24 + 0 + (s.1 104 2).toNatClampNeg; omega, by omega, by show z.toNatClampNeg = (s.1 104 2).toNatClampNeg + 1; omega, by show (s.1 104 2).toNatClampNeg ≤ 11; omega⟩
    · exact ⟨1, by omega, by omega, by show k.toNatClampNeg = 24 + 12 + (s.1 104 3).toNatClampNeg; omega, by omega, by show z.toNatClampNeg = (s.1 104 3).toNatClampNeg + 1; omega, by show (s.1 104 3).toNatClampNeg ≤ 11; omega⟩
  refine ⟨?_, fun hb => ?_⟩
  · show oBId (s.1 102) (oU (s.1 104) i.toNatClampNeg z) (s.1 105) (oU (s.1 106) k.toNatClampNeg c)
    intro m hm2 j hj
    rw [oU_ne (by omega)] at hj
    have h4 := hm m
    have e7 := n_nat (s.1 104 m)
    rw [oU_ne (by omega)]
    exact h.1 m hm2 j hj
  · have hb' : (s.1 71 5).toInt = 0 := hb
    obtain ⟨h1, g1, g2, _⟩ := h.2 hb'
    show oBDd (s.1 102) (oU (s.1 104) i.toNatClampNeg z) (s.1 105) (oU (s.1 106) k.toNatClampNeg c) (s.1 71 45).toNatClampNeg
    intro m hm2 j hj
    by_cases hmM : m = M
    · subst hmM
      rw [hiM, oU_self, hzM] at hj
      by_cases hj2 : j = (s.1 104 (2 + m)).toNatClampNeg
      · have ek : 24 + 12 * m + j = k.toNatClampNeg := by omega
        have hF : oFd (s.1 104) (s.1 105) (s.1 71 56).toNatClampNeg = (s.1 105 k.toNatClampNeg).toNatClampNeg := by
          unfold oFd
          rw [hM, ← hkM]
        rw [hF] at g1 g2
        rw [ek, oU_self, ← hc]
        exact ⟨⟨g1, _, g2⟩, Nat.le_refl _⟩
      · rw [oU_ne (by omega)]
        exact h1 m hm2 j (by omega)
    · rw [oU_ne (by omega)] at hj
      have h4 := hm (2 + m)
      have e7 := n_nat (s.1 104 (2 + m))
      rw [oU_ne (by omega)]
      exact h1 m hm2 j hj
theorem oBB_told0 {s : oS} {k c i z : Int32} (h : oBB s) (hb : (s.1 71 5).toInt ≠ 0) (hm : ∀ i : Nat, 0 ≤ (s.1 104 i).toInt ∧ (s.1 104 i).toInt ≤ 12) (hk : 24 ≤ k.toInt) (hi : 2 ≤ i.toInt) : oBB (pI (pI s 106 k.toNatClampNeg c) 104 i.toNatClampNeg z) := by
  have e1 := n_nat k
  have e5 := n_nat i
  refine ⟨?_, fun hb' => absurd hb' hb⟩
  show oBId (s.1 102) (oU (s.1 104) i.toNatClampNeg z) (s.1 105) (oU (s.1 106) k.toNatClampNeg c)
  intro m hm2 j hj
  rw [oU_ne (by omega)] at hj
  have h4 := hm m
  have e7 := n_nat (s.1 104 m)
  rw [oU_ne (by omega)]
  exact h.1 m hm2 j hj
theorem oBB_init {u : oS} {i j z z' : Int32} (h : oBI u) (hi : i.toInt = 2) (hj : j.toInt = 3) (hz : z.toInt = 0) (hz' : z'.toInt = 0) : oBB (pI (pI u 104 i.toNatClampNeg z) 104 j.toNatClampNeg z') := by
  have e1 := n_nat i
  have e2 := n_nat j
  have e3 := n_nat z
  have e4 := n_nat z'
  refine ⟨?_, fun _ => ?_⟩
  · show oBId (u.1 102) (oU (oU (u.1 104) i.toNatClampNeg z) j.toNatClampNeg z') (u.1 105) (u.1 106)
    intro m hm2 q hq
    rw [oU_ne (by omega), oU_ne (by omega)] at hq
    exact h m hm2 q hq
  · show oBDd (u.1 102) (oU (oU (u.1 104) i.toNatClampNeg z) j.toNatClampNeg z') (u.1 105) (u.1 106) (u.1 71 45).toNatClampNeg
    intro m hm2 q hq
    exfalso
    have h01 : m = 0 ∨ m = 1 := by omega
    rcases h01 with rfl | rfl
    · rw [oU_ne (by omega), show 2 + 0 = i.toNatClampNeg by omega, oU_self] at hq
      omega
    · rw [show 2 + 1 = j.toNatClampNeg by omega, oU_self] at hq
      omega
def oBD (s : oS) : Prop := oBDd (s.1 102) (s.1 104) (s.1 105) (s.1 106) (s.1 71 45).toNatClampNeg
theorem oBD_fr {M : List (Nat × Nat)} {s u : oS} (hf : oFr M s u) (hm : (oin M 12 45 || (oinK M 78 || (oinK M 80 || (oinK M 81 || oinK M 82)))) = false) (h : oBD s) : oBD u := by
  simp only [Bool.or_eq_false_iff] at hm
  unfold oBD
  rw [oFr_row hf (c := 102) rfl hm.2.1, oFr_row hf (c := 104) rfl hm.2.2.1, oFr_row hf (c := 105) rfl hm.2.2.2.1, oFr_row hf (c := 106) rfl hm.2.2.2.2, (hf 71 45 hm.1).1]
  exact h
theorem oBB_BD {s : oS} (h : oBB s) (hb : (s.1 71 5).toInt = 0) : oBD s := h.2 hb
def oM2 (s : oS) : Prop := s.1 104 0 = s.1 104 2 ∧ s.1 104 1 = s.1 104 3
theorem oM2_fr {M : List (Nat × Nat)} {s u : oS} (hf : oFr M s u) (hm : oinK M 80 = false) (h : oM2 s) : oM2 u := by
  unfold oM2
  rw [oFr_row hf (c := 104) rfl hm]
  exact h
theorem oM2_put {s : oS} {i0 i1 i2 i3 v2 v3 : Int32} (e2 : s.1 104 i2.toNatClampNeg = v2) (e3 : (pI s 104 i0.toNatClampNeg v2).1 104 i3.toNatClampNeg = v3) (h0 : i0.toInt = 0) (h1 : i1.toInt = 1) (h2 : i2.toInt = 2) (h3 : i3.toInt = 3) : oM2 (pI (pI s 104 i0.toNatClampNeg v2) 104 i1.toNatClampNeg v3) := by
  have n0 := n_nat i0
  have n1 := n_nat i1
  have n2 := n_nat i2
  have n3 := n_nat i3
  have a0 : i0.toNatClampNeg = 0 := by omega
  have a1 : i1.toNatClampNeg = 1 := by omega
  have a2 : i2.toNatClampNeg = 2 := by omega
  have a3 : i3.toNatClampNeg = 3 := by omega
  rw [a0, a3] at e3
  rw [a2] at e2
  rw [a0, a1]
  subst e2 e3
  exact ⟨rfl, rfl⟩
theorem oBD_m2 {s : oS} {i0 i1 v2 v3 : Int32} (h : oBD s) (h0 : i0.toInt = 0) (h1 : i1.toInt = 1) : oBD (pI (pI s 104 i0.toNatClampNeg v2) 104 i1.toNatClampNeg v3) := by
  have n0 := n_nat i0
  have n1 := n_nat i1
  show oBDd (s.1 102) (oU (oU (s.1 104) i0.toNatClampNeg v2) i1.toNatClampNeg v3) (s.1 105) (s.1 106) (s.1 71 45).toNatClampNeg
  intro m hm2 q hq
  rw [oU_ne (by omega), oU_ne (by omega)] at hq
  exact h m hm2 q hq
theorem oBD_lo {s : oS} {x v v' : Int32} (h : oBD s) (hx : 0 ≤ x.toInt ∧ x.toInt < 24) : oBD (pI (pI s 105 x.toNatClampNeg v) 106 x.toNatClampNeg v') := by
  have n0 := n_nat x
  show oBDd (s.1 102) (s.1 104) (oU (s.1 105) x.toNatClampNeg v) (oU (s.1 106) x.toNatClampNeg v') (s.1 71 45).toNatClampNeg
  intro m hm2 q hq
  rw [oU_ne (by omega), oU_ne (by omega)]
  exact h m hm2 q hq
theorem oBD_cd {s : oS} {x v : Int32} (h : oBD s) (hx : 0 ≤ x.toInt ∧ x.toInt < 1600) : oBD (pI s 102 x.toNatClampNeg v) := by
  have n0 := n_nat x
  show oBDd (oU (s.1 102) x.toNatClampNeg v) (s.1 104) (s.1 105) (s.1 106) (s.1 71 45).toNatClampNeg
  intro m hm2 q hq
  obtain ⟨h1, h2⟩ := h m hm2 q hq
  exact ⟨oOk_congr (fun i hi => show s.1 102 (1600 + i) = oU (s.1 102) x.toNatClampNeg v (1600 + i) from (oU_ne (by omega)).symm) h1, h2⟩
def oCf (x : Int32) (s : oS) : Prop := ∀ j : Nat, (j : Int) < x.toInt → s.1 105 j = s.1 105 (24 + j) ∧ s.1 106 j = s.1 106 (24 + j)
theorem oCf_0 {x : Int32} {s : oS} (h : x.toInt = 0) : oCf x s := fun j hj => by omega
theorem oCf_step {s : oS} {x y v v' : Int32} (h : oCf x s) (h0 : 0 ≤ x.toInt ∧ x.toInt < 24) (hy : y.toInt = x.toInt + 1) (h1 : s.1 105 (24 + x.toNatClampNeg) = v) (h2 : (pI s 105 x.toNatClampNeg v).1 106 (24 + x.toNatClampNeg) = v') : oCf y (pI (pI s 105 x.toNatClampNeg v) 106 x.toNatClampNeg v') := fun j hj => by
  have n0 := n_nat x
  show oU (s.1 105) x.toNatClampNeg v j = oU (s.1 105) x.toNatClampNeg v (24 + j) ∧ oU (s.1 106) x.toNatClampNeg v' j = oU (s.1 106) x.toNatClampNeg v' (24 + j)
  have h2' : s.1 106 (24 + x.toNatClampNeg) = v' := h2
  rw [oU_ne (j := 24 + j) (by omega), oU_ne (j := 24 + j) (by omega)]
  by_cases hjx : j = x.toNatClampNeg
  · rw [hjx, oU_self, oU_self]
    exact ⟨h1.symm, h2'.symm⟩
  · rw [oU_ne hjx, oU_ne hjx]
    exact h j (by omega)
def oCg (s : oS) : Prop := ∀ j : Nat, j < 24 → s.1 105 j = s.1 105 (24 + j) ∧ s.1 106 j = s.1 106 (24 + j)
theorem oCg_fr {M : List (Nat × Nat)} {s u : oS} (hf : oFr M s u) (hm : (oinK M 81 || oinK M 82) = false) (h : oCg s) : oCg u := by
  simp only [Bool.or_eq_false_iff] at hm
  unfold oCg
  rw [oFr_row hf (c := 105) rfl hm.1, oFr_row hf (c := 106) rfl hm.2]
  exact h
theorem oCf_g {x : Int32} {s : oS} (h : oCf x s) (hx : 24 ≤ x.toInt) : oCg s := fun j hj => h j (by omega)
def oCc (x : Int32) (s : oS) : Prop := ∀ j : Nat, (j : Int) < x.toInt → s.1 102 j = s.1 102 (1600 + j)
theorem oCc_0 {x : Int32} {s : oS} (h : x.toInt = 0) : oCc x s := fun j hj => by omega
theorem oCc_step {s : oS} {x y v : Int32} (h : oCc x s) (h0 : 0 ≤ x.toInt ∧ x.toInt < 1600) (hy : y.toInt = x.toInt + 1) (h1 : s.1 102 (1600 + x.toNatClampNeg) = v) : oCc y (pI s 102 x.toNatClampNeg v) := fun j hj => by
  have n0 := n_nat x
  show oU (s.1 102) x.toNatClampNeg v j = oU (s.1 102) x.toNatClampNeg v (1600 + j)
  rw [oU_ne (j := 1600 + j) (by omega)]
  by_cases hjx : j = x.toNatClampNeg
  · rw [hjx, oU_self]
    exact h1.symm
  · rw [oU_ne hjx]
    exact h j (by omega)
theorem oBI_of {x : Int32} {s : oS} (hd : oBD s) (h2 : oM2 s) (hg : oCg s) (hc : oCc x s) (hx : (s.1 71 45).toInt ≤ x.toInt) (h16 : 0 ≤ (s.1 71 45).toInt ∧ (s.1 71 45).toInt ≤ 1600) (hm : ∀ i : Nat, 0 ≤ (s.1 104 i).toInt ∧ (s.1 104 i).toInt ≤ 12) : oBI s := by
  have e1 := n_nat (s.1 71 45)
  intro m hm2 j hj
  have h4 := hm m
  have e7 := n_nat (s.1 104 m)
  have hj2 : j < (s.1 104 (2 + m)).toNatClampNeg := by
    have h01 : m = 0 ∨ m = 1 := by omega
    rcases h01 with rfl | rfl
    · have := h2.1
      show j < (s.1 104 2).toNatClampNeg
      rw [← this]
      exact hj
    · have := h2.2
      show j < (s.1 104 3).toNatClampNeg
      rw [← this]
      exact hj
  obtain ⟨h5, h6⟩ := hd m hm2 j hj2
  obtain ⟨g1, g2⟩ := hg (12 * m + j) (by omega)
  rw [g1, g2, show 24 + (12 * m + j) = 24 + 12 * m + j by omega]
  exact ⟨oOk_congr (fun i hi => (hc i (by omega)).symm) h5, by omega⟩
