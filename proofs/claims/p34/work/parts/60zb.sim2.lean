/-! the same between facts -/
section SIM2
variable {g : Int → Int} {p q : Int} {c0 : oqCf} {x B m m' : Nat} {s u : oS}
theorem oqI_go {A b o A' b' o' : Int} (h : oqTt g p q c0 m s) (hs : (s.1 71 5).toInt = 0) (hb : (u.1 71 5).toInt = 0) (hr : u.1 103 = s.1 103) (hw : (u.1 71 47).toInt = (s.1 71 47).toInt) (H : oqTo g p q (m, A, b, o, oqSg (s.1 103) 0 (s.1 71 47).toNatClampNeg) (m', A', b', o', oqSg (s.1 103) 0 (s.1 71 47).toNatClampNeg)) (e1 : A = oqSk g (s.1 71 2).toInt) (e2 : b = (s.1 71 4).toInt) (e3 : o = (s.1 71 48).toInt) (e4 : A' = oqSk g (u.1 71 2).toInt) (e5 : b' = (u.1 71 4).toInt) (e6 : o' = (u.1 71 48).toInt) : oqTt g p q c0 m' u := by
  obtain ⟨h1, h2⟩ := h.1 hs
  refine ⟨fun _ => ?_, fun h9 => absurd hb h9⟩
  rw [hr, oqW_eq hw, ← e4, ← e5, ← e6]
  rw [← e1, ← e2, ← e3] at h1
  exact ⟨h1.tr H, h2⟩
theorem oqI_id (h : oqTt g p q c0 m s) (hr : u.1 103 = s.1 103) (hb : (u.1 71 5).toInt = (s.1 71 5).toInt) (hw : (u.1 71 47).toInt = (s.1 71 47).toInt) (ha : oqSk g (u.1 71 2).toInt = oqSk g (s.1 71 2).toInt) (he : (u.1 71 4).toInt = (s.1 71 4).toInt) (ho : (u.1 71 48).toInt = (s.1 71 48).toInt) (hp : (u.1 71 6).toInt = (s.1 71 6).toInt) : oqTt g p q c0 m u := by
  unfold oqTt
  rw [hr, hb, oqW_eq hw, ha, he, ho, hp]
  exact h
theorem oqI_kp (h : oqTt g p q c0 m s) (hs : (s.1 71 5).toInt ≠ 0) (hb : (u.1 71 5).toInt = (s.1 71 5).toInt) (hp : (u.1 71 6).toInt = (s.1 71 6).toInt) : oqTt g p q c0 m' u := by
  refine ⟨fun h9 => absurd (hb.symm.trans h9) hs, fun _ => ?_⟩
  rw [hb, hp]
  exact h.2 hs
theorem oqI_drop (h : oqTt g p q c0 m s) (hd : oDrop s u) (h1 : 1 ≤ (s.1 71 47).toInt) (ht : (s.1 71 5).toInt = 0 → oTop s < 16) : oqTt g p q c0 m u := by
  obtain ⟨z, z', hz, hz', rfl⟩ := hd
  have e1 := n_nat z
  have e4 := n_nat (s.1 71 47)
  have ew : (s.1 71 47).toNatClampNeg = z.toNatClampNeg + 1 := by omega
  have et : oTop s = (s.1 103 z.toNatClampNeg).toInt := by unfold oTop; rw [← hz, e1]
  refine ⟨fun hb => ?_, fun hb => h.2 hb⟩
  have hb' : (s.1 71 5).toInt = 0 := hb
  obtain ⟨q1, q2⟩ := h.1 hb'
  have q4 := ht hb'
  show oqTo g p q c0 (m, oqSk g (s.1 71 2).toInt, (s.1 71 4).toInt, (s.1 71 48).toInt, oqSg (s.1 103) 0 z.toNatClampNeg) ∧ oqNW (s.1 103) z.toNatClampNeg
  rw [ew, oqSg_up, ← et, oqCd_no (by omega), List.nil_append] at q1
  exact ⟨q1, oqNW_le (by omega) q2⟩
/-- no not stands on top -/
def oqTN (t : oS) : Prop := (t.1 71 5).toInt = 0 → ((t.1 71 47).toInt ≤ 0 ∨ oTop t ≠ 16)
theorem oqTN_fr {M : List (Nat × Nat)} (hf : oFr M s u) (hm : (oin M 12 5 || (oin M 12 47 || oinK M 79)) = false) (h : oqTN s) : oqTN u := by
  simp only [Bool.or_eq_false_iff] at hm
  unfold oqTN oTop
  rw [(hf 71 5 hm.1).1, (hf 71 47 hm.2.1).1, oFr_row hf (c := 103) rfl hm.2.2]
  exact h
theorem oqTN_drop (h : oqTt g p q c0 m s) (hs : (s.1 71 5).toInt = 0) (hd : oDrop s u) (h1 : 1 ≤ (s.1 71 47).toInt) (ht : oTop s = 14 ∨ oTop s = 15) : oqTN u := by
  obtain ⟨z, z', hz, hz', rfl⟩ := hd
  have e1 := n_nat z
  have e4 := n_nat (s.1 71 47)
  have et : oTop s = (s.1 103 z.toNatClampNeg).toInt := by unfold oTop; rw [← hz, e1]
  obtain ⟨q1, q2⟩ := h.1 hs
  intro _
  show z.toInt ≤ 0 ∨ (s.1 103 (z.toInt - 1).toNat).toInt ≠ 16
  by_cases hz0 : z.toInt ≤ 0
  · exact Or.inl hz0
  · refine Or.inr (fun h16 => ?_)
    have h9 := q2 (z.toInt - 1).toNat (by omega) h16
    rw [show (z.toInt - 1).toNat + 1 = z.toNatClampNeg by omega] at h9
    omega
theorem oqTN_top {w : Nat → Int32} (h : oqTN s) (hs : (s.1 71 5).toInt = 0) (hw : w = s.1 103) (h0 : 0 ≤ (s.1 71 47).toInt) : (s.1 71 47).toNatClampNeg = 0 ∨ (w ((s.1 71 47).toNatClampNeg - 1)).toInt ≠ 16 := by
  subst hw
  have e4 := n_nat (s.1 71 47)
  by_cases h1 : (s.1 71 47).toInt ≤ 0
  · exact Or.inl (by omega)
  · right
    rcases h hs with h2 | h2
    · omega
    · unfold oTop at h2
      rw [show ((s.1 71 47).toInt - 1).toNat = (s.1 71 47).toNatClampNeg - 1 by omega] at h2
      exact h2
theorem oqI_push {v w z : Int32} (h : oqTt g p q c0 m s) (hT : oqTN s) (e : s.1 71 47 = w) (h0 : 0 ≤ w.toInt) (hz : z.toInt = w.toInt + 1) (hv : v.toInt = 14 ∨ v.toInt = 15) : oqTt g p q c0 m (pI (pI s 103 w.toNatClampNeg v) 71 47 z) := by
  subst e
  have e2 := n_nat z
  have e3 := n_nat (s.1 71 47)
  have ez : z.toNatClampNeg = (s.1 71 47).toNatClampNeg + 1 := by omega
  refine ⟨fun hb => ?_, fun hb => h.2 hb⟩
  have hb' : (s.1 71 5).toInt = 0 := hb
  obtain ⟨q1, q2⟩ := h.1 hb'
  have q3 := oqTN_top hT hb' rfl h0
  show oqTo g p q c0 (m, oqSk g (s.1 71 2).toInt, (s.1 71 4).toInt, (s.1 71 48).toInt, oqSg (oU (s.1 103) (s.1 71 47).toNatClampNeg v) 0 z.toNatClampNeg) ∧ oqNW (oU (s.1 103) (s.1 71 47).toNatClampNeg v) z.toNatClampNeg
  rw [ez, oqSg_pu, oqCd_no (by omega), List.nil_append]
  exact ⟨q1, oqNW_pu q2 (Or.inr (Or.inr q3))⟩
theorem oqI_J (h : oqTt g p q c0 0 s) (hs : (s.1 71 5).toInt = 0) (hg : g (oqSk g (s.1 71 2).toInt) ≠ 91) (h9 : oqWi g (oqSk g (s.1 71 2).toInt) (s.1 71 4).toInt ≠ 9) (h10 : oqWi g (oqSk g (s.1 71 2).toInt) (s.1 71 4).toInt ≠ 10) (hB : B = (s.1 71 47).toNatClampNeg) : oqJ g p q c0 5 B 1 s := by
  obtain ⟨q1, q2⟩ := h.1 hs
  subst hB
  refine ⟨fun _ => ⟨?_, q2, Nat.le_refl _⟩, fun h9 => absurd hs h9⟩
  rw [oqSt_BB rfl]
  exact q1.tr (oqf_sum hg h9 h10)
theorem oqJ_Ib (h : oqJ g p q c0 x B m s) (hs : (s.1 71 5).toInt ≠ 0) (hb : (u.1 71 5).toInt = (s.1 71 5).toInt) (hp : (u.1 71 6).toInt = (s.1 71 6).toInt) : oqTt g p q c0 m' u := by
  refine ⟨fun h9 => absurd (hb.symm.trans h9) hs, fun _ => ?_⟩
  rw [hb, hp]
  exact h.2 hs
theorem oqJ_sg {z : Int32} (h : oqJ g p q c0 5 B 3 s) (hs : (s.1 71 5).toInt = 0) (hW : (s.1 71 47).toNatClampNeg = B) (hno : ¬ oqOp g (oqSk g (s.1 71 2).toInt)) (hc : g (oqSk g (s.1 71 2).toInt) = 60 ∨ g (oqSk g (s.1 71 2).toInt) = 62 ∨ g (oqSk g (s.1 71 2).toInt) = 61) (hz : z.toInt = oqSk g (s.1 71 2).toInt + 1) : oqJ g p q c0 6 B 1 (pI s 71 2 z) := by
  obtain ⟨q1, q2, q3⟩ := h.1 hs
  rw [oqSt_BB hW] at q1
  refine ⟨fun _ => ?_, fun h9 => absurd hs h9⟩
  show oqTo g p q c0 (1, oqSk g z.toInt, (s.1 71 4).toInt, (s.1 71 48).toInt, oqSt (s.1 103) 6 B (s.1 71 47).toNatClampNeg) ∧ oqNW (s.1 103) B ∧ B ≤ (s.1 71 47).toNatClampNeg
  rw [oqSt_BB hW, hz]
  refine ⟨q1.tr (oqTo.one ?_), q2, q3⟩
  rw [oqPs_3n hno]
  exact if_pos hc
theorem oqJ_sgF (h : oqJ g p q c0 5 B 3 s) (hs : (s.1 71 5).toInt = 0) (hW : (s.1 71 47).toNatClampNeg = B) (hno : ¬ oqOp g (oqSk g (s.1 71 2).toInt)) (hc : ¬ (g (oqSk g (s.1 71 2).toInt) = 60 ∨ g (oqSk g (s.1 71 2).toInt) = 62 ∨ g (oqSk g (s.1 71 2).toInt) = 61)) (hb : (u.1 71 5).toInt = 1) (hp : (u.1 71 6).toInt = oqSk g (s.1 71 2).toInt) : oqTt g p q c0 m' u := by
  obtain ⟨q1, q2, q3⟩ := h.1 hs
  rw [oqSt_BB hW] at q1
  refine ⟨fun h9 => by omega, fun _ => ?_⟩
  rw [hb, hp]
  refine q1.tr (oqTo.one ?_)
  rw [oqPs_3n hno]
  exact if_neg hc
theorem oqJ_6 (h : oqJ g p q c0 6 B 3 s) (hW : (s.1 71 5).toInt = 0 → (s.1 71 47).toNatClampNeg = B) (hno : (s.1 71 5).toInt = 0 → ¬ oqOp g (oqSk g (s.1 71 2).toInt)) : oqTt g p q c0 2 s := by
  refine ⟨fun hb => ?_, h.2⟩
  obtain ⟨q1, q2, q3⟩ := h.1 hb
  have eW := hW hb
  rw [oqSt_BB eW] at q1
  rw [eW]
  refine ⟨q1.tr (oqTo.one ?_), q2⟩
  rw [oqPs_3n (hno hb)]
  rfl
/-- a not that is over -/
theorem oqI_nt {z0 : Int32} (h : oqTt g p q c0 2 s) (hs : (s.1 71 5).toInt = 0) (hz0 : z0.toInt = (s.1 71 48).toInt - 1) (hd : oDrop (pI s 71 48 z0) u) (h1 : 1 ≤ (s.1 71 47).toInt) (ht : oTop s = 16) : oqTt g p q c0 2 u := by
  obtain ⟨z, z', hz, hz', rfl⟩ := hd
  have hz : z.toInt = (s.1 71 47).toInt - 1 := hz
  have e1 := n_nat z
  have e4 := n_nat (s.1 71 47)
  have ew : (s.1 71 47).toNatClampNeg = z.toNatClampNeg + 1 := by omega
  have et : oTop s = (s.1 103 z.toNatClampNeg).toInt := by unfold oTop; rw [← hz, e1]
  obtain ⟨q1, q2⟩ := h.1 hs
  refine ⟨fun hb => ?_, fun hb => absurd hs hb⟩
  show oqTo g p q c0 (2, oqSk g (s.1 71 2).toInt, (s.1 71 4).toInt, z0.toInt, oqSg (s.1 103) 0 z.toNatClampNeg) ∧ oqNW (s.1 103) z.toNatClampNeg
  rw [ew, oqSg_up, ← et, oqCd_16 ht] at q1
  rw [hz0]
  exact ⟨q1.tr (oqTo.one rfl), oqNW_le (by omega) q2⟩
/-- [ is open -/
theorem oqI_sq {v z : Int32} (h : oqTt g p q c0 0 s) (hs : (s.1 71 5).toInt = 0) (hO : (u.1 71 5).toInt = 0 → oOpn s v u) (hv : v.toInt = 25) (hA : oqSk g (s.1 71 2).toInt = (s.1 71 2).toInt) (hg : g (s.1 71 2).toInt = 91) (h0 : 0 ≤ (s.1 71 47).toInt) (hz : z.toInt = (s.1 71 2).toInt + 1) (ho : (u.1 71 5).toInt = 0 → (s.1 71 48).toInt ≤ 5) (hF : (u.1 71 5).toInt ≠ 0 → 6 ≤ (s.1 71 48).toInt ∧ (u.1 71 5).toInt = 4 ∧ (u.1 71 6).toInt = (s.1 71 2).toInt) : oqTt g p q c0 0 (pI u 71 2 z) := by
  obtain ⟨q1, q2⟩ := h.1 hs
  rw [hA] at q1
  refine ⟨fun hb => ?_, fun hb => ?_⟩
  · have hb' : (u.1 71 5).toInt = 0 := hb
    have ho' := ho hb'
    obtain ⟨z1, z2, e1, e2, rfl⟩ := hO hb'
    have n1 := n_nat z2
    have n2 := n_nat (s.1 71 47)
    have ez : z2.toNatClampNeg = (s.1 71 47).toNatClampNeg + 1 := by omega
    show oqTo g p q c0 (0, oqSk g z.toInt, (s.1 71 4).toInt, z1.toInt, oqSg (oU (s.1 103) (s.1 71 47).toNatClampNeg v) 0 z2.toNatClampNeg) ∧ oqNW (oU (s.1 103) (s.1 71 47).toNatClampNeg v) z2.toNatClampNeg
    rw [ez, oqSg_pu, oqCd_25 hv, hz, e1]
    exact ⟨q1.tr (oqf_sq hg (by omega)), oqNW_pu q2 (Or.inr (Or.inl hv))⟩
  · have hb' : (u.1 71 5).toInt ≠ 0 := hb
    obtain ⟨f1, f2, f3⟩ := hF hb'
    show oqTo g p q c0 (9, (u.1 71 6).toInt, (u.1 71 5).toInt, 0, [])
    rw [f2, f3]
    exact q1.tr (oqf_deepS hg f1 _)
/-- behind a not that is told, ahead of its word -/
def oqN1 (g : Int → Int) (p q : Int) (c0 : oqCf) (t : oS) : Prop := ((t.1 71 5).toInt = 0 → oqSk g (t.1 71 2).toInt = (t.1 71 2).toInt ∧ oqWi g (t.1 71 2).toInt (t.1 71 4).toInt = 9 ∧ oqTo g p q c0 (0, oqSk g (oqHa g (t.1 71 2).toInt 9), oqHa g (t.1 71 2).toInt 9, (t.1 71 48).toInt, oqSg (t.1 103) 0 (t.1 71 47).toNatClampNeg) ∧ oqNW (t.1 103) (t.1 71 47).toNatClampNeg) ∧ ((t.1 71 5).toInt ≠ 0 → oqTo g p q c0 (9, (t.1 71 6).toInt, (t.1 71 5).toInt, 0, []))
theorem oqN1_of {v : Int32} (h : oqTt g p q c0 0 s) (hs : (s.1 71 5).toInt = 0) (hO : (u.1 71 5).toInt = 0 → oOpn s v u) (hv : v.toInt = 16) (hA : oqSk g (s.1 71 2).toInt = (s.1 71 2).toInt) (hg : g (s.1 71 2).toInt ≠ 91) (hj : oqWi g (s.1 71 2).toInt (s.1 71 4).toInt = 9) (h0 : 0 ≤ (s.1 71 47).toInt) (ho : (u.1 71 5).toInt = 0 → (s.1 71 48).toInt ≤ 5) (hF : (u.1 71 5).toInt ≠ 0 → 6 ≤ (s.1 71 48).toInt ∧ (u.1 71 5).toInt = 4 ∧ (u.1 71 6).toInt = (s.1 71 2).toInt) : oqN1 g p q c0 u := by
  obtain ⟨q1, q2⟩ := h.1 hs
  rw [hA] at q1
  refine ⟨fun hb => ?_, fun hb => ?_⟩
  · have ho' := ho hb
    obtain ⟨z1, z2, e1, e2, rfl⟩ := hO hb
    have n1 := n_nat z2
    have n2 := n_nat (s.1 71 47)
    have ez : z2.toNatClampNeg = (s.1 71 47).toNatClampNeg + 1 := by omega
    show oqSk g (s.1 71 2).toInt = (s.1 71 2).toInt ∧ oqWi g (s.1 71 2).toInt (s.1 71 4).toInt = 9 ∧ oqTo g p q c0 (0, oqSk g (oqHa g (s.1 71 2).toInt 9), oqHa g (s.1 71 2).toInt 9, z1.toInt, oqSg (oU (s.1 103) (s.1 71 47).toNatClampNeg v) 0 z2.toNatClampNeg) ∧ oqNW (oU (s.1 103) (s.1 71 47).toNatClampNeg v) z2.toNatClampNeg
    rw [ez, oqSg_pu, oqCd_16 hv, e1]
    exact ⟨hA, hj, q1.tr (oqf_not hg hj (by omega)), oqNW_pu q2 (Or.inl hv)⟩
  · obtain ⟨f1, f2, f3⟩ := hF hb
    rw [f2, f3]
    exact q1.tr (oqf_deepN hg hj f1 _)
theorem oqN1_I (h : oqN1 g p q c0 s) (hr : u.1 103 = s.1 103) (hw : (u.1 71 47).toInt = (s.1 71 47).toInt) (ho : (u.1 71 48).toInt = (s.1 71 48).toInt) (h1 : (u.1 71 5).toInt = 0 → (s.1 71 5).toInt = 0 ∧ (u.1 71 2).toInt = oqHa g (s.1 71 2).toInt 9 ∧ (u.1 71 4).toInt = oqHa g (s.1 71 2).toInt 9) (h0 : (u.1 71 5).toInt ≠ 0 → ((s.1 71 5).toInt = 0 ∧ oqH g (s.1 71 2).toInt (s.1 71 4).toInt 9 = 0) ∨ ((s.1 71 5).toInt ≠ 0 ∧ (u.1 71 5).toInt = (s.1 71 5).toInt ∧ (u.1 71 6).toInt = (s.1 71 6).toInt)) : oqTt g p q c0 0 u := by
  refine ⟨fun hb => ?_, fun hb => ?_⟩
  · obtain ⟨q1, q2, q3⟩ := h1 hb
    obtain ⟨r1, r2, r3, r4⟩ := h.1 q1
    rw [hr, oqW_eq hw, ho, q2, q3]
    exact ⟨r3, r4⟩
  · rcases h0 hb with ⟨q1, q2⟩ | ⟨q1, q2, q3⟩
    · obtain ⟨r1, r2, r3, r4⟩ := h.1 q1
      have h9 := (oqWi_is (g := g) (a := (s.1 71 2).toInt) (b := (s.1 71 4).toInt) (i := 9) (by decide)).mp r2
      omega
    · rw [q2, q3]
      exact h.2 q1
/-- behind ], ahead of its [ -/
def oqI3 (g : Int → Int) (p q : Int) (c0 : oqCf) (t : oS) : Prop := (t.1 71 5).toInt = 0 → oqTo g p q c0 (2, (t.1 71 2).toInt - 1, (t.1 71 4).toInt, (t.1 71 48).toInt, oqSg (t.1 103) 0 (t.1 71 47).toNatClampNeg) ∧ oqNW (t.1 103) (t.1 71 47).toNatClampNeg
theorem oqI3_of {z : Int32} (h : oqTt g p q c0 2 s) (hA : oqSk g (s.1 71 2).toInt = (s.1 71 2).toInt) (hz : z.toInt = (s.1 71 2).toInt + 1) : oqI3 g p q c0 (pI s 71 2 z) := fun hb => by
  have hb' : (s.1 71 5).toInt = 0 := hb
  obtain ⟨q1, q2⟩ := h.1 hb'
  rw [hA] at q1
  show oqTo g p q c0 (2, z.toInt - 1, (s.1 71 4).toInt, (s.1 71 48).toInt, oqSg (s.1 103) 0 (s.1 71 47).toNatClampNeg) ∧ oqNW (s.1 103) (s.1 71 47).toNatClampNeg
  rw [hz, show (s.1 71 2).toInt + 1 - 1 = (s.1 71 2).toInt by omega]
  exact ⟨q1, q2⟩
theorem oqI3_drop (h : oqI3 g p q c0 s) (hs : (s.1 71 5).toInt = 0) (hd : oDrop s u) (h1 : 1 ≤ (s.1 71 47).toInt) (ht : oTop s = 14 ∨ oTop s = 15) : oqI3 g p q c0 u ∧ oqTN u := by
  obtain ⟨z, z', hz, hz', rfl⟩ := hd
  have e1 := n_nat z
  have e4 := n_nat (s.1 71 47)
  have ew : (s.1 71 47).toNatClampNeg = z.toNatClampNeg + 1 := by omega
  have et : oTop s = (s.1 103 z.toNatClampNeg).toInt := by unfold oTop; rw [← hz, e1]
  obtain ⟨q1, q2⟩ := h hs
  refine ⟨fun hb => ?_, fun _ => ?_⟩
  · show oqTo g p q c0 (2, (s.1 71 2).toInt - 1, (s.1 71 4).toInt, (s.1 71 48).toInt, oqSg (s.1 103) 0 z.toNatClampNeg) ∧ oqNW (s.1 103) z.toNatClampNeg
    rw [ew, oqSg_up, ← et, oqCd_no (by omega), List.nil_append] at q1
    exact ⟨q1, oqNW_le (by omega) q2⟩
  · show z.toInt ≤ 0 ∨ (s.1 103 (z.toInt - 1).toNat).toInt ≠ 16
    by_cases hz0 : z.toInt ≤ 0
    · exact Or.inl hz0
    · refine Or.inr (fun h16 => ?_)
      have h9 := q2 (z.toInt - 1).toNat (by omega) h16
      rw [show (z.toInt - 1).toNat + 1 = z.toNatClampNeg by omega] at h9
      omega
theorem oqWi_93 {a b : Int} (hA : oqSk g a = a) (hg : ¬ (97 ≤ g a ∧ g a ≤ 122)) : oqWi g a b ≠ 7 ∧ oqWi g a b ≠ 8 := by
  have h := oqWi_let (g := g) (a := a) (b := b) (by rw [hA]; exact hg)
  omega
/-- ] -/
theorem oqI_cl {z z2 : Int32} (h : oqI3 g p q c0 s) (hs : (s.1 71 5).toInt = 0) (hA : oqSk g ((s.1 71 2).toInt - 1) = (s.1 71 2).toInt - 1) (hg : g ((s.1 71 2).toInt - 1) = 93) (h1 : 1 ≤ (s.1 71 47).toInt) (hz : z.toInt = (s.1 71 47).toInt - 1) (hz2 : z2.toInt = (s.1 71 48).toInt - 1) (ht : oTop s = 25) : oqTt g p q c0 2 (pI (pI s 71 47 z) 71 48 z2) := by
  have e1 := n_nat z
  have e4 := n_nat (s.1 71 47)
  have ew : (s.1 71 47).toNatClampNeg = z.toNatClampNeg + 1 := by omega
  have et : oTop s = (s.1 103 z.toNatClampNeg).toInt := by unfold oTop; rw [← hz, e1]
  obtain ⟨q1, q2⟩ := h hs
  rw [ew, oqSg_up, ← et, oqCd_25 ht] at q1
  have hw := oqWi_93 (b := (s.1 71 4).toInt) hA (by omega)
  refine ⟨fun _ => ?_, fun hb => absurd hs hb⟩
  show oqTo g p q c0 (2, oqSk g (s.1 71 2).toInt, (s.1 71 4).toInt, z2.toInt, oqSg (s.1 103) 0 z.toNatClampNeg) ∧ oqNW (s.1 103) z.toNatClampNeg
  refine ⟨q1.tr (oqTo.one ?_), oqNW_le (by omega) q2⟩
  show oqPs g p q (2, (s.1 71 2).toInt - 1, (s.1 71 4).toInt, (s.1 71 48).toInt, 3 :: oqSg (s.1 103) 0 z.toNatClampNeg) = _
  rw [oqf_end hw, if_pos hg, hz2, show (s.1 71 2).toInt - 1 + 1 = (s.1 71 2).toInt by omega]
theorem oqI_nn (h : oqTt g p q c0 m s) (hs : (s.1 71 5).toInt = 0) (hT : oqTN s) (h0 : 0 ≤ (s.1 71 47).toInt) : oqNN (oqSg (s.1 103) 0 (s.1 71 47).toNatClampNeg) := oqSg_nn (h.1 hs).2 (oqTN_top hT hs rfl h0)
theorem oqs_and {a b o : Int} {K : List Nat} (hK : oqNN K) (hw : oqWi g a b = 8) : oqTo g p q (2, a, b, o, K) (0, oqSk g (oqHa g a 8), oqHa g a 8, o, K) := oqTo.one (by
  rw [oqPs_2, oqP2_nn hK]
  exact if_pos hw)
theorem oqs_or {a b o : Int} {K : List Nat} (hK : oqNN K) (hw : oqWi g a b = 7) : oqTo g p q (2, a, b, o, K) (0, oqSk g (oqHa g a 7), oqHa g a 7, o, K) := oqTo.one (by
  rw [oqPs_2, oqP2_nn hK]
  exact (if_neg (by omega)).trans (if_pos hw))
theorem oqI_it {x : Nat} (hQ : oQ 9999 x s) (hs : (s.1 71 5).toInt = 0) : ∀ j, j < (s.1 71 47).toNatClampNeg → (s.1 103 j).toInt = 14 ∨ (s.1 103 j).toInt = 15 ∨ (s.1 103 j).toInt = 16 ∨ (s.1 103 j).toInt = 25 := fun j hj => by
  obtain ⟨g1, g2, g3, g4, g5, g6, g7⟩ := (hQ.2 hs).2
  exact (g3 j hj).1 (by omega)
theorem oqI_tp {x : Nat} (hQ : oQ 9999 x s) (hs : (s.1 71 5).toInt = 0) (h1 : 1 ≤ (s.1 71 47).toInt) : oTop s = 14 ∨ oTop s = 15 ∨ oTop s = 16 ∨ oTop s = 25 := by
  have e4 := n_nat (s.1 71 47)
  exact oqI_it hQ hs ((s.1 71 47).toInt - 1).toNat (by omega)
/-- a [ stands open where the text doesn't go on -/
theorem oqI_sqF {x : Nat} (h : oqTt g p q c0 2 s) (hs : (s.1 71 5).toInt = 0) (hT : oqTN s) (hQ : oQ 9999 x s) (hS : oHS s) (h0 : 0 ≤ (s.1 71 47).toInt) (hg : g (oqSk g (s.1 71 2).toInt) ≠ 93) (hw : oqWi g (oqSk g (s.1 71 2).toInt) (s.1 71 4).toInt ≠ 7 ∧ oqWi g (oqSk g (s.1 71 2).toInt) (s.1 71 4).toInt ≠ 8) (hb : (u.1 71 5).toInt = 1) (hp : (u.1 71 6).toInt = oqSk g (s.1 71 2).toInt) : oqTt g p q c0 m' u := by
  have e4 := n_nat (s.1 71 47)
  obtain ⟨q1, q2⟩ := h.1 hs
  obtain ⟨j, j1, j2⟩ := hS
  obtain ⟨L, hL⟩ := oqSg_sq q2 (oqTN_top hT hs rfl h0) (oqI_it hQ hs) ⟨j, by omega, j2⟩
  rw [hL] at q1
  refine ⟨fun h9 => by omega, fun _ => ?_⟩
  rw [hb, hp]
  exact q1.tr (oqTo.one (by rw [oqf_end hw, if_neg hg]))
/-- the end of a test -/
def oqE8 (g : Int → Int) (p q : Int) (c0 : oqCf) (t : oS) : Prop := ((t.1 71 5).toInt = 0 → oqTo g p q c0 (8, oqSk g (t.1 71 2).toInt, (t.1 71 4).toInt, (t.1 71 48).toInt, [])) ∧ ((t.1 71 5).toInt ≠ 0 → oqTo g p q c0 (9, (t.1 71 6).toInt, (t.1 71 5).toInt, 0, []))
theorem oqE8_of (h : oqTt g p q c0 2 s) (hW : (s.1 71 5).toInt = 0 → (s.1 71 47).toInt ≤ 0) (hw : (s.1 71 5).toInt = 0 → oqWi g (oqSk g (s.1 71 2).toInt) (s.1 71 4).toInt ≠ 7 ∧ oqWi g (oqSk g (s.1 71 2).toInt) (s.1 71 4).toInt ≠ 8) : oqE8 g p q c0 s := by
  refine ⟨fun hb => ?_, h.2⟩
  have e4 := n_nat (s.1 71 47)
  have h1 := hW hb
  obtain ⟨q1, q2⟩ := h.1 hb
  have eW : (s.1 71 47).toNatClampNeg = 0 := by omega
  rw [eW] at q1
  have hw' := hw hb
  refine q1.tr (oqTo.one ?_)
  show oqPs g p q (2, oqSk g (s.1 71 2).toInt, (s.1 71 4).toInt, (s.1 71 48).toInt, []) = _
  rw [oqPs_2, oqP2_nn oqNN_0]
  exact (if_neg hw'.2).trans (if_neg hw'.1)
end SIM2
theorem oHS_NS {s u : oS} (h : oHS u) (hr : u.1 103 = s.1 103) (hw : (u.1 71 47).toInt = (s.1 71 47).toInt) (hn : oNS s) : False := by
  obtain ⟨j, h1, h2⟩ := h
  rw [hr] at h2
  exact hn j (by omega) h2
