/-- a test at work: the codes ahead of k are run -/
def oHd (i k : Int32) (s : oS) : Prop := oOk (s.1 102) (s.1 105 i.toNatClampNeg).toNatClampNeg (s.1 106 i.toNatClampNeg).toNatClampNeg ∧ (s.1 106 i.toNatClampNeg).toNatClampNeg ≤ 1600 ∧ (s.1 105 i.toNatClampNeg).toNatClampNeg ≤ k.toNatClampNeg ∧ k.toNatClampNeg ≤ (s.1 106 i.toNatClampNeg).toNatClampNeg ∧ oRun (s.1 102) (s.1 105 i.toNatClampNeg).toNatClampNeg (k.toNatClampNeg - (s.1 105 i.toNatClampNeg).toNatClampNeg) = some (s.1 71 58).toNatClampNeg
theorem oHd_0 {s : oS} {i v z : Int32} (h : oBI s) (e : (pI s 71 58 z).1 105 i.toNatClampNeg = v) (hz : z.toInt = 0) (hk : (0 ≤ i.toInt ∧ i.toInt < (s.1 104 0).toInt) ∨ (12 ≤ i.toInt ∧ i.toInt < 12 + (s.1 104 1).toInt)) : oHd i v (pI s 71 58 z) := by
  have n1 := n_nat i
  have n2 := n_nat z
  have n3 := n_nat (s.1 104 0)
  have n4 := n_nat (s.1 104 1)
  have e' : s.1 105 i.toNatClampNeg = v := e
  obtain ⟨h1, h2⟩ : oOk (s.1 102) (s.1 105 i.toNatClampNeg).toNatClampNeg (s.1 106 i.toNatClampNeg).toNatClampNeg ∧ (s.1 106 i.toNatClampNeg).toNatClampNeg ≤ 1600 := by
    rcases hk with hk | hk
    · have := h 0 (by omega) i.toNatClampNeg (by omega)
      rw [show 12 * 0 + i.toNatClampNeg = i.toNatClampNeg by omega] at this
      exact this
    · have := h 1 (by omega) (i.toNatClampNeg - 12) (by omega)
      rw [show 12 * 1 + (i.toNatClampNeg - 12) = i.toNatClampNeg by omega] at this
      exact this
  have hle : v.toNatClampNeg ≤ (s.1 106 i.toNatClampNeg).toNatClampNeg := by
    rw [← e']
    exact h1.1
  refine ⟨h1, h2, ?_, hle, ?_⟩
  · show (s.1 105 i.toNatClampNeg).toNatClampNeg ≤ v.toNatClampNeg
    rw [e']
    exact Nat.le_refl _
  · show oRun (s.1 102) (s.1 105 i.toNatClampNeg).toNatClampNeg (v.toNatClampNeg - (s.1 105 i.toNatClampNeg).toNatClampNeg) = some z.toNatClampNeg
    rw [e', Nat.sub_self, show z.toNatClampNeg = 0 by omega]
    rfl
theorem oHd_one {s : oS} {i k v : Int32} (h : oHd i k s) (h0 : 0 ≤ k.toInt) (hlt : k.toInt < (s.1 106 i.toNatClampNeg).toInt) (ev : s.1 102 k.toNatClampNeg = v) : oRun (s.1 102) (s.1 105 i.toNatClampNeg).toNatClampNeg (k.toNatClampNeg + 1 - (s.1 105 i.toNatClampNeg).toNatClampNeg) = oOne v.toInt (s.1 71 58).toNatClampNeg ∧ ∃ d', oOne v.toInt (s.1 71 58).toNatClampNeg = some d' := by
  obtain ⟨h1, h2, h3, h4, h5⟩ := h
  have n1 := n_nat k
  have n2 := n_nat (s.1 106 i.toNatClampNeg)
  have e : k.toNatClampNeg + 1 - (s.1 105 i.toNatClampNeg).toNatClampNeg = (k.toNatClampNeg - (s.1 105 i.toNatClampNeg).toNatClampNeg) + 1 := by omega
  have r : oRun (s.1 102) (s.1 105 i.toNatClampNeg).toNatClampNeg (k.toNatClampNeg + 1 - (s.1 105 i.toNatClampNeg).toNatClampNeg) = oOne v.toInt (s.1 71 58).toNatClampNeg := by
    rw [e]
    show (oRun _ _ _).bind _ = _
    rw [h5, show (s.1 105 i.toNatClampNeg).toNatClampNeg + (k.toNatClampNeg - (s.1 105 i.toNatClampNeg).toNatClampNeg) = k.toNatClampNeg by omega, ev]
    rfl
  refine ⟨r, ?_⟩
  obtain ⟨_, d, hd⟩ := h1
  obtain ⟨d', hd'⟩ := oRun_pre (m := k.toNatClampNeg + 1 - (s.1 105 i.toNatClampNeg).toNatClampNeg) hd (by omega)
  exact ⟨d', by rw [← r]; exact hd'⟩
theorem oHd_f {s : oS} {i k v : Int32} (h : oHd i k s) (h0 : 0 ≤ k.toInt) (hlt : k.toInt < (s.1 106 i.toNatClampNeg).toInt) (ev : s.1 102 k.toNatClampNeg = v) (hp : 0 ≤ (s.1 71 58).toInt) : (s.1 71 58).toInt ≤ 1600 ∧ (40 ≤ v.toInt → v.toInt < 1000 → v.toInt ≤ 47) ∧ (v.toInt = 16 → 1 ≤ (s.1 71 58).toInt) ∧ (v.toInt < 40 → v.toInt ≠ 16 → v.toInt ≠ 17 → 2 ≤ (s.1 71 58).toInt) := by
  obtain ⟨d', hd⟩ := (oHd_one h h0 hlt ev).2
  have n1 := n_nat (s.1 71 58)
  have hle := oRun_le h.2.2.2.2
  have h2 := h.2.1
  have h4 := h.2.2.2.1
  refine ⟨by omega, fun h6 h7 => ?_, fun h6 => ?_, fun h6 h7 h8 => ?_⟩
  · by_cases h47 : v.toInt ≤ 47
    · exact h47
    · unfold oOne at hd
      rw [if_neg (by omega), if_neg (by omega), if_pos (by omega)] at hd
      cases hd
  · by_cases h1 : 1 ≤ (s.1 71 58).toNatClampNeg
    · omega
    · unfold oOne at hd
      rw [if_neg (by omega), if_pos (by omega), if_neg h1] at hd
      cases hd
  · by_cases h1 : 2 ≤ (s.1 71 58).toNatClampNeg
    · omega
    · unfold oOne at hd
      rw [if_neg (by omega), if_neg (by omega), if_neg (by omega), if_neg h1] at hd
      cases hd
theorem oHd_next {s u : oS} {i k k' v : Int32} (h : oHd i k s) (h0 : 0 ≤ k.toInt) (hlt : k.toInt < (s.1 106 i.toNatClampNeg).toInt) (ev : s.1 102 k.toNatClampNeg = v) (hp : 0 ≤ (s.1 71 58).toInt) (hk : k'.toInt = k.toInt + 1) (e1 : u.1 102 = s.1 102) (e2 : u.1 105 = s.1 105) (e3 : u.1 106 = s.1 106) (hc : ((1000 ≤ v.toInt ∨ (40 ≤ v.toInt ∧ v.toInt ≤ 47) ∨ v.toInt = 17) ∧ (u.1 71 58).toInt = (s.1 71 58).toInt + 1) ∨ (v.toInt = 16 ∧ (u.1 71 58).toInt = (s.1 71 58).toInt ∧ 1 ≤ (s.1 71 58).toInt) ∨ (v.toInt < 40 ∧ v.toInt ≠ 16 ∧ v.toInt ≠ 17 ∧ 2 ≤ (s.1 71 58).toInt ∧ (u.1 71 58).toInt = (s.1 71 58).toInt - 1)) : oHd i k' u := by
  have r := (oHd_one h h0 hlt ev).1
  obtain ⟨h1, h2, h3, h4, h5⟩ := h
  have n1 := n_nat k
  have n2 := n_nat k'
  have n3 := n_nat (s.1 71 58)
  have n4 := n_nat (u.1 71 58)
  have n5 := n_nat (s.1 106 i.toNatClampNeg)
  have ek : k'.toNatClampNeg = k.toNatClampNeg + 1 := by omega
  unfold oHd
  rw [e1, e2, e3, ek]
  refine ⟨h1, h2, by omega, by omega, ?_⟩
  rw [r]
  rcases hc with hc | hc | hc
  · rw [oOne_op hc.1]
    congr 1
    omega
  · rw [oOne_nt hc.1 (by omega)]
    congr 1
    omega
  · rw [oOne_jn (by omega) (by omega)]
    congr 1
    omega
/-- what is picked lies among the first forty -/
def oPk (v : Int) (s : oS) : Prop := (0 ≤ (s.1 112 0).toInt ∧ (s.1 112 0).toInt ≤ 39) ∧ (0 ≤ (s.1 112 1).toInt ∧ (s.1 112 1).toInt ≤ 39) ∧ (v = 4 → 0 ≤ (s.1 112 2).toInt ∧ (s.1 112 2).toInt ≤ 39)
theorem oPk_fr {M : List (Nat × Nat)} {v : Int} {s u : oS} (hf : oFr M s u) (hm : oinK M (okd 112) = false) (h : oPk v s) : oPk v u := by
  unfold oPk
  rw [oFr_row hf (c := 112) rfl hm]
  exact h
theorem oPk_3 {V : Int} {s : oS} {i0 i1 a b : Int32} (h0 : i0.toInt = 0) (h1 : i1.toInt = 1) (hV : V = 3) (ha : 0 ≤ a.toInt ∧ a.toInt ≤ 39) (hb : 0 ≤ b.toInt ∧ b.toInt ≤ 39) : oPk V (pI (pI s 112 i0.toNatClampNeg a) 112 i1.toNatClampNeg b) := by
  have n0 := n_nat i0
  have n1 := n_nat i1
  rw [show i0.toNatClampNeg = 0 by omega, show i1.toNatClampNeg = 1 by omega]
  exact ⟨ha, hb, fun h => by omega⟩
theorem oPk_4 {V : Int} {s : oS} {i0 i1 i2 a b c : Int32} (h0 : i0.toInt = 0) (h1 : i1.toInt = 1) (h2 : i2.toInt = 2) (ha : 0 ≤ a.toInt ∧ a.toInt ≤ 39) (hb : 0 ≤ b.toInt ∧ b.toInt ≤ 39) (hc : 0 ≤ c.toInt ∧ c.toInt ≤ 39) : oPk V (pI (pI (pI s 112 i0.toNatClampNeg a) 112 i1.toNatClampNeg b) 112 i2.toNatClampNeg c) := by
  have n0 := n_nat i0
  have n1 := n_nat i1
  have n2 := n_nat i2
  rw [show i0.toNatClampNeg = 0 by omega, show i1.toNatClampNeg = 1 by omega, show i2.toNatClampNeg = 2 by omega]
  exact ⟨ha, hb, fun _ => hc⟩
theorem oPk_at {V : Int} {s : oS} {j v : Int32} (h : 3 ≤ V → oPk V s) (hV : 2 ≤ V ∧ V ≤ 4) (hj : 0 ≤ j.toInt ∧ j.toInt ≤ V - 2) (e : s.1 112 j.toNatClampNeg = v) (h2 : V = 2 → 0 ≤ (s.1 112 0).toInt ∧ (s.1 112 0).toInt < 4500) : 0 ≤ v.toInt ∧ v.toInt < 4500 := by
  have n0 := n_nat j
  subst e
  by_cases h3 : 3 ≤ V
  · obtain ⟨a, b, c⟩ := h h3
    have : j.toNatClampNeg = 0 ∨ j.toNatClampNeg = 1 ∨ j.toNatClampNeg = 2 := by omega
    rcases this with e | e | e
    · rw [e]; omega
    · rw [e]; omega
    · rw [e]
      have := c (by omega)
      omega
  · rw [show j.toNatClampNeg = 0 by omega]
    exact h2 (by omega)
theorem oIxS {s : oS} {a : Nat} {i j v w : Int32} (h : s.1 a i.toNatClampNeg = v) (h' : s.1 a j.toNatClampNeg = w) : i.toInt = j.toInt → v.toInt = w.toInt := by
  intro e
  have n0 := n_nat i
  have n1 := n_nat j
  rw [← h, ← h', show i.toNatClampNeg = j.toNatClampNeg by omega]
theorem oIx1 {s : oS} {i w : Int32} {a : Nat} (h : s.1 a i.toNatClampNeg = w) (h0 : i.toInt = 1) : (s.1 a 1).toInt = w.toInt := by
  have e3 := n_nat i
  rw [← h, show i.toNatClampNeg = 1 by omega]
theorem n_shl1 {x y z : Int32} (h : z = x <<< (y &&& 31)) (hx : x.toInt = 1) (hy : 0 ≤ y.toInt ∧ y.toInt ≤ 12) : 1 ≤ z.toInt ∧ z.toInt ≤ 4096 := by
  have ex : x = 1 := Int32.toInt_inj.mp (by rw [hx]; rfl)
  have key : ∀ n : Nat, n < 13 → 1 ≤ ((1 : Int32) <<< (Int32.ofNat n &&& 31)).toInt ∧ ((1 : Int32) <<< (Int32.ofNat n &&& 31)).toInt ≤ 4096 := by decide +kernel
  have ey : y = Int32.ofNat y.toInt.toNat := by
    apply Int32.toInt_inj.mp
    rw [n_ofNat (z := Int32.ofNat y.toInt.toNat) rfl (by omega)]
    omega
  rw [h, ex, ey]
  exact key _ (by omega)
theorem n_inc1 {x y z : Int32} (h : z = x + y) (hy : y.toInt = 1) : z.toInt = x.toInt + 1 ∨ (x.toInt = 2147483647 ∧ z.toInt = -2147483648) := by
  have r := n_rng x
  by_cases hq : x.toInt = 2147483647
  · right
    refine ⟨hq, ?_⟩
    rw [h, Int32.toInt_add, hy, hq]
    decide
  · left
    have := n_add h (by omega) (by omega)
    omega
