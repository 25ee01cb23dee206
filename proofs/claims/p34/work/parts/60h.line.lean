/-! one statement of the line, and the line -/
noncomputable def oqA1 (g : Int → Int) (a b : Int) : Int := if oqH g a b 0 = 1 then oqNa g (oqHa g a 0) else oqHa g a 2
noncomputable def oqA2 (g : Int → Int) (a b : Int) : Int := oqHa g (oqA1 g a b) 1
noncomputable def oqTv (g : Int → Int) (a b : Int) : Int := oqNv g (oqA2 g a b)
noncomputable def oqTb (g : Int → Int) (a b : Int) : Int := oqNa g (oqA2 g a b)
noncomputable def oqTa (g : Int → Int) (a b : Int) : Int := oqSk g (oqTb g a b) + 1
noncomputable def oqK1 (g : Int → Int) (a : Int) : Int := oqNk g (oqHa g a 0) (oqHa g a 0) 0 28
noncomputable def oqK2 (g : Int → Int) (a b T : Int) : Int := oqNk g (oqA2 g a b) (oqA2 g a b) 1 (min 16 (96 - T))
/-- its fault, 0 without -/
noncomputable def oqTk (g : Int → Int) (a b T : Int) : Int := if oqH g a b 0 = 1 ∧ oqK1 g a ≠ 0 then oqK1 g a else if oqH g a b 0 ≠ 1 ∧ oqH g a b 2 ≠ 1 then 1 else if oqH g (oqA1 g a b) (oqA1 g a b) 1 ≠ 1 then 1 else if oqK2 g a b T ≠ 0 then oqK2 g a b T else if g (oqSk g (oqTb g a b)) ≠ 59 then 1 else 0
noncomputable def oqTp (g : Int → Int) (a b T : Int) : Int := if oqH g a b 0 = 1 ∧ oqK1 g a ≠ 0 then oqNp g (oqHa g a 0) (oqHa g a 0) else if oqH g a b 0 ≠ 1 ∧ oqH g a b 2 ≠ 1 then oqSk g a else if oqH g (oqA1 g a b) (oqA1 g a b) 1 ≠ 1 then oqSk g (oqA1 g a b) else if oqK2 g a b T ≠ 0 then oqNp g (oqA2 g a b) (oqA2 g a b) else oqSk g (oqTb g a b)
theorem oqT_1 {g : Int → Int} {a b T : Int} (h0 : oqH g a b 0 = 1) (hk : oqK1 g a ≠ 0) : oqTk g a b T = oqK1 g a ∧ oqTp g a b T = oqNp g (oqHa g a 0) (oqHa g a 0) := ⟨if_pos ⟨h0, hk⟩, if_pos ⟨h0, hk⟩⟩
theorem oqT_2 {g : Int → Int} {a b T : Int} (h0 : oqH g a b 0 = 0) (h2 : oqH g a b 2 = 0) : oqTk g a b T = 1 ∧ oqTp g a b T = oqSk g a := by
  have c1 : ¬ (oqH g a b 0 = 1 ∧ oqK1 g a ≠ 0) := by omega
  have c2 : oqH g a b 0 ≠ 1 ∧ oqH g a b 2 ≠ 1 := by omega
  exact ⟨(if_neg c1).trans (if_pos c2), (if_neg c1).trans (if_pos c2)⟩
abbrev oqHD (g : Int → Int) (a b : Int) : Prop := (oqH g a b 0 = 1 ∧ oqK1 g a = 0) ∨ (oqH g a b 0 = 0 ∧ oqH g a b 2 = 1)
theorem oqT_3 {g : Int → Int} {a b T : Int} (hd : oqHD g a b) (h : oqH g (oqA1 g a b) (oqA1 g a b) 1 = 0) : oqTk g a b T = 1 ∧ oqTp g a b T = oqSk g (oqA1 g a b) := by
  have c1 : ¬ (oqH g a b 0 = 1 ∧ oqK1 g a ≠ 0) := by unfold oqHD at hd; omega
  have c2 : ¬ (oqH g a b 0 ≠ 1 ∧ oqH g a b 2 ≠ 1) := by unfold oqHD at hd; omega
  have c3 : oqH g (oqA1 g a b) (oqA1 g a b) 1 ≠ 1 := by omega
  exact ⟨(if_neg c1).trans ((if_neg c2).trans (if_pos c3)), (if_neg c1).trans ((if_neg c2).trans (if_pos c3))⟩
theorem oqT_4 {g : Int → Int} {a b T : Int} (hd : oqHD g a b) (h : oqH g (oqA1 g a b) (oqA1 g a b) 1 = 1) (hk : oqK2 g a b T ≠ 0) : oqTk g a b T = oqK2 g a b T ∧ oqTp g a b T = oqNp g (oqA2 g a b) (oqA2 g a b) := by
  have c1 : ¬ (oqH g a b 0 = 1 ∧ oqK1 g a ≠ 0) := by unfold oqHD at hd; omega
  have c2 : ¬ (oqH g a b 0 ≠ 1 ∧ oqH g a b 2 ≠ 1) := by unfold oqHD at hd; omega
  have c3 : ¬ (oqH g (oqA1 g a b) (oqA1 g a b) 1 ≠ 1) := by omega
  exact ⟨(if_neg c1).trans ((if_neg c2).trans ((if_neg c3).trans (if_pos hk))), (if_neg c1).trans ((if_neg c2).trans ((if_neg c3).trans (if_pos hk)))⟩
theorem oqT_5 {g : Int → Int} {a b T : Int} (hd : oqHD g a b) (h : oqH g (oqA1 g a b) (oqA1 g a b) 1 = 1) (hk : oqK2 g a b T = 0) (hs : g (oqSk g (oqTb g a b)) ≠ 59) : oqTk g a b T = 1 ∧ oqTp g a b T = oqSk g (oqTb g a b) := by
  have c1 : ¬ (oqH g a b 0 = 1 ∧ oqK1 g a ≠ 0) := by unfold oqHD at hd; omega
  have c2 : ¬ (oqH g a b 0 ≠ 1 ∧ oqH g a b 2 ≠ 1) := by unfold oqHD at hd; omega
  have c3 : ¬ (oqH g (oqA1 g a b) (oqA1 g a b) 1 ≠ 1) := by omega
  have c4 : ¬ (oqK2 g a b T ≠ 0) := by omega
  exact ⟨(if_neg c1).trans ((if_neg c2).trans ((if_neg c3).trans ((if_neg c4).trans (if_pos hs)))), (if_neg c1).trans ((if_neg c2).trans ((if_neg c3).trans (if_neg c4)))⟩
theorem oqT_0 {g : Int → Int} {a b T : Int} (hd : oqHD g a b) (h : oqH g (oqA1 g a b) (oqA1 g a b) 1 = 1) (hk : oqK2 g a b T = 0) (hs : g (oqSk g (oqTb g a b)) = 59) : oqTk g a b T = 0 := by
  have c1 : ¬ (oqH g a b 0 = 1 ∧ oqK1 g a ≠ 0) := by unfold oqHD at hd; omega
  have c2 : ¬ (oqH g a b 0 ≠ 1 ∧ oqH g a b 2 ≠ 1) := by unfold oqHD at hd; omega
  have c3 : ¬ (oqH g (oqA1 g a b) (oqA1 g a b) 1 ≠ 1) := by omega
  have c4 : ¬ (oqK2 g a b T ≠ 0) := by omega
  have c5 : ¬ (g (oqSk g (oqTb g a b)) ≠ 59) := by omega
  exact (if_neg c1).trans ((if_neg c2).trans ((if_neg c3).trans ((if_neg c4).trans (if_neg c5))))
theorem oqA1_s {g : Int → Int} {a b : Int} (h : oqH g a b 0 = 1) : oqA1 g a b = oqNa g (oqHa g a 0) := if_pos h
theorem oqA1_r {g : Int → Int} {a b : Int} (h : oqH g a b 0 = 0) : oqA1 g a b = oqHa g a 2 := if_neg (by omega)
/-- what stands behind blanks stands there too -/
theorem oqSk_sk {g : Int → Int} {a : Int} (h : g (oqSk g a) ≠ 32 ∧ g (oqSk g a) ≠ 10) : oqSk g (oqSk g a) = oqSk g a := oqSk_id (by omega)
theorem oqH_sk {g : Int → Int} {a b : Int} {i : Nat} (h : oqSk g (oqSk g a) = oqSk g a) : oqH g (oqSk g a) b i = oqH g a b i := by
  unfold oqH oqHp
  rw [h]
theorem oqHa_sk {g : Int → Int} {a : Int} {i : Nat} (h : oqSk g (oqSk g a) = oqSk g a) : oqHa g (oqSk g a) i = oqHa g a i := by
  unfold oqHa
  rw [h]
noncomputable def oqRs (g : Int → Int) : Nat → Int → Int → Int → Int → Int × Int × Int
  | 0, _, _, _, _ => (0, 0, 0)
  | k + 1, a, b, T, n => if g (oqSk g a) = -1 then (n, 0, -1) else if n = 24 then (-1, 5, oqSk g a) else if oqTk g (oqSk g a) b T ≠ 0 then (-1, oqTk g (oqSk g a) b T, oqTp g (oqSk g a) b T) else oqRs g k (oqTa g (oqSk g a) b) (oqTb g (oqSk g a) b) (T + oqTv g (oqSk g a) b) (n + 1)
noncomputable def oqR1 (g : Int → Int) : Int := (oqRs g 25 0 (-1) 0 0).1
noncomputable def oqR2 (g : Int → Int) : Int := (oqRs g 25 0 (-1) 0 0).2.1
noncomputable def oqR3 (g : Int → Int) : Int := (oqRs g 25 0 (-1) 0 0).2.2
/-- so far it goes on from a, glue b, T ticks, n statements -/
def oqRn (g : Int → Int) (a b T n : Int) : Prop := 0 ≤ n ∧ n ≤ 24 ∧ oqRs g 25 0 (-1) 0 0 = oqRs g (25 - n).toNat a b T n
theorem oqRn_0 {g : Int → Int} {a b T n : Int} (ha : a = 0) (hb : b = -1) (hT : T = 0) (hn : n = 0) : oqRn g a b T n := by
  subst ha hb hT hn
  exact ⟨by omega, by omega, rfl⟩
theorem oqRn_u {g : Int → Int} {a b T n : Int} (H : oqRn g a b T n) : oqRs g 25 0 (-1) 0 0 = if g (oqSk g a) = -1 then (n, 0, -1) else if n = 24 then (-1, 5, oqSk g a) else if oqTk g (oqSk g a) b T ≠ 0 then (-1, oqTk g (oqSk g a) b T, oqTp g (oqSk g a) b T) else oqRs g (24 - n).toNat (oqTa g (oqSk g a) b) (oqTb g (oqSk g a) b) (T + oqTv g (oqSk g a) b) (n + 1) := by
  obtain ⟨h0, h1, h⟩ := H
  rw [h, show (25 - n).toNat = (24 - n).toNat + 1 by omega]
  rfl
theorem oqRn_nx {g : Int → Int} {a b T n a' b' T' n' : Int} (H : oqRn g a b T n) (h1 : g (oqSk g a) ≠ -1) (h2 : n < 24) (hk : oqTk g (oqSk g a) b T = 0) (ha : a' = oqTa g (oqSk g a) b) (hb : b' = oqTb g (oqSk g a) b) (hT : T' = T + oqTv g (oqSk g a) b) (hn : n' = n + 1) : oqRn g a' b' T' n' := by
  have h0 := H.1
  have h := oqRn_u H
  rw [if_neg h1, if_neg (by omega), if_neg (by omega)] at h
  subst ha hb hT hn
  exact ⟨by omega, by omega, by rw [h, show (25 - (n + 1)).toNat = (24 - n).toNat by omega]⟩
theorem oqR_of {g : Int → Int} {x y z : Int} (h : oqRs g 25 0 (-1) 0 0 = (x, y, z)) : oqR1 g = x ∧ oqR2 g = y ∧ oqR3 g = z := by
  unfold oqR1 oqR2 oqR3
  rw [h]
  exact ⟨rfl, rfl, rfl⟩
theorem oqRn_end {g : Int → Int} {a b T n : Int} (H : oqRn g a b T n) (h1 : g (oqSk g a) = -1) : oqR1 g = n ∧ oqR2 g = 0 ∧ oqR3 g = -1 := oqR_of (by rw [oqRn_u H, if_pos h1])
theorem oqRn_5 {g : Int → Int} {a b T n : Int} (H : oqRn g a b T n) (h1 : g (oqSk g a) ≠ -1) (hn : n = 24) : oqR1 g = -1 ∧ oqR2 g = 5 ∧ oqR3 g = oqSk g a := oqR_of (by rw [oqRn_u H, if_neg h1, if_pos hn])
theorem oqRn_bad {g : Int → Int} {a b T n : Int} (H : oqRn g a b T n) (h1 : g (oqSk g a) ≠ -1) (hn : n < 24) (hk : oqTk g (oqSk g a) b T ≠ 0) : oqR1 g = -1 ∧ oqR2 g = oqTk g (oqSk g a) b T ∧ oqR3 g = oqTp g (oqSk g a) b T := oqR_of (by rw [oqRn_u H, if_neg h1, if_neg (by omega), if_pos hk])
/-- which own word stands next -/
theorem oqW_no {g : Int → Int} {a b r : Int} (hr : r = -1) (h : ∀ i : Nat, i < 26 → ¬ (oqIs g (oqSk g a) i ∧ oqSk g a ≠ b)) : ∀ i : Nat, i < 26 → (r = (i : Int) ↔ oqH g a b i = 1) := fun i hi => by
  have := oqH_0 (h i hi)
  omega
theorem oqW_yes {g : Int → Int} {a b r : Int} {i0 : Nat} (h0 : i0 < 26) (hr : r = (i0 : Int)) (h : oqIs g (oqSk g a) i0) (hb : oqSk g a ≠ b) : ∀ i : Nat, i < 26 → (r = (i : Int) ↔ oqH g a b i = 1) := fun i hi => by
  constructor
  · intro h1
    have e : i = i0 := by omega
    rw [e]
    exact oqH_1 h hb
  · intro h1
    have e := oqIs_one hi h0 (oqH_is h1).1 h
    rw [e, hr]
theorem oqW_ws {g : Int → Int} {a r w : Int} {i0 : Nat} (hr : r = (i0 : Int)) (hw : w = oqSk g a + (oqWl i0 : Int)) : 0 ≤ r → w = oqSk g a + (oqWl r.toNat : Int) := fun _ => by
  rw [hr, Int.toNat_natCast]
  exact hw
def oqNo (g : Int → Int) (A m : Int) : Prop := ∀ i : Nat, 7 * (i : Int) < m → i < 26 → ¬ oqIs g A i
theorem oqNo_0 {g : Int → Int} {A m : Int} (h : m = 0) : oqNo g A m := fun i h1 _ => by omega
theorem oqNo_nx {g : Int → Int} {A m m' : Int} {i0 : Nat} (h : oqNo g A m) (h0 : m = 7 * (i0 : Int)) (hm : m' = m + 7) (hi : ¬ oqIs g A i0) : oqNo g A m' := fun i h1 h2 => by
  by_cases e : i = i0
  · rw [e]; exact hi
  · exact h i (by omega) h2
