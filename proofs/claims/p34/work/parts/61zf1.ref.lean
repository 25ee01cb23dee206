/-! the reference's made line -/
def owRA (n : Int) (t : oS) : Prop := (t.1 71 38).toInt = n ∧ ∀ j : Nat, (j : Int) < n → (t.1 100 j).toInt = 2
theorem owRA_fr {M : List (Nat × Nat)} {s u : oS} {n : Int} (hf : oFr M s u) (hm : (oin M 12 38 || oinK M 76) = false) (h : owRA n s) : owRA n u := by
  simp only [Bool.or_eq_false_iff] at hm
  refine ⟨?_, fun j hj => ?_⟩
  · rw [(hf 71 38 hm.1).1]; exact h.1
  · rw [oFr_row hf (c := 100) rfl hm.2]; exact h.2 j hj
def owRT (n : Int) (st : Nat → Int) (t : oS) : Prop := (∀ j : Nat, (j : Int) < n → (t.1 99 j).toInt = st j) ∧ ∀ j : Nat, n ≤ (j : Int) → st j = 0
theorem owRT_fr {M : List (Nat × Nat)} {s u : oS} {n : Int} {st : Nat → Int} (hf : oFr M s u) (hm : (oinK M 75) = false) (h : owRT n st s) : owRT n st u := ⟨fun j hj => by rw [oFr_row hf (c := 99) rfl hm]; exact h.1 j hj, h.2⟩
def owRL (n : Int) (st : Nat → Int) (t : oS) : Prop := (t.1 71 42).toInt = 2 * n ∧ (t.1 71 43).toInt = st 0 ∧ (∀ j : Nat, (j : Int) < 2 * n → (t.1 101 j).toInt = (j : Int) / 2) ∧ owRT n st t
theorem owRL_fr {M : List (Nat × Nat)} {s u : oS} {n : Int} {st : Nat → Int} (hf : oFr M s u) (hm : ((oin M 12 42 || oin M 12 43) || (oinK M 75 || oinK M 77)) = false) (h : owRL n st s) : owRL n st u := by
  simp only [Bool.or_eq_false_iff] at hm
  refine ⟨?_, ?_, fun j hj => ?_, owRT_fr hf hm.2.1 h.2.2.2⟩
  · rw [(hf 71 42 hm.1.1).1]; exact h.1
  · rw [(hf 71 43 hm.1.2).1]; exact h.2.1
  · rw [oFr_row hf (c := 101) rfl hm.2.2]; exact h.2.2.1 j hj
theorem owNI_pu {s : oS} {i v : Int32} {x y : Int} (h : ∀ j : Nat, (j : Int) < x → (s.1 101 j).toInt = (j : Int) / 2) (hi : i.toInt = x) (h0 : 0 ≤ x) (hy : y = x + 1) (hv : v.toInt = x / 2) : ∀ j : Nat, (j : Int) < y → ((pI s 101 i.toNatClampNeg v).1 101 j).toInt = (j : Int) / 2 := fun j hj => by
  have hn := n_nat i
  by_cases e : j = i.toNatClampNeg
  · rw [e, pI_self]; omega
  · rw [pI_ne _ _ (Or.inr e)]; exact h j (by omega)
theorem owF0_pu {s : oS} {i v w : Int32} {x y : Int} (h : ∀ j : Nat, (j : Int) < x → (s.1 99 j).toInt = (j : Int) % 2) (hi : i.toInt = x) (h0 : 0 ≤ x) (hy : y = x + 1) (hv : v.toInt = x % 2) : ∀ j : Nat, (j : Int) < y → ((pI (pI s 99 i.toNatClampNeg v) 100 i.toNatClampNeg w).1 99 j).toInt = (j : Int) % 2 := fun j hj => by
  have hn := n_nat i
  rw [pI_ne _ _ (Or.inl (by decide))]
  by_cases e : j = i.toNatClampNeg
  · rw [e, pI_self]; omega
  · rw [pI_ne _ _ (Or.inr e)]; exact h j (by omega)
theorem owF2_pu {s : oS} {i v w : Int32} {x y : Int} (h : ∀ j : Nat, (j : Int) < x → (s.1 100 j).toInt = 2) (hi : i.toInt = x) (h0 : 0 ≤ x) (hy : y = x + 1) (hw : w.toInt = 2) : ∀ j : Nat, (j : Int) < y → ((pI (pI s 99 i.toNatClampNeg v) 100 i.toNatClampNeg w).1 100 j).toInt = 2 := fun j hj => by
  have hn := n_nat i
  by_cases e : j = i.toNatClampNeg
  · rw [e, pI_self]; exact hw
  · rw [pI_ne _ _ (Or.inr e), pI_ne _ _ (Or.inl (by decide))]; exact h j (by omega)
theorem owRT_f0 {t : oS} {n x : Int} (h : ∀ j : Nat, (j : Int) < x → (t.1 99 j).toInt = (j : Int) % 2) (hx : n ≤ x) : owRT n (owF0 n) t := ⟨fun j hj => by unfold owF0; rw [if_pos hj]; exact h j (by omega), fun j hj => by unfold owF0; exact if_neg (by omega)⟩
/-- the next line is being filled: the k-th step has grown -/
def owRG (n r : Int) (st : Nat → Int) (x : Int) (t : oS) : Prop := ∃ (k : Nat) (st' : Nat → Int), (k : Int) < n ∧ owBp st k ≤ r ∧ (∀ j : Nat, k < j → (j : Int) < n → r < owBp st j) ∧ (k : Int) < x ∧ (∀ j : Nat, (j : Int) < x → (t.1 99 j).toInt = st' j) ∧ (∀ j : Nat, j < k → st' j = st j) ∧ st' k = owBp st k ∧ ∀ j : Nat, k < j → (j : Int) < x → st' j = if st' (j - 1) = 0 then 1 else 0
theorem owRG_0 {t : oS} {n r x y : Int} {st : Nat → Int} {k : Nat} {v : Int} (hk : (k : Int) < n) (hx : x = (k : Int) + 1) (hv : v = owBp st k) (hr : v ≤ r) (hb : ∀ j : Nat, y < (j : Int) → (j : Int) < n → r < owBp st j) (hy : y = (k : Int)) (h1 : ∀ j : Nat, j < k → (t.1 99 j).toInt = st j) (h2 : (t.1 99 k).toInt = v) : owRG n r st x t := by
  refine ⟨k, owUs st k v, hk, by omega, fun j a b => hb j (by omega) b, by omega, fun j hj => ?_, fun j hj => if_neg (by omega), (if_pos rfl).trans hv, fun j a b => by omega⟩
  unfold owUs
  by_cases e : j = k
  · rw [if_pos e, e]; exact h2
  · rw [if_neg e]; exact h1 j (by omega)
theorem owRG_nx {s : oS} {n r x y : Int} {st : Nat → Int} {i v p : Int32} (h : owRG n r st x s) (hi : i.toInt = x) (hy : y = x + 1) (hp : ∀ j : Nat, (j : Int) = x - 1 → p.toInt = (s.1 99 j).toInt) (hv : v.toInt = if p.toInt = 0 then 1 else 0) : owRG n r st y (pI s 99 i.toNatClampNeg v) := by
  obtain ⟨k, st', a1, a2, a3, a4, a5, a6, a7, a8⟩ := h
  have hn := n_nat i
  have ne : ∀ j : Nat, j ≠ i.toNatClampNeg → owUs st' i.toNatClampNeg v.toInt j = st' j := fun j hj => if_neg hj
  refine ⟨k, owUs st' i.toNatClampNeg v.toInt, a1, a2, a3, by omega, fun j hj => ?_, fun j hj => ?_, ?_, fun j b1 b2 => ?_⟩
  · by_cases e : j = i.toNatClampNeg
    · rw [e, pI_self]; exact (if_pos rfl).symm
    · rw [pI_ne _ _ (Or.inr e), ne j e]; exact a5 j (by omega)
  · rw [ne j (by omega)]; exact a6 j hj
  · rw [ne k (by omega)]; exact a7
  · rw [ne (j - 1) (by omega)]
    by_cases e : j = i.toNatClampNeg
    · have q : owUs st' i.toNatClampNeg v.toInt j = v.toInt := if_pos e
      rw [q, hv, hp (j - 1) (by omega), a5 (j - 1) (by omega)]
    · rw [ne j e]; exact a8 j b1 (by omega)
def owCu (n : Int) (st : Nat → Int) (j : Nat) : Int := if (j : Int) < n then st j else 0
theorem owCu_y {n : Int} {st : Nat → Int} {j : Nat} (h : (j : Int) < n) : owCu n st j = st j := if_pos h
theorem owCu_n {n : Int} {st : Nat → Int} {j : Nat} (h : n ≤ (j : Int)) : owCu n st j = 0 := if_neg (by omega)
theorem owRG_end {t : oS} {n r x : Int} {st : Nat → Int} (h : owRG n r st x t) (hx : n ≤ x) : ∃ st2, owRT n st2 t ∧ owNx n r st st2 := by
  obtain ⟨k, st', a1, a2, a3, a4, a5, a6, a7, a8⟩ := h
  refine ⟨owCu n st', ⟨fun j hj => ?_, fun j hj => owCu_n hj⟩, k, a1, a2, a3, fun j hj => ?_, ?_, fun j b1 b2 => ?_, fun j hj => owCu_n hj⟩
  · rw [owCu_y hj]; exact a5 j (by omega)
  · rw [owCu_y (by omega)]; exact a6 j hj
  · rw [owCu_y a1]; exact a7
  · rw [owCu_y b2, owCu_y (by omega)]; exact a8 j b1 (by omega)
def owRz (n r : Int) (st : Nat → Int) (t : oS) : Prop := ∃ st', owRL n st' t ∧ owNx n r st st'
/-! notes and steps -/
theorem owOv_m {L c n : Int} (hL : L = 2 * n) : oOv L c = owSp c n := by
  unfold oOv owSp
  subst hL
  congr 1
  by_cases q1 : c % 3 = 1
  · rw [if_pos q1, if_pos q1]; omega
  · rw [if_neg q1, if_neg q1]
theorem owNA_m {s : oS} {n c t : Int} {st : Nat → Int} (h : owRL n st s) (hn : 0 ≤ n ∧ n ≤ 6) (hc : 0 ≤ c ∧ c ≤ 4499) : oNA s c t = owNb c n t := by
  unfold oNA owNb
  rw [h.1, owOv_m (n := n) rfl]
  by_cases h1 : t < c / 180
  · rw [if_pos (Or.inl h1), if_pos (by omega)]
  · rw [if_neg (show ¬ t - c / 180 < 0 by omega)]
    have hix : oIx (2 * n) c t = owBx c n (owIx c (t - c / 180)) := rfl
    rw [hix]
    by_cases h2 : owSp c n ≤ t
    · rw [if_pos (Or.inr h2)]
      unfold owSp at h2
      have : ¬ (0 ≤ owBx c n (owIx c (t - c / 180)) ∧ owBx c n (owIx c (t - c / 180)) < 2 * n) := by
        unfold owBx owIx
        by_cases q1 : c % 3 = 1
        · rw [if_pos q1] at h2 ⊢
          split <;> omega
        · rw [if_neg q1] at h2 ⊢
          by_cases q2 : c % 3 = 2
          · rw [if_pos q2] at h2 ⊢
            split <;> omega
          · rw [if_neg q2] at h2 ⊢
            split <;> omega
      unfold owOn
      rw [if_neg this]
    · rw [if_neg (by omega)]
      unfold owSp at h2
      have : 0 ≤ owBx c n (owIx c (t - c / 180)) ∧ owBx c n (owIx c (t - c / 180)) < 2 * n := by
        unfold owBx owIx
        by_cases q1 : c % 3 = 1
        · rw [if_pos q1] at h2 ⊢
          split <;> omega
        · rw [if_neg q1] at h2 ⊢
          by_cases q2 : c % 3 = 2
          · rw [if_pos q2] at h2 ⊢
            split <;> omega
          · rw [if_neg q2] at h2 ⊢
            split <;> omega
      unfold owOn
      rw [if_pos this, h.2.2.1 _ (by omega)]
      omega
theorem owNb_b {c n t : Int} : -1 ≤ owNb c n t ∧ (owNb c n t < n ∨ owNb c n t = -1) := by
  unfold owNb owOn
  split
  · omega
  · split <;> omega
theorem owSB_m {s : oS} {n c k : Int} {st : Nat → Int} (h : owRL n st s) (hd : owDg n st) (hc : 0 ≤ c ∧ c ≤ 4499) (hk : -1 ≤ k ∧ (k < n ∨ k = -1)) : (oSB s c k).toInt = owTt c n st k := by
  unfold oSB owTt
  by_cases h1 : k = -1
  · rw [if_pos h1, if_neg (by omega)]; rfl
  · have e := h.2.2.2.1 k.toNat (by omega)
    have hz := hd.1 k.toNat
    have h0 := hd.1 0
    have hf := h.2.1
    have hne : s.1 99 k.toNat ≠ -1 := fun q => by
      have q2 := congrArg Int32.toInt q
      have q3 : (-1 : Int32).toInt = -1 := rfl
      omega
    rw [if_neg h1, if_neg hne, if_pos (show 0 ≤ k ∧ k < n by omega)]
    have hh : (Int32.ofInt (c / 12 % 15 - 7)).toInt = c / 12 % 15 - 7 := by
      rw [Int32.toInt_ofInt, show Int32.size = 4294967296 from rfl, Int.bmod_def]
      split <;> omega
    by_cases q : c / 6 % 2 = 1
    · rw [if_pos q, if_pos q]
      have m2 : (2 * s.1 71 43).toInt = 2 * (s.1 71 43).toInt := by
        rw [Int32.toInt_mul, show (2 : Int32).toInt = 2 from rfl, Int.bmod_def]
        split <;> omega
      have sb := n_sub (z := 2 * s.1 71 43 - s.1 99 k.toNat) rfl (by omega) (by omega)
      rw [n_add (z := 2 * s.1 71 43 - s.1 99 k.toNat + Int32.ofInt (c / 12 % 15 - 7)) rfl (by omega) (by omega)]
      omega
    · rw [if_neg q, if_neg q, n_add (z := s.1 99 k.toNat + Int32.ofInt (c / 12 % 15 - 7)) rfl (by omega) (by omega)]
      omega
theorem owTt_b {n c k : Int} {st : Nat → Int} (hd : owDg n st) (hc : 0 ≤ c ∧ c ≤ 4499) : owTt c n st k = -1000000000 ∨ (-20 ≤ owTt c n st k ∧ owTt c n st k ≤ 20) := by
  have hz := hd.1 k.toNat
  have h0 := hd.1 0
  unfold owTt
  split
  · right
    split <;> omega
  · left; rfl
theorem owTt_d {n c j k : Int} {st : Nat → Int} (hd : owDg n st) (hj : owTt c n st j ≠ -1000000000) (hk : owTt c n st k ≠ -1000000000) : -28 ≤ owTt c n st k - owTt c n st j ∧ owTt c n st k - owTt c n st j ≤ 28 := by
  have z1 := hd.1 j.toNat
  have z2 := hd.1 k.toNat
  unfold owTt at hj hk ⊢
  by_cases a : 0 ≤ j ∧ j < n
  · by_cases b : 0 ≤ k ∧ k < n
    · rw [if_pos a, if_pos b]
      split <;> omega
    · rw [if_neg b] at hk; exact absurd rfl hk
  · rw [if_neg a] at hj; exact absurd rfl hj
theorem owRow9 {s t u : oS} {n : Int} {st : Nat → Int} {x : Int32} {j k : Nat} (hj : oNj s x t) (hr : owRT n st s) (hlt : j < k) (hk : (k : Int) = x.toInt) (hn : (k : Int) < n) (hu : u.1 99 j = t.1 99 j) : (u.1 99 j).toInt = st j := by
  rw [hu, hj j (by omega)]
  exact hr.1 j (by omega)
