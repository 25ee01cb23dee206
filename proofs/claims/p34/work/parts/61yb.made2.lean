/-! made lines of two voices: the leader and a follower -/
def owIx (c u : Int) : Int := if c % 3 = 1 then u / 2 else if c % 3 = 2 then 2 * u else u
def owBx (c n i : Int) : Int := if c / 3 % 2 = 1 then 2 * n - 1 - i else i
def owOn (n i : Int) : Int := if 0 ≤ i ∧ i < 2 * n then i / 2 else -1
/-- the note that a voice has -/
def owNb (c n t : Int) : Int := if t - c / 180 < 0 then -1 else owOn n (owBx c n (owIx c (t - c / 180)))
/-- where it is over -/
def owSp (c n : Int) : Int := c / 180 + (if c % 3 = 1 then 4 * n else if c % 3 = 2 then (2 * n + 1) / 2 else 2 * n)
/-- what it sings -/
def owTt (c n : Int) (st : Nat → Int) (k : Int) : Int := if 0 ≤ k ∧ k < n then (c / 12 % 15 - 7) + (if c / 6 % 2 = 1 then 2 * st 0 - st k.toNat else st k.toNat) else -1000000000
def owAq (c n : Int) (st : Nat → Int) (a b : Int) : Int := if owTt 84 n st a = -1000000000 ∨ owTt c n st b = -1000000000 then -1000000000 else owTt c n st b - owTt 84 n st a
def owRq (c n : Int) (st : Nat → Int) (j k : Int) : Int := if owTt c n st j = -1000000000 then 0 else owTt c n st k - owTt c n st j
/-- a moment, and what it has -/
def owXk (c n : Int) (st : Nat → Int) (t : Int) : Prop := owAq c n st (owNb 84 n t) (owNb c n t) ≠ -1000000000 ∧ (owNb 84 n t ≠ owNb 84 n (t - 1) ∨ owNb c n t ≠ owNb c n (t - 1))
def owXa (c n : Int) (st : Nat → Int) (t : Int) : Int := owAq c n st (owNb 84 n t) (owNb c n t)
def owXl (c n : Int) (st : Nat → Int) (t : Int) : Int := if owAq c n st (owNb 84 n (t + 1)) (owNb c n (t + 1)) = -1000000000 then 1 else 0
def owXm (me c n : Int) (st : Nat → Int) (t : Int) : Int := ((t % me * 64 + owRq 84 n st (owNb 84 n (t - 1)) (owNb 84 n t) + 32) * 64 + owRq c n st (owNb c n (t - 1)) (owNb c n t) + 32) * 2 + owXl c n st t
def owXf (me c n : Int) (st : Nat → Int) (t : Int) : Nat → Int := owFm (owXa c n st t) (owWa (owXa c n st (t - 1)) 0) (owXm me c n st t)
/-- no moment is broken -/
def owAg (R : Int) (W : Nat → List Int) (me c n : Int) (st : Nat → Int) : Prop := ∀ t : Int, c / 180 ≤ t → t < 2 * n → t < owSp c n → owXk c n st t → ¬ owBk R W (owXf me c n st t)
/-! the class's line -/
def owMA (c : Nat) (n : Int) (t : oS) : Prop := okd c = 4 ∧ (t.1 c 4).toInt = n ∧ (t.1 c 5).toInt = 2 * n ∧ (t.1 c 7).toInt = 0 ∧ ∀ j : Nat, (j : Int) < 2 * n → (t.1 (c + 4) j).toInt = (j : Int) / 2
theorem owMA_fr {M : List (Nat × Nat)} {s u : oS} {c : Nat} {n : Int} (hf : oFr M s u) (hm : ((oin M 4 4 || oin M 4 5) || (oin M 4 7 || oinK M 19)) = false) (h : owMA c n s) : owMA c n u := by
  simp only [Bool.or_eq_false_iff] at hm
  obtain ⟨⟨m1, m2⟩, m3, m4⟩ := hm
  obtain ⟨h1, h2, h3, h4, h5⟩ := h
  refine ⟨h1, ?_, ?_, ?_, fun j hj => ?_⟩
  · rw [(hf c 4 (by rw [h1]; exact m1)).1]; exact h2
  · rw [(hf c 5 (by rw [h1]; exact m2)).1]; exact h3
  · rw [(hf c 7 (by rw [h1]; exact m3)).1]; exact h4
  · rw [oFr_row hf (kr4_4 h1) m4]; exact h5 j hj
def owMS (c : Nat) (n : Int) (st : Nat → Int) (t : oS) : Prop := okd c = 4 ∧ (t.1 c 6).toInt = (if n < 1 then -1 else st 0) ∧ (∀ j : Nat, (j : Int) < n → (t.1 (c + 1) j).toInt = st j) ∧ ∀ j : Nat, n ≤ (j : Int) → st j = 0
theorem owMS_fr {M : List (Nat × Nat)} {s u : oS} {c : Nat} {n : Int} {st : Nat → Int} (hf : oFr M s u) (hm : (oin M 4 6 || oinK M 16) = false) (h : owMS c n st s) : owMS c n st u := by
  simp only [Bool.or_eq_false_iff] at hm
  obtain ⟨h1, h2, h3, h4⟩ := h
  refine ⟨h1, ?_, fun j hj => ?_, h4⟩
  · rw [(hf c 6 (by rw [h1]; exact hm.1)).1]; exact h2
  · rw [oFr_row hf (kr4_1 h1) hm.2]; exact h3 j hj
/-- add -/
def owOr (f : Nat → Int32) (a i : Int) (v : Int32) (j : Nat) : Int32 := if a ≤ (j : Int) ∧ (j : Int) < i then v else f j
theorem owOr_0 {f : Nat → Int32} {a i : Int} {v : Int32} (h : i ≤ a) : f = owOr f a i v := by
  funext j
  exact (if_neg (by omega)).symm
theorem owOr_nx {f g : Nat → Int32} {a i k : Int} {v : Int32} {j : Nat} (h : g = owOr f a i v) (ha : a ≤ i) (hj : (j : Int) = i) (hk : k = i + 1) : oU g j v = owOr f a k v := by
  funext m
  rw [h]
  unfold oU owOr
  by_cases e : m = j
  · rw [if_pos e, if_pos (by omega)]
  · rw [if_neg e]
    by_cases c : a ≤ (m : Int) ∧ (m : Int) < i
    · rw [if_pos c, if_pos (by omega)]
    · rw [if_neg c, if_neg (by omega)]
theorem owM_ad {s u : oS} {c : Nat} {m : Int} {x : Int32} (hA : owMA c m s) (hS : owMS c m (fun _ => 0) s) (hm : 0 ≤ m) (hx : x.toInt = 0) (h1 : (u.1 c 4).toInt = m + 1) (h2 : (u.1 c 5).toInt = 2 * m + 2) (h3 : (u.1 c 6).toInt = 0) (h4 : (u.1 c 7).toInt = 0) (h5 : u.1 (c + 1) = oU (s.1 (c + 1)) (s.1 c 4).toNatClampNeg x) (h6 : u.1 (c + 4) = owOr (s.1 (c + 4)) (s.1 c 5).toInt ((s.1 c 5).toInt + 2) (s.1 c 4)) : owMA c (m + 1) u ∧ owMS c (m + 1) (fun _ => 0) u := by
  obtain ⟨a1, a2, a3, a4, a5⟩ := hA
  obtain ⟨b1, b2, b3, b4⟩ := hS
  have hn := n_nat (s.1 c 4)
  refine ⟨⟨a1, h1, by omega, h4, fun j hj => ?_⟩, a1, ?_, fun j hj => ?_, fun j _ => rfl⟩
  · rw [h6]
    unfold owOr
    by_cases e : (s.1 c 5).toInt ≤ (j : Int) ∧ (j : Int) < (s.1 c 5).toInt + 2
    · rw [if_pos e]; omega
    · rw [if_neg e]; exact a5 j (by omega)
  · rw [if_neg (by omega)]; exact h3
  · rw [h5]
    unfold oU
    by_cases e : j = (s.1 c 4).toNatClampNeg
    · rw [if_pos e]; exact hx
    · rw [if_neg e]; exact b3 j (by omega)
/-- a step is put -/
def owUs (st : Nat → Int) (k : Nat) (v : Int) (j : Nat) : Int := if j = k then v else st j
theorem owMS_up {s u : oS} {c k : Nat} {n : Int} {st : Nat → Int} {v : Int32} (h : owMS c n st s) (hk : (k : Int) < n) (h1 : u.1 (c + 1) = oU (s.1 (c + 1)) k v) (h2 : (u.1 c 6).toInt = owUs st k v.toInt 0) : owMS c n (owUs st k v.toInt) u := by
  obtain ⟨b1, b2, b3, b4⟩ := h
  refine ⟨b1, ?_, fun j hj => ?_, fun j hj => ?_⟩
  · rw [if_neg (by omega)]; exact h2
  · rw [h1]
    unfold oU owUs
    by_cases e : j = k
    · rw [if_pos e, if_pos e]
    · rw [if_neg e, if_neg e]; exact b3 j hj
  · unfold owUs
    rw [if_neg (by omega)]; exact b4 j hj
theorem owMS_at0 {s : oS} {c k : Nat} {n : Int} {st : Nat → Int} {v : Int32} (h : owMS c n st s) (hn : 0 < n) : (oU (s.1 (c + 1)) k v 0).toInt = owUs st k v.toInt 0 := by
  unfold oU owUs
  by_cases e : 0 = k
  · rw [if_pos e, if_pos e]
  · rw [if_neg e, if_neg e]; exact h.2.2.1 0 (by omega)
/-- filled from f on, up to i -/
def owFi (n r f i : Int) (st st' : Nat → Int) : Prop := (∀ j : Nat, (j : Int) < f → st' j = st j) ∧ (∀ j : Nat, f ≤ (j : Int) → (j : Int) < i → (st' j = if 0 < j ∧ st' (j - 1) = 0 then 1 else 0) ∧ st' j ≤ r) ∧ ∀ j : Nat, i ≤ (j : Int) → f ≤ (j : Int) → st' j = st j
def owFl (c : Nat) (n r f i : Int) (st : Nat → Int) (t : oS) : Prop := ∃ st', owMS c n st' t ∧ owFi n r f i st st'
theorem owFi_0 {n r f i : Int} {st : Nat → Int} (h : i ≤ f) : owFi n r f i st st := ⟨fun _ _ => rfl, fun j h1 h2 => by omega, fun _ _ _ => rfl⟩
theorem owFi_nx {n r f i i' : Int} {st st' : Nat → Int} {k : Nat} {v : Int} (h : owFi n r f i st st') (hk : (k : Int) = i) (hf : f ≤ i) (hi : i' = i + 1) (hv : v = if 0 < k ∧ st' (k - 1) = 0 then 1 else 0) (hr : v ≤ r) : owFi n r f i' st (owUs st' k v) := by
  obtain ⟨h1, h2, h3⟩ := h
  have ne : ∀ j : Nat, j ≠ k → owUs st' k v j = st' j := fun j hj => if_neg hj
  have sf : owUs st' k v k = v := if_pos rfl
  refine ⟨fun j hj => ?_, fun j hj hj2 => ?_, fun j hj hj2 => ?_⟩
  · rw [ne j (by omega)]; exact h1 j hj
  · by_cases e : j = k
    · subst e
      rw [sf]
      refine ⟨?_, hr⟩
      by_cases hz : 0 < j
      · rw [ne (j - 1) (by omega)]; exact hv
      · rw [if_neg (by omega)]; rw [if_neg (by omega)] at hv; exact hv
    · rw [ne j e]
      have := h2 j hj (by omega)
      by_cases hz : 0 < j
      · rw [ne (j - 1) (by omega)]; exact this
      · rw [if_neg (by omega)]; rw [if_neg (by omega)] at this; exact this
  · rw [ne j (by omega)]; exact h3 j (by omega) hj2
theorem owFi_f0 {n r : Int} {st' : Nat → Int} (h : owFi n r 0 n (fun _ => 0) st') (hz : ∀ j : Nat, n ≤ (j : Int) → st' j = 0) : st' = owF0 n ∧ (2 ≤ n → 1 ≤ r) := by
  have e : ∀ j : Nat, (j : Int) < n → st' j = (j : Int) % 2 := fun j => by
    induction j using Nat.strongRecOn with
    | _ j ih =>
      intro hj
      have q := (h.2.1 j (by omega) hj).1
      by_cases hz2 : 0 < j
      · have p := ih (j - 1) (by omega) (by omega)
        rw [p] at q
        rw [q]
        by_cases c : (((j - 1 : Nat) : Int)) % 2 = 0
        · rw [if_pos ⟨hz2, c⟩]; omega
        · rw [if_neg (fun h => c h.2)]; omega
      · rw [if_neg (fun h => hz2 h.1)] at q
        rw [q]; omega
  refine ⟨?_, fun hn => ?_⟩
  · funext j
    unfold owF0
    by_cases hj : (j : Int) < n
    · rw [if_pos hj]; exact e j hj
    · rw [if_neg hj]; exact hz j (by omega)
  · have q := (h.2.1 1 (by omega) (by omega)).2
    rw [e 1 (by omega)] at q
    omega
/-- the next line: from what was filled behind the step that grew -/
theorem owNx_of {n r : Int} {st st' : Nat → Int} {k : Nat} {v : Int} (hk : (k : Int) < n) (hv : v = owBp st k) (hr : v ≤ r) (hb : ∀ j : Nat, k < j → (j : Int) < n → r < owBp st j) (h : owFi n r ((k : Int) + 1) n (owUs st k v) st') (hz : ∀ j : Nat, n ≤ (j : Int) → st' j = 0) : owNx n r st st' := by
  obtain ⟨h1, h2, h3⟩ := h
  refine ⟨k, hk, by omega, hb, fun j hj => ?_, ?_, fun j hj hj2 => ?_, hz⟩
  · rw [h1 j (by omega)]; exact if_neg (by omega)
  · rw [h1 k (by omega), ← hv]; exact if_pos rfl
  · have q := (h2 j (by omega) hj2).1
    rw [q]
    by_cases c : st' (j - 1) = 0
    · rw [if_pos ⟨by omega, c⟩, if_pos c]
    · rw [if_neg (fun h => c h.2), if_neg c]
