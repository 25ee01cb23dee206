/-! made lines: their steps, the next one, the run along them -/
def owBp (st : Nat → Int) (k : Nat) : Int := if 0 < k ∧ st k + 1 = st (k - 1) then st k + 2 else st k + 1
def owNx (n r : Int) (st st' : Nat → Int) : Prop := ∃ k : Nat, (k : Int) < n ∧ owBp st k ≤ r ∧ (∀ j : Nat, k < j → (j : Int) < n → r < owBp st j) ∧ (∀ j : Nat, j < k → st' j = st j) ∧ st' k = owBp st k ∧ (∀ j : Nat, k < j → (j : Int) < n → st' j = if st' (j - 1) = 0 then 1 else 0) ∧ (∀ j : Nat, n ≤ (j : Int) → st' j = 0)
def owLs (n r : Int) (st : Nat → Int) : Prop := ∀ k : Nat, (k : Int) < n → r < owBp st k
theorem owNx_ls {n r : Int} {st a : Nat → Int} (h : owNx n r st a) (h2 : owLs n r st) : False := by
  obtain ⟨k, h1, h3, -⟩ := h
  have := h2 k h1
  omega
theorem owNx_det {n r : Int} {st a b : Nat → Int} (h : owNx n r st a) (h' : owNx n r st b) : a = b := by
  obtain ⟨k, a1, a2, a3, a4, a5, a6, a7⟩ := h
  obtain ⟨m, b1, b2, b3, b4, b5, b6, b7⟩ := h'
  have e : k = m := by
    by_cases h1 : k < m
    · have := a3 m h1 b1; omega
    · by_cases h2 : m < k
      · have := b3 k h2 a1; omega
      · omega
  subst e
  funext j
  induction j using Nat.strongRecOn with
  | _ j ih =>
    by_cases h1 : j < k
    · rw [a4 j h1, b4 j h1]
    · by_cases h2 : j = k
      · rw [h2, a5, b5]
      · by_cases h3 : (j : Int) < n
        · rw [a6 j (by omega) h3, b6 j (by omega) h3, ih (j - 1) (by omega)]
        · rw [a7 j (by omega), b7 j (by omega)]
/-- the run: v is 1 if one of the lines from st on is A's, 0 if none is -/
def owRn (n r : Int) (A : (Nat → Int) → Prop) (st : Nat → Int) (v : Int) : Prop := ∃ (m : Nat) (f : Nat → Nat → Int), f 0 = st ∧ (∀ i : Nat, i < m → ¬ A (f i) ∧ owNx n r (f i) (f (i + 1))) ∧ ((v = 1 ∧ A (f m)) ∨ (v = 0 ∧ ¬ A (f m) ∧ owLs n r (f m)))
theorem owRn_y {n r : Int} {A : (Nat → Int) → Prop} {st : Nat → Int} (h : A st) : owRn n r A st 1 := ⟨0, fun _ => st, rfl, fun i hi => by omega, Or.inl ⟨rfl, h⟩⟩
theorem owRn_n {n r : Int} {A : (Nat → Int) → Prop} {st : Nat → Int} (h : ¬ A st) (hl : owLs n r st) : owRn n r A st 0 := ⟨0, fun _ => st, rfl, fun i hi => by omega, Or.inr ⟨rfl, h, hl⟩⟩
theorem owRn_x {n r v : Int} {A : (Nat → Int) → Prop} {st st' : Nat → Int} (h : ¬ A st) (hx : owNx n r st st') (hr : owRn n r A st' v) : owRn n r A st v := by
  obtain ⟨m, f, h0, h1, h2⟩ := hr
  refine ⟨m + 1, fun i => match i with | 0 => st | i + 1 => f i, rfl, fun i hi => ?_, h2⟩
  match i, hi with
  | 0, _ => exact ⟨h, by rw [← h0] at hx; exact hx⟩
  | i + 1, hi => exact h1 i (by omega)
/-- steps in their bounds, nothing behind the last -/
def owDg (n : Int) (st : Nat → Int) : Prop := (∀ j : Nat, 0 ≤ st j ∧ st j ≤ 4) ∧ ∀ j : Nat, n ≤ (j : Int) → st j = 0
def owVa (st : Nat → Int) : Int := 3125 * st 0 + 625 * st 1 + 125 * st 2 + 25 * st 3 + 5 * st 4 + st 5
theorem owNx_dg {n r : Int} {st a : Nat → Int} (hn : n ≤ 6) (hr : r ≤ 4) (hd : owDg n st) (h : owNx n r st a) : owDg n a ∧ owVa st + 1 ≤ owVa a := by
  obtain ⟨k, a1, a2, a3, a4, a5, a6, a7⟩ := h
  have hb : st k + 1 ≤ owBp st k := by
    unfold owBp
    split <;> omega
  have hg : ∀ j : Nat, 0 ≤ a j ∧ a j ≤ 4 := fun j => by
    by_cases h1 : j < k
    · rw [a4 j h1]; exact hd.1 j
    · by_cases h2 : j = k
      · rw [h2, a5]; have := hd.1 k; omega
      · by_cases h3 : (j : Int) < n
        · rw [a6 j (by omega) h3]; split <;> omega
        · rw [a7 j (by omega)]; omega
  refine ⟨⟨hg, a7⟩, ?_⟩
  have g0 := hg 0
  have g1 := hg 1
  have g2 := hg 2
  have g3 := hg 3
  have g4 := hg 4
  have g5 := hg 5
  have d0 := hd.1 0
  have d1 := hd.1 1
  have d2 := hd.1 2
  have d3 := hd.1 3
  have d4 := hd.1 4
  have d5 := hd.1 5
  have c0 := a4 0
  have c1 := a4 1
  have c2 := a4 2
  have c3 := a4 3
  have c4 := a4 4
  rw [← a5] at hb
  have hk : k = 0 ∨ k = 1 ∨ k = 2 ∨ k = 3 ∨ k = 4 ∨ k = 5 := by omega
  unfold owVa
  rcases hk with rfl | rfl | rfl | rfl | rfl | rfl <;> omega
theorem owVa_b {n : Int} {st : Nat → Int} (hd : owDg n st) : 0 ≤ owVa st ∧ owVa st < 15625 := by
  have d0 := hd.1 0
  have d1 := hd.1 1
  have d2 := hd.1 2
  have d3 := hd.1 3
  have d4 := hd.1 4
  have d5 := hd.1 5
  unfold owVa
  omega
/-- the first one -/
def owF0 (n : Int) (j : Nat) : Int := if (j : Int) < n then (j : Int) % 2 else 0
theorem owF0_dg {n : Int} : owDg n (owF0 n) := ⟨fun j => by unfold owF0; split <;> omega, fun j hj => if_neg (by omega)⟩
/-- what make answers: whether there is one, if there is a first one -/
def owMd (n r : Int) (A : (Nat → Int) → Prop) (v : Int) : Prop := if 2 ≤ n ∧ r < 1 then v = 0 else owRn n r A (owF0 n) v
