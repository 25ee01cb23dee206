/-! what a row of words is for some facts -/
def oqClp (v : Int) : Int := if 1000000 < v then 1000000 else if v < -1000000 then -1000000 else v
def oqFlr (a b : Int) : Int := if b = 0 then 0 else a.fdiv b
def oqJn (t a b : Int) : Int := if t = 1 then oqClp (a + b) else if t = 2 then oqClp (a - b) else if t = 3 then oqClp (a * b) else if t = 4 then oqFlr a b else if t = 5 then (if a ≤ b then a else b) else if t = 6 then (if a ≤ b then b else a) else if t = 11 then (if a < b then 1 else 0) else if t = 12 then (if b < a then 1 else 0) else if t = 13 then (if a = b then 1 else 0) else if t = 14 then a * b else (if 0 < a + b then 1 else 0)
def oqE1 (fa : Nat → Int) (t : Int) (S : List Int) : List Int := if 1000 ≤ t then (t - 1000) :: S else if 40 ≤ t then fa (t - 40).toNat :: S else if t = 17 then 1 :: S else if t = 16 then (match S with | a :: X => (1 - a) :: X | [] => []) else (match S with | b :: a :: X => oqJn t a b :: X | Y => Y)
def oqEv (fa : Nat → Int) : List Int → List Int
  | [] => []
  | t :: R => oqE1 fa t (oqEv fa R)
/-- values of such types -/
def oqFv : List Bool → List Int → Prop
  | [], [] => True
  | x :: X, v :: S => (-1000000 ≤ v ∧ v ≤ 1000000 ∧ (x = true → v = 0 ∨ v = 1)) ∧ oqFv X S
  | _, _ => False
theorem oqFv_l : ∀ {X : List Bool} {S : List Int}, oqFv X S → S.length = X.length
  | [], [], _ => rfl
  | x :: X, v :: S, h => by
    rw [List.length_cons, List.length_cons, oqFv_l h.2]
  | [], v :: S, h => h.elim
  | x :: X, [], h => h.elim
theorem oqClp_b (v : Int) : -1000000 ≤ oqClp v ∧ oqClp v ≤ 1000000 := by
  unfold oqClp
  repeat' split
  all_goals omega
theorem oqDv_b {a c k : Int} (hc : 1 ≤ c) (h1 : -k * c ≤ a) (h2 : a < (k + 1) * c) : -k ≤ a / c ∧ a / c ≤ k := by
  have q1 : -k ≤ a / c := Int.le_ediv_of_mul_le (by omega) h1
  have q2 : a / c < k + 1 := Int.ediv_lt_of_lt_mul (by omega) h2
  omega
theorem oqFlr_b {a b : Int} (h1 : -1000000 ≤ a) (h2 : a ≤ 1000000) : -1000000 ≤ oqFlr a b ∧ oqFlr a b ≤ 1000000 := by
  unfold oqFlr
  by_cases hb : b = 0
  · rw [if_pos hb]; omega
  · rw [if_neg hb]
    by_cases hp : 0 < b
    · rw [Int.fdiv_eq_ediv_of_nonneg _ (by omega)]
      exact oqDv_b (k := 1000000) (by omega) (by omega) (by omega)
    · have e : a / b = -(a / -b) := by
        have h := Int.ediv_neg a (-b)
        rw [Int.neg_neg] at h
        exact h
      rw [Int.fdiv_eq_ediv]
      by_cases hd : b ∣ a
      · rw [if_pos (Or.inr hd), e]
        have := oqDv_b (a := a) (c := -b) (k := 1000000) (by omega) (by omega) (by omega)
        omega
      · have h9 : 2 ≤ -b := by
          by_cases h1 : b = -1
          · exfalso
            exact hd ⟨-a, by rw [h1]; omega⟩
          · omega
        rw [if_neg (fun h => h.elim (fun z => by omega) hd), e]
        have := oqDv_b (a := a) (c := -b) (k := 500000) (by omega) (by omega) (by omega)
        omega
theorem oqJn_b {t a b : Int} (ha : -1000000 ≤ a ∧ a ≤ 1000000) (hb : -1000000 ≤ b ∧ b ≤ 1000000) (ht : t ≠ 14) : -1000000 ≤ oqJn t a b ∧ oqJn t a b ≤ 1000000 := by
  have c1 := oqClp_b (a + b)
  have c2 := oqClp_b (a - b)
  have c3 := oqClp_b (a * b)
  have c4 := oqFlr_b (b := b) ha.1 ha.2
  unfold oqJn
  repeat' split
  all_goals first | assumption | omega
theorem oqJn_t {t a b : Int} (h : t = 11 ∨ t = 12 ∨ t = 13) : oqJn t a b = 0 ∨ oqJn t a b = 1 := by
  unfold oqJn
  repeat' split
  all_goals omega
theorem oqJn_14 {a b : Int} (ha : a = 0 ∨ a = 1) (hb : b = 0 ∨ b = 1) : oqJn 14 a b = 0 ∨ oqJn 14 a b = 1 := by
  have e : oqJn 14 a b = a * b := rfl
  rw [e]
  rcases ha with ha | ha <;> rcases hb with hb | hb <;> rw [ha, hb] <;> decide
theorem oqJn_15 {a b : Int} : oqJn 15 a b = 0 ∨ oqJn 15 a b = 1 := by
  have e : oqJn 15 a b = if 0 < a + b then 1 else 0 := rfl
  rw [e]
  split <;> omega
/-- types are kept -/
theorem oqE1_t {fa : Nat → Int} {t : Int} {X Y : List Bool} {S : List Int} (hf : ∀ i : Nat, i < 8 → -1000000 ≤ fa i ∧ fa i ≤ 1000000) (ho : oqOk1 t) (h : oqTy1 t X = some Y) (hS : oqFv X S) : oqFv Y (oqE1 fa t S) := by
  unfold oqTy1 at h
  unfold oqE1
  by_cases h40 : 40 ≤ t
  · rw [if_pos h40] at h
    injection h with h
    subst h
    by_cases h1000 : 1000 ≤ t
    · rw [if_pos h1000]
      have : t ≤ 10999 := by unfold oqOk1 at ho; omega
      exact ⟨⟨by omega, by omega, fun z => by cases z⟩, hS⟩
    · rw [if_neg h1000, if_pos h40]
      have h8 := hf (t - 40).toNat (by unfold oqOk1 at ho; omega)
      exact ⟨⟨h8.1, h8.2, fun z => by cases z⟩, hS⟩
  · rw [if_neg h40] at h
    rw [if_neg (by omega), if_neg h40]
    by_cases h17 : t = 17
    · rw [if_pos h17] at h
      injection h with h
      subst h
      rw [if_pos h17]
      exact ⟨⟨by decide, by decide, fun _ => Or.inr rfl⟩, hS⟩
    · rw [if_neg h17] at h
      rw [if_neg h17]
      by_cases h16 : t = 16
      · rw [if_pos h16] at h
        rw [if_pos h16]
        match X, S, h, hS with
        | true :: X', a :: S', h, hS =>
          injection h with h
          subst h
          obtain ⟨⟨a1, a2, a3⟩, a4⟩ := hS
          have a5 := a3 rfl
          exact ⟨⟨by omega, by omega, fun _ => by omega⟩, a4⟩
        | false :: X', a :: S', h, hS => cases h
        | [], S', h, hS => cases h
        | true :: X', [], h, hS => exact hS.elim
      · rw [if_neg h16] at h
        rw [if_neg h16]
        by_cases h14 : t = 14 ∨ t = 15
        · rw [if_pos h14] at h
          match X, S, h, hS with
          | true :: true :: X', b :: a :: S', h, hS =>
            injection h with h
            subst h
            obtain ⟨⟨b1, b2, b3⟩, ⟨a1, a2, a3⟩, a4⟩ := hS
            have a5 := a3 rfl
            have b5 := b3 rfl
            have hv : oqJn t a b = 0 ∨ oqJn t a b = 1 := by
              rcases h14 with h14 | h14
              · rw [h14]; exact oqJn_14 a5 b5
              · rw [h14]; exact oqJn_15
            exact ⟨⟨by omega, by omega, fun _ => hv⟩, a4⟩
          | true :: false :: X', b :: a :: S', h, hS => cases h
          | false :: X', S', h, hS => cases h
          | [], S', h, hS => cases h
          | [true], S', h, hS => cases h
          | true :: y :: X', [], h, hS => exact hS.elim
          | true :: y :: X', [b], h, hS => exact hS.2.elim
        · rw [if_neg h14] at h
          by_cases h11 : 11 ≤ t
          · rw [if_pos h11] at h
            match X, S, h, hS with
            | false :: false :: X', b :: a :: S', h, hS =>
              injection h with h
              subst h
              obtain ⟨⟨b1, b2, b3⟩, ⟨a1, a2, a3⟩, a4⟩ := hS
              have hv : oqJn t a b = 0 ∨ oqJn t a b = 1 := oqJn_t (by unfold oqOk1 at ho; omega)
              exact ⟨⟨by omega, by omega, fun _ => hv⟩, a4⟩
            | false :: true :: X', b :: a :: S', h, hS => cases h
            | true :: X', S', h, hS => cases h
            | [], S', h, hS => cases h
            | [false], S', h, hS => cases h
            | false :: y :: X', [], h, hS => exact hS.elim
            | false :: y :: X', [b], h, hS => exact hS.2.elim
          · rw [if_neg h11] at h
            match X, S, h, hS with
            | false :: false :: X', b :: a :: S', h, hS =>
              injection h with h
              subst h
              obtain ⟨⟨b1, b2, b3⟩, ⟨a1, a2, a3⟩, a4⟩ := hS
              have hv := oqJn_b (t := t) ⟨a1, a2⟩ ⟨b1, b2⟩ (by omega)
              exact ⟨⟨hv.1, hv.2, fun z => by cases z⟩, a4⟩
            | false :: true :: X', b :: a :: S', h, hS => cases h
            | true :: X', S', h, hS => cases h
            | [], S', h, hS => cases h
            | [false], S', h, hS => cases h
            | false :: y :: X', [], h, hS => exact hS.elim
            | false :: y :: X', [b], h, hS => exact hS.2.elim
/-- a row and its beginnings -/
theorem oqTs_i {n : Nat} {t : Int} {R : List Int} {X : List Bool} (h : oqTs n (t :: R) = some X) : ∃ S, oqTs n R = some S ∧ oqTy1 t S = some X ∧ X.length ≤ n := by
  have h' : (match oqTs n R with | some S => (match oqTy1 t S with | some X => if X.length ≤ n then some X else none | none => none) | none => none) = some X := h
  cases hS : oqTs n R with
  | none => rw [hS] at h'; cases h'
  | some S =>
    rw [hS] at h'
    have h2 : (match oqTy1 t S with | some X => if X.length ≤ n then some X else none | none => none) = some X := h'
    cases hX : oqTy1 t S with
    | none => rw [hX] at h2; cases h2
    | some X' =>
      rw [hX] at h2
      have h3 : (if X'.length ≤ n then some X' else none) = some X := h2
      by_cases hl : X'.length ≤ n
      · rw [if_pos hl] at h3
        injection h3 with h4
        subst h4
        exact ⟨S, rfl, hX, hl⟩
      · rw [if_neg hl] at h3
        cases h3
theorem oqTs_app {n : Nat} : ∀ {U D : List Int} {X : List Bool}, oqTs n (U ++ D) = some X → ∃ S, oqTs n D = some S
  | [], D, X, h => ⟨X, h⟩
  | t :: U, D, X, h => by
    obtain ⟨S, h1, h2, h3⟩ := oqTs_i (R := U ++ D) h
    exact oqTs_app h1
theorem oqEv_t {fa : Nat → Int} (hf : ∀ i : Nat, i < 8 → -1000000 ≤ fa i ∧ fa i ≤ 1000000) {n : Nat} : ∀ {R : List Int} {X : List Bool}, oqTs n R = some X → oqOkR R → oqFv X (oqEv fa R) ∧ (R = [] ∨ X.length ≤ n)
  | [], X, h, _ => by
    have h' : some [] = some X := h
    injection h' with h'
    subst h'
    exact ⟨trivial, Or.inl rfl⟩
  | t :: R, X, h, ho => by
    obtain ⟨S, h1, h2, h3⟩ := oqTs_i h
    have ih := oqEv_t hf h1 (fun z hz => ho z (List.mem_cons_of_mem _ hz))
    exact ⟨oqE1_t hf (ho t (List.mem_cons_self ..)) h2 ih.1, Or.inr h3⟩
/-- whether the test holds -/
def oqHl (fa : Nat → Int) (R : List Int) : Int := (oqEv fa R).headD 0
theorem oqHl_b {fa : Nat → Int} (hf : ∀ i : Nat, i < 8 → -1000000 ≤ fa i ∧ fa i ≤ 1000000) {n : Nat} {R : List Int} (h : oqTs n R = some [true]) (ho : oqOkR R) : (oqHl fa R = 0 ∨ oqHl fa R = 1) ∧ oqEv fa R = [oqHl fa R] := by
  have h1 := (oqEv_t hf h ho).1
  unfold oqHl
  match hE : oqEv fa R, h1 with
  | [v], h1 => exact ⟨h1.1.2.2 rfl, rfl⟩
  | [], h1 => exact h1.elim
  | v :: w :: S, h1 => exact h1.2.elim
/-- the word at hand of such a row: A behind it, D ahead -/
theorem oqOu_at {f : Nat → Int} {t : Int} {D : List Int} : ∀ {A : List Int} {n : Nat}, oqOu f n (A ++ t :: D) → ∃ k, n = k + 1 + A.length ∧ f k = t ∧ oqOu f k D
  | [], n, ⟨m, h1, h2, h3⟩ => ⟨m, by rw [h1]; rfl, h2, h3⟩
  | z :: A, n, ⟨m, h1, h2, h3⟩ => by
    obtain ⟨k, e1, e2, e3⟩ := oqOu_at h3
    exact ⟨k, by rw [List.length_cons]; omega, e2, e3⟩
