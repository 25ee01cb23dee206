/-! the types of what is written: true a test, false a number -/
def oqTy1 (t : Int) (S : List Bool) : Option (List Bool) := if 40 ≤ t then some (false :: S) else if t = 17 then some (true :: S) else if t = 16 then (match S with | true :: X => some (true :: X) | _ => none) else if t = 14 ∨ t = 15 then (match S with | true :: true :: X => some (true :: X) | _ => none) else if 11 ≤ t then (match S with | false :: false :: X => some (true :: X) | _ => none) else (match S with | false :: false :: X => some (false :: X) | _ => none)
/-- of a row of words (the newest first); none of more than n types -/
def oqTs (n : Nat) : List Int → Option (List Bool)
  | [] => some []
  | t :: R => match oqTs n R with | some S => (match oqTy1 t S with | some X => if X.length ≤ n then some X else none | none => none) | none => none
theorem oqTs_c {n : Nat} {t : Int} {R : List Int} {S X : List Bool} (h : oqTs n R = some S) (h1 : oqTy1 t S = some X) (hn : X.length ≤ n) : oqTs n (t :: R) = some X := by
  show (match oqTs n R with | some S => (match oqTy1 t S with | some X => if X.length ≤ n then some X else none | none => none) | none => none) = some X
  rw [h]
  show (match oqTy1 t S with | some X => if X.length ≤ n then some X else none | none => none) = some X
  rw [h1]
  exact if_pos hn
theorem oqTy1_v {t : Int} {S : List Bool} (h : 40 ≤ t) : oqTy1 t S = some (false :: S) := if_pos h
theorem oqTy1_17 {S : List Bool} : oqTy1 17 S = some (true :: S) := rfl
theorem oqTy1_16 {S : List Bool} : oqTy1 16 (true :: S) = some (true :: S) := rfl
theorem oqTy1_b {t : Int} {S : List Bool} (h : t = 14 ∨ t = 15) : oqTy1 t (true :: true :: S) = some (true :: S) := by
  rcases h with h | h <;> (subst h; rfl)
theorem oqTy1_c {t : Int} {S : List Bool} (h : t = 11 ∨ t = 12 ∨ t = 13) : oqTy1 t (false :: false :: S) = some (true :: S) := by
  rcases h with h | h | h <;> (subst h; rfl)
theorem oqTy1_a {t : Int} {S : List Bool} (h : t < 11) : oqTy1 t (false :: false :: S) = some (false :: S) := by
  unfold oqTy1
  rw [if_neg (by omega), if_neg (by omega), if_neg (by omega), if_neg (by omega), if_neg (by omega)]
/-- the types of what waits -/
def oqYk : List Int → List Bool
  | [] => []
  | k :: K => if (1 ≤ k ∧ k ≤ 4) ∨ k = 23 ∨ k = 24 ∨ (31 ≤ k ∧ k ≤ 33) then false :: oqYk K else if k = 14 ∨ k = 15 then true :: oqYk K else oqYk K
def oqHkd : List Int → Int
  | [] => 0
  | k :: _ => k
/-- how many are open -/
def oqNm : List Int → Int
  | [] => 0
  | k :: K => (if k = 16 ∨ (20 ≤ k ∧ k ≤ 25) then 1 else 0) + oqNm K
/-- what waits between facts, in a sum -/
def oqSb : List Int → Prop
  | [] => True
  | k :: K => oqSb K ∧ (k = 25 ∨ k = 16 ∨ (k = 14 ∧ oqHkd K ≠ 14 ∧ oqHkd K ≠ 16) ∨ (k = 15 ∧ oqHkd K ≠ 14 ∧ oqHkd K ≠ 15 ∧ oqHkd K ≠ 16))
def oqSa : List Int → Prop
  | [] => False
  | k :: K => (30 ≤ k ∧ k ≤ 33 ∧ oqSb K) ∨ (oqSa K ∧ ((20 ≤ k ∧ k ≤ 24) ∨ ((k = 3 ∨ k = 4) ∧ oqHkd K ≠ 3 ∧ oqHkd K ≠ 4) ∨ ((k = 1 ∨ k = 2) ∧ oqHkd K ≠ 1 ∧ oqHkd K ≠ 2 ∧ oqHkd K ≠ 3 ∧ oqHkd K ≠ 4)))
/-- how many more may wait on top -/
def oqRm (K : List Int) : Int := if oqHkd K = 3 ∨ oqHkd K = 4 ∨ oqHkd K = 14 then 0 else if oqHkd K = 1 ∨ oqHkd K = 2 ∨ oqHkd K = 15 then 1 else 2
theorem oqRm_rg (K : List Int) : 0 ≤ oqRm K ∧ oqRm K ≤ 2 := by
  unfold oqRm
  split
  · omega
  · split <;> omega
theorem oqYk_f {k : Int} {K : List Int} (h : (1 ≤ k ∧ k ≤ 4) ∨ k = 23 ∨ k = 24 ∨ (31 ≤ k ∧ k ≤ 33)) : oqYk (k :: K) = false :: oqYk K := if_pos h
theorem oqYk_t {k : Int} {K : List Int} (h : k = 14 ∨ k = 15) : oqYk (k :: K) = true :: oqYk K := (if_neg (by omega)).trans (if_pos h)
theorem oqYk_n {k : Int} {K : List Int} (h : k = 16 ∨ k = 25 ∨ k = 20 ∨ k = 21 ∨ k = 22 ∨ k = 30) : oqYk (k :: K) = oqYk K := (if_neg (by omega)).trans (if_neg (by omega))
theorem oqNm_1 {k : Int} {K : List Int} (h : k = 16 ∨ (20 ≤ k ∧ k ≤ 25)) : oqNm (k :: K) = 1 + oqNm K := by
  show (if _ then (1 : Int) else 0) + _ = _
  rw [if_pos h]
theorem oqNm_0 {k : Int} {K : List Int} (h : ¬ (k = 16 ∨ (20 ≤ k ∧ k ≤ 25))) : oqNm (k :: K) = oqNm K := by
  show (if _ then (1 : Int) else 0) + _ = _
  rw [if_neg h, Int.zero_add]
theorem oqYk_l {k : Int} {K : List Int} : (oqYk (k :: K)).length ≤ 1 + (oqYk K).length := by
  show (if _ then false :: oqYk K else if _ then true :: oqYk K else oqYk K).length ≤ _
  split
  · rw [List.length_cons]; omega
  · split
    · rw [List.length_cons]; omega
    · omega
theorem oqSb_len : ∀ {K : List Int}, oqSb K → ((oqYk K).length : Int) + oqRm K ≤ 3 * oqNm K + 2 ∧ 0 ≤ oqNm K
  | [], _ => by
    show ((0 : Nat) : Int) + 2 ≤ 3 * 0 + 2 ∧ (0 : Int) ≤ 0
    omega
  | k :: K, ⟨h1, h2⟩ => by
    obtain ⟨i1, i2⟩ := oqSb_len h1
    have r1 := oqRm_rg (k :: K)
    have hk : oqHkd (k :: K) = k := rfl
    have hr := oqRm_rg K
    rcases h2 with h | h | ⟨h, h3, h4⟩ | ⟨h, h3, h4, h5⟩
    · rw [oqYk_n (by omega), oqNm_1 (by omega)]; omega
    · rw [oqYk_n (by omega), oqNm_1 (by omega)]; omega
    · rw [oqYk_t (by omega), oqNm_0 (by omega), List.length_cons]
      have e : oqRm (k :: K) = 0 := by
        unfold oqRm
        rw [hk, if_pos (by omega)]
      have e2 : 1 ≤ oqRm K := by
        unfold oqRm
        by_cases c : oqHkd K = 3 ∨ oqHkd K = 4 ∨ oqHkd K = 14
        · exfalso
          cases K with
          | nil => have c' : (0 : Int) = 3 ∨ (0 : Int) = 4 ∨ (0 : Int) = 14 := c; omega
          | cons z Z =>
            have c' : z = 3 ∨ z = 4 ∨ z = 14 := c
            have q := h1.2
            have h3' : z ≠ 14 := h3
            omega
        · rw [if_neg c]
          split <;> omega
      omega
    · rw [oqYk_t (by omega), oqNm_0 (by omega), List.length_cons]
      have e : oqRm (k :: K) = 1 := by
        unfold oqRm
        rw [hk, if_neg (by omega), if_pos (by omega)]
      have e2 : oqRm K = 2 := by
        unfold oqRm
        cases K with
        | nil => rfl
        | cons z Z =>
          have q := h1.2
          have h3' : z ≠ 14 := h3
          have h4' : z ≠ 15 := h4
          have hz : oqHkd (z :: Z) = z := rfl
          rw [hz, if_neg (by omega), if_neg (by omega)]
      omega
theorem oqSa_len : ∀ {K : List Int}, oqSa K → ((oqYk K).length : Int) + oqRm K ≤ 3 * oqNm K + 5 ∧ 0 ≤ oqNm K
  | [], h => h.elim
  | k :: K, h => by
    have r1 := oqRm_rg (k :: K)
    have hk : oqHkd (k :: K) = k := rfl
    have hr := oqRm_rg K
    have hl := oqYk_l (k := k) (K := K)
    rcases h with ⟨q1, q2, q3⟩ | ⟨h1, h2⟩
    · obtain ⟨i1, i2⟩ := oqSb_len q3
      rw [oqNm_0 (by omega)]
      omega
    · obtain ⟨i1, i2⟩ := oqSa_len h1
      rcases h2 with h | ⟨h, h3, h4⟩ | ⟨h, h3, h4, h5, h6⟩
      · rw [oqNm_1 (by omega)]
        omega
      · rw [oqNm_0 (by omega)]
        have e : oqRm (k :: K) = 0 := by
          unfold oqRm
          rw [hk, if_pos (by omega)]
        have e2 : 1 ≤ oqRm K := by
          unfold oqRm
          cases K with
          | nil => exact h1.elim
          | cons z Z =>
            have h3' : z ≠ 3 := h3
            have h4' : z ≠ 4 := h4
            have hz : oqHkd (z :: Z) = z := rfl
            have hz14 : z ≠ 14 := by
              rcases h1 with ⟨q1, q2, q3⟩ | ⟨q1, q2⟩ <;> omega
            rw [hz, if_neg (by omega)]
            split <;> omega
        omega
      · rw [oqNm_0 (by omega)]
        have e : oqRm (k :: K) = 1 := by
          unfold oqRm
          rw [hk, if_neg (by omega), if_pos (by omega)]
        have e2 : oqRm K = 2 := by
          unfold oqRm
          cases K with
          | nil => exact h1.elim
          | cons z Z =>
            have h3' : z ≠ 1 := h3
            have h4' : z ≠ 2 := h4
            have h5' : z ≠ 3 := h5
            have h6' : z ≠ 4 := h6
            have hz : oqHkd (z :: Z) = z := rfl
            have hz14 : z ≠ 14 ∧ z ≠ 15 := by
              rcases h1 with ⟨q1, q2, q3⟩ | ⟨q1, q2⟩ <;> omega
            rw [hz, if_neg (by omega), if_neg (by omega)]
        omega
/-- words that are there -/
def oqOk1 (t : Int) : Prop := (1 ≤ t ∧ t ≤ 6) ∨ (11 ≤ t ∧ t ≤ 17) ∨ (40 ≤ t ∧ t ≤ 47) ∨ (1000 ≤ t ∧ t ≤ 10999)
def oqOkR (R : List Int) : Prop := ∀ t ∈ R, oqOk1 t
theorem oqOkR_c {t : Int} {R : List Int} (h : oqOkR R) (h1 : oqOk1 t) : oqOkR (t :: R) := fun z hz => by
  rcases List.mem_cons.mp hz with e | e
  · rw [e]; exact h1
  · exact h z e
def oqPm (m : Nat) : List Bool := if m = 2 then [true] else if m = 3 then [false] else []
/-- the machine on its way is well typed -/
def oqIw (c : oqCw) : Prop := 9 ≤ c.1 ∨ (c.1 ≤ 3 ∧ ((c.1 = 0 ∨ c.1 = 2) → oqSb c.2.2.2.2.1) ∧ ((c.1 = 1 ∨ c.1 = 3) → oqSa c.2.2.2.2.1) ∧ c.2.2.2.1 = oqNm c.2.2.2.2.1 ∧ oqNm c.2.2.2.2.1 ≤ 6 ∧ oqTs 24 c.2.2.2.2.2 = some (oqPm c.1 ++ oqYk c.2.2.2.2.1) ∧ oqOkR c.2.2.2.2.2) ∨ (c.1 = 8 ∧ oqTs 24 c.2.2.2.2.2 = some [true] ∧ oqOkR c.2.2.2.2.2)
theorem oqIw_mk {m : Nat} {a b o : Int} {K R : List Int} {S : List Bool} (hm : m ≤ 3) (h0 : (m = 0 ∨ m = 2) → oqSb K) (h1 : (m = 1 ∨ m = 3) → oqSa K) (ho : o = oqNm K) (h6 : oqNm K ≤ 6) (ht : oqTs 24 R = some S) (hS : S = oqPm m ++ oqYk K) (hr : oqOkR R) : oqIw (m, a, b, o, K, R) := Or.inr (Or.inl ⟨hm, h0, h1, ho, h6, by rw [ht, hS], hr⟩)
theorem oqIw_9 {a b o : Int} {K R : List Int} : oqIw (9, a, b, o, K, R) := Or.inl (Nat.le_refl 9)
theorem oqNk_v {g : Int → Int} {a b : Int} (h : ¬ oqNk g a b 0 9999 ≠ 0) : 0 ≤ oqNv g a ∧ oqNv g a ≤ 9999 := by
  unfold oqNk at h
  split at h
  · omega
  · split at h
    · omega
    · split at h
      · omega
      · omega
section IW
variable {g : Int → Int} {p q a b o : Int} {K R : List Int}
theorem oqIw_0 (h : oqIw (0, a, b, o, K, R)) : oqIw (oqW0 g a b o K R) := by
  rcases h with h | ⟨-, h0, -, ho, h6, ht, hr⟩ | ⟨h, -⟩
  · exact absurd h (by show ¬ (9 ≤ 0); decide)
  · have hb : oqSb K := h0 (Or.inl rfl)
    have ho' : o = oqNm K := ho
    have h6' : oqNm K ≤ 6 := h6
    have ht' : oqTs 24 R = some (oqYk K) := ht
    have hr' : oqOkR R := hr
    have hl := oqSb_len hb
    have hrm := oqRm_rg K
    unfold oqW0
    split
    · split
      · exact oqIw_9
      · exact oqIw_mk (by decide) (fun _ => ⟨hb, Or.inl rfl⟩) (fun z => by omega) (by rw [oqNm_1 (by omega)]; omega) (by rw [oqNm_1 (by omega)]; omega) (by rw [oqYk_n (by omega)]; exact ht') rfl hr'
    · split
      · split
        · exact oqIw_9
        · exact oqIw_mk (by decide) (fun _ => ⟨hb, Or.inr (Or.inl rfl)⟩) (fun z => by omega) (by rw [oqNm_1 (by omega)]; omega) (by rw [oqNm_1 (by omega)]; omega) (by rw [oqYk_n (by omega)]; exact ht') rfl hr'
      · split
        · exact oqIw_mk (by decide) (fun _ => hb) (fun z => by omega) ho' h6' (oqTs_c ht' oqTy1_17 (by rw [List.length_cons]; omega)) rfl (oqOkR_c hr' (by unfold oqOk1; omega))
        · exact oqIw_mk (by decide) (fun z => by omega) (fun _ => Or.inl ⟨by decide, by decide, hb⟩) (by rw [oqNm_0 (by omega)]; exact ho') (by rw [oqNm_0 (by omega)]; exact h6') (by rw [oqYk_n (by omega)]; exact ht') rfl hr'
  · exact absurd h (by show ¬ (0 = 8); decide)
theorem oqIw_1 (hq : q ≤ p + 8) (h : oqIw (1, a, b, o, K, R)) : oqIw (oqW1 g p q a b o K R) := by
  rcases h with h | ⟨-, -, h1, ho, h6, ht, hr⟩ | ⟨h, -⟩
  · exact absurd h (by show ¬ (9 ≤ 1); decide)
  · have ha : oqSa K := h1 (Or.inl rfl)
    have ho' : o = oqNm K := ho
    have h6' : oqNm K ≤ 6 := h6
    have ht' : oqTs 24 R = some (oqYk K) := ht
    have hr' : oqOkR R := hr
    have hl := oqSa_len ha
    have hrm := oqRm_rg K
    unfold oqW1
    split
    · split
      · exact oqIw_9
      · exact oqIw_mk (by decide) (fun z => by omega) (fun _ => Or.inr ⟨ha, Or.inl ⟨by decide, by decide⟩⟩) (by rw [oqNm_1 (by omega)]; omega) (by rw [oqNm_1 (by omega)]; omega) (by rw [oqYk_n (by omega)]; exact ht') rfl hr'
    · split
      · split
        · exact oqIw_9
        · exact oqIw_mk (by decide) (fun z => by omega) (fun _ => Or.inr ⟨ha, Or.inl ⟨by omega, by omega⟩⟩) (by rw [oqNm_1 (by omega)]; omega) (by rw [oqNm_1 (by omega)]; omega) (by rw [oqYk_n (by omega)]; exact ht') rfl hr'
      · split
        · exact oqIw_mk (by decide) (fun z => by omega) (fun _ => ha) ho' h6' (oqTs_c ht' (oqTy1_v (by omega)) (by rw [List.length_cons]; omega)) rfl (oqOkR_c hr' (by unfold oqOk1; omega))
        · split
          · exact oqIw_9
          · rename_i hk
            have hv := oqNk_v hk
            exact oqIw_mk (by decide) (fun z => by omega) (fun _ => ha) ho' h6' (oqTs_c ht' (oqTy1_v (by omega)) (by rw [List.length_cons]; omega)) rfl (oqOkR_c hr' (by unfold oqOk1; omega))
  · exact absurd h (by show ¬ (1 = 8); decide)
theorem oqW2_n : oqW2 g a b o R [] = if oqWi g a b = 8 then (0, oqSk g (oqHa g a 8), oqHa g a 8, o, [14], R) else if oqWi g a b = 7 then (0, oqSk g (oqHa g a 7), oqHa g a 7, o, [15], R) else (8, a, b, o, [], R) := rfl
theorem oqW3_c {k : Int} : oqW3 g a b o R (k :: K) = if k = 3 ∨ k = 4 then (3, a, b, o, K, k :: R) else @ite oqCw ((k = 1 ∨ k = 2) ∧ ¬ oqMu g a) (Classical.propDecidable _) (3, a, b, o, K, k :: R) (@ite oqCw (oqOp g a) (Classical.propDecidable _) (1, oqSk g (a + 1), b, o, oqOc g a :: k :: K, R) (if k = 20 then (3, oqSk g (a + 1), b, o - 1, K, R) else if k = 21 ∨ k = 22 then (1, oqSk g (a + 1), b, o, (k + 2) :: K, R) else if k = 23 ∨ k = 24 then (3, oqSk g (a + 1), b, o - 1, K, (k - 18) :: R) else if k = 30 then (1, oqSk g (a + 1), b, o, oqSc g a :: K, R) else (2, a, b, o, K, (k - 20) :: R))) := rfl
theorem oqIw_2 (h : oqIw (2, a, b, o, K, R)) : oqIw (oqW2 g a b o R K) := by
  rcases h with h | ⟨-, h0, -, ho, h6, ht, hr⟩ | ⟨h, -⟩
  · exact absurd h (by show ¬ (9 ≤ 2); decide)
  · have hb : oqSb K := h0 (Or.inr rfl)
    have ho' : o = oqNm K := ho
    have h6' : oqNm K ≤ 6 := h6
    have ht' : oqTs 24 R = some (true :: oqYk K) := ht
    have hr' : oqOkR R := hr
    have hl := oqSb_len hb
    have hrm := oqRm_rg K
    clear h0 ho h6 ht hr
    cases K with
    | nil =>
      rw [oqW2_n]
      by_cases c8 : oqWi g a b = 8
      · rw [if_pos c8]
        exact oqIw_mk (by decide) (fun _ => ⟨trivial, Or.inr (Or.inr (Or.inl ⟨rfl, by decide, by decide⟩))⟩) (fun z => by omega) (by rw [oqNm_0 (by omega)]; exact ho') (by rw [oqNm_0 (by omega)]; exact h6') ht' rfl hr'
      · rw [if_neg c8]
        by_cases c7 : oqWi g a b = 7
        · rw [if_pos c7]
          exact oqIw_mk (by decide) (fun _ => ⟨trivial, Or.inr (Or.inr (Or.inr ⟨rfl, by decide, by decide, by decide⟩))⟩) (fun z => by omega) (by rw [oqNm_0 (by omega)]; exact ho') (by rw [oqNm_0 (by omega)]; exact h6') ht' rfl hr'
        · rw [if_neg c7]
          exact Or.inr (Or.inr ⟨rfl, ht', hr'⟩)
    | cons k L =>
      obtain ⟨hb2, hk⟩ := hb
      have hl2 := oqSb_len hb2
      have hrm2 := oqRm_rg L
      have hh : oqHkd (k :: L) = k := rfl
      rw [oqW2_c]
      by_cases c16 : k = 16
      · rw [if_pos c16]
        rw [oqYk_n (by omega)] at ht'
        rw [oqNm_1 (by omega)] at ho' h6'
        exact oqIw_mk (by decide) (fun _ => hb2) (fun z => by omega) (by omega) (by omega) (oqTs_c ht' oqTy1_16 (by rw [List.length_cons]; omega)) rfl (oqOkR_c hr' (by unfold oqOk1; omega))
      · rw [if_neg c16]
        by_cases c14 : k = 14
        · rw [if_pos c14]
          rw [oqYk_t (by omega)] at ht'
          rw [oqNm_0 (by omega)] at ho' h6'
          exact oqIw_mk (by decide) (fun _ => hb2) (fun z => by omega) (by omega) (by omega) (oqTs_c ht' (oqTy1_b (Or.inl rfl)) (by rw [List.length_cons]; omega)) rfl (oqOkR_c hr' (by unfold oqOk1; omega))
        · rw [if_neg c14]
          by_cases c8 : oqWi g a b = 8
          · rw [if_pos c8]
            exact oqIw_mk (by decide) (fun _ => ⟨⟨hb2, hk⟩, Or.inr (Or.inr (Or.inl ⟨rfl, by rw [hh]; omega, by rw [hh]; omega⟩))⟩) (fun z => by omega) (by rw [oqNm_0 (by omega)]; exact ho') (by rw [oqNm_0 (by omega)]; exact h6') ht' (oqYk_t (k := 14) (by omega)).symm hr'
          · rw [if_neg c8]
            by_cases c15 : k = 15
            · rw [if_pos c15]
              rw [oqYk_t (by omega)] at ht'
              rw [oqNm_0 (by omega)] at ho' h6'
              exact oqIw_mk (by decide) (fun _ => hb2) (fun z => by omega) (by omega) (by omega) (oqTs_c ht' (oqTy1_b (Or.inr rfl)) (by rw [List.length_cons]; omega)) rfl (oqOkR_c hr' (by unfold oqOk1; omega))
            · rw [if_neg c15]
              by_cases c7 : oqWi g a b = 7
              · rw [if_pos c7]
                exact oqIw_mk (by decide) (fun _ => ⟨⟨hb2, hk⟩, Or.inr (Or.inr (Or.inr ⟨rfl, by rw [hh]; omega, by rw [hh]; omega, by rw [hh]; omega⟩))⟩) (fun z => by omega) (by rw [oqNm_0 (by omega)]; exact ho') (by rw [oqNm_0 (by omega)]; exact h6') ht' (oqYk_t (k := 15) (by omega)).symm hr'
              · rw [if_neg c7]
                have hk25 : k = 25 := by omega
                rw [oqYk_n (by omega)] at ht'
                rw [oqNm_1 (by omega)] at ho' h6'
                exact oqIw_mk (by decide) (fun _ => hb2) (fun z => by omega) (by omega) (by omega) ht' rfl hr'
  · exact absurd h (by show ¬ (2 = 8); decide)
theorem oqIw_3 (h : oqIw (3, a, b, o, K, R)) : oqIw (oqW3 g a b o R K) := by
  rcases h with h | ⟨-, -, h1, ho, h6, ht, hr⟩ | ⟨h, -⟩
  · exact absurd h (by show ¬ (9 ≤ 3); decide)
  · have ha : oqSa K := h1 (Or.inr rfl)
    have ho' : o = oqNm K := ho
    have h6' : oqNm K ≤ 6 := h6
    have ht' : oqTs 24 R = some (false :: oqYk K) := ht
    have hr' : oqOkR R := hr
    have hl := oqSa_len ha
    have hrm := oqRm_rg K
    clear h1 ho h6 ht hr
    cases K with
    | nil => exact ha.elim
    | cons k L =>
      have hh : oqHkd (k :: L) = k := rfl
      have hkr : (1 ≤ k ∧ k ≤ 4) ∨ (20 ≤ k ∧ k ≤ 24) ∨ (30 ≤ k ∧ k ≤ 33) := by
        rcases ha with ⟨z1, z2, z3⟩ | ⟨z1, z2⟩ <;> omega
      have hal : k < 30 → oqSa L := fun c => by
        rcases ha with ⟨z1, z2, z3⟩ | ⟨z1, z2⟩
        · omega
        · exact z1
      have hbl : 30 ≤ k → oqSb L := fun c => by
        rcases ha with ⟨z1, z2, z3⟩ | ⟨z1, z2⟩
        · exact z3
        · omega
      have red : (1 ≤ k ∧ k ≤ 4) → oqIw (3, a, b, o, L, k :: R) := fun c => by
        have ha2 := hal (by omega)
        have hl2 := oqSa_len ha2
        have hrm2 := oqRm_rg L
        rw [oqYk_f (by omega)] at ht'
        rw [oqNm_0 (by omega)] at ho' h6'
        exact oqIw_mk (by decide) (fun z => by omega) (fun _ => ha2) (by omega) (by omega) (oqTs_c ht' (oqTy1_a (by omega)) (by rw [List.length_cons]; omega)) rfl (oqOkR_c hr' (by unfold oqOk1; omega))
      rw [oqW3_c]
      by_cases c34 : k = 3 ∨ k = 4
      · rw [if_pos c34]
        exact red (by omega)
      · rw [if_neg c34]
        by_cases c12 : (k = 1 ∨ k = 2) ∧ ¬ oqMu g a
        · rw [if_pos c12]
          exact red (by omega)
        · rw [if_neg c12]
          by_cases hop : oqOp g a
          · rw [if_pos hop]
            have hoc : (oqOc g a = 3 ∨ oqOc g a = 4) ∨ ((oqOc g a = 1 ∨ oqOc g a = 2) ∧ k ≠ 1 ∧ k ≠ 2) := by
              by_cases hm : oqMu g a
              · exact Or.inl (oqOc_m hm)
              · exact Or.inr ⟨oqOc_a hop hm, fun e => c12 ⟨Or.inl e, hm⟩, fun e => c12 ⟨Or.inr e, hm⟩⟩
            refine oqIw_mk (by decide) (fun z => by omega) (fun _ => Or.inr ⟨ha, Or.inr ?_⟩) (by rw [oqNm_0 (by omega)]; exact ho') (by rw [oqNm_0 (by omega)]; exact h6') ht' (oqYk_f (k := oqOc g a) (by omega)).symm hr'
            rcases hoc with e | ⟨e, e1, e2⟩
            · exact Or.inl ⟨e, by rw [hh]; omega, by rw [hh]; omega⟩
            · exact Or.inr ⟨e, by rw [hh]; omega, by rw [hh]; omega, by rw [hh]; omega, by rw [hh]; omega⟩
          · rw [if_neg hop]
            have nk : ¬ (k = 1 ∨ k = 2) := fun e => c12 ⟨e, fun hm => hop (by unfold oqMu at hm; unfold oqOp; omega)⟩
            by_cases c20 : k = 20
            · rw [if_pos c20]
              rw [oqYk_n (by omega)] at ht'
              rw [oqNm_1 (by omega)] at ho' h6'
              exact oqIw_mk (by decide) (fun z => by omega) (fun _ => hal (by omega)) (by omega) (by omega) ht' rfl hr'
            · rw [if_neg c20]
              by_cases c21 : k = 21 ∨ k = 22
              · rw [if_pos c21]
                rw [oqYk_n (by omega)] at ht'
                rw [oqNm_1 (by omega)] at ho' h6'
                exact oqIw_mk (by decide) (fun z => by omega) (fun _ => Or.inr ⟨hal (by omega), Or.inl ⟨by omega, by omega⟩⟩) (by rw [oqNm_1 (by omega)]; omega) (by rw [oqNm_1 (by omega)]; omega) ht' (oqYk_f (k := k + 2) (by omega)).symm hr'
              · rw [if_neg c21]
                by_cases c23 : k = 23 ∨ k = 24
                · rw [if_pos c23]
                  have ha2 := hal (by omega)
                  have hl2 := oqSa_len ha2
                  have hrm2 := oqRm_rg L
                  rw [oqYk_f (by omega)] at ht'
                  rw [oqNm_1 (by omega)] at ho' h6'
                  exact oqIw_mk (by decide) (fun z => by omega) (fun _ => ha2) (by omega) (by omega) (oqTs_c ht' (oqTy1_a (by omega)) (by rw [List.length_cons]; omega)) rfl (oqOkR_c hr' (by unfold oqOk1; omega))
                · rw [if_neg c23]
                  by_cases c30 : k = 30
                  · rw [if_pos c30]
                    have hsc : 31 ≤ oqSc g a ∧ oqSc g a ≤ 33 := by
                      unfold oqSc
                      repeat' split
                      all_goals omega
                    rw [oqYk_n (by omega)] at ht'
                    rw [oqNm_0 (by omega)] at ho' h6'
                    exact oqIw_mk (by decide) (fun z => by omega) (fun _ => Or.inl ⟨by omega, by omega, hbl (by omega)⟩) (by rw [oqNm_0 (by omega)]; exact ho') (by rw [oqNm_0 (by omega)]; exact h6') ht' (oqYk_f (k := oqSc g a) (by omega)).symm hr'
                  · rw [if_neg c30]
                    have hb2 := hbl (by omega)
                    have hl2 := oqSb_len hb2
                    have hrm2 := oqRm_rg L
                    rw [oqYk_f (by omega)] at ht'
                    rw [oqNm_0 (by omega)] at ho' h6'
                    exact oqIw_mk (by decide) (fun _ => hb2) (fun z => by omega) (by omega) (by omega) (oqTs_c ht' (oqTy1_c (by omega)) (by rw [List.length_cons]; omega)) rfl (oqOkR_c hr' (by unfold oqOk1; omega))
  · exact absurd h (by show ¬ (3 = 8); decide)
theorem oqIw_s (hq : q ≤ p + 8) {c : oqCw} (h : oqIw c) : oqIw (oqWs g p q c) := by
  obtain ⟨m, a, b, o, K, R⟩ := c
  unfold oqWs
  by_cases h0 : m = 0
  · subst h0
    rw [if_pos rfl]
    exact oqIw_0 h
  · rw [if_neg h0]
    by_cases h1 : m = 1
    · subst h1
      rw [if_pos rfl]
      exact oqIw_1 hq h
    · rw [if_neg h1]
      by_cases h2 : m = 2
      · subst h2
        rw [if_pos rfl]
        exact oqIw_2 h
      · rw [if_neg h2]
        by_cases h3 : m = 3
        · subst h3
          rw [if_pos rfl]
          exact oqIw_3 h
        · rw [if_neg h3]
          exact h
theorem oqIw_t (hq : q ≤ p + 8) : ∀ (n : Nat) {c : oqCw}, oqIw c → oqIw (oqWit g p q n c)
  | 0, _, h => h
  | n + 1, c, h => oqIw_t hq n (c := oqWs g p q c) (oqIw_s hq h)
end IW
