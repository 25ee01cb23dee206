/-! holds: on the way along a row of words -/
theorem oqRow_pu {s : oS} {c k : Nat} {v : Int32} : (pI s c k v).1 c = oU (s.1 c) k v := by
  funext j
  unfold oU
  by_cases h : j = k
  · rw [h, pI_self, if_pos rfl]
  · rw [pI_ne s v (Or.inr h), if_neg h]
theorem oqRow_ne {s : oS} {a c k : Nat} {v : Int32} (h : a ≠ c) : (pI s c k v).1 a = s.1 a := by
  funext j
  exact pI_ne s v (Or.inl h)
/-- the test i of a book: its words -/
def oqTst (c i : Nat) (R : List Int) (t : oS) : Prop := okd c = 0 ∧ oqTs 24 R = some [true] ∧ oqOkR R ∧ ∃ st : Nat, (t.1 (c + 2) i).toInt = (st : Int) ∧ (t.1 (c + 3) i).toInt = (st : Int) + (R.length : Int) ∧ (st : Int) + (R.length : Int) ≤ 1600 ∧ oqOu (fun j => (t.1 (c + 1) j).toInt) (st + R.length) (R.map oqTau)
theorem oqTst_fr {M : List (Nat × Nat)} {s u : oS} {c i : Nat} {R : List Int} (hf : oFr M s u) (hm : (oinK M 20 || (oinK M 21 || oinK M 22)) = false) (h : oqTst c i R s) : oqTst c i R u := by
  simp only [Bool.or_eq_false_iff] at hm
  obtain ⟨h1, h2, h3, st, h4, h5, h6, h7⟩ := h
  refine ⟨h1, h2, h3, st, ?_, ?_, h6, ?_⟩
  · rw [oFr_row hf (c := c + 2) (kr0_2 h1) hm.2.1]; exact h4
  · rw [oFr_row hf (c := c + 3) (kr0_3 h1) hm.2.2]; exact h5
  · rw [oFr_row hf (c := c + 1) (kr0_1 h1) hm.1]; exact h7
/-- rows that stay -/
def oqTr (c c2 : Nat) (s t : oS) : Prop := t.1 (c + 1) = s.1 (c + 1) ∧ t.1 (c + 2) = s.1 (c + 2) ∧ t.1 (c + 3) = s.1 (c + 3) ∧ t.1 c2 = s.1 c2
theorem oqTr_0 {c c2 : Nat} {s : oS} : oqTr c c2 s s := ⟨rfl, rfl, rfl, rfl⟩
theorem oqTr_pu {c c2 k : Nat} {s t : oS} {v : Int32} (h : oqTr c c2 s t) (h2 : c2 ≠ c + 5) : oqTr c c2 s (pI t (c + 5) k v) := by
  obtain ⟨a1, a2, a3, a4⟩ := h
  exact ⟨(oqRow_ne (by omega)).trans a1, (oqRow_ne (by omega)).trans a2, (oqRow_ne (by omega)).trans a3, (oqRow_ne h2).trans a4⟩
/-- so far: i words are read, top values stand -/
def oqHv (fa : Nat → Int) (R : List Int) (st : Nat) (i top : Int) (row : Nat → Int32) : Prop := ∃ U D, R = U ++ D ∧ i = (st : Int) + (D.length : Int) ∧ top = ((oqEv fa D).length : Int) ∧ oqOu (fun j => (row j).toInt) top.toNat (oqEv fa D)
theorem oqHv_0 {fa : Nat → Int} {R : List Int} {st : Nat} {i top : Int} {row : Nat → Int32} (hi : i = (st : Int)) (ht : top = 0) : oqHv fa R st i top row := ⟨R, [], (List.append_nil R).symm, by show i = (st : Int) + (0 : Int); omega, ht, trivial⟩
theorem oqHv.cast {fa : Nat → Int} {R : List Int} {st : Nat} {i top i' top' : Int} {row row' : Nat → Int32} (h : oqHv fa R st i top row) (hi : i' = i) (ht : top' = top) (hr : row' = row) : oqHv fa R st i' top' row' := by
  rw [hi, ht, hr]
  exact h
theorem oqHv_end {fa : Nat → Int} {R : List Int} {st : Nat} {i top : Int} {row : Nat → Int32} (h : oqHv fa R st i top row) (hi : (st : Int) + (R.length : Int) ≤ i) : top = ((oqEv fa R).length : Int) ∧ oqOu (fun j => (row j).toInt) top.toNat (oqEv fa R) := by
  obtain ⟨U, D, h1, h2, h3, h4⟩ := h
  have hU : U = [] := by
    have : R.length = U.length + D.length := by rw [h1, List.length_append]
    exact List.length_eq_zero_iff.mp (by omega)
  rw [hU, List.nil_append] at h1
  rw [h1]
  exact ⟨h3, h4⟩
theorem oqHv_nx {fa : Nat → Int} {R : List Int} {st : Nat} {i top : Int} {row : Nat → Int32} {wd : Nat → Int} {X0 : List Bool} {w : Int} (h : oqHv fa R st i top row) (hi : i < (st : Int) + (R.length : Int)) (hty : oqTs 24 R = some X0) (hok : oqOkR R) (hf : ∀ i : Nat, i < 8 → -1000000 ≤ fa i ∧ fa i ≤ 1000000) (hw : oqOu wd (st + R.length) (R.map oqTau)) (hwi : wd i.toNat = w) : ∃ U t D, R = U ++ t :: D ∧ i = (st : Int) + (D.length : Int) ∧ top = ((oqEv fa D).length : Int) ∧ oqOu (fun j => (row j).toInt) top.toNat (oqEv fa D) ∧ w = oqTau t ∧ oqOk1 t ∧ ∃ X Y, oqTy1 t X = some Y ∧ Y.length ≤ 24 ∧ oqFv X (oqEv fa D) := by
  obtain ⟨U, D, h1, h2, h3, h4⟩ := h
  have hl : R.length = U.length + D.length := by rw [h1, List.length_append]
  rcases List.eq_nil_or_concat U with hU | ⟨V, t, hU⟩
  · rw [hU] at hl
    have : R.length = D.length := by rw [hl]; exact Nat.zero_add _
    omega
  · rw [List.concat_eq_append] at hU
    have hR : R = V ++ t :: D := by rw [h1, hU, List.append_assoc]; rfl
    have hl2 : R.length = V.length + (D.length + 1) := by rw [hR, List.length_append, List.length_cons]
    rw [hR] at hw
    rw [List.map_append, List.map_cons] at hw
    obtain ⟨k, e1, e2, e3⟩ := oqOu_at hw
    rw [List.length_map] at e1
    have e4 : (V ++ t :: D).length = R.length := by rw [hR]
    have ek : k = i.toNat := by omega
    rw [ek, hwi] at e2
    rw [hR] at hty
    obtain ⟨S, hS⟩ := oqTs_app hty
    obtain ⟨X, q1, q2, q3⟩ := oqTs_i hS
    have hokD : oqOkR D := fun z hz => hok z (by rw [hR]; exact List.mem_append_right _ (List.mem_cons_of_mem _ hz))
    exact ⟨V, t, D, hR, h2, h3, h4, e2, hok t (by rw [hR]; exact List.mem_append_right _ (List.mem_cons_self ..)), X, S, q2, q3, (oqEv_t hf q1 hokD).1⟩
/-- a value is put: m stay below it -/
theorem oqHv_put {fa : Nat → Int} {R U D : List Int} {st m : Nat} {i i' top' t : Int} {row : Nat → Int32} {v : Int32} {S' : List Int} (hR : R = U ++ t :: D) (hi : i = (st : Int) + (D.length : Int)) (hE : oqE1 fa t (oqEv fa D) = v.toInt :: S') (hO : oqOu (fun j => (row j).toInt) m S') (hm : m = S'.length) (hi' : i' = i + 1) (ht : top' = (m : Int) + 1) : oqHv fa R st i' top' (oU row m v) := by
  refine ⟨U, t :: D, hR, by rw [List.length_cons]; omega, ?_, ?_⟩
  · show top' = ((oqE1 fa t (oqEv fa D)).length : Int)
    rw [hE, List.length_cons]
    omega
  · show oqOu _ top'.toNat (oqE1 fa t (oqEv fa D))
    rw [hE]
    refine ⟨m, by omega, ?_, oqOu_cg (fun j hj => ?_) hO⟩
    · show (oU row m v m).toInt = v.toInt
      rw [oU_self]
    · show (row j).toInt = (oU row m v j).toInt
      rw [oU_ne (by omega)]
theorem oqTau_cl {t w : Int} (h : oqOk1 t) (hw : w = oqTau t) : (w < 10000 → (1000 ≤ t ∧ w = t - 1000) ∨ (t = 17 ∧ w = 1)) ∧ (10000 ≤ w → w < 10020 → 40 ≤ t ∧ t ≤ 47 ∧ w = t + 9960) ∧ (w = 10020 → t = 16) ∧ (10020 < w → oqJo t) ∧ (1000 ≤ t → w < 10000) ∧ 0 ≤ w := by
  unfold oqOk1 at h
  unfold oqJo
  unfold oqTau at hw
  by_cases h1 : 1000 ≤ t
  · rw [if_pos h1] at hw; omega
  · rw [if_neg h1] at hw
    by_cases h2 : 40 ≤ t
    · rw [if_pos h2] at hw; omega
    · rw [if_neg h2] at hw
      by_cases h3 : t = 17
      · rw [if_pos h3] at hw; omega
      · rw [if_neg h3] at hw
        by_cases h4 : t = 16
        · rw [if_pos h4] at hw; omega
        · rw [if_neg h4] at hw
          by_cases h5 : t = 15
          · rw [if_pos h5] at hw; omega
          · rw [if_neg h5] at hw
            by_cases h6 : t = 14
            · rw [if_pos h6] at hw; omega
            · rw [if_neg h6] at hw
              by_cases h7 : 11 ≤ t
              · rw [if_pos h7] at hw; omega
              · rw [if_neg h7] at hw; omega
theorem oqE1_val {fa : Nat → Int} {t v : Int} {S : List Int} (h : (1000 ≤ t ∧ v = t - 1000) ∨ (t = 17 ∧ v = 1)) : oqE1 fa t S = v :: S := by
  unfold oqE1
  rcases h with ⟨h1, h2⟩ | ⟨h1, h2⟩
  · rw [if_pos h1, h2]
  · rw [if_neg (by omega), if_neg (by omega), if_pos h1, h2]
theorem oqE1_fact {fa : Nat → Int} {t v : Int} {S : List Int} (h1 : 40 ≤ t) (h2 : t ≤ 47) (hv : v = fa (t - 40).toNat) : oqE1 fa t S = v :: S := by
  unfold oqE1
  rw [if_neg (by omega), if_pos h1, hv]
theorem oqE1_not {fa : Nat → Int} {a : Int} {S : List Int} : oqE1 fa 16 (a :: S) = (1 - a) :: S := rfl
theorem oqE1_jn {fa : Nat → Int} {t a b : Int} {S : List Int} (h : oqJo t) : oqE1 fa t (b :: a :: S) = oqJn t a b :: S := by
  unfold oqJo at h
  unfold oqE1
  rw [if_neg (by omega), if_neg (by omega), if_neg (by omega), if_neg (by omega)]
/-- what stands on top for a sign -/
theorem oqFv_16 {X Y : List Bool} {S : List Int} (h : oqTy1 16 X = some Y) (hS : oqFv X S) : ∃ a S', S = a :: S' ∧ (a = 0 ∨ a = 1) := by
  match X, S, h, hS with
  | true :: X', a :: S', h, hS => exact ⟨a, S', rfl, hS.1.2.2 rfl⟩
  | false :: X', S', h, hS => cases h
  | [], S', h, hS => cases h
  | true :: X', [], h, hS => exact hS.elim
theorem oqFv_jn {t : Int} {X Y : List Bool} {S : List Int} (hj : oqJo t) (h : oqTy1 t X = some Y) (hS : oqFv X S) : ∃ a b S', S = b :: a :: S' ∧ (-1000000 ≤ a ∧ a ≤ 1000000) ∧ (-1000000 ≤ b ∧ b ≤ 1000000) ∧ ((t = 14 ∨ t = 15) → (a = 0 ∨ a = 1) ∧ (b = 0 ∨ b = 1)) := by
  unfold oqJo at hj
  unfold oqTy1 at h
  rw [if_neg (by omega), if_neg (by omega), if_neg (by omega)] at h
  by_cases h14 : t = 14 ∨ t = 15
  · rw [if_pos h14] at h
    match X, S, h, hS with
    | true :: true :: X', b :: a :: S', h, hS => exact ⟨a, b, S', rfl, ⟨hS.2.1.1, hS.2.1.2.1⟩, ⟨hS.1.1, hS.1.2.1⟩, fun _ => ⟨hS.2.1.2.2 rfl, hS.1.2.2 rfl⟩⟩
    | true :: false :: X', S', h, hS => cases h
    | false :: X', S', h, hS => cases h
    | [], S', h, hS => cases h
    | [true], S', h, hS => cases h
    | true :: y :: X', [], h, hS => exact hS.elim
    | true :: y :: X', [b], h, hS => exact hS.2.elim
  · rw [if_neg h14] at h
    by_cases h11 : 11 ≤ t
    · rw [if_pos h11] at h
      match X, S, h, hS with
      | false :: false :: X', b :: a :: S', h, hS => exact ⟨a, b, S', rfl, ⟨hS.2.1.1, hS.2.1.2.1⟩, ⟨hS.1.1, hS.1.2.1⟩, fun z => absurd z h14⟩
      | false :: true :: X', S', h, hS => cases h
      | true :: X', S', h, hS => cases h
      | [], S', h, hS => cases h
      | [false], S', h, hS => cases h
      | false :: y :: X', [], h, hS => exact hS.elim
      | false :: y :: X', [b], h, hS => exact hS.2.elim
    · rw [if_neg h11] at h
      match X, S, h, hS with
      | false :: false :: X', b :: a :: S', h, hS => exact ⟨a, b, S', rfl, ⟨hS.2.1.1, hS.2.1.2.1⟩, ⟨hS.1.1, hS.1.2.1⟩, fun z => absurd z h14⟩
      | false :: true :: X', S', h, hS => cases h
      | true :: X', S', h, hS => cases h
      | [], S', h, hS => cases h
      | [false], S', h, hS => cases h
      | false :: y :: X', [], h, hS => exact hS.elim
      | false :: y :: X', [b], h, hS => exact hS.2.elim
theorem oqTy1_l {t : Int} {X Y : List Bool} (h : oqTy1 t X = some Y) (ho : 40 ≤ t ∨ t = 17) : Y.length = X.length + 1 := by
  unfold oqTy1 at h
  by_cases h1 : 40 ≤ t
  · rw [if_pos h1] at h
    injection h with h
    rw [← h, List.length_cons]
  · rw [if_neg h1, if_pos (by omega)] at h
    injection h with h
    rw [← h, List.length_cons]
theorem oqPLne (s : oS) {c k a b : Nat} (v : Int64) (h : a ≠ c ∨ b ≠ k) : (pL s c k v).2.1 a b = s.2.1 a b := by
  unfold pL
  by_cases h1 : a = c
  · have h2 : b ≠ k := h.resolve_left (fun z => z h1)
    simp [h1, h2]
  · simp [h1]
