/-! holds of the reference -/
def oUl (f : Nat → Int64) (k : Nat) (v : Int64) : Nat → Int64 := fun j => if j = k then v else f j
theorem oUl_self {f : Nat → Int64} {k : Nat} {v : Int64} : oUl f k v k = v := if_pos rfl
theorem oUl_ne {f : Nat → Int64} {k j : Nat} {v : Int64} (h : j ≠ k) : oUl f k v j = f j := if_neg h
theorem oqRowL_pu {s : oS} {c k : Nat} {v : Int64} : (pL s c k v).2.1 c = oUl (s.2.1 c) k v := by
  funext j
  unfold oUl
  by_cases h : j = k
  · rw [h, pL_self, if_pos rfl]
  · rw [oqPLne s v (Or.inr h), if_neg h]
/-- the test i of the reference -/
def oqRst (i : Nat) (R : List Int) (t : oS) : Prop := oqTs 24 R = some [true] ∧ oqOkR R ∧ ∃ st : Nat, (t.1 105 i).toInt = (st : Int) ∧ (t.1 106 i).toInt = (st : Int) + (R.length : Int) ∧ (st : Int) + (R.length : Int) ≤ 1600 ∧ oqOu (fun j => (t.1 102 j).toInt) (st + R.length) R
theorem oqRst_fr {M : List (Nat × Nat)} {s u : oS} {i : Nat} {R : List Int} (hf : oFr M s u) (hm : (oinK M 78 || (oinK M 81 || oinK M 82)) = false) (h : oqRst i R s) : oqRst i R u := by
  simp only [Bool.or_eq_false_iff] at hm
  obtain ⟨h2, h3, st, h4, h5, h6, h7⟩ := h
  refine ⟨h2, h3, st, ?_, ?_, h6, ?_⟩
  · rw [(hf 105 i (oinK_in hm.2.1 _)).1]; exact h4
  · rw [(hf 106 i (oinK_in hm.2.2 _)).1]; exact h5
  · rw [oFr_row hf (c := 102) rfl hm.1]; exact h7
def oqRv (fa : Nat → Int) (R : List Int) (st : Nat) (i top : Int) (row : Nat → Int64) : Prop := ∃ U D, R = U ++ D ∧ i = (st : Int) + (D.length : Int) ∧ top = ((oqEv fa D).length : Int) ∧ oqOu (fun j => (row j).toInt) top.toNat (oqEv fa D)
theorem oqRv_0 {fa : Nat → Int} {R : List Int} {st : Nat} {i top : Int} {row : Nat → Int64} (hi : i = (st : Int)) (ht : top = 0) : oqRv fa R st i top row := ⟨R, [], (List.append_nil R).symm, by show i = (st : Int) + (0 : Int); omega, ht, by rw [ht]; exact trivial⟩
theorem oqRv.cast {fa : Nat → Int} {R : List Int} {st : Nat} {i top i' top' : Int} {row row' : Nat → Int64} (h : oqRv fa R st i top row) (hi : i' = i) (ht : top' = top) (hr : row' = row) : oqRv fa R st i' top' row' := by
  rw [hi, ht, hr]
  exact h
theorem oqRv_end {fa : Nat → Int} {R : List Int} {st : Nat} {i top : Int} {row : Nat → Int64} (h : oqRv fa R st i top row) (hi : (st : Int) + (R.length : Int) ≤ i) : top = ((oqEv fa R).length : Int) ∧ oqOu (fun j => (row j).toInt) top.toNat (oqEv fa R) := by
  obtain ⟨U, D, h1, h2, h3, h4⟩ := h
  have hU : U = [] := by
    have : R.length = U.length + D.length := by rw [h1, List.length_append]
    exact List.length_eq_zero_iff.mp (by omega)
  rw [hU, List.nil_append] at h1
  rw [h1]
  exact ⟨h3, h4⟩
theorem oqRv_nx {fa : Nat → Int} {R : List Int} {st : Nat} {i top : Int} {row : Nat → Int64} {wd : Nat → Int} {X0 : List Bool} {w : Int} (h : oqRv fa R st i top row) (hi : i < (st : Int) + (R.length : Int)) (hty : oqTs 24 R = some X0) (hok : oqOkR R) (hf : ∀ i : Nat, i < 8 → -1000000 ≤ fa i ∧ fa i ≤ 1000000) (hw : oqOu wd (st + R.length) R) (hwi : wd i.toNat = w) : ∃ U D, R = U ++ w :: D ∧ i = (st : Int) + (D.length : Int) ∧ top = ((oqEv fa D).length : Int) ∧ oqOu (fun j => (row j).toInt) top.toNat (oqEv fa D) ∧ oqOk1 w ∧ ∃ X Y, oqTy1 w X = some Y ∧ Y.length ≤ 24 ∧ oqFv X (oqEv fa D) := by
  obtain ⟨U, D, h1, h2, h3, h4⟩ := h
  have hl : R.length = U.length + D.length := by rw [h1, List.length_append]
  rcases List.eq_nil_or_concat U with hU | ⟨V, t, hU⟩
  · rw [hU] at hl
    have : R.length = D.length := by rw [hl]; exact Nat.zero_add _
    omega
  · rw [List.concat_eq_append] at hU
    have hR : R = V ++ t :: D := by rw [h1, hU, List.append_assoc]; rfl
    have hl2 : R.length = V.length + (D.length + 1) := by rw [hR, List.length_append, List.length_cons]
    rw [hR] at hw
    obtain ⟨k, e1, e2, e3⟩ := oqOu_at hw
    have e4 : (V ++ t :: D).length = R.length := by rw [hR]
    have ek : k = i.toNat := by omega
    rw [ek, hwi] at e2
    subst e2
    rw [hR] at hty
    obtain ⟨S, hS⟩ := oqTs_app hty
    obtain ⟨X, q1, q2, q3⟩ := oqTs_i hS
    have hokD : oqOkR D := fun z hz => hok z (by rw [hR]; exact List.mem_append_right _ (List.mem_cons_of_mem _ hz))
    exact ⟨V, D, hR, h2, h3, h4, hok w (by rw [hR]; exact List.mem_append_right _ (List.mem_cons_self ..)), X, S, q2, q3, (oqEv_t hf q1 hokD).1⟩
theorem oqRv_put {fa : Nat → Int} {R U D : List Int} {st m : Nat} {i i' top' t : Int} {row : Nat → Int64} {v : Int64} {S' : List Int} (hR : R = U ++ t :: D) (hi : i = (st : Int) + (D.length : Int)) (hE : oqE1 fa t (oqEv fa D) = v.toInt :: S') (hO : oqOu (fun j => (row j).toInt) m S') (hm : m = S'.length) (hi' : i' = i + 1) (ht : top' = (m : Int) + 1) : oqRv fa R st i' top' (oUl row m v) := by
  refine ⟨U, t :: D, hR, by rw [List.length_cons]; omega, ?_, ?_⟩
  · show top' = ((oqE1 fa t (oqEv fa D)).length : Int)
    rw [hE, List.length_cons]
    omega
  · show oqOu _ top'.toNat (oqE1 fa t (oqEv fa D))
    rw [hE]
    refine ⟨m, by omega, ?_, oqOu_cg (fun j hj => ?_) hO⟩
    · show (oUl row m v m).toInt = v.toInt
      rw [oUl_self]
    · show (row j).toInt = (oUl row m v j).toInt
      rw [oUl_ne (by omega)]
theorem oqJo_of {t : Int} (h : oqOk1 t) (h1 : t < 16) : oqJo t := by
  unfold oqOk1 at h
  unfold oqJo
  omega
def oqTq (s t : oS) : Prop := t.1 102 = s.1 102 ∧ t.1 105 = s.1 105 ∧ t.1 106 = s.1 106 ∧ t.1 109 = s.1 109
theorem oqTq_0 {s : oS} : oqTq s s := ⟨rfl, rfl, rfl, rfl⟩
theorem oqTq_fr {M : List (Nat × Nat)} {s t u : oS} (hf : oFr M t u) (hm : (oinK M 78 || (oinK M 81 || (oinK M 82 || oinK M 85))) = false) (h : oqTq s t) : oqTq s u := by
  simp only [Bool.or_eq_false_iff] at hm
  exact ⟨(oFr_row hf (c := 102) rfl hm.1).trans h.1, (oFr_row hf (c := 105) rfl hm.2.1).trans h.2.1, (oFr_row hf (c := 106) rfl hm.2.2.1).trans h.2.2.1, (oFr_row hf (c := 109) rfl hm.2.2.2).trans h.2.2.2⟩
