abbrev oXc (c k : Nat) : Prop := (c = 18 ∧ k = 6) ∨ (c = 24 ∧ k = 6) ∨ (c = 71 ∧ k = 53)
def oTX (σ : oS) : Prop := ∀ c k, ¬ oXc c k → olo (okd c) k ≤ (σ.1 c k).toInt ∧ (σ.1 c k).toInt ≤ ohi (okd c) k
theorem oTX_pI {σ : oS} {c k : Nat} {v : Int32} (h : oTX σ) (hv : olo (okd c) k ≤ v.toInt ∧ v.toInt ≤ ohi (okd c) k) : oTX (pI σ c k v) := fun a b hab => by
  by_cases e : a = c ∧ b = k
  · obtain ⟨rfl, rfl⟩ := e
    rw [pI_self]
    exact hv
  · rw [pI_ne σ v (by by_cases ha : a = c <;> by_cases hb : b = k <;> simp_all)]
    exact h a b hab
theorem oTX_pR {σ : oS} {c k r : Nat} (h : oTX σ) : oTX (pR σ c k r) := h
theorem oTX_pF {σ : oS} {c N : Nat} {v : Int32} (h : oTX σ) (hv : ∀ k, olo (okd c) k ≤ v.toInt ∧ v.toInt ≤ ohi (okd c) k) : oTX (pF σ c N v) := fun a b hab => by
  unfold pF
  by_cases ha : a = c
  · by_cases hb : b < N
    · simp only [ha, hb, if_true]
      exact hv b
    · simp only [ha, hb, if_true, if_false]
      rw [← ha]
      exact h a b hab
  · simp only [ha, if_false]
    exact h a b hab
def oS0 : oS := (fun _ _ => 0, fun _ _ => 0, fun _ _ => 0)
theorem oZ_0 : oZ 0 oS0 := ⟨fun _ _ _ => ⟨rfl, rfl, rfl⟩, fun _ _ => Nat.le_refl _⟩
theorem o_getD (l : List Int) (k : Nat) (d : Int) (h : l.length ≤ k) : l.getD k d = d := by
  rw [List.getD_eq_getElem?_getD, List.getElem?_eq_none h]
  rfl
theorem o_far {q k : Nat} (hq : q < 13) (hk : 90 ≤ k) : olo q k = -2147483648 ∧ ohi q k = 2147483647 := by
  have h : q = 0 ∨ q = 1 ∨ q = 2 ∨ q = 3 ∨ q = 4 ∨ q = 5 ∨ q = 6 ∨ q = 7 ∨ q = 8 ∨ q = 9 ∨ q = 10 ∨ q = 11 ∨ q = 12 := by omega
  rcases h with rfl | rfl | rfl | rfl | rfl | rfl | rfl | rfl | rfl | rfl | rfl | rfl | rfl <;> exact ⟨o_getD _ _ _ (Nat.le_trans (by decide) hk), o_getD _ _ _ (Nat.le_trans (by decide) hk)⟩
theorem o_arr {q k : Nat} (hq : ¬ q < 13) : olo q k = olo q 0 ∧ ohi q k = ohi q 0 := by
  unfold olo ohi
  rw [if_neg hq, if_neg hq, if_neg hq, if_neg hq]
  exact ⟨rfl, rfl⟩
theorem o_zf : ∀ c : Nat, c < 118 → ∀ k : Nat, k < 90 → (okd c < 13 ∧ ¬ ((c = 18 ∧ k = 6) ∨ (c = 24 ∧ k = 6) ∨ (c = 71 ∧ k = 53))) → olo (okd c) k ≤ 0 ∧ 0 ≤ ohi (okd c) k := by decide +kernel
theorem o_za : ∀ c : Nat, c < 118 → ¬ okd c < 13 → olo (okd c) 0 ≤ 0 ∧ 0 ≤ ohi (okd c) 0 := by decide +kernel
theorem oTX_0 : oTX oS0 := fun c k hX => by
  show olo (okd c) k ≤ 0 ∧ 0 ≤ ohi (okd c) k
  by_cases hc : c < 118
  · by_cases h13 : okd c < 13
    · by_cases hk : k < 90
      · exact o_zf c hc k hk ⟨h13, hX⟩
      · have := o_far (k := k) h13 (by omega)
        rw [this.1, this.2]
        decide
    · have := o_arr (k := k) h13
      rw [this.1, this.2]
      exact o_za c hc h13
  · have h9 : okd c = 999 := by
      unfold okd
      rw [List.getD_eq_getElem?_getD, List.getElem?_eq_none (by have : okdL.length = 118 := rfl; omega)]
      rfl
    have := o_arr (q := okd c) (k := k) (by omega)
    rw [this.1, this.2, h9]
    decide
theorem xt_fill {σ : oS} (h : oTX σ) : oTX (t_fill σ) := oTX_pF h (fun k => by rw [(o_arr (k := k) (by decide : ¬ okd 32 < 13)).1, (o_arr (k := k) (by decide : ¬ okd 32 < 13)).2]; decide)
set_option maxRecDepth 20000 in
theorem xt_X8_init_1 {σ : oS} (h : oTX σ) : oTX (t_X8_init_1 σ) := (oTX_pR h)
set_option maxRecDepth 20000 in
theorem xt_X4_init_3 {σ : oS} (h : oTX σ) : oTX (t_X4_init_3 σ) := (oTX_pI (oTX_pR (oTX_pR (oTX_pR (oTX_pR h)))) (by decide))
set_option maxRecDepth 20000 in
theorem xt_X4_init_8 {σ : oS} (h : oTX σ) : oTX (t_X4_init_8 σ) := (oTX_pI (oTX_pR (oTX_pR (oTX_pR (oTX_pR h)))) (by decide))
set_option maxRecDepth 20000 in
theorem xt_X4_init_13 {σ : oS} (h : oTX σ) : oTX (t_X4_init_13 σ) := (oTX_pI (oTX_pR (oTX_pR (oTX_pR (oTX_pR h)))) (by decide))
set_option maxRecDepth 20000 in
theorem xt_X0_init_18 {σ : oS} (h : oTX σ) : oTX (t_X0_init_18 σ) := (oTX_pI (oTX_pR (oTX_pR (oTX_pR (oTX_pR (oTX_pR h))))) (by decide))
set_option maxRecDepth 20000 in
theorem xt_X0_init_24 {σ : oS} (h : oTX σ) : oTX (t_X0_init_24 σ) := (oTX_pI (oTX_pR (oTX_pR (oTX_pR (oTX_pR (oTX_pR h))))) (by decide))
set_option maxRecDepth 20000 in
theorem xt_X5_init_30 {σ : oS} (h : oTX σ) : oTX (t_X5_init_30 σ) := (oTX_pR (oTX_pR (oTX_pI h (by decide))))
set_option maxRecDepth 20000 in
theorem xt_X2_follow_31 {σ : oS} (h : oTX σ) : oTX (t_X2_follow_31 σ) := (xt_fill (oTX_pR h))
set_option maxRecDepth 20000 in
theorem xt_X2_init_31 {σ : oS} (h : oTX σ) : oTX (t_X2_init_31 σ) := (xt_X2_follow_31 (oTX_pR (oTX_pR (oTX_pR h))))
set_option maxRecDepth 20000 in
theorem xt_X9_init_40 {σ : oS} (h : oTX σ) : oTX (t_X9_init_40 σ) := h
set_option maxRecDepth 20000 in
theorem xt_X9_init_41 {σ : oS} (h : oTX σ) : oTX (t_X9_init_41 σ) := h
set_option maxRecDepth 20000 in
theorem xt_X1_init_35 {σ : oS} (h : oTX σ) : oTX (t_X1_init_35 σ) := (oTX_pR (xt_X9_init_41 (oTX_pR (xt_X9_init_40 (oTX_pR (oTX_pR (oTX_pR (oTX_pR h))))))))
set_option maxRecDepth 20000 in
theorem xt_X9_init_42 {σ : oS} (h : oTX σ) : oTX (t_X9_init_42 σ) := h
set_option maxRecDepth 20000 in
theorem xt_X9_init_51 {σ : oS} (h : oTX σ) : oTX (t_X9_init_51 σ) := h
set_option maxRecDepth 20000 in
theorem xt_X10_init_43 {σ : oS} (h : oTX σ) : oTX (t_X10_init_43 σ) := (oTX_pR (xt_X9_init_51 (oTX_pR (oTX_pR (oTX_pR (oTX_pR (oTX_pR (oTX_pR (oTX_pR (oTX_pI (oTX_pI h (by decide)) (by decide)))))))))))
set_option maxRecDepth 20000 in
theorem xt_X7_init_52 {σ : oS} (h : oTX σ) : oTX (t_X7_init_52 σ) := (oTX_pR (oTX_pR (oTX_pR h)))
set_option maxRecDepth 20000 in
theorem xt_X9_init_64 {σ : oS} (h : oTX σ) : oTX (t_X9_init_64 σ) := h
set_option maxRecDepth 20000 in
theorem xt_X6_init_61 {σ : oS} (h : oTX σ) : oTX (t_X6_init_61 σ) := (oTX_pR (xt_X9_init_64 (oTX_pR (oTX_pR h))))
set_option maxRecDepth 20000 in
theorem xt_X9_init_68 {σ : oS} (h : oTX σ) : oTX (t_X9_init_68 σ) := h
set_option maxRecDepth 20000 in
theorem xt_X6_init_65 {σ : oS} (h : oTX σ) : oTX (t_X6_init_65 σ) := (oTX_pR (xt_X9_init_68 (oTX_pR (oTX_pR h))))
set_option maxRecDepth 20000 in
theorem xt_X3_init_56 {σ : oS} (h : oTX σ) : oTX (t_X3_init_56 σ) := (oTX_pR (xt_X6_init_65 (oTX_pR (xt_X6_init_61 (oTX_pR (oTX_pR (oTX_pR (oTX_pR h))))))))
set_option maxRecDepth 20000 in
theorem xt_X11_init_0 {σ : oS} (h : oTX σ) : oTX (t_X11_init_0 σ) := (oTX_pI (oTX_pR (oTX_pR (oTX_pR (xt_X3_init_56 (oTX_pR (xt_X7_init_52 (oTX_pR (xt_X10_init_43 (oTX_pR (xt_X9_init_42 (oTX_pR (xt_X1_init_35 (oTX_pR (xt_X2_init_31 (oTX_pR (xt_X5_init_30 (oTX_pR (xt_X0_init_24 (oTX_pR (xt_X0_init_18 (oTX_pR (xt_X4_init_13 (oTX_pR (xt_X4_init_8 (oTX_pR (xt_X4_init_3 (oTX_pR (xt_X8_init_1 h)))))))))))))))))))))))))))) (by decide))
set_option maxRecDepth 20000 in
theorem xt_X12_init_71 {σ : oS} (h : oTX σ) : oTX (t_X12_init_71 σ) := (oTX_pR (oTX_pR (oTX_pR (oTX_pR (oTX_pR (oTX_pR (oTX_pR (oTX_pR (oTX_pI (oTX_pI (oTX_pI (oTX_pR (oTX_pR (oTX_pI (oTX_pR (oTX_pR (oTX_pR (oTX_pR (oTX_pR (oTX_pR (oTX_pI (oTX_pR (oTX_pR (oTX_pR (oTX_pR (oTX_pI (oTX_pI (oTX_pI (oTX_pR (oTX_pI (oTX_pI (oTX_pI (oTX_pR (oTX_pI (oTX_pI (oTX_pI (oTX_pI (oTX_pR (oTX_pI (oTX_pI (oTX_pI (oTX_pI (oTX_pR (oTX_pI (oTX_pI (oTX_pI (oTX_pI (oTX_pI (oTX_pI (oTX_pR (oTX_pI (oTX_pI (oTX_pI (oTX_pI (oTX_pR (oTX_pI (oTX_pI (oTX_pI (oTX_pI (oTX_pI (oTX_pR (oTX_pI (oTX_pI (oTX_pI (oTX_pI (oTX_pR (oTX_pI (oTX_pI (oTX_pI (oTX_pR (oTX_pI (oTX_pI (oTX_pI (oTX_pI (oTX_pI (oTX_pR (oTX_pI (oTX_pI (oTX_pI (oTX_pI (oTX_pR (oTX_pI (oTX_pI (oTX_pI (oTX_pI (oTX_pR (oTX_pI (oTX_pI (oTX_pI (oTX_pI (oTX_pI (oTX_pR (oTX_pI (oTX_pI (oTX_pI (oTX_pI (oTX_pR (oTX_pI (oTX_pI (oTX_pI (oTX_pR (oTX_pI (oTX_pI (oTX_pI (oTX_pR (oTX_pI (oTX_pI (oTX_pI (oTX_pR (oTX_pI (oTX_pI (oTX_pI (oTX_pR (oTX_pI (oTX_pI (oTX_pR (oTX_pI (oTX_pI (oTX_pI (oTX_pI (oTX_pR (oTX_pI (oTX_pI (oTX_pI (oTX_pI (oTX_pI (oTX_pR (oTX_pI (oTX_pI (oTX_pI (oTX_pR (oTX_pI (oTX_pI (oTX_pI (oTX_pI (oTX_pI (oTX_pI (oTX_pI (oTX_pR (oTX_pI (oTX_pI (oTX_pI (oTX_pI (oTX_pR (oTX_pI (oTX_pI (oTX_pI (oTX_pR (oTX_pI (oTX_pI (oTX_pI (oTX_pI (oTX_pI (oTX_pR h) (by decide)) (by decide)) (by decide)) (by decide)) (by decide))) (by decide)) (by decide)) (by decide))) (by decide)) (by decide)) (by decide)) (by decide))) (by decide)) (by decide)) (by decide)) (by decide)) (by decide)) (by decide)) (by decide))) (by decide)) (by decide)) (by decide))) (by decide)) (by decide)) (by decide)) (by decide)) (by decide))) (by decide)) (by decide)) (by decide)) (by decide))) (by decide)) (by decide))) (by decide)) (by decide)) (by decide))) (by decide)) (by decide)) (by decide))) (by decide)) (by decide)) (by decide))) (by decide)) (by decide)) (by decide))) (by decide)) (by decide)) (by decide)) (by decide))) (by decide)) (by decide)) (by decide)) (by decide)) (by decide))) (by decide)) (by decide)) (by decide)) (by decide))) (by decide)) (by decide)) (by decide)) (by decide))) (by decide)) (by decide)) (by decide)) (by decide)) (by decide))) (by decide)) (by decide)) (by decide))) (by decide)) (by decide)) (by decide)) (by decide))) (by decide)) (by decide)) (by decide)) (by decide)) (by decide))) (by decide)) (by decide)) (by decide)) (by decide))) (by decide)) (by decide)) (by decide)) (by decide)) (by decide)) (by decide))) (by decide)) (by decide)) (by decide)) (by decide))) (by decide)) (by decide)) (by decide)) (by decide))) (by decide)) (by decide)) (by decide))) (by decide)) (by decide)) (by decide)))))) (by decide)))))))) (by decide)))) (by decide)) (by decide)) (by decide))))))))))
def oSF : oS := t_X12_init_71 (t_X11_init_0 oS0)
theorem oTX_F : oTX oSF := xt_X12_init_71 (xt_X11_init_0 oTX_0)
def oRokB (c k r : Nat) : Bool := if (ort (okd c) k).1 = 0 then r == (ort (okd c) k).2 + 1 else if (ort (okd c) k).1 = 1 then r == c + (ort (okd c) k).2 + 1 else (ost (ort (okd c) k).2).any fun x => r == x + 1
theorem oRok_of {c k r : Nat} (h : oRokB c k r = true) : oRok c k r := by
  unfold oRokB at h
  unfold oRok
  split at h
  · rw [if_pos (by assumption)]
    exact beq_iff_eq.mp h
  · rw [if_neg (by assumption)]
    split at h
    · rw [if_pos (by assumption)]
      exact beq_iff_eq.mp h
    · rw [if_neg (by assumption)]
      obtain ⟨x, hx, hr⟩ := List.any_eq_true.mp h
      exact ⟨x, hx, beq_iff_eq.mp hr⟩
set_option maxRecDepth 100000 in
theorem oRF : ∀ c : Nat, c < 118 → okd c < 13 → ∀ k : Nat, k < onf (okd c) → oft (okd c) k = 2 → oRokB c k (oSF.2.2 c k) = true := by decide +kernel
set_option maxRecDepth 100000 in
theorem o_F1 : oSF.1 18 6 = 4 ∧ oSF.1 24 6 = 4 ∧ oSF.1 71 53 = 4 ∧ oSF.1 71 38 = 0 ∧ oSF.1 104 0 = 0 ∧ oSF.1 104 1 = 0 ∧ oSF.1 1 1 = 0 ∧ oSF.1 71 1 = 0 := by decide +kernel
theorem oTy_F : oTy oSF := by
  refine ⟨fun c k => ?_, fun c k h13 hk h2 => oRok_of (oRF c (okd_lt rfl (by omega)) h13 k hk h2)⟩
  by_cases hX : oXc c k
  · rcases hX with ⟨rfl, rfl⟩ | ⟨rfl, rfl⟩ | ⟨rfl, rfl⟩
    · rw [o_F1.1]; decide
    · rw [o_F1.2.1]; decide
    · rw [o_F1.2.2.1]; decide
  · exact oTX_F c k hX
theorem oLT_F : oLT oSF := by
  unfold oLT
  rw [o_F1.2.2.2.1]
  exact ⟨by decide, fun k hk => absurd hk (Nat.not_lt_zero _)⟩
theorem oBI_F : oBI oSF := by
  intro m hm j hj
  have h01 : m = 0 ∨ m = 1 := by omega
  rcases h01 with rfl | rfl
  · rw [o_F1.2.2.2.2.1] at hj
    exact absurd hj (Nat.not_lt_zero _)
  · rw [o_F1.2.2.2.2.2.1] at hj
    exact absurd hj (Nat.not_lt_zero _)
