/-! the reference's whole book -/
def owRY (g : Int → Int) (t : oS) : Prop := (t.1 71 5).toInt = 0 → (t.1 71 6).toInt = -1 ∧ ∃ R M N me W, (t.1 104 2).toInt = R ∧ (t.1 104 3).toInt = M ∧ oqNR N M t ∧ oqBu g (t.1 71 2).toInt (t.1 71 4).toInt R M N (t.1 71 37).toInt ∧ (0 ≤ R ∧ R ≤ 12 ∧ 0 ≤ M ∧ M ≤ 6) ∧ owBu g (t.1 71 2).toInt (t.1 71 4).toInt R M N (t.1 71 37).toInt me W ∧ owRB R W (oqRy 0 t) t ∧ (t.1 71 54).toInt = me
theorem owRY_0 {g : Int → Int} {t : oS} (h6 : (t.1 71 6).toInt = -1) (h2 : (t.1 104 2).toInt = 0) (h3 : (t.1 104 3).toInt = 0) (ha : (t.1 71 2).toInt = 0) (he : (t.1 71 4).toInt = -1) (hs : (t.1 71 37).toInt = 0) (hm : (t.1 71 54).toInt = 4) : owRY g t := fun _ => ⟨h6, 0, 0, fun _ _ => 0, 4, fun _ => [], h2, h3, oqNR_0 rfl, oqBu_0 ha he hs, by omega, owBu_0 ha he hs, fun k hk => by omega, hm⟩
theorem owRY_nx {g : Int → Int} {u : oS} {a b R M n me : Int} {N : Nat → Nat → Int} {W : Nat → List Int} (hBu : oqBu g a b R M N n) (hBv : owBu g a b R M N n me W) (h1 : g (oqSk g a) ≠ -1) (hRM : 0 ≤ R ∧ R ≤ 12 ∧ 0 ≤ M ∧ M ≤ 6) (h60 : n = 60 → (u.1 71 5).toInt ≠ 0) (hT1 : n < 60 → (u.1 71 5).toInt = 0 → (oqBk g (oqSk g a) b R M N = 0 ∧ (u.1 71 2).toInt = oqBa g (oqSk g a) b ∧ (u.1 71 4).toInt = oqBb g (oqSk g a) b ∧ (u.1 71 6).toInt = -1 ∧ (u.1 104 2).toInt = oqBR g (oqSk g a) b R ∧ (u.1 104 3).toInt = oqBM g (oqSk g a) b M)) (hTN : n < 60 → (u.1 71 5).toInt = 0 → oqNR (oqBN g (oqSk g a) b N M) (oqBM g (oqSk g a) b M) u) (hTW : n < 60 → (u.1 71 5).toInt = 0 → (owRB (oqBR g (oqSk g a) b R) (owWk g (oqSk g a) b R W) (oqRy 0 u) u ∧ (u.1 71 54).toInt = owMf g (oqSk g a) b me)) (hst : (u.1 71 5).toInt = 0 → (u.1 71 37).toInt = n + 1) : owRY g u := fun hb => by
  have hn := hBu.2.1
  have h60' : n < 60 := by
    by_cases e : n = 60
    · exact absurd hb (h60 e)
    · omega
  obtain ⟨q1, q2, q3, q4, q5, q6⟩ := hT1 h60' hb
  exact ⟨q4, _, _, _, _, _, q5, q6, hTN h60' hb, oqBu_nx hBu h1 h60' q1 q2 q3 (hst hb), oqBk_rg q1 hRM, owBu_nx hBv h1 h60' q2 q3 (hst hb), (hTW h60' hb).1, (hTW h60' hb).2⟩
/-- what is copied -/
def owM0 (R : Int) (t : oS) : Prop := (t.1 104 0).toInt = R
theorem owM0_fr {M : List (Nat × Nat)} {s u : oS} {R : Int} (hf : oFr M s u) (hm : (oinK M 80) = false) (h : owM0 R s) : owM0 R u := by
  unfold owM0
  rw [(hf 104 0 (oinK_in hm _)).1]
  exact h
def owRU (R : Int) (W : Nat → List Int) (t : oS) : Prop := owRB R W (oqRy 0 t) t
theorem owRU_fr {M : List (Nat × Nat)} {s u : oS} {R : Int} {W : Nat → List Int} (hf : oFr M s u) (hm : ((oin M 12 45 || oinK M 78) || (oinK M 81 || oinK M 82)) = false) (h : owRU R W s) : owRU R W u := by
  rw [Bool.or_eq_false_iff] at hm
  obtain ⟨hm1, hm2⟩ := hm
  simp only [Bool.or_eq_false_iff] at hm1
  unfold owRU
  rw [oqRy_e (oFr_row hf (c := 102) rfl hm1.2) (hf 71 45 hm1.1).1]
  exact owRB_fr hf hm2 h
theorem owRU_56 {s : oS} {R : Int} {W : Nat → List Int} {i v w : Int32} (h : owRU R W s) (hi : i.toInt < 24) : owRU R W (pI (pI s 105 i.toNatClampNeg v) 106 i.toNatClampNeg w) := fun k hk => by
  have hn := n_nat i
  obtain ⟨h1, U, D, h2, h3, h4⟩ := h k hk
  refine ⟨h1, U, D, ?_, ?_, ?_⟩
  · rw [← h2]
    exact oqRy_e ((oqRow_ne (by decide)).trans (oqRow_ne (by decide))) ((pI_ne _ _ (Or.inl (by decide))).trans (pI_ne _ _ (Or.inl (by decide))))
  · rw [pI_ne _ _ (Or.inl (by decide)), pI_ne _ _ (Or.inr (by omega))]; exact h3
  · rw [pI_ne _ _ (Or.inr (by omega)), pI_ne _ _ (Or.inl (by decide))]; exact h4
theorem owRU_c {s : oS} {R : Int} {W : Nat → List Int} {i v : Int32} (h : owRU R W s) (hi : i.toInt < 1600) : owRU R W (pI s 102 i.toNatClampNeg v) := fun k hk => by
  have hn := n_nat i
  obtain ⟨h1, U, D, h2, h3, h4⟩ := h k hk
  refine ⟨h1, U, D, ?_, ?_, ?_⟩
  · rw [← h2]
    unfold oqRy
    rw [pI_ne (a := 71) _ _ (Or.inl (by decide))]
    have key : ∀ n : Nat, oqCl ((pI s 102 i.toNatClampNeg v).1 102) 0 n = oqCl (s.1 102) 0 n := fun n => by
      induction n with
      | zero => rfl
      | succ n ih =>
        show ((pI s 102 i.toNatClampNeg v).1 102 (1600 + 0 + n)).toInt :: _ = (s.1 102 (1600 + 0 + n)).toInt :: _
        rw [ih, pI_ne _ _ (Or.inr (by omega))]
    exact key _
  · rw [pI_ne _ _ (Or.inl (by decide))]; exact h3
  · rw [pI_ne _ _ (Or.inl (by decide))]; exact h4
def owCF (x : Int) (t : oS) : Prop := ∀ j : Nat, (j : Int) < x → t.1 105 j = t.1 105 (24 + j) ∧ t.1 106 j = t.1 106 (24 + j)
theorem owCF_fr {M : List (Nat × Nat)} {s u : oS} {x : Int} (hf : oFr M s u) (hm : (oinK M 81 || oinK M 82) = false) (h : owCF x s) : owCF x u := by
  simp only [Bool.or_eq_false_iff] at hm
  unfold owCF
  rw [oFr_row hf (c := 105) rfl hm.1, oFr_row hf (c := 106) rfl hm.2]
  exact h
theorem owCF_nx {s : oS} {x y : Int} {i v w : Int32} (h : owCF x s) (hi : i.toInt = x) (h0 : 0 ≤ x ∧ x < 24) (hy : y = x + 1) (hv : ∀ j : Nat, (j : Int) = 24 + x → s.1 105 j = v) (hw : ∀ j : Nat, (j : Int) = 24 + x → s.1 106 j = w) : owCF y (pI (pI s 105 i.toNatClampNeg v) 106 i.toNatClampNeg w) := fun j hj => by
  have hn := n_nat i
  have e5 : ∀ m : Nat, (pI (pI s 105 i.toNatClampNeg v) 106 i.toNatClampNeg w).1 105 m = (pI s 105 i.toNatClampNeg v).1 105 m := fun m => pI_ne _ _ (Or.inl (by decide))
  have e6 : ∀ m : Nat, m ≠ i.toNatClampNeg → (pI (pI s 105 i.toNatClampNeg v) 106 i.toNatClampNeg w).1 106 m = s.1 106 m := fun m hm => (pI_ne _ _ (Or.inr hm)).trans (pI_ne _ _ (Or.inl (by decide)))
  have e7 : ∀ m : Nat, m ≠ i.toNatClampNeg → (pI s 105 i.toNatClampNeg v).1 105 m = s.1 105 m := fun m hm => pI_ne _ _ (Or.inr hm)
  rw [e5, e5, e7 (24 + j) (by omega), e6 (24 + j) (by omega)]
  by_cases e : j = i.toNatClampNeg
  · rw [e, pI_self, pI_self]
    exact ⟨(hv _ (by omega)).symm, (hw _ (by omega)).symm⟩
  · rw [e7 j e, e6 j e]
    exact h j (by omega)
theorem owCF_c {x y : Int} {t : oS} (h : owCF x t) (e : y ≤ x) : owCF y t := fun j hj => h j (by omega)
def owCD (x : Int) (t : oS) : Prop := ∀ j : Nat, (j : Int) < x → t.1 102 j = t.1 102 (1600 + j)
theorem owCD_nx {s : oS} {x y : Int} {i v : Int32} (h : owCD x s) (hi : i.toInt = x) (h0 : 0 ≤ x ∧ x < 1600) (hy : y = x + 1) (hv : ∀ j : Nat, (j : Int) = 1600 + x → s.1 102 j = v) : owCD y (pI s 102 i.toNatClampNeg v) := fun j hj => by
  have hn := n_nat i
  rw [pI_ne (b := 1600 + j) _ _ (Or.inr (by omega))]
  by_cases e : j = i.toNatClampNeg
  · rw [e, pI_self]
    exact (hv _ (by omega)).symm
  · rw [pI_ne _ _ (Or.inr e)]
    exact h j (by omega)
theorem owBE_fin {t : oS} {R x : Int} {W : Nat → List Int} (h0 : owM0 R t) (hR : R ≤ 12) (hu : owRU R W t) (hf : owCF 24 t) (hc : owCD x t) (hx : (t.1 71 45).toInt ≤ x) (hl : (t.1 71 45).toInt ≤ 1600) : owBE R W t := by
  refine ⟨h0, fun k hk => ?_⟩
  obtain ⟨h1, U, D, h2, h3, h4⟩ := hu k hk
  have hn := n_nat (t.1 71 45)
  have hlen := oqRy_len (t := t)
  have e := hf k (by omega)
  have el := congrArg List.length h2
  rw [List.length_append, List.length_append] at el
  refine ⟨h1.1, h1.2, D.length, by rw [e.1]; exact h3, by rw [e.2]; exact h4, by omega, ?_⟩
  unfold oqRy at h2
  exact oqCl_at h2 (fun j hj => hc j (by omega))
theorem owBE_kp {s t : oS} {R : Int} {W : Nat → List Int} (h : owBE R W s) (hC : owC0 (s.1 102) t) (hL : owLw (s.1 105) (s.1 106) (s.1 104 0) t) (hR : R ≤ 12) : owBE R W t := by
  refine ⟨by rw [hL.2]; exact h.1, fun k hk => ?_⟩
  obtain ⟨q1, q2, st, q3, q4, q5, q6⟩ := h.2 k hk
  have e := hL.1 k (by omega)
  refine ⟨q1, q2, st, by rw [e.1]; exact q3, by rw [e.2]; exact q4, q5, oqOu_cg (fun j hj => ?_) q6⟩
  show (s.1 102 j).toInt = (t.1 102 j).toInt
  rw [hC j (by omega)]
theorem oqWm0 {s : oS} {i v : Int32} {R : Int} (hv : v.toInt = R) (hi : i.toInt = 0) : owM0 R (pI s 104 i.toNatClampNeg v) := by
  have hn := n_nat i
  unfold owM0
  rw [show i.toNatClampNeg = 0 by omega, pI_self]
  exact hv
theorem owM0_1 {s : oS} {i v : Int32} {R : Int} (h : owM0 R s) (hi : 1 ≤ i.toInt) : owM0 R (pI s 104 i.toNatClampNeg v) := by
  have hn := n_nat i
  unfold owM0
  rw [pI_ne _ _ (Or.inr (by omega))]
  exact h
theorem oqWm2 {s : oS} {i v : Int32} {R : Int} (h : s.1 104 i.toNatClampNeg = v) (hi : i.toInt = 2) (hR : (s.1 104 2).toInt = R) : v.toInt = R := by
  have hn := n_nat i
  rw [← h, show i.toNatClampNeg = 2 by omega]
  exact hR
