/-! along the made lines -/
def owZr (_ : Nat) : Int := 0
theorem owUs_dg {n v : Int} {k : Nat} {st : Nat → Int} (h : owDg n st) (hk : (k : Int) < n) (hv : 0 ≤ v ∧ v ≤ 4) : owDg n (owUs st k v) := by
  refine ⟨fun j => ?_, fun j hj => ?_⟩
  · unfold owUs
    split
    · exact hv
    · exact h.1 j
  · unfold owUs
    rw [if_neg (by omega)]
    exact h.2 j hj
theorem owFi_dg {n r f i : Int} {st st' : Nat → Int} (h : owDg n st) (hf : owFi n r f i st st') (hi : i ≤ n) : owDg n st' := by
  obtain ⟨h1, h2, h3⟩ := hf
  have key : ∀ j : Nat, (j : Int) < n ∨ n ≤ (j : Int) := fun j => by omega
  refine ⟨fun j => ?_, fun j hj => ?_⟩
  · by_cases a : (j : Int) < f
    · rw [h1 j a]; exact h.1 j
    · by_cases b : (j : Int) < i
      · rw [(h2 j (by omega) b).1]; split <;> omega
      · rw [h3 j (by omega) (by omega)]; exact h.1 j
  · by_cases a : (j : Int) < f
    · rw [h1 j a]; exact h.2 j hj
    · rw [h3 j (by omega) (by omega)]; exact h.2 j hj
theorem owFl_c {c : Nat} {n r f i i' : Int} {st : Nat → Int} {t : oS} (h : owFl c n r f i st t) (e : i' = i) : owFl c n r f i' st t := by
  rw [e]; exact h
theorem owDg_z {n : Int} : owDg n (fun _ => 0) := ⟨fun _ => ⟨by show (0 : Int) ≤ 0; decide, by show (0 : Int) ≤ 4; decide⟩, fun _ _ => rfl⟩
theorem owBeg {c : Nat} {n r f : Int} {t : oS} (h : owFl c n r f n (fun _ => 0) t) (hf : f = 0) : owMS c n (owF0 n) t ∧ (2 ≤ n → 1 ≤ r) := by
  subst hf
  obtain ⟨st', h1, h2⟩ := h
  have e := owFi_f0 h2 h1.2.2.2
  rw [← e.1]
  exact ⟨h1, e.2⟩
theorem owMA_0 {c : Nat} {n : Int} {t : oS} (hc : okd c = 4) (hn : n = 0) (h1 : (t.1 c 4).toInt = 0) (h2 : (t.1 c 5).toInt = 0) (h3 : (t.1 c 7).toInt = 0) : owMA c n t := ⟨hc, by omega, by omega, h3, fun j hj => by omega⟩
theorem owMA_c {c : Nat} {n n' : Int} {t : oS} (h : owMA c n t) (e : n' = n) : owMA c n' t := by
  rw [e]; exact h
theorem owMS_0 {c : Nat} {n : Int} {t : oS} (hc : okd c = 4) (hn : n = 0) (h1 : (t.1 c 6).toInt = -1) : owMS c n (fun _ => 0) t := ⟨hc, by rw [if_pos (by omega)]; exact h1, fun j hj => by omega, fun _ _ => rfl⟩
theorem owMS_c {c : Nat} {n n' : Int} {st : Nat → Int} {t : oS} (h : owMS c n st t) (e : n' = n) : owMS c n' st t := by
  rw [e]; exact h
def owNq (c : Nat) (n r : Int) (st : Nat → Int) (t : oS) : Prop := ∃ st', owMS c n st' t ∧ owNx n r st st'
theorem owNq_of {c k : Nat} {n r f v x : Int} {st : Nat → Int} {t : oS} (h : owFl c n r f n (owUs st k v) t) (hf : f = (k : Int) + 1) (hk : (k : Int) < n) (hv : v = owBp st k) (hr : v ≤ r) (hb : ∀ j : Nat, x < (j : Int) → (j : Int) < n → r < owBp st j) (hx : x = (k : Int)) : owNq c n r st t := by
  subst hf hx
  obtain ⟨st', h1, h2⟩ := h
  exact ⟨st', h1, owNx_of hk hv hr (fun j h3 h4 => hb j (by omega) h4) h2 h1.2.2.2⟩
theorem owLs_nx {n r x y v : Int} {k : Nat} {st : Nat → Int} (h : ∀ j : Nat, x < (j : Int) → (j : Int) < n → r < owBp st j) (hv : v = owBp st k) (hr : r < v) (hk : (k : Int) = x) (hy : y = x - 1) : ∀ j : Nat, y < (j : Int) → (j : Int) < n → r < owBp st j := fun j h1 h2 => by
  by_cases e : j = k
  · rw [e, ← hv]; exact hr
  · exact h j (by omega) h2
/-- the book that the calls use, its measure; the spare line -/
def owBO (b : Nat) (t : oS) : Prop := t.2.2 0 4 = b + 1
theorem owBO_fr {M : List (Nat × Nat)} {s u : oS} {b : Nat} (hf : oFr M s u) (hm : oin M 11 4 = false) (h : owBO b s) : owBO b u := ((hf 0 4 hm).2.2).trans h
def owME (b : Nat) (me : Int) (t : oS) : Prop := okd b = 0 ∧ (t.1 b 6).toInt = me
theorem owME_fr {M : List (Nat × Nat)} {s u : oS} {b : Nat} {me : Int} (hf : oFr M s u) (hm : oin M 0 6 = false) (h : owME b me s) : owME b me u := ⟨h.1, by rw [(hf b 6 (by rw [h.1]; exact hm)).1]; exact h.2⟩
def owSP (c : Nat) (t : oS) : Prop := okd c = 4 ∧ t.2.2 0 2 = c + 1
theorem owSP_fr {M : List (Nat × Nat)} {s u : oS} {c : Nat} (hf : oFr M s u) (hm : oin M 11 2 = false) (h : owSP c s) : owSP c u := ⟨h.1, ((hf 0 2 hm).2.2).trans h.2⟩
theorem owSP_of {s : oS} (h : oTy s) : ∃ c, owSP c s := by
  have h1 : oRok 0 2 (s.2.2 0 2) := h.2 0 2 (by decide) (by decide) (by decide)
  have e1 : (ort (okd 0) 2).1 = 2 := by decide
  have e2 : ost (ort (okd 0) 2).2 = [3, 8, 13] := by decide
  unfold oRok at h1
  rw [if_neg (by rw [e1]; decide), if_neg (by rw [e1]; decide), e2] at h1
  obtain ⟨x, hx, hr⟩ := h1
  refine ⟨x, ?_, hr⟩
  simp only [List.mem_cons, List.mem_nil_iff, or_false] at hx
  rcases hx with rfl | rfl | rfl <;> decide
/-- on the way -/
def owLp (sp : Nat) (n r : Int) (A : (Nat → Int) → Prop) (x : Int) (t : oS) : Prop := ∃ st, owMS sp n st t ∧ owDg n st ∧ x ≤ owVa st ∧ ∀ v, owRn n r A st v → owMd n r A v
theorem owLp_0 {c sp : Nat} {n r x : Int} {A : (Nat → Int) → Prop} {t : oS} (h : owMS c n (owF0 n) t) (hc : c = sp) (hn : ¬ (2 ≤ n ∧ r < 1)) (hx : x = 0) : owLp sp n r A x t := by
  subst hc
  refine ⟨_, h, owF0_dg, ?_, fun v hv => ?_⟩
  · have := (owVa_b (owF0_dg (n := n))).1
    omega
  · unfold owMd
    rw [if_neg hn]
    exact hv
theorem owLp_nx {c sp : Nat} {n r x y : Int} {A : (Nat → Int) → Prop} {st : Nat → Int} {t : oS} (hq : owNq c n r st t) (hc : c = sp) (hA : ¬ A st) (hd : owDg n st) (hx : x ≤ owVa st) (hr : ∀ v, owRn n r A st v → owMd n r A v) (hy : y = x + 1) (hn : n ≤ 6) (hr4 : r ≤ 4) : owLp sp n r A y t := by
  subst hc
  obtain ⟨st', h1, h2⟩ := hq
  have h3 := owNx_dg hn hr4 hd h2
  exact ⟨st', h1, h3.1, by omega, fun v hv => hr v (owRn_x hA h2 hv)⟩
theorem owSp_st {c n v r d z : Int} (hz : z = d + r) (hd : d = c / 180) (hv : v = 2 * n) (hr : r = if c % 3 = 1 then 2 * v else if c % 3 = 2 then (v + 1) / 2 else v) (hn : 0 ≤ n ∧ n ≤ 6) (hc : 0 ≤ c ∧ c ≤ 4499) : z = owSp c n ∧ 0 ≤ z ∧ z ≤ 60 := by
  unfold owSp
  by_cases q1 : c % 3 = 1
  · rw [if_pos q1] at hr ⊢
    omega
  · rw [if_neg q1] at hr ⊢
    by_cases q2 : c % 3 = 2
    · rw [if_pos q2] at hr ⊢
      omega
    · rw [if_neg q2] at hr ⊢
      omega
theorem owSt_r {c v r : Int} (hr : r = if c % 3 = 1 then 2 * v else if c % 3 = 2 then (v + 1) / 2 else v) (hv : 0 ≤ v ∧ v ≤ 1000) : 0 ≤ r ∧ r ≤ 2000 := by
  by_cases q1 : c % 3 = 1
  · rw [if_pos q1] at hr
    omega
  · rw [if_neg q1] at hr
    by_cases q2 : c % 3 = 2
    · rw [if_pos q2] at hr
      omega
    · rw [if_neg q2] at hr
      omega
theorem owSp_84 {n : Int} : owSp 84 n = 2 * n := by
  unfold owSp
  rw [if_neg (by decide), if_neg (by decide)]
  omega
theorem owXk_n1 {c n t v : Int} {st : Nat → Int} (h : v = owXa c n st t) (hv : v = -1000000000) : ¬ owXk c n st t := fun h9 => by
  have h8 : owXa c n st t ≠ -1000000000 := h9.1
  omega
theorem owXk_n2 {c n t : Int} {st : Nat → Int} (h1 : owNb 84 n t = owNb 84 n (t - 1)) (h2 : owNb c n t = owNb c n (t - 1)) : ¬ owXk c n st t := fun h9 => by
  have := h9.2
  omega
theorem owXk_y {c n t v : Int} {st : Nat → Int} (h : v = owXa c n st t) (hv : v ≠ -1000000000) (h2 : owNb 84 n t ≠ owNb 84 n (t - 1) ∨ owNb c n t ≠ owNb c n (t - 1)) : owXk c n st t := ⟨by rw [h] at hv; exact hv, h2⟩
theorem owHi_c {s : oS} {me c n x y : Int} {st : Nat → Int} (h : owHi me c n st x s) (e : y = x) : owHi me c n st y s := by
  rw [e]; exact h
theorem owMd_0 {n r : Int} {A : (Nat → Int) → Prop} (h : 2 ≤ n ∧ r < 1) : owMd n r A 0 := by
  unfold owMd
  rw [if_pos h]
/-- what make answers -/
def owMr (R : Int) (W : Nat → List Int) (me c n r v : Int) : Prop := if (0 ≤ c ∧ c ≤ 4499 ∧ c ≠ 84) ∧ (1 ≤ n ∧ n ≤ 6) ∧ (0 ≤ r ∧ r ≤ 4) then owMd n r (owAg R W me c n) v else v = -1
theorem owMr_y {R : Int} {W : Nat → List Int} {me c n r v : Int} (h : (0 ≤ c ∧ c ≤ 4499 ∧ c ≠ 84) ∧ (1 ≤ n ∧ n ≤ 6) ∧ (0 ≤ r ∧ r ≤ 4)) (h2 : owMd n r (owAg R W me c n) v) : owMr R W me c n r v := by
  unfold owMr
  rw [if_pos h]
  exact h2
theorem owMr_n {R : Int} {W : Nat → List Int} {me c n r v : Int} (h : ¬ ((0 ≤ c ∧ c ≤ 4499 ∧ c ≠ 84) ∧ (1 ≤ n ∧ n ≤ 6) ∧ (0 ≤ r ∧ r ≤ 4))) (h2 : v = -1) : owMr R W me c n r v := by
  unfold owMr
  rw [if_neg h]
  exact h2
