section LV
variable {l c h n : Int} {st : Nat → Int}
theorem owLv_c (hl : l / 12 % 15 = 7) (hc : c = l + 12 * h) (hh : -7 ≤ h ∧ h ≤ 7) (h0 : 0 ≤ l) : c / 180 = l / 180 ∧ c / 12 % 15 - 7 = h ∧ l / 12 % 15 - 7 = 0 ∧ c / 6 % 2 = l / 6 % 2 ∧ c / 3 % 2 = l / 3 % 2 ∧ c % 3 = l % 3 ∧ c % 12 = l % 12 := by omega
theorem owNb_lv (e1 : c / 180 = l / 180) (e2 : c / 3 % 2 = l / 3 % 2) (e3 : c % 3 = l % 3) (t : Int) : owNb c n t = owNb l n t := by
  unfold owNb owIx owBx
  rw [e1, e2, e3]
theorem owSp_lv (e1 : c / 180 = l / 180) (e3 : c % 3 = l % 3) : owSp c n = owSp l n := by
  unfold owSp
  rw [e1, e3]
theorem owTt_lv (e1 : c / 12 % 15 - 7 = h) (e2 : l / 12 % 15 - 7 = 0) (e3 : c / 6 % 2 = l / 6 % 2) (k : Int) : (owTt l n st k = -1000000000 ∧ owTt c n st k = -1000000000 ∧ ¬ (0 ≤ k ∧ k < n)) ∨ ((0 ≤ k ∧ k < n) ∧ owTt c n st k = owTt l n st k + h) := by
  unfold owTt
  rw [e1, e2, e3]
  by_cases q : 0 ≤ k ∧ k < n
  · rw [if_pos q, if_pos q]
    refine Or.inr ⟨q, ?_⟩
    omega
  · rw [if_neg q, if_neg q]
    exact Or.inl ⟨rfl, rfl, q⟩
theorem owTt_ne (hd : owDg n st) (hl : 0 ≤ l ∧ l ≤ 4499) {k : Int} (hk : 0 ≤ k ∧ k < n) : -20 ≤ owTt l n st k ∧ owTt l n st k ≤ 20 := by
  have hx := hd.1 k.toNat
  have hy := hd.1 0
  unfold owTt
  rw [if_pos hk]
  split <;> omega
theorem owAq_lv (hd : owDg n st) (hl : 0 ≤ l ∧ l ≤ 4499) (hh : -7 ≤ h ∧ h ≤ 7) (e1 : c / 12 % 15 - 7 = h) (e2 : l / 12 % 15 - 7 = 0) (e3 : c / 6 % 2 = l / 6 % 2) (a b : Int) : (owAq l n st a b = -1000000000 ∧ owAq c n st a b = -1000000000) ∨ (owAq l n st a b ≠ -1000000000 ∧ owAq c n st a b = owAq l n st a b + h ∧ owAq c n st a b ≠ -1000000000 ∧ (0 ≤ b ∧ b < n)) := by
  unfold owAq
  have hb := owTt_lv (n := n) (st := st) e1 e2 e3 b
  by_cases qa : owTt 84 n st a = -1000000000
  · left
    rw [if_pos (Or.inl qa), if_pos (Or.inl qa)]
    exact ⟨rfl, rfl⟩
  · have ha : -20 ≤ owTt 84 n st a ∧ owTt 84 n st a ≤ 20 := by
      rcases owTt_b (k := a) hd (show (0 : Int) ≤ 84 ∧ (84 : Int) ≤ 4499 by decide) with q | q
      · exact absurd q qa
      · exact q
    rcases hb with ⟨q1, q2, _⟩ | ⟨q1, q2⟩
    · left
      rw [if_pos (Or.inr q1), if_pos (Or.inr q2)]
      exact ⟨rfl, rfl⟩
    · right
      have hb2 := owTt_ne hd hl q1
      rw [if_neg (by omega), if_neg (by omega)]
      exact ⟨by omega, by omega, by omega, q1⟩
theorem owRq_lv (e1 : c / 12 % 15 - 7 = h) (e2 : l / 12 % 15 - 7 = 0) (e3 : c / 6 % 2 = l / 6 % 2) (hd : owDg n st) (hl : 0 ≤ l ∧ l ≤ 4499) (hh : -7 ≤ h ∧ h ≤ 7) {k : Int} (hk : 0 ≤ k ∧ k < n) (j : Int) : owRq c n st j k = owRq l n st j k := by
  unfold owRq
  rcases owTt_lv (n := n) (st := st) e1 e2 e3 j with ⟨q1, q2, _⟩ | ⟨q1, q2⟩
  · rw [if_pos q1, if_pos q2]
  · have hj := owTt_ne hd hl q1
    rcases owTt_lv (n := n) (st := st) e1 e2 e3 k with ⟨_, _, q5⟩ | ⟨_, q5⟩
    · exact absurd hk q5
    · rw [if_neg (by omega), if_neg (by omega)]
      omega
/-- the same moments for every height; what one has -/
theorem owXk_lv (hl : l / 12 % 15 = 7) (hl2 : 0 ≤ l ∧ l ≤ 4499) (hc : c = l + 12 * h) (hh : -7 ≤ h ∧ h ≤ 7) (hd : owDg n st) (t : Int) : owXk c n st t ↔ owXk l n st t := by
  obtain ⟨e1, e2, e3, e4, e5, e6, -⟩ := owLv_c hl hc hh hl2.1
  unfold owXk
  rw [owNb_lv (n := n) e1 e5 e6 t, owNb_lv (n := n) e1 e5 e6 (t - 1)]
  rcases owAq_lv hd hl2 hh e2 e3 e4 (owNb 84 n t) (owNb l n t) with ⟨q1, q2⟩ | ⟨q1, _, q2, _⟩
  · rw [q1, q2]
  · exact ⟨fun q => ⟨q1, q.2⟩, fun q => ⟨q2, q.2⟩⟩
theorem owXf_lv {me : Int} (hl : l / 12 % 15 = 7) (hl2 : 0 ≤ l ∧ l ≤ 4499) (hc : c = l + 12 * h) (hh : -7 ≤ h ∧ h ≤ 7) (hd : owDg n st) {t : Int} (hx : owXk l n st t) : owXf me c n st t = owFm (owXa l n st t + h) (owWa (owXa l n st (t - 1)) h) (owXm me l n st t) := by
  obtain ⟨e1, e2, e3, e4, e5, e6, -⟩ := owLv_c hl hc hh hl2.1
  have hx0 := hx.1
  have ex : owXa c n st t = owXa l n st t + h ∧ (0 ≤ owNb l n t ∧ owNb l n t < n) := by
    unfold owXa
    rw [owNb_lv (n := n) e1 e5 e6 t]
    rcases owAq_lv hd hl2 hh e2 e3 e4 (owNb 84 n t) (owNb l n t) with ⟨q1, _⟩ | ⟨_, q1, _, q2⟩
    · exact absurd q1 hx0
    · exact ⟨q1, q2⟩
  have ew : owWa (owXa c n st (t - 1)) 0 = owWa (owXa l n st (t - 1)) h := by
    unfold owXa
    rw [owNb_lv (n := n) e1 e5 e6 (t - 1)]
    unfold owWa
    rcases owAq_lv hd hl2 hh e2 e3 e4 (owNb 84 n (t - 1)) (owNb l n (t - 1)) with ⟨q1, q2⟩ | ⟨q1, q2, q3, _⟩
    · rw [if_pos q1, if_pos q2]
    · rw [if_neg q1, if_neg q3, q2, Int.add_zero]
  have em : owXm me c n st t = owXm me l n st t := by
    unfold owXm owXl
    rw [owNb_lv (n := n) e1 e5 e6 t, owNb_lv (n := n) e1 e5 e6 (t - 1), owNb_lv (n := n) e1 e5 e6 (t + 1), owRq_lv e2 e3 e4 hd hl2 hh ex.2]
    rcases owAq_lv hd hl2 hh e2 e3 e4 (owNb 84 n (t + 1)) (owNb l n (t + 1)) with ⟨q1, q2⟩ | ⟨q1, _, q2, _⟩
    · rw [if_pos q1, if_pos q2]
    · rw [if_neg q1, if_neg q2]
  unfold owXf
  rw [ex.1, ew, em]
theorem owAg_lv {R : Int} {W : Nat → List Int} {me : Int} {s : oS} (hq : owHq me l n st s) (hl : l / 12 % 15 = 7) (hl2 : 0 ≤ l ∧ l ≤ 4499) (hc : c = l + 12 * h) (hh : -7 ≤ h ∧ h ≤ 7) (hd : owDg n st) : owGd R W h s ↔ owAg R W me c n st := by
  obtain ⟨e1, e2, e3, e4, e5, e6, -⟩ := owLv_c hl hc hh hl2.1
  have ed : ∀ k i, owXk l n st k → owVals me l n st k i s → owDf s i h = owXf me c n st k := fun k i hx q => by
    rw [owXf_lv hl hl2 hc hh hd hx]
    unfold owDf
    rw [q.1, q.2.1, q.2.2]
  unfold owGd owAg
  rw [e1, owSp_lv (n := n) e1 e6]
  constructor
  · intro h1 k a b d f
    have f' := (owXk_lv hl hl2 hc hh hd k).mp f
    obtain ⟨i, q1, q2⟩ := hq.2 k a b d f'
    rw [← ed k i f' q2]
    exact h1 i q1
  · intro h1 i hi
    obtain ⟨k, q1, q2, q3, q4, q5⟩ := hq.1 i hi
    rw [ed k i q4 q5]
    exact h1 k q1 q2 q3 ((owXk_lv hl hl2 hc hh hd k).mpr q4)
end LV
